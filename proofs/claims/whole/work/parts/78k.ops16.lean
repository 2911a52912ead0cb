/-! round -/
def sqB (P N : Nat → Int32) (k : Nat) : Bool := decide (vaN P k = vaN N k) && decide (tuN P k = tuN N k)
def saB (P N : Nat → Int32) : Nat → Bool
  | 0 => true
  | k + 1 => saB P N k && sqB P N k
theorem sa_t {P N : Nat → Int32} : ∀ n, (∀ k, k < n → sqB P N k = true) → saB P N n = true := by
  intro n
  induction n with
  | zero => intro _; rfl
  | succ n ih =>
    intro h
    show (saB P N n && sqB P N n) = true
    rw [ih (fun k hk => h k (by omega)), h n (by omega)]; rfl
theorem sa_f {P N : Nat → Int32} {m : Nat} (h : sqB P N m = false) : ∀ n, m < n → saB P N n = false := by
  intro n
  induction n with
  | zero => intro z; omega
  | succ n ih =>
    intro hm
    show (saB P N n && sqB P N n) = false
    by_cases c : m = n
    · subst c; rw [h, Bool.and_false]
    · rw [ih (by omega), Bool.false_and]
theorem x_same {K : Mem} {P N : Nat → Int32} (h13 : ShR 13 K P) (h1 : ShR 1 K N) (hw : Wf P) : mi_X2_standsAndTurnsAs 13 1 K = some (if saB P N (nH P) = true then 1 else 0, K) := by
  have h8 := hw.2.1
  unfold mi_X2_standsAndTurnsAs pi_X2_standsAndTurnsAs_e
  have st : ∀ k rec, k < nH P → pi_X2_standsAndTurnsAs_2 13 1 rec (nI k) K = if sqB P N k = true then rec (nI (k + 1), K) else some (0, K) := by
    intro k rec hk
    unfold pi_X2_standsAndTurnsAs_2 sqB
    obtain ⟨-, a1, -, a3, -, -⟩ := h13.2.2.2.2.2 k (by omega)
    obtain ⟨-, b1, -, b3, -, -⟩ := h1.2.2.2.2.2 k (by omega)
    rw [h13.2.2.2.1, hw.1, if_neg (nI_ge hk (by omega)), inb_nI (show k < 8 by omega) (by decide), gd_t, gd_t, gd_t, gd_t, nI_clamp (by omega), a1, b1, a3, b3, isB0, gd_t, bI_e, nI_1]
    by_cases c1 : vaN P k = vaN N k
    · rw [if_pos c1, decide_eq_true c1]
      by_cases c2 : tuN P k = tuN N k
      · rw [if_pos c2, decide_eq_true c2]; rfl
      · rw [if_neg c2, decide_eq_false c2]; rfl
    · rw [if_neg c1, decide_eq_false c1]; rfl
  obtain ⟨r, hr⟩ := is_f (fun k => !(sqB P N k)) (nH P)
  rcases hr with ⟨m, q1, q2, q3, -⟩ | ⟨q1, -⟩
  · have q2' : sqB P N m = false := by simpa using q2
    rw [sa_f q2' _ q1, if_f]
    exact lp_cnt (G := pi_X2_standsAndTurnsAs_2 13 1) m (by omega) (fun k hk rec => by
      have : sqB P N k = true := by simpa using q3 k hk
      rw [st k rec (by omega), this, if_t]) (fun rec => by rw [st m rec q1, q2', if_f])
  · have q1' : ∀ k, k < nH P → sqB P N k = true := fun k hk => by simpa using q1 k hk
    rw [sa_t _ q1', if_t]
    exact lp_cnt (G := pi_X2_standsAndTurnsAs_2 13 1) (nH P) (by omega) (fun k hk rec => by rw [st k rec hk, q1' k hk, if_t]) (fun rec => by
      unfold pi_X2_standsAndTurnsAs_2
      rw [h13.2.2.2.1, hw.1, if_pos (Int32.le_refl _), isB1, gd_t])
theorem m_same {M A : Mem} {k : Nat} (hA : TrI M k A) (hw : Wf (M 50)) : mi_X4_isAsAside A = some (if saB (itN (M 50) k) (M 50) (nH (M 50)) = true then 1 else 0, A) := by
  have h8 := hw.2.1
  have wA := hA.wf hw
  have nA : nH (A 50) = nH (M 50) := by rw [hA.1, nH_it]
  have e1 : A 50 1 = nI (nH (M 50)) := by rw [wA.1, nA]
  unfold mi_X4_isAsAside pi_X4_isAsAside_e
  refine lp_acc (G := pi_X4_isAsAside_4) (fun j => if saB (itN (M 50) k) (M 50) j = true then 1 else 0) (nH (M 50)) (by omega) rfl (fun j hj rec => ?_) (fun rec => ?_)
  · unfold pi_X4_isAsAside_4
    have s1 : A 52 (14 + 6 * j + 1) = vaN (M 50) j := hA.2.1 _ (by omega)
    have s3 : A 52 (14 + 6 * j + 3) = tuN (M 50) j := hA.2.1 _ (by omega)
    have t1 : A 50 (14 + 6 * j + 1) = vaN (itN (M 50) k) j := by rw [hA.1]; rfl
    have t3 : A 50 (14 + 6 * j + 3) = tuN (itN (M 50) k) j := by rw [hA.1]; rfl
    rw [in1_62, gd_t, tN1, e1, if_neg (nI_ge hj (by omega)), md_atf _ 1 (f := 1) rfl, bd_s, inb_nI (show 14 + 6 * j + 1 < 62 by omega) (by decide), gd_t, md_atf _ 1 (f := 1) rfl, bd_s, inb_nI (show 14 + 6 * j + 1 < 62 by omega) (by decide), gd_t, nI_clamp (by omega), s1, t1, md_atf _ 3 (f := 3) rfl, bd_s, inb_nI (show 14 + 6 * j + 3 < 62 by omega) (by decide), gd_t, md_atf _ 3 (f := 3) rfl, bd_s, inb_nI (show 14 + 6 * j + 3 < 62 by omega) (by decide), gd_t, nI_clamp (by omega), s3, t3]
    simp only [bI_e, nI_1]
    show _ = rec (if (saB (itN (M 50) k) (M 50) j && sqB (itN (M 50) k) (M 50) j) = true then 1 else 0, nI (j + 1), A)
    unfold sqB
    cases saB (itN (M 50) k) (M 50) j with
    | false => rfl
    | true =>
      rw [if_t, if_neg (show ¬ (1 : Int32) = 0 by decide)]
      by_cases c1 : vaN (itN (M 50) k) j = vaN (M 50) j
      · rw [if_pos c1, decide_eq_true c1]
        by_cases c2 : tuN (itN (M 50) k) j = tuN (M 50) j
        · rw [if_pos c2, decide_eq_true c2]; rfl
        · rw [if_neg c2, decide_eq_false c2]; rfl
      · rw [if_neg c1, decide_eq_false c1]; rfl
  · unfold pi_X4_isAsAside_4
    rw [in1_62, gd_t, tN1, e1, if_pos (Int32.le_refl _), isB_if, gd_t]
