/-! text: the tape, token by token -/
def ruN (P : Nat → Bool) : Nat → Nat → Nat
  | 0, e => e
  | f + 1, e => if P e = true then ruN P f (e + 1) else e
theorem ru_ok (P : Nat → Bool) : ∀ f e, e ≤ ruN P f e ∧ ruN P f e ≤ e + f ∧ (∀ i, e ≤ i → i < ruN P f e → P i = true) ∧ (ruN P f e = e + f ∨ P (ruN P f e) = false) := by
  intro f
  induction f with
  | zero => intro e; exact ⟨Nat.le_refl _, Nat.le_refl _, fun i h1 h2 => absurd h2 (by show ¬ i < e; omega), Or.inl rfl⟩
  | succ f ih =>
    intro e
    cases h : P e with
    | false =>
      have E : ruN P (f + 1) e = e := by
        show (if P e = true then _ else _) = _
        rw [h, if_f]
      rw [E]
      exact ⟨Nat.le_refl _, by omega, fun i h1 h2 => absurd h2 (by omega), Or.inr h⟩
    | true =>
      have E : ruN P (f + 1) e = ruN P f (e + 1) := by
        show (if P e = true then _ else _) = _
        rw [h, if_t]
      obtain ⟨i1, i2, i3, i4⟩ := ih (e + 1)
      rw [E]
      refine ⟨by omega, by omega, fun i h1 h2 => ?_, ?_⟩
      · by_cases c : i = e
        · subst c; exact h
        · exact i3 i (by omega) h2
      · rcases i4 with a | a
        · exact Or.inl (by omega)
        · exact Or.inr a
def spB (T : Nat → Int32) (i : Nat) : Bool := decide (T i = 32)
def leB (T : Nat → Int32) (i : Nat) : Bool := inR (T i) 97 122
def diB (T : Nat → Int32) (i : Nat) : Bool := inR (T i) 48 57
def tkS (T : Nat → Int32) (t e : Nat) : Nat := ruN (spB T) (t - e) e
def tkK (T : Nat → Int32) (t s : Nat) : Nat := if s < t then (if leB T s = true then 1 else if diB T s = true then 2 else 3) else 0
def tkE (T : Nat → Int32) (t s : Nat) : Nat := if s < t then (if leB T s = true then ruN (leB T) (t - s) s else if diB T s = true then ruN (diB T) (t - s) s else s + 1) else s
def tkV (T : Nat → Int32) (s : Nat) : Nat → Int32
  | 0 => 0
  | k + 1 => if tkV T s k * 10 + T (s + k) - 48 < 1000 then tkV T s k * 10 + T (s + k) - 48 else 1000
def tkN (T : Nat → Int32) (t s : Nat) : Int32 := tkV T s (tkE T t s - s)
def nxT (T : Nat → Int32) (t s : Nat) : Nat := tkS T t (tkE T t s)
def k5T (T : Nat → Int32) (t s : Nat) : Nat := if tkK T t s = 3 then (if T s = 59 then 3 else if T s = 45 then 4 else 5) else tkK T t s
theorem tkS_b {T : Nat → Int32} {t e : Nat} (h : e ≤ t) : e ≤ tkS T t e ∧ tkS T t e ≤ t := by
  obtain ⟨a, b, -, -⟩ := ru_ok (spB T) (t - e) e
  unfold tkS
  omega
theorem tkE_b {T : Nat → Int32} {t s : Nat} (h : s ≤ t) : s ≤ tkE T t s ∧ tkE T t s ≤ t := by
  unfold tkE
  by_cases c : s < t
  · rw [if_pos c]
    cases leB T s with
    | true =>
      obtain ⟨a, b, -, -⟩ := ru_ok (leB T) (t - s) s
      rw [if_t]; omega
    | false =>
      rw [if_f]
      cases diB T s with
      | true =>
        obtain ⟨a, b, -, -⟩ := ru_ok (diB T) (t - s) s
        rw [if_t]; omega
      | false => rw [if_f]; omega
  · rw [if_neg c]; omega
theorem ru_lt {P : Nat → Bool} {t s : Nat} (h : s < t) (p : P s = true) : s < ruN P (t - s) s := by
  obtain ⟨f, hf⟩ : ∃ f, t - s = f + 1 := ⟨t - s - 1, by omega⟩
  rw [hf]
  show s < (if P s = true then ruN P f (s + 1) else s)
  rw [p, if_t]
  have := (ru_ok P f (s + 1)).1
  omega
theorem tkE_lt {T : Nat → Int32} {t s : Nat} (h : s < t) : s < tkE T t s := by
  unfold tkE
  rw [if_pos h]
  cases c1 : leB T s with
  | true => rw [if_t]; exact ru_lt h c1
  | false =>
    rw [if_f]
    cases c2 : diB T s with
    | true => rw [if_t]; exact ru_lt h c2
    | false => rw [if_f]; omega
theorem nx_b {T : Nat → Int32} {t s : Nat} (h : s ≤ t) : s ≤ nxT T t s ∧ nxT T t s ≤ t := by
  have a := tkE_b (T := T) h
  have b := tkS_b (T := T) a.2
  unfold nxT
  omega
theorem nx_lt {T : Nat → Int32} {t s : Nat} (h : s < t) : s < nxT T t s := by
  have a := tkE_lt (T := T) h
  have b := tkS_b (T := T) (tkE_b (T := T) (Nat.le_of_lt h)).2
  unfold nxT
  omega
theorem tkK_4 {T : Nat → Int32} {t s : Nat} : tkK T t s < 4 := by
  unfold tkK
  by_cases c : s < t
  · rw [if_pos c]
    cases leB T s with
    | true => rw [if_t]; decide
    | false =>
      rw [if_f]
      cases diB T s with
      | true => rw [if_t]; decide
      | false => rw [if_f]; decide
  · rw [if_neg c]; decide
theorem tkV_b {T : Nat → Int32} {s : Nat} : ∀ n, (∀ k, k < n → diB T (s + k) = true) → 0 ≤ (tkV T s n).toInt ∧ (tkV T s n).toInt ≤ 1000 := by
  intro n
  induction n with
  | zero => intro _; show 0 ≤ (0 : Int32).toInt ∧ (0 : Int32).toInt ≤ 1000; decide
  | succ n ih =>
    intro h
    obtain ⟨i1, i2⟩ := ih (fun k hk => h k (by omega))
    have d := inR_iff.mp (h n (by omega))
    have e48 : (48 : Int32).toInt = 48 := by decide
    have e57 : (57 : Int32).toInt = 57 := by decide
    have e10 : (10 : Int32).toInt = 10 := by decide
    have eK : (1000 : Int32).toInt = 1000 := by decide
    have m1 : (tkV T s n * 10).toInt = (tkV T s n).toInt * 10 := by rw [z_mul (by rw [e10]; omega) (by rw [e10]; omega), e10]
    have m2 : (tkV T s n * 10 + T (s + n)).toInt = (tkV T s n).toInt * 10 + (T (s + n)).toInt := by rw [z_add (by omega) (by omega), m1]
    have m3 : (tkV T s n * 10 + T (s + n) - 48).toInt = (tkV T s n).toInt * 10 + (T (s + n)).toInt - 48 := by rw [z_sub (by omega) (by omega), m2, e48]
    by_cases c : tkV T s n * 10 + T (s + n) - 48 < 1000
    · rw [show tkV T s (n + 1) = tkV T s n * 10 + T (s + n) - 48 from if_pos c]
      rw [i_lt, m3, eK] at c
      omega
    · rw [show tkV T s (n + 1) = 1000 from if_neg c]; omega
theorem tkN_b {T : Nat → Int32} {t s : Nat} (h : tkK T t s = 2) : 0 ≤ (tkN T t s).toInt ∧ (tkN T t s).toInt ≤ 1000 := by
  unfold tkK at h
  by_cases c : s < t
  · rw [if_pos c] at h
    cases c1 : leB T s with
    | true => rw [c1, if_t] at h; omega
    | false =>
      rw [c1, if_f] at h
      cases c2 : diB T s with
      | false => rw [c2, if_f] at h; omega
      | true =>
        unfold tkN tkE
        rw [if_pos c, c1, if_f, c2, if_t]
        obtain ⟨a, b, d, -⟩ := ru_ok (diB T) (t - s) s
        exact tkV_b _ (fun k hk => d (s + k) (by omega) (by omega))
  · rw [if_neg c] at h; omega
/-! the class's reader -/
def Tp (T : Nat → Int32) (t : Nat) : Prop := t ≤ 120 ∧ ∀ j, j < 120 → inb (T j) 256 = true
def LxX (T : Nat → Int32) (t s : Nat) (K : Mem) : Prop := s ≤ t ∧ K 37 1 = nI t ∧ K 37 2 = nI s ∧ K 37 3 = nI (tkE T t s) ∧ K 37 4 = nI (k5T T t s) ∧ (tkK T t s = 2 → K 37 5 = tkN T t s) ∧ ∀ j, j < 120 → K 38 j = T j
theorem LxX.cg {T : Nat → Int32} {t s : Nat} {K L : Mem} (h : LxX T t s K) (e7 : L 37 = K 37) (e8 : L 38 = K 38) : LxX T t s L := by
  unfold LxX
  rw [e7, e8]; exact h
theorem x_let (v : Int32) (M : Mem) : mi_X0_isLetter v M = some (if inR v 97 122 = true then 1 else 0, M) := by
  unfold mi_X0_isLetter pi_X0_isLetter_e inR
  rw [isB0, isB1, gd_t, gd_t]
  by_cases h1 : v < 97
  · rw [if_pos h1, decide_eq_false (fun z => absurd h1 (nlt_le.mpr z))]; rfl
  · rw [if_neg h1, decide_eq_true (nlt_le.mp h1)]
    by_cases h2 : 122 < v
    · rw [if_pos h2, decide_eq_false (fun z => absurd h2 (nlt_le.mpr z))]; rfl
    · rw [if_neg h2, decide_eq_true (nlt_le.mp h2)]; rfl
theorem x_dig (v : Int32) (M : Mem) : mi_X0_isDigit v M = some (if inR v 48 57 = true then 1 else 0, M) := by
  unfold mi_X0_isDigit pi_X0_isDigit_e inR
  rw [isB0, isB1, gd_t, gd_t]
  by_cases h1 : v < 48
  · rw [if_pos h1, decide_eq_false (fun z => absurd h1 (nlt_le.mpr z))]; rfl
  · rw [if_neg h1, decide_eq_true (nlt_le.mp h1)]
    by_cases h2 : 57 < v
    · rw [if_pos h2, decide_eq_false (fun z => absurd h2 (nlt_le.mpr z))]; rfl
    · rw [if_neg h2, decide_eq_true (nlt_le.mp h2)]; rfl
theorem up_e {K : Mem} {c i j : Nat} {v : Int32} : up K c i v c j = if j = i then v else K c j := by
  rw [up_s]
  by_cases h : j = i
  · rw [if_pos h, h, upd_s]
  · rw [if_neg h, upd_o h]
theorem x_letters {T : Nat → Int32} {t s : Nat} {B : Mem} (ht : t ≤ 120) (hs : s ≤ t) (b1 : B 37 1 = nI t) (b3 : B 37 3 = nI s) (bt : ∀ j, j < 120 → B 38 j = T j) : ∃ L : Mem, mi_X0_takeLetters B = some L ∧ L 37 3 = nI (ruN (leB T) (t - s) s) ∧ (∀ j, j ≠ 3 → L 37 j = B 37 j) ∧ ∀ a, a ≠ 37 → L a = B a := by
  have E : mi_X0_takeLetters B = lp (fun rc0 x => pi_X0_takeLetters_0 rc0 x) (FU + 1) B := rfl
  obtain ⟨r1, r2, r3, r4⟩ := ru_ok (leB T) (t - s) s
  generalize ruN (leB T) (t - s) s = e at *
  rw [E]
  refine lp_inv (I := fun j (zx : Mem) => zx 37 3 = nI (s + j) ∧ (∀ i, i ≠ 3 → zx 37 i = B 37 i) ∧ ∀ a, a ≠ 37 → zx a = B a) (Post := fun (zo : Option Mem) => ∃ L : Mem, zo = some L ∧ L 37 3 = nI e ∧ (∀ j, j ≠ 3 → L 37 j = B 37 j) ∧ ∀ a, a ≠ 37 → L a = B a) (e - s) ?_ ?_ (FU + 1) (Nat.lt_succ_of_lt (FU_le (by omega))) B ⟨b3, fun _ _ => rfl, fun _ _ => rfl⟩
  · intro j hj zx hI rec
    obtain ⟨i1, i2, i3⟩ := hI
    refine ⟨up zx 37 3 (nI (s + j + 1)), ⟨by rw [up_e, if_pos rfl]; rfl, fun i hi => by rw [up_e, if_neg hi]; exact i2 i hi, fun a ha => by rw [up_o ha]; exact i3 a ha⟩, ?_⟩
    show pi_X0_takeLetters_0 rec zx = _
    unfold pi_X0_takeLetters_0
    rw [i2 1 (by decide), b1, i1, if_neg (nI_ge (show s + j < t by omega) (by omega)), inb_nI (show s + j < 120 by omega) (by decide), gd_t, nI_clamp (by omega), i3 38 (by decide), bt _ (by omega), x_let, bd_s, show inR (T (s + j)) 97 122 = true from r3 (s + j) (by omega) (by omega), if_t, if_neg (by decide), bM_e, i1, nI_1]
  · intro zx hI rec
    obtain ⟨i1, i2, i3⟩ := hI
    rw [show s + (e - s) = e by omega] at i1
    refine ⟨zx, ?_, i1, i2, i3⟩
    show pi_X0_takeLetters_0 rec zx = _
    unfold pi_X0_takeLetters_0
    rw [i2 1 (by decide), b1, i1]
    by_cases c : e < t
    · rcases r4 with z | z
      · omega
      · rw [if_neg (nI_ge c (by omega)), inb_nI (show e < 120 by omega) (by decide), gd_t, nI_clamp (by omega), i3 38 (by decide), bt _ (by omega), x_let, bd_s, show inR (T e) 97 122 = false from z, if_f, if_pos rfl]
    · have : e = t := by omega
      subst this
      rw [if_pos (Int32.le_refl _)]
theorem x_digits {T : Nat → Int32} {t s : Nat} {B : Mem} (ht : t ≤ 120) (hs : s ≤ t) (b1 : B 37 1 = nI t) (b3 : B 37 3 = nI s) (bt : ∀ j, j < 120 → B 38 j = T j) : ∃ L : Mem, mi_X0_takeDigits B = some L ∧ L 37 3 = nI (ruN (diB T) (t - s) s) ∧ L 37 5 = tkV T s (ruN (diB T) (t - s) s - s) ∧ (∀ j, j ≠ 3 → j ≠ 5 → L 37 j = B 37 j) ∧ ∀ a, a ≠ 37 → L a = B a := by
  unfold mi_X0_takeDigits pi_X0_takeDigits_e
  rw [bM_e]
  obtain ⟨r1, r2, r3, r4⟩ := ru_ok (diB T) (t - s) s
  generalize ruN (diB T) (t - s) s = e at *
  refine lp_inv (I := fun j (zx : Mem) => zx 37 3 = nI (s + j) ∧ zx 37 5 = tkV T s j ∧ (∀ i, i ≠ 3 → i ≠ 5 → zx 37 i = B 37 i) ∧ ∀ a, a ≠ 37 → zx a = B a) (Post := fun (zo : Option Mem) => ∃ L : Mem, zo = some L ∧ L 37 3 = nI e ∧ L 37 5 = tkV T s (e - s) ∧ (∀ j, j ≠ 3 → j ≠ 5 → L 37 j = B 37 j) ∧ ∀ a, a ≠ 37 → L a = B a) (e - s) ?_ ?_ FU (FU_le (by omega)) (up B 37 5 0) ⟨by rw [up_e, if_neg (by decide)]; exact b3, by rw [up_e, if_pos rfl]; rfl, fun i h1 h2 => by rw [up_e, if_neg h2], fun a ha => up_o ha⟩
  · intro j hj zx hI rec
    obtain ⟨i1, i5, i2, i3⟩ := hI
    refine ⟨up (up zx 37 5 (tkV T s (j + 1))) 37 3 (nI (s + j + 1)), ⟨by rw [up_e, if_pos rfl]; rfl, by rw [up_e, if_neg (by decide), up_e, if_pos rfl], fun i h1 h2 => by rw [up_e, if_neg h1, up_e, if_neg h2]; exact i2 i h1 h2, fun a ha => by rw [up_o ha, up_o ha]; exact i3 a ha⟩, ?_⟩
    show pi_X0_takeDigits_5 rec zx = _
    unfold pi_X0_takeDigits_5
    rw [i2 1 (by decide) (by decide), b1, i1, if_neg (nI_ge (show s + j < t by omega) (by omega)), inb_nI (show s + j < 120 by omega) (by decide), gd_t, nI_clamp (by omega), i3 38 (by decide), bt _ (by omega), x_dig, bd_s, show inR (T (s + j)) 48 57 = true from r3 (s + j) (by omega) (by omega), if_t, if_neg (by decide), i1, inb_nI (show s + j < 120 by omega) (by decide), gd_t, bM_e, bM_e, nI_clamp (by omega), i3 38 (by decide), bt _ (by omega), i5, up_e, if_neg (show ¬ (3 : Nat) = 5 by decide), i1, nI_1]
    rfl
  · intro zx hI rec
    obtain ⟨i1, i5, i2, i3⟩ := hI
    rw [show s + (e - s) = e by omega] at i1
    refine ⟨zx, ?_, i1, i5, i2, i3⟩
    show pi_X0_takeDigits_5 rec zx = _
    unfold pi_X0_takeDigits_5
    rw [i2 1 (by decide) (by decide), b1, i1]
    by_cases c : e < t
    · rcases r4 with z | z
      · omega
      · rw [if_neg (nI_ge c (by omega)), inb_nI (show e < 120 by omega) (by decide), gd_t, nI_clamp (by omega), i3 38 (by decide), bt _ (by omega), x_dig, bd_s, show inR (T e) 48 57 = false from z, if_f, if_pos rfl]
    · have : e = t := by omega
      subst this
      rw [if_pos (Int32.le_refl _)]
theorem x_sign (v : Int32) (M : Mem) : mi_X0_signOf v M = some (nI (if v = 59 then 3 else if v = 45 then 4 else 5), M) := by
  unfold mi_X0_signOf pi_X0_signOf_e
  by_cases c1 : v = 59
  · rw [if_pos c1, if_pos c1]; rfl
  · rw [if_neg c1, if_neg c1]
    by_cases c2 : v = 45
    · rw [if_pos c2, if_pos c2]; rfl
    · rw [if_neg c2, if_neg c2]; rfl
theorem x_46 {T : Nat → Int32} {t s : Nat} {K : Mem} (ht : t ≤ 120) (hs : s ≤ t) (k1 : K 37 1 = nI t) (k2 : K 37 2 = nI s) (kt : ∀ j, j < 120 → K 38 j = T j) : ∃ L : Mem, pi_X0_advance_46 K = some L ∧ LxX T t s L ∧ ∀ a, a ≠ 37 → L a = K a := by
  unfold pi_X0_advance_46
  rw [bM_e]
  have a1 : up K 37 3 (K 37 2) 37 1 = nI t := by rw [up_e, if_neg (by decide)]; exact k1
  have a2 : up K 37 3 (K 37 2) 37 2 = nI s := by rw [up_e, if_neg (by decide)]; exact k2
  have a3 : up K 37 3 (K 37 2) 37 3 = nI s := by rw [up_e, if_pos rfl]; exact k2
  have a8 : up K 37 3 (K 37 2) 38 = K 38 := up_o (by decide)
  have ao : ∀ a, a ≠ 37 → up K 37 3 (K 37 2) a = K a := fun a ha => up_o ha
  generalize up K 37 3 (K 37 2) = A at *
  rw [a1, a2]
  by_cases c : s < t
  · rw [if_pos (show nI s < nI t by rw [i_lt, nI_toInt (by omega), nI_toInt (by omega)]; omega), inb_nI (show s < 120 by omega) (by decide), gd_t, nI_clamp (by omega), a8, kt s (by omega), x_let, bd_s, if10, a2, inb_nI (show s < 120 by omega) (by decide), gd_t, nI_clamp (by omega), a8, kt s (by omega), x_dig, bd_s, if10, a2, inb_nI (show s < 120 by omega) (by decide), gd_t, nI_clamp (by omega), a8, kt s (by omega), x_sign, bd_s, bM_e, bM_e, bM_e, bM_e]
    cases c1 : inR (T s) 97 122 with
    | true =>
      rw [if_t]
      have ek : tkK T t s = 1 := by unfold tkK leB; rw [if_pos c, c1, if_t]
      have ee : tkE T t s = ruN (leB T) (t - s) s := by
        unfold tkE
        rw [if_pos c, show leB T s = true from c1, if_t]
      obtain ⟨L, l1, l2, l3, l4⟩ := x_letters (T := T) (t := t) (s := s) (B := up A 37 4 1) ht hs (by rw [up_e, if_neg (by decide)]; exact a1) (by rw [up_e, if_neg (by decide)]; exact a3) (fun j hj => by rw [up_o (by decide), a8]; exact kt j hj)
      refine ⟨L, by rw [l1, bv_s], ⟨hs, ?_, ?_, ?_, ?_, ?_, ?_⟩, fun a ha => by rw [l4 a ha, up_o ha]; exact ao a ha⟩
      · rw [l3 1 (by decide), up_e, if_neg (by decide)]; exact a1
      · rw [l3 2 (by decide), up_e, if_neg (by decide)]; exact a2
      · rw [l2, ee]
      · rw [l3 4 (by decide), up_e, if_pos rfl]; unfold k5T; rw [ek]; rfl
      · rw [ek]; intro z; cases z
      · intro j hj; rw [l4 38 (by decide), up_o (by decide), a8]; exact kt j hj
    | false =>
      rw [if_f]
      cases c2 : inR (T s) 48 57 with
      | true =>
        rw [if_t]
        have ek : tkK T t s = 2 := by unfold tkK leB diB; rw [if_pos c, c1, if_f, c2, if_t]
        have ee : tkE T t s = ruN (diB T) (t - s) s := by
          unfold tkE
          rw [if_pos c, show leB T s = false from c1, if_f, show diB T s = true from c2, if_t]
        obtain ⟨L, l1, l2, l5, l3, l4⟩ := x_digits (T := T) (t := t) (s := s) (B := up A 37 4 2) ht hs (by rw [up_e, if_neg (by decide)]; exact a1) (by rw [up_e, if_neg (by decide)]; exact a3) (fun j hj => by rw [up_o (by decide), a8]; exact kt j hj)
        refine ⟨L, by rw [l1, bv_s], ⟨hs, ?_, ?_, ?_, ?_, ?_, ?_⟩, fun a ha => by rw [l4 a ha, up_o ha]; exact ao a ha⟩
        · rw [l3 1 (by decide) (by decide), up_e, if_neg (by decide)]; exact a1
        · rw [l3 2 (by decide) (by decide), up_e, if_neg (by decide)]; exact a2
        · rw [l2, ee]
        · rw [l3 4 (by decide) (by decide), up_e, if_pos rfl]; unfold k5T; rw [ek]; rfl
        · intro _; rw [l5]; unfold tkN; rw [ee]
        · intro j hj; rw [l4 38 (by decide), up_o (by decide), a8]; exact kt j hj
      | false =>
        rw [if_f]
        have ek : tkK T t s = 3 := by unfold tkK leB diB; rw [if_pos c, c1, if_f, c2, if_f]
        have ee : tkE T t s = s + 1 := by
          unfold tkE
          rw [if_pos c, show leB T s = false from c1, if_f, show diB T s = false from c2, if_f]
        refine ⟨_, rfl, ⟨hs, ?_, ?_, ?_, ?_, ?_, ?_⟩, fun a ha => by rw [up_o ha, up_o ha]; exact ao a ha⟩
        · rw [up_e, if_neg (by decide), up_e, if_neg (by decide)]; exact a1
        · rw [up_e, if_neg (by decide), up_e, if_neg (by decide)]; exact a2
        · rw [up_e, if_pos rfl, up_e, if_neg (by decide), a2, ee, nI_1]
        · rw [up_e, if_neg (by decide), up_e, if_pos rfl]; unfold k5T; rw [ek, if_pos rfl]
        · rw [ek]; intro z; cases z
        · intro j hj; rw [up_o (by decide), up_o (by decide), a8]; exact kt j hj
  · have e0 : s = t := by omega
    have ek : tkK T t s = 0 := by unfold tkK; rw [if_neg c]
    have ee : tkE T t s = s := by unfold tkE; rw [if_neg c]
    rw [if_neg (show ¬ nI s < nI t by rw [i_lt, nI_toInt (by omega), nI_toInt (by omega)]; omega), bM_e]
    refine ⟨_, rfl, ⟨hs, ?_, ?_, ?_, ?_, ?_, ?_⟩, fun a ha => by rw [up_o ha]; exact ao a ha⟩
    · rw [up_e, if_neg (by decide)]; exact a1
    · rw [up_e, if_neg (by decide)]; exact a2
    · rw [up_e, if_neg (by decide), a3, ee]
    · rw [up_e, if_pos rfl]; unfold k5T; rw [ek]; rfl
    · rw [ek]; intro z; cases z
    · intro j hj; rw [up_o (by decide), a8]; exact kt j hj
theorem x_adv {T : Nat → Int32} {t e : Nat} {K : Mem} (ht : t ≤ 120) (he : e ≤ t) (k1 : K 37 1 = nI t) (k3 : K 37 3 = nI e) (kt : ∀ j, j < 120 → K 38 j = T j) : ∃ L : Mem, mi_X0_advance K = some L ∧ LxX T t (tkS T t e) L ∧ ∀ a, a ≠ 37 → L a = K a := by
  unfold mi_X0_advance pi_X0_advance_e tkS
  rw [bM_e]
  obtain ⟨r1, r2, r3, r4⟩ := ru_ok (spB T) (t - e) e
  generalize ruN (spB T) (t - e) e = s at *
  refine lp_inv (I := fun j (zx : Mem) => zx 37 1 = nI t ∧ zx 37 2 = nI (e + j) ∧ ∀ a, a ≠ 37 → zx a = K a) (Post := fun (zo : Option Mem) => ∃ L : Mem, zo = some L ∧ LxX T t s L ∧ ∀ a, a ≠ 37 → L a = K a) (s - e) ?_ ?_ FU (FU_le (by omega)) (up K 37 2 (K 37 3)) ⟨by rw [up_e, if_neg (by decide)]; exact k1, by rw [up_e, if_pos rfl]; exact k3, fun a ha => up_o ha⟩
  · intro j hj zx hI rec
    obtain ⟨i1, i2, i3⟩ := hI
    refine ⟨up zx 37 2 (nI (e + j + 1)), ⟨by rw [up_e, if_neg (by decide)]; exact i1, by rw [up_e, if_pos rfl]; rfl, fun a ha => by rw [up_o ha]; exact i3 a ha⟩, ?_⟩
    show pi_X0_advance_8 rec zx = _
    unfold pi_X0_advance_8
    rw [i1, i2, if_neg (nI_ge (show e + j < t by omega) (by omega)), inb_nI (show e + j < 120 by omega) (by decide), gd_t, nI_clamp (by omega), i3 38 (by decide), kt _ (by omega), if_pos (of_decide_eq_true (r3 (e + j) (by omega) (by omega))), bM_e, nI_1]
  · intro zx hI rec
    obtain ⟨i1, i2, i3⟩ := hI
    rw [show e + (s - e) = s by omega] at i2
    obtain ⟨L, l1, l2, l3⟩ := x_46 (T := T) (t := t) (s := s) (K := zx) ht (by omega) i1 i2 (fun j hj => by rw [i3 38 (by decide)]; exact kt j hj)
    refine ⟨L, ?_, l2, fun a ha => by rw [l3 a ha]; exact i3 a ha⟩
    show pi_X0_advance_8 rec zx = _
    unfold pi_X0_advance_8
    rw [i1, i2]
    by_cases c : s < t
    · rcases r4 with z | z
      · omega
      · rw [if_neg (nI_ge c (by omega)), inb_nI (show s < 120 by omega) (by decide), gd_t, nI_clamp (by omega), i3 38 (by decide), kt _ (by omega), if_neg (of_decide_eq_false z)]
        exact l1
    · have : s = t := by omega
      subst this
      rw [if_pos (Int32.le_refl _)]
      exact l1
/-- one token on -/
theorem LxX.nx {T : Nat → Int32} {t s : Nat} {K : Mem} (h : LxX T t s K) (ht : t ≤ 120) : ∃ L : Mem, mi_X0_advance K = some L ∧ LxX T t (nxT T t s) L ∧ ∀ a, a ≠ 37 → L a = K a :=
  x_adv ht (tkE_b h.1).2 h.2.1 h.2.2.2.1 h.2.2.2.2.2.2
