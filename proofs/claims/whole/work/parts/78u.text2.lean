/-! the reference's reader -/
def LxM (T : Nat → Int32) (t s : Nat) (K : Mem) : Prop := s ≤ t ∧ K 49 11 = nI t ∧ K 49 12 = nI s ∧ K 49 13 = nI (tkE T t s) ∧ K 49 14 = nI (tkK T t s) ∧ (tkK T t s = 2 → K 49 15 = tkN T t s) ∧ ∀ j, j < 120 → K 59 j = T j
theorem m_byte {T : Nat → Int32} {t i : Nat} {K : Mem} (ht : t ≤ 120) (hi : i ≤ t) (k1 : K 49 11 = nI t) (kt : ∀ j, j < 120 → K 59 j = T j) : mi_X4_byteAt (nI i) K = some (if i < t then T i else -1, K) := by
  unfold mi_X4_byteAt pi_X4_byteAt_e
  rw [k1]
  by_cases c : i < t
  · rw [if_neg (nI_ge c (by omega)), if_pos c, inb_nI (show i < 120 by omega) (by decide), gd_t, nI_clamp (by omega), kt i (by omega)]
  · have : i = t := by omega
    subst this
    rw [if_pos (Int32.le_refl _), if_neg c]
theorem m_lets {T : Nat → Int32} {t s : Nat} {B : Mem} (ht : t ≤ 120) (hs : s ≤ t) (b1 : B 49 11 = nI t) (b3 : B 49 13 = nI s) (bt : ∀ j, j < 120 → B 59 j = T j) : ∃ L : Mem, lp (fun rc84 x => pi_X4_next_84 rc84 x) FU B = some L ∧ L 49 13 = nI (ruN (leB T) (t - s) s) ∧ (∀ j, j ≠ 13 → L 49 j = B 49 j) ∧ ∀ a, a ≠ 49 → L a = B a := by
  obtain ⟨r1, r2, r3, r4⟩ := ru_ok (leB T) (t - s) s
  generalize ruN (leB T) (t - s) s = e at *
  refine lp_inv (I := fun j (zx : Mem) => zx 49 13 = nI (s + j) ∧ (∀ i, i ≠ 13 → zx 49 i = B 49 i) ∧ ∀ a, a ≠ 49 → zx a = B a) (Post := fun (zo : Option Mem) => ∃ L : Mem, zo = some L ∧ L 49 13 = nI e ∧ (∀ j, j ≠ 13 → L 49 j = B 49 j) ∧ ∀ a, a ≠ 49 → L a = B a) (e - s) ?_ ?_ FU (FU_le (by omega)) B ⟨b3, fun _ _ => rfl, fun _ _ => rfl⟩
  · intro j hj zx hI rec
    obtain ⟨i1, i2, i3⟩ := hI
    refine ⟨up zx 49 13 (nI (s + j + 1)), ⟨by rw [up_e, if_pos rfl]; rfl, fun i hi => by rw [up_e, if_neg hi]; exact i2 i hi, fun a ha => by rw [up_o ha]; exact i3 a ha⟩, ?_⟩
    show pi_X4_next_84 rec zx = _
    unfold pi_X4_next_84
    rw [i1, m_byte (T := T) ht (show s + j ≤ t by omega) (by rw [i2 11 (by decide)]; exact b1) (fun k hk => by rw [i3 59 (by decide)]; exact bt k hk), bd_s, if_pos (show s + j < t by omega), m_in, bd_s, show inR (T (s + j)) 97 122 = true from r3 (s + j) (by omega) (by omega), if_t, if_neg (by decide), bM_e, i1, nI_1]
  · intro zx hI rec
    obtain ⟨i1, i2, i3⟩ := hI
    rw [show s + (e - s) = e by omega] at i1
    refine ⟨zx, ?_, i1, i2, i3⟩
    show pi_X4_next_84 rec zx = _
    unfold pi_X4_next_84
    rw [i1, m_byte (T := T) ht (show e ≤ t by omega) (by rw [i2 11 (by decide)]; exact b1) (fun k hk => by rw [i3 59 (by decide)]; exact bt k hk), bd_s, m_in, bd_s]
    by_cases c : e < t
    · rcases r4 with z | z
      · omega
      · rw [if_pos c, show inR (T e) 97 122 = false from z, if_f, if_pos rfl]
    · rw [if_neg c, show inR (-1) 97 122 = false from by decide, if_f, if_pos rfl]
theorem m_digs {T : Nat → Int32} {t s : Nat} {B : Mem} (ht : t ≤ 120) (hs : s ≤ t) (b1 : B 49 11 = nI t) (b3 : B 49 13 = nI s) (b5 : B 49 15 = 0) (bt : ∀ j, j < 120 → B 59 j = T j) : ∃ L : Mem, lp (fun rc131 x => pi_X4_next_131 rc131 x) FU B = some L ∧ L 49 13 = nI (ruN (diB T) (t - s) s) ∧ L 49 15 = tkV T s (ruN (diB T) (t - s) s - s) ∧ (∀ j, j ≠ 13 → j ≠ 15 → L 49 j = B 49 j) ∧ ∀ a, a ≠ 49 → L a = B a := by
  obtain ⟨r1, r2, r3, r4⟩ := ru_ok (diB T) (t - s) s
  generalize ruN (diB T) (t - s) s = e at *
  refine lp_inv (I := fun j (zx : Mem) => zx 49 13 = nI (s + j) ∧ zx 49 15 = tkV T s j ∧ (∀ i, i ≠ 13 → i ≠ 15 → zx 49 i = B 49 i) ∧ ∀ a, a ≠ 49 → zx a = B a) (Post := fun (zo : Option Mem) => ∃ L : Mem, zo = some L ∧ L 49 13 = nI e ∧ L 49 15 = tkV T s (e - s) ∧ (∀ j, j ≠ 13 → j ≠ 15 → L 49 j = B 49 j) ∧ ∀ a, a ≠ 49 → L a = B a) (e - s) ?_ ?_ FU (FU_le (by omega)) B ⟨b3, b5, fun _ _ _ => rfl, fun _ _ => rfl⟩
  · intro j hj zx hI rec
    obtain ⟨i1, i5, i2, i3⟩ := hI
    refine ⟨up (up zx 49 15 (tkV T s (j + 1))) 49 13 (nI (s + j + 1)), ⟨by rw [up_e, if_pos rfl]; rfl, by rw [up_e, if_neg (by decide), up_e, if_pos rfl], fun i h1 h2 => by rw [up_e, if_neg h1, up_e, if_neg h2]; exact i2 i h1 h2, fun a ha => by rw [up_o ha, up_o ha]; exact i3 a ha⟩, ?_⟩
    have mb : mi_X4_byteAt (nI (s + j)) zx = some (T (s + j), zx) := by
      rw [m_byte (T := T) ht (show s + j ≤ t by omega) (by rw [i2 11 (by decide) (by decide)]; exact b1) (fun k hk => by rw [i3 59 (by decide)]; exact bt k hk), if_pos (show s + j < t by omega)]
    show pi_X4_next_131 rec zx = _
    unfold pi_X4_next_131
    rw [i1, mb, bd_s, m_in, bd_s, show inR (T (s + j)) 48 57 = true from r3 (s + j) (by omega) (by omega), if_t, if_neg (show ¬ (1 : Int32) = 0 by decide), i1, mb, bd_s, bM_e, bM_e, i5, up_e, if_neg (show ¬ (13 : Nat) = 15 by decide), i1, nI_1, Int32.mul_comm 10 (tkV T s j)]
    rfl
  · intro zx hI rec
    obtain ⟨i1, i5, i2, i3⟩ := hI
    rw [show s + (e - s) = e by omega] at i1
    refine ⟨zx, ?_, i1, i5, i2, i3⟩
    show pi_X4_next_131 rec zx = _
    unfold pi_X4_next_131
    rw [i1, m_byte (T := T) ht (show e ≤ t by omega) (by rw [i2 11 (by decide) (by decide)]; exact b1) (fun k hk => by rw [i3 59 (by decide)]; exact bt k hk), bd_s, m_in, bd_s]
    by_cases c : e < t
    · rcases r4 with z | z
      · omega
      · rw [if_pos c, show inR (T e) 48 57 = false from z, if_f, if_pos rfl]
    · rw [if_neg c, show inR (-1) 48 57 = false from by decide, if_f, if_pos rfl]
def F49 (K L : Mem) : Prop := (∀ j, j < 12 ∨ 15 < j → L 49 j = K 49 j) ∧ ∀ a, a ≠ 49 → L a = K a
theorem m_adv {T : Nat → Int32} {t e : Nat} {K : Mem} (hT : Tp T t) (he : e ≤ t) (k1 : K 49 11 = nI t) (k3 : K 49 13 = nI e) (kt : ∀ j, j < 120 → K 59 j = T j) : ∃ L : Mem, mi_X4_next K = some L ∧ LxM T t (tkS T t e) L ∧ F49 K L := by
  have ht := hT.1
  unfold mi_X4_next pi_X4_next_e tkS
  rw [bM_e]
  obtain ⟨r1, r2, r3, r4⟩ := ru_ok (spB T) (t - e) e
  generalize ruN (spB T) (t - e) e = s at *
  refine lp_inv (I := fun j (zx : Mem) => zx 49 11 = nI t ∧ zx 49 12 = nI (e + j) ∧ (∀ i, i < 12 ∨ 15 < i → zx 49 i = K 49 i) ∧ ∀ a, a ≠ 49 → zx a = K a) (Post := fun (zo : Option Mem) => ∃ L : Mem, zo = some L ∧ LxM T t s L ∧ F49 K L) (s - e) ?_ ?_ FU (FU_le (by omega)) (up K 49 12 (K 49 13)) ⟨by rw [up_e, if_neg (by decide)]; exact k1, by rw [up_e, if_pos rfl]; exact k3, fun i hi => by rw [up_e, if_neg (by omega)], fun a ha => up_o ha⟩
  · intro j hj zx hI rec
    obtain ⟨i1, i2, i4, i3⟩ := hI
    refine ⟨up zx 49 12 (nI (e + j + 1)), ⟨by rw [up_e, if_neg (by decide)]; exact i1, by rw [up_e, if_pos rfl]; rfl, fun i hi => by rw [up_e, if_neg (by omega)]; exact i4 i hi, fun a ha => by rw [up_o ha]; exact i3 a ha⟩, ?_⟩
    show pi_X4_next_8 rec zx = _
    unfold pi_X4_next_8
    rw [i2, m_byte (T := T) ht (show e + j ≤ t by omega) i1 (fun k hk => by rw [i3 59 (by decide)]; exact kt k hk), bd_s, if_pos (show e + j < t by omega), if_pos (of_decide_eq_true (r3 (e + j) (by omega) (by omega))), bM_e, i2, nI_1]
  · intro zx hI rec
    obtain ⟨i1, i2, i4, i3⟩ := hI
    rw [show e + (s - e) = s by omega] at i2
    have ztp : ∀ j, j < 120 → zx 59 j = T j := fun k hk => by rw [i3 59 (by decide)]; exact kt k hk
    show ∃ L : Mem, pi_X4_next_8 rec zx = some L ∧ LxM T t s L ∧ F49 K L
    have n32 : ¬ (if s < t then T s else -1) = 32 := by
      by_cases c : s < t
      · rcases r4 with z | z
        · omega
        · rw [if_pos c]; exact of_decide_eq_false z
      · rw [if_neg c]; decide
    unfold pi_X4_next_8
    rw [i2, m_byte (T := T) ht (show s ≤ t by omega) i1 ztp, bd_s, if_neg n32, i2, m_byte (T := T) ht (show s ≤ t by omega) i1 ztp, bd_s, bM_e, bM_e, i2]
    have a1 : up (up zx 49 13 (nI s)) 49 15 0 49 11 = nI t := by rw [up_e, if_neg (by decide), up_e, if_neg (by decide)]; exact i1
    have a2 : up (up zx 49 13 (nI s)) 49 15 0 49 12 = nI s := by rw [up_e, if_neg (by decide), up_e, if_neg (by decide)]; exact i2
    have a3 : up (up zx 49 13 (nI s)) 49 15 0 49 13 = nI s := by rw [up_e, if_neg (by decide), up_e, if_pos rfl]
    have a5 : up (up zx 49 13 (nI s)) 49 15 0 49 15 = 0 := by rw [up_e, if_pos rfl]
    have aF : F49 K (up (up zx 49 13 (nI s)) 49 15 0) := ⟨fun i hi => by rw [up_e, if_neg (by omega), up_e, if_neg (by omega)]; exact i4 i hi, fun a ha => by rw [up_o ha, up_o ha]; exact i3 a ha⟩
    generalize up (up zx 49 13 (nI s)) 49 15 0 = A at *
    have at' : ∀ j, j < 120 → A 59 j = T j := fun j hj => by rw [aF.2 59 (by decide)]; exact kt j hj
    have F4 : ∀ v, F49 K (up A 49 14 v) := fun v => ⟨fun i hi => by rw [up_e, if_neg (by omega)]; exact aF.1 i hi, fun a ha => by rw [up_o ha]; exact aF.2 a ha⟩
    by_cases c : s < t
    · have p0 : 0 ≤ T s := z_nonneg.mpr (inb_iff.mp (hT.2 s (by omega))).1
      rw [if_pos c, if_pos p0, m_in, bd_s, if10]
      cases c1 : inR (T s) 97 122 with
      | true =>
        rw [if_t, bM_e]
        have ek : tkK T t s = 1 := by unfold tkK leB; rw [if_pos c, c1, if_t]
        have ee : tkE T t s = ruN (leB T) (t - s) s := by
          unfold tkE
          rw [if_pos c, show leB T s = true from c1, if_t]
        obtain ⟨L, l1, l2, l3, l4⟩ := m_lets (T := T) (t := t) (s := s) (B := up A 49 14 1) ht (by omega) (by rw [up_e, if_neg (by decide)]; exact a1) (by rw [up_e, if_neg (by decide)]; exact a3) (fun j hj => by rw [up_o (by decide)]; exact at' j hj)
        refine ⟨L, l1, ⟨by omega, ?_, ?_, ?_, ?_, ?_, ?_⟩, fun i hi => by rw [l3 i (by omega)]; exact (F4 1).1 i hi, fun a ha => by rw [l4 a ha]; exact (F4 1).2 a ha⟩
        · rw [l3 11 (by decide), up_e, if_neg (by decide)]; exact a1
        · rw [l3 12 (by decide), up_e, if_neg (by decide)]; exact a2
        · rw [l2, ee]
        · rw [l3 14 (by decide), up_e, if_pos rfl, ek]; rfl
        · rw [ek]; intro z; cases z
        · intro j hj; rw [l4 59 (by decide), up_o (by decide)]; exact at' j hj
      | false =>
        rw [if_f, m_in, bd_s, if10]
        cases c2 : inR (T s) 48 57 with
        | true =>
          rw [if_t, bM_e]
          have ek : tkK T t s = 2 := by unfold tkK leB diB; rw [if_pos c, c1, if_f, c2, if_t]
          have ee : tkE T t s = ruN (diB T) (t - s) s := by
            unfold tkE
            rw [if_pos c, show leB T s = false from c1, if_f, show diB T s = true from c2, if_t]
          obtain ⟨L, l1, l2, l5, l3, l4⟩ := m_digs (T := T) (t := t) (s := s) (B := up A 49 14 2) ht (by omega) (by rw [up_e, if_neg (by decide)]; exact a1) (by rw [up_e, if_neg (by decide)]; exact a3) (by rw [up_e, if_neg (by decide)]; exact a5) (fun j hj => by rw [up_o (by decide)]; exact at' j hj)
          refine ⟨L, l1, ⟨by omega, ?_, ?_, ?_, ?_, ?_, ?_⟩, fun i hi => by rw [l3 i (by omega) (by omega)]; exact (F4 2).1 i hi, fun a ha => by rw [l4 a ha]; exact (F4 2).2 a ha⟩
          · rw [l3 11 (by decide) (by decide), up_e, if_neg (by decide)]; exact a1
          · rw [l3 12 (by decide) (by decide), up_e, if_neg (by decide)]; exact a2
          · rw [l2, ee]
          · rw [l3 14 (by decide) (by decide), up_e, if_pos rfl, ek]; rfl
          · intro _; rw [l5]; unfold tkN; rw [ee]
          · intro j hj; rw [l4 59 (by decide), up_o (by decide)]; exact at' j hj
        | false =>
          rw [if_f, bM_e, bM_e]
          have ek : tkK T t s = 3 := by unfold tkK leB diB; rw [if_pos c, c1, if_f, c2, if_f]
          have ee : tkE T t s = s + 1 := by
            unfold tkE
            rw [if_pos c, show leB T s = false from c1, if_f, show diB T s = false from c2, if_f]
          refine ⟨_, rfl, ⟨by omega, ?_, ?_, ?_, ?_, ?_, ?_⟩, fun i hi => by rw [up_e, if_neg (by omega)]; exact (F4 3).1 i hi, fun a ha => by rw [up_o ha]; exact (F4 3).2 a ha⟩
          · rw [up_e, if_neg (by decide), up_e, if_neg (by decide)]; exact a1
          · rw [up_e, if_neg (by decide), up_e, if_neg (by decide)]; exact a2
          · rw [up_e, if_pos rfl, up_e, if_neg (by decide), a3, ee, nI_1]
          · rw [up_e, if_neg (by decide), up_e, if_pos rfl, ek]; rfl
          · rw [ek]; intro z; cases z
          · intro j hj; rw [up_o (by decide), up_o (by decide)]; exact at' j hj
    · have ek : tkK T t s = 0 := by unfold tkK; rw [if_neg c]
      have ee : tkE T t s = s := by unfold tkE; rw [if_neg c]
      rw [if_neg c, if_neg (by decide), bM_e]
      refine ⟨_, rfl, ⟨by omega, ?_, ?_, ?_, ?_, ?_, ?_⟩, F4 0⟩
      · rw [up_e, if_neg (by decide)]; exact a1
      · rw [up_e, if_neg (by decide)]; exact a2
      · rw [up_e, if_neg (by decide), a3, ee]
      · rw [up_e, if_pos rfl, ek]; rfl
      · rw [ek]; intro z; cases z
      · intro j hj; rw [up_o (by decide)]; exact at' j hj
theorem LxM.nx {T : Nat → Int32} {t s : Nat} {K : Mem} (h : LxM T t s K) (hT : Tp T t) : ∃ L : Mem, mi_X4_next K = some L ∧ LxM T t (nxT T t s) L ∧ F49 K L :=
  m_adv hT (tkE_b h.1).2 h.2.1 h.2.2.2.1 h.2.2.2.2.2.2
/-! words -/
theorem od_sub' {n b : Nat} (h : b ≤ n) (hn : n ≤ 900) : nI n - nI b = nI (n - b) := by
  refine i_eq.mpr ?_
  rw [z_sub (by rw [nI_toInt (by omega), nI_toInt (by omega)]; omega) (by rw [nI_toInt (by omega), nI_toInt (by omega)]; omega), nI_toInt (by omega), nI_toInt (by omega), nI_toInt (by omega)]
  omega
def leW (w : Nat) : Nat := txL.getD w 0
def chW (w i : Nat) : Int32 := (txB.getD w []).getD i 0
def misB (T : Nat → Int32) (s w i : Nat) : Bool := !(decide (T (s + i) = chW w i))
def wdB (T : Nat → Int32) (t s w : Nat) : Bool := decide (tkK T t s = 1) && (decide (tkE T t s - s = leW w) && (fiN (misB T s w) (leW w)).isNone)
theorem leW_b : ∀ w, w < 12 → leW w ≤ 20 := by decide
theorem chW_d : ∀ a, a < 12 → ∀ c, c < 12 → a ≠ c → leW a = leW c → ∃ i, i < leW a ∧ chW a i ≠ chW c i := by decide
theorem wd_un {T : Nat → Int32} {t s a c : Nat} (ha : a < 12) (hc : c < 12) (h1 : wdB T t s a = true) (h2 : wdB T t s c = true) : a = c := by
  unfold wdB at h1 h2
  rw [Bool.and_eq_true, Bool.and_eq_true, decide_eq_true_iff, decide_eq_true_iff, Option.isNone_iff_eq_none] at h1 h2
  by_cases q : a = c
  · exact q
  · obtain ⟨i, i1, i2⟩ := chW_d a ha c hc q (by rw [← h1.2.1, ← h2.2.1])
    have m1 := fi_none _ h1.2.2 i i1
    have m2 := fi_none _ h2.2.2 i (by rw [← h2.2.1, h1.2.1]; exact i1)
    unfold misB at m1 m2
    rw [Bool.not_eq_false', decide_eq_true_iff] at m1 m2
    exact absurd (m1.symm.trans m2) i2
theorem x_word {T : Nat → Int32} {t s w : Nat} {K : Mem} (h : LxX T t s K) (ht : t ≤ 120) (hw : w < 12) : mi_X0_isWord w K = some (if wdB T t s w = true then 1 else 0, K) := by
  obtain ⟨h1, h2, h3, h4, h5, -, h7⟩ := h
  have lw := leW_b w hw
  have eb := tkE_b (T := T) h1
  unfold mi_X0_isWord pi_X0_isWord_e wdB mi_J0_length_8abf5
  have k1 : K 37 4 = 1 ↔ tkK T t s = 1 := by
    rw [h5]
    have := tkK_4 (T := T) (t := t) (s := s)
    unfold k5T
    by_cases c : tkK T t s = 3
    · rw [if_pos c, c]
      by_cases c2 : T s = 59
      · rw [if_pos c2]; decide
      · rw [if_neg c2]
        by_cases c3 : T s = 45
        · rw [if_pos c3]; decide
        · rw [if_neg c3]; decide
    · rw [if_neg c]
      constructor
      · intro z; exact nI_inj (by omega) (by decide) z
      · intro z; rw [z]; rfl
  rw [isB0, gd_t, bd_s]
  by_cases c1 : tkK T t s = 1
  · rw [if_pos (k1.mpr c1), decide_eq_true c1, Bool.true_and, h3, h4, od_sub' eb.1 (by omega)]
    by_cases c2 : tkE T t s - s = leW w
    · rw [if_pos (show nI (tkE T t s - s) = Int32.ofNat (txL.getD w 0) by rw [c2]; rfl), decide_eq_true c2, Bool.true_and]
      have one : ∀ i, i < leW w → ∀ rec, pi_X0_isWord_28 w rec (nI i) K = if misB T s w i = true then some (0, K) else rec (nI (i + 1), K) := by
        intro i hi rec
        unfold pi_X0_isWord_28 mi_J0_length_8abf5 mi_J0_charAt_5068e misB
        rw [bd_s, show Int32.ofNat (txL.getD w 0) = nI (leW w) from rfl, if_neg (nI_ge hi (by omega)), h3, nI_add, inb_nI (show s + i < 120 by omega) (by decide), gd_t, show txL.getD w 0 = leW w from rfl, inb_nI hi (by omega), gd_t, bd_s, nI_clamp (by omega), h7 _ (by omega), nI_clamp (by omega), isB0, gd_t, bI_e, nI_1]
        show (if T (s + i) = chW w i then _ else _) = _
        by_cases q : T (s + i) = chW w i
        · rw [if_pos q, decide_eq_true q]; rfl
        · rw [if_neg q, decide_eq_false q]; rfl
      cases q : fiN (misB T s w) (leW w) with
      | some m =>
        obtain ⟨q1, q2, q3⟩ := fi_some _ q
        exact lp_cnt (G := pi_X0_isWord_28 w) m (by omega) (fun k hk rec => by rw [one k (by omega), q3 k hk, if_f]) (fun rec => by rw [one m q1, q2, if_t]; rfl)
      | none =>
        have q3 := fi_none _ q
        exact lp_cnt (G := pi_X0_isWord_28 w) (leW w) (by omega) (fun k hk rec => by rw [one k (by omega), q3 k hk, if_f]) (fun rec => by
          unfold pi_X0_isWord_28 mi_J0_length_8abf5
          rw [bd_s, show Int32.ofNat (txL.getD w 0) = nI (leW w) from rfl, if_pos (Int32.le_refl _), isB1, gd_t]; rfl)
    · rw [if_neg (show ¬ nI (tkE T t s - s) = Int32.ofNat (txL.getD w 0) from fun z => c2 (nI_inj (i := tkE T t s - s) (j := leW w) (by omega) (by omega) z)), decide_eq_false c2]; rfl
  · rw [if_neg (fun z => c1 (k1.mp z)), decide_eq_false c1]; rfl
theorem m_word {T : Nat → Int32} {t s w : Nat} {K : Mem} (h : LxM T t s K) (ht : t ≤ 120) (hw : w < 12) : mi_X4_isWord w K = some (if wdB T t s w = true then 1 else 0, K) := by
  obtain ⟨h1, h2, h3, h4, h5, -, h7⟩ := h
  have lw := leW_b w hw
  have eb := tkE_b (T := T) h1
  have k4 := tkK_4 (T := T) (t := t) (s := s)
  have zero : lp (fun rc32 x => pi_X4_isWord_32 w rc32 x.1 x.2.1 x.2.2) FU (0, 0, K) = some (0, K) := by
    refine lp_for (fun _ => ((0 : Int32), (0 : Int32), K)) 0 _ (fun k hk => absurd hk (by omega)) (fun rec => ?_) (FU_le (by omega))
    show pi_X4_isWord_32 w rec 0 0 K = _
    unfold pi_X4_isWord_32 mi_J0_length_8abf5
    rw [bd_s, isB0, gd_t, if_pos (show (0 : Int32) = 0 from rfl)]
    by_cases q : Int32.ofNat (txL.getD w 0) ≤ 0
    · rw [if_pos q]
    · rw [if_neg q]
  unfold mi_X4_isWord pi_X4_isWord_e wdB mi_J0_length_8abf5
  rw [bd_s, zero]
  by_cases c1 : tkK T t s = 1
  · rw [if_pos (show K 49 14 = 1 by rw [h5, c1]; rfl), decide_eq_true c1, Bool.true_and, h3, h4, od_sub' eb.1 (by omega)]
    by_cases c2 : tkE T t s - s = leW w
    · rw [if_pos (show nI (tkE T t s - s) = Int32.ofNat (txL.getD w 0) by rw [c2]; rfl), decide_eq_true c2, Bool.true_and]
      have one : ∀ i, i < leW w → ∀ rec, pi_X4_isWord_32 w rec 1 (nI i) K = rec (if misB T s w i = true then 0 else 1, nI (i + 1), K) := by
        intro i hi rec
        unfold pi_X4_isWord_32 mi_J0_length_8abf5 mi_J0_charAt_5068e misB
        rw [bd_s, show Int32.ofNat (txL.getD w 0) = nI (leW w) from rfl, if_neg (nI_ge hi (by omega)), if_neg (show ¬ (1 : Int32) = 0 by decide), h3, nI_add, inb_nI (show s + i < 120 by omega) (by decide), gd_t, show txL.getD w 0 = leW w from rfl, inb_nI hi (by omega), gd_t, bd_s, nI_clamp (by omega), h7 _ (by omega), nI_clamp (by omega), bI_e, bI_e, nI_1]
        show (if T (s + i) = chW w i then _ else _) = _
        by_cases q : T (s + i) = chW w i
        · rw [if_pos q, decide_eq_true q]; rfl
        · rw [if_neg q, decide_eq_false q]; rfl
      cases q : fiN (misB T s w) (leW w) with
      | some m =>
        obtain ⟨q1, q2, q3⟩ := fi_some _ q
        refine lp_for (fun k => ((if k = m + 1 then 0 else 1 : Int32), nI k, K)) (m + 1) _ (fun k hk rec => ?_) (fun rec => ?_) (FU_le (by omega))
        · show pi_X4_isWord_32 w rec (if k = m + 1 then 0 else 1) (nI k) K = rec (if k + 1 = m + 1 then 0 else 1, nI (k + 1), K)
          rw [if_neg (by omega), one k (by omega)]
          by_cases z : k = m
          · subst z; rw [q2, if_t, if_pos rfl]
          · rw [q3 k (by omega), if_f, if_neg (by omega)]
        · show pi_X4_isWord_32 w rec (if m + 1 = m + 1 then 0 else 1) (nI (m + 1)) K = _
          rw [if_pos rfl]
          unfold pi_X4_isWord_32 mi_J0_length_8abf5
          rw [bd_s, isB0, gd_t, if_pos (show (0 : Int32) = 0 from rfl)]
          by_cases z : Int32.ofNat (txL.getD w 0) ≤ nI (m + 1)
          · rw [if_pos z]; rfl
          · rw [if_neg z]; rfl
      | none =>
        have q3 := fi_none _ q
        refine lp_for (fun k => ((1 : Int32), nI k, K)) (leW w) _ (fun k hk rec => ?_) (fun rec => ?_) (FU_le (by omega))
        · show pi_X4_isWord_32 w rec 1 (nI k) K = _
          rw [one k hk, q3 k hk, if_f]
        · show pi_X4_isWord_32 w rec 1 (nI (leW w)) K = _
          unfold pi_X4_isWord_32 mi_J0_length_8abf5
          rw [bd_s, show Int32.ofNat (txL.getD w 0) = nI (leW w) from rfl, if_pos (Int32.le_refl _), isB1, gd_t]; rfl
    · rw [if_neg (show ¬ nI (tkE T t s - s) = Int32.ofNat (txL.getD w 0) from fun z => c2 (nI_inj (i := tkE T t s - s) (j := leW w) (by omega) (by omega) z)), decide_eq_false c2]; rfl
  · rw [if_neg (show ¬ K 49 14 = 1 from fun z => c1 (nI_inj (i := tkK T t s) (j := 1) (by omega) (by decide) (h5.symm.trans z))), decide_eq_false c1]; rfl
/-! kinds told -/
def kdR (T : Nat → Int32) (t s : Nat) : Option Nat := fiN (wdB T t s) 7
theorem x_wordOf {k : Nat} (hk : k < 7) (M : Mem) : mi_X0_wordOf (nI k) M = some (k, M) := by
  rcases (by omega : k = 0 ∨ k = 1 ∨ k = 2 ∨ k = 3 ∨ k = 4 ∨ k = 5 ∨ k = 6) with rfl | rfl | rfl | rfl | rfl | rfl | rfl <;> rfl
theorem x_kindT {T : Nat → Int32} {t s : Nat} {K : Mem} (h : LxX T t s K) (ht : t ≤ 120) : mi_X0_kindTold K = some (fiI (kdR T t s), K) := by
  unfold mi_X0_kindTold pi_X0_kindTold_e kdR
  have one : ∀ k, k < 7 → ∀ rec, pi_X0_kindTold_2 rec (nI k) K = if wdB T t s k = true then some (nI k, K) else rec (nI (k + 1), K) := by
    intro k hk rec
    unfold pi_X0_kindTold_2
    rw [show (7 : Int32) = nI 7 from rfl, if_neg (nI_ge hk (by decide)), x_wordOf hk, bd_s, decide_eq_true (show k < 12 by omega), gd_t, x_word h ht (by omega), bd_s, if10, bI_e, nI_1]
  cases q : fiN (wdB T t s) 7 with
  | some m =>
    obtain ⟨q1, q2, q3⟩ := fi_some _ q
    exact lp_cnt (G := pi_X0_kindTold_2) m (by omega) (fun k hk rec => by rw [one k (by omega), q3 k hk, if_f]) (fun rec => by rw [one m q1, q2, if_t]; rfl)
  | none =>
    have q3 := fi_none _ q
    exact lp_cnt (G := pi_X0_kindTold_2) 7 (by omega) (fun k hk rec => by rw [one k (by omega), q3 k hk, if_f]) (fun rec => by
      unfold pi_X0_kindTold_2
      rw [if_pos (by decide)]; rfl)
theorem m_kindT {T : Nat → Int32} {t s : Nat} {K : Mem} (h : LxM T t s K) (ht : t ≤ 120) : mi_X4_kindTold K = some (fiI (kdR T t s), K) := by
  unfold mi_X4_kindTold pi_X4_kindTold_e kdR
  refine lp_acc (G := pi_X4_kindTold_4) (fun k => fiI (fiN (wdB T t s) k)) 7 (by omega) rfl (fun k hk rec => ?_) (fun rec => ?_)
  · unfold pi_X4_kindTold_4
    rw [show (7 : Int32) = nI 7 from rfl, if_neg (nI_ge hk (by decide)), inb_nI hk (by decide), gd_t, nI_clamp (by omega), m_word h ht (by omega), bd_s, if10, bI_e, bI_e, nI_1]
    cases p : wdB T t s k with
    | true =>
      have n0 : fiN (wdB T t s) k = none := by
        cases q : fiN (wdB T t s) k with
        | none => rfl
        | some m =>
          obtain ⟨q1, q2, q3⟩ := fi_some _ q
          have := wd_un (by omega) (by omega) q2 p
          omega
      have e : fiN (wdB T t s) (k + 1) = some k := by simp [fiN, n0, p]
      rw [if_t, e]; rfl
    | false =>
      have e : fiN (wdB T t s) (k + 1) = fiN (wdB T t s) k := by
        cases q : fiN (wdB T t s) k with
        | none => simp [fiN, q, p]
        | some m => simp [fiN, q]
      rw [if_f, e]
  · unfold pi_X4_kindTold_4
    rw [if_pos (by decide)]
