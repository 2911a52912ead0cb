/-! text: an item of the reference -/
def OKM (T : Nat → Int32) (t s : Nat) (K : Mem) : Prop := LxM T t s K ∧ K 49 16 = 0
def FAM (s : Nat) (K : Mem) : Prop := K 49 16 = 1 ∧ K 49 12 = nI s
def G49 (K L : Mem) : Prop := (∀ j, j < 12 ∨ 16 < j → L 49 j = K 49 j) ∧ ∀ a, a ≠ 49 → L a = K a
theorem G49.rf {K : Mem} : G49 K K := ⟨fun _ _ => rfl, fun _ _ => rfl⟩
theorem G49.tr {K L Q : Mem} (h1 : G49 K L) (h2 : G49 L Q) : G49 K Q := ⟨fun j hj => (h2.1 j hj).trans (h1.1 j hj), fun a ha => (h2.2 a ha).trans (h1.2 a ha)⟩
theorem m_must1 {T : Nat → Int32} {t s : Nat} {K : Mem} (hT : Tp T t) (h : OKM T t s K) : ∃ L : Mem, mi_X4_must 1 K = some L ∧ OKM T t (nxT T t s) L ∧ G49 K L := by
  have h' : LxM T t s (up K 49 16 0) := by
    obtain ⟨⟨a1, a2, a3, a4, a5, a6, a7⟩, -⟩ := h
    refine ⟨a1, ?_, ?_, ?_, ?_, ?_, ?_⟩
    · rw [up_e, if_neg (by decide)]; exact a2
    · rw [up_e, if_neg (by decide)]; exact a3
    · rw [up_e, if_neg (by decide)]; exact a4
    · rw [up_e, if_neg (by decide)]; exact a5
    · rw [up_e, if_neg (by decide)]; exact a6
    · intro j hj; rw [up_o (by decide)]; exact a7 j hj
  obtain ⟨L, l1, l2, l3⟩ := h'.nx hT
  refine ⟨L, ?_, ⟨l2, by rw [l3.1 16 (by omega), up_e, if_pos rfl]⟩, fun j hj => by rw [l3.1 j (by omega), up_e, if_neg (by omega)], fun a ha => by rw [l3.2 a ha, up_o ha]⟩
  unfold mi_X4_must pi_X4_must_e pi_X4_must_17
  rw [if_pos h.2, if_neg (show ¬ (1 : Int32) = 0 by decide), isB0, gd_t, bM_e, up_e, if_pos rfl, if_pos rfl, l1, bv_s]
theorem m_must0 {T : Nat → Int32} {t s : Nat} {K : Mem} (h : OKM T t s K) : ∃ L : Mem, mi_X4_must 0 K = some L ∧ FAM s L ∧ G49 K L := by
  refine ⟨up K 49 16 1, ?_, ⟨by rw [up_e, if_pos rfl], by rw [up_e, if_neg (by decide)]; exact h.1.2.2.1⟩, fun j hj => by rw [up_e, if_neg (by omega)], fun a ha => up_o ha⟩
  unfold mi_X4_must pi_X4_must_e pi_X4_must_12 pi_X4_must_17
  rw [if_pos h.2, if_pos rfl, isB1, gd_t, bM_e, up_e, if_pos rfl, if_neg (by decide)]
theorem m_mustF {s : Nat} {K : Mem} (v : Int32) (h : FAM s K) : ∃ L : Mem, mi_X4_must v K = some L ∧ FAM s L ∧ G49 K L := by
  refine ⟨up K 49 16 1, ?_, ⟨by rw [up_e, if_pos rfl], by rw [up_e, if_neg (by decide)]; exact h.2⟩, fun j hj => by rw [up_e, if_neg (by omega)], fun a ha => up_o ha⟩
  unfold mi_X4_must pi_X4_must_e pi_X4_must_12 pi_X4_must_17
  rw [if_neg (show ¬ K 49 16 = 0 by rw [h.1]; decide), isB1, gd_t, bM_e, up_e, if_pos rfl, if_neg (show ¬ (1 : Int32) = 0 by decide)]
theorem m_num {T : Nat → Int32} {t s : Nat} {K : Mem} (m : Int32) (hT : Tp T t) (h : OKM T t s K) : ∃ L : Mem, G49 K L ∧ ((∃ p v, naR T t s m 0 = (p, some v) ∧ mi_X4_number 0 m K = some (v, L) ∧ OKM T t p L) ∨ (∃ p v, naR T t s m 0 = (p, none) ∧ mi_X4_number 0 m K = some (v, L) ∧ FAM p L)) := by
  have k4 := tkK_4 (T := T) (t := t) (s := s)
  have bad : nuB T t s m = false → mi_X4_number 0 m K = pi_X4_number_28 0 m (K 49 15) 0 K := by
    intro hn
    unfold nuB at hn
    unfold mi_X4_number pi_X4_number_e pi_X4_number_27
    rw [bI_e]
    by_cases c : tkK T t s = 2
    · rw [decide_eq_true c, Bool.true_and, decide_eq_false_iff_not] at hn
      have : inR (K 49 15) 0 m = false := by
        unfold inR
        rw [h.1.2.2.2.2.2.1 c, decide_eq_false hn, Bool.and_false]
      rw [if_pos (show K 49 14 = 2 by rw [h.1.2.2.2.2.1, c]; rfl), m_in, bd_s, if10, this, if_f]
    · rw [if_neg (show ¬ K 49 14 = 2 from fun z => c (nI_inj (i := tkK T t s) (j := 2) (by omega) (by decide) (h.1.2.2.2.2.1.symm.trans z)))]
  rw [na0]
  cases c : nuB T t s m with
  | false =>
    obtain ⟨L, l1, l2, l3⟩ := m_must0 h
    rw [bad c]
    unfold pi_X4_number_28
    rw [l1, bv_s, if_f]
    exact ⟨L, l3, Or.inr ⟨s, K 49 15, rfl, rfl, l2⟩⟩
  | true =>
    obtain ⟨k2, le⟩ := nu_2 c
    obtain ⟨L, l1, l2, l3⟩ := m_must1 hT h
    have b0 : inR (K 49 15) 0 m = true := by
      unfold inR
      rw [h.1.2.2.2.2.2.1 k2, decide_eq_true (z_nonneg.mpr (tkN_b k2).1), decide_eq_true le]; rfl
    have e5 := h.1.2.2.2.2.2.1 k2
    refine ⟨L, l3, Or.inl ⟨nxT T t s, tkN T t s, by rw [if_t], ?_, l2⟩⟩
    unfold mi_X4_number pi_X4_number_e pi_X4_number_28
    rw [bI_e, if_pos (show K 49 14 = 2 by rw [h.1.2.2.2.2.1, k2]; rfl), m_in, bd_s, if10, b0, if_t, l1, bv_s, e5]
theorem m_numF {s : Nat} {K : Mem} (m : Int32) (h : FAM s K) : ∃ (L : Mem) (v : Int32), mi_X4_number 0 m K = some (v, L) ∧ FAM s L ∧ G49 K L := by
  have key : ∀ y : Int32, ∃ L : Mem, pi_X4_number_28 0 m (K 49 15) y K = some (K 49 15, L) ∧ FAM s L ∧ G49 K L := by
    intro y
    obtain ⟨L, l1, l2, l3⟩ := m_mustF y h
    refine ⟨L, ?_, l2, l3⟩
    unfold pi_X4_number_28
    rw [l1, bv_s]
  obtain ⟨L0, a0⟩ := key 0
  obtain ⟨L1, a1⟩ := key 1
  unfold mi_X4_number pi_X4_number_e pi_X4_number_27
  rw [bI_e, m_in, bd_s, if10]
  by_cases c : K 49 14 = 2
  · rw [if_pos c]
    cases inR (K 49 15) 0 m with
    | true => exact ⟨L1, _, a1⟩
    | false => exact ⟨L0, _, a0⟩
  · rw [if_neg c]; exact ⟨L0, _, a0⟩
theorem m_after {T : Nat → Int32} {t s f w : Nat} {K : Mem} (m d : Int32) (hT : Tp T t) (h : OKM T t s K) (hw : w < 12) (hf : f ≠ 2) : ∃ L : Mem, G49 K L ∧ ((∃ p v, trG T t f s w m d = (p, some v) ∧ mi_X4_afterWord w m d K = some (v, L) ∧ OKM T t p L) ∨ (∃ p v, trG T t f s w m d = (p, none) ∧ mi_X4_afterWord w m d K = some (v, L) ∧ FAM p L)) := by
  unfold mi_X4_afterWord pi_X4_afterWord_e trG
  rw [if_pos h.2, m_word h.1 hT.1 hw, bd_s, if10, decide_eq_false hf, Bool.false_and, if_f]
  cases c : wdB T t s w with
  | false =>
    rw [if_f, if_f]
    exact ⟨K, G49.rf, Or.inl ⟨s, d, rfl, rfl, h⟩⟩
  | true =>
    obtain ⟨A, a1, a2, a3⟩ := m_must1 hT h
    obtain ⟨L, l1, l2⟩ := m_num m hT a2
    rw [if_t, if_t, a1, bv_s, bd_id]
    exact ⟨L, a3.tr l1, l2⟩
theorem m_afterF {s w : Nat} {K : Mem} (m d : Int32) (h : FAM s K) : mi_X4_afterWord w m d K = some (d, K) := by
  unfold mi_X4_afterWord pi_X4_afterWord_e
  rw [if_neg (show ¬ K 49 16 = 0 by rw [h.1]; decide)]
theorem na1 {T : Nat → Int32} {t s : Nat} {m : Int32} : naR T t s m 1 = match naR T t s m 0 with | (p, none) => (p, none) | (p, some v) => (p, some (-v)) := by
  unfold naR
  cases nuB T t s m with
  | false => rfl
  | true => rw [if_t, if_t, if_pos rfl, if_neg (by decide)]
theorem m_step {T : Nat → Int32} {t s : Nat} {K : Mem} (hT : Tp T t) (h : OKM T t s K) : ∃ L : Mem, G49 K L ∧ ((∃ p v, trG T t 2 s 9 5 1 = (p, some v) ∧ mi_X4_stepTold K = some (v, L) ∧ OKM T t p L) ∨ (∃ p v, trG T t 2 s 9 5 1 = (p, none) ∧ mi_X4_stepTold K = some (v, L) ∧ FAM p L)) := by
  have ht := hT.1
  unfold mi_X4_stepTold pi_X4_stepTold_e trG
  rw [if_pos h.2, m_word h.1 hT.1 (by decide), bd_s, if10, decide_eq_true (show (2 : Nat) = 2 from rfl), Bool.true_and]
  cases c : wdB T t s 9 with
  | false =>
    rw [if_f, if_f]
    exact ⟨K, G49.rf, Or.inl ⟨s, 1, rfl, rfl, h⟩⟩
  | true =>
    obtain ⟨A, a1, a2, a3⟩ := m_must1 hT h
    rw [if_t, if_t, a1, bv_s]
    have k4 := tkK_4 (T := T) (t := t) (s := nxT T t s)
    have plain : miB T t (nxT T t s) = false → (if (A 49 14) = 3 then (gd (inb (A 49 12) 120) <| if (A 59 (A 49 12).toNatClampNeg) = 45 then (pi_X4_stepTold_51 1 A) else (pi_X4_stepTold_50 A)) else (pi_X4_stepTold_50 A)) = mi_X4_number 0 5 A := by
      intro hm
      have p50 : pi_X4_stepTold_50 A = mi_X4_number 0 5 A := by
        unfold pi_X4_stepTold_50 pi_X4_stepTold_51 pi_X4_stepTold_61
        rw [if_pos rfl]
        cases mi_X4_number 0 5 A <;> rfl
      unfold miB at hm
      by_cases q : tkK T t (nxT T t s) = 3
      · rw [decide_eq_true q, Bool.true_and, decide_eq_false_iff_not] at hm
        have lt : nxT T t s < t := by
          unfold tkK at q
          by_cases z : nxT T t s < t
          · exact z
          · rw [if_neg z] at q; omega
        rw [if_pos (show A 49 14 = 3 by rw [a2.1.2.2.2.2.1, q]; rfl), a2.1.2.2.1, inb_nI (show nxT T t s < 120 by omega) (by decide), gd_t, nI_clamp (by omega), a2.1.2.2.2.2.2.2 _ (by omega), if_neg hm, p50]
      · rw [if_neg (show ¬ A 49 14 = 3 from fun z => q (nI_inj (i := tkK T t (nxT T t s)) (j := 3) (by omega) (by decide) (a2.1.2.2.2.2.1.symm.trans z))), p50]
    cases c3 : miB T t (nxT T t s) with
    | false =>
      rw [plain c3, if_f]
      obtain ⟨L, l1, l2⟩ := m_num 5 hT a2
      exact ⟨L, a3.tr l1, l2⟩
    | true =>
      unfold miB at c3
      rw [Bool.and_eq_true, decide_eq_true_iff, decide_eq_true_iff] at c3
      obtain ⟨q, q45⟩ := c3
      have lt : nxT T t s < t := by
        unfold tkK at q
        by_cases z : nxT T t s < t
        · exact z
        · rw [if_neg z] at q; omega
      obtain ⟨B, b1, b2, b3⟩ := m_must1 hT a2
      obtain ⟨L, l1, l2⟩ := m_num 5 hT b2
      rw [if_pos (show A 49 14 = 3 by rw [a2.1.2.2.2.2.1, q]; rfl), a2.1.2.2.1, inb_nI (show nxT T t s < 120 by omega) (by decide), gd_t, nI_clamp (by omega), a2.1.2.2.2.2.2.2 _ (by omega), if_pos q45, if_t, na1]
      unfold pi_X4_stepTold_51 pi_X4_stepTold_61
      rw [if_neg (show ¬ (1 : Int32) = 0 by decide), b1, bv_s]
      rcases l2 with ⟨p, v, z1, z2, z3⟩ | ⟨p, v, z1, z2, z3⟩
      · rw [z1, z2, bd_s, if_neg (show ¬ (1 : Int32) = 0 by decide)]
        exact ⟨L, (a3.tr b3).tr l1, Or.inl ⟨p, -v, rfl, rfl, z3⟩⟩
      · rw [z1, z2, bd_s, if_neg (show ¬ (1 : Int32) = 0 by decide)]
        exact ⟨L, (a3.tr b3).tr l1, Or.inr ⟨p, -v, rfl, rfl, z3⟩⟩
theorem m_stepF {s : Nat} {K : Mem} (h : FAM s K) : mi_X4_stepTold K = some (1, K) := by
  unfold mi_X4_stepTold pi_X4_stepTold_e
  rw [if_neg (show ¬ K 49 16 = 0 by rw [h.1]; decide)]
theorem five {c : Nat} (hc : c ≤ 200) : (5 : Int32) * nI c = nI (5 * c) := by
  have e5 : (5 : Int32).toInt = 5 := by decide
  have ec : (nI c).toInt = c := nI_toInt (by omega)
  refine i_eq.mpr ?_
  rw [z_mul (by rw [e5, ec]; omega) (by rw [e5, ec]; omega), e5, ec, nI_toInt (by omega)]
  omega
def ItS (x : ItT) (K : Mem) (c : Nat) : Prop := K 61 (5 * c) = x.1 ∧ K 61 (5 * c + 1) = x.2.1 ∧ K 61 (5 * c + 2) = x.2.2.1 ∧ K 61 (5 * c + 3) = x.2.2.2.1 ∧ K 61 (5 * c + 4) = x.2.2.2.2
theorem m_add {K : Mem} {c : Nat} (x : ItT) (hc : c ≤ 119) (h : K 49 19 = nI c) : ∃ L : Mem, mi_X4_addItem x.1 x.2.1 x.2.2.1 x.2.2.2.1 x.2.2.2.2 K = some L ∧ L 49 19 = nI (c + 1) ∧ (∀ j, j ≠ 19 → L 49 j = K 49 j) ∧ ItS x L c ∧ (∀ i, i < 5 * c → L 61 i = K 61 i) ∧ ∀ a, a ≠ 49 → a ≠ 61 → L a = K a := by
  obtain ⟨x0, x1, x2, x3, x4⟩ := x
  dsimp only
  refine ⟨up (up (up (up (up (up K 61 (5 * c) x0) 61 (5 * c + 1) x1) 61 (5 * c + 2) x2) 61 (5 * c + 3) x3) 61 (5 * c + 4) x4) 49 19 (nI (c + 1)), ?_, by rw [up_e, if_pos rfl], fun j hj => by rw [up_e, if_neg hj, up_o (by decide), up_o (by decide), up_o (by decide), up_o (by decide), up_o (by decide)], ⟨?_, ?_, ?_, ?_, ?_⟩, fun i hi => ?_, fun a n1 n2 => by rw [up_o n1, up_o n2, up_o n2, up_o n2, up_o n2, up_o n2]⟩
  · unfold mi_X4_addItem pi_X4_addItem_e
    rw [h, five (by omega), bI_e, inb_nI (show 5 * c < 600 by omega) (by decide), gd_t, bM_e, nI_clamp (by omega), show (1 : Int32) = nI 1 from rfl, nI_add, inb_nI (show 5 * c + 1 < 600 by omega) (by decide), gd_t, bM_e, nI_clamp (by omega), show (2 : Int32) = nI 2 from rfl, nI_add, inb_nI (show 5 * c + 2 < 600 by omega) (by decide), gd_t, bM_e, nI_clamp (by omega), show (3 : Int32) = nI 3 from rfl, nI_add, inb_nI (show 5 * c + 3 < 600 by omega) (by decide), gd_t, bM_e, nI_clamp (by omega), show (4 : Int32) = nI 4 from rfl, nI_add, inb_nI (show 5 * c + 4 < 600 by omega) (by decide), gd_t, bM_e, nI_clamp (by omega), up_o (show (49 : Nat) ≠ 61 by decide), up_o (show (49 : Nat) ≠ 61 by decide), up_o (show (49 : Nat) ≠ 61 by decide), up_o (show (49 : Nat) ≠ 61 by decide), up_o (show (49 : Nat) ≠ 61 by decide), h, nI_add, bM_e]
  · rw [up_o (by decide), up_e, if_neg (by omega), up_e, if_neg (by omega), up_e, if_neg (by omega), up_e, if_neg (by omega), up_e, if_pos rfl]
  · rw [up_o (by decide), up_e, if_neg (by omega), up_e, if_neg (by omega), up_e, if_neg (by omega), up_e, if_pos rfl]
  · rw [up_o (by decide), up_e, if_neg (by omega), up_e, if_neg (by omega), up_e, if_pos rfl]
  · rw [up_o (by decide), up_e, if_neg (by omega), up_e, if_pos rfl]
  · rw [up_o (by decide), up_e, if_pos rfl]
  · rw [up_o (by decide), up_e, if_neg (by omega), up_e, if_neg (by omega), up_e, if_neg (by omega), up_e, if_neg (by omega), up_e, if_neg (by omega)]
