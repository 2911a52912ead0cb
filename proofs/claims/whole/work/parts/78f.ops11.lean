/-! the sheets: sheet -/
theorem x_begin {b : Nat} {M : Mem} (w s : Int32) : ∃ K : Mem, mi_X1_begin b w s M = some K ∧ K b 0 = w ∧ K b 1 = (if w = 0 then 0 else s) ∧ (∀ j, j < 40 → K (b + 1) j = 0) ∧ ∀ a, a ≠ b → a ≠ b + 1 → K a = M a := by
  obtain ⟨K, k1, k2, k3⟩ := hd_fill (b + 1) 40 0 (up (up M b 0 w) b 1 (if w = 0 then 0 else s)) (by decide)
  refine ⟨K, ?_, ?_, ?_, k2, fun a n1 n2 => by rw [k3 a n2, up_o n1, up_o n1]⟩
  · unfold mi_X1_begin pi_X1_begin_e pi_X1_begin_15
    rw [bM_e]
    by_cases c : w = 0
    · rw [if_pos c] at k1 ⊢
      rw [bM_e, k1, bv_s]
    · rw [if_neg c] at k1 ⊢
      rw [bM_e, k1, bv_s]
  · rw [k3 b (by omega), up_s, upd_o (by decide), up_s, upd_s]
  · rw [k3 b (by omega), up_s, upd_s]
theorem m_zero {z : Nat} {M : Mem} (w s : Int32) (hz : z < 4) : ∃ K : Mem, lp (fun rc85 x => pi_X4_sheet_85 (nI z) w s rc85 x.1 x.2) FU (0, M) = some (M 63 z, K) ∧ (∀ j, j < 40 → K 64 (40 * z + j) = 0) ∧ (∀ i, (i < 40 * z ∨ 40 * z + 40 ≤ i) → K 64 i = M 64 i) ∧ ∀ a, a ≠ 64 → K a = M a := by
  refine lp_inv (I := fun k (zx : Int32 × Mem) => zx.1 = nI k ∧ (∀ j, j < k → zx.2 64 (40 * z + j) = 0) ∧ (∀ i, (i < 40 * z ∨ 40 * z + 40 ≤ i) → zx.2 64 i = M 64 i) ∧ ∀ a, a ≠ 64 → zx.2 a = M a) (Post := fun (zo : Option (Int32 × Mem)) => ∃ K : Mem, zo = some (M 63 z, K) ∧ (∀ j, j < 40 → K 64 (40 * z + j) = 0) ∧ (∀ i, (i < 40 * z ∨ 40 * z + 40 ≤ i) → K 64 i = M 64 i) ∧ ∀ a, a ≠ 64 → K a = M a) 40 ?_ ?_ FU (FU_le (by omega)) (0, M) ⟨rfl, fun j hj => by omega, fun _ _ => rfl, fun _ _ => rfl⟩
  · rintro k hk ⟨x, K⟩ ⟨i1, i2, i3, i4⟩ rec
    dsimp only at i1 i2 i3 i4
    refine ⟨(nI (k + 1), up K 64 (40 * z + k) 0), ⟨rfl, fun j hj => ?_, fun i hi => ?_, fun a n1 => ?_⟩, ?_⟩
    · dsimp only
      rw [up_s]
      by_cases c : j = k
      · subst c; rw [upd_s]
      · rw [upd_o (by omega)]; exact i2 j (by omega)
    · dsimp only
      rw [up_s, upd_o (by omega)]; exact i3 i hi
    · dsimp only
      rw [up_o n1]; exact i4 a n1
    · show pi_X4_sheet_85 (nI z) w s rec x K = _
      unfold pi_X4_sheet_85
      rw [i1, show (40 : Int32) = nI 40 from rfl, if_neg (nI_ge hk (by omega)), show (nI 40 : Int32) = 40 from rfl, e40n hz, inb_nI (show 40 * z + k < 160 by omega) (by decide), gd_t, bM_e, bI_e, nI_1, nI_clamp (by omega)]
  · rintro ⟨x, K⟩ ⟨i1, i2, i3, i4⟩ rec
    dsimp only at i1 i2 i3 i4
    refine ⟨K, ?_, i2, i3, i4⟩
    show pi_X4_sheet_85 (nI z) w s rec x K = _
    unfold pi_X4_sheet_85
    rw [i1, if_pos (by decide), inb_nI hz (by decide), gd_t, nI_clamp (by omega), i4 63 (by decide)]
theorem op_sheet (v w x : Int32) : OpI (mi_X3_sheet v w x) (mi_X4_sheet v w x) := by
  intro c M hc hS
  obtain ⟨hw, hs, ht, ha, hk, hfc, hrd, h4⟩ := id hS.1
  cases hv : inb v 4 with
  | false =>
    refine op_find 0 (by decide) hS ?_ (fun K hK => ?_)
    · unfold mi_X3_sheet pi_X3_sheet_e
      rw [x_nos, bd_s, hv, if01, if_f]; exact fx_ 0 0 rfl M
    · unfold mi_X4_sheet pi_X4_sheet_e
      rw [m_sheet, bd_s, hv, if10, if_f]; exact fm_ 0 _ low0.symm K
  | true =>
  obtain ⟨z, hz, rfl⟩ := inb_of hv (by decide)
  have cz : (nI z).toNatClampNeg = z := nI_clamp (by omega)
  by_cases hq : w = 0 ∨ w = 8 ∨ w = 16 ∨ w = 32
  · have hX : mi_X3_sheet (nI z) w x M = pi_X3_sheet_35 (nI z) w x M := by
      unfold mi_X3_sheet pi_X3_sheet_e
      rw [x_nos, bd_s, hv, if01, if_t]
      rcases hq with rfl | rfl | rfl | rfl <;> rfl
    have hM : ∀ K : Mem, mi_X4_sheet (nI z) w x K = pi_X4_sheet_36 (nI z) w x K := by
      intro K
      unfold mi_X4_sheet pi_X4_sheet_e
      rw [m_sheet, bd_s, hv, if10, if_t]
      rcases hq with rfl | rfl | rfl | rfl <;> rfl
    by_cases p0 : 0 ≤ x
    · by_cases p1 : x ≤ 40
      · obtain ⟨K, k1, k2, k3, k4, k5⟩ := x_begin (b := 40 + 2 * z) (M := M) w x
        obtain ⟨Q, q1, q2, q3, q4⟩ := m_zero (M := up (up K 62 z w) 63 z (if w = 0 then 0 else x)) w x hz
        refine ⟨if w = 0 then 0 else x, K, Q, ?_, ?_, ?_⟩
        · rw [hX]
          unfold pi_X3_sheet_35
          rw [if_pos p0, if_pos p1, hv, gd_t, cz, k1, bv_s, gd_t, k3]
        · rw [hM]
          unfold pi_X4_sheet_36
          rw [if_pos p0, if_pos p1, hv, gd_t, cz, bM_e]
          by_cases cw : w = 0
          · rw [if_pos cw] at q1 ⊢
            rw [gd_t, bM_e, q1, up_s, upd_s, if_pos cw]
          · rw [if_neg cw] at q1 ⊢
            rw [gd_t, bM_e, q1, up_s, upd_s, if_neg cw]
        · refine (sim_sh hS (fun a n1 n2 n3 n4 n5 => by rw [q4 a n4, up_o n3, up_o n2, k5 a (by omega) (by omega)]) (fun y hy => ?_)).up
          obtain ⟨r0, r1, r2, r3, r4⟩ := h4 y hy
          rw [q4 62 (by decide), q4 63 (by decide), q4 (40 + 2 * y) (by omega), q4 (40 + 2 * y + 1) (by omega), up_o (show (62 : Nat) ≠ 63 by decide), up_s, up_s, up_o (show (63 : Nat) ≠ 62 by decide), up_o (show 40 + 2 * y ≠ 63 by omega), up_o (show 40 + 2 * y ≠ 62 by omega), up_o (show 40 + 2 * y + 1 ≠ 63 by omega), up_o (show 40 + 2 * y + 1 ≠ 62 by omega)]
          by_cases cy : y = z
          · subst cy
            rw [upd_s, upd_s, k2, k3]
            refine ⟨rfl, hq, rfl, ?_, fun j hj => by rw [k4 j hj, q2 j hj]⟩
            by_cases cw : w = 0
            · rw [if_pos cw]; decide
            · rw [if_neg cw]
              have h6 := i_le.mp p1
              have h7 : (40 : Int32).toInt = 40 := by decide
              exact inb_iff.mpr ⟨z_nonneg.mp p0, by omega⟩
          · rw [upd_o cy, upd_o cy, k5 (40 + 2 * y) (by omega) (by omega), k5 (40 + 2 * y + 1) (by omega) (by omega), k5 62 (by omega) (by omega), k5 63 (by omega) (by omega)]
            refine ⟨r0, r1, r2, r3, fun j hj => ?_⟩
            rw [q3 _ (by omega), up_o (by decide), up_o (by decide), k5 64 (by omega) (by omega)]; exact r4 j hj
      · refine op_find 0 (by decide) hS (hX.trans ?_) (fun K hK => (hM K).trans ?_)
        · unfold pi_X3_sheet_35
          rw [if_pos p0, if_neg p1]; exact fx_ 0 0 rfl M
        · unfold pi_X4_sheet_36
          rw [if_pos p0, if_neg p1]; exact fm_ 0 _ low0.symm K
    · refine op_find 6 (by decide) hS (hX.trans ?_) (fun K hK => (hM K).trans ?_)
      · unfold pi_X3_sheet_35
        rw [if_neg p0]; exact fx_ 6 6 rfl M
      · unfold pi_X4_sheet_36
        rw [if_neg p0]; exact fm_ 6 _ low6.symm K
  · have n0 : ¬ w = 0 := fun q => hq (Or.inl q)
    have n1 : ¬ w = 8 := fun q => hq (Or.inr (Or.inl q))
    have n2 : ¬ w = 16 := fun q => hq (Or.inr (Or.inr (Or.inl q)))
    have n3 : ¬ w = 32 := fun q => hq (Or.inr (Or.inr (Or.inr q)))
    refine op_find 0 (by decide) hS ?_ (fun K hK => ?_)
    · unfold mi_X3_sheet pi_X3_sheet_e
      rw [x_nos, bd_s, hv, if01, if_t, if_neg n0, if_neg n1, if_neg n2, if_neg n3]; exact fx_ 0 0 rfl M
    · unfold mi_X4_sheet pi_X4_sheet_e
      rw [m_sheet, bd_s, hv, if10, if_t, if_neg n0, if_neg n1, if_neg n2, if_neg n3]; exact fm_ 0 _ low0.symm K
