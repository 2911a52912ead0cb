/-! the image, the status, and the calls that set a trait -/
theorem AgB.le {c d : Nat} {N : Nat → Int32} (h : AgB c N) (hc : c ≤ d) : AgB d N := ⟨h.1, by have := h.2; omega⟩
theorem sim_kept {c d : Nat} {M Q : Mem} (h : Sim c M) (hc : c ≤ d) (e : ∀ a, a ≠ 0 → (a < 25 ∨ 36 < a) → a ≠ 49 → a ≠ 51 → Q a = M a) (e49 : Q 49 11 = M 49 11) (kp : Kp d Q) : Sim d Q := by
  obtain ⟨⟨h1, h2, h3, h4, h5, h6, h7, h8⟩, h9⟩ := h
  have e50 : Q 50 = M 50 := e 50 (by omega) (by omega) (by omega) (by omega)
  have e48 : Q 48 = M 48 := e 48 (by omega) (by omega) (by omega) (by omega)
  have e53 : Q 53 = M 53 := e 53 (by omega) (by omega) (by omega) (by omega)
  have e59 : Q 59 = M 59 := e 59 (by omega) (by omega) (by omega) (by omega)
  refine ⟨⟨by rw [e50]; exact h1, by rw [e50]; exact h2.eq (fun a ha hb => e a (by omega) (by omega) (by omega) (by omega)), by rw [e50]; exact h3.eq (fun a ha hb => e a (by omega) (by omega) (by omega) (by omega)), by rw [e50]; exact h4.le hc, kp, ?_, ?_, ?_⟩, ?_⟩
  · intro j hj
    rw [e 54 (by omega) (by omega) (by omega) (by omega)]; exact h6 j hj
  · obtain ⟨t, t1, t2, t3, t4⟩ := h7
    refine ⟨t, t1, by rw [e 37 (by omega) (by omega) (by omega) (by omega)]; exact t2, by rw [e49]; exact t3, fun j hj => ?_⟩
    rw [e 38 (by omega) (by omega) (by omega) (by omega), e59]; exact t4 j hj
  · intro z hz
    rw [e (40 + 2 * z) (by omega) (by omega) (by omega) (by omega), e (40 + 2 * z + 1) (by omega) (by omega) (by omega) (by omega), e 62 (by omega) (by omega) (by omega) (by omega), e 63 (by omega) (by omega) (by omega) (by omega), e 64 (by omega) (by omega) (by omega) (by omega)]
    exact h8 z hz
  · unfold Fnd
    rw [e48, e53]; exact h9
theorem op_tear : OpI mi_X3_tear mi_X4_tear := by
  intro c M hc hS
  have hk := hS.1.2.2.2.2.1
  have k49 : up M 0 3 0 49 = M 49 := up_o (by decide)
  refine ⟨if M 49 3 = 0 then 0 else 1, up M 0 3 0, up (up M 0 3 0) 49 3 0, ?_, ?_, ?_⟩
  · unfold mi_X3_tear pi_X3_tear_e
    rw [isB0, gd_t, gd_t, bM_e, hk.1]
    by_cases z : M 49 3 = 0
    · rw [if_pos z, if_pos z]
    · rw [if_neg z, if_neg z]; rfl
  · unfold mi_X4_tear pi_X4_tear_e
    rw [isB0, gd_t, gd_t, bM_e, k49]
    by_cases z : M 49 3 = 0
    · rw [if_pos z, if_pos z]
    · rw [if_neg z, if_neg z]; rfl
  · refine sim_kept hS (Nat.le_succ c) (fun a h1 h2 h3 h4 => by rw [up_o h3, up_o h1]) ?_ ⟨?_, ?_, ?_⟩
    · rw [up_s, upd_o (by decide), k49]
    · rw [up_s, upd_s, up_o (by decide), up_s, upd_s]
    · rw [up_s, upd_s]; rfl
    · intro z
      rw [up_s, upd_s] at z
      exact absurd z (by decide)
theorem row_eq {f g : Nat → Int32} (h1 : ∀ j, j < 62 → f j = g j) (h2 : ∀ j, 62 ≤ j → f j = g j) : f = g := by
  funext j
  by_cases c : j < 62
  · exact h1 j c
  · exact h2 j (by omega)
/-- rows that agree below 62 -/
theorem nH_cg {N P : Nat → Int32} (e : ∀ j, j < 62 → P j = N j) : nH P = nH N := by unfold nH; rw [e 1 (by decide)]
theorem Wf.cg {N P : Nat → Int32} (h : Wf N) (e : ∀ j, j < 62 → P j = N j) : Wf P := by
  have hn := nH_cg e
  refine ⟨by rw [e 1 (by decide), hn]; exact h.1, by rw [hn]; exact h.2.1, by rw [e 3 (by decide)]; exact h.2.2.1, fun z hz => ?_, fun i hi => by rw [hn, e _ (by omega)]; exact h.2.2.2.2 i hi⟩
  unfold Wh kdN vaN spN tuN hiN boN
  rw [e _ (by omega), e _ (by omega), e _ (by omega), e _ (by omega), e _ (by omega), e _ (by omega)]
  exact h.2.2.2.1 z hz
theorem ShR.row {b : Nat} {M : Mem} {N P : Nat → Int32} (h : ShR b M N) (e : ∀ j, j < 62 → P j = N j) : ShR b M P := by
  obtain ⟨h1, h2, h3, h4, h5, h6⟩ := h
  refine ⟨by rw [e 3 (by decide)]; exact h1, by rw [e 0 (by decide)]; exact h2, by rw [e 2 (by decide)]; exact h3, by rw [e 1 (by decide)]; exact h4, fun i hi => by rw [e _ (by omega)]; exact h5 i hi, fun z hz => ?_⟩
  unfold kdN vaN spN tuN hiN boN
  rw [e _ (by omega), e _ (by omega), e _ (by omega), e _ (by omega), e _ (by omega), e _ (by omega)]
  exact h6 z hz
theorem TbR.row {b : Nat} {M : Mem} {N P : Nat → Int32} (h : TbR b M N) (h8 : nH N ≤ 8) (e : ∀ j, j < 62 → P j = N j) : TbR b M P := by
  refine h.cg h8 (nH_cg e) (fun z hz => ⟨?_, ?_⟩)
  · unfold vaN; rw [e _ (by omega)]
  · unfold tuN; rw [e _ (by omega)]
theorem AgB.row {c : Nat} {N P : Nat → Int32} (h : AgB c N) (e : ∀ j, j < 62 → P j = N j) : AgB c P := by
  unfold AgB
  rw [e 0 (by decide)]; exact h
theorem op_image : OpI mi_X3_image mi_X4_image := by
  intro c M hc hS
  obtain ⟨hw, hs, ht, ha, hk, -⟩ := id hS.1
  obtain ⟨K, k1, k2, k3, k4⟩ := hd_become (b := 25) hs hw (by omega)
  obtain ⟨Q, q1, q2, q3, q4⟩ := md_copy (x := 50) (y := 51) (up K 0 3 1) (by decide)
  have e50 : up K 0 3 1 50 = M 50 := by rw [up_o (by decide), k4 50 (by omega)]
  refine ⟨1, up K 0 3 1, up Q 49 3 1, ?_, ?_, ?_⟩
  · unfold mi_X3_image pi_X3_image_e
    rw [k1, bv_s, isB1, gd_t, bM_e]
  · unfold mi_X4_image pi_X4_image_e
    rw [q1, bv_s, isB1, gd_t, bM_e]
  · have r : ∀ j, j < 62 → Q 51 j = M 50 j := fun j hj => by rw [q2 j hj, e50]
    refine sim_kept hS (Nat.le_succ c) (fun a h1 h2 h3 h4 => by rw [up_o h3, q4 a h4, up_o h1, k4 a (by omega)]) ?_ ⟨?_, ?_, ?_⟩
    · rw [up_s, upd_o (by decide), q4 49 (by decide), up_o (by decide), k4 49 (by omega)]
    · rw [up_s, upd_s, up_o (by decide), q4 0 (by decide), up_s, upd_s]
    · rw [up_s, upd_s]; rfl
    · intro _
      rw [up_o (by decide)]
      refine ⟨hw.cg r, ?_, ha.up.row r⟩
      exact (k2.row r).eq (fun a h1 h2 => by rw [up_o (by omega), q4 a (by omega), up_o (by omega)])
theorem isB_01 {v : Int32} (h : isB v = true) (h0 : ¬ v = 0) : v = 1 := by
  simp [isB] at h
  rcases h with h | h
  · exact absurd h h0
  · exact h
theorem op_undo : OpI mi_X3_undo mi_X4_undo := by
  intro c M hc hS
  obtain ⟨hw, hs, ht, ha, hk, -⟩ := id hS.1
  by_cases z : M 49 3 = 0
  · refine op_find 3 (by decide) hS ?_ (fun K hK => ?_)
    · unfold mi_X3_undo pi_X3_undo_e
      rw [hk.1, if_pos z, bd_id]; rfl
    · unfold mi_X4_undo pi_X4_undo_e
      rw [hK 49 (by decide), if_pos z, bd_id, low3]
  · obtain ⟨w1, s1, a1⟩ := hk.2.2 (isB_01 hk.2.1 z)
    obtain ⟨K, k1, k2, k3, k4⟩ := hd_become (b := 1) s1 w1 (by omega)
    obtain ⟨Q, q1, q2, q3, q4⟩ := md_copy (x := 51) (y := 50) K (by decide)
    have r : ∀ j, j < 62 → Q 50 j = M 51 j := fun j hj => by rw [q2 j hj, k4 51 (by omega)]
    refine ⟨M 51 0, K, Q, ?_, ?_, ?_⟩
    · unfold mi_X3_undo pi_X3_undo_e
      rw [hk.1, if_neg z, k1, bv_s, k2.2.1]
    · unfold mi_X4_undo pi_X4_undo_e
      rw [k4 49 (by omega), if_neg z, q1, bv_s, in0_62, gd_t, tN0, r 0 (by decide)]
    · exact sim_row hS (Nat.le_succ c) (fun a h => k4 a (by omega)) (k2.row r) (k3.row w1.2.1 r) (w1.cg r) (a1.row r).up (fun a h1 _ => q4 a h1) rfl
theorem op_status (v : Int32) : OpI (mi_X3_status v) (mi_X4_status v) := by
  intro c M hc hS
  obtain ⟨f1, f2⟩ := hS.2
  cases hv : inR v (-1) 6 with
  | false =>
    refine op_find 0 (by decide) hS ?_ (fun K hK => ?_)
    · unfold mi_X3_status pi_X3_status_e
      rw [x_out, bd_s, hv, if01, if_f, bd_id]; rfl
    · unfold mi_X4_status pi_X4_status_e
      rw [m_in, bd_s, hv, if10, if_f, bd_id, low0]
  | true =>
    have hb : -1 ≤ v.toInt ∧ v.toInt ≤ 6 := by
      unfold inR at hv
      rw [Bool.and_eq_true] at hv
      have h1 := i_le.mp (of_decide_eq_true hv.1)
      have h2 := i_le.mp (of_decide_eq_true hv.2)
      have h3 : (-1 : Int32).toInt = -1 := by decide
      have h4 : (6 : Int32).toInt = 6 := by decide
      omega
    refine op_ask hS (r := M 53 (v + 1).toNatClampNeg) (K := M) ?_ Eqv.rf ⟨M, ?_, Eqv.rf⟩
    · unfold mi_X3_status pi_X3_status_e
      rw [x_out, bd_s, hv, if01, if_t]
      by_cases hn : v < 0
      · have e : v = -1 := i_eq.mpr (by have h3 : (-1 : Int32).toInt = -1 := by decide
                                        have h4 := i_lt.mp hn
                                        have h5 : (0 : Int32).toInt = 0 := by decide
                                        omega)
        subst e
        rw [if_pos (by decide), show ((-1 : Int32) + 1).toNatClampNeg = 0 from by decide, f2]
        have st : ∀ (k : Nat) (a : Int32) (n : Nat), k < 7 → lp (fun rc31 x => pi_X3_status_31 (-1) rc31 x.1 x.2.1 x.2.2) (n + 1) (a, nI k, M) = lp (fun rc31 x => pi_X3_status_31 (-1) rc31 x.1 x.2.1 x.2.2) n (a + M 53 (k + 1), nI (k + 1), M) := by
          intro k a n hk
          rw [lp_s]
          unfold pi_X3_status_31
          dsimp only
          have hlt : ¬ (7 : Int32) ≤ nI k := by
            rw [i_le, nI_toInt (by omega)]
            have h5 : (7 : Int32).toInt = 7 := by decide
            omega
          rw [if_neg hlt, inb_nI hk (by decide), gd_t, bI_e, bI_e, nI_clamp (by omega), f1 k hk, nI_1]
        show lp _ (992 + 1 + 1 + 1 + 1 + 1 + 1 + 1 + 1) (0, nI 0, M) = _
        rw [st 0 _ _ (by decide), st 1 _ _ (by decide), st 2 _ _ (by decide), st 3 _ _ (by decide), st 4 _ _ (by decide), st 5 _ _ (by decide), st 6 _ _ (by decide), lp_s]
        unfold pi_X3_status_31
        dsimp only
        rw [if_pos (by decide), Int32.zero_add]
      · rw [if_neg hn]
        have h6 : inb v 7 = true := inb_iff.mpr (by have := z_nonneg.mp (nlt_le.mp hn); omega)
        obtain ⟨i, hi, rfl⟩ := inb_of h6 (by decide)
        rw [h6, gd_t, nI_clamp (by omega), nI_1, nI_clamp (by omega), f1 i hi]
    · unfold mi_X4_status pi_X4_status_e
      rw [m_in, bd_s, hv, if10, if_t]
      have h7 : inb (v + 1) 8 = true := by
        have h5 : (1 : Int32).toInt = 1 := by decide
        have h6 : (v + 1).toInt = v.toInt + 1 := by rw [z_add (by omega) (by omega), h5]
        exact inb_iff.mpr (by omega)
      rw [h7, gd_t]
