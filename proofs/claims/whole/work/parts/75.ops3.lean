/-! hill, change, of -/
theorem fx_ (i : Nat) (v : Int32) (h : v = nI i) (K : Mem) : (bd (mi_X3_finding v K) fun r M => some (r, M)) = mi_X3_finding (nI i) K := by rw [bd_id, h]
theorem fm_ (i : Nat) (v : Int32) (h : v = lowI i) (K : Mem) : (bd (mi_X4_finding v K) fun r M => some (r, M)) = mi_X4_finding (lowI i) K := by rw [bd_id, h]
theorem inR6 {v : Int32} : inR v 0 6 = inb v 7 := inR_inb (k := 6) (by decide)
theorem op_hill (k v : Int32) : OpI (mi_X3_hill k v) (mi_X4_hill k v) := by
  intro c M hc hS
  obtain ⟨hw, hs, ht, ha, -⟩ := id hS.1
  have h8 := hw.2.1
  cases hk : inb k 7 with
  | false =>
    refine op_find 0 (by decide) hS ?_ (fun K hK => ?_)
    · unfold mi_X3_hill pi_X3_hill_e
      rw [x_out, bd_s, inR6, hk, if01, if_f]; exact fx_ 0 0 rfl M
    · unfold mi_X4_hill pi_X4_hill_e
      rw [m_kind, bd_s, hk, if10, if_f]; exact fm_ 0 _ low0.symm K
  | true =>
  cases hv : inb v 12 with
  | false =>
    refine op_find 0 (by decide) hS ?_ (fun K hK => ?_)
    · unfold mi_X3_hill pi_X3_hill_e
      rw [x_out, bd_s, inR6, hk, if01, if_t, x_nov, bd_s, hv, if01, if_f]; exact fx_ 0 0 rfl M
    · unfold mi_X4_hill pi_X4_hill_e
      rw [m_kind, bd_s, hk, if10, if_t, m_val, bd_s, hv, if10, if_f]; exact fm_ 0 _ low0.symm K
  | true =>
  have e8 : (8 : Int32).toInt = 8 := by decide
  have en : (nI (nH (M 50))).toInt = nH (M 50) := nI_toInt (by omega)
  by_cases hn : nH (M 50) < 8
  · obtain ⟨K, k1, k2, k3, k4⟩ := hd_raise (k := k) (v := v) hs hw hn hk hv
    have k50 : K 50 = M 50 := k4 50 (by omega)
    obtain ⟨Q, q1, q2, q3⟩ := md_comes (M := K) k v 1 0 50 (by rw [k50]; exact hw) (by rw [k50]; exact hn)
    rw [k50] at q1 q2
    refine ⟨nI (nH (M 50)), K, Q, ?_, ?_, ?_⟩
    · unfold mi_X3_hill pi_X3_hill_e mi_X2_isCrowded pi_X2_isCrowded_e
      rw [x_out, bd_s, inR6, hk, if01, if_t, x_nov, bd_s, hv, if01, if_t, hs.2.2.2.1, hw.1, if_pos (show nI (nH (M 50)) < 8 from i_lt.mpr (by omega)), isB0, gd_t, bd_s, if_pos rfl, bd_id, k1]
    · unfold mi_X4_hill pi_X4_hill_e
      rw [m_kind, bd_s, hk, if10, if_t, m_val, bd_s, hv, if10, if_t, in1_62, gd_t, tN1, k50, hw.1, if_neg (show ¬ nI (nH (M 50)) = 8 from fun z => by have := i_eq.mp z; omega), bd_id, q1]
    · refine sim_row hS (Nat.le_succ c) (fun a h => k4 a (by omega)) k2 k3 (wf_add hw hn hk hv (by decide) (by decide) (by decide)) ?_ (fun a h1 _ => q3 a h1) q2
      unfold AgB addN
      rw [upd_o (by omega), upd_o (by omega), upd_o (by omega), upd_o (by omega), upd_o (by omega), upd_o (by omega), upd_o (by omega)]
      exact ha.up
  · refine op_find 1 (by decide) hS ?_ (fun K hK => ?_)
    · unfold mi_X3_hill pi_X3_hill_e mi_X2_isCrowded pi_X2_isCrowded_e
      rw [x_out, bd_s, inR6, hk, if01, if_t, x_nov, bd_s, hv, if01, if_t, hs.2.2.2.1, hw.1, if_neg (show ¬ nI (nH (M 50)) < 8 from fun z => by have := i_lt.mp z; omega), isB1, gd_t, bd_s, if_neg (show ¬ (1 : Int32) = 0 by decide)]
      exact fx_ 1 1 rfl M
    · unfold mi_X4_hill pi_X4_hill_e
      rw [m_kind, bd_s, hk, if10, if_t, m_val, bd_s, hv, if10, if_t, in1_62, gd_t, tN1, hK 50 (by decide), hw.1, if_pos (show nI (nH (M 50)) = 8 from i_eq.mpr (by omega))]
      exact fm_ 1 _ low1.symm K
theorem inR_iff {v lo hi : Int32} : inR v lo hi = true ↔ lo.toInt ≤ v.toInt ∧ v.toInt ≤ hi.toInt := by
  unfold inR
  rw [Bool.and_eq_true, decide_eq_true_iff, decide_eq_true_iff, i_le, i_le]
def ltO (f : Nat) : Int32 := if f = 2 then -5 else 0
def moO (f : Nat) : Int32 := match f with
  | 0 => 6
  | 1 => 11
  | 2 => 5
  | 3 => 3
  | 4 => 99
  | _ => 9999
theorem x_least {f : Nat} (hf : f < 6) (M : Mem) : mi_X3_leastOf (nI f) M = some (ltO f, M) := by
  rcases (by omega : f = 0 ∨ f = 1 ∨ f = 2 ∨ f = 3 ∨ f = 4 ∨ f = 5) with rfl | rfl | rfl | rfl | rfl | rfl <;> rfl
theorem x_most {f : Nat} (hf : f < 6) (M : Mem) : mi_X3_mostOf (nI f) M = some (moO f, M) := by
  rcases (by omega : f = 0 ∨ f = 1 ∨ f = 2 ∨ f = 3 ∨ f = 4 ∨ f = 5) with rfl | rfl | rfl | rfl | rfl | rfl <;> rfl
theorem m_may {f : Nat} (hf : f < 6) (v : Int32) (M : Mem) : mi_X4_mayBe (nI f) v M = some (if inR v (ltO f) (moO f) = true then 1 else 0, M) := by
  unfold mi_X4_mayBe pi_X4_mayBe_e
  rw [m_kind, bd_s, isB_if, gd_t, m_val, bd_s, isB_if, gd_t, m_in, bd_s, isB_if, gd_t, m_in, bd_s, isB_if, gd_t, m_high, bd_s, isB_if, gd_t, m_in, bd_s, isB_if, gd_t]
  rcases (by omega : f = 0 ∨ f = 1 ∨ f = 2 ∨ f = 3 ∨ f = 4 ∨ f = 5) with rfl | rfl | rfl | rfl | rfl | rfl
  · rw [swc_y (by decide), show inR v (ltO 0) (moO 0) = inb v 7 from inR_inb (k := 6) (by decide)]
  · rw [swc_n (by decide), swc_y (by decide), show inR v (ltO 1) (moO 1) = inb v 12 from inR_inb (k := 11) (by decide)]
  · rw [swc_n (by decide), swc_n (by decide), swc_y (by decide)]; rfl
  · rw [swc_n (by decide), swc_n (by decide), swc_n (by decide), swc_y (by decide)]; rfl
  · rw [swc_n (by decide), swc_n (by decide), swc_n (by decide), swc_n (by decide), swc_y (by decide), show inR v (ltO 4) (moO 4) = inb v 100 from inR_inb (k := 99) (by decide)]
  · rw [swc_n (by decide), swc_n (by decide), swc_n (by decide), swc_n (by decide), swc_n (by decide), swc_y (by decide)]; rfl
theorem m_may_no {w : Int32} (hf : inb w 6 = false) (v : Int32) (M : Mem) : mi_X4_mayBe w v M = some (0, M) := by
  have h : ∀ j, j < 6 → w ≠ nI j := fun j hj z => by rw [z, inb_nI hj (by decide)] at hf; cases hf
  unfold mi_X4_mayBe pi_X4_mayBe_e
  rw [swc_n (k := 0) (h 0 (by decide)), swc_n (k := 1) (h 1 (by decide)), swc_n (k := 2) (h 2 (by decide)), swc_n (k := 3) (h 3 (by decide)), swc_n (k := 4) (h 4 (by decide)), swc_n (k := 5) (h 5 (by decide)), swc_0, isB0, gd_t]
theorem may_ok {f : Nat} {v : Int32} (hf : f < 6) (h : inR v (ltO f) (moO f) = true) : okT f v := by
  have h1 := inR_iff.mp h
  rcases (by omega : f = 0 ∨ f = 1 ∨ f = 2 ∨ f = 3 ∨ f = 4 ∨ f = 5) with rfl | rfl | rfl | rfl | rfl | rfl
  · have e : (ltO 0).toInt = 0 ∧ (moO 0).toInt = 6 := by decide
    exact ⟨fun _ => inb_iff.mpr (by omega), fun z => absurd z (by decide), fun z => absurd z (by decide), fun z => absurd z (by decide), fun z => absurd z (by decide), fun z => absurd z (by decide)⟩
  · have e : (ltO 1).toInt = 0 ∧ (moO 1).toInt = 11 := by decide
    exact ⟨fun z => absurd z (by decide), fun _ => inb_iff.mpr (by omega), fun z => absurd z (by decide), fun z => absurd z (by decide), fun z => absurd z (by decide), fun z => absurd z (by decide)⟩
  · have e : (ltO 2).toInt = -5 ∧ (moO 2).toInt = 5 := by decide
    exact ⟨fun z => absurd z (by decide), fun z => absurd z (by decide), fun _ => by omega, fun z => absurd z (by decide), fun z => absurd z (by decide), fun z => absurd z (by decide)⟩
  · have e : (ltO 3).toInt = 0 ∧ (moO 3).toInt = 3 := by decide
    exact ⟨fun z => absurd z (by decide), fun z => absurd z (by decide), fun z => absurd z (by decide), fun _ => inb_iff.mpr (by omega), fun z => absurd z (by decide), fun z => absurd z (by decide)⟩
  · have e : (ltO 4).toInt = 0 ∧ (moO 4).toInt = 99 := by decide
    exact ⟨fun z => absurd z (by decide), fun z => absurd z (by decide), fun z => absurd z (by decide), fun z => absurd z (by decide), fun _ => inb_iff.mpr (by omega), fun z => absurd z (by decide)⟩
  · have e : (ltO 5).toInt = 0 ∧ (moO 5).toInt = 9999 := by decide
    exact ⟨fun z => absurd z (by decide), fun z => absurd z (by decide), fun z => absurd z (by decide), fun z => absurd z (by decide), fun z => absurd z (by decide), fun _ => inb_iff.mpr (by omega)⟩
theorem hd_trait {b h f : Nat} {M : Mem} {N : Nat → Int32} (hs : ShR b M N) (hh : h < 8) (hf : f < 6) : mi_X2_trait b (nI h) (nI f) M = some (N (14 + 6 * h + f), M) := by
  obtain ⟨q0, q1, q2, q3, q4, q5⟩ := hs.2.2.2.2.2 h hh
  unfold mi_X2_trait pi_X2_trait_e
  rw [inb_nI hh (by decide), gd_t, gd_t, gd_t, gd_t, gd_t, gd_t, gd_t, nI_clamp (by omega)]
  rcases (by omega : f = 0 ∨ f = 1 ∨ f = 2 ∨ f = 3 ∨ f = 4 ∨ f = 5) with rfl | rfl | rfl | rfl | rfl | rfl
  · rw [swc_y (by decide), q0]; rfl
  · rw [swc_n (by decide), swc_y (by decide), q1]; rfl
  · rw [swc_n (by decide), swc_n (by decide), swc_y (by decide), q2]; rfl
  · rw [swc_n (by decide), swc_n (by decide), swc_n (by decide), swc_y (by decide), q3]; rfl
  · rw [swc_n (by decide), swc_n (by decide), swc_n (by decide), swc_n (by decide), swc_y (by decide), q4]; rfl
  · rw [swc_n (by decide), swc_n (by decide), swc_n (by decide), swc_n (by decide), swc_n (by decide), swc_y (by decide), q5]; rfl
theorem inR5 {v : Int32} : inR v 0 5 = inb v 6 := inR_inb (k := 5) (by decide)
theorem op_change (v w x : Int32) : OpI (mi_X3_change v w x) (mi_X4_change v w x) := by
  intro c M hc hS
  obtain ⟨hw, hs, ht, ha, -⟩ := id hS.1
  have h8 := hw.2.1
  cases hv : inb v (nH (M 50)) with
  | false =>
    refine op_find 0 (by decide) hS ?_ (fun K hK => ?_)
    · unfold mi_X3_change pi_X3_change_e
      rw [x_lacks v hs hw, bd_s, hv, if01, if_f]; exact fx_ 0 0 rfl M
    · have k50 : K 50 = M 50 := hK 50 (by decide)
      unfold mi_X4_change pi_X4_change_e
      rw [m_hill v (by rw [k50]; exact hw), bd_s, k50, hv, if10, if_f]; exact fm_ 0 _ low0.symm K
  | true =>
  cases hf : inb w 6 with
  | false =>
    refine op_find 0 (by decide) hS ?_ (fun K hK => ?_)
    · unfold mi_X3_change pi_X3_change_e
      rw [x_lacks v hs hw, bd_s, hv, if01, if_t, x_out, bd_s, inR5, hf, if01, if_f]; exact fx_ 0 0 rfl M
    · have k50 : K 50 = M 50 := hK 50 (by decide)
      unfold mi_X4_change pi_X4_change_e
      rw [m_hill v (by rw [k50]; exact hw), bd_s, k50, hv, if10, if_t, m_may_no hf, bd_s, if_pos rfl]; exact fm_ 0 _ low0.symm K
  | true =>
  obtain ⟨h, hh, rfl⟩ := inb_of hv (by omega)
  obtain ⟨f, hlt, rfl⟩ := inb_of hf (by decide)
  cases hx : inR x (ltO f) (moO f) with
  | false =>
    refine op_find 0 (by decide) hS ?_ (fun K hK => ?_)
    · unfold mi_X3_change pi_X3_change_e
      rw [x_lacks _ hs hw, bd_s, hv, if01, if_t, x_out, bd_s, inR5, hf, if01, if_t, x_least hlt, bd_s, x_most hlt, bd_s, x_out, bd_s, hx, if01, if_f]; exact fx_ 0 0 rfl M
    · have k50 : K 50 = M 50 := hK 50 (by decide)
      unfold mi_X4_change pi_X4_change_e
      rw [m_hill _ (by rw [k50]; exact hw), bd_s, k50, hv, if10, if_t, m_may hlt, bd_s, hx, if10, if_f]; exact fm_ 0 _ low0.symm K
  | true =>
    obtain ⟨K, k1, k2, k3, k4⟩ := hd_set (h := h) (v := x) hs hw (by omega) hlt (may_ok hlt hx)
    have k50 : K 50 = M 50 := k4 50 (by omega)
    refine ⟨M 50 (14 + 6 * h + f), K, up K 50 (14 + 6 * h + f) x, ?_, ?_, ?_⟩
    · unfold mi_X3_change pi_X3_change_e
      rw [x_lacks _ hs hw, bd_s, hv, if01, if_t, x_out, bd_s, inR5, hf, if01, if_t, x_least hlt, bd_s, x_most hlt, bd_s, x_out, bd_s, hx, if01, if_t, hd_trait hs (by omega) hlt, bd_s, k1, bv_s]
    · unfold mi_X4_change pi_X4_change_e
      rw [m_hill _ (by rw [k50]; exact hw), bd_s, k50, hv, if10, if_t, m_may hlt, bd_s, hx, if10, if_t, md_atf K _ (f := f) rfl, bd_s, bd_id, md_become _ (by omega), k50]
    · refine sim_row hS (Nat.le_succ c) (fun a h => k4 a (by omega)) k2 k3 (wf_set hw hlt (may_ok hlt hx)) ?_ (fun a h1 _ => up_o h1) (by rw [up_s, k50])
      unfold AgB
      rw [upd_o (by omega)]; exact ha.up
theorem inR10 {v : Int32} : inR v 0 10 = inb v 11 := inR_inb (k := 10) (by decide)
theorem hd_face {b h : Nat} {M : Mem} {N : Nat → Int32} (ht : TbR b M N) (hw : Wf N) (hh : h < nH N) : mi_X2_trait b (nI h) (nI 6) M = some (fcN N h, M) := by
  have h8 := hw.2.1
  unfold mi_X2_trait pi_X2_trait_e
  rw [inb_nI (show h < 8 by omega) (by decide), gd_t, gd_t, gd_t, gd_t, gd_t, gd_t, gd_t, nI_clamp (by omega)]
  rw [swc_n (by decide), swc_n (by decide), swc_n (by decide), swc_n (by decide), swc_n (by decide), swc_n (by decide), swc_0, (ht.1 h hh).1]
theorem md_fieldIs {h f : Nat} (M : Mem) (hh : h < 8) (hf : f < 6) : mi_X4_hillIs (nI h) (nI f) M = some (M 50 (14 + 6 * h + f), M) := by
  unfold mi_X4_hillIs pi_X4_hillIs_e
  rw [md_atf M _ (f := f) rfl, bd_s, inb_nI (by omega) (by decide), gd_t, nI_clamp (by omega)]
theorem op_of (v w : Int32) : OpI (mi_X3_of v w) (mi_X4_of v w) := by
  intro c M hc hS
  obtain ⟨hw, hs, ht, ha, hk, hfc, -⟩ := id hS.1
  have h8 := hw.2.1
  cases hv : inb v (nH (M 50)) with
  | false =>
    refine op_find 0 (by decide) hS ?_ (fun K hK => ?_)
    · unfold mi_X3_of pi_X3_of_e
      rw [x_lacks v hs hw, bd_s, hv, if01, if_f]; exact fx_ 0 0 rfl M
    · have k50 : K 50 = M 50 := hK 50 (by decide)
      unfold mi_X4_of pi_X4_of_e
      rw [m_hill v (by rw [k50]; exact hw), bd_s, k50, hv, if10, if_f]; exact fm_ 0 _ low0.symm K
  | true =>
  cases hf : inb w 11 with
  | false =>
    refine op_find 0 (by decide) hS ?_ (fun K hK => ?_)
    · unfold mi_X3_of pi_X3_of_e
      rw [x_lacks v hs hw, bd_s, hv, if01, if_t, x_out, bd_s, inR10, hf, if01, if_f]; exact fx_ 0 0 rfl M
    · have k50 : K 50 = M 50 := hK 50 (by decide)
      unfold mi_X4_of pi_X4_of_e
      rw [m_hill v (by rw [k50]; exact hw), bd_s, k50, hv, if10, if_t, m_in, bd_s, inR10, hf, if10, if_f]; exact fm_ 0 _ low0.symm K
  | true =>
  obtain ⟨h, hh, rfl⟩ := inb_of hv (by omega)
  obtain ⟨f, hlt, rfl⟩ := inb_of hf (by decide)
  obtain ⟨Q, q1, q2, q3⟩ := md_looks hw hfc
  obtain ⟨g1, g2, g3, g4⟩ := q3 h hh
  have q50 : Q 50 = M 50 := q2 50 (by unfold Sc; omega)
  have hh8 : inb (nI h) 8 = true := inb_nI (by omega) (by decide)
  have eq : Eqv M Q := Eqv.of (fun a _ _ n1 n2 n3 n4 _ _ => q2 a (by unfold Sc; omega))
  have hx : mi_X3_of (nI h) (nI f) M = swc (nI f) [(7, bd (mi_X2_movesOf 1 (nI h) M) fun r_6 M_5 => some (r_6, M_5)), (8, bd (mi_X2_turnsOf 1 (nI h) M) fun r_8 M_7 => some (r_8, M_7)), (9, bd (mi_X2_sinksOf 1 (nI h) M) fun r_10 M_9 => some (r_10, M_9)), (10, bd (mi_X2_meetsOf 1 (nI h) M) fun r_12 M_11 => some (r_12, M_11))] (bd (mi_X2_trait 1 (nI h) (nI f) M) fun r_14 M_13 => some (r_14, M_13)) := by
    unfold mi_X3_of pi_X3_of_e
    rw [x_lacks _ hs hw, bd_s, hv, if01, if_t, x_out, bd_s, inR10, hf, if01, if_t]
  have hm : mi_X4_of (nI h) (nI f) M = swc (nI f) [(6, bd (mi_X4_facesOf (nI h) Q) fun r_9 M_8 => some (r_9, M_8)), (7, gd (inb (nI h) 8) <| some (Q 56 (nI h).toNatClampNeg, Q)), (8, gd (inb (nI h) 8) <| some (Q 57 (nI h).toNatClampNeg, Q)), (9, gd (inb (nI h) 8) <| some (Q 58 (nI h).toNatClampNeg, Q)), (10, gd (inb (nI h) 8) <| some (Q 55 (nI h).toNatClampNeg, Q))] (bd (mi_X4_hillIs (nI h) (nI f) Q) fun r_15 M_14 => some (r_15, M_14)) := by
    unfold mi_X4_of pi_X4_of_e
    rw [m_hill _ hw, bd_s, hv, if10, if_t, m_in, bd_s, inR10, hf, if10, if_t, q1, bv_s]
  rw [hh8, gd_t, gd_t, gd_t, gd_t, nI_clamp (by omega), g1, g2, g3, g4] at hm
  have fin : ∀ r : Int32, mi_X3_of (nI h) (nI f) M = some (r, M) → mi_X4_of (nI h) (nI f) M = some (r, Q) → ∃ (r : Int32) (K Q : Mem), mi_X3_of (nI h) (nI f) M = some (r, K) ∧ mi_X4_of (nI h) (nI f) K = some (r, Q) ∧ Sim (c + 1) Q := fun r a1 a2 => op_ask hS a1 Eqv.rf ⟨Q, a2, eq⟩
  by_cases c6 : f < 6
  · refine fin (M 50 (14 + 6 * h + f)) ?_ ?_
    · rw [hx, hd_trait hs (by omega) c6, bd_s]
      rcases (by omega : f = 0 ∨ f = 1 ∨ f = 2 ∨ f = 3 ∨ f = 4 ∨ f = 5) with rfl | rfl | rfl | rfl | rfl | rfl <;> rw [swc_n (by decide), swc_n (by decide), swc_n (by decide), swc_n (by decide), swc_0]
    · rw [hm, md_fieldIs Q (by omega) c6, bd_s, q50]
      rcases (by omega : f = 0 ∨ f = 1 ∨ f = 2 ∨ f = 3 ∨ f = 4 ∨ f = 5) with rfl | rfl | rfl | rfl | rfl | rfl <;> rw [swc_n (by decide), swc_n (by decide), swc_n (by decide), swc_n (by decide), swc_n (by decide), swc_0]
  · rcases (by omega : f = 6 ∨ f = 7 ∨ f = 8 ∨ f = 9 ∨ f = 10) with rfl | rfl | rfl | rfl | rfl
    · refine fin (fcN (M 50) h) ?_ ?_
      · rw [hx, swc_n (by decide), swc_n (by decide), swc_n (by decide), swc_n (by decide), swc_0, hd_face ht hw hh, bd_s]
      · rw [hm, swc_y (by decide), md_faces (by omega) (by rw [q50]; exact hw) (by unfold Fc; rw [q2 54 (by unfold Sc; omega)]; exact hfc), bd_s, q50]
    · refine fin (mvN (M 50) h) ?_ ?_
      · rw [hx, swc_y (by decide), hd_moves hs ht hw hh, bd_s]
      · rw [hm, swc_n (by decide), swc_y (by decide)]
    · refine fin (tnN (M 50) h) ?_ ?_
      · rw [hx, swc_n (by decide), swc_y (by decide), hd_turns hs hw hh, bd_s]
      · rw [hm, swc_n (by decide), swc_n (by decide), swc_y (by decide)]
    · refine fin (skN (M 50) h) ?_ ?_
      · rw [hx, swc_n (by decide), swc_n (by decide), swc_y (by decide), hd_sinks hs hw hh, bd_s]
      · rw [hm, swc_n (by decide), swc_n (by decide), swc_n (by decide), swc_y (by decide)]
    · refine fin (mtN (M 50) h) ?_ ?_
      · unfold mi_X2_meetsOf pi_X2_meetsOf_e at hx
        rw [hx, swc_n (by decide), swc_n (by decide), swc_n (by decide), swc_y (by decide), hh8, gd_t, bd_s, nI_clamp (by omega), (ht.1 h hh).2]
      · rw [hm, swc_n (by decide), swc_n (by decide), swc_n (by decide), swc_n (by decide), swc_y (by decide)]
