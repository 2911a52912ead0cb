/-! the sheets: judge -/
theorem lp_cnt {G : (Int32 × Mem → Option (Int32 × Mem)) → Int32 → Mem → Option (Int32 × Mem)} {M : Mem} {res : Option (Int32 × Mem)} (n : Nat) (hn : n ≤ 900)
    (hs : ∀ k, k < n → ∀ rec, G rec (nI k) M = rec (nI (k + 1), M)) (he : ∀ rec, G rec (nI n) M = res) : lp (fun rc x => G rc x.1 x.2) FU (0, M) = res :=
  lp_for (fun k => (nI k, M)) n _ (fun k hk rec => hs k hk rec) (fun rec => he rec) (FU_le (by omega))
theorem x_wrong {M : Mem} (v : Int32) (h4 : Sh4 M) : mi_X3_wrongWithSheet v M = some (if inb v 4 = true then (if M 62 v.toNatClampNeg = 0 then 5 else -1) else 0, M) := by
  unfold mi_X3_wrongWithSheet pi_X3_wrongWithSheet_e mi_X1_isMissing pi_X1_isMissing_e
  rw [x_nos, bd_s, if01]
  cases hv : inb v 4 with
  | false => rfl
  | true =>
    obtain ⟨z, hz, rfl⟩ := inb_of hv (by decide)
    rw [if_t, if_t, gd_t, nI_clamp (by omega), (h4 z hz).1, isB0, isB1, gd_t, gd_t]
    by_cases q : M 62 z = 0
    · rw [if_pos q, if_pos q]; rfl
    · rw [if_neg q, if_neg q]; rfl
theorem m_lackS {M : Mem} (v : Int32) : mi_X4_lacksSheet v M = some (if inb v 4 = true then (if M 62 v.toNatClampNeg = 0 then -1000006 else 0) else -1000001, M) := by
  unfold mi_X4_lacksSheet pi_X4_lacksSheet_e
  rw [m_sheet, bd_s, if10]
  cases hv : inb v 4 with
  | false => rfl
  | true =>
    rw [if_t, if_t, gd_t]
    by_cases q : M 62 v.toNatClampNeg = 0
    · rw [if_pos q, if_pos q]
    · rw [if_neg q, if_neg q]
def juP (M : Mem) (z k : Nat) : Bool := !(decide (k < nH (M 50)) && decide (fcN (M 50) k = M 64 (40 * z + k)))
theorem inb_k {k n : Nat} (hk : k < 900) (hn : n < 900) : inb (nI k) n = decide (k < n) := by
  by_cases c : k < n
  · rw [inb_nI c (by omega), decide_eq_true c]
  · rw [decide_eq_false c]
    cases h : inb (nI k) n with
    | false => rfl
    | true =>
      have := inb_iff.mp h
      rw [nI_toInt (by omega)] at this
      omega
theorem op_judge (v : Int32) : OpI (mi_X3_judge v) (mi_X4_judge v) := by
  intro c M hc hS
  obtain ⟨hw, hs, ht, ha, hk, hfc, hrd, h4⟩ := id hS.1
  have h8 := hw.2.1
  cases hv : inb v 4 with
  | false =>
    refine op_find 0 (by decide) hS ?_ (fun K hK => ?_)
    · unfold mi_X3_judge pi_X3_judge_e
      rw [x_wrong v h4, bd_s, hv, if_f, if_neg (by decide)]; exact fx_ 0 0 rfl M
    · unfold mi_X4_judge pi_X4_judge_e
      rw [m_lackS v, bd_s, hv, if_f, if_neg (by decide), m_lackS v, bd_s, hv, if_f]; exact fm_ 0 _ low0.symm K
  | true =>
  obtain ⟨z, hz, rfl⟩ := inb_of hv (by decide)
  obtain ⟨s0, s1, s2, s3, s4⟩ := h4 z hz
  have cz : (nI z).toNatClampNeg = z := nI_clamp (by omega)
  by_cases q : M 62 z = 0
  · refine op_find 5 (by decide) hS ?_ (fun K hK => ?_)
    · unfold mi_X3_judge pi_X3_judge_e
      rw [x_wrong _ h4, bd_s, hv, if_t, cz, if_pos q, if_neg (by decide)]; exact fx_ 5 5 rfl M
    · have k62 : K 62 = M 62 := hK 62 (by decide)
      unfold mi_X4_judge pi_X4_judge_e
      rw [m_lackS, bd_s, hv, if_t, cz, k62, if_pos q, if_neg (by decide), m_lackS, bd_s, hv, if_t, cz, k62, if_pos q]; exact fm_ 5 _ low5.symm K
  obtain ⟨s, hs40, es⟩ := inb_of s3 (by decide)
  have hX : mi_X3_judge (nI z) M = lp (fun rc26 x => pi_X3_judge_26 (nI z) (40 + 2 * z) rc26 x.1 x.2) FU (0, M) := by
    unfold mi_X3_judge pi_X3_judge_e
    rw [x_wrong _ h4, bd_s, hv, if_t, cz, if_neg q, if_pos (by decide), gd_t]
  have hM : mi_X4_judge (nI z) M = lp (fun rc20 x => pi_X4_judge_20 (nI z) rc20 x.1 x.2) FU (0, M) := by
    unfold mi_X4_judge pi_X4_judge_e
    rw [m_lackS, bd_s, hv, if_t, cz, if_neg q, if_pos rfl]
  have e40 : ∀ k, (40 : Int32) * nI z + nI k = nI (40 * z + k) := fun k => by
    rw [← nI_add]
    congr 1
    rcases (by omega : z = 0 ∨ z = 1 ∨ z = 2 ∨ z = 3) with rfl | rfl | rfl | rfl <;> decide
  have stX : ∀ k rec, k < s → pi_X3_judge_26 (nI z) (40 + 2 * z) rec (nI k) M = if juP M z k = true then some (1 + nI k, M) else rec (nI (k + 1), M) := by
    intro k rec hk
    unfold pi_X3_judge_26 juP
    rw [s2, es, if_neg (nI_ge hk (by omega)), x_lacks _ hs hw, bd_s, if01, inb_k (by omega) (by omega)]
    by_cases c1 : k < nH (M 50)
    · rw [decide_eq_true c1, if_t, hd_facedBy ht hw c1, bd_s, inb_nI (show k < 40 by omega) (by decide), gd_t, nI_clamp (by omega), s4 k (by omega), bI_e, nI_1]
      by_cases c2 : fcN (M 50) k = M 64 (40 * z + k)
      · rw [if_pos c2, decide_eq_true c2]; rfl
      · rw [if_neg c2, decide_eq_false c2]; rfl
    · rw [decide_eq_false c1, if_f]; rfl
  have stM : ∀ k rec, k < s → pi_X4_judge_20 (nI z) rec (nI k) M = if juP M z k = true then some (1 + nI k, M) else rec (nI (k + 1), M) := by
    intro k rec hk
    have e63 : pi_X4_judge_63 (nI z) (nI k) M = some (1 + nI k, M) := by
      unfold pi_X4_judge_63
      rw [hv, gd_t, cz, es, if_neg (show ¬ nI k = nI s from fun q => by have := nI_inj (by omega) (by omega) q; omega)]
    unfold pi_X4_judge_20 juP
    rw [hv, gd_t, cz, es, if_neg (nI_ge hk (by omega)), m_hill _ hw, bd_s, if10, inb_k (by omega) (by omega)]
    by_cases c1 : k < nH (M 50)
    · rw [decide_eq_true c1, if_t, e40, inb_nI (show 40 * z + k < 160 by omega) (by decide), gd_t, md_faces (by omega) hw hfc, bd_s, nI_clamp (by omega), bI_e, nI_1]
      by_cases c2 : fcN (M 50) k = M 64 (40 * z + k)
      · rw [if_pos c2.symm, decide_eq_true c2]; rfl
      · rw [if_neg (fun q => c2 q.symm), decide_eq_false c2, e63]; rfl
    · rw [decide_eq_false c1, if_f, e63]; rfl
  obtain ⟨r, hr⟩ := is_f (juP M z) s
  rcases hr with ⟨m, h1, h2, h3, -⟩ | ⟨h1, -⟩
  · refine op_ask hS (r := 1 + nI m) (K := M) (hX.trans ?_) Eqv.rf ⟨M, hM.trans ?_, Eqv.rf⟩
    · exact lp_cnt (G := pi_X3_judge_26 (nI z) (40 + 2 * z)) m (by omega) (fun k hk rec => by rw [stX k rec (by omega), h3 k hk, if_f]) (fun rec => by rw [stX m rec h1, h2, if_t])
    · exact lp_cnt (G := pi_X4_judge_20 (nI z)) m (by omega) (fun k hk rec => by rw [stM k rec (by omega), h3 k hk, if_f]) (fun rec => by rw [stM m rec h1, h2, if_t])
  · refine op_ask hS (r := 0) (K := M) (hX.trans ?_) Eqv.rf ⟨M, hM.trans ?_, Eqv.rf⟩
    · exact lp_cnt (G := pi_X3_judge_26 (nI z) (40 + 2 * z)) s (by omega) (fun k hk rec => by rw [stX k rec hk, h1 k hk, if_f]) (fun rec => by
        unfold pi_X3_judge_26
        rw [s2, es, if_pos (Int32.le_refl _)])
    · exact lp_cnt (G := pi_X4_judge_20 (nI z)) s (by omega) (fun k hk rec => by rw [stM k rec hk, h1 k hk, if_f]) (fun rec => by
        unfold pi_X4_judge_20 pi_X4_judge_63
        rw [hv, gd_t, cz, es, if_pos (Int32.le_refl _), gd_t, if_pos rfl])
