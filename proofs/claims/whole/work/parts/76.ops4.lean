/-! now, count, valley, as, wipe, feed -/
theorem lp_acc {G : (Int32 × Int32 × Mem → Option (Int32 × Mem)) → Int32 → Int32 → Mem → Option (Int32 × Mem)} {M : Mem} {a0 : Int32} (acc : Nat → Int32) (n : Nat) (hn : n ≤ 60) (h0 : acc 0 = a0)
    (hs : ∀ k, k < n → ∀ rec, G rec (acc k) (nI k) M = rec (acc (k + 1), nI (k + 1), M)) (he : ∀ rec, G rec (acc n) (nI n) M = some (acc n, M)) :
    lp (fun rc x => G rc x.1 x.2.1 x.2.2) FU (a0, 0, M) = some (acc n, M) := by
  subst h0
  exact lp_for (fun k => (acc k, nI k, M)) n _ (fun k hk rec => hs k hk rec) (fun rec => he rec) (FU_le (by omega))
def smN (N : Nat → Int32) (f : Nat) : Nat → Int32
  | 0 => 0
  | k + 1 => smN N f k + N (14 + 6 * k + f)
theorem hd_sum {b f : Nat} {M : Mem} {N : Nat → Int32} (hs : ShR b M N) (hw : Wf N) (e : ∀ h, h < 8 → M (b + 2 + f) h = N (14 + 6 * h + f)) : mi_X2_sumOf b (b + 2 + f) 8 M = some (smN N f (nH N), M) := by
  have h8 := hw.2.1
  unfold mi_X2_sumOf pi_X2_sumOf_e
  refine lp_acc (G := pi_X2_sumOf_4 b (b + 2 + f) 8) (fun k => smN N f k) (nH N) (by omega) rfl (fun k hk rec => ?_) (fun rec => ?_)
  · unfold pi_X2_sumOf_4
    rw [hs.2.2.2.1, hw.1, if_neg (nI_ge hk (by omega)), inb_nI (show k < 8 by omega) (by decide), gd_t, bI_e, bI_e, nI_clamp (by omega), e k (by omega), nI_1]
    rfl
  · unfold pi_X2_sumOf_4
    rw [hs.2.2.2.1, hw.1, if_pos (Int32.le_refl _)]
theorem md_sum {f : Nat} {M : Mem} (hw : Wf (M 50)) (hf : f < 6) : mi_X4_sumOf (nI f) M = some (smN (M 50) f (nH (M 50)), M) := by
  have h8 := hw.2.1
  unfold mi_X4_sumOf pi_X4_sumOf_e
  refine lp_acc (G := pi_X4_sumOf_4 (nI f)) (fun k => smN (M 50) f k) (nH (M 50)) (by omega) rfl (fun k hk rec => ?_) (fun rec => ?_)
  · unfold pi_X4_sumOf_4
    rw [in1_62, gd_t, tN1, hw.1, if_neg (nI_ge hk (by omega)), md_hillIs (by omega) hf, bd_s, bI_e, bI_e, nI_1]
    rfl
  · unfold pi_X4_sumOf_4
    rw [in1_62, gd_t, tN1, hw.1, if_pos (Int32.le_refl _)]
theorem hd_heights {b : Nat} {M : Mem} {N : Nat → Int32} (hs : ShR b M N) (hw : Wf N) : mi_X2_heightOfAll b M = some (smN N 4 (nH N), M) := by
  unfold mi_X2_heightOfAll pi_X2_heightOfAll_e
  rw [show b + 6 = b + 2 + 4 from rfl, hd_sum (f := 4) hs hw (fun h hh => (hs.2.2.2.2.2 h hh).2.2.2.2.1), bd_s]
theorem hd_bows {b : Nat} {M : Mem} {N : Nat → Int32} (hs : ShR b M N) (hw : Wf N) : mi_X2_bowedOfAll b M = some (smN N 5 (nH N), M) := by
  unfold mi_X2_bowedOfAll pi_X2_bowedOfAll_e
  rw [show b + 7 = b + 2 + 5 from rfl, hd_sum (f := 5) hs hw (fun h hh => (hs.2.2.2.2.2 h hh).2.2.2.2.2), bd_s]
theorem hd_who {b : Nat} {M : Mem} {N : Nat → Int32} (hs : ShR b M N) (ht : TbR b M N) (hw : Wf N) : mi_X2_meeting b M = some (whoN N, M) := by
  unfold mi_X2_meeting pi_X2_meeting_e
  refine md_set (G := pi_X2_meeting_4 b) hw.2.1 ?_ ?_
  · intro k hk acc rec
    have h8 := hw.2.1
    unfold pi_X2_meeting_4
    rw [hs.2.2.2.1, hw.1, if_neg (nI_ge hk (by omega)), inb_nI (show k < 8 by omega) (by decide), gd_t, nI_clamp (by omega), (ht.1 k hk).2]
    by_cases h : mtN N k = 0
    · rw [if_pos h, bI_e, nI_1]; simp [h]
    · rw [if_neg h, bI_e, bI_e, nI_1]; simp [h, b1]
  · intro acc rec
    unfold pi_X2_meeting_4
    rw [hs.2.2.2.1, hw.1, if_pos (Int32.le_refl _)]
/-- the valleys that somebody stands at: the class asks each valley, the reference each hill -/
def orN (g : Nat → Int32) : Nat → Int32
  | 0 => 0
  | k + 1 => orN g k ||| (1 <<< (g k &&& 31))
theorem nI_inj {i j : Nat} (hi : i < 2 ^ 31) (hj : j < 2 ^ 31) (h : nI i = nI j) : i = j := by
  have := congrArg Int32.toNatClampNeg h
  rw [nI_clamp hi, nI_clamp hj] at this
  exact this
theorem bt_orN {g : Nat → Int32} {n : Nat} (hg : ∀ k, k < n → inb (g k) 12 = true) {i : Nat} (hi : i < 32) : bt (orN g n) i = true ↔ ∃ k, k < n ∧ g k = nI i := by
  induction n with
  | zero =>
    show bt 0 i = true ↔ _
    rw [b_0]
    exact Iff.intro (fun z => by cases z) (fun ⟨k, h, _⟩ => by omega)
  | succ n ih =>
    have ih' := ih (fun k hk => hg k (by omega))
    obtain ⟨j, hj, ej⟩ := inb_of (hg n (by omega)) (by decide)
    show bt (orN g n ||| (1 <<< (g n &&& 31))) i = true ↔ _
    rw [b_or, Bool.or_eq_true, ih', ej, show (1 <<< (nI j &&& 31) : Int32) = b1 j from rfl, bt_b1 (by omega) hi, decide_eq_true_iff]
    constructor
    · rintro (⟨k, h1, h2⟩ | h)
      · exact ⟨k, by omega, h2⟩
      · exact ⟨n, by omega, by rw [ej, h]⟩
    · rintro ⟨k, h1, h2⟩
      by_cases c : k = n
      · subst c
        rw [ej] at h2
        exact Or.inr (nI_inj (by omega) (by omega) h2).symm
      · exact Or.inl ⟨k, by omega, h2⟩
theorem orN_set {g : Nat → Int32} {n : Nat} (hn : n ≤ 32) (hg : ∀ k, k < n → inb (g k) 12 = true) : orN g n = bset (fun v => !(decide (bset (fun h => decide (g h = nI v)) n = 0))) 12 := by
  refine b_ext (fun i hi => ?_)
  rw [bt_bset _ 12 (by decide) i hi]
  apply Bool.eq_iff_iff.mpr
  rw [bt_orN hg hi, Bool.and_eq_true, decide_eq_true_iff, Bool.not_eq_true', decide_eq_false_iff_not, bset_0 hn]
  constructor
  · rintro ⟨k, h1, h2⟩
    refine ⟨?_, fun z => ?_⟩
    · have h3 := inb_iff.mp (hg k h1)
      rw [h2, nI_toInt (by omega)] at h3
      omega
    · have := z k h1
      rw [h2] at this
      simp at this
  · rintro ⟨_, h2⟩
    apply Classical.byContradiction
    intro h3
    apply h2
    intro k hk
    exact decide_eq_false (fun z => h3 ⟨k, hk, z⟩)
theorem md_set12 {G : (Int32 × Int32 × Mem → Option (Int32 × Mem)) → Int32 → Int32 → Mem → Option (Int32 × Mem)} {M : Mem} {P : Nat → Bool} {n : Nat} (hn : n ≤ 30)
    (hs : ∀ k, k < n → ∀ acc rec, G rec acc (nI k) M = rec (if P k then acc ||| b1 k else acc, nI (k + 1), M)) (he : ∀ acc rec, G rec acc (nI n) M = some (acc, M)) :
    lp (fun rc x => G rc x.1 x.2.1 x.2.2) FU (0, 0, M) = some (bset P n, M) :=
  lp_for (fun k => (bset P k, nI k, M)) n _ (fun k hk rec => hs k hk _ rec) (fun rec => he _ rec) (FU_le (by omega))
theorem hd_vin {k0 : Nat} {M : Mem} {g : Nat → Int32} (e : ∀ v, v < 12 → M k0 v = g v) : mi_X2_valleysIn k0 12 M = some (bset (fun v => !(decide (g v = 0))) 12, M) := by
  unfold mi_X2_valleysIn pi_X2_valleysIn_e
  refine md_set12 (G := pi_X2_valleysIn_4 k0 12) (by decide) ?_ ?_
  · intro k hk acc rec
    unfold pi_X2_valleysIn_4
    rw [show (12 : Int32) = nI 12 from rfl, if_neg (nI_ge hk (by omega)), inb_nI hk (by decide), gd_t, nI_clamp (by omega), e k hk]
    by_cases h : g k = 0
    · rw [if_pos h, bI_e, nI_1]; simp [h]
    · rw [if_neg h, bI_e, bI_e, nI_1]; simp [h, b1]
  · intro acc rec
    unfold pi_X2_valleysIn_4
    rw [if_pos (by decide)]
theorem md_vat {M : Mem} (hw : Wf (M 50)) : mi_X4_valleysAt M = some (orN (vaN (M 50)) (nH (M 50)), M) := by
  have h8 := hw.2.1
  unfold mi_X4_valleysAt pi_X4_valleysAt_e
  refine lp_acc (G := pi_X4_valleysAt_4) (fun k => orN (vaN (M 50)) k) (nH (M 50)) (by omega) rfl (fun k hk rec => ?_) (fun rec => ?_)
  · unfold pi_X4_valleysAt_4
    rw [in1_62, gd_t, tN1, hw.1, if_neg (nI_ge hk (by omega)), md_h1 (by omega), bd_s, bI_e, bI_e, nI_1]
    rfl
  · unfold pi_X4_valleysAt_4
    rw [in1_62, gd_t, tN1, hw.1, if_pos (Int32.le_refl _)]
theorem md_vfa {M : Mem} (hw : Wf (M 50)) (hf : Fc M) : mi_X4_valleysFaced M = some (orN (fcN (M 50)) (nH (M 50)), M) := by
  have h8 := hw.2.1
  unfold mi_X4_valleysFaced pi_X4_valleysFaced_e
  refine lp_acc (G := pi_X4_valleysFaced_4) (fun k => orN (fcN (M 50)) k) (nH (M 50)) (by omega) rfl (fun k hk rec => ?_) (fun rec => ?_)
  · unfold pi_X4_valleysFaced_4
    rw [in1_62, gd_t, tN1, hw.1, if_neg (nI_ge hk (by omega)), md_faces (by omega) hw hf, bd_s, bI_e, bI_e, nI_1]
    rfl
  · unfold pi_X4_valleysFaced_4
    rw [in1_62, gd_t, tN1, hw.1, if_pos (Int32.le_refl _)]
theorem hd_vat {b : Nat} {M : Mem} {N : Nat → Int32} (ht : TbR b M N) (hw : Wf N) : mi_X2_valleysStoodAt b M = some (orN (vaN N) (nH N), M) := by
  have h8 := hw.2.1
  unfold mi_X2_valleysStoodAt pi_X2_valleysStoodAt_e
  rw [hd_vin (g := fun v => stN N (nI v)) (fun v hv => (ht.2 v hv).1), bd_s, orN_set (by omega) (fun k hk => (hw.2.2.2.1 k (by omega)).2.1)]
  rfl
theorem hd_vfa {b : Nat} {M : Mem} {N : Nat → Int32} (ht : TbR b M N) (hw : Wf N) : mi_X2_valleysFaced b M = some (orN (fcN N) (nH N), M) := by
  have h8 := hw.2.1
  unfold mi_X2_valleysFaced pi_X2_valleysFaced_e
  rw [hd_vin (g := fun v => loN N (nI v)) (fun v hv => (ht.2 v hv).2), bd_s, orN_set (by omega) (fun k hk => fcN_in)]
  rfl
theorem op_now (v : Int32) : OpI (mi_X3_now v) (mi_X4_now v) := by
  intro c M hc hS
  obtain ⟨hw, hs, ht, ha, hk, hfc, -⟩ := id hS.1
  have fin : ∀ r : Int32, mi_X3_now v M = some (r, M) → mi_X4_now v M = some (r, M) → ∃ (r : Int32) (K Q : Mem), mi_X3_now v M = some (r, K) ∧ mi_X4_now v K = some (r, Q) ∧ Sim (c + 1) Q := fun r a1 a2 => op_ask hS a1 Eqv.rf ⟨M, a2, Eqv.rf⟩
  unfold mi_X3_now pi_X3_now_e mi_X4_now pi_X4_now_e at fin
  by_cases c0 : v = 0
  · refine fin (M 50 0) ?_ ?_
    · rw [swc_y c0, hs.2.1]
    · rw [swc_y c0, in0_62, gd_t, tN0]
  by_cases c1 : v = 1
  · refine fin _ (by rw [swc_n c0, swc_y c1, hd_heights hs hw, bd_s]) ?_
    rw [swc_n c0, swc_y c1, show (4 : Int32) = nI 4 from rfl, md_sum hw (by decide), bd_s]
  by_cases c2 : v = 2
  · refine fin _ (by rw [swc_n c0, swc_n c1, swc_y c2, hd_who hs ht hw, bd_s]) ?_
    rw [swc_n c0, swc_n c1, swc_y c2, md_who hw hfc, bd_s]
  by_cases c3 : v = 3
  · refine fin _ (by rw [swc_n c0, swc_n c1, swc_n c2, swc_y c3, hd_vat ht hw, bd_s]) ?_
    rw [swc_n c0, swc_n c1, swc_n c2, swc_y c3, md_vat hw, bd_s]
  by_cases c4 : v = 4
  · refine fin _ (by rw [swc_n c0, swc_n c1, swc_n c2, swc_n c3, swc_y c4, hd_vfa ht hw, bd_s]) ?_
    rw [swc_n c0, swc_n c1, swc_n c2, swc_n c3, swc_y c4, md_vfa hw hfc, bd_s]
  by_cases c5 : v = 5
  · refine fin _ (by rw [swc_n c0, swc_n c1, swc_n c2, swc_n c3, swc_n c4, swc_y c5, hd_bows hs hw, bd_s]) ?_
    rw [swc_n c0, swc_n c1, swc_n c2, swc_n c3, swc_n c4, swc_y c5, show (5 : Int32) = nI 5 from rfl, md_sum hw (by decide), bd_s]
  refine op_find 0 (by decide) hS ?_ (fun K hK => ?_)
  · unfold mi_X3_now pi_X3_now_e
    rw [swc_n c0, swc_n c1, swc_n c2, swc_n c3, swc_n c4, swc_n c5, swc_0]; exact fx_ 0 0 rfl M
  · unfold mi_X4_now pi_X4_now_e
    rw [swc_n c0, swc_n c1, swc_n c2, swc_n c3, swc_n c4, swc_n c5, swc_0]; exact fm_ 0 _ low0.symm K
def heN (N : Nat → Int32) : Nat → Int32
  | 0 => 0
  | k + 1 => if 0 ≤ N (4 + k) then heN N k + 1 else heN N k
theorem hd_held {b : Nat} {M : Mem} {N : Nat → Int32} (hs : ShR b M N) : mi_X2_spotsHeld b M = some (heN N 10, M) := by
  unfold mi_X2_spotsHeld pi_X2_spotsHeld_e
  refine lp_acc (G := pi_X2_spotsHeld_4 b) (fun k => heN N k) 10 (by omega) rfl (fun k hk rec => ?_) (fun rec => ?_)
  · unfold pi_X2_spotsHeld_4
    rw [show (10 : Int32) = nI 10 from rfl, if_neg (nI_ge hk (by omega)), inb_nI hk (by decide), gd_t, nI_clamp (by omega), hs.2.2.2.2.1 k hk]
    by_cases h : N (4 + k) < 0
    · rw [if_pos h, bI_e, nI_1, show heN N (k + 1) = heN N k from if_neg (fun z => nlt_le.mpr z h)]
    · rw [if_neg h, bI_e, bI_e, nI_1, show heN N (k + 1) = heN N k + 1 from if_pos (nlt_le.mp h)]
  · unfold pi_X2_spotsHeld_4
    rw [if_pos (by decide)]
theorem md_held {v : Int32} {M : Mem} : lp (fun rc96 x => pi_X4_count_96 v rc96 x.1 x.2.1 x.2.2) FU (0, 0, M) = some (heN (M 50) 10, M) := by
  refine lp_acc (G := pi_X4_count_96 v) (fun k => heN (M 50) k) 10 (by omega) rfl (fun k hk rec => ?_) (fun rec => ?_)
  · unfold pi_X4_count_96
    rw [show (10 : Int32) = nI 10 from rfl, if_neg (nI_ge hk (by omega)), show (4 : Int32) = nI 4 from rfl, nI_add, inb_nI (show 4 + k < 62 by omega) (by decide), gd_t, nI_clamp (by omega)]
    by_cases h : 0 ≤ M 50 (4 + k)
    · rw [if_pos h, bI_e, bI_e, nI_1, show heN (M 50) (k + 1) = heN (M 50) k + 1 from if_pos h]
    · rw [if_neg h, bI_e, bI_e, nI_1, Int32.add_zero, show heN (M 50) (k + 1) = heN (M 50) k from if_neg h]
  · unfold pi_X4_count_96
    rw [if_pos (by decide)]
theorem op_count (v : Int32) : OpI (mi_X3_count v) (mi_X4_count v) := by
  intro c M hc hS
  obtain ⟨hw, hs, ht, ha, hk, hfc, hrd, -⟩ := id hS.1
  have h8 := hw.2.1
  have fin : ∀ r : Int32, mi_X3_count v M = some (r, M) → mi_X4_count v M = some (r, M) → ∃ (r : Int32) (K Q : Mem), mi_X3_count v M = some (r, K) ∧ mi_X4_count v K = some (r, Q) ∧ Sim (c + 1) Q := fun r a1 a2 => op_ask hS a1 Eqv.rf ⟨M, a2, Eqv.rf⟩
  unfold mi_X3_count pi_X3_count_e mi_X4_count pi_X4_count_e at fin
  by_cases c0 : v = 0
  · refine fin (M 50 0) ?_ ?_
    · rw [swc_y c0, hs.2.1]
    · rw [swc_y c0, in0_62, gd_t, tN0]
  by_cases c1 : v = 1
  · refine fin (M 50 1) ?_ ?_
    · rw [swc_n c0, swc_y c1, hs.2.2.2.1]
    · rw [swc_n c0, swc_y c1, in1_62, gd_t, tN1]
  by_cases c2 : v = 2
  · refine fin (pc (whoN (M 50))) ?_ ?_
    · rw [swc_n c0, swc_n c1, swc_y c2, hd_who hs ht hw, bd_s]
      unfold whoN
      rw [hd_bc_set (by omega), bd_s]
    · rw [swc_n c0, swc_n c1, swc_y c2, md_who hw hfc, bd_s]
      unfold whoN
      rw [md_bits_set (by omega), bd_s]
  by_cases c3 : v = 3
  · refine fin _ (by rw [swc_n c0, swc_n c1, swc_n c2, swc_y c3, hd_heights hs hw, bd_s]) ?_
    rw [swc_n c0, swc_n c1, swc_n c2, swc_y c3, show (4 : Int32) = nI 4 from rfl, md_sum hw (by decide), bd_s]
  by_cases c4 : v = 4
  · refine fin _ (by rw [swc_n c0, swc_n c1, swc_n c2, swc_n c3, swc_y c4, hd_bows hs hw, bd_s]) ?_
    rw [swc_n c0, swc_n c1, swc_n c2, swc_n c3, swc_y c4, show (5 : Int32) = nI 5 from rfl, md_sum hw (by decide), bd_s]
  by_cases c5 : v = 5
  · obtain ⟨t, t1, t2, t3, t4⟩ := hrd
    refine fin (nI t) ?_ ?_
    · rw [swc_n c0, swc_n c1, swc_n c2, swc_n c3, swc_n c4, swc_y c5, t2]
    · rw [swc_n c0, swc_n c1, swc_n c2, swc_n c3, swc_n c4, swc_y c5, t3]
  by_cases c6 : v = 6
  · refine fin (M 50 2) ?_ ?_
    · rw [swc_n c0, swc_n c1, swc_n c2, swc_n c3, swc_n c4, swc_n c5, swc_y c6, hs.2.2.1]
    · rw [swc_n c0, swc_n c1, swc_n c2, swc_n c3, swc_n c4, swc_n c5, swc_y c6, in2_62, gd_t, tN2]
  by_cases c7 : v = 7
  · refine fin (heN (M 50) 10) ?_ ?_
    · rw [swc_n c0, swc_n c1, swc_n c2, swc_n c3, swc_n c4, swc_n c5, swc_n c6, swc_y c7, hd_held hs, bd_s]
    · rw [swc_n c0, swc_n c1, swc_n c2, swc_n c3, swc_n c4, swc_n c5, swc_n c6, swc_y c7, md_held]
  refine op_find 0 (by decide) hS ?_ (fun K hK => ?_)
  · unfold mi_X3_count pi_X3_count_e
    rw [swc_n c0, swc_n c1, swc_n c2, swc_n c3, swc_n c4, swc_n c5, swc_n c6, swc_n c7, swc_0]; exact fx_ 0 0 rfl M
  · unfold mi_X4_count pi_X4_count_e
    rw [swc_n c0, swc_n c1, swc_n c2, swc_n c3, swc_n c4, swc_n c5, swc_n c6, swc_n c7, swc_0]; exact fm_ 0 _ low0.symm K
def hgN (N : Nat → Int32) (v : Int32) : Nat → Int32
  | 0 => -1
  | k + 1 => if vaN N k = v then (if hiN N k ≤ hgN N v k then hgN N v k else hiN N k) else hgN N v k
theorem hd_highest {b : Nat} {M : Mem} {N : Nat → Int32} (v : Int32) (hs : ShR b M N) (hw : Wf N) : mi_X2_highestAt b v M = some (hgN N v (nH N), M) := by
  have h8 := hw.2.1
  unfold mi_X2_highestAt pi_X2_highestAt_e
  refine lp_acc (G := pi_X2_highestAt_4 b v) (fun k => hgN N v k) (nH N) (by omega) rfl (fun k hk rec => ?_) (fun rec => ?_)
  · unfold pi_X2_highestAt_4
    obtain ⟨q0, q1, q2, q3, q4, q5⟩ := hs.2.2.2.2.2 k (by omega)
    rw [hs.2.2.2.1, hw.1, if_neg (nI_ge hk (by omega)), inb_nI (show k < 8 by omega) (by decide), gd_t, gd_t, gd_t, nI_clamp (by omega), q1, q4]
    rw [show hgN N v (k + 1) = if vaN N k = v then (if hiN N k ≤ hgN N v k then hgN N v k else hiN N k) else hgN N v k from rfl]
    by_cases h : vaN N k = v
    · rw [if_pos h, if_pos h]
      by_cases g : hiN N k ≤ hgN N v k
      · rw [if_pos g, if_pos g, bI_e, nI_1]
      · rw [if_neg g, if_neg g, bI_e, bI_e, nI_1]
    · rw [if_neg h, if_neg h, bI_e, nI_1]
  · unfold pi_X2_highestAt_4
    rw [hs.2.2.2.1, hw.1, if_pos (Int32.le_refl _)]
theorem md_highest {M : Mem} (v : Int32) (hw : Wf (M 50)) : mi_X4_highestAt v M = some (hgN (M 50) v (nH (M 50)), M) := by
  have h8 := hw.2.1
  unfold mi_X4_highestAt pi_X4_highestAt_e
  refine lp_acc (G := pi_X4_highestAt_4 v) (fun k => hgN (M 50) v k) (nH (M 50)) (by omega) rfl (fun k hk rec => ?_) (fun rec => ?_)
  · unfold pi_X4_highestAt_4
    rw [in1_62, gd_t, tN1, hw.1, if_neg (nI_ge hk (by omega)), md_h1 (by omega), bd_s]
    by_cases h : vaN (M 50) k = v
    · rw [if_pos h, md_h4 (by omega), bd_s, bI_e, bI_e, nI_1]
      congr 2
      show (if hgN (M 50) v k < hiN (M 50) k then hiN (M 50) k else hgN (M 50) v k) = hgN (M 50) v (k + 1)
      rw [show hgN (M 50) v (k + 1) = if hiN (M 50) k ≤ hgN (M 50) v k then hgN (M 50) v k else hiN (M 50) k from if_pos h]
      by_cases g : hiN (M 50) k ≤ hgN (M 50) v k
      · rw [if_pos g, if_neg (fun z => nlt_le.mpr g z)]
      · rw [if_neg g, if_pos (i_lt.mpr (by have := mt i_le.mpr g; omega))]
    · rw [if_neg h, bI_e, nI_1, show hgN (M 50) v (k + 1) = hgN (M 50) v k from if_neg h]
  · unfold pi_X4_highestAt_4
    rw [in1_62, gd_t, tN1, hw.1, if_pos (Int32.le_refl _)]
theorem inR2 {v : Int32} : inR v 0 2 = inb v 3 := inR_inb (k := 2) (by decide)
theorem op_valley (v w : Int32) : OpI (mi_X3_valley v w) (mi_X4_valley v w) := by
  intro c M hc hS
  obtain ⟨hw, hs, ht, ha, hk, hfc, -⟩ := id hS.1
  have h8 := hw.2.1
  cases hv : inb v 12 with
  | false =>
    refine op_find 0 (by decide) hS ?_ (fun K hK => ?_)
    · unfold mi_X3_valley pi_X3_valley_e
      rw [x_nov, bd_s, hv, if01, if_f]; exact fx_ 0 0 rfl M
    · unfold mi_X4_valley pi_X4_valley_e
      rw [m_val, bd_s, hv, if10, if_f]; exact fm_ 0 _ low0.symm K
  | true =>
  cases hf : inb w 3 with
  | false =>
    refine op_find 0 (by decide) hS ?_ (fun K hK => ?_)
    · unfold mi_X3_valley pi_X3_valley_e
      rw [x_nov, bd_s, hv, if01, if_t, x_out, bd_s, inR2, hf, if01, if_f]; exact fx_ 0 0 rfl M
    · unfold mi_X4_valley pi_X4_valley_e
      rw [m_val, bd_s, hv, if10, if_t, m_in, bd_s, inR2, hf, if10, if_f]; exact fm_ 0 _ low0.symm K
  | true =>
  have fin : ∀ r : Int32, mi_X3_valley v w M = some (r, M) → mi_X4_valley v w M = some (r, M) → ∃ (r : Int32) (K Q : Mem), mi_X3_valley v w M = some (r, K) ∧ mi_X4_valley v w K = some (r, Q) ∧ Sim (c + 1) Q := fun r a1 a2 => op_ask hS a1 Eqv.rf ⟨M, a2, Eqv.rf⟩
  unfold mi_X3_valley pi_X3_valley_e mi_X4_valley pi_X4_valley_e mi_X2_standingAt pi_X2_standingAt_e mi_X2_facing pi_X2_facing_e at fin
  obtain ⟨j, hj, rfl⟩ := inb_of hv (by decide)
  by_cases c0 : w = 0
  · refine fin (stN (M 50) (nI j)) ?_ ?_
    · rw [x_nov, bd_s, hv, if01, if_t, x_out, bd_s, inR2, hf, if01, if_t, if_pos c0, gd_t, bd_s, nI_clamp (by omega), (ht.2 j hj).1]
    · rw [m_val, bd_s, hv, if10, if_t, m_in, bd_s, inR2, hf, if10, if_t, if_pos c0, md_atValley _ hw, bd_s]
  by_cases c1 : w = 1
  · refine fin (loN (M 50) (nI j)) ?_ ?_
    · rw [x_nov, bd_s, hv, if01, if_t, x_out, bd_s, inR2, hf, if01, if_t, if_neg c0, if_pos c1, gd_t, bd_s, nI_clamp (by omega), (ht.2 j hj).2]
    · rw [m_val, bd_s, hv, if10, if_t, m_in, bd_s, inR2, hf, if10, if_t, if_neg c0, if_pos c1, md_facing _ hw hfc, bd_s]
  refine fin (hgN (M 50) (nI j) (nH (M 50))) ?_ ?_
  · rw [x_nov, bd_s, hv, if01, if_t, x_out, bd_s, inR2, hf, if01, if_t, if_neg c0, if_neg c1, hd_highest _ hs hw, bd_s]
  · rw [m_val, bd_s, hv, if10, if_t, m_in, bd_s, inR2, hf, if10, if_t, if_neg c0, if_neg c1, md_highest _ hw, bd_s]
