/-! road, open, lay -/
theorem wy_lt : ∀ i, i < 12 → ∀ u, u < 12 → y12 (nI u - nI i) < 12 ∧ y12 (nI u - nI i) ≠ 12 ∧ ¬ 12 < y12 (nI u - nI i) := by decide +kernel
theorem rd00 {v w y p q : Int32} {M : Mem} : pi_X3_road_82 v w y p q 0 0 M = mi_X3_finding (nI 3) M := by
  unfold pi_X3_road_82 pi_X3_road_102
  rw [if_pos rfl, if_pos rfl, if_pos rfl]; exact fx_ 3 3 rfl M
theorem rd01 {v w y p q : Int32} {M : Mem} : pi_X3_road_82 v w y p q 0 1 M = some (q, M) := by
  unfold pi_X3_road_82 pi_X3_road_102
  rw [if_pos rfl, if_pos rfl, if_neg (by decide)]
theorem rd10 {v w y p q : Int32} {M : Mem} : pi_X3_road_82 v w y p q 1 0 M = some (p, M) := by
  unfold pi_X3_road_82 pi_X3_road_102
  rw [if_neg (by decide), if_pos rfl, if_neg (by decide)]
theorem rd11 {v w y p q : Int32} {M : Mem} : pi_X3_road_82 v w y p q 1 1 M = some (if q < p then q else p, M) := by
  unfold pi_X3_road_82
  rw [if_neg (by decide), if_neg (by decide)]
theorem op_road (v w y : Int32) : OpI (mi_X3_road v w y) (mi_X4_road v w y) := by
  intro c M hc hS
  obtain ⟨hw, hs, ht, ha, hk, hfc, -⟩ := id hS.1
  cases hv : inb v 12 with
  | false =>
    refine op_find 0 (by decide) hS ?_ (fun K hK => ?_)
    · unfold mi_X3_road pi_X3_road_e
      rw [x_nov, bd_s, hv, if01, if_f]; exact fx_ 0 0 rfl M
    · unfold mi_X4_road pi_X4_road_e
      rw [m_ends, bd_s, hv, if10, Bool.false_and, if_f]; exact fm_ 0 _ low0.symm K
  | true =>
  cases hf : inb w 12 with
  | false =>
    refine op_find 0 (by decide) hS ?_ (fun K hK => ?_)
    · unfold mi_X3_road pi_X3_road_e
      rw [x_nov, bd_s, hv, if01, if_t, x_nov, bd_s, hf, if01, if_f]; exact fx_ 0 0 rfl M
    · unfold mi_X4_road pi_X4_road_e
      rw [m_ends, bd_s, hv, hf, if10, Bool.true_and, if_f]; exact fm_ 0 _ low0.symm K
  | true =>
  cases hy : inb y 100 with
  | false =>
    refine op_find 0 (by decide) hS ?_ (fun K hK => ?_)
    · unfold mi_X3_road pi_X3_road_e
      rw [x_nov, bd_s, hv, if01, if_t, x_nov, bd_s, hf, if01, if_t, x_out, bd_s, inR99, hy, if01, if_f]; exact fx_ 0 0 rfl M
    · unfold mi_X4_road pi_X4_road_e
      rw [m_ends, bd_s, hv, hf, if10, Bool.true_and, if_t, m_high, bd_s, hy, if10, if_f]; exact fm_ 0 _ low0.symm K
  | true =>
  obtain ⟨i, hi, rfl⟩ := inb_of hv (by decide)
  obtain ⟨e, he, rfl⟩ := inb_of hf (by decide)
  obtain ⟨a1, a2, a3⟩ := wy_lt i hi e he
  obtain ⟨b1, b2, b3⟩ := wy_lt e he i hi
  have hX : mi_X3_road (nI i) (nI e) y M = if y < cmN (M 50) i e (nH (M 50)) then (if y < cmN (M 50) e i (nH (M 50)) then mi_X3_finding (nI 3) M else some (y12 (nI i - nI e), M)) else (if y < cmN (M 50) e i (nH (M 50)) then some (y12 (nI e - nI i), M) else some (if y12 (nI i - nI e) < y12 (nI e - nI i) then y12 (nI i - nI e) else y12 (nI e - nI i), M)) := by
    generalize w1 : y12 (nI i - nI e) = ie at *
    generalize w2 : y12 (nI e - nI i) = ei at *
    unfold mi_X3_road pi_X3_road_e pi_X3_road_62
    rw [x_nov, bd_s, hv, if01, if_t, x_nov, bd_s, hf, if01, if_t, x_out, bd_s, inR99, hy, if01, if_t, ways_ok, bd_s, ways_ok, bd_s, w1, w2, x_climbOn hs hw, bd_s]
    by_cases q1 : y < cmN (M 50) i e (nH (M 50))
    · rw [if_pos q1, if_pos q1, x_climbOn hs hw, bd_s]
      by_cases q2 : y < cmN (M 50) e i (nH (M 50))
      · rw [if_pos q2, if_pos q2, rd00]
      · rw [if_neg q2, if_neg q2, rd01]
    · rw [if_neg q1, if_neg q1, x_climbOn hs hw, bd_s]
      by_cases q2 : y < cmN (M 50) e i (nH (M 50))
      · rw [if_pos q2, if_pos q2, rd10]
      · rw [if_neg q2, if_neg q2, rd11]
  have hM : ∀ P : Mem, P 50 = M 50 → mi_X4_road (nI i) (nI e) y P = if y < cmN (M 50) i e (nH (M 50)) then (if y < cmN (M 50) e i (nH (M 50)) then mi_X4_finding (lowI 3) P else some (y12 (nI i - nI e), P)) else (if y < cmN (M 50) e i (nH (M 50)) then some (y12 (nI e - nI i), P) else some (if y12 (nI i - nI e) < y12 (nI e - nI i) then y12 (nI i - nI e) else y12 (nI e - nI i), P)) := by
    intro P p50
    have hwP : Wf (P 50) := by rw [p50]; exact hw
    generalize w1 : y12 (nI i - nI e) = ie at *
    generalize w2 : y12 (nI e - nI i) = ei at *
    unfold mi_X4_road pi_X4_road_e mi_X4_roadNow pi_X4_roadNow_e
    rw [m_ends, bd_s, hv, hf, if10, Bool.true_and, if_t, m_high, bd_s, hy, if10, if_t, m_up hwP hi he, bd_s, p50]
    by_cases q1 : y < cmN (M 50) i e (nH (M 50))
    · rw [if_pos q1, if_pos q1]
      unfold pi_X4_roadNow_22
      rw [m_dn hwP hi he, bd_s, p50]
      by_cases q2 : y < cmN (M 50) e i (nH (M 50))
      · rw [if_pos q2, if_pos q2]
        unfold pi_X4_roadNow_46
        rw [bd_s, if_neg (show ¬ (12 : Int32) < 12 by decide), if_pos rfl]; exact fm_ 3 _ low3.symm P
      · rw [if_neg q2, if_neg q2, md_by12, bd_s, w1]
        unfold pi_X4_roadNow_46
        rw [bd_s, if_pos b1, if_neg b2]
    · rw [if_neg q1, if_neg q1, md_by12, bd_s, w2]
      unfold pi_X4_roadNow_22
      rw [m_dn hwP hi he, bd_s, p50]
      by_cases q2 : y < cmN (M 50) e i (nH (M 50))
      · rw [if_pos q2, if_pos q2]
        unfold pi_X4_roadNow_46
        rw [bd_s, if_neg a3, if_neg a2]
      · rw [if_neg q2, if_neg q2, md_by12, bd_s, w1]
        unfold pi_X4_roadNow_46
        rw [bd_s]
        by_cases q3 : ie < ei
        · rw [if_pos q3, if_neg b2]
        · rw [if_neg q3, if_neg a2]
  by_cases q1 : y < cmN (M 50) i e (nH (M 50))
  · by_cases q2 : y < cmN (M 50) e i (nH (M 50))
    · rw [if_pos q1, if_pos q2] at hX
      refine op_find 3 (by decide) hS hX (fun K hK => ?_)
      rw [hM K (hK 50 (by decide)), if_pos q1, if_pos q2]
    · rw [if_pos q1, if_neg q2] at hX
      refine op_ask hS hX Eqv.rf ⟨M, ?_, Eqv.rf⟩
      rw [hM M rfl, if_pos q1, if_neg q2]
  · by_cases q2 : y < cmN (M 50) e i (nH (M 50))
    · rw [if_neg q1, if_pos q2] at hX
      refine op_ask hS hX Eqv.rf ⟨M, ?_, Eqv.rf⟩
      rw [hM M rfl, if_neg q1, if_pos q2]
    · rw [if_neg q1, if_neg q2] at hX
      refine op_ask hS hX Eqv.rf ⟨M, ?_, Eqv.rf⟩
      rw [hM M rfl, if_neg q1, if_neg q2]
def opN (N : Nat → Int32) (i e : Nat) (y : Int32) : Nat → Int32
  | 0 => 0
  | k + 1 => if y < lcN (itN N k) i e then opN N i e y k else opN N i e y k + 1
theorem op_b {N : Nat → Int32} {i e : Nat} {y : Int32} : ∀ n, n ≤ 900 → 0 ≤ (opN N i e y n).toInt ∧ (opN N i e y n).toInt ≤ n := by
  intro n
  induction n with
  | zero => intro _; show 0 ≤ (0 : Int32).toInt ∧ (0 : Int32).toInt ≤ 0; decide
  | succ n ih =>
    intro hn
    obtain ⟨i1, i2⟩ := ih (by omega)
    by_cases q : y < lcN (itN N n) i e
    · rw [show opN N i e y (n + 1) = opN N i e y n from if_pos q]; omega
    · have o1 : (1 : Int32).toInt = 1 := by decide
      rw [show opN N i e y (n + 1) = opN N i e y n + 1 from if_neg q, z_add (by omega) (by omega), o1]
      omega
theorem x_open {N : Nat → Int32} {M K : Mem} {i e n : Nat} {y : Int32} (hs : ShR 1 M N) (hK : Fr 13 M K) (hw : Wf N) (h0 : 0 ≤ (N 0).toInt) (hb : (N 0).toInt + 1000 ≤ 99999) (hn : n ≤ 900) : ∃ L : Mem, mi_X3_agesOpen (nI i) (nI e) y (nI n) K = some (opN N i e y n, L) ∧ Fr 13 M L := by
  have s1 : ShR 1 K N := hs.eq (fun a h1 h2 => hK a (by omega))
  obtain ⟨A, a1, a2⟩ := tx_go s1 hw
  obtain ⟨L, l1, l2⟩ := tx_loop3 (G := pi_X3_agesOpen_17 (nI i) (nI e) y (nI n)) (opN N i e y) n hn a2 hw h0 hb (fun k hk L L' rec hL hL' => by
    unfold pi_X3_agesOpen_17 pi_X3_agesOpen_40
    rw [if_neg (nI_ge hk (by omega)), x_least2 hL.1 (it_Wf hw k), bd_s, hL', bv_s, bI_e, nI_1, bI_e]
    by_cases q : y < lcN (itN N k) i e
    · rw [if_pos q, show opN N i e y (k + 1) = opN N i e y k from if_pos q]
    · rw [if_neg q, show opN N i e y (k + 1) = opN N i e y k + 1 from if_neg q]; rfl)
    (fun zo => ∃ L : Mem, zo = some (opN N i e y n, L) ∧ Fr 13 K L) (fun L rec hL => ⟨L, by
      unfold pi_X3_agesOpen_17
      rw [if_pos (Int32.le_refl _)], hL.2.2⟩)
  refine ⟨L, ?_, hK.tr l2⟩
  unfold mi_X3_agesOpen pi_X3_agesOpen_e
  rw [a1, bv_s]
  exact l1
theorem m_openIn {M : Mem} {i e n : Nat} {y : Int32} (hw : Wf (M 50)) (hfc : Fc M) (hi : i < 12) (he : e < 12) (hn : n ≤ 900) : ∃ Q : Mem, mi_X4_openIn (nI i) (nI e) y (nI n) M = some (opN (M 50) i e y n, Q) ∧ Bk M Q := by
  obtain ⟨A, a1, a2⟩ := tr_go M
  obtain ⟨Q, q1, q2⟩ := tr_loop3 (G := pi_X4_openIn_17 (nI i) (nI e) y (nI n)) (opN (M 50) i e y) n hn a2 hw hfc (fun k hk B B' rec hB hB' => by
    unfold pi_X4_openIn_17 pi_X4_openIn_41
    rw [if_neg (nI_ge hk (by omega)), m_climbNow (hB.wf hw) hi he, bd_s, hB.1, hB', nI_1]
    by_cases q : y < lcN (itN (M 50) k) i e
    · rw [if_pos q, Int32.add_zero, show opN (M 50) i e y (k + 1) = opN (M 50) i e y k from if_pos q]; rfl
    · rw [if_neg q, show opN (M 50) i e y (k + 1) = opN (M 50) i e y k + 1 from if_neg q]; rfl)
    (fun zo => ∃ Q : Mem, zo = some (opN (M 50) i e y n, Q) ∧ Bk M Q) (fun B rec hB => by
      obtain ⟨Q, q1, q2⟩ := tr_back (opN (M 50) i e y n) hB hw
      refine ⟨Q, ?_, q2⟩
      unfold pi_X4_openIn_17
      rw [if_pos (Int32.le_refl _), q1, bd_s])
  refine ⟨Q, ?_, q2⟩
  unfold mi_X4_openIn pi_X4_openIn_e
  rw [a1, bv_s]
  exact q1
theorem op_open (v w y x : Int32) : OpI (mi_X3_open v w y x) (mi_X4_open v w y x) := by
  intro c M hc hS
  obtain ⟨hw, hs, ht, ha, hk, hfc, -⟩ := id hS.1
  have hab := ha.b hc
  cases hv : inb v 12 with
  | false =>
    refine op_find 0 (by decide) hS ?_ (fun K hK => ?_)
    · unfold mi_X3_open pi_X3_open_e
      rw [x_nov, bd_s, hv, if01, if_f]; exact fx_ 0 0 rfl M
    · unfold mi_X4_open pi_X4_open_e
      rw [m_ends, bd_s, hv, if10, Bool.false_and, if_f]; exact fm_ 0 _ low0.symm K
  | true =>
  cases hf : inb w 12 with
  | false =>
    refine op_find 0 (by decide) hS ?_ (fun K hK => ?_)
    · unfold mi_X3_open pi_X3_open_e
      rw [x_nov, bd_s, hv, if01, if_t, x_nov, bd_s, hf, if01, if_f]; exact fx_ 0 0 rfl M
    · unfold mi_X4_open pi_X4_open_e
      rw [m_ends, bd_s, hv, hf, if10, Bool.true_and, if_f]; exact fm_ 0 _ low0.symm K
  | true =>
  cases hy : inb y 100 with
  | false =>
    refine op_find 0 (by decide) hS ?_ (fun K hK => ?_)
    · unfold mi_X3_open pi_X3_open_e
      rw [x_nov, bd_s, hv, if01, if_t, x_nov, bd_s, hf, if01, if_t, x_out, bd_s, inR99, hy, if01, if_f]; exact fx_ 0 0 rfl M
    · unfold mi_X4_open pi_X4_open_e
      rw [m_ends, bd_s, hv, hf, if10, Bool.true_and, if_t, m_high, bd_s, hy, if10, if_f]; exact fm_ 0 _ low0.symm K
  | true =>
  cases hx : inb x 101 with
  | false =>
    refine op_find 0 (by decide) hS ?_ (fun K hK => ?_)
    · unfold mi_X3_open pi_X3_open_e
      rw [x_nov, bd_s, hv, if01, if_t, x_nov, bd_s, hf, if01, if_t, x_out, bd_s, inR99, hy, if01, if_t, x_out, bd_s, inR100, hx, if01, if_f]; exact fx_ 0 0 rfl M
    · unfold mi_X4_open pi_X4_open_e
      rw [m_ends, bd_s, hv, hf, if10, Bool.true_and, if_t, m_high, bd_s, hy, if10, if_t, m_in, bd_s, inR100, hx, if10, if_f]; exact fm_ 0 _ low0.symm K
  | true =>
  obtain ⟨i, hi, rfl⟩ := inb_of hv (by decide)
  obtain ⟨e, he, rfl⟩ := inb_of hf (by decide)
  obtain ⟨n, hn, rfl⟩ := inb_of hx (by decide)
  obtain ⟨L, l1, l2⟩ := x_open (i := i) (e := e) (n := n) (y := y) hs Fr.rf hw hab.1 hab.2 (by omega)
  have l50 : L 50 = M 50 := l2 50 (by omega)
  obtain ⟨Q, q1, q2⟩ := m_openIn (M := L) (i := i) (e := e) (n := n) (y := y) (by rw [l50]; exact hw) (fun j hj => by rw [l2 54 (by omega)]; exact hfc j hj) hi he (by omega)
  rw [l50] at q1
  refine op_ask hS (r := opN (M 50) i e y n) (K := L) ?_ l2.eqv ⟨Q, ?_, q2.eqv⟩
  · unfold mi_X3_open pi_X3_open_e
    rw [x_nov, bd_s, hv, if01, if_t, x_nov, bd_s, hf, if01, if_t, x_out, bd_s, inR99, hy, if01, if_t, x_out, bd_s, inR100, hx, if01, if_t, l1, bd_s]
  · unfold mi_X4_open pi_X4_open_e
    rw [m_ends, bd_s, hv, hf, if10, Bool.true_and, if_t, m_high, bd_s, hy, if10, if_t, m_in, bd_s, inR100, hx, if10, if_t, q1, bd_s]
def laV (N : Nat → Int32) (i : Nat) (y : Int32) (n j : Nat) : Int32 := if j = i then -1 else opN N i j y n
def laN (N : Nat → Int32) (i : Nat) (y : Int32) (n : Nat) : Nat → Option Nat × Int32
  | 0 => (none, -1)
  | j + 1 => if laV N i y n j ≤ (laN N i y n j).2 then laN N i y n j else (some j, laV N i y n j)
theorem la_none {N : Nat → Int32} {i n : Nat} {y : Int32} : ∀ j, (laN N i y n j).1 = none → (laN N i y n j).2 = -1 := by
  intro j
  induction j with
  | zero => intro _; rfl
  | succ j ih =>
    by_cases q : laV N i y n j ≤ (laN N i y n j).2
    · rw [show laN N i y n (j + 1) = laN N i y n j from if_pos q]; exact ih
    · rw [show laN N i y n (j + 1) = (some j, laV N i y n j) from if_neg q]
      intro z; cases z
theorem laV_b {N : Nat → Int32} {i n : Nat} {y : Int32} (hn : n ≤ 900) (j : Nat) : (laV N i y n j).toInt ≤ n ∧ (j ≠ i → 0 ≤ (laV N i y n j).toInt) := by
  unfold laV
  have := op_b (N := N) (i := i) (e := j) (y := y) n hn
  by_cases q : j = i
  · rw [if_pos q, show (-1 : Int32).toInt = -1 from by decide]
    exact ⟨by omega, fun z => absurd q z⟩
  · rw [if_neg q]
    exact ⟨this.2, fun _ => this.1⟩
theorem la_s {N : Nat → Int32} {i n : Nat} {y : Int32} (hn : n ≤ 900) {j : Nat} (h : j ≠ i) : (laN N i y n (j + 1)).1 ≠ none := by
  intro z
  have z2 := la_none _ z
  have b := (laV_b (N := N) (y := y) hn j).2 h
  have m1 : (-1 : Int32).toInt = -1 := by decide
  by_cases q : laV N i y n j ≤ (laN N i y n j).2
  · rw [show laN N i y n (j + 1) = laN N i y n j from if_pos q] at z2
    rw [z2, i_le, m1] at q
    omega
  · rw [show laN N i y n (j + 1) = (some j, laV N i y n j) from if_neg q] at z
    cases z
theorem la_mono {N : Nat → Int32} {i n : Nat} {y : Int32} {j : Nat} (h : (laN N i y n j).1 ≠ none) : (laN N i y n (j + 1)).1 ≠ none := by
  by_cases q : laV N i y n j ≤ (laN N i y n j).2
  · rw [show laN N i y n (j + 1) = laN N i y n j from if_pos q]; exact h
  · rw [show laN N i y n (j + 1) = (some j, laV N i y n j) from if_neg q]; intro z; cases z
theorem la_12 {N : Nat → Int32} {i n : Nat} {y : Int32} (hn : n ≤ 900) : (laN N i y n 12).1 ≠ none := by
  by_cases h : 11 = i
  · exact la_mono (la_s hn (j := 10) (by omega))
  · exact la_s hn h
theorem la_stay {N : Nat → Int32} {i n : Nat} {y : Int32} (hn : n ≤ 900) {j : Nat} (h : nI n ≤ (laN N i y n j).2) : ∀ d, laN N i y n (j + d) = laN N i y n j := by
  intro d
  induction d with
  | zero => rfl
  | succ d ih =>
    have b := (laV_b (N := N) (i := i) (y := y) hn (j + d)).1
    have h' := i_le.mp h
    rw [nI_toInt (by omega)] at h'
    show laN N i y n (j + d + 1) = _
    rw [show laN N i y n (j + d + 1) = laN N i y n (j + d) from if_pos (by rw [ih, i_le]; omega)]
    exact ih
theorem op_lay (v y x : Int32) : OpI (mi_X3_lay v y x) (mi_X4_lay v y x) := by
  intro c M hc hS
  obtain ⟨hw, hs, ht, ha, hk, hfc, -⟩ := id hS.1
  have hab := ha.b hc
  cases hv : inb v 12 with
  | false =>
    refine op_find 0 (by decide) hS ?_ (fun K hK => ?_)
    · unfold mi_X3_lay pi_X3_lay_e
      rw [x_nov, bd_s, hv, if01, if_f]; exact fx_ 0 0 rfl M
    · unfold mi_X4_lay pi_X4_lay_e
      rw [m_val, bd_s, hv, if10, if_f]; exact fm_ 0 _ low0.symm K
  | true =>
  cases hy : inb y 100 with
  | false =>
    refine op_find 0 (by decide) hS ?_ (fun K hK => ?_)
    · unfold mi_X3_lay pi_X3_lay_e
      rw [x_nov, bd_s, hv, if01, if_t, x_out, bd_s, inR99, hy, if01, if_f]; exact fx_ 0 0 rfl M
    · unfold mi_X4_lay pi_X4_lay_e
      rw [m_val, bd_s, hv, if10, if_t, m_high, bd_s, hy, if10, if_f]; exact fm_ 0 _ low0.symm K
  | true =>
  cases hx : inb x 61 with
  | false =>
    refine op_find 0 (by decide) hS ?_ (fun K hK => ?_)
    · unfold mi_X3_lay pi_X3_lay_e
      rw [x_nov, bd_s, hv, if01, if_t, x_out, bd_s, inR99, hy, if01, if_t, x_out, bd_s, inR60, hx, if01, if_f]; exact fx_ 0 0 rfl M
    · unfold mi_X4_lay pi_X4_lay_e
      rw [m_val, bd_s, hv, if10, if_t, m_high, bd_s, hy, if10, if_t, m_go, bd_s, hx, if10, if_f]; exact fm_ 0 _ low0.symm K
  | true =>
  obtain ⟨i, hi, rfl⟩ := inb_of hv (by decide)
  obtain ⟨n, hn, rfl⟩ := inb_of hx (by decide)
  have e12 : (12 : Int32) = nI 12 := rfl
  obtain ⟨u, hu⟩ : ∃ u, (laN (M 50) i y n 12).1 = some u := by
    cases h : (laN (M 50) i y n 12).1 with
    | none => exact absurd h (la_12 (by omega))
    | some u => exact ⟨u, rfl⟩
  have runX : ∀ m, m ≤ 12 → (∀ k, k < m → ¬ nI n ≤ (laN (M 50) i y n k).2) → ∀ (Post : Option (Int32 × Mem) → Prop), (∀ (L : Mem) rec, Fr 13 M L → Post (pi_X3_lay_42 (nI i) y (nI n) rec (((laN (M 50) i y n m).1.map nI).getD 0) (laN (M 50) i y n m).2 (nI m) L)) → Post (lp (fun rc42 x => pi_X3_lay_42 (nI i) y (nI n) rc42 x.1 x.2.1 x.2.2.1 x.2.2.2) FU (0, -1, 0, M)) := by
    intro m hm hp Post hE
    refine lp_inv (I := fun j (zx : Int32 × Int32 × Int32 × Mem) => zx.1 = ((laN (M 50) i y n j).1.map nI).getD 0 ∧ zx.2.1 = (laN (M 50) i y n j).2 ∧ zx.2.2.1 = nI j ∧ Fr 13 M zx.2.2.2) (Post := Post) m ?_ ?_ FU (FU_le (by omega)) (0, -1, 0, M) ⟨rfl, rfl, rfl, Fr.rf⟩
    · rintro j hj ⟨x1, x2, x3, L⟩ ⟨i1, i2, i3, i4⟩ rec
      dsimp only at i1 i2 i3 i4
      obtain ⟨L', l1, l2⟩ : ∃ L' : Mem, Fr 13 M L' ∧ pi_X3_lay_42 (nI i) y (nI n) rec x1 x2 x3 L = if laV (M 50) i y n j ≤ x2 then rec (x1, x2, nI (j + 1), L') else rec (nI j, laV (M 50) i y n j, nI (j + 1), L') := by
        unfold pi_X3_lay_42 pi_X3_lay_74
        rw [i3, e12, if_neg (nI_ge (show j < 12 by omega) (by decide)), if_neg (by rw [i2]; exact hp j hj)]
        unfold laV
        by_cases q : j = i
        · refine ⟨L, i4, ?_⟩
          rw [if_pos (by rw [q]), if_pos q, bI_e, bI_e, nI_1]
        · obtain ⟨A, a1, a2⟩ := x_open (i := i) (e := j) (n := n) (y := y) hs i4 hw hab.1 hab.2 (by omega)
          refine ⟨A, a2, ?_⟩
          rw [if_neg (fun z => q (nI_inj (by omega) (by omega) z)), if_neg q, a1, bd_s, bI_e, bI_e, nI_1]
      by_cases q : laV (M 50) i y n j ≤ (laN (M 50) i y n j).2
      · have E : laN (M 50) i y n (j + 1) = laN (M 50) i y n j := if_pos q
        refine ⟨(x1, x2, nI (j + 1), L'), ⟨by rw [E]; exact i1, by rw [E]; exact i2, rfl, l1⟩, ?_⟩
        show pi_X3_lay_42 (nI i) y (nI n) rec x1 x2 x3 L = _
        rw [l2, i2, if_pos q]
      · have E : laN (M 50) i y n (j + 1) = (some j, laV (M 50) i y n j) := if_neg q
        refine ⟨(nI j, laV (M 50) i y n j, nI (j + 1), L'), ⟨by rw [E]; rfl, by rw [E], rfl, l1⟩, ?_⟩
        show pi_X3_lay_42 (nI i) y (nI n) rec x1 x2 x3 L = _
        rw [l2, i2, if_neg q]
    · rintro ⟨x1, x2, x3, L⟩ ⟨i1, i2, i3, i4⟩ rec
      dsimp only at i1 i2 i3 i4
      subst i1
      subst i2
      subst i3
      exact hE L rec i4
  obtain ⟨L, l1, l2⟩ : ∃ L : Mem, lp (fun rc42 x => pi_X3_lay_42 (nI i) y (nI n) rc42 x.1 x.2.1 x.2.2.1 x.2.2.2) FU (0, -1, 0, M) = some (nI u, L) ∧ Fr 13 M L := by
    cases q : fiN (fun k => decide (nI n ≤ (laN (M 50) i y n k).2)) 12 with
    | some m =>
      obtain ⟨h1, h2, h3⟩ := fi_some 12 q
      have h2' := of_decide_eq_true h2
      have st := la_stay (by omega) h2' (12 - m)
      rw [show m + (12 - m) = 12 by omega] at st
      refine runX m (by omega) (fun k hk => of_decide_eq_false (h3 k hk)) (fun zo => ∃ L : Mem, zo = some (nI u, L) ∧ Fr 13 M L) (fun L rec hL => ⟨L, ?_, hL⟩)
      unfold pi_X3_lay_42
      rw [e12, if_neg (nI_ge h1 (by decide)), if_pos h2', ← st, hu]; rfl
    | none =>
      have h3 := fi_none 12 q
      refine runX 12 (by omega) (fun k hk => of_decide_eq_false (h3 k hk)) (fun zo => ∃ L : Mem, zo = some (nI u, L) ∧ Fr 13 M L) (fun L rec hL => ⟨L, ?_, hL⟩)
      unfold pi_X3_lay_42
      rw [e12, if_pos (Int32.le_refl _), hu]; rfl
  have l50 : L 50 = M 50 := l2 50 (by omega)
  have lf : Fc L := fun j hj => by rw [l2 54 (by omega)]; exact hfc j hj
  obtain ⟨Q, q1, q2⟩ : ∃ Q : Mem, lp (fun rc37 x => pi_X4_lay_37 (nI i) y (nI n) rc37 x.1 x.2.1 x.2.2.1 x.2.2.2) FU (-1, -1, 0, L) = some (nI u, Q) ∧ Bk L Q := by
    refine lp_inv (I := fun j (zx : Int32 × Int32 × Int32 × Mem) => zx.1 = ((laN (M 50) i y n j).1.map nI).getD (-1) ∧ zx.2.1 = (laN (M 50) i y n j).2 ∧ zx.2.2.1 = nI j ∧ Bk L zx.2.2.2) (Post := fun (zo : Option (Int32 × Mem)) => ∃ Q : Mem, zo = some (nI u, Q) ∧ Bk L Q) 12 ?_ ?_ FU (FU_le (by omega)) (-1, -1, 0, L) ⟨rfl, rfl, rfl, fun _ _ _ => rfl⟩
    · rintro j hj ⟨x1, x2, x3, A⟩ ⟨i1, i2, i3, i4⟩ rec
      dsimp only at i1 i2 i3 i4
      obtain ⟨B, b1, b2⟩ : ∃ B : Mem, Bk L B ∧ pi_X4_lay_37 (nI i) y (nI n) rec x1 x2 x3 A = if laV (M 50) i y n j ≤ x2 then rec (x1, x2, nI (j + 1), B) else rec (nI j, laV (M 50) i y n j, nI (j + 1), B) := by
        have key : ∀ (r : Int32) (B : Mem), pi_X4_lay_63 (nI i) y (nI n) x1 x2 (nI j) r rec B = if r ≤ x2 then rec (x1, x2, nI (j + 1), B) else rec (nI j, r, nI (j + 1), B) := by
          intro r B
          unfold pi_X4_lay_63 pi_X4_lay_79
          simp only [bI_e, nI_1]
          by_cases q : r ≤ x2
          · rw [if_pos q, if_pos q, if_neg (nlt_le.mpr q)]
          · rw [if_neg q, if_neg q, if_pos (by rw [i_lt]; rw [i_le] at q; omega)]
        unfold pi_X4_lay_37
        rw [i3, e12, if_neg (nI_ge (show j < 12 by omega) (by decide))]
        unfold laV
        by_cases q : j = i
        · refine ⟨A, i4, ?_⟩
          rw [if_pos (by rw [q]), if_pos q, key]
        · have a50 : A 50 = M 50 := by rw [i4 50 (by decide) (by unfold Sc; omega), l50]
          obtain ⟨B, b1, b2⟩ := m_openIn (M := A) (i := i) (e := j) (n := n) (y := y) (by rw [a50]; exact hw) (fun k hk => by rw [i4 54 (by decide) (by unfold Sc; omega)]; exact lf k hk) hi hj (by omega)
          rw [a50] at b1
          refine ⟨B, fun a n1 n2 => by rw [b2 a n1 n2]; exact i4 a n1 n2, ?_⟩
          rw [if_neg (fun z => q (nI_inj (by omega) (by omega) z)), if_neg q, b1, bd_s, key]
      by_cases q : laV (M 50) i y n j ≤ (laN (M 50) i y n j).2
      · have E : laN (M 50) i y n (j + 1) = laN (M 50) i y n j := if_pos q
        refine ⟨(x1, x2, nI (j + 1), B), ⟨by rw [E]; exact i1, by rw [E]; exact i2, rfl, b1⟩, ?_⟩
        show pi_X4_lay_37 (nI i) y (nI n) rec x1 x2 x3 A = _
        rw [b2, i2, if_pos q]
      · have E : laN (M 50) i y n (j + 1) = (some j, laV (M 50) i y n j) := if_neg q
        refine ⟨(nI j, laV (M 50) i y n j, nI (j + 1), B), ⟨by rw [E]; rfl, by rw [E], rfl, b1⟩, ?_⟩
        show pi_X4_lay_37 (nI i) y (nI n) rec x1 x2 x3 A = _
        rw [b2, i2, if_neg q]
    · rintro ⟨x1, x2, x3, A⟩ ⟨i1, i2, i3, i4⟩ rec
      dsimp only at i1 i2 i3 i4
      refine ⟨A, ?_, i4⟩
      show pi_X4_lay_37 (nI i) y (nI n) rec x1 x2 x3 A = _
      unfold pi_X4_lay_37
      rw [i3, e12, if_pos (Int32.le_refl _), i1, hu]; rfl
  refine op_ask hS (r := nI u) (K := L) ?_ l2.eqv ⟨Q, ?_, q2.eqv⟩
  · unfold mi_X3_lay pi_X3_lay_e
    rw [x_nov, bd_s, hv, if01, if_t, x_out, bd_s, inR99, hy, if01, if_t, x_out, bd_s, inR60, hx, if01, if_t]
    exact l1
  · unfold mi_X4_lay pi_X4_lay_e
    rw [m_val, bd_s, hv, if10, if_t, m_high, bd_s, hy, if10, if_t, m_go, bd_s, hx, if10, if_t]
    exact q1
