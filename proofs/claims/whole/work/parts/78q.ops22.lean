/-! fits, step, kinds -/
def toB (N : Nat → Int32) (S : Nat → Int32) (h k : Nat) : Bool := !(decide (S k = -1) || decide (S k = fcN (itN N k) h))
def tlB (N : Nat → Int32) (S : Nat → Int32) (h t : Nat) : Bool := (fiN (toB N S h) t).isNone
theorem x_told {N : Nat → Int32} {M K : Mem} {S : Nat → Int32} {h z t : Nat} (hK : TrX N M 0 K) (hw : Wf N) (h0 : 0 ≤ (N 0).toInt) (hb : (N 0).toInt + 1000 ≤ 99999) (hh : h < nH N) (hz : z < 4) (ht : t ≤ 40) (e1 : M (40 + 2 * z) 1 = nI t) (e2 : ∀ j, j < 40 → M (40 + 2 * z + 1) j = S j) : ∃ L : Mem, mi_X3_facesAsTold (40 + 2 * z) (nI h) K = some (if tlB N S h t = true then 1 else 0, L) ∧ Fr 13 M L := by
  have h8 := hw.2.1
  have one : ∀ k, k < t → ∀ (L L' : Mem) rec, TrX N M k L → mi_X2_passAge 13 L = some L' → pi_X3_facesAsTold_2 (40 + 2 * z) (nI h) rec (nI k) L = if toB N S h k = true then some (0, L) else rec (nI (k + 1), L') := by
    intro k hk L L' rec hL hL'
    have f1 : L (40 + 2 * z) = M (40 + 2 * z) := hL.2.2 _ (by omega)
    have f2 : L (40 + 2 * z + 1) = M (40 + 2 * z + 1) := hL.2.2 _ (by omega)
    unfold pi_X3_facesAsTold_2 pi_X3_facesAsTold_39 toB
    rw [f1, e1, if_neg (nI_ge hk (by omega)), inb_nI (show k < 40 by omega) (by decide), gd_t, bI_e, nI_clamp (by omega), f2, e2 k (by omega), hd_facedBy hL.2.1 (it_Wf hw k) (by rw [nH_it]; exact hh), bd_s, hL', bv_s, bI_e, nI_1, isB0, gd_t]
    by_cases c1 : S k = -1
    · rw [if_pos c1, decide_eq_true c1, Bool.true_or]; rfl
    · rw [if_neg c1, decide_eq_false c1, Bool.false_or]
      by_cases c2 : S k = fcN (itN N k) h
      · rw [if_pos c2, decide_eq_true c2]; rfl
      · rw [if_neg c2, decide_eq_false c2]; rfl
  unfold mi_X3_facesAsTold pi_X3_facesAsTold_e tlB
  cases q : fiN (toB N S h) t with
  | some m =>
    obtain ⟨h1, h2, h3⟩ := fi_some t q
    exact tx_loop (G := pi_X3_facesAsTold_2 (40 + 2 * z) (nI h)) m (by omega) hK hw h0 hb (fun k hk L L' rec hL hL' => by rw [one k (by omega) L L' rec hL hL', h3 k hk, if_f]) (fun zo => ∃ L : Mem, zo = some (if (some m).isNone = true then 1 else 0, L) ∧ Fr 13 M L) (fun L rec hL => by
      obtain ⟨L', l1, -⟩ := tx_age hL hw h0 (by omega)
      refine ⟨L, ?_, hL.2.2⟩
      rw [one m h1 L L' rec hL l1, h2, if_t]; rfl)
  | none =>
    have h3 := fi_none t q
    exact tx_loop (G := pi_X3_facesAsTold_2 (40 + 2 * z) (nI h)) t (by omega) hK hw h0 hb (fun k hk L L' rec hL hL' => by rw [one k (by omega) L L' rec hL hL', h3 k hk, if_f]) (fun zo => ∃ L : Mem, zo = some (if (none : Option Nat).isNone = true then 1 else 0, L) ∧ Fr 13 M L) (fun L rec hL => by
      have f1 : L (40 + 2 * z) = M (40 + 2 * z) := hL.2.2 _ (by omega)
      refine ⟨L, ?_, hL.2.2⟩
      unfold pi_X3_facesAsTold_2
      rw [f1, e1, if_pos (Int32.le_refl _), isB1, gd_t]; rfl)
theorem m_told {M : Mem} {S : Nat → Int32} {h z t : Nat} (hw : Wf (M 50)) (hf : Fc M) (hh : h < nH (M 50)) (hz : z < 4) (ht : t ≤ 40) (e1 : M 63 z = nI t) (e2 : ∀ j, j < 40 → M 64 (40 * z + j) = S j) : ∃ Q : Mem, mi_X4_facedSo (nI z) (nI h) M = some (if tlB (M 50) S h t = true then 1 else 0, Q) ∧ Bk M Q := by
  have h8 := hw.2.1
  obtain ⟨A, a1, a2⟩ := tr_go M
  have back : ∀ k (B : Mem), TrI M k B → ∀ y : Int32, isB y = true → ∃ Q : Mem, pi_X4_facedSo_77 (nI z) (nI h) y B = some (y, Q) ∧ Bk M Q := by
    intro k B hB y hy
    obtain ⟨Q, q1, q2⟩ := tr_back y hB hw
    refine ⟨Q, ?_, q2⟩
    unfold mi_X4_putBack pi_X4_putBack_e at q1
    unfold pi_X4_facedSo_77
    rw [hy]; exact q1
  have one : ∀ k, k < t → ∀ (L L' : Mem) rec, TrI M k L → mi_X4_age L = some L' → pi_X4_facedSo_16 (nI z) (nI h) rec 1 (nI k) L = rec (if toB (M 50) S h k = true then 0 else 1, nI (k + 1), L') := by
    intro k hk L L' rec hL hL'
    have f1 : L 63 = M 63 := hL.2.2 _ (by decide) (by decide) (by unfold Sc; omega)
    have f2 : L 64 = M 64 := hL.2.2 _ (by decide) (by decide) (by unfold Sc; omega)
    unfold pi_X4_facedSo_16 pi_X4_facedSo_61 pi_X4_facedSo_66 toB
    rw [inb_nI hz (by decide), gd_t, nI_clamp (by omega), f1, e1, if_neg (nI_ge hk (by omega)), if_neg (show ¬ (1 : Int32) = 0 by decide), e40n hz, inb_nI (show 40 * z + k < 160 by omega) (by decide), gd_t, bI_e, nI_clamp (by omega), f2, e2 k (by omega), md_faces (by omega) (hL.wf hw) (hL.fc hf), bd_s, hL', bv_s, bv_s, bI_e, nI_1, hL.1]
    by_cases c1 : S k = -1
    · rw [if_pos c1, decide_eq_true c1, Bool.true_or]; rfl
    · rw [if_neg c1, decide_eq_false c1, Bool.false_or]
      by_cases c2 : S k = fcN (itN (M 50) k) h
      · rw [if_pos c2, decide_eq_true c2]; rfl
      · rw [if_neg c2, decide_eq_false c2]; rfl
  have run : ∀ m, m ≤ t → (∀ k, k < m → toB (M 50) S h k = false) → ∀ (Post : Option (Int32 × Mem) → Prop), (∀ (L : Mem) rec, TrI M m L → Post (pi_X4_facedSo_16 (nI z) (nI h) rec 1 (nI m) L)) → Post (lp (fun rc16 x => pi_X4_facedSo_16 (nI z) (nI h) rc16 x.1 x.2.1 x.2.2) FU (1, 0, A)) := by
    intro m hm hp Post he
    refine tr_loop3 (G := pi_X4_facedSo_16 (nI z) (nI h)) (fun _ => 1) m (by omega) a2 hw hf (fun k hk L L' rec hL hL' => ?_) Post he
    rw [one k (by omega) L L' rec hL hL', hp k hk, if_f]
  unfold mi_X4_facedSo pi_X4_facedSo_e tlB
  rw [a1, bv_s]
  cases q : fiN (toB (M 50) S h) t with
  | some m =>
    obtain ⟨h1, h2, h3⟩ := fi_some t q
    refine lp_inv (I := fun j (zx : Int32 × Int32 × Mem) => zx.1 = (if j = m + 1 then 0 else 1) ∧ zx.2.1 = nI j ∧ TrI M j zx.2.2) (Post := fun (zo : Option (Int32 × Mem)) => ∃ Q : Mem, zo = some (if (some m).isNone = true then 1 else 0, Q) ∧ Bk M Q) (m + 1) ?_ ?_ FU (FU_le (by omega)) (1, 0, A) ⟨by rw [if_neg (by omega)], rfl, a2⟩
    · rintro j hj ⟨x1, x2, L⟩ ⟨i1, i2, i3⟩ rec
      dsimp only at i1 i2 i3
      rw [if_neg (by omega)] at i1
      subst i1
      subst i2
      obtain ⟨L', l1, l2⟩ := tr_age i3 hw hf
      refine ⟨(if j + 1 = m + 1 then 0 else 1, nI (j + 1), L'), ⟨rfl, rfl, l2⟩, ?_⟩
      show pi_X4_facedSo_16 (nI z) (nI h) rec 1 (nI j) L = _
      rw [one j (by omega) L L' rec i3 l1]
      by_cases c : j = m
      · subst c; rw [h2, if_t, if_pos rfl]
      · rw [h3 j (by omega), if_f, if_neg (by omega)]
    · rintro ⟨x1, x2, L⟩ ⟨i1, i2, i3⟩ rec
      dsimp only at i1 i2 i3
      rw [if_pos rfl] at i1
      subst i1
      subst i2
      obtain ⟨Q, q1, q2⟩ := back _ L i3 0 rfl
      refine ⟨Q, ?_, q2⟩
      show pi_X4_facedSo_16 (nI z) (nI h) rec 0 (nI (m + 1)) L = _
      unfold pi_X4_facedSo_16
      rw [inb_nI hz (by decide), gd_t, if_pos (show (0 : Int32) = 0 from rfl), q1]
      by_cases c : L 63 (nI z).toNatClampNeg ≤ nI (m + 1)
      · rw [if_pos c]; rfl
      · rw [if_neg c]; rfl
  | none =>
    have h3 := fi_none t q
    refine run t (Nat.le_refl _) h3 (fun zo => ∃ Q : Mem, zo = some (if (none : Option Nat).isNone = true then 1 else 0, Q) ∧ Bk M Q) (fun L rec hL => ?_)
    obtain ⟨Q, q1, q2⟩ := back _ L hL 1 rfl
    have f1 : L 63 = M 63 := hL.2.2 _ (by decide) (by decide) (by unfold Sc; omega)
    refine ⟨Q, ?_, q2⟩
    unfold pi_X4_facedSo_16
    rw [inb_nI hz (by decide), gd_t, nI_clamp (by omega), f1, e1, if_pos (Int32.le_refl _), q1]; rfl
def ftB (N : Nat → Int32) (S : Nat → Int32) (h f t : Nat) (j : Nat) : Bool := tlB (upd N (14 + 6 * h + f) (ltO f + nI j)) S h t
theorem ft_sub {a : Int32} {j : Nat} : a + nI j - a = nI j := by
  rw [Int32.add_comm, Int32.add_sub_cancel]
theorem ft_x {N : Nat → Int32} {S : Nat → Int32} {h z t f n : Nat} {M : Mem} (hs : ShR 1 M N) (hw : Wf N) (h0 : 0 ≤ (N 0).toInt) (hb : (N 0).toInt + 1000 ≤ 99999) (hh : h < nH N) (hz : z < 4) (ht : t ≤ 40) (e1 : M (40 + 2 * z) 1 = nI t) (e2 : ∀ j, j < 40 → M (40 + 2 * z + 1) j = S j) (hf : f < 6) (g1 : ∀ j, j < n → okT f (ltO f + nI j)) (g2 : ∀ j, j < n → ¬ moO f < ltO f + nI j) (g3 : moO f < ltO f + nI n) (hn : n ≤ 12) : ∃ L : Mem, mi_X3_fittingSet (nI z) (nI h) (nI f) M = some (bset (ftB N S h f t) n, L) ∧ Fr 13 M L := by
  have h8 := hw.2.1
  unfold mi_X3_fittingSet pi_X3_fittingSet_e
  rw [x_least hf, bd_s]
  refine lp_inv (I := fun j (zx : Int32 × Int32 × Mem) => zx.1 = bset (ftB N S h f t) j ∧ zx.2.1 = ltO f + nI j ∧ Fr 13 M zx.2.2) (Post := fun (zo : Option (Int32 × Mem)) => ∃ L : Mem, zo = some (bset (ftB N S h f t) n, L) ∧ Fr 13 M L) n ?_ ?_ FU (FU_le (by omega)) (0, ltO f, M) ⟨rfl, (Int32.add_zero _).symm, Fr.rf⟩
  · rintro j hj ⟨x1, x2, L⟩ ⟨i1, i2, i3⟩ rec
    dsimp only at i1 i2 i3
    obtain ⟨A, a1, a2⟩ := x_try (v := ltO f + nI j) hs hw i3 (show h < 8 by omega) hf (g1 j hj)
    have un : nH (upd N (14 + 6 * h + f) (ltO f + nI j)) = nH N := nH_upd (by omega)
    have u0 : upd N (14 + 6 * h + f) (ltO f + nI j) 0 = N 0 := upd_o (by omega)
    obtain ⟨B, bb1, b2⟩ := x_told (S := S) (h := h) (z := z) (t := t) a2 (wf_set hw hf (g1 j hj)) (by rw [u0]; exact h0) (by rw [u0]; exact hb) (by rw [un]; exact hh) hz ht e1 e2
    have E : ltO f + nI j + 1 = ltO f + nI (j + 1) := by rw [Int32.add_assoc, nI_1]
    refine ⟨(bset (ftB N S h f t) (j + 1), ltO f + nI (j + 1), B), ⟨rfl, rfl, b2⟩, ?_⟩
    show pi_X3_fittingSet_13 (nI z) (nI h) (nI f) (ltO f) rec x1 x2 L = _
    unfold pi_X3_fittingSet_13
    rw [x_most hf, bd_s, i2, if_neg (g2 j hj), a1, bv_s, inb_nI hz (by decide), gd_t, nI_clamp (by omega), bb1, bd_s, if10, bI_e, bI_e, bI_e, ft_sub, E, i1]
    show _ = rec (if ftB N S h f t j = true then bset (ftB N S h f t) j ||| b1 j else bset (ftB N S h f t) j, ltO f + nI (j + 1), B)
    show (if ftB N S h f t j = true then _ else _) = _
    cases ftB N S h f t j <;> rfl
  · rintro ⟨x1, x2, L⟩ ⟨i1, i2, i3⟩ rec
    dsimp only at i1 i2 i3
    refine ⟨L, ?_, i3⟩
    show pi_X3_fittingSet_13 (nI z) (nI h) (nI f) (ltO f) rec x1 x2 L = _
    unfold pi_X3_fittingSet_13
    rw [x_most hf, bd_s, i2, if_pos g3, i1]
theorem ft_m {S : Nat → Int32} {h z t f n : Nat} {M : Mem} (hw : Wf (M 50)) (hfc : Fc M) (hh : h < nH (M 50)) (hz : z < 4) (ht : t ≤ 40) (e1 : M 63 z = nI t) (e2 : ∀ j, j < 40 → M 64 (40 * z + j) = S j) (hf : f < 6) (g1 : ∀ j, j < n → okT f (ltO f + nI j)) (g2 : ∀ j, j < n → ¬ moO f < ltO f + nI j) (g3 : moO f < ltO f + nI n) (hn : n ≤ 12) : ∃ Q : Mem, mi_X4_fitting (nI z) (nI h) (nI f) (ltO f) (moO f) M = some (bset (ftB (M 50) S h f t) n, Q) ∧ Bk M Q := by
  have h8 := hw.2.1
  have ii : inb (nI (14 + 6 * h + f)) 62 = true := inb_nI (by omega) (by decide)
  unfold mi_X4_fitting pi_X4_fitting_e
  rw [md_hillIs (by omega) hf, bd_s]
  refine lp_inv (I := fun j (zx : Int32 × Int32 × Mem) => zx.1 = bset (ftB (M 50) S h f t) j ∧ zx.2.1 = ltO f + nI j ∧ (∃ w, zx.2.2 50 = upd (M 50) (14 + 6 * h + f) w) ∧ ∀ a, a ≠ 50 → a ≠ 52 → ¬ Sc a → zx.2.2 a = M a) (Post := fun (zo : Option (Int32 × Mem)) => ∃ Q : Mem, zo = some (bset (ftB (M 50) S h f t) n, Q) ∧ Bk M Q) n ?_ ?_ FU (FU_le (by omega)) (0, ltO f, M) ⟨rfl, (Int32.add_zero _).symm, ⟨M 50 (14 + 6 * h + f), updId.symm⟩, fun _ _ _ _ => rfl⟩
  · rintro j hj ⟨x1, x2, L⟩ ⟨i1, i2, ⟨w, i4⟩, i5⟩ rec
    dsimp only at i1 i2 i4 i5
    have a50 : up L 50 (14 + 6 * h + f) (ltO f + nI j) 50 = upd (M 50) (14 + 6 * h + f) (ltO f + nI j) := by
      rw [up_s, i4, updUU]
    have un : nH (upd (M 50) (14 + 6 * h + f) (ltO f + nI j)) = nH (M 50) := nH_upd (by omega)
    obtain ⟨B, bb1, b2⟩ := m_told (M := up L 50 (14 + 6 * h + f) (ltO f + nI j)) (S := S) (h := h) (z := z) (t := t) (by rw [a50]; exact wf_set hw hf (g1 j hj)) (fun k hk => by rw [up_o (by decide), i5 54 (by decide) (by decide) (by unfold Sc; omega)]; exact hfc k hk) (by rw [a50, un]; exact hh) hz ht (by rw [up_o (by decide), i5 63 (by decide) (by decide) (by unfold Sc; omega)]; exact e1) (fun k hk => by rw [up_o (by decide), i5 64 (by decide) (by decide) (by unfold Sc; omega)]; exact e2 k hk)
    rw [a50] at bb1
    have E : ltO f + nI j + 1 = ltO f + nI (j + 1) := by rw [Int32.add_assoc, nI_1]
    refine ⟨(bset (ftB (M 50) S h f t) (j + 1), ltO f + nI (j + 1), B), ⟨rfl, rfl, ⟨ltO f + nI j, by dsimp only; rw [b2 50 (by decide) (by unfold Sc; omega), a50]⟩, fun a n1 n2 n3 => by dsimp only; rw [b2 a n2 n3, up_o n1]; exact i5 a n1 n2 n3⟩, ?_⟩
    show pi_X4_fitting_15 (nI z) (nI h) (nI f) (ltO f) (moO f) (M 50 (14 + 6 * h + f)) rec x1 x2 L = _
    unfold pi_X4_fitting_15
    rw [i2, if_neg (g2 j hj), md_at, bd_s, ii, gd_t, nI_clamp (by omega), bM_e, bb1, bd_s, if10, bI_e, bI_e, bI_e, bI_e, ft_sub, E, i1, or0]
    show _ = rec (if ftB (M 50) S h f t j = true then bset (ftB (M 50) S h f t) j ||| b1 j else bset (ftB (M 50) S h f t) j, ltO f + nI (j + 1), B)
    show (if ftB (M 50) S h f t j = true then _ else _) = _
    cases ftB (M 50) S h f t j <;> rfl
  · rintro ⟨x1, x2, L⟩ ⟨i1, i2, ⟨w, i4⟩, i5⟩ rec
    dsimp only at i1 i2 i4 i5
    refine ⟨up L 50 (14 + 6 * h + f) (M 50 (14 + 6 * h + f)), ?_, fun a n1 n2 => ?_⟩
    · show pi_X4_fitting_15 (nI z) (nI h) (nI f) (ltO f) (moO f) (M 50 (14 + 6 * h + f)) rec x1 x2 L = _
      unfold pi_X4_fitting_15
      rw [i2, if_pos g3, md_at, bd_s, ii, gd_t, nI_clamp (by omega), bM_e, i1]
    · by_cases c : a = 50
      · subst c
        rw [up_s, i4, updUU, updId]
      · rw [up_o c]; exact i5 a c n1 n2
theorem x_wrongT {M : Mem} {N : Nat → Int32} (v w : Int32) (h4 : Sh4 M) (hs : ShR 1 M N) (hw : Wf N) : mi_X3_wrongWithTold v w M = some (if inb v 4 = true then (if M 62 v.toNatClampNeg = 0 then 5 else (if inb w (nH N) = true then -1 else 0)) else 0, M) := by
  unfold mi_X3_wrongWithTold pi_X3_wrongWithTold_e
  rw [x_wrong v h4, bd_s]
  cases hv : inb v 4 with
  | false => rw [if_f, if_f, if_neg (by decide)]
  | true =>
    rw [if_t, if_t]
    by_cases q : M 62 v.toNatClampNeg = 0
    · rw [if_pos q, if_pos q, if_neg (by decide)]
    · rw [if_neg q, if_neg q, if_pos (by decide), x_lacks w hs hw, bd_s, if01]
      cases inb w (nH N) <;> rfl
theorem m_lacksT {M : Mem} (v w : Int32) (hw : Wf (M 50)) : mi_X4_lacks v w M = some (if inb v 4 = true then (if M 62 v.toNatClampNeg = 0 then -1000006 else (if inb w (nH (M 50)) = true then 0 else -1000001)) else -1000001, M) := by
  unfold mi_X4_lacks pi_X4_lacks_e
  rw [m_sheet, bd_s, if10]
  cases hv : inb v 4 with
  | false => rfl
  | true =>
    rw [if_t, if_t, gd_t]
    by_cases q : M 62 v.toNatClampNeg = 0
    · rw [if_pos q, if_pos q]
    · rw [if_neg q, if_neg q, m_hill w hw, bd_s, if10]
      cases inb w (nH (M 50)) <;> rfl
theorem ft_op {f n : Nat} (v w : Int32) (fX fM : Mem → Option (Int32 × Mem)) (kX kM : Int32 → Mem → Option (Int32 × Mem)) (hf : f < 6) (g1 : ∀ j, j < n → okT f (ltO f + nI j)) (g2 : ∀ j, j < n → ¬ moO f < ltO f + nI j) (g3 : moO f < ltO f + nI n) (hn : n ≤ 12)
    (eX : ∀ K, fX K = bd (mi_X3_wrongWithTold v w K) fun r_2 M_1 => if r_2 < 0 then (bd (mi_X3_fittingSet v w (nI f) M_1) kX) else (bd (mi_X3_finding r_2 M_1) fun r_8 M_7 => some (r_8, M_7)))
    (eM : ∀ K, fM K = bd (mi_X4_lacks v w K) fun r_2 M_1 => if r_2 = 0 then (bd (mi_X4_fitting v w (nI f) (ltO f) (moO f) M_1) kM) else (bd (mi_X4_lacks v w M_1) fun r_8 M_7 => bd (mi_X4_finding r_8 M_7) fun r_10 M_9 => some (r_10, M_9)))
    (hk : ∀ P, (∃ r, (∀ K, kX (bset P n) K = some (r, K)) ∧ ∀ K, kM (bset P n) K = some (r, K)) ∨ ((∀ K, kX (bset P n) K = mi_X3_finding (nI 3) K) ∧ ∀ K, kM (bset P n) K = mi_X4_finding (lowI 3) K)) : OpI fX fM := by
  intro c M hc hS
  obtain ⟨hw, hs, ht, ha, hkp, hfc, hrd, h4⟩ := id hS.1
  have h8 := hw.2.1
  have hab := ha.b hc
  cases hv : inb v 4 with
  | false =>
    refine op_find 0 (by decide) hS ?_ (fun K hK => ?_)
    · rw [eX, x_wrongT v w h4 hs hw, bd_s, hv, if_f, if_neg (by decide)]; exact fx_ 0 0 rfl M
    · have k50 : K 50 = M 50 := hK 50 (by decide)
      rw [eM, m_lacksT v w (by rw [k50]; exact hw), bd_s, hv, if_f, if_neg (by decide), m_lacksT v w (by rw [k50]; exact hw), bd_s, hv, if_f]; exact fm_ 0 _ low0.symm K
  | true =>
  obtain ⟨z, hz, rfl⟩ := inb_of hv (by decide)
  obtain ⟨s0, s1, s2, s3, s4⟩ := h4 z hz
  have cz : (nI z).toNatClampNeg = z := nI_clamp (by omega)
  by_cases q : M 62 z = 0
  · refine op_find 5 (by decide) hS ?_ (fun K hK => ?_)
    · rw [eX, x_wrongT _ _ h4 hs hw, bd_s, hv, if_t, cz, if_pos q, if_neg (by decide)]; exact fx_ 5 5 rfl M
    · have k62 : K 62 = M 62 := hK 62 (by decide)
      have k50 : K 50 = M 50 := hK 50 (by decide)
      rw [eM, m_lacksT _ _ (by rw [k50]; exact hw), bd_s, hv, if_t, cz, k62, if_pos q, if_neg (by decide), m_lacksT _ _ (by rw [k50]; exact hw), bd_s, hv, if_t, cz, k62, if_pos q]; exact fm_ 5 _ low5.symm K
  cases hh : inb w (nH (M 50)) with
  | false =>
    refine op_find 0 (by decide) hS ?_ (fun K hK => ?_)
    · rw [eX, x_wrongT _ _ h4 hs hw, bd_s, hv, if_t, cz, if_neg q, hh, if_f, if_neg (by decide)]; exact fx_ 0 0 rfl M
    · have k62 : K 62 = M 62 := hK 62 (by decide)
      have k50 : K 50 = M 50 := hK 50 (by decide)
      rw [eM, m_lacksT _ _ (by rw [k50]; exact hw), bd_s, hv, if_t, cz, k62, if_neg q, k50, hh, if_f, if_neg (by decide), m_lacksT _ _ (by rw [k50]; exact hw), bd_s, hv, if_t, cz, k62, if_neg q, k50, hh, if_f]; exact fm_ 0 _ low0.symm K
  | true =>
  obtain ⟨h, hlt, rfl⟩ := inb_of hh (by omega)
  obtain ⟨t, ht40, es⟩ := inb_of s3 (by decide)
  obtain ⟨L, l1, l2⟩ := ft_x (S := fun j => M 64 (40 * z + j)) (t := t) (n := n) hs hw hab.1 hab.2 hlt hz (by omega) (by rw [s2, es]) s4 hf g1 g2 g3 hn
  have hX : fX M = kX (bset (ftB (M 50) (fun j => M 64 (40 * z + j)) h f t) n) L := by
    rw [eX, x_wrongT _ _ h4 hs hw, bd_s, hv, if_t, cz, if_neg q, hh, if_t, if_pos (by decide), l1, bd_s]
  have hM : ∀ P : Mem, P 50 = M 50 → P 62 = M 62 → P 63 = M 63 → P 64 = M 64 → Fc P → ∃ Q : Mem, Bk P Q ∧ fM P = kM (bset (ftB (M 50) (fun j => M 64 (40 * z + j)) h f t) n) Q := by
    intro P p50 p62 p63 p64 pf
    obtain ⟨Q, q1, q2⟩ := ft_m (M := P) (S := fun j => M 64 (40 * z + j)) (h := h) (z := z) (t := t) (f := f) (n := n) (by rw [p50]; exact hw) pf (by rw [p50]; exact hlt) hz (by omega) (by rw [p63, es]) (fun j hj => by rw [p64]) hf g1 g2 g3 hn
    rw [p50] at q1
    refine ⟨Q, q2, ?_⟩
    rw [eM, m_lacksT _ _ (by rw [p50]; exact hw), bd_s, hv, if_t, cz, p62, if_neg q, p50, hh, if_t, if_pos rfl, q1, bd_s]
  rcases hk (ftB (M 50) (fun j => M 64 (40 * z + j)) h f t) with ⟨r, r1, r2⟩ | ⟨r1, r2⟩
  · obtain ⟨Q, q1, q2⟩ := hM L (l2 50 (by omega)) (l2 62 (by omega)) (l2 63 (by omega)) (l2 64 (by omega)) (fun j hj => by rw [l2 54 (by omega)]; exact hfc j hj)
    exact op_ask hS (hX.trans (r1 L)) l2.eqv ⟨Q, q2.trans (r2 Q), q1.eqv⟩
  · refine op_none hS l2.eqv (hX.trans (r1 L)) (fun P hP => ?_)
    obtain ⟨Q, q1, q2⟩ := hM P (by rw [hP 50 (by decide), l2 50 (by omega)]) (by rw [hP 62 (by decide), l2 62 (by omega)]) (by rw [hP 63 (by decide), l2 63 (by omega)]) (by rw [hP 64 (by decide), l2 64 (by omega)]) (fun j hj => by rw [hP 54 (by decide), l2 54 (by omega)]; exact hfc j hj)
    exact ⟨Q, q2.trans (r2 Q), q1.eqv⟩
theorem so0 : ∀ j, j < 7 → inR (ltO 0 + nI j) (ltO 0) (moO 0) = true := by decide
theorem op_kinds (v w : Int32) : OpI (mi_X3_kinds v w) (mi_X4_kinds v w) :=
  ft_op (f := 0) (n := 7) v w _ _ (fun r K => some (r, K)) (fun r K => some (r, K)) (by decide) (fun j hj => may_ok (by decide) (so0 j hj)) (by decide) (by decide) (by decide) (fun K => rfl) (fun K => rfl) (fun P => Or.inl ⟨bset P 7, fun K => rfl, fun K => rfl⟩)
theorem op_fits (v w : Int32) : OpI (mi_X3_fits v w) (mi_X4_fits v w) :=
  ft_op (f := 2) (n := 11) v w _ _ (fun r_4 M_3 => bd (mi_J6_bitCount_0f7a4 r_4 M_3) fun r_6 M_5 => some (r_6, M_5)) (fun r_4 M_3 => bd (mi_X4_bits r_4 M_3) fun r_6 M_5 => some (r_6, M_5)) (by decide) (fun j hj => may_ok (by decide) (so2 j hj)) (by decide) (by decide) (by decide) (fun K => rfl) (fun K => rfl) (fun P => Or.inl ⟨pc (bset P 11), fun K => by rw [hd_bc_set (by decide), bd_s], fun K => by rw [md_bits_set (by decide), bd_s]⟩)
theorem st_low : ∀ k, k < 2048 → k ≠ 0 → ∃ m, m < 11 ∧ (nI k &&& -(nI k)) - 1 = nI (2 ^ m - 1) ∧ k.testBit m = true ∧ ∀ i, i < m → k.testBit i = false := by decide +kernel
theorem st_pc : ∀ m, m < 11 → pc (nI (2 ^ m - 1)) - 5 = -5 + nI m ∧ 2 ^ m - 1 < 2048 := by decide
theorem st_x : ∀ j, j < 11 → (-5 + nI j) + 5 = nI j ∧ ¬ 5 < -5 + nI j ∧ (-5 + nI j) + 1 = -5 + nI (j + 1) := by decide
theorem op_step (v w : Int32) : OpI (mi_X3_step v w) (mi_X4_step v w) := by
  refine ft_op (f := 2) (n := 11) v w _ _ (fun r_4 M_3 => lp (fun rc30 x => pi_X3_step_30 v w r_4 rc30 x.1 x.2) FU ((-5), M_3)) (fun r_4 M_3 => if r_4 = 0 then (bd (mi_X4_finding (-1000004) M_3) fun r_6 M_5 => some (r_6, M_5)) else (bd (mi_X4_bits ((r_4 &&& (-r_4)) - 1) M_3) fun r_8 M_7 => some (r_8 - 5, M_7))) (by decide) (fun j hj => may_ok (by decide) (so2 j hj)) (by decide) (by decide) (by decide) (fun K => rfl) (fun K => rfl) (fun P => ?_)
  have one : ∀ j, j < 11 → ∀ (K : Mem) rec, pi_X3_step_30 v w (bset P 11) rec (-5 + nI j) K = if P j = true then some (-5 + nI j, K) else rec (-5 + nI (j + 1), K) := by
    intro j hj K rec
    obtain ⟨s1, s2, s3⟩ := st_x j hj
    unfold pi_X3_step_30
    rw [if_neg s2, s1, bI_e, s3]
    cases p : P j with
    | false => rw [if_pos ((bit_z (by decide) hj).mpr p), if_f]
    | true => rw [if_neg (fun q => by rw [(bit_z (by decide) hj).mp q] at p; cases p), if_t]
  cases q : fiN P 11 with
  | some m =>
    obtain ⟨h1, h2, h3⟩ := fi_some 11 q
    refine Or.inl ⟨-5 + nI m, fun K => ?_, fun K => ?_⟩
    · exact lp_for (fun k => (-5 + nI k, K)) m _ (fun k hk rec => by
        show pi_X3_step_30 v w (bset P 11) rec (-5 + nI k) K = _
        rw [one k (by omega), h3 k hk, if_f]) (fun rec => by
        show pi_X3_step_30 v w (bset P 11) rec (-5 + nI m) K = _
        rw [one m h1, h2, if_t]) (FU_le (by omega))
    · have n0 : bset P 11 ≠ 0 := fun z => by
        have := (bset_0 (by decide)).mp z m h1
        rw [h2] at this; cases this
      have b11 : bnum P 11 < 2048 := bnum_lt P 11
      rw [if_neg n0, bset_num (by decide)]
      obtain ⟨u, u1, u2, u3, u4⟩ := st_low (bnum P 11) b11 (fun z => n0 (by rw [bset_num (by decide), z]; rfl))
      have eu : u = m := by
        rw [tb_bnum, Bool.and_eq_true] at u3
        rcases Nat.lt_trichotomy u m with a | a | a
        · rw [h3 u a] at u3; cases u3.2
        · exact a
        · have := u4 m a
          rw [tb_bnum, decide_eq_true h1, h2] at this
          cases this
      subst eu
      rw [u2, md_bits (st_pc u u1).2, bd_s, (st_pc u u1).1]
  | none =>
    have h3 := fi_none 11 q
    have z0 : bset P 11 = 0 := (bset_0 (by decide)).mpr h3
    refine Or.inr ⟨fun K => ?_, fun K => ?_⟩
    · exact lp_for (fun k => (-5 + nI k, K)) 11 _ (fun k hk rec => by
        show pi_X3_step_30 v w (bset P 11) rec (-5 + nI k) K = _
        rw [one k (by omega), h3 k hk, if_f]) (fun rec => by
        show pi_X3_step_30 v w (bset P 11) rec (-5 + nI 11) K = _
        unfold pi_X3_step_30
        rw [if_pos (by decide)]; exact fx_ 3 3 rfl K) (FU_le (by omega))
    · rw [if_pos z0]; exact fm_ 3 _ low3.symm K
