/-! the class: a shire in memory -/
def ShR (b : Nat) (M : Mem) (N : Nat → Int32) : Prop := M b 0 = N 3 ∧ M b 1 = N 0 ∧ M b 2 = N 2 ∧ M b 3 = N 1 ∧ (∀ i, i < 10 → M (b + 1) i = N (4 + i)) ∧ ∀ h, h < 8 → M (b + 2) h = kdN N h ∧ M (b + 3) h = vaN N h ∧ M (b + 4) h = spN N h ∧ M (b + 5) h = tuN N h ∧ M (b + 6) h = hiN N h ∧ M (b + 7) h = boN N h
def TbR (b : Nat) (M : Mem) (N : Nat → Int32) : Prop := (∀ h, h < nH N → M (b + 8) h = fcN N h ∧ M (b + 9) h = mtN N h) ∧ ∀ v, v < 12 → M (b + 10) v = stN N (nI v) ∧ M (b + 11) v = loN N (nI v)
/-- nothing outside this shire has changed -/
def Fr (b : Nat) (M K : Mem) : Prop := ∀ a, a < b ∨ b + 12 ≤ a → K a = M a
theorem Fr.rf {b : Nat} {M : Mem} : Fr b M M := fun _ _ => rfl
theorem Fr.tr {b : Nat} {M K Q : Mem} (h1 : Fr b M K) (h2 : Fr b K Q) : Fr b M Q := fun a ha => (h2 a ha).trans (h1 a ha)
theorem ShR.cg {b : Nat} {M K : Mem} {N : Nat → Int32} (h : ShR b M N) (e : ∀ a, b ≤ a → a < b + 8 → K a = M a) : ShR b K N := by
  obtain ⟨h1, h2, h3, h4, h5, h6⟩ := h
  have e0 := e b (by omega) (by omega)
  have e1 := e (b + 1) (by omega) (by omega)
  have e2 := e (b + 2) (by omega) (by omega)
  have e3 := e (b + 3) (by omega) (by omega)
  have e4 := e (b + 4) (by omega) (by omega)
  have e5 := e (b + 5) (by omega) (by omega)
  have e6 := e (b + 6) (by omega) (by omega)
  have e7 := e (b + 7) (by omega) (by omega)
  refine ⟨by rw [e0]; exact h1, by rw [e0]; exact h2, by rw [e0]; exact h3, by rw [e0]; exact h4, fun i hi => by rw [e1]; exact h5 i hi, fun h hh => ?_⟩
  rw [e2, e3, e4, e5, e6, e7]
  exact h6 h hh
theorem hd_fill (k n : Nat) (v : Int32) (M : Mem) (hn : n < 900) : ∃ K : Mem, mi_J7_fill_53178 k n v M = some K ∧ (∀ j, j < n → K k j = v) ∧ ∀ a, a ≠ k → K a = M a := by
  unfold mi_J7_fill_53178 pi_J7_fill_53178_e
  rw [bI_e]
  refine lp_inv (I := fun j zx => zx.1 = nI j ∧ (∀ i, i < j → zx.2 k i = v) ∧ ∀ a, a ≠ k → zx.2 a = M a) (Post := fun zo => ∃ K : Mem, zo = some K ∧ (∀ j, j < n → K k j = v) ∧ ∀ a, a ≠ k → K a = M a) n ?_ ?_ FU (FU_le (by omega)) (0, M) ⟨rfl, fun i hi => absurd hi (by omega), fun _ _ => rfl⟩
  · intro j hj zx hI rec
    obtain ⟨h1, h2, h3⟩ := hI
    refine ⟨(nI (j + 1), up zx.2 k j v), ⟨rfl, fun i hi => ?_, fun a ha => ?_⟩, ?_⟩
    · show up zx.2 k j v k i = v
      rw [up_s]
      by_cases h : i = j
      · subst h; exact upd_s
      · rw [upd_o h]; exact h2 i (by omega)
    · show up zx.2 k j v a = M a
      rw [up_o ha]; exact h3 a ha
    · show pi_J7_fill_53178_5 k n v (nI n) rec zx.1 zx.2 = _
      unfold pi_J7_fill_53178_5
      rw [h1, if_neg (nI_ge hj (by omega)), inb_nI hj (by omega), gd_t, bM_e, bI_e, nI_clamp (by omega), nI_1]
  · intro zx hI rec
    obtain ⟨h1, h2, h3⟩ := hI
    refine ⟨zx.2, ?_, h2, h3⟩
    show pi_J7_fill_53178_5 k n v (nI n) rec zx.1 zx.2 = _
    unfold pi_J7_fill_53178_5
    rw [h1, if_pos (Int32.le_refl _)]
theorem y12_small {x : Int32} (h0 : 0 ≤ x.toInt) : x - x / 12 * 12 = y12 x := by
  unfold y12
  have h1 : (x - x / 12 * 12).toInt = x.toInt.tmod 12 := rem_toInt x 12
  have h2 : 0 ≤ x.toInt.tmod 12 := Int.tmod_nonneg 12 h0
  rw [if_pos (z_nonneg.mpr (by rw [h1]; exact h2))]
theorem foT_in : ∀ j, j < 4 → 0 ≤ (foT j).toInt ∧ (foT j).toInt ≤ 11 := by decide
theorem fc_sum {N : Nat → Int32} {h : Nat} (hw : Wh N h) : 0 ≤ (vaN N h + foT (tuN N h).toNatClampNeg).toInt := by
  have h1 := inb_iff.mp hw.2.1
  have h2 := foT_in _ (inb_lt hw.2.2.2.1).2
  rw [z_add (by omega) (by omega)]
  omega
theorem fcN_in {N : Nat → Int32} {h : Nat} : inb (fcN N h) 12 = true := y12_in _
theorem nI_back {v : Int32} {n : Nat} (h : inb v n = true) : nI v.toNatClampNeg = v := by
  have h1 := inb_iff.mp h
  have h3 : v.toInt < 2 ^ 31 := Int32.toInt_lt v
  have h2 : (v.toNatClampNeg : Int) = v.toInt := by
    show ((v.toInt.toNat : Nat) : Int) = v.toInt
    omega
  apply Int32.toInt_inj.mp
  rw [nI_toInt (by omega)]
  exact h2
theorem hd_look {b : Nat} {M : Mem} {N : Nat → Int32} (hs : ShR b M N) (hw : Wf N) : ∃ K : Mem, mi_X2_lookAround b M = some K ∧ ShR b K N ∧ TbR b K N ∧ ∀ a, a < b + 8 ∨ b + 12 ≤ a → K a = M a := by
  unfold mi_X2_lookAround pi_X2_lookAround_e
  have h8 := hw.2.1
  obtain ⟨K1, e1, f1, g1⟩ := hd_fill (b + 10) 12 0 M (by decide)
  obtain ⟨K2, e2, f2, g2⟩ := hd_fill (b + 11) 12 0 K1 (by decide)
  rw [e1, bv_s, e2, bv_s]
  refine lp_inv (I := fun j zx => zx.1 = nI j ∧ (∀ a, a < b + 8 ∨ b + 12 ≤ a ∨ a = b + 9 → zx.2 a = M a) ∧ (∀ h, h < j → zx.2 (b + 8) h = fcN N h) ∧ ∀ v, v < 12 → zx.2 (b + 10) v = bset (fun h => decide (vaN N h = nI v)) j ∧ zx.2 (b + 11) v = bset (fun h => decide (fcN N h = nI v)) j)
    (Post := fun zo => ∃ K : Mem, zo = some K ∧ ShR b K N ∧ TbR b K N ∧ ∀ a, a < b + 8 ∨ b + 12 ≤ a → K a = M a) (nH N) ?_ ?_ FU (FU_le (by omega)) (0, K2) ⟨rfl, fun a ha => ?_, fun h hh => absurd hh (by omega), fun v hv => ⟨?_, ?_⟩⟩
  · intro j hj zx hI rec
    obtain ⟨h1, h2, h3, h4⟩ := hI
    obtain ⟨zi, K⟩ := zx
    dsimp only at h1 h2 h3 h4
    subst h1
    have q3 : K b 3 = nI (nH N) := by rw [h2 b (by omega), hs.2.2.2.1, hw.1]
    have hj8 : j < 8 := by omega
    have w := hw.2.2.2.1 j hj8
    have qv : K (b + 3) j = vaN N j := by rw [h2 (b + 3) (by omega)]; exact (hs.2.2.2.2.2 j hj8).2.1
    have qt : K (b + 5) j = tuN N j := by rw [h2 (b + 5) (by omega)]; exact (hs.2.2.2.2.2 j hj8).2.2.2.1
    have ef : vaN N j + foT (tuN N j).toNatClampNeg - (vaN N j + foT (tuN N j).toNatClampNeg) / 12 * 12 = fcN N j := y12_small (fc_sum w)
    have lv := (inb_lt w.2.1).2
    have lf := (inb_lt (fcN_in (N := N) (h := j))).2
    refine ⟨(nI (j + 1), up (up (up K (b + 8) j (fcN N j)) (b + 10) (vaN N j).toNatClampNeg (K (b + 10) (vaN N j).toNatClampNeg ||| b1 j)) (b + 11) (fcN N j).toNatClampNeg (K (b + 11) (fcN N j).toNatClampNeg ||| b1 j)), ⟨rfl, ?_, ?_, ?_⟩, ?_⟩
    · intro a ha
      show up _ _ _ _ a = M a
      rw [up_o (by omega), up_o (by omega), up_o (by omega)]
      exact h2 a ha
    · intro h hh
      show up _ _ _ _ (b + 8) h = _
      rw [up_o (by omega), up_o (by omega), up_s]
      by_cases e : h = j
      · subst e; exact upd_s
      · rw [upd_o e]; exact h3 h (by omega)
    · intro v hv
      constructor
      · show up _ _ _ _ (b + 10) v = bset _ (j + 1)
        rw [up_o (by omega), up_s]
        have ho : up K (b + 8) j (fcN N j) (b + 10) = K (b + 10) := up_o (by omega)
        rw [ho]
        by_cases e : v = (vaN N j).toNatClampNeg
        · have e2 : vaN N j = nI v := by rw [e]; exact (nI_back w.2.1).symm
          rw [e, upd_s, (h4 _ lv).1, ← e]
          simp [bset, e2]
        · have e2 : ¬ vaN N j = nI v := fun z => e (by rw [z, nI_clamp (by omega)])
          rw [upd_o e, (h4 v hv).1]
          simp [bset, e2]
      · show up _ _ _ _ (b + 11) v = bset _ (j + 1)
        rw [up_s]
        have ho : up (up K (b + 8) j (fcN N j)) (b + 10) (vaN N j).toNatClampNeg (K (b + 10) (vaN N j).toNatClampNeg ||| b1 j) (b + 11) = K (b + 11) := by rw [up_o (by omega), up_o (by omega)]
        rw [ho]
        by_cases e : v = (fcN N j).toNatClampNeg
        · have e2 : fcN N j = nI v := by rw [e]; exact (nI_back fcN_in).symm
          rw [e, upd_s, (h4 _ lf).2, ← e]
          simp [bset, e2]
        · have e2 : ¬ fcN N j = nI v := fun z => e (by rw [z, nI_clamp (by omega)])
          rw [upd_o e, (h4 v hv).2]
          simp [bset, e2]
    · show pi_X2_lookAround_18 b rec (nI j) K = _
      unfold pi_X2_lookAround_18
      have o1 : up K (b + 8) j (fcN N j) (b + 3) = K (b + 3) := up_o (by omega)
      have o2 : up K (b + 8) j (fcN N j) (b + 10) = K (b + 10) := up_o (by omega)
      have o3 : up (up K (b + 8) j (fcN N j)) (b + 10) (vaN N j).toNatClampNeg (K (b + 10) (vaN N j).toNatClampNeg ||| b1 j) (b + 11) = K (b + 11) := by rw [up_o (by omega), up_o (by omega)]
      rw [q3, if_neg (nI_ge hj (by omega)), inb_nI hj8 (by decide), gd_t, gd_t, nI_clamp (by omega), qt, w.2.2.2.1, gd_t, qv, ef, bI_e, gd_t, bM_e, gd_t, o1, qv, w.2.1, gd_t, gd_t, bM_e, o2, fcN_in, gd_t, gd_t, bM_e, bI_e, nI_1]
      show rec (nI (j + 1), up (up (up K (b + 8) j (fcN N j)) (b + 10) (vaN N j).toNatClampNeg (K (b + 10) (vaN N j).toNatClampNeg ||| b1 j)) (b + 11) (fcN N j).toNatClampNeg (up (up K (b + 8) j (fcN N j)) (b + 10) (vaN N j).toNatClampNeg (K (b + 10) (vaN N j).toNatClampNeg ||| b1 j) (b + 11) (fcN N j).toNatClampNeg ||| b1 j)) = _
      rw [o3]
  · intro zx hI rec
    obtain ⟨h1, h2, h3, h4⟩ := hI
    obtain ⟨zi, K⟩ := zx
    dsimp only at h1 h2 h3 h4
    subst h1
    have q3 : K b 3 = nI (nH N) := by rw [h2 b (by omega), hs.2.2.2.1, hw.1]
    show ∃ Q : Mem, pi_X2_lookAround_18 b rec (nI (nH N)) K = some Q ∧ _
    unfold pi_X2_lookAround_18
    rw [q3, if_pos (Int32.le_refl _)]
    refine lp_inv (I := fun j zx => zx.1 = nI j ∧ (∀ a, a ≠ b + 9 → zx.2 a = K a) ∧ ∀ h, h < j → zx.2 (b + 9) h = mtN N h)
      (Post := fun zo => ∃ Q : Mem, zo = some Q ∧ ShR b Q N ∧ TbR b Q N ∧ ∀ a, a < b + 8 ∨ b + 12 ≤ a → Q a = M a) (nH N) ?_ ?_ FU (FU_le (by omega)) (0, K) ⟨rfl, fun _ _ => rfl, fun h hh => absurd hh (by omega)⟩
    · intro j hj zx hI rec
      obtain ⟨g1, g2, g3⟩ := hI
      obtain ⟨zi, Q⟩ := zx
      dsimp only at g1 g2 g3
      subst g1
      have hj8 : j < 8 := by omega
      have w := hw.2.2.2.1 j hj8
      have p3 : Q b 3 = nI (nH N) := by rw [g2 b (by omega)]; exact q3
      have p8 : Q (b + 8) j = fcN N j := by rw [g2 (b + 8) (by omega)]; exact h3 j hj
      have pv : Q (b + 3) j = vaN N j := by rw [g2 (b + 3) (by omega), h2 (b + 3) (by omega)]; exact (hs.2.2.2.2.2 j hj8).2.1
      have lv := (inb_lt w.2.1).2
      have lf := (inb_lt (fcN_in (N := N) (h := j))).2
      have pa : Q (b + 10) (fcN N j).toNatClampNeg = bset (fun h => decide (vaN N h = fcN N j)) (nH N) := by
        rw [g2 (b + 10) (by omega), (h4 _ lf).1, nI_back fcN_in]
      have pb : Q (b + 11) (vaN N j).toNatClampNeg = bset (fun h => decide (fcN N h = vaN N j)) (nH N) := by
        rw [g2 (b + 11) (by omega), (h4 _ lv).2, nI_back w.2.1]
      have em : bset (fun h => decide (vaN N h = fcN N j)) (nH N) &&& bset (fun h => decide (fcN N h = vaN N j)) (nH N) &&& (b1 j ^^^ (-1)) = mtN N j := by
        rw [bset_and (by omega), bset_drop (by omega) (by omega)]
        refine bset_congr (fun h hh => ?_)
        unfold mtB
        by_cases c1 : h = j <;> by_cases c2 : fcN N j = vaN N h <;> by_cases c3 : fcN N h = vaN N j <;> simp [c1, c2, c3, eq_comm]
      refine ⟨(nI (j + 1), up Q (b + 9) j (mtN N j)), ⟨rfl, fun a ha => ?_, fun h hh => ?_⟩, ?_⟩
      · show up _ _ _ _ a = K a
        rw [up_o ha]; exact g2 a ha
      · show up _ _ _ _ (b + 9) h = _
        rw [up_s]
        by_cases e : h = j
        · subst e; exact upd_s
        · rw [upd_o e]; exact g3 h (by omega)
      · show pi_X2_lookAround_91 b rec (nI j) Q = _
        unfold pi_X2_lookAround_91
        rw [p3, if_neg (nI_ge hj (by omega)), inb_nI hj8 (by decide), gd_t, nI_clamp (by omega), p8, fcN_in, gd_t, gd_t, pv, w.2.1, gd_t, gd_t, bM_e, pa, pb]
        show bI (nI j + 1) (fun v1_9 => rec (v1_9, up Q (b + 9) j (bset (fun h => decide (vaN N h = fcN N j)) (nH N) &&& bset (fun h => decide (fcN N h = vaN N j)) (nH N) &&& (b1 j ^^^ (-1))))) = _
        rw [em, bI_e, nI_1]
    · intro zx hI rec
      obtain ⟨g1, g2, g3⟩ := hI
      obtain ⟨zi, Q⟩ := zx
      dsimp only at g1 g2 g3
      subst g1
      have p3 : Q b 3 = nI (nH N) := by rw [g2 b (by omega)]; exact q3
      refine ⟨Q, ?_, hs.cg (fun a ha hb => by rw [g2 a (by omega), h2 a (by omega)]), ⟨fun h hh => ⟨by rw [g2 (b + 8) (by omega)]; exact h3 h hh, g3 h hh⟩, fun v hv => ⟨by rw [g2 (b + 10) (by omega)]; exact (h4 v hv).1, by rw [g2 (b + 11) (by omega)]; exact (h4 v hv).2⟩⟩, fun a ha => by rw [g2 a (by omega), h2 a (by omega)]⟩
      show pi_X2_lookAround_91 b rec (nI (nH N)) Q = _
      unfold pi_X2_lookAround_91
      rw [p3, if_pos (Int32.le_refl _)]
  · show K2 a = M a
    rw [g2 a (by omega), g1 a (by omega)]
  · show K2 (b + 10) v = 0
    rw [g2 (b + 10) (by omega)]; exact f1 v hv
  · exact f2 v hv
