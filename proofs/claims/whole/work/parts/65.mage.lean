/-! the reference: what a hill does, an age -/
theorem md_bits_st {N : Nat → Int32} (h : nH N ≤ 8) (v : Int32) (M : Mem) : mi_X4_bits (stN N v) M = some (pc (stN N v), M) := md_bits_set (by omega) M
theorem md_moves {h : Nat} {M : Mem} (hh : h < 8) (hw : Wf (M 50)) (hm : M 55 h = mtN (M 50) h) : mi_X4_movesOf 4 (nI h) (kdN (M 50) h) M = some (mvN (M 50) h, M) := by
  have h8 := hw.2.1
  have w := hw.2.2.2.1 h hh
  have e2 : ∀ n, mi_X4_movesOf (n + 1) (nI h) 2 M = some (paN (M 50) h, M) := by
    intro n
    show pi_X4_movesOf_e (mi_X4_movesOf n) (nI h) 2 M = _
    unfold pi_X4_movesOf_e paN
    rw [md_h2 hh, bd_s, inb_nI hh (by decide), gd_t, nI_clamp (by omega), hm]
    show (if mtN (M 50) h = 0 then some (spN (M 50) h, M) else some (0, M)) = _
    split <;> rfl
  have e3 : ∀ n, mi_X4_movesOf (n + 2) (nI h) 3 M = some (twN (M 50) h, M) := by
    intro n
    show pi_X4_movesOf_e (mi_X4_movesOf (n + 1)) (nI h) 3 M = _
    unfold pi_X4_movesOf_e twN
    rw [md_h2 hh, bd_s, e2, bd_s, md_h1 hh, bd_s, md_atValley _ hw, bd_s]
    unfold stN
    rw [md_bits_set (by omega), bd_s]
    rfl
  have e1 : ∀ n, mi_X4_movesOf (n + 1) (nI h) 1 M = some (2 * spN (M 50) h, M) := by
    intro n
    show pi_X4_movesOf_e (mi_X4_movesOf n) (nI h) 1 M = _
    unfold pi_X4_movesOf_e
    rw [md_h2 hh, bd_s]
    rfl
  show pi_X4_movesOf_e (mi_X4_movesOf 3) (nI h) (kdN (M 50) h) M = _
  unfold pi_X4_movesOf_e mvN
  rw [md_h2 hh, bd_s, inb_nI hh (by decide), gd_t, nI_clamp (by omega), hm, e2, bd_s, md_h1 hh, bd_s, md_atValley _ hw, bd_s, md_bits_st h8, bd_s, e3, bd_s, e1, bd_s, md_h4 hh, bd_s]
  rcases kd7 w.1 with e | e | e | e | e | e | e
  · rw [e]; rfl
  · rw [e]; rfl
  · rw [e]
    show (if mtN (M 50) h = 0 then some (spN (M 50) h, M) else some (0, M)) = some (paN (M 50) h, M)
    unfold paN
    split <;> rfl
  · rw [e]; rfl
  · rw [e]; rfl
  · rw [e]; rfl
  · rw [e]
    show (if hiN (M 50) h ≤ 50 then some (2 * spN (M 50) h + 0, M) else some (2 * spN (M 50) h + 1, M)) = some (2 * spN (M 50) h + taN (M 50) h, M)
    unfold taN
    split <;> rfl
theorem md_turns {h : Nat} {M : Mem} (hh : h < 8) (hw : Wf (M 50)) : mi_X4_turnsOf 3 (nI h) (kdN (M 50) h) M = some (tnN (M 50) h, M) := by
  have w := hw.2.2.2.1 h hh
  have e3 : ∀ n, mi_X4_turnsOf (n + 1) (nI h) 3 M = some (1 + taN (M 50) h, M) := by
    intro n
    show pi_X4_turnsOf_e (mi_X4_turnsOf n) (nI h) 3 M = _
    unfold pi_X4_turnsOf_e
    rw [md_h4 hh, bd_s]
    show (if hiN (M 50) h ≤ 50 then some (1, M) else some (2, M)) = some (1 + taN (M 50) h, M)
    unfold taN
    split <;> rfl
  show pi_X4_turnsOf_e (mi_X4_turnsOf 2) (nI h) (kdN (M 50) h) M = _
  unfold pi_X4_turnsOf_e tnN
  rw [md_h4 hh, bd_s, e3, bd_s]
  rcases kd7 w.1 with e | e | e | e | e | e | e
  · rw [e]; rfl
  · rw [e]; rfl
  · rw [e]; rfl
  · rw [e]
    show (if hiN (M 50) h ≤ 50 then some (1, M) else some (2, M)) = some (1 + taN (M 50) h, M)
    unfold taN
    split <;> rfl
  · rw [e]; rfl
  · rw [e]; rfl
  · rw [e]; rfl
theorem md_sinks {h : Nat} {M : Mem} (hh : h < 8) (hw : Wf (M 50)) : mi_X4_sinksOf (kdN (M 50) h) M = some (skN (M 50) h, M) := by
  have w := hw.2.2.2.1 h hh
  unfold mi_X4_sinksOf pi_X4_sinksOf_e skN
  rw [in3_62, gd_t, tN3, bI_e, Int32.add_comm 1 (M 50 3)]
  rcases kd7 w.1 with e | e | e | e | e | e | e <;> rw [e] <;> rfl
/-- which cells of the reference an age writes beside its row -/
def Sc (a : Nat) : Prop := a = 55 ∨ a = 56 ∨ a = 57 ∨ a = 58
theorem md_looks {M : Mem} (hw : Wf (M 50)) (hf : Fc M) : ∃ K : Mem, mi_X4_looksAt M = some K ∧ (∀ a, ¬ Sc a → K a = M a) ∧ ∀ h, h < nH (M 50) → K 55 h = mtN (M 50) h ∧ K 56 h = mvN (M 50) h ∧ K 57 h = tnN (M 50) h ∧ K 58 h = skN (M 50) h := by
  have h8 := hw.2.1
  unfold mi_X4_looksAt pi_X4_looksAt_e
  refine lp_inv (I := fun j zx => zx.1 = nI j ∧ (∀ a, ¬ Sc a → zx.2 a = M a) ∧ ∀ h, h < j → zx.2 55 h = mtN (M 50) h ∧ zx.2 56 h = mvN (M 50) h ∧ zx.2 57 h = tnN (M 50) h ∧ zx.2 58 h = skN (M 50) h)
    (Post := fun zo => ∃ K : Mem, zo = some K ∧ (∀ a, ¬ Sc a → K a = M a) ∧ ∀ h, h < nH (M 50) → K 55 h = mtN (M 50) h ∧ K 56 h = mvN (M 50) h ∧ K 57 h = tnN (M 50) h ∧ K 58 h = skN (M 50) h) (nH (M 50)) ?_ ?_ FU (FU_le (by omega)) (0, M) ⟨rfl, fun _ _ => rfl, fun h hh => absurd hh (by omega)⟩
  · intro j hj zx hI rec
    obtain ⟨h1, h2, h3⟩ := hI
    obtain ⟨zi, K⟩ := zx
    dsimp only at h1 h2 h3
    subst h1
    have hj8 : j < 8 := by omega
    have q50 : K 50 = M 50 := h2 50 (by unfold Sc; omega)
    have q54 : Fc K := by
      intro i hi
      rw [h2 54 (by unfold Sc; omega)]; exact hf i hi
    have wK : Wf (K 50) := by rw [q50]; exact hw
    have n1 : up K 55 j (mtN (M 50) j) 50 = K 50 := up_o (by decide)
    have n2 : up (up K 55 j (mtN (M 50) j)) 56 j (mvN (M 50) j) 50 = K 50 := by rw [up_o (by decide)]; exact n1
    have n3 : up (up (up K 55 j (mtN (M 50) j)) 56 j (mvN (M 50) j)) 57 j (tnN (M 50) j) 50 = K 50 := by rw [up_o (by decide)]; exact n2
    refine ⟨(nI (j + 1), up (up (up (up K 55 j (mtN (M 50) j)) 56 j (mvN (M 50) j)) 57 j (tnN (M 50) j)) 58 j (skN (M 50) j)), ⟨rfl, fun a ha => ?_, fun h hh => ?_⟩, ?_⟩
    · dsimp only
      unfold Sc at ha
      rw [up_o (by omega), up_o (by omega), up_o (by omega), up_o (by omega)]
      exact h2 a (by unfold Sc; omega)
    · dsimp only
      have r55 : (up (up (up (up K 55 j (mtN (M 50) j)) 56 j (mvN (M 50) j)) 57 j (tnN (M 50) j)) 58 j (skN (M 50) j)) 55 = upd (K 55) j (mtN (M 50) j) := by rw [up_o (by decide), up_o (by decide), up_o (by decide), up_s]
      have r56 : (up (up (up (up K 55 j (mtN (M 50) j)) 56 j (mvN (M 50) j)) 57 j (tnN (M 50) j)) 58 j (skN (M 50) j)) 56 = upd (K 56) j (mvN (M 50) j) := by rw [up_o (by decide), up_o (by decide), up_s, up_o (by decide)]
      have r57 : (up (up (up (up K 55 j (mtN (M 50) j)) 56 j (mvN (M 50) j)) 57 j (tnN (M 50) j)) 58 j (skN (M 50) j)) 57 = upd (K 57) j (tnN (M 50) j) := by rw [up_o (by decide), up_s, up_o (by decide), up_o (by decide)]
      have r58 : (up (up (up (up K 55 j (mtN (M 50) j)) 56 j (mvN (M 50) j)) 57 j (tnN (M 50) j)) 58 j (skN (M 50) j)) 58 = upd (K 58) j (skN (M 50) j) := by rw [up_s, up_o (by decide), up_o (by decide), up_o (by decide)]
      rw [r55, r56, r57, r58]
      by_cases c : h = j
      · subst c
        rw [upd_s, upd_s, upd_s, upd_s]
        exact ⟨rfl, rfl, rfl, rfl⟩
      · rw [upd_o c, upd_o c, upd_o c, upd_o c]
        exact h3 h (by omega)
    · show pi_X4_looksAt_2 rec (nI j) K = _
      unfold pi_X4_looksAt_2
      have e0 : kdN (M 50) j = kdN (K 50) j := by rw [q50]
      have w1 : Wf (up K 55 j (mtN (M 50) j) 50) := by rw [n1]; exact wK
      have w2 : Wf (up (up K 55 j (mtN (M 50) j)) 56 j (mvN (M 50) j) 50) := by rw [n2]; exact wK
      have w3 : Wf (up (up (up K 55 j (mtN (M 50) j)) 56 j (mvN (M 50) j)) 57 j (tnN (M 50) j) 50) := by rw [n3]; exact wK
      have m1 := md_moves (M := up K 55 j (mtN (M 50) j)) hj8 w1 (by rw [up_s, upd_s, n1, q50])
      have m2 := md_turns (M := up (up K 55 j (mtN (M 50) j)) 56 j (mvN (M 50) j)) hj8 w2
      have m3 := md_sinks (M := up (up (up K 55 j (mtN (M 50) j)) 56 j (mvN (M 50) j)) 57 j (tnN (M 50) j)) hj8 w3
      rw [n1, q50] at m1
      rw [n2, q50] at m2
      rw [n3, q50] at m3
      rw [in1_62, gd_t, tN1, q50, hw.1, if_neg (nI_ge hj (by omega)), md_meeting hj8 wK q54, bd_s, inb_nI hj8 (by decide), gd_t, nI_clamp (by omega), q50, bM_e, md_h0 hj8, bd_s, n1, q50, m1, bd_s, gd_t, bM_e, md_h0 hj8, bd_s, n2, q50, m2, bd_s, gd_t, bM_e, md_h0 hj8, bd_s, n3, q50, m3, bd_s, gd_t, bM_e, bI_e, nI_1]
  · intro zx hI rec
    obtain ⟨h1, h2, h3⟩ := hI
    obtain ⟨zi, K⟩ := zx
    dsimp only at h1 h2 h3
    subst h1
    have q50 : K 50 = M 50 := h2 50 (by unfold Sc; omega)
    refine ⟨K, ?_, h2, h3⟩
    show pi_X4_looksAt_2 rec (nI (nH (M 50))) K = _
    unfold pi_X4_looksAt_2
    rw [in1_62, gd_t, tN1, q50, hw.1, if_pos (Int32.le_refl _)]
/-- the row while an age goes by: those below j are done -/
def rowJ (N : Nat → Int32) (j : Nat) : Nat → Int32 := fun i => if 14 ≤ i ∧ i < 14 + 6 * j then agH N ((i - 14) / 6) ((i - 14) % 6) else N i
theorem rowJ_h {N : Nat → Int32} {j h f : Nat} (hf : f < 6) : rowJ N j (14 + 6 * h + f) = if h < j then agH N h f else N (14 + 6 * h + f) := by
  unfold rowJ
  by_cases c : h < j
  · rw [if_pos (by omega), if_pos c, show (14 + 6 * h + f - 14) / 6 = h by omega, show (14 + 6 * h + f - 14) % 6 = f by omega]
  · rw [if_neg (by omega), if_neg c]
theorem rowJ_l {N : Nat → Int32} {j i : Nat} (h : i < 14) : rowJ N j i = N i := by
  unfold rowJ
  rw [if_neg (by omega)]
theorem rowJ_s {N : Nat → Int32} {j : Nat} : upd (upd (upd (upd (rowJ N j) (14 + 6 * j + 1) (agH N j 1)) (14 + 6 * j + 3) (agH N j 3)) (14 + 6 * j + 4) (agH N j 4)) (14 + 6 * j + 5) (agH N j 5) = rowJ N (j + 1) := by
  funext i
  by_cases c : 14 ≤ i ∧ i < 14 + 6 * (j + 1)
  · by_cases c2 : i < 14 + 6 * j
    · rw [upd_o (by omega), upd_o (by omega), upd_o (by omega), upd_o (by omega)]
      unfold rowJ
      rw [if_pos (by omega), if_pos (by omega)]
    · obtain ⟨f, hf, rfl⟩ : ∃ f, f < 6 ∧ i = 14 + 6 * j + f := ⟨i - (14 + 6 * j), by omega, by omega⟩
      rw [rowJ_h hf, if_pos (by omega)]
      match f, hf with
      | 0, _ =>
        rw [upd_o (by omega), upd_o (by omega), upd_o (by omega), upd_o (by omega), rowJ_h (by decide), if_neg (by omega)]
        rfl
      | 1, _ => rw [upd_o (by omega), upd_o (by omega), upd_o (by omega), upd_s]
      | 2, _ =>
        rw [upd_o (by omega), upd_o (by omega), upd_o (by omega), upd_o (by omega), rowJ_h (by decide), if_neg (by omega)]
        rfl
      | 3, _ => rw [upd_o (by omega), upd_o (by omega), upd_s]
      | 4, _ => rw [upd_o (by omega), upd_s]
      | 5, _ => rw [upd_s]
      | f + 6, hf => omega
  · rw [upd_o (by omega), upd_o (by omega), upd_o (by omega), upd_o (by omega)]
    unfold rowJ
    rw [if_neg (by omega), if_neg (by omega)]
theorem md_atf {h f : Nat} (M : Mem) (c : Int32) (hc : c = nI f) : mi_X4_at (nI h) c M = some (nI (14 + 6 * h + f), M) := by rw [hc]; exact md_at M
theorem md_age {M : Mem} (hw : Wf (M 50)) (hf : Fc M) : ∃ K : Mem, mi_X4_age M = some K ∧ K 50 = ageN (M 50) ∧ ∀ a, ¬ Sc a → a ≠ 50 → K a = M a := by
  have h8 := hw.2.1
  unfold mi_X4_age pi_X4_age_e
  obtain ⟨K0, e0, f0, g0⟩ := md_looks hw hf
  rw [e0, bv_s]
  have k50 : K0 50 = M 50 := f0 50 (by unfold Sc; omega)
  refine lp_inv (I := fun j zx => zx.1 = nI j ∧ zx.2 50 = rowJ (M 50) j ∧ ∀ a, a ≠ 50 → zx.2 a = K0 a)
    (Post := fun zo => ∃ K : Mem, zo = some K ∧ K 50 = ageN (M 50) ∧ ∀ a, ¬ Sc a → a ≠ 50 → K a = M a) (nH (M 50)) ?_ ?_ FU (FU_le (by omega)) (0, K0) ⟨rfl, ?_, fun _ _ => rfl⟩
  · intro j hj zx hI rec
    obtain ⟨h1, h2, h3⟩ := hI
    obtain ⟨zi, K⟩ := zx
    dsimp only at h1 h2 h3
    subst h1
    have hj8 : j < 8 := by omega
    obtain ⟨g1, g2, g3, g4⟩ := g0 j hj
    have q55 : K 55 j = mtN (M 50) j := by rw [h3 55 (by decide)]; exact g1
    have q56 : K 56 = K0 56 := h3 56 (by decide)
    have q57 : K 57 = K0 57 := h3 57 (by decide)
    have q58 : K 58 = K0 58 := h3 58 (by decide)
    have r : ∀ f, f < 6 → K 50 (14 + 6 * j + f) = (M 50) (14 + 6 * j + f) := by
      intro f hf
      rw [h2, rowJ_h hf, if_neg (by omega)]
    refine ⟨(nI (j + 1), up (up (up (up K 50 (14 + 6 * j + 1) (agH (M 50) j 1)) 50 (14 + 6 * j + 3) (agH (M 50) j 3)) 50 (14 + 6 * j + 4) (agH (M 50) j 4)) 50 (14 + 6 * j + 5) (agH (M 50) j 5)), ⟨rfl, ?_, fun a ha => ?_⟩, ?_⟩
    · dsimp only
      rw [up_s, up_s, up_s, up_s, h2]
      exact rowJ_s
    · dsimp only
      rw [up_o ha, up_o ha, up_o ha, up_o ha]
      exact h3 a ha
    · show pi_X4_age_6 rec (nI j) K = _
      have c1 : K 50 1 = nI (nH (M 50)) := by rw [h2, rowJ_l (by decide)]; exact hw.1
      have b30 : ∀ t0 : Int32, (t0 = 0 ↔ mtN (M 50) j = 0) → pi_X4_age_30 (nI j) t0 rec K = rec (nI (j + 1), up (up (up (up K 50 (14 + 6 * j + 1) (agH (M 50) j 1)) 50 (14 + 6 * j + 3) (agH (M 50) j 3)) 50 (14 + 6 * j + 4) (agH (M 50) j 4)) 50 (14 + 6 * j + 5) (agH (M 50) j 5)) := by
        intro t0 ht0
        have v1 : vaN (K 50) j = vaN (M 50) j := r 1 (by decide)
        have a1 : y12 (vaN (M 50) j + mvN (M 50) j) = agH (M 50) j 1 := rfl
        have a3 : (tuN (M 50) j + tnN (M 50) j) - (tuN (M 50) j + tnN (M 50) j) / 4 * 4 = agH (M 50) j 3 := rfl
        have u3 : tuN (up K 50 (14 + 6 * j + 1) (agH (M 50) j 1) 50) j = tuN (M 50) j := by
          show up K 50 (14 + 6 * j + 1) (agH (M 50) j 1) 50 (14 + 6 * j + 3) = _
          rw [up_s, upd_o (by omega)]; exact r 3 (by decide)
        have o57 : up K 50 (14 + 6 * j + 1) (agH (M 50) j 1) 57 = K0 57 := by rw [up_o (by decide)]; exact q57
        have u4 : hiN (up (up K 50 (14 + 6 * j + 1) (agH (M 50) j 1)) 50 (14 + 6 * j + 3) (agH (M 50) j 3) 50) j = hiN (M 50) j := by
          show up (up K 50 (14 + 6 * j + 1) (agH (M 50) j 1)) 50 (14 + 6 * j + 3) (agH (M 50) j 3) 50 (14 + 6 * j + 4) = _
          rw [up_s, up_s, upd_o (by omega), upd_o (by omega)]; exact r 4 (by decide)
        have o58 : up (up K 50 (14 + 6 * j + 1) (agH (M 50) j 1)) 50 (14 + 6 * j + 3) (agH (M 50) j 3) 58 = K0 58 := by rw [up_o (by decide), up_o (by decide)]; exact q58
        have u5 : boN (up (up (up K 50 (14 + 6 * j + 1) (agH (M 50) j 1)) 50 (14 + 6 * j + 3) (agH (M 50) j 3)) 50 (14 + 6 * j + 4) (agH (M 50) j 4) 50) j = boN (M 50) j := by
          show up (up (up K 50 (14 + 6 * j + 1) (agH (M 50) j 1)) 50 (14 + 6 * j + 3) (agH (M 50) j 3)) 50 (14 + 6 * j + 4) (agH (M 50) j 4) 50 (14 + 6 * j + 5) = _
          rw [up_s, up_s, up_s, upd_o (by omega), upd_o (by omega), upd_o (by omega)]; exact r 5 (by decide)
        have in1 : inb (nI (14 + 6 * j + 1)) 62 = true := inb_nI (by omega) (by decide)
        have in3 : inb (nI (14 + 6 * j + 3)) 62 = true := inb_nI (by omega) (by decide)
        have in4 : inb (nI (14 + 6 * j + 4)) 62 = true := inb_nI (by omega) (by decide)
        have in5 : inb (nI (14 + 6 * j + 5)) 62 = true := inb_nI (by omega) (by decide)
        have cl1 : (nI (14 + 6 * j + 1)).toNatClampNeg = 14 + 6 * j + 1 := nI_clamp (by omega)
        have cl3 : (nI (14 + 6 * j + 3)).toNatClampNeg = 14 + 6 * j + 3 := nI_clamp (by omega)
        have cl4 : (nI (14 + 6 * j + 4)).toNatClampNeg = 14 + 6 * j + 4 := nI_clamp (by omega)
        have cl5 : (nI (14 + 6 * j + 5)).toNatClampNeg = 14 + 6 * j + 5 := nI_clamp (by omega)
        have clj : (nI j).toNatClampNeg = j := nI_clamp (by omega)
        unfold pi_X4_age_30
        rw [md_atf K 1 (f := 1) rfl, bd_s, md_h1 hj8, bd_s, inb_nI hj8 (by decide), gd_t, clj, v1, q56, g2, md_by12, bd_s, a1, in1, gd_t, cl1, bM_e, md_atf _ 3 (f := 3) rfl, bd_s, md_h3 hj8, bd_s, u3, o57, g3, a3, gd_t, in3, gd_t, cl3, bM_e, md_atf _ 4 (f := 4) rfl, bd_s]
        by_cases c0 : mtN (M 50) j = 0
        · rw [if_pos (ht0.mpr c0), md_h4 hj8, bd_s, u4]
          have a4 : (if hiN (M 50) j + 1 < 99 then hiN (M 50) j + 1 else 99) = agH (M 50) j 4 := by simp [agH, c0]
          have a5 : boN (M 50) j = agH (M 50) j 5 := by simp [agH, c0]
          rw [a4]
          unfold pi_X4_age_128
          rw [in4, gd_t, cl4, bM_e, md_atf _ 5 (f := 5) rfl, bd_s, if_pos (ht0.mpr c0), md_h5 hj8, bd_s, u5, in5, gd_t, cl5, bM_e, bI_e, nI_1, a5]
        · rw [if_neg (fun z => c0 (ht0.mp z)), md_h4 hj8, bd_s, u4, gd_t, o58, g4]
          have a4 : (if 0 < hiN (M 50) j - skN (M 50) j then hiN (M 50) j - skN (M 50) j else 0) = agH (M 50) j 4 := by simp [agH, c0]
          have a5 : (if boN (M 50) j + 1 < 9999 then boN (M 50) j + 1 else 9999) = agH (M 50) j 5 := by simp [agH, c0]
          rw [a4]
          unfold pi_X4_age_128
          rw [in4, gd_t, cl4, bM_e, md_atf _ 5 (f := 5) rfl, bd_s, if_neg (fun z => c0 (ht0.mp z)), md_h5 hj8, bd_s, u5, in5, gd_t, cl5, bM_e, bI_e, nI_1, a5]
      unfold pi_X4_age_6
      rw [in1_62, gd_t, tN1, c1, if_neg (nI_ge hj (by omega)), inb_nI hj8 (by decide), gd_t, nI_clamp (by omega), q55]
      by_cases c0 : mtN (M 50) j = 0
      · rw [if_pos c0]; exact b30 0 ⟨fun _ => c0, fun _ => rfl⟩
      · rw [if_neg c0]; exact b30 1 ⟨fun z => absurd z (by decide), fun z => absurd z c0⟩
  · intro zx hI rec
    obtain ⟨h1, h2, h3⟩ := hI
    obtain ⟨zi, K⟩ := zx
    dsimp only at h1 h2 h3
    subst h1
    have c1 : K 50 1 = nI (nH (M 50)) := by rw [h2, rowJ_l (by decide)]; exact hw.1
    have c0 : K 50 0 = (M 50) 0 := by rw [h2, rowJ_l (by decide)]
    refine ⟨up K 50 0 ((M 50) 0 + 1), ?_, ?_, fun a ha hb => ?_⟩
    · show pi_X4_age_6 rec (nI (nH (M 50))) K = _
      unfold pi_X4_age_6
      rw [in1_62, gd_t, tN1, c1, if_pos (Int32.le_refl _), in0_62, gd_t, gd_t, tN0, c0, bM_e]
    · rw [up_s, h2]
      funext i
      by_cases ci : i = 0
      · subst ci; rw [upd_s, ageN_0]
      · rw [upd_o ci]
        unfold rowJ ageN
        rw [if_neg ci]
    · rw [up_o hb, h3 a hb]
      exact f0 a ha
  · show K0 50 = rowJ (M 50) 0
    rw [k50]
    funext i
    unfold rowJ
    rw [if_neg (by omega)]
