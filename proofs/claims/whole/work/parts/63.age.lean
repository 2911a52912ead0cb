/-! an age, as a row becomes another -/
def agH (N : Nat → Int32) (h f : Nat) : Int32 := if f = 1 then y12 (vaN N h + mvN N h) else if f = 3 then (tuN N h + tnN N h) - (tuN N h + tnN N h) / 4 * 4 else if f = 4 then (if mtN N h = 0 then (if hiN N h + 1 < 99 then hiN N h + 1 else 99) else (if 0 < hiN N h - skN N h then hiN N h - skN N h else 0)) else if f = 5 then (if mtN N h = 0 then boN N h else (if boN N h + 1 < 9999 then boN N h + 1 else 9999)) else N (14 + 6 * h + f)
def ageN (N : Nat → Int32) : Nat → Int32 := fun j => if j = 0 then N 0 + 1 else if 14 ≤ j ∧ j < 14 + 6 * nH N then agH N ((j - 14) / 6) ((j - 14) % 6) else N j
theorem ageN_h {N : Nat → Int32} {h f : Nat} (hh : h < nH N) (hf : f < 6) : ageN N (14 + 6 * h + f) = agH N h f := by
  unfold ageN
  rw [if_neg (by omega), if_pos (by omega), show (14 + 6 * h + f - 14) / 6 = h by omega, show (14 + 6 * h + f - 14) % 6 = f by omega]
theorem ageN_o {N : Nat → Int32} {h f : Nat} (hh : nH N ≤ h) : ageN N (14 + 6 * h + f) = N (14 + 6 * h + f) := by
  unfold ageN
  rw [if_neg (by omega), if_neg (by omega)]
theorem ageN_l {N : Nat → Int32} {j : Nat} (h0 : j ≠ 0) (h1 : j < 14) : ageN N j = N j := by
  unfold ageN
  rw [if_neg h0, if_neg (by omega)]
theorem ageN_0 {N : Nat → Int32} : ageN N 0 = N 0 + 1 := rfl
theorem nH_age {N : Nat → Int32} : nH (ageN N) = nH N := by
  unfold nH
  rw [ageN_l (by decide) (by decide)]
theorem pc_in {x : Int32} : 0 ≤ (pc x).toInt ∧ (pc x).toInt ≤ 12 := by
  have h : pcn x.toNatClampNeg ≤ 12 := by
    unfold pcn
    exact Nat.le_trans (List.length_filter_le _ _) (by simp)
  unfold pc
  rw [nI_toInt (by omega)]
  omega
theorem lit_t {v : Int32} {z : Int} (h : v.toInt = z := by decide) : v.toInt = z := h
theorem sp_b {N : Nat → Int32} {h : Nat} (hw : Wh N h) : -5 ≤ (paN N h).toInt ∧ (paN N h).toInt ≤ 5 := by
  unfold paN
  split
  · exact hw.2.2.1
  · have := lit_t (v := 0) (z := 0); omega
theorem tn_b {N : Nat → Int32} {h : Nat} : 0 ≤ (tnN N h).toInt ∧ (tnN N h).toInt ≤ 6 := by
  unfold tnN taN
  split
  · decide
  · split
    · decide
    · split
      · split <;> decide
      · split
        · split <;> decide
        · split
          · decide
          · split <;> decide
theorem sk_b {N : Nat → Int32} {h : Nat} (hr : inb (N 3) 10 = true) : 0 ≤ (skN N h).toInt ∧ (skN N h).toInt ≤ 10 := by
  have h1 := inb_iff.mp hr
  have e1 : (N 3 + 1).toInt = (N 3).toInt + 1 := by
    have := lit_t (v := 1) (z := 1)
    rw [z_add (by omega) (by omega)]; omega
  have e2 : ((N 3 + 1) / 2).toInt = (N 3 + 1).toInt.tdiv 2 := z_div (y := 2) (fun z => by have := z.2; exact absurd this (by decide))
  have e3 : (N 3 + 1).toInt.tdiv 2 = (N 3 + 1).toInt / 2 := Int.tdiv_eq_ediv_of_nonneg (by omega)
  unfold skN
  split
  · omega
  · split
    · omega
    · split
      · omega
      · split
        · omega
        · split
          · decide
          · split
            · omega
            · decide
theorem rem4_in {x : Int32} (h0 : 0 ≤ x.toInt) : inb (x - x / 4 * 4) 4 = true := by
  have h1 : (x - x / 4 * 4).toInt = x.toInt.tmod 4 := rem_toInt x 4
  have h2 := tmod_bounds (a := x.toInt) (M := 4) (by decide)
  have h3 : 0 ≤ x.toInt.tmod 4 := Int.tmod_nonneg 4 h0
  rw [inb_iff]
  omega
theorem age_Wh {N : Nat → Int32} {h : Nat} (hw : Wf N) (hh : h < nH N) : Wh (ageN N) h := by
  have h8 := hw.2.1
  have w := hw.2.2.2.1 h (by omega)
  obtain ⟨w1, w2, w3, w4, w5, w6⟩ := w
  refine ⟨?_, ?_, ?_, ?_, ?_, ?_⟩
  · show inb (ageN N (14 + 6 * h + 0)) 7 = true
    rw [ageN_h hh (by decide)]; exact w1
  · show inb (ageN N (14 + 6 * h + 1)) 12 = true
    rw [ageN_h hh (by decide)]; exact y12_in _
  · show -5 ≤ (ageN N (14 + 6 * h + 2)).toInt ∧ _
    rw [show spN (ageN N) h = ageN N (14 + 6 * h + 2) from rfl, ageN_h hh (by decide)]; exact w3
  · show inb (ageN N (14 + 6 * h + 3)) 4 = true
    rw [ageN_h hh (by decide)]
    show inb ((tuN N h + tnN N h) - (tuN N h + tnN N h) / 4 * 4) 4 = true
    have a1 := inb_iff.mp w4
    have a2 := tn_b (N := N) (h := h)
    exact rem4_in (by rw [z_add (by omega) (by omega)]; omega)
  · show inb (ageN N (14 + 6 * h + 4)) 100 = true
    rw [ageN_h hh (by decide)]
    show inb (if mtN N h = 0 then (if hiN N h + 1 < 99 then hiN N h + 1 else 99) else (if 0 < hiN N h - skN N h then hiN N h - skN N h else 0)) 100 = true
    have a1 := inb_iff.mp w5
    have a2 := sk_b (N := N) (h := h) hw.2.2.1
    have a3 := lit_t (v := 1) (z := 1)
    have a4 := lit_t (v := 99) (z := 99)
    have a5 := lit_t (v := 0) (z := 0)
    have e1 : (hiN N h + 1).toInt = (hiN N h).toInt + 1 := by rw [z_add (by omega) (by omega)]; omega
    have e2 : (hiN N h - skN N h).toInt = (hiN N h).toInt - (skN N h).toInt := z_sub (by omega) (by omega)
    split
    · split
      · rename_i q; rw [i_lt] at q; rw [inb_iff]; omega
      · decide
    · split
      · rename_i q; rw [i_lt] at q; rw [inb_iff]; omega
      · decide
  · show inb (ageN N (14 + 6 * h + 5)) 10000 = true
    rw [ageN_h hh (by decide)]
    show inb (if mtN N h = 0 then boN N h else (if boN N h + 1 < 9999 then boN N h + 1 else 9999)) 10000 = true
    have a1 := inb_iff.mp w6
    have a3 := lit_t (v := 1) (z := 1)
    have a4 := lit_t (v := 9999) (z := 9999)
    have e1 : (boN N h + 1).toInt = (boN N h).toInt + 1 := by rw [z_add (by omega) (by omega)]; omega
    split
    · exact w6
    · split
      · rename_i q; rw [i_lt] at q; rw [inb_iff]; omega
      · decide
theorem age_Wf {N : Nat → Int32} (hw : Wf N) : Wf (ageN N) := by
  refine ⟨?_, ?_, ?_, ?_, ?_⟩
  · rw [nH_age, ageN_l (by decide) (by decide)]; exact hw.1
  · rw [nH_age]; exact hw.2.1
  · rw [ageN_l (by decide) (by decide)]; exact hw.2.2.1
  · intro h hh
    by_cases c : h < nH N
    · exact age_Wh hw c
    · have w := hw.2.2.2.1 h hh
      unfold Wh kdN vaN spN tuN hiN boN at w ⊢
      rw [ageN_o (by omega), ageN_o (by omega), ageN_o (by omega), ageN_o (by omega), ageN_o (by omega), ageN_o (by omega)]
      exact w
  · intro i hi
    rw [nH_age, ageN_l (by omega) (by omega)]
    exact hw.2.2.2.2 i hi
/-! the class: what a hill does -/
def Z0 : Mem := fun _ _ => 0
theorem bc_map (x : Int32) (M : Mem) : mi_J6_bitCount_0f7a4 x M = (mi_J6_bitCount_0f7a4 x Z0).map (fun q => (q.1, M)) := rfl
theorem bc_ok : ∀ k, k < 2048 → (mi_J6_bitCount_0f7a4 (nI k) Z0).map Prod.fst = some (nI (pcn k)) := by decide +kernel
theorem hd_bc {k : Nat} (hk : k < 2048) (M : Mem) : mi_J6_bitCount_0f7a4 (nI k) M = some (pc (nI k), M) := by
  rw [bc_map]
  have h := bc_ok k hk
  unfold pc
  rw [nI_clamp (by omega)]
  cases hq : mi_J6_bitCount_0f7a4 (nI k) Z0 with
  | none => rw [hq] at h; cases h
  | some q =>
    rw [hq] at h
    have h2 : q.1 = nI (pcn k) := Option.some.inj h
    show some (q.1, M) = _
    rw [h2]
theorem hd_bc_set {P : Nat → Bool} {n : Nat} (hn : n ≤ 11) (M : Mem) : mi_J6_bitCount_0f7a4 (bset P n) M = some (pc (bset P n), M) := by
  have h1 : bnum P n < 2048 := set_lt (m := 11) hn
  rw [bset_num (by omega)]
  exact hd_bc h1 M
theorem x12_sign (x : Int32) : 0 ≤ (x ^^^ 12) ↔ 0 ≤ x := by
  have hs : ∀ y : Int32, 0 ≤ y ↔ bt y 31 = false := by
    intro y
    rw [z_nonneg]
    have h1 : y.toInt = y.toBitVec.toInt := rfl
    have h2 : bt y 31 = y.toBitVec.msb := by
      unfold bt
      rw [BitVec.msb_eq_getLsbD_last]
    rw [h2, h1]
    constructor
    · intro h
      cases hm : y.toBitVec.msb with
      | false => rfl
      | true => exact absurd h (by have := BitVec.toInt_neg_of_msb_true hm; omega)
    · intro h
      exact BitVec.toInt_nonneg_of_msb_false h
  rw [hs, hs, b_xor]
  have h12 : bt 12 31 = false := by decide
  rw [h12]
  simp
theorem hd_fm (x : Int32) (M : Mem) : mi_J9_floorMod_7cf53 x 12 M = some (y12 x, M) := by
  unfold mi_J9_floorMod_7cf53 pi_J9_floorMod_7cf53_e
  rw [show (!((12 : Int32) == 0)) = true from by decide, gd_t, bI_e]
  have h1 : (x - x / 12 * 12).toInt = x.toInt.tmod 12 := rem_toInt x 12
  unfold y12
  by_cases hx : 0 ≤ x
  · have h3 : 0 ≤ x.toInt.tmod 12 := Int.tmod_nonneg 12 (z_nonneg.mp hx)
    rw [if_pos ((x12_sign x).mpr hx), if_pos (z_nonneg.mpr (by rw [h1]; exact h3))]
  · have hx2 : x.toInt < 0 := by
      have : ¬ 0 ≤ x.toInt := fun z => hx (z_nonneg.mpr z)
      omega
    have h4 : x.toInt.tmod 12 ≤ 0 := by
      have h5 := Int.tmod_nonneg 12 (show 0 ≤ -x.toInt by omega)
      rw [Int.neg_tmod] at h5
      omega
    rw [if_neg (fun z => hx ((x12_sign x).mp z))]
    by_cases h0 : x - x / 12 * 12 = 0
    · rw [if_pos h0, if_pos (by rw [h0]; decide)]
    · rw [if_neg h0, if_neg (fun z => h0 (Int32.toInt_inj.mp (by
        have h6 := z_nonneg.mp z
        have h7 := lit_t (v := 0) (z := 0)
        omega)))]
theorem ways_ok (x y : Int32) (M : Mem) : mi_X3_waysOn x y M = some (y12 (y - x), M) := by
  unfold mi_X3_waysOn pi_X3_waysOn_e
  rw [hd_fm, bd_s]
theorem hd_partner {b h : Nat} {M : Mem} {N : Nat → Int32} (hs : ShR b M N) (ht : TbR b M N) (hw : Wf N) (hh : h < nH N) : mi_X2_partnerMoves b (nI h) M = some (paN N h, M) := by
  have h8 := hw.2.1
  unfold mi_X2_partnerMoves pi_X2_partnerMoves_e paN
  rw [inb_nI (show h < 8 by omega) (by decide), gd_t, gd_t, nI_clamp (by omega), (ht.1 h hh).2, (hs.2.2.2.2.2 h (by omega)).2.2.1]
  split <;> rfl
theorem hd_tall {b h : Nat} {M : Mem} {N : Nat → Int32} (hs : ShR b M N) (hh : h < 8) : mi_X2_tallOf b (nI h) M = some (taN N h, M) := by
  unfold mi_X2_tallOf pi_X2_tallOf_e taN
  rw [inb_nI hh (by decide), gd_t, nI_clamp (by omega), (hs.2.2.2.2.2 h hh).2.2.2.2.1]
  split <;> rfl
theorem hd_twin {b h : Nat} {M : Mem} {N : Nat → Int32} (hs : ShR b M N) (ht : TbR b M N) (hw : Wf N) (hh : h < nH N) : mi_X2_twinMoves b (nI h) M = some (twN N h, M) := by
  have h8 := hw.2.1
  have w := hw.2.2.2.1 h (by omega)
  unfold mi_X2_twinMoves pi_X2_twinMoves_e twN
  rw [hd_partner hs ht hw hh, bd_s, inb_nI (show h < 8 by omega) (by decide), gd_t, nI_clamp (by omega), (hs.2.2.2.2.2 h (by omega)).2.1, w.2.1, gd_t, (ht.2 _ (inb_lt w.2.1).2).1, nI_back w.2.1]
  unfold stN
  rw [hd_bc_set (by omega), bd_s]
theorem kd7 {x : Int32} (h : inb x 7 = true) : x = 0 ∨ x = 1 ∨ x = 2 ∨ x = 3 ∨ x = 4 ∨ x = 5 ∨ x = 6 := by
  obtain ⟨j, hj, rfl⟩ := inb_of h (by decide)
  match j, hj with
  | 0, _ => exact Or.inl rfl
  | 1, _ => exact Or.inr (Or.inl rfl)
  | 2, _ => exact Or.inr (Or.inr (Or.inl rfl))
  | 3, _ => exact Or.inr (Or.inr (Or.inr (Or.inl rfl)))
  | 4, _ => exact Or.inr (Or.inr (Or.inr (Or.inr (Or.inl rfl))))
  | 5, _ => exact Or.inr (Or.inr (Or.inr (Or.inr (Or.inr (Or.inl rfl)))))
  | 6, _ => exact Or.inr (Or.inr (Or.inr (Or.inr (Or.inr (Or.inr rfl)))))
theorem hd_moves {b h : Nat} {M : Mem} {N : Nat → Int32} (hs : ShR b M N) (ht : TbR b M N) (hw : Wf N) (hh : h < nH N) : mi_X2_movesOf b (nI h) M = some (mvN N h, M) := by
  have h8 := hw.2.1
  have w := hw.2.2.2.1 h (by omega)
  unfold mi_X2_movesOf pi_X2_movesOf_e mvN
  rw [inb_nI (show h < 8 by omega) (by decide), gd_t, nI_clamp (by omega), (hs.2.2.2.2.2 h (by omega)).1, (hs.2.2.2.2.2 h (by omega)).2.2.1, hd_partner hs ht hw hh, hd_twin hs ht hw hh, hd_tall hs (by omega)]
  rcases kd7 w.1 with e | e | e | e | e | e | e <;> rw [e] <;> rfl
theorem hd_turns {b h : Nat} {M : Mem} {N : Nat → Int32} (hs : ShR b M N) (hw : Wf N) (hh : h < nH N) : mi_X2_turnsOf b (nI h) M = some (tnN N h, M) := by
  have h8 := hw.2.1
  have w := hw.2.2.2.1 h (by omega)
  unfold mi_X2_turnsOf pi_X2_turnsOf_e tnN
  rw [inb_nI (show h < 8 by omega) (by decide), gd_t, nI_clamp (by omega), (hs.2.2.2.2.2 h (by omega)).1, hd_tall hs (by omega)]
  rcases kd7 w.1 with e | e | e | e | e | e | e <;> rw [e] <;> rfl
theorem hd_sinks {b h : Nat} {M : Mem} {N : Nat → Int32} (hs : ShR b M N) (hw : Wf N) (hh : h < nH N) : mi_X2_sinksOf b (nI h) M = some (skN N h, M) := by
  have h8 := hw.2.1
  have w := hw.2.2.2.1 h (by omega)
  unfold mi_X2_sinksOf pi_X2_sinksOf_e skN
  rw [inb_nI (show h < 8 by omega) (by decide), gd_t, nI_clamp (by omega), (hs.2.2.2.2.2 h (by omega)).1, hs.1]
  rcases kd7 w.1 with e | e | e | e | e | e | e <;> rw [e] <;> rfl
