/-! the class: an age -/
theorem sh_age {b : Nat} {M K : Mem} {N : Nat → Int32} (hs : ShR b M N)
    (e0 : K b 0 = M b 0 ∧ K b 1 = N 0 + 1 ∧ K b 2 = M b 2 ∧ K b 3 = M b 3) (e1 : K (b + 1) = M (b + 1)) (e2 : K (b + 2) = M (b + 2)) (e4 : K (b + 4) = M (b + 4))
    (ek : ∀ h, h < 8 → K (b + 3) h = (if h < nH N then agH N h 1 else vaN N h) ∧ K (b + 5) h = (if h < nH N then agH N h 3 else tuN N h) ∧ K (b + 6) h = (if h < nH N then agH N h 4 else hiN N h) ∧ K (b + 7) h = (if h < nH N then agH N h 5 else boN N h)) : ShR b K (ageN N) := by
  obtain ⟨h1, h2, h3, h4, h5, h6⟩ := hs
  refine ⟨?_, ?_, ?_, ?_, ?_, ?_⟩
  · rw [e0.1, h1, ageN_l (by decide) (by decide)]
  · rw [e0.2.1, ageN_0]
  · rw [e0.2.2.1, h3, ageN_l (by decide) (by decide)]
  · rw [e0.2.2.2, h4, ageN_l (by decide) (by decide)]
  · intro i hi
    rw [e1, h5 i hi, ageN_l (by omega) (by omega)]
  · intro h hh
    obtain ⟨q1, q2, q3, q4, q5, q6⟩ := h6 h hh
    obtain ⟨k1, k2, k3, k4⟩ := ek h hh
    rw [e2, e4, k1, k2, k3, k4, q1, q3]
    unfold kdN vaN spN tuN hiN boN
    by_cases c : h < nH N
    · rw [if_pos c, if_pos c, if_pos c, if_pos c, ageN_h c (by decide), ageN_h c (by decide), ageN_h c (by decide), ageN_h c (by decide), ageN_h c (by decide), ageN_h c (by decide)]
      exact ⟨rfl, rfl, rfl, rfl, rfl, rfl⟩
    · rw [if_neg c, if_neg c, if_neg c, if_neg c, ageN_o (by omega), ageN_o (by omega), ageN_o (by omega), ageN_o (by omega), ageN_o (by omega), ageN_o (by omega)]
      exact ⟨rfl, rfl, rfl, rfl, rfl, rfl⟩
theorem hd_95 {b j : Nat} {K : Mem} {vv tt vm tm : Int32} {rec : Int32 × Mem → Option Mem} (hj : j < 8) (hv : K (b + 3) j = vv) (ht : K (b + 5) j = tt) : pi_X2_passAge_95 b (nI j) vm tm rec K = rec (nI (j + 1), up (up K (b + 3) j (y12 (vv + vm))) (b + 5) j ((tt + tm) - (tt + tm) / 4 * 4)) := by
  unfold pi_X2_passAge_95
  rw [inb_nI hj (by decide), gd_t, nI_clamp (by omega), hv, hd_fm, bd_s, gd_t, bM_e, gd_t, gd_t, up_o (show b + 5 ≠ b + 3 by omega), ht, bM_e, bI_e, nI_1]
theorem age_ok {x : Int32} (h0 : 0 ≤ x.toInt) (h : x.toInt < 99999) : (if x + 1 < 99999 then x + 1 else 99999) = x + 1 := by
  have a1 := lit_t (v := 1) (z := 1)
  have a2 := lit_t (v := 99999) (z := 99999)
  have e1 : (x + 1).toInt = x.toInt + 1 := by rw [z_add (by omega) (by omega)]; omega
  by_cases c : x + 1 < 99999
  · rw [if_pos c]
  · rw [if_neg c]
    rw [i_lt] at c
    apply Int32.toInt_inj.mp
    omega
theorem hd_age {b : Nat} {M : Mem} {N : Nat → Int32} (hs : ShR b M N) (ht : TbR b M N) (hw : Wf N) (ha0 : 0 ≤ (N 0).toInt) (ha : (N 0).toInt < 99999) : ∃ K : Mem, mi_X2_passAge b M = some K ∧ ShR b K (ageN N) ∧ TbR b K (ageN N) ∧ Fr b M K := by
  have h8 := hw.2.1
  unfold mi_X2_passAge pi_X2_passAge_e
  refine lp_inv (I := fun j zx => zx.1 = nI j ∧ (∀ a, a ≠ b + 3 → a ≠ b + 5 → a ≠ b + 6 → a ≠ b + 7 → zx.2 a = M a) ∧ ∀ h, h < 8 → zx.2 (b + 3) h = (if h < j then agH N h 1 else vaN N h) ∧ zx.2 (b + 5) h = (if h < j then agH N h 3 else tuN N h) ∧ zx.2 (b + 6) h = (if h < j then agH N h 4 else hiN N h) ∧ zx.2 (b + 7) h = (if h < j then agH N h 5 else boN N h))
    (Post := fun zo => ∃ K : Mem, zo = some K ∧ ShR b K (ageN N) ∧ TbR b K (ageN N) ∧ Fr b M K) (nH N) ?_ ?_ FU (FU_le (by omega)) (0, M) ⟨rfl, fun _ _ _ _ _ => rfl, fun h hh => ?_⟩
  · intro j hj zx hI rec
    obtain ⟨h1, h2, h3⟩ := hI
    obtain ⟨zi, K⟩ := zx
    dsimp only at h1 h2 h3
    subst h1
    have hj8 : j < 8 := by omega
    obtain ⟨k1, k2, k3, k4⟩ := h3 j hj8
    rw [if_neg (Nat.lt_irrefl j)] at k1 k2 k3 k4
    have q3 : K b 3 = nI (nH N) := by rw [h2 b (by omega) (by omega) (by omega) (by omega), hs.2.2.2.1, hw.1]
    have q9 : K (b + 9) j = mtN N j := by rw [h2 (b + 9) (by omega) (by omega) (by omega) (by omega)]; exact (ht.1 j hj).2
    have q0 : K b = M b := h2 b (by omega) (by omega) (by omega) (by omega)
    have q2 : K (b + 2) j = kdN N j := by rw [h2 (b + 2) (by omega) (by omega) (by omega) (by omega)]; exact (hs.2.2.2.2.2 j hj8).1
    have q4 : K (b + 4) j = spN N j := by rw [h2 (b + 4) (by omega) (by omega) (by omega) (by omega)]; exact (hs.2.2.2.2.2 j hj8).2.2.1
    have q10 : K (b + 10) = M (b + 10) := h2 (b + 10) (by omega) (by omega) (by omega) (by omega)
    have w := hw.2.2.2.1 j hj8
    have mtall : mi_X2_tallOf b (nI j) K = some (taN N j, K) := by
      unfold mi_X2_tallOf pi_X2_tallOf_e taN
      rw [inb_nI hj8 (by decide), gd_t, nI_clamp (by omega), k3]
      split <;> rfl
    have mpart : mi_X2_partnerMoves b (nI j) K = some (paN N j, K) := by
      unfold mi_X2_partnerMoves pi_X2_partnerMoves_e paN
      rw [inb_nI hj8 (by decide), gd_t, gd_t, nI_clamp (by omega), q9, q4]
      split <;> rfl
    have mtwin : mi_X2_twinMoves b (nI j) K = some (twN N j, K) := by
      unfold mi_X2_twinMoves pi_X2_twinMoves_e twN
      rw [mpart, bd_s, inb_nI hj8 (by decide), gd_t, nI_clamp (by omega), k1, w.2.1, gd_t, q10, (ht.2 _ (inb_lt w.2.1).2).1, nI_back w.2.1]
      unfold stN
      rw [hd_bc_set (by omega), bd_s]
    have mmov : mi_X2_movesOf b (nI j) K = some (mvN N j, K) := by
      unfold mi_X2_movesOf pi_X2_movesOf_e mvN
      rw [inb_nI hj8 (by decide), gd_t, nI_clamp (by omega), q2, q4, mpart, mtwin, mtall]
      rcases kd7 w.1 with e | e | e | e | e | e | e <;> rw [e] <;> rfl
    have mturn : mi_X2_turnsOf b (nI j) K = some (tnN N j, K) := by
      unfold mi_X2_turnsOf pi_X2_turnsOf_e tnN
      rw [inb_nI hj8 (by decide), gd_t, nI_clamp (by omega), q2, mtall]
      rcases kd7 w.1 with e | e | e | e | e | e | e <;> rw [e] <;> rfl
    have msink : mi_X2_sinksOf b (nI j) K = some (skN N j, K) := by
      unfold mi_X2_sinksOf pi_X2_sinksOf_e skN
      rw [inb_nI hj8 (by decide), gd_t, nI_clamp (by omega), q2, q0, hs.1]
      rcases kd7 w.1 with e | e | e | e | e | e | e <;> rw [e] <;> rfl
    have cells : ∀ Q : Mem, (∀ a, a ≠ b + 6 → a ≠ b + 7 → Q a = K a) → (∀ h, h < 8 → Q (b + 6) h = (if h < j + 1 then agH N h 4 else hiN N h) ∧ Q (b + 7) h = (if h < j + 1 then agH N h 5 else boN N h)) → ∃ zy : Int32 × Mem, (zy.1 = nI (j + 1) ∧ (∀ a, a ≠ b + 3 → a ≠ b + 5 → a ≠ b + 6 → a ≠ b + 7 → zy.2 a = M a) ∧ ∀ h, h < 8 → zy.2 (b + 3) h = (if h < j + 1 then agH N h 1 else vaN N h) ∧ zy.2 (b + 5) h = (if h < j + 1 then agH N h 3 else tuN N h) ∧ zy.2 (b + 6) h = (if h < j + 1 then agH N h 4 else hiN N h) ∧ zy.2 (b + 7) h = (if h < j + 1 then agH N h 5 else boN N h)) ∧ pi_X2_passAge_95 b (nI j) (mvN N j) (tnN N j) rec Q = rec zy := by
      intro Q g1 g2
      have v3 : Q (b + 3) = K (b + 3) := g1 (b + 3) (by omega) (by omega)
      have v5 : Q (b + 5) = K (b + 5) := g1 (b + 5) (by omega) (by omega)
      refine ⟨(nI (j + 1), up (up Q (b + 3) j (y12 (vaN N j + mvN N j))) (b + 5) j ((tuN N j + tnN N j) - (tuN N j + tnN N j) / 4 * 4)), ⟨rfl, fun a a1 a2 a3 a4 => ?_, fun h hh => ⟨?_, ?_, ?_, ?_⟩⟩, hd_95 hj8 (by rw [v3]; exact k1) (by rw [v5]; exact k2)⟩
      · show up (up Q _ _ _) _ _ _ a = M a
        rw [up_o a2, up_o a1, g1 a a3 a4]
        exact h2 a a1 a2 a3 a4
      · show up (up Q _ _ _) _ _ _ (b + 3) h = _
        rw [up_o (by omega), up_s, v3]
        by_cases c : h = j
        · subst c; rw [upd_s, if_pos (by omega)]; rfl
        · rw [upd_o c, (h3 h hh).1]
          by_cases c2 : h < j
          · rw [if_pos c2, if_pos (by omega)]
          · rw [if_neg c2, if_neg (by omega)]
      · show up (up Q _ _ _) _ _ _ (b + 5) h = _
        rw [up_s, up_o (by omega), v5]
        by_cases c : h = j
        · subst c; rw [upd_s, if_pos (by omega)]; rfl
        · rw [upd_o c, (h3 h hh).2.1]
          by_cases c2 : h < j
          · rw [if_pos c2, if_pos (by omega)]
          · rw [if_neg c2, if_neg (by omega)]
      · show up (up Q _ _ _) _ _ _ (b + 6) h = _
        rw [up_o (by omega), up_o (by omega)]; exact (g2 h hh).1
      · show up (up Q _ _ _) _ _ _ (b + 7) h = _
        rw [up_o (by omega), up_o (by omega)]; exact (g2 h hh).2
    have goal : ∃ zy : Int32 × Mem, (zy.1 = nI (j + 1) ∧ (∀ a, a ≠ b + 3 → a ≠ b + 5 → a ≠ b + 6 → a ≠ b + 7 → zy.2 a = M a) ∧ ∀ h, h < 8 → zy.2 (b + 3) h = (if h < j + 1 then agH N h 1 else vaN N h) ∧ zy.2 (b + 5) h = (if h < j + 1 then agH N h 3 else tuN N h) ∧ zy.2 (b + 6) h = (if h < j + 1 then agH N h 4 else hiN N h) ∧ zy.2 (b + 7) h = (if h < j + 1 then agH N h 5 else boN N h)) ∧ pi_X2_passAge_2 b rec (nI j) K = rec zy := by
      unfold pi_X2_passAge_2
      rw [q3, if_neg (nI_ge hj (by omega)), mmov, bd_s, mturn, bd_s, inb_nI hj8 (by decide), gd_t, nI_clamp (by omega), q9, k3]
      by_cases c0 : mtN N j = 0
      · rw [if_pos c0, gd_t, gd_t, bM_e]
        refine cells _ (fun a a1 a2 => up_o a1) (fun h hh => ⟨?_, ?_⟩)
        · rw [up_s]
          by_cases c : h = j
          · subst c; rw [upd_s, if_pos (show h < h + 1 by omega)]; simp [agH, c0]
          · rw [upd_o c, (h3 h hh).2.2.1]
            by_cases c2 : h < j
            · rw [if_pos c2, if_pos (by omega)]
            · rw [if_neg c2, if_neg (by omega)]
        · rw [up_o (by omega), (h3 h hh).2.2.2]
          by_cases c : h = j
          · subst c; rw [if_neg (by omega), if_pos (by omega)]; simp [agH, c0]
          · by_cases c2 : h < j
            · rw [if_pos c2, if_pos (by omega)]
            · rw [if_neg c2, if_neg (by omega)]
      · rw [if_neg c0, gd_t, msink, bd_s, gd_t, bM_e, gd_t, gd_t, up_o (show b + 7 ≠ b + 6 by omega), k4, bM_e]
        refine cells _ (fun a a1 a2 => by rw [up_o a2, up_o a1]) (fun h hh => ⟨?_, ?_⟩)
        · rw [up_o (by omega), up_s]
          by_cases c : h = j
          · subst c; rw [upd_s, if_pos (show h < h + 1 by omega)]; simp [agH, c0]
          · rw [upd_o c, (h3 h hh).2.2.1]
            by_cases c2 : h < j
            · rw [if_pos c2, if_pos (by omega)]
            · rw [if_neg c2, if_neg (by omega)]
        · rw [up_s, up_o (show b + 7 ≠ b + 6 by omega)]
          by_cases c : h = j
          · subst c; rw [upd_s, if_pos (show h < h + 1 by omega)]; simp [agH, c0]
          · rw [upd_o c, (h3 h hh).2.2.2]
            by_cases c2 : h < j
            · rw [if_pos c2, if_pos (by omega)]
            · rw [if_neg c2, if_neg (by omega)]
    exact goal
  · intro zx hI rec
    obtain ⟨h1, h2, h3⟩ := hI
    obtain ⟨zi, K⟩ := zx
    dsimp only at h1 h2 h3
    subst h1
    have q0 : K b = M b := h2 b (by omega) (by omega) (by omega) (by omega)
    have q3 : K b 3 = nI (nH N) := by rw [q0, hs.2.2.2.1, hw.1]
    have q1 : K b 1 = N 0 := by rw [q0]; exact hs.2.1
    show ∃ Q : Mem, pi_X2_passAge_2 b rec (nI (nH N)) K = some Q ∧ _
    unfold pi_X2_passAge_2
    rw [q3, if_pos (Int32.le_refl _), bM_e, q1, age_ok ha0 ha]
    have s2 : ShR b (up K b 1 (N 0 + 1)) (ageN N) := by
      refine sh_age hs ?_ ?_ ?_ ?_ ?_
      · rw [up_s]
        refine ⟨?_, upd_s, ?_, ?_⟩
        · rw [upd_o (by decide), q0]
        · rw [upd_o (by decide), q0]
        · rw [upd_o (by decide), q0]
      · rw [up_o (by omega)]; exact h2 (b + 1) (by omega) (by omega) (by omega) (by omega)
      · rw [up_o (by omega)]; exact h2 (b + 2) (by omega) (by omega) (by omega) (by omega)
      · rw [up_o (by omega)]; exact h2 (b + 4) (by omega) (by omega) (by omega) (by omega)
      · intro h hh
        rw [up_o (by omega), up_o (by omega), up_o (by omega), up_o (by omega)]
        exact h3 h hh
    obtain ⟨Q, e1, e2, e3, e4⟩ := hd_look s2 (age_Wf hw)
    rw [e1, bv_s]
    refine ⟨Q, rfl, e2, e3, fun a ha => ?_⟩
    rw [e4 a (by omega), up_o (by omega)]
    exact h2 a (by omega) (by omega) (by omega) (by omega)
  · obtain ⟨q1, q2, q3, q4, q5, q6⟩ := hs.2.2.2.2.2 h hh
    rw [if_neg (by omega), if_neg (by omega), if_neg (by omega), if_neg (by omega)]
    exact ⟨q2, q4, q5, q6⟩
