/-! text: an item of the class -/
theorem na0 {T : Nat → Int32} {t s : Nat} {m : Int32} : naR T t s m 0 = if nuB T t s m = true then (nxT T t s, some (tkN T t s)) else (s, none) := by
  unfold naR
  rw [if_pos rfl]
theorem nu_2 {T : Nat → Int32} {t s : Nat} {m : Int32} (h : nuB T t s m = true) : tkK T t s = 2 ∧ tkN T t s ≤ m := by
  unfold nuB at h
  rw [Bool.and_eq_true, decide_eq_true_iff, decide_eq_true_iff] at h
  exact h
theorem x_item {T : Nat → Int32} {t s : Nat} {P : Nat → Int32} {K : Mem} (ht : t ≤ 120) (hI : IX T t s P K) (hw : Wf P) : ∃ L : Mem, FrT K L ∧ ((∃ p x, itR T t s (nH P) = (p, some x) ∧ mi_X0_readItem 13 K = some (1, L) ∧ IX T t p (apI x P) L ∧ Wf (apI x P)) ∨ (∃ p, itR T t s (nH P) = (p, none) ∧ mi_X0_readItem 13 K = some (0, L) ∧ L 37 2 = nI p)) := by
  have h8 := hw.2.1
  unfold mi_X0_readItem pi_X0_readItem_e itR
  rw [x_word hI.1 ht (by decide), bd_s, if10]
  cases c : wdB T t s 7 with
  | true =>
    rw [if_t, if_t]
    obtain ⟨A, a1, a2, a3⟩ := hI.nx ht
    rw [a1, bv_s, x_num 9 a2.1, bd_s, if10, na0]
    cases c2 : nuB T t (nxT T t s) 9 with
    | false =>
      rw [if_f, if_f]
      exact ⟨A, a3, Or.inr ⟨nxT T t s, rfl, rfl, a2.1.2.2.1⟩⟩
    | true =>
      obtain ⟨k2, le9⟩ := nu_2 c2
      rw [if_t, if_t, bM_e, a2.1.2.2.2.2.2.1 k2]
      have v10 : inb (tkN T t (nxT T t s)) 10 = true := by
        have := tkN_b k2
        have h9 := i_le.mp le9
        have e9 : (9 : Int32).toInt = 9 := by decide
        exact inb_iff.mpr (by omega)
      obtain ⟨L, l1, l2, l3⟩ := IX.nx (T := T) (t := t) (s := nxT T t s) (R := upd P 3 (tkN T t (nxT T t s))) (K := up A 13 0 (tkN T t (nxT T t s))) ⟨a2.1.cg (up_o (by decide)) (up_o (by decide)), sh_rain a2.2.1, tb_rain a2.2.2 h8⟩ ht
      rw [l1, bv_s]
      refine ⟨L, a3.tr (FrT.tr (fun a n1 n2 => up_o (by omega)) l3), Or.inl ⟨nxT T t (nxT T t s), (10, tkN T t (nxT T t s), 0, 0, 0), rfl, rfl, ?_, ?_⟩⟩
      · unfold apI
        rw [if_pos rfl]; exact l2
      · unfold apI
        rw [if_pos rfl]; exact wf_rain hw v10
  | false =>
    rw [if_f, if_f, x_kindT hI.1 ht, bd_s]
    cases c2 : kdR T t s with
    | none =>
      rw [if_pos (show fiI none < 0 by decide)]
      exact ⟨K, FrT.rf, Or.inr ⟨s, rfl, rfl, hI.1.2.2.1⟩⟩
    | some k =>
      have k7 := (fi_some 7 (show fiN (wdB T t s) 7 = some k from c2)).1
      have ek : fiI (some k) = nI k := rfl
      have cr : mi_X2_isCrowded 13 K = some (if 8 ≤ nH P then 1 else 0, K) := by
        unfold mi_X2_isCrowded pi_X2_isCrowded_e
        rw [hI.2.1.2.2.2.1, hw.1, isB0, isB1, gd_t, gd_t, show (8 : Int32) = nI 8 from rfl]
        by_cases q : 8 ≤ nH P
        · rw [if_pos q, if_neg (by rw [i_lt, nI_toInt (by omega), nI_toInt (by omega)]; omega)]
        · rw [if_neg q, if_pos (by rw [i_lt, nI_toInt (by omega), nI_toInt (by omega)]; omega)]
      rw [ek, if_neg (nI_nn (by omega)), cr, bd_s]
      by_cases c3 : 8 ≤ nH P
      · rw [if_pos c3, if_neg (show ¬ (1 : Int32) = 0 by decide)]
        refine ⟨K, FrT.rf, Or.inr ⟨s, ?_, rfl, hI.1.2.2.1⟩⟩
        show (if 8 ≤ nH P then _ else _) = _
        rw [if_pos c3]
      · obtain ⟨A, a1, a2, a3, a4⟩ := hd_raise (b := 13) (k := nI k) (v := 0) hI.2.1 hw (by omega) (inb_nI k7 (by decide)) (by decide)
        have wf0 : Wf (addN P (nI k) 0 1 0 50) := wf_add hw (by omega) (inb_nI k7 (by decide)) (by decide) (by decide) (by decide) (by decide)
        obtain ⟨B, b1, b2, b3⟩ := IX.nx (T := T) (t := t) (s := s) (K := A) ⟨hI.1.cg (a4 37 (by omega)) (a4 38 (by omega)), a2, a3⟩ ht
        have fB : FrT K B := FrT.tr (fun a n1 n2 => a4 a (by omega)) b3
        rw [if_neg c3, if_pos (show (0 : Int32) = 0 from rfl), a1, bd_s, b1, bv_s]
        obtain ⟨d1, d2, d3, d4⟩ := add_f (N := P) (k := nI k) (v := 0) (s := 1) (t := 0) (g := 50) h8
        have hq : ∀ {α : Type} {u v : α}, (if 8 ≤ nH P then u else v) = v := fun {α u v} => if_neg c3
        dsimp only
        rw [if_neg c3]
        obtain ⟨L1, f1, z1⟩ := x_trait (h := nH P) (f := 1) (w := 8) ht b2 wf0 (by omega) (by omega) (by decide)
        rw [d1] at z1
        rcases z1 with ⟨p1, a, t1, r1, i1, w1⟩ | ⟨p, t1, r1, q1⟩
        case inr =>
          rw [show trG T t 1 (nxT T t s) 8 11 0 = (p, none) from t1, show mi_X0_readTrait 13 (nI (nH P)) 1 8 B = some (0, L1) from r1]
          exact ⟨L1, fB.tr f1, Or.inr ⟨p, rfl, rfl, q1⟩⟩
        rw [show trG T t 1 (nxT T t s) 8 11 0 = (p1, some a) from t1, show mi_X0_readTrait 13 (nI (nH P)) 1 8 B = some (1, L1) from r1, bd_s, if_neg (show ¬ (1 : Int32) = 0 by decide)]
        dsimp only
        obtain ⟨L2, f2, z2⟩ := x_trait (h := nH P) (f := 2) (w := 9) ht i1 w1 (by omega) (by omega) (by decide)
        rw [upd_o (show 14 + 6 * nH P + 2 ≠ 14 + 6 * nH P + 1 by omega), d2] at z2
        rcases z2 with ⟨p2, b, t2, r2, i2, w2⟩ | ⟨p, t2, r2, q2⟩
        case inr =>
          rw [show trG T t 2 p1 9 5 1 = (p, none) from t2, show mi_X0_readTrait 13 (nI (nH P)) 2 9 L1 = some (0, L2) from r2]
          exact ⟨L2, (fB.tr f1).tr f2, Or.inr ⟨p, rfl, rfl, q2⟩⟩
        rw [show trG T t 2 p1 9 5 1 = (p2, some b) from t2, show mi_X0_readTrait 13 (nI (nH P)) 2 9 L1 = some (1, L2) from r2, bd_s, if_neg (show ¬ (1 : Int32) = 0 by decide)]
        dsimp only
        obtain ⟨L3, f3, z3⟩ := x_trait (h := nH P) (f := 3) (w := 10) ht i2 w2 (by omega) (by omega) (by decide)
        rw [upd_o (show 14 + 6 * nH P + 3 ≠ 14 + 6 * nH P + 2 by omega), upd_o (show 14 + 6 * nH P + 3 ≠ 14 + 6 * nH P + 1 by omega), d3] at z3
        rcases z3 with ⟨p3, e, t3, r3, i3, w3⟩ | ⟨p, t3, r3, q3⟩
        case inr =>
          rw [show trG T t 3 p2 10 3 0 = (p, none) from t3, show mi_X0_readTrait 13 (nI (nH P)) 3 10 L2 = some (0, L3) from r3]
          exact ⟨L3, ((fB.tr f1).tr f2).tr f3, Or.inr ⟨p, rfl, rfl, q3⟩⟩
        rw [show trG T t 3 p2 10 3 0 = (p3, some e) from t3, show mi_X0_readTrait 13 (nI (nH P)) 3 10 L2 = some (1, L3) from r3, bd_s, if_neg (show ¬ (1 : Int32) = 0 by decide)]
        dsimp only
        obtain ⟨L4, f4, z4⟩ := x_trait (h := nH P) (f := 4) (w := 11) ht i3 w3 (by omega) (by omega) (by decide)
        rw [upd_o (show 14 + 6 * nH P + 4 ≠ 14 + 6 * nH P + 3 by omega), upd_o (show 14 + 6 * nH P + 4 ≠ 14 + 6 * nH P + 2 by omega), upd_o (show 14 + 6 * nH P + 4 ≠ 14 + 6 * nH P + 1 by omega), d4] at z4
        rcases z4 with ⟨p4, u, t4, r4, i4, w4⟩ | ⟨p, t4, r4, q4⟩
        case inr =>
          rw [show trG T t 4 p3 11 99 50 = (p, none) from t4, show mi_X0_readTrait 13 (nI (nH P)) 4 11 L3 = some (0, L4) from r4]
          exact ⟨L4, (((fB.tr f1).tr f2).tr f3).tr f4, Or.inr ⟨p, rfl, rfl, q4⟩⟩
        rw [show trG T t 4 p3 11 99 50 = (p4, some u) from t4, show mi_X0_readTrait 13 (nI (nH P)) 4 11 L3 = some (1, L4) from r4, bd_s, if_neg (show ¬ (1 : Int32) = 0 by decide)]
        rw [add_all] at i4 w4
        have n10 : ¬ nI k = 10 := fun z => by
          have := nI_inj (i := k) (j := 10) (by omega) (by decide) z
          omega
        refine ⟨L4, (((fB.tr f1).tr f2).tr f3).tr f4, Or.inl ⟨p4, (nI k, a, b, e, u), rfl, rfl, ?_, ?_⟩⟩
        · unfold apI
          rw [if_neg n10]; exact i4
        · unfold apI
          rw [if_neg n10]; exact w4
