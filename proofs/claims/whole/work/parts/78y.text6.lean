/-! text: an item of the reference, whole -/
def HF (K L : Mem) : Prop := (∀ j, j < 11 → L 49 j = K 49 j) ∧ ∀ a, a ≠ 49 → a ≠ 61 → L a = K a
theorem HF.rf {K : Mem} : HF K K := ⟨fun _ _ => rfl, fun _ _ _ => rfl⟩
theorem HF.tr {K L Q : Mem} (h1 : HF K L) (h2 : HF L Q) : HF K Q := ⟨fun j hj => (h2.1 j hj).trans (h1.1 j hj), fun a n1 n2 => (h2.2 a n1 n2).trans (h1.2 a n1 n2)⟩
theorem G49.hf {K L : Mem} (h : G49 K L) : HF K L := ⟨fun j hj => h.1 j (by omega), fun a n1 _ => h.2 a n1⟩
theorem OKM.c {T : Nat → Int32} {t s : Nat} {K L : Mem} (h : OKM T t s K) (e : ∀ j, 11 ≤ j → j ≤ 16 → L 49 j = K 49 j) (e9 : L 59 = K 59) : OKM T t s L := by
  obtain ⟨⟨a1, a2, a3, a4, a5, a6, a7⟩, a8⟩ := h
  refine ⟨⟨a1, ?_, ?_, ?_, ?_, ?_, ?_⟩, ?_⟩
  · rw [e 11 (by decide) (by decide)]; exact a2
  · rw [e 12 (by decide) (by decide)]; exact a3
  · rw [e 13 (by decide) (by decide)]; exact a4
  · rw [e 14 (by decide) (by decide)]; exact a5
  · rw [e 15 (by decide) (by decide)]; exact a6
  · rw [e9]; exact a7
  · rw [e 16 (by decide) (by decide)]; exact a8
theorem FAM.c {s : Nat} {K L : Mem} (h : FAM s K) (e : ∀ j, 11 ≤ j → j ≤ 16 → L 49 j = K 49 j) : FAM s L :=
  ⟨by rw [e 16 (by decide) (by decide)]; exact h.1, by rw [e 12 (by decide) (by decide)]; exact h.2⟩
theorem addF {K : Mem} {s c : Nat} (x : ItT) (hc : c ≤ 119) (h : FAM s K) (h9 : K 49 19 = nI c) : ∃ L : Mem, (bv (mi_X4_addItem x.1 x.2.1 x.2.2.1 x.2.2.2.1 x.2.2.2.2 K) fun M_19 => some M_19) = some L ∧ FAM s L ∧ HF K L := by
  obtain ⟨L, l1, l2, l3, l4, l5, l6⟩ := m_add x hc h9
  exact ⟨L, by rw [l1, bv_s], h.c (fun j h1 h2 => l3 j (by omega)), fun j hj => l3 j (by omega), l6⟩
theorem addO {T : Nat → Int32} {t : Nat} {K : Mem} {s c : Nat} (x : ItT) (hc : c ≤ 119) (h : OKM T t s K) (h9 : K 49 19 = nI c) : ∃ L : Mem, (bv (mi_X4_addItem x.1 x.2.1 x.2.2.1 x.2.2.2.1 x.2.2.2.2 K) fun M_19 => some M_19) = some L ∧ OKM T t s L ∧ L 49 19 = nI (c + 1) ∧ L 49 20 = K 49 20 ∧ ItS x L c ∧ (∀ i, i < 5 * c → L 61 i = K 61 i) ∧ HF K L := by
  obtain ⟨L, l1, l2, l3, l4, l5, l6⟩ := m_add x hc h9
  exact ⟨L, by rw [l1, bv_s], h.c (fun j h1 h2 => l3 j (by omega)) (l6 59 (by decide) (by decide)), l2, l3 20 (by decide), l4, l5, fun j hj => l3 j (by omega), l6⟩
theorem m_item {T : Nat → Int32} {t s n c : Nat} {K : Mem} (hT : Tp T t) (h : OKM T t s K) (hc : c ≤ 119) (h9 : K 49 19 = nI c) (hn : n ≤ 8) (h20 : K 49 20 = nI n) : ∃ L : Mem, HF K L ∧ mi_X4_readItem K = some L ∧ ((∃ p x, itR T t s n = (p, some x) ∧ OKM T t p L ∧ L 49 19 = nI (c + 1) ∧ L 49 20 = nI (n + (if x.1 = 10 then 0 else 1)) ∧ ItS x L c ∧ ∀ i, i < 5 * c → L 61 i = K 61 i) ∨ (∃ p, itR T t s n = (p, none) ∧ FAM p L)) := by
  unfold mi_X4_readItem pi_X4_readItem_e itR
  rw [m_kindT h.1 hT.1, bd_s]
  cases ck : kdR T t s with
  | none =>
    rw [if_pos (show fiI none < 0 by decide), m_word h.1 hT.1 (by decide), bd_s]
    cases cw : wdB T t s 7 with
    | false =>
      rw [if_f, if_f]
      obtain ⟨A, a1, a2, a3⟩ := m_must0 h
      obtain ⟨B, v, b1, b2, b3⟩ := m_numF 9 a2
      obtain ⟨L, l1, l2, l3⟩ := addF (10, v, 0, 0, 0) hc b2 (by rw [b3.1 19 (by omega), a3.1 19 (by omega)]; exact h9)
      rw [a1, bv_s, b1, bd_s]
      exact ⟨L, (a3.hf.tr b3.hf).tr l3, l1, Or.inr ⟨s, rfl, l2⟩⟩
    | true =>
      rw [if_t, if_t]
      obtain ⟨A, a1, a2, a3⟩ := m_must1 hT h
      obtain ⟨B, b3, b1⟩ := m_num 9 hT a2
      have g9 : B 49 19 = nI c := by rw [b3.1 19 (by omega), a3.1 19 (by omega)]; exact h9
      rw [a1, bv_s]
      rcases b1 with ⟨p, v, z1, z2, z3⟩ | ⟨p, v, z1, z2, z3⟩
      · obtain ⟨L, l1, l2, l4, l5, l6, l7, l3⟩ := addO (10, v, 0, 0, 0) hc z3 g9
        rw [z1, z2, bd_s]
        refine ⟨L, (a3.hf.tr b3.hf).tr l3, l1, Or.inl ⟨p, (10, v, 0, 0, 0), rfl, l2, l4, ?_, l6, fun i hi => ?_⟩⟩
        · rw [l5, b3.1 20 (by omega), a3.1 20 (by omega), h20, if_pos rfl]; rfl
        · rw [l7 i hi, b3.2 61 (by decide), a3.2 61 (by decide)]
      · obtain ⟨L, l1, l2, l3⟩ := addF (10, v, 0, 0, 0) hc z3 g9
        rw [z1, z2, bd_s]
        exact ⟨L, (a3.hf.tr b3.hf).tr l3, l1, Or.inr ⟨p, rfl, l2⟩⟩
  | some k =>
    obtain ⟨k7, kw, -⟩ := fi_some 7 (show fiN (wdB T t s) 7 = some k from ck)
    have cw : wdB T t s 7 = false := by
      cases q : wdB T t s 7 with
      | false => rfl
      | true => exact absurd (wd_un (by omega) (by decide) kw q) (by omega)
    have ek : fiI (some k) = nI k := rfl
    rw [cw, if_f, ek, if_neg (nI_nn (by omega)), h20]
    have n10 : ¬ nI k = 10 := fun z => by
      have := nI_inj (i := k) (j := 10) (by omega) (by decide) z
      omega
    unfold pi_X4_readItem_24
    by_cases c3 : 8 ≤ n
    · rw [if_pos (show (8 : Int32) ≤ nI n by rw [i_le, nI_toInt (by omega), show (8 : Int32).toInt = 8 from by decide]; omega)]
      dsimp only
      rw [if_pos c3]
      obtain ⟨A, a1, a2, a3⟩ := m_must0 h
      have f2 : FAM s (up A 49 20 (A 49 20 + 1)) := a2.c (fun j h1 h2 => by rw [up_e, if_neg (by omega)])
      obtain ⟨L, l1, l2, l3⟩ := addF (nI k, 0, 1, 0, 50) hc f2 (by rw [up_e, if_neg (by decide), a3.1 19 (by omega)]; exact h9)
      rw [a1, bv_s, bM_e, m_afterF _ _ f2, bd_s, m_stepF f2, bd_s, m_afterF _ _ f2, bd_s, m_afterF _ _ f2, bd_s]
      refine ⟨L, (a3.hf.tr ⟨fun j hj => by rw [up_e, if_neg (by omega)], fun a n1 n2 => up_o n1⟩).tr l3, l1, Or.inr ⟨s, rfl, l2⟩⟩
    · rw [if_neg (show ¬ (8 : Int32) ≤ nI n by rw [i_le, nI_toInt (by omega), show (8 : Int32).toInt = 8 from by decide]; omega)]
      dsimp only
      rw [if_neg c3]
      obtain ⟨A, a1, a2, a3⟩ := m_must1 hT h
      have g20 : A 49 20 = nI n := by rw [a3.1 20 (by omega)]; exact h20
      rw [a1, bv_s, bM_e, g20, nI_1]
      have o2 : OKM T t (nxT T t s) (up A 49 20 (nI (n + 1))) := a2.c (fun j h1 h2 => by rw [up_e, if_neg (by omega)]) (up_o (by decide))
      have u9 : up A 49 20 (nI (n + 1)) 49 19 = nI c := by rw [up_e, if_neg (by decide), a3.1 19 (by omega)]; exact h9
      have u20 : up A 49 20 (nI (n + 1)) 49 20 = nI (n + 1) := by rw [up_e, if_pos rfl]
      have u61 : up A 49 20 (nI (n + 1)) 61 = K 61 := by rw [up_o (by decide), a3.2 61 (by decide)]
      have uF : HF K (up A 49 20 (nI (n + 1))) := a3.hf.tr ⟨fun j hj => by rw [up_e, if_neg (by omega)], fun a n1 n2 => up_o n1⟩
      generalize up A 49 20 (nI (n + 1)) = B at *
      obtain ⟨L1, f1, z1⟩ := m_after (f := 1) (w := 8) 11 0 hT o2 (by decide) (by decide)
      rcases z1 with ⟨p1, a, t1, r1, i1⟩ | ⟨p1, a, t1, r1, i1⟩
      case inr =>
        obtain ⟨L, l1, l2, l3⟩ := addF (nI k, a, 1, 0, 50) hc i1 (by rw [f1.1 19 (by omega)]; exact u9)
        rw [t1, r1, bd_s, m_stepF i1, bd_s, m_afterF _ _ i1, bd_s, m_afterF _ _ i1, bd_s]
        exact ⟨L, (uF.tr f1.hf).tr l3, l1, Or.inr ⟨p1, rfl, l2⟩⟩
      rw [t1, r1, bd_s]
      dsimp only
      obtain ⟨L2, f2, z2⟩ := m_step hT i1
      rcases z2 with ⟨p2, b, t2, r2, i2⟩ | ⟨p2, b, t2, r2, i2⟩
      case inr =>
        obtain ⟨L, l1, l2, l3⟩ := addF (nI k, a, b, 0, 50) hc i2 (by rw [f2.1 19 (by omega), f1.1 19 (by omega)]; exact u9)
        rw [t2, r2, bd_s, m_afterF _ _ i2, bd_s, m_afterF _ _ i2, bd_s]
        exact ⟨L, ((uF.tr f1.hf).tr f2.hf).tr l3, l1, Or.inr ⟨p2, rfl, l2⟩⟩
      rw [t2, r2, bd_s]
      dsimp only
      obtain ⟨L3, f3, z3⟩ := m_after (f := 3) (w := 10) 3 0 hT i2 (by decide) (by decide)
      rcases z3 with ⟨p3, e, t3, r3, i3⟩ | ⟨p3, e, t3, r3, i3⟩
      case inr =>
        obtain ⟨L, l1, l2, l3⟩ := addF (nI k, a, b, e, 50) hc i3 (by rw [f3.1 19 (by omega), f2.1 19 (by omega), f1.1 19 (by omega)]; exact u9)
        rw [t3, r3, bd_s, m_afterF _ _ i3, bd_s]
        exact ⟨L, (((uF.tr f1.hf).tr f2.hf).tr f3.hf).tr l3, l1, Or.inr ⟨p3, rfl, l2⟩⟩
      rw [t3, r3, bd_s]
      dsimp only
      obtain ⟨L4, f4, z4⟩ := m_after (f := 4) (w := 11) 99 50 hT i3 (by decide) (by decide)
      have g9 : L4 49 19 = nI c := by rw [f4.1 19 (by omega), f3.1 19 (by omega), f2.1 19 (by omega), f1.1 19 (by omega)]; exact u9
      have g4 : L4 49 20 = nI (n + 1) := by rw [f4.1 20 (by omega), f3.1 20 (by omega), f2.1 20 (by omega), f1.1 20 (by omega)]; exact u20
      have g61 : L4 61 = K 61 := by rw [f4.2 61 (by decide), f3.2 61 (by decide), f2.2 61 (by decide), f1.2 61 (by decide)]; exact u61
      have gF : HF K L4 := (((uF.tr f1.hf).tr f2.hf).tr f3.hf).tr f4.hf
      rcases z4 with ⟨p4, u, t4, r4, i4⟩ | ⟨p4, u, t4, r4, i4⟩
      · obtain ⟨L, l1, l2, l4, l5, l6, l7, l3⟩ := addO (nI k, a, b, e, u) hc i4 g9
        rw [t4, r4, bd_s]
        refine ⟨L, gF.tr l3, l1, Or.inl ⟨p4, (nI k, a, b, e, u), rfl, l2, l4, ?_, l6, fun i hi => by rw [l7 i hi, g61]⟩⟩
        rw [l5, g4, if_neg n10]
      · obtain ⟨L, l1, l2, l3⟩ := addF (nI k, a, b, e, u) hc i4 g9
        rw [t4, r4, bd_s]
        exact ⟨L, gF.tr l3, l1, Or.inr ⟨p4, rfl, l2⟩⟩
/-! where an item ends -/
theorem na_pos {T : Nat → Int32} {t s : Nat} {m g : Int32} (hs : s ≤ t) : s ≤ (naR T t s m g).1 ∧ (naR T t s m g).1 ≤ t := by
  have := nx_b (T := T) hs
  unfold naR
  cases nuB T t s m with
  | true => rw [if_t]; exact this
  | false => rw [if_f]; exact ⟨Nat.le_refl _, hs⟩
theorem tr_pos {T : Nat → Int32} {t f s w : Nat} {m d : Int32} (hs : s ≤ t) : s ≤ (trG T t f s w m d).1 ∧ (trG T t f s w m d).1 ≤ t := by
  have a := nx_b (T := T) hs
  have b := nx_b (T := T) a.2
  unfold trG
  cases wdB T t s w with
  | false => rw [if_f]; exact ⟨Nat.le_refl _, hs⟩
  | true =>
    rw [if_t]
    cases (decide (f = 2) && miB T t (nxT T t s)) with
    | true =>
      rw [if_t]
      have := na_pos (T := T) (m := m) (g := 1) b.2
      omega
    | false =>
      rw [if_f]
      have := na_pos (T := T) (m := m) (g := 0) a.2
      omega
theorem wdS_lt {T : Nat → Int32} {t s w : Nat} (h : wdB T t s w = true) : s < t := by
  unfold wdB at h
  rw [Bool.and_eq_true, decide_eq_true_iff] at h
  have q := h.1
  unfold tkK at q
  by_cases c : s < t
  · exact c
  · rw [if_neg c] at q; omega
theorem it_pos {T : Nat → Int32} {t s n : Nat} (hs : s ≤ t) : (itR T t s n).1 ≤ t ∧ ∀ x, (itR T t s n).2 = some x → s < (itR T t s n).1 ∧ (x.1 = 10 ∨ n < 8) := by
  have a := nx_b (T := T) hs
  unfold itR
  cases c : wdB T t s 7 with
  | true =>
    rw [if_t]
    have lt := nx_lt (T := T) (wdS_lt c)
    have q := na_pos (T := T) (m := 9) (g := 0) a.2
    rcases z : naR T t (nxT T t s) 9 0 with ⟨p, _ | v⟩
    · rw [z] at q
      exact ⟨q.2, fun x hx => by cases hx⟩
    · rw [z] at q
      refine ⟨q.2, fun x hx => ⟨?_, Or.inl ?_⟩⟩
      · show s < p
        have : nxT T t s ≤ p := q.1
        omega
      · injection hx with hx
        rw [← hx]
  | false =>
    rw [if_f]
    cases ck : kdR T t s with
    | none => exact ⟨hs, fun x hx => by cases hx⟩
    | some k =>
      obtain ⟨k7, kw, -⟩ := fi_some 7 (show fiN (wdB T t s) 7 = some k from ck)
      have lt := nx_lt (T := T) (wdS_lt kw)
      dsimp only
      by_cases c3 : 8 ≤ n
      · rw [if_pos c3]; exact ⟨hs, fun x hx => by cases hx⟩
      · rw [if_neg c3]
        have q1 := tr_pos (T := T) (f := 1) (w := 8) (m := 11) (d := 0) a.2
        rcases z1 : trG T t 1 (nxT T t s) 8 11 0 with ⟨p1, _ | v1⟩
        · rw [z1] at q1; exact ⟨q1.2, fun x hx => by cases hx⟩
        · rw [z1] at q1
          dsimp only at q1 ⊢
          have q2 := tr_pos (T := T) (f := 2) (w := 9) (m := 5) (d := 1) q1.2
          rcases z2 : trG T t 2 p1 9 5 1 with ⟨p2, _ | v2⟩
          · rw [z2] at q2; exact ⟨q2.2, fun x hx => by cases hx⟩
          · rw [z2] at q2
            dsimp only at q2 ⊢
            have q3 := tr_pos (T := T) (f := 3) (w := 10) (m := 3) (d := 0) q2.2
            rcases z3 : trG T t 3 p2 10 3 0 with ⟨p3, _ | v3⟩
            · rw [z3] at q3; exact ⟨q3.2, fun x hx => by cases hx⟩
            · rw [z3] at q3
              dsimp only at q3 ⊢
              have q4 := tr_pos (T := T) (f := 4) (w := 11) (m := 99) (d := 50) q3.2
              rcases z4 : trG T t 4 p3 11 99 50 with ⟨p4, _ | v4⟩
              · rw [z4] at q4; exact ⟨q4.2, fun x hx => by cases hx⟩
              · rw [z4] at q4
                dsimp only at q4 ⊢
                exact ⟨q4.2, fun x hx => ⟨by omega, Or.inr (by omega)⟩⟩
