/-! text: all items -/
def sqN (T : Nat → Int32) (t : Nat) (N : Nat → Int32) : Nat → Nat × (Nat → Int32)
  | 0 => (tkS T t 0, N)
  | j + 1 => (nxT T t (itR T t (sqN T t N j).1 (nH (sqN T t N j).2)).1, apI ((itR T t (sqN T t N j).1 (nH (sqN T t N j).2)).2.getD (0, 0, 0, 0, 0)) (sqN T t N j).2)
def itJ (T : Nat → Int32) (t : Nat) (N : Nat → Int32) (j : Nat) : Nat × Option ItT := itR T t (sqN T t N j).1 (nH (sqN T t N j).2)
def xiJ (T : Nat → Int32) (t : Nat) (N : Nat → Int32) (j : Nat) : ItT := (itJ T t N j).2.getD (0, 0, 0, 0, 0)
def coB (T : Nat → Int32) (t : Nat) (N : Nat → Int32) (j : Nat) : Bool := (itJ T t N j).2.isSome && seB T t (itJ T t N j).1
theorem sq_s {T : Nat → Int32} {t : Nat} {N : Nat → Int32} {j p : Nat} {x : ItT} (h : itJ T t N j = (p, some x)) : sqN T t N (j + 1) = (nxT T t p, apI x (sqN T t N j).2) := by
  have h' : itR T t (sqN T t N j).1 (nH (sqN T t N j).2) = (p, some x) := h
  show (nxT T t (itR T t (sqN T t N j).1 (nH (sqN T t N j).2)).1, apI ((itR T t (sqN T t N j).1 (nH (sqN T t N j).2)).2.getD (0, 0, 0, 0, 0)) (sqN T t N j).2) = _
  rw [h']; rfl
theorem se_lt {T : Nat → Int32} {t p : Nat} (h : seB T t p = true) : p < t := by
  unfold seB at h
  rw [Bool.and_eq_true, decide_eq_true_iff] at h
  have q := h.1
  unfold tkK at q
  by_cases c : p < t
  · exact c
  · rw [if_neg c] at q; omega
theorem sq_b {T : Nat → Int32} {t : Nat} {N : Nat → Int32} : ∀ j, (∀ k, k < j → coB T t N k = true) → 2 * j ≤ (sqN T t N j).1 ∧ (sqN T t N j).1 ≤ t := by
  intro j
  induction j with
  | zero => intro _; exact ⟨Nat.zero_le _, (tkS_b (Nat.zero_le t)).2⟩
  | succ j ih =>
    intro h
    obtain ⟨i1, i2⟩ := ih (fun k hk => h k (by omega))
    have hc := h j (by omega)
    unfold coB at hc
    rw [Bool.and_eq_true] at hc
    have lt := se_lt hc.2
    have n1 := nx_lt (T := T) lt
    have n2 := nx_b (T := T) (Nat.le_of_lt lt)
    obtain ⟨x, hx⟩ := Option.isSome_iff_exists.mp hc.1
    have ip := (it_pos (T := T) (n := nH (sqN T t N j).2) i2).2 x hx
    have e : (sqN T t N (j + 1)).1 = nxT T t (itJ T t N j).1 := rfl
    rw [e]
    have ip1 : (sqN T t N j).1 < (itJ T t N j).1 := ip.1
    omega
theorem sq_stop {T : Nat → Int32} {t : Nat} {N : Nat → Int32} (ht : t ≤ 120) : ∃ m, m ≤ 60 ∧ (∀ k, k < m → coB T t N k = true) ∧ coB T t N m = false := by
  cases q : fiN (fun j => !(coB T t N j)) 61 with
  | some m =>
    obtain ⟨q1, q2, q3⟩ := fi_some 61 q
    exact ⟨m, by omega, fun k hk => by simpa using q3 k hk, by simpa using q2⟩
  | none =>
    exfalso
    have q3 := fi_none 61 q
    have := sq_b (T := T) (t := t) (N := N) 61 (fun k hk => by simpa using q3 k hk)
    omega
theorem co_y {T : Nat → Int32} {t : Nat} {N : Nat → Int32} {j : Nat} (h : coB T t N j = true) : ∃ p x, itJ T t N j = (p, some x) ∧ seB T t p = true := by
  unfold coB at h
  rw [Bool.and_eq_true] at h
  obtain ⟨x, hx⟩ := Option.isSome_iff_exists.mp h.1
  exact ⟨(itJ T t N j).1, x, by rw [← hx], h.2⟩
theorem x_into {T : Nat → Int32} {t m : Nat} {N : Nat → Int32} {K : Mem} (ht : t ≤ 120) (k1 : K 37 1 = nI t) (kt : ∀ j, j < 120 → K 38 j = T j) (hs : ShR 13 K N) (hb : TbR 13 K N) (hw : Wf N) (hm : m ≤ 60) (hc : ∀ k, k < m → coB T t N k = true) (hn : coB T t N m = false) : ∃ L : Mem, FrT K L ∧ (∀ i, i ≤ m → Wf (sqN T t N i).2) ∧ ((∃ x, (itJ T t N m).2 = some x ∧ tkK T t (itJ T t N m).1 = 0 ∧ mi_X0_readInto 13 K = some (nI (m + 1), L) ∧ ShR 13 L (sqN T t N (m + 1)).2 ∧ Wf (sqN T t N (m + 1)).2) ∨ (((itJ T t N m).2 = none ∨ tkK T t (itJ T t N m).1 ≠ 0) ∧ mi_X0_readInto 13 K = some (-1 - nI (itJ T t N m).1, L))) := by
  unfold mi_X0_readInto pi_X0_readInto_e
  rw [bM_e]
  obtain ⟨B, b1, b2, b3⟩ := x_adv (T := T) (t := t) (e := 0) (K := up K 37 3 0) ht (Nat.zero_le _) (by rw [up_e, if_neg (by decide)]; exact k1) (by rw [up_e, if_pos rfl]; rfl) (fun j hj => by rw [up_o (by decide)]; exact kt j hj)
  have fB : FrT K B := fun a n1 n2 => by rw [b3 a n2, up_o n2]
  have iB : IX T t (sqN T t N 0).1 (sqN T t N 0).2 B := ⟨b2, hs.eq (fun a h1 h2 => by rw [b3 a (by omega), up_o (by omega)]), hb.eq (fun a h1 h2 => by rw [b3 a (by omega), up_o (by omega)])⟩
  rw [b1, bv_s]
  refine lp_inv (I := fun j (zx : Int32 × Mem) => zx.1 = nI (j + 1) ∧ IX T t (sqN T t N j).1 (sqN T t N j).2 zx.2 ∧ FrT K zx.2 ∧ ∀ i, i ≤ j → Wf (sqN T t N i).2) (Post := fun (zo : Option (Int32 × Mem)) => ∃ L : Mem, FrT K L ∧ (∀ i, i ≤ m → Wf (sqN T t N i).2) ∧ ((∃ x, (itJ T t N m).2 = some x ∧ tkK T t (itJ T t N m).1 = 0 ∧ zo = some (nI (m + 1), L) ∧ ShR 13 L (sqN T t N (m + 1)).2 ∧ Wf (sqN T t N (m + 1)).2) ∨ (((itJ T t N m).2 = none ∨ tkK T t (itJ T t N m).1 ≠ 0) ∧ zo = some (-1 - nI (itJ T t N m).1, L)))) m ?_ ?_ FU (FU_le (by omega)) (1, B) ⟨rfl, iB, fB, fun i hi => by
    have : i = 0 := by omega
    subst this
    exact hw⟩
  · rintro j hj ⟨v, A⟩ ⟨i1, i2, i3, i4⟩ rec
    dsimp only at i1 i2 i3 i4
    obtain ⟨p, x, px, ps⟩ := co_y (hc j hj)
    have px' : itR T t (sqN T t N j).1 (nH (sqN T t N j).2) = (p, some x) := px
    obtain ⟨L, l1, l2⟩ := x_item ht i2 (i4 j (Nat.le_refl _))
    rcases l2 with ⟨p', x', z1, z2, z3, z4⟩ | ⟨p', z1, z2, z3⟩
    · rw [px'] at z1
      cases z1
      obtain ⟨Q, q1, q2, q3⟩ := z3.nx ht
      have e := sq_s px
      refine ⟨(nI (j + 1 + 1), Q), ⟨rfl, by rw [e]; exact q2, (i3.tr l1).tr q3, fun i hi => ?_⟩, ?_⟩
      · by_cases c : i = j + 1
        · rw [c, e]; exact z4
        · exact i4 i (by omega)
      · show pi_X0_readInto_11 13 rec v A = _
        have k3 : L 37 4 = 3 := (z3.1.k (c := 3) (by decide)).mpr (k5_3.mpr ps)
        unfold pi_X0_readInto_11
        rw [i1, show (120 : Int32) = nI 120 from rfl, if_neg (x_gt (show j + 1 ≤ 120 by omega) (by decide)), z2, bd_s, if_neg (show ¬ (1 : Int32) = 0 by decide), k3, if_neg (show ¬ (3 : Int32) = 0 by decide), if_pos rfl, q1, bv_s, bI_e, nI_1]
    · rw [px'] at z1
      cases z1
  · rintro ⟨v, A⟩ ⟨i1, i2, i3, i4⟩ rec
    dsimp only at i1 i2 i3 i4
    obtain ⟨L, l1, l2⟩ := x_item ht i2 (i4 m (Nat.le_refl _))
    show ∃ L : Mem, FrT K L ∧ (∀ i, i ≤ m → Wf (sqN T t N i).2) ∧ ((∃ x, (itJ T t N m).2 = some x ∧ tkK T t (itJ T t N m).1 = 0 ∧ pi_X0_readInto_11 13 rec v A = some (nI (m + 1), L) ∧ ShR 13 L (sqN T t N (m + 1)).2 ∧ Wf (sqN T t N (m + 1)).2) ∨ (((itJ T t N m).2 = none ∨ tkK T t (itJ T t N m).1 ≠ 0) ∧ pi_X0_readInto_11 13 rec v A = some (-1 - nI (itJ T t N m).1, L)))
    refine ⟨L, i3.tr l1, i4, ?_⟩
    unfold pi_X0_readInto_11
    rw [i1, show (120 : Int32) = nI 120 from rfl, if_neg (x_gt (show m + 1 ≤ 120 by omega) (by decide))]
    rcases l2 with ⟨p, x, z1, z2, z3, z4⟩ | ⟨p, z1, z2, z3⟩
    · have z1' : itJ T t N m = (p, some x) := z1
      have e := sq_s z1'
      have ns : ¬ seB T t p = true := fun z => by
        unfold coB at hn
        rw [z1', z] at hn
        cases hn
      have k0 : L 37 4 = 0 ↔ tkK T t p = 0 := (z3.1.k (c := 0) (by decide)).trans (k5_lo (by decide))
      have k3 : L 37 4 = 3 ↔ seB T t p = true := (z3.1.k (c := 3) (by decide)).trans k5_3
      rw [z2, bd_s, if_neg (show ¬ (1 : Int32) = 0 by decide), z1']
      by_cases c : tkK T t p = 0
      · rw [if_pos (k0.mpr c)]
        exact Or.inl ⟨x, rfl, c, rfl, by rw [e]; exact z3.2.1, by rw [e]; exact z4⟩
      · rw [if_neg (fun z => c (k0.mp z)), if_neg (fun z => ns (k3.mp z)), z3.1.2.2.1]
        exact Or.inr ⟨Or.inr c, rfl⟩
    · have z1' : itJ T t N m = (p, none) := z1
      rw [z2, bd_s, if_pos rfl, z3, z1']
      exact Or.inr ⟨Or.inl rfl, rfl⟩
theorem nH_ap {x : ItT} {P : Nat → Int32} (h : x.1 = 10 ∨ nH P < 8) : nH (apI x P) = nH P + (if x.1 = 10 then 0 else 1) := by
  unfold apI
  by_cases c : x.1 = 10
  · rw [if_pos c, if_pos c]; exact nH_upd (by decide)
  · rw [if_neg c, if_neg c]
    rcases h with z | z
    · exact absurd z c
    · exact nH_add z
def RM (T : Nat → Int32) (t : Nat) (N : Nat → Int32) (K : Mem) (j : Nat) (A : Mem) : Prop := HF K A ∧ (∀ x, (itJ T t N j).2 = some x → OKM T t (itJ T t N j).1 A ∧ A 49 19 = nI (j + 1) ∧ A 49 20 = nI (nH (sqN T t N (j + 1)).2) ∧ ∀ i, i ≤ j → ItS (xiJ T t N i) A i) ∧ ((itJ T t N j).2 = none → FAM (itJ T t N j).1 A)
theorem rm_next {T : Nat → Int32} {t j : Nat} {N : Nat → Int32} {K A : Mem} (hT : Tp T t) (hj : j ≤ 60) (hs : (sqN T t N j).1 ≤ t) (hw : Wf (sqN T t N j).2) (hF : HF K A) (hO : OKM T t (sqN T t N j).1 A) (h9 : A 49 19 = nI j) (h20 : A 49 20 = nI (nH (sqN T t N j).2)) (hi : ∀ i, i < j → ItS (xiJ T t N i) A i) : ∃ L : Mem, mi_X4_readItem A = some L ∧ RM T t N K j L := by
  obtain ⟨L, l1, l2, l3⟩ := m_item hT hO (show j ≤ 119 by omega) h9 hw.2.1 h20
  refine ⟨L, l2, hF.tr l1, fun x hx => ?_, fun hx => ?_⟩
  · rcases l3 with ⟨p, x', z1, z2, z3, z4, z5, z6⟩ | ⟨p, z1, z2⟩
    · have z1' : itJ T t N j = (p, some x') := z1
      rw [z1'] at hx ⊢
      injection hx with hx
      subst hx
      have ip := ((it_pos (T := T) (n := nH (sqN T t N j).2) hs).2 x' (by rw [z1])).2
      refine ⟨z2, z3, by rw [sq_s z1', nH_ap ip]; exact z4, fun i hle => ?_⟩
      by_cases c : i = j
      · subst c
        have : xiJ T t N i = x' := by unfold xiJ; rw [z1']; rfl
        rw [this]; exact z5
      · obtain ⟨y0, y1, y2, y3, y4⟩ := hi i (by omega)
        exact ⟨by rw [z6 _ (by omega)]; exact y0, by rw [z6 _ (by omega)]; exact y1, by rw [z6 _ (by omega)]; exact y2, by rw [z6 _ (by omega)]; exact y3, by rw [z6 _ (by omega)]; exact y4⟩
    · have z1' : itJ T t N j = (p, none) := z1
      rw [z1'] at hx
      cases hx
  · rcases l3 with ⟨p, x', z1, -⟩ | ⟨p, z1, z2⟩
    · have z1' : itJ T t N j = (p, some x') := z1
      rw [z1'] at hx
      cases hx
    · have z1' : itJ T t N j = (p, none) := z1
      rw [z1']; exact z2
theorem m_apply {m : Nat} {r : Nat → Nat → Int32} {xi : Nat → ItT} {A : Mem} (hm : m ≤ 60) (h9 : A 49 19 = nI (m + 1)) (h0 : A 50 = r 0) (hr : ∀ j, j ≤ m → r (j + 1) = apI (xi j) (r j)) (hw : ∀ j, j ≤ m → Wf (r j)) (hv : ∀ j, j ≤ m → (xi j).1 = 10 ∨ nH (r j) < 8) (hi : ∀ j, j ≤ m → ItS (xi j) A j) : ∃ Q : Mem, lp (fun rc113 x => pi_X4_text_113 rc113 x.1 x.2.1 x.2.2) FU (0, 0, A) = some (nI (m + 1), Q) ∧ Q 50 = r (m + 1) ∧ ∀ a, a ≠ 50 → Q a = A a := by
  refine lp_inv (I := fun j (zx : Int32 × Int32 × Mem) => zx.1 = nI j ∧ zx.2.1 = nI j ∧ zx.2.2 50 = r j ∧ ∀ a, a ≠ 50 → zx.2.2 a = A a) (Post := fun (zo : Option (Int32 × Mem)) => ∃ Q : Mem, zo = some (nI (m + 1), Q) ∧ Q 50 = r (m + 1) ∧ ∀ a, a ≠ 50 → Q a = A a) (m + 1) ?_ ?_ FU (FU_le (by omega)) (0, 0, A) ⟨rfl, rfl, h0, fun _ _ => rfl⟩
  · rintro j hj ⟨x1, x2, B⟩ ⟨i1, i2, i3, i4⟩ rec
    dsimp only at i1 i2 i3 i4
    obtain ⟨y0, y1, y2, y3, y4⟩ := hi j (by omega)
    have b61 : B 61 = A 61 := i4 61 (by decide)
    have key : ∃ (u : Nat) (C : Mem), u < 1000 ∧ mi_X4_isToldSo (nI (5 * j)) B = some (nI u, C) ∧ C 50 = r (j + 1) ∧ ∀ a, a ≠ 50 → C a = A a := by
      unfold mi_X4_isToldSo pi_X4_isToldSo_e
      rw [show (1 : Int32) = nI 1 from rfl, show (2 : Int32) = nI 2 from rfl, show (3 : Int32) = nI 3 from rfl, show (4 : Int32) = nI 4 from rfl, nI_add, nI_add, nI_add, nI_add, inb_nI (show 5 * j + 1 < 600 by omega) (by decide), inb_nI (show 5 * j < 600 by omega) (by decide), inb_nI (show 5 * j + 2 < 600 by omega) (by decide), inb_nI (show 5 * j + 3 < 600 by omega) (by decide), inb_nI (show 5 * j + 4 < 600 by omega) (by decide), gd_t, bI_e, gd_t, nI_clamp (show 5 * j < 2 ^ 31 by omega), nI_clamp (show 5 * j + 1 < 2 ^ 31 by omega), nI_clamp (show 5 * j + 2 < 2 ^ 31 by omega), nI_clamp (show 5 * j + 3 < 2 ^ 31 by omega), nI_clamp (show 5 * j + 4 < 2 ^ 31 by omega), b61, y0, y1, y2, y3, y4]
      rw [hr j (by omega)]
      unfold apI
      by_cases c : (xi j).1 = 10
      · rw [if_pos c, if_pos c, md_become (j := 3) _ (by decide), bd_s, i3]
        obtain ⟨u, u1, u2⟩ := inb_of (hw j (by omega)).2.2.1 (by decide)
        refine ⟨u, _, by omega, by rw [u2], by rw [up_s, i3], fun a ha => by rw [up_o ha]; exact i4 a ha⟩
      · have n8 : nH (B 50) < 8 := by
          rw [i3]
          rcases hv j (by omega) with z | z
          · exact absurd z c
          · exact z
        obtain ⟨C, c1, c2, c3⟩ := md_comes (M := B) (xi j).1 (xi j).2.1 (xi j).2.2.1 (xi j).2.2.2.1 (xi j).2.2.2.2 (by rw [i3]; exact hw j (by omega)) n8
        rw [if_neg c, if_neg c, gd_t, gd_t, gd_t, gd_t, c1, bd_s]
        exact ⟨nH (B 50), C, by omega, rfl, by rw [c2, i3], fun a ha => by rw [c3 a ha]; exact i4 a ha⟩
    obtain ⟨u, C, u1, u2, u3, u4⟩ := key
    refine ⟨(nI (j + 1), nI (j + 1), C), ⟨rfl, rfl, u3, u4⟩, ?_⟩
    show pi_X4_text_113 rec x1 x2 B = _
    unfold pi_X4_text_113
    rw [i4 49 (by decide), h9, i1, i2, if_neg (nI_ge hj (by omega)), five (by omega), u2, bd_s, if_pos (nlt_le.mp (nI_nn (by omega))), bI_e, bI_e, nI_1]
  · rintro ⟨x1, x2, B⟩ ⟨i1, i2, i3, i4⟩ rec
    dsimp only at i1 i2 i3 i4
    refine ⟨B, ?_, i3, i4⟩
    show pi_X4_text_113 rec x1 x2 B = _
    unfold pi_X4_text_113
    rw [i4 49 (by decide), h9, i1, i2, if_pos (Int32.le_refl _)]
theorem m_text {T : Nat → Int32} {t m : Nat} {N : Nat → Int32} {K : Mem} (hT : Tp T t) (k1 : K 49 11 = nI t) (kt : ∀ j, j < 120 → K 59 j = T j) (k50 : K 50 = N) (hm : m ≤ 60) (hc : ∀ k, k < m → coB T t N k = true) (hn : coB T t N m = false) (hw : ∀ i, i ≤ m → Wf (sqN T t N i).2) : ∃ Q : Mem, (∀ j, j < 11 → Q 49 j = K 49 j) ∧ (∀ a, a ≠ 49 → a ≠ 61 → a ≠ 50 → Q a = K a) ∧ Q 49 11 = 0 ∧ ((∃ x, (itJ T t N m).2 = some x ∧ tkK T t (itJ T t N m).1 = 0 ∧ mi_X4_text K = some (nI (m + 1), Q) ∧ Q 50 = (sqN T t N (m + 1)).2) ∨ (((itJ T t N m).2 = none ∨ tkK T t (itJ T t N m).1 ≠ 0) ∧ mi_X4_text K = some (-1 - nI (itJ T t N m).1, Q) ∧ Q 50 = N)) := by
  have ht := hT.1
  have hw0 : Wf N := hw 0 (Nat.zero_le _)
  have sle : ∀ j, j ≤ m → (sqN T t N j).1 ≤ t := fun j hj => (sq_b j (fun k hk => hc k (by omega))).2
  unfold mi_X4_text pi_X4_text_e
  have e50 : up (up (up K 49 13 0) 49 16 0) 49 19 0 50 = N := by rw [up_o (by decide), up_o (by decide), up_o (by decide)]; exact k50
  rw [bM_e, isB0, gd_t, bM_e, bM_e, in1_62, gd_t, bM_e, e50, tN1, hw0.1]
  have g11 : up (up (up (up K 49 13 0) 49 16 0) 49 19 0) 49 20 (nI (nH N)) 49 11 = nI t := by rw [up_e, if_neg (by decide), up_e, if_neg (by decide), up_e, if_neg (by decide), up_e, if_neg (by decide)]; exact k1
  have g13 : up (up (up (up K 49 13 0) 49 16 0) 49 19 0) 49 20 (nI (nH N)) 49 13 = nI 0 := by rw [up_e, if_neg (by decide), up_e, if_neg (by decide), up_e, if_neg (by decide), up_e, if_pos rfl]; rfl
  have g16 : up (up (up (up K 49 13 0) 49 16 0) 49 19 0) 49 20 (nI (nH N)) 49 16 = 0 := by rw [up_e, if_neg (by decide), up_e, if_neg (by decide), up_e, if_pos rfl]
  have g19 : up (up (up (up K 49 13 0) 49 16 0) 49 19 0) 49 20 (nI (nH N)) 49 19 = nI 0 := by rw [up_e, if_neg (by decide), up_e, if_pos rfl]; rfl
  have g20 : up (up (up (up K 49 13 0) 49 16 0) 49 19 0) 49 20 (nI (nH N)) 49 20 = nI (nH N) := by rw [up_e, if_pos rfl]
  have gF : HF K (up (up (up (up K 49 13 0) 49 16 0) 49 19 0) 49 20 (nI (nH N))) := ⟨fun j hj => by rw [up_e, if_neg (by omega), up_e, if_neg (by omega), up_e, if_neg (by omega), up_e, if_neg (by omega)], fun a n1 n2 => by rw [up_o n1, up_o n1, up_o n1, up_o n1]⟩
  generalize up (up (up (up K 49 13 0) 49 16 0) 49 19 0) 49 20 (nI (nH N)) = A at *
  obtain ⟨B, b1, b2, b3⟩ := m_adv (T := T) (t := t) (e := 0) (K := A) hT (Nat.zero_le _) g11 g13 (fun j hj => by rw [gF.2 59 (by decide) (by decide)]; exact kt j hj)
  have bF : HF K B := gF.tr ⟨fun j hj => b3.1 j (by omega), fun a n1 _ => b3.2 a n1⟩
  obtain ⟨C, c1, c2⟩ := rm_next (T := T) (t := t) (j := 0) (N := N) (K := K) (A := B) hT (by omega) (sle 0 (by omega)) hw0 bF ⟨b2, by rw [b3.1 16 (by omega)]; exact g16⟩ (by rw [b3.1 19 (by omega)]; exact g19) (by rw [b3.1 20 (by omega)]; exact g20) (fun i hi => absurd hi (by omega))
  rw [b1, bv_s, c1, bv_s]
  refine lp_inv (I := fun j (zx : Mem) => RM T t N K j zx) (Post := fun (zo : Option (Int32 × Mem)) => ∃ Q : Mem, (∀ j, j < 11 → Q 49 j = K 49 j) ∧ (∀ a, a ≠ 49 → a ≠ 61 → a ≠ 50 → Q a = K a) ∧ Q 49 11 = 0 ∧ ((∃ x, (itJ T t N m).2 = some x ∧ tkK T t (itJ T t N m).1 = 0 ∧ zo = some (nI (m + 1), Q) ∧ Q 50 = (sqN T t N (m + 1)).2) ∨ (((itJ T t N m).2 = none ∨ tkK T t (itJ T t N m).1 ≠ 0) ∧ zo = some (-1 - nI (itJ T t N m).1, Q) ∧ Q 50 = N))) m ?_ ?_ FU (FU_le (by omega)) C c2
  · intro j hj zx hI rec
    obtain ⟨i1, i2, -⟩ := hI
    obtain ⟨p, x, px, ps⟩ := co_y (hc j hj)
    obtain ⟨o1, o2, o3, o4⟩ := i2 x (by rw [px])
    rw [px] at o1
    dsimp only at o1
    have plt := se_lt ps
    unfold seB at ps
    rw [Bool.and_eq_true, decide_eq_true_iff, decide_eq_true_iff] at ps
    obtain ⟨D, d1, d2, d3⟩ := m_must1 hT o1
    have e := sq_s px
    have dF : HF K D := i1.tr d3.hf
    have d61 : D 61 = zx 61 := d3.2 61 (by decide)
    obtain ⟨L, l1, l2⟩ := rm_next (T := T) (t := t) (j := j + 1) (N := N) (K := K) (A := D) hT (by omega) (sle (j + 1) (by omega)) (hw (j + 1) (by omega)) dF (by rw [e]; exact d2) (by rw [d3.1 19 (by omega)]; exact o2) (by rw [d3.1 20 (by omega)]; exact o3) (fun i hi => by
      have := o4 i (by omega)
      unfold ItS at this ⊢
      rw [d61]; exact this)
    refine ⟨L, l2, ?_⟩
    show pi_X4_text_33 rec zx = _
    unfold pi_X4_text_33
    rw [if_pos o1.2, if_pos (show zx 49 14 = 3 by rw [o1.1.2.2.2.2.1, ps.1]; rfl), o1.1.2.2.1, inb_nI (show p < 120 by omega) (by decide), gd_t, nI_clamp (by omega), o1.1.2.2.2.2.2.2 _ (by omega), if_pos ps.2, d1, bv_s, l1, bv_s]
  · intro zx hI rec
    obtain ⟨i1, i2, i3⟩ := hI
    show ∃ Q : Mem, (∀ j, j < 11 → Q 49 j = K 49 j) ∧ (∀ a, a ≠ 49 → a ≠ 61 → a ≠ 50 → Q a = K a) ∧ Q 49 11 = 0 ∧ ((∃ x, (itJ T t N m).2 = some x ∧ tkK T t (itJ T t N m).1 = 0 ∧ pi_X4_text_33 rec zx = some (nI (m + 1), Q) ∧ Q 50 = (sqN T t N (m + 1)).2) ∨ (((itJ T t N m).2 = none ∨ tkK T t (itJ T t N m).1 ≠ 0) ∧ pi_X4_text_33 rec zx = some (-1 - nI (itJ T t N m).1, Q) ∧ Q 50 = N))
    have fail : ∀ (p : Nat) (L : Mem), HF K L → FAM p L → (∀ j, j < 11 → up L 49 11 0 49 j = K 49 j) ∧ (∀ a, a ≠ 49 → a ≠ 61 → a ≠ 50 → up L 49 11 0 a = K a) ∧ up L 49 11 0 49 11 = 0 ∧ up L 49 11 0 50 = N ∧ (if (up L 49 11 0 49 16) = 0 then (lp (fun rc113 x => pi_X4_text_113 rc113 x.1 x.2.1 x.2.2) FU (0, 0, up L 49 11 0)) else (some ((-1) - (up L 49 11 0 49 12), up L 49 11 0))) = some (-1 - nI p, up L 49 11 0) := by
      intro p L hF hA
      refine ⟨fun j hj => by rw [up_e, if_neg (by omega)]; exact hF.1 j hj, fun a n1 n2 n3 => by rw [up_o n1]; exact hF.2 a n1 n2, by rw [up_e, if_pos rfl], by rw [up_o (by decide), hF.2 50 (by decide) (by decide)]; exact k50, ?_⟩
      rw [if_neg (show ¬ up L 49 11 0 49 16 = 0 by rw [up_e, if_neg (by decide), hA.1]; decide), up_e, if_neg (show ¬ (12 : Nat) = 11 by decide), hA.2]
    rcases hz : itJ T t N m with ⟨p, _ | x⟩
    · rw [hz] at i3
      have fa : FAM p zx := i3 rfl
      have key : ∀ y : Int32, ∃ L : Mem, HF K L ∧ FAM p L ∧ mi_X4_must y zx = some L := fun y => by
        obtain ⟨L, l1, l2, l3⟩ := m_mustF y fa
        exact ⟨L, i1.tr l3.hf, l2, l1⟩
      unfold pi_X4_text_33 pi_X4_text_74 pi_X4_text_87
      rw [if_neg (show ¬ zx 49 16 = 0 by rw [fa.1]; decide)]
      by_cases c : zx 49 14 = 0
      · obtain ⟨L, l1, l2, l3⟩ := key 1
        obtain ⟨q1, q2, q3, q4, q5⟩ := fail p L l1 l2
        rw [if_pos c, l3, bv_s, bM_e]
        exact ⟨up L 49 11 0, q1, q2, q3, Or.inr ⟨Or.inl rfl, q5, q4⟩⟩
      · obtain ⟨L, l1, l2, l3⟩ := key 0
        obtain ⟨q1, q2, q3, q4, q5⟩ := fail p L l1 l2
        rw [if_neg c, l3, bv_s, bM_e]
        exact ⟨up L 49 11 0, q1, q2, q3, Or.inr ⟨Or.inl rfl, q5, q4⟩⟩
    · obtain ⟨o1, o2, o3, o4⟩ := i2 x (by rw [hz])
      rw [hz] at o1
      dsimp only at o1
      have k4 := tkK_4 (T := T) (t := t) (s := p)
      have ns : seB T t p = false := by
        unfold coB at hn
        rw [hz] at hn
        simpa using hn
      have e33 : pi_X4_text_33 rec zx = pi_X4_text_74 zx := by
        unfold pi_X4_text_33
        rw [if_pos o1.2]
        by_cases q : tkK T t p = 3
        · have plt : p < t := by
            have q' := q
            unfold tkK at q'
            by_cases z : p < t
            · exact z
            · rw [if_neg z] at q'; omega
          unfold seB at ns
          rw [decide_eq_true q, Bool.true_and, decide_eq_false_iff_not] at ns
          rw [if_pos (show zx 49 14 = 3 by rw [o1.1.2.2.2.2.1, q]; rfl), o1.1.2.2.1, inb_nI (show p < 120 by omega) (by decide), gd_t, nI_clamp (by omega), o1.1.2.2.2.2.2.2 _ (by omega), if_neg ns]
        · rw [if_neg (show ¬ zx 49 14 = 3 from fun z => q (nI_inj (i := tkK T t p) (j := 3) (by omega) (by decide) (o1.1.2.2.2.2.1.symm.trans z)))]
      rw [e33]
      unfold pi_X4_text_74 pi_X4_text_87
      by_cases c : tkK T t p = 0
      · obtain ⟨L, l1, l2, l3⟩ := m_must1 hT o1
        have lF : HF K L := i1.tr l3.hf
        rw [if_pos (show zx 49 14 = 0 by rw [o1.1.2.2.2.2.1, c]; rfl), l1, bv_s, bM_e, if_pos (show up L 49 11 0 49 16 = 0 by rw [up_e, if_neg (by decide)]; exact l2.2)]
        obtain ⟨Q, q1, q2, q3⟩ := m_apply (m := m) (r := fun j => (sqN T t N j).2) (xi := xiJ T t N) (A := up L 49 11 0) hm (by rw [up_e, if_neg (by decide), l3.1 19 (by omega)]; exact o2) (by rw [up_o (by decide), lF.2 50 (by decide) (by decide)]; exact k50) (fun j hj => rfl) hw (fun j hj => by
          rcases hy : (itJ T t N j).2 with _ | y
          · exfalso
            by_cases z : j = m
            · rw [z, hz] at hy; cases hy
            · obtain ⟨p', x', px', -⟩ := co_y (hc j (by omega))
              rw [px'] at hy; cases hy
          · have : xiJ T t N j = y := by unfold xiJ; rw [hy]; rfl
            rw [this]
            exact ((it_pos (T := T) (n := nH (sqN T t N j).2) (sle j hj)).2 y hy).2) (fun j hj => by
          have := o4 j hj
          unfold ItS at this ⊢
          rw [up_o (by decide), l3.2 61 (by decide)]; exact this)
        refine ⟨Q, fun j hj => by rw [q3 49 (by decide), up_e, if_neg (by omega)]; exact lF.1 j hj, fun a n1 n2 n3 => by rw [q3 a n3, up_o n1]; exact lF.2 a n1 n2, by rw [q3 49 (by decide), up_e, if_pos rfl], Or.inl ⟨x, rfl, c, q1, q2⟩⟩
      · obtain ⟨L, l1, l2, l3⟩ := m_must0 o1
        obtain ⟨q1, q2, q3, q4, q5⟩ := fail p L (i1.tr l3.hf) l2
        rw [if_neg (show ¬ zx 49 14 = 0 from fun z => c (nI_inj (i := tkK T t p) (j := 0) (by omega) (by decide) (o1.1.2.2.2.2.1.symm.trans z))), l1, bv_s, bM_e]
        exact ⟨up L 49 11 0, q1, q2, q3, Or.inr ⟨Or.inr c, q5, q4⟩⟩
theorem ap_0 {x : ItT} {P : Nat → Int32} : apI x P 0 = P 0 := by
  unfold apI
  by_cases c : x.1 = 10
  · rw [if_pos c, upd_o (by decide)]
  · rw [if_neg c]
    unfold addN
    rw [upd_o (by decide), upd_o (by omega), upd_o (by omega), upd_o (by omega), upd_o (by omega), upd_o (by omega), upd_o (by omega)]
theorem sq_0 {T : Nat → Int32} {t : Nat} {N : Nat → Int32} : ∀ j, (sqN T t N j).2 0 = N 0 := by
  intro j
  induction j with
  | zero => rfl
  | succ j ih =>
    show apI _ (sqN T t N j).2 0 = N 0
    rw [ap_0, ih]
theorem op_text : OpI (mi_X3_text) (mi_X4_text) := by
  intro c M hc hS
  obtain ⟨hw, hs, htb, ha, hk, hfc, hrd, h4⟩ := id hS.1
  obtain ⟨t, t1, t2, t3, t4⟩ := hrd
  have hT : Tp (M 59) t := ⟨t1, fun j hj => (t4 j hj).2⟩
  have sB : Sim c (up (up M 37 1 0) 49 11 0) := by
    refine sim_tape hS (fun a n1 n2 n3 n4 => by rw [up_o n3, up_o n1]) (by rw [up_e, if_neg (by decide), up_o (by decide)]) ⟨0, by omega, ?_, ?_, fun j hj => ?_⟩
    · rw [up_o (by decide), up_e, if_pos rfl]; rfl
    · rw [up_e, if_pos rfl]; rfl
    · rw [up_o (by decide), up_o (by decide), up_o (by decide), up_o (by decide)]; exact t4 j hj
  obtain ⟨A, a1, a2, a3, a4⟩ := hd_become (b := 13) hs hw (by omega)
  obtain ⟨m, m1, m2, m3⟩ := sq_stop (T := M 59) (t := t) (N := M 50) t1
  obtain ⟨L, l1, l2, l3⟩ := x_into (T := M 59) (t := t) (m := m) (N := M 50) (K := A) t1 (by rw [a4 37 (by omega)]; exact t2) (fun j hj => by rw [a4 38 (by omega)]; exact (t4 j hj).1) a2 a3 hw m1 m2 m3
  have lM : ∀ x, x < 13 ∨ 24 < x → x ≠ 37 → L x = M x := fun x n1 n2 => by rw [l1 x n1 n2, a4 x (by omega)]
  have pb : (itJ (M 59) t (M 50) m).1 ≤ t := (it_pos (sq_b m m2).2).1
  generalize hp : (itJ (M 59) t (M 50) m).1 = p at *
  rcases l3 with ⟨x, x1, x2, x3, x4, x5⟩ | ⟨x1, x2⟩
  · obtain ⟨B, b1, b2, b3, b4⟩ := hd_become (b := 1) (q := 13) x4 x5 (by omega)
    have hX : mi_X3_text M = some (nI (m + 1), up B 37 1 0) := by
      unfold mi_X3_text pi_X3_text_e
      rw [a1, bv_s, x3, bd_s, if_neg (nI_nn (by omega)), b1, bv_s, bM_e]
    have kM : ∀ a, 24 < a → a ≠ 37 → up B 37 1 0 a = M a := fun a n1 n2 => by rw [up_o n2, b4 a (by omega)]; exact lM a (by omega) n2
    obtain ⟨Q, q1, q2, q3, q4⟩ := m_text (T := M 59) (t := t) (m := m) (N := M 50) (K := up B 37 1 0) hT (by rw [kM 49 (by decide) (by decide)]; exact t3) (fun j hj => by rw [kM 59 (by decide) (by decide)]) (kM 50 (by decide) (by decide)) m1 m2 m3 l2
    rcases q4 with ⟨y, y1, y2, y3, y4⟩ | ⟨y1, -⟩
    · refine ⟨nI (m + 1), up B 37 1 0, Q, hX, y3, ?_⟩
      have sr : Sim (c + 1) (fun a => if a = 37 then up (up M 37 1 0) 49 11 0 37 else if a = 49 then up (up M 37 1 0) 49 11 0 49 else Q a) := by
        refine sim_row (P := (sqN (M 59) t (M 50) (m + 1)).2) (K := fun a => if a = 37 then up (up M 37 1 0) 49 11 0 37 else if a = 49 then up (up M 37 1 0) 49 11 0 49 else B a) sB (Nat.le_succ c) (fun a n1 => ?_) (b2.eq (fun a h1 h2 => ?_)) (b3.eq (fun a h1 h2 => ?_)) x5 ⟨by rw [sq_0]; exact ha.1, by rw [sq_0]; have := ha.2; omega⟩ (fun a n1 n2 => ?_) ?_
        · by_cases c7 : a = 37
          · rw [if_pos c7, c7]
          · rw [if_neg c7]
            by_cases c9 : a = 49
            · rw [if_pos c9, c9]
            · rw [if_neg c9, b4 a (by omega), lM a (by omega) c7, up_o c9, up_o c7]
        · rw [if_neg (by omega), if_neg (by omega)]
        · rw [if_neg (by omega), if_neg (by omega)]
        · by_cases c7 : a = 37
          · rw [if_pos c7, if_pos c7]
          · rw [if_neg c7, if_neg c7]
            by_cases c9 : a = 49
            · rw [if_pos c9, if_pos c9]
            · rw [if_neg c9, if_neg c9, q2 a c9 (fun z => n2 (by unfold Scr; omega)) n1, up_o c7]
        · rw [if_neg (by decide), if_neg (by decide)]; exact y4
      refine sr.eq ⟨fun a hr => ?_, ?_, ?_, ?_, ?_⟩
      · dsimp only
        rw [if_neg (by unfold Rel at hr; omega), if_neg (by unfold Rel at hr; omega)]
      · dsimp only
        rw [if_neg (by decide), if_neg (by decide)]
      · dsimp only
        rw [if_pos rfl, up_o (by decide), up_e, if_pos rfl, q2 37 (by decide) (by decide) (by decide), up_e, if_pos rfl]
      · dsimp only
        rw [if_neg (by decide), if_pos rfl, up_e, if_neg (by decide), up_o (by decide), q1 3 (by decide), kM 49 (by decide) (by decide)]
      · dsimp only
        rw [if_neg (by decide), if_pos rfl, up_e, if_pos rfl]; exact q3
    · exfalso
      rcases y1 with z | z
      · rw [x1] at z; cases z
      · exact z (by rw [hp]; exact x2)
  · have tp : (nI p).toInt = p := nI_toInt (by omega)
    have m1' : (-1 : Int32).toInt = -1 := by decide
    have rneg : -1 - nI p < 0 := by
      rw [i_lt, z_sub (by omega) (by omega), tp, m1', show (0 : Int32).toInt = 0 from by decide]; omega
    have hX : mi_X3_text M = some (-1 - nI p, up L 37 1 0) := by
      unfold mi_X3_text pi_X3_text_e
      rw [a1, bv_s, x2, bd_s, if_pos rneg, bM_e]
    have kM : ∀ a, a < 13 ∨ 24 < a → a ≠ 37 → up L 37 1 0 a = M a := fun a n1 n2 => by rw [up_o n2]; exact lM a n1 n2
    obtain ⟨Q, q1, q2, q3, q4⟩ := m_text (T := M 59) (t := t) (m := m) (N := M 50) (K := up L 37 1 0) hT (by rw [kM 49 (by decide) (by decide)]; exact t3) (fun j hj => by rw [kM 59 (by decide) (by decide)]) (kM 50 (by decide) (by decide)) m1 m2 m3 l2
    rcases q4 with ⟨y, y1, y2, -⟩ | ⟨y1, y3, y4⟩
    · exfalso
      rcases x1 with z | z
      · rw [y1] at z; cases z
      · exact z (by rw [← hp]; exact y2)
    · rw [hp] at y3
      refine ⟨-1 - nI p, up L 37 1 0, Q, hX, y3, (sB.eq ⟨fun a hr => ?_, ?_, ?_, ?_, ?_⟩).up⟩
      · by_cases c5 : a = 50
        · rw [c5, y4, up_o (by decide), up_o (by decide)]
        · rw [q2 a (by unfold Rel at hr; omega) (by unfold Rel at hr; omega) c5, kM a (by unfold Rel at hr; omega) (by unfold Rel at hr; omega), up_o (by unfold Rel at hr; omega), up_o (by unfold Rel at hr; omega)]
      · rw [q2 0 (by decide) (by decide) (by decide), kM 0 (by decide) (by decide), up_o (by decide), up_o (by decide)]
      · rw [q2 37 (by decide) (by decide) (by decide), up_e, if_pos rfl, up_o (by decide), up_e, if_pos rfl]
      · rw [q1 3 (by decide), kM 49 (by decide) (by decide), up_e, if_neg (by decide), up_o (by decide)]
      · rw [q3, up_e, if_pos rfl]
