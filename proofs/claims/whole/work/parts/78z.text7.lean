/-! text: all items -/
def sqN (T : Nat → Int32) (t : Nat) (N : Nat → Int32) : Nat → Nat × (Nat → Int32)
  | 0 => (tkS T t 0, N)
  | j + 1 => (nxT T t (itR T t (sqN T t N j).1 (nH (sqN T t N j).2)).1, apI ((itR T t (sqN T t N j).1 (nH (sqN T t N j).2)).2.getD (0, 0, 0, 0, 0)) (sqN T t N j).2)
def itJ (T : Nat → Int32) (t : Nat) (N : Nat → Int32) (j : Nat) : Nat × Option ItT := itR T t (sqN T t N j).1 (nH (sqN T t N j).2)
def xiJ (T : Nat → Int32) (t : Nat) (N : Nat → Int32) (j : Nat) : ItT := (itJ T t N j).2.getD (0, 0, 0, 0, 0)
def coB (T : Nat → Int32) (t : Nat) (N : Nat → Int32) (j : Nat) : Bool := (itJ T t N j).2.isSome && seB T t (itJ T t N j).1
theorem sq_s {T : Nat → Int32} {t : Nat} {N : Nat → Int32} {j p : Nat} {x : ItT} (h : itJ T t N j = (p, some x)) : sqN T t N (j + 1) = (nxT T t p, apI x (sqN T t N j).2) := by
  have h' : itR T t (sqN T t N j).1 (nH (sqN T t N j).2) = (p, some x) := h
  show (nxT T t (itR T t (sqN T t N j).1 (nH (sqN T t N j).2)).1, apI ((itR T t (sqN T t N j).1 (nH (sqN T t N j).2)).2.getD (0, 0, 0, 0, 0)) (sqN T t N j).2) = _
  rw [h']; rfl
theorem se_lt {T : Nat → Int32} {t p : Nat} (h : seB T t p = true) : p < t := by
  unfold seB at h
  rw [Bool.and_eq_true, decide_eq_true_iff] at h
  have q := h.1
  unfold tkK at q
  by_cases c : p < t
  · exact c
  · rw [if_neg c] at q; omega
theorem sq_b {T : Nat → Int32} {t : Nat} {N : Nat → Int32} : ∀ j, (∀ k, k < j → coB T t N k = true) → 2 * j ≤ (sqN T t N j).1 ∧ (sqN T t N j).1 ≤ t := by
  intro j
  induction j with
  | zero => intro _; exact ⟨Nat.zero_le _, (tkS_b (Nat.zero_le t)).2⟩
  | succ j ih =>
    intro h
    obtain ⟨i1, i2⟩ := ih (fun k hk => h k (by omega))
    have hc := h j (by omega)
    unfold coB at hc
    rw [Bool.and_eq_true] at hc
    have lt := se_lt hc.2
    have n1 := nx_lt (T := T) lt
    have n2 := nx_b (T := T) (Nat.le_of_lt lt)
    obtain ⟨x, hx⟩ := Option.isSome_iff_exists.mp hc.1
    have ip := (it_pos (T := T) (n := nH (sqN T t N j).2) i2).2 x hx
    have e : (sqN T t N (j + 1)).1 = nxT T t (itJ T t N j).1 := rfl
    rw [e]
    have ip1 : (sqN T t N j).1 < (itJ T t N j).1 := ip.1
    omega
theorem sq_stop {T : Nat → Int32} {t : Nat} {N : Nat → Int32} (ht : t ≤ 120) : ∃ m, m ≤ 60 ∧ (∀ k, k < m → coB T t N k = true) ∧ coB T t N m = false := by
  cases q : fiN (fun j => !(coB T t N j)) 61 with
  | some m =>
    obtain ⟨q1, q2, q3⟩ := fi_some 61 q
    exact ⟨m, by omega, fun k hk => by simpa using q3 k hk, by simpa using q2⟩
  | none =>
    exfalso
    have q3 := fi_none 61 q
    have := sq_b (T := T) (t := t) (N := N) 61 (fun k hk => by simpa using q3 k hk)
    omega
theorem co_y {T : Nat → Int32} {t : Nat} {N : Nat → Int32} {j : Nat} (h : coB T t N j = true) : ∃ p x, itJ T t N j = (p, some x) ∧ seB T t p = true := by
  unfold coB at h
  rw [Bool.and_eq_true] at h
  obtain ⟨x, hx⟩ := Option.isSome_iff_exists.mp h.1
  exact ⟨(itJ T t N j).1, x, by rw [← hx], h.2⟩
theorem x_into {T : Nat → Int32} {t m : Nat} {N : Nat → Int32} {K : Mem} (ht : t ≤ 120) (k1 : K 37 1 = nI t) (kt : ∀ j, j < 120 → K 38 j = T j) (hs : ShR 13 K N) (hb : TbR 13 K N) (hw : Wf N) (hm : m ≤ 60) (hc : ∀ k, k < m → coB T t N k = true) (hn : coB T t N m = false) : ∃ L : Mem, FrT K L ∧ (∀ i, i ≤ m → Wf (sqN T t N i).2) ∧ ((∃ x, (itJ T t N m).2 = some x ∧ tkK T t (itJ T t N m).1 = 0 ∧ mi_X0_readInto 13 K = some (nI (m + 1), L) ∧ ShR 13 L (sqN T t N (m + 1)).2 ∧ Wf (sqN T t N (m + 1)).2) ∨ (((itJ T t N m).2 = none ∨ tkK T t (itJ T t N m).1 ≠ 0) ∧ mi_X0_readInto 13 K = some (-1 - nI (itJ T t N m).1, L))) := by
  unfold mi_X0_readInto pi_X0_readInto_e
  rw [bM_e]
  obtain ⟨B, b1, b2, b3⟩ := x_adv (T := T) (t := t) (e := 0) (K := up K 37 3 0) ht (Nat.zero_le _) (by rw [up_e, if_neg (by decide)]; exact k1) (by rw [up_e, if_pos rfl]; rfl) (fun j hj => by rw [up_o (by decide)]; exact kt j hj)
  have fB : FrT K B := fun a n1 n2 => by rw [b3 a n2, up_o n2]
  have iB : IX T t (sqN T t N 0).1 (sqN T t N 0).2 B := ⟨b2, hs.eq (fun a h1 h2 => by rw [b3 a (by omega), up_o (by omega)]), hb.eq (fun a h1 h2 => by rw [b3 a (by omega), up_o (by omega)])⟩
  rw [b1, bv_s]
  refine lp_inv (I := fun j (zx : Int32 × Mem) => zx.1 = nI (j + 1) ∧ IX T t (sqN T t N j).1 (sqN T t N j).2 zx.2 ∧ FrT K zx.2 ∧ ∀ i, i ≤ j → Wf (sqN T t N i).2) (Post := fun (zo : Option (Int32 × Mem)) => ∃ L : Mem, FrT K L ∧ (∀ i, i ≤ m → Wf (sqN T t N i).2) ∧ ((∃ x, (itJ T t N m).2 = some x ∧ tkK T t (itJ T t N m).1 = 0 ∧ zo = some (nI (m + 1), L) ∧ ShR 13 L (sqN T t N (m + 1)).2 ∧ Wf (sqN T t N (m + 1)).2) ∨ (((itJ T t N m).2 = none ∨ tkK T t (itJ T t N m).1 ≠ 0) ∧ zo = some (-1 - nI (itJ T t N m).1, L)))) m ?_ ?_ FU (FU_le (by omega)) (1, B) ⟨rfl, iB, fB, fun i hi => by
    have : i = 0 := by omega
    subst this
    exact hw⟩
  · rintro j hj ⟨v, A⟩ ⟨i1, i2, i3, i4⟩ rec
    dsimp only at i1 i2 i3 i4
    obtain ⟨p, x, px, ps⟩ := co_y (hc j hj)
    have px' : itR T t (sqN T t N j).1 (nH (sqN T t N j).2) = (p, some x) := px
    obtain ⟨L, l1, l2⟩ := x_item ht i2 (i4 j (Nat.le_refl _))
    rcases l2 with ⟨p', x', z1, z2, z3, z4⟩ | ⟨p', z1, z2, z3⟩
    · rw [px'] at z1
      cases z1
      obtain ⟨Q, q1, q2, q3⟩ := z3.nx ht
      have e := sq_s px
      refine ⟨(nI (j + 1 + 1), Q), ⟨rfl, by rw [e]; exact q2, (i3.tr l1).tr q3, fun i hi => ?_⟩, ?_⟩
      · by_cases c : i = j + 1
        · rw [c, e]; exact z4
        · exact i4 i (by omega)
      · show pi_X0_readInto_11 13 rec v A = _
        have k3 : L 37 4 = 3 := (z3.1.k (c := 3) (by decide)).mpr (k5_3.mpr ps)
        unfold pi_X0_readInto_11
        rw [i1, show (120 : Int32) = nI 120 from rfl, if_neg (x_gt (show j + 1 ≤ 120 by omega) (by decide)), z2, bd_s, if_neg (show ¬ (1 : Int32) = 0 by decide), k3, if_neg (show ¬ (3 : Int32) = 0 by decide), if_pos rfl, q1, bv_s, bI_e, nI_1]
    · rw [px'] at z1
      cases z1
  · rintro ⟨v, A⟩ ⟨i1, i2, i3, i4⟩ rec
    dsimp only at i1 i2 i3 i4
    obtain ⟨L, l1, l2⟩ := x_item ht i2 (i4 m (Nat.le_refl _))
    show ∃ L : Mem, FrT K L ∧ (∀ i, i ≤ m → Wf (sqN T t N i).2) ∧ ((∃ x, (itJ T t N m).2 = some x ∧ tkK T t (itJ T t N m).1 = 0 ∧ pi_X0_readInto_11 13 rec v A = some (nI (m + 1), L) ∧ ShR 13 L (sqN T t N (m + 1)).2 ∧ Wf (sqN T t N (m + 1)).2) ∨ (((itJ T t N m).2 = none ∨ tkK T t (itJ T t N m).1 ≠ 0) ∧ pi_X0_readInto_11 13 rec v A = some (-1 - nI (itJ T t N m).1, L)))
    refine ⟨L, i3.tr l1, i4, ?_⟩
    unfold pi_X0_readInto_11
    rw [i1, show (120 : Int32) = nI 120 from rfl, if_neg (x_gt (show m + 1 ≤ 120 by omega) (by decide))]
    rcases l2 with ⟨p, x, z1, z2, z3, z4⟩ | ⟨p, z1, z2, z3⟩
    · have z1' : itJ T t N m = (p, some x) := z1
      have e := sq_s z1'
      have ns : ¬ seB T t p = true := fun z => by
        unfold coB at hn
        rw [z1', z] at hn
        cases hn
      have k0 : L 37 4 = 0 ↔ tkK T t p = 0 := (z3.1.k (c := 0) (by decide)).trans (k5_lo (by decide))
      have k3 : L 37 4 = 3 ↔ seB T t p = true := (z3.1.k (c := 3) (by decide)).trans k5_3
      rw [z2, bd_s, if_neg (show ¬ (1 : Int32) = 0 by decide), z1']
      by_cases c : tkK T t p = 0
      · rw [if_pos (k0.mpr c)]
        exact Or.inl ⟨x, rfl, c, rfl, by rw [e]; exact z3.2.1, by rw [e]; exact z4⟩
      · rw [if_neg (fun z => c (k0.mp z)), if_neg (fun z => ns (k3.mp z)), z3.1.2.2.1]
        exact Or.inr ⟨Or.inr c, rfl⟩
    · have z1' : itJ T t N m = (p, none) := z1
      rw [z2, bd_s, if_pos rfl, z3, z1']
      exact Or.inr ⟨Or.inl rfl, rfl⟩
theorem nH_ap {x : ItT} {P : Nat → Int32} (h : x.1 = 10 ∨ nH P < 8) : nH (apI x P) = nH P + (if x.1 = 10 then 0 else 1) := by
  unfold apI
  by_cases c : x.1 = 10
  · rw [if_pos c, if_pos c]; exact nH_upd (by decide)
  · rw [if_neg c, if_neg c]
    rcases h with z | z
    · exact absurd z c
    · exact nH_add z
def RM (T : Nat → Int32) (t : Nat) (N : Nat → Int32) (K : Mem) (j : Nat) (A : Mem) : Prop := HF K A ∧ (∀ x, (itJ T t N j).2 = some x → OKM T t (itJ T t N j).1 A ∧ A 49 19 = nI (j + 1) ∧ A 49 20 = nI (nH (sqN T t N (j + 1)).2) ∧ ∀ i, i ≤ j → ItS (xiJ T t N i) A i) ∧ ((itJ T t N j).2 = none → FAM (itJ T t N j).1 A)
theorem rm_next {T : Nat → Int32} {t j : Nat} {N : Nat → Int32} {K A : Mem} (hT : Tp T t) (hj : j ≤ 60) (hs : (sqN T t N j).1 ≤ t) (hw : Wf (sqN T t N j).2) (hF : HF K A) (hO : OKM T t (sqN T t N j).1 A) (h9 : A 49 19 = nI j) (h20 : A 49 20 = nI (nH (sqN T t N j).2)) (hi : ∀ i, i < j → ItS (xiJ T t N i) A i) : ∃ L : Mem, mi_X4_readItem A = some L ∧ RM T t N K j L := by
  obtain ⟨L, l1, l2, l3⟩ := m_item hT hO (show j ≤ 119 by omega) h9 hw.2.1 h20
  refine ⟨L, l2, hF.tr l1, fun x hx => ?_, fun hx => ?_⟩
  · rcases l3 with ⟨p, x', z1, z2, z3, z4, z5, z6⟩ | ⟨p, z1, z2⟩
    · have z1' : itJ T t N j = (p, some x') := z1
      rw [z1'] at hx ⊢
      injection hx with hx
      subst hx
      have ip := ((it_pos (T := T) (n := nH (sqN T t N j).2) hs).2 x' (by rw [z1])).2
      refine ⟨z2, z3, by rw [sq_s z1', nH_ap ip]; exact z4, fun i hle => ?_⟩
      by_cases c : i = j
      · subst c
        have : xiJ T t N i = x' := by unfold xiJ; rw [z1']; rfl
        rw [this]; exact z5
      · obtain ⟨y0, y1, y2, y3, y4⟩ := hi i (by omega)
        exact ⟨by rw [z6 _ (by omega)]; exact y0, by rw [z6 _ (by omega)]; exact y1, by rw [z6 _ (by omega)]; exact y2, by rw [z6 _ (by omega)]; exact y3, by rw [z6 _ (by omega)]; exact y4⟩
    · have z1' : itJ T t N j = (p, none) := z1
      rw [z1'] at hx
      cases hx
  · rcases l3 with ⟨p, x', z1, -⟩ | ⟨p, z1, z2⟩
    · have z1' : itJ T t N j = (p, some x') := z1
      rw [z1'] at hx
      cases hx
    · have z1' : itJ T t N j = (p, none) := z1
      rw [z1']; exact z2
theorem m_apply {m : Nat} {r : Nat → Nat → Int32} {xi : Nat → ItT} {A : Mem} (hm : m ≤ 60) (h9 : A 49 19 = nI (m + 1)) (h0 : A 50 = r 0) (hr : ∀ j, j ≤ m → r (j + 1) = apI (xi j) (r j)) (hw : ∀ j, j ≤ m → Wf (r j)) (hv : ∀ j, j ≤ m → (xi j).1 = 10 ∨ nH (r j) < 8) (hi : ∀ j, j ≤ m → ItS (xi j) A j) : ∃ Q : Mem, lp (fun rc113 x => pi_X4_text_113 rc113 x.1 x.2.1 x.2.2) FU (0, 0, A) = some (nI (m + 1), Q) ∧ Q 50 = r (m + 1) ∧ ∀ a, a ≠ 50 → Q a = A a := by
  refine lp_inv (I := fun j (zx : Int32 × Int32 × Mem) => zx.1 = nI j ∧ zx.2.1 = nI j ∧ zx.2.2 50 = r j ∧ ∀ a, a ≠ 50 → zx.2.2 a = A a) (Post := fun (zo : Option (Int32 × Mem)) => ∃ Q : Mem, zo = some (nI (m + 1), Q) ∧ Q 50 = r (m + 1) ∧ ∀ a, a ≠ 50 → Q a = A a) (m + 1) ?_ ?_ FU (FU_le (by omega)) (0, 0, A) ⟨rfl, rfl, h0, fun _ _ => rfl⟩
  · rintro j hj ⟨x1, x2, B⟩ ⟨i1, i2, i3, i4⟩ rec
    dsimp only at i1 i2 i3 i4
    obtain ⟨y0, y1, y2, y3, y4⟩ := hi j (by omega)
    have b61 : B 61 = A 61 := i4 61 (by decide)
    have key : ∃ (u : Nat) (C : Mem), u < 1000 ∧ mi_X4_isToldSo (nI (5 * j)) B = some (nI u, C) ∧ C 50 = r (j + 1) ∧ ∀ a, a ≠ 50 → C a = A a := by
      unfold mi_X4_isToldSo pi_X4_isToldSo_e
      rw [show (1 : Int32) = nI 1 from rfl, show (2 : Int32) = nI 2 from rfl, show (3 : Int32) = nI 3 from rfl, show (4 : Int32) = nI 4 from rfl, nI_add, nI_add, nI_add, nI_add, inb_nI (show 5 * j + 1 < 600 by omega) (by decide), inb_nI (show 5 * j < 600 by omega) (by decide), inb_nI (show 5 * j + 2 < 600 by omega) (by decide), inb_nI (show 5 * j + 3 < 600 by omega) (by decide), inb_nI (show 5 * j + 4 < 600 by omega) (by decide), gd_t, bI_e, gd_t, nI_clamp (show 5 * j < 2 ^ 31 by omega), nI_clamp (show 5 * j + 1 < 2 ^ 31 by omega), nI_clamp (show 5 * j + 2 < 2 ^ 31 by omega), nI_clamp (show 5 * j + 3 < 2 ^ 31 by omega), nI_clamp (show 5 * j + 4 < 2 ^ 31 by omega), b61, y0, y1, y2, y3, y4]
      rw [hr j (by omega)]
      unfold apI
      by_cases c : (xi j).1 = 10
      · rw [if_pos c, if_pos c, md_become (j := 3) _ (by decide), bd_s, i3]
        obtain ⟨u, u1, u2⟩ := inb_of (hw j (by omega)).2.2.1 (by decide)
        refine ⟨u, _, by omega, by rw [u2], by rw [up_s, i3], fun a ha => by rw [up_o ha]; exact i4 a ha⟩
      · have n8 : nH (B 50) < 8 := by
          rw [i3]
          rcases hv j (by omega) with z | z
          · exact absurd z c
          · exact z
        obtain ⟨C, c1, c2, c3⟩ := md_comes (M := B) (xi j).1 (xi j).2.1 (xi j).2.2.1 (xi j).2.2.2.1 (xi j).2.2.2.2 (by rw [i3]; exact hw j (by omega)) n8
        rw [if_neg c, if_neg c, gd_t, gd_t, gd_t, gd_t, c1, bd_s]
        exact ⟨nH (B 50), C, by omega, rfl, by rw [c2, i3], fun a ha => by rw [c3 a ha]; exact i4 a ha⟩
    obtain ⟨u, C, u1, u2, u3, u4⟩ := key
    refine ⟨(nI (j + 1), nI (j + 1), C), ⟨rfl, rfl, u3, u4⟩, ?_⟩
    show pi_X4_text_113 rec x1 x2 B = _
    unfold pi_X4_text_113
    rw [i4 49 (by decide), h9, i1, i2, if_neg (nI_ge hj (by omega)), five (by omega), u2, bd_s, if_pos (nlt_le.mp (nI_nn (by omega))), bI_e, bI_e, nI_1]
  · rintro ⟨x1, x2, B⟩ ⟨i1, i2, i3, i4⟩ rec
    dsimp only at i1 i2 i3 i4
    refine ⟨B, ?_, i3, i4⟩
    show pi_X4_text_113 rec x1 x2 B = _
    unfold pi_X4_text_113
    rw [i4 49 (by decide), h9, i1, i2, if_pos (Int32.le_refl _)]
