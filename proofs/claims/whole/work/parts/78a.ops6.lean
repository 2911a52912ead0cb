/-! many ages, and the trials: the class ages a copy, the reference ages the row and puts it back -/
def itN (N : Nat → Int32) : Nat → Nat → Int32
  | 0 => N
  | k + 1 => ageN (itN N k)
theorem nH_it {N : Nat → Int32} : ∀ k, nH (itN N k) = nH N := by
  intro k
  induction k with
  | zero => rfl
  | succ k ih => exact nH_age.trans ih
theorem it_Wf {N : Nat → Int32} (hw : Wf N) : ∀ k, Wf (itN N k) := by
  intro k
  induction k with
  | zero => exact hw
  | succ k ih => exact age_Wf ih
theorem it_age {N : Nat → Int32} (h0 : 0 ≤ (N 0).toInt) : ∀ k : Nat, (N 0).toInt + k ≤ 99999 → (itN N k 0).toInt = (N 0).toInt + k := by
  intro k
  induction k with
  | zero => intro _; show (N 0).toInt = _; omega
  | succ k ih =>
    intro h
    have i1 := ih (by omega)
    show (itN N k 0 + 1).toInt = _
    have e1 : (1 : Int32).toInt = 1 := by decide
    rw [z_add (by omega) (by omega), i1, e1]; omega
theorem age_high {N : Nat → Int32} (h8 : nH N ≤ 8) {j : Nat} (hj : 62 ≤ j) : ageN N j = N j := by
  unfold ageN
  rw [if_neg (by omega), if_neg (by omega)]
theorem it_high {N : Nat → Int32} (h8 : nH N ≤ 8) {j : Nat} (hj : 62 ≤ j) : ∀ k, itN N k j = N j := by
  intro k
  induction k with
  | zero => rfl
  | succ k ih =>
    show ageN (itN N k) j = _
    rw [age_high (by rw [nH_it]; exact h8) hj, ih]
theorem hd_ages1 {b n : Nat} {M : Mem} {N : Nat → Int32} (hs : ShR b M N) (ht : TbR b M N) (hw : Wf N) (h0 : 0 ≤ (N 0).toInt) (hb : (N 0).toInt + n ≤ 99999) (hn : n ≤ 900) : ∃ K : Mem, mi_X2_passAges b (nI n) M = some K ∧ ShR b K (itN N n) ∧ TbR b K (itN N n) ∧ Fr b M K := by
  unfold mi_X2_passAges pi_X2_passAges_e
  refine lp_inv (I := fun j (zx : Int32 × Mem) => zx.1 = nI j ∧ ShR b zx.2 (itN N j) ∧ TbR b zx.2 (itN N j) ∧ Fr b M zx.2) (Post := fun (zo : Option Mem) => ∃ K : Mem, zo = some K ∧ ShR b K (itN N n) ∧ TbR b K (itN N n) ∧ Fr b M K) n ?_ ?_ FU (FU_le (by omega)) (0, M) ⟨rfl, hs, ht, Fr.rf⟩
  · rintro j hj ⟨x, K⟩ ⟨i1, i2, i3, i4⟩ rec
    dsimp only at i1 i2 i3 i4
    have ia := it_age h0 j (by omega)
    obtain ⟨L, l1, l2, l3, l4⟩ := hd_age i2 i3 (it_Wf hw j) (by omega) (by omega)
    refine ⟨(nI (j + 1), L), ⟨rfl, l2, l3, i4.tr l4⟩, ?_⟩
    show pi_X2_passAges_2 b (nI n) rec x K = _
    unfold pi_X2_passAges_2
    rw [i1, if_neg (nI_ge hj (by omega)), l1, bv_s, bI_e, nI_1]
  · rintro ⟨x, K⟩ ⟨i1, i2, i3, i4⟩ rec
    dsimp only at i1 i2 i3 i4
    refine ⟨K, ?_, i2, i3, i4⟩
    show pi_X2_passAges_2 b (nI n) rec x K = _
    unfold pi_X2_passAges_2
    rw [i1, if_pos (Int32.le_refl _)]
/-- the reference on trial: base memory, how many ages, where it is -/
def TrI (M : Mem) (k : Nat) (A : Mem) : Prop := A 50 = itN (M 50) k ∧ (∀ j, j < 62 → A 52 j = M 50 j) ∧ ∀ a, a ≠ 50 → a ≠ 52 → ¬ Sc a → A a = M a
theorem tr_go (M : Mem) : ∃ A : Mem, mi_X4_copyRow 50 62 52 62 M = some A ∧ TrI M 0 A := by
  obtain ⟨A, a1, a2, a3, a4⟩ := md_copy (x := 50) (y := 52) M (by decide)
  exact ⟨A, a1, a4 50 (by decide), a2, fun a _ n2 _ => a4 a n2⟩
theorem TrI.wf {M A : Mem} {k : Nat} (h : TrI M k A) (hw : Wf (M 50)) : Wf (A 50) := by rw [h.1]; exact it_Wf hw k
theorem TrI.fc {M A : Mem} {k : Nat} (h : TrI M k A) (hf : Fc M) : Fc A := by
  intro j hj
  rw [h.2.2 54 (by decide) (by decide) (by unfold Sc; omega)]; exact hf j hj
theorem tr_age {M A : Mem} {k : Nat} (h : TrI M k A) (hw : Wf (M 50)) (hf : Fc M) : ∃ B : Mem, mi_X4_age A = some B ∧ TrI M (k + 1) B := by
  obtain ⟨B, b1, b2, b3⟩ := md_age (h.wf hw) (h.fc hf)
  refine ⟨B, b1, by rw [b2, h.1]; rfl, fun j hj => by rw [b3 52 (by unfold Sc; omega) (by decide)]; exact h.2.1 j hj, fun a n1 n2 n3 => by rw [b3 a n3 n1]; exact h.2.2 a n1 n2 n3⟩
theorem md_ages1 {M A : Mem} {k n : Nat} (h : TrI M k A) (hw : Wf (M 50)) (hf : Fc M) (hn : n ≤ 900) : ∃ B : Mem, mi_X4_ages (nI n) A = some B ∧ TrI M (k + n) B := by
  unfold mi_X4_ages pi_X4_ages_e
  refine lp_inv (I := fun j (zx : Int32 × Mem) => zx.1 = nI j ∧ TrI M (k + j) zx.2) (Post := fun (zo : Option Mem) => ∃ B : Mem, zo = some B ∧ TrI M (k + n) B) n ?_ ?_ FU (FU_le (by omega)) (0, A) ⟨rfl, h⟩
  · rintro j hj ⟨x, K⟩ ⟨i1, i2⟩ rec
    dsimp only at i1 i2
    obtain ⟨L, l1, l2⟩ := tr_age i2 hw hf
    refine ⟨(nI (j + 1), L), ⟨rfl, l2⟩, ?_⟩
    show pi_X4_ages_2 (nI n) rec x K = _
    unfold pi_X4_ages_2
    rw [i1, if_neg (nI_ge hj (by omega)), l1, bv_s, bI_e, nI_1]
  · rintro ⟨x, K⟩ ⟨i1, i2⟩ rec
    dsimp only at i1 i2
    refine ⟨K, ?_, i2⟩
    show pi_X4_ages_2 (nI n) rec x K = _
    unfold pi_X4_ages_2
    rw [i1, if_pos (Int32.le_refl _)]
/-- only cells of the reference's own scratch have changed -/
def Bk (M Q : Mem) : Prop := ∀ a, a ≠ 52 → ¬ Sc a → Q a = M a
theorem Bk.eqv {M Q : Mem} (h : Bk M Q) : Eqv M Q := Eqv.of (fun a _ n1 n2 n3 n4 n5 _ _ => h a n1 (by unfold Sc; omega))
theorem tr_back {M A : Mem} {k : Nat} (v : Int32) (h : TrI M k A) (hw : Wf (M 50)) : ∃ Q : Mem, mi_X4_putBack v A = some (v, Q) ∧ Bk M Q := by
  obtain ⟨Q, q1, q2, q3, q4⟩ := md_copy (x := 52) (y := 50) A (by decide)
  refine ⟨Q, ?_, fun a n1 n2 => ?_⟩
  · unfold mi_X4_putBack pi_X4_putBack_e
    rw [q1, bv_s]
  · by_cases c : a = 50
    · subst c
      refine row_eq (fun j hj => by rw [q2 j hj]; exact h.2.1 j hj) (fun j hj => ?_)
      rw [q3 j hj, h.1, it_high hw.2.1 hj]
    · rw [q4 a c]; exact h.2.2 a c n1 n2
/-- the class on trial -/
def TrX (N : Nat → Int32) (M : Mem) (k : Nat) (K : Mem) : Prop := ShR 13 K (itN N k) ∧ TbR 13 K (itN N k) ∧ Fr 13 M K
theorem tx_go {M : Mem} {N : Nat → Int32} (hs : ShR 1 M N) (hw : Wf N) : ∃ K : Mem, mi_X2_become 13 1 M = some K ∧ TrX N M 0 K := by
  obtain ⟨K, k1, k2, k3, k4⟩ := hd_become (b := 13) hs hw (by omega)
  exact ⟨K, k1, k2, k3, k4⟩
theorem tx_age {N : Nat → Int32} {M K : Mem} {k : Nat} (h : TrX N M k K) (hw : Wf N) (h0 : 0 ≤ (N 0).toInt) (hb : (N 0).toInt + k < 99999) : ∃ L : Mem, mi_X2_passAge 13 K = some L ∧ TrX N M (k + 1) L := by
  have ia := it_age h0 k (by omega)
  obtain ⟨L, l1, l2, l3, l4⟩ := hd_age h.1 h.2.1 (it_Wf hw k) (by omega) (by omega)
  exact ⟨L, l1, l2, l3, h.2.2.tr l4⟩
theorem tx_ages {N : Nat → Int32} {M K : Mem} {n : Nat} (h : TrX N M 0 K) (hw : Wf N) (h0 : 0 ≤ (N 0).toInt) (hb : (N 0).toInt + n ≤ 99999) (hn : n ≤ 900) : ∃ L : Mem, mi_X2_passAges 13 (nI n) K = some L ∧ TrX N M n L := by
  obtain ⟨L, l1, l2, l3, l4⟩ := hd_ages1 h.1 h.2.1 hw h0 hb hn
  exact ⟨L, l1, l2, l3, h.2.2.tr l4⟩
theorem Fr.eqv {M K : Mem} (h : Fr 13 M K) : Eqv M K := Eqv.of (fun a h1 _ _ _ _ _ _ _ => h a (by omega))
theorem AgB.b {c : Nat} {N : Nat → Int32} (h : AgB c N) (hc : c < 512) : 0 ≤ (N 0).toInt ∧ (N 0).toInt + 1000 ≤ 99999 := ⟨h.1, by have := h.2; omega⟩
theorem op_go (v : Int32) : OpI (mi_X3_go v) (mi_X4_go v) := by
  intro c M hc hS
  obtain ⟨hw, hs, ht, ha, hk, hfc, -⟩ := id hS.1
  have h8 := hw.2.1
  have hab := ha.b hc
  cases hv : inR v 1 60 with
  | false =>
    refine op_find 0 (by decide) hS ?_ (fun K hK => ?_)
    · unfold mi_X3_go pi_X3_go_e
      rw [x_out, bd_s, hv, if01, if_f]; exact fx_ 0 0 rfl M
    · unfold mi_X4_go pi_X4_go_e
      rw [m_in, bd_s, hv, if10, if_f]; exact fm_ 0 _ low0.symm K
  | true =>
  obtain ⟨n, hn, rfl⟩ : ∃ n : Nat, n < 61 ∧ v = nI n := by
    have h1 := inR_iff.mp hv
    have h2 : (1 : Int32).toInt = 1 := by decide
    have h3 : (60 : Int32).toInt = 60 := by decide
    exact inb_of (inb_iff.mpr (by omega)) (by decide)
  have en : (nI n).toInt = n := nI_toInt (by omega)
  have e9 : (99999 : Int32).toInt = 99999 := by decide
  have cx : M 50 0 ≤ 99999 - nI n := by rw [i_le, z_sub (by omega) (by omega), en, e9]; omega
  have cm : M 50 0 + nI n ≤ 99999 := by rw [i_le, z_add (by omega) (by omega), en, e9]; omega
  obtain ⟨K, k1, k2, k3, k4⟩ := hd_ages1 (n := n) hs ht hw hab.1 (by omega) (by omega)
  have k50 : K 50 = M 50 := k4 50 (by omega)
  have kf : Fc K := fun j hj => by rw [k4 54 (by omega)]; exact hfc j hj
  obtain ⟨Q, q1, q2⟩ : ∃ Q : Mem, mi_X4_ages (nI n) K = some Q ∧ Q 50 = itN (M 50) n ∧ ∀ a, a ≠ 50 → ¬ Sc a → Q a = K a := by
    unfold mi_X4_ages pi_X4_ages_e
    refine lp_inv (I := fun j (zx : Int32 × Mem) => zx.1 = nI j ∧ zx.2 50 = itN (M 50) j ∧ ∀ a, a ≠ 50 → ¬ Sc a → zx.2 a = K a) (Post := fun (zo : Option Mem) => ∃ B : Mem, zo = some B ∧ B 50 = itN (M 50) n ∧ ∀ a, a ≠ 50 → ¬ Sc a → B a = K a) n ?_ ?_ FU (FU_le (by omega)) (0, K) ⟨rfl, k50, fun _ _ _ => rfl⟩
    · rintro j hj ⟨x, L⟩ ⟨i1, i2, i3⟩ rec
      dsimp only at i1 i2 i3
      obtain ⟨B, b1, b2, b3⟩ := md_age (M := L) (by rw [i2]; exact it_Wf hw j) (fun z hz => by rw [i3 54 (by decide) (by unfold Sc; omega)]; exact kf z hz)
      refine ⟨(nI (j + 1), B), ⟨rfl, by dsimp only; rw [b2, i2]; rfl, fun a n1 n2 => by dsimp only; rw [b3 a n2 n1]; exact i3 a n1 n2⟩, ?_⟩
      show pi_X4_ages_2 (nI n) rec x L = _
      unfold pi_X4_ages_2
      rw [i1, if_neg (nI_ge hj (by omega)), b1, bv_s, bI_e, nI_1]
    · rintro ⟨x, L⟩ ⟨i1, i2, i3⟩ rec
      dsimp only at i1 i2 i3
      refine ⟨L, ?_, i2, i3⟩
      show pi_X4_ages_2 (nI n) rec x L = _
      unfold pi_X4_ages_2
      rw [i1, if_pos (Int32.le_refl _)]
  have wn := it_Wf hw n
  have ia := it_age hab.1 n (by omega)
  have qf : Fc Q := fun j hj => by rw [q2.2 54 (by decide) (by unfold Sc; omega)]; exact kf j hj
  refine ⟨pc (whoN (itN (M 50) n)), K, Q, ?_, ?_, ?_⟩
  · unfold mi_X3_go pi_X3_go_e
    rw [x_out, bd_s, hv, if01, if_t, hs.2.1, if_pos cx, k1, bv_s, hd_who k2 k3 wn, bd_s]
    unfold whoN
    rw [hd_bc_set (by have := wn.2.1; omega), bd_s]
  · unfold mi_X4_go pi_X4_go_e
    rw [m_in, bd_s, hv, if10, if_t, in0_62, gd_t, tN0, k50, if_pos cm, q1, bv_s, md_who (by rw [q2.1]; exact wn) qf, bd_s, q2.1]
    unfold whoN
    rw [md_bits_set (by have := wn.2.1; omega), bd_s]
  · refine sim_row hS (Nat.le_succ c) (fun a h => k4 a (by omega)) k2 k3 wn ⟨by omega, ?_⟩ (fun a h1 h2 => q2.2 a h1 (fun z => h2 (by unfold Sc at z; unfold Scr; omega))) q2.1
    have := ha.2
    rw [ia]; omega
def fo (w : Int32) : Bool := decide (w = 1) || inR w 3 6
theorem x_fore (w : Int32) (M : Mem) : mi_X3_isForetold w M = some (if fo w = true then 1 else 0, M) := by
  unfold mi_X3_isForetold pi_X3_isForetold_e fo
  rw [x_out, bd_s, isB0, isB1, gd_t, gd_t]
  by_cases h : w = 1
  · rw [if_pos h, decide_eq_true h]; rfl
  · rw [if_neg h, decide_eq_false h, if01, Bool.false_or]
    cases inR w 3 6 <;> rfl
theorem inR100 {v : Int32} : inR v 0 100 = inb v 101 := inR_inb (k := 100) (by decide)
theorem op_ahead (v w x : Int32) : OpI (mi_X3_ahead v w x) (mi_X4_ahead v w x) := by
  intro c M hc hS
  obtain ⟨hw, hs, ht, ha, hk, hfc, -⟩ := id hS.1
  have h8 := hw.2.1
  have hab := ha.b hc
  cases hv : inb v (nH (M 50)) with
  | false =>
    refine op_find 0 (by decide) hS ?_ (fun K hK => ?_)
    · unfold mi_X3_ahead pi_X3_ahead_e
      rw [x_lacks v hs hw, bd_s, hv, if01, if_f]; exact fx_ 0 0 rfl M
    · have k50 : K 50 = M 50 := hK 50 (by decide)
      unfold mi_X4_ahead pi_X4_ahead_e
      rw [m_hill v (by rw [k50]; exact hw), bd_s, k50, hv, if10, if_f]; exact fm_ 0 _ low0.symm K
  | true =>
  have hM : ∀ K : Mem, K 50 = M 50 → mi_X4_ahead v w x K = if fo w = true then pi_X4_ahead_23 v w x K else mi_X4_finding (lowI 0) K := by
    intro K k50
    unfold mi_X4_ahead pi_X4_ahead_e fo
    rw [m_hill v (by rw [k50]; exact hw), bd_s, k50, hv, if10, if_t]
    by_cases h : w = 1
    · rw [if_pos h, decide_eq_true h]; rfl
    · rw [if_neg h, decide_eq_false h, m_in, bd_s, if10, Bool.false_or, show pi_X4_ahead_33 v w x K = mi_X4_finding (lowI 0) K from fm_ 0 _ low0.symm K]
  cases hf : fo w with
  | false =>
    refine op_find 0 (by decide) hS ?_ (fun K hK => ?_)
    · unfold mi_X3_ahead pi_X3_ahead_e
      rw [x_lacks v hs hw, bd_s, hv, if01, if_t, x_fore, bd_s, hf, if10, if_f]; exact fx_ 0 0 rfl M
    · rw [hM K (hK 50 (by decide)), hf, if_f]
  | true =>
  cases hx : inb x 101 with
  | false =>
    refine op_find 0 (by decide) hS ?_ (fun K hK => ?_)
    · unfold mi_X3_ahead pi_X3_ahead_e
      rw [x_lacks v hs hw, bd_s, hv, if01, if_t, x_fore, bd_s, hf, if10, if_t, x_out, bd_s, inR100, hx, if01, if_f]; exact fx_ 0 0 rfl M
    · rw [hM K (hK 50 (by decide)), hf, if_t]
      unfold pi_X4_ahead_23
      rw [m_in, bd_s, inR100, hx, if10, if_f]; exact fm_ 0 _ low0.symm K
  | true =>
  obtain ⟨h, hh, rfl⟩ := inb_of hv (by omega)
  obtain ⟨n, hn, rfl⟩ := inb_of hx (by decide)
  obtain ⟨f, hlt, rfl⟩ : ∃ f : Nat, (f = 1 ∨ f = 3 ∨ f = 4 ∨ f = 5 ∨ f = 6) ∧ w = nI f := by
    unfold fo at hf
    rw [Bool.or_eq_true, decide_eq_true_iff] at hf
    rcases hf with hf | hf
    · exact ⟨1, Or.inl rfl, hf⟩
    · have h1 := inR_iff.mp hf
      have h2 : (3 : Int32).toInt = 3 := by decide
      have h3 : (6 : Int32).toInt = 6 := by decide
      obtain ⟨f, f1, f2⟩ := inb_of (n := 7) (v := w) (inb_iff.mpr (by omega)) (by decide)
      subst f2
      rw [nI_toInt (by omega)] at h1
      exact ⟨f, by omega, rfl⟩
  obtain ⟨K, k1, k2⟩ := tx_go hs hw
  obtain ⟨L, l1, l2⟩ := tx_ages (n := n) k2 hw hab.1 (by omega) (by omega)
  have l50 : L 50 = M 50 := l2.2.2 50 (by omega)
  have lw : Wf (L 50) := by rw [l50]; exact hw
  have lf : Fc L := fun j hj => by rw [l2.2.2 54 (by omega)]; exact hfc j hj
  obtain ⟨A, a1, a2⟩ := tr_go L
  obtain ⟨B, b1, b2⟩ := md_ages1 (n := n) a2 lw lf (by omega)
  rw [Nat.zero_add] at b2
  have b50 : B 50 = itN (M 50) n := by rw [b2.1, l50]
  have wn := it_Wf hw n
  have nn : nH (itN (M 50) n) = nH (M 50) := nH_it n
  have key : ∀ r : Int32, mi_X2_trait 13 (nI h) (nI f) L = some (r, L) → (if nI f = 6 then (bd (mi_X4_facesOf (nI h) B) fun r_10 M_9 => pi_X4_ahead_77 (nI h) (nI f) (nI n) r_10 M_9) else (bd (mi_X4_hillIs (nI h) (nI f) B) fun r_14 M_13 => pi_X4_ahead_77 (nI h) (nI f) (nI n) r_14 M_13)) = pi_X4_ahead_77 (nI h) (nI f) (nI n) r B → ∃ (r : Int32) (K Q : Mem), mi_X3_ahead (nI h) (nI f) (nI n) M = some (r, K) ∧ mi_X4_ahead (nI h) (nI f) (nI n) K = some (r, Q) ∧ Sim (c + 1) Q := by
    intro r e1 e2
    obtain ⟨Q, q1, q2⟩ := tr_back r b2 lw
    refine op_ask hS (r := r) (K := L) ?_ l2.2.2.eqv ⟨Q, ?_, q2.eqv⟩
    · unfold mi_X3_ahead pi_X3_ahead_e
      rw [x_lacks _ hs hw, bd_s, hv, if01, if_t, x_fore, bd_s, hf, if10, if_t, x_out, bd_s, inR100, hx, if01, if_t, k1, bv_s, l1, bv_s, e1, bd_s]
    · rw [hM L l50, hf, if_t]
      unfold pi_X4_ahead_23
      rw [m_in, bd_s, inR100, hx, if10, if_t, a1, bv_s, b1, bv_s, e2]
      unfold pi_X4_ahead_77
      rw [q1, bd_s]
  by_cases c6 : f = 6
  · subst c6
    refine key (fcN (itN (M 50) n) h) (hd_face l2.2.1 wn (by omega)) ?_
    rw [if_pos (by decide), md_faces (by omega) (b2.wf lw) (b2.fc lf), bd_s, b50]
  · refine key (itN (M 50) n (14 + 6 * h + f)) (hd_trait l2.1 (by omega) (by omega)) ?_
    rw [if_neg (show ¬ nI f = 6 from fun z => c6 (nI_inj (by omega) (by decide) z)), md_hillIs (by omega) (by omega), bd_s, b50]
