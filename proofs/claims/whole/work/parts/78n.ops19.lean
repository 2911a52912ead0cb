/-! kindFor, rainFor -/
theorem m_behind {M : Mem} {h f n : Nat} (hw : Wf (M 50)) (hfc : Fc M) (hh : h < 8) (hf : f < 6) (hn : n ≤ 900) : ∃ Q : Mem, mi_X4_behind (nI h) (nI f) (nI n) M = some (itN (M 50) n (14 + 6 * h + f), Q) ∧ Bk M Q := by
  obtain ⟨A, a1, a2⟩ := tr_go M
  obtain ⟨B, b1, b2⟩ := md_ages1 (n := n) a2 hw hfc hn
  rw [Nat.zero_add] at b2
  obtain ⟨Q, q1, q2⟩ := tr_back (itN (M 50) n (14 + 6 * h + f)) b2 hw
  refine ⟨Q, ?_, q2⟩
  unfold mi_X4_behind pi_X4_behind_e
  rw [a1, bv_s, b1, bv_s, md_hillIs hh hf, bd_s, b2.1, q1, bd_s]
def kiV (N : Nat → Int32) (h n j : Nat) : Int32 := itN (upd N (14 + 6 * h + 0) (nI j)) n (14 + 6 * h + 5)
def kiN (N : Nat → Int32) (h n : Nat) : Nat → Int32 × Int32
  | 0 => (0, -1)
  | j + 1 => if kiV N h n j ≤ (kiN N h n j).2 then kiN N h n j else (nI j, kiV N h n j)
theorem inR60 {v : Int32} : inR v 0 60 = inb v 61 := inR_inb (k := 60) (by decide)
theorem ki_ok : ∀ j, j < 7 → okT 0 (nI j) := fun j hj => ⟨fun _ => inb_nI hj (by decide), fun z => (by cases z), fun z => (by cases z), fun z => (by cases z), fun z => (by cases z), fun z => (by cases z)⟩
theorem op_kindFor (v w : Int32) : OpI (mi_X3_kindFor v w) (mi_X4_kindFor v w) := by
  intro c M hc hS
  obtain ⟨hw, hs, ht, ha, hk, hfc, -⟩ := id hS.1
  have h8 := hw.2.1
  have hab := ha.b hc
  cases hv : inb v (nH (M 50)) with
  | false =>
    refine op_find 0 (by decide) hS ?_ (fun K hK => ?_)
    · unfold mi_X3_kindFor pi_X3_kindFor_e
      rw [x_lacks v hs hw, bd_s, hv, if01, if_f]; exact fx_ 0 0 rfl M
    · have k50 : K 50 = M 50 := hK 50 (by decide)
      unfold mi_X4_kindFor pi_X4_kindFor_e
      rw [m_hill v (by rw [k50]; exact hw), bd_s, k50, hv, if10, if_f]; exact fm_ 0 _ low0.symm K
  | true =>
  cases hf : inb w 61 with
  | false =>
    refine op_find 0 (by decide) hS ?_ (fun K hK => ?_)
    · unfold mi_X3_kindFor pi_X3_kindFor_e
      rw [x_lacks v hs hw, bd_s, hv, if01, if_t, x_out, bd_s, inR60, hf, if01, if_f]; exact fx_ 0 0 rfl M
    · have k50 : K 50 = M 50 := hK 50 (by decide)
      unfold mi_X4_kindFor pi_X4_kindFor_e
      rw [m_hill v (by rw [k50]; exact hw), bd_s, k50, hv, if10, if_t, m_go, bd_s, hf, if10, if_f]; exact fm_ 0 _ low0.symm K
  | true =>
  obtain ⟨h, hh, rfl⟩ := inb_of hv (by omega)
  obtain ⟨n, hn, rfl⟩ := inb_of hf (by decide)
  have e7 : (7 : Int32) = nI 7 := rfl
  have e6 : (6 : Int32) = nI 6 := rfl
  obtain ⟨L, l1, l2⟩ : ∃ L : Mem, lp (fun rc35 x => pi_X3_kindFor_35 (nI h) (nI n) rc35 x.1 x.2.1 x.2.2.1 x.2.2.2) FU (0, -1, 0, M) = some ((kiN (M 50) h n 7).1, L) ∧ Fr 13 M L := by
    refine lp_inv (I := fun j (zx : Int32 × Int32 × Int32 × Mem) => zx.1 = (kiN (M 50) h n j).1 ∧ zx.2.1 = (kiN (M 50) h n j).2 ∧ zx.2.2.1 = nI j ∧ Fr 13 M zx.2.2.2) (Post := fun (zo : Option (Int32 × Mem)) => ∃ L : Mem, zo = some ((kiN (M 50) h n 7).1, L) ∧ Fr 13 M L) 7 ?_ ?_ FU (FU_le (by omega)) (0, -1, 0, M) ⟨rfl, rfl, rfl, Fr.rf⟩
    · rintro j hj ⟨x1, x2, x3, L⟩ ⟨i1, i2, i3, i4⟩ rec
      dsimp only at i1 i2 i3 i4
      obtain ⟨A, a1, a2⟩ := x_try (v := nI j) hs hw i4 (show h < 8 by omega) (by decide) (ki_ok j hj)
      have u0 : upd (M 50) (14 + 6 * h + 0) (nI j) 0 = M 50 0 := upd_o (by omega)
      obtain ⟨B, b1, b2⟩ := tx_ages (n := n) a2 (wf_set hw (by decide) (ki_ok j hj)) (by rw [u0]; exact hab.1) (by rw [u0]; omega) (by omega)
      have st : pi_X3_kindFor_35 (nI h) (nI n) rec x1 x2 x3 L = if kiV (M 50) h n j ≤ x2 then rec (x1, x2, nI (j + 1), B) else rec (nI j, kiV (M 50) h n j, nI (j + 1), B) := by
        unfold pi_X3_kindFor_35
        rw [i3, e7, if_neg (nI_ge hj (by decide)), show (0 : Int32) = nI 0 from rfl, a1, bv_s, b1, bv_s, show (5 : Int32) = nI 5 from rfl, hd_trait b2.1 (by omega) (by decide), bd_s, bI_e, bI_e, nI_1]
        rfl
      by_cases q : kiV (M 50) h n j ≤ (kiN (M 50) h n j).2
      · have e : kiN (M 50) h n (j + 1) = kiN (M 50) h n j := if_pos q
        refine ⟨(x1, x2, nI (j + 1), B), ⟨by rw [e]; exact i1, by rw [e]; exact i2, rfl, b2.2.2⟩, ?_⟩
        show pi_X3_kindFor_35 (nI h) (nI n) rec x1 x2 x3 L = _
        rw [st, i2, if_pos q]
      · have e : kiN (M 50) h n (j + 1) = (nI j, kiV (M 50) h n j) := if_neg q
        refine ⟨(nI j, kiV (M 50) h n j, nI (j + 1), B), ⟨by rw [e], by rw [e], rfl, b2.2.2⟩, ?_⟩
        show pi_X3_kindFor_35 (nI h) (nI n) rec x1 x2 x3 L = _
        rw [st, i2, if_neg q]
    · rintro ⟨x1, x2, x3, L⟩ ⟨i1, i2, i3, i4⟩ rec
      dsimp only at i1 i2 i3 i4
      refine ⟨L, ?_, i4⟩
      show pi_X3_kindFor_35 (nI h) (nI n) rec x1 x2 x3 L = _
      unfold pi_X3_kindFor_35
      rw [i3, e7, if_pos (Int32.le_refl _), i1]
  have l50 : L 50 = M 50 := l2 50 (by omega)
  have lf : Fc L := fun j hj => by rw [l2 54 (by omega)]; exact hfc j hj
  have ii : inb (nI (14 + 6 * h + 0)) 62 = true := inb_nI (by omega) (by decide)
  obtain ⟨Q, q1, q2⟩ : ∃ Q : Mem, lp (fun rc38 x => pi_X4_kindFor_38 (nI h) (nI n) (kdN (M 50) h) rc38 x.1 x.2.1 x.2.2.1 x.2.2.2) FU (0, -1, 0, L) = some ((kiN (M 50) h n 7).1, Q) ∧ Bk L Q := by
    refine lp_inv (I := fun j (zx : Int32 × Int32 × Int32 × Mem) => zx.1 = (kiN (M 50) h n j).1 ∧ zx.2.1 = (kiN (M 50) h n j).2 ∧ zx.2.2.1 = nI j ∧ (∃ w, zx.2.2.2 50 = upd (M 50) (14 + 6 * h + 0) w) ∧ ∀ a, a ≠ 50 → a ≠ 52 → ¬ Sc a → zx.2.2.2 a = L a) (Post := fun (zo : Option (Int32 × Mem)) => ∃ Q : Mem, zo = some ((kiN (M 50) h n 7).1, Q) ∧ Bk L Q) 7 ?_ ?_ FU (FU_le (by omega)) (0, -1, 0, L) ⟨rfl, rfl, rfl, ⟨M 50 (14 + 6 * h + 0), by dsimp only; rw [l50, updId]⟩, fun _ _ _ _ => rfl⟩
    · rintro j hj ⟨x1, x2, x3, A⟩ ⟨i1, i2, i3, ⟨w, i4⟩, i5⟩ rec
      dsimp only at i1 i2 i3 i4 i5
      have a50 : up A 50 (14 + 6 * h + 0) (nI j) 50 = upd (M 50) (14 + 6 * h + 0) (nI j) := by
        rw [up_s, i4, updUU]
      obtain ⟨B, b1, b2⟩ := m_behind (M := up A 50 (14 + 6 * h + 0) (nI j)) (h := h) (f := 5) (n := n) (by rw [a50]; exact wf_set hw (by decide) (ki_ok j hj)) (fun k hk => by rw [up_o (by decide), i5 54 (by decide) (by decide) (by unfold Sc; omega)]; exact lf k hk) (by omega) (by decide) (by omega)
      rw [a50] at b1
      have st : pi_X4_kindFor_38 (nI h) (nI n) (kdN (M 50) h) rec x1 x2 x3 A = if kiV (M 50) h n j ≤ x2 then rec (x1, x2, nI (j + 1), B) else rec (nI j, kiV (M 50) h n j, nI (j + 1), B) := by
        unfold pi_X4_kindFor_38 pi_X4_kindFor_80
        rw [i3, e6, if_neg (x_gt (show j ≤ 6 by omega) (by decide)), md_atf _ 0 (f := 0) rfl, bd_s, ii, gd_t, nI_clamp (by omega), bM_e, show (5 : Int32) = nI 5 from rfl, b1, bd_s, bI_e, bI_e, bI_e, nI_1]
        show (if kiV (M 50) h n j ≤ x2 then rec (x1, if x2 < kiV (M 50) h n j then kiV (M 50) h n j else x2, nI (j + 1), B) else rec (nI j, if x2 < kiV (M 50) h n j then kiV (M 50) h n j else x2, nI (j + 1), B)) = _
        by_cases q : kiV (M 50) h n j ≤ x2
        · rw [if_pos q, if_pos q, if_neg (nlt_le.mpr q)]
        · rw [if_neg q, if_neg q, if_pos (by rw [i_lt]; rw [i_le] at q; omega)]
      have m1 : ∃ w, B 50 = upd (M 50) (14 + 6 * h + 0) w := ⟨nI j, by rw [b2 50 (by decide) (by unfold Sc; omega), a50]⟩
      have m2 : ∀ a, a ≠ 50 → a ≠ 52 → ¬ Sc a → B a = L a := fun a n1 n2 n3 => by rw [b2 a n2 n3, up_o n1]; exact i5 a n1 n2 n3
      by_cases q : kiV (M 50) h n j ≤ (kiN (M 50) h n j).2
      · have e : kiN (M 50) h n (j + 1) = kiN (M 50) h n j := if_pos q
        refine ⟨(x1, x2, nI (j + 1), B), ⟨by rw [e]; exact i1, by rw [e]; exact i2, rfl, m1, m2⟩, ?_⟩
        show pi_X4_kindFor_38 (nI h) (nI n) (kdN (M 50) h) rec x1 x2 x3 A = _
        rw [st, i2, if_pos q]
      · have e : kiN (M 50) h n (j + 1) = (nI j, kiV (M 50) h n j) := if_neg q
        refine ⟨(nI j, kiV (M 50) h n j, nI (j + 1), B), ⟨by rw [e], by rw [e], rfl, m1, m2⟩, ?_⟩
        show pi_X4_kindFor_38 (nI h) (nI n) (kdN (M 50) h) rec x1 x2 x3 A = _
        rw [st, i2, if_neg q]
    · rintro ⟨x1, x2, x3, A⟩ ⟨i1, i2, i3, ⟨w, i4⟩, i5⟩ rec
      dsimp only at i1 i2 i3 i4 i5
      refine ⟨up A 50 (14 + 6 * h + 0) (kdN (M 50) h), ?_, fun a n1 n2 => ?_⟩
      · show pi_X4_kindFor_38 (nI h) (nI n) (kdN (M 50) h) rec x1 x2 x3 A = _
        unfold pi_X4_kindFor_38
        rw [i3, if_pos (by decide), md_atf _ 0 (f := 0) rfl, bd_s, ii, gd_t, nI_clamp (by omega), bM_e, i1]
      · by_cases c : a = 50
        · subst c
          rw [up_s, i4, updUU, l50]
          exact updId
        · rw [up_o c]; exact i5 a c n1 n2
  refine op_ask hS (r := (kiN (M 50) h n 7).1) (K := L) ?_ l2.eqv ⟨Q, ?_, q2.eqv⟩
  · unfold mi_X3_kindFor pi_X3_kindFor_e
    rw [x_lacks _ hs hw, bd_s, hv, if01, if_t, x_out, bd_s, inR60, hf, if01, if_t]
    exact l1
  · unfold mi_X4_kindFor pi_X4_kindFor_e
    rw [m_hill _ (by rw [l50]; exact hw), bd_s, l50, hv, if10, if_t, m_go, bd_s, hf, if10, if_t, md_h0 (by omega), bd_s, l50]
    exact q1
/-! rainFor -/
def dnI (P : Nat → Bool) : Nat → Int32 → Int32
  | 0, a => a
  | k + 1, a => dnI P k (if P k = true then nI k else a)
theorem dn_ok (P : Nat → Bool) : ∀ (k : Nat) (a : Int32), dnI P k a = match fiN P k with | some m => nI m | none => a := by
  intro k
  induction k with
  | zero => intro a; rfl
  | succ k ih =>
    intro a
    show dnI P k (if P k = true then nI k else a) = _
    rw [ih]
    cases q : fiN P k with
    | some m => simp only [fiN, q]
    | none =>
      cases p : P k with
      | true => simp [fiN, q, p]
      | false => simp [fiN, q, p]
def raV (N : Nat → Int32) (h n : Nat) (y : Int32) (j : Nat) : Bool := decide (itN (upd N 3 (nI j)) n (14 + 6 * h + 4) ≤ y)
theorem wf_rain {N : Nat → Int32} {v : Int32} (hw : Wf N) (hv : inb v 10 = true) : Wf (upd N 3 v) := by
  have hn : nH (upd N 3 v) = nH N := nH_upd (by decide)
  refine ⟨by rw [hn, upd_o (by decide)]; exact hw.1, by rw [hn]; exact hw.2.1, by rw [upd_s]; exact hv, fun z hz => ?_, fun i hi => by rw [hn, upd_o (by omega)]; exact hw.2.2.2.2 i hi⟩
  have w := hw.2.2.2.1 z hz
  unfold Wh kdN vaN spN tuN hiN boN at w ⊢
  rw [upd_o (show 14 + 6 * z + 0 ≠ 3 by omega), upd_o (show 14 + 6 * z + 1 ≠ 3 by omega), upd_o (show 14 + 6 * z + 2 ≠ 3 by omega), upd_o (show 14 + 6 * z + 3 ≠ 3 by omega), upd_o (show 14 + 6 * z + 4 ≠ 3 by omega), upd_o (show 14 + 6 * z + 5 ≠ 3 by omega)]
  exact w
theorem tb_rain {b : Nat} {M : Mem} {N : Nat → Int32} {v : Int32} (ht : TbR b M N) (h8 : nH N ≤ 8) : TbR b (up M b 0 v) (upd N 3 v) := by
  refine TbR.cg (N := N) (ht.eq (fun a h1 h2 => up_o (by omega))) h8 (nH_upd (by decide)) (fun z hz => ?_)
  unfold vaN tuN
  rw [upd_o (by omega), upd_o (by omega)]; exact ⟨rfl, rfl⟩
theorem x_rtry {M K : Mem} {N : Nat → Int32} {v : Int32} (hs : ShR 1 M N) (hw : Wf N) (hK : Fr 13 M K) : ∃ L : Mem, mi_X2_become 13 1 K = some L ∧ TrX (upd N 3 v) M 0 (up L 13 0 v) := by
  have s1 : ShR 1 K N := hs.eq (fun a h1 h2 => hK a (by omega))
  obtain ⟨A, a1, a2, a3, a4⟩ := hd_become (b := 13) s1 hw (by omega)
  exact ⟨A, a1, sh_rain a2, tb_rain a3 hw.2.1, (hK.tr a4).tr (fun a ha => up_o (by omega))⟩
theorem ra_dn : ∀ j, j < 10 → nI (10 - j) - 1 = nI (9 - j) ∧ nI (9 - j) + (-1) = nI (10 - (j + 1)) - 1 ∧ ¬ nI (10 - j) - 1 < 0 := by decide
theorem op_rainFor (v w x : Int32) : OpI (mi_X3_rainFor v w x) (mi_X4_rainFor v w x) := by
  intro c M hc hS
  obtain ⟨hw, hs, ht, ha, hk, hfc, -⟩ := id hS.1
  have h8 := hw.2.1
  have hab := ha.b hc
  cases hv : inb v (nH (M 50)) with
  | false =>
    refine op_find 0 (by decide) hS ?_ (fun K hK => ?_)
    · unfold mi_X3_rainFor pi_X3_rainFor_e
      rw [x_lacks v hs hw, bd_s, hv, if01, if_f]; exact fx_ 0 0 rfl M
    · have k50 : K 50 = M 50 := hK 50 (by decide)
      unfold mi_X4_rainFor pi_X4_rainFor_e
      rw [m_hill v (by rw [k50]; exact hw), bd_s, k50, hv, if10, if_f]; exact fm_ 0 _ low0.symm K
  | true =>
  cases hy : inb w 100 with
  | false =>
    refine op_find 0 (by decide) hS ?_ (fun K hK => ?_)
    · unfold mi_X3_rainFor pi_X3_rainFor_e
      rw [x_lacks v hs hw, bd_s, hv, if01, if_t, x_out, bd_s, inR99, hy, if01, if_f]; exact fx_ 0 0 rfl M
    · have k50 : K 50 = M 50 := hK 50 (by decide)
      unfold mi_X4_rainFor pi_X4_rainFor_e
      rw [m_hill v (by rw [k50]; exact hw), bd_s, k50, hv, if10, if_t, m_high, bd_s, hy, if10, if_f]; exact fm_ 0 _ low0.symm K
  | true =>
  cases hf : inb x 61 with
  | false =>
    refine op_find 0 (by decide) hS ?_ (fun K hK => ?_)
    · unfold mi_X3_rainFor pi_X3_rainFor_e
      rw [x_lacks v hs hw, bd_s, hv, if01, if_t, x_out, bd_s, inR99, hy, if01, if_t, x_out, bd_s, inR60, hf, if01, if_f]; exact fx_ 0 0 rfl M
    · have k50 : K 50 = M 50 := hK 50 (by decide)
      unfold mi_X4_rainFor pi_X4_rainFor_e
      rw [m_hill v (by rw [k50]; exact hw), bd_s, k50, hv, if10, if_t, m_high, bd_s, hy, if10, if_t, m_go, bd_s, hf, if10, if_f]; exact fm_ 0 _ low0.symm K
  | true =>
  obtain ⟨h, hh, rfl⟩ := inb_of hv (by omega)
  obtain ⟨n, hn, rfl⟩ := inb_of hf (by decide)
  have e9 : (9 : Int32) = nI 9 := rfl
  have e4 : (4 : Int32) = nI 4 := rfl
  have one : ∀ j, j < 10 → ∀ (L : Mem) rec, Fr 13 M L → ∃ L' : Mem, Fr 13 M L' ∧ pi_X3_rainFor_40 (nI h) w (nI n) rec (nI j) L = if raV (M 50) h n w j = true then some (nI j, L') else rec (nI (j + 1), L') := by
    intro j hj L rec hL
    obtain ⟨A, a1, a2⟩ := x_rtry (v := nI j) hs hw hL
    have u0 : upd (M 50) 3 (nI j) 0 = M 50 0 := upd_o (by decide)
    obtain ⟨B, b1, b2⟩ := tx_ages (n := n) a2 (wf_rain hw (inb_nI hj (by decide))) (by rw [u0]; exact hab.1) (by rw [u0]; omega) (by omega)
    refine ⟨B, b2.2.2, ?_⟩
    unfold pi_X3_rainFor_40 raV
    rw [e9, if_neg (x_gt (show j ≤ 9 by omega) (by decide)), a1, bv_s, bM_e, b1, bv_s, e4, hd_trait b2.1 (by omega) (by decide), bd_s, bI_e, nI_1]
    by_cases q : itN (upd (M 50) 3 (nI j)) n (14 + 6 * h + 4) ≤ w
    · rw [if_neg (nlt_le.mpr q), decide_eq_true q, if_t]
    · rw [if_pos (by rw [i_lt]; rw [i_le] at q; omega), decide_eq_false q, if_f]
  have runX : ∀ m, m ≤ 10 → (∀ k, k < m → raV (M 50) h n w k = false) → ∀ (Post : Option (Int32 × Mem) → Prop), (∀ (L : Mem) rec, Fr 13 M L → Post (pi_X3_rainFor_40 (nI h) w (nI n) rec (nI m) L)) → Post (lp (fun rc40 x => pi_X3_rainFor_40 (nI h) w (nI n) rc40 x.1 x.2) FU (0, M)) := by
    intro m hm hp Post he
    refine lp_inv (I := fun j (zx : Int32 × Mem) => zx.1 = nI j ∧ Fr 13 M zx.2) (Post := Post) m ?_ ?_ FU (FU_le (by omega)) (0, M) ⟨rfl, Fr.rf⟩
    · rintro j hj ⟨x, L⟩ ⟨i1, i2⟩ rec
      dsimp only at i1 i2
      subst i1
      obtain ⟨L', l1, l2⟩ := one j (by omega) L rec i2
      refine ⟨(nI (j + 1), L'), ⟨rfl, l1⟩, ?_⟩
      show pi_X3_rainFor_40 (nI h) w (nI n) rec (nI j) L = _
      rw [l2, hp j hj, if_f]
    · rintro ⟨x, L⟩ ⟨i1, i2⟩ rec
      dsimp only at i1 i2
      subst i1
      exact he L rec i2
  have hX : mi_X3_rainFor (nI h) w (nI n) M = lp (fun rc40 x => pi_X3_rainFor_40 (nI h) w (nI n) rc40 x.1 x.2) FU (0, M) := by
    unfold mi_X3_rainFor pi_X3_rainFor_e
    rw [x_lacks _ hs hw, bd_s, hv, if01, if_t, x_out, bd_s, inR99, hy, if01, if_t, x_out, bd_s, inR60, hf, if01, if_t]
  have hM : ∀ P : Mem, P 50 = M 50 → Fc P → ∃ Q : Mem, Bk P Q ∧ mi_X4_rainFor (nI h) w (nI n) P = mi_X4_orNone (dnI (raV (M 50) h n w) 10 (-1)) Q := by
    intro P p50 pf
    have i3 : inb 3 62 = true := by decide
    have t3 : (3 : Int32).toNatClampNeg = 3 := by decide
    have E : mi_X4_rainFor (nI h) w (nI n) P = lp (fun rc44 x => pi_X4_rainFor_44 (nI h) w (nI n) (M 50 3) rc44 x.1 x.2.1 x.2.2) FU (-1, 9, P) := by
      unfold mi_X4_rainFor pi_X4_rainFor_e
      rw [m_hill _ (by rw [p50]; exact hw), bd_s, p50, hv, if10, if_t, m_high, bd_s, hy, if10, if_t, m_go, bd_s, hf, if10, if_t, i3, gd_t, bI_e, t3, p50]
    rw [E]
    refine lp_inv (I := fun j (zx : Int32 × Int32 × Mem) => dnI (raV (M 50) h n w) (10 - j) zx.1 = dnI (raV (M 50) h n w) 10 (-1) ∧ zx.2.1 = nI (10 - j) - 1 ∧ (∃ y, zx.2.2 50 = upd (M 50) 3 y) ∧ ∀ a, a ≠ 50 → a ≠ 52 → ¬ Sc a → zx.2.2 a = P a) (Post := fun (zo : Option (Int32 × Mem)) => ∃ Q : Mem, Bk P Q ∧ zo = mi_X4_orNone (dnI (raV (M 50) h n w) 10 (-1)) Q) 10 ?_ ?_ FU (FU_le (by omega)) (-1, 9, P) ⟨rfl, rfl, ⟨M 50 3, by dsimp only; rw [p50, updId]⟩, fun _ _ _ _ => rfl⟩
    · rintro j hj ⟨x1, x2, A⟩ ⟨i1, i2, ⟨y, i4⟩, i5⟩ rec
      dsimp only at i1 i2 i4 i5
      obtain ⟨d1, d2, d3⟩ := ra_dn j hj
      have a50 : up A 50 3 (nI (9 - j)) 50 = upd (M 50) 3 (nI (9 - j)) := by
        rw [up_s, i4, updUU]
      obtain ⟨B, b1, b2⟩ := m_behind (M := up A 50 3 (nI (9 - j))) (h := h) (f := 4) (n := n) (by rw [a50]; exact wf_rain hw (inb_nI (by omega) (by decide))) (fun k hk => by rw [up_o (by decide), i5 54 (by decide) (by decide) (by unfold Sc; omega)]; exact pf k hk) (by omega) (by decide) (by omega)
      rw [a50] at b1
      have m1 : ∃ y, B 50 = upd (M 50) 3 y := ⟨nI (9 - j), by rw [b2 50 (by decide) (by unfold Sc; omega), a50]⟩
      have m2 : ∀ a, a ≠ 50 → a ≠ 52 → ¬ Sc a → B a = P a := fun a n1 n2 n3 => by rw [b2 a n2 n3, up_o n1]; exact i5 a n1 n2 n3
      refine ⟨(if raV (M 50) h n w (9 - j) = true then nI (9 - j) else x1, nI (10 - (j + 1)) - 1, B), ⟨?_, rfl, m1, m2⟩, ?_⟩
      · dsimp only
        rw [show 10 - (j + 1) = 9 - j by omega, ← i1, show 10 - j = (9 - j) + 1 by omega]
        rfl
      · show pi_X4_rainFor_44 (nI h) w (nI n) (M 50 3) rec x1 x2 A = _
        unfold pi_X4_rainFor_44 raV
        rw [i2, if_neg d3, i3, gd_t, t3, d1, bM_e, e4, b1, bd_s, bI_e, bI_e, d2]
        by_cases q : itN (upd (M 50) 3 (nI (9 - j))) n (14 + 6 * h + 4) ≤ w
        · rw [if_neg (nlt_le.mpr q), decide_eq_true q, if_t]
        · rw [if_pos (by rw [i_lt]; rw [i_le] at q; omega), decide_eq_false q, if_f]
    · rintro ⟨x1, x2, A⟩ ⟨i1, i2, ⟨y, i4⟩, i5⟩ rec
      dsimp only at i1 i2 i4 i5
      refine ⟨up A 50 3 (M 50 3), fun a n1 n2 => ?_, ?_⟩
      · by_cases c : a = 50
        · subst c
          rw [up_s, i4, updUU, p50]
          exact updId
        · rw [up_o c]; exact i5 a c n1 n2
      · show pi_X4_rainFor_44 (nI h) w (nI n) (M 50 3) rec x1 x2 A = _
        unfold pi_X4_rainFor_44
        rw [i2, if_pos (by decide), i3, gd_t, t3, bM_e, bd_id, ← i1]
        rfl
  cases q : fiN (raV (M 50) h n w) 10 with
  | some m =>
    obtain ⟨h1, h2, h3⟩ := fi_some 10 q
    obtain ⟨L, l1, l2⟩ := runX m (by omega) h3 (fun zo => ∃ L : Mem, zo = some (nI m, L) ∧ Fr 13 M L) (fun L rec hL => by
      obtain ⟨L', l1, l2⟩ := one m (by omega) L rec hL
      exact ⟨L', by rw [l2, h2, if_t], l1⟩)
    obtain ⟨Q, q1, q2⟩ := hM L (l2 50 (by omega)) (fun j hj => by rw [l2 54 (by omega)]; exact hfc j hj)
    rw [dn_ok, q] at q2
    exact op_ask hS (hX.trans l1) l2.eqv ⟨Q, q2.trans (orn_y (by omega) Q), q1.eqv⟩
  | none =>
    have h1 := fi_none 10 q
    obtain ⟨L, l1, l2⟩ := runX 10 (by omega) h1 (fun zo => ∃ L : Mem, zo = mi_X3_finding (nI 3) L ∧ Fr 13 M L) (fun L rec hL => ⟨L, by
      unfold pi_X3_rainFor_40
      rw [if_pos (by decide)]; exact fx_ 3 3 rfl L, hL⟩)
    refine op_none hS l2.eqv (hX.trans l1) (fun P hP => ?_)
    obtain ⟨Q, q1, q2⟩ := hM P (by rw [hP 50 (by decide), l2 50 (by omega)]) (fun j hj => by rw [hP 54 (by decide), l2 54 (by omega)]; exact hfc j hj)
    rw [dn_ok, q] at q2
    exact ⟨Q, q2.trans (orn_n Q), q1.eqv⟩
