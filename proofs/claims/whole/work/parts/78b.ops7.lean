/-! when, meet, skylines -/
/-- a call whose finding is none after a trial of both -/
theorem op_none {fX fM : Mem → Option (Int32 × Mem)} {c : Nat} {M K : Mem} (h : Sim c M) (e : Eqv M K) (h1 : fX M = mi_X3_finding (nI 3) K) (h2 : ∀ K' : Mem, (∀ a, a ≠ 48 → K' a = K a) → ∃ Q : Mem, fM K' = mi_X4_finding (lowI 3) Q ∧ Eqv K' Q) : ∃ (r : Int32) (K Q : Mem), fX M = some (r, K) ∧ fM K = some (r, Q) ∧ Sim (c + 1) Q := by
  obtain ⟨K', k1, k2, k3⟩ := find1 (i := 3) (by decide) (h.eq e)
  obtain ⟨Q, q1, q2⟩ := h2 K' k2
  obtain ⟨R, r1, r2⟩ := find2 (i := 3) (by decide) (k3.eq q2)
  exact ⟨lowI 3, K', R, h1.trans k1, q1.trans r1, r2.up⟩
theorem orn_y {m : Nat} (hm : m < 2 ^ 31) (Q : Mem) : mi_X4_orNone (nI m) Q = some (nI m, Q) := by
  unfold mi_X4_orNone pi_X4_orNone_e
  rw [if_pos (nlt_le.mp (nI_nn hm))]
theorem orn_n (Q : Mem) : mi_X4_orNone (-1) Q = mi_X4_finding (lowI 3) Q := by
  unfold mi_X4_orNone pi_X4_orNone_e
  rw [if_neg (by decide)]; exact fm_ 3 _ low3.symm Q
/-- the first of the first t -/
def IsF (P : Nat → Bool) (t : Nat) (r : Int32) : Prop := (∃ m, m < t ∧ P m = true ∧ (∀ k, k < m → P k = false) ∧ r = nI m) ∨ ((∀ k, k < t → P k = false) ∧ r = -1)
theorem is_f (P : Nat → Bool) : ∀ t, ∃ r, IsF P t r := by
  intro t
  induction t with
  | zero => exact ⟨-1, Or.inr ⟨fun k hk => by omega, rfl⟩⟩
  | succ t ih =>
    obtain ⟨r, h⟩ := ih
    rcases h with ⟨m, h1, h2, h3, h4⟩ | ⟨h1, h2⟩
    · exact ⟨r, Or.inl ⟨m, by omega, h2, h3, h4⟩⟩
    · cases hp : P t with
      | true => exact ⟨nI t, Or.inl ⟨t, by omega, hp, h1, rfl⟩⟩
      | false =>
        refine ⟨-1, Or.inr ⟨fun k hk => ?_, rfl⟩⟩
        by_cases c : k = t
        · subst c; exact hp
        · exact h1 k (by omega)
theorem tx_loop {N : Nat → Int32} {M K : Mem} {G : (Int32 × Mem → Option (Int32 × Mem)) → Int32 → Mem → Option (Int32 × Mem)} (n : Nat) (hn : n ≤ 900) (h : TrX N M 0 K) (hw : Wf N) (h0 : 0 ≤ (N 0).toInt) (hb : (N 0).toInt + 1000 ≤ 99999)
    (hs : ∀ k, k < n → ∀ (L L' : Mem) rec, TrX N M k L → mi_X2_passAge 13 L = some L' → G rec (nI k) L = rec (nI (k + 1), L'))
    (Post : Option (Int32 × Mem) → Prop) (he : ∀ (L : Mem) rec, TrX N M n L → Post (G rec (nI n) L)) : Post (lp (fun rc x => G rc x.1 x.2) FU (0, K)) := by
  refine lp_inv (I := fun j (zx : Int32 × Mem) => zx.1 = nI j ∧ TrX N M j zx.2) (Post := Post) n ?_ ?_ FU (FU_le (by omega)) (0, K) ⟨rfl, h⟩
  · rintro j hj ⟨x, L⟩ ⟨i1, i2⟩ rec
    dsimp only at i1 i2
    subst i1
    obtain ⟨L', l1, l2⟩ := tx_age i2 hw h0 (by omega)
    exact ⟨(nI (j + 1), L'), ⟨rfl, l2⟩, hs j hj L L' rec i2 l1⟩
  · rintro ⟨x, L⟩ ⟨i1, i2⟩ rec
    dsimp only at i1 i2
    subst i1
    exact he L rec i2
theorem tr_loop {M K : Mem} {G : (Int32 × Mem → Option (Int32 × Mem)) → Int32 → Mem → Option (Int32 × Mem)} (n : Nat) (hn : n ≤ 900) (h : TrI M 0 K) (hw : Wf (M 50)) (hf : Fc M)
    (hs : ∀ k, k < n → ∀ (L L' : Mem) rec, TrI M k L → mi_X4_age L = some L' → G rec (nI k) L = rec (nI (k + 1), L'))
    (Post : Option (Int32 × Mem) → Prop) (he : ∀ (L : Mem) rec, TrI M n L → Post (G rec (nI n) L)) : Post (lp (fun rc x => G rc x.1 x.2) FU (0, K)) := by
  refine lp_inv (I := fun j (zx : Int32 × Mem) => zx.1 = nI j ∧ TrI M j zx.2) (Post := Post) n ?_ ?_ FU (FU_le (by omega)) (0, K) ⟨rfl, h⟩
  · rintro j hj ⟨x, L⟩ ⟨i1, i2⟩ rec
    dsimp only at i1 i2
    subst i1
    obtain ⟨L', l1, l2⟩ := tr_age i2 hw hf
    exact ⟨(nI (j + 1), L'), ⟨rfl, l2⟩, hs j hj L L' rec i2 l1⟩
  · rintro ⟨x, L⟩ ⟨i1, i2⟩ rec
    dsimp only at i1 i2
    subst i1
    exact he L rec i2
theorem hd_facedBy {b h : Nat} {M : Mem} {N : Nat → Int32} (ht : TbR b M N) (hw : Wf N) (hh : h < nH N) : mi_X2_facedBy b (nI h) M = some (fcN N h, M) := by
  have h8 := hw.2.1
  unfold mi_X2_facedBy pi_X2_facedBy_e
  rw [inb_nI (show h < 8 by omega) (by decide), gd_t, nI_clamp (by omega), (ht.1 h hh).1]
def whP (N : Nat → Int32) (h : Nat) (v : Int32) (k : Nat) : Bool := decide (fcN (itN N k) h = v)
theorem x_gt {k n : Nat} (hk : k ≤ n) (hn : n < 2 ^ 31) : ¬ nI n < nI k := by
  rw [i_lt, nI_toInt hn, nI_toInt (by omega)]; omega
theorem op_when (v w : Int32) : OpI (mi_X3_when v w) (mi_X4_when v w) := by
  intro c M hc hS
  obtain ⟨hw, hs, ht, ha, hk, hfc, -⟩ := id hS.1
  have h8 := hw.2.1
  have hab := ha.b hc
  cases hv : inb v (nH (M 50)) with
  | false =>
    refine op_find 0 (by decide) hS ?_ (fun K hK => ?_)
    · unfold mi_X3_when pi_X3_when_e
      rw [x_lacks v hs hw, bd_s, hv, if01, if_f]; exact fx_ 0 0 rfl M
    · have k50 : K 50 = M 50 := hK 50 (by decide)
      unfold mi_X4_when pi_X4_when_e
      rw [m_hill v (by rw [k50]; exact hw), bd_s, k50, hv, if10, if_f]; exact fm_ 0 _ low0.symm K
  | true =>
  cases hf : inb w 12 with
  | false =>
    refine op_find 0 (by decide) hS ?_ (fun K hK => ?_)
    · unfold mi_X3_when pi_X3_when_e
      rw [x_lacks v hs hw, bd_s, hv, if01, if_t, x_nov, bd_s, hf, if01, if_f]; exact fx_ 0 0 rfl M
    · have k50 : K 50 = M 50 := hK 50 (by decide)
      unfold mi_X4_when pi_X4_when_e
      rw [m_hill v (by rw [k50]; exact hw), bd_s, k50, hv, if10, if_t, m_val, bd_s, hf, if10, if_f]; exact fm_ 0 _ low0.symm K
  | true =>
  obtain ⟨h, hh, rfl⟩ := inb_of hv (by omega)
  obtain ⟨K, k1, k2⟩ := tx_go hs hw
  have hX : mi_X3_when (nI h) w M = lp (fun rc37 x => pi_X3_when_37 (nI h) w rc37 x.1 x.2) FU (0, K) := by
    unfold mi_X3_when pi_X3_when_e
    rw [x_lacks _ hs hw, bd_s, hv, if01, if_t, x_nov, bd_s, hf, if01, if_t, k1, bv_s]
  have fx : ∀ k L, TrX (M 50) M k L → mi_X2_facedBy 13 (nI h) L = some (fcN (itN (M 50) k) h, L) := fun k L hL => hd_facedBy hL.2.1 (it_Wf hw k) (by rw [nH_it]; exact hh)
  have e200 : (200 : Int32) = nI 200 := rfl
  have stepX : ∀ m, m ≤ 201 → (∀ k, k < m → whP (M 50) h w k = false) → ∀ k, k < m → ∀ (L L' : Mem) rec, TrX (M 50) M k L → mi_X2_passAge 13 L = some L' → pi_X3_when_37 (nI h) w rec (nI k) L = rec (nI (k + 1), L') := by
    intro m hm hp k hk L L' rec hL hL'
    unfold pi_X3_when_37
    rw [e200, if_neg (x_gt (show k ≤ 200 by omega) (by decide)), fx k L hL, bd_s, if_neg (of_decide_eq_false (hp k hk)), hL', bv_s, bI_e, nI_1]
  have hM : ∀ P : Mem, P 50 = M 50 → ∃ A : Mem, TrI P 0 A ∧ mi_X4_when (nI h) w P = lp (fun rc35 x => pi_X4_when_35 (nI h) w rc35 x.1 x.2) FU (0, A) := by
    intro P p50
    obtain ⟨A, a1, a2⟩ := tr_go P
    refine ⟨A, a2, ?_⟩
    unfold mi_X4_when pi_X4_when_e
    rw [m_hill _ (by rw [p50]; exact hw), bd_s, p50, hv, if10, if_t, m_val, bd_s, hf, if10, if_t, a1, bv_s]
  have fm : ∀ P : Mem, P 50 = M 50 → Fc P → ∀ k L, TrI P k L → mi_X4_facesOf (nI h) L = some (fcN (itN (M 50) k) h, L) := by
    intro P p50 pf k L hL
    rw [md_faces (by omega) (hL.wf (by rw [p50]; exact hw)) (hL.fc pf), hL.1, p50]
  have stepM : ∀ P : Mem, P 50 = M 50 → Fc P → ∀ m, m ≤ 200 → (∀ k, k < m → whP (M 50) h w k = false) → ∀ k, k < m → ∀ (L L' : Mem) rec, TrI P k L → mi_X4_age L = some L' → pi_X4_when_35 (nI h) w rec (nI k) L = rec (nI (k + 1), L') := by
    intro P p50 pf m hm hp k hk L L' rec hL hL'
    unfold pi_X4_when_35
    rw [e200, if_neg (nI_ge (show k < 200 by omega) (by decide)), fm P p50 pf k L hL, bd_s, if_neg (of_decide_eq_false (hp k hk)), hL', bv_s, bI_e, nI_1]
  obtain ⟨r, hr⟩ := is_f (whP (M 50) h w) 201
  rcases hr with ⟨m, h1, h2, h3, -⟩ | ⟨h1, -⟩
  · obtain ⟨L, l1, l2⟩ := tx_loop (G := pi_X3_when_37 (nI h) w) m (by omega) k2 hw hab.1 hab.2 (stepX m (by omega) h3) (fun zo => ∃ L : Mem, zo = some (nI m, L) ∧ TrX (M 50) M m L) (fun L rec hL => ⟨L, by
      unfold pi_X3_when_37
      rw [e200, if_neg (x_gt (show m ≤ 200 by omega) (by decide)), fx m L hL, bd_s, if_pos (of_decide_eq_true h2)], hL⟩)
    have l50 : L 50 = M 50 := l2.2.2 50 (by omega)
    have lf : Fc L := fun j hj => by rw [l2.2.2 54 (by omega)]; exact hfc j hj
    have lw : Wf (L 50) := by rw [l50]; exact hw
    obtain ⟨A, a1, a2⟩ := hM L l50
    obtain ⟨Q, q1, q2⟩ := tr_loop (G := pi_X4_when_35 (nI h) w) m (by omega) a1 lw lf (stepM L l50 lf m (by omega) h3) (fun zo => ∃ Q : Mem, zo = some (nI m, Q) ∧ Bk L Q) (fun B rec hB => by
      obtain ⟨Q, q1, q2⟩ := tr_back (nI m) hB lw
      refine ⟨Q, ?_, q2⟩
      have e61 : pi_X4_when_61 (nI h) w (nI m) B = some (nI m, Q) := by
        unfold pi_X4_when_61 pi_X4_when_77
        rw [fm L l50 lf m B hB, bd_s, if_pos (of_decide_eq_true h2), q1, bd_s, orn_y (by omega), bd_s]
      unfold pi_X4_when_35
      by_cases g : 200 ≤ nI m
      · rw [if_pos g]; exact e61
      · rw [if_neg g, fm L l50 lf m B hB, bd_s, if_pos (of_decide_eq_true h2)]; exact e61)
    exact op_ask hS (hX.trans l1) l2.2.2.eqv ⟨Q, a2.trans q1, q2.eqv⟩
  · obtain ⟨L, l1, l2⟩ := tx_loop (G := pi_X3_when_37 (nI h) w) 201 (by omega) k2 hw hab.1 hab.2 (stepX 201 (by omega) h1) (fun zo => ∃ L : Mem, zo = mi_X3_finding (nI 3) L ∧ TrX (M 50) M 201 L) (fun L rec hL => ⟨L, by
      unfold pi_X3_when_37
      rw [if_pos (by decide)]; exact fx_ 3 3 rfl L, hL⟩)
    refine op_none hS l2.2.2.eqv (hX.trans l1) (fun P hP => ?_)
    have l50 : P 50 = M 50 := by rw [hP 50 (by decide), l2.2.2 50 (by omega)]
    have lf : Fc P := fun j hj => by rw [hP 54 (by decide), l2.2.2 54 (by omega)]; exact hfc j hj
    have lw : Wf (P 50) := by rw [l50]; exact hw
    obtain ⟨A, a1, a2⟩ := hM P l50
    obtain ⟨Q, q1, q2⟩ := tr_loop (G := pi_X4_when_35 (nI h) w) 200 (by omega) a1 lw lf (stepM P l50 lf 200 (by omega) (fun k hk => h1 k (by omega))) (fun zo => ∃ Q : Mem, zo = mi_X4_finding (lowI 3) Q ∧ Bk P Q) (fun B rec hB => by
      obtain ⟨Q, q1, q2⟩ := tr_back (-1) hB lw
      refine ⟨Q, ?_, q2⟩
      unfold pi_X4_when_35
      rw [if_pos (by decide)]
      unfold pi_X4_when_61 pi_X4_when_77
      rw [fm P l50 lf 200 B hB, bd_s, if_neg (of_decide_eq_false (h1 200 (by omega))), q1, bd_s, bd_id, orn_n])
    exact ⟨Q, a2.trans q1, q2.eqv⟩
/-! meet -/
theorem bit_z {P : Nat → Bool} {n z : Nat} (hn : n ≤ 30) (hz : z < n) : ((bset P n >>> (nI z &&& 31)) &&& 1) = 0 ↔ P z = false := by
  have h0 : bt ((bset P n >>> (nI z &&& 31)) &&& 1) 0 = P z := by
    rw [b_and, b_sshr z (by omega) _ (by decide), if_pos (by omega), bt1 0 (by decide), bt_bset _ n (by omega) _ (by omega), decide_eq_true (show z + 0 < n by omega)]
    simp
  constructor
  · intro h
    rw [h, b_0] at h0
    exact h0.symm
  · intro h
    refine b_ext (fun i hi => ?_)
    rw [b_0]
    by_cases c : i = 0
    · subst c; rw [h0, h]
    · rw [b_and, bt1 i hi, decide_eq_false c, Bool.and_false]
def meP (N : Nat → Int32) (h z : Nat) (k : Nat) : Bool := mtB (itN N k) h z
theorem x_until {N : Nat → Int32} {M K : Mem} {h z s : Nat} {r : Int32} (hK : TrX N M 0 K) (hw : Wf N) (h0 : 0 ≤ (N 0).toInt) (hb : (N 0).toInt + 1000 ≤ 99999) (hh : h < nH N) (hz : z < nH N) (hs : s ≤ 300) (hr : IsF (meP N h z) (s + 1) r) : ∃ L : Mem, mi_X3_agesUntilMeeting (nI h) (nI z) (nI s) K = some (r, L) ∧ Fr 13 M L := by
  have h8 := hw.2.1
  have fx : ∀ k L, TrX N M k L → mi_X2_meetsOf 13 (nI h) L = some (mtN (itN N k) h, L) := fun k L hL => by
    unfold mi_X2_meetsOf pi_X2_meetsOf_e
    rw [inb_nI (show h < 8 by omega) (by decide), gd_t, nI_clamp (by omega), (hL.2.1.1 h (by rw [nH_it]; exact hh)).2]
  have bz : ∀ k, ((mtN (itN N k) h >>> (nI z &&& 31)) &&& 1) = 0 ↔ meP N h z k = false := fun k => by
    unfold mtN meP
    exact bit_z (by rw [nH_it]; omega) (by rw [nH_it]; exact hz)
  have stepX : ∀ m, m ≤ s + 1 → (∀ k, k < m → meP N h z k = false) → ∀ k, k < m → ∀ (L L' : Mem) rec, TrX N M k L → mi_X2_passAge 13 L = some L' → pi_X3_agesUntilMeeting_3 (nI h) (nI z) (nI s) rec (nI k) L = rec (nI (k + 1), L') := by
    intro m hm hp k hk L L' rec hL hL'
    unfold pi_X3_agesUntilMeeting_3
    rw [if_neg (x_gt (show k ≤ s by omega) (by omega)), fx k L hL, bd_s, if_pos ((bz k).mpr (hp k hk)), hL', bv_s, bI_e, nI_1]
  unfold mi_X3_agesUntilMeeting pi_X3_agesUntilMeeting_e
  rcases hr with ⟨m, h1, h2, h3, rfl⟩ | ⟨h1, rfl⟩
  · exact tx_loop (G := pi_X3_agesUntilMeeting_3 (nI h) (nI z) (nI s)) m (by omega) hK hw h0 hb (stepX m (by omega) h3) (fun zo => ∃ L : Mem, zo = some (nI m, L) ∧ Fr 13 M L) (fun L rec hL => ⟨L, by
      unfold pi_X3_agesUntilMeeting_3
      rw [if_neg (x_gt (show m ≤ s by omega) (by omega)), fx m L hL, bd_s, if_neg (fun q => by rw [(bz m).mp q] at h2; cases h2)], hL.2.2⟩)
  · exact tx_loop (G := pi_X3_agesUntilMeeting_3 (nI h) (nI z) (nI s)) (s + 1) (by omega) hK hw h0 hb (stepX (s + 1) (by omega) h1) (fun zo => ∃ L : Mem, zo = some (-1, L) ∧ Fr 13 M L) (fun L rec hL => ⟨L, by
      unfold pi_X3_agesUntilMeeting_3
      rw [if_pos (show nI s < nI (s + 1) by rw [i_lt, nI_toInt (by omega), nI_toInt (by omega)]; omega)], hL.2.2⟩)
theorem m_meet {M A : Mem} {h z k : Nat} (hA : TrI M k A) (hw : Wf (M 50)) (hf : Fc M) (hh : h < nH (M 50)) (hz : z < nH (M 50)) (hne : z ≠ h) : mi_X4_doMeet (nI h) (nI z) A = some (if meP (M 50) h z k = true then 1 else 0, A) := by
  have h8 := hw.2.1
  have wA := hA.wf hw
  have fA := hA.fc hf
  unfold mi_X4_doMeet pi_X4_doMeet_e meP mtB
  rw [isB0, isB1, md_faces (by omega) wA fA, bd_s, md_h1 (by omega), bd_s, md_faces (by omega) wA fA, bd_s, md_h1 (by omega), bd_s, gd_t, gd_t, hA.1, decide_eq_false hne]
  by_cases c1 : fcN (itN (M 50) k) h = vaN (itN (M 50) k) z
  · rw [if_pos c1, decide_eq_true c1]
    by_cases c2 : fcN (itN (M 50) k) z = vaN (itN (M 50) k) h
    · rw [if_pos c2, decide_eq_true c2]; rfl
    · rw [if_neg c2, decide_eq_false c2]; rfl
  · rw [if_neg c1, decide_eq_false c1]; rfl
theorem m_meetIn {M : Mem} {h z t : Nat} {r : Int32} (hw : Wf (M 50)) (hf : Fc M) (hh : h < nH (M 50)) (hz : z < nH (M 50)) (hne : z ≠ h) (ht : t ≤ 300) (hr : IsF (meP (M 50) h z) t r) : ∃ Q : Mem, mi_X4_meetIn (nI h) (nI z) (nI t) M = some (r, Q) ∧ Bk M Q := by
  obtain ⟨A, a1, a2⟩ := tr_go M
  have stepM : ∀ m, m ≤ t → (∀ k, k < m → meP (M 50) h z k = false) → ∀ k, k < m → ∀ (L L' : Mem) rec, TrI M k L → mi_X4_age L = some L' → pi_X4_meetIn_14 (nI h) (nI z) (nI t) rec (nI k) L = rec (nI (k + 1), L') := by
    intro m hm hp k hk L L' rec hL hL'
    unfold pi_X4_meetIn_14
    rw [if_neg (nI_ge (show k < t by omega) (by omega)), m_meet hL hw hf hh hz hne, bd_s, hp k hk, if10, if_f, hL', bv_s, bI_e, nI_1]
  unfold mi_X4_meetIn pi_X4_meetIn_e
  rw [a1, bv_s]
  rcases hr with ⟨m, h1, h2, h3, rfl⟩ | ⟨h1, rfl⟩
  · exact tr_loop (G := pi_X4_meetIn_14 (nI h) (nI z) (nI t)) m (by omega) a2 hw hf (stepM m (by omega) h3) (fun zo => ∃ Q : Mem, zo = some (nI m, Q) ∧ Bk M Q) (fun B rec hB => by
      obtain ⟨Q, q1, q2⟩ := tr_back (nI m) hB hw
      refine ⟨Q, ?_, q2⟩
      unfold pi_X4_meetIn_14 pi_X4_meetIn_39 pi_X4_meetIn_52
      rw [if_neg (nI_ge h1 (by omega)), m_meet hB hw hf hh hz hne, bd_s, h2, if10, if_t, if_neg (nI_ge h1 (by omega)), q1, bd_s])
  · exact tr_loop (G := pi_X4_meetIn_14 (nI h) (nI z) (nI t)) t (by omega) a2 hw hf (stepM t (by omega) h1) (fun zo => ∃ Q : Mem, zo = some (-1, Q) ∧ Bk M Q) (fun B rec hB => by
      obtain ⟨Q, q1, q2⟩ := tr_back (-1) hB hw
      refine ⟨Q, ?_, q2⟩
      unfold pi_X4_meetIn_14 pi_X4_meetIn_39 pi_X4_meetIn_52
      rw [if_pos (Int32.le_refl _), if_pos (Int32.le_refl _), q1, bd_s])
def two (N : Nat → Int32) (v w : Int32) : Bool := inb v (nH N) && (inb w (nH N) && !(decide (v = w)))
theorem x_pair {M : Mem} {N : Nat → Int32} (v w : Int32) (hs : ShR 1 M N) (hw : Wf N) : mi_X3_isNoPair v w M = some (if two N v w = true then 0 else 1, M) := by
  unfold mi_X3_isNoPair pi_X3_isNoPair_e two
  rw [x_lacks v hs hw, bd_s, x_lacks w hs hw, bd_s, isB0, isB1, gd_t, gd_t, if01, if01]
  cases inb v (nH N) with
  | false => rfl
  | true =>
    cases inb w (nH N) with
    | false => rfl
    | true =>
      by_cases h : v = w
      · rw [if_t, if_t, if_pos h, decide_eq_true h]; rfl
      · rw [if_t, if_t, if_neg h, decide_eq_false h]; rfl
theorem m_two {M : Mem} (v w : Int32) (hw : Wf (M 50)) : mi_X4_areTwo v w M = some (if two (M 50) v w = true then 1 else 0, M) := by
  unfold mi_X4_areTwo pi_X4_areTwo_e two
  rw [m_hill v hw, bd_s, m_hill w hw, bd_s, isB0, isB1, gd_t, gd_t, if10, if10]
  cases inb v (nH (M 50)) with
  | false => rfl
  | true =>
    cases inb w (nH (M 50)) with
    | false => rfl
    | true =>
      by_cases h : v = w
      · rw [if_t, if_t, if_pos h, decide_eq_true h]; rfl
      · rw [if_t, if_t, if_neg h, decide_eq_false h]; rfl
theorem two_of {N : Nat → Int32} {v w : Int32} (h8 : nH N ≤ 8) (h : two N v w = true) : ∃ i z : Nat, i < nH N ∧ z < nH N ∧ z ≠ i ∧ v = nI i ∧ w = nI z := by
  unfold two at h
  rw [Bool.and_eq_true, Bool.and_eq_true, Bool.not_eq_true', decide_eq_false_iff_not] at h
  obtain ⟨i, hi, ei⟩ := inb_of h.1 (by omega)
  obtain ⟨z, hz, ez⟩ := inb_of h.2.1 (by omega)
  exact ⟨i, z, hi, hz, fun q => h.2.2 (by rw [ei, ez, q]), ei, ez⟩
theorem op_meet (v w : Int32) : OpI (mi_X3_meet v w) (mi_X4_meet v w) := by
  intro c M hc hS
  obtain ⟨hw, hs, ht, ha, hk, hfc, -⟩ := id hS.1
  have h8 := hw.2.1
  have hab := ha.b hc
  cases hv : two (M 50) v w with
  | false =>
    refine op_find 0 (by decide) hS ?_ (fun K hK => ?_)
    · unfold mi_X3_meet pi_X3_meet_e
      rw [x_pair v w hs hw, bd_s, hv, if01, if_f]; exact fx_ 0 0 rfl M
    · have k50 : K 50 = M 50 := hK 50 (by decide)
      unfold mi_X4_meet pi_X4_meet_e
      rw [m_two v w (by rw [k50]; exact hw), bd_s, k50, hv, if10, if_f]; exact fm_ 0 _ low0.symm K
  | true =>
  obtain ⟨i, z, hi, hz, hne, rfl, rfl⟩ := two_of h8 hv
  obtain ⟨K, k1, k2⟩ := tx_go hs hw
  obtain ⟨r, hr⟩ := is_f (meP (M 50) i z) 201
  obtain ⟨L, l1, l2⟩ := x_until (s := 200) k2 hw hab.1 hab.2 hi hz (by decide) hr
  have hX : mi_X3_meet (nI i) (nI z) M = if 0 ≤ r then some (r, L) else mi_X3_finding (nI 3) L := by
    unfold mi_X3_meet pi_X3_meet_e
    rw [x_pair _ _ hs hw, bd_s, hv, if01, if_t, k1, bv_s, show (200 : Int32) = nI 200 from rfl, l1, bd_s]
    by_cases q : 0 ≤ r
    · rw [if_pos q, if_pos q]
    · rw [if_neg q, if_neg q]; exact fx_ 3 3 rfl L
  have hM : ∀ P : Mem, P 50 = M 50 → Fc P → ∃ Q : Mem, Bk P Q ∧ mi_X4_meet (nI i) (nI z) P = mi_X4_orNone r Q := by
    intro P p50 pf
    obtain ⟨Q, q1, q2⟩ := m_meetIn (M := P) (h := i) (z := z) (t := 201) (r := r) (by rw [p50]; exact hw) pf (by rw [p50]; exact hi) (by rw [p50]; exact hz) hne (by decide) (by rw [p50]; exact hr)
    refine ⟨Q, q2, ?_⟩
    unfold mi_X4_meet pi_X4_meet_e
    rw [m_two _ _ (by rw [p50]; exact hw), bd_s, p50, hv, if10, if_t, show (201 : Int32) = nI 201 from rfl, q1, bd_s, bd_id]
  rcases hr with ⟨m, h1, h2, h3, rfl⟩ | ⟨h1, rfl⟩
  · rw [if_pos (nlt_le.mp (nI_nn (by omega)))] at hX
    obtain ⟨Q, q1, q2⟩ := hM L (l2 50 (by omega)) (fun j hj => by rw [l2 54 (by omega)]; exact hfc j hj)
    exact op_ask hS hX l2.eqv ⟨Q, q2.trans (orn_y (by omega) Q), q1.eqv⟩
  · rw [if_neg (by decide)] at hX
    refine op_none hS l2.eqv hX (fun P hP => ?_)
    obtain ⟨Q, q1, q2⟩ := hM P (by rw [hP 50 (by decide), l2 50 (by omega)]) (fun j hj => by rw [hP 54 (by decide), l2 54 (by omega)]; exact hfc j hj)
    exact ⟨Q, q2.trans (orn_n Q), q1.eqv⟩
