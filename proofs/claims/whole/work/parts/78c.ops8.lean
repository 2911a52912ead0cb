/-! skylines, wallflowers -/
theorem tx_loop3 {N : Nat → Int32} {M K : Mem} {G : (Int32 × Int32 × Mem → Option (Int32 × Mem)) → Int32 → Int32 → Mem → Option (Int32 × Mem)} (acc : Nat → Int32) (n : Nat) (hn : n ≤ 900) (h : TrX N M 0 K) (hw : Wf N) (h0 : 0 ≤ (N 0).toInt) (hb : (N 0).toInt + 1000 ≤ 99999)
    (hs : ∀ k, k < n → ∀ (L L' : Mem) rec, TrX N M k L → mi_X2_passAge 13 L = some L' → G rec (acc k) (nI k) L = rec (acc (k + 1), nI (k + 1), L'))
    (Post : Option (Int32 × Mem) → Prop) (he : ∀ (L : Mem) rec, TrX N M n L → Post (G rec (acc n) (nI n) L)) : Post (lp (fun rc x => G rc x.1 x.2.1 x.2.2) FU (acc 0, 0, K)) := by
  refine lp_inv (I := fun j (zx : Int32 × Int32 × Mem) => zx.1 = acc j ∧ zx.2.1 = nI j ∧ TrX N M j zx.2.2) (Post := Post) n ?_ ?_ FU (FU_le (by omega)) (acc 0, 0, K) ⟨rfl, rfl, h⟩
  · rintro j hj ⟨y, x, L⟩ ⟨i0, i1, i2⟩ rec
    dsimp only at i0 i1 i2
    subst i0
    subst i1
    obtain ⟨L', l1, l2⟩ := tx_age i2 hw h0 (by omega)
    exact ⟨(acc (j + 1), nI (j + 1), L'), ⟨rfl, rfl, l2⟩, hs j hj L L' rec i2 l1⟩
  · rintro ⟨y, x, L⟩ ⟨i0, i1, i2⟩ rec
    dsimp only at i0 i1 i2
    subst i0
    subst i1
    exact he L rec i2
theorem tr_loop3 {M K : Mem} {G : (Int32 × Int32 × Mem → Option (Int32 × Mem)) → Int32 → Int32 → Mem → Option (Int32 × Mem)} (acc : Nat → Int32) (n : Nat) (hn : n ≤ 900) (h : TrI M 0 K) (hw : Wf (M 50)) (hf : Fc M)
    (hs : ∀ k, k < n → ∀ (L L' : Mem) rec, TrI M k L → mi_X4_age L = some L' → G rec (acc k) (nI k) L = rec (acc (k + 1), nI (k + 1), L'))
    (Post : Option (Int32 × Mem) → Prop) (he : ∀ (L : Mem) rec, TrI M n L → Post (G rec (acc n) (nI n) L)) : Post (lp (fun rc x => G rc x.1 x.2.1 x.2.2) FU (acc 0, 0, K)) := by
  refine lp_inv (I := fun j (zx : Int32 × Int32 × Mem) => zx.1 = acc j ∧ zx.2.1 = nI j ∧ TrI M j zx.2.2) (Post := Post) n ?_ ?_ FU (FU_le (by omega)) (acc 0, 0, K) ⟨rfl, rfl, h⟩
  · rintro j hj ⟨y, x, L⟩ ⟨i0, i1, i2⟩ rec
    dsimp only at i0 i1 i2
    subst i0
    subst i1
    obtain ⟨L', l1, l2⟩ := tr_age i2 hw hf
    exact ⟨(acc (j + 1), nI (j + 1), L'), ⟨rfl, rfl, l2⟩, hs j hj L L' rec i2 l1⟩
  · rintro ⟨y, x, L⟩ ⟨i0, i1, i2⟩ rec
    dsimp only at i0 i1 i2
    subst i0
    subst i1
    exact he L rec i2
def slN (N : Nat → Int32) (v : Int32) : Nat → Int32
  | 0 => 0
  | k + 1 => if loN (itN N k) v = 0 then slN N v k else slN N v k + 1
theorem inR200 {v : Int32} : inR v 0 200 = inb v 201 := inR_inb (k := 200) (by decide)
theorem op_skylines (v w : Int32) : OpI (mi_X3_skylines v w) (mi_X4_skylines v w) := by
  intro c M hc hS
  obtain ⟨hw, hs, ht, ha, hk, hfc, -⟩ := id hS.1
  have h8 := hw.2.1
  have hab := ha.b hc
  cases hv : inb v 12 with
  | false =>
    refine op_find 0 (by decide) hS ?_ (fun K hK => ?_)
    · unfold mi_X3_skylines pi_X3_skylines_e
      rw [x_nov, bd_s, hv, if01, if_f]; exact fx_ 0 0 rfl M
    · unfold mi_X4_skylines pi_X4_skylines_e
      rw [m_val, bd_s, hv, if10, if_f]; exact fm_ 0 _ low0.symm K
  | true =>
  cases hf : inb w 201 with
  | false =>
    refine op_find 0 (by decide) hS ?_ (fun K hK => ?_)
    · unfold mi_X3_skylines pi_X3_skylines_e
      rw [x_nov, bd_s, hv, if01, if_t, x_out, bd_s, inR200, hf, if01, if_f]; exact fx_ 0 0 rfl M
    · unfold mi_X4_skylines pi_X4_skylines_e
      rw [m_val, bd_s, hv, if10, if_t, m_soon, bd_s, hf, if10, if_f]; exact fm_ 0 _ low0.symm K
  | true =>
  obtain ⟨j, hj, rfl⟩ := inb_of hv (by decide)
  obtain ⟨n, hn, rfl⟩ := inb_of hf (by decide)
  obtain ⟨K, k1, k2⟩ := tx_go hs hw
  obtain ⟨L, l1, l2⟩ := tx_loop3 (G := pi_X3_skylines_40 (nI j) (nI n)) (slN (M 50) (nI j)) n (by omega) k2 hw hab.1 hab.2 (fun k hk L L' rec hL hL' => by
    have e1 : mi_X2_facing 13 (nI j) L = some (loN (itN (M 50) k) (nI j), L) := by
      unfold mi_X2_facing pi_X2_facing_e
      rw [hv, gd_t, nI_clamp (by omega), (hL.2.1.2 j hj).2]
    unfold pi_X3_skylines_40 pi_X3_skylines_60
    rw [if_neg (nI_ge hk (by omega)), e1, bd_s]
    by_cases q : loN (itN (M 50) k) (nI j) = 0
    · rw [if_pos q, hL', bv_s, bI_e, nI_1, show slN (M 50) (nI j) (k + 1) = slN (M 50) (nI j) k from if_pos q]
    · rw [if_neg q, bI_e, hL', bv_s, bI_e, nI_1, show slN (M 50) (nI j) (k + 1) = slN (M 50) (nI j) k + 1 from if_neg q])
    (fun zo => ∃ L : Mem, zo = some (slN (M 50) (nI j) n, L) ∧ Fr 13 M L) (fun L rec hL => ⟨L, by
      unfold pi_X3_skylines_40
      rw [if_pos (Int32.le_refl _)], hL.2.2⟩)
  have l50 : L 50 = M 50 := l2 50 (by omega)
  have lf : Fc L := fun j hj => by rw [l2 54 (by omega)]; exact hfc j hj
  have lw : Wf (L 50) := by rw [l50]; exact hw
  obtain ⟨A, a1, a2⟩ := tr_go L
  obtain ⟨Q, q1, q2⟩ := tr_loop3 (G := pi_X4_skylines_37 (nI j) (nI n)) (slN (M 50) (nI j)) n (by omega) a2 lw lf (fun k hk B B' rec hB hB' => by
    have e1 : mi_X4_facing (nI j) B = some (loN (itN (M 50) k) (nI j), B) := by
      rw [md_facing _ (hB.wf lw) (hB.fc lf), hB.1, l50]
    unfold pi_X4_skylines_37 pi_X4_skylines_57
    rw [if_neg (nI_ge hk (by omega)), e1, bd_s]
    by_cases q : loN (itN (M 50) k) (nI j) = 0
    · rw [if_pos q, bI_e, hB', bv_s, bI_e, nI_1, Int32.add_zero, show slN (M 50) (nI j) (k + 1) = slN (M 50) (nI j) k from if_pos q]
    · rw [if_neg q, bI_e, hB', bv_s, bI_e, nI_1, show slN (M 50) (nI j) (k + 1) = slN (M 50) (nI j) k + 1 from if_neg q])
    (fun zo => ∃ Q : Mem, zo = some (slN (M 50) (nI j) n, Q) ∧ Bk L Q) (fun B rec hB => by
      obtain ⟨Q, q1, q2⟩ := tr_back (slN (M 50) (nI j) n) hB lw
      refine ⟨Q, ?_, q2⟩
      unfold pi_X4_skylines_37
      rw [if_pos (Int32.le_refl _), q1, bd_s])
  refine op_ask hS (r := slN (M 50) (nI j) n) (K := L) ?_ l2.eqv ⟨Q, ?_, q2.eqv⟩
  · unfold mi_X3_skylines pi_X3_skylines_e
    rw [x_nov, bd_s, hv, if01, if_t, x_out, bd_s, inR200, hf, if01, if_t, k1, bv_s]
    exact l1
  · unfold mi_X4_skylines pi_X4_skylines_e
    rw [m_val, bd_s, hv, if10, if_t, m_soon, bd_s, hf, if10, if_t, a1, bv_s]
    exact q1
