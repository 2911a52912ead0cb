/-! round itself -/
def roP (N : Nat → Int32) (k : Nat) : Bool := saB (itN N (k + 1)) N (nH N)
theorem op_round : OpI (mi_X3_round) (mi_X4_round) := by
  intro c M hc hS
  obtain ⟨hw, hs, ht, ha, hk, hfc, -⟩ := id hS.1
  have h8 := hw.2.1
  have hab := ha.b hc
  obtain ⟨K, k1, k2⟩ := tx_go hs hw
  have hX : mi_X3_round M = lp (fun rc13 x => pi_X3_round_13 rc13 x.1 x.2) FU (1, K) := by
    unfold mi_X3_round pi_X3_round_e
    rw [k1, bv_s]
  have e300 : (300 : Int32) = nI 300 := rfl
  have one : ∀ k, k < 300 → ∀ (L : Mem) rec, TrX (M 50) M k L → ∃ L' : Mem, TrX (M 50) M (k + 1) L' ∧ pi_X3_round_13 rec (nI (k + 1)) L = if roP (M 50) k = true then some (nI (k + 1), L') else rec (nI (k + 1 + 1), L') := by
    intro k hk L rec hL
    obtain ⟨L', l1, l2⟩ := tx_age hL hw hab.1 (by omega)
    refine ⟨L', l2, ?_⟩
    have s1 : ShR 1 L' (M 50) := hs.eq (fun a h1 h2 => l2.2.2 a (by omega))
    unfold pi_X3_round_13
    rw [e300, if_neg (x_gt (show k + 1 ≤ 300 by omega) (by decide)), l1, bv_s, x_same l2.1 s1 (it_Wf hw _), bd_s, nH_it, if10, bI_e, nI_1]
    rfl
  have hM : ∀ P : Mem, P 50 = M 50 → Fc P → ∃ A : Mem, TrI P 1 A ∧ mi_X4_round P = lp (fun rc17 x => pi_X4_round_17 rc17 x.1 x.2) FU (1, A) := by
    intro P p50 pf
    obtain ⟨A, a1, a2⟩ := tr_go P
    obtain ⟨B, b1, b2⟩ := tr_age a2 (by rw [p50]; exact hw) pf
    refine ⟨B, b2, ?_⟩
    unfold mi_X4_round pi_X4_round_e
    rw [a1, bv_s, b1, bv_s]
  have sm : ∀ P : Mem, P 50 = M 50 → ∀ k (B : Mem), TrI P (k + 1) B → mi_X4_isAsAside B = some (if roP (M 50) k = true then 1 else 0, B) := by
    intro P p50 k B hB
    rw [m_same hB (by rw [p50]; exact hw), p50]; rfl
  have runM : ∀ P : Mem, P 50 = M 50 → Fc P → ∀ m, m ≤ 299 → (∀ k, k < m → roP (M 50) k = false) → ∀ (Post : Option (Int32 × Mem) → Prop), (∀ (B : Mem) rec, TrI P (m + 1) B → Post (pi_X4_round_17 rec (nI (m + 1)) B)) → ∀ A, TrI P 1 A → Post (lp (fun rc17 x => pi_X4_round_17 rc17 x.1 x.2) FU (1, A)) := by
    intro P p50 pf m hm hp Post he A hA
    refine lp_inv (I := fun j (zx : Int32 × Mem) => zx.1 = nI (j + 1) ∧ TrI P (j + 1) zx.2) (Post := Post) m ?_ ?_ FU (FU_le (by omega)) (1, A) ⟨rfl, hA⟩
    · rintro j hj ⟨x, L⟩ ⟨i1, i2⟩ rec
      dsimp only at i1 i2
      subst i1
      obtain ⟨L', l1, l2⟩ := tr_age i2 (by rw [p50]; exact hw) pf
      refine ⟨(nI (j + 1 + 1), L'), ⟨rfl, l2⟩, ?_⟩
      show pi_X4_round_17 rec (nI (j + 1)) L = _
      unfold pi_X4_round_17
      rw [e300, if_neg (nI_ge (show j + 1 < 300 by omega) (by decide)), sm P p50 j L i2, bd_s, if10, hp j hj, if_f, l1, bv_s, bI_e, nI_1]
    · rintro ⟨x, L⟩ ⟨i1, i2⟩ rec
      dsimp only at i1 i2
      subst i1
      exact he L rec i2
  obtain ⟨r, hr⟩ := is_f (roP (M 50)) 300
  have runX : ∀ m, m ≤ 300 → (∀ k, k < m → roP (M 50) k = false) → ∀ (Post : Option (Int32 × Mem) → Prop), (∀ (L : Mem) rec, TrX (M 50) M m L → Post (pi_X3_round_13 rec (nI (m + 1)) L)) → Post (lp (fun rc13 x => pi_X3_round_13 rc13 x.1 x.2) FU (1, K)) := by
    intro m hm hp Post he
    refine lp_inv (I := fun j (zx : Int32 × Mem) => zx.1 = nI (j + 1) ∧ TrX (M 50) M j zx.2) (Post := Post) m ?_ ?_ FU (FU_le (by omega)) (1, K) ⟨rfl, k2⟩
    · rintro j hj ⟨x, L⟩ ⟨i1, i2⟩ rec
      dsimp only at i1 i2
      subst i1
      obtain ⟨L', l1, l2⟩ := one j (by omega) L rec i2
      refine ⟨(nI (j + 1 + 1), L'), ⟨rfl, l1⟩, ?_⟩
      show pi_X3_round_13 rec (nI (j + 1)) L = _
      rw [l2, hp j hj, if_f]
    · rintro ⟨x, L⟩ ⟨i1, i2⟩ rec
      dsimp only at i1 i2
      subst i1
      exact he L rec i2
  rcases hr with ⟨m, h1, h2, h3, -⟩ | ⟨h1, -⟩
  · obtain ⟨L, l1, l2⟩ := runX m (by omega) h3 (fun zo => ∃ L : Mem, zo = some (nI (m + 1), L) ∧ TrX (M 50) M (m + 1) L) (fun L rec hL => by
      obtain ⟨L', l1, l2⟩ := one m (by omega) L rec hL
      exact ⟨L', by rw [l2, h2, if_t], l1⟩)
    have l50 : L 50 = M 50 := l2.2.2 50 (by omega)
    have lf : Fc L := fun j hj => by rw [l2.2.2 54 (by omega)]; exact hfc j hj
    have lw : Wf (L 50) := by rw [l50]; exact hw
    obtain ⟨A, a1, a2⟩ := hM L l50 lf
    obtain ⟨Q, q1, q2⟩ := runM L l50 lf m (by omega) h3 (fun zo => ∃ Q : Mem, zo = some (nI (m + 1), Q) ∧ Bk L Q) (fun B rec hB => by
      obtain ⟨Q, q1, q2⟩ := tr_back (nI (m + 1)) hB lw
      refine ⟨Q, ?_, q2⟩
      have e61 : pi_X4_round_41 (nI (m + 1)) B = some (nI (m + 1), Q) := by
        unfold pi_X4_round_41 pi_X4_round_55
        rw [sm L l50 m B hB, bd_s, if10, h2, if_t, q1, bd_s, orn_y (by omega), bd_s]
      unfold pi_X4_round_17
      by_cases g : 300 ≤ nI (m + 1)
      · rw [if_pos g]; exact e61
      · rw [if_neg g, sm L l50 m B hB, bd_s, if10, h2, if_t]; exact e61) A a1
    exact op_ask hS (hX.trans l1) l2.2.2.eqv ⟨Q, a2.trans q1, q2.eqv⟩
  · obtain ⟨L, l1, l2⟩ := runX 300 (by omega) h1 (fun zo => ∃ L : Mem, zo = mi_X3_finding (nI 3) L ∧ TrX (M 50) M 300 L) (fun L rec hL => ⟨L, by
      unfold pi_X3_round_13
      rw [if_pos (by decide)]; exact fx_ 3 3 rfl L, hL⟩)
    refine op_none hS l2.2.2.eqv (hX.trans l1) (fun P hP => ?_)
    have l50 : P 50 = M 50 := by rw [hP 50 (by decide), l2.2.2 50 (by omega)]
    have lf : Fc P := fun j hj => by rw [hP 54 (by decide), l2.2.2 54 (by omega)]; exact hfc j hj
    have lw : Wf (P 50) := by rw [l50]; exact hw
    obtain ⟨A, a1, a2⟩ := hM P l50 lf
    obtain ⟨Q, q1, q2⟩ := runM P l50 lf 299 (by omega) (fun k hk => h1 k (by omega)) (fun zo => ∃ Q : Mem, zo = mi_X4_finding (lowI 3) Q ∧ Bk P Q) (fun B rec hB => by
      obtain ⟨Q, q1, q2⟩ := tr_back (-1) hB lw
      refine ⟨Q, ?_, q2⟩
      unfold pi_X4_round_17
      rw [if_pos (by decide)]
      unfold pi_X4_round_41 pi_X4_round_55
      rw [sm P l50 299 B hB, bd_s, if10, h1 299 (by omega), if_f, q1, bd_s, bd_id, orn_n]) A a1
    exact ⟨Q, a2.trans q1, q2.eqv⟩
