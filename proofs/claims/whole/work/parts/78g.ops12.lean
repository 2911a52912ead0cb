/-! wallflowers -/
def wfN (N : Nat → Int32) (ev : Int32) : Nat → Int32
  | 0 => ev
  | k + 1 => wfN N ev k &&& (whoN (itN N k) ^^^ (-1))
def woN (N : Nat → Int32) : Nat → Int32
  | 0 => 0
  | k + 1 => woN N k ||| whoN (itN N k)
theorem wf_wo (N : Nat → Int32) (ev : Int32) : ∀ k, ev &&& (woN N k ^^^ (-1)) = wfN N ev k := by
  intro k
  induction k with
  | zero =>
    refine b_ext (fun i hi => ?_)
    show bt (ev &&& (0 ^^^ (-1))) i = bt ev i
    rw [b_and, b_xor, b_0, b_m1 i hi]; simp
  | succ k ih =>
    show ev &&& ((woN N k ||| whoN (itN N k)) ^^^ (-1)) = wfN N ev k &&& (whoN (itN N k) ^^^ (-1))
    rw [← ih]
    refine b_ext (fun i hi => ?_)
    rw [b_and, b_xor, b_or, b_and, b_and, b_xor, b_xor, b_m1 i hi]
    cases bt ev i <;> cases bt (woN N k) i <;> cases bt (whoN (itN N k)) i <;> rfl
theorem wf_stay {N : Nat → Int32} {ev : Int32} {m : Nat} (h : wfN N ev m = 0) : ∀ d, wfN N ev (m + d) = 0 := by
  intro d
  induction d with
  | zero => exact h
  | succ d ih =>
    show wfN N ev (m + d) &&& _ = 0
    rw [ih]
    refine b_ext (fun i hi => ?_)
    rw [b_and, b_0]; rfl
theorem op_wallflowers (w : Int32) : OpI (mi_X3_wallflowers w) (mi_X4_wallflowers w) := by
  intro c M hc hS
  obtain ⟨hw, hs, ht, ha, hk, hfc, -⟩ := id hS.1
  have h8 := hw.2.1
  have hab := ha.b hc
  cases hf : inb w 201 with
  | false =>
    refine op_find 0 (by decide) hS ?_ (fun K hK => ?_)
    · unfold mi_X3_wallflowers pi_X3_wallflowers_e
      rw [x_out, bd_s, inR200, hf, if01, if_f]; exact fx_ 0 0 rfl M
    · unfold mi_X4_wallflowers pi_X4_wallflowers_e
      rw [m_soon, bd_s, hf, if10, if_f]; exact fm_ 0 _ low0.symm K
  | true =>
  obtain ⟨n, hn, rfl⟩ := inb_of hf (by decide)
  obtain ⟨K, k1, k2⟩ := tx_go hs hw
  obtain ⟨ev, hev⟩ : ∃ ev : Int32, ev = (1 <<< (nI (nH (M 50)) &&& 31)) - 1 := ⟨_, rfl⟩
  have hX : mi_X3_wallflowers (nI n) M = lp (fun rc38 x => pi_X3_wallflowers_38 (nI n) rc38 x.1 x.2.1 x.2.2) FU (wfN (M 50) ev 0, 0, K) := by
    unfold mi_X3_wallflowers pi_X3_wallflowers_e mi_X2_everyone pi_X2_everyone_e
    rw [x_out, bd_s, inR200, hf, if01, if_t, k1, bv_s, bd_s, k2.2.2 1 (by omega), hs.2.2.2.1, hw.1, ← hev]
    rfl
  have st : ∀ k, k < n → ¬ wfN (M 50) ev k = 0 → ∀ (L L' : Mem) rec, TrX (M 50) M k L → mi_X2_passAge 13 L = some L' → pi_X3_wallflowers_38 (nI n) rec (wfN (M 50) ev k) (nI k) L = rec (wfN (M 50) ev (k + 1), nI (k + 1), L') := by
    intro k hk hne L L' rec hL hL'
    unfold pi_X3_wallflowers_38
    rw [if_neg (nI_ge hk (by omega)), if_neg hne, hd_who hL.1 hL.2.1 (it_Wf hw k), bd_s, bI_e, hL', bv_s, bI_e, nI_1]
    rfl
  obtain ⟨L, l1, l2⟩ : ∃ L : Mem, mi_X3_wallflowers (nI n) M = some (wfN (M 50) ev n, L) ∧ Fr 13 M L := by
    rw [hX]
    obtain ⟨r, hr⟩ := is_f (fun k => decide (wfN (M 50) ev k = 0)) n
    rcases hr with ⟨m, h1, h2, h3, -⟩ | ⟨h1, -⟩
    · have e0 : wfN (M 50) ev m = 0 := of_decide_eq_true h2
      have en : wfN (M 50) ev n = 0 := by
        have := wf_stay e0 (n - m)
        rw [show m + (n - m) = n from by omega] at this
        exact this
      exact tx_loop3 (G := pi_X3_wallflowers_38 (nI n)) (wfN (M 50) ev) m (by omega) k2 hw hab.1 hab.2 (fun k hk => st k (by omega) (of_decide_eq_false (h3 k hk))) (fun zo => ∃ L : Mem, zo = some (wfN (M 50) ev n, L) ∧ Fr 13 M L) (fun L rec hL => ⟨L, by
        unfold pi_X3_wallflowers_38
        rw [if_neg (nI_ge h1 (by omega)), if_pos e0, e0, en], hL.2.2⟩)
    · exact tx_loop3 (G := pi_X3_wallflowers_38 (nI n)) (wfN (M 50) ev) n (by omega) k2 hw hab.1 hab.2 (fun k hk => st k hk (of_decide_eq_false (h1 k hk))) (fun zo => ∃ L : Mem, zo = some (wfN (M 50) ev n, L) ∧ Fr 13 M L) (fun L rec hL => ⟨L, by
        unfold pi_X3_wallflowers_38
        rw [if_pos (Int32.le_refl _)], hL.2.2⟩)
  have l50 : L 50 = M 50 := l2 50 (by omega)
  have lf : Fc L := fun j hj => by rw [l2 54 (by omega)]; exact hfc j hj
  have lw : Wf (L 50) := by rw [l50]; exact hw
  obtain ⟨A, a1, a2⟩ := tr_go L
  obtain ⟨Q, q1, q2⟩ := tr_loop3 (G := pi_X4_wallflowers_29 (nI n)) (woN (M 50)) n (by omega) a2 lw lf (fun k hk B B' rec hB hB' => by
    unfold pi_X4_wallflowers_29
    rw [if_neg (nI_ge hk (by omega)), md_who (hB.wf lw) (hB.fc lf), bd_s, bI_e, hB', bv_s, bI_e, nI_1, hB.1, l50]
    rfl)
    (fun zo => ∃ Q : Mem, zo = some (wfN (M 50) ev n, Q) ∧ Bk L Q) (fun B rec hB => by
      obtain ⟨Q, q1, q2⟩ := tr_back (wfN (M 50) ev n) hB lw
      refine ⟨Q, ?_, q2⟩
      have e1 : B 50 1 = nI (nH (M 50)) := by
        rw [hB.1, l50, (it_Wf hw n).1, nH_it]
      unfold pi_X4_wallflowers_29
      rw [if_pos (Int32.le_refl _), in1_62, gd_t, tN1, e1, ← hev, wf_wo, q1, bd_s])
  refine op_ask hS l1 l2.eqv ⟨Q, ?_, q2.eqv⟩
  unfold mi_X4_wallflowers pi_X4_wallflowers_e
  rw [m_soon, bd_s, hf, if10, if_t, a1, bv_s]
  exact q1
