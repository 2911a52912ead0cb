/-! rains: both -/
theorem md_drawn (M : Mem) : mi_X4_drawn M = some (dz (nz (M 50 2)), up M 50 2 (nz (M 50 2))) := by
  unfold mi_X4_drawn pi_X4_drawn_e
  rw [in2_62, gd_t, gd_t, bM_e, gd_t, tN2, up_s, upd_s]; rfl
def wiN (N : Nat → Int32) : Nat → Nat → Int32
  | 0 => N
  | k + 1 => ageN (w2N (wiN N k))
theorem nH_w2 {N : Nat → Int32} : nH (w2N N) = nH N := by
  unfold w2N
  cases inb (whN N) (nH N)
  · exact nH_w1
  · rw [if_t, nH_upd (by omega)]; exact nH_w1
theorem wi_Wf {N : Nat → Int32} (hw : Wf N) : ∀ k, Wf (wiN N k) := by
  intro k
  induction k with
  | zero => exact hw
  | succ k ih => exact age_Wf (wf_w2 ih)
theorem wi_age {N : Nat → Int32} (h0 : 0 ≤ (N 0).toInt) : ∀ k : Nat, (N 0).toInt + k ≤ 99999 → (wiN N k 0).toInt = (N 0).toInt + k := by
  intro k
  induction k with
  | zero => intro _; show (N 0).toInt = _; omega
  | succ k ih =>
    intro h
    have i1 := ih (by omega)
    show (w2N (wiN N k) 0 + 1).toInt = _
    have e1 : (1 : Int32).toInt = 1 := by decide
    rw [w2_0, z_add (by omega) (by omega), i1, e1]; omega
theorem md_wet {M : Mem} {v x : Int32} (rec : Int32 × Mem → Option (Int32 × Mem)) (hw : Wf (M 50)) (hf : Fc M) (hx : ¬ v ≤ x) : ∃ K : Mem, pi_X4_rains_39 v rec x M = rec (x + 1, K) ∧ K 50 = ageN (w2N (M 50)) ∧ ∀ a, a ≠ 50 → ¬ Sc a → K a = M a := by
  have h8 := hw.2.1
  obtain ⟨A, hA⟩ : ∃ A : Mem, A = up (up (up M 50 2 (nz (M 50 2))) 50 3 (raN (M 50))) 50 2 (nz (nz (M 50 2))) := ⟨_, rfl⟩
  have a50 : A 50 = w1N (M 50) := by rw [hA, up_s, up_s, up_s]; rfl
  have aO : ∀ a, a ≠ 50 → A a = M a := fun a h => by rw [hA, up_o h, up_o h, up_o h]
  have e2 : ∀ r : Int32, up (up M 50 2 (nz (M 50 2))) 50 3 r 50 2 = nz (M 50 2) := fun r => by rw [up_s, upd_o (by decide), up_s, upd_s]
  have e0 : pi_X4_rains_39 v rec x M = bd (mi_X4_isHill (whN (M 50)) A) fun r_16 M_15 => if r_16 = 0 then (pi_X4_rains_93 v x rec M_15) else (bd (mi_X4_at (whN (M 50)) 3 M_15) fun r_20 M_19 => bd (mi_X4_hillIs (whN (M 50)) 3 M_19) fun r_22 M_21 => gd (inb r_20 62) <| bM (up M_21 50 r_20.toNatClampNeg ((r_22 + 1) - (r_22 + 1) / 4 * 4)) fun M_24 => pi_X4_rains_93 v x rec M_24) := by
    unfold pi_X4_rains_39
    rw [if_neg hx, md_drawn, bd_s, in3_62, gd_t, tN3, bM_e, md_drawn, bd_s, e2, bI_e, hA]
    rfl
  obtain ⟨B, b1, b2, b3⟩ : ∃ B : Mem, pi_X4_rains_39 v rec x M = pi_X4_rains_93 v x rec B ∧ B 50 = w2N (M 50) ∧ ∀ a, a ≠ 50 → B a = M a := by
    rw [e0, m_hill _ (by rw [a50]; exact wf_w1 hw), bd_s, if10, a50, nH_w1]
    unfold w2N
    cases hb : inb (whN (M 50)) (nH (M 50)) with
    | false => exact ⟨A, by rw [if_f], a50, aO⟩
    | true =>
      obtain ⟨h, hh, eh⟩ := inb_of hb (by omega)
      rw [if_t, if_t, eh, nI_clamp (by omega), md_atf _ 3 (f := 3) rfl, bd_s, md_h3 (by omega), bd_s, inb_nI (show 14 + 6 * h + 3 < 62 by omega) (by decide), gd_t, bM_e, nI_clamp (by omega), a50, tu_w1]
      exact ⟨_, rfl, by rw [up_s, a50], fun a n => by rw [up_o n]; exact aO a n⟩
  obtain ⟨K, k1, k2, k3⟩ := md_age (M := B) (by rw [b2]; exact wf_w2 hw) (fun j hj => by rw [b3 54 (by decide)]; exact hf j hj)
  refine ⟨K, ?_, by rw [k2, b2], fun a n1 n2 => by rw [k3 a n2 n1]; exact b3 a n1⟩
  rw [b1]
  unfold pi_X4_rains_93
  rw [k1, bv_s, bI_e]
theorem op_rains (v : Int32) : OpI (mi_X3_rains v) (mi_X4_rains v) := by
  intro c M hc hS
  obtain ⟨hw, hs, ht, ha, hk, hfc, -⟩ := id hS.1
  have h8 := hw.2.1
  have hab := ha.b hc
  cases hv : inR v 1 20 with
  | false =>
    refine op_find 0 (by decide) hS ?_ (fun K hK => ?_)
    · unfold mi_X3_rains pi_X3_rains_e
      rw [x_out, bd_s, hv, if01, if_f]; exact fx_ 0 0 rfl M
    · unfold mi_X4_rains pi_X4_rains_e
      rw [m_in, bd_s, hv, if10, if_f]; exact fm_ 0 _ low0.symm K
  | true =>
  obtain ⟨n, hn, rfl⟩ : ∃ n : Nat, n < 21 ∧ v = nI n := by
    have h1 := inR_iff.mp hv
    have h2 : (1 : Int32).toInt = 1 := by decide
    have h3 : (20 : Int32).toInt = 20 := by decide
    exact inb_of (inb_iff.mpr (by omega)) (by decide)
  have en : (nI n).toInt = n := nI_toInt (by omega)
  have e9 : (99999 : Int32).toInt = 99999 := by decide
  have cx : M 50 0 ≤ 99999 - nI n := by rw [i_le, z_sub (by omega) (by omega), en, e9]; omega
  have cm : M 50 0 + nI n ≤ 99999 := by rw [i_le, z_add (by omega) (by omega), en, e9]; omega
  have wn := wi_Wf hw n
  have ia := wi_age hab.1 n (by omega)
  obtain ⟨K, k1, k2, k3, k4⟩ : ∃ K : Mem, mi_X3_rains (nI n) M = some (smN (wiN (M 50) n) 4 (nH (wiN (M 50) n)), K) ∧ ShR 1 K (wiN (M 50) n) ∧ TbR 1 K (wiN (M 50) n) ∧ Fr 1 M K := by
    unfold mi_X3_rains pi_X3_rains_e
    rw [x_out, bd_s, hv, if01, if_t, hs.2.1, if_pos cx]
    refine lp_inv (I := fun j (zx : Int32 × Mem) => zx.1 = nI j ∧ ShR 1 zx.2 (wiN (M 50) j) ∧ TbR 1 zx.2 (wiN (M 50) j) ∧ Fr 1 M zx.2) (Post := fun (zo : Option (Int32 × Mem)) => ∃ K : Mem, zo = some (smN (wiN (M 50) n) 4 (nH (wiN (M 50) n)), K) ∧ ShR 1 K (wiN (M 50) n) ∧ TbR 1 K (wiN (M 50) n) ∧ Fr 1 M K) n ?_ ?_ FU (FU_le (by omega)) (0, M) ⟨rfl, hs, ht, Fr.rf⟩
    · rintro j hj ⟨x, L⟩ ⟨i1, i2, i3, i4⟩ rec
      dsimp only at i1 i2 i3 i4
      have ij := wi_age hab.1 j (by omega)
      obtain ⟨L', l1, l2, l3, l4⟩ := hd_wet i2 i3 (wi_Wf hw j) (by omega) (by omega)
      refine ⟨(nI (j + 1), L'), ⟨rfl, l2, l3, i4.tr l4⟩, ?_⟩
      show pi_X3_rains_38 (nI n) rec x L = _
      unfold pi_X3_rains_38
      rw [i1, if_neg (nI_ge hj (by omega)), l1, bv_s, bI_e, nI_1]
    · rintro ⟨x, L⟩ ⟨i1, i2, i3, i4⟩ rec
      dsimp only at i1 i2 i3 i4
      refine ⟨L, ?_, i2, i3, i4⟩
      show pi_X3_rains_38 (nI n) rec x L = _
      unfold pi_X3_rains_38
      rw [i1, if_pos (Int32.le_refl _), hd_heights i2 wn, bd_s]
  have k50 : K 50 = M 50 := k4 50 (by omega)
  have kf : Fc K := fun j hj => by rw [k4 54 (by omega)]; exact hfc j hj
  obtain ⟨Q, q1, q2, q3⟩ : ∃ Q : Mem, mi_X4_rains (nI n) K = some (smN (wiN (M 50) n) 4 (nH (wiN (M 50) n)), Q) ∧ Q 50 = wiN (M 50) n ∧ ∀ a, a ≠ 50 → ¬ Sc a → Q a = K a := by
    unfold mi_X4_rains pi_X4_rains_e
    rw [m_in, bd_s, hv, if10, if_t, in0_62, gd_t, tN0, k50, if_pos cm]
    refine lp_inv (I := fun j (zx : Int32 × Mem) => zx.1 = nI j ∧ zx.2 50 = wiN (M 50) j ∧ ∀ a, a ≠ 50 → ¬ Sc a → zx.2 a = K a) (Post := fun (zo : Option (Int32 × Mem)) => ∃ Q : Mem, zo = some (smN (wiN (M 50) n) 4 (nH (wiN (M 50) n)), Q) ∧ Q 50 = wiN (M 50) n ∧ ∀ a, a ≠ 50 → ¬ Sc a → Q a = K a) n ?_ ?_ FU (FU_le (by omega)) (0, K) ⟨rfl, k50, fun _ _ _ => rfl⟩
    · rintro j hj ⟨x, L⟩ ⟨i1, i2, i3⟩ rec
      dsimp only at i1 i2 i3
      subst i1
      obtain ⟨B, b1, b2, b3⟩ := md_wet (M := L) (v := nI n) (x := nI j) rec (by rw [i2]; exact wi_Wf hw j) (fun z hz => by rw [i3 54 (by decide) (by unfold Sc; omega)]; exact kf z hz) (nI_ge hj (by omega))
      refine ⟨(nI (j + 1), B), ⟨rfl, by dsimp only; rw [b2, i2]; rfl, fun a n1 n2 => by dsimp only; rw [b3 a n1 n2]; exact i3 a n1 n2⟩, ?_⟩
      rw [nI_1] at b1
      exact b1
    · rintro ⟨x, L⟩ ⟨i1, i2, i3⟩ rec
      dsimp only at i1 i2 i3
      refine ⟨L, ?_, i2, i3⟩
      show pi_X4_rains_39 (nI n) rec x L = _
      unfold pi_X4_rains_39
      rw [i1, if_pos (Int32.le_refl _), show (4 : Int32) = nI 4 from rfl, md_sum (by rw [i2]; exact wn) (by decide), bd_s, i2]
  refine ⟨_, K, Q, k1, q1, ?_⟩
  refine sim_row hS (Nat.le_succ c) (fun a h => k4 a (by omega)) k2 k3 wn ⟨by omega, ?_⟩ (fun a h1 h2 => q3 a h1 (fun z => h2 (by unfold Sc at z; unfold Scr; omega))) q2
  have := ha.2
  rw [ia]; omega
