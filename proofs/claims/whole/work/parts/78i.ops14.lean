/-! rains -/
def nz (z : Int32) : Int32 := z * 1103515245 + 12345
def dz (z : Int32) : Int32 := (z.toUInt32 >>> ((8 : Int32).toUInt32 &&& Int32.toUInt32 31)).toInt32
theorem dz_nn (z : Int32) : 0 ≤ (dz z).toInt := by
  have e : dz z = bset (fun i => bt z (8 + i)) 24 := by
    refine b_ext (fun i hi => ?_)
    rw [bt_bset _ 24 (by decide) i hi]
    show bt ((z.toUInt32 >>> ((nI 8).toUInt32 &&& Int32.toUInt32 31)).toInt32) i = _
    rw [b_ushr 8 (by decide)]
    by_cases c : i < 24
    · rw [decide_eq_true c, Bool.true_and]
    · rw [decide_eq_false c, Bool.false_and, b_big (by omega)]
  rw [e, bset_num (by decide), nI_toInt (by have := bnum_lt (fun i => bt z (8 + i)) 24; omega)]
  omega
theorem rem10_in {x : Int32} (h0 : 0 ≤ x.toInt) : inb (x - x / 10 * 10) 10 = true := by
  have h1 : (x - x / 10 * 10).toInt = x.toInt.tmod 10 := rem_toInt x 10
  have h2 := tmod_bounds (a := x.toInt) (M := 10) (by decide)
  have h3 : 0 ≤ x.toInt.tmod 10 := Int.tmod_nonneg 10 h0
  rw [inb_iff]
  omega
theorem rem8_in {x : Int32} (h0 : 0 ≤ x.toInt) : inb (x - x / 8 * 8) 8 = true := by
  have h1 : (x - x / 8 * 8).toInt = x.toInt.tmod 8 := rem_toInt x 8
  have h2 := tmod_bounds (a := x.toInt) (M := 8) (by decide)
  have h3 : 0 ≤ x.toInt.tmod 8 := Int.tmod_nonneg 8 h0
  rw [inb_iff]
  omega
def raN (N : Nat → Int32) : Int32 := dz (nz (N 2)) - dz (nz (N 2)) / 10 * 10
def whN (N : Nat → Int32) : Int32 := dz (nz (nz (N 2))) - dz (nz (nz (N 2))) / 8 * 8
def w1N (N : Nat → Int32) : Nat → Int32 := upd (upd (upd N 2 (nz (N 2))) 3 (raN N)) 2 (nz (nz (N 2)))
def w2N (N : Nat → Int32) : Nat → Int32 := if inb (whN N) (nH N) = true then upd (w1N N) (14 + 6 * (whN N).toNatClampNeg + 3) (tuN N (whN N).toNatClampNeg + 1 - (tuN N (whN N).toNatClampNeg + 1) / 4 * 4) else w1N N
theorem nH_w1 {N : Nat → Int32} : nH (w1N N) = nH N := by
  unfold w1N
  rw [nH_upd (by decide), nH_upd (by decide), nH_upd (by decide)]
theorem wf_w1 {N : Nat → Int32} (hw : Wf N) : Wf (w1N N) := by
  unfold w1N
  exact wf_low (wf_low (wf_low hw (by decide) (by decide) (fun h => absurd h (by decide)) (fun h => absurd h (by decide))) (by decide) (by decide) (fun _ => rem10_in (dz_nn _)) (fun h => absurd h (by decide))) (by decide) (by decide) (fun h => absurd h (by decide)) (fun h => absurd h (by decide))
theorem tu_up {t : Int32} (h : inb t 4 = true) : inb (t + 1 - (t + 1) / 4 * 4) 4 = true := by
  have h1 := inb_iff.mp h
  have e1 : (1 : Int32).toInt = 1 := by decide
  exact rem4_in (by rw [z_add (by omega) (by omega), e1]; omega)
theorem okT3 {v : Int32} (h : inb v 4 = true) : okT 3 v := ⟨fun z => absurd z (by decide), fun z => absurd z (by decide), fun z => absurd z (by decide), fun _ => h, fun z => absurd z (by decide), fun z => absurd z (by decide)⟩
theorem wf_w2 {N : Nat → Int32} (hw : Wf N) : Wf (w2N N) := by
  unfold w2N
  cases hb : inb (whN N) (nH N) with
  | false => exact wf_w1 hw
  | true =>
    have h8 := hw.2.1
    obtain ⟨h, hh, eh⟩ := inb_of hb (by omega)
    rw [if_t, eh, nI_clamp (by omega)]
    exact wf_set (wf_w1 hw) (by decide) (okT3 (tu_up (hw.2.2.2.1 h (by omega)).2.2.2.1))
theorem tu_w1 {N : Nat → Int32} {h : Nat} : tuN (w1N N) h = tuN N h := by
  unfold tuN w1N
  rw [upd_o (by omega), upd_o (by omega), upd_o (by omega)]
theorem w2_0 {N : Nat → Int32} : w2N N 0 = N 0 := by
  unfold w2N w1N
  cases inb (whN N) (nH N)
  · rw [if_f, upd_o (by decide), upd_o (by decide), upd_o (by decide)]
  · rw [if_t, upd_o (by omega), upd_o (by decide), upd_o (by decide), upd_o (by decide)]
theorem hd_draw (b : Nat) (M : Mem) : mi_X2_draw b M = some (dz (nz (M b 2)), up M b 2 (nz (M b 2))) := by
  unfold mi_X2_draw pi_X2_draw_e
  rw [bM_e, up_s, upd_s]; rfl
theorem hd_wet {b : Nat} {M : Mem} {N : Nat → Int32} (hs : ShR b M N) (ht : TbR b M N) (hw : Wf N) (h0 : 0 ≤ (N 0).toInt) (ha : (N 0).toInt < 99999) : ∃ K : Mem, mi_X2_passWetAge b M = some K ∧ ShR b K (ageN (w2N N)) ∧ TbR b K (ageN (w2N N)) ∧ Fr b M K := by
  have h8 := hw.2.1
  obtain ⟨A, hA⟩ : ∃ A : Mem, A = up (up (up M b 2 (nz (N 2))) b 0 (raN N)) b 2 (nz (nz (N 2))) := ⟨_, rfl⟩
  have sA : ShR b A (w1N N) := by rw [hA]; exact sh_z (sh_rain (sh_z hs))
  have fA : Fr b M A := fun a h => by rw [hA, up_o (by omega), up_o (by omega), up_o (by omega)]
  have tA : TbR b A (w1N N) := by
    have t1 : TbR b A N := ht.eq (fun a q1 q2 => by rw [hA, up_o (by omega), up_o (by omega), up_o (by omega)])
    unfold w1N
    exact ((t1.low h8 (by decide) (by decide)).low (by rw [nH_upd (by decide)]; exact h8) (by decide) (by decide)).low (by rw [nH_upd (by decide), nH_upd (by decide)]; exact h8) (by decide) (by decide)
  have e0 : mi_X2_passWetAge b M = bd (mi_X2_lacks b (whN N) A) fun r_8 M_7 => if r_8 = 0 then (gd (inb (whN N) 8) <| bv (mi_X2_setTrait b (whN N) 3 (((M_7 (b + 5) (whN N).toNatClampNeg) + 1) - ((M_7 (b + 5) (whN N).toNatClampNeg) + 1) / 4 * 4) M_7) fun M_10 => pi_X2_passWetAge_43 b M_10) else (pi_X2_passWetAge_43 b M_7) := by
    have e2 : ∀ r : Int32, up (up M b 2 (nz (N 2))) b 0 r b 2 = nz (N 2) := fun r => by rw [up_s, upd_o (by decide), up_s, upd_s]
    unfold mi_X2_passWetAge pi_X2_passWetAge_e
    rw [hd_draw, bd_s, bM_e, hs.2.2.1, hd_draw, bd_s, e2, bI_e, hA]
    rfl
  obtain ⟨B, b1, b2, b3, b4⟩ : ∃ B : Mem, mi_X2_passWetAge b M = pi_X2_passWetAge_43 b B ∧ ShR b B (w2N N) ∧ TbR b B (w2N N) ∧ Fr b M B := by
    rw [e0, x_lacks _ sA (wf_w1 hw), bd_s, if01, nH_w1]
    unfold w2N
    cases hb : inb (whN N) (nH N) with
    | false => exact ⟨A, by rw [if_f], sA, tA, fA⟩
    | true =>
      obtain ⟨h, hh, eh⟩ := inb_of hb (by omega)
      rw [if_t, if_t, eh, inb_nI (show h < 8 by omega) (by decide), gd_t, nI_clamp (by omega)]
      have et : A (b + 5) h = tuN N h := by rw [(sA.2.2.2.2.2 h (by omega)).2.2.2.1, tu_w1]
      obtain ⟨L, l1, l2, l3, l4⟩ := hd_set (h := h) (f := 3) (v := tuN N h + 1 - (tuN N h + 1) / 4 * 4) sA (wf_w1 hw) (by omega) (by decide) (okT3 (tu_up (hw.2.2.2.1 h (by omega)).2.2.2.1))
      refine ⟨L, ?_, l2, l3, fA.tr l4⟩
      rw [et, show (3 : Int32) = nI 3 from rfl, l1, bv_s]
  obtain ⟨K, k1, k2, k3, k4⟩ := hd_age b2 b3 (wf_w2 hw) (by rw [w2_0]; exact h0) (by rw [w2_0]; exact ha)
  refine ⟨K, ?_, k2, k3, b4.tr k4⟩
  rw [b1]
  unfold pi_X2_passWetAge_43
  rw [k1, bv_s]
