/-! as, wipe, feed -/
theorem un3_map (v w : Int32) (M : Mem) : ∀ (n : Nat) (x y : Int32), lp (fun rc4 x => pi_X3_isUnder_4 v w rc4 x.1 x.2.1 x.2.2) n (x, y, M) = (lp (fun rc4 x => pi_X3_isUnder_4 v w rc4 x.1 x.2.1 x.2.2) n (x, y, Z0)).map (fun q => (q.1, M)) := by
  intro n
  induction n with
  | zero => intro x y; rfl
  | succ n ih =>
    intro x y
    rw [lp_s, lp_s]
    show pi_X3_isUnder_4 v w _ x y M = (pi_X3_isUnder_4 v w _ x y Z0).map _
    unfold pi_X3_isUnder_4
    by_cases c1 : 7 ≤ y
    · rw [if_pos c1, if_pos c1]; rfl
    · rw [if_neg c1, if_neg c1]
      by_cases c2 : x < 0
      · rw [if_pos c2, if_pos c2]; rfl
      · rw [if_neg c2, if_neg c2]
        by_cases c3 : x = w
        · rw [if_pos c3, if_pos c3]; rfl
        · rw [if_neg c3, if_neg c3]
          cases c4 : inb x 7 with
          | false => rfl
          | true => rw [gd_t, gd_t, bI_e, bI_e, bI_e, bI_e]; exact ih _ _
theorem un4_map (v w : Int32) (M : Mem) : ∀ (n : Nat) (x : Int32), lp (fun rc2 x => pi_X4_isUnder_2 v w rc2 x.1 x.2) n (x, M) = (lp (fun rc2 x => pi_X4_isUnder_2 v w rc2 x.1 x.2) n (x, Z0)).map (fun q => (q.1, M)) := by
  intro n
  induction n with
  | zero => intro x; rfl
  | succ n ih =>
    intro x
    rw [lp_s, lp_s]
    show pi_X4_isUnder_2 v w _ x M = (pi_X4_isUnder_2 v w _ x Z0).map _
    have e : ∀ K : Mem, ∃ r : Int32, mi_X4_above x K = some (r, K) ∧ ∀ L : Mem, mi_X4_above x L = some (r, L) := by
      intro K
      unfold mi_X4_above pi_X4_above_e
      by_cases d1 : x = 0
      · exact ⟨-1, by rw [if_pos d1], fun L => by rw [if_pos d1]⟩
      · by_cases d2 : x = 3
        · exact ⟨2, by rw [if_neg d1, if_pos d2], fun L => by rw [if_neg d1, if_pos d2]⟩
        · by_cases d3 : x = 4
          · exact ⟨3, by rw [if_neg d1, if_neg d2, if_pos d3], fun L => by rw [if_neg d1, if_neg d2, if_pos d3]⟩
          · by_cases d4 : x = 6
            · exact ⟨1, by rw [if_neg d1, if_neg d2, if_neg d3, if_pos d4], fun L => by rw [if_neg d1, if_neg d2, if_neg d3, if_pos d4]⟩
            · exact ⟨0, by rw [if_neg d1, if_neg d2, if_neg d3, if_neg d4], fun L => by rw [if_neg d1, if_neg d2, if_neg d3, if_neg d4]⟩
    obtain ⟨r, e1, e2⟩ := e M
    unfold pi_X4_isUnder_2 pi_X4_isUnder_19
    rw [e1, e2 Z0, bd_s, bd_s]
    by_cases c2 : x < 0
    · rw [if_pos c2, if_pos c2, if_pos c2, if_pos c2]; rfl
    · rw [if_neg c2, if_neg c2, if_neg c2, if_neg c2]
      by_cases c3 : x = w
      · rw [if_pos c3, if_pos c3]; rfl
      · rw [if_neg c3, if_neg c3]; exact ih _
theorem un_tab : ∀ i, i < 7 → ∀ j, j < 7 → ((mi_X3_isUnder (nI i) (nI j) Z0).map Prod.fst).isSome = true ∧ (mi_X3_isUnder (nI i) (nI j) Z0).map Prod.fst = (mi_X4_isUnder (nI i) (nI j) Z0).map Prod.fst := by decide +kernel
theorem un_ok {x y : Int32} (hx : inb x 7 = true) (hy : inb y 7 = true) : ∃ r : Int32, (∀ M : Mem, mi_X3_isUnder x y M = some (r, M)) ∧ ∀ M : Mem, mi_X4_isUnder x y M = some (r, M) := by
  obtain ⟨i, hi, rfl⟩ := inb_of hx (by decide)
  obtain ⟨j, hj, rfl⟩ := inb_of hy (by decide)
  obtain ⟨h1, h2⟩ := un_tab i hi j hj
  have m3 : ∀ M : Mem, mi_X3_isUnder (nI i) (nI j) M = (mi_X3_isUnder (nI i) (nI j) Z0).map (fun q => (q.1, M)) := fun M => un3_map (nI i) (nI j) M FU (nI i) 0
  have m4 : ∀ M : Mem, mi_X4_isUnder (nI i) (nI j) M = (mi_X4_isUnder (nI i) (nI j) Z0).map (fun q => (q.1, M)) := fun M => un4_map (nI i) (nI j) M FU (nI i)
  cases e3 : mi_X3_isUnder (nI i) (nI j) Z0 with
  | none => rw [e3] at h1; cases h1
  | some q =>
    cases e4 : mi_X4_isUnder (nI i) (nI j) Z0 with
    | none => rw [e3, e4] at h2; cases h2
    | some u =>
      rw [e3, e4] at h2
      have h3 : q.1 = u.1 := Option.some.inj h2
      refine ⟨q.1, fun M => by rw [m3 M, e3]; rfl, fun M => by rw [m4 M, e4, h3]; rfl⟩
theorem inR9 {v : Int32} : inR v 0 9 = inb v 10 := inR_inb (k := 9) (by decide)
theorem op_as (v w : Int32) : OpI (mi_X3_as v w) (mi_X4_as v w) := by
  intro c M hc hS
  obtain ⟨hw, hs, ht, ha, hk, hfc, -⟩ := id hS.1
  have h8 := hw.2.1
  cases hv : inb v 10 with
  | false =>
    refine op_find 0 (by decide) hS ?_ (fun K hK => ?_)
    · unfold mi_X3_as pi_X3_as_e
      rw [x_out, bd_s, inR9, hv, if01, if_f]; exact fx_ 0 0 rfl M
    · unfold mi_X4_as pi_X4_as_e
      rw [m_spot, bd_s, hv, if10, if_f]; exact fm_ 0 _ low0.symm K
  | true =>
  cases hf : inb w 7 with
  | false =>
    refine op_find 0 (by decide) hS ?_ (fun K hK => ?_)
    · unfold mi_X3_as pi_X3_as_e
      rw [x_out, bd_s, inR9, hv, if01, if_t, x_out, bd_s, inR6, hf, if01, if_f]; exact fx_ 0 0 rfl M
    · unfold mi_X4_as pi_X4_as_e
      rw [m_spot, bd_s, hv, if10, if_t, m_kind, bd_s, hf, if10, if_f]; exact fm_ 0 _ low0.symm K
  | true =>
  obtain ⟨i, hi, rfl⟩ := inb_of hv (by decide)
  have sp := hw.2.2.2.2 i hi
  have e1 : M (1 + 1) i = M 50 (4 + i) := hs.2.2.2.2.1 i hi
  have hX : mi_X3_as (nI i) w M = (if (if inb (M 50 (4 + i)) (nH (M 50)) = true then (0 : Int32) else 1) = 0 then (bd (mi_X2_trait 1 (M 50 (4 + i)) 0 M) fun r_10 M_9 => bd (mi_X3_isUnder r_10 w M_9) fun r_12 M_11 => if r_12 = 0 then (bd (mi_X3_finding 2 M_11) fun r_14 M_13 => some (r_14, M_13)) else (some (M 50 (4 + i), M_11))) else (bd (mi_X3_finding 5 M) fun r_16 M_15 => some (r_16, M_15))) := by
    unfold mi_X3_as pi_X3_as_e
    rw [x_out, bd_s, inR9, hv, if01, if_t, x_out, bd_s, inR6, hf, if01, if_t, gd_t, bI_e, nI_clamp (by omega), e1, x_lacks _ hs hw, bd_s]
  have hM : ∀ K : Mem, (∀ a, a ≠ 48 → K a = M a) → mi_X4_as (nI i) w K = if 0 ≤ M 50 (4 + i) then (bd (mi_X4_hillIs (M 50 (4 + i)) 0 K) fun r_10 M_9 => bd (mi_X4_isUnder r_10 w M_9) fun r_12 M_11 => if r_12 = 0 then (bd (mi_X4_finding (-1000003) M_11) fun r_14 M_13 => some (r_14, M_13)) else (some (M 50 (4 + i), M_11))) else (bd (mi_X4_finding (-1000006) K) fun r_16 M_15 => some (r_16, M_15)) := by
    intro K hK
    unfold mi_X4_as pi_X4_as_e
    rw [m_spot, bd_s, hv, if10, if_t, m_kind, bd_s, hf, if10, if_t, show (4 : Int32) = nI 4 from rfl, nI_add, inb_nI (by omega) (by decide), gd_t, bI_e, nI_clamp (by omega), hK 50 (by decide)]
  cases hb : inb (M 50 (4 + i)) (nH (M 50)) with
  | false =>
    rw [hb, if01, if_f] at hX
    refine op_find 5 (by decide) hS (hX.trans (fx_ 5 5 rfl M)) (fun K hK => ?_)
    have hn : ¬ 0 ≤ M 50 (4 + i) := fun z => by
      have := inb_iff.mpr ⟨z_nonneg.mp z, sp.2⟩
      rw [hb] at this; cases this
    rw [hM K hK, if_neg hn]; exact fm_ 5 _ low5.symm K
  | true =>
    rw [hb, if01, if_t] at hX
    obtain ⟨h, hh, eh⟩ := inb_of hb (by omega)
    have hp : 0 ≤ M 50 (4 + i) := z_nonneg.mpr (inb_iff.mp hb).1
    obtain ⟨r, r3, r4⟩ := un_ok (hw.2.2.2.1 h (by omega)).1 hf
    have hX2 : mi_X3_as (nI i) w M = if r = 0 then (bd (mi_X3_finding 2 M) fun r_14 M_13 => some (r_14, M_13)) else (some (M 50 (4 + i), M)) := by
      rw [hX, eh, show (0 : Int32) = nI 0 from rfl, hd_trait hs (by omega) (by decide), bd_s, show M 50 (14 + 6 * h + 0) = kdN (M 50) h from rfl, r3 M, bd_s]
    have hM2 : ∀ K : Mem, (∀ a, a ≠ 48 → K a = M a) → mi_X4_as (nI i) w K = if r = 0 then (bd (mi_X4_finding (-1000003) K) fun r_14 M_13 => some (r_14, M_13)) else (some (M 50 (4 + i), K)) := by
      intro K hK
      rw [hM K hK, if_pos hp, eh, md_h0 (by omega), bd_s, hK 50 (by decide), r4 K, bd_s]
    by_cases hr : r = 0
    · refine op_find 2 (by decide) hS (hX2.trans ?_) (fun K hK => (hM2 K hK).trans ?_)
      · rw [if_pos hr]; exact fx_ 2 2 rfl M
      · rw [if_pos hr]; exact fm_ 2 _ low2.symm K
    · rw [if_neg hr] at hX2
      have := hM2 M (fun a _ => rfl)
      rw [if_neg hr] at this
      exact op_ask hS hX2 Eqv.rf ⟨M, this, Eqv.rf⟩
theorem sim_tape {c : Nat} {M Q : Mem} (h : Sim c M) (e : ∀ a, a ≠ 37 → a ≠ 38 → a ≠ 49 → a ≠ 59 → Q a = M a) (e49 : Q 49 3 = M 49 3) (rd : Rd Q) : Sim c Q := by
  obtain ⟨⟨h1, h2, h3, h4, h5, h6, h7, h8⟩, h9⟩ := h
  have r : ∀ a, (a < 37 ∨ 38 < a) → a ≠ 49 → a ≠ 59 → Q a = M a := fun a q1 q2 q3 => e a (by omega) (by omega) q2 q3
  have e50 : Q 50 = M 50 := r 50 (by omega) (by omega) (by omega)
  have e51 : Q 51 = M 51 := r 51 (by omega) (by omega) (by omega)
  have e48 : Q 48 = M 48 := r 48 (by omega) (by omega) (by omega)
  have e53 : Q 53 = M 53 := r 53 (by omega) (by omega) (by omega)
  refine ⟨⟨by rw [e50]; exact h1, by rw [e50]; exact h2.eq (fun a ha hb => r a (by omega) (by omega) (by omega)), by rw [e50]; exact h3.eq (fun a ha hb => r a (by omega) (by omega) (by omega)), by rw [e50]; exact h4, ⟨?_, ?_, ?_⟩, ?_, rd, ?_⟩, ?_⟩
  · rw [r 0 (by omega) (by omega) (by omega), e49]; exact h5.1
  · rw [e49]; exact h5.2.1
  · intro hk
    rw [e49] at hk
    obtain ⟨q1, q2, q3⟩ := h5.2.2 hk
    rw [e51]
    exact ⟨q1, q2.eq (fun a ha hb => r a (by omega) (by omega) (by omega)), q3⟩
  · intro j hj
    rw [r 54 (by omega) (by omega) (by omega)]; exact h6 j hj
  · intro z hz
    rw [r (40 + 2 * z) (by omega) (by omega) (by omega), r (40 + 2 * z + 1) (by omega) (by omega) (by omega), r 62 (by omega) (by omega) (by omega), r 63 (by omega) (by omega) (by omega), r 64 (by omega) (by omega) (by omega)]
    exact h8 z hz
  · unfold Fnd
    rw [e48, e53]; exact h9
theorem op_wipe : OpI mi_X3_wipe mi_X4_wipe := by
  intro c M hc hS
  obtain ⟨t, t1, t2, t3, t4⟩ := hS.1.2.2.2.2.2.2.1
  refine ⟨nI t, up M 37 1 0, up (up M 37 1 0) 49 11 0, ?_, ?_, ?_⟩
  · unfold mi_X3_wipe pi_X3_wipe_e
    rw [bI_e, bM_e, t2]
  · unfold mi_X4_wipe pi_X4_wipe_e
    rw [bI_e, bM_e, up_o (by decide), t3]
  · refine (sim_tape hS (fun a n1 n2 n3 n4 => by rw [up_o n3, up_o n1]) ?_ ⟨0, by omega, ?_, ?_, fun j hj => ?_⟩).up
    · rw [up_s, upd_o (by decide), up_o (by decide)]
    · rw [up_o (by decide), up_s, upd_s]; rfl
    · rw [up_s, upd_s]; rfl
    · rw [up_o (by decide), up_o (by decide), up_o (by decide), up_o (by decide)]; exact t4 j hj
def byt (v : Int32) (m : Nat) : Int32 := (v >>> (nI (8 * m) &&& 31)) &&& 255
theorem byte_in (x : Int32) : inb (x &&& 255) 256 = true := by
  have e : x &&& 255 = bset (bt x) 8 := by
    refine b_ext (fun i hi => ?_)
    rw [b_and, b_255, bt_bset _ 8 (by decide) i hi]
    cases bt x i <;> simp
  rw [e, bset_num (by decide)]
  exact inb_nI (bnum_lt _ 8) (by decide)
def tpN (t n : Nat) (v : Int32) (f : Nat → Int32) : Nat → Nat → Int32
  | 0 => f
  | j + 1 => upd (tpN t n v f j) (t + j) (byt v (n - 1 - j))
theorem tp_ok {t n : Nat} {v : Int32} {f g : Nat → Int32} (h : ∀ i, i < 120 → f i = g i ∧ inb (g i) 256 = true) : ∀ j i, i < 120 → tpN t n v f j i = tpN t n v g j i ∧ inb (tpN t n v g j i) 256 = true := by
  intro j
  induction j with
  | zero => exact h
  | succ j ih =>
    intro i hi
    show upd _ _ _ i = upd _ _ _ i ∧ inb (upd _ _ _ i) 256 = true
    by_cases c : i = t + j
    · subst c; rw [upd_s, upd_s]; exact ⟨rfl, byte_in _⟩
    · rw [upd_o c, upd_o c]; exact ih i hi
theorem m8 : ∀ m, m < 5 → (8 : Int32) * nI m = nI (8 * m) := by decide
theorem d8 : ∀ m, m < 5 → nI (8 * (m + 1)) + (-8) = nI (8 * m) := by decide
theorem d1 : ∀ m, m < 5 → nI (m + 1) + (-1) = nI m := by decide
theorem s8 : ∀ n, n < 5 → (8 : Int32) * (nI n - 1) = nI (8 * n) + (-8) := by decide
theorem s1 : ∀ n, n < 5 → nI n - 1 = nI n + (-1) := by decide
theorem nI_nn {k : Nat} (h : k < 2 ^ 31) : ¬ nI k < 0 := by
  rw [i_lt, nI_toInt h]
  have h5 : (0 : Int32).toInt = 0 := by decide
  omega
theorem feed3 {t n : Nat} {v w : Int32} (hn : n < 5) (ht : t + n ≤ 120) (M : Mem) (h0 : M 37 1 = nI t) : ∃ K : Mem, lp (fun rc42 x => pi_X3_feed_42 v w rc42 x.1 x.2) FU (nI (8 * n) + (-8), M) = some (nI (t + n), K) ∧ K 37 1 = nI (t + n) ∧ K 38 = tpN t n v (M 38) n ∧ ∀ a, a ≠ 37 → a ≠ 38 → K a = M a := by
  refine lp_inv (I := fun j (zx : Int32 × Mem) => zx.1 = nI (8 * (n - j)) + (-8) ∧ zx.2 37 1 = nI (t + j) ∧ zx.2 38 = tpN t n v (M 38) j ∧ ∀ a, a ≠ 37 → a ≠ 38 → zx.2 a = M a) (Post := fun (zo : Option (Int32 × Mem)) => ∃ K : Mem, zo = some (nI (t + n), K) ∧ K 37 1 = nI (t + n) ∧ K 38 = tpN t n v (M 38) n ∧ ∀ a, a ≠ 37 → a ≠ 38 → K a = M a) n ?_ ?_ FU (FU_le (by omega)) (nI (8 * n) + (-8), M) ⟨rfl, h0, rfl, fun _ _ _ => rfl⟩
  · rintro j hj ⟨x, K⟩ ⟨i1, i2, i3, i4⟩ rec
    dsimp only at i1 i2 i3 i4
    have ex : x = nI (8 * (n - 1 - j)) := by
      rw [i1, show n - j = (n - 1 - j) + 1 from by omega, d8 _ (by omega)]
    refine ⟨(nI (8 * (n - (j + 1))) + (-8), up (up K 38 (t + j) (byt v (n - 1 - j))) 37 1 (nI (t + (j + 1)))), ⟨rfl, ?_, ?_, ?_⟩, ?_⟩
    · dsimp only
      rw [up_s, upd_s]
    · dsimp only
      rw [up_o (by decide), up_s, i3]; rfl
    · intro a n1 n2
      dsimp only
      rw [up_o n1, up_o n2]; exact i4 a n1 n2
    · show pi_X3_feed_42 v w rec x K = _
      unfold pi_X3_feed_42 mi_X0_append pi_X0_append_e
      rw [ex, if_neg (nI_nn (by omega)), i2, inb_nI (show t + j < 120 by omega) (by decide), gd_t, bM_e, bM_e, bv_s, bI_e, nI_clamp (by omega), up_o (show (37 : Nat) ≠ 38 by decide), i2, nI_1, show n - (j + 1) = n - 1 - j from by omega]
      rfl
  · rintro ⟨x, K⟩ ⟨i1, i2, i3, i4⟩ rec
    dsimp only at i1 i2 i3 i4
    refine ⟨K, ?_, i2, i3, i4⟩
    show pi_X3_feed_42 v w rec x K = _
    unfold pi_X3_feed_42
    rw [i1, Nat.sub_self, if_pos (by decide), i2]
theorem feed4 {t n : Nat} {v w : Int32} (hn : n < 5) (ht : t + n ≤ 120) (M : Mem) (h0 : M 49 11 = nI t) : ∃ K : Mem, lp (fun rc38 x => pi_X4_feed_38 v w rc38 x.1 x.2) FU (nI n + (-1), M) = some (nI (t + n), K) ∧ K 49 11 = nI (t + n) ∧ K 49 3 = M 49 3 ∧ K 59 = tpN t n v (M 59) n ∧ ∀ a, a ≠ 49 → a ≠ 59 → K a = M a := by
  refine lp_inv (I := fun j (zx : Int32 × Mem) => zx.1 = nI (n - j) + (-1) ∧ zx.2 49 11 = nI (t + j) ∧ zx.2 49 3 = M 49 3 ∧ zx.2 59 = tpN t n v (M 59) j ∧ ∀ a, a ≠ 49 → a ≠ 59 → zx.2 a = M a) (Post := fun (zo : Option (Int32 × Mem)) => ∃ K : Mem, zo = some (nI (t + n), K) ∧ K 49 11 = nI (t + n) ∧ K 49 3 = M 49 3 ∧ K 59 = tpN t n v (M 59) n ∧ ∀ a, a ≠ 49 → a ≠ 59 → K a = M a) n ?_ ?_ FU (FU_le (by omega)) (nI n + (-1), M) ⟨rfl, h0, rfl, rfl, fun _ _ _ => rfl⟩
  · rintro j hj ⟨x, K⟩ ⟨i1, i2, i5, i3, i4⟩ rec
    dsimp only at i1 i2 i3 i4 i5
    have ex : x = nI (n - 1 - j) := by
      rw [i1, show n - j = (n - 1 - j) + 1 from by omega, d1 _ (by omega)]
    refine ⟨(nI (n - (j + 1)) + (-1), up (up K 59 (t + j) (byt v (n - 1 - j))) 49 11 (nI (t + (j + 1)))), ⟨rfl, ?_, ?_, ?_, ?_⟩, ?_⟩
    · dsimp only
      rw [up_s, upd_s]
    · dsimp only
      rw [up_s, upd_o (by decide), up_o (by decide)]; exact i5
    · dsimp only
      rw [up_o (by decide), up_s, i3]; rfl
    · intro a n1 n2
      dsimp only
      rw [up_o n1, up_o n2]; exact i4 a n1 n2
    · show pi_X4_feed_38 v w rec x K = _
      unfold pi_X4_feed_38
      rw [ex, if_neg (nI_nn (by omega)), i2, inb_nI (show t + j < 120 by omega) (by decide), gd_t, bM_e, bM_e, bI_e, nI_clamp (by omega), up_o (show (49 : Nat) ≠ 59 by decide), i2, nI_1, m8 _ (by omega), show n - (j + 1) = n - 1 - j from by omega]
      rfl
  · rintro ⟨x, K⟩ ⟨i1, i2, i5, i3, i4⟩ rec
    dsimp only at i1 i2 i3 i4 i5
    refine ⟨K, ?_, i2, i5, i3, i4⟩
    show pi_X4_feed_38 v w rec x K = _
    unfold pi_X4_feed_38
    rw [i1, Nat.sub_self, if_pos (by decide), i2]
theorem op_feed (v w : Int32) : OpI (mi_X3_feed v w) (mi_X4_feed v w) := by
  intro c M hc hS
  obtain ⟨t, t1, t2, t3, t4⟩ := hS.1.2.2.2.2.2.2.1
  cases hv : inR w 1 4 with
  | false =>
    refine op_find 0 (by decide) hS ?_ (fun K hK => ?_)
    · unfold mi_X3_feed pi_X3_feed_e
      rw [x_out, bd_s, hv, if01, if_f]; exact fx_ 0 0 rfl M
    · unfold mi_X4_feed pi_X4_feed_e
      rw [m_in, bd_s, hv, if10, if_f]; exact fm_ 0 _ low0.symm K
  | true =>
  obtain ⟨n, hn, rfl⟩ : ∃ n : Nat, n < 5 ∧ w = nI n := by
    have h1 := inR_iff.mp hv
    have h2 : (1 : Int32).toInt = 1 := by decide
    have h3 : (4 : Int32).toInt = 4 := by decide
    exact inb_of (inb_iff.mpr (by omega)) (by decide)
  have et : (nI t).toInt = t := nI_toInt (by omega)
  have en : (nI n).toInt = n := nI_toInt (by omega)
  have e120 : (120 : Int32).toInt = 120 := by decide
  have cx : nI t ≤ 120 - nI n ↔ t + n ≤ 120 := by
    rw [i_le, z_sub (by omega) (by omega), et, en, e120]; omega
  have cm : nI t + nI n ≤ 120 ↔ t + n ≤ 120 := by
    rw [i_le, z_add (by omega) (by omega), et, en, e120]; omega
  by_cases hb : t + n ≤ 120
  · obtain ⟨K, k1, k2, k3, k4⟩ := feed3 (v := v) (w := nI n) hn hb M t2
    have k49 : K 49 = M 49 := k4 49 (by decide) (by decide)
    obtain ⟨Q, q1, q2, q3, q4, q5⟩ := feed4 (v := v) (w := nI n) hn hb K (by rw [k49]; exact t3)
    refine ⟨nI (t + n), K, Q, ?_, ?_, ?_⟩
    · unfold mi_X3_feed pi_X3_feed_e
      rw [x_out, bd_s, hv, if01, if_t, t2, if_pos (cx.mpr hb), bI_e, s8 n hn, k1]
    · unfold mi_X4_feed pi_X4_feed_e
      rw [m_in, bd_s, hv, if10, if_t, k49, t3, if_pos (cm.mpr hb), bI_e, s1 n hn, q1]
    · refine (sim_tape hS (fun a n1 n2 n3 n4 => by rw [q5 a n3 n4, k4 a n1 n2]) (by rw [q3, k49]) ⟨t + n, hb, ?_, q2, fun j hj => ?_⟩).up
      · rw [q5 37 (by decide) (by decide)]; exact k2
      · rw [q4, q5 38 (by decide) (by decide), k3, k4 59 (by decide) (by decide)]
        exact tp_ok t4 n j hj
  · refine op_find 1 (by decide) hS ?_ (fun K hK => ?_)
    · unfold mi_X3_feed pi_X3_feed_e
      rw [x_out, bd_s, hv, if01, if_t, t2, if_neg (mt cx.mp hb)]; exact fx_ 1 1 rfl M
    · unfold mi_X4_feed pi_X4_feed_e
      rw [m_in, bd_s, hv, if10, if_t, hK 49 (by decide), t3, if_neg (mt cm.mp hb)]; exact fm_ 1 _ low1.symm K
