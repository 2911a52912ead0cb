/-! the sheets: copy -/
theorem lgA (x y : Int32) : (x.toInt64 + y.toInt64).toInt = x.toInt + y.toInt := by
  have a1 := Int32.toInt_lt x
  have a2 := Int32.le_toInt x
  have d1 := Int32.toInt_lt y
  have d2 := Int32.le_toInt y
  rw [Int64.toInt_add, Int32.toInt_toInt64, Int32.toInt_toInt64]
  exact Int.bmod_eq_of_le (by omega) (by omega)
theorem lgC (x y s : Int32) : lg_cmp (x.toInt64 + y.toInt64) s.toInt64 = if s.toInt < x.toInt + y.toInt then 1 else if x.toInt + y.toInt = s.toInt then 0 else -1 := by
  unfold lg_cmp
  by_cases c1 : s.toInt < x.toInt + y.toInt
  · rw [if_pos c1, if_pos (show s.toInt64 < x.toInt64 + y.toInt64 by rw [Int64.lt_iff_toInt_lt, lgA, Int32.toInt_toInt64]; exact c1)]
  · rw [if_neg c1, if_neg (show ¬ s.toInt64 < x.toInt64 + y.toInt64 by rw [Int64.lt_iff_toInt_lt, lgA, Int32.toInt_toInt64]; exact c1)]
    by_cases c2 : x.toInt + y.toInt = s.toInt
    · rw [if_pos c2, if_pos (Int64.toInt_inj.mp (by rw [lgA, Int32.toInt_toInt64]; exact c2))]
    · rw [if_neg c2, if_neg (fun z => c2 (by rw [← lgA, z, Int32.toInt_toInt64]))]
theorem lg1 (x y s : Int32) : 0 < lg_cmp (x.toInt64 + y.toInt64) s.toInt64 ↔ s.toInt < x.toInt + y.toInt := by
  rw [lgC]
  by_cases c1 : s.toInt < x.toInt + y.toInt
  · rw [if_pos c1]; exact ⟨fun _ => c1, fun _ => by decide⟩
  · rw [if_neg c1]
    by_cases c2 : x.toInt + y.toInt = s.toInt
    · rw [if_pos c2]; exact ⟨fun z => absurd z (by decide), fun z => absurd z c1⟩
    · rw [if_neg c2]; exact ⟨fun z => absurd z (by decide), fun z => absurd z c1⟩
theorem lg2 (x y s : Int32) : lg_cmp (x.toInt64 + y.toInt64) s.toInt64 ≤ 0 ↔ x.toInt + y.toInt ≤ s.toInt := by
  have h := lg1 x y s
  rw [← nlt_le, h]; omega
def reB (p n : Int32) (s : Nat) : Bool := decide (0 ≤ p.toInt ∧ 0 ≤ n.toInt ∧ p.toInt + n.toInt ≤ s)
theorem x_reach {b s : Nat} {M : Mem} (p n : Int32) (h : M b 1 = nI s) (hs : s ≤ 40) : mi_X1_reaches b p n M = some (if reB p n s = true then 1 else 0, M) := by
  unfold mi_X1_reaches pi_X1_reaches_e reB
  have es : (nI s).toInt = s := nI_toInt (by omega)
  have o0 : (0 : Int32).toInt = 0 := by decide
  rw [h, isB0, isB1, gd_t, gd_t]
  by_cases c1 : p < 0
  · rw [if_pos c1, decide_eq_false (fun z => by have := i_lt.mp c1; omega)]; rfl
  · rw [if_neg c1]
    rw [i_lt] at c1
    by_cases c2 : n < 0
    · rw [if_pos c2, decide_eq_false (fun z => by have := i_lt.mp c2; omega)]; rfl
    · rw [if_neg c2]
      rw [i_lt] at c2
      by_cases c3 : nI s < p
      · rw [if_pos c3, decide_eq_false (fun z => by have := i_lt.mp c3; omega)]; rfl
      · rw [if_neg c3]
        rw [i_lt] at c3
        have e : (nI s - p).toInt = s - p.toInt := by rw [z_sub (by omega) (by omega), es]
        by_cases c4 : nI s - p < n
        · rw [if_pos c4, decide_eq_false (fun z => by have := i_lt.mp c4; omega)]; rfl
        · rw [if_neg c4]
          rw [i_lt] at c4
          rw [decide_eq_true (show 0 ≤ p.toInt ∧ 0 ≤ n.toInt ∧ p.toInt + n.toInt ≤ s by omega)]; rfl
theorem x_miss {b : Nat} {M : Mem} : mi_X1_isMissing b M = some (if M b 0 = 0 then 1 else 0, M) := by
  unfold mi_X1_isMissing pi_X1_isMissing_e
  rw [isB0, isB1, gd_t, gd_t]
  by_cases c : M b 0 = 0
  · rw [if_pos c, if_pos c]
  · rw [if_neg c, if_neg c]
theorem m_cp2 {P : Mem} {z y q n : Nat} {p : Int32} (hy : y < 4) (hq : q + n ≤ 40) : ∃ Q : Mem, lp (fun rc165 x => pi_X4_copy_165 (nI z) p (nI y) (nI q) (nI n) rc165 x.1 x.2) FU (0, P) = some (nI n, Q) ∧ (∀ i, Q 64 i = if 40 * y + q ≤ i ∧ i < 40 * y + q + n then P 65 (i - (40 * y + q)) else P 64 i) ∧ ∀ a, a ≠ 64 → Q a = P a := by
  refine lp_inv (I := fun k (zx : Int32 × Mem) => zx.1 = nI k ∧ (∀ i, zx.2 64 i = if 40 * y + q ≤ i ∧ i < 40 * y + q + k then P 65 (i - (40 * y + q)) else P 64 i) ∧ ∀ a, a ≠ 64 → zx.2 a = P a) (Post := fun (zo : Option (Int32 × Mem)) => ∃ Q : Mem, zo = some (nI n, Q) ∧ (∀ i, Q 64 i = if 40 * y + q ≤ i ∧ i < 40 * y + q + n then P 65 (i - (40 * y + q)) else P 64 i) ∧ ∀ a, a ≠ 64 → Q a = P a) n ?_ ?_ FU (FU_le (by omega)) (0, P) ⟨rfl, fun i => by rw [if_neg (by omega)], fun _ _ => rfl⟩
  · rintro k hk ⟨x, K⟩ ⟨i1, i2, i3⟩ rec
    dsimp only at i1 i2 i3
    refine ⟨(nI (k + 1), up K 64 (40 * y + q + k) (K 65 k)), ⟨rfl, fun i => ?_, fun a n1 => ?_⟩, ?_⟩
    · dsimp only
      rw [up_s, i3 65 (by decide)]
      by_cases c : i = 40 * y + q + k
      · rw [c, upd_s, if_pos (by omega), show 40 * y + q + k - (40 * y + q) = k by omega]
      · rw [upd_o c, i2 i]
        by_cases c2 : 40 * y + q ≤ i ∧ i < 40 * y + q + k
        · rw [if_pos c2, if_pos (by omega)]
        · rw [if_neg c2, if_neg (by omega)]
    · dsimp only
      rw [up_o n1]; exact i3 a n1
    · show pi_X4_copy_165 (nI z) p (nI y) (nI q) (nI n) rec x K = _
      unfold pi_X4_copy_165
      rw [i1, if_neg (nI_ge hk (by omega)), inb_nI (show k < 40 by omega) (by decide), gd_t, e40n hy, nI_add, inb_nI (show 40 * y + q + k < 160 by omega) (by decide), gd_t, bM_e, bI_e, nI_1, nI_clamp (by omega), nI_clamp (by omega)]
  · rintro ⟨x, K⟩ ⟨i1, i2, i3⟩ rec
    dsimp only at i1 i2 i3
    refine ⟨K, ?_, i2, i3⟩
    show pi_X4_copy_165 (nI z) p (nI y) (nI q) (nI n) rec x K = _
    unfold pi_X4_copy_165
    rw [i1, if_pos (Int32.le_refl _)]
theorem m_cp1 {P : Mem} {z p y q n : Nat} (hz : z < 4) (hp : p + n ≤ 40) (hy : y < 4) (hq : q + n ≤ 40) : ∃ Q : Mem, lp (fun rc128 x => pi_X4_copy_128 (nI z) (nI p) (nI y) (nI q) (nI n) rc128 x.1 x.2) FU (0, P) = some (nI n, Q) ∧ (∀ i, Q 64 i = if 40 * y + q ≤ i ∧ i < 40 * y + q + n then P 64 (40 * z + p + (i - (40 * y + q))) else P 64 i) ∧ ∀ a, a ≠ 64 → a ≠ 65 → Q a = P a := by
  refine lp_inv (I := fun k (zx : Int32 × Mem) => zx.1 = nI k ∧ (∀ i, i < k → zx.2 65 i = P 64 (40 * z + p + i)) ∧ ∀ a, a ≠ 65 → zx.2 a = P a) (Post := fun (zo : Option (Int32 × Mem)) => ∃ Q : Mem, zo = some (nI n, Q) ∧ (∀ i, Q 64 i = if 40 * y + q ≤ i ∧ i < 40 * y + q + n then P 64 (40 * z + p + (i - (40 * y + q))) else P 64 i) ∧ ∀ a, a ≠ 64 → a ≠ 65 → Q a = P a) n ?_ ?_ FU (FU_le (by omega)) (0, P) ⟨rfl, fun i hi => absurd hi (by omega), fun _ _ => rfl⟩
  · rintro k hk ⟨x, K⟩ ⟨i1, i2, i3⟩ rec
    dsimp only at i1 i2 i3
    refine ⟨(nI (k + 1), up K 65 k (K 64 (40 * z + p + k))), ⟨rfl, fun i hi => ?_, fun a n1 => ?_⟩, ?_⟩
    · dsimp only
      rw [up_s, i3 64 (by decide)]
      by_cases c : i = k
      · rw [c, upd_s]
      · rw [upd_o c, i2 i (by omega)]
    · dsimp only
      rw [up_o n1]; exact i3 a n1
    · show pi_X4_copy_128 (nI z) (nI p) (nI y) (nI q) (nI n) rec x K = _
      unfold pi_X4_copy_128
      rw [i1, if_neg (nI_ge hk (by omega)), inb_nI (show k < 40 by omega) (by decide), gd_t, e40n hz, nI_add, inb_nI (show 40 * z + p + k < 160 by omega) (by decide), gd_t, bM_e, bI_e, nI_1, nI_clamp (by omega), nI_clamp (by omega)]
  · rintro ⟨x, K⟩ ⟨i1, i2, i3⟩ rec
    dsimp only at i1 i2 i3
    obtain ⟨Q, q1, q2, q3⟩ := m_cp2 (P := K) (z := z) (y := y) (q := q) (n := n) (p := nI p) hy hq
    refine ⟨Q, ?_, fun i => ?_, fun a n1 n2 => by rw [q3 a n1, i3 a n2]⟩
    · show pi_X4_copy_128 (nI z) (nI p) (nI y) (nI q) (nI n) rec x K = _
      unfold pi_X4_copy_128
      rw [i1, if_pos (Int32.le_refl _)]
      exact q1
    · rw [q2 i, i3 64 (by decide)]
      by_cases c2 : 40 * y + q ≤ i ∧ i < 40 * y + q + n
      · rw [if_pos c2, if_pos c2, i2 _ (by omega)]
      · rw [if_neg c2, if_neg c2]
theorem re_of {p n : Int32} {s : Nat} (hs : s ≤ 40) (h : reB p n s = true) : ∃ i k : Nat, p = nI i ∧ n = nI k ∧ i + k ≤ s := by
  unfold reB at h
  have h1 := of_decide_eq_true h
  obtain ⟨i, i1, i2⟩ := inb_of (v := p) (n := 41) (inb_iff.mpr (by omega)) (by decide)
  obtain ⟨k, k1, k2⟩ := inb_of (v := n) (n := 41) (inb_iff.mpr (by omega)) (by decide)
  subst i2
  subst k2
  rw [nI_toInt (by omega), nI_toInt (by omega)] at h1
  exact ⟨i, k, rfl, rfl, by omega⟩
theorem op_copy (v p w q n : Int32) : OpI (mi_X3_copy v p w q n) (mi_X4_copy v p w q n) := by
  intro c M hc hS
  obtain ⟨hw, hs, ht, ha, hk, hfc, hrd, h4⟩ := id hS.1
  cases hv : inb v 4 with
  | false =>
    refine op_find 0 (by decide) hS ?_ (fun K hK => ?_)
    · unfold mi_X3_copy pi_X3_copy_e
      rw [x_nos, bd_s, hv, if01, if_f]; exact fx_ 0 0 rfl M
    · unfold mi_X4_copy pi_X4_copy_e
      rw [m_sheet, bd_s, hv, if10, if_f]; exact fm_ 0 _ low0.symm K
  | true =>
  cases hu : inb w 4 with
  | false =>
    refine op_find 0 (by decide) hS ?_ (fun K hK => ?_)
    · unfold mi_X3_copy pi_X3_copy_e
      rw [x_nos, bd_s, hv, if01, if_t, x_nos, bd_s, hu, if01, if_f]; exact fx_ 0 0 rfl M
    · unfold mi_X4_copy pi_X4_copy_e
      rw [m_sheet, bd_s, hv, if10, if_t, m_sheet, bd_s, hu, if10, if_f]; exact fm_ 0 _ low0.symm K
  | true =>
  obtain ⟨z, hz, rfl⟩ := inb_of hv (by decide)
  obtain ⟨y, hy, rfl⟩ := inb_of hu (by decide)
  obtain ⟨s0, s1, s2, s3, s4⟩ := h4 z hz
  obtain ⟨r0, r1, r2, r3, r4⟩ := h4 y hy
  have cz : (nI z).toNatClampNeg = z := nI_clamp (by omega)
  have cy : (nI y).toNatClampNeg = y := nI_clamp (by omega)
  have hX0 : mi_X3_copy (nI z) p (nI y) q n M = (if (if M 62 z = 0 then (1 : Int32) else 0) = 0 then (if (if M 62 y = 0 then (1 : Int32) else 0) = 0 then (if M 62 z = M 62 y then (bd (mi_X1_reaches (40 + 2 * z) p n M) fun r_12 M_11 => if r_12 = 0 then (pi_X3_copy_100 (nI z) p (nI y) q n M_11) else (bd (mi_X1_reaches (40 + 2 * y) q n M_11) fun r_16 M_15 => if r_16 = 0 then (pi_X3_copy_100 (nI z) p (nI y) q n M_15) else (gd (cpo p q n 40 40) <| bM (upA M_15 (40 + 2 * y + 1) (va_cpy (M_15 (40 + 2 * z + 1)) (M_15 (40 + 2 * y + 1)) p.toNatClampNeg q.toNatClampNeg n.toNatClampNeg)) fun M_17 => some (n, M_17)))) else (bd (mi_X3_finding 2 M) fun r_19 M_18 => some (r_19, M_18))) else (pi_X3_copy_52 (nI z) p (nI y) q n M)) else (pi_X3_copy_52 (nI z) p (nI y) q n M)) := by
    unfold mi_X3_copy pi_X3_copy_e
    rw [x_nos, bd_s, hv, if01, if_t, x_nos, bd_s, hu, if01, if_t, gd_t, gd_t, cz, cy, x_miss, bd_s, s0, x_miss, bd_s, s0, r0]
  have hM0 : ∀ K : Mem, K 62 = M 62 → K 63 = M 63 → mi_X4_copy (nI z) p (nI y) q n K = (if M 62 z = 0 then (pi_X4_copy_39 (nI z) p (nI y) q n K) else (if M 62 y = 0 then (pi_X4_copy_39 (nI z) p (nI y) q n K) else (if M 62 z = M 62 y then (if p < 0 then (pi_X4_copy_118 (nI z) p (nI y) q n K) else (if q < 0 then (pi_X4_copy_118 (nI z) p (nI y) q n K) else (if n < 0 then (pi_X4_copy_118 (nI z) p (nI y) q n K) else (if 0 < (lg_cmp (p.toInt64 + n.toInt64) ((M 63 z).toInt64)) then (pi_X4_copy_118 (nI z) p (nI y) q n K) else (if (lg_cmp (q.toInt64 + n.toInt64) ((M 63 y).toInt64)) ≤ 0 then (lp (fun rc128 x => pi_X4_copy_128 (nI z) p (nI y) q n rc128 x.1 x.2) FU (0, K)) else (pi_X4_copy_118 (nI z) p (nI y) q n K)))))) else (bd (mi_X4_finding (-1000003) K) fun r_26 M_25 => some (r_26, M_25))))) := by
    intro K k62 k63
    unfold mi_X4_copy pi_X4_copy_e
    rw [m_sheet, bd_s, hv, if10, if_t, m_sheet, bd_s, hu, if10, if_t, k62, k63, cz, cy]
    rfl
  by_cases g1 : M 62 z = 0
  · refine op_find 5 (by decide) hS ?_ (fun K hK => ?_)
    · rw [hX0, if_pos g1, if_neg (by decide)]; exact fx_ 5 5 rfl M
    · rw [hM0 K (hK 62 (by decide)) (hK 63 (by decide)), if_pos g1]; exact fm_ 5 _ low5.symm K
  by_cases g2 : M 62 y = 0
  · refine op_find 5 (by decide) hS ?_ (fun K hK => ?_)
    · rw [hX0, if_neg g1, if_pos rfl, if_pos g2, if_neg (by decide)]; exact fx_ 5 5 rfl M
    · rw [hM0 K (hK 62 (by decide)) (hK 63 (by decide)), if_neg g1, if_pos g2]; exact fm_ 5 _ low5.symm K
  by_cases g3 : M 62 z = M 62 y
  case neg =>
    refine op_find 2 (by decide) hS ?_ (fun K hK => ?_)
    · rw [hX0, if_neg g1, if_pos rfl, if_neg g2, if_pos rfl, if_neg g3]; exact fx_ 2 2 rfl M
    · rw [hM0 K (hK 62 (by decide)) (hK 63 (by decide)), if_neg g1, if_neg g2, if_neg g3]; exact fm_ 2 _ low2.symm K
  obtain ⟨s, hs40, es⟩ := inb_of s3 (by decide)
  obtain ⟨u, hu40, eu⟩ := inb_of r3 (by decide)
  have ts : (nI s).toInt = s := nI_toInt (by omega)
  have tu : (nI u).toInt = u := nI_toInt (by omega)
  have o0 : (0 : Int32).toInt = 0 := by decide
  have hX1 : mi_X3_copy (nI z) p (nI y) q n M = if reB p n s = true then (if reB q n u = true then (gd (cpo p q n 40 40) <| bM (upA M (40 + 2 * y + 1) (va_cpy (M (40 + 2 * z + 1)) (M (40 + 2 * y + 1)) p.toNatClampNeg q.toNatClampNeg n.toNatClampNeg)) fun M_17 => some (n, M_17)) else mi_X3_finding (nI 0) M) else mi_X3_finding (nI 0) M := by
    rw [hX0, if_neg g1, if_pos rfl, if_neg g2, if_pos rfl, if_pos g3, x_reach p n (s2.trans es) (by omega), bd_s, if10, x_reach q n (r2.trans eu) (by omega), bd_s, if10]
    rw [show pi_X3_copy_100 (nI z) p (nI y) q n M = mi_X3_finding (nI 0) M from fx_ 0 0 rfl M]
  have hM1 : ∀ K : Mem, K 62 = M 62 → K 63 = M 63 → mi_X4_copy (nI z) p (nI y) q n K = if (reB p n s && reB q n u) = true then (lp (fun rc128 x => pi_X4_copy_128 (nI z) p (nI y) q n rc128 x.1 x.2) FU (0, K)) else mi_X4_finding (lowI 0) K := by
    intro K k62 k63
    rw [hM0 K k62 k63, if_neg g1, if_neg g2, if_pos g3, show pi_X4_copy_118 (nI z) p (nI y) q n K = mi_X4_finding (lowI 0) K from fm_ 0 _ low0.symm K]
    unfold reB
    by_cases a1 : p < 0
    · rw [if_pos a1, decide_eq_false (fun z => by have := i_lt.mp a1; omega), Bool.false_and, if_f]
    · rw [if_neg a1]
      rw [i_lt] at a1
      by_cases a2 : q < 0
      · rw [if_pos a2, decide_eq_false (p := 0 ≤ q.toInt ∧ _) (fun z => by have := i_lt.mp a2; omega), Bool.and_false, if_f]
      · rw [if_neg a2]
        rw [i_lt] at a2
        by_cases a3 : n < 0
        · rw [if_pos a3, decide_eq_false (fun z => by have := i_lt.mp a3; omega), Bool.false_and, if_f]
        · rw [if_neg a3]
          rw [i_lt] at a3
          by_cases a4 : 0 < lg_cmp (p.toInt64 + n.toInt64) (M 63 z).toInt64
          · rw [if_pos a4]
            rw [lg1, es] at a4
            rw [decide_eq_false (fun z => by omega), Bool.false_and, if_f]
          · rw [if_neg a4]
            rw [lg1, es] at a4
            rw [decide_eq_true (show 0 ≤ p.toInt ∧ 0 ≤ n.toInt ∧ p.toInt + n.toInt ≤ s by omega), Bool.true_and]
            by_cases a5 : lg_cmp (q.toInt64 + n.toInt64) (M 63 y).toInt64 ≤ 0
            · rw [if_pos a5]
              rw [lg2, eu] at a5
              rw [decide_eq_true (show 0 ≤ q.toInt ∧ 0 ≤ n.toInt ∧ q.toInt + n.toInt ≤ u by omega), if_t]
            · rw [if_neg a5]
              rw [lg2, eu] at a5
              rw [decide_eq_false (fun z => by omega), if_f]
  cases b1 : reB p n s with
  | false =>
    refine op_find 0 (by decide) hS ?_ (fun K hK => ?_)
    · rw [hX1, b1, if_f]
    · rw [hM1 K (hK 62 (by decide)) (hK 63 (by decide)), b1, Bool.false_and, if_f]
  | true =>
  cases b2 : reB q n u with
  | false =>
    refine op_find 0 (by decide) hS ?_ (fun K hK => ?_)
    · rw [hX1, b1, if_t, b2, if_f]
    · rw [hM1 K (hK 62 (by decide)) (hK 63 (by decide)), b1, b2, Bool.true_and, if_f]
  | true =>
  obtain ⟨i, k, rfl, rfl, ik⟩ := re_of (by omega) b1
  obtain ⟨j, k', rfl, ek, jk⟩ := re_of (by omega) b2
  have ek2 : k = k' := nI_inj (by omega) (by omega) ek
  subst ek2
  have ci : (nI i).toNatClampNeg = i := nI_clamp (by omega)
  have cj : (nI j).toNatClampNeg = j := nI_clamp (by omega)
  have ck : (nI k).toNatClampNeg = k := nI_clamp (by omega)
  have cp : cpo (nI i) (nI j) (nI k) 40 40 = true := by
    unfold cpo
    rw [ci, cj, ck, decide_eq_false (nI_nn (by omega)), decide_eq_false (nI_nn (by omega)), decide_eq_false (nI_nn (by omega)), decide_eq_true (show i + k ≤ 40 by omega), decide_eq_true (show j + k ≤ 40 by omega)]
    rfl
  rw [b1, if_t, b2, if_t, cp, gd_t, bM_e, ci, cj, ck] at hX1
  generalize hK : upA M (40 + 2 * y + 1) (va_cpy (M (40 + 2 * z + 1)) (M (40 + 2 * y + 1)) i j k) = K at hX1
  have kO : ∀ a, a ≠ 40 + 2 * y + 1 → K a = M a := fun a ha => by rw [← hK]; exact upA_o ha
  have kS : K (40 + 2 * y + 1) = va_cpy (M (40 + 2 * z + 1)) (M (40 + 2 * y + 1)) i j k := by rw [← hK]; exact upA_s
  obtain ⟨Q, q1, q2, q3⟩ := m_cp1 (P := K) (z := z) (p := i) (y := y) (q := j) (n := k) hz (by omega) hy (by omega)
  have k64 : K 64 = M 64 := kO 64 (by omega)
  refine ⟨nI k, K, Q, hX1, ?_, ?_⟩
  · rw [hM1 K (kO 62 (by omega)) (kO 63 (by omega)), b1, b2, Bool.true_and, if_t]; exact q1
  · refine (sim_sh hS (fun a n1 n2 n3 n4 n5 => by rw [q3 a n4 n5, kO a (by omega)]) (fun e he => ?_)).up
    obtain ⟨t0, t1, t2, t3, t4⟩ := h4 e he
    rw [q3 62 (by decide) (by decide), q3 63 (by decide) (by decide), q3 (40 + 2 * e) (by omega) (by omega), q3 (40 + 2 * e + 1) (by omega) (by omega), kO 62 (by omega), kO 63 (by omega), kO (40 + 2 * e) (by omega)]
    refine ⟨t0, t1, t2, t3, fun x hx => ?_⟩
    rw [q2, k64]
    by_cases d1 : e = y
    · subst d1
      rw [kS]
      unfold va_cpy
      by_cases d2 : j ≤ x ∧ x < j + k
      · rw [if_pos d2, if_pos (by omega), s4 _ (by omega)]
        congr 1
        omega
      · rw [if_neg d2, if_neg (by omega)]; exact t4 x hx
    · rw [kO _ (by omega), if_neg (by omega)]; exact t4 x hx
