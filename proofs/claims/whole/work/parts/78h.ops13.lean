/-! the sheets: load -/
def ldN (N f : Nat → Int32) : Nat → Nat → Int32
  | 0 => N
  | k + 1 => upd (ldN N f k) (14 + 6 * k + 4) (f k)
theorem nH_ld {N f : Nat → Int32} : ∀ k, nH (ldN N f k) = nH N := by
  intro k
  induction k with
  | zero => rfl
  | succ k ih => exact (nH_upd (by omega)).trans ih
theorem okT4 {v : Int32} (h : inb v 100 = true) : okT 4 v := ⟨fun z => absurd z (by decide), fun z => absurd z (by decide), fun z => absurd z (by decide), fun z => absurd z (by decide), fun _ => h, fun z => absurd z (by decide)⟩
theorem wf_ld {N f : Nat → Int32} (hw : Wf N) : ∀ m, (∀ k, k < m → inb (f k) 100 = true) → Wf (ldN N f m) := by
  intro m
  induction m with
  | zero => intro _; exact hw
  | succ m ih => intro h; exact wf_set (ih (fun k hk => h k (by omega))) (by decide) (okT4 (h m (by omega)))
theorem ag_ld {N f : Nat → Int32} : ∀ m, ldN N f m 0 = N 0 := by
  intro m
  induction m with
  | zero => rfl
  | succ m ih => exact (upd_o (by omega)).trans ih
def ldP (N f : Nat → Int32) (k : Nat) : Bool := !(decide (k < nH N) && inb (f k) 100)
theorem ldP_no {N f : Nat → Int32} {k : Nat} (h : ldP N f k = false) : k < nH N ∧ inb (f k) 100 = true := by
  unfold ldP at h
  rw [Bool.not_eq_false', Bool.and_eq_true, decide_eq_true_iff] at h
  exact h
theorem inR99 {v : Int32} : inR v 0 99 = inb v 100 := inR_inb (k := 99) (by decide)
theorem op_load (v : Int32) : OpI (mi_X3_load v) (mi_X4_load v) := by
  intro c M hc hS
  obtain ⟨hw, hs, ht, ha, hk, hfc, hrd, h4⟩ := id hS.1
  have h8 := hw.2.1
  cases hv : inb v 4 with
  | false =>
    refine op_find 0 (by decide) hS ?_ (fun K hK => ?_)
    · unfold mi_X3_load pi_X3_load_e
      rw [x_wrong v h4, bd_s, hv, if_f, if_neg (by decide)]; exact fx_ 0 0 rfl M
    · unfold mi_X4_load pi_X4_load_e
      rw [m_lackS v, bd_s, hv, if_f, if_neg (by decide), m_lackS v, bd_s, hv, if_f]; exact fm_ 0 _ low0.symm K
  | true =>
  obtain ⟨z, hz, rfl⟩ := inb_of hv (by decide)
  obtain ⟨s0, s1, s2, s3, s4⟩ := h4 z hz
  have cz : (nI z).toNatClampNeg = z := nI_clamp (by omega)
  by_cases q : M 62 z = 0
  · refine op_find 5 (by decide) hS ?_ (fun K hK => ?_)
    · unfold mi_X3_load pi_X3_load_e
      rw [x_wrong _ h4, bd_s, hv, if_t, cz, if_pos q, if_neg (by decide)]; exact fx_ 5 5 rfl M
    · have k62 : K 62 = M 62 := hK 62 (by decide)
      unfold mi_X4_load pi_X4_load_e
      rw [m_lackS, bd_s, hv, if_t, cz, k62, if_pos q, if_neg (by decide), m_lackS, bd_s, hv, if_t, cz, k62, if_pos q]; exact fm_ 5 _ low5.symm K
  obtain ⟨s, hs40, es⟩ := inb_of s3 (by decide)
  obtain ⟨f, hf⟩ : ∃ f : Nat → Int32, f = fun k => M 64 (40 * z + k) := ⟨_, rfl⟩
  have ef : ∀ k, k < 40 → M (40 + 2 * z + 1) k = f k := fun k hk => by rw [hf]; exact s4 k hk
  obtain ⟨m, hm, hlt, hend⟩ : ∃ m, m ≤ s ∧ (∀ k, k < m → ldP (M 50) f k = false) ∧ (m < s → ldP (M 50) f m = true) := by
    obtain ⟨r, hr⟩ := is_f (ldP (M 50) f) s
    rcases hr with ⟨m, h1, h2, h3, -⟩ | ⟨h1, -⟩
    · exact ⟨m, by omega, h3, fun _ => h2⟩
    · exact ⟨s, by omega, h1, fun z => by omega⟩
  have ok : ∀ j, j ≤ m → Wf (ldN (M 50) f j) := fun j hj => wf_ld hw j (fun k hk => (ldP_no (hlt k (by omega))).2)
  obtain ⟨K, k1, k2, k3, k4⟩ : ∃ K : Mem, mi_X3_load (nI z) M = some (nI m, K) ∧ ShR 1 K (ldN (M 50) f m) ∧ TbR 1 K (ldN (M 50) f m) ∧ Fr 1 M K := by
    unfold mi_X3_load pi_X3_load_e
    rw [x_wrong _ h4, bd_s, hv, if_t, cz, if_neg q, if_pos (by decide), gd_t]
    refine lp_inv (I := fun j (zx : Int32 × Mem) => zx.1 = nI j ∧ ShR 1 zx.2 (ldN (M 50) f j) ∧ TbR 1 zx.2 (ldN (M 50) f j) ∧ Fr 1 M zx.2) (Post := fun (zo : Option (Int32 × Mem)) => ∃ K : Mem, zo = some (nI m, K) ∧ ShR 1 K (ldN (M 50) f m) ∧ TbR 1 K (ldN (M 50) f m) ∧ Fr 1 M K) m ?_ ?_ FU (FU_le (by omega)) (0, M) ⟨rfl, hs, ht, Fr.rf⟩
    · rintro j hj ⟨x, L⟩ ⟨i1, i2, i3, i4⟩ rec
      dsimp only at i1 i2 i3 i4
      obtain ⟨p1, p2⟩ := ldP_no (hlt j hj)
      obtain ⟨L', l1, l2, l3, l4⟩ := hd_set (h := j) (f := 4) (v := f j) i2 (ok j (by omega)) (by omega) (by decide) (okT4 p2)
      refine ⟨(nI (j + 1), L'), ⟨rfl, l2, l3, i4.tr l4⟩, ?_⟩
      show pi_X3_load_26 (nI z) (40 + 2 * z) rec x L = _
      unfold pi_X3_load_26
      rw [i1, i4 (40 + 2 * z) (by omega), s2, es, if_neg (nI_ge (show j < s by omega) (by omega)), x_lacks _ i2 (ok j (by omega)), bd_s, if01, nH_ld, inb_nI p1 (by omega), if_t, inb_nI (show j < 40 by omega) (by decide), gd_t, nI_clamp (by omega), i4 (40 + 2 * z + 1) (by omega), ef j (by omega), x_out, bd_s, if01, inR99, p2, if_t, gd_t, i4 (40 + 2 * z + 1) (by omega), ef j (by omega), show (4 : Int32) = nI 4 from rfl, l1, bv_s, bI_e, nI_1]
    · rintro ⟨x, L⟩ ⟨i1, i2, i3, i4⟩ rec
      dsimp only at i1 i2 i3 i4
      refine ⟨L, ?_, i2, i3, i4⟩
      show pi_X3_load_26 (nI z) (40 + 2 * z) rec x L = _
      unfold pi_X3_load_26
      rw [i1, i4 (40 + 2 * z) (by omega), s2, es]
      by_cases c1 : m < s
      · have p := hend c1
        unfold ldP at p
        rw [if_neg (nI_ge c1 (by omega)), x_lacks _ i2 (ok m (by omega)), bd_s, if01, nH_ld, inb_k (by omega) (by omega)]
        by_cases c2 : m < nH (M 50)
        · rw [decide_eq_true c2, Bool.true_and, Bool.not_eq_true'] at p
          rw [decide_eq_true c2, if_t, inb_nI (show m < 40 by omega) (by decide), gd_t, nI_clamp (by omega), i4 (40 + 2 * z + 1) (by omega), ef m (by omega), x_out, bd_s, if01, inR99, p, if_f]
        · rw [decide_eq_false c2, if_f]
      · rw [show m = s from by omega, if_pos (Int32.le_refl _)]
  have w50 : K 50 = M 50 := k4 50 (by omega)
  have w62 : K 62 = M 62 := k4 62 (by omega)
  have w63 : K 63 = M 63 := k4 63 (by omega)
  have w64 : ∀ k, K 64 (40 * z + k) = f k := fun k => by rw [k4 64 (by omega), hf]
  obtain ⟨Q, q1, q2, q3⟩ : ∃ Q : Mem, mi_X4_load (nI z) K = some (nI m, Q) ∧ Q 50 = ldN (M 50) f m ∧ ∀ a, a ≠ 50 → Q a = K a := by
    unfold mi_X4_load pi_X4_load_e
    rw [m_lackS, bd_s, hv, if_t, cz, w62, if_neg q, if_pos rfl]
    refine lp_inv (I := fun j (zx : Int32 × Mem) => zx.1 = nI j ∧ zx.2 50 = ldN (M 50) f j ∧ ∀ a, a ≠ 50 → zx.2 a = K a) (Post := fun (zo : Option (Int32 × Mem)) => ∃ Q : Mem, zo = some (nI m, Q) ∧ Q 50 = ldN (M 50) f m ∧ ∀ a, a ≠ 50 → Q a = K a) m ?_ ?_ FU (FU_le (by omega)) (0, K) ⟨rfl, w50, fun _ _ => rfl⟩
    · rintro j hj ⟨x, L⟩ ⟨i1, i2, i3⟩ rec
      dsimp only at i1 i2 i3
      obtain ⟨p1, p2⟩ := ldP_no (hlt j hj)
      refine ⟨(nI (j + 1), up L 50 (14 + 6 * j + 4) (f j)), ⟨rfl, ?_, fun a n1 => ?_⟩, ?_⟩
      · dsimp only
        rw [up_s, i2]; rfl
      · dsimp only
        rw [up_o n1]; exact i3 a n1
      · show pi_X4_load_20 (nI z) rec x L = _
        unfold pi_X4_load_20
        rw [i1, hv, gd_t, cz, i3 63 (by decide), w63, es, if_neg (nI_ge (show j < s by omega) (by omega)), m_hill _ (by rw [i2]; exact ok j (by omega)), bd_s, if10, i2, nH_ld, inb_nI p1 (by omega), if_t, e40n hz, inb_nI (show 40 * z + j < 160 by omega) (by decide), gd_t, nI_clamp (by omega), i3 64 (by decide), w64 j, m_high, bd_s, if10, p2, if_t, md_atf _ 4 (f := 4) rfl, bd_s, gd_t, inb_nI (show 14 + 6 * j + 4 < 62 by omega) (by decide), gd_t, bM_e, bI_e, nI_1, nI_clamp (by omega), i3 64 (by decide), w64 j]
    · rintro ⟨x, L⟩ ⟨i1, i2, i3⟩ rec
      dsimp only at i1 i2 i3
      refine ⟨L, ?_, i2, i3⟩
      show pi_X4_load_20 (nI z) rec x L = _
      unfold pi_X4_load_20
      rw [i1, hv, gd_t, cz, i3 63 (by decide), w63, es]
      by_cases c1 : m < s
      · have p := hend c1
        unfold ldP at p
        rw [if_neg (nI_ge c1 (by omega)), m_hill _ (by rw [i2]; exact ok m (by omega)), bd_s, if10, i2, nH_ld, inb_k (by omega) (by omega)]
        by_cases c2 : m < nH (M 50)
        · rw [decide_eq_true c2, Bool.true_and, Bool.not_eq_true'] at p
          rw [decide_eq_true c2, if_t, e40n hz, inb_nI (show 40 * z + m < 160 by omega) (by decide), gd_t, nI_clamp (by omega), i3 64 (by decide), w64 m, m_high, bd_s, if10, p, if_f]
        · rw [decide_eq_false c2, if_f]
      · rw [show m = s from by omega, if_pos (Int32.le_refl _)]
  refine ⟨nI m, K, Q, k1, q1, ?_⟩
  refine sim_row hS (Nat.le_succ c) (fun a h => k4 a (by omega)) k2 k3 (ok m (by omega)) ?_ (fun a h1 _ => q3 a h1) q2
  unfold AgB
  rw [ag_ld]; exact ha.up
