/-! stand, stepFor, turnFor -/
theorem updUU {g : Nat → Int32} {j : Nat} {w v : Int32} : upd (upd g j w) j v = upd g j v := by
  funext i
  by_cases c : i = j
  · subst c; rw [upd_s, upd_s]
  · rw [upd_o c, upd_o c, upd_o c]
theorem updId {g : Nat → Int32} {j : Nat} : upd g j (g j) = g := by
  funext i
  by_cases c : i = j
  · subst c; rw [upd_s]
  · rw [upd_o c]
theorem x_untilT {N : Nat → Int32} {M K : Mem} {h z t : Nat} {r : Int32} (hK : TrX N M 0 K) (hw : Wf N) (h0 : 0 ≤ (N 0).toInt) (hb : (N 0).toInt + 1000 ≤ 99999) (hh : h < nH N) (hz : z < nH N) (ht : t ≤ 301) (hr : IsF (meP N h z) t r) : ∃ L : Mem, mi_X3_agesUntilMeeting (nI h) (nI z) (nI t - 1) K = some (r, L) ∧ Fr 13 M L := by
  cases t with
  | zero =>
    rcases hr with ⟨m, h1, -⟩ | ⟨-, rfl⟩
    · omega
    · unfold mi_X3_agesUntilMeeting pi_X3_agesUntilMeeting_e
      exact tx_loop (G := pi_X3_agesUntilMeeting_3 (nI h) (nI z) (nI 0 - 1)) 0 (by omega) hK hw h0 hb (fun k hk => absurd hk (by omega)) (fun zo => ∃ L : Mem, zo = some (-1, L) ∧ Fr 13 M L) (fun L rec hL => ⟨L, by
        unfold pi_X3_agesUntilMeeting_3
        rw [if_pos (show nI 0 - 1 < nI 0 by decide)], hL.2.2⟩)
  | succ s =>
    rw [nI_pred]
    exact x_until hK hw h0 hb hh hz (by omega) hr
theorem x_try {M K : Mem} {N : Nat → Int32} {h f : Nat} {v : Int32} (hs : ShR 1 M N) (hw : Wf N) (hK : Fr 13 M K) (hh : h < 8) (hf : f < 6) (hv : okT f v) : ∃ L : Mem, mi_X3_tryWith (nI h) (nI f) v K = some L ∧ TrX (upd N (14 + 6 * h + f) v) M 0 L := by
  have s1 : ShR 1 K N := hs.eq (fun a h1 h2 => hK a (by omega))
  obtain ⟨A, a1, a2, a3, a4⟩ := hd_become (b := 13) s1 hw (by omega)
  obtain ⟨B, b1, b2, b3, b4⟩ := hd_set a2 hw hh hf hv
  refine ⟨B, ?_, b2, b3, (hK.tr a4).tr b4⟩
  unfold mi_X3_tryWith pi_X3_tryWith_e
  rw [a1, bv_s, b1, bv_s]
def fiN (P : Nat → Bool) : Nat → Option Nat
  | 0 => none
  | t + 1 => match fiN P t with
    | some m => some m
    | none => if P t = true then some t else none
def fiI : Option Nat → Int32
  | some m => nI m
  | none => -1
theorem fi_none {P : Nat → Bool} : ∀ t, fiN P t = none → ∀ k, k < t → P k = false := by
  intro t
  induction t with
  | zero => intro _ k hk; omega
  | succ t ih =>
    intro h k hk
    cases q : fiN P t with
    | some m => simp [fiN, q] at h
    | none =>
      cases p : P t with
      | true => simp [fiN, q, p] at h
      | false =>
        by_cases c : k = t
        · subst c; exact p
        · exact ih q k (by omega)
theorem fi_some {P : Nat → Bool} {m : Nat} : ∀ t, fiN P t = some m → m < t ∧ P m = true ∧ ∀ k, k < m → P k = false := by
  intro t
  induction t with
  | zero => intro h; cases h
  | succ t ih =>
    intro h
    cases q : fiN P t with
    | some m' =>
      simp only [fiN, q] at h
      obtain ⟨h1, h2⟩ := ih (by rw [q]; exact h)
      exact ⟨by omega, h2⟩
    | none =>
      cases p : P t with
      | true =>
        simp only [fiN, q, p, if_t] at h
        injection h with h
        subst h
        exact ⟨by omega, p, fi_none t q⟩
      | false => simp [fiN, q, p] at h
theorem fi_f (P : Nat → Bool) (t : Nat) : IsF P t (fiI (fiN P t)) := by
  cases h : fiN P t with
  | some m =>
    obtain ⟨h1, h2, h3⟩ := fi_some t h
    exact Or.inl ⟨m, h1, h2, h3, rfl⟩
  | none => exact Or.inr ⟨fi_none t h, rfl⟩
def soN (N : Nat → Int32) (h z f : Nat) (lo : Int32) : Nat → Option Int32 × Nat
  | 0 => (none, 201)
  | j + 1 => match fiN (meP (upd N (14 + 6 * h + f) (lo + nI j)) h z) (soN N h z f lo j).2 with
    | none => soN N h z f lo j
    | some m => (some (lo + nI j), m)
theorem so_le {N : Nat → Int32} {h z f : Nat} {lo : Int32} : ∀ j, (soN N h z f lo j).2 ≤ 201 ∧ ((soN N h z f lo j).1 = none → (soN N h z f lo j).2 = 201) ∧ ∀ v, (soN N h z f lo j).1 = some v → (soN N h z f lo j).2 ≤ 200 ∧ ∃ k, k < j ∧ v = lo + nI k := by
  intro j
  induction j with
  | zero => exact ⟨Nat.le_refl _, fun _ => rfl, fun v hv => by cases hv⟩
  | succ j ih =>
    obtain ⟨i1, i2, i3⟩ := ih
    cases q : fiN (meP (upd N (14 + 6 * h + f) (lo + nI j)) h z) (soN N h z f lo j).2 with
    | none =>
      have e : soN N h z f lo (j + 1) = soN N h z f lo j := by simp only [soN, q]
      rw [e]
      refine ⟨i1, i2, fun v hv => ?_⟩
      obtain ⟨a, k, b, d⟩ := i3 v hv
      exact ⟨a, k, by omega, d⟩
    | some m =>
      have e : soN N h z f lo (j + 1) = (some (lo + nI j), m) := by simp only [soN, q]
      have := (fi_some _ q).1
      rw [e]
      refine ⟨by dsimp only; omega, fun hn => (by cases hn), fun v hv => ⟨by dsimp only; omega, j, by omega, ?_⟩⟩
      injection hv with hv
      exact hv.symm
theorem so_x {N : Nat → Int32} {h z f n : Nat} {M : Mem} (hs : ShR 1 M N) (hw : Wf N) (h0 : 0 ≤ (N 0).toInt) (hb : (N 0).toInt + 1000 ≤ 99999) (hh : h < nH N) (hz : z < nH N) (hf : f < 6) (g1 : ∀ j, j < n → okT f (ltO f + nI j)) (g2 : ∀ j, j < n → ¬ moO f < ltO f + nI j) (g3 : moO f < ltO f + nI n) (hn : n ≤ 12) : ∃ L : Mem, Fr 13 M L ∧ lp (fun rc29 x => pi_X3_soonestWith_29 (nI h) (nI z) (nI f) rc29 x.1 x.2.1 x.2.2.1 x.2.2.2) FU (0, 201, ltO f, M) = match (soN N h z f (ltO f) n).1 with | some v => some (v, L) | none => mi_X3_finding (nI 3) L := by
  have h8 := hw.2.1
  refine lp_inv (I := fun j (zx : Int32 × Int32 × Int32 × Mem) => zx.1 = (soN N h z f (ltO f) j).1.getD 0 ∧ zx.2.1 = nI (soN N h z f (ltO f) j).2 ∧ zx.2.2.1 = ltO f + nI j ∧ Fr 13 M zx.2.2.2) (Post := fun (zo : Option (Int32 × Mem)) => ∃ L : Mem, Fr 13 M L ∧ zo = match (soN N h z f (ltO f) n).1 with | some v => some (v, L) | none => mi_X3_finding (nI 3) L) n ?_ ?_ FU (FU_le (by omega)) (0, 201, ltO f, M) ⟨rfl, rfl, (Int32.add_zero _).symm, Fr.rf⟩
  · rintro j hj ⟨x1, x2, x3, L⟩ ⟨i1, i2, i3, i4⟩ rec
    dsimp only at i1 i2 i3 i4
    obtain ⟨s1, s2, s3⟩ := so_le (N := N) (h := h) (z := z) (f := f) (lo := ltO f) j
    obtain ⟨A, a1, a2⟩ := x_try (v := ltO f + nI j) hs hw i4 (show h < 8 by omega) hf (g1 j hj)
    have un : nH (upd N (14 + 6 * h + f) (ltO f + nI j)) = nH N := nH_upd (by omega)
    have u0 : upd N (14 + 6 * h + f) (ltO f + nI j) 0 = N 0 := upd_o (by omega)
    obtain ⟨B, b1, b2⟩ := x_untilT (h := h) (z := z) (t := (soN N h z f (ltO f) j).2) a2 (wf_set hw hf (g1 j hj)) (by rw [u0]; exact h0) (by rw [u0]; exact hb) (by rw [un]; exact hh) (by rw [un]; exact hz) (by omega) (fi_f _ _)
    have st : pi_X3_soonestWith_29 (nI h) (nI z) (nI f) rec x1 x2 x3 L = if fiI (fiN (meP (upd N (14 + 6 * h + f) (ltO f + nI j)) h z) (soN N h z f (ltO f) j).2) < 0 then rec (x1, x2, x3 + 1, B) else rec (x3, fiI (fiN (meP (upd N (14 + 6 * h + f) (ltO f + nI j)) h z) (soN N h z f (ltO f) j).2), x3 + 1, B) := by
      unfold pi_X3_soonestWith_29
      rw [x_most hf, bd_s, i2, i3, if_neg (g2 j hj), a1, bv_s, b1, bd_s, bI_e, bI_e]
    have e3 : x3 + 1 = ltO f + nI (j + 1) := by rw [i3, Int32.add_assoc, nI_1]
    cases q : fiN (meP (upd N (14 + 6 * h + f) (ltO f + nI j)) h z) (soN N h z f (ltO f) j).2 with
    | none =>
      have e : soN N h z f (ltO f) (j + 1) = soN N h z f (ltO f) j := by simp only [soN, q]
      refine ⟨(x1, x2, x3 + 1, B), ⟨by rw [e]; exact i1, by rw [e]; exact i2, e3, b2⟩, ?_⟩
      show pi_X3_soonestWith_29 (nI h) (nI z) (nI f) rec x1 x2 x3 L = _
      rw [st, q, if_pos (show fiI none < 0 by decide)]
    | some m =>
      have e : soN N h z f (ltO f) (j + 1) = (some (ltO f + nI j), m) := by simp only [soN, q]
      have := (fi_some _ q).1
      refine ⟨(x3, nI m, x3 + 1, B), ⟨by rw [e]; exact i3, by rw [e], e3, b2⟩, ?_⟩
      show pi_X3_soonestWith_29 (nI h) (nI z) (nI f) rec x1 x2 x3 L = _
      rw [st, q, if_neg (show ¬ fiI (some m) < 0 from nI_nn (by omega))]; rfl
  · rintro ⟨x1, x2, x3, L⟩ ⟨i1, i2, i3, i4⟩ rec
    dsimp only at i1 i2 i3 i4
    obtain ⟨s1, s2, s3⟩ := so_le (N := N) (h := h) (z := z) (f := f) (lo := ltO f) n
    refine ⟨L, i4, ?_⟩
    show pi_X3_soonestWith_29 (nI h) (nI z) (nI f) rec x1 x2 x3 L = _
    unfold pi_X3_soonestWith_29
    rw [x_most hf, bd_s, i3, if_pos g3, i2]
    cases q : (soN N h z f (ltO f) n).1 with
    | none => rw [s2 q, if_neg (by decide)]; exact fx_ 3 3 rfl L
    | some v =>
      have := (s3 v q).1
      rw [show (200 : Int32) = nI 200 from rfl, if_pos (show nI (soN N h z f (ltO f) n).2 ≤ nI 200 by rw [i_le, nI_toInt (by omega), nI_toInt (by omega)]; omega), i1, q]; rfl
theorem so_m {h z f n : Nat} {M : Mem} (hw : Wf (M 50)) (hfc : Fc M) (hh : h < nH (M 50)) (hz : z < nH (M 50)) (hne : z ≠ h) (hf : f < 6) (g1 : ∀ j, j < n → okT f (ltO f + nI j)) (g2 : ∀ j, j < n → ¬ moO f < ltO f + nI j) (g3 : moO f < ltO f + nI n) (g4 : ∀ j, j < n → ltO f + nI j ≠ -1000007) (hn : n ≤ 12) : ∃ Q : Mem, Bk M Q ∧ mi_X4_soonest (nI h) (nI z) (nI f) (ltO f) (moO f) M = match (soN (M 50) h z f (ltO f) n).1 with | some v => some (v, Q) | none => mi_X4_finding (lowI 3) Q := by
  have h8 := hw.2.1
  unfold mi_X4_soonest pi_X4_soonest_e
  rw [md_hillIs (by omega) hf, bd_s]
  have ii : inb (nI (14 + 6 * h + f)) 62 = true := inb_nI (by omega) (by decide)
  refine lp_inv (I := fun j (zx : Int32 × Int32 × Int32 × Mem) => zx.1 = (soN (M 50) h z f (ltO f) j).1.getD (-1000007) ∧ zx.2.1 = nI (soN (M 50) h z f (ltO f) j).2 ∧ zx.2.2.1 = ltO f + nI j ∧ (∃ w, zx.2.2.2 50 = upd (M 50) (14 + 6 * h + f) w) ∧ ∀ a, a ≠ 50 → a ≠ 52 → ¬ Sc a → zx.2.2.2 a = M a) (Post := fun (zo : Option (Int32 × Mem)) => ∃ Q : Mem, Bk M Q ∧ zo = match (soN (M 50) h z f (ltO f) n).1 with | some v => some (v, Q) | none => mi_X4_finding (lowI 3) Q) n ?_ ?_ FU (FU_le (by omega)) (-1000007, 201, ltO f, M) ⟨rfl, rfl, (Int32.add_zero _).symm, ⟨M 50 (14 + 6 * h + f), ?_⟩, fun _ _ _ _ => rfl⟩
  · rintro j hj ⟨x1, x2, x3, L⟩ ⟨i1, i2, i3, ⟨w, i4⟩, i5⟩ rec
    dsimp only at i1 i2 i3 i4 i5
    obtain ⟨s1, s2, s3⟩ := so_le (N := M 50) (h := h) (z := z) (f := f) (lo := ltO f) j
    have a50 : up L 50 (14 + 6 * h + f) (ltO f + nI j) 50 = upd (M 50) (14 + 6 * h + f) (ltO f + nI j) := by
      rw [up_s, i4, updUU]
    have un : nH (upd (M 50) (14 + 6 * h + f) (ltO f + nI j)) = nH (M 50) := nH_upd (by omega)
    obtain ⟨B, b1, b2⟩ := m_meetIn (M := up L 50 (14 + 6 * h + f) (ltO f + nI j)) (h := h) (z := z) (t := (soN (M 50) h z f (ltO f) j).2) (by rw [a50]; exact wf_set hw hf (g1 j hj)) (fun k hk => by rw [up_o (by decide), i5 54 (by decide) (by decide) (by unfold Sc; omega)]; exact hfc k hk) (by rw [a50, un]; exact hh) (by rw [a50, un]; exact hz) hne (by omega) (fi_f _ _)
    rw [a50] at b1
    have st : pi_X4_soonest_21 (nI h) (nI z) (nI f) (ltO f) (moO f) (M 50 (14 + 6 * h + f)) rec x1 x2 x3 L = if fiI (fiN (meP (upd (M 50) (14 + 6 * h + f) (ltO f + nI j)) h z) (soN (M 50) h z f (ltO f) j).2) < 0 then rec (x1, x2, x3 + 1, B) else rec (x3, fiI (fiN (meP (upd (M 50) (14 + 6 * h + f) (ltO f + nI j)) h z) (soN (M 50) h z f (ltO f) j).2), x3 + 1, B) := by
      unfold pi_X4_soonest_21 pi_X4_soonest_62
      rw [i3, if_neg (g2 j hj), md_at, bd_s, ii, gd_t, nI_clamp (by omega), bM_e, i2, b1, bd_s, bI_e, bI_e]
      by_cases q : fiI (fiN (meP (upd (M 50) (14 + 6 * h + f) (ltO f + nI j)) h z) (soN (M 50) h z f (ltO f) j).2) < 0
      · rw [if_pos q, if_pos q, if_pos q]
      · rw [if_neg q, if_neg q, if_neg q]; rfl
    have e3 : x3 + 1 = ltO f + nI (j + 1) := by rw [i3, Int32.add_assoc, nI_1]
    have m1 : ∃ w, B 50 = upd (M 50) (14 + 6 * h + f) w := ⟨ltO f + nI j, by rw [b2 50 (by decide) (by unfold Sc; omega), a50]⟩
    have m2 : ∀ a, a ≠ 50 → a ≠ 52 → ¬ Sc a → B a = M a := fun a n1 n2 n3 => by rw [b2 a n2 n3, up_o n1]; exact i5 a n1 n2 n3
    cases q : fiN (meP (upd (M 50) (14 + 6 * h + f) (ltO f + nI j)) h z) (soN (M 50) h z f (ltO f) j).2 with
    | none =>
      have e : soN (M 50) h z f (ltO f) (j + 1) = soN (M 50) h z f (ltO f) j := by simp only [soN, q]
      refine ⟨(x1, x2, x3 + 1, B), ⟨by rw [e]; exact i1, by rw [e]; exact i2, e3, m1, m2⟩, ?_⟩
      show pi_X4_soonest_21 (nI h) (nI z) (nI f) (ltO f) (moO f) (M 50 (14 + 6 * h + f)) rec x1 x2 x3 L = _
      rw [st, q, if_pos (show fiI none < 0 by decide)]
    | some m =>
      have e : soN (M 50) h z f (ltO f) (j + 1) = (some (ltO f + nI j), m) := by simp only [soN, q]
      have := (fi_some _ q).1
      refine ⟨(x3, nI m, x3 + 1, B), ⟨by rw [e]; exact i3, by rw [e], e3, m1, m2⟩, ?_⟩
      show pi_X4_soonest_21 (nI h) (nI z) (nI f) (ltO f) (moO f) (M 50 (14 + 6 * h + f)) rec x1 x2 x3 L = _
      rw [st, q, if_neg (show ¬ fiI (some m) < 0 from nI_nn (by omega))]; rfl
  · rintro ⟨x1, x2, x3, L⟩ ⟨i1, i2, i3, ⟨w, i4⟩, i5⟩ rec
    dsimp only at i1 i2 i3 i4 i5
    obtain ⟨s1, s2, s3⟩ := so_le (N := M 50) (h := h) (z := z) (f := f) (lo := ltO f) n
    refine ⟨up L 50 (14 + 6 * h + f) (M 50 (14 + 6 * h + f)), fun a n1 n2 => ?_, ?_⟩
    · by_cases c : a = 50
      · subst c
        rw [up_s, i4, updUU, updId]
      · rw [up_o c]; exact i5 a c n1 n2
    · show pi_X4_soonest_21 (nI h) (nI z) (nI f) (ltO f) (moO f) (M 50 (14 + 6 * h + f)) rec x1 x2 x3 L = _
      unfold pi_X4_soonest_21
      rw [i3, if_pos g3, md_at, bd_s, ii, gd_t, nI_clamp (by omega), bM_e, i1]
      cases q : (soN (M 50) h z f (ltO f) n).1 with
      | none => rw [if_pos (show (none : Option Int32).getD (-1000007) = -1000007 from rfl)]; exact fm_ 3 _ low3.symm _
      | some v =>
        obtain ⟨-, k, k1, k2⟩ := s3 v q
        rw [if_neg (show ¬ (some v).getD (-1000007) = -1000007 from fun z => g4 k k1 (by rw [← k2]; exact z))]; rfl
  · show M 50 = _
    rw [updId]
theorem so_op {f n : Nat} (v w : Int32) (fX fM : Mem → Option (Int32 × Mem)) (hf : f < 6) (g1 : ∀ j, j < n → okT f (ltO f + nI j)) (g2 : ∀ j, j < n → ¬ moO f < ltO f + nI j) (g3 : moO f < ltO f + nI n) (g4 : ∀ j, j < n → ltO f + nI j ≠ -1000007) (hn : n ≤ 12)
    (eX : ∀ K, fX K = mi_X3_soonestWith v w (nI f) K)
    (eM : ∀ K, fM K = bd (mi_X4_areTwo v w K) fun r_2 M_1 => if r_2 = 0 then (bd (mi_X4_finding (-1000001) M_1) fun r_4 M_3 => some (r_4, M_3)) else (bd (mi_X4_soonest v w (nI f) (ltO f) (moO f) M_1) fun r_6 M_5 => some (r_6, M_5))) : OpI fX fM := by
  intro c M hc hS
  obtain ⟨hw, hs, ht, ha, hk, hfc, -⟩ := id hS.1
  have h8 := hw.2.1
  have hab := ha.b hc
  cases hv : two (M 50) v w with
  | false =>
    refine op_find 0 (by decide) hS ?_ (fun K hK => ?_)
    · rw [eX]
      unfold mi_X3_soonestWith pi_X3_soonestWith_e
      rw [x_pair v w hs hw, bd_s, hv, if01, if_f]; exact fx_ 0 0 rfl M
    · have k50 : K 50 = M 50 := hK 50 (by decide)
      rw [eM, m_two v w (by rw [k50]; exact hw), bd_s, k50, hv, if10, if_f]; exact fm_ 0 _ low0.symm K
  | true =>
  obtain ⟨i, z, hi, hz, hne, rfl, rfl⟩ := two_of h8 hv
  obtain ⟨L, l1, l2⟩ := so_x (n := n) hs hw hab.1 hab.2 hi hz hf g1 g2 g3 hn
  have hX : fX M = match (soN (M 50) i z f (ltO f) n).1 with | some v => some (v, L) | none => mi_X3_finding (nI 3) L := by
    rw [eX]
    unfold mi_X3_soonestWith pi_X3_soonestWith_e
    rw [x_pair _ _ hs hw, bd_s, hv, if01, if_t, x_least hf, bd_s]
    exact l2
  have hM : ∀ P : Mem, P 50 = M 50 → Fc P → ∃ Q : Mem, Bk P Q ∧ fM P = match (soN (M 50) i z f (ltO f) n).1 with | some v => some (v, Q) | none => mi_X4_finding (lowI 3) Q := by
    intro P p50 pf
    obtain ⟨Q, q1, q2⟩ := so_m (M := P) (h := i) (z := z) (f := f) (n := n) (by rw [p50]; exact hw) pf (by rw [p50]; exact hi) (by rw [p50]; exact hz) hne hf g1 g2 g3 g4 hn
    refine ⟨Q, q1, ?_⟩
    rw [p50] at q2
    rw [eM, m_two _ _ (by rw [p50]; exact hw), bd_s, p50, hv, if10, if_t, bd_id, q2]
  cases q : (soN (M 50) i z f (ltO f) n).1 with
  | some y =>
    rw [q] at hX hM
    obtain ⟨Q, q1, q2⟩ := hM L (l1 50 (by omega)) (fun j hj => by rw [l1 54 (by omega)]; exact hfc j hj)
    exact op_ask hS hX l1.eqv ⟨Q, q2, q1.eqv⟩
  | none =>
    rw [q] at hX hM
    refine op_none hS l1.eqv hX (fun P hP => ?_)
    obtain ⟨Q, q1, q2⟩ := hM P (by rw [hP 50 (by decide), l1 50 (by omega)]) (fun j hj => by rw [hP 54 (by decide), l1 54 (by omega)]; exact hfc j hj)
    exact ⟨Q, q2, q1.eqv⟩
theorem so1 : ∀ j, j < 12 → inR (ltO 1 + nI j) (ltO 1) (moO 1) = true := by decide
theorem so2 : ∀ j, j < 11 → inR (ltO 2 + nI j) (ltO 2) (moO 2) = true := by decide
theorem so3 : ∀ j, j < 4 → inR (ltO 3 + nI j) (ltO 3) (moO 3) = true := by decide
theorem op_stand (v w : Int32) : OpI (mi_X3_stand v w) (mi_X4_stand v w) :=
  so_op (f := 1) (n := 12) v w _ _ (by decide) (fun j hj => may_ok (by decide) (so1 j hj)) (by decide) (by decide) (by decide) (by decide) (fun K => bd_id) (fun K => rfl)
theorem op_stepFor (v w : Int32) : OpI (mi_X3_stepFor v w) (mi_X4_stepFor v w) :=
  so_op (f := 2) (n := 11) v w _ _ (by decide) (fun j hj => may_ok (by decide) (so2 j hj)) (by decide) (by decide) (by decide) (by decide) (fun K => bd_id) (fun K => rfl)
theorem op_turnFor (v w : Int32) : OpI (mi_X3_turnFor v w) (mi_X4_turnFor v w) :=
  so_op (f := 3) (n := 4) v w _ _ (by decide) (fun j hj => may_ok (by decide) (so3 j hj)) (by decide) (by decide) (by decide) (by decide) (fun K => bd_id) (fun K => rfl)
