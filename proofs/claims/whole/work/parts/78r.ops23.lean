/-! odds -/
def hvI : Nat → Int32 → Int32 → Int32 → Option (Int32 × Int32)
  | 0, _, _, _ => none
  | n + 1, a, b, k => if 3 ≤ k then some (a, b) else if (a - a / 2 * 2) = 0 then hvI n (a / 2) (b / 2) (k + 1) else some (a, b)
theorem hv_lp (v w : Int32) (M : Mem) : ∀ (n : Nat) (a b k : Int32) (r : Int32 × Int32), hvI n a b k = some r → ∀ m, n ≤ m → lp (fun rc54 x => pi_X3_odds_54 v w rc54 x.1 x.2.1 x.2.2.1 x.2.2.2) m (a, b, k, M) = pi_X3_odds_82 v w r.1 r.2 M := by
  intro n
  induction n with
  | zero => intro a b k r h; cases h
  | succ n ih =>
    intro a b k r h m hm
    cases m with
    | zero => omega
    | succ m =>
      rw [lp_s]
      show pi_X3_odds_54 v w _ a b k M = _
      unfold pi_X3_odds_54
      unfold hvI at h
      by_cases c1 : 3 ≤ k
      · rw [if_pos c1] at h ⊢
        injection h with h
        rw [← h]
      · rw [if_neg c1] at h ⊢
        by_cases c2 : (a - a / 2 * 2) = 0
        · rw [if_pos c2] at h ⊢
          rw [bI_e, bI_e, bI_e]
          exact ih _ _ _ r h m (by omega)
        · rw [if_neg c2] at h ⊢
          injection h with h
          rw [← h]
def gcI : Nat → Int32 → Int32 → Option Int32
  | 0, _, _ => none
  | n + 1, a, b => if b = 0 then some a else gcI n b (a - a / b * b)
theorem gc_lp (v w y : Int32) (M : Mem) : ∀ (n : Nat) (a b r : Int32), gcI n a b = some r → ∀ m, n ≤ m → lp (fun rc49 x => pi_X4_odds_49 v w y rc49 x.1 x.2.1 x.2.2) m (a, b, M) = lp (fun rc78 x => pi_X4_odds_78 v w y r rc78 x.1 x.2.1 x.2.2) FU (1, 0, M) := by
  intro n
  induction n with
  | zero => intro a b r h; cases h
  | succ n ih =>
    intro a b r h m hm
    cases m with
    | zero => omega
    | succ m =>
      rw [lp_s]
      show pi_X4_odds_49 v w y _ a b M = _
      unfold pi_X4_odds_49
      unfold gcI at h
      by_cases c1 : b = 0
      · rw [if_pos c1] at h ⊢
        injection h with h
        rw [← h]
      · rw [if_neg c1] at h ⊢
        have e : (!(b == 0)) = true := by simp [c1]
        rw [e, gd_t, bI_e]
        exact ih _ _ r h m (by omega)
theorem hg_ok : ∀ w, w < 9 → ∃ g, g < 9 ∧ gcI 8 8 (nI w) = some (nI g) ∧ (!(nI g == 0)) = true ∧ hvI 5 (nI w) 8 0 = some (nI w / nI g, 8 / nI g) := by decide +kernel
theorem ev_ok : ∀ n, n < 9 → ∀ k, k < 256 → k < 2 ^ n → (((1 <<< (nI n &&& 31)) - 1) &&& (nI k ^^^ (-1)) = nI (2 ^ n - 1 - k) ∧ pcn (2 ^ n - 1 - k) + pcn k = n) ∧ 2 ^ n - 1 - k < 2048 := by decide +kernel
def pwL (t : Int64) : Nat → Int64
  | 0 => 1
  | k + 1 => pwL t k * t
theorem x_pow {w b : Int32} {n : Nat} (hn : n ≤ 60) (M : Mem) : lp (fun rc100 x => pi_X3_odds_100 (nI n) w b rc100 x.1 x.2.1 x.2.2) FU (1, 0, M) = some (pwL b.toInt64 n, M) :=
  lp_for (fun k => (pwL b.toInt64 k, nI k, M)) n _ (fun k hk rec => by
    show pi_X3_odds_100 (nI n) w b rec (pwL b.toInt64 k) (nI k) M = _
    unfold pi_X3_odds_100
    rw [if_neg (nI_ge hk (by omega)), bL_e, bI_e, nI_1]; rfl) (fun rec => by
    show pi_X3_odds_100 (nI n) w b rec (pwL b.toInt64 n) (nI n) M = _
    unfold pi_X3_odds_100
    rw [if_pos (Int32.le_refl _)]) (FU_le (by omega))
theorem m_pow {w y g : Int32} {n : Nat} (hn : n ≤ 60) (hg : (!(g == 0)) = true) (M : Mem) : lp (fun rc78 x => pi_X4_odds_78 (nI n) w y g rc78 x.1 x.2.1 x.2.2) FU (1, 0, M) = some (pwL (if w = 0 then y / g else 8 / g).toInt64 n, M) :=
  lp_for (fun k => (pwL (if w = 0 then y / g else 8 / g).toInt64 k, nI k, M)) n _ (fun k hk rec => by
    show pi_X4_odds_78 (nI n) w y g rec (pwL (if w = 0 then y / g else 8 / g).toInt64 k) (nI k) M = rec (pwL (if w = 0 then y / g else 8 / g).toInt64 k * (if w = 0 then y / g else 8 / g).toInt64, nI (k + 1), M)
    unfold pi_X4_odds_78
    rw [if_neg (nI_ge hk (by omega)), hg, gd_t, gd_t, bL_e, bI_e, bL_e, bI_e, nI_1]
    by_cases c : w = 0
    · rw [if_pos c, if_pos c]
    · rw [if_neg c, if_neg c]) (fun rec => by
    show pi_X4_odds_78 (nI n) w y g rec (pwL (if w = 0 then y / g else 8 / g).toInt64 n) (nI n) M = _
    unfold pi_X4_odds_78
    rw [if_pos (Int32.le_refl _)]) (FU_le (by omega))
theorem opl_find {fX fM : Mem → Option (Int64 × Mem)} {c : Nat} {M : Mem} (h : Sim c M) (h1 : fX M = bd (mi_X3_finding (nI 0) M) fun r K => some (r.toInt64, K)) (h2 : ∀ K : Mem, (∀ a, a ≠ 48 → K a = M a) → fM K = bd (mi_X4_finding (lowI 0) K) fun r K => some (r.toInt64, K)) : ∃ (r : Int64) (K Q : Mem), fX M = some (r, K) ∧ fM K = some (r, Q) ∧ Sim (c + 1) Q := by
  obtain ⟨K, k1, k2, k3⟩ := find1 (i := 0) (by decide) h
  obtain ⟨Q, q1, q2⟩ := find2 (by decide) k3
  exact ⟨(lowI 0).toInt64, K, Q, by rw [h1, k1, bd_s], by rw [h2 K k2, q1, bd_s], q2.up⟩
theorem inR20 {v : Int32} : inR v 0 20 = inb v 21 := inR_inb (k := 20) (by decide)
theorem inR1 {v : Int32} : inR v 0 1 = inb v 2 := inR_inb (k := 1) (by decide)
theorem od_sub {n a b : Nat} (h : a + b = n) (hn : n ≤ 8) : nI n - nI b = nI a := by
  refine i_eq.mpr ?_
  rw [z_sub (by rw [nI_toInt (by omega), nI_toInt (by omega)]; omega) (by rw [nI_toInt (by omega), nI_toInt (by omega)]; omega), nI_toInt (by omega), nI_toInt (by omega), nI_toInt (by omega)]
  omega
theorem op_odds (v w : Int32) : OpL (mi_X3_odds v w) (mi_X4_odds v w) := by
  intro c M hc hS
  obtain ⟨hw, hs, ht, ha, hk, hfc, -⟩ := id hS.1
  have h8 := hw.2.1
  cases hv : inb v 21 with
  | false =>
    refine opl_find hS ?_ (fun K hK => ?_)
    · unfold mi_X3_odds pi_X3_odds_e
      rw [x_out, bd_s, inR20, hv, if01, if_f]; rfl
    · unfold mi_X4_odds pi_X4_odds_e
      rw [m_in, bd_s, inR20, hv, if10, if_f, low0]; rfl
  | true =>
  cases hf : inb w 2 with
  | false =>
    refine opl_find hS ?_ (fun K hK => ?_)
    · unfold mi_X3_odds pi_X3_odds_e
      rw [x_out, bd_s, inR20, hv, if01, if_t, x_out, bd_s, inR1, hf, if01, if_f]; rfl
    · unfold mi_X4_odds pi_X4_odds_e
      rw [m_in, bd_s, inR20, hv, if10, if_t, m_in, bd_s, inR1, hf, if10, if_f, low0]; rfl
  | true =>
  obtain ⟨n, hn, rfl⟩ := inb_of hv (by decide)
  obtain ⟨k, hk2, ek⟩ : ∃ k, k < 2 ^ nH (M 50) ∧ whoN (M 50) = nI k := ⟨_, bnum_lt _ _, bset_num (by omega)⟩
  have k256 : k < 256 := Nat.lt_of_lt_of_le hk2 (Nat.le_trans (Nat.pow_le_pow_right (by decide) h8) (by decide))
  obtain ⟨⟨e1, e2⟩, e3⟩ := ev_ok (nH (M 50)) (by omega) k k256 hk2
  generalize hj : 2 ^ nH (M 50) - 1 - k = j at e1 e2 e3
  have pj : pc (nI j) = nI (pcn j) := by unfold pc; rw [nI_clamp (by omega)]
  have pk : pc (nI k) = nI (pcn k) := by unfold pc; rw [nI_clamp (by omega)]
  obtain ⟨g, g1, g2, g3, g4⟩ := hg_ok (pcn j) (by omega)
  refine ⟨pwL (if w = 0 then nI (pcn j) / nI g else 8 / nI g).toInt64 n, M, M, ?_, ?_, hS.up⟩
  · unfold mi_X3_odds pi_X3_odds_e mi_X2_everyone pi_X2_everyone_e
    rw [x_out, bd_s, inR20, hv, if01, if_t, x_out, bd_s, inR1, hf, if01, if_t, bd_s, hd_who hs ht hw, bd_s, hs.2.2.2.1, hw.1, ek, e1, hd_bc e3, bd_s, pj, hv_lp (nI n) w M 5 (nI (pcn j)) 8 0 _ g4 FU (by decide)]
    unfold pi_X3_odds_82
    by_cases q : w = 0
    · rw [if_pos q, if_pos q]; exact x_pow (by omega) M
    · rw [if_neg q, if_neg q]; exact x_pow (by omega) M
  · unfold mi_X4_odds pi_X4_odds_e
    rw [m_in, bd_s, inR20, hv, if10, if_t, m_in, bd_s, inR1, hf, if10, if_t, in1_62, gd_t, tN1, md_who hw hfc, bd_s, ek, md_bits (by omega), bd_s, bI_e, hw.1, pk, od_sub e2 h8, gc_lp (nI n) w (nI (pcn j)) M 8 8 (nI (pcn j)) _ g2 FU (by decide)]
    exact m_pow (by omega) g3 M
