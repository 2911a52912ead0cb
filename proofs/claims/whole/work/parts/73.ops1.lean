/-! the plain calls -/
theorem bd_id {β : Type} {o : Option (β × Mem)} : (bd o fun r K => some (r, K)) = o := by cases o <;> rfl
theorem bv_id {o : Option Mem} : (bv o fun K => some K) = o := by cases o <;> rfl
theorem if_f {α : Type} {p q : α} : (if (false : Bool) = true then p else q) = q := rfl
theorem if_t {α : Type} {p q : α} : (if (true : Bool) = true then p else q) = p := rfl
theorem low0 : lowI 0 = -1000001 := by decide
theorem low1 : lowI 1 = -1000002 := by decide
theorem low2 : lowI 2 = -1000003 := by decide
theorem low3 : lowI 3 = -1000004 := by decide
theorem low4 : lowI 4 = -1000005 := by decide
theorem low5 : lowI 5 = -1000006 := by decide
theorem low6 : lowI 6 = -1000007 := by decide
theorem TbR.low {b j : Nat} {M : Mem} {N : Nat → Int32} {v : Int32} (h : TbR b M N) (h8 : nH N ≤ 8) (h1 : j ≠ 1) (hj : j < 14) : TbR b M (upd N j v) := by
  refine h.cg h8 (nH_upd h1) (fun z hz => ⟨?_, ?_⟩)
  · unfold vaN; rw [upd_o (by omega)]
  · unfold tuN; rw [upd_o (by omega)]
theorem sh_low {b j : Nat} {M K : Mem} {N : Nat → Int32} {v : Int32} (hs : ShR b M N) (hj : j < 14) (e : ∀ a, b + 2 ≤ a → a < b + 8 → K a = M a) (e0 : K b 0 = upd N j v 3 ∧ K b 1 = upd N j v 0 ∧ K b 2 = upd N j v 2 ∧ K b 3 = upd N j v 1) (e1 : ∀ i, i < 10 → K (b + 1) i = upd N j v (4 + i)) : ShR b K (upd N j v) := by
  refine ⟨e0.1, e0.2.1, e0.2.2.1, e0.2.2.2, e1, fun z hz => ?_⟩
  rw [e (b + 2) (by omega) (by omega), e (b + 3) (by omega) (by omega), e (b + 4) (by omega) (by omega), e (b + 5) (by omega) (by omega), e (b + 6) (by omega) (by omega), e (b + 7) (by omega) (by omega)]
  unfold kdN vaN spN tuN hiN boN
  rw [upd_o (by omega), upd_o (by omega), upd_o (by omega), upd_o (by omega), upd_o (by omega), upd_o (by omega)]
  exact hs.2.2.2.2.2 z hz
theorem sh_rain {b : Nat} {M : Mem} {N : Nat → Int32} {v : Int32} (hs : ShR b M N) : ShR b (up M b 0 v) (upd N 3 v) := by
  obtain ⟨h1, h2, h3, h4, h5, h6⟩ := id hs
  refine sh_low hs (by decide) (fun a q1 q2 => up_o (by omega)) ⟨?_, ?_, ?_, ?_⟩ (fun i hi => ?_)
  · rw [up_s, upd_s, upd_s]
  · rw [up_s, upd_o (by decide), upd_o (by decide)]; exact h2
  · rw [up_s, upd_o (by decide), upd_o (by decide)]; exact h3
  · rw [up_s, upd_o (by decide), upd_o (by decide)]; exact h4
  · rw [up_o (by omega), upd_o (by omega)]; exact h5 i hi
theorem sh_z {b : Nat} {M : Mem} {N : Nat → Int32} {v : Int32} (hs : ShR b M N) : ShR b (up M b 2 v) (upd N 2 v) := by
  obtain ⟨h1, h2, h3, h4, h5, h6⟩ := id hs
  refine sh_low hs (by decide) (fun a q1 q2 => up_o (by omega)) ⟨?_, ?_, ?_, ?_⟩ (fun i hi => ?_)
  · rw [up_s, upd_o (by decide), upd_o (by decide)]; exact h1
  · rw [up_s, upd_o (by decide), upd_o (by decide)]; exact h2
  · rw [up_s, upd_s, upd_s]
  · rw [up_s, upd_o (by decide), upd_o (by decide)]; exact h4
  · rw [up_o (by omega), upd_o (by omega)]; exact h5 i hi
theorem sh_spot {b i : Nat} {M : Mem} {N : Nat → Int32} {v : Int32} (hs : ShR b M N) (hi : i < 10) : ShR b (up M (b + 1) i v) (upd N (4 + i) v) := by
  obtain ⟨h1, h2, h3, h4, h5, h6⟩ := id hs
  refine sh_low hs (by omega) (fun a q1 q2 => up_o (by omega)) ⟨?_, ?_, ?_, ?_⟩ (fun z hz => ?_)
  · rw [up_o (by omega), upd_o (by omega)]; exact h1
  · rw [up_o (by omega), upd_o (by omega)]; exact h2
  · rw [up_o (by omega), upd_o (by omega)]; exact h3
  · rw [up_o (by omega), upd_o (by omega)]; exact h4
  · rw [up_s]
    by_cases c : z = i
    · subst c; rw [upd_s, upd_s]
    · rw [upd_o c, upd_o (by omega)]; exact h5 z hz
theorem wf_low {j : Nat} {N : Nat → Int32} {v : Int32} (hw : Wf N) (h1 : j ≠ 1) (hj : j < 14) (h3 : j = 3 → inb v 10 = true) (h4 : 4 ≤ j → -1 ≤ v.toInt ∧ v.toInt < nH N) : Wf (upd N j v) := by
  have hn : nH (upd N j v) = nH N := nH_upd h1
  refine ⟨by rw [hn, upd_o (Ne.symm h1)]; exact hw.1, by rw [hn]; exact hw.2.1, ?_, fun z hz => ?_, fun i hi => ?_⟩
  · by_cases c : j = 3
    · subst c; rw [upd_s]; exact h3 rfl
    · rw [upd_o (Ne.symm c)]; exact hw.2.2.1
  · unfold Wh kdN vaN spN tuN hiN boN
    rw [upd_o (by omega), upd_o (by omega), upd_o (by omega), upd_o (by omega), upd_o (by omega), upd_o (by omega)]
    exact hw.2.2.2.1 z hz
  · rw [hn]
    by_cases c : 4 + i = j
    · rw [c, upd_s]; exact h4 (by omega)
    · rw [upd_o c]; exact hw.2.2.2.2 i hi
theorem AgB.low {c j : Nat} {N : Nat → Int32} {v : Int32} (h : AgB c N) (hj : j ≠ 0) : AgB c (upd N j v) := by
  unfold AgB
  rw [upd_o (Ne.symm hj)]; exact h
theorem op_rain (v : Int32) : OpI (mi_X3_rain v) (mi_X4_rain v) := by
  intro c M hc hS
  obtain ⟨hw, hs, ht, ha, -⟩ := id hS.1
  cases hv : inb v 10 with
  | false =>
    refine op_find 0 (by decide) hS ?_ (fun K hK => ?_)
    · unfold mi_X3_rain pi_X3_rain_e
      rw [x_out, bd_s, show (9 : Int32) = nI 9 from rfl, inR_inb (by decide), hv, if01, if_f, bd_id]; rfl
    · unfold mi_X4_rain pi_X4_rain_e
      rw [m_in, bd_s, show (9 : Int32) = nI 9 from rfl, inR_inb (by decide), hv, if10, if_f, bd_id, low0]
  | true =>
    refine ⟨M 1 0, up M 1 0 v, up (up M 1 0 v) 50 3 v, ?_, ?_, ?_⟩
    · unfold mi_X3_rain pi_X3_rain_e
      rw [x_out, bd_s, show (9 : Int32) = nI 9 from rfl, inR_inb (by decide), hv, if01, if_t, bI_e, bM_e]
    · unfold mi_X4_rain pi_X4_rain_e
      rw [m_in, bd_s, show (9 : Int32) = nI 9 from rfl, inR_inb (by decide), hv, if10, if_t, bd_id, show (3 : Int32) = nI 3 from rfl, md_become _ (by decide), up_o (by decide), hs.1]
    · exact sim_row hS (Nat.le_succ c) (fun a h => up_o (by omega)) (sh_rain hs) ((ht.eq (fun a q1 q2 => up_o (by omega))).low hw.2.1 (by decide) (by decide)) (wf_low hw (by decide) (by decide) (fun _ => hv) (fun h => absurd h (by decide))) (ha.low (by decide)).up (fun a h1 h2 => up_o h1) (by rw [up_s, up_o (by decide)])
theorem op_seed (v : Int32) : OpI (mi_X3_seed v) (mi_X4_seed v) := by
  intro c M hc hS
  obtain ⟨hw, hs, ht, ha, -⟩ := id hS.1
  refine ⟨M 1 2, up M 1 2 v, up (up M 1 2 v) 50 2 v, ?_, ?_, ?_⟩
  · unfold mi_X3_seed pi_X3_seed_e
    rw [bI_e, bM_e]
  · unfold mi_X4_seed pi_X4_seed_e
    rw [bd_id, show (2 : Int32) = nI 2 from rfl, md_become _ (by decide), up_o (by decide), hs.2.2.1]
  · exact sim_row hS (Nat.le_succ c) (fun a h => up_o (by omega)) (sh_z hs) ((ht.eq (fun a q1 q2 => up_o (by omega))).low hw.2.1 (by decide) (by decide)) (wf_low hw (by decide) (by decide) (fun h => absurd h (by decide)) (fun h => absurd h (by decide))) (ha.low (by decide)).up (fun a h1 h2 => up_o h1) (by rw [up_s, up_o (by decide)])
theorem op_hold (v w : Int32) : OpI (mi_X3_hold v w) (mi_X4_hold v w) := by
  intro c M hc hS
  obtain ⟨hw, hs, ht, ha, -⟩ := id hS.1
  have h8 := hw.2.1
  have fx : ∀ K : Mem, (bd (mi_X3_finding 0 K) fun r_8 M_7 => some (r_8, M_7)) = mi_X3_finding (nI 0) K := fun K => by rw [bd_id]; rfl
  have fm : ∀ K : Mem, (bd (mi_X4_finding (-1000001) K) fun r_8 M_7 => some (r_8, M_7)) = mi_X4_finding (lowI 0) K := fun K => by rw [bd_id, low0]
  have good : inb v 10 = true → (-1 ≤ w.toInt ∧ w.toInt < nH (M 50)) → ∃ (r : Int32) (K Q : Mem), pi_X3_hold_32 v w M = some (r, K) ∧ pi_X4_hold_27 v w K = some (r, Q) ∧ Sim (c + 1) Q := by
    intro hv hb
    obtain ⟨i, hi, rfl⟩ := inb_of hv (by decide)
    refine ⟨1, up M 2 i w, up (up M 2 i w) 50 (4 + i) w, ?_, ?_, ?_⟩
    · unfold pi_X3_hold_32
      rw [hv, gd_t, nI_clamp (by omega), bM_e]
    · unfold pi_X4_hold_27
      rw [show (4 : Int32) = nI 4 from rfl, nI_add, inb_nI (by omega) (by decide), gd_t, nI_clamp (by omega), bM_e]
    · exact sim_row hS (Nat.le_succ c) (fun a h => up_o (by omega)) (sh_spot hs hi) ((ht.eq (fun a q1 q2 => up_o (by omega))).low h8 (by omega) (by omega)) (wf_low hw (by omega) (by omega) (fun h => absurd h (by omega)) (fun h => hb)) (ha.low (by omega)).up (fun a h1 h2 => up_o h1) (by rw [up_s, up_o (by decide)])
  show ∃ (r : Int32) (K Q : Mem), mi_X3_hold v w M = some (r, K) ∧ mi_X4_hold v w K = some (r, Q) ∧ Sim (c + 1) Q
  unfold mi_X3_hold pi_X3_hold_e pi_X3_hold_26
  rw [x_out, bd_s, show (9 : Int32) = nI 9 from rfl, inR_inb (by decide)]
  rw [x_lacks w hs hw, bd_s]
  cases hv : inb v 10 with
  | false =>
    refine op_find (fX := fun M => _) 0 (by decide) hS ?_ (fun K hK => ?_)
    · rw [if01, if_f]; exact fx M
    · unfold mi_X4_hold pi_X4_hold_e pi_X4_hold_20
      rw [m_spot, bd_s, hv, if10, if_f]; exact fm K
  | true =>
    rw [if01, if_t]
    by_cases hm : w = -1
    · rw [if_pos hm]
      obtain ⟨r, K, Q, q1, q2, q3⟩ := good hv (by rw [hm]; have : (-1 : Int32).toInt = -1 := by decide
                                                  omega)
      refine ⟨r, K, Q, q1, ?_, q3⟩
      unfold mi_X4_hold pi_X4_hold_e
      rw [m_spot, bd_s, hv, if10, if_t, if_pos hm]; exact q2
    · rw [if_neg hm]
      cases hh : inb w (nH (M 50)) with
      | false =>
        refine op_find (fX := fun M => _) 0 (by decide) hS ?_ (fun K hK => ?_)
        · rw [if01, if_f]; exact fx M
        · have k50 : K 50 = M 50 := hK 50 (by decide)
          unfold mi_X4_hold pi_X4_hold_e pi_X4_hold_20
          rw [m_spot, bd_s, hv, if10, if_t, if_neg hm, m_hill w (by rw [k50]; exact hw), bd_s, k50, hh, if10, if_f]; exact fm K
      | true =>
        rw [if01, if_t]
        have b := inb_iff.mp hh
        obtain ⟨r, K, Q, q1, q2, q3⟩ := good hv (by omega)
        have k50 : K 50 = M 50 := by
          obtain ⟨i, hi, hvi⟩ := inb_of hv (by decide)
          have e1 : pi_X3_hold_32 v w M = some (1, up M 2 i w) := by
            unfold pi_X3_hold_32
            rw [hv, gd_t, hvi, nI_clamp (by omega), bM_e]
          rw [e1] at q1
          have e2 : up M 2 i w = K := by
            have := Option.some.inj q1
            exact congrArg Prod.snd this
          rw [← e2, up_o (by decide)]
        refine ⟨r, K, Q, q1, ?_, q3⟩
        unfold mi_X4_hold pi_X4_hold_e
        rw [m_spot, bd_s, hv, if10, if_t, if_neg hm, m_hill w (by rw [k50]; exact hw), bd_s, k50, hh, if10, if_t]; exact q2
