/-! rows that change -/
theorem swc_y {α : Type} {x k : Int32} {o od : Option α} {r : List (Int32 × Option α)} (h : x = k) : swc x ((k, o) :: r) od = o := by
  show (if x = k then o else swc x r od) = o
  rw [if_pos h]
theorem swc_n {α : Type} {x k : Int32} {o od : Option α} {r : List (Int32 × Option α)} (h : x ≠ k) : swc x ((k, o) :: r) od = swc x r od := by
  show (if x = k then o else swc x r od) = swc x r od
  rw [if_neg h]
theorem swc_0 {α : Type} {x : Int32} {od : Option α} : swc x [] od = od := rfl
theorem fcN_cg {N P : Nat → Int32} {h : Nat} (h1 : vaN P h = vaN N h) (h2 : tuN P h = tuN N h) : fcN P h = fcN N h := by unfold fcN; rw [h1, h2]
theorem TbR.cg {b : Nat} {M : Mem} {N P : Nat → Int32} (h : TbR b M N) (h8 : nH N ≤ 8) (hn : nH P = nH N) (e : ∀ z, z < 8 → vaN P z = vaN N z ∧ tuN P z = tuN N z) : TbR b M P := by
  have ef : ∀ z, z < 8 → fcN P z = fcN N z := fun z hz => fcN_cg (e z hz).1 (e z hz).2
  refine ⟨fun z hz => ?_, fun v hv => ⟨?_, ?_⟩⟩
  · rw [hn] at hz
    refine ⟨by rw [ef z (by omega)]; exact (h.1 z hz).1, ?_⟩
    rw [(h.1 z hz).2]
    unfold mtN
    rw [hn]
    refine bset_congr (fun y hy => ?_)
    unfold mtB
    rw [ef z (by omega), ef y (by omega), (e z (by omega)).1, (e y (by omega)).1]
  · rw [(h.2 v hv).1]
    unfold stN
    rw [hn]
    exact bset_congr (fun y hy => by rw [(e y (by omega)).1])
  · rw [(h.2 v hv).2]
    unfold loN
    rw [hn]
    exact bset_congr (fun y hy => by rw [ef y (by omega)])
def Scr (a : Nat) : Prop := a = 52 ∨ a = 55 ∨ a = 56 ∨ a = 57 ∨ a = 58 ∨ a = 61 ∨ a = 65
theorem sim_row {c d : Nat} {M K Q : Mem} {P : Nat → Int32} (h : Sim c M) (hc : c ≤ d) (e1 : ∀ a, a < 1 ∨ 24 < a → K a = M a) (hs : ShR 1 K P) (ht : TbR 1 K P) (hw : Wf P) (ha : AgB d P) (e2 : ∀ a, a ≠ 50 → ¬ Scr a → Q a = K a) (e50 : Q 50 = P) : Sim d Q := by
  obtain ⟨⟨h1, h2, h3, h4, h5, h6, h7, h8⟩, h9⟩ := h
  have e : ∀ a, (a < 1 ∨ 24 < a) → a ≠ 50 → ¬ Scr a → Q a = M a := fun a q1 q2 q3 => (e2 a q2 q3).trans (e1 a q1)
  have e49 : Q 49 = M 49 := e 49 (by omega) (by omega) (by unfold Scr; omega)
  have e51 : Q 51 = M 51 := e 51 (by omega) (by omega) (by unfold Scr; omega)
  have e48 : Q 48 = M 48 := e 48 (by omega) (by omega) (by unfold Scr; omega)
  have e53 : Q 53 = M 53 := e 53 (by omega) (by omega) (by unfold Scr; omega)
  have e59 : Q 59 = M 59 := e 59 (by omega) (by omega) (by unfold Scr; omega)
  refine ⟨⟨by rw [e50]; exact hw, ?_, ?_, by rw [e50]; exact ha, ⟨?_, ?_, ?_⟩, ?_, ?_, ?_⟩, ?_⟩
  · rw [e50]; exact hs.eq (fun a q1 q2 => e2 a (by omega) (by unfold Scr; omega))
  · rw [e50]; exact ht.eq (fun a q1 q2 => e2 a (by omega) (by unfold Scr; omega))
  · rw [e 0 (by omega) (by omega) (by unfold Scr; omega), e49]; exact h5.1
  · rw [e49]; exact h5.2.1
  · intro hk
    rw [e49] at hk
    obtain ⟨q1, q2, q3⟩ := h5.2.2 hk
    rw [e51]
    exact ⟨q1, q2.eq (fun a a1 a2 => e a (by omega) (by omega) (by unfold Scr; omega)), ⟨q3.1, by have := q3.2; omega⟩⟩
  · intro j hj
    rw [e 54 (by omega) (by omega) (by unfold Scr; omega)]; exact h6 j hj
  · obtain ⟨t, t1, t2, t3, t4⟩ := h7
    refine ⟨t, t1, by rw [e 37 (by omega) (by omega) (by unfold Scr; omega)]; exact t2, by rw [e49]; exact t3, fun j hj => ?_⟩
    rw [e 38 (by omega) (by omega) (by unfold Scr; omega), e59]; exact t4 j hj
  · intro z hz
    rw [e (40 + 2 * z) (by omega) (by omega) (by unfold Scr; omega), e (40 + 2 * z + 1) (by omega) (by omega) (by unfold Scr; omega), e 62 (by omega) (by omega) (by unfold Scr; omega), e 63 (by omega) (by omega) (by unfold Scr; omega), e 64 (by omega) (by omega) (by unfold Scr; omega)]
    exact h8 z hz
  · unfold Fnd
    rw [e48, e53]; exact h9
/-- one number of a hill -/
theorem sh_set {b h f : Nat} {M : Mem} {N : Nat → Int32} {v : Int32} (hs : ShR b M N) (hh : h < 8) (hf : f < 6) : ShR b (up M (b + 2 + f) h v) (upd N (14 + 6 * h + f) v) := by
  obtain ⟨h1, h2, h3, h4, h5, h6⟩ := hs
  have lo : ∀ j, j < 14 → upd N (14 + 6 * h + f) v j = N j := fun j hj => upd_o (by omega)
  have e0 : up M (b + 2 + f) h v b = M b := up_o (by omega)
  refine ⟨by rw [e0, lo 3 (by decide)]; exact h1, by rw [e0, lo 0 (by decide)]; exact h2, by rw [e0, lo 2 (by decide)]; exact h3, by rw [e0, lo 1 (by decide)]; exact h4, fun i hi => by rw [up_o (by omega), lo _ (by omega)]; exact h5 i hi, fun z hz => ?_⟩
  obtain ⟨q0, q1, q2, q3, q4, q5⟩ := h6 z hz
  have key : ∀ g, g < 6 → M (b + 2 + g) z = N (14 + 6 * z + g) → up M (b + 2 + f) h v (b + 2 + g) z = upd N (14 + 6 * h + f) v (14 + 6 * z + g) := by
    intro g hg hq
    by_cases c1 : g = f
    · subst c1
      rw [up_s]
      by_cases c2 : z = h
      · subst c2; rw [upd_s, upd_s]
      · rw [upd_o c2, upd_o (by omega)]; exact hq
    · rw [up_o (by omega), upd_o (by omega)]; exact hq
  exact ⟨key 0 (by decide) q0, key 1 (by decide) q1, key 2 (by decide) q2, key 3 (by decide) q3, key 4 (by decide) q4, key 5 (by decide) q5⟩
def okT (f : Nat) (v : Int32) : Prop := (f = 0 → inb v 7 = true) ∧ (f = 1 → inb v 12 = true) ∧ (f = 2 → -5 ≤ v.toInt ∧ v.toInt ≤ 5) ∧ (f = 3 → inb v 4 = true) ∧ (f = 4 → inb v 100 = true) ∧ (f = 5 → inb v 10000 = true)
theorem nH_upd {N : Nat → Int32} {j : Nat} {v : Int32} (h : j ≠ 1) : nH (upd N j v) = nH N := by
  unfold nH
  rw [upd_o (Ne.symm h)]
theorem wf_set {h f : Nat} {N : Nat → Int32} {v : Int32} (hw : Wf N) (hf : f < 6) (hv : okT f v) : Wf (upd N (14 + 6 * h + f) v) := by
  have lo : ∀ j, j < 14 → upd N (14 + 6 * h + f) v j = N j := fun j hj => upd_o (by omega)
  have hn : nH (upd N (14 + 6 * h + f) v) = nH N := nH_upd (by omega)
  refine ⟨by rw [hn, lo 1 (by decide)]; exact hw.1, by rw [hn]; exact hw.2.1, by rw [lo 3 (by decide)]; exact hw.2.2.1, fun z hz => ?_, fun i hi => by rw [hn, lo _ (by omega)]; exact hw.2.2.2.2 i hi⟩
  obtain ⟨w0, w1, w2, w3, w4, w5⟩ := hw.2.2.2.1 z hz
  obtain ⟨v0, v1, v2, v3, v4, v5⟩ := hv
  have key : ∀ (g : Nat) (R : Int32 → Prop), g < 6 → R (N (14 + 6 * z + g)) → (f = g → R v) → R (upd N (14 + 6 * h + f) v (14 + 6 * z + g)) := by
    intro g R hg hq hv
    by_cases c1 : 14 + 6 * z + g = 14 + 6 * h + f
    · rw [c1, upd_s]; exact hv (by omega)
    · rw [upd_o c1]; exact hq
  exact ⟨key 0 (fun x => inb x 7 = true) (by decide) w0 v0, key 1 (fun x => inb x 12 = true) (by decide) w1 v1, key 2 (fun x => -5 ≤ x.toInt ∧ x.toInt ≤ 5) (by decide) w2 v2, key 3 (fun x => inb x 4 = true) (by decide) w3 v3, key 4 (fun x => inb x 100 = true) (by decide) w4 v4, key 5 (fun x => inb x 10000 = true) (by decide) w5 v5⟩
theorem hd_set {b h f : Nat} {M : Mem} {N : Nat → Int32} {v : Int32} (hs : ShR b M N) (hw : Wf N) (hh : h < 8) (hf : f < 6) (hv : okT f v) : ∃ K : Mem, mi_X2_setTrait b (nI h) (nI f) v M = some K ∧ ShR b K (upd N (14 + 6 * h + f) v) ∧ TbR b K (upd N (14 + 6 * h + f) v) ∧ Fr b M K := by
  obtain ⟨K, k1, k2, k3, k4⟩ := hd_look (sh_set (v := v) hs hh hf) (wf_set (h := h) hw hf hv)
  refine ⟨K, ?_, k2, k3, fun a ha => by rw [k4 a (by omega), up_o (by omega)]⟩
  unfold mi_X2_setTrait pi_X2_setTrait_e pi_X2_setTrait_93
  rw [inb_nI hh (by decide), gd_t, gd_t, gd_t, gd_t, gd_t, gd_t, nI_clamp (by omega)]
  simp only [bM_e]
  have hc : f = 0 ∨ f = 1 ∨ f = 2 ∨ f = 3 ∨ f = 4 ∨ f = 5 := by omega
  rcases hc with rfl | rfl | rfl | rfl | rfl | rfl
  · rw [swc_y (by decide), show b + 2 = b + 2 + 0 from rfl, k1]; rfl
  · rw [swc_n (by decide), swc_y (by decide), show b + 3 = b + 2 + 1 from rfl, k1]; rfl
  · rw [swc_n (by decide), swc_n (by decide), swc_y (by decide), show b + 4 = b + 2 + 2 from rfl, k1]; rfl
  · rw [swc_n (by decide), swc_n (by decide), swc_n (by decide), swc_y (by decide), show b + 5 = b + 2 + 3 from rfl, k1]; rfl
  · rw [swc_n (by decide), swc_n (by decide), swc_n (by decide), swc_n (by decide), swc_y (by decide), show b + 6 = b + 2 + 4 from rfl, k1]; rfl
  · rw [swc_n (by decide), swc_n (by decide), swc_n (by decide), swc_n (by decide), swc_n (by decide), swc_0, show b + 7 = b + 2 + 5 from rfl, k1]; rfl
/-- a new hill -/
def addN (N : Nat → Int32) (k v s t g : Int32) : Nat → Int32 := upd (upd (upd (upd (upd (upd (upd N (14 + 6 * nH N + 0) k) (14 + 6 * nH N + 1) v) (14 + 6 * nH N + 2) s) (14 + 6 * nH N + 3) t) (14 + 6 * nH N + 4) g) (14 + 6 * nH N + 5) 0) 1 (nI (nH N + 1))
theorem sh_cnt {b : Nat} {M : Mem} {N : Nat → Int32} {v : Int32} (hs : ShR b M N) : ShR b (up M b 3 v) (upd N 1 v) := by
  obtain ⟨h1, h2, h3, h4, h5, h6⟩ := hs
  refine ⟨?_, ?_, ?_, ?_, fun i hi => ?_, fun z hz => ?_⟩
  · rw [up_s, upd_o (by decide), upd_o (by decide)]; exact h1
  · rw [up_s, upd_o (by decide), upd_o (by decide)]; exact h2
  · rw [up_s, upd_o (by decide), upd_o (by decide)]; exact h3
  · rw [up_s, upd_s, upd_s]
  · rw [up_o (by omega), upd_o (by omega)]; exact h5 i hi
  · rw [up_o (by omega), up_o (by omega), up_o (by omega), up_o (by omega), up_o (by omega), up_o (by omega)]
    unfold kdN vaN spN tuN hiN boN
    rw [upd_o (by omega), upd_o (by omega), upd_o (by omega), upd_o (by omega), upd_o (by omega), upd_o (by omega)]
    exact h6 z hz
theorem nH_add {N : Nat → Int32} {k v s t g : Int32} (h : nH N < 8) : nH (addN N k v s t g) = nH N + 1 := by
  show ((addN N k v s t g) 1).toNatClampNeg = _
  unfold addN
  rw [upd_s, nI_clamp (by omega)]
theorem wf_add {N : Nat → Int32} {k v s t g : Int32} (hw : Wf N) (h : nH N < 8) (v0 : inb k 7 = true) (v1 : inb v 12 = true) (v2 : -5 ≤ s.toInt ∧ s.toInt ≤ 5) (v3 : inb t 4 = true) (v4 : inb g 100 = true) : Wf (addN N k v s t g) := by
  have hn := nH_add (k := k) (v := v) (s := s) (t := t) (g := g) h
  have w6 : Wf (upd (upd (upd (upd (upd (upd N (14 + 6 * nH N + 0) k) (14 + 6 * nH N + 1) v) (14 + 6 * nH N + 2) s) (14 + 6 * nH N + 3) t) (14 + 6 * nH N + 4) g) (14 + 6 * nH N + 5) 0) := by
    refine wf_set (wf_set (wf_set (wf_set (wf_set (wf_set hw (by decide) ?_) (by decide) ?_) (by decide) ?_) (by decide) ?_) (by decide) ?_) (by decide) ?_
    all_goals (unfold okT; refine ⟨?_, ?_, ?_, ?_, ?_, ?_⟩ <;> intro z <;> first | exact absurd z (by decide) | assumption | decide)
  have n6 : nH (upd (upd (upd (upd (upd (upd N (14 + 6 * nH N + 0) k) (14 + 6 * nH N + 1) v) (14 + 6 * nH N + 2) s) (14 + 6 * nH N + 3) t) (14 + 6 * nH N + 4) g) (14 + 6 * nH N + 5) 0) = nH N := by
    rw [nH_upd (by omega), nH_upd (by omega), nH_upd (by omega), nH_upd (by omega), nH_upd (by omega), nH_upd (by omega)]
  refine ⟨by rw [hn]; exact upd_s, by rw [hn]; omega, ?_, fun z hz => ?_, fun i hi => ?_⟩
  · show inb (upd _ 1 _ 3) 10 = true
    rw [upd_o (by decide)]; exact w6.2.2.1
  · have w := w6.2.2.2.1 z hz
    unfold Wh kdN vaN spN tuN hiN boN at w ⊢
    unfold addN
    rw [upd_o (show 14 + 6 * z + 0 ≠ 1 by omega), upd_o (show 14 + 6 * z + 1 ≠ 1 by omega), upd_o (show 14 + 6 * z + 2 ≠ 1 by omega), upd_o (show 14 + 6 * z + 3 ≠ 1 by omega), upd_o (show 14 + 6 * z + 4 ≠ 1 by omega), upd_o (show 14 + 6 * z + 5 ≠ 1 by omega)]
    exact w
  · have w := w6.2.2.2.2 i hi
    rw [n6] at w
    rw [hn]
    show -1 ≤ (upd _ 1 _ (4 + i)).toInt ∧ (upd _ 1 _ (4 + i)).toInt < _
    rw [upd_o (by omega)]
    omega
theorem hd_raise {b : Nat} {M : Mem} {N : Nat → Int32} {k v : Int32} (hs : ShR b M N) (hw : Wf N) (h : nH N < 8) (v0 : inb k 7 = true) (v1 : inb v 12 = true) : ∃ K : Mem, mi_X2_raise b k v M = some (nI (nH N), K) ∧ ShR b K (addN N k v 1 0 50) ∧ TbR b K (addN N k v 1 0 50) ∧ Fr b M K := by
  have s1 := sh_cnt (v := nI (nH N + 1)) (sh_set (v := 0) (f := 5) (sh_set (v := 50) (f := 4) (sh_set (v := 0) (f := 3) (sh_set (v := 1) (f := 2) (sh_set (v := v) (f := 1) (sh_set (v := k) (f := 0) hs h (by decide)) h (by decide)) h (by decide)) h (by decide)) h (by decide)) h (by decide))
  obtain ⟨K, k1, k2, k3, k4⟩ := hd_look s1 (wf_add hw h v0 v1 (by decide) (by decide) (by decide))
  refine ⟨K, ?_, k2, k3, fun a ha => by rw [k4 a (by omega), up_o (by omega), up_o (by omega), up_o (by omega), up_o (by omega), up_o (by omega), up_o (by omega), up_o (by omega)]⟩
  unfold mi_X2_raise pi_X2_raise_e
  have i8 : inb (nI (nH N)) 8 = true := inb_nI h (by decide)
  simp only [bI_e, bM_e, hs.2.2.2.1, hw.1, i8, gd_t, nI_clamp (show nH N < 2 ^ 31 by omega), nI_1]
  show bv (mi_X2_lookAround b (up (up (up (up (up (up (up M (b + 2 + 0) (nH N) k) (b + 2 + 1) (nH N) v) (b + 2 + 2) (nH N) 1) (b + 2 + 3) (nH N) 0) (b + 2 + 4) (nH N) 50) (b + 2 + 5) (nH N) 0) b 3 (nI (nH N + 1)))) (fun M_15 => some (nI (nH N), M_15)) = _
  rw [k1]; rfl
theorem md_comes {M : Mem} (k v s t g : Int32) (hw : Wf (M 50)) (h : nH (M 50) < 8) : ∃ K : Mem, mi_X4_comes k v s t g M = some (nI (nH (M 50)), K) ∧ K 50 = addN (M 50) k v s t g ∧ ∀ a, a ≠ 50 → K a = M a := by
  have e1 : M 50 1 = nI (nH (M 50)) := hw.1
  have ii : ∀ f, f < 6 → inb (nI (14 + 6 * nH (M 50) + f)) 62 = true := fun f hf => inb_nI (by omega) (by decide)
  have cc : ∀ f, f < 6 → (nI (14 + 6 * nH (M 50) + f)).toNatClampNeg = 14 + 6 * nH (M 50) + f := fun f hf => nI_clamp (by omega)
  refine ⟨up (up (up (up (up (up (up M 50 (14 + 6 * nH (M 50) + 0) k) 50 (14 + 6 * nH (M 50) + 1) v) 50 (14 + 6 * nH (M 50) + 2) s) 50 (14 + 6 * nH (M 50) + 3) t) 50 (14 + 6 * nH (M 50) + 4) g) 50 (14 + 6 * nH (M 50) + 5) 0) 50 1 (nI (nH (M 50) + 1)), ?_, ?_, fun a ha => by rw [up_o ha, up_o ha, up_o ha, up_o ha, up_o ha, up_o ha, up_o ha]⟩
  · unfold mi_X4_comes pi_X4_comes_e
    rw [in1_62, gd_t, bI_e, tN1, e1, md_atf _ 0 (f := 0) rfl, bd_s, ii 0 (by decide), gd_t, cc 0 (by decide), bM_e, md_atf _ 1 (f := 1) rfl, bd_s, ii 1 (by decide), gd_t, cc 1 (by decide), bM_e, md_atf _ 2 (f := 2) rfl, bd_s, ii 2 (by decide), gd_t, cc 2 (by decide), bM_e, md_atf _ 3 (f := 3) rfl, bd_s, ii 3 (by decide), gd_t, cc 3 (by decide), bM_e, md_atf _ 4 (f := 4) rfl, bd_s, ii 4 (by decide), gd_t, cc 4 (by decide), bM_e, md_atf _ 5 (f := 5) rfl, bd_s, ii 5 (by decide), gd_t, cc 5 (by decide), bM_e, gd_t, gd_t]
    rw [up_s, up_s, up_s, up_s, up_s, up_s, upd_o (by omega), upd_o (by omega), upd_o (by omega), upd_o (by omega), upd_o (by omega), upd_o (by omega), e1, nI_1, bM_e]
  · rw [up_s, up_s, up_s, up_s, up_s, up_s, up_s]
    rfl
theorem md_become {j : Nat} {M : Mem} (v : Int32) (hj : j < 62) : mi_X4_become (nI j) v M = some (M 50 j, up M 50 j v) := by
  unfold mi_X4_become pi_X4_become_e
  rw [inb_nI hj (by decide), gd_t, bI_e, gd_t, nI_clamp (by omega), bM_e]
theorem hd_become {b q : Nat} {M : Mem} {N : Nat → Int32} (hs : ShR q M N) (hw : Wf N) (hd : b + 12 ≤ q ∨ q + 12 ≤ b) : ∃ K : Mem, mi_X2_become b q M = some K ∧ ShR b K N ∧ TbR b K N ∧ Fr b M K := by
  have t10 : (10 : Int32).toNatClampNeg = 10 := by decide
  have t8 : (8 : Int32).toNatClampNeg = 8 := by decide
  have c10 : cpo 0 0 10 10 10 = true := by decide
  have c8 : cpo 0 0 8 8 8 = true := by decide
  unfold mi_X2_become pi_X2_become_e
  simp only [bM_e, c10, c8, gd_t, tN0, t10, t8]
  generalize hK : upA _ (b + 7) _ = K
  have d : ∀ j, j < 8 → q + j ≠ b ∧ q + j ≠ b + 1 ∧ q + j ≠ b + 2 ∧ q + j ≠ b + 3 ∧ q + j ≠ b + 4 ∧ q + j ≠ b + 5 ∧ q + j ≠ b + 6 ∧ q + j ≠ b + 7 := fun j hj => by omega
  have sK : ShR b K N := by
    obtain ⟨h1, h2, h3, h4, h5, h6⟩ := hs
    have qb : q ≠ b := by omega
    have k0 : K b = upd (upd (upd (upd (M b) 0 (M q 0)) 1 (M q 1)) 2 (M q 2)) 3 (M q 3) := by
      rw [← hK]
      simp only [upA_o (show b ≠ b + 7 by omega), upA_o (show b ≠ b + 6 by omega), upA_o (show b ≠ b + 5 by omega), upA_o (show b ≠ b + 4 by omega), upA_o (show b ≠ b + 3 by omega), upA_o (show b ≠ b + 2 by omega), upA_o (show b ≠ b + 1 by omega), up_s, up_o qb]
    have ks : ∀ i, i < 10 → K (b + 1) i = M (q + 1) i := by
      intro i hi
      rw [← hK]
      simp only [upA_o (show b + 1 ≠ b + 7 by omega), upA_o (show b + 1 ≠ b + 6 by omega), upA_o (show b + 1 ≠ b + 5 by omega), upA_o (show b + 1 ≠ b + 4 by omega), upA_o (show b + 1 ≠ b + 3 by omega), upA_o (show b + 1 ≠ b + 2 by omega), upA_s]
      rw [sb_cpy0 hi]
      simp only [up_o (show q + 1 ≠ b by omega)]
    have kh : ∀ z, z < 8 → K (b + 2) z = M (q + 2) z ∧ K (b + 3) z = M (q + 3) z ∧ K (b + 4) z = M (q + 4) z ∧ K (b + 5) z = M (q + 5) z ∧ K (b + 6) z = M (q + 6) z ∧ K (b + 7) z = M (q + 7) z := by
      intro z hz
      rw [← hK]
      refine ⟨?_, ?_, ?_, ?_, ?_, ?_⟩
      · simp only [upA_o (show b + 2 ≠ b + 7 by omega), upA_o (show b + 2 ≠ b + 6 by omega), upA_o (show b + 2 ≠ b + 5 by omega), upA_o (show b + 2 ≠ b + 4 by omega), upA_o (show b + 2 ≠ b + 3 by omega), upA_s]
        rw [sb_cpy0 hz]
        simp only [upA_o (show q + 2 ≠ b + 1 by omega), up_o (show q + 2 ≠ b by omega)]
      · simp only [upA_o (show b + 3 ≠ b + 7 by omega), upA_o (show b + 3 ≠ b + 6 by omega), upA_o (show b + 3 ≠ b + 5 by omega), upA_o (show b + 3 ≠ b + 4 by omega), upA_s]
        rw [sb_cpy0 hz]
        simp only [upA_o (show q + 3 ≠ b + 2 by omega), upA_o (show q + 3 ≠ b + 1 by omega), up_o (show q + 3 ≠ b by omega)]
      · simp only [upA_o (show b + 4 ≠ b + 7 by omega), upA_o (show b + 4 ≠ b + 6 by omega), upA_o (show b + 4 ≠ b + 5 by omega), upA_s]
        rw [sb_cpy0 hz]
        simp only [upA_o (show q + 4 ≠ b + 3 by omega), upA_o (show q + 4 ≠ b + 2 by omega), upA_o (show q + 4 ≠ b + 1 by omega), up_o (show q + 4 ≠ b by omega)]
      · simp only [upA_o (show b + 5 ≠ b + 7 by omega), upA_o (show b + 5 ≠ b + 6 by omega), upA_s]
        rw [sb_cpy0 hz]
        simp only [upA_o (show q + 5 ≠ b + 4 by omega), upA_o (show q + 5 ≠ b + 3 by omega), upA_o (show q + 5 ≠ b + 2 by omega), upA_o (show q + 5 ≠ b + 1 by omega), up_o (show q + 5 ≠ b by omega)]
      · simp only [upA_o (show b + 6 ≠ b + 7 by omega), upA_s]
        rw [sb_cpy0 hz]
        simp only [upA_o (show q + 6 ≠ b + 5 by omega), upA_o (show q + 6 ≠ b + 4 by omega), upA_o (show q + 6 ≠ b + 3 by omega), upA_o (show q + 6 ≠ b + 2 by omega), upA_o (show q + 6 ≠ b + 1 by omega), up_o (show q + 6 ≠ b by omega)]
      · simp only [upA_s]
        rw [sb_cpy0 hz]
        simp only [upA_o (show q + 7 ≠ b + 6 by omega), upA_o (show q + 7 ≠ b + 5 by omega), upA_o (show q + 7 ≠ b + 4 by omega), upA_o (show q + 7 ≠ b + 3 by omega), upA_o (show q + 7 ≠ b + 2 by omega), upA_o (show q + 7 ≠ b + 1 by omega), up_o (show q + 7 ≠ b by omega)]
    refine ⟨?_, ?_, ?_, ?_, fun i hi => by rw [ks i hi]; exact h5 i hi, fun z hz => ?_⟩
    · rw [k0, upd_o (by decide), upd_o (by decide), upd_o (by decide), upd_s]; exact h1
    · rw [k0, upd_o (by decide), upd_o (by decide), upd_s]; exact h2
    · rw [k0, upd_o (by decide), upd_s]; exact h3
    · rw [k0, upd_s]; exact h4
    · obtain ⟨a1, a2, a3, a4, a5, a6⟩ := kh z hz
      rw [a1, a2, a3, a4, a5, a6]; exact h6 z hz
  have fK : ∀ a, a < b ∨ b + 8 ≤ a → K a = M a := by
    intro a ha
    rw [← hK]
    simp only [upA_o (show a ≠ b + 7 by omega), upA_o (show a ≠ b + 6 by omega), upA_o (show a ≠ b + 5 by omega), upA_o (show a ≠ b + 4 by omega), upA_o (show a ≠ b + 3 by omega), upA_o (show a ≠ b + 2 by omega), upA_o (show a ≠ b + 1 by omega), up_o (show a ≠ b by omega)]
  obtain ⟨Q, q1, q2, q3, q4⟩ := hd_look sK hw
  rw [q1]
  exact ⟨Q, rfl, q2, q3, fun a ha => by rw [q4 a (by omega), fK a (by omega)]⟩
theorem md_copy {x y : Nat} (M : Mem) (hxy : x ≠ y) : ∃ K : Mem, mi_X4_copyRow x 62 y 62 M = some K ∧ (∀ j, j < 62 → K y j = M x j) ∧ (∀ j, 62 ≤ j → K y j = M y j) ∧ ∀ a, a ≠ y → K a = M a := by
  unfold mi_X4_copyRow pi_X4_copyRow_e
  refine lp_inv (I := fun j zx => zx.1 = nI j ∧ (∀ i, i < j → zx.2 y i = M x i) ∧ (∀ i, 62 ≤ i → zx.2 y i = M y i) ∧ ∀ a, a ≠ y → zx.2 a = M a) (Post := fun zo => ∃ K : Mem, zo = some K ∧ (∀ j, j < 62 → K y j = M x j) ∧ (∀ j, 62 ≤ j → K y j = M y j) ∧ ∀ a, a ≠ y → K a = M a) 62 ?_ ?_ FU (FU_le (by omega)) (0, M) ⟨rfl, fun i hi => absurd hi (by omega), fun _ _ => rfl, fun _ _ => rfl⟩
  · intro j hj zx hI rec
    obtain ⟨zi, K⟩ := zx
    obtain ⟨h1, h2, h3, h4⟩ := hI
    dsimp only at h1 h2 h3 h4
    subst h1
    refine ⟨(nI (j + 1), up K y j (M x j)), ⟨rfl, fun i hi => ?_, fun i hi => ?_, fun a ha => ?_⟩, ?_⟩
    · dsimp only
      rw [up_s]
      by_cases c : i = j
      · subst c; exact upd_s
      · rw [upd_o c]; exact h2 i (by omega)
    · dsimp only
      rw [up_s, upd_o (by omega)]; exact h3 i hi
    · dsimp only
      rw [up_o ha]; exact h4 a ha
    · show pi_X4_copyRow_2 x 62 y 62 rec (nI j) K = _
      unfold pi_X4_copyRow_2
      rw [show (62 : Int32) = nI 62 from rfl, if_neg (nI_ge hj (by decide)), inb_nI hj (by decide), gd_t, gd_t, nI_clamp (by omega), h4 x hxy, bM_e, bI_e, nI_1]
  · intro zx hI rec
    obtain ⟨zi, K⟩ := zx
    obtain ⟨h1, h2, h3, h4⟩ := hI
    dsimp only at h1 h2 h3 h4
    subst h1
    refine ⟨K, ?_, h2, h3, h4⟩
    show pi_X4_copyRow_2 x 62 y 62 rec (nI 62) K = _
    unfold pi_X4_copyRow_2
    rw [show (62 : Int32) = nI 62 from rfl, if_pos (Int32.le_refl _)]
