/-! the law: call by call -/
theorem swc_P {α : Type} {P : Option α → Prop} {x : Int32} {od : Option α} : ∀ {os : List (Int32 × Option α)}, (∀ q ∈ os, P q.2) → P od → P (swc x os od) := by
  intro os
  induction os with
  | nil => intro _ h; exact h
  | cons q r ih =>
    intro h1 h2
    obtain ⟨zk, zo⟩ := q
    show P (if x = zk then zo else swc x r od)
    by_cases c : x = zk
    · rw [if_pos c]; exact h1 (zk, zo) List.mem_cons_self
    · rw [if_neg c]; exact ih (fun q hq => h1 q (List.mem_cons_of_mem _ hq)) h2
theorem all_cons {α : Type} {P : Option α → Prop} {zk : Int32} {zo : Option α} {r : List (Int32 × Option α)} (h1 : P zo) (h2 : ∀ q ∈ r, P q.2) : ∀ q ∈ (zk, zo) :: r, P q.2 := by
  intro q hq
  rcases List.mem_cons.mp hq with e | e
  · rw [e]; exact h1
  · exact h2 q e
def LawI (k : Nat) (zx : Int32 × Mem) : Prop := zx.1 = nI (6 * k) ∧ Sim k zx.2
theorem law_op {fX fM : Mem → Option (Int32 × Mem)} {k : Nat} {M : Mem} {rec : Int32 × Mem → Option Unit} (h : OpI fX fM) (hk : k < 512) (hS : Sim k M) : ∃ zy, LawI (k + 1) zy ∧ (bd (fX M) fun r K => bd (fM K) fun r2 Q => if r = r2 then (bI (nI (6 * k) + 6) fun v => rec (v, Q)) else none) = rec zy := by
  obtain ⟨r, K, Q, h1, h2, h3⟩ := h k M hk hS
  refine ⟨(nI (6 * (k + 1)), Q), ⟨rfl, h3⟩, ?_⟩
  rw [h1, bd_s, h2, bd_s, if_pos rfl, bI_e, show (6 : Int32) = nI 6 from rfl, nI_add, show 6 * k + 6 = 6 * (k + 1) by omega]
theorem law_opL {fX fM : Mem → Option (Int64 × Mem)} {k : Nat} {M : Mem} {rec : Int32 × Mem → Option Unit} (h : OpL fX fM) (hk : k < 512) (hS : Sim k M) : ∃ zy, LawI (k + 1) zy ∧ (bd (fX M) fun r K => bd (fM K) fun r2 Q => if lg_cmp r r2 = 0 then (bI (nI (6 * k) + 6) fun v => rec (v, Q)) else none) = rec zy := by
  obtain ⟨r, K, Q, h1, h2, h3⟩ := h k M hk hS
  refine ⟨(nI (6 * (k + 1)), Q), ⟨rfl, h3⟩, ?_⟩
  have e : lg_cmp r r = 0 := by simp [lg_cmp]
  rw [h1, bd_s, h2, bd_s, if_pos e, bI_e, show (6 : Int32) = nI 6 from rfl, nI_add, show 6 * k + 6 = 6 * (k + 1) by omega]
theorem law_none {k : Nat} {M : Mem} {rec : Int32 × Mem → Option Unit} (hS : Sim k M) : ∃ zy, LawI (k + 1) zy ∧ (bI (nI (6 * k) + 6) fun v => rec (v, M)) = rec zy := by
  refine ⟨(nI (6 * (k + 1)), M), ⟨rfl, hS.up⟩, ?_⟩
  rw [bI_e, show (6 : Int32) = nI 6 from rfl, nI_add, show 6 * k + 6 = 6 * (k + 1) by omega]
set_option maxRecDepth 100000 in
set_option maxHeartbeats 40000000 in
theorem law_step {Ln k : Nat} {xs : Nat → Int32} {M : Mem} {rec : Int32 × Mem → Option Unit} (hL : Ln ≤ 3072) (hk : 6 * (k + 1) ≤ Ln) (hS : Sim k M) : ∃ zy, LawI (k + 1) zy ∧ pi_L_law_18 Ln xs rec (nI (6 * k)) M = rec zy := by
  have hk5 : k < 512 := by omega
  have e6 : (Int32.ofNat Ln - 6).toInt = (Ln : Int) - 6 := pk_sub_toInt (a := Ln) (b := 6) (by omega) (by decide)
  have ek := nI_toInt (n := 6 * k) (by omega)
  have c0 : ¬ (Int32.ofNat Ln - 6 < nI (6 * k)) := fun z => by
    have := i_lt.mp z
    omega
  have i0 : inb (nI (6 * k)) Ln = true := inb_nI (by omega) (by omega)
  have i1 : inb (nI (6 * k) + 1) Ln = true := by rw [show (1 : Int32) = nI 1 from rfl, nI_add]; exact inb_nI (by omega) (by omega)
  have i2 : inb (nI (6 * k) + 2) Ln = true := by rw [show (2 : Int32) = nI 2 from rfl, nI_add]; exact inb_nI (by omega) (by omega)
  have i3 : inb (nI (6 * k) + 3) Ln = true := by rw [show (3 : Int32) = nI 3 from rfl, nI_add]; exact inb_nI (by omega) (by omega)
  have i4 : inb (nI (6 * k) + 4) Ln = true := by rw [show (4 : Int32) = nI 4 from rfl, nI_add]; exact inb_nI (by omega) (by omega)
  have i5 : inb (nI (6 * k) + 5) Ln = true := by rw [show (5 : Int32) = nI 5 from rfl, nI_add]; exact inb_nI (by omega) (by omega)
  unfold pi_L_law_18
  simp only [if_neg c0, i0, i1, i2, i3, i4, i5, gd_t]
  refine swc_P (P := fun zo => ∃ zy, LawI (k + 1) zy ∧ zo = rec zy) ?_ (law_none hS)
  refine all_cons (P := fun zo => ∃ zy, LawI (k + 1) zy ∧ zo = rec zy) (by exact law_op (op_rain _) hk5 hS) ?_
  refine all_cons (P := fun zo => ∃ zy, LawI (k + 1) zy ∧ zo = rec zy) (by exact law_op (op_hill _ _) hk5 hS) ?_
  refine all_cons (P := fun zo => ∃ zy, LawI (k + 1) zy ∧ zo = rec zy) (by exact law_op (op_of _ _) hk5 hS) ?_
  refine all_cons (P := fun zo => ∃ zy, LawI (k + 1) zy ∧ zo = rec zy) (by exact law_op (op_change _ _ _) hk5 hS) ?_
  refine all_cons (P := fun zo => ∃ zy, LawI (k + 1) zy ∧ zo = rec zy) (by exact law_op (op_valley _ _) hk5 hS) ?_
  refine all_cons (P := fun zo => ∃ zy, LawI (k + 1) zy ∧ zo = rec zy) (by exact law_op (op_go _) hk5 hS) ?_
  refine all_cons (P := fun zo => ∃ zy, LawI (k + 1) zy ∧ zo = rec zy) (by exact law_op (op_now _) hk5 hS) ?_
  refine all_cons (P := fun zo => ∃ zy, LawI (k + 1) zy ∧ zo = rec zy) (by exact law_op (op_ahead _ _ _) hk5 hS) ?_
  refine all_cons (P := fun zo => ∃ zy, LawI (k + 1) zy ∧ zo = rec zy) (by exact law_op (op_when _ _) hk5 hS) ?_
  refine all_cons (P := fun zo => ∃ zy, LawI (k + 1) zy ∧ zo = rec zy) (by exact law_op (op_meet _ _) hk5 hS) ?_
  refine all_cons (P := fun zo => ∃ zy, LawI (k + 1) zy ∧ zo = rec zy) (by exact law_op (op_round) hk5 hS) ?_
  refine all_cons (P := fun zo => ∃ zy, LawI (k + 1) zy ∧ zo = rec zy) (by exact law_op (op_skylines _ _) hk5 hS) ?_
  refine all_cons (P := fun zo => ∃ zy, LawI (k + 1) zy ∧ zo = rec zy) (by exact law_op (op_wallflowers _) hk5 hS) ?_
  refine all_cons (P := fun zo => ∃ zy, LawI (k + 1) zy ∧ zo = rec zy) (by exact law_op (op_stand _ _) hk5 hS) ?_
  refine all_cons (P := fun zo => ∃ zy, LawI (k + 1) zy ∧ zo = rec zy) (by exact law_op (op_stepFor _ _) hk5 hS) ?_
  refine all_cons (P := fun zo => ∃ zy, LawI (k + 1) zy ∧ zo = rec zy) (by exact law_op (op_turnFor _ _) hk5 hS) ?_
  refine all_cons (P := fun zo => ∃ zy, LawI (k + 1) zy ∧ zo = rec zy) (by exact law_op (op_kindFor _ _) hk5 hS) ?_
  refine all_cons (P := fun zo => ∃ zy, LawI (k + 1) zy ∧ zo = rec zy) (by exact law_op (op_rainFor _ _ _) hk5 hS) ?_
  refine all_cons (P := fun zo => ∃ zy, LawI (k + 1) zy ∧ zo = rec zy) (by exact law_op (op_road _ _ _) hk5 hS) ?_
  refine all_cons (P := fun zo => ∃ zy, LawI (k + 1) zy ∧ zo = rec zy) (by exact law_op (op_climb _ _) hk5 hS) ?_
  refine all_cons (P := fun zo => ∃ zy, LawI (k + 1) zy ∧ zo = rec zy) (by exact law_op (op_open _ _ _ _) hk5 hS) ?_
  refine all_cons (P := fun zo => ∃ zy, LawI (k + 1) zy ∧ zo = rec zy) (by exact law_op (op_lay _ _ _) hk5 hS) ?_
  refine all_cons (P := fun zo => ∃ zy, LawI (k + 1) zy ∧ zo = rec zy) (by exact law_op (op_fits _ _) hk5 hS) ?_
  refine all_cons (P := fun zo => ∃ zy, LawI (k + 1) zy ∧ zo = rec zy) (by exact law_op (op_step _ _) hk5 hS) ?_
  refine all_cons (P := fun zo => ∃ zy, LawI (k + 1) zy ∧ zo = rec zy) (by exact law_op (op_kinds _ _) hk5 hS) ?_
  refine all_cons (P := fun zo => ∃ zy, LawI (k + 1) zy ∧ zo = rec zy) (by exact law_op (op_rains _) hk5 hS) ?_
  refine all_cons (P := fun zo => ∃ zy, LawI (k + 1) zy ∧ zo = rec zy) (by exact law_opL (op_odds _ _) hk5 hS) ?_
  refine all_cons (P := fun zo => ∃ zy, LawI (k + 1) zy ∧ zo = rec zy) (by exact law_op (op_seed _) hk5 hS) ?_
  refine all_cons (P := fun zo => ∃ zy, LawI (k + 1) zy ∧ zo = rec zy) (by exact law_op (op_feed _ _) hk5 hS) ?_
  refine all_cons (P := fun zo => ∃ zy, LawI (k + 1) zy ∧ zo = rec zy) (by exact law_op (op_wipe) hk5 hS) ?_
  refine all_cons (P := fun zo => ∃ zy, LawI (k + 1) zy ∧ zo = rec zy) (by exact law_op (op_text) hk5 hS) ?_
  refine all_cons (P := fun zo => ∃ zy, LawI (k + 1) zy ∧ zo = rec zy) (by exact law_op (op_hold _ _) hk5 hS) ?_
  refine all_cons (P := fun zo => ∃ zy, LawI (k + 1) zy ∧ zo = rec zy) (by exact law_op (op_as _ _) hk5 hS) ?_
  refine all_cons (P := fun zo => ∃ zy, LawI (k + 1) zy ∧ zo = rec zy) (by exact law_op (op_sheet _ _ _) hk5 hS) ?_
  refine all_cons (P := fun zo => ∃ zy, LawI (k + 1) zy ∧ zo = rec zy) (by exact law_op (op_write _ _ _) hk5 hS) ?_
  refine all_cons (P := fun zo => ∃ zy, LawI (k + 1) zy ∧ zo = rec zy) (by exact law_op (op_copy _ _ _ _ _) hk5 hS) ?_
  refine all_cons (P := fun zo => ∃ zy, LawI (k + 1) zy ∧ zo = rec zy) (by exact law_op (op_load _) hk5 hS) ?_
  refine all_cons (P := fun zo => ∃ zy, LawI (k + 1) zy ∧ zo = rec zy) (by exact law_op (op_judge _) hk5 hS) ?_
  refine all_cons (P := fun zo => ∃ zy, LawI (k + 1) zy ∧ zo = rec zy) (by exact law_op (op_image) hk5 hS) ?_
  refine all_cons (P := fun zo => ∃ zy, LawI (k + 1) zy ∧ zo = rec zy) (by exact law_op (op_undo) hk5 hS) ?_
  refine all_cons (P := fun zo => ∃ zy, LawI (k + 1) zy ∧ zo = rec zy) (by exact law_op (op_tear) hk5 hS) ?_
  refine all_cons (P := fun zo => ∃ zy, LawI (k + 1) zy ∧ zo = rec zy) (by exact law_op (op_count _) hk5 hS) ?_
  refine all_cons (P := fun zo => ∃ zy, LawI (k + 1) zy ∧ zo = rec zy) (by exact law_op (op_status _) hk5 hS) ?_
  exact fun _ h => absurd h List.not_mem_nil
theorem law_end {Ln : Nat} {xs : Nat → Int32} {M : Mem} {rec : Int32 × Mem → Option Unit} (hL : Ln ≤ 3072) : pi_L_law_18 Ln xs rec (nI (6 * (Ln / 6))) M = some () := by
  have e6 : (Int32.ofNat Ln - 6).toInt = (Ln : Int) - 6 := pk_sub_toInt (a := Ln) (b := 6) (by omega) (by decide)
  have ek := nI_toInt (n := 6 * (Ln / 6)) (by omega)
  unfold pi_L_law_18
  rw [if_pos (i_lt.mpr (by omega))]
theorem law_pure : law_pure_ok := by
  intro Ln xs hL
  exact lp_inv (I := LawI) (Post := fun zo => zo = some ()) (Ln / 6) (fun k hk zx hx rec => by
    obtain ⟨zi, M⟩ := zx
    obtain ⟨h1, h2⟩ := hx
    dsimp only at h1 h2
    subst h1
    exact law_step hL (by omega) h2) (fun zx hx rec => by
    obtain ⟨zi, M⟩ := zx
    obtain ⟨h1, h2⟩ := hx
    dsimp only at h1 h2
    subst h1
    exact law_end hL) FU (FU_le (by omega)) (0, M0) ⟨rfl, sim_M0⟩
