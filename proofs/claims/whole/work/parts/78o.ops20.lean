/-! roads: climb, road, open, lay -/
def Mx (N : Nat → Int32) (n : Nat) (S : Nat → Prop) (r : Int32) : Prop := (∀ h, h < n → S h → (hiN N h).toInt ≤ r.toInt) ∧ 0 ≤ r.toInt ∧ (r.toInt = 0 ∨ ∃ h, h < n ∧ S h ∧ hiN N h = r)
theorem Mx.le {N : Nat → Int32} {n : Nat} {S : Nat → Prop} {r s : Int32} (h1 : Mx N n S r) (h2 : Mx N n S s) : r.toInt ≤ s.toInt := by
  rcases h1.2.2 with e | ⟨h, a, b, d⟩
  · have := h2.2.1; omega
  · rw [← d]; exact h2.1 h a b
theorem Mx.un {N : Nat → Int32} {n : Nat} {S : Nat → Prop} {r s : Int32} (h1 : Mx N n S r) (h2 : Mx N n S s) : r = s := by
  have a := h1.le h2
  have b := h2.le h1
  exact i_eq.mpr (by omega)
theorem Mx.cg {N : Nat → Int32} {n : Nat} {S T : Nat → Prop} {r : Int32} (h1 : Mx N n S r) (e : ∀ h, h < n → (S h ↔ T h)) : Mx N n T r := by
  refine ⟨fun h hh ht => h1.1 h hh ((e h hh).mpr ht), h1.2.1, ?_⟩
  rcases h1.2.2 with a | ⟨h, a, b, d⟩
  · exact Or.inl a
  · exact Or.inr ⟨h, a, (e h a).mp b, d⟩
def clB (N : Nat → Int32) (i e k : Nat) : Bool := !(decide (y12 (vaN N k - nI i) ≤ 0)) && !(decide (y12 (nI e - nI i) ≤ y12 (vaN N k - nI i)))
def cmN (N : Nat → Int32) (i e : Nat) : Nat → Int32
  | 0 => 0
  | k + 1 => if clB N i e k = true then (if hiN N k ≤ cmN N i e k then cmN N i e k else hiN N k) else cmN N i e k
theorem cm_mx {N : Nat → Int32} {i e : Nat} : ∀ n, Mx N n (fun h => clB N i e h = true) (cmN N i e n) := by
  intro n
  induction n with
  | zero => exact ⟨fun h hh => absurd hh (by omega), by show (0 : Int32).toInt ≥ 0; decide, Or.inl (by show (0 : Int32).toInt = 0; decide)⟩
  | succ n ih =>
    obtain ⟨i1, i2, i3⟩ := ih
    cases c : clB N i e n with
    | false =>
      have E : cmN N i e (n + 1) = cmN N i e n := by
        show (if clB N i e n = true then _ else _) = _
        rw [c, if_f]
      rw [E]
      refine ⟨fun h hh hs => ?_, i2, ?_⟩
      · by_cases q : h = n
        · subst q; exact absurd (c.symm.trans hs) (by decide)
        · exact i1 h (by omega) hs
      · rcases i3 with a | ⟨h, a, b, d⟩
        · exact Or.inl a
        · exact Or.inr ⟨h, by omega, b, d⟩
    | true =>
      by_cases g : hiN N n ≤ cmN N i e n
      · have E : cmN N i e (n + 1) = cmN N i e n := by
          show (if clB N i e n = true then _ else _) = _
          rw [c, if_t, if_pos g]
        rw [E]
        refine ⟨fun h hh hs => ?_, i2, ?_⟩
        · by_cases q : h = n
          · subst q; exact i_le.mp g
          · exact i1 h (by omega) hs
        · rcases i3 with a | ⟨h, a, b, d⟩
          · exact Or.inl a
          · exact Or.inr ⟨h, by omega, b, d⟩
      · have E : cmN N i e (n + 1) = hiN N n := by
          show (if clB N i e n = true then _ else _) = _
          rw [c, if_t, if_neg g]
        rw [E]
        rw [i_le] at g
        refine ⟨fun h hh hs => ?_, by omega, Or.inr ⟨n, by omega, c, rfl⟩⟩
        by_cases q : h = n
        · subst q; exact Int.le_refl _
        · have := i1 h (by omega) hs
          omega
theorem x_climbOn {b i e : Nat} {M : Mem} {N : Nat → Int32} (hs : ShR b M N) (hw : Wf N) : mi_X2_climbOn b (nI i) (nI e) M = some (cmN N i e (nH N), M) := by
  have h8 := hw.2.1
  unfold mi_X2_climbOn pi_X2_climbOn_e
  rw [ways_ok, bd_s]
  refine lp_acc (G := pi_X2_climbOn_12 b (nI i) (nI e) (y12 (nI e - nI i))) (fun k => cmN N i e k) (nH N) (by omega) rfl (fun k hk rec => ?_) (fun rec => ?_)
  · unfold pi_X2_climbOn_12
    obtain ⟨-, a1, -, -, a4, -⟩ := hs.2.2.2.2.2 k (by omega)
    rw [hs.2.2.2.1, hw.1, if_neg (nI_ge hk (by omega)), inb_nI (show k < 8 by omega) (by decide), gd_t, nI_clamp (by omega), a1, ways_ok, bd_s, gd_t, gd_t, a4]
    simp only [bI_e, nI_1]
    show _ = rec (if clB N i e k = true then (if hiN N k ≤ cmN N i e k then cmN N i e k else hiN N k) else cmN N i e k, nI (k + 1), M)
    unfold clB
    by_cases c1 : y12 (vaN N k - nI i) ≤ 0
    · rw [if_pos c1, decide_eq_true c1]; rfl
    · rw [if_neg c1, decide_eq_false c1]
      by_cases c2 : y12 (nI e - nI i) ≤ y12 (vaN N k - nI i)
      · rw [if_pos c2, decide_eq_true c2]; rfl
      · rw [if_neg c2, decide_eq_false c2, if_pos (show (!false && !false) = true from rfl)]
        by_cases c3 : hiN N k ≤ cmN N i e k
        · rw [if_pos c3, if_pos c3]
        · rw [if_neg c3, if_neg c3]
  · unfold pi_X2_climbOn_12
    rw [hs.2.2.2.1, hw.1, if_pos (Int32.le_refl _)]
theorem hg_mx {N : Nat → Int32} {v : Int32} : ∀ n, (∀ h, h < n → vaN N h = v → (hiN N h).toInt ≤ (hgN N v n).toInt) ∧ (hgN N v n = -1 ∨ ∃ h, h < n ∧ vaN N h = v ∧ hiN N h = hgN N v n) := by
  intro n
  induction n with
  | zero => exact ⟨fun h hh => absurd hh (by omega), Or.inl rfl⟩
  | succ n ih =>
    obtain ⟨i1, i3⟩ := ih
    by_cases c : vaN N n = v
    · by_cases g : hiN N n ≤ hgN N v n
      · have E : hgN N v (n + 1) = hgN N v n := by
          show (if vaN N n = v then _ else _) = _
          rw [if_pos c, if_pos g]
        rw [E]
        refine ⟨fun h hh hs => ?_, ?_⟩
        · by_cases q : h = n
          · subst q; exact i_le.mp g
          · exact i1 h (by omega) hs
        · rcases i3 with a | ⟨h, a, b, d⟩
          · exact Or.inl a
          · exact Or.inr ⟨h, by omega, b, d⟩
      · have E : hgN N v (n + 1) = hiN N n := by
          show (if vaN N n = v then _ else _) = _
          rw [if_pos c, if_neg g]
        rw [E]
        rw [i_le] at g
        refine ⟨fun h hh hs => ?_, Or.inr ⟨n, by omega, c, rfl⟩⟩
        by_cases q : h = n
        · subst q; exact Int.le_refl _
        · have := i1 h (by omega) hs
          omega
    · have E : hgN N v (n + 1) = hgN N v n := by
        show (if vaN N n = v then _ else _) = _
        rw [if_neg c]
      rw [E]
      refine ⟨fun h hh hs => ?_, ?_⟩
      · by_cases q : h = n
        · subst q; exact absurd hs c
        · exact i1 h (by omega) hs
      · rcases i3 with a | ⟨h, a, b, d⟩
        · exact Or.inl a
        · exact Or.inr ⟨h, by omega, b, d⟩
theorem m_betw {M : Mem} {i e D : Nat} {s : Int32} (g : Nat → Nat) (hw : Wf (M 50)) (hi : i < 12) (he : e < 12) (hne : i ≠ e) (hD : D ≤ 11) (g0 : y12 (nI i + s) = nI (g 0)) (gs : ∀ j, j < D → y12 (nI (g j) + s) = nI (g (j + 1))) (gl : ∀ j, g j < 12) (gn : ∀ j, j < D → g j ≠ e) (ge : g D = e) : ∃ r, mi_X4_between (nI i) (nI e) s M = some (r, M) ∧ Mx (M 50) (nH (M 50)) (fun h => ∃ k, k < D ∧ vaN (M 50) h = nI (g k)) r := by
  have h8 := hw.2.1
  unfold mi_X4_between pi_X4_between_e
  rw [md_by12, bd_s, g0]
  refine lp_inv (I := fun j (zx : Int32 × Int32 × Mem) => Mx (M 50) (nH (M 50)) (fun h => ∃ k, k < j ∧ vaN (M 50) h = nI (g k)) zx.1 ∧ zx.2.1 = nI (g j) ∧ zx.2.2 = M) (Post := fun (zo : Option (Int32 × Mem)) => ∃ r, zo = some (r, M) ∧ Mx (M 50) (nH (M 50)) (fun h => ∃ k, k < D ∧ vaN (M 50) h = nI (g k)) r) D ?_ ?_ FU (FU_le (by omega)) (0, nI (g 0), M) ⟨⟨fun h hh hs => ?_, ?_, ?_⟩, rfl, rfl⟩
  · rintro j hj ⟨x1, x2, L⟩ ⟨i1, i2, i3⟩ rec
    dsimp only at i1 i2 i3
    subst i3
    subst i2
    obtain ⟨a1, a2⟩ := hg_mx (N := L 50) (v := nI (g j)) (nH (L 50))
    refine ⟨(if x1 < hgN (L 50) (nI (g j)) (nH (L 50)) then hgN (L 50) (nI (g j)) (nH (L 50)) else x1, nI (g (j + 1)), L), ⟨?_, rfl, rfl⟩, ?_⟩
    · dsimp only
      obtain ⟨b1, b2, b3⟩ := i1
      by_cases q : x1 < hgN (L 50) (nI (g j)) (nH (L 50))
      · rw [if_pos q]
        have q' := i_lt.mp q
        refine ⟨fun h hh hs => ?_, by omega, ?_⟩
        · obtain ⟨k, k1, k2⟩ := hs
          by_cases z : k = j
          · subst z; exact a1 h hh k2
          · have := b1 h hh ⟨k, by omega, k2⟩
            omega
        · rcases a2 with z | ⟨h, z1, z2, z3⟩
          · exfalso
            have : (-1 : Int32).toInt = -1 := by decide
            rw [z] at q'
            omega
          · exact Or.inr ⟨h, z1, ⟨j, by omega, z2⟩, z3⟩
      · rw [if_neg q]
        rw [i_lt] at q
        refine ⟨fun h hh hs => ?_, b2, ?_⟩
        · obtain ⟨k, k1, k2⟩ := hs
          by_cases z : k = j
          · subst z
            have := a1 h hh k2
            omega
          · exact b1 h hh ⟨k, by omega, k2⟩
        · rcases b3 with z | ⟨h, z1, ⟨k, k1, k2⟩, z3⟩
          · exact Or.inl z
          · exact Or.inr ⟨h, z1, ⟨k, by omega, k2⟩, z3⟩
    · show pi_X4_between_11 (nI i) (nI e) s rec x1 (nI (g j)) L = _
      unfold pi_X4_between_11
      rw [if_neg (fun z => gn j hj (nI_inj (by have := gl j; omega) (by omega) z)), if_neg (fun z => hne (nI_inj (by omega) (by omega) z)), md_highest _ hw, bd_s, bI_e, md_by12, bd_s, gs j hj]
  · rintro ⟨x1, x2, L⟩ ⟨i1, i2, i3⟩ rec
    dsimp only at i1 i2 i3
    subst i3
    subst i2
    refine ⟨x1, ?_, i1⟩
    show pi_X4_between_11 (nI i) (nI e) s rec x1 (nI (g D)) L = _
    unfold pi_X4_between_11
    rw [if_pos (by rw [ge])]
  · obtain ⟨k, k1, -⟩ := hs
    omega
  · show 0 ≤ (0 : Int32).toInt
    decide
  · exact Or.inl (by show (0 : Int32).toInt = 0; decide)
theorem wy_ok : ∀ i, i < 12 → ∀ u, u < 12 → y12 (nI u - nI i) = nI ((u + 12 - i) % 12) := by decide +kernel
theorem wy_up : ∀ a, a < 12 → y12 (nI a + 1) = nI ((a + 1) % 12) := by decide +kernel
theorem wy_dn : ∀ a, a < 12 → y12 (nI a + (-1)) = nI ((a + 11) % 12) := by decide +kernel
theorem cl_iff {N : Nat → Int32} {i e k u : Nat} (hi : i < 12) (he : e < 12) (hu : u < 12) (hv : vaN N k = nI u) : clB N i e k = true ↔ 0 < (u + 12 - i) % 12 ∧ (u + 12 - i) % 12 < (e + 12 - i) % 12 := by
  unfold clB
  rw [hv, wy_ok i hi u hu, wy_ok i hi e he, Bool.and_eq_true, Bool.not_eq_true', Bool.not_eq_true', decide_eq_false_iff_not, decide_eq_false_iff_not, i_le, i_le, nI_toInt (by omega), nI_toInt (by omega), show (0 : Int32).toInt = 0 from by decide]
  omega
theorem btw_eq {i e : Nat} {s : Int32} (hne : i = e) (M : Mem) : mi_X4_between (nI i) (nI e) s M = some (0, M) := by
  subst hne
  unfold mi_X4_between pi_X4_between_e
  rw [md_by12, bd_s]
  refine lp_inv (I := fun j (zx : Int32 × Int32 × Mem) => zx.1 = 0 ∧ zx.2.2 = M) (Post := fun (zo : Option (Int32 × Mem)) => zo = some (0, M)) 0 ?_ ?_ FU (FU_le (by omega)) (0, y12 (nI i + s), M) ⟨rfl, rfl⟩
  · rintro j hj
    omega
  · rintro ⟨x1, x2, L⟩ ⟨i1, i2⟩ rec
    dsimp only at i1 i2
    subst i1
    subst i2
    show pi_X4_between_11 (nI i) (nI i) s rec 0 x2 L = _
    unfold pi_X4_between_11
    by_cases q : x2 = nI i
    · rw [if_pos q]
    · rw [if_neg q, if_pos rfl]
theorem cm_same {N : Nat → Int32} (i : Nat) (hi : i < 12) (hw : Wf N) : cmN N i i (nH N) = 0 := by
  have h8 := hw.2.1
  refine Mx.un (cm_mx _) ⟨fun h hh hs => ?_, by decide, Or.inl (by decide)⟩
  obtain ⟨u, hu, e⟩ := inb_of (hw.2.2.2.1 h (by omega)).2.1 (by decide)
  have := (cl_iff hi hi hu e).mp hs
  omega
theorem m_up {M : Mem} {i e : Nat} (hw : Wf (M 50)) (hi : i < 12) (he : e < 12) : mi_X4_between (nI i) (nI e) 1 M = some (cmN (M 50) i e (nH (M 50)), M) := by
  have h8 := hw.2.1
  by_cases c : i = e
  · rw [btw_eq c]; subst c; rw [cm_same i hi hw]
  · obtain ⟨r, r1, r2⟩ := m_betw (M := M) (i := i) (e := e) (D := (e + 12 - i) % 12 - 1) (s := 1) (fun j => (i + 1 + j) % 12) hw hi he c (by omega) (wy_up i hi) (fun j hj => by
      rw [wy_up _ (by omega)]
      congr 1
      omega) (fun j => by omega) (fun j hj => by omega) (by omega)
    suffices E : r = cmN (M 50) i e (nH (M 50)) by rw [r1, E]
    refine Mx.un r2 ((cm_mx _).cg (fun h hh => ?_))
    obtain ⟨u, hu, eu⟩ := inb_of (hw.2.2.2.1 h (by omega)).2.1 (by decide)
    rw [cl_iff hi he hu eu, eu]
    constructor
    · intro z
      exact ⟨(u + 12 - i) % 12 - 1, by omega, by congr 1; omega⟩
    · rintro ⟨k, k1, k2⟩
      have := nI_inj (by omega) (by omega) k2
      omega
theorem m_dn {M : Mem} {i e : Nat} (hw : Wf (M 50)) (hi : i < 12) (he : e < 12) : mi_X4_between (nI i) (nI e) (-1) M = some (cmN (M 50) e i (nH (M 50)), M) := by
  have h8 := hw.2.1
  by_cases c : i = e
  · rw [btw_eq c]; subst c; rw [cm_same i hi hw]
  · obtain ⟨r, r1, r2⟩ := m_betw (M := M) (i := i) (e := e) (D := (i + 12 - e) % 12 - 1) (s := -1) (fun j => (i + 11 + 11 * j) % 12) hw hi he c (by omega) (wy_dn i hi) (fun j hj => by
      rw [wy_dn _ (by omega)]
      congr 1
      omega) (fun j => by omega) (fun j hj => by omega) (by omega)
    suffices E : r = cmN (M 50) e i (nH (M 50)) by rw [r1, E]
    refine Mx.un r2 ((cm_mx _).cg (fun h hh => ?_))
    obtain ⟨u, hu, eu⟩ := inb_of (hw.2.2.2.1 h (by omega)).2.1 (by decide)
    rw [cl_iff he hi hu eu, eu]
    constructor
    · intro z
      exact ⟨(i + 12 - u) % 12 - 1, by omega, congrArg nI (show u = (i + 11 + 11 * ((i + 12 - u) % 12 - 1)) % 12 by omega)⟩
    · rintro ⟨k, k1, k2⟩
      have := nI_inj (by omega) (by omega) k2
      omega
def lcN (N : Nat → Int32) (i e : Nat) : Int32 := if cmN N e i (nH N) < cmN N i e (nH N) then cmN N e i (nH N) else cmN N i e (nH N)
theorem x_least2 {b i e : Nat} {M : Mem} {N : Nat → Int32} (hs : ShR b M N) (hw : Wf N) : mi_X2_leastClimb b (nI i) (nI e) M = some (lcN N i e, M) := by
  unfold mi_X2_leastClimb pi_X2_leastClimb_e
  rw [x_climbOn hs hw, bd_s, x_climbOn hs hw, bd_s]; rfl
theorem m_climbNow {M : Mem} {i e : Nat} (hw : Wf (M 50)) (hi : i < 12) (he : e < 12) : mi_X4_climbNow (nI i) (nI e) M = some (lcN (M 50) i e, M) := by
  unfold mi_X4_climbNow pi_X4_climbNow_e
  rw [m_up hw hi he, bd_s, m_dn hw hi he, bd_s]; rfl
theorem m_ends {M : Mem} (v w : Int32) : mi_X4_areEnds v w M = some (if (inb v 12 && inb w 12) = true then 1 else 0, M) := by
  unfold mi_X4_areEnds pi_X4_areEnds_e
  rw [m_val, bd_s, if10, m_val, bd_s, if10, isB0, isB1, gd_t, gd_t]
  cases inb v 12 with
  | false => rfl
  | true => cases inb w 12 <;> rfl
theorem op_climb (v w : Int32) : OpI (mi_X3_climb v w) (mi_X4_climb v w) := by
  intro c M hc hS
  obtain ⟨hw, hs, ht, ha, hk, hfc, -⟩ := id hS.1
  cases hv : inb v 12 with
  | false =>
    refine op_find 0 (by decide) hS ?_ (fun K hK => ?_)
    · unfold mi_X3_climb pi_X3_climb_e
      rw [x_nov, bd_s, hv, if01, if_f]; exact fx_ 0 0 rfl M
    · unfold mi_X4_climb pi_X4_climb_e
      rw [m_ends, bd_s, hv, if10, Bool.false_and, if_f]; exact fm_ 0 _ low0.symm K
  | true =>
  cases hf : inb w 12 with
  | false =>
    refine op_find 0 (by decide) hS ?_ (fun K hK => ?_)
    · unfold mi_X3_climb pi_X3_climb_e
      rw [x_nov, bd_s, hv, if01, if_t, x_nov, bd_s, hf, if01, if_f]; exact fx_ 0 0 rfl M
    · unfold mi_X4_climb pi_X4_climb_e
      rw [m_ends, bd_s, hv, hf, if10, Bool.true_and, if_f]; exact fm_ 0 _ low0.symm K
  | true =>
  obtain ⟨i, hi, rfl⟩ := inb_of hv (by decide)
  obtain ⟨e, he, rfl⟩ := inb_of hf (by decide)
  refine op_ask hS (r := lcN (M 50) i e) (K := M) ?_ Eqv.rf ⟨M, ?_, Eqv.rf⟩
  · unfold mi_X3_climb pi_X3_climb_e
    rw [x_nov, bd_s, hv, if01, if_t, x_nov, bd_s, hf, if01, if_t, x_least2 hs hw, bd_s]
  · unfold mi_X4_climb pi_X4_climb_e
    rw [m_ends, bd_s, hv, hf, if10, Bool.true_and, if_t, m_climbNow hw hi he, bd_s]
