/-! class and reference side by side -/
def Rel (a : Nat) : Prop := (1 ≤ a ∧ a ≤ 12) ∨ (25 ≤ a ∧ a ≤ 32) ∨ a = 38 ∨ (40 ≤ a ∧ a ≤ 48) ∨ a = 50 ∨ a = 51 ∨ a = 53 ∨ a = 54 ∨ a = 59 ∨ a = 62 ∨ a = 63 ∨ a = 64
def Eqv (M K : Mem) : Prop := (∀ a, Rel a → K a = M a) ∧ K 0 3 = M 0 3 ∧ K 37 1 = M 37 1 ∧ K 49 3 = M 49 3 ∧ K 49 11 = M 49 11
theorem Eqv.rf {M : Mem} : Eqv M M := ⟨fun _ _ => rfl, rfl, rfl, rfl, rfl⟩
theorem Eqv.tr {M K Q : Mem} (h1 : Eqv M K) (h2 : Eqv K Q) : Eqv M Q := ⟨fun a ha => (h2.1 a ha).trans (h1.1 a ha), h2.2.1.trans h1.2.1, h2.2.2.1.trans h1.2.2.1, h2.2.2.2.1.trans h1.2.2.2.1, h2.2.2.2.2.trans h1.2.2.2.2⟩
/-- only cells that nobody looks at have changed -/
theorem Eqv.of {M K : Mem} (h : ∀ a, (a < 13 ∨ 24 < a) → a ≠ 52 → a ≠ 55 → a ≠ 56 → a ≠ 57 → a ≠ 58 → a ≠ 61 → a ≠ 65 → K a = M a) : Eqv M K := by
  refine ⟨fun a ha => h a ?_ ?_ ?_ ?_ ?_ ?_ ?_ ?_, ?_, ?_, ?_, ?_⟩
  all_goals first | (unfold Rel at ha; omega) | (rw [h _ (by omega) (by decide) (by decide) (by decide) (by decide) (by decide) (by decide) (by decide)])
def AgB (c : Nat) (N : Nat → Int32) : Prop := 0 ≤ (N 0).toInt ∧ (N 0).toInt ≤ 60 * c
def Kp (c : Nat) (M : Mem) : Prop := M 0 3 = M 49 3 ∧ isB (M 49 3) = true ∧ (M 49 3 = 1 → Wf (M 51) ∧ ShR 25 M (M 51) ∧ AgB c (M 51))
def Rd (M : Mem) : Prop := ∃ t : Nat, t ≤ 120 ∧ M 37 1 = nI t ∧ M 49 11 = nI t ∧ ∀ j, j < 120 → M 38 j = M 59 j ∧ inb (M 59 j) 256 = true
def Sh4 (M : Mem) : Prop := ∀ z, z < 4 → M (40 + 2 * z) 0 = M 62 z ∧ (M 62 z = 0 ∨ M 62 z = 8 ∨ M 62 z = 16 ∨ M 62 z = 32) ∧ M (40 + 2 * z) 1 = M 63 z ∧ inb (M 63 z) 41 = true ∧ ∀ j, j < 40 → M (40 + 2 * z + 1) j = M 64 (40 * z + j)
def Fnd (M : Mem) : Prop := (∀ i, i < 7 → M 48 i = M 53 (i + 1)) ∧ M 53 0 = M 53 1 + M 53 2 + M 53 3 + M 53 4 + M 53 5 + M 53 6 + M 53 7
def FndH (i : Nat) (M : Mem) : Prop := M 48 i = M 53 (i + 1) + 1 ∧ (∀ z, z < 7 → z ≠ i → M 48 z = M 53 (z + 1)) ∧ M 53 0 = M 53 1 + M 53 2 + M 53 3 + M 53 4 + M 53 5 + M 53 6 + M 53 7
def Sim0 (c : Nat) (M : Mem) : Prop := Wf (M 50) ∧ ShR 1 M (M 50) ∧ TbR 1 M (M 50) ∧ AgB c (M 50) ∧ Kp c M ∧ Fc M ∧ Rd M ∧ Sh4 M
def Sim (c : Nat) (M : Mem) : Prop := Sim0 c M ∧ Fnd M
def SimF (i c : Nat) (M : Mem) : Prop := Sim0 c M ∧ FndH i M
theorem ShR.eq {b : Nat} {M K : Mem} {N : Nat → Int32} (h : ShR b M N) (e : ∀ a, b ≤ a → a < b + 8 → K a = M a) : ShR b K N := h.cg e
theorem TbR.eq {b : Nat} {M K : Mem} {N : Nat → Int32} (h : TbR b M N) (e : ∀ a, b + 8 ≤ a → a < b + 12 → K a = M a) : TbR b K N := by
  refine ⟨fun z hz => ?_, fun v hv => ?_⟩
  · rw [e (b + 8) (by omega) (by omega), e (b + 9) (by omega) (by omega)]; exact h.1 z hz
  · rw [e (b + 10) (by omega) (by omega), e (b + 11) (by omega) (by omega)]; exact h.2 v hv
theorem Sim0.eq {c : Nat} {M K : Mem} (h : Sim0 c M) (e : Eqv M K) : Sim0 c K := by
  obtain ⟨h1, h2, h3, h4, h5, h6, h7, h8⟩ := h
  have r : ∀ a, Rel a → K a = M a := e.1
  have e50 : K 50 = M 50 := r 50 (by unfold Rel; omega)
  have e51 : K 51 = M 51 := r 51 (by unfold Rel; omega)
  have e59 : K 59 = M 59 := r 59 (by unfold Rel; omega)
  have e62 : K 62 = M 62 := r 62 (by unfold Rel; omega)
  have e63 : K 63 = M 63 := r 63 (by unfold Rel; omega)
  have e64 : K 64 = M 64 := r 64 (by unfold Rel; omega)
  refine ⟨by rw [e50]; exact h1, ?_, ?_, by rw [e50]; exact h4, ⟨?_, ?_, ?_⟩, ?_, ?_, ?_⟩
  · rw [e50]; exact h2.eq (fun a ha hb => r a (by unfold Rel; omega))
  · rw [e50]; exact h3.eq (fun a ha hb => r a (by unfold Rel; omega))
  · rw [e.2.1, e.2.2.2.1]; exact h5.1
  · rw [e.2.2.2.1]; exact h5.2.1
  · intro hk
    rw [e.2.2.2.1] at hk
    obtain ⟨q1, q2, q3⟩ := h5.2.2 hk
    rw [e51]
    exact ⟨q1, q2.eq (fun a ha hb => r a (by unfold Rel; omega)), q3⟩
  · intro j hj
    rw [r 54 (by unfold Rel; omega)]; exact h6 j hj
  · obtain ⟨t, t1, t2, t3, t4⟩ := h7
    refine ⟨t, t1, by rw [e.2.2.1]; exact t2, by rw [e.2.2.2.2]; exact t3, fun j hj => ?_⟩
    rw [r 38 (by unfold Rel; omega), e59]; exact t4 j hj
  · intro z hz
    rw [r (40 + 2 * z) (by unfold Rel; omega), r (40 + 2 * z + 1) (by unfold Rel; omega), e62, e63, e64]
    exact h8 z hz
theorem Fnd.eq {M K : Mem} (h : Fnd M) (e : Eqv M K) : Fnd K := by
  have e48 := e.1 48 (by unfold Rel; omega)
  have e53 := e.1 53 (by unfold Rel; omega)
  unfold Fnd
  rw [e48, e53]; exact h
theorem FndH.eq {i : Nat} {M K : Mem} (h : FndH i M) (e : Eqv M K) : FndH i K := by
  have e48 := e.1 48 (by unfold Rel; omega)
  have e53 := e.1 53 (by unfold Rel; omega)
  unfold FndH
  rw [e48, e53]; exact h
theorem Sim.eq {c : Nat} {M K : Mem} (h : Sim c M) (e : Eqv M K) : Sim c K := ⟨h.1.eq e, h.2.eq e⟩
theorem SimF.eq {i c : Nat} {M K : Mem} (h : SimF i c M) (e : Eqv M K) : SimF i c K := ⟨h.1.eq e, h.2.eq e⟩
theorem AgB.up {c : Nat} {N : Nat → Int32} (h : AgB c N) : AgB (c + 1) N := ⟨h.1, by have := h.2; omega⟩
theorem Sim0.up {c : Nat} {M : Mem} (h : Sim0 c M) : Sim0 (c + 1) M := by
  obtain ⟨h1, h2, h3, h4, h5, h6, h7, h8⟩ := h
  exact ⟨h1, h2, h3, h4.up, ⟨h5.1, h5.2.1, fun hk => ⟨(h5.2.2 hk).1, (h5.2.2 hk).2.1, (h5.2.2 hk).2.2.up⟩⟩, h6, h7, h8⟩
theorem Sim.up {c : Nat} {M : Mem} (h : Sim c M) : Sim (c + 1) M := ⟨h.1.up, h.2⟩
/-- what changes nothing but the found ones -/
theorem Sim0.c48 {c : Nat} {M K : Mem} (h : Sim0 c M) (e : ∀ a, a ≠ 48 → a ≠ 53 → K a = M a) : Sim0 c K := by
  obtain ⟨h1, h2, h3, h4, h5, h6, h7, h8⟩ := h
  have e50 : K 50 = M 50 := e 50 (by decide) (by decide)
  have e51 : K 51 = M 51 := e 51 (by decide) (by decide)
  have e49 : K 49 = M 49 := e 49 (by decide) (by decide)
  refine ⟨by rw [e50]; exact h1, by rw [e50]; exact h2.eq (fun a ha hb => e a (by omega) (by omega)), by rw [e50]; exact h3.eq (fun a ha hb => e a (by omega) (by omega)), by rw [e50]; exact h4, ⟨?_, ?_, ?_⟩, ?_, ?_, ?_⟩
  · rw [e 0 (by decide) (by decide), e49]; exact h5.1
  · rw [e49]; exact h5.2.1
  · intro hk
    rw [e49] at hk
    obtain ⟨q1, q2, q3⟩ := h5.2.2 hk
    rw [e51]
    exact ⟨q1, q2.eq (fun a ha hb => e a (by omega) (by omega)), q3⟩
  · intro j hj
    rw [e 54 (by decide) (by decide)]; exact h6 j hj
  · obtain ⟨t, t1, t2, t3, t4⟩ := h7
    refine ⟨t, t1, by rw [e 37 (by decide) (by decide)]; exact t2, by rw [e49]; exact t3, fun j hj => ?_⟩
    rw [e 38 (by decide) (by decide), e 59 (by decide) (by decide)]; exact t4 j hj
  · intro z hz
    rw [e (40 + 2 * z) (by omega) (by omega), e (40 + 2 * z + 1) (by omega) (by omega), e 62 (by decide) (by decide), e 63 (by decide) (by decide), e 64 (by decide) (by decide)]
    exact h8 z hz
def lowI (i : Nat) : Int32 := -1000001 - nI i
theorem low_t : ∀ i, i < 7 → (-1000001 - lowI i + 1) = nI (i + 1) := by decide
theorem find1 {i c : Nat} {M : Mem} (hi : i < 7) (h : Sim c M) : ∃ K : Mem, mi_X3_finding (nI i) M = some (lowI i, K) ∧ (∀ a, a ≠ 48 → K a = M a) ∧ SimF i c K := by
  refine ⟨up M 48 i (M 48 i + 1), ?_, fun a ha => up_o ha, h.1.c48 (fun a ha _ => up_o ha), ?_⟩
  · unfold mi_X3_finding pi_X3_finding_e
    rw [inb_nI hi (by decide), gd_t, gd_t, nI_clamp (by omega), bM_e]
    rfl
  · have o53 : up M 48 i (M 48 i + 1) 53 = M 53 := up_o (by decide)
    unfold FndH
    rw [o53, up_s]
    refine ⟨?_, fun z hz hne => ?_, h.2.2⟩
    · rw [upd_s, h.2.1 i hi]
    · rw [upd_o hne]; exact h.2.1 z hz
theorem find2 {i c : Nat} {M : Mem} (hi : i < 7) (h : SimF i c M) : ∃ K : Mem, mi_X4_finding (lowI i) M = some (lowI i, K) ∧ Sim c K := by
  refine ⟨up (up M 53 (i + 1) (M 53 (i + 1) + 1)) 53 0 (M 53 0 + 1), ?_, h.1.c48 (fun a _ ha => by rw [up_o ha, up_o ha]), ?_⟩
  · unfold mi_X4_finding pi_X4_finding_e
    have o : up M 53 (i + 1) (M 53 (i + 1) + 1) 53 0 = M 53 0 := by rw [up_s, upd_o (by omega)]
    rw [low_t i hi, inb_nI (by omega) (by decide), gd_t, gd_t, nI_clamp (by omega), bM_e, show inb 0 8 = true from by decide, gd_t, gd_t, tN0, o, bM_e]
  · obtain ⟨q1, q2, q3⟩ := h.2
    have o48 : up (up M 53 (i + 1) (M 53 (i + 1) + 1)) 53 0 (M 53 0 + 1) 48 = M 48 := by rw [up_o (by decide), up_o (by decide)]
    have e53 : up (up M 53 (i + 1) (M 53 (i + 1) + 1)) 53 0 (M 53 0 + 1) 53 = upd (upd (M 53) (i + 1) (M 53 (i + 1) + 1)) 0 (M 53 0 + 1) := by rw [up_s, up_s]
    unfold Fnd
    rw [o48, e53]
    refine ⟨fun z hz => ?_, ?_⟩
    · rw [upd_o (by omega)]
      by_cases c2 : z = i
      · subst c2; rw [upd_s]; exact q1
      · rw [upd_o (by omega)]; exact q2 z hz c2
    · match i, hi with
      | 0, _ => simp [upd, q3]; ac_rfl
      | 1, _ => simp [upd, q3]; ac_rfl
      | 2, _ => simp [upd, q3]; ac_rfl
      | 3, _ => simp [upd, q3]; ac_rfl
      | 4, _ => simp [upd, q3]; ac_rfl
      | 5, _ => simp [upd, q3]; ac_rfl
      | 6, _ => simp [upd, q3]; ac_rfl
/-- one call of both: the same answer, and they stay side by side -/
def OpI (fX fM : Mem → Option (Int32 × Mem)) : Prop := ∀ (c : Nat) (M : Mem), c < 512 → Sim c M → ∃ (r : Int32) (K Q : Mem), fX M = some (r, K) ∧ fM K = some (r, Q) ∧ Sim (c + 1) Q
/-- a call that only asks: class and reference leave all that matters as it was -/
theorem op_ask {fX fM : Mem → Option (Int32 × Mem)} {c : Nat} {M : Mem} (h : Sim c M) {r : Int32} {K : Mem} (h1 : fX M = some (r, K)) (e1 : Eqv M K) (h2 : ∃ Q : Mem, fM K = some (r, Q) ∧ Eqv K Q) : ∃ (r : Int32) (K Q : Mem), fX M = some (r, K) ∧ fM K = some (r, Q) ∧ Sim (c + 1) Q := by
  obtain ⟨Q, q1, q2⟩ := h2
  exact ⟨r, K, Q, h1, q1, ((h.eq e1).eq q2).up⟩
/-- a call that both refuse at once -/
theorem op_find {fX fM : Mem → Option (Int32 × Mem)} {c : Nat} {M : Mem} (i : Nat) (hi : i < 7) (h : Sim c M) (h1 : fX M = mi_X3_finding (nI i) M) (h2 : ∀ K : Mem, (∀ a, a ≠ 48 → K a = M a) → fM K = mi_X4_finding (lowI i) K) : ∃ (r : Int32) (K Q : Mem), fX M = some (r, K) ∧ fM K = some (r, Q) ∧ Sim (c + 1) Q := by
  obtain ⟨K, k1, k2, k3⟩ := find1 hi h
  obtain ⟨Q, q1, q2⟩ := find2 hi k3
  exact ⟨lowI i, K, Q, h1.trans k1, (h2 K k2).trans q1, q2.up⟩
/-! what both ask of their arguments -/
def inR (v lo hi : Int32) : Bool := decide (lo ≤ v) && decide (v ≤ hi)
theorem nlt_le {x y : Int32} : ¬ x < y ↔ y ≤ x := by rw [i_lt, i_le]; omega
theorem x_out (v lo hi : Int32) (M : Mem) : mi_X3_isOutside v lo hi M = some (if inR v lo hi = true then 0 else 1, M) := by
  unfold mi_X3_isOutside pi_X3_isOutside_e inR
  rw [isB0, isB1, gd_t, gd_t]
  by_cases h1 : v < lo
  · rw [if_pos h1, decide_eq_false (fun z => absurd h1 (nlt_le.mpr z))]; rfl
  · rw [if_neg h1, decide_eq_true (nlt_le.mp h1)]
    by_cases h2 : v ≤ hi
    · rw [if_pos h2, decide_eq_true h2]; rfl
    · rw [if_neg h2, decide_eq_false h2]; rfl
theorem m_in (v lo hi : Int32) (M : Mem) : mi_X4_within v lo hi M = some (if inR v lo hi = true then 1 else 0, M) := by
  unfold mi_X4_within pi_X4_within_e inR
  rw [isB0, isB1, gd_t, gd_t]
  by_cases h1 : v < lo
  · rw [if_pos h1, decide_eq_false (fun z => absurd h1 (nlt_le.mpr z))]; rfl
  · rw [if_neg h1, decide_eq_true (nlt_le.mp h1)]
    by_cases h2 : hi < v
    · rw [if_pos h2, decide_eq_false (fun z => absurd h2 (nlt_le.mpr z))]; rfl
    · rw [if_neg h2, decide_eq_true (nlt_le.mp h2)]; rfl
theorem inR_inb {v : Int32} {k : Nat} (hk : k + 1 < 2 ^ 31) : inR v 0 (nI k) = inb v (k + 1) := by
  have h1 := nI_toInt (n := k) (by omega)
  cases h : inb v (k + 1) with
  | true =>
    have h2 := inb_iff.mp h
    unfold inR
    rw [decide_eq_true (z_nonneg.mpr h2.1), decide_eq_true (i_le.mpr (by omega))]; rfl
  | false =>
    unfold inR
    by_cases h3 : 0 ≤ v
    · by_cases h4 : v ≤ nI k
      · exfalso
        have h5 : inb v (k + 1) = true := inb_iff.mpr ⟨z_nonneg.mp h3, by have := i_le.mp h4; omega⟩
        rw [h] at h5; cases h5
      · rw [decide_eq_false h4]; simp
    · rw [decide_eq_false h3]; rfl
theorem if01 {α : Type} {b : Bool} {p q : α} : (if (if b = true then (0 : Int32) else 1) = 0 then p else q) = if b = true then p else q := by cases b <;> rfl
theorem if10 {α : Type} {b : Bool} {p q : α} : (if (if b = true then (1 : Int32) else 0) = 0 then p else q) = if b = true then q else p := by cases b <;> rfl
theorem isB_if {b : Bool} : isB (if b = true then (1 : Int32) else 0) = true := by cases b <;> rfl
theorem isB_if' {b : Bool} : isB (if b = true then (0 : Int32) else 1) = true := by cases b <;> rfl
theorem x_nov (v : Int32) (M : Mem) : mi_X3_isNoValley v M = some (if inb v 12 = true then 0 else 1, M) := by
  unfold mi_X3_isNoValley pi_X3_isNoValley_e
  rw [x_out, bd_s, isB_if', gd_t, show (11 : Int32) = nI 11 from rfl, inR_inb (by decide)]
theorem x_nos (v : Int32) (M : Mem) : mi_X3_isNoSheet v M = some (if inb v 4 = true then 0 else 1, M) := by
  unfold mi_X3_isNoSheet pi_X3_isNoSheet_e
  rw [x_out, bd_s, isB_if', gd_t, show (3 : Int32) = nI 3 from rfl, inR_inb (by decide)]
theorem m_val (v : Int32) (M : Mem) : mi_X4_isValley v M = some (if inb v 12 = true then 1 else 0, M) := by
  unfold mi_X4_isValley pi_X4_isValley_e
  rw [m_in, bd_s, isB_if, gd_t, show (11 : Int32) = nI 11 from rfl, inR_inb (by decide)]
theorem m_high (v : Int32) (M : Mem) : mi_X4_isHigh v M = some (if inb v 100 = true then 1 else 0, M) := by
  unfold mi_X4_isHigh pi_X4_isHigh_e
  rw [m_in, bd_s, isB_if, gd_t, show (99 : Int32) = nI 99 from rfl, inR_inb (by decide)]
theorem m_kind (v : Int32) (M : Mem) : mi_X4_isKind v M = some (if inb v 7 = true then 1 else 0, M) := by
  unfold mi_X4_isKind pi_X4_isKind_e
  rw [m_in, bd_s, isB_if, gd_t, show (6 : Int32) = nI 6 from rfl, inR_inb (by decide)]
theorem m_spot (v : Int32) (M : Mem) : mi_X4_isSpot v M = some (if inb v 10 = true then 1 else 0, M) := by
  unfold mi_X4_isSpot pi_X4_isSpot_e
  rw [m_in, bd_s, isB_if, gd_t, show (9 : Int32) = nI 9 from rfl, inR_inb (by decide)]
theorem m_sheet (v : Int32) (M : Mem) : mi_X4_isSheet v M = some (if inb v 4 = true then 1 else 0, M) := by
  unfold mi_X4_isSheet pi_X4_isSheet_e
  rw [m_in, bd_s, isB_if, gd_t, show (3 : Int32) = nI 3 from rfl, inR_inb (by decide)]
theorem m_soon (v : Int32) (M : Mem) : mi_X4_isSoon v M = some (if inb v 201 = true then 1 else 0, M) := by
  unfold mi_X4_isSoon pi_X4_isSoon_e
  rw [m_in, bd_s, isB_if, gd_t, show (200 : Int32) = nI 200 from rfl, inR_inb (by decide)]
theorem m_go (v : Int32) (M : Mem) : mi_X4_isGo v M = some (if inb v 61 = true then 1 else 0, M) := by
  unfold mi_X4_isGo pi_X4_isGo_e
  rw [m_in, bd_s, isB_if, gd_t, show (60 : Int32) = nI 60 from rfl, inR_inb (by decide)]
theorem x_lacks {b : Nat} {M : Mem} {N : Nat → Int32} (v : Int32) (hs : ShR b M N) (hw : Wf N) : mi_X2_lacks b v M = some (if inb v (nH N) = true then 0 else 1, M) := by
  have h8 := hw.2.1
  unfold mi_X2_lacks pi_X2_lacks_e
  rw [isB0, isB1, gd_t, gd_t, hs.2.2.2.1, hw.1]
  have hn := nI_toInt (n := nH N) (by omega)
  cases h : inb v (nH N) with
  | true =>
    have h2 := inb_iff.mp h
    rw [if_neg (nlt_le.mpr (z_nonneg.mpr h2.1)), if_pos (i_lt.mpr (by omega))]; rfl
  | false =>
    by_cases h3 : v < 0
    · rw [if_pos h3]; rfl
    · rw [if_neg h3]
      by_cases h4 : v < nI (nH N)
      · exfalso
        have h5 : inb v (nH N) = true := inb_iff.mpr ⟨z_nonneg.mp (nlt_le.mp h3), by have := i_lt.mp h4; omega⟩
        rw [h] at h5; cases h5
      · rw [if_neg h4]; rfl
theorem m_hill {M : Mem} (v : Int32) (hw : Wf (M 50)) : mi_X4_isHill v M = some (if inb v (nH (M 50)) = true then 1 else 0, M) := by
  have h8 := hw.2.1
  unfold mi_X4_isHill pi_X4_isHill_e
  rw [in1_62, gd_t, tN1, m_in, bd_s, isB_if, gd_t, hw.1]
  have e : inR v 0 (nI (nH (M 50)) - 1) = inb v (nH (M 50)) := by
    cases hn : nH (M 50) with
    | zero =>
      have e2 : inb v 0 = false := by
        cases h : inb v 0 with
        | false => rfl
        | true => have := inb_iff.mp h; omega
      rw [e2]
      unfold inR
      by_cases h3 : 0 ≤ v
      · rw [decide_eq_false (show ¬ v ≤ nI 0 - 1 from fun z => by
          have h4 := i_le.mp z
          have h5 := z_nonneg.mp h3
          have h6 : (nI 0 - 1).toInt = -1 := by decide
          omega)]; simp
      · rw [decide_eq_false h3]; rfl
    | succ k =>
      rw [nI_pred]
      exact inR_inb (by omega)
  rw [e]
