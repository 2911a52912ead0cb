/-! text: items -/
def nuB (T : Nat → Int32) (t s : Nat) (m : Int32) : Bool := decide (tkK T t s = 2) && decide (tkN T t s ≤ m)
def miB (T : Nat → Int32) (t s : Nat) : Bool := decide (tkK T t s = 3) && decide (T s = 45)
def seB (T : Nat → Int32) (t s : Nat) : Bool := decide (tkK T t s = 3) && decide (T s = 59)
def naR (T : Nat → Int32) (t s : Nat) (m g : Int32) : Nat × Option Int32 := if nuB T t s m = true then (nxT T t s, some (if g = 0 then tkN T t s else -(tkN T t s))) else (s, none)
def trG (T : Nat → Int32) (t f s w : Nat) (m d : Int32) : Nat × Option Int32 := if wdB T t s w = true then (if (decide (f = 2) && miB T t (nxT T t s)) = true then naR T t (nxT T t (nxT T t s)) m 1 else naR T t (nxT T t s) m 0) else (s, some d)
theorem k5_lo {T : Nat → Int32} {t s c : Nat} (hc : c < 3) : k5T T t s = c ↔ tkK T t s = c := by
  unfold k5T
  by_cases q : tkK T t s = 3
  · rw [if_pos q, q]
    by_cases q2 : T s = 59
    · rw [if_pos q2]
    · rw [if_neg q2]
      by_cases q3 : T s = 45
      · rw [if_pos q3]; omega
      · rw [if_neg q3]; omega
  · rw [if_neg q]
theorem k5_6 {T : Nat → Int32} {t s : Nat} : k5T T t s < 6 := by
  have := tkK_4 (T := T) (t := t) (s := s)
  unfold k5T
  by_cases q : tkK T t s = 3
  · rw [if_pos q]
    by_cases q2 : T s = 59
    · rw [if_pos q2]; decide
    · rw [if_neg q2]
      by_cases q3 : T s = 45
      · rw [if_pos q3]; decide
      · rw [if_neg q3]; decide
  · rw [if_neg q]; omega
theorem k5_3 {T : Nat → Int32} {t s : Nat} : k5T T t s = 3 ↔ seB T t s = true := by
  unfold k5T seB
  by_cases q : tkK T t s = 3
  · rw [if_pos q, decide_eq_true q, Bool.true_and, decide_eq_true_iff]
    by_cases q2 : T s = 59
    · rw [if_pos q2]; exact ⟨fun _ => q2, fun _ => rfl⟩
    · rw [if_neg q2]
      by_cases q3 : T s = 45
      · rw [if_pos q3]; exact ⟨fun z => absurd z (by decide), fun z => absurd z q2⟩
      · rw [if_neg q3]; exact ⟨fun z => absurd z (by decide), fun z => absurd z q2⟩
  · rw [if_neg q, decide_eq_false q, Bool.false_and]
    exact ⟨fun z => absurd z q, fun z => by cases z⟩
theorem k5_4 {T : Nat → Int32} {t s : Nat} : k5T T t s = 4 ↔ miB T t s = true := by
  have := tkK_4 (T := T) (t := t) (s := s)
  unfold k5T miB
  by_cases q : tkK T t s = 3
  · rw [if_pos q, decide_eq_true q, Bool.true_and, decide_eq_true_iff]
    by_cases q2 : T s = 59
    · rw [if_pos q2, q2]; exact ⟨fun z => absurd z (by decide), fun z => absurd z (by decide)⟩
    · rw [if_neg q2]
      by_cases q3 : T s = 45
      · rw [if_pos q3]; exact ⟨fun _ => q3, fun _ => rfl⟩
      · rw [if_neg q3]; exact ⟨fun z => absurd z (by decide), fun z => absurd z q3⟩
  · rw [if_neg q, decide_eq_false q, Bool.false_and]
    exact ⟨fun z => by omega, fun z => by cases z⟩
theorem LxX.k {T : Nat → Int32} {t s c : Nat} {K : Mem} (h : LxX T t s K) (hc : c < 6) : K 37 4 = nI c ↔ k5T T t s = c := by
  rw [h.2.2.2.2.1]
  have := k5_6 (T := T) (t := t) (s := s)
  exact ⟨fun z => nI_inj (by omega) (by omega) z, fun z => by rw [z]⟩
theorem x_num {T : Nat → Int32} {t s : Nat} {K : Mem} (m : Int32) (h : LxX T t s K) : mi_X0_isNumberTo m K = some (if nuB T t s m = true then 1 else 0, K) := by
  unfold mi_X0_isNumberTo pi_X0_isNumberTo_e nuB
  have hk : K 37 4 = 2 ↔ tkK T t s = 2 := (h.k (c := 2) (by decide)).trans (k5_lo (by decide))
  rw [isB0, isB1, gd_t, gd_t]
  by_cases c : tkK T t s = 2
  · rw [if_pos (hk.mpr c), decide_eq_true c, Bool.true_and, h.2.2.2.2.2.1 c]
    by_cases q : m < tkN T t s
    · rw [if_pos q, decide_eq_false (fun z => absurd q (nlt_le.mpr z))]; rfl
    · rw [if_neg q, decide_eq_true (nlt_le.mp q)]; rfl
  · rw [if_neg (fun z => c (hk.mp z)), decide_eq_false c]; rfl
def FrT (K L : Mem) : Prop := ∀ a, a < 13 ∨ 24 < a → a ≠ 37 → L a = K a
theorem FrT.rf {K : Mem} : FrT K K := fun _ _ _ => rfl
theorem FrT.tr {K L Q : Mem} (h1 : FrT K L) (h2 : FrT L Q) : FrT K Q := fun a n1 n2 => (h2 a n1 n2).trans (h1 a n1 n2)
def IX (T : Nat → Int32) (t s : Nat) (R : Nat → Int32) (K : Mem) : Prop := LxX T t s K ∧ ShR 13 K R ∧ TbR 13 K R
theorem IX.nx {T : Nat → Int32} {t s : Nat} {R : Nat → Int32} {K : Mem} (h : IX T t s R K) (ht : t ≤ 120) : ∃ L : Mem, mi_X0_advance K = some L ∧ IX T t (nxT T t s) R L ∧ FrT K L := by
  obtain ⟨L, l1, l2, l3⟩ := h.1.nx ht
  exact ⟨L, l1, ⟨l2, h.2.1.eq (fun a h1 h2 => l3 a (by omega)), h.2.2.eq (fun a h1 h2 => l3 a (by omega))⟩, fun a n1 n2 => l3 a n2⟩
theorem nu_in {T : Nat → Int32} {t s f : Nat} {g : Int32} (hf : f = 1 ∨ f = 2 ∨ f = 3 ∨ f = 4) (hg : g = 0 ∨ f = 2) (h : nuB T t s (moO f) = true) : okT f (if g = 0 then tkN T t s else -(tkN T t s)) := by
  unfold nuB at h
  rw [Bool.and_eq_true, decide_eq_true_iff, decide_eq_true_iff] at h
  have hb := tkN_b h.1
  have hm := i_le.mp h.2
  have hl : (ltO f).toInt ≤ 0 := by rcases hf with rfl | rfl | rfl | rfl <;> decide
  refine may_ok (by omega) (inR_iff.mpr ?_)
  by_cases c : g = 0
  · rw [if_pos c]; omega
  · rw [if_neg c]
    rcases hg with z | z
    · exact absurd z c
    · subst z
      have e1 : (ltO 2).toInt = -5 := by decide
      have e2 : (moO 2).toInt = 5 := by decide
      rw [z_neg (by omega)]; omega
theorem x_44 {T : Nat → Int32} {t s h f w : Nat} {R : Nat → Int32} {K : Mem} {g : Int32} (ht : t ≤ 120) (hI : IX T t s R K) (hw : Wf R) (hh : h < 8) (hf : f = 1 ∨ f = 2 ∨ f = 3 ∨ f = 4) (hg : g = 0 ∨ f = 2) : ∃ L : Mem, FrT K L ∧ ((∃ p v, naR T t s (moO f) g = (p, some v) ∧ pi_X0_readTrait_44 13 (nI h) (nI f) w g K = some (1, L) ∧ IX T t p (upd R (14 + 6 * h + f) v) L ∧ Wf (upd R (14 + 6 * h + f) v)) ∨ (∃ p, naR T t s (moO f) g = (p, none) ∧ pi_X0_readTrait_44 13 (nI h) (nI f) w g K = some (0, L) ∧ L 37 2 = nI p)) := by
  have E : pi_X0_readTrait_44 13 (nI h) (nI f) w g K = if nuB T t s (moO f) = true then (if g = 0 then (pi_X0_readTrait_77 13 (nI h) (nI f) w (K 37 5) (nI f) (nI h) K) else (pi_X0_readTrait_77 13 (nI h) (nI f) w (-(K 37 5)) (nI f) (nI h) K)) else some (0, K) := by
    unfold pi_X0_readTrait_44
    rw [x_most (by omega), bd_s, x_num _ hI.1, bd_s, if10, isB0, gd_t]
  rw [E]
  unfold naR
  cases c : nuB T t s (moO f) with
  | false =>
    refine ⟨K, FrT.rf, Or.inr ⟨s, ?_, ?_, hI.1.2.2.1⟩⟩
    · rw [if_f]
    · rw [if_f]
  | true =>
    have ok := nu_in hf hg c
    have k2 : tkK T t s = 2 := by
      unfold nuB at c
      rw [Bool.and_eq_true, decide_eq_true_iff] at c
      exact c.1
    have e5 := hI.1.2.2.2.2.2.1 k2
    obtain ⟨A, a1, a2, a3, a4⟩ := hd_set (b := 13) (h := h) (f := f) hI.2.1 hw hh (by omega) ok
    obtain ⟨L, l1, l2, l3⟩ := IX.nx (K := A) ⟨hI.1.cg (a4 37 (by omega)) (a4 38 (by omega)), a2, a3⟩ ht
    refine ⟨L, FrT.tr (fun a n1 n2 => a4 a (by omega)) l3, Or.inl ⟨nxT T t s, if g = 0 then tkN T t s else -(tkN T t s), ?_, ?_, l2, wf_set hw (by omega) ok⟩⟩
    · rw [if_t]
    · rw [if_t, e5]
      unfold pi_X0_readTrait_77
      by_cases q : g = 0
      · rw [if_pos q] at a1 ⊢
        rw [a1, bv_s, l1, bv_s, isB1, gd_t]
      · rw [if_neg q] at a1 ⊢
        rw [a1, bv_s, l1, bv_s, isB1, gd_t]
theorem x_trait {T : Nat → Int32} {t s h f w : Nat} {R : Nat → Int32} {K : Mem} (ht : t ≤ 120) (hI : IX T t s R K) (hw : Wf R) (hh : h < 8) (hf : f = 1 ∨ f = 2 ∨ f = 3 ∨ f = 4) (hw12 : w < 12) : ∃ L : Mem, FrT K L ∧ ((∃ p v, trG T t f s w (moO f) (R (14 + 6 * h + f)) = (p, some v) ∧ mi_X0_readTrait 13 (nI h) (nI f) w K = some (1, L) ∧ IX T t p (upd R (14 + 6 * h + f) v) L ∧ Wf (upd R (14 + 6 * h + f) v)) ∨ (∃ p, trG T t f s w (moO f) (R (14 + 6 * h + f)) = (p, none) ∧ mi_X0_readTrait 13 (nI h) (nI f) w K = some (0, L) ∧ L 37 2 = nI p)) := by
  unfold mi_X0_readTrait pi_X0_readTrait_e trG
  rw [x_word hI.1 ht hw12, bd_s, if10, isB1, gd_t]
  cases c : wdB T t s w with
  | false =>
    refine ⟨K, FrT.rf, Or.inl ⟨s, R (14 + 6 * h + f), ?_, ?_, ?_, ?_⟩⟩
    · rw [if_f]
    · rw [if_f]
    · rw [updId]; exact hI
    · rw [updId]; exact hw
  | true =>
    rw [if_t, if_t]
    obtain ⟨A, a1, a2, a3⟩ := hI.nx ht
    rw [a1, bv_s]
    have k4 := (a2.1.k (c := 4) (by decide)).trans k5_4
    unfold pi_X0_readTrait_32 pi_X0_readTrait_33
    by_cases c2 : f = 2
    · subst c2
      rw [if_pos (show nI 2 = 2 from rfl), decide_eq_true (show (2 : Nat) = 2 from rfl), Bool.true_and]
      cases c3 : miB T t (nxT T t s) with
      | true =>
        rw [if_pos (show A 37 4 = 4 from k4.mpr c3), if_neg (show ¬ (1 : Int32) = 0 by decide), if_t]
        obtain ⟨B, b1, b2, b3⟩ := a2.nx ht
        rw [b1, bv_s]
        obtain ⟨L, l1, l2⟩ := x_44 (h := h) (f := 2) (w := w) (g := 1) ht b2 hw hh (by omega) (Or.inr rfl)
        exact ⟨L, (a3.tr b3).tr l1, l2⟩
      | false =>
        rw [if_neg (show ¬ A 37 4 = 4 from fun z => by rw [k4.mp z] at c3; cases c3), if_pos (show (0 : Int32) = 0 from rfl), if_f]
        obtain ⟨L, l1, l2⟩ := x_44 (h := h) (f := 2) (w := w) (g := 0) ht a2 hw hh (by omega) (Or.inr rfl)
        exact ⟨L, a3.tr l1, l2⟩
    · rw [if_neg (show ¬ nI f = 2 from fun z => c2 (nI_inj (i := f) (j := 2) (by omega) (by decide) z)), if_pos (show (0 : Int32) = 0 from rfl), decide_eq_false c2, Bool.false_and, if_f]
      obtain ⟨L, l1, l2⟩ := x_44 (h := h) (f := f) (w := w) (g := 0) ht a2 hw hh hf (Or.inl rfl)
      exact ⟨L, a3.tr l1, l2⟩
abbrev ItT := Int32 × Int32 × Int32 × Int32 × Int32
def apI (x : ItT) (P : Nat → Int32) : Nat → Int32 := if x.1 = 10 then upd P 3 x.2.1 else addN P x.1 x.2.1 x.2.2.1 x.2.2.2.1 x.2.2.2.2
def itR (T : Nat → Int32) (t s n : Nat) : Nat × Option ItT :=
  if wdB T t s 7 = true then
    match naR T t (nxT T t s) 9 0 with
    | (p, none) => (p, none)
    | (p, some v) => (p, some (10, v, 0, 0, 0))
  else match kdR T t s with
    | none => (s, none)
    | some k => if 8 ≤ n then (s, none) else
      match trG T t 1 (nxT T t s) 8 11 0 with
      | (p, none) => (p, none)
      | (p1, some a) => match trG T t 2 p1 9 5 1 with
        | (p, none) => (p, none)
        | (p2, some b) => match trG T t 3 p2 10 3 0 with
          | (p, none) => (p, none)
          | (p3, some c) => match trG T t 4 p3 11 99 50 with
            | (p, none) => (p, none)
            | (p4, some d) => (p4, some (nI k, a, b, c, d))
theorem add_f {N : Nat → Int32} {k v s t g : Int32} (h8 : nH N ≤ 8) : addN N k v s t g (14 + 6 * nH N + 1) = v ∧ addN N k v s t g (14 + 6 * nH N + 2) = s ∧ addN N k v s t g (14 + 6 * nH N + 3) = t ∧ addN N k v s t g (14 + 6 * nH N + 4) = g := by
  unfold addN
  refine ⟨?_, ?_, ?_, ?_⟩
  · rw [upd_o (by omega), upd_o (by omega), upd_o (by omega), upd_o (by omega), upd_o (by omega), upd_s]
  · rw [upd_o (by omega), upd_o (by omega), upd_o (by omega), upd_o (by omega), upd_s]
  · rw [upd_o (by omega), upd_o (by omega), upd_o (by omega), upd_s]
  · rw [upd_o (by omega), upd_o (by omega), upd_s]
theorem upd_sw {g : Nat → Int32} {i j : Nat} {v w : Int32} (h : i ≠ j) : upd (upd g i v) j w = upd (upd g j w) i v := by
  funext x
  by_cases c1 : x = j
  · subst c1; rw [upd_s, upd_o (Ne.symm h), upd_s]
  · rw [upd_o c1]
    by_cases c2 : x = i
    · subst c2; rw [upd_s, upd_s]
    · rw [upd_o c2, upd_o c2, upd_o c1]
theorem add_all {N : Nat → Int32} {k a b c d : Int32} : upd (upd (upd (upd (addN N k 0 1 0 50) (14 + 6 * nH N + 1) a) (14 + 6 * nH N + 2) b) (14 + 6 * nH N + 3) c) (14 + 6 * nH N + 4) d = addN N k a b c d := by
  funext x
  unfold addN
  by_cases c1 : x = 14 + 6 * nH N + 4
  · subst c1
    rw [upd_s, upd_o (by omega), upd_o (by omega), upd_s]
  · rw [upd_o c1]
    by_cases c2 : x = 14 + 6 * nH N + 3
    · subst c2
      rw [upd_s, upd_o (by omega), upd_o (by omega), upd_o (by omega), upd_s]
    · rw [upd_o c2]
      by_cases c3 : x = 14 + 6 * nH N + 2
      · subst c3
        rw [upd_s, upd_o (by omega), upd_o (by omega), upd_o (by omega), upd_o (by omega), upd_s]
      · rw [upd_o c3]
        by_cases c4 : x = 14 + 6 * nH N + 1
        · subst c4
          rw [upd_s, upd_o (by omega), upd_o (by omega), upd_o (by omega), upd_o (by omega), upd_o (by omega), upd_s]
        · rw [upd_o c4]
          by_cases c5 : x = 1
          · subst c5; rw [upd_s, upd_s]
          · rw [upd_o c5, upd_o c5]
            by_cases c6 : x = 14 + 6 * nH N + 5
            · subst c6; rw [upd_s, upd_s]
            · rw [upd_o c6, upd_o c6, upd_o c1, upd_o c1, upd_o c2, upd_o c2, upd_o c3, upd_o c3, upd_o c4, upd_o c4]
