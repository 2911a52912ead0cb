theorem wy_62 : Cond.classLink RL 7 RX3 ∈ BG := mem_T (i := 14) (by decide +kernel) rfl
theorem wy_63 : Cond.instantiable RX3 7 ∈ BG := mem_T (i := 15) (by decide +kernel) rfl
theorem wy_64 : Cond.initialized RX3 ∈ BG := mem_T (i := 1) (by decide +kernel) rfl
theorem wy_65 : Cond.classLink RL 10 RX4 ∈ BG := mem_T (i := 696) (by decide +kernel) rfl
theorem wy_66 : Cond.instantiable RX4 25 ∈ BG := mem_T (i := 697) (by decide +kernel) rfl
theorem wy_67 : Cond.initialized RX4 ∈ BG := mem_T (i := 5) (by decide +kernel) rfl
theorem wy_68 : Cond.methodLink RL 9 yX3_init ∈ BG := mem_T (i := 16) (by decide +kernel) rfl
theorem wy_69 : Cond.methodLink RL 12 yX4_init ∈ BG := mem_T (i := 698) (by decide +kernel) rfl
theorem wy_70 : Cond.instanceMethod yX3_init ∈ BG := mem_T (i := 17) (by decide +kernel) rfl
theorem wy_71 : Cond.instanceMethod yX4_init ∈ BG := mem_T (i := 699) (by decide +kernel) rfl
theorem wy_72 : Cond.code yX3_init cX3_init 2 none ∈ BG := mem_T (i := 18) (by decide +kernel) rfl
theorem wy_73 : Cond.code yX4_init cX4_init 2 none ∈ BG := mem_T (i := 700) (by decide +kernel) rfl
def f4 : Nat → Int32 := fun j => ([2, 0, 1, 0] : List Int32).getD j 0
def m0s : List (Nat → Int32) := [f4, fSp, fun _ => 0, fun _ => 0, fun _ => 0, fun _ => 0, fun _ => 0, fun _ => 0, fun _ => 0, fun _ => 0, fun _ => 0, fun _ => 0]
def m0L : List (Nat → Int32) := (fun _ => 0) :: (m0s ++ (m0s ++ (m0s ++ [fun _ => 0, fun _ => 0, fun _ => 0, fun _ => 0, fun _ => 0, fun _ => 0, fun _ => 0, fun _ => 0, fun _ => 0, fun _ => 0, fun _ => 0, fun _ => 0, fun _ => 0, fNw, fun _ => 0, fun _ => 0, fun _ => 0, fFo])))
def M0 : Mem := fun k => m0L.getD k (fun _ => 0)
def law_pure_ok : Prop := ∀ (Ln : Nat) (xs : Nat → Int32), Ln ≤ 3072 → lp (fun rc18 x => pi_L_law_18 Ln xs rc18 x.1 x.2) FU (0, M0) = some ()
def adL (q0 q1 : Nat) (u1 u2 : Nat → Nat) : List Nat := [q0, u1 1, u1 2, u1 3, u1 4, u1 5, u1 6, u1 7, u1 8, u1 9, u1 10, u1 11, u1 12, u1 13, u1 14, u1 15, u1 16, u1 17, u1 18, u1 19, u1 20, u1 21, u1 22, u1 23, u1 24, u1 25, u1 26, u1 27, u1 28, u1 29, u1 30, u1 31, u1 32, u1 33, u1 34, u1 35, u1 36, u1 37, u1 38, u1 39, u1 40, u1 41, u1 42, u1 43, u1 44, u1 45, u1 46, u1 47, u1 48, q1, u2 50, u2 51, u2 52, u2 53, u2 54, u2 55, u2 56, u2 57, u2 58, u2 59, u2 60, u2 61, u2 62, u2 63, u2 64, u2 65]
def mkg (k : Kg) (q0 q1 : Nat) (u1 u2 : Nat → Nat) (tt : Nat × Nat) : Gh := (kD k, (fun j => (adL q0 q1 u1 u2).getD j 0), kS k, kV k, tt, kI k, kH k, kT k)
def cfA (k : Kg) (q0 q1 : Nat) (u1 u2 : Nat → Nat) (tt : Nat × Nat) (j : Nat) : va_E := if j = 39 then .inl (kH k, 4, .inr (.inr (.inr (.inr (va_up (va_up (va_up (va_up (fun _ => none) 0 (some (u1 40))) 1 (some (u1 42))) 2 (some (u1 44))) 3 (some (u1 46))))))) else if j = 60 then .inl (kT k, 7, .inr (.inr (.inr (.inr (va_up (va_up (va_up (va_up (va_up (va_up (va_up (fun _ => none) 0 (some (kS k 0))) 1 (some (kS k 1))) 2 (some (kS k 2))) 3 (some (kS k 3))) 4 (some (kS k 4))) 5 (some (kS k 5))) 6 (some (kS k 6))))))) else cf (mkg k q0 q1 u1 u2 tt) j (M0 j)
def wdA (k : Kg) (q0 q1 : Nat) (u1 u2 : Nat → Nat) (tt : Nat × Nat) : va_W := (List.range 66).map fun j => (gA (mkg k q0 q1 u1 u2 tt) j, cfA k q0 q1 u1 u2 tt j)
theorem wdA_get {k : Kg} {q0 q1 : Nat} {u1 u2 : Nat → Nat} {tt : Nat × Nat} {j : Nat} (h : j < 66) : (wdA k q0 q1 u1 u2 tt)[j]? = some (gA (mkg k q0 q1 u1 u2 tt) j, cfA k q0 q1 u1 u2 tt j) := by
  simp [wdA, List.getElem?_map, List.getElem?_range h]
theorem arr_same {cA : ClassId} {n : Nat} {f f2 : Nat → Option Nat} (h : ∀ j, j < n → f j = f2 j) : vp_cell cA (n, .inr (.inr (.inr (.inr f)))) = vp_cell cA (n, .inr (.inr (.inr (.inr f2)))) := by
  show arrV cA n (fun j => va_rf (f j)) = arrV cA n (fun j => va_rf (f2 j))
  simp only [arrV]
  congr 1
  apply Array.ext
  · simp
  · intro i h1 h2
    simp at h1
    simp [h i h1]
set_option maxRecDepth 100000 in
set_option maxHeartbeats 4000000 in
theorem wd_of {k : Kg} {q0 q1 : Nat} {u1 u2 : Nat → Nat} {tt : Nat × Nat} {H : Heap} (h : va_P (kD k) vwCl (wdA k q0 q1 u1 u2 tt) H) : va_P (kD k) vwCl (wd (mkg k q0 q1 u1 u2 tt) M0) H := by
  intro j q hj
  obtain ⟨hlt, rfl⟩ := wd_lt hj
  have h1 := h j _ (wdA_get hlt)
  by_cases h39 : j = 39
  · subst h39
    have h2 : H[gA (mkg k q0 q1 u1 u2 tt) 39]? = some (vp_cell (kH k) (4, .inr (.inr (.inr (.inr (va_up (va_up (va_up (va_up (fun _ => none) 0 (some (u1 40))) 1 (some (u1 42))) 2 (some (u1 44))) 3 (some (u1 46)))))))) := h1
    show H[gA (mkg k q0 q1 u1 u2 tt) 39]? = some (vp_cell (kH k) (4, .inr (.inr (.inr (.inr (fun i => some (gA (mkg k q0 q1 u1 u2 tt) (40 + 2 * i))))))))
    rw [h2]
    first | rfl | congr 1
  · by_cases h60 : j = 60
    · subst h60
      have h2 : H[gA (mkg k q0 q1 u1 u2 tt) 60]? = some (vp_cell (kT k) (7, .inr (.inr (.inr (.inr (va_up (va_up (va_up (va_up (va_up (va_up (va_up (fun _ => none) 0 (some (kS k 0))) 1 (some (kS k 1))) 2 (some (kS k 2))) 3 (some (kS k 3))) 4 (some (kS k 4))) 5 (some (kS k 5))) 6 (some (kS k 6)))))))) := h1
      show H[gA (mkg k q0 q1 u1 u2 tt) 60]? = some (vp_cell (kT k) (7, .inr (.inr (.inr (.inr (fun i => some (kS k i)))))))
      rw [h2]
      first | rfl | congr 1
    · have e1 : cfA k q0 q1 u1 u2 tt j = cf (mkg k q0 q1 u1 u2 tt) j (M0 j) := by unfold cfA; rw [if_neg h39, if_neg h60]
      rw [e1] at h1
      exact h1
def ixR (i : Nat) : Nat := ([89, 91, 93, 95, 97, 99, 101, 35, 65, 71, 73, 75] : List Nat).getD i 0
def ixM (i : Nat) : Nat := ([42, 44, 46, 48, 50, 52, 54, 321, 305, 297, 313, 315] : List Nat).getD i 0
def txS (i : Nat) : String := (["hill", "ridge", "partner", "twin", "feud", "stone", "scarp", "rain", "at", "step", "turn", "high"] : List String).getD i ""
def tmR (i : Nat) : Term := .string "HillDance$Reader" (ixR i)
def FLn : List Cond := flatC (Jvm.Cond.and given_1 narrow_1)
theorem fl_ex : ∀ i, i < 12 → Cond.exactly (tmR i) "java/lang/String" ∈ FLn := by decide +kernel
theorem fl_co : ∀ i, i < 12 → Cond.eq (.field (tmR i) "java/lang/String" "coder" "B") (.int 0) ∈ FLn := by decide +kernel
theorem fl_ar : ∀ i, i < 12 → Cond.arrayOf (.field (tmR i) "java/lang/String" "value" "[B") .byte ∈ FLn := by decide +kernel
theorem fl_le : ∀ i, i < 12 → Cond.eq (.length (.field (tmR i) "java/lang/String" "value" "[B")) (.int (Int32.ofNat (txL.getD i 0))) ∈ FLn := by decide +kernel
theorem fl_el : ∀ i, i < 12 → ∀ j, j < txL.getD i 0 → Cond.eq (.elem (.field (tmR i) "java/lang/String" "value" "[B") (.int (Int32.ofNat j))) (.int ((txB.getD i []).getD j 0)) ∈ FLn := by decide +kernel
def neP : List Cond → List (Nat × Nat)
  | [] => []
  | .not (.eq (.string za zi) (.string zb zj)) :: r => if za = "HillDance$Reader" ∧ zb = "HillDance$Reader" then (zi, zj) :: neP r else neP r
  | _ :: r => neP r
theorem neP_mem : ∀ (zl : List Cond) (zi zj : Nat), (zi, zj) ∈ neP zl → Cond.not (Cond.eq (.string "HillDance$Reader" zi) (.string "HillDance$Reader" zj)) ∈ zl := by
  intro zl
  induction zl with
  | nil => intro zi zj h; cases h
  | cons zc r ih =>
    intro zi zj h
    unfold neP at h
    split at h
    · cases h
    · rename_i heq
      injection heq with e1 e2
      subst e1; subst e2
      split at h
      · rename_i hq
        rcases List.mem_cons.mp h with h1 | h1
        · cases h1
          rw [hq.1, hq.2]
          exact List.mem_cons_self
        · exact List.mem_cons_of_mem _ (ih zi zj h1)
      · exact List.mem_cons_of_mem _ (ih zi zj h)
    · rename_i heq
      injection heq with e1 e2
      subst e1; subst e2
      exact List.mem_cons_of_mem _ (ih zi zj h)
def nePL : List (Nat × Nat) := [(35, 89), (35, 91), (89, 91), (35, 93), (89, 93), (91, 93), (35, 95), (89, 95), (91, 95), (93, 95), (35, 97), (89, 97), (91, 97), (93, 97), (95, 97), (35, 99), (89, 99), (91, 99), (93, 99), (95, 99), (97, 99), (35, 101), (89, 101), (91, 101), (93, 101), (95, 101), (97, 101), (99, 101), (35, 65), (89, 65), (91, 65), (93, 65), (95, 65), (97, 65), (99, 65), (101, 65), (35, 71), (89, 71), (91, 71), (93, 71), (95, 71), (97, 71), (99, 71), (101, 71), (65, 71), (35, 73), (89, 73), (91, 73), (93, 73), (95, 73), (97, 73), (99, 73), (101, 73), (65, 73), (71, 73), (35, 75), (89, 75), (91, 75), (93, 75), (95, 75), (97, 75), (99, 75), (101, 75), (65, 75), (71, 75), (73, 75)]
theorem neP_eq : neP FLn = nePL := by decide +kernel
theorem nePL_b : ((List.range 12).all fun i => (List.range 12).all fun j => i == j || (nePL.contains (ixR i, ixR j) || nePL.contains (ixR j, ixR i))) = true := by decide +kernel
theorem nePL_all : ∀ i, i < 12 → ∀ j, j < 12 → i ≠ j → (ixR i, ixR j) ∈ nePL ∨ (ixR j, ixR i) ∈ nePL := by
  intro i hi j hj hij
  have h1 := List.all_eq_true.mp (List.all_eq_true.mp nePL_b i (List.mem_range.mpr hi)) j (List.mem_range.mpr hj)
  rw [Bool.or_eq_true, Bool.or_eq_true] at h1
  rcases h1 with h1 | h1 | h1
  · exact absurd (eq_of_beq h1) hij
  · exact Or.inl (List.contains_iff_mem.mp h1)
  · exact Or.inr (List.contains_iff_mem.mp h1)
theorem fl_ne : ∀ i, i < 12 → ∀ j, j < 12 → i ≠ j → Cond.not (Cond.eq (tmR i) (tmR j)) ∈ FLn ∨ Cond.not (Cond.eq (tmR j) (tmR i)) ∈ FLn := by
  intro i hi j hj hij
  rcases nePL_all i hi j hj hij with h | h
  · exact Or.inl (neP_mem FLn _ _ (by rw [neP_eq]; exact h))
  · exact Or.inr (neP_mem FLn _ _ (by rw [neP_eq]; exact h))
theorem fl_eq : ∀ i, i < 12 → Cond.eq (tmR i) (.string "HillDanceModel" (ixM i)) ∈ FLn := by decide +kernel
theorem fl_fo : ∀ j, j < 4 → Cond.eq (.elem (.static "HillDance" "FURTHER_ON" "[I") (.int (Int32.ofNat j))) (.int (foT j)) ∈ FLn := by decide +kernel
theorem fl_ka : ∀ j, j < 7 → Cond.eq (.elem (.static "HillDance" "KIND_ABOVE" "[I") (.int (Int32.ofNat j))) (.int (kaT j)) ∈ FLn := by decide +kernel
theorem fl_o1 : Cond.arrayOf (.static "HillDance" "FURTHER_ON" "[I") .int ∈ FLn ∧ Cond.eq (.length (.static "HillDance" "FURTHER_ON" "[I")) (.int (Int32.ofNat 4)) ∈ FLn ∧ Cond.arrayOf (.static "HillDance" "KIND_ABOVE" "[I") .int ∈ FLn ∧ Cond.eq (.length (.static "HillDance" "KIND_ABOVE" "[I")) (.int (Int32.ofNat 7)) ∈ FLn ∧ Cond.eq (.static "java/lang/String" "COMPACT_STRINGS" "Z") (.int 1) ∈ FLn ∧ Cond.isRef (.static "jdk/internal/util/Preconditions" "SIOOBE_FORMATTER" "Ljava/util/function/BiFunction;") ∈ FLn := by decide +kernel
theorem tb_ls : Cond.laysStatic "HillDance" "FURTHER_ON" "[I" ∈ tables_1 ∧ Cond.laysStatic "HillDance" "KIND_ABOVE" "[I" ∈ tables_1 ∧ Cond.laysStatic "java/lang/String" "COMPACT_STRINGS" "Z" ∈ tables_1 ∧ Cond.laysStatic "jdk/internal/util/Preconditions" "SIOOBE_FORMATTER" "Ljava/util/function/BiFunction;" ∈ tables_1 ∧ Cond.initialized "HillDance" ∈ tables_1 ∧ Cond.initialized "java/lang/String" ∈ tables_1 ∧ Cond.initialized "jdk/internal/util/Preconditions" ∈ tables_1 ∧ Cond.arrayOver (.object "HillDance$Sheet") ∈ tables_1 ∧ Cond.arrayOver (.object "java/lang/String") ∈ tables_1 ∧ Cond.arrayClass .int ∈ tables_1 := by decide +kernel
theorem tb_nf : ∀ q ∈ nfs, Cond.fieldLinkNest q.1 q.2.1 q.2.2.1 q.2.2.2.1 q.2.2.2.2 "HillDance" ∈ tables_1 := by decide +kernel
theorem tb_nm : ∀ q ∈ nms, Cond.methodLinkNest q.1 q.2.1 q.2.2 "HillDance" ∈ tables_1 := by decide +kernel
theorem tb_ni : Cond.methodLinkNest RX3 24 yX0_init "HillDance" ∈ tables_1 ∧ Cond.methodLinkNest RX3 39 yX1_init "HillDance" ∈ tables_1 := by decide +kernel
theorem tb_st : ∀ q ∈ sts, Cond.stringRef q.1 q.2.1 q.2.2.1 ∈ tables_1 ∧ q.2.2.2 < 12 ∧ (q.1 = "HillDance$Reader" ∧ q.2.1 = ixR q.2.2.2 ∨ q.1 = "HillDanceModel" ∧ q.2.1 = ixM q.2.2.2) := by decide +kernel
theorem tb_sk : ∀ q ∈ stK, Cond.stringRef RX4 q.1 q.2.1 ∈ tables_1 ∧ q.2.2 < 12 ∧ q.1 = ixM q.2.2 := by decide +kernel
theorem tb_in : ∀ c ∈ vwCl, ∃ n, n = c.2.2 ∧ Cond.instantiable c.1 n ∈ tables_1 := by
  intro c hc
  exact ⟨c.2.2, rfl, by revert c; decide +kernel⟩
/-- what the start gives: everything that stands, for any set of cells that are all new -/
theorem start_facts {s : State} {b : Nat} (hts : ∀ w ∈ lw_tbl, w.before #[Value.ref b] s = true) (hgv : (Jvm.Cond.and given_1 narrow_1).before #[Value.ref b] s = true) : ∃ (k : Kg) (tt : Nat × Nat), va_K (kD k) vwCl (tyK k) s ∧ Kf k (fun q => s.heap.size ≤ q) s s.heap ∧ ∀ (g : Gh), gD g = kD k → gS g = kS k → gV g = kV k → gP g = tt → (∀ q, Aw g q → s.heap.size ≤ q) → Fx g s s.heap := by
  have hs : ∀ c ∈ FLn, c.before #[Value.ref b] s = true := flat_of_before _ hgv
  have ht : ∀ w ∈ tables_1, w.before #[Value.ref b] s = true := fun w hw => hts w (List.mem_append_right _ hw)
  have hA : ∀ a : Nat, a < s.heap.size → ¬ (fun q : Nat => s.heap.size ≤ q) a := fun a h => Nat.not_le.mpr h
  obtain ⟨l1, l2, l3, l4, l5, l6, l7, l8, l9, l10⟩ := tb_ls
  obtain ⟨o1, o2, o3, o4, o5, o6⟩ := fl_o1
  obtain ⟨cI, kI', cpI, f1, f2, f3⟩ := Cond.arrayClass_spec (ht _ l10)
  obtain ⟨cpH, cH, kH', h1, h2, h3, h4, h5⟩ := Cond.arrayOver_spec (ht _ l8)
  obtain ⟨cpT, cT, kT', g1, g2, g3, g4, g5⟩ := Cond.arrayOver_spec (ht _ l9)
  obtain ⟨c0, s0, n0⟩ := u_known (C := RX0) (T := TX0) (N := 6) (n := 6) hts (fun w hw => (List.mem_filter.mp (inX0 w hw)).1) (ht (.instantiable RX0 6) (by decide +kernel))
  obtain ⟨c1, s1, n1⟩ := u_known (C := RX1) (T := TX1) (N := 3) (n := 3) hts (fun w hw => (List.mem_filter.mp (inX1 w hw)).1) (ht (.instantiable RX1 3) (by decide +kernel))
  obtain ⟨c2, s2, n2⟩ := u_known (C := RX2) (T := TX2) (N := 15) (n := 15) hts (fun w hw => (List.mem_filter.mp (inX2 w hw)).1) (ht (.instantiable RX2 15) (by decide +kernel))
  obtain ⟨c3, s3, n3⟩ := u_known (C := RX3) (T := TX3) (N := 7) (n := 7) hts (fun w hw => (List.mem_filter.mp (inX3 w hw)).1) (ht (.instantiable RX3 7) (by decide +kernel))
  obtain ⟨c4, s4, n4⟩ := u_known (C := RX4) (T := TX4) (N := 25) (n := 25) hts (fun w hw => (List.mem_filter.mp (inX4 w hw)).1) (ht (.instantiable RX4 25) (by decide +kernel))
  obtain ⟨adK, adV, hSt, hEv⟩ := vk_Sof (A := fun q => s.heap.size ≤ q) (tm := tmR) (len := txL) (byt := txB) (N := 12) (by decide) (fun i hi => hs _ (fl_ex i hi)) (fun i hi => hs _ (fl_co i hi)) (fun i hi => hs _ (fl_ar i hi)) (fun i hi => hs _ (fl_le i hi)) (fun i hi j hj => hs _ (fl_el i hi j hj)) (fun i j hi hj hij => (fl_ne i hi j hj hij).imp (hs _) (hs _)) hA
  have hEm : ∀ i, i < 12 → (Term.string "HillDanceModel" (ixM i)).eval #[Value.ref b] s none [] s = some (.ref (adK i)) := fun i hi => va_eqR (hs _ (fl_eq i hi)) (hEv i hi)
  obtain ⟨t1, e1, hT1⟩ := va_Tof (f := fun j => .int (foT j)) (A := fun q => s.heap.size ≤ q) (N := 4) (by decide) (hs _ o1) (va_eqt (hs _ o2)) (fun j hj => va_eqt (hs _ (fl_fo j hj))) hA
  obtain ⟨t2, e2, hT2⟩ := va_Tof (f := fun j => .int (kaT j)) (A := fun q => s.heap.size ≤ q) (N := 7) (by decide) (hs _ o3) (va_eqt (hs _ o4)) (fun j hj => va_eqt (hs _ (fl_ka j hj))) hA
  have z1 := va_Zof (A := fun q => s.heap.size ≤ q) (ht _ l1) (ht _ l5) e1 hA
  have z2 := va_Zof (A := fun q => s.heap.size ≤ q) (ht _ l2) (ht _ l5) e2 hA
  have z3 := va_Zof (A := fun q => s.heap.size ≤ q) (ht _ l3) (ht _ l6) (va_eqi (hs _ o5)) hA
  have z4 := va_Zqof (A := fun q => s.heap.size ≤ q) (ht _ l4) (ht _ l7) (hs _ o6) hA
  refine ⟨((fun j => ([c0, c1, c2, c3, c4] : List ClassId).getD j c0, fun j => ([s0, s1, s2, s3, s4] : List (Nat → Nat)).getD j s0), cI, cH, cT, adK, adV), (t1, t2), ⟨?_, ?_⟩, ⟨ht _ l8, ht _ l9, va_Nw.of rfl (ht _ tb_ni.1), va_Nw.of rfl (ht _ tb_ni.2), hSt, ?_⟩, ?_⟩
  · intro j q hq
    match j, hq with
    | 0, hq => cases hq; exact n0
    | 1, hq => cases hq; exact n1
    | 2, hq => cases hq; exact n2
    | 3, hq => cases hq; exact n3
    | 4, hq => cases hq; exact n4
    | j + 5, hq => simp [vwCl] at hq
  · intro j q hq
    match j, hq with
    | 0, hq => cases hq; exact ⟨fun n z => ⟨fun k h => (by cases h), kI', f2, cpI, f3⟩, f1⟩
    | 1, hq => cases hq; exact ⟨fun n z => ⟨fun k h => (by cases h), kH', h3, cpH, h4⟩, kH', cpH, h3, h4, h1, h5⟩
    | 2, hq => cases hq; exact ⟨fun n z => ⟨fun k h => (by cases h), kT', g3, cpT, g4⟩, kT', cpT, g3, g4, g1, g5⟩
    | j + 3, hq => simp [tyK] at hq
  · intro q hq
    obtain ⟨a1, a2, a3⟩ := tb_sk q hq
    refine vk_R.of (A := #[Value.ref b]) (ht _ a1) ?_
    rw [a3]
    exact hEm _ a2
  · intro g w1 w2 w3 w4 hnew
    refine ⟨⟨?_, ?_⟩, ⟨?_, ?_⟩, z3.narrow hnew, z4.narrow hnew, ?_, fun q hq => va_Nw.of rfl (ht _ (tb_nf q hq)), fun q hq => va_Nw.of rfl (ht _ (tb_nm q hq)), ?_⟩
    · rw [w4]; exact z1.narrow hnew
    · rw [w4]; exact hT1.narrow hnew
    · rw [w4]; exact z2.narrow hnew
    · rw [w4]; exact hT2.narrow hnew
    · rw [w2, w3]; exact hSt.narrow hnew
    · intro q hq
      obtain ⟨a1, a2, a3⟩ := tb_st q hq
      refine vk_R.of (A := #[Value.ref b]) (ht _ a1) ?_
      rw [w2]
      rcases a3 with ⟨a4, a5⟩ | ⟨a4, a5⟩
      · rw [a4, a5]; exact hEv _ a2
      · rw [a4, a5]; exact hEm _ a2
set_option maxRecDepth 100000 in
set_option maxHeartbeats 40000000 in
theorem whole_start (hpure : law_pure_ok) {p : Program} {e : Env} {s : State} {m : MethodId} {below : List Frame} {meth : Method} {c : Code} (l : Launch) (hflags : l.flags = flags0) {b L : Nat} {xs : Nat → Int32} (hL : L ≤ 3072) (C0 : lw_At p s m meth c b L xs) : W p l e room_1 s m #[Value.ref b] below meth c s.heap [] 0 0 (lw_Z below #[Value.ref b] s) (entryFrame m ([Value.ref b] : List Value).toArray 4) := by
  obtain ⟨hx, hb, hr, hml, hown, hts, hX, hbl, hlocks, hgv⟩ := id C0
  obtain ⟨k, tt, hK, hF, hFx⟩ := start_facts hts hgv
  have hBG : ∀ w ∈ BG, w.before #[Value.ref b] s = true := fun w hw => hts w (List.mem_filter.mp hw).1
  have X : Kx p l e room_1 s m #[Value.ref b] below meth c k cL_law 4 RL 16 (fun q => s.heap.size ≤ q) := ⟨hx, hb, hml, hown, hBG, hK, fun _ h => h, hF, Nat.le_of_ble_eq_true rfl, Nat.le_of_ble_eq_true rfl, hlocks⟩
  have hl := lv_entry ([.ref b]) (n := 4) (Nat.le_of_ble_eq_true rfl)
  rw [lg_entry_eq]
  have key : Kj p l e room_1 s m #[Value.ref b] below meth c k (fun q => s.heap.size ≤ q) 4 (lw_Z below #[Value.ref b] s) [] 0 0 0 [(0, .ref b)] [] := by
    refine c_new (ci := 3) (fs := [.null, .null, .null, .int 0, .null, .null, .null]) (cs2 := 1) (sl2 := 7) tyX3 tyX3_ok X inX3 wy_62 wy_63 wy_64 rfl (fun j hj => by revert j; decide) dL_law_0 (Nat.le_of_ble_eq_true rfl) (Nat.le_of_ble_eq_true rfl) rfl rfl (fun q0 => ?_)
    refine c_dup X dL_law_3 rfl ?_
    refine c_callI (rest := [.ref q0]) (wr := []) (cs2 := 49) (sl2 := 655) 0 [] X (ck_X3_init l k) rfl wy_72 wy_64 wy_68 wy_70 ⟨by decide +kernel, by decide +kernel, by decide +kernel⟩ (by decide) (by decide) rfl rfl (by decide) (by decide) (Nat.le_of_ble_eq_true rfl) dL_law_4 (Nat.le_of_ble_eq_true rfl) (Nat.le_of_ble_eq_true rfl) rfl rfl (fun u1 => ?_)
    refine c_eqw (wq := hdW k q0 u1) rfl ?_
    refine c_astore_n (i := 1) (Lq := [(0, .ref b), (1, .ref q0)]) X dL_law_7 rfl (by decide) rfl ?_
    refine c_new (ci := 4) (fs := [.null, .null, .null, .int 0, .null, .null, .null, .null, .null, .null, .null, .int 0, .int 0, .int 0, .int 0, .int 0, .int 0, .null, .null, .int 0, .int 0, .null, .null, .null, .null]) (cs2 := 50) (sl2 := 680) tyX4 tyX4_ok X inX4 wy_65 wy_66 wy_67 rfl (fun j hj => by revert j; decide) dL_law_8 (Nat.le_of_ble_eq_true rfl) (Nat.le_of_ble_eq_true rfl) rfl rfl (fun q1 => ?_)
    refine c_dup X dL_law_11 rfl ?_
    refine c_callI (rest := [.ref q1]) (wr := hdW k q0 u1) (cs2 := 66) (sl2 := 1845) 49 (List.range 49) X (ck_X4_init l k) rfl wy_73 wy_67 wy_69 wy_71 ⟨by decide +kernel, by decide +kernel, by decide +kernel⟩ (by decide) (by decide) rfl rfl (by decide) (by decide) (Nat.le_of_ble_eq_true rfl) dL_law_12 (Nat.le_of_ble_eq_true rfl) (Nat.le_of_ble_eq_true rfl) rfl rfl (fun u2 => ?_)
    refine c_astore_n (i := 2) (Lq := [(0, .ref b), (1, .ref q0), (2, .ref q1)]) X dL_law_15 rfl (by decide) rfl ?_
    refine c_iconst (v := 0) X dL_law_16 rfl ?_
    refine c_istore_n (i := 3) (Lq := [(0, .ref b), (1, .ref q0), (2, .ref q1), (3, .int 0)]) X dL_law_17 rfl (by decide) rfl ?_
    intro H locs ls hP hD hS hl
    have hPA : va_P (kD k) vwCl (wdA k q0 q1 u1 u2 tt) H := hP.sub (List.range 66) rfl
    have hDA : va_D (fun q => s.heap.size ≤ q) (wdA k q0 q1 u1 u2 tt) := hD.sub (List.range 66) (by decide) rfl
    have hPw := wd_of hPA
    have hI : Inj (mkg k q0 q1 u1 u2 tt) := fun i j hi hj hij => hDA.1 i j _ _ (wdA_get hi) (wdA_get hj) hij
    have hnew : ∀ q, Aw (mkg k q0 q1 u1 u2 tt) q → s.heap.size ≤ q := by
      intro q ⟨j, hj, hq⟩
      rw [hq]
      exact hDA.2 j _ (wdA_get hj)
    have X2 : Cx p l e room_1 s m #[Value.ref b] below meth c (mkg k q0 q1 u1 u2 tt) cL_law 4 (66, 1845) RL 16 := ⟨hx, hb, hml, hown, hBG, hK, hI, hFx (mkg k q0 q1 u1 u2 tt) rfl rfl rfl rfl hnew, Nat.le_of_ble_eq_true rfl, Nat.le_of_ble_eq_true rfl, hlocks, Nat.le_of_ble_eq_true rfl, Nat.le_of_ble_eq_true rfl⟩
    have hj := j_lp (p := p) (l := l) (e := e) (R := room_1) (s := s) (m := m) (args := #[Value.ref b]) (below := below) (meth := meth) (c := c) (g := mkg k q0 q1 u1 u2 tt) (nL := 4) (cw := (66, 1845)) (Qf := fun (_ : Unit) => lw_Z below #[Value.ref b] s) (pc := 18) (F := fun rc18 x => pi_L_law_18 L xs rc18 x.1 x.2) (Lf := fun x => [(0, .ref b), (1, .ref (gA (mkg k q0 q1 u1 u2 tt) 0)), (2, .ref (gA (mkg k q0 q1 u1 u2 tt) 49)), (3, .int x.1)]) (Mf := fun x => x.2) (fun rc18 hc18 x => pj_L_law_18 X2 hr hX hbl hnew ⟨Nat.le_of_ble_eq_true rfl, Nat.le_of_ble_eq_true rfl⟩ rc18 hc18 x.1 x.2) FU (0, M0)
    refine va_forget (fun q hq => hS.2.2 q hq) ?_
    exact hj () (hpure L xs hL) H [] ls hPw ⟨hS.1, fun q h1 h2 => hS.2.1 q h1 (Nat.not_le.mpr h1), fun _ h => by cases h⟩ hl
  exact key s.heap [] _ (fun j q h => by simp at h) ⟨fun i j p q h => by simp at h, fun j q h => by simp at h⟩ va_S.rf hl
