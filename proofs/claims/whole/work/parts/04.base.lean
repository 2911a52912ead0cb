/-! memory, guards, worlds -/
abbrev Mem : Type := Nat → Nat → Int32
def upA (M : Mem) (k : Nat) (f : Nat → Int32) : Mem := fun a => if a = k then f else M a
def up (M : Mem) (k j : Nat) (v : Int32) : Mem := upA M k (upd (M k) j v)
def gd {α : Type} (b : Bool) (o : Option α) : Option α := match b with
  | true => o
  | false => none
def inb (i : Int32) (n : Nat) : Bool := !(decide (i < 0)) && decide (i.toNatClampNeg < n)
theorem inb_vp {i : Int32} {n : Nat} (h : inb i n = true) : vp_in i n := by
  simp only [inb, Bool.and_eq_true, Bool.not_eq_true', decide_eq_false_iff_not, decide_eq_true_eq] at h
  intro q
  rcases q with q | q
  · exact h.1 q
  · omega
theorem gd_some {α : Type} {b : Bool} {o : Option α} {x : α} (h : gd b o = some x) : b = true ∧ o = some x := by
  cases b with
  | true => exact ⟨rfl, h⟩
  | false => cases h
abbrev Gh : Type := va_G × (Nat → Nat) × (Nat → Nat) × (Nat → Nat) × (Nat × Nat) × ClassId × ClassId × ClassId
abbrev gD (g : Gh) : va_G := g.1
abbrev gA (g : Gh) : Nat → Nat := g.2.1
abbrev gS (g : Gh) : Nat → Nat := g.2.2.1
abbrev gV (g : Gh) : Nat → Nat := g.2.2.2.1
abbrev gP (g : Gh) : Nat × Nat := g.2.2.2.2.1
abbrev gI (g : Gh) : ClassId := g.2.2.2.2.2.1
abbrev gH (g : Gh) : ClassId := g.2.2.2.2.2.2.1
abbrev gT (g : Gh) : ClassId := g.2.2.2.2.2.2.2
def ar (g : Gh) (n : Nat) : (Nat → Int32) → va_E := fun f => .inl (gI g, n, .inl f)
def hdV (g : Gh) (f : Nat → Int32) : List Value := [.ref (gA g 1), .ref (gA g 13), .ref (gA g 25), .int (f 3), .ref (gA g 37), .ref (gA g 39), .ref (gA g 48)]
def shV (g : Gh) (b : Nat) (f : Nat → Int32) : List Value := [.int (f 0), .int (f 1), .int (f 2), .int (f 3), .ref (gA g (b + 1)), .ref (gA g (b + 2)), .ref (gA g (b + 3)), .ref (gA g (b + 4)), .ref (gA g (b + 5)), .ref (gA g (b + 6)), .ref (gA g (b + 7)), .ref (gA g (b + 8)), .ref (gA g (b + 9)), .ref (gA g (b + 10)), .ref (gA g (b + 11))]
def rdV (g : Gh) (f : Nat → Int32) : List Value := [.ref (gA g 38), .int (f 1), .int (f 2), .int (f 3), .int (f 4), .int (f 5)]
def stV (g : Gh) (b : Nat) (f : Nat → Int32) : List Value := [.int (f 0), .int (f 1), .ref (gA g (b + 1))]
def mdV (g : Gh) (f : Nat → Int32) : List Value := [.ref (gA g 50), .ref (gA g 51), .ref (gA g 52), .int (f 3), .ref (gA g 53), .ref (gA g 54), .ref (gA g 55), .ref (gA g 56), .ref (gA g 57), .ref (gA g 58), .ref (gA g 59), .int (f 11), .int (f 12), .int (f 13), .int (f 14), .int (f 15), .int (f 16), .ref (gA g 60), .ref (gA g 61), .int (f 19), .int (f 20), .ref (gA g 62), .ref (gA g 63), .ref (gA g 64), .ref (gA g 65)]
def shtA (g : Gh) : (Nat → Int32) → va_E := fun _ => .inl (gH g, 4, .inr (.inr (.inr (.inr (fun i => some (gA g (40 + 2 * i)))))))
def knA (g : Gh) : (Nat → Int32) → va_E := fun _ => .inl (gT g, 7, .inr (.inr (.inr (.inr (fun i => some (gS g i))))))
def shO (g : Gh) (b : Nat) : (Nat → Int32) → va_E := fun f => .inr (2, shV g b f)
def shL (g : Gh) (b : Nat) : List ((Nat → Int32) → va_E) := [shO g b, ar g 10, ar g 8, ar g 8, ar g 8, ar g 8, ar g 8, ar g 8, ar g 8, ar g 8, ar g 12, ar g 12]
def stL2 (g : Gh) (b : Nat) : List ((Nat → Int32) → va_E) := [fun f => .inr (1, stV g b f), ar g 40]
def cfL (g : Gh) : List ((Nat → Int32) → va_E) := (fun f => .inr (3, hdV g f)) :: (shL g 1 ++ (shL g 13 ++ (shL g 25 ++ ((fun f => .inr (0, rdV g f)) :: ar g 120 :: shtA g :: (stL2 g 40 ++ (stL2 g 42 ++ (stL2 g 44 ++ (stL2 g 46 ++ (ar g 7 :: (fun f => .inr (4, mdV g f)) :: [ar g 62, ar g 62, ar g 62, ar g 8, ar g 4, ar g 8, ar g 8, ar g 8, ar g 8, ar g 120, knA g, ar g 600, ar g 4, ar g 4, ar g 160, ar g 40])))))))))
def cf (g : Gh) (k : Nat) : (Nat → Int32) → va_E := (cfL g).getD k (ar g 0)
def wd (g : Gh) (M : Mem) : va_W := (List.range 66).map fun k => (gA g k, cf g k (M k))
def Aw (g : Gh) : Nat → Prop := fun q => ∃ k, k < 66 ∧ q = gA g k
def Inj (g : Gh) : Prop := ∀ i j, i < 66 → j < 66 → gA g i = gA g j → i = j
def tysG (g : Gh) : List (ClassId × FieldType) := [(gI g, .int), (gH g, .object "HillDance$Sheet"), (gT g, .object "java/lang/String")]
theorem wd_get {g : Gh} {M : Mem} {k : Nat} (h : k < 66) : (wd g M)[k]? = some (gA g k, cf g k (M k)) := by
  simp [wd, List.getElem?_map, List.getElem?_range h]
theorem wd_lt {g : Gh} {M : Mem} {k : Nat} {q : Nat × va_E} (h : (wd g M)[k]? = some q) : k < 66 ∧ q = (gA g k, cf g k (M k)) := by
  have h1 : k < (wd g M).length := (List.getElem?_eq_some_iff.mp h).1
  have h2 : k < 66 := by simpa [wd] using h1
  rw [wd_get h2] at h
  exact ⟨h2, (Option.some.inj h).symm⟩
theorem wd_set {g : Gh} {M : Mem} {k : Nat} {f : Nat → Int32} (h : k < 66) : (wd g M).set k (gA g k, cf g k f) = wd g (upA M k f) := by
  apply List.ext_getElem?
  intro i
  rw [List.getElem?_set]
  by_cases hi : k = i
  · subst hi
    have hl : k < (wd g M).length := by simpa [wd] using h
    rw [if_pos rfl, if_pos hl, wd_get h]
    simp [upA]
  · rw [if_neg hi]
    by_cases h6 : i < 66
    · rw [wd_get h6, wd_get h6]
      simp [upA, Ne.symm hi]
    · have e1 : (wd g M)[i]? = none := by rw [List.getElem?_eq_none_iff]; simp [wd]; omega
      have e2 : (wd g (upA M k f))[i]? = none := by rw [List.getElem?_eq_none_iff]; simp [wd]; omega
      rw [e1, e2]
theorem wd_D {g : Gh} {M : Mem} (h : Inj g) : va_D (Aw g) (wd g M) := by
  refine ⟨fun i j p q hp hq e => ?_, fun k q hk => ?_⟩
  · obtain ⟨h1, rfl⟩ := wd_lt hp
    obtain ⟨h2, rfl⟩ := wd_lt hq
    exact h i j h1 h2 e
  · obtain ⟨h1, rfl⟩ := wd_lt hk
    exact ⟨k, h1, rfl⟩
/-! words -/
def BG : List Cond := lw_tbl.filter goodWord
theorem mem_T {w : Cond} {i : Nat} (h : tables_1[i]? = some w) (hg : goodWord w = true) : w ∈ BG := List.mem_filter.mpr ⟨List.mem_append_right _ (List.mem_of_getElem? h), hg⟩
theorem mem_P {w : Cond} {i : Nat} (h : (k2_sels lw_privs)[i]? = some w) (hg : goodWord w = true) : w ∈ BG := List.mem_filter.mpr ⟨List.mem_append_left _ (List.mem_of_getElem? h), hg⟩
theorem good_BG {w : Cond} (hw : w ∈ BG) : GoodIn BG (w :: BG) := by
  intro v hv
  have h1 : v ∈ BG := by
    rcases List.mem_cons.mp hv with e | e
    · rw [e]; exact hw
    · exact e
  exact ⟨h1, good_of_word (List.mem_filter.mp h1).2⟩
def rmD (d : Nat) : Room := { frames := d, cells := 0, slots := 0, locals := 64 * d }
/-! what stands from the start: static rows, texts, links between nest mates -/
def foT (j : Nat) : Int32 := ([0, 1, 6, 11] : List Int32).getD j 0
def kaT (j : Nat) : Int32 := ([-1, 0, 0, 2, 3, 0, 1] : List Int32).getD j 0
def txL : List Nat := [4, 5, 7, 4, 4, 5, 5, 4, 2, 4, 4, 4]
def txB : List (List Int32) := [[104, 105, 108, 108], [114, 105, 100, 103, 101], [112, 97, 114, 116, 110, 101, 114], [116, 119, 105, 110], [102, 101, 117, 100], [115, 116, 111, 110, 101], [115, 99, 97, 114, 112], [114, 97, 105, 110], [97, 116], [115, 116, 101, 112], [116, 117, 114, 110], [104, 105, 103, 104]]
def nfs : List (String × Nat × String × String × String) := [("HillDance", 48, "HillDance$Shire", "rainfall", "I"), ("HillDance$Reader", 48, "HillDance$Shire", "rainfall", "I"), ("HillDance", 101, "HillDance$Shire", "age", "I"), ("HillDance", 191, "HillDance$Shire", "z", "I"), ("HillDance", 246, "HillDance$Shire", "hills", "I"), ("HillDance", 204, "HillDance$Shire", "spots", "[I"), ("HillDance", 194, "HillDance$Reader", "length", "I"), ("HillDance", 227, "HillDance$Sheet", "bits", "I"), ("HillDance", 217, "HillDance$Sheet", "length", "I"), ("HillDance", 233, "HillDance$Sheet", "numbers", "[I"), ("HillDance$Shire", 73, "HillDance", "FURTHER_ON", "[I")]
def nms : List (String × Nat × MethodName) := [("HillDance$Shire", 83, yX3_waysOn), ("HillDance$Reader", 77, yX3_mostOf)]
def sts : List (String × Nat × String × Nat) := [("HillDance$Reader", 89, "hill", 0), ("HillDance$Reader", 91, "ridge", 1), ("HillDance$Reader", 93, "partner", 2), ("HillDance$Reader", 95, "twin", 3), ("HillDance$Reader", 97, "feud", 4), ("HillDance$Reader", 99, "stone", 5), ("HillDance$Reader", 101, "scarp", 6), ("HillDance$Reader", 35, "rain", 7), ("HillDance$Reader", 65, "at", 8), ("HillDance$Reader", 71, "step", 9), ("HillDance$Reader", 73, "turn", 10), ("HillDance$Reader", 75, "high", 11), ("HillDanceModel", 321, "rain", 7), ("HillDanceModel", 305, "at", 8), ("HillDanceModel", 297, "step", 9), ("HillDanceModel", 313, "turn", 10), ("HillDanceModel", 315, "high", 11)]
def Fx (g : Gh) (U : State) (H : Heap) : Prop :=
  (va_Z "HillDance" "FURTHER_ON" "[I" (.ref (gP g).1) (Aw g) U H ∧ va_T .int (gP g).1 4 (fun j => .int (foT j)) (Aw g) U H) ∧
  (va_Z "HillDance" "KIND_ABOVE" "[I" (.ref (gP g).2) (Aw g) U H ∧ va_T .int (gP g).2 7 (fun j => .int (kaT j)) (Aw g) U H) ∧
  va_Z "java/lang/String" "COMPACT_STRINGS" "Z" (.int 1) (Aw g) U H ∧
  va_Zq "jdk/internal/util/Preconditions" "SIOOBE_FORMATTER" "Ljava/util/function/BiFunction;" (Aw g) U H ∧
  vk_S 12 txL txB (gS g) (gV g) (Aw g) U H ∧
  (∀ q ∈ nfs, va_Nw (.fieldLinkNest q.1 q.2.1 q.2.2.1 q.2.2.2.1 q.2.2.2.2 "HillDance") U) ∧
  (∀ q ∈ nms, va_Nw (.methodLinkNest q.1 q.2.1 q.2.2 "HillDance") U) ∧
  (∀ q ∈ sts, vk_R q.1 q.2.1 q.2.2.1 (gS g q.2.2.2) U)
theorem Zq_kept {C n d : String} {A : Nat → Prop} {U : State} {H H1 : Heap} (h : va_Zq C n d A U H) (hq : ∀ a : Nat, a < H.size → ¬ A a → H1[a]? = H[a]?) : va_Zq C n d A U H1 := by
  rcases h with h | ⟨t, h⟩
  · exact Or.inl (h.kept hq)
  · exact Or.inr ⟨t, h.kept hq⟩
theorem Zq_moved {C n d : String} {A : Nat → Prop} {u U : State} {H : Heap} (hvm : u.vm.Alike U.vm) (h : va_Zq C n d A u H) : va_Zq C n d A U H := by
  rcases h with h | ⟨t, h⟩
  · exact Or.inl (h.moved hvm)
  · exact Or.inr ⟨t, h.moved hvm⟩
theorem Fx.kept {g : Gh} {U : State} {H H1 : Heap} (h : Fx g U H) (hq : ∀ a : Nat, a < H.size → ¬ Aw g a → H1[a]? = H[a]?) : Fx g U H1 := by
  obtain ⟨⟨h1, h2⟩, ⟨h3, h4⟩, h5, h6, h7, h8⟩ := h
  exact ⟨⟨h1.kept hq, h2.kept hq⟩, ⟨h3.kept hq, h4.kept hq⟩, h5.kept hq, Zq_kept h6 hq, h7.kept hq, h8⟩
theorem Fx.warm {g : Gh} {s U : State} {H : Heap} (hW : s.WarmedH U.vm) (h : Fx g s H) : Fx g U H := by
  have ha := hW.alike
  obtain ⟨⟨h1, h2⟩, ⟨h3, h4⟩, h5, h6, h7, h8, h9, h10⟩ := h
  exact ⟨⟨h1.moved ha, h2.moved ha⟩, ⟨h3.moved ha, h4.moved ha⟩, h5.moved ha, Zq_moved ha h6, h7.moved ha, fun q hq => (h8 q hq).warmF hW, fun q hq => (h9 q hq).warmM hW, fun q hq => (h10 q hq).warm hW⟩
theorem Fx.same {g : Gh} {s U : State} {H : Heap} (hv : s.vm = U.vm) (h : Fx g s H) : Fx g U H := by
  have ha : s.vm.Alike U.vm := by rw [hv]; exact Vm.Alike.refl _
  obtain ⟨⟨h1, h2⟩, ⟨h3, h4⟩, h5, h6, h7, h8, h9, h10⟩ := h
  exact ⟨⟨h1.moved ha, h2.moved ha⟩, ⟨h3.moved ha, h4.moved ha⟩, h5.moved ha, Zq_moved ha h6, h7.moved ha, fun q hq => (h8 q hq).same rfl hv, fun q hq => (h9 q hq).same rfl hv, fun q hq => (h10 q hq).same hv.symm⟩
def Wo (g : Gh) (M : Mem) (U : State) : Prop := va_P (gD g) vwCl (wd g M) U.heap ∧ va_K (gD g) vwCl (tysG g) U ∧ Inj g ∧ Fx g U U.heap
theorem wo_blind {g : Gh} {M : Mem} {av : List Value} : FrameBlind (va_Pc av (Wo g M)) := by
  intro a U f mk q
  obtain ⟨q0, q1, q2, q3, q4⟩ := q
  exact ⟨q0, q1, va_K.moved (u := U) (U := U.calling f mk a) (Vm.Alike.refl U.vm) q2, q3, Fx.same (s := U) (U := U.calling f mk a) rfl q4⟩
/-! contracts -/
def QI (g : Gh) (x : Int32 × Mem) : Array Value → State → Outcome → State → Prop := va_Qi (fun (r : Int32) (u : Mem) => r = x.1 ∧ u = x.2) (fun u t => Wo g u t) (Aw g)
def QL (g : Gh) (x : Int64 × Mem) : Array Value → State → Outcome → State → Prop := va_Ql (fun (r : Int64) (u : Mem) => r = x.1 ∧ u = x.2) (fun u t => Wo g u t) (Aw g)
def QV (g : Gh) (x : Mem) : Array Value → State → Outcome → State → Prop := va_Qv (fun (u : Mem) => u = x) (fun u t => Wo g u t) (Aw g)
def QR (g : Gh) (x : Nat × Mem) : Array Value → State → Outcome → State → Prop := va_Qr (fun (u : Mem) => u = x.2) (fun u a t => a = gS g x.1 ∧ Wo g u t) (Aw g)
def wsM (y : MethodName) (cc : ByteArray) (mL : Nat) (rt : Option FieldType) : List Cond := .code y cc mL rt :: BG
def CtI (l : Launch) (g : Gh) (y : MethodName) (cc : ByteArray) (mL : Nat) (rt : Option FieldType) (d : Nat) (av : List Value) (M : Mem) (o : Option (Int32 × Mem)) : Prop := ∀ x, o = some x → Met l y (wsM y cc mL rt) (rmD d) (va_Pc av (Wo g M)) (QI g x) 0 0 (Aw g)
def CtL (l : Launch) (g : Gh) (y : MethodName) (cc : ByteArray) (mL : Nat) (rt : Option FieldType) (d : Nat) (av : List Value) (M : Mem) (o : Option (Int64 × Mem)) : Prop := ∀ x, o = some x → Met l y (wsM y cc mL rt) (rmD d) (va_Pc av (Wo g M)) (QL g x) 0 0 (Aw g)
def CtV (l : Launch) (g : Gh) (y : MethodName) (cc : ByteArray) (mL : Nat) (rt : Option FieldType) (d : Nat) (av : List Value) (M : Mem) (o : Option Mem) : Prop := ∀ x, o = some x → Met l y (wsM y cc mL rt) (rmD d) (va_Pc av (Wo g M)) (QV g x) 0 0 (Aw g)
def CtR (l : Launch) (g : Gh) (y : MethodName) (cc : ByteArray) (mL : Nat) (rt : Option FieldType) (d : Nat) (av : List Value) (M : Mem) (o : Option (Nat × Mem)) : Prop := ∀ x, o = some x → Met l y (wsM y cc mL rt) (rmD d) (va_Pc av (Wo g M)) (QR g x) 0 0 (Aw g)
/-- the method's own ground -/
def Cx (p : Program) (l : Launch) (e : Env) (R : Room) (s : State) (m : MethodId) (args : Array Value) (below : List Frame) (meth : Method) (c : Code) (g : Gh) (cc : ByteArray) (nL : Nat) (cw : Nat × Nat) (own : String) (d : Nat) : Prop :=
  p.tables.exec = Jvm.exec ∧ c.code = cc ∧ c.maxLocals = nL ∧ s.vm.findClass own = some m.cls ∧ (∀ w ∈ BG, w.before args s = true) ∧ va_K (gD g) vwCl (tysG g) s ∧ Inj g ∧ Fx g s s.heap ∧ d ≤ R.frames ∧ 64 * d ≤ R.locals ∧ meth.locks = false ∧ cw.1 ≤ R.cells ∧ cw.2 ≤ R.slots
/-- from here on, if the picture says what comes, the machine comes to it -/
def J (p : Program) (l : Launch) (e : Env) (R : Room) (s : State) (m : MethodId) (args : Array Value) (below : List Frame) (meth : Method) (c : Code) (g : Gh) (nL : Nat) (cw : Nat × Nat) {α : Type} (Qf : α → State → Prop) (o : Option α) (M : Mem) (pc : Nat) (L : List (Nat × Value)) (st : List Value) : Prop :=
  ∀ x, o = some x → ∀ (H : Heap) (locs : List Loc) (ls : Array Slot), va_P (gD g) vwCl (wd g M) H → va_S (Aw g) s.heap H locs → lv_has ls nL L → W p l e R s m args below meth c H locs cw.1 cw.2 (Qf x) (F0 m pc ls st)
def ll : List (Nat × Value) → Nat → Option Value
  | [], _ => none
  | (a, v) :: r, i => bif Nat.beq a i then some v else ll r i
theorem ll_mem {L : List (Nat × Value)} {i : Nat} {v : Value} (h : ll L i = some v) : (i, v) ∈ L := by
  induction L with
  | nil => cases h
  | cons q r ih =>
    obtain ⟨a, w⟩ := q
    simp only [ll] at h
    cases hb : Nat.beq a i with
    | true =>
      rw [hb] at h
      have e1 : a = i := Nat.eq_of_beq_eq_true hb
      have e2 : w = v := Option.some.inj h
      subst e1; subst e2
      exact List.mem_cons_self
    | false =>
      rw [hb] at h
      exact List.mem_cons_of_mem _ (ih h)
def lput : List (Nat × Value) → Nat → Value → List (Nat × Value)
  | [], i, v => [(i, v)]
  | (a, w) :: r, i, v => bif Nat.blt i a then (i, v) :: (a, w) :: r else (a, w) :: lput r i v
theorem lput_mem {L : List (Nat × Value)} {i : Nat} {v : Value} : ∀ q ∈ lput L i v, q = (i, v) ∨ q ∈ L := by
  induction L with
  | nil =>
    intro q hq
    exact Or.inl (List.mem_singleton.mp hq)
  | cons z r ih =>
    obtain ⟨a, w⟩ := z
    intro q hq
    simp only [lput] at hq
    cases hb : Nat.blt i a with
    | true =>
      rw [hb] at hq
      exact List.mem_cons.mp hq
    | false =>
      rw [hb] at hq
      rcases List.mem_cons.mp hq with e | e
      · exact Or.inr (by rw [e]; exact List.mem_cons_self)
      · rcases ih q e with h | h
        · exact Or.inl h
        · exact Or.inr (List.mem_cons_of_mem _ h)
def lset (L : List (Nat × Value)) (i : Nat) (v : Value) : List (Nat × Value) := lput (L.filter (fun q => !(q.1 == i) && !(q.1 + 1 == i && q.2.category == 2))) i v
def lset2 (L : List (Nat × Value)) (i : Nat) (v : Value) : List (Nat × Value) := lput (L.filter (fun q => !(q.1 == i) && (!(q.1 == i + 1) && !(q.1 + 1 == i && q.2.category == 2)))) i v
theorem lset_has {ls : Array Slot} {nL i : Nat} {L L' : List (Nat × Value)} {v : Value} (h : lv_has ls nL ((i, v) :: L.filter (fun q => !(q.1 == i) && !(q.1 + 1 == i && q.2.category == 2)))) (e : lset L i v = L') : lv_has ls nL L' := by
  subst e
  refine ⟨h.1, h.2.1, fun q hq => h.2.2 q ?_⟩
  rcases lput_mem q hq with h1 | h1
  · rw [h1]; exact List.mem_cons_self
  · exact List.mem_cons_of_mem _ h1
theorem lset2_has {ls : Array Slot} {nL i : Nat} {L L' : List (Nat × Value)} {v : Value} (h : lv_has ls nL ((i, v) :: L.filter (fun q => !(q.1 == i) && (!(q.1 == i + 1) && !(q.1 + 1 == i && q.2.category == 2))))) (e : lset2 L i v = L') : lv_has ls nL L' := by
  subst e
  refine ⟨h.1, h.2.1, fun q hq => h.2.2 q ?_⟩
  rcases lput_mem q hq with h1 | h1
  · rw [h1]; exact List.mem_cons_self
  · exact List.mem_cons_of_mem _ h1
