def QfI (below : List Frame) (args : Array Value) (s : State) (g : Gh) (x : Int32 × Mem) : State → Prop := MQ below (QI g x) args s 0 0 (Aw g)
def QfL (below : List Frame) (args : Array Value) (s : State) (g : Gh) (x : Int64 × Mem) : State → Prop := MQ below (QL g x) args s 0 0 (Aw g)
def QfV (below : List Frame) (args : Array Value) (s : State) (g : Gh) (x : Mem) : State → Prop := MQ below (QV g x) args s 0 0 (Aw g)
def QfR (below : List Frame) (args : Array Value) (s : State) (g : Gh) (x : Nat × Mem) : State → Prop := MQ below (QR g x) args s 0 0 (Aw g)
def swc {α : Type} (x : Int32) : List (Int32 × Option α) → Option α → Option α
  | [], od => od
  | (k, o) :: r, od => if x = k then o else swc x r od
def swk (pc : Nat) (lo hi : Int) (offs : Array Int) : List Int32 → List Nat → Bool
  | [], [] => true
  | k :: ks, t :: ts => decide (¬ k.toInt < lo) && decide (¬ hi < k.toInt) && (match offs[(k.toInt - lo).toNat]? with | some off => decide ((pc : Int) + off = (t : Int)) | none => false) && swk pc lo hi offs ks ts
  | _, _ => false
def swf (lo hi : Int) (ks : List Int32) : Bool := (List.range (hi - lo + 1).toNat).all fun i => ks.any fun k => k.toInt == lo + i
theorem isB_or {x : Int32} (h : isB x = true) : x = 0 ∨ x = 1 := by
  simp only [isB, Bool.or_eq_true, beq_iff_eq] at h
  exact h
theorem isB_n {x : Int32} (h : isB x = true) : narrow .boolean (.int x) = .int x := by
  rcases isB_or h with rfl | rfl <;> rfl
theorem isB_f {x : Int32} (h : isB x = true) : fits .boolean (.int x) = true := by
  rcases isB_or h with rfl | rfl <;> rfl
/-- a link to a method: the words that a call of it needs -/
def WlV (own : String) (idx : Nat) (C : String) (y : MethodName) (bytes : ByteArray) (mL : Nat) (rt : Option FieldType) (n : Nat) : Prop := Cond.methodLink own idx y ∈ BG ∧ Cond.instanceMethod y ∈ BG ∧ Cond.selects C y y ∈ BG ∧ Cond.initialized y.cls ∈ BG ∧ Cond.code y bytes mL rt ∈ BG ∧ (y.cls ≠ "java/lang/invoke/MethodHandle" ∧ y.cls ≠ "java/lang/invoke/VarHandle" ∧ (parseMethodDescriptor y.desc).map (fun d => d.parameters.length) = some n) ∧ mL ≤ 40
def WlS (own : String) (idx : Nat) (y : MethodName) (bytes : ByteArray) (mL : Nat) (rt : Option FieldType) (n : Nat) : Prop := Cond.methodLink own idx y ∈ BG ∧ Cond.static y ∈ BG ∧ Cond.initialized y.cls ∈ BG ∧ Cond.code y bytes mL rt ∈ BG ∧ (y.cls ≠ "java/lang/invoke/MethodHandle" ∧ y.cls ≠ "java/lang/invoke/VarHandle" ∧ (parseMethodDescriptor y.desc).map (fun d => d.parameters.length) = some n) ∧ mL ≤ 40
def WlN (own : String) (idx : Nat) (y : MethodName) (bytes : ByteArray) (mL : Nat) (rt : Option FieldType) (n : Nat) : Prop := (own, idx, y) ∈ nms ∧ Cond.static y ∈ BG ∧ Cond.initialized y.cls ∈ BG ∧ Cond.code y bytes mL rt ∈ BG ∧ (y.cls ≠ "java/lang/invoke/MethodHandle" ∧ y.cls ≠ "java/lang/invoke/VarHandle" ∧ (parseMethodDescriptor y.desc).map (fun d => d.parameters.length) = some n) ∧ mL ≤ 40
theorem Met_ofWF {l : Launch} {y : MethodName} {ws ws' : List Cond} {rm : Room} {Pc : Array Value → State → Prop} {Qc : Array Value → State → Outcome → State → Prop} {mc ms : Nat} {free : Addr → Prop} {cc : ByteArray} {maxL : Nat} {ret : Option FieldType}
    (hy : plainFor y = true) (hw : ws = Cond.code y cc maxL ret :: ws')
    (body : ∀ p e s m args below meth c s₁, BodyLoose p l y (headSpec ws rm) cc maxL ret e s m args below meth c s₁ → c.maxLocals = maxL → Pc args s →
      W p l e (headSpec ws rm).room s m args below meth c s.heap [] 0 0 (MQ below Qc args s mc ms free) (entryFrame m args maxL)) : Met l y ws rm Pc Qc mc ms free := by
  refine MetFree.of_bodySF (code := cc) (maxLocals := maxL) (ret := ret) hy ?_ ?_
  · intro args s m h hn
    obtain ⟨meth, c, h1, h2, h3, h4, h5, h6, -, -⟩ := Cond.code_spec hn (atoms_spec (ws := ws) h _ (by rw [hw]; exact List.mem_cons_self))
    exact ⟨meth, c, h1, h2, h3, h4, h5, h6⟩
  · intro p e s m args below meth c s₁ B hml hP _
    have hh0 : s₁.heap = s.heap := by rw [B.state]; rfl
    obtain ⟨t, a1, o, b1, b2, b3⟩ := body p e s m args below meth c s₁ B hml hP s₁ hh0 (Stand.of_body B)
    exact ⟨t, o, a1, b1, b2, ⟨b3.1, b3.2⟩⟩
section JC
variable {p : Program} {l : Launch} {e : Env} {R : Room} {s : State} {m : MethodId} {args : Array Value} {below : List Frame} {meth : Method} {c : Code} {g : Gh} {nL : Nat} {cw : Nat × Nat} {α : Type} {Qf : α → State → Prop} {o o1 o2 : Option α} {M : Mem} {pc : Nat} {L Lq : List (Nat × Value)} {st rest : List Value} {cc : ByteArray} {own : String} {d : Nat}
theorem wo_end (X : Cx p l e R s m args below meth c g cc nL cw own d) {H : Heap} {locs : List Loc} {t : State} (hP : va_P (gD g) vwCl (wd g M) H) (hS : va_S (Aw g) s.heap H locs) (ht : t.heap = H) (hW : s.WarmedH t.vm) : Wo g M t :=
  ⟨by rw [ht]; exact hP, va_K.moved hW.alike X.2.2.2.2.2.1, X.2.2.2.2.2.2.1, by rw [ht]; exact (X.2.2.2.2.2.2.2.1.kept hS.2.1).warm hW⟩
theorem j_iret {x : Int32} (X : Cx p l e R s m args below meth c g cc nL (0, 0) own d) (hr : meth.sig.returnType = some .int) (hd : decode cc pc = .ok (.ireturn, 1)) : J p l e R s m args below meth c g nL (0, 0) (QfI below args s g) (some (x, M)) M pc L [.int x] := by
  intro v hv H locs ls hP hS hl
  cases hv
  exact W.iret (v := x) X.1 X.2.1 hr (fun t ht hW => ⟨⟨x, M, rfl, ⟨rfl, rfl⟩, wo_end X hP hS ht hW⟩, hS.F ht⟩) hS.2.2 hd X.2.2.2.2.2.2.2.2.2.2.1
theorem j_zret {x : Int32} (X : Cx p l e R s m args below meth c g cc nL (0, 0) own d) (hr : meth.sig.returnType = some .boolean) (hd : decode cc pc = .ok (.ireturn, 1)) : J p l e R s m args below meth c g nL (0, 0) (QfI below args s g) (gd (isB x) (some (x, M))) M pc L [.int x] := by
  intro v hv H locs ls hP hS hl
  obtain ⟨h1, h2⟩ := gd_some hv
  cases h2
  exact W.zret (v := x) (ty := .boolean) X.1 X.2.1 hr (isB_n h1) (fun t ht hW => ⟨⟨x, M, rfl, ⟨rfl, rfl⟩, wo_end X hP hS ht hW⟩, hS.F ht⟩) hS.2.2 hd X.2.2.2.2.2.2.2.2.2.2.1
theorem j_tret {x : Int32} {ty : FieldType} (X : Cx p l e R s m args below meth c g cc nL (0, 0) own d) (hr : meth.sig.returnType = some ty) (hn : narrow ty (.int x) = .int x) (hd : decode cc pc = .ok (.ireturn, 1)) : J p l e R s m args below meth c g nL (0, 0) (QfI below args s g) (some (x, M)) M pc L [.int x] := by
  intro v hv H locs ls hP hS hl
  cases hv
  exact W.zret (v := x) (ty := ty) X.1 X.2.1 hr hn (fun t ht hW => ⟨⟨x, M, rfl, ⟨rfl, rfl⟩, wo_end X hP hS ht hW⟩, hS.F ht⟩) hS.2.2 hd X.2.2.2.2.2.2.2.2.2.2.1
theorem j_lret {x : Int64} (X : Cx p l e R s m args below meth c g cc nL (0, 0) own d) (hr : meth.sig.returnType = some .long) (hd : decode cc pc = .ok (.lreturn, 1)) : J p l e R s m args below meth c g nL (0, 0) (QfL below args s g) (some (x, M)) M pc L [.long x] := by
  intro v hv H locs ls hP hS hl
  cases hv
  exact W.lret (v := x) X.1 X.2.1 hr (fun t ht hW => ⟨⟨x, M, rfl, ⟨rfl, rfl⟩, wo_end X hP hS ht hW⟩, hS.F ht⟩) hS.2.2 hd X.2.2.2.2.2.2.2.2.2.2.1
theorem j_vret (X : Cx p l e R s m args below meth c g cc nL (0, 0) own d) (hr : meth.sig.returnType = none) (hd : decode cc pc = .ok (.return_, 1)) : J p l e R s m args below meth c g nL (0, 0) (QfV below args s g) (some M) M pc L [] := by
  intro v hv H locs ls hP hS hl
  cases hv
  exact W.vret X.1 X.2.1 hr (fun t ht hW => ⟨⟨M, rfl, rfl, wo_end X hP hS ht hW⟩, hS.F ht⟩) hS.2.2 hd X.2.2.2.2.2.2.2.2.2.2.1
theorem j_aret {i : Nat} {n : String} (X : Cx p l e R s m args below meth c g cc nL (0, 0) own d) (hr : meth.sig.returnType = some (.object n)) (hd : decode cc pc = .ok (.areturn, 1)) : J p l e R s m args below meth c g nL (0, 0) (QfR below args s g) (some (i, M)) M pc L [.ref (gS g i)] := by
  intro v hv H locs ls hP hS hl
  cases hv
  exact W.aret (v := .ref (gS g i)) X.1 X.2.1 hr (Or.inl ⟨n, rfl⟩) (Or.inr ⟨_, rfl⟩) (fun t ht hW => ⟨⟨M, gS g i, rfl, rfl, rfl, wo_end X hP hS ht hW⟩, hS.F ht⟩) hS.2.2 hd X.2.2.2.2.2.2.2.2.2.2.1
theorem ctI_of {y : MethodName} {mL : Nat} {rt : Option FieldType} {av : List Value} {o : Option (Int32 × Mem)} (hy : plainFor y = true) (ho : y.cls = own) (hlen : (lg_sl av).length ≤ mL) (hL : lv_args 0 av = L) (body : ∀ (p : Program) (e : Env) (s : State) (m : MethodId) (args : Array Value) (below : List Frame) (meth : Method) (c : Code), Cx p l e (rmD d) s m args below meth c g cc mL (0, 0) own d → meth.sig.returnType = rt → J p l e (rmD d) s m args below meth c g mL (0, 0) (QfI below args s g) o M 0 L []) : CtI l g y cc mL rt d av M o := by
  intro x hx
  refine Met_ofWF (cc := cc) (maxL := mL) (ret := rt) hy rfl ?_
  intro p e s m args below meth c s₁ B hml hv
  obtain ⟨rfl, hP, hK, hI, hF⟩ := hv
  have hts := atoms_spec (ws := wsM y cc mL rt) B.pre
  have hown : s.vm.findClass own = some m.cls := by rw [← ho]; exact findClass_of_methodNamed B.named
  have hl := lv_entry av (n := mL) hlen
  rw [lg_entry_eq]
  rw [hL] at hl
  exact body p e s m av.toArray below meth c ⟨B.exec, B.bytes, hml, hown, fun w hw => hts w (List.mem_cons_of_mem _ hw), hK, hI, hF, Nat.le_refl _, Nat.le_refl _, B.notSynchronized, Nat.le_refl _, Nat.le_refl _⟩ B.returns x hx s.heap [] _ hP va_S.rf hl
theorem ctL_of {y : MethodName} {mL : Nat} {rt : Option FieldType} {av : List Value} {o : Option (Int64 × Mem)} (hy : plainFor y = true) (ho : y.cls = own) (hlen : (lg_sl av).length ≤ mL) (hL : lv_args 0 av = L) (body : ∀ (p : Program) (e : Env) (s : State) (m : MethodId) (args : Array Value) (below : List Frame) (meth : Method) (c : Code), Cx p l e (rmD d) s m args below meth c g cc mL (0, 0) own d → meth.sig.returnType = rt → J p l e (rmD d) s m args below meth c g mL (0, 0) (QfL below args s g) o M 0 L []) : CtL l g y cc mL rt d av M o := by
  intro x hx
  refine Met_ofWF (cc := cc) (maxL := mL) (ret := rt) hy rfl ?_
  intro p e s m args below meth c s₁ B hml hv
  obtain ⟨rfl, hP, hK, hI, hF⟩ := hv
  have hts := atoms_spec (ws := wsM y cc mL rt) B.pre
  have hown : s.vm.findClass own = some m.cls := by rw [← ho]; exact findClass_of_methodNamed B.named
  have hl := lv_entry av (n := mL) hlen
  rw [lg_entry_eq]
  rw [hL] at hl
  exact body p e s m av.toArray below meth c ⟨B.exec, B.bytes, hml, hown, fun w hw => hts w (List.mem_cons_of_mem _ hw), hK, hI, hF, Nat.le_refl _, Nat.le_refl _, B.notSynchronized, Nat.le_refl _, Nat.le_refl _⟩ B.returns x hx s.heap [] _ hP va_S.rf hl
theorem ctV_of {y : MethodName} {mL : Nat} {rt : Option FieldType} {av : List Value} {o : Option (Mem)} (hy : plainFor y = true) (ho : y.cls = own) (hlen : (lg_sl av).length ≤ mL) (hL : lv_args 0 av = L) (body : ∀ (p : Program) (e : Env) (s : State) (m : MethodId) (args : Array Value) (below : List Frame) (meth : Method) (c : Code), Cx p l e (rmD d) s m args below meth c g cc mL (0, 0) own d → meth.sig.returnType = rt → J p l e (rmD d) s m args below meth c g mL (0, 0) (QfV below args s g) o M 0 L []) : CtV l g y cc mL rt d av M o := by
  intro x hx
  refine Met_ofWF (cc := cc) (maxL := mL) (ret := rt) hy rfl ?_
  intro p e s m args below meth c s₁ B hml hv
  obtain ⟨rfl, hP, hK, hI, hF⟩ := hv
  have hts := atoms_spec (ws := wsM y cc mL rt) B.pre
  have hown : s.vm.findClass own = some m.cls := by rw [← ho]; exact findClass_of_methodNamed B.named
  have hl := lv_entry av (n := mL) hlen
  rw [lg_entry_eq]
  rw [hL] at hl
  exact body p e s m av.toArray below meth c ⟨B.exec, B.bytes, hml, hown, fun w hw => hts w (List.mem_cons_of_mem _ hw), hK, hI, hF, Nat.le_refl _, Nat.le_refl _, B.notSynchronized, Nat.le_refl _, Nat.le_refl _⟩ B.returns x hx s.heap [] _ hP va_S.rf hl
theorem ctR_of {y : MethodName} {mL : Nat} {rt : Option FieldType} {av : List Value} {o : Option (Nat × Mem)} (hy : plainFor y = true) (ho : y.cls = own) (hlen : (lg_sl av).length ≤ mL) (hL : lv_args 0 av = L) (body : ∀ (p : Program) (e : Env) (s : State) (m : MethodId) (args : Array Value) (below : List Frame) (meth : Method) (c : Code), Cx p l e (rmD d) s m args below meth c g cc mL (0, 0) own d → meth.sig.returnType = rt → J p l e (rmD d) s m args below meth c g mL (0, 0) (QfR below args s g) o M 0 L []) : CtR l g y cc mL rt d av M o := by
  intro x hx
  refine Met_ofWF (cc := cc) (maxL := mL) (ret := rt) hy rfl ?_
  intro p e s m args below meth c s₁ B hml hv
  obtain ⟨rfl, hP, hK, hI, hF⟩ := hv
  have hts := atoms_spec (ws := wsM y cc mL rt) B.pre
  have hown : s.vm.findClass own = some m.cls := by rw [← ho]; exact findClass_of_methodNamed B.named
  have hl := lv_entry av (n := mL) hlen
  rw [lg_entry_eq]
  rw [hL] at hl
  exact body p e s m av.toArray below meth c ⟨B.exec, B.bytes, hml, hown, fun w hw => hts w (List.mem_cons_of_mem _ hw), hK, hI, hF, Nat.le_refl _, Nat.le_refl _, B.notSynchronized, Nat.le_refl _, Nat.le_refl _⟩ B.returns x hx s.heap [] _ hP va_S.rf hl
theorem j_cVI {y : MethodName} {bytes : ByteArray} {mL n idx d2 : Nat} {rt : Option FieldType} {As : List Value} {ob : Option (Int32 × Mem)} {f : Int32 × Mem → Option α} {C : String} {T : u_T} {N ci k : Nat} {fs : List Value} (hk : k < 66) (hc : cf g k (M k) = .inr (ci, fs)) (hcl : vwCl[ci]? = some (C, T, N)) (X : Cx p l e R s m args below meth c g cc nL cw own d) (hC : CtI l g y bytes mL rt d2 (.ref (gA g k) :: As) M ob) (hw : WlV own idx C y bytes mL rt n) (hst : st = As.reverse ++ .ref (gA g k) :: rest) (hn : As.length = n) (hdd : d2 + 1 ≤ d) (hrest : (rest.map fun v => v.category).sum ≤ 8) (hd : decode cc pc = .ok (.invokevirtual idx, 3)) (kk : ∀ q : Int32 × Mem, J p l e R s m args below meth c g nL cw Qf (f q) q.2 (pc + 3) L (.int q.1 :: rest)) : J p l e R s m args below meth c g nL cw Qf (ob.bind f) M pc L st := by
  intro x hx H locs ls hP hS hl
  obtain ⟨x1, h1, h2⟩ := Option.bind_eq_some_iff.mp hx
  subst hst
  have hR1 : (rmD d2).frames + 1 ≤ R.frames := Nat.le_trans hdd X.2.2.2.2.2.2.2.2.1
  have hR2 : 8 + (mL + 11) + (rmD d2).locals ≤ R.locals := by
    have h3 := X.2.2.2.2.2.2.2.2.2.1
    have h4 := hw.2.2.2.2.2.2
    show 8 + (mL + 11) + 64 * d2 ≤ R.locals
    omega
  refine va_calli (va_runV (As := As) (rest := rest) ⟨X.1, X.2.1, X.2.2.1, X.2.2.2.1, X.2.2.2.2.1⟩ (hC x1 h1) ⟨callB_of n X.2.2.2.2.1 (good_BG hw.2.2.2.2.1) rfl rfl rfl (X.2.2.2.2.1 _ hw.2.2.2.1) (X.2.2.2.2.1 _ hw.1) hw.2.2.2.2.2.1 ⟨hR1, hR2⟩, X.2.2.2.2.1 _ hw.2.1, X.2.2.2.2.1 _ hw.2.2.1⟩ ⟨wo_blind, va_recv (ci := ci) (q0 := k) X.2.2.2.2.2.1 hP hcl ((wd_get hk).trans (by rw [hc])), fun U hU hW => ⟨rfl, wo_end X hP hS hU hW⟩⟩ rfl hn hl.1 rfl (lv_room hrest) hd ⟨X.2.2.2.2.2.2.2.2.2.2.2.1, X.2.2.2.2.2.2.2.2.2.2.2.2⟩) hS (fun q _ h => h) (fun q h => h) ?_
  intro r u t H1 locs1 ht hvm hw hB hz hk hS1
  obtain ⟨rfl, rfl⟩ := hw
  have hP1 := hB.1
  rw [ht] at hP1
  exact kk x1 x h2 H1 locs1 ls hP1 hS1 hl
theorem j_cTI {y : MethodName} {bytes : ByteArray} {mL n idx d2 : Nat} {rt : Option FieldType} {As : List Value} {ob : Option (Int32 × Mem)} {f : Int32 × Mem → Option α} {k : Nat} (hk : k < 12) (X : Cx p l e R s m args below meth c g cc nL cw own d) (hC : CtI l g y bytes mL rt d2 (.ref (gS g k) :: As) M ob) (hw : WlV own idx "java/lang/String" y bytes mL rt n) (hst : st = As.reverse ++ .ref (gS g k) :: rest) (hn : As.length = n) (hdd : d2 + 1 ≤ d) (hrest : (rest.map fun v => v.category).sum ≤ 8) (hd : decode cc pc = .ok (.invokevirtual idx, 3)) (kk : ∀ q : Int32 × Mem, J p l e R s m args below meth c g nL cw Qf (f q) q.2 (pc + 3) L (.int q.1 :: rest)) : J p l e R s m args below meth c g nL cw Qf (ob.bind f) M pc L st := by
  intro x hx H locs ls hP hS hl
  obtain ⟨x1, h1, h2⟩ := Option.bind_eq_some_iff.mp hx
  subst hst
  have hR1 : (rmD d2).frames + 1 ≤ R.frames := Nat.le_trans hdd X.2.2.2.2.2.2.2.2.1
  have hR2 : 8 + (mL + 11) + (rmD d2).locals ≤ R.locals := by
    have h3 := X.2.2.2.2.2.2.2.2.2.1
    have h4 := hw.2.2.2.2.2.2
    show 8 + (mL + 11) + 64 * d2 ≤ R.locals
    omega
  refine va_calli (va_runV (As := As) (rest := rest) ⟨X.1, X.2.1, X.2.2.1, X.2.2.2.1, X.2.2.2.2.1⟩ (hC x1 h1) ⟨callB_of n X.2.2.2.2.1 (good_BG hw.2.2.2.2.1) rfl rfl rfl (X.2.2.2.2.1 _ hw.2.2.2.1) (X.2.2.2.2.1 _ hw.1) hw.2.2.2.2.2.1 ⟨hR1, hR2⟩, X.2.2.2.2.1 _ hw.2.1, X.2.2.2.2.1 _ hw.2.2.1⟩ ⟨wo_blind, vk_recv X.2.2.2.2.2.2.2.1.2.2.2.2.1 hk hS, fun U hU hW => ⟨rfl, wo_end X hP hS hU hW⟩⟩ rfl hn hl.1 rfl (lv_room hrest) hd ⟨X.2.2.2.2.2.2.2.2.2.2.2.1, X.2.2.2.2.2.2.2.2.2.2.2.2⟩) hS (fun q _ h => h) (fun q h => h) ?_
  intro r u t H1 locs1 ht hvm hw hB hz hk hS1
  obtain ⟨rfl, rfl⟩ := hw
  have hP1 := hB.1
  rw [ht] at hP1
  exact kk x1 x h2 H1 locs1 ls hP1 hS1 hl
theorem j_cSI {y : MethodName} {bytes : ByteArray} {mL n idx d2 : Nat} {rt : Option FieldType} {As : List Value} {ob : Option (Int32 × Mem)} {f : Int32 × Mem → Option α}  (X : Cx p l e R s m args below meth c g cc nL cw own d) (hC : CtI l g y bytes mL rt d2 As M ob) (hw : WlS own idx y bytes mL rt n) (hst : st = As.reverse ++ rest) (hn : As.length = n) (hdd : d2 + 1 ≤ d) (hrest : (rest.map fun v => v.category).sum ≤ 8) (hd : decode cc pc = .ok (.invokestatic idx, 3)) (kk : ∀ q : Int32 × Mem, J p l e R s m args below meth c g nL cw Qf (f q) q.2 (pc + 3) L (.int q.1 :: rest)) : J p l e R s m args below meth c g nL cw Qf (ob.bind f) M pc L st := by
  intro x hx H locs ls hP hS hl
  obtain ⟨x1, h1, h2⟩ := Option.bind_eq_some_iff.mp hx
  subst hst
  have hR1 : (rmD d2).frames + 1 ≤ R.frames := Nat.le_trans hdd X.2.2.2.2.2.2.2.2.1
  have hR2 : 8 + (mL + 11) + (rmD d2).locals ≤ R.locals := by
    have h3 := X.2.2.2.2.2.2.2.2.2.1
    have h4 := hw.2.2.2.2.2
    show 8 + (mL + 11) + 64 * d2 ≤ R.locals
    omega
  refine va_calli (va_runS (As := As) (rest := rest) ⟨X.1, X.2.1, X.2.2.1, X.2.2.2.1, X.2.2.2.2.1⟩ (hC x1 h1) ⟨callB_of n X.2.2.2.2.1 (good_BG hw.2.2.2.1) rfl rfl rfl (X.2.2.2.2.1 _ hw.2.2.1) (X.2.2.2.2.1 _ hw.1) hw.2.2.2.2.1 ⟨hR1, hR2⟩, X.2.2.2.2.1 _ hw.2.1⟩ ⟨wo_blind, fun U hU hW => ⟨rfl, wo_end X hP hS hU hW⟩⟩ rfl hn hl.1 rfl (lv_room hrest) hd ⟨X.2.2.2.2.2.2.2.2.2.2.2.1, X.2.2.2.2.2.2.2.2.2.2.2.2⟩) hS (fun q _ h => h) (fun q h => h) ?_
  intro r u t H1 locs1 ht hvm hw hB hz hk hS1
  obtain ⟨rfl, rfl⟩ := hw
  have hP1 := hB.1
  rw [ht] at hP1
  exact kk x1 x h2 H1 locs1 ls hP1 hS1 hl
theorem j_cNI {y : MethodName} {bytes : ByteArray} {mL n idx d2 : Nat} {rt : Option FieldType} {As : List Value} {ob : Option (Int32 × Mem)} {f : Int32 × Mem → Option α}  (X : Cx p l e R s m args below meth c g cc nL cw own d) (hC : CtI l g y bytes mL rt d2 As M ob) (hw : WlN own idx y bytes mL rt n) (hst : st = As.reverse ++ rest) (hn : As.length = n) (hdd : d2 + 1 ≤ d) (hrest : (rest.map fun v => v.category).sum ≤ 8) (hd : decode cc pc = .ok (.invokestatic idx, 3)) (kk : ∀ q : Int32 × Mem, J p l e R s m args below meth c g nL cw Qf (f q) q.2 (pc + 3) L (.int q.1 :: rest)) : J p l e R s m args below meth c g nL cw Qf (ob.bind f) M pc L st := by
  intro x hx H locs ls hP hS hl
  obtain ⟨x1, h1, h2⟩ := Option.bind_eq_some_iff.mp hx
  subst hst
  have hR1 : (rmD d2).frames + 1 ≤ R.frames := Nat.le_trans hdd X.2.2.2.2.2.2.2.2.1
  have hR2 : 8 + (mL + 11) + (rmD d2).locals ≤ R.locals := by
    have h3 := X.2.2.2.2.2.2.2.2.2.1
    have h4 := hw.2.2.2.2.2
    show 8 + (mL + 11) + 64 * d2 ≤ R.locals
    omega
  refine va_calli (va_runSN (As := As) (rest := rest) ⟨X.1, X.2.1, X.2.2.1, X.2.2.2.1, X.2.2.2.2.1⟩ (hC x1 h1) ⟨va_cnB n X.2.2.2.2.1 (good_BG hw.2.2.2.1) rfl rfl rfl (X.2.2.2.2.2.2.2.1.2.2.2.2.2.2.1 _ hw.1) (X.2.2.2.2.1 _ hw.2.2.1) hw.2.2.2.2.1 ⟨hR1, hR2⟩, X.2.2.2.2.1 _ hw.2.1, trivial⟩ ⟨wo_blind, fun U hU hW => ⟨rfl, wo_end X hP hS hU hW⟩⟩ rfl hn hl.1 rfl (lv_room hrest) hd ⟨X.2.2.2.2.2.2.2.2.2.2.2.1, X.2.2.2.2.2.2.2.2.2.2.2.2⟩) hS (fun q _ h => h) (fun q h => h) ?_
  intro r u t H1 locs1 ht hvm hw hB hz hk hS1
  obtain ⟨rfl, rfl⟩ := hw
  have hP1 := hB.1
  rw [ht] at hP1
  exact kk x1 x h2 H1 locs1 ls hP1 hS1 hl
theorem j_cVL {y : MethodName} {bytes : ByteArray} {mL n idx d2 : Nat} {rt : Option FieldType} {As : List Value} {ob : Option (Int64 × Mem)} {f : Int64 × Mem → Option α} {C : String} {T : u_T} {N ci k : Nat} {fs : List Value} (hk : k < 66) (hc : cf g k (M k) = .inr (ci, fs)) (hcl : vwCl[ci]? = some (C, T, N)) (X : Cx p l e R s m args below meth c g cc nL cw own d) (hC : CtL l g y bytes mL rt d2 (.ref (gA g k) :: As) M ob) (hw : WlV own idx C y bytes mL rt n) (hst : st = As.reverse ++ .ref (gA g k) :: rest) (hn : As.length = n) (hdd : d2 + 1 ≤ d) (hrest : (rest.map fun v => v.category).sum ≤ 8) (hd : decode cc pc = .ok (.invokevirtual idx, 3)) (kk : ∀ q : Int64 × Mem, J p l e R s m args below meth c g nL cw Qf (f q) q.2 (pc + 3) L (.long q.1 :: rest)) : J p l e R s m args below meth c g nL cw Qf (ob.bind f) M pc L st := by
  intro x hx H locs ls hP hS hl
  obtain ⟨x1, h1, h2⟩ := Option.bind_eq_some_iff.mp hx
  subst hst
  have hR1 : (rmD d2).frames + 1 ≤ R.frames := Nat.le_trans hdd X.2.2.2.2.2.2.2.2.1
  have hR2 : 8 + (mL + 11) + (rmD d2).locals ≤ R.locals := by
    have h3 := X.2.2.2.2.2.2.2.2.2.1
    have h4 := hw.2.2.2.2.2.2
    show 8 + (mL + 11) + 64 * d2 ≤ R.locals
    omega
  refine va_calll (va_runV (As := As) (rest := rest) ⟨X.1, X.2.1, X.2.2.1, X.2.2.2.1, X.2.2.2.2.1⟩ (hC x1 h1) ⟨callB_of n X.2.2.2.2.1 (good_BG hw.2.2.2.2.1) rfl rfl rfl (X.2.2.2.2.1 _ hw.2.2.2.1) (X.2.2.2.2.1 _ hw.1) hw.2.2.2.2.2.1 ⟨hR1, hR2⟩, X.2.2.2.2.1 _ hw.2.1, X.2.2.2.2.1 _ hw.2.2.1⟩ ⟨wo_blind, va_recv (ci := ci) (q0 := k) X.2.2.2.2.2.1 hP hcl ((wd_get hk).trans (by rw [hc])), fun U hU hW => ⟨rfl, wo_end X hP hS hU hW⟩⟩ rfl hn hl.1 rfl (lv_room hrest) hd ⟨X.2.2.2.2.2.2.2.2.2.2.2.1, X.2.2.2.2.2.2.2.2.2.2.2.2⟩) hS (fun q _ h => h) (fun q h => h) ?_
  intro r u t H1 locs1 ht hvm hw hB hz hk hS1
  obtain ⟨rfl, rfl⟩ := hw
  have hP1 := hB.1
  rw [ht] at hP1
  exact kk x1 x h2 H1 locs1 ls hP1 hS1 hl
theorem j_cSL {y : MethodName} {bytes : ByteArray} {mL n idx d2 : Nat} {rt : Option FieldType} {As : List Value} {ob : Option (Int64 × Mem)} {f : Int64 × Mem → Option α}  (X : Cx p l e R s m args below meth c g cc nL cw own d) (hC : CtL l g y bytes mL rt d2 As M ob) (hw : WlS own idx y bytes mL rt n) (hst : st = As.reverse ++ rest) (hn : As.length = n) (hdd : d2 + 1 ≤ d) (hrest : (rest.map fun v => v.category).sum ≤ 8) (hd : decode cc pc = .ok (.invokestatic idx, 3)) (kk : ∀ q : Int64 × Mem, J p l e R s m args below meth c g nL cw Qf (f q) q.2 (pc + 3) L (.long q.1 :: rest)) : J p l e R s m args below meth c g nL cw Qf (ob.bind f) M pc L st := by
  intro x hx H locs ls hP hS hl
  obtain ⟨x1, h1, h2⟩ := Option.bind_eq_some_iff.mp hx
  subst hst
  have hR1 : (rmD d2).frames + 1 ≤ R.frames := Nat.le_trans hdd X.2.2.2.2.2.2.2.2.1
  have hR2 : 8 + (mL + 11) + (rmD d2).locals ≤ R.locals := by
    have h3 := X.2.2.2.2.2.2.2.2.2.1
    have h4 := hw.2.2.2.2.2
    show 8 + (mL + 11) + 64 * d2 ≤ R.locals
    omega
  refine va_calll (va_runS (As := As) (rest := rest) ⟨X.1, X.2.1, X.2.2.1, X.2.2.2.1, X.2.2.2.2.1⟩ (hC x1 h1) ⟨callB_of n X.2.2.2.2.1 (good_BG hw.2.2.2.1) rfl rfl rfl (X.2.2.2.2.1 _ hw.2.2.1) (X.2.2.2.2.1 _ hw.1) hw.2.2.2.2.1 ⟨hR1, hR2⟩, X.2.2.2.2.1 _ hw.2.1⟩ ⟨wo_blind, fun U hU hW => ⟨rfl, wo_end X hP hS hU hW⟩⟩ rfl hn hl.1 rfl (lv_room hrest) hd ⟨X.2.2.2.2.2.2.2.2.2.2.2.1, X.2.2.2.2.2.2.2.2.2.2.2.2⟩) hS (fun q _ h => h) (fun q h => h) ?_
  intro r u t H1 locs1 ht hvm hw hB hz hk hS1
  obtain ⟨rfl, rfl⟩ := hw
  have hP1 := hB.1
  rw [ht] at hP1
  exact kk x1 x h2 H1 locs1 ls hP1 hS1 hl
theorem j_cVV {y : MethodName} {bytes : ByteArray} {mL n idx d2 : Nat} {rt : Option FieldType} {As : List Value} {ob : Option (Mem)} {f : Mem → Option α} {C : String} {T : u_T} {N ci k : Nat} {fs : List Value} (hk : k < 66) (hc : cf g k (M k) = .inr (ci, fs)) (hcl : vwCl[ci]? = some (C, T, N)) (X : Cx p l e R s m args below meth c g cc nL cw own d) (hC : CtV l g y bytes mL rt d2 (.ref (gA g k) :: As) M ob) (hw : WlV own idx C y bytes mL rt n) (hst : st = As.reverse ++ .ref (gA g k) :: rest) (hn : As.length = n) (hdd : d2 + 1 ≤ d) (hrest : (rest.map fun v => v.category).sum ≤ 8) (hd : decode cc pc = .ok (.invokevirtual idx, 3)) (kk : ∀ q : Mem, J p l e R s m args below meth c g nL cw Qf (f q) q (pc + 3) L rest) : J p l e R s m args below meth c g nL cw Qf (ob.bind f) M pc L st := by
  intro x hx H locs ls hP hS hl
  obtain ⟨x1, h1, h2⟩ := Option.bind_eq_some_iff.mp hx
  subst hst
  have hR1 : (rmD d2).frames + 1 ≤ R.frames := Nat.le_trans hdd X.2.2.2.2.2.2.2.2.1
  have hR2 : 8 + (mL + 11) + (rmD d2).locals ≤ R.locals := by
    have h3 := X.2.2.2.2.2.2.2.2.2.1
    have h4 := hw.2.2.2.2.2.2
    show 8 + (mL + 11) + 64 * d2 ≤ R.locals
    omega
  refine va_callv (va_runV (As := As) (rest := rest) ⟨X.1, X.2.1, X.2.2.1, X.2.2.2.1, X.2.2.2.2.1⟩ (hC x1 h1) ⟨callB_of n X.2.2.2.2.1 (good_BG hw.2.2.2.2.1) rfl rfl rfl (X.2.2.2.2.1 _ hw.2.2.2.1) (X.2.2.2.2.1 _ hw.1) hw.2.2.2.2.2.1 ⟨hR1, hR2⟩, X.2.2.2.2.1 _ hw.2.1, X.2.2.2.2.1 _ hw.2.2.1⟩ ⟨wo_blind, va_recv (ci := ci) (q0 := k) X.2.2.2.2.2.1 hP hcl ((wd_get hk).trans (by rw [hc])), fun U hU hW => ⟨rfl, wo_end X hP hS hU hW⟩⟩ rfl hn hl.1 rfl (lv_room hrest) hd ⟨X.2.2.2.2.2.2.2.2.2.2.2.1, X.2.2.2.2.2.2.2.2.2.2.2.2⟩) hS (fun q _ h => h) (fun q h => h) ?_
  intro u t H1 locs1 ht hvm hw hB hz hk hS1
  rw [hw] at hB
  have hP1 := hB.1
  rw [ht] at hP1
  exact kk x1 x h2 H1 locs1 ls hP1 hS1 hl
theorem j_cSV {y : MethodName} {bytes : ByteArray} {mL n idx d2 : Nat} {rt : Option FieldType} {As : List Value} {ob : Option (Mem)} {f : Mem → Option α}  (X : Cx p l e R s m args below meth c g cc nL cw own d) (hC : CtV l g y bytes mL rt d2 As M ob) (hw : WlS own idx y bytes mL rt n) (hst : st = As.reverse ++ rest) (hn : As.length = n) (hdd : d2 + 1 ≤ d) (hrest : (rest.map fun v => v.category).sum ≤ 8) (hd : decode cc pc = .ok (.invokestatic idx, 3)) (kk : ∀ q : Mem, J p l e R s m args below meth c g nL cw Qf (f q) q (pc + 3) L rest) : J p l e R s m args below meth c g nL cw Qf (ob.bind f) M pc L st := by
  intro x hx H locs ls hP hS hl
  obtain ⟨x1, h1, h2⟩ := Option.bind_eq_some_iff.mp hx
  subst hst
  have hR1 : (rmD d2).frames + 1 ≤ R.frames := Nat.le_trans hdd X.2.2.2.2.2.2.2.2.1
  have hR2 : 8 + (mL + 11) + (rmD d2).locals ≤ R.locals := by
    have h3 := X.2.2.2.2.2.2.2.2.2.1
    have h4 := hw.2.2.2.2.2
    show 8 + (mL + 11) + 64 * d2 ≤ R.locals
    omega
  refine va_callv (va_runS (As := As) (rest := rest) ⟨X.1, X.2.1, X.2.2.1, X.2.2.2.1, X.2.2.2.2.1⟩ (hC x1 h1) ⟨callB_of n X.2.2.2.2.1 (good_BG hw.2.2.2.1) rfl rfl rfl (X.2.2.2.2.1 _ hw.2.2.1) (X.2.2.2.2.1 _ hw.1) hw.2.2.2.2.1 ⟨hR1, hR2⟩, X.2.2.2.2.1 _ hw.2.1⟩ ⟨wo_blind, fun U hU hW => ⟨rfl, wo_end X hP hS hU hW⟩⟩ rfl hn hl.1 rfl (lv_room hrest) hd ⟨X.2.2.2.2.2.2.2.2.2.2.2.1, X.2.2.2.2.2.2.2.2.2.2.2.2⟩) hS (fun q _ h => h) (fun q h => h) ?_
  intro u t H1 locs1 ht hvm hw hB hz hk hS1
  rw [hw] at hB
  have hP1 := hB.1
  rw [ht] at hP1
  exact kk x1 x h2 H1 locs1 ls hP1 hS1 hl
theorem j_cVR {y : MethodName} {bytes : ByteArray} {mL n idx d2 : Nat} {rt : Option FieldType} {As : List Value} {ob : Option (Nat × Mem)} {f : Nat × Mem → Option α} {C : String} {T : u_T} {N ci k : Nat} {fs : List Value} (hk : k < 66) (hc : cf g k (M k) = .inr (ci, fs)) (hcl : vwCl[ci]? = some (C, T, N)) (X : Cx p l e R s m args below meth c g cc nL cw own d) (hC : CtR l g y bytes mL rt d2 (.ref (gA g k) :: As) M ob) (hw : WlV own idx C y bytes mL rt n) (hst : st = As.reverse ++ .ref (gA g k) :: rest) (hn : As.length = n) (hdd : d2 + 1 ≤ d) (hrest : (rest.map fun v => v.category).sum ≤ 8) (hd : decode cc pc = .ok (.invokevirtual idx, 3)) (kk : ∀ q : Nat × Mem, J p l e R s m args below meth c g nL cw Qf (f q) q.2 (pc + 3) L (.ref (gS g q.1) :: rest)) : J p l e R s m args below meth c g nL cw Qf (ob.bind f) M pc L st := by
  intro x hx H locs ls hP hS hl
  obtain ⟨x1, h1, h2⟩ := Option.bind_eq_some_iff.mp hx
  subst hst
  have hR1 : (rmD d2).frames + 1 ≤ R.frames := Nat.le_trans hdd X.2.2.2.2.2.2.2.2.1
  have hR2 : 8 + (mL + 11) + (rmD d2).locals ≤ R.locals := by
    have h3 := X.2.2.2.2.2.2.2.2.2.1
    have h4 := hw.2.2.2.2.2.2
    show 8 + (mL + 11) + 64 * d2 ≤ R.locals
    omega
  refine va_callr (va_runV (As := As) (rest := rest) ⟨X.1, X.2.1, X.2.2.1, X.2.2.2.1, X.2.2.2.2.1⟩ (hC x1 h1) ⟨callB_of n X.2.2.2.2.1 (good_BG hw.2.2.2.2.1) rfl rfl rfl (X.2.2.2.2.1 _ hw.2.2.2.1) (X.2.2.2.2.1 _ hw.1) hw.2.2.2.2.2.1 ⟨hR1, hR2⟩, X.2.2.2.2.1 _ hw.2.1, X.2.2.2.2.1 _ hw.2.2.1⟩ ⟨wo_blind, va_recv (ci := ci) (q0 := k) X.2.2.2.2.2.1 hP hcl ((wd_get hk).trans (by rw [hc])), fun U hU hW => ⟨rfl, wo_end X hP hS hU hW⟩⟩ rfl hn hl.1 rfl (lv_room hrest) hd ⟨X.2.2.2.2.2.2.2.2.2.2.2.1, X.2.2.2.2.2.2.2.2.2.2.2.2⟩) hS (fun q _ h => h) (fun q h => h) ?_
  intro u ra t H1 locs1 ht hvm hw hB hz hk hS1
  subst hw
  obtain ⟨rfl, hB⟩ := hB
  have hP1 := hB.1
  rw [ht] at hP1
  exact kk x1 x h2 H1 locs1 ls hP1 hS1 hl
theorem j_cSR {y : MethodName} {bytes : ByteArray} {mL n idx d2 : Nat} {rt : Option FieldType} {As : List Value} {ob : Option (Nat × Mem)} {f : Nat × Mem → Option α}  (X : Cx p l e R s m args below meth c g cc nL cw own d) (hC : CtR l g y bytes mL rt d2 As M ob) (hw : WlS own idx y bytes mL rt n) (hst : st = As.reverse ++ rest) (hn : As.length = n) (hdd : d2 + 1 ≤ d) (hrest : (rest.map fun v => v.category).sum ≤ 8) (hd : decode cc pc = .ok (.invokestatic idx, 3)) (kk : ∀ q : Nat × Mem, J p l e R s m args below meth c g nL cw Qf (f q) q.2 (pc + 3) L (.ref (gS g q.1) :: rest)) : J p l e R s m args below meth c g nL cw Qf (ob.bind f) M pc L st := by
  intro x hx H locs ls hP hS hl
  obtain ⟨x1, h1, h2⟩ := Option.bind_eq_some_iff.mp hx
  subst hst
  have hR1 : (rmD d2).frames + 1 ≤ R.frames := Nat.le_trans hdd X.2.2.2.2.2.2.2.2.1
  have hR2 : 8 + (mL + 11) + (rmD d2).locals ≤ R.locals := by
    have h3 := X.2.2.2.2.2.2.2.2.2.1
    have h4 := hw.2.2.2.2.2
    show 8 + (mL + 11) + 64 * d2 ≤ R.locals
    omega
  refine va_callr (va_runS (As := As) (rest := rest) ⟨X.1, X.2.1, X.2.2.1, X.2.2.2.1, X.2.2.2.2.1⟩ (hC x1 h1) ⟨callB_of n X.2.2.2.2.1 (good_BG hw.2.2.2.1) rfl rfl rfl (X.2.2.2.2.1 _ hw.2.2.1) (X.2.2.2.2.1 _ hw.1) hw.2.2.2.2.1 ⟨hR1, hR2⟩, X.2.2.2.2.1 _ hw.2.1⟩ ⟨wo_blind, fun U hU hW => ⟨rfl, wo_end X hP hS hU hW⟩⟩ rfl hn hl.1 rfl (lv_room hrest) hd ⟨X.2.2.2.2.2.2.2.2.2.2.2.1, X.2.2.2.2.2.2.2.2.2.2.2.2⟩) hS (fun q _ h => h) (fun q h => h) ?_
  intro u ra t H1 locs1 ht hvm hw hB hz hk hS1
  subst hw
  obtain ⟨rfl, hB⟩ := hB
  have hP1 := hB.1
  rw [ht] at hP1
  exact kk x1 x h2 H1 locs1 ls hP1 hS1 hl
theorem j_mmax {idx : Nat} {x y : Int32} (X : Cx p l e R s m args below meth c g cc nL cw own d) (h1 : Cond.methodLink own idx Lib.Math.max.name ∈ BG) (h2 : Cond.static Lib.Math.max.name ∈ BG) (h3 : Cond.initialized "java/lang/Math" ∈ BG) (h4 : Cond.code Lib.Math.max.name Lib.Math.max.code 2 (some .int) ∈ BG) (hd1 : 1 ≤ d) (hrest : (rest.map fun v => v.category).sum ≤ 8) (hd : decode cc pc = .ok (.invokestatic idx, 3)) (kk : J p l e R s m args below meth c g nL cw Qf o M (pc + 3) L (.int (if x < y then y else x) :: rest)) : J p l e R s m args below meth c g nL cw Qf o M pc L (.int y :: .int x :: rest) :=
  fun v hv H locs ls hP hS hl => va_mmax X.1 X.2.1 (X.2.2.1.trans hl.1.symm) X.2.2.2.1 (X.2.2.2.2.1 _ h1) (X.2.2.2.2.1 _ h2) (X.2.2.2.2.1 _ h3) (X.2.2.2.2.1 _ h4) (Nat.le_trans hd1 X.2.2.2.2.2.2.2.2.1) (by have h9 := X.2.2.2.2.2.2.2.2.2.1; omega) X.2.2.2.2.2.2.2.2.2.2.2.1 X.2.2.2.2.2.2.2.2.2.2.2.2 hd (kk v hv H locs ls hP hS hl)
theorem j_mmin {idx : Nat} {x y : Int32} (X : Cx p l e R s m args below meth c g cc nL cw own d) (h1 : Cond.methodLink own idx Lib.Math.min.name ∈ BG) (h2 : Cond.static Lib.Math.min.name ∈ BG) (h3 : Cond.initialized "java/lang/Math" ∈ BG) (h4 : Cond.code Lib.Math.min.name Lib.Math.min.code 2 (some .int) ∈ BG) (hd1 : 1 ≤ d) (hrest : (rest.map fun v => v.category).sum ≤ 8) (hd : decode cc pc = .ok (.invokestatic idx, 3)) (kk : J p l e R s m args below meth c g nL cw Qf o M (pc + 3) L (.int (if y < x then y else x) :: rest)) : J p l e R s m args below meth c g nL cw Qf o M pc L (.int y :: .int x :: rest) :=
  fun v hv H locs ls hP hS hl => va_mmin X.1 X.2.1 (X.2.2.1.trans hl.1.symm) X.2.2.2.1 (X.2.2.2.2.1 _ h1) (X.2.2.2.2.1 _ h2) (X.2.2.2.2.1 _ h3) (X.2.2.2.2.1 _ h4) (Nat.le_trans hd1 X.2.2.2.2.2.2.2.2.1) (by have h9 := X.2.2.2.2.2.2.2.2.2.1; omega) X.2.2.2.2.2.2.2.2.2.2.2.1 X.2.2.2.2.2.2.2.2.2.2.2.2 hd (kk v hv H locs ls hP hS hl)
def cpo (sp dp n : Int32) (n0 n1 : Nat) : Bool := !(decide (sp < 0)) && (!(decide (dp < 0)) && (!(decide (n < 0)) && (decide (sp.toNatClampNeg + n.toNatClampNeg ≤ n0) && decide (dp.toNatClampNeg + n.toNatClampNeg ≤ n1))))
theorem nfw : nativeFrameWords "java/lang/System" "arraycopy" 5 + 11 ≤ 56 := by decide +kernel
theorem j_acopy {idx k0 k1 n0 n1 : Nat} {sp dp n : Int32} (X : Cx p l e R s m args below meth c g cc nL cw own d) (h1 : Cond.methodLink own idx arraycopyName ∈ BG) (h2 : Cond.native arraycopyName ∈ BG) (h3 : Cond.static arraycopyName ∈ BG) (h4 : Cond.initialized "java/lang/System" ∈ BG) (a0 : ia k0 n0) (a1 : ia k1 n1) (hd1 : 1 ≤ d) (hrest : (rest.map fun v => v.category).sum ≤ 8) (hd : decode cc pc = .ok (.invokestatic idx, 3)) (kk : J p l e R s m args below meth c g nL cw Qf o (upA M k1 (va_cpy (M k0) (M k1) sp.toNatClampNeg dp.toNatClampNeg n.toNatClampNeg)) (pc + 3) L rest) : J p l e R s m args below meth c g nL cw Qf (gd (cpo sp dp n n0 n1) o) M pc L (.int n :: .int dp :: .ref (gA g k1) :: .int sp :: .ref (gA g k0) :: rest) := by
  intro v hv H locs ls hP hS hl
  obtain ⟨hc, hv⟩ := gd_some hv
  simp only [cpo, Bool.and_eq_true, Bool.not_eq_true', decide_eq_false_iff_not, decide_eq_true_eq] at hc
  obtain ⟨c1, c2, c3, c4, c5⟩ := hc
  exact va_copyi (ty := .int) X.1 X.2.1 (X.2.2.1.trans hl.1.symm) X.2.2.2.1 (X.2.2.2.2.1 _ h1) (X.2.2.2.2.1 _ h2) (X.2.2.2.2.1 _ h3) (X.2.2.2.2.1 _ h4) X.2.2.2.2.2.1 hP (wd_D X.2.2.2.2.2.2.1) hS k0 k1 0 0 ((wd_get a0.1).trans (by rw [a0.2])) ((wd_get a1.1).trans (by rw [a1.2])) rfl rfl rfl c1 c2 c3 c4 c5 (fun _ _ => rfl) (Nat.le_trans hd1 X.2.2.2.2.2.2.2.2.1) (by have h9 := X.2.2.2.2.2.2.2.2.2.1; have h8 := nfw; omega) hd
    (fun H1 locs1 hP1 _ hS1 => kk v hv H1 locs1 ls (by rw [← a1.2 g, wd_set a1.1] at hP1; exact hP1) hS1 hl)
theorem j_lcmp {x y : Int64} (X : Cx p l e R s m args below meth c g cc nL cw own d) (hd : decode cc pc = .ok (.lcmp, 1)) (k : J p l e R s m args below meth c g nL cw Qf o M (pc + 1) L (.int (lg_cmp x y) :: st)) : J p l e R s m args below meth c g nL cw Qf o M pc L (.long y :: .long x :: st) := fun v hv H locs ls hP hS hl => W.lcmp X.1 X.2.1 hd (k v hv H locs ls hP hS hl)
def jAll (p : Program) (l : Launch) (e : Env) (R : Room) (s : State) (m : MethodId) (args : Array Value) (below : List Frame) (meth : Method) (c : Code) (g : Gh) (nL : Nat) (cw : Nat × Nat) {α : Type} (Qf : α → State → Prop) (M : Mem) (L : List (Nat × Value)) (st : List Value) : List (Int32 × Option α) → List Nat → Prop
  | [], [] => True
  | (_, o) :: r, t :: ts => J p l e R s m args below meth c g nL cw Qf o M t L st ∧ jAll p l e R s m args below meth c g nL cw Qf M L st r ts
  | _, _ => False
theorem j_sw_in {off : Int} {len : Nat} {dflt lo hi : Int} {offs : Array Int} {x : Int32} (X : Cx p l e R s m args below meth c g cc nL cw own d) (hd : decode cc pc = .ok (.tableswitch dflt lo hi offs, len)) : ∀ (os : List (Int32 × Option α)) (tg : List Nat) (od : Option α), swk pc lo hi offs (os.map Prod.fst) tg = true → jAll p l e R s m args below meth c g nL cw Qf M L st os tg → ((∀ k ∈ os.map Prod.fst, ¬ x = k) → J p l e R s m args below meth c g nL cw Qf od M pc L (.int x :: st)) → J p l e R s m args below meth c g nL cw Qf (swc x os od) M pc L (.int x :: st) := by
  intro os
  induction os with
  | nil =>
    intro tg od h1 h2 h3
    exact h3 (fun k hk => by cases hk)
  | cons q r ih =>
    intro tg od h1 h2 h3
    obtain ⟨k, o⟩ := q
    cases tg with
    | nil => cases h2
    | cons t ts =>
      simp only [List.map_cons, swk, Bool.and_eq_true, decide_eq_true_eq] at h1
      obtain ⟨⟨⟨g1, g2⟩, g3⟩, g4⟩ := h1
      intro v hv H locs ls hP hS hl
      by_cases hk : x = k
      · subst hk
        simp only [swc, if_true] at hv
        cases ho : offs[(x.toInt - lo).toNat]? with
        | none => rw [ho] at g3; cases g3
        | some off =>
          rw [ho] at g3
          exact lv_tableIn X.1 X.2.1 hd g1 g2 ho (by simpa using g3) (h2.1 v hv H locs ls hP hS hl)
      · rw [swc, if_neg hk] at hv
        refine ih ts od g4 h2.2 (fun h => h3 (fun k' hk' => ?_)) v hv H locs ls hP hS hl
        rcases List.mem_cons.mp hk' with e1 | e1
        · rw [e1]; exact hk
        · exact h k' e1
theorem j_tsw {len : Nat} {dflt lo hi : Int} {offs : Array Int} {x : Int32} {os : List (Int32 × Option α)} {od : Option α} {dt : Nat} (ks : List Int32) (tg : List Nat) (X : Cx p l e R s m args below meth c g cc nL cw own d) (hd : decode cc pc = .ok (.tableswitch dflt lo hi offs, len)) (hk : os.map Prod.fst = ks) (h1 : swk pc lo hi offs ks tg = true) (h2 : swf lo hi ks = true) (ht : (pc : Int) + dflt = (dt : Int)) (k1 : jAll p l e R s m args below meth c g nL cw Qf M L st os tg) (k2 : J p l e R s m args below meth c g nL cw Qf od M dt L st) : J p l e R s m args below meth c g nL cw Qf (swc x os od) M pc L (.int x :: st) := by
  subst hk
  refine j_sw_in (off := 0) X hd os tg od h1 k1 (fun hne => ?_)
  intro v hv H locs ls hP hS hl
  refine lv_tableOut X.1 X.2.1 hd ?_ ht (k2 v hv H locs ls hP hS hl)
  by_cases a1 : x.toInt < lo
  · exact Or.inl a1
  · by_cases a2 : hi < x.toInt
    · exact Or.inr a2
    · exfalso
      have h5 := List.all_eq_true.mp h2 (x.toInt - lo).toNat (List.mem_range.mpr (by omega))
      obtain ⟨k, hk1, hk2⟩ := List.any_eq_true.mp h5
      have h6 : k.toInt = lo + ((x.toInt - lo).toNat : Int) := by simpa using hk2
      refine hne k hk1 (Int32.toInt_inj.mp ?_)
      omega
end JC
