def R_law : String := "HillDanceLaw"
def lw_P (b : Addr) (xs : List Int32) (args : Array Value) (s : State) : Prop := args = #[.ref b] ∧ s.IntsAt b xs ∧ xs.length ≤ 3072 ∧ (Jvm.Cond.and given_1 narrow_1).before args s = true
def lw_Q (_ : Array Value) (s : State) (o : Outcome) (t : State) : Prop := o = .returned (some (.int 1)) ∧ Framed s o t [] 600000 7302250
def lw_Z (below : List Frame) (a : Array Value) (s : State) : State → Prop := fun t => ∃ o, t.status = .running ∧ Ended t below o ∧ lw_Q a s o t
/-- the law's own end, with 1 on the stack, nothing written that was there before, its room as the claim has it -/
theorem lw_ret {p : Program} {l : Launch} {e : Env} {s : State} {m : MethodId} {below : List Frame} {meth : Method} {c : Code} {b : Nat} (hx : p.tables.exec = Jvm.exec) (hb : c.code = code) (hr : meth.sig.returnType = ret) (hlocks : meth.locks = false) {pc : Nat} {H : Heap} {ls : Array Slot} (hdg : decode code pc = .ok (.ireturn, 1)) : W p l e room_1 s m #[Value.ref b] below meth c H [] 600000 7302250 (lw_Z below #[Value.ref b] s) (F0 m pc ls [.int 1]) := by
  intro T hT X
  obtain ⟨fs, hret, hrun, hended, hW, hframe⟩ := X.leave (v := some (.int 1)) (hlocks := hlocks) (fun h => by rw [hr] at h; cases h)
  have hmeth' : T.vm.method? m = some meth := X.method'
  refine ⟨T.setFrames fs, ?_, .returned (some (.int 1)), hrun, hended, rfl, ⟨_, rfl⟩, hW, hframe⟩
  jvm_step X.here [X.here.top, hx, hb, hdg, hmeth', hr, ret, narrow_b1]
  (try refine ⟨rfl, ?_⟩); (try refine ⟨rfl, ?_⟩)
  first | (intro acts; rw [hret _ acts rfl rfl rfl]) | rw [hret _ _ rfl rfl rfl]
  exact Steps.refl _
/-- what holds at the law's entry: the machine, the code, the tables' words (any of lw_tbl by 'hts w (by decide +kernel)'), the script of L ints xs at the cell b, what the Statement gives of the start (any of its parts by flat_of_before) -/
def lw_At (p : Program) (s : State) (m : MethodId) (meth : Method) (c : Code) (b L : Nat) (xs : Nat → Int32) : Prop :=
  p.tables.exec = Jvm.exec ∧ c.code = code ∧ meth.sig.returnType = ret ∧ c.maxLocals = 4 ∧ s.vm.findClass R_law = some m.cls ∧ (∀ w ∈ lw_tbl, w.before #[Value.ref b] s = true) ∧ va_X b L xs s s.heap ∧ b < s.heap.size ∧ meth.locks = false ∧ (Jvm.Cond.and given_1 narrow_1).before #[Value.ref b] s = true
section JL
variable {p : Program} {l : Launch} {e : Env} {R : Room} {s : State} {m : MethodId} {args : Array Value} {below : List Frame} {meth : Method} {c : Code} {g : Gh} {nL : Nat} {cw : Nat × Nat} {α : Type} {Qf : α → State → Prop} {o : Option α} {M : Mem} {pc : Nat} {L : List (Nat × Value)} {st : List Value} {cc : ByteArray} {own : String} {d : Nat}
theorem not_new {sb : Nat} (hbl : sb < s.heap.size) (hnew : ∀ q, Aw g q → s.heap.size ≤ q) : ¬ Aw g sb := fun h => absurd (hnew sb h) (Nat.not_le.mpr hbl)
theorem j_sld {sb Ln : Nat} {xs : Nat → Int32} {i : Int32} (X : Cx p l e R s m args below meth c g cc nL cw own d) (hX : va_X sb Ln xs s s.heap) (hbl : sb < s.heap.size) (hnew : ∀ q, Aw g q → s.heap.size ≤ q) (hd : decode cc pc = .ok (.iaload, 1)) (kk : inb i Ln = true → J p l e R s m args below meth c g nL cw Qf o M (pc + 1) L (.int (xs i.toNatClampNeg) :: st)) : J p l e R s m args below meth c g nL cw Qf (gd (inb i Ln) o) M pc L (.int i :: .ref sb :: st) :=
  fun x hx H locs ls hP hS hl => va_sld X.1 X.2.1 hX hbl (not_new hbl hnew) hS (inb_vp (gd_some hx).1) hd (kk (gd_some hx).1 x (gd_some hx).2 H locs ls hP hS hl)
theorem j_slen {sb Ln : Nat} {xs : Nat → Int32} (X : Cx p l e R s m args below meth c g cc nL cw own d) (hX : va_X sb Ln xs s s.heap) (hbl : sb < s.heap.size) (hnew : ∀ q, Aw g q → s.heap.size ≤ q) (hd : decode cc pc = .ok (.arraylength, 1)) (kk : J p l e R s m args below meth c g nL cw Qf o M (pc + 1) L (.int (Int32.ofNat Ln) :: st)) : J p l e R s m args below meth c g nL cw Qf o M pc L (.ref sb :: st) :=
  fun x hx H locs ls hP hS hl => va_slen X.1 X.2.1 hX hbl (not_new hbl hnew) hS hd (kk x hx H locs ls hP hS hl)
theorem j_lawret {sb : Nat} (X : Cx p l e room_1 s m #[Value.ref sb] below meth c g code nL cw own d) (hr : meth.sig.returnType = ret) (hnew : ∀ q, Aw g q → s.heap.size ≤ q) (hcw : cw.1 ≤ 600000 ∧ cw.2 ≤ 7302250) (hd : decode code pc = .ok (.ireturn, 1)) : J p l e room_1 s m #[Value.ref sb] below meth c g nL cw (fun _ => lw_Z below #[Value.ref sb] s) (some ()) M pc L [.int 1] := by
  intro x hx H locs ls hP hS hl
  refine va_forget (fun q hq => hnew _ (hS.2.2 q hq)) ?_
  refine W.widen (k := 600000) (n := 7302250) hcw.1 hcw.2 ?_
  exact lw_ret X.1 X.2.1 hr X.2.2.2.2.2.2.2.2.2.2.1 hd
end JL
def pi_L_law_18 (Ln : Nat) (xs : Nat → Int32) (rc18 : Int32 × Mem → Option Unit) (v3 : Int32) (M : Mem) : Option Unit := if ((Int32.ofNat Ln) - 6) < v3 then (some ()) else (gd (inb v3 Ln) <| swc ((xs v3.toNatClampNeg) &&& 63) [(0, gd (inb (v3 + 1) Ln) <| bd (mi_X3_rain (xs (v3 + 1).toNatClampNeg) M) fun r_4 M_3 => gd (inb (v3 + 1) Ln) <| bd (mi_X4_rain (xs (v3 + 1).toNatClampNeg) M_3) fun r_7 M_6 => if r_4 = r_7 then (bI (v3 + 6) fun v3_8 => rc18 (v3_8, M_6)) else none), (1, gd (inb (v3 + 1) Ln) <| gd (inb (v3 + 2) Ln) <| bd (mi_X3_hill (xs (v3 + 1).toNatClampNeg) (xs (v3 + 2).toNatClampNeg) M) fun r_12 M_11 => gd (inb (v3 + 1) Ln) <| gd (inb (v3 + 2) Ln) <| bd (mi_X4_hill (xs (v3 + 1).toNatClampNeg) (xs (v3 + 2).toNatClampNeg) M_11) fun r_16 M_15 => if r_12 = r_16 then (bI (v3 + 6) fun v3_17 => rc18 (v3_17, M_15)) else none), (2, gd (inb (v3 + 1) Ln) <| gd (inb (v3 + 2) Ln) <| bd (mi_X3_of (xs (v3 + 1).toNatClampNeg) (xs (v3 + 2).toNatClampNeg) M) fun r_21 M_20 => gd (inb (v3 + 1) Ln) <| gd (inb (v3 + 2) Ln) <| bd (mi_X4_of (xs (v3 + 1).toNatClampNeg) (xs (v3 + 2).toNatClampNeg) M_20) fun r_25 M_24 => if r_21 = r_25 then (bI (v3 + 6) fun v3_26 => rc18 (v3_26, M_24)) else none), (3, gd (inb (v3 + 1) Ln) <| gd (inb (v3 + 2) Ln) <| gd (inb (v3 + 3) Ln) <| bd (mi_X3_change (xs (v3 + 1).toNatClampNeg) (xs (v3 + 2).toNatClampNeg) (xs (v3 + 3).toNatClampNeg) M) fun r_31 M_30 => gd (inb (v3 + 1) Ln) <| gd (inb (v3 + 2) Ln) <| gd (inb (v3 + 3) Ln) <| bd (mi_X4_change (xs (v3 + 1).toNatClampNeg) (xs (v3 + 2).toNatClampNeg) (xs (v3 + 3).toNatClampNeg) M_30) fun r_36 M_35 => if r_31 = r_36 then (bI (v3 + 6) fun v3_37 => rc18 (v3_37, M_35)) else none), (4, gd (inb (v3 + 1) Ln) <| gd (inb (v3 + 2) Ln) <| bd (mi_X3_valley (xs (v3 + 1).toNatClampNeg) (xs (v3 + 2).toNatClampNeg) M) fun r_41 M_40 => gd (inb (v3 + 1) Ln) <| gd (inb (v3 + 2) Ln) <| bd (mi_X4_valley (xs (v3 + 1).toNatClampNeg) (xs (v3 + 2).toNatClampNeg) M_40) fun r_45 M_44 => if r_41 = r_45 then (bI (v3 + 6) fun v3_46 => rc18 (v3_46, M_44)) else none), (5, gd (inb (v3 + 1) Ln) <| bd (mi_X3_go (xs (v3 + 1).toNatClampNeg) M) fun r_49 M_48 => gd (inb (v3 + 1) Ln) <| bd (mi_X4_go (xs (v3 + 1).toNatClampNeg) M_48) fun r_52 M_51 => if r_49 = r_52 then (bI (v3 + 6) fun v3_53 => rc18 (v3_53, M_51)) else none), (6, gd (inb (v3 + 1) Ln) <| bd (mi_X3_now (xs (v3 + 1).toNatClampNeg) M) fun r_56 M_55 => gd (inb (v3 + 1) Ln) <| bd (mi_X4_now (xs (v3 + 1).toNatClampNeg) M_55) fun r_59 M_58 => if r_56 = r_59 then (bI (v3 + 6) fun v3_60 => rc18 (v3_60, M_58)) else none), (7, gd (inb (v3 + 1) Ln) <| gd (inb (v3 + 2) Ln) <| gd (inb (v3 + 3) Ln) <| bd (mi_X3_ahead (xs (v3 + 1).toNatClampNeg) (xs (v3 + 2).toNatClampNeg) (xs (v3 + 3).toNatClampNeg) M) fun r_65 M_64 => gd (inb (v3 + 1) Ln) <| gd (inb (v3 + 2) Ln) <| gd (inb (v3 + 3) Ln) <| bd (mi_X4_ahead (xs (v3 + 1).toNatClampNeg) (xs (v3 + 2).toNatClampNeg) (xs (v3 + 3).toNatClampNeg) M_64) fun r_70 M_69 => if r_65 = r_70 then (bI (v3 + 6) fun v3_71 => rc18 (v3_71, M_69)) else none), (8, gd (inb (v3 + 1) Ln) <| gd (inb (v3 + 2) Ln) <| bd (mi_X3_when (xs (v3 + 1).toNatClampNeg) (xs (v3 + 2).toNatClampNeg) M) fun r_75 M_74 => gd (inb (v3 + 1) Ln) <| gd (inb (v3 + 2) Ln) <| bd (mi_X4_when (xs (v3 + 1).toNatClampNeg) (xs (v3 + 2).toNatClampNeg) M_74) fun r_79 M_78 => if r_75 = r_79 then (bI (v3 + 6) fun v3_80 => rc18 (v3_80, M_78)) else none), (9, gd (inb (v3 + 1) Ln) <| gd (inb (v3 + 2) Ln) <| bd (mi_X3_meet (xs (v3 + 1).toNatClampNeg) (xs (v3 + 2).toNatClampNeg) M) fun r_84 M_83 => gd (inb (v3 + 1) Ln) <| gd (inb (v3 + 2) Ln) <| bd (mi_X4_meet (xs (v3 + 1).toNatClampNeg) (xs (v3 + 2).toNatClampNeg) M_83) fun r_88 M_87 => if r_84 = r_88 then (bI (v3 + 6) fun v3_89 => rc18 (v3_89, M_87)) else none), (10, bd (mi_X3_round M) fun r_91 M_90 => bd (mi_X4_round M_90) fun r_93 M_92 => if r_91 = r_93 then (bI (v3 + 6) fun v3_94 => rc18 (v3_94, M_92)) else none), (11, gd (inb (v3 + 1) Ln) <| gd (inb (v3 + 2) Ln) <| bd (mi_X3_skylines (xs (v3 + 1).toNatClampNeg) (xs (v3 + 2).toNatClampNeg) M) fun r_98 M_97 => gd (inb (v3 + 1) Ln) <| gd (inb (v3 + 2) Ln) <| bd (mi_X4_skylines (xs (v3 + 1).toNatClampNeg) (xs (v3 + 2).toNatClampNeg) M_97) fun r_102 M_101 => if r_98 = r_102 then (bI (v3 + 6) fun v3_103 => rc18 (v3_103, M_101)) else none), (12, gd (inb (v3 + 1) Ln) <| bd (mi_X3_wallflowers (xs (v3 + 1).toNatClampNeg) M) fun r_106 M_105 => gd (inb (v3 + 1) Ln) <| bd (mi_X4_wallflowers (xs (v3 + 1).toNatClampNeg) M_105) fun r_109 M_108 => if r_106 = r_109 then (bI (v3 + 6) fun v3_110 => rc18 (v3_110, M_108)) else none), (13, gd (inb (v3 + 1) Ln) <| gd (inb (v3 + 2) Ln) <| bd (mi_X3_stand (xs (v3 + 1).toNatClampNeg) (xs (v3 + 2).toNatClampNeg) M) fun r_114 M_113 => gd (inb (v3 + 1) Ln) <| gd (inb (v3 + 2) Ln) <| bd (mi_X4_stand (xs (v3 + 1).toNatClampNeg) (xs (v3 + 2).toNatClampNeg) M_113) fun r_118 M_117 => if r_114 = r_118 then (bI (v3 + 6) fun v3_119 => rc18 (v3_119, M_117)) else none), (14, gd (inb (v3 + 1) Ln) <| gd (inb (v3 + 2) Ln) <| bd (mi_X3_stepFor (xs (v3 + 1).toNatClampNeg) (xs (v3 + 2).toNatClampNeg) M) fun r_123 M_122 => gd (inb (v3 + 1) Ln) <| gd (inb (v3 + 2) Ln) <| bd (mi_X4_stepFor (xs (v3 + 1).toNatClampNeg) (xs (v3 + 2).toNatClampNeg) M_122) fun r_127 M_126 => if r_123 = r_127 then (bI (v3 + 6) fun v3_128 => rc18 (v3_128, M_126)) else none), (15, gd (inb (v3 + 1) Ln) <| gd (inb (v3 + 2) Ln) <| bd (mi_X3_turnFor (xs (v3 + 1).toNatClampNeg) (xs (v3 + 2).toNatClampNeg) M) fun r_132 M_131 => gd (inb (v3 + 1) Ln) <| gd (inb (v3 + 2) Ln) <| bd (mi_X4_turnFor (xs (v3 + 1).toNatClampNeg) (xs (v3 + 2).toNatClampNeg) M_131) fun r_136 M_135 => if r_132 = r_136 then (bI (v3 + 6) fun v3_137 => rc18 (v3_137, M_135)) else none), (16, gd (inb (v3 + 1) Ln) <| gd (inb (v3 + 2) Ln) <| bd (mi_X3_kindFor (xs (v3 + 1).toNatClampNeg) (xs (v3 + 2).toNatClampNeg) M) fun r_141 M_140 => gd (inb (v3 + 1) Ln) <| gd (inb (v3 + 2) Ln) <| bd (mi_X4_kindFor (xs (v3 + 1).toNatClampNeg) (xs (v3 + 2).toNatClampNeg) M_140) fun r_145 M_144 => if r_141 = r_145 then (bI (v3 + 6) fun v3_146 => rc18 (v3_146, M_144)) else none), (17, gd (inb (v3 + 1) Ln) <| gd (inb (v3 + 2) Ln) <| gd (inb (v3 + 3) Ln) <| bd (mi_X3_rainFor (xs (v3 + 1).toNatClampNeg) (xs (v3 + 2).toNatClampNeg) (xs (v3 + 3).toNatClampNeg) M) fun r_151 M_150 => gd (inb (v3 + 1) Ln) <| gd (inb (v3 + 2) Ln) <| gd (inb (v3 + 3) Ln) <| bd (mi_X4_rainFor (xs (v3 + 1).toNatClampNeg) (xs (v3 + 2).toNatClampNeg) (xs (v3 + 3).toNatClampNeg) M_150) fun r_156 M_155 => if r_151 = r_156 then (bI (v3 + 6) fun v3_157 => rc18 (v3_157, M_155)) else none), (18, gd (inb (v3 + 1) Ln) <| gd (inb (v3 + 2) Ln) <| gd (inb (v3 + 3) Ln) <| bd (mi_X3_road (xs (v3 + 1).toNatClampNeg) (xs (v3 + 2).toNatClampNeg) (xs (v3 + 3).toNatClampNeg) M) fun r_162 M_161 => gd (inb (v3 + 1) Ln) <| gd (inb (v3 + 2) Ln) <| gd (inb (v3 + 3) Ln) <| bd (mi_X4_road (xs (v3 + 1).toNatClampNeg) (xs (v3 + 2).toNatClampNeg) (xs (v3 + 3).toNatClampNeg) M_161) fun r_167 M_166 => if r_162 = r_167 then (bI (v3 + 6) fun v3_168 => rc18 (v3_168, M_166)) else none), (19, gd (inb (v3 + 1) Ln) <| gd (inb (v3 + 2) Ln) <| bd (mi_X3_climb (xs (v3 + 1).toNatClampNeg) (xs (v3 + 2).toNatClampNeg) M) fun r_172 M_171 => gd (inb (v3 + 1) Ln) <| gd (inb (v3 + 2) Ln) <| bd (mi_X4_climb (xs (v3 + 1).toNatClampNeg) (xs (v3 + 2).toNatClampNeg) M_171) fun r_176 M_175 => if r_172 = r_176 then (bI (v3 + 6) fun v3_177 => rc18 (v3_177, M_175)) else none), (20, gd (inb (v3 + 1) Ln) <| gd (inb (v3 + 2) Ln) <| gd (inb (v3 + 3) Ln) <| gd (inb (v3 + 4) Ln) <| bd (mi_X3_open (xs (v3 + 1).toNatClampNeg) (xs (v3 + 2).toNatClampNeg) (xs (v3 + 3).toNatClampNeg) (xs (v3 + 4).toNatClampNeg) M) fun r_183 M_182 => gd (inb (v3 + 1) Ln) <| gd (inb (v3 + 2) Ln) <| gd (inb (v3 + 3) Ln) <| gd (inb (v3 + 4) Ln) <| bd (mi_X4_open (xs (v3 + 1).toNatClampNeg) (xs (v3 + 2).toNatClampNeg) (xs (v3 + 3).toNatClampNeg) (xs (v3 + 4).toNatClampNeg) M_182) fun r_189 M_188 => if r_183 = r_189 then (bI (v3 + 6) fun v3_190 => rc18 (v3_190, M_188)) else none), (21, gd (inb (v3 + 1) Ln) <| gd (inb (v3 + 2) Ln) <| gd (inb (v3 + 3) Ln) <| bd (mi_X3_lay (xs (v3 + 1).toNatClampNeg) (xs (v3 + 2).toNatClampNeg) (xs (v3 + 3).toNatClampNeg) M) fun r_195 M_194 => gd (inb (v3 + 1) Ln) <| gd (inb (v3 + 2) Ln) <| gd (inb (v3 + 3) Ln) <| bd (mi_X4_lay (xs (v3 + 1).toNatClampNeg) (xs (v3 + 2).toNatClampNeg) (xs (v3 + 3).toNatClampNeg) M_194) fun r_200 M_199 => if r_195 = r_200 then (bI (v3 + 6) fun v3_201 => rc18 (v3_201, M_199)) else none), (22, gd (inb (v3 + 1) Ln) <| gd (inb (v3 + 2) Ln) <| bd (mi_X3_fits (xs (v3 + 1).toNatClampNeg) (xs (v3 + 2).toNatClampNeg) M) fun r_205 M_204 => gd (inb (v3 + 1) Ln) <| gd (inb (v3 + 2) Ln) <| bd (mi_X4_fits (xs (v3 + 1).toNatClampNeg) (xs (v3 + 2).toNatClampNeg) M_204) fun r_209 M_208 => if r_205 = r_209 then (bI (v3 + 6) fun v3_210 => rc18 (v3_210, M_208)) else none), (23, gd (inb (v3 + 1) Ln) <| gd (inb (v3 + 2) Ln) <| bd (mi_X3_step (xs (v3 + 1).toNatClampNeg) (xs (v3 + 2).toNatClampNeg) M) fun r_214 M_213 => gd (inb (v3 + 1) Ln) <| gd (inb (v3 + 2) Ln) <| bd (mi_X4_step (xs (v3 + 1).toNatClampNeg) (xs (v3 + 2).toNatClampNeg) M_213) fun r_218 M_217 => if r_214 = r_218 then (bI (v3 + 6) fun v3_219 => rc18 (v3_219, M_217)) else none), (24, gd (inb (v3 + 1) Ln) <| gd (inb (v3 + 2) Ln) <| bd (mi_X3_kinds (xs (v3 + 1).toNatClampNeg) (xs (v3 + 2).toNatClampNeg) M) fun r_223 M_222 => gd (inb (v3 + 1) Ln) <| gd (inb (v3 + 2) Ln) <| bd (mi_X4_kinds (xs (v3 + 1).toNatClampNeg) (xs (v3 + 2).toNatClampNeg) M_222) fun r_227 M_226 => if r_223 = r_227 then (bI (v3 + 6) fun v3_228 => rc18 (v3_228, M_226)) else none), (25, gd (inb (v3 + 1) Ln) <| bd (mi_X3_rains (xs (v3 + 1).toNatClampNeg) M) fun r_231 M_230 => gd (inb (v3 + 1) Ln) <| bd (mi_X4_rains (xs (v3 + 1).toNatClampNeg) M_230) fun r_234 M_233 => if r_231 = r_234 then (bI (v3 + 6) fun v3_235 => rc18 (v3_235, M_233)) else none), (26, gd (inb (v3 + 1) Ln) <| gd (inb (v3 + 2) Ln) <| bd (mi_X3_odds (xs (v3 + 1).toNatClampNeg) (xs (v3 + 2).toNatClampNeg) M) fun r_239 M_238 => gd (inb (v3 + 1) Ln) <| gd (inb (v3 + 2) Ln) <| bd (mi_X4_odds (xs (v3 + 1).toNatClampNeg) (xs (v3 + 2).toNatClampNeg) M_238) fun r_243 M_242 => if (lg_cmp r_239 r_243) = 0 then (bI (v3 + 6) fun v3_244 => rc18 (v3_244, M_242)) else none), (27, gd (inb (v3 + 1) Ln) <| bd (mi_X3_seed (xs (v3 + 1).toNatClampNeg) M) fun r_247 M_246 => gd (inb (v3 + 1) Ln) <| bd (mi_X4_seed (xs (v3 + 1).toNatClampNeg) M_246) fun r_250 M_249 => if r_247 = r_250 then (bI (v3 + 6) fun v3_251 => rc18 (v3_251, M_249)) else none), (28, gd (inb (v3 + 1) Ln) <| gd (inb (v3 + 2) Ln) <| bd (mi_X3_feed (xs (v3 + 1).toNatClampNeg) (xs (v3 + 2).toNatClampNeg) M) fun r_255 M_254 => gd (inb (v3 + 1) Ln) <| gd (inb (v3 + 2) Ln) <| bd (mi_X4_feed (xs (v3 + 1).toNatClampNeg) (xs (v3 + 2).toNatClampNeg) M_254) fun r_259 M_258 => if r_255 = r_259 then (bI (v3 + 6) fun v3_260 => rc18 (v3_260, M_258)) else none), (29, bd (mi_X3_wipe M) fun r_262 M_261 => bd (mi_X4_wipe M_261) fun r_264 M_263 => if r_262 = r_264 then (bI (v3 + 6) fun v3_265 => rc18 (v3_265, M_263)) else none), (30, bd (mi_X3_text M) fun r_267 M_266 => bd (mi_X4_text M_266) fun r_269 M_268 => if r_267 = r_269 then (bI (v3 + 6) fun v3_270 => rc18 (v3_270, M_268)) else none), (31, gd (inb (v3 + 1) Ln) <| gd (inb (v3 + 2) Ln) <| bd (mi_X3_hold (xs (v3 + 1).toNatClampNeg) (xs (v3 + 2).toNatClampNeg) M) fun r_274 M_273 => gd (inb (v3 + 1) Ln) <| gd (inb (v3 + 2) Ln) <| bd (mi_X4_hold (xs (v3 + 1).toNatClampNeg) (xs (v3 + 2).toNatClampNeg) M_273) fun r_278 M_277 => if r_274 = r_278 then (bI (v3 + 6) fun v3_279 => rc18 (v3_279, M_277)) else none), (32, gd (inb (v3 + 1) Ln) <| gd (inb (v3 + 2) Ln) <| bd (mi_X3_as (xs (v3 + 1).toNatClampNeg) (xs (v3 + 2).toNatClampNeg) M) fun r_283 M_282 => gd (inb (v3 + 1) Ln) <| gd (inb (v3 + 2) Ln) <| bd (mi_X4_as (xs (v3 + 1).toNatClampNeg) (xs (v3 + 2).toNatClampNeg) M_282) fun r_287 M_286 => if r_283 = r_287 then (bI (v3 + 6) fun v3_288 => rc18 (v3_288, M_286)) else none), (33, gd (inb (v3 + 1) Ln) <| gd (inb (v3 + 2) Ln) <| gd (inb (v3 + 3) Ln) <| bd (mi_X3_sheet (xs (v3 + 1).toNatClampNeg) (xs (v3 + 2).toNatClampNeg) (xs (v3 + 3).toNatClampNeg) M) fun r_293 M_292 => gd (inb (v3 + 1) Ln) <| gd (inb (v3 + 2) Ln) <| gd (inb (v3 + 3) Ln) <| bd (mi_X4_sheet (xs (v3 + 1).toNatClampNeg) (xs (v3 + 2).toNatClampNeg) (xs (v3 + 3).toNatClampNeg) M_292) fun r_298 M_297 => if r_293 = r_298 then (bI (v3 + 6) fun v3_299 => rc18 (v3_299, M_297)) else none), (34, gd (inb (v3 + 1) Ln) <| gd (inb (v3 + 2) Ln) <| gd (inb (v3 + 3) Ln) <| bd (mi_X3_write (xs (v3 + 1).toNatClampNeg) (xs (v3 + 2).toNatClampNeg) (xs (v3 + 3).toNatClampNeg) M) fun r_304 M_303 => gd (inb (v3 + 1) Ln) <| gd (inb (v3 + 2) Ln) <| gd (inb (v3 + 3) Ln) <| bd (mi_X4_write (xs (v3 + 1).toNatClampNeg) (xs (v3 + 2).toNatClampNeg) (xs (v3 + 3).toNatClampNeg) M_303) fun r_309 M_308 => if r_304 = r_309 then (bI (v3 + 6) fun v3_310 => rc18 (v3_310, M_308)) else none), (35, gd (inb (v3 + 1) Ln) <| gd (inb (v3 + 2) Ln) <| gd (inb (v3 + 3) Ln) <| gd (inb (v3 + 4) Ln) <| gd (inb (v3 + 5) Ln) <| bd (mi_X3_copy (xs (v3 + 1).toNatClampNeg) (xs (v3 + 2).toNatClampNeg) (xs (v3 + 3).toNatClampNeg) (xs (v3 + 4).toNatClampNeg) (xs (v3 + 5).toNatClampNeg) M) fun r_317 M_316 => gd (inb (v3 + 1) Ln) <| gd (inb (v3 + 2) Ln) <| gd (inb (v3 + 3) Ln) <| gd (inb (v3 + 4) Ln) <| gd (inb (v3 + 5) Ln) <| bd (mi_X4_copy (xs (v3 + 1).toNatClampNeg) (xs (v3 + 2).toNatClampNeg) (xs (v3 + 3).toNatClampNeg) (xs (v3 + 4).toNatClampNeg) (xs (v3 + 5).toNatClampNeg) M_316) fun r_324 M_323 => if r_317 = r_324 then (bI (v3 + 6) fun v3_325 => rc18 (v3_325, M_323)) else none), (36, gd (inb (v3 + 1) Ln) <| bd (mi_X3_load (xs (v3 + 1).toNatClampNeg) M) fun r_328 M_327 => gd (inb (v3 + 1) Ln) <| bd (mi_X4_load (xs (v3 + 1).toNatClampNeg) M_327) fun r_331 M_330 => if r_328 = r_331 then (bI (v3 + 6) fun v3_332 => rc18 (v3_332, M_330)) else none), (37, gd (inb (v3 + 1) Ln) <| bd (mi_X3_judge (xs (v3 + 1).toNatClampNeg) M) fun r_335 M_334 => gd (inb (v3 + 1) Ln) <| bd (mi_X4_judge (xs (v3 + 1).toNatClampNeg) M_334) fun r_338 M_337 => if r_335 = r_338 then (bI (v3 + 6) fun v3_339 => rc18 (v3_339, M_337)) else none), (38, bd (mi_X3_image M) fun r_341 M_340 => bd (mi_X4_image M_340) fun r_343 M_342 => if r_341 = r_343 then (bI (v3 + 6) fun v3_344 => rc18 (v3_344, M_342)) else none), (39, bd (mi_X3_undo M) fun r_346 M_345 => bd (mi_X4_undo M_345) fun r_348 M_347 => if r_346 = r_348 then (bI (v3 + 6) fun v3_349 => rc18 (v3_349, M_347)) else none), (40, bd (mi_X3_tear M) fun r_351 M_350 => bd (mi_X4_tear M_350) fun r_353 M_352 => if r_351 = r_353 then (bI (v3 + 6) fun v3_354 => rc18 (v3_354, M_352)) else none), (41, gd (inb (v3 + 1) Ln) <| bd (mi_X3_count (xs (v3 + 1).toNatClampNeg) M) fun r_357 M_356 => gd (inb (v3 + 1) Ln) <| bd (mi_X4_count (xs (v3 + 1).toNatClampNeg) M_356) fun r_360 M_359 => if r_357 = r_360 then (bI (v3 + 6) fun v3_361 => rc18 (v3_361, M_359)) else none), (42, gd (inb (v3 + 1) Ln) <| bd (mi_X3_status (xs (v3 + 1).toNatClampNeg) M) fun r_364 M_363 => gd (inb (v3 + 1) Ln) <| bd (mi_X4_status (xs (v3 + 1).toNatClampNeg) M_363) fun r_367 M_366 => if r_364 = r_367 then (bI (v3 + 6) fun v3_368 => rc18 (v3_368, M_366)) else none)] (bI (v3 + 6) fun v3_369 => rc18 (v3_369, M)))
set_option maxRecDepth 100000 in
set_option maxHeartbeats 40000000 in
theorem pj_L_law_18 {p : Program} {l : Launch} {e : Env} {s : State} {m : MethodId} {below : List Frame} {meth : Method} {c : Code} {g : Gh} {cw : Nat × Nat} {sb Ln : Nat} {xs : Nat → Int32} (X : Cx p l e room_1 s m #[Value.ref sb] below meth c g cL_law 4 cw RL 16) (hr : meth.sig.returnType = ret) (hX : va_X sb Ln xs s s.heap) (hbl : sb < s.heap.size) (hnew : ∀ q, Aw g q → s.heap.size ≤ q) (hcw : cw.1 ≤ 600000 ∧ cw.2 ≤ 7302250) (rc18 : Int32 × Mem → Option Unit) (hc18 : ∀ x, J p l e room_1 s m #[Value.ref sb] below meth c g 4 cw (fun _ => lw_Z below #[Value.ref sb] s) (rc18 x) x.2 18 [(0, .ref sb), (1, .ref (gA g 0)), (2, .ref (gA g 49)), (3, .int x.1)] []) (v3 : Int32) (M : Mem) : J p l e room_1 s m #[Value.ref sb] below meth c g 4 cw (fun _ => lw_Z below #[Value.ref sb] s) (pi_L_law_18 Ln xs rc18 v3 M) M 18 [(0, .ref sb), (1, .ref (gA g 0)), (2, .ref (gA g 49)), (3, .int v3)] [] := by
  unfold pi_L_law_18
  refine j_iload_n (i := 3) X dL_law_18 rfl rfl ?_
  refine j_aload_n (i := 0) X dL_law_19 rfl rfl ?_
  refine j_slen X hX hbl hnew dL_law_20 ?_
  refine j_bipush (v := 6) X dL_law_21 rfl ?_
  refine j_isub X dL_law_23 ?_
  refine j_icmp_gt (tgt := 1546) X dL_law_24 (by decide) ?_ ?_
  · refine j_iconst (v := 1) X dL_law_1546 rfl ?_
    exact j_lawret X hr hnew hcw dL_law_1547
  · refine j_aload_n (i := 0) X dL_law_27 rfl rfl ?_
    refine j_iload_n (i := 3) X dL_law_28 rfl rfl ?_
    refine j_sld X hX hbl hnew dL_law_29 (fun h_1 => ?_)
    refine j_bipush (v := 63) X dL_law_30 rfl ?_
    refine j_iand X dL_law_32 ?_
    refine j_tsw [0, 1, 2, 3, 4, 5, 6, 7, 8, 9, 10, 11, 12, 13, 14, 15, 16, 17, 18, 19, 20, 21, 22, 23, 24, 25, 26, 27, 28, 29, 30, 31, 32, 33, 34, 35, 36, 37, 38, 39, 40, 41, 42] [220, 243, 276, 309, 352, 385, 408, 431, 474, 507, 540, 553, 586, 609, 642, 675, 708, 741, 784, 827, 860, 913, 956, 989, 1022, 1055, 1078, 1112, 1135, 1168, 1181, 1194, 1227, 1260, 1303, 1346, 1409, 1432, 1455, 1468, 1481, 1494, 1517] (dt := 1540) X dL_law_33 rfl (by decide +kernel) (by decide +kernel) (by decide) ⟨?_, ?_, ?_, ?_, ?_, ?_, ?_, ?_, ?_, ?_, ?_, ?_, ?_, ?_, ?_, ?_, ?_, ?_, ?_, ?_, ?_, ?_, ?_, ?_, ?_, ?_, ?_, ?_, ?_, ?_, ?_, ?_, ?_, ?_, ?_, ?_, ?_, ?_, ?_, ?_, ?_, ?_, ?_, trivial⟩ ?_
    · refine j_aload_n (i := 1) X dL_law_220 rfl rfl ?_
      refine j_aload_n (i := 0) X dL_law_221 rfl rfl ?_
      refine j_iload_n (i := 3) X dL_law_222 rfl rfl ?_
      refine j_iconst (v := 1) X dL_law_223 rfl ?_
      refine j_iadd X dL_law_224 ?_
      refine j_sld X hX hbl hnew dL_law_225 (fun h_2 => ?_)
      refine k_cVI (As := [.int (xs (v3 + 1).toNatClampNeg)]) (rest := []) (by decide) (cf_hd _) rfl X (ct_X3_rain l g (xs (v3 + 1).toNatClampNeg) M) wl_L_13 rfl rfl (by decide) (Nat.le_of_ble_eq_true rfl) dL_law_226 (fun r_4 M_3 => ?_)
      refine j_aload_n (i := 2) X dL_law_229 rfl rfl ?_
      refine j_aload_n (i := 0) X dL_law_230 rfl rfl ?_
      refine j_iload_n (i := 3) X dL_law_231 rfl rfl ?_
      refine j_iconst (v := 1) X dL_law_232 rfl ?_
      refine j_iadd X dL_law_233 ?_
      refine j_sld X hX hbl hnew dL_law_234 (fun h_5 => ?_)
      refine k_cVI (As := [.int (xs (v3 + 1).toNatClampNeg)]) (rest := [.int r_4]) (by decide) (cf_md _) rfl X (ct_X4_rain l g (xs (v3 + 1).toNatClampNeg) M_3) wl_L_17 rfl rfl (by decide) (Nat.le_of_ble_eq_true rfl) dL_law_235 (fun r_7 M_6 => ?_)
      refine j_icmp_eq (tgt := 1540) X dL_law_238 (by decide) ?_ ?_
      · refine j_iincB (i := 3) (y := v3 + 6) (Lf := fun v3_8 => [(0, .ref sb), (1, .ref (gA g 0)), (2, .ref (gA g 49)), (3, .int v3_8)]) X dL_law_1540 rfl rfl (by decide) (fun _ => rfl) (fun v3_8 => ?_)
        refine j_goto (tgt := 18) X dL_law_1543 (by decide) ?_
        exact hc18 (v3_8, M_6)
      · exact j_none
    · refine j_aload_n (i := 1) X dL_law_243 rfl rfl ?_
      refine j_aload_n (i := 0) X dL_law_244 rfl rfl ?_
      refine j_iload_n (i := 3) X dL_law_245 rfl rfl ?_
      refine j_iconst (v := 1) X dL_law_246 rfl ?_
      refine j_iadd X dL_law_247 ?_
      refine j_sld X hX hbl hnew dL_law_248 (fun h_9 => ?_)
      refine j_aload_n (i := 0) X dL_law_249 rfl rfl ?_
      refine j_iload_n (i := 3) X dL_law_250 rfl rfl ?_
      refine j_iconst (v := 2) X dL_law_251 rfl ?_
      refine j_iadd X dL_law_252 ?_
      refine j_sld X hX hbl hnew dL_law_253 (fun h_10 => ?_)
      refine k_cVI (As := [.int (xs (v3 + 1).toNatClampNeg), .int (xs (v3 + 2).toNatClampNeg)]) (rest := []) (by decide) (cf_hd _) rfl X (ct_X3_hill l g (xs (v3 + 1).toNatClampNeg) (xs (v3 + 2).toNatClampNeg) M) wl_L_18 rfl rfl (by decide) (Nat.le_of_ble_eq_true rfl) dL_law_254 (fun r_12 M_11 => ?_)
      refine j_aload_n (i := 2) X dL_law_257 rfl rfl ?_
      refine j_aload_n (i := 0) X dL_law_258 rfl rfl ?_
      refine j_iload_n (i := 3) X dL_law_259 rfl rfl ?_
      refine j_iconst (v := 1) X dL_law_260 rfl ?_
      refine j_iadd X dL_law_261 ?_
      refine j_sld X hX hbl hnew dL_law_262 (fun h_13 => ?_)
      refine j_aload_n (i := 0) X dL_law_263 rfl rfl ?_
      refine j_iload_n (i := 3) X dL_law_264 rfl rfl ?_
      refine j_iconst (v := 2) X dL_law_265 rfl ?_
      refine j_iadd X dL_law_266 ?_
      refine j_sld X hX hbl hnew dL_law_267 (fun h_14 => ?_)
      refine k_cVI (As := [.int (xs (v3 + 1).toNatClampNeg), .int (xs (v3 + 2).toNatClampNeg)]) (rest := [.int r_12]) (by decide) (cf_md _) rfl X (ct_X4_hill l g (xs (v3 + 1).toNatClampNeg) (xs (v3 + 2).toNatClampNeg) M_11) wl_L_22 rfl rfl (by decide) (Nat.le_of_ble_eq_true rfl) dL_law_268 (fun r_16 M_15 => ?_)
      refine j_icmp_eq (tgt := 1540) X dL_law_271 (by decide) ?_ ?_
      · refine j_iincB (i := 3) (y := v3 + 6) (Lf := fun v3_17 => [(0, .ref sb), (1, .ref (gA g 0)), (2, .ref (gA g 49)), (3, .int v3_17)]) X dL_law_1540 rfl rfl (by decide) (fun _ => rfl) (fun v3_17 => ?_)
        refine j_goto (tgt := 18) X dL_law_1543 (by decide) ?_
        exact hc18 (v3_17, M_15)
      · exact j_none
    · refine j_aload_n (i := 1) X dL_law_276 rfl rfl ?_
      refine j_aload_n (i := 0) X dL_law_277 rfl rfl ?_
      refine j_iload_n (i := 3) X dL_law_278 rfl rfl ?_
      refine j_iconst (v := 1) X dL_law_279 rfl ?_
      refine j_iadd X dL_law_280 ?_
      refine j_sld X hX hbl hnew dL_law_281 (fun h_18 => ?_)
      refine j_aload_n (i := 0) X dL_law_282 rfl rfl ?_
      refine j_iload_n (i := 3) X dL_law_283 rfl rfl ?_
      refine j_iconst (v := 2) X dL_law_284 rfl ?_
      refine j_iadd X dL_law_285 ?_
      refine j_sld X hX hbl hnew dL_law_286 (fun h_19 => ?_)
      refine k_cVI (As := [.int (xs (v3 + 1).toNatClampNeg), .int (xs (v3 + 2).toNatClampNeg)]) (rest := []) (by decide) (cf_hd _) rfl X (ct_X3_of l g (xs (v3 + 1).toNatClampNeg) (xs (v3 + 2).toNatClampNeg) M) wl_L_23 rfl rfl (by decide) (Nat.le_of_ble_eq_true rfl) dL_law_287 (fun r_21 M_20 => ?_)
      refine j_aload_n (i := 2) X dL_law_290 rfl rfl ?_
      refine j_aload_n (i := 0) X dL_law_291 rfl rfl ?_
      refine j_iload_n (i := 3) X dL_law_292 rfl rfl ?_
      refine j_iconst (v := 1) X dL_law_293 rfl ?_
      refine j_iadd X dL_law_294 ?_
      refine j_sld X hX hbl hnew dL_law_295 (fun h_22 => ?_)
      refine j_aload_n (i := 0) X dL_law_296 rfl rfl ?_
      refine j_iload_n (i := 3) X dL_law_297 rfl rfl ?_
      refine j_iconst (v := 2) X dL_law_298 rfl ?_
      refine j_iadd X dL_law_299 ?_
      refine j_sld X hX hbl hnew dL_law_300 (fun h_23 => ?_)
      refine k_cVI (As := [.int (xs (v3 + 1).toNatClampNeg), .int (xs (v3 + 2).toNatClampNeg)]) (rest := [.int r_21]) (by decide) (cf_md _) rfl X (ct_X4_of l g (xs (v3 + 1).toNatClampNeg) (xs (v3 + 2).toNatClampNeg) M_20) wl_L_26 rfl rfl (by decide) (Nat.le_of_ble_eq_true rfl) dL_law_301 (fun r_25 M_24 => ?_)
      refine j_icmp_eq (tgt := 1540) X dL_law_304 (by decide) ?_ ?_
      · refine j_iincB (i := 3) (y := v3 + 6) (Lf := fun v3_26 => [(0, .ref sb), (1, .ref (gA g 0)), (2, .ref (gA g 49)), (3, .int v3_26)]) X dL_law_1540 rfl rfl (by decide) (fun _ => rfl) (fun v3_26 => ?_)
        refine j_goto (tgt := 18) X dL_law_1543 (by decide) ?_
        exact hc18 (v3_26, M_24)
      · exact j_none
    · refine j_aload_n (i := 1) X dL_law_309 rfl rfl ?_
      refine j_aload_n (i := 0) X dL_law_310 rfl rfl ?_
      refine j_iload_n (i := 3) X dL_law_311 rfl rfl ?_
      refine j_iconst (v := 1) X dL_law_312 rfl ?_
      refine j_iadd X dL_law_313 ?_
      refine j_sld X hX hbl hnew dL_law_314 (fun h_27 => ?_)
      refine j_aload_n (i := 0) X dL_law_315 rfl rfl ?_
      refine j_iload_n (i := 3) X dL_law_316 rfl rfl ?_
      refine j_iconst (v := 2) X dL_law_317 rfl ?_
      refine j_iadd X dL_law_318 ?_
      refine j_sld X hX hbl hnew dL_law_319 (fun h_28 => ?_)
      refine j_aload_n (i := 0) X dL_law_320 rfl rfl ?_
      refine j_iload_n (i := 3) X dL_law_321 rfl rfl ?_
      refine j_iconst (v := 3) X dL_law_322 rfl ?_
      refine j_iadd X dL_law_323 ?_
      refine j_sld X hX hbl hnew dL_law_324 (fun h_29 => ?_)
      refine k_cVI (As := [.int (xs (v3 + 1).toNatClampNeg), .int (xs (v3 + 2).toNatClampNeg), .int (xs (v3 + 3).toNatClampNeg)]) (rest := []) (by decide) (cf_hd _) rfl X (ct_X3_change l g (xs (v3 + 1).toNatClampNeg) (xs (v3 + 2).toNatClampNeg) (xs (v3 + 3).toNatClampNeg) M) wl_L_27 rfl rfl (by decide) (Nat.le_of_ble_eq_true rfl) dL_law_325 (fun r_31 M_30 => ?_)
      refine j_aload_n (i := 2) X dL_law_328 rfl rfl ?_
      refine j_aload_n (i := 0) X dL_law_329 rfl rfl ?_
      refine j_iload_n (i := 3) X dL_law_330 rfl rfl ?_
      refine j_iconst (v := 1) X dL_law_331 rfl ?_
      refine j_iadd X dL_law_332 ?_
      refine j_sld X hX hbl hnew dL_law_333 (fun h_32 => ?_)
      refine j_aload_n (i := 0) X dL_law_334 rfl rfl ?_
      refine j_iload_n (i := 3) X dL_law_335 rfl rfl ?_
      refine j_iconst (v := 2) X dL_law_336 rfl ?_
      refine j_iadd X dL_law_337 ?_
      refine j_sld X hX hbl hnew dL_law_338 (fun h_33 => ?_)
      refine j_aload_n (i := 0) X dL_law_339 rfl rfl ?_
      refine j_iload_n (i := 3) X dL_law_340 rfl rfl ?_
      refine j_iconst (v := 3) X dL_law_341 rfl ?_
      refine j_iadd X dL_law_342 ?_
      refine j_sld X hX hbl hnew dL_law_343 (fun h_34 => ?_)
      refine k_cVI (As := [.int (xs (v3 + 1).toNatClampNeg), .int (xs (v3 + 2).toNatClampNeg), .int (xs (v3 + 3).toNatClampNeg)]) (rest := [.int r_31]) (by decide) (cf_md _) rfl X (ct_X4_change l g (xs (v3 + 1).toNatClampNeg) (xs (v3 + 2).toNatClampNeg) (xs (v3 + 3).toNatClampNeg) M_30) wl_L_31 rfl rfl (by decide) (Nat.le_of_ble_eq_true rfl) dL_law_344 (fun r_36 M_35 => ?_)
      refine j_icmp_eq (tgt := 1540) X dL_law_347 (by decide) ?_ ?_
      · refine j_iincB (i := 3) (y := v3 + 6) (Lf := fun v3_37 => [(0, .ref sb), (1, .ref (gA g 0)), (2, .ref (gA g 49)), (3, .int v3_37)]) X dL_law_1540 rfl rfl (by decide) (fun _ => rfl) (fun v3_37 => ?_)
        refine j_goto (tgt := 18) X dL_law_1543 (by decide) ?_
        exact hc18 (v3_37, M_35)
      · exact j_none
    · refine j_aload_n (i := 1) X dL_law_352 rfl rfl ?_
      refine j_aload_n (i := 0) X dL_law_353 rfl rfl ?_
      refine j_iload_n (i := 3) X dL_law_354 rfl rfl ?_
      refine j_iconst (v := 1) X dL_law_355 rfl ?_
      refine j_iadd X dL_law_356 ?_
      refine j_sld X hX hbl hnew dL_law_357 (fun h_38 => ?_)
      refine j_aload_n (i := 0) X dL_law_358 rfl rfl ?_
      refine j_iload_n (i := 3) X dL_law_359 rfl rfl ?_
      refine j_iconst (v := 2) X dL_law_360 rfl ?_
      refine j_iadd X dL_law_361 ?_
      refine j_sld X hX hbl hnew dL_law_362 (fun h_39 => ?_)
      refine k_cVI (As := [.int (xs (v3 + 1).toNatClampNeg), .int (xs (v3 + 2).toNatClampNeg)]) (rest := []) (by decide) (cf_hd _) rfl X (ct_X3_valley l g (xs (v3 + 1).toNatClampNeg) (xs (v3 + 2).toNatClampNeg) M) wl_L_32 rfl rfl (by decide) (Nat.le_of_ble_eq_true rfl) dL_law_363 (fun r_41 M_40 => ?_)
      refine j_aload_n (i := 2) X dL_law_366 rfl rfl ?_
      refine j_aload_n (i := 0) X dL_law_367 rfl rfl ?_
      refine j_iload_n (i := 3) X dL_law_368 rfl rfl ?_
      refine j_iconst (v := 1) X dL_law_369 rfl ?_
      refine j_iadd X dL_law_370 ?_
      refine j_sld X hX hbl hnew dL_law_371 (fun h_42 => ?_)
      refine j_aload_n (i := 0) X dL_law_372 rfl rfl ?_
      refine j_iload_n (i := 3) X dL_law_373 rfl rfl ?_
      refine j_iconst (v := 2) X dL_law_374 rfl ?_
      refine j_iadd X dL_law_375 ?_
      refine j_sld X hX hbl hnew dL_law_376 (fun h_43 => ?_)
      refine k_cVI (As := [.int (xs (v3 + 1).toNatClampNeg), .int (xs (v3 + 2).toNatClampNeg)]) (rest := [.int r_41]) (by decide) (cf_md _) rfl X (ct_X4_valley l g (xs (v3 + 1).toNatClampNeg) (xs (v3 + 2).toNatClampNeg) M_40) wl_L_35 rfl rfl (by decide) (Nat.le_of_ble_eq_true rfl) dL_law_377 (fun r_45 M_44 => ?_)
      refine j_icmp_eq (tgt := 1540) X dL_law_380 (by decide) ?_ ?_
      · refine j_iincB (i := 3) (y := v3 + 6) (Lf := fun v3_46 => [(0, .ref sb), (1, .ref (gA g 0)), (2, .ref (gA g 49)), (3, .int v3_46)]) X dL_law_1540 rfl rfl (by decide) (fun _ => rfl) (fun v3_46 => ?_)
        refine j_goto (tgt := 18) X dL_law_1543 (by decide) ?_
        exact hc18 (v3_46, M_44)
      · exact j_none
    · refine j_aload_n (i := 1) X dL_law_385 rfl rfl ?_
      refine j_aload_n (i := 0) X dL_law_386 rfl rfl ?_
      refine j_iload_n (i := 3) X dL_law_387 rfl rfl ?_
      refine j_iconst (v := 1) X dL_law_388 rfl ?_
      refine j_iadd X dL_law_389 ?_
      refine j_sld X hX hbl hnew dL_law_390 (fun h_47 => ?_)
      refine k_cVI (As := [.int (xs (v3 + 1).toNatClampNeg)]) (rest := []) (by decide) (cf_hd _) rfl X (ct_X3_go l g (xs (v3 + 1).toNatClampNeg) M) wl_L_36 rfl rfl (by decide) (Nat.le_of_ble_eq_true rfl) dL_law_391 (fun r_49 M_48 => ?_)
      refine j_aload_n (i := 2) X dL_law_394 rfl rfl ?_
      refine j_aload_n (i := 0) X dL_law_395 rfl rfl ?_
      refine j_iload_n (i := 3) X dL_law_396 rfl rfl ?_
      refine j_iconst (v := 1) X dL_law_397 rfl ?_
      refine j_iadd X dL_law_398 ?_
      refine j_sld X hX hbl hnew dL_law_399 (fun h_50 => ?_)
      refine k_cVI (As := [.int (xs (v3 + 1).toNatClampNeg)]) (rest := [.int r_49]) (by decide) (cf_md _) rfl X (ct_X4_go l g (xs (v3 + 1).toNatClampNeg) M_48) wl_L_39 rfl rfl (by decide) (Nat.le_of_ble_eq_true rfl) dL_law_400 (fun r_52 M_51 => ?_)
      refine j_icmp_eq (tgt := 1540) X dL_law_403 (by decide) ?_ ?_
      · refine j_iincB (i := 3) (y := v3 + 6) (Lf := fun v3_53 => [(0, .ref sb), (1, .ref (gA g 0)), (2, .ref (gA g 49)), (3, .int v3_53)]) X dL_law_1540 rfl rfl (by decide) (fun _ => rfl) (fun v3_53 => ?_)
        refine j_goto (tgt := 18) X dL_law_1543 (by decide) ?_
        exact hc18 (v3_53, M_51)
      · exact j_none
    · refine j_aload_n (i := 1) X dL_law_408 rfl rfl ?_
      refine j_aload_n (i := 0) X dL_law_409 rfl rfl ?_
      refine j_iload_n (i := 3) X dL_law_410 rfl rfl ?_
      refine j_iconst (v := 1) X dL_law_411 rfl ?_
      refine j_iadd X dL_law_412 ?_
      refine j_sld X hX hbl hnew dL_law_413 (fun h_54 => ?_)
      refine k_cVI (As := [.int (xs (v3 + 1).toNatClampNeg)]) (rest := []) (by decide) (cf_hd _) rfl X (ct_X3_now l g (xs (v3 + 1).toNatClampNeg) M) wl_L_40 rfl rfl (by decide) (Nat.le_of_ble_eq_true rfl) dL_law_414 (fun r_56 M_55 => ?_)
      refine j_aload_n (i := 2) X dL_law_417 rfl rfl ?_
      refine j_aload_n (i := 0) X dL_law_418 rfl rfl ?_
      refine j_iload_n (i := 3) X dL_law_419 rfl rfl ?_
      refine j_iconst (v := 1) X dL_law_420 rfl ?_
      refine j_iadd X dL_law_421 ?_
      refine j_sld X hX hbl hnew dL_law_422 (fun h_57 => ?_)
      refine k_cVI (As := [.int (xs (v3 + 1).toNatClampNeg)]) (rest := [.int r_56]) (by decide) (cf_md _) rfl X (ct_X4_now l g (xs (v3 + 1).toNatClampNeg) M_55) wl_L_43 rfl rfl (by decide) (Nat.le_of_ble_eq_true rfl) dL_law_423 (fun r_59 M_58 => ?_)
      refine j_icmp_eq (tgt := 1540) X dL_law_426 (by decide) ?_ ?_
      · refine j_iincB (i := 3) (y := v3 + 6) (Lf := fun v3_60 => [(0, .ref sb), (1, .ref (gA g 0)), (2, .ref (gA g 49)), (3, .int v3_60)]) X dL_law_1540 rfl rfl (by decide) (fun _ => rfl) (fun v3_60 => ?_)
        refine j_goto (tgt := 18) X dL_law_1543 (by decide) ?_
        exact hc18 (v3_60, M_58)
      · exact j_none
    · refine j_aload_n (i := 1) X dL_law_431 rfl rfl ?_
      refine j_aload_n (i := 0) X dL_law_432 rfl rfl ?_
      refine j_iload_n (i := 3) X dL_law_433 rfl rfl ?_
      refine j_iconst (v := 1) X dL_law_434 rfl ?_
      refine j_iadd X dL_law_435 ?_
      refine j_sld X hX hbl hnew dL_law_436 (fun h_61 => ?_)
      refine j_aload_n (i := 0) X dL_law_437 rfl rfl ?_
      refine j_iload_n (i := 3) X dL_law_438 rfl rfl ?_
      refine j_iconst (v := 2) X dL_law_439 rfl ?_
      refine j_iadd X dL_law_440 ?_
      refine j_sld X hX hbl hnew dL_law_441 (fun h_62 => ?_)
      refine j_aload_n (i := 0) X dL_law_442 rfl rfl ?_
      refine j_iload_n (i := 3) X dL_law_443 rfl rfl ?_
      refine j_iconst (v := 3) X dL_law_444 rfl ?_
      refine j_iadd X dL_law_445 ?_
      refine j_sld X hX hbl hnew dL_law_446 (fun h_63 => ?_)
      refine k_cVI (As := [.int (xs (v3 + 1).toNatClampNeg), .int (xs (v3 + 2).toNatClampNeg), .int (xs (v3 + 3).toNatClampNeg)]) (rest := []) (by decide) (cf_hd _) rfl X (ct_X3_ahead l g (xs (v3 + 1).toNatClampNeg) (xs (v3 + 2).toNatClampNeg) (xs (v3 + 3).toNatClampNeg) M) wl_L_44 rfl rfl (by decide) (Nat.le_of_ble_eq_true rfl) dL_law_447 (fun r_65 M_64 => ?_)
      refine j_aload_n (i := 2) X dL_law_450 rfl rfl ?_
      refine j_aload_n (i := 0) X dL_law_451 rfl rfl ?_
      refine j_iload_n (i := 3) X dL_law_452 rfl rfl ?_
      refine j_iconst (v := 1) X dL_law_453 rfl ?_
      refine j_iadd X dL_law_454 ?_
      refine j_sld X hX hbl hnew dL_law_455 (fun h_66 => ?_)
      refine j_aload_n (i := 0) X dL_law_456 rfl rfl ?_
      refine j_iload_n (i := 3) X dL_law_457 rfl rfl ?_
      refine j_iconst (v := 2) X dL_law_458 rfl ?_
      refine j_iadd X dL_law_459 ?_
      refine j_sld X hX hbl hnew dL_law_460 (fun h_67 => ?_)
      refine j_aload_n (i := 0) X dL_law_461 rfl rfl ?_
      refine j_iload_n (i := 3) X dL_law_462 rfl rfl ?_
      refine j_iconst (v := 3) X dL_law_463 rfl ?_
      refine j_iadd X dL_law_464 ?_
      refine j_sld X hX hbl hnew dL_law_465 (fun h_68 => ?_)
      refine k_cVI (As := [.int (xs (v3 + 1).toNatClampNeg), .int (xs (v3 + 2).toNatClampNeg), .int (xs (v3 + 3).toNatClampNeg)]) (rest := [.int r_65]) (by decide) (cf_md _) rfl X (ct_X4_ahead l g (xs (v3 + 1).toNatClampNeg) (xs (v3 + 2).toNatClampNeg) (xs (v3 + 3).toNatClampNeg) M_64) wl_L_47 rfl rfl (by decide) (Nat.le_of_ble_eq_true rfl) dL_law_466 (fun r_70 M_69 => ?_)
      refine j_icmp_eq (tgt := 1540) X dL_law_469 (by decide) ?_ ?_
      · refine j_iincB (i := 3) (y := v3 + 6) (Lf := fun v3_71 => [(0, .ref sb), (1, .ref (gA g 0)), (2, .ref (gA g 49)), (3, .int v3_71)]) X dL_law_1540 rfl rfl (by decide) (fun _ => rfl) (fun v3_71 => ?_)
        refine j_goto (tgt := 18) X dL_law_1543 (by decide) ?_
        exact hc18 (v3_71, M_69)
      · exact j_none
    · refine j_aload_n (i := 1) X dL_law_474 rfl rfl ?_
      refine j_aload_n (i := 0) X dL_law_475 rfl rfl ?_
      refine j_iload_n (i := 3) X dL_law_476 rfl rfl ?_
      refine j_iconst (v := 1) X dL_law_477 rfl ?_
      refine j_iadd X dL_law_478 ?_
      refine j_sld X hX hbl hnew dL_law_479 (fun h_72 => ?_)
      refine j_aload_n (i := 0) X dL_law_480 rfl rfl ?_
      refine j_iload_n (i := 3) X dL_law_481 rfl rfl ?_
      refine j_iconst (v := 2) X dL_law_482 rfl ?_
      refine j_iadd X dL_law_483 ?_
      refine j_sld X hX hbl hnew dL_law_484 (fun h_73 => ?_)
      refine k_cVI (As := [.int (xs (v3 + 1).toNatClampNeg), .int (xs (v3 + 2).toNatClampNeg)]) (rest := []) (by decide) (cf_hd _) rfl X (ct_X3_when l g (xs (v3 + 1).toNatClampNeg) (xs (v3 + 2).toNatClampNeg) M) wl_L_48 rfl rfl (by decide) (Nat.le_of_ble_eq_true rfl) dL_law_485 (fun r_75 M_74 => ?_)
      refine j_aload_n (i := 2) X dL_law_488 rfl rfl ?_
      refine j_aload_n (i := 0) X dL_law_489 rfl rfl ?_
      refine j_iload_n (i := 3) X dL_law_490 rfl rfl ?_
      refine j_iconst (v := 1) X dL_law_491 rfl ?_
      refine j_iadd X dL_law_492 ?_
      refine j_sld X hX hbl hnew dL_law_493 (fun h_76 => ?_)
      refine j_aload_n (i := 0) X dL_law_494 rfl rfl ?_
      refine j_iload_n (i := 3) X dL_law_495 rfl rfl ?_
      refine j_iconst (v := 2) X dL_law_496 rfl ?_
      refine j_iadd X dL_law_497 ?_
      refine j_sld X hX hbl hnew dL_law_498 (fun h_77 => ?_)
      refine k_cVI (As := [.int (xs (v3 + 1).toNatClampNeg), .int (xs (v3 + 2).toNatClampNeg)]) (rest := [.int r_75]) (by decide) (cf_md _) rfl X (ct_X4_when l g (xs (v3 + 1).toNatClampNeg) (xs (v3 + 2).toNatClampNeg) M_74) wl_L_51 rfl rfl (by decide) (Nat.le_of_ble_eq_true rfl) dL_law_499 (fun r_79 M_78 => ?_)
      refine j_icmp_eq (tgt := 1540) X dL_law_502 (by decide) ?_ ?_
      · refine j_iincB (i := 3) (y := v3 + 6) (Lf := fun v3_80 => [(0, .ref sb), (1, .ref (gA g 0)), (2, .ref (gA g 49)), (3, .int v3_80)]) X dL_law_1540 rfl rfl (by decide) (fun _ => rfl) (fun v3_80 => ?_)
        refine j_goto (tgt := 18) X dL_law_1543 (by decide) ?_
        exact hc18 (v3_80, M_78)
      · exact j_none
    · refine j_aload_n (i := 1) X dL_law_507 rfl rfl ?_
      refine j_aload_n (i := 0) X dL_law_508 rfl rfl ?_
      refine j_iload_n (i := 3) X dL_law_509 rfl rfl ?_
      refine j_iconst (v := 1) X dL_law_510 rfl ?_
      refine j_iadd X dL_law_511 ?_
      refine j_sld X hX hbl hnew dL_law_512 (fun h_81 => ?_)
      refine j_aload_n (i := 0) X dL_law_513 rfl rfl ?_
      refine j_iload_n (i := 3) X dL_law_514 rfl rfl ?_
      refine j_iconst (v := 2) X dL_law_515 rfl ?_
      refine j_iadd X dL_law_516 ?_
      refine j_sld X hX hbl hnew dL_law_517 (fun h_82 => ?_)
      refine k_cVI (As := [.int (xs (v3 + 1).toNatClampNeg), .int (xs (v3 + 2).toNatClampNeg)]) (rest := []) (by decide) (cf_hd _) rfl X (ct_X3_meet l g (xs (v3 + 1).toNatClampNeg) (xs (v3 + 2).toNatClampNeg) M) wl_L_52 rfl rfl (by decide) (Nat.le_of_ble_eq_true rfl) dL_law_518 (fun r_84 M_83 => ?_)
      refine j_aload_n (i := 2) X dL_law_521 rfl rfl ?_
      refine j_aload_n (i := 0) X dL_law_522 rfl rfl ?_
      refine j_iload_n (i := 3) X dL_law_523 rfl rfl ?_
      refine j_iconst (v := 1) X dL_law_524 rfl ?_
      refine j_iadd X dL_law_525 ?_
      refine j_sld X hX hbl hnew dL_law_526 (fun h_85 => ?_)
      refine j_aload_n (i := 0) X dL_law_527 rfl rfl ?_
      refine j_iload_n (i := 3) X dL_law_528 rfl rfl ?_
      refine j_iconst (v := 2) X dL_law_529 rfl ?_
      refine j_iadd X dL_law_530 ?_
      refine j_sld X hX hbl hnew dL_law_531 (fun h_86 => ?_)
      refine k_cVI (As := [.int (xs (v3 + 1).toNatClampNeg), .int (xs (v3 + 2).toNatClampNeg)]) (rest := [.int r_84]) (by decide) (cf_md _) rfl X (ct_X4_meet l g (xs (v3 + 1).toNatClampNeg) (xs (v3 + 2).toNatClampNeg) M_83) wl_L_55 rfl rfl (by decide) (Nat.le_of_ble_eq_true rfl) dL_law_532 (fun r_88 M_87 => ?_)
      refine j_icmp_eq (tgt := 1540) X dL_law_535 (by decide) ?_ ?_
      · refine j_iincB (i := 3) (y := v3 + 6) (Lf := fun v3_89 => [(0, .ref sb), (1, .ref (gA g 0)), (2, .ref (gA g 49)), (3, .int v3_89)]) X dL_law_1540 rfl rfl (by decide) (fun _ => rfl) (fun v3_89 => ?_)
        refine j_goto (tgt := 18) X dL_law_1543 (by decide) ?_
        exact hc18 (v3_89, M_87)
      · exact j_none
    · refine j_aload_n (i := 1) X dL_law_540 rfl rfl ?_
      refine k_cVI (As := []) (rest := []) (by decide) (cf_hd _) rfl X (ct_X3_round l g M) wl_L_56 rfl rfl (by decide) (Nat.le_of_ble_eq_true rfl) dL_law_541 (fun r_91 M_90 => ?_)
      refine j_aload_n (i := 2) X dL_law_544 rfl rfl ?_
      refine k_cVI (As := []) (rest := [.int r_91]) (by decide) (cf_md _) rfl X (ct_X4_round l g M_90) wl_L_60 rfl rfl (by decide) (Nat.le_of_ble_eq_true rfl) dL_law_545 (fun r_93 M_92 => ?_)
      refine j_icmp_eq (tgt := 1540) X dL_law_548 (by decide) ?_ ?_
      · refine j_iincB (i := 3) (y := v3 + 6) (Lf := fun v3_94 => [(0, .ref sb), (1, .ref (gA g 0)), (2, .ref (gA g 49)), (3, .int v3_94)]) X dL_law_1540 rfl rfl (by decide) (fun _ => rfl) (fun v3_94 => ?_)
        refine j_goto (tgt := 18) X dL_law_1543 (by decide) ?_
        exact hc18 (v3_94, M_92)
      · exact j_none
    · refine j_aload_n (i := 1) X dL_law_553 rfl rfl ?_
      refine j_aload_n (i := 0) X dL_law_554 rfl rfl ?_
      refine j_iload_n (i := 3) X dL_law_555 rfl rfl ?_
      refine j_iconst (v := 1) X dL_law_556 rfl ?_
      refine j_iadd X dL_law_557 ?_
      refine j_sld X hX hbl hnew dL_law_558 (fun h_95 => ?_)
      refine j_aload_n (i := 0) X dL_law_559 rfl rfl ?_
      refine j_iload_n (i := 3) X dL_law_560 rfl rfl ?_
      refine j_iconst (v := 2) X dL_law_561 rfl ?_
      refine j_iadd X dL_law_562 ?_
      refine j_sld X hX hbl hnew dL_law_563 (fun h_96 => ?_)
      refine k_cVI (As := [.int (xs (v3 + 1).toNatClampNeg), .int (xs (v3 + 2).toNatClampNeg)]) (rest := []) (by decide) (cf_hd _) rfl X (ct_X3_skylines l g (xs (v3 + 1).toNatClampNeg) (xs (v3 + 2).toNatClampNeg) M) wl_L_61 rfl rfl (by decide) (Nat.le_of_ble_eq_true rfl) dL_law_564 (fun r_98 M_97 => ?_)
      refine j_aload_n (i := 2) X dL_law_567 rfl rfl ?_
      refine j_aload_n (i := 0) X dL_law_568 rfl rfl ?_
      refine j_iload_n (i := 3) X dL_law_569 rfl rfl ?_
      refine j_iconst (v := 1) X dL_law_570 rfl ?_
      refine j_iadd X dL_law_571 ?_
      refine j_sld X hX hbl hnew dL_law_572 (fun h_99 => ?_)
      refine j_aload_n (i := 0) X dL_law_573 rfl rfl ?_
      refine j_iload_n (i := 3) X dL_law_574 rfl rfl ?_
      refine j_iconst (v := 2) X dL_law_575 rfl ?_
      refine j_iadd X dL_law_576 ?_
      refine j_sld X hX hbl hnew dL_law_577 (fun h_100 => ?_)
      refine k_cVI (As := [.int (xs (v3 + 1).toNatClampNeg), .int (xs (v3 + 2).toNatClampNeg)]) (rest := [.int r_98]) (by decide) (cf_md _) rfl X (ct_X4_skylines l g (xs (v3 + 1).toNatClampNeg) (xs (v3 + 2).toNatClampNeg) M_97) wl_L_64 rfl rfl (by decide) (Nat.le_of_ble_eq_true rfl) dL_law_578 (fun r_102 M_101 => ?_)
      refine j_icmp_eq (tgt := 1540) X dL_law_581 (by decide) ?_ ?_
      · refine j_iincB (i := 3) (y := v3 + 6) (Lf := fun v3_103 => [(0, .ref sb), (1, .ref (gA g 0)), (2, .ref (gA g 49)), (3, .int v3_103)]) X dL_law_1540 rfl rfl (by decide) (fun _ => rfl) (fun v3_103 => ?_)
        refine j_goto (tgt := 18) X dL_law_1543 (by decide) ?_
        exact hc18 (v3_103, M_101)
      · exact j_none
    · refine j_aload_n (i := 1) X dL_law_586 rfl rfl ?_
      refine j_aload_n (i := 0) X dL_law_587 rfl rfl ?_
      refine j_iload_n (i := 3) X dL_law_588 rfl rfl ?_
      refine j_iconst (v := 1) X dL_law_589 rfl ?_
      refine j_iadd X dL_law_590 ?_
      refine j_sld X hX hbl hnew dL_law_591 (fun h_104 => ?_)
      refine k_cVI (As := [.int (xs (v3 + 1).toNatClampNeg)]) (rest := []) (by decide) (cf_hd _) rfl X (ct_X3_wallflowers l g (xs (v3 + 1).toNatClampNeg) M) wl_L_65 rfl rfl (by decide) (Nat.le_of_ble_eq_true rfl) dL_law_592 (fun r_106 M_105 => ?_)
      refine j_aload_n (i := 2) X dL_law_595 rfl rfl ?_
      refine j_aload_n (i := 0) X dL_law_596 rfl rfl ?_
      refine j_iload_n (i := 3) X dL_law_597 rfl rfl ?_
      refine j_iconst (v := 1) X dL_law_598 rfl ?_
      refine j_iadd X dL_law_599 ?_
      refine j_sld X hX hbl hnew dL_law_600 (fun h_107 => ?_)
      refine k_cVI (As := [.int (xs (v3 + 1).toNatClampNeg)]) (rest := [.int r_106]) (by decide) (cf_md _) rfl X (ct_X4_wallflowers l g (xs (v3 + 1).toNatClampNeg) M_105) wl_L_68 rfl rfl (by decide) (Nat.le_of_ble_eq_true rfl) dL_law_601 (fun r_109 M_108 => ?_)
      refine j_icmp_eq (tgt := 1540) X dL_law_604 (by decide) ?_ ?_
      · refine j_iincB (i := 3) (y := v3 + 6) (Lf := fun v3_110 => [(0, .ref sb), (1, .ref (gA g 0)), (2, .ref (gA g 49)), (3, .int v3_110)]) X dL_law_1540 rfl rfl (by decide) (fun _ => rfl) (fun v3_110 => ?_)
        refine j_goto (tgt := 18) X dL_law_1543 (by decide) ?_
        exact hc18 (v3_110, M_108)
      · exact j_none
    · refine j_aload_n (i := 1) X dL_law_609 rfl rfl ?_
      refine j_aload_n (i := 0) X dL_law_610 rfl rfl ?_
      refine j_iload_n (i := 3) X dL_law_611 rfl rfl ?_
      refine j_iconst (v := 1) X dL_law_612 rfl ?_
      refine j_iadd X dL_law_613 ?_
      refine j_sld X hX hbl hnew dL_law_614 (fun h_111 => ?_)
      refine j_aload_n (i := 0) X dL_law_615 rfl rfl ?_
      refine j_iload_n (i := 3) X dL_law_616 rfl rfl ?_
      refine j_iconst (v := 2) X dL_law_617 rfl ?_
      refine j_iadd X dL_law_618 ?_
      refine j_sld X hX hbl hnew dL_law_619 (fun h_112 => ?_)
      refine k_cVI (As := [.int (xs (v3 + 1).toNatClampNeg), .int (xs (v3 + 2).toNatClampNeg)]) (rest := []) (by decide) (cf_hd _) rfl X (ct_X3_stand l g (xs (v3 + 1).toNatClampNeg) (xs (v3 + 2).toNatClampNeg) M) wl_L_69 rfl rfl (by decide) (Nat.le_of_ble_eq_true rfl) dL_law_620 (fun r_114 M_113 => ?_)
      refine j_aload_n (i := 2) X dL_law_623 rfl rfl ?_
      refine j_aload_n (i := 0) X dL_law_624 rfl rfl ?_
      refine j_iload_n (i := 3) X dL_law_625 rfl rfl ?_
      refine j_iconst (v := 1) X dL_law_626 rfl ?_
      refine j_iadd X dL_law_627 ?_
      refine j_sld X hX hbl hnew dL_law_628 (fun h_115 => ?_)
      refine j_aload_n (i := 0) X dL_law_629 rfl rfl ?_
      refine j_iload_n (i := 3) X dL_law_630 rfl rfl ?_
      refine j_iconst (v := 2) X dL_law_631 rfl ?_
      refine j_iadd X dL_law_632 ?_
      refine j_sld X hX hbl hnew dL_law_633 (fun h_116 => ?_)
      refine k_cVI (As := [.int (xs (v3 + 1).toNatClampNeg), .int (xs (v3 + 2).toNatClampNeg)]) (rest := [.int r_114]) (by decide) (cf_md _) rfl X (ct_X4_stand l g (xs (v3 + 1).toNatClampNeg) (xs (v3 + 2).toNatClampNeg) M_113) wl_L_72 rfl rfl (by decide) (Nat.le_of_ble_eq_true rfl) dL_law_634 (fun r_118 M_117 => ?_)
      refine j_icmp_eq (tgt := 1540) X dL_law_637 (by decide) ?_ ?_
      · refine j_iincB (i := 3) (y := v3 + 6) (Lf := fun v3_119 => [(0, .ref sb), (1, .ref (gA g 0)), (2, .ref (gA g 49)), (3, .int v3_119)]) X dL_law_1540 rfl rfl (by decide) (fun _ => rfl) (fun v3_119 => ?_)
        refine j_goto (tgt := 18) X dL_law_1543 (by decide) ?_
        exact hc18 (v3_119, M_117)
      · exact j_none
    · refine j_aload_n (i := 1) X dL_law_642 rfl rfl ?_
      refine j_aload_n (i := 0) X dL_law_643 rfl rfl ?_
      refine j_iload_n (i := 3) X dL_law_644 rfl rfl ?_
      refine j_iconst (v := 1) X dL_law_645 rfl ?_
      refine j_iadd X dL_law_646 ?_
      refine j_sld X hX hbl hnew dL_law_647 (fun h_120 => ?_)
      refine j_aload_n (i := 0) X dL_law_648 rfl rfl ?_
      refine j_iload_n (i := 3) X dL_law_649 rfl rfl ?_
      refine j_iconst (v := 2) X dL_law_650 rfl ?_
      refine j_iadd X dL_law_651 ?_
      refine j_sld X hX hbl hnew dL_law_652 (fun h_121 => ?_)
      refine k_cVI (As := [.int (xs (v3 + 1).toNatClampNeg), .int (xs (v3 + 2).toNatClampNeg)]) (rest := []) (by decide) (cf_hd _) rfl X (ct_X3_stepFor l g (xs (v3 + 1).toNatClampNeg) (xs (v3 + 2).toNatClampNeg) M) wl_L_73 rfl rfl (by decide) (Nat.le_of_ble_eq_true rfl) dL_law_653 (fun r_123 M_122 => ?_)
      refine j_aload_n (i := 2) X dL_law_656 rfl rfl ?_
      refine j_aload_n (i := 0) X dL_law_657 rfl rfl ?_
      refine j_iload_n (i := 3) X dL_law_658 rfl rfl ?_
      refine j_iconst (v := 1) X dL_law_659 rfl ?_
      refine j_iadd X dL_law_660 ?_
      refine j_sld X hX hbl hnew dL_law_661 (fun h_124 => ?_)
      refine j_aload_n (i := 0) X dL_law_662 rfl rfl ?_
      refine j_iload_n (i := 3) X dL_law_663 rfl rfl ?_
      refine j_iconst (v := 2) X dL_law_664 rfl ?_
      refine j_iadd X dL_law_665 ?_
      refine j_sld X hX hbl hnew dL_law_666 (fun h_125 => ?_)
      refine k_cVI (As := [.int (xs (v3 + 1).toNatClampNeg), .int (xs (v3 + 2).toNatClampNeg)]) (rest := [.int r_123]) (by decide) (cf_md _) rfl X (ct_X4_stepFor l g (xs (v3 + 1).toNatClampNeg) (xs (v3 + 2).toNatClampNeg) M_122) wl_L_76 rfl rfl (by decide) (Nat.le_of_ble_eq_true rfl) dL_law_667 (fun r_127 M_126 => ?_)
      refine j_icmp_eq (tgt := 1540) X dL_law_670 (by decide) ?_ ?_
      · refine j_iincB (i := 3) (y := v3 + 6) (Lf := fun v3_128 => [(0, .ref sb), (1, .ref (gA g 0)), (2, .ref (gA g 49)), (3, .int v3_128)]) X dL_law_1540 rfl rfl (by decide) (fun _ => rfl) (fun v3_128 => ?_)
        refine j_goto (tgt := 18) X dL_law_1543 (by decide) ?_
        exact hc18 (v3_128, M_126)
      · exact j_none
    · refine j_aload_n (i := 1) X dL_law_675 rfl rfl ?_
      refine j_aload_n (i := 0) X dL_law_676 rfl rfl ?_
      refine j_iload_n (i := 3) X dL_law_677 rfl rfl ?_
      refine j_iconst (v := 1) X dL_law_678 rfl ?_
      refine j_iadd X dL_law_679 ?_
      refine j_sld X hX hbl hnew dL_law_680 (fun h_129 => ?_)
      refine j_aload_n (i := 0) X dL_law_681 rfl rfl ?_
      refine j_iload_n (i := 3) X dL_law_682 rfl rfl ?_
      refine j_iconst (v := 2) X dL_law_683 rfl ?_
      refine j_iadd X dL_law_684 ?_
      refine j_sld X hX hbl hnew dL_law_685 (fun h_130 => ?_)
      refine k_cVI (As := [.int (xs (v3 + 1).toNatClampNeg), .int (xs (v3 + 2).toNatClampNeg)]) (rest := []) (by decide) (cf_hd _) rfl X (ct_X3_turnFor l g (xs (v3 + 1).toNatClampNeg) (xs (v3 + 2).toNatClampNeg) M) wl_L_77 rfl rfl (by decide) (Nat.le_of_ble_eq_true rfl) dL_law_686 (fun r_132 M_131 => ?_)
      refine j_aload_n (i := 2) X dL_law_689 rfl rfl ?_
      refine j_aload_n (i := 0) X dL_law_690 rfl rfl ?_
      refine j_iload_n (i := 3) X dL_law_691 rfl rfl ?_
      refine j_iconst (v := 1) X dL_law_692 rfl ?_
      refine j_iadd X dL_law_693 ?_
      refine j_sld X hX hbl hnew dL_law_694 (fun h_133 => ?_)
      refine j_aload_n (i := 0) X dL_law_695 rfl rfl ?_
      refine j_iload_n (i := 3) X dL_law_696 rfl rfl ?_
      refine j_iconst (v := 2) X dL_law_697 rfl ?_
      refine j_iadd X dL_law_698 ?_
      refine j_sld X hX hbl hnew dL_law_699 (fun h_134 => ?_)
      refine k_cVI (As := [.int (xs (v3 + 1).toNatClampNeg), .int (xs (v3 + 2).toNatClampNeg)]) (rest := [.int r_132]) (by decide) (cf_md _) rfl X (ct_X4_turnFor l g (xs (v3 + 1).toNatClampNeg) (xs (v3 + 2).toNatClampNeg) M_131) wl_L_80 rfl rfl (by decide) (Nat.le_of_ble_eq_true rfl) dL_law_700 (fun r_136 M_135 => ?_)
      refine j_icmp_eq (tgt := 1540) X dL_law_703 (by decide) ?_ ?_
      · refine j_iincB (i := 3) (y := v3 + 6) (Lf := fun v3_137 => [(0, .ref sb), (1, .ref (gA g 0)), (2, .ref (gA g 49)), (3, .int v3_137)]) X dL_law_1540 rfl rfl (by decide) (fun _ => rfl) (fun v3_137 => ?_)
        refine j_goto (tgt := 18) X dL_law_1543 (by decide) ?_
        exact hc18 (v3_137, M_135)
      · exact j_none
    · refine j_aload_n (i := 1) X dL_law_708 rfl rfl ?_
      refine j_aload_n (i := 0) X dL_law_709 rfl rfl ?_
      refine j_iload_n (i := 3) X dL_law_710 rfl rfl ?_
      refine j_iconst (v := 1) X dL_law_711 rfl ?_
      refine j_iadd X dL_law_712 ?_
      refine j_sld X hX hbl hnew dL_law_713 (fun h_138 => ?_)
      refine j_aload_n (i := 0) X dL_law_714 rfl rfl ?_
      refine j_iload_n (i := 3) X dL_law_715 rfl rfl ?_
      refine j_iconst (v := 2) X dL_law_716 rfl ?_
      refine j_iadd X dL_law_717 ?_
      refine j_sld X hX hbl hnew dL_law_718 (fun h_139 => ?_)
      refine k_cVI (As := [.int (xs (v3 + 1).toNatClampNeg), .int (xs (v3 + 2).toNatClampNeg)]) (rest := []) (by decide) (cf_hd _) rfl X (ct_X3_kindFor l g (xs (v3 + 1).toNatClampNeg) (xs (v3 + 2).toNatClampNeg) M) wl_L_81 rfl rfl (by decide) (Nat.le_of_ble_eq_true rfl) dL_law_719 (fun r_141 M_140 => ?_)
      refine j_aload_n (i := 2) X dL_law_722 rfl rfl ?_
      refine j_aload_n (i := 0) X dL_law_723 rfl rfl ?_
      refine j_iload_n (i := 3) X dL_law_724 rfl rfl ?_
      refine j_iconst (v := 1) X dL_law_725 rfl ?_
      refine j_iadd X dL_law_726 ?_
      refine j_sld X hX hbl hnew dL_law_727 (fun h_142 => ?_)
      refine j_aload_n (i := 0) X dL_law_728 rfl rfl ?_
      refine j_iload_n (i := 3) X dL_law_729 rfl rfl ?_
      refine j_iconst (v := 2) X dL_law_730 rfl ?_
      refine j_iadd X dL_law_731 ?_
      refine j_sld X hX hbl hnew dL_law_732 (fun h_143 => ?_)
      refine k_cVI (As := [.int (xs (v3 + 1).toNatClampNeg), .int (xs (v3 + 2).toNatClampNeg)]) (rest := [.int r_141]) (by decide) (cf_md _) rfl X (ct_X4_kindFor l g (xs (v3 + 1).toNatClampNeg) (xs (v3 + 2).toNatClampNeg) M_140) wl_L_84 rfl rfl (by decide) (Nat.le_of_ble_eq_true rfl) dL_law_733 (fun r_145 M_144 => ?_)
      refine j_icmp_eq (tgt := 1540) X dL_law_736 (by decide) ?_ ?_
      · refine j_iincB (i := 3) (y := v3 + 6) (Lf := fun v3_146 => [(0, .ref sb), (1, .ref (gA g 0)), (2, .ref (gA g 49)), (3, .int v3_146)]) X dL_law_1540 rfl rfl (by decide) (fun _ => rfl) (fun v3_146 => ?_)
        refine j_goto (tgt := 18) X dL_law_1543 (by decide) ?_
        exact hc18 (v3_146, M_144)
      · exact j_none
    · refine j_aload_n (i := 1) X dL_law_741 rfl rfl ?_
      refine j_aload_n (i := 0) X dL_law_742 rfl rfl ?_
      refine j_iload_n (i := 3) X dL_law_743 rfl rfl ?_
      refine j_iconst (v := 1) X dL_law_744 rfl ?_
      refine j_iadd X dL_law_745 ?_
      refine j_sld X hX hbl hnew dL_law_746 (fun h_147 => ?_)
      refine j_aload_n (i := 0) X dL_law_747 rfl rfl ?_
      refine j_iload_n (i := 3) X dL_law_748 rfl rfl ?_
      refine j_iconst (v := 2) X dL_law_749 rfl ?_
      refine j_iadd X dL_law_750 ?_
      refine j_sld X hX hbl hnew dL_law_751 (fun h_148 => ?_)
      refine j_aload_n (i := 0) X dL_law_752 rfl rfl ?_
      refine j_iload_n (i := 3) X dL_law_753 rfl rfl ?_
      refine j_iconst (v := 3) X dL_law_754 rfl ?_
      refine j_iadd X dL_law_755 ?_
      refine j_sld X hX hbl hnew dL_law_756 (fun h_149 => ?_)
      refine k_cVI (As := [.int (xs (v3 + 1).toNatClampNeg), .int (xs (v3 + 2).toNatClampNeg), .int (xs (v3 + 3).toNatClampNeg)]) (rest := []) (by decide) (cf_hd _) rfl X (ct_X3_rainFor l g (xs (v3 + 1).toNatClampNeg) (xs (v3 + 2).toNatClampNeg) (xs (v3 + 3).toNatClampNeg) M) wl_L_85 rfl rfl (by decide) (Nat.le_of_ble_eq_true rfl) dL_law_757 (fun r_151 M_150 => ?_)
      refine j_aload_n (i := 2) X dL_law_760 rfl rfl ?_
      refine j_aload_n (i := 0) X dL_law_761 rfl rfl ?_
      refine j_iload_n (i := 3) X dL_law_762 rfl rfl ?_
      refine j_iconst (v := 1) X dL_law_763 rfl ?_
      refine j_iadd X dL_law_764 ?_
      refine j_sld X hX hbl hnew dL_law_765 (fun h_152 => ?_)
      refine j_aload_n (i := 0) X dL_law_766 rfl rfl ?_
      refine j_iload_n (i := 3) X dL_law_767 rfl rfl ?_
      refine j_iconst (v := 2) X dL_law_768 rfl ?_
      refine j_iadd X dL_law_769 ?_
      refine j_sld X hX hbl hnew dL_law_770 (fun h_153 => ?_)
      refine j_aload_n (i := 0) X dL_law_771 rfl rfl ?_
      refine j_iload_n (i := 3) X dL_law_772 rfl rfl ?_
      refine j_iconst (v := 3) X dL_law_773 rfl ?_
      refine j_iadd X dL_law_774 ?_
      refine j_sld X hX hbl hnew dL_law_775 (fun h_154 => ?_)
      refine k_cVI (As := [.int (xs (v3 + 1).toNatClampNeg), .int (xs (v3 + 2).toNatClampNeg), .int (xs (v3 + 3).toNatClampNeg)]) (rest := [.int r_151]) (by decide) (cf_md _) rfl X (ct_X4_rainFor l g (xs (v3 + 1).toNatClampNeg) (xs (v3 + 2).toNatClampNeg) (xs (v3 + 3).toNatClampNeg) M_150) wl_L_88 rfl rfl (by decide) (Nat.le_of_ble_eq_true rfl) dL_law_776 (fun r_156 M_155 => ?_)
      refine j_icmp_eq (tgt := 1540) X dL_law_779 (by decide) ?_ ?_
      · refine j_iincB (i := 3) (y := v3 + 6) (Lf := fun v3_157 => [(0, .ref sb), (1, .ref (gA g 0)), (2, .ref (gA g 49)), (3, .int v3_157)]) X dL_law_1540 rfl rfl (by decide) (fun _ => rfl) (fun v3_157 => ?_)
        refine j_goto (tgt := 18) X dL_law_1543 (by decide) ?_
        exact hc18 (v3_157, M_155)
      · exact j_none
    · refine j_aload_n (i := 1) X dL_law_784 rfl rfl ?_
      refine j_aload_n (i := 0) X dL_law_785 rfl rfl ?_
      refine j_iload_n (i := 3) X dL_law_786 rfl rfl ?_
      refine j_iconst (v := 1) X dL_law_787 rfl ?_
      refine j_iadd X dL_law_788 ?_
      refine j_sld X hX hbl hnew dL_law_789 (fun h_158 => ?_)
      refine j_aload_n (i := 0) X dL_law_790 rfl rfl ?_
      refine j_iload_n (i := 3) X dL_law_791 rfl rfl ?_
      refine j_iconst (v := 2) X dL_law_792 rfl ?_
      refine j_iadd X dL_law_793 ?_
      refine j_sld X hX hbl hnew dL_law_794 (fun h_159 => ?_)
      refine j_aload_n (i := 0) X dL_law_795 rfl rfl ?_
      refine j_iload_n (i := 3) X dL_law_796 rfl rfl ?_
      refine j_iconst (v := 3) X dL_law_797 rfl ?_
      refine j_iadd X dL_law_798 ?_
      refine j_sld X hX hbl hnew dL_law_799 (fun h_160 => ?_)
      refine k_cVI (As := [.int (xs (v3 + 1).toNatClampNeg), .int (xs (v3 + 2).toNatClampNeg), .int (xs (v3 + 3).toNatClampNeg)]) (rest := []) (by decide) (cf_hd _) rfl X (ct_X3_road l g (xs (v3 + 1).toNatClampNeg) (xs (v3 + 2).toNatClampNeg) (xs (v3 + 3).toNatClampNeg) M) wl_L_89 rfl rfl (by decide) (Nat.le_of_ble_eq_true rfl) dL_law_800 (fun r_162 M_161 => ?_)
      refine j_aload_n (i := 2) X dL_law_803 rfl rfl ?_
      refine j_aload_n (i := 0) X dL_law_804 rfl rfl ?_
      refine j_iload_n (i := 3) X dL_law_805 rfl rfl ?_
      refine j_iconst (v := 1) X dL_law_806 rfl ?_
      refine j_iadd X dL_law_807 ?_
      refine j_sld X hX hbl hnew dL_law_808 (fun h_163 => ?_)
      refine j_aload_n (i := 0) X dL_law_809 rfl rfl ?_
      refine j_iload_n (i := 3) X dL_law_810 rfl rfl ?_
      refine j_iconst (v := 2) X dL_law_811 rfl ?_
      refine j_iadd X dL_law_812 ?_
      refine j_sld X hX hbl hnew dL_law_813 (fun h_164 => ?_)
      refine j_aload_n (i := 0) X dL_law_814 rfl rfl ?_
      refine j_iload_n (i := 3) X dL_law_815 rfl rfl ?_
      refine j_iconst (v := 3) X dL_law_816 rfl ?_
      refine j_iadd X dL_law_817 ?_
      refine j_sld X hX hbl hnew dL_law_818 (fun h_165 => ?_)
      refine k_cVI (As := [.int (xs (v3 + 1).toNatClampNeg), .int (xs (v3 + 2).toNatClampNeg), .int (xs (v3 + 3).toNatClampNeg)]) (rest := [.int r_162]) (by decide) (cf_md _) rfl X (ct_X4_road l g (xs (v3 + 1).toNatClampNeg) (xs (v3 + 2).toNatClampNeg) (xs (v3 + 3).toNatClampNeg) M_161) wl_L_92 rfl rfl (by decide) (Nat.le_of_ble_eq_true rfl) dL_law_819 (fun r_167 M_166 => ?_)
      refine j_icmp_eq (tgt := 1540) X dL_law_822 (by decide) ?_ ?_
      · refine j_iincB (i := 3) (y := v3 + 6) (Lf := fun v3_168 => [(0, .ref sb), (1, .ref (gA g 0)), (2, .ref (gA g 49)), (3, .int v3_168)]) X dL_law_1540 rfl rfl (by decide) (fun _ => rfl) (fun v3_168 => ?_)
        refine j_goto (tgt := 18) X dL_law_1543 (by decide) ?_
        exact hc18 (v3_168, M_166)
      · exact j_none
    · refine j_aload_n (i := 1) X dL_law_827 rfl rfl ?_
      refine j_aload_n (i := 0) X dL_law_828 rfl rfl ?_
      refine j_iload_n (i := 3) X dL_law_829 rfl rfl ?_
      refine j_iconst (v := 1) X dL_law_830 rfl ?_
      refine j_iadd X dL_law_831 ?_
      refine j_sld X hX hbl hnew dL_law_832 (fun h_169 => ?_)
      refine j_aload_n (i := 0) X dL_law_833 rfl rfl ?_
      refine j_iload_n (i := 3) X dL_law_834 rfl rfl ?_
      refine j_iconst (v := 2) X dL_law_835 rfl ?_
      refine j_iadd X dL_law_836 ?_
      refine j_sld X hX hbl hnew dL_law_837 (fun h_170 => ?_)
      refine k_cVI (As := [.int (xs (v3 + 1).toNatClampNeg), .int (xs (v3 + 2).toNatClampNeg)]) (rest := []) (by decide) (cf_hd _) rfl X (ct_X3_climb l g (xs (v3 + 1).toNatClampNeg) (xs (v3 + 2).toNatClampNeg) M) wl_L_93 rfl rfl (by decide) (Nat.le_of_ble_eq_true rfl) dL_law_838 (fun r_172 M_171 => ?_)
      refine j_aload_n (i := 2) X dL_law_841 rfl rfl ?_
      refine j_aload_n (i := 0) X dL_law_842 rfl rfl ?_
      refine j_iload_n (i := 3) X dL_law_843 rfl rfl ?_
      refine j_iconst (v := 1) X dL_law_844 rfl ?_
      refine j_iadd X dL_law_845 ?_
      refine j_sld X hX hbl hnew dL_law_846 (fun h_173 => ?_)
      refine j_aload_n (i := 0) X dL_law_847 rfl rfl ?_
      refine j_iload_n (i := 3) X dL_law_848 rfl rfl ?_
      refine j_iconst (v := 2) X dL_law_849 rfl ?_
      refine j_iadd X dL_law_850 ?_
      refine j_sld X hX hbl hnew dL_law_851 (fun h_174 => ?_)
      refine k_cVI (As := [.int (xs (v3 + 1).toNatClampNeg), .int (xs (v3 + 2).toNatClampNeg)]) (rest := [.int r_172]) (by decide) (cf_md _) rfl X (ct_X4_climb l g (xs (v3 + 1).toNatClampNeg) (xs (v3 + 2).toNatClampNeg) M_171) wl_L_96 rfl rfl (by decide) (Nat.le_of_ble_eq_true rfl) dL_law_852 (fun r_176 M_175 => ?_)
      refine j_icmp_eq (tgt := 1540) X dL_law_855 (by decide) ?_ ?_
      · refine j_iincB (i := 3) (y := v3 + 6) (Lf := fun v3_177 => [(0, .ref sb), (1, .ref (gA g 0)), (2, .ref (gA g 49)), (3, .int v3_177)]) X dL_law_1540 rfl rfl (by decide) (fun _ => rfl) (fun v3_177 => ?_)
        refine j_goto (tgt := 18) X dL_law_1543 (by decide) ?_
        exact hc18 (v3_177, M_175)
      · exact j_none
    · refine j_aload_n (i := 1) X dL_law_860 rfl rfl ?_
      refine j_aload_n (i := 0) X dL_law_861 rfl rfl ?_
      refine j_iload_n (i := 3) X dL_law_862 rfl rfl ?_
      refine j_iconst (v := 1) X dL_law_863 rfl ?_
      refine j_iadd X dL_law_864 ?_
      refine j_sld X hX hbl hnew dL_law_865 (fun h_178 => ?_)
      refine j_aload_n (i := 0) X dL_law_866 rfl rfl ?_
      refine j_iload_n (i := 3) X dL_law_867 rfl rfl ?_
      refine j_iconst (v := 2) X dL_law_868 rfl ?_
      refine j_iadd X dL_law_869 ?_
      refine j_sld X hX hbl hnew dL_law_870 (fun h_179 => ?_)
      refine j_aload_n (i := 0) X dL_law_871 rfl rfl ?_
      refine j_iload_n (i := 3) X dL_law_872 rfl rfl ?_
      refine j_iconst (v := 3) X dL_law_873 rfl ?_
      refine j_iadd X dL_law_874 ?_
      refine j_sld X hX hbl hnew dL_law_875 (fun h_180 => ?_)
      refine j_aload_n (i := 0) X dL_law_876 rfl rfl ?_
      refine j_iload_n (i := 3) X dL_law_877 rfl rfl ?_
      refine j_iconst (v := 4) X dL_law_878 rfl ?_
      refine j_iadd X dL_law_879 ?_
      refine j_sld X hX hbl hnew dL_law_880 (fun h_181 => ?_)
      refine k_cVI (As := [.int (xs (v3 + 1).toNatClampNeg), .int (xs (v3 + 2).toNatClampNeg), .int (xs (v3 + 3).toNatClampNeg), .int (xs (v3 + 4).toNatClampNeg)]) (rest := []) (by decide) (cf_hd _) rfl X (ct_X3_open l g (xs (v3 + 1).toNatClampNeg) (xs (v3 + 2).toNatClampNeg) (xs (v3 + 3).toNatClampNeg) (xs (v3 + 4).toNatClampNeg) M) wl_L_97 rfl rfl (by decide) (Nat.le_of_ble_eq_true rfl) dL_law_881 (fun r_183 M_182 => ?_)
      refine j_aload_n (i := 2) X dL_law_884 rfl rfl ?_
      refine j_aload_n (i := 0) X dL_law_885 rfl rfl ?_
      refine j_iload_n (i := 3) X dL_law_886 rfl rfl ?_
      refine j_iconst (v := 1) X dL_law_887 rfl ?_
      refine j_iadd X dL_law_888 ?_
      refine j_sld X hX hbl hnew dL_law_889 (fun h_184 => ?_)
      refine j_aload_n (i := 0) X dL_law_890 rfl rfl ?_
      refine j_iload_n (i := 3) X dL_law_891 rfl rfl ?_
      refine j_iconst (v := 2) X dL_law_892 rfl ?_
      refine j_iadd X dL_law_893 ?_
      refine j_sld X hX hbl hnew dL_law_894 (fun h_185 => ?_)
      refine j_aload_n (i := 0) X dL_law_895 rfl rfl ?_
      refine j_iload_n (i := 3) X dL_law_896 rfl rfl ?_
      refine j_iconst (v := 3) X dL_law_897 rfl ?_
      refine j_iadd X dL_law_898 ?_
      refine j_sld X hX hbl hnew dL_law_899 (fun h_186 => ?_)
      refine j_aload_n (i := 0) X dL_law_900 rfl rfl ?_
      refine j_iload_n (i := 3) X dL_law_901 rfl rfl ?_
      refine j_iconst (v := 4) X dL_law_902 rfl ?_
      refine j_iadd X dL_law_903 ?_
      refine j_sld X hX hbl hnew dL_law_904 (fun h_187 => ?_)
      refine k_cVI (As := [.int (xs (v3 + 1).toNatClampNeg), .int (xs (v3 + 2).toNatClampNeg), .int (xs (v3 + 3).toNatClampNeg), .int (xs (v3 + 4).toNatClampNeg)]) (rest := [.int r_183]) (by decide) (cf_md _) rfl X (ct_X4_open l g (xs (v3 + 1).toNatClampNeg) (xs (v3 + 2).toNatClampNeg) (xs (v3 + 3).toNatClampNeg) (xs (v3 + 4).toNatClampNeg) M_182) wl_L_101 rfl rfl (by decide) (Nat.le_of_ble_eq_true rfl) dL_law_905 (fun r_189 M_188 => ?_)
      refine j_icmp_eq (tgt := 1540) X dL_law_908 (by decide) ?_ ?_
      · refine j_iincB (i := 3) (y := v3 + 6) (Lf := fun v3_190 => [(0, .ref sb), (1, .ref (gA g 0)), (2, .ref (gA g 49)), (3, .int v3_190)]) X dL_law_1540 rfl rfl (by decide) (fun _ => rfl) (fun v3_190 => ?_)
        refine j_goto (tgt := 18) X dL_law_1543 (by decide) ?_
        exact hc18 (v3_190, M_188)
      · exact j_none
    · refine j_aload_n (i := 1) X dL_law_913 rfl rfl ?_
      refine j_aload_n (i := 0) X dL_law_914 rfl rfl ?_
      refine j_iload_n (i := 3) X dL_law_915 rfl rfl ?_
      refine j_iconst (v := 1) X dL_law_916 rfl ?_
      refine j_iadd X dL_law_917 ?_
      refine j_sld X hX hbl hnew dL_law_918 (fun h_191 => ?_)
      refine j_aload_n (i := 0) X dL_law_919 rfl rfl ?_
      refine j_iload_n (i := 3) X dL_law_920 rfl rfl ?_
      refine j_iconst (v := 2) X dL_law_921 rfl ?_
      refine j_iadd X dL_law_922 ?_
      refine j_sld X hX hbl hnew dL_law_923 (fun h_192 => ?_)
      refine j_aload_n (i := 0) X dL_law_924 rfl rfl ?_
      refine j_iload_n (i := 3) X dL_law_925 rfl rfl ?_
      refine j_iconst (v := 3) X dL_law_926 rfl ?_
      refine j_iadd X dL_law_927 ?_
      refine j_sld X hX hbl hnew dL_law_928 (fun h_193 => ?_)
      refine k_cVI (As := [.int (xs (v3 + 1).toNatClampNeg), .int (xs (v3 + 2).toNatClampNeg), .int (xs (v3 + 3).toNatClampNeg)]) (rest := []) (by decide) (cf_hd _) rfl X (ct_X3_lay l g (xs (v3 + 1).toNatClampNeg) (xs (v3 + 2).toNatClampNeg) (xs (v3 + 3).toNatClampNeg) M) wl_L_102 rfl rfl (by decide) (Nat.le_of_ble_eq_true rfl) dL_law_929 (fun r_195 M_194 => ?_)
      refine j_aload_n (i := 2) X dL_law_932 rfl rfl ?_
      refine j_aload_n (i := 0) X dL_law_933 rfl rfl ?_
      refine j_iload_n (i := 3) X dL_law_934 rfl rfl ?_
      refine j_iconst (v := 1) X dL_law_935 rfl ?_
      refine j_iadd X dL_law_936 ?_
      refine j_sld X hX hbl hnew dL_law_937 (fun h_196 => ?_)
      refine j_aload_n (i := 0) X dL_law_938 rfl rfl ?_
      refine j_iload_n (i := 3) X dL_law_939 rfl rfl ?_
      refine j_iconst (v := 2) X dL_law_940 rfl ?_
      refine j_iadd X dL_law_941 ?_
      refine j_sld X hX hbl hnew dL_law_942 (fun h_197 => ?_)
      refine j_aload_n (i := 0) X dL_law_943 rfl rfl ?_
      refine j_iload_n (i := 3) X dL_law_944 rfl rfl ?_
      refine j_iconst (v := 3) X dL_law_945 rfl ?_
      refine j_iadd X dL_law_946 ?_
      refine j_sld X hX hbl hnew dL_law_947 (fun h_198 => ?_)
      refine k_cVI (As := [.int (xs (v3 + 1).toNatClampNeg), .int (xs (v3 + 2).toNatClampNeg), .int (xs (v3 + 3).toNatClampNeg)]) (rest := [.int r_195]) (by decide) (cf_md _) rfl X (ct_X4_lay l g (xs (v3 + 1).toNatClampNeg) (xs (v3 + 2).toNatClampNeg) (xs (v3 + 3).toNatClampNeg) M_194) wl_L_105 rfl rfl (by decide) (Nat.le_of_ble_eq_true rfl) dL_law_948 (fun r_200 M_199 => ?_)
      refine j_icmp_eq (tgt := 1540) X dL_law_951 (by decide) ?_ ?_
      · refine j_iincB (i := 3) (y := v3 + 6) (Lf := fun v3_201 => [(0, .ref sb), (1, .ref (gA g 0)), (2, .ref (gA g 49)), (3, .int v3_201)]) X dL_law_1540 rfl rfl (by decide) (fun _ => rfl) (fun v3_201 => ?_)
        refine j_goto (tgt := 18) X dL_law_1543 (by decide) ?_
        exact hc18 (v3_201, M_199)
      · exact j_none
    · refine j_aload_n (i := 1) X dL_law_956 rfl rfl ?_
      refine j_aload_n (i := 0) X dL_law_957 rfl rfl ?_
      refine j_iload_n (i := 3) X dL_law_958 rfl rfl ?_
      refine j_iconst (v := 1) X dL_law_959 rfl ?_
      refine j_iadd X dL_law_960 ?_
      refine j_sld X hX hbl hnew dL_law_961 (fun h_202 => ?_)
      refine j_aload_n (i := 0) X dL_law_962 rfl rfl ?_
      refine j_iload_n (i := 3) X dL_law_963 rfl rfl ?_
      refine j_iconst (v := 2) X dL_law_964 rfl ?_
      refine j_iadd X dL_law_965 ?_
      refine j_sld X hX hbl hnew dL_law_966 (fun h_203 => ?_)
      refine k_cVI (As := [.int (xs (v3 + 1).toNatClampNeg), .int (xs (v3 + 2).toNatClampNeg)]) (rest := []) (by decide) (cf_hd _) rfl X (ct_X3_fits l g (xs (v3 + 1).toNatClampNeg) (xs (v3 + 2).toNatClampNeg) M) wl_L_106 rfl rfl (by decide) (Nat.le_of_ble_eq_true rfl) dL_law_967 (fun r_205 M_204 => ?_)
      refine j_aload_n (i := 2) X dL_law_970 rfl rfl ?_
      refine j_aload_n (i := 0) X dL_law_971 rfl rfl ?_
      refine j_iload_n (i := 3) X dL_law_972 rfl rfl ?_
      refine j_iconst (v := 1) X dL_law_973 rfl ?_
      refine j_iadd X dL_law_974 ?_
      refine j_sld X hX hbl hnew dL_law_975 (fun h_206 => ?_)
      refine j_aload_n (i := 0) X dL_law_976 rfl rfl ?_
      refine j_iload_n (i := 3) X dL_law_977 rfl rfl ?_
      refine j_iconst (v := 2) X dL_law_978 rfl ?_
      refine j_iadd X dL_law_979 ?_
      refine j_sld X hX hbl hnew dL_law_980 (fun h_207 => ?_)
      refine k_cVI (As := [.int (xs (v3 + 1).toNatClampNeg), .int (xs (v3 + 2).toNatClampNeg)]) (rest := [.int r_205]) (by decide) (cf_md _) rfl X (ct_X4_fits l g (xs (v3 + 1).toNatClampNeg) (xs (v3 + 2).toNatClampNeg) M_204) wl_L_109 rfl rfl (by decide) (Nat.le_of_ble_eq_true rfl) dL_law_981 (fun r_209 M_208 => ?_)
      refine j_icmp_eq (tgt := 1540) X dL_law_984 (by decide) ?_ ?_
      · refine j_iincB (i := 3) (y := v3 + 6) (Lf := fun v3_210 => [(0, .ref sb), (1, .ref (gA g 0)), (2, .ref (gA g 49)), (3, .int v3_210)]) X dL_law_1540 rfl rfl (by decide) (fun _ => rfl) (fun v3_210 => ?_)
        refine j_goto (tgt := 18) X dL_law_1543 (by decide) ?_
        exact hc18 (v3_210, M_208)
      · exact j_none
    · refine j_aload_n (i := 1) X dL_law_989 rfl rfl ?_
      refine j_aload_n (i := 0) X dL_law_990 rfl rfl ?_
      refine j_iload_n (i := 3) X dL_law_991 rfl rfl ?_
      refine j_iconst (v := 1) X dL_law_992 rfl ?_
      refine j_iadd X dL_law_993 ?_
      refine j_sld X hX hbl hnew dL_law_994 (fun h_211 => ?_)
      refine j_aload_n (i := 0) X dL_law_995 rfl rfl ?_
      refine j_iload_n (i := 3) X dL_law_996 rfl rfl ?_
      refine j_iconst (v := 2) X dL_law_997 rfl ?_
      refine j_iadd X dL_law_998 ?_
      refine j_sld X hX hbl hnew dL_law_999 (fun h_212 => ?_)
      refine k_cVI (As := [.int (xs (v3 + 1).toNatClampNeg), .int (xs (v3 + 2).toNatClampNeg)]) (rest := []) (by decide) (cf_hd _) rfl X (ct_X3_step l g (xs (v3 + 1).toNatClampNeg) (xs (v3 + 2).toNatClampNeg) M) wl_L_110 rfl rfl (by decide) (Nat.le_of_ble_eq_true rfl) dL_law_1000 (fun r_214 M_213 => ?_)
      refine j_aload_n (i := 2) X dL_law_1003 rfl rfl ?_
      refine j_aload_n (i := 0) X dL_law_1004 rfl rfl ?_
      refine j_iload_n (i := 3) X dL_law_1005 rfl rfl ?_
      refine j_iconst (v := 1) X dL_law_1006 rfl ?_
      refine j_iadd X dL_law_1007 ?_
      refine j_sld X hX hbl hnew dL_law_1008 (fun h_215 => ?_)
      refine j_aload_n (i := 0) X dL_law_1009 rfl rfl ?_
      refine j_iload_n (i := 3) X dL_law_1010 rfl rfl ?_
      refine j_iconst (v := 2) X dL_law_1011 rfl ?_
      refine j_iadd X dL_law_1012 ?_
      refine j_sld X hX hbl hnew dL_law_1013 (fun h_216 => ?_)
      refine k_cVI (As := [.int (xs (v3 + 1).toNatClampNeg), .int (xs (v3 + 2).toNatClampNeg)]) (rest := [.int r_214]) (by decide) (cf_md _) rfl X (ct_X4_step l g (xs (v3 + 1).toNatClampNeg) (xs (v3 + 2).toNatClampNeg) M_213) wl_L_113 rfl rfl (by decide) (Nat.le_of_ble_eq_true rfl) dL_law_1014 (fun r_218 M_217 => ?_)
      refine j_icmp_eq (tgt := 1540) X dL_law_1017 (by decide) ?_ ?_
      · refine j_iincB (i := 3) (y := v3 + 6) (Lf := fun v3_219 => [(0, .ref sb), (1, .ref (gA g 0)), (2, .ref (gA g 49)), (3, .int v3_219)]) X dL_law_1540 rfl rfl (by decide) (fun _ => rfl) (fun v3_219 => ?_)
        refine j_goto (tgt := 18) X dL_law_1543 (by decide) ?_
        exact hc18 (v3_219, M_217)
      · exact j_none
    · refine j_aload_n (i := 1) X dL_law_1022 rfl rfl ?_
      refine j_aload_n (i := 0) X dL_law_1023 rfl rfl ?_
      refine j_iload_n (i := 3) X dL_law_1024 rfl rfl ?_
      refine j_iconst (v := 1) X dL_law_1025 rfl ?_
      refine j_iadd X dL_law_1026 ?_
      refine j_sld X hX hbl hnew dL_law_1027 (fun h_220 => ?_)
      refine j_aload_n (i := 0) X dL_law_1028 rfl rfl ?_
      refine j_iload_n (i := 3) X dL_law_1029 rfl rfl ?_
      refine j_iconst (v := 2) X dL_law_1030 rfl ?_
      refine j_iadd X dL_law_1031 ?_
      refine j_sld X hX hbl hnew dL_law_1032 (fun h_221 => ?_)
      refine k_cVI (As := [.int (xs (v3 + 1).toNatClampNeg), .int (xs (v3 + 2).toNatClampNeg)]) (rest := []) (by decide) (cf_hd _) rfl X (ct_X3_kinds l g (xs (v3 + 1).toNatClampNeg) (xs (v3 + 2).toNatClampNeg) M) wl_L_114 rfl rfl (by decide) (Nat.le_of_ble_eq_true rfl) dL_law_1033 (fun r_223 M_222 => ?_)
      refine j_aload_n (i := 2) X dL_law_1036 rfl rfl ?_
      refine j_aload_n (i := 0) X dL_law_1037 rfl rfl ?_
      refine j_iload_n (i := 3) X dL_law_1038 rfl rfl ?_
      refine j_iconst (v := 1) X dL_law_1039 rfl ?_
      refine j_iadd X dL_law_1040 ?_
      refine j_sld X hX hbl hnew dL_law_1041 (fun h_224 => ?_)
      refine j_aload_n (i := 0) X dL_law_1042 rfl rfl ?_
      refine j_iload_n (i := 3) X dL_law_1043 rfl rfl ?_
      refine j_iconst (v := 2) X dL_law_1044 rfl ?_
      refine j_iadd X dL_law_1045 ?_
      refine j_sld X hX hbl hnew dL_law_1046 (fun h_225 => ?_)
      refine k_cVI (As := [.int (xs (v3 + 1).toNatClampNeg), .int (xs (v3 + 2).toNatClampNeg)]) (rest := [.int r_223]) (by decide) (cf_md _) rfl X (ct_X4_kinds l g (xs (v3 + 1).toNatClampNeg) (xs (v3 + 2).toNatClampNeg) M_222) wl_L_117 rfl rfl (by decide) (Nat.le_of_ble_eq_true rfl) dL_law_1047 (fun r_227 M_226 => ?_)
      refine j_icmp_eq (tgt := 1540) X dL_law_1050 (by decide) ?_ ?_
      · refine j_iincB (i := 3) (y := v3 + 6) (Lf := fun v3_228 => [(0, .ref sb), (1, .ref (gA g 0)), (2, .ref (gA g 49)), (3, .int v3_228)]) X dL_law_1540 rfl rfl (by decide) (fun _ => rfl) (fun v3_228 => ?_)
        refine j_goto (tgt := 18) X dL_law_1543 (by decide) ?_
        exact hc18 (v3_228, M_226)
      · exact j_none
    · refine j_aload_n (i := 1) X dL_law_1055 rfl rfl ?_
      refine j_aload_n (i := 0) X dL_law_1056 rfl rfl ?_
      refine j_iload_n (i := 3) X dL_law_1057 rfl rfl ?_
      refine j_iconst (v := 1) X dL_law_1058 rfl ?_
      refine j_iadd X dL_law_1059 ?_
      refine j_sld X hX hbl hnew dL_law_1060 (fun h_229 => ?_)
      refine k_cVI (As := [.int (xs (v3 + 1).toNatClampNeg)]) (rest := []) (by decide) (cf_hd _) rfl X (ct_X3_rains l g (xs (v3 + 1).toNatClampNeg) M) wl_L_118 rfl rfl (by decide) (Nat.le_of_ble_eq_true rfl) dL_law_1061 (fun r_231 M_230 => ?_)
      refine j_aload_n (i := 2) X dL_law_1064 rfl rfl ?_
      refine j_aload_n (i := 0) X dL_law_1065 rfl rfl ?_
      refine j_iload_n (i := 3) X dL_law_1066 rfl rfl ?_
      refine j_iconst (v := 1) X dL_law_1067 rfl ?_
      refine j_iadd X dL_law_1068 ?_
      refine j_sld X hX hbl hnew dL_law_1069 (fun h_232 => ?_)
      refine k_cVI (As := [.int (xs (v3 + 1).toNatClampNeg)]) (rest := [.int r_231]) (by decide) (cf_md _) rfl X (ct_X4_rains l g (xs (v3 + 1).toNatClampNeg) M_230) wl_L_121 rfl rfl (by decide) (Nat.le_of_ble_eq_true rfl) dL_law_1070 (fun r_234 M_233 => ?_)
      refine j_icmp_eq (tgt := 1540) X dL_law_1073 (by decide) ?_ ?_
      · refine j_iincB (i := 3) (y := v3 + 6) (Lf := fun v3_235 => [(0, .ref sb), (1, .ref (gA g 0)), (2, .ref (gA g 49)), (3, .int v3_235)]) X dL_law_1540 rfl rfl (by decide) (fun _ => rfl) (fun v3_235 => ?_)
        refine j_goto (tgt := 18) X dL_law_1543 (by decide) ?_
        exact hc18 (v3_235, M_233)
      · exact j_none
    · refine j_aload_n (i := 1) X dL_law_1078 rfl rfl ?_
      refine j_aload_n (i := 0) X dL_law_1079 rfl rfl ?_
      refine j_iload_n (i := 3) X dL_law_1080 rfl rfl ?_
      refine j_iconst (v := 1) X dL_law_1081 rfl ?_
      refine j_iadd X dL_law_1082 ?_
      refine j_sld X hX hbl hnew dL_law_1083 (fun h_236 => ?_)
      refine j_aload_n (i := 0) X dL_law_1084 rfl rfl ?_
      refine j_iload_n (i := 3) X dL_law_1085 rfl rfl ?_
      refine j_iconst (v := 2) X dL_law_1086 rfl ?_
      refine j_iadd X dL_law_1087 ?_
      refine j_sld X hX hbl hnew dL_law_1088 (fun h_237 => ?_)
      refine k_cVL (As := [.int (xs (v3 + 1).toNatClampNeg), .int (xs (v3 + 2).toNatClampNeg)]) (rest := []) (by decide) (cf_hd _) rfl X (ct_X3_odds l g (xs (v3 + 1).toNatClampNeg) (xs (v3 + 2).toNatClampNeg) M) wl_L_122 rfl rfl (by decide) (Nat.le_of_ble_eq_true rfl) dL_law_1089 (fun r_239 M_238 => ?_)
      refine j_aload_n (i := 2) X dL_law_1092 rfl rfl ?_
      refine j_aload_n (i := 0) X dL_law_1093 rfl rfl ?_
      refine j_iload_n (i := 3) X dL_law_1094 rfl rfl ?_
      refine j_iconst (v := 1) X dL_law_1095 rfl ?_
      refine j_iadd X dL_law_1096 ?_
      refine j_sld X hX hbl hnew dL_law_1097 (fun h_240 => ?_)
      refine j_aload_n (i := 0) X dL_law_1098 rfl rfl ?_
      refine j_iload_n (i := 3) X dL_law_1099 rfl rfl ?_
      refine j_iconst (v := 2) X dL_law_1100 rfl ?_
      refine j_iadd X dL_law_1101 ?_
      refine j_sld X hX hbl hnew dL_law_1102 (fun h_241 => ?_)
      refine k_cVL (As := [.int (xs (v3 + 1).toNatClampNeg), .int (xs (v3 + 2).toNatClampNeg)]) (rest := [.long r_239]) (by decide) (cf_md _) rfl X (ct_X4_odds l g (xs (v3 + 1).toNatClampNeg) (xs (v3 + 2).toNatClampNeg) M_238) wl_L_126 rfl rfl (by decide) (Nat.le_of_ble_eq_true rfl) dL_law_1103 (fun r_243 M_242 => ?_)
      refine j_lcmp X dL_law_1106 ?_
      refine j_if_eq (tgt := 1540) X dL_law_1107 (by decide) ?_ ?_
      · refine j_iincB (i := 3) (y := v3 + 6) (Lf := fun v3_244 => [(0, .ref sb), (1, .ref (gA g 0)), (2, .ref (gA g 49)), (3, .int v3_244)]) X dL_law_1540 rfl rfl (by decide) (fun _ => rfl) (fun v3_244 => ?_)
        refine j_goto (tgt := 18) X dL_law_1543 (by decide) ?_
        exact hc18 (v3_244, M_242)
      · exact j_none
    · refine j_aload_n (i := 1) X dL_law_1112 rfl rfl ?_
      refine j_aload_n (i := 0) X dL_law_1113 rfl rfl ?_
      refine j_iload_n (i := 3) X dL_law_1114 rfl rfl ?_
      refine j_iconst (v := 1) X dL_law_1115 rfl ?_
      refine j_iadd X dL_law_1116 ?_
      refine j_sld X hX hbl hnew dL_law_1117 (fun h_245 => ?_)
      refine k_cVI (As := [.int (xs (v3 + 1).toNatClampNeg)]) (rest := []) (by decide) (cf_hd _) rfl X (ct_X3_seed l g (xs (v3 + 1).toNatClampNeg) M) wl_L_127 rfl rfl (by decide) (Nat.le_of_ble_eq_true rfl) dL_law_1118 (fun r_247 M_246 => ?_)
      refine j_aload_n (i := 2) X dL_law_1121 rfl rfl ?_
      refine j_aload_n (i := 0) X dL_law_1122 rfl rfl ?_
      refine j_iload_n (i := 3) X dL_law_1123 rfl rfl ?_
      refine j_iconst (v := 1) X dL_law_1124 rfl ?_
      refine j_iadd X dL_law_1125 ?_
      refine j_sld X hX hbl hnew dL_law_1126 (fun h_248 => ?_)
      refine k_cVI (As := [.int (xs (v3 + 1).toNatClampNeg)]) (rest := [.int r_247]) (by decide) (cf_md _) rfl X (ct_X4_seed l g (xs (v3 + 1).toNatClampNeg) M_246) wl_L_130 rfl rfl (by decide) (Nat.le_of_ble_eq_true rfl) dL_law_1127 (fun r_250 M_249 => ?_)
      refine j_icmp_eq (tgt := 1540) X dL_law_1130 (by decide) ?_ ?_
      · refine j_iincB (i := 3) (y := v3 + 6) (Lf := fun v3_251 => [(0, .ref sb), (1, .ref (gA g 0)), (2, .ref (gA g 49)), (3, .int v3_251)]) X dL_law_1540 rfl rfl (by decide) (fun _ => rfl) (fun v3_251 => ?_)
        refine j_goto (tgt := 18) X dL_law_1543 (by decide) ?_
        exact hc18 (v3_251, M_249)
      · exact j_none
    · refine j_aload_n (i := 1) X dL_law_1135 rfl rfl ?_
      refine j_aload_n (i := 0) X dL_law_1136 rfl rfl ?_
      refine j_iload_n (i := 3) X dL_law_1137 rfl rfl ?_
      refine j_iconst (v := 1) X dL_law_1138 rfl ?_
      refine j_iadd X dL_law_1139 ?_
      refine j_sld X hX hbl hnew dL_law_1140 (fun h_252 => ?_)
      refine j_aload_n (i := 0) X dL_law_1141 rfl rfl ?_
      refine j_iload_n (i := 3) X dL_law_1142 rfl rfl ?_
      refine j_iconst (v := 2) X dL_law_1143 rfl ?_
      refine j_iadd X dL_law_1144 ?_
      refine j_sld X hX hbl hnew dL_law_1145 (fun h_253 => ?_)
      refine k_cVI (As := [.int (xs (v3 + 1).toNatClampNeg), .int (xs (v3 + 2).toNatClampNeg)]) (rest := []) (by decide) (cf_hd _) rfl X (ct_X3_feed l g (xs (v3 + 1).toNatClampNeg) (xs (v3 + 2).toNatClampNeg) M) wl_L_131 rfl rfl (by decide) (Nat.le_of_ble_eq_true rfl) dL_law_1146 (fun r_255 M_254 => ?_)
      refine j_aload_n (i := 2) X dL_law_1149 rfl rfl ?_
      refine j_aload_n (i := 0) X dL_law_1150 rfl rfl ?_
      refine j_iload_n (i := 3) X dL_law_1151 rfl rfl ?_
      refine j_iconst (v := 1) X dL_law_1152 rfl ?_
      refine j_iadd X dL_law_1153 ?_
      refine j_sld X hX hbl hnew dL_law_1154 (fun h_256 => ?_)
      refine j_aload_n (i := 0) X dL_law_1155 rfl rfl ?_
      refine j_iload_n (i := 3) X dL_law_1156 rfl rfl ?_
      refine j_iconst (v := 2) X dL_law_1157 rfl ?_
      refine j_iadd X dL_law_1158 ?_
      refine j_sld X hX hbl hnew dL_law_1159 (fun h_257 => ?_)
      refine k_cVI (As := [.int (xs (v3 + 1).toNatClampNeg), .int (xs (v3 + 2).toNatClampNeg)]) (rest := [.int r_255]) (by decide) (cf_md _) rfl X (ct_X4_feed l g (xs (v3 + 1).toNatClampNeg) (xs (v3 + 2).toNatClampNeg) M_254) wl_L_134 rfl rfl (by decide) (Nat.le_of_ble_eq_true rfl) dL_law_1160 (fun r_259 M_258 => ?_)
      refine j_icmp_eq (tgt := 1540) X dL_law_1163 (by decide) ?_ ?_
      · refine j_iincB (i := 3) (y := v3 + 6) (Lf := fun v3_260 => [(0, .ref sb), (1, .ref (gA g 0)), (2, .ref (gA g 49)), (3, .int v3_260)]) X dL_law_1540 rfl rfl (by decide) (fun _ => rfl) (fun v3_260 => ?_)
        refine j_goto (tgt := 18) X dL_law_1543 (by decide) ?_
        exact hc18 (v3_260, M_258)
      · exact j_none
    · refine j_aload_n (i := 1) X dL_law_1168 rfl rfl ?_
      refine k_cVI (As := []) (rest := []) (by decide) (cf_hd _) rfl X (ct_X3_wipe l g M) wl_L_135 rfl rfl (by decide) (Nat.le_of_ble_eq_true rfl) dL_law_1169 (fun r_262 M_261 => ?_)
      refine j_aload_n (i := 2) X dL_law_1172 rfl rfl ?_
      refine k_cVI (As := []) (rest := [.int r_262]) (by decide) (cf_md _) rfl X (ct_X4_wipe l g M_261) wl_L_138 rfl rfl (by decide) (Nat.le_of_ble_eq_true rfl) dL_law_1173 (fun r_264 M_263 => ?_)
      refine j_icmp_eq (tgt := 1540) X dL_law_1176 (by decide) ?_ ?_
      · refine j_iincB (i := 3) (y := v3 + 6) (Lf := fun v3_265 => [(0, .ref sb), (1, .ref (gA g 0)), (2, .ref (gA g 49)), (3, .int v3_265)]) X dL_law_1540 rfl rfl (by decide) (fun _ => rfl) (fun v3_265 => ?_)
        refine j_goto (tgt := 18) X dL_law_1543 (by decide) ?_
        exact hc18 (v3_265, M_263)
      · exact j_none
    · refine j_aload_n (i := 1) X dL_law_1181 rfl rfl ?_
      refine k_cVI (As := []) (rest := []) (by decide) (cf_hd _) rfl X (ct_X3_text l g M) wl_L_139 rfl rfl (by decide) (Nat.le_of_ble_eq_true rfl) dL_law_1182 (fun r_267 M_266 => ?_)
      refine j_aload_n (i := 2) X dL_law_1185 rfl rfl ?_
      refine k_cVI (As := []) (rest := [.int r_267]) (by decide) (cf_md _) rfl X (ct_X4_text l g M_266) wl_L_142 rfl rfl (by decide) (Nat.le_of_ble_eq_true rfl) dL_law_1186 (fun r_269 M_268 => ?_)
      refine j_icmp_eq (tgt := 1540) X dL_law_1189 (by decide) ?_ ?_
      · refine j_iincB (i := 3) (y := v3 + 6) (Lf := fun v3_270 => [(0, .ref sb), (1, .ref (gA g 0)), (2, .ref (gA g 49)), (3, .int v3_270)]) X dL_law_1540 rfl rfl (by decide) (fun _ => rfl) (fun v3_270 => ?_)
        refine j_goto (tgt := 18) X dL_law_1543 (by decide) ?_
        exact hc18 (v3_270, M_268)
      · exact j_none
    · refine j_aload_n (i := 1) X dL_law_1194 rfl rfl ?_
      refine j_aload_n (i := 0) X dL_law_1195 rfl rfl ?_
      refine j_iload_n (i := 3) X dL_law_1196 rfl rfl ?_
      refine j_iconst (v := 1) X dL_law_1197 rfl ?_
      refine j_iadd X dL_law_1198 ?_
      refine j_sld X hX hbl hnew dL_law_1199 (fun h_271 => ?_)
      refine j_aload_n (i := 0) X dL_law_1200 rfl rfl ?_
      refine j_iload_n (i := 3) X dL_law_1201 rfl rfl ?_
      refine j_iconst (v := 2) X dL_law_1202 rfl ?_
      refine j_iadd X dL_law_1203 ?_
      refine j_sld X hX hbl hnew dL_law_1204 (fun h_272 => ?_)
      refine k_cVI (As := [.int (xs (v3 + 1).toNatClampNeg), .int (xs (v3 + 2).toNatClampNeg)]) (rest := []) (by decide) (cf_hd _) rfl X (ct_X3_hold l g (xs (v3 + 1).toNatClampNeg) (xs (v3 + 2).toNatClampNeg) M) wl_L_143 rfl rfl (by decide) (Nat.le_of_ble_eq_true rfl) dL_law_1205 (fun r_274 M_273 => ?_)
      refine j_aload_n (i := 2) X dL_law_1208 rfl rfl ?_
      refine j_aload_n (i := 0) X dL_law_1209 rfl rfl ?_
      refine j_iload_n (i := 3) X dL_law_1210 rfl rfl ?_
      refine j_iconst (v := 1) X dL_law_1211 rfl ?_
      refine j_iadd X dL_law_1212 ?_
      refine j_sld X hX hbl hnew dL_law_1213 (fun h_275 => ?_)
      refine j_aload_n (i := 0) X dL_law_1214 rfl rfl ?_
      refine j_iload_n (i := 3) X dL_law_1215 rfl rfl ?_
      refine j_iconst (v := 2) X dL_law_1216 rfl ?_
      refine j_iadd X dL_law_1217 ?_
      refine j_sld X hX hbl hnew dL_law_1218 (fun h_276 => ?_)
      refine k_cVI (As := [.int (xs (v3 + 1).toNatClampNeg), .int (xs (v3 + 2).toNatClampNeg)]) (rest := [.int r_274]) (by decide) (cf_md _) rfl X (ct_X4_hold l g (xs (v3 + 1).toNatClampNeg) (xs (v3 + 2).toNatClampNeg) M_273) wl_L_146 rfl rfl (by decide) (Nat.le_of_ble_eq_true rfl) dL_law_1219 (fun r_278 M_277 => ?_)
      refine j_icmp_eq (tgt := 1540) X dL_law_1222 (by decide) ?_ ?_
      · refine j_iincB (i := 3) (y := v3 + 6) (Lf := fun v3_279 => [(0, .ref sb), (1, .ref (gA g 0)), (2, .ref (gA g 49)), (3, .int v3_279)]) X dL_law_1540 rfl rfl (by decide) (fun _ => rfl) (fun v3_279 => ?_)
        refine j_goto (tgt := 18) X dL_law_1543 (by decide) ?_
        exact hc18 (v3_279, M_277)
      · exact j_none
    · refine j_aload_n (i := 1) X dL_law_1227 rfl rfl ?_
      refine j_aload_n (i := 0) X dL_law_1228 rfl rfl ?_
      refine j_iload_n (i := 3) X dL_law_1229 rfl rfl ?_
      refine j_iconst (v := 1) X dL_law_1230 rfl ?_
      refine j_iadd X dL_law_1231 ?_
      refine j_sld X hX hbl hnew dL_law_1232 (fun h_280 => ?_)
      refine j_aload_n (i := 0) X dL_law_1233 rfl rfl ?_
      refine j_iload_n (i := 3) X dL_law_1234 rfl rfl ?_
      refine j_iconst (v := 2) X dL_law_1235 rfl ?_
      refine j_iadd X dL_law_1236 ?_
      refine j_sld X hX hbl hnew dL_law_1237 (fun h_281 => ?_)
      refine k_cVI (As := [.int (xs (v3 + 1).toNatClampNeg), .int (xs (v3 + 2).toNatClampNeg)]) (rest := []) (by decide) (cf_hd _) rfl X (ct_X3_as l g (xs (v3 + 1).toNatClampNeg) (xs (v3 + 2).toNatClampNeg) M) wl_L_147 rfl rfl (by decide) (Nat.le_of_ble_eq_true rfl) dL_law_1238 (fun r_283 M_282 => ?_)
      refine j_aload_n (i := 2) X dL_law_1241 rfl rfl ?_
      refine j_aload_n (i := 0) X dL_law_1242 rfl rfl ?_
      refine j_iload_n (i := 3) X dL_law_1243 rfl rfl ?_
      refine j_iconst (v := 1) X dL_law_1244 rfl ?_
      refine j_iadd X dL_law_1245 ?_
      refine j_sld X hX hbl hnew dL_law_1246 (fun h_284 => ?_)
      refine j_aload_n (i := 0) X dL_law_1247 rfl rfl ?_
      refine j_iload_n (i := 3) X dL_law_1248 rfl rfl ?_
      refine j_iconst (v := 2) X dL_law_1249 rfl ?_
      refine j_iadd X dL_law_1250 ?_
      refine j_sld X hX hbl hnew dL_law_1251 (fun h_285 => ?_)
      refine k_cVI (As := [.int (xs (v3 + 1).toNatClampNeg), .int (xs (v3 + 2).toNatClampNeg)]) (rest := [.int r_283]) (by decide) (cf_md _) rfl X (ct_X4_as l g (xs (v3 + 1).toNatClampNeg) (xs (v3 + 2).toNatClampNeg) M_282) wl_L_150 rfl rfl (by decide) (Nat.le_of_ble_eq_true rfl) dL_law_1252 (fun r_287 M_286 => ?_)
      refine j_icmp_eq (tgt := 1540) X dL_law_1255 (by decide) ?_ ?_
      · refine j_iincB (i := 3) (y := v3 + 6) (Lf := fun v3_288 => [(0, .ref sb), (1, .ref (gA g 0)), (2, .ref (gA g 49)), (3, .int v3_288)]) X dL_law_1540 rfl rfl (by decide) (fun _ => rfl) (fun v3_288 => ?_)
        refine j_goto (tgt := 18) X dL_law_1543 (by decide) ?_
        exact hc18 (v3_288, M_286)
      · exact j_none
    · refine j_aload_n (i := 1) X dL_law_1260 rfl rfl ?_
      refine j_aload_n (i := 0) X dL_law_1261 rfl rfl ?_
      refine j_iload_n (i := 3) X dL_law_1262 rfl rfl ?_
      refine j_iconst (v := 1) X dL_law_1263 rfl ?_
      refine j_iadd X dL_law_1264 ?_
      refine j_sld X hX hbl hnew dL_law_1265 (fun h_289 => ?_)
      refine j_aload_n (i := 0) X dL_law_1266 rfl rfl ?_
      refine j_iload_n (i := 3) X dL_law_1267 rfl rfl ?_
      refine j_iconst (v := 2) X dL_law_1268 rfl ?_
      refine j_iadd X dL_law_1269 ?_
      refine j_sld X hX hbl hnew dL_law_1270 (fun h_290 => ?_)
      refine j_aload_n (i := 0) X dL_law_1271 rfl rfl ?_
      refine j_iload_n (i := 3) X dL_law_1272 rfl rfl ?_
      refine j_iconst (v := 3) X dL_law_1273 rfl ?_
      refine j_iadd X dL_law_1274 ?_
      refine j_sld X hX hbl hnew dL_law_1275 (fun h_291 => ?_)
      refine k_cVI (As := [.int (xs (v3 + 1).toNatClampNeg), .int (xs (v3 + 2).toNatClampNeg), .int (xs (v3 + 3).toNatClampNeg)]) (rest := []) (by decide) (cf_hd _) rfl X (ct_X3_sheet l g (xs (v3 + 1).toNatClampNeg) (xs (v3 + 2).toNatClampNeg) (xs (v3 + 3).toNatClampNeg) M) wl_L_151 rfl rfl (by decide) (Nat.le_of_ble_eq_true rfl) dL_law_1276 (fun r_293 M_292 => ?_)
      refine j_aload_n (i := 2) X dL_law_1279 rfl rfl ?_
      refine j_aload_n (i := 0) X dL_law_1280 rfl rfl ?_
      refine j_iload_n (i := 3) X dL_law_1281 rfl rfl ?_
      refine j_iconst (v := 1) X dL_law_1282 rfl ?_
      refine j_iadd X dL_law_1283 ?_
      refine j_sld X hX hbl hnew dL_law_1284 (fun h_294 => ?_)
      refine j_aload_n (i := 0) X dL_law_1285 rfl rfl ?_
      refine j_iload_n (i := 3) X dL_law_1286 rfl rfl ?_
      refine j_iconst (v := 2) X dL_law_1287 rfl ?_
      refine j_iadd X dL_law_1288 ?_
      refine j_sld X hX hbl hnew dL_law_1289 (fun h_295 => ?_)
      refine j_aload_n (i := 0) X dL_law_1290 rfl rfl ?_
      refine j_iload_n (i := 3) X dL_law_1291 rfl rfl ?_
      refine j_iconst (v := 3) X dL_law_1292 rfl ?_
      refine j_iadd X dL_law_1293 ?_
      refine j_sld X hX hbl hnew dL_law_1294 (fun h_296 => ?_)
      refine k_cVI (As := [.int (xs (v3 + 1).toNatClampNeg), .int (xs (v3 + 2).toNatClampNeg), .int (xs (v3 + 3).toNatClampNeg)]) (rest := [.int r_293]) (by decide) (cf_md _) rfl X (ct_X4_sheet l g (xs (v3 + 1).toNatClampNeg) (xs (v3 + 2).toNatClampNeg) (xs (v3 + 3).toNatClampNeg) M_292) wl_L_154 rfl rfl (by decide) (Nat.le_of_ble_eq_true rfl) dL_law_1295 (fun r_298 M_297 => ?_)
      refine j_icmp_eq (tgt := 1540) X dL_law_1298 (by decide) ?_ ?_
      · refine j_iincB (i := 3) (y := v3 + 6) (Lf := fun v3_299 => [(0, .ref sb), (1, .ref (gA g 0)), (2, .ref (gA g 49)), (3, .int v3_299)]) X dL_law_1540 rfl rfl (by decide) (fun _ => rfl) (fun v3_299 => ?_)
        refine j_goto (tgt := 18) X dL_law_1543 (by decide) ?_
        exact hc18 (v3_299, M_297)
      · exact j_none
    · refine j_aload_n (i := 1) X dL_law_1303 rfl rfl ?_
      refine j_aload_n (i := 0) X dL_law_1304 rfl rfl ?_
      refine j_iload_n (i := 3) X dL_law_1305 rfl rfl ?_
      refine j_iconst (v := 1) X dL_law_1306 rfl ?_
      refine j_iadd X dL_law_1307 ?_
      refine j_sld X hX hbl hnew dL_law_1308 (fun h_300 => ?_)
      refine j_aload_n (i := 0) X dL_law_1309 rfl rfl ?_
      refine j_iload_n (i := 3) X dL_law_1310 rfl rfl ?_
      refine j_iconst (v := 2) X dL_law_1311 rfl ?_
      refine j_iadd X dL_law_1312 ?_
      refine j_sld X hX hbl hnew dL_law_1313 (fun h_301 => ?_)
      refine j_aload_n (i := 0) X dL_law_1314 rfl rfl ?_
      refine j_iload_n (i := 3) X dL_law_1315 rfl rfl ?_
      refine j_iconst (v := 3) X dL_law_1316 rfl ?_
      refine j_iadd X dL_law_1317 ?_
      refine j_sld X hX hbl hnew dL_law_1318 (fun h_302 => ?_)
      refine k_cVI (As := [.int (xs (v3 + 1).toNatClampNeg), .int (xs (v3 + 2).toNatClampNeg), .int (xs (v3 + 3).toNatClampNeg)]) (rest := []) (by decide) (cf_hd _) rfl X (ct_X3_write l g (xs (v3 + 1).toNatClampNeg) (xs (v3 + 2).toNatClampNeg) (xs (v3 + 3).toNatClampNeg) M) wl_L_155 rfl rfl (by decide) (Nat.le_of_ble_eq_true rfl) dL_law_1319 (fun r_304 M_303 => ?_)
      refine j_aload_n (i := 2) X dL_law_1322 rfl rfl ?_
      refine j_aload_n (i := 0) X dL_law_1323 rfl rfl ?_
      refine j_iload_n (i := 3) X dL_law_1324 rfl rfl ?_
      refine j_iconst (v := 1) X dL_law_1325 rfl ?_
      refine j_iadd X dL_law_1326 ?_
      refine j_sld X hX hbl hnew dL_law_1327 (fun h_305 => ?_)
      refine j_aload_n (i := 0) X dL_law_1328 rfl rfl ?_
      refine j_iload_n (i := 3) X dL_law_1329 rfl rfl ?_
      refine j_iconst (v := 2) X dL_law_1330 rfl ?_
      refine j_iadd X dL_law_1331 ?_
      refine j_sld X hX hbl hnew dL_law_1332 (fun h_306 => ?_)
      refine j_aload_n (i := 0) X dL_law_1333 rfl rfl ?_
      refine j_iload_n (i := 3) X dL_law_1334 rfl rfl ?_
      refine j_iconst (v := 3) X dL_law_1335 rfl ?_
      refine j_iadd X dL_law_1336 ?_
      refine j_sld X hX hbl hnew dL_law_1337 (fun h_307 => ?_)
      refine k_cVI (As := [.int (xs (v3 + 1).toNatClampNeg), .int (xs (v3 + 2).toNatClampNeg), .int (xs (v3 + 3).toNatClampNeg)]) (rest := [.int r_304]) (by decide) (cf_md _) rfl X (ct_X4_write l g (xs (v3 + 1).toNatClampNeg) (xs (v3 + 2).toNatClampNeg) (xs (v3 + 3).toNatClampNeg) M_303) wl_L_158 rfl rfl (by decide) (Nat.le_of_ble_eq_true rfl) dL_law_1338 (fun r_309 M_308 => ?_)
      refine j_icmp_eq (tgt := 1540) X dL_law_1341 (by decide) ?_ ?_
      · refine j_iincB (i := 3) (y := v3 + 6) (Lf := fun v3_310 => [(0, .ref sb), (1, .ref (gA g 0)), (2, .ref (gA g 49)), (3, .int v3_310)]) X dL_law_1540 rfl rfl (by decide) (fun _ => rfl) (fun v3_310 => ?_)
        refine j_goto (tgt := 18) X dL_law_1543 (by decide) ?_
        exact hc18 (v3_310, M_308)
      · exact j_none
    · refine j_aload_n (i := 1) X dL_law_1346 rfl rfl ?_
      refine j_aload_n (i := 0) X dL_law_1347 rfl rfl ?_
      refine j_iload_n (i := 3) X dL_law_1348 rfl rfl ?_
      refine j_iconst (v := 1) X dL_law_1349 rfl ?_
      refine j_iadd X dL_law_1350 ?_
      refine j_sld X hX hbl hnew dL_law_1351 (fun h_311 => ?_)
      refine j_aload_n (i := 0) X dL_law_1352 rfl rfl ?_
      refine j_iload_n (i := 3) X dL_law_1353 rfl rfl ?_
      refine j_iconst (v := 2) X dL_law_1354 rfl ?_
      refine j_iadd X dL_law_1355 ?_
      refine j_sld X hX hbl hnew dL_law_1356 (fun h_312 => ?_)
      refine j_aload_n (i := 0) X dL_law_1357 rfl rfl ?_
      refine j_iload_n (i := 3) X dL_law_1358 rfl rfl ?_
      refine j_iconst (v := 3) X dL_law_1359 rfl ?_
      refine j_iadd X dL_law_1360 ?_
      refine j_sld X hX hbl hnew dL_law_1361 (fun h_313 => ?_)
      refine j_aload_n (i := 0) X dL_law_1362 rfl rfl ?_
      refine j_iload_n (i := 3) X dL_law_1363 rfl rfl ?_
      refine j_iconst (v := 4) X dL_law_1364 rfl ?_
      refine j_iadd X dL_law_1365 ?_
      refine j_sld X hX hbl hnew dL_law_1366 (fun h_314 => ?_)
      refine j_aload_n (i := 0) X dL_law_1367 rfl rfl ?_
      refine j_iload_n (i := 3) X dL_law_1368 rfl rfl ?_
      refine j_iconst (v := 5) X dL_law_1369 rfl ?_
      refine j_iadd X dL_law_1370 ?_
      refine j_sld X hX hbl hnew dL_law_1371 (fun h_315 => ?_)
      refine k_cVI (As := [.int (xs (v3 + 1).toNatClampNeg), .int (xs (v3 + 2).toNatClampNeg), .int (xs (v3 + 3).toNatClampNeg), .int (xs (v3 + 4).toNatClampNeg), .int (xs (v3 + 5).toNatClampNeg)]) (rest := []) (by decide) (cf_hd _) rfl X (ct_X3_copy l g (xs (v3 + 1).toNatClampNeg) (xs (v3 + 2).toNatClampNeg) (xs (v3 + 3).toNatClampNeg) (xs (v3 + 4).toNatClampNeg) (xs (v3 + 5).toNatClampNeg) M) wl_L_159 rfl rfl (by decide) (Nat.le_of_ble_eq_true rfl) dL_law_1372 (fun r_317 M_316 => ?_)
      refine j_aload_n (i := 2) X dL_law_1375 rfl rfl ?_
      refine j_aload_n (i := 0) X dL_law_1376 rfl rfl ?_
      refine j_iload_n (i := 3) X dL_law_1377 rfl rfl ?_
      refine j_iconst (v := 1) X dL_law_1378 rfl ?_
      refine j_iadd X dL_law_1379 ?_
      refine j_sld X hX hbl hnew dL_law_1380 (fun h_318 => ?_)
      refine j_aload_n (i := 0) X dL_law_1381 rfl rfl ?_
      refine j_iload_n (i := 3) X dL_law_1382 rfl rfl ?_
      refine j_iconst (v := 2) X dL_law_1383 rfl ?_
      refine j_iadd X dL_law_1384 ?_
      refine j_sld X hX hbl hnew dL_law_1385 (fun h_319 => ?_)
      refine j_aload_n (i := 0) X dL_law_1386 rfl rfl ?_
      refine j_iload_n (i := 3) X dL_law_1387 rfl rfl ?_
      refine j_iconst (v := 3) X dL_law_1388 rfl ?_
      refine j_iadd X dL_law_1389 ?_
      refine j_sld X hX hbl hnew dL_law_1390 (fun h_320 => ?_)
      refine j_aload_n (i := 0) X dL_law_1391 rfl rfl ?_
      refine j_iload_n (i := 3) X dL_law_1392 rfl rfl ?_
      refine j_iconst (v := 4) X dL_law_1393 rfl ?_
      refine j_iadd X dL_law_1394 ?_
      refine j_sld X hX hbl hnew dL_law_1395 (fun h_321 => ?_)
      refine j_aload_n (i := 0) X dL_law_1396 rfl rfl ?_
      refine j_iload_n (i := 3) X dL_law_1397 rfl rfl ?_
      refine j_iconst (v := 5) X dL_law_1398 rfl ?_
      refine j_iadd X dL_law_1399 ?_
      refine j_sld X hX hbl hnew dL_law_1400 (fun h_322 => ?_)
      refine k_cVI (As := [.int (xs (v3 + 1).toNatClampNeg), .int (xs (v3 + 2).toNatClampNeg), .int (xs (v3 + 3).toNatClampNeg), .int (xs (v3 + 4).toNatClampNeg), .int (xs (v3 + 5).toNatClampNeg)]) (rest := [.int r_317]) (by decide) (cf_md _) rfl X (ct_X4_copy l g (xs (v3 + 1).toNatClampNeg) (xs (v3 + 2).toNatClampNeg) (xs (v3 + 3).toNatClampNeg) (xs (v3 + 4).toNatClampNeg) (xs (v3 + 5).toNatClampNeg) M_316) wl_L_163 rfl rfl (by decide) (Nat.le_of_ble_eq_true rfl) dL_law_1401 (fun r_324 M_323 => ?_)
      refine j_icmp_eq (tgt := 1540) X dL_law_1404 (by decide) ?_ ?_
      · refine j_iincB (i := 3) (y := v3 + 6) (Lf := fun v3_325 => [(0, .ref sb), (1, .ref (gA g 0)), (2, .ref (gA g 49)), (3, .int v3_325)]) X dL_law_1540 rfl rfl (by decide) (fun _ => rfl) (fun v3_325 => ?_)
        refine j_goto (tgt := 18) X dL_law_1543 (by decide) ?_
        exact hc18 (v3_325, M_323)
      · exact j_none
    · refine j_aload_n (i := 1) X dL_law_1409 rfl rfl ?_
      refine j_aload_n (i := 0) X dL_law_1410 rfl rfl ?_
      refine j_iload_n (i := 3) X dL_law_1411 rfl rfl ?_
      refine j_iconst (v := 1) X dL_law_1412 rfl ?_
      refine j_iadd X dL_law_1413 ?_
      refine j_sld X hX hbl hnew dL_law_1414 (fun h_326 => ?_)
      refine k_cVI (As := [.int (xs (v3 + 1).toNatClampNeg)]) (rest := []) (by decide) (cf_hd _) rfl X (ct_X3_load l g (xs (v3 + 1).toNatClampNeg) M) wl_L_164 rfl rfl (by decide) (Nat.le_of_ble_eq_true rfl) dL_law_1415 (fun r_328 M_327 => ?_)
      refine j_aload_n (i := 2) X dL_law_1418 rfl rfl ?_
      refine j_aload_n (i := 0) X dL_law_1419 rfl rfl ?_
      refine j_iload_n (i := 3) X dL_law_1420 rfl rfl ?_
      refine j_iconst (v := 1) X dL_law_1421 rfl ?_
      refine j_iadd X dL_law_1422 ?_
      refine j_sld X hX hbl hnew dL_law_1423 (fun h_329 => ?_)
      refine k_cVI (As := [.int (xs (v3 + 1).toNatClampNeg)]) (rest := [.int r_328]) (by decide) (cf_md _) rfl X (ct_X4_load l g (xs (v3 + 1).toNatClampNeg) M_327) wl_L_167 rfl rfl (by decide) (Nat.le_of_ble_eq_true rfl) dL_law_1424 (fun r_331 M_330 => ?_)
      refine j_icmp_eq (tgt := 1540) X dL_law_1427 (by decide) ?_ ?_
      · refine j_iincB (i := 3) (y := v3 + 6) (Lf := fun v3_332 => [(0, .ref sb), (1, .ref (gA g 0)), (2, .ref (gA g 49)), (3, .int v3_332)]) X dL_law_1540 rfl rfl (by decide) (fun _ => rfl) (fun v3_332 => ?_)
        refine j_goto (tgt := 18) X dL_law_1543 (by decide) ?_
        exact hc18 (v3_332, M_330)
      · exact j_none
    · refine j_aload_n (i := 1) X dL_law_1432 rfl rfl ?_
      refine j_aload_n (i := 0) X dL_law_1433 rfl rfl ?_
      refine j_iload_n (i := 3) X dL_law_1434 rfl rfl ?_
      refine j_iconst (v := 1) X dL_law_1435 rfl ?_
      refine j_iadd X dL_law_1436 ?_
      refine j_sld X hX hbl hnew dL_law_1437 (fun h_333 => ?_)
      refine k_cVI (As := [.int (xs (v3 + 1).toNatClampNeg)]) (rest := []) (by decide) (cf_hd _) rfl X (ct_X3_judge l g (xs (v3 + 1).toNatClampNeg) M) wl_L_168 rfl rfl (by decide) (Nat.le_of_ble_eq_true rfl) dL_law_1438 (fun r_335 M_334 => ?_)
      refine j_aload_n (i := 2) X dL_law_1441 rfl rfl ?_
      refine j_aload_n (i := 0) X dL_law_1442 rfl rfl ?_
      refine j_iload_n (i := 3) X dL_law_1443 rfl rfl ?_
      refine j_iconst (v := 1) X dL_law_1444 rfl ?_
      refine j_iadd X dL_law_1445 ?_
      refine j_sld X hX hbl hnew dL_law_1446 (fun h_336 => ?_)
      refine k_cVI (As := [.int (xs (v3 + 1).toNatClampNeg)]) (rest := [.int r_335]) (by decide) (cf_md _) rfl X (ct_X4_judge l g (xs (v3 + 1).toNatClampNeg) M_334) wl_L_171 rfl rfl (by decide) (Nat.le_of_ble_eq_true rfl) dL_law_1447 (fun r_338 M_337 => ?_)
      refine j_icmp_eq (tgt := 1540) X dL_law_1450 (by decide) ?_ ?_
      · refine j_iincB (i := 3) (y := v3 + 6) (Lf := fun v3_339 => [(0, .ref sb), (1, .ref (gA g 0)), (2, .ref (gA g 49)), (3, .int v3_339)]) X dL_law_1540 rfl rfl (by decide) (fun _ => rfl) (fun v3_339 => ?_)
        refine j_goto (tgt := 18) X dL_law_1543 (by decide) ?_
        exact hc18 (v3_339, M_337)
      · exact j_none
    · refine j_aload_n (i := 1) X dL_law_1455 rfl rfl ?_
      refine k_cVI (As := []) (rest := []) (by decide) (cf_hd _) rfl X (ct_X3_image l g M) wl_L_172 rfl rfl (by decide) (Nat.le_of_ble_eq_true rfl) dL_law_1456 (fun r_341 M_340 => ?_)
      refine j_aload_n (i := 2) X dL_law_1459 rfl rfl ?_
      refine k_cVI (As := []) (rest := [.int r_341]) (by decide) (cf_md _) rfl X (ct_X4_image l g M_340) wl_L_175 rfl rfl (by decide) (Nat.le_of_ble_eq_true rfl) dL_law_1460 (fun r_343 M_342 => ?_)
      refine j_icmp_eq (tgt := 1540) X dL_law_1463 (by decide) ?_ ?_
      · refine j_iincB (i := 3) (y := v3 + 6) (Lf := fun v3_344 => [(0, .ref sb), (1, .ref (gA g 0)), (2, .ref (gA g 49)), (3, .int v3_344)]) X dL_law_1540 rfl rfl (by decide) (fun _ => rfl) (fun v3_344 => ?_)
        refine j_goto (tgt := 18) X dL_law_1543 (by decide) ?_
        exact hc18 (v3_344, M_342)
      · exact j_none
    · refine j_aload_n (i := 1) X dL_law_1468 rfl rfl ?_
      refine k_cVI (As := []) (rest := []) (by decide) (cf_hd _) rfl X (ct_X3_undo l g M) wl_L_176 rfl rfl (by decide) (Nat.le_of_ble_eq_true rfl) dL_law_1469 (fun r_346 M_345 => ?_)
      refine j_aload_n (i := 2) X dL_law_1472 rfl rfl ?_
      refine k_cVI (As := []) (rest := [.int r_346]) (by decide) (cf_md _) rfl X (ct_X4_undo l g M_345) wl_L_179 rfl rfl (by decide) (Nat.le_of_ble_eq_true rfl) dL_law_1473 (fun r_348 M_347 => ?_)
      refine j_icmp_eq (tgt := 1540) X dL_law_1476 (by decide) ?_ ?_
      · refine j_iincB (i := 3) (y := v3 + 6) (Lf := fun v3_349 => [(0, .ref sb), (1, .ref (gA g 0)), (2, .ref (gA g 49)), (3, .int v3_349)]) X dL_law_1540 rfl rfl (by decide) (fun _ => rfl) (fun v3_349 => ?_)
        refine j_goto (tgt := 18) X dL_law_1543 (by decide) ?_
        exact hc18 (v3_349, M_347)
      · exact j_none
    · refine j_aload_n (i := 1) X dL_law_1481 rfl rfl ?_
      refine k_cVI (As := []) (rest := []) (by decide) (cf_hd _) rfl X (ct_X3_tear l g M) wl_L_180 rfl rfl (by decide) (Nat.le_of_ble_eq_true rfl) dL_law_1482 (fun r_351 M_350 => ?_)
      refine j_aload_n (i := 2) X dL_law_1485 rfl rfl ?_
      refine k_cVI (As := []) (rest := [.int r_351]) (by decide) (cf_md _) rfl X (ct_X4_tear l g M_350) wl_L_183 rfl rfl (by decide) (Nat.le_of_ble_eq_true rfl) dL_law_1486 (fun r_353 M_352 => ?_)
      refine j_icmp_eq (tgt := 1540) X dL_law_1489 (by decide) ?_ ?_
      · refine j_iincB (i := 3) (y := v3 + 6) (Lf := fun v3_354 => [(0, .ref sb), (1, .ref (gA g 0)), (2, .ref (gA g 49)), (3, .int v3_354)]) X dL_law_1540 rfl rfl (by decide) (fun _ => rfl) (fun v3_354 => ?_)
        refine j_goto (tgt := 18) X dL_law_1543 (by decide) ?_
        exact hc18 (v3_354, M_352)
      · exact j_none
    · refine j_aload_n (i := 1) X dL_law_1494 rfl rfl ?_
      refine j_aload_n (i := 0) X dL_law_1495 rfl rfl ?_
      refine j_iload_n (i := 3) X dL_law_1496 rfl rfl ?_
      refine j_iconst (v := 1) X dL_law_1497 rfl ?_
      refine j_iadd X dL_law_1498 ?_
      refine j_sld X hX hbl hnew dL_law_1499 (fun h_355 => ?_)
      refine k_cVI (As := [.int (xs (v3 + 1).toNatClampNeg)]) (rest := []) (by decide) (cf_hd _) rfl X (ct_X3_count l g (xs (v3 + 1).toNatClampNeg) M) wl_L_184 rfl rfl (by decide) (Nat.le_of_ble_eq_true rfl) dL_law_1500 (fun r_357 M_356 => ?_)
      refine j_aload_n (i := 2) X dL_law_1503 rfl rfl ?_
      refine j_aload_n (i := 0) X dL_law_1504 rfl rfl ?_
      refine j_iload_n (i := 3) X dL_law_1505 rfl rfl ?_
      refine j_iconst (v := 1) X dL_law_1506 rfl ?_
      refine j_iadd X dL_law_1507 ?_
      refine j_sld X hX hbl hnew dL_law_1508 (fun h_358 => ?_)
      refine k_cVI (As := [.int (xs (v3 + 1).toNatClampNeg)]) (rest := [.int r_357]) (by decide) (cf_md _) rfl X (ct_X4_count l g (xs (v3 + 1).toNatClampNeg) M_356) wl_L_187 rfl rfl (by decide) (Nat.le_of_ble_eq_true rfl) dL_law_1509 (fun r_360 M_359 => ?_)
      refine j_icmp_eq (tgt := 1540) X dL_law_1512 (by decide) ?_ ?_
      · refine j_iincB (i := 3) (y := v3 + 6) (Lf := fun v3_361 => [(0, .ref sb), (1, .ref (gA g 0)), (2, .ref (gA g 49)), (3, .int v3_361)]) X dL_law_1540 rfl rfl (by decide) (fun _ => rfl) (fun v3_361 => ?_)
        refine j_goto (tgt := 18) X dL_law_1543 (by decide) ?_
        exact hc18 (v3_361, M_359)
      · exact j_none
    · refine j_aload_n (i := 1) X dL_law_1517 rfl rfl ?_
      refine j_aload_n (i := 0) X dL_law_1518 rfl rfl ?_
      refine j_iload_n (i := 3) X dL_law_1519 rfl rfl ?_
      refine j_iconst (v := 1) X dL_law_1520 rfl ?_
      refine j_iadd X dL_law_1521 ?_
      refine j_sld X hX hbl hnew dL_law_1522 (fun h_362 => ?_)
      refine k_cVI (As := [.int (xs (v3 + 1).toNatClampNeg)]) (rest := []) (by decide) (cf_hd _) rfl X (ct_X3_status l g (xs (v3 + 1).toNatClampNeg) M) wl_L_188 rfl rfl (by decide) (Nat.le_of_ble_eq_true rfl) dL_law_1523 (fun r_364 M_363 => ?_)
      refine j_aload_n (i := 2) X dL_law_1526 rfl rfl ?_
      refine j_aload_n (i := 0) X dL_law_1527 rfl rfl ?_
      refine j_iload_n (i := 3) X dL_law_1528 rfl rfl ?_
      refine j_iconst (v := 1) X dL_law_1529 rfl ?_
      refine j_iadd X dL_law_1530 ?_
      refine j_sld X hX hbl hnew dL_law_1531 (fun h_365 => ?_)
      refine k_cVI (As := [.int (xs (v3 + 1).toNatClampNeg)]) (rest := [.int r_364]) (by decide) (cf_md _) rfl X (ct_X4_status l g (xs (v3 + 1).toNatClampNeg) M_363) wl_L_191 rfl rfl (by decide) (Nat.le_of_ble_eq_true rfl) dL_law_1532 (fun r_367 M_366 => ?_)
      refine j_icmp_eq (tgt := 1540) X dL_law_1535 (by decide) ?_ ?_
      · refine j_iincB (i := 3) (y := v3 + 6) (Lf := fun v3_368 => [(0, .ref sb), (1, .ref (gA g 0)), (2, .ref (gA g 49)), (3, .int v3_368)]) X dL_law_1540 rfl rfl (by decide) (fun _ => rfl) (fun v3_368 => ?_)
        refine j_goto (tgt := 18) X dL_law_1543 (by decide) ?_
        exact hc18 (v3_368, M_366)
      · exact j_none
    · refine j_iincB (i := 3) (y := v3 + 6) (Lf := fun v3_369 => [(0, .ref sb), (1, .ref (gA g 0)), (2, .ref (gA g 49)), (3, .int v3_369)]) X dL_law_1540 rfl rfl (by decide) (fun _ => rfl) (fun v3_369 => ?_)
      refine j_goto (tgt := 18) X dL_law_1543 (by decide) ?_
      exact hc18 (v3_369, M)
