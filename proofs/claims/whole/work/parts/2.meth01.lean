def pi_X2_lookAround_91 (b : Nat) (rc91 : Int32 × Mem → Option (Mem)) (v1 : Int32) (M : Mem) : Option (Mem) := if (M b 3) ≤ v1 then (some M) else (gd (inb v1 8) <| gd (inb (M (b + 8) v1.toNatClampNeg) 12) <| gd (inb v1 8) <| gd (inb (M (b + 3) v1.toNatClampNeg) 12) <| gd (inb v1 8) <| bM (up M (b + 9) v1.toNatClampNeg (((M (b + 10) (M (b + 8) v1.toNatClampNeg).toNatClampNeg) &&& (M (b + 11) (M (b + 3) v1.toNatClampNeg).toNatClampNeg)) &&& ((1 <<< (v1 &&& 31)) ^^^ (-1)))) fun M_8 => bI (v1 + 1) fun v1_9 => rc91 (v1_9, M_8))
set_option maxRecDepth 100000 in
set_option maxHeartbeats 4000000 in
theorem pj_X2_lookAround_91 {p : Program} {l : Launch} {e : Env} {R : Room} {s : State} {m : MethodId} {args : Array Value} {below : List Frame} {meth : Method} {c : Code} {g : Gh} (X : Cx p l e R s m args below meth c g cX2_lookAround 3 (0, 0) RX2 1) (hr : meth.sig.returnType = none) (b : Nat) (hb : isSh b) (rc91 : Int32 × Mem → Option (Mem)) (hc91 : ∀ x, J p l e R s m args below meth c g 3 (0, 0) (QfV below args s g) (rc91 x) x.2 91 [(0, .ref (gA g b)), (1, .int x.1)] []) (v1 : Int32) (M : Mem) : J p l e R s m args below meth c g 3 (0, 0) (QfV below args s g) (pi_X2_lookAround_91 b rc91 v1 M) M 91 [(0, .ref (gA g b)), (1, .int v1)] [] := by
  unfold pi_X2_lookAround_91
  refine j_iload_n (i := 1) X dX2_lookAround_91 rfl rfl ?_
  refine j_aload_n (i := 0) X dX2_lookAround_92 rfl rfl ?_
  refine j_get_sh hb 3 X (by decide) wq_46 rfl dX2_lookAround_93 ?_
  refine j_icmp_ge (tgt := 140) X dX2_lookAround_96 (by decide) ?_ ?_
  · exact j_vret X hr dX2_lookAround_140
  · refine j_aload_n (i := 0) X dX2_lookAround_99 rfl rfl ?_
    refine j_get_sh hb 12 X (by decide) wq_47 rfl dX2_lookAround_100 ?_
    refine j_iload_n (i := 1) X dX2_lookAround_103 rfl rfl ?_
    refine j_aload_n (i := 0) X dX2_lookAround_104 rfl rfl ?_
    refine j_get_sh hb 13 X (by decide) wq_40 rfl dX2_lookAround_105 ?_
    refine j_aload_n (i := 0) X dX2_lookAround_108 rfl rfl ?_
    refine j_get_sh hb 11 X (by decide) wq_48 rfl dX2_lookAround_109 ?_
    refine j_iload_n (i := 1) X dX2_lookAround_112 rfl rfl ?_
    refine j_iald X (ia_sh8 hb) dX2_lookAround_113 (fun h_3 => ?_)
    refine j_iald X (ia_sh10 hb) dX2_lookAround_114 (fun h_4 => ?_)
    refine j_aload_n (i := 0) X dX2_lookAround_115 rfl rfl ?_
    refine j_get_sh hb 14 X (by decide) wq_45 rfl dX2_lookAround_116 ?_
    refine j_aload_n (i := 0) X dX2_lookAround_119 rfl rfl ?_
    refine j_get_sh hb 6 X (by decide) wq_49 rfl dX2_lookAround_120 ?_
    refine j_iload_n (i := 1) X dX2_lookAround_123 rfl rfl ?_
    refine j_iald X (ia_sh3 hb) dX2_lookAround_124 (fun h_5 => ?_)
    refine j_iald X (ia_sh11 hb) dX2_lookAround_125 (fun h_6 => ?_)
    refine j_iand X dX2_lookAround_126 ?_
    refine j_iconst (v := 1) X dX2_lookAround_127 rfl ?_
    refine j_iload_n (i := 1) X dX2_lookAround_128 rfl rfl ?_
    refine j_ishl X dX2_lookAround_129 ?_
    refine j_iconst (v := (-1)) X dX2_lookAround_130 rfl ?_
    refine j_ixor X dX2_lookAround_131 ?_
    refine j_iand X dX2_lookAround_132 ?_
    refine j_iast X (ia_sh9 hb) dX2_lookAround_133 (fun h_7 => ?_)
    refine j_bM (fun M_8 => ?_)
    refine j_iincB (i := 1) (y := v1 + 1) (Lf := fun v1_9 => [(0, .ref (gA g b)), (1, .int v1_9)]) X dX2_lookAround_134 rfl rfl (by decide) (fun _ => rfl) (fun v1_9 => ?_)
    refine j_goto (tgt := 91) X dX2_lookAround_137 (by decide) ?_
    exact hc91 (v1_9, M_8)
def pi_X2_lookAround_18 (b : Nat) (rc18 : Int32 × Mem → Option (Mem)) (v1 : Int32) (M : Mem) : Option (Mem) := if (M b 3) ≤ v1 then (lp (fun rc91 x => pi_X2_lookAround_91 b rc91 x.1 x.2) FU (0, M)) else (gd (inb v1 8) <| gd (inb v1 8) <| gd (inb (M (b + 5) v1.toNatClampNeg) 4) <| bI (((M (b + 3) v1.toNatClampNeg) + (foT (M (b + 5) v1.toNatClampNeg).toNatClampNeg)) - ((M (b + 3) v1.toNatClampNeg) + (foT (M (b + 5) v1.toNatClampNeg).toNatClampNeg)) / 12 * 12) fun v2_13 => gd (inb v1 8) <| bM (up M (b + 8) v1.toNatClampNeg v2_13) fun M_15 => gd (inb v1 8) <| gd (inb (M_15 (b + 3) v1.toNatClampNeg) 12) <| gd (inb (M_15 (b + 3) v1.toNatClampNeg) 12) <| bM (up M_15 (b + 10) (M_15 (b + 3) v1.toNatClampNeg).toNatClampNeg ((M_15 (b + 10) (M_15 (b + 3) v1.toNatClampNeg).toNatClampNeg) ||| (1 <<< (v1 &&& 31)))) fun M_19 => gd (inb v2_13 12) <| gd (inb v2_13 12) <| bM (up M_19 (b + 11) v2_13.toNatClampNeg ((M_19 (b + 11) v2_13.toNatClampNeg) ||| (1 <<< (v1 &&& 31)))) fun M_22 => bI (v1 + 1) fun v1_23 => rc18 (v1_23, M_22))
set_option maxRecDepth 100000 in
set_option maxHeartbeats 4000000 in
theorem pj_X2_lookAround_18 {p : Program} {l : Launch} {e : Env} {R : Room} {s : State} {m : MethodId} {args : Array Value} {below : List Frame} {meth : Method} {c : Code} {g : Gh} (X : Cx p l e R s m args below meth c g cX2_lookAround 3 (0, 0) RX2 1) (hr : meth.sig.returnType = none) (b : Nat) (hb : isSh b) (rc18 : Int32 × Mem → Option (Mem)) (hc18 : ∀ x, J p l e R s m args below meth c g 3 (0, 0) (QfV below args s g) (rc18 x) x.2 18 [(0, .ref (gA g b)), (1, .int x.1)] []) (v1 : Int32) (M : Mem) : J p l e R s m args below meth c g 3 (0, 0) (QfV below args s g) (pi_X2_lookAround_18 b rc18 v1 M) M 18 [(0, .ref (gA g b)), (1, .int v1)] [] := by
  unfold pi_X2_lookAround_18
  refine j_iload_n (i := 1) X dX2_lookAround_18 rfl rfl ?_
  refine j_aload_n (i := 0) X dX2_lookAround_19 rfl rfl ?_
  refine j_get_sh hb 3 X (by decide) wq_46 rfl dX2_lookAround_20 ?_
  refine j_icmp_ge (tgt := 89) X dX2_lookAround_23 (by decide) ?_ ?_
  · refine j_iconst (v := 0) X dX2_lookAround_89 rfl ?_
    refine j_istore_n (i := 1) (Lq := [(0, .ref (gA g b)), (1, .int 0)]) X dX2_lookAround_90 rfl (by decide) rfl ?_
    exact j_lp (Lf := fun x => [(0, .ref (gA g b)), (1, .int x.1)]) (Mf := fun x => x.2) (fun rc91 hc91 x => pj_X2_lookAround_91 X hr b hb rc91 hc91 x.1 x.2) FU (0, M)
  · refine j_aload_n (i := 0) X dX2_lookAround_26 rfl rfl ?_
    refine j_get_sh hb 6 X (by decide) wq_49 rfl dX2_lookAround_27 ?_
    refine j_iload_n (i := 1) X dX2_lookAround_30 rfl rfl ?_
    refine j_iald X (ia_sh3 hb) dX2_lookAround_31 (fun h_10 => ?_)
    refine j_gets_fo X (by decide +kernel) dX2_lookAround_32 ?_
    refine j_aload_n (i := 0) X dX2_lookAround_35 rfl rfl ?_
    refine j_get_sh hb 8 X (by decide) wq_50 rfl dX2_lookAround_36 ?_
    refine j_iload_n (i := 1) X dX2_lookAround_39 rfl rfl ?_
    refine j_iald X (ia_sh5 hb) dX2_lookAround_40 (fun h_11 => ?_)
    refine j_tld_fo X dX2_lookAround_41 (fun h_12 => ?_)
    refine j_iadd X dX2_lookAround_42 ?_
    refine j_bipush (v := 12) X dX2_lookAround_43 rfl ?_
    refine j_iremc X dX2_lookAround_45 (by decide) ?_
    refine j_bI (fun v2_13 => ?_)
    refine j_istore_n (i := 2) (Lq := [(0, .ref (gA g b)), (1, .int v1), (2, .int v2_13)]) X dX2_lookAround_46 rfl (by decide) rfl ?_
    refine j_aload_n (i := 0) X dX2_lookAround_47 rfl rfl ?_
    refine j_get_sh hb 11 X (by decide) wq_48 rfl dX2_lookAround_48 ?_
    refine j_iload_n (i := 1) X dX2_lookAround_51 rfl rfl ?_
    refine j_iload_n (i := 2) X dX2_lookAround_52 rfl rfl ?_
    refine j_iast X (ia_sh8 hb) dX2_lookAround_53 (fun h_14 => ?_)
    refine j_bM (fun M_15 => ?_)
    refine j_aload_n (i := 0) X dX2_lookAround_54 rfl rfl ?_
    refine j_get_sh hb 13 X (by decide) wq_40 rfl dX2_lookAround_55 ?_
    refine j_aload_n (i := 0) X dX2_lookAround_58 rfl rfl ?_
    refine j_get_sh hb 6 X (by decide) wq_49 rfl dX2_lookAround_59 ?_
    refine j_iload_n (i := 1) X dX2_lookAround_62 rfl rfl ?_
    refine j_iald X (ia_sh3 hb) dX2_lookAround_63 (fun h_16 => ?_)
    refine j_dup2 X dX2_lookAround_64 rfl rfl ?_
    refine j_iald X (ia_sh10 hb) dX2_lookAround_65 (fun h_17 => ?_)
    refine j_iconst (v := 1) X dX2_lookAround_66 rfl ?_
    refine j_iload_n (i := 1) X dX2_lookAround_67 rfl rfl ?_
    refine j_ishl X dX2_lookAround_68 ?_
    refine j_ior X dX2_lookAround_69 ?_
    refine j_iast X (ia_sh10 hb) dX2_lookAround_70 (fun h_18 => ?_)
    refine j_bM (fun M_19 => ?_)
    refine j_aload_n (i := 0) X dX2_lookAround_71 rfl rfl ?_
    refine j_get_sh hb 14 X (by decide) wq_45 rfl dX2_lookAround_72 ?_
    refine j_iload_n (i := 2) X dX2_lookAround_75 rfl rfl ?_
    refine j_dup2 X dX2_lookAround_76 rfl rfl ?_
    refine j_iald X (ia_sh11 hb) dX2_lookAround_77 (fun h_20 => ?_)
    refine j_iconst (v := 1) X dX2_lookAround_78 rfl ?_
    refine j_iload_n (i := 1) X dX2_lookAround_79 rfl rfl ?_
    refine j_ishl X dX2_lookAround_80 ?_
    refine j_ior X dX2_lookAround_81 ?_
    refine j_iast X (ia_sh11 hb) dX2_lookAround_82 (fun h_21 => ?_)
    refine j_bM (fun M_22 => ?_)
    refine j_iincB (i := 1) (y := v1 + 1) (Lf := fun v1_23 => [(0, .ref (gA g b)), (1, .int v1_23), (2, .int v2_13)]) X dX2_lookAround_83 rfl rfl (by decide) (fun _ => rfl) (fun v1_23 => ?_)
    refine j_goto (tgt := 18) X dX2_lookAround_86 (by decide) ?_
    refine j_pick [0, 1] (Lq := [(0, .ref (gA g b)), (1, .int v1_23)]) rfl ?_
    exact hc18 (v1_23, M_22)
def pi_X2_lookAround_e (b : Nat) (M : Mem) : Option (Mem) := bv (mi_J7_fill_53178 (b + 10) 12 0 M) fun M_1 => bv (mi_J7_fill_53178 (b + 11) 12 0 M_1) fun M_2 => lp (fun rc18 x => pi_X2_lookAround_18 b rc18 x.1 x.2) FU (0, M_2)
set_option maxRecDepth 100000 in
set_option maxHeartbeats 4000000 in
theorem pj_X2_lookAround_e {p : Program} {l : Launch} {e : Env} {R : Room} {s : State} {m : MethodId} {args : Array Value} {below : List Frame} {meth : Method} {c : Code} {g : Gh} (X : Cx p l e R s m args below meth c g cX2_lookAround 3 (0, 0) RX2 1) (hr : meth.sig.returnType = none) (b : Nat) (hb : isSh b) (M : Mem) : J p l e R s m args below meth c g 3 (0, 0) (QfV below args s g) (pi_X2_lookAround_e b M) M 0 [(0, .ref (gA g b))] [] := by
  unfold pi_X2_lookAround_e
  refine j_aload_n (i := 0) X dX2_lookAround_0 rfl rfl ?_
  refine j_get_sh hb 13 X (by decide) wq_40 rfl dX2_lookAround_1 ?_
  refine j_iconst (v := 0) X dX2_lookAround_4 rfl ?_
  refine k_cSV (As := [.ref (gA g (b + 10)), .int 0]) (rest := []) X (ct_J7_fill_53178 l g (b + 10) 12 0 (ia_sh10 hb) M) wl_X2_67 rfl rfl (by decide) (Nat.le_of_ble_eq_true rfl) dX2_lookAround_5 (fun M_1 => ?_)
  refine j_aload_n (i := 0) X dX2_lookAround_8 rfl rfl ?_
  refine j_get_sh hb 14 X (by decide) wq_45 rfl dX2_lookAround_9 ?_
  refine j_iconst (v := 0) X dX2_lookAround_12 rfl ?_
  refine k_cSV (As := [.ref (gA g (b + 11)), .int 0]) (rest := []) X (ct_J7_fill_53178 l g (b + 11) 12 0 (ia_sh11 hb) M_1) wl_X2_67 rfl rfl (by decide) (Nat.le_of_ble_eq_true rfl) dX2_lookAround_13 (fun M_2 => ?_)
  refine j_iconst (v := 0) X dX2_lookAround_16 rfl ?_
  refine j_istore_n (i := 1) (Lq := [(0, .ref (gA g b)), (1, .int 0)]) X dX2_lookAround_17 rfl (by decide) rfl ?_
  exact j_lp (Lf := fun x => [(0, .ref (gA g b)), (1, .int x.1)]) (Mf := fun x => x.2) (fun rc18 hc18 x => pj_X2_lookAround_18 X hr b hb rc18 hc18 x.1 x.2) FU (0, M_2)
def mi_X2_lookAround (b : Nat) (M : Mem) : Option (Mem) := pi_X2_lookAround_e b M
theorem ct_X2_lookAround (l : Launch) (g : Gh) (b : Nat) (hb : isSh b) (M : Mem) : CtV l g yX2_lookAround cX2_lookAround 3 none 1 [.ref (gA g b)] M (mi_X2_lookAround b M) := ctV_of (own := RX2) (L := [(0, .ref (gA g b))]) (by decide +kernel) rfl (Nat.le_of_ble_eq_true rfl) rfl (fun p e s m args below meth c X hr => pj_X2_lookAround_e X hr b hb M)

def pi_X2_setTrait_93 (b : Nat) (v1 : Int32) (v2 : Int32) (v3 : Int32) (M : Mem) : Option (Mem) := bv (mi_X2_lookAround b M) fun M_3 => some M_3
set_option maxRecDepth 100000 in
set_option maxHeartbeats 4000000 in
theorem pj_X2_setTrait_93 {p : Program} {l : Launch} {e : Env} {R : Room} {s : State} {m : MethodId} {args : Array Value} {below : List Frame} {meth : Method} {c : Code} {g : Gh} (X : Cx p l e R s m args below meth c g cX2_setTrait 4 (0, 0) RX2 2) (hr : meth.sig.returnType = none) (b : Nat) (v1 : Int32) (v2 : Int32) (v3 : Int32) (hb : isSh b) (M : Mem) : J p l e R s m args below meth c g 4 (0, 0) (QfV below args s g) (pi_X2_setTrait_93 b v1 v2 v3 M) M 93 [(0, .ref (gA g b)), (1, .int v1), (2, .int v2), (3, .int v3)] [] := by
  unfold pi_X2_setTrait_93
  refine j_aload_n (i := 0) X dX2_setTrait_93 rfl rfl ?_
  refine k_cVV (As := []) (rest := []) hb.lt (cf_sh hb _) rfl X (ct_X2_lookAround l g b hb M) wl_X2_55 rfl rfl (by decide) (Nat.le_of_ble_eq_true rfl) dX2_setTrait_94 (fun M_3 => ?_)
  exact j_vret X hr dX2_setTrait_97
def pi_X2_setTrait_e (b : Nat) (v1 : Int32) (v2 : Int32) (v3 : Int32) (M : Mem) : Option (Mem) := swc v2 [(0, gd (inb v1 8) <| bM (up M (b + 2) v1.toNatClampNeg v3) fun M_2 => pi_X2_setTrait_93 b v1 v2 v3 M_2), (1, gd (inb v1 8) <| bM (up M (b + 3) v1.toNatClampNeg v3) fun M_5 => pi_X2_setTrait_93 b v1 v2 v3 M_5), (2, gd (inb v1 8) <| bM (up M (b + 4) v1.toNatClampNeg v3) fun M_7 => pi_X2_setTrait_93 b v1 v2 v3 M_7), (3, gd (inb v1 8) <| bM (up M (b + 5) v1.toNatClampNeg v3) fun M_9 => pi_X2_setTrait_93 b v1 v2 v3 M_9), (4, gd (inb v1 8) <| bM (up M (b + 6) v1.toNatClampNeg v3) fun M_11 => pi_X2_setTrait_93 b v1 v2 v3 M_11)] (gd (inb v1 8) <| bM (up M (b + 7) v1.toNatClampNeg v3) fun M_13 => pi_X2_setTrait_93 b v1 v2 v3 M_13)
set_option maxRecDepth 100000 in
set_option maxHeartbeats 4000000 in
theorem pj_X2_setTrait_e {p : Program} {l : Launch} {e : Env} {R : Room} {s : State} {m : MethodId} {args : Array Value} {below : List Frame} {meth : Method} {c : Code} {g : Gh} (X : Cx p l e R s m args below meth c g cX2_setTrait 4 (0, 0) RX2 2) (hr : meth.sig.returnType = none) (b : Nat) (v1 : Int32) (v2 : Int32) (v3 : Int32) (hb : isSh b) (M : Mem) : J p l e R s m args below meth c g 4 (0, 0) (QfV below args s g) (pi_X2_setTrait_e b v1 v2 v3 M) M 0 [(0, .ref (gA g b)), (1, .int v1), (2, .int v2), (3, .int v3)] [] := by
  unfold pi_X2_setTrait_e
  refine j_iload_n (i := 2) X dX2_setTrait_0 rfl rfl ?_
  refine j_tsw [0, 1, 2, 3, 4] [36, 46, 56, 66, 76] (dt := 86) X dX2_setTrait_1 rfl (by decide +kernel) (by decide +kernel) (by decide) ⟨?_, ?_, ?_, ?_, ?_, trivial⟩ ?_
  · refine j_aload_n (i := 0) X dX2_setTrait_36 rfl rfl ?_
    refine j_get_sh hb 5 X (by decide) wq_51 rfl dX2_setTrait_37 ?_
    refine j_iload_n (i := 1) X dX2_setTrait_40 rfl rfl ?_
    refine j_iload_n (i := 3) X dX2_setTrait_41 rfl rfl ?_
    refine j_iast X (ia_sh2 hb) dX2_setTrait_42 (fun h_1 => ?_)
    refine j_bM (fun M_2 => ?_)
    refine j_goto (tgt := 93) X dX2_setTrait_43 (by decide) ?_
    exact pj_X2_setTrait_93 X hr b v1 v2 v3 hb M_2
  · refine j_aload_n (i := 0) X dX2_setTrait_46 rfl rfl ?_
    refine j_get_sh hb 6 X (by decide) wq_49 rfl dX2_setTrait_47 ?_
    refine j_iload_n (i := 1) X dX2_setTrait_50 rfl rfl ?_
    refine j_iload_n (i := 3) X dX2_setTrait_51 rfl rfl ?_
    refine j_iast X (ia_sh3 hb) dX2_setTrait_52 (fun h_4 => ?_)
    refine j_bM (fun M_5 => ?_)
    refine j_goto (tgt := 93) X dX2_setTrait_53 (by decide) ?_
    exact pj_X2_setTrait_93 X hr b v1 v2 v3 hb M_5
  · refine j_aload_n (i := 0) X dX2_setTrait_56 rfl rfl ?_
    refine j_get_sh hb 7 X (by decide) wq_57 rfl dX2_setTrait_57 ?_
    refine j_iload_n (i := 1) X dX2_setTrait_60 rfl rfl ?_
    refine j_iload_n (i := 3) X dX2_setTrait_61 rfl rfl ?_
    refine j_iast X (ia_sh4 hb) dX2_setTrait_62 (fun h_6 => ?_)
    refine j_bM (fun M_7 => ?_)
    refine j_goto (tgt := 93) X dX2_setTrait_63 (by decide) ?_
    exact pj_X2_setTrait_93 X hr b v1 v2 v3 hb M_7
  · refine j_aload_n (i := 0) X dX2_setTrait_66 rfl rfl ?_
    refine j_get_sh hb 8 X (by decide) wq_50 rfl dX2_setTrait_67 ?_
    refine j_iload_n (i := 1) X dX2_setTrait_70 rfl rfl ?_
    refine j_iload_n (i := 3) X dX2_setTrait_71 rfl rfl ?_
    refine j_iast X (ia_sh5 hb) dX2_setTrait_72 (fun h_8 => ?_)
    refine j_bM (fun M_9 => ?_)
    refine j_goto (tgt := 93) X dX2_setTrait_73 (by decide) ?_
    exact pj_X2_setTrait_93 X hr b v1 v2 v3 hb M_9
  · refine j_aload_n (i := 0) X dX2_setTrait_76 rfl rfl ?_
    refine j_get_sh hb 9 X (by decide) wq_58 rfl dX2_setTrait_77 ?_
    refine j_iload_n (i := 1) X dX2_setTrait_80 rfl rfl ?_
    refine j_iload_n (i := 3) X dX2_setTrait_81 rfl rfl ?_
    refine j_iast X (ia_sh6 hb) dX2_setTrait_82 (fun h_10 => ?_)
    refine j_bM (fun M_11 => ?_)
    refine j_goto (tgt := 93) X dX2_setTrait_83 (by decide) ?_
    exact pj_X2_setTrait_93 X hr b v1 v2 v3 hb M_11
  · refine j_aload_n (i := 0) X dX2_setTrait_86 rfl rfl ?_
    refine j_get_sh hb 10 X (by decide) wq_59 rfl dX2_setTrait_87 ?_
    refine j_iload_n (i := 1) X dX2_setTrait_90 rfl rfl ?_
    refine j_iload_n (i := 3) X dX2_setTrait_91 rfl rfl ?_
    refine j_iast X (ia_sh7 hb) dX2_setTrait_92 (fun h_12 => ?_)
    refine j_bM (fun M_13 => ?_)
    exact pj_X2_setTrait_93 X hr b v1 v2 v3 hb M_13
def mi_X2_setTrait (b : Nat) (v1 : Int32) (v2 : Int32) (v3 : Int32) (M : Mem) : Option (Mem) := pi_X2_setTrait_e b v1 v2 v3 M
theorem ct_X2_setTrait (l : Launch) (g : Gh) (b : Nat) (v1 : Int32) (v2 : Int32) (v3 : Int32) (hb : isSh b) (M : Mem) : CtV l g yX2_setTrait cX2_setTrait 4 none 2 [.ref (gA g b), .int v1, .int v2, .int v3] M (mi_X2_setTrait b v1 v2 v3 M) := ctV_of (own := RX2) (L := [(0, .ref (gA g b)), (1, .int v1), (2, .int v2), (3, .int v3)]) (by decide +kernel) rfl (Nat.le_of_ble_eq_true rfl) rfl (fun p e s m args below meth c X hr => pj_X2_setTrait_e X hr b v1 v2 v3 hb M)

def pi_X3_mostOf_e (v0 : Int32) (M : Mem) : Option (Int32 × Mem) := swc v0 [(0, some (6, M)), (1, some (11, M)), (2, some (5, M)), (3, some (3, M)), (4, some (99, M))] (some (9999, M))
set_option maxRecDepth 100000 in
set_option maxHeartbeats 4000000 in
theorem pj_X3_mostOf_e {p : Program} {l : Launch} {e : Env} {R : Room} {s : State} {m : MethodId} {args : Array Value} {below : List Frame} {meth : Method} {c : Code} {g : Gh} (X : Cx p l e R s m args below meth c g cX3_mostOf 1 (0, 0) RX3 0) (hr : meth.sig.returnType = (some (.int))) (v0 : Int32) (M : Mem) : J p l e R s m args below meth c g 1 (0, 0) (QfI below args s g) (pi_X3_mostOf_e v0 M) M 0 [(0, .int v0)] [] := by
  unfold pi_X3_mostOf_e
  refine j_iload_n (i := 0) X dX3_mostOf_0 rfl rfl ?_
  refine j_tsw [0, 1, 2, 3, 4] [36, 39, 42, 44, 46] (dt := 49) X dX3_mostOf_1 rfl (by decide +kernel) (by decide +kernel) (by decide) ⟨?_, ?_, ?_, ?_, ?_, trivial⟩ ?_
  · refine j_bipush (v := 6) X dX3_mostOf_36 rfl ?_
    exact j_iret X hr dX3_mostOf_38
  · refine j_bipush (v := 11) X dX3_mostOf_39 rfl ?_
    exact j_iret X hr dX3_mostOf_41
  · refine j_iconst (v := 5) X dX3_mostOf_42 rfl ?_
    exact j_iret X hr dX3_mostOf_43
  · refine j_iconst (v := 3) X dX3_mostOf_44 rfl ?_
    exact j_iret X hr dX3_mostOf_45
  · refine j_bipush (v := 99) X dX3_mostOf_46 rfl ?_
    exact j_iret X hr dX3_mostOf_48
  · refine j_sipush (v := 9999) X dX3_mostOf_49 rfl ?_
    exact j_iret X hr dX3_mostOf_52
def mi_X3_mostOf (v0 : Int32) (M : Mem) : Option (Int32 × Mem) := pi_X3_mostOf_e v0 M
theorem ct_X3_mostOf (l : Launch) (g : Gh) (v0 : Int32) (M : Mem) : CtI l g yX3_mostOf cX3_mostOf 1 (some (.int)) 0 [.int v0] M (mi_X3_mostOf v0 M) := ctI_of (own := RX3) (L := [(0, .int v0)]) (by decide +kernel) rfl (Nat.le_of_ble_eq_true rfl) rfl (fun p e s m args below meth c X hr => pj_X3_mostOf_e X hr v0  M)

def pi_X0_readTrait_77 (b1 : Nat) (v2 : Int32) (v3 : Int32) (w4 : Nat) (t0 : Int32) (t1 : Int32) (t2 : Int32) (M : Mem) : Option (Int32 × Mem) := bv (mi_X2_setTrait b1 t2 t1 t0 M) fun M_8 => bv (mi_X0_advance M_8) fun M_9 => gd (isB 1) (some (1, M_9))
set_option maxRecDepth 100000 in
set_option maxHeartbeats 4000000 in
theorem pj_X0_readTrait_77 {p : Program} {l : Launch} {e : Env} {R : Room} {s : State} {m : MethodId} {args : Array Value} {below : List Frame} {meth : Method} {c : Code} {g : Gh} (X : Cx p l e R s m args below meth c g cX0_readTrait 6 (0, 0) RX0 5) (hr : meth.sig.returnType = (some (.boolean))) (b1 : Nat) (v2 : Int32) (v3 : Int32) (w4 : Nat) (hb1 : isSh b1) (hw4 : w4 < 12) (t0 : Int32) (t1 : Int32) (t2 : Int32) (M : Mem) : J p l e R s m args below meth c g 6 (0, 0) (QfI below args s g) (pi_X0_readTrait_77 b1 v2 v3 w4 t0 t1 t2 M) M 77 [(0, .ref (gA g 37)), (1, .ref (gA g b1)), (2, .int v2), (3, .int v3), (4, .ref (gS g w4))] [.int t0, .int t1, .int t2, .ref (gA g b1)] := by
  unfold pi_X0_readTrait_77
  refine k_cVV (As := [.int t2, .int t1, .int t0]) (rest := []) hb1.lt (cf_sh hb1 _) rfl X (ct_X2_setTrait l g b1 t2 t1 t0 hb1 M) wl_X0_81 rfl rfl (by decide) (Nat.le_of_ble_eq_true rfl) dX0_readTrait_77 (fun M_8 => ?_)
  refine j_aload_n (i := 0) X dX0_readTrait_80 rfl rfl ?_
  refine k_cVV (As := []) (rest := []) (by decide) (cf_rd _) rfl X (ct_X0_advance l g M_8) wl_X0_22 rfl rfl (by decide) (Nat.le_of_ble_eq_true rfl) dX0_readTrait_81 (fun M_9 => ?_)
  refine j_iconst (v := 1) X dX0_readTrait_84 rfl ?_
  exact j_zret X hr dX0_readTrait_85
def pi_X0_readTrait_44 (b1 : Nat) (v2 : Int32) (v3 : Int32) (w4 : Nat) (v5 : Int32) (M : Mem) : Option (Int32 × Mem) := bd (mi_X3_mostOf v3 M) fun r_5 M_4 => bd (mi_X0_isNumberTo r_5 M_4) fun r_7 M_6 => if r_7 = 0 then (gd (isB 0) (some (0, M_6))) else (if v5 = 0 then (pi_X0_readTrait_77 b1 v2 v3 w4 (M_6 37 5) v3 v2 M_6) else (pi_X0_readTrait_77 b1 v2 v3 w4 (-(M_6 37 5)) v3 v2 M_6))
set_option maxRecDepth 100000 in
set_option maxHeartbeats 4000000 in
theorem pj_X0_readTrait_44 {p : Program} {l : Launch} {e : Env} {R : Room} {s : State} {m : MethodId} {args : Array Value} {below : List Frame} {meth : Method} {c : Code} {g : Gh} (X : Cx p l e R s m args below meth c g cX0_readTrait 6 (0, 0) RX0 5) (hr : meth.sig.returnType = (some (.boolean))) (b1 : Nat) (v2 : Int32) (v3 : Int32) (w4 : Nat) (hb1 : isSh b1) (hw4 : w4 < 12) (v5 : Int32) (M : Mem) : J p l e R s m args below meth c g 6 (0, 0) (QfI below args s g) (pi_X0_readTrait_44 b1 v2 v3 w4 v5 M) M 44 [(0, .ref (gA g 37)), (1, .ref (gA g b1)), (2, .int v2), (3, .int v3), (4, .ref (gS g w4)), (5, .int v5)] [] := by
  unfold pi_X0_readTrait_44
  refine j_aload_n (i := 0) X dX0_readTrait_44 rfl rfl ?_
  refine j_iload_n (i := 3) X dX0_readTrait_45 rfl rfl ?_
  refine k_cNI (As := [.int v3]) (rest := [.ref (gA g 37)]) X (ct_X3_mostOf l g v3 M) wl_X0_77 rfl rfl (by decide) (Nat.le_of_ble_eq_true rfl) dX0_readTrait_46 (fun r_5 M_4 => ?_)
  refine k_cVI (As := [.int r_5]) (rest := []) (by decide) (cf_rd _) rfl X (ct_X0_isNumberTo l g r_5 M_4) wl_X0_41 rfl rfl (by decide) (Nat.le_of_ble_eq_true rfl) dX0_readTrait_49 (fun r_7 M_6 => ?_)
  refine j_if_ne (tgt := 57) X dX0_readTrait_52 (by decide) ?_ ?_
  · refine j_iconst (v := 0) X dX0_readTrait_55 rfl ?_
    exact j_zret X hr dX0_readTrait_56
  · refine j_aload_n (i := 1) X dX0_readTrait_57 rfl rfl ?_
    refine j_iload_n (i := 2) X dX0_readTrait_58 rfl rfl ?_
    refine j_iload_n (i := 3) X dX0_readTrait_59 rfl rfl ?_
    refine j_iload (i := 5) X dX0_readTrait_60 rfl ?_
    refine j_if_eq (tgt := 73) X dX0_readTrait_62 (by decide) ?_ ?_
    · refine j_aload_n (i := 0) X dX0_readTrait_73 rfl rfl ?_
      refine j_get_rd 5 X (by decide) wq_2 rfl dX0_readTrait_74 ?_
      refine j_pick [0, 1, 2, 3, 4] (Lq := [(0, .ref (gA g 37)), (1, .ref (gA g b1)), (2, .int v2), (3, .int v3), (4, .ref (gS g w4))]) rfl ?_
      exact pj_X0_readTrait_77 X hr b1 v2 v3 w4 hb1 hw4 (M_6 37 5) v3 v2 M_6
    · refine j_aload_n (i := 0) X dX0_readTrait_65 rfl rfl ?_
      refine j_get_rd 5 X (by decide) wq_2 rfl dX0_readTrait_66 ?_
      refine j_ineg X dX0_readTrait_69 ?_
      refine j_goto (tgt := 77) X dX0_readTrait_70 (by decide) ?_
      refine j_pick [0, 1, 2, 3, 4] (Lq := [(0, .ref (gA g 37)), (1, .ref (gA g b1)), (2, .int v2), (3, .int v3), (4, .ref (gS g w4))]) rfl ?_
      exact pj_X0_readTrait_77 X hr b1 v2 v3 w4 hb1 hw4 (-(M_6 37 5)) v3 v2 M_6
def pi_X0_readTrait_33 (b1 : Nat) (v2 : Int32) (v3 : Int32) (w4 : Nat) (t0 : Int32) (M : Mem) : Option (Int32 × Mem) := if t0 = 0 then (pi_X0_readTrait_44 b1 v2 v3 w4 t0 M) else (bv (mi_X0_advance M) fun M_10 => pi_X0_readTrait_44 b1 v2 v3 w4 t0 M_10)
set_option maxRecDepth 100000 in
set_option maxHeartbeats 4000000 in
theorem pj_X0_readTrait_33 {p : Program} {l : Launch} {e : Env} {R : Room} {s : State} {m : MethodId} {args : Array Value} {below : List Frame} {meth : Method} {c : Code} {g : Gh} (X : Cx p l e R s m args below meth c g cX0_readTrait 6 (0, 0) RX0 5) (hr : meth.sig.returnType = (some (.boolean))) (b1 : Nat) (v2 : Int32) (v3 : Int32) (w4 : Nat) (hb1 : isSh b1) (hw4 : w4 < 12) (t0 : Int32) (M : Mem) : J p l e R s m args below meth c g 6 (0, 0) (QfI below args s g) (pi_X0_readTrait_33 b1 v2 v3 w4 t0 M) M 33 [(0, .ref (gA g 37)), (1, .ref (gA g b1)), (2, .int v2), (3, .int v3), (4, .ref (gS g w4))] [.int t0] := by
  unfold pi_X0_readTrait_33
  refine j_istore (i := 5) (Lq := [(0, .ref (gA g 37)), (1, .ref (gA g b1)), (2, .int v2), (3, .int v3), (4, .ref (gS g w4)), (5, .int t0)]) X dX0_readTrait_33 (by decide) rfl ?_
  refine j_iload (i := 5) X dX0_readTrait_35 rfl ?_
  refine j_if_eq (tgt := 44) X dX0_readTrait_37 (by decide) ?_ ?_
  · exact pj_X0_readTrait_44 X hr b1 v2 v3 w4 hb1 hw4 t0 M
  · refine j_aload_n (i := 0) X dX0_readTrait_40 rfl rfl ?_
    refine k_cVV (As := []) (rest := []) (by decide) (cf_rd _) rfl X (ct_X0_advance l g M) wl_X0_22 rfl rfl (by decide) (Nat.le_of_ble_eq_true rfl) dX0_readTrait_41 (fun M_10 => ?_)
    exact pj_X0_readTrait_44 X hr b1 v2 v3 w4 hb1 hw4 t0 M_10
def pi_X0_readTrait_32 (b1 : Nat) (v2 : Int32) (v3 : Int32) (w4 : Nat) (M : Mem) : Option (Int32 × Mem) := pi_X0_readTrait_33 b1 v2 v3 w4 0 M
set_option maxRecDepth 100000 in
set_option maxHeartbeats 4000000 in
theorem pj_X0_readTrait_32 {p : Program} {l : Launch} {e : Env} {R : Room} {s : State} {m : MethodId} {args : Array Value} {below : List Frame} {meth : Method} {c : Code} {g : Gh} (X : Cx p l e R s m args below meth c g cX0_readTrait 6 (0, 0) RX0 5) (hr : meth.sig.returnType = (some (.boolean))) (b1 : Nat) (v2 : Int32) (v3 : Int32) (w4 : Nat) (hb1 : isSh b1) (hw4 : w4 < 12) (M : Mem) : J p l e R s m args below meth c g 6 (0, 0) (QfI below args s g) (pi_X0_readTrait_32 b1 v2 v3 w4 M) M 32 [(0, .ref (gA g 37)), (1, .ref (gA g b1)), (2, .int v2), (3, .int v3), (4, .ref (gS g w4))] [] := by
  unfold pi_X0_readTrait_32
  refine j_iconst (v := 0) X dX0_readTrait_32 rfl ?_
  exact pj_X0_readTrait_33 X hr b1 v2 v3 w4 hb1 hw4 0 M
def pi_X0_readTrait_e (b1 : Nat) (v2 : Int32) (v3 : Int32) (w4 : Nat) (M : Mem) : Option (Int32 × Mem) := bd (mi_X0_isWord w4 M) fun r_2 M_1 => if r_2 = 0 then (gd (isB 1) (some (1, M_1))) else (bv (mi_X0_advance M_1) fun M_3 => if v3 = 2 then (if (M_3 37 4) = 4 then (pi_X0_readTrait_33 b1 v2 v3 w4 1 M_3) else (pi_X0_readTrait_32 b1 v2 v3 w4 M_3)) else (pi_X0_readTrait_32 b1 v2 v3 w4 M_3))
set_option maxRecDepth 100000 in
set_option maxHeartbeats 4000000 in
theorem pj_X0_readTrait_e {p : Program} {l : Launch} {e : Env} {R : Room} {s : State} {m : MethodId} {args : Array Value} {below : List Frame} {meth : Method} {c : Code} {g : Gh} (X : Cx p l e R s m args below meth c g cX0_readTrait 6 (0, 0) RX0 5) (hr : meth.sig.returnType = (some (.boolean))) (b1 : Nat) (v2 : Int32) (v3 : Int32) (w4 : Nat) (hb1 : isSh b1) (hw4 : w4 < 12) (M : Mem) : J p l e R s m args below meth c g 6 (0, 0) (QfI below args s g) (pi_X0_readTrait_e b1 v2 v3 w4 M) M 0 [(0, .ref (gA g 37)), (1, .ref (gA g b1)), (2, .int v2), (3, .int v3), (4, .ref (gS g w4))] [] := by
  unfold pi_X0_readTrait_e
  refine j_aload_n (i := 0) X dX0_readTrait_0 rfl rfl ?_
  refine j_aload (i := 4) X dX0_readTrait_1 rfl ?_
  refine k_cVI (As := [.ref (gS g w4)]) (rest := []) (by decide) (cf_rd _) rfl X (ct_X0_isWord l g w4 hw4 M) wl_X0_37 rfl rfl (by decide) (Nat.le_of_ble_eq_true rfl) dX0_readTrait_3 (fun r_2 M_1 => ?_)
  refine j_if_ne (tgt := 11) X dX0_readTrait_6 (by decide) ?_ ?_
  · refine j_iconst (v := 1) X dX0_readTrait_9 rfl ?_
    exact j_zret X hr dX0_readTrait_10
  · refine j_aload_n (i := 0) X dX0_readTrait_11 rfl rfl ?_
    refine k_cVV (As := []) (rest := []) (by decide) (cf_rd _) rfl X (ct_X0_advance l g M_1) wl_X0_22 rfl rfl (by decide) (Nat.le_of_ble_eq_true rfl) dX0_readTrait_12 (fun M_3 => ?_)
    refine j_iload_n (i := 3) X dX0_readTrait_15 rfl rfl ?_
    refine j_iconst (v := 2) X dX0_readTrait_16 rfl ?_
    refine j_icmp_ne (tgt := 32) X dX0_readTrait_17 (by decide) ?_ ?_
    · refine j_aload_n (i := 0) X dX0_readTrait_20 rfl rfl ?_
      refine j_get_rd 4 X (by decide) wq_15 rfl dX0_readTrait_21 ?_
      refine j_iconst (v := 4) X dX0_readTrait_24 rfl ?_
      refine j_icmp_ne (tgt := 32) X dX0_readTrait_25 (by decide) ?_ ?_
      · refine j_iconst (v := 1) X dX0_readTrait_28 rfl ?_
        refine j_goto (tgt := 33) X dX0_readTrait_29 (by decide) ?_
        exact pj_X0_readTrait_33 X hr b1 v2 v3 w4 hb1 hw4 1 M_3
      · exact pj_X0_readTrait_32 X hr b1 v2 v3 w4 hb1 hw4 M_3
    · exact pj_X0_readTrait_32 X hr b1 v2 v3 w4 hb1 hw4 M_3
def mi_X0_readTrait (b1 : Nat) (v2 : Int32) (v3 : Int32) (w4 : Nat) (M : Mem) : Option (Int32 × Mem) := pi_X0_readTrait_e b1 v2 v3 w4 M
theorem ct_X0_readTrait (l : Launch) (g : Gh) (b1 : Nat) (v2 : Int32) (v3 : Int32) (w4 : Nat) (hb1 : isSh b1) (hw4 : w4 < 12) (M : Mem) : CtI l g yX0_readTrait cX0_readTrait 6 (some (.boolean)) 5 [.ref (gA g 37), .ref (gA g b1), .int v2, .int v3, .ref (gS g w4)] M (mi_X0_readTrait b1 v2 v3 w4 M) := ctI_of (own := RX0) (L := [(0, .ref (gA g 37)), (1, .ref (gA g b1)), (2, .int v2), (3, .int v3), (4, .ref (gS g w4))]) (by decide +kernel) rfl (Nat.le_of_ble_eq_true rfl) rfl (fun p e s m args below meth c X hr => pj_X0_readTrait_e X hr b1 v2 v3 w4 hb1 hw4 M)

def pi_X2_isCrowded_e (b : Nat) (M : Mem) : Option (Int32 × Mem) := if (M b 3) < 8 then (gd (isB 0) (some (0, M))) else (gd (isB 1) (some (1, M)))
set_option maxRecDepth 100000 in
set_option maxHeartbeats 4000000 in
theorem pj_X2_isCrowded_e {p : Program} {l : Launch} {e : Env} {R : Room} {s : State} {m : MethodId} {args : Array Value} {below : List Frame} {meth : Method} {c : Code} {g : Gh} (X : Cx p l e R s m args below meth c g cX2_isCrowded 1 (0, 0) RX2 0) (hr : meth.sig.returnType = (some (.boolean))) (b : Nat) (hb : isSh b) (M : Mem) : J p l e R s m args below meth c g 1 (0, 0) (QfI below args s g) (pi_X2_isCrowded_e b M) M 0 [(0, .ref (gA g b))] [] := by
  unfold pi_X2_isCrowded_e
  refine j_aload_n (i := 0) X dX2_isCrowded_0 rfl rfl ?_
  refine j_get_sh hb 3 X (by decide) wq_46 rfl dX2_isCrowded_1 ?_
  refine j_bipush (v := 8) X dX2_isCrowded_4 rfl ?_
  refine j_icmp_lt (tgt := 13) X dX2_isCrowded_6 (by decide) ?_ ?_
  · refine j_iconst (v := 0) X dX2_isCrowded_13 rfl ?_
    exact j_zret X hr dX2_isCrowded_14
  · refine j_iconst (v := 1) X dX2_isCrowded_9 rfl ?_
    refine j_goto (tgt := 14) X dX2_isCrowded_10 (by decide) ?_
    exact j_zret X hr dX2_isCrowded_14
def mi_X2_isCrowded (b : Nat) (M : Mem) : Option (Int32 × Mem) := pi_X2_isCrowded_e b M
theorem ct_X2_isCrowded (l : Launch) (g : Gh) (b : Nat) (hb : isSh b) (M : Mem) : CtI l g yX2_isCrowded cX2_isCrowded 1 (some (.boolean)) 0 [.ref (gA g b)] M (mi_X2_isCrowded b M) := ctI_of (own := RX2) (L := [(0, .ref (gA g b))]) (by decide +kernel) rfl (Nat.le_of_ble_eq_true rfl) rfl (fun p e s m args below meth c X hr => pj_X2_isCrowded_e X hr b hb M)

def pi_X2_raise_e (b : Nat) (v1 : Int32) (v2 : Int32) (M : Mem) : Option (Int32 × Mem) := bI (M b 3) fun v3_1 => gd (inb v3_1 8) <| bM (up M (b + 2) v3_1.toNatClampNeg v1) fun M_3 => gd (inb v3_1 8) <| bM (up M_3 (b + 3) v3_1.toNatClampNeg v2) fun M_5 => gd (inb v3_1 8) <| bM (up M_5 (b + 4) v3_1.toNatClampNeg 1) fun M_7 => gd (inb v3_1 8) <| bM (up M_7 (b + 5) v3_1.toNatClampNeg 0) fun M_9 => gd (inb v3_1 8) <| bM (up M_9 (b + 6) v3_1.toNatClampNeg 50) fun M_11 => gd (inb v3_1 8) <| bM (up M_11 (b + 7) v3_1.toNatClampNeg 0) fun M_13 => bM (up M_13 b 3 (v3_1 + 1)) fun M_14 => bv (mi_X2_lookAround b M_14) fun M_15 => some (v3_1, M_15)
set_option maxRecDepth 100000 in
set_option maxHeartbeats 4000000 in
theorem pj_X2_raise_e {p : Program} {l : Launch} {e : Env} {R : Room} {s : State} {m : MethodId} {args : Array Value} {below : List Frame} {meth : Method} {c : Code} {g : Gh} (X : Cx p l e R s m args below meth c g cX2_raise 4 (0, 0) RX2 2) (hr : meth.sig.returnType = (some (.int))) (b : Nat) (v1 : Int32) (v2 : Int32) (hb : isSh b) (M : Mem) : J p l e R s m args below meth c g 4 (0, 0) (QfI below args s g) (pi_X2_raise_e b v1 v2 M) M 0 [(0, .ref (gA g b)), (1, .int v1), (2, .int v2)] [] := by
  unfold pi_X2_raise_e
  refine j_aload_n (i := 0) X dX2_raise_0 rfl rfl ?_
  refine j_get_sh hb 3 X (by decide) wq_46 rfl dX2_raise_1 ?_
  refine j_bI (fun v3_1 => ?_)
  refine j_istore_n (i := 3) (Lq := [(0, .ref (gA g b)), (1, .int v1), (2, .int v2), (3, .int v3_1)]) X dX2_raise_4 rfl (by decide) rfl ?_
  refine j_aload_n (i := 0) X dX2_raise_5 rfl rfl ?_
  refine j_get_sh hb 5 X (by decide) wq_51 rfl dX2_raise_6 ?_
  refine j_iload_n (i := 3) X dX2_raise_9 rfl rfl ?_
  refine j_iload_n (i := 1) X dX2_raise_10 rfl rfl ?_
  refine j_iast X (ia_sh2 hb) dX2_raise_11 (fun h_2 => ?_)
  refine j_bM (fun M_3 => ?_)
  refine j_aload_n (i := 0) X dX2_raise_12 rfl rfl ?_
  refine j_get_sh hb 6 X (by decide) wq_49 rfl dX2_raise_13 ?_
  refine j_iload_n (i := 3) X dX2_raise_16 rfl rfl ?_
  refine j_iload_n (i := 2) X dX2_raise_17 rfl rfl ?_
  refine j_iast X (ia_sh3 hb) dX2_raise_18 (fun h_4 => ?_)
  refine j_bM (fun M_5 => ?_)
  refine j_aload_n (i := 0) X dX2_raise_19 rfl rfl ?_
  refine j_get_sh hb 7 X (by decide) wq_57 rfl dX2_raise_20 ?_
  refine j_iload_n (i := 3) X dX2_raise_23 rfl rfl ?_
  refine j_iconst (v := 1) X dX2_raise_24 rfl ?_
  refine j_iast X (ia_sh4 hb) dX2_raise_25 (fun h_6 => ?_)
  refine j_bM (fun M_7 => ?_)
  refine j_aload_n (i := 0) X dX2_raise_26 rfl rfl ?_
  refine j_get_sh hb 8 X (by decide) wq_50 rfl dX2_raise_27 ?_
  refine j_iload_n (i := 3) X dX2_raise_30 rfl rfl ?_
  refine j_iconst (v := 0) X dX2_raise_31 rfl ?_
  refine j_iast X (ia_sh5 hb) dX2_raise_32 (fun h_8 => ?_)
  refine j_bM (fun M_9 => ?_)
  refine j_aload_n (i := 0) X dX2_raise_33 rfl rfl ?_
  refine j_get_sh hb 9 X (by decide) wq_58 rfl dX2_raise_34 ?_
  refine j_iload_n (i := 3) X dX2_raise_37 rfl rfl ?_
  refine j_bipush (v := 50) X dX2_raise_38 rfl ?_
  refine j_iast X (ia_sh6 hb) dX2_raise_40 (fun h_10 => ?_)
  refine j_bM (fun M_11 => ?_)
  refine j_aload_n (i := 0) X dX2_raise_41 rfl rfl ?_
  refine j_get_sh hb 10 X (by decide) wq_59 rfl dX2_raise_42 ?_
  refine j_iload_n (i := 3) X dX2_raise_45 rfl rfl ?_
  refine j_iconst (v := 0) X dX2_raise_46 rfl ?_
  refine j_iast X (ia_sh7 hb) dX2_raise_47 (fun h_12 => ?_)
  refine j_bM (fun M_13 => ?_)
  refine j_aload_n (i := 0) X dX2_raise_48 rfl rfl ?_
  refine j_iload_n (i := 3) X dX2_raise_49 rfl rfl ?_
  refine j_iconst (v := 1) X dX2_raise_50 rfl ?_
  refine j_iadd X dX2_raise_51 ?_
  refine j_put_sh (ty := .int) hb 3 X (by decide) wq_46 (fun _ => rfl) rfl (by decide +kernel) rfl rfl dX2_raise_52 ?_
  refine j_bM (fun M_14 => ?_)
  refine j_aload_n (i := 0) X dX2_raise_55 rfl rfl ?_
  refine k_cVV (As := []) (rest := []) hb.lt (cf_sh hb _) rfl X (ct_X2_lookAround l g b hb M_14) wl_X2_55 rfl rfl (by decide) (Nat.le_of_ble_eq_true rfl) dX2_raise_56 (fun M_15 => ?_)
  refine j_iload_n (i := 3) X dX2_raise_59 rfl rfl ?_
  exact j_iret X hr dX2_raise_60
def mi_X2_raise (b : Nat) (v1 : Int32) (v2 : Int32) (M : Mem) : Option (Int32 × Mem) := pi_X2_raise_e b v1 v2 M
theorem ct_X2_raise (l : Launch) (g : Gh) (b : Nat) (v1 : Int32) (v2 : Int32) (hb : isSh b) (M : Mem) : CtI l g yX2_raise cX2_raise 4 (some (.int)) 2 [.ref (gA g b), .int v1, .int v2] M (mi_X2_raise b v1 v2 M) := ctI_of (own := RX2) (L := [(0, .ref (gA g b)), (1, .int v1), (2, .int v2)]) (by decide +kernel) rfl (Nat.le_of_ble_eq_true rfl) rfl (fun p e s m args below meth c X hr => pj_X2_raise_e X hr b v1 v2 hb M)
