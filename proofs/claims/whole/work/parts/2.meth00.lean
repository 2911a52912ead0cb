def pi_J7_fill_53178_5 (k0 : Nat) (n0 : Nat) (v1 : Int32) (v3 : Int32) (rc5 : Int32 × Mem → Option (Mem)) (v2 : Int32) (M : Mem) : Option (Mem) := if v3 ≤ v2 then (some M) else (gd (inb v2 n0) <| bM (up M k0 v2.toNatClampNeg v1) fun M_3 => bI (v2 + 1) fun v2_4 => rc5 (v2_4, M_3))
set_option maxRecDepth 100000 in
set_option maxHeartbeats 4000000 in
theorem pj_J7_fill_53178_5 {p : Program} {l : Launch} {e : Env} {R : Room} {s : State} {m : MethodId} {args : Array Value} {below : List Frame} {meth : Method} {c : Code} {g : Gh} (X : Cx p l e R s m args below meth c g cJ7_fill_53178 4 RJ7 0) (hr : meth.sig.returnType = none) (k0 : Nat) (n0 : Nat) (v1 : Int32) (ha0 : ia k0 n0) (v3 : Int32) (rc5 : Int32 × Mem → Option (Mem)) (hc5 : ∀ x, J p l e R s m args below meth c g 4 (QfV below args s g) (rc5 x) x.2 5 [(0, .ref (gA g k0)), (1, .int v1), (2, .int x.1), (3, .int v3)] []) (v2 : Int32) (M : Mem) : J p l e R s m args below meth c g 4 (QfV below args s g) (pi_J7_fill_53178_5 k0 n0 v1 v3 rc5 v2 M) M 5 [(0, .ref (gA g k0)), (1, .int v1), (2, .int v2), (3, .int v3)] [] := by
  unfold pi_J7_fill_53178_5
  refine j_iload_n (i := 2) X dJ7_fill_53178_5 rfl rfl ?_
  refine j_iload_n (i := 3) X dJ7_fill_53178_6 rfl rfl ?_
  refine j_icmp_ge (tgt := 20) X dJ7_fill_53178_7 (by decide) ?_ ?_
  · exact j_vret X hr dJ7_fill_53178_20
  · refine j_aload_n (i := 0) X dJ7_fill_53178_10 rfl rfl ?_
    refine j_iload_n (i := 2) X dJ7_fill_53178_11 rfl rfl ?_
    refine j_iload_n (i := 1) X dJ7_fill_53178_12 rfl rfl ?_
    refine j_iast X ha0 dJ7_fill_53178_13 (fun h_2 => ?_)
    refine j_bM (fun M_3 => ?_)
    refine j_iincB (i := 2) (y := v2 + 1) (Lf := fun v2_4 => [(0, .ref (gA g k0)), (1, .int v1), (2, .int v2_4), (3, .int v3)]) X dJ7_fill_53178_14 rfl rfl (by decide) (fun _ => rfl) (fun v2_4 => ?_)
    refine j_goto (tgt := 5) X dJ7_fill_53178_17 (by decide) ?_
    exact hc5 (v2_4, M_3)
def pi_J7_fill_53178_e (k0 : Nat) (n0 : Nat) (v1 : Int32) (M : Mem) : Option (Mem) := bI (Int32.ofNat n0) fun v3_1 => lp (fun rc5 x => pi_J7_fill_53178_5 k0 n0 v1 v3_1 rc5 x.1 x.2) FU (0, M)
set_option maxRecDepth 100000 in
set_option maxHeartbeats 4000000 in
theorem pj_J7_fill_53178_e {p : Program} {l : Launch} {e : Env} {R : Room} {s : State} {m : MethodId} {args : Array Value} {below : List Frame} {meth : Method} {c : Code} {g : Gh} (X : Cx p l e R s m args below meth c g cJ7_fill_53178 4 RJ7 0) (hr : meth.sig.returnType = none) (k0 : Nat) (n0 : Nat) (v1 : Int32) (ha0 : ia k0 n0) (M : Mem) : J p l e R s m args below meth c g 4 (QfV below args s g) (pi_J7_fill_53178_e k0 n0 v1 M) M 0 [(0, .ref (gA g k0)), (1, .int v1)] [] := by
  unfold pi_J7_fill_53178_e
  refine j_iconst (v := 0) X dJ7_fill_53178_0 rfl ?_
  refine j_istore_n (i := 2) (Lq := [(0, .ref (gA g k0)), (1, .int v1), (2, .int 0)]) X dJ7_fill_53178_1 rfl (by decide) rfl ?_
  refine j_aload_n (i := 0) X dJ7_fill_53178_2 rfl rfl ?_
  refine j_alen (v := Int32.ofNat n0) X ha0 rfl dJ7_fill_53178_3 ?_
  refine j_bI (fun v3_1 => ?_)
  refine j_istore_n (i := 3) (Lq := [(0, .ref (gA g k0)), (1, .int v1), (2, .int 0), (3, .int v3_1)]) X dJ7_fill_53178_4 rfl (by decide) rfl ?_
  exact j_lp (Lf := fun x => [(0, .ref (gA g k0)), (1, .int v1), (2, .int x.1), (3, .int v3_1)]) (Mf := fun x => x.2) (fun rc5 hc5 x => pj_J7_fill_53178_5 X hr k0 n0 v1 ha0 v3_1 rc5 hc5 x.1 x.2) FU (0, M)
def mi_J7_fill_53178 (k0 : Nat) (n0 : Nat) (v1 : Int32) (M : Mem) : Option (Mem) := pi_J7_fill_53178_e k0 n0 v1 M
theorem ct_J7_fill_53178 (l : Launch) (g : Gh) (k0 : Nat) (n0 : Nat) (v1 : Int32) (ha0 : ia k0 n0) (M : Mem) : CtV l g yJ7_fill_53178 cJ7_fill_53178 4 none 0 [.ref (gA g k0), .int v1] M (mi_J7_fill_53178 k0 n0 v1 M) := ctV_of (own := RJ7) (L := [(0, .ref (gA g k0)), (1, .int v1)]) (by decide +kernel) rfl (Nat.le_of_ble_eq_true rfl) rfl (fun p e s m args below meth c X hr => pj_J7_fill_53178_e X hr k0 n0 v1 ha0 M)

def pi_X2_lookAround_91 (b : Nat) (rc91 : Int32 × Mem → Option (Mem)) (v1 : Int32) (M : Mem) : Option (Mem) := if (M b 3) ≤ v1 then (some M) else (gd (inb v1 8) <| gd (inb (M (b + 8) v1.toNatClampNeg) 12) <| gd (inb v1 8) <| gd (inb (M (b + 3) v1.toNatClampNeg) 12) <| gd (inb v1 8) <| bM (up M (b + 9) v1.toNatClampNeg (((M (b + 10) (M (b + 8) v1.toNatClampNeg).toNatClampNeg) &&& (M (b + 11) (M (b + 3) v1.toNatClampNeg).toNatClampNeg)) &&& ((1 <<< (v1 &&& 31)) ^^^ (-1)))) fun M_8 => bI (v1 + 1) fun v1_9 => rc91 (v1_9, M_8))
set_option maxRecDepth 100000 in
set_option maxHeartbeats 4000000 in
theorem pj_X2_lookAround_91 {p : Program} {l : Launch} {e : Env} {R : Room} {s : State} {m : MethodId} {args : Array Value} {below : List Frame} {meth : Method} {c : Code} {g : Gh} (X : Cx p l e R s m args below meth c g cX2_lookAround 3 RX2 1) (hr : meth.sig.returnType = none) (b : Nat) (hb : isSh b) (rc91 : Int32 × Mem → Option (Mem)) (hc91 : ∀ x, J p l e R s m args below meth c g 3 (QfV below args s g) (rc91 x) x.2 91 [(0, .ref (gA g b)), (1, .int x.1)] []) (v1 : Int32) (M : Mem) : J p l e R s m args below meth c g 3 (QfV below args s g) (pi_X2_lookAround_91 b rc91 v1 M) M 91 [(0, .ref (gA g b)), (1, .int v1)] [] := by
  unfold pi_X2_lookAround_91
  refine j_iload_n (i := 1) X dX2_lookAround_91 rfl rfl ?_
  refine j_aload_n (i := 0) X dX2_lookAround_92 rfl rfl ?_
  refine j_get_sh hb 3 X (by decide) wq_46 rfl dX2_lookAround_93 ?_
  refine j_icmp_ge (tgt := 140) X dX2_lookAround_96 (by decide) ?_ ?_
  · exact j_vret X hr dX2_lookAround_140
  · refine j_aload_n (i := 0) X dX2_lookAround_99 rfl rfl ?_
    refine j_get_sh hb 12 X (by decide) wq_47 rfl dX2_lookAround_100 ?_
    refine j_iload_n (i := 1) X dX2_lookAround_103 rfl rfl ?_
    refine j_aload_n (i := 0) X dX2_lookAround_104 rfl rfl ?_
    refine j_get_sh hb 13 X (by decide) wq_40 rfl dX2_lookAround_105 ?_
    refine j_aload_n (i := 0) X dX2_lookAround_108 rfl rfl ?_
    refine j_get_sh hb 11 X (by decide) wq_48 rfl dX2_lookAround_109 ?_
    refine j_iload_n (i := 1) X dX2_lookAround_112 rfl rfl ?_
    refine j_iald X (ia_sh8 hb) dX2_lookAround_113 (fun h_3 => ?_)
    refine j_iald X (ia_sh10 hb) dX2_lookAround_114 (fun h_4 => ?_)
    refine j_aload_n (i := 0) X dX2_lookAround_115 rfl rfl ?_
    refine j_get_sh hb 14 X (by decide) wq_45 rfl dX2_lookAround_116 ?_
    refine j_aload_n (i := 0) X dX2_lookAround_119 rfl rfl ?_
    refine j_get_sh hb 6 X (by decide) wq_49 rfl dX2_lookAround_120 ?_
    refine j_iload_n (i := 1) X dX2_lookAround_123 rfl rfl ?_
    refine j_iald X (ia_sh3 hb) dX2_lookAround_124 (fun h_5 => ?_)
    refine j_iald X (ia_sh11 hb) dX2_lookAround_125 (fun h_6 => ?_)
    refine j_iand X dX2_lookAround_126 ?_
    refine j_iconst (v := 1) X dX2_lookAround_127 rfl ?_
    refine j_iload_n (i := 1) X dX2_lookAround_128 rfl rfl ?_
    refine j_ishl X dX2_lookAround_129 ?_
    refine j_iconst (v := (-1)) X dX2_lookAround_130 rfl ?_
    refine j_ixor X dX2_lookAround_131 ?_
    refine j_iand X dX2_lookAround_132 ?_
    refine j_iast X (ia_sh9 hb) dX2_lookAround_133 (fun h_7 => ?_)
    refine j_bM (fun M_8 => ?_)
    refine j_iincB (i := 1) (y := v1 + 1) (Lf := fun v1_9 => [(0, .ref (gA g b)), (1, .int v1_9)]) X dX2_lookAround_134 rfl rfl (by decide) (fun _ => rfl) (fun v1_9 => ?_)
    refine j_goto (tgt := 91) X dX2_lookAround_137 (by decide) ?_
    exact hc91 (v1_9, M_8)
def pi_X2_lookAround_18 (b : Nat) (rc18 : Int32 × Mem → Option (Mem)) (v1 : Int32) (M : Mem) : Option (Mem) := if (M b 3) ≤ v1 then (lp (fun rc91 x => pi_X2_lookAround_91 b rc91 x.1 x.2) FU (0, M)) else (gd (inb v1 8) <| gd (inb v1 8) <| gd (inb (M (b + 5) v1.toNatClampNeg) 4) <| bI (((M (b + 3) v1.toNatClampNeg) + (foT (M (b + 5) v1.toNatClampNeg).toNatClampNeg)) - ((M (b + 3) v1.toNatClampNeg) + (foT (M (b + 5) v1.toNatClampNeg).toNatClampNeg)) / 12 * 12) fun v2_13 => gd (inb v1 8) <| bM (up M (b + 8) v1.toNatClampNeg v2_13) fun M_15 => gd (inb v1 8) <| gd (inb (M_15 (b + 3) v1.toNatClampNeg) 12) <| gd (inb (M_15 (b + 3) v1.toNatClampNeg) 12) <| bM (up M_15 (b + 10) (M_15 (b + 3) v1.toNatClampNeg).toNatClampNeg ((M_15 (b + 10) (M_15 (b + 3) v1.toNatClampNeg).toNatClampNeg) ||| (1 <<< (v1 &&& 31)))) fun M_19 => gd (inb v2_13 12) <| gd (inb v2_13 12) <| bM (up M_19 (b + 11) v2_13.toNatClampNeg ((M_19 (b + 11) v2_13.toNatClampNeg) ||| (1 <<< (v1 &&& 31)))) fun M_22 => bI (v1 + 1) fun v1_23 => rc18 (v1_23, M_22))
set_option maxRecDepth 100000 in
set_option maxHeartbeats 4000000 in
theorem pj_X2_lookAround_18 {p : Program} {l : Launch} {e : Env} {R : Room} {s : State} {m : MethodId} {args : Array Value} {below : List Frame} {meth : Method} {c : Code} {g : Gh} (X : Cx p l e R s m args below meth c g cX2_lookAround 3 RX2 1) (hr : meth.sig.returnType = none) (b : Nat) (hb : isSh b) (rc18 : Int32 × Mem → Option (Mem)) (hc18 : ∀ x, J p l e R s m args below meth c g 3 (QfV below args s g) (rc18 x) x.2 18 [(0, .ref (gA g b)), (1, .int x.1)] []) (v1 : Int32) (M : Mem) : J p l e R s m args below meth c g 3 (QfV below args s g) (pi_X2_lookAround_18 b rc18 v1 M) M 18 [(0, .ref (gA g b)), (1, .int v1)] [] := by
  unfold pi_X2_lookAround_18
  refine j_iload_n (i := 1) X dX2_lookAround_18 rfl rfl ?_
  refine j_aload_n (i := 0) X dX2_lookAround_19 rfl rfl ?_
  refine j_get_sh hb 3 X (by decide) wq_46 rfl dX2_lookAround_20 ?_
  refine j_icmp_ge (tgt := 89) X dX2_lookAround_23 (by decide) ?_ ?_
  · refine j_iconst (v := 0) X dX2_lookAround_89 rfl ?_
    refine j_istore_n (i := 1) (Lq := [(0, .ref (gA g b)), (1, .int 0)]) X dX2_lookAround_90 rfl (by decide) rfl ?_
    exact j_lp (Lf := fun x => [(0, .ref (gA g b)), (1, .int x.1)]) (Mf := fun x => x.2) (fun rc91 hc91 x => pj_X2_lookAround_91 X hr b hb rc91 hc91 x.1 x.2) FU (0, M)
  · refine j_aload_n (i := 0) X dX2_lookAround_26 rfl rfl ?_
    refine j_get_sh hb 6 X (by decide) wq_49 rfl dX2_lookAround_27 ?_
    refine j_iload_n (i := 1) X dX2_lookAround_30 rfl rfl ?_
    refine j_iald X (ia_sh3 hb) dX2_lookAround_31 (fun h_10 => ?_)
    refine j_gets_fo X (by decide +kernel) dX2_lookAround_32 ?_
    refine j_aload_n (i := 0) X dX2_lookAround_35 rfl rfl ?_
    refine j_get_sh hb 8 X (by decide) wq_50 rfl dX2_lookAround_36 ?_
    refine j_iload_n (i := 1) X dX2_lookAround_39 rfl rfl ?_
    refine j_iald X (ia_sh5 hb) dX2_lookAround_40 (fun h_11 => ?_)
    refine j_tld_fo X dX2_lookAround_41 (fun h_12 => ?_)
    refine j_iadd X dX2_lookAround_42 ?_
    refine j_bipush (v := 12) X dX2_lookAround_43 rfl ?_
    refine j_iremc X dX2_lookAround_45 (by decide) ?_
    refine j_bI (fun v2_13 => ?_)
    refine j_istore_n (i := 2) (Lq := [(0, .ref (gA g b)), (1, .int v1), (2, .int v2_13)]) X dX2_lookAround_46 rfl (by decide) rfl ?_
    refine j_aload_n (i := 0) X dX2_lookAround_47 rfl rfl ?_
    refine j_get_sh hb 11 X (by decide) wq_48 rfl dX2_lookAround_48 ?_
    refine j_iload_n (i := 1) X dX2_lookAround_51 rfl rfl ?_
    refine j_iload_n (i := 2) X dX2_lookAround_52 rfl rfl ?_
    refine j_iast X (ia_sh8 hb) dX2_lookAround_53 (fun h_14 => ?_)
    refine j_bM (fun M_15 => ?_)
    refine j_aload_n (i := 0) X dX2_lookAround_54 rfl rfl ?_
    refine j_get_sh hb 13 X (by decide) wq_40 rfl dX2_lookAround_55 ?_
    refine j_aload_n (i := 0) X dX2_lookAround_58 rfl rfl ?_
    refine j_get_sh hb 6 X (by decide) wq_49 rfl dX2_lookAround_59 ?_
    refine j_iload_n (i := 1) X dX2_lookAround_62 rfl rfl ?_
    refine j_iald X (ia_sh3 hb) dX2_lookAround_63 (fun h_16 => ?_)
    refine j_dup2 X dX2_lookAround_64 rfl rfl ?_
    refine j_iald X (ia_sh10 hb) dX2_lookAround_65 (fun h_17 => ?_)
    refine j_iconst (v := 1) X dX2_lookAround_66 rfl ?_
    refine j_iload_n (i := 1) X dX2_lookAround_67 rfl rfl ?_
    refine j_ishl X dX2_lookAround_68 ?_
    refine j_ior X dX2_lookAround_69 ?_
    refine j_iast X (ia_sh10 hb) dX2_lookAround_70 (fun h_18 => ?_)
    refine j_bM (fun M_19 => ?_)
    refine j_aload_n (i := 0) X dX2_lookAround_71 rfl rfl ?_
    refine j_get_sh hb 14 X (by decide) wq_45 rfl dX2_lookAround_72 ?_
    refine j_iload_n (i := 2) X dX2_lookAround_75 rfl rfl ?_
    refine j_dup2 X dX2_lookAround_76 rfl rfl ?_
    refine j_iald X (ia_sh11 hb) dX2_lookAround_77 (fun h_20 => ?_)
    refine j_iconst (v := 1) X dX2_lookAround_78 rfl ?_
    refine j_iload_n (i := 1) X dX2_lookAround_79 rfl rfl ?_
    refine j_ishl X dX2_lookAround_80 ?_
    refine j_ior X dX2_lookAround_81 ?_
    refine j_iast X (ia_sh11 hb) dX2_lookAround_82 (fun h_21 => ?_)
    refine j_bM (fun M_22 => ?_)
    refine j_iincB (i := 1) (y := v1 + 1) (Lf := fun v1_23 => [(0, .ref (gA g b)), (1, .int v1_23), (2, .int v2_13)]) X dX2_lookAround_83 rfl rfl (by decide) (fun _ => rfl) (fun v1_23 => ?_)
    refine j_goto (tgt := 18) X dX2_lookAround_86 (by decide) ?_
    refine j_pick [0, 1] (Lq := [(0, .ref (gA g b)), (1, .int v1_23)]) rfl ?_
    exact hc18 (v1_23, M_22)
def pi_X2_lookAround_e (b : Nat) (M : Mem) : Option (Mem) := bv (mi_J7_fill_53178 (b + 10) 12 0 M) fun M_1 => bv (mi_J7_fill_53178 (b + 11) 12 0 M_1) fun M_2 => lp (fun rc18 x => pi_X2_lookAround_18 b rc18 x.1 x.2) FU (0, M_2)
set_option maxRecDepth 100000 in
set_option maxHeartbeats 4000000 in
theorem pj_X2_lookAround_e {p : Program} {l : Launch} {e : Env} {R : Room} {s : State} {m : MethodId} {args : Array Value} {below : List Frame} {meth : Method} {c : Code} {g : Gh} (X : Cx p l e R s m args below meth c g cX2_lookAround 3 RX2 1) (hr : meth.sig.returnType = none) (b : Nat) (hb : isSh b) (M : Mem) : J p l e R s m args below meth c g 3 (QfV below args s g) (pi_X2_lookAround_e b M) M 0 [(0, .ref (gA g b))] [] := by
  unfold pi_X2_lookAround_e
  refine j_aload_n (i := 0) X dX2_lookAround_0 rfl rfl ?_
  refine j_get_sh hb 13 X (by decide) wq_40 rfl dX2_lookAround_1 ?_
  refine j_iconst (v := 0) X dX2_lookAround_4 rfl ?_
  refine k_cSV (As := [.ref (gA g (b + 10)), .int 0]) (rest := []) X (ct_J7_fill_53178 l g (b + 10) 12 0 (ia_sh10 hb) M) wl_X2_67 rfl rfl (by decide) (Nat.le_of_ble_eq_true rfl) dX2_lookAround_5 (fun M_1 => ?_)
  refine j_aload_n (i := 0) X dX2_lookAround_8 rfl rfl ?_
  refine j_get_sh hb 14 X (by decide) wq_45 rfl dX2_lookAround_9 ?_
  refine j_iconst (v := 0) X dX2_lookAround_12 rfl ?_
  refine k_cSV (As := [.ref (gA g (b + 11)), .int 0]) (rest := []) X (ct_J7_fill_53178 l g (b + 11) 12 0 (ia_sh11 hb) M_1) wl_X2_67 rfl rfl (by decide) (Nat.le_of_ble_eq_true rfl) dX2_lookAround_13 (fun M_2 => ?_)
  refine j_iconst (v := 0) X dX2_lookAround_16 rfl ?_
  refine j_istore_n (i := 1) (Lq := [(0, .ref (gA g b)), (1, .int 0)]) X dX2_lookAround_17 rfl (by decide) rfl ?_
  exact j_lp (Lf := fun x => [(0, .ref (gA g b)), (1, .int x.1)]) (Mf := fun x => x.2) (fun rc18 hc18 x => pj_X2_lookAround_18 X hr b hb rc18 hc18 x.1 x.2) FU (0, M_2)
def mi_X2_lookAround (b : Nat) (M : Mem) : Option (Mem) := pi_X2_lookAround_e b M
theorem ct_X2_lookAround (l : Launch) (g : Gh) (b : Nat) (hb : isSh b) (M : Mem) : CtV l g yX2_lookAround cX2_lookAround 3 none 1 [.ref (gA g b)] M (mi_X2_lookAround b M) := ctV_of (own := RX2) (L := [(0, .ref (gA g b))]) (by decide +kernel) rfl (Nat.le_of_ble_eq_true rfl) rfl (fun p e s m args below meth c X hr => pj_X2_lookAround_e X hr b hb M)

def pi_X2_lacks_e (b : Nat) (v1 : Int32) (M : Mem) : Option (Int32 × Mem) := if v1 < 0 then (gd (isB 1) (some (1, M))) else (if v1 < (M b 3) then (gd (isB 0) (some (0, M))) else (gd (isB 1) (some (1, M))))
set_option maxRecDepth 100000 in
set_option maxHeartbeats 4000000 in
theorem pj_X2_lacks_e {p : Program} {l : Launch} {e : Env} {R : Room} {s : State} {m : MethodId} {args : Array Value} {below : List Frame} {meth : Method} {c : Code} {g : Gh} (X : Cx p l e R s m args below meth c g cX2_lacks 2 RX2 0) (hr : meth.sig.returnType = (some (.boolean))) (b : Nat) (v1 : Int32) (hb : isSh b) (M : Mem) : J p l e R s m args below meth c g 2 (QfI below args s g) (pi_X2_lacks_e b v1 M) M 0 [(0, .ref (gA g b)), (1, .int v1)] [] := by
  unfold pi_X2_lacks_e
  refine j_iload_n (i := 1) X dX2_lacks_0 rfl rfl ?_
  refine j_if_lt (tgt := 12) X dX2_lacks_1 (by decide) ?_ ?_
  · refine j_iconst (v := 1) X dX2_lacks_12 rfl ?_
    refine j_goto (tgt := 17) X dX2_lacks_13 (by decide) ?_
    exact j_zret X hr dX2_lacks_17
  · refine j_iload_n (i := 1) X dX2_lacks_4 rfl rfl ?_
    refine j_aload_n (i := 0) X dX2_lacks_5 rfl rfl ?_
    refine j_get_sh hb 3 X (by decide) wq_46 rfl dX2_lacks_6 ?_
    refine j_icmp_lt (tgt := 16) X dX2_lacks_9 (by decide) ?_ ?_
    · refine j_iconst (v := 0) X dX2_lacks_16 rfl ?_
      exact j_zret X hr dX2_lacks_17
    · refine j_iconst (v := 1) X dX2_lacks_12 rfl ?_
      refine j_goto (tgt := 17) X dX2_lacks_13 (by decide) ?_
      exact j_zret X hr dX2_lacks_17
def mi_X2_lacks (b : Nat) (v1 : Int32) (M : Mem) : Option (Int32 × Mem) := pi_X2_lacks_e b v1 M
theorem ct_X2_lacks (l : Launch) (g : Gh) (b : Nat) (v1 : Int32) (hb : isSh b) (M : Mem) : CtI l g yX2_lacks cX2_lacks 2 (some (.boolean)) 0 [.ref (gA g b), .int v1] M (mi_X2_lacks b v1 M) := ctI_of (own := RX2) (L := [(0, .ref (gA g b)), (1, .int v1)]) (by decide +kernel) rfl (Nat.le_of_ble_eq_true rfl) rfl (fun p e s m args below meth c X hr => pj_X2_lacks_e X hr b v1 hb M)

def pi_X3_finding_e (v1 : Int32) (M : Mem) : Option (Int32 × Mem) := gd (inb v1 7) <| gd (inb v1 7) <| bM (up M 48 v1.toNatClampNeg ((M 48 v1.toNatClampNeg) + 1)) fun M_3 => some ((-1000001) - v1, M_3)
set_option maxRecDepth 100000 in
set_option maxHeartbeats 4000000 in
theorem pj_X3_finding_e {p : Program} {l : Launch} {e : Env} {R : Room} {s : State} {m : MethodId} {args : Array Value} {below : List Frame} {meth : Method} {c : Code} {g : Gh} (X : Cx p l e R s m args below meth c g cX3_finding 2 RX3 0) (hr : meth.sig.returnType = (some (.int))) (v1 : Int32) (M : Mem) : J p l e R s m args below meth c g 2 (QfI below args s g) (pi_X3_finding_e v1 M) M 0 [(0, .ref (gA g 0)), (1, .int v1)] [] := by
  unfold pi_X3_finding_e
  refine j_aload_n (i := 0) X dX3_finding_0 rfl rfl ?_
  refine j_get_hd 6 X (by decide) wq_167 rfl dX3_finding_1 ?_
  refine j_iload_n (i := 1) X dX3_finding_4 rfl rfl ?_
  refine j_dup2 X dX3_finding_5 rfl rfl ?_
  refine j_iald X ia_48 dX3_finding_6 (fun h_1 => ?_)
  refine j_iconst (v := 1) X dX3_finding_7 rfl ?_
  refine j_iadd X dX3_finding_8 ?_
  refine j_iast X ia_48 dX3_finding_9 (fun h_2 => ?_)
  refine j_bM (fun M_3 => ?_)
  refine j_ldc (v := (-1000001)) X wq_168 dX3_finding_10 ?_
  refine j_iload_n (i := 1) X dX3_finding_12 rfl rfl ?_
  refine j_isub X dX3_finding_13 ?_
  exact j_iret X hr dX3_finding_14
def mi_X3_finding (v1 : Int32) (M : Mem) : Option (Int32 × Mem) := pi_X3_finding_e v1 M
theorem ct_X3_finding (l : Launch) (g : Gh) (v1 : Int32) (M : Mem) : CtI l g yX3_finding cX3_finding 2 (some (.int)) 0 [.ref (gA g 0), .int v1] M (mi_X3_finding v1 M) := ctI_of (own := RX3) (L := [(0, .ref (gA g 0)), (1, .int v1)]) (by decide +kernel) rfl (Nat.le_of_ble_eq_true rfl) rfl (fun p e s m args below meth c X hr => pj_X3_finding_e X hr v1  M)

def pi_X3_isOutside_e (v0 : Int32) (v1 : Int32) (v2 : Int32) (M : Mem) : Option (Int32 × Mem) := if v0 < v1 then (gd (isB 1) (some (1, M))) else (if v0 ≤ v2 then (gd (isB 0) (some (0, M))) else (gd (isB 1) (some (1, M))))
set_option maxRecDepth 100000 in
set_option maxHeartbeats 4000000 in
theorem pj_X3_isOutside_e {p : Program} {l : Launch} {e : Env} {R : Room} {s : State} {m : MethodId} {args : Array Value} {below : List Frame} {meth : Method} {c : Code} {g : Gh} (X : Cx p l e R s m args below meth c g cX3_isOutside 3 RX3 0) (hr : meth.sig.returnType = (some (.boolean))) (v0 : Int32) (v1 : Int32) (v2 : Int32) (M : Mem) : J p l e R s m args below meth c g 3 (QfI below args s g) (pi_X3_isOutside_e v0 v1 v2 M) M 0 [(0, .int v0), (1, .int v1), (2, .int v2)] [] := by
  unfold pi_X3_isOutside_e
  refine j_iload_n (i := 0) X dX3_isOutside_0 rfl rfl ?_
  refine j_iload_n (i := 1) X dX3_isOutside_1 rfl rfl ?_
  refine j_icmp_lt (tgt := 10) X dX3_isOutside_2 (by decide) ?_ ?_
  · refine j_iconst (v := 1) X dX3_isOutside_10 rfl ?_
    refine j_goto (tgt := 15) X dX3_isOutside_11 (by decide) ?_
    exact j_zret X hr dX3_isOutside_15
  · refine j_iload_n (i := 0) X dX3_isOutside_5 rfl rfl ?_
    refine j_iload_n (i := 2) X dX3_isOutside_6 rfl rfl ?_
    refine j_icmp_le (tgt := 14) X dX3_isOutside_7 (by decide) ?_ ?_
    · refine j_iconst (v := 0) X dX3_isOutside_14 rfl ?_
      exact j_zret X hr dX3_isOutside_15
    · refine j_iconst (v := 1) X dX3_isOutside_10 rfl ?_
      refine j_goto (tgt := 15) X dX3_isOutside_11 (by decide) ?_
      exact j_zret X hr dX3_isOutside_15
def mi_X3_isOutside (v0 : Int32) (v1 : Int32) (v2 : Int32) (M : Mem) : Option (Int32 × Mem) := pi_X3_isOutside_e v0 v1 v2 M
theorem ct_X3_isOutside (l : Launch) (g : Gh) (v0 : Int32) (v1 : Int32) (v2 : Int32) (M : Mem) : CtI l g yX3_isOutside cX3_isOutside 3 (some (.boolean)) 0 [.int v0, .int v1, .int v2] M (mi_X3_isOutside v0 v1 v2 M) := ctI_of (own := RX3) (L := [(0, .int v0), (1, .int v1), (2, .int v2)]) (by decide +kernel) rfl (Nat.le_of_ble_eq_true rfl) rfl (fun p e s m args below meth c X hr => pj_X3_isOutside_e X hr v0 v1 v2  M)

def pi_X3_rain_e (v1 : Int32) (M : Mem) : Option (Int32 × Mem) := bd (mi_X3_isOutside v1 0 9 M) fun r_2 M_1 => if r_2 = 0 then (bI (M_1 1 0) fun v2_3 => bM (up M_1 1 0 v1) fun M_4 => some (v2_3, M_4)) else (bd (mi_X3_finding 0 M_1) fun r_6 M_5 => some (r_6, M_5))
set_option maxRecDepth 100000 in
set_option maxHeartbeats 4000000 in
theorem pj_X3_rain_e {p : Program} {l : Launch} {e : Env} {R : Room} {s : State} {m : MethodId} {args : Array Value} {below : List Frame} {meth : Method} {c : Code} {g : Gh} (X : Cx p l e R s m args below meth c g cX3_rain 3 RX3 1) (hr : meth.sig.returnType = (some (.int))) (v1 : Int32) (M : Mem) : J p l e R s m args below meth c g 3 (QfI below args s g) (pi_X3_rain_e v1 M) M 0 [(0, .ref (gA g 0)), (1, .int v1)] [] := by
  unfold pi_X3_rain_e
  refine j_iload_n (i := 1) X dX3_rain_0 rfl rfl ?_
  refine j_iconst (v := 0) X dX3_rain_1 rfl ?_
  refine j_bipush (v := 9) X dX3_rain_2 rfl ?_
  refine k_cSI (As := [.int v1, .int 0, .int 9]) (rest := []) X (ct_X3_isOutside l g v1 0 9 M) wl_X3_40 rfl rfl (by decide) (Nat.le_of_ble_eq_true rfl) dX3_rain_4 (fun r_2 M_1 => ?_)
  refine j_if_eq (tgt := 16) X dX3_rain_7 (by decide) ?_ ?_
  · refine j_aload_n (i := 0) X dX3_rain_16 rfl rfl ?_
    refine j_get_hd 0 X (by decide) wq_172 rfl dX3_rain_17 ?_
    refine j_getN_sh sh_1 0 X (by decide) (by decide +kernel) rfl dX3_rain_20 ?_
    refine j_bI (fun v2_3 => ?_)
    refine j_istore_n (i := 2) (Lq := [(0, .ref (gA g 0)), (1, .int v1), (2, .int v2_3)]) X dX3_rain_23 rfl (by decide) rfl ?_
    refine j_aload_n (i := 0) X dX3_rain_24 rfl rfl ?_
    refine j_get_hd 0 X (by decide) wq_172 rfl dX3_rain_25 ?_
    refine j_iload_n (i := 1) X dX3_rain_28 rfl rfl ?_
    refine j_putN_sh (ty := .int) sh_1 0 X (by decide) (by decide +kernel) (fun _ => rfl) rfl (by decide +kernel) rfl rfl dX3_rain_29 ?_
    refine j_bM (fun M_4 => ?_)
    refine j_iload_n (i := 2) X dX3_rain_32 rfl rfl ?_
    exact j_iret X hr dX3_rain_33
  · refine j_aload_n (i := 0) X dX3_rain_10 rfl rfl ?_
    refine j_iconst (v := 0) X dX3_rain_11 rfl ?_
    refine k_cVI (As := [.int 0]) (rest := []) (by decide) (cf_hd _) rfl X (ct_X3_finding l g 0 M_1) wl_X3_44 rfl rfl (by decide) (Nat.le_of_ble_eq_true rfl) dX3_rain_12 (fun r_6 M_5 => ?_)
    exact j_iret X hr dX3_rain_15
def mi_X3_rain (v1 : Int32) (M : Mem) : Option (Int32 × Mem) := pi_X3_rain_e v1 M
theorem ct_X3_rain (l : Launch) (g : Gh) (v1 : Int32) (M : Mem) : CtI l g yX3_rain cX3_rain 3 (some (.int)) 1 [.ref (gA g 0), .int v1] M (mi_X3_rain v1 M) := ctI_of (own := RX3) (L := [(0, .ref (gA g 0)), (1, .int v1)]) (by decide +kernel) rfl (Nat.le_of_ble_eq_true rfl) rfl (fun p e s m args below meth c X hr => pj_X3_rain_e X hr v1  M)

def pi_X4_by12_e (v0 : Int32) (M : Mem) : Option (Int32 × Mem) := bI (v0 - v0 / 12 * 12) fun v1_1 => if 0 ≤ v1_1 then (some (v1_1, M)) else (some (v1_1 + 12, M))
set_option maxRecDepth 100000 in
set_option maxHeartbeats 4000000 in
theorem pj_X4_by12_e {p : Program} {l : Launch} {e : Env} {R : Room} {s : State} {m : MethodId} {args : Array Value} {below : List Frame} {meth : Method} {c : Code} {g : Gh} (X : Cx p l e R s m args below meth c g cX4_by12 2 RX4 0) (hr : meth.sig.returnType = (some (.int))) (v0 : Int32) (M : Mem) : J p l e R s m args below meth c g 2 (QfI below args s g) (pi_X4_by12_e v0 M) M 0 [(0, .int v0)] [] := by
  unfold pi_X4_by12_e
  refine j_iload_n (i := 0) X dX4_by12_0 rfl rfl ?_
  refine j_bipush (v := 12) X dX4_by12_1 rfl ?_
  refine j_iremc X dX4_by12_3 (by decide) ?_
  refine j_bI (fun v1_1 => ?_)
  refine j_istore_n (i := 1) (Lq := [(0, .int v0), (1, .int v1_1)]) X dX4_by12_4 rfl (by decide) rfl ?_
  refine j_iload_n (i := 1) X dX4_by12_5 rfl rfl ?_
  refine j_if_ge (tgt := 16) X dX4_by12_6 (by decide) ?_ ?_
  · refine j_iload_n (i := 1) X dX4_by12_16 rfl rfl ?_
    exact j_iret X hr dX4_by12_17
  · refine j_iload_n (i := 1) X dX4_by12_9 rfl rfl ?_
    refine j_bipush (v := 12) X dX4_by12_10 rfl ?_
    refine j_iadd X dX4_by12_12 ?_
    refine j_goto (tgt := 17) X dX4_by12_13 (by decide) ?_
    exact j_iret X hr dX4_by12_17
def mi_X4_by12 (v0 : Int32) (M : Mem) : Option (Int32 × Mem) := pi_X4_by12_e v0 M
theorem ct_X4_by12 (l : Launch) (g : Gh) (v0 : Int32) (M : Mem) : CtI l g yX4_by12 cX4_by12 2 (some (.int)) 0 [.int v0] M (mi_X4_by12 v0 M) := ctI_of (own := RX4) (L := [(0, .int v0)]) (by decide +kernel) rfl (Nat.le_of_ble_eq_true rfl) rfl (fun p e s m args below meth c X hr => pj_X4_by12_e X hr v0  M)

def pi_X4_at_e (v0 : Int32) (v1 : Int32) (M : Mem) : Option (Int32 × Mem) := some ((14 + (6 * v0)) + v1, M)
set_option maxRecDepth 100000 in
set_option maxHeartbeats 4000000 in
theorem pj_X4_at_e {p : Program} {l : Launch} {e : Env} {R : Room} {s : State} {m : MethodId} {args : Array Value} {below : List Frame} {meth : Method} {c : Code} {g : Gh} (X : Cx p l e R s m args below meth c g cX4_at 2 RX4 0) (hr : meth.sig.returnType = (some (.int))) (v0 : Int32) (v1 : Int32) (M : Mem) : J p l e R s m args below meth c g 2 (QfI below args s g) (pi_X4_at_e v0 v1 M) M 0 [(0, .int v0), (1, .int v1)] [] := by
  unfold pi_X4_at_e
  refine j_bipush (v := 14) X dX4_at_0 rfl ?_
  refine j_bipush (v := 6) X dX4_at_2 rfl ?_
  refine j_iload_n (i := 0) X dX4_at_4 rfl rfl ?_
  refine j_imul X dX4_at_5 ?_
  refine j_iadd X dX4_at_6 ?_
  refine j_iload_n (i := 1) X dX4_at_7 rfl rfl ?_
  refine j_iadd X dX4_at_8 ?_
  exact j_iret X hr dX4_at_9
def mi_X4_at (v0 : Int32) (v1 : Int32) (M : Mem) : Option (Int32 × Mem) := pi_X4_at_e v0 v1 M
theorem ct_X4_at (l : Launch) (g : Gh) (v0 : Int32) (v1 : Int32) (M : Mem) : CtI l g yX4_at cX4_at 2 (some (.int)) 0 [.int v0, .int v1] M (mi_X4_at v0 v1 M) := ctI_of (own := RX4) (L := [(0, .int v0), (1, .int v1)]) (by decide +kernel) rfl (Nat.le_of_ble_eq_true rfl) rfl (fun p e s m args below meth c X hr => pj_X4_at_e X hr v0 v1  M)

def pi_X4_hillIs_e (v1 : Int32) (v2 : Int32) (M : Mem) : Option (Int32 × Mem) := bd (mi_X4_at v1 v2 M) fun r_2 M_1 => gd (inb r_2 62) <| some (M_1 50 r_2.toNatClampNeg, M_1)
set_option maxRecDepth 100000 in
set_option maxHeartbeats 4000000 in
theorem pj_X4_hillIs_e {p : Program} {l : Launch} {e : Env} {R : Room} {s : State} {m : MethodId} {args : Array Value} {below : List Frame} {meth : Method} {c : Code} {g : Gh} (X : Cx p l e R s m args below meth c g cX4_hillIs 3 RX4 1) (hr : meth.sig.returnType = (some (.int))) (v1 : Int32) (v2 : Int32) (M : Mem) : J p l e R s m args below meth c g 3 (QfI below args s g) (pi_X4_hillIs_e v1 v2 M) M 0 [(0, .ref (gA g 49)), (1, .int v1), (2, .int v2)] [] := by
  unfold pi_X4_hillIs_e
  refine j_aload_n (i := 0) X dX4_hillIs_0 rfl rfl ?_
  refine j_get_md 0 X (by decide) wq_346 rfl dX4_hillIs_1 ?_
  refine j_iload_n (i := 1) X dX4_hillIs_4 rfl rfl ?_
  refine j_iload_n (i := 2) X dX4_hillIs_5 rfl rfl ?_
  refine k_cSI (As := [.int v1, .int v2]) (rest := [.ref (gA g 50)]) X (ct_X4_at l g v1 v2 M) wl_X4_93 rfl rfl (by decide) (Nat.le_of_ble_eq_true rfl) dX4_hillIs_6 (fun r_2 M_1 => ?_)
  refine j_iald X ia_50 dX4_hillIs_9 (fun h_3 => ?_)
  exact j_iret X hr dX4_hillIs_10
def mi_X4_hillIs (v1 : Int32) (v2 : Int32) (M : Mem) : Option (Int32 × Mem) := pi_X4_hillIs_e v1 v2 M
theorem ct_X4_hillIs (l : Launch) (g : Gh) (v1 : Int32) (v2 : Int32) (M : Mem) : CtI l g yX4_hillIs cX4_hillIs 3 (some (.int)) 1 [.ref (gA g 49), .int v1, .int v2] M (mi_X4_hillIs v1 v2 M) := ctI_of (own := RX4) (L := [(0, .ref (gA g 49)), (1, .int v1), (2, .int v2)]) (by decide +kernel) rfl (Nat.le_of_ble_eq_true rfl) rfl (fun p e s m args below meth c X hr => pj_X4_hillIs_e X hr v1 v2  M)

def pi_X4_facesOf_e (v1 : Int32) (M : Mem) : Option (Int32 × Mem) := bd (mi_X4_hillIs v1 1 M) fun r_2 M_1 => bd (mi_X4_hillIs v1 3 M_1) fun r_4 M_3 => gd (inb r_4 4) <| bd (mi_X4_by12 (r_2 + (M_3 54 r_4.toNatClampNeg)) M_3) fun r_7 M_6 => some (r_7, M_6)
set_option maxRecDepth 100000 in
set_option maxHeartbeats 4000000 in
theorem pj_X4_facesOf_e {p : Program} {l : Launch} {e : Env} {R : Room} {s : State} {m : MethodId} {args : Array Value} {below : List Frame} {meth : Method} {c : Code} {g : Gh} (X : Cx p l e R s m args below meth c g cX4_facesOf 2 RX4 2) (hr : meth.sig.returnType = (some (.int))) (v1 : Int32) (M : Mem) : J p l e R s m args below meth c g 2 (QfI below args s g) (pi_X4_facesOf_e v1 M) M 0 [(0, .ref (gA g 49)), (1, .int v1)] [] := by
  unfold pi_X4_facesOf_e
  refine j_aload_n (i := 0) X dX4_facesOf_0 rfl rfl ?_
  refine j_iload_n (i := 1) X dX4_facesOf_1 rfl rfl ?_
  refine j_iconst (v := 1) X dX4_facesOf_2 rfl ?_
  refine k_cVI (As := [.int v1, .int 1]) (rest := []) (by decide) (cf_md _) rfl X (ct_X4_hillIs l g v1 1 M) wl_X4_108 rfl rfl (by decide) (Nat.le_of_ble_eq_true rfl) dX4_facesOf_3 (fun r_2 M_1 => ?_)
  refine j_aload_n (i := 0) X dX4_facesOf_6 rfl rfl ?_
  refine j_get_md 5 X (by decide) wq_382 rfl dX4_facesOf_7 ?_
  refine j_aload_n (i := 0) X dX4_facesOf_10 rfl rfl ?_
  refine j_iload_n (i := 1) X dX4_facesOf_11 rfl rfl ?_
  refine j_iconst (v := 3) X dX4_facesOf_12 rfl ?_
  refine k_cVI (As := [.int v1, .int 3]) (rest := [.ref (gA g 54), .int r_2]) (by decide) (cf_md _) rfl X (ct_X4_hillIs l g v1 3 M_1) wl_X4_108 rfl rfl (by decide) (Nat.le_of_ble_eq_true rfl) dX4_facesOf_13 (fun r_4 M_3 => ?_)
  refine j_iald X ia_54 dX4_facesOf_16 (fun h_5 => ?_)
  refine j_iadd X dX4_facesOf_17 ?_
  refine k_cSI (As := [.int (r_2 + (M_3 54 r_4.toNatClampNeg))]) (rest := []) X (ct_X4_by12 l g (r_2 + (M_3 54 r_4.toNatClampNeg)) M_3) wl_X4_111 rfl rfl (by decide) (Nat.le_of_ble_eq_true rfl) dX4_facesOf_18 (fun r_7 M_6 => ?_)
  exact j_iret X hr dX4_facesOf_21
def mi_X4_facesOf (v1 : Int32) (M : Mem) : Option (Int32 × Mem) := pi_X4_facesOf_e v1 M
theorem ct_X4_facesOf (l : Launch) (g : Gh) (v1 : Int32) (M : Mem) : CtI l g yX4_facesOf cX4_facesOf 2 (some (.int)) 2 [.ref (gA g 49), .int v1] M (mi_X4_facesOf v1 M) := ctI_of (own := RX4) (L := [(0, .ref (gA g 49)), (1, .int v1)]) (by decide +kernel) rfl (Nat.le_of_ble_eq_true rfl) rfl (fun p e s m args below meth c X hr => pj_X4_facesOf_e X hr v1  M)

def pi_X4_meeting_4 (v1 : Int32) (rc4 : Int32 × Int32 × Mem → Option (Int32 × Mem)) (v2 : Int32) (v3 : Int32) (M : Mem) : Option (Int32 × Mem) := gd (inb 1 62) <| if (M 50 (1 : Int32).toNatClampNeg) ≤ v3 then (some (v2, M)) else (if v3 = v1 then (bI (v2 ||| 0) fun v2_2 => bI (v3 + 1) fun v3_3 => rc4 (v2_2, v3_3, M)) else (bd (mi_X4_facesOf v1 M) fun r_5 M_4 => bd (mi_X4_hillIs v3 1 M_4) fun r_7 M_6 => if r_5 = r_7 then (bd (mi_X4_facesOf v3 M_6) fun r_9 M_8 => bd (mi_X4_hillIs v1 1 M_8) fun r_11 M_10 => if r_9 = r_11 then (bI (v2 ||| (1 <<< (v3 &&& 31))) fun v2_12 => bI (v3 + 1) fun v3_13 => rc4 (v2_12, v3_13, M_10)) else (bI (v2 ||| 0) fun v2_14 => bI (v3 + 1) fun v3_15 => rc4 (v2_14, v3_15, M_10))) else (bI (v2 ||| 0) fun v2_16 => bI (v3 + 1) fun v3_17 => rc4 (v2_16, v3_17, M_6))))
set_option maxRecDepth 100000 in
set_option maxHeartbeats 4000000 in
theorem pj_X4_meeting_4 {p : Program} {l : Launch} {e : Env} {R : Room} {s : State} {m : MethodId} {args : Array Value} {below : List Frame} {meth : Method} {c : Code} {g : Gh} (X : Cx p l e R s m args below meth c g cX4_meeting 4 RX4 3) (hr : meth.sig.returnType = (some (.int))) (v1 : Int32) (rc4 : Int32 × Int32 × Mem → Option (Int32 × Mem)) (hc4 : ∀ x, J p l e R s m args below meth c g 4 (QfI below args s g) (rc4 x) x.2.2 4 [(0, .ref (gA g 49)), (1, .int v1), (2, .int x.1), (3, .int x.2.1)] []) (v2 : Int32) (v3 : Int32) (M : Mem) : J p l e R s m args below meth c g 4 (QfI below args s g) (pi_X4_meeting_4 v1 rc4 v2 v3 M) M 4 [(0, .ref (gA g 49)), (1, .int v1), (2, .int v2), (3, .int v3)] [] := by
  unfold pi_X4_meeting_4
  refine j_iload_n (i := 3) X dX4_meeting_4 rfl rfl ?_
  refine j_aload_n (i := 0) X dX4_meeting_5 rfl rfl ?_
  refine j_get_md 0 X (by decide) wq_346 rfl dX4_meeting_6 ?_
  refine j_iconst (v := 1) X dX4_meeting_9 rfl ?_
  refine j_iald X ia_50 dX4_meeting_10 (fun h_1 => ?_)
  refine j_icmp_ge (tgt := 63) X dX4_meeting_11 (by decide) ?_ ?_
  · refine j_iload_n (i := 2) X dX4_meeting_63 rfl rfl ?_
    exact j_iret X hr dX4_meeting_64
  · refine j_iload_n (i := 2) X dX4_meeting_14 rfl rfl ?_
    refine j_iload_n (i := 3) X dX4_meeting_15 rfl rfl ?_
    refine j_iload_n (i := 1) X dX4_meeting_16 rfl rfl ?_
    refine j_icmp_eq (tgt := 54) X dX4_meeting_17 (by decide) ?_ ?_
    · refine j_iconst (v := 0) X dX4_meeting_54 rfl ?_
      refine j_ior X dX4_meeting_55 ?_
      refine j_bI (fun v2_2 => ?_)
      refine j_istore_n (i := 2) (Lq := [(0, .ref (gA g 49)), (1, .int v1), (2, .int v2_2), (3, .int v3)]) X dX4_meeting_56 rfl (by decide) rfl ?_
      refine j_iincB (i := 3) (y := v3 + 1) (Lf := fun v3_3 => [(0, .ref (gA g 49)), (1, .int v1), (2, .int v2_2), (3, .int v3_3)]) X dX4_meeting_57 rfl rfl (by decide) (fun _ => rfl) (fun v3_3 => ?_)
      refine j_goto (tgt := 4) X dX4_meeting_60 (by decide) ?_
      exact hc4 (v2_2, v3_3, M)
    · refine j_aload_n (i := 0) X dX4_meeting_20 rfl rfl ?_
      refine j_iload_n (i := 1) X dX4_meeting_21 rfl rfl ?_
      refine k_cVI (As := [.int v1]) (rest := [.int v2]) (by decide) (cf_md _) rfl X (ct_X4_facesOf l g v1 M) wl_X4_114 rfl rfl (by decide) (Nat.le_of_ble_eq_true rfl) dX4_meeting_22 (fun r_5 M_4 => ?_)
      refine j_aload_n (i := 0) X dX4_meeting_25 rfl rfl ?_
      refine j_iload_n (i := 3) X dX4_meeting_26 rfl rfl ?_
      refine j_iconst (v := 1) X dX4_meeting_27 rfl ?_
      refine k_cVI (As := [.int v3, .int 1]) (rest := [.int r_5, .int v2]) (by decide) (cf_md _) rfl X (ct_X4_hillIs l g v3 1 M_4) wl_X4_108 rfl rfl (by decide) (Nat.le_of_ble_eq_true rfl) dX4_meeting_28 (fun r_7 M_6 => ?_)
      refine j_icmp_ne (tgt := 54) X dX4_meeting_31 (by decide) ?_ ?_
      · refine j_aload_n (i := 0) X dX4_meeting_34 rfl rfl ?_
        refine j_iload_n (i := 3) X dX4_meeting_35 rfl rfl ?_
        refine k_cVI (As := [.int v3]) (rest := [.int v2]) (by decide) (cf_md _) rfl X (ct_X4_facesOf l g v3 M_6) wl_X4_114 rfl rfl (by decide) (Nat.le_of_ble_eq_true rfl) dX4_meeting_36 (fun r_9 M_8 => ?_)
        refine j_aload_n (i := 0) X dX4_meeting_39 rfl rfl ?_
        refine j_iload_n (i := 1) X dX4_meeting_40 rfl rfl ?_
        refine j_iconst (v := 1) X dX4_meeting_41 rfl ?_
        refine k_cVI (As := [.int v1, .int 1]) (rest := [.int r_9, .int v2]) (by decide) (cf_md _) rfl X (ct_X4_hillIs l g v1 1 M_8) wl_X4_108 rfl rfl (by decide) (Nat.le_of_ble_eq_true rfl) dX4_meeting_42 (fun r_11 M_10 => ?_)
        refine j_icmp_ne (tgt := 54) X dX4_meeting_45 (by decide) ?_ ?_
        · refine j_iconst (v := 1) X dX4_meeting_48 rfl ?_
          refine j_iload_n (i := 3) X dX4_meeting_49 rfl rfl ?_
          refine j_ishl X dX4_meeting_50 ?_
          refine j_goto (tgt := 55) X dX4_meeting_51 (by decide) ?_
          refine j_ior X dX4_meeting_55 ?_
          refine j_bI (fun v2_12 => ?_)
          refine j_istore_n (i := 2) (Lq := [(0, .ref (gA g 49)), (1, .int v1), (2, .int v2_12), (3, .int v3)]) X dX4_meeting_56 rfl (by decide) rfl ?_
          refine j_iincB (i := 3) (y := v3 + 1) (Lf := fun v3_13 => [(0, .ref (gA g 49)), (1, .int v1), (2, .int v2_12), (3, .int v3_13)]) X dX4_meeting_57 rfl rfl (by decide) (fun _ => rfl) (fun v3_13 => ?_)
          refine j_goto (tgt := 4) X dX4_meeting_60 (by decide) ?_
          exact hc4 (v2_12, v3_13, M_10)
        · refine j_iconst (v := 0) X dX4_meeting_54 rfl ?_
          refine j_ior X dX4_meeting_55 ?_
          refine j_bI (fun v2_14 => ?_)
          refine j_istore_n (i := 2) (Lq := [(0, .ref (gA g 49)), (1, .int v1), (2, .int v2_14), (3, .int v3)]) X dX4_meeting_56 rfl (by decide) rfl ?_
          refine j_iincB (i := 3) (y := v3 + 1) (Lf := fun v3_15 => [(0, .ref (gA g 49)), (1, .int v1), (2, .int v2_14), (3, .int v3_15)]) X dX4_meeting_57 rfl rfl (by decide) (fun _ => rfl) (fun v3_15 => ?_)
          refine j_goto (tgt := 4) X dX4_meeting_60 (by decide) ?_
          exact hc4 (v2_14, v3_15, M_10)
      · refine j_iconst (v := 0) X dX4_meeting_54 rfl ?_
        refine j_ior X dX4_meeting_55 ?_
        refine j_bI (fun v2_16 => ?_)
        refine j_istore_n (i := 2) (Lq := [(0, .ref (gA g 49)), (1, .int v1), (2, .int v2_16), (3, .int v3)]) X dX4_meeting_56 rfl (by decide) rfl ?_
        refine j_iincB (i := 3) (y := v3 + 1) (Lf := fun v3_17 => [(0, .ref (gA g 49)), (1, .int v1), (2, .int v2_16), (3, .int v3_17)]) X dX4_meeting_57 rfl rfl (by decide) (fun _ => rfl) (fun v3_17 => ?_)
        refine j_goto (tgt := 4) X dX4_meeting_60 (by decide) ?_
        exact hc4 (v2_16, v3_17, M_6)
def pi_X4_meeting_e (v1 : Int32) (M : Mem) : Option (Int32 × Mem) := lp (fun rc4 x => pi_X4_meeting_4 v1 rc4 x.1 x.2.1 x.2.2) FU (0, 0, M)
set_option maxRecDepth 100000 in
set_option maxHeartbeats 4000000 in
theorem pj_X4_meeting_e {p : Program} {l : Launch} {e : Env} {R : Room} {s : State} {m : MethodId} {args : Array Value} {below : List Frame} {meth : Method} {c : Code} {g : Gh} (X : Cx p l e R s m args below meth c g cX4_meeting 4 RX4 3) (hr : meth.sig.returnType = (some (.int))) (v1 : Int32) (M : Mem) : J p l e R s m args below meth c g 4 (QfI below args s g) (pi_X4_meeting_e v1 M) M 0 [(0, .ref (gA g 49)), (1, .int v1)] [] := by
  unfold pi_X4_meeting_e
  refine j_iconst (v := 0) X dX4_meeting_0 rfl ?_
  refine j_istore_n (i := 2) (Lq := [(0, .ref (gA g 49)), (1, .int v1), (2, .int 0)]) X dX4_meeting_1 rfl (by decide) rfl ?_
  refine j_iconst (v := 0) X dX4_meeting_2 rfl ?_
  refine j_istore_n (i := 3) (Lq := [(0, .ref (gA g 49)), (1, .int v1), (2, .int 0), (3, .int 0)]) X dX4_meeting_3 rfl (by decide) rfl ?_
  exact j_lp (Lf := fun x => [(0, .ref (gA g 49)), (1, .int v1), (2, .int x.1), (3, .int x.2.1)]) (Mf := fun x => x.2.2) (fun rc4 hc4 x => pj_X4_meeting_4 X hr v1 rc4 hc4 x.1 x.2.1 x.2.2) FU (0, 0, M)
def mi_X4_meeting (v1 : Int32) (M : Mem) : Option (Int32 × Mem) := pi_X4_meeting_e v1 M
theorem ct_X4_meeting (l : Launch) (g : Gh) (v1 : Int32) (M : Mem) : CtI l g yX4_meeting cX4_meeting 4 (some (.int)) 3 [.ref (gA g 49), .int v1] M (mi_X4_meeting v1 M) := ctI_of (own := RX4) (L := [(0, .ref (gA g 49)), (1, .int v1)]) (by decide +kernel) rfl (Nat.le_of_ble_eq_true rfl) rfl (fun p e s m args below meth c X hr => pj_X4_meeting_e X hr v1  M)
