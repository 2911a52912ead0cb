def pi_X2_become_e (b : Nat) (b1 : Nat) (M : Mem) : Option (Mem) := bM (up M b 0 (M b1 0)) fun M_1 => bM (up M_1 b 1 (M_1 b1 1)) fun M_2 => bM (up M_2 b 2 (M_2 b1 2)) fun M_3 => bM (up M_3 b 3 (M_3 b1 3)) fun M_4 => gd (cpo 0 0 10 10 10) <| bM (upA M_4 (b + 1) (va_cpy (M_4 (b1 + 1)) (M_4 (b + 1)) (0 : Int32).toNatClampNeg (0 : Int32).toNatClampNeg (10 : Int32).toNatClampNeg)) fun M_5 => gd (cpo 0 0 8 8 8) <| bM (upA M_5 (b + 2) (va_cpy (M_5 (b1 + 2)) (M_5 (b + 2)) (0 : Int32).toNatClampNeg (0 : Int32).toNatClampNeg (8 : Int32).toNatClampNeg)) fun M_6 => gd (cpo 0 0 8 8 8) <| bM (upA M_6 (b + 3) (va_cpy (M_6 (b1 + 3)) (M_6 (b + 3)) (0 : Int32).toNatClampNeg (0 : Int32).toNatClampNeg (8 : Int32).toNatClampNeg)) fun M_7 => gd (cpo 0 0 8 8 8) <| bM (upA M_7 (b + 4) (va_cpy (M_7 (b1 + 4)) (M_7 (b + 4)) (0 : Int32).toNatClampNeg (0 : Int32).toNatClampNeg (8 : Int32).toNatClampNeg)) fun M_8 => gd (cpo 0 0 8 8 8) <| bM (upA M_8 (b + 5) (va_cpy (M_8 (b1 + 5)) (M_8 (b + 5)) (0 : Int32).toNatClampNeg (0 : Int32).toNatClampNeg (8 : Int32).toNatClampNeg)) fun M_9 => gd (cpo 0 0 8 8 8) <| bM (upA M_9 (b + 6) (va_cpy (M_9 (b1 + 6)) (M_9 (b + 6)) (0 : Int32).toNatClampNeg (0 : Int32).toNatClampNeg (8 : Int32).toNatClampNeg)) fun M_10 => gd (cpo 0 0 8 8 8) <| bM (upA M_10 (b + 7) (va_cpy (M_10 (b1 + 7)) (M_10 (b + 7)) (0 : Int32).toNatClampNeg (0 : Int32).toNatClampNeg (8 : Int32).toNatClampNeg)) fun M_11 => bv (mi_X2_lookAround b M_11) fun M_12 => some M_12
set_option maxRecDepth 100000 in
set_option maxHeartbeats 4000000 in
theorem pj_X2_become_e {p : Program} {l : Launch} {e : Env} {R : Room} {s : State} {m : MethodId} {args : Array Value} {below : List Frame} {meth : Method} {c : Code} {g : Gh} (X : Cx p l e R s m args below meth c g cX2_become 2 (0, 0) RX2 2) (hr : meth.sig.returnType = none) (b : Nat) (b1 : Nat) (hb : isSh b) (hb1 : isSh b1) (M : Mem) : J p l e R s m args below meth c g 2 (0, 0) (QfV below args s g) (pi_X2_become_e b b1 M) M 0 [(0, .ref (gA g b)), (1, .ref (gA g b1))] [] := by
  unfold pi_X2_become_e
  refine j_aload_n (i := 0) X dX2_become_0 rfl rfl ?_
  refine j_aload_n (i := 1) X dX2_become_1 rfl rfl ?_
  refine j_get_sh hb1 0 X (by decide) wq_99 rfl dX2_become_2 ?_
  refine j_put_sh (ty := .int) hb 0 X (by decide) wq_99 (fun _ => rfl) rfl (by decide +kernel) rfl rfl dX2_become_5 ?_
  refine j_bM (fun M_1 => ?_)
  refine j_aload_n (i := 0) X dX2_become_8 rfl rfl ?_
  refine j_aload_n (i := 1) X dX2_become_9 rfl rfl ?_
  refine j_get_sh hb1 1 X (by decide) wq_100 rfl dX2_become_10 ?_
  refine j_put_sh (ty := .int) hb 1 X (by decide) wq_100 (fun _ => rfl) rfl (by decide +kernel) rfl rfl dX2_become_13 ?_
  refine j_bM (fun M_2 => ?_)
  refine j_aload_n (i := 0) X dX2_become_16 rfl rfl ?_
  refine j_aload_n (i := 1) X dX2_become_17 rfl rfl ?_
  refine j_get_sh hb1 2 X (by decide) wq_101 rfl dX2_become_18 ?_
  refine j_put_sh (ty := .int) hb 2 X (by decide) wq_101 (fun _ => rfl) rfl (by decide +kernel) rfl rfl dX2_become_21 ?_
  refine j_bM (fun M_3 => ?_)
  refine j_aload_n (i := 0) X dX2_become_24 rfl rfl ?_
  refine j_aload_n (i := 1) X dX2_become_25 rfl rfl ?_
  refine j_get_sh hb1 3 X (by decide) wq_46 rfl dX2_become_26 ?_
  refine j_put_sh (ty := .int) hb 3 X (by decide) wq_46 (fun _ => rfl) rfl (by decide +kernel) rfl rfl dX2_become_29 ?_
  refine j_bM (fun M_4 => ?_)
  refine j_aload_n (i := 1) X dX2_become_32 rfl rfl ?_
  refine j_get_sh hb1 4 X (by decide) wq_102 rfl dX2_become_33 ?_
  refine j_iconst (v := 0) X dX2_become_36 rfl ?_
  refine j_aload_n (i := 0) X dX2_become_37 rfl rfl ?_
  refine j_get_sh hb 4 X (by decide) wq_102 rfl dX2_become_38 ?_
  refine j_iconst (v := 0) X dX2_become_41 rfl ?_
  refine j_bipush (v := 10) X dX2_become_42 rfl ?_
  refine j_acopy X wa_X2_61 wa_2 wa_3 wa_4 (ia_sh1 hb1) (ia_sh1 hb) (by decide) (Nat.le_of_ble_eq_true rfl) dX2_become_44 ?_
  refine j_bM (fun M_5 => ?_)
  refine j_aload_n (i := 1) X dX2_become_47 rfl rfl ?_
  refine j_get_sh hb1 5 X (by decide) wq_51 rfl dX2_become_48 ?_
  refine j_iconst (v := 0) X dX2_become_51 rfl ?_
  refine j_aload_n (i := 0) X dX2_become_52 rfl rfl ?_
  refine j_get_sh hb 5 X (by decide) wq_51 rfl dX2_become_53 ?_
  refine j_iconst (v := 0) X dX2_become_56 rfl ?_
  refine j_bipush (v := 8) X dX2_become_57 rfl ?_
  refine j_acopy X wa_X2_61 wa_2 wa_3 wa_4 (ia_sh2 hb1) (ia_sh2 hb) (by decide) (Nat.le_of_ble_eq_true rfl) dX2_become_59 ?_
  refine j_bM (fun M_6 => ?_)
  refine j_aload_n (i := 1) X dX2_become_62 rfl rfl ?_
  refine j_get_sh hb1 6 X (by decide) wq_49 rfl dX2_become_63 ?_
  refine j_iconst (v := 0) X dX2_become_66 rfl ?_
  refine j_aload_n (i := 0) X dX2_become_67 rfl rfl ?_
  refine j_get_sh hb 6 X (by decide) wq_49 rfl dX2_become_68 ?_
  refine j_iconst (v := 0) X dX2_become_71 rfl ?_
  refine j_bipush (v := 8) X dX2_become_72 rfl ?_
  refine j_acopy X wa_X2_61 wa_2 wa_3 wa_4 (ia_sh3 hb1) (ia_sh3 hb) (by decide) (Nat.le_of_ble_eq_true rfl) dX2_become_74 ?_
  refine j_bM (fun M_7 => ?_)
  refine j_aload_n (i := 1) X dX2_become_77 rfl rfl ?_
  refine j_get_sh hb1 7 X (by decide) wq_57 rfl dX2_become_78 ?_
  refine j_iconst (v := 0) X dX2_become_81 rfl ?_
  refine j_aload_n (i := 0) X dX2_become_82 rfl rfl ?_
  refine j_get_sh hb 7 X (by decide) wq_57 rfl dX2_become_83 ?_
  refine j_iconst (v := 0) X dX2_become_86 rfl ?_
  refine j_bipush (v := 8) X dX2_become_87 rfl ?_
  refine j_acopy X wa_X2_61 wa_2 wa_3 wa_4 (ia_sh4 hb1) (ia_sh4 hb) (by decide) (Nat.le_of_ble_eq_true rfl) dX2_become_89 ?_
  refine j_bM (fun M_8 => ?_)
  refine j_aload_n (i := 1) X dX2_become_92 rfl rfl ?_
  refine j_get_sh hb1 8 X (by decide) wq_50 rfl dX2_become_93 ?_
  refine j_iconst (v := 0) X dX2_become_96 rfl ?_
  refine j_aload_n (i := 0) X dX2_become_97 rfl rfl ?_
  refine j_get_sh hb 8 X (by decide) wq_50 rfl dX2_become_98 ?_
  refine j_iconst (v := 0) X dX2_become_101 rfl ?_
  refine j_bipush (v := 8) X dX2_become_102 rfl ?_
  refine j_acopy X wa_X2_61 wa_2 wa_3 wa_4 (ia_sh5 hb1) (ia_sh5 hb) (by decide) (Nat.le_of_ble_eq_true rfl) dX2_become_104 ?_
  refine j_bM (fun M_9 => ?_)
  refine j_aload_n (i := 1) X dX2_become_107 rfl rfl ?_
  refine j_get_sh hb1 9 X (by decide) wq_58 rfl dX2_become_108 ?_
  refine j_iconst (v := 0) X dX2_become_111 rfl ?_
  refine j_aload_n (i := 0) X dX2_become_112 rfl rfl ?_
  refine j_get_sh hb 9 X (by decide) wq_58 rfl dX2_become_113 ?_
  refine j_iconst (v := 0) X dX2_become_116 rfl ?_
  refine j_bipush (v := 8) X dX2_become_117 rfl ?_
  refine j_acopy X wa_X2_61 wa_2 wa_3 wa_4 (ia_sh6 hb1) (ia_sh6 hb) (by decide) (Nat.le_of_ble_eq_true rfl) dX2_become_119 ?_
  refine j_bM (fun M_10 => ?_)
  refine j_aload_n (i := 1) X dX2_become_122 rfl rfl ?_
  refine j_get_sh hb1 10 X (by decide) wq_59 rfl dX2_become_123 ?_
  refine j_iconst (v := 0) X dX2_become_126 rfl ?_
  refine j_aload_n (i := 0) X dX2_become_127 rfl rfl ?_
  refine j_get_sh hb 10 X (by decide) wq_59 rfl dX2_become_128 ?_
  refine j_iconst (v := 0) X dX2_become_131 rfl ?_
  refine j_bipush (v := 8) X dX2_become_132 rfl ?_
  refine j_acopy X wa_X2_61 wa_2 wa_3 wa_4 (ia_sh7 hb1) (ia_sh7 hb) (by decide) (Nat.le_of_ble_eq_true rfl) dX2_become_134 ?_
  refine j_bM (fun M_11 => ?_)
  refine j_aload_n (i := 0) X dX2_become_137 rfl rfl ?_
  refine k_cVV (As := []) (rest := []) hb.lt (cf_sh hb _) rfl X (ct_X2_lookAround l g b hb M_11) wl_X2_55 rfl rfl (by decide) (Nat.le_of_ble_eq_true rfl) dX2_become_138 (fun M_12 => ?_)
  exact j_vret X hr dX2_become_141
def mi_X2_become (b : Nat) (b1 : Nat) (M : Mem) : Option (Mem) := pi_X2_become_e b b1 M
theorem ct_X2_become (l : Launch) (g : Gh) (b : Nat) (b1 : Nat) (hb : isSh b) (hb1 : isSh b1) (M : Mem) : CtV l g yX2_become cX2_become 2 none 2 [.ref (gA g b), .ref (gA g b1)] M (mi_X2_become b b1 M) := ctV_of (own := RX2) (L := [(0, .ref (gA g b)), (1, .ref (gA g b1))]) (by decide +kernel) rfl (Nat.le_of_ble_eq_true rfl) rfl (fun p e s m args below meth c X hr => pj_X2_become_e X hr b b1 hb hb1 M)

def pi_X2_facedBy_e (b : Nat) (v1 : Int32) (M : Mem) : Option (Int32 × Mem) := gd (inb v1 8) <| some (M (b + 8) v1.toNatClampNeg, M)
set_option maxRecDepth 100000 in
set_option maxHeartbeats 4000000 in
theorem pj_X2_facedBy_e {p : Program} {l : Launch} {e : Env} {R : Room} {s : State} {m : MethodId} {args : Array Value} {below : List Frame} {meth : Method} {c : Code} {g : Gh} (X : Cx p l e R s m args below meth c g cX2_facedBy 2 (0, 0) RX2 0) (hr : meth.sig.returnType = (some (.int))) (b : Nat) (v1 : Int32) (hb : isSh b) (M : Mem) : J p l e R s m args below meth c g 2 (0, 0) (QfI below args s g) (pi_X2_facedBy_e b v1 M) M 0 [(0, .ref (gA g b)), (1, .int v1)] [] := by
  unfold pi_X2_facedBy_e
  refine j_aload_n (i := 0) X dX2_facedBy_0 rfl rfl ?_
  refine j_get_sh hb 11 X (by decide) wq_48 rfl dX2_facedBy_1 ?_
  refine j_iload_n (i := 1) X dX2_facedBy_4 rfl rfl ?_
  refine j_iald X (ia_sh8 hb) dX2_facedBy_5 (fun h_1 => ?_)
  exact j_iret X hr dX2_facedBy_6
def mi_X2_facedBy (b : Nat) (v1 : Int32) (M : Mem) : Option (Int32 × Mem) := pi_X2_facedBy_e b v1 M
theorem ct_X2_facedBy (l : Launch) (g : Gh) (b : Nat) (v1 : Int32) (hb : isSh b) (M : Mem) : CtI l g yX2_facedBy cX2_facedBy 2 (some (.int)) 0 [.ref (gA g b), .int v1] M (mi_X2_facedBy b v1 M) := ctI_of (own := RX2) (L := [(0, .ref (gA g b)), (1, .int v1)]) (by decide +kernel) rfl (Nat.le_of_ble_eq_true rfl) rfl (fun p e s m args below meth c X hr => pj_X2_facedBy_e X hr b v1 hb M)

def pi_X2_meetsOf_e (b : Nat) (v1 : Int32) (M : Mem) : Option (Int32 × Mem) := gd (inb v1 8) <| some (M (b + 9) v1.toNatClampNeg, M)
set_option maxRecDepth 100000 in
set_option maxHeartbeats 4000000 in
theorem pj_X2_meetsOf_e {p : Program} {l : Launch} {e : Env} {R : Room} {s : State} {m : MethodId} {args : Array Value} {below : List Frame} {meth : Method} {c : Code} {g : Gh} (X : Cx p l e R s m args below meth c g cX2_meetsOf 2 (0, 0) RX2 0) (hr : meth.sig.returnType = (some (.int))) (b : Nat) (v1 : Int32) (hb : isSh b) (M : Mem) : J p l e R s m args below meth c g 2 (0, 0) (QfI below args s g) (pi_X2_meetsOf_e b v1 M) M 0 [(0, .ref (gA g b)), (1, .int v1)] [] := by
  unfold pi_X2_meetsOf_e
  refine j_aload_n (i := 0) X dX2_meetsOf_0 rfl rfl ?_
  refine j_get_sh hb 12 X (by decide) wq_47 rfl dX2_meetsOf_1 ?_
  refine j_iload_n (i := 1) X dX2_meetsOf_4 rfl rfl ?_
  refine j_iald X (ia_sh9 hb) dX2_meetsOf_5 (fun h_1 => ?_)
  exact j_iret X hr dX2_meetsOf_6
def mi_X2_meetsOf (b : Nat) (v1 : Int32) (M : Mem) : Option (Int32 × Mem) := pi_X2_meetsOf_e b v1 M
theorem ct_X2_meetsOf (l : Launch) (g : Gh) (b : Nat) (v1 : Int32) (hb : isSh b) (M : Mem) : CtI l g yX2_meetsOf cX2_meetsOf 2 (some (.int)) 0 [.ref (gA g b), .int v1] M (mi_X2_meetsOf b v1 M) := ctI_of (own := RX2) (L := [(0, .ref (gA g b)), (1, .int v1)]) (by decide +kernel) rfl (Nat.le_of_ble_eq_true rfl) rfl (fun p e s m args below meth c X hr => pj_X2_meetsOf_e X hr b v1 hb M)

def pi_X2_standingAt_e (b : Nat) (v1 : Int32) (M : Mem) : Option (Int32 × Mem) := gd (inb v1 12) <| some (M (b + 10) v1.toNatClampNeg, M)
set_option maxRecDepth 100000 in
set_option maxHeartbeats 4000000 in
theorem pj_X2_standingAt_e {p : Program} {l : Launch} {e : Env} {R : Room} {s : State} {m : MethodId} {args : Array Value} {below : List Frame} {meth : Method} {c : Code} {g : Gh} (X : Cx p l e R s m args below meth c g cX2_standingAt 2 (0, 0) RX2 0) (hr : meth.sig.returnType = (some (.int))) (b : Nat) (v1 : Int32) (hb : isSh b) (M : Mem) : J p l e R s m args below meth c g 2 (0, 0) (QfI below args s g) (pi_X2_standingAt_e b v1 M) M 0 [(0, .ref (gA g b)), (1, .int v1)] [] := by
  unfold pi_X2_standingAt_e
  refine j_aload_n (i := 0) X dX2_standingAt_0 rfl rfl ?_
  refine j_get_sh hb 13 X (by decide) wq_40 rfl dX2_standingAt_1 ?_
  refine j_iload_n (i := 1) X dX2_standingAt_4 rfl rfl ?_
  refine j_iald X (ia_sh10 hb) dX2_standingAt_5 (fun h_1 => ?_)
  exact j_iret X hr dX2_standingAt_6
def mi_X2_standingAt (b : Nat) (v1 : Int32) (M : Mem) : Option (Int32 × Mem) := pi_X2_standingAt_e b v1 M
theorem ct_X2_standingAt (l : Launch) (g : Gh) (b : Nat) (v1 : Int32) (hb : isSh b) (M : Mem) : CtI l g yX2_standingAt cX2_standingAt 2 (some (.int)) 0 [.ref (gA g b), .int v1] M (mi_X2_standingAt b v1 M) := ctI_of (own := RX2) (L := [(0, .ref (gA g b)), (1, .int v1)]) (by decide +kernel) rfl (Nat.le_of_ble_eq_true rfl) rfl (fun p e s m args below meth c X hr => pj_X2_standingAt_e X hr b v1 hb M)

def pi_X2_facing_e (b : Nat) (v1 : Int32) (M : Mem) : Option (Int32 × Mem) := gd (inb v1 12) <| some (M (b + 11) v1.toNatClampNeg, M)
set_option maxRecDepth 100000 in
set_option maxHeartbeats 4000000 in
theorem pj_X2_facing_e {p : Program} {l : Launch} {e : Env} {R : Room} {s : State} {m : MethodId} {args : Array Value} {below : List Frame} {meth : Method} {c : Code} {g : Gh} (X : Cx p l e R s m args below meth c g cX2_facing 2 (0, 0) RX2 0) (hr : meth.sig.returnType = (some (.int))) (b : Nat) (v1 : Int32) (hb : isSh b) (M : Mem) : J p l e R s m args below meth c g 2 (0, 0) (QfI below args s g) (pi_X2_facing_e b v1 M) M 0 [(0, .ref (gA g b)), (1, .int v1)] [] := by
  unfold pi_X2_facing_e
  refine j_aload_n (i := 0) X dX2_facing_0 rfl rfl ?_
  refine j_get_sh hb 14 X (by decide) wq_45 rfl dX2_facing_1 ?_
  refine j_iload_n (i := 1) X dX2_facing_4 rfl rfl ?_
  refine j_iald X (ia_sh11 hb) dX2_facing_5 (fun h_1 => ?_)
  exact j_iret X hr dX2_facing_6
def mi_X2_facing (b : Nat) (v1 : Int32) (M : Mem) : Option (Int32 × Mem) := pi_X2_facing_e b v1 M
theorem ct_X2_facing (l : Launch) (g : Gh) (b : Nat) (v1 : Int32) (hb : isSh b) (M : Mem) : CtI l g yX2_facing cX2_facing 2 (some (.int)) 0 [.ref (gA g b), .int v1] M (mi_X2_facing b v1 M) := ctI_of (own := RX2) (L := [(0, .ref (gA g b)), (1, .int v1)]) (by decide +kernel) rfl (Nat.le_of_ble_eq_true rfl) rfl (fun p e s m args below meth c X hr => pj_X2_facing_e X hr b v1 hb M)

def pi_X2_everyone_e (b : Nat) (M : Mem) : Option (Int32 × Mem) := some ((1 <<< ((M b 3) &&& 31)) - 1, M)
set_option maxRecDepth 100000 in
set_option maxHeartbeats 4000000 in
theorem pj_X2_everyone_e {p : Program} {l : Launch} {e : Env} {R : Room} {s : State} {m : MethodId} {args : Array Value} {below : List Frame} {meth : Method} {c : Code} {g : Gh} (X : Cx p l e R s m args below meth c g cX2_everyone 1 (0, 0) RX2 0) (hr : meth.sig.returnType = (some (.int))) (b : Nat) (hb : isSh b) (M : Mem) : J p l e R s m args below meth c g 1 (0, 0) (QfI below args s g) (pi_X2_everyone_e b M) M 0 [(0, .ref (gA g b))] [] := by
  unfold pi_X2_everyone_e
  refine j_iconst (v := 1) X dX2_everyone_0 rfl ?_
  refine j_aload_n (i := 0) X dX2_everyone_1 rfl rfl ?_
  refine j_get_sh hb 3 X (by decide) wq_46 rfl dX2_everyone_2 ?_
  refine j_ishl X dX2_everyone_5 ?_
  refine j_iconst (v := 1) X dX2_everyone_6 rfl ?_
  refine j_isub X dX2_everyone_7 ?_
  exact j_iret X hr dX2_everyone_8
def mi_X2_everyone (b : Nat) (M : Mem) : Option (Int32 × Mem) := pi_X2_everyone_e b M
theorem ct_X2_everyone (l : Launch) (g : Gh) (b : Nat) (hb : isSh b) (M : Mem) : CtI l g yX2_everyone cX2_everyone 1 (some (.int)) 0 [.ref (gA g b)] M (mi_X2_everyone b M) := ctI_of (own := RX2) (L := [(0, .ref (gA g b))]) (by decide +kernel) rfl (Nat.le_of_ble_eq_true rfl) rfl (fun p e s m args below meth c X hr => pj_X2_everyone_e X hr b hb M)

def pi_X2_meeting_4 (b : Nat) (rc4 : Int32 × Int32 × Mem → Option (Int32 × Mem)) (v1 : Int32) (v2 : Int32) (M : Mem) : Option (Int32 × Mem) := if (M b 3) ≤ v2 then (some (v1, M)) else (gd (inb v2 8) <| if (M (b + 9) v2.toNatClampNeg) = 0 then (bI (v2 + 1) fun v2_2 => rc4 (v1, v2_2, M)) else (bI (v1 ||| (1 <<< (v2 &&& 31))) fun v1_3 => bI (v2 + 1) fun v2_4 => rc4 (v1_3, v2_4, M)))
set_option maxRecDepth 100000 in
set_option maxHeartbeats 4000000 in
theorem pj_X2_meeting_4 {p : Program} {l : Launch} {e : Env} {R : Room} {s : State} {m : MethodId} {args : Array Value} {below : List Frame} {meth : Method} {c : Code} {g : Gh} (X : Cx p l e R s m args below meth c g cX2_meeting 3 (0, 0) RX2 0) (hr : meth.sig.returnType = (some (.int))) (b : Nat) (hb : isSh b) (rc4 : Int32 × Int32 × Mem → Option (Int32 × Mem)) (hc4 : ∀ x, J p l e R s m args below meth c g 3 (0, 0) (QfI below args s g) (rc4 x) x.2.2 4 [(0, .ref (gA g b)), (1, .int x.1), (2, .int x.2.1)] []) (v1 : Int32) (v2 : Int32) (M : Mem) : J p l e R s m args below meth c g 3 (0, 0) (QfI below args s g) (pi_X2_meeting_4 b rc4 v1 v2 M) M 4 [(0, .ref (gA g b)), (1, .int v1), (2, .int v2)] [] := by
  unfold pi_X2_meeting_4
  refine j_iload_n (i := 2) X dX2_meeting_4 rfl rfl ?_
  refine j_aload_n (i := 0) X dX2_meeting_5 rfl rfl ?_
  refine j_get_sh hb 3 X (by decide) wq_46 rfl dX2_meeting_6 ?_
  refine j_icmp_ge (tgt := 33) X dX2_meeting_9 (by decide) ?_ ?_
  · refine j_iload_n (i := 1) X dX2_meeting_33 rfl rfl ?_
    exact j_iret X hr dX2_meeting_34
  · refine j_aload_n (i := 0) X dX2_meeting_12 rfl rfl ?_
    refine j_get_sh hb 12 X (by decide) wq_47 rfl dX2_meeting_13 ?_
    refine j_iload_n (i := 2) X dX2_meeting_16 rfl rfl ?_
    refine j_iald X (ia_sh9 hb) dX2_meeting_17 (fun h_1 => ?_)
    refine j_if_eq (tgt := 27) X dX2_meeting_18 (by decide) ?_ ?_
    · refine j_iincB (i := 2) (y := v2 + 1) (Lf := fun v2_2 => [(0, .ref (gA g b)), (1, .int v1), (2, .int v2_2)]) X dX2_meeting_27 rfl rfl (by decide) (fun _ => rfl) (fun v2_2 => ?_)
      refine j_goto (tgt := 4) X dX2_meeting_30 (by decide) ?_
      exact hc4 (v1, v2_2, M)
    · refine j_iload_n (i := 1) X dX2_meeting_21 rfl rfl ?_
      refine j_iconst (v := 1) X dX2_meeting_22 rfl ?_
      refine j_iload_n (i := 2) X dX2_meeting_23 rfl rfl ?_
      refine j_ishl X dX2_meeting_24 ?_
      refine j_ior X dX2_meeting_25 ?_
      refine j_bI (fun v1_3 => ?_)
      refine j_istore_n (i := 1) (Lq := [(0, .ref (gA g b)), (1, .int v1_3), (2, .int v2)]) X dX2_meeting_26 rfl (by decide) rfl ?_
      refine j_iincB (i := 2) (y := v2 + 1) (Lf := fun v2_4 => [(0, .ref (gA g b)), (1, .int v1_3), (2, .int v2_4)]) X dX2_meeting_27 rfl rfl (by decide) (fun _ => rfl) (fun v2_4 => ?_)
      refine j_goto (tgt := 4) X dX2_meeting_30 (by decide) ?_
      exact hc4 (v1_3, v2_4, M)
def pi_X2_meeting_e (b : Nat) (M : Mem) : Option (Int32 × Mem) := lp (fun rc4 x => pi_X2_meeting_4 b rc4 x.1 x.2.1 x.2.2) FU (0, 0, M)
set_option maxRecDepth 100000 in
set_option maxHeartbeats 4000000 in
theorem pj_X2_meeting_e {p : Program} {l : Launch} {e : Env} {R : Room} {s : State} {m : MethodId} {args : Array Value} {below : List Frame} {meth : Method} {c : Code} {g : Gh} (X : Cx p l e R s m args below meth c g cX2_meeting 3 (0, 0) RX2 0) (hr : meth.sig.returnType = (some (.int))) (b : Nat) (hb : isSh b) (M : Mem) : J p l e R s m args below meth c g 3 (0, 0) (QfI below args s g) (pi_X2_meeting_e b M) M 0 [(0, .ref (gA g b))] [] := by
  unfold pi_X2_meeting_e
  refine j_iconst (v := 0) X dX2_meeting_0 rfl ?_
  refine j_istore_n (i := 1) (Lq := [(0, .ref (gA g b)), (1, .int 0)]) X dX2_meeting_1 rfl (by decide) rfl ?_
  refine j_iconst (v := 0) X dX2_meeting_2 rfl ?_
  refine j_istore_n (i := 2) (Lq := [(0, .ref (gA g b)), (1, .int 0), (2, .int 0)]) X dX2_meeting_3 rfl (by decide) rfl ?_
  exact j_lp (Lf := fun x => [(0, .ref (gA g b)), (1, .int x.1), (2, .int x.2.1)]) (Mf := fun x => x.2.2) (fun rc4 hc4 x => pj_X2_meeting_4 X hr b hb rc4 hc4 x.1 x.2.1 x.2.2) FU (0, 0, M)
def mi_X2_meeting (b : Nat) (M : Mem) : Option (Int32 × Mem) := pi_X2_meeting_e b M
theorem ct_X2_meeting (l : Launch) (g : Gh) (b : Nat) (hb : isSh b) (M : Mem) : CtI l g yX2_meeting cX2_meeting 3 (some (.int)) 0 [.ref (gA g b)] M (mi_X2_meeting b M) := ctI_of (own := RX2) (L := [(0, .ref (gA g b))]) (by decide +kernel) rfl (Nat.le_of_ble_eq_true rfl) rfl (fun p e s m args below meth c X hr => pj_X2_meeting_e X hr b hb M)

def pi_X2_valleysIn_4 (k0 : Nat) (n0 : Nat) (rc4 : Int32 × Int32 × Mem → Option (Int32 × Mem)) (v1 : Int32) (v2 : Int32) (M : Mem) : Option (Int32 × Mem) := if 12 ≤ v2 then (some (v1, M)) else (gd (inb v2 n0) <| if (M k0 v2.toNatClampNeg) = 0 then (bI (v2 + 1) fun v2_2 => rc4 (v1, v2_2, M)) else (bI (v1 ||| (1 <<< (v2 &&& 31))) fun v1_3 => bI (v2 + 1) fun v2_4 => rc4 (v1_3, v2_4, M)))
set_option maxRecDepth 100000 in
set_option maxHeartbeats 4000000 in
theorem pj_X2_valleysIn_4 {p : Program} {l : Launch} {e : Env} {R : Room} {s : State} {m : MethodId} {args : Array Value} {below : List Frame} {meth : Method} {c : Code} {g : Gh} (X : Cx p l e R s m args below meth c g cX2_valleysIn 3 (0, 0) RX2 0) (hr : meth.sig.returnType = (some (.int))) (k0 : Nat) (n0 : Nat) (ha0 : ia k0 n0) (rc4 : Int32 × Int32 × Mem → Option (Int32 × Mem)) (hc4 : ∀ x, J p l e R s m args below meth c g 3 (0, 0) (QfI below args s g) (rc4 x) x.2.2 4 [(0, .ref (gA g k0)), (1, .int x.1), (2, .int x.2.1)] []) (v1 : Int32) (v2 : Int32) (M : Mem) : J p l e R s m args below meth c g 3 (0, 0) (QfI below args s g) (pi_X2_valleysIn_4 k0 n0 rc4 v1 v2 M) M 4 [(0, .ref (gA g k0)), (1, .int v1), (2, .int v2)] [] := by
  unfold pi_X2_valleysIn_4
  refine j_iload_n (i := 2) X dX2_valleysIn_4 rfl rfl ?_
  refine j_bipush (v := 12) X dX2_valleysIn_5 rfl ?_
  refine j_icmp_ge (tgt := 28) X dX2_valleysIn_7 (by decide) ?_ ?_
  · refine j_iload_n (i := 1) X dX2_valleysIn_28 rfl rfl ?_
    exact j_iret X hr dX2_valleysIn_29
  · refine j_aload_n (i := 0) X dX2_valleysIn_10 rfl rfl ?_
    refine j_iload_n (i := 2) X dX2_valleysIn_11 rfl rfl ?_
    refine j_iald X ha0 dX2_valleysIn_12 (fun h_1 => ?_)
    refine j_if_eq (tgt := 22) X dX2_valleysIn_13 (by decide) ?_ ?_
    · refine j_iincB (i := 2) (y := v2 + 1) (Lf := fun v2_2 => [(0, .ref (gA g k0)), (1, .int v1), (2, .int v2_2)]) X dX2_valleysIn_22 rfl rfl (by decide) (fun _ => rfl) (fun v2_2 => ?_)
      refine j_goto (tgt := 4) X dX2_valleysIn_25 (by decide) ?_
      exact hc4 (v1, v2_2, M)
    · refine j_iload_n (i := 1) X dX2_valleysIn_16 rfl rfl ?_
      refine j_iconst (v := 1) X dX2_valleysIn_17 rfl ?_
      refine j_iload_n (i := 2) X dX2_valleysIn_18 rfl rfl ?_
      refine j_ishl X dX2_valleysIn_19 ?_
      refine j_ior X dX2_valleysIn_20 ?_
      refine j_bI (fun v1_3 => ?_)
      refine j_istore_n (i := 1) (Lq := [(0, .ref (gA g k0)), (1, .int v1_3), (2, .int v2)]) X dX2_valleysIn_21 rfl (by decide) rfl ?_
      refine j_iincB (i := 2) (y := v2 + 1) (Lf := fun v2_4 => [(0, .ref (gA g k0)), (1, .int v1_3), (2, .int v2_4)]) X dX2_valleysIn_22 rfl rfl (by decide) (fun _ => rfl) (fun v2_4 => ?_)
      refine j_goto (tgt := 4) X dX2_valleysIn_25 (by decide) ?_
      exact hc4 (v1_3, v2_4, M)
def pi_X2_valleysIn_e (k0 : Nat) (n0 : Nat) (M : Mem) : Option (Int32 × Mem) := lp (fun rc4 x => pi_X2_valleysIn_4 k0 n0 rc4 x.1 x.2.1 x.2.2) FU (0, 0, M)
set_option maxRecDepth 100000 in
set_option maxHeartbeats 4000000 in
theorem pj_X2_valleysIn_e {p : Program} {l : Launch} {e : Env} {R : Room} {s : State} {m : MethodId} {args : Array Value} {below : List Frame} {meth : Method} {c : Code} {g : Gh} (X : Cx p l e R s m args below meth c g cX2_valleysIn 3 (0, 0) RX2 0) (hr : meth.sig.returnType = (some (.int))) (k0 : Nat) (n0 : Nat) (ha0 : ia k0 n0) (M : Mem) : J p l e R s m args below meth c g 3 (0, 0) (QfI below args s g) (pi_X2_valleysIn_e k0 n0 M) M 0 [(0, .ref (gA g k0))] [] := by
  unfold pi_X2_valleysIn_e
  refine j_iconst (v := 0) X dX2_valleysIn_0 rfl ?_
  refine j_istore_n (i := 1) (Lq := [(0, .ref (gA g k0)), (1, .int 0)]) X dX2_valleysIn_1 rfl (by decide) rfl ?_
  refine j_iconst (v := 0) X dX2_valleysIn_2 rfl ?_
  refine j_istore_n (i := 2) (Lq := [(0, .ref (gA g k0)), (1, .int 0), (2, .int 0)]) X dX2_valleysIn_3 rfl (by decide) rfl ?_
  exact j_lp (Lf := fun x => [(0, .ref (gA g k0)), (1, .int x.1), (2, .int x.2.1)]) (Mf := fun x => x.2.2) (fun rc4 hc4 x => pj_X2_valleysIn_4 X hr k0 n0 ha0 rc4 hc4 x.1 x.2.1 x.2.2) FU (0, 0, M)
def mi_X2_valleysIn (k0 : Nat) (n0 : Nat) (M : Mem) : Option (Int32 × Mem) := pi_X2_valleysIn_e k0 n0 M
theorem ct_X2_valleysIn (l : Launch) (g : Gh) (k0 : Nat) (n0 : Nat) (ha0 : ia k0 n0) (M : Mem) : CtI l g yX2_valleysIn cX2_valleysIn 3 (some (.int)) 0 [.ref (gA g k0)] M (mi_X2_valleysIn k0 n0 M) := ctI_of (own := RX2) (L := [(0, .ref (gA g k0))]) (by decide +kernel) rfl (Nat.le_of_ble_eq_true rfl) rfl (fun p e s m args below meth c X hr => pj_X2_valleysIn_e X hr k0 n0 ha0 M)

def pi_X2_valleysStoodAt_e (b : Nat) (M : Mem) : Option (Int32 × Mem) := bd (mi_X2_valleysIn (b + 10) 12 M) fun r_2 M_1 => some (r_2, M_1)
set_option maxRecDepth 100000 in
set_option maxHeartbeats 4000000 in
theorem pj_X2_valleysStoodAt_e {p : Program} {l : Launch} {e : Env} {R : Room} {s : State} {m : MethodId} {args : Array Value} {below : List Frame} {meth : Method} {c : Code} {g : Gh} (X : Cx p l e R s m args below meth c g cX2_valleysStoodAt 1 (0, 0) RX2 1) (hr : meth.sig.returnType = (some (.int))) (b : Nat) (hb : isSh b) (M : Mem) : J p l e R s m args below meth c g 1 (0, 0) (QfI below args s g) (pi_X2_valleysStoodAt_e b M) M 0 [(0, .ref (gA g b))] [] := by
  unfold pi_X2_valleysStoodAt_e
  refine j_aload_n (i := 0) X dX2_valleysStoodAt_0 rfl rfl ?_
  refine j_get_sh hb 13 X (by decide) wq_40 rfl dX2_valleysStoodAt_1 ?_
  refine k_cSI (As := [.ref (gA g (b + 10))]) (rest := []) X (ct_X2_valleysIn l g (b + 10) 12 (ia_sh10 hb) M) wl_X2_76 rfl rfl (by decide) (Nat.le_of_ble_eq_true rfl) dX2_valleysStoodAt_4 (fun r_2 M_1 => ?_)
  exact j_iret X hr dX2_valleysStoodAt_7
def mi_X2_valleysStoodAt (b : Nat) (M : Mem) : Option (Int32 × Mem) := pi_X2_valleysStoodAt_e b M
theorem ct_X2_valleysStoodAt (l : Launch) (g : Gh) (b : Nat) (hb : isSh b) (M : Mem) : CtI l g yX2_valleysStoodAt cX2_valleysStoodAt 1 (some (.int)) 1 [.ref (gA g b)] M (mi_X2_valleysStoodAt b M) := ctI_of (own := RX2) (L := [(0, .ref (gA g b))]) (by decide +kernel) rfl (Nat.le_of_ble_eq_true rfl) rfl (fun p e s m args below meth c X hr => pj_X2_valleysStoodAt_e X hr b hb M)

def pi_X2_valleysFaced_e (b : Nat) (M : Mem) : Option (Int32 × Mem) := bd (mi_X2_valleysIn (b + 11) 12 M) fun r_2 M_1 => some (r_2, M_1)
set_option maxRecDepth 100000 in
set_option maxHeartbeats 4000000 in
theorem pj_X2_valleysFaced_e {p : Program} {l : Launch} {e : Env} {R : Room} {s : State} {m : MethodId} {args : Array Value} {below : List Frame} {meth : Method} {c : Code} {g : Gh} (X : Cx p l e R s m args below meth c g cX2_valleysFaced 1 (0, 0) RX2 1) (hr : meth.sig.returnType = (some (.int))) (b : Nat) (hb : isSh b) (M : Mem) : J p l e R s m args below meth c g 1 (0, 0) (QfI below args s g) (pi_X2_valleysFaced_e b M) M 0 [(0, .ref (gA g b))] [] := by
  unfold pi_X2_valleysFaced_e
  refine j_aload_n (i := 0) X dX2_valleysFaced_0 rfl rfl ?_
  refine j_get_sh hb 14 X (by decide) wq_45 rfl dX2_valleysFaced_1 ?_
  refine k_cSI (As := [.ref (gA g (b + 11))]) (rest := []) X (ct_X2_valleysIn l g (b + 11) 12 (ia_sh11 hb) M) wl_X2_76 rfl rfl (by decide) (Nat.le_of_ble_eq_true rfl) dX2_valleysFaced_4 (fun r_2 M_1 => ?_)
  exact j_iret X hr dX2_valleysFaced_7
def mi_X2_valleysFaced (b : Nat) (M : Mem) : Option (Int32 × Mem) := pi_X2_valleysFaced_e b M
theorem ct_X2_valleysFaced (l : Launch) (g : Gh) (b : Nat) (hb : isSh b) (M : Mem) : CtI l g yX2_valleysFaced cX2_valleysFaced 1 (some (.int)) 1 [.ref (gA g b)] M (mi_X2_valleysFaced b M) := ctI_of (own := RX2) (L := [(0, .ref (gA g b))]) (by decide +kernel) rfl (Nat.le_of_ble_eq_true rfl) rfl (fun p e s m args below meth c X hr => pj_X2_valleysFaced_e X hr b hb M)

def pi_X2_sumOf_4 (b : Nat) (k1 : Nat) (n1 : Nat) (rc4 : Int32 × Int32 × Mem → Option (Int32 × Mem)) (v2 : Int32) (v3 : Int32) (M : Mem) : Option (Int32 × Mem) := if (M b 3) ≤ v3 then (some (v2, M)) else (gd (inb v3 n1) <| bI (v2 + (M k1 v3.toNatClampNeg)) fun v2_2 => bI (v3 + 1) fun v3_3 => rc4 (v2_2, v3_3, M))
set_option maxRecDepth 100000 in
set_option maxHeartbeats 4000000 in
theorem pj_X2_sumOf_4 {p : Program} {l : Launch} {e : Env} {R : Room} {s : State} {m : MethodId} {args : Array Value} {below : List Frame} {meth : Method} {c : Code} {g : Gh} (X : Cx p l e R s m args below meth c g cX2_sumOf 4 (0, 0) RX2 0) (hr : meth.sig.returnType = (some (.int))) (b : Nat) (k1 : Nat) (n1 : Nat) (hb : isSh b) (ha1 : ia k1 n1) (rc4 : Int32 × Int32 × Mem → Option (Int32 × Mem)) (hc4 : ∀ x, J p l e R s m args below meth c g 4 (0, 0) (QfI below args s g) (rc4 x) x.2.2 4 [(0, .ref (gA g b)), (1, .ref (gA g k1)), (2, .int x.1), (3, .int x.2.1)] []) (v2 : Int32) (v3 : Int32) (M : Mem) : J p l e R s m args below meth c g 4 (0, 0) (QfI below args s g) (pi_X2_sumOf_4 b k1 n1 rc4 v2 v3 M) M 4 [(0, .ref (gA g b)), (1, .ref (gA g k1)), (2, .int v2), (3, .int v3)] [] := by
  unfold pi_X2_sumOf_4
  refine j_iload_n (i := 3) X dX2_sumOf_4 rfl rfl ?_
  refine j_aload_n (i := 0) X dX2_sumOf_5 rfl rfl ?_
  refine j_get_sh hb 3 X (by decide) wq_46 rfl dX2_sumOf_6 ?_
  refine j_icmp_ge (tgt := 24) X dX2_sumOf_9 (by decide) ?_ ?_
  · refine j_iload_n (i := 2) X dX2_sumOf_24 rfl rfl ?_
    exact j_iret X hr dX2_sumOf_25
  · refine j_iload_n (i := 2) X dX2_sumOf_12 rfl rfl ?_
    refine j_aload_n (i := 1) X dX2_sumOf_13 rfl rfl ?_
    refine j_iload_n (i := 3) X dX2_sumOf_14 rfl rfl ?_
    refine j_iald X ha1 dX2_sumOf_15 (fun h_1 => ?_)
    refine j_iadd X dX2_sumOf_16 ?_
    refine j_bI (fun v2_2 => ?_)
    refine j_istore_n (i := 2) (Lq := [(0, .ref (gA g b)), (1, .ref (gA g k1)), (2, .int v2_2), (3, .int v3)]) X dX2_sumOf_17 rfl (by decide) rfl ?_
    refine j_iincB (i := 3) (y := v3 + 1) (Lf := fun v3_3 => [(0, .ref (gA g b)), (1, .ref (gA g k1)), (2, .int v2_2), (3, .int v3_3)]) X dX2_sumOf_18 rfl rfl (by decide) (fun _ => rfl) (fun v3_3 => ?_)
    refine j_goto (tgt := 4) X dX2_sumOf_21 (by decide) ?_
    exact hc4 (v2_2, v3_3, M)
def pi_X2_sumOf_e (b : Nat) (k1 : Nat) (n1 : Nat) (M : Mem) : Option (Int32 × Mem) := lp (fun rc4 x => pi_X2_sumOf_4 b k1 n1 rc4 x.1 x.2.1 x.2.2) FU (0, 0, M)
set_option maxRecDepth 100000 in
set_option maxHeartbeats 4000000 in
theorem pj_X2_sumOf_e {p : Program} {l : Launch} {e : Env} {R : Room} {s : State} {m : MethodId} {args : Array Value} {below : List Frame} {meth : Method} {c : Code} {g : Gh} (X : Cx p l e R s m args below meth c g cX2_sumOf 4 (0, 0) RX2 0) (hr : meth.sig.returnType = (some (.int))) (b : Nat) (k1 : Nat) (n1 : Nat) (hb : isSh b) (ha1 : ia k1 n1) (M : Mem) : J p l e R s m args below meth c g 4 (0, 0) (QfI below args s g) (pi_X2_sumOf_e b k1 n1 M) M 0 [(0, .ref (gA g b)), (1, .ref (gA g k1))] [] := by
  unfold pi_X2_sumOf_e
  refine j_iconst (v := 0) X dX2_sumOf_0 rfl ?_
  refine j_istore_n (i := 2) (Lq := [(0, .ref (gA g b)), (1, .ref (gA g k1)), (2, .int 0)]) X dX2_sumOf_1 rfl (by decide) rfl ?_
  refine j_iconst (v := 0) X dX2_sumOf_2 rfl ?_
  refine j_istore_n (i := 3) (Lq := [(0, .ref (gA g b)), (1, .ref (gA g k1)), (2, .int 0), (3, .int 0)]) X dX2_sumOf_3 rfl (by decide) rfl ?_
  exact j_lp (Lf := fun x => [(0, .ref (gA g b)), (1, .ref (gA g k1)), (2, .int x.1), (3, .int x.2.1)]) (Mf := fun x => x.2.2) (fun rc4 hc4 x => pj_X2_sumOf_4 X hr b k1 n1 hb ha1 rc4 hc4 x.1 x.2.1 x.2.2) FU (0, 0, M)
def mi_X2_sumOf (b : Nat) (k1 : Nat) (n1 : Nat) (M : Mem) : Option (Int32 × Mem) := pi_X2_sumOf_e b k1 n1 M
theorem ct_X2_sumOf (l : Launch) (g : Gh) (b : Nat) (k1 : Nat) (n1 : Nat) (hb : isSh b) (ha1 : ia k1 n1) (M : Mem) : CtI l g yX2_sumOf cX2_sumOf 4 (some (.int)) 0 [.ref (gA g b), .ref (gA g k1)] M (mi_X2_sumOf b k1 n1 M) := ctI_of (own := RX2) (L := [(0, .ref (gA g b)), (1, .ref (gA g k1))]) (by decide +kernel) rfl (Nat.le_of_ble_eq_true rfl) rfl (fun p e s m args below meth c X hr => pj_X2_sumOf_e X hr b k1 n1 hb ha1 M)

def pi_X2_heightOfAll_e (b : Nat) (M : Mem) : Option (Int32 × Mem) := bd (mi_X2_sumOf b (b + 6) 8 M) fun r_2 M_1 => some (r_2, M_1)
set_option maxRecDepth 100000 in
set_option maxHeartbeats 4000000 in
theorem pj_X2_heightOfAll_e {p : Program} {l : Launch} {e : Env} {R : Room} {s : State} {m : MethodId} {args : Array Value} {below : List Frame} {meth : Method} {c : Code} {g : Gh} (X : Cx p l e R s m args below meth c g cX2_heightOfAll 1 (0, 0) RX2 1) (hr : meth.sig.returnType = (some (.int))) (b : Nat) (hb : isSh b) (M : Mem) : J p l e R s m args below meth c g 1 (0, 0) (QfI below args s g) (pi_X2_heightOfAll_e b M) M 0 [(0, .ref (gA g b))] [] := by
  unfold pi_X2_heightOfAll_e
  refine j_aload_n (i := 0) X dX2_heightOfAll_0 rfl rfl ?_
  refine j_aload_n (i := 0) X dX2_heightOfAll_1 rfl rfl ?_
  refine j_get_sh hb 9 X (by decide) wq_58 rfl dX2_heightOfAll_2 ?_
  refine k_cVI (As := [.ref (gA g (b + 6))]) (rest := []) hb.lt (cf_sh hb _) rfl X (ct_X2_sumOf l g b (b + 6) 8 hb (ia_sh6 hb) M) wl_X2_80 rfl rfl (by decide) (Nat.le_of_ble_eq_true rfl) dX2_heightOfAll_5 (fun r_2 M_1 => ?_)
  exact j_iret X hr dX2_heightOfAll_8
def mi_X2_heightOfAll (b : Nat) (M : Mem) : Option (Int32 × Mem) := pi_X2_heightOfAll_e b M
theorem ct_X2_heightOfAll (l : Launch) (g : Gh) (b : Nat) (hb : isSh b) (M : Mem) : CtI l g yX2_heightOfAll cX2_heightOfAll 1 (some (.int)) 1 [.ref (gA g b)] M (mi_X2_heightOfAll b M) := ctI_of (own := RX2) (L := [(0, .ref (gA g b))]) (by decide +kernel) rfl (Nat.le_of_ble_eq_true rfl) rfl (fun p e s m args below meth c X hr => pj_X2_heightOfAll_e X hr b hb M)

def pi_X2_bowedOfAll_e (b : Nat) (M : Mem) : Option (Int32 × Mem) := bd (mi_X2_sumOf b (b + 7) 8 M) fun r_2 M_1 => some (r_2, M_1)
set_option maxRecDepth 100000 in
set_option maxHeartbeats 4000000 in
theorem pj_X2_bowedOfAll_e {p : Program} {l : Launch} {e : Env} {R : Room} {s : State} {m : MethodId} {args : Array Value} {below : List Frame} {meth : Method} {c : Code} {g : Gh} (X : Cx p l e R s m args below meth c g cX2_bowedOfAll 1 (0, 0) RX2 1) (hr : meth.sig.returnType = (some (.int))) (b : Nat) (hb : isSh b) (M : Mem) : J p l e R s m args below meth c g 1 (0, 0) (QfI below args s g) (pi_X2_bowedOfAll_e b M) M 0 [(0, .ref (gA g b))] [] := by
  unfold pi_X2_bowedOfAll_e
  refine j_aload_n (i := 0) X dX2_bowedOfAll_0 rfl rfl ?_
  refine j_aload_n (i := 0) X dX2_bowedOfAll_1 rfl rfl ?_
  refine j_get_sh hb 10 X (by decide) wq_59 rfl dX2_bowedOfAll_2 ?_
  refine k_cVI (As := [.ref (gA g (b + 7))]) (rest := []) hb.lt (cf_sh hb _) rfl X (ct_X2_sumOf l g b (b + 7) 8 hb (ia_sh7 hb) M) wl_X2_80 rfl rfl (by decide) (Nat.le_of_ble_eq_true rfl) dX2_bowedOfAll_5 (fun r_2 M_1 => ?_)
  exact j_iret X hr dX2_bowedOfAll_8
def mi_X2_bowedOfAll (b : Nat) (M : Mem) : Option (Int32 × Mem) := pi_X2_bowedOfAll_e b M
theorem ct_X2_bowedOfAll (l : Launch) (g : Gh) (b : Nat) (hb : isSh b) (M : Mem) : CtI l g yX2_bowedOfAll cX2_bowedOfAll 1 (some (.int)) 1 [.ref (gA g b)] M (mi_X2_bowedOfAll b M) := ctI_of (own := RX2) (L := [(0, .ref (gA g b))]) (by decide +kernel) rfl (Nat.le_of_ble_eq_true rfl) rfl (fun p e s m args below meth c X hr => pj_X2_bowedOfAll_e X hr b hb M)

def pi_X2_spotsHeld_4 (b : Nat) (rc4 : Int32 × Int32 × Mem → Option (Int32 × Mem)) (v1 : Int32) (v2 : Int32) (M : Mem) : Option (Int32 × Mem) := if 10 ≤ v2 then (some (v1, M)) else (gd (inb v2 10) <| if (M (b + 1) v2.toNatClampNeg) < 0 then (bI (v2 + 1) fun v2_2 => rc4 (v1, v2_2, M)) else (bI (v1 + 1) fun v1_3 => bI (v2 + 1) fun v2_4 => rc4 (v1_3, v2_4, M)))
set_option maxRecDepth 100000 in
set_option maxHeartbeats 4000000 in
theorem pj_X2_spotsHeld_4 {p : Program} {l : Launch} {e : Env} {R : Room} {s : State} {m : MethodId} {args : Array Value} {below : List Frame} {meth : Method} {c : Code} {g : Gh} (X : Cx p l e R s m args below meth c g cX2_spotsHeld 3 (0, 0) RX2 0) (hr : meth.sig.returnType = (some (.int))) (b : Nat) (hb : isSh b) (rc4 : Int32 × Int32 × Mem → Option (Int32 × Mem)) (hc4 : ∀ x, J p l e R s m args below meth c g 3 (0, 0) (QfI below args s g) (rc4 x) x.2.2 4 [(0, .ref (gA g b)), (1, .int x.1), (2, .int x.2.1)] []) (v1 : Int32) (v2 : Int32) (M : Mem) : J p l e R s m args below meth c g 3 (0, 0) (QfI below args s g) (pi_X2_spotsHeld_4 b rc4 v1 v2 M) M 4 [(0, .ref (gA g b)), (1, .int v1), (2, .int v2)] [] := by
  unfold pi_X2_spotsHeld_4
  refine j_iload_n (i := 2) X dX2_spotsHeld_4 rfl rfl ?_
  refine j_bipush (v := 10) X dX2_spotsHeld_5 rfl ?_
  refine j_icmp_ge (tgt := 28) X dX2_spotsHeld_7 (by decide) ?_ ?_
  · refine j_iload_n (i := 1) X dX2_spotsHeld_28 rfl rfl ?_
    exact j_iret X hr dX2_spotsHeld_29
  · refine j_aload_n (i := 0) X dX2_spotsHeld_10 rfl rfl ?_
    refine j_get_sh hb 4 X (by decide) wq_102 rfl dX2_spotsHeld_11 ?_
    refine j_iload_n (i := 2) X dX2_spotsHeld_14 rfl rfl ?_
    refine j_iald X (ia_sh1 hb) dX2_spotsHeld_15 (fun h_1 => ?_)
    refine j_if_lt (tgt := 22) X dX2_spotsHeld_16 (by decide) ?_ ?_
    · refine j_iincB (i := 2) (y := v2 + 1) (Lf := fun v2_2 => [(0, .ref (gA g b)), (1, .int v1), (2, .int v2_2)]) X dX2_spotsHeld_22 rfl rfl (by decide) (fun _ => rfl) (fun v2_2 => ?_)
      refine j_goto (tgt := 4) X dX2_spotsHeld_25 (by decide) ?_
      exact hc4 (v1, v2_2, M)
    · refine j_iincB (i := 1) (y := v1 + 1) (Lf := fun v1_3 => [(0, .ref (gA g b)), (1, .int v1_3), (2, .int v2)]) X dX2_spotsHeld_19 rfl rfl (by decide) (fun _ => rfl) (fun v1_3 => ?_)
      refine j_iincB (i := 2) (y := v2 + 1) (Lf := fun v2_4 => [(0, .ref (gA g b)), (1, .int v1_3), (2, .int v2_4)]) X dX2_spotsHeld_22 rfl rfl (by decide) (fun _ => rfl) (fun v2_4 => ?_)
      refine j_goto (tgt := 4) X dX2_spotsHeld_25 (by decide) ?_
      exact hc4 (v1_3, v2_4, M)
def pi_X2_spotsHeld_e (b : Nat) (M : Mem) : Option (Int32 × Mem) := lp (fun rc4 x => pi_X2_spotsHeld_4 b rc4 x.1 x.2.1 x.2.2) FU (0, 0, M)
set_option maxRecDepth 100000 in
set_option maxHeartbeats 4000000 in
theorem pj_X2_spotsHeld_e {p : Program} {l : Launch} {e : Env} {R : Room} {s : State} {m : MethodId} {args : Array Value} {below : List Frame} {meth : Method} {c : Code} {g : Gh} (X : Cx p l e R s m args below meth c g cX2_spotsHeld 3 (0, 0) RX2 0) (hr : meth.sig.returnType = (some (.int))) (b : Nat) (hb : isSh b) (M : Mem) : J p l e R s m args below meth c g 3 (0, 0) (QfI below args s g) (pi_X2_spotsHeld_e b M) M 0 [(0, .ref (gA g b))] [] := by
  unfold pi_X2_spotsHeld_e
  refine j_iconst (v := 0) X dX2_spotsHeld_0 rfl ?_
  refine j_istore_n (i := 1) (Lq := [(0, .ref (gA g b)), (1, .int 0)]) X dX2_spotsHeld_1 rfl (by decide) rfl ?_
  refine j_iconst (v := 0) X dX2_spotsHeld_2 rfl ?_
  refine j_istore_n (i := 2) (Lq := [(0, .ref (gA g b)), (1, .int 0), (2, .int 0)]) X dX2_spotsHeld_3 rfl (by decide) rfl ?_
  exact j_lp (Lf := fun x => [(0, .ref (gA g b)), (1, .int x.1), (2, .int x.2.1)]) (Mf := fun x => x.2.2) (fun rc4 hc4 x => pj_X2_spotsHeld_4 X hr b hb rc4 hc4 x.1 x.2.1 x.2.2) FU (0, 0, M)
def mi_X2_spotsHeld (b : Nat) (M : Mem) : Option (Int32 × Mem) := pi_X2_spotsHeld_e b M
theorem ct_X2_spotsHeld (l : Launch) (g : Gh) (b : Nat) (hb : isSh b) (M : Mem) : CtI l g yX2_spotsHeld cX2_spotsHeld 3 (some (.int)) 0 [.ref (gA g b)] M (mi_X2_spotsHeld b M) := ctI_of (own := RX2) (L := [(0, .ref (gA g b))]) (by decide +kernel) rfl (Nat.le_of_ble_eq_true rfl) rfl (fun p e s m args below meth c X hr => pj_X2_spotsHeld_e X hr b hb M)

def pi_X2_highestAt_4 (b : Nat) (v1 : Int32) (rc4 : Int32 × Int32 × Mem → Option (Int32 × Mem)) (v2 : Int32) (v3 : Int32) (M : Mem) : Option (Int32 × Mem) := if (M b 3) ≤ v3 then (some (v2, M)) else (gd (inb v3 8) <| if (M (b + 3) v3.toNatClampNeg) = v1 then (gd (inb v3 8) <| if (M (b + 6) v3.toNatClampNeg) ≤ v2 then (bI (v3 + 1) fun v3_3 => rc4 (v2, v3_3, M)) else (gd (inb v3 8) <| bI (M (b + 6) v3.toNatClampNeg) fun v2_5 => bI (v3 + 1) fun v3_6 => rc4 (v2_5, v3_6, M))) else (bI (v3 + 1) fun v3_7 => rc4 (v2, v3_7, M)))
set_option maxRecDepth 100000 in
set_option maxHeartbeats 4000000 in
theorem pj_X2_highestAt_4 {p : Program} {l : Launch} {e : Env} {R : Room} {s : State} {m : MethodId} {args : Array Value} {below : List Frame} {meth : Method} {c : Code} {g : Gh} (X : Cx p l e R s m args below meth c g cX2_highestAt 4 (0, 0) RX2 0) (hr : meth.sig.returnType = (some (.int))) (b : Nat) (v1 : Int32) (hb : isSh b) (rc4 : Int32 × Int32 × Mem → Option (Int32 × Mem)) (hc4 : ∀ x, J p l e R s m args below meth c g 4 (0, 0) (QfI below args s g) (rc4 x) x.2.2 4 [(0, .ref (gA g b)), (1, .int v1), (2, .int x.1), (3, .int x.2.1)] []) (v2 : Int32) (v3 : Int32) (M : Mem) : J p l e R s m args below meth c g 4 (0, 0) (QfI below args s g) (pi_X2_highestAt_4 b v1 rc4 v2 v3 M) M 4 [(0, .ref (gA g b)), (1, .int v1), (2, .int v2), (3, .int v3)] [] := by
  unfold pi_X2_highestAt_4
  refine j_iload_n (i := 3) X dX2_highestAt_4 rfl rfl ?_
  refine j_aload_n (i := 0) X dX2_highestAt_5 rfl rfl ?_
  refine j_get_sh hb 3 X (by decide) wq_46 rfl dX2_highestAt_6 ?_
  refine j_icmp_ge (tgt := 45) X dX2_highestAt_9 (by decide) ?_ ?_
  · refine j_iload_n (i := 2) X dX2_highestAt_45 rfl rfl ?_
    exact j_iret X hr dX2_highestAt_46
  · refine j_aload_n (i := 0) X dX2_highestAt_12 rfl rfl ?_
    refine j_get_sh hb 6 X (by decide) wq_49 rfl dX2_highestAt_13 ?_
    refine j_iload_n (i := 3) X dX2_highestAt_16 rfl rfl ?_
    refine j_iald X (ia_sh3 hb) dX2_highestAt_17 (fun h_1 => ?_)
    refine j_iload_n (i := 1) X dX2_highestAt_18 rfl rfl ?_
    refine j_icmp_ne (tgt := 39) X dX2_highestAt_19 (by decide) ?_ ?_
    · refine j_aload_n (i := 0) X dX2_highestAt_22 rfl rfl ?_
      refine j_get_sh hb 9 X (by decide) wq_58 rfl dX2_highestAt_23 ?_
      refine j_iload_n (i := 3) X dX2_highestAt_26 rfl rfl ?_
      refine j_iald X (ia_sh6 hb) dX2_highestAt_27 (fun h_2 => ?_)
      refine j_iload_n (i := 2) X dX2_highestAt_28 rfl rfl ?_
      refine j_icmp_le (tgt := 39) X dX2_highestAt_29 (by decide) ?_ ?_
      · refine j_iincB (i := 3) (y := v3 + 1) (Lf := fun v3_3 => [(0, .ref (gA g b)), (1, .int v1), (2, .int v2), (3, .int v3_3)]) X dX2_highestAt_39 rfl rfl (by decide) (fun _ => rfl) (fun v3_3 => ?_)
        refine j_goto (tgt := 4) X dX2_highestAt_42 (by decide) ?_
        exact hc4 (v2, v3_3, M)
      · refine j_aload_n (i := 0) X dX2_highestAt_32 rfl rfl ?_
        refine j_get_sh hb 9 X (by decide) wq_58 rfl dX2_highestAt_33 ?_
        refine j_iload_n (i := 3) X dX2_highestAt_36 rfl rfl ?_
        refine j_iald X (ia_sh6 hb) dX2_highestAt_37 (fun h_4 => ?_)
        refine j_bI (fun v2_5 => ?_)
        refine j_istore_n (i := 2) (Lq := [(0, .ref (gA g b)), (1, .int v1), (2, .int v2_5), (3, .int v3)]) X dX2_highestAt_38 rfl (by decide) rfl ?_
        refine j_iincB (i := 3) (y := v3 + 1) (Lf := fun v3_6 => [(0, .ref (gA g b)), (1, .int v1), (2, .int v2_5), (3, .int v3_6)]) X dX2_highestAt_39 rfl rfl (by decide) (fun _ => rfl) (fun v3_6 => ?_)
        refine j_goto (tgt := 4) X dX2_highestAt_42 (by decide) ?_
        exact hc4 (v2_5, v3_6, M)
    · refine j_iincB (i := 3) (y := v3 + 1) (Lf := fun v3_7 => [(0, .ref (gA g b)), (1, .int v1), (2, .int v2), (3, .int v3_7)]) X dX2_highestAt_39 rfl rfl (by decide) (fun _ => rfl) (fun v3_7 => ?_)
      refine j_goto (tgt := 4) X dX2_highestAt_42 (by decide) ?_
      exact hc4 (v2, v3_7, M)
def pi_X2_highestAt_e (b : Nat) (v1 : Int32) (M : Mem) : Option (Int32 × Mem) := lp (fun rc4 x => pi_X2_highestAt_4 b v1 rc4 x.1 x.2.1 x.2.2) FU ((-1), 0, M)
set_option maxRecDepth 100000 in
set_option maxHeartbeats 4000000 in
theorem pj_X2_highestAt_e {p : Program} {l : Launch} {e : Env} {R : Room} {s : State} {m : MethodId} {args : Array Value} {below : List Frame} {meth : Method} {c : Code} {g : Gh} (X : Cx p l e R s m args below meth c g cX2_highestAt 4 (0, 0) RX2 0) (hr : meth.sig.returnType = (some (.int))) (b : Nat) (v1 : Int32) (hb : isSh b) (M : Mem) : J p l e R s m args below meth c g 4 (0, 0) (QfI below args s g) (pi_X2_highestAt_e b v1 M) M 0 [(0, .ref (gA g b)), (1, .int v1)] [] := by
  unfold pi_X2_highestAt_e
  refine j_iconst (v := (-1)) X dX2_highestAt_0 rfl ?_
  refine j_istore_n (i := 2) (Lq := [(0, .ref (gA g b)), (1, .int v1), (2, .int (-1))]) X dX2_highestAt_1 rfl (by decide) rfl ?_
  refine j_iconst (v := 0) X dX2_highestAt_2 rfl ?_
  refine j_istore_n (i := 3) (Lq := [(0, .ref (gA g b)), (1, .int v1), (2, .int (-1)), (3, .int 0)]) X dX2_highestAt_3 rfl (by decide) rfl ?_
  exact j_lp (Lf := fun x => [(0, .ref (gA g b)), (1, .int v1), (2, .int x.1), (3, .int x.2.1)]) (Mf := fun x => x.2.2) (fun rc4 hc4 x => pj_X2_highestAt_4 X hr b v1 hb rc4 hc4 x.1 x.2.1 x.2.2) FU ((-1), 0, M)
def mi_X2_highestAt (b : Nat) (v1 : Int32) (M : Mem) : Option (Int32 × Mem) := pi_X2_highestAt_e b v1 M
theorem ct_X2_highestAt (l : Launch) (g : Gh) (b : Nat) (v1 : Int32) (hb : isSh b) (M : Mem) : CtI l g yX2_highestAt cX2_highestAt 4 (some (.int)) 0 [.ref (gA g b), .int v1] M (mi_X2_highestAt b v1 M) := ctI_of (own := RX2) (L := [(0, .ref (gA g b)), (1, .int v1)]) (by decide +kernel) rfl (Nat.le_of_ble_eq_true rfl) rfl (fun p e s m args below meth c X hr => pj_X2_highestAt_e X hr b v1 hb M)

def pi_J9_floorMod_7cf53_e (v0 : Int32) (v1 : Int32) (M : Mem) : Option (Int32 × Mem) := gd (!(v1 == 0)) <| bI (v0 - v0 / v1 * v1) fun v2_1 => if 0 ≤ (v0 ^^^ v1) then (some (v2_1, M)) else (if v2_1 = 0 then (some (v2_1, M)) else (some (v2_1 + v1, M)))
set_option maxRecDepth 100000 in
set_option maxHeartbeats 4000000 in
theorem pj_J9_floorMod_7cf53_e {p : Program} {l : Launch} {e : Env} {R : Room} {s : State} {m : MethodId} {args : Array Value} {below : List Frame} {meth : Method} {c : Code} {g : Gh} (X : Cx p l e R s m args below meth c g cJ9_floorMod_7cf53 3 (0, 0) RJ9 0) (hr : meth.sig.returnType = (some (.int))) (v0 : Int32) (v1 : Int32) (M : Mem) : J p l e R s m args below meth c g 3 (0, 0) (QfI below args s g) (pi_J9_floorMod_7cf53_e v0 v1 M) M 0 [(0, .int v0), (1, .int v1)] [] := by
  unfold pi_J9_floorMod_7cf53_e
  refine j_iload_n (i := 0) X dJ9_floorMod_7cf53_0 rfl rfl ?_
  refine j_iload_n (i := 1) X dJ9_floorMod_7cf53_1 rfl rfl ?_
  refine j_irem X dJ9_floorMod_7cf53_2 ?_
  refine j_bI (fun v2_1 => ?_)
  refine j_istore_n (i := 2) (Lq := [(0, .int v0), (1, .int v1), (2, .int v2_1)]) X dJ9_floorMod_7cf53_3 rfl (by decide) rfl ?_
  refine j_iload_n (i := 0) X dJ9_floorMod_7cf53_4 rfl rfl ?_
  refine j_iload_n (i := 1) X dJ9_floorMod_7cf53_5 rfl rfl ?_
  refine j_ixor X dJ9_floorMod_7cf53_6 ?_
  refine j_if_ge (tgt := 18) X dJ9_floorMod_7cf53_7 (by decide) ?_ ?_
  · refine j_iload_n (i := 2) X dJ9_floorMod_7cf53_18 rfl rfl ?_
    exact j_iret X hr dJ9_floorMod_7cf53_19
  · refine j_iload_n (i := 2) X dJ9_floorMod_7cf53_10 rfl rfl ?_
    refine j_if_eq (tgt := 18) X dJ9_floorMod_7cf53_11 (by decide) ?_ ?_
    · refine j_iload_n (i := 2) X dJ9_floorMod_7cf53_18 rfl rfl ?_
      exact j_iret X hr dJ9_floorMod_7cf53_19
    · refine j_iload_n (i := 2) X dJ9_floorMod_7cf53_14 rfl rfl ?_
      refine j_iload_n (i := 1) X dJ9_floorMod_7cf53_15 rfl rfl ?_
      refine j_iadd X dJ9_floorMod_7cf53_16 ?_
      exact j_iret X hr dJ9_floorMod_7cf53_17
def mi_J9_floorMod_7cf53 (v0 : Int32) (v1 : Int32) (M : Mem) : Option (Int32 × Mem) := pi_J9_floorMod_7cf53_e v0 v1 M
theorem ct_J9_floorMod_7cf53 (l : Launch) (g : Gh) (v0 : Int32) (v1 : Int32) (M : Mem) : CtI l g yJ9_floorMod_7cf53 cJ9_floorMod_7cf53 3 (some (.int)) 0 [.int v0, .int v1] M (mi_J9_floorMod_7cf53 v0 v1 M) := ctI_of (own := RJ9) (L := [(0, .int v0), (1, .int v1)]) (by decide +kernel) rfl (Nat.le_of_ble_eq_true rfl) rfl (fun p e s m args below meth c X hr => pj_J9_floorMod_7cf53_e X hr v0 v1  M)

def pi_X3_waysOn_e (v0 : Int32) (v1 : Int32) (M : Mem) : Option (Int32 × Mem) := bd (mi_J9_floorMod_7cf53 (v1 - v0) 12 M) fun r_2 M_1 => some (r_2, M_1)
set_option maxRecDepth 100000 in
set_option maxHeartbeats 4000000 in
theorem pj_X3_waysOn_e {p : Program} {l : Launch} {e : Env} {R : Room} {s : State} {m : MethodId} {args : Array Value} {below : List Frame} {meth : Method} {c : Code} {g : Gh} (X : Cx p l e R s m args below meth c g cX3_waysOn 2 (0, 0) RX3 1) (hr : meth.sig.returnType = (some (.int))) (v0 : Int32) (v1 : Int32) (M : Mem) : J p l e R s m args below meth c g 2 (0, 0) (QfI below args s g) (pi_X3_waysOn_e v0 v1 M) M 0 [(0, .int v0), (1, .int v1)] [] := by
  unfold pi_X3_waysOn_e
  refine j_iload_n (i := 1) X dX3_waysOn_0 rfl rfl ?_
  refine j_iload_n (i := 0) X dX3_waysOn_1 rfl rfl ?_
  refine j_isub X dX3_waysOn_2 ?_
  refine j_bipush (v := 12) X dX3_waysOn_3 rfl ?_
  refine k_cSI (As := [.int (v1 - v0), .int 12]) (rest := []) X (ct_J9_floorMod_7cf53 l g (v1 - v0) 12 M) wl_X3_256 rfl rfl (by decide) (Nat.le_of_ble_eq_true rfl) dX3_waysOn_5 (fun r_2 M_1 => ?_)
  exact j_iret X hr dX3_waysOn_8
def mi_X3_waysOn (v0 : Int32) (v1 : Int32) (M : Mem) : Option (Int32 × Mem) := pi_X3_waysOn_e v0 v1 M
theorem ct_X3_waysOn (l : Launch) (g : Gh) (v0 : Int32) (v1 : Int32) (M : Mem) : CtI l g yX3_waysOn cX3_waysOn 2 (some (.int)) 1 [.int v0, .int v1] M (mi_X3_waysOn v0 v1 M) := ctI_of (own := RX3) (L := [(0, .int v0), (1, .int v1)]) (by decide +kernel) rfl (Nat.le_of_ble_eq_true rfl) rfl (fun p e s m args below meth c X hr => pj_X3_waysOn_e X hr v0 v1  M)

def pi_X2_climbOn_12 (b : Nat) (v1 : Int32) (v2 : Int32) (v3 : Int32) (rc12 : Int32 × Int32 × Mem → Option (Int32 × Mem)) (v4 : Int32) (v5 : Int32) (M : Mem) : Option (Int32 × Mem) := if (M b 3) ≤ v5 then (some (v4, M)) else (gd (inb v5 8) <| bd (mi_X3_waysOn v1 (M (b + 3) v5.toNatClampNeg) M) fun r_5 M_4 => if r_5 ≤ 0 then (bI (v5 + 1) fun v5_6 => rc12 (v4, v5_6, M_4)) else (if v3 ≤ r_5 then (bI (v5 + 1) fun v5_7 => rc12 (v4, v5_7, M_4)) else (gd (inb v5 8) <| if (M_4 (b + 6) v5.toNatClampNeg) ≤ v4 then (bI (v5 + 1) fun v5_9 => rc12 (v4, v5_9, M_4)) else (gd (inb v5 8) <| bI (M_4 (b + 6) v5.toNatClampNeg) fun v4_11 => bI (v5 + 1) fun v5_12 => rc12 (v4_11, v5_12, M_4)))))
set_option maxRecDepth 100000 in
set_option maxHeartbeats 4000000 in
theorem pj_X2_climbOn_12 {p : Program} {l : Launch} {e : Env} {R : Room} {s : State} {m : MethodId} {args : Array Value} {below : List Frame} {meth : Method} {c : Code} {g : Gh} (X : Cx p l e R s m args below meth c g cX2_climbOn 7 (0, 0) RX2 2) (hr : meth.sig.returnType = (some (.int))) (b : Nat) (v1 : Int32) (v2 : Int32) (hb : isSh b) (v3 : Int32) (rc12 : Int32 × Int32 × Mem → Option (Int32 × Mem)) (hc12 : ∀ x, J p l e R s m args below meth c g 7 (0, 0) (QfI below args s g) (rc12 x) x.2.2 12 [(0, .ref (gA g b)), (1, .int v1), (2, .int v2), (3, .int v3), (4, .int x.1), (5, .int x.2.1)] []) (v4 : Int32) (v5 : Int32) (M : Mem) : J p l e R s m args below meth c g 7 (0, 0) (QfI below args s g) (pi_X2_climbOn_12 b v1 v2 v3 rc12 v4 v5 M) M 12 [(0, .ref (gA g b)), (1, .int v1), (2, .int v2), (3, .int v3), (4, .int v4), (5, .int v5)] [] := by
  unfold pi_X2_climbOn_12
  refine j_iload (i := 5) X dX2_climbOn_12 rfl ?_
  refine j_aload_n (i := 0) X dX2_climbOn_14 rfl rfl ?_
  refine j_get_sh hb 3 X (by decide) wq_46 rfl dX2_climbOn_15 ?_
  refine j_icmp_ge (tgt := 72) X dX2_climbOn_18 (by decide) ?_ ?_
  · refine j_iload (i := 4) X dX2_climbOn_72 rfl ?_
    exact j_iret X hr dX2_climbOn_74
  · refine j_iload_n (i := 1) X dX2_climbOn_21 rfl rfl ?_
    refine j_aload_n (i := 0) X dX2_climbOn_22 rfl rfl ?_
    refine j_get_sh hb 6 X (by decide) wq_49 rfl dX2_climbOn_23 ?_
    refine j_iload (i := 5) X dX2_climbOn_26 rfl ?_
    refine j_iald X (ia_sh3 hb) dX2_climbOn_28 (fun h_3 => ?_)
    refine k_cNI (As := [.int v1, .int (M (b + 3) v5.toNatClampNeg)]) (rest := []) X (ct_X3_waysOn l g v1 (M (b + 3) v5.toNatClampNeg) M) wl_X2_83 rfl rfl (by decide) (Nat.le_of_ble_eq_true rfl) dX2_climbOn_29 (fun r_5 M_4 => ?_)
    refine j_istore (i := 6) (Lq := [(0, .ref (gA g b)), (1, .int v1), (2, .int v2), (3, .int v3), (4, .int v4), (5, .int v5), (6, .int r_5)]) X dX2_climbOn_32 (by decide) rfl ?_
    refine j_iload (i := 6) X dX2_climbOn_34 rfl ?_
    refine j_if_le (tgt := 66) X dX2_climbOn_36 (by decide) ?_ ?_
    · refine j_iincB (i := 5) (y := v5 + 1) (Lf := fun v5_6 => [(0, .ref (gA g b)), (1, .int v1), (2, .int v2), (3, .int v3), (4, .int v4), (5, .int v5_6), (6, .int r_5)]) X dX2_climbOn_66 rfl rfl (by decide) (fun _ => rfl) (fun v5_6 => ?_)
      refine j_goto (tgt := 12) X dX2_climbOn_69 (by decide) ?_
      refine j_pick [0, 1, 2, 3, 4, 5] (Lq := [(0, .ref (gA g b)), (1, .int v1), (2, .int v2), (3, .int v3), (4, .int v4), (5, .int v5_6)]) rfl ?_
      exact hc12 (v4, v5_6, M_4)
    · refine j_iload (i := 6) X dX2_climbOn_39 rfl ?_
      refine j_iload_n (i := 3) X dX2_climbOn_41 rfl rfl ?_
      refine j_icmp_ge (tgt := 66) X dX2_climbOn_42 (by decide) ?_ ?_
      · refine j_iincB (i := 5) (y := v5 + 1) (Lf := fun v5_7 => [(0, .ref (gA g b)), (1, .int v1), (2, .int v2), (3, .int v3), (4, .int v4), (5, .int v5_7), (6, .int r_5)]) X dX2_climbOn_66 rfl rfl (by decide) (fun _ => rfl) (fun v5_7 => ?_)
        refine j_goto (tgt := 12) X dX2_climbOn_69 (by decide) ?_
        refine j_pick [0, 1, 2, 3, 4, 5] (Lq := [(0, .ref (gA g b)), (1, .int v1), (2, .int v2), (3, .int v3), (4, .int v4), (5, .int v5_7)]) rfl ?_
        exact hc12 (v4, v5_7, M_4)
      · refine j_aload_n (i := 0) X dX2_climbOn_45 rfl rfl ?_
        refine j_get_sh hb 9 X (by decide) wq_58 rfl dX2_climbOn_46 ?_
        refine j_iload (i := 5) X dX2_climbOn_49 rfl ?_
        refine j_iald X (ia_sh6 hb) dX2_climbOn_51 (fun h_8 => ?_)
        refine j_iload (i := 4) X dX2_climbOn_52 rfl ?_
        refine j_icmp_le (tgt := 66) X dX2_climbOn_54 (by decide) ?_ ?_
        · refine j_iincB (i := 5) (y := v5 + 1) (Lf := fun v5_9 => [(0, .ref (gA g b)), (1, .int v1), (2, .int v2), (3, .int v3), (4, .int v4), (5, .int v5_9), (6, .int r_5)]) X dX2_climbOn_66 rfl rfl (by decide) (fun _ => rfl) (fun v5_9 => ?_)
          refine j_goto (tgt := 12) X dX2_climbOn_69 (by decide) ?_
          refine j_pick [0, 1, 2, 3, 4, 5] (Lq := [(0, .ref (gA g b)), (1, .int v1), (2, .int v2), (3, .int v3), (4, .int v4), (5, .int v5_9)]) rfl ?_
          exact hc12 (v4, v5_9, M_4)
        · refine j_aload_n (i := 0) X dX2_climbOn_57 rfl rfl ?_
          refine j_get_sh hb 9 X (by decide) wq_58 rfl dX2_climbOn_58 ?_
          refine j_iload (i := 5) X dX2_climbOn_61 rfl ?_
          refine j_iald X (ia_sh6 hb) dX2_climbOn_63 (fun h_10 => ?_)
          refine j_bI (fun v4_11 => ?_)
          refine j_istore (i := 4) (Lq := [(0, .ref (gA g b)), (1, .int v1), (2, .int v2), (3, .int v3), (4, .int v4_11), (5, .int v5), (6, .int r_5)]) X dX2_climbOn_64 (by decide) rfl ?_
          refine j_iincB (i := 5) (y := v5 + 1) (Lf := fun v5_12 => [(0, .ref (gA g b)), (1, .int v1), (2, .int v2), (3, .int v3), (4, .int v4_11), (5, .int v5_12), (6, .int r_5)]) X dX2_climbOn_66 rfl rfl (by decide) (fun _ => rfl) (fun v5_12 => ?_)
          refine j_goto (tgt := 12) X dX2_climbOn_69 (by decide) ?_
          refine j_pick [0, 1, 2, 3, 4, 5] (Lq := [(0, .ref (gA g b)), (1, .int v1), (2, .int v2), (3, .int v3), (4, .int v4_11), (5, .int v5_12)]) rfl ?_
          exact hc12 (v4_11, v5_12, M_4)
def pi_X2_climbOn_e (b : Nat) (v1 : Int32) (v2 : Int32) (M : Mem) : Option (Int32 × Mem) := bd (mi_X3_waysOn v1 v2 M) fun r_2 M_1 => lp (fun rc12 x => pi_X2_climbOn_12 b v1 v2 r_2 rc12 x.1 x.2.1 x.2.2) FU (0, 0, M_1)
set_option maxRecDepth 100000 in
set_option maxHeartbeats 4000000 in
theorem pj_X2_climbOn_e {p : Program} {l : Launch} {e : Env} {R : Room} {s : State} {m : MethodId} {args : Array Value} {below : List Frame} {meth : Method} {c : Code} {g : Gh} (X : Cx p l e R s m args below meth c g cX2_climbOn 7 (0, 0) RX2 2) (hr : meth.sig.returnType = (some (.int))) (b : Nat) (v1 : Int32) (v2 : Int32) (hb : isSh b) (M : Mem) : J p l e R s m args below meth c g 7 (0, 0) (QfI below args s g) (pi_X2_climbOn_e b v1 v2 M) M 0 [(0, .ref (gA g b)), (1, .int v1), (2, .int v2)] [] := by
  unfold pi_X2_climbOn_e
  refine j_iload_n (i := 1) X dX2_climbOn_0 rfl rfl ?_
  refine j_iload_n (i := 2) X dX2_climbOn_1 rfl rfl ?_
  refine k_cNI (As := [.int v1, .int v2]) (rest := []) X (ct_X3_waysOn l g v1 v2 M) wl_X2_83 rfl rfl (by decide) (Nat.le_of_ble_eq_true rfl) dX2_climbOn_2 (fun r_2 M_1 => ?_)
  refine j_istore_n (i := 3) (Lq := [(0, .ref (gA g b)), (1, .int v1), (2, .int v2), (3, .int r_2)]) X dX2_climbOn_5 rfl (by decide) rfl ?_
  refine j_iconst (v := 0) X dX2_climbOn_6 rfl ?_
  refine j_istore (i := 4) (Lq := [(0, .ref (gA g b)), (1, .int v1), (2, .int v2), (3, .int r_2), (4, .int 0)]) X dX2_climbOn_7 (by decide) rfl ?_
  refine j_iconst (v := 0) X dX2_climbOn_9 rfl ?_
  refine j_istore (i := 5) (Lq := [(0, .ref (gA g b)), (1, .int v1), (2, .int v2), (3, .int r_2), (4, .int 0), (5, .int 0)]) X dX2_climbOn_10 (by decide) rfl ?_
  exact j_lp (Lf := fun x => [(0, .ref (gA g b)), (1, .int v1), (2, .int v2), (3, .int r_2), (4, .int x.1), (5, .int x.2.1)]) (Mf := fun x => x.2.2) (fun rc12 hc12 x => pj_X2_climbOn_12 X hr b v1 v2 hb r_2 rc12 hc12 x.1 x.2.1 x.2.2) FU (0, 0, M_1)
def mi_X2_climbOn (b : Nat) (v1 : Int32) (v2 : Int32) (M : Mem) : Option (Int32 × Mem) := pi_X2_climbOn_e b v1 v2 M
theorem ct_X2_climbOn (l : Launch) (g : Gh) (b : Nat) (v1 : Int32) (v2 : Int32) (hb : isSh b) (M : Mem) : CtI l g yX2_climbOn cX2_climbOn 7 (some (.int)) 2 [.ref (gA g b), .int v1, .int v2] M (mi_X2_climbOn b v1 v2 M) := ctI_of (own := RX2) (L := [(0, .ref (gA g b)), (1, .int v1), (2, .int v2)]) (by decide +kernel) rfl (Nat.le_of_ble_eq_true rfl) rfl (fun p e s m args below meth c X hr => pj_X2_climbOn_e X hr b v1 v2 hb M)

def pi_X2_leastClimb_e (b : Nat) (v1 : Int32) (v2 : Int32) (M : Mem) : Option (Int32 × Mem) := bd (mi_X2_climbOn b v1 v2 M) fun r_2 M_1 => bd (mi_X2_climbOn b v2 v1 M_1) fun r_4 M_3 => some (if r_4 < r_2 then r_4 else r_2, M_3)
set_option maxRecDepth 100000 in
set_option maxHeartbeats 4000000 in
theorem pj_X2_leastClimb_e {p : Program} {l : Launch} {e : Env} {R : Room} {s : State} {m : MethodId} {args : Array Value} {below : List Frame} {meth : Method} {c : Code} {g : Gh} (X : Cx p l e R s m args below meth c g cX2_leastClimb 3 (0, 0) RX2 3) (hr : meth.sig.returnType = (some (.int))) (b : Nat) (v1 : Int32) (v2 : Int32) (hb : isSh b) (M : Mem) : J p l e R s m args below meth c g 3 (0, 0) (QfI below args s g) (pi_X2_leastClimb_e b v1 v2 M) M 0 [(0, .ref (gA g b)), (1, .int v1), (2, .int v2)] [] := by
  unfold pi_X2_leastClimb_e
  refine j_aload_n (i := 0) X dX2_leastClimb_0 rfl rfl ?_
  refine j_iload_n (i := 1) X dX2_leastClimb_1 rfl rfl ?_
  refine j_iload_n (i := 2) X dX2_leastClimb_2 rfl rfl ?_
  refine k_cVI (As := [.int v1, .int v2]) (rest := []) hb.lt (cf_sh hb _) rfl X (ct_X2_climbOn l g b v1 v2 hb M) wl_X2_87 rfl rfl (by decide) (Nat.le_of_ble_eq_true rfl) dX2_leastClimb_3 (fun r_2 M_1 => ?_)
  refine j_aload_n (i := 0) X dX2_leastClimb_6 rfl rfl ?_
  refine j_iload_n (i := 2) X dX2_leastClimb_7 rfl rfl ?_
  refine j_iload_n (i := 1) X dX2_leastClimb_8 rfl rfl ?_
  refine k_cVI (As := [.int v2, .int v1]) (rest := [.int r_2]) hb.lt (cf_sh hb _) rfl X (ct_X2_climbOn l g b v2 v1 hb M_1) wl_X2_87 rfl rfl (by decide) (Nat.le_of_ble_eq_true rfl) dX2_leastClimb_9 (fun r_4 M_3 => ?_)
  refine j_mmin X wm_X2_90 wm_min2 wm_ini wm_min4 (by decide) (Nat.le_of_ble_eq_true rfl) dX2_leastClimb_12 ?_
  exact j_iret X hr dX2_leastClimb_15
def mi_X2_leastClimb (b : Nat) (v1 : Int32) (v2 : Int32) (M : Mem) : Option (Int32 × Mem) := pi_X2_leastClimb_e b v1 v2 M
theorem ct_X2_leastClimb (l : Launch) (g : Gh) (b : Nat) (v1 : Int32) (v2 : Int32) (hb : isSh b) (M : Mem) : CtI l g yX2_leastClimb cX2_leastClimb 3 (some (.int)) 3 [.ref (gA g b), .int v1, .int v2] M (mi_X2_leastClimb b v1 v2 M) := ctI_of (own := RX2) (L := [(0, .ref (gA g b)), (1, .int v1), (2, .int v2)]) (by decide +kernel) rfl (Nat.le_of_ble_eq_true rfl) rfl (fun p e s m args below meth c X hr => pj_X2_leastClimb_e X hr b v1 v2 hb M)
