def pi_X4_stepTold_61 (v1 : Int32) (M : Mem) : Option (Int32 × Mem) := bd (mi_X4_number 0 5 M) fun r_6 M_5 => if v1 = 0 then (some (r_6, M_5)) else (some (-r_6, M_5))
set_option maxRecDepth 100000 in
set_option maxHeartbeats 4000000 in
theorem pj_X4_stepTold_61 {p : Program} {l : Launch} {e : Env} {R : Room} {s : State} {m : MethodId} {args : Array Value} {below : List Frame} {meth : Method} {c : Code} {g : Gh} (X : Cx p l e R s m args below meth c g cX4_stepTold 3 (0, 0) RX4 5) (hr : meth.sig.returnType = (some (.int))) (v1 : Int32) (M : Mem) : J p l e R s m args below meth c g 3 (0, 0) (QfI below args s g) (pi_X4_stepTold_61 v1 M) M 61 [(0, .ref (gA g 49)), (1, .int v1)] [] := by
  unfold pi_X4_stepTold_61
  refine j_aload_n (i := 0) X dX4_stepTold_61 rfl rfl ?_
  refine j_iconst (v := 0) X dX4_stepTold_62 rfl ?_
  refine j_iconst (v := 5) X dX4_stepTold_63 rfl ?_
  refine k_cVI (As := [.int 0, .int 5]) (rest := []) (by decide) (cf_md _) rfl X (ct_X4_number l g 0 5 M) wl_X4_294 rfl rfl (by decide) (Nat.le_of_ble_eq_true rfl) dX4_stepTold_64 (fun r_6 M_5 => ?_)
  refine j_istore_n (i := 2) (Lq := [(0, .ref (gA g 49)), (1, .int v1), (2, .int r_6)]) X dX4_stepTold_67 rfl (by decide) rfl ?_
  refine j_iload_n (i := 1) X dX4_stepTold_68 rfl rfl ?_
  refine j_if_eq (tgt := 77) X dX4_stepTold_69 (by decide) ?_ ?_
  · refine j_iload_n (i := 2) X dX4_stepTold_77 rfl rfl ?_
    exact j_iret X hr dX4_stepTold_78
  · refine j_iload_n (i := 2) X dX4_stepTold_72 rfl rfl ?_
    refine j_ineg X dX4_stepTold_73 ?_
    refine j_goto (tgt := 78) X dX4_stepTold_74 (by decide) ?_
    exact j_iret X hr dX4_stepTold_78
def pi_X4_stepTold_51 (t0 : Int32) (M : Mem) : Option (Int32 × Mem) := if t0 = 0 then (pi_X4_stepTold_61 t0 M) else (bv (mi_X4_must 1 M) fun M_7 => pi_X4_stepTold_61 t0 M_7)
set_option maxRecDepth 100000 in
set_option maxHeartbeats 4000000 in
theorem pj_X4_stepTold_51 {p : Program} {l : Launch} {e : Env} {R : Room} {s : State} {m : MethodId} {args : Array Value} {below : List Frame} {meth : Method} {c : Code} {g : Gh} (X : Cx p l e R s m args below meth c g cX4_stepTold 3 (0, 0) RX4 5) (hr : meth.sig.returnType = (some (.int))) (t0 : Int32) (M : Mem) : J p l e R s m args below meth c g 3 (0, 0) (QfI below args s g) (pi_X4_stepTold_51 t0 M) M 51 [(0, .ref (gA g 49))] [.int t0] := by
  unfold pi_X4_stepTold_51
  refine j_istore_n (i := 1) (Lq := [(0, .ref (gA g 49)), (1, .int t0)]) X dX4_stepTold_51 rfl (by decide) rfl ?_
  refine j_iload_n (i := 1) X dX4_stepTold_52 rfl rfl ?_
  refine j_if_eq (tgt := 61) X dX4_stepTold_53 (by decide) ?_ ?_
  · exact pj_X4_stepTold_61 X hr t0 M
  · refine j_aload_n (i := 0) X dX4_stepTold_56 rfl rfl ?_
    refine j_iconst (v := 1) X dX4_stepTold_57 rfl ?_
    refine k_cVV (As := [.int 1]) (rest := []) (by decide) (cf_md _) rfl X (ct_X4_must l g 1 M) wl_X4_283 rfl rfl (by decide) (Nat.le_of_ble_eq_true rfl) dX4_stepTold_58 (fun M_7 => ?_)
    exact pj_X4_stepTold_61 X hr t0 M_7
def pi_X4_stepTold_50 (M : Mem) : Option (Int32 × Mem) := pi_X4_stepTold_51 0 M
set_option maxRecDepth 100000 in
set_option maxHeartbeats 4000000 in
theorem pj_X4_stepTold_50 {p : Program} {l : Launch} {e : Env} {R : Room} {s : State} {m : MethodId} {args : Array Value} {below : List Frame} {meth : Method} {c : Code} {g : Gh} (X : Cx p l e R s m args below meth c g cX4_stepTold 3 (0, 0) RX4 5) (hr : meth.sig.returnType = (some (.int))) (M : Mem) : J p l e R s m args below meth c g 3 (0, 0) (QfI below args s g) (pi_X4_stepTold_50 M) M 50 [(0, .ref (gA g 49))] [] := by
  unfold pi_X4_stepTold_50
  refine j_iconst (v := 0) X dX4_stepTold_50 rfl ?_
  exact pj_X4_stepTold_51 X hr 0 M
def pi_X4_stepTold_e (M : Mem) : Option (Int32 × Mem) := if (M 49 16) = 0 then (bd (mi_X4_isWord 9 M) fun r_2 M_1 => if r_2 = 0 then (some (1, M_1)) else (bv (mi_X4_must 1 M_1) fun M_3 => if (M_3 49 14) = 3 then (gd (inb (M_3 49 12) 120) <| if (M_3 59 (M_3 49 12).toNatClampNeg) = 45 then (pi_X4_stepTold_51 1 M_3) else (pi_X4_stepTold_50 M_3)) else (pi_X4_stepTold_50 M_3))) else (some (1, M))
set_option maxRecDepth 100000 in
set_option maxHeartbeats 4000000 in
theorem pj_X4_stepTold_e {p : Program} {l : Launch} {e : Env} {R : Room} {s : State} {m : MethodId} {args : Array Value} {below : List Frame} {meth : Method} {c : Code} {g : Gh} (X : Cx p l e R s m args below meth c g cX4_stepTold 3 (0, 0) RX4 5) (hr : meth.sig.returnType = (some (.int))) (M : Mem) : J p l e R s m args below meth c g 3 (0, 0) (QfI below args s g) (pi_X4_stepTold_e M) M 0 [(0, .ref (gA g 49))] [] := by
  unfold pi_X4_stepTold_e
  refine j_aload_n (i := 0) X dX4_stepTold_0 rfl rfl ?_
  refine j_get_md 16 X (by decide) wq_559 rfl dX4_stepTold_1 ?_
  refine j_if_ne (tgt := 17) X dX4_stepTold_4 (by decide) ?_ ?_
  · refine j_aload_n (i := 0) X dX4_stepTold_7 rfl rfl ?_
    refine j_ldcwS (i := 9) (tx := "step") X (by decide +kernel) dX4_stepTold_8 ?_
    refine k_cVI (As := [.ref (gS g 9)]) (rest := []) (by decide) (cf_md _) rfl X (ct_X4_isWord l g 9 (by decide) M) wl_X4_290 rfl rfl (by decide) (Nat.le_of_ble_eq_true rfl) dX4_stepTold_11 (fun r_2 M_1 => ?_)
    refine j_if_ne (tgt := 19) X dX4_stepTold_14 (by decide) ?_ ?_
    · refine j_iconst (v := 1) X dX4_stepTold_17 rfl ?_
      exact j_iret X hr dX4_stepTold_18
    · refine j_aload_n (i := 0) X dX4_stepTold_19 rfl rfl ?_
      refine j_iconst (v := 1) X dX4_stepTold_20 rfl ?_
      refine k_cVV (As := [.int 1]) (rest := []) (by decide) (cf_md _) rfl X (ct_X4_must l g 1 M_1) wl_X4_283 rfl rfl (by decide) (Nat.le_of_ble_eq_true rfl) dX4_stepTold_21 (fun M_3 => ?_)
      refine j_aload_n (i := 0) X dX4_stepTold_24 rfl rfl ?_
      refine j_get_md 14 X (by decide) wq_556 rfl dX4_stepTold_25 ?_
      refine j_iconst (v := 3) X dX4_stepTold_28 rfl ?_
      refine j_icmp_ne (tgt := 50) X dX4_stepTold_29 (by decide) ?_ ?_
      · refine j_aload_n (i := 0) X dX4_stepTold_32 rfl rfl ?_
        refine j_get_md 10 X (by decide) wq_548 rfl dX4_stepTold_33 ?_
        refine j_aload_n (i := 0) X dX4_stepTold_36 rfl rfl ?_
        refine j_get_md 12 X (by decide) wq_550 rfl dX4_stepTold_37 ?_
        refine j_iald X ia_59 dX4_stepTold_40 (fun h_4 => ?_)
        refine j_bipush (v := 45) X dX4_stepTold_41 rfl ?_
        refine j_icmp_ne (tgt := 50) X dX4_stepTold_43 (by decide) ?_ ?_
        · refine j_iconst (v := 1) X dX4_stepTold_46 rfl ?_
          refine j_goto (tgt := 51) X dX4_stepTold_47 (by decide) ?_
          exact pj_X4_stepTold_51 X hr 1 M_3
        · exact pj_X4_stepTold_50 X hr M_3
      · exact pj_X4_stepTold_50 X hr M_3
  · refine j_iconst (v := 1) X dX4_stepTold_17 rfl ?_
    exact j_iret X hr dX4_stepTold_18
def mi_X4_stepTold (M : Mem) : Option (Int32 × Mem) := pi_X4_stepTold_e  M
theorem ct_X4_stepTold (l : Launch) (g : Gh) (M : Mem) : CtI l g yX4_stepTold cX4_stepTold 3 (some (.int)) 5 [.ref (gA g 49)] M (mi_X4_stepTold  M) := ctI_of (own := RX4) (L := [(0, .ref (gA g 49))]) (by decide +kernel) rfl (Nat.le_of_ble_eq_true rfl) rfl (fun p e s m args below meth c X hr => pj_X4_stepTold_e X hr   M)

def pi_X4_readItem_24 (v1 : Int32) (t0 : Int32) (M : Mem) : Option (Mem) := bv (mi_X4_must t0 M) fun M_9 => bM (up M_9 49 20 ((M_9 49 20) + 1)) fun M_10 => bd (mi_X4_afterWord 8 11 0 M_10) fun r_12 M_11 => bd (mi_X4_stepTold M_11) fun r_14 M_13 => bd (mi_X4_afterWord 10 3 0 M_13) fun r_16 M_15 => bd (mi_X4_afterWord 11 99 50 M_15) fun r_18 M_17 => bv (mi_X4_addItem v1 r_12 r_14 r_16 r_18 M_17) fun M_19 => some M_19
set_option maxRecDepth 100000 in
set_option maxHeartbeats 4000000 in
theorem pj_X4_readItem_24 {p : Program} {l : Launch} {e : Env} {R : Room} {s : State} {m : MethodId} {args : Array Value} {below : List Frame} {meth : Method} {c : Code} {g : Gh} (X : Cx p l e R s m args below meth c g cX4_readItem 5 (0, 0) RX4 6) (hr : meth.sig.returnType = none) (v1 : Int32) (t0 : Int32) (M : Mem) : J p l e R s m args below meth c g 5 (0, 0) (QfV below args s g) (pi_X4_readItem_24 v1 t0 M) M 24 [(0, .ref (gA g 49)), (1, .int v1)] [.int t0, .ref (gA g 49)] := by
  unfold pi_X4_readItem_24
  refine k_cVV (As := [.int t0]) (rest := []) (by decide) (cf_md _) rfl X (ct_X4_must l g t0 M) wl_X4_283 rfl rfl (by decide) (Nat.le_of_ble_eq_true rfl) dX4_readItem_24 (fun M_9 => ?_)
  refine j_aload_n (i := 0) X dX4_readItem_27 rfl rfl ?_
  refine j_dup X dX4_readItem_28 rfl ?_
  refine j_get_md 20 X (by decide) wq_587 rfl dX4_readItem_29 ?_
  refine j_iconst (v := 1) X dX4_readItem_32 rfl ?_
  refine j_iadd X dX4_readItem_33 ?_
  refine j_put_md (ty := .int) 20 X (by decide) wq_587 (fun _ => rfl) rfl (by decide +kernel) rfl rfl dX4_readItem_34 ?_
  refine j_bM (fun M_10 => ?_)
  refine j_aload_n (i := 0) X dX4_readItem_37 rfl rfl ?_
  refine j_ldcwS (i := 8) (tx := "at") X (by decide +kernel) dX4_readItem_38 ?_
  refine j_bipush (v := 11) X dX4_readItem_41 rfl ?_
  refine j_iconst (v := 0) X dX4_readItem_43 rfl ?_
  refine k_cVI (As := [.ref (gS g 8), .int 11, .int 0]) (rest := []) (by decide) (cf_md _) rfl X (ct_X4_afterWord l g 8 11 0 (by decide) M_10) wl_X4_306 rfl rfl (by decide) (Nat.le_of_ble_eq_true rfl) dX4_readItem_44 (fun r_12 M_11 => ?_)
  refine j_istore_n (i := 2) (Lq := [(0, .ref (gA g 49)), (1, .int v1), (2, .int r_12)]) X dX4_readItem_47 rfl (by decide) rfl ?_
  refine j_aload_n (i := 0) X dX4_readItem_48 rfl rfl ?_
  refine k_cVI (As := []) (rest := []) (by decide) (cf_md _) rfl X (ct_X4_stepTold l g M_11) wl_X4_310 rfl rfl (by decide) (Nat.le_of_ble_eq_true rfl) dX4_readItem_49 (fun r_14 M_13 => ?_)
  refine j_istore_n (i := 3) (Lq := [(0, .ref (gA g 49)), (1, .int v1), (2, .int r_12), (3, .int r_14)]) X dX4_readItem_52 rfl (by decide) rfl ?_
  refine j_aload_n (i := 0) X dX4_readItem_53 rfl rfl ?_
  refine j_ldcwS (i := 10) (tx := "turn") X (by decide +kernel) dX4_readItem_54 ?_
  refine j_iconst (v := 3) X dX4_readItem_57 rfl ?_
  refine j_iconst (v := 0) X dX4_readItem_58 rfl ?_
  refine k_cVI (As := [.ref (gS g 10), .int 3, .int 0]) (rest := []) (by decide) (cf_md _) rfl X (ct_X4_afterWord l g 10 3 0 (by decide) M_13) wl_X4_306 rfl rfl (by decide) (Nat.le_of_ble_eq_true rfl) dX4_readItem_59 (fun r_16 M_15 => ?_)
  refine j_istore (i := 4) (Lq := [(0, .ref (gA g 49)), (1, .int v1), (2, .int r_12), (3, .int r_14), (4, .int r_16)]) X dX4_readItem_62 (by decide) rfl ?_
  refine j_aload_n (i := 0) X dX4_readItem_64 rfl rfl ?_
  refine j_iload_n (i := 1) X dX4_readItem_65 rfl rfl ?_
  refine j_iload_n (i := 2) X dX4_readItem_66 rfl rfl ?_
  refine j_iload_n (i := 3) X dX4_readItem_67 rfl rfl ?_
  refine j_iload (i := 4) X dX4_readItem_68 rfl ?_
  refine j_aload_n (i := 0) X dX4_readItem_70 rfl rfl ?_
  refine j_ldcwS (i := 11) (tx := "high") X (by decide +kernel) dX4_readItem_71 ?_
  refine j_bipush (v := 99) X dX4_readItem_74 rfl ?_
  refine j_bipush (v := 50) X dX4_readItem_76 rfl ?_
  refine k_cVI (As := [.ref (gS g 11), .int 99, .int 50]) (rest := [.int r_16, .int r_14, .int r_12, .int v1, .ref (gA g 49)]) (by decide) (cf_md _) rfl X (ct_X4_afterWord l g 11 99 50 (by decide) M_15) wl_X4_306 rfl rfl (by decide) (Nat.le_of_ble_eq_true rfl) dX4_readItem_78 (fun r_18 M_17 => ?_)
  refine k_cVV (As := [.int v1, .int r_12, .int r_14, .int r_16, .int r_18]) (rest := []) (by decide) (cf_md _) rfl X (ct_X4_addItem l g v1 r_12 r_14 r_16 r_18 M_17) wl_X4_317 rfl rfl (by decide) (Nat.le_of_ble_eq_true rfl) dX4_readItem_81 (fun M_19 => ?_)
  refine j_goto (tgt := 114) X dX4_readItem_84 (by decide) ?_
  exact j_vret X hr dX4_readItem_114
def pi_X4_readItem_e (M : Mem) : Option (Mem) := bd (mi_X4_kindTold M) fun r_2 M_1 => if r_2 < 0 then (bd (mi_X4_isWord 7 M_1) fun r_4 M_3 => bv (mi_X4_must r_4 M_3) fun M_5 => bd (mi_X4_number 0 9 M_5) fun r_7 M_6 => bv (mi_X4_addItem 10 r_7 0 0 0 M_6) fun M_8 => some M_8) else (if 8 ≤ (M_1 49 20) then (pi_X4_readItem_24 r_2 0 M_1) else (pi_X4_readItem_24 r_2 1 M_1))
set_option maxRecDepth 100000 in
set_option maxHeartbeats 4000000 in
theorem pj_X4_readItem_e {p : Program} {l : Launch} {e : Env} {R : Room} {s : State} {m : MethodId} {args : Array Value} {below : List Frame} {meth : Method} {c : Code} {g : Gh} (X : Cx p l e R s m args below meth c g cX4_readItem 5 (0, 0) RX4 6) (hr : meth.sig.returnType = none) (M : Mem) : J p l e R s m args below meth c g 5 (0, 0) (QfV below args s g) (pi_X4_readItem_e M) M 0 [(0, .ref (gA g 49))] [] := by
  unfold pi_X4_readItem_e
  refine j_aload_n (i := 0) X dX4_readItem_0 rfl rfl ?_
  refine k_cVI (As := []) (rest := []) (by decide) (cf_md _) rfl X (ct_X4_kindTold l g M) wl_X4_299 rfl rfl (by decide) (Nat.le_of_ble_eq_true rfl) dX4_readItem_1 (fun r_2 M_1 => ?_)
  refine j_istore_n (i := 1) (Lq := [(0, .ref (gA g 49)), (1, .int r_2)]) X dX4_readItem_4 rfl (by decide) rfl ?_
  refine j_iload_n (i := 1) X dX4_readItem_5 rfl rfl ?_
  refine j_if_lt (tgt := 87) X dX4_readItem_6 (by decide) ?_ ?_
  · refine j_aload_n (i := 0) X dX4_readItem_87 rfl rfl ?_
    refine j_aload_n (i := 0) X dX4_readItem_88 rfl rfl ?_
    refine j_ldcwS (i := 7) (tx := "rain") X (by decide +kernel) dX4_readItem_89 ?_
    refine k_cVI (As := [.ref (gS g 7)]) (rest := [.ref (gA g 49)]) (by decide) (cf_md _) rfl X (ct_X4_isWord l g 7 (by decide) M_1) wl_X4_290 rfl rfl (by decide) (Nat.le_of_ble_eq_true rfl) dX4_readItem_92 (fun r_4 M_3 => ?_)
    refine k_cVV (As := [.int r_4]) (rest := []) (by decide) (cf_md _) rfl X (ct_X4_must l g r_4 M_3) wl_X4_283 rfl rfl (by decide) (Nat.le_of_ble_eq_true rfl) dX4_readItem_95 (fun M_5 => ?_)
    refine j_aload_n (i := 0) X dX4_readItem_98 rfl rfl ?_
    refine j_bipush (v := 10) X dX4_readItem_99 rfl ?_
    refine j_aload_n (i := 0) X dX4_readItem_101 rfl rfl ?_
    refine j_iconst (v := 0) X dX4_readItem_102 rfl ?_
    refine j_bipush (v := 9) X dX4_readItem_103 rfl ?_
    refine k_cVI (As := [.int 0, .int 9]) (rest := [.int 10, .ref (gA g 49)]) (by decide) (cf_md _) rfl X (ct_X4_number l g 0 9 M_5) wl_X4_294 rfl rfl (by decide) (Nat.le_of_ble_eq_true rfl) dX4_readItem_105 (fun r_7 M_6 => ?_)
    refine j_iconst (v := 0) X dX4_readItem_108 rfl ?_
    refine j_iconst (v := 0) X dX4_readItem_109 rfl ?_
    refine j_iconst (v := 0) X dX4_readItem_110 rfl ?_
    refine k_cVV (As := [.int 10, .int r_7, .int 0, .int 0, .int 0]) (rest := []) (by decide) (cf_md _) rfl X (ct_X4_addItem l g 10 r_7 0 0 0 M_6) wl_X4_317 rfl rfl (by decide) (Nat.le_of_ble_eq_true rfl) dX4_readItem_111 (fun M_8 => ?_)
    exact j_vret X hr dX4_readItem_114
  · refine j_aload_n (i := 0) X dX4_readItem_9 rfl rfl ?_
    refine j_aload_n (i := 0) X dX4_readItem_10 rfl rfl ?_
    refine j_get_md 20 X (by decide) wq_587 rfl dX4_readItem_11 ?_
    refine j_bipush (v := 8) X dX4_readItem_14 rfl ?_
    refine j_icmp_ge (tgt := 23) X dX4_readItem_16 (by decide) ?_ ?_
    · refine j_iconst (v := 0) X dX4_readItem_23 rfl ?_
      exact pj_X4_readItem_24 X hr r_2 0 M_1
    · refine j_iconst (v := 1) X dX4_readItem_19 rfl ?_
      refine j_goto (tgt := 24) X dX4_readItem_20 (by decide) ?_
      exact pj_X4_readItem_24 X hr r_2 1 M_1
def mi_X4_readItem (M : Mem) : Option (Mem) := pi_X4_readItem_e  M
theorem ct_X4_readItem (l : Launch) (g : Gh) (M : Mem) : CtV l g yX4_readItem cX4_readItem 5 none 6 [.ref (gA g 49)] M (mi_X4_readItem  M) := ctV_of (own := RX4) (L := [(0, .ref (gA g 49))]) (by decide +kernel) rfl (Nat.le_of_ble_eq_true rfl) rfl (fun p e s m args below meth c X hr => pj_X4_readItem_e X hr   M)

def pi_X4_isToldSo_e (v1 : Int32) (M : Mem) : Option (Int32 × Mem) := gd (inb (v1 + 1) 600) <| bI (M 61 (v1 + 1).toNatClampNeg) fun v2_2 => gd (inb v1 600) <| if (M 61 v1.toNatClampNeg) = 10 then (bd (mi_X4_become 3 v2_2 M) fun r_5 M_4 => some (r_5, M_4)) else (gd (inb v1 600) <| gd (inb (v1 + 2) 600) <| gd (inb (v1 + 3) 600) <| gd (inb (v1 + 4) 600) <| bd (mi_X4_comes (M 61 v1.toNatClampNeg) v2_2 (M 61 (v1 + 2).toNatClampNeg) (M 61 (v1 + 3).toNatClampNeg) (M 61 (v1 + 4).toNatClampNeg) M) fun r_11 M_10 => some (r_11, M_10))
set_option maxRecDepth 100000 in
set_option maxHeartbeats 4000000 in
theorem pj_X4_isToldSo_e {p : Program} {l : Launch} {e : Env} {R : Room} {s : State} {m : MethodId} {args : Array Value} {below : List Frame} {meth : Method} {c : Code} {g : Gh} (X : Cx p l e R s m args below meth c g cX4_isToldSo 3 (0, 0) RX4 2) (hr : meth.sig.returnType = (some (.int))) (v1 : Int32) (M : Mem) : J p l e R s m args below meth c g 3 (0, 0) (QfI below args s g) (pi_X4_isToldSo_e v1 M) M 0 [(0, .ref (gA g 49)), (1, .int v1)] [] := by
  unfold pi_X4_isToldSo_e
  refine j_aload_n (i := 0) X dX4_isToldSo_0 rfl rfl ?_
  refine j_get_md 18 X (by decide) wq_569 rfl dX4_isToldSo_1 ?_
  refine j_iload_n (i := 1) X dX4_isToldSo_4 rfl rfl ?_
  refine j_iconst (v := 1) X dX4_isToldSo_5 rfl ?_
  refine j_iadd X dX4_isToldSo_6 ?_
  refine j_iald X ia_61 dX4_isToldSo_7 (fun h_1 => ?_)
  refine j_bI (fun v2_2 => ?_)
  refine j_istore_n (i := 2) (Lq := [(0, .ref (gA g 49)), (1, .int v1), (2, .int v2_2)]) X dX4_isToldSo_8 rfl (by decide) rfl ?_
  refine j_aload_n (i := 0) X dX4_isToldSo_9 rfl rfl ?_
  refine j_get_md 18 X (by decide) wq_569 rfl dX4_isToldSo_10 ?_
  refine j_iload_n (i := 1) X dX4_isToldSo_13 rfl rfl ?_
  refine j_iald X ia_61 dX4_isToldSo_14 (fun h_3 => ?_)
  refine j_bipush (v := 10) X dX4_isToldSo_15 rfl ?_
  refine j_icmp_ne (tgt := 29) X dX4_isToldSo_17 (by decide) ?_ ?_
  · refine j_aload_n (i := 0) X dX4_isToldSo_20 rfl rfl ?_
    refine j_iconst (v := 3) X dX4_isToldSo_21 rfl ?_
    refine j_iload_n (i := 2) X dX4_isToldSo_22 rfl rfl ?_
    refine k_cVI (As := [.int 3, .int v2_2]) (rest := []) (by decide) (cf_md _) rfl X (ct_X4_become l g 3 v2_2 M) wl_X4_89 rfl rfl (by decide) (Nat.le_of_ble_eq_true rfl) dX4_isToldSo_23 (fun r_5 M_4 => ?_)
    refine j_goto (tgt := 64) X dX4_isToldSo_26 (by decide) ?_
    exact j_iret X hr dX4_isToldSo_64
  · refine j_aload_n (i := 0) X dX4_isToldSo_29 rfl rfl ?_
    refine j_aload_n (i := 0) X dX4_isToldSo_30 rfl rfl ?_
    refine j_get_md 18 X (by decide) wq_569 rfl dX4_isToldSo_31 ?_
    refine j_iload_n (i := 1) X dX4_isToldSo_34 rfl rfl ?_
    refine j_iald X ia_61 dX4_isToldSo_35 (fun h_6 => ?_)
    refine j_iload_n (i := 2) X dX4_isToldSo_36 rfl rfl ?_
    refine j_aload_n (i := 0) X dX4_isToldSo_37 rfl rfl ?_
    refine j_get_md 18 X (by decide) wq_569 rfl dX4_isToldSo_38 ?_
    refine j_iload_n (i := 1) X dX4_isToldSo_41 rfl rfl ?_
    refine j_iconst (v := 2) X dX4_isToldSo_42 rfl ?_
    refine j_iadd X dX4_isToldSo_43 ?_
    refine j_iald X ia_61 dX4_isToldSo_44 (fun h_7 => ?_)
    refine j_aload_n (i := 0) X dX4_isToldSo_45 rfl rfl ?_
    refine j_get_md 18 X (by decide) wq_569 rfl dX4_isToldSo_46 ?_
    refine j_iload_n (i := 1) X dX4_isToldSo_49 rfl rfl ?_
    refine j_iconst (v := 3) X dX4_isToldSo_50 rfl ?_
    refine j_iadd X dX4_isToldSo_51 ?_
    refine j_iald X ia_61 dX4_isToldSo_52 (fun h_8 => ?_)
    refine j_aload_n (i := 0) X dX4_isToldSo_53 rfl rfl ?_
    refine j_get_md 18 X (by decide) wq_569 rfl dX4_isToldSo_54 ?_
    refine j_iload_n (i := 1) X dX4_isToldSo_57 rfl rfl ?_
    refine j_iconst (v := 4) X dX4_isToldSo_58 rfl ?_
    refine j_iadd X dX4_isToldSo_59 ?_
    refine j_iald X ia_61 dX4_isToldSo_60 (fun h_9 => ?_)
    refine k_cVI (As := [.int (M 61 v1.toNatClampNeg), .int v2_2, .int (M 61 (v1 + 2).toNatClampNeg), .int (M 61 (v1 + 3).toNatClampNeg), .int (M 61 (v1 + 4).toNatClampNeg)]) (rest := []) (by decide) (cf_md _) rfl X (ct_X4_comes l g (M 61 v1.toNatClampNeg) v2_2 (M 61 (v1 + 2).toNatClampNeg) (M 61 (v1 + 3).toNatClampNeg) (M 61 (v1 + 4).toNatClampNeg) M) wl_X4_104 rfl rfl (by decide) (Nat.le_of_ble_eq_true rfl) dX4_isToldSo_61 (fun r_11 M_10 => ?_)
    exact j_iret X hr dX4_isToldSo_64
def mi_X4_isToldSo (v1 : Int32) (M : Mem) : Option (Int32 × Mem) := pi_X4_isToldSo_e v1 M
theorem ct_X4_isToldSo (l : Launch) (g : Gh) (v1 : Int32) (M : Mem) : CtI l g yX4_isToldSo cX4_isToldSo 3 (some (.int)) 2 [.ref (gA g 49), .int v1] M (mi_X4_isToldSo v1 M) := ctI_of (own := RX4) (L := [(0, .ref (gA g 49)), (1, .int v1)]) (by decide +kernel) rfl (Nat.le_of_ble_eq_true rfl) rfl (fun p e s m args below meth c X hr => pj_X4_isToldSo_e X hr v1  M)

def pi_X4_text_113 (rc113 : Int32 × Int32 × Mem → Option (Int32 × Mem)) (v1 : Int32) (v2 : Int32) (M : Mem) : Option (Int32 × Mem) := if (M 49 19) ≤ v2 then (some (v1, M)) else (bd (mi_X4_isToldSo (5 * v2) M) fun r_15 M_14 => if 0 ≤ r_15 then (bI (v1 + 1) fun v1_16 => bI (v2 + 1) fun v2_17 => rc113 (v1_16, v2_17, M_14)) else (bI (v1 + 0) fun v1_18 => bI (v2 + 1) fun v2_19 => rc113 (v1_18, v2_19, M_14)))
set_option maxRecDepth 100000 in
set_option maxHeartbeats 4000000 in
theorem pj_X4_text_113 {p : Program} {l : Launch} {e : Env} {R : Room} {s : State} {m : MethodId} {args : Array Value} {below : List Frame} {meth : Method} {c : Code} {g : Gh} (X : Cx p l e R s m args below meth c g cX4_text 3 (0, 0) RX4 7) (hr : meth.sig.returnType = (some (.int))) (rc113 : Int32 × Int32 × Mem → Option (Int32 × Mem)) (hc113 : ∀ x, J p l e R s m args below meth c g 3 (0, 0) (QfI below args s g) (rc113 x) x.2.2 113 [(0, .ref (gA g 49)), (1, .int x.1), (2, .int x.2.1)] []) (v1 : Int32) (v2 : Int32) (M : Mem) : J p l e R s m args below meth c g 3 (0, 0) (QfI below args s g) (pi_X4_text_113 rc113 v1 v2 M) M 113 [(0, .ref (gA g 49)), (1, .int v1), (2, .int v2)] [] := by
  unfold pi_X4_text_113
  refine j_iload_n (i := 2) X dX4_text_113 rfl rfl ?_
  refine j_aload_n (i := 0) X dX4_text_114 rfl rfl ?_
  refine j_get_md 19 X (by decide) wq_568 rfl dX4_text_115 ?_
  refine j_icmp_ge (tgt := 145) X dX4_text_118 (by decide) ?_ ?_
  · refine j_iload_n (i := 1) X dX4_text_145 rfl rfl ?_
    exact j_iret X hr dX4_text_146
  · refine j_iload_n (i := 1) X dX4_text_121 rfl rfl ?_
    refine j_aload_n (i := 0) X dX4_text_122 rfl rfl ?_
    refine j_iconst (v := 5) X dX4_text_123 rfl ?_
    refine j_iload_n (i := 2) X dX4_text_124 rfl rfl ?_
    refine j_imul X dX4_text_125 ?_
    refine k_cVI (As := [.int (5 * v2)]) (rest := [.int v1]) (by decide) (cf_md _) rfl X (ct_X4_isToldSo l g (5 * v2) M) wl_X4_326 rfl rfl (by decide) (Nat.le_of_ble_eq_true rfl) dX4_text_126 (fun r_15 M_14 => ?_)
    refine j_if_ge (tgt := 136) X dX4_text_129 (by decide) ?_ ?_
    · refine j_iconst (v := 1) X dX4_text_136 rfl ?_
      refine j_iadd X dX4_text_137 ?_
      refine j_bI (fun v1_16 => ?_)
      refine j_istore_n (i := 1) (Lq := [(0, .ref (gA g 49)), (1, .int v1_16), (2, .int v2)]) X dX4_text_138 rfl (by decide) rfl ?_
      refine j_iincB (i := 2) (y := v2 + 1) (Lf := fun v2_17 => [(0, .ref (gA g 49)), (1, .int v1_16), (2, .int v2_17)]) X dX4_text_139 rfl rfl (by decide) (fun _ => rfl) (fun v2_17 => ?_)
      refine j_goto (tgt := 113) X dX4_text_142 (by decide) ?_
      exact hc113 (v1_16, v2_17, M_14)
    · refine j_iconst (v := 0) X dX4_text_132 rfl ?_
      refine j_goto (tgt := 137) X dX4_text_133 (by decide) ?_
      refine j_iadd X dX4_text_137 ?_
      refine j_bI (fun v1_18 => ?_)
      refine j_istore_n (i := 1) (Lq := [(0, .ref (gA g 49)), (1, .int v1_18), (2, .int v2)]) X dX4_text_138 rfl (by decide) rfl ?_
      refine j_iincB (i := 2) (y := v2 + 1) (Lf := fun v2_19 => [(0, .ref (gA g 49)), (1, .int v1_18), (2, .int v2_19)]) X dX4_text_139 rfl rfl (by decide) (fun _ => rfl) (fun v2_19 => ?_)
      refine j_goto (tgt := 113) X dX4_text_142 (by decide) ?_
      exact hc113 (v1_18, v2_19, M_14)
def pi_X4_text_87 (t0 : Int32) (M : Mem) : Option (Int32 × Mem) := bv (mi_X4_must t0 M) fun M_12 => bM (up M_12 49 11 0) fun M_13 => if (M_13 49 16) = 0 then (lp (fun rc113 x => pi_X4_text_113 rc113 x.1 x.2.1 x.2.2) FU (0, 0, M_13)) else (some ((-1) - (M_13 49 12), M_13))
set_option maxRecDepth 100000 in
set_option maxHeartbeats 4000000 in
theorem pj_X4_text_87 {p : Program} {l : Launch} {e : Env} {R : Room} {s : State} {m : MethodId} {args : Array Value} {below : List Frame} {meth : Method} {c : Code} {g : Gh} (X : Cx p l e R s m args below meth c g cX4_text 3 (0, 0) RX4 7) (hr : meth.sig.returnType = (some (.int))) (t0 : Int32) (M : Mem) : J p l e R s m args below meth c g 3 (0, 0) (QfI below args s g) (pi_X4_text_87 t0 M) M 87 [(0, .ref (gA g 49))] [.int t0, .ref (gA g 49)] := by
  unfold pi_X4_text_87
  refine k_cVV (As := [.int t0]) (rest := []) (by decide) (cf_md _) rfl X (ct_X4_must l g t0 M) wl_X4_283 rfl rfl (by decide) (Nat.le_of_ble_eq_true rfl) dX4_text_87 (fun M_12 => ?_)
  refine j_aload_n (i := 0) X dX4_text_90 rfl rfl ?_
  refine j_iconst (v := 0) X dX4_text_91 rfl ?_
  refine j_put_md (ty := .int) 11 X (by decide) wq_547 (fun _ => rfl) rfl (by decide +kernel) rfl rfl dX4_text_92 ?_
  refine j_bM (fun M_13 => ?_)
  refine j_aload_n (i := 0) X dX4_text_95 rfl rfl ?_
  refine j_get_md 16 X (by decide) wq_559 rfl dX4_text_96 ?_
  refine j_if_eq (tgt := 109) X dX4_text_99 (by decide) ?_ ?_
  · refine j_iconst (v := 0) X dX4_text_109 rfl ?_
    refine j_istore_n (i := 1) (Lq := [(0, .ref (gA g 49)), (1, .int 0)]) X dX4_text_110 rfl (by decide) rfl ?_
    refine j_iconst (v := 0) X dX4_text_111 rfl ?_
    refine j_istore_n (i := 2) (Lq := [(0, .ref (gA g 49)), (1, .int 0), (2, .int 0)]) X dX4_text_112 rfl (by decide) rfl ?_
    exact j_lp (Lf := fun x => [(0, .ref (gA g 49)), (1, .int x.1), (2, .int x.2.1)]) (Mf := fun x => x.2.2) (fun rc113 hc113 x => pj_X4_text_113 X hr rc113 hc113 x.1 x.2.1 x.2.2) FU (0, 0, M_13)
  · refine j_iconst (v := (-1)) X dX4_text_102 rfl ?_
    refine j_aload_n (i := 0) X dX4_text_103 rfl rfl ?_
    refine j_get_md 12 X (by decide) wq_550 rfl dX4_text_104 ?_
    refine j_isub X dX4_text_107 ?_
    exact j_iret X hr dX4_text_108
def pi_X4_text_74 (M : Mem) : Option (Int32 × Mem) := if (M 49 14) = 0 then (pi_X4_text_87 1 M) else (pi_X4_text_87 0 M)
set_option maxRecDepth 100000 in
set_option maxHeartbeats 4000000 in
theorem pj_X4_text_74 {p : Program} {l : Launch} {e : Env} {R : Room} {s : State} {m : MethodId} {args : Array Value} {below : List Frame} {meth : Method} {c : Code} {g : Gh} (X : Cx p l e R s m args below meth c g cX4_text 3 (0, 0) RX4 7) (hr : meth.sig.returnType = (some (.int))) (M : Mem) : J p l e R s m args below meth c g 3 (0, 0) (QfI below args s g) (pi_X4_text_74 M) M 74 [(0, .ref (gA g 49))] [] := by
  unfold pi_X4_text_74
  refine j_aload_n (i := 0) X dX4_text_74 rfl rfl ?_
  refine j_aload_n (i := 0) X dX4_text_75 rfl rfl ?_
  refine j_get_md 14 X (by decide) wq_556 rfl dX4_text_76 ?_
  refine j_if_ne (tgt := 86) X dX4_text_79 (by decide) ?_ ?_
  · refine j_iconst (v := 1) X dX4_text_82 rfl ?_
    refine j_goto (tgt := 87) X dX4_text_83 (by decide) ?_
    exact pj_X4_text_87 X hr 1 M
  · refine j_iconst (v := 0) X dX4_text_86 rfl ?_
    exact pj_X4_text_87 X hr 0 M
def pi_X4_text_33 (rc33 : Mem → Option (Int32 × Mem)) (M : Mem) : Option (Int32 × Mem) := if (M 49 16) = 0 then (if (M 49 14) = 3 then (gd (inb (M 49 12) 120) <| if (M 59 (M 49 12).toNatClampNeg) = 59 then (bv (mi_X4_must 1 M) fun M_10 => bv (mi_X4_readItem M_10) fun M_11 => rc33 M_11) else (pi_X4_text_74 M)) else (pi_X4_text_74 M)) else (pi_X4_text_74 M)
set_option maxRecDepth 100000 in
set_option maxHeartbeats 4000000 in
theorem pj_X4_text_33 {p : Program} {l : Launch} {e : Env} {R : Room} {s : State} {m : MethodId} {args : Array Value} {below : List Frame} {meth : Method} {c : Code} {g : Gh} (X : Cx p l e R s m args below meth c g cX4_text 3 (0, 0) RX4 7) (hr : meth.sig.returnType = (some (.int))) (rc33 : Mem → Option (Int32 × Mem)) (hc33 : ∀ x, J p l e R s m args below meth c g 3 (0, 0) (QfI below args s g) (rc33 x) x 33 [(0, .ref (gA g 49))] []) (M : Mem) : J p l e R s m args below meth c g 3 (0, 0) (QfI below args s g) (pi_X4_text_33 rc33 M) M 33 [(0, .ref (gA g 49))] [] := by
  unfold pi_X4_text_33
  refine j_aload_n (i := 0) X dX4_text_33 rfl rfl ?_
  refine j_get_md 16 X (by decide) wq_559 rfl dX4_text_34 ?_
  refine j_if_ne (tgt := 74) X dX4_text_37 (by decide) ?_ ?_
  · refine j_aload_n (i := 0) X dX4_text_40 rfl rfl ?_
    refine j_get_md 14 X (by decide) wq_556 rfl dX4_text_41 ?_
    refine j_iconst (v := 3) X dX4_text_44 rfl ?_
    refine j_icmp_ne (tgt := 74) X dX4_text_45 (by decide) ?_ ?_
    · refine j_aload_n (i := 0) X dX4_text_48 rfl rfl ?_
      refine j_get_md 10 X (by decide) wq_548 rfl dX4_text_49 ?_
      refine j_aload_n (i := 0) X dX4_text_52 rfl rfl ?_
      refine j_get_md 12 X (by decide) wq_550 rfl dX4_text_53 ?_
      refine j_iald X ia_59 dX4_text_56 (fun h_9 => ?_)
      refine j_bipush (v := 59) X dX4_text_57 rfl ?_
      refine j_icmp_ne (tgt := 74) X dX4_text_59 (by decide) ?_ ?_
      · refine j_aload_n (i := 0) X dX4_text_62 rfl rfl ?_
        refine j_iconst (v := 1) X dX4_text_63 rfl ?_
        refine k_cVV (As := [.int 1]) (rest := []) (by decide) (cf_md _) rfl X (ct_X4_must l g 1 M) wl_X4_283 rfl rfl (by decide) (Nat.le_of_ble_eq_true rfl) dX4_text_64 (fun M_10 => ?_)
        refine j_aload_n (i := 0) X dX4_text_67 rfl rfl ?_
        refine k_cVV (As := []) (rest := []) (by decide) (cf_md _) rfl X (ct_X4_readItem l g M_10) wl_X4_323 rfl rfl (by decide) (Nat.le_of_ble_eq_true rfl) dX4_text_68 (fun M_11 => ?_)
        refine j_goto (tgt := 33) X dX4_text_71 (by decide) ?_
        exact hc33 M_11
      · exact pj_X4_text_74 X hr M
    · exact pj_X4_text_74 X hr M
  · exact pj_X4_text_74 X hr M
def pi_X4_text_e (M : Mem) : Option (Int32 × Mem) := bM (up M 49 13 0) fun M_1 => gd (isB 0) <| bM (up M_1 49 16 0) fun M_2 => bM (up M_2 49 19 0) fun M_4 => gd (inb 1 62) <| bM (up M_4 49 20 (M_4 50 (1 : Int32).toNatClampNeg)) fun M_6 => bv (mi_X4_next M_6) fun M_7 => bv (mi_X4_readItem M_7) fun M_8 => lp (fun rc33 x => pi_X4_text_33 rc33 x) FU M_8
set_option maxRecDepth 100000 in
set_option maxHeartbeats 4000000 in
theorem pj_X4_text_e {p : Program} {l : Launch} {e : Env} {R : Room} {s : State} {m : MethodId} {args : Array Value} {below : List Frame} {meth : Method} {c : Code} {g : Gh} (X : Cx p l e R s m args below meth c g cX4_text 3 (0, 0) RX4 7) (hr : meth.sig.returnType = (some (.int))) (M : Mem) : J p l e R s m args below meth c g 3 (0, 0) (QfI below args s g) (pi_X4_text_e M) M 0 [(0, .ref (gA g 49))] [] := by
  unfold pi_X4_text_e
  refine j_aload_n (i := 0) X dX4_text_0 rfl rfl ?_
  refine j_iconst (v := 0) X dX4_text_1 rfl ?_
  refine j_put_md (ty := .int) 13 X (by decide) wq_549 (fun _ => rfl) rfl (by decide +kernel) rfl rfl dX4_text_2 ?_
  refine j_bM (fun M_1 => ?_)
  refine j_aload_n (i := 0) X dX4_text_5 rfl rfl ?_
  refine j_iconst (v := 0) X dX4_text_6 rfl ?_
  refine j_gd (fun h_3 => ?_)
  refine j_put_md (ty := .boolean) 16 X (by decide) wq_559 (fun _ => rfl) rfl (by decide +kernel) (isB_n h_3) (isB_f h_3) dX4_text_7 ?_
  refine j_bM (fun M_2 => ?_)
  refine j_aload_n (i := 0) X dX4_text_10 rfl rfl ?_
  refine j_iconst (v := 0) X dX4_text_11 rfl ?_
  refine j_put_md (ty := .int) 19 X (by decide) wq_568 (fun _ => rfl) rfl (by decide +kernel) rfl rfl dX4_text_12 ?_
  refine j_bM (fun M_4 => ?_)
  refine j_aload_n (i := 0) X dX4_text_15 rfl rfl ?_
  refine j_aload_n (i := 0) X dX4_text_16 rfl rfl ?_
  refine j_get_md 0 X (by decide) wq_346 rfl dX4_text_17 ?_
  refine j_iconst (v := 1) X dX4_text_20 rfl ?_
  refine j_iald X ia_50 dX4_text_21 (fun h_5 => ?_)
  refine j_put_md (ty := .int) 20 X (by decide) wq_587 (fun _ => rfl) rfl (by decide +kernel) rfl rfl dX4_text_22 ?_
  refine j_bM (fun M_6 => ?_)
  refine j_aload_n (i := 0) X dX4_text_25 rfl rfl ?_
  refine k_cVV (As := []) (rest := []) (by decide) (cf_md _) rfl X (ct_X4_next l g M_6) wl_X4_280 rfl rfl (by decide) (Nat.le_of_ble_eq_true rfl) dX4_text_26 (fun M_7 => ?_)
  refine j_aload_n (i := 0) X dX4_text_29 rfl rfl ?_
  refine k_cVV (As := []) (rest := []) (by decide) (cf_md _) rfl X (ct_X4_readItem l g M_7) wl_X4_323 rfl rfl (by decide) (Nat.le_of_ble_eq_true rfl) dX4_text_30 (fun M_8 => ?_)
  exact j_lp (Lf := fun x => [(0, .ref (gA g 49))]) (Mf := fun x => x) (fun rc33 hc33 x => pj_X4_text_33 X hr rc33 hc33 x) FU M_8
def mi_X4_text (M : Mem) : Option (Int32 × Mem) := pi_X4_text_e  M
theorem ct_X4_text (l : Launch) (g : Gh) (M : Mem) : CtI l g yX4_text cX4_text 3 (some (.int)) 7 [.ref (gA g 49)] M (mi_X4_text  M) := ctI_of (own := RX4) (L := [(0, .ref (gA g 49))]) (by decide +kernel) rfl (Nat.le_of_ble_eq_true rfl) rfl (fun p e s m args below meth c X hr => pj_X4_text_e X hr   M)

def pi_X4_isSpot_e (v0 : Int32) (M : Mem) : Option (Int32 × Mem) := bd (mi_X4_within v0 0 9 M) fun r_2 M_1 => gd (isB r_2) (some (r_2, M_1))
set_option maxRecDepth 100000 in
set_option maxHeartbeats 4000000 in
theorem pj_X4_isSpot_e {p : Program} {l : Launch} {e : Env} {R : Room} {s : State} {m : MethodId} {args : Array Value} {below : List Frame} {meth : Method} {c : Code} {g : Gh} (X : Cx p l e R s m args below meth c g cX4_isSpot 1 (0, 0) RX4 1) (hr : meth.sig.returnType = (some (.boolean))) (v0 : Int32) (M : Mem) : J p l e R s m args below meth c g 1 (0, 0) (QfI below args s g) (pi_X4_isSpot_e v0 M) M 0 [(0, .int v0)] [] := by
  unfold pi_X4_isSpot_e
  refine j_iload_n (i := 0) X dX4_isSpot_0 rfl rfl ?_
  refine j_iconst (v := 0) X dX4_isSpot_1 rfl ?_
  refine j_bipush (v := 9) X dX4_isSpot_2 rfl ?_
  refine k_cSI (As := [.int v0, .int 0, .int 9]) (rest := []) X (ct_X4_within l g v0 0 9 M) wl_X4_85 rfl rfl (by decide) (Nat.le_of_ble_eq_true rfl) dX4_isSpot_4 (fun r_2 M_1 => ?_)
  exact j_zret X hr dX4_isSpot_7
def mi_X4_isSpot (v0 : Int32) (M : Mem) : Option (Int32 × Mem) := pi_X4_isSpot_e v0 M
theorem ct_X4_isSpot (l : Launch) (g : Gh) (v0 : Int32) (M : Mem) : CtI l g yX4_isSpot cX4_isSpot 1 (some (.boolean)) 1 [.int v0] M (mi_X4_isSpot v0 M) := ctI_of (own := RX4) (L := [(0, .int v0)]) (by decide +kernel) rfl (Nat.le_of_ble_eq_true rfl) rfl (fun p e s m args below meth c X hr => pj_X4_isSpot_e X hr v0  M)

def pi_X4_hold_20 (v1 : Int32) (v2 : Int32) (M : Mem) : Option (Int32 × Mem) := bd (mi_X4_finding (-1000001) M) fun r_4 M_3 => some (r_4, M_3)
set_option maxRecDepth 100000 in
set_option maxHeartbeats 4000000 in
theorem pj_X4_hold_20 {p : Program} {l : Launch} {e : Env} {R : Room} {s : State} {m : MethodId} {args : Array Value} {below : List Frame} {meth : Method} {c : Code} {g : Gh} (X : Cx p l e R s m args below meth c g cX4_hold 3 (0, 0) RX4 2) (hr : meth.sig.returnType = (some (.int))) (v1 : Int32) (v2 : Int32) (M : Mem) : J p l e R s m args below meth c g 3 (0, 0) (QfI below args s g) (pi_X4_hold_20 v1 v2 M) M 20 [(0, .ref (gA g 49)), (1, .int v1), (2, .int v2)] [] := by
  unfold pi_X4_hold_20
  refine j_aload_n (i := 0) X dX4_hold_20 rfl rfl ?_
  refine j_ldc (v := (-1000001)) X wq_345 dX4_hold_21 ?_
  refine k_cVI (As := [.int (-1000001)]) (rest := []) (by decide) (cf_md _) rfl X (ct_X4_finding l g (-1000001) M) wl_X4_81 rfl rfl (by decide) (Nat.le_of_ble_eq_true rfl) dX4_hold_23 (fun r_4 M_3 => ?_)
  exact j_iret X hr dX4_hold_26
def pi_X4_hold_27 (v1 : Int32) (v2 : Int32) (M : Mem) : Option (Int32 × Mem) := gd (inb (4 + v1) 62) <| bM (up M 50 (4 + v1).toNatClampNeg v2) fun M_6 => some (1, M_6)
set_option maxRecDepth 100000 in
set_option maxHeartbeats 4000000 in
theorem pj_X4_hold_27 {p : Program} {l : Launch} {e : Env} {R : Room} {s : State} {m : MethodId} {args : Array Value} {below : List Frame} {meth : Method} {c : Code} {g : Gh} (X : Cx p l e R s m args below meth c g cX4_hold 3 (0, 0) RX4 2) (hr : meth.sig.returnType = (some (.int))) (v1 : Int32) (v2 : Int32) (M : Mem) : J p l e R s m args below meth c g 3 (0, 0) (QfI below args s g) (pi_X4_hold_27 v1 v2 M) M 27 [(0, .ref (gA g 49)), (1, .int v1), (2, .int v2)] [] := by
  unfold pi_X4_hold_27
  refine j_aload_n (i := 0) X dX4_hold_27 rfl rfl ?_
  refine j_get_md 0 X (by decide) wq_346 rfl dX4_hold_28 ?_
  refine j_iconst (v := 4) X dX4_hold_31 rfl ?_
  refine j_iload_n (i := 1) X dX4_hold_32 rfl rfl ?_
  refine j_iadd X dX4_hold_33 ?_
  refine j_iload_n (i := 2) X dX4_hold_34 rfl rfl ?_
  refine j_iast X ia_50 dX4_hold_35 (fun h_5 => ?_)
  refine j_bM (fun M_6 => ?_)
  refine j_iconst (v := 1) X dX4_hold_36 rfl ?_
  exact j_iret X hr dX4_hold_37
def pi_X4_hold_e (v1 : Int32) (v2 : Int32) (M : Mem) : Option (Int32 × Mem) := bd (mi_X4_isSpot v1 M) fun r_2 M_1 => if r_2 = 0 then (pi_X4_hold_20 v1 v2 M_1) else (if v2 = (-1) then (pi_X4_hold_27 v1 v2 M_1) else (bd (mi_X4_isHill v2 M_1) fun r_8 M_7 => if r_8 = 0 then (pi_X4_hold_20 v1 v2 M_7) else (pi_X4_hold_27 v1 v2 M_7)))
set_option maxRecDepth 100000 in
set_option maxHeartbeats 4000000 in
theorem pj_X4_hold_e {p : Program} {l : Launch} {e : Env} {R : Room} {s : State} {m : MethodId} {args : Array Value} {below : List Frame} {meth : Method} {c : Code} {g : Gh} (X : Cx p l e R s m args below meth c g cX4_hold 3 (0, 0) RX4 2) (hr : meth.sig.returnType = (some (.int))) (v1 : Int32) (v2 : Int32) (M : Mem) : J p l e R s m args below meth c g 3 (0, 0) (QfI below args s g) (pi_X4_hold_e v1 v2 M) M 0 [(0, .ref (gA g 49)), (1, .int v1), (2, .int v2)] [] := by
  unfold pi_X4_hold_e
  refine j_iload_n (i := 1) X dX4_hold_0 rfl rfl ?_
  refine k_cSI (As := [.int v1]) (rest := []) X (ct_X4_isSpot l g v1 M) wl_X4_329 rfl rfl (by decide) (Nat.le_of_ble_eq_true rfl) dX4_hold_1 (fun r_2 M_1 => ?_)
  refine j_if_eq (tgt := 20) X dX4_hold_4 (by decide) ?_ ?_
  · exact pj_X4_hold_20 X hr v1 v2 M_1
  · refine j_iload_n (i := 2) X dX4_hold_7 rfl rfl ?_
    refine j_iconst (v := (-1)) X dX4_hold_8 rfl ?_
    refine j_icmp_eq (tgt := 27) X dX4_hold_9 (by decide) ?_ ?_
    · exact pj_X4_hold_27 X hr v1 v2 M_1
    · refine j_aload_n (i := 0) X dX4_hold_12 rfl rfl ?_
      refine j_iload_n (i := 2) X dX4_hold_13 rfl rfl ?_
      refine k_cVI (As := [.int v2]) (rest := []) (by decide) (cf_md _) rfl X (ct_X4_isHill l g v2 M_1) wl_X4_135 rfl rfl (by decide) (Nat.le_of_ble_eq_true rfl) dX4_hold_14 (fun r_8 M_7 => ?_)
      refine j_if_ne (tgt := 27) X dX4_hold_17 (by decide) ?_ ?_
      · exact pj_X4_hold_20 X hr v1 v2 M_7
      · exact pj_X4_hold_27 X hr v1 v2 M_7
def mi_X4_hold (v1 : Int32) (v2 : Int32) (M : Mem) : Option (Int32 × Mem) := pi_X4_hold_e v1 v2 M
theorem ct_X4_hold (l : Launch) (g : Gh) (v1 : Int32) (v2 : Int32) (M : Mem) : CtI l g yX4_hold cX4_hold 3 (some (.int)) 2 [.ref (gA g 49), .int v1, .int v2] M (mi_X4_hold v1 v2 M) := ctI_of (own := RX4) (L := [(0, .ref (gA g 49)), (1, .int v1), (2, .int v2)]) (by decide +kernel) rfl (Nat.le_of_ble_eq_true rfl) rfl (fun p e s m args below meth c X hr => pj_X4_hold_e X hr v1 v2  M)

def pi_X4_above_e (v0 : Int32) (M : Mem) : Option (Int32 × Mem) := if v0 = 0 then (some ((-1), M)) else (if v0 = 3 then (some (2, M)) else (if v0 = 4 then (some (3, M)) else (if v0 = 6 then (some (1, M)) else (some (0, M)))))
set_option maxRecDepth 100000 in
set_option maxHeartbeats 4000000 in
theorem pj_X4_above_e {p : Program} {l : Launch} {e : Env} {R : Room} {s : State} {m : MethodId} {args : Array Value} {below : List Frame} {meth : Method} {c : Code} {g : Gh} (X : Cx p l e R s m args below meth c g cX4_above 1 (0, 0) RX4 0) (hr : meth.sig.returnType = (some (.int))) (v0 : Int32) (M : Mem) : J p l e R s m args below meth c g 1 (0, 0) (QfI below args s g) (pi_X4_above_e v0 M) M 0 [(0, .int v0)] [] := by
  unfold pi_X4_above_e
  refine j_iload_n (i := 0) X dX4_above_0 rfl rfl ?_
  refine j_if_ne (tgt := 8) X dX4_above_1 (by decide) ?_ ?_
  · refine j_iconst (v := (-1)) X dX4_above_4 rfl ?_
    refine j_goto (tgt := 37) X dX4_above_5 (by decide) ?_
    exact j_iret X hr dX4_above_37
  · refine j_iload_n (i := 0) X dX4_above_8 rfl rfl ?_
    refine j_iconst (v := 3) X dX4_above_9 rfl ?_
    refine j_icmp_ne (tgt := 17) X dX4_above_10 (by decide) ?_ ?_
    · refine j_iconst (v := 2) X dX4_above_13 rfl ?_
      refine j_goto (tgt := 37) X dX4_above_14 (by decide) ?_
      exact j_iret X hr dX4_above_37
    · refine j_iload_n (i := 0) X dX4_above_17 rfl rfl ?_
      refine j_iconst (v := 4) X dX4_above_18 rfl ?_
      refine j_icmp_ne (tgt := 26) X dX4_above_19 (by decide) ?_ ?_
      · refine j_iconst (v := 3) X dX4_above_22 rfl ?_
        refine j_goto (tgt := 37) X dX4_above_23 (by decide) ?_
        exact j_iret X hr dX4_above_37
      · refine j_iload_n (i := 0) X dX4_above_26 rfl rfl ?_
        refine j_bipush (v := 6) X dX4_above_27 rfl ?_
        refine j_icmp_ne (tgt := 36) X dX4_above_29 (by decide) ?_ ?_
        · refine j_iconst (v := 1) X dX4_above_32 rfl ?_
          refine j_goto (tgt := 37) X dX4_above_33 (by decide) ?_
          exact j_iret X hr dX4_above_37
        · refine j_iconst (v := 0) X dX4_above_36 rfl ?_
          exact j_iret X hr dX4_above_37
def mi_X4_above (v0 : Int32) (M : Mem) : Option (Int32 × Mem) := pi_X4_above_e v0 M
theorem ct_X4_above (l : Launch) (g : Gh) (v0 : Int32) (M : Mem) : CtI l g yX4_above cX4_above 1 (some (.int)) 0 [.int v0] M (mi_X4_above v0 M) := ctI_of (own := RX4) (L := [(0, .int v0)]) (by decide +kernel) rfl (Nat.le_of_ble_eq_true rfl) rfl (fun p e s m args below meth c X hr => pj_X4_above_e X hr v0  M)

def pi_X4_isUnder_19 (v0 : Int32) (v1 : Int32) (v2 : Int32) (M : Mem) : Option (Int32 × Mem) := if v2 < 0 then (gd (isB 0) (some (0, M))) else (gd (isB 1) (some (1, M)))
set_option maxRecDepth 100000 in
set_option maxHeartbeats 4000000 in
theorem pj_X4_isUnder_19 {p : Program} {l : Launch} {e : Env} {R : Room} {s : State} {m : MethodId} {args : Array Value} {below : List Frame} {meth : Method} {c : Code} {g : Gh} (X : Cx p l e R s m args below meth c g cX4_isUnder 3 (0, 0) RX4 1) (hr : meth.sig.returnType = (some (.boolean))) (v0 : Int32) (v1 : Int32) (v2 : Int32) (M : Mem) : J p l e R s m args below meth c g 3 (0, 0) (QfI below args s g) (pi_X4_isUnder_19 v0 v1 v2 M) M 19 [(0, .int v0), (1, .int v1), (2, .int v2)] [] := by
  unfold pi_X4_isUnder_19
  refine j_iload_n (i := 2) X dX4_isUnder_19 rfl rfl ?_
  refine j_if_lt (tgt := 27) X dX4_isUnder_20 (by decide) ?_ ?_
  · refine j_iconst (v := 0) X dX4_isUnder_27 rfl ?_
    exact j_zret X hr dX4_isUnder_28
  · refine j_iconst (v := 1) X dX4_isUnder_23 rfl ?_
    refine j_goto (tgt := 28) X dX4_isUnder_24 (by decide) ?_
    exact j_zret X hr dX4_isUnder_28
def pi_X4_isUnder_2 (v0 : Int32) (v1 : Int32) (rc2 : Int32 × Mem → Option (Int32 × Mem)) (v2 : Int32) (M : Mem) : Option (Int32 × Mem) := if v2 < 0 then (pi_X4_isUnder_19 v0 v1 v2 M) else (if v2 = v1 then (pi_X4_isUnder_19 v0 v1 v2 M) else (bd (mi_X4_above v2 M) fun r_2 M_1 => rc2 (r_2, M_1)))
set_option maxRecDepth 100000 in
set_option maxHeartbeats 4000000 in
theorem pj_X4_isUnder_2 {p : Program} {l : Launch} {e : Env} {R : Room} {s : State} {m : MethodId} {args : Array Value} {below : List Frame} {meth : Method} {c : Code} {g : Gh} (X : Cx p l e R s m args below meth c g cX4_isUnder 3 (0, 0) RX4 1) (hr : meth.sig.returnType = (some (.boolean))) (v0 : Int32) (v1 : Int32) (rc2 : Int32 × Mem → Option (Int32 × Mem)) (hc2 : ∀ x, J p l e R s m args below meth c g 3 (0, 0) (QfI below args s g) (rc2 x) x.2 2 [(0, .int v0), (1, .int v1), (2, .int x.1)] []) (v2 : Int32) (M : Mem) : J p l e R s m args below meth c g 3 (0, 0) (QfI below args s g) (pi_X4_isUnder_2 v0 v1 rc2 v2 M) M 2 [(0, .int v0), (1, .int v1), (2, .int v2)] [] := by
  unfold pi_X4_isUnder_2
  refine j_iload_n (i := 2) X dX4_isUnder_2 rfl rfl ?_
  refine j_if_lt (tgt := 19) X dX4_isUnder_3 (by decide) ?_ ?_
  · exact pj_X4_isUnder_19 X hr v0 v1 v2 M
  · refine j_iload_n (i := 2) X dX4_isUnder_6 rfl rfl ?_
    refine j_iload_n (i := 1) X dX4_isUnder_7 rfl rfl ?_
    refine j_icmp_eq (tgt := 19) X dX4_isUnder_8 (by decide) ?_ ?_
    · exact pj_X4_isUnder_19 X hr v0 v1 v2 M
    · refine j_iload_n (i := 2) X dX4_isUnder_11 rfl rfl ?_
      refine k_cSI (As := [.int v2]) (rest := []) X (ct_X4_above l g v2 M) wl_X4_339 rfl rfl (by decide) (Nat.le_of_ble_eq_true rfl) dX4_isUnder_12 (fun r_2 M_1 => ?_)
      refine j_istore_n (i := 2) (Lq := [(0, .int v0), (1, .int v1), (2, .int r_2)]) X dX4_isUnder_15 rfl (by decide) rfl ?_
      refine j_goto (tgt := 2) X dX4_isUnder_16 (by decide) ?_
      exact hc2 (r_2, M_1)
def pi_X4_isUnder_e (v0 : Int32) (v1 : Int32) (M : Mem) : Option (Int32 × Mem) := lp (fun rc2 x => pi_X4_isUnder_2 v0 v1 rc2 x.1 x.2) FU (v0, M)
set_option maxRecDepth 100000 in
set_option maxHeartbeats 4000000 in
theorem pj_X4_isUnder_e {p : Program} {l : Launch} {e : Env} {R : Room} {s : State} {m : MethodId} {args : Array Value} {below : List Frame} {meth : Method} {c : Code} {g : Gh} (X : Cx p l e R s m args below meth c g cX4_isUnder 3 (0, 0) RX4 1) (hr : meth.sig.returnType = (some (.boolean))) (v0 : Int32) (v1 : Int32) (M : Mem) : J p l e R s m args below meth c g 3 (0, 0) (QfI below args s g) (pi_X4_isUnder_e v0 v1 M) M 0 [(0, .int v0), (1, .int v1)] [] := by
  unfold pi_X4_isUnder_e
  refine j_iload_n (i := 0) X dX4_isUnder_0 rfl rfl ?_
  refine j_istore_n (i := 2) (Lq := [(0, .int v0), (1, .int v1), (2, .int v0)]) X dX4_isUnder_1 rfl (by decide) rfl ?_
  exact j_lp (Lf := fun x => [(0, .int v0), (1, .int v1), (2, .int x.1)]) (Mf := fun x => x.2) (fun rc2 hc2 x => pj_X4_isUnder_2 X hr v0 v1 rc2 hc2 x.1 x.2) FU (v0, M)
def mi_X4_isUnder (v0 : Int32) (v1 : Int32) (M : Mem) : Option (Int32 × Mem) := pi_X4_isUnder_e v0 v1 M
theorem ct_X4_isUnder (l : Launch) (g : Gh) (v0 : Int32) (v1 : Int32) (M : Mem) : CtI l g yX4_isUnder cX4_isUnder 3 (some (.boolean)) 1 [.int v0, .int v1] M (mi_X4_isUnder v0 v1 M) := ctI_of (own := RX4) (L := [(0, .int v0), (1, .int v1)]) (by decide +kernel) rfl (Nat.le_of_ble_eq_true rfl) rfl (fun p e s m args below meth c X hr => pj_X4_isUnder_e X hr v0 v1  M)
