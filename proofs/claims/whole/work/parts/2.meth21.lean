def pi_X4_as_14 (v1 : Int32) (v2 : Int32) (M : Mem) : Option (Int32 × Mem) := bd (mi_X4_finding (-1000001) M) fun r_4 M_3 => some (r_4, M_3)
set_option maxRecDepth 100000 in
set_option maxHeartbeats 4000000 in
theorem pj_X4_as_14 {p : Program} {l : Launch} {e : Env} {R : Room} {s : State} {m : MethodId} {args : Array Value} {below : List Frame} {meth : Method} {c : Code} {g : Gh} (X : Cx p l e R s m args below meth c g cX4_as 4 (0, 0) RX4 2) (hr : meth.sig.returnType = (some (.int))) (v1 : Int32) (v2 : Int32) (M : Mem) : J p l e R s m args below meth c g 4 (0, 0) (QfI below args s g) (pi_X4_as_14 v1 v2 M) M 14 [(0, .ref (gA g 49)), (1, .int v1), (2, .int v2)] [] := by
  unfold pi_X4_as_14
  refine j_aload_n (i := 0) X dX4_as_14 rfl rfl ?_
  refine j_ldc (v := (-1000001)) X wq_345 dX4_as_15 ?_
  refine k_cVI (As := [.int (-1000001)]) (rest := []) (by decide) (cf_md _) rfl X (ct_X4_finding l g (-1000001) M) wl_X4_81 rfl rfl (by decide) (Nat.le_of_ble_eq_true rfl) dX4_as_17 (fun r_4 M_3 => ?_)
  exact j_iret X hr dX4_as_20
def pi_X4_as_e (v1 : Int32) (v2 : Int32) (M : Mem) : Option (Int32 × Mem) := bd (mi_X4_isSpot v1 M) fun r_2 M_1 => if r_2 = 0 then (pi_X4_as_14 v1 v2 M_1) else (bd (mi_X4_isKind v2 M_1) fun r_6 M_5 => if r_6 = 0 then (pi_X4_as_14 v1 v2 M_5) else (gd (inb (4 + v1) 62) <| bI (M_5 50 (4 + v1).toNatClampNeg) fun v3_8 => if 0 ≤ v3_8 then (bd (mi_X4_hillIs v3_8 0 M_5) fun r_10 M_9 => bd (mi_X4_isUnder r_10 v2 M_9) fun r_12 M_11 => if r_12 = 0 then (bd (mi_X4_finding (-1000003) M_11) fun r_14 M_13 => some (r_14, M_13)) else (some (v3_8, M_11))) else (bd (mi_X4_finding (-1000006) M_5) fun r_16 M_15 => some (r_16, M_15))))
set_option maxRecDepth 100000 in
set_option maxHeartbeats 4000000 in
theorem pj_X4_as_e {p : Program} {l : Launch} {e : Env} {R : Room} {s : State} {m : MethodId} {args : Array Value} {below : List Frame} {meth : Method} {c : Code} {g : Gh} (X : Cx p l e R s m args below meth c g cX4_as 4 (0, 0) RX4 2) (hr : meth.sig.returnType = (some (.int))) (v1 : Int32) (v2 : Int32) (M : Mem) : J p l e R s m args below meth c g 4 (0, 0) (QfI below args s g) (pi_X4_as_e v1 v2 M) M 0 [(0, .ref (gA g 49)), (1, .int v1), (2, .int v2)] [] := by
  unfold pi_X4_as_e
  refine j_iload_n (i := 1) X dX4_as_0 rfl rfl ?_
  refine k_cSI (As := [.int v1]) (rest := []) X (ct_X4_isSpot l g v1 M) wl_X4_329 rfl rfl (by decide) (Nat.le_of_ble_eq_true rfl) dX4_as_1 (fun r_2 M_1 => ?_)
  refine j_if_eq (tgt := 14) X dX4_as_4 (by decide) ?_ ?_
  · exact pj_X4_as_14 X hr v1 v2 M_1
  · refine j_iload_n (i := 2) X dX4_as_7 rfl rfl ?_
    refine k_cSI (As := [.int v2]) (rest := []) X (ct_X4_isKind l g v2 M_1) wl_X4_96 rfl rfl (by decide) (Nat.le_of_ble_eq_true rfl) dX4_as_8 (fun r_6 M_5 => ?_)
    refine j_if_ne (tgt := 21) X dX4_as_11 (by decide) ?_ ?_
    · exact pj_X4_as_14 X hr v1 v2 M_5
    · refine j_aload_n (i := 0) X dX4_as_21 rfl rfl ?_
      refine j_get_md 0 X (by decide) wq_346 rfl dX4_as_22 ?_
      refine j_iconst (v := 4) X dX4_as_25 rfl ?_
      refine j_iload_n (i := 1) X dX4_as_26 rfl rfl ?_
      refine j_iadd X dX4_as_27 ?_
      refine j_iald X ia_50 dX4_as_28 (fun h_7 => ?_)
      refine j_bI (fun v3_8 => ?_)
      refine j_istore_n (i := 3) (Lq := [(0, .ref (gA g 49)), (1, .int v1), (2, .int v2), (3, .int v3_8)]) X dX4_as_29 rfl (by decide) rfl ?_
      refine j_iload_n (i := 3) X dX4_as_30 rfl rfl ?_
      refine j_if_ge (tgt := 41) X dX4_as_31 (by decide) ?_ ?_
      · refine j_aload_n (i := 0) X dX4_as_41 rfl rfl ?_
        refine j_iload_n (i := 3) X dX4_as_42 rfl rfl ?_
        refine j_iconst (v := 0) X dX4_as_43 rfl ?_
        refine k_cVI (As := [.int v3_8, .int 0]) (rest := []) (by decide) (cf_md _) rfl X (ct_X4_hillIs l g v3_8 0 M_5) wl_X4_108 rfl rfl (by decide) (Nat.le_of_ble_eq_true rfl) dX4_as_44 (fun r_10 M_9 => ?_)
        refine j_iload_n (i := 2) X dX4_as_47 rfl rfl ?_
        refine k_cSI (As := [.int r_10, .int v2]) (rest := []) X (ct_X4_isUnder l g r_10 v2 M_9) wl_X4_332 rfl rfl (by decide) (Nat.le_of_ble_eq_true rfl) dX4_as_48 (fun r_12 M_11 => ?_)
        refine j_if_eq (tgt := 58) X dX4_as_51 (by decide) ?_ ?_
        · refine j_aload_n (i := 0) X dX4_as_58 rfl rfl ?_
          refine j_ldcw (v := (-1000003)) X wq_613 dX4_as_59 ?_
          refine k_cVI (As := [.int (-1000003)]) (rest := []) (by decide) (cf_md _) rfl X (ct_X4_finding l g (-1000003) M_11) wl_X4_81 rfl rfl (by decide) (Nat.le_of_ble_eq_true rfl) dX4_as_62 (fun r_14 M_13 => ?_)
          exact j_iret X hr dX4_as_65
        · refine j_iload_n (i := 3) X dX4_as_54 rfl rfl ?_
          refine j_goto (tgt := 65) X dX4_as_55 (by decide) ?_
          exact j_iret X hr dX4_as_65
      · refine j_aload_n (i := 0) X dX4_as_34 rfl rfl ?_
        refine j_ldc (v := (-1000006)) X wq_527 dX4_as_35 ?_
        refine k_cVI (As := [.int (-1000006)]) (rest := []) (by decide) (cf_md _) rfl X (ct_X4_finding l g (-1000006) M_5) wl_X4_81 rfl rfl (by decide) (Nat.le_of_ble_eq_true rfl) dX4_as_37 (fun r_16 M_15 => ?_)
        exact j_iret X hr dX4_as_40
def mi_X4_as (v1 : Int32) (v2 : Int32) (M : Mem) : Option (Int32 × Mem) := pi_X4_as_e v1 v2 M
theorem ct_X4_as (l : Launch) (g : Gh) (v1 : Int32) (v2 : Int32) (M : Mem) : CtI l g yX4_as cX4_as 4 (some (.int)) 2 [.ref (gA g 49), .int v1, .int v2] M (mi_X4_as v1 v2 M) := ctI_of (own := RX4) (L := [(0, .ref (gA g 49)), (1, .int v1), (2, .int v2)]) (by decide +kernel) rfl (Nat.le_of_ble_eq_true rfl) rfl (fun p e s m args below meth c X hr => pj_X4_as_e X hr v1 v2  M)

def pi_X4_cutTo_e (v0 : Int32) (v1 : Int32) (M : Mem) : Option (Int32 × Mem) := if v1 = 8 then (some (v0.toInt8.toInt32, M)) else (if v1 = 16 then (some (v0.toInt16.toInt32, M)) else (some (v0, M)))
set_option maxRecDepth 100000 in
set_option maxHeartbeats 4000000 in
theorem pj_X4_cutTo_e {p : Program} {l : Launch} {e : Env} {R : Room} {s : State} {m : MethodId} {args : Array Value} {below : List Frame} {meth : Method} {c : Code} {g : Gh} (X : Cx p l e R s m args below meth c g cX4_cutTo 2 (0, 0) RX4 0) (hr : meth.sig.returnType = (some (.int))) (v0 : Int32) (v1 : Int32) (M : Mem) : J p l e R s m args below meth c g 2 (0, 0) (QfI below args s g) (pi_X4_cutTo_e v0 v1 M) M 0 [(0, .int v0), (1, .int v1)] [] := by
  unfold pi_X4_cutTo_e
  refine j_iload_n (i := 1) X dX4_cutTo_0 rfl rfl ?_
  refine j_bipush (v := 8) X dX4_cutTo_1 rfl ?_
  refine j_icmp_ne (tgt := 11) X dX4_cutTo_3 (by decide) ?_ ?_
  · refine j_iload_n (i := 0) X dX4_cutTo_6 rfl rfl ?_
    refine j_i2b X dX4_cutTo_7 ?_
    refine j_goto (tgt := 23) X dX4_cutTo_8 (by decide) ?_
    exact j_iret X hr dX4_cutTo_23
  · refine j_iload_n (i := 1) X dX4_cutTo_11 rfl rfl ?_
    refine j_bipush (v := 16) X dX4_cutTo_12 rfl ?_
    refine j_icmp_ne (tgt := 22) X dX4_cutTo_14 (by decide) ?_ ?_
    · refine j_iload_n (i := 0) X dX4_cutTo_17 rfl rfl ?_
      refine j_i2s X dX4_cutTo_18 ?_
      refine j_goto (tgt := 23) X dX4_cutTo_19 (by decide) ?_
      exact j_iret X hr dX4_cutTo_23
    · refine j_iload_n (i := 0) X dX4_cutTo_22 rfl rfl ?_
      exact j_iret X hr dX4_cutTo_23
def mi_X4_cutTo (v0 : Int32) (v1 : Int32) (M : Mem) : Option (Int32 × Mem) := pi_X4_cutTo_e v0 v1 M
theorem ct_X4_cutTo (l : Launch) (g : Gh) (v0 : Int32) (v1 : Int32) (M : Mem) : CtI l g yX4_cutTo cX4_cutTo 2 (some (.int)) 0 [.int v0, .int v1] M (mi_X4_cutTo v0 v1 M) := ctI_of (own := RX4) (L := [(0, .int v0), (1, .int v1)]) (by decide +kernel) rfl (Nat.le_of_ble_eq_true rfl) rfl (fun p e s m args below meth c X hr => pj_X4_cutTo_e X hr v0 v1  M)

def pi_X4_sheet_29 (v1 : Int32) (v2 : Int32) (v3 : Int32) (M : Mem) : Option (Int32 × Mem) := bd (mi_X4_finding (-1000001) M) fun r_4 M_3 => some (r_4, M_3)
set_option maxRecDepth 100000 in
set_option maxHeartbeats 4000000 in
theorem pj_X4_sheet_29 {p : Program} {l : Launch} {e : Env} {R : Room} {s : State} {m : MethodId} {args : Array Value} {below : List Frame} {meth : Method} {c : Code} {g : Gh} (X : Cx p l e R s m args below meth c g cX4_sheet 5 (0, 0) RX4 2) (hr : meth.sig.returnType = (some (.int))) (v1 : Int32) (v2 : Int32) (v3 : Int32) (M : Mem) : J p l e R s m args below meth c g 5 (0, 0) (QfI below args s g) (pi_X4_sheet_29 v1 v2 v3 M) M 29 [(0, .ref (gA g 49)), (1, .int v1), (2, .int v2), (3, .int v3)] [] := by
  unfold pi_X4_sheet_29
  refine j_aload_n (i := 0) X dX4_sheet_29 rfl rfl ?_
  refine j_ldc (v := (-1000001)) X wq_345 dX4_sheet_30 ?_
  refine k_cVI (As := [.int (-1000001)]) (rest := []) (by decide) (cf_md _) rfl X (ct_X4_finding l g (-1000001) M) wl_X4_81 rfl rfl (by decide) (Nat.le_of_ble_eq_true rfl) dX4_sheet_32 (fun r_4 M_3 => ?_)
  exact j_iret X hr dX4_sheet_35
def pi_X4_sheet_85 (v1 : Int32) (v2 : Int32) (v3 : Int32) (rc85 : Int32 × Mem → Option (Int32 × Mem)) (v4 : Int32) (M : Mem) : Option (Int32 × Mem) := if 40 ≤ v4 then (gd (inb v1 4) <| some (M 63 v1.toNatClampNeg, M)) else (gd (inb ((40 * v1) + v4) 160) <| bM (up M 64 ((40 * v1) + v4).toNatClampNeg 0) fun M_11 => bI (v4 + 1) fun v4_12 => rc85 (v4_12, M_11))
set_option maxRecDepth 100000 in
set_option maxHeartbeats 4000000 in
theorem pj_X4_sheet_85 {p : Program} {l : Launch} {e : Env} {R : Room} {s : State} {m : MethodId} {args : Array Value} {below : List Frame} {meth : Method} {c : Code} {g : Gh} (X : Cx p l e R s m args below meth c g cX4_sheet 5 (0, 0) RX4 2) (hr : meth.sig.returnType = (some (.int))) (v1 : Int32) (v2 : Int32) (v3 : Int32) (rc85 : Int32 × Mem → Option (Int32 × Mem)) (hc85 : ∀ x, J p l e R s m args below meth c g 5 (0, 0) (QfI below args s g) (rc85 x) x.2 85 [(0, .ref (gA g 49)), (1, .int v1), (2, .int v2), (3, .int v3), (4, .int x.1)] []) (v4 : Int32) (M : Mem) : J p l e R s m args below meth c g 5 (0, 0) (QfI below args s g) (pi_X4_sheet_85 v1 v2 v3 rc85 v4 M) M 85 [(0, .ref (gA g 49)), (1, .int v1), (2, .int v2), (3, .int v3), (4, .int v4)] [] := by
  unfold pi_X4_sheet_85
  refine j_iload (i := 4) X dX4_sheet_85 rfl ?_
  refine j_bipush (v := 40) X dX4_sheet_87 rfl ?_
  refine j_icmp_ge (tgt := 111) X dX4_sheet_89 (by decide) ?_ ?_
  · refine j_aload_n (i := 0) X dX4_sheet_111 rfl rfl ?_
    refine j_get_md 22 X (by decide) wq_528 rfl dX4_sheet_112 ?_
    refine j_iload_n (i := 1) X dX4_sheet_115 rfl rfl ?_
    refine j_iald X ia_63 dX4_sheet_116 (fun h_9 => ?_)
    exact j_iret X hr dX4_sheet_117
  · refine j_aload_n (i := 0) X dX4_sheet_92 rfl rfl ?_
    refine j_get_md 23 X (by decide) wq_529 rfl dX4_sheet_93 ?_
    refine j_bipush (v := 40) X dX4_sheet_96 rfl ?_
    refine j_iload_n (i := 1) X dX4_sheet_98 rfl rfl ?_
    refine j_imul X dX4_sheet_99 ?_
    refine j_iload (i := 4) X dX4_sheet_100 rfl ?_
    refine j_iadd X dX4_sheet_102 ?_
    refine j_iconst (v := 0) X dX4_sheet_103 rfl ?_
    refine j_iast X ia_64 dX4_sheet_104 (fun h_10 => ?_)
    refine j_bM (fun M_11 => ?_)
    refine j_iincB (i := 4) (y := v4 + 1) (Lf := fun v4_12 => [(0, .ref (gA g 49)), (1, .int v1), (2, .int v2), (3, .int v3), (4, .int v4_12)]) X dX4_sheet_105 rfl rfl (by decide) (fun _ => rfl) (fun v4_12 => ?_)
    refine j_goto (tgt := 85) X dX4_sheet_108 (by decide) ?_
    exact hc85 (v4_12, M_11)
def pi_X4_sheet_36 (v1 : Int32) (v2 : Int32) (v3 : Int32) (M : Mem) : Option (Int32 × Mem) := if 0 ≤ v3 then (if v3 ≤ 40 then (gd (inb v1 4) <| bM (up M 62 v1.toNatClampNeg v2) fun M_6 => if v2 = 0 then (gd (inb v1 4) <| bM (up M_6 63 v1.toNatClampNeg 0) fun M_8 => lp (fun rc85 x => pi_X4_sheet_85 v1 v2 v3 rc85 x.1 x.2) FU (0, M_8)) else (gd (inb v1 4) <| bM (up M_6 63 v1.toNatClampNeg v3) fun M_14 => lp (fun rc85 x => pi_X4_sheet_85 v1 v2 v3 rc85 x.1 x.2) FU (0, M_14))) else (bd (mi_X4_finding (-1000001) M) fun r_16 M_15 => some (r_16, M_15))) else (bd (mi_X4_finding (-1000007) M) fun r_18 M_17 => some (r_18, M_17))
set_option maxRecDepth 100000 in
set_option maxHeartbeats 4000000 in
theorem pj_X4_sheet_36 {p : Program} {l : Launch} {e : Env} {R : Room} {s : State} {m : MethodId} {args : Array Value} {below : List Frame} {meth : Method} {c : Code} {g : Gh} (X : Cx p l e R s m args below meth c g cX4_sheet 5 (0, 0) RX4 2) (hr : meth.sig.returnType = (some (.int))) (v1 : Int32) (v2 : Int32) (v3 : Int32) (M : Mem) : J p l e R s m args below meth c g 5 (0, 0) (QfI below args s g) (pi_X4_sheet_36 v1 v2 v3 M) M 36 [(0, .ref (gA g 49)), (1, .int v1), (2, .int v2), (3, .int v3)] [] := by
  unfold pi_X4_sheet_36
  refine j_iload_n (i := 3) X dX4_sheet_36 rfl rfl ?_
  refine j_if_ge (tgt := 47) X dX4_sheet_37 (by decide) ?_ ?_
  · refine j_iload_n (i := 3) X dX4_sheet_47 rfl rfl ?_
    refine j_bipush (v := 40) X dX4_sheet_48 rfl ?_
    refine j_icmp_le (tgt := 60) X dX4_sheet_50 (by decide) ?_ ?_
    · refine j_aload_n (i := 0) X dX4_sheet_60 rfl rfl ?_
      refine j_get_md 21 X (by decide) wq_526 rfl dX4_sheet_61 ?_
      refine j_iload_n (i := 1) X dX4_sheet_64 rfl rfl ?_
      refine j_iload_n (i := 2) X dX4_sheet_65 rfl rfl ?_
      refine j_iast X ia_62 dX4_sheet_66 (fun h_5 => ?_)
      refine j_bM (fun M_6 => ?_)
      refine j_aload_n (i := 0) X dX4_sheet_67 rfl rfl ?_
      refine j_get_md 22 X (by decide) wq_528 rfl dX4_sheet_68 ?_
      refine j_iload_n (i := 1) X dX4_sheet_71 rfl rfl ?_
      refine j_iload_n (i := 2) X dX4_sheet_72 rfl rfl ?_
      refine j_if_ne (tgt := 80) X dX4_sheet_73 (by decide) ?_ ?_
      · refine j_iconst (v := 0) X dX4_sheet_76 rfl ?_
        refine j_goto (tgt := 81) X dX4_sheet_77 (by decide) ?_
        refine j_iast X ia_63 dX4_sheet_81 (fun h_7 => ?_)
        refine j_bM (fun M_8 => ?_)
        refine j_iconst (v := 0) X dX4_sheet_82 rfl ?_
        refine j_istore (i := 4) (Lq := [(0, .ref (gA g 49)), (1, .int v1), (2, .int v2), (3, .int v3), (4, .int 0)]) X dX4_sheet_83 (by decide) rfl ?_
        exact j_lp (Lf := fun x => [(0, .ref (gA g 49)), (1, .int v1), (2, .int v2), (3, .int v3), (4, .int x.1)]) (Mf := fun x => x.2) (fun rc85 hc85 x => pj_X4_sheet_85 X hr v1 v2 v3 rc85 hc85 x.1 x.2) FU (0, M_8)
      · refine j_iload_n (i := 3) X dX4_sheet_80 rfl rfl ?_
        refine j_iast X ia_63 dX4_sheet_81 (fun h_13 => ?_)
        refine j_bM (fun M_14 => ?_)
        refine j_iconst (v := 0) X dX4_sheet_82 rfl ?_
        refine j_istore (i := 4) (Lq := [(0, .ref (gA g 49)), (1, .int v1), (2, .int v2), (3, .int v3), (4, .int 0)]) X dX4_sheet_83 (by decide) rfl ?_
        exact j_lp (Lf := fun x => [(0, .ref (gA g 49)), (1, .int v1), (2, .int v2), (3, .int v3), (4, .int x.1)]) (Mf := fun x => x.2) (fun rc85 hc85 x => pj_X4_sheet_85 X hr v1 v2 v3 rc85 hc85 x.1 x.2) FU (0, M_14)
    · refine j_aload_n (i := 0) X dX4_sheet_53 rfl rfl ?_
      refine j_ldc (v := (-1000001)) X wq_345 dX4_sheet_54 ?_
      refine k_cVI (As := [.int (-1000001)]) (rest := []) (by decide) (cf_md _) rfl X (ct_X4_finding l g (-1000001) M) wl_X4_81 rfl rfl (by decide) (Nat.le_of_ble_eq_true rfl) dX4_sheet_56 (fun r_16 M_15 => ?_)
      exact j_iret X hr dX4_sheet_59
  · refine j_aload_n (i := 0) X dX4_sheet_40 rfl rfl ?_
    refine j_ldc (v := (-1000007)) X wq_492 dX4_sheet_41 ?_
    refine k_cVI (As := [.int (-1000007)]) (rest := []) (by decide) (cf_md _) rfl X (ct_X4_finding l g (-1000007) M) wl_X4_81 rfl rfl (by decide) (Nat.le_of_ble_eq_true rfl) dX4_sheet_43 (fun r_18 M_17 => ?_)
    exact j_iret X hr dX4_sheet_46
def pi_X4_sheet_e (v1 : Int32) (v2 : Int32) (v3 : Int32) (M : Mem) : Option (Int32 × Mem) := bd (mi_X4_isSheet v1 M) fun r_2 M_1 => if r_2 = 0 then (pi_X4_sheet_29 v1 v2 v3 M_1) else (if v2 = 0 then (pi_X4_sheet_36 v1 v2 v3 M_1) else (if v2 = 8 then (pi_X4_sheet_36 v1 v2 v3 M_1) else (if v2 = 16 then (pi_X4_sheet_36 v1 v2 v3 M_1) else (if v2 = 32 then (pi_X4_sheet_36 v1 v2 v3 M_1) else (pi_X4_sheet_29 v1 v2 v3 M_1)))))
set_option maxRecDepth 100000 in
set_option maxHeartbeats 4000000 in
theorem pj_X4_sheet_e {p : Program} {l : Launch} {e : Env} {R : Room} {s : State} {m : MethodId} {args : Array Value} {below : List Frame} {meth : Method} {c : Code} {g : Gh} (X : Cx p l e R s m args below meth c g cX4_sheet 5 (0, 0) RX4 2) (hr : meth.sig.returnType = (some (.int))) (v1 : Int32) (v2 : Int32) (v3 : Int32) (M : Mem) : J p l e R s m args below meth c g 5 (0, 0) (QfI below args s g) (pi_X4_sheet_e v1 v2 v3 M) M 0 [(0, .ref (gA g 49)), (1, .int v1), (2, .int v2), (3, .int v3)] [] := by
  unfold pi_X4_sheet_e
  refine j_iload_n (i := 1) X dX4_sheet_0 rfl rfl ?_
  refine k_cSI (As := [.int v1]) (rest := []) X (ct_X4_isSheet l g v1 M) wl_X4_233 rfl rfl (by decide) (Nat.le_of_ble_eq_true rfl) dX4_sheet_1 (fun r_2 M_1 => ?_)
  refine j_if_eq (tgt := 29) X dX4_sheet_4 (by decide) ?_ ?_
  · exact pj_X4_sheet_29 X hr v1 v2 v3 M_1
  · refine j_iload_n (i := 2) X dX4_sheet_7 rfl rfl ?_
    refine j_if_eq (tgt := 36) X dX4_sheet_8 (by decide) ?_ ?_
    · exact pj_X4_sheet_36 X hr v1 v2 v3 M_1
    · refine j_iload_n (i := 2) X dX4_sheet_11 rfl rfl ?_
      refine j_bipush (v := 8) X dX4_sheet_12 rfl ?_
      refine j_icmp_eq (tgt := 36) X dX4_sheet_14 (by decide) ?_ ?_
      · exact pj_X4_sheet_36 X hr v1 v2 v3 M_1
      · refine j_iload_n (i := 2) X dX4_sheet_17 rfl rfl ?_
        refine j_bipush (v := 16) X dX4_sheet_18 rfl ?_
        refine j_icmp_eq (tgt := 36) X dX4_sheet_20 (by decide) ?_ ?_
        · exact pj_X4_sheet_36 X hr v1 v2 v3 M_1
        · refine j_iload_n (i := 2) X dX4_sheet_23 rfl rfl ?_
          refine j_bipush (v := 32) X dX4_sheet_24 rfl ?_
          refine j_icmp_eq (tgt := 36) X dX4_sheet_26 (by decide) ?_ ?_
          · exact pj_X4_sheet_36 X hr v1 v2 v3 M_1
          · exact pj_X4_sheet_29 X hr v1 v2 v3 M_1
def mi_X4_sheet (v1 : Int32) (v2 : Int32) (v3 : Int32) (M : Mem) : Option (Int32 × Mem) := pi_X4_sheet_e v1 v2 v3 M
theorem ct_X4_sheet (l : Launch) (g : Gh) (v1 : Int32) (v2 : Int32) (v3 : Int32) (M : Mem) : CtI l g yX4_sheet cX4_sheet 5 (some (.int)) 2 [.ref (gA g 49), .int v1, .int v2, .int v3] M (mi_X4_sheet v1 v2 v3 M) := ctI_of (own := RX4) (L := [(0, .ref (gA g 49)), (1, .int v1), (2, .int v2), (3, .int v3)]) (by decide +kernel) rfl (Nat.le_of_ble_eq_true rfl) rfl (fun p e s m args below meth c X hr => pj_X4_sheet_e X hr v1 v2 v3  M)

def pi_X4_write_e (v1 : Int32) (v2 : Int32) (v3 : Int32) (M : Mem) : Option (Int32 × Mem) := bd (mi_X4_isSheet v1 M) fun r_2 M_1 => if r_2 = 0 then (bd (mi_X4_finding (-1000001) M_1) fun r_4 M_3 => some (r_4, M_3)) else (gd (inb v1 4) <| if (M_1 62 v1.toNatClampNeg) = 0 then (bd (mi_X4_finding (-1000006) M_1) fun r_7 M_6 => some (r_7, M_6)) else (gd (inb v1 4) <| bd (mi_X4_within v2 0 ((M_1 63 v1.toNatClampNeg) - 1) M_1) fun r_10 M_9 => if r_10 = 0 then (bd (mi_X4_finding (-1000001) M_9) fun r_12 M_11 => some (r_12, M_11)) else (gd (inb v1 4) <| bd (mi_X4_cutTo v3 (M_9 62 v1.toNatClampNeg) M_9) fun r_15 M_14 => gd (inb ((40 * v1) + v2) 160) <| bM (up M_14 64 ((40 * v1) + v2).toNatClampNeg r_15) fun M_17 => some (1, M_17))))
set_option maxRecDepth 100000 in
set_option maxHeartbeats 4000000 in
theorem pj_X4_write_e {p : Program} {l : Launch} {e : Env} {R : Room} {s : State} {m : MethodId} {args : Array Value} {below : List Frame} {meth : Method} {c : Code} {g : Gh} (X : Cx p l e R s m args below meth c g cX4_write 4 (0, 0) RX4 2) (hr : meth.sig.returnType = (some (.int))) (v1 : Int32) (v2 : Int32) (v3 : Int32) (M : Mem) : J p l e R s m args below meth c g 4 (0, 0) (QfI below args s g) (pi_X4_write_e v1 v2 v3 M) M 0 [(0, .ref (gA g 49)), (1, .int v1), (2, .int v2), (3, .int v3)] [] := by
  unfold pi_X4_write_e
  refine j_iload_n (i := 1) X dX4_write_0 rfl rfl ?_
  refine k_cSI (As := [.int v1]) (rest := []) X (ct_X4_isSheet l g v1 M) wl_X4_233 rfl rfl (by decide) (Nat.le_of_ble_eq_true rfl) dX4_write_1 (fun r_2 M_1 => ?_)
  refine j_if_ne (tgt := 14) X dX4_write_4 (by decide) ?_ ?_
  · refine j_aload_n (i := 0) X dX4_write_7 rfl rfl ?_
    refine j_ldc (v := (-1000001)) X wq_345 dX4_write_8 ?_
    refine k_cVI (As := [.int (-1000001)]) (rest := []) (by decide) (cf_md _) rfl X (ct_X4_finding l g (-1000001) M_1) wl_X4_81 rfl rfl (by decide) (Nat.le_of_ble_eq_true rfl) dX4_write_10 (fun r_4 M_3 => ?_)
    exact j_iret X hr dX4_write_13
  · refine j_aload_n (i := 0) X dX4_write_14 rfl rfl ?_
    refine j_get_md 21 X (by decide) wq_526 rfl dX4_write_15 ?_
    refine j_iload_n (i := 1) X dX4_write_18 rfl rfl ?_
    refine j_iald X ia_62 dX4_write_19 (fun h_5 => ?_)
    refine j_if_ne (tgt := 30) X dX4_write_20 (by decide) ?_ ?_
    · refine j_aload_n (i := 0) X dX4_write_23 rfl rfl ?_
      refine j_ldc (v := (-1000006)) X wq_527 dX4_write_24 ?_
      refine k_cVI (As := [.int (-1000006)]) (rest := []) (by decide) (cf_md _) rfl X (ct_X4_finding l g (-1000006) M_1) wl_X4_81 rfl rfl (by decide) (Nat.le_of_ble_eq_true rfl) dX4_write_26 (fun r_7 M_6 => ?_)
      exact j_iret X hr dX4_write_29
    · refine j_iload_n (i := 2) X dX4_write_30 rfl rfl ?_
      refine j_iconst (v := 0) X dX4_write_31 rfl ?_
      refine j_aload_n (i := 0) X dX4_write_32 rfl rfl ?_
      refine j_get_md 22 X (by decide) wq_528 rfl dX4_write_33 ?_
      refine j_iload_n (i := 1) X dX4_write_36 rfl rfl ?_
      refine j_iald X ia_63 dX4_write_37 (fun h_8 => ?_)
      refine j_iconst (v := 1) X dX4_write_38 rfl ?_
      refine j_isub X dX4_write_39 ?_
      refine k_cSI (As := [.int v2, .int 0, .int ((M_1 63 v1.toNatClampNeg) - 1)]) (rest := []) X (ct_X4_within l g v2 0 ((M_1 63 v1.toNatClampNeg) - 1) M_1) wl_X4_85 rfl rfl (by decide) (Nat.le_of_ble_eq_true rfl) dX4_write_40 (fun r_10 M_9 => ?_)
      refine j_if_ne (tgt := 53) X dX4_write_43 (by decide) ?_ ?_
      · refine j_aload_n (i := 0) X dX4_write_46 rfl rfl ?_
        refine j_ldc (v := (-1000001)) X wq_345 dX4_write_47 ?_
        refine k_cVI (As := [.int (-1000001)]) (rest := []) (by decide) (cf_md _) rfl X (ct_X4_finding l g (-1000001) M_9) wl_X4_81 rfl rfl (by decide) (Nat.le_of_ble_eq_true rfl) dX4_write_49 (fun r_12 M_11 => ?_)
        exact j_iret X hr dX4_write_52
      · refine j_aload_n (i := 0) X dX4_write_53 rfl rfl ?_
        refine j_get_md 23 X (by decide) wq_529 rfl dX4_write_54 ?_
        refine j_bipush (v := 40) X dX4_write_57 rfl ?_
        refine j_iload_n (i := 1) X dX4_write_59 rfl rfl ?_
        refine j_imul X dX4_write_60 ?_
        refine j_iload_n (i := 2) X dX4_write_61 rfl rfl ?_
        refine j_iadd X dX4_write_62 ?_
        refine j_iload_n (i := 3) X dX4_write_63 rfl rfl ?_
        refine j_aload_n (i := 0) X dX4_write_64 rfl rfl ?_
        refine j_get_md 21 X (by decide) wq_526 rfl dX4_write_65 ?_
        refine j_iload_n (i := 1) X dX4_write_68 rfl rfl ?_
        refine j_iald X ia_62 dX4_write_69 (fun h_13 => ?_)
        refine k_cSI (As := [.int v3, .int (M_9 62 v1.toNatClampNeg)]) (rest := [.int ((40 * v1) + v2), .ref (gA g 64)]) X (ct_X4_cutTo l g v3 (M_9 62 v1.toNatClampNeg) M_9) wl_X4_336 rfl rfl (by decide) (Nat.le_of_ble_eq_true rfl) dX4_write_70 (fun r_15 M_14 => ?_)
        refine j_iast X ia_64 dX4_write_73 (fun h_16 => ?_)
        refine j_bM (fun M_17 => ?_)
        refine j_iconst (v := 1) X dX4_write_74 rfl ?_
        exact j_iret X hr dX4_write_75
def mi_X4_write (v1 : Int32) (v2 : Int32) (v3 : Int32) (M : Mem) : Option (Int32 × Mem) := pi_X4_write_e v1 v2 v3 M
theorem ct_X4_write (l : Launch) (g : Gh) (v1 : Int32) (v2 : Int32) (v3 : Int32) (M : Mem) : CtI l g yX4_write cX4_write 4 (some (.int)) 2 [.ref (gA g 49), .int v1, .int v2, .int v3] M (mi_X4_write v1 v2 v3 M) := ctI_of (own := RX4) (L := [(0, .ref (gA g 49)), (1, .int v1), (2, .int v2), (3, .int v3)]) (by decide +kernel) rfl (Nat.le_of_ble_eq_true rfl) rfl (fun p e s m args below meth c X hr => pj_X4_write_e X hr v1 v2 v3  M)

def pi_X4_copy_14 (v1 : Int32) (v2 : Int32) (v3 : Int32) (v4 : Int32) (v5 : Int32) (M : Mem) : Option (Int32 × Mem) := bd (mi_X4_finding (-1000001) M) fun r_4 M_3 => some (r_4, M_3)
set_option maxRecDepth 100000 in
set_option maxHeartbeats 4000000 in
theorem pj_X4_copy_14 {p : Program} {l : Launch} {e : Env} {R : Room} {s : State} {m : MethodId} {args : Array Value} {below : List Frame} {meth : Method} {c : Code} {g : Gh} (X : Cx p l e R s m args below meth c g cX4_copy 7 (0, 0) RX4 2) (hr : meth.sig.returnType = (some (.int))) (v1 : Int32) (v2 : Int32) (v3 : Int32) (v4 : Int32) (v5 : Int32) (M : Mem) : J p l e R s m args below meth c g 7 (0, 0) (QfI below args s g) (pi_X4_copy_14 v1 v2 v3 v4 v5 M) M 14 [(0, .ref (gA g 49)), (1, .int v1), (2, .int v2), (3, .int v3), (4, .int v4), (5, .int v5)] [] := by
  unfold pi_X4_copy_14
  refine j_aload_n (i := 0) X dX4_copy_14 rfl rfl ?_
  refine j_ldc (v := (-1000001)) X wq_345 dX4_copy_15 ?_
  refine k_cVI (As := [.int (-1000001)]) (rest := []) (by decide) (cf_md _) rfl X (ct_X4_finding l g (-1000001) M) wl_X4_81 rfl rfl (by decide) (Nat.le_of_ble_eq_true rfl) dX4_copy_17 (fun r_4 M_3 => ?_)
  exact j_iret X hr dX4_copy_20
def pi_X4_copy_39 (v1 : Int32) (v2 : Int32) (v3 : Int32) (v4 : Int32) (v5 : Int32) (M : Mem) : Option (Int32 × Mem) := bd (mi_X4_finding (-1000006) M) fun r_9 M_8 => some (r_9, M_8)
set_option maxRecDepth 100000 in
set_option maxHeartbeats 4000000 in
theorem pj_X4_copy_39 {p : Program} {l : Launch} {e : Env} {R : Room} {s : State} {m : MethodId} {args : Array Value} {below : List Frame} {meth : Method} {c : Code} {g : Gh} (X : Cx p l e R s m args below meth c g cX4_copy 7 (0, 0) RX4 2) (hr : meth.sig.returnType = (some (.int))) (v1 : Int32) (v2 : Int32) (v3 : Int32) (v4 : Int32) (v5 : Int32) (M : Mem) : J p l e R s m args below meth c g 7 (0, 0) (QfI below args s g) (pi_X4_copy_39 v1 v2 v3 v4 v5 M) M 39 [(0, .ref (gA g 49)), (1, .int v1), (2, .int v2), (3, .int v3), (4, .int v4), (5, .int v5)] [] := by
  unfold pi_X4_copy_39
  refine j_aload_n (i := 0) X dX4_copy_39 rfl rfl ?_
  refine j_ldc (v := (-1000006)) X wq_527 dX4_copy_40 ?_
  refine k_cVI (As := [.int (-1000006)]) (rest := []) (by decide) (cf_md _) rfl X (ct_X4_finding l g (-1000006) M) wl_X4_81 rfl rfl (by decide) (Nat.le_of_ble_eq_true rfl) dX4_copy_42 (fun r_9 M_8 => ?_)
  exact j_iret X hr dX4_copy_45
def pi_X4_copy_118 (v1 : Int32) (v2 : Int32) (v3 : Int32) (v4 : Int32) (v5 : Int32) (M : Mem) : Option (Int32 × Mem) := bd (mi_X4_finding (-1000001) M) fun r_14 M_13 => some (r_14, M_13)
set_option maxRecDepth 100000 in
set_option maxHeartbeats 4000000 in
theorem pj_X4_copy_118 {p : Program} {l : Launch} {e : Env} {R : Room} {s : State} {m : MethodId} {args : Array Value} {below : List Frame} {meth : Method} {c : Code} {g : Gh} (X : Cx p l e R s m args below meth c g cX4_copy 7 (0, 0) RX4 2) (hr : meth.sig.returnType = (some (.int))) (v1 : Int32) (v2 : Int32) (v3 : Int32) (v4 : Int32) (v5 : Int32) (M : Mem) : J p l e R s m args below meth c g 7 (0, 0) (QfI below args s g) (pi_X4_copy_118 v1 v2 v3 v4 v5 M) M 118 [(0, .ref (gA g 49)), (1, .int v1), (2, .int v2), (3, .int v3), (4, .int v4), (5, .int v5)] [] := by
  unfold pi_X4_copy_118
  refine j_aload_n (i := 0) X dX4_copy_118 rfl rfl ?_
  refine j_ldc (v := (-1000001)) X wq_345 dX4_copy_119 ?_
  refine k_cVI (As := [.int (-1000001)]) (rest := []) (by decide) (cf_md _) rfl X (ct_X4_finding l g (-1000001) M) wl_X4_81 rfl rfl (by decide) (Nat.le_of_ble_eq_true rfl) dX4_copy_121 (fun r_14 M_13 => ?_)
  exact j_iret X hr dX4_copy_124
def pi_X4_copy_165 (v1 : Int32) (v2 : Int32) (v3 : Int32) (v4 : Int32) (v5 : Int32) (rc165 : Int32 × Mem → Option (Int32 × Mem)) (v6 : Int32) (M : Mem) : Option (Int32 × Mem) := if v5 ≤ v6 then (some (v5, M)) else (gd (inb v6 40) <| gd (inb (((40 * v3) + v4) + v6) 160) <| bM (up M 64 (((40 * v3) + v4) + v6).toNatClampNeg (M 65 v6.toNatClampNeg)) fun M_19 => bI (v6 + 1) fun v6_20 => rc165 (v6_20, M_19))
set_option maxRecDepth 100000 in
set_option maxHeartbeats 4000000 in
theorem pj_X4_copy_165 {p : Program} {l : Launch} {e : Env} {R : Room} {s : State} {m : MethodId} {args : Array Value} {below : List Frame} {meth : Method} {c : Code} {g : Gh} (X : Cx p l e R s m args below meth c g cX4_copy 7 (0, 0) RX4 2) (hr : meth.sig.returnType = (some (.int))) (v1 : Int32) (v2 : Int32) (v3 : Int32) (v4 : Int32) (v5 : Int32) (rc165 : Int32 × Mem → Option (Int32 × Mem)) (hc165 : ∀ x, J p l e R s m args below meth c g 7 (0, 0) (QfI below args s g) (rc165 x) x.2 165 [(0, .ref (gA g 49)), (1, .int v1), (2, .int v2), (3, .int v3), (4, .int v4), (5, .int v5), (6, .int x.1)] []) (v6 : Int32) (M : Mem) : J p l e R s m args below meth c g 7 (0, 0) (QfI below args s g) (pi_X4_copy_165 v1 v2 v3 v4 v5 rc165 v6 M) M 165 [(0, .ref (gA g 49)), (1, .int v1), (2, .int v2), (3, .int v3), (4, .int v4), (5, .int v5), (6, .int v6)] [] := by
  unfold pi_X4_copy_165
  refine j_iload (i := 6) X dX4_copy_165 rfl ?_
  refine j_iload (i := 5) X dX4_copy_167 rfl ?_
  refine j_icmp_ge (tgt := 200) X dX4_copy_169 (by decide) ?_ ?_
  · refine j_iload (i := 5) X dX4_copy_200 rfl ?_
    exact j_iret X hr dX4_copy_202
  · refine j_aload_n (i := 0) X dX4_copy_172 rfl rfl ?_
    refine j_get_md 23 X (by decide) wq_529 rfl dX4_copy_173 ?_
    refine j_bipush (v := 40) X dX4_copy_176 rfl ?_
    refine j_iload_n (i := 3) X dX4_copy_178 rfl rfl ?_
    refine j_imul X dX4_copy_179 ?_
    refine j_iload (i := 4) X dX4_copy_180 rfl ?_
    refine j_iadd X dX4_copy_182 ?_
    refine j_iload (i := 6) X dX4_copy_183 rfl ?_
    refine j_iadd X dX4_copy_185 ?_
    refine j_aload_n (i := 0) X dX4_copy_186 rfl rfl ?_
    refine j_get_md 24 X (by decide) wq_617 rfl dX4_copy_187 ?_
    refine j_iload (i := 6) X dX4_copy_190 rfl ?_
    refine j_iald X ia_65 dX4_copy_192 (fun h_17 => ?_)
    refine j_iast X ia_64 dX4_copy_193 (fun h_18 => ?_)
    refine j_bM (fun M_19 => ?_)
    refine j_iincB (i := 6) (y := v6 + 1) (Lf := fun v6_20 => [(0, .ref (gA g 49)), (1, .int v1), (2, .int v2), (3, .int v3), (4, .int v4), (5, .int v5), (6, .int v6_20)]) X dX4_copy_194 rfl rfl (by decide) (fun _ => rfl) (fun v6_20 => ?_)
    refine j_goto (tgt := 165) X dX4_copy_197 (by decide) ?_
    exact hc165 (v6_20, M_19)
def pi_X4_copy_128 (v1 : Int32) (v2 : Int32) (v3 : Int32) (v4 : Int32) (v5 : Int32) (rc128 : Int32 × Mem → Option (Int32 × Mem)) (v6 : Int32) (M : Mem) : Option (Int32 × Mem) := if v5 ≤ v6 then (lp (fun rc165 x => pi_X4_copy_165 v1 v2 v3 v4 v5 rc165 x.1 x.2) FU (0, M)) else (gd (inb (((40 * v1) + v2) + v6) 160) <| gd (inb v6 40) <| bM (up M 65 v6.toNatClampNeg (M 64 (((40 * v1) + v2) + v6).toNatClampNeg)) fun M_23 => bI (v6 + 1) fun v6_24 => rc128 (v6_24, M_23))
set_option maxRecDepth 100000 in
set_option maxHeartbeats 4000000 in
theorem pj_X4_copy_128 {p : Program} {l : Launch} {e : Env} {R : Room} {s : State} {m : MethodId} {args : Array Value} {below : List Frame} {meth : Method} {c : Code} {g : Gh} (X : Cx p l e R s m args below meth c g cX4_copy 7 (0, 0) RX4 2) (hr : meth.sig.returnType = (some (.int))) (v1 : Int32) (v2 : Int32) (v3 : Int32) (v4 : Int32) (v5 : Int32) (rc128 : Int32 × Mem → Option (Int32 × Mem)) (hc128 : ∀ x, J p l e R s m args below meth c g 7 (0, 0) (QfI below args s g) (rc128 x) x.2 128 [(0, .ref (gA g 49)), (1, .int v1), (2, .int v2), (3, .int v3), (4, .int v4), (5, .int v5), (6, .int x.1)] []) (v6 : Int32) (M : Mem) : J p l e R s m args below meth c g 7 (0, 0) (QfI below args s g) (pi_X4_copy_128 v1 v2 v3 v4 v5 rc128 v6 M) M 128 [(0, .ref (gA g 49)), (1, .int v1), (2, .int v2), (3, .int v3), (4, .int v4), (5, .int v5), (6, .int v6)] [] := by
  unfold pi_X4_copy_128
  refine j_iload (i := 6) X dX4_copy_128 rfl ?_
  refine j_iload (i := 5) X dX4_copy_130 rfl ?_
  refine j_icmp_ge (tgt := 162) X dX4_copy_132 (by decide) ?_ ?_
  · refine j_iconst (v := 0) X dX4_copy_162 rfl ?_
    refine j_istore (i := 6) (Lq := [(0, .ref (gA g 49)), (1, .int v1), (2, .int v2), (3, .int v3), (4, .int v4), (5, .int v5), (6, .int 0)]) X dX4_copy_163 (by decide) rfl ?_
    exact j_lp (Lf := fun x => [(0, .ref (gA g 49)), (1, .int v1), (2, .int v2), (3, .int v3), (4, .int v4), (5, .int v5), (6, .int x.1)]) (Mf := fun x => x.2) (fun rc165 hc165 x => pj_X4_copy_165 X hr v1 v2 v3 v4 v5 rc165 hc165 x.1 x.2) FU (0, M)
  · refine j_aload_n (i := 0) X dX4_copy_135 rfl rfl ?_
    refine j_get_md 24 X (by decide) wq_617 rfl dX4_copy_136 ?_
    refine j_iload (i := 6) X dX4_copy_139 rfl ?_
    refine j_aload_n (i := 0) X dX4_copy_141 rfl rfl ?_
    refine j_get_md 23 X (by decide) wq_529 rfl dX4_copy_142 ?_
    refine j_bipush (v := 40) X dX4_copy_145 rfl ?_
    refine j_iload_n (i := 1) X dX4_copy_147 rfl rfl ?_
    refine j_imul X dX4_copy_148 ?_
    refine j_iload_n (i := 2) X dX4_copy_149 rfl rfl ?_
    refine j_iadd X dX4_copy_150 ?_
    refine j_iload (i := 6) X dX4_copy_151 rfl ?_
    refine j_iadd X dX4_copy_153 ?_
    refine j_iald X ia_64 dX4_copy_154 (fun h_21 => ?_)
    refine j_iast X ia_65 dX4_copy_155 (fun h_22 => ?_)
    refine j_bM (fun M_23 => ?_)
    refine j_iincB (i := 6) (y := v6 + 1) (Lf := fun v6_24 => [(0, .ref (gA g 49)), (1, .int v1), (2, .int v2), (3, .int v3), (4, .int v4), (5, .int v5), (6, .int v6_24)]) X dX4_copy_156 rfl rfl (by decide) (fun _ => rfl) (fun v6_24 => ?_)
    refine j_goto (tgt := 128) X dX4_copy_159 (by decide) ?_
    exact hc128 (v6_24, M_23)
def pi_X4_copy_e (v1 : Int32) (v2 : Int32) (v3 : Int32) (v4 : Int32) (v5 : Int32) (M : Mem) : Option (Int32 × Mem) := bd (mi_X4_isSheet v1 M) fun r_2 M_1 => if r_2 = 0 then (pi_X4_copy_14 v1 v2 v3 v4 v5 M_1) else (bd (mi_X4_isSheet v3 M_1) fun r_6 M_5 => if r_6 = 0 then (pi_X4_copy_14 v1 v2 v3 v4 v5 M_5) else (gd (inb v1 4) <| if (M_5 62 v1.toNatClampNeg) = 0 then (pi_X4_copy_39 v1 v2 v3 v4 v5 M_5) else (gd (inb v3 4) <| if (M_5 62 v3.toNatClampNeg) = 0 then (pi_X4_copy_39 v1 v2 v3 v4 v5 M_5) else (gd (inb v1 4) <| gd (inb v3 4) <| if (M_5 62 v1.toNatClampNeg) = (M_5 62 v3.toNatClampNeg) then (if v2 < 0 then (pi_X4_copy_118 v1 v2 v3 v4 v5 M_5) else (if v4 < 0 then (pi_X4_copy_118 v1 v2 v3 v4 v5 M_5) else (if v5 < 0 then (pi_X4_copy_118 v1 v2 v3 v4 v5 M_5) else (gd (inb v1 4) <| if 0 < (lg_cmp (v2.toInt64 + v5.toInt64) ((M_5 63 v1.toNatClampNeg).toInt64)) then (pi_X4_copy_118 v1 v2 v3 v4 v5 M_5) else (gd (inb v3 4) <| if (lg_cmp (v4.toInt64 + v5.toInt64) ((M_5 63 v3.toNatClampNeg).toInt64)) ≤ 0 then (lp (fun rc128 x => pi_X4_copy_128 v1 v2 v3 v4 v5 rc128 x.1 x.2) FU (0, M_5)) else (pi_X4_copy_118 v1 v2 v3 v4 v5 M_5)))))) else (bd (mi_X4_finding (-1000003) M_5) fun r_26 M_25 => some (r_26, M_25))))))
set_option maxRecDepth 100000 in
set_option maxHeartbeats 4000000 in
theorem pj_X4_copy_e {p : Program} {l : Launch} {e : Env} {R : Room} {s : State} {m : MethodId} {args : Array Value} {below : List Frame} {meth : Method} {c : Code} {g : Gh} (X : Cx p l e R s m args below meth c g cX4_copy 7 (0, 0) RX4 2) (hr : meth.sig.returnType = (some (.int))) (v1 : Int32) (v2 : Int32) (v3 : Int32) (v4 : Int32) (v5 : Int32) (M : Mem) : J p l e R s m args below meth c g 7 (0, 0) (QfI below args s g) (pi_X4_copy_e v1 v2 v3 v4 v5 M) M 0 [(0, .ref (gA g 49)), (1, .int v1), (2, .int v2), (3, .int v3), (4, .int v4), (5, .int v5)] [] := by
  unfold pi_X4_copy_e
  refine j_iload_n (i := 1) X dX4_copy_0 rfl rfl ?_
  refine k_cSI (As := [.int v1]) (rest := []) X (ct_X4_isSheet l g v1 M) wl_X4_233 rfl rfl (by decide) (Nat.le_of_ble_eq_true rfl) dX4_copy_1 (fun r_2 M_1 => ?_)
  refine j_if_eq (tgt := 14) X dX4_copy_4 (by decide) ?_ ?_
  · exact pj_X4_copy_14 X hr v1 v2 v3 v4 v5 M_1
  · refine j_iload_n (i := 3) X dX4_copy_7 rfl rfl ?_
    refine k_cSI (As := [.int v3]) (rest := []) X (ct_X4_isSheet l g v3 M_1) wl_X4_233 rfl rfl (by decide) (Nat.le_of_ble_eq_true rfl) dX4_copy_8 (fun r_6 M_5 => ?_)
    refine j_if_ne (tgt := 21) X dX4_copy_11 (by decide) ?_ ?_
    · exact pj_X4_copy_14 X hr v1 v2 v3 v4 v5 M_5
    · refine j_aload_n (i := 0) X dX4_copy_21 rfl rfl ?_
      refine j_get_md 21 X (by decide) wq_526 rfl dX4_copy_22 ?_
      refine j_iload_n (i := 1) X dX4_copy_25 rfl rfl ?_
      refine j_iald X ia_62 dX4_copy_26 (fun h_7 => ?_)
      refine j_if_eq (tgt := 39) X dX4_copy_27 (by decide) ?_ ?_
      · exact pj_X4_copy_39 X hr v1 v2 v3 v4 v5 M_5
      · refine j_aload_n (i := 0) X dX4_copy_30 rfl rfl ?_
        refine j_get_md 21 X (by decide) wq_526 rfl dX4_copy_31 ?_
        refine j_iload_n (i := 3) X dX4_copy_34 rfl rfl ?_
        refine j_iald X ia_62 dX4_copy_35 (fun h_10 => ?_)
        refine j_if_ne (tgt := 46) X dX4_copy_36 (by decide) ?_ ?_
        · exact pj_X4_copy_39 X hr v1 v2 v3 v4 v5 M_5
        · refine j_aload_n (i := 0) X dX4_copy_46 rfl rfl ?_
          refine j_get_md 21 X (by decide) wq_526 rfl dX4_copy_47 ?_
          refine j_iload_n (i := 1) X dX4_copy_50 rfl rfl ?_
          refine j_iald X ia_62 dX4_copy_51 (fun h_11 => ?_)
          refine j_aload_n (i := 0) X dX4_copy_52 rfl rfl ?_
          refine j_get_md 21 X (by decide) wq_526 rfl dX4_copy_53 ?_
          refine j_iload_n (i := 3) X dX4_copy_56 rfl rfl ?_
          refine j_iald X ia_62 dX4_copy_57 (fun h_12 => ?_)
          refine j_icmp_eq (tgt := 69) X dX4_copy_58 (by decide) ?_ ?_
          · refine j_iload_n (i := 2) X dX4_copy_69 rfl rfl ?_
            refine j_if_lt (tgt := 118) X dX4_copy_70 (by decide) ?_ ?_
            · exact pj_X4_copy_118 X hr v1 v2 v3 v4 v5 M_5
            · refine j_iload (i := 4) X dX4_copy_73 rfl ?_
              refine j_if_lt (tgt := 118) X dX4_copy_75 (by decide) ?_ ?_
              · exact pj_X4_copy_118 X hr v1 v2 v3 v4 v5 M_5
              · refine j_iload (i := 5) X dX4_copy_78 rfl ?_
                refine j_if_lt (tgt := 118) X dX4_copy_80 (by decide) ?_ ?_
                · exact pj_X4_copy_118 X hr v1 v2 v3 v4 v5 M_5
                · refine j_iload_n (i := 2) X dX4_copy_83 rfl rfl ?_
                  refine j_i2l X dX4_copy_84 ?_
                  refine j_iload (i := 5) X dX4_copy_85 rfl ?_
                  refine j_i2l X dX4_copy_87 ?_
                  refine j_ladd X dX4_copy_88 ?_
                  refine j_aload_n (i := 0) X dX4_copy_89 rfl rfl ?_
                  refine j_get_md 22 X (by decide) wq_528 rfl dX4_copy_90 ?_
                  refine j_iload_n (i := 1) X dX4_copy_93 rfl rfl ?_
                  refine j_iald X ia_63 dX4_copy_94 (fun h_15 => ?_)
                  refine j_i2l X dX4_copy_95 ?_
                  refine j_lcmp X dX4_copy_96 ?_
                  refine j_if_gt (tgt := 118) X dX4_copy_97 (by decide) ?_ ?_
                  · exact pj_X4_copy_118 X hr v1 v2 v3 v4 v5 M_5
                  · refine j_iload (i := 4) X dX4_copy_100 rfl ?_
                    refine j_i2l X dX4_copy_102 ?_
                    refine j_iload (i := 5) X dX4_copy_103 rfl ?_
                    refine j_i2l X dX4_copy_105 ?_
                    refine j_ladd X dX4_copy_106 ?_
                    refine j_aload_n (i := 0) X dX4_copy_107 rfl rfl ?_
                    refine j_get_md 22 X (by decide) wq_528 rfl dX4_copy_108 ?_
                    refine j_iload_n (i := 3) X dX4_copy_111 rfl rfl ?_
                    refine j_iald X ia_63 dX4_copy_112 (fun h_16 => ?_)
                    refine j_i2l X dX4_copy_113 ?_
                    refine j_lcmp X dX4_copy_114 ?_
                    refine j_if_le (tgt := 125) X dX4_copy_115 (by decide) ?_ ?_
                    · refine j_iconst (v := 0) X dX4_copy_125 rfl ?_
                      refine j_istore (i := 6) (Lq := [(0, .ref (gA g 49)), (1, .int v1), (2, .int v2), (3, .int v3), (4, .int v4), (5, .int v5), (6, .int 0)]) X dX4_copy_126 (by decide) rfl ?_
                      exact j_lp (Lf := fun x => [(0, .ref (gA g 49)), (1, .int v1), (2, .int v2), (3, .int v3), (4, .int v4), (5, .int v5), (6, .int x.1)]) (Mf := fun x => x.2) (fun rc128 hc128 x => pj_X4_copy_128 X hr v1 v2 v3 v4 v5 rc128 hc128 x.1 x.2) FU (0, M_5)
                    · exact pj_X4_copy_118 X hr v1 v2 v3 v4 v5 M_5
          · refine j_aload_n (i := 0) X dX4_copy_61 rfl rfl ?_
            refine j_ldcw (v := (-1000003)) X wq_613 dX4_copy_62 ?_
            refine k_cVI (As := [.int (-1000003)]) (rest := []) (by decide) (cf_md _) rfl X (ct_X4_finding l g (-1000003) M_5) wl_X4_81 rfl rfl (by decide) (Nat.le_of_ble_eq_true rfl) dX4_copy_65 (fun r_26 M_25 => ?_)
            exact j_iret X hr dX4_copy_68
def mi_X4_copy (v1 : Int32) (v2 : Int32) (v3 : Int32) (v4 : Int32) (v5 : Int32) (M : Mem) : Option (Int32 × Mem) := pi_X4_copy_e v1 v2 v3 v4 v5 M
theorem ct_X4_copy (l : Launch) (g : Gh) (v1 : Int32) (v2 : Int32) (v3 : Int32) (v4 : Int32) (v5 : Int32) (M : Mem) : CtI l g yX4_copy cX4_copy 7 (some (.int)) 2 [.ref (gA g 49), .int v1, .int v2, .int v3, .int v4, .int v5] M (mi_X4_copy v1 v2 v3 v4 v5 M) := ctI_of (own := RX4) (L := [(0, .ref (gA g 49)), (1, .int v1), (2, .int v2), (3, .int v3), (4, .int v4), (5, .int v5)]) (by decide +kernel) rfl (Nat.le_of_ble_eq_true rfl) rfl (fun p e s m args below meth c X hr => pj_X4_copy_e X hr v1 v2 v3 v4 v5  M)

def pi_X4_lacksSheet_e (v1 : Int32) (M : Mem) : Option (Int32 × Mem) := bd (mi_X4_isSheet v1 M) fun r_2 M_1 => if r_2 = 0 then (some ((-1000001), M_1)) else (gd (inb v1 4) <| if (M_1 62 v1.toNatClampNeg) = 0 then (some ((-1000006), M_1)) else (some (0, M_1)))
set_option maxRecDepth 100000 in
set_option maxHeartbeats 4000000 in
theorem pj_X4_lacksSheet_e {p : Program} {l : Launch} {e : Env} {R : Room} {s : State} {m : MethodId} {args : Array Value} {below : List Frame} {meth : Method} {c : Code} {g : Gh} (X : Cx p l e R s m args below meth c g cX4_lacksSheet 2 (0, 0) RX4 2) (hr : meth.sig.returnType = (some (.int))) (v1 : Int32) (M : Mem) : J p l e R s m args below meth c g 2 (0, 0) (QfI below args s g) (pi_X4_lacksSheet_e v1 M) M 0 [(0, .ref (gA g 49)), (1, .int v1)] [] := by
  unfold pi_X4_lacksSheet_e
  refine j_iload_n (i := 1) X dX4_lacksSheet_0 rfl rfl ?_
  refine k_cSI (As := [.int v1]) (rest := []) X (ct_X4_isSheet l g v1 M) wl_X4_233 rfl rfl (by decide) (Nat.le_of_ble_eq_true rfl) dX4_lacksSheet_1 (fun r_2 M_1 => ?_)
  refine j_if_ne (tgt := 12) X dX4_lacksSheet_4 (by decide) ?_ ?_
  · refine j_ldc (v := (-1000001)) X wq_345 dX4_lacksSheet_7 ?_
    refine j_goto (tgt := 27) X dX4_lacksSheet_9 (by decide) ?_
    exact j_iret X hr dX4_lacksSheet_27
  · refine j_aload_n (i := 0) X dX4_lacksSheet_12 rfl rfl ?_
    refine j_get_md 21 X (by decide) wq_526 rfl dX4_lacksSheet_13 ?_
    refine j_iload_n (i := 1) X dX4_lacksSheet_16 rfl rfl ?_
    refine j_iald X ia_62 dX4_lacksSheet_17 (fun h_3 => ?_)
    refine j_if_ne (tgt := 26) X dX4_lacksSheet_18 (by decide) ?_ ?_
    · refine j_ldc (v := (-1000006)) X wq_527 dX4_lacksSheet_21 ?_
      refine j_goto (tgt := 27) X dX4_lacksSheet_23 (by decide) ?_
      exact j_iret X hr dX4_lacksSheet_27
    · refine j_iconst (v := 0) X dX4_lacksSheet_26 rfl ?_
      exact j_iret X hr dX4_lacksSheet_27
def mi_X4_lacksSheet (v1 : Int32) (M : Mem) : Option (Int32 × Mem) := pi_X4_lacksSheet_e v1 M
theorem ct_X4_lacksSheet (l : Launch) (g : Gh) (v1 : Int32) (M : Mem) : CtI l g yX4_lacksSheet cX4_lacksSheet 2 (some (.int)) 2 [.ref (gA g 49), .int v1] M (mi_X4_lacksSheet v1 M) := ctI_of (own := RX4) (L := [(0, .ref (gA g 49)), (1, .int v1)]) (by decide +kernel) rfl (Nat.le_of_ble_eq_true rfl) rfl (fun p e s m args below meth c X hr => pj_X4_lacksSheet_e X hr v1  M)
