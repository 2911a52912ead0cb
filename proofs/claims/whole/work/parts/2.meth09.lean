def pi_X3_odds_100 (v1 : Int32) (v2 : Int32) (v5 : Int32) (rc100 : Int64 × Int32 × Mem → Option (Int64 × Mem)) (v6 : Int64) (v8 : Int32) (M : Mem) : Option (Int64 × Mem) := if v1 ≤ v8 then (some (v6, M)) else (bL (v6 * v5.toInt64) fun v6_11 => bI (v8 + 1) fun v8_12 => rc100 (v6_11, v8_12, M))
set_option maxRecDepth 100000 in
set_option maxHeartbeats 4000000 in
theorem pj_X3_odds_100 {p : Program} {l : Launch} {e : Env} {R : Room} {s : State} {m : MethodId} {args : Array Value} {below : List Frame} {meth : Method} {c : Code} {g : Gh} (X : Cx p l e R s m args below meth c g cX3_odds 9 (0, 0) RX3 1) (hr : meth.sig.returnType = (some (.long))) (v1 : Int32) (v2 : Int32) (v5 : Int32) (rc100 : Int64 × Int32 × Mem → Option (Int64 × Mem)) (hc100 : ∀ x, J p l e R s m args below meth c g 9 (0, 0) (QfL below args s g) (rc100 x) x.2.2 100 [(0, .ref (gA g 0)), (1, .int v1), (2, .int v2), (5, .int v5), (6, .long x.1), (8, .int x.2.1)] []) (v6 : Int64) (v8 : Int32) (M : Mem) : J p l e R s m args below meth c g 9 (0, 0) (QfL below args s g) (pi_X3_odds_100 v1 v2 v5 rc100 v6 v8 M) M 100 [(0, .ref (gA g 0)), (1, .int v1), (2, .int v2), (5, .int v5), (6, .long v6), (8, .int v8)] [] := by
  unfold pi_X3_odds_100
  refine j_iload (i := 8) X dX3_odds_100 rfl ?_
  refine j_iload_n (i := 1) X dX3_odds_102 rfl rfl ?_
  refine j_icmp_ge (tgt := 120) X dX3_odds_103 (by decide) ?_ ?_
  · refine j_lload (i := 6) X dX3_odds_120 rfl ?_
    exact j_lret X hr dX3_odds_122
  · refine j_lload (i := 6) X dX3_odds_106 rfl ?_
    refine j_iload (i := 5) X dX3_odds_108 rfl ?_
    refine j_i2l X dX3_odds_110 ?_
    refine j_lmul X dX3_odds_111 ?_
    refine j_bL (fun v6_11 => ?_)
    refine j_lstore (i := 6) (Lq := [(0, .ref (gA g 0)), (1, .int v1), (2, .int v2), (5, .int v5), (6, .long v6_11), (8, .int v8)]) X dX3_odds_112 (by decide) rfl ?_
    refine j_iincB (i := 8) (y := v8 + 1) (Lf := fun v8_12 => [(0, .ref (gA g 0)), (1, .int v1), (2, .int v2), (5, .int v5), (6, .long v6_11), (8, .int v8_12)]) X dX3_odds_114 rfl rfl (by decide) (fun _ => rfl) (fun v8_12 => ?_)
    refine j_goto (tgt := 100) X dX3_odds_117 (by decide) ?_
    exact hc100 (v6_11, v8_12, M)
def pi_X3_odds_82 (v1 : Int32) (v2 : Int32) (v3 : Int32) (v4 : Int32) (M : Mem) : Option (Int64 × Mem) := if v2 = 0 then (lp (fun rc100 x => pi_X3_odds_100 v1 v2 v3 rc100 x.1 x.2.1 x.2.2) FU (1, 0, M)) else (lp (fun rc100 x => pi_X3_odds_100 v1 v2 v4 rc100 x.1 x.2.1 x.2.2) FU (1, 0, M))
set_option maxRecDepth 100000 in
set_option maxHeartbeats 4000000 in
theorem pj_X3_odds_82 {p : Program} {l : Launch} {e : Env} {R : Room} {s : State} {m : MethodId} {args : Array Value} {below : List Frame} {meth : Method} {c : Code} {g : Gh} (X : Cx p l e R s m args below meth c g cX3_odds 9 (0, 0) RX3 1) (hr : meth.sig.returnType = (some (.long))) (v1 : Int32) (v2 : Int32) (v3 : Int32) (v4 : Int32) (M : Mem) : J p l e R s m args below meth c g 9 (0, 0) (QfL below args s g) (pi_X3_odds_82 v1 v2 v3 v4 M) M 82 [(0, .ref (gA g 0)), (1, .int v1), (2, .int v2), (3, .int v3), (4, .int v4)] [] := by
  unfold pi_X3_odds_82
  refine j_iload_n (i := 2) X dX3_odds_82 rfl rfl ?_
  refine j_if_ne (tgt := 90) X dX3_odds_83 (by decide) ?_ ?_
  · refine j_iload_n (i := 3) X dX3_odds_86 rfl rfl ?_
    refine j_goto (tgt := 92) X dX3_odds_87 (by decide) ?_
    refine j_istore (i := 5) (Lq := [(0, .ref (gA g 0)), (1, .int v1), (2, .int v2), (3, .int v3), (4, .int v4), (5, .int v3)]) X dX3_odds_92 (by decide) rfl ?_
    refine j_lconst (v := 1) X dX3_odds_94 rfl ?_
    refine j_lstore (i := 6) (Lq := [(0, .ref (gA g 0)), (1, .int v1), (2, .int v2), (3, .int v3), (4, .int v4), (5, .int v3), (6, .long 1)]) X dX3_odds_95 (by decide) rfl ?_
    refine j_iconst (v := 0) X dX3_odds_97 rfl ?_
    refine j_istore (i := 8) (Lq := [(0, .ref (gA g 0)), (1, .int v1), (2, .int v2), (3, .int v3), (4, .int v4), (5, .int v3), (6, .long 1), (8, .int 0)]) X dX3_odds_98 (by decide) rfl ?_
    refine j_pick [0, 1, 2, 5, 6, 7] (Lq := [(0, .ref (gA g 0)), (1, .int v1), (2, .int v2), (5, .int v3), (6, .long 1), (8, .int 0)]) rfl ?_
    exact j_lp (Lf := fun x => [(0, .ref (gA g 0)), (1, .int v1), (2, .int v2), (5, .int v3), (6, .long x.1), (8, .int x.2.1)]) (Mf := fun x => x.2.2) (fun rc100 hc100 x => pj_X3_odds_100 X hr v1 v2 v3 rc100 hc100 x.1 x.2.1 x.2.2) FU (1, 0, M)
  · refine j_iload (i := 4) X dX3_odds_90 rfl ?_
    refine j_istore (i := 5) (Lq := [(0, .ref (gA g 0)), (1, .int v1), (2, .int v2), (3, .int v3), (4, .int v4), (5, .int v4)]) X dX3_odds_92 (by decide) rfl ?_
    refine j_lconst (v := 1) X dX3_odds_94 rfl ?_
    refine j_lstore (i := 6) (Lq := [(0, .ref (gA g 0)), (1, .int v1), (2, .int v2), (3, .int v3), (4, .int v4), (5, .int v4), (6, .long 1)]) X dX3_odds_95 (by decide) rfl ?_
    refine j_iconst (v := 0) X dX3_odds_97 rfl ?_
    refine j_istore (i := 8) (Lq := [(0, .ref (gA g 0)), (1, .int v1), (2, .int v2), (3, .int v3), (4, .int v4), (5, .int v4), (6, .long 1), (8, .int 0)]) X dX3_odds_98 (by decide) rfl ?_
    refine j_pick [0, 1, 2, 5, 6, 7] (Lq := [(0, .ref (gA g 0)), (1, .int v1), (2, .int v2), (5, .int v4), (6, .long 1), (8, .int 0)]) rfl ?_
    exact j_lp (Lf := fun x => [(0, .ref (gA g 0)), (1, .int v1), (2, .int v2), (5, .int v4), (6, .long x.1), (8, .int x.2.1)]) (Mf := fun x => x.2.2) (fun rc100 hc100 x => pj_X3_odds_100 X hr v1 v2 v4 rc100 hc100 x.1 x.2.1 x.2.2) FU (1, 0, M)
def pi_X3_odds_54 (v1 : Int32) (v2 : Int32) (rc54 : Int32 × Int32 × Int32 × Mem → Option (Int64 × Mem)) (v3 : Int32) (v4 : Int32) (v5 : Int32) (M : Mem) : Option (Int64 × Mem) := if 3 ≤ v5 then (pi_X3_odds_82 v1 v2 v3 v4 M) else (if (v3 - v3 / 2 * 2) = 0 then (bI (v3 / 2) fun v3_13 => bI (v4 / 2) fun v4_14 => bI (v5 + 1) fun v5_15 => rc54 (v3_13, v4_14, v5_15, M)) else (pi_X3_odds_82 v1 v2 v3 v4 M))
set_option maxRecDepth 100000 in
set_option maxHeartbeats 4000000 in
theorem pj_X3_odds_54 {p : Program} {l : Launch} {e : Env} {R : Room} {s : State} {m : MethodId} {args : Array Value} {below : List Frame} {meth : Method} {c : Code} {g : Gh} (X : Cx p l e R s m args below meth c g cX3_odds 9 (0, 0) RX3 1) (hr : meth.sig.returnType = (some (.long))) (v1 : Int32) (v2 : Int32) (rc54 : Int32 × Int32 × Int32 × Mem → Option (Int64 × Mem)) (hc54 : ∀ x, J p l e R s m args below meth c g 9 (0, 0) (QfL below args s g) (rc54 x) x.2.2.2 54 [(0, .ref (gA g 0)), (1, .int v1), (2, .int v2), (3, .int x.1), (4, .int x.2.1), (5, .int x.2.2.1)] []) (v3 : Int32) (v4 : Int32) (v5 : Int32) (M : Mem) : J p l e R s m args below meth c g 9 (0, 0) (QfL below args s g) (pi_X3_odds_54 v1 v2 rc54 v3 v4 v5 M) M 54 [(0, .ref (gA g 0)), (1, .int v1), (2, .int v2), (3, .int v3), (4, .int v4), (5, .int v5)] [] := by
  unfold pi_X3_odds_54
  refine j_iload (i := 5) X dX3_odds_54 rfl ?_
  refine j_iconst (v := 3) X dX3_odds_56 rfl ?_
  refine j_icmp_ge (tgt := 82) X dX3_odds_57 (by decide) ?_ ?_
  · refine j_pick [0, 1, 2, 3, 4] (Lq := [(0, .ref (gA g 0)), (1, .int v1), (2, .int v2), (3, .int v3), (4, .int v4)]) rfl ?_
    exact pj_X3_odds_82 X hr v1 v2 v3 v4 M
  · refine j_iload_n (i := 3) X dX3_odds_60 rfl rfl ?_
    refine j_iconst (v := 2) X dX3_odds_61 rfl ?_
    refine j_iremc X dX3_odds_62 (by decide) ?_
    refine j_if_ne (tgt := 82) X dX3_odds_63 (by decide) ?_ ?_
    · refine j_iload_n (i := 3) X dX3_odds_66 rfl rfl ?_
      refine j_iconst (v := 2) X dX3_odds_67 rfl ?_
      refine j_idivc X dX3_odds_68 (by decide) ?_
      refine j_bI (fun v3_13 => ?_)
      refine j_istore_n (i := 3) (Lq := [(0, .ref (gA g 0)), (1, .int v1), (2, .int v2), (3, .int v3_13), (4, .int v4), (5, .int v5)]) X dX3_odds_69 rfl (by decide) rfl ?_
      refine j_iload (i := 4) X dX3_odds_70 rfl ?_
      refine j_iconst (v := 2) X dX3_odds_72 rfl ?_
      refine j_idivc X dX3_odds_73 (by decide) ?_
      refine j_bI (fun v4_14 => ?_)
      refine j_istore (i := 4) (Lq := [(0, .ref (gA g 0)), (1, .int v1), (2, .int v2), (3, .int v3_13), (4, .int v4_14), (5, .int v5)]) X dX3_odds_74 (by decide) rfl ?_
      refine j_iincB (i := 5) (y := v5 + 1) (Lf := fun v5_15 => [(0, .ref (gA g 0)), (1, .int v1), (2, .int v2), (3, .int v3_13), (4, .int v4_14), (5, .int v5_15)]) X dX3_odds_76 rfl rfl (by decide) (fun _ => rfl) (fun v5_15 => ?_)
      refine j_goto (tgt := 54) X dX3_odds_79 (by decide) ?_
      exact hc54 (v3_13, v4_14, v5_15, M)
    · refine j_pick [0, 1, 2, 3, 4] (Lq := [(0, .ref (gA g 0)), (1, .int v1), (2, .int v2), (3, .int v3), (4, .int v4)]) rfl ?_
      exact pj_X3_odds_82 X hr v1 v2 v3 v4 M
def pi_X3_odds_19 (v1 : Int32) (v2 : Int32) (M : Mem) : Option (Int64 × Mem) := bd (mi_X3_finding 0 M) fun r_17 M_16 => some (r_17.toInt64, M_16)
set_option maxRecDepth 100000 in
set_option maxHeartbeats 4000000 in
theorem pj_X3_odds_19 {p : Program} {l : Launch} {e : Env} {R : Room} {s : State} {m : MethodId} {args : Array Value} {below : List Frame} {meth : Method} {c : Code} {g : Gh} (X : Cx p l e R s m args below meth c g cX3_odds 9 (0, 0) RX3 1) (hr : meth.sig.returnType = (some (.long))) (v1 : Int32) (v2 : Int32) (M : Mem) : J p l e R s m args below meth c g 9 (0, 0) (QfL below args s g) (pi_X3_odds_19 v1 v2 M) M 19 [(0, .ref (gA g 0)), (1, .int v1), (2, .int v2)] [] := by
  unfold pi_X3_odds_19
  refine j_aload_n (i := 0) X dX3_odds_19 rfl rfl ?_
  refine j_iconst (v := 0) X dX3_odds_20 rfl ?_
  refine k_cVI (As := [.int 0]) (rest := []) (by decide) (cf_hd _) rfl X (ct_X3_finding l g 0 M) wl_X3_44 rfl rfl (by decide) (Nat.le_of_ble_eq_true rfl) dX3_odds_21 (fun r_17 M_16 => ?_)
  refine j_i2l X dX3_odds_24 ?_
  exact j_lret X hr dX3_odds_25
def pi_X3_odds_e (v1 : Int32) (v2 : Int32) (M : Mem) : Option (Int64 × Mem) := bd (mi_X3_isOutside v1 0 20 M) fun r_2 M_1 => if r_2 = 0 then (bd (mi_X3_isOutside v2 0 1 M_1) fun r_4 M_3 => if r_4 = 0 then (bd (mi_X2_everyone 1 M_3) fun r_6 M_5 => bd (mi_X2_meeting 1 M_5) fun r_8 M_7 => bd (mi_J6_bitCount_0f7a4 (r_6 &&& (r_8 ^^^ (-1))) M_7) fun r_10 M_9 => lp (fun rc54 x => pi_X3_odds_54 v1 v2 rc54 x.1 x.2.1 x.2.2.1 x.2.2.2) FU (r_10, 8, 0, M_9)) else (pi_X3_odds_19 v1 v2 M_3)) else (pi_X3_odds_19 v1 v2 M_1)
set_option maxRecDepth 100000 in
set_option maxHeartbeats 4000000 in
theorem pj_X3_odds_e {p : Program} {l : Launch} {e : Env} {R : Room} {s : State} {m : MethodId} {args : Array Value} {below : List Frame} {meth : Method} {c : Code} {g : Gh} (X : Cx p l e R s m args below meth c g cX3_odds 9 (0, 0) RX3 1) (hr : meth.sig.returnType = (some (.long))) (v1 : Int32) (v2 : Int32) (M : Mem) : J p l e R s m args below meth c g 9 (0, 0) (QfL below args s g) (pi_X3_odds_e v1 v2 M) M 0 [(0, .ref (gA g 0)), (1, .int v1), (2, .int v2)] [] := by
  unfold pi_X3_odds_e
  refine j_iload_n (i := 1) X dX3_odds_0 rfl rfl ?_
  refine j_iconst (v := 0) X dX3_odds_1 rfl ?_
  refine j_bipush (v := 20) X dX3_odds_2 rfl ?_
  refine k_cSI (As := [.int v1, .int 0, .int 20]) (rest := []) X (ct_X3_isOutside l g v1 0 20 M) wl_X3_40 rfl rfl (by decide) (Nat.le_of_ble_eq_true rfl) dX3_odds_4 (fun r_2 M_1 => ?_)
  refine j_if_ne (tgt := 19) X dX3_odds_7 (by decide) ?_ ?_
  · refine j_iload_n (i := 2) X dX3_odds_10 rfl rfl ?_
    refine j_iconst (v := 0) X dX3_odds_11 rfl ?_
    refine j_iconst (v := 1) X dX3_odds_12 rfl ?_
    refine k_cSI (As := [.int v2, .int 0, .int 1]) (rest := []) X (ct_X3_isOutside l g v2 0 1 M_1) wl_X3_40 rfl rfl (by decide) (Nat.le_of_ble_eq_true rfl) dX3_odds_13 (fun r_4 M_3 => ?_)
    refine j_if_eq (tgt := 26) X dX3_odds_16 (by decide) ?_ ?_
    · refine j_aload_n (i := 0) X dX3_odds_26 rfl rfl ?_
      refine j_get_hd 0 X (by decide) wq_172 rfl dX3_odds_27 ?_
      refine k_cVI (As := []) (rest := []) sh_1.lt (cf_sh sh_1 _) rfl X (ct_X2_everyone l g 1 sh_1 M_3) wl_X3_155 rfl rfl (by decide) (Nat.le_of_ble_eq_true rfl) dX3_odds_30 (fun r_6 M_5 => ?_)
      refine j_aload_n (i := 0) X dX3_odds_33 rfl rfl ?_
      refine j_get_hd 0 X (by decide) wq_172 rfl dX3_odds_34 ?_
      refine k_cVI (As := []) (rest := [.int r_6]) sh_1.lt (cf_sh sh_1 _) rfl X (ct_X2_meeting l g 1 sh_1 M_5) wl_X3_109 rfl rfl (by decide) (Nat.le_of_ble_eq_true rfl) dX3_odds_37 (fun r_8 M_7 => ?_)
      refine j_iconst (v := (-1)) X dX3_odds_40 rfl ?_
      refine j_ixor X dX3_odds_41 ?_
      refine j_iand X dX3_odds_42 ?_
      refine k_cSI (As := [.int (r_6 &&& (r_8 ^^^ (-1)))]) (rest := []) X (ct_J6_bitCount_0f7a4 l g (r_6 &&& (r_8 ^^^ (-1))) M_7) wl_X3_113 rfl rfl (by decide) (Nat.le_of_ble_eq_true rfl) dX3_odds_43 (fun r_10 M_9 => ?_)
      refine j_istore_n (i := 3) (Lq := [(0, .ref (gA g 0)), (1, .int v1), (2, .int v2), (3, .int r_10)]) X dX3_odds_46 rfl (by decide) rfl ?_
      refine j_bipush (v := 8) X dX3_odds_47 rfl ?_
      refine j_istore (i := 4) (Lq := [(0, .ref (gA g 0)), (1, .int v1), (2, .int v2), (3, .int r_10), (4, .int 8)]) X dX3_odds_49 (by decide) rfl ?_
      refine j_iconst (v := 0) X dX3_odds_51 rfl ?_
      refine j_istore (i := 5) (Lq := [(0, .ref (gA g 0)), (1, .int v1), (2, .int v2), (3, .int r_10), (4, .int 8), (5, .int 0)]) X dX3_odds_52 (by decide) rfl ?_
      exact j_lp (Lf := fun x => [(0, .ref (gA g 0)), (1, .int v1), (2, .int v2), (3, .int x.1), (4, .int x.2.1), (5, .int x.2.2.1)]) (Mf := fun x => x.2.2.2) (fun rc54 hc54 x => pj_X3_odds_54 X hr v1 v2 rc54 hc54 x.1 x.2.1 x.2.2.1 x.2.2.2) FU (r_10, 8, 0, M_9)
    · exact pj_X3_odds_19 X hr v1 v2 M_3
  · exact pj_X3_odds_19 X hr v1 v2 M_1
def mi_X3_odds (v1 : Int32) (v2 : Int32) (M : Mem) : Option (Int64 × Mem) := pi_X3_odds_e v1 v2 M
theorem ct_X3_odds (l : Launch) (g : Gh) (v1 : Int32) (v2 : Int32) (M : Mem) : CtL l g yX3_odds cX3_odds 9 (some (.long)) 1 [.ref (gA g 0), .int v1, .int v2] M (mi_X3_odds v1 v2 M) := ctL_of (own := RX3) (L := [(0, .ref (gA g 0)), (1, .int v1), (2, .int v2)]) (by decide +kernel) rfl (Nat.le_of_ble_eq_true rfl) rfl (fun p e s m args below meth c X hr => pj_X3_odds_e X hr v1 v2  M)

def pi_X3_seed_e (v1 : Int32) (M : Mem) : Option (Int32 × Mem) := bI (M 1 2) fun v2_1 => bM (up M 1 2 v1) fun M_2 => some (v2_1, M_2)
set_option maxRecDepth 100000 in
set_option maxHeartbeats 4000000 in
theorem pj_X3_seed_e {p : Program} {l : Launch} {e : Env} {R : Room} {s : State} {m : MethodId} {args : Array Value} {below : List Frame} {meth : Method} {c : Code} {g : Gh} (X : Cx p l e R s m args below meth c g cX3_seed 3 (0, 0) RX3 0) (hr : meth.sig.returnType = (some (.int))) (v1 : Int32) (M : Mem) : J p l e R s m args below meth c g 3 (0, 0) (QfI below args s g) (pi_X3_seed_e v1 M) M 0 [(0, .ref (gA g 0)), (1, .int v1)] [] := by
  unfold pi_X3_seed_e
  refine j_aload_n (i := 0) X dX3_seed_0 rfl rfl ?_
  refine j_get_hd 0 X (by decide) wq_172 rfl dX3_seed_1 ?_
  refine j_getN_sh sh_1 2 X (by decide) (by decide +kernel) rfl dX3_seed_4 ?_
  refine j_bI (fun v2_1 => ?_)
  refine j_istore_n (i := 2) (Lq := [(0, .ref (gA g 0)), (1, .int v1), (2, .int v2_1)]) X dX3_seed_7 rfl (by decide) rfl ?_
  refine j_aload_n (i := 0) X dX3_seed_8 rfl rfl ?_
  refine j_get_hd 0 X (by decide) wq_172 rfl dX3_seed_9 ?_
  refine j_iload_n (i := 1) X dX3_seed_12 rfl rfl ?_
  refine j_putN_sh (ty := .int) sh_1 2 X (by decide) (by decide +kernel) (fun _ => rfl) rfl (by decide +kernel) rfl rfl dX3_seed_13 ?_
  refine j_bM (fun M_2 => ?_)
  refine j_iload_n (i := 2) X dX3_seed_16 rfl rfl ?_
  exact j_iret X hr dX3_seed_17
def mi_X3_seed (v1 : Int32) (M : Mem) : Option (Int32 × Mem) := pi_X3_seed_e v1 M
theorem ct_X3_seed (l : Launch) (g : Gh) (v1 : Int32) (M : Mem) : CtI l g yX3_seed cX3_seed 3 (some (.int)) 0 [.ref (gA g 0), .int v1] M (mi_X3_seed v1 M) := ctI_of (own := RX3) (L := [(0, .ref (gA g 0)), (1, .int v1)]) (by decide +kernel) rfl (Nat.le_of_ble_eq_true rfl) rfl (fun p e s m args below meth c X hr => pj_X3_seed_e X hr v1  M)

def pi_X3_feed_42 (v1 : Int32) (v2 : Int32) (rc42 : Int32 × Mem → Option (Int32 × Mem)) (v3 : Int32) (M : Mem) : Option (Int32 × Mem) := if v3 < 0 then (some (M 37 1, M)) else (bv (mi_X0_append ((v1 >>> (v3 &&& 31)) &&& 255) M) fun M_4 => bI (v3 + (-8)) fun v3_5 => rc42 (v3_5, M_4))
set_option maxRecDepth 100000 in
set_option maxHeartbeats 4000000 in
theorem pj_X3_feed_42 {p : Program} {l : Launch} {e : Env} {R : Room} {s : State} {m : MethodId} {args : Array Value} {below : List Frame} {meth : Method} {c : Code} {g : Gh} (X : Cx p l e R s m args below meth c g cX3_feed 4 (0, 0) RX3 1) (hr : meth.sig.returnType = (some (.int))) (v1 : Int32) (v2 : Int32) (rc42 : Int32 × Mem → Option (Int32 × Mem)) (hc42 : ∀ x, J p l e R s m args below meth c g 4 (0, 0) (QfI below args s g) (rc42 x) x.2 42 [(0, .ref (gA g 0)), (1, .int v1), (2, .int v2), (3, .int x.1)] []) (v3 : Int32) (M : Mem) : J p l e R s m args below meth c g 4 (0, 0) (QfI below args s g) (pi_X3_feed_42 v1 v2 rc42 v3 M) M 42 [(0, .ref (gA g 0)), (1, .int v1), (2, .int v2), (3, .int v3)] [] := by
  unfold pi_X3_feed_42
  refine j_iload_n (i := 3) X dX3_feed_42 rfl rfl ?_
  refine j_if_lt (tgt := 66) X dX3_feed_43 (by decide) ?_ ?_
  · refine j_aload_n (i := 0) X dX3_feed_66 rfl rfl ?_
    refine j_get_hd 4 X (by decide) wq_313 rfl dX3_feed_67 ?_
    refine j_getN_rd 1 X (by decide) (by decide +kernel) rfl dX3_feed_70 ?_
    exact j_iret X hr dX3_feed_73
  · refine j_aload_n (i := 0) X dX3_feed_46 rfl rfl ?_
    refine j_get_hd 4 X (by decide) wq_313 rfl dX3_feed_47 ?_
    refine j_iload_n (i := 1) X dX3_feed_50 rfl rfl ?_
    refine j_iload_n (i := 3) X dX3_feed_51 rfl rfl ?_
    refine j_ishr X dX3_feed_52 ?_
    refine j_sipush (v := 255) X dX3_feed_53 rfl ?_
    refine j_iand X dX3_feed_56 ?_
    refine k_cVV (As := [.int ((v1 >>> (v3 &&& 31)) &&& 255)]) (rest := []) (by decide) (cf_rd _) rfl X (ct_X0_append l g ((v1 >>> (v3 &&& 31)) &&& 255) M) wl_X3_197 rfl rfl (by decide) (Nat.le_of_ble_eq_true rfl) dX3_feed_57 (fun M_4 => ?_)
    refine j_iincB (i := 3) (y := v3 + (-8)) (Lf := fun v3_5 => [(0, .ref (gA g 0)), (1, .int v1), (2, .int v2), (3, .int v3_5)]) X dX3_feed_60 rfl rfl (by decide) (fun _ => rfl) (fun v3_5 => ?_)
    refine j_goto (tgt := 42) X dX3_feed_63 (by decide) ?_
    exact hc42 (v3_5, M_4)
def pi_X3_feed_e (v1 : Int32) (v2 : Int32) (M : Mem) : Option (Int32 × Mem) := bd (mi_X3_isOutside v2 1 4 M) fun r_2 M_1 => if r_2 = 0 then (if (M_1 37 1) ≤ (120 - v2) then (bI (8 * (v2 - 1)) fun v3_3 => lp (fun rc42 x => pi_X3_feed_42 v1 v2 rc42 x.1 x.2) FU (v3_3, M_1)) else (bd (mi_X3_finding 1 M_1) fun r_7 M_6 => some (r_7, M_6))) else (bd (mi_X3_finding 0 M_1) fun r_9 M_8 => some (r_9, M_8))
set_option maxRecDepth 100000 in
set_option maxHeartbeats 4000000 in
theorem pj_X3_feed_e {p : Program} {l : Launch} {e : Env} {R : Room} {s : State} {m : MethodId} {args : Array Value} {below : List Frame} {meth : Method} {c : Code} {g : Gh} (X : Cx p l e R s m args below meth c g cX3_feed 4 (0, 0) RX3 1) (hr : meth.sig.returnType = (some (.int))) (v1 : Int32) (v2 : Int32) (M : Mem) : J p l e R s m args below meth c g 4 (0, 0) (QfI below args s g) (pi_X3_feed_e v1 v2 M) M 0 [(0, .ref (gA g 0)), (1, .int v1), (2, .int v2)] [] := by
  unfold pi_X3_feed_e
  refine j_iload_n (i := 2) X dX3_feed_0 rfl rfl ?_
  refine j_iconst (v := 1) X dX3_feed_1 rfl ?_
  refine j_iconst (v := 4) X dX3_feed_2 rfl ?_
  refine k_cSI (As := [.int v2, .int 1, .int 4]) (rest := []) X (ct_X3_isOutside l g v2 1 4 M) wl_X3_40 rfl rfl (by decide) (Nat.le_of_ble_eq_true rfl) dX3_feed_3 (fun r_2 M_1 => ?_)
  refine j_if_eq (tgt := 15) X dX3_feed_6 (by decide) ?_ ?_
  · refine j_aload_n (i := 0) X dX3_feed_15 rfl rfl ?_
    refine j_get_hd 4 X (by decide) wq_313 rfl dX3_feed_16 ?_
    refine j_getN_rd 1 X (by decide) (by decide +kernel) rfl dX3_feed_19 ?_
    refine j_bipush (v := 120) X dX3_feed_22 rfl ?_
    refine j_iload_n (i := 2) X dX3_feed_24 rfl rfl ?_
    refine j_isub X dX3_feed_25 ?_
    refine j_icmp_le (tgt := 35) X dX3_feed_26 (by decide) ?_ ?_
    · refine j_bipush (v := 8) X dX3_feed_35 rfl ?_
      refine j_iload_n (i := 2) X dX3_feed_37 rfl rfl ?_
      refine j_iconst (v := 1) X dX3_feed_38 rfl ?_
      refine j_isub X dX3_feed_39 ?_
      refine j_imul X dX3_feed_40 ?_
      refine j_bI (fun v3_3 => ?_)
      refine j_istore_n (i := 3) (Lq := [(0, .ref (gA g 0)), (1, .int v1), (2, .int v2), (3, .int v3_3)]) X dX3_feed_41 rfl (by decide) rfl ?_
      exact j_lp (Lf := fun x => [(0, .ref (gA g 0)), (1, .int v1), (2, .int v2), (3, .int x.1)]) (Mf := fun x => x.2) (fun rc42 hc42 x => pj_X3_feed_42 X hr v1 v2 rc42 hc42 x.1 x.2) FU (v3_3, M_1)
    · refine j_aload_n (i := 0) X dX3_feed_29 rfl rfl ?_
      refine j_iconst (v := 1) X dX3_feed_30 rfl ?_
      refine k_cVI (As := [.int 1]) (rest := []) (by decide) (cf_hd _) rfl X (ct_X3_finding l g 1 M_1) wl_X3_44 rfl rfl (by decide) (Nat.le_of_ble_eq_true rfl) dX3_feed_31 (fun r_7 M_6 => ?_)
      exact j_iret X hr dX3_feed_34
  · refine j_aload_n (i := 0) X dX3_feed_9 rfl rfl ?_
    refine j_iconst (v := 0) X dX3_feed_10 rfl ?_
    refine k_cVI (As := [.int 0]) (rest := []) (by decide) (cf_hd _) rfl X (ct_X3_finding l g 0 M_1) wl_X3_44 rfl rfl (by decide) (Nat.le_of_ble_eq_true rfl) dX3_feed_11 (fun r_9 M_8 => ?_)
    exact j_iret X hr dX3_feed_14
def mi_X3_feed (v1 : Int32) (v2 : Int32) (M : Mem) : Option (Int32 × Mem) := pi_X3_feed_e v1 v2 M
theorem ct_X3_feed (l : Launch) (g : Gh) (v1 : Int32) (v2 : Int32) (M : Mem) : CtI l g yX3_feed cX3_feed 4 (some (.int)) 1 [.ref (gA g 0), .int v1, .int v2] M (mi_X3_feed v1 v2 M) := ctI_of (own := RX3) (L := [(0, .ref (gA g 0)), (1, .int v1), (2, .int v2)]) (by decide +kernel) rfl (Nat.le_of_ble_eq_true rfl) rfl (fun p e s m args below meth c X hr => pj_X3_feed_e X hr v1 v2  M)

def pi_X3_wipe_e (M : Mem) : Option (Int32 × Mem) := bI (M 37 1) fun v1_1 => bM (up M 37 1 0) fun M_2 => some (v1_1, M_2)
set_option maxRecDepth 100000 in
set_option maxHeartbeats 4000000 in
theorem pj_X3_wipe_e {p : Program} {l : Launch} {e : Env} {R : Room} {s : State} {m : MethodId} {args : Array Value} {below : List Frame} {meth : Method} {c : Code} {g : Gh} (X : Cx p l e R s m args below meth c g cX3_wipe 2 (0, 0) RX3 0) (hr : meth.sig.returnType = (some (.int))) (M : Mem) : J p l e R s m args below meth c g 2 (0, 0) (QfI below args s g) (pi_X3_wipe_e M) M 0 [(0, .ref (gA g 0))] [] := by
  unfold pi_X3_wipe_e
  refine j_aload_n (i := 0) X dX3_wipe_0 rfl rfl ?_
  refine j_get_hd 4 X (by decide) wq_313 rfl dX3_wipe_1 ?_
  refine j_getN_rd 1 X (by decide) (by decide +kernel) rfl dX3_wipe_4 ?_
  refine j_bI (fun v1_1 => ?_)
  refine j_istore_n (i := 1) (Lq := [(0, .ref (gA g 0)), (1, .int v1_1)]) X dX3_wipe_7 rfl (by decide) rfl ?_
  refine j_aload_n (i := 0) X dX3_wipe_8 rfl rfl ?_
  refine j_get_hd 4 X (by decide) wq_313 rfl dX3_wipe_9 ?_
  refine j_iconst (v := 0) X dX3_wipe_12 rfl ?_
  refine j_putN_rd (ty := .int) 1 X (by decide) (by decide +kernel) (fun _ => rfl) rfl (by decide +kernel) rfl rfl dX3_wipe_13 ?_
  refine j_bM (fun M_2 => ?_)
  refine j_iload_n (i := 1) X dX3_wipe_16 rfl rfl ?_
  exact j_iret X hr dX3_wipe_17
def mi_X3_wipe (M : Mem) : Option (Int32 × Mem) := pi_X3_wipe_e  M
theorem ct_X3_wipe (l : Launch) (g : Gh) (M : Mem) : CtI l g yX3_wipe cX3_wipe 2 (some (.int)) 0 [.ref (gA g 0)] M (mi_X3_wipe  M) := ctI_of (own := RX3) (L := [(0, .ref (gA g 0))]) (by decide +kernel) rfl (Nat.le_of_ble_eq_true rfl) rfl (fun p e s m args below meth c X hr => pj_X3_wipe_e X hr   M)

def pi_X3_text_e (M : Mem) : Option (Int32 × Mem) := bv (mi_X2_become 13 1 M) fun M_1 => bd (mi_X0_readInto 13 M_1) fun r_3 M_2 => if r_3 < 0 then (bM (up M_2 37 1 0) fun M_4 => some (r_3, M_4)) else (bv (mi_X2_become 1 13 M_2) fun M_5 => bM (up M_5 37 1 0) fun M_6 => some (r_3, M_6))
set_option maxRecDepth 100000 in
set_option maxHeartbeats 4000000 in
theorem pj_X3_text_e {p : Program} {l : Launch} {e : Env} {R : Room} {s : State} {m : MethodId} {args : Array Value} {below : List Frame} {meth : Method} {c : Code} {g : Gh} (X : Cx p l e R s m args below meth c g cX3_text 2 (0, 0) RX3 8) (hr : meth.sig.returnType = (some (.int))) (M : Mem) : J p l e R s m args below meth c g 2 (0, 0) (QfI below args s g) (pi_X3_text_e M) M 0 [(0, .ref (gA g 0))] [] := by
  unfold pi_X3_text_e
  refine j_aload_n (i := 0) X dX3_text_0 rfl rfl ?_
  refine j_get_hd 1 X (by decide) wq_240 rfl dX3_text_1 ?_
  refine j_aload_n (i := 0) X dX3_text_4 rfl rfl ?_
  refine j_get_hd 0 X (by decide) wq_172 rfl dX3_text_5 ?_
  refine k_cVV (As := [.ref (gA g 1)]) (rest := []) sh_13.lt (cf_sh sh_13 _) rfl X (ct_X2_become l g 13 1 sh_13 sh_1 M) wl_X3_133 rfl rfl (by decide) (Nat.le_of_ble_eq_true rfl) dX3_text_8 (fun M_1 => ?_)
  refine j_aload_n (i := 0) X dX3_text_11 rfl rfl ?_
  refine j_get_hd 4 X (by decide) wq_313 rfl dX3_text_12 ?_
  refine j_aload_n (i := 0) X dX3_text_15 rfl rfl ?_
  refine j_get_hd 1 X (by decide) wq_240 rfl dX3_text_16 ?_
  refine k_cVI (As := [.ref (gA g 13)]) (rest := []) (by decide) (cf_rd _) rfl X (ct_X0_readInto l g 13 sh_13 M_1) wl_X3_200 rfl rfl (by decide) (Nat.le_of_ble_eq_true rfl) dX3_text_19 (fun r_3 M_2 => ?_)
  refine j_istore_n (i := 1) (Lq := [(0, .ref (gA g 0)), (1, .int r_3)]) X dX3_text_22 rfl (by decide) rfl ?_
  refine j_iload_n (i := 1) X dX3_text_23 rfl rfl ?_
  refine j_if_lt (tgt := 38) X dX3_text_24 (by decide) ?_ ?_
  · refine j_aload_n (i := 0) X dX3_text_38 rfl rfl ?_
    refine j_get_hd 4 X (by decide) wq_313 rfl dX3_text_39 ?_
    refine j_iconst (v := 0) X dX3_text_42 rfl ?_
    refine j_putN_rd (ty := .int) 1 X (by decide) (by decide +kernel) (fun _ => rfl) rfl (by decide +kernel) rfl rfl dX3_text_43 ?_
    refine j_bM (fun M_4 => ?_)
    refine j_iload_n (i := 1) X dX3_text_46 rfl rfl ?_
    exact j_iret X hr dX3_text_47
  · refine j_aload_n (i := 0) X dX3_text_27 rfl rfl ?_
    refine j_get_hd 0 X (by decide) wq_172 rfl dX3_text_28 ?_
    refine j_aload_n (i := 0) X dX3_text_31 rfl rfl ?_
    refine j_get_hd 1 X (by decide) wq_240 rfl dX3_text_32 ?_
    refine k_cVV (As := [.ref (gA g 13)]) (rest := []) sh_1.lt (cf_sh sh_1 _) rfl X (ct_X2_become l g 1 13 sh_1 sh_13 M_2) wl_X3_133 rfl rfl (by decide) (Nat.le_of_ble_eq_true rfl) dX3_text_35 (fun M_5 => ?_)
    refine j_aload_n (i := 0) X dX3_text_38 rfl rfl ?_
    refine j_get_hd 4 X (by decide) wq_313 rfl dX3_text_39 ?_
    refine j_iconst (v := 0) X dX3_text_42 rfl ?_
    refine j_putN_rd (ty := .int) 1 X (by decide) (by decide +kernel) (fun _ => rfl) rfl (by decide +kernel) rfl rfl dX3_text_43 ?_
    refine j_bM (fun M_6 => ?_)
    refine j_iload_n (i := 1) X dX3_text_46 rfl rfl ?_
    exact j_iret X hr dX3_text_47
def mi_X3_text (M : Mem) : Option (Int32 × Mem) := pi_X3_text_e  M
theorem ct_X3_text (l : Launch) (g : Gh) (M : Mem) : CtI l g yX3_text cX3_text 2 (some (.int)) 8 [.ref (gA g 0)] M (mi_X3_text  M) := ctI_of (own := RX3) (L := [(0, .ref (gA g 0))]) (by decide +kernel) rfl (Nat.le_of_ble_eq_true rfl) rfl (fun p e s m args below meth c X hr => pj_X3_text_e X hr   M)

def pi_X3_hold_32 (v1 : Int32) (v2 : Int32) (M : Mem) : Option (Int32 × Mem) := gd (inb v1 10) <| bM (up M (1 + 1) v1.toNatClampNeg v2) fun M_4 => some (1, M_4)
set_option maxRecDepth 100000 in
set_option maxHeartbeats 4000000 in
theorem pj_X3_hold_32 {p : Program} {l : Launch} {e : Env} {R : Room} {s : State} {m : MethodId} {args : Array Value} {below : List Frame} {meth : Method} {c : Code} {g : Gh} (X : Cx p l e R s m args below meth c g cX3_hold 3 (0, 0) RX3 1) (hr : meth.sig.returnType = (some (.int))) (v1 : Int32) (v2 : Int32) (M : Mem) : J p l e R s m args below meth c g 3 (0, 0) (QfI below args s g) (pi_X3_hold_32 v1 v2 M) M 32 [(0, .ref (gA g 0)), (1, .int v1), (2, .int v2)] [] := by
  unfold pi_X3_hold_32
  refine j_aload_n (i := 0) X dX3_hold_32 rfl rfl ?_
  refine j_get_hd 0 X (by decide) wq_172 rfl dX3_hold_33 ?_
  refine j_getN_sh sh_1 4 X (by decide) (by decide +kernel) rfl dX3_hold_36 ?_
  refine j_iload_n (i := 1) X dX3_hold_39 rfl rfl ?_
  refine j_iload_n (i := 2) X dX3_hold_40 rfl rfl ?_
  refine j_iast X (ia_sh1 sh_1) dX3_hold_41 (fun h_3 => ?_)
  refine j_bM (fun M_4 => ?_)
  refine j_iconst (v := 1) X dX3_hold_42 rfl ?_
  exact j_iret X hr dX3_hold_43
def pi_X3_hold_26 (v1 : Int32) (v2 : Int32) (M : Mem) : Option (Int32 × Mem) := bd (mi_X3_finding 0 M) fun r_8 M_7 => some (r_8, M_7)
set_option maxRecDepth 100000 in
set_option maxHeartbeats 4000000 in
theorem pj_X3_hold_26 {p : Program} {l : Launch} {e : Env} {R : Room} {s : State} {m : MethodId} {args : Array Value} {below : List Frame} {meth : Method} {c : Code} {g : Gh} (X : Cx p l e R s m args below meth c g cX3_hold 3 (0, 0) RX3 1) (hr : meth.sig.returnType = (some (.int))) (v1 : Int32) (v2 : Int32) (M : Mem) : J p l e R s m args below meth c g 3 (0, 0) (QfI below args s g) (pi_X3_hold_26 v1 v2 M) M 26 [(0, .ref (gA g 0)), (1, .int v1), (2, .int v2)] [] := by
  unfold pi_X3_hold_26
  refine j_aload_n (i := 0) X dX3_hold_26 rfl rfl ?_
  refine j_iconst (v := 0) X dX3_hold_27 rfl ?_
  refine k_cVI (As := [.int 0]) (rest := []) (by decide) (cf_hd _) rfl X (ct_X3_finding l g 0 M) wl_X3_44 rfl rfl (by decide) (Nat.le_of_ble_eq_true rfl) dX3_hold_28 (fun r_8 M_7 => ?_)
  exact j_iret X hr dX3_hold_31
def pi_X3_hold_e (v1 : Int32) (v2 : Int32) (M : Mem) : Option (Int32 × Mem) := bd (mi_X3_isOutside v1 0 9 M) fun r_2 M_1 => if r_2 = 0 then (if v2 = (-1) then (pi_X3_hold_32 v1 v2 M_1) else (bd (mi_X2_lacks 1 v2 M_1) fun r_6 M_5 => if r_6 = 0 then (pi_X3_hold_32 v1 v2 M_5) else (pi_X3_hold_26 v1 v2 M_5))) else (pi_X3_hold_26 v1 v2 M_1)
set_option maxRecDepth 100000 in
set_option maxHeartbeats 4000000 in
theorem pj_X3_hold_e {p : Program} {l : Launch} {e : Env} {R : Room} {s : State} {m : MethodId} {args : Array Value} {below : List Frame} {meth : Method} {c : Code} {g : Gh} (X : Cx p l e R s m args below meth c g cX3_hold 3 (0, 0) RX3 1) (hr : meth.sig.returnType = (some (.int))) (v1 : Int32) (v2 : Int32) (M : Mem) : J p l e R s m args below meth c g 3 (0, 0) (QfI below args s g) (pi_X3_hold_e v1 v2 M) M 0 [(0, .ref (gA g 0)), (1, .int v1), (2, .int v2)] [] := by
  unfold pi_X3_hold_e
  refine j_iload_n (i := 1) X dX3_hold_0 rfl rfl ?_
  refine j_iconst (v := 0) X dX3_hold_1 rfl ?_
  refine j_bipush (v := 9) X dX3_hold_2 rfl ?_
  refine k_cSI (As := [.int v1, .int 0, .int 9]) (rest := []) X (ct_X3_isOutside l g v1 0 9 M) wl_X3_40 rfl rfl (by decide) (Nat.le_of_ble_eq_true rfl) dX3_hold_4 (fun r_2 M_1 => ?_)
  refine j_if_ne (tgt := 26) X dX3_hold_7 (by decide) ?_ ?_
  · refine j_iload_n (i := 2) X dX3_hold_10 rfl rfl ?_
    refine j_iconst (v := (-1)) X dX3_hold_11 rfl ?_
    refine j_icmp_eq (tgt := 32) X dX3_hold_12 (by decide) ?_ ?_
    · exact pj_X3_hold_32 X hr v1 v2 M_1
    · refine j_aload_n (i := 0) X dX3_hold_15 rfl rfl ?_
      refine j_get_hd 0 X (by decide) wq_172 rfl dX3_hold_16 ?_
      refine j_iload_n (i := 2) X dX3_hold_19 rfl rfl ?_
      refine k_cVI (As := [.int v2]) (rest := []) sh_1.lt (cf_sh sh_1 _) rfl X (ct_X2_lacks l g 1 v2 sh_1 M_1) wl_X3_64 rfl rfl (by decide) (Nat.le_of_ble_eq_true rfl) dX3_hold_20 (fun r_6 M_5 => ?_)
      refine j_if_eq (tgt := 32) X dX3_hold_23 (by decide) ?_ ?_
      · exact pj_X3_hold_32 X hr v1 v2 M_5
      · exact pj_X3_hold_26 X hr v1 v2 M_5
  · exact pj_X3_hold_26 X hr v1 v2 M_1
def mi_X3_hold (v1 : Int32) (v2 : Int32) (M : Mem) : Option (Int32 × Mem) := pi_X3_hold_e v1 v2 M
theorem ct_X3_hold (l : Launch) (g : Gh) (v1 : Int32) (v2 : Int32) (M : Mem) : CtI l g yX3_hold cX3_hold 3 (some (.int)) 1 [.ref (gA g 0), .int v1, .int v2] M (mi_X3_hold v1 v2 M) := ctI_of (own := RX3) (L := [(0, .ref (gA g 0)), (1, .int v1), (2, .int v2)]) (by decide +kernel) rfl (Nat.le_of_ble_eq_true rfl) rfl (fun p e s m args below meth c X hr => pj_X3_hold_e X hr v1 v2  M)

def pi_X3_isUnder_4 (v0 : Int32) (v1 : Int32) (rc4 : Int32 × Int32 × Mem → Option (Int32 × Mem)) (v2 : Int32) (v3 : Int32) (M : Mem) : Option (Int32 × Mem) := if 7 ≤ v3 then (gd (isB 0) (some (0, M))) else (if v2 < 0 then (gd (isB 0) (some (0, M))) else (if v2 = v1 then (gd (isB 1) (some (1, M))) else (gd (inb v2 7) <| bI (kaT v2.toNatClampNeg) fun v2_2 => bI (v3 + 1) fun v3_3 => rc4 (v2_2, v3_3, M))))
set_option maxRecDepth 100000 in
set_option maxHeartbeats 4000000 in
theorem pj_X3_isUnder_4 {p : Program} {l : Launch} {e : Env} {R : Room} {s : State} {m : MethodId} {args : Array Value} {below : List Frame} {meth : Method} {c : Code} {g : Gh} (X : Cx p l e R s m args below meth c g cX3_isUnder 4 (0, 0) RX3 0) (hr : meth.sig.returnType = (some (.boolean))) (v0 : Int32) (v1 : Int32) (rc4 : Int32 × Int32 × Mem → Option (Int32 × Mem)) (hc4 : ∀ x, J p l e R s m args below meth c g 4 (0, 0) (QfI below args s g) (rc4 x) x.2.2 4 [(0, .int v0), (1, .int v1), (2, .int x.1), (3, .int x.2.1)] []) (v2 : Int32) (v3 : Int32) (M : Mem) : J p l e R s m args below meth c g 4 (0, 0) (QfI below args s g) (pi_X3_isUnder_4 v0 v1 rc4 v2 v3 M) M 4 [(0, .int v0), (1, .int v1), (2, .int v2), (3, .int v3)] [] := by
  unfold pi_X3_isUnder_4
  refine j_iload_n (i := 3) X dX3_isUnder_4 rfl rfl ?_
  refine j_bipush (v := 7) X dX3_isUnder_5 rfl ?_
  refine j_icmp_ge (tgt := 33) X dX3_isUnder_7 (by decide) ?_ ?_
  · refine j_iconst (v := 0) X dX3_isUnder_33 rfl ?_
    exact j_zret X hr dX3_isUnder_34
  · refine j_iload_n (i := 2) X dX3_isUnder_10 rfl rfl ?_
    refine j_if_lt (tgt := 33) X dX3_isUnder_11 (by decide) ?_ ?_
    · refine j_iconst (v := 0) X dX3_isUnder_33 rfl ?_
      exact j_zret X hr dX3_isUnder_34
    · refine j_iload_n (i := 2) X dX3_isUnder_14 rfl rfl ?_
      refine j_iload_n (i := 1) X dX3_isUnder_15 rfl rfl ?_
      refine j_icmp_ne (tgt := 21) X dX3_isUnder_16 (by decide) ?_ ?_
      · refine j_iconst (v := 1) X dX3_isUnder_19 rfl ?_
        exact j_zret X hr dX3_isUnder_20
      · refine j_gets_ka X wq_322 dX3_isUnder_21 ?_
        refine j_iload_n (i := 2) X dX3_isUnder_24 rfl rfl ?_
        refine j_tld_ka X dX3_isUnder_25 (fun h_1 => ?_)
        refine j_bI (fun v2_2 => ?_)
        refine j_istore_n (i := 2) (Lq := [(0, .int v0), (1, .int v1), (2, .int v2_2), (3, .int v3)]) X dX3_isUnder_26 rfl (by decide) rfl ?_
        refine j_iincB (i := 3) (y := v3 + 1) (Lf := fun v3_3 => [(0, .int v0), (1, .int v1), (2, .int v2_2), (3, .int v3_3)]) X dX3_isUnder_27 rfl rfl (by decide) (fun _ => rfl) (fun v3_3 => ?_)
        refine j_goto (tgt := 4) X dX3_isUnder_30 (by decide) ?_
        exact hc4 (v2_2, v3_3, M)
def pi_X3_isUnder_e (v0 : Int32) (v1 : Int32) (M : Mem) : Option (Int32 × Mem) := lp (fun rc4 x => pi_X3_isUnder_4 v0 v1 rc4 x.1 x.2.1 x.2.2) FU (v0, 0, M)
set_option maxRecDepth 100000 in
set_option maxHeartbeats 4000000 in
theorem pj_X3_isUnder_e {p : Program} {l : Launch} {e : Env} {R : Room} {s : State} {m : MethodId} {args : Array Value} {below : List Frame} {meth : Method} {c : Code} {g : Gh} (X : Cx p l e R s m args below meth c g cX3_isUnder 4 (0, 0) RX3 0) (hr : meth.sig.returnType = (some (.boolean))) (v0 : Int32) (v1 : Int32) (M : Mem) : J p l e R s m args below meth c g 4 (0, 0) (QfI below args s g) (pi_X3_isUnder_e v0 v1 M) M 0 [(0, .int v0), (1, .int v1)] [] := by
  unfold pi_X3_isUnder_e
  refine j_iload_n (i := 0) X dX3_isUnder_0 rfl rfl ?_
  refine j_istore_n (i := 2) (Lq := [(0, .int v0), (1, .int v1), (2, .int v0)]) X dX3_isUnder_1 rfl (by decide) rfl ?_
  refine j_iconst (v := 0) X dX3_isUnder_2 rfl ?_
  refine j_istore_n (i := 3) (Lq := [(0, .int v0), (1, .int v1), (2, .int v0), (3, .int 0)]) X dX3_isUnder_3 rfl (by decide) rfl ?_
  exact j_lp (Lf := fun x => [(0, .int v0), (1, .int v1), (2, .int x.1), (3, .int x.2.1)]) (Mf := fun x => x.2.2) (fun rc4 hc4 x => pj_X3_isUnder_4 X hr v0 v1 rc4 hc4 x.1 x.2.1 x.2.2) FU (v0, 0, M)
def mi_X3_isUnder (v0 : Int32) (v1 : Int32) (M : Mem) : Option (Int32 × Mem) := pi_X3_isUnder_e v0 v1 M
theorem ct_X3_isUnder (l : Launch) (g : Gh) (v0 : Int32) (v1 : Int32) (M : Mem) : CtI l g yX3_isUnder cX3_isUnder 4 (some (.boolean)) 0 [.int v0, .int v1] M (mi_X3_isUnder v0 v1 M) := ctI_of (own := RX3) (L := [(0, .int v0), (1, .int v1)]) (by decide +kernel) rfl (Nat.le_of_ble_eq_true rfl) rfl (fun p e s m args below meth c X hr => pj_X3_isUnder_e X hr v0 v1  M)

def pi_X3_as_20 (v1 : Int32) (v2 : Int32) (M : Mem) : Option (Int32 × Mem) := bd (mi_X3_finding 0 M) fun r_18 M_17 => some (r_18, M_17)
set_option maxRecDepth 100000 in
set_option maxHeartbeats 4000000 in
theorem pj_X3_as_20 {p : Program} {l : Launch} {e : Env} {R : Room} {s : State} {m : MethodId} {args : Array Value} {below : List Frame} {meth : Method} {c : Code} {g : Gh} (X : Cx p l e R s m args below meth c g cX3_as 4 (0, 0) RX3 1) (hr : meth.sig.returnType = (some (.int))) (v1 : Int32) (v2 : Int32) (M : Mem) : J p l e R s m args below meth c g 4 (0, 0) (QfI below args s g) (pi_X3_as_20 v1 v2 M) M 20 [(0, .ref (gA g 0)), (1, .int v1), (2, .int v2)] [] := by
  unfold pi_X3_as_20
  refine j_aload_n (i := 0) X dX3_as_20 rfl rfl ?_
  refine j_iconst (v := 0) X dX3_as_21 rfl ?_
  refine k_cVI (As := [.int 0]) (rest := []) (by decide) (cf_hd _) rfl X (ct_X3_finding l g 0 M) wl_X3_44 rfl rfl (by decide) (Nat.le_of_ble_eq_true rfl) dX3_as_22 (fun r_18 M_17 => ?_)
  exact j_iret X hr dX3_as_25
def pi_X3_as_e (v1 : Int32) (v2 : Int32) (M : Mem) : Option (Int32 × Mem) := bd (mi_X3_isOutside v1 0 9 M) fun r_2 M_1 => if r_2 = 0 then (bd (mi_X3_isOutside v2 0 6 M_1) fun r_4 M_3 => if r_4 = 0 then (gd (inb v1 10) <| bI (M_3 (1 + 1) v1.toNatClampNeg) fun v3_6 => bd (mi_X2_lacks 1 v3_6 M_3) fun r_8 M_7 => if r_8 = 0 then (bd (mi_X2_trait 1 v3_6 0 M_7) fun r_10 M_9 => bd (mi_X3_isUnder r_10 v2 M_9) fun r_12 M_11 => if r_12 = 0 then (bd (mi_X3_finding 2 M_11) fun r_14 M_13 => some (r_14, M_13)) else (some (v3_6, M_11))) else (bd (mi_X3_finding 5 M_7) fun r_16 M_15 => some (r_16, M_15))) else (pi_X3_as_20 v1 v2 M_3)) else (pi_X3_as_20 v1 v2 M_1)
set_option maxRecDepth 100000 in
set_option maxHeartbeats 4000000 in
theorem pj_X3_as_e {p : Program} {l : Launch} {e : Env} {R : Room} {s : State} {m : MethodId} {args : Array Value} {below : List Frame} {meth : Method} {c : Code} {g : Gh} (X : Cx p l e R s m args below meth c g cX3_as 4 (0, 0) RX3 1) (hr : meth.sig.returnType = (some (.int))) (v1 : Int32) (v2 : Int32) (M : Mem) : J p l e R s m args below meth c g 4 (0, 0) (QfI below args s g) (pi_X3_as_e v1 v2 M) M 0 [(0, .ref (gA g 0)), (1, .int v1), (2, .int v2)] [] := by
  unfold pi_X3_as_e
  refine j_iload_n (i := 1) X dX3_as_0 rfl rfl ?_
  refine j_iconst (v := 0) X dX3_as_1 rfl ?_
  refine j_bipush (v := 9) X dX3_as_2 rfl ?_
  refine k_cSI (As := [.int v1, .int 0, .int 9]) (rest := []) X (ct_X3_isOutside l g v1 0 9 M) wl_X3_40 rfl rfl (by decide) (Nat.le_of_ble_eq_true rfl) dX3_as_4 (fun r_2 M_1 => ?_)
  refine j_if_ne (tgt := 20) X dX3_as_7 (by decide) ?_ ?_
  · refine j_iload_n (i := 2) X dX3_as_10 rfl rfl ?_
    refine j_iconst (v := 0) X dX3_as_11 rfl ?_
    refine j_bipush (v := 6) X dX3_as_12 rfl ?_
    refine k_cSI (As := [.int v2, .int 0, .int 6]) (rest := []) X (ct_X3_isOutside l g v2 0 6 M_1) wl_X3_40 rfl rfl (by decide) (Nat.le_of_ble_eq_true rfl) dX3_as_14 (fun r_4 M_3 => ?_)
    refine j_if_eq (tgt := 26) X dX3_as_17 (by decide) ?_ ?_
    · refine j_aload_n (i := 0) X dX3_as_26 rfl rfl ?_
      refine j_get_hd 0 X (by decide) wq_172 rfl dX3_as_27 ?_
      refine j_getN_sh sh_1 4 X (by decide) (by decide +kernel) rfl dX3_as_30 ?_
      refine j_iload_n (i := 1) X dX3_as_33 rfl rfl ?_
      refine j_iald X (ia_sh1 sh_1) dX3_as_34 (fun h_5 => ?_)
      refine j_bI (fun v3_6 => ?_)
      refine j_istore_n (i := 3) (Lq := [(0, .ref (gA g 0)), (1, .int v1), (2, .int v2), (3, .int v3_6)]) X dX3_as_35 rfl (by decide) rfl ?_
      refine j_aload_n (i := 0) X dX3_as_36 rfl rfl ?_
      refine j_get_hd 0 X (by decide) wq_172 rfl dX3_as_37 ?_
      refine j_iload_n (i := 3) X dX3_as_40 rfl rfl ?_
      refine k_cVI (As := [.int v3_6]) (rest := []) sh_1.lt (cf_sh sh_1 _) rfl X (ct_X2_lacks l g 1 v3_6 sh_1 M_3) wl_X3_64 rfl rfl (by decide) (Nat.le_of_ble_eq_true rfl) dX3_as_41 (fun r_8 M_7 => ?_)
      refine j_if_eq (tgt := 53) X dX3_as_44 (by decide) ?_ ?_
      · refine j_aload_n (i := 0) X dX3_as_53 rfl rfl ?_
        refine j_get_hd 0 X (by decide) wq_172 rfl dX3_as_54 ?_
        refine j_iload_n (i := 3) X dX3_as_57 rfl rfl ?_
        refine j_iconst (v := 0) X dX3_as_58 rfl ?_
        refine k_cVI (As := [.int v3_6, .int 0]) (rest := []) sh_1.lt (cf_sh sh_1 _) rfl X (ct_X2_trait l g 1 v3_6 0 sh_1 M_7) wl_X3_79 rfl rfl (by decide) (Nat.le_of_ble_eq_true rfl) dX3_as_59 (fun r_10 M_9 => ?_)
        refine j_iload_n (i := 2) X dX3_as_62 rfl rfl ?_
        refine k_cSI (As := [.int r_10, .int v2]) (rest := []) X (ct_X3_isUnder l g r_10 v2 M_9) wl_X3_207 rfl rfl (by decide) (Nat.le_of_ble_eq_true rfl) dX3_as_63 (fun r_12 M_11 => ?_)
        refine j_if_eq (tgt := 73) X dX3_as_66 (by decide) ?_ ?_
        · refine j_aload_n (i := 0) X dX3_as_73 rfl rfl ?_
          refine j_iconst (v := 2) X dX3_as_74 rfl ?_
          refine k_cVI (As := [.int 2]) (rest := []) (by decide) (cf_hd _) rfl X (ct_X3_finding l g 2 M_11) wl_X3_44 rfl rfl (by decide) (Nat.le_of_ble_eq_true rfl) dX3_as_75 (fun r_14 M_13 => ?_)
          exact j_iret X hr dX3_as_78
        · refine j_iload_n (i := 3) X dX3_as_69 rfl rfl ?_
          refine j_goto (tgt := 78) X dX3_as_70 (by decide) ?_
          exact j_iret X hr dX3_as_78
      · refine j_aload_n (i := 0) X dX3_as_47 rfl rfl ?_
        refine j_iconst (v := 5) X dX3_as_48 rfl ?_
        refine k_cVI (As := [.int 5]) (rest := []) (by decide) (cf_hd _) rfl X (ct_X3_finding l g 5 M_7) wl_X3_44 rfl rfl (by decide) (Nat.le_of_ble_eq_true rfl) dX3_as_49 (fun r_16 M_15 => ?_)
        exact j_iret X hr dX3_as_52
    · exact pj_X3_as_20 X hr v1 v2 M_3
  · exact pj_X3_as_20 X hr v1 v2 M_1
def mi_X3_as (v1 : Int32) (v2 : Int32) (M : Mem) : Option (Int32 × Mem) := pi_X3_as_e v1 v2 M
theorem ct_X3_as (l : Launch) (g : Gh) (v1 : Int32) (v2 : Int32) (M : Mem) : CtI l g yX3_as cX3_as 4 (some (.int)) 1 [.ref (gA g 0), .int v1, .int v2] M (mi_X3_as v1 v2 M) := ctI_of (own := RX3) (L := [(0, .ref (gA g 0)), (1, .int v1), (2, .int v2)]) (by decide +kernel) rfl (Nat.le_of_ble_eq_true rfl) rfl (fun p e s m args below meth c X hr => pj_X3_as_e X hr v1 v2  M)

def pi_X3_sheet_35 (v1 : Int32) (v2 : Int32) (v3 : Int32) (M : Mem) : Option (Int32 × Mem) := if 0 ≤ v3 then (if v3 ≤ 40 then (gd (inb v1 4) <| bv (mi_X1_begin (40 + 2 * v1.toNatClampNeg) v2 v3 M) fun M_4 => gd (inb v1 4) <| some (M_4 (40 + 2 * v1.toNatClampNeg) 1, M_4)) else (bd (mi_X3_finding 0 M) fun r_7 M_6 => some (r_7, M_6))) else (bd (mi_X3_finding 6 M) fun r_9 M_8 => some (r_9, M_8))
set_option maxRecDepth 100000 in
set_option maxHeartbeats 4000000 in
theorem pj_X3_sheet_35 {p : Program} {l : Launch} {e : Env} {R : Room} {s : State} {m : MethodId} {args : Array Value} {below : List Frame} {meth : Method} {c : Code} {g : Gh} (X : Cx p l e R s m args below meth c g cX3_sheet 4 (0, 0) RX3 2) (hr : meth.sig.returnType = (some (.int))) (v1 : Int32) (v2 : Int32) (v3 : Int32) (M : Mem) : J p l e R s m args below meth c g 4 (0, 0) (QfI below args s g) (pi_X3_sheet_35 v1 v2 v3 M) M 35 [(0, .ref (gA g 0)), (1, .int v1), (2, .int v2), (3, .int v3)] [] := by
  unfold pi_X3_sheet_35
  refine j_iload_n (i := 3) X dX3_sheet_35 rfl rfl ?_
  refine j_if_ge (tgt := 46) X dX3_sheet_36 (by decide) ?_ ?_
  · refine j_iload_n (i := 3) X dX3_sheet_46 rfl rfl ?_
    refine j_bipush (v := 40) X dX3_sheet_47 rfl ?_
    refine j_icmp_le (tgt := 58) X dX3_sheet_49 (by decide) ?_ ?_
    · refine j_aload_n (i := 0) X dX3_sheet_58 rfl rfl ?_
      refine j_get_hd 5 X (by decide) wq_284 rfl dX3_sheet_59 ?_
      refine j_iload_n (i := 1) X dX3_sheet_62 rfl rfl ?_
      refine j_ald_sht X dX3_sheet_63 (fun h_3 => ?_)
      refine j_iload_n (i := 2) X dX3_sheet_64 rfl rfl ?_
      refine j_iload_n (i := 3) X dX3_sheet_65 rfl rfl ?_
      refine k_cVV (As := [.int v2, .int v3]) (rest := []) (st_in h_3).lt (cf_st (st_in h_3) _) rfl X (ct_X1_begin l g (40 + 2 * v1.toNatClampNeg) v2 v3 (st_in h_3) M) wl_X3_213 rfl rfl (by decide) (Nat.le_of_ble_eq_true rfl) dX3_sheet_66 (fun M_4 => ?_)
      refine j_aload_n (i := 0) X dX3_sheet_69 rfl rfl ?_
      refine j_get_hd 5 X (by decide) wq_284 rfl dX3_sheet_70 ?_
      refine j_iload_n (i := 1) X dX3_sheet_73 rfl rfl ?_
      refine j_ald_sht X dX3_sheet_74 (fun h_5 => ?_)
      refine j_getN_st (st_in h_5) 1 X (by decide) (by decide +kernel) rfl dX3_sheet_75 ?_
      exact j_iret X hr dX3_sheet_78
    · refine j_aload_n (i := 0) X dX3_sheet_52 rfl rfl ?_
      refine j_iconst (v := 0) X dX3_sheet_53 rfl ?_
      refine k_cVI (As := [.int 0]) (rest := []) (by decide) (cf_hd _) rfl X (ct_X3_finding l g 0 M) wl_X3_44 rfl rfl (by decide) (Nat.le_of_ble_eq_true rfl) dX3_sheet_54 (fun r_7 M_6 => ?_)
      exact j_iret X hr dX3_sheet_57
  · refine j_aload_n (i := 0) X dX3_sheet_39 rfl rfl ?_
    refine j_bipush (v := 6) X dX3_sheet_40 rfl ?_
    refine k_cVI (As := [.int 6]) (rest := []) (by decide) (cf_hd _) rfl X (ct_X3_finding l g 6 M) wl_X3_44 rfl rfl (by decide) (Nat.le_of_ble_eq_true rfl) dX3_sheet_42 (fun r_9 M_8 => ?_)
    exact j_iret X hr dX3_sheet_45
def pi_X3_sheet_29 (v1 : Int32) (v2 : Int32) (v3 : Int32) (M : Mem) : Option (Int32 × Mem) := bd (mi_X3_finding 0 M) fun r_11 M_10 => some (r_11, M_10)
set_option maxRecDepth 100000 in
set_option maxHeartbeats 4000000 in
theorem pj_X3_sheet_29 {p : Program} {l : Launch} {e : Env} {R : Room} {s : State} {m : MethodId} {args : Array Value} {below : List Frame} {meth : Method} {c : Code} {g : Gh} (X : Cx p l e R s m args below meth c g cX3_sheet 4 (0, 0) RX3 2) (hr : meth.sig.returnType = (some (.int))) (v1 : Int32) (v2 : Int32) (v3 : Int32) (M : Mem) : J p l e R s m args below meth c g 4 (0, 0) (QfI below args s g) (pi_X3_sheet_29 v1 v2 v3 M) M 29 [(0, .ref (gA g 0)), (1, .int v1), (2, .int v2), (3, .int v3)] [] := by
  unfold pi_X3_sheet_29
  refine j_aload_n (i := 0) X dX3_sheet_29 rfl rfl ?_
  refine j_iconst (v := 0) X dX3_sheet_30 rfl ?_
  refine k_cVI (As := [.int 0]) (rest := []) (by decide) (cf_hd _) rfl X (ct_X3_finding l g 0 M) wl_X3_44 rfl rfl (by decide) (Nat.le_of_ble_eq_true rfl) dX3_sheet_31 (fun r_11 M_10 => ?_)
  exact j_iret X hr dX3_sheet_34
def pi_X3_sheet_e (v1 : Int32) (v2 : Int32) (v3 : Int32) (M : Mem) : Option (Int32 × Mem) := bd (mi_X3_isNoSheet v1 M) fun r_2 M_1 => if r_2 = 0 then (if v2 = 0 then (pi_X3_sheet_35 v1 v2 v3 M_1) else (if v2 = 8 then (pi_X3_sheet_35 v1 v2 v3 M_1) else (if v2 = 16 then (pi_X3_sheet_35 v1 v2 v3 M_1) else (if v2 = 32 then (pi_X3_sheet_35 v1 v2 v3 M_1) else (pi_X3_sheet_29 v1 v2 v3 M_1))))) else (pi_X3_sheet_29 v1 v2 v3 M_1)
set_option maxRecDepth 100000 in
set_option maxHeartbeats 4000000 in
theorem pj_X3_sheet_e {p : Program} {l : Launch} {e : Env} {R : Room} {s : State} {m : MethodId} {args : Array Value} {below : List Frame} {meth : Method} {c : Code} {g : Gh} (X : Cx p l e R s m args below meth c g cX3_sheet 4 (0, 0) RX3 2) (hr : meth.sig.returnType = (some (.int))) (v1 : Int32) (v2 : Int32) (v3 : Int32) (M : Mem) : J p l e R s m args below meth c g 4 (0, 0) (QfI below args s g) (pi_X3_sheet_e v1 v2 v3 M) M 0 [(0, .ref (gA g 0)), (1, .int v1), (2, .int v2), (3, .int v3)] [] := by
  unfold pi_X3_sheet_e
  refine j_iload_n (i := 1) X dX3_sheet_0 rfl rfl ?_
  refine k_cSI (As := [.int v1]) (rest := []) X (ct_X3_isNoSheet l g v1 M) wl_X3_210 rfl rfl (by decide) (Nat.le_of_ble_eq_true rfl) dX3_sheet_1 (fun r_2 M_1 => ?_)
  refine j_if_ne (tgt := 29) X dX3_sheet_4 (by decide) ?_ ?_
  · refine j_iload_n (i := 2) X dX3_sheet_7 rfl rfl ?_
    refine j_if_eq (tgt := 35) X dX3_sheet_8 (by decide) ?_ ?_
    · exact pj_X3_sheet_35 X hr v1 v2 v3 M_1
    · refine j_iload_n (i := 2) X dX3_sheet_11 rfl rfl ?_
      refine j_bipush (v := 8) X dX3_sheet_12 rfl ?_
      refine j_icmp_eq (tgt := 35) X dX3_sheet_14 (by decide) ?_ ?_
      · exact pj_X3_sheet_35 X hr v1 v2 v3 M_1
      · refine j_iload_n (i := 2) X dX3_sheet_17 rfl rfl ?_
        refine j_bipush (v := 16) X dX3_sheet_18 rfl ?_
        refine j_icmp_eq (tgt := 35) X dX3_sheet_20 (by decide) ?_ ?_
        · exact pj_X3_sheet_35 X hr v1 v2 v3 M_1
        · refine j_iload_n (i := 2) X dX3_sheet_23 rfl rfl ?_
          refine j_bipush (v := 32) X dX3_sheet_24 rfl ?_
          refine j_icmp_eq (tgt := 35) X dX3_sheet_26 (by decide) ?_ ?_
          · exact pj_X3_sheet_35 X hr v1 v2 v3 M_1
          · exact pj_X3_sheet_29 X hr v1 v2 v3 M_1
  · exact pj_X3_sheet_29 X hr v1 v2 v3 M_1
def mi_X3_sheet (v1 : Int32) (v2 : Int32) (v3 : Int32) (M : Mem) : Option (Int32 × Mem) := pi_X3_sheet_e v1 v2 v3 M
theorem ct_X3_sheet (l : Launch) (g : Gh) (v1 : Int32) (v2 : Int32) (v3 : Int32) (M : Mem) : CtI l g yX3_sheet cX3_sheet 4 (some (.int)) 2 [.ref (gA g 0), .int v1, .int v2, .int v3] M (mi_X3_sheet v1 v2 v3 M) := ctI_of (own := RX3) (L := [(0, .ref (gA g 0)), (1, .int v1), (2, .int v2), (3, .int v3)]) (by decide +kernel) rfl (Nat.le_of_ble_eq_true rfl) rfl (fun p e s m args below meth c X hr => pj_X3_sheet_e X hr v1 v2 v3  M)
