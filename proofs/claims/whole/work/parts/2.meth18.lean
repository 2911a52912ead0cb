def pi_X4_rains_93 (v1 : Int32) (v2 : Int32) (rc39 : Int32 × Mem → Option (Int32 × Mem)) (M : Mem) : Option (Int32 × Mem) := bv (mi_X4_age M) fun M_17 => bI (v2 + 1) fun v2_18 => rc39 (v2_18, M_17)
set_option maxRecDepth 100000 in
set_option maxHeartbeats 4000000 in
theorem pj_X4_rains_93 {p : Program} {l : Launch} {e : Env} {R : Room} {s : State} {m : MethodId} {args : Array Value} {below : List Frame} {meth : Method} {c : Code} {g : Gh} (X : Cx p l e R s m args below meth c g cX4_rains 4 (0, 0) RX4 10) (hr : meth.sig.returnType = (some (.int))) (v1 : Int32) (v2 : Int32) (rc39 : Int32 × Mem → Option (Int32 × Mem)) (hc39 : ∀ x, J p l e R s m args below meth c g 4 (0, 0) (QfI below args s g) (rc39 x) x.2 39 [(0, .ref (gA g 49)), (1, .int v1), (2, .int x.1)] []) (M : Mem) : J p l e R s m args below meth c g 4 (0, 0) (QfI below args s g) (pi_X4_rains_93 v1 v2 rc39 M) M 93 [(0, .ref (gA g 49)), (1, .int v1), (2, .int v2)] [] := by
  unfold pi_X4_rains_93
  refine j_aload_n (i := 0) X dX4_rains_93 rfl rfl ?_
  refine k_cVV (As := []) (rest := []) (by decide) (cf_md _) rfl X (ct_X4_age l g M) wl_X4_162 rfl rfl (by decide) (Nat.le_of_ble_eq_true rfl) dX4_rains_94 (fun M_17 => ?_)
  refine j_iincB (i := 2) (y := v2 + 1) (Lf := fun v2_18 => [(0, .ref (gA g 49)), (1, .int v1), (2, .int v2_18)]) X dX4_rains_97 rfl rfl (by decide) (fun _ => rfl) (fun v2_18 => ?_)
  refine j_goto (tgt := 39) X dX4_rains_100 (by decide) ?_
  exact hc39 (v2_18, M_17)
def pi_X4_rains_39 (v1 : Int32) (rc39 : Int32 × Mem → Option (Int32 × Mem)) (v2 : Int32) (M : Mem) : Option (Int32 × Mem) := if v1 ≤ v2 then (bd (mi_X4_sumOf 4 M) fun r_7 M_6 => some (r_7, M_6)) else (bd (mi_X4_drawn M) fun r_9 M_8 => gd (inb 3 62) <| bM (up M_8 50 (3 : Int32).toNatClampNeg (r_9 - r_9 / 10 * 10)) fun M_11 => bd (mi_X4_drawn M_11) fun r_13 M_12 => bI (r_13 - r_13 / 8 * 8) fun v3_14 => bd (mi_X4_isHill v3_14 M_12) fun r_16 M_15 => if r_16 = 0 then (pi_X4_rains_93 v1 v2 rc39 M_15) else (bd (mi_X4_at v3_14 3 M_15) fun r_20 M_19 => bd (mi_X4_hillIs v3_14 3 M_19) fun r_22 M_21 => gd (inb r_20 62) <| bM (up M_21 50 r_20.toNatClampNeg ((r_22 + 1) - (r_22 + 1) / 4 * 4)) fun M_24 => pi_X4_rains_93 v1 v2 rc39 M_24))
set_option maxRecDepth 100000 in
set_option maxHeartbeats 4000000 in
theorem pj_X4_rains_39 {p : Program} {l : Launch} {e : Env} {R : Room} {s : State} {m : MethodId} {args : Array Value} {below : List Frame} {meth : Method} {c : Code} {g : Gh} (X : Cx p l e R s m args below meth c g cX4_rains 4 (0, 0) RX4 10) (hr : meth.sig.returnType = (some (.int))) (v1 : Int32) (rc39 : Int32 × Mem → Option (Int32 × Mem)) (hc39 : ∀ x, J p l e R s m args below meth c g 4 (0, 0) (QfI below args s g) (rc39 x) x.2 39 [(0, .ref (gA g 49)), (1, .int v1), (2, .int x.1)] []) (v2 : Int32) (M : Mem) : J p l e R s m args below meth c g 4 (0, 0) (QfI below args s g) (pi_X4_rains_39 v1 rc39 v2 M) M 39 [(0, .ref (gA g 49)), (1, .int v1), (2, .int v2)] [] := by
  unfold pi_X4_rains_39
  refine j_iload_n (i := 2) X dX4_rains_39 rfl rfl ?_
  refine j_iload_n (i := 1) X dX4_rains_40 rfl rfl ?_
  refine j_icmp_ge (tgt := 103) X dX4_rains_41 (by decide) ?_ ?_
  · refine j_aload_n (i := 0) X dX4_rains_103 rfl rfl ?_
    refine j_iconst (v := 4) X dX4_rains_104 rfl ?_
    refine k_cVI (As := [.int 4]) (rest := []) (by decide) (cf_md _) rfl X (ct_X4_sumOf l g 4 M) wl_X4_175 rfl rfl (by decide) (Nat.le_of_ble_eq_true rfl) dX4_rains_105 (fun r_7 M_6 => ?_)
    exact j_iret X hr dX4_rains_108
  · refine j_aload_n (i := 0) X dX4_rains_44 rfl rfl ?_
    refine j_get_md 0 X (by decide) wq_346 rfl dX4_rains_45 ?_
    refine j_iconst (v := 3) X dX4_rains_48 rfl ?_
    refine j_aload_n (i := 0) X dX4_rains_49 rfl rfl ?_
    refine k_cVI (As := []) (rest := [.int 3, .ref (gA g 50)]) (by decide) (cf_md _) rfl X (ct_X4_drawn l g M) wl_X4_247 rfl rfl (by decide) (Nat.le_of_ble_eq_true rfl) dX4_rains_50 (fun r_9 M_8 => ?_)
    refine j_bipush (v := 10) X dX4_rains_53 rfl ?_
    refine j_iremc X dX4_rains_55 (by decide) ?_
    refine j_iast X ia_50 dX4_rains_56 (fun h_10 => ?_)
    refine j_bM (fun M_11 => ?_)
    refine j_aload_n (i := 0) X dX4_rains_57 rfl rfl ?_
    refine k_cVI (As := []) (rest := []) (by decide) (cf_md _) rfl X (ct_X4_drawn l g M_11) wl_X4_247 rfl rfl (by decide) (Nat.le_of_ble_eq_true rfl) dX4_rains_58 (fun r_13 M_12 => ?_)
    refine j_bipush (v := 8) X dX4_rains_61 rfl ?_
    refine j_iremc X dX4_rains_63 (by decide) ?_
    refine j_bI (fun v3_14 => ?_)
    refine j_istore_n (i := 3) (Lq := [(0, .ref (gA g 49)), (1, .int v1), (2, .int v2), (3, .int v3_14)]) X dX4_rains_64 rfl (by decide) rfl ?_
    refine j_aload_n (i := 0) X dX4_rains_65 rfl rfl ?_
    refine j_iload_n (i := 3) X dX4_rains_66 rfl rfl ?_
    refine k_cVI (As := [.int v3_14]) (rest := []) (by decide) (cf_md _) rfl X (ct_X4_isHill l g v3_14 M_12) wl_X4_135 rfl rfl (by decide) (Nat.le_of_ble_eq_true rfl) dX4_rains_67 (fun r_16 M_15 => ?_)
    refine j_if_eq (tgt := 93) X dX4_rains_70 (by decide) ?_ ?_
    · refine j_pick [0, 1, 2] (Lq := [(0, .ref (gA g 49)), (1, .int v1), (2, .int v2)]) rfl ?_
      exact pj_X4_rains_93 X hr v1 v2 rc39 hc39 M_15
    · refine j_aload_n (i := 0) X dX4_rains_73 rfl rfl ?_
      refine j_get_md 0 X (by decide) wq_346 rfl dX4_rains_74 ?_
      refine j_iload_n (i := 3) X dX4_rains_77 rfl rfl ?_
      refine j_iconst (v := 3) X dX4_rains_78 rfl ?_
      refine k_cSI (As := [.int v3_14, .int 3]) (rest := [.ref (gA g 50)]) X (ct_X4_at l g v3_14 3 M_15) wl_X4_93 rfl rfl (by decide) (Nat.le_of_ble_eq_true rfl) dX4_rains_79 (fun r_20 M_19 => ?_)
      refine j_aload_n (i := 0) X dX4_rains_82 rfl rfl ?_
      refine j_iload_n (i := 3) X dX4_rains_83 rfl rfl ?_
      refine j_iconst (v := 3) X dX4_rains_84 rfl ?_
      refine k_cVI (As := [.int v3_14, .int 3]) (rest := [.int r_20, .ref (gA g 50)]) (by decide) (cf_md _) rfl X (ct_X4_hillIs l g v3_14 3 M_19) wl_X4_108 rfl rfl (by decide) (Nat.le_of_ble_eq_true rfl) dX4_rains_85 (fun r_22 M_21 => ?_)
      refine j_iconst (v := 1) X dX4_rains_88 rfl ?_
      refine j_iadd X dX4_rains_89 ?_
      refine j_iconst (v := 4) X dX4_rains_90 rfl ?_
      refine j_iremc X dX4_rains_91 (by decide) ?_
      refine j_iast X ia_50 dX4_rains_92 (fun h_23 => ?_)
      refine j_bM (fun M_24 => ?_)
      refine j_pick [0, 1, 2] (Lq := [(0, .ref (gA g 49)), (1, .int v1), (2, .int v2)]) rfl ?_
      exact pj_X4_rains_93 X hr v1 v2 rc39 hc39 M_24
def pi_X4_rains_e (v1 : Int32) (M : Mem) : Option (Int32 × Mem) := bd (mi_X4_within v1 1 20 M) fun r_2 M_1 => if r_2 = 0 then (bd (mi_X4_finding (-1000001) M_1) fun r_4 M_3 => some (r_4, M_3)) else (gd (inb 0 62) <| if ((M_1 50 (0 : Int32).toNatClampNeg) + v1) ≤ 99999 then (lp (fun rc39 x => pi_X4_rains_39 v1 rc39 x.1 x.2) FU (0, M_1)) else (bd (mi_X4_finding (-1000005) M_1) fun r_26 M_25 => some (r_26, M_25)))
set_option maxRecDepth 100000 in
set_option maxHeartbeats 4000000 in
theorem pj_X4_rains_e {p : Program} {l : Launch} {e : Env} {R : Room} {s : State} {m : MethodId} {args : Array Value} {below : List Frame} {meth : Method} {c : Code} {g : Gh} (X : Cx p l e R s m args below meth c g cX4_rains 4 (0, 0) RX4 10) (hr : meth.sig.returnType = (some (.int))) (v1 : Int32) (M : Mem) : J p l e R s m args below meth c g 4 (0, 0) (QfI below args s g) (pi_X4_rains_e v1 M) M 0 [(0, .ref (gA g 49)), (1, .int v1)] [] := by
  unfold pi_X4_rains_e
  refine j_iload_n (i := 1) X dX4_rains_0 rfl rfl ?_
  refine j_iconst (v := 1) X dX4_rains_1 rfl ?_
  refine j_bipush (v := 20) X dX4_rains_2 rfl ?_
  refine k_cSI (As := [.int v1, .int 1, .int 20]) (rest := []) X (ct_X4_within l g v1 1 20 M) wl_X4_85 rfl rfl (by decide) (Nat.le_of_ble_eq_true rfl) dX4_rains_4 (fun r_2 M_1 => ?_)
  refine j_if_ne (tgt := 17) X dX4_rains_7 (by decide) ?_ ?_
  · refine j_aload_n (i := 0) X dX4_rains_10 rfl rfl ?_
    refine j_ldc (v := (-1000001)) X wq_345 dX4_rains_11 ?_
    refine k_cVI (As := [.int (-1000001)]) (rest := []) (by decide) (cf_md _) rfl X (ct_X4_finding l g (-1000001) M_1) wl_X4_81 rfl rfl (by decide) (Nat.le_of_ble_eq_true rfl) dX4_rains_13 (fun r_4 M_3 => ?_)
    exact j_iret X hr dX4_rains_16
  · refine j_aload_n (i := 0) X dX4_rains_17 rfl rfl ?_
    refine j_get_md 0 X (by decide) wq_346 rfl dX4_rains_18 ?_
    refine j_iconst (v := 0) X dX4_rains_21 rfl ?_
    refine j_iald X ia_50 dX4_rains_22 (fun h_5 => ?_)
    refine j_iload_n (i := 1) X dX4_rains_23 rfl rfl ?_
    refine j_iadd X dX4_rains_24 ?_
    refine j_ldc (v := 99999) X wq_443 dX4_rains_25 ?_
    refine j_icmp_le (tgt := 37) X dX4_rains_27 (by decide) ?_ ?_
    · refine j_iconst (v := 0) X dX4_rains_37 rfl ?_
      refine j_istore_n (i := 2) (Lq := [(0, .ref (gA g 49)), (1, .int v1), (2, .int 0)]) X dX4_rains_38 rfl (by decide) rfl ?_
      exact j_lp (Lf := fun x => [(0, .ref (gA g 49)), (1, .int v1), (2, .int x.1)]) (Mf := fun x => x.2) (fun rc39 hc39 x => pj_X4_rains_39 X hr v1 rc39 hc39 x.1 x.2) FU (0, M_1)
    · refine j_aload_n (i := 0) X dX4_rains_30 rfl rfl ?_
      refine j_ldc (v := (-1000005)) X wq_452 dX4_rains_31 ?_
      refine k_cVI (As := [.int (-1000005)]) (rest := []) (by decide) (cf_md _) rfl X (ct_X4_finding l g (-1000005) M_1) wl_X4_81 rfl rfl (by decide) (Nat.le_of_ble_eq_true rfl) dX4_rains_33 (fun r_26 M_25 => ?_)
      exact j_iret X hr dX4_rains_36
def mi_X4_rains (v1 : Int32) (M : Mem) : Option (Int32 × Mem) := pi_X4_rains_e v1 M
theorem ct_X4_rains (l : Launch) (g : Gh) (v1 : Int32) (M : Mem) : CtI l g yX4_rains cX4_rains 4 (some (.int)) 10 [.ref (gA g 49), .int v1] M (mi_X4_rains v1 M) := ctI_of (own := RX4) (L := [(0, .ref (gA g 49)), (1, .int v1)]) (by decide +kernel) rfl (Nat.le_of_ble_eq_true rfl) rfl (fun p e s m args below meth c X hr => pj_X4_rains_e X hr v1  M)

def pi_X4_odds_19 (v1 : Int32) (v2 : Int32) (M : Mem) : Option (Int64 × Mem) := bd (mi_X4_finding (-1000001) M) fun r_4 M_3 => some (r_4.toInt64, M_3)
set_option maxRecDepth 100000 in
set_option maxHeartbeats 4000000 in
theorem pj_X4_odds_19 {p : Program} {l : Launch} {e : Env} {R : Room} {s : State} {m : MethodId} {args : Array Value} {below : List Frame} {meth : Method} {c : Code} {g : Gh} (X : Cx p l e R s m args below meth c g cX4_odds 9 (0, 0) RX4 5) (hr : meth.sig.returnType = (some (.long))) (v1 : Int32) (v2 : Int32) (M : Mem) : J p l e R s m args below meth c g 9 (0, 0) (QfL below args s g) (pi_X4_odds_19 v1 v2 M) M 19 [(0, .ref (gA g 49)), (1, .int v1), (2, .int v2)] [] := by
  unfold pi_X4_odds_19
  refine j_aload_n (i := 0) X dX4_odds_19 rfl rfl ?_
  refine j_ldc (v := (-1000001)) X wq_345 dX4_odds_20 ?_
  refine k_cVI (As := [.int (-1000001)]) (rest := []) (by decide) (cf_md _) rfl X (ct_X4_finding l g (-1000001) M) wl_X4_81 rfl rfl (by decide) (Nat.le_of_ble_eq_true rfl) dX4_odds_22 (fun r_4 M_3 => ?_)
  refine j_i2l X dX4_odds_25 ?_
  exact j_lret X hr dX4_odds_26
def pi_X4_odds_78 (v1 : Int32) (v2 : Int32) (v3 : Int32) (v4 : Int32) (rc78 : Int64 × Int32 × Mem → Option (Int64 × Mem)) (v6 : Int64) (v8 : Int32) (M : Mem) : Option (Int64 × Mem) := if v1 ≤ v8 then (some (v6, M)) else (if v2 = 0 then (gd (!(v4 == 0)) <| bL (v6 * ((v3 / v4).toInt64)) fun v6_13 => bI (v8 + 1) fun v8_14 => rc78 (v6_13, v8_14, M)) else (gd (!(v4 == 0)) <| bL (v6 * ((8 / v4).toInt64)) fun v6_15 => bI (v8 + 1) fun v8_16 => rc78 (v6_15, v8_16, M)))
set_option maxRecDepth 100000 in
set_option maxHeartbeats 4000000 in
theorem pj_X4_odds_78 {p : Program} {l : Launch} {e : Env} {R : Room} {s : State} {m : MethodId} {args : Array Value} {below : List Frame} {meth : Method} {c : Code} {g : Gh} (X : Cx p l e R s m args below meth c g cX4_odds 9 (0, 0) RX4 5) (hr : meth.sig.returnType = (some (.long))) (v1 : Int32) (v2 : Int32) (v3 : Int32) (v4 : Int32) (rc78 : Int64 × Int32 × Mem → Option (Int64 × Mem)) (hc78 : ∀ x, J p l e R s m args below meth c g 9 (0, 0) (QfL below args s g) (rc78 x) x.2.2 78 [(0, .ref (gA g 49)), (1, .int v1), (2, .int v2), (3, .int v3), (4, .int v4), (6, .long x.1), (8, .int x.2.1)] []) (v6 : Int64) (v8 : Int32) (M : Mem) : J p l e R s m args below meth c g 9 (0, 0) (QfL below args s g) (pi_X4_odds_78 v1 v2 v3 v4 rc78 v6 v8 M) M 78 [(0, .ref (gA g 49)), (1, .int v1), (2, .int v2), (3, .int v3), (4, .int v4), (6, .long v6), (8, .int v8)] [] := by
  unfold pi_X4_odds_78
  refine j_iload (i := 8) X dX4_odds_78 rfl ?_
  refine j_iload_n (i := 1) X dX4_odds_80 rfl rfl ?_
  refine j_icmp_ge (tgt := 109) X dX4_odds_81 (by decide) ?_ ?_
  · refine j_lload (i := 6) X dX4_odds_109 rfl ?_
    exact j_lret X hr dX4_odds_111
  · refine j_lload (i := 6) X dX4_odds_84 rfl ?_
    refine j_iload_n (i := 2) X dX4_odds_86 rfl rfl ?_
    refine j_if_ne (tgt := 94) X dX4_odds_87 (by decide) ?_ ?_
    · refine j_iload_n (i := 3) X dX4_odds_90 rfl rfl ?_
      refine j_goto (tgt := 96) X dX4_odds_91 (by decide) ?_
      refine j_iload (i := 4) X dX4_odds_96 rfl ?_
      refine j_idiv X dX4_odds_98 ?_
      refine j_i2l X dX4_odds_99 ?_
      refine j_lmul X dX4_odds_100 ?_
      refine j_bL (fun v6_13 => ?_)
      refine j_lstore (i := 6) (Lq := [(0, .ref (gA g 49)), (1, .int v1), (2, .int v2), (3, .int v3), (4, .int v4), (6, .long v6_13), (8, .int v8)]) X dX4_odds_101 (by decide) rfl ?_
      refine j_iincB (i := 8) (y := v8 + 1) (Lf := fun v8_14 => [(0, .ref (gA g 49)), (1, .int v1), (2, .int v2), (3, .int v3), (4, .int v4), (6, .long v6_13), (8, .int v8_14)]) X dX4_odds_103 rfl rfl (by decide) (fun _ => rfl) (fun v8_14 => ?_)
      refine j_goto (tgt := 78) X dX4_odds_106 (by decide) ?_
      exact hc78 (v6_13, v8_14, M)
    · refine j_bipush (v := 8) X dX4_odds_94 rfl ?_
      refine j_iload (i := 4) X dX4_odds_96 rfl ?_
      refine j_idiv X dX4_odds_98 ?_
      refine j_i2l X dX4_odds_99 ?_
      refine j_lmul X dX4_odds_100 ?_
      refine j_bL (fun v6_15 => ?_)
      refine j_lstore (i := 6) (Lq := [(0, .ref (gA g 49)), (1, .int v1), (2, .int v2), (3, .int v3), (4, .int v4), (6, .long v6_15), (8, .int v8)]) X dX4_odds_101 (by decide) rfl ?_
      refine j_iincB (i := 8) (y := v8 + 1) (Lf := fun v8_16 => [(0, .ref (gA g 49)), (1, .int v1), (2, .int v2), (3, .int v3), (4, .int v4), (6, .long v6_15), (8, .int v8_16)]) X dX4_odds_103 rfl rfl (by decide) (fun _ => rfl) (fun v8_16 => ?_)
      refine j_goto (tgt := 78) X dX4_odds_106 (by decide) ?_
      exact hc78 (v6_15, v8_16, M)
def pi_X4_odds_49 (v1 : Int32) (v2 : Int32) (v3 : Int32) (rc49 : Int32 × Int32 × Mem → Option (Int64 × Mem)) (v4 : Int32) (v5 : Int32) (M : Mem) : Option (Int64 × Mem) := if v5 = 0 then (lp (fun rc78 x => pi_X4_odds_78 v1 v2 v3 v4 rc78 x.1 x.2.1 x.2.2) FU (1, 0, M)) else (gd (!(v5 == 0)) <| bI (v4 - v4 / v5 * v5) fun v6_17 => rc49 (v5, v6_17, M))
set_option maxRecDepth 100000 in
set_option maxHeartbeats 4000000 in
theorem pj_X4_odds_49 {p : Program} {l : Launch} {e : Env} {R : Room} {s : State} {m : MethodId} {args : Array Value} {below : List Frame} {meth : Method} {c : Code} {g : Gh} (X : Cx p l e R s m args below meth c g cX4_odds 9 (0, 0) RX4 5) (hr : meth.sig.returnType = (some (.long))) (v1 : Int32) (v2 : Int32) (v3 : Int32) (rc49 : Int32 × Int32 × Mem → Option (Int64 × Mem)) (hc49 : ∀ x, J p l e R s m args below meth c g 9 (0, 0) (QfL below args s g) (rc49 x) x.2.2 49 [(0, .ref (gA g 49)), (1, .int v1), (2, .int v2), (3, .int v3), (4, .int x.1), (5, .int x.2.1)] []) (v4 : Int32) (v5 : Int32) (M : Mem) : J p l e R s m args below meth c g 9 (0, 0) (QfL below args s g) (pi_X4_odds_49 v1 v2 v3 rc49 v4 v5 M) M 49 [(0, .ref (gA g 49)), (1, .int v1), (2, .int v2), (3, .int v3), (4, .int v4), (5, .int v5)] [] := by
  unfold pi_X4_odds_49
  refine j_iload (i := 5) X dX4_odds_49 rfl ?_
  refine j_if_eq (tgt := 72) X dX4_odds_51 (by decide) ?_ ?_
  · refine j_lconst (v := 1) X dX4_odds_72 rfl ?_
    refine j_lstore (i := 6) (Lq := [(0, .ref (gA g 49)), (1, .int v1), (2, .int v2), (3, .int v3), (4, .int v4), (5, .int v5), (6, .long 1)]) X dX4_odds_73 (by decide) rfl ?_
    refine j_iconst (v := 0) X dX4_odds_75 rfl ?_
    refine j_istore (i := 8) (Lq := [(0, .ref (gA g 49)), (1, .int v1), (2, .int v2), (3, .int v3), (4, .int v4), (5, .int v5), (6, .long 1), (8, .int 0)]) X dX4_odds_76 (by decide) rfl ?_
    refine j_pick [0, 1, 2, 3, 4, 6, 7] (Lq := [(0, .ref (gA g 49)), (1, .int v1), (2, .int v2), (3, .int v3), (4, .int v4), (6, .long 1), (8, .int 0)]) rfl ?_
    exact j_lp (Lf := fun x => [(0, .ref (gA g 49)), (1, .int v1), (2, .int v2), (3, .int v3), (4, .int v4), (6, .long x.1), (8, .int x.2.1)]) (Mf := fun x => x.2.2) (fun rc78 hc78 x => pj_X4_odds_78 X hr v1 v2 v3 v4 rc78 hc78 x.1 x.2.1 x.2.2) FU (1, 0, M)
  · refine j_iload (i := 4) X dX4_odds_54 rfl ?_
    refine j_iload (i := 5) X dX4_odds_56 rfl ?_
    refine j_irem X dX4_odds_58 ?_
    refine j_bI (fun v6_17 => ?_)
    refine j_istore (i := 6) (Lq := [(0, .ref (gA g 49)), (1, .int v1), (2, .int v2), (3, .int v3), (4, .int v4), (5, .int v5), (6, .int v6_17)]) X dX4_odds_59 (by decide) rfl ?_
    refine j_iload (i := 5) X dX4_odds_61 rfl ?_
    refine j_istore (i := 4) (Lq := [(0, .ref (gA g 49)), (1, .int v1), (2, .int v2), (3, .int v3), (4, .int v5), (5, .int v5), (6, .int v6_17)]) X dX4_odds_63 (by decide) rfl ?_
    refine j_iload (i := 6) X dX4_odds_65 rfl ?_
    refine j_istore (i := 5) (Lq := [(0, .ref (gA g 49)), (1, .int v1), (2, .int v2), (3, .int v3), (4, .int v5), (5, .int v6_17), (6, .int v6_17)]) X dX4_odds_67 (by decide) rfl ?_
    refine j_goto (tgt := 49) X dX4_odds_69 (by decide) ?_
    refine j_pick [0, 1, 2, 3, 4, 5] (Lq := [(0, .ref (gA g 49)), (1, .int v1), (2, .int v2), (3, .int v3), (4, .int v5), (5, .int v6_17)]) rfl ?_
    exact hc49 (v5, v6_17, M)
def pi_X4_odds_e (v1 : Int32) (v2 : Int32) (M : Mem) : Option (Int64 × Mem) := bd (mi_X4_within v1 0 20 M) fun r_2 M_1 => if r_2 = 0 then (pi_X4_odds_19 v1 v2 M_1) else (bd (mi_X4_within v2 0 1 M_1) fun r_6 M_5 => if r_6 = 0 then (pi_X4_odds_19 v1 v2 M_5) else (gd (inb 1 62) <| bd (mi_X4_whoMeets M_5) fun r_9 M_8 => bd (mi_X4_bits r_9 M_8) fun r_11 M_10 => bI ((M_5 50 (1 : Int32).toNatClampNeg) - r_11) fun v3_12 => lp (fun rc49 x => pi_X4_odds_49 v1 v2 v3_12 rc49 x.1 x.2.1 x.2.2) FU (8, v3_12, M_10)))
set_option maxRecDepth 100000 in
set_option maxHeartbeats 4000000 in
theorem pj_X4_odds_e {p : Program} {l : Launch} {e : Env} {R : Room} {s : State} {m : MethodId} {args : Array Value} {below : List Frame} {meth : Method} {c : Code} {g : Gh} (X : Cx p l e R s m args below meth c g cX4_odds 9 (0, 0) RX4 5) (hr : meth.sig.returnType = (some (.long))) (v1 : Int32) (v2 : Int32) (M : Mem) : J p l e R s m args below meth c g 9 (0, 0) (QfL below args s g) (pi_X4_odds_e v1 v2 M) M 0 [(0, .ref (gA g 49)), (1, .int v1), (2, .int v2)] [] := by
  unfold pi_X4_odds_e
  refine j_iload_n (i := 1) X dX4_odds_0 rfl rfl ?_
  refine j_iconst (v := 0) X dX4_odds_1 rfl ?_
  refine j_bipush (v := 20) X dX4_odds_2 rfl ?_
  refine k_cSI (As := [.int v1, .int 0, .int 20]) (rest := []) X (ct_X4_within l g v1 0 20 M) wl_X4_85 rfl rfl (by decide) (Nat.le_of_ble_eq_true rfl) dX4_odds_4 (fun r_2 M_1 => ?_)
  refine j_if_eq (tgt := 19) X dX4_odds_7 (by decide) ?_ ?_
  · exact pj_X4_odds_19 X hr v1 v2 M_1
  · refine j_iload_n (i := 2) X dX4_odds_10 rfl rfl ?_
    refine j_iconst (v := 0) X dX4_odds_11 rfl ?_
    refine j_iconst (v := 1) X dX4_odds_12 rfl ?_
    refine k_cSI (As := [.int v2, .int 0, .int 1]) (rest := []) X (ct_X4_within l g v2 0 1 M_1) wl_X4_85 rfl rfl (by decide) (Nat.le_of_ble_eq_true rfl) dX4_odds_13 (fun r_6 M_5 => ?_)
    refine j_if_ne (tgt := 27) X dX4_odds_16 (by decide) ?_ ?_
    · exact pj_X4_odds_19 X hr v1 v2 M_5
    · refine j_aload_n (i := 0) X dX4_odds_27 rfl rfl ?_
      refine j_get_md 0 X (by decide) wq_346 rfl dX4_odds_28 ?_
      refine j_iconst (v := 1) X dX4_odds_31 rfl ?_
      refine j_iald X ia_50 dX4_odds_32 (fun h_7 => ?_)
      refine j_aload_n (i := 0) X dX4_odds_33 rfl rfl ?_
      refine k_cVI (As := []) (rest := [.int (M_5 50 (1 : Int32).toNatClampNeg)]) (by decide) (cf_md _) rfl X (ct_X4_whoMeets l g M_5) wl_X4_171 rfl rfl (by decide) (Nat.le_of_ble_eq_true rfl) dX4_odds_34 (fun r_9 M_8 => ?_)
      refine k_cSI (As := [.int r_9]) (rest := [.int (M_5 50 (1 : Int32).toNatClampNeg)]) X (ct_X4_bits l g r_9 M_8) wl_X4_123 rfl rfl (by decide) (Nat.le_of_ble_eq_true rfl) dX4_odds_37 (fun r_11 M_10 => ?_)
      refine j_isub X dX4_odds_40 ?_
      refine j_bI (fun v3_12 => ?_)
      refine j_istore_n (i := 3) (Lq := [(0, .ref (gA g 49)), (1, .int v1), (2, .int v2), (3, .int v3_12)]) X dX4_odds_41 rfl (by decide) rfl ?_
      refine j_bipush (v := 8) X dX4_odds_42 rfl ?_
      refine j_istore (i := 4) (Lq := [(0, .ref (gA g 49)), (1, .int v1), (2, .int v2), (3, .int v3_12), (4, .int 8)]) X dX4_odds_44 (by decide) rfl ?_
      refine j_iload_n (i := 3) X dX4_odds_46 rfl rfl ?_
      refine j_istore (i := 5) (Lq := [(0, .ref (gA g 49)), (1, .int v1), (2, .int v2), (3, .int v3_12), (4, .int 8), (5, .int v3_12)]) X dX4_odds_47 (by decide) rfl ?_
      exact j_lp (Lf := fun x => [(0, .ref (gA g 49)), (1, .int v1), (2, .int v2), (3, .int v3_12), (4, .int x.1), (5, .int x.2.1)]) (Mf := fun x => x.2.2) (fun rc49 hc49 x => pj_X4_odds_49 X hr v1 v2 v3_12 rc49 hc49 x.1 x.2.1 x.2.2) FU (8, v3_12, M_10)
def mi_X4_odds (v1 : Int32) (v2 : Int32) (M : Mem) : Option (Int64 × Mem) := pi_X4_odds_e v1 v2 M
theorem ct_X4_odds (l : Launch) (g : Gh) (v1 : Int32) (v2 : Int32) (M : Mem) : CtL l g yX4_odds cX4_odds 9 (some (.long)) 5 [.ref (gA g 49), .int v1, .int v2] M (mi_X4_odds v1 v2 M) := ctL_of (own := RX4) (L := [(0, .ref (gA g 49)), (1, .int v1), (2, .int v2)]) (by decide +kernel) rfl (Nat.le_of_ble_eq_true rfl) rfl (fun p e s m args below meth c X hr => pj_X4_odds_e X hr v1 v2  M)

def pi_X4_seed_e (v1 : Int32) (M : Mem) : Option (Int32 × Mem) := bd (mi_X4_become 2 v1 M) fun r_2 M_1 => some (r_2, M_1)
set_option maxRecDepth 100000 in
set_option maxHeartbeats 4000000 in
theorem pj_X4_seed_e {p : Program} {l : Launch} {e : Env} {R : Room} {s : State} {m : MethodId} {args : Array Value} {below : List Frame} {meth : Method} {c : Code} {g : Gh} (X : Cx p l e R s m args below meth c g cX4_seed 2 (0, 0) RX4 1) (hr : meth.sig.returnType = (some (.int))) (v1 : Int32) (M : Mem) : J p l e R s m args below meth c g 2 (0, 0) (QfI below args s g) (pi_X4_seed_e v1 M) M 0 [(0, .ref (gA g 49)), (1, .int v1)] [] := by
  unfold pi_X4_seed_e
  refine j_aload_n (i := 0) X dX4_seed_0 rfl rfl ?_
  refine j_iconst (v := 2) X dX4_seed_1 rfl ?_
  refine j_iload_n (i := 1) X dX4_seed_2 rfl rfl ?_
  refine k_cVI (As := [.int 2, .int v1]) (rest := []) (by decide) (cf_md _) rfl X (ct_X4_become l g 2 v1 M) wl_X4_89 rfl rfl (by decide) (Nat.le_of_ble_eq_true rfl) dX4_seed_3 (fun r_2 M_1 => ?_)
  exact j_iret X hr dX4_seed_6
def mi_X4_seed (v1 : Int32) (M : Mem) : Option (Int32 × Mem) := pi_X4_seed_e v1 M
theorem ct_X4_seed (l : Launch) (g : Gh) (v1 : Int32) (M : Mem) : CtI l g yX4_seed cX4_seed 2 (some (.int)) 1 [.ref (gA g 49), .int v1] M (mi_X4_seed v1 M) := ctI_of (own := RX4) (L := [(0, .ref (gA g 49)), (1, .int v1)]) (by decide +kernel) rfl (Nat.le_of_ble_eq_true rfl) rfl (fun p e s m args below meth c X hr => pj_X4_seed_e X hr v1  M)

def pi_X4_feed_38 (v1 : Int32) (v2 : Int32) (rc38 : Int32 × Mem → Option (Int32 × Mem)) (v3 : Int32) (M : Mem) : Option (Int32 × Mem) := if v3 < 0 then (some (M 49 11, M)) else (gd (inb (M 49 11) 120) <| bM (up M 59 (M 49 11).toNatClampNeg ((v1 >>> ((8 * v3) &&& 31)) &&& 255)) fun M_7 => bM (up M_7 49 11 ((M_7 49 11) + 1)) fun M_8 => bI (v3 + (-1)) fun v3_9 => rc38 (v3_9, M_8))
set_option maxRecDepth 100000 in
set_option maxHeartbeats 4000000 in
theorem pj_X4_feed_38 {p : Program} {l : Launch} {e : Env} {R : Room} {s : State} {m : MethodId} {args : Array Value} {below : List Frame} {meth : Method} {c : Code} {g : Gh} (X : Cx p l e R s m args below meth c g cX4_feed 4 (0, 0) RX4 1) (hr : meth.sig.returnType = (some (.int))) (v1 : Int32) (v2 : Int32) (rc38 : Int32 × Mem → Option (Int32 × Mem)) (hc38 : ∀ x, J p l e R s m args below meth c g 4 (0, 0) (QfI below args s g) (rc38 x) x.2 38 [(0, .ref (gA g 49)), (1, .int v1), (2, .int v2), (3, .int x.1)] []) (v3 : Int32) (M : Mem) : J p l e R s m args below meth c g 4 (0, 0) (QfI below args s g) (pi_X4_feed_38 v1 v2 rc38 v3 M) M 38 [(0, .ref (gA g 49)), (1, .int v1), (2, .int v2), (3, .int v3)] [] := by
  unfold pi_X4_feed_38
  refine j_iload_n (i := 3) X dX4_feed_38 rfl rfl ?_
  refine j_if_lt (tgt := 77) X dX4_feed_39 (by decide) ?_ ?_
  · refine j_aload_n (i := 0) X dX4_feed_77 rfl rfl ?_
    refine j_get_md 11 X (by decide) wq_547 rfl dX4_feed_78 ?_
    exact j_iret X hr dX4_feed_81
  · refine j_aload_n (i := 0) X dX4_feed_42 rfl rfl ?_
    refine j_get_md 10 X (by decide) wq_548 rfl dX4_feed_43 ?_
    refine j_aload_n (i := 0) X dX4_feed_46 rfl rfl ?_
    refine j_get_md 11 X (by decide) wq_547 rfl dX4_feed_47 ?_
    refine j_iload_n (i := 1) X dX4_feed_50 rfl rfl ?_
    refine j_bipush (v := 8) X dX4_feed_51 rfl ?_
    refine j_iload_n (i := 3) X dX4_feed_53 rfl rfl ?_
    refine j_imul X dX4_feed_54 ?_
    refine j_ishr X dX4_feed_55 ?_
    refine j_sipush (v := 255) X dX4_feed_56 rfl ?_
    refine j_iand X dX4_feed_59 ?_
    refine j_iast X ia_59 dX4_feed_60 (fun h_6 => ?_)
    refine j_bM (fun M_7 => ?_)
    refine j_aload_n (i := 0) X dX4_feed_61 rfl rfl ?_
    refine j_dup X dX4_feed_62 rfl ?_
    refine j_get_md 11 X (by decide) wq_547 rfl dX4_feed_63 ?_
    refine j_iconst (v := 1) X dX4_feed_66 rfl ?_
    refine j_iadd X dX4_feed_67 ?_
    refine j_put_md (ty := .int) 11 X (by decide) wq_547 (fun _ => rfl) rfl (by decide +kernel) rfl rfl dX4_feed_68 ?_
    refine j_bM (fun M_8 => ?_)
    refine j_iincB (i := 3) (y := v3 + (-1)) (Lf := fun v3_9 => [(0, .ref (gA g 49)), (1, .int v1), (2, .int v2), (3, .int v3_9)]) X dX4_feed_71 rfl rfl (by decide) (fun _ => rfl) (fun v3_9 => ?_)
    refine j_goto (tgt := 38) X dX4_feed_74 (by decide) ?_
    exact hc38 (v3_9, M_8)
def pi_X4_feed_e (v1 : Int32) (v2 : Int32) (M : Mem) : Option (Int32 × Mem) := bd (mi_X4_within v2 1 4 M) fun r_2 M_1 => if r_2 = 0 then (bd (mi_X4_finding (-1000001) M_1) fun r_4 M_3 => some (r_4, M_3)) else (if ((M_1 49 11) + v2) ≤ 120 then (bI (v2 - 1) fun v3_5 => lp (fun rc38 x => pi_X4_feed_38 v1 v2 rc38 x.1 x.2) FU (v3_5, M_1)) else (bd (mi_X4_finding (-1000002) M_1) fun r_11 M_10 => some (r_11, M_10)))
set_option maxRecDepth 100000 in
set_option maxHeartbeats 4000000 in
theorem pj_X4_feed_e {p : Program} {l : Launch} {e : Env} {R : Room} {s : State} {m : MethodId} {args : Array Value} {below : List Frame} {meth : Method} {c : Code} {g : Gh} (X : Cx p l e R s m args below meth c g cX4_feed 4 (0, 0) RX4 1) (hr : meth.sig.returnType = (some (.int))) (v1 : Int32) (v2 : Int32) (M : Mem) : J p l e R s m args below meth c g 4 (0, 0) (QfI below args s g) (pi_X4_feed_e v1 v2 M) M 0 [(0, .ref (gA g 49)), (1, .int v1), (2, .int v2)] [] := by
  unfold pi_X4_feed_e
  refine j_iload_n (i := 2) X dX4_feed_0 rfl rfl ?_
  refine j_iconst (v := 1) X dX4_feed_1 rfl ?_
  refine j_iconst (v := 4) X dX4_feed_2 rfl ?_
  refine k_cSI (As := [.int v2, .int 1, .int 4]) (rest := []) X (ct_X4_within l g v2 1 4 M) wl_X4_85 rfl rfl (by decide) (Nat.le_of_ble_eq_true rfl) dX4_feed_3 (fun r_2 M_1 => ?_)
  refine j_if_ne (tgt := 16) X dX4_feed_6 (by decide) ?_ ?_
  · refine j_aload_n (i := 0) X dX4_feed_9 rfl rfl ?_
    refine j_ldc (v := (-1000001)) X wq_345 dX4_feed_10 ?_
    refine k_cVI (As := [.int (-1000001)]) (rest := []) (by decide) (cf_md _) rfl X (ct_X4_finding l g (-1000001) M_1) wl_X4_81 rfl rfl (by decide) (Nat.le_of_ble_eq_true rfl) dX4_feed_12 (fun r_4 M_3 => ?_)
    exact j_iret X hr dX4_feed_15
  · refine j_aload_n (i := 0) X dX4_feed_16 rfl rfl ?_
    refine j_get_md 11 X (by decide) wq_547 rfl dX4_feed_17 ?_
    refine j_iload_n (i := 2) X dX4_feed_20 rfl rfl ?_
    refine j_iadd X dX4_feed_21 ?_
    refine j_bipush (v := 120) X dX4_feed_22 rfl ?_
    refine j_icmp_le (tgt := 34) X dX4_feed_24 (by decide) ?_ ?_
    · refine j_iload_n (i := 2) X dX4_feed_34 rfl rfl ?_
      refine j_iconst (v := 1) X dX4_feed_35 rfl ?_
      refine j_isub X dX4_feed_36 ?_
      refine j_bI (fun v3_5 => ?_)
      refine j_istore_n (i := 3) (Lq := [(0, .ref (gA g 49)), (1, .int v1), (2, .int v2), (3, .int v3_5)]) X dX4_feed_37 rfl (by decide) rfl ?_
      exact j_lp (Lf := fun x => [(0, .ref (gA g 49)), (1, .int v1), (2, .int v2), (3, .int x.1)]) (Mf := fun x => x.2) (fun rc38 hc38 x => pj_X4_feed_38 X hr v1 v2 rc38 hc38 x.1 x.2) FU (v3_5, M_1)
    · refine j_aload_n (i := 0) X dX4_feed_27 rfl rfl ?_
      refine j_ldc (v := (-1000002)) X wq_373 dX4_feed_28 ?_
      refine k_cVI (As := [.int (-1000002)]) (rest := []) (by decide) (cf_md _) rfl X (ct_X4_finding l g (-1000002) M_1) wl_X4_81 rfl rfl (by decide) (Nat.le_of_ble_eq_true rfl) dX4_feed_30 (fun r_11 M_10 => ?_)
      exact j_iret X hr dX4_feed_33
def mi_X4_feed (v1 : Int32) (v2 : Int32) (M : Mem) : Option (Int32 × Mem) := pi_X4_feed_e v1 v2 M
theorem ct_X4_feed (l : Launch) (g : Gh) (v1 : Int32) (v2 : Int32) (M : Mem) : CtI l g yX4_feed cX4_feed 4 (some (.int)) 1 [.ref (gA g 49), .int v1, .int v2] M (mi_X4_feed v1 v2 M) := ctI_of (own := RX4) (L := [(0, .ref (gA g 49)), (1, .int v1), (2, .int v2)]) (by decide +kernel) rfl (Nat.le_of_ble_eq_true rfl) rfl (fun p e s m args below meth c X hr => pj_X4_feed_e X hr v1 v2  M)

def pi_X4_wipe_e (M : Mem) : Option (Int32 × Mem) := bI (M 49 11) fun v1_1 => bM (up M 49 11 0) fun M_2 => some (v1_1, M_2)
set_option maxRecDepth 100000 in
set_option maxHeartbeats 4000000 in
theorem pj_X4_wipe_e {p : Program} {l : Launch} {e : Env} {R : Room} {s : State} {m : MethodId} {args : Array Value} {below : List Frame} {meth : Method} {c : Code} {g : Gh} (X : Cx p l e R s m args below meth c g cX4_wipe 2 (0, 0) RX4 0) (hr : meth.sig.returnType = (some (.int))) (M : Mem) : J p l e R s m args below meth c g 2 (0, 0) (QfI below args s g) (pi_X4_wipe_e M) M 0 [(0, .ref (gA g 49))] [] := by
  unfold pi_X4_wipe_e
  refine j_aload_n (i := 0) X dX4_wipe_0 rfl rfl ?_
  refine j_get_md 11 X (by decide) wq_547 rfl dX4_wipe_1 ?_
  refine j_bI (fun v1_1 => ?_)
  refine j_istore_n (i := 1) (Lq := [(0, .ref (gA g 49)), (1, .int v1_1)]) X dX4_wipe_4 rfl (by decide) rfl ?_
  refine j_aload_n (i := 0) X dX4_wipe_5 rfl rfl ?_
  refine j_iconst (v := 0) X dX4_wipe_6 rfl ?_
  refine j_put_md (ty := .int) 11 X (by decide) wq_547 (fun _ => rfl) rfl (by decide +kernel) rfl rfl dX4_wipe_7 ?_
  refine j_bM (fun M_2 => ?_)
  refine j_iload_n (i := 1) X dX4_wipe_10 rfl rfl ?_
  exact j_iret X hr dX4_wipe_11
def mi_X4_wipe (M : Mem) : Option (Int32 × Mem) := pi_X4_wipe_e  M
theorem ct_X4_wipe (l : Launch) (g : Gh) (M : Mem) : CtI l g yX4_wipe cX4_wipe 2 (some (.int)) 0 [.ref (gA g 49)] M (mi_X4_wipe  M) := ctI_of (own := RX4) (L := [(0, .ref (gA g 49))]) (by decide +kernel) rfl (Nat.le_of_ble_eq_true rfl) rfl (fun p e s m args below meth c X hr => pj_X4_wipe_e X hr   M)

def pi_X4_byteAt_e (v1 : Int32) (M : Mem) : Option (Int32 × Mem) := if (M 49 11) ≤ v1 then (some ((-1), M)) else (gd (inb v1 120) <| some (M 59 v1.toNatClampNeg, M))
set_option maxRecDepth 100000 in
set_option maxHeartbeats 4000000 in
theorem pj_X4_byteAt_e {p : Program} {l : Launch} {e : Env} {R : Room} {s : State} {m : MethodId} {args : Array Value} {below : List Frame} {meth : Method} {c : Code} {g : Gh} (X : Cx p l e R s m args below meth c g cX4_byteAt 2 (0, 0) RX4 0) (hr : meth.sig.returnType = (some (.int))) (v1 : Int32) (M : Mem) : J p l e R s m args below meth c g 2 (0, 0) (QfI below args s g) (pi_X4_byteAt_e v1 M) M 0 [(0, .ref (gA g 49)), (1, .int v1)] [] := by
  unfold pi_X4_byteAt_e
  refine j_iload_n (i := 1) X dX4_byteAt_0 rfl rfl ?_
  refine j_aload_n (i := 0) X dX4_byteAt_1 rfl rfl ?_
  refine j_get_md 11 X (by decide) wq_547 rfl dX4_byteAt_2 ?_
  refine j_icmp_ge (tgt := 17) X dX4_byteAt_5 (by decide) ?_ ?_
  · refine j_iconst (v := (-1)) X dX4_byteAt_17 rfl ?_
    exact j_iret X hr dX4_byteAt_18
  · refine j_aload_n (i := 0) X dX4_byteAt_8 rfl rfl ?_
    refine j_get_md 10 X (by decide) wq_548 rfl dX4_byteAt_9 ?_
    refine j_iload_n (i := 1) X dX4_byteAt_12 rfl rfl ?_
    refine j_iald X ia_59 dX4_byteAt_13 (fun h_1 => ?_)
    refine j_goto (tgt := 18) X dX4_byteAt_14 (by decide) ?_
    exact j_iret X hr dX4_byteAt_18
def mi_X4_byteAt (v1 : Int32) (M : Mem) : Option (Int32 × Mem) := pi_X4_byteAt_e v1 M
theorem ct_X4_byteAt (l : Launch) (g : Gh) (v1 : Int32) (M : Mem) : CtI l g yX4_byteAt cX4_byteAt 2 (some (.int)) 0 [.ref (gA g 49), .int v1] M (mi_X4_byteAt v1 M) := ctI_of (own := RX4) (L := [(0, .ref (gA g 49)), (1, .int v1)]) (by decide +kernel) rfl (Nat.le_of_ble_eq_true rfl) rfl (fun p e s m args below meth c X hr => pj_X4_byteAt_e X hr v1  M)
