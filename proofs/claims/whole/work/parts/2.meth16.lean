def pi_X4_kindFor_15 (v1 : Int32) (v2 : Int32) (M : Mem) : Option (Int32 × Mem) := bd (mi_X4_finding (-1000001) M) fun r_4 M_3 => some (r_4, M_3)
set_option maxRecDepth 100000 in
set_option maxHeartbeats 4000000 in
theorem pj_X4_kindFor_15 {p : Program} {l : Launch} {e : Env} {R : Room} {s : State} {m : MethodId} {args : Array Value} {below : List Frame} {meth : Method} {c : Code} {g : Gh} (X : Cx p l e R s m args below meth c g cX4_kindFor 8 (0, 0) RX4 12) (hr : meth.sig.returnType = (some (.int))) (v1 : Int32) (v2 : Int32) (M : Mem) : J p l e R s m args below meth c g 8 (0, 0) (QfI below args s g) (pi_X4_kindFor_15 v1 v2 M) M 15 [(0, .ref (gA g 49)), (1, .int v1), (2, .int v2)] [] := by
  unfold pi_X4_kindFor_15
  refine j_aload_n (i := 0) X dX4_kindFor_15 rfl rfl ?_
  refine j_ldc (v := (-1000001)) X wq_345 dX4_kindFor_16 ?_
  refine k_cVI (As := [.int (-1000001)]) (rest := []) (by decide) (cf_md _) rfl X (ct_X4_finding l g (-1000001) M) wl_X4_81 rfl rfl (by decide) (Nat.le_of_ble_eq_true rfl) dX4_kindFor_18 (fun r_4 M_3 => ?_)
  exact j_iret X hr dX4_kindFor_21
def pi_X4_kindFor_80 (v1 : Int32) (v2 : Int32) (v3 : Int32) (v5 : Int32) (v6 : Int32) (v7 : Int32) (t0 : Int32) (rc38 : Int32 × Int32 × Int32 × Mem → Option (Int32 × Mem)) (M : Mem) : Option (Int32 × Mem) := bI (if v5 < v7 then v7 else v5) fun v5_19 => bI (v6 + 1) fun v6_20 => rc38 (t0, v5_19, v6_20, M)
set_option maxRecDepth 100000 in
set_option maxHeartbeats 4000000 in
theorem pj_X4_kindFor_80 {p : Program} {l : Launch} {e : Env} {R : Room} {s : State} {m : MethodId} {args : Array Value} {below : List Frame} {meth : Method} {c : Code} {g : Gh} (X : Cx p l e R s m args below meth c g cX4_kindFor 8 (0, 0) RX4 12) (hr : meth.sig.returnType = (some (.int))) (v1 : Int32) (v2 : Int32) (v3 : Int32) (v5 : Int32) (v6 : Int32) (v7 : Int32) (t0 : Int32) (rc38 : Int32 × Int32 × Int32 × Mem → Option (Int32 × Mem)) (hc38 : ∀ x, J p l e R s m args below meth c g 8 (0, 0) (QfI below args s g) (rc38 x) x.2.2.2 38 [(0, .ref (gA g 49)), (1, .int v1), (2, .int v2), (3, .int v3), (4, .int x.1), (5, .int x.2.1), (6, .int x.2.2.1)] []) (M : Mem) : J p l e R s m args below meth c g 8 (0, 0) (QfI below args s g) (pi_X4_kindFor_80 v1 v2 v3 v5 v6 v7 t0 rc38 M) M 80 [(0, .ref (gA g 49)), (1, .int v1), (2, .int v2), (3, .int v3), (5, .int v5), (6, .int v6), (7, .int v7)] [.int t0] := by
  unfold pi_X4_kindFor_80
  refine j_istore (i := 4) (Lq := [(0, .ref (gA g 49)), (1, .int v1), (2, .int v2), (3, .int v3), (4, .int t0), (5, .int v5), (6, .int v6), (7, .int v7)]) X dX4_kindFor_80 (by decide) rfl ?_
  refine j_iload (i := 5) X dX4_kindFor_82 rfl ?_
  refine j_iload (i := 7) X dX4_kindFor_84 rfl ?_
  refine j_mmax X wm_X4_148 wm_max2 wm_ini wm_max4 (by decide) (Nat.le_of_ble_eq_true rfl) dX4_kindFor_86 ?_
  refine j_bI (fun v5_19 => ?_)
  refine j_istore (i := 5) (Lq := [(0, .ref (gA g 49)), (1, .int v1), (2, .int v2), (3, .int v3), (4, .int t0), (5, .int v5_19), (6, .int v6), (7, .int v7)]) X dX4_kindFor_89 (by decide) rfl ?_
  refine j_iincB (i := 6) (y := v6 + 1) (Lf := fun v6_20 => [(0, .ref (gA g 49)), (1, .int v1), (2, .int v2), (3, .int v3), (4, .int t0), (5, .int v5_19), (6, .int v6_20), (7, .int v7)]) X dX4_kindFor_91 rfl rfl (by decide) (fun _ => rfl) (fun v6_20 => ?_)
  refine j_goto (tgt := 38) X dX4_kindFor_94 (by decide) ?_
  refine j_pick [0, 1, 2, 3, 4, 5, 6] (Lq := [(0, .ref (gA g 49)), (1, .int v1), (2, .int v2), (3, .int v3), (4, .int t0), (5, .int v5_19), (6, .int v6_20)]) rfl ?_
  exact hc38 (t0, v5_19, v6_20, M)
def pi_X4_kindFor_38 (v1 : Int32) (v2 : Int32) (v3 : Int32) (rc38 : Int32 × Int32 × Int32 × Mem → Option (Int32 × Mem)) (v4 : Int32) (v5 : Int32) (v6 : Int32) (M : Mem) : Option (Int32 × Mem) := if 6 < v6 then (bd (mi_X4_at v1 0 M) fun r_10 M_9 => gd (inb r_10 62) <| bM (up M_9 50 r_10.toNatClampNeg v3) fun M_12 => some (v4, M_12)) else (bd (mi_X4_at v1 0 M) fun r_14 M_13 => gd (inb r_14 62) <| bM (up M_13 50 r_14.toNatClampNeg v6) fun M_16 => bd (mi_X4_behind v1 5 v2 M_16) fun r_18 M_17 => if r_18 ≤ v5 then (pi_X4_kindFor_80 v1 v2 v3 v5 v6 r_18 v4 rc38 M_17) else (pi_X4_kindFor_80 v1 v2 v3 v5 v6 r_18 v6 rc38 M_17))
set_option maxRecDepth 100000 in
set_option maxHeartbeats 4000000 in
theorem pj_X4_kindFor_38 {p : Program} {l : Launch} {e : Env} {R : Room} {s : State} {m : MethodId} {args : Array Value} {below : List Frame} {meth : Method} {c : Code} {g : Gh} (X : Cx p l e R s m args below meth c g cX4_kindFor 8 (0, 0) RX4 12) (hr : meth.sig.returnType = (some (.int))) (v1 : Int32) (v2 : Int32) (v3 : Int32) (rc38 : Int32 × Int32 × Int32 × Mem → Option (Int32 × Mem)) (hc38 : ∀ x, J p l e R s m args below meth c g 8 (0, 0) (QfI below args s g) (rc38 x) x.2.2.2 38 [(0, .ref (gA g 49)), (1, .int v1), (2, .int v2), (3, .int v3), (4, .int x.1), (5, .int x.2.1), (6, .int x.2.2.1)] []) (v4 : Int32) (v5 : Int32) (v6 : Int32) (M : Mem) : J p l e R s m args below meth c g 8 (0, 0) (QfI below args s g) (pi_X4_kindFor_38 v1 v2 v3 rc38 v4 v5 v6 M) M 38 [(0, .ref (gA g 49)), (1, .int v1), (2, .int v2), (3, .int v3), (4, .int v4), (5, .int v5), (6, .int v6)] [] := by
  unfold pi_X4_kindFor_38
  refine j_iload (i := 6) X dX4_kindFor_38 rfl ?_
  refine j_bipush (v := 6) X dX4_kindFor_40 rfl ?_
  refine j_icmp_gt (tgt := 97) X dX4_kindFor_42 (by decide) ?_ ?_
  · refine j_aload_n (i := 0) X dX4_kindFor_97 rfl rfl ?_
    refine j_get_md 0 X (by decide) wq_346 rfl dX4_kindFor_98 ?_
    refine j_iload_n (i := 1) X dX4_kindFor_101 rfl rfl ?_
    refine j_iconst (v := 0) X dX4_kindFor_102 rfl ?_
    refine k_cSI (As := [.int v1, .int 0]) (rest := [.ref (gA g 50)]) X (ct_X4_at l g v1 0 M) wl_X4_93 rfl rfl (by decide) (Nat.le_of_ble_eq_true rfl) dX4_kindFor_103 (fun r_10 M_9 => ?_)
    refine j_iload_n (i := 3) X dX4_kindFor_106 rfl rfl ?_
    refine j_iast X ia_50 dX4_kindFor_107 (fun h_11 => ?_)
    refine j_bM (fun M_12 => ?_)
    refine j_iload (i := 4) X dX4_kindFor_108 rfl ?_
    exact j_iret X hr dX4_kindFor_110
  · refine j_aload_n (i := 0) X dX4_kindFor_45 rfl rfl ?_
    refine j_get_md 0 X (by decide) wq_346 rfl dX4_kindFor_46 ?_
    refine j_iload_n (i := 1) X dX4_kindFor_49 rfl rfl ?_
    refine j_iconst (v := 0) X dX4_kindFor_50 rfl ?_
    refine k_cSI (As := [.int v1, .int 0]) (rest := [.ref (gA g 50)]) X (ct_X4_at l g v1 0 M) wl_X4_93 rfl rfl (by decide) (Nat.le_of_ble_eq_true rfl) dX4_kindFor_51 (fun r_14 M_13 => ?_)
    refine j_iload (i := 6) X dX4_kindFor_54 rfl ?_
    refine j_iast X ia_50 dX4_kindFor_56 (fun h_15 => ?_)
    refine j_bM (fun M_16 => ?_)
    refine j_aload_n (i := 0) X dX4_kindFor_57 rfl rfl ?_
    refine j_iload_n (i := 1) X dX4_kindFor_58 rfl rfl ?_
    refine j_iconst (v := 5) X dX4_kindFor_59 rfl ?_
    refine j_iload_n (i := 2) X dX4_kindFor_60 rfl rfl ?_
    refine k_cVI (As := [.int v1, .int 5, .int v2]) (rest := []) (by decide) (cf_md _) rfl X (ct_X4_behind l g v1 5 v2 M_16) wl_X4_214 rfl rfl (by decide) (Nat.le_of_ble_eq_true rfl) dX4_kindFor_61 (fun r_18 M_17 => ?_)
    refine j_istore (i := 7) (Lq := [(0, .ref (gA g 49)), (1, .int v1), (2, .int v2), (3, .int v3), (4, .int v4), (5, .int v5), (6, .int v6), (7, .int r_18)]) X dX4_kindFor_64 (by decide) rfl ?_
    refine j_iload (i := 7) X dX4_kindFor_66 rfl ?_
    refine j_iload (i := 5) X dX4_kindFor_68 rfl ?_
    refine j_icmp_le (tgt := 78) X dX4_kindFor_70 (by decide) ?_ ?_
    · refine j_iload (i := 4) X dX4_kindFor_78 rfl ?_
      refine j_pick [0, 1, 2, 3, 5, 6, 7] (Lq := [(0, .ref (gA g 49)), (1, .int v1), (2, .int v2), (3, .int v3), (5, .int v5), (6, .int v6), (7, .int r_18)]) rfl ?_
      exact pj_X4_kindFor_80 X hr v1 v2 v3 v5 v6 r_18 v4 rc38 hc38 M_17
    · refine j_iload (i := 6) X dX4_kindFor_73 rfl ?_
      refine j_goto (tgt := 80) X dX4_kindFor_75 (by decide) ?_
      refine j_pick [0, 1, 2, 3, 5, 6, 7] (Lq := [(0, .ref (gA g 49)), (1, .int v1), (2, .int v2), (3, .int v3), (5, .int v5), (6, .int v6), (7, .int r_18)]) rfl ?_
      exact pj_X4_kindFor_80 X hr v1 v2 v3 v5 v6 r_18 v6 rc38 hc38 M_17
def pi_X4_kindFor_e (v1 : Int32) (v2 : Int32) (M : Mem) : Option (Int32 × Mem) := bd (mi_X4_isHill v1 M) fun r_2 M_1 => if r_2 = 0 then (pi_X4_kindFor_15 v1 v2 M_1) else (bd (mi_X4_isGo v2 M_1) fun r_6 M_5 => if r_6 = 0 then (pi_X4_kindFor_15 v1 v2 M_5) else (bd (mi_X4_hillIs v1 0 M_5) fun r_8 M_7 => lp (fun rc38 x => pi_X4_kindFor_38 v1 v2 r_8 rc38 x.1 x.2.1 x.2.2.1 x.2.2.2) FU (0, (-1), 0, M_7)))
set_option maxRecDepth 100000 in
set_option maxHeartbeats 4000000 in
theorem pj_X4_kindFor_e {p : Program} {l : Launch} {e : Env} {R : Room} {s : State} {m : MethodId} {args : Array Value} {below : List Frame} {meth : Method} {c : Code} {g : Gh} (X : Cx p l e R s m args below meth c g cX4_kindFor 8 (0, 0) RX4 12) (hr : meth.sig.returnType = (some (.int))) (v1 : Int32) (v2 : Int32) (M : Mem) : J p l e R s m args below meth c g 8 (0, 0) (QfI below args s g) (pi_X4_kindFor_e v1 v2 M) M 0 [(0, .ref (gA g 49)), (1, .int v1), (2, .int v2)] [] := by
  unfold pi_X4_kindFor_e
  refine j_aload_n (i := 0) X dX4_kindFor_0 rfl rfl ?_
  refine j_iload_n (i := 1) X dX4_kindFor_1 rfl rfl ?_
  refine k_cVI (As := [.int v1]) (rest := []) (by decide) (cf_md _) rfl X (ct_X4_isHill l g v1 M) wl_X4_135 rfl rfl (by decide) (Nat.le_of_ble_eq_true rfl) dX4_kindFor_2 (fun r_2 M_1 => ?_)
  refine j_if_eq (tgt := 15) X dX4_kindFor_5 (by decide) ?_ ?_
  · exact pj_X4_kindFor_15 X hr v1 v2 M_1
  · refine j_iload_n (i := 2) X dX4_kindFor_8 rfl rfl ?_
    refine k_cSI (As := [.int v2]) (rest := []) X (ct_X4_isGo l g v2 M_1) wl_X4_211 rfl rfl (by decide) (Nat.le_of_ble_eq_true rfl) dX4_kindFor_9 (fun r_6 M_5 => ?_)
    refine j_if_ne (tgt := 22) X dX4_kindFor_12 (by decide) ?_ ?_
    · exact pj_X4_kindFor_15 X hr v1 v2 M_5
    · refine j_aload_n (i := 0) X dX4_kindFor_22 rfl rfl ?_
      refine j_iload_n (i := 1) X dX4_kindFor_23 rfl rfl ?_
      refine j_iconst (v := 0) X dX4_kindFor_24 rfl ?_
      refine k_cVI (As := [.int v1, .int 0]) (rest := []) (by decide) (cf_md _) rfl X (ct_X4_hillIs l g v1 0 M_5) wl_X4_108 rfl rfl (by decide) (Nat.le_of_ble_eq_true rfl) dX4_kindFor_25 (fun r_8 M_7 => ?_)
      refine j_istore_n (i := 3) (Lq := [(0, .ref (gA g 49)), (1, .int v1), (2, .int v2), (3, .int r_8)]) X dX4_kindFor_28 rfl (by decide) rfl ?_
      refine j_iconst (v := 0) X dX4_kindFor_29 rfl ?_
      refine j_istore (i := 4) (Lq := [(0, .ref (gA g 49)), (1, .int v1), (2, .int v2), (3, .int r_8), (4, .int 0)]) X dX4_kindFor_30 (by decide) rfl ?_
      refine j_iconst (v := (-1)) X dX4_kindFor_32 rfl ?_
      refine j_istore (i := 5) (Lq := [(0, .ref (gA g 49)), (1, .int v1), (2, .int v2), (3, .int r_8), (4, .int 0), (5, .int (-1))]) X dX4_kindFor_33 (by decide) rfl ?_
      refine j_iconst (v := 0) X dX4_kindFor_35 rfl ?_
      refine j_istore (i := 6) (Lq := [(0, .ref (gA g 49)), (1, .int v1), (2, .int v2), (3, .int r_8), (4, .int 0), (5, .int (-1)), (6, .int 0)]) X dX4_kindFor_36 (by decide) rfl ?_
      exact j_lp (Lf := fun x => [(0, .ref (gA g 49)), (1, .int v1), (2, .int v2), (3, .int r_8), (4, .int x.1), (5, .int x.2.1), (6, .int x.2.2.1)]) (Mf := fun x => x.2.2.2) (fun rc38 hc38 x => pj_X4_kindFor_38 X hr v1 v2 r_8 rc38 hc38 x.1 x.2.1 x.2.2.1 x.2.2.2) FU (0, (-1), 0, M_7)
def mi_X4_kindFor (v1 : Int32) (v2 : Int32) (M : Mem) : Option (Int32 × Mem) := pi_X4_kindFor_e v1 v2 M
theorem ct_X4_kindFor (l : Launch) (g : Gh) (v1 : Int32) (v2 : Int32) (M : Mem) : CtI l g yX4_kindFor cX4_kindFor 8 (some (.int)) 12 [.ref (gA g 49), .int v1, .int v2] M (mi_X4_kindFor v1 v2 M) := ctI_of (own := RX4) (L := [(0, .ref (gA g 49)), (1, .int v1), (2, .int v2)]) (by decide +kernel) rfl (Nat.le_of_ble_eq_true rfl) rfl (fun p e s m args below meth c X hr => pj_X4_kindFor_e X hr v1 v2  M)

def pi_X4_rainFor_22 (v1 : Int32) (v2 : Int32) (v3 : Int32) (M : Mem) : Option (Int32 × Mem) := bd (mi_X4_finding (-1000001) M) fun r_4 M_3 => some (r_4, M_3)
set_option maxRecDepth 100000 in
set_option maxHeartbeats 4000000 in
theorem pj_X4_rainFor_22 {p : Program} {l : Launch} {e : Env} {R : Room} {s : State} {m : MethodId} {args : Array Value} {below : List Frame} {meth : Method} {c : Code} {g : Gh} (X : Cx p l e R s m args below meth c g cX4_rainFor 7 (0, 0) RX4 12) (hr : meth.sig.returnType = (some (.int))) (v1 : Int32) (v2 : Int32) (v3 : Int32) (M : Mem) : J p l e R s m args below meth c g 7 (0, 0) (QfI below args s g) (pi_X4_rainFor_22 v1 v2 v3 M) M 22 [(0, .ref (gA g 49)), (1, .int v1), (2, .int v2), (3, .int v3)] [] := by
  unfold pi_X4_rainFor_22
  refine j_aload_n (i := 0) X dX4_rainFor_22 rfl rfl ?_
  refine j_ldc (v := (-1000001)) X wq_345 dX4_rainFor_23 ?_
  refine k_cVI (As := [.int (-1000001)]) (rest := []) (by decide) (cf_md _) rfl X (ct_X4_finding l g (-1000001) M) wl_X4_81 rfl rfl (by decide) (Nat.le_of_ble_eq_true rfl) dX4_rainFor_25 (fun r_4 M_3 => ?_)
  exact j_iret X hr dX4_rainFor_28
def pi_X4_rainFor_44 (v1 : Int32) (v2 : Int32) (v3 : Int32) (v4 : Int32) (rc44 : Int32 × Int32 × Mem → Option (Int32 × Mem)) (v5 : Int32) (v6 : Int32) (M : Mem) : Option (Int32 × Mem) := if v6 < 0 then (gd (inb 3 62) <| bM (up M 50 (3 : Int32).toNatClampNeg v4) fun M_12 => bd (mi_X4_orNone v5 M_12) fun r_14 M_13 => some (r_14, M_13)) else (gd (inb 3 62) <| bM (up M 50 (3 : Int32).toNatClampNeg v6) fun M_16 => bd (mi_X4_behind v1 4 v3 M_16) fun r_18 M_17 => if v2 < r_18 then (bI (v6 + (-1)) fun v6_19 => rc44 (v5, v6_19, M_17)) else (bI (v6 + (-1)) fun v6_20 => rc44 (v6, v6_20, M_17)))
set_option maxRecDepth 100000 in
set_option maxHeartbeats 4000000 in
theorem pj_X4_rainFor_44 {p : Program} {l : Launch} {e : Env} {R : Room} {s : State} {m : MethodId} {args : Array Value} {below : List Frame} {meth : Method} {c : Code} {g : Gh} (X : Cx p l e R s m args below meth c g cX4_rainFor 7 (0, 0) RX4 12) (hr : meth.sig.returnType = (some (.int))) (v1 : Int32) (v2 : Int32) (v3 : Int32) (v4 : Int32) (rc44 : Int32 × Int32 × Mem → Option (Int32 × Mem)) (hc44 : ∀ x, J p l e R s m args below meth c g 7 (0, 0) (QfI below args s g) (rc44 x) x.2.2 44 [(0, .ref (gA g 49)), (1, .int v1), (2, .int v2), (3, .int v3), (4, .int v4), (5, .int x.1), (6, .int x.2.1)] []) (v5 : Int32) (v6 : Int32) (M : Mem) : J p l e R s m args below meth c g 7 (0, 0) (QfI below args s g) (pi_X4_rainFor_44 v1 v2 v3 v4 rc44 v5 v6 M) M 44 [(0, .ref (gA g 49)), (1, .int v1), (2, .int v2), (3, .int v3), (4, .int v4), (5, .int v5), (6, .int v6)] [] := by
  unfold pi_X4_rainFor_44
  refine j_iload (i := 6) X dX4_rainFor_44 rfl ?_
  refine j_if_lt (tgt := 83) X dX4_rainFor_46 (by decide) ?_ ?_
  · refine j_aload_n (i := 0) X dX4_rainFor_83 rfl rfl ?_
    refine j_get_md 0 X (by decide) wq_346 rfl dX4_rainFor_84 ?_
    refine j_iconst (v := 3) X dX4_rainFor_87 rfl ?_
    refine j_iload (i := 4) X dX4_rainFor_88 rfl ?_
    refine j_iast X ia_50 dX4_rainFor_90 (fun h_11 => ?_)
    refine j_bM (fun M_12 => ?_)
    refine j_aload_n (i := 0) X dX4_rainFor_91 rfl rfl ?_
    refine j_iload (i := 5) X dX4_rainFor_92 rfl ?_
    refine k_cVI (As := [.int v5]) (rest := []) (by decide) (cf_md _) rfl X (ct_X4_orNone l g v5 M_12) wl_X4_187 rfl rfl (by decide) (Nat.le_of_ble_eq_true rfl) dX4_rainFor_94 (fun r_14 M_13 => ?_)
    exact j_iret X hr dX4_rainFor_97
  · refine j_aload_n (i := 0) X dX4_rainFor_49 rfl rfl ?_
    refine j_get_md 0 X (by decide) wq_346 rfl dX4_rainFor_50 ?_
    refine j_iconst (v := 3) X dX4_rainFor_53 rfl ?_
    refine j_iload (i := 6) X dX4_rainFor_54 rfl ?_
    refine j_iast X ia_50 dX4_rainFor_56 (fun h_15 => ?_)
    refine j_bM (fun M_16 => ?_)
    refine j_aload_n (i := 0) X dX4_rainFor_57 rfl rfl ?_
    refine j_iload_n (i := 1) X dX4_rainFor_58 rfl rfl ?_
    refine j_iconst (v := 4) X dX4_rainFor_59 rfl ?_
    refine j_iload_n (i := 3) X dX4_rainFor_60 rfl rfl ?_
    refine k_cVI (As := [.int v1, .int 4, .int v3]) (rest := []) (by decide) (cf_md _) rfl X (ct_X4_behind l g v1 4 v3 M_16) wl_X4_214 rfl rfl (by decide) (Nat.le_of_ble_eq_true rfl) dX4_rainFor_61 (fun r_18 M_17 => ?_)
    refine j_iload_n (i := 2) X dX4_rainFor_64 rfl rfl ?_
    refine j_icmp_gt (tgt := 73) X dX4_rainFor_65 (by decide) ?_ ?_
    · refine j_iload (i := 5) X dX4_rainFor_73 rfl ?_
      refine j_istore (i := 5) (Lq := [(0, .ref (gA g 49)), (1, .int v1), (2, .int v2), (3, .int v3), (4, .int v4), (5, .int v5), (6, .int v6)]) X dX4_rainFor_75 (by decide) rfl ?_
      refine j_iincB (i := 6) (y := v6 + (-1)) (Lf := fun v6_19 => [(0, .ref (gA g 49)), (1, .int v1), (2, .int v2), (3, .int v3), (4, .int v4), (5, .int v5), (6, .int v6_19)]) X dX4_rainFor_77 rfl rfl (by decide) (fun _ => rfl) (fun v6_19 => ?_)
      refine j_goto (tgt := 44) X dX4_rainFor_80 (by decide) ?_
      exact hc44 (v5, v6_19, M_17)
    · refine j_iload (i := 6) X dX4_rainFor_68 rfl ?_
      refine j_goto (tgt := 75) X dX4_rainFor_70 (by decide) ?_
      refine j_istore (i := 5) (Lq := [(0, .ref (gA g 49)), (1, .int v1), (2, .int v2), (3, .int v3), (4, .int v4), (5, .int v6), (6, .int v6)]) X dX4_rainFor_75 (by decide) rfl ?_
      refine j_iincB (i := 6) (y := v6 + (-1)) (Lf := fun v6_20 => [(0, .ref (gA g 49)), (1, .int v1), (2, .int v2), (3, .int v3), (4, .int v4), (5, .int v6), (6, .int v6_20)]) X dX4_rainFor_77 rfl rfl (by decide) (fun _ => rfl) (fun v6_20 => ?_)
      refine j_goto (tgt := 44) X dX4_rainFor_80 (by decide) ?_
      exact hc44 (v6, v6_20, M_17)
def pi_X4_rainFor_e (v1 : Int32) (v2 : Int32) (v3 : Int32) (M : Mem) : Option (Int32 × Mem) := bd (mi_X4_isHill v1 M) fun r_2 M_1 => if r_2 = 0 then (pi_X4_rainFor_22 v1 v2 v3 M_1) else (bd (mi_X4_isHigh v2 M_1) fun r_6 M_5 => if r_6 = 0 then (pi_X4_rainFor_22 v1 v2 v3 M_5) else (bd (mi_X4_isGo v3 M_5) fun r_8 M_7 => if r_8 = 0 then (pi_X4_rainFor_22 v1 v2 v3 M_7) else (gd (inb 3 62) <| bI (M_7 50 (3 : Int32).toNatClampNeg) fun v4_10 => lp (fun rc44 x => pi_X4_rainFor_44 v1 v2 v3 v4_10 rc44 x.1 x.2.1 x.2.2) FU ((-1), 9, M_7))))
set_option maxRecDepth 100000 in
set_option maxHeartbeats 4000000 in
theorem pj_X4_rainFor_e {p : Program} {l : Launch} {e : Env} {R : Room} {s : State} {m : MethodId} {args : Array Value} {below : List Frame} {meth : Method} {c : Code} {g : Gh} (X : Cx p l e R s m args below meth c g cX4_rainFor 7 (0, 0) RX4 12) (hr : meth.sig.returnType = (some (.int))) (v1 : Int32) (v2 : Int32) (v3 : Int32) (M : Mem) : J p l e R s m args below meth c g 7 (0, 0) (QfI below args s g) (pi_X4_rainFor_e v1 v2 v3 M) M 0 [(0, .ref (gA g 49)), (1, .int v1), (2, .int v2), (3, .int v3)] [] := by
  unfold pi_X4_rainFor_e
  refine j_aload_n (i := 0) X dX4_rainFor_0 rfl rfl ?_
  refine j_iload_n (i := 1) X dX4_rainFor_1 rfl rfl ?_
  refine k_cVI (As := [.int v1]) (rest := []) (by decide) (cf_md _) rfl X (ct_X4_isHill l g v1 M) wl_X4_135 rfl rfl (by decide) (Nat.le_of_ble_eq_true rfl) dX4_rainFor_2 (fun r_2 M_1 => ?_)
  refine j_if_eq (tgt := 22) X dX4_rainFor_5 (by decide) ?_ ?_
  · exact pj_X4_rainFor_22 X hr v1 v2 v3 M_1
  · refine j_iload_n (i := 2) X dX4_rainFor_8 rfl rfl ?_
    refine k_cSI (As := [.int v2]) (rest := []) X (ct_X4_isHigh l g v2 M_1) wl_X4_141 rfl rfl (by decide) (Nat.le_of_ble_eq_true rfl) dX4_rainFor_9 (fun r_6 M_5 => ?_)
    refine j_if_eq (tgt := 22) X dX4_rainFor_12 (by decide) ?_ ?_
    · exact pj_X4_rainFor_22 X hr v1 v2 v3 M_5
    · refine j_iload_n (i := 3) X dX4_rainFor_15 rfl rfl ?_
      refine k_cSI (As := [.int v3]) (rest := []) X (ct_X4_isGo l g v3 M_5) wl_X4_211 rfl rfl (by decide) (Nat.le_of_ble_eq_true rfl) dX4_rainFor_16 (fun r_8 M_7 => ?_)
      refine j_if_ne (tgt := 29) X dX4_rainFor_19 (by decide) ?_ ?_
      · exact pj_X4_rainFor_22 X hr v1 v2 v3 M_7
      · refine j_aload_n (i := 0) X dX4_rainFor_29 rfl rfl ?_
        refine j_get_md 0 X (by decide) wq_346 rfl dX4_rainFor_30 ?_
        refine j_iconst (v := 3) X dX4_rainFor_33 rfl ?_
        refine j_iald X ia_50 dX4_rainFor_34 (fun h_9 => ?_)
        refine j_bI (fun v4_10 => ?_)
        refine j_istore (i := 4) (Lq := [(0, .ref (gA g 49)), (1, .int v1), (2, .int v2), (3, .int v3), (4, .int v4_10)]) X dX4_rainFor_35 (by decide) rfl ?_
        refine j_iconst (v := (-1)) X dX4_rainFor_37 rfl ?_
        refine j_istore (i := 5) (Lq := [(0, .ref (gA g 49)), (1, .int v1), (2, .int v2), (3, .int v3), (4, .int v4_10), (5, .int (-1))]) X dX4_rainFor_38 (by decide) rfl ?_
        refine j_bipush (v := 9) X dX4_rainFor_40 rfl ?_
        refine j_istore (i := 6) (Lq := [(0, .ref (gA g 49)), (1, .int v1), (2, .int v2), (3, .int v3), (4, .int v4_10), (5, .int (-1)), (6, .int 9)]) X dX4_rainFor_42 (by decide) rfl ?_
        exact j_lp (Lf := fun x => [(0, .ref (gA g 49)), (1, .int v1), (2, .int v2), (3, .int v3), (4, .int v4_10), (5, .int x.1), (6, .int x.2.1)]) (Mf := fun x => x.2.2) (fun rc44 hc44 x => pj_X4_rainFor_44 X hr v1 v2 v3 v4_10 rc44 hc44 x.1 x.2.1 x.2.2) FU ((-1), 9, M_7)
def mi_X4_rainFor (v1 : Int32) (v2 : Int32) (v3 : Int32) (M : Mem) : Option (Int32 × Mem) := pi_X4_rainFor_e v1 v2 v3 M
theorem ct_X4_rainFor (l : Launch) (g : Gh) (v1 : Int32) (v2 : Int32) (v3 : Int32) (M : Mem) : CtI l g yX4_rainFor cX4_rainFor 7 (some (.int)) 12 [.ref (gA g 49), .int v1, .int v2, .int v3] M (mi_X4_rainFor v1 v2 v3 M) := ctI_of (own := RX4) (L := [(0, .ref (gA g 49)), (1, .int v1), (2, .int v2), (3, .int v3)]) (by decide +kernel) rfl (Nat.le_of_ble_eq_true rfl) rfl (fun p e s m args below meth c X hr => pj_X4_rainFor_e X hr v1 v2 v3  M)

def pi_X4_between_11 (v1 : Int32) (v2 : Int32) (v3 : Int32) (rc11 : Int32 × Int32 × Mem → Option (Int32 × Mem)) (v4 : Int32) (v5 : Int32) (M : Mem) : Option (Int32 × Mem) := if v5 = v2 then (some (v4, M)) else (if v1 = v2 then (some (v4, M)) else (bd (mi_X4_highestAt v5 M) fun r_4 M_3 => bI (if v4 < r_4 then r_4 else v4) fun v4_5 => bd (mi_X4_by12 (v5 + v3) M_3) fun r_7 M_6 => rc11 (v4_5, r_7, M_6)))
set_option maxRecDepth 100000 in
set_option maxHeartbeats 4000000 in
theorem pj_X4_between_11 {p : Program} {l : Launch} {e : Env} {R : Room} {s : State} {m : MethodId} {args : Array Value} {below : List Frame} {meth : Method} {c : Code} {g : Gh} (X : Cx p l e R s m args below meth c g cX4_between 6 (0, 0) RX4 3) (hr : meth.sig.returnType = (some (.int))) (v1 : Int32) (v2 : Int32) (v3 : Int32) (rc11 : Int32 × Int32 × Mem → Option (Int32 × Mem)) (hc11 : ∀ x, J p l e R s m args below meth c g 6 (0, 0) (QfI below args s g) (rc11 x) x.2.2 11 [(0, .ref (gA g 49)), (1, .int v1), (2, .int v2), (3, .int v3), (4, .int x.1), (5, .int x.2.1)] []) (v4 : Int32) (v5 : Int32) (M : Mem) : J p l e R s m args below meth c g 6 (0, 0) (QfI below args s g) (pi_X4_between_11 v1 v2 v3 rc11 v4 v5 M) M 11 [(0, .ref (gA g 49)), (1, .int v1), (2, .int v2), (3, .int v3), (4, .int v4), (5, .int v5)] [] := by
  unfold pi_X4_between_11
  refine j_iload (i := 5) X dX4_between_11 rfl ?_
  refine j_iload_n (i := 2) X dX4_between_13 rfl rfl ?_
  refine j_icmp_eq (tgt := 47) X dX4_between_14 (by decide) ?_ ?_
  · refine j_iload (i := 4) X dX4_between_47 rfl ?_
    exact j_iret X hr dX4_between_49
  · refine j_iload_n (i := 1) X dX4_between_17 rfl rfl ?_
    refine j_iload_n (i := 2) X dX4_between_18 rfl rfl ?_
    refine j_icmp_eq (tgt := 47) X dX4_between_19 (by decide) ?_ ?_
    · refine j_iload (i := 4) X dX4_between_47 rfl ?_
      exact j_iret X hr dX4_between_49
    · refine j_iload (i := 4) X dX4_between_22 rfl ?_
      refine j_aload_n (i := 0) X dX4_between_24 rfl rfl ?_
      refine j_iload (i := 5) X dX4_between_25 rfl ?_
      refine k_cVI (As := [.int v5]) (rest := [.int v4]) (by decide) (cf_md _) rfl X (ct_X4_highestAt l g v5 M) wl_X4_156 rfl rfl (by decide) (Nat.le_of_ble_eq_true rfl) dX4_between_27 (fun r_4 M_3 => ?_)
      refine j_mmax X wm_X4_148 wm_max2 wm_ini wm_max4 (by decide) (Nat.le_of_ble_eq_true rfl) dX4_between_30 ?_
      refine j_bI (fun v4_5 => ?_)
      refine j_istore (i := 4) (Lq := [(0, .ref (gA g 49)), (1, .int v1), (2, .int v2), (3, .int v3), (4, .int v4_5), (5, .int v5)]) X dX4_between_33 (by decide) rfl ?_
      refine j_iload (i := 5) X dX4_between_35 rfl ?_
      refine j_iload_n (i := 3) X dX4_between_37 rfl rfl ?_
      refine j_iadd X dX4_between_38 ?_
      refine k_cSI (As := [.int (v5 + v3)]) (rest := []) X (ct_X4_by12 l g (v5 + v3) M_3) wl_X4_111 rfl rfl (by decide) (Nat.le_of_ble_eq_true rfl) dX4_between_39 (fun r_7 M_6 => ?_)
      refine j_istore (i := 5) (Lq := [(0, .ref (gA g 49)), (1, .int v1), (2, .int v2), (3, .int v3), (4, .int v4_5), (5, .int r_7)]) X dX4_between_42 (by decide) rfl ?_
      refine j_goto (tgt := 11) X dX4_between_44 (by decide) ?_
      exact hc11 (v4_5, r_7, M_6)
def pi_X4_between_e (v1 : Int32) (v2 : Int32) (v3 : Int32) (M : Mem) : Option (Int32 × Mem) := bd (mi_X4_by12 (v1 + v3) M) fun r_2 M_1 => lp (fun rc11 x => pi_X4_between_11 v1 v2 v3 rc11 x.1 x.2.1 x.2.2) FU (0, r_2, M_1)
set_option maxRecDepth 100000 in
set_option maxHeartbeats 4000000 in
theorem pj_X4_between_e {p : Program} {l : Launch} {e : Env} {R : Room} {s : State} {m : MethodId} {args : Array Value} {below : List Frame} {meth : Method} {c : Code} {g : Gh} (X : Cx p l e R s m args below meth c g cX4_between 6 (0, 0) RX4 3) (hr : meth.sig.returnType = (some (.int))) (v1 : Int32) (v2 : Int32) (v3 : Int32) (M : Mem) : J p l e R s m args below meth c g 6 (0, 0) (QfI below args s g) (pi_X4_between_e v1 v2 v3 M) M 0 [(0, .ref (gA g 49)), (1, .int v1), (2, .int v2), (3, .int v3)] [] := by
  unfold pi_X4_between_e
  refine j_iconst (v := 0) X dX4_between_0 rfl ?_
  refine j_istore (i := 4) (Lq := [(0, .ref (gA g 49)), (1, .int v1), (2, .int v2), (3, .int v3), (4, .int 0)]) X dX4_between_1 (by decide) rfl ?_
  refine j_iload_n (i := 1) X dX4_between_3 rfl rfl ?_
  refine j_iload_n (i := 3) X dX4_between_4 rfl rfl ?_
  refine j_iadd X dX4_between_5 ?_
  refine k_cSI (As := [.int (v1 + v3)]) (rest := []) X (ct_X4_by12 l g (v1 + v3) M) wl_X4_111 rfl rfl (by decide) (Nat.le_of_ble_eq_true rfl) dX4_between_6 (fun r_2 M_1 => ?_)
  refine j_istore (i := 5) (Lq := [(0, .ref (gA g 49)), (1, .int v1), (2, .int v2), (3, .int v3), (4, .int 0), (5, .int r_2)]) X dX4_between_9 (by decide) rfl ?_
  exact j_lp (Lf := fun x => [(0, .ref (gA g 49)), (1, .int v1), (2, .int v2), (3, .int v3), (4, .int x.1), (5, .int x.2.1)]) (Mf := fun x => x.2.2) (fun rc11 hc11 x => pj_X4_between_11 X hr v1 v2 v3 rc11 hc11 x.1 x.2.1 x.2.2) FU (0, r_2, M_1)
def mi_X4_between (v1 : Int32) (v2 : Int32) (v3 : Int32) (M : Mem) : Option (Int32 × Mem) := pi_X4_between_e v1 v2 v3 M
theorem ct_X4_between (l : Launch) (g : Gh) (v1 : Int32) (v2 : Int32) (v3 : Int32) (M : Mem) : CtI l g yX4_between cX4_between 6 (some (.int)) 3 [.ref (gA g 49), .int v1, .int v2, .int v3] M (mi_X4_between v1 v2 v3 M) := ctI_of (own := RX4) (L := [(0, .ref (gA g 49)), (1, .int v1), (2, .int v2), (3, .int v3)]) (by decide +kernel) rfl (Nat.le_of_ble_eq_true rfl) rfl (fun p e s m args below meth c X hr => pj_X4_between_e X hr v1 v2 v3  M)

def pi_X4_areEnds_e (v0 : Int32) (v1 : Int32) (M : Mem) : Option (Int32 × Mem) := bd (mi_X4_isValley v0 M) fun r_2 M_1 => if r_2 = 0 then (gd (isB 0) (some (0, M_1))) else (bd (mi_X4_isValley v1 M_1) fun r_4 M_3 => if r_4 = 0 then (gd (isB 0) (some (0, M_3))) else (gd (isB 1) (some (1, M_3))))
set_option maxRecDepth 100000 in
set_option maxHeartbeats 4000000 in
theorem pj_X4_areEnds_e {p : Program} {l : Launch} {e : Env} {R : Room} {s : State} {m : MethodId} {args : Array Value} {below : List Frame} {meth : Method} {c : Code} {g : Gh} (X : Cx p l e R s m args below meth c g cX4_areEnds 2 (0, 0) RX4 2) (hr : meth.sig.returnType = (some (.boolean))) (v0 : Int32) (v1 : Int32) (M : Mem) : J p l e R s m args below meth c g 2 (0, 0) (QfI below args s g) (pi_X4_areEnds_e v0 v1 M) M 0 [(0, .int v0), (1, .int v1)] [] := by
  unfold pi_X4_areEnds_e
  refine j_iload_n (i := 0) X dX4_areEnds_0 rfl rfl ?_
  refine k_cSI (As := [.int v0]) (rest := []) X (ct_X4_isValley l g v0 M) wl_X4_100 rfl rfl (by decide) (Nat.le_of_ble_eq_true rfl) dX4_areEnds_1 (fun r_2 M_1 => ?_)
  refine j_if_eq (tgt := 18) X dX4_areEnds_4 (by decide) ?_ ?_
  · refine j_iconst (v := 0) X dX4_areEnds_18 rfl ?_
    exact j_zret X hr dX4_areEnds_19
  · refine j_iload_n (i := 1) X dX4_areEnds_7 rfl rfl ?_
    refine k_cSI (As := [.int v1]) (rest := []) X (ct_X4_isValley l g v1 M_1) wl_X4_100 rfl rfl (by decide) (Nat.le_of_ble_eq_true rfl) dX4_areEnds_8 (fun r_4 M_3 => ?_)
    refine j_if_eq (tgt := 18) X dX4_areEnds_11 (by decide) ?_ ?_
    · refine j_iconst (v := 0) X dX4_areEnds_18 rfl ?_
      exact j_zret X hr dX4_areEnds_19
    · refine j_iconst (v := 1) X dX4_areEnds_14 rfl ?_
      refine j_goto (tgt := 19) X dX4_areEnds_15 (by decide) ?_
      exact j_zret X hr dX4_areEnds_19
def mi_X4_areEnds (v0 : Int32) (v1 : Int32) (M : Mem) : Option (Int32 × Mem) := pi_X4_areEnds_e v0 v1 M
theorem ct_X4_areEnds (l : Launch) (g : Gh) (v0 : Int32) (v1 : Int32) (M : Mem) : CtI l g yX4_areEnds cX4_areEnds 2 (some (.boolean)) 2 [.int v0, .int v1] M (mi_X4_areEnds v0 v1 M) := ctI_of (own := RX4) (L := [(0, .int v0), (1, .int v1)]) (by decide +kernel) rfl (Nat.le_of_ble_eq_true rfl) rfl (fun p e s m args below meth c X hr => pj_X4_areEnds_e X hr v0 v1  M)

def pi_X4_roadNow_46 (v1 : Int32) (v2 : Int32) (v3 : Int32) (v4 : Int32) (t0 : Int32) (M : Mem) : Option (Int32 × Mem) := some (if t0 < v4 then t0 else v4, M)
set_option maxRecDepth 100000 in
set_option maxHeartbeats 4000000 in
theorem pj_X4_roadNow_46 {p : Program} {l : Launch} {e : Env} {R : Room} {s : State} {m : MethodId} {args : Array Value} {below : List Frame} {meth : Method} {c : Code} {g : Gh} (X : Cx p l e R s m args below meth c g cX4_roadNow 6 (0, 0) RX4 4) (hr : meth.sig.returnType = (some (.int))) (v1 : Int32) (v2 : Int32) (v3 : Int32) (v4 : Int32) (t0 : Int32) (M : Mem) : J p l e R s m args below meth c g 6 (0, 0) (QfI below args s g) (pi_X4_roadNow_46 v1 v2 v3 v4 t0 M) M 46 [(0, .ref (gA g 49)), (1, .int v1), (2, .int v2), (3, .int v3), (4, .int v4)] [.int t0] := by
  unfold pi_X4_roadNow_46
  refine j_istore (i := 5) (Lq := [(0, .ref (gA g 49)), (1, .int v1), (2, .int v2), (3, .int v3), (4, .int v4), (5, .int t0)]) X dX4_roadNow_46 (by decide) rfl ?_
  refine j_iload (i := 4) X dX4_roadNow_48 rfl ?_
  refine j_iload (i := 5) X dX4_roadNow_50 rfl ?_
  refine j_mmin X wm_X4_159 wm_min2 wm_ini wm_min4 (by decide) (Nat.le_of_ble_eq_true rfl) dX4_roadNow_52 ?_
  exact j_iret X hr dX4_roadNow_55
def pi_X4_roadNow_22 (v1 : Int32) (v2 : Int32) (v3 : Int32) (t0 : Int32) (M : Mem) : Option (Int32 × Mem) := bd (mi_X4_between v1 v2 (-1) M) fun r_4 M_3 => if v3 < r_4 then (pi_X4_roadNow_46 v1 v2 v3 t0 12 M_3) else (bd (mi_X4_by12 (v1 - v2) M_3) fun r_6 M_5 => pi_X4_roadNow_46 v1 v2 v3 t0 r_6 M_5)
set_option maxRecDepth 100000 in
set_option maxHeartbeats 4000000 in
theorem pj_X4_roadNow_22 {p : Program} {l : Launch} {e : Env} {R : Room} {s : State} {m : MethodId} {args : Array Value} {below : List Frame} {meth : Method} {c : Code} {g : Gh} (X : Cx p l e R s m args below meth c g cX4_roadNow 6 (0, 0) RX4 4) (hr : meth.sig.returnType = (some (.int))) (v1 : Int32) (v2 : Int32) (v3 : Int32) (t0 : Int32) (M : Mem) : J p l e R s m args below meth c g 6 (0, 0) (QfI below args s g) (pi_X4_roadNow_22 v1 v2 v3 t0 M) M 22 [(0, .ref (gA g 49)), (1, .int v1), (2, .int v2), (3, .int v3)] [.int t0] := by
  unfold pi_X4_roadNow_22
  refine j_istore (i := 4) (Lq := [(0, .ref (gA g 49)), (1, .int v1), (2, .int v2), (3, .int v3), (4, .int t0)]) X dX4_roadNow_22 (by decide) rfl ?_
  refine j_aload_n (i := 0) X dX4_roadNow_24 rfl rfl ?_
  refine j_iload_n (i := 1) X dX4_roadNow_25 rfl rfl ?_
  refine j_iload_n (i := 2) X dX4_roadNow_26 rfl rfl ?_
  refine j_iconst (v := (-1)) X dX4_roadNow_27 rfl ?_
  refine k_cVI (As := [.int v1, .int v2, .int (-1)]) (rest := []) (by decide) (cf_md _) rfl X (ct_X4_between l g v1 v2 (-1) M) wl_X4_217 rfl rfl (by decide) (Nat.le_of_ble_eq_true rfl) dX4_roadNow_28 (fun r_4 M_3 => ?_)
  refine j_iload_n (i := 3) X dX4_roadNow_31 rfl rfl ?_
  refine j_icmp_gt (tgt := 44) X dX4_roadNow_32 (by decide) ?_ ?_
  · refine j_bipush (v := 12) X dX4_roadNow_44 rfl ?_
    exact pj_X4_roadNow_46 X hr v1 v2 v3 t0 12 M_3
  · refine j_iload_n (i := 1) X dX4_roadNow_35 rfl rfl ?_
    refine j_iload_n (i := 2) X dX4_roadNow_36 rfl rfl ?_
    refine j_isub X dX4_roadNow_37 ?_
    refine k_cSI (As := [.int (v1 - v2)]) (rest := []) X (ct_X4_by12 l g (v1 - v2) M_3) wl_X4_111 rfl rfl (by decide) (Nat.le_of_ble_eq_true rfl) dX4_roadNow_38 (fun r_6 M_5 => ?_)
    refine j_goto (tgt := 46) X dX4_roadNow_41 (by decide) ?_
    exact pj_X4_roadNow_46 X hr v1 v2 v3 t0 r_6 M_5
def pi_X4_roadNow_e (v1 : Int32) (v2 : Int32) (v3 : Int32) (M : Mem) : Option (Int32 × Mem) := bd (mi_X4_between v1 v2 1 M) fun r_2 M_1 => if v3 < r_2 then (pi_X4_roadNow_22 v1 v2 v3 12 M_1) else (bd (mi_X4_by12 (v2 - v1) M_1) fun r_8 M_7 => pi_X4_roadNow_22 v1 v2 v3 r_8 M_7)
set_option maxRecDepth 100000 in
set_option maxHeartbeats 4000000 in
theorem pj_X4_roadNow_e {p : Program} {l : Launch} {e : Env} {R : Room} {s : State} {m : MethodId} {args : Array Value} {below : List Frame} {meth : Method} {c : Code} {g : Gh} (X : Cx p l e R s m args below meth c g cX4_roadNow 6 (0, 0) RX4 4) (hr : meth.sig.returnType = (some (.int))) (v1 : Int32) (v2 : Int32) (v3 : Int32) (M : Mem) : J p l e R s m args below meth c g 6 (0, 0) (QfI below args s g) (pi_X4_roadNow_e v1 v2 v3 M) M 0 [(0, .ref (gA g 49)), (1, .int v1), (2, .int v2), (3, .int v3)] [] := by
  unfold pi_X4_roadNow_e
  refine j_aload_n (i := 0) X dX4_roadNow_0 rfl rfl ?_
  refine j_iload_n (i := 1) X dX4_roadNow_1 rfl rfl ?_
  refine j_iload_n (i := 2) X dX4_roadNow_2 rfl rfl ?_
  refine j_iconst (v := 1) X dX4_roadNow_3 rfl ?_
  refine k_cVI (As := [.int v1, .int v2, .int 1]) (rest := []) (by decide) (cf_md _) rfl X (ct_X4_between l g v1 v2 1 M) wl_X4_217 rfl rfl (by decide) (Nat.le_of_ble_eq_true rfl) dX4_roadNow_4 (fun r_2 M_1 => ?_)
  refine j_iload_n (i := 3) X dX4_roadNow_7 rfl rfl ?_
  refine j_icmp_gt (tgt := 20) X dX4_roadNow_8 (by decide) ?_ ?_
  · refine j_bipush (v := 12) X dX4_roadNow_20 rfl ?_
    exact pj_X4_roadNow_22 X hr v1 v2 v3 12 M_1
  · refine j_iload_n (i := 2) X dX4_roadNow_11 rfl rfl ?_
    refine j_iload_n (i := 1) X dX4_roadNow_12 rfl rfl ?_
    refine j_isub X dX4_roadNow_13 ?_
    refine k_cSI (As := [.int (v2 - v1)]) (rest := []) X (ct_X4_by12 l g (v2 - v1) M_1) wl_X4_111 rfl rfl (by decide) (Nat.le_of_ble_eq_true rfl) dX4_roadNow_14 (fun r_8 M_7 => ?_)
    refine j_goto (tgt := 22) X dX4_roadNow_17 (by decide) ?_
    exact pj_X4_roadNow_22 X hr v1 v2 v3 r_8 M_7
def mi_X4_roadNow (v1 : Int32) (v2 : Int32) (v3 : Int32) (M : Mem) : Option (Int32 × Mem) := pi_X4_roadNow_e v1 v2 v3 M
theorem ct_X4_roadNow (l : Launch) (g : Gh) (v1 : Int32) (v2 : Int32) (v3 : Int32) (M : Mem) : CtI l g yX4_roadNow cX4_roadNow 6 (some (.int)) 4 [.ref (gA g 49), .int v1, .int v2, .int v3] M (mi_X4_roadNow v1 v2 v3 M) := ctI_of (own := RX4) (L := [(0, .ref (gA g 49)), (1, .int v1), (2, .int v2), (3, .int v3)]) (by decide +kernel) rfl (Nat.le_of_ble_eq_true rfl) rfl (fun p e s m args below meth c X hr => pj_X4_roadNow_e X hr v1 v2 v3  M)

def pi_X4_road_15 (v1 : Int32) (v2 : Int32) (v3 : Int32) (M : Mem) : Option (Int32 × Mem) := bd (mi_X4_finding (-1000001) M) fun r_4 M_3 => some (r_4, M_3)
set_option maxRecDepth 100000 in
set_option maxHeartbeats 4000000 in
theorem pj_X4_road_15 {p : Program} {l : Launch} {e : Env} {R : Room} {s : State} {m : MethodId} {args : Array Value} {below : List Frame} {meth : Method} {c : Code} {g : Gh} (X : Cx p l e R s m args below meth c g cX4_road 5 (0, 0) RX4 5) (hr : meth.sig.returnType = (some (.int))) (v1 : Int32) (v2 : Int32) (v3 : Int32) (M : Mem) : J p l e R s m args below meth c g 5 (0, 0) (QfI below args s g) (pi_X4_road_15 v1 v2 v3 M) M 15 [(0, .ref (gA g 49)), (1, .int v1), (2, .int v2), (3, .int v3)] [] := by
  unfold pi_X4_road_15
  refine j_aload_n (i := 0) X dX4_road_15 rfl rfl ?_
  refine j_ldc (v := (-1000001)) X wq_345 dX4_road_16 ?_
  refine k_cVI (As := [.int (-1000001)]) (rest := []) (by decide) (cf_md _) rfl X (ct_X4_finding l g (-1000001) M) wl_X4_81 rfl rfl (by decide) (Nat.le_of_ble_eq_true rfl) dX4_road_18 (fun r_4 M_3 => ?_)
  exact j_iret X hr dX4_road_21
def pi_X4_road_e (v1 : Int32) (v2 : Int32) (v3 : Int32) (M : Mem) : Option (Int32 × Mem) := bd (mi_X4_areEnds v1 v2 M) fun r_2 M_1 => if r_2 = 0 then (pi_X4_road_15 v1 v2 v3 M_1) else (bd (mi_X4_isHigh v3 M_1) fun r_6 M_5 => if r_6 = 0 then (pi_X4_road_15 v1 v2 v3 M_5) else (bd (mi_X4_roadNow v1 v2 v3 M_5) fun r_8 M_7 => if r_8 = 12 then (bd (mi_X4_finding (-1000004) M_7) fun r_10 M_9 => some (r_10, M_9)) else (some (r_8, M_7))))
set_option maxRecDepth 100000 in
set_option maxHeartbeats 4000000 in
theorem pj_X4_road_e {p : Program} {l : Launch} {e : Env} {R : Room} {s : State} {m : MethodId} {args : Array Value} {below : List Frame} {meth : Method} {c : Code} {g : Gh} (X : Cx p l e R s m args below meth c g cX4_road 5 (0, 0) RX4 5) (hr : meth.sig.returnType = (some (.int))) (v1 : Int32) (v2 : Int32) (v3 : Int32) (M : Mem) : J p l e R s m args below meth c g 5 (0, 0) (QfI below args s g) (pi_X4_road_e v1 v2 v3 M) M 0 [(0, .ref (gA g 49)), (1, .int v1), (2, .int v2), (3, .int v3)] [] := by
  unfold pi_X4_road_e
  refine j_iload_n (i := 1) X dX4_road_0 rfl rfl ?_
  refine j_iload_n (i := 2) X dX4_road_1 rfl rfl ?_
  refine k_cSI (As := [.int v1, .int v2]) (rest := []) X (ct_X4_areEnds l g v1 v2 M) wl_X4_220 rfl rfl (by decide) (Nat.le_of_ble_eq_true rfl) dX4_road_2 (fun r_2 M_1 => ?_)
  refine j_if_eq (tgt := 15) X dX4_road_5 (by decide) ?_ ?_
  · exact pj_X4_road_15 X hr v1 v2 v3 M_1
  · refine j_iload_n (i := 3) X dX4_road_8 rfl rfl ?_
    refine k_cSI (As := [.int v3]) (rest := []) X (ct_X4_isHigh l g v3 M_1) wl_X4_141 rfl rfl (by decide) (Nat.le_of_ble_eq_true rfl) dX4_road_9 (fun r_6 M_5 => ?_)
    refine j_if_ne (tgt := 22) X dX4_road_12 (by decide) ?_ ?_
    · exact pj_X4_road_15 X hr v1 v2 v3 M_5
    · refine j_aload_n (i := 0) X dX4_road_22 rfl rfl ?_
      refine j_iload_n (i := 1) X dX4_road_23 rfl rfl ?_
      refine j_iload_n (i := 2) X dX4_road_24 rfl rfl ?_
      refine j_iload_n (i := 3) X dX4_road_25 rfl rfl ?_
      refine k_cVI (As := [.int v1, .int v2, .int v3]) (rest := []) (by decide) (cf_md _) rfl X (ct_X4_roadNow l g v1 v2 v3 M_5) wl_X4_223 rfl rfl (by decide) (Nat.le_of_ble_eq_true rfl) dX4_road_26 (fun r_8 M_7 => ?_)
      refine j_istore (i := 4) (Lq := [(0, .ref (gA g 49)), (1, .int v1), (2, .int v2), (3, .int v3), (4, .int r_8)]) X dX4_road_29 (by decide) rfl ?_
      refine j_iload (i := 4) X dX4_road_31 rfl ?_
      refine j_bipush (v := 12) X dX4_road_33 rfl ?_
      refine j_icmp_ne (tgt := 47) X dX4_road_35 (by decide) ?_ ?_
      · refine j_aload_n (i := 0) X dX4_road_38 rfl rfl ?_
        refine j_ldc (v := (-1000004)) X wq_352 dX4_road_39 ?_
        refine k_cVI (As := [.int (-1000004)]) (rest := []) (by decide) (cf_md _) rfl X (ct_X4_finding l g (-1000004) M_7) wl_X4_81 rfl rfl (by decide) (Nat.le_of_ble_eq_true rfl) dX4_road_41 (fun r_10 M_9 => ?_)
        refine j_goto (tgt := 49) X dX4_road_44 (by decide) ?_
        exact j_iret X hr dX4_road_49
      · refine j_iload (i := 4) X dX4_road_47 rfl ?_
        exact j_iret X hr dX4_road_49
def mi_X4_road (v1 : Int32) (v2 : Int32) (v3 : Int32) (M : Mem) : Option (Int32 × Mem) := pi_X4_road_e v1 v2 v3 M
theorem ct_X4_road (l : Launch) (g : Gh) (v1 : Int32) (v2 : Int32) (v3 : Int32) (M : Mem) : CtI l g yX4_road cX4_road 5 (some (.int)) 5 [.ref (gA g 49), .int v1, .int v2, .int v3] M (mi_X4_road v1 v2 v3 M) := ctI_of (own := RX4) (L := [(0, .ref (gA g 49)), (1, .int v1), (2, .int v2), (3, .int v3)]) (by decide +kernel) rfl (Nat.le_of_ble_eq_true rfl) rfl (fun p e s m args below meth c X hr => pj_X4_road_e X hr v1 v2 v3  M)

def pi_X4_climbNow_e (v1 : Int32) (v2 : Int32) (M : Mem) : Option (Int32 × Mem) := bd (mi_X4_between v1 v2 1 M) fun r_2 M_1 => bd (mi_X4_between v1 v2 (-1) M_1) fun r_4 M_3 => some (if r_4 < r_2 then r_4 else r_2, M_3)
set_option maxRecDepth 100000 in
set_option maxHeartbeats 4000000 in
theorem pj_X4_climbNow_e {p : Program} {l : Launch} {e : Env} {R : Room} {s : State} {m : MethodId} {args : Array Value} {below : List Frame} {meth : Method} {c : Code} {g : Gh} (X : Cx p l e R s m args below meth c g cX4_climbNow 3 (0, 0) RX4 4) (hr : meth.sig.returnType = (some (.int))) (v1 : Int32) (v2 : Int32) (M : Mem) : J p l e R s m args below meth c g 3 (0, 0) (QfI below args s g) (pi_X4_climbNow_e v1 v2 M) M 0 [(0, .ref (gA g 49)), (1, .int v1), (2, .int v2)] [] := by
  unfold pi_X4_climbNow_e
  refine j_aload_n (i := 0) X dX4_climbNow_0 rfl rfl ?_
  refine j_iload_n (i := 1) X dX4_climbNow_1 rfl rfl ?_
  refine j_iload_n (i := 2) X dX4_climbNow_2 rfl rfl ?_
  refine j_iconst (v := 1) X dX4_climbNow_3 rfl ?_
  refine k_cVI (As := [.int v1, .int v2, .int 1]) (rest := []) (by decide) (cf_md _) rfl X (ct_X4_between l g v1 v2 1 M) wl_X4_217 rfl rfl (by decide) (Nat.le_of_ble_eq_true rfl) dX4_climbNow_4 (fun r_2 M_1 => ?_)
  refine j_aload_n (i := 0) X dX4_climbNow_7 rfl rfl ?_
  refine j_iload_n (i := 1) X dX4_climbNow_8 rfl rfl ?_
  refine j_iload_n (i := 2) X dX4_climbNow_9 rfl rfl ?_
  refine j_iconst (v := (-1)) X dX4_climbNow_10 rfl ?_
  refine k_cVI (As := [.int v1, .int v2, .int (-1)]) (rest := [.int r_2]) (by decide) (cf_md _) rfl X (ct_X4_between l g v1 v2 (-1) M_1) wl_X4_217 rfl rfl (by decide) (Nat.le_of_ble_eq_true rfl) dX4_climbNow_11 (fun r_4 M_3 => ?_)
  refine j_mmin X wm_X4_159 wm_min2 wm_ini wm_min4 (by decide) (Nat.le_of_ble_eq_true rfl) dX4_climbNow_14 ?_
  exact j_iret X hr dX4_climbNow_17
def mi_X4_climbNow (v1 : Int32) (v2 : Int32) (M : Mem) : Option (Int32 × Mem) := pi_X4_climbNow_e v1 v2 M
theorem ct_X4_climbNow (l : Launch) (g : Gh) (v1 : Int32) (v2 : Int32) (M : Mem) : CtI l g yX4_climbNow cX4_climbNow 3 (some (.int)) 4 [.ref (gA g 49), .int v1, .int v2] M (mi_X4_climbNow v1 v2 M) := ctI_of (own := RX4) (L := [(0, .ref (gA g 49)), (1, .int v1), (2, .int v2)]) (by decide +kernel) rfl (Nat.le_of_ble_eq_true rfl) rfl (fun p e s m args below meth c X hr => pj_X4_climbNow_e X hr v1 v2  M)

def pi_X4_climb_e (v1 : Int32) (v2 : Int32) (M : Mem) : Option (Int32 × Mem) := bd (mi_X4_areEnds v1 v2 M) fun r_2 M_1 => if r_2 = 0 then (bd (mi_X4_finding (-1000001) M_1) fun r_4 M_3 => some (r_4, M_3)) else (bd (mi_X4_climbNow v1 v2 M_1) fun r_6 M_5 => some (r_6, M_5))
set_option maxRecDepth 100000 in
set_option maxHeartbeats 4000000 in
theorem pj_X4_climb_e {p : Program} {l : Launch} {e : Env} {R : Room} {s : State} {m : MethodId} {args : Array Value} {below : List Frame} {meth : Method} {c : Code} {g : Gh} (X : Cx p l e R s m args below meth c g cX4_climb 3 (0, 0) RX4 5) (hr : meth.sig.returnType = (some (.int))) (v1 : Int32) (v2 : Int32) (M : Mem) : J p l e R s m args below meth c g 3 (0, 0) (QfI below args s g) (pi_X4_climb_e v1 v2 M) M 0 [(0, .ref (gA g 49)), (1, .int v1), (2, .int v2)] [] := by
  unfold pi_X4_climb_e
  refine j_iload_n (i := 1) X dX4_climb_0 rfl rfl ?_
  refine j_iload_n (i := 2) X dX4_climb_1 rfl rfl ?_
  refine k_cSI (As := [.int v1, .int v2]) (rest := []) X (ct_X4_areEnds l g v1 v2 M) wl_X4_220 rfl rfl (by decide) (Nat.le_of_ble_eq_true rfl) dX4_climb_2 (fun r_2 M_1 => ?_)
  refine j_if_eq (tgt := 17) X dX4_climb_5 (by decide) ?_ ?_
  · refine j_aload_n (i := 0) X dX4_climb_17 rfl rfl ?_
    refine j_ldc (v := (-1000001)) X wq_345 dX4_climb_18 ?_
    refine k_cVI (As := [.int (-1000001)]) (rest := []) (by decide) (cf_md _) rfl X (ct_X4_finding l g (-1000001) M_1) wl_X4_81 rfl rfl (by decide) (Nat.le_of_ble_eq_true rfl) dX4_climb_20 (fun r_4 M_3 => ?_)
    exact j_iret X hr dX4_climb_23
  · refine j_aload_n (i := 0) X dX4_climb_8 rfl rfl ?_
    refine j_iload_n (i := 1) X dX4_climb_9 rfl rfl ?_
    refine j_iload_n (i := 2) X dX4_climb_10 rfl rfl ?_
    refine k_cVI (As := [.int v1, .int v2]) (rest := []) (by decide) (cf_md _) rfl X (ct_X4_climbNow l g v1 v2 M_1) wl_X4_226 rfl rfl (by decide) (Nat.le_of_ble_eq_true rfl) dX4_climb_11 (fun r_6 M_5 => ?_)
    refine j_goto (tgt := 23) X dX4_climb_14 (by decide) ?_
    exact j_iret X hr dX4_climb_23
def mi_X4_climb (v1 : Int32) (v2 : Int32) (M : Mem) : Option (Int32 × Mem) := pi_X4_climb_e v1 v2 M
theorem ct_X4_climb (l : Launch) (g : Gh) (v1 : Int32) (v2 : Int32) (M : Mem) : CtI l g yX4_climb cX4_climb 3 (some (.int)) 5 [.ref (gA g 49), .int v1, .int v2] M (mi_X4_climb v1 v2 M) := ctI_of (own := RX4) (L := [(0, .ref (gA g 49)), (1, .int v1), (2, .int v2)]) (by decide +kernel) rfl (Nat.le_of_ble_eq_true rfl) rfl (fun p e s m args below meth c X hr => pj_X4_climb_e X hr v1 v2  M)

def pi_X4_openIn_41 (v1 : Int32) (v2 : Int32) (v3 : Int32) (v4 : Int32) (v6 : Int32) (t0 : Int32) (t1 : Int32) (rc17 : Int32 × Int32 × Mem → Option (Int32 × Mem)) (M : Mem) : Option (Int32 × Mem) := bI (t1 + t0) fun v5_6 => bv (mi_X4_age M) fun M_7 => bI (v6 + 1) fun v6_8 => rc17 (v5_6, v6_8, M_7)
set_option maxRecDepth 100000 in
set_option maxHeartbeats 4000000 in
theorem pj_X4_openIn_41 {p : Program} {l : Launch} {e : Env} {R : Room} {s : State} {m : MethodId} {args : Array Value} {below : List Frame} {meth : Method} {c : Code} {g : Gh} (X : Cx p l e R s m args below meth c g cX4_openIn 7 (0, 0) RX4 10) (hr : meth.sig.returnType = (some (.int))) (v1 : Int32) (v2 : Int32) (v3 : Int32) (v4 : Int32) (v6 : Int32) (t0 : Int32) (t1 : Int32) (rc17 : Int32 × Int32 × Mem → Option (Int32 × Mem)) (hc17 : ∀ x, J p l e R s m args below meth c g 7 (0, 0) (QfI below args s g) (rc17 x) x.2.2 17 [(0, .ref (gA g 49)), (1, .int v1), (2, .int v2), (3, .int v3), (4, .int v4), (5, .int x.1), (6, .int x.2.1)] []) (M : Mem) : J p l e R s m args below meth c g 7 (0, 0) (QfI below args s g) (pi_X4_openIn_41 v1 v2 v3 v4 v6 t0 t1 rc17 M) M 41 [(0, .ref (gA g 49)), (1, .int v1), (2, .int v2), (3, .int v3), (4, .int v4), (6, .int v6)] [.int t0, .int t1] := by
  unfold pi_X4_openIn_41
  refine j_iadd X dX4_openIn_41 ?_
  refine j_bI (fun v5_6 => ?_)
  refine j_istore (i := 5) (Lq := [(0, .ref (gA g 49)), (1, .int v1), (2, .int v2), (3, .int v3), (4, .int v4), (5, .int v5_6), (6, .int v6)]) X dX4_openIn_42 (by decide) rfl ?_
  refine j_aload_n (i := 0) X dX4_openIn_44 rfl rfl ?_
  refine k_cVV (As := []) (rest := []) (by decide) (cf_md _) rfl X (ct_X4_age l g M) wl_X4_162 rfl rfl (by decide) (Nat.le_of_ble_eq_true rfl) dX4_openIn_45 (fun M_7 => ?_)
  refine j_iincB (i := 6) (y := v6 + 1) (Lf := fun v6_8 => [(0, .ref (gA g 49)), (1, .int v1), (2, .int v2), (3, .int v3), (4, .int v4), (5, .int v5_6), (6, .int v6_8)]) X dX4_openIn_48 rfl rfl (by decide) (fun _ => rfl) (fun v6_8 => ?_)
  refine j_goto (tgt := 17) X dX4_openIn_51 (by decide) ?_
  exact hc17 (v5_6, v6_8, M_7)
def pi_X4_openIn_17 (v1 : Int32) (v2 : Int32) (v3 : Int32) (v4 : Int32) (rc17 : Int32 × Int32 × Mem → Option (Int32 × Mem)) (v5 : Int32) (v6 : Int32) (M : Mem) : Option (Int32 × Mem) := if v4 ≤ v6 then (bd (mi_X4_putBack v5 M) fun r_3 M_2 => some (r_3, M_2)) else (bd (mi_X4_climbNow v1 v2 M) fun r_5 M_4 => if v3 < r_5 then (pi_X4_openIn_41 v1 v2 v3 v4 v6 0 v5 rc17 M_4) else (pi_X4_openIn_41 v1 v2 v3 v4 v6 1 v5 rc17 M_4))
set_option maxRecDepth 100000 in
set_option maxHeartbeats 4000000 in
theorem pj_X4_openIn_17 {p : Program} {l : Launch} {e : Env} {R : Room} {s : State} {m : MethodId} {args : Array Value} {below : List Frame} {meth : Method} {c : Code} {g : Gh} (X : Cx p l e R s m args below meth c g cX4_openIn 7 (0, 0) RX4 10) (hr : meth.sig.returnType = (some (.int))) (v1 : Int32) (v2 : Int32) (v3 : Int32) (v4 : Int32) (rc17 : Int32 × Int32 × Mem → Option (Int32 × Mem)) (hc17 : ∀ x, J p l e R s m args below meth c g 7 (0, 0) (QfI below args s g) (rc17 x) x.2.2 17 [(0, .ref (gA g 49)), (1, .int v1), (2, .int v2), (3, .int v3), (4, .int v4), (5, .int x.1), (6, .int x.2.1)] []) (v5 : Int32) (v6 : Int32) (M : Mem) : J p l e R s m args below meth c g 7 (0, 0) (QfI below args s g) (pi_X4_openIn_17 v1 v2 v3 v4 rc17 v5 v6 M) M 17 [(0, .ref (gA g 49)), (1, .int v1), (2, .int v2), (3, .int v3), (4, .int v4), (5, .int v5), (6, .int v6)] [] := by
  unfold pi_X4_openIn_17
  refine j_iload (i := 6) X dX4_openIn_17 rfl ?_
  refine j_iload (i := 4) X dX4_openIn_19 rfl ?_
  refine j_icmp_ge (tgt := 54) X dX4_openIn_21 (by decide) ?_ ?_
  · refine j_aload_n (i := 0) X dX4_openIn_54 rfl rfl ?_
    refine j_iload (i := 5) X dX4_openIn_55 rfl ?_
    refine k_cVI (As := [.int v5]) (rest := []) (by decide) (cf_md _) rfl X (ct_X4_putBack l g v5 M) wl_X4_184 rfl rfl (by decide) (Nat.le_of_ble_eq_true rfl) dX4_openIn_57 (fun r_3 M_2 => ?_)
    exact j_iret X hr dX4_openIn_60
  · refine j_iload (i := 5) X dX4_openIn_24 rfl ?_
    refine j_aload_n (i := 0) X dX4_openIn_26 rfl rfl ?_
    refine j_iload_n (i := 1) X dX4_openIn_27 rfl rfl ?_
    refine j_iload_n (i := 2) X dX4_openIn_28 rfl rfl ?_
    refine k_cVI (As := [.int v1, .int v2]) (rest := [.int v5]) (by decide) (cf_md _) rfl X (ct_X4_climbNow l g v1 v2 M) wl_X4_226 rfl rfl (by decide) (Nat.le_of_ble_eq_true rfl) dX4_openIn_29 (fun r_5 M_4 => ?_)
    refine j_iload_n (i := 3) X dX4_openIn_32 rfl rfl ?_
    refine j_icmp_gt (tgt := 40) X dX4_openIn_33 (by decide) ?_ ?_
    · refine j_iconst (v := 0) X dX4_openIn_40 rfl ?_
      refine j_pick [0, 1, 2, 3, 4, 6] (Lq := [(0, .ref (gA g 49)), (1, .int v1), (2, .int v2), (3, .int v3), (4, .int v4), (6, .int v6)]) rfl ?_
      exact pj_X4_openIn_41 X hr v1 v2 v3 v4 v6 0 v5 rc17 hc17 M_4
    · refine j_iconst (v := 1) X dX4_openIn_36 rfl ?_
      refine j_goto (tgt := 41) X dX4_openIn_37 (by decide) ?_
      refine j_pick [0, 1, 2, 3, 4, 6] (Lq := [(0, .ref (gA g 49)), (1, .int v1), (2, .int v2), (3, .int v3), (4, .int v4), (6, .int v6)]) rfl ?_
      exact pj_X4_openIn_41 X hr v1 v2 v3 v4 v6 1 v5 rc17 hc17 M_4
def pi_X4_openIn_e (v1 : Int32) (v2 : Int32) (v3 : Int32) (v4 : Int32) (M : Mem) : Option (Int32 × Mem) := bv (mi_X4_copyRow 50 62 52 62 M) fun M_1 => lp (fun rc17 x => pi_X4_openIn_17 v1 v2 v3 v4 rc17 x.1 x.2.1 x.2.2) FU (0, 0, M_1)
set_option maxRecDepth 100000 in
set_option maxHeartbeats 4000000 in
theorem pj_X4_openIn_e {p : Program} {l : Launch} {e : Env} {R : Room} {s : State} {m : MethodId} {args : Array Value} {below : List Frame} {meth : Method} {c : Code} {g : Gh} (X : Cx p l e R s m args below meth c g cX4_openIn 7 (0, 0) RX4 10) (hr : meth.sig.returnType = (some (.int))) (v1 : Int32) (v2 : Int32) (v3 : Int32) (v4 : Int32) (M : Mem) : J p l e R s m args below meth c g 7 (0, 0) (QfI below args s g) (pi_X4_openIn_e v1 v2 v3 v4 M) M 0 [(0, .ref (gA g 49)), (1, .int v1), (2, .int v2), (3, .int v3), (4, .int v4)] [] := by
  unfold pi_X4_openIn_e
  refine j_aload_n (i := 0) X dX4_openIn_0 rfl rfl ?_
  refine j_get_md 0 X (by decide) wq_346 rfl dX4_openIn_1 ?_
  refine j_aload_n (i := 0) X dX4_openIn_4 rfl rfl ?_
  refine j_get_md 2 X (by decide) wq_347 rfl dX4_openIn_5 ?_
  refine k_cSV (As := [.ref (gA g 50), .ref (gA g 52)]) (rest := []) X (ct_X4_copyRow l g 50 62 52 62 ia_50 ia_52 M) wl_X4_76 rfl rfl (by decide) (Nat.le_of_ble_eq_true rfl) dX4_openIn_8 (fun M_1 => ?_)
  refine j_iconst (v := 0) X dX4_openIn_11 rfl ?_
  refine j_istore (i := 5) (Lq := [(0, .ref (gA g 49)), (1, .int v1), (2, .int v2), (3, .int v3), (4, .int v4), (5, .int 0)]) X dX4_openIn_12 (by decide) rfl ?_
  refine j_iconst (v := 0) X dX4_openIn_14 rfl ?_
  refine j_istore (i := 6) (Lq := [(0, .ref (gA g 49)), (1, .int v1), (2, .int v2), (3, .int v3), (4, .int v4), (5, .int 0), (6, .int 0)]) X dX4_openIn_15 (by decide) rfl ?_
  exact j_lp (Lf := fun x => [(0, .ref (gA g 49)), (1, .int v1), (2, .int v2), (3, .int v3), (4, .int v4), (5, .int x.1), (6, .int x.2.1)]) (Mf := fun x => x.2.2) (fun rc17 hc17 x => pj_X4_openIn_17 X hr v1 v2 v3 v4 rc17 hc17 x.1 x.2.1 x.2.2) FU (0, 0, M_1)
def mi_X4_openIn (v1 : Int32) (v2 : Int32) (v3 : Int32) (v4 : Int32) (M : Mem) : Option (Int32 × Mem) := pi_X4_openIn_e v1 v2 v3 v4 M
theorem ct_X4_openIn (l : Launch) (g : Gh) (v1 : Int32) (v2 : Int32) (v3 : Int32) (v4 : Int32) (M : Mem) : CtI l g yX4_openIn cX4_openIn 7 (some (.int)) 10 [.ref (gA g 49), .int v1, .int v2, .int v3, .int v4] M (mi_X4_openIn v1 v2 v3 v4 M) := ctI_of (own := RX4) (L := [(0, .ref (gA g 49)), (1, .int v1), (2, .int v2), (3, .int v3), (4, .int v4)]) (by decide +kernel) rfl (Nat.le_of_ble_eq_true rfl) rfl (fun p e s m args below meth c X hr => pj_X4_openIn_e X hr v1 v2 v3 v4  M)

def pi_X4_open_38 (v1 : Int32) (v2 : Int32) (v3 : Int32) (v4 : Int32) (M : Mem) : Option (Int32 × Mem) := bd (mi_X4_finding (-1000001) M) fun r_4 M_3 => some (r_4, M_3)
set_option maxRecDepth 100000 in
set_option maxHeartbeats 4000000 in
theorem pj_X4_open_38 {p : Program} {l : Launch} {e : Env} {R : Room} {s : State} {m : MethodId} {args : Array Value} {below : List Frame} {meth : Method} {c : Code} {g : Gh} (X : Cx p l e R s m args below meth c g cX4_open 5 (0, 0) RX4 11) (hr : meth.sig.returnType = (some (.int))) (v1 : Int32) (v2 : Int32) (v3 : Int32) (v4 : Int32) (M : Mem) : J p l e R s m args below meth c g 5 (0, 0) (QfI below args s g) (pi_X4_open_38 v1 v2 v3 v4 M) M 38 [(0, .ref (gA g 49)), (1, .int v1), (2, .int v2), (3, .int v3), (4, .int v4)] [] := by
  unfold pi_X4_open_38
  refine j_aload_n (i := 0) X dX4_open_38 rfl rfl ?_
  refine j_ldc (v := (-1000001)) X wq_345 dX4_open_39 ?_
  refine k_cVI (As := [.int (-1000001)]) (rest := []) (by decide) (cf_md _) rfl X (ct_X4_finding l g (-1000001) M) wl_X4_81 rfl rfl (by decide) (Nat.le_of_ble_eq_true rfl) dX4_open_41 (fun r_4 M_3 => ?_)
  exact j_iret X hr dX4_open_44
def pi_X4_open_e (v1 : Int32) (v2 : Int32) (v3 : Int32) (v4 : Int32) (M : Mem) : Option (Int32 × Mem) := bd (mi_X4_areEnds v1 v2 M) fun r_2 M_1 => if r_2 = 0 then (pi_X4_open_38 v1 v2 v3 v4 M_1) else (bd (mi_X4_isHigh v3 M_1) fun r_6 M_5 => if r_6 = 0 then (pi_X4_open_38 v1 v2 v3 v4 M_5) else (bd (mi_X4_within v4 0 100 M_5) fun r_8 M_7 => if r_8 = 0 then (pi_X4_open_38 v1 v2 v3 v4 M_7) else (bd (mi_X4_openIn v1 v2 v3 v4 M_7) fun r_10 M_9 => some (r_10, M_9))))
set_option maxRecDepth 100000 in
set_option maxHeartbeats 4000000 in
theorem pj_X4_open_e {p : Program} {l : Launch} {e : Env} {R : Room} {s : State} {m : MethodId} {args : Array Value} {below : List Frame} {meth : Method} {c : Code} {g : Gh} (X : Cx p l e R s m args below meth c g cX4_open 5 (0, 0) RX4 11) (hr : meth.sig.returnType = (some (.int))) (v1 : Int32) (v2 : Int32) (v3 : Int32) (v4 : Int32) (M : Mem) : J p l e R s m args below meth c g 5 (0, 0) (QfI below args s g) (pi_X4_open_e v1 v2 v3 v4 M) M 0 [(0, .ref (gA g 49)), (1, .int v1), (2, .int v2), (3, .int v3), (4, .int v4)] [] := by
  unfold pi_X4_open_e
  refine j_iload_n (i := 1) X dX4_open_0 rfl rfl ?_
  refine j_iload_n (i := 2) X dX4_open_1 rfl rfl ?_
  refine k_cSI (As := [.int v1, .int v2]) (rest := []) X (ct_X4_areEnds l g v1 v2 M) wl_X4_220 rfl rfl (by decide) (Nat.le_of_ble_eq_true rfl) dX4_open_2 (fun r_2 M_1 => ?_)
  refine j_if_eq (tgt := 38) X dX4_open_5 (by decide) ?_ ?_
  · exact pj_X4_open_38 X hr v1 v2 v3 v4 M_1
  · refine j_iload_n (i := 3) X dX4_open_8 rfl rfl ?_
    refine k_cSI (As := [.int v3]) (rest := []) X (ct_X4_isHigh l g v3 M_1) wl_X4_141 rfl rfl (by decide) (Nat.le_of_ble_eq_true rfl) dX4_open_9 (fun r_6 M_5 => ?_)
    refine j_if_eq (tgt := 38) X dX4_open_12 (by decide) ?_ ?_
    · exact pj_X4_open_38 X hr v1 v2 v3 v4 M_5
    · refine j_iload (i := 4) X dX4_open_15 rfl ?_
      refine j_iconst (v := 0) X dX4_open_17 rfl ?_
      refine j_bipush (v := 100) X dX4_open_18 rfl ?_
      refine k_cSI (As := [.int v4, .int 0, .int 100]) (rest := []) X (ct_X4_within l g v4 0 100 M_5) wl_X4_85 rfl rfl (by decide) (Nat.le_of_ble_eq_true rfl) dX4_open_20 (fun r_8 M_7 => ?_)
      refine j_if_eq (tgt := 38) X dX4_open_23 (by decide) ?_ ?_
      · exact pj_X4_open_38 X hr v1 v2 v3 v4 M_7
      · refine j_aload_n (i := 0) X dX4_open_26 rfl rfl ?_
        refine j_iload_n (i := 1) X dX4_open_27 rfl rfl ?_
        refine j_iload_n (i := 2) X dX4_open_28 rfl rfl ?_
        refine j_iload_n (i := 3) X dX4_open_29 rfl rfl ?_
        refine j_iload (i := 4) X dX4_open_30 rfl ?_
        refine k_cVI (As := [.int v1, .int v2, .int v3, .int v4]) (rest := []) (by decide) (cf_md _) rfl X (ct_X4_openIn l g v1 v2 v3 v4 M_7) wl_X4_229 rfl rfl (by decide) (Nat.le_of_ble_eq_true rfl) dX4_open_32 (fun r_10 M_9 => ?_)
        refine j_goto (tgt := 44) X dX4_open_35 (by decide) ?_
        exact j_iret X hr dX4_open_44
def mi_X4_open (v1 : Int32) (v2 : Int32) (v3 : Int32) (v4 : Int32) (M : Mem) : Option (Int32 × Mem) := pi_X4_open_e v1 v2 v3 v4 M
theorem ct_X4_open (l : Launch) (g : Gh) (v1 : Int32) (v2 : Int32) (v3 : Int32) (v4 : Int32) (M : Mem) : CtI l g yX4_open cX4_open 5 (some (.int)) 11 [.ref (gA g 49), .int v1, .int v2, .int v3, .int v4] M (mi_X4_open v1 v2 v3 v4 M) := ctI_of (own := RX4) (L := [(0, .ref (gA g 49)), (1, .int v1), (2, .int v2), (3, .int v3), (4, .int v4)]) (by decide +kernel) rfl (Nat.le_of_ble_eq_true rfl) rfl (fun p e s m args below meth c X hr => pj_X4_open_e X hr v1 v2 v3 v4  M)
