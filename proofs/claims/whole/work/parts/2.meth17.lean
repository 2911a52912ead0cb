def pi_X4_lay_21 (v1 : Int32) (v2 : Int32) (v3 : Int32) (M : Mem) : Option (Int32 × Mem) := bd (mi_X4_finding (-1000001) M) fun r_4 M_3 => some (r_4, M_3)
set_option maxRecDepth 100000 in
set_option maxHeartbeats 4000000 in
theorem pj_X4_lay_21 {p : Program} {l : Launch} {e : Env} {R : Room} {s : State} {m : MethodId} {args : Array Value} {below : List Frame} {meth : Method} {c : Code} {g : Gh} (X : Cx p l e R s m args below meth c g cX4_lay 8 (0, 0) RX4 11) (hr : meth.sig.returnType = (some (.int))) (v1 : Int32) (v2 : Int32) (v3 : Int32) (M : Mem) : J p l e R s m args below meth c g 8 (0, 0) (QfI below args s g) (pi_X4_lay_21 v1 v2 v3 M) M 21 [(0, .ref (gA g 49)), (1, .int v1), (2, .int v2), (3, .int v3)] [] := by
  unfold pi_X4_lay_21
  refine j_aload_n (i := 0) X dX4_lay_21 rfl rfl ?_
  refine j_ldc (v := (-1000001)) X wq_345 dX4_lay_22 ?_
  refine k_cVI (As := [.int (-1000001)]) (rest := []) (by decide) (cf_md _) rfl X (ct_X4_finding l g (-1000001) M) wl_X4_81 rfl rfl (by decide) (Nat.le_of_ble_eq_true rfl) dX4_lay_24 (fun r_4 M_3 => ?_)
  exact j_iret X hr dX4_lay_27
def pi_X4_lay_79 (v1 : Int32) (v2 : Int32) (v3 : Int32) (v5 : Int32) (v6 : Int32) (v7 : Int32) (t0 : Int32) (rc37 : Int32 × Int32 × Int32 × Mem → Option (Int32 × Mem)) (M : Mem) : Option (Int32 × Mem) := bI (if v5 < v7 then v7 else v5) fun v5_9 => bI (v6 + 1) fun v6_10 => rc37 (t0, v5_9, v6_10, M)
set_option maxRecDepth 100000 in
set_option maxHeartbeats 4000000 in
theorem pj_X4_lay_79 {p : Program} {l : Launch} {e : Env} {R : Room} {s : State} {m : MethodId} {args : Array Value} {below : List Frame} {meth : Method} {c : Code} {g : Gh} (X : Cx p l e R s m args below meth c g cX4_lay 8 (0, 0) RX4 11) (hr : meth.sig.returnType = (some (.int))) (v1 : Int32) (v2 : Int32) (v3 : Int32) (v5 : Int32) (v6 : Int32) (v7 : Int32) (t0 : Int32) (rc37 : Int32 × Int32 × Int32 × Mem → Option (Int32 × Mem)) (hc37 : ∀ x, J p l e R s m args below meth c g 8 (0, 0) (QfI below args s g) (rc37 x) x.2.2.2 37 [(0, .ref (gA g 49)), (1, .int v1), (2, .int v2), (3, .int v3), (4, .int x.1), (5, .int x.2.1), (6, .int x.2.2.1)] []) (M : Mem) : J p l e R s m args below meth c g 8 (0, 0) (QfI below args s g) (pi_X4_lay_79 v1 v2 v3 v5 v6 v7 t0 rc37 M) M 79 [(0, .ref (gA g 49)), (1, .int v1), (2, .int v2), (3, .int v3), (5, .int v5), (6, .int v6), (7, .int v7)] [.int t0] := by
  unfold pi_X4_lay_79
  refine j_istore (i := 4) (Lq := [(0, .ref (gA g 49)), (1, .int v1), (2, .int v2), (3, .int v3), (4, .int t0), (5, .int v5), (6, .int v6), (7, .int v7)]) X dX4_lay_79 (by decide) rfl ?_
  refine j_iload (i := 5) X dX4_lay_81 rfl ?_
  refine j_iload (i := 7) X dX4_lay_83 rfl ?_
  refine j_mmax X wm_X4_148 wm_max2 wm_ini wm_max4 (by decide) (Nat.le_of_ble_eq_true rfl) dX4_lay_85 ?_
  refine j_bI (fun v5_9 => ?_)
  refine j_istore (i := 5) (Lq := [(0, .ref (gA g 49)), (1, .int v1), (2, .int v2), (3, .int v3), (4, .int t0), (5, .int v5_9), (6, .int v6), (7, .int v7)]) X dX4_lay_88 (by decide) rfl ?_
  refine j_iincB (i := 6) (y := v6 + 1) (Lf := fun v6_10 => [(0, .ref (gA g 49)), (1, .int v1), (2, .int v2), (3, .int v3), (4, .int t0), (5, .int v5_9), (6, .int v6_10), (7, .int v7)]) X dX4_lay_90 rfl rfl (by decide) (fun _ => rfl) (fun v6_10 => ?_)
  refine j_goto (tgt := 37) X dX4_lay_93 (by decide) ?_
  refine j_pick [0, 1, 2, 3, 4, 5, 6] (Lq := [(0, .ref (gA g 49)), (1, .int v1), (2, .int v2), (3, .int v3), (4, .int t0), (5, .int v5_9), (6, .int v6_10)]) rfl ?_
  exact hc37 (t0, v5_9, v6_10, M)
def pi_X4_lay_63 (v1 : Int32) (v2 : Int32) (v3 : Int32) (v4 : Int32) (v5 : Int32) (v6 : Int32) (t0 : Int32) (rc37 : Int32 × Int32 × Int32 × Mem → Option (Int32 × Mem)) (M : Mem) : Option (Int32 × Mem) := if t0 ≤ v5 then (pi_X4_lay_79 v1 v2 v3 v5 v6 t0 v4 rc37 M) else (pi_X4_lay_79 v1 v2 v3 v5 v6 t0 v6 rc37 M)
set_option maxRecDepth 100000 in
set_option maxHeartbeats 4000000 in
theorem pj_X4_lay_63 {p : Program} {l : Launch} {e : Env} {R : Room} {s : State} {m : MethodId} {args : Array Value} {below : List Frame} {meth : Method} {c : Code} {g : Gh} (X : Cx p l e R s m args below meth c g cX4_lay 8 (0, 0) RX4 11) (hr : meth.sig.returnType = (some (.int))) (v1 : Int32) (v2 : Int32) (v3 : Int32) (v4 : Int32) (v5 : Int32) (v6 : Int32) (t0 : Int32) (rc37 : Int32 × Int32 × Int32 × Mem → Option (Int32 × Mem)) (hc37 : ∀ x, J p l e R s m args below meth c g 8 (0, 0) (QfI below args s g) (rc37 x) x.2.2.2 37 [(0, .ref (gA g 49)), (1, .int v1), (2, .int v2), (3, .int v3), (4, .int x.1), (5, .int x.2.1), (6, .int x.2.2.1)] []) (M : Mem) : J p l e R s m args below meth c g 8 (0, 0) (QfI below args s g) (pi_X4_lay_63 v1 v2 v3 v4 v5 v6 t0 rc37 M) M 63 [(0, .ref (gA g 49)), (1, .int v1), (2, .int v2), (3, .int v3), (4, .int v4), (5, .int v5), (6, .int v6)] [.int t0] := by
  unfold pi_X4_lay_63
  refine j_istore (i := 7) (Lq := [(0, .ref (gA g 49)), (1, .int v1), (2, .int v2), (3, .int v3), (4, .int v4), (5, .int v5), (6, .int v6), (7, .int t0)]) X dX4_lay_63 (by decide) rfl ?_
  refine j_iload (i := 7) X dX4_lay_65 rfl ?_
  refine j_iload (i := 5) X dX4_lay_67 rfl ?_
  refine j_icmp_le (tgt := 77) X dX4_lay_69 (by decide) ?_ ?_
  · refine j_iload (i := 4) X dX4_lay_77 rfl ?_
    refine j_pick [0, 1, 2, 3, 5, 6, 7] (Lq := [(0, .ref (gA g 49)), (1, .int v1), (2, .int v2), (3, .int v3), (5, .int v5), (6, .int v6), (7, .int t0)]) rfl ?_
    exact pj_X4_lay_79 X hr v1 v2 v3 v5 v6 t0 v4 rc37 hc37 M
  · refine j_iload (i := 6) X dX4_lay_72 rfl ?_
    refine j_goto (tgt := 79) X dX4_lay_74 (by decide) ?_
    refine j_pick [0, 1, 2, 3, 5, 6, 7] (Lq := [(0, .ref (gA g 49)), (1, .int v1), (2, .int v2), (3, .int v3), (5, .int v5), (6, .int v6), (7, .int t0)]) rfl ?_
    exact pj_X4_lay_79 X hr v1 v2 v3 v5 v6 t0 v6 rc37 hc37 M
def pi_X4_lay_37 (v1 : Int32) (v2 : Int32) (v3 : Int32) (rc37 : Int32 × Int32 × Int32 × Mem → Option (Int32 × Mem)) (v4 : Int32) (v5 : Int32) (v6 : Int32) (M : Mem) : Option (Int32 × Mem) := if 12 ≤ v6 then (some (v4, M)) else (if v6 = v1 then (pi_X4_lay_63 v1 v2 v3 v4 v5 v6 (-1) rc37 M) else (bd (mi_X4_openIn v1 v6 v2 v3 M) fun r_12 M_11 => pi_X4_lay_63 v1 v2 v3 v4 v5 v6 r_12 rc37 M_11))
set_option maxRecDepth 100000 in
set_option maxHeartbeats 4000000 in
theorem pj_X4_lay_37 {p : Program} {l : Launch} {e : Env} {R : Room} {s : State} {m : MethodId} {args : Array Value} {below : List Frame} {meth : Method} {c : Code} {g : Gh} (X : Cx p l e R s m args below meth c g cX4_lay 8 (0, 0) RX4 11) (hr : meth.sig.returnType = (some (.int))) (v1 : Int32) (v2 : Int32) (v3 : Int32) (rc37 : Int32 × Int32 × Int32 × Mem → Option (Int32 × Mem)) (hc37 : ∀ x, J p l e R s m args below meth c g 8 (0, 0) (QfI below args s g) (rc37 x) x.2.2.2 37 [(0, .ref (gA g 49)), (1, .int v1), (2, .int v2), (3, .int v3), (4, .int x.1), (5, .int x.2.1), (6, .int x.2.2.1)] []) (v4 : Int32) (v5 : Int32) (v6 : Int32) (M : Mem) : J p l e R s m args below meth c g 8 (0, 0) (QfI below args s g) (pi_X4_lay_37 v1 v2 v3 rc37 v4 v5 v6 M) M 37 [(0, .ref (gA g 49)), (1, .int v1), (2, .int v2), (3, .int v3), (4, .int v4), (5, .int v5), (6, .int v6)] [] := by
  unfold pi_X4_lay_37
  refine j_iload (i := 6) X dX4_lay_37 rfl ?_
  refine j_bipush (v := 12) X dX4_lay_39 rfl ?_
  refine j_icmp_ge (tgt := 96) X dX4_lay_41 (by decide) ?_ ?_
  · refine j_iload (i := 4) X dX4_lay_96 rfl ?_
    exact j_iret X hr dX4_lay_98
  · refine j_iload (i := 6) X dX4_lay_44 rfl ?_
    refine j_iload_n (i := 1) X dX4_lay_46 rfl rfl ?_
    refine j_icmp_ne (tgt := 54) X dX4_lay_47 (by decide) ?_ ?_
    · refine j_iconst (v := (-1)) X dX4_lay_50 rfl ?_
      refine j_goto (tgt := 63) X dX4_lay_51 (by decide) ?_
      exact pj_X4_lay_63 X hr v1 v2 v3 v4 v5 v6 (-1) rc37 hc37 M
    · refine j_aload_n (i := 0) X dX4_lay_54 rfl rfl ?_
      refine j_iload_n (i := 1) X dX4_lay_55 rfl rfl ?_
      refine j_iload (i := 6) X dX4_lay_56 rfl ?_
      refine j_iload_n (i := 2) X dX4_lay_58 rfl rfl ?_
      refine j_iload_n (i := 3) X dX4_lay_59 rfl rfl ?_
      refine k_cVI (As := [.int v1, .int v6, .int v2, .int v3]) (rest := []) (by decide) (cf_md _) rfl X (ct_X4_openIn l g v1 v6 v2 v3 M) wl_X4_229 rfl rfl (by decide) (Nat.le_of_ble_eq_true rfl) dX4_lay_60 (fun r_12 M_11 => ?_)
      exact pj_X4_lay_63 X hr v1 v2 v3 v4 v5 v6 r_12 rc37 hc37 M_11
def pi_X4_lay_e (v1 : Int32) (v2 : Int32) (v3 : Int32) (M : Mem) : Option (Int32 × Mem) := bd (mi_X4_isValley v1 M) fun r_2 M_1 => if r_2 = 0 then (pi_X4_lay_21 v1 v2 v3 M_1) else (bd (mi_X4_isHigh v2 M_1) fun r_6 M_5 => if r_6 = 0 then (pi_X4_lay_21 v1 v2 v3 M_5) else (bd (mi_X4_isGo v3 M_5) fun r_8 M_7 => if r_8 = 0 then (pi_X4_lay_21 v1 v2 v3 M_7) else (lp (fun rc37 x => pi_X4_lay_37 v1 v2 v3 rc37 x.1 x.2.1 x.2.2.1 x.2.2.2) FU ((-1), (-1), 0, M_7))))
set_option maxRecDepth 100000 in
set_option maxHeartbeats 4000000 in
theorem pj_X4_lay_e {p : Program} {l : Launch} {e : Env} {R : Room} {s : State} {m : MethodId} {args : Array Value} {below : List Frame} {meth : Method} {c : Code} {g : Gh} (X : Cx p l e R s m args below meth c g cX4_lay 8 (0, 0) RX4 11) (hr : meth.sig.returnType = (some (.int))) (v1 : Int32) (v2 : Int32) (v3 : Int32) (M : Mem) : J p l e R s m args below meth c g 8 (0, 0) (QfI below args s g) (pi_X4_lay_e v1 v2 v3 M) M 0 [(0, .ref (gA g 49)), (1, .int v1), (2, .int v2), (3, .int v3)] [] := by
  unfold pi_X4_lay_e
  refine j_iload_n (i := 1) X dX4_lay_0 rfl rfl ?_
  refine k_cSI (As := [.int v1]) (rest := []) X (ct_X4_isValley l g v1 M) wl_X4_100 rfl rfl (by decide) (Nat.le_of_ble_eq_true rfl) dX4_lay_1 (fun r_2 M_1 => ?_)
  refine j_if_eq (tgt := 21) X dX4_lay_4 (by decide) ?_ ?_
  · exact pj_X4_lay_21 X hr v1 v2 v3 M_1
  · refine j_iload_n (i := 2) X dX4_lay_7 rfl rfl ?_
    refine k_cSI (As := [.int v2]) (rest := []) X (ct_X4_isHigh l g v2 M_1) wl_X4_141 rfl rfl (by decide) (Nat.le_of_ble_eq_true rfl) dX4_lay_8 (fun r_6 M_5 => ?_)
    refine j_if_eq (tgt := 21) X dX4_lay_11 (by decide) ?_ ?_
    · exact pj_X4_lay_21 X hr v1 v2 v3 M_5
    · refine j_iload_n (i := 3) X dX4_lay_14 rfl rfl ?_
      refine k_cSI (As := [.int v3]) (rest := []) X (ct_X4_isGo l g v3 M_5) wl_X4_211 rfl rfl (by decide) (Nat.le_of_ble_eq_true rfl) dX4_lay_15 (fun r_8 M_7 => ?_)
      refine j_if_ne (tgt := 28) X dX4_lay_18 (by decide) ?_ ?_
      · exact pj_X4_lay_21 X hr v1 v2 v3 M_7
      · refine j_iconst (v := (-1)) X dX4_lay_28 rfl ?_
        refine j_istore (i := 4) (Lq := [(0, .ref (gA g 49)), (1, .int v1), (2, .int v2), (3, .int v3), (4, .int (-1))]) X dX4_lay_29 (by decide) rfl ?_
        refine j_iconst (v := (-1)) X dX4_lay_31 rfl ?_
        refine j_istore (i := 5) (Lq := [(0, .ref (gA g 49)), (1, .int v1), (2, .int v2), (3, .int v3), (4, .int (-1)), (5, .int (-1))]) X dX4_lay_32 (by decide) rfl ?_
        refine j_iconst (v := 0) X dX4_lay_34 rfl ?_
        refine j_istore (i := 6) (Lq := [(0, .ref (gA g 49)), (1, .int v1), (2, .int v2), (3, .int v3), (4, .int (-1)), (5, .int (-1)), (6, .int 0)]) X dX4_lay_35 (by decide) rfl ?_
        exact j_lp (Lf := fun x => [(0, .ref (gA g 49)), (1, .int v1), (2, .int v2), (3, .int v3), (4, .int x.1), (5, .int x.2.1), (6, .int x.2.2.1)]) (Mf := fun x => x.2.2.2) (fun rc37 hc37 x => pj_X4_lay_37 X hr v1 v2 v3 rc37 hc37 x.1 x.2.1 x.2.2.1 x.2.2.2) FU ((-1), (-1), 0, M_7)
def mi_X4_lay (v1 : Int32) (v2 : Int32) (v3 : Int32) (M : Mem) : Option (Int32 × Mem) := pi_X4_lay_e v1 v2 v3 M
theorem ct_X4_lay (l : Launch) (g : Gh) (v1 : Int32) (v2 : Int32) (v3 : Int32) (M : Mem) : CtI l g yX4_lay cX4_lay 8 (some (.int)) 11 [.ref (gA g 49), .int v1, .int v2, .int v3] M (mi_X4_lay v1 v2 v3 M) := ctI_of (own := RX4) (L := [(0, .ref (gA g 49)), (1, .int v1), (2, .int v2), (3, .int v3)]) (by decide +kernel) rfl (Nat.le_of_ble_eq_true rfl) rfl (fun p e s m args below meth c X hr => pj_X4_lay_e X hr v1 v2 v3  M)

def pi_X4_isSheet_e (v0 : Int32) (M : Mem) : Option (Int32 × Mem) := bd (mi_X4_within v0 0 3 M) fun r_2 M_1 => gd (isB r_2) (some (r_2, M_1))
set_option maxRecDepth 100000 in
set_option maxHeartbeats 4000000 in
theorem pj_X4_isSheet_e {p : Program} {l : Launch} {e : Env} {R : Room} {s : State} {m : MethodId} {args : Array Value} {below : List Frame} {meth : Method} {c : Code} {g : Gh} (X : Cx p l e R s m args below meth c g cX4_isSheet 1 (0, 0) RX4 1) (hr : meth.sig.returnType = (some (.boolean))) (v0 : Int32) (M : Mem) : J p l e R s m args below meth c g 1 (0, 0) (QfI below args s g) (pi_X4_isSheet_e v0 M) M 0 [(0, .int v0)] [] := by
  unfold pi_X4_isSheet_e
  refine j_iload_n (i := 0) X dX4_isSheet_0 rfl rfl ?_
  refine j_iconst (v := 0) X dX4_isSheet_1 rfl ?_
  refine j_iconst (v := 3) X dX4_isSheet_2 rfl ?_
  refine k_cSI (As := [.int v0, .int 0, .int 3]) (rest := []) X (ct_X4_within l g v0 0 3 M) wl_X4_85 rfl rfl (by decide) (Nat.le_of_ble_eq_true rfl) dX4_isSheet_3 (fun r_2 M_1 => ?_)
  exact j_zret X hr dX4_isSheet_6
def mi_X4_isSheet (v0 : Int32) (M : Mem) : Option (Int32 × Mem) := pi_X4_isSheet_e v0 M
theorem ct_X4_isSheet (l : Launch) (g : Gh) (v0 : Int32) (M : Mem) : CtI l g yX4_isSheet cX4_isSheet 1 (some (.boolean)) 1 [.int v0] M (mi_X4_isSheet v0 M) := ctI_of (own := RX4) (L := [(0, .int v0)]) (by decide +kernel) rfl (Nat.le_of_ble_eq_true rfl) rfl (fun p e s m args below meth c X hr => pj_X4_isSheet_e X hr v0  M)

def pi_X4_lacks_e (v1 : Int32) (v2 : Int32) (M : Mem) : Option (Int32 × Mem) := bd (mi_X4_isSheet v1 M) fun r_2 M_1 => if r_2 = 0 then (some ((-1000001), M_1)) else (gd (inb v1 4) <| if (M_1 62 v1.toNatClampNeg) = 0 then (some ((-1000006), M_1)) else (bd (mi_X4_isHill v2 M_1) fun r_5 M_4 => if r_5 = 0 then (some ((-1000001), M_4)) else (some (0, M_4))))
set_option maxRecDepth 100000 in
set_option maxHeartbeats 4000000 in
theorem pj_X4_lacks_e {p : Program} {l : Launch} {e : Env} {R : Room} {s : State} {m : MethodId} {args : Array Value} {below : List Frame} {meth : Method} {c : Code} {g : Gh} (X : Cx p l e R s m args below meth c g cX4_lacks 3 (0, 0) RX4 2) (hr : meth.sig.returnType = (some (.int))) (v1 : Int32) (v2 : Int32) (M : Mem) : J p l e R s m args below meth c g 3 (0, 0) (QfI below args s g) (pi_X4_lacks_e v1 v2 M) M 0 [(0, .ref (gA g 49)), (1, .int v1), (2, .int v2)] [] := by
  unfold pi_X4_lacks_e
  refine j_iload_n (i := 1) X dX4_lacks_0 rfl rfl ?_
  refine k_cSI (As := [.int v1]) (rest := []) X (ct_X4_isSheet l g v1 M) wl_X4_233 rfl rfl (by decide) (Nat.le_of_ble_eq_true rfl) dX4_lacks_1 (fun r_2 M_1 => ?_)
  refine j_if_ne (tgt := 12) X dX4_lacks_4 (by decide) ?_ ?_
  · refine j_ldc (v := (-1000001)) X wq_345 dX4_lacks_7 ?_
    refine j_goto (tgt := 40) X dX4_lacks_9 (by decide) ?_
    exact j_iret X hr dX4_lacks_40
  · refine j_aload_n (i := 0) X dX4_lacks_12 rfl rfl ?_
    refine j_get_md 21 X (by decide) wq_526 rfl dX4_lacks_13 ?_
    refine j_iload_n (i := 1) X dX4_lacks_16 rfl rfl ?_
    refine j_iald X ia_62 dX4_lacks_17 (fun h_3 => ?_)
    refine j_if_ne (tgt := 26) X dX4_lacks_18 (by decide) ?_ ?_
    · refine j_ldc (v := (-1000006)) X wq_527 dX4_lacks_21 ?_
      refine j_goto (tgt := 40) X dX4_lacks_23 (by decide) ?_
      exact j_iret X hr dX4_lacks_40
    · refine j_aload_n (i := 0) X dX4_lacks_26 rfl rfl ?_
      refine j_iload_n (i := 2) X dX4_lacks_27 rfl rfl ?_
      refine k_cVI (As := [.int v2]) (rest := []) (by decide) (cf_md _) rfl X (ct_X4_isHill l g v2 M_1) wl_X4_135 rfl rfl (by decide) (Nat.le_of_ble_eq_true rfl) dX4_lacks_28 (fun r_5 M_4 => ?_)
      refine j_if_eq (tgt := 38) X dX4_lacks_31 (by decide) ?_ ?_
      · refine j_ldc (v := (-1000001)) X wq_345 dX4_lacks_38 ?_
        exact j_iret X hr dX4_lacks_40
      · refine j_iconst (v := 0) X dX4_lacks_34 rfl ?_
        refine j_goto (tgt := 40) X dX4_lacks_35 (by decide) ?_
        exact j_iret X hr dX4_lacks_40
def mi_X4_lacks (v1 : Int32) (v2 : Int32) (M : Mem) : Option (Int32 × Mem) := pi_X4_lacks_e v1 v2 M
theorem ct_X4_lacks (l : Launch) (g : Gh) (v1 : Int32) (v2 : Int32) (M : Mem) : CtI l g yX4_lacks cX4_lacks 3 (some (.int)) 2 [.ref (gA g 49), .int v1, .int v2] M (mi_X4_lacks v1 v2 M) := ctI_of (own := RX4) (L := [(0, .ref (gA g 49)), (1, .int v1), (2, .int v2)]) (by decide +kernel) rfl (Nat.le_of_ble_eq_true rfl) rfl (fun p e s m args below meth c X hr => pj_X4_lacks_e X hr v1 v2  M)

def pi_X4_facedSo_77 (v1 : Int32) (v2 : Int32) (v3 : Int32) (M : Mem) : Option (Int32 × Mem) := bv (mi_X4_copyRow 52 62 50 62 M) fun M_3 => gd (isB v3) (some (v3, M_3))
set_option maxRecDepth 100000 in
set_option maxHeartbeats 4000000 in
theorem pj_X4_facedSo_77 {p : Program} {l : Launch} {e : Env} {R : Room} {s : State} {m : MethodId} {args : Array Value} {below : List Frame} {meth : Method} {c : Code} {g : Gh} (X : Cx p l e R s m args below meth c g cX4_facedSo 6 (0, 0) RX4 10) (hr : meth.sig.returnType = (some (.boolean))) (v1 : Int32) (v2 : Int32) (v3 : Int32) (M : Mem) : J p l e R s m args below meth c g 6 (0, 0) (QfI below args s g) (pi_X4_facedSo_77 v1 v2 v3 M) M 77 [(0, .ref (gA g 49)), (1, .int v1), (2, .int v2), (3, .int v3)] [] := by
  unfold pi_X4_facedSo_77
  refine j_aload_n (i := 0) X dX4_facedSo_77 rfl rfl ?_
  refine j_get_md 2 X (by decide) wq_347 rfl dX4_facedSo_78 ?_
  refine j_aload_n (i := 0) X dX4_facedSo_81 rfl rfl ?_
  refine j_get_md 0 X (by decide) wq_346 rfl dX4_facedSo_82 ?_
  refine k_cSV (As := [.ref (gA g 52), .ref (gA g 50)]) (rest := []) X (ct_X4_copyRow l g 52 62 50 62 ia_52 ia_50 M) wl_X4_76 rfl rfl (by decide) (Nat.le_of_ble_eq_true rfl) dX4_facedSo_85 (fun M_3 => ?_)
  refine j_iload_n (i := 3) X dX4_facedSo_88 rfl rfl ?_
  exact j_zret X hr dX4_facedSo_89
def pi_X4_facedSo_66 (v1 : Int32) (v2 : Int32) (v4 : Int32) (t0 : Int32) (rc16 : Int32 × Int32 × Mem → Option (Int32 × Mem)) (M : Mem) : Option (Int32 × Mem) := bv (mi_X4_age M) fun M_6 => bI (v4 + 1) fun v4_7 => rc16 (t0, v4_7, M_6)
set_option maxRecDepth 100000 in
set_option maxHeartbeats 4000000 in
theorem pj_X4_facedSo_66 {p : Program} {l : Launch} {e : Env} {R : Room} {s : State} {m : MethodId} {args : Array Value} {below : List Frame} {meth : Method} {c : Code} {g : Gh} (X : Cx p l e R s m args below meth c g cX4_facedSo 6 (0, 0) RX4 10) (hr : meth.sig.returnType = (some (.boolean))) (v1 : Int32) (v2 : Int32) (v4 : Int32) (t0 : Int32) (rc16 : Int32 × Int32 × Mem → Option (Int32 × Mem)) (hc16 : ∀ x, J p l e R s m args below meth c g 6 (0, 0) (QfI below args s g) (rc16 x) x.2.2 16 [(0, .ref (gA g 49)), (1, .int v1), (2, .int v2), (3, .int x.1), (4, .int x.2.1)] []) (M : Mem) : J p l e R s m args below meth c g 6 (0, 0) (QfI below args s g) (pi_X4_facedSo_66 v1 v2 v4 t0 rc16 M) M 66 [(0, .ref (gA g 49)), (1, .int v1), (2, .int v2), (4, .int v4)] [.int t0] := by
  unfold pi_X4_facedSo_66
  refine j_istore_n (i := 3) (Lq := [(0, .ref (gA g 49)), (1, .int v1), (2, .int v2), (3, .int t0), (4, .int v4)]) X dX4_facedSo_66 rfl (by decide) rfl ?_
  refine j_aload_n (i := 0) X dX4_facedSo_67 rfl rfl ?_
  refine k_cVV (As := []) (rest := []) (by decide) (cf_md _) rfl X (ct_X4_age l g M) wl_X4_162 rfl rfl (by decide) (Nat.le_of_ble_eq_true rfl) dX4_facedSo_68 (fun M_6 => ?_)
  refine j_iincB (i := 4) (y := v4 + 1) (Lf := fun v4_7 => [(0, .ref (gA g 49)), (1, .int v1), (2, .int v2), (3, .int t0), (4, .int v4_7)]) X dX4_facedSo_71 rfl rfl (by decide) (fun _ => rfl) (fun v4_7 => ?_)
  refine j_goto (tgt := 16) X dX4_facedSo_74 (by decide) ?_
  exact hc16 (t0, v4_7, M_6)
def pi_X4_facedSo_61 (v1 : Int32) (v2 : Int32) (v4 : Int32) (rc16 : Int32 × Int32 × Mem → Option (Int32 × Mem)) (M : Mem) : Option (Int32 × Mem) := pi_X4_facedSo_66 v1 v2 v4 1 rc16 M
set_option maxRecDepth 100000 in
set_option maxHeartbeats 4000000 in
theorem pj_X4_facedSo_61 {p : Program} {l : Launch} {e : Env} {R : Room} {s : State} {m : MethodId} {args : Array Value} {below : List Frame} {meth : Method} {c : Code} {g : Gh} (X : Cx p l e R s m args below meth c g cX4_facedSo 6 (0, 0) RX4 10) (hr : meth.sig.returnType = (some (.boolean))) (v1 : Int32) (v2 : Int32) (v4 : Int32) (rc16 : Int32 × Int32 × Mem → Option (Int32 × Mem)) (hc16 : ∀ x, J p l e R s m args below meth c g 6 (0, 0) (QfI below args s g) (rc16 x) x.2.2 16 [(0, .ref (gA g 49)), (1, .int v1), (2, .int v2), (3, .int x.1), (4, .int x.2.1)] []) (M : Mem) : J p l e R s m args below meth c g 6 (0, 0) (QfI below args s g) (pi_X4_facedSo_61 v1 v2 v4 rc16 M) M 61 [(0, .ref (gA g 49)), (1, .int v1), (2, .int v2), (4, .int v4)] [] := by
  unfold pi_X4_facedSo_61
  refine j_iconst (v := 1) X dX4_facedSo_61 rfl ?_
  refine j_goto (tgt := 66) X dX4_facedSo_62 (by decide) ?_
  exact pj_X4_facedSo_66 X hr v1 v2 v4 1 rc16 hc16 M
def pi_X4_facedSo_16 (v1 : Int32) (v2 : Int32) (rc16 : Int32 × Int32 × Mem → Option (Int32 × Mem)) (v3 : Int32) (v4 : Int32) (M : Mem) : Option (Int32 × Mem) := gd (inb v1 4) <| if (M 63 v1.toNatClampNeg) ≤ v4 then (pi_X4_facedSo_77 v1 v2 v3 M) else (if v3 = 0 then (pi_X4_facedSo_77 v1 v2 v3 M) else (gd (inb ((40 * v1) + v4) 160) <| bI (M 64 ((40 * v1) + v4).toNatClampNeg) fun v5_5 => if v5_5 = (-1) then (pi_X4_facedSo_61 v1 v2 v4 rc16 M) else (bd (mi_X4_facesOf v2 M) fun r_9 M_8 => if v5_5 = r_9 then (pi_X4_facedSo_61 v1 v2 v4 rc16 M_8) else (pi_X4_facedSo_66 v1 v2 v4 0 rc16 M_8))))
set_option maxRecDepth 100000 in
set_option maxHeartbeats 4000000 in
theorem pj_X4_facedSo_16 {p : Program} {l : Launch} {e : Env} {R : Room} {s : State} {m : MethodId} {args : Array Value} {below : List Frame} {meth : Method} {c : Code} {g : Gh} (X : Cx p l e R s m args below meth c g cX4_facedSo 6 (0, 0) RX4 10) (hr : meth.sig.returnType = (some (.boolean))) (v1 : Int32) (v2 : Int32) (rc16 : Int32 × Int32 × Mem → Option (Int32 × Mem)) (hc16 : ∀ x, J p l e R s m args below meth c g 6 (0, 0) (QfI below args s g) (rc16 x) x.2.2 16 [(0, .ref (gA g 49)), (1, .int v1), (2, .int v2), (3, .int x.1), (4, .int x.2.1)] []) (v3 : Int32) (v4 : Int32) (M : Mem) : J p l e R s m args below meth c g 6 (0, 0) (QfI below args s g) (pi_X4_facedSo_16 v1 v2 rc16 v3 v4 M) M 16 [(0, .ref (gA g 49)), (1, .int v1), (2, .int v2), (3, .int v3), (4, .int v4)] [] := by
  unfold pi_X4_facedSo_16
  refine j_iload (i := 4) X dX4_facedSo_16 rfl ?_
  refine j_aload_n (i := 0) X dX4_facedSo_18 rfl rfl ?_
  refine j_get_md 22 X (by decide) wq_528 rfl dX4_facedSo_19 ?_
  refine j_iload_n (i := 1) X dX4_facedSo_22 rfl rfl ?_
  refine j_iald X ia_63 dX4_facedSo_23 (fun h_2 => ?_)
  refine j_icmp_ge (tgt := 77) X dX4_facedSo_24 (by decide) ?_ ?_
  · refine j_pick [0, 1, 2, 3] (Lq := [(0, .ref (gA g 49)), (1, .int v1), (2, .int v2), (3, .int v3)]) rfl ?_
    exact pj_X4_facedSo_77 X hr v1 v2 v3 M
  · refine j_iload_n (i := 3) X dX4_facedSo_27 rfl rfl ?_
    refine j_if_eq (tgt := 77) X dX4_facedSo_28 (by decide) ?_ ?_
    · refine j_pick [0, 1, 2, 3] (Lq := [(0, .ref (gA g 49)), (1, .int v1), (2, .int v2), (3, .int v3)]) rfl ?_
      exact pj_X4_facedSo_77 X hr v1 v2 v3 M
    · refine j_aload_n (i := 0) X dX4_facedSo_31 rfl rfl ?_
      refine j_get_md 23 X (by decide) wq_529 rfl dX4_facedSo_32 ?_
      refine j_bipush (v := 40) X dX4_facedSo_35 rfl ?_
      refine j_iload_n (i := 1) X dX4_facedSo_37 rfl rfl ?_
      refine j_imul X dX4_facedSo_38 ?_
      refine j_iload (i := 4) X dX4_facedSo_39 rfl ?_
      refine j_iadd X dX4_facedSo_41 ?_
      refine j_iald X ia_64 dX4_facedSo_42 (fun h_4 => ?_)
      refine j_bI (fun v5_5 => ?_)
      refine j_istore (i := 5) (Lq := [(0, .ref (gA g 49)), (1, .int v1), (2, .int v2), (3, .int v3), (4, .int v4), (5, .int v5_5)]) X dX4_facedSo_43 (by decide) rfl ?_
      refine j_iload (i := 5) X dX4_facedSo_45 rfl ?_
      refine j_iconst (v := (-1)) X dX4_facedSo_47 rfl ?_
      refine j_icmp_eq (tgt := 61) X dX4_facedSo_48 (by decide) ?_ ?_
      · refine j_pick [0, 1, 2, 4] (Lq := [(0, .ref (gA g 49)), (1, .int v1), (2, .int v2), (4, .int v4)]) rfl ?_
        exact pj_X4_facedSo_61 X hr v1 v2 v4 rc16 hc16 M
      · refine j_iload (i := 5) X dX4_facedSo_51 rfl ?_
        refine j_aload_n (i := 0) X dX4_facedSo_53 rfl rfl ?_
        refine j_iload_n (i := 2) X dX4_facedSo_54 rfl rfl ?_
        refine k_cVI (As := [.int v2]) (rest := [.int v5_5]) (by decide) (cf_md _) rfl X (ct_X4_facesOf l g v2 M) wl_X4_114 rfl rfl (by decide) (Nat.le_of_ble_eq_true rfl) dX4_facedSo_55 (fun r_9 M_8 => ?_)
        refine j_icmp_ne (tgt := 65) X dX4_facedSo_58 (by decide) ?_ ?_
        · refine j_pick [0, 1, 2, 4] (Lq := [(0, .ref (gA g 49)), (1, .int v1), (2, .int v2), (4, .int v4)]) rfl ?_
          exact pj_X4_facedSo_61 X hr v1 v2 v4 rc16 hc16 M_8
        · refine j_iconst (v := 0) X dX4_facedSo_65 rfl ?_
          refine j_pick [0, 1, 2, 4] (Lq := [(0, .ref (gA g 49)), (1, .int v1), (2, .int v2), (4, .int v4)]) rfl ?_
          exact pj_X4_facedSo_66 X hr v1 v2 v4 0 rc16 hc16 M_8
def pi_X4_facedSo_e (v1 : Int32) (v2 : Int32) (M : Mem) : Option (Int32 × Mem) := bv (mi_X4_copyRow 50 62 52 62 M) fun M_1 => lp (fun rc16 x => pi_X4_facedSo_16 v1 v2 rc16 x.1 x.2.1 x.2.2) FU (1, 0, M_1)
set_option maxRecDepth 100000 in
set_option maxHeartbeats 4000000 in
theorem pj_X4_facedSo_e {p : Program} {l : Launch} {e : Env} {R : Room} {s : State} {m : MethodId} {args : Array Value} {below : List Frame} {meth : Method} {c : Code} {g : Gh} (X : Cx p l e R s m args below meth c g cX4_facedSo 6 (0, 0) RX4 10) (hr : meth.sig.returnType = (some (.boolean))) (v1 : Int32) (v2 : Int32) (M : Mem) : J p l e R s m args below meth c g 6 (0, 0) (QfI below args s g) (pi_X4_facedSo_e v1 v2 M) M 0 [(0, .ref (gA g 49)), (1, .int v1), (2, .int v2)] [] := by
  unfold pi_X4_facedSo_e
  refine j_aload_n (i := 0) X dX4_facedSo_0 rfl rfl ?_
  refine j_get_md 0 X (by decide) wq_346 rfl dX4_facedSo_1 ?_
  refine j_aload_n (i := 0) X dX4_facedSo_4 rfl rfl ?_
  refine j_get_md 2 X (by decide) wq_347 rfl dX4_facedSo_5 ?_
  refine k_cSV (As := [.ref (gA g 50), .ref (gA g 52)]) (rest := []) X (ct_X4_copyRow l g 50 62 52 62 ia_50 ia_52 M) wl_X4_76 rfl rfl (by decide) (Nat.le_of_ble_eq_true rfl) dX4_facedSo_8 (fun M_1 => ?_)
  refine j_iconst (v := 1) X dX4_facedSo_11 rfl ?_
  refine j_istore_n (i := 3) (Lq := [(0, .ref (gA g 49)), (1, .int v1), (2, .int v2), (3, .int 1)]) X dX4_facedSo_12 rfl (by decide) rfl ?_
  refine j_iconst (v := 0) X dX4_facedSo_13 rfl ?_
  refine j_istore (i := 4) (Lq := [(0, .ref (gA g 49)), (1, .int v1), (2, .int v2), (3, .int 1), (4, .int 0)]) X dX4_facedSo_14 (by decide) rfl ?_
  exact j_lp (Lf := fun x => [(0, .ref (gA g 49)), (1, .int v1), (2, .int v2), (3, .int x.1), (4, .int x.2.1)]) (Mf := fun x => x.2.2) (fun rc16 hc16 x => pj_X4_facedSo_16 X hr v1 v2 rc16 hc16 x.1 x.2.1 x.2.2) FU (1, 0, M_1)
def mi_X4_facedSo (v1 : Int32) (v2 : Int32) (M : Mem) : Option (Int32 × Mem) := pi_X4_facedSo_e v1 v2 M
theorem ct_X4_facedSo (l : Launch) (g : Gh) (v1 : Int32) (v2 : Int32) (M : Mem) : CtI l g yX4_facedSo cX4_facedSo 6 (some (.boolean)) 10 [.ref (gA g 49), .int v1, .int v2] M (mi_X4_facedSo v1 v2 M) := ctI_of (own := RX4) (L := [(0, .ref (gA g 49)), (1, .int v1), (2, .int v2)]) (by decide +kernel) rfl (Nat.le_of_ble_eq_true rfl) rfl (fun p e s m args below meth c X hr => pj_X4_facedSo_e X hr v1 v2  M)

def pi_X4_fitting_15 (v1 : Int32) (v2 : Int32) (v3 : Int32) (v4 : Int32) (v5 : Int32) (v6 : Int32) (rc15 : Int32 × Int32 × Mem → Option (Int32 × Mem)) (v7 : Int32) (v8 : Int32) (M : Mem) : Option (Int32 × Mem) := if v5 < v8 then (bd (mi_X4_at v2 v3 M) fun r_4 M_3 => gd (inb r_4 62) <| bM (up M_3 50 r_4.toNatClampNeg v6) fun M_6 => some (v7, M_6)) else (bd (mi_X4_at v2 v3 M) fun r_8 M_7 => gd (inb r_8 62) <| bM (up M_7 50 r_8.toNatClampNeg v8) fun M_10 => bd (mi_X4_facedSo v1 v2 M_10) fun r_12 M_11 => if r_12 = 0 then (bI (v7 ||| 0) fun v7_13 => bI (v8 + 1) fun v8_14 => rc15 (v7_13, v8_14, M_11)) else (bI (v7 ||| (1 <<< ((v8 - v4) &&& 31))) fun v7_15 => bI (v8 + 1) fun v8_16 => rc15 (v7_15, v8_16, M_11)))
set_option maxRecDepth 100000 in
set_option maxHeartbeats 4000000 in
theorem pj_X4_fitting_15 {p : Program} {l : Launch} {e : Env} {R : Room} {s : State} {m : MethodId} {args : Array Value} {below : List Frame} {meth : Method} {c : Code} {g : Gh} (X : Cx p l e R s m args below meth c g cX4_fitting 9 (0, 0) RX4 11) (hr : meth.sig.returnType = (some (.int))) (v1 : Int32) (v2 : Int32) (v3 : Int32) (v4 : Int32) (v5 : Int32) (v6 : Int32) (rc15 : Int32 × Int32 × Mem → Option (Int32 × Mem)) (hc15 : ∀ x, J p l e R s m args below meth c g 9 (0, 0) (QfI below args s g) (rc15 x) x.2.2 15 [(0, .ref (gA g 49)), (1, .int v1), (2, .int v2), (3, .int v3), (4, .int v4), (5, .int v5), (6, .int v6), (7, .int x.1), (8, .int x.2.1)] []) (v7 : Int32) (v8 : Int32) (M : Mem) : J p l e R s m args below meth c g 9 (0, 0) (QfI below args s g) (pi_X4_fitting_15 v1 v2 v3 v4 v5 v6 rc15 v7 v8 M) M 15 [(0, .ref (gA g 49)), (1, .int v1), (2, .int v2), (3, .int v3), (4, .int v4), (5, .int v5), (6, .int v6), (7, .int v7), (8, .int v8)] [] := by
  unfold pi_X4_fitting_15
  refine j_iload (i := 8) X dX4_fitting_15 rfl ?_
  refine j_iload (i := 5) X dX4_fitting_17 rfl ?_
  refine j_icmp_gt (tgt := 65) X dX4_fitting_19 (by decide) ?_ ?_
  · refine j_aload_n (i := 0) X dX4_fitting_65 rfl rfl ?_
    refine j_get_md 0 X (by decide) wq_346 rfl dX4_fitting_66 ?_
    refine j_iload_n (i := 2) X dX4_fitting_69 rfl rfl ?_
    refine j_iload_n (i := 3) X dX4_fitting_70 rfl rfl ?_
    refine k_cSI (As := [.int v2, .int v3]) (rest := [.ref (gA g 50)]) X (ct_X4_at l g v2 v3 M) wl_X4_93 rfl rfl (by decide) (Nat.le_of_ble_eq_true rfl) dX4_fitting_71 (fun r_4 M_3 => ?_)
    refine j_iload (i := 6) X dX4_fitting_74 rfl ?_
    refine j_iast X ia_50 dX4_fitting_76 (fun h_5 => ?_)
    refine j_bM (fun M_6 => ?_)
    refine j_iload (i := 7) X dX4_fitting_77 rfl ?_
    exact j_iret X hr dX4_fitting_79
  · refine j_aload_n (i := 0) X dX4_fitting_22 rfl rfl ?_
    refine j_get_md 0 X (by decide) wq_346 rfl dX4_fitting_23 ?_
    refine j_iload_n (i := 2) X dX4_fitting_26 rfl rfl ?_
    refine j_iload_n (i := 3) X dX4_fitting_27 rfl rfl ?_
    refine k_cSI (As := [.int v2, .int v3]) (rest := [.ref (gA g 50)]) X (ct_X4_at l g v2 v3 M) wl_X4_93 rfl rfl (by decide) (Nat.le_of_ble_eq_true rfl) dX4_fitting_28 (fun r_8 M_7 => ?_)
    refine j_iload (i := 8) X dX4_fitting_31 rfl ?_
    refine j_iast X ia_50 dX4_fitting_33 (fun h_9 => ?_)
    refine j_bM (fun M_10 => ?_)
    refine j_iload (i := 7) X dX4_fitting_34 rfl ?_
    refine j_aload_n (i := 0) X dX4_fitting_36 rfl rfl ?_
    refine j_iload_n (i := 1) X dX4_fitting_37 rfl rfl ?_
    refine j_iload_n (i := 2) X dX4_fitting_38 rfl rfl ?_
    refine k_cVI (As := [.int v1, .int v2]) (rest := [.int v7]) (by decide) (cf_md _) rfl X (ct_X4_facedSo l g v1 v2 M_10) wl_X4_237 rfl rfl (by decide) (Nat.le_of_ble_eq_true rfl) dX4_fitting_39 (fun r_12 M_11 => ?_)
    refine j_if_eq (tgt := 55) X dX4_fitting_42 (by decide) ?_ ?_
    · refine j_iconst (v := 0) X dX4_fitting_55 rfl ?_
      refine j_ior X dX4_fitting_56 ?_
      refine j_bI (fun v7_13 => ?_)
      refine j_istore (i := 7) (Lq := [(0, .ref (gA g 49)), (1, .int v1), (2, .int v2), (3, .int v3), (4, .int v4), (5, .int v5), (6, .int v6), (7, .int v7_13), (8, .int v8)]) X dX4_fitting_57 (by decide) rfl ?_
      refine j_iincB (i := 8) (y := v8 + 1) (Lf := fun v8_14 => [(0, .ref (gA g 49)), (1, .int v1), (2, .int v2), (3, .int v3), (4, .int v4), (5, .int v5), (6, .int v6), (7, .int v7_13), (8, .int v8_14)]) X dX4_fitting_59 rfl rfl (by decide) (fun _ => rfl) (fun v8_14 => ?_)
      refine j_goto (tgt := 15) X dX4_fitting_62 (by decide) ?_
      exact hc15 (v7_13, v8_14, M_11)
    · refine j_iconst (v := 1) X dX4_fitting_45 rfl ?_
      refine j_iload (i := 8) X dX4_fitting_46 rfl ?_
      refine j_iload (i := 4) X dX4_fitting_48 rfl ?_
      refine j_isub X dX4_fitting_50 ?_
      refine j_ishl X dX4_fitting_51 ?_
      refine j_goto (tgt := 56) X dX4_fitting_52 (by decide) ?_
      refine j_ior X dX4_fitting_56 ?_
      refine j_bI (fun v7_15 => ?_)
      refine j_istore (i := 7) (Lq := [(0, .ref (gA g 49)), (1, .int v1), (2, .int v2), (3, .int v3), (4, .int v4), (5, .int v5), (6, .int v6), (7, .int v7_15), (8, .int v8)]) X dX4_fitting_57 (by decide) rfl ?_
      refine j_iincB (i := 8) (y := v8 + 1) (Lf := fun v8_16 => [(0, .ref (gA g 49)), (1, .int v1), (2, .int v2), (3, .int v3), (4, .int v4), (5, .int v5), (6, .int v6), (7, .int v7_15), (8, .int v8_16)]) X dX4_fitting_59 rfl rfl (by decide) (fun _ => rfl) (fun v8_16 => ?_)
      refine j_goto (tgt := 15) X dX4_fitting_62 (by decide) ?_
      exact hc15 (v7_15, v8_16, M_11)
def pi_X4_fitting_e (v1 : Int32) (v2 : Int32) (v3 : Int32) (v4 : Int32) (v5 : Int32) (M : Mem) : Option (Int32 × Mem) := bd (mi_X4_hillIs v2 v3 M) fun r_2 M_1 => lp (fun rc15 x => pi_X4_fitting_15 v1 v2 v3 v4 v5 r_2 rc15 x.1 x.2.1 x.2.2) FU (0, v4, M_1)
set_option maxRecDepth 100000 in
set_option maxHeartbeats 4000000 in
theorem pj_X4_fitting_e {p : Program} {l : Launch} {e : Env} {R : Room} {s : State} {m : MethodId} {args : Array Value} {below : List Frame} {meth : Method} {c : Code} {g : Gh} (X : Cx p l e R s m args below meth c g cX4_fitting 9 (0, 0) RX4 11) (hr : meth.sig.returnType = (some (.int))) (v1 : Int32) (v2 : Int32) (v3 : Int32) (v4 : Int32) (v5 : Int32) (M : Mem) : J p l e R s m args below meth c g 9 (0, 0) (QfI below args s g) (pi_X4_fitting_e v1 v2 v3 v4 v5 M) M 0 [(0, .ref (gA g 49)), (1, .int v1), (2, .int v2), (3, .int v3), (4, .int v4), (5, .int v5)] [] := by
  unfold pi_X4_fitting_e
  refine j_aload_n (i := 0) X dX4_fitting_0 rfl rfl ?_
  refine j_iload_n (i := 2) X dX4_fitting_1 rfl rfl ?_
  refine j_iload_n (i := 3) X dX4_fitting_2 rfl rfl ?_
  refine k_cVI (As := [.int v2, .int v3]) (rest := []) (by decide) (cf_md _) rfl X (ct_X4_hillIs l g v2 v3 M) wl_X4_108 rfl rfl (by decide) (Nat.le_of_ble_eq_true rfl) dX4_fitting_3 (fun r_2 M_1 => ?_)
  refine j_istore (i := 6) (Lq := [(0, .ref (gA g 49)), (1, .int v1), (2, .int v2), (3, .int v3), (4, .int v4), (5, .int v5), (6, .int r_2)]) X dX4_fitting_6 (by decide) rfl ?_
  refine j_iconst (v := 0) X dX4_fitting_8 rfl ?_
  refine j_istore (i := 7) (Lq := [(0, .ref (gA g 49)), (1, .int v1), (2, .int v2), (3, .int v3), (4, .int v4), (5, .int v5), (6, .int r_2), (7, .int 0)]) X dX4_fitting_9 (by decide) rfl ?_
  refine j_iload (i := 4) X dX4_fitting_11 rfl ?_
  refine j_istore (i := 8) (Lq := [(0, .ref (gA g 49)), (1, .int v1), (2, .int v2), (3, .int v3), (4, .int v4), (5, .int v5), (6, .int r_2), (7, .int 0), (8, .int v4)]) X dX4_fitting_13 (by decide) rfl ?_
  exact j_lp (Lf := fun x => [(0, .ref (gA g 49)), (1, .int v1), (2, .int v2), (3, .int v3), (4, .int v4), (5, .int v5), (6, .int r_2), (7, .int x.1), (8, .int x.2.1)]) (Mf := fun x => x.2.2) (fun rc15 hc15 x => pj_X4_fitting_15 X hr v1 v2 v3 v4 v5 r_2 rc15 hc15 x.1 x.2.1 x.2.2) FU (0, v4, M_1)
def mi_X4_fitting (v1 : Int32) (v2 : Int32) (v3 : Int32) (v4 : Int32) (v5 : Int32) (M : Mem) : Option (Int32 × Mem) := pi_X4_fitting_e v1 v2 v3 v4 v5 M
theorem ct_X4_fitting (l : Launch) (g : Gh) (v1 : Int32) (v2 : Int32) (v3 : Int32) (v4 : Int32) (v5 : Int32) (M : Mem) : CtI l g yX4_fitting cX4_fitting 9 (some (.int)) 11 [.ref (gA g 49), .int v1, .int v2, .int v3, .int v4, .int v5] M (mi_X4_fitting v1 v2 v3 v4 v5 M) := ctI_of (own := RX4) (L := [(0, .ref (gA g 49)), (1, .int v1), (2, .int v2), (3, .int v3), (4, .int v4), (5, .int v5)]) (by decide +kernel) rfl (Nat.le_of_ble_eq_true rfl) rfl (fun p e s m args below meth c X hr => pj_X4_fitting_e X hr v1 v2 v3 v4 v5  M)

def pi_X4_fits_e (v1 : Int32) (v2 : Int32) (M : Mem) : Option (Int32 × Mem) := bd (mi_X4_lacks v1 v2 M) fun r_2 M_1 => if r_2 = 0 then (bd (mi_X4_fitting v1 v2 2 (-5) 5 M_1) fun r_4 M_3 => bd (mi_X4_bits r_4 M_3) fun r_6 M_5 => some (r_6, M_5)) else (bd (mi_X4_lacks v1 v2 M_1) fun r_8 M_7 => bd (mi_X4_finding r_8 M_7) fun r_10 M_9 => some (r_10, M_9))
set_option maxRecDepth 100000 in
set_option maxHeartbeats 4000000 in
theorem pj_X4_fits_e {p : Program} {l : Launch} {e : Env} {R : Room} {s : State} {m : MethodId} {args : Array Value} {below : List Frame} {meth : Method} {c : Code} {g : Gh} (X : Cx p l e R s m args below meth c g cX4_fits 3 (0, 0) RX4 12) (hr : meth.sig.returnType = (some (.int))) (v1 : Int32) (v2 : Int32) (M : Mem) : J p l e R s m args below meth c g 3 (0, 0) (QfI below args s g) (pi_X4_fits_e v1 v2 M) M 0 [(0, .ref (gA g 49)), (1, .int v1), (2, .int v2)] [] := by
  unfold pi_X4_fits_e
  refine j_aload_n (i := 0) X dX4_fits_0 rfl rfl ?_
  refine j_iload_n (i := 1) X dX4_fits_1 rfl rfl ?_
  refine j_iload_n (i := 2) X dX4_fits_2 rfl rfl ?_
  refine k_cVI (As := [.int v1, .int v2]) (rest := []) (by decide) (cf_md _) rfl X (ct_X4_lacks l g v1 v2 M) wl_X4_240 rfl rfl (by decide) (Nat.le_of_ble_eq_true rfl) dX4_fits_3 (fun r_2 M_1 => ?_)
  refine j_if_eq (tgt := 22) X dX4_fits_6 (by decide) ?_ ?_
  · refine j_aload_n (i := 0) X dX4_fits_22 rfl rfl ?_
    refine j_iload_n (i := 1) X dX4_fits_23 rfl rfl ?_
    refine j_iload_n (i := 2) X dX4_fits_24 rfl rfl ?_
    refine j_iconst (v := 2) X dX4_fits_25 rfl ?_
    refine j_bipush (v := (-5)) X dX4_fits_26 rfl ?_
    refine j_iconst (v := 5) X dX4_fits_28 rfl ?_
    refine k_cVI (As := [.int v1, .int v2, .int 2, .int (-5), .int 5]) (rest := []) (by decide) (cf_md _) rfl X (ct_X4_fitting l g v1 v2 2 (-5) 5 M_1) wl_X4_243 rfl rfl (by decide) (Nat.le_of_ble_eq_true rfl) dX4_fits_29 (fun r_4 M_3 => ?_)
    refine k_cSI (As := [.int r_4]) (rest := []) X (ct_X4_bits l g r_4 M_3) wl_X4_123 rfl rfl (by decide) (Nat.le_of_ble_eq_true rfl) dX4_fits_32 (fun r_6 M_5 => ?_)
    exact j_iret X hr dX4_fits_35
  · refine j_aload_n (i := 0) X dX4_fits_9 rfl rfl ?_
    refine j_aload_n (i := 0) X dX4_fits_10 rfl rfl ?_
    refine j_iload_n (i := 1) X dX4_fits_11 rfl rfl ?_
    refine j_iload_n (i := 2) X dX4_fits_12 rfl rfl ?_
    refine k_cVI (As := [.int v1, .int v2]) (rest := [.ref (gA g 49)]) (by decide) (cf_md _) rfl X (ct_X4_lacks l g v1 v2 M_1) wl_X4_240 rfl rfl (by decide) (Nat.le_of_ble_eq_true rfl) dX4_fits_13 (fun r_8 M_7 => ?_)
    refine k_cVI (As := [.int r_8]) (rest := []) (by decide) (cf_md _) rfl X (ct_X4_finding l g r_8 M_7) wl_X4_81 rfl rfl (by decide) (Nat.le_of_ble_eq_true rfl) dX4_fits_16 (fun r_10 M_9 => ?_)
    refine j_goto (tgt := 35) X dX4_fits_19 (by decide) ?_
    exact j_iret X hr dX4_fits_35
def mi_X4_fits (v1 : Int32) (v2 : Int32) (M : Mem) : Option (Int32 × Mem) := pi_X4_fits_e v1 v2 M
theorem ct_X4_fits (l : Launch) (g : Gh) (v1 : Int32) (v2 : Int32) (M : Mem) : CtI l g yX4_fits cX4_fits 3 (some (.int)) 12 [.ref (gA g 49), .int v1, .int v2] M (mi_X4_fits v1 v2 M) := ctI_of (own := RX4) (L := [(0, .ref (gA g 49)), (1, .int v1), (2, .int v2)]) (by decide +kernel) rfl (Nat.le_of_ble_eq_true rfl) rfl (fun p e s m args below meth c X hr => pj_X4_fits_e X hr v1 v2  M)

def pi_X4_step_e (v1 : Int32) (v2 : Int32) (M : Mem) : Option (Int32 × Mem) := bd (mi_X4_lacks v1 v2 M) fun r_2 M_1 => if r_2 = 0 then (bd (mi_X4_fitting v1 v2 2 (-5) 5 M_1) fun r_4 M_3 => if r_4 = 0 then (bd (mi_X4_finding (-1000004) M_3) fun r_6 M_5 => some (r_6, M_5)) else (bd (mi_X4_bits ((r_4 &&& (-r_4)) - 1) M_3) fun r_8 M_7 => some (r_8 - 5, M_7))) else (bd (mi_X4_lacks v1 v2 M_1) fun r_10 M_9 => bd (mi_X4_finding r_10 M_9) fun r_12 M_11 => some (r_12, M_11))
set_option maxRecDepth 100000 in
set_option maxHeartbeats 4000000 in
theorem pj_X4_step_e {p : Program} {l : Launch} {e : Env} {R : Room} {s : State} {m : MethodId} {args : Array Value} {below : List Frame} {meth : Method} {c : Code} {g : Gh} (X : Cx p l e R s m args below meth c g cX4_step 4 (0, 0) RX4 12) (hr : meth.sig.returnType = (some (.int))) (v1 : Int32) (v2 : Int32) (M : Mem) : J p l e R s m args below meth c g 4 (0, 0) (QfI below args s g) (pi_X4_step_e v1 v2 M) M 0 [(0, .ref (gA g 49)), (1, .int v1), (2, .int v2)] [] := by
  unfold pi_X4_step_e
  refine j_aload_n (i := 0) X dX4_step_0 rfl rfl ?_
  refine j_iload_n (i := 1) X dX4_step_1 rfl rfl ?_
  refine j_iload_n (i := 2) X dX4_step_2 rfl rfl ?_
  refine k_cVI (As := [.int v1, .int v2]) (rest := []) (by decide) (cf_md _) rfl X (ct_X4_lacks l g v1 v2 M) wl_X4_240 rfl rfl (by decide) (Nat.le_of_ble_eq_true rfl) dX4_step_3 (fun r_2 M_1 => ?_)
  refine j_if_eq (tgt := 20) X dX4_step_6 (by decide) ?_ ?_
  · refine j_aload_n (i := 0) X dX4_step_20 rfl rfl ?_
    refine j_iload_n (i := 1) X dX4_step_21 rfl rfl ?_
    refine j_iload_n (i := 2) X dX4_step_22 rfl rfl ?_
    refine j_iconst (v := 2) X dX4_step_23 rfl ?_
    refine j_bipush (v := (-5)) X dX4_step_24 rfl ?_
    refine j_iconst (v := 5) X dX4_step_26 rfl ?_
    refine k_cVI (As := [.int v1, .int v2, .int 2, .int (-5), .int 5]) (rest := []) (by decide) (cf_md _) rfl X (ct_X4_fitting l g v1 v2 2 (-5) 5 M_1) wl_X4_243 rfl rfl (by decide) (Nat.le_of_ble_eq_true rfl) dX4_step_27 (fun r_4 M_3 => ?_)
    refine j_istore_n (i := 3) (Lq := [(0, .ref (gA g 49)), (1, .int v1), (2, .int v2), (3, .int r_4)]) X dX4_step_30 rfl (by decide) rfl ?_
    refine j_iload_n (i := 3) X dX4_step_31 rfl rfl ?_
    refine j_if_ne (tgt := 44) X dX4_step_32 (by decide) ?_ ?_
    · refine j_aload_n (i := 0) X dX4_step_35 rfl rfl ?_
      refine j_ldc (v := (-1000004)) X wq_352 dX4_step_36 ?_
      refine k_cVI (As := [.int (-1000004)]) (rest := []) (by decide) (cf_md _) rfl X (ct_X4_finding l g (-1000004) M_3) wl_X4_81 rfl rfl (by decide) (Nat.le_of_ble_eq_true rfl) dX4_step_38 (fun r_6 M_5 => ?_)
      refine j_goto (tgt := 55) X dX4_step_41 (by decide) ?_
      exact j_iret X hr dX4_step_55
    · refine j_iload_n (i := 3) X dX4_step_44 rfl rfl ?_
      refine j_iload_n (i := 3) X dX4_step_45 rfl rfl ?_
      refine j_ineg X dX4_step_46 ?_
      refine j_iand X dX4_step_47 ?_
      refine j_iconst (v := 1) X dX4_step_48 rfl ?_
      refine j_isub X dX4_step_49 ?_
      refine k_cSI (As := [.int ((r_4 &&& (-r_4)) - 1)]) (rest := []) X (ct_X4_bits l g ((r_4 &&& (-r_4)) - 1) M_3) wl_X4_123 rfl rfl (by decide) (Nat.le_of_ble_eq_true rfl) dX4_step_50 (fun r_8 M_7 => ?_)
      refine j_iconst (v := 5) X dX4_step_53 rfl ?_
      refine j_isub X dX4_step_54 ?_
      exact j_iret X hr dX4_step_55
  · refine j_aload_n (i := 0) X dX4_step_9 rfl rfl ?_
    refine j_aload_n (i := 0) X dX4_step_10 rfl rfl ?_
    refine j_iload_n (i := 1) X dX4_step_11 rfl rfl ?_
    refine j_iload_n (i := 2) X dX4_step_12 rfl rfl ?_
    refine k_cVI (As := [.int v1, .int v2]) (rest := [.ref (gA g 49)]) (by decide) (cf_md _) rfl X (ct_X4_lacks l g v1 v2 M_1) wl_X4_240 rfl rfl (by decide) (Nat.le_of_ble_eq_true rfl) dX4_step_13 (fun r_10 M_9 => ?_)
    refine k_cVI (As := [.int r_10]) (rest := []) (by decide) (cf_md _) rfl X (ct_X4_finding l g r_10 M_9) wl_X4_81 rfl rfl (by decide) (Nat.le_of_ble_eq_true rfl) dX4_step_16 (fun r_12 M_11 => ?_)
    exact j_iret X hr dX4_step_19
def mi_X4_step (v1 : Int32) (v2 : Int32) (M : Mem) : Option (Int32 × Mem) := pi_X4_step_e v1 v2 M
theorem ct_X4_step (l : Launch) (g : Gh) (v1 : Int32) (v2 : Int32) (M : Mem) : CtI l g yX4_step cX4_step 4 (some (.int)) 12 [.ref (gA g 49), .int v1, .int v2] M (mi_X4_step v1 v2 M) := ctI_of (own := RX4) (L := [(0, .ref (gA g 49)), (1, .int v1), (2, .int v2)]) (by decide +kernel) rfl (Nat.le_of_ble_eq_true rfl) rfl (fun p e s m args below meth c X hr => pj_X4_step_e X hr v1 v2  M)

def pi_X4_kinds_e (v1 : Int32) (v2 : Int32) (M : Mem) : Option (Int32 × Mem) := bd (mi_X4_lacks v1 v2 M) fun r_2 M_1 => if r_2 = 0 then (bd (mi_X4_fitting v1 v2 0 0 6 M_1) fun r_4 M_3 => some (r_4, M_3)) else (bd (mi_X4_lacks v1 v2 M_1) fun r_6 M_5 => bd (mi_X4_finding r_6 M_5) fun r_8 M_7 => some (r_8, M_7))
set_option maxRecDepth 100000 in
set_option maxHeartbeats 4000000 in
theorem pj_X4_kinds_e {p : Program} {l : Launch} {e : Env} {R : Room} {s : State} {m : MethodId} {args : Array Value} {below : List Frame} {meth : Method} {c : Code} {g : Gh} (X : Cx p l e R s m args below meth c g cX4_kinds 3 (0, 0) RX4 12) (hr : meth.sig.returnType = (some (.int))) (v1 : Int32) (v2 : Int32) (M : Mem) : J p l e R s m args below meth c g 3 (0, 0) (QfI below args s g) (pi_X4_kinds_e v1 v2 M) M 0 [(0, .ref (gA g 49)), (1, .int v1), (2, .int v2)] [] := by
  unfold pi_X4_kinds_e
  refine j_aload_n (i := 0) X dX4_kinds_0 rfl rfl ?_
  refine j_iload_n (i := 1) X dX4_kinds_1 rfl rfl ?_
  refine j_iload_n (i := 2) X dX4_kinds_2 rfl rfl ?_
  refine k_cVI (As := [.int v1, .int v2]) (rest := []) (by decide) (cf_md _) rfl X (ct_X4_lacks l g v1 v2 M) wl_X4_240 rfl rfl (by decide) (Nat.le_of_ble_eq_true rfl) dX4_kinds_3 (fun r_2 M_1 => ?_)
  refine j_if_eq (tgt := 22) X dX4_kinds_6 (by decide) ?_ ?_
  · refine j_aload_n (i := 0) X dX4_kinds_22 rfl rfl ?_
    refine j_iload_n (i := 1) X dX4_kinds_23 rfl rfl ?_
    refine j_iload_n (i := 2) X dX4_kinds_24 rfl rfl ?_
    refine j_iconst (v := 0) X dX4_kinds_25 rfl ?_
    refine j_iconst (v := 0) X dX4_kinds_26 rfl ?_
    refine j_bipush (v := 6) X dX4_kinds_27 rfl ?_
    refine k_cVI (As := [.int v1, .int v2, .int 0, .int 0, .int 6]) (rest := []) (by decide) (cf_md _) rfl X (ct_X4_fitting l g v1 v2 0 0 6 M_1) wl_X4_243 rfl rfl (by decide) (Nat.le_of_ble_eq_true rfl) dX4_kinds_29 (fun r_4 M_3 => ?_)
    exact j_iret X hr dX4_kinds_32
  · refine j_aload_n (i := 0) X dX4_kinds_9 rfl rfl ?_
    refine j_aload_n (i := 0) X dX4_kinds_10 rfl rfl ?_
    refine j_iload_n (i := 1) X dX4_kinds_11 rfl rfl ?_
    refine j_iload_n (i := 2) X dX4_kinds_12 rfl rfl ?_
    refine k_cVI (As := [.int v1, .int v2]) (rest := [.ref (gA g 49)]) (by decide) (cf_md _) rfl X (ct_X4_lacks l g v1 v2 M_1) wl_X4_240 rfl rfl (by decide) (Nat.le_of_ble_eq_true rfl) dX4_kinds_13 (fun r_6 M_5 => ?_)
    refine k_cVI (As := [.int r_6]) (rest := []) (by decide) (cf_md _) rfl X (ct_X4_finding l g r_6 M_5) wl_X4_81 rfl rfl (by decide) (Nat.le_of_ble_eq_true rfl) dX4_kinds_16 (fun r_8 M_7 => ?_)
    refine j_goto (tgt := 32) X dX4_kinds_19 (by decide) ?_
    exact j_iret X hr dX4_kinds_32
def mi_X4_kinds (v1 : Int32) (v2 : Int32) (M : Mem) : Option (Int32 × Mem) := pi_X4_kinds_e v1 v2 M
theorem ct_X4_kinds (l : Launch) (g : Gh) (v1 : Int32) (v2 : Int32) (M : Mem) : CtI l g yX4_kinds cX4_kinds 3 (some (.int)) 12 [.ref (gA g 49), .int v1, .int v2] M (mi_X4_kinds v1 v2 M) := ctI_of (own := RX4) (L := [(0, .ref (gA g 49)), (1, .int v1), (2, .int v2)]) (by decide +kernel) rfl (Nat.le_of_ble_eq_true rfl) rfl (fun p e s m args below meth c X hr => pj_X4_kinds_e X hr v1 v2  M)

def pi_X4_drawn_e (M : Mem) : Option (Int32 × Mem) := gd (inb 2 62) <| gd (inb 2 62) <| bM (up M 50 (2 : Int32).toNatClampNeg (((M 50 (2 : Int32).toNatClampNeg) * 1103515245) + 12345)) fun M_3 => gd (inb 2 62) <| some (((M_3 50 (2 : Int32).toNatClampNeg).toUInt32 >>> ((8 : Int32).toUInt32 &&& Int32.toUInt32 31)).toInt32, M_3)
set_option maxRecDepth 100000 in
set_option maxHeartbeats 4000000 in
theorem pj_X4_drawn_e {p : Program} {l : Launch} {e : Env} {R : Room} {s : State} {m : MethodId} {args : Array Value} {below : List Frame} {meth : Method} {c : Code} {g : Gh} (X : Cx p l e R s m args below meth c g cX4_drawn 1 (0, 0) RX4 0) (hr : meth.sig.returnType = (some (.int))) (M : Mem) : J p l e R s m args below meth c g 1 (0, 0) (QfI below args s g) (pi_X4_drawn_e M) M 0 [(0, .ref (gA g 49))] [] := by
  unfold pi_X4_drawn_e
  refine j_aload_n (i := 0) X dX4_drawn_0 rfl rfl ?_
  refine j_get_md 0 X (by decide) wq_346 rfl dX4_drawn_1 ?_
  refine j_iconst (v := 2) X dX4_drawn_4 rfl ?_
  refine j_aload_n (i := 0) X dX4_drawn_5 rfl rfl ?_
  refine j_get_md 0 X (by decide) wq_346 rfl dX4_drawn_6 ?_
  refine j_iconst (v := 2) X dX4_drawn_9 rfl ?_
  refine j_iald X ia_50 dX4_drawn_10 (fun h_1 => ?_)
  refine j_ldc (v := 1103515245) X wq_542 dX4_drawn_11 ?_
  refine j_imul X dX4_drawn_13 ?_
  refine j_sipush (v := 12345) X dX4_drawn_14 rfl ?_
  refine j_iadd X dX4_drawn_17 ?_
  refine j_iast X ia_50 dX4_drawn_18 (fun h_2 => ?_)
  refine j_bM (fun M_3 => ?_)
  refine j_aload_n (i := 0) X dX4_drawn_19 rfl rfl ?_
  refine j_get_md 0 X (by decide) wq_346 rfl dX4_drawn_20 ?_
  refine j_iconst (v := 2) X dX4_drawn_23 rfl ?_
  refine j_iald X ia_50 dX4_drawn_24 (fun h_4 => ?_)
  refine j_bipush (v := 8) X dX4_drawn_25 rfl ?_
  refine j_iushr X dX4_drawn_27 ?_
  exact j_iret X hr dX4_drawn_28
def mi_X4_drawn (M : Mem) : Option (Int32 × Mem) := pi_X4_drawn_e  M
theorem ct_X4_drawn (l : Launch) (g : Gh) (M : Mem) : CtI l g yX4_drawn cX4_drawn 1 (some (.int)) 0 [.ref (gA g 49)] M (mi_X4_drawn  M) := ctI_of (own := RX4) (L := [(0, .ref (gA g 49))]) (by decide +kernel) rfl (Nat.le_of_ble_eq_true rfl) rfl (fun p e s m args below meth c X hr => pj_X4_drawn_e X hr   M)
