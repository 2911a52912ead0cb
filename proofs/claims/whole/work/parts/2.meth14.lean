def pi_X4_sumOf_4 (v1 : Int32) (rc4 : Int32 × Int32 × Mem → Option (Int32 × Mem)) (v2 : Int32) (v3 : Int32) (M : Mem) : Option (Int32 × Mem) := gd (inb 1 62) <| if (M 50 (1 : Int32).toNatClampNeg) ≤ v3 then (some (v2, M)) else (bd (mi_X4_hillIs v3 v1 M) fun r_3 M_2 => bI (v2 + r_3) fun v2_4 => bI (v3 + 1) fun v3_5 => rc4 (v2_4, v3_5, M_2))
set_option maxRecDepth 100000 in
set_option maxHeartbeats 4000000 in
theorem pj_X4_sumOf_4 {p : Program} {l : Launch} {e : Env} {R : Room} {s : State} {m : MethodId} {args : Array Value} {below : List Frame} {meth : Method} {c : Code} {g : Gh} (X : Cx p l e R s m args below meth c g cX4_sumOf 4 (0, 0) RX4 2) (hr : meth.sig.returnType = (some (.int))) (v1 : Int32) (rc4 : Int32 × Int32 × Mem → Option (Int32 × Mem)) (hc4 : ∀ x, J p l e R s m args below meth c g 4 (0, 0) (QfI below args s g) (rc4 x) x.2.2 4 [(0, .ref (gA g 49)), (1, .int v1), (2, .int x.1), (3, .int x.2.1)] []) (v2 : Int32) (v3 : Int32) (M : Mem) : J p l e R s m args below meth c g 4 (0, 0) (QfI below args s g) (pi_X4_sumOf_4 v1 rc4 v2 v3 M) M 4 [(0, .ref (gA g 49)), (1, .int v1), (2, .int v2), (3, .int v3)] [] := by
  unfold pi_X4_sumOf_4
  refine j_iload_n (i := 3) X dX4_sumOf_4 rfl rfl ?_
  refine j_aload_n (i := 0) X dX4_sumOf_5 rfl rfl ?_
  refine j_get_md 0 X (by decide) wq_346 rfl dX4_sumOf_6 ?_
  refine j_iconst (v := 1) X dX4_sumOf_9 rfl ?_
  refine j_iald X ia_50 dX4_sumOf_10 (fun h_1 => ?_)
  refine j_icmp_ge (tgt := 29) X dX4_sumOf_11 (by decide) ?_ ?_
  · refine j_iload_n (i := 2) X dX4_sumOf_29 rfl rfl ?_
    exact j_iret X hr dX4_sumOf_30
  · refine j_iload_n (i := 2) X dX4_sumOf_14 rfl rfl ?_
    refine j_aload_n (i := 0) X dX4_sumOf_15 rfl rfl ?_
    refine j_iload_n (i := 3) X dX4_sumOf_16 rfl rfl ?_
    refine j_iload_n (i := 1) X dX4_sumOf_17 rfl rfl ?_
    refine k_cVI (As := [.int v3, .int v1]) (rest := [.int v2]) (by decide) (cf_md _) rfl X (ct_X4_hillIs l g v3 v1 M) wl_X4_108 rfl rfl (by decide) (Nat.le_of_ble_eq_true rfl) dX4_sumOf_18 (fun r_3 M_2 => ?_)
    refine j_iadd X dX4_sumOf_21 ?_
    refine j_bI (fun v2_4 => ?_)
    refine j_istore_n (i := 2) (Lq := [(0, .ref (gA g 49)), (1, .int v1), (2, .int v2_4), (3, .int v3)]) X dX4_sumOf_22 rfl (by decide) rfl ?_
    refine j_iincB (i := 3) (y := v3 + 1) (Lf := fun v3_5 => [(0, .ref (gA g 49)), (1, .int v1), (2, .int v2_4), (3, .int v3_5)]) X dX4_sumOf_23 rfl rfl (by decide) (fun _ => rfl) (fun v3_5 => ?_)
    refine j_goto (tgt := 4) X dX4_sumOf_26 (by decide) ?_
    exact hc4 (v2_4, v3_5, M_2)
def pi_X4_sumOf_e (v1 : Int32) (M : Mem) : Option (Int32 × Mem) := lp (fun rc4 x => pi_X4_sumOf_4 v1 rc4 x.1 x.2.1 x.2.2) FU (0, 0, M)
set_option maxRecDepth 100000 in
set_option maxHeartbeats 4000000 in
theorem pj_X4_sumOf_e {p : Program} {l : Launch} {e : Env} {R : Room} {s : State} {m : MethodId} {args : Array Value} {below : List Frame} {meth : Method} {c : Code} {g : Gh} (X : Cx p l e R s m args below meth c g cX4_sumOf 4 (0, 0) RX4 2) (hr : meth.sig.returnType = (some (.int))) (v1 : Int32) (M : Mem) : J p l e R s m args below meth c g 4 (0, 0) (QfI below args s g) (pi_X4_sumOf_e v1 M) M 0 [(0, .ref (gA g 49)), (1, .int v1)] [] := by
  unfold pi_X4_sumOf_e
  refine j_iconst (v := 0) X dX4_sumOf_0 rfl ?_
  refine j_istore_n (i := 2) (Lq := [(0, .ref (gA g 49)), (1, .int v1), (2, .int 0)]) X dX4_sumOf_1 rfl (by decide) rfl ?_
  refine j_iconst (v := 0) X dX4_sumOf_2 rfl ?_
  refine j_istore_n (i := 3) (Lq := [(0, .ref (gA g 49)), (1, .int v1), (2, .int 0), (3, .int 0)]) X dX4_sumOf_3 rfl (by decide) rfl ?_
  exact j_lp (Lf := fun x => [(0, .ref (gA g 49)), (1, .int v1), (2, .int x.1), (3, .int x.2.1)]) (Mf := fun x => x.2.2) (fun rc4 hc4 x => pj_X4_sumOf_4 X hr v1 rc4 hc4 x.1 x.2.1 x.2.2) FU (0, 0, M)
def mi_X4_sumOf (v1 : Int32) (M : Mem) : Option (Int32 × Mem) := pi_X4_sumOf_e v1 M
theorem ct_X4_sumOf (l : Launch) (g : Gh) (v1 : Int32) (M : Mem) : CtI l g yX4_sumOf cX4_sumOf 4 (some (.int)) 2 [.ref (gA g 49), .int v1] M (mi_X4_sumOf v1 M) := ctI_of (own := RX4) (L := [(0, .ref (gA g 49)), (1, .int v1)]) (by decide +kernel) rfl (Nat.le_of_ble_eq_true rfl) rfl (fun p e s m args below meth c X hr => pj_X4_sumOf_e X hr v1  M)

def pi_X4_valleysAt_4 (rc4 : Int32 × Int32 × Mem → Option (Int32 × Mem)) (v1 : Int32) (v2 : Int32) (M : Mem) : Option (Int32 × Mem) := gd (inb 1 62) <| if (M 50 (1 : Int32).toNatClampNeg) ≤ v2 then (some (v1, M)) else (bd (mi_X4_hillIs v2 1 M) fun r_3 M_2 => bI (v1 ||| (1 <<< (r_3 &&& 31))) fun v1_4 => bI (v2 + 1) fun v2_5 => rc4 (v1_4, v2_5, M_2))
set_option maxRecDepth 100000 in
set_option maxHeartbeats 4000000 in
theorem pj_X4_valleysAt_4 {p : Program} {l : Launch} {e : Env} {R : Room} {s : State} {m : MethodId} {args : Array Value} {below : List Frame} {meth : Method} {c : Code} {g : Gh} (X : Cx p l e R s m args below meth c g cX4_valleysAt 3 (0, 0) RX4 2) (hr : meth.sig.returnType = (some (.int))) (rc4 : Int32 × Int32 × Mem → Option (Int32 × Mem)) (hc4 : ∀ x, J p l e R s m args below meth c g 3 (0, 0) (QfI below args s g) (rc4 x) x.2.2 4 [(0, .ref (gA g 49)), (1, .int x.1), (2, .int x.2.1)] []) (v1 : Int32) (v2 : Int32) (M : Mem) : J p l e R s m args below meth c g 3 (0, 0) (QfI below args s g) (pi_X4_valleysAt_4 rc4 v1 v2 M) M 4 [(0, .ref (gA g 49)), (1, .int v1), (2, .int v2)] [] := by
  unfold pi_X4_valleysAt_4
  refine j_iload_n (i := 2) X dX4_valleysAt_4 rfl rfl ?_
  refine j_aload_n (i := 0) X dX4_valleysAt_5 rfl rfl ?_
  refine j_get_md 0 X (by decide) wq_346 rfl dX4_valleysAt_6 ?_
  refine j_iconst (v := 1) X dX4_valleysAt_9 rfl ?_
  refine j_iald X ia_50 dX4_valleysAt_10 (fun h_1 => ?_)
  refine j_icmp_ge (tgt := 31) X dX4_valleysAt_11 (by decide) ?_ ?_
  · refine j_iload_n (i := 1) X dX4_valleysAt_31 rfl rfl ?_
    exact j_iret X hr dX4_valleysAt_32
  · refine j_iload_n (i := 1) X dX4_valleysAt_14 rfl rfl ?_
    refine j_iconst (v := 1) X dX4_valleysAt_15 rfl ?_
    refine j_aload_n (i := 0) X dX4_valleysAt_16 rfl rfl ?_
    refine j_iload_n (i := 2) X dX4_valleysAt_17 rfl rfl ?_
    refine j_iconst (v := 1) X dX4_valleysAt_18 rfl ?_
    refine k_cVI (As := [.int v2, .int 1]) (rest := [.int 1, .int v1]) (by decide) (cf_md _) rfl X (ct_X4_hillIs l g v2 1 M) wl_X4_108 rfl rfl (by decide) (Nat.le_of_ble_eq_true rfl) dX4_valleysAt_19 (fun r_3 M_2 => ?_)
    refine j_ishl X dX4_valleysAt_22 ?_
    refine j_ior X dX4_valleysAt_23 ?_
    refine j_bI (fun v1_4 => ?_)
    refine j_istore_n (i := 1) (Lq := [(0, .ref (gA g 49)), (1, .int v1_4), (2, .int v2)]) X dX4_valleysAt_24 rfl (by decide) rfl ?_
    refine j_iincB (i := 2) (y := v2 + 1) (Lf := fun v2_5 => [(0, .ref (gA g 49)), (1, .int v1_4), (2, .int v2_5)]) X dX4_valleysAt_25 rfl rfl (by decide) (fun _ => rfl) (fun v2_5 => ?_)
    refine j_goto (tgt := 4) X dX4_valleysAt_28 (by decide) ?_
    exact hc4 (v1_4, v2_5, M_2)
def pi_X4_valleysAt_e (M : Mem) : Option (Int32 × Mem) := lp (fun rc4 x => pi_X4_valleysAt_4 rc4 x.1 x.2.1 x.2.2) FU (0, 0, M)
set_option maxRecDepth 100000 in
set_option maxHeartbeats 4000000 in
theorem pj_X4_valleysAt_e {p : Program} {l : Launch} {e : Env} {R : Room} {s : State} {m : MethodId} {args : Array Value} {below : List Frame} {meth : Method} {c : Code} {g : Gh} (X : Cx p l e R s m args below meth c g cX4_valleysAt 3 (0, 0) RX4 2) (hr : meth.sig.returnType = (some (.int))) (M : Mem) : J p l e R s m args below meth c g 3 (0, 0) (QfI below args s g) (pi_X4_valleysAt_e M) M 0 [(0, .ref (gA g 49))] [] := by
  unfold pi_X4_valleysAt_e
  refine j_iconst (v := 0) X dX4_valleysAt_0 rfl ?_
  refine j_istore_n (i := 1) (Lq := [(0, .ref (gA g 49)), (1, .int 0)]) X dX4_valleysAt_1 rfl (by decide) rfl ?_
  refine j_iconst (v := 0) X dX4_valleysAt_2 rfl ?_
  refine j_istore_n (i := 2) (Lq := [(0, .ref (gA g 49)), (1, .int 0), (2, .int 0)]) X dX4_valleysAt_3 rfl (by decide) rfl ?_
  exact j_lp (Lf := fun x => [(0, .ref (gA g 49)), (1, .int x.1), (2, .int x.2.1)]) (Mf := fun x => x.2.2) (fun rc4 hc4 x => pj_X4_valleysAt_4 X hr rc4 hc4 x.1 x.2.1 x.2.2) FU (0, 0, M)
def mi_X4_valleysAt (M : Mem) : Option (Int32 × Mem) := pi_X4_valleysAt_e  M
theorem ct_X4_valleysAt (l : Launch) (g : Gh) (M : Mem) : CtI l g yX4_valleysAt cX4_valleysAt 3 (some (.int)) 2 [.ref (gA g 49)] M (mi_X4_valleysAt  M) := ctI_of (own := RX4) (L := [(0, .ref (gA g 49))]) (by decide +kernel) rfl (Nat.le_of_ble_eq_true rfl) rfl (fun p e s m args below meth c X hr => pj_X4_valleysAt_e X hr   M)

def pi_X4_valleysFaced_4 (rc4 : Int32 × Int32 × Mem → Option (Int32 × Mem)) (v1 : Int32) (v2 : Int32) (M : Mem) : Option (Int32 × Mem) := gd (inb 1 62) <| if (M 50 (1 : Int32).toNatClampNeg) ≤ v2 then (some (v1, M)) else (bd (mi_X4_facesOf v2 M) fun r_3 M_2 => bI (v1 ||| (1 <<< (r_3 &&& 31))) fun v1_4 => bI (v2 + 1) fun v2_5 => rc4 (v1_4, v2_5, M_2))
set_option maxRecDepth 100000 in
set_option maxHeartbeats 4000000 in
theorem pj_X4_valleysFaced_4 {p : Program} {l : Launch} {e : Env} {R : Room} {s : State} {m : MethodId} {args : Array Value} {below : List Frame} {meth : Method} {c : Code} {g : Gh} (X : Cx p l e R s m args below meth c g cX4_valleysFaced 3 (0, 0) RX4 3) (hr : meth.sig.returnType = (some (.int))) (rc4 : Int32 × Int32 × Mem → Option (Int32 × Mem)) (hc4 : ∀ x, J p l e R s m args below meth c g 3 (0, 0) (QfI below args s g) (rc4 x) x.2.2 4 [(0, .ref (gA g 49)), (1, .int x.1), (2, .int x.2.1)] []) (v1 : Int32) (v2 : Int32) (M : Mem) : J p l e R s m args below meth c g 3 (0, 0) (QfI below args s g) (pi_X4_valleysFaced_4 rc4 v1 v2 M) M 4 [(0, .ref (gA g 49)), (1, .int v1), (2, .int v2)] [] := by
  unfold pi_X4_valleysFaced_4
  refine j_iload_n (i := 2) X dX4_valleysFaced_4 rfl rfl ?_
  refine j_aload_n (i := 0) X dX4_valleysFaced_5 rfl rfl ?_
  refine j_get_md 0 X (by decide) wq_346 rfl dX4_valleysFaced_6 ?_
  refine j_iconst (v := 1) X dX4_valleysFaced_9 rfl ?_
  refine j_iald X ia_50 dX4_valleysFaced_10 (fun h_1 => ?_)
  refine j_icmp_ge (tgt := 30) X dX4_valleysFaced_11 (by decide) ?_ ?_
  · refine j_iload_n (i := 1) X dX4_valleysFaced_30 rfl rfl ?_
    exact j_iret X hr dX4_valleysFaced_31
  · refine j_iload_n (i := 1) X dX4_valleysFaced_14 rfl rfl ?_
    refine j_iconst (v := 1) X dX4_valleysFaced_15 rfl ?_
    refine j_aload_n (i := 0) X dX4_valleysFaced_16 rfl rfl ?_
    refine j_iload_n (i := 2) X dX4_valleysFaced_17 rfl rfl ?_
    refine k_cVI (As := [.int v2]) (rest := [.int 1, .int v1]) (by decide) (cf_md _) rfl X (ct_X4_facesOf l g v2 M) wl_X4_114 rfl rfl (by decide) (Nat.le_of_ble_eq_true rfl) dX4_valleysFaced_18 (fun r_3 M_2 => ?_)
    refine j_ishl X dX4_valleysFaced_21 ?_
    refine j_ior X dX4_valleysFaced_22 ?_
    refine j_bI (fun v1_4 => ?_)
    refine j_istore_n (i := 1) (Lq := [(0, .ref (gA g 49)), (1, .int v1_4), (2, .int v2)]) X dX4_valleysFaced_23 rfl (by decide) rfl ?_
    refine j_iincB (i := 2) (y := v2 + 1) (Lf := fun v2_5 => [(0, .ref (gA g 49)), (1, .int v1_4), (2, .int v2_5)]) X dX4_valleysFaced_24 rfl rfl (by decide) (fun _ => rfl) (fun v2_5 => ?_)
    refine j_goto (tgt := 4) X dX4_valleysFaced_27 (by decide) ?_
    exact hc4 (v1_4, v2_5, M_2)
def pi_X4_valleysFaced_e (M : Mem) : Option (Int32 × Mem) := lp (fun rc4 x => pi_X4_valleysFaced_4 rc4 x.1 x.2.1 x.2.2) FU (0, 0, M)
set_option maxRecDepth 100000 in
set_option maxHeartbeats 4000000 in
theorem pj_X4_valleysFaced_e {p : Program} {l : Launch} {e : Env} {R : Room} {s : State} {m : MethodId} {args : Array Value} {below : List Frame} {meth : Method} {c : Code} {g : Gh} (X : Cx p l e R s m args below meth c g cX4_valleysFaced 3 (0, 0) RX4 3) (hr : meth.sig.returnType = (some (.int))) (M : Mem) : J p l e R s m args below meth c g 3 (0, 0) (QfI below args s g) (pi_X4_valleysFaced_e M) M 0 [(0, .ref (gA g 49))] [] := by
  unfold pi_X4_valleysFaced_e
  refine j_iconst (v := 0) X dX4_valleysFaced_0 rfl ?_
  refine j_istore_n (i := 1) (Lq := [(0, .ref (gA g 49)), (1, .int 0)]) X dX4_valleysFaced_1 rfl (by decide) rfl ?_
  refine j_iconst (v := 0) X dX4_valleysFaced_2 rfl ?_
  refine j_istore_n (i := 2) (Lq := [(0, .ref (gA g 49)), (1, .int 0), (2, .int 0)]) X dX4_valleysFaced_3 rfl (by decide) rfl ?_
  exact j_lp (Lf := fun x => [(0, .ref (gA g 49)), (1, .int x.1), (2, .int x.2.1)]) (Mf := fun x => x.2.2) (fun rc4 hc4 x => pj_X4_valleysFaced_4 X hr rc4 hc4 x.1 x.2.1 x.2.2) FU (0, 0, M)
def mi_X4_valleysFaced (M : Mem) : Option (Int32 × Mem) := pi_X4_valleysFaced_e  M
theorem ct_X4_valleysFaced (l : Launch) (g : Gh) (M : Mem) : CtI l g yX4_valleysFaced cX4_valleysFaced 3 (some (.int)) 3 [.ref (gA g 49)] M (mi_X4_valleysFaced  M) := ctI_of (own := RX4) (L := [(0, .ref (gA g 49))]) (by decide +kernel) rfl (Nat.le_of_ble_eq_true rfl) rfl (fun p e s m args below meth c X hr => pj_X4_valleysFaced_e X hr   M)

def pi_X4_now_e (v1 : Int32) (M : Mem) : Option (Int32 × Mem) := swc v1 [(0, gd (inb 0 62) <| some (M 50 (0 : Int32).toNatClampNeg, M)), (1, bd (mi_X4_sumOf 4 M) fun r_3 M_2 => some (r_3, M_2)), (2, bd (mi_X4_whoMeets M) fun r_5 M_4 => some (r_5, M_4)), (3, bd (mi_X4_valleysAt M) fun r_7 M_6 => some (r_7, M_6)), (4, bd (mi_X4_valleysFaced M) fun r_9 M_8 => some (r_9, M_8)), (5, bd (mi_X4_sumOf 5 M) fun r_11 M_10 => some (r_11, M_10))] (bd (mi_X4_finding (-1000001) M) fun r_13 M_12 => some (r_13, M_12))
set_option maxRecDepth 100000 in
set_option maxHeartbeats 4000000 in
theorem pj_X4_now_e {p : Program} {l : Launch} {e : Env} {R : Room} {s : State} {m : MethodId} {args : Array Value} {below : List Frame} {meth : Method} {c : Code} {g : Gh} (X : Cx p l e R s m args below meth c g cX4_now 2 (0, 0) RX4 5) (hr : meth.sig.returnType = (some (.int))) (v1 : Int32) (M : Mem) : J p l e R s m args below meth c g 2 (0, 0) (QfI below args s g) (pi_X4_now_e v1 M) M 0 [(0, .ref (gA g 49)), (1, .int v1)] [] := by
  unfold pi_X4_now_e
  refine j_iload_n (i := 1) X dX4_now_0 rfl rfl ?_
  refine j_tsw [0, 1, 2, 3, 4, 5] [40, 47, 53, 58, 63, 68] (dt := 74) X dX4_now_1 rfl (by decide +kernel) (by decide +kernel) (by decide) ⟨?_, ?_, ?_, ?_, ?_, ?_, trivial⟩ ?_
  · refine j_aload_n (i := 0) X dX4_now_40 rfl rfl ?_
    refine j_get_md 0 X (by decide) wq_346 rfl dX4_now_41 ?_
    refine j_iconst (v := 0) X dX4_now_44 rfl ?_
    refine j_iald X ia_50 dX4_now_45 (fun h_1 => ?_)
    exact j_iret X hr dX4_now_46
  · refine j_aload_n (i := 0) X dX4_now_47 rfl rfl ?_
    refine j_iconst (v := 4) X dX4_now_48 rfl ?_
    refine k_cVI (As := [.int 4]) (rest := []) (by decide) (cf_md _) rfl X (ct_X4_sumOf l g 4 M) wl_X4_175 rfl rfl (by decide) (Nat.le_of_ble_eq_true rfl) dX4_now_49 (fun r_3 M_2 => ?_)
    exact j_iret X hr dX4_now_52
  · refine j_aload_n (i := 0) X dX4_now_53 rfl rfl ?_
    refine k_cVI (As := []) (rest := []) (by decide) (cf_md _) rfl X (ct_X4_whoMeets l g M) wl_X4_171 rfl rfl (by decide) (Nat.le_of_ble_eq_true rfl) dX4_now_54 (fun r_5 M_4 => ?_)
    exact j_iret X hr dX4_now_57
  · refine j_aload_n (i := 0) X dX4_now_58 rfl rfl ?_
    refine k_cVI (As := []) (rest := []) (by decide) (cf_md _) rfl X (ct_X4_valleysAt l g M) wl_X4_178 rfl rfl (by decide) (Nat.le_of_ble_eq_true rfl) dX4_now_59 (fun r_7 M_6 => ?_)
    exact j_iret X hr dX4_now_62
  · refine j_aload_n (i := 0) X dX4_now_63 rfl rfl ?_
    refine k_cVI (As := []) (rest := []) (by decide) (cf_md _) rfl X (ct_X4_valleysFaced l g M) wl_X4_181 rfl rfl (by decide) (Nat.le_of_ble_eq_true rfl) dX4_now_64 (fun r_9 M_8 => ?_)
    exact j_iret X hr dX4_now_67
  · refine j_aload_n (i := 0) X dX4_now_68 rfl rfl ?_
    refine j_iconst (v := 5) X dX4_now_69 rfl ?_
    refine k_cVI (As := [.int 5]) (rest := []) (by decide) (cf_md _) rfl X (ct_X4_sumOf l g 5 M) wl_X4_175 rfl rfl (by decide) (Nat.le_of_ble_eq_true rfl) dX4_now_70 (fun r_11 M_10 => ?_)
    exact j_iret X hr dX4_now_73
  · refine j_aload_n (i := 0) X dX4_now_74 rfl rfl ?_
    refine j_ldc (v := (-1000001)) X wq_345 dX4_now_75 ?_
    refine k_cVI (As := [.int (-1000001)]) (rest := []) (by decide) (cf_md _) rfl X (ct_X4_finding l g (-1000001) M) wl_X4_81 rfl rfl (by decide) (Nat.le_of_ble_eq_true rfl) dX4_now_77 (fun r_13 M_12 => ?_)
    exact j_iret X hr dX4_now_80
def mi_X4_now (v1 : Int32) (M : Mem) : Option (Int32 × Mem) := pi_X4_now_e v1 M
theorem ct_X4_now (l : Launch) (g : Gh) (v1 : Int32) (M : Mem) : CtI l g yX4_now cX4_now 2 (some (.int)) 5 [.ref (gA g 49), .int v1] M (mi_X4_now v1 M) := ctI_of (own := RX4) (L := [(0, .ref (gA g 49)), (1, .int v1)]) (by decide +kernel) rfl (Nat.le_of_ble_eq_true rfl) rfl (fun p e s m args below meth c X hr => pj_X4_now_e X hr v1  M)

def pi_X4_ahead_33 (v1 : Int32) (v2 : Int32) (v3 : Int32) (M : Mem) : Option (Int32 × Mem) := bd (mi_X4_finding (-1000001) M) fun r_4 M_3 => some (r_4, M_3)
set_option maxRecDepth 100000 in
set_option maxHeartbeats 4000000 in
theorem pj_X4_ahead_33 {p : Program} {l : Launch} {e : Env} {R : Room} {s : State} {m : MethodId} {args : Array Value} {below : List Frame} {meth : Method} {c : Code} {g : Gh} (X : Cx p l e R s m args below meth c g cX4_ahead 4 (0, 0) RX4 11) (hr : meth.sig.returnType = (some (.int))) (v1 : Int32) (v2 : Int32) (v3 : Int32) (M : Mem) : J p l e R s m args below meth c g 4 (0, 0) (QfI below args s g) (pi_X4_ahead_33 v1 v2 v3 M) M 33 [(0, .ref (gA g 49)), (1, .int v1), (2, .int v2), (3, .int v3)] [] := by
  unfold pi_X4_ahead_33
  refine j_aload_n (i := 0) X dX4_ahead_33 rfl rfl ?_
  refine j_ldc (v := (-1000001)) X wq_345 dX4_ahead_34 ?_
  refine k_cVI (As := [.int (-1000001)]) (rest := []) (by decide) (cf_md _) rfl X (ct_X4_finding l g (-1000001) M) wl_X4_81 rfl rfl (by decide) (Nat.le_of_ble_eq_true rfl) dX4_ahead_36 (fun r_4 M_3 => ?_)
  exact j_iret X hr dX4_ahead_39
def pi_X4_ahead_77 (v1 : Int32) (v2 : Int32) (v3 : Int32) (t0 : Int32) (M : Mem) : Option (Int32 × Mem) := bd (mi_X4_putBack t0 M) fun r_12 M_11 => some (r_12, M_11)
set_option maxRecDepth 100000 in
set_option maxHeartbeats 4000000 in
theorem pj_X4_ahead_77 {p : Program} {l : Launch} {e : Env} {R : Room} {s : State} {m : MethodId} {args : Array Value} {below : List Frame} {meth : Method} {c : Code} {g : Gh} (X : Cx p l e R s m args below meth c g cX4_ahead 4 (0, 0) RX4 11) (hr : meth.sig.returnType = (some (.int))) (v1 : Int32) (v2 : Int32) (v3 : Int32) (t0 : Int32) (M : Mem) : J p l e R s m args below meth c g 4 (0, 0) (QfI below args s g) (pi_X4_ahead_77 v1 v2 v3 t0 M) M 77 [(0, .ref (gA g 49)), (1, .int v1), (2, .int v2), (3, .int v3)] [.int t0, .ref (gA g 49)] := by
  unfold pi_X4_ahead_77
  refine k_cVI (As := [.int t0]) (rest := []) (by decide) (cf_md _) rfl X (ct_X4_putBack l g t0 M) wl_X4_184 rfl rfl (by decide) (Nat.le_of_ble_eq_true rfl) dX4_ahead_77 (fun r_12 M_11 => ?_)
  exact j_iret X hr dX4_ahead_80
def pi_X4_ahead_23 (v1 : Int32) (v2 : Int32) (v3 : Int32) (M : Mem) : Option (Int32 × Mem) := bd (mi_X4_within v3 0 100 M) fun r_6 M_5 => if r_6 = 0 then (pi_X4_ahead_33 v1 v2 v3 M_5) else (bv (mi_X4_copyRow 50 62 52 62 M_5) fun M_7 => bv (mi_X4_ages v3 M_7) fun M_8 => if v2 = 6 then (bd (mi_X4_facesOf v1 M_8) fun r_10 M_9 => pi_X4_ahead_77 v1 v2 v3 r_10 M_9) else (bd (mi_X4_hillIs v1 v2 M_8) fun r_14 M_13 => pi_X4_ahead_77 v1 v2 v3 r_14 M_13))
set_option maxRecDepth 100000 in
set_option maxHeartbeats 4000000 in
theorem pj_X4_ahead_23 {p : Program} {l : Launch} {e : Env} {R : Room} {s : State} {m : MethodId} {args : Array Value} {below : List Frame} {meth : Method} {c : Code} {g : Gh} (X : Cx p l e R s m args below meth c g cX4_ahead 4 (0, 0) RX4 11) (hr : meth.sig.returnType = (some (.int))) (v1 : Int32) (v2 : Int32) (v3 : Int32) (M : Mem) : J p l e R s m args below meth c g 4 (0, 0) (QfI below args s g) (pi_X4_ahead_23 v1 v2 v3 M) M 23 [(0, .ref (gA g 49)), (1, .int v1), (2, .int v2), (3, .int v3)] [] := by
  unfold pi_X4_ahead_23
  refine j_iload_n (i := 3) X dX4_ahead_23 rfl rfl ?_
  refine j_iconst (v := 0) X dX4_ahead_24 rfl ?_
  refine j_bipush (v := 100) X dX4_ahead_25 rfl ?_
  refine k_cSI (As := [.int v3, .int 0, .int 100]) (rest := []) X (ct_X4_within l g v3 0 100 M) wl_X4_85 rfl rfl (by decide) (Nat.le_of_ble_eq_true rfl) dX4_ahead_27 (fun r_6 M_5 => ?_)
  refine j_if_ne (tgt := 40) X dX4_ahead_30 (by decide) ?_ ?_
  · exact pj_X4_ahead_33 X hr v1 v2 v3 M_5
  · refine j_aload_n (i := 0) X dX4_ahead_40 rfl rfl ?_
    refine j_get_md 0 X (by decide) wq_346 rfl dX4_ahead_41 ?_
    refine j_aload_n (i := 0) X dX4_ahead_44 rfl rfl ?_
    refine j_get_md 2 X (by decide) wq_347 rfl dX4_ahead_45 ?_
    refine k_cSV (As := [.ref (gA g 50), .ref (gA g 52)]) (rest := []) X (ct_X4_copyRow l g 50 62 52 62 ia_50 ia_52 M_5) wl_X4_76 rfl rfl (by decide) (Nat.le_of_ble_eq_true rfl) dX4_ahead_48 (fun M_7 => ?_)
    refine j_aload_n (i := 0) X dX4_ahead_51 rfl rfl ?_
    refine j_iload_n (i := 3) X dX4_ahead_52 rfl rfl ?_
    refine k_cVV (As := [.int v3]) (rest := []) (by decide) (cf_md _) rfl X (ct_X4_ages l g v3 M_7) wl_X4_167 rfl rfl (by decide) (Nat.le_of_ble_eq_true rfl) dX4_ahead_53 (fun M_8 => ?_)
    refine j_aload_n (i := 0) X dX4_ahead_56 rfl rfl ?_
    refine j_iload_n (i := 2) X dX4_ahead_57 rfl rfl ?_
    refine j_bipush (v := 6) X dX4_ahead_58 rfl ?_
    refine j_icmp_ne (tgt := 71) X dX4_ahead_60 (by decide) ?_ ?_
    · refine j_aload_n (i := 0) X dX4_ahead_63 rfl rfl ?_
      refine j_iload_n (i := 1) X dX4_ahead_64 rfl rfl ?_
      refine k_cVI (As := [.int v1]) (rest := [.ref (gA g 49)]) (by decide) (cf_md _) rfl X (ct_X4_facesOf l g v1 M_8) wl_X4_114 rfl rfl (by decide) (Nat.le_of_ble_eq_true rfl) dX4_ahead_65 (fun r_10 M_9 => ?_)
      refine j_goto (tgt := 77) X dX4_ahead_68 (by decide) ?_
      exact pj_X4_ahead_77 X hr v1 v2 v3 r_10 M_9
    · refine j_aload_n (i := 0) X dX4_ahead_71 rfl rfl ?_
      refine j_iload_n (i := 1) X dX4_ahead_72 rfl rfl ?_
      refine j_iload_n (i := 2) X dX4_ahead_73 rfl rfl ?_
      refine k_cVI (As := [.int v1, .int v2]) (rest := [.ref (gA g 49)]) (by decide) (cf_md _) rfl X (ct_X4_hillIs l g v1 v2 M_8) wl_X4_108 rfl rfl (by decide) (Nat.le_of_ble_eq_true rfl) dX4_ahead_74 (fun r_14 M_13 => ?_)
      exact pj_X4_ahead_77 X hr v1 v2 v3 r_14 M_13
def pi_X4_ahead_e (v1 : Int32) (v2 : Int32) (v3 : Int32) (M : Mem) : Option (Int32 × Mem) := bd (mi_X4_isHill v1 M) fun r_2 M_1 => if r_2 = 0 then (pi_X4_ahead_33 v1 v2 v3 M_1) else (if v2 = 1 then (pi_X4_ahead_23 v1 v2 v3 M_1) else (bd (mi_X4_within v2 3 6 M_1) fun r_16 M_15 => if r_16 = 0 then (pi_X4_ahead_33 v1 v2 v3 M_15) else (pi_X4_ahead_23 v1 v2 v3 M_15)))
set_option maxRecDepth 100000 in
set_option maxHeartbeats 4000000 in
theorem pj_X4_ahead_e {p : Program} {l : Launch} {e : Env} {R : Room} {s : State} {m : MethodId} {args : Array Value} {below : List Frame} {meth : Method} {c : Code} {g : Gh} (X : Cx p l e R s m args below meth c g cX4_ahead 4 (0, 0) RX4 11) (hr : meth.sig.returnType = (some (.int))) (v1 : Int32) (v2 : Int32) (v3 : Int32) (M : Mem) : J p l e R s m args below meth c g 4 (0, 0) (QfI below args s g) (pi_X4_ahead_e v1 v2 v3 M) M 0 [(0, .ref (gA g 49)), (1, .int v1), (2, .int v2), (3, .int v3)] [] := by
  unfold pi_X4_ahead_e
  refine j_aload_n (i := 0) X dX4_ahead_0 rfl rfl ?_
  refine j_iload_n (i := 1) X dX4_ahead_1 rfl rfl ?_
  refine k_cVI (As := [.int v1]) (rest := []) (by decide) (cf_md _) rfl X (ct_X4_isHill l g v1 M) wl_X4_135 rfl rfl (by decide) (Nat.le_of_ble_eq_true rfl) dX4_ahead_2 (fun r_2 M_1 => ?_)
  refine j_if_eq (tgt := 33) X dX4_ahead_5 (by decide) ?_ ?_
  · exact pj_X4_ahead_33 X hr v1 v2 v3 M_1
  · refine j_iload_n (i := 2) X dX4_ahead_8 rfl rfl ?_
    refine j_iconst (v := 1) X dX4_ahead_9 rfl ?_
    refine j_icmp_eq (tgt := 23) X dX4_ahead_10 (by decide) ?_ ?_
    · exact pj_X4_ahead_23 X hr v1 v2 v3 M_1
    · refine j_iload_n (i := 2) X dX4_ahead_13 rfl rfl ?_
      refine j_iconst (v := 3) X dX4_ahead_14 rfl ?_
      refine j_bipush (v := 6) X dX4_ahead_15 rfl ?_
      refine k_cSI (As := [.int v2, .int 3, .int 6]) (rest := []) X (ct_X4_within l g v2 3 6 M_1) wl_X4_85 rfl rfl (by decide) (Nat.le_of_ble_eq_true rfl) dX4_ahead_17 (fun r_16 M_15 => ?_)
      refine j_if_eq (tgt := 33) X dX4_ahead_20 (by decide) ?_ ?_
      · exact pj_X4_ahead_33 X hr v1 v2 v3 M_15
      · exact pj_X4_ahead_23 X hr v1 v2 v3 M_15
def mi_X4_ahead (v1 : Int32) (v2 : Int32) (v3 : Int32) (M : Mem) : Option (Int32 × Mem) := pi_X4_ahead_e v1 v2 v3 M
theorem ct_X4_ahead (l : Launch) (g : Gh) (v1 : Int32) (v2 : Int32) (v3 : Int32) (M : Mem) : CtI l g yX4_ahead cX4_ahead 4 (some (.int)) 11 [.ref (gA g 49), .int v1, .int v2, .int v3] M (mi_X4_ahead v1 v2 v3 M) := ctI_of (own := RX4) (L := [(0, .ref (gA g 49)), (1, .int v1), (2, .int v2), (3, .int v3)]) (by decide +kernel) rfl (Nat.le_of_ble_eq_true rfl) rfl (fun p e s m args below meth c X hr => pj_X4_ahead_e X hr v1 v2 v3  M)

def pi_X4_when_15 (v1 : Int32) (v2 : Int32) (M : Mem) : Option (Int32 × Mem) := bd (mi_X4_finding (-1000001) M) fun r_4 M_3 => some (r_4, M_3)
set_option maxRecDepth 100000 in
set_option maxHeartbeats 4000000 in
theorem pj_X4_when_15 {p : Program} {l : Launch} {e : Env} {R : Room} {s : State} {m : MethodId} {args : Array Value} {below : List Frame} {meth : Method} {c : Code} {g : Gh} (X : Cx p l e R s m args below meth c g cX4_when 4 (0, 0) RX4 10) (hr : meth.sig.returnType = (some (.int))) (v1 : Int32) (v2 : Int32) (M : Mem) : J p l e R s m args below meth c g 4 (0, 0) (QfI below args s g) (pi_X4_when_15 v1 v2 M) M 15 [(0, .ref (gA g 49)), (1, .int v1), (2, .int v2)] [] := by
  unfold pi_X4_when_15
  refine j_aload_n (i := 0) X dX4_when_15 rfl rfl ?_
  refine j_ldc (v := (-1000001)) X wq_345 dX4_when_16 ?_
  refine k_cVI (As := [.int (-1000001)]) (rest := []) (by decide) (cf_md _) rfl X (ct_X4_finding l g (-1000001) M) wl_X4_81 rfl rfl (by decide) (Nat.le_of_ble_eq_true rfl) dX4_when_18 (fun r_4 M_3 => ?_)
  exact j_iret X hr dX4_when_21
def pi_X4_when_77 (v1 : Int32) (v2 : Int32) (t0 : Int32) (M : Mem) : Option (Int32 × Mem) := bd (mi_X4_putBack t0 M) fun r_11 M_10 => bd (mi_X4_orNone r_11 M_10) fun r_13 M_12 => some (r_13, M_12)
set_option maxRecDepth 100000 in
set_option maxHeartbeats 4000000 in
theorem pj_X4_when_77 {p : Program} {l : Launch} {e : Env} {R : Room} {s : State} {m : MethodId} {args : Array Value} {below : List Frame} {meth : Method} {c : Code} {g : Gh} (X : Cx p l e R s m args below meth c g cX4_when 4 (0, 0) RX4 10) (hr : meth.sig.returnType = (some (.int))) (v1 : Int32) (v2 : Int32) (t0 : Int32) (M : Mem) : J p l e R s m args below meth c g 4 (0, 0) (QfI below args s g) (pi_X4_when_77 v1 v2 t0 M) M 77 [(0, .ref (gA g 49)), (1, .int v1), (2, .int v2)] [.int t0, .ref (gA g 49), .ref (gA g 49)] := by
  unfold pi_X4_when_77
  refine k_cVI (As := [.int t0]) (rest := [.ref (gA g 49)]) (by decide) (cf_md _) rfl X (ct_X4_putBack l g t0 M) wl_X4_184 rfl rfl (by decide) (Nat.le_of_ble_eq_true rfl) dX4_when_77 (fun r_11 M_10 => ?_)
  refine k_cVI (As := [.int r_11]) (rest := []) (by decide) (cf_md _) rfl X (ct_X4_orNone l g r_11 M_10) wl_X4_187 rfl rfl (by decide) (Nat.le_of_ble_eq_true rfl) dX4_when_80 (fun r_13 M_12 => ?_)
  exact j_iret X hr dX4_when_83
def pi_X4_when_61 (v1 : Int32) (v2 : Int32) (v3 : Int32) (M : Mem) : Option (Int32 × Mem) := bd (mi_X4_facesOf v1 M) fun r_9 M_8 => if r_9 = v2 then (pi_X4_when_77 v1 v2 v3 M_8) else (pi_X4_when_77 v1 v2 (-1) M_8)
set_option maxRecDepth 100000 in
set_option maxHeartbeats 4000000 in
theorem pj_X4_when_61 {p : Program} {l : Launch} {e : Env} {R : Room} {s : State} {m : MethodId} {args : Array Value} {below : List Frame} {meth : Method} {c : Code} {g : Gh} (X : Cx p l e R s m args below meth c g cX4_when 4 (0, 0) RX4 10) (hr : meth.sig.returnType = (some (.int))) (v1 : Int32) (v2 : Int32) (v3 : Int32) (M : Mem) : J p l e R s m args below meth c g 4 (0, 0) (QfI below args s g) (pi_X4_when_61 v1 v2 v3 M) M 61 [(0, .ref (gA g 49)), (1, .int v1), (2, .int v2), (3, .int v3)] [] := by
  unfold pi_X4_when_61
  refine j_aload_n (i := 0) X dX4_when_61 rfl rfl ?_
  refine j_aload_n (i := 0) X dX4_when_62 rfl rfl ?_
  refine j_aload_n (i := 0) X dX4_when_63 rfl rfl ?_
  refine j_iload_n (i := 1) X dX4_when_64 rfl rfl ?_
  refine k_cVI (As := [.int v1]) (rest := [.ref (gA g 49), .ref (gA g 49)]) (by decide) (cf_md _) rfl X (ct_X4_facesOf l g v1 M) wl_X4_114 rfl rfl (by decide) (Nat.le_of_ble_eq_true rfl) dX4_when_65 (fun r_9 M_8 => ?_)
  refine j_iload_n (i := 2) X dX4_when_68 rfl rfl ?_
  refine j_icmp_ne (tgt := 76) X dX4_when_69 (by decide) ?_ ?_
  · refine j_iload_n (i := 3) X dX4_when_72 rfl rfl ?_
    refine j_goto (tgt := 77) X dX4_when_73 (by decide) ?_
    refine j_pick [0, 1, 2] (Lq := [(0, .ref (gA g 49)), (1, .int v1), (2, .int v2)]) rfl ?_
    exact pj_X4_when_77 X hr v1 v2 v3 M_8
  · refine j_iconst (v := (-1)) X dX4_when_76 rfl ?_
    refine j_pick [0, 1, 2] (Lq := [(0, .ref (gA g 49)), (1, .int v1), (2, .int v2)]) rfl ?_
    exact pj_X4_when_77 X hr v1 v2 (-1) M_8
def pi_X4_when_35 (v1 : Int32) (v2 : Int32) (rc35 : Int32 × Mem → Option (Int32 × Mem)) (v3 : Int32) (M : Mem) : Option (Int32 × Mem) := if 200 ≤ v3 then (pi_X4_when_61 v1 v2 v3 M) else (bd (mi_X4_facesOf v1 M) fun r_15 M_14 => if r_15 = v2 then (pi_X4_when_61 v1 v2 v3 M_14) else (bv (mi_X4_age M_14) fun M_16 => bI (v3 + 1) fun v3_17 => rc35 (v3_17, M_16)))
set_option maxRecDepth 100000 in
set_option maxHeartbeats 4000000 in
theorem pj_X4_when_35 {p : Program} {l : Launch} {e : Env} {R : Room} {s : State} {m : MethodId} {args : Array Value} {below : List Frame} {meth : Method} {c : Code} {g : Gh} (X : Cx p l e R s m args below meth c g cX4_when 4 (0, 0) RX4 10) (hr : meth.sig.returnType = (some (.int))) (v1 : Int32) (v2 : Int32) (rc35 : Int32 × Mem → Option (Int32 × Mem)) (hc35 : ∀ x, J p l e R s m args below meth c g 4 (0, 0) (QfI below args s g) (rc35 x) x.2 35 [(0, .ref (gA g 49)), (1, .int v1), (2, .int v2), (3, .int x.1)] []) (v3 : Int32) (M : Mem) : J p l e R s m args below meth c g 4 (0, 0) (QfI below args s g) (pi_X4_when_35 v1 v2 rc35 v3 M) M 35 [(0, .ref (gA g 49)), (1, .int v1), (2, .int v2), (3, .int v3)] [] := by
  unfold pi_X4_when_35
  refine j_iload_n (i := 3) X dX4_when_35 rfl rfl ?_
  refine j_sipush (v := 200) X dX4_when_36 rfl ?_
  refine j_icmp_ge (tgt := 61) X dX4_when_39 (by decide) ?_ ?_
  · exact pj_X4_when_61 X hr v1 v2 v3 M
  · refine j_aload_n (i := 0) X dX4_when_42 rfl rfl ?_
    refine j_iload_n (i := 1) X dX4_when_43 rfl rfl ?_
    refine k_cVI (As := [.int v1]) (rest := []) (by decide) (cf_md _) rfl X (ct_X4_facesOf l g v1 M) wl_X4_114 rfl rfl (by decide) (Nat.le_of_ble_eq_true rfl) dX4_when_44 (fun r_15 M_14 => ?_)
    refine j_iload_n (i := 2) X dX4_when_47 rfl rfl ?_
    refine j_icmp_eq (tgt := 61) X dX4_when_48 (by decide) ?_ ?_
    · exact pj_X4_when_61 X hr v1 v2 v3 M_14
    · refine j_aload_n (i := 0) X dX4_when_51 rfl rfl ?_
      refine k_cVV (As := []) (rest := []) (by decide) (cf_md _) rfl X (ct_X4_age l g M_14) wl_X4_162 rfl rfl (by decide) (Nat.le_of_ble_eq_true rfl) dX4_when_52 (fun M_16 => ?_)
      refine j_iincB (i := 3) (y := v3 + 1) (Lf := fun v3_17 => [(0, .ref (gA g 49)), (1, .int v1), (2, .int v2), (3, .int v3_17)]) X dX4_when_55 rfl rfl (by decide) (fun _ => rfl) (fun v3_17 => ?_)
      refine j_goto (tgt := 35) X dX4_when_58 (by decide) ?_
      exact hc35 (v3_17, M_16)
def pi_X4_when_e (v1 : Int32) (v2 : Int32) (M : Mem) : Option (Int32 × Mem) := bd (mi_X4_isHill v1 M) fun r_2 M_1 => if r_2 = 0 then (pi_X4_when_15 v1 v2 M_1) else (bd (mi_X4_isValley v2 M_1) fun r_6 M_5 => if r_6 = 0 then (pi_X4_when_15 v1 v2 M_5) else (bv (mi_X4_copyRow 50 62 52 62 M_5) fun M_7 => lp (fun rc35 x => pi_X4_when_35 v1 v2 rc35 x.1 x.2) FU (0, M_7)))
set_option maxRecDepth 100000 in
set_option maxHeartbeats 4000000 in
theorem pj_X4_when_e {p : Program} {l : Launch} {e : Env} {R : Room} {s : State} {m : MethodId} {args : Array Value} {below : List Frame} {meth : Method} {c : Code} {g : Gh} (X : Cx p l e R s m args below meth c g cX4_when 4 (0, 0) RX4 10) (hr : meth.sig.returnType = (some (.int))) (v1 : Int32) (v2 : Int32) (M : Mem) : J p l e R s m args below meth c g 4 (0, 0) (QfI below args s g) (pi_X4_when_e v1 v2 M) M 0 [(0, .ref (gA g 49)), (1, .int v1), (2, .int v2)] [] := by
  unfold pi_X4_when_e
  refine j_aload_n (i := 0) X dX4_when_0 rfl rfl ?_
  refine j_iload_n (i := 1) X dX4_when_1 rfl rfl ?_
  refine k_cVI (As := [.int v1]) (rest := []) (by decide) (cf_md _) rfl X (ct_X4_isHill l g v1 M) wl_X4_135 rfl rfl (by decide) (Nat.le_of_ble_eq_true rfl) dX4_when_2 (fun r_2 M_1 => ?_)
  refine j_if_eq (tgt := 15) X dX4_when_5 (by decide) ?_ ?_
  · exact pj_X4_when_15 X hr v1 v2 M_1
  · refine j_iload_n (i := 2) X dX4_when_8 rfl rfl ?_
    refine k_cSI (As := [.int v2]) (rest := []) X (ct_X4_isValley l g v2 M_1) wl_X4_100 rfl rfl (by decide) (Nat.le_of_ble_eq_true rfl) dX4_when_9 (fun r_6 M_5 => ?_)
    refine j_if_ne (tgt := 22) X dX4_when_12 (by decide) ?_ ?_
    · exact pj_X4_when_15 X hr v1 v2 M_5
    · refine j_aload_n (i := 0) X dX4_when_22 rfl rfl ?_
      refine j_get_md 0 X (by decide) wq_346 rfl dX4_when_23 ?_
      refine j_aload_n (i := 0) X dX4_when_26 rfl rfl ?_
      refine j_get_md 2 X (by decide) wq_347 rfl dX4_when_27 ?_
      refine k_cSV (As := [.ref (gA g 50), .ref (gA g 52)]) (rest := []) X (ct_X4_copyRow l g 50 62 52 62 ia_50 ia_52 M_5) wl_X4_76 rfl rfl (by decide) (Nat.le_of_ble_eq_true rfl) dX4_when_30 (fun M_7 => ?_)
      refine j_iconst (v := 0) X dX4_when_33 rfl ?_
      refine j_istore_n (i := 3) (Lq := [(0, .ref (gA g 49)), (1, .int v1), (2, .int v2), (3, .int 0)]) X dX4_when_34 rfl (by decide) rfl ?_
      exact j_lp (Lf := fun x => [(0, .ref (gA g 49)), (1, .int v1), (2, .int v2), (3, .int x.1)]) (Mf := fun x => x.2) (fun rc35 hc35 x => pj_X4_when_35 X hr v1 v2 rc35 hc35 x.1 x.2) FU (0, M_7)
def mi_X4_when (v1 : Int32) (v2 : Int32) (M : Mem) : Option (Int32 × Mem) := pi_X4_when_e v1 v2 M
theorem ct_X4_when (l : Launch) (g : Gh) (v1 : Int32) (v2 : Int32) (M : Mem) : CtI l g yX4_when cX4_when 4 (some (.int)) 10 [.ref (gA g 49), .int v1, .int v2] M (mi_X4_when v1 v2 M) := ctI_of (own := RX4) (L := [(0, .ref (gA g 49)), (1, .int v1), (2, .int v2)]) (by decide +kernel) rfl (Nat.le_of_ble_eq_true rfl) rfl (fun p e s m args below meth c X hr => pj_X4_when_e X hr v1 v2  M)

def pi_X4_areTwo_e (v1 : Int32) (v2 : Int32) (M : Mem) : Option (Int32 × Mem) := bd (mi_X4_isHill v1 M) fun r_2 M_1 => if r_2 = 0 then (gd (isB 0) (some (0, M_1))) else (bd (mi_X4_isHill v2 M_1) fun r_4 M_3 => if r_4 = 0 then (gd (isB 0) (some (0, M_3))) else (if v1 = v2 then (gd (isB 0) (some (0, M_3))) else (gd (isB 1) (some (1, M_3)))))
set_option maxRecDepth 100000 in
set_option maxHeartbeats 4000000 in
theorem pj_X4_areTwo_e {p : Program} {l : Launch} {e : Env} {R : Room} {s : State} {m : MethodId} {args : Array Value} {below : List Frame} {meth : Method} {c : Code} {g : Gh} (X : Cx p l e R s m args below meth c g cX4_areTwo 3 (0, 0) RX4 2) (hr : meth.sig.returnType = (some (.boolean))) (v1 : Int32) (v2 : Int32) (M : Mem) : J p l e R s m args below meth c g 3 (0, 0) (QfI below args s g) (pi_X4_areTwo_e v1 v2 M) M 0 [(0, .ref (gA g 49)), (1, .int v1), (2, .int v2)] [] := by
  unfold pi_X4_areTwo_e
  refine j_aload_n (i := 0) X dX4_areTwo_0 rfl rfl ?_
  refine j_iload_n (i := 1) X dX4_areTwo_1 rfl rfl ?_
  refine k_cVI (As := [.int v1]) (rest := []) (by decide) (cf_md _) rfl X (ct_X4_isHill l g v1 M) wl_X4_135 rfl rfl (by decide) (Nat.le_of_ble_eq_true rfl) dX4_areTwo_2 (fun r_2 M_1 => ?_)
  refine j_if_eq (tgt := 25) X dX4_areTwo_5 (by decide) ?_ ?_
  · refine j_iconst (v := 0) X dX4_areTwo_25 rfl ?_
    exact j_zret X hr dX4_areTwo_26
  · refine j_aload_n (i := 0) X dX4_areTwo_8 rfl rfl ?_
    refine j_iload_n (i := 2) X dX4_areTwo_9 rfl rfl ?_
    refine k_cVI (As := [.int v2]) (rest := []) (by decide) (cf_md _) rfl X (ct_X4_isHill l g v2 M_1) wl_X4_135 rfl rfl (by decide) (Nat.le_of_ble_eq_true rfl) dX4_areTwo_10 (fun r_4 M_3 => ?_)
    refine j_if_eq (tgt := 25) X dX4_areTwo_13 (by decide) ?_ ?_
    · refine j_iconst (v := 0) X dX4_areTwo_25 rfl ?_
      exact j_zret X hr dX4_areTwo_26
    · refine j_iload_n (i := 1) X dX4_areTwo_16 rfl rfl ?_
      refine j_iload_n (i := 2) X dX4_areTwo_17 rfl rfl ?_
      refine j_icmp_eq (tgt := 25) X dX4_areTwo_18 (by decide) ?_ ?_
      · refine j_iconst (v := 0) X dX4_areTwo_25 rfl ?_
        exact j_zret X hr dX4_areTwo_26
      · refine j_iconst (v := 1) X dX4_areTwo_21 rfl ?_
        refine j_goto (tgt := 26) X dX4_areTwo_22 (by decide) ?_
        exact j_zret X hr dX4_areTwo_26
def mi_X4_areTwo (v1 : Int32) (v2 : Int32) (M : Mem) : Option (Int32 × Mem) := pi_X4_areTwo_e v1 v2 M
theorem ct_X4_areTwo (l : Launch) (g : Gh) (v1 : Int32) (v2 : Int32) (M : Mem) : CtI l g yX4_areTwo cX4_areTwo 3 (some (.boolean)) 2 [.ref (gA g 49), .int v1, .int v2] M (mi_X4_areTwo v1 v2 M) := ctI_of (own := RX4) (L := [(0, .ref (gA g 49)), (1, .int v1), (2, .int v2)]) (by decide +kernel) rfl (Nat.le_of_ble_eq_true rfl) rfl (fun p e s m args below meth c X hr => pj_X4_areTwo_e X hr v1 v2  M)

def pi_X4_doMeet_e (v1 : Int32) (v2 : Int32) (M : Mem) : Option (Int32 × Mem) := bd (mi_X4_facesOf v1 M) fun r_2 M_1 => bd (mi_X4_hillIs v2 1 M_1) fun r_4 M_3 => if r_2 = r_4 then (bd (mi_X4_facesOf v2 M_3) fun r_6 M_5 => bd (mi_X4_hillIs v1 1 M_5) fun r_8 M_7 => if r_6 = r_8 then (gd (isB 1) (some (1, M_7))) else (gd (isB 0) (some (0, M_7)))) else (gd (isB 0) (some (0, M_3)))
set_option maxRecDepth 100000 in
set_option maxHeartbeats 4000000 in
theorem pj_X4_doMeet_e {p : Program} {l : Launch} {e : Env} {R : Room} {s : State} {m : MethodId} {args : Array Value} {below : List Frame} {meth : Method} {c : Code} {g : Gh} (X : Cx p l e R s m args below meth c g cX4_doMeet 3 (0, 0) RX4 3) (hr : meth.sig.returnType = (some (.boolean))) (v1 : Int32) (v2 : Int32) (M : Mem) : J p l e R s m args below meth c g 3 (0, 0) (QfI below args s g) (pi_X4_doMeet_e v1 v2 M) M 0 [(0, .ref (gA g 49)), (1, .int v1), (2, .int v2)] [] := by
  unfold pi_X4_doMeet_e
  refine j_aload_n (i := 0) X dX4_doMeet_0 rfl rfl ?_
  refine j_iload_n (i := 1) X dX4_doMeet_1 rfl rfl ?_
  refine k_cVI (As := [.int v1]) (rest := []) (by decide) (cf_md _) rfl X (ct_X4_facesOf l g v1 M) wl_X4_114 rfl rfl (by decide) (Nat.le_of_ble_eq_true rfl) dX4_doMeet_2 (fun r_2 M_1 => ?_)
  refine j_aload_n (i := 0) X dX4_doMeet_5 rfl rfl ?_
  refine j_iload_n (i := 2) X dX4_doMeet_6 rfl rfl ?_
  refine j_iconst (v := 1) X dX4_doMeet_7 rfl ?_
  refine k_cVI (As := [.int v2, .int 1]) (rest := [.int r_2]) (by decide) (cf_md _) rfl X (ct_X4_hillIs l g v2 1 M_1) wl_X4_108 rfl rfl (by decide) (Nat.le_of_ble_eq_true rfl) dX4_doMeet_8 (fun r_4 M_3 => ?_)
  refine j_icmp_ne (tgt := 32) X dX4_doMeet_11 (by decide) ?_ ?_
  · refine j_aload_n (i := 0) X dX4_doMeet_14 rfl rfl ?_
    refine j_iload_n (i := 2) X dX4_doMeet_15 rfl rfl ?_
    refine k_cVI (As := [.int v2]) (rest := []) (by decide) (cf_md _) rfl X (ct_X4_facesOf l g v2 M_3) wl_X4_114 rfl rfl (by decide) (Nat.le_of_ble_eq_true rfl) dX4_doMeet_16 (fun r_6 M_5 => ?_)
    refine j_aload_n (i := 0) X dX4_doMeet_19 rfl rfl ?_
    refine j_iload_n (i := 1) X dX4_doMeet_20 rfl rfl ?_
    refine j_iconst (v := 1) X dX4_doMeet_21 rfl ?_
    refine k_cVI (As := [.int v1, .int 1]) (rest := [.int r_6]) (by decide) (cf_md _) rfl X (ct_X4_hillIs l g v1 1 M_5) wl_X4_108 rfl rfl (by decide) (Nat.le_of_ble_eq_true rfl) dX4_doMeet_22 (fun r_8 M_7 => ?_)
    refine j_icmp_ne (tgt := 32) X dX4_doMeet_25 (by decide) ?_ ?_
    · refine j_iconst (v := 1) X dX4_doMeet_28 rfl ?_
      refine j_goto (tgt := 33) X dX4_doMeet_29 (by decide) ?_
      exact j_zret X hr dX4_doMeet_33
    · refine j_iconst (v := 0) X dX4_doMeet_32 rfl ?_
      exact j_zret X hr dX4_doMeet_33
  · refine j_iconst (v := 0) X dX4_doMeet_32 rfl ?_
    exact j_zret X hr dX4_doMeet_33
def mi_X4_doMeet (v1 : Int32) (v2 : Int32) (M : Mem) : Option (Int32 × Mem) := pi_X4_doMeet_e v1 v2 M
theorem ct_X4_doMeet (l : Launch) (g : Gh) (v1 : Int32) (v2 : Int32) (M : Mem) : CtI l g yX4_doMeet cX4_doMeet 3 (some (.boolean)) 3 [.ref (gA g 49), .int v1, .int v2] M (mi_X4_doMeet v1 v2 M) := ctI_of (own := RX4) (L := [(0, .ref (gA g 49)), (1, .int v1), (2, .int v2)]) (by decide +kernel) rfl (Nat.le_of_ble_eq_true rfl) rfl (fun p e s m args below meth c X hr => pj_X4_doMeet_e X hr v1 v2  M)

def pi_X4_meetIn_52 (v1 : Int32) (v2 : Int32) (v3 : Int32) (t0 : Int32) (M : Mem) : Option (Int32 × Mem) := bd (mi_X4_putBack t0 M) fun r_3 M_2 => some (r_3, M_2)
set_option maxRecDepth 100000 in
set_option maxHeartbeats 4000000 in
theorem pj_X4_meetIn_52 {p : Program} {l : Launch} {e : Env} {R : Room} {s : State} {m : MethodId} {args : Array Value} {below : List Frame} {meth : Method} {c : Code} {g : Gh} (X : Cx p l e R s m args below meth c g cX4_meetIn 5 (0, 0) RX4 10) (hr : meth.sig.returnType = (some (.int))) (v1 : Int32) (v2 : Int32) (v3 : Int32) (t0 : Int32) (M : Mem) : J p l e R s m args below meth c g 5 (0, 0) (QfI below args s g) (pi_X4_meetIn_52 v1 v2 v3 t0 M) M 52 [(0, .ref (gA g 49)), (1, .int v1), (2, .int v2), (3, .int v3)] [.int t0, .ref (gA g 49)] := by
  unfold pi_X4_meetIn_52
  refine k_cVI (As := [.int t0]) (rest := []) (by decide) (cf_md _) rfl X (ct_X4_putBack l g t0 M) wl_X4_184 rfl rfl (by decide) (Nat.le_of_ble_eq_true rfl) dX4_meetIn_52 (fun r_3 M_2 => ?_)
  exact j_iret X hr dX4_meetIn_55
def pi_X4_meetIn_39 (v1 : Int32) (v2 : Int32) (v3 : Int32) (v4 : Int32) (M : Mem) : Option (Int32 × Mem) := if v3 ≤ v4 then (pi_X4_meetIn_52 v1 v2 v3 (-1) M) else (pi_X4_meetIn_52 v1 v2 v3 v4 M)
set_option maxRecDepth 100000 in
set_option maxHeartbeats 4000000 in
theorem pj_X4_meetIn_39 {p : Program} {l : Launch} {e : Env} {R : Room} {s : State} {m : MethodId} {args : Array Value} {below : List Frame} {meth : Method} {c : Code} {g : Gh} (X : Cx p l e R s m args below meth c g cX4_meetIn 5 (0, 0) RX4 10) (hr : meth.sig.returnType = (some (.int))) (v1 : Int32) (v2 : Int32) (v3 : Int32) (v4 : Int32) (M : Mem) : J p l e R s m args below meth c g 5 (0, 0) (QfI below args s g) (pi_X4_meetIn_39 v1 v2 v3 v4 M) M 39 [(0, .ref (gA g 49)), (1, .int v1), (2, .int v2), (3, .int v3), (4, .int v4)] [] := by
  unfold pi_X4_meetIn_39
  refine j_aload_n (i := 0) X dX4_meetIn_39 rfl rfl ?_
  refine j_iload (i := 4) X dX4_meetIn_40 rfl ?_
  refine j_iload_n (i := 3) X dX4_meetIn_42 rfl rfl ?_
  refine j_icmp_ge (tgt := 51) X dX4_meetIn_43 (by decide) ?_ ?_
  · refine j_iconst (v := (-1)) X dX4_meetIn_51 rfl ?_
    refine j_pick [0, 1, 2, 3] (Lq := [(0, .ref (gA g 49)), (1, .int v1), (2, .int v2), (3, .int v3)]) rfl ?_
    exact pj_X4_meetIn_52 X hr v1 v2 v3 (-1) M
  · refine j_iload (i := 4) X dX4_meetIn_46 rfl ?_
    refine j_goto (tgt := 52) X dX4_meetIn_48 (by decide) ?_
    refine j_pick [0, 1, 2, 3] (Lq := [(0, .ref (gA g 49)), (1, .int v1), (2, .int v2), (3, .int v3)]) rfl ?_
    exact pj_X4_meetIn_52 X hr v1 v2 v3 v4 M
def pi_X4_meetIn_14 (v1 : Int32) (v2 : Int32) (v3 : Int32) (rc14 : Int32 × Mem → Option (Int32 × Mem)) (v4 : Int32) (M : Mem) : Option (Int32 × Mem) := if v3 ≤ v4 then (pi_X4_meetIn_39 v1 v2 v3 v4 M) else (bd (mi_X4_doMeet v1 v2 M) fun r_5 M_4 => if r_5 = 0 then (bv (mi_X4_age M_4) fun M_6 => bI (v4 + 1) fun v4_7 => rc14 (v4_7, M_6)) else (pi_X4_meetIn_39 v1 v2 v3 v4 M_4))
set_option maxRecDepth 100000 in
set_option maxHeartbeats 4000000 in
theorem pj_X4_meetIn_14 {p : Program} {l : Launch} {e : Env} {R : Room} {s : State} {m : MethodId} {args : Array Value} {below : List Frame} {meth : Method} {c : Code} {g : Gh} (X : Cx p l e R s m args below meth c g cX4_meetIn 5 (0, 0) RX4 10) (hr : meth.sig.returnType = (some (.int))) (v1 : Int32) (v2 : Int32) (v3 : Int32) (rc14 : Int32 × Mem → Option (Int32 × Mem)) (hc14 : ∀ x, J p l e R s m args below meth c g 5 (0, 0) (QfI below args s g) (rc14 x) x.2 14 [(0, .ref (gA g 49)), (1, .int v1), (2, .int v2), (3, .int v3), (4, .int x.1)] []) (v4 : Int32) (M : Mem) : J p l e R s m args below meth c g 5 (0, 0) (QfI below args s g) (pi_X4_meetIn_14 v1 v2 v3 rc14 v4 M) M 14 [(0, .ref (gA g 49)), (1, .int v1), (2, .int v2), (3, .int v3), (4, .int v4)] [] := by
  unfold pi_X4_meetIn_14
  refine j_iload (i := 4) X dX4_meetIn_14 rfl ?_
  refine j_iload_n (i := 3) X dX4_meetIn_16 rfl rfl ?_
  refine j_icmp_ge (tgt := 39) X dX4_meetIn_17 (by decide) ?_ ?_
  · exact pj_X4_meetIn_39 X hr v1 v2 v3 v4 M
  · refine j_aload_n (i := 0) X dX4_meetIn_20 rfl rfl ?_
    refine j_iload_n (i := 1) X dX4_meetIn_21 rfl rfl ?_
    refine j_iload_n (i := 2) X dX4_meetIn_22 rfl rfl ?_
    refine k_cVI (As := [.int v1, .int v2]) (rest := []) (by decide) (cf_md _) rfl X (ct_X4_doMeet l g v1 v2 M) wl_X4_190 rfl rfl (by decide) (Nat.le_of_ble_eq_true rfl) dX4_meetIn_23 (fun r_5 M_4 => ?_)
    refine j_if_ne (tgt := 39) X dX4_meetIn_26 (by decide) ?_ ?_
    · refine j_aload_n (i := 0) X dX4_meetIn_29 rfl rfl ?_
      refine k_cVV (As := []) (rest := []) (by decide) (cf_md _) rfl X (ct_X4_age l g M_4) wl_X4_162 rfl rfl (by decide) (Nat.le_of_ble_eq_true rfl) dX4_meetIn_30 (fun M_6 => ?_)
      refine j_iincB (i := 4) (y := v4 + 1) (Lf := fun v4_7 => [(0, .ref (gA g 49)), (1, .int v1), (2, .int v2), (3, .int v3), (4, .int v4_7)]) X dX4_meetIn_33 rfl rfl (by decide) (fun _ => rfl) (fun v4_7 => ?_)
      refine j_goto (tgt := 14) X dX4_meetIn_36 (by decide) ?_
      exact hc14 (v4_7, M_6)
    · exact pj_X4_meetIn_39 X hr v1 v2 v3 v4 M_4
def pi_X4_meetIn_e (v1 : Int32) (v2 : Int32) (v3 : Int32) (M : Mem) : Option (Int32 × Mem) := bv (mi_X4_copyRow 50 62 52 62 M) fun M_1 => lp (fun rc14 x => pi_X4_meetIn_14 v1 v2 v3 rc14 x.1 x.2) FU (0, M_1)
set_option maxRecDepth 100000 in
set_option maxHeartbeats 4000000 in
theorem pj_X4_meetIn_e {p : Program} {l : Launch} {e : Env} {R : Room} {s : State} {m : MethodId} {args : Array Value} {below : List Frame} {meth : Method} {c : Code} {g : Gh} (X : Cx p l e R s m args below meth c g cX4_meetIn 5 (0, 0) RX4 10) (hr : meth.sig.returnType = (some (.int))) (v1 : Int32) (v2 : Int32) (v3 : Int32) (M : Mem) : J p l e R s m args below meth c g 5 (0, 0) (QfI below args s g) (pi_X4_meetIn_e v1 v2 v3 M) M 0 [(0, .ref (gA g 49)), (1, .int v1), (2, .int v2), (3, .int v3)] [] := by
  unfold pi_X4_meetIn_e
  refine j_aload_n (i := 0) X dX4_meetIn_0 rfl rfl ?_
  refine j_get_md 0 X (by decide) wq_346 rfl dX4_meetIn_1 ?_
  refine j_aload_n (i := 0) X dX4_meetIn_4 rfl rfl ?_
  refine j_get_md 2 X (by decide) wq_347 rfl dX4_meetIn_5 ?_
  refine k_cSV (As := [.ref (gA g 50), .ref (gA g 52)]) (rest := []) X (ct_X4_copyRow l g 50 62 52 62 ia_50 ia_52 M) wl_X4_76 rfl rfl (by decide) (Nat.le_of_ble_eq_true rfl) dX4_meetIn_8 (fun M_1 => ?_)
  refine j_iconst (v := 0) X dX4_meetIn_11 rfl ?_
  refine j_istore (i := 4) (Lq := [(0, .ref (gA g 49)), (1, .int v1), (2, .int v2), (3, .int v3), (4, .int 0)]) X dX4_meetIn_12 (by decide) rfl ?_
  exact j_lp (Lf := fun x => [(0, .ref (gA g 49)), (1, .int v1), (2, .int v2), (3, .int v3), (4, .int x.1)]) (Mf := fun x => x.2) (fun rc14 hc14 x => pj_X4_meetIn_14 X hr v1 v2 v3 rc14 hc14 x.1 x.2) FU (0, M_1)
def mi_X4_meetIn (v1 : Int32) (v2 : Int32) (v3 : Int32) (M : Mem) : Option (Int32 × Mem) := pi_X4_meetIn_e v1 v2 v3 M
theorem ct_X4_meetIn (l : Launch) (g : Gh) (v1 : Int32) (v2 : Int32) (v3 : Int32) (M : Mem) : CtI l g yX4_meetIn cX4_meetIn 5 (some (.int)) 10 [.ref (gA g 49), .int v1, .int v2, .int v3] M (mi_X4_meetIn v1 v2 v3 M) := ctI_of (own := RX4) (L := [(0, .ref (gA g 49)), (1, .int v1), (2, .int v2), (3, .int v3)]) (by decide +kernel) rfl (Nat.le_of_ble_eq_true rfl) rfl (fun p e s m args below meth c X hr => pj_X4_meetIn_e X hr v1 v2 v3  M)

def pi_X4_meet_e (v1 : Int32) (v2 : Int32) (M : Mem) : Option (Int32 × Mem) := bd (mi_X4_areTwo v1 v2 M) fun r_2 M_1 => if r_2 = 0 then (bd (mi_X4_finding (-1000001) M_1) fun r_4 M_3 => some (r_4, M_3)) else (bd (mi_X4_meetIn v1 v2 201 M_1) fun r_6 M_5 => bd (mi_X4_orNone r_6 M_5) fun r_8 M_7 => some (r_8, M_7))
set_option maxRecDepth 100000 in
set_option maxHeartbeats 4000000 in
theorem pj_X4_meet_e {p : Program} {l : Launch} {e : Env} {R : Room} {s : State} {m : MethodId} {args : Array Value} {below : List Frame} {meth : Method} {c : Code} {g : Gh} (X : Cx p l e R s m args below meth c g cX4_meet 3 (0, 0) RX4 11) (hr : meth.sig.returnType = (some (.int))) (v1 : Int32) (v2 : Int32) (M : Mem) : J p l e R s m args below meth c g 3 (0, 0) (QfI below args s g) (pi_X4_meet_e v1 v2 M) M 0 [(0, .ref (gA g 49)), (1, .int v1), (2, .int v2)] [] := by
  unfold pi_X4_meet_e
  refine j_aload_n (i := 0) X dX4_meet_0 rfl rfl ?_
  refine j_iload_n (i := 1) X dX4_meet_1 rfl rfl ?_
  refine j_iload_n (i := 2) X dX4_meet_2 rfl rfl ?_
  refine k_cVI (As := [.int v1, .int v2]) (rest := []) (by decide) (cf_md _) rfl X (ct_X4_areTwo l g v1 v2 M) wl_X4_193 rfl rfl (by decide) (Nat.le_of_ble_eq_true rfl) dX4_meet_3 (fun r_2 M_1 => ?_)
  refine j_if_eq (tgt := 25) X dX4_meet_6 (by decide) ?_ ?_
  · refine j_aload_n (i := 0) X dX4_meet_25 rfl rfl ?_
    refine j_ldc (v := (-1000001)) X wq_345 dX4_meet_26 ?_
    refine k_cVI (As := [.int (-1000001)]) (rest := []) (by decide) (cf_md _) rfl X (ct_X4_finding l g (-1000001) M_1) wl_X4_81 rfl rfl (by decide) (Nat.le_of_ble_eq_true rfl) dX4_meet_28 (fun r_4 M_3 => ?_)
    exact j_iret X hr dX4_meet_31
  · refine j_aload_n (i := 0) X dX4_meet_9 rfl rfl ?_
    refine j_aload_n (i := 0) X dX4_meet_10 rfl rfl ?_
    refine j_iload_n (i := 1) X dX4_meet_11 rfl rfl ?_
    refine j_iload_n (i := 2) X dX4_meet_12 rfl rfl ?_
    refine j_sipush (v := 201) X dX4_meet_13 rfl ?_
    refine k_cVI (As := [.int v1, .int v2, .int 201]) (rest := [.ref (gA g 49)]) (by decide) (cf_md _) rfl X (ct_X4_meetIn l g v1 v2 201 M_1) wl_X4_196 rfl rfl (by decide) (Nat.le_of_ble_eq_true rfl) dX4_meet_16 (fun r_6 M_5 => ?_)
    refine k_cVI (As := [.int r_6]) (rest := []) (by decide) (cf_md _) rfl X (ct_X4_orNone l g r_6 M_5) wl_X4_187 rfl rfl (by decide) (Nat.le_of_ble_eq_true rfl) dX4_meet_19 (fun r_8 M_7 => ?_)
    refine j_goto (tgt := 31) X dX4_meet_22 (by decide) ?_
    exact j_iret X hr dX4_meet_31
def mi_X4_meet (v1 : Int32) (v2 : Int32) (M : Mem) : Option (Int32 × Mem) := pi_X4_meet_e v1 v2 M
theorem ct_X4_meet (l : Launch) (g : Gh) (v1 : Int32) (v2 : Int32) (M : Mem) : CtI l g yX4_meet cX4_meet 3 (some (.int)) 11 [.ref (gA g 49), .int v1, .int v2] M (mi_X4_meet v1 v2 M) := ctI_of (own := RX4) (L := [(0, .ref (gA g 49)), (1, .int v1), (2, .int v2)]) (by decide +kernel) rfl (Nat.le_of_ble_eq_true rfl) rfl (fun p e s m args below meth c X hr => pj_X4_meet_e X hr v1 v2  M)
