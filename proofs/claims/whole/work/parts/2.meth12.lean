def pi_X4_facing_4 (v1 : Int32) (rc4 : Int32 × Int32 × Mem → Option (Int32 × Mem)) (v2 : Int32) (v3 : Int32) (M : Mem) : Option (Int32 × Mem) := gd (inb 1 62) <| if (M 50 (1 : Int32).toNatClampNeg) ≤ v3 then (some (v2, M)) else (bd (mi_X4_facesOf v3 M) fun r_3 M_2 => if r_3 = v1 then (bI (v2 ||| (1 <<< (v3 &&& 31))) fun v2_4 => bI (v3 + 1) fun v3_5 => rc4 (v2_4, v3_5, M_2)) else (bI (v2 ||| 0) fun v2_6 => bI (v3 + 1) fun v3_7 => rc4 (v2_6, v3_7, M_2)))
set_option maxRecDepth 100000 in
set_option maxHeartbeats 4000000 in
theorem pj_X4_facing_4 {p : Program} {l : Launch} {e : Env} {R : Room} {s : State} {m : MethodId} {args : Array Value} {below : List Frame} {meth : Method} {c : Code} {g : Gh} (X : Cx p l e R s m args below meth c g cX4_facing 4 (0, 0) RX4 3) (hr : meth.sig.returnType = (some (.int))) (v1 : Int32) (rc4 : Int32 × Int32 × Mem → Option (Int32 × Mem)) (hc4 : ∀ x, J p l e R s m args below meth c g 4 (0, 0) (QfI below args s g) (rc4 x) x.2.2 4 [(0, .ref (gA g 49)), (1, .int v1), (2, .int x.1), (3, .int x.2.1)] []) (v2 : Int32) (v3 : Int32) (M : Mem) : J p l e R s m args below meth c g 4 (0, 0) (QfI below args s g) (pi_X4_facing_4 v1 rc4 v2 v3 M) M 4 [(0, .ref (gA g 49)), (1, .int v1), (2, .int v2), (3, .int v3)] [] := by
  unfold pi_X4_facing_4
  refine j_iload_n (i := 3) X dX4_facing_4 rfl rfl ?_
  refine j_aload_n (i := 0) X dX4_facing_5 rfl rfl ?_
  refine j_get_md 0 X (by decide) wq_346 rfl dX4_facing_6 ?_
  refine j_iconst (v := 1) X dX4_facing_9 rfl ?_
  refine j_iald X ia_50 dX4_facing_10 (fun h_1 => ?_)
  refine j_icmp_ge (tgt := 39) X dX4_facing_11 (by decide) ?_ ?_
  · refine j_iload_n (i := 2) X dX4_facing_39 rfl rfl ?_
    exact j_iret X hr dX4_facing_40
  · refine j_iload_n (i := 2) X dX4_facing_14 rfl rfl ?_
    refine j_aload_n (i := 0) X dX4_facing_15 rfl rfl ?_
    refine j_iload_n (i := 3) X dX4_facing_16 rfl rfl ?_
    refine k_cVI (As := [.int v3]) (rest := [.int v2]) (by decide) (cf_md _) rfl X (ct_X4_facesOf l g v3 M) wl_X4_114 rfl rfl (by decide) (Nat.le_of_ble_eq_true rfl) dX4_facing_17 (fun r_3 M_2 => ?_)
    refine j_iload_n (i := 1) X dX4_facing_20 rfl rfl ?_
    refine j_icmp_ne (tgt := 30) X dX4_facing_21 (by decide) ?_ ?_
    · refine j_iconst (v := 1) X dX4_facing_24 rfl ?_
      refine j_iload_n (i := 3) X dX4_facing_25 rfl rfl ?_
      refine j_ishl X dX4_facing_26 ?_
      refine j_goto (tgt := 31) X dX4_facing_27 (by decide) ?_
      refine j_ior X dX4_facing_31 ?_
      refine j_bI (fun v2_4 => ?_)
      refine j_istore_n (i := 2) (Lq := [(0, .ref (gA g 49)), (1, .int v1), (2, .int v2_4), (3, .int v3)]) X dX4_facing_32 rfl (by decide) rfl ?_
      refine j_iincB (i := 3) (y := v3 + 1) (Lf := fun v3_5 => [(0, .ref (gA g 49)), (1, .int v1), (2, .int v2_4), (3, .int v3_5)]) X dX4_facing_33 rfl rfl (by decide) (fun _ => rfl) (fun v3_5 => ?_)
      refine j_goto (tgt := 4) X dX4_facing_36 (by decide) ?_
      exact hc4 (v2_4, v3_5, M_2)
    · refine j_iconst (v := 0) X dX4_facing_30 rfl ?_
      refine j_ior X dX4_facing_31 ?_
      refine j_bI (fun v2_6 => ?_)
      refine j_istore_n (i := 2) (Lq := [(0, .ref (gA g 49)), (1, .int v1), (2, .int v2_6), (3, .int v3)]) X dX4_facing_32 rfl (by decide) rfl ?_
      refine j_iincB (i := 3) (y := v3 + 1) (Lf := fun v3_7 => [(0, .ref (gA g 49)), (1, .int v1), (2, .int v2_6), (3, .int v3_7)]) X dX4_facing_33 rfl rfl (by decide) (fun _ => rfl) (fun v3_7 => ?_)
      refine j_goto (tgt := 4) X dX4_facing_36 (by decide) ?_
      exact hc4 (v2_6, v3_7, M_2)
def pi_X4_facing_e (v1 : Int32) (M : Mem) : Option (Int32 × Mem) := lp (fun rc4 x => pi_X4_facing_4 v1 rc4 x.1 x.2.1 x.2.2) FU (0, 0, M)
set_option maxRecDepth 100000 in
set_option maxHeartbeats 4000000 in
theorem pj_X4_facing_e {p : Program} {l : Launch} {e : Env} {R : Room} {s : State} {m : MethodId} {args : Array Value} {below : List Frame} {meth : Method} {c : Code} {g : Gh} (X : Cx p l e R s m args below meth c g cX4_facing 4 (0, 0) RX4 3) (hr : meth.sig.returnType = (some (.int))) (v1 : Int32) (M : Mem) : J p l e R s m args below meth c g 4 (0, 0) (QfI below args s g) (pi_X4_facing_e v1 M) M 0 [(0, .ref (gA g 49)), (1, .int v1)] [] := by
  unfold pi_X4_facing_e
  refine j_iconst (v := 0) X dX4_facing_0 rfl ?_
  refine j_istore_n (i := 2) (Lq := [(0, .ref (gA g 49)), (1, .int v1), (2, .int 0)]) X dX4_facing_1 rfl (by decide) rfl ?_
  refine j_iconst (v := 0) X dX4_facing_2 rfl ?_
  refine j_istore_n (i := 3) (Lq := [(0, .ref (gA g 49)), (1, .int v1), (2, .int 0), (3, .int 0)]) X dX4_facing_3 rfl (by decide) rfl ?_
  exact j_lp (Lf := fun x => [(0, .ref (gA g 49)), (1, .int v1), (2, .int x.1), (3, .int x.2.1)]) (Mf := fun x => x.2.2) (fun rc4 hc4 x => pj_X4_facing_4 X hr v1 rc4 hc4 x.1 x.2.1 x.2.2) FU (0, 0, M)
def mi_X4_facing (v1 : Int32) (M : Mem) : Option (Int32 × Mem) := pi_X4_facing_e v1 M
theorem ct_X4_facing (l : Launch) (g : Gh) (v1 : Int32) (M : Mem) : CtI l g yX4_facing cX4_facing 4 (some (.int)) 3 [.ref (gA g 49), .int v1] M (mi_X4_facing v1 M) := ctI_of (own := RX4) (L := [(0, .ref (gA g 49)), (1, .int v1)]) (by decide +kernel) rfl (Nat.le_of_ble_eq_true rfl) rfl (fun p e s m args below meth c X hr => pj_X4_facing_e X hr v1  M)

def pi_X4_meeting_4 (v1 : Int32) (rc4 : Int32 × Int32 × Mem → Option (Int32 × Mem)) (v2 : Int32) (v3 : Int32) (M : Mem) : Option (Int32 × Mem) := gd (inb 1 62) <| if (M 50 (1 : Int32).toNatClampNeg) ≤ v3 then (some (v2, M)) else (if v3 = v1 then (bI (v2 ||| 0) fun v2_2 => bI (v3 + 1) fun v3_3 => rc4 (v2_2, v3_3, M)) else (bd (mi_X4_facesOf v1 M) fun r_5 M_4 => bd (mi_X4_hillIs v3 1 M_4) fun r_7 M_6 => if r_5 = r_7 then (bd (mi_X4_facesOf v3 M_6) fun r_9 M_8 => bd (mi_X4_hillIs v1 1 M_8) fun r_11 M_10 => if r_9 = r_11 then (bI (v2 ||| (1 <<< (v3 &&& 31))) fun v2_12 => bI (v3 + 1) fun v3_13 => rc4 (v2_12, v3_13, M_10)) else (bI (v2 ||| 0) fun v2_14 => bI (v3 + 1) fun v3_15 => rc4 (v2_14, v3_15, M_10))) else (bI (v2 ||| 0) fun v2_16 => bI (v3 + 1) fun v3_17 => rc4 (v2_16, v3_17, M_6))))
set_option maxRecDepth 100000 in
set_option maxHeartbeats 4000000 in
theorem pj_X4_meeting_4 {p : Program} {l : Launch} {e : Env} {R : Room} {s : State} {m : MethodId} {args : Array Value} {below : List Frame} {meth : Method} {c : Code} {g : Gh} (X : Cx p l e R s m args below meth c g cX4_meeting 4 (0, 0) RX4 3) (hr : meth.sig.returnType = (some (.int))) (v1 : Int32) (rc4 : Int32 × Int32 × Mem → Option (Int32 × Mem)) (hc4 : ∀ x, J p l e R s m args below meth c g 4 (0, 0) (QfI below args s g) (rc4 x) x.2.2 4 [(0, .ref (gA g 49)), (1, .int v1), (2, .int x.1), (3, .int x.2.1)] []) (v2 : Int32) (v3 : Int32) (M : Mem) : J p l e R s m args below meth c g 4 (0, 0) (QfI below args s g) (pi_X4_meeting_4 v1 rc4 v2 v3 M) M 4 [(0, .ref (gA g 49)), (1, .int v1), (2, .int v2), (3, .int v3)] [] := by
  unfold pi_X4_meeting_4
  refine j_iload_n (i := 3) X dX4_meeting_4 rfl rfl ?_
  refine j_aload_n (i := 0) X dX4_meeting_5 rfl rfl ?_
  refine j_get_md 0 X (by decide) wq_346 rfl dX4_meeting_6 ?_
  refine j_iconst (v := 1) X dX4_meeting_9 rfl ?_
  refine j_iald X ia_50 dX4_meeting_10 (fun h_1 => ?_)
  refine j_icmp_ge (tgt := 63) X dX4_meeting_11 (by decide) ?_ ?_
  · refine j_iload_n (i := 2) X dX4_meeting_63 rfl rfl ?_
    exact j_iret X hr dX4_meeting_64
  · refine j_iload_n (i := 2) X dX4_meeting_14 rfl rfl ?_
    refine j_iload_n (i := 3) X dX4_meeting_15 rfl rfl ?_
    refine j_iload_n (i := 1) X dX4_meeting_16 rfl rfl ?_
    refine j_icmp_eq (tgt := 54) X dX4_meeting_17 (by decide) ?_ ?_
    · refine j_iconst (v := 0) X dX4_meeting_54 rfl ?_
      refine j_ior X dX4_meeting_55 ?_
      refine j_bI (fun v2_2 => ?_)
      refine j_istore_n (i := 2) (Lq := [(0, .ref (gA g 49)), (1, .int v1), (2, .int v2_2), (3, .int v3)]) X dX4_meeting_56 rfl (by decide) rfl ?_
      refine j_iincB (i := 3) (y := v3 + 1) (Lf := fun v3_3 => [(0, .ref (gA g 49)), (1, .int v1), (2, .int v2_2), (3, .int v3_3)]) X dX4_meeting_57 rfl rfl (by decide) (fun _ => rfl) (fun v3_3 => ?_)
      refine j_goto (tgt := 4) X dX4_meeting_60 (by decide) ?_
      exact hc4 (v2_2, v3_3, M)
    · refine j_aload_n (i := 0) X dX4_meeting_20 rfl rfl ?_
      refine j_iload_n (i := 1) X dX4_meeting_21 rfl rfl ?_
      refine k_cVI (As := [.int v1]) (rest := [.int v2]) (by decide) (cf_md _) rfl X (ct_X4_facesOf l g v1 M) wl_X4_114 rfl rfl (by decide) (Nat.le_of_ble_eq_true rfl) dX4_meeting_22 (fun r_5 M_4 => ?_)
      refine j_aload_n (i := 0) X dX4_meeting_25 rfl rfl ?_
      refine j_iload_n (i := 3) X dX4_meeting_26 rfl rfl ?_
      refine j_iconst (v := 1) X dX4_meeting_27 rfl ?_
      refine k_cVI (As := [.int v3, .int 1]) (rest := [.int r_5, .int v2]) (by decide) (cf_md _) rfl X (ct_X4_hillIs l g v3 1 M_4) wl_X4_108 rfl rfl (by decide) (Nat.le_of_ble_eq_true rfl) dX4_meeting_28 (fun r_7 M_6 => ?_)
      refine j_icmp_ne (tgt := 54) X dX4_meeting_31 (by decide) ?_ ?_
      · refine j_aload_n (i := 0) X dX4_meeting_34 rfl rfl ?_
        refine j_iload_n (i := 3) X dX4_meeting_35 rfl rfl ?_
        refine k_cVI (As := [.int v3]) (rest := [.int v2]) (by decide) (cf_md _) rfl X (ct_X4_facesOf l g v3 M_6) wl_X4_114 rfl rfl (by decide) (Nat.le_of_ble_eq_true rfl) dX4_meeting_36 (fun r_9 M_8 => ?_)
        refine j_aload_n (i := 0) X dX4_meeting_39 rfl rfl ?_
        refine j_iload_n (i := 1) X dX4_meeting_40 rfl rfl ?_
        refine j_iconst (v := 1) X dX4_meeting_41 rfl ?_
        refine k_cVI (As := [.int v1, .int 1]) (rest := [.int r_9, .int v2]) (by decide) (cf_md _) rfl X (ct_X4_hillIs l g v1 1 M_8) wl_X4_108 rfl rfl (by decide) (Nat.le_of_ble_eq_true rfl) dX4_meeting_42 (fun r_11 M_10 => ?_)
        refine j_icmp_ne (tgt := 54) X dX4_meeting_45 (by decide) ?_ ?_
        · refine j_iconst (v := 1) X dX4_meeting_48 rfl ?_
          refine j_iload_n (i := 3) X dX4_meeting_49 rfl rfl ?_
          refine j_ishl X dX4_meeting_50 ?_
          refine j_goto (tgt := 55) X dX4_meeting_51 (by decide) ?_
          refine j_ior X dX4_meeting_55 ?_
          refine j_bI (fun v2_12 => ?_)
          refine j_istore_n (i := 2) (Lq := [(0, .ref (gA g 49)), (1, .int v1), (2, .int v2_12), (3, .int v3)]) X dX4_meeting_56 rfl (by decide) rfl ?_
          refine j_iincB (i := 3) (y := v3 + 1) (Lf := fun v3_13 => [(0, .ref (gA g 49)), (1, .int v1), (2, .int v2_12), (3, .int v3_13)]) X dX4_meeting_57 rfl rfl (by decide) (fun _ => rfl) (fun v3_13 => ?_)
          refine j_goto (tgt := 4) X dX4_meeting_60 (by decide) ?_
          exact hc4 (v2_12, v3_13, M_10)
        · refine j_iconst (v := 0) X dX4_meeting_54 rfl ?_
          refine j_ior X dX4_meeting_55 ?_
          refine j_bI (fun v2_14 => ?_)
          refine j_istore_n (i := 2) (Lq := [(0, .ref (gA g 49)), (1, .int v1), (2, .int v2_14), (3, .int v3)]) X dX4_meeting_56 rfl (by decide) rfl ?_
          refine j_iincB (i := 3) (y := v3 + 1) (Lf := fun v3_15 => [(0, .ref (gA g 49)), (1, .int v1), (2, .int v2_14), (3, .int v3_15)]) X dX4_meeting_57 rfl rfl (by decide) (fun _ => rfl) (fun v3_15 => ?_)
          refine j_goto (tgt := 4) X dX4_meeting_60 (by decide) ?_
          exact hc4 (v2_14, v3_15, M_10)
      · refine j_iconst (v := 0) X dX4_meeting_54 rfl ?_
        refine j_ior X dX4_meeting_55 ?_
        refine j_bI (fun v2_16 => ?_)
        refine j_istore_n (i := 2) (Lq := [(0, .ref (gA g 49)), (1, .int v1), (2, .int v2_16), (3, .int v3)]) X dX4_meeting_56 rfl (by decide) rfl ?_
        refine j_iincB (i := 3) (y := v3 + 1) (Lf := fun v3_17 => [(0, .ref (gA g 49)), (1, .int v1), (2, .int v2_16), (3, .int v3_17)]) X dX4_meeting_57 rfl rfl (by decide) (fun _ => rfl) (fun v3_17 => ?_)
        refine j_goto (tgt := 4) X dX4_meeting_60 (by decide) ?_
        exact hc4 (v2_16, v3_17, M_6)
def pi_X4_meeting_e (v1 : Int32) (M : Mem) : Option (Int32 × Mem) := lp (fun rc4 x => pi_X4_meeting_4 v1 rc4 x.1 x.2.1 x.2.2) FU (0, 0, M)
set_option maxRecDepth 100000 in
set_option maxHeartbeats 4000000 in
theorem pj_X4_meeting_e {p : Program} {l : Launch} {e : Env} {R : Room} {s : State} {m : MethodId} {args : Array Value} {below : List Frame} {meth : Method} {c : Code} {g : Gh} (X : Cx p l e R s m args below meth c g cX4_meeting 4 (0, 0) RX4 3) (hr : meth.sig.returnType = (some (.int))) (v1 : Int32) (M : Mem) : J p l e R s m args below meth c g 4 (0, 0) (QfI below args s g) (pi_X4_meeting_e v1 M) M 0 [(0, .ref (gA g 49)), (1, .int v1)] [] := by
  unfold pi_X4_meeting_e
  refine j_iconst (v := 0) X dX4_meeting_0 rfl ?_
  refine j_istore_n (i := 2) (Lq := [(0, .ref (gA g 49)), (1, .int v1), (2, .int 0)]) X dX4_meeting_1 rfl (by decide) rfl ?_
  refine j_iconst (v := 0) X dX4_meeting_2 rfl ?_
  refine j_istore_n (i := 3) (Lq := [(0, .ref (gA g 49)), (1, .int v1), (2, .int 0), (3, .int 0)]) X dX4_meeting_3 rfl (by decide) rfl ?_
  exact j_lp (Lf := fun x => [(0, .ref (gA g 49)), (1, .int v1), (2, .int x.1), (3, .int x.2.1)]) (Mf := fun x => x.2.2) (fun rc4 hc4 x => pj_X4_meeting_4 X hr v1 rc4 hc4 x.1 x.2.1 x.2.2) FU (0, 0, M)
def mi_X4_meeting (v1 : Int32) (M : Mem) : Option (Int32 × Mem) := pi_X4_meeting_e v1 M
theorem ct_X4_meeting (l : Launch) (g : Gh) (v1 : Int32) (M : Mem) : CtI l g yX4_meeting cX4_meeting 4 (some (.int)) 3 [.ref (gA g 49), .int v1] M (mi_X4_meeting v1 M) := ctI_of (own := RX4) (L := [(0, .ref (gA g 49)), (1, .int v1)]) (by decide +kernel) rfl (Nat.le_of_ble_eq_true rfl) rfl (fun p e s m args below meth c X hr => pj_X4_meeting_e X hr v1  M)

def pi_X4_movesOf_e (self : Int32 → Int32 → Mem → Option (Int32 × Mem)) (v1 : Int32) (v2 : Int32) (M : Mem) : Option (Int32 × Mem) := bd (mi_X4_hillIs v1 2 M) fun r_2 M_1 => swc v2 [(1, some (2 * r_2, M_1)), (2, gd (inb v1 8) <| if (M_1 55 v1.toNatClampNeg) = 0 then (some (r_2, M_1)) else (some (0, M_1))), (3, bd (self v1 2 M_1) fun r_5 M_4 => bd (mi_X4_hillIs v1 1 M_4) fun r_7 M_6 => bd (mi_X4_atValley r_7 M_6) fun r_9 M_8 => bd (mi_X4_bits r_9 M_8) fun r_11 M_10 => some ((r_5 + r_11) - 1, M_10)), (4, bd (self v1 3 M_1) fun r_13 M_12 => some (-r_13, M_12)), (5, some (0, M_1)), (6, bd (self v1 1 M_1) fun r_15 M_14 => bd (mi_X4_hillIs v1 4 M_14) fun r_17 M_16 => if r_17 ≤ 50 then (some (r_15 + 0, M_16)) else (some (r_15 + 1, M_16)))] (some (r_2, M_1))
set_option maxRecDepth 100000 in
set_option maxHeartbeats 4000000 in
theorem pj_X4_movesOf_e {p : Program} {l : Launch} {e : Env} {R : Room} {s : State} {m : MethodId} {args : Array Value} {below : List Frame} {meth : Method} {c : Code} {g : Gh} {nr dr : Nat} (X : Cx p l e R s m args below meth c g cX4_movesOf 4 (0, 0) RX4 dr) (hr : meth.sig.returnType = (some (.int))) (hy0 : 3 ≤ dr) (hdd : nr + 1 ≤ dr) (self : Int32 → Int32 → Mem → Option (Int32 × Mem)) (hself : ∀ (v1 : Int32) (v2 : Int32) (M : Mem), CtI l g yX4_movesOf cX4_movesOf 4 (some (.int)) nr [.ref (gA g 49), .int v1, .int v2] M (self v1 v2 M)) (v1 : Int32) (v2 : Int32) (M : Mem) : J p l e R s m args below meth c g 4 (0, 0) (QfI below args s g) (pi_X4_movesOf_e self v1 v2 M) M 0 [(0, .ref (gA g 49)), (1, .int v1), (2, .int v2)] [] := by
  unfold pi_X4_movesOf_e
  refine j_aload_n (i := 0) X dX4_movesOf_0 rfl rfl ?_
  refine j_iload_n (i := 1) X dX4_movesOf_1 rfl rfl ?_
  refine j_iconst (v := 2) X dX4_movesOf_2 rfl ?_
  refine k_cVI (As := [.int v1, .int 2]) (rest := []) (by decide) (cf_md _) rfl X (ct_X4_hillIs l g v1 2 M) wl_X4_108 rfl rfl (by omega) (Nat.le_of_ble_eq_true rfl) dX4_movesOf_3 (fun r_2 M_1 => ?_)
  refine j_istore_n (i := 3) (Lq := [(0, .ref (gA g 49)), (1, .int v1), (2, .int v2), (3, .int r_2)]) X dX4_movesOf_6 rfl (by decide) rfl ?_
  refine j_iload_n (i := 2) X dX4_movesOf_7 rfl rfl ?_
  refine j_tsw [1, 2, 3, 4, 5, 6] [48, 76, 91, 114, 122, 52] (dt := 124) X dX4_movesOf_8 rfl (by decide +kernel) (by decide +kernel) (by decide) ⟨?_, ?_, ?_, ?_, ?_, ?_, trivial⟩ ?_
  · refine j_iconst (v := 2) X dX4_movesOf_48 rfl ?_
    refine j_iload_n (i := 3) X dX4_movesOf_49 rfl rfl ?_
    refine j_imul X dX4_movesOf_50 ?_
    exact j_iret X hr dX4_movesOf_51
  · refine j_aload_n (i := 0) X dX4_movesOf_76 rfl rfl ?_
    refine j_get_md 6 X (by decide) wq_390 rfl dX4_movesOf_77 ?_
    refine j_iload_n (i := 1) X dX4_movesOf_80 rfl rfl ?_
    refine j_iald X ia_55 dX4_movesOf_81 (fun h_3 => ?_)
    refine j_if_eq (tgt := 89) X dX4_movesOf_82 (by decide) ?_ ?_
    · refine j_iload_n (i := 3) X dX4_movesOf_89 rfl rfl ?_
      exact j_iret X hr dX4_movesOf_90
    · refine j_iconst (v := 0) X dX4_movesOf_85 rfl ?_
      refine j_goto (tgt := 90) X dX4_movesOf_86 (by decide) ?_
      exact j_iret X hr dX4_movesOf_90
  · refine j_aload_n (i := 0) X dX4_movesOf_91 rfl rfl ?_
    refine j_iload_n (i := 1) X dX4_movesOf_92 rfl rfl ?_
    refine j_iconst (v := 2) X dX4_movesOf_93 rfl ?_
    refine k_cVI (As := [.int v1, .int 2]) (rest := []) (by decide) (cf_md _) rfl X (hself v1 2 M_1) wl_X4_117 rfl rfl hdd (Nat.le_of_ble_eq_true rfl) dX4_movesOf_94 (fun r_5 M_4 => ?_)
    refine j_aload_n (i := 0) X dX4_movesOf_97 rfl rfl ?_
    refine j_aload_n (i := 0) X dX4_movesOf_98 rfl rfl ?_
    refine j_iload_n (i := 1) X dX4_movesOf_99 rfl rfl ?_
    refine j_iconst (v := 1) X dX4_movesOf_100 rfl ?_
    refine k_cVI (As := [.int v1, .int 1]) (rest := [.ref (gA g 49), .int r_5]) (by decide) (cf_md _) rfl X (ct_X4_hillIs l g v1 1 M_4) wl_X4_108 rfl rfl (by omega) (Nat.le_of_ble_eq_true rfl) dX4_movesOf_101 (fun r_7 M_6 => ?_)
    refine k_cVI (As := [.int r_7]) (rest := [.int r_5]) (by decide) (cf_md _) rfl X (ct_X4_atValley l g r_7 M_6) wl_X4_120 rfl rfl (by omega) (Nat.le_of_ble_eq_true rfl) dX4_movesOf_104 (fun r_9 M_8 => ?_)
    refine k_cSI (As := [.int r_9]) (rest := [.int r_5]) X (ct_X4_bits l g r_9 M_8) wl_X4_123 rfl rfl (by omega) (Nat.le_of_ble_eq_true rfl) dX4_movesOf_107 (fun r_11 M_10 => ?_)
    refine j_iadd X dX4_movesOf_110 ?_
    refine j_iconst (v := 1) X dX4_movesOf_111 rfl ?_
    refine j_isub X dX4_movesOf_112 ?_
    exact j_iret X hr dX4_movesOf_113
  · refine j_aload_n (i := 0) X dX4_movesOf_114 rfl rfl ?_
    refine j_iload_n (i := 1) X dX4_movesOf_115 rfl rfl ?_
    refine j_iconst (v := 3) X dX4_movesOf_116 rfl ?_
    refine k_cVI (As := [.int v1, .int 3]) (rest := []) (by decide) (cf_md _) rfl X (hself v1 3 M_1) wl_X4_117 rfl rfl hdd (Nat.le_of_ble_eq_true rfl) dX4_movesOf_117 (fun r_13 M_12 => ?_)
    refine j_ineg X dX4_movesOf_120 ?_
    exact j_iret X hr dX4_movesOf_121
  · refine j_iconst (v := 0) X dX4_movesOf_122 rfl ?_
    exact j_iret X hr dX4_movesOf_123
  · refine j_aload_n (i := 0) X dX4_movesOf_52 rfl rfl ?_
    refine j_iload_n (i := 1) X dX4_movesOf_53 rfl rfl ?_
    refine j_iconst (v := 1) X dX4_movesOf_54 rfl ?_
    refine k_cVI (As := [.int v1, .int 1]) (rest := []) (by decide) (cf_md _) rfl X (hself v1 1 M_1) wl_X4_117 rfl rfl hdd (Nat.le_of_ble_eq_true rfl) dX4_movesOf_55 (fun r_15 M_14 => ?_)
    refine j_aload_n (i := 0) X dX4_movesOf_58 rfl rfl ?_
    refine j_iload_n (i := 1) X dX4_movesOf_59 rfl rfl ?_
    refine j_iconst (v := 4) X dX4_movesOf_60 rfl ?_
    refine k_cVI (As := [.int v1, .int 4]) (rest := [.int r_15]) (by decide) (cf_md _) rfl X (ct_X4_hillIs l g v1 4 M_14) wl_X4_108 rfl rfl (by omega) (Nat.le_of_ble_eq_true rfl) dX4_movesOf_61 (fun r_17 M_16 => ?_)
    refine j_bipush (v := 50) X dX4_movesOf_64 rfl ?_
    refine j_icmp_le (tgt := 73) X dX4_movesOf_66 (by decide) ?_ ?_
    · refine j_iconst (v := 0) X dX4_movesOf_73 rfl ?_
      refine j_iadd X dX4_movesOf_74 ?_
      exact j_iret X hr dX4_movesOf_75
    · refine j_iconst (v := 1) X dX4_movesOf_69 rfl ?_
      refine j_goto (tgt := 74) X dX4_movesOf_70 (by decide) ?_
      refine j_iadd X dX4_movesOf_74 ?_
      exact j_iret X hr dX4_movesOf_75
  · refine j_iload_n (i := 3) X dX4_movesOf_124 rfl rfl ?_
    exact j_iret X hr dX4_movesOf_125
def mi_X4_movesOf : Nat → Int32 → Int32 → Mem → Option (Int32 × Mem)
  | 0, _, _, _ => none
  | nr + 1, v1, v2, M => pi_X4_movesOf_e (mi_X4_movesOf nr) v1 v2 M
theorem ct_X4_movesOf (l : Launch) (g : Gh) : ∀ (nr : Nat) (v1 : Int32) (v2 : Int32) (M : Mem), CtI l g yX4_movesOf cX4_movesOf 4 (some (.int)) (3 + nr) [.ref (gA g 49), .int v1, .int v2] M (mi_X4_movesOf nr v1 v2 M) := by
  intro nr
  induction nr with
  | zero => intro v1 v2 M zz hz; cases hz
  | succ nr ih =>
    intro v1 v2  M
    exact ctI_of (own := RX4) (L := [(0, .ref (gA g 49)), (1, .int v1), (2, .int v2)]) (by decide +kernel) rfl (Nat.le_of_ble_eq_true rfl) rfl (fun p e s m args below meth c X hr => pj_X4_movesOf_e X hr (by omega) (by omega) (mi_X4_movesOf nr) ih v1 v2  M)

def pi_X4_turnsOf_e (self : Int32 → Int32 → Mem → Option (Int32 × Mem)) (v1 : Int32) (v2 : Int32) (M : Mem) : Option (Int32 × Mem) := swc v2 [(1, some (0, M)), (2, some (1, M)), (3, bd (mi_X4_hillIs v1 4 M) fun r_2 M_1 => if r_2 ≤ 50 then (some (1, M_1)) else (some (2, M_1))), (4, bd (self v1 3 M) fun r_4 M_3 => some (3 * r_4, M_3)), (5, some (0, M)), (6, some (2, M))] (some (1, M))
set_option maxRecDepth 100000 in
set_option maxHeartbeats 4000000 in
theorem pj_X4_turnsOf_e {p : Program} {l : Launch} {e : Env} {R : Room} {s : State} {m : MethodId} {args : Array Value} {below : List Frame} {meth : Method} {c : Code} {g : Gh} {nr dr : Nat} (X : Cx p l e R s m args below meth c g cX4_turnsOf 3 (0, 0) RX4 dr) (hr : meth.sig.returnType = (some (.int))) (hy0 : 2 ≤ dr) (hdd : nr + 1 ≤ dr) (self : Int32 → Int32 → Mem → Option (Int32 × Mem)) (hself : ∀ (v1 : Int32) (v2 : Int32) (M : Mem), CtI l g yX4_turnsOf cX4_turnsOf 3 (some (.int)) nr [.ref (gA g 49), .int v1, .int v2] M (self v1 v2 M)) (v1 : Int32) (v2 : Int32) (M : Mem) : J p l e R s m args below meth c g 3 (0, 0) (QfI below args s g) (pi_X4_turnsOf_e self v1 v2 M) M 0 [(0, .ref (gA g 49)), (1, .int v1), (2, .int v2)] [] := by
  unfold pi_X4_turnsOf_e
  refine j_iload_n (i := 2) X dX4_turnsOf_0 rfl rfl ?_
  refine j_tsw [1, 2, 3, 4, 5, 6] [40, 70, 44, 61, 40, 42] (dt := 70) X dX4_turnsOf_1 rfl (by decide +kernel) (by decide +kernel) (by decide) ⟨?_, ?_, ?_, ?_, ?_, ?_, trivial⟩ ?_
  · refine j_iconst (v := 0) X dX4_turnsOf_40 rfl ?_
    exact j_iret X hr dX4_turnsOf_41
  · refine j_iconst (v := 1) X dX4_turnsOf_70 rfl ?_
    exact j_iret X hr dX4_turnsOf_71
  · refine j_aload_n (i := 0) X dX4_turnsOf_44 rfl rfl ?_
    refine j_iload_n (i := 1) X dX4_turnsOf_45 rfl rfl ?_
    refine j_iconst (v := 4) X dX4_turnsOf_46 rfl ?_
    refine k_cVI (As := [.int v1, .int 4]) (rest := []) (by decide) (cf_md _) rfl X (ct_X4_hillIs l g v1 4 M) wl_X4_108 rfl rfl (by omega) (Nat.le_of_ble_eq_true rfl) dX4_turnsOf_47 (fun r_2 M_1 => ?_)
    refine j_bipush (v := 50) X dX4_turnsOf_50 rfl ?_
    refine j_icmp_le (tgt := 59) X dX4_turnsOf_52 (by decide) ?_ ?_
    · refine j_iconst (v := 1) X dX4_turnsOf_59 rfl ?_
      exact j_iret X hr dX4_turnsOf_60
    · refine j_iconst (v := 2) X dX4_turnsOf_55 rfl ?_
      refine j_goto (tgt := 60) X dX4_turnsOf_56 (by decide) ?_
      exact j_iret X hr dX4_turnsOf_60
  · refine j_iconst (v := 3) X dX4_turnsOf_61 rfl ?_
    refine j_aload_n (i := 0) X dX4_turnsOf_62 rfl rfl ?_
    refine j_iload_n (i := 1) X dX4_turnsOf_63 rfl rfl ?_
    refine j_iconst (v := 3) X dX4_turnsOf_64 rfl ?_
    refine k_cVI (As := [.int v1, .int 3]) (rest := [.int 3]) (by decide) (cf_md _) rfl X (hself v1 3 M) wl_X4_126 rfl rfl hdd (Nat.le_of_ble_eq_true rfl) dX4_turnsOf_65 (fun r_4 M_3 => ?_)
    refine j_imul X dX4_turnsOf_68 ?_
    exact j_iret X hr dX4_turnsOf_69
  · refine j_iconst (v := 0) X dX4_turnsOf_40 rfl ?_
    exact j_iret X hr dX4_turnsOf_41
  · refine j_iconst (v := 2) X dX4_turnsOf_42 rfl ?_
    exact j_iret X hr dX4_turnsOf_43
  · refine j_iconst (v := 1) X dX4_turnsOf_70 rfl ?_
    exact j_iret X hr dX4_turnsOf_71
def mi_X4_turnsOf : Nat → Int32 → Int32 → Mem → Option (Int32 × Mem)
  | 0, _, _, _ => none
  | nr + 1, v1, v2, M => pi_X4_turnsOf_e (mi_X4_turnsOf nr) v1 v2 M
theorem ct_X4_turnsOf (l : Launch) (g : Gh) : ∀ (nr : Nat) (v1 : Int32) (v2 : Int32) (M : Mem), CtI l g yX4_turnsOf cX4_turnsOf 3 (some (.int)) (2 + nr) [.ref (gA g 49), .int v1, .int v2] M (mi_X4_turnsOf nr v1 v2 M) := by
  intro nr
  induction nr with
  | zero => intro v1 v2 M zz hz; cases hz
  | succ nr ih =>
    intro v1 v2  M
    exact ctI_of (own := RX4) (L := [(0, .ref (gA g 49)), (1, .int v1), (2, .int v2)]) (by decide +kernel) rfl (Nat.le_of_ble_eq_true rfl) rfl (fun p e s m args below meth c X hr => pj_X4_turnsOf_e X hr (by omega) (by omega) (mi_X4_turnsOf nr) ih v1 v2  M)

def pi_X4_sinksOf_e (v1 : Int32) (M : Mem) : Option (Int32 × Mem) := gd (inb 3 62) <| bI (M 50 (3 : Int32).toNatClampNeg) fun v2_2 => swc v1 [(1, some (v2_2, M)), (2, some (1 + v2_2, M)), (3, some ((1 + v2_2) / 2, M)), (4, some ((1 + v2_2) / 2, M)), (5, some (0, M)), (6, some (v2_2 + 1, M))] (some (1, M))
set_option maxRecDepth 100000 in
set_option maxHeartbeats 4000000 in
theorem pj_X4_sinksOf_e {p : Program} {l : Launch} {e : Env} {R : Room} {s : State} {m : MethodId} {args : Array Value} {below : List Frame} {meth : Method} {c : Code} {g : Gh} (X : Cx p l e R s m args below meth c g cX4_sinksOf 3 (0, 0) RX4 0) (hr : meth.sig.returnType = (some (.int))) (v1 : Int32) (M : Mem) : J p l e R s m args below meth c g 3 (0, 0) (QfI below args s g) (pi_X4_sinksOf_e v1 M) M 0 [(0, .ref (gA g 49)), (1, .int v1)] [] := by
  unfold pi_X4_sinksOf_e
  refine j_aload_n (i := 0) X dX4_sinksOf_0 rfl rfl ?_
  refine j_get_md 0 X (by decide) wq_346 rfl dX4_sinksOf_1 ?_
  refine j_iconst (v := 3) X dX4_sinksOf_4 rfl ?_
  refine j_iald X ia_50 dX4_sinksOf_5 (fun h_1 => ?_)
  refine j_bI (fun v2_2 => ?_)
  refine j_istore_n (i := 2) (Lq := [(0, .ref (gA g 49)), (1, .int v1), (2, .int v2_2)]) X dX4_sinksOf_6 rfl (by decide) rfl ?_
  refine j_iload_n (i := 1) X dX4_sinksOf_7 rfl rfl ?_
  refine j_tsw [1, 2, 3, 4, 5, 6] [48, 54, 58, 58, 64, 50] (dt := 66) X dX4_sinksOf_8 rfl (by decide +kernel) (by decide +kernel) (by decide) ⟨?_, ?_, ?_, ?_, ?_, ?_, trivial⟩ ?_
  · refine j_iload_n (i := 2) X dX4_sinksOf_48 rfl rfl ?_
    exact j_iret X hr dX4_sinksOf_49
  · refine j_iconst (v := 1) X dX4_sinksOf_54 rfl ?_
    refine j_iload_n (i := 2) X dX4_sinksOf_55 rfl rfl ?_
    refine j_iadd X dX4_sinksOf_56 ?_
    exact j_iret X hr dX4_sinksOf_57
  · refine j_iconst (v := 1) X dX4_sinksOf_58 rfl ?_
    refine j_iload_n (i := 2) X dX4_sinksOf_59 rfl rfl ?_
    refine j_iadd X dX4_sinksOf_60 ?_
    refine j_iconst (v := 2) X dX4_sinksOf_61 rfl ?_
    refine j_idivc X dX4_sinksOf_62 (by decide) ?_
    exact j_iret X hr dX4_sinksOf_63
  · refine j_iconst (v := 1) X dX4_sinksOf_58 rfl ?_
    refine j_iload_n (i := 2) X dX4_sinksOf_59 rfl rfl ?_
    refine j_iadd X dX4_sinksOf_60 ?_
    refine j_iconst (v := 2) X dX4_sinksOf_61 rfl ?_
    refine j_idivc X dX4_sinksOf_62 (by decide) ?_
    exact j_iret X hr dX4_sinksOf_63
  · refine j_iconst (v := 0) X dX4_sinksOf_64 rfl ?_
    exact j_iret X hr dX4_sinksOf_65
  · refine j_iload_n (i := 2) X dX4_sinksOf_50 rfl rfl ?_
    refine j_iconst (v := 1) X dX4_sinksOf_51 rfl ?_
    refine j_iadd X dX4_sinksOf_52 ?_
    exact j_iret X hr dX4_sinksOf_53
  · refine j_iconst (v := 1) X dX4_sinksOf_66 rfl ?_
    exact j_iret X hr dX4_sinksOf_67
def mi_X4_sinksOf (v1 : Int32) (M : Mem) : Option (Int32 × Mem) := pi_X4_sinksOf_e v1 M
theorem ct_X4_sinksOf (l : Launch) (g : Gh) (v1 : Int32) (M : Mem) : CtI l g yX4_sinksOf cX4_sinksOf 3 (some (.int)) 0 [.ref (gA g 49), .int v1] M (mi_X4_sinksOf v1 M) := ctI_of (own := RX4) (L := [(0, .ref (gA g 49)), (1, .int v1)]) (by decide +kernel) rfl (Nat.le_of_ble_eq_true rfl) rfl (fun p e s m args below meth c X hr => pj_X4_sinksOf_e X hr v1  M)

def pi_X4_looksAt_2 (rc2 : Int32 × Mem → Option (Mem)) (v1 : Int32) (M : Mem) : Option (Mem) := gd (inb 1 62) <| if (M 50 (1 : Int32).toNatClampNeg) ≤ v1 then (some M) else (bd (mi_X4_meeting v1 M) fun r_3 M_2 => gd (inb v1 8) <| bM (up M_2 55 v1.toNatClampNeg r_3) fun M_5 => bd (mi_X4_hillIs v1 0 M_5) fun r_7 M_6 => bd (mi_X4_movesOf 4 v1 r_7 M_6) fun r_9 M_8 => gd (inb v1 8) <| bM (up M_8 56 v1.toNatClampNeg r_9) fun M_11 => bd (mi_X4_hillIs v1 0 M_11) fun r_13 M_12 => bd (mi_X4_turnsOf 3 v1 r_13 M_12) fun r_15 M_14 => gd (inb v1 8) <| bM (up M_14 57 v1.toNatClampNeg r_15) fun M_17 => bd (mi_X4_hillIs v1 0 M_17) fun r_19 M_18 => bd (mi_X4_sinksOf r_19 M_18) fun r_21 M_20 => gd (inb v1 8) <| bM (up M_20 58 v1.toNatClampNeg r_21) fun M_23 => bI (v1 + 1) fun v1_24 => rc2 (v1_24, M_23))
set_option maxRecDepth 100000 in
set_option maxHeartbeats 4000000 in
theorem pj_X4_looksAt_2 {p : Program} {l : Launch} {e : Env} {R : Room} {s : State} {m : MethodId} {args : Array Value} {below : List Frame} {meth : Method} {c : Code} {g : Gh} (X : Cx p l e R s m args below meth c g cX4_looksAt 2 (0, 0) RX4 8) (hr : meth.sig.returnType = none) (rc2 : Int32 × Mem → Option (Mem)) (hc2 : ∀ x, J p l e R s m args below meth c g 2 (0, 0) (QfV below args s g) (rc2 x) x.2 2 [(0, .ref (gA g 49)), (1, .int x.1)] []) (v1 : Int32) (M : Mem) : J p l e R s m args below meth c g 2 (0, 0) (QfV below args s g) (pi_X4_looksAt_2 rc2 v1 M) M 2 [(0, .ref (gA g 49)), (1, .int v1)] [] := by
  unfold pi_X4_looksAt_2
  refine j_iload_n (i := 1) X dX4_looksAt_2 rfl rfl ?_
  refine j_aload_n (i := 0) X dX4_looksAt_3 rfl rfl ?_
  refine j_get_md 0 X (by decide) wq_346 rfl dX4_looksAt_4 ?_
  refine j_iconst (v := 1) X dX4_looksAt_7 rfl ?_
  refine j_iald X ia_50 dX4_looksAt_8 (fun h_1 => ?_)
  refine j_icmp_ge (tgt := 79) X dX4_looksAt_9 (by decide) ?_ ?_
  · exact j_vret X hr dX4_looksAt_79
  · refine j_aload_n (i := 0) X dX4_looksAt_12 rfl rfl ?_
    refine j_get_md 6 X (by decide) wq_390 rfl dX4_looksAt_13 ?_
    refine j_iload_n (i := 1) X dX4_looksAt_16 rfl rfl ?_
    refine j_aload_n (i := 0) X dX4_looksAt_17 rfl rfl ?_
    refine j_iload_n (i := 1) X dX4_looksAt_18 rfl rfl ?_
    refine k_cVI (As := [.int v1]) (rest := [.int v1, .ref (gA g 55)]) (by decide) (cf_md _) rfl X (ct_X4_meeting l g v1 M) wl_X4_129 rfl rfl (by decide) (Nat.le_of_ble_eq_true rfl) dX4_looksAt_19 (fun r_3 M_2 => ?_)
    refine j_iast X ia_55 dX4_looksAt_22 (fun h_4 => ?_)
    refine j_bM (fun M_5 => ?_)
    refine j_aload_n (i := 0) X dX4_looksAt_23 rfl rfl ?_
    refine j_get_md 7 X (by decide) wq_410 rfl dX4_looksAt_24 ?_
    refine j_iload_n (i := 1) X dX4_looksAt_27 rfl rfl ?_
    refine j_aload_n (i := 0) X dX4_looksAt_28 rfl rfl ?_
    refine j_iload_n (i := 1) X dX4_looksAt_29 rfl rfl ?_
    refine j_aload_n (i := 0) X dX4_looksAt_30 rfl rfl ?_
    refine j_iload_n (i := 1) X dX4_looksAt_31 rfl rfl ?_
    refine j_iconst (v := 0) X dX4_looksAt_32 rfl ?_
    refine k_cVI (As := [.int v1, .int 0]) (rest := [.int v1, .ref (gA g 49), .int v1, .ref (gA g 56)]) (by decide) (cf_md _) rfl X (ct_X4_hillIs l g v1 0 M_5) wl_X4_108 rfl rfl (by decide) (Nat.le_of_ble_eq_true rfl) dX4_looksAt_33 (fun r_7 M_6 => ?_)
    refine k_cVI (As := [.int v1, .int r_7]) (rest := [.int v1, .ref (gA g 56)]) (by decide) (cf_md _) rfl X (ct_X4_movesOf l g 4 v1 r_7 M_6) wl_X4_117 rfl rfl (by decide) (Nat.le_of_ble_eq_true rfl) dX4_looksAt_36 (fun r_9 M_8 => ?_)
    refine j_iast X ia_56 dX4_looksAt_39 (fun h_10 => ?_)
    refine j_bM (fun M_11 => ?_)
    refine j_aload_n (i := 0) X dX4_looksAt_40 rfl rfl ?_
    refine j_get_md 8 X (by decide) wq_411 rfl dX4_looksAt_41 ?_
    refine j_iload_n (i := 1) X dX4_looksAt_44 rfl rfl ?_
    refine j_aload_n (i := 0) X dX4_looksAt_45 rfl rfl ?_
    refine j_iload_n (i := 1) X dX4_looksAt_46 rfl rfl ?_
    refine j_aload_n (i := 0) X dX4_looksAt_47 rfl rfl ?_
    refine j_iload_n (i := 1) X dX4_looksAt_48 rfl rfl ?_
    refine j_iconst (v := 0) X dX4_looksAt_49 rfl ?_
    refine k_cVI (As := [.int v1, .int 0]) (rest := [.int v1, .ref (gA g 49), .int v1, .ref (gA g 57)]) (by decide) (cf_md _) rfl X (ct_X4_hillIs l g v1 0 M_11) wl_X4_108 rfl rfl (by decide) (Nat.le_of_ble_eq_true rfl) dX4_looksAt_50 (fun r_13 M_12 => ?_)
    refine k_cVI (As := [.int v1, .int r_13]) (rest := [.int v1, .ref (gA g 57)]) (by decide) (cf_md _) rfl X (ct_X4_turnsOf l g 3 v1 r_13 M_12) wl_X4_126 rfl rfl (by decide) (Nat.le_of_ble_eq_true rfl) dX4_looksAt_53 (fun r_15 M_14 => ?_)
    refine j_iast X ia_57 dX4_looksAt_56 (fun h_16 => ?_)
    refine j_bM (fun M_17 => ?_)
    refine j_aload_n (i := 0) X dX4_looksAt_57 rfl rfl ?_
    refine j_get_md 9 X (by decide) wq_412 rfl dX4_looksAt_58 ?_
    refine j_iload_n (i := 1) X dX4_looksAt_61 rfl rfl ?_
    refine j_aload_n (i := 0) X dX4_looksAt_62 rfl rfl ?_
    refine j_aload_n (i := 0) X dX4_looksAt_63 rfl rfl ?_
    refine j_iload_n (i := 1) X dX4_looksAt_64 rfl rfl ?_
    refine j_iconst (v := 0) X dX4_looksAt_65 rfl ?_
    refine k_cVI (As := [.int v1, .int 0]) (rest := [.ref (gA g 49), .int v1, .ref (gA g 58)]) (by decide) (cf_md _) rfl X (ct_X4_hillIs l g v1 0 M_17) wl_X4_108 rfl rfl (by decide) (Nat.le_of_ble_eq_true rfl) dX4_looksAt_66 (fun r_19 M_18 => ?_)
    refine k_cVI (As := [.int r_19]) (rest := [.int v1, .ref (gA g 58)]) (by decide) (cf_md _) rfl X (ct_X4_sinksOf l g r_19 M_18) wl_X4_132 rfl rfl (by decide) (Nat.le_of_ble_eq_true rfl) dX4_looksAt_69 (fun r_21 M_20 => ?_)
    refine j_iast X ia_58 dX4_looksAt_72 (fun h_22 => ?_)
    refine j_bM (fun M_23 => ?_)
    refine j_iincB (i := 1) (y := v1 + 1) (Lf := fun v1_24 => [(0, .ref (gA g 49)), (1, .int v1_24)]) X dX4_looksAt_73 rfl rfl (by decide) (fun _ => rfl) (fun v1_24 => ?_)
    refine j_goto (tgt := 2) X dX4_looksAt_76 (by decide) ?_
    exact hc2 (v1_24, M_23)
def pi_X4_looksAt_e (M : Mem) : Option (Mem) := lp (fun rc2 x => pi_X4_looksAt_2 rc2 x.1 x.2) FU (0, M)
set_option maxRecDepth 100000 in
set_option maxHeartbeats 4000000 in
theorem pj_X4_looksAt_e {p : Program} {l : Launch} {e : Env} {R : Room} {s : State} {m : MethodId} {args : Array Value} {below : List Frame} {meth : Method} {c : Code} {g : Gh} (X : Cx p l e R s m args below meth c g cX4_looksAt 2 (0, 0) RX4 8) (hr : meth.sig.returnType = none) (M : Mem) : J p l e R s m args below meth c g 2 (0, 0) (QfV below args s g) (pi_X4_looksAt_e M) M 0 [(0, .ref (gA g 49))] [] := by
  unfold pi_X4_looksAt_e
  refine j_iconst (v := 0) X dX4_looksAt_0 rfl ?_
  refine j_istore_n (i := 1) (Lq := [(0, .ref (gA g 49)), (1, .int 0)]) X dX4_looksAt_1 rfl (by decide) rfl ?_
  exact j_lp (Lf := fun x => [(0, .ref (gA g 49)), (1, .int x.1)]) (Mf := fun x => x.2) (fun rc2 hc2 x => pj_X4_looksAt_2 X hr rc2 hc2 x.1 x.2) FU (0, M)
def mi_X4_looksAt (M : Mem) : Option (Mem) := pi_X4_looksAt_e  M
theorem ct_X4_looksAt (l : Launch) (g : Gh) (M : Mem) : CtV l g yX4_looksAt cX4_looksAt 2 none 8 [.ref (gA g 49)] M (mi_X4_looksAt  M) := ctV_of (own := RX4) (L := [(0, .ref (gA g 49))]) (by decide +kernel) rfl (Nat.le_of_ble_eq_true rfl) rfl (fun p e s m args below meth c X hr => pj_X4_looksAt_e X hr   M)

def pi_X4_of_18 (v1 : Int32) (v2 : Int32) (M : Mem) : Option (Int32 × Mem) := bd (mi_X4_finding (-1000001) M) fun r_4 M_3 => some (r_4, M_3)
set_option maxRecDepth 100000 in
set_option maxHeartbeats 4000000 in
theorem pj_X4_of_18 {p : Program} {l : Launch} {e : Env} {R : Room} {s : State} {m : MethodId} {args : Array Value} {below : List Frame} {meth : Method} {c : Code} {g : Gh} (X : Cx p l e R s m args below meth c g cX4_of 3 (0, 0) RX4 9) (hr : meth.sig.returnType = (some (.int))) (v1 : Int32) (v2 : Int32) (M : Mem) : J p l e R s m args below meth c g 3 (0, 0) (QfI below args s g) (pi_X4_of_18 v1 v2 M) M 18 [(0, .ref (gA g 49)), (1, .int v1), (2, .int v2)] [] := by
  unfold pi_X4_of_18
  refine j_aload_n (i := 0) X dX4_of_18 rfl rfl ?_
  refine j_ldc (v := (-1000001)) X wq_345 dX4_of_19 ?_
  refine k_cVI (As := [.int (-1000001)]) (rest := []) (by decide) (cf_md _) rfl X (ct_X4_finding l g (-1000001) M) wl_X4_81 rfl rfl (by decide) (Nat.le_of_ble_eq_true rfl) dX4_of_21 (fun r_4 M_3 => ?_)
  exact j_iret X hr dX4_of_24
def pi_X4_of_e (v1 : Int32) (v2 : Int32) (M : Mem) : Option (Int32 × Mem) := bd (mi_X4_isHill v1 M) fun r_2 M_1 => if r_2 = 0 then (pi_X4_of_18 v1 v2 M_1) else (bd (mi_X4_within v2 0 10 M_1) fun r_6 M_5 => if r_6 = 0 then (pi_X4_of_18 v1 v2 M_5) else (bv (mi_X4_looksAt M_5) fun M_7 => swc v2 [(6, bd (mi_X4_facesOf v1 M_7) fun r_9 M_8 => some (r_9, M_8)), (7, gd (inb v1 8) <| some (M_7 56 v1.toNatClampNeg, M_7)), (8, gd (inb v1 8) <| some (M_7 57 v1.toNatClampNeg, M_7)), (9, gd (inb v1 8) <| some (M_7 58 v1.toNatClampNeg, M_7)), (10, gd (inb v1 8) <| some (M_7 55 v1.toNatClampNeg, M_7))] (bd (mi_X4_hillIs v1 v2 M_7) fun r_15 M_14 => some (r_15, M_14))))
set_option maxRecDepth 100000 in
set_option maxHeartbeats 4000000 in
theorem pj_X4_of_e {p : Program} {l : Launch} {e : Env} {R : Room} {s : State} {m : MethodId} {args : Array Value} {below : List Frame} {meth : Method} {c : Code} {g : Gh} (X : Cx p l e R s m args below meth c g cX4_of 3 (0, 0) RX4 9) (hr : meth.sig.returnType = (some (.int))) (v1 : Int32) (v2 : Int32) (M : Mem) : J p l e R s m args below meth c g 3 (0, 0) (QfI below args s g) (pi_X4_of_e v1 v2 M) M 0 [(0, .ref (gA g 49)), (1, .int v1), (2, .int v2)] [] := by
  unfold pi_X4_of_e
  refine j_aload_n (i := 0) X dX4_of_0 rfl rfl ?_
  refine j_iload_n (i := 1) X dX4_of_1 rfl rfl ?_
  refine k_cVI (As := [.int v1]) (rest := []) (by decide) (cf_md _) rfl X (ct_X4_isHill l g v1 M) wl_X4_135 rfl rfl (by decide) (Nat.le_of_ble_eq_true rfl) dX4_of_2 (fun r_2 M_1 => ?_)
  refine j_if_eq (tgt := 18) X dX4_of_5 (by decide) ?_ ?_
  · exact pj_X4_of_18 X hr v1 v2 M_1
  · refine j_iload_n (i := 2) X dX4_of_8 rfl rfl ?_
    refine j_iconst (v := 0) X dX4_of_9 rfl ?_
    refine j_bipush (v := 10) X dX4_of_10 rfl ?_
    refine k_cSI (As := [.int v2, .int 0, .int 10]) (rest := []) X (ct_X4_within l g v2 0 10 M_1) wl_X4_85 rfl rfl (by decide) (Nat.le_of_ble_eq_true rfl) dX4_of_12 (fun r_6 M_5 => ?_)
    refine j_if_ne (tgt := 25) X dX4_of_15 (by decide) ?_ ?_
    · exact pj_X4_of_18 X hr v1 v2 M_5
    · refine j_aload_n (i := 0) X dX4_of_25 rfl rfl ?_
      refine k_cVV (As := []) (rest := []) (by decide) (cf_md _) rfl X (ct_X4_looksAt l g M_5) wl_X4_138 rfl rfl (by decide) (Nat.le_of_ble_eq_true rfl) dX4_of_26 (fun M_7 => ?_)
      refine j_iload_n (i := 2) X dX4_of_29 rfl rfl ?_
      refine j_tsw [6, 7, 8, 9, 10] [64, 70, 77, 84, 91] (dt := 98) X dX4_of_30 rfl (by decide +kernel) (by decide +kernel) (by decide) ⟨?_, ?_, ?_, ?_, ?_, trivial⟩ ?_
      · refine j_aload_n (i := 0) X dX4_of_64 rfl rfl ?_
        refine j_iload_n (i := 1) X dX4_of_65 rfl rfl ?_
        refine k_cVI (As := [.int v1]) (rest := []) (by decide) (cf_md _) rfl X (ct_X4_facesOf l g v1 M_7) wl_X4_114 rfl rfl (by decide) (Nat.le_of_ble_eq_true rfl) dX4_of_66 (fun r_9 M_8 => ?_)
        exact j_iret X hr dX4_of_69
      · refine j_aload_n (i := 0) X dX4_of_70 rfl rfl ?_
        refine j_get_md 7 X (by decide) wq_410 rfl dX4_of_71 ?_
        refine j_iload_n (i := 1) X dX4_of_74 rfl rfl ?_
        refine j_iald X ia_56 dX4_of_75 (fun h_10 => ?_)
        exact j_iret X hr dX4_of_76
      · refine j_aload_n (i := 0) X dX4_of_77 rfl rfl ?_
        refine j_get_md 8 X (by decide) wq_411 rfl dX4_of_78 ?_
        refine j_iload_n (i := 1) X dX4_of_81 rfl rfl ?_
        refine j_iald X ia_57 dX4_of_82 (fun h_11 => ?_)
        exact j_iret X hr dX4_of_83
      · refine j_aload_n (i := 0) X dX4_of_84 rfl rfl ?_
        refine j_get_md 9 X (by decide) wq_412 rfl dX4_of_85 ?_
        refine j_iload_n (i := 1) X dX4_of_88 rfl rfl ?_
        refine j_iald X ia_58 dX4_of_89 (fun h_12 => ?_)
        exact j_iret X hr dX4_of_90
      · refine j_aload_n (i := 0) X dX4_of_91 rfl rfl ?_
        refine j_get_md 6 X (by decide) wq_390 rfl dX4_of_92 ?_
        refine j_iload_n (i := 1) X dX4_of_95 rfl rfl ?_
        refine j_iald X ia_55 dX4_of_96 (fun h_13 => ?_)
        exact j_iret X hr dX4_of_97
      · refine j_aload_n (i := 0) X dX4_of_98 rfl rfl ?_
        refine j_iload_n (i := 1) X dX4_of_99 rfl rfl ?_
        refine j_iload_n (i := 2) X dX4_of_100 rfl rfl ?_
        refine k_cVI (As := [.int v1, .int v2]) (rest := []) (by decide) (cf_md _) rfl X (ct_X4_hillIs l g v1 v2 M_7) wl_X4_108 rfl rfl (by decide) (Nat.le_of_ble_eq_true rfl) dX4_of_101 (fun r_15 M_14 => ?_)
        exact j_iret X hr dX4_of_104
def mi_X4_of (v1 : Int32) (v2 : Int32) (M : Mem) : Option (Int32 × Mem) := pi_X4_of_e v1 v2 M
theorem ct_X4_of (l : Launch) (g : Gh) (v1 : Int32) (v2 : Int32) (M : Mem) : CtI l g yX4_of cX4_of 3 (some (.int)) 9 [.ref (gA g 49), .int v1, .int v2] M (mi_X4_of v1 v2 M) := ctI_of (own := RX4) (L := [(0, .ref (gA g 49)), (1, .int v1), (2, .int v2)]) (by decide +kernel) rfl (Nat.le_of_ble_eq_true rfl) rfl (fun p e s m args below meth c X hr => pj_X4_of_e X hr v1 v2  M)
