def pi_X4_isAsAside_4 (rc4 : Int32 × Int32 × Mem → Option (Int32 × Mem)) (v1 : Int32) (v2 : Int32) (M : Mem) : Option (Int32 × Mem) := gd (inb 1 62) <| if (M 50 (1 : Int32).toNatClampNeg) ≤ v2 then (gd (isB v1) (some (v1, M))) else (if v1 = 0 then (bI (v2 + 1) fun v2_2 => rc4 (0, v2_2, M)) else (bd (mi_X4_at v2 1 M) fun r_4 M_3 => gd (inb r_4 62) <| bd (mi_X4_at v2 1 M_3) fun r_7 M_6 => gd (inb r_7 62) <| if (M_3 50 r_4.toNatClampNeg) = (M_6 52 r_7.toNatClampNeg) then (bd (mi_X4_at v2 3 M_6) fun r_10 M_9 => gd (inb r_10 62) <| bd (mi_X4_at v2 3 M_9) fun r_13 M_12 => gd (inb r_13 62) <| if (M_9 50 r_10.toNatClampNeg) = (M_12 52 r_13.toNatClampNeg) then (bI (v2 + 1) fun v2_15 => rc4 (1, v2_15, M_12)) else (bI (v2 + 1) fun v2_16 => rc4 (0, v2_16, M_12))) else (bI (v2 + 1) fun v2_17 => rc4 (0, v2_17, M_6))))
set_option maxRecDepth 100000 in
set_option maxHeartbeats 4000000 in
theorem pj_X4_isAsAside_4 {p : Program} {l : Launch} {e : Env} {R : Room} {s : State} {m : MethodId} {args : Array Value} {below : List Frame} {meth : Method} {c : Code} {g : Gh} (X : Cx p l e R s m args below meth c g cX4_isAsAside 3 (0, 0) RX4 1) (hr : meth.sig.returnType = (some (.boolean))) (rc4 : Int32 × Int32 × Mem → Option (Int32 × Mem)) (hc4 : ∀ x, J p l e R s m args below meth c g 3 (0, 0) (QfI below args s g) (rc4 x) x.2.2 4 [(0, .ref (gA g 49)), (1, .int x.1), (2, .int x.2.1)] []) (v1 : Int32) (v2 : Int32) (M : Mem) : J p l e R s m args below meth c g 3 (0, 0) (QfI below args s g) (pi_X4_isAsAside_4 rc4 v1 v2 M) M 4 [(0, .ref (gA g 49)), (1, .int v1), (2, .int v2)] [] := by
  unfold pi_X4_isAsAside_4
  refine j_iload_n (i := 2) X dX4_isAsAside_4 rfl rfl ?_
  refine j_aload_n (i := 0) X dX4_isAsAside_5 rfl rfl ?_
  refine j_get_md 0 X (by decide) wq_346 rfl dX4_isAsAside_6 ?_
  refine j_iconst (v := 1) X dX4_isAsAside_9 rfl ?_
  refine j_iald X ia_50 dX4_isAsAside_10 (fun h_1 => ?_)
  refine j_icmp_ge (tgt := 76) X dX4_isAsAside_11 (by decide) ?_ ?_
  · refine j_iload_n (i := 1) X dX4_isAsAside_76 rfl rfl ?_
    exact j_zret X hr dX4_isAsAside_77
  · refine j_iload_n (i := 1) X dX4_isAsAside_14 rfl rfl ?_
    refine j_if_eq (tgt := 68) X dX4_isAsAside_15 (by decide) ?_ ?_
    · refine j_iconst (v := 0) X dX4_isAsAside_68 rfl ?_
      refine j_istore_n (i := 1) (Lq := [(0, .ref (gA g 49)), (1, .int 0), (2, .int v2)]) X dX4_isAsAside_69 rfl (by decide) rfl ?_
      refine j_iincB (i := 2) (y := v2 + 1) (Lf := fun v2_2 => [(0, .ref (gA g 49)), (1, .int 0), (2, .int v2_2)]) X dX4_isAsAside_70 rfl rfl (by decide) (fun _ => rfl) (fun v2_2 => ?_)
      refine j_goto (tgt := 4) X dX4_isAsAside_73 (by decide) ?_
      exact hc4 (0, v2_2, M)
    · refine j_aload_n (i := 0) X dX4_isAsAside_18 rfl rfl ?_
      refine j_get_md 0 X (by decide) wq_346 rfl dX4_isAsAside_19 ?_
      refine j_iload_n (i := 2) X dX4_isAsAside_22 rfl rfl ?_
      refine j_iconst (v := 1) X dX4_isAsAside_23 rfl ?_
      refine k_cSI (As := [.int v2, .int 1]) (rest := [.ref (gA g 50)]) X (ct_X4_at l g v2 1 M) wl_X4_93 rfl rfl (by decide) (Nat.le_of_ble_eq_true rfl) dX4_isAsAside_24 (fun r_4 M_3 => ?_)
      refine j_iald X ia_50 dX4_isAsAside_27 (fun h_5 => ?_)
      refine j_aload_n (i := 0) X dX4_isAsAside_28 rfl rfl ?_
      refine j_get_md 2 X (by decide) wq_347 rfl dX4_isAsAside_29 ?_
      refine j_iload_n (i := 2) X dX4_isAsAside_32 rfl rfl ?_
      refine j_iconst (v := 1) X dX4_isAsAside_33 rfl ?_
      refine k_cSI (As := [.int v2, .int 1]) (rest := [.ref (gA g 52), .int (M_3 50 r_4.toNatClampNeg)]) X (ct_X4_at l g v2 1 M_3) wl_X4_93 rfl rfl (by decide) (Nat.le_of_ble_eq_true rfl) dX4_isAsAside_34 (fun r_7 M_6 => ?_)
      refine j_iald X ia_52 dX4_isAsAside_37 (fun h_8 => ?_)
      refine j_icmp_ne (tgt := 68) X dX4_isAsAside_38 (by decide) ?_ ?_
      · refine j_aload_n (i := 0) X dX4_isAsAside_41 rfl rfl ?_
        refine j_get_md 0 X (by decide) wq_346 rfl dX4_isAsAside_42 ?_
        refine j_iload_n (i := 2) X dX4_isAsAside_45 rfl rfl ?_
        refine j_iconst (v := 3) X dX4_isAsAside_46 rfl ?_
        refine k_cSI (As := [.int v2, .int 3]) (rest := [.ref (gA g 50)]) X (ct_X4_at l g v2 3 M_6) wl_X4_93 rfl rfl (by decide) (Nat.le_of_ble_eq_true rfl) dX4_isAsAside_47 (fun r_10 M_9 => ?_)
        refine j_iald X ia_50 dX4_isAsAside_50 (fun h_11 => ?_)
        refine j_aload_n (i := 0) X dX4_isAsAside_51 rfl rfl ?_
        refine j_get_md 2 X (by decide) wq_347 rfl dX4_isAsAside_52 ?_
        refine j_iload_n (i := 2) X dX4_isAsAside_55 rfl rfl ?_
        refine j_iconst (v := 3) X dX4_isAsAside_56 rfl ?_
        refine k_cSI (As := [.int v2, .int 3]) (rest := [.ref (gA g 52), .int (M_9 50 r_10.toNatClampNeg)]) X (ct_X4_at l g v2 3 M_9) wl_X4_93 rfl rfl (by decide) (Nat.le_of_ble_eq_true rfl) dX4_isAsAside_57 (fun r_13 M_12 => ?_)
        refine j_iald X ia_52 dX4_isAsAside_60 (fun h_14 => ?_)
        refine j_icmp_ne (tgt := 68) X dX4_isAsAside_61 (by decide) ?_ ?_
        · refine j_iconst (v := 1) X dX4_isAsAside_64 rfl ?_
          refine j_goto (tgt := 69) X dX4_isAsAside_65 (by decide) ?_
          refine j_istore_n (i := 1) (Lq := [(0, .ref (gA g 49)), (1, .int 1), (2, .int v2)]) X dX4_isAsAside_69 rfl (by decide) rfl ?_
          refine j_iincB (i := 2) (y := v2 + 1) (Lf := fun v2_15 => [(0, .ref (gA g 49)), (1, .int 1), (2, .int v2_15)]) X dX4_isAsAside_70 rfl rfl (by decide) (fun _ => rfl) (fun v2_15 => ?_)
          refine j_goto (tgt := 4) X dX4_isAsAside_73 (by decide) ?_
          exact hc4 (1, v2_15, M_12)
        · refine j_iconst (v := 0) X dX4_isAsAside_68 rfl ?_
          refine j_istore_n (i := 1) (Lq := [(0, .ref (gA g 49)), (1, .int 0), (2, .int v2)]) X dX4_isAsAside_69 rfl (by decide) rfl ?_
          refine j_iincB (i := 2) (y := v2 + 1) (Lf := fun v2_16 => [(0, .ref (gA g 49)), (1, .int 0), (2, .int v2_16)]) X dX4_isAsAside_70 rfl rfl (by decide) (fun _ => rfl) (fun v2_16 => ?_)
          refine j_goto (tgt := 4) X dX4_isAsAside_73 (by decide) ?_
          exact hc4 (0, v2_16, M_12)
      · refine j_iconst (v := 0) X dX4_isAsAside_68 rfl ?_
        refine j_istore_n (i := 1) (Lq := [(0, .ref (gA g 49)), (1, .int 0), (2, .int v2)]) X dX4_isAsAside_69 rfl (by decide) rfl ?_
        refine j_iincB (i := 2) (y := v2 + 1) (Lf := fun v2_17 => [(0, .ref (gA g 49)), (1, .int 0), (2, .int v2_17)]) X dX4_isAsAside_70 rfl rfl (by decide) (fun _ => rfl) (fun v2_17 => ?_)
        refine j_goto (tgt := 4) X dX4_isAsAside_73 (by decide) ?_
        exact hc4 (0, v2_17, M_6)
def pi_X4_isAsAside_e (M : Mem) : Option (Int32 × Mem) := lp (fun rc4 x => pi_X4_isAsAside_4 rc4 x.1 x.2.1 x.2.2) FU (1, 0, M)
set_option maxRecDepth 100000 in
set_option maxHeartbeats 4000000 in
theorem pj_X4_isAsAside_e {p : Program} {l : Launch} {e : Env} {R : Room} {s : State} {m : MethodId} {args : Array Value} {below : List Frame} {meth : Method} {c : Code} {g : Gh} (X : Cx p l e R s m args below meth c g cX4_isAsAside 3 (0, 0) RX4 1) (hr : meth.sig.returnType = (some (.boolean))) (M : Mem) : J p l e R s m args below meth c g 3 (0, 0) (QfI below args s g) (pi_X4_isAsAside_e M) M 0 [(0, .ref (gA g 49))] [] := by
  unfold pi_X4_isAsAside_e
  refine j_iconst (v := 1) X dX4_isAsAside_0 rfl ?_
  refine j_istore_n (i := 1) (Lq := [(0, .ref (gA g 49)), (1, .int 1)]) X dX4_isAsAside_1 rfl (by decide) rfl ?_
  refine j_iconst (v := 0) X dX4_isAsAside_2 rfl ?_
  refine j_istore_n (i := 2) (Lq := [(0, .ref (gA g 49)), (1, .int 1), (2, .int 0)]) X dX4_isAsAside_3 rfl (by decide) rfl ?_
  exact j_lp (Lf := fun x => [(0, .ref (gA g 49)), (1, .int x.1), (2, .int x.2.1)]) (Mf := fun x => x.2.2) (fun rc4 hc4 x => pj_X4_isAsAside_4 X hr rc4 hc4 x.1 x.2.1 x.2.2) FU (1, 0, M)
def mi_X4_isAsAside (M : Mem) : Option (Int32 × Mem) := pi_X4_isAsAside_e  M
theorem ct_X4_isAsAside (l : Launch) (g : Gh) (M : Mem) : CtI l g yX4_isAsAside cX4_isAsAside 3 (some (.boolean)) 1 [.ref (gA g 49)] M (mi_X4_isAsAside  M) := ctI_of (own := RX4) (L := [(0, .ref (gA g 49))]) (by decide +kernel) rfl (Nat.le_of_ble_eq_true rfl) rfl (fun p e s m args below meth c X hr => pj_X4_isAsAside_e X hr   M)

def pi_X4_round_55 (t0 : Int32) (M : Mem) : Option (Int32 × Mem) := bd (mi_X4_putBack t0 M) fun r_6 M_5 => bd (mi_X4_orNone r_6 M_5) fun r_8 M_7 => some (r_8, M_7)
set_option maxRecDepth 100000 in
set_option maxHeartbeats 4000000 in
theorem pj_X4_round_55 {p : Program} {l : Launch} {e : Env} {R : Room} {s : State} {m : MethodId} {args : Array Value} {below : List Frame} {meth : Method} {c : Code} {g : Gh} (X : Cx p l e R s m args below meth c g cX4_round 2 (0, 0) RX4 10) (hr : meth.sig.returnType = (some (.int))) (t0 : Int32) (M : Mem) : J p l e R s m args below meth c g 2 (0, 0) (QfI below args s g) (pi_X4_round_55 t0 M) M 55 [(0, .ref (gA g 49))] [.int t0, .ref (gA g 49), .ref (gA g 49)] := by
  unfold pi_X4_round_55
  refine k_cVI (As := [.int t0]) (rest := [.ref (gA g 49)]) (by decide) (cf_md _) rfl X (ct_X4_putBack l g t0 M) wl_X4_184 rfl rfl (by decide) (Nat.le_of_ble_eq_true rfl) dX4_round_55 (fun r_6 M_5 => ?_)
  refine k_cVI (As := [.int r_6]) (rest := []) (by decide) (cf_md _) rfl X (ct_X4_orNone l g r_6 M_5) wl_X4_187 rfl rfl (by decide) (Nat.le_of_ble_eq_true rfl) dX4_round_58 (fun r_8 M_7 => ?_)
  exact j_iret X hr dX4_round_61
def pi_X4_round_41 (v1 : Int32) (M : Mem) : Option (Int32 × Mem) := bd (mi_X4_isAsAside M) fun r_4 M_3 => if r_4 = 0 then (pi_X4_round_55 (-1) M_3) else (pi_X4_round_55 v1 M_3)
set_option maxRecDepth 100000 in
set_option maxHeartbeats 4000000 in
theorem pj_X4_round_41 {p : Program} {l : Launch} {e : Env} {R : Room} {s : State} {m : MethodId} {args : Array Value} {below : List Frame} {meth : Method} {c : Code} {g : Gh} (X : Cx p l e R s m args below meth c g cX4_round 2 (0, 0) RX4 10) (hr : meth.sig.returnType = (some (.int))) (v1 : Int32) (M : Mem) : J p l e R s m args below meth c g 2 (0, 0) (QfI below args s g) (pi_X4_round_41 v1 M) M 41 [(0, .ref (gA g 49)), (1, .int v1)] [] := by
  unfold pi_X4_round_41
  refine j_aload_n (i := 0) X dX4_round_41 rfl rfl ?_
  refine j_aload_n (i := 0) X dX4_round_42 rfl rfl ?_
  refine j_aload_n (i := 0) X dX4_round_43 rfl rfl ?_
  refine k_cVI (As := []) (rest := [.ref (gA g 49), .ref (gA g 49)]) (by decide) (cf_md _) rfl X (ct_X4_isAsAside l g M) wl_X4_200 rfl rfl (by decide) (Nat.le_of_ble_eq_true rfl) dX4_round_44 (fun r_4 M_3 => ?_)
  refine j_if_eq (tgt := 54) X dX4_round_47 (by decide) ?_ ?_
  · refine j_iconst (v := (-1)) X dX4_round_54 rfl ?_
    refine j_pick [0] (Lq := [(0, .ref (gA g 49))]) rfl ?_
    exact pj_X4_round_55 X hr (-1) M_3
  · refine j_iload_n (i := 1) X dX4_round_50 rfl rfl ?_
    refine j_goto (tgt := 55) X dX4_round_51 (by decide) ?_
    refine j_pick [0] (Lq := [(0, .ref (gA g 49))]) rfl ?_
    exact pj_X4_round_55 X hr v1 M_3
def pi_X4_round_17 (rc17 : Int32 × Mem → Option (Int32 × Mem)) (v1 : Int32) (M : Mem) : Option (Int32 × Mem) := if 300 ≤ v1 then (pi_X4_round_41 v1 M) else (bd (mi_X4_isAsAside M) fun r_10 M_9 => if r_10 = 0 then (bv (mi_X4_age M_9) fun M_11 => bI (v1 + 1) fun v1_12 => rc17 (v1_12, M_11)) else (pi_X4_round_41 v1 M_9))
set_option maxRecDepth 100000 in
set_option maxHeartbeats 4000000 in
theorem pj_X4_round_17 {p : Program} {l : Launch} {e : Env} {R : Room} {s : State} {m : MethodId} {args : Array Value} {below : List Frame} {meth : Method} {c : Code} {g : Gh} (X : Cx p l e R s m args below meth c g cX4_round 2 (0, 0) RX4 10) (hr : meth.sig.returnType = (some (.int))) (rc17 : Int32 × Mem → Option (Int32 × Mem)) (hc17 : ∀ x, J p l e R s m args below meth c g 2 (0, 0) (QfI below args s g) (rc17 x) x.2 17 [(0, .ref (gA g 49)), (1, .int x.1)] []) (v1 : Int32) (M : Mem) : J p l e R s m args below meth c g 2 (0, 0) (QfI below args s g) (pi_X4_round_17 rc17 v1 M) M 17 [(0, .ref (gA g 49)), (1, .int v1)] [] := by
  unfold pi_X4_round_17
  refine j_iload_n (i := 1) X dX4_round_17 rfl rfl ?_
  refine j_sipush (v := 300) X dX4_round_18 rfl ?_
  refine j_icmp_ge (tgt := 41) X dX4_round_21 (by decide) ?_ ?_
  · exact pj_X4_round_41 X hr v1 M
  · refine j_aload_n (i := 0) X dX4_round_24 rfl rfl ?_
    refine k_cVI (As := []) (rest := []) (by decide) (cf_md _) rfl X (ct_X4_isAsAside l g M) wl_X4_200 rfl rfl (by decide) (Nat.le_of_ble_eq_true rfl) dX4_round_25 (fun r_10 M_9 => ?_)
    refine j_if_ne (tgt := 41) X dX4_round_28 (by decide) ?_ ?_
    · refine j_aload_n (i := 0) X dX4_round_31 rfl rfl ?_
      refine k_cVV (As := []) (rest := []) (by decide) (cf_md _) rfl X (ct_X4_age l g M_9) wl_X4_162 rfl rfl (by decide) (Nat.le_of_ble_eq_true rfl) dX4_round_32 (fun M_11 => ?_)
      refine j_iincB (i := 1) (y := v1 + 1) (Lf := fun v1_12 => [(0, .ref (gA g 49)), (1, .int v1_12)]) X dX4_round_35 rfl rfl (by decide) (fun _ => rfl) (fun v1_12 => ?_)
      refine j_goto (tgt := 17) X dX4_round_38 (by decide) ?_
      exact hc17 (v1_12, M_11)
    · exact pj_X4_round_41 X hr v1 M_9
def pi_X4_round_e (M : Mem) : Option (Int32 × Mem) := bv (mi_X4_copyRow 50 62 52 62 M) fun M_1 => bv (mi_X4_age M_1) fun M_2 => lp (fun rc17 x => pi_X4_round_17 rc17 x.1 x.2) FU (1, M_2)
set_option maxRecDepth 100000 in
set_option maxHeartbeats 4000000 in
theorem pj_X4_round_e {p : Program} {l : Launch} {e : Env} {R : Room} {s : State} {m : MethodId} {args : Array Value} {below : List Frame} {meth : Method} {c : Code} {g : Gh} (X : Cx p l e R s m args below meth c g cX4_round 2 (0, 0) RX4 10) (hr : meth.sig.returnType = (some (.int))) (M : Mem) : J p l e R s m args below meth c g 2 (0, 0) (QfI below args s g) (pi_X4_round_e M) M 0 [(0, .ref (gA g 49))] [] := by
  unfold pi_X4_round_e
  refine j_aload_n (i := 0) X dX4_round_0 rfl rfl ?_
  refine j_get_md 0 X (by decide) wq_346 rfl dX4_round_1 ?_
  refine j_aload_n (i := 0) X dX4_round_4 rfl rfl ?_
  refine j_get_md 2 X (by decide) wq_347 rfl dX4_round_5 ?_
  refine k_cSV (As := [.ref (gA g 50), .ref (gA g 52)]) (rest := []) X (ct_X4_copyRow l g 50 62 52 62 ia_50 ia_52 M) wl_X4_76 rfl rfl (by decide) (Nat.le_of_ble_eq_true rfl) dX4_round_8 (fun M_1 => ?_)
  refine j_aload_n (i := 0) X dX4_round_11 rfl rfl ?_
  refine k_cVV (As := []) (rest := []) (by decide) (cf_md _) rfl X (ct_X4_age l g M_1) wl_X4_162 rfl rfl (by decide) (Nat.le_of_ble_eq_true rfl) dX4_round_12 (fun M_2 => ?_)
  refine j_iconst (v := 1) X dX4_round_15 rfl ?_
  refine j_istore_n (i := 1) (Lq := [(0, .ref (gA g 49)), (1, .int 1)]) X dX4_round_16 rfl (by decide) rfl ?_
  exact j_lp (Lf := fun x => [(0, .ref (gA g 49)), (1, .int x.1)]) (Mf := fun x => x.2) (fun rc17 hc17 x => pj_X4_round_17 X hr rc17 hc17 x.1 x.2) FU (1, M_2)
def mi_X4_round (M : Mem) : Option (Int32 × Mem) := pi_X4_round_e  M
theorem ct_X4_round (l : Launch) (g : Gh) (M : Mem) : CtI l g yX4_round cX4_round 2 (some (.int)) 10 [.ref (gA g 49)] M (mi_X4_round  M) := ctI_of (own := RX4) (L := [(0, .ref (gA g 49))]) (by decide +kernel) rfl (Nat.le_of_ble_eq_true rfl) rfl (fun p e s m args below meth c X hr => pj_X4_round_e X hr   M)

def pi_X4_isSoon_e (v0 : Int32) (M : Mem) : Option (Int32 × Mem) := bd (mi_X4_within v0 0 200 M) fun r_2 M_1 => gd (isB r_2) (some (r_2, M_1))
set_option maxRecDepth 100000 in
set_option maxHeartbeats 4000000 in
theorem pj_X4_isSoon_e {p : Program} {l : Launch} {e : Env} {R : Room} {s : State} {m : MethodId} {args : Array Value} {below : List Frame} {meth : Method} {c : Code} {g : Gh} (X : Cx p l e R s m args below meth c g cX4_isSoon 1 (0, 0) RX4 1) (hr : meth.sig.returnType = (some (.boolean))) (v0 : Int32) (M : Mem) : J p l e R s m args below meth c g 1 (0, 0) (QfI below args s g) (pi_X4_isSoon_e v0 M) M 0 [(0, .int v0)] [] := by
  unfold pi_X4_isSoon_e
  refine j_iload_n (i := 0) X dX4_isSoon_0 rfl rfl ?_
  refine j_iconst (v := 0) X dX4_isSoon_1 rfl ?_
  refine j_sipush (v := 200) X dX4_isSoon_2 rfl ?_
  refine k_cSI (As := [.int v0, .int 0, .int 200]) (rest := []) X (ct_X4_within l g v0 0 200 M) wl_X4_85 rfl rfl (by decide) (Nat.le_of_ble_eq_true rfl) dX4_isSoon_5 (fun r_2 M_1 => ?_)
  exact j_zret X hr dX4_isSoon_8
def mi_X4_isSoon (v0 : Int32) (M : Mem) : Option (Int32 × Mem) := pi_X4_isSoon_e v0 M
theorem ct_X4_isSoon (l : Launch) (g : Gh) (v0 : Int32) (M : Mem) : CtI l g yX4_isSoon cX4_isSoon 1 (some (.boolean)) 1 [.int v0] M (mi_X4_isSoon v0 M) := ctI_of (own := RX4) (L := [(0, .int v0)]) (by decide +kernel) rfl (Nat.le_of_ble_eq_true rfl) rfl (fun p e s m args below meth c X hr => pj_X4_isSoon_e X hr v0  M)

def pi_X4_skylines_14 (v1 : Int32) (v2 : Int32) (M : Mem) : Option (Int32 × Mem) := bd (mi_X4_finding (-1000001) M) fun r_4 M_3 => some (r_4, M_3)
set_option maxRecDepth 100000 in
set_option maxHeartbeats 4000000 in
theorem pj_X4_skylines_14 {p : Program} {l : Launch} {e : Env} {R : Room} {s : State} {m : MethodId} {args : Array Value} {below : List Frame} {meth : Method} {c : Code} {g : Gh} (X : Cx p l e R s m args below meth c g cX4_skylines 5 (0, 0) RX4 10) (hr : meth.sig.returnType = (some (.int))) (v1 : Int32) (v2 : Int32) (M : Mem) : J p l e R s m args below meth c g 5 (0, 0) (QfI below args s g) (pi_X4_skylines_14 v1 v2 M) M 14 [(0, .ref (gA g 49)), (1, .int v1), (2, .int v2)] [] := by
  unfold pi_X4_skylines_14
  refine j_aload_n (i := 0) X dX4_skylines_14 rfl rfl ?_
  refine j_ldc (v := (-1000001)) X wq_345 dX4_skylines_15 ?_
  refine k_cVI (As := [.int (-1000001)]) (rest := []) (by decide) (cf_md _) rfl X (ct_X4_finding l g (-1000001) M) wl_X4_81 rfl rfl (by decide) (Nat.le_of_ble_eq_true rfl) dX4_skylines_17 (fun r_4 M_3 => ?_)
  exact j_iret X hr dX4_skylines_20
def pi_X4_skylines_57 (v1 : Int32) (v2 : Int32) (v4 : Int32) (t0 : Int32) (t1 : Int32) (rc37 : Int32 × Int32 × Mem → Option (Int32 × Mem)) (M : Mem) : Option (Int32 × Mem) := bI (t1 + t0) fun v3_12 => bv (mi_X4_age M) fun M_13 => bI (v4 + 1) fun v4_14 => rc37 (v3_12, v4_14, M_13)
set_option maxRecDepth 100000 in
set_option maxHeartbeats 4000000 in
theorem pj_X4_skylines_57 {p : Program} {l : Launch} {e : Env} {R : Room} {s : State} {m : MethodId} {args : Array Value} {below : List Frame} {meth : Method} {c : Code} {g : Gh} (X : Cx p l e R s m args below meth c g cX4_skylines 5 (0, 0) RX4 10) (hr : meth.sig.returnType = (some (.int))) (v1 : Int32) (v2 : Int32) (v4 : Int32) (t0 : Int32) (t1 : Int32) (rc37 : Int32 × Int32 × Mem → Option (Int32 × Mem)) (hc37 : ∀ x, J p l e R s m args below meth c g 5 (0, 0) (QfI below args s g) (rc37 x) x.2.2 37 [(0, .ref (gA g 49)), (1, .int v1), (2, .int v2), (3, .int x.1), (4, .int x.2.1)] []) (M : Mem) : J p l e R s m args below meth c g 5 (0, 0) (QfI below args s g) (pi_X4_skylines_57 v1 v2 v4 t0 t1 rc37 M) M 57 [(0, .ref (gA g 49)), (1, .int v1), (2, .int v2), (4, .int v4)] [.int t0, .int t1] := by
  unfold pi_X4_skylines_57
  refine j_iadd X dX4_skylines_57 ?_
  refine j_bI (fun v3_12 => ?_)
  refine j_istore_n (i := 3) (Lq := [(0, .ref (gA g 49)), (1, .int v1), (2, .int v2), (3, .int v3_12), (4, .int v4)]) X dX4_skylines_58 rfl (by decide) rfl ?_
  refine j_aload_n (i := 0) X dX4_skylines_59 rfl rfl ?_
  refine k_cVV (As := []) (rest := []) (by decide) (cf_md _) rfl X (ct_X4_age l g M) wl_X4_162 rfl rfl (by decide) (Nat.le_of_ble_eq_true rfl) dX4_skylines_60 (fun M_13 => ?_)
  refine j_iincB (i := 4) (y := v4 + 1) (Lf := fun v4_14 => [(0, .ref (gA g 49)), (1, .int v1), (2, .int v2), (3, .int v3_12), (4, .int v4_14)]) X dX4_skylines_63 rfl rfl (by decide) (fun _ => rfl) (fun v4_14 => ?_)
  refine j_goto (tgt := 37) X dX4_skylines_66 (by decide) ?_
  exact hc37 (v3_12, v4_14, M_13)
def pi_X4_skylines_37 (v1 : Int32) (v2 : Int32) (rc37 : Int32 × Int32 × Mem → Option (Int32 × Mem)) (v3 : Int32) (v4 : Int32) (M : Mem) : Option (Int32 × Mem) := if v2 ≤ v4 then (bd (mi_X4_putBack v3 M) fun r_9 M_8 => some (r_9, M_8)) else (bd (mi_X4_facing v1 M) fun r_11 M_10 => if r_11 = 0 then (pi_X4_skylines_57 v1 v2 v4 0 v3 rc37 M_10) else (pi_X4_skylines_57 v1 v2 v4 1 v3 rc37 M_10))
set_option maxRecDepth 100000 in
set_option maxHeartbeats 4000000 in
theorem pj_X4_skylines_37 {p : Program} {l : Launch} {e : Env} {R : Room} {s : State} {m : MethodId} {args : Array Value} {below : List Frame} {meth : Method} {c : Code} {g : Gh} (X : Cx p l e R s m args below meth c g cX4_skylines 5 (0, 0) RX4 10) (hr : meth.sig.returnType = (some (.int))) (v1 : Int32) (v2 : Int32) (rc37 : Int32 × Int32 × Mem → Option (Int32 × Mem)) (hc37 : ∀ x, J p l e R s m args below meth c g 5 (0, 0) (QfI below args s g) (rc37 x) x.2.2 37 [(0, .ref (gA g 49)), (1, .int v1), (2, .int v2), (3, .int x.1), (4, .int x.2.1)] []) (v3 : Int32) (v4 : Int32) (M : Mem) : J p l e R s m args below meth c g 5 (0, 0) (QfI below args s g) (pi_X4_skylines_37 v1 v2 rc37 v3 v4 M) M 37 [(0, .ref (gA g 49)), (1, .int v1), (2, .int v2), (3, .int v3), (4, .int v4)] [] := by
  unfold pi_X4_skylines_37
  refine j_iload (i := 4) X dX4_skylines_37 rfl ?_
  refine j_iload_n (i := 2) X dX4_skylines_39 rfl rfl ?_
  refine j_icmp_ge (tgt := 69) X dX4_skylines_40 (by decide) ?_ ?_
  · refine j_aload_n (i := 0) X dX4_skylines_69 rfl rfl ?_
    refine j_iload_n (i := 3) X dX4_skylines_70 rfl rfl ?_
    refine k_cVI (As := [.int v3]) (rest := []) (by decide) (cf_md _) rfl X (ct_X4_putBack l g v3 M) wl_X4_184 rfl rfl (by decide) (Nat.le_of_ble_eq_true rfl) dX4_skylines_71 (fun r_9 M_8 => ?_)
    exact j_iret X hr dX4_skylines_74
  · refine j_iload_n (i := 3) X dX4_skylines_43 rfl rfl ?_
    refine j_aload_n (i := 0) X dX4_skylines_44 rfl rfl ?_
    refine j_iload_n (i := 1) X dX4_skylines_45 rfl rfl ?_
    refine k_cVI (As := [.int v1]) (rest := [.int v3]) (by decide) (cf_md _) rfl X (ct_X4_facing l g v1 M) wl_X4_153 rfl rfl (by decide) (Nat.le_of_ble_eq_true rfl) dX4_skylines_46 (fun r_11 M_10 => ?_)
    refine j_if_eq (tgt := 56) X dX4_skylines_49 (by decide) ?_ ?_
    · refine j_iconst (v := 0) X dX4_skylines_56 rfl ?_
      refine j_pick [0, 1, 2, 4] (Lq := [(0, .ref (gA g 49)), (1, .int v1), (2, .int v2), (4, .int v4)]) rfl ?_
      exact pj_X4_skylines_57 X hr v1 v2 v4 0 v3 rc37 hc37 M_10
    · refine j_iconst (v := 1) X dX4_skylines_52 rfl ?_
      refine j_goto (tgt := 57) X dX4_skylines_53 (by decide) ?_
      refine j_pick [0, 1, 2, 4] (Lq := [(0, .ref (gA g 49)), (1, .int v1), (2, .int v2), (4, .int v4)]) rfl ?_
      exact pj_X4_skylines_57 X hr v1 v2 v4 1 v3 rc37 hc37 M_10
def pi_X4_skylines_e (v1 : Int32) (v2 : Int32) (M : Mem) : Option (Int32 × Mem) := bd (mi_X4_isValley v1 M) fun r_2 M_1 => if r_2 = 0 then (pi_X4_skylines_14 v1 v2 M_1) else (bd (mi_X4_isSoon v2 M_1) fun r_6 M_5 => if r_6 = 0 then (pi_X4_skylines_14 v1 v2 M_5) else (bv (mi_X4_copyRow 50 62 52 62 M_5) fun M_7 => lp (fun rc37 x => pi_X4_skylines_37 v1 v2 rc37 x.1 x.2.1 x.2.2) FU (0, 0, M_7)))
set_option maxRecDepth 100000 in
set_option maxHeartbeats 4000000 in
theorem pj_X4_skylines_e {p : Program} {l : Launch} {e : Env} {R : Room} {s : State} {m : MethodId} {args : Array Value} {below : List Frame} {meth : Method} {c : Code} {g : Gh} (X : Cx p l e R s m args below meth c g cX4_skylines 5 (0, 0) RX4 10) (hr : meth.sig.returnType = (some (.int))) (v1 : Int32) (v2 : Int32) (M : Mem) : J p l e R s m args below meth c g 5 (0, 0) (QfI below args s g) (pi_X4_skylines_e v1 v2 M) M 0 [(0, .ref (gA g 49)), (1, .int v1), (2, .int v2)] [] := by
  unfold pi_X4_skylines_e
  refine j_iload_n (i := 1) X dX4_skylines_0 rfl rfl ?_
  refine k_cSI (As := [.int v1]) (rest := []) X (ct_X4_isValley l g v1 M) wl_X4_100 rfl rfl (by decide) (Nat.le_of_ble_eq_true rfl) dX4_skylines_1 (fun r_2 M_1 => ?_)
  refine j_if_eq (tgt := 14) X dX4_skylines_4 (by decide) ?_ ?_
  · exact pj_X4_skylines_14 X hr v1 v2 M_1
  · refine j_iload_n (i := 2) X dX4_skylines_7 rfl rfl ?_
    refine k_cSI (As := [.int v2]) (rest := []) X (ct_X4_isSoon l g v2 M_1) wl_X4_204 rfl rfl (by decide) (Nat.le_of_ble_eq_true rfl) dX4_skylines_8 (fun r_6 M_5 => ?_)
    refine j_if_ne (tgt := 21) X dX4_skylines_11 (by decide) ?_ ?_
    · exact pj_X4_skylines_14 X hr v1 v2 M_5
    · refine j_aload_n (i := 0) X dX4_skylines_21 rfl rfl ?_
      refine j_get_md 0 X (by decide) wq_346 rfl dX4_skylines_22 ?_
      refine j_aload_n (i := 0) X dX4_skylines_25 rfl rfl ?_
      refine j_get_md 2 X (by decide) wq_347 rfl dX4_skylines_26 ?_
      refine k_cSV (As := [.ref (gA g 50), .ref (gA g 52)]) (rest := []) X (ct_X4_copyRow l g 50 62 52 62 ia_50 ia_52 M_5) wl_X4_76 rfl rfl (by decide) (Nat.le_of_ble_eq_true rfl) dX4_skylines_29 (fun M_7 => ?_)
      refine j_iconst (v := 0) X dX4_skylines_32 rfl ?_
      refine j_istore_n (i := 3) (Lq := [(0, .ref (gA g 49)), (1, .int v1), (2, .int v2), (3, .int 0)]) X dX4_skylines_33 rfl (by decide) rfl ?_
      refine j_iconst (v := 0) X dX4_skylines_34 rfl ?_
      refine j_istore (i := 4) (Lq := [(0, .ref (gA g 49)), (1, .int v1), (2, .int v2), (3, .int 0), (4, .int 0)]) X dX4_skylines_35 (by decide) rfl ?_
      exact j_lp (Lf := fun x => [(0, .ref (gA g 49)), (1, .int v1), (2, .int v2), (3, .int x.1), (4, .int x.2.1)]) (Mf := fun x => x.2.2) (fun rc37 hc37 x => pj_X4_skylines_37 X hr v1 v2 rc37 hc37 x.1 x.2.1 x.2.2) FU (0, 0, M_7)
def mi_X4_skylines (v1 : Int32) (v2 : Int32) (M : Mem) : Option (Int32 × Mem) := pi_X4_skylines_e v1 v2 M
theorem ct_X4_skylines (l : Launch) (g : Gh) (v1 : Int32) (v2 : Int32) (M : Mem) : CtI l g yX4_skylines cX4_skylines 5 (some (.int)) 10 [.ref (gA g 49), .int v1, .int v2] M (mi_X4_skylines v1 v2 M) := ctI_of (own := RX4) (L := [(0, .ref (gA g 49)), (1, .int v1), (2, .int v2)]) (by decide +kernel) rfl (Nat.le_of_ble_eq_true rfl) rfl (fun p e s m args below meth c X hr => pj_X4_skylines_e X hr v1 v2  M)

def pi_X4_wallflowers_29 (v1 : Int32) (rc29 : Int32 × Int32 × Mem → Option (Int32 × Mem)) (v2 : Int32) (v3 : Int32) (M : Mem) : Option (Int32 × Mem) := if v1 ≤ v3 then (gd (inb 1 62) <| bd (mi_X4_putBack (((1 <<< ((M 50 (1 : Int32).toNatClampNeg) &&& 31)) - 1) &&& (v2 ^^^ (-1))) M) fun r_8 M_7 => some (r_8, M_7)) else (bd (mi_X4_whoMeets M) fun r_10 M_9 => bI (v2 ||| r_10) fun v2_11 => bv (mi_X4_age M_9) fun M_12 => bI (v3 + 1) fun v3_13 => rc29 (v2_11, v3_13, M_12))
set_option maxRecDepth 100000 in
set_option maxHeartbeats 4000000 in
theorem pj_X4_wallflowers_29 {p : Program} {l : Launch} {e : Env} {R : Room} {s : State} {m : MethodId} {args : Array Value} {below : List Frame} {meth : Method} {c : Code} {g : Gh} (X : Cx p l e R s m args below meth c g cX4_wallflowers 4 (0, 0) RX4 10) (hr : meth.sig.returnType = (some (.int))) (v1 : Int32) (rc29 : Int32 × Int32 × Mem → Option (Int32 × Mem)) (hc29 : ∀ x, J p l e R s m args below meth c g 4 (0, 0) (QfI below args s g) (rc29 x) x.2.2 29 [(0, .ref (gA g 49)), (1, .int v1), (2, .int x.1), (3, .int x.2.1)] []) (v2 : Int32) (v3 : Int32) (M : Mem) : J p l e R s m args below meth c g 4 (0, 0) (QfI below args s g) (pi_X4_wallflowers_29 v1 rc29 v2 v3 M) M 29 [(0, .ref (gA g 49)), (1, .int v1), (2, .int v2), (3, .int v3)] [] := by
  unfold pi_X4_wallflowers_29
  refine j_iload_n (i := 3) X dX4_wallflowers_29 rfl rfl ?_
  refine j_iload_n (i := 1) X dX4_wallflowers_30 rfl rfl ?_
  refine j_icmp_ge (tgt := 51) X dX4_wallflowers_31 (by decide) ?_ ?_
  · refine j_aload_n (i := 0) X dX4_wallflowers_51 rfl rfl ?_
    refine j_iconst (v := 1) X dX4_wallflowers_52 rfl ?_
    refine j_aload_n (i := 0) X dX4_wallflowers_53 rfl rfl ?_
    refine j_get_md 0 X (by decide) wq_346 rfl dX4_wallflowers_54 ?_
    refine j_iconst (v := 1) X dX4_wallflowers_57 rfl ?_
    refine j_iald X ia_50 dX4_wallflowers_58 (fun h_6 => ?_)
    refine j_ishl X dX4_wallflowers_59 ?_
    refine j_iconst (v := 1) X dX4_wallflowers_60 rfl ?_
    refine j_isub X dX4_wallflowers_61 ?_
    refine j_iload_n (i := 2) X dX4_wallflowers_62 rfl rfl ?_
    refine j_iconst (v := (-1)) X dX4_wallflowers_63 rfl ?_
    refine j_ixor X dX4_wallflowers_64 ?_
    refine j_iand X dX4_wallflowers_65 ?_
    refine k_cVI (As := [.int (((1 <<< ((M 50 (1 : Int32).toNatClampNeg) &&& 31)) - 1) &&& (v2 ^^^ (-1)))]) (rest := []) (by decide) (cf_md _) rfl X (ct_X4_putBack l g (((1 <<< ((M 50 (1 : Int32).toNatClampNeg) &&& 31)) - 1) &&& (v2 ^^^ (-1))) M) wl_X4_184 rfl rfl (by decide) (Nat.le_of_ble_eq_true rfl) dX4_wallflowers_66 (fun r_8 M_7 => ?_)
    exact j_iret X hr dX4_wallflowers_69
  · refine j_iload_n (i := 2) X dX4_wallflowers_34 rfl rfl ?_
    refine j_aload_n (i := 0) X dX4_wallflowers_35 rfl rfl ?_
    refine k_cVI (As := []) (rest := [.int v2]) (by decide) (cf_md _) rfl X (ct_X4_whoMeets l g M) wl_X4_171 rfl rfl (by decide) (Nat.le_of_ble_eq_true rfl) dX4_wallflowers_36 (fun r_10 M_9 => ?_)
    refine j_ior X dX4_wallflowers_39 ?_
    refine j_bI (fun v2_11 => ?_)
    refine j_istore_n (i := 2) (Lq := [(0, .ref (gA g 49)), (1, .int v1), (2, .int v2_11), (3, .int v3)]) X dX4_wallflowers_40 rfl (by decide) rfl ?_
    refine j_aload_n (i := 0) X dX4_wallflowers_41 rfl rfl ?_
    refine k_cVV (As := []) (rest := []) (by decide) (cf_md _) rfl X (ct_X4_age l g M_9) wl_X4_162 rfl rfl (by decide) (Nat.le_of_ble_eq_true rfl) dX4_wallflowers_42 (fun M_12 => ?_)
    refine j_iincB (i := 3) (y := v3 + 1) (Lf := fun v3_13 => [(0, .ref (gA g 49)), (1, .int v1), (2, .int v2_11), (3, .int v3_13)]) X dX4_wallflowers_45 rfl rfl (by decide) (fun _ => rfl) (fun v3_13 => ?_)
    refine j_goto (tgt := 29) X dX4_wallflowers_48 (by decide) ?_
    exact hc29 (v2_11, v3_13, M_12)
def pi_X4_wallflowers_e (v1 : Int32) (M : Mem) : Option (Int32 × Mem) := bd (mi_X4_isSoon v1 M) fun r_2 M_1 => if r_2 = 0 then (bd (mi_X4_finding (-1000001) M_1) fun r_4 M_3 => some (r_4, M_3)) else (bv (mi_X4_copyRow 50 62 52 62 M_1) fun M_5 => lp (fun rc29 x => pi_X4_wallflowers_29 v1 rc29 x.1 x.2.1 x.2.2) FU (0, 0, M_5))
set_option maxRecDepth 100000 in
set_option maxHeartbeats 4000000 in
theorem pj_X4_wallflowers_e {p : Program} {l : Launch} {e : Env} {R : Room} {s : State} {m : MethodId} {args : Array Value} {below : List Frame} {meth : Method} {c : Code} {g : Gh} (X : Cx p l e R s m args below meth c g cX4_wallflowers 4 (0, 0) RX4 10) (hr : meth.sig.returnType = (some (.int))) (v1 : Int32) (M : Mem) : J p l e R s m args below meth c g 4 (0, 0) (QfI below args s g) (pi_X4_wallflowers_e v1 M) M 0 [(0, .ref (gA g 49)), (1, .int v1)] [] := by
  unfold pi_X4_wallflowers_e
  refine j_iload_n (i := 1) X dX4_wallflowers_0 rfl rfl ?_
  refine k_cSI (As := [.int v1]) (rest := []) X (ct_X4_isSoon l g v1 M) wl_X4_204 rfl rfl (by decide) (Nat.le_of_ble_eq_true rfl) dX4_wallflowers_1 (fun r_2 M_1 => ?_)
  refine j_if_ne (tgt := 14) X dX4_wallflowers_4 (by decide) ?_ ?_
  · refine j_aload_n (i := 0) X dX4_wallflowers_7 rfl rfl ?_
    refine j_ldc (v := (-1000001)) X wq_345 dX4_wallflowers_8 ?_
    refine k_cVI (As := [.int (-1000001)]) (rest := []) (by decide) (cf_md _) rfl X (ct_X4_finding l g (-1000001) M_1) wl_X4_81 rfl rfl (by decide) (Nat.le_of_ble_eq_true rfl) dX4_wallflowers_10 (fun r_4 M_3 => ?_)
    exact j_iret X hr dX4_wallflowers_13
  · refine j_aload_n (i := 0) X dX4_wallflowers_14 rfl rfl ?_
    refine j_get_md 0 X (by decide) wq_346 rfl dX4_wallflowers_15 ?_
    refine j_aload_n (i := 0) X dX4_wallflowers_18 rfl rfl ?_
    refine j_get_md 2 X (by decide) wq_347 rfl dX4_wallflowers_19 ?_
    refine k_cSV (As := [.ref (gA g 50), .ref (gA g 52)]) (rest := []) X (ct_X4_copyRow l g 50 62 52 62 ia_50 ia_52 M_1) wl_X4_76 rfl rfl (by decide) (Nat.le_of_ble_eq_true rfl) dX4_wallflowers_22 (fun M_5 => ?_)
    refine j_iconst (v := 0) X dX4_wallflowers_25 rfl ?_
    refine j_istore_n (i := 2) (Lq := [(0, .ref (gA g 49)), (1, .int v1), (2, .int 0)]) X dX4_wallflowers_26 rfl (by decide) rfl ?_
    refine j_iconst (v := 0) X dX4_wallflowers_27 rfl ?_
    refine j_istore_n (i := 3) (Lq := [(0, .ref (gA g 49)), (1, .int v1), (2, .int 0), (3, .int 0)]) X dX4_wallflowers_28 rfl (by decide) rfl ?_
    exact j_lp (Lf := fun x => [(0, .ref (gA g 49)), (1, .int v1), (2, .int x.1), (3, .int x.2.1)]) (Mf := fun x => x.2.2) (fun rc29 hc29 x => pj_X4_wallflowers_29 X hr v1 rc29 hc29 x.1 x.2.1 x.2.2) FU (0, 0, M_5)
def mi_X4_wallflowers (v1 : Int32) (M : Mem) : Option (Int32 × Mem) := pi_X4_wallflowers_e v1 M
theorem ct_X4_wallflowers (l : Launch) (g : Gh) (v1 : Int32) (M : Mem) : CtI l g yX4_wallflowers cX4_wallflowers 4 (some (.int)) 10 [.ref (gA g 49), .int v1] M (mi_X4_wallflowers v1 M) := ctI_of (own := RX4) (L := [(0, .ref (gA g 49)), (1, .int v1)]) (by decide +kernel) rfl (Nat.le_of_ble_eq_true rfl) rfl (fun p e s m args below meth c X hr => pj_X4_wallflowers_e X hr v1  M)

def pi_X4_soonest_62 (v1 : Int32) (v2 : Int32) (v3 : Int32) (v4 : Int32) (v5 : Int32) (v6 : Int32) (v8 : Int32) (v9 : Int32) (v10 : Int32) (t0 : Int32) (rc21 : Int32 × Int32 × Int32 × Mem → Option (Int32 × Mem)) (M : Mem) : Option (Int32 × Mem) := if v10 < 0 then (bI (v9 + 1) fun v9_15 => rc21 (t0, v8, v9_15, M)) else (bI (v9 + 1) fun v9_16 => rc21 (t0, v10, v9_16, M))
set_option maxRecDepth 100000 in
set_option maxHeartbeats 4000000 in
theorem pj_X4_soonest_62 {p : Program} {l : Launch} {e : Env} {R : Room} {s : State} {m : MethodId} {args : Array Value} {below : List Frame} {meth : Method} {c : Code} {g : Gh} (X : Cx p l e R s m args below meth c g cX4_soonest 11 (0, 0) RX4 11) (hr : meth.sig.returnType = (some (.int))) (v1 : Int32) (v2 : Int32) (v3 : Int32) (v4 : Int32) (v5 : Int32) (v6 : Int32) (v8 : Int32) (v9 : Int32) (v10 : Int32) (t0 : Int32) (rc21 : Int32 × Int32 × Int32 × Mem → Option (Int32 × Mem)) (hc21 : ∀ x, J p l e R s m args below meth c g 11 (0, 0) (QfI below args s g) (rc21 x) x.2.2.2 21 [(0, .ref (gA g 49)), (1, .int v1), (2, .int v2), (3, .int v3), (4, .int v4), (5, .int v5), (6, .int v6), (7, .int x.1), (8, .int x.2.1), (9, .int x.2.2.1)] []) (M : Mem) : J p l e R s m args below meth c g 11 (0, 0) (QfI below args s g) (pi_X4_soonest_62 v1 v2 v3 v4 v5 v6 v8 v9 v10 t0 rc21 M) M 62 [(0, .ref (gA g 49)), (1, .int v1), (2, .int v2), (3, .int v3), (4, .int v4), (5, .int v5), (6, .int v6), (8, .int v8), (9, .int v9), (10, .int v10)] [.int t0] := by
  unfold pi_X4_soonest_62
  refine j_istore (i := 7) (Lq := [(0, .ref (gA g 49)), (1, .int v1), (2, .int v2), (3, .int v3), (4, .int v4), (5, .int v5), (6, .int v6), (7, .int t0), (8, .int v8), (9, .int v9), (10, .int v10)]) X dX4_soonest_62 (by decide) rfl ?_
  refine j_iload (i := 10) X dX4_soonest_64 rfl ?_
  refine j_if_lt (tgt := 74) X dX4_soonest_66 (by decide) ?_ ?_
  · refine j_iload (i := 8) X dX4_soonest_74 rfl ?_
    refine j_istore (i := 8) (Lq := [(0, .ref (gA g 49)), (1, .int v1), (2, .int v2), (3, .int v3), (4, .int v4), (5, .int v5), (6, .int v6), (7, .int t0), (8, .int v8), (9, .int v9), (10, .int v10)]) X dX4_soonest_76 (by decide) rfl ?_
    refine j_iincB (i := 9) (y := v9 + 1) (Lf := fun v9_15 => [(0, .ref (gA g 49)), (1, .int v1), (2, .int v2), (3, .int v3), (4, .int v4), (5, .int v5), (6, .int v6), (7, .int t0), (8, .int v8), (9, .int v9_15), (10, .int v10)]) X dX4_soonest_78 rfl rfl (by decide) (fun _ => rfl) (fun v9_15 => ?_)
    refine j_goto (tgt := 21) X dX4_soonest_81 (by decide) ?_
    refine j_pick [0, 1, 2, 3, 4, 5, 6, 7, 8, 9] (Lq := [(0, .ref (gA g 49)), (1, .int v1), (2, .int v2), (3, .int v3), (4, .int v4), (5, .int v5), (6, .int v6), (7, .int t0), (8, .int v8), (9, .int v9_15)]) rfl ?_
    exact hc21 (t0, v8, v9_15, M)
  · refine j_iload (i := 10) X dX4_soonest_69 rfl ?_
    refine j_goto (tgt := 76) X dX4_soonest_71 (by decide) ?_
    refine j_istore (i := 8) (Lq := [(0, .ref (gA g 49)), (1, .int v1), (2, .int v2), (3, .int v3), (4, .int v4), (5, .int v5), (6, .int v6), (7, .int t0), (8, .int v10), (9, .int v9), (10, .int v10)]) X dX4_soonest_76 (by decide) rfl ?_
    refine j_iincB (i := 9) (y := v9 + 1) (Lf := fun v9_16 => [(0, .ref (gA g 49)), (1, .int v1), (2, .int v2), (3, .int v3), (4, .int v4), (5, .int v5), (6, .int v6), (7, .int t0), (8, .int v10), (9, .int v9_16), (10, .int v10)]) X dX4_soonest_78 rfl rfl (by decide) (fun _ => rfl) (fun v9_16 => ?_)
    refine j_goto (tgt := 21) X dX4_soonest_81 (by decide) ?_
    refine j_pick [0, 1, 2, 3, 4, 5, 6, 7, 8, 9] (Lq := [(0, .ref (gA g 49)), (1, .int v1), (2, .int v2), (3, .int v3), (4, .int v4), (5, .int v5), (6, .int v6), (7, .int t0), (8, .int v10), (9, .int v9_16)]) rfl ?_
    exact hc21 (t0, v10, v9_16, M)
def pi_X4_soonest_21 (v1 : Int32) (v2 : Int32) (v3 : Int32) (v4 : Int32) (v5 : Int32) (v6 : Int32) (rc21 : Int32 × Int32 × Int32 × Mem → Option (Int32 × Mem)) (v7 : Int32) (v8 : Int32) (v9 : Int32) (M : Mem) : Option (Int32 × Mem) := if v5 < v9 then (bd (mi_X4_at v1 v3 M) fun r_4 M_3 => gd (inb r_4 62) <| bM (up M_3 50 r_4.toNatClampNeg v6) fun M_6 => if v7 = (-1000007) then (bd (mi_X4_finding (-1000004) M_6) fun r_8 M_7 => some (r_8, M_7)) else (some (v7, M_6))) else (bd (mi_X4_at v1 v3 M) fun r_10 M_9 => gd (inb r_10 62) <| bM (up M_9 50 r_10.toNatClampNeg v9) fun M_12 => bd (mi_X4_meetIn v1 v2 v8 M_12) fun r_14 M_13 => if r_14 < 0 then (pi_X4_soonest_62 v1 v2 v3 v4 v5 v6 v8 v9 r_14 v7 rc21 M_13) else (pi_X4_soonest_62 v1 v2 v3 v4 v5 v6 v8 v9 r_14 v9 rc21 M_13))
set_option maxRecDepth 100000 in
set_option maxHeartbeats 4000000 in
theorem pj_X4_soonest_21 {p : Program} {l : Launch} {e : Env} {R : Room} {s : State} {m : MethodId} {args : Array Value} {below : List Frame} {meth : Method} {c : Code} {g : Gh} (X : Cx p l e R s m args below meth c g cX4_soonest 11 (0, 0) RX4 11) (hr : meth.sig.returnType = (some (.int))) (v1 : Int32) (v2 : Int32) (v3 : Int32) (v4 : Int32) (v5 : Int32) (v6 : Int32) (rc21 : Int32 × Int32 × Int32 × Mem → Option (Int32 × Mem)) (hc21 : ∀ x, J p l e R s m args below meth c g 11 (0, 0) (QfI below args s g) (rc21 x) x.2.2.2 21 [(0, .ref (gA g 49)), (1, .int v1), (2, .int v2), (3, .int v3), (4, .int v4), (5, .int v5), (6, .int v6), (7, .int x.1), (8, .int x.2.1), (9, .int x.2.2.1)] []) (v7 : Int32) (v8 : Int32) (v9 : Int32) (M : Mem) : J p l e R s m args below meth c g 11 (0, 0) (QfI below args s g) (pi_X4_soonest_21 v1 v2 v3 v4 v5 v6 rc21 v7 v8 v9 M) M 21 [(0, .ref (gA g 49)), (1, .int v1), (2, .int v2), (3, .int v3), (4, .int v4), (5, .int v5), (6, .int v6), (7, .int v7), (8, .int v8), (9, .int v9)] [] := by
  unfold pi_X4_soonest_21
  refine j_iload (i := 9) X dX4_soonest_21 rfl ?_
  refine j_iload (i := 5) X dX4_soonest_23 rfl ?_
  refine j_icmp_gt (tgt := 84) X dX4_soonest_25 (by decide) ?_ ?_
  · refine j_aload_n (i := 0) X dX4_soonest_84 rfl rfl ?_
    refine j_get_md 0 X (by decide) wq_346 rfl dX4_soonest_85 ?_
    refine j_iload_n (i := 1) X dX4_soonest_88 rfl rfl ?_
    refine j_iload_n (i := 3) X dX4_soonest_89 rfl rfl ?_
    refine k_cSI (As := [.int v1, .int v3]) (rest := [.ref (gA g 50)]) X (ct_X4_at l g v1 v3 M) wl_X4_93 rfl rfl (by decide) (Nat.le_of_ble_eq_true rfl) dX4_soonest_90 (fun r_4 M_3 => ?_)
    refine j_iload (i := 6) X dX4_soonest_93 rfl ?_
    refine j_iast X ia_50 dX4_soonest_95 (fun h_5 => ?_)
    refine j_bM (fun M_6 => ?_)
    refine j_iload (i := 7) X dX4_soonest_96 rfl ?_
    refine j_ldc (v := (-1000007)) X wq_492 dX4_soonest_98 ?_
    refine j_icmp_ne (tgt := 112) X dX4_soonest_100 (by decide) ?_ ?_
    · refine j_aload_n (i := 0) X dX4_soonest_103 rfl rfl ?_
      refine j_ldc (v := (-1000004)) X wq_352 dX4_soonest_104 ?_
      refine k_cVI (As := [.int (-1000004)]) (rest := []) (by decide) (cf_md _) rfl X (ct_X4_finding l g (-1000004) M_6) wl_X4_81 rfl rfl (by decide) (Nat.le_of_ble_eq_true rfl) dX4_soonest_106 (fun r_8 M_7 => ?_)
      refine j_goto (tgt := 114) X dX4_soonest_109 (by decide) ?_
      exact j_iret X hr dX4_soonest_114
    · refine j_iload (i := 7) X dX4_soonest_112 rfl ?_
      exact j_iret X hr dX4_soonest_114
  · refine j_aload_n (i := 0) X dX4_soonest_28 rfl rfl ?_
    refine j_get_md 0 X (by decide) wq_346 rfl dX4_soonest_29 ?_
    refine j_iload_n (i := 1) X dX4_soonest_32 rfl rfl ?_
    refine j_iload_n (i := 3) X dX4_soonest_33 rfl rfl ?_
    refine k_cSI (As := [.int v1, .int v3]) (rest := [.ref (gA g 50)]) X (ct_X4_at l g v1 v3 M) wl_X4_93 rfl rfl (by decide) (Nat.le_of_ble_eq_true rfl) dX4_soonest_34 (fun r_10 M_9 => ?_)
    refine j_iload (i := 9) X dX4_soonest_37 rfl ?_
    refine j_iast X ia_50 dX4_soonest_39 (fun h_11 => ?_)
    refine j_bM (fun M_12 => ?_)
    refine j_aload_n (i := 0) X dX4_soonest_40 rfl rfl ?_
    refine j_iload_n (i := 1) X dX4_soonest_41 rfl rfl ?_
    refine j_iload_n (i := 2) X dX4_soonest_42 rfl rfl ?_
    refine j_iload (i := 8) X dX4_soonest_43 rfl ?_
    refine k_cVI (As := [.int v1, .int v2, .int v8]) (rest := []) (by decide) (cf_md _) rfl X (ct_X4_meetIn l g v1 v2 v8 M_12) wl_X4_196 rfl rfl (by decide) (Nat.le_of_ble_eq_true rfl) dX4_soonest_45 (fun r_14 M_13 => ?_)
    refine j_istore (i := 10) (Lq := [(0, .ref (gA g 49)), (1, .int v1), (2, .int v2), (3, .int v3), (4, .int v4), (5, .int v5), (6, .int v6), (7, .int v7), (8, .int v8), (9, .int v9), (10, .int r_14)]) X dX4_soonest_48 (by decide) rfl ?_
    refine j_iload (i := 10) X dX4_soonest_50 rfl ?_
    refine j_if_lt (tgt := 60) X dX4_soonest_52 (by decide) ?_ ?_
    · refine j_iload (i := 7) X dX4_soonest_60 rfl ?_
      refine j_pick [0, 1, 2, 3, 4, 5, 6, 8, 9, 10] (Lq := [(0, .ref (gA g 49)), (1, .int v1), (2, .int v2), (3, .int v3), (4, .int v4), (5, .int v5), (6, .int v6), (8, .int v8), (9, .int v9), (10, .int r_14)]) rfl ?_
      exact pj_X4_soonest_62 X hr v1 v2 v3 v4 v5 v6 v8 v9 r_14 v7 rc21 hc21 M_13
    · refine j_iload (i := 9) X dX4_soonest_55 rfl ?_
      refine j_goto (tgt := 62) X dX4_soonest_57 (by decide) ?_
      refine j_pick [0, 1, 2, 3, 4, 5, 6, 8, 9, 10] (Lq := [(0, .ref (gA g 49)), (1, .int v1), (2, .int v2), (3, .int v3), (4, .int v4), (5, .int v5), (6, .int v6), (8, .int v8), (9, .int v9), (10, .int r_14)]) rfl ?_
      exact pj_X4_soonest_62 X hr v1 v2 v3 v4 v5 v6 v8 v9 r_14 v9 rc21 hc21 M_13
def pi_X4_soonest_e (v1 : Int32) (v2 : Int32) (v3 : Int32) (v4 : Int32) (v5 : Int32) (M : Mem) : Option (Int32 × Mem) := bd (mi_X4_hillIs v1 v3 M) fun r_2 M_1 => lp (fun rc21 x => pi_X4_soonest_21 v1 v2 v3 v4 v5 r_2 rc21 x.1 x.2.1 x.2.2.1 x.2.2.2) FU ((-1000007), 201, v4, M_1)
set_option maxRecDepth 100000 in
set_option maxHeartbeats 4000000 in
theorem pj_X4_soonest_e {p : Program} {l : Launch} {e : Env} {R : Room} {s : State} {m : MethodId} {args : Array Value} {below : List Frame} {meth : Method} {c : Code} {g : Gh} (X : Cx p l e R s m args below meth c g cX4_soonest 11 (0, 0) RX4 11) (hr : meth.sig.returnType = (some (.int))) (v1 : Int32) (v2 : Int32) (v3 : Int32) (v4 : Int32) (v5 : Int32) (M : Mem) : J p l e R s m args below meth c g 11 (0, 0) (QfI below args s g) (pi_X4_soonest_e v1 v2 v3 v4 v5 M) M 0 [(0, .ref (gA g 49)), (1, .int v1), (2, .int v2), (3, .int v3), (4, .int v4), (5, .int v5)] [] := by
  unfold pi_X4_soonest_e
  refine j_aload_n (i := 0) X dX4_soonest_0 rfl rfl ?_
  refine j_iload_n (i := 1) X dX4_soonest_1 rfl rfl ?_
  refine j_iload_n (i := 3) X dX4_soonest_2 rfl rfl ?_
  refine k_cVI (As := [.int v1, .int v3]) (rest := []) (by decide) (cf_md _) rfl X (ct_X4_hillIs l g v1 v3 M) wl_X4_108 rfl rfl (by decide) (Nat.le_of_ble_eq_true rfl) dX4_soonest_3 (fun r_2 M_1 => ?_)
  refine j_istore (i := 6) (Lq := [(0, .ref (gA g 49)), (1, .int v1), (2, .int v2), (3, .int v3), (4, .int v4), (5, .int v5), (6, .int r_2)]) X dX4_soonest_6 (by decide) rfl ?_
  refine j_ldc (v := (-1000007)) X wq_492 dX4_soonest_8 ?_
  refine j_istore (i := 7) (Lq := [(0, .ref (gA g 49)), (1, .int v1), (2, .int v2), (3, .int v3), (4, .int v4), (5, .int v5), (6, .int r_2), (7, .int (-1000007))]) X dX4_soonest_10 (by decide) rfl ?_
  refine j_sipush (v := 201) X dX4_soonest_12 rfl ?_
  refine j_istore (i := 8) (Lq := [(0, .ref (gA g 49)), (1, .int v1), (2, .int v2), (3, .int v3), (4, .int v4), (5, .int v5), (6, .int r_2), (7, .int (-1000007)), (8, .int 201)]) X dX4_soonest_15 (by decide) rfl ?_
  refine j_iload (i := 4) X dX4_soonest_17 rfl ?_
  refine j_istore (i := 9) (Lq := [(0, .ref (gA g 49)), (1, .int v1), (2, .int v2), (3, .int v3), (4, .int v4), (5, .int v5), (6, .int r_2), (7, .int (-1000007)), (8, .int 201), (9, .int v4)]) X dX4_soonest_19 (by decide) rfl ?_
  exact j_lp (Lf := fun x => [(0, .ref (gA g 49)), (1, .int v1), (2, .int v2), (3, .int v3), (4, .int v4), (5, .int v5), (6, .int r_2), (7, .int x.1), (8, .int x.2.1), (9, .int x.2.2.1)]) (Mf := fun x => x.2.2.2) (fun rc21 hc21 x => pj_X4_soonest_21 X hr v1 v2 v3 v4 v5 r_2 rc21 hc21 x.1 x.2.1 x.2.2.1 x.2.2.2) FU ((-1000007), 201, v4, M_1)
def mi_X4_soonest (v1 : Int32) (v2 : Int32) (v3 : Int32) (v4 : Int32) (v5 : Int32) (M : Mem) : Option (Int32 × Mem) := pi_X4_soonest_e v1 v2 v3 v4 v5 M
theorem ct_X4_soonest (l : Launch) (g : Gh) (v1 : Int32) (v2 : Int32) (v3 : Int32) (v4 : Int32) (v5 : Int32) (M : Mem) : CtI l g yX4_soonest cX4_soonest 11 (some (.int)) 11 [.ref (gA g 49), .int v1, .int v2, .int v3, .int v4, .int v5] M (mi_X4_soonest v1 v2 v3 v4 v5 M) := ctI_of (own := RX4) (L := [(0, .ref (gA g 49)), (1, .int v1), (2, .int v2), (3, .int v3), (4, .int v4), (5, .int v5)]) (by decide +kernel) rfl (Nat.le_of_ble_eq_true rfl) rfl (fun p e s m args below meth c X hr => pj_X4_soonest_e X hr v1 v2 v3 v4 v5  M)

def pi_X4_stand_e (v1 : Int32) (v2 : Int32) (M : Mem) : Option (Int32 × Mem) := bd (mi_X4_areTwo v1 v2 M) fun r_2 M_1 => if r_2 = 0 then (bd (mi_X4_finding (-1000001) M_1) fun r_4 M_3 => some (r_4, M_3)) else (bd (mi_X4_soonest v1 v2 1 0 11 M_1) fun r_6 M_5 => some (r_6, M_5))
set_option maxRecDepth 100000 in
set_option maxHeartbeats 4000000 in
theorem pj_X4_stand_e {p : Program} {l : Launch} {e : Env} {R : Room} {s : State} {m : MethodId} {args : Array Value} {below : List Frame} {meth : Method} {c : Code} {g : Gh} (X : Cx p l e R s m args below meth c g cX4_stand 3 (0, 0) RX4 12) (hr : meth.sig.returnType = (some (.int))) (v1 : Int32) (v2 : Int32) (M : Mem) : J p l e R s m args below meth c g 3 (0, 0) (QfI below args s g) (pi_X4_stand_e v1 v2 M) M 0 [(0, .ref (gA g 49)), (1, .int v1), (2, .int v2)] [] := by
  unfold pi_X4_stand_e
  refine j_aload_n (i := 0) X dX4_stand_0 rfl rfl ?_
  refine j_iload_n (i := 1) X dX4_stand_1 rfl rfl ?_
  refine j_iload_n (i := 2) X dX4_stand_2 rfl rfl ?_
  refine k_cVI (As := [.int v1, .int v2]) (rest := []) (by decide) (cf_md _) rfl X (ct_X4_areTwo l g v1 v2 M) wl_X4_193 rfl rfl (by decide) (Nat.le_of_ble_eq_true rfl) dX4_stand_3 (fun r_2 M_1 => ?_)
  refine j_if_eq (tgt := 22) X dX4_stand_6 (by decide) ?_ ?_
  · refine j_aload_n (i := 0) X dX4_stand_22 rfl rfl ?_
    refine j_ldc (v := (-1000001)) X wq_345 dX4_stand_23 ?_
    refine k_cVI (As := [.int (-1000001)]) (rest := []) (by decide) (cf_md _) rfl X (ct_X4_finding l g (-1000001) M_1) wl_X4_81 rfl rfl (by decide) (Nat.le_of_ble_eq_true rfl) dX4_stand_25 (fun r_4 M_3 => ?_)
    exact j_iret X hr dX4_stand_28
  · refine j_aload_n (i := 0) X dX4_stand_9 rfl rfl ?_
    refine j_iload_n (i := 1) X dX4_stand_10 rfl rfl ?_
    refine j_iload_n (i := 2) X dX4_stand_11 rfl rfl ?_
    refine j_iconst (v := 1) X dX4_stand_12 rfl ?_
    refine j_iconst (v := 0) X dX4_stand_13 rfl ?_
    refine j_bipush (v := 11) X dX4_stand_14 rfl ?_
    refine k_cVI (As := [.int v1, .int v2, .int 1, .int 0, .int 11]) (rest := []) (by decide) (cf_md _) rfl X (ct_X4_soonest l g v1 v2 1 0 11 M_1) wl_X4_208 rfl rfl (by decide) (Nat.le_of_ble_eq_true rfl) dX4_stand_16 (fun r_6 M_5 => ?_)
    refine j_goto (tgt := 28) X dX4_stand_19 (by decide) ?_
    exact j_iret X hr dX4_stand_28
def mi_X4_stand (v1 : Int32) (v2 : Int32) (M : Mem) : Option (Int32 × Mem) := pi_X4_stand_e v1 v2 M
theorem ct_X4_stand (l : Launch) (g : Gh) (v1 : Int32) (v2 : Int32) (M : Mem) : CtI l g yX4_stand cX4_stand 3 (some (.int)) 12 [.ref (gA g 49), .int v1, .int v2] M (mi_X4_stand v1 v2 M) := ctI_of (own := RX4) (L := [(0, .ref (gA g 49)), (1, .int v1), (2, .int v2)]) (by decide +kernel) rfl (Nat.le_of_ble_eq_true rfl) rfl (fun p e s m args below meth c X hr => pj_X4_stand_e X hr v1 v2  M)

def pi_X4_stepFor_e (v1 : Int32) (v2 : Int32) (M : Mem) : Option (Int32 × Mem) := bd (mi_X4_areTwo v1 v2 M) fun r_2 M_1 => if r_2 = 0 then (bd (mi_X4_finding (-1000001) M_1) fun r_4 M_3 => some (r_4, M_3)) else (bd (mi_X4_soonest v1 v2 2 (-5) 5 M_1) fun r_6 M_5 => some (r_6, M_5))
set_option maxRecDepth 100000 in
set_option maxHeartbeats 4000000 in
theorem pj_X4_stepFor_e {p : Program} {l : Launch} {e : Env} {R : Room} {s : State} {m : MethodId} {args : Array Value} {below : List Frame} {meth : Method} {c : Code} {g : Gh} (X : Cx p l e R s m args below meth c g cX4_stepFor 3 (0, 0) RX4 12) (hr : meth.sig.returnType = (some (.int))) (v1 : Int32) (v2 : Int32) (M : Mem) : J p l e R s m args below meth c g 3 (0, 0) (QfI below args s g) (pi_X4_stepFor_e v1 v2 M) M 0 [(0, .ref (gA g 49)), (1, .int v1), (2, .int v2)] [] := by
  unfold pi_X4_stepFor_e
  refine j_aload_n (i := 0) X dX4_stepFor_0 rfl rfl ?_
  refine j_iload_n (i := 1) X dX4_stepFor_1 rfl rfl ?_
  refine j_iload_n (i := 2) X dX4_stepFor_2 rfl rfl ?_
  refine k_cVI (As := [.int v1, .int v2]) (rest := []) (by decide) (cf_md _) rfl X (ct_X4_areTwo l g v1 v2 M) wl_X4_193 rfl rfl (by decide) (Nat.le_of_ble_eq_true rfl) dX4_stepFor_3 (fun r_2 M_1 => ?_)
  refine j_if_eq (tgt := 22) X dX4_stepFor_6 (by decide) ?_ ?_
  · refine j_aload_n (i := 0) X dX4_stepFor_22 rfl rfl ?_
    refine j_ldc (v := (-1000001)) X wq_345 dX4_stepFor_23 ?_
    refine k_cVI (As := [.int (-1000001)]) (rest := []) (by decide) (cf_md _) rfl X (ct_X4_finding l g (-1000001) M_1) wl_X4_81 rfl rfl (by decide) (Nat.le_of_ble_eq_true rfl) dX4_stepFor_25 (fun r_4 M_3 => ?_)
    exact j_iret X hr dX4_stepFor_28
  · refine j_aload_n (i := 0) X dX4_stepFor_9 rfl rfl ?_
    refine j_iload_n (i := 1) X dX4_stepFor_10 rfl rfl ?_
    refine j_iload_n (i := 2) X dX4_stepFor_11 rfl rfl ?_
    refine j_iconst (v := 2) X dX4_stepFor_12 rfl ?_
    refine j_bipush (v := (-5)) X dX4_stepFor_13 rfl ?_
    refine j_iconst (v := 5) X dX4_stepFor_15 rfl ?_
    refine k_cVI (As := [.int v1, .int v2, .int 2, .int (-5), .int 5]) (rest := []) (by decide) (cf_md _) rfl X (ct_X4_soonest l g v1 v2 2 (-5) 5 M_1) wl_X4_208 rfl rfl (by decide) (Nat.le_of_ble_eq_true rfl) dX4_stepFor_16 (fun r_6 M_5 => ?_)
    refine j_goto (tgt := 28) X dX4_stepFor_19 (by decide) ?_
    exact j_iret X hr dX4_stepFor_28
def mi_X4_stepFor (v1 : Int32) (v2 : Int32) (M : Mem) : Option (Int32 × Mem) := pi_X4_stepFor_e v1 v2 M
theorem ct_X4_stepFor (l : Launch) (g : Gh) (v1 : Int32) (v2 : Int32) (M : Mem) : CtI l g yX4_stepFor cX4_stepFor 3 (some (.int)) 12 [.ref (gA g 49), .int v1, .int v2] M (mi_X4_stepFor v1 v2 M) := ctI_of (own := RX4) (L := [(0, .ref (gA g 49)), (1, .int v1), (2, .int v2)]) (by decide +kernel) rfl (Nat.le_of_ble_eq_true rfl) rfl (fun p e s m args below meth c X hr => pj_X4_stepFor_e X hr v1 v2  M)

def pi_X4_turnFor_e (v1 : Int32) (v2 : Int32) (M : Mem) : Option (Int32 × Mem) := bd (mi_X4_areTwo v1 v2 M) fun r_2 M_1 => if r_2 = 0 then (bd (mi_X4_finding (-1000001) M_1) fun r_4 M_3 => some (r_4, M_3)) else (bd (mi_X4_soonest v1 v2 3 0 3 M_1) fun r_6 M_5 => some (r_6, M_5))
set_option maxRecDepth 100000 in
set_option maxHeartbeats 4000000 in
theorem pj_X4_turnFor_e {p : Program} {l : Launch} {e : Env} {R : Room} {s : State} {m : MethodId} {args : Array Value} {below : List Frame} {meth : Method} {c : Code} {g : Gh} (X : Cx p l e R s m args below meth c g cX4_turnFor 3 (0, 0) RX4 12) (hr : meth.sig.returnType = (some (.int))) (v1 : Int32) (v2 : Int32) (M : Mem) : J p l e R s m args below meth c g 3 (0, 0) (QfI below args s g) (pi_X4_turnFor_e v1 v2 M) M 0 [(0, .ref (gA g 49)), (1, .int v1), (2, .int v2)] [] := by
  unfold pi_X4_turnFor_e
  refine j_aload_n (i := 0) X dX4_turnFor_0 rfl rfl ?_
  refine j_iload_n (i := 1) X dX4_turnFor_1 rfl rfl ?_
  refine j_iload_n (i := 2) X dX4_turnFor_2 rfl rfl ?_
  refine k_cVI (As := [.int v1, .int v2]) (rest := []) (by decide) (cf_md _) rfl X (ct_X4_areTwo l g v1 v2 M) wl_X4_193 rfl rfl (by decide) (Nat.le_of_ble_eq_true rfl) dX4_turnFor_3 (fun r_2 M_1 => ?_)
  refine j_if_eq (tgt := 21) X dX4_turnFor_6 (by decide) ?_ ?_
  · refine j_aload_n (i := 0) X dX4_turnFor_21 rfl rfl ?_
    refine j_ldc (v := (-1000001)) X wq_345 dX4_turnFor_22 ?_
    refine k_cVI (As := [.int (-1000001)]) (rest := []) (by decide) (cf_md _) rfl X (ct_X4_finding l g (-1000001) M_1) wl_X4_81 rfl rfl (by decide) (Nat.le_of_ble_eq_true rfl) dX4_turnFor_24 (fun r_4 M_3 => ?_)
    exact j_iret X hr dX4_turnFor_27
  · refine j_aload_n (i := 0) X dX4_turnFor_9 rfl rfl ?_
    refine j_iload_n (i := 1) X dX4_turnFor_10 rfl rfl ?_
    refine j_iload_n (i := 2) X dX4_turnFor_11 rfl rfl ?_
    refine j_iconst (v := 3) X dX4_turnFor_12 rfl ?_
    refine j_iconst (v := 0) X dX4_turnFor_13 rfl ?_
    refine j_iconst (v := 3) X dX4_turnFor_14 rfl ?_
    refine k_cVI (As := [.int v1, .int v2, .int 3, .int 0, .int 3]) (rest := []) (by decide) (cf_md _) rfl X (ct_X4_soonest l g v1 v2 3 0 3 M_1) wl_X4_208 rfl rfl (by decide) (Nat.le_of_ble_eq_true rfl) dX4_turnFor_15 (fun r_6 M_5 => ?_)
    refine j_goto (tgt := 27) X dX4_turnFor_18 (by decide) ?_
    exact j_iret X hr dX4_turnFor_27
def mi_X4_turnFor (v1 : Int32) (v2 : Int32) (M : Mem) : Option (Int32 × Mem) := pi_X4_turnFor_e v1 v2 M
theorem ct_X4_turnFor (l : Launch) (g : Gh) (v1 : Int32) (v2 : Int32) (M : Mem) : CtI l g yX4_turnFor cX4_turnFor 3 (some (.int)) 12 [.ref (gA g 49), .int v1, .int v2] M (mi_X4_turnFor v1 v2 M) := ctI_of (own := RX4) (L := [(0, .ref (gA g 49)), (1, .int v1), (2, .int v2)]) (by decide +kernel) rfl (Nat.le_of_ble_eq_true rfl) rfl (fun p e s m args below meth c X hr => pj_X4_turnFor_e X hr v1 v2  M)

def pi_X4_isGo_e (v0 : Int32) (M : Mem) : Option (Int32 × Mem) := bd (mi_X4_within v0 0 60 M) fun r_2 M_1 => gd (isB r_2) (some (r_2, M_1))
set_option maxRecDepth 100000 in
set_option maxHeartbeats 4000000 in
theorem pj_X4_isGo_e {p : Program} {l : Launch} {e : Env} {R : Room} {s : State} {m : MethodId} {args : Array Value} {below : List Frame} {meth : Method} {c : Code} {g : Gh} (X : Cx p l e R s m args below meth c g cX4_isGo 1 (0, 0) RX4 1) (hr : meth.sig.returnType = (some (.boolean))) (v0 : Int32) (M : Mem) : J p l e R s m args below meth c g 1 (0, 0) (QfI below args s g) (pi_X4_isGo_e v0 M) M 0 [(0, .int v0)] [] := by
  unfold pi_X4_isGo_e
  refine j_iload_n (i := 0) X dX4_isGo_0 rfl rfl ?_
  refine j_iconst (v := 0) X dX4_isGo_1 rfl ?_
  refine j_bipush (v := 60) X dX4_isGo_2 rfl ?_
  refine k_cSI (As := [.int v0, .int 0, .int 60]) (rest := []) X (ct_X4_within l g v0 0 60 M) wl_X4_85 rfl rfl (by decide) (Nat.le_of_ble_eq_true rfl) dX4_isGo_4 (fun r_2 M_1 => ?_)
  exact j_zret X hr dX4_isGo_7
def mi_X4_isGo (v0 : Int32) (M : Mem) : Option (Int32 × Mem) := pi_X4_isGo_e v0 M
theorem ct_X4_isGo (l : Launch) (g : Gh) (v0 : Int32) (M : Mem) : CtI l g yX4_isGo cX4_isGo 1 (some (.boolean)) 1 [.int v0] M (mi_X4_isGo v0 M) := ctI_of (own := RX4) (L := [(0, .int v0)]) (by decide +kernel) rfl (Nat.le_of_ble_eq_true rfl) rfl (fun p e s m args below meth c X hr => pj_X4_isGo_e X hr v0  M)

def pi_X4_behind_e (v1 : Int32) (v2 : Int32) (v3 : Int32) (M : Mem) : Option (Int32 × Mem) := bv (mi_X4_copyRow 50 62 52 62 M) fun M_1 => bv (mi_X4_ages v3 M_1) fun M_2 => bd (mi_X4_hillIs v1 v2 M_2) fun r_4 M_3 => bd (mi_X4_putBack r_4 M_3) fun r_6 M_5 => some (r_6, M_5)
set_option maxRecDepth 100000 in
set_option maxHeartbeats 4000000 in
theorem pj_X4_behind_e {p : Program} {l : Launch} {e : Env} {R : Room} {s : State} {m : MethodId} {args : Array Value} {below : List Frame} {meth : Method} {c : Code} {g : Gh} (X : Cx p l e R s m args below meth c g cX4_behind 4 (0, 0) RX4 11) (hr : meth.sig.returnType = (some (.int))) (v1 : Int32) (v2 : Int32) (v3 : Int32) (M : Mem) : J p l e R s m args below meth c g 4 (0, 0) (QfI below args s g) (pi_X4_behind_e v1 v2 v3 M) M 0 [(0, .ref (gA g 49)), (1, .int v1), (2, .int v2), (3, .int v3)] [] := by
  unfold pi_X4_behind_e
  refine j_aload_n (i := 0) X dX4_behind_0 rfl rfl ?_
  refine j_get_md 0 X (by decide) wq_346 rfl dX4_behind_1 ?_
  refine j_aload_n (i := 0) X dX4_behind_4 rfl rfl ?_
  refine j_get_md 2 X (by decide) wq_347 rfl dX4_behind_5 ?_
  refine k_cSV (As := [.ref (gA g 50), .ref (gA g 52)]) (rest := []) X (ct_X4_copyRow l g 50 62 52 62 ia_50 ia_52 M) wl_X4_76 rfl rfl (by decide) (Nat.le_of_ble_eq_true rfl) dX4_behind_8 (fun M_1 => ?_)
  refine j_aload_n (i := 0) X dX4_behind_11 rfl rfl ?_
  refine j_iload_n (i := 3) X dX4_behind_12 rfl rfl ?_
  refine k_cVV (As := [.int v3]) (rest := []) (by decide) (cf_md _) rfl X (ct_X4_ages l g v3 M_1) wl_X4_167 rfl rfl (by decide) (Nat.le_of_ble_eq_true rfl) dX4_behind_13 (fun M_2 => ?_)
  refine j_aload_n (i := 0) X dX4_behind_16 rfl rfl ?_
  refine j_aload_n (i := 0) X dX4_behind_17 rfl rfl ?_
  refine j_iload_n (i := 1) X dX4_behind_18 rfl rfl ?_
  refine j_iload_n (i := 2) X dX4_behind_19 rfl rfl ?_
  refine k_cVI (As := [.int v1, .int v2]) (rest := [.ref (gA g 49)]) (by decide) (cf_md _) rfl X (ct_X4_hillIs l g v1 v2 M_2) wl_X4_108 rfl rfl (by decide) (Nat.le_of_ble_eq_true rfl) dX4_behind_20 (fun r_4 M_3 => ?_)
  refine k_cVI (As := [.int r_4]) (rest := []) (by decide) (cf_md _) rfl X (ct_X4_putBack l g r_4 M_3) wl_X4_184 rfl rfl (by decide) (Nat.le_of_ble_eq_true rfl) dX4_behind_23 (fun r_6 M_5 => ?_)
  exact j_iret X hr dX4_behind_26
def mi_X4_behind (v1 : Int32) (v2 : Int32) (v3 : Int32) (M : Mem) : Option (Int32 × Mem) := pi_X4_behind_e v1 v2 v3 M
theorem ct_X4_behind (l : Launch) (g : Gh) (v1 : Int32) (v2 : Int32) (v3 : Int32) (M : Mem) : CtI l g yX4_behind cX4_behind 4 (some (.int)) 11 [.ref (gA g 49), .int v1, .int v2, .int v3] M (mi_X4_behind v1 v2 v3 M) := ctI_of (own := RX4) (L := [(0, .ref (gA g 49)), (1, .int v1), (2, .int v2), (3, .int v3)]) (by decide +kernel) rfl (Nat.le_of_ble_eq_true rfl) rfl (fun p e s m args below meth c X hr => pj_X4_behind_e X hr v1 v2 v3  M)
