def pi_X4_load_20 (v1 : Int32) (rc20 : Int32 × Mem → Option (Int32 × Mem)) (v2 : Int32) (M : Mem) : Option (Int32 × Mem) := gd (inb v1 4) <| if (M 63 v1.toNatClampNeg) ≤ v2 then (some (v2, M)) else (bd (mi_X4_isHill v2 M) fun r_5 M_4 => if r_5 = 0 then (some (v2, M_4)) else (gd (inb ((40 * v1) + v2) 160) <| bd (mi_X4_isHigh (M_4 64 ((40 * v1) + v2).toNatClampNeg) M_4) fun r_8 M_7 => if r_8 = 0 then (some (v2, M_7)) else (bd (mi_X4_at v2 4 M_7) fun r_10 M_9 => gd (inb ((40 * v1) + v2) 160) <| gd (inb r_10 62) <| bM (up M_9 50 r_10.toNatClampNeg (M_9 64 ((40 * v1) + v2).toNatClampNeg)) fun M_13 => bI (v2 + 1) fun v2_14 => rc20 (v2_14, M_13))))
set_option maxRecDepth 100000 in
set_option maxHeartbeats 4000000 in
theorem pj_X4_load_20 {p : Program} {l : Launch} {e : Env} {R : Room} {s : State} {m : MethodId} {args : Array Value} {below : List Frame} {meth : Method} {c : Code} {g : Gh} (X : Cx p l e R s m args below meth c g cX4_load 3 (0, 0) RX4 3) (hr : meth.sig.returnType = (some (.int))) (v1 : Int32) (rc20 : Int32 × Mem → Option (Int32 × Mem)) (hc20 : ∀ x, J p l e R s m args below meth c g 3 (0, 0) (QfI below args s g) (rc20 x) x.2 20 [(0, .ref (gA g 49)), (1, .int v1), (2, .int x.1)] []) (v2 : Int32) (M : Mem) : J p l e R s m args below meth c g 3 (0, 0) (QfI below args s g) (pi_X4_load_20 v1 rc20 v2 M) M 20 [(0, .ref (gA g 49)), (1, .int v1), (2, .int v2)] [] := by
  unfold pi_X4_load_20
  refine j_iload_n (i := 2) X dX4_load_20 rfl rfl ?_
  refine j_aload_n (i := 0) X dX4_load_21 rfl rfl ?_
  refine j_get_md 22 X (by decide) wq_528 rfl dX4_load_22 ?_
  refine j_iload_n (i := 1) X dX4_load_25 rfl rfl ?_
  refine j_iald X ia_63 dX4_load_26 (fun h_3 => ?_)
  refine j_icmp_ge (tgt := 82) X dX4_load_27 (by decide) ?_ ?_
  · refine j_iload_n (i := 2) X dX4_load_82 rfl rfl ?_
    exact j_iret X hr dX4_load_83
  · refine j_aload_n (i := 0) X dX4_load_30 rfl rfl ?_
    refine j_iload_n (i := 2) X dX4_load_31 rfl rfl ?_
    refine k_cVI (As := [.int v2]) (rest := []) (by decide) (cf_md _) rfl X (ct_X4_isHill l g v2 M) wl_X4_135 rfl rfl (by decide) (Nat.le_of_ble_eq_true rfl) dX4_load_32 (fun r_5 M_4 => ?_)
    refine j_if_eq (tgt := 82) X dX4_load_35 (by decide) ?_ ?_
    · refine j_iload_n (i := 2) X dX4_load_82 rfl rfl ?_
      exact j_iret X hr dX4_load_83
    · refine j_aload_n (i := 0) X dX4_load_38 rfl rfl ?_
      refine j_get_md 23 X (by decide) wq_529 rfl dX4_load_39 ?_
      refine j_bipush (v := 40) X dX4_load_42 rfl ?_
      refine j_iload_n (i := 1) X dX4_load_44 rfl rfl ?_
      refine j_imul X dX4_load_45 ?_
      refine j_iload_n (i := 2) X dX4_load_46 rfl rfl ?_
      refine j_iadd X dX4_load_47 ?_
      refine j_iald X ia_64 dX4_load_48 (fun h_6 => ?_)
      refine k_cSI (As := [.int (M_4 64 ((40 * v1) + v2).toNatClampNeg)]) (rest := []) X (ct_X4_isHigh l g (M_4 64 ((40 * v1) + v2).toNatClampNeg) M_4) wl_X4_141 rfl rfl (by decide) (Nat.le_of_ble_eq_true rfl) dX4_load_49 (fun r_8 M_7 => ?_)
      refine j_if_eq (tgt := 82) X dX4_load_52 (by decide) ?_ ?_
      · refine j_iload_n (i := 2) X dX4_load_82 rfl rfl ?_
        exact j_iret X hr dX4_load_83
      · refine j_aload_n (i := 0) X dX4_load_55 rfl rfl ?_
        refine j_get_md 0 X (by decide) wq_346 rfl dX4_load_56 ?_
        refine j_iload_n (i := 2) X dX4_load_59 rfl rfl ?_
        refine j_iconst (v := 4) X dX4_load_60 rfl ?_
        refine k_cSI (As := [.int v2, .int 4]) (rest := [.ref (gA g 50)]) X (ct_X4_at l g v2 4 M_7) wl_X4_93 rfl rfl (by decide) (Nat.le_of_ble_eq_true rfl) dX4_load_61 (fun r_10 M_9 => ?_)
        refine j_aload_n (i := 0) X dX4_load_64 rfl rfl ?_
        refine j_get_md 23 X (by decide) wq_529 rfl dX4_load_65 ?_
        refine j_bipush (v := 40) X dX4_load_68 rfl ?_
        refine j_iload_n (i := 1) X dX4_load_70 rfl rfl ?_
        refine j_imul X dX4_load_71 ?_
        refine j_iload_n (i := 2) X dX4_load_72 rfl rfl ?_
        refine j_iadd X dX4_load_73 ?_
        refine j_iald X ia_64 dX4_load_74 (fun h_11 => ?_)
        refine j_iast X ia_50 dX4_load_75 (fun h_12 => ?_)
        refine j_bM (fun M_13 => ?_)
        refine j_iincB (i := 2) (y := v2 + 1) (Lf := fun v2_14 => [(0, .ref (gA g 49)), (1, .int v1), (2, .int v2_14)]) X dX4_load_76 rfl rfl (by decide) (fun _ => rfl) (fun v2_14 => ?_)
        refine j_goto (tgt := 20) X dX4_load_79 (by decide) ?_
        exact hc20 (v2_14, M_13)
def pi_X4_load_e (v1 : Int32) (M : Mem) : Option (Int32 × Mem) := bd (mi_X4_lacksSheet v1 M) fun r_2 M_1 => if r_2 = 0 then (lp (fun rc20 x => pi_X4_load_20 v1 rc20 x.1 x.2) FU (0, M_1)) else (bd (mi_X4_lacksSheet v1 M_1) fun r_16 M_15 => bd (mi_X4_finding r_16 M_15) fun r_18 M_17 => some (r_18, M_17))
set_option maxRecDepth 100000 in
set_option maxHeartbeats 4000000 in
theorem pj_X4_load_e {p : Program} {l : Launch} {e : Env} {R : Room} {s : State} {m : MethodId} {args : Array Value} {below : List Frame} {meth : Method} {c : Code} {g : Gh} (X : Cx p l e R s m args below meth c g cX4_load 3 (0, 0) RX4 3) (hr : meth.sig.returnType = (some (.int))) (v1 : Int32) (M : Mem) : J p l e R s m args below meth c g 3 (0, 0) (QfI below args s g) (pi_X4_load_e v1 M) M 0 [(0, .ref (gA g 49)), (1, .int v1)] [] := by
  unfold pi_X4_load_e
  refine j_aload_n (i := 0) X dX4_load_0 rfl rfl ?_
  refine j_iload_n (i := 1) X dX4_load_1 rfl rfl ?_
  refine k_cVI (As := [.int v1]) (rest := []) (by decide) (cf_md _) rfl X (ct_X4_lacksSheet l g v1 M) wl_X4_342 rfl rfl (by decide) (Nat.le_of_ble_eq_true rfl) dX4_load_2 (fun r_2 M_1 => ?_)
  refine j_if_eq (tgt := 18) X dX4_load_5 (by decide) ?_ ?_
  · refine j_iconst (v := 0) X dX4_load_18 rfl ?_
    refine j_istore_n (i := 2) (Lq := [(0, .ref (gA g 49)), (1, .int v1), (2, .int 0)]) X dX4_load_19 rfl (by decide) rfl ?_
    exact j_lp (Lf := fun x => [(0, .ref (gA g 49)), (1, .int v1), (2, .int x.1)]) (Mf := fun x => x.2) (fun rc20 hc20 x => pj_X4_load_20 X hr v1 rc20 hc20 x.1 x.2) FU (0, M_1)
  · refine j_aload_n (i := 0) X dX4_load_8 rfl rfl ?_
    refine j_aload_n (i := 0) X dX4_load_9 rfl rfl ?_
    refine j_iload_n (i := 1) X dX4_load_10 rfl rfl ?_
    refine k_cVI (As := [.int v1]) (rest := [.ref (gA g 49)]) (by decide) (cf_md _) rfl X (ct_X4_lacksSheet l g v1 M_1) wl_X4_342 rfl rfl (by decide) (Nat.le_of_ble_eq_true rfl) dX4_load_11 (fun r_16 M_15 => ?_)
    refine k_cVI (As := [.int r_16]) (rest := []) (by decide) (cf_md _) rfl X (ct_X4_finding l g r_16 M_15) wl_X4_81 rfl rfl (by decide) (Nat.le_of_ble_eq_true rfl) dX4_load_14 (fun r_18 M_17 => ?_)
    exact j_iret X hr dX4_load_17
def mi_X4_load (v1 : Int32) (M : Mem) : Option (Int32 × Mem) := pi_X4_load_e v1 M
theorem ct_X4_load (l : Launch) (g : Gh) (v1 : Int32) (M : Mem) : CtI l g yX4_load cX4_load 3 (some (.int)) 3 [.ref (gA g 49), .int v1] M (mi_X4_load v1 M) := ctI_of (own := RX4) (L := [(0, .ref (gA g 49)), (1, .int v1)]) (by decide +kernel) rfl (Nat.le_of_ble_eq_true rfl) rfl (fun p e s m args below meth c X hr => pj_X4_load_e X hr v1  M)

def pi_X4_judge_63 (v1 : Int32) (v2 : Int32) (M : Mem) : Option (Int32 × Mem) := gd (inb v1 4) <| if v2 = (M 63 v1.toNatClampNeg) then (some (0, M)) else (some (1 + v2, M))
set_option maxRecDepth 100000 in
set_option maxHeartbeats 4000000 in
theorem pj_X4_judge_63 {p : Program} {l : Launch} {e : Env} {R : Room} {s : State} {m : MethodId} {args : Array Value} {below : List Frame} {meth : Method} {c : Code} {g : Gh} (X : Cx p l e R s m args below meth c g cX4_judge 3 (0, 0) RX4 3) (hr : meth.sig.returnType = (some (.int))) (v1 : Int32) (v2 : Int32) (M : Mem) : J p l e R s m args below meth c g 3 (0, 0) (QfI below args s g) (pi_X4_judge_63 v1 v2 M) M 63 [(0, .ref (gA g 49)), (1, .int v1), (2, .int v2)] [] := by
  unfold pi_X4_judge_63
  refine j_iload_n (i := 2) X dX4_judge_63 rfl rfl ?_
  refine j_aload_n (i := 0) X dX4_judge_64 rfl rfl ?_
  refine j_get_md 22 X (by decide) wq_528 rfl dX4_judge_65 ?_
  refine j_iload_n (i := 1) X dX4_judge_68 rfl rfl ?_
  refine j_iald X ia_63 dX4_judge_69 (fun h_4 => ?_)
  refine j_icmp_ne (tgt := 77) X dX4_judge_70 (by decide) ?_ ?_
  · refine j_iconst (v := 0) X dX4_judge_73 rfl ?_
    refine j_goto (tgt := 80) X dX4_judge_74 (by decide) ?_
    exact j_iret X hr dX4_judge_80
  · refine j_iconst (v := 1) X dX4_judge_77 rfl ?_
    refine j_iload_n (i := 2) X dX4_judge_78 rfl rfl ?_
    refine j_iadd X dX4_judge_79 ?_
    exact j_iret X hr dX4_judge_80
def pi_X4_judge_20 (v1 : Int32) (rc20 : Int32 × Mem → Option (Int32 × Mem)) (v2 : Int32) (M : Mem) : Option (Int32 × Mem) := gd (inb v1 4) <| if (M 63 v1.toNatClampNeg) ≤ v2 then (pi_X4_judge_63 v1 v2 M) else (bd (mi_X4_isHill v2 M) fun r_6 M_5 => if r_6 = 0 then (pi_X4_judge_63 v1 v2 M_5) else (gd (inb ((40 * v1) + v2) 160) <| bd (mi_X4_facesOf v2 M_5) fun r_9 M_8 => if (M_5 64 ((40 * v1) + v2).toNatClampNeg) = r_9 then (bI (v2 + 1) fun v2_10 => rc20 (v2_10, M_8)) else (pi_X4_judge_63 v1 v2 M_8)))
set_option maxRecDepth 100000 in
set_option maxHeartbeats 4000000 in
theorem pj_X4_judge_20 {p : Program} {l : Launch} {e : Env} {R : Room} {s : State} {m : MethodId} {args : Array Value} {below : List Frame} {meth : Method} {c : Code} {g : Gh} (X : Cx p l e R s m args below meth c g cX4_judge 3 (0, 0) RX4 3) (hr : meth.sig.returnType = (some (.int))) (v1 : Int32) (rc20 : Int32 × Mem → Option (Int32 × Mem)) (hc20 : ∀ x, J p l e R s m args below meth c g 3 (0, 0) (QfI below args s g) (rc20 x) x.2 20 [(0, .ref (gA g 49)), (1, .int v1), (2, .int x.1)] []) (v2 : Int32) (M : Mem) : J p l e R s m args below meth c g 3 (0, 0) (QfI below args s g) (pi_X4_judge_20 v1 rc20 v2 M) M 20 [(0, .ref (gA g 49)), (1, .int v1), (2, .int v2)] [] := by
  unfold pi_X4_judge_20
  refine j_iload_n (i := 2) X dX4_judge_20 rfl rfl ?_
  refine j_aload_n (i := 0) X dX4_judge_21 rfl rfl ?_
  refine j_get_md 22 X (by decide) wq_528 rfl dX4_judge_22 ?_
  refine j_iload_n (i := 1) X dX4_judge_25 rfl rfl ?_
  refine j_iald X ia_63 dX4_judge_26 (fun h_3 => ?_)
  refine j_icmp_ge (tgt := 63) X dX4_judge_27 (by decide) ?_ ?_
  · exact pj_X4_judge_63 X hr v1 v2 M
  · refine j_aload_n (i := 0) X dX4_judge_30 rfl rfl ?_
    refine j_iload_n (i := 2) X dX4_judge_31 rfl rfl ?_
    refine k_cVI (As := [.int v2]) (rest := []) (by decide) (cf_md _) rfl X (ct_X4_isHill l g v2 M) wl_X4_135 rfl rfl (by decide) (Nat.le_of_ble_eq_true rfl) dX4_judge_32 (fun r_6 M_5 => ?_)
    refine j_if_eq (tgt := 63) X dX4_judge_35 (by decide) ?_ ?_
    · exact pj_X4_judge_63 X hr v1 v2 M_5
    · refine j_aload_n (i := 0) X dX4_judge_38 rfl rfl ?_
      refine j_get_md 23 X (by decide) wq_529 rfl dX4_judge_39 ?_
      refine j_bipush (v := 40) X dX4_judge_42 rfl ?_
      refine j_iload_n (i := 1) X dX4_judge_44 rfl rfl ?_
      refine j_imul X dX4_judge_45 ?_
      refine j_iload_n (i := 2) X dX4_judge_46 rfl rfl ?_
      refine j_iadd X dX4_judge_47 ?_
      refine j_iald X ia_64 dX4_judge_48 (fun h_7 => ?_)
      refine j_aload_n (i := 0) X dX4_judge_49 rfl rfl ?_
      refine j_iload_n (i := 2) X dX4_judge_50 rfl rfl ?_
      refine k_cVI (As := [.int v2]) (rest := [.int (M_5 64 ((40 * v1) + v2).toNatClampNeg)]) (by decide) (cf_md _) rfl X (ct_X4_facesOf l g v2 M_5) wl_X4_114 rfl rfl (by decide) (Nat.le_of_ble_eq_true rfl) dX4_judge_51 (fun r_9 M_8 => ?_)
      refine j_icmp_ne (tgt := 63) X dX4_judge_54 (by decide) ?_ ?_
      · refine j_iincB (i := 2) (y := v2 + 1) (Lf := fun v2_10 => [(0, .ref (gA g 49)), (1, .int v1), (2, .int v2_10)]) X dX4_judge_57 rfl rfl (by decide) (fun _ => rfl) (fun v2_10 => ?_)
        refine j_goto (tgt := 20) X dX4_judge_60 (by decide) ?_
        exact hc20 (v2_10, M_8)
      · exact pj_X4_judge_63 X hr v1 v2 M_8
def pi_X4_judge_e (v1 : Int32) (M : Mem) : Option (Int32 × Mem) := bd (mi_X4_lacksSheet v1 M) fun r_2 M_1 => if r_2 = 0 then (lp (fun rc20 x => pi_X4_judge_20 v1 rc20 x.1 x.2) FU (0, M_1)) else (bd (mi_X4_lacksSheet v1 M_1) fun r_12 M_11 => bd (mi_X4_finding r_12 M_11) fun r_14 M_13 => some (r_14, M_13))
set_option maxRecDepth 100000 in
set_option maxHeartbeats 4000000 in
theorem pj_X4_judge_e {p : Program} {l : Launch} {e : Env} {R : Room} {s : State} {m : MethodId} {args : Array Value} {below : List Frame} {meth : Method} {c : Code} {g : Gh} (X : Cx p l e R s m args below meth c g cX4_judge 3 (0, 0) RX4 3) (hr : meth.sig.returnType = (some (.int))) (v1 : Int32) (M : Mem) : J p l e R s m args below meth c g 3 (0, 0) (QfI below args s g) (pi_X4_judge_e v1 M) M 0 [(0, .ref (gA g 49)), (1, .int v1)] [] := by
  unfold pi_X4_judge_e
  refine j_aload_n (i := 0) X dX4_judge_0 rfl rfl ?_
  refine j_iload_n (i := 1) X dX4_judge_1 rfl rfl ?_
  refine k_cVI (As := [.int v1]) (rest := []) (by decide) (cf_md _) rfl X (ct_X4_lacksSheet l g v1 M) wl_X4_342 rfl rfl (by decide) (Nat.le_of_ble_eq_true rfl) dX4_judge_2 (fun r_2 M_1 => ?_)
  refine j_if_eq (tgt := 18) X dX4_judge_5 (by decide) ?_ ?_
  · refine j_iconst (v := 0) X dX4_judge_18 rfl ?_
    refine j_istore_n (i := 2) (Lq := [(0, .ref (gA g 49)), (1, .int v1), (2, .int 0)]) X dX4_judge_19 rfl (by decide) rfl ?_
    exact j_lp (Lf := fun x => [(0, .ref (gA g 49)), (1, .int v1), (2, .int x.1)]) (Mf := fun x => x.2) (fun rc20 hc20 x => pj_X4_judge_20 X hr v1 rc20 hc20 x.1 x.2) FU (0, M_1)
  · refine j_aload_n (i := 0) X dX4_judge_8 rfl rfl ?_
    refine j_aload_n (i := 0) X dX4_judge_9 rfl rfl ?_
    refine j_iload_n (i := 1) X dX4_judge_10 rfl rfl ?_
    refine k_cVI (As := [.int v1]) (rest := [.ref (gA g 49)]) (by decide) (cf_md _) rfl X (ct_X4_lacksSheet l g v1 M_1) wl_X4_342 rfl rfl (by decide) (Nat.le_of_ble_eq_true rfl) dX4_judge_11 (fun r_12 M_11 => ?_)
    refine k_cVI (As := [.int r_12]) (rest := []) (by decide) (cf_md _) rfl X (ct_X4_finding l g r_12 M_11) wl_X4_81 rfl rfl (by decide) (Nat.le_of_ble_eq_true rfl) dX4_judge_14 (fun r_14 M_13 => ?_)
    exact j_iret X hr dX4_judge_17
def mi_X4_judge (v1 : Int32) (M : Mem) : Option (Int32 × Mem) := pi_X4_judge_e v1 M
theorem ct_X4_judge (l : Launch) (g : Gh) (v1 : Int32) (M : Mem) : CtI l g yX4_judge cX4_judge 3 (some (.int)) 3 [.ref (gA g 49), .int v1] M (mi_X4_judge v1 M) := ctI_of (own := RX4) (L := [(0, .ref (gA g 49)), (1, .int v1)]) (by decide +kernel) rfl (Nat.le_of_ble_eq_true rfl) rfl (fun p e s m args below meth c X hr => pj_X4_judge_e X hr v1  M)

def pi_X4_image_e (M : Mem) : Option (Int32 × Mem) := bv (mi_X4_copyRow 50 62 51 62 M) fun M_1 => gd (isB 1) <| bM (up M_1 49 3 1) fun M_2 => some (1, M_2)
set_option maxRecDepth 100000 in
set_option maxHeartbeats 4000000 in
theorem pj_X4_image_e {p : Program} {l : Launch} {e : Env} {R : Room} {s : State} {m : MethodId} {args : Array Value} {below : List Frame} {meth : Method} {c : Code} {g : Gh} (X : Cx p l e R s m args below meth c g cX4_image 1 (0, 0) RX4 1) (hr : meth.sig.returnType = (some (.int))) (M : Mem) : J p l e R s m args below meth c g 1 (0, 0) (QfI below args s g) (pi_X4_image_e M) M 0 [(0, .ref (gA g 49))] [] := by
  unfold pi_X4_image_e
  refine j_aload_n (i := 0) X dX4_image_0 rfl rfl ?_
  refine j_get_md 0 X (by decide) wq_346 rfl dX4_image_1 ?_
  refine j_aload_n (i := 0) X dX4_image_4 rfl rfl ?_
  refine j_get_md 1 X (by decide) wq_622 rfl dX4_image_5 ?_
  refine k_cSV (As := [.ref (gA g 50), .ref (gA g 51)]) (rest := []) X (ct_X4_copyRow l g 50 62 51 62 ia_50 ia_51 M) wl_X4_76 rfl rfl (by decide) (Nat.le_of_ble_eq_true rfl) dX4_image_8 (fun M_1 => ?_)
  refine j_aload_n (i := 0) X dX4_image_11 rfl rfl ?_
  refine j_iconst (v := 1) X dX4_image_12 rfl ?_
  refine j_gd (fun h_3 => ?_)
  refine j_put_md (ty := .boolean) 3 X (by decide) wq_623 (fun _ => rfl) rfl (by decide +kernel) (isB_n h_3) (isB_f h_3) dX4_image_13 ?_
  refine j_bM (fun M_2 => ?_)
  refine j_iconst (v := 1) X dX4_image_16 rfl ?_
  exact j_iret X hr dX4_image_17
def mi_X4_image (M : Mem) : Option (Int32 × Mem) := pi_X4_image_e  M
theorem ct_X4_image (l : Launch) (g : Gh) (M : Mem) : CtI l g yX4_image cX4_image 1 (some (.int)) 1 [.ref (gA g 49)] M (mi_X4_image  M) := ctI_of (own := RX4) (L := [(0, .ref (gA g 49))]) (by decide +kernel) rfl (Nat.le_of_ble_eq_true rfl) rfl (fun p e s m args below meth c X hr => pj_X4_image_e X hr   M)

def pi_X4_undo_e (M : Mem) : Option (Int32 × Mem) := if (M 49 3) = 0 then (bd (mi_X4_finding (-1000004) M) fun r_2 M_1 => some (r_2, M_1)) else (bv (mi_X4_copyRow 51 62 50 62 M) fun M_3 => gd (inb 0 62) <| some (M_3 50 (0 : Int32).toNatClampNeg, M_3))
set_option maxRecDepth 100000 in
set_option maxHeartbeats 4000000 in
theorem pj_X4_undo_e {p : Program} {l : Launch} {e : Env} {R : Room} {s : State} {m : MethodId} {args : Array Value} {below : List Frame} {meth : Method} {c : Code} {g : Gh} (X : Cx p l e R s m args below meth c g cX4_undo 1 (0, 0) RX4 1) (hr : meth.sig.returnType = (some (.int))) (M : Mem) : J p l e R s m args below meth c g 1 (0, 0) (QfI below args s g) (pi_X4_undo_e M) M 0 [(0, .ref (gA g 49))] [] := by
  unfold pi_X4_undo_e
  refine j_aload_n (i := 0) X dX4_undo_0 rfl rfl ?_
  refine j_get_md 3 X (by decide) wq_623 rfl dX4_undo_1 ?_
  refine j_if_ne (tgt := 14) X dX4_undo_4 (by decide) ?_ ?_
  · refine j_aload_n (i := 0) X dX4_undo_7 rfl rfl ?_
    refine j_ldc (v := (-1000004)) X wq_352 dX4_undo_8 ?_
    refine k_cVI (As := [.int (-1000004)]) (rest := []) (by decide) (cf_md _) rfl X (ct_X4_finding l g (-1000004) M) wl_X4_81 rfl rfl (by decide) (Nat.le_of_ble_eq_true rfl) dX4_undo_10 (fun r_2 M_1 => ?_)
    exact j_iret X hr dX4_undo_13
  · refine j_aload_n (i := 0) X dX4_undo_14 rfl rfl ?_
    refine j_get_md 1 X (by decide) wq_622 rfl dX4_undo_15 ?_
    refine j_aload_n (i := 0) X dX4_undo_18 rfl rfl ?_
    refine j_get_md 0 X (by decide) wq_346 rfl dX4_undo_19 ?_
    refine k_cSV (As := [.ref (gA g 51), .ref (gA g 50)]) (rest := []) X (ct_X4_copyRow l g 51 62 50 62 ia_51 ia_50 M) wl_X4_76 rfl rfl (by decide) (Nat.le_of_ble_eq_true rfl) dX4_undo_22 (fun M_3 => ?_)
    refine j_aload_n (i := 0) X dX4_undo_25 rfl rfl ?_
    refine j_get_md 0 X (by decide) wq_346 rfl dX4_undo_26 ?_
    refine j_iconst (v := 0) X dX4_undo_29 rfl ?_
    refine j_iald X ia_50 dX4_undo_30 (fun h_4 => ?_)
    exact j_iret X hr dX4_undo_31
def mi_X4_undo (M : Mem) : Option (Int32 × Mem) := pi_X4_undo_e  M
theorem ct_X4_undo (l : Launch) (g : Gh) (M : Mem) : CtI l g yX4_undo cX4_undo 1 (some (.int)) 1 [.ref (gA g 49)] M (mi_X4_undo  M) := ctI_of (own := RX4) (L := [(0, .ref (gA g 49))]) (by decide +kernel) rfl (Nat.le_of_ble_eq_true rfl) rfl (fun p e s m args below meth c X hr => pj_X4_undo_e X hr   M)

def pi_X4_tear_e (M : Mem) : Option (Int32 × Mem) := if (M 49 3) = 0 then (gd (isB 0) <| bM (up M 49 3 0) fun M_1 => some (0, M_1)) else (gd (isB 0) <| bM (up M 49 3 0) fun M_3 => some (1, M_3))
set_option maxRecDepth 100000 in
set_option maxHeartbeats 4000000 in
theorem pj_X4_tear_e {p : Program} {l : Launch} {e : Env} {R : Room} {s : State} {m : MethodId} {args : Array Value} {below : List Frame} {meth : Method} {c : Code} {g : Gh} (X : Cx p l e R s m args below meth c g cX4_tear 2 (0, 0) RX4 0) (hr : meth.sig.returnType = (some (.int))) (M : Mem) : J p l e R s m args below meth c g 2 (0, 0) (QfI below args s g) (pi_X4_tear_e M) M 0 [(0, .ref (gA g 49))] [] := by
  unfold pi_X4_tear_e
  refine j_aload_n (i := 0) X dX4_tear_0 rfl rfl ?_
  refine j_get_md 3 X (by decide) wq_623 rfl dX4_tear_1 ?_
  refine j_if_eq (tgt := 11) X dX4_tear_4 (by decide) ?_ ?_
  · refine j_iconst (v := 0) X dX4_tear_11 rfl ?_
    refine j_istore_n (i := 1) (Lq := [(0, .ref (gA g 49)), (1, .int 0)]) X dX4_tear_12 rfl (by decide) rfl ?_
    refine j_aload_n (i := 0) X dX4_tear_13 rfl rfl ?_
    refine j_iconst (v := 0) X dX4_tear_14 rfl ?_
    refine j_gd (fun h_2 => ?_)
    refine j_put_md (ty := .boolean) 3 X (by decide) wq_623 (fun _ => rfl) rfl (by decide +kernel) (isB_n h_2) (isB_f h_2) dX4_tear_15 ?_
    refine j_bM (fun M_1 => ?_)
    refine j_iload_n (i := 1) X dX4_tear_18 rfl rfl ?_
    exact j_iret X hr dX4_tear_19
  · refine j_iconst (v := 1) X dX4_tear_7 rfl ?_
    refine j_goto (tgt := 12) X dX4_tear_8 (by decide) ?_
    refine j_istore_n (i := 1) (Lq := [(0, .ref (gA g 49)), (1, .int 1)]) X dX4_tear_12 rfl (by decide) rfl ?_
    refine j_aload_n (i := 0) X dX4_tear_13 rfl rfl ?_
    refine j_iconst (v := 0) X dX4_tear_14 rfl ?_
    refine j_gd (fun h_4 => ?_)
    refine j_put_md (ty := .boolean) 3 X (by decide) wq_623 (fun _ => rfl) rfl (by decide +kernel) (isB_n h_4) (isB_f h_4) dX4_tear_15 ?_
    refine j_bM (fun M_3 => ?_)
    refine j_iload_n (i := 1) X dX4_tear_18 rfl rfl ?_
    exact j_iret X hr dX4_tear_19
def mi_X4_tear (M : Mem) : Option (Int32 × Mem) := pi_X4_tear_e  M
theorem ct_X4_tear (l : Launch) (g : Gh) (M : Mem) : CtI l g yX4_tear cX4_tear 2 (some (.int)) 0 [.ref (gA g 49)] M (mi_X4_tear  M) := ctI_of (own := RX4) (L := [(0, .ref (gA g 49))]) (by decide +kernel) rfl (Nat.le_of_ble_eq_true rfl) rfl (fun p e s m args below meth c X hr => pj_X4_tear_e X hr   M)

def pi_X4_count_96 (v1 : Int32) (rc96 : Int32 × Int32 × Mem → Option (Int32 × Mem)) (v2 : Int32) (v3 : Int32) (M : Mem) : Option (Int32 × Mem) := if 10 ≤ v3 then (some (v2, M)) else (gd (inb (4 + v3) 62) <| if 0 ≤ (M 50 (4 + v3).toNatClampNeg) then (bI (v2 + 1) fun v2_13 => bI (v3 + 1) fun v3_14 => rc96 (v2_13, v3_14, M)) else (bI (v2 + 0) fun v2_15 => bI (v3 + 1) fun v3_16 => rc96 (v2_15, v3_16, M)))
set_option maxRecDepth 100000 in
set_option maxHeartbeats 4000000 in
theorem pj_X4_count_96 {p : Program} {l : Launch} {e : Env} {R : Room} {s : State} {m : MethodId} {args : Array Value} {below : List Frame} {meth : Method} {c : Code} {g : Gh} (X : Cx p l e R s m args below meth c g cX4_count 4 (0, 0) RX4 5) (hr : meth.sig.returnType = (some (.int))) (v1 : Int32) (rc96 : Int32 × Int32 × Mem → Option (Int32 × Mem)) (hc96 : ∀ x, J p l e R s m args below meth c g 4 (0, 0) (QfI below args s g) (rc96 x) x.2.2 96 [(0, .ref (gA g 49)), (1, .int v1), (2, .int x.1), (3, .int x.2.1)] []) (v2 : Int32) (v3 : Int32) (M : Mem) : J p l e R s m args below meth c g 4 (0, 0) (QfI below args s g) (pi_X4_count_96 v1 rc96 v2 v3 M) M 96 [(0, .ref (gA g 49)), (1, .int v1), (2, .int v2), (3, .int v3)] [] := by
  unfold pi_X4_count_96
  refine j_iload_n (i := 3) X dX4_count_96 rfl rfl ?_
  refine j_bipush (v := 10) X dX4_count_97 rfl ?_
  refine j_icmp_ge (tgt := 127) X dX4_count_99 (by decide) ?_ ?_
  · refine j_iload_n (i := 2) X dX4_count_127 rfl rfl ?_
    exact j_iret X hr dX4_count_128
  · refine j_iload_n (i := 2) X dX4_count_102 rfl rfl ?_
    refine j_aload_n (i := 0) X dX4_count_103 rfl rfl ?_
    refine j_get_md 0 X (by decide) wq_346 rfl dX4_count_104 ?_
    refine j_iconst (v := 4) X dX4_count_107 rfl ?_
    refine j_iload_n (i := 3) X dX4_count_108 rfl rfl ?_
    refine j_iadd X dX4_count_109 ?_
    refine j_iald X ia_50 dX4_count_110 (fun h_12 => ?_)
    refine j_if_ge (tgt := 118) X dX4_count_111 (by decide) ?_ ?_
    · refine j_iconst (v := 1) X dX4_count_118 rfl ?_
      refine j_iadd X dX4_count_119 ?_
      refine j_bI (fun v2_13 => ?_)
      refine j_istore_n (i := 2) (Lq := [(0, .ref (gA g 49)), (1, .int v1), (2, .int v2_13), (3, .int v3)]) X dX4_count_120 rfl (by decide) rfl ?_
      refine j_iincB (i := 3) (y := v3 + 1) (Lf := fun v3_14 => [(0, .ref (gA g 49)), (1, .int v1), (2, .int v2_13), (3, .int v3_14)]) X dX4_count_121 rfl rfl (by decide) (fun _ => rfl) (fun v3_14 => ?_)
      refine j_goto (tgt := 96) X dX4_count_124 (by decide) ?_
      exact hc96 (v2_13, v3_14, M)
    · refine j_iconst (v := 0) X dX4_count_114 rfl ?_
      refine j_goto (tgt := 119) X dX4_count_115 (by decide) ?_
      refine j_iadd X dX4_count_119 ?_
      refine j_bI (fun v2_15 => ?_)
      refine j_istore_n (i := 2) (Lq := [(0, .ref (gA g 49)), (1, .int v1), (2, .int v2_15), (3, .int v3)]) X dX4_count_120 rfl (by decide) rfl ?_
      refine j_iincB (i := 3) (y := v3 + 1) (Lf := fun v3_16 => [(0, .ref (gA g 49)), (1, .int v1), (2, .int v2_15), (3, .int v3_16)]) X dX4_count_121 rfl rfl (by decide) (fun _ => rfl) (fun v3_16 => ?_)
      refine j_goto (tgt := 96) X dX4_count_124 (by decide) ?_
      exact hc96 (v2_15, v3_16, M)
def pi_X4_count_e (v1 : Int32) (M : Mem) : Option (Int32 × Mem) := swc v1 [(0, gd (inb 0 62) <| some (M 50 (0 : Int32).toNatClampNeg, M)), (1, gd (inb 1 62) <| some (M 50 (1 : Int32).toNatClampNeg, M)), (2, bd (mi_X4_whoMeets M) fun r_4 M_3 => bd (mi_X4_bits r_4 M_3) fun r_6 M_5 => some (r_6, M_5)), (3, bd (mi_X4_sumOf 4 M) fun r_8 M_7 => some (r_8, M_7)), (4, bd (mi_X4_sumOf 5 M) fun r_10 M_9 => some (r_10, M_9)), (5, some (M 49 11, M)), (6, gd (inb 2 62) <| some (M 50 (2 : Int32).toNatClampNeg, M)), (7, lp (fun rc96 x => pi_X4_count_96 v1 rc96 x.1 x.2.1 x.2.2) FU (0, 0, M))] (bd (mi_X4_finding (-1000001) M) fun r_18 M_17 => some (r_18, M_17))
set_option maxRecDepth 100000 in
set_option maxHeartbeats 4000000 in
theorem pj_X4_count_e {p : Program} {l : Launch} {e : Env} {R : Room} {s : State} {m : MethodId} {args : Array Value} {below : List Frame} {meth : Method} {c : Code} {g : Gh} (X : Cx p l e R s m args below meth c g cX4_count 4 (0, 0) RX4 5) (hr : meth.sig.returnType = (some (.int))) (v1 : Int32) (M : Mem) : J p l e R s m args below meth c g 4 (0, 0) (QfI below args s g) (pi_X4_count_e v1 M) M 0 [(0, .ref (gA g 49)), (1, .int v1)] [] := by
  unfold pi_X4_count_e
  refine j_iconst (v := 0) X dX4_count_0 rfl ?_
  refine j_istore_n (i := 2) (Lq := [(0, .ref (gA g 49)), (1, .int v1), (2, .int 0)]) X dX4_count_1 rfl (by decide) rfl ?_
  refine j_iload_n (i := 1) X dX4_count_2 rfl rfl ?_
  refine j_tsw [0, 1, 2, 3, 4, 5, 6, 7] [48, 55, 62, 70, 76, 82, 87, 94] (dt := 129) X dX4_count_3 rfl (by decide +kernel) (by decide +kernel) (by decide) ⟨?_, ?_, ?_, ?_, ?_, ?_, ?_, ?_, trivial⟩ ?_
  · refine j_aload_n (i := 0) X dX4_count_48 rfl rfl ?_
    refine j_get_md 0 X (by decide) wq_346 rfl dX4_count_49 ?_
    refine j_iconst (v := 0) X dX4_count_52 rfl ?_
    refine j_iald X ia_50 dX4_count_53 (fun h_1 => ?_)
    exact j_iret X hr dX4_count_54
  · refine j_aload_n (i := 0) X dX4_count_55 rfl rfl ?_
    refine j_get_md 0 X (by decide) wq_346 rfl dX4_count_56 ?_
    refine j_iconst (v := 1) X dX4_count_59 rfl ?_
    refine j_iald X ia_50 dX4_count_60 (fun h_2 => ?_)
    exact j_iret X hr dX4_count_61
  · refine j_aload_n (i := 0) X dX4_count_62 rfl rfl ?_
    refine k_cVI (As := []) (rest := []) (by decide) (cf_md _) rfl X (ct_X4_whoMeets l g M) wl_X4_171 rfl rfl (by decide) (Nat.le_of_ble_eq_true rfl) dX4_count_63 (fun r_4 M_3 => ?_)
    refine k_cSI (As := [.int r_4]) (rest := []) X (ct_X4_bits l g r_4 M_3) wl_X4_123 rfl rfl (by decide) (Nat.le_of_ble_eq_true rfl) dX4_count_66 (fun r_6 M_5 => ?_)
    exact j_iret X hr dX4_count_69
  · refine j_aload_n (i := 0) X dX4_count_70 rfl rfl ?_
    refine j_iconst (v := 4) X dX4_count_71 rfl ?_
    refine k_cVI (As := [.int 4]) (rest := []) (by decide) (cf_md _) rfl X (ct_X4_sumOf l g 4 M) wl_X4_175 rfl rfl (by decide) (Nat.le_of_ble_eq_true rfl) dX4_count_72 (fun r_8 M_7 => ?_)
    exact j_iret X hr dX4_count_75
  · refine j_aload_n (i := 0) X dX4_count_76 rfl rfl ?_
    refine j_iconst (v := 5) X dX4_count_77 rfl ?_
    refine k_cVI (As := [.int 5]) (rest := []) (by decide) (cf_md _) rfl X (ct_X4_sumOf l g 5 M) wl_X4_175 rfl rfl (by decide) (Nat.le_of_ble_eq_true rfl) dX4_count_78 (fun r_10 M_9 => ?_)
    exact j_iret X hr dX4_count_81
  · refine j_aload_n (i := 0) X dX4_count_82 rfl rfl ?_
    refine j_get_md 11 X (by decide) wq_547 rfl dX4_count_83 ?_
    exact j_iret X hr dX4_count_86
  · refine j_aload_n (i := 0) X dX4_count_87 rfl rfl ?_
    refine j_get_md 0 X (by decide) wq_346 rfl dX4_count_88 ?_
    refine j_iconst (v := 2) X dX4_count_91 rfl ?_
    refine j_iald X ia_50 dX4_count_92 (fun h_11 => ?_)
    exact j_iret X hr dX4_count_93
  · refine j_iconst (v := 0) X dX4_count_94 rfl ?_
    refine j_istore_n (i := 3) (Lq := [(0, .ref (gA g 49)), (1, .int v1), (2, .int 0), (3, .int 0)]) X dX4_count_95 rfl (by decide) rfl ?_
    exact j_lp (Lf := fun x => [(0, .ref (gA g 49)), (1, .int v1), (2, .int x.1), (3, .int x.2.1)]) (Mf := fun x => x.2.2) (fun rc96 hc96 x => pj_X4_count_96 X hr v1 rc96 hc96 x.1 x.2.1 x.2.2) FU (0, 0, M)
  · refine j_aload_n (i := 0) X dX4_count_129 rfl rfl ?_
    refine j_ldc (v := (-1000001)) X wq_345 dX4_count_130 ?_
    refine k_cVI (As := [.int (-1000001)]) (rest := []) (by decide) (cf_md _) rfl X (ct_X4_finding l g (-1000001) M) wl_X4_81 rfl rfl (by decide) (Nat.le_of_ble_eq_true rfl) dX4_count_132 (fun r_18 M_17 => ?_)
    exact j_iret X hr dX4_count_135
def mi_X4_count (v1 : Int32) (M : Mem) : Option (Int32 × Mem) := pi_X4_count_e v1 M
theorem ct_X4_count (l : Launch) (g : Gh) (v1 : Int32) (M : Mem) : CtI l g yX4_count cX4_count 4 (some (.int)) 5 [.ref (gA g 49), .int v1] M (mi_X4_count v1 M) := ctI_of (own := RX4) (L := [(0, .ref (gA g 49)), (1, .int v1)]) (by decide +kernel) rfl (Nat.le_of_ble_eq_true rfl) rfl (fun p e s m args below meth c X hr => pj_X4_count_e X hr v1  M)

def pi_X4_status_e (v1 : Int32) (M : Mem) : Option (Int32 × Mem) := bd (mi_X4_within v1 (-1) 6 M) fun r_2 M_1 => if r_2 = 0 then (bd (mi_X4_finding (-1000001) M_1) fun r_4 M_3 => some (r_4, M_3)) else (gd (inb (v1 + 1) 8) <| some (M_1 53 (v1 + 1).toNatClampNeg, M_1))
set_option maxRecDepth 100000 in
set_option maxHeartbeats 4000000 in
theorem pj_X4_status_e {p : Program} {l : Launch} {e : Env} {R : Room} {s : State} {m : MethodId} {args : Array Value} {below : List Frame} {meth : Method} {c : Code} {g : Gh} (X : Cx p l e R s m args below meth c g cX4_status 2 (0, 0) RX4 1) (hr : meth.sig.returnType = (some (.int))) (v1 : Int32) (M : Mem) : J p l e R s m args below meth c g 2 (0, 0) (QfI below args s g) (pi_X4_status_e v1 M) M 0 [(0, .ref (gA g 49)), (1, .int v1)] [] := by
  unfold pi_X4_status_e
  refine j_iload_n (i := 1) X dX4_status_0 rfl rfl ?_
  refine j_iconst (v := (-1)) X dX4_status_1 rfl ?_
  refine j_bipush (v := 6) X dX4_status_2 rfl ?_
  refine k_cSI (As := [.int v1, .int (-1), .int 6]) (rest := []) X (ct_X4_within l g v1 (-1) 6 M) wl_X4_85 rfl rfl (by decide) (Nat.le_of_ble_eq_true rfl) dX4_status_4 (fun r_2 M_1 => ?_)
  refine j_if_eq (tgt := 21) X dX4_status_7 (by decide) ?_ ?_
  · refine j_aload_n (i := 0) X dX4_status_21 rfl rfl ?_
    refine j_ldc (v := (-1000001)) X wq_345 dX4_status_22 ?_
    refine k_cVI (As := [.int (-1000001)]) (rest := []) (by decide) (cf_md _) rfl X (ct_X4_finding l g (-1000001) M_1) wl_X4_81 rfl rfl (by decide) (Nat.le_of_ble_eq_true rfl) dX4_status_24 (fun r_4 M_3 => ?_)
    exact j_iret X hr dX4_status_27
  · refine j_aload_n (i := 0) X dX4_status_10 rfl rfl ?_
    refine j_get_md 4 X (by decide) wq_344 rfl dX4_status_11 ?_
    refine j_iload_n (i := 1) X dX4_status_14 rfl rfl ?_
    refine j_iconst (v := 1) X dX4_status_15 rfl ?_
    refine j_iadd X dX4_status_16 ?_
    refine j_iald X ia_53 dX4_status_17 (fun h_5 => ?_)
    refine j_goto (tgt := 27) X dX4_status_18 (by decide) ?_
    exact j_iret X hr dX4_status_27
def mi_X4_status (v1 : Int32) (M : Mem) : Option (Int32 × Mem) := pi_X4_status_e v1 M
theorem ct_X4_status (l : Launch) (g : Gh) (v1 : Int32) (M : Mem) : CtI l g yX4_status cX4_status 2 (some (.int)) 1 [.ref (gA g 49), .int v1] M (mi_X4_status v1 M) := ctI_of (own := RX4) (L := [(0, .ref (gA g 49)), (1, .int v1)]) (by decide +kernel) rfl (Nat.le_of_ble_eq_true rfl) rfl (fun p e s m args below meth c X hr => pj_X4_status_e X hr v1  M)
