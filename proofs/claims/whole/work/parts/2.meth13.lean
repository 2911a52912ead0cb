def pi_X4_mayBe_e (v0 : Int32) (v1 : Int32) (M : Mem) : Option (Int32 × Mem) := swc v0 [(0, bd (mi_X4_isKind v1 M) fun r_2 M_1 => gd (isB r_2) (some (r_2, M_1))), (1, bd (mi_X4_isValley v1 M) fun r_4 M_3 => gd (isB r_4) (some (r_4, M_3))), (2, bd (mi_X4_within v1 (-5) 5 M) fun r_6 M_5 => gd (isB r_6) (some (r_6, M_5))), (3, bd (mi_X4_within v1 0 3 M) fun r_8 M_7 => gd (isB r_8) (some (r_8, M_7))), (4, bd (mi_X4_isHigh v1 M) fun r_10 M_9 => gd (isB r_10) (some (r_10, M_9))), (5, bd (mi_X4_within v1 0 9999 M) fun r_12 M_11 => gd (isB r_12) (some (r_12, M_11)))] (gd (isB 0) (some (0, M)))
set_option maxRecDepth 100000 in
set_option maxHeartbeats 4000000 in
theorem pj_X4_mayBe_e {p : Program} {l : Launch} {e : Env} {R : Room} {s : State} {m : MethodId} {args : Array Value} {below : List Frame} {meth : Method} {c : Code} {g : Gh} (X : Cx p l e R s m args below meth c g cX4_mayBe 2 (0, 0) RX4 2) (hr : meth.sig.returnType = (some (.boolean))) (v0 : Int32) (v1 : Int32) (M : Mem) : J p l e R s m args below meth c g 2 (0, 0) (QfI below args s g) (pi_X4_mayBe_e v0 v1 M) M 0 [(0, .int v0), (1, .int v1)] [] := by
  unfold pi_X4_mayBe_e
  refine j_iload_n (i := 0) X dX4_mayBe_0 rfl rfl ?_
  refine j_tsw [0, 1, 2, 3, 4, 5] [40, 45, 50, 58, 65, 70] (dt := 79) X dX4_mayBe_1 rfl (by decide +kernel) (by decide +kernel) (by decide) ⟨?_, ?_, ?_, ?_, ?_, ?_, trivial⟩ ?_
  · refine j_iload_n (i := 1) X dX4_mayBe_40 rfl rfl ?_
    refine k_cSI (As := [.int v1]) (rest := []) X (ct_X4_isKind l g v1 M) wl_X4_96 rfl rfl (by decide) (Nat.le_of_ble_eq_true rfl) dX4_mayBe_41 (fun r_2 M_1 => ?_)
    exact j_zret X hr dX4_mayBe_44
  · refine j_iload_n (i := 1) X dX4_mayBe_45 rfl rfl ?_
    refine k_cSI (As := [.int v1]) (rest := []) X (ct_X4_isValley l g v1 M) wl_X4_100 rfl rfl (by decide) (Nat.le_of_ble_eq_true rfl) dX4_mayBe_46 (fun r_4 M_3 => ?_)
    exact j_zret X hr dX4_mayBe_49
  · refine j_iload_n (i := 1) X dX4_mayBe_50 rfl rfl ?_
    refine j_bipush (v := (-5)) X dX4_mayBe_51 rfl ?_
    refine j_iconst (v := 5) X dX4_mayBe_53 rfl ?_
    refine k_cSI (As := [.int v1, .int (-5), .int 5]) (rest := []) X (ct_X4_within l g v1 (-5) 5 M) wl_X4_85 rfl rfl (by decide) (Nat.le_of_ble_eq_true rfl) dX4_mayBe_54 (fun r_6 M_5 => ?_)
    exact j_zret X hr dX4_mayBe_57
  · refine j_iload_n (i := 1) X dX4_mayBe_58 rfl rfl ?_
    refine j_iconst (v := 0) X dX4_mayBe_59 rfl ?_
    refine j_iconst (v := 3) X dX4_mayBe_60 rfl ?_
    refine k_cSI (As := [.int v1, .int 0, .int 3]) (rest := []) X (ct_X4_within l g v1 0 3 M) wl_X4_85 rfl rfl (by decide) (Nat.le_of_ble_eq_true rfl) dX4_mayBe_61 (fun r_8 M_7 => ?_)
    exact j_zret X hr dX4_mayBe_64
  · refine j_iload_n (i := 1) X dX4_mayBe_65 rfl rfl ?_
    refine k_cSI (As := [.int v1]) (rest := []) X (ct_X4_isHigh l g v1 M) wl_X4_141 rfl rfl (by decide) (Nat.le_of_ble_eq_true rfl) dX4_mayBe_66 (fun r_10 M_9 => ?_)
    exact j_zret X hr dX4_mayBe_69
  · refine j_iload_n (i := 1) X dX4_mayBe_70 rfl rfl ?_
    refine j_iconst (v := 0) X dX4_mayBe_71 rfl ?_
    refine j_sipush (v := 9999) X dX4_mayBe_72 rfl ?_
    refine k_cSI (As := [.int v1, .int 0, .int 9999]) (rest := []) X (ct_X4_within l g v1 0 9999 M) wl_X4_85 rfl rfl (by decide) (Nat.le_of_ble_eq_true rfl) dX4_mayBe_75 (fun r_12 M_11 => ?_)
    exact j_zret X hr dX4_mayBe_78
  · refine j_iconst (v := 0) X dX4_mayBe_79 rfl ?_
    exact j_zret X hr dX4_mayBe_80
def mi_X4_mayBe (v0 : Int32) (v1 : Int32) (M : Mem) : Option (Int32 × Mem) := pi_X4_mayBe_e v0 v1 M
theorem ct_X4_mayBe (l : Launch) (g : Gh) (v0 : Int32) (v1 : Int32) (M : Mem) : CtI l g yX4_mayBe cX4_mayBe 2 (some (.boolean)) 2 [.int v0, .int v1] M (mi_X4_mayBe v0 v1 M) := ctI_of (own := RX4) (L := [(0, .int v0), (1, .int v1)]) (by decide +kernel) rfl (Nat.le_of_ble_eq_true rfl) rfl (fun p e s m args below meth c X hr => pj_X4_mayBe_e X hr v0 v1  M)

def pi_X4_change_29 (v1 : Int32) (v2 : Int32) (v3 : Int32) (M : Mem) : Option (Int32 × Mem) := bd (mi_X4_finding (-1000001) M) fun r_4 M_3 => some (r_4, M_3)
set_option maxRecDepth 100000 in
set_option maxHeartbeats 4000000 in
theorem pj_X4_change_29 {p : Program} {l : Launch} {e : Env} {R : Room} {s : State} {m : MethodId} {args : Array Value} {below : List Frame} {meth : Method} {c : Code} {g : Gh} (X : Cx p l e R s m args below meth c g cX4_change 4 (0, 0) RX4 3) (hr : meth.sig.returnType = (some (.int))) (v1 : Int32) (v2 : Int32) (v3 : Int32) (M : Mem) : J p l e R s m args below meth c g 4 (0, 0) (QfI below args s g) (pi_X4_change_29 v1 v2 v3 M) M 29 [(0, .ref (gA g 49)), (1, .int v1), (2, .int v2), (3, .int v3)] [] := by
  unfold pi_X4_change_29
  refine j_aload_n (i := 0) X dX4_change_29 rfl rfl ?_
  refine j_ldc (v := (-1000001)) X wq_345 dX4_change_30 ?_
  refine k_cVI (As := [.int (-1000001)]) (rest := []) (by decide) (cf_md _) rfl X (ct_X4_finding l g (-1000001) M) wl_X4_81 rfl rfl (by decide) (Nat.le_of_ble_eq_true rfl) dX4_change_32 (fun r_4 M_3 => ?_)
  exact j_iret X hr dX4_change_35
def pi_X4_change_e (v1 : Int32) (v2 : Int32) (v3 : Int32) (M : Mem) : Option (Int32 × Mem) := bd (mi_X4_isHill v1 M) fun r_2 M_1 => if r_2 = 0 then (pi_X4_change_29 v1 v2 v3 M_1) else (bd (mi_X4_mayBe v2 v3 M_1) fun r_6 M_5 => if r_6 = 0 then (pi_X4_change_29 v1 v2 v3 M_5) else (bd (mi_X4_at v1 v2 M_5) fun r_8 M_7 => bd (mi_X4_become r_8 v3 M_7) fun r_10 M_9 => some (r_10, M_9)))
set_option maxRecDepth 100000 in
set_option maxHeartbeats 4000000 in
theorem pj_X4_change_e {p : Program} {l : Launch} {e : Env} {R : Room} {s : State} {m : MethodId} {args : Array Value} {below : List Frame} {meth : Method} {c : Code} {g : Gh} (X : Cx p l e R s m args below meth c g cX4_change 4 (0, 0) RX4 3) (hr : meth.sig.returnType = (some (.int))) (v1 : Int32) (v2 : Int32) (v3 : Int32) (M : Mem) : J p l e R s m args below meth c g 4 (0, 0) (QfI below args s g) (pi_X4_change_e v1 v2 v3 M) M 0 [(0, .ref (gA g 49)), (1, .int v1), (2, .int v2), (3, .int v3)] [] := by
  unfold pi_X4_change_e
  refine j_aload_n (i := 0) X dX4_change_0 rfl rfl ?_
  refine j_iload_n (i := 1) X dX4_change_1 rfl rfl ?_
  refine k_cVI (As := [.int v1]) (rest := []) (by decide) (cf_md _) rfl X (ct_X4_isHill l g v1 M) wl_X4_135 rfl rfl (by decide) (Nat.le_of_ble_eq_true rfl) dX4_change_2 (fun r_2 M_1 => ?_)
  refine j_if_eq (tgt := 29) X dX4_change_5 (by decide) ?_ ?_
  · exact pj_X4_change_29 X hr v1 v2 v3 M_1
  · refine j_iload_n (i := 2) X dX4_change_8 rfl rfl ?_
    refine j_iload_n (i := 3) X dX4_change_9 rfl rfl ?_
    refine k_cSI (As := [.int v2, .int v3]) (rest := []) X (ct_X4_mayBe l g v2 v3 M_1) wl_X4_144 rfl rfl (by decide) (Nat.le_of_ble_eq_true rfl) dX4_change_10 (fun r_6 M_5 => ?_)
    refine j_if_eq (tgt := 29) X dX4_change_13 (by decide) ?_ ?_
    · exact pj_X4_change_29 X hr v1 v2 v3 M_5
    · refine j_aload_n (i := 0) X dX4_change_16 rfl rfl ?_
      refine j_iload_n (i := 1) X dX4_change_17 rfl rfl ?_
      refine j_iload_n (i := 2) X dX4_change_18 rfl rfl ?_
      refine k_cSI (As := [.int v1, .int v2]) (rest := [.ref (gA g 49)]) X (ct_X4_at l g v1 v2 M_5) wl_X4_93 rfl rfl (by decide) (Nat.le_of_ble_eq_true rfl) dX4_change_19 (fun r_8 M_7 => ?_)
      refine j_iload_n (i := 3) X dX4_change_22 rfl rfl ?_
      refine k_cVI (As := [.int r_8, .int v3]) (rest := []) (by decide) (cf_md _) rfl X (ct_X4_become l g r_8 v3 M_7) wl_X4_89 rfl rfl (by decide) (Nat.le_of_ble_eq_true rfl) dX4_change_23 (fun r_10 M_9 => ?_)
      refine j_goto (tgt := 35) X dX4_change_26 (by decide) ?_
      exact j_iret X hr dX4_change_35
def mi_X4_change (v1 : Int32) (v2 : Int32) (v3 : Int32) (M : Mem) : Option (Int32 × Mem) := pi_X4_change_e v1 v2 v3 M
theorem ct_X4_change (l : Launch) (g : Gh) (v1 : Int32) (v2 : Int32) (v3 : Int32) (M : Mem) : CtI l g yX4_change cX4_change 4 (some (.int)) 3 [.ref (gA g 49), .int v1, .int v2, .int v3] M (mi_X4_change v1 v2 v3 M) := ctI_of (own := RX4) (L := [(0, .ref (gA g 49)), (1, .int v1), (2, .int v2), (3, .int v3)]) (by decide +kernel) rfl (Nat.le_of_ble_eq_true rfl) rfl (fun p e s m args below meth c X hr => pj_X4_change_e X hr v1 v2 v3  M)

def pi_X4_highestAt_4 (v1 : Int32) (rc4 : Int32 × Int32 × Mem → Option (Int32 × Mem)) (v2 : Int32) (v3 : Int32) (M : Mem) : Option (Int32 × Mem) := gd (inb 1 62) <| if (M 50 (1 : Int32).toNatClampNeg) ≤ v3 then (some (v2, M)) else (bd (mi_X4_hillIs v3 1 M) fun r_3 M_2 => if r_3 = v1 then (bd (mi_X4_hillIs v3 4 M_2) fun r_5 M_4 => bI (if v2 < r_5 then r_5 else v2) fun v2_6 => bI (v3 + 1) fun v3_7 => rc4 (v2_6, v3_7, M_4)) else (bI (v3 + 1) fun v3_8 => rc4 (v2, v3_8, M_2)))
set_option maxRecDepth 100000 in
set_option maxHeartbeats 4000000 in
theorem pj_X4_highestAt_4 {p : Program} {l : Launch} {e : Env} {R : Room} {s : State} {m : MethodId} {args : Array Value} {below : List Frame} {meth : Method} {c : Code} {g : Gh} (X : Cx p l e R s m args below meth c g cX4_highestAt 4 (0, 0) RX4 2) (hr : meth.sig.returnType = (some (.int))) (v1 : Int32) (rc4 : Int32 × Int32 × Mem → Option (Int32 × Mem)) (hc4 : ∀ x, J p l e R s m args below meth c g 4 (0, 0) (QfI below args s g) (rc4 x) x.2.2 4 [(0, .ref (gA g 49)), (1, .int v1), (2, .int x.1), (3, .int x.2.1)] []) (v2 : Int32) (v3 : Int32) (M : Mem) : J p l e R s m args below meth c g 4 (0, 0) (QfI below args s g) (pi_X4_highestAt_4 v1 rc4 v2 v3 M) M 4 [(0, .ref (gA g 49)), (1, .int v1), (2, .int v2), (3, .int v3)] [] := by
  unfold pi_X4_highestAt_4
  refine j_iload_n (i := 3) X dX4_highestAt_4 rfl rfl ?_
  refine j_aload_n (i := 0) X dX4_highestAt_5 rfl rfl ?_
  refine j_get_md 0 X (by decide) wq_346 rfl dX4_highestAt_6 ?_
  refine j_iconst (v := 1) X dX4_highestAt_9 rfl ?_
  refine j_iald X ia_50 dX4_highestAt_10 (fun h_1 => ?_)
  refine j_icmp_ge (tgt := 45) X dX4_highestAt_11 (by decide) ?_ ?_
  · refine j_iload_n (i := 2) X dX4_highestAt_45 rfl rfl ?_
    exact j_iret X hr dX4_highestAt_46
  · refine j_aload_n (i := 0) X dX4_highestAt_14 rfl rfl ?_
    refine j_iload_n (i := 3) X dX4_highestAt_15 rfl rfl ?_
    refine j_iconst (v := 1) X dX4_highestAt_16 rfl ?_
    refine k_cVI (As := [.int v3, .int 1]) (rest := []) (by decide) (cf_md _) rfl X (ct_X4_hillIs l g v3 1 M) wl_X4_108 rfl rfl (by decide) (Nat.le_of_ble_eq_true rfl) dX4_highestAt_17 (fun r_3 M_2 => ?_)
    refine j_iload_n (i := 1) X dX4_highestAt_20 rfl rfl ?_
    refine j_icmp_ne (tgt := 37) X dX4_highestAt_21 (by decide) ?_ ?_
    · refine j_iload_n (i := 2) X dX4_highestAt_24 rfl rfl ?_
      refine j_aload_n (i := 0) X dX4_highestAt_25 rfl rfl ?_
      refine j_iload_n (i := 3) X dX4_highestAt_26 rfl rfl ?_
      refine j_iconst (v := 4) X dX4_highestAt_27 rfl ?_
      refine k_cVI (As := [.int v3, .int 4]) (rest := [.int v2]) (by decide) (cf_md _) rfl X (ct_X4_hillIs l g v3 4 M_2) wl_X4_108 rfl rfl (by decide) (Nat.le_of_ble_eq_true rfl) dX4_highestAt_28 (fun r_5 M_4 => ?_)
      refine j_mmax X wm_X4_148 wm_max2 wm_ini wm_max4 (by decide) (Nat.le_of_ble_eq_true rfl) dX4_highestAt_31 ?_
      refine j_goto (tgt := 38) X dX4_highestAt_34 (by decide) ?_
      refine j_bI (fun v2_6 => ?_)
      refine j_istore_n (i := 2) (Lq := [(0, .ref (gA g 49)), (1, .int v1), (2, .int v2_6), (3, .int v3)]) X dX4_highestAt_38 rfl (by decide) rfl ?_
      refine j_iincB (i := 3) (y := v3 + 1) (Lf := fun v3_7 => [(0, .ref (gA g 49)), (1, .int v1), (2, .int v2_6), (3, .int v3_7)]) X dX4_highestAt_39 rfl rfl (by decide) (fun _ => rfl) (fun v3_7 => ?_)
      refine j_goto (tgt := 4) X dX4_highestAt_42 (by decide) ?_
      exact hc4 (v2_6, v3_7, M_4)
    · refine j_iload_n (i := 2) X dX4_highestAt_37 rfl rfl ?_
      refine j_istore_n (i := 2) (Lq := [(0, .ref (gA g 49)), (1, .int v1), (2, .int v2), (3, .int v3)]) X dX4_highestAt_38 rfl (by decide) rfl ?_
      refine j_iincB (i := 3) (y := v3 + 1) (Lf := fun v3_8 => [(0, .ref (gA g 49)), (1, .int v1), (2, .int v2), (3, .int v3_8)]) X dX4_highestAt_39 rfl rfl (by decide) (fun _ => rfl) (fun v3_8 => ?_)
      refine j_goto (tgt := 4) X dX4_highestAt_42 (by decide) ?_
      exact hc4 (v2, v3_8, M_2)
def pi_X4_highestAt_e (v1 : Int32) (M : Mem) : Option (Int32 × Mem) := lp (fun rc4 x => pi_X4_highestAt_4 v1 rc4 x.1 x.2.1 x.2.2) FU ((-1), 0, M)
set_option maxRecDepth 100000 in
set_option maxHeartbeats 4000000 in
theorem pj_X4_highestAt_e {p : Program} {l : Launch} {e : Env} {R : Room} {s : State} {m : MethodId} {args : Array Value} {below : List Frame} {meth : Method} {c : Code} {g : Gh} (X : Cx p l e R s m args below meth c g cX4_highestAt 4 (0, 0) RX4 2) (hr : meth.sig.returnType = (some (.int))) (v1 : Int32) (M : Mem) : J p l e R s m args below meth c g 4 (0, 0) (QfI below args s g) (pi_X4_highestAt_e v1 M) M 0 [(0, .ref (gA g 49)), (1, .int v1)] [] := by
  unfold pi_X4_highestAt_e
  refine j_iconst (v := (-1)) X dX4_highestAt_0 rfl ?_
  refine j_istore_n (i := 2) (Lq := [(0, .ref (gA g 49)), (1, .int v1), (2, .int (-1))]) X dX4_highestAt_1 rfl (by decide) rfl ?_
  refine j_iconst (v := 0) X dX4_highestAt_2 rfl ?_
  refine j_istore_n (i := 3) (Lq := [(0, .ref (gA g 49)), (1, .int v1), (2, .int (-1)), (3, .int 0)]) X dX4_highestAt_3 rfl (by decide) rfl ?_
  exact j_lp (Lf := fun x => [(0, .ref (gA g 49)), (1, .int v1), (2, .int x.1), (3, .int x.2.1)]) (Mf := fun x => x.2.2) (fun rc4 hc4 x => pj_X4_highestAt_4 X hr v1 rc4 hc4 x.1 x.2.1 x.2.2) FU ((-1), 0, M)
def mi_X4_highestAt (v1 : Int32) (M : Mem) : Option (Int32 × Mem) := pi_X4_highestAt_e v1 M
theorem ct_X4_highestAt (l : Launch) (g : Gh) (v1 : Int32) (M : Mem) : CtI l g yX4_highestAt cX4_highestAt 4 (some (.int)) 2 [.ref (gA g 49), .int v1] M (mi_X4_highestAt v1 M) := ctI_of (own := RX4) (L := [(0, .ref (gA g 49)), (1, .int v1)]) (by decide +kernel) rfl (Nat.le_of_ble_eq_true rfl) rfl (fun p e s m args below meth c X hr => pj_X4_highestAt_e X hr v1  M)

def pi_X4_valley_16 (v1 : Int32) (v2 : Int32) (M : Mem) : Option (Int32 × Mem) := bd (mi_X4_finding (-1000001) M) fun r_4 M_3 => some (r_4, M_3)
set_option maxRecDepth 100000 in
set_option maxHeartbeats 4000000 in
theorem pj_X4_valley_16 {p : Program} {l : Launch} {e : Env} {R : Room} {s : State} {m : MethodId} {args : Array Value} {below : List Frame} {meth : Method} {c : Code} {g : Gh} (X : Cx p l e R s m args below meth c g cX4_valley 3 (0, 0) RX4 4) (hr : meth.sig.returnType = (some (.int))) (v1 : Int32) (v2 : Int32) (M : Mem) : J p l e R s m args below meth c g 3 (0, 0) (QfI below args s g) (pi_X4_valley_16 v1 v2 M) M 16 [(0, .ref (gA g 49)), (1, .int v1), (2, .int v2)] [] := by
  unfold pi_X4_valley_16
  refine j_aload_n (i := 0) X dX4_valley_16 rfl rfl ?_
  refine j_ldc (v := (-1000001)) X wq_345 dX4_valley_17 ?_
  refine k_cVI (As := [.int (-1000001)]) (rest := []) (by decide) (cf_md _) rfl X (ct_X4_finding l g (-1000001) M) wl_X4_81 rfl rfl (by decide) (Nat.le_of_ble_eq_true rfl) dX4_valley_19 (fun r_4 M_3 => ?_)
  exact j_iret X hr dX4_valley_22
def pi_X4_valley_e (v1 : Int32) (v2 : Int32) (M : Mem) : Option (Int32 × Mem) := bd (mi_X4_isValley v1 M) fun r_2 M_1 => if r_2 = 0 then (pi_X4_valley_16 v1 v2 M_1) else (bd (mi_X4_within v2 0 2 M_1) fun r_6 M_5 => if r_6 = 0 then (pi_X4_valley_16 v1 v2 M_5) else (if v2 = 0 then (bd (mi_X4_atValley v1 M_5) fun r_8 M_7 => some (r_8, M_7)) else (if v2 = 1 then (bd (mi_X4_facing v1 M_5) fun r_10 M_9 => some (r_10, M_9)) else (bd (mi_X4_highestAt v1 M_5) fun r_12 M_11 => some (r_12, M_11)))))
set_option maxRecDepth 100000 in
set_option maxHeartbeats 4000000 in
theorem pj_X4_valley_e {p : Program} {l : Launch} {e : Env} {R : Room} {s : State} {m : MethodId} {args : Array Value} {below : List Frame} {meth : Method} {c : Code} {g : Gh} (X : Cx p l e R s m args below meth c g cX4_valley 3 (0, 0) RX4 4) (hr : meth.sig.returnType = (some (.int))) (v1 : Int32) (v2 : Int32) (M : Mem) : J p l e R s m args below meth c g 3 (0, 0) (QfI below args s g) (pi_X4_valley_e v1 v2 M) M 0 [(0, .ref (gA g 49)), (1, .int v1), (2, .int v2)] [] := by
  unfold pi_X4_valley_e
  refine j_iload_n (i := 1) X dX4_valley_0 rfl rfl ?_
  refine k_cSI (As := [.int v1]) (rest := []) X (ct_X4_isValley l g v1 M) wl_X4_100 rfl rfl (by decide) (Nat.le_of_ble_eq_true rfl) dX4_valley_1 (fun r_2 M_1 => ?_)
  refine j_if_eq (tgt := 16) X dX4_valley_4 (by decide) ?_ ?_
  · exact pj_X4_valley_16 X hr v1 v2 M_1
  · refine j_iload_n (i := 2) X dX4_valley_7 rfl rfl ?_
    refine j_iconst (v := 0) X dX4_valley_8 rfl ?_
    refine j_iconst (v := 2) X dX4_valley_9 rfl ?_
    refine k_cSI (As := [.int v2, .int 0, .int 2]) (rest := []) X (ct_X4_within l g v2 0 2 M_1) wl_X4_85 rfl rfl (by decide) (Nat.le_of_ble_eq_true rfl) dX4_valley_10 (fun r_6 M_5 => ?_)
    refine j_if_ne (tgt := 23) X dX4_valley_13 (by decide) ?_ ?_
    · exact pj_X4_valley_16 X hr v1 v2 M_5
    · refine j_iload_n (i := 2) X dX4_valley_23 rfl rfl ?_
      refine j_if_ne (tgt := 35) X dX4_valley_24 (by decide) ?_ ?_
      · refine j_aload_n (i := 0) X dX4_valley_27 rfl rfl ?_
        refine j_iload_n (i := 1) X dX4_valley_28 rfl rfl ?_
        refine k_cVI (As := [.int v1]) (rest := []) (by decide) (cf_md _) rfl X (ct_X4_atValley l g v1 M_5) wl_X4_120 rfl rfl (by decide) (Nat.le_of_ble_eq_true rfl) dX4_valley_29 (fun r_8 M_7 => ?_)
        refine j_goto (tgt := 53) X dX4_valley_32 (by decide) ?_
        exact j_iret X hr dX4_valley_53
      · refine j_iload_n (i := 2) X dX4_valley_35 rfl rfl ?_
        refine j_iconst (v := 1) X dX4_valley_36 rfl ?_
        refine j_icmp_ne (tgt := 48) X dX4_valley_37 (by decide) ?_ ?_
        · refine j_aload_n (i := 0) X dX4_valley_40 rfl rfl ?_
          refine j_iload_n (i := 1) X dX4_valley_41 rfl rfl ?_
          refine k_cVI (As := [.int v1]) (rest := []) (by decide) (cf_md _) rfl X (ct_X4_facing l g v1 M_5) wl_X4_153 rfl rfl (by decide) (Nat.le_of_ble_eq_true rfl) dX4_valley_42 (fun r_10 M_9 => ?_)
          refine j_goto (tgt := 53) X dX4_valley_45 (by decide) ?_
          exact j_iret X hr dX4_valley_53
        · refine j_aload_n (i := 0) X dX4_valley_48 rfl rfl ?_
          refine j_iload_n (i := 1) X dX4_valley_49 rfl rfl ?_
          refine k_cVI (As := [.int v1]) (rest := []) (by decide) (cf_md _) rfl X (ct_X4_highestAt l g v1 M_5) wl_X4_156 rfl rfl (by decide) (Nat.le_of_ble_eq_true rfl) dX4_valley_50 (fun r_12 M_11 => ?_)
          exact j_iret X hr dX4_valley_53
def mi_X4_valley (v1 : Int32) (v2 : Int32) (M : Mem) : Option (Int32 × Mem) := pi_X4_valley_e v1 v2 M
theorem ct_X4_valley (l : Launch) (g : Gh) (v1 : Int32) (v2 : Int32) (M : Mem) : CtI l g yX4_valley cX4_valley 3 (some (.int)) 4 [.ref (gA g 49), .int v1, .int v2] M (mi_X4_valley v1 v2 M) := ctI_of (own := RX4) (L := [(0, .ref (gA g 49)), (1, .int v1), (2, .int v2)]) (by decide +kernel) rfl (Nat.le_of_ble_eq_true rfl) rfl (fun p e s m args below meth c X hr => pj_X4_valley_e X hr v1 v2  M)

def pi_X4_age_128 (v1 : Int32) (v2 : Int32) (t0 : Int32) (t1 : Int32) (rc6 : Int32 × Mem → Option (Mem)) (M : Mem) : Option (Mem) := gd (inb t1 62) <| bM (up M 50 t1.toNatClampNeg t0) fun M_28 => bd (mi_X4_at v1 5 M_28) fun r_30 M_29 => if v2 = 0 then (bd (mi_X4_hillIs v1 5 M_29) fun r_32 M_31 => gd (inb r_30 62) <| bM (up M_31 50 r_30.toNatClampNeg r_32) fun M_34 => bI (v1 + 1) fun v1_35 => rc6 (v1_35, M_34)) else (bd (mi_X4_hillIs v1 5 M_29) fun r_37 M_36 => gd (inb r_30 62) <| bM (up M_36 50 r_30.toNatClampNeg (if (r_37 + 1) < 9999 then (r_37 + 1) else 9999)) fun M_39 => bI (v1 + 1) fun v1_40 => rc6 (v1_40, M_39))
set_option maxRecDepth 100000 in
set_option maxHeartbeats 4000000 in
theorem pj_X4_age_128 {p : Program} {l : Launch} {e : Env} {R : Room} {s : State} {m : MethodId} {args : Array Value} {below : List Frame} {meth : Method} {c : Code} {g : Gh} (X : Cx p l e R s m args below meth c g cX4_age 3 (0, 0) RX4 9) (hr : meth.sig.returnType = none) (v1 : Int32) (v2 : Int32) (t0 : Int32) (t1 : Int32) (rc6 : Int32 × Mem → Option (Mem)) (hc6 : ∀ x, J p l e R s m args below meth c g 3 (0, 0) (QfV below args s g) (rc6 x) x.2 6 [(0, .ref (gA g 49)), (1, .int x.1)] []) (M : Mem) : J p l e R s m args below meth c g 3 (0, 0) (QfV below args s g) (pi_X4_age_128 v1 v2 t0 t1 rc6 M) M 128 [(0, .ref (gA g 49)), (1, .int v1), (2, .int v2)] [.int t0, .int t1, .ref (gA g 50)] := by
  unfold pi_X4_age_128
  refine j_iast X ia_50 dX4_age_128 (fun h_27 => ?_)
  refine j_bM (fun M_28 => ?_)
  refine j_aload_n (i := 0) X dX4_age_129 rfl rfl ?_
  refine j_get_md 0 X (by decide) wq_346 rfl dX4_age_130 ?_
  refine j_iload_n (i := 1) X dX4_age_133 rfl rfl ?_
  refine j_iconst (v := 5) X dX4_age_134 rfl ?_
  refine k_cSI (As := [.int v1, .int 5]) (rest := [.ref (gA g 50)]) X (ct_X4_at l g v1 5 M_28) wl_X4_93 rfl rfl (by decide) (Nat.le_of_ble_eq_true rfl) dX4_age_135 (fun r_30 M_29 => ?_)
  refine j_iload_n (i := 2) X dX4_age_138 rfl rfl ?_
  refine j_if_eq (tgt := 159) X dX4_age_139 (by decide) ?_ ?_
  · refine j_aload_n (i := 0) X dX4_age_159 rfl rfl ?_
    refine j_iload_n (i := 1) X dX4_age_160 rfl rfl ?_
    refine j_iconst (v := 5) X dX4_age_161 rfl ?_
    refine k_cVI (As := [.int v1, .int 5]) (rest := [.int r_30, .ref (gA g 50)]) (by decide) (cf_md _) rfl X (ct_X4_hillIs l g v1 5 M_29) wl_X4_108 rfl rfl (by decide) (Nat.le_of_ble_eq_true rfl) dX4_age_162 (fun r_32 M_31 => ?_)
    refine j_iast X ia_50 dX4_age_165 (fun h_33 => ?_)
    refine j_bM (fun M_34 => ?_)
    refine j_iincB (i := 1) (y := v1 + 1) (Lf := fun v1_35 => [(0, .ref (gA g 49)), (1, .int v1_35), (2, .int v2)]) X dX4_age_166 rfl rfl (by decide) (fun _ => rfl) (fun v1_35 => ?_)
    refine j_goto (tgt := 6) X dX4_age_169 (by decide) ?_
    refine j_pick [0, 1] (Lq := [(0, .ref (gA g 49)), (1, .int v1_35)]) rfl ?_
    exact hc6 (v1_35, M_34)
  · refine j_sipush (v := 9999) X dX4_age_142 rfl ?_
    refine j_aload_n (i := 0) X dX4_age_145 rfl rfl ?_
    refine j_iload_n (i := 1) X dX4_age_146 rfl rfl ?_
    refine j_iconst (v := 5) X dX4_age_147 rfl ?_
    refine k_cVI (As := [.int v1, .int 5]) (rest := [.int 9999, .int r_30, .ref (gA g 50)]) (by decide) (cf_md _) rfl X (ct_X4_hillIs l g v1 5 M_29) wl_X4_108 rfl rfl (by decide) (Nat.le_of_ble_eq_true rfl) dX4_age_148 (fun r_37 M_36 => ?_)
    refine j_iconst (v := 1) X dX4_age_151 rfl ?_
    refine j_iadd X dX4_age_152 ?_
    refine j_mmin X wm_X4_159 wm_min2 wm_ini wm_min4 (by decide) (Nat.le_of_ble_eq_true rfl) dX4_age_153 ?_
    refine j_goto (tgt := 165) X dX4_age_156 (by decide) ?_
    refine j_iast X ia_50 dX4_age_165 (fun h_38 => ?_)
    refine j_bM (fun M_39 => ?_)
    refine j_iincB (i := 1) (y := v1 + 1) (Lf := fun v1_40 => [(0, .ref (gA g 49)), (1, .int v1_40), (2, .int v2)]) X dX4_age_166 rfl rfl (by decide) (fun _ => rfl) (fun v1_40 => ?_)
    refine j_goto (tgt := 6) X dX4_age_169 (by decide) ?_
    refine j_pick [0, 1] (Lq := [(0, .ref (gA g 49)), (1, .int v1_40)]) rfl ?_
    exact hc6 (v1_40, M_39)
def pi_X4_age_30 (v1 : Int32) (t0 : Int32) (rc6 : Int32 × Mem → Option (Mem)) (M : Mem) : Option (Mem) := bd (mi_X4_at v1 1 M) fun r_8 M_7 => bd (mi_X4_hillIs v1 1 M_7) fun r_10 M_9 => gd (inb v1 8) <| bd (mi_X4_by12 (r_10 + (M_9 56 v1.toNatClampNeg)) M_9) fun r_13 M_12 => gd (inb r_8 62) <| bM (up M_12 50 r_8.toNatClampNeg r_13) fun M_15 => bd (mi_X4_at v1 3 M_15) fun r_17 M_16 => bd (mi_X4_hillIs v1 3 M_16) fun r_19 M_18 => gd (inb v1 8) <| gd (inb r_17 62) <| bM (up M_18 50 r_17.toNatClampNeg ((r_19 + (M_18 57 v1.toNatClampNeg)) - (r_19 + (M_18 57 v1.toNatClampNeg)) / 4 * 4)) fun M_22 => bd (mi_X4_at v1 4 M_22) fun r_24 M_23 => if t0 = 0 then (bd (mi_X4_hillIs v1 4 M_23) fun r_26 M_25 => pi_X4_age_128 v1 t0 (if (r_26 + 1) < 99 then (r_26 + 1) else 99) r_24 rc6 M_25) else (bd (mi_X4_hillIs v1 4 M_23) fun r_42 M_41 => gd (inb v1 8) <| pi_X4_age_128 v1 t0 (if 0 < (r_42 - (M_41 58 v1.toNatClampNeg)) then (r_42 - (M_41 58 v1.toNatClampNeg)) else 0) r_24 rc6 M_41)
set_option maxRecDepth 100000 in
set_option maxHeartbeats 4000000 in
theorem pj_X4_age_30 {p : Program} {l : Launch} {e : Env} {R : Room} {s : State} {m : MethodId} {args : Array Value} {below : List Frame} {meth : Method} {c : Code} {g : Gh} (X : Cx p l e R s m args below meth c g cX4_age 3 (0, 0) RX4 9) (hr : meth.sig.returnType = none) (v1 : Int32) (t0 : Int32) (rc6 : Int32 × Mem → Option (Mem)) (hc6 : ∀ x, J p l e R s m args below meth c g 3 (0, 0) (QfV below args s g) (rc6 x) x.2 6 [(0, .ref (gA g 49)), (1, .int x.1)] []) (M : Mem) : J p l e R s m args below meth c g 3 (0, 0) (QfV below args s g) (pi_X4_age_30 v1 t0 rc6 M) M 30 [(0, .ref (gA g 49)), (1, .int v1)] [.int t0] := by
  unfold pi_X4_age_30
  refine j_istore_n (i := 2) (Lq := [(0, .ref (gA g 49)), (1, .int v1), (2, .int t0)]) X dX4_age_30 rfl (by decide) rfl ?_
  refine j_aload_n (i := 0) X dX4_age_31 rfl rfl ?_
  refine j_get_md 0 X (by decide) wq_346 rfl dX4_age_32 ?_
  refine j_iload_n (i := 1) X dX4_age_35 rfl rfl ?_
  refine j_iconst (v := 1) X dX4_age_36 rfl ?_
  refine k_cSI (As := [.int v1, .int 1]) (rest := [.ref (gA g 50)]) X (ct_X4_at l g v1 1 M) wl_X4_93 rfl rfl (by decide) (Nat.le_of_ble_eq_true rfl) dX4_age_37 (fun r_8 M_7 => ?_)
  refine j_aload_n (i := 0) X dX4_age_40 rfl rfl ?_
  refine j_iload_n (i := 1) X dX4_age_41 rfl rfl ?_
  refine j_iconst (v := 1) X dX4_age_42 rfl ?_
  refine k_cVI (As := [.int v1, .int 1]) (rest := [.int r_8, .ref (gA g 50)]) (by decide) (cf_md _) rfl X (ct_X4_hillIs l g v1 1 M_7) wl_X4_108 rfl rfl (by decide) (Nat.le_of_ble_eq_true rfl) dX4_age_43 (fun r_10 M_9 => ?_)
  refine j_aload_n (i := 0) X dX4_age_46 rfl rfl ?_
  refine j_get_md 7 X (by decide) wq_410 rfl dX4_age_47 ?_
  refine j_iload_n (i := 1) X dX4_age_50 rfl rfl ?_
  refine j_iald X ia_56 dX4_age_51 (fun h_11 => ?_)
  refine j_iadd X dX4_age_52 ?_
  refine k_cSI (As := [.int (r_10 + (M_9 56 v1.toNatClampNeg))]) (rest := [.int r_8, .ref (gA g 50)]) X (ct_X4_by12 l g (r_10 + (M_9 56 v1.toNatClampNeg)) M_9) wl_X4_111 rfl rfl (by decide) (Nat.le_of_ble_eq_true rfl) dX4_age_53 (fun r_13 M_12 => ?_)
  refine j_iast X ia_50 dX4_age_56 (fun h_14 => ?_)
  refine j_bM (fun M_15 => ?_)
  refine j_aload_n (i := 0) X dX4_age_57 rfl rfl ?_
  refine j_get_md 0 X (by decide) wq_346 rfl dX4_age_58 ?_
  refine j_iload_n (i := 1) X dX4_age_61 rfl rfl ?_
  refine j_iconst (v := 3) X dX4_age_62 rfl ?_
  refine k_cSI (As := [.int v1, .int 3]) (rest := [.ref (gA g 50)]) X (ct_X4_at l g v1 3 M_15) wl_X4_93 rfl rfl (by decide) (Nat.le_of_ble_eq_true rfl) dX4_age_63 (fun r_17 M_16 => ?_)
  refine j_aload_n (i := 0) X dX4_age_66 rfl rfl ?_
  refine j_iload_n (i := 1) X dX4_age_67 rfl rfl ?_
  refine j_iconst (v := 3) X dX4_age_68 rfl ?_
  refine k_cVI (As := [.int v1, .int 3]) (rest := [.int r_17, .ref (gA g 50)]) (by decide) (cf_md _) rfl X (ct_X4_hillIs l g v1 3 M_16) wl_X4_108 rfl rfl (by decide) (Nat.le_of_ble_eq_true rfl) dX4_age_69 (fun r_19 M_18 => ?_)
  refine j_aload_n (i := 0) X dX4_age_72 rfl rfl ?_
  refine j_get_md 8 X (by decide) wq_411 rfl dX4_age_73 ?_
  refine j_iload_n (i := 1) X dX4_age_76 rfl rfl ?_
  refine j_iald X ia_57 dX4_age_77 (fun h_20 => ?_)
  refine j_iadd X dX4_age_78 ?_
  refine j_iconst (v := 4) X dX4_age_79 rfl ?_
  refine j_iremc X dX4_age_80 (by decide) ?_
  refine j_iast X ia_50 dX4_age_81 (fun h_21 => ?_)
  refine j_bM (fun M_22 => ?_)
  refine j_aload_n (i := 0) X dX4_age_82 rfl rfl ?_
  refine j_get_md 0 X (by decide) wq_346 rfl dX4_age_83 ?_
  refine j_iload_n (i := 1) X dX4_age_86 rfl rfl ?_
  refine j_iconst (v := 4) X dX4_age_87 rfl ?_
  refine k_cSI (As := [.int v1, .int 4]) (rest := [.ref (gA g 50)]) X (ct_X4_at l g v1 4 M_22) wl_X4_93 rfl rfl (by decide) (Nat.le_of_ble_eq_true rfl) dX4_age_88 (fun r_24 M_23 => ?_)
  refine j_iload_n (i := 2) X dX4_age_91 rfl rfl ?_
  refine j_if_eq (tgt := 115) X dX4_age_92 (by decide) ?_ ?_
  · refine j_bipush (v := 99) X dX4_age_115 rfl ?_
    refine j_aload_n (i := 0) X dX4_age_117 rfl rfl ?_
    refine j_iload_n (i := 1) X dX4_age_118 rfl rfl ?_
    refine j_iconst (v := 4) X dX4_age_119 rfl ?_
    refine k_cVI (As := [.int v1, .int 4]) (rest := [.int 99, .int r_24, .ref (gA g 50)]) (by decide) (cf_md _) rfl X (ct_X4_hillIs l g v1 4 M_23) wl_X4_108 rfl rfl (by decide) (Nat.le_of_ble_eq_true rfl) dX4_age_120 (fun r_26 M_25 => ?_)
    refine j_iconst (v := 1) X dX4_age_123 rfl ?_
    refine j_iadd X dX4_age_124 ?_
    refine j_mmin X wm_X4_159 wm_min2 wm_ini wm_min4 (by decide) (Nat.le_of_ble_eq_true rfl) dX4_age_125 ?_
    exact pj_X4_age_128 X hr v1 t0 (if (r_26 + 1) < 99 then (r_26 + 1) else 99) r_24 rc6 hc6 M_25
  · refine j_iconst (v := 0) X dX4_age_95 rfl ?_
    refine j_aload_n (i := 0) X dX4_age_96 rfl rfl ?_
    refine j_iload_n (i := 1) X dX4_age_97 rfl rfl ?_
    refine j_iconst (v := 4) X dX4_age_98 rfl ?_
    refine k_cVI (As := [.int v1, .int 4]) (rest := [.int 0, .int r_24, .ref (gA g 50)]) (by decide) (cf_md _) rfl X (ct_X4_hillIs l g v1 4 M_23) wl_X4_108 rfl rfl (by decide) (Nat.le_of_ble_eq_true rfl) dX4_age_99 (fun r_42 M_41 => ?_)
    refine j_aload_n (i := 0) X dX4_age_102 rfl rfl ?_
    refine j_get_md 9 X (by decide) wq_412 rfl dX4_age_103 ?_
    refine j_iload_n (i := 1) X dX4_age_106 rfl rfl ?_
    refine j_iald X ia_58 dX4_age_107 (fun h_43 => ?_)
    refine j_isub X dX4_age_108 ?_
    refine j_mmax X wm_X4_148 wm_max2 wm_ini wm_max4 (by decide) (Nat.le_of_ble_eq_true rfl) dX4_age_109 ?_
    refine j_goto (tgt := 128) X dX4_age_112 (by decide) ?_
    exact pj_X4_age_128 X hr v1 t0 (if 0 < (r_42 - (M_41 58 v1.toNatClampNeg)) then (r_42 - (M_41 58 v1.toNatClampNeg)) else 0) r_24 rc6 hc6 M_41
def pi_X4_age_6 (rc6 : Int32 × Mem → Option (Mem)) (v1 : Int32) (M : Mem) : Option (Mem) := gd (inb 1 62) <| if (M 50 (1 : Int32).toNatClampNeg) ≤ v1 then (gd (inb 0 62) <| gd (inb 0 62) <| bM (up M 50 (0 : Int32).toNatClampNeg ((M 50 (0 : Int32).toNatClampNeg) + 1)) fun M_5 => some M_5) else (gd (inb v1 8) <| if (M 55 v1.toNatClampNeg) = 0 then (pi_X4_age_30 v1 0 rc6 M) else (pi_X4_age_30 v1 1 rc6 M))
set_option maxRecDepth 100000 in
set_option maxHeartbeats 4000000 in
theorem pj_X4_age_6 {p : Program} {l : Launch} {e : Env} {R : Room} {s : State} {m : MethodId} {args : Array Value} {below : List Frame} {meth : Method} {c : Code} {g : Gh} (X : Cx p l e R s m args below meth c g cX4_age 3 (0, 0) RX4 9) (hr : meth.sig.returnType = none) (rc6 : Int32 × Mem → Option (Mem)) (hc6 : ∀ x, J p l e R s m args below meth c g 3 (0, 0) (QfV below args s g) (rc6 x) x.2 6 [(0, .ref (gA g 49)), (1, .int x.1)] []) (v1 : Int32) (M : Mem) : J p l e R s m args below meth c g 3 (0, 0) (QfV below args s g) (pi_X4_age_6 rc6 v1 M) M 6 [(0, .ref (gA g 49)), (1, .int v1)] [] := by
  unfold pi_X4_age_6
  refine j_iload_n (i := 1) X dX4_age_6 rfl rfl ?_
  refine j_aload_n (i := 0) X dX4_age_7 rfl rfl ?_
  refine j_get_md 0 X (by decide) wq_346 rfl dX4_age_8 ?_
  refine j_iconst (v := 1) X dX4_age_11 rfl ?_
  refine j_iald X ia_50 dX4_age_12 (fun h_2 => ?_)
  refine j_icmp_ge (tgt := 172) X dX4_age_13 (by decide) ?_ ?_
  · refine j_aload_n (i := 0) X dX4_age_172 rfl rfl ?_
    refine j_get_md 0 X (by decide) wq_346 rfl dX4_age_173 ?_
    refine j_iconst (v := 0) X dX4_age_176 rfl ?_
    refine j_dup2 X dX4_age_177 rfl rfl ?_
    refine j_iald X ia_50 dX4_age_178 (fun h_3 => ?_)
    refine j_iconst (v := 1) X dX4_age_179 rfl ?_
    refine j_iadd X dX4_age_180 ?_
    refine j_iast X ia_50 dX4_age_181 (fun h_4 => ?_)
    refine j_bM (fun M_5 => ?_)
    exact j_vret X hr dX4_age_182
  · refine j_aload_n (i := 0) X dX4_age_16 rfl rfl ?_
    refine j_get_md 6 X (by decide) wq_390 rfl dX4_age_17 ?_
    refine j_iload_n (i := 1) X dX4_age_20 rfl rfl ?_
    refine j_iald X ia_55 dX4_age_21 (fun h_6 => ?_)
    refine j_if_eq (tgt := 29) X dX4_age_22 (by decide) ?_ ?_
    · refine j_iconst (v := 0) X dX4_age_29 rfl ?_
      exact pj_X4_age_30 X hr v1 0 rc6 hc6 M
    · refine j_iconst (v := 1) X dX4_age_25 rfl ?_
      refine j_goto (tgt := 30) X dX4_age_26 (by decide) ?_
      exact pj_X4_age_30 X hr v1 1 rc6 hc6 M
def pi_X4_age_e (M : Mem) : Option (Mem) := bv (mi_X4_looksAt M) fun M_1 => lp (fun rc6 x => pi_X4_age_6 rc6 x.1 x.2) FU (0, M_1)
set_option maxRecDepth 100000 in
set_option maxHeartbeats 4000000 in
theorem pj_X4_age_e {p : Program} {l : Launch} {e : Env} {R : Room} {s : State} {m : MethodId} {args : Array Value} {below : List Frame} {meth : Method} {c : Code} {g : Gh} (X : Cx p l e R s m args below meth c g cX4_age 3 (0, 0) RX4 9) (hr : meth.sig.returnType = none) (M : Mem) : J p l e R s m args below meth c g 3 (0, 0) (QfV below args s g) (pi_X4_age_e M) M 0 [(0, .ref (gA g 49))] [] := by
  unfold pi_X4_age_e
  refine j_aload_n (i := 0) X dX4_age_0 rfl rfl ?_
  refine k_cVV (As := []) (rest := []) (by decide) (cf_md _) rfl X (ct_X4_looksAt l g M) wl_X4_138 rfl rfl (by decide) (Nat.le_of_ble_eq_true rfl) dX4_age_1 (fun M_1 => ?_)
  refine j_iconst (v := 0) X dX4_age_4 rfl ?_
  refine j_istore_n (i := 1) (Lq := [(0, .ref (gA g 49)), (1, .int 0)]) X dX4_age_5 rfl (by decide) rfl ?_
  exact j_lp (Lf := fun x => [(0, .ref (gA g 49)), (1, .int x.1)]) (Mf := fun x => x.2) (fun rc6 hc6 x => pj_X4_age_6 X hr rc6 hc6 x.1 x.2) FU (0, M_1)
def mi_X4_age (M : Mem) : Option (Mem) := pi_X4_age_e  M
theorem ct_X4_age (l : Launch) (g : Gh) (M : Mem) : CtV l g yX4_age cX4_age 3 none 9 [.ref (gA g 49)] M (mi_X4_age  M) := ctV_of (own := RX4) (L := [(0, .ref (gA g 49))]) (by decide +kernel) rfl (Nat.le_of_ble_eq_true rfl) rfl (fun p e s m args below meth c X hr => pj_X4_age_e X hr   M)

def pi_X4_ages_2 (v1 : Int32) (rc2 : Int32 × Mem → Option (Mem)) (v2 : Int32) (M : Mem) : Option (Mem) := if v1 ≤ v2 then (some M) else (bv (mi_X4_age M) fun M_1 => bI (v2 + 1) fun v2_2 => rc2 (v2_2, M_1))
set_option maxRecDepth 100000 in
set_option maxHeartbeats 4000000 in
theorem pj_X4_ages_2 {p : Program} {l : Launch} {e : Env} {R : Room} {s : State} {m : MethodId} {args : Array Value} {below : List Frame} {meth : Method} {c : Code} {g : Gh} (X : Cx p l e R s m args below meth c g cX4_ages 3 (0, 0) RX4 10) (hr : meth.sig.returnType = none) (v1 : Int32) (rc2 : Int32 × Mem → Option (Mem)) (hc2 : ∀ x, J p l e R s m args below meth c g 3 (0, 0) (QfV below args s g) (rc2 x) x.2 2 [(0, .ref (gA g 49)), (1, .int v1), (2, .int x.1)] []) (v2 : Int32) (M : Mem) : J p l e R s m args below meth c g 3 (0, 0) (QfV below args s g) (pi_X4_ages_2 v1 rc2 v2 M) M 2 [(0, .ref (gA g 49)), (1, .int v1), (2, .int v2)] [] := by
  unfold pi_X4_ages_2
  refine j_iload_n (i := 2) X dX4_ages_2 rfl rfl ?_
  refine j_iload_n (i := 1) X dX4_ages_3 rfl rfl ?_
  refine j_icmp_ge (tgt := 17) X dX4_ages_4 (by decide) ?_ ?_
  · exact j_vret X hr dX4_ages_17
  · refine j_aload_n (i := 0) X dX4_ages_7 rfl rfl ?_
    refine k_cVV (As := []) (rest := []) (by decide) (cf_md _) rfl X (ct_X4_age l g M) wl_X4_162 rfl rfl (by decide) (Nat.le_of_ble_eq_true rfl) dX4_ages_8 (fun M_1 => ?_)
    refine j_iincB (i := 2) (y := v2 + 1) (Lf := fun v2_2 => [(0, .ref (gA g 49)), (1, .int v1), (2, .int v2_2)]) X dX4_ages_11 rfl rfl (by decide) (fun _ => rfl) (fun v2_2 => ?_)
    refine j_goto (tgt := 2) X dX4_ages_14 (by decide) ?_
    exact hc2 (v2_2, M_1)
def pi_X4_ages_e (v1 : Int32) (M : Mem) : Option (Mem) := lp (fun rc2 x => pi_X4_ages_2 v1 rc2 x.1 x.2) FU (0, M)
set_option maxRecDepth 100000 in
set_option maxHeartbeats 4000000 in
theorem pj_X4_ages_e {p : Program} {l : Launch} {e : Env} {R : Room} {s : State} {m : MethodId} {args : Array Value} {below : List Frame} {meth : Method} {c : Code} {g : Gh} (X : Cx p l e R s m args below meth c g cX4_ages 3 (0, 0) RX4 10) (hr : meth.sig.returnType = none) (v1 : Int32) (M : Mem) : J p l e R s m args below meth c g 3 (0, 0) (QfV below args s g) (pi_X4_ages_e v1 M) M 0 [(0, .ref (gA g 49)), (1, .int v1)] [] := by
  unfold pi_X4_ages_e
  refine j_iconst (v := 0) X dX4_ages_0 rfl ?_
  refine j_istore_n (i := 2) (Lq := [(0, .ref (gA g 49)), (1, .int v1), (2, .int 0)]) X dX4_ages_1 rfl (by decide) rfl ?_
  exact j_lp (Lf := fun x => [(0, .ref (gA g 49)), (1, .int v1), (2, .int x.1)]) (Mf := fun x => x.2) (fun rc2 hc2 x => pj_X4_ages_2 X hr v1 rc2 hc2 x.1 x.2) FU (0, M)
def mi_X4_ages (v1 : Int32) (M : Mem) : Option (Mem) := pi_X4_ages_e v1 M
theorem ct_X4_ages (l : Launch) (g : Gh) (v1 : Int32) (M : Mem) : CtV l g yX4_ages cX4_ages 3 none 10 [.ref (gA g 49), .int v1] M (mi_X4_ages v1 M) := ctV_of (own := RX4) (L := [(0, .ref (gA g 49)), (1, .int v1)]) (by decide +kernel) rfl (Nat.le_of_ble_eq_true rfl) rfl (fun p e s m args below meth c X hr => pj_X4_ages_e X hr v1  M)

def pi_X4_whoMeets_4 (rc4 : Int32 × Int32 × Mem → Option (Int32 × Mem)) (v1 : Int32) (v2 : Int32) (M : Mem) : Option (Int32 × Mem) := gd (inb 1 62) <| if (M 50 (1 : Int32).toNatClampNeg) ≤ v2 then (some (v1, M)) else (bd (mi_X4_meeting v2 M) fun r_3 M_2 => if r_3 = 0 then (bI (v1 ||| 0) fun v1_4 => bI (v2 + 1) fun v2_5 => rc4 (v1_4, v2_5, M_2)) else (bI (v1 ||| (1 <<< (v2 &&& 31))) fun v1_6 => bI (v2 + 1) fun v2_7 => rc4 (v1_6, v2_7, M_2)))
set_option maxRecDepth 100000 in
set_option maxHeartbeats 4000000 in
theorem pj_X4_whoMeets_4 {p : Program} {l : Launch} {e : Env} {R : Room} {s : State} {m : MethodId} {args : Array Value} {below : List Frame} {meth : Method} {c : Code} {g : Gh} (X : Cx p l e R s m args below meth c g cX4_whoMeets 3 (0, 0) RX4 4) (hr : meth.sig.returnType = (some (.int))) (rc4 : Int32 × Int32 × Mem → Option (Int32 × Mem)) (hc4 : ∀ x, J p l e R s m args below meth c g 3 (0, 0) (QfI below args s g) (rc4 x) x.2.2 4 [(0, .ref (gA g 49)), (1, .int x.1), (2, .int x.2.1)] []) (v1 : Int32) (v2 : Int32) (M : Mem) : J p l e R s m args below meth c g 3 (0, 0) (QfI below args s g) (pi_X4_whoMeets_4 rc4 v1 v2 M) M 4 [(0, .ref (gA g 49)), (1, .int v1), (2, .int v2)] [] := by
  unfold pi_X4_whoMeets_4
  refine j_iload_n (i := 2) X dX4_whoMeets_4 rfl rfl ?_
  refine j_aload_n (i := 0) X dX4_whoMeets_5 rfl rfl ?_
  refine j_get_md 0 X (by decide) wq_346 rfl dX4_whoMeets_6 ?_
  refine j_iconst (v := 1) X dX4_whoMeets_9 rfl ?_
  refine j_iald X ia_50 dX4_whoMeets_10 (fun h_1 => ?_)
  refine j_icmp_ge (tgt := 38) X dX4_whoMeets_11 (by decide) ?_ ?_
  · refine j_iload_n (i := 1) X dX4_whoMeets_38 rfl rfl ?_
    exact j_iret X hr dX4_whoMeets_39
  · refine j_iload_n (i := 1) X dX4_whoMeets_14 rfl rfl ?_
    refine j_aload_n (i := 0) X dX4_whoMeets_15 rfl rfl ?_
    refine j_iload_n (i := 2) X dX4_whoMeets_16 rfl rfl ?_
    refine k_cVI (As := [.int v2]) (rest := [.int v1]) (by decide) (cf_md _) rfl X (ct_X4_meeting l g v2 M) wl_X4_129 rfl rfl (by decide) (Nat.le_of_ble_eq_true rfl) dX4_whoMeets_17 (fun r_3 M_2 => ?_)
    refine j_if_eq (tgt := 29) X dX4_whoMeets_20 (by decide) ?_ ?_
    · refine j_iconst (v := 0) X dX4_whoMeets_29 rfl ?_
      refine j_ior X dX4_whoMeets_30 ?_
      refine j_bI (fun v1_4 => ?_)
      refine j_istore_n (i := 1) (Lq := [(0, .ref (gA g 49)), (1, .int v1_4), (2, .int v2)]) X dX4_whoMeets_31 rfl (by decide) rfl ?_
      refine j_iincB (i := 2) (y := v2 + 1) (Lf := fun v2_5 => [(0, .ref (gA g 49)), (1, .int v1_4), (2, .int v2_5)]) X dX4_whoMeets_32 rfl rfl (by decide) (fun _ => rfl) (fun v2_5 => ?_)
      refine j_goto (tgt := 4) X dX4_whoMeets_35 (by decide) ?_
      exact hc4 (v1_4, v2_5, M_2)
    · refine j_iconst (v := 1) X dX4_whoMeets_23 rfl ?_
      refine j_iload_n (i := 2) X dX4_whoMeets_24 rfl rfl ?_
      refine j_ishl X dX4_whoMeets_25 ?_
      refine j_goto (tgt := 30) X dX4_whoMeets_26 (by decide) ?_
      refine j_ior X dX4_whoMeets_30 ?_
      refine j_bI (fun v1_6 => ?_)
      refine j_istore_n (i := 1) (Lq := [(0, .ref (gA g 49)), (1, .int v1_6), (2, .int v2)]) X dX4_whoMeets_31 rfl (by decide) rfl ?_
      refine j_iincB (i := 2) (y := v2 + 1) (Lf := fun v2_7 => [(0, .ref (gA g 49)), (1, .int v1_6), (2, .int v2_7)]) X dX4_whoMeets_32 rfl rfl (by decide) (fun _ => rfl) (fun v2_7 => ?_)
      refine j_goto (tgt := 4) X dX4_whoMeets_35 (by decide) ?_
      exact hc4 (v1_6, v2_7, M_2)
def pi_X4_whoMeets_e (M : Mem) : Option (Int32 × Mem) := lp (fun rc4 x => pi_X4_whoMeets_4 rc4 x.1 x.2.1 x.2.2) FU (0, 0, M)
set_option maxRecDepth 100000 in
set_option maxHeartbeats 4000000 in
theorem pj_X4_whoMeets_e {p : Program} {l : Launch} {e : Env} {R : Room} {s : State} {m : MethodId} {args : Array Value} {below : List Frame} {meth : Method} {c : Code} {g : Gh} (X : Cx p l e R s m args below meth c g cX4_whoMeets 3 (0, 0) RX4 4) (hr : meth.sig.returnType = (some (.int))) (M : Mem) : J p l e R s m args below meth c g 3 (0, 0) (QfI below args s g) (pi_X4_whoMeets_e M) M 0 [(0, .ref (gA g 49))] [] := by
  unfold pi_X4_whoMeets_e
  refine j_iconst (v := 0) X dX4_whoMeets_0 rfl ?_
  refine j_istore_n (i := 1) (Lq := [(0, .ref (gA g 49)), (1, .int 0)]) X dX4_whoMeets_1 rfl (by decide) rfl ?_
  refine j_iconst (v := 0) X dX4_whoMeets_2 rfl ?_
  refine j_istore_n (i := 2) (Lq := [(0, .ref (gA g 49)), (1, .int 0), (2, .int 0)]) X dX4_whoMeets_3 rfl (by decide) rfl ?_
  exact j_lp (Lf := fun x => [(0, .ref (gA g 49)), (1, .int x.1), (2, .int x.2.1)]) (Mf := fun x => x.2.2) (fun rc4 hc4 x => pj_X4_whoMeets_4 X hr rc4 hc4 x.1 x.2.1 x.2.2) FU (0, 0, M)
def mi_X4_whoMeets (M : Mem) : Option (Int32 × Mem) := pi_X4_whoMeets_e  M
theorem ct_X4_whoMeets (l : Launch) (g : Gh) (M : Mem) : CtI l g yX4_whoMeets cX4_whoMeets 3 (some (.int)) 4 [.ref (gA g 49)] M (mi_X4_whoMeets  M) := ctI_of (own := RX4) (L := [(0, .ref (gA g 49))]) (by decide +kernel) rfl (Nat.le_of_ble_eq_true rfl) rfl (fun p e s m args below meth c X hr => pj_X4_whoMeets_e X hr   M)

def pi_X4_go_e (v1 : Int32) (M : Mem) : Option (Int32 × Mem) := bd (mi_X4_within v1 1 60 M) fun r_2 M_1 => if r_2 = 0 then (bd (mi_X4_finding (-1000001) M_1) fun r_4 M_3 => some (r_4, M_3)) else (gd (inb 0 62) <| if ((M_1 50 (0 : Int32).toNatClampNeg) + v1) ≤ 99999 then (bv (mi_X4_ages v1 M_1) fun M_6 => bd (mi_X4_whoMeets M_6) fun r_8 M_7 => bd (mi_X4_bits r_8 M_7) fun r_10 M_9 => some (r_10, M_9)) else (bd (mi_X4_finding (-1000005) M_1) fun r_12 M_11 => some (r_12, M_11)))
set_option maxRecDepth 100000 in
set_option maxHeartbeats 4000000 in
theorem pj_X4_go_e {p : Program} {l : Launch} {e : Env} {R : Room} {s : State} {m : MethodId} {args : Array Value} {below : List Frame} {meth : Method} {c : Code} {g : Gh} (X : Cx p l e R s m args below meth c g cX4_go 2 (0, 0) RX4 11) (hr : meth.sig.returnType = (some (.int))) (v1 : Int32) (M : Mem) : J p l e R s m args below meth c g 2 (0, 0) (QfI below args s g) (pi_X4_go_e v1 M) M 0 [(0, .ref (gA g 49)), (1, .int v1)] [] := by
  unfold pi_X4_go_e
  refine j_iload_n (i := 1) X dX4_go_0 rfl rfl ?_
  refine j_iconst (v := 1) X dX4_go_1 rfl ?_
  refine j_bipush (v := 60) X dX4_go_2 rfl ?_
  refine k_cSI (As := [.int v1, .int 1, .int 60]) (rest := []) X (ct_X4_within l g v1 1 60 M) wl_X4_85 rfl rfl (by decide) (Nat.le_of_ble_eq_true rfl) dX4_go_4 (fun r_2 M_1 => ?_)
  refine j_if_ne (tgt := 17) X dX4_go_7 (by decide) ?_ ?_
  · refine j_aload_n (i := 0) X dX4_go_10 rfl rfl ?_
    refine j_ldc (v := (-1000001)) X wq_345 dX4_go_11 ?_
    refine k_cVI (As := [.int (-1000001)]) (rest := []) (by decide) (cf_md _) rfl X (ct_X4_finding l g (-1000001) M_1) wl_X4_81 rfl rfl (by decide) (Nat.le_of_ble_eq_true rfl) dX4_go_13 (fun r_4 M_3 => ?_)
    exact j_iret X hr dX4_go_16
  · refine j_aload_n (i := 0) X dX4_go_17 rfl rfl ?_
    refine j_get_md 0 X (by decide) wq_346 rfl dX4_go_18 ?_
    refine j_iconst (v := 0) X dX4_go_21 rfl ?_
    refine j_iald X ia_50 dX4_go_22 (fun h_5 => ?_)
    refine j_iload_n (i := 1) X dX4_go_23 rfl rfl ?_
    refine j_iadd X dX4_go_24 ?_
    refine j_ldc (v := 99999) X wq_443 dX4_go_25 ?_
    refine j_icmp_le (tgt := 37) X dX4_go_27 (by decide) ?_ ?_
    · refine j_aload_n (i := 0) X dX4_go_37 rfl rfl ?_
      refine j_iload_n (i := 1) X dX4_go_38 rfl rfl ?_
      refine k_cVV (As := [.int v1]) (rest := []) (by decide) (cf_md _) rfl X (ct_X4_ages l g v1 M_1) wl_X4_167 rfl rfl (by decide) (Nat.le_of_ble_eq_true rfl) dX4_go_39 (fun M_6 => ?_)
      refine j_aload_n (i := 0) X dX4_go_42 rfl rfl ?_
      refine k_cVI (As := []) (rest := []) (by decide) (cf_md _) rfl X (ct_X4_whoMeets l g M_6) wl_X4_171 rfl rfl (by decide) (Nat.le_of_ble_eq_true rfl) dX4_go_43 (fun r_8 M_7 => ?_)
      refine k_cSI (As := [.int r_8]) (rest := []) X (ct_X4_bits l g r_8 M_7) wl_X4_123 rfl rfl (by decide) (Nat.le_of_ble_eq_true rfl) dX4_go_46 (fun r_10 M_9 => ?_)
      exact j_iret X hr dX4_go_49
    · refine j_aload_n (i := 0) X dX4_go_30 rfl rfl ?_
      refine j_ldc (v := (-1000005)) X wq_452 dX4_go_31 ?_
      refine k_cVI (As := [.int (-1000005)]) (rest := []) (by decide) (cf_md _) rfl X (ct_X4_finding l g (-1000005) M_1) wl_X4_81 rfl rfl (by decide) (Nat.le_of_ble_eq_true rfl) dX4_go_33 (fun r_12 M_11 => ?_)
      exact j_iret X hr dX4_go_36
def mi_X4_go (v1 : Int32) (M : Mem) : Option (Int32 × Mem) := pi_X4_go_e v1 M
theorem ct_X4_go (l : Launch) (g : Gh) (v1 : Int32) (M : Mem) : CtI l g yX4_go cX4_go 2 (some (.int)) 11 [.ref (gA g 49), .int v1] M (mi_X4_go v1 M) := ctI_of (own := RX4) (L := [(0, .ref (gA g 49)), (1, .int v1)]) (by decide +kernel) rfl (Nat.le_of_ble_eq_true rfl) rfl (fun p e s m args below meth c X hr => pj_X4_go_e X hr v1  M)
