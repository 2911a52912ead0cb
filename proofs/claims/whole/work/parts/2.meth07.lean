def pi_X3_soonestWith_29 (v1 : Int32) (v2 : Int32) (v3 : Int32) (rc29 : Int32 × Int32 × Int32 × Mem → Option (Int32 × Mem)) (v4 : Int32) (v5 : Int32) (v6 : Int32) (M : Mem) : Option (Int32 × Mem) := bd (mi_X3_mostOf v3 M) fun r_6 M_5 => if r_6 < v6 then (if v5 ≤ 200 then (some (v4, M_5)) else (bd (mi_X3_finding 3 M_5) fun r_8 M_7 => some (r_8, M_7))) else (bv (mi_X3_tryWith v1 v3 v6 M_5) fun M_9 => bd (mi_X3_agesUntilMeeting v1 v2 (v5 - 1) M_9) fun r_11 M_10 => if r_11 < 0 then (bI (v6 + 1) fun v6_12 => rc29 (v4, v5, v6_12, M_10)) else (bI (v6 + 1) fun v6_13 => rc29 (v6, r_11, v6_13, M_10)))
set_option maxRecDepth 100000 in
set_option maxHeartbeats 4000000 in
theorem pj_X3_soonestWith_29 {p : Program} {l : Launch} {e : Env} {R : Room} {s : State} {m : MethodId} {args : Array Value} {below : List Frame} {meth : Method} {c : Code} {g : Gh} (X : Cx p l e R s m args below meth c g cX3_soonestWith 8 (0, 0) RX3 5) (hr : meth.sig.returnType = (some (.int))) (v1 : Int32) (v2 : Int32) (v3 : Int32) (rc29 : Int32 × Int32 × Int32 × Mem → Option (Int32 × Mem)) (hc29 : ∀ x, J p l e R s m args below meth c g 8 (0, 0) (QfI below args s g) (rc29 x) x.2.2.2 29 [(0, .ref (gA g 0)), (1, .int v1), (2, .int v2), (3, .int v3), (4, .int x.1), (5, .int x.2.1), (6, .int x.2.2.1)] []) (v4 : Int32) (v5 : Int32) (v6 : Int32) (M : Mem) : J p l e R s m args below meth c g 8 (0, 0) (QfI below args s g) (pi_X3_soonestWith_29 v1 v2 v3 rc29 v4 v5 v6 M) M 29 [(0, .ref (gA g 0)), (1, .int v1), (2, .int v2), (3, .int v3), (4, .int v4), (5, .int v5), (6, .int v6)] [] := by
  unfold pi_X3_soonestWith_29
  refine j_iload (i := 6) X dX3_soonestWith_29 rfl ?_
  refine j_iload_n (i := 3) X dX3_soonestWith_31 rfl rfl ?_
  refine k_cSI (As := [.int v3]) (rest := [.int v6]) X (ct_X3_mostOf l g v3 M) wl_X3_85 rfl rfl (by decide) (Nat.le_of_ble_eq_true rfl) dX3_soonestWith_32 (fun r_6 M_5 => ?_)
  refine j_icmp_gt (tgt := 77) X dX3_soonestWith_35 (by decide) ?_ ?_
  · refine j_iload (i := 5) X dX3_soonestWith_77 rfl ?_
    refine j_sipush (v := 200) X dX3_soonestWith_79 rfl ?_
    refine j_icmp_le (tgt := 93) X dX3_soonestWith_82 (by decide) ?_ ?_
    · refine j_iload (i := 4) X dX3_soonestWith_93 rfl ?_
      exact j_iret X hr dX3_soonestWith_95
    · refine j_aload_n (i := 0) X dX3_soonestWith_85 rfl rfl ?_
      refine j_iconst (v := 3) X dX3_soonestWith_86 rfl ?_
      refine k_cVI (As := [.int 3]) (rest := []) (by decide) (cf_hd _) rfl X (ct_X3_finding l g 3 M_5) wl_X3_44 rfl rfl (by decide) (Nat.le_of_ble_eq_true rfl) dX3_soonestWith_87 (fun r_8 M_7 => ?_)
      refine j_goto (tgt := 95) X dX3_soonestWith_90 (by decide) ?_
      exact j_iret X hr dX3_soonestWith_95
  · refine j_aload_n (i := 0) X dX3_soonestWith_38 rfl rfl ?_
    refine j_iload_n (i := 1) X dX3_soonestWith_39 rfl rfl ?_
    refine j_iload_n (i := 3) X dX3_soonestWith_40 rfl rfl ?_
    refine j_iload (i := 6) X dX3_soonestWith_41 rfl ?_
    refine k_cVV (As := [.int v1, .int v3, .int v6]) (rest := []) (by decide) (cf_hd _) rfl X (ct_X3_tryWith l g v1 v3 v6 M_5) wl_X3_161 rfl rfl (by decide) (Nat.le_of_ble_eq_true rfl) dX3_soonestWith_43 (fun M_9 => ?_)
    refine j_aload_n (i := 0) X dX3_soonestWith_46 rfl rfl ?_
    refine j_iload_n (i := 1) X dX3_soonestWith_47 rfl rfl ?_
    refine j_iload_n (i := 2) X dX3_soonestWith_48 rfl rfl ?_
    refine j_iload (i := 5) X dX3_soonestWith_49 rfl ?_
    refine j_iconst (v := 1) X dX3_soonestWith_51 rfl ?_
    refine j_isub X dX3_soonestWith_52 ?_
    refine k_cVI (As := [.int v1, .int v2, .int (v5 - 1)]) (rest := []) (by decide) (cf_hd _) rfl X (ct_X3_agesUntilMeeting l g v1 v2 (v5 - 1) M_9) wl_X3_147 rfl rfl (by decide) (Nat.le_of_ble_eq_true rfl) dX3_soonestWith_53 (fun r_11 M_10 => ?_)
    refine j_istore (i := 7) (Lq := [(0, .ref (gA g 0)), (1, .int v1), (2, .int v2), (3, .int v3), (4, .int v4), (5, .int v5), (6, .int v6), (7, .int r_11)]) X dX3_soonestWith_56 (by decide) rfl ?_
    refine j_iload (i := 7) X dX3_soonestWith_58 rfl ?_
    refine j_if_lt (tgt := 71) X dX3_soonestWith_60 (by decide) ?_ ?_
    · refine j_iincB (i := 6) (y := v6 + 1) (Lf := fun v6_12 => [(0, .ref (gA g 0)), (1, .int v1), (2, .int v2), (3, .int v3), (4, .int v4), (5, .int v5), (6, .int v6_12), (7, .int r_11)]) X dX3_soonestWith_71 rfl rfl (by decide) (fun _ => rfl) (fun v6_12 => ?_)
      refine j_goto (tgt := 29) X dX3_soonestWith_74 (by decide) ?_
      refine j_pick [0, 1, 2, 3, 4, 5, 6] (Lq := [(0, .ref (gA g 0)), (1, .int v1), (2, .int v2), (3, .int v3), (4, .int v4), (5, .int v5), (6, .int v6_12)]) rfl ?_
      exact hc29 (v4, v5, v6_12, M_10)
    · refine j_iload (i := 7) X dX3_soonestWith_63 rfl ?_
      refine j_istore (i := 5) (Lq := [(0, .ref (gA g 0)), (1, .int v1), (2, .int v2), (3, .int v3), (4, .int v4), (5, .int r_11), (6, .int v6), (7, .int r_11)]) X dX3_soonestWith_65 (by decide) rfl ?_
      refine j_iload (i := 6) X dX3_soonestWith_67 rfl ?_
      refine j_istore (i := 4) (Lq := [(0, .ref (gA g 0)), (1, .int v1), (2, .int v2), (3, .int v3), (4, .int v6), (5, .int r_11), (6, .int v6), (7, .int r_11)]) X dX3_soonestWith_69 (by decide) rfl ?_
      refine j_iincB (i := 6) (y := v6 + 1) (Lf := fun v6_13 => [(0, .ref (gA g 0)), (1, .int v1), (2, .int v2), (3, .int v3), (4, .int v6), (5, .int r_11), (6, .int v6_13), (7, .int r_11)]) X dX3_soonestWith_71 rfl rfl (by decide) (fun _ => rfl) (fun v6_13 => ?_)
      refine j_goto (tgt := 29) X dX3_soonestWith_74 (by decide) ?_
      refine j_pick [0, 1, 2, 3, 4, 5, 6] (Lq := [(0, .ref (gA g 0)), (1, .int v1), (2, .int v2), (3, .int v3), (4, .int v6), (5, .int r_11), (6, .int v6_13)]) rfl ?_
      exact hc29 (v6, r_11, v6_13, M_10)
def pi_X3_soonestWith_e (v1 : Int32) (v2 : Int32) (v3 : Int32) (M : Mem) : Option (Int32 × Mem) := bd (mi_X3_isNoPair v1 v2 M) fun r_2 M_1 => if r_2 = 0 then (bd (mi_X3_leastOf v3 M_1) fun r_4 M_3 => lp (fun rc29 x => pi_X3_soonestWith_29 v1 v2 v3 rc29 x.1 x.2.1 x.2.2.1 x.2.2.2) FU (0, 201, r_4, M_3)) else (bd (mi_X3_finding 0 M_1) fun r_15 M_14 => some (r_15, M_14))
set_option maxRecDepth 100000 in
set_option maxHeartbeats 4000000 in
theorem pj_X3_soonestWith_e {p : Program} {l : Launch} {e : Env} {R : Room} {s : State} {m : MethodId} {args : Array Value} {below : List Frame} {meth : Method} {c : Code} {g : Gh} (X : Cx p l e R s m args below meth c g cX3_soonestWith 8 (0, 0) RX3 5) (hr : meth.sig.returnType = (some (.int))) (v1 : Int32) (v2 : Int32) (v3 : Int32) (M : Mem) : J p l e R s m args below meth c g 8 (0, 0) (QfI below args s g) (pi_X3_soonestWith_e v1 v2 v3 M) M 0 [(0, .ref (gA g 0)), (1, .int v1), (2, .int v2), (3, .int v3)] [] := by
  unfold pi_X3_soonestWith_e
  refine j_aload_n (i := 0) X dX3_soonestWith_0 rfl rfl ?_
  refine j_iload_n (i := 1) X dX3_soonestWith_1 rfl rfl ?_
  refine j_iload_n (i := 2) X dX3_soonestWith_2 rfl rfl ?_
  refine k_cVI (As := [.int v1, .int v2]) (rest := []) (by decide) (cf_hd _) rfl X (ct_X3_isNoPair l g v1 v2 M) wl_X3_143 rfl rfl (by decide) (Nat.le_of_ble_eq_true rfl) dX3_soonestWith_3 (fun r_2 M_1 => ?_)
  refine j_if_eq (tgt := 15) X dX3_soonestWith_6 (by decide) ?_ ?_
  · refine j_iconst (v := 0) X dX3_soonestWith_15 rfl ?_
    refine j_istore (i := 4) (Lq := [(0, .ref (gA g 0)), (1, .int v1), (2, .int v2), (3, .int v3), (4, .int 0)]) X dX3_soonestWith_16 (by decide) rfl ?_
    refine j_sipush (v := 201) X dX3_soonestWith_18 rfl ?_
    refine j_istore (i := 5) (Lq := [(0, .ref (gA g 0)), (1, .int v1), (2, .int v2), (3, .int v3), (4, .int 0), (5, .int 201)]) X dX3_soonestWith_21 (by decide) rfl ?_
    refine j_iload_n (i := 3) X dX3_soonestWith_23 rfl rfl ?_
    refine k_cSI (As := [.int v3]) (rest := []) X (ct_X3_leastOf l g v3 M_1) wl_X3_82 rfl rfl (by decide) (Nat.le_of_ble_eq_true rfl) dX3_soonestWith_24 (fun r_4 M_3 => ?_)
    refine j_istore (i := 6) (Lq := [(0, .ref (gA g 0)), (1, .int v1), (2, .int v2), (3, .int v3), (4, .int 0), (5, .int 201), (6, .int r_4)]) X dX3_soonestWith_27 (by decide) rfl ?_
    exact j_lp (Lf := fun x => [(0, .ref (gA g 0)), (1, .int v1), (2, .int v2), (3, .int v3), (4, .int x.1), (5, .int x.2.1), (6, .int x.2.2.1)]) (Mf := fun x => x.2.2.2) (fun rc29 hc29 x => pj_X3_soonestWith_29 X hr v1 v2 v3 rc29 hc29 x.1 x.2.1 x.2.2.1 x.2.2.2) FU (0, 201, r_4, M_3)
  · refine j_aload_n (i := 0) X dX3_soonestWith_9 rfl rfl ?_
    refine j_iconst (v := 0) X dX3_soonestWith_10 rfl ?_
    refine k_cVI (As := [.int 0]) (rest := []) (by decide) (cf_hd _) rfl X (ct_X3_finding l g 0 M_1) wl_X3_44 rfl rfl (by decide) (Nat.le_of_ble_eq_true rfl) dX3_soonestWith_11 (fun r_15 M_14 => ?_)
    exact j_iret X hr dX3_soonestWith_14
def mi_X3_soonestWith (v1 : Int32) (v2 : Int32) (v3 : Int32) (M : Mem) : Option (Int32 × Mem) := pi_X3_soonestWith_e v1 v2 v3 M
theorem ct_X3_soonestWith (l : Launch) (g : Gh) (v1 : Int32) (v2 : Int32) (v3 : Int32) (M : Mem) : CtI l g yX3_soonestWith cX3_soonestWith 8 (some (.int)) 5 [.ref (gA g 0), .int v1, .int v2, .int v3] M (mi_X3_soonestWith v1 v2 v3 M) := ctI_of (own := RX3) (L := [(0, .ref (gA g 0)), (1, .int v1), (2, .int v2), (3, .int v3)]) (by decide +kernel) rfl (Nat.le_of_ble_eq_true rfl) rfl (fun p e s m args below meth c X hr => pj_X3_soonestWith_e X hr v1 v2 v3  M)

def pi_X3_stand_e (v1 : Int32) (v2 : Int32) (M : Mem) : Option (Int32 × Mem) := bd (mi_X3_soonestWith v1 v2 1 M) fun r_2 M_1 => some (r_2, M_1)
set_option maxRecDepth 100000 in
set_option maxHeartbeats 4000000 in
theorem pj_X3_stand_e {p : Program} {l : Launch} {e : Env} {R : Room} {s : State} {m : MethodId} {args : Array Value} {below : List Frame} {meth : Method} {c : Code} {g : Gh} (X : Cx p l e R s m args below meth c g cX3_stand 3 (0, 0) RX3 6) (hr : meth.sig.returnType = (some (.int))) (v1 : Int32) (v2 : Int32) (M : Mem) : J p l e R s m args below meth c g 3 (0, 0) (QfI below args s g) (pi_X3_stand_e v1 v2 M) M 0 [(0, .ref (gA g 0)), (1, .int v1), (2, .int v2)] [] := by
  unfold pi_X3_stand_e
  refine j_aload_n (i := 0) X dX3_stand_0 rfl rfl ?_
  refine j_iload_n (i := 1) X dX3_stand_1 rfl rfl ?_
  refine j_iload_n (i := 2) X dX3_stand_2 rfl rfl ?_
  refine j_iconst (v := 1) X dX3_stand_3 rfl ?_
  refine k_cVI (As := [.int v1, .int v2, .int 1]) (rest := []) (by decide) (cf_hd _) rfl X (ct_X3_soonestWith l g v1 v2 1 M) wl_X3_158 rfl rfl (by decide) (Nat.le_of_ble_eq_true rfl) dX3_stand_4 (fun r_2 M_1 => ?_)
  exact j_iret X hr dX3_stand_7
def mi_X3_stand (v1 : Int32) (v2 : Int32) (M : Mem) : Option (Int32 × Mem) := pi_X3_stand_e v1 v2 M
theorem ct_X3_stand (l : Launch) (g : Gh) (v1 : Int32) (v2 : Int32) (M : Mem) : CtI l g yX3_stand cX3_stand 3 (some (.int)) 6 [.ref (gA g 0), .int v1, .int v2] M (mi_X3_stand v1 v2 M) := ctI_of (own := RX3) (L := [(0, .ref (gA g 0)), (1, .int v1), (2, .int v2)]) (by decide +kernel) rfl (Nat.le_of_ble_eq_true rfl) rfl (fun p e s m args below meth c X hr => pj_X3_stand_e X hr v1 v2  M)

def pi_X3_stepFor_e (v1 : Int32) (v2 : Int32) (M : Mem) : Option (Int32 × Mem) := bd (mi_X3_soonestWith v1 v2 2 M) fun r_2 M_1 => some (r_2, M_1)
set_option maxRecDepth 100000 in
set_option maxHeartbeats 4000000 in
theorem pj_X3_stepFor_e {p : Program} {l : Launch} {e : Env} {R : Room} {s : State} {m : MethodId} {args : Array Value} {below : List Frame} {meth : Method} {c : Code} {g : Gh} (X : Cx p l e R s m args below meth c g cX3_stepFor 3 (0, 0) RX3 6) (hr : meth.sig.returnType = (some (.int))) (v1 : Int32) (v2 : Int32) (M : Mem) : J p l e R s m args below meth c g 3 (0, 0) (QfI below args s g) (pi_X3_stepFor_e v1 v2 M) M 0 [(0, .ref (gA g 0)), (1, .int v1), (2, .int v2)] [] := by
  unfold pi_X3_stepFor_e
  refine j_aload_n (i := 0) X dX3_stepFor_0 rfl rfl ?_
  refine j_iload_n (i := 1) X dX3_stepFor_1 rfl rfl ?_
  refine j_iload_n (i := 2) X dX3_stepFor_2 rfl rfl ?_
  refine j_iconst (v := 2) X dX3_stepFor_3 rfl ?_
  refine k_cVI (As := [.int v1, .int v2, .int 2]) (rest := []) (by decide) (cf_hd _) rfl X (ct_X3_soonestWith l g v1 v2 2 M) wl_X3_158 rfl rfl (by decide) (Nat.le_of_ble_eq_true rfl) dX3_stepFor_4 (fun r_2 M_1 => ?_)
  exact j_iret X hr dX3_stepFor_7
def mi_X3_stepFor (v1 : Int32) (v2 : Int32) (M : Mem) : Option (Int32 × Mem) := pi_X3_stepFor_e v1 v2 M
theorem ct_X3_stepFor (l : Launch) (g : Gh) (v1 : Int32) (v2 : Int32) (M : Mem) : CtI l g yX3_stepFor cX3_stepFor 3 (some (.int)) 6 [.ref (gA g 0), .int v1, .int v2] M (mi_X3_stepFor v1 v2 M) := ctI_of (own := RX3) (L := [(0, .ref (gA g 0)), (1, .int v1), (2, .int v2)]) (by decide +kernel) rfl (Nat.le_of_ble_eq_true rfl) rfl (fun p e s m args below meth c X hr => pj_X3_stepFor_e X hr v1 v2  M)

def pi_X3_turnFor_e (v1 : Int32) (v2 : Int32) (M : Mem) : Option (Int32 × Mem) := bd (mi_X3_soonestWith v1 v2 3 M) fun r_2 M_1 => some (r_2, M_1)
set_option maxRecDepth 100000 in
set_option maxHeartbeats 4000000 in
theorem pj_X3_turnFor_e {p : Program} {l : Launch} {e : Env} {R : Room} {s : State} {m : MethodId} {args : Array Value} {below : List Frame} {meth : Method} {c : Code} {g : Gh} (X : Cx p l e R s m args below meth c g cX3_turnFor 3 (0, 0) RX3 6) (hr : meth.sig.returnType = (some (.int))) (v1 : Int32) (v2 : Int32) (M : Mem) : J p l e R s m args below meth c g 3 (0, 0) (QfI below args s g) (pi_X3_turnFor_e v1 v2 M) M 0 [(0, .ref (gA g 0)), (1, .int v1), (2, .int v2)] [] := by
  unfold pi_X3_turnFor_e
  refine j_aload_n (i := 0) X dX3_turnFor_0 rfl rfl ?_
  refine j_iload_n (i := 1) X dX3_turnFor_1 rfl rfl ?_
  refine j_iload_n (i := 2) X dX3_turnFor_2 rfl rfl ?_
  refine j_iconst (v := 3) X dX3_turnFor_3 rfl ?_
  refine k_cVI (As := [.int v1, .int v2, .int 3]) (rest := []) (by decide) (cf_hd _) rfl X (ct_X3_soonestWith l g v1 v2 3 M) wl_X3_158 rfl rfl (by decide) (Nat.le_of_ble_eq_true rfl) dX3_turnFor_4 (fun r_2 M_1 => ?_)
  exact j_iret X hr dX3_turnFor_7
def mi_X3_turnFor (v1 : Int32) (v2 : Int32) (M : Mem) : Option (Int32 × Mem) := pi_X3_turnFor_e v1 v2 M
theorem ct_X3_turnFor (l : Launch) (g : Gh) (v1 : Int32) (v2 : Int32) (M : Mem) : CtI l g yX3_turnFor cX3_turnFor 3 (some (.int)) 6 [.ref (gA g 0), .int v1, .int v2] M (mi_X3_turnFor v1 v2 M) := ctI_of (own := RX3) (L := [(0, .ref (gA g 0)), (1, .int v1), (2, .int v2)]) (by decide +kernel) rfl (Nat.le_of_ble_eq_true rfl) rfl (fun p e s m args below meth c X hr => pj_X3_turnFor_e X hr v1 v2  M)

def pi_X3_kindFor_35 (v1 : Int32) (v2 : Int32) (rc35 : Int32 × Int32 × Int32 × Mem → Option (Int32 × Mem)) (v3 : Int32) (v4 : Int32) (v5 : Int32) (M : Mem) : Option (Int32 × Mem) := if 7 ≤ v5 then (some (v3, M)) else (bv (mi_X3_tryWith v1 0 v5 M) fun M_5 => bv (mi_X2_passAges 13 v2 M_5) fun M_6 => bd (mi_X2_trait 13 v1 5 M_6) fun r_8 M_7 => if r_8 ≤ v4 then (bI (v5 + 1) fun v5_9 => rc35 (v3, v4, v5_9, M_7)) else (bI (v5 + 1) fun v5_10 => rc35 (v5, r_8, v5_10, M_7)))
set_option maxRecDepth 100000 in
set_option maxHeartbeats 4000000 in
theorem pj_X3_kindFor_35 {p : Program} {l : Launch} {e : Env} {R : Room} {s : State} {m : MethodId} {args : Array Value} {below : List Frame} {meth : Method} {c : Code} {g : Gh} (X : Cx p l e R s m args below meth c g cX3_kindFor 7 (0, 0) RX3 5) (hr : meth.sig.returnType = (some (.int))) (v1 : Int32) (v2 : Int32) (rc35 : Int32 × Int32 × Int32 × Mem → Option (Int32 × Mem)) (hc35 : ∀ x, J p l e R s m args below meth c g 7 (0, 0) (QfI below args s g) (rc35 x) x.2.2.2 35 [(0, .ref (gA g 0)), (1, .int v1), (2, .int v2), (3, .int x.1), (4, .int x.2.1), (5, .int x.2.2.1)] []) (v3 : Int32) (v4 : Int32) (v5 : Int32) (M : Mem) : J p l e R s m args below meth c g 7 (0, 0) (QfI below args s g) (pi_X3_kindFor_35 v1 v2 rc35 v3 v4 v5 M) M 35 [(0, .ref (gA g 0)), (1, .int v1), (2, .int v2), (3, .int v3), (4, .int v4), (5, .int v5)] [] := by
  unfold pi_X3_kindFor_35
  refine j_iload (i := 5) X dX3_kindFor_35 rfl ?_
  refine j_bipush (v := 7) X dX3_kindFor_37 rfl ?_
  refine j_icmp_ge (tgt := 89) X dX3_kindFor_39 (by decide) ?_ ?_
  · refine j_iload_n (i := 3) X dX3_kindFor_89 rfl rfl ?_
    exact j_iret X hr dX3_kindFor_90
  · refine j_aload_n (i := 0) X dX3_kindFor_42 rfl rfl ?_
    refine j_iload_n (i := 1) X dX3_kindFor_43 rfl rfl ?_
    refine j_iconst (v := 0) X dX3_kindFor_44 rfl ?_
    refine j_iload (i := 5) X dX3_kindFor_45 rfl ?_
    refine k_cVV (As := [.int v1, .int 0, .int v5]) (rest := []) (by decide) (cf_hd _) rfl X (ct_X3_tryWith l g v1 0 v5 M) wl_X3_161 rfl rfl (by decide) (Nat.le_of_ble_eq_true rfl) dX3_kindFor_47 (fun M_5 => ?_)
    refine j_aload_n (i := 0) X dX3_kindFor_50 rfl rfl ?_
    refine j_get_hd 1 X (by decide) wq_240 rfl dX3_kindFor_51 ?_
    refine j_iload_n (i := 2) X dX3_kindFor_54 rfl rfl ?_
    refine k_cVV (As := [.int v2]) (rest := []) sh_13.lt (cf_sh sh_13 _) rfl X (ct_X2_passAges l g 13 v2 sh_13 M_5) wl_X3_105 rfl rfl (by decide) (Nat.le_of_ble_eq_true rfl) dX3_kindFor_55 (fun M_6 => ?_)
    refine j_aload_n (i := 0) X dX3_kindFor_58 rfl rfl ?_
    refine j_get_hd 1 X (by decide) wq_240 rfl dX3_kindFor_59 ?_
    refine j_iload_n (i := 1) X dX3_kindFor_62 rfl rfl ?_
    refine j_iconst (v := 5) X dX3_kindFor_63 rfl ?_
    refine k_cVI (As := [.int v1, .int 5]) (rest := []) sh_13.lt (cf_sh sh_13 _) rfl X (ct_X2_trait l g 13 v1 5 sh_13 M_6) wl_X3_79 rfl rfl (by decide) (Nat.le_of_ble_eq_true rfl) dX3_kindFor_64 (fun r_8 M_7 => ?_)
    refine j_istore (i := 6) (Lq := [(0, .ref (gA g 0)), (1, .int v1), (2, .int v2), (3, .int v3), (4, .int v4), (5, .int v5), (6, .int r_8)]) X dX3_kindFor_67 (by decide) rfl ?_
    refine j_iload (i := 6) X dX3_kindFor_69 rfl ?_
    refine j_iload (i := 4) X dX3_kindFor_71 rfl ?_
    refine j_icmp_le (tgt := 83) X dX3_kindFor_73 (by decide) ?_ ?_
    · refine j_iincB (i := 5) (y := v5 + 1) (Lf := fun v5_9 => [(0, .ref (gA g 0)), (1, .int v1), (2, .int v2), (3, .int v3), (4, .int v4), (5, .int v5_9), (6, .int r_8)]) X dX3_kindFor_83 rfl rfl (by decide) (fun _ => rfl) (fun v5_9 => ?_)
      refine j_goto (tgt := 35) X dX3_kindFor_86 (by decide) ?_
      refine j_pick [0, 1, 2, 3, 4, 5] (Lq := [(0, .ref (gA g 0)), (1, .int v1), (2, .int v2), (3, .int v3), (4, .int v4), (5, .int v5_9)]) rfl ?_
      exact hc35 (v3, v4, v5_9, M_7)
    · refine j_iload (i := 6) X dX3_kindFor_76 rfl ?_
      refine j_istore (i := 4) (Lq := [(0, .ref (gA g 0)), (1, .int v1), (2, .int v2), (3, .int v3), (4, .int r_8), (5, .int v5), (6, .int r_8)]) X dX3_kindFor_78 (by decide) rfl ?_
      refine j_iload (i := 5) X dX3_kindFor_80 rfl ?_
      refine j_istore_n (i := 3) (Lq := [(0, .ref (gA g 0)), (1, .int v1), (2, .int v2), (3, .int v5), (4, .int r_8), (5, .int v5), (6, .int r_8)]) X dX3_kindFor_82 rfl (by decide) rfl ?_
      refine j_iincB (i := 5) (y := v5 + 1) (Lf := fun v5_10 => [(0, .ref (gA g 0)), (1, .int v1), (2, .int v2), (3, .int v5), (4, .int r_8), (5, .int v5_10), (6, .int r_8)]) X dX3_kindFor_83 rfl rfl (by decide) (fun _ => rfl) (fun v5_10 => ?_)
      refine j_goto (tgt := 35) X dX3_kindFor_86 (by decide) ?_
      refine j_pick [0, 1, 2, 3, 4, 5] (Lq := [(0, .ref (gA g 0)), (1, .int v1), (2, .int v2), (3, .int v5), (4, .int r_8), (5, .int v5_10)]) rfl ?_
      exact hc35 (v5, r_8, v5_10, M_7)
def pi_X3_kindFor_21 (v1 : Int32) (v2 : Int32) (M : Mem) : Option (Int32 × Mem) := bd (mi_X3_finding 0 M) fun r_12 M_11 => some (r_12, M_11)
set_option maxRecDepth 100000 in
set_option maxHeartbeats 4000000 in
theorem pj_X3_kindFor_21 {p : Program} {l : Launch} {e : Env} {R : Room} {s : State} {m : MethodId} {args : Array Value} {below : List Frame} {meth : Method} {c : Code} {g : Gh} (X : Cx p l e R s m args below meth c g cX3_kindFor 7 (0, 0) RX3 5) (hr : meth.sig.returnType = (some (.int))) (v1 : Int32) (v2 : Int32) (M : Mem) : J p l e R s m args below meth c g 7 (0, 0) (QfI below args s g) (pi_X3_kindFor_21 v1 v2 M) M 21 [(0, .ref (gA g 0)), (1, .int v1), (2, .int v2)] [] := by
  unfold pi_X3_kindFor_21
  refine j_aload_n (i := 0) X dX3_kindFor_21 rfl rfl ?_
  refine j_iconst (v := 0) X dX3_kindFor_22 rfl ?_
  refine k_cVI (As := [.int 0]) (rest := []) (by decide) (cf_hd _) rfl X (ct_X3_finding l g 0 M) wl_X3_44 rfl rfl (by decide) (Nat.le_of_ble_eq_true rfl) dX3_kindFor_23 (fun r_12 M_11 => ?_)
  exact j_iret X hr dX3_kindFor_26
def pi_X3_kindFor_e (v1 : Int32) (v2 : Int32) (M : Mem) : Option (Int32 × Mem) := bd (mi_X2_lacks 1 v1 M) fun r_2 M_1 => if r_2 = 0 then (bd (mi_X3_isOutside v2 0 60 M_1) fun r_4 M_3 => if r_4 = 0 then (lp (fun rc35 x => pi_X3_kindFor_35 v1 v2 rc35 x.1 x.2.1 x.2.2.1 x.2.2.2) FU (0, (-1), 0, M_3)) else (pi_X3_kindFor_21 v1 v2 M_3)) else (pi_X3_kindFor_21 v1 v2 M_1)
set_option maxRecDepth 100000 in
set_option maxHeartbeats 4000000 in
theorem pj_X3_kindFor_e {p : Program} {l : Launch} {e : Env} {R : Room} {s : State} {m : MethodId} {args : Array Value} {below : List Frame} {meth : Method} {c : Code} {g : Gh} (X : Cx p l e R s m args below meth c g cX3_kindFor 7 (0, 0) RX3 5) (hr : meth.sig.returnType = (some (.int))) (v1 : Int32) (v2 : Int32) (M : Mem) : J p l e R s m args below meth c g 7 (0, 0) (QfI below args s g) (pi_X3_kindFor_e v1 v2 M) M 0 [(0, .ref (gA g 0)), (1, .int v1), (2, .int v2)] [] := by
  unfold pi_X3_kindFor_e
  refine j_aload_n (i := 0) X dX3_kindFor_0 rfl rfl ?_
  refine j_get_hd 0 X (by decide) wq_172 rfl dX3_kindFor_1 ?_
  refine j_iload_n (i := 1) X dX3_kindFor_4 rfl rfl ?_
  refine k_cVI (As := [.int v1]) (rest := []) sh_1.lt (cf_sh sh_1 _) rfl X (ct_X2_lacks l g 1 v1 sh_1 M) wl_X3_64 rfl rfl (by decide) (Nat.le_of_ble_eq_true rfl) dX3_kindFor_5 (fun r_2 M_1 => ?_)
  refine j_if_ne (tgt := 21) X dX3_kindFor_8 (by decide) ?_ ?_
  · refine j_iload_n (i := 2) X dX3_kindFor_11 rfl rfl ?_
    refine j_iconst (v := 0) X dX3_kindFor_12 rfl ?_
    refine j_bipush (v := 60) X dX3_kindFor_13 rfl ?_
    refine k_cSI (As := [.int v2, .int 0, .int 60]) (rest := []) X (ct_X3_isOutside l g v2 0 60 M_1) wl_X3_40 rfl rfl (by decide) (Nat.le_of_ble_eq_true rfl) dX3_kindFor_15 (fun r_4 M_3 => ?_)
    refine j_if_eq (tgt := 27) X dX3_kindFor_18 (by decide) ?_ ?_
    · refine j_iconst (v := 0) X dX3_kindFor_27 rfl ?_
      refine j_istore_n (i := 3) (Lq := [(0, .ref (gA g 0)), (1, .int v1), (2, .int v2), (3, .int 0)]) X dX3_kindFor_28 rfl (by decide) rfl ?_
      refine j_iconst (v := (-1)) X dX3_kindFor_29 rfl ?_
      refine j_istore (i := 4) (Lq := [(0, .ref (gA g 0)), (1, .int v1), (2, .int v2), (3, .int 0), (4, .int (-1))]) X dX3_kindFor_30 (by decide) rfl ?_
      refine j_iconst (v := 0) X dX3_kindFor_32 rfl ?_
      refine j_istore (i := 5) (Lq := [(0, .ref (gA g 0)), (1, .int v1), (2, .int v2), (3, .int 0), (4, .int (-1)), (5, .int 0)]) X dX3_kindFor_33 (by decide) rfl ?_
      exact j_lp (Lf := fun x => [(0, .ref (gA g 0)), (1, .int v1), (2, .int v2), (3, .int x.1), (4, .int x.2.1), (5, .int x.2.2.1)]) (Mf := fun x => x.2.2.2) (fun rc35 hc35 x => pj_X3_kindFor_35 X hr v1 v2 rc35 hc35 x.1 x.2.1 x.2.2.1 x.2.2.2) FU (0, (-1), 0, M_3)
    · exact pj_X3_kindFor_21 X hr v1 v2 M_3
  · exact pj_X3_kindFor_21 X hr v1 v2 M_1
def mi_X3_kindFor (v1 : Int32) (v2 : Int32) (M : Mem) : Option (Int32 × Mem) := pi_X3_kindFor_e v1 v2 M
theorem ct_X3_kindFor (l : Launch) (g : Gh) (v1 : Int32) (v2 : Int32) (M : Mem) : CtI l g yX3_kindFor cX3_kindFor 7 (some (.int)) 5 [.ref (gA g 0), .int v1, .int v2] M (mi_X3_kindFor v1 v2 M) := ctI_of (own := RX3) (L := [(0, .ref (gA g 0)), (1, .int v1), (2, .int v2)]) (by decide +kernel) rfl (Nat.le_of_ble_eq_true rfl) rfl (fun p e s m args below meth c X hr => pj_X3_kindFor_e X hr v1 v2  M)

def pi_X3_rainFor_40 (v1 : Int32) (v2 : Int32) (v3 : Int32) (rc40 : Int32 × Mem → Option (Int32 × Mem)) (v4 : Int32) (M : Mem) : Option (Int32 × Mem) := if 9 < v4 then (bd (mi_X3_finding 3 M) fun r_8 M_7 => some (r_8, M_7)) else (bv (mi_X2_become 13 1 M) fun M_9 => bM (up M_9 13 0 v4) fun M_10 => bv (mi_X2_passAges 13 v3 M_10) fun M_11 => bd (mi_X2_trait 13 v1 4 M_11) fun r_13 M_12 => if v2 < r_13 then (bI (v4 + 1) fun v4_14 => rc40 (v4_14, M_12)) else (some (v4, M_12)))
set_option maxRecDepth 100000 in
set_option maxHeartbeats 4000000 in
theorem pj_X3_rainFor_40 {p : Program} {l : Launch} {e : Env} {R : Room} {s : State} {m : MethodId} {args : Array Value} {below : List Frame} {meth : Method} {c : Code} {g : Gh} (X : Cx p l e R s m args below meth c g cX3_rainFor 5 (0, 0) RX3 5) (hr : meth.sig.returnType = (some (.int))) (v1 : Int32) (v2 : Int32) (v3 : Int32) (rc40 : Int32 × Mem → Option (Int32 × Mem)) (hc40 : ∀ x, J p l e R s m args below meth c g 5 (0, 0) (QfI below args s g) (rc40 x) x.2 40 [(0, .ref (gA g 0)), (1, .int v1), (2, .int v2), (3, .int v3), (4, .int x.1)] []) (v4 : Int32) (M : Mem) : J p l e R s m args below meth c g 5 (0, 0) (QfI below args s g) (pi_X3_rainFor_40 v1 v2 v3 rc40 v4 M) M 40 [(0, .ref (gA g 0)), (1, .int v1), (2, .int v2), (3, .int v3), (4, .int v4)] [] := by
  unfold pi_X3_rainFor_40
  refine j_iload (i := 4) X dX3_rainFor_40 rfl ?_
  refine j_bipush (v := 9) X dX3_rainFor_42 rfl ?_
  refine j_icmp_gt (tgt := 97) X dX3_rainFor_44 (by decide) ?_ ?_
  · refine j_aload_n (i := 0) X dX3_rainFor_97 rfl rfl ?_
    refine j_iconst (v := 3) X dX3_rainFor_98 rfl ?_
    refine k_cVI (As := [.int 3]) (rest := []) (by decide) (cf_hd _) rfl X (ct_X3_finding l g 3 M) wl_X3_44 rfl rfl (by decide) (Nat.le_of_ble_eq_true rfl) dX3_rainFor_99 (fun r_8 M_7 => ?_)
    exact j_iret X hr dX3_rainFor_102
  · refine j_aload_n (i := 0) X dX3_rainFor_47 rfl rfl ?_
    refine j_get_hd 1 X (by decide) wq_240 rfl dX3_rainFor_48 ?_
    refine j_aload_n (i := 0) X dX3_rainFor_51 rfl rfl ?_
    refine j_get_hd 0 X (by decide) wq_172 rfl dX3_rainFor_52 ?_
    refine k_cVV (As := [.ref (gA g 1)]) (rest := []) sh_13.lt (cf_sh sh_13 _) rfl X (ct_X2_become l g 13 1 sh_13 sh_1 M) wl_X3_133 rfl rfl (by decide) (Nat.le_of_ble_eq_true rfl) dX3_rainFor_55 (fun M_9 => ?_)
    refine j_aload_n (i := 0) X dX3_rainFor_58 rfl rfl ?_
    refine j_get_hd 1 X (by decide) wq_240 rfl dX3_rainFor_59 ?_
    refine j_iload (i := 4) X dX3_rainFor_62 rfl ?_
    refine j_putN_sh (ty := .int) sh_13 0 X (by decide) (by decide +kernel) (fun _ => rfl) rfl (by decide +kernel) rfl rfl dX3_rainFor_64 ?_
    refine j_bM (fun M_10 => ?_)
    refine j_aload_n (i := 0) X dX3_rainFor_67 rfl rfl ?_
    refine j_get_hd 1 X (by decide) wq_240 rfl dX3_rainFor_68 ?_
    refine j_iload_n (i := 3) X dX3_rainFor_71 rfl rfl ?_
    refine k_cVV (As := [.int v3]) (rest := []) sh_13.lt (cf_sh sh_13 _) rfl X (ct_X2_passAges l g 13 v3 sh_13 M_10) wl_X3_105 rfl rfl (by decide) (Nat.le_of_ble_eq_true rfl) dX3_rainFor_72 (fun M_11 => ?_)
    refine j_aload_n (i := 0) X dX3_rainFor_75 rfl rfl ?_
    refine j_get_hd 1 X (by decide) wq_240 rfl dX3_rainFor_76 ?_
    refine j_iload_n (i := 1) X dX3_rainFor_79 rfl rfl ?_
    refine j_iconst (v := 4) X dX3_rainFor_80 rfl ?_
    refine k_cVI (As := [.int v1, .int 4]) (rest := []) sh_13.lt (cf_sh sh_13 _) rfl X (ct_X2_trait l g 13 v1 4 sh_13 M_11) wl_X3_79 rfl rfl (by decide) (Nat.le_of_ble_eq_true rfl) dX3_rainFor_81 (fun r_13 M_12 => ?_)
    refine j_iload_n (i := 2) X dX3_rainFor_84 rfl rfl ?_
    refine j_icmp_gt (tgt := 91) X dX3_rainFor_85 (by decide) ?_ ?_
    · refine j_iincB (i := 4) (y := v4 + 1) (Lf := fun v4_14 => [(0, .ref (gA g 0)), (1, .int v1), (2, .int v2), (3, .int v3), (4, .int v4_14)]) X dX3_rainFor_91 rfl rfl (by decide) (fun _ => rfl) (fun v4_14 => ?_)
      refine j_goto (tgt := 40) X dX3_rainFor_94 (by decide) ?_
      exact hc40 (v4_14, M_12)
    · refine j_iload (i := 4) X dX3_rainFor_88 rfl ?_
      exact j_iret X hr dX3_rainFor_90
def pi_X3_rainFor_31 (v1 : Int32) (v2 : Int32) (v3 : Int32) (M : Mem) : Option (Int32 × Mem) := bd (mi_X3_finding 0 M) fun r_16 M_15 => some (r_16, M_15)
set_option maxRecDepth 100000 in
set_option maxHeartbeats 4000000 in
theorem pj_X3_rainFor_31 {p : Program} {l : Launch} {e : Env} {R : Room} {s : State} {m : MethodId} {args : Array Value} {below : List Frame} {meth : Method} {c : Code} {g : Gh} (X : Cx p l e R s m args below meth c g cX3_rainFor 5 (0, 0) RX3 5) (hr : meth.sig.returnType = (some (.int))) (v1 : Int32) (v2 : Int32) (v3 : Int32) (M : Mem) : J p l e R s m args below meth c g 5 (0, 0) (QfI below args s g) (pi_X3_rainFor_31 v1 v2 v3 M) M 31 [(0, .ref (gA g 0)), (1, .int v1), (2, .int v2), (3, .int v3)] [] := by
  unfold pi_X3_rainFor_31
  refine j_aload_n (i := 0) X dX3_rainFor_31 rfl rfl ?_
  refine j_iconst (v := 0) X dX3_rainFor_32 rfl ?_
  refine k_cVI (As := [.int 0]) (rest := []) (by decide) (cf_hd _) rfl X (ct_X3_finding l g 0 M) wl_X3_44 rfl rfl (by decide) (Nat.le_of_ble_eq_true rfl) dX3_rainFor_33 (fun r_16 M_15 => ?_)
  exact j_iret X hr dX3_rainFor_36
def pi_X3_rainFor_e (v1 : Int32) (v2 : Int32) (v3 : Int32) (M : Mem) : Option (Int32 × Mem) := bd (mi_X2_lacks 1 v1 M) fun r_2 M_1 => if r_2 = 0 then (bd (mi_X3_isOutside v2 0 99 M_1) fun r_4 M_3 => if r_4 = 0 then (bd (mi_X3_isOutside v3 0 60 M_3) fun r_6 M_5 => if r_6 = 0 then (lp (fun rc40 x => pi_X3_rainFor_40 v1 v2 v3 rc40 x.1 x.2) FU (0, M_5)) else (pi_X3_rainFor_31 v1 v2 v3 M_5)) else (pi_X3_rainFor_31 v1 v2 v3 M_3)) else (pi_X3_rainFor_31 v1 v2 v3 M_1)
set_option maxRecDepth 100000 in
set_option maxHeartbeats 4000000 in
theorem pj_X3_rainFor_e {p : Program} {l : Launch} {e : Env} {R : Room} {s : State} {m : MethodId} {args : Array Value} {below : List Frame} {meth : Method} {c : Code} {g : Gh} (X : Cx p l e R s m args below meth c g cX3_rainFor 5 (0, 0) RX3 5) (hr : meth.sig.returnType = (some (.int))) (v1 : Int32) (v2 : Int32) (v3 : Int32) (M : Mem) : J p l e R s m args below meth c g 5 (0, 0) (QfI below args s g) (pi_X3_rainFor_e v1 v2 v3 M) M 0 [(0, .ref (gA g 0)), (1, .int v1), (2, .int v2), (3, .int v3)] [] := by
  unfold pi_X3_rainFor_e
  refine j_aload_n (i := 0) X dX3_rainFor_0 rfl rfl ?_
  refine j_get_hd 0 X (by decide) wq_172 rfl dX3_rainFor_1 ?_
  refine j_iload_n (i := 1) X dX3_rainFor_4 rfl rfl ?_
  refine k_cVI (As := [.int v1]) (rest := []) sh_1.lt (cf_sh sh_1 _) rfl X (ct_X2_lacks l g 1 v1 sh_1 M) wl_X3_64 rfl rfl (by decide) (Nat.le_of_ble_eq_true rfl) dX3_rainFor_5 (fun r_2 M_1 => ?_)
  refine j_if_ne (tgt := 31) X dX3_rainFor_8 (by decide) ?_ ?_
  · refine j_iload_n (i := 2) X dX3_rainFor_11 rfl rfl ?_
    refine j_iconst (v := 0) X dX3_rainFor_12 rfl ?_
    refine j_bipush (v := 99) X dX3_rainFor_13 rfl ?_
    refine k_cSI (As := [.int v2, .int 0, .int 99]) (rest := []) X (ct_X3_isOutside l g v2 0 99 M_1) wl_X3_40 rfl rfl (by decide) (Nat.le_of_ble_eq_true rfl) dX3_rainFor_15 (fun r_4 M_3 => ?_)
    refine j_if_ne (tgt := 31) X dX3_rainFor_18 (by decide) ?_ ?_
    · refine j_iload_n (i := 3) X dX3_rainFor_21 rfl rfl ?_
      refine j_iconst (v := 0) X dX3_rainFor_22 rfl ?_
      refine j_bipush (v := 60) X dX3_rainFor_23 rfl ?_
      refine k_cSI (As := [.int v3, .int 0, .int 60]) (rest := []) X (ct_X3_isOutside l g v3 0 60 M_3) wl_X3_40 rfl rfl (by decide) (Nat.le_of_ble_eq_true rfl) dX3_rainFor_25 (fun r_6 M_5 => ?_)
      refine j_if_eq (tgt := 37) X dX3_rainFor_28 (by decide) ?_ ?_
      · refine j_iconst (v := 0) X dX3_rainFor_37 rfl ?_
        refine j_istore (i := 4) (Lq := [(0, .ref (gA g 0)), (1, .int v1), (2, .int v2), (3, .int v3), (4, .int 0)]) X dX3_rainFor_38 (by decide) rfl ?_
        exact j_lp (Lf := fun x => [(0, .ref (gA g 0)), (1, .int v1), (2, .int v2), (3, .int v3), (4, .int x.1)]) (Mf := fun x => x.2) (fun rc40 hc40 x => pj_X3_rainFor_40 X hr v1 v2 v3 rc40 hc40 x.1 x.2) FU (0, M_5)
      · exact pj_X3_rainFor_31 X hr v1 v2 v3 M_5
    · exact pj_X3_rainFor_31 X hr v1 v2 v3 M_3
  · exact pj_X3_rainFor_31 X hr v1 v2 v3 M_1
def mi_X3_rainFor (v1 : Int32) (v2 : Int32) (v3 : Int32) (M : Mem) : Option (Int32 × Mem) := pi_X3_rainFor_e v1 v2 v3 M
theorem ct_X3_rainFor (l : Launch) (g : Gh) (v1 : Int32) (v2 : Int32) (v3 : Int32) (M : Mem) : CtI l g yX3_rainFor cX3_rainFor 5 (some (.int)) 5 [.ref (gA g 0), .int v1, .int v2, .int v3] M (mi_X3_rainFor v1 v2 v3 M) := ctI_of (own := RX3) (L := [(0, .ref (gA g 0)), (1, .int v1), (2, .int v2), (3, .int v3)]) (by decide +kernel) rfl (Nat.le_of_ble_eq_true rfl) rfl (fun p e s m args below meth c X hr => pj_X3_rainFor_e X hr v1 v2 v3  M)

def pi_X3_road_102 (v1 : Int32) (v2 : Int32) (v3 : Int32) (v4 : Int32) (v5 : Int32) (v6 : Int32) (v7 : Int32) (M : Mem) : Option (Int32 × Mem) := if v6 = 0 then (if v7 = 0 then (bd (mi_X3_finding 3 M) fun r_16 M_15 => some (r_16, M_15)) else (some (v5, M))) else (some (v4, M))
set_option maxRecDepth 100000 in
set_option maxHeartbeats 4000000 in
theorem pj_X3_road_102 {p : Program} {l : Launch} {e : Env} {R : Room} {s : State} {m : MethodId} {args : Array Value} {below : List Frame} {meth : Method} {c : Code} {g : Gh} (X : Cx p l e R s m args below meth c g cX3_road 8 (0, 0) RX3 3) (hr : meth.sig.returnType = (some (.int))) (v1 : Int32) (v2 : Int32) (v3 : Int32) (v4 : Int32) (v5 : Int32) (v6 : Int32) (v7 : Int32) (M : Mem) : J p l e R s m args below meth c g 8 (0, 0) (QfI below args s g) (pi_X3_road_102 v1 v2 v3 v4 v5 v6 v7 M) M 102 [(0, .ref (gA g 0)), (1, .int v1), (2, .int v2), (3, .int v3), (4, .int v4), (5, .int v5), (6, .int v6), (7, .int v7)] [] := by
  unfold pi_X3_road_102
  refine j_iload (i := 6) X dX3_road_102 rfl ?_
  refine j_if_eq (tgt := 110) X dX3_road_104 (by decide) ?_ ?_
  · refine j_iload (i := 7) X dX3_road_110 rfl ?_
    refine j_if_eq (tgt := 120) X dX3_road_112 (by decide) ?_ ?_
    · refine j_aload_n (i := 0) X dX3_road_120 rfl rfl ?_
      refine j_iconst (v := 3) X dX3_road_121 rfl ?_
      refine k_cVI (As := [.int 3]) (rest := []) (by decide) (cf_hd _) rfl X (ct_X3_finding l g 3 M) wl_X3_44 rfl rfl (by decide) (Nat.le_of_ble_eq_true rfl) dX3_road_122 (fun r_16 M_15 => ?_)
      exact j_iret X hr dX3_road_125
    · refine j_iload (i := 5) X dX3_road_115 rfl ?_
      refine j_goto (tgt := 125) X dX3_road_117 (by decide) ?_
      exact j_iret X hr dX3_road_125
  · refine j_iload (i := 4) X dX3_road_107 rfl ?_
    exact j_iret X hr dX3_road_109
def pi_X3_road_82 (v1 : Int32) (v2 : Int32) (v3 : Int32) (v4 : Int32) (v5 : Int32) (v6 : Int32) (t0 : Int32) (M : Mem) : Option (Int32 × Mem) := if v6 = 0 then (pi_X3_road_102 v1 v2 v3 v4 v5 v6 t0 M) else (if t0 = 0 then (pi_X3_road_102 v1 v2 v3 v4 v5 v6 t0 M) else (some (if v5 < v4 then v5 else v4, M)))
set_option maxRecDepth 100000 in
set_option maxHeartbeats 4000000 in
theorem pj_X3_road_82 {p : Program} {l : Launch} {e : Env} {R : Room} {s : State} {m : MethodId} {args : Array Value} {below : List Frame} {meth : Method} {c : Code} {g : Gh} (X : Cx p l e R s m args below meth c g cX3_road 8 (0, 0) RX3 3) (hr : meth.sig.returnType = (some (.int))) (v1 : Int32) (v2 : Int32) (v3 : Int32) (v4 : Int32) (v5 : Int32) (v6 : Int32) (t0 : Int32) (M : Mem) : J p l e R s m args below meth c g 8 (0, 0) (QfI below args s g) (pi_X3_road_82 v1 v2 v3 v4 v5 v6 t0 M) M 82 [(0, .ref (gA g 0)), (1, .int v1), (2, .int v2), (3, .int v3), (4, .int v4), (5, .int v5), (6, .int v6)] [.int t0] := by
  unfold pi_X3_road_82
  refine j_istore (i := 7) (Lq := [(0, .ref (gA g 0)), (1, .int v1), (2, .int v2), (3, .int v3), (4, .int v4), (5, .int v5), (6, .int v6), (7, .int t0)]) X dX3_road_82 (by decide) rfl ?_
  refine j_iload (i := 6) X dX3_road_84 rfl ?_
  refine j_if_eq (tgt := 102) X dX3_road_86 (by decide) ?_ ?_
  · exact pj_X3_road_102 X hr v1 v2 v3 v4 v5 v6 t0 M
  · refine j_iload (i := 7) X dX3_road_89 rfl ?_
    refine j_if_eq (tgt := 102) X dX3_road_91 (by decide) ?_ ?_
    · exact pj_X3_road_102 X hr v1 v2 v3 v4 v5 v6 t0 M
    · refine j_iload (i := 4) X dX3_road_94 rfl ?_
      refine j_iload (i := 5) X dX3_road_96 rfl ?_
      refine j_mmin X wm_X3_170 wm_min2 wm_ini wm_min4 (by decide) (Nat.le_of_ble_eq_true rfl) dX3_road_98 ?_
      exact j_iret X hr dX3_road_101
def pi_X3_road_62 (v1 : Int32) (v2 : Int32) (v3 : Int32) (v4 : Int32) (v5 : Int32) (t0 : Int32) (M : Mem) : Option (Int32 × Mem) := bd (mi_X2_climbOn 1 v2 v1 M) fun r_14 M_13 => if v3 < r_14 then (pi_X3_road_82 v1 v2 v3 v4 v5 t0 0 M_13) else (pi_X3_road_82 v1 v2 v3 v4 v5 t0 1 M_13)
set_option maxRecDepth 100000 in
set_option maxHeartbeats 4000000 in
theorem pj_X3_road_62 {p : Program} {l : Launch} {e : Env} {R : Room} {s : State} {m : MethodId} {args : Array Value} {below : List Frame} {meth : Method} {c : Code} {g : Gh} (X : Cx p l e R s m args below meth c g cX3_road 8 (0, 0) RX3 3) (hr : meth.sig.returnType = (some (.int))) (v1 : Int32) (v2 : Int32) (v3 : Int32) (v4 : Int32) (v5 : Int32) (t0 : Int32) (M : Mem) : J p l e R s m args below meth c g 8 (0, 0) (QfI below args s g) (pi_X3_road_62 v1 v2 v3 v4 v5 t0 M) M 62 [(0, .ref (gA g 0)), (1, .int v1), (2, .int v2), (3, .int v3), (4, .int v4), (5, .int v5)] [.int t0] := by
  unfold pi_X3_road_62
  refine j_istore (i := 6) (Lq := [(0, .ref (gA g 0)), (1, .int v1), (2, .int v2), (3, .int v3), (4, .int v4), (5, .int v5), (6, .int t0)]) X dX3_road_62 (by decide) rfl ?_
  refine j_aload_n (i := 0) X dX3_road_64 rfl rfl ?_
  refine j_get_hd 0 X (by decide) wq_172 rfl dX3_road_65 ?_
  refine j_iload_n (i := 2) X dX3_road_68 rfl rfl ?_
  refine j_iload_n (i := 1) X dX3_road_69 rfl rfl ?_
  refine k_cVI (As := [.int v2, .int v1]) (rest := []) sh_1.lt (cf_sh sh_1 _) rfl X (ct_X2_climbOn l g 1 v2 v1 sh_1 M) wl_X3_167 rfl rfl (by decide) (Nat.le_of_ble_eq_true rfl) dX3_road_70 (fun r_14 M_13 => ?_)
  refine j_iload_n (i := 3) X dX3_road_73 rfl rfl ?_
  refine j_icmp_gt (tgt := 81) X dX3_road_74 (by decide) ?_ ?_
  · refine j_iconst (v := 0) X dX3_road_81 rfl ?_
    exact pj_X3_road_82 X hr v1 v2 v3 v4 v5 t0 0 M_13
  · refine j_iconst (v := 1) X dX3_road_77 rfl ?_
    refine j_goto (tgt := 82) X dX3_road_78 (by decide) ?_
    exact pj_X3_road_82 X hr v1 v2 v3 v4 v5 t0 1 M_13
def pi_X3_road_24 (v1 : Int32) (v2 : Int32) (v3 : Int32) (M : Mem) : Option (Int32 × Mem) := bd (mi_X3_finding 0 M) fun r_18 M_17 => some (r_18, M_17)
set_option maxRecDepth 100000 in
set_option maxHeartbeats 4000000 in
theorem pj_X3_road_24 {p : Program} {l : Launch} {e : Env} {R : Room} {s : State} {m : MethodId} {args : Array Value} {below : List Frame} {meth : Method} {c : Code} {g : Gh} (X : Cx p l e R s m args below meth c g cX3_road 8 (0, 0) RX3 3) (hr : meth.sig.returnType = (some (.int))) (v1 : Int32) (v2 : Int32) (v3 : Int32) (M : Mem) : J p l e R s m args below meth c g 8 (0, 0) (QfI below args s g) (pi_X3_road_24 v1 v2 v3 M) M 24 [(0, .ref (gA g 0)), (1, .int v1), (2, .int v2), (3, .int v3)] [] := by
  unfold pi_X3_road_24
  refine j_aload_n (i := 0) X dX3_road_24 rfl rfl ?_
  refine j_iconst (v := 0) X dX3_road_25 rfl ?_
  refine k_cVI (As := [.int 0]) (rest := []) (by decide) (cf_hd _) rfl X (ct_X3_finding l g 0 M) wl_X3_44 rfl rfl (by decide) (Nat.le_of_ble_eq_true rfl) dX3_road_26 (fun r_18 M_17 => ?_)
  exact j_iret X hr dX3_road_29
def pi_X3_road_e (v1 : Int32) (v2 : Int32) (v3 : Int32) (M : Mem) : Option (Int32 × Mem) := bd (mi_X3_isNoValley v1 M) fun r_2 M_1 => if r_2 = 0 then (bd (mi_X3_isNoValley v2 M_1) fun r_4 M_3 => if r_4 = 0 then (bd (mi_X3_isOutside v3 0 99 M_3) fun r_6 M_5 => if r_6 = 0 then (bd (mi_X3_waysOn v1 v2 M_5) fun r_8 M_7 => bd (mi_X3_waysOn v2 v1 M_7) fun r_10 M_9 => bd (mi_X2_climbOn 1 v1 v2 M_9) fun r_12 M_11 => if v3 < r_12 then (pi_X3_road_62 v1 v2 v3 r_8 r_10 0 M_11) else (pi_X3_road_62 v1 v2 v3 r_8 r_10 1 M_11)) else (pi_X3_road_24 v1 v2 v3 M_5)) else (pi_X3_road_24 v1 v2 v3 M_3)) else (pi_X3_road_24 v1 v2 v3 M_1)
set_option maxRecDepth 100000 in
set_option maxHeartbeats 4000000 in
theorem pj_X3_road_e {p : Program} {l : Launch} {e : Env} {R : Room} {s : State} {m : MethodId} {args : Array Value} {below : List Frame} {meth : Method} {c : Code} {g : Gh} (X : Cx p l e R s m args below meth c g cX3_road 8 (0, 0) RX3 3) (hr : meth.sig.returnType = (some (.int))) (v1 : Int32) (v2 : Int32) (v3 : Int32) (M : Mem) : J p l e R s m args below meth c g 8 (0, 0) (QfI below args s g) (pi_X3_road_e v1 v2 v3 M) M 0 [(0, .ref (gA g 0)), (1, .int v1), (2, .int v2), (3, .int v3)] [] := by
  unfold pi_X3_road_e
  refine j_iload_n (i := 1) X dX3_road_0 rfl rfl ?_
  refine k_cSI (As := [.int v1]) (rest := []) X (ct_X3_isNoValley l g v1 M) wl_X3_52 rfl rfl (by decide) (Nat.le_of_ble_eq_true rfl) dX3_road_1 (fun r_2 M_1 => ?_)
  refine j_if_ne (tgt := 24) X dX3_road_4 (by decide) ?_ ?_
  · refine j_iload_n (i := 2) X dX3_road_7 rfl rfl ?_
    refine k_cSI (As := [.int v2]) (rest := []) X (ct_X3_isNoValley l g v2 M_1) wl_X3_52 rfl rfl (by decide) (Nat.le_of_ble_eq_true rfl) dX3_road_8 (fun r_4 M_3 => ?_)
    refine j_if_ne (tgt := 24) X dX3_road_11 (by decide) ?_ ?_
    · refine j_iload_n (i := 3) X dX3_road_14 rfl rfl ?_
      refine j_iconst (v := 0) X dX3_road_15 rfl ?_
      refine j_bipush (v := 99) X dX3_road_16 rfl ?_
      refine k_cSI (As := [.int v3, .int 0, .int 99]) (rest := []) X (ct_X3_isOutside l g v3 0 99 M_3) wl_X3_40 rfl rfl (by decide) (Nat.le_of_ble_eq_true rfl) dX3_road_18 (fun r_6 M_5 => ?_)
      refine j_if_eq (tgt := 30) X dX3_road_21 (by decide) ?_ ?_
      · refine j_iload_n (i := 1) X dX3_road_30 rfl rfl ?_
        refine j_iload_n (i := 2) X dX3_road_31 rfl rfl ?_
        refine k_cSI (As := [.int v1, .int v2]) (rest := []) X (ct_X3_waysOn l g v1 v2 M_5) wl_X3_164 rfl rfl (by decide) (Nat.le_of_ble_eq_true rfl) dX3_road_32 (fun r_8 M_7 => ?_)
        refine j_istore (i := 4) (Lq := [(0, .ref (gA g 0)), (1, .int v1), (2, .int v2), (3, .int v3), (4, .int r_8)]) X dX3_road_35 (by decide) rfl ?_
        refine j_iload_n (i := 2) X dX3_road_37 rfl rfl ?_
        refine j_iload_n (i := 1) X dX3_road_38 rfl rfl ?_
        refine k_cSI (As := [.int v2, .int v1]) (rest := []) X (ct_X3_waysOn l g v2 v1 M_7) wl_X3_164 rfl rfl (by decide) (Nat.le_of_ble_eq_true rfl) dX3_road_39 (fun r_10 M_9 => ?_)
        refine j_istore (i := 5) (Lq := [(0, .ref (gA g 0)), (1, .int v1), (2, .int v2), (3, .int v3), (4, .int r_8), (5, .int r_10)]) X dX3_road_42 (by decide) rfl ?_
        refine j_aload_n (i := 0) X dX3_road_44 rfl rfl ?_
        refine j_get_hd 0 X (by decide) wq_172 rfl dX3_road_45 ?_
        refine j_iload_n (i := 1) X dX3_road_48 rfl rfl ?_
        refine j_iload_n (i := 2) X dX3_road_49 rfl rfl ?_
        refine k_cVI (As := [.int v1, .int v2]) (rest := []) sh_1.lt (cf_sh sh_1 _) rfl X (ct_X2_climbOn l g 1 v1 v2 sh_1 M_9) wl_X3_167 rfl rfl (by decide) (Nat.le_of_ble_eq_true rfl) dX3_road_50 (fun r_12 M_11 => ?_)
        refine j_iload_n (i := 3) X dX3_road_53 rfl rfl ?_
        refine j_icmp_gt (tgt := 61) X dX3_road_54 (by decide) ?_ ?_
        · refine j_iconst (v := 0) X dX3_road_61 rfl ?_
          exact pj_X3_road_62 X hr v1 v2 v3 r_8 r_10 0 M_11
        · refine j_iconst (v := 1) X dX3_road_57 rfl ?_
          refine j_goto (tgt := 62) X dX3_road_58 (by decide) ?_
          exact pj_X3_road_62 X hr v1 v2 v3 r_8 r_10 1 M_11
      · exact pj_X3_road_24 X hr v1 v2 v3 M_5
    · exact pj_X3_road_24 X hr v1 v2 v3 M_3
  · exact pj_X3_road_24 X hr v1 v2 v3 M_1
def mi_X3_road (v1 : Int32) (v2 : Int32) (v3 : Int32) (M : Mem) : Option (Int32 × Mem) := pi_X3_road_e v1 v2 v3 M
theorem ct_X3_road (l : Launch) (g : Gh) (v1 : Int32) (v2 : Int32) (v3 : Int32) (M : Mem) : CtI l g yX3_road cX3_road 8 (some (.int)) 3 [.ref (gA g 0), .int v1, .int v2, .int v3] M (mi_X3_road v1 v2 v3 M) := ctI_of (own := RX3) (L := [(0, .ref (gA g 0)), (1, .int v1), (2, .int v2), (3, .int v3)]) (by decide +kernel) rfl (Nat.le_of_ble_eq_true rfl) rfl (fun p e s m args below meth c X hr => pj_X3_road_e X hr v1 v2 v3  M)

def pi_X3_climb_14 (v1 : Int32) (v2 : Int32) (M : Mem) : Option (Int32 × Mem) := bd (mi_X3_finding 0 M) fun r_8 M_7 => some (r_8, M_7)
set_option maxRecDepth 100000 in
set_option maxHeartbeats 4000000 in
theorem pj_X3_climb_14 {p : Program} {l : Launch} {e : Env} {R : Room} {s : State} {m : MethodId} {args : Array Value} {below : List Frame} {meth : Method} {c : Code} {g : Gh} (X : Cx p l e R s m args below meth c g cX3_climb 3 (0, 0) RX3 4) (hr : meth.sig.returnType = (some (.int))) (v1 : Int32) (v2 : Int32) (M : Mem) : J p l e R s m args below meth c g 3 (0, 0) (QfI below args s g) (pi_X3_climb_14 v1 v2 M) M 14 [(0, .ref (gA g 0)), (1, .int v1), (2, .int v2)] [] := by
  unfold pi_X3_climb_14
  refine j_aload_n (i := 0) X dX3_climb_14 rfl rfl ?_
  refine j_iconst (v := 0) X dX3_climb_15 rfl ?_
  refine k_cVI (As := [.int 0]) (rest := []) (by decide) (cf_hd _) rfl X (ct_X3_finding l g 0 M) wl_X3_44 rfl rfl (by decide) (Nat.le_of_ble_eq_true rfl) dX3_climb_16 (fun r_8 M_7 => ?_)
  exact j_iret X hr dX3_climb_19
def pi_X3_climb_e (v1 : Int32) (v2 : Int32) (M : Mem) : Option (Int32 × Mem) := bd (mi_X3_isNoValley v1 M) fun r_2 M_1 => if r_2 = 0 then (bd (mi_X3_isNoValley v2 M_1) fun r_4 M_3 => if r_4 = 0 then (bd (mi_X2_leastClimb 1 v1 v2 M_3) fun r_6 M_5 => some (r_6, M_5)) else (pi_X3_climb_14 v1 v2 M_3)) else (pi_X3_climb_14 v1 v2 M_1)
set_option maxRecDepth 100000 in
set_option maxHeartbeats 4000000 in
theorem pj_X3_climb_e {p : Program} {l : Launch} {e : Env} {R : Room} {s : State} {m : MethodId} {args : Array Value} {below : List Frame} {meth : Method} {c : Code} {g : Gh} (X : Cx p l e R s m args below meth c g cX3_climb 3 (0, 0) RX3 4) (hr : meth.sig.returnType = (some (.int))) (v1 : Int32) (v2 : Int32) (M : Mem) : J p l e R s m args below meth c g 3 (0, 0) (QfI below args s g) (pi_X3_climb_e v1 v2 M) M 0 [(0, .ref (gA g 0)), (1, .int v1), (2, .int v2)] [] := by
  unfold pi_X3_climb_e
  refine j_iload_n (i := 1) X dX3_climb_0 rfl rfl ?_
  refine k_cSI (As := [.int v1]) (rest := []) X (ct_X3_isNoValley l g v1 M) wl_X3_52 rfl rfl (by decide) (Nat.le_of_ble_eq_true rfl) dX3_climb_1 (fun r_2 M_1 => ?_)
  refine j_if_ne (tgt := 14) X dX3_climb_4 (by decide) ?_ ?_
  · refine j_iload_n (i := 2) X dX3_climb_7 rfl rfl ?_
    refine k_cSI (As := [.int v2]) (rest := []) X (ct_X3_isNoValley l g v2 M_1) wl_X3_52 rfl rfl (by decide) (Nat.le_of_ble_eq_true rfl) dX3_climb_8 (fun r_4 M_3 => ?_)
    refine j_if_eq (tgt := 20) X dX3_climb_11 (by decide) ?_ ?_
    · refine j_aload_n (i := 0) X dX3_climb_20 rfl rfl ?_
      refine j_get_hd 0 X (by decide) wq_172 rfl dX3_climb_21 ?_
      refine j_iload_n (i := 1) X dX3_climb_24 rfl rfl ?_
      refine j_iload_n (i := 2) X dX3_climb_25 rfl rfl ?_
      refine k_cVI (As := [.int v1, .int v2]) (rest := []) sh_1.lt (cf_sh sh_1 _) rfl X (ct_X2_leastClimb l g 1 v1 v2 sh_1 M_3) wl_X3_175 rfl rfl (by decide) (Nat.le_of_ble_eq_true rfl) dX3_climb_26 (fun r_6 M_5 => ?_)
      exact j_iret X hr dX3_climb_29
    · exact pj_X3_climb_14 X hr v1 v2 M_3
  · exact pj_X3_climb_14 X hr v1 v2 M_1
def mi_X3_climb (v1 : Int32) (v2 : Int32) (M : Mem) : Option (Int32 × Mem) := pi_X3_climb_e v1 v2 M
theorem ct_X3_climb (l : Launch) (g : Gh) (v1 : Int32) (v2 : Int32) (M : Mem) : CtI l g yX3_climb cX3_climb 3 (some (.int)) 4 [.ref (gA g 0), .int v1, .int v2] M (mi_X3_climb v1 v2 M) := ctI_of (own := RX3) (L := [(0, .ref (gA g 0)), (1, .int v1), (2, .int v2)]) (by decide +kernel) rfl (Nat.le_of_ble_eq_true rfl) rfl (fun p e s m args below meth c X hr => pj_X3_climb_e X hr v1 v2  M)

def pi_X3_agesOpen_40 (v1 : Int32) (v2 : Int32) (v3 : Int32) (v4 : Int32) (v5 : Int32) (v6 : Int32) (rc17 : Int32 × Int32 × Mem → Option (Int32 × Mem)) (M : Mem) : Option (Int32 × Mem) := bv (mi_X2_passAge 13 M) fun M_4 => bI (v6 + 1) fun v6_5 => rc17 (v5, v6_5, M_4)
set_option maxRecDepth 100000 in
set_option maxHeartbeats 4000000 in
theorem pj_X3_agesOpen_40 {p : Program} {l : Launch} {e : Env} {R : Room} {s : State} {m : MethodId} {args : Array Value} {below : List Frame} {meth : Method} {c : Code} {g : Gh} (X : Cx p l e R s m args below meth c g cX3_agesOpen 7 (0, 0) RX3 4) (hr : meth.sig.returnType = (some (.int))) (v1 : Int32) (v2 : Int32) (v3 : Int32) (v4 : Int32) (v5 : Int32) (v6 : Int32) (rc17 : Int32 × Int32 × Mem → Option (Int32 × Mem)) (hc17 : ∀ x, J p l e R s m args below meth c g 7 (0, 0) (QfI below args s g) (rc17 x) x.2.2 17 [(0, .ref (gA g 0)), (1, .int v1), (2, .int v2), (3, .int v3), (4, .int v4), (5, .int x.1), (6, .int x.2.1)] []) (M : Mem) : J p l e R s m args below meth c g 7 (0, 0) (QfI below args s g) (pi_X3_agesOpen_40 v1 v2 v3 v4 v5 v6 rc17 M) M 40 [(0, .ref (gA g 0)), (1, .int v1), (2, .int v2), (3, .int v3), (4, .int v4), (5, .int v5), (6, .int v6)] [] := by
  unfold pi_X3_agesOpen_40
  refine j_aload_n (i := 0) X dX3_agesOpen_40 rfl rfl ?_
  refine j_get_hd 1 X (by decide) wq_240 rfl dX3_agesOpen_41 ?_
  refine k_cVV (As := []) (rest := []) sh_13.lt (cf_sh sh_13 _) rfl X (ct_X2_passAge l g 13 sh_13 M) wl_X3_140 rfl rfl (by decide) (Nat.le_of_ble_eq_true rfl) dX3_agesOpen_44 (fun M_4 => ?_)
  refine j_iincB (i := 6) (y := v6 + 1) (Lf := fun v6_5 => [(0, .ref (gA g 0)), (1, .int v1), (2, .int v2), (3, .int v3), (4, .int v4), (5, .int v5), (6, .int v6_5)]) X dX3_agesOpen_47 rfl rfl (by decide) (fun _ => rfl) (fun v6_5 => ?_)
  refine j_goto (tgt := 17) X dX3_agesOpen_50 (by decide) ?_
  exact hc17 (v5, v6_5, M_4)
def pi_X3_agesOpen_17 (v1 : Int32) (v2 : Int32) (v3 : Int32) (v4 : Int32) (rc17 : Int32 × Int32 × Mem → Option (Int32 × Mem)) (v5 : Int32) (v6 : Int32) (M : Mem) : Option (Int32 × Mem) := if v4 ≤ v6 then (some (v5, M)) else (bd (mi_X2_leastClimb 13 v1 v2 M) fun r_3 M_2 => if v3 < r_3 then (pi_X3_agesOpen_40 v1 v2 v3 v4 v5 v6 rc17 M_2) else (bI (v5 + 1) fun v5_6 => pi_X3_agesOpen_40 v1 v2 v3 v4 v5_6 v6 rc17 M_2))
set_option maxRecDepth 100000 in
set_option maxHeartbeats 4000000 in
theorem pj_X3_agesOpen_17 {p : Program} {l : Launch} {e : Env} {R : Room} {s : State} {m : MethodId} {args : Array Value} {below : List Frame} {meth : Method} {c : Code} {g : Gh} (X : Cx p l e R s m args below meth c g cX3_agesOpen 7 (0, 0) RX3 4) (hr : meth.sig.returnType = (some (.int))) (v1 : Int32) (v2 : Int32) (v3 : Int32) (v4 : Int32) (rc17 : Int32 × Int32 × Mem → Option (Int32 × Mem)) (hc17 : ∀ x, J p l e R s m args below meth c g 7 (0, 0) (QfI below args s g) (rc17 x) x.2.2 17 [(0, .ref (gA g 0)), (1, .int v1), (2, .int v2), (3, .int v3), (4, .int v4), (5, .int x.1), (6, .int x.2.1)] []) (v5 : Int32) (v6 : Int32) (M : Mem) : J p l e R s m args below meth c g 7 (0, 0) (QfI below args s g) (pi_X3_agesOpen_17 v1 v2 v3 v4 rc17 v5 v6 M) M 17 [(0, .ref (gA g 0)), (1, .int v1), (2, .int v2), (3, .int v3), (4, .int v4), (5, .int v5), (6, .int v6)] [] := by
  unfold pi_X3_agesOpen_17
  refine j_iload (i := 6) X dX3_agesOpen_17 rfl ?_
  refine j_iload (i := 4) X dX3_agesOpen_19 rfl ?_
  refine j_icmp_ge (tgt := 53) X dX3_agesOpen_21 (by decide) ?_ ?_
  · refine j_iload (i := 5) X dX3_agesOpen_53 rfl ?_
    exact j_iret X hr dX3_agesOpen_55
  · refine j_aload_n (i := 0) X dX3_agesOpen_24 rfl rfl ?_
    refine j_get_hd 1 X (by decide) wq_240 rfl dX3_agesOpen_25 ?_
    refine j_iload_n (i := 1) X dX3_agesOpen_28 rfl rfl ?_
    refine j_iload_n (i := 2) X dX3_agesOpen_29 rfl rfl ?_
    refine k_cVI (As := [.int v1, .int v2]) (rest := []) sh_13.lt (cf_sh sh_13 _) rfl X (ct_X2_leastClimb l g 13 v1 v2 sh_13 M) wl_X3_175 rfl rfl (by decide) (Nat.le_of_ble_eq_true rfl) dX3_agesOpen_30 (fun r_3 M_2 => ?_)
    refine j_iload_n (i := 3) X dX3_agesOpen_33 rfl rfl ?_
    refine j_icmp_gt (tgt := 40) X dX3_agesOpen_34 (by decide) ?_ ?_
    · exact pj_X3_agesOpen_40 X hr v1 v2 v3 v4 v5 v6 rc17 hc17 M_2
    · refine j_iincB (i := 5) (y := v5 + 1) (Lf := fun v5_6 => [(0, .ref (gA g 0)), (1, .int v1), (2, .int v2), (3, .int v3), (4, .int v4), (5, .int v5_6), (6, .int v6)]) X dX3_agesOpen_37 rfl rfl (by decide) (fun _ => rfl) (fun v5_6 => ?_)
      exact pj_X3_agesOpen_40 X hr v1 v2 v3 v4 v5_6 v6 rc17 hc17 M_2
def pi_X3_agesOpen_e (v1 : Int32) (v2 : Int32) (v3 : Int32) (v4 : Int32) (M : Mem) : Option (Int32 × Mem) := bv (mi_X2_become 13 1 M) fun M_1 => lp (fun rc17 x => pi_X3_agesOpen_17 v1 v2 v3 v4 rc17 x.1 x.2.1 x.2.2) FU (0, 0, M_1)
set_option maxRecDepth 100000 in
set_option maxHeartbeats 4000000 in
theorem pj_X3_agesOpen_e {p : Program} {l : Launch} {e : Env} {R : Room} {s : State} {m : MethodId} {args : Array Value} {below : List Frame} {meth : Method} {c : Code} {g : Gh} (X : Cx p l e R s m args below meth c g cX3_agesOpen 7 (0, 0) RX3 4) (hr : meth.sig.returnType = (some (.int))) (v1 : Int32) (v2 : Int32) (v3 : Int32) (v4 : Int32) (M : Mem) : J p l e R s m args below meth c g 7 (0, 0) (QfI below args s g) (pi_X3_agesOpen_e v1 v2 v3 v4 M) M 0 [(0, .ref (gA g 0)), (1, .int v1), (2, .int v2), (3, .int v3), (4, .int v4)] [] := by
  unfold pi_X3_agesOpen_e
  refine j_aload_n (i := 0) X dX3_agesOpen_0 rfl rfl ?_
  refine j_get_hd 1 X (by decide) wq_240 rfl dX3_agesOpen_1 ?_
  refine j_aload_n (i := 0) X dX3_agesOpen_4 rfl rfl ?_
  refine j_get_hd 0 X (by decide) wq_172 rfl dX3_agesOpen_5 ?_
  refine k_cVV (As := [.ref (gA g 1)]) (rest := []) sh_13.lt (cf_sh sh_13 _) rfl X (ct_X2_become l g 13 1 sh_13 sh_1 M) wl_X3_133 rfl rfl (by decide) (Nat.le_of_ble_eq_true rfl) dX3_agesOpen_8 (fun M_1 => ?_)
  refine j_iconst (v := 0) X dX3_agesOpen_11 rfl ?_
  refine j_istore (i := 5) (Lq := [(0, .ref (gA g 0)), (1, .int v1), (2, .int v2), (3, .int v3), (4, .int v4), (5, .int 0)]) X dX3_agesOpen_12 (by decide) rfl ?_
  refine j_iconst (v := 0) X dX3_agesOpen_14 rfl ?_
  refine j_istore (i := 6) (Lq := [(0, .ref (gA g 0)), (1, .int v1), (2, .int v2), (3, .int v3), (4, .int v4), (5, .int 0), (6, .int 0)]) X dX3_agesOpen_15 (by decide) rfl ?_
  exact j_lp (Lf := fun x => [(0, .ref (gA g 0)), (1, .int v1), (2, .int v2), (3, .int v3), (4, .int v4), (5, .int x.1), (6, .int x.2.1)]) (Mf := fun x => x.2.2) (fun rc17 hc17 x => pj_X3_agesOpen_17 X hr v1 v2 v3 v4 rc17 hc17 x.1 x.2.1 x.2.2) FU (0, 0, M_1)
def mi_X3_agesOpen (v1 : Int32) (v2 : Int32) (v3 : Int32) (v4 : Int32) (M : Mem) : Option (Int32 × Mem) := pi_X3_agesOpen_e v1 v2 v3 v4 M
theorem ct_X3_agesOpen (l : Launch) (g : Gh) (v1 : Int32) (v2 : Int32) (v3 : Int32) (v4 : Int32) (M : Mem) : CtI l g yX3_agesOpen cX3_agesOpen 7 (some (.int)) 4 [.ref (gA g 0), .int v1, .int v2, .int v3, .int v4] M (mi_X3_agesOpen v1 v2 v3 v4 M) := ctI_of (own := RX3) (L := [(0, .ref (gA g 0)), (1, .int v1), (2, .int v2), (3, .int v3), (4, .int v4)]) (by decide +kernel) rfl (Nat.le_of_ble_eq_true rfl) rfl (fun p e s m args below meth c X hr => pj_X3_agesOpen_e X hr v1 v2 v3 v4  M)
