def pi_X3_open_35 (v1 : Int32) (v2 : Int32) (v3 : Int32) (v4 : Int32) (M : Mem) : Option (Int32 × Mem) := bd (mi_X3_finding 0 M) fun r_12 M_11 => some (r_12, M_11)
set_option maxRecDepth 100000 in
set_option maxHeartbeats 4000000 in
theorem pj_X3_open_35 {p : Program} {l : Launch} {e : Env} {R : Room} {s : State} {m : MethodId} {args : Array Value} {below : List Frame} {meth : Method} {c : Code} {g : Gh} (X : Cx p l e R s m args below meth c g cX3_open 5 (0, 0) RX3 5) (hr : meth.sig.returnType = (some (.int))) (v1 : Int32) (v2 : Int32) (v3 : Int32) (v4 : Int32) (M : Mem) : J p l e R s m args below meth c g 5 (0, 0) (QfI below args s g) (pi_X3_open_35 v1 v2 v3 v4 M) M 35 [(0, .ref (gA g 0)), (1, .int v1), (2, .int v2), (3, .int v3), (4, .int v4)] [] := by
  unfold pi_X3_open_35
  refine j_aload_n (i := 0) X dX3_open_35 rfl rfl ?_
  refine j_iconst (v := 0) X dX3_open_36 rfl ?_
  refine k_cVI (As := [.int 0]) (rest := []) (by decide) (cf_hd _) rfl X (ct_X3_finding l g 0 M) wl_X3_44 rfl rfl (by decide) (Nat.le_of_ble_eq_true rfl) dX3_open_37 (fun r_12 M_11 => ?_)
  exact j_iret X hr dX3_open_40
def pi_X3_open_e (v1 : Int32) (v2 : Int32) (v3 : Int32) (v4 : Int32) (M : Mem) : Option (Int32 × Mem) := bd (mi_X3_isNoValley v1 M) fun r_2 M_1 => if r_2 = 0 then (bd (mi_X3_isNoValley v2 M_1) fun r_4 M_3 => if r_4 = 0 then (bd (mi_X3_isOutside v3 0 99 M_3) fun r_6 M_5 => if r_6 = 0 then (bd (mi_X3_isOutside v4 0 100 M_5) fun r_8 M_7 => if r_8 = 0 then (bd (mi_X3_agesOpen v1 v2 v3 v4 M_7) fun r_10 M_9 => some (r_10, M_9)) else (pi_X3_open_35 v1 v2 v3 v4 M_7)) else (pi_X3_open_35 v1 v2 v3 v4 M_5)) else (pi_X3_open_35 v1 v2 v3 v4 M_3)) else (pi_X3_open_35 v1 v2 v3 v4 M_1)
set_option maxRecDepth 100000 in
set_option maxHeartbeats 4000000 in
theorem pj_X3_open_e {p : Program} {l : Launch} {e : Env} {R : Room} {s : State} {m : MethodId} {args : Array Value} {below : List Frame} {meth : Method} {c : Code} {g : Gh} (X : Cx p l e R s m args below meth c g cX3_open 5 (0, 0) RX3 5) (hr : meth.sig.returnType = (some (.int))) (v1 : Int32) (v2 : Int32) (v3 : Int32) (v4 : Int32) (M : Mem) : J p l e R s m args below meth c g 5 (0, 0) (QfI below args s g) (pi_X3_open_e v1 v2 v3 v4 M) M 0 [(0, .ref (gA g 0)), (1, .int v1), (2, .int v2), (3, .int v3), (4, .int v4)] [] := by
  unfold pi_X3_open_e
  refine j_iload_n (i := 1) X dX3_open_0 rfl rfl ?_
  refine k_cSI (As := [.int v1]) (rest := []) X (ct_X3_isNoValley l g v1 M) wl_X3_52 rfl rfl (by decide) (Nat.le_of_ble_eq_true rfl) dX3_open_1 (fun r_2 M_1 => ?_)
  refine j_if_ne (tgt := 35) X dX3_open_4 (by decide) ?_ ?_
  · refine j_iload_n (i := 2) X dX3_open_7 rfl rfl ?_
    refine k_cSI (As := [.int v2]) (rest := []) X (ct_X3_isNoValley l g v2 M_1) wl_X3_52 rfl rfl (by decide) (Nat.le_of_ble_eq_true rfl) dX3_open_8 (fun r_4 M_3 => ?_)
    refine j_if_ne (tgt := 35) X dX3_open_11 (by decide) ?_ ?_
    · refine j_iload_n (i := 3) X dX3_open_14 rfl rfl ?_
      refine j_iconst (v := 0) X dX3_open_15 rfl ?_
      refine j_bipush (v := 99) X dX3_open_16 rfl ?_
      refine k_cSI (As := [.int v3, .int 0, .int 99]) (rest := []) X (ct_X3_isOutside l g v3 0 99 M_3) wl_X3_40 rfl rfl (by decide) (Nat.le_of_ble_eq_true rfl) dX3_open_18 (fun r_6 M_5 => ?_)
      refine j_if_ne (tgt := 35) X dX3_open_21 (by decide) ?_ ?_
      · refine j_iload (i := 4) X dX3_open_24 rfl ?_
        refine j_iconst (v := 0) X dX3_open_26 rfl ?_
        refine j_bipush (v := 100) X dX3_open_27 rfl ?_
        refine k_cSI (As := [.int v4, .int 0, .int 100]) (rest := []) X (ct_X3_isOutside l g v4 0 100 M_5) wl_X3_40 rfl rfl (by decide) (Nat.le_of_ble_eq_true rfl) dX3_open_29 (fun r_8 M_7 => ?_)
        refine j_if_eq (tgt := 41) X dX3_open_32 (by decide) ?_ ?_
        · refine j_aload_n (i := 0) X dX3_open_41 rfl rfl ?_
          refine j_iload_n (i := 1) X dX3_open_42 rfl rfl ?_
          refine j_iload_n (i := 2) X dX3_open_43 rfl rfl ?_
          refine j_iload_n (i := 3) X dX3_open_44 rfl rfl ?_
          refine j_iload (i := 4) X dX3_open_45 rfl ?_
          refine k_cVI (As := [.int v1, .int v2, .int v3, .int v4]) (rest := []) (by decide) (cf_hd _) rfl X (ct_X3_agesOpen l g v1 v2 v3 v4 M_7) wl_X3_178 rfl rfl (by decide) (Nat.le_of_ble_eq_true rfl) dX3_open_47 (fun r_10 M_9 => ?_)
          exact j_iret X hr dX3_open_50
        · exact pj_X3_open_35 X hr v1 v2 v3 v4 M_7
      · exact pj_X3_open_35 X hr v1 v2 v3 v4 M_5
    · exact pj_X3_open_35 X hr v1 v2 v3 v4 M_3
  · exact pj_X3_open_35 X hr v1 v2 v3 v4 M_1
def mi_X3_open (v1 : Int32) (v2 : Int32) (v3 : Int32) (v4 : Int32) (M : Mem) : Option (Int32 × Mem) := pi_X3_open_e v1 v2 v3 v4 M
theorem ct_X3_open (l : Launch) (g : Gh) (v1 : Int32) (v2 : Int32) (v3 : Int32) (v4 : Int32) (M : Mem) : CtI l g yX3_open cX3_open 5 (some (.int)) 5 [.ref (gA g 0), .int v1, .int v2, .int v3, .int v4] M (mi_X3_open v1 v2 v3 v4 M) := ctI_of (own := RX3) (L := [(0, .ref (gA g 0)), (1, .int v1), (2, .int v2), (3, .int v3), (4, .int v4)]) (by decide +kernel) rfl (Nat.le_of_ble_eq_true rfl) rfl (fun p e s m args below meth c X hr => pj_X3_open_e X hr v1 v2 v3 v4  M)

def pi_X3_lay_74 (v1 : Int32) (v2 : Int32) (v3 : Int32) (v4 : Int32) (v5 : Int32) (v6 : Int32) (t0 : Int32) (rc42 : Int32 × Int32 × Int32 × Mem → Option (Int32 × Mem)) (M : Mem) : Option (Int32 × Mem) := if t0 ≤ v5 then (bI (v6 + 1) fun v6_7 => rc42 (v4, v5, v6_7, M)) else (bI (v6 + 1) fun v6_8 => rc42 (v6, t0, v6_8, M))
set_option maxRecDepth 100000 in
set_option maxHeartbeats 4000000 in
theorem pj_X3_lay_74 {p : Program} {l : Launch} {e : Env} {R : Room} {s : State} {m : MethodId} {args : Array Value} {below : List Frame} {meth : Method} {c : Code} {g : Gh} (X : Cx p l e R s m args below meth c g cX3_lay 8 (0, 0) RX3 5) (hr : meth.sig.returnType = (some (.int))) (v1 : Int32) (v2 : Int32) (v3 : Int32) (v4 : Int32) (v5 : Int32) (v6 : Int32) (t0 : Int32) (rc42 : Int32 × Int32 × Int32 × Mem → Option (Int32 × Mem)) (hc42 : ∀ x, J p l e R s m args below meth c g 8 (0, 0) (QfI below args s g) (rc42 x) x.2.2.2 42 [(0, .ref (gA g 0)), (1, .int v1), (2, .int v2), (3, .int v3), (4, .int x.1), (5, .int x.2.1), (6, .int x.2.2.1)] []) (M : Mem) : J p l e R s m args below meth c g 8 (0, 0) (QfI below args s g) (pi_X3_lay_74 v1 v2 v3 v4 v5 v6 t0 rc42 M) M 74 [(0, .ref (gA g 0)), (1, .int v1), (2, .int v2), (3, .int v3), (4, .int v4), (5, .int v5), (6, .int v6)] [.int t0] := by
  unfold pi_X3_lay_74
  refine j_istore (i := 7) (Lq := [(0, .ref (gA g 0)), (1, .int v1), (2, .int v2), (3, .int v3), (4, .int v4), (5, .int v5), (6, .int v6), (7, .int t0)]) X dX3_lay_74 (by decide) rfl ?_
  refine j_iload (i := 7) X dX3_lay_76 rfl ?_
  refine j_iload (i := 5) X dX3_lay_78 rfl ?_
  refine j_icmp_le (tgt := 91) X dX3_lay_80 (by decide) ?_ ?_
  · refine j_iincB (i := 6) (y := v6 + 1) (Lf := fun v6_7 => [(0, .ref (gA g 0)), (1, .int v1), (2, .int v2), (3, .int v3), (4, .int v4), (5, .int v5), (6, .int v6_7), (7, .int t0)]) X dX3_lay_91 rfl rfl (by decide) (fun _ => rfl) (fun v6_7 => ?_)
    refine j_goto (tgt := 42) X dX3_lay_94 (by decide) ?_
    refine j_pick [0, 1, 2, 3, 4, 5, 6] (Lq := [(0, .ref (gA g 0)), (1, .int v1), (2, .int v2), (3, .int v3), (4, .int v4), (5, .int v5), (6, .int v6_7)]) rfl ?_
    exact hc42 (v4, v5, v6_7, M)
  · refine j_iload (i := 7) X dX3_lay_83 rfl ?_
    refine j_istore (i := 5) (Lq := [(0, .ref (gA g 0)), (1, .int v1), (2, .int v2), (3, .int v3), (4, .int v4), (5, .int t0), (6, .int v6), (7, .int t0)]) X dX3_lay_85 (by decide) rfl ?_
    refine j_iload (i := 6) X dX3_lay_87 rfl ?_
    refine j_istore (i := 4) (Lq := [(0, .ref (gA g 0)), (1, .int v1), (2, .int v2), (3, .int v3), (4, .int v6), (5, .int t0), (6, .int v6), (7, .int t0)]) X dX3_lay_89 (by decide) rfl ?_
    refine j_iincB (i := 6) (y := v6 + 1) (Lf := fun v6_8 => [(0, .ref (gA g 0)), (1, .int v1), (2, .int v2), (3, .int v3), (4, .int v6), (5, .int t0), (6, .int v6_8), (7, .int t0)]) X dX3_lay_91 rfl rfl (by decide) (fun _ => rfl) (fun v6_8 => ?_)
    refine j_goto (tgt := 42) X dX3_lay_94 (by decide) ?_
    refine j_pick [0, 1, 2, 3, 4, 5, 6] (Lq := [(0, .ref (gA g 0)), (1, .int v1), (2, .int v2), (3, .int v3), (4, .int v6), (5, .int t0), (6, .int v6_8)]) rfl ?_
    exact hc42 (v6, t0, v6_8, M)
def pi_X3_lay_42 (v1 : Int32) (v2 : Int32) (v3 : Int32) (rc42 : Int32 × Int32 × Int32 × Mem → Option (Int32 × Mem)) (v4 : Int32) (v5 : Int32) (v6 : Int32) (M : Mem) : Option (Int32 × Mem) := if 12 ≤ v6 then (some (v4, M)) else (if v3 ≤ v5 then (some (v4, M)) else (if v6 = v1 then (pi_X3_lay_74 v1 v2 v3 v4 v5 v6 (-1) rc42 M) else (bd (mi_X3_agesOpen v1 v6 v2 v3 M) fun r_10 M_9 => pi_X3_lay_74 v1 v2 v3 v4 v5 v6 r_10 rc42 M_9)))
set_option maxRecDepth 100000 in
set_option maxHeartbeats 4000000 in
theorem pj_X3_lay_42 {p : Program} {l : Launch} {e : Env} {R : Room} {s : State} {m : MethodId} {args : Array Value} {below : List Frame} {meth : Method} {c : Code} {g : Gh} (X : Cx p l e R s m args below meth c g cX3_lay 8 (0, 0) RX3 5) (hr : meth.sig.returnType = (some (.int))) (v1 : Int32) (v2 : Int32) (v3 : Int32) (rc42 : Int32 × Int32 × Int32 × Mem → Option (Int32 × Mem)) (hc42 : ∀ x, J p l e R s m args below meth c g 8 (0, 0) (QfI below args s g) (rc42 x) x.2.2.2 42 [(0, .ref (gA g 0)), (1, .int v1), (2, .int v2), (3, .int v3), (4, .int x.1), (5, .int x.2.1), (6, .int x.2.2.1)] []) (v4 : Int32) (v5 : Int32) (v6 : Int32) (M : Mem) : J p l e R s m args below meth c g 8 (0, 0) (QfI below args s g) (pi_X3_lay_42 v1 v2 v3 rc42 v4 v5 v6 M) M 42 [(0, .ref (gA g 0)), (1, .int v1), (2, .int v2), (3, .int v3), (4, .int v4), (5, .int v5), (6, .int v6)] [] := by
  unfold pi_X3_lay_42
  refine j_iload (i := 6) X dX3_lay_42 rfl ?_
  refine j_bipush (v := 12) X dX3_lay_44 rfl ?_
  refine j_icmp_ge (tgt := 97) X dX3_lay_46 (by decide) ?_ ?_
  · refine j_iload (i := 4) X dX3_lay_97 rfl ?_
    exact j_iret X hr dX3_lay_99
  · refine j_iload (i := 5) X dX3_lay_49 rfl ?_
    refine j_iload_n (i := 3) X dX3_lay_51 rfl rfl ?_
    refine j_icmp_ge (tgt := 97) X dX3_lay_52 (by decide) ?_ ?_
    · refine j_iload (i := 4) X dX3_lay_97 rfl ?_
      exact j_iret X hr dX3_lay_99
    · refine j_iload (i := 6) X dX3_lay_55 rfl ?_
      refine j_iload_n (i := 1) X dX3_lay_57 rfl rfl ?_
      refine j_icmp_ne (tgt := 65) X dX3_lay_58 (by decide) ?_ ?_
      · refine j_iconst (v := (-1)) X dX3_lay_61 rfl ?_
        refine j_goto (tgt := 74) X dX3_lay_62 (by decide) ?_
        exact pj_X3_lay_74 X hr v1 v2 v3 v4 v5 v6 (-1) rc42 hc42 M
      · refine j_aload_n (i := 0) X dX3_lay_65 rfl rfl ?_
        refine j_iload_n (i := 1) X dX3_lay_66 rfl rfl ?_
        refine j_iload (i := 6) X dX3_lay_67 rfl ?_
        refine j_iload_n (i := 2) X dX3_lay_69 rfl rfl ?_
        refine j_iload_n (i := 3) X dX3_lay_70 rfl rfl ?_
        refine k_cVI (As := [.int v1, .int v6, .int v2, .int v3]) (rest := []) (by decide) (cf_hd _) rfl X (ct_X3_agesOpen l g v1 v6 v2 v3 M) wl_X3_178 rfl rfl (by decide) (Nat.le_of_ble_eq_true rfl) dX3_lay_71 (fun r_10 M_9 => ?_)
        exact pj_X3_lay_74 X hr v1 v2 v3 v4 v5 v6 r_10 rc42 hc42 M_9
def pi_X3_lay_27 (v1 : Int32) (v2 : Int32) (v3 : Int32) (M : Mem) : Option (Int32 × Mem) := bd (mi_X3_finding 0 M) fun r_12 M_11 => some (r_12, M_11)
set_option maxRecDepth 100000 in
set_option maxHeartbeats 4000000 in
theorem pj_X3_lay_27 {p : Program} {l : Launch} {e : Env} {R : Room} {s : State} {m : MethodId} {args : Array Value} {below : List Frame} {meth : Method} {c : Code} {g : Gh} (X : Cx p l e R s m args below meth c g cX3_lay 8 (0, 0) RX3 5) (hr : meth.sig.returnType = (some (.int))) (v1 : Int32) (v2 : Int32) (v3 : Int32) (M : Mem) : J p l e R s m args below meth c g 8 (0, 0) (QfI below args s g) (pi_X3_lay_27 v1 v2 v3 M) M 27 [(0, .ref (gA g 0)), (1, .int v1), (2, .int v2), (3, .int v3)] [] := by
  unfold pi_X3_lay_27
  refine j_aload_n (i := 0) X dX3_lay_27 rfl rfl ?_
  refine j_iconst (v := 0) X dX3_lay_28 rfl ?_
  refine k_cVI (As := [.int 0]) (rest := []) (by decide) (cf_hd _) rfl X (ct_X3_finding l g 0 M) wl_X3_44 rfl rfl (by decide) (Nat.le_of_ble_eq_true rfl) dX3_lay_29 (fun r_12 M_11 => ?_)
  exact j_iret X hr dX3_lay_32
def pi_X3_lay_e (v1 : Int32) (v2 : Int32) (v3 : Int32) (M : Mem) : Option (Int32 × Mem) := bd (mi_X3_isNoValley v1 M) fun r_2 M_1 => if r_2 = 0 then (bd (mi_X3_isOutside v2 0 99 M_1) fun r_4 M_3 => if r_4 = 0 then (bd (mi_X3_isOutside v3 0 60 M_3) fun r_6 M_5 => if r_6 = 0 then (lp (fun rc42 x => pi_X3_lay_42 v1 v2 v3 rc42 x.1 x.2.1 x.2.2.1 x.2.2.2) FU (0, (-1), 0, M_5)) else (pi_X3_lay_27 v1 v2 v3 M_5)) else (pi_X3_lay_27 v1 v2 v3 M_3)) else (pi_X3_lay_27 v1 v2 v3 M_1)
set_option maxRecDepth 100000 in
set_option maxHeartbeats 4000000 in
theorem pj_X3_lay_e {p : Program} {l : Launch} {e : Env} {R : Room} {s : State} {m : MethodId} {args : Array Value} {below : List Frame} {meth : Method} {c : Code} {g : Gh} (X : Cx p l e R s m args below meth c g cX3_lay 8 (0, 0) RX3 5) (hr : meth.sig.returnType = (some (.int))) (v1 : Int32) (v2 : Int32) (v3 : Int32) (M : Mem) : J p l e R s m args below meth c g 8 (0, 0) (QfI below args s g) (pi_X3_lay_e v1 v2 v3 M) M 0 [(0, .ref (gA g 0)), (1, .int v1), (2, .int v2), (3, .int v3)] [] := by
  unfold pi_X3_lay_e
  refine j_iload_n (i := 1) X dX3_lay_0 rfl rfl ?_
  refine k_cSI (As := [.int v1]) (rest := []) X (ct_X3_isNoValley l g v1 M) wl_X3_52 rfl rfl (by decide) (Nat.le_of_ble_eq_true rfl) dX3_lay_1 (fun r_2 M_1 => ?_)
  refine j_if_ne (tgt := 27) X dX3_lay_4 (by decide) ?_ ?_
  · refine j_iload_n (i := 2) X dX3_lay_7 rfl rfl ?_
    refine j_iconst (v := 0) X dX3_lay_8 rfl ?_
    refine j_bipush (v := 99) X dX3_lay_9 rfl ?_
    refine k_cSI (As := [.int v2, .int 0, .int 99]) (rest := []) X (ct_X3_isOutside l g v2 0 99 M_1) wl_X3_40 rfl rfl (by decide) (Nat.le_of_ble_eq_true rfl) dX3_lay_11 (fun r_4 M_3 => ?_)
    refine j_if_ne (tgt := 27) X dX3_lay_14 (by decide) ?_ ?_
    · refine j_iload_n (i := 3) X dX3_lay_17 rfl rfl ?_
      refine j_iconst (v := 0) X dX3_lay_18 rfl ?_
      refine j_bipush (v := 60) X dX3_lay_19 rfl ?_
      refine k_cSI (As := [.int v3, .int 0, .int 60]) (rest := []) X (ct_X3_isOutside l g v3 0 60 M_3) wl_X3_40 rfl rfl (by decide) (Nat.le_of_ble_eq_true rfl) dX3_lay_21 (fun r_6 M_5 => ?_)
      refine j_if_eq (tgt := 33) X dX3_lay_24 (by decide) ?_ ?_
      · refine j_iconst (v := 0) X dX3_lay_33 rfl ?_
        refine j_istore (i := 4) (Lq := [(0, .ref (gA g 0)), (1, .int v1), (2, .int v2), (3, .int v3), (4, .int 0)]) X dX3_lay_34 (by decide) rfl ?_
        refine j_iconst (v := (-1)) X dX3_lay_36 rfl ?_
        refine j_istore (i := 5) (Lq := [(0, .ref (gA g 0)), (1, .int v1), (2, .int v2), (3, .int v3), (4, .int 0), (5, .int (-1))]) X dX3_lay_37 (by decide) rfl ?_
        refine j_iconst (v := 0) X dX3_lay_39 rfl ?_
        refine j_istore (i := 6) (Lq := [(0, .ref (gA g 0)), (1, .int v1), (2, .int v2), (3, .int v3), (4, .int 0), (5, .int (-1)), (6, .int 0)]) X dX3_lay_40 (by decide) rfl ?_
        exact j_lp (Lf := fun x => [(0, .ref (gA g 0)), (1, .int v1), (2, .int v2), (3, .int v3), (4, .int x.1), (5, .int x.2.1), (6, .int x.2.2.1)]) (Mf := fun x => x.2.2.2) (fun rc42 hc42 x => pj_X3_lay_42 X hr v1 v2 v3 rc42 hc42 x.1 x.2.1 x.2.2.1 x.2.2.2) FU (0, (-1), 0, M_5)
      · exact pj_X3_lay_27 X hr v1 v2 v3 M_5
    · exact pj_X3_lay_27 X hr v1 v2 v3 M_3
  · exact pj_X3_lay_27 X hr v1 v2 v3 M_1
def mi_X3_lay (v1 : Int32) (v2 : Int32) (v3 : Int32) (M : Mem) : Option (Int32 × Mem) := pi_X3_lay_e v1 v2 v3 M
theorem ct_X3_lay (l : Launch) (g : Gh) (v1 : Int32) (v2 : Int32) (v3 : Int32) (M : Mem) : CtI l g yX3_lay cX3_lay 8 (some (.int)) 5 [.ref (gA g 0), .int v1, .int v2, .int v3] M (mi_X3_lay v1 v2 v3 M) := ctI_of (own := RX3) (L := [(0, .ref (gA g 0)), (1, .int v1), (2, .int v2), (3, .int v3)]) (by decide +kernel) rfl (Nat.le_of_ble_eq_true rfl) rfl (fun p e s m args below meth c X hr => pj_X3_lay_e X hr v1 v2 v3  M)

def pi_X3_facesAsTold_39 (b1 : Nat) (v2 : Int32) (v3 : Int32) (rc2 : Int32 × Mem → Option (Int32 × Mem)) (M : Mem) : Option (Int32 × Mem) := bv (mi_X2_passAge 13 M) fun M_3 => bI (v3 + 1) fun v3_4 => rc2 (v3_4, M_3)
set_option maxRecDepth 100000 in
set_option maxHeartbeats 4000000 in
theorem pj_X3_facesAsTold_39 {p : Program} {l : Launch} {e : Env} {R : Room} {s : State} {m : MethodId} {args : Array Value} {below : List Frame} {meth : Method} {c : Code} {g : Gh} (X : Cx p l e R s m args below meth c g cX3_facesAsTold 5 (0, 0) RX3 4) (hr : meth.sig.returnType = (some (.boolean))) (b1 : Nat) (v2 : Int32) (hb1 : isSt b1) (v3 : Int32) (rc2 : Int32 × Mem → Option (Int32 × Mem)) (hc2 : ∀ x, J p l e R s m args below meth c g 5 (0, 0) (QfI below args s g) (rc2 x) x.2 2 [(0, .ref (gA g 0)), (1, .ref (gA g b1)), (2, .int v2), (3, .int x.1)] []) (M : Mem) : J p l e R s m args below meth c g 5 (0, 0) (QfI below args s g) (pi_X3_facesAsTold_39 b1 v2 v3 rc2 M) M 39 [(0, .ref (gA g 0)), (1, .ref (gA g b1)), (2, .int v2), (3, .int v3)] [] := by
  unfold pi_X3_facesAsTold_39
  refine j_aload_n (i := 0) X dX3_facesAsTold_39 rfl rfl ?_
  refine j_get_hd 1 X (by decide) wq_240 rfl dX3_facesAsTold_40 ?_
  refine k_cVV (As := []) (rest := []) sh_13.lt (cf_sh sh_13 _) rfl X (ct_X2_passAge l g 13 sh_13 M) wl_X3_140 rfl rfl (by decide) (Nat.le_of_ble_eq_true rfl) dX3_facesAsTold_43 (fun M_3 => ?_)
  refine j_iincB (i := 3) (y := v3 + 1) (Lf := fun v3_4 => [(0, .ref (gA g 0)), (1, .ref (gA g b1)), (2, .int v2), (3, .int v3_4)]) X dX3_facesAsTold_46 rfl rfl (by decide) (fun _ => rfl) (fun v3_4 => ?_)
  refine j_goto (tgt := 2) X dX3_facesAsTold_49 (by decide) ?_
  exact hc2 (v3_4, M_3)
def pi_X3_facesAsTold_2 (b1 : Nat) (v2 : Int32) (rc2 : Int32 × Mem → Option (Int32 × Mem)) (v3 : Int32) (M : Mem) : Option (Int32 × Mem) := if (M b1 1) ≤ v3 then (gd (isB 1) (some (1, M))) else (gd (inb v3 40) <| bI (M (b1 + 1) v3.toNatClampNeg) fun v4_2 => if v4_2 = (-1) then (pi_X3_facesAsTold_39 b1 v2 v3 rc2 M) else (bd (mi_X2_facedBy 13 v2 M) fun r_6 M_5 => if v4_2 = r_6 then (pi_X3_facesAsTold_39 b1 v2 v3 rc2 M_5) else (gd (isB 0) (some (0, M_5)))))
set_option maxRecDepth 100000 in
set_option maxHeartbeats 4000000 in
theorem pj_X3_facesAsTold_2 {p : Program} {l : Launch} {e : Env} {R : Room} {s : State} {m : MethodId} {args : Array Value} {below : List Frame} {meth : Method} {c : Code} {g : Gh} (X : Cx p l e R s m args below meth c g cX3_facesAsTold 5 (0, 0) RX3 4) (hr : meth.sig.returnType = (some (.boolean))) (b1 : Nat) (v2 : Int32) (hb1 : isSt b1) (rc2 : Int32 × Mem → Option (Int32 × Mem)) (hc2 : ∀ x, J p l e R s m args below meth c g 5 (0, 0) (QfI below args s g) (rc2 x) x.2 2 [(0, .ref (gA g 0)), (1, .ref (gA g b1)), (2, .int v2), (3, .int x.1)] []) (v3 : Int32) (M : Mem) : J p l e R s m args below meth c g 5 (0, 0) (QfI below args s g) (pi_X3_facesAsTold_2 b1 v2 rc2 v3 M) M 2 [(0, .ref (gA g 0)), (1, .ref (gA g b1)), (2, .int v2), (3, .int v3)] [] := by
  unfold pi_X3_facesAsTold_2
  refine j_iload_n (i := 3) X dX3_facesAsTold_2 rfl rfl ?_
  refine j_aload_n (i := 1) X dX3_facesAsTold_3 rfl rfl ?_
  refine j_getN_st hb1 1 X (by decide) (by decide +kernel) rfl dX3_facesAsTold_4 ?_
  refine j_icmp_ge (tgt := 52) X dX3_facesAsTold_7 (by decide) ?_ ?_
  · refine j_iconst (v := 1) X dX3_facesAsTold_52 rfl ?_
    exact j_zret X hr dX3_facesAsTold_53
  · refine j_aload_n (i := 1) X dX3_facesAsTold_10 rfl rfl ?_
    refine j_getN_st hb1 2 X (by decide) (by decide +kernel) rfl dX3_facesAsTold_11 ?_
    refine j_iload_n (i := 3) X dX3_facesAsTold_14 rfl rfl ?_
    refine j_iald X (ia_st hb1) dX3_facesAsTold_15 (fun h_1 => ?_)
    refine j_bI (fun v4_2 => ?_)
    refine j_istore (i := 4) (Lq := [(0, .ref (gA g 0)), (1, .ref (gA g b1)), (2, .int v2), (3, .int v3), (4, .int v4_2)]) X dX3_facesAsTold_16 (by decide) rfl ?_
    refine j_iload (i := 4) X dX3_facesAsTold_18 rfl ?_
    refine j_iconst (v := (-1)) X dX3_facesAsTold_20 rfl ?_
    refine j_icmp_eq (tgt := 39) X dX3_facesAsTold_21 (by decide) ?_ ?_
    · refine j_pick [0, 1, 2, 3] (Lq := [(0, .ref (gA g 0)), (1, .ref (gA g b1)), (2, .int v2), (3, .int v3)]) rfl ?_
      exact pj_X3_facesAsTold_39 X hr b1 v2 hb1 v3 rc2 hc2 M
    · refine j_iload (i := 4) X dX3_facesAsTold_24 rfl ?_
      refine j_aload_n (i := 0) X dX3_facesAsTold_26 rfl rfl ?_
      refine j_get_hd 1 X (by decide) wq_240 rfl dX3_facesAsTold_27 ?_
      refine j_iload_n (i := 2) X dX3_facesAsTold_30 rfl rfl ?_
      refine k_cVI (As := [.int v2]) (rest := [.int v4_2]) sh_13.lt (cf_sh sh_13 _) rfl X (ct_X2_facedBy l g 13 v2 sh_13 M) wl_X3_137 rfl rfl (by decide) (Nat.le_of_ble_eq_true rfl) dX3_facesAsTold_31 (fun r_6 M_5 => ?_)
      refine j_icmp_eq (tgt := 39) X dX3_facesAsTold_34 (by decide) ?_ ?_
      · refine j_pick [0, 1, 2, 3] (Lq := [(0, .ref (gA g 0)), (1, .ref (gA g b1)), (2, .int v2), (3, .int v3)]) rfl ?_
        exact pj_X3_facesAsTold_39 X hr b1 v2 hb1 v3 rc2 hc2 M_5
      · refine j_iconst (v := 0) X dX3_facesAsTold_37 rfl ?_
        exact j_zret X hr dX3_facesAsTold_38
def pi_X3_facesAsTold_e (b1 : Nat) (v2 : Int32) (M : Mem) : Option (Int32 × Mem) := lp (fun rc2 x => pi_X3_facesAsTold_2 b1 v2 rc2 x.1 x.2) FU (0, M)
set_option maxRecDepth 100000 in
set_option maxHeartbeats 4000000 in
theorem pj_X3_facesAsTold_e {p : Program} {l : Launch} {e : Env} {R : Room} {s : State} {m : MethodId} {args : Array Value} {below : List Frame} {meth : Method} {c : Code} {g : Gh} (X : Cx p l e R s m args below meth c g cX3_facesAsTold 5 (0, 0) RX3 4) (hr : meth.sig.returnType = (some (.boolean))) (b1 : Nat) (v2 : Int32) (hb1 : isSt b1) (M : Mem) : J p l e R s m args below meth c g 5 (0, 0) (QfI below args s g) (pi_X3_facesAsTold_e b1 v2 M) M 0 [(0, .ref (gA g 0)), (1, .ref (gA g b1)), (2, .int v2)] [] := by
  unfold pi_X3_facesAsTold_e
  refine j_iconst (v := 0) X dX3_facesAsTold_0 rfl ?_
  refine j_istore_n (i := 3) (Lq := [(0, .ref (gA g 0)), (1, .ref (gA g b1)), (2, .int v2), (3, .int 0)]) X dX3_facesAsTold_1 rfl (by decide) rfl ?_
  exact j_lp (Lf := fun x => [(0, .ref (gA g 0)), (1, .ref (gA g b1)), (2, .int v2), (3, .int x.1)]) (Mf := fun x => x.2) (fun rc2 hc2 x => pj_X3_facesAsTold_2 X hr b1 v2 hb1 rc2 hc2 x.1 x.2) FU (0, M)
def mi_X3_facesAsTold (b1 : Nat) (v2 : Int32) (M : Mem) : Option (Int32 × Mem) := pi_X3_facesAsTold_e b1 v2 M
theorem ct_X3_facesAsTold (l : Launch) (g : Gh) (b1 : Nat) (v2 : Int32) (hb1 : isSt b1) (M : Mem) : CtI l g yX3_facesAsTold cX3_facesAsTold 5 (some (.boolean)) 4 [.ref (gA g 0), .ref (gA g b1), .int v2] M (mi_X3_facesAsTold b1 v2 M) := ctI_of (own := RX3) (L := [(0, .ref (gA g 0)), (1, .ref (gA g b1)), (2, .int v2)]) (by decide +kernel) rfl (Nat.le_of_ble_eq_true rfl) rfl (fun p e s m args below meth c X hr => pj_X3_facesAsTold_e X hr b1 v2 hb1 M)

def pi_X3_fittingSet_13 (v1 : Int32) (v2 : Int32) (v3 : Int32) (v4 : Int32) (rc13 : Int32 × Int32 × Mem → Option (Int32 × Mem)) (v5 : Int32) (v6 : Int32) (M : Mem) : Option (Int32 × Mem) := bd (mi_X3_mostOf v3 M) fun r_4 M_3 => if r_4 < v6 then (some (v5, M_3)) else (bv (mi_X3_tryWith v2 v3 v6 M_3) fun M_5 => gd (inb v1 4) <| bd (mi_X3_facesAsTold (40 + 2 * v1.toNatClampNeg) v2 M_5) fun r_8 M_7 => if r_8 = 0 then (bI (v6 + 1) fun v6_9 => rc13 (v5, v6_9, M_7)) else (bI (v5 ||| (1 <<< ((v6 - v4) &&& 31))) fun v5_10 => bI (v6 + 1) fun v6_11 => rc13 (v5_10, v6_11, M_7)))
set_option maxRecDepth 100000 in
set_option maxHeartbeats 4000000 in
theorem pj_X3_fittingSet_13 {p : Program} {l : Launch} {e : Env} {R : Room} {s : State} {m : MethodId} {args : Array Value} {below : List Frame} {meth : Method} {c : Code} {g : Gh} (X : Cx p l e R s m args below meth c g cX3_fittingSet 7 (0, 0) RX3 5) (hr : meth.sig.returnType = (some (.int))) (v1 : Int32) (v2 : Int32) (v3 : Int32) (v4 : Int32) (rc13 : Int32 × Int32 × Mem → Option (Int32 × Mem)) (hc13 : ∀ x, J p l e R s m args below meth c g 7 (0, 0) (QfI below args s g) (rc13 x) x.2.2 13 [(0, .ref (gA g 0)), (1, .int v1), (2, .int v2), (3, .int v3), (4, .int v4), (5, .int x.1), (6, .int x.2.1)] []) (v5 : Int32) (v6 : Int32) (M : Mem) : J p l e R s m args below meth c g 7 (0, 0) (QfI below args s g) (pi_X3_fittingSet_13 v1 v2 v3 v4 rc13 v5 v6 M) M 13 [(0, .ref (gA g 0)), (1, .int v1), (2, .int v2), (3, .int v3), (4, .int v4), (5, .int v5), (6, .int v6)] [] := by
  unfold pi_X3_fittingSet_13
  refine j_iload (i := 6) X dX3_fittingSet_13 rfl ?_
  refine j_iload_n (i := 3) X dX3_fittingSet_15 rfl rfl ?_
  refine k_cSI (As := [.int v3]) (rest := [.int v6]) X (ct_X3_mostOf l g v3 M) wl_X3_85 rfl rfl (by decide) (Nat.le_of_ble_eq_true rfl) dX3_fittingSet_16 (fun r_4 M_3 => ?_)
  refine j_icmp_gt (tgt := 62) X dX3_fittingSet_19 (by decide) ?_ ?_
  · refine j_iload (i := 5) X dX3_fittingSet_62 rfl ?_
    exact j_iret X hr dX3_fittingSet_64
  · refine j_aload_n (i := 0) X dX3_fittingSet_22 rfl rfl ?_
    refine j_iload_n (i := 2) X dX3_fittingSet_23 rfl rfl ?_
    refine j_iload_n (i := 3) X dX3_fittingSet_24 rfl rfl ?_
    refine j_iload (i := 6) X dX3_fittingSet_25 rfl ?_
    refine k_cVV (As := [.int v2, .int v3, .int v6]) (rest := []) (by decide) (cf_hd _) rfl X (ct_X3_tryWith l g v2 v3 v6 M_3) wl_X3_161 rfl rfl (by decide) (Nat.le_of_ble_eq_true rfl) dX3_fittingSet_27 (fun M_5 => ?_)
    refine j_aload_n (i := 0) X dX3_fittingSet_30 rfl rfl ?_
    refine j_aload_n (i := 0) X dX3_fittingSet_31 rfl rfl ?_
    refine j_get_hd 5 X (by decide) wq_284 rfl dX3_fittingSet_32 ?_
    refine j_iload_n (i := 1) X dX3_fittingSet_35 rfl rfl ?_
    refine j_ald_sht X dX3_fittingSet_36 (fun h_6 => ?_)
    refine j_iload_n (i := 2) X dX3_fittingSet_37 rfl rfl ?_
    refine k_cVI (As := [.ref (gA g (40 + 2 * v1.toNatClampNeg)), .int v2]) (rest := []) (by decide) (cf_hd _) rfl X (ct_X3_facesAsTold l g (40 + 2 * v1.toNatClampNeg) v2 (st_in h_6) M_5) wl_X3_259 rfl rfl (by decide) (Nat.le_of_ble_eq_true rfl) dX3_fittingSet_38 (fun r_8 M_7 => ?_)
    refine j_if_eq (tgt := 56) X dX3_fittingSet_41 (by decide) ?_ ?_
    · refine j_iincB (i := 6) (y := v6 + 1) (Lf := fun v6_9 => [(0, .ref (gA g 0)), (1, .int v1), (2, .int v2), (3, .int v3), (4, .int v4), (5, .int v5), (6, .int v6_9)]) X dX3_fittingSet_56 rfl rfl (by decide) (fun _ => rfl) (fun v6_9 => ?_)
      refine j_goto (tgt := 13) X dX3_fittingSet_59 (by decide) ?_
      exact hc13 (v5, v6_9, M_7)
    · refine j_iload (i := 5) X dX3_fittingSet_44 rfl ?_
      refine j_iconst (v := 1) X dX3_fittingSet_46 rfl ?_
      refine j_iload (i := 6) X dX3_fittingSet_47 rfl ?_
      refine j_iload (i := 4) X dX3_fittingSet_49 rfl ?_
      refine j_isub X dX3_fittingSet_51 ?_
      refine j_ishl X dX3_fittingSet_52 ?_
      refine j_ior X dX3_fittingSet_53 ?_
      refine j_bI (fun v5_10 => ?_)
      refine j_istore (i := 5) (Lq := [(0, .ref (gA g 0)), (1, .int v1), (2, .int v2), (3, .int v3), (4, .int v4), (5, .int v5_10), (6, .int v6)]) X dX3_fittingSet_54 (by decide) rfl ?_
      refine j_iincB (i := 6) (y := v6 + 1) (Lf := fun v6_11 => [(0, .ref (gA g 0)), (1, .int v1), (2, .int v2), (3, .int v3), (4, .int v4), (5, .int v5_10), (6, .int v6_11)]) X dX3_fittingSet_56 rfl rfl (by decide) (fun _ => rfl) (fun v6_11 => ?_)
      refine j_goto (tgt := 13) X dX3_fittingSet_59 (by decide) ?_
      exact hc13 (v5_10, v6_11, M_7)
def pi_X3_fittingSet_e (v1 : Int32) (v2 : Int32) (v3 : Int32) (M : Mem) : Option (Int32 × Mem) := bd (mi_X3_leastOf v3 M) fun r_2 M_1 => lp (fun rc13 x => pi_X3_fittingSet_13 v1 v2 v3 r_2 rc13 x.1 x.2.1 x.2.2) FU (0, r_2, M_1)
set_option maxRecDepth 100000 in
set_option maxHeartbeats 4000000 in
theorem pj_X3_fittingSet_e {p : Program} {l : Launch} {e : Env} {R : Room} {s : State} {m : MethodId} {args : Array Value} {below : List Frame} {meth : Method} {c : Code} {g : Gh} (X : Cx p l e R s m args below meth c g cX3_fittingSet 7 (0, 0) RX3 5) (hr : meth.sig.returnType = (some (.int))) (v1 : Int32) (v2 : Int32) (v3 : Int32) (M : Mem) : J p l e R s m args below meth c g 7 (0, 0) (QfI below args s g) (pi_X3_fittingSet_e v1 v2 v3 M) M 0 [(0, .ref (gA g 0)), (1, .int v1), (2, .int v2), (3, .int v3)] [] := by
  unfold pi_X3_fittingSet_e
  refine j_iload_n (i := 3) X dX3_fittingSet_0 rfl rfl ?_
  refine k_cSI (As := [.int v3]) (rest := []) X (ct_X3_leastOf l g v3 M) wl_X3_82 rfl rfl (by decide) (Nat.le_of_ble_eq_true rfl) dX3_fittingSet_1 (fun r_2 M_1 => ?_)
  refine j_istore (i := 4) (Lq := [(0, .ref (gA g 0)), (1, .int v1), (2, .int v2), (3, .int v3), (4, .int r_2)]) X dX3_fittingSet_4 (by decide) rfl ?_
  refine j_iconst (v := 0) X dX3_fittingSet_6 rfl ?_
  refine j_istore (i := 5) (Lq := [(0, .ref (gA g 0)), (1, .int v1), (2, .int v2), (3, .int v3), (4, .int r_2), (5, .int 0)]) X dX3_fittingSet_7 (by decide) rfl ?_
  refine j_iload (i := 4) X dX3_fittingSet_9 rfl ?_
  refine j_istore (i := 6) (Lq := [(0, .ref (gA g 0)), (1, .int v1), (2, .int v2), (3, .int v3), (4, .int r_2), (5, .int 0), (6, .int r_2)]) X dX3_fittingSet_11 (by decide) rfl ?_
  exact j_lp (Lf := fun x => [(0, .ref (gA g 0)), (1, .int v1), (2, .int v2), (3, .int v3), (4, .int r_2), (5, .int x.1), (6, .int x.2.1)]) (Mf := fun x => x.2.2) (fun rc13 hc13 x => pj_X3_fittingSet_13 X hr v1 v2 v3 r_2 rc13 hc13 x.1 x.2.1 x.2.2) FU (0, r_2, M_1)
def mi_X3_fittingSet (v1 : Int32) (v2 : Int32) (v3 : Int32) (M : Mem) : Option (Int32 × Mem) := pi_X3_fittingSet_e v1 v2 v3 M
theorem ct_X3_fittingSet (l : Launch) (g : Gh) (v1 : Int32) (v2 : Int32) (v3 : Int32) (M : Mem) : CtI l g yX3_fittingSet cX3_fittingSet 7 (some (.int)) 5 [.ref (gA g 0), .int v1, .int v2, .int v3] M (mi_X3_fittingSet v1 v2 v3 M) := ctI_of (own := RX3) (L := [(0, .ref (gA g 0)), (1, .int v1), (2, .int v2), (3, .int v3)]) (by decide +kernel) rfl (Nat.le_of_ble_eq_true rfl) rfl (fun p e s m args below meth c X hr => pj_X3_fittingSet_e X hr v1 v2 v3  M)

def pi_X3_isNoSheet_e (v0 : Int32) (M : Mem) : Option (Int32 × Mem) := bd (mi_X3_isOutside v0 0 3 M) fun r_2 M_1 => gd (isB r_2) (some (r_2, M_1))
set_option maxRecDepth 100000 in
set_option maxHeartbeats 4000000 in
theorem pj_X3_isNoSheet_e {p : Program} {l : Launch} {e : Env} {R : Room} {s : State} {m : MethodId} {args : Array Value} {below : List Frame} {meth : Method} {c : Code} {g : Gh} (X : Cx p l e R s m args below meth c g cX3_isNoSheet 1 (0, 0) RX3 1) (hr : meth.sig.returnType = (some (.boolean))) (v0 : Int32) (M : Mem) : J p l e R s m args below meth c g 1 (0, 0) (QfI below args s g) (pi_X3_isNoSheet_e v0 M) M 0 [(0, .int v0)] [] := by
  unfold pi_X3_isNoSheet_e
  refine j_iload_n (i := 0) X dX3_isNoSheet_0 rfl rfl ?_
  refine j_iconst (v := 0) X dX3_isNoSheet_1 rfl ?_
  refine j_iconst (v := 3) X dX3_isNoSheet_2 rfl ?_
  refine k_cSI (As := [.int v0, .int 0, .int 3]) (rest := []) X (ct_X3_isOutside l g v0 0 3 M) wl_X3_40 rfl rfl (by decide) (Nat.le_of_ble_eq_true rfl) dX3_isNoSheet_3 (fun r_2 M_1 => ?_)
  exact j_zret X hr dX3_isNoSheet_6
def mi_X3_isNoSheet (v0 : Int32) (M : Mem) : Option (Int32 × Mem) := pi_X3_isNoSheet_e v0 M
theorem ct_X3_isNoSheet (l : Launch) (g : Gh) (v0 : Int32) (M : Mem) : CtI l g yX3_isNoSheet cX3_isNoSheet 1 (some (.boolean)) 1 [.int v0] M (mi_X3_isNoSheet v0 M) := ctI_of (own := RX3) (L := [(0, .int v0)]) (by decide +kernel) rfl (Nat.le_of_ble_eq_true rfl) rfl (fun p e s m args below meth c X hr => pj_X3_isNoSheet_e X hr v0  M)

def pi_X3_wrongWithSheet_e (v1 : Int32) (M : Mem) : Option (Int32 × Mem) := bd (mi_X3_isNoSheet v1 M) fun r_2 M_1 => if r_2 = 0 then (gd (inb v1 4) <| bd (mi_X1_isMissing (40 + 2 * v1.toNatClampNeg) M_1) fun r_5 M_4 => if r_5 = 0 then (some ((-1), M_4)) else (some (5, M_4))) else (some (0, M_1))
set_option maxRecDepth 100000 in
set_option maxHeartbeats 4000000 in
theorem pj_X3_wrongWithSheet_e {p : Program} {l : Launch} {e : Env} {R : Room} {s : State} {m : MethodId} {args : Array Value} {below : List Frame} {meth : Method} {c : Code} {g : Gh} (X : Cx p l e R s m args below meth c g cX3_wrongWithSheet 2 (0, 0) RX3 2) (hr : meth.sig.returnType = (some (.int))) (v1 : Int32) (M : Mem) : J p l e R s m args below meth c g 2 (0, 0) (QfI below args s g) (pi_X3_wrongWithSheet_e v1 M) M 0 [(0, .ref (gA g 0)), (1, .int v1)] [] := by
  unfold pi_X3_wrongWithSheet_e
  refine j_iload_n (i := 1) X dX3_wrongWithSheet_0 rfl rfl ?_
  refine k_cSI (As := [.int v1]) (rest := []) X (ct_X3_isNoSheet l g v1 M) wl_X3_210 rfl rfl (by decide) (Nat.le_of_ble_eq_true rfl) dX3_wrongWithSheet_1 (fun r_2 M_1 => ?_)
  refine j_if_eq (tgt := 9) X dX3_wrongWithSheet_4 (by decide) ?_ ?_
  · refine j_aload_n (i := 0) X dX3_wrongWithSheet_9 rfl rfl ?_
    refine j_get_hd 5 X (by decide) wq_284 rfl dX3_wrongWithSheet_10 ?_
    refine j_iload_n (i := 1) X dX3_wrongWithSheet_13 rfl rfl ?_
    refine j_ald_sht X dX3_wrongWithSheet_14 (fun h_3 => ?_)
    refine k_cVI (As := []) (rest := []) (st_in h_3).lt (cf_st (st_in h_3) _) rfl X (ct_X1_isMissing l g (40 + 2 * v1.toNatClampNeg) (st_in h_3) M_1) wl_X3_224 rfl rfl (by decide) (Nat.le_of_ble_eq_true rfl) dX3_wrongWithSheet_15 (fun r_5 M_4 => ?_)
    refine j_if_eq (tgt := 25) X dX3_wrongWithSheet_18 (by decide) ?_ ?_
    · refine j_iconst (v := (-1)) X dX3_wrongWithSheet_25 rfl ?_
      exact j_iret X hr dX3_wrongWithSheet_26
    · refine j_iconst (v := 5) X dX3_wrongWithSheet_21 rfl ?_
      refine j_goto (tgt := 26) X dX3_wrongWithSheet_22 (by decide) ?_
      exact j_iret X hr dX3_wrongWithSheet_26
  · refine j_iconst (v := 0) X dX3_wrongWithSheet_7 rfl ?_
    exact j_iret X hr dX3_wrongWithSheet_8
def mi_X3_wrongWithSheet (v1 : Int32) (M : Mem) : Option (Int32 × Mem) := pi_X3_wrongWithSheet_e v1 M
theorem ct_X3_wrongWithSheet (l : Launch) (g : Gh) (v1 : Int32) (M : Mem) : CtI l g yX3_wrongWithSheet cX3_wrongWithSheet 2 (some (.int)) 2 [.ref (gA g 0), .int v1] M (mi_X3_wrongWithSheet v1 M) := ctI_of (own := RX3) (L := [(0, .ref (gA g 0)), (1, .int v1)]) (by decide +kernel) rfl (Nat.le_of_ble_eq_true rfl) rfl (fun p e s m args below meth c X hr => pj_X3_wrongWithSheet_e X hr v1  M)

def pi_X3_wrongWithTold_e (v1 : Int32) (v2 : Int32) (M : Mem) : Option (Int32 × Mem) := bd (mi_X3_wrongWithSheet v1 M) fun r_2 M_1 => if r_2 < 0 then (bd (mi_X2_lacks 1 v2 M_1) fun r_4 M_3 => if r_4 = 0 then (some ((-1), M_3)) else (some (0, M_3))) else (some (r_2, M_1))
set_option maxRecDepth 100000 in
set_option maxHeartbeats 4000000 in
theorem pj_X3_wrongWithTold_e {p : Program} {l : Launch} {e : Env} {R : Room} {s : State} {m : MethodId} {args : Array Value} {below : List Frame} {meth : Method} {c : Code} {g : Gh} (X : Cx p l e R s m args below meth c g cX3_wrongWithTold 4 (0, 0) RX3 3) (hr : meth.sig.returnType = (some (.int))) (v1 : Int32) (v2 : Int32) (M : Mem) : J p l e R s m args below meth c g 4 (0, 0) (QfI below args s g) (pi_X3_wrongWithTold_e v1 v2 M) M 0 [(0, .ref (gA g 0)), (1, .int v1), (2, .int v2)] [] := by
  unfold pi_X3_wrongWithTold_e
  refine j_aload_n (i := 0) X dX3_wrongWithTold_0 rfl rfl ?_
  refine j_iload_n (i := 1) X dX3_wrongWithTold_1 rfl rfl ?_
  refine k_cVI (As := [.int v1]) (rest := []) (by decide) (cf_hd _) rfl X (ct_X3_wrongWithSheet l g v1 M) wl_X3_218 rfl rfl (by decide) (Nat.le_of_ble_eq_true rfl) dX3_wrongWithTold_2 (fun r_2 M_1 => ?_)
  refine j_istore_n (i := 3) (Lq := [(0, .ref (gA g 0)), (1, .int v1), (2, .int v2), (3, .int r_2)]) X dX3_wrongWithTold_5 rfl (by decide) rfl ?_
  refine j_iload_n (i := 3) X dX3_wrongWithTold_6 rfl rfl ?_
  refine j_if_lt (tgt := 12) X dX3_wrongWithTold_7 (by decide) ?_ ?_
  · refine j_aload_n (i := 0) X dX3_wrongWithTold_12 rfl rfl ?_
    refine j_get_hd 0 X (by decide) wq_172 rfl dX3_wrongWithTold_13 ?_
    refine j_iload_n (i := 2) X dX3_wrongWithTold_16 rfl rfl ?_
    refine k_cVI (As := [.int v2]) (rest := []) sh_1.lt (cf_sh sh_1 _) rfl X (ct_X2_lacks l g 1 v2 sh_1 M_1) wl_X3_64 rfl rfl (by decide) (Nat.le_of_ble_eq_true rfl) dX3_wrongWithTold_17 (fun r_4 M_3 => ?_)
    refine j_if_eq (tgt := 27) X dX3_wrongWithTold_20 (by decide) ?_ ?_
    · refine j_iconst (v := (-1)) X dX3_wrongWithTold_27 rfl ?_
      exact j_iret X hr dX3_wrongWithTold_28
    · refine j_iconst (v := 0) X dX3_wrongWithTold_23 rfl ?_
      refine j_goto (tgt := 28) X dX3_wrongWithTold_24 (by decide) ?_
      exact j_iret X hr dX3_wrongWithTold_28
  · refine j_iload_n (i := 3) X dX3_wrongWithTold_10 rfl rfl ?_
    exact j_iret X hr dX3_wrongWithTold_11
def mi_X3_wrongWithTold (v1 : Int32) (v2 : Int32) (M : Mem) : Option (Int32 × Mem) := pi_X3_wrongWithTold_e v1 v2 M
theorem ct_X3_wrongWithTold (l : Launch) (g : Gh) (v1 : Int32) (v2 : Int32) (M : Mem) : CtI l g yX3_wrongWithTold cX3_wrongWithTold 4 (some (.int)) 3 [.ref (gA g 0), .int v1, .int v2] M (mi_X3_wrongWithTold v1 v2 M) := ctI_of (own := RX3) (L := [(0, .ref (gA g 0)), (1, .int v1), (2, .int v2)]) (by decide +kernel) rfl (Nat.le_of_ble_eq_true rfl) rfl (fun p e s m args below meth c X hr => pj_X3_wrongWithTold_e X hr v1 v2  M)

def pi_X3_fits_e (v1 : Int32) (v2 : Int32) (M : Mem) : Option (Int32 × Mem) := bd (mi_X3_wrongWithTold v1 v2 M) fun r_2 M_1 => if r_2 < 0 then (bd (mi_X3_fittingSet v1 v2 2 M_1) fun r_4 M_3 => bd (mi_J6_bitCount_0f7a4 r_4 M_3) fun r_6 M_5 => some (r_6, M_5)) else (bd (mi_X3_finding r_2 M_1) fun r_8 M_7 => some (r_8, M_7))
set_option maxRecDepth 100000 in
set_option maxHeartbeats 4000000 in
theorem pj_X3_fits_e {p : Program} {l : Launch} {e : Env} {R : Room} {s : State} {m : MethodId} {args : Array Value} {below : List Frame} {meth : Method} {c : Code} {g : Gh} (X : Cx p l e R s m args below meth c g cX3_fits 4 (0, 0) RX3 6) (hr : meth.sig.returnType = (some (.int))) (v1 : Int32) (v2 : Int32) (M : Mem) : J p l e R s m args below meth c g 4 (0, 0) (QfI below args s g) (pi_X3_fits_e v1 v2 M) M 0 [(0, .ref (gA g 0)), (1, .int v1), (2, .int v2)] [] := by
  unfold pi_X3_fits_e
  refine j_aload_n (i := 0) X dX3_fits_0 rfl rfl ?_
  refine j_iload_n (i := 1) X dX3_fits_1 rfl rfl ?_
  refine j_iload_n (i := 2) X dX3_fits_2 rfl rfl ?_
  refine k_cVI (As := [.int v1, .int v2]) (rest := []) (by decide) (cf_hd _) rfl X (ct_X3_wrongWithTold l g v1 v2 M) wl_X3_182 rfl rfl (by decide) (Nat.le_of_ble_eq_true rfl) dX3_fits_3 (fun r_2 M_1 => ?_)
  refine j_istore_n (i := 3) (Lq := [(0, .ref (gA g 0)), (1, .int v1), (2, .int v2), (3, .int r_2)]) X dX3_fits_6 rfl (by decide) rfl ?_
  refine j_iload_n (i := 3) X dX3_fits_7 rfl rfl ?_
  refine j_if_lt (tgt := 19) X dX3_fits_8 (by decide) ?_ ?_
  · refine j_aload_n (i := 0) X dX3_fits_19 rfl rfl ?_
    refine j_iload_n (i := 1) X dX3_fits_20 rfl rfl ?_
    refine j_iload_n (i := 2) X dX3_fits_21 rfl rfl ?_
    refine j_iconst (v := 2) X dX3_fits_22 rfl ?_
    refine k_cVI (As := [.int v1, .int v2, .int 2]) (rest := []) (by decide) (cf_hd _) rfl X (ct_X3_fittingSet l g v1 v2 2 M_1) wl_X3_185 rfl rfl (by decide) (Nat.le_of_ble_eq_true rfl) dX3_fits_23 (fun r_4 M_3 => ?_)
    refine k_cSI (As := [.int r_4]) (rest := []) X (ct_J6_bitCount_0f7a4 l g r_4 M_3) wl_X3_113 rfl rfl (by decide) (Nat.le_of_ble_eq_true rfl) dX3_fits_26 (fun r_6 M_5 => ?_)
    exact j_iret X hr dX3_fits_29
  · refine j_aload_n (i := 0) X dX3_fits_11 rfl rfl ?_
    refine j_iload_n (i := 3) X dX3_fits_12 rfl rfl ?_
    refine k_cVI (As := [.int r_2]) (rest := []) (by decide) (cf_hd _) rfl X (ct_X3_finding l g r_2 M_1) wl_X3_44 rfl rfl (by decide) (Nat.le_of_ble_eq_true rfl) dX3_fits_13 (fun r_8 M_7 => ?_)
    refine j_goto (tgt := 29) X dX3_fits_16 (by decide) ?_
    exact j_iret X hr dX3_fits_29
def mi_X3_fits (v1 : Int32) (v2 : Int32) (M : Mem) : Option (Int32 × Mem) := pi_X3_fits_e v1 v2 M
theorem ct_X3_fits (l : Launch) (g : Gh) (v1 : Int32) (v2 : Int32) (M : Mem) : CtI l g yX3_fits cX3_fits 4 (some (.int)) 6 [.ref (gA g 0), .int v1, .int v2] M (mi_X3_fits v1 v2 M) := ctI_of (own := RX3) (L := [(0, .ref (gA g 0)), (1, .int v1), (2, .int v2)]) (by decide +kernel) rfl (Nat.le_of_ble_eq_true rfl) rfl (fun p e s m args below meth c X hr => pj_X3_fits_e X hr v1 v2  M)

def pi_X3_step_30 (v1 : Int32) (v2 : Int32) (v4 : Int32) (rc30 : Int32 × Mem → Option (Int32 × Mem)) (v5 : Int32) (M : Mem) : Option (Int32 × Mem) := if 5 < v5 then (bd (mi_X3_finding 3 M) fun r_6 M_5 => some (r_6, M_5)) else (if ((v4 >>> ((v5 + 5) &&& 31)) &&& 1) = 0 then (bI (v5 + 1) fun v5_7 => rc30 (v5_7, M)) else (some (v5, M)))
set_option maxRecDepth 100000 in
set_option maxHeartbeats 4000000 in
theorem pj_X3_step_30 {p : Program} {l : Launch} {e : Env} {R : Room} {s : State} {m : MethodId} {args : Array Value} {below : List Frame} {meth : Method} {c : Code} {g : Gh} (X : Cx p l e R s m args below meth c g cX3_step 6 (0, 0) RX3 6) (hr : meth.sig.returnType = (some (.int))) (v1 : Int32) (v2 : Int32) (v4 : Int32) (rc30 : Int32 × Mem → Option (Int32 × Mem)) (hc30 : ∀ x, J p l e R s m args below meth c g 6 (0, 0) (QfI below args s g) (rc30 x) x.2 30 [(0, .ref (gA g 0)), (1, .int v1), (2, .int v2), (4, .int v4), (5, .int x.1)] []) (v5 : Int32) (M : Mem) : J p l e R s m args below meth c g 6 (0, 0) (QfI below args s g) (pi_X3_step_30 v1 v2 v4 rc30 v5 M) M 30 [(0, .ref (gA g 0)), (1, .int v1), (2, .int v2), (4, .int v4), (5, .int v5)] [] := by
  unfold pi_X3_step_30
  refine j_iload (i := 5) X dX3_step_30 rfl ?_
  refine j_iconst (v := 5) X dX3_step_32 rfl ?_
  refine j_icmp_gt (tgt := 57) X dX3_step_33 (by decide) ?_ ?_
  · refine j_aload_n (i := 0) X dX3_step_57 rfl rfl ?_
    refine j_iconst (v := 3) X dX3_step_58 rfl ?_
    refine k_cVI (As := [.int 3]) (rest := []) (by decide) (cf_hd _) rfl X (ct_X3_finding l g 3 M) wl_X3_44 rfl rfl (by decide) (Nat.le_of_ble_eq_true rfl) dX3_step_59 (fun r_6 M_5 => ?_)
    exact j_iret X hr dX3_step_62
  · refine j_iload (i := 4) X dX3_step_36 rfl ?_
    refine j_iload (i := 5) X dX3_step_38 rfl ?_
    refine j_iconst (v := 5) X dX3_step_40 rfl ?_
    refine j_iadd X dX3_step_41 ?_
    refine j_ishr X dX3_step_42 ?_
    refine j_iconst (v := 1) X dX3_step_43 rfl ?_
    refine j_iand X dX3_step_44 ?_
    refine j_if_eq (tgt := 51) X dX3_step_45 (by decide) ?_ ?_
    · refine j_iincB (i := 5) (y := v5 + 1) (Lf := fun v5_7 => [(0, .ref (gA g 0)), (1, .int v1), (2, .int v2), (4, .int v4), (5, .int v5_7)]) X dX3_step_51 rfl rfl (by decide) (fun _ => rfl) (fun v5_7 => ?_)
      refine j_goto (tgt := 30) X dX3_step_54 (by decide) ?_
      exact hc30 (v5_7, M)
    · refine j_iload (i := 5) X dX3_step_48 rfl ?_
      exact j_iret X hr dX3_step_50
def pi_X3_step_e (v1 : Int32) (v2 : Int32) (M : Mem) : Option (Int32 × Mem) := bd (mi_X3_wrongWithTold v1 v2 M) fun r_2 M_1 => if r_2 < 0 then (bd (mi_X3_fittingSet v1 v2 2 M_1) fun r_4 M_3 => lp (fun rc30 x => pi_X3_step_30 v1 v2 r_4 rc30 x.1 x.2) FU ((-5), M_3)) else (bd (mi_X3_finding r_2 M_1) fun r_9 M_8 => some (r_9, M_8))
set_option maxRecDepth 100000 in
set_option maxHeartbeats 4000000 in
theorem pj_X3_step_e {p : Program} {l : Launch} {e : Env} {R : Room} {s : State} {m : MethodId} {args : Array Value} {below : List Frame} {meth : Method} {c : Code} {g : Gh} (X : Cx p l e R s m args below meth c g cX3_step 6 (0, 0) RX3 6) (hr : meth.sig.returnType = (some (.int))) (v1 : Int32) (v2 : Int32) (M : Mem) : J p l e R s m args below meth c g 6 (0, 0) (QfI below args s g) (pi_X3_step_e v1 v2 M) M 0 [(0, .ref (gA g 0)), (1, .int v1), (2, .int v2)] [] := by
  unfold pi_X3_step_e
  refine j_aload_n (i := 0) X dX3_step_0 rfl rfl ?_
  refine j_iload_n (i := 1) X dX3_step_1 rfl rfl ?_
  refine j_iload_n (i := 2) X dX3_step_2 rfl rfl ?_
  refine k_cVI (As := [.int v1, .int v2]) (rest := []) (by decide) (cf_hd _) rfl X (ct_X3_wrongWithTold l g v1 v2 M) wl_X3_182 rfl rfl (by decide) (Nat.le_of_ble_eq_true rfl) dX3_step_3 (fun r_2 M_1 => ?_)
  refine j_istore_n (i := 3) (Lq := [(0, .ref (gA g 0)), (1, .int v1), (2, .int v2), (3, .int r_2)]) X dX3_step_6 rfl (by decide) rfl ?_
  refine j_iload_n (i := 3) X dX3_step_7 rfl rfl ?_
  refine j_if_lt (tgt := 17) X dX3_step_8 (by decide) ?_ ?_
  · refine j_aload_n (i := 0) X dX3_step_17 rfl rfl ?_
    refine j_iload_n (i := 1) X dX3_step_18 rfl rfl ?_
    refine j_iload_n (i := 2) X dX3_step_19 rfl rfl ?_
    refine j_iconst (v := 2) X dX3_step_20 rfl ?_
    refine k_cVI (As := [.int v1, .int v2, .int 2]) (rest := []) (by decide) (cf_hd _) rfl X (ct_X3_fittingSet l g v1 v2 2 M_1) wl_X3_185 rfl rfl (by decide) (Nat.le_of_ble_eq_true rfl) dX3_step_21 (fun r_4 M_3 => ?_)
    refine j_istore (i := 4) (Lq := [(0, .ref (gA g 0)), (1, .int v1), (2, .int v2), (3, .int r_2), (4, .int r_4)]) X dX3_step_24 (by decide) rfl ?_
    refine j_bipush (v := (-5)) X dX3_step_26 rfl ?_
    refine j_istore (i := 5) (Lq := [(0, .ref (gA g 0)), (1, .int v1), (2, .int v2), (3, .int r_2), (4, .int r_4), (5, .int (-5))]) X dX3_step_28 (by decide) rfl ?_
    refine j_pick [0, 1, 2, 4, 5] (Lq := [(0, .ref (gA g 0)), (1, .int v1), (2, .int v2), (4, .int r_4), (5, .int (-5))]) rfl ?_
    exact j_lp (Lf := fun x => [(0, .ref (gA g 0)), (1, .int v1), (2, .int v2), (4, .int r_4), (5, .int x.1)]) (Mf := fun x => x.2) (fun rc30 hc30 x => pj_X3_step_30 X hr v1 v2 r_4 rc30 hc30 x.1 x.2) FU ((-5), M_3)
  · refine j_aload_n (i := 0) X dX3_step_11 rfl rfl ?_
    refine j_iload_n (i := 3) X dX3_step_12 rfl rfl ?_
    refine k_cVI (As := [.int r_2]) (rest := []) (by decide) (cf_hd _) rfl X (ct_X3_finding l g r_2 M_1) wl_X3_44 rfl rfl (by decide) (Nat.le_of_ble_eq_true rfl) dX3_step_13 (fun r_9 M_8 => ?_)
    exact j_iret X hr dX3_step_16
def mi_X3_step (v1 : Int32) (v2 : Int32) (M : Mem) : Option (Int32 × Mem) := pi_X3_step_e v1 v2 M
theorem ct_X3_step (l : Launch) (g : Gh) (v1 : Int32) (v2 : Int32) (M : Mem) : CtI l g yX3_step cX3_step 6 (some (.int)) 6 [.ref (gA g 0), .int v1, .int v2] M (mi_X3_step v1 v2 M) := ctI_of (own := RX3) (L := [(0, .ref (gA g 0)), (1, .int v1), (2, .int v2)]) (by decide +kernel) rfl (Nat.le_of_ble_eq_true rfl) rfl (fun p e s m args below meth c X hr => pj_X3_step_e X hr v1 v2  M)

def pi_X3_kinds_e (v1 : Int32) (v2 : Int32) (M : Mem) : Option (Int32 × Mem) := bd (mi_X3_wrongWithTold v1 v2 M) fun r_2 M_1 => if r_2 < 0 then (bd (mi_X3_fittingSet v1 v2 0 M_1) fun r_4 M_3 => some (r_4, M_3)) else (bd (mi_X3_finding r_2 M_1) fun r_6 M_5 => some (r_6, M_5))
set_option maxRecDepth 100000 in
set_option maxHeartbeats 4000000 in
theorem pj_X3_kinds_e {p : Program} {l : Launch} {e : Env} {R : Room} {s : State} {m : MethodId} {args : Array Value} {below : List Frame} {meth : Method} {c : Code} {g : Gh} (X : Cx p l e R s m args below meth c g cX3_kinds 4 (0, 0) RX3 6) (hr : meth.sig.returnType = (some (.int))) (v1 : Int32) (v2 : Int32) (M : Mem) : J p l e R s m args below meth c g 4 (0, 0) (QfI below args s g) (pi_X3_kinds_e v1 v2 M) M 0 [(0, .ref (gA g 0)), (1, .int v1), (2, .int v2)] [] := by
  unfold pi_X3_kinds_e
  refine j_aload_n (i := 0) X dX3_kinds_0 rfl rfl ?_
  refine j_iload_n (i := 1) X dX3_kinds_1 rfl rfl ?_
  refine j_iload_n (i := 2) X dX3_kinds_2 rfl rfl ?_
  refine k_cVI (As := [.int v1, .int v2]) (rest := []) (by decide) (cf_hd _) rfl X (ct_X3_wrongWithTold l g v1 v2 M) wl_X3_182 rfl rfl (by decide) (Nat.le_of_ble_eq_true rfl) dX3_kinds_3 (fun r_2 M_1 => ?_)
  refine j_istore_n (i := 3) (Lq := [(0, .ref (gA g 0)), (1, .int v1), (2, .int v2), (3, .int r_2)]) X dX3_kinds_6 rfl (by decide) rfl ?_
  refine j_iload_n (i := 3) X dX3_kinds_7 rfl rfl ?_
  refine j_if_lt (tgt := 19) X dX3_kinds_8 (by decide) ?_ ?_
  · refine j_aload_n (i := 0) X dX3_kinds_19 rfl rfl ?_
    refine j_iload_n (i := 1) X dX3_kinds_20 rfl rfl ?_
    refine j_iload_n (i := 2) X dX3_kinds_21 rfl rfl ?_
    refine j_iconst (v := 0) X dX3_kinds_22 rfl ?_
    refine k_cVI (As := [.int v1, .int v2, .int 0]) (rest := []) (by decide) (cf_hd _) rfl X (ct_X3_fittingSet l g v1 v2 0 M_1) wl_X3_185 rfl rfl (by decide) (Nat.le_of_ble_eq_true rfl) dX3_kinds_23 (fun r_4 M_3 => ?_)
    exact j_iret X hr dX3_kinds_26
  · refine j_aload_n (i := 0) X dX3_kinds_11 rfl rfl ?_
    refine j_iload_n (i := 3) X dX3_kinds_12 rfl rfl ?_
    refine k_cVI (As := [.int r_2]) (rest := []) (by decide) (cf_hd _) rfl X (ct_X3_finding l g r_2 M_1) wl_X3_44 rfl rfl (by decide) (Nat.le_of_ble_eq_true rfl) dX3_kinds_13 (fun r_6 M_5 => ?_)
    refine j_goto (tgt := 26) X dX3_kinds_16 (by decide) ?_
    exact j_iret X hr dX3_kinds_26
def mi_X3_kinds (v1 : Int32) (v2 : Int32) (M : Mem) : Option (Int32 × Mem) := pi_X3_kinds_e v1 v2 M
theorem ct_X3_kinds (l : Launch) (g : Gh) (v1 : Int32) (v2 : Int32) (M : Mem) : CtI l g yX3_kinds cX3_kinds 4 (some (.int)) 6 [.ref (gA g 0), .int v1, .int v2] M (mi_X3_kinds v1 v2 M) := ctI_of (own := RX3) (L := [(0, .ref (gA g 0)), (1, .int v1), (2, .int v2)]) (by decide +kernel) rfl (Nat.le_of_ble_eq_true rfl) rfl (fun p e s m args below meth c X hr => pj_X3_kinds_e X hr v1 v2  M)

def pi_X3_rains_38 (v1 : Int32) (rc38 : Int32 × Mem → Option (Int32 × Mem)) (v2 : Int32) (M : Mem) : Option (Int32 × Mem) := if v1 ≤ v2 then (bd (mi_X2_heightOfAll 1 M) fun r_4 M_3 => some (r_4, M_3)) else (bv (mi_X2_passWetAge 1 M) fun M_5 => bI (v2 + 1) fun v2_6 => rc38 (v2_6, M_5))
set_option maxRecDepth 100000 in
set_option maxHeartbeats 4000000 in
theorem pj_X3_rains_38 {p : Program} {l : Launch} {e : Env} {R : Room} {s : State} {m : MethodId} {args : Array Value} {below : List Frame} {meth : Method} {c : Code} {g : Gh} (X : Cx p l e R s m args below meth c g cX3_rains 3 (0, 0) RX3 5) (hr : meth.sig.returnType = (some (.int))) (v1 : Int32) (rc38 : Int32 × Mem → Option (Int32 × Mem)) (hc38 : ∀ x, J p l e R s m args below meth c g 3 (0, 0) (QfI below args s g) (rc38 x) x.2 38 [(0, .ref (gA g 0)), (1, .int v1), (2, .int x.1)] []) (v2 : Int32) (M : Mem) : J p l e R s m args below meth c g 3 (0, 0) (QfI below args s g) (pi_X3_rains_38 v1 rc38 v2 M) M 38 [(0, .ref (gA g 0)), (1, .int v1), (2, .int v2)] [] := by
  unfold pi_X3_rains_38
  refine j_iload_n (i := 2) X dX3_rains_38 rfl rfl ?_
  refine j_iload_n (i := 1) X dX3_rains_39 rfl rfl ?_
  refine j_icmp_ge (tgt := 56) X dX3_rains_40 (by decide) ?_ ?_
  · refine j_aload_n (i := 0) X dX3_rains_56 rfl rfl ?_
    refine j_get_hd 0 X (by decide) wq_172 rfl dX3_rains_57 ?_
    refine k_cVI (As := []) (rest := []) sh_1.lt (cf_sh sh_1 _) rfl X (ct_X2_heightOfAll l g 1 sh_1 M) wl_X3_118 rfl rfl (by decide) (Nat.le_of_ble_eq_true rfl) dX3_rains_60 (fun r_4 M_3 => ?_)
    exact j_iret X hr dX3_rains_63
  · refine j_aload_n (i := 0) X dX3_rains_43 rfl rfl ?_
    refine j_get_hd 0 X (by decide) wq_172 rfl dX3_rains_44 ?_
    refine k_cVV (As := []) (rest := []) sh_1.lt (cf_sh sh_1 _) rfl X (ct_X2_passWetAge l g 1 sh_1 M) wl_X3_188 rfl rfl (by decide) (Nat.le_of_ble_eq_true rfl) dX3_rains_47 (fun M_5 => ?_)
    refine j_iincB (i := 2) (y := v2 + 1) (Lf := fun v2_6 => [(0, .ref (gA g 0)), (1, .int v1), (2, .int v2_6)]) X dX3_rains_50 rfl rfl (by decide) (fun _ => rfl) (fun v2_6 => ?_)
    refine j_goto (tgt := 38) X dX3_rains_53 (by decide) ?_
    exact hc38 (v2_6, M_5)
def pi_X3_rains_e (v1 : Int32) (M : Mem) : Option (Int32 × Mem) := bd (mi_X3_isOutside v1 1 20 M) fun r_2 M_1 => if r_2 = 0 then (if (M_1 1 1) ≤ (99999 - v1) then (lp (fun rc38 x => pi_X3_rains_38 v1 rc38 x.1 x.2) FU (0, M_1)) else (bd (mi_X3_finding 4 M_1) fun r_8 M_7 => some (r_8, M_7))) else (bd (mi_X3_finding 0 M_1) fun r_10 M_9 => some (r_10, M_9))
set_option maxRecDepth 100000 in
set_option maxHeartbeats 4000000 in
theorem pj_X3_rains_e {p : Program} {l : Launch} {e : Env} {R : Room} {s : State} {m : MethodId} {args : Array Value} {below : List Frame} {meth : Method} {c : Code} {g : Gh} (X : Cx p l e R s m args below meth c g cX3_rains 3 (0, 0) RX3 5) (hr : meth.sig.returnType = (some (.int))) (v1 : Int32) (M : Mem) : J p l e R s m args below meth c g 3 (0, 0) (QfI below args s g) (pi_X3_rains_e v1 M) M 0 [(0, .ref (gA g 0)), (1, .int v1)] [] := by
  unfold pi_X3_rains_e
  refine j_iload_n (i := 1) X dX3_rains_0 rfl rfl ?_
  refine j_iconst (v := 1) X dX3_rains_1 rfl ?_
  refine j_bipush (v := 20) X dX3_rains_2 rfl ?_
  refine k_cSI (As := [.int v1, .int 1, .int 20]) (rest := []) X (ct_X3_isOutside l g v1 1 20 M) wl_X3_40 rfl rfl (by decide) (Nat.le_of_ble_eq_true rfl) dX3_rains_4 (fun r_2 M_1 => ?_)
  refine j_if_eq (tgt := 16) X dX3_rains_7 (by decide) ?_ ?_
  · refine j_aload_n (i := 0) X dX3_rains_16 rfl rfl ?_
    refine j_get_hd 0 X (by decide) wq_172 rfl dX3_rains_17 ?_
    refine j_getN_sh sh_1 1 X (by decide) (by decide +kernel) rfl dX3_rains_20 ?_
    refine j_ldc (v := 99999) X wq_211 dX3_rains_23 ?_
    refine j_iload_n (i := 1) X dX3_rains_25 rfl rfl ?_
    refine j_isub X dX3_rains_26 ?_
    refine j_icmp_le (tgt := 36) X dX3_rains_27 (by decide) ?_ ?_
    · refine j_iconst (v := 0) X dX3_rains_36 rfl ?_
      refine j_istore_n (i := 2) (Lq := [(0, .ref (gA g 0)), (1, .int v1), (2, .int 0)]) X dX3_rains_37 rfl (by decide) rfl ?_
      exact j_lp (Lf := fun x => [(0, .ref (gA g 0)), (1, .int v1), (2, .int x.1)]) (Mf := fun x => x.2) (fun rc38 hc38 x => pj_X3_rains_38 X hr v1 rc38 hc38 x.1 x.2) FU (0, M_1)
    · refine j_aload_n (i := 0) X dX3_rains_30 rfl rfl ?_
      refine j_iconst (v := 4) X dX3_rains_31 rfl ?_
      refine k_cVI (As := [.int 4]) (rest := []) (by decide) (cf_hd _) rfl X (ct_X3_finding l g 4 M_1) wl_X3_44 rfl rfl (by decide) (Nat.le_of_ble_eq_true rfl) dX3_rains_32 (fun r_8 M_7 => ?_)
      exact j_iret X hr dX3_rains_35
  · refine j_aload_n (i := 0) X dX3_rains_10 rfl rfl ?_
    refine j_iconst (v := 0) X dX3_rains_11 rfl ?_
    refine k_cVI (As := [.int 0]) (rest := []) (by decide) (cf_hd _) rfl X (ct_X3_finding l g 0 M_1) wl_X3_44 rfl rfl (by decide) (Nat.le_of_ble_eq_true rfl) dX3_rains_12 (fun r_10 M_9 => ?_)
    exact j_iret X hr dX3_rains_15
def mi_X3_rains (v1 : Int32) (M : Mem) : Option (Int32 × Mem) := pi_X3_rains_e v1 M
theorem ct_X3_rains (l : Launch) (g : Gh) (v1 : Int32) (M : Mem) : CtI l g yX3_rains cX3_rains 3 (some (.int)) 5 [.ref (gA g 0), .int v1] M (mi_X3_rains v1 M) := ctI_of (own := RX3) (L := [(0, .ref (gA g 0)), (1, .int v1)]) (by decide +kernel) rfl (Nat.le_of_ble_eq_true rfl) rfl (fun p e s m args below meth c X hr => pj_X3_rains_e X hr v1  M)
