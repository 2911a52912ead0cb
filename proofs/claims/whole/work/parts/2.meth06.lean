def pi_X3_now_e (v1 : Int32) (M : Mem) : Option (Int32 × Mem) := swc v1 [(0, some (M 1 1, M)), (1, bd (mi_X2_heightOfAll 1 M) fun r_2 M_1 => some (r_2, M_1)), (2, bd (mi_X2_meeting 1 M) fun r_4 M_3 => some (r_4, M_3)), (3, bd (mi_X2_valleysStoodAt 1 M) fun r_6 M_5 => some (r_6, M_5)), (4, bd (mi_X2_valleysFaced 1 M) fun r_8 M_7 => some (r_8, M_7)), (5, bd (mi_X2_bowedOfAll 1 M) fun r_10 M_9 => some (r_10, M_9))] (bd (mi_X3_finding 0 M) fun r_12 M_11 => some (r_12, M_11))
set_option maxRecDepth 100000 in
set_option maxHeartbeats 4000000 in
theorem pj_X3_now_e {p : Program} {l : Launch} {e : Env} {R : Room} {s : State} {m : MethodId} {args : Array Value} {below : List Frame} {meth : Method} {c : Code} {g : Gh} (X : Cx p l e R s m args below meth c g cX3_now 2 (0, 0) RX3 2) (hr : meth.sig.returnType = (some (.int))) (v1 : Int32) (M : Mem) : J p l e R s m args below meth c g 2 (0, 0) (QfI below args s g) (pi_X3_now_e v1 M) M 0 [(0, .ref (gA g 0)), (1, .int v1)] [] := by
  unfold pi_X3_now_e
  refine j_iload_n (i := 1) X dX3_now_0 rfl rfl ?_
  refine j_tsw [0, 1, 2, 3, 4, 5] [40, 48, 56, 64, 72, 80] (dt := 88) X dX3_now_1 rfl (by decide +kernel) (by decide +kernel) (by decide) ⟨?_, ?_, ?_, ?_, ?_, ?_, trivial⟩ ?_
  · refine j_aload_n (i := 0) X dX3_now_40 rfl rfl ?_
    refine j_get_hd 0 X (by decide) wq_172 rfl dX3_now_41 ?_
    refine j_getN_sh sh_1 1 X (by decide) (by decide +kernel) rfl dX3_now_44 ?_
    exact j_iret X hr dX3_now_47
  · refine j_aload_n (i := 0) X dX3_now_48 rfl rfl ?_
    refine j_get_hd 0 X (by decide) wq_172 rfl dX3_now_49 ?_
    refine k_cVI (As := []) (rest := []) sh_1.lt (cf_sh sh_1 _) rfl X (ct_X2_heightOfAll l g 1 sh_1 M) wl_X3_118 rfl rfl (by decide) (Nat.le_of_ble_eq_true rfl) dX3_now_52 (fun r_2 M_1 => ?_)
    exact j_iret X hr dX3_now_55
  · refine j_aload_n (i := 0) X dX3_now_56 rfl rfl ?_
    refine j_get_hd 0 X (by decide) wq_172 rfl dX3_now_57 ?_
    refine k_cVI (As := []) (rest := []) sh_1.lt (cf_sh sh_1 _) rfl X (ct_X2_meeting l g 1 sh_1 M) wl_X3_109 rfl rfl (by decide) (Nat.le_of_ble_eq_true rfl) dX3_now_60 (fun r_4 M_3 => ?_)
    exact j_iret X hr dX3_now_63
  · refine j_aload_n (i := 0) X dX3_now_64 rfl rfl ?_
    refine j_get_hd 0 X (by decide) wq_172 rfl dX3_now_65 ?_
    refine k_cVI (As := []) (rest := []) sh_1.lt (cf_sh sh_1 _) rfl X (ct_X2_valleysStoodAt l g 1 sh_1 M) wl_X3_121 rfl rfl (by decide) (Nat.le_of_ble_eq_true rfl) dX3_now_68 (fun r_6 M_5 => ?_)
    exact j_iret X hr dX3_now_71
  · refine j_aload_n (i := 0) X dX3_now_72 rfl rfl ?_
    refine j_get_hd 0 X (by decide) wq_172 rfl dX3_now_73 ?_
    refine k_cVI (As := []) (rest := []) sh_1.lt (cf_sh sh_1 _) rfl X (ct_X2_valleysFaced l g 1 sh_1 M) wl_X3_124 rfl rfl (by decide) (Nat.le_of_ble_eq_true rfl) dX3_now_76 (fun r_8 M_7 => ?_)
    exact j_iret X hr dX3_now_79
  · refine j_aload_n (i := 0) X dX3_now_80 rfl rfl ?_
    refine j_get_hd 0 X (by decide) wq_172 rfl dX3_now_81 ?_
    refine k_cVI (As := []) (rest := []) sh_1.lt (cf_sh sh_1 _) rfl X (ct_X2_bowedOfAll l g 1 sh_1 M) wl_X3_127 rfl rfl (by decide) (Nat.le_of_ble_eq_true rfl) dX3_now_84 (fun r_10 M_9 => ?_)
    exact j_iret X hr dX3_now_87
  · refine j_aload_n (i := 0) X dX3_now_88 rfl rfl ?_
    refine j_iconst (v := 0) X dX3_now_89 rfl ?_
    refine k_cVI (As := [.int 0]) (rest := []) (by decide) (cf_hd _) rfl X (ct_X3_finding l g 0 M) wl_X3_44 rfl rfl (by decide) (Nat.le_of_ble_eq_true rfl) dX3_now_90 (fun r_12 M_11 => ?_)
    exact j_iret X hr dX3_now_93
def mi_X3_now (v1 : Int32) (M : Mem) : Option (Int32 × Mem) := pi_X3_now_e v1 M
theorem ct_X3_now (l : Launch) (g : Gh) (v1 : Int32) (M : Mem) : CtI l g yX3_now cX3_now 2 (some (.int)) 2 [.ref (gA g 0), .int v1] M (mi_X3_now v1 M) := ctI_of (own := RX3) (L := [(0, .ref (gA g 0)), (1, .int v1)]) (by decide +kernel) rfl (Nat.le_of_ble_eq_true rfl) rfl (fun p e s m args below meth c X hr => pj_X3_now_e X hr v1  M)

def pi_X3_isForetold_e (v0 : Int32) (M : Mem) : Option (Int32 × Mem) := if v0 = 1 then (gd (isB 1) (some (1, M))) else (bd (mi_X3_isOutside v0 3 6 M) fun r_2 M_1 => if r_2 = 0 then (gd (isB 1) (some (1, M_1))) else (gd (isB 0) (some (0, M_1))))
set_option maxRecDepth 100000 in
set_option maxHeartbeats 4000000 in
theorem pj_X3_isForetold_e {p : Program} {l : Launch} {e : Env} {R : Room} {s : State} {m : MethodId} {args : Array Value} {below : List Frame} {meth : Method} {c : Code} {g : Gh} (X : Cx p l e R s m args below meth c g cX3_isForetold 1 (0, 0) RX3 1) (hr : meth.sig.returnType = (some (.boolean))) (v0 : Int32) (M : Mem) : J p l e R s m args below meth c g 1 (0, 0) (QfI below args s g) (pi_X3_isForetold_e v0 M) M 0 [(0, .int v0)] [] := by
  unfold pi_X3_isForetold_e
  refine j_iload_n (i := 0) X dX3_isForetold_0 rfl rfl ?_
  refine j_iconst (v := 1) X dX3_isForetold_1 rfl ?_
  refine j_icmp_eq (tgt := 15) X dX3_isForetold_2 (by decide) ?_ ?_
  · refine j_iconst (v := 1) X dX3_isForetold_15 rfl ?_
    refine j_goto (tgt := 20) X dX3_isForetold_16 (by decide) ?_
    exact j_zret X hr dX3_isForetold_20
  · refine j_iload_n (i := 0) X dX3_isForetold_5 rfl rfl ?_
    refine j_iconst (v := 3) X dX3_isForetold_6 rfl ?_
    refine j_bipush (v := 6) X dX3_isForetold_7 rfl ?_
    refine k_cSI (As := [.int v0, .int 3, .int 6]) (rest := []) X (ct_X3_isOutside l g v0 3 6 M) wl_X3_40 rfl rfl (by decide) (Nat.le_of_ble_eq_true rfl) dX3_isForetold_9 (fun r_2 M_1 => ?_)
    refine j_if_ne (tgt := 19) X dX3_isForetold_12 (by decide) ?_ ?_
    · refine j_iconst (v := 1) X dX3_isForetold_15 rfl ?_
      refine j_goto (tgt := 20) X dX3_isForetold_16 (by decide) ?_
      exact j_zret X hr dX3_isForetold_20
    · refine j_iconst (v := 0) X dX3_isForetold_19 rfl ?_
      exact j_zret X hr dX3_isForetold_20
def mi_X3_isForetold (v0 : Int32) (M : Mem) : Option (Int32 × Mem) := pi_X3_isForetold_e v0 M
theorem ct_X3_isForetold (l : Launch) (g : Gh) (v0 : Int32) (M : Mem) : CtI l g yX3_isForetold cX3_isForetold 1 (some (.boolean)) 1 [.int v0] M (mi_X3_isForetold v0 M) := ctI_of (own := RX3) (L := [(0, .int v0)]) (by decide +kernel) rfl (Nat.le_of_ble_eq_true rfl) rfl (fun p e s m args below meth c X hr => pj_X3_isForetold_e X hr v0  M)

def pi_X3_ahead_28 (v1 : Int32) (v2 : Int32) (v3 : Int32) (M : Mem) : Option (Int32 × Mem) := bd (mi_X3_finding 0 M) fun r_6 M_5 => some (r_6, M_5)
set_option maxRecDepth 100000 in
set_option maxHeartbeats 4000000 in
theorem pj_X3_ahead_28 {p : Program} {l : Launch} {e : Env} {R : Room} {s : State} {m : MethodId} {args : Array Value} {below : List Frame} {meth : Method} {c : Code} {g : Gh} (X : Cx p l e R s m args below meth c g cX3_ahead 4 (0, 0) RX3 5) (hr : meth.sig.returnType = (some (.int))) (v1 : Int32) (v2 : Int32) (v3 : Int32) (M : Mem) : J p l e R s m args below meth c g 4 (0, 0) (QfI below args s g) (pi_X3_ahead_28 v1 v2 v3 M) M 28 [(0, .ref (gA g 0)), (1, .int v1), (2, .int v2), (3, .int v3)] [] := by
  unfold pi_X3_ahead_28
  refine j_aload_n (i := 0) X dX3_ahead_28 rfl rfl ?_
  refine j_iconst (v := 0) X dX3_ahead_29 rfl ?_
  refine k_cVI (As := [.int 0]) (rest := []) (by decide) (cf_hd _) rfl X (ct_X3_finding l g 0 M) wl_X3_44 rfl rfl (by decide) (Nat.le_of_ble_eq_true rfl) dX3_ahead_30 (fun r_6 M_5 => ?_)
  exact j_iret X hr dX3_ahead_33
def pi_X3_ahead_e (v1 : Int32) (v2 : Int32) (v3 : Int32) (M : Mem) : Option (Int32 × Mem) := bd (mi_X2_lacks 1 v1 M) fun r_2 M_1 => if r_2 = 0 then (bd (mi_X3_isForetold v2 M_1) fun r_4 M_3 => if r_4 = 0 then (pi_X3_ahead_28 v1 v2 v3 M_3) else (bd (mi_X3_isOutside v3 0 100 M_3) fun r_8 M_7 => if r_8 = 0 then (bv (mi_X2_become 13 1 M_7) fun M_9 => bv (mi_X2_passAges 13 v3 M_9) fun M_10 => bd (mi_X2_trait 13 v1 v2 M_10) fun r_12 M_11 => some (r_12, M_11)) else (pi_X3_ahead_28 v1 v2 v3 M_7))) else (pi_X3_ahead_28 v1 v2 v3 M_1)
set_option maxRecDepth 100000 in
set_option maxHeartbeats 4000000 in
theorem pj_X3_ahead_e {p : Program} {l : Launch} {e : Env} {R : Room} {s : State} {m : MethodId} {args : Array Value} {below : List Frame} {meth : Method} {c : Code} {g : Gh} (X : Cx p l e R s m args below meth c g cX3_ahead 4 (0, 0) RX3 5) (hr : meth.sig.returnType = (some (.int))) (v1 : Int32) (v2 : Int32) (v3 : Int32) (M : Mem) : J p l e R s m args below meth c g 4 (0, 0) (QfI below args s g) (pi_X3_ahead_e v1 v2 v3 M) M 0 [(0, .ref (gA g 0)), (1, .int v1), (2, .int v2), (3, .int v3)] [] := by
  unfold pi_X3_ahead_e
  refine j_aload_n (i := 0) X dX3_ahead_0 rfl rfl ?_
  refine j_get_hd 0 X (by decide) wq_172 rfl dX3_ahead_1 ?_
  refine j_iload_n (i := 1) X dX3_ahead_4 rfl rfl ?_
  refine k_cVI (As := [.int v1]) (rest := []) sh_1.lt (cf_sh sh_1 _) rfl X (ct_X2_lacks l g 1 v1 sh_1 M) wl_X3_64 rfl rfl (by decide) (Nat.le_of_ble_eq_true rfl) dX3_ahead_5 (fun r_2 M_1 => ?_)
  refine j_if_ne (tgt := 28) X dX3_ahead_8 (by decide) ?_ ?_
  · refine j_iload_n (i := 2) X dX3_ahead_11 rfl rfl ?_
    refine k_cSI (As := [.int v2]) (rest := []) X (ct_X3_isForetold l g v2 M_1) wl_X3_130 rfl rfl (by decide) (Nat.le_of_ble_eq_true rfl) dX3_ahead_12 (fun r_4 M_3 => ?_)
    refine j_if_eq (tgt := 28) X dX3_ahead_15 (by decide) ?_ ?_
    · exact pj_X3_ahead_28 X hr v1 v2 v3 M_3
    · refine j_iload_n (i := 3) X dX3_ahead_18 rfl rfl ?_
      refine j_iconst (v := 0) X dX3_ahead_19 rfl ?_
      refine j_bipush (v := 100) X dX3_ahead_20 rfl ?_
      refine k_cSI (As := [.int v3, .int 0, .int 100]) (rest := []) X (ct_X3_isOutside l g v3 0 100 M_3) wl_X3_40 rfl rfl (by decide) (Nat.le_of_ble_eq_true rfl) dX3_ahead_22 (fun r_8 M_7 => ?_)
      refine j_if_eq (tgt := 34) X dX3_ahead_25 (by decide) ?_ ?_
      · refine j_aload_n (i := 0) X dX3_ahead_34 rfl rfl ?_
        refine j_get_hd 1 X (by decide) wq_240 rfl dX3_ahead_35 ?_
        refine j_aload_n (i := 0) X dX3_ahead_38 rfl rfl ?_
        refine j_get_hd 0 X (by decide) wq_172 rfl dX3_ahead_39 ?_
        refine k_cVV (As := [.ref (gA g 1)]) (rest := []) sh_13.lt (cf_sh sh_13 _) rfl X (ct_X2_become l g 13 1 sh_13 sh_1 M_7) wl_X3_133 rfl rfl (by decide) (Nat.le_of_ble_eq_true rfl) dX3_ahead_42 (fun M_9 => ?_)
        refine j_aload_n (i := 0) X dX3_ahead_45 rfl rfl ?_
        refine j_get_hd 1 X (by decide) wq_240 rfl dX3_ahead_46 ?_
        refine j_iload_n (i := 3) X dX3_ahead_49 rfl rfl ?_
        refine k_cVV (As := [.int v3]) (rest := []) sh_13.lt (cf_sh sh_13 _) rfl X (ct_X2_passAges l g 13 v3 sh_13 M_9) wl_X3_105 rfl rfl (by decide) (Nat.le_of_ble_eq_true rfl) dX3_ahead_50 (fun M_10 => ?_)
        refine j_aload_n (i := 0) X dX3_ahead_53 rfl rfl ?_
        refine j_get_hd 1 X (by decide) wq_240 rfl dX3_ahead_54 ?_
        refine j_iload_n (i := 1) X dX3_ahead_57 rfl rfl ?_
        refine j_iload_n (i := 2) X dX3_ahead_58 rfl rfl ?_
        refine k_cVI (As := [.int v1, .int v2]) (rest := []) sh_13.lt (cf_sh sh_13 _) rfl X (ct_X2_trait l g 13 v1 v2 sh_13 M_10) wl_X3_79 rfl rfl (by decide) (Nat.le_of_ble_eq_true rfl) dX3_ahead_59 (fun r_12 M_11 => ?_)
        exact j_iret X hr dX3_ahead_62
      · exact pj_X3_ahead_28 X hr v1 v2 v3 M_7
  · exact pj_X3_ahead_28 X hr v1 v2 v3 M_1
def mi_X3_ahead (v1 : Int32) (v2 : Int32) (v3 : Int32) (M : Mem) : Option (Int32 × Mem) := pi_X3_ahead_e v1 v2 v3 M
theorem ct_X3_ahead (l : Launch) (g : Gh) (v1 : Int32) (v2 : Int32) (v3 : Int32) (M : Mem) : CtI l g yX3_ahead cX3_ahead 4 (some (.int)) 5 [.ref (gA g 0), .int v1, .int v2, .int v3] M (mi_X3_ahead v1 v2 v3 M) := ctI_of (own := RX3) (L := [(0, .ref (gA g 0)), (1, .int v1), (2, .int v2), (3, .int v3)]) (by decide +kernel) rfl (Nat.le_of_ble_eq_true rfl) rfl (fun p e s m args below meth c X hr => pj_X3_ahead_e X hr v1 v2 v3  M)

def pi_X3_when_37 (v1 : Int32) (v2 : Int32) (rc37 : Int32 × Mem → Option (Int32 × Mem)) (v3 : Int32) (M : Mem) : Option (Int32 × Mem) := if 200 < v3 then (bd (mi_X3_finding 3 M) fun r_7 M_6 => some (r_7, M_6)) else (bd (mi_X2_facedBy 13 v1 M) fun r_9 M_8 => if r_9 = v2 then (some (v3, M_8)) else (bv (mi_X2_passAge 13 M_8) fun M_10 => bI (v3 + 1) fun v3_11 => rc37 (v3_11, M_10)))
set_option maxRecDepth 100000 in
set_option maxHeartbeats 4000000 in
theorem pj_X3_when_37 {p : Program} {l : Launch} {e : Env} {R : Room} {s : State} {m : MethodId} {args : Array Value} {below : List Frame} {meth : Method} {c : Code} {g : Gh} (X : Cx p l e R s m args below meth c g cX3_when 4 (0, 0) RX3 4) (hr : meth.sig.returnType = (some (.int))) (v1 : Int32) (v2 : Int32) (rc37 : Int32 × Mem → Option (Int32 × Mem)) (hc37 : ∀ x, J p l e R s m args below meth c g 4 (0, 0) (QfI below args s g) (rc37 x) x.2 37 [(0, .ref (gA g 0)), (1, .int v1), (2, .int v2), (3, .int x.1)] []) (v3 : Int32) (M : Mem) : J p l e R s m args below meth c g 4 (0, 0) (QfI below args s g) (pi_X3_when_37 v1 v2 rc37 v3 M) M 37 [(0, .ref (gA g 0)), (1, .int v1), (2, .int v2), (3, .int v3)] [] := by
  unfold pi_X3_when_37
  refine j_iload_n (i := 3) X dX3_when_37 rfl rfl ?_
  refine j_sipush (v := 200) X dX3_when_38 rfl ?_
  refine j_icmp_gt (tgt := 71) X dX3_when_41 (by decide) ?_ ?_
  · refine j_aload_n (i := 0) X dX3_when_71 rfl rfl ?_
    refine j_iconst (v := 3) X dX3_when_72 rfl ?_
    refine k_cVI (As := [.int 3]) (rest := []) (by decide) (cf_hd _) rfl X (ct_X3_finding l g 3 M) wl_X3_44 rfl rfl (by decide) (Nat.le_of_ble_eq_true rfl) dX3_when_73 (fun r_7 M_6 => ?_)
    exact j_iret X hr dX3_when_76
  · refine j_aload_n (i := 0) X dX3_when_44 rfl rfl ?_
    refine j_get_hd 1 X (by decide) wq_240 rfl dX3_when_45 ?_
    refine j_iload_n (i := 1) X dX3_when_48 rfl rfl ?_
    refine k_cVI (As := [.int v1]) (rest := []) sh_13.lt (cf_sh sh_13 _) rfl X (ct_X2_facedBy l g 13 v1 sh_13 M) wl_X3_137 rfl rfl (by decide) (Nat.le_of_ble_eq_true rfl) dX3_when_49 (fun r_9 M_8 => ?_)
    refine j_iload_n (i := 2) X dX3_when_52 rfl rfl ?_
    refine j_icmp_ne (tgt := 58) X dX3_when_53 (by decide) ?_ ?_
    · refine j_iload_n (i := 3) X dX3_when_56 rfl rfl ?_
      exact j_iret X hr dX3_when_57
    · refine j_aload_n (i := 0) X dX3_when_58 rfl rfl ?_
      refine j_get_hd 1 X (by decide) wq_240 rfl dX3_when_59 ?_
      refine k_cVV (As := []) (rest := []) sh_13.lt (cf_sh sh_13 _) rfl X (ct_X2_passAge l g 13 sh_13 M_8) wl_X3_140 rfl rfl (by decide) (Nat.le_of_ble_eq_true rfl) dX3_when_62 (fun M_10 => ?_)
      refine j_iincB (i := 3) (y := v3 + 1) (Lf := fun v3_11 => [(0, .ref (gA g 0)), (1, .int v1), (2, .int v2), (3, .int v3_11)]) X dX3_when_65 rfl rfl (by decide) (fun _ => rfl) (fun v3_11 => ?_)
      refine j_goto (tgt := 37) X dX3_when_68 (by decide) ?_
      exact hc37 (v3_11, M_10)
def pi_X3_when_18 (v1 : Int32) (v2 : Int32) (M : Mem) : Option (Int32 × Mem) := bd (mi_X3_finding 0 M) fun r_13 M_12 => some (r_13, M_12)
set_option maxRecDepth 100000 in
set_option maxHeartbeats 4000000 in
theorem pj_X3_when_18 {p : Program} {l : Launch} {e : Env} {R : Room} {s : State} {m : MethodId} {args : Array Value} {below : List Frame} {meth : Method} {c : Code} {g : Gh} (X : Cx p l e R s m args below meth c g cX3_when 4 (0, 0) RX3 4) (hr : meth.sig.returnType = (some (.int))) (v1 : Int32) (v2 : Int32) (M : Mem) : J p l e R s m args below meth c g 4 (0, 0) (QfI below args s g) (pi_X3_when_18 v1 v2 M) M 18 [(0, .ref (gA g 0)), (1, .int v1), (2, .int v2)] [] := by
  unfold pi_X3_when_18
  refine j_aload_n (i := 0) X dX3_when_18 rfl rfl ?_
  refine j_iconst (v := 0) X dX3_when_19 rfl ?_
  refine k_cVI (As := [.int 0]) (rest := []) (by decide) (cf_hd _) rfl X (ct_X3_finding l g 0 M) wl_X3_44 rfl rfl (by decide) (Nat.le_of_ble_eq_true rfl) dX3_when_20 (fun r_13 M_12 => ?_)
  exact j_iret X hr dX3_when_23
def pi_X3_when_e (v1 : Int32) (v2 : Int32) (M : Mem) : Option (Int32 × Mem) := bd (mi_X2_lacks 1 v1 M) fun r_2 M_1 => if r_2 = 0 then (bd (mi_X3_isNoValley v2 M_1) fun r_4 M_3 => if r_4 = 0 then (bv (mi_X2_become 13 1 M_3) fun M_5 => lp (fun rc37 x => pi_X3_when_37 v1 v2 rc37 x.1 x.2) FU (0, M_5)) else (pi_X3_when_18 v1 v2 M_3)) else (pi_X3_when_18 v1 v2 M_1)
set_option maxRecDepth 100000 in
set_option maxHeartbeats 4000000 in
theorem pj_X3_when_e {p : Program} {l : Launch} {e : Env} {R : Room} {s : State} {m : MethodId} {args : Array Value} {below : List Frame} {meth : Method} {c : Code} {g : Gh} (X : Cx p l e R s m args below meth c g cX3_when 4 (0, 0) RX3 4) (hr : meth.sig.returnType = (some (.int))) (v1 : Int32) (v2 : Int32) (M : Mem) : J p l e R s m args below meth c g 4 (0, 0) (QfI below args s g) (pi_X3_when_e v1 v2 M) M 0 [(0, .ref (gA g 0)), (1, .int v1), (2, .int v2)] [] := by
  unfold pi_X3_when_e
  refine j_aload_n (i := 0) X dX3_when_0 rfl rfl ?_
  refine j_get_hd 0 X (by decide) wq_172 rfl dX3_when_1 ?_
  refine j_iload_n (i := 1) X dX3_when_4 rfl rfl ?_
  refine k_cVI (As := [.int v1]) (rest := []) sh_1.lt (cf_sh sh_1 _) rfl X (ct_X2_lacks l g 1 v1 sh_1 M) wl_X3_64 rfl rfl (by decide) (Nat.le_of_ble_eq_true rfl) dX3_when_5 (fun r_2 M_1 => ?_)
  refine j_if_ne (tgt := 18) X dX3_when_8 (by decide) ?_ ?_
  · refine j_iload_n (i := 2) X dX3_when_11 rfl rfl ?_
    refine k_cSI (As := [.int v2]) (rest := []) X (ct_X3_isNoValley l g v2 M_1) wl_X3_52 rfl rfl (by decide) (Nat.le_of_ble_eq_true rfl) dX3_when_12 (fun r_4 M_3 => ?_)
    refine j_if_eq (tgt := 24) X dX3_when_15 (by decide) ?_ ?_
    · refine j_aload_n (i := 0) X dX3_when_24 rfl rfl ?_
      refine j_get_hd 1 X (by decide) wq_240 rfl dX3_when_25 ?_
      refine j_aload_n (i := 0) X dX3_when_28 rfl rfl ?_
      refine j_get_hd 0 X (by decide) wq_172 rfl dX3_when_29 ?_
      refine k_cVV (As := [.ref (gA g 1)]) (rest := []) sh_13.lt (cf_sh sh_13 _) rfl X (ct_X2_become l g 13 1 sh_13 sh_1 M_3) wl_X3_133 rfl rfl (by decide) (Nat.le_of_ble_eq_true rfl) dX3_when_32 (fun M_5 => ?_)
      refine j_iconst (v := 0) X dX3_when_35 rfl ?_
      refine j_istore_n (i := 3) (Lq := [(0, .ref (gA g 0)), (1, .int v1), (2, .int v2), (3, .int 0)]) X dX3_when_36 rfl (by decide) rfl ?_
      exact j_lp (Lf := fun x => [(0, .ref (gA g 0)), (1, .int v1), (2, .int v2), (3, .int x.1)]) (Mf := fun x => x.2) (fun rc37 hc37 x => pj_X3_when_37 X hr v1 v2 rc37 hc37 x.1 x.2) FU (0, M_5)
    · exact pj_X3_when_18 X hr v1 v2 M_3
  · exact pj_X3_when_18 X hr v1 v2 M_1
def mi_X3_when (v1 : Int32) (v2 : Int32) (M : Mem) : Option (Int32 × Mem) := pi_X3_when_e v1 v2 M
theorem ct_X3_when (l : Launch) (g : Gh) (v1 : Int32) (v2 : Int32) (M : Mem) : CtI l g yX3_when cX3_when 4 (some (.int)) 4 [.ref (gA g 0), .int v1, .int v2] M (mi_X3_when v1 v2 M) := ctI_of (own := RX3) (L := [(0, .ref (gA g 0)), (1, .int v1), (2, .int v2)]) (by decide +kernel) rfl (Nat.le_of_ble_eq_true rfl) rfl (fun p e s m args below meth c X hr => pj_X3_when_e X hr v1 v2  M)

def pi_X3_agesUntilMeeting_3 (v1 : Int32) (v2 : Int32) (v3 : Int32) (rc3 : Int32 × Mem → Option (Int32 × Mem)) (v4 : Int32) (M : Mem) : Option (Int32 × Mem) := if v3 < v4 then (some ((-1), M)) else (bd (mi_X2_meetsOf 13 v1 M) fun r_2 M_1 => if ((r_2 >>> (v2 &&& 31)) &&& 1) = 0 then (bv (mi_X2_passAge 13 M_1) fun M_3 => bI (v4 + 1) fun v4_4 => rc3 (v4_4, M_3)) else (some (v4, M_1)))
set_option maxRecDepth 100000 in
set_option maxHeartbeats 4000000 in
theorem pj_X3_agesUntilMeeting_3 {p : Program} {l : Launch} {e : Env} {R : Room} {s : State} {m : MethodId} {args : Array Value} {below : List Frame} {meth : Method} {c : Code} {g : Gh} (X : Cx p l e R s m args below meth c g cX3_agesUntilMeeting 5 (0, 0) RX3 4) (hr : meth.sig.returnType = (some (.int))) (v1 : Int32) (v2 : Int32) (v3 : Int32) (rc3 : Int32 × Mem → Option (Int32 × Mem)) (hc3 : ∀ x, J p l e R s m args below meth c g 5 (0, 0) (QfI below args s g) (rc3 x) x.2 3 [(0, .ref (gA g 0)), (1, .int v1), (2, .int v2), (3, .int v3), (4, .int x.1)] []) (v4 : Int32) (M : Mem) : J p l e R s m args below meth c g 5 (0, 0) (QfI below args s g) (pi_X3_agesUntilMeeting_3 v1 v2 v3 rc3 v4 M) M 3 [(0, .ref (gA g 0)), (1, .int v1), (2, .int v2), (3, .int v3), (4, .int v4)] [] := by
  unfold pi_X3_agesUntilMeeting_3
  refine j_iload (i := 4) X dX3_agesUntilMeeting_3 rfl ?_
  refine j_iload_n (i := 3) X dX3_agesUntilMeeting_5 rfl rfl ?_
  refine j_icmp_gt (tgt := 40) X dX3_agesUntilMeeting_6 (by decide) ?_ ?_
  · refine j_iconst (v := (-1)) X dX3_agesUntilMeeting_40 rfl ?_
    exact j_iret X hr dX3_agesUntilMeeting_41
  · refine j_aload_n (i := 0) X dX3_agesUntilMeeting_9 rfl rfl ?_
    refine j_get_hd 1 X (by decide) wq_240 rfl dX3_agesUntilMeeting_10 ?_
    refine j_iload_n (i := 1) X dX3_agesUntilMeeting_13 rfl rfl ?_
    refine k_cVI (As := [.int v1]) (rest := []) sh_13.lt (cf_sh sh_13 _) rfl X (ct_X2_meetsOf l g 13 v1 sh_13 M) wl_X3_76 rfl rfl (by decide) (Nat.le_of_ble_eq_true rfl) dX3_agesUntilMeeting_14 (fun r_2 M_1 => ?_)
    refine j_iload_n (i := 2) X dX3_agesUntilMeeting_17 rfl rfl ?_
    refine j_ishr X dX3_agesUntilMeeting_18 ?_
    refine j_iconst (v := 1) X dX3_agesUntilMeeting_19 rfl ?_
    refine j_iand X dX3_agesUntilMeeting_20 ?_
    refine j_if_eq (tgt := 27) X dX3_agesUntilMeeting_21 (by decide) ?_ ?_
    · refine j_aload_n (i := 0) X dX3_agesUntilMeeting_27 rfl rfl ?_
      refine j_get_hd 1 X (by decide) wq_240 rfl dX3_agesUntilMeeting_28 ?_
      refine k_cVV (As := []) (rest := []) sh_13.lt (cf_sh sh_13 _) rfl X (ct_X2_passAge l g 13 sh_13 M_1) wl_X3_140 rfl rfl (by decide) (Nat.le_of_ble_eq_true rfl) dX3_agesUntilMeeting_31 (fun M_3 => ?_)
      refine j_iincB (i := 4) (y := v4 + 1) (Lf := fun v4_4 => [(0, .ref (gA g 0)), (1, .int v1), (2, .int v2), (3, .int v3), (4, .int v4_4)]) X dX3_agesUntilMeeting_34 rfl rfl (by decide) (fun _ => rfl) (fun v4_4 => ?_)
      refine j_goto (tgt := 3) X dX3_agesUntilMeeting_37 (by decide) ?_
      exact hc3 (v4_4, M_3)
    · refine j_iload (i := 4) X dX3_agesUntilMeeting_24 rfl ?_
      exact j_iret X hr dX3_agesUntilMeeting_26
def pi_X3_agesUntilMeeting_e (v1 : Int32) (v2 : Int32) (v3 : Int32) (M : Mem) : Option (Int32 × Mem) := lp (fun rc3 x => pi_X3_agesUntilMeeting_3 v1 v2 v3 rc3 x.1 x.2) FU (0, M)
set_option maxRecDepth 100000 in
set_option maxHeartbeats 4000000 in
theorem pj_X3_agesUntilMeeting_e {p : Program} {l : Launch} {e : Env} {R : Room} {s : State} {m : MethodId} {args : Array Value} {below : List Frame} {meth : Method} {c : Code} {g : Gh} (X : Cx p l e R s m args below meth c g cX3_agesUntilMeeting 5 (0, 0) RX3 4) (hr : meth.sig.returnType = (some (.int))) (v1 : Int32) (v2 : Int32) (v3 : Int32) (M : Mem) : J p l e R s m args below meth c g 5 (0, 0) (QfI below args s g) (pi_X3_agesUntilMeeting_e v1 v2 v3 M) M 0 [(0, .ref (gA g 0)), (1, .int v1), (2, .int v2), (3, .int v3)] [] := by
  unfold pi_X3_agesUntilMeeting_e
  refine j_iconst (v := 0) X dX3_agesUntilMeeting_0 rfl ?_
  refine j_istore (i := 4) (Lq := [(0, .ref (gA g 0)), (1, .int v1), (2, .int v2), (3, .int v3), (4, .int 0)]) X dX3_agesUntilMeeting_1 (by decide) rfl ?_
  exact j_lp (Lf := fun x => [(0, .ref (gA g 0)), (1, .int v1), (2, .int v2), (3, .int v3), (4, .int x.1)]) (Mf := fun x => x.2) (fun rc3 hc3 x => pj_X3_agesUntilMeeting_3 X hr v1 v2 v3 rc3 hc3 x.1 x.2) FU (0, M)
def mi_X3_agesUntilMeeting (v1 : Int32) (v2 : Int32) (v3 : Int32) (M : Mem) : Option (Int32 × Mem) := pi_X3_agesUntilMeeting_e v1 v2 v3 M
theorem ct_X3_agesUntilMeeting (l : Launch) (g : Gh) (v1 : Int32) (v2 : Int32) (v3 : Int32) (M : Mem) : CtI l g yX3_agesUntilMeeting cX3_agesUntilMeeting 5 (some (.int)) 4 [.ref (gA g 0), .int v1, .int v2, .int v3] M (mi_X3_agesUntilMeeting v1 v2 v3 M) := ctI_of (own := RX3) (L := [(0, .ref (gA g 0)), (1, .int v1), (2, .int v2), (3, .int v3)]) (by decide +kernel) rfl (Nat.le_of_ble_eq_true rfl) rfl (fun p e s m args below meth c X hr => pj_X3_agesUntilMeeting_e X hr v1 v2 v3  M)

def pi_X3_isNoPair_e (v1 : Int32) (v2 : Int32) (M : Mem) : Option (Int32 × Mem) := bd (mi_X2_lacks 1 v1 M) fun r_2 M_1 => if r_2 = 0 then (bd (mi_X2_lacks 1 v2 M_1) fun r_4 M_3 => if r_4 = 0 then (if v1 = v2 then (gd (isB 1) (some (1, M_3))) else (gd (isB 0) (some (0, M_3)))) else (gd (isB 1) (some (1, M_3)))) else (gd (isB 1) (some (1, M_1)))
set_option maxRecDepth 100000 in
set_option maxHeartbeats 4000000 in
theorem pj_X3_isNoPair_e {p : Program} {l : Launch} {e : Env} {R : Room} {s : State} {m : MethodId} {args : Array Value} {below : List Frame} {meth : Method} {c : Code} {g : Gh} (X : Cx p l e R s m args below meth c g cX3_isNoPair 3 (0, 0) RX3 1) (hr : meth.sig.returnType = (some (.boolean))) (v1 : Int32) (v2 : Int32) (M : Mem) : J p l e R s m args below meth c g 3 (0, 0) (QfI below args s g) (pi_X3_isNoPair_e v1 v2 M) M 0 [(0, .ref (gA g 0)), (1, .int v1), (2, .int v2)] [] := by
  unfold pi_X3_isNoPair_e
  refine j_aload_n (i := 0) X dX3_isNoPair_0 rfl rfl ?_
  refine j_get_hd 0 X (by decide) wq_172 rfl dX3_isNoPair_1 ?_
  refine j_iload_n (i := 1) X dX3_isNoPair_4 rfl rfl ?_
  refine k_cVI (As := [.int v1]) (rest := []) sh_1.lt (cf_sh sh_1 _) rfl X (ct_X2_lacks l g 1 v1 sh_1 M) wl_X3_64 rfl rfl (by decide) (Nat.le_of_ble_eq_true rfl) dX3_isNoPair_5 (fun r_2 M_1 => ?_)
  refine j_if_ne (tgt := 27) X dX3_isNoPair_8 (by decide) ?_ ?_
  · refine j_aload_n (i := 0) X dX3_isNoPair_11 rfl rfl ?_
    refine j_get_hd 0 X (by decide) wq_172 rfl dX3_isNoPair_12 ?_
    refine j_iload_n (i := 2) X dX3_isNoPair_15 rfl rfl ?_
    refine k_cVI (As := [.int v2]) (rest := []) sh_1.lt (cf_sh sh_1 _) rfl X (ct_X2_lacks l g 1 v2 sh_1 M_1) wl_X3_64 rfl rfl (by decide) (Nat.le_of_ble_eq_true rfl) dX3_isNoPair_16 (fun r_4 M_3 => ?_)
    refine j_if_ne (tgt := 27) X dX3_isNoPair_19 (by decide) ?_ ?_
    · refine j_iload_n (i := 1) X dX3_isNoPair_22 rfl rfl ?_
      refine j_iload_n (i := 2) X dX3_isNoPair_23 rfl rfl ?_
      refine j_icmp_ne (tgt := 31) X dX3_isNoPair_24 (by decide) ?_ ?_
      · refine j_iconst (v := 1) X dX3_isNoPair_27 rfl ?_
        refine j_goto (tgt := 32) X dX3_isNoPair_28 (by decide) ?_
        exact j_zret X hr dX3_isNoPair_32
      · refine j_iconst (v := 0) X dX3_isNoPair_31 rfl ?_
        exact j_zret X hr dX3_isNoPair_32
    · refine j_iconst (v := 1) X dX3_isNoPair_27 rfl ?_
      refine j_goto (tgt := 32) X dX3_isNoPair_28 (by decide) ?_
      exact j_zret X hr dX3_isNoPair_32
  · refine j_iconst (v := 1) X dX3_isNoPair_27 rfl ?_
    refine j_goto (tgt := 32) X dX3_isNoPair_28 (by decide) ?_
    exact j_zret X hr dX3_isNoPair_32
def mi_X3_isNoPair (v1 : Int32) (v2 : Int32) (M : Mem) : Option (Int32 × Mem) := pi_X3_isNoPair_e v1 v2 M
theorem ct_X3_isNoPair (l : Launch) (g : Gh) (v1 : Int32) (v2 : Int32) (M : Mem) : CtI l g yX3_isNoPair cX3_isNoPair 3 (some (.boolean)) 1 [.ref (gA g 0), .int v1, .int v2] M (mi_X3_isNoPair v1 v2 M) := ctI_of (own := RX3) (L := [(0, .ref (gA g 0)), (1, .int v1), (2, .int v2)]) (by decide +kernel) rfl (Nat.le_of_ble_eq_true rfl) rfl (fun p e s m args below meth c X hr => pj_X3_isNoPair_e X hr v1 v2  M)

def pi_X3_meet_e (v1 : Int32) (v2 : Int32) (M : Mem) : Option (Int32 × Mem) := bd (mi_X3_isNoPair v1 v2 M) fun r_2 M_1 => if r_2 = 0 then (bv (mi_X2_become 13 1 M_1) fun M_3 => bd (mi_X3_agesUntilMeeting v1 v2 200 M_3) fun r_5 M_4 => if 0 ≤ r_5 then (some (r_5, M_4)) else (bd (mi_X3_finding 3 M_4) fun r_7 M_6 => some (r_7, M_6))) else (bd (mi_X3_finding 0 M_1) fun r_9 M_8 => some (r_9, M_8))
set_option maxRecDepth 100000 in
set_option maxHeartbeats 4000000 in
theorem pj_X3_meet_e {p : Program} {l : Launch} {e : Env} {R : Room} {s : State} {m : MethodId} {args : Array Value} {below : List Frame} {meth : Method} {c : Code} {g : Gh} (X : Cx p l e R s m args below meth c g cX3_meet 4 (0, 0) RX3 5) (hr : meth.sig.returnType = (some (.int))) (v1 : Int32) (v2 : Int32) (M : Mem) : J p l e R s m args below meth c g 4 (0, 0) (QfI below args s g) (pi_X3_meet_e v1 v2 M) M 0 [(0, .ref (gA g 0)), (1, .int v1), (2, .int v2)] [] := by
  unfold pi_X3_meet_e
  refine j_aload_n (i := 0) X dX3_meet_0 rfl rfl ?_
  refine j_iload_n (i := 1) X dX3_meet_1 rfl rfl ?_
  refine j_iload_n (i := 2) X dX3_meet_2 rfl rfl ?_
  refine k_cVI (As := [.int v1, .int v2]) (rest := []) (by decide) (cf_hd _) rfl X (ct_X3_isNoPair l g v1 v2 M) wl_X3_143 rfl rfl (by decide) (Nat.le_of_ble_eq_true rfl) dX3_meet_3 (fun r_2 M_1 => ?_)
  refine j_if_eq (tgt := 15) X dX3_meet_6 (by decide) ?_ ?_
  · refine j_aload_n (i := 0) X dX3_meet_15 rfl rfl ?_
    refine j_get_hd 1 X (by decide) wq_240 rfl dX3_meet_16 ?_
    refine j_aload_n (i := 0) X dX3_meet_19 rfl rfl ?_
    refine j_get_hd 0 X (by decide) wq_172 rfl dX3_meet_20 ?_
    refine k_cVV (As := [.ref (gA g 1)]) (rest := []) sh_13.lt (cf_sh sh_13 _) rfl X (ct_X2_become l g 13 1 sh_13 sh_1 M_1) wl_X3_133 rfl rfl (by decide) (Nat.le_of_ble_eq_true rfl) dX3_meet_23 (fun M_3 => ?_)
    refine j_aload_n (i := 0) X dX3_meet_26 rfl rfl ?_
    refine j_iload_n (i := 1) X dX3_meet_27 rfl rfl ?_
    refine j_iload_n (i := 2) X dX3_meet_28 rfl rfl ?_
    refine j_sipush (v := 200) X dX3_meet_29 rfl ?_
    refine k_cVI (As := [.int v1, .int v2, .int 200]) (rest := []) (by decide) (cf_hd _) rfl X (ct_X3_agesUntilMeeting l g v1 v2 200 M_3) wl_X3_147 rfl rfl (by decide) (Nat.le_of_ble_eq_true rfl) dX3_meet_32 (fun r_5 M_4 => ?_)
    refine j_istore_n (i := 3) (Lq := [(0, .ref (gA g 0)), (1, .int v1), (2, .int v2), (3, .int r_5)]) X dX3_meet_35 rfl (by decide) rfl ?_
    refine j_iload_n (i := 3) X dX3_meet_36 rfl rfl ?_
    refine j_if_ge (tgt := 48) X dX3_meet_37 (by decide) ?_ ?_
    · refine j_iload_n (i := 3) X dX3_meet_48 rfl rfl ?_
      exact j_iret X hr dX3_meet_49
    · refine j_aload_n (i := 0) X dX3_meet_40 rfl rfl ?_
      refine j_iconst (v := 3) X dX3_meet_41 rfl ?_
      refine k_cVI (As := [.int 3]) (rest := []) (by decide) (cf_hd _) rfl X (ct_X3_finding l g 3 M_4) wl_X3_44 rfl rfl (by decide) (Nat.le_of_ble_eq_true rfl) dX3_meet_42 (fun r_7 M_6 => ?_)
      refine j_goto (tgt := 49) X dX3_meet_45 (by decide) ?_
      exact j_iret X hr dX3_meet_49
  · refine j_aload_n (i := 0) X dX3_meet_9 rfl rfl ?_
    refine j_iconst (v := 0) X dX3_meet_10 rfl ?_
    refine k_cVI (As := [.int 0]) (rest := []) (by decide) (cf_hd _) rfl X (ct_X3_finding l g 0 M_1) wl_X3_44 rfl rfl (by decide) (Nat.le_of_ble_eq_true rfl) dX3_meet_11 (fun r_9 M_8 => ?_)
    exact j_iret X hr dX3_meet_14
def mi_X3_meet (v1 : Int32) (v2 : Int32) (M : Mem) : Option (Int32 × Mem) := pi_X3_meet_e v1 v2 M
theorem ct_X3_meet (l : Launch) (g : Gh) (v1 : Int32) (v2 : Int32) (M : Mem) : CtI l g yX3_meet cX3_meet 4 (some (.int)) 5 [.ref (gA g 0), .int v1, .int v2] M (mi_X3_meet v1 v2 M) := ctI_of (own := RX3) (L := [(0, .ref (gA g 0)), (1, .int v1), (2, .int v2)]) (by decide +kernel) rfl (Nat.le_of_ble_eq_true rfl) rfl (fun p e s m args below meth c X hr => pj_X3_meet_e X hr v1 v2  M)

def pi_X3_round_13 (rc13 : Int32 × Mem → Option (Int32 × Mem)) (v1 : Int32) (M : Mem) : Option (Int32 × Mem) := if 300 < v1 then (bd (mi_X3_finding 3 M) fun r_3 M_2 => some (r_3, M_2)) else (bv (mi_X2_passAge 13 M) fun M_4 => bd (mi_X2_standsAndTurnsAs 13 1 M_4) fun r_6 M_5 => if r_6 = 0 then (bI (v1 + 1) fun v1_7 => rc13 (v1_7, M_5)) else (some (v1, M_5)))
set_option maxRecDepth 100000 in
set_option maxHeartbeats 4000000 in
theorem pj_X3_round_13 {p : Program} {l : Launch} {e : Env} {R : Room} {s : State} {m : MethodId} {args : Array Value} {below : List Frame} {meth : Method} {c : Code} {g : Gh} (X : Cx p l e R s m args below meth c g cX3_round 2 (0, 0) RX3 4) (hr : meth.sig.returnType = (some (.int))) (rc13 : Int32 × Mem → Option (Int32 × Mem)) (hc13 : ∀ x, J p l e R s m args below meth c g 2 (0, 0) (QfI below args s g) (rc13 x) x.2 13 [(0, .ref (gA g 0)), (1, .int x.1)] []) (v1 : Int32) (M : Mem) : J p l e R s m args below meth c g 2 (0, 0) (QfI below args s g) (pi_X3_round_13 rc13 v1 M) M 13 [(0, .ref (gA g 0)), (1, .int v1)] [] := by
  unfold pi_X3_round_13
  refine j_iload_n (i := 1) X dX3_round_13 rfl rfl ?_
  refine j_sipush (v := 300) X dX3_round_14 rfl ?_
  refine j_icmp_gt (tgt := 49) X dX3_round_17 (by decide) ?_ ?_
  · refine j_aload_n (i := 0) X dX3_round_49 rfl rfl ?_
    refine j_iconst (v := 3) X dX3_round_50 rfl ?_
    refine k_cVI (As := [.int 3]) (rest := []) (by decide) (cf_hd _) rfl X (ct_X3_finding l g 3 M) wl_X3_44 rfl rfl (by decide) (Nat.le_of_ble_eq_true rfl) dX3_round_51 (fun r_3 M_2 => ?_)
    exact j_iret X hr dX3_round_54
  · refine j_aload_n (i := 0) X dX3_round_20 rfl rfl ?_
    refine j_get_hd 1 X (by decide) wq_240 rfl dX3_round_21 ?_
    refine k_cVV (As := []) (rest := []) sh_13.lt (cf_sh sh_13 _) rfl X (ct_X2_passAge l g 13 sh_13 M) wl_X3_140 rfl rfl (by decide) (Nat.le_of_ble_eq_true rfl) dX3_round_24 (fun M_4 => ?_)
    refine j_aload_n (i := 0) X dX3_round_27 rfl rfl ?_
    refine j_get_hd 1 X (by decide) wq_240 rfl dX3_round_28 ?_
    refine j_aload_n (i := 0) X dX3_round_31 rfl rfl ?_
    refine j_get_hd 0 X (by decide) wq_172 rfl dX3_round_32 ?_
    refine k_cVI (As := [.ref (gA g 1)]) (rest := []) sh_13.lt (cf_sh sh_13 _) rfl X (ct_X2_standsAndTurnsAs l g 13 1 sh_13 sh_1 M_4) wl_X3_151 rfl rfl (by decide) (Nat.le_of_ble_eq_true rfl) dX3_round_35 (fun r_6 M_5 => ?_)
    refine j_if_eq (tgt := 43) X dX3_round_38 (by decide) ?_ ?_
    · refine j_iincB (i := 1) (y := v1 + 1) (Lf := fun v1_7 => [(0, .ref (gA g 0)), (1, .int v1_7)]) X dX3_round_43 rfl rfl (by decide) (fun _ => rfl) (fun v1_7 => ?_)
      refine j_goto (tgt := 13) X dX3_round_46 (by decide) ?_
      exact hc13 (v1_7, M_5)
    · refine j_iload_n (i := 1) X dX3_round_41 rfl rfl ?_
      exact j_iret X hr dX3_round_42
def pi_X3_round_e (M : Mem) : Option (Int32 × Mem) := bv (mi_X2_become 13 1 M) fun M_1 => lp (fun rc13 x => pi_X3_round_13 rc13 x.1 x.2) FU (1, M_1)
set_option maxRecDepth 100000 in
set_option maxHeartbeats 4000000 in
theorem pj_X3_round_e {p : Program} {l : Launch} {e : Env} {R : Room} {s : State} {m : MethodId} {args : Array Value} {below : List Frame} {meth : Method} {c : Code} {g : Gh} (X : Cx p l e R s m args below meth c g cX3_round 2 (0, 0) RX3 4) (hr : meth.sig.returnType = (some (.int))) (M : Mem) : J p l e R s m args below meth c g 2 (0, 0) (QfI below args s g) (pi_X3_round_e M) M 0 [(0, .ref (gA g 0))] [] := by
  unfold pi_X3_round_e
  refine j_aload_n (i := 0) X dX3_round_0 rfl rfl ?_
  refine j_get_hd 1 X (by decide) wq_240 rfl dX3_round_1 ?_
  refine j_aload_n (i := 0) X dX3_round_4 rfl rfl ?_
  refine j_get_hd 0 X (by decide) wq_172 rfl dX3_round_5 ?_
  refine k_cVV (As := [.ref (gA g 1)]) (rest := []) sh_13.lt (cf_sh sh_13 _) rfl X (ct_X2_become l g 13 1 sh_13 sh_1 M) wl_X3_133 rfl rfl (by decide) (Nat.le_of_ble_eq_true rfl) dX3_round_8 (fun M_1 => ?_)
  refine j_iconst (v := 1) X dX3_round_11 rfl ?_
  refine j_istore_n (i := 1) (Lq := [(0, .ref (gA g 0)), (1, .int 1)]) X dX3_round_12 rfl (by decide) rfl ?_
  exact j_lp (Lf := fun x => [(0, .ref (gA g 0)), (1, .int x.1)]) (Mf := fun x => x.2) (fun rc13 hc13 x => pj_X3_round_13 X hr rc13 hc13 x.1 x.2) FU (1, M_1)
def mi_X3_round (M : Mem) : Option (Int32 × Mem) := pi_X3_round_e  M
theorem ct_X3_round (l : Launch) (g : Gh) (M : Mem) : CtI l g yX3_round cX3_round 2 (some (.int)) 4 [.ref (gA g 0)] M (mi_X3_round  M) := ctI_of (own := RX3) (L := [(0, .ref (gA g 0))]) (by decide +kernel) rfl (Nat.le_of_ble_eq_true rfl) rfl (fun p e s m args below meth c X hr => pj_X3_round_e X hr   M)

def pi_X3_skylines_60 (v1 : Int32) (v2 : Int32) (v3 : Int32) (v4 : Int32) (rc40 : Int32 × Int32 × Mem → Option (Int32 × Mem)) (M : Mem) : Option (Int32 × Mem) := bv (mi_X2_passAge 13 M) fun M_8 => bI (v4 + 1) fun v4_9 => rc40 (v3, v4_9, M_8)
set_option maxRecDepth 100000 in
set_option maxHeartbeats 4000000 in
theorem pj_X3_skylines_60 {p : Program} {l : Launch} {e : Env} {R : Room} {s : State} {m : MethodId} {args : Array Value} {below : List Frame} {meth : Method} {c : Code} {g : Gh} (X : Cx p l e R s m args below meth c g cX3_skylines 5 (0, 0) RX3 4) (hr : meth.sig.returnType = (some (.int))) (v1 : Int32) (v2 : Int32) (v3 : Int32) (v4 : Int32) (rc40 : Int32 × Int32 × Mem → Option (Int32 × Mem)) (hc40 : ∀ x, J p l e R s m args below meth c g 5 (0, 0) (QfI below args s g) (rc40 x) x.2.2 40 [(0, .ref (gA g 0)), (1, .int v1), (2, .int v2), (3, .int x.1), (4, .int x.2.1)] []) (M : Mem) : J p l e R s m args below meth c g 5 (0, 0) (QfI below args s g) (pi_X3_skylines_60 v1 v2 v3 v4 rc40 M) M 60 [(0, .ref (gA g 0)), (1, .int v1), (2, .int v2), (3, .int v3), (4, .int v4)] [] := by
  unfold pi_X3_skylines_60
  refine j_aload_n (i := 0) X dX3_skylines_60 rfl rfl ?_
  refine j_get_hd 1 X (by decide) wq_240 rfl dX3_skylines_61 ?_
  refine k_cVV (As := []) (rest := []) sh_13.lt (cf_sh sh_13 _) rfl X (ct_X2_passAge l g 13 sh_13 M) wl_X3_140 rfl rfl (by decide) (Nat.le_of_ble_eq_true rfl) dX3_skylines_64 (fun M_8 => ?_)
  refine j_iincB (i := 4) (y := v4 + 1) (Lf := fun v4_9 => [(0, .ref (gA g 0)), (1, .int v1), (2, .int v2), (3, .int v3), (4, .int v4_9)]) X dX3_skylines_67 rfl rfl (by decide) (fun _ => rfl) (fun v4_9 => ?_)
  refine j_goto (tgt := 40) X dX3_skylines_70 (by decide) ?_
  exact hc40 (v3, v4_9, M_8)
def pi_X3_skylines_40 (v1 : Int32) (v2 : Int32) (rc40 : Int32 × Int32 × Mem → Option (Int32 × Mem)) (v3 : Int32) (v4 : Int32) (M : Mem) : Option (Int32 × Mem) := if v2 ≤ v4 then (some (v3, M)) else (bd (mi_X2_facing 13 v1 M) fun r_7 M_6 => if r_7 = 0 then (pi_X3_skylines_60 v1 v2 v3 v4 rc40 M_6) else (bI (v3 + 1) fun v3_10 => pi_X3_skylines_60 v1 v2 v3_10 v4 rc40 M_6))
set_option maxRecDepth 100000 in
set_option maxHeartbeats 4000000 in
theorem pj_X3_skylines_40 {p : Program} {l : Launch} {e : Env} {R : Room} {s : State} {m : MethodId} {args : Array Value} {below : List Frame} {meth : Method} {c : Code} {g : Gh} (X : Cx p l e R s m args below meth c g cX3_skylines 5 (0, 0) RX3 4) (hr : meth.sig.returnType = (some (.int))) (v1 : Int32) (v2 : Int32) (rc40 : Int32 × Int32 × Mem → Option (Int32 × Mem)) (hc40 : ∀ x, J p l e R s m args below meth c g 5 (0, 0) (QfI below args s g) (rc40 x) x.2.2 40 [(0, .ref (gA g 0)), (1, .int v1), (2, .int v2), (3, .int x.1), (4, .int x.2.1)] []) (v3 : Int32) (v4 : Int32) (M : Mem) : J p l e R s m args below meth c g 5 (0, 0) (QfI below args s g) (pi_X3_skylines_40 v1 v2 rc40 v3 v4 M) M 40 [(0, .ref (gA g 0)), (1, .int v1), (2, .int v2), (3, .int v3), (4, .int v4)] [] := by
  unfold pi_X3_skylines_40
  refine j_iload (i := 4) X dX3_skylines_40 rfl ?_
  refine j_iload_n (i := 2) X dX3_skylines_42 rfl rfl ?_
  refine j_icmp_ge (tgt := 73) X dX3_skylines_43 (by decide) ?_ ?_
  · refine j_iload_n (i := 3) X dX3_skylines_73 rfl rfl ?_
    exact j_iret X hr dX3_skylines_74
  · refine j_aload_n (i := 0) X dX3_skylines_46 rfl rfl ?_
    refine j_get_hd 1 X (by decide) wq_240 rfl dX3_skylines_47 ?_
    refine j_iload_n (i := 1) X dX3_skylines_50 rfl rfl ?_
    refine k_cVI (As := [.int v1]) (rest := []) sh_13.lt (cf_sh sh_13 _) rfl X (ct_X2_facing l g 13 v1 sh_13 M) wl_X3_95 rfl rfl (by decide) (Nat.le_of_ble_eq_true rfl) dX3_skylines_51 (fun r_7 M_6 => ?_)
    refine j_if_eq (tgt := 60) X dX3_skylines_54 (by decide) ?_ ?_
    · exact pj_X3_skylines_60 X hr v1 v2 v3 v4 rc40 hc40 M_6
    · refine j_iincB (i := 3) (y := v3 + 1) (Lf := fun v3_10 => [(0, .ref (gA g 0)), (1, .int v1), (2, .int v2), (3, .int v3_10), (4, .int v4)]) X dX3_skylines_57 rfl rfl (by decide) (fun _ => rfl) (fun v3_10 => ?_)
      exact pj_X3_skylines_60 X hr v1 v2 v3_10 v4 rc40 hc40 M_6
def pi_X3_skylines_18 (v1 : Int32) (v2 : Int32) (M : Mem) : Option (Int32 × Mem) := bd (mi_X3_finding 0 M) fun r_12 M_11 => some (r_12, M_11)
set_option maxRecDepth 100000 in
set_option maxHeartbeats 4000000 in
theorem pj_X3_skylines_18 {p : Program} {l : Launch} {e : Env} {R : Room} {s : State} {m : MethodId} {args : Array Value} {below : List Frame} {meth : Method} {c : Code} {g : Gh} (X : Cx p l e R s m args below meth c g cX3_skylines 5 (0, 0) RX3 4) (hr : meth.sig.returnType = (some (.int))) (v1 : Int32) (v2 : Int32) (M : Mem) : J p l e R s m args below meth c g 5 (0, 0) (QfI below args s g) (pi_X3_skylines_18 v1 v2 M) M 18 [(0, .ref (gA g 0)), (1, .int v1), (2, .int v2)] [] := by
  unfold pi_X3_skylines_18
  refine j_aload_n (i := 0) X dX3_skylines_18 rfl rfl ?_
  refine j_iconst (v := 0) X dX3_skylines_19 rfl ?_
  refine k_cVI (As := [.int 0]) (rest := []) (by decide) (cf_hd _) rfl X (ct_X3_finding l g 0 M) wl_X3_44 rfl rfl (by decide) (Nat.le_of_ble_eq_true rfl) dX3_skylines_20 (fun r_12 M_11 => ?_)
  exact j_iret X hr dX3_skylines_23
def pi_X3_skylines_e (v1 : Int32) (v2 : Int32) (M : Mem) : Option (Int32 × Mem) := bd (mi_X3_isNoValley v1 M) fun r_2 M_1 => if r_2 = 0 then (bd (mi_X3_isOutside v2 0 200 M_1) fun r_4 M_3 => if r_4 = 0 then (bv (mi_X2_become 13 1 M_3) fun M_5 => lp (fun rc40 x => pi_X3_skylines_40 v1 v2 rc40 x.1 x.2.1 x.2.2) FU (0, 0, M_5)) else (pi_X3_skylines_18 v1 v2 M_3)) else (pi_X3_skylines_18 v1 v2 M_1)
set_option maxRecDepth 100000 in
set_option maxHeartbeats 4000000 in
theorem pj_X3_skylines_e {p : Program} {l : Launch} {e : Env} {R : Room} {s : State} {m : MethodId} {args : Array Value} {below : List Frame} {meth : Method} {c : Code} {g : Gh} (X : Cx p l e R s m args below meth c g cX3_skylines 5 (0, 0) RX3 4) (hr : meth.sig.returnType = (some (.int))) (v1 : Int32) (v2 : Int32) (M : Mem) : J p l e R s m args below meth c g 5 (0, 0) (QfI below args s g) (pi_X3_skylines_e v1 v2 M) M 0 [(0, .ref (gA g 0)), (1, .int v1), (2, .int v2)] [] := by
  unfold pi_X3_skylines_e
  refine j_iload_n (i := 1) X dX3_skylines_0 rfl rfl ?_
  refine k_cSI (As := [.int v1]) (rest := []) X (ct_X3_isNoValley l g v1 M) wl_X3_52 rfl rfl (by decide) (Nat.le_of_ble_eq_true rfl) dX3_skylines_1 (fun r_2 M_1 => ?_)
  refine j_if_ne (tgt := 18) X dX3_skylines_4 (by decide) ?_ ?_
  · refine j_iload_n (i := 2) X dX3_skylines_7 rfl rfl ?_
    refine j_iconst (v := 0) X dX3_skylines_8 rfl ?_
    refine j_sipush (v := 200) X dX3_skylines_9 rfl ?_
    refine k_cSI (As := [.int v2, .int 0, .int 200]) (rest := []) X (ct_X3_isOutside l g v2 0 200 M_1) wl_X3_40 rfl rfl (by decide) (Nat.le_of_ble_eq_true rfl) dX3_skylines_12 (fun r_4 M_3 => ?_)
    refine j_if_eq (tgt := 24) X dX3_skylines_15 (by decide) ?_ ?_
    · refine j_aload_n (i := 0) X dX3_skylines_24 rfl rfl ?_
      refine j_get_hd 1 X (by decide) wq_240 rfl dX3_skylines_25 ?_
      refine j_aload_n (i := 0) X dX3_skylines_28 rfl rfl ?_
      refine j_get_hd 0 X (by decide) wq_172 rfl dX3_skylines_29 ?_
      refine k_cVV (As := [.ref (gA g 1)]) (rest := []) sh_13.lt (cf_sh sh_13 _) rfl X (ct_X2_become l g 13 1 sh_13 sh_1 M_3) wl_X3_133 rfl rfl (by decide) (Nat.le_of_ble_eq_true rfl) dX3_skylines_32 (fun M_5 => ?_)
      refine j_iconst (v := 0) X dX3_skylines_35 rfl ?_
      refine j_istore_n (i := 3) (Lq := [(0, .ref (gA g 0)), (1, .int v1), (2, .int v2), (3, .int 0)]) X dX3_skylines_36 rfl (by decide) rfl ?_
      refine j_iconst (v := 0) X dX3_skylines_37 rfl ?_
      refine j_istore (i := 4) (Lq := [(0, .ref (gA g 0)), (1, .int v1), (2, .int v2), (3, .int 0), (4, .int 0)]) X dX3_skylines_38 (by decide) rfl ?_
      exact j_lp (Lf := fun x => [(0, .ref (gA g 0)), (1, .int v1), (2, .int v2), (3, .int x.1), (4, .int x.2.1)]) (Mf := fun x => x.2.2) (fun rc40 hc40 x => pj_X3_skylines_40 X hr v1 v2 rc40 hc40 x.1 x.2.1 x.2.2) FU (0, 0, M_5)
    · exact pj_X3_skylines_18 X hr v1 v2 M_3
  · exact pj_X3_skylines_18 X hr v1 v2 M_1
def mi_X3_skylines (v1 : Int32) (v2 : Int32) (M : Mem) : Option (Int32 × Mem) := pi_X3_skylines_e v1 v2 M
theorem ct_X3_skylines (l : Launch) (g : Gh) (v1 : Int32) (v2 : Int32) (M : Mem) : CtI l g yX3_skylines cX3_skylines 5 (some (.int)) 4 [.ref (gA g 0), .int v1, .int v2] M (mi_X3_skylines v1 v2 M) := ctI_of (own := RX3) (L := [(0, .ref (gA g 0)), (1, .int v1), (2, .int v2)]) (by decide +kernel) rfl (Nat.le_of_ble_eq_true rfl) rfl (fun p e s m args below meth c X hr => pj_X3_skylines_e X hr v1 v2  M)

def pi_X3_wallflowers_38 (v1 : Int32) (rc38 : Int32 × Int32 × Mem → Option (Int32 × Mem)) (v2 : Int32) (v3 : Int32) (M : Mem) : Option (Int32 × Mem) := if v1 ≤ v3 then (some (v2, M)) else (if v2 = 0 then (some (v2, M)) else (bd (mi_X2_meeting 13 M) fun r_7 M_6 => bI (v2 &&& (r_7 ^^^ (-1))) fun v2_8 => bv (mi_X2_passAge 13 M_6) fun M_9 => bI (v3 + 1) fun v3_10 => rc38 (v2_8, v3_10, M_9)))
set_option maxRecDepth 100000 in
set_option maxHeartbeats 4000000 in
theorem pj_X3_wallflowers_38 {p : Program} {l : Launch} {e : Env} {R : Room} {s : State} {m : MethodId} {args : Array Value} {below : List Frame} {meth : Method} {c : Code} {g : Gh} (X : Cx p l e R s m args below meth c g cX3_wallflowers 4 (0, 0) RX3 4) (hr : meth.sig.returnType = (some (.int))) (v1 : Int32) (rc38 : Int32 × Int32 × Mem → Option (Int32 × Mem)) (hc38 : ∀ x, J p l e R s m args below meth c g 4 (0, 0) (QfI below args s g) (rc38 x) x.2.2 38 [(0, .ref (gA g 0)), (1, .int v1), (2, .int x.1), (3, .int x.2.1)] []) (v2 : Int32) (v3 : Int32) (M : Mem) : J p l e R s m args below meth c g 4 (0, 0) (QfI below args s g) (pi_X3_wallflowers_38 v1 rc38 v2 v3 M) M 38 [(0, .ref (gA g 0)), (1, .int v1), (2, .int v2), (3, .int v3)] [] := by
  unfold pi_X3_wallflowers_38
  refine j_iload_n (i := 3) X dX3_wallflowers_38 rfl rfl ?_
  refine j_iload_n (i := 1) X dX3_wallflowers_39 rfl rfl ?_
  refine j_icmp_ge (tgt := 72) X dX3_wallflowers_40 (by decide) ?_ ?_
  · refine j_iload_n (i := 2) X dX3_wallflowers_72 rfl rfl ?_
    exact j_iret X hr dX3_wallflowers_73
  · refine j_iload_n (i := 2) X dX3_wallflowers_43 rfl rfl ?_
    refine j_if_eq (tgt := 72) X dX3_wallflowers_44 (by decide) ?_ ?_
    · refine j_iload_n (i := 2) X dX3_wallflowers_72 rfl rfl ?_
      exact j_iret X hr dX3_wallflowers_73
    · refine j_iload_n (i := 2) X dX3_wallflowers_47 rfl rfl ?_
      refine j_aload_n (i := 0) X dX3_wallflowers_48 rfl rfl ?_
      refine j_get_hd 1 X (by decide) wq_240 rfl dX3_wallflowers_49 ?_
      refine k_cVI (As := []) (rest := [.int v2]) sh_13.lt (cf_sh sh_13 _) rfl X (ct_X2_meeting l g 13 sh_13 M) wl_X3_109 rfl rfl (by decide) (Nat.le_of_ble_eq_true rfl) dX3_wallflowers_52 (fun r_7 M_6 => ?_)
      refine j_iconst (v := (-1)) X dX3_wallflowers_55 rfl ?_
      refine j_ixor X dX3_wallflowers_56 ?_
      refine j_iand X dX3_wallflowers_57 ?_
      refine j_bI (fun v2_8 => ?_)
      refine j_istore_n (i := 2) (Lq := [(0, .ref (gA g 0)), (1, .int v1), (2, .int v2_8), (3, .int v3)]) X dX3_wallflowers_58 rfl (by decide) rfl ?_
      refine j_aload_n (i := 0) X dX3_wallflowers_59 rfl rfl ?_
      refine j_get_hd 1 X (by decide) wq_240 rfl dX3_wallflowers_60 ?_
      refine k_cVV (As := []) (rest := []) sh_13.lt (cf_sh sh_13 _) rfl X (ct_X2_passAge l g 13 sh_13 M_6) wl_X3_140 rfl rfl (by decide) (Nat.le_of_ble_eq_true rfl) dX3_wallflowers_63 (fun M_9 => ?_)
      refine j_iincB (i := 3) (y := v3 + 1) (Lf := fun v3_10 => [(0, .ref (gA g 0)), (1, .int v1), (2, .int v2_8), (3, .int v3_10)]) X dX3_wallflowers_66 rfl rfl (by decide) (fun _ => rfl) (fun v3_10 => ?_)
      refine j_goto (tgt := 38) X dX3_wallflowers_69 (by decide) ?_
      exact hc38 (v2_8, v3_10, M_9)
def pi_X3_wallflowers_e (v1 : Int32) (M : Mem) : Option (Int32 × Mem) := bd (mi_X3_isOutside v1 0 200 M) fun r_2 M_1 => if r_2 = 0 then (bv (mi_X2_become 13 1 M_1) fun M_3 => bd (mi_X2_everyone 1 M_3) fun r_5 M_4 => lp (fun rc38 x => pi_X3_wallflowers_38 v1 rc38 x.1 x.2.1 x.2.2) FU (r_5, 0, M_4)) else (bd (mi_X3_finding 0 M_1) fun r_12 M_11 => some (r_12, M_11))
set_option maxRecDepth 100000 in
set_option maxHeartbeats 4000000 in
theorem pj_X3_wallflowers_e {p : Program} {l : Launch} {e : Env} {R : Room} {s : State} {m : MethodId} {args : Array Value} {below : List Frame} {meth : Method} {c : Code} {g : Gh} (X : Cx p l e R s m args below meth c g cX3_wallflowers 4 (0, 0) RX3 4) (hr : meth.sig.returnType = (some (.int))) (v1 : Int32) (M : Mem) : J p l e R s m args below meth c g 4 (0, 0) (QfI below args s g) (pi_X3_wallflowers_e v1 M) M 0 [(0, .ref (gA g 0)), (1, .int v1)] [] := by
  unfold pi_X3_wallflowers_e
  refine j_iload_n (i := 1) X dX3_wallflowers_0 rfl rfl ?_
  refine j_iconst (v := 0) X dX3_wallflowers_1 rfl ?_
  refine j_sipush (v := 200) X dX3_wallflowers_2 rfl ?_
  refine k_cSI (As := [.int v1, .int 0, .int 200]) (rest := []) X (ct_X3_isOutside l g v1 0 200 M) wl_X3_40 rfl rfl (by decide) (Nat.le_of_ble_eq_true rfl) dX3_wallflowers_5 (fun r_2 M_1 => ?_)
  refine j_if_eq (tgt := 17) X dX3_wallflowers_8 (by decide) ?_ ?_
  · refine j_aload_n (i := 0) X dX3_wallflowers_17 rfl rfl ?_
    refine j_get_hd 1 X (by decide) wq_240 rfl dX3_wallflowers_18 ?_
    refine j_aload_n (i := 0) X dX3_wallflowers_21 rfl rfl ?_
    refine j_get_hd 0 X (by decide) wq_172 rfl dX3_wallflowers_22 ?_
    refine k_cVV (As := [.ref (gA g 1)]) (rest := []) sh_13.lt (cf_sh sh_13 _) rfl X (ct_X2_become l g 13 1 sh_13 sh_1 M_1) wl_X3_133 rfl rfl (by decide) (Nat.le_of_ble_eq_true rfl) dX3_wallflowers_25 (fun M_3 => ?_)
    refine j_aload_n (i := 0) X dX3_wallflowers_28 rfl rfl ?_
    refine j_get_hd 0 X (by decide) wq_172 rfl dX3_wallflowers_29 ?_
    refine k_cVI (As := []) (rest := []) sh_1.lt (cf_sh sh_1 _) rfl X (ct_X2_everyone l g 1 sh_1 M_3) wl_X3_155 rfl rfl (by decide) (Nat.le_of_ble_eq_true rfl) dX3_wallflowers_32 (fun r_5 M_4 => ?_)
    refine j_istore_n (i := 2) (Lq := [(0, .ref (gA g 0)), (1, .int v1), (2, .int r_5)]) X dX3_wallflowers_35 rfl (by decide) rfl ?_
    refine j_iconst (v := 0) X dX3_wallflowers_36 rfl ?_
    refine j_istore_n (i := 3) (Lq := [(0, .ref (gA g 0)), (1, .int v1), (2, .int r_5), (3, .int 0)]) X dX3_wallflowers_37 rfl (by decide) rfl ?_
    exact j_lp (Lf := fun x => [(0, .ref (gA g 0)), (1, .int v1), (2, .int x.1), (3, .int x.2.1)]) (Mf := fun x => x.2.2) (fun rc38 hc38 x => pj_X3_wallflowers_38 X hr v1 rc38 hc38 x.1 x.2.1 x.2.2) FU (r_5, 0, M_4)
  · refine j_aload_n (i := 0) X dX3_wallflowers_11 rfl rfl ?_
    refine j_iconst (v := 0) X dX3_wallflowers_12 rfl ?_
    refine k_cVI (As := [.int 0]) (rest := []) (by decide) (cf_hd _) rfl X (ct_X3_finding l g 0 M_1) wl_X3_44 rfl rfl (by decide) (Nat.le_of_ble_eq_true rfl) dX3_wallflowers_13 (fun r_12 M_11 => ?_)
    exact j_iret X hr dX3_wallflowers_16
def mi_X3_wallflowers (v1 : Int32) (M : Mem) : Option (Int32 × Mem) := pi_X3_wallflowers_e v1 M
theorem ct_X3_wallflowers (l : Launch) (g : Gh) (v1 : Int32) (M : Mem) : CtI l g yX3_wallflowers cX3_wallflowers 4 (some (.int)) 4 [.ref (gA g 0), .int v1] M (mi_X3_wallflowers v1 M) := ctI_of (own := RX3) (L := [(0, .ref (gA g 0)), (1, .int v1)]) (by decide +kernel) rfl (Nat.le_of_ble_eq_true rfl) rfl (fun p e s m args below meth c X hr => pj_X3_wallflowers_e X hr v1  M)

def pi_X3_tryWith_e (v1 : Int32) (v2 : Int32) (v3 : Int32) (M : Mem) : Option (Mem) := bv (mi_X2_become 13 1 M) fun M_1 => bv (mi_X2_setTrait 13 v1 v2 v3 M_1) fun M_2 => some M_2
set_option maxRecDepth 100000 in
set_option maxHeartbeats 4000000 in
theorem pj_X3_tryWith_e {p : Program} {l : Launch} {e : Env} {R : Room} {s : State} {m : MethodId} {args : Array Value} {below : List Frame} {meth : Method} {c : Code} {g : Gh} (X : Cx p l e R s m args below meth c g cX3_tryWith 4 (0, 0) RX3 3) (hr : meth.sig.returnType = none) (v1 : Int32) (v2 : Int32) (v3 : Int32) (M : Mem) : J p l e R s m args below meth c g 4 (0, 0) (QfV below args s g) (pi_X3_tryWith_e v1 v2 v3 M) M 0 [(0, .ref (gA g 0)), (1, .int v1), (2, .int v2), (3, .int v3)] [] := by
  unfold pi_X3_tryWith_e
  refine j_aload_n (i := 0) X dX3_tryWith_0 rfl rfl ?_
  refine j_get_hd 1 X (by decide) wq_240 rfl dX3_tryWith_1 ?_
  refine j_aload_n (i := 0) X dX3_tryWith_4 rfl rfl ?_
  refine j_get_hd 0 X (by decide) wq_172 rfl dX3_tryWith_5 ?_
  refine k_cVV (As := [.ref (gA g 1)]) (rest := []) sh_13.lt (cf_sh sh_13 _) rfl X (ct_X2_become l g 13 1 sh_13 sh_1 M) wl_X3_133 rfl rfl (by decide) (Nat.le_of_ble_eq_true rfl) dX3_tryWith_8 (fun M_1 => ?_)
  refine j_aload_n (i := 0) X dX3_tryWith_11 rfl rfl ?_
  refine j_get_hd 1 X (by decide) wq_240 rfl dX3_tryWith_12 ?_
  refine j_iload_n (i := 1) X dX3_tryWith_15 rfl rfl ?_
  refine j_iload_n (i := 2) X dX3_tryWith_16 rfl rfl ?_
  refine j_iload_n (i := 3) X dX3_tryWith_17 rfl rfl ?_
  refine k_cVV (As := [.int v1, .int v2, .int v3]) (rest := []) sh_13.lt (cf_sh sh_13 _) rfl X (ct_X2_setTrait l g 13 v1 v2 v3 sh_13 M_1) wl_X3_88 rfl rfl (by decide) (Nat.le_of_ble_eq_true rfl) dX3_tryWith_18 (fun M_2 => ?_)
  exact j_vret X hr dX3_tryWith_21
def mi_X3_tryWith (v1 : Int32) (v2 : Int32) (v3 : Int32) (M : Mem) : Option (Mem) := pi_X3_tryWith_e v1 v2 v3 M
theorem ct_X3_tryWith (l : Launch) (g : Gh) (v1 : Int32) (v2 : Int32) (v3 : Int32) (M : Mem) : CtV l g yX3_tryWith cX3_tryWith 4 none 3 [.ref (gA g 0), .int v1, .int v2, .int v3] M (mi_X3_tryWith v1 v2 v3 M) := ctV_of (own := RX3) (L := [(0, .ref (gA g 0)), (1, .int v1), (2, .int v2), (3, .int v3)]) (by decide +kernel) rfl (Nat.le_of_ble_eq_true rfl) rfl (fun p e s m args below meth c X hr => pj_X3_tryWith_e X hr v1 v2 v3  M)
