def pi_X2_passWetAge_43 (b : Nat) (M : Mem) : Option (Mem) := bv (mi_X2_passAge b M) fun M_11 => some M_11
set_option maxRecDepth 100000 in
set_option maxHeartbeats 4000000 in
theorem pj_X2_passWetAge_43 {p : Program} {l : Launch} {e : Env} {R : Room} {s : State} {m : MethodId} {args : Array Value} {below : List Frame} {meth : Method} {c : Code} {g : Gh} (X : Cx p l e R s m args below meth c g cX2_passWetAge 2 (0, 0) RX2 4) (hr : meth.sig.returnType = none) (b : Nat) (hb : isSh b) (M : Mem) : J p l e R s m args below meth c g 2 (0, 0) (QfV below args s g) (pi_X2_passWetAge_43 b M) M 43 [(0, .ref (gA g b))] [] := by
  unfold pi_X2_passWetAge_43
  refine j_aload_n (i := 0) X dX2_passWetAge_43 rfl rfl ?_
  refine k_cVV (As := []) (rest := []) hb.lt (cf_sh hb _) rfl X (ct_X2_passAge l g b hb M) wl_X2_110 rfl rfl (by decide) (Nat.le_of_ble_eq_true rfl) dX2_passWetAge_44 (fun M_11 => ?_)
  exact j_vret X hr dX2_passWetAge_47
def pi_X2_passWetAge_e (b : Nat) (M : Mem) : Option (Mem) := bd (mi_X2_draw b M) fun r_2 M_1 => bM (up M_1 b 0 (r_2 - r_2 / 10 * 10)) fun M_3 => bd (mi_X2_draw b M_3) fun r_5 M_4 => bI (r_5 - r_5 / 8 * 8) fun v1_6 => bd (mi_X2_lacks b v1_6 M_4) fun r_8 M_7 => if r_8 = 0 then (gd (inb v1_6 8) <| bv (mi_X2_setTrait b v1_6 3 (((M_7 (b + 5) v1_6.toNatClampNeg) + 1) - ((M_7 (b + 5) v1_6.toNatClampNeg) + 1) / 4 * 4) M_7) fun M_10 => pi_X2_passWetAge_43 b M_10) else (pi_X2_passWetAge_43 b M_7)
set_option maxRecDepth 100000 in
set_option maxHeartbeats 4000000 in
theorem pj_X2_passWetAge_e {p : Program} {l : Launch} {e : Env} {R : Room} {s : State} {m : MethodId} {args : Array Value} {below : List Frame} {meth : Method} {c : Code} {g : Gh} (X : Cx p l e R s m args below meth c g cX2_passWetAge 2 (0, 0) RX2 4) (hr : meth.sig.returnType = none) (b : Nat) (hb : isSh b) (M : Mem) : J p l e R s m args below meth c g 2 (0, 0) (QfV below args s g) (pi_X2_passWetAge_e b M) M 0 [(0, .ref (gA g b))] [] := by
  unfold pi_X2_passWetAge_e
  refine j_aload_n (i := 0) X dX2_passWetAge_0 rfl rfl ?_
  refine j_aload_n (i := 0) X dX2_passWetAge_1 rfl rfl ?_
  refine k_cVI (As := []) (rest := [.ref (gA g b)]) hb.lt (cf_sh hb _) rfl X (ct_X2_draw l g b hb M) wl_X2_130 rfl rfl (by decide) (Nat.le_of_ble_eq_true rfl) dX2_passWetAge_2 (fun r_2 M_1 => ?_)
  refine j_bipush (v := 10) X dX2_passWetAge_5 rfl ?_
  refine j_iremc X dX2_passWetAge_7 (by decide) ?_
  refine j_put_sh (ty := .int) hb 0 X (by decide) wq_99 (fun _ => rfl) rfl (by decide +kernel) rfl rfl dX2_passWetAge_8 ?_
  refine j_bM (fun M_3 => ?_)
  refine j_aload_n (i := 0) X dX2_passWetAge_11 rfl rfl ?_
  refine k_cVI (As := []) (rest := []) hb.lt (cf_sh hb _) rfl X (ct_X2_draw l g b hb M_3) wl_X2_130 rfl rfl (by decide) (Nat.le_of_ble_eq_true rfl) dX2_passWetAge_12 (fun r_5 M_4 => ?_)
  refine j_bipush (v := 8) X dX2_passWetAge_15 rfl ?_
  refine j_iremc X dX2_passWetAge_17 (by decide) ?_
  refine j_bI (fun v1_6 => ?_)
  refine j_istore_n (i := 1) (Lq := [(0, .ref (gA g b)), (1, .int v1_6)]) X dX2_passWetAge_18 rfl (by decide) rfl ?_
  refine j_aload_n (i := 0) X dX2_passWetAge_19 rfl rfl ?_
  refine j_iload_n (i := 1) X dX2_passWetAge_20 rfl rfl ?_
  refine k_cVI (As := [.int v1_6]) (rest := []) hb.lt (cf_sh hb _) rfl X (ct_X2_lacks l g b v1_6 hb M_4) wl_X2_134 rfl rfl (by decide) (Nat.le_of_ble_eq_true rfl) dX2_passWetAge_21 (fun r_8 M_7 => ?_)
  refine j_if_ne (tgt := 43) X dX2_passWetAge_24 (by decide) ?_ ?_
  · refine j_aload_n (i := 0) X dX2_passWetAge_27 rfl rfl ?_
    refine j_iload_n (i := 1) X dX2_passWetAge_28 rfl rfl ?_
    refine j_iconst (v := 3) X dX2_passWetAge_29 rfl ?_
    refine j_aload_n (i := 0) X dX2_passWetAge_30 rfl rfl ?_
    refine j_get_sh hb 8 X (by decide) wq_50 rfl dX2_passWetAge_31 ?_
    refine j_iload_n (i := 1) X dX2_passWetAge_34 rfl rfl ?_
    refine j_iald X (ia_sh5 hb) dX2_passWetAge_35 (fun h_9 => ?_)
    refine j_iconst (v := 1) X dX2_passWetAge_36 rfl ?_
    refine j_iadd X dX2_passWetAge_37 ?_
    refine j_iconst (v := 4) X dX2_passWetAge_38 rfl ?_
    refine j_iremc X dX2_passWetAge_39 (by decide) ?_
    refine k_cVV (As := [.int v1_6, .int 3, .int (((M_7 (b + 5) v1_6.toNatClampNeg) + 1) - ((M_7 (b + 5) v1_6.toNatClampNeg) + 1) / 4 * 4)]) (rest := []) hb.lt (cf_sh hb _) rfl X (ct_X2_setTrait l g b v1_6 3 (((M_7 (b + 5) v1_6.toNatClampNeg) + 1) - ((M_7 (b + 5) v1_6.toNatClampNeg) + 1) / 4 * 4) hb M_7) wl_X2_138 rfl rfl (by decide) (Nat.le_of_ble_eq_true rfl) dX2_passWetAge_40 (fun M_10 => ?_)
    refine j_pick [0] (Lq := [(0, .ref (gA g b))]) rfl ?_
    exact pj_X2_passWetAge_43 X hr b hb M_10
  · refine j_pick [0] (Lq := [(0, .ref (gA g b))]) rfl ?_
    exact pj_X2_passWetAge_43 X hr b hb M_7
def mi_X2_passWetAge (b : Nat) (M : Mem) : Option (Mem) := pi_X2_passWetAge_e b M
theorem ct_X2_passWetAge (l : Launch) (g : Gh) (b : Nat) (hb : isSh b) (M : Mem) : CtV l g yX2_passWetAge cX2_passWetAge 2 none 4 [.ref (gA g b)] M (mi_X2_passWetAge b M) := ctV_of (own := RX2) (L := [(0, .ref (gA g b))]) (by decide +kernel) rfl (Nat.le_of_ble_eq_true rfl) rfl (fun p e s m args below meth c X hr => pj_X2_passWetAge_e X hr b hb M)

def pi_X2_standsAndTurnsAs_2 (b : Nat) (b1 : Nat) (rc2 : Int32 × Mem → Option (Int32 × Mem)) (v2 : Int32) (M : Mem) : Option (Int32 × Mem) := if (M b 3) ≤ v2 then (gd (isB 1) (some (1, M))) else (gd (inb v2 8) <| gd (inb v2 8) <| if (M (b + 3) v2.toNatClampNeg) = (M (b1 + 3) v2.toNatClampNeg) then (gd (inb v2 8) <| gd (inb v2 8) <| if (M (b + 5) v2.toNatClampNeg) = (M (b1 + 5) v2.toNatClampNeg) then (bI (v2 + 1) fun v2_5 => rc2 (v2_5, M)) else (gd (isB 0) (some (0, M)))) else (gd (isB 0) (some (0, M))))
set_option maxRecDepth 100000 in
set_option maxHeartbeats 4000000 in
theorem pj_X2_standsAndTurnsAs_2 {p : Program} {l : Launch} {e : Env} {R : Room} {s : State} {m : MethodId} {args : Array Value} {below : List Frame} {meth : Method} {c : Code} {g : Gh} (X : Cx p l e R s m args below meth c g cX2_standsAndTurnsAs 3 (0, 0) RX2 0) (hr : meth.sig.returnType = (some (.boolean))) (b : Nat) (b1 : Nat) (hb : isSh b) (hb1 : isSh b1) (rc2 : Int32 × Mem → Option (Int32 × Mem)) (hc2 : ∀ x, J p l e R s m args below meth c g 3 (0, 0) (QfI below args s g) (rc2 x) x.2 2 [(0, .ref (gA g b)), (1, .ref (gA g b1)), (2, .int x.1)] []) (v2 : Int32) (M : Mem) : J p l e R s m args below meth c g 3 (0, 0) (QfI below args s g) (pi_X2_standsAndTurnsAs_2 b b1 rc2 v2 M) M 2 [(0, .ref (gA g b)), (1, .ref (gA g b1)), (2, .int v2)] [] := by
  unfold pi_X2_standsAndTurnsAs_2
  refine j_iload_n (i := 2) X dX2_standsAndTurnsAs_2 rfl rfl ?_
  refine j_aload_n (i := 0) X dX2_standsAndTurnsAs_3 rfl rfl ?_
  refine j_get_sh hb 3 X (by decide) wq_46 rfl dX2_standsAndTurnsAs_4 ?_
  refine j_icmp_ge (tgt := 48) X dX2_standsAndTurnsAs_7 (by decide) ?_ ?_
  · refine j_iconst (v := 1) X dX2_standsAndTurnsAs_48 rfl ?_
    exact j_zret X hr dX2_standsAndTurnsAs_49
  · refine j_aload_n (i := 0) X dX2_standsAndTurnsAs_10 rfl rfl ?_
    refine j_get_sh hb 6 X (by decide) wq_49 rfl dX2_standsAndTurnsAs_11 ?_
    refine j_iload_n (i := 2) X dX2_standsAndTurnsAs_14 rfl rfl ?_
    refine j_iald X (ia_sh3 hb) dX2_standsAndTurnsAs_15 (fun h_1 => ?_)
    refine j_aload_n (i := 1) X dX2_standsAndTurnsAs_16 rfl rfl ?_
    refine j_get_sh hb1 6 X (by decide) wq_49 rfl dX2_standsAndTurnsAs_17 ?_
    refine j_iload_n (i := 2) X dX2_standsAndTurnsAs_20 rfl rfl ?_
    refine j_iald X (ia_sh3 hb1) dX2_standsAndTurnsAs_21 (fun h_2 => ?_)
    refine j_icmp_ne (tgt := 40) X dX2_standsAndTurnsAs_22 (by decide) ?_ ?_
    · refine j_aload_n (i := 0) X dX2_standsAndTurnsAs_25 rfl rfl ?_
      refine j_get_sh hb 8 X (by decide) wq_50 rfl dX2_standsAndTurnsAs_26 ?_
      refine j_iload_n (i := 2) X dX2_standsAndTurnsAs_29 rfl rfl ?_
      refine j_iald X (ia_sh5 hb) dX2_standsAndTurnsAs_30 (fun h_3 => ?_)
      refine j_aload_n (i := 1) X dX2_standsAndTurnsAs_31 rfl rfl ?_
      refine j_get_sh hb1 8 X (by decide) wq_50 rfl dX2_standsAndTurnsAs_32 ?_
      refine j_iload_n (i := 2) X dX2_standsAndTurnsAs_35 rfl rfl ?_
      refine j_iald X (ia_sh5 hb1) dX2_standsAndTurnsAs_36 (fun h_4 => ?_)
      refine j_icmp_eq (tgt := 42) X dX2_standsAndTurnsAs_37 (by decide) ?_ ?_
      · refine j_iincB (i := 2) (y := v2 + 1) (Lf := fun v2_5 => [(0, .ref (gA g b)), (1, .ref (gA g b1)), (2, .int v2_5)]) X dX2_standsAndTurnsAs_42 rfl rfl (by decide) (fun _ => rfl) (fun v2_5 => ?_)
        refine j_goto (tgt := 2) X dX2_standsAndTurnsAs_45 (by decide) ?_
        exact hc2 (v2_5, M)
      · refine j_iconst (v := 0) X dX2_standsAndTurnsAs_40 rfl ?_
        exact j_zret X hr dX2_standsAndTurnsAs_41
    · refine j_iconst (v := 0) X dX2_standsAndTurnsAs_40 rfl ?_
      exact j_zret X hr dX2_standsAndTurnsAs_41
def pi_X2_standsAndTurnsAs_e (b : Nat) (b1 : Nat) (M : Mem) : Option (Int32 × Mem) := lp (fun rc2 x => pi_X2_standsAndTurnsAs_2 b b1 rc2 x.1 x.2) FU (0, M)
set_option maxRecDepth 100000 in
set_option maxHeartbeats 4000000 in
theorem pj_X2_standsAndTurnsAs_e {p : Program} {l : Launch} {e : Env} {R : Room} {s : State} {m : MethodId} {args : Array Value} {below : List Frame} {meth : Method} {c : Code} {g : Gh} (X : Cx p l e R s m args below meth c g cX2_standsAndTurnsAs 3 (0, 0) RX2 0) (hr : meth.sig.returnType = (some (.boolean))) (b : Nat) (b1 : Nat) (hb : isSh b) (hb1 : isSh b1) (M : Mem) : J p l e R s m args below meth c g 3 (0, 0) (QfI below args s g) (pi_X2_standsAndTurnsAs_e b b1 M) M 0 [(0, .ref (gA g b)), (1, .ref (gA g b1))] [] := by
  unfold pi_X2_standsAndTurnsAs_e
  refine j_iconst (v := 0) X dX2_standsAndTurnsAs_0 rfl ?_
  refine j_istore_n (i := 2) (Lq := [(0, .ref (gA g b)), (1, .ref (gA g b1)), (2, .int 0)]) X dX2_standsAndTurnsAs_1 rfl (by decide) rfl ?_
  exact j_lp (Lf := fun x => [(0, .ref (gA g b)), (1, .ref (gA g b1)), (2, .int x.1)]) (Mf := fun x => x.2) (fun rc2 hc2 x => pj_X2_standsAndTurnsAs_2 X hr b b1 hb hb1 rc2 hc2 x.1 x.2) FU (0, M)
def mi_X2_standsAndTurnsAs (b : Nat) (b1 : Nat) (M : Mem) : Option (Int32 × Mem) := pi_X2_standsAndTurnsAs_e b b1 M
theorem ct_X2_standsAndTurnsAs (l : Launch) (g : Gh) (b : Nat) (b1 : Nat) (hb : isSh b) (hb1 : isSh b1) (M : Mem) : CtI l g yX2_standsAndTurnsAs cX2_standsAndTurnsAs 3 (some (.boolean)) 0 [.ref (gA g b), .ref (gA g b1)] M (mi_X2_standsAndTurnsAs b b1 M) := ctI_of (own := RX2) (L := [(0, .ref (gA g b)), (1, .ref (gA g b1))]) (by decide +kernel) rfl (Nat.le_of_ble_eq_true rfl) rfl (fun p e s m args below meth c X hr => pj_X2_standsAndTurnsAs_e X hr b b1 hb hb1 M)

def pi_X3_finding_e (v1 : Int32) (M : Mem) : Option (Int32 × Mem) := gd (inb v1 7) <| gd (inb v1 7) <| bM (up M 48 v1.toNatClampNeg ((M 48 v1.toNatClampNeg) + 1)) fun M_3 => some ((-1000001) - v1, M_3)
set_option maxRecDepth 100000 in
set_option maxHeartbeats 4000000 in
theorem pj_X3_finding_e {p : Program} {l : Launch} {e : Env} {R : Room} {s : State} {m : MethodId} {args : Array Value} {below : List Frame} {meth : Method} {c : Code} {g : Gh} (X : Cx p l e R s m args below meth c g cX3_finding 2 (0, 0) RX3 0) (hr : meth.sig.returnType = (some (.int))) (v1 : Int32) (M : Mem) : J p l e R s m args below meth c g 2 (0, 0) (QfI below args s g) (pi_X3_finding_e v1 M) M 0 [(0, .ref (gA g 0)), (1, .int v1)] [] := by
  unfold pi_X3_finding_e
  refine j_aload_n (i := 0) X dX3_finding_0 rfl rfl ?_
  refine j_get_hd 6 X (by decide) wq_167 rfl dX3_finding_1 ?_
  refine j_iload_n (i := 1) X dX3_finding_4 rfl rfl ?_
  refine j_dup2 X dX3_finding_5 rfl rfl ?_
  refine j_iald X ia_48 dX3_finding_6 (fun h_1 => ?_)
  refine j_iconst (v := 1) X dX3_finding_7 rfl ?_
  refine j_iadd X dX3_finding_8 ?_
  refine j_iast X ia_48 dX3_finding_9 (fun h_2 => ?_)
  refine j_bM (fun M_3 => ?_)
  refine j_ldc (v := (-1000001)) X wq_168 dX3_finding_10 ?_
  refine j_iload_n (i := 1) X dX3_finding_12 rfl rfl ?_
  refine j_isub X dX3_finding_13 ?_
  exact j_iret X hr dX3_finding_14
def mi_X3_finding (v1 : Int32) (M : Mem) : Option (Int32 × Mem) := pi_X3_finding_e v1 M
theorem ct_X3_finding (l : Launch) (g : Gh) (v1 : Int32) (M : Mem) : CtI l g yX3_finding cX3_finding 2 (some (.int)) 0 [.ref (gA g 0), .int v1] M (mi_X3_finding v1 M) := ctI_of (own := RX3) (L := [(0, .ref (gA g 0)), (1, .int v1)]) (by decide +kernel) rfl (Nat.le_of_ble_eq_true rfl) rfl (fun p e s m args below meth c X hr => pj_X3_finding_e X hr v1  M)

def pi_X3_isOutside_e (v0 : Int32) (v1 : Int32) (v2 : Int32) (M : Mem) : Option (Int32 × Mem) := if v0 < v1 then (gd (isB 1) (some (1, M))) else (if v0 ≤ v2 then (gd (isB 0) (some (0, M))) else (gd (isB 1) (some (1, M))))
set_option maxRecDepth 100000 in
set_option maxHeartbeats 4000000 in
theorem pj_X3_isOutside_e {p : Program} {l : Launch} {e : Env} {R : Room} {s : State} {m : MethodId} {args : Array Value} {below : List Frame} {meth : Method} {c : Code} {g : Gh} (X : Cx p l e R s m args below meth c g cX3_isOutside 3 (0, 0) RX3 0) (hr : meth.sig.returnType = (some (.boolean))) (v0 : Int32) (v1 : Int32) (v2 : Int32) (M : Mem) : J p l e R s m args below meth c g 3 (0, 0) (QfI below args s g) (pi_X3_isOutside_e v0 v1 v2 M) M 0 [(0, .int v0), (1, .int v1), (2, .int v2)] [] := by
  unfold pi_X3_isOutside_e
  refine j_iload_n (i := 0) X dX3_isOutside_0 rfl rfl ?_
  refine j_iload_n (i := 1) X dX3_isOutside_1 rfl rfl ?_
  refine j_icmp_lt (tgt := 10) X dX3_isOutside_2 (by decide) ?_ ?_
  · refine j_iconst (v := 1) X dX3_isOutside_10 rfl ?_
    refine j_goto (tgt := 15) X dX3_isOutside_11 (by decide) ?_
    exact j_zret X hr dX3_isOutside_15
  · refine j_iload_n (i := 0) X dX3_isOutside_5 rfl rfl ?_
    refine j_iload_n (i := 2) X dX3_isOutside_6 rfl rfl ?_
    refine j_icmp_le (tgt := 14) X dX3_isOutside_7 (by decide) ?_ ?_
    · refine j_iconst (v := 0) X dX3_isOutside_14 rfl ?_
      exact j_zret X hr dX3_isOutside_15
    · refine j_iconst (v := 1) X dX3_isOutside_10 rfl ?_
      refine j_goto (tgt := 15) X dX3_isOutside_11 (by decide) ?_
      exact j_zret X hr dX3_isOutside_15
def mi_X3_isOutside (v0 : Int32) (v1 : Int32) (v2 : Int32) (M : Mem) : Option (Int32 × Mem) := pi_X3_isOutside_e v0 v1 v2 M
theorem ct_X3_isOutside (l : Launch) (g : Gh) (v0 : Int32) (v1 : Int32) (v2 : Int32) (M : Mem) : CtI l g yX3_isOutside cX3_isOutside 3 (some (.boolean)) 0 [.int v0, .int v1, .int v2] M (mi_X3_isOutside v0 v1 v2 M) := ctI_of (own := RX3) (L := [(0, .int v0), (1, .int v1), (2, .int v2)]) (by decide +kernel) rfl (Nat.le_of_ble_eq_true rfl) rfl (fun p e s m args below meth c X hr => pj_X3_isOutside_e X hr v0 v1 v2  M)

def pi_X3_rain_e (v1 : Int32) (M : Mem) : Option (Int32 × Mem) := bd (mi_X3_isOutside v1 0 9 M) fun r_2 M_1 => if r_2 = 0 then (bI (M_1 1 0) fun v2_3 => bM (up M_1 1 0 v1) fun M_4 => some (v2_3, M_4)) else (bd (mi_X3_finding 0 M_1) fun r_6 M_5 => some (r_6, M_5))
set_option maxRecDepth 100000 in
set_option maxHeartbeats 4000000 in
theorem pj_X3_rain_e {p : Program} {l : Launch} {e : Env} {R : Room} {s : State} {m : MethodId} {args : Array Value} {below : List Frame} {meth : Method} {c : Code} {g : Gh} (X : Cx p l e R s m args below meth c g cX3_rain 3 (0, 0) RX3 1) (hr : meth.sig.returnType = (some (.int))) (v1 : Int32) (M : Mem) : J p l e R s m args below meth c g 3 (0, 0) (QfI below args s g) (pi_X3_rain_e v1 M) M 0 [(0, .ref (gA g 0)), (1, .int v1)] [] := by
  unfold pi_X3_rain_e
  refine j_iload_n (i := 1) X dX3_rain_0 rfl rfl ?_
  refine j_iconst (v := 0) X dX3_rain_1 rfl ?_
  refine j_bipush (v := 9) X dX3_rain_2 rfl ?_
  refine k_cSI (As := [.int v1, .int 0, .int 9]) (rest := []) X (ct_X3_isOutside l g v1 0 9 M) wl_X3_40 rfl rfl (by decide) (Nat.le_of_ble_eq_true rfl) dX3_rain_4 (fun r_2 M_1 => ?_)
  refine j_if_eq (tgt := 16) X dX3_rain_7 (by decide) ?_ ?_
  · refine j_aload_n (i := 0) X dX3_rain_16 rfl rfl ?_
    refine j_get_hd 0 X (by decide) wq_172 rfl dX3_rain_17 ?_
    refine j_getN_sh sh_1 0 X (by decide) (by decide +kernel) rfl dX3_rain_20 ?_
    refine j_bI (fun v2_3 => ?_)
    refine j_istore_n (i := 2) (Lq := [(0, .ref (gA g 0)), (1, .int v1), (2, .int v2_3)]) X dX3_rain_23 rfl (by decide) rfl ?_
    refine j_aload_n (i := 0) X dX3_rain_24 rfl rfl ?_
    refine j_get_hd 0 X (by decide) wq_172 rfl dX3_rain_25 ?_
    refine j_iload_n (i := 1) X dX3_rain_28 rfl rfl ?_
    refine j_putN_sh (ty := .int) sh_1 0 X (by decide) (by decide +kernel) (fun _ => rfl) rfl (by decide +kernel) rfl rfl dX3_rain_29 ?_
    refine j_bM (fun M_4 => ?_)
    refine j_iload_n (i := 2) X dX3_rain_32 rfl rfl ?_
    exact j_iret X hr dX3_rain_33
  · refine j_aload_n (i := 0) X dX3_rain_10 rfl rfl ?_
    refine j_iconst (v := 0) X dX3_rain_11 rfl ?_
    refine k_cVI (As := [.int 0]) (rest := []) (by decide) (cf_hd _) rfl X (ct_X3_finding l g 0 M_1) wl_X3_44 rfl rfl (by decide) (Nat.le_of_ble_eq_true rfl) dX3_rain_12 (fun r_6 M_5 => ?_)
    exact j_iret X hr dX3_rain_15
def mi_X3_rain (v1 : Int32) (M : Mem) : Option (Int32 × Mem) := pi_X3_rain_e v1 M
theorem ct_X3_rain (l : Launch) (g : Gh) (v1 : Int32) (M : Mem) : CtI l g yX3_rain cX3_rain 3 (some (.int)) 1 [.ref (gA g 0), .int v1] M (mi_X3_rain v1 M) := ctI_of (own := RX3) (L := [(0, .ref (gA g 0)), (1, .int v1)]) (by decide +kernel) rfl (Nat.le_of_ble_eq_true rfl) rfl (fun p e s m args below meth c X hr => pj_X3_rain_e X hr v1  M)

def pi_X3_isNoValley_e (v0 : Int32) (M : Mem) : Option (Int32 × Mem) := bd (mi_X3_isOutside v0 0 11 M) fun r_2 M_1 => gd (isB r_2) (some (r_2, M_1))
set_option maxRecDepth 100000 in
set_option maxHeartbeats 4000000 in
theorem pj_X3_isNoValley_e {p : Program} {l : Launch} {e : Env} {R : Room} {s : State} {m : MethodId} {args : Array Value} {below : List Frame} {meth : Method} {c : Code} {g : Gh} (X : Cx p l e R s m args below meth c g cX3_isNoValley 1 (0, 0) RX3 1) (hr : meth.sig.returnType = (some (.boolean))) (v0 : Int32) (M : Mem) : J p l e R s m args below meth c g 1 (0, 0) (QfI below args s g) (pi_X3_isNoValley_e v0 M) M 0 [(0, .int v0)] [] := by
  unfold pi_X3_isNoValley_e
  refine j_iload_n (i := 0) X dX3_isNoValley_0 rfl rfl ?_
  refine j_iconst (v := 0) X dX3_isNoValley_1 rfl ?_
  refine j_bipush (v := 11) X dX3_isNoValley_2 rfl ?_
  refine k_cSI (As := [.int v0, .int 0, .int 11]) (rest := []) X (ct_X3_isOutside l g v0 0 11 M) wl_X3_40 rfl rfl (by decide) (Nat.le_of_ble_eq_true rfl) dX3_isNoValley_4 (fun r_2 M_1 => ?_)
  exact j_zret X hr dX3_isNoValley_7
def mi_X3_isNoValley (v0 : Int32) (M : Mem) : Option (Int32 × Mem) := pi_X3_isNoValley_e v0 M
theorem ct_X3_isNoValley (l : Launch) (g : Gh) (v0 : Int32) (M : Mem) : CtI l g yX3_isNoValley cX3_isNoValley 1 (some (.boolean)) 1 [.int v0] M (mi_X3_isNoValley v0 M) := ctI_of (own := RX3) (L := [(0, .int v0)]) (by decide +kernel) rfl (Nat.le_of_ble_eq_true rfl) rfl (fun p e s m args below meth c X hr => pj_X3_isNoValley_e X hr v0  M)

def pi_X3_hill_17 (v1 : Int32) (v2 : Int32) (M : Mem) : Option (Int32 × Mem) := bd (mi_X3_finding 0 M) fun r_12 M_11 => some (r_12, M_11)
set_option maxRecDepth 100000 in
set_option maxHeartbeats 4000000 in
theorem pj_X3_hill_17 {p : Program} {l : Launch} {e : Env} {R : Room} {s : State} {m : MethodId} {args : Array Value} {below : List Frame} {meth : Method} {c : Code} {g : Gh} (X : Cx p l e R s m args below meth c g cX3_hill 3 (0, 0) RX3 3) (hr : meth.sig.returnType = (some (.int))) (v1 : Int32) (v2 : Int32) (M : Mem) : J p l e R s m args below meth c g 3 (0, 0) (QfI below args s g) (pi_X3_hill_17 v1 v2 M) M 17 [(0, .ref (gA g 0)), (1, .int v1), (2, .int v2)] [] := by
  unfold pi_X3_hill_17
  refine j_aload_n (i := 0) X dX3_hill_17 rfl rfl ?_
  refine j_iconst (v := 0) X dX3_hill_18 rfl ?_
  refine k_cVI (As := [.int 0]) (rest := []) (by decide) (cf_hd _) rfl X (ct_X3_finding l g 0 M) wl_X3_44 rfl rfl (by decide) (Nat.le_of_ble_eq_true rfl) dX3_hill_19 (fun r_12 M_11 => ?_)
  exact j_iret X hr dX3_hill_22
def pi_X3_hill_e (v1 : Int32) (v2 : Int32) (M : Mem) : Option (Int32 × Mem) := bd (mi_X3_isOutside v1 0 6 M) fun r_2 M_1 => if r_2 = 0 then (bd (mi_X3_isNoValley v2 M_1) fun r_4 M_3 => if r_4 = 0 then (bd (mi_X2_isCrowded 1 M_3) fun r_6 M_5 => if r_6 = 0 then (bd (mi_X2_raise 1 v1 v2 M_5) fun r_8 M_7 => some (r_8, M_7)) else (bd (mi_X3_finding 1 M_5) fun r_10 M_9 => some (r_10, M_9))) else (pi_X3_hill_17 v1 v2 M_3)) else (pi_X3_hill_17 v1 v2 M_1)
set_option maxRecDepth 100000 in
set_option maxHeartbeats 4000000 in
theorem pj_X3_hill_e {p : Program} {l : Launch} {e : Env} {R : Room} {s : State} {m : MethodId} {args : Array Value} {below : List Frame} {meth : Method} {c : Code} {g : Gh} (X : Cx p l e R s m args below meth c g cX3_hill 3 (0, 0) RX3 3) (hr : meth.sig.returnType = (some (.int))) (v1 : Int32) (v2 : Int32) (M : Mem) : J p l e R s m args below meth c g 3 (0, 0) (QfI below args s g) (pi_X3_hill_e v1 v2 M) M 0 [(0, .ref (gA g 0)), (1, .int v1), (2, .int v2)] [] := by
  unfold pi_X3_hill_e
  refine j_iload_n (i := 1) X dX3_hill_0 rfl rfl ?_
  refine j_iconst (v := 0) X dX3_hill_1 rfl ?_
  refine j_bipush (v := 6) X dX3_hill_2 rfl ?_
  refine k_cSI (As := [.int v1, .int 0, .int 6]) (rest := []) X (ct_X3_isOutside l g v1 0 6 M) wl_X3_40 rfl rfl (by decide) (Nat.le_of_ble_eq_true rfl) dX3_hill_4 (fun r_2 M_1 => ?_)
  refine j_if_ne (tgt := 17) X dX3_hill_7 (by decide) ?_ ?_
  · refine j_iload_n (i := 2) X dX3_hill_10 rfl rfl ?_
    refine k_cSI (As := [.int v2]) (rest := []) X (ct_X3_isNoValley l g v2 M_1) wl_X3_52 rfl rfl (by decide) (Nat.le_of_ble_eq_true rfl) dX3_hill_11 (fun r_4 M_3 => ?_)
    refine j_if_eq (tgt := 23) X dX3_hill_14 (by decide) ?_ ?_
    · refine j_aload_n (i := 0) X dX3_hill_23 rfl rfl ?_
      refine j_get_hd 0 X (by decide) wq_172 rfl dX3_hill_24 ?_
      refine k_cVI (As := []) (rest := []) sh_1.lt (cf_sh sh_1 _) rfl X (ct_X2_isCrowded l g 1 sh_1 M_3) wl_X3_56 rfl rfl (by decide) (Nat.le_of_ble_eq_true rfl) dX3_hill_27 (fun r_6 M_5 => ?_)
      refine j_if_eq (tgt := 39) X dX3_hill_30 (by decide) ?_ ?_
      · refine j_aload_n (i := 0) X dX3_hill_39 rfl rfl ?_
        refine j_get_hd 0 X (by decide) wq_172 rfl dX3_hill_40 ?_
        refine j_iload_n (i := 1) X dX3_hill_43 rfl rfl ?_
        refine j_iload_n (i := 2) X dX3_hill_44 rfl rfl ?_
        refine k_cVI (As := [.int v1, .int v2]) (rest := []) sh_1.lt (cf_sh sh_1 _) rfl X (ct_X2_raise l g 1 v1 v2 sh_1 M_5) wl_X3_60 rfl rfl (by decide) (Nat.le_of_ble_eq_true rfl) dX3_hill_45 (fun r_8 M_7 => ?_)
        exact j_iret X hr dX3_hill_48
      · refine j_aload_n (i := 0) X dX3_hill_33 rfl rfl ?_
        refine j_iconst (v := 1) X dX3_hill_34 rfl ?_
        refine k_cVI (As := [.int 1]) (rest := []) (by decide) (cf_hd _) rfl X (ct_X3_finding l g 1 M_5) wl_X3_44 rfl rfl (by decide) (Nat.le_of_ble_eq_true rfl) dX3_hill_35 (fun r_10 M_9 => ?_)
        exact j_iret X hr dX3_hill_38
    · exact pj_X3_hill_17 X hr v1 v2 M_3
  · exact pj_X3_hill_17 X hr v1 v2 M_1
def mi_X3_hill (v1 : Int32) (v2 : Int32) (M : Mem) : Option (Int32 × Mem) := pi_X3_hill_e v1 v2 M
theorem ct_X3_hill (l : Launch) (g : Gh) (v1 : Int32) (v2 : Int32) (M : Mem) : CtI l g yX3_hill cX3_hill 3 (some (.int)) 3 [.ref (gA g 0), .int v1, .int v2] M (mi_X3_hill v1 v2 M) := ctI_of (own := RX3) (L := [(0, .ref (gA g 0)), (1, .int v1), (2, .int v2)]) (by decide +kernel) rfl (Nat.le_of_ble_eq_true rfl) rfl (fun p e s m args below meth c X hr => pj_X3_hill_e X hr v1 v2  M)

def pi_X3_of_21 (v1 : Int32) (v2 : Int32) (M : Mem) : Option (Int32 × Mem) := bd (mi_X3_finding 0 M) fun r_16 M_15 => some (r_16, M_15)
set_option maxRecDepth 100000 in
set_option maxHeartbeats 4000000 in
theorem pj_X3_of_21 {p : Program} {l : Launch} {e : Env} {R : Room} {s : State} {m : MethodId} {args : Array Value} {below : List Frame} {meth : Method} {c : Code} {g : Gh} (X : Cx p l e R s m args below meth c g cX3_of 3 (0, 0) RX3 3) (hr : meth.sig.returnType = (some (.int))) (v1 : Int32) (v2 : Int32) (M : Mem) : J p l e R s m args below meth c g 3 (0, 0) (QfI below args s g) (pi_X3_of_21 v1 v2 M) M 21 [(0, .ref (gA g 0)), (1, .int v1), (2, .int v2)] [] := by
  unfold pi_X3_of_21
  refine j_aload_n (i := 0) X dX3_of_21 rfl rfl ?_
  refine j_iconst (v := 0) X dX3_of_22 rfl ?_
  refine k_cVI (As := [.int 0]) (rest := []) (by decide) (cf_hd _) rfl X (ct_X3_finding l g 0 M) wl_X3_44 rfl rfl (by decide) (Nat.le_of_ble_eq_true rfl) dX3_of_23 (fun r_16 M_15 => ?_)
  exact j_iret X hr dX3_of_26
def pi_X3_of_e (v1 : Int32) (v2 : Int32) (M : Mem) : Option (Int32 × Mem) := bd (mi_X2_lacks 1 v1 M) fun r_2 M_1 => if r_2 = 0 then (bd (mi_X3_isOutside v2 0 10 M_1) fun r_4 M_3 => if r_4 = 0 then (swc v2 [(7, bd (mi_X2_movesOf 1 v1 M_3) fun r_6 M_5 => some (r_6, M_5)), (8, bd (mi_X2_turnsOf 1 v1 M_3) fun r_8 M_7 => some (r_8, M_7)), (9, bd (mi_X2_sinksOf 1 v1 M_3) fun r_10 M_9 => some (r_10, M_9)), (10, bd (mi_X2_meetsOf 1 v1 M_3) fun r_12 M_11 => some (r_12, M_11))] (bd (mi_X2_trait 1 v1 v2 M_3) fun r_14 M_13 => some (r_14, M_13))) else (pi_X3_of_21 v1 v2 M_3)) else (pi_X3_of_21 v1 v2 M_1)
set_option maxRecDepth 100000 in
set_option maxHeartbeats 4000000 in
theorem pj_X3_of_e {p : Program} {l : Launch} {e : Env} {R : Room} {s : State} {m : MethodId} {args : Array Value} {below : List Frame} {meth : Method} {c : Code} {g : Gh} (X : Cx p l e R s m args below meth c g cX3_of 3 (0, 0) RX3 3) (hr : meth.sig.returnType = (some (.int))) (v1 : Int32) (v2 : Int32) (M : Mem) : J p l e R s m args below meth c g 3 (0, 0) (QfI below args s g) (pi_X3_of_e v1 v2 M) M 0 [(0, .ref (gA g 0)), (1, .int v1), (2, .int v2)] [] := by
  unfold pi_X3_of_e
  refine j_aload_n (i := 0) X dX3_of_0 rfl rfl ?_
  refine j_get_hd 0 X (by decide) wq_172 rfl dX3_of_1 ?_
  refine j_iload_n (i := 1) X dX3_of_4 rfl rfl ?_
  refine k_cVI (As := [.int v1]) (rest := []) sh_1.lt (cf_sh sh_1 _) rfl X (ct_X2_lacks l g 1 v1 sh_1 M) wl_X3_64 rfl rfl (by decide) (Nat.le_of_ble_eq_true rfl) dX3_of_5 (fun r_2 M_1 => ?_)
  refine j_if_ne (tgt := 21) X dX3_of_8 (by decide) ?_ ?_
  · refine j_iload_n (i := 2) X dX3_of_11 rfl rfl ?_
    refine j_iconst (v := 0) X dX3_of_12 rfl ?_
    refine j_bipush (v := 10) X dX3_of_13 rfl ?_
    refine k_cSI (As := [.int v2, .int 0, .int 10]) (rest := []) X (ct_X3_isOutside l g v2 0 10 M_1) wl_X3_40 rfl rfl (by decide) (Nat.le_of_ble_eq_true rfl) dX3_of_15 (fun r_4 M_3 => ?_)
    refine j_if_eq (tgt := 27) X dX3_of_18 (by decide) ?_ ?_
    · refine j_iload_n (i := 2) X dX3_of_27 rfl rfl ?_
      refine j_tsw [7, 8, 9, 10] [60, 69, 78, 87] (dt := 96) X dX3_of_28 rfl (by decide +kernel) (by decide +kernel) (by decide) ⟨?_, ?_, ?_, ?_, trivial⟩ ?_
      · refine j_aload_n (i := 0) X dX3_of_60 rfl rfl ?_
        refine j_get_hd 0 X (by decide) wq_172 rfl dX3_of_61 ?_
        refine j_iload_n (i := 1) X dX3_of_64 rfl rfl ?_
        refine k_cVI (As := [.int v1]) (rest := []) sh_1.lt (cf_sh sh_1 _) rfl X (ct_X2_movesOf l g 1 v1 sh_1 M_3) wl_X3_67 rfl rfl (by decide) (Nat.le_of_ble_eq_true rfl) dX3_of_65 (fun r_6 M_5 => ?_)
        exact j_iret X hr dX3_of_68
      · refine j_aload_n (i := 0) X dX3_of_69 rfl rfl ?_
        refine j_get_hd 0 X (by decide) wq_172 rfl dX3_of_70 ?_
        refine j_iload_n (i := 1) X dX3_of_73 rfl rfl ?_
        refine k_cVI (As := [.int v1]) (rest := []) sh_1.lt (cf_sh sh_1 _) rfl X (ct_X2_turnsOf l g 1 v1 sh_1 M_3) wl_X3_70 rfl rfl (by decide) (Nat.le_of_ble_eq_true rfl) dX3_of_74 (fun r_8 M_7 => ?_)
        exact j_iret X hr dX3_of_77
      · refine j_aload_n (i := 0) X dX3_of_78 rfl rfl ?_
        refine j_get_hd 0 X (by decide) wq_172 rfl dX3_of_79 ?_
        refine j_iload_n (i := 1) X dX3_of_82 rfl rfl ?_
        refine k_cVI (As := [.int v1]) (rest := []) sh_1.lt (cf_sh sh_1 _) rfl X (ct_X2_sinksOf l g 1 v1 sh_1 M_3) wl_X3_73 rfl rfl (by decide) (Nat.le_of_ble_eq_true rfl) dX3_of_83 (fun r_10 M_9 => ?_)
        exact j_iret X hr dX3_of_86
      · refine j_aload_n (i := 0) X dX3_of_87 rfl rfl ?_
        refine j_get_hd 0 X (by decide) wq_172 rfl dX3_of_88 ?_
        refine j_iload_n (i := 1) X dX3_of_91 rfl rfl ?_
        refine k_cVI (As := [.int v1]) (rest := []) sh_1.lt (cf_sh sh_1 _) rfl X (ct_X2_meetsOf l g 1 v1 sh_1 M_3) wl_X3_76 rfl rfl (by decide) (Nat.le_of_ble_eq_true rfl) dX3_of_92 (fun r_12 M_11 => ?_)
        exact j_iret X hr dX3_of_95
      · refine j_aload_n (i := 0) X dX3_of_96 rfl rfl ?_
        refine j_get_hd 0 X (by decide) wq_172 rfl dX3_of_97 ?_
        refine j_iload_n (i := 1) X dX3_of_100 rfl rfl ?_
        refine j_iload_n (i := 2) X dX3_of_101 rfl rfl ?_
        refine k_cVI (As := [.int v1, .int v2]) (rest := []) sh_1.lt (cf_sh sh_1 _) rfl X (ct_X2_trait l g 1 v1 v2 sh_1 M_3) wl_X3_79 rfl rfl (by decide) (Nat.le_of_ble_eq_true rfl) dX3_of_102 (fun r_14 M_13 => ?_)
        exact j_iret X hr dX3_of_105
    · exact pj_X3_of_21 X hr v1 v2 M_3
  · exact pj_X3_of_21 X hr v1 v2 M_1
def mi_X3_of (v1 : Int32) (v2 : Int32) (M : Mem) : Option (Int32 × Mem) := pi_X3_of_e v1 v2 M
theorem ct_X3_of (l : Launch) (g : Gh) (v1 : Int32) (v2 : Int32) (M : Mem) : CtI l g yX3_of cX3_of 3 (some (.int)) 3 [.ref (gA g 0), .int v1, .int v2] M (mi_X3_of v1 v2 M) := ctI_of (own := RX3) (L := [(0, .ref (gA g 0)), (1, .int v1), (2, .int v2)]) (by decide +kernel) rfl (Nat.le_of_ble_eq_true rfl) rfl (fun p e s m args below meth c X hr => pj_X3_of_e X hr v1 v2  M)

def pi_X3_leastOf_e (v0 : Int32) (M : Mem) : Option (Int32 × Mem) := if v0 = 2 then (some ((-5), M)) else (some (0, M))
set_option maxRecDepth 100000 in
set_option maxHeartbeats 4000000 in
theorem pj_X3_leastOf_e {p : Program} {l : Launch} {e : Env} {R : Room} {s : State} {m : MethodId} {args : Array Value} {below : List Frame} {meth : Method} {c : Code} {g : Gh} (X : Cx p l e R s m args below meth c g cX3_leastOf 1 (0, 0) RX3 0) (hr : meth.sig.returnType = (some (.int))) (v0 : Int32) (M : Mem) : J p l e R s m args below meth c g 1 (0, 0) (QfI below args s g) (pi_X3_leastOf_e v0 M) M 0 [(0, .int v0)] [] := by
  unfold pi_X3_leastOf_e
  refine j_iload_n (i := 0) X dX3_leastOf_0 rfl rfl ?_
  refine j_iconst (v := 2) X dX3_leastOf_1 rfl ?_
  refine j_icmp_ne (tgt := 10) X dX3_leastOf_2 (by decide) ?_ ?_
  · refine j_bipush (v := (-5)) X dX3_leastOf_5 rfl ?_
    refine j_goto (tgt := 11) X dX3_leastOf_7 (by decide) ?_
    exact j_iret X hr dX3_leastOf_11
  · refine j_iconst (v := 0) X dX3_leastOf_10 rfl ?_
    exact j_iret X hr dX3_leastOf_11
def mi_X3_leastOf (v0 : Int32) (M : Mem) : Option (Int32 × Mem) := pi_X3_leastOf_e v0 M
theorem ct_X3_leastOf (l : Launch) (g : Gh) (v0 : Int32) (M : Mem) : CtI l g yX3_leastOf cX3_leastOf 1 (some (.int)) 0 [.int v0] M (mi_X3_leastOf v0 M) := ctI_of (own := RX3) (L := [(0, .int v0)]) (by decide +kernel) rfl (Nat.le_of_ble_eq_true rfl) rfl (fun p e s m args below meth c X hr => pj_X3_leastOf_e X hr v0  M)

def pi_X3_change_35 (v1 : Int32) (v2 : Int32) (v3 : Int32) (M : Mem) : Option (Int32 × Mem) := bd (mi_X3_finding 0 M) fun r_15 M_14 => some (r_15, M_14)
set_option maxRecDepth 100000 in
set_option maxHeartbeats 4000000 in
theorem pj_X3_change_35 {p : Program} {l : Launch} {e : Env} {R : Room} {s : State} {m : MethodId} {args : Array Value} {below : List Frame} {meth : Method} {c : Code} {g : Gh} (X : Cx p l e R s m args below meth c g cX3_change 5 (0, 0) RX3 3) (hr : meth.sig.returnType = (some (.int))) (v1 : Int32) (v2 : Int32) (v3 : Int32) (M : Mem) : J p l e R s m args below meth c g 5 (0, 0) (QfI below args s g) (pi_X3_change_35 v1 v2 v3 M) M 35 [(0, .ref (gA g 0)), (1, .int v1), (2, .int v2), (3, .int v3)] [] := by
  unfold pi_X3_change_35
  refine j_aload_n (i := 0) X dX3_change_35 rfl rfl ?_
  refine j_iconst (v := 0) X dX3_change_36 rfl ?_
  refine k_cVI (As := [.int 0]) (rest := []) (by decide) (cf_hd _) rfl X (ct_X3_finding l g 0 M) wl_X3_44 rfl rfl (by decide) (Nat.le_of_ble_eq_true rfl) dX3_change_37 (fun r_15 M_14 => ?_)
  exact j_iret X hr dX3_change_40
def pi_X3_change_e (v1 : Int32) (v2 : Int32) (v3 : Int32) (M : Mem) : Option (Int32 × Mem) := bd (mi_X2_lacks 1 v1 M) fun r_2 M_1 => if r_2 = 0 then (bd (mi_X3_isOutside v2 0 5 M_1) fun r_4 M_3 => if r_4 = 0 then (bd (mi_X3_leastOf v2 M_3) fun r_6 M_5 => bd (mi_X3_mostOf v2 M_5) fun r_8 M_7 => bd (mi_X3_isOutside v3 r_6 r_8 M_7) fun r_10 M_9 => if r_10 = 0 then (bd (mi_X2_trait 1 v1 v2 M_9) fun r_12 M_11 => bv (mi_X2_setTrait 1 v1 v2 v3 M_11) fun M_13 => some (r_12, M_13)) else (pi_X3_change_35 v1 v2 v3 M_9)) else (pi_X3_change_35 v1 v2 v3 M_3)) else (pi_X3_change_35 v1 v2 v3 M_1)
set_option maxRecDepth 100000 in
set_option maxHeartbeats 4000000 in
theorem pj_X3_change_e {p : Program} {l : Launch} {e : Env} {R : Room} {s : State} {m : MethodId} {args : Array Value} {below : List Frame} {meth : Method} {c : Code} {g : Gh} (X : Cx p l e R s m args below meth c g cX3_change 5 (0, 0) RX3 3) (hr : meth.sig.returnType = (some (.int))) (v1 : Int32) (v2 : Int32) (v3 : Int32) (M : Mem) : J p l e R s m args below meth c g 5 (0, 0) (QfI below args s g) (pi_X3_change_e v1 v2 v3 M) M 0 [(0, .ref (gA g 0)), (1, .int v1), (2, .int v2), (3, .int v3)] [] := by
  unfold pi_X3_change_e
  refine j_aload_n (i := 0) X dX3_change_0 rfl rfl ?_
  refine j_get_hd 0 X (by decide) wq_172 rfl dX3_change_1 ?_
  refine j_iload_n (i := 1) X dX3_change_4 rfl rfl ?_
  refine k_cVI (As := [.int v1]) (rest := []) sh_1.lt (cf_sh sh_1 _) rfl X (ct_X2_lacks l g 1 v1 sh_1 M) wl_X3_64 rfl rfl (by decide) (Nat.le_of_ble_eq_true rfl) dX3_change_5 (fun r_2 M_1 => ?_)
  refine j_if_ne (tgt := 35) X dX3_change_8 (by decide) ?_ ?_
  · refine j_iload_n (i := 2) X dX3_change_11 rfl rfl ?_
    refine j_iconst (v := 0) X dX3_change_12 rfl ?_
    refine j_iconst (v := 5) X dX3_change_13 rfl ?_
    refine k_cSI (As := [.int v2, .int 0, .int 5]) (rest := []) X (ct_X3_isOutside l g v2 0 5 M_1) wl_X3_40 rfl rfl (by decide) (Nat.le_of_ble_eq_true rfl) dX3_change_14 (fun r_4 M_3 => ?_)
    refine j_if_ne (tgt := 35) X dX3_change_17 (by decide) ?_ ?_
    · refine j_iload_n (i := 3) X dX3_change_20 rfl rfl ?_
      refine j_iload_n (i := 2) X dX3_change_21 rfl rfl ?_
      refine k_cSI (As := [.int v2]) (rest := [.int v3]) X (ct_X3_leastOf l g v2 M_3) wl_X3_82 rfl rfl (by decide) (Nat.le_of_ble_eq_true rfl) dX3_change_22 (fun r_6 M_5 => ?_)
      refine j_iload_n (i := 2) X dX3_change_25 rfl rfl ?_
      refine k_cSI (As := [.int v2]) (rest := [.int r_6, .int v3]) X (ct_X3_mostOf l g v2 M_5) wl_X3_85 rfl rfl (by decide) (Nat.le_of_ble_eq_true rfl) dX3_change_26 (fun r_8 M_7 => ?_)
      refine k_cSI (As := [.int v3, .int r_6, .int r_8]) (rest := []) X (ct_X3_isOutside l g v3 r_6 r_8 M_7) wl_X3_40 rfl rfl (by decide) (Nat.le_of_ble_eq_true rfl) dX3_change_29 (fun r_10 M_9 => ?_)
      refine j_if_eq (tgt := 41) X dX3_change_32 (by decide) ?_ ?_
      · refine j_aload_n (i := 0) X dX3_change_41 rfl rfl ?_
        refine j_get_hd 0 X (by decide) wq_172 rfl dX3_change_42 ?_
        refine j_iload_n (i := 1) X dX3_change_45 rfl rfl ?_
        refine j_iload_n (i := 2) X dX3_change_46 rfl rfl ?_
        refine k_cVI (As := [.int v1, .int v2]) (rest := []) sh_1.lt (cf_sh sh_1 _) rfl X (ct_X2_trait l g 1 v1 v2 sh_1 M_9) wl_X3_79 rfl rfl (by decide) (Nat.le_of_ble_eq_true rfl) dX3_change_47 (fun r_12 M_11 => ?_)
        refine j_istore (i := 4) (Lq := [(0, .ref (gA g 0)), (1, .int v1), (2, .int v2), (3, .int v3), (4, .int r_12)]) X dX3_change_50 (by decide) rfl ?_
        refine j_aload_n (i := 0) X dX3_change_52 rfl rfl ?_
        refine j_get_hd 0 X (by decide) wq_172 rfl dX3_change_53 ?_
        refine j_iload_n (i := 1) X dX3_change_56 rfl rfl ?_
        refine j_iload_n (i := 2) X dX3_change_57 rfl rfl ?_
        refine j_iload_n (i := 3) X dX3_change_58 rfl rfl ?_
        refine k_cVV (As := [.int v1, .int v2, .int v3]) (rest := []) sh_1.lt (cf_sh sh_1 _) rfl X (ct_X2_setTrait l g 1 v1 v2 v3 sh_1 M_11) wl_X3_88 rfl rfl (by decide) (Nat.le_of_ble_eq_true rfl) dX3_change_59 (fun M_13 => ?_)
        refine j_iload (i := 4) X dX3_change_62 rfl ?_
        exact j_iret X hr dX3_change_64
      · exact pj_X3_change_35 X hr v1 v2 v3 M_9
    · exact pj_X3_change_35 X hr v1 v2 v3 M_3
  · exact pj_X3_change_35 X hr v1 v2 v3 M_1
def mi_X3_change (v1 : Int32) (v2 : Int32) (v3 : Int32) (M : Mem) : Option (Int32 × Mem) := pi_X3_change_e v1 v2 v3 M
theorem ct_X3_change (l : Launch) (g : Gh) (v1 : Int32) (v2 : Int32) (v3 : Int32) (M : Mem) : CtI l g yX3_change cX3_change 5 (some (.int)) 3 [.ref (gA g 0), .int v1, .int v2, .int v3] M (mi_X3_change v1 v2 v3 M) := ctI_of (own := RX3) (L := [(0, .ref (gA g 0)), (1, .int v1), (2, .int v2), (3, .int v3)]) (by decide +kernel) rfl (Nat.le_of_ble_eq_true rfl) rfl (fun p e s m args below meth c X hr => pj_X3_change_e X hr v1 v2 v3  M)

def pi_X3_valley_16 (v1 : Int32) (v2 : Int32) (M : Mem) : Option (Int32 × Mem) := bd (mi_X3_finding 0 M) fun r_12 M_11 => some (r_12, M_11)
set_option maxRecDepth 100000 in
set_option maxHeartbeats 4000000 in
theorem pj_X3_valley_16 {p : Program} {l : Launch} {e : Env} {R : Room} {s : State} {m : MethodId} {args : Array Value} {below : List Frame} {meth : Method} {c : Code} {g : Gh} (X : Cx p l e R s m args below meth c g cX3_valley 3 (0, 0) RX3 2) (hr : meth.sig.returnType = (some (.int))) (v1 : Int32) (v2 : Int32) (M : Mem) : J p l e R s m args below meth c g 3 (0, 0) (QfI below args s g) (pi_X3_valley_16 v1 v2 M) M 16 [(0, .ref (gA g 0)), (1, .int v1), (2, .int v2)] [] := by
  unfold pi_X3_valley_16
  refine j_aload_n (i := 0) X dX3_valley_16 rfl rfl ?_
  refine j_iconst (v := 0) X dX3_valley_17 rfl ?_
  refine k_cVI (As := [.int 0]) (rest := []) (by decide) (cf_hd _) rfl X (ct_X3_finding l g 0 M) wl_X3_44 rfl rfl (by decide) (Nat.le_of_ble_eq_true rfl) dX3_valley_18 (fun r_12 M_11 => ?_)
  exact j_iret X hr dX3_valley_21
def pi_X3_valley_e (v1 : Int32) (v2 : Int32) (M : Mem) : Option (Int32 × Mem) := bd (mi_X3_isNoValley v1 M) fun r_2 M_1 => if r_2 = 0 then (bd (mi_X3_isOutside v2 0 2 M_1) fun r_4 M_3 => if r_4 = 0 then (if v2 = 0 then (bd (mi_X2_standingAt 1 v1 M_3) fun r_6 M_5 => some (r_6, M_5)) else (if v2 = 1 then (bd (mi_X2_facing 1 v1 M_3) fun r_8 M_7 => some (r_8, M_7)) else (bd (mi_X2_highestAt 1 v1 M_3) fun r_10 M_9 => some (r_10, M_9)))) else (pi_X3_valley_16 v1 v2 M_3)) else (pi_X3_valley_16 v1 v2 M_1)
set_option maxRecDepth 100000 in
set_option maxHeartbeats 4000000 in
theorem pj_X3_valley_e {p : Program} {l : Launch} {e : Env} {R : Room} {s : State} {m : MethodId} {args : Array Value} {below : List Frame} {meth : Method} {c : Code} {g : Gh} (X : Cx p l e R s m args below meth c g cX3_valley 3 (0, 0) RX3 2) (hr : meth.sig.returnType = (some (.int))) (v1 : Int32) (v2 : Int32) (M : Mem) : J p l e R s m args below meth c g 3 (0, 0) (QfI below args s g) (pi_X3_valley_e v1 v2 M) M 0 [(0, .ref (gA g 0)), (1, .int v1), (2, .int v2)] [] := by
  unfold pi_X3_valley_e
  refine j_iload_n (i := 1) X dX3_valley_0 rfl rfl ?_
  refine k_cSI (As := [.int v1]) (rest := []) X (ct_X3_isNoValley l g v1 M) wl_X3_52 rfl rfl (by decide) (Nat.le_of_ble_eq_true rfl) dX3_valley_1 (fun r_2 M_1 => ?_)
  refine j_if_ne (tgt := 16) X dX3_valley_4 (by decide) ?_ ?_
  · refine j_iload_n (i := 2) X dX3_valley_7 rfl rfl ?_
    refine j_iconst (v := 0) X dX3_valley_8 rfl ?_
    refine j_iconst (v := 2) X dX3_valley_9 rfl ?_
    refine k_cSI (As := [.int v2, .int 0, .int 2]) (rest := []) X (ct_X3_isOutside l g v2 0 2 M_1) wl_X3_40 rfl rfl (by decide) (Nat.le_of_ble_eq_true rfl) dX3_valley_10 (fun r_4 M_3 => ?_)
    refine j_if_eq (tgt := 22) X dX3_valley_13 (by decide) ?_ ?_
    · refine j_iload_n (i := 2) X dX3_valley_22 rfl rfl ?_
      refine j_if_ne (tgt := 35) X dX3_valley_23 (by decide) ?_ ?_
      · refine j_aload_n (i := 0) X dX3_valley_26 rfl rfl ?_
        refine j_get_hd 0 X (by decide) wq_172 rfl dX3_valley_27 ?_
        refine j_iload_n (i := 1) X dX3_valley_30 rfl rfl ?_
        refine k_cVI (As := [.int v1]) (rest := []) sh_1.lt (cf_sh sh_1 _) rfl X (ct_X2_standingAt l g 1 v1 sh_1 M_3) wl_X3_92 rfl rfl (by decide) (Nat.le_of_ble_eq_true rfl) dX3_valley_31 (fun r_6 M_5 => ?_)
        exact j_iret X hr dX3_valley_34
      · refine j_iload_n (i := 2) X dX3_valley_35 rfl rfl ?_
        refine j_iconst (v := 1) X dX3_valley_36 rfl ?_
        refine j_icmp_ne (tgt := 49) X dX3_valley_37 (by decide) ?_ ?_
        · refine j_aload_n (i := 0) X dX3_valley_40 rfl rfl ?_
          refine j_get_hd 0 X (by decide) wq_172 rfl dX3_valley_41 ?_
          refine j_iload_n (i := 1) X dX3_valley_44 rfl rfl ?_
          refine k_cVI (As := [.int v1]) (rest := []) sh_1.lt (cf_sh sh_1 _) rfl X (ct_X2_facing l g 1 v1 sh_1 M_3) wl_X3_95 rfl rfl (by decide) (Nat.le_of_ble_eq_true rfl) dX3_valley_45 (fun r_8 M_7 => ?_)
          exact j_iret X hr dX3_valley_48
        · refine j_aload_n (i := 0) X dX3_valley_49 rfl rfl ?_
          refine j_get_hd 0 X (by decide) wq_172 rfl dX3_valley_50 ?_
          refine j_iload_n (i := 1) X dX3_valley_53 rfl rfl ?_
          refine k_cVI (As := [.int v1]) (rest := []) sh_1.lt (cf_sh sh_1 _) rfl X (ct_X2_highestAt l g 1 v1 sh_1 M_3) wl_X3_98 rfl rfl (by decide) (Nat.le_of_ble_eq_true rfl) dX3_valley_54 (fun r_10 M_9 => ?_)
          exact j_iret X hr dX3_valley_57
    · exact pj_X3_valley_16 X hr v1 v2 M_3
  · exact pj_X3_valley_16 X hr v1 v2 M_1
def mi_X3_valley (v1 : Int32) (v2 : Int32) (M : Mem) : Option (Int32 × Mem) := pi_X3_valley_e v1 v2 M
theorem ct_X3_valley (l : Launch) (g : Gh) (v1 : Int32) (v2 : Int32) (M : Mem) : CtI l g yX3_valley cX3_valley 3 (some (.int)) 2 [.ref (gA g 0), .int v1, .int v2] M (mi_X3_valley v1 v2 M) := ctI_of (own := RX3) (L := [(0, .ref (gA g 0)), (1, .int v1), (2, .int v2)]) (by decide +kernel) rfl (Nat.le_of_ble_eq_true rfl) rfl (fun p e s m args below meth c X hr => pj_X3_valley_e X hr v1 v2  M)

def pi_X3_go_e (v1 : Int32) (M : Mem) : Option (Int32 × Mem) := bd (mi_X3_isOutside v1 1 60 M) fun r_2 M_1 => if r_2 = 0 then (if (M_1 1 1) ≤ (99999 - v1) then (bv (mi_X2_passAges 1 v1 M_1) fun M_3 => bd (mi_X2_meeting 1 M_3) fun r_5 M_4 => bd (mi_J6_bitCount_0f7a4 r_5 M_4) fun r_7 M_6 => some (r_7, M_6)) else (bd (mi_X3_finding 4 M_1) fun r_9 M_8 => some (r_9, M_8))) else (bd (mi_X3_finding 0 M_1) fun r_11 M_10 => some (r_11, M_10))
set_option maxRecDepth 100000 in
set_option maxHeartbeats 4000000 in
theorem pj_X3_go_e {p : Program} {l : Launch} {e : Env} {R : Room} {s : State} {m : MethodId} {args : Array Value} {below : List Frame} {meth : Method} {c : Code} {g : Gh} (X : Cx p l e R s m args below meth c g cX3_go 2 (0, 0) RX3 5) (hr : meth.sig.returnType = (some (.int))) (v1 : Int32) (M : Mem) : J p l e R s m args below meth c g 2 (0, 0) (QfI below args s g) (pi_X3_go_e v1 M) M 0 [(0, .ref (gA g 0)), (1, .int v1)] [] := by
  unfold pi_X3_go_e
  refine j_iload_n (i := 1) X dX3_go_0 rfl rfl ?_
  refine j_iconst (v := 1) X dX3_go_1 rfl ?_
  refine j_bipush (v := 60) X dX3_go_2 rfl ?_
  refine k_cSI (As := [.int v1, .int 1, .int 60]) (rest := []) X (ct_X3_isOutside l g v1 1 60 M) wl_X3_40 rfl rfl (by decide) (Nat.le_of_ble_eq_true rfl) dX3_go_4 (fun r_2 M_1 => ?_)
  refine j_if_eq (tgt := 16) X dX3_go_7 (by decide) ?_ ?_
  · refine j_aload_n (i := 0) X dX3_go_16 rfl rfl ?_
    refine j_get_hd 0 X (by decide) wq_172 rfl dX3_go_17 ?_
    refine j_getN_sh sh_1 1 X (by decide) (by decide +kernel) rfl dX3_go_20 ?_
    refine j_ldc (v := 99999) X wq_211 dX3_go_23 ?_
    refine j_iload_n (i := 1) X dX3_go_25 rfl rfl ?_
    refine j_isub X dX3_go_26 ?_
    refine j_icmp_le (tgt := 36) X dX3_go_27 (by decide) ?_ ?_
    · refine j_aload_n (i := 0) X dX3_go_36 rfl rfl ?_
      refine j_get_hd 0 X (by decide) wq_172 rfl dX3_go_37 ?_
      refine j_iload_n (i := 1) X dX3_go_40 rfl rfl ?_
      refine k_cVV (As := [.int v1]) (rest := []) sh_1.lt (cf_sh sh_1 _) rfl X (ct_X2_passAges l g 1 v1 sh_1 M_1) wl_X3_105 rfl rfl (by decide) (Nat.le_of_ble_eq_true rfl) dX3_go_41 (fun M_3 => ?_)
      refine j_aload_n (i := 0) X dX3_go_44 rfl rfl ?_
      refine j_get_hd 0 X (by decide) wq_172 rfl dX3_go_45 ?_
      refine k_cVI (As := []) (rest := []) sh_1.lt (cf_sh sh_1 _) rfl X (ct_X2_meeting l g 1 sh_1 M_3) wl_X3_109 rfl rfl (by decide) (Nat.le_of_ble_eq_true rfl) dX3_go_48 (fun r_5 M_4 => ?_)
      refine k_cSI (As := [.int r_5]) (rest := []) X (ct_J6_bitCount_0f7a4 l g r_5 M_4) wl_X3_113 rfl rfl (by decide) (Nat.le_of_ble_eq_true rfl) dX3_go_51 (fun r_7 M_6 => ?_)
      exact j_iret X hr dX3_go_54
    · refine j_aload_n (i := 0) X dX3_go_30 rfl rfl ?_
      refine j_iconst (v := 4) X dX3_go_31 rfl ?_
      refine k_cVI (As := [.int 4]) (rest := []) (by decide) (cf_hd _) rfl X (ct_X3_finding l g 4 M_1) wl_X3_44 rfl rfl (by decide) (Nat.le_of_ble_eq_true rfl) dX3_go_32 (fun r_9 M_8 => ?_)
      exact j_iret X hr dX3_go_35
  · refine j_aload_n (i := 0) X dX3_go_10 rfl rfl ?_
    refine j_iconst (v := 0) X dX3_go_11 rfl ?_
    refine k_cVI (As := [.int 0]) (rest := []) (by decide) (cf_hd _) rfl X (ct_X3_finding l g 0 M_1) wl_X3_44 rfl rfl (by decide) (Nat.le_of_ble_eq_true rfl) dX3_go_12 (fun r_11 M_10 => ?_)
    exact j_iret X hr dX3_go_15
def mi_X3_go (v1 : Int32) (M : Mem) : Option (Int32 × Mem) := pi_X3_go_e v1 M
theorem ct_X3_go (l : Launch) (g : Gh) (v1 : Int32) (M : Mem) : CtI l g yX3_go cX3_go 2 (some (.int)) 5 [.ref (gA g 0), .int v1] M (mi_X3_go v1 M) := ctI_of (own := RX3) (L := [(0, .ref (gA g 0)), (1, .int v1)]) (by decide +kernel) rfl (Nat.le_of_ble_eq_true rfl) rfl (fun p e s m args below meth c X hr => pj_X3_go_e X hr v1  M)
