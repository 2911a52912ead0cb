def pi_X4_finding_e (v1 : Int32) (M : Mem) : Option (Int32 × Mem) := gd (inb (((-1000001) - v1) + 1) 8) <| gd (inb (((-1000001) - v1) + 1) 8) <| bM (up M 53 (((-1000001) - v1) + 1).toNatClampNeg ((M 53 (((-1000001) - v1) + 1).toNatClampNeg) + 1)) fun M_3 => gd (inb 0 8) <| gd (inb 0 8) <| bM (up M_3 53 (0 : Int32).toNatClampNeg ((M_3 53 (0 : Int32).toNatClampNeg) + 1)) fun M_6 => some (v1, M_6)
set_option maxRecDepth 100000 in
set_option maxHeartbeats 4000000 in
theorem pj_X4_finding_e {p : Program} {l : Launch} {e : Env} {R : Room} {s : State} {m : MethodId} {args : Array Value} {below : List Frame} {meth : Method} {c : Code} {g : Gh} (X : Cx p l e R s m args below meth c g cX4_finding 2 (0, 0) RX4 0) (hr : meth.sig.returnType = (some (.int))) (v1 : Int32) (M : Mem) : J p l e R s m args below meth c g 2 (0, 0) (QfI below args s g) (pi_X4_finding_e v1 M) M 0 [(0, .ref (gA g 49)), (1, .int v1)] [] := by
  unfold pi_X4_finding_e
  refine j_aload_n (i := 0) X dX4_finding_0 rfl rfl ?_
  refine j_get_md 4 X (by decide) wq_344 rfl dX4_finding_1 ?_
  refine j_ldc (v := (-1000001)) X wq_345 dX4_finding_4 ?_
  refine j_iload_n (i := 1) X dX4_finding_6 rfl rfl ?_
  refine j_isub X dX4_finding_7 ?_
  refine j_iconst (v := 1) X dX4_finding_8 rfl ?_
  refine j_iadd X dX4_finding_9 ?_
  refine j_dup2 X dX4_finding_10 rfl rfl ?_
  refine j_iald X ia_53 dX4_finding_11 (fun h_1 => ?_)
  refine j_iconst (v := 1) X dX4_finding_12 rfl ?_
  refine j_iadd X dX4_finding_13 ?_
  refine j_iast X ia_53 dX4_finding_14 (fun h_2 => ?_)
  refine j_bM (fun M_3 => ?_)
  refine j_aload_n (i := 0) X dX4_finding_15 rfl rfl ?_
  refine j_get_md 4 X (by decide) wq_344 rfl dX4_finding_16 ?_
  refine j_iconst (v := 0) X dX4_finding_19 rfl ?_
  refine j_dup2 X dX4_finding_20 rfl rfl ?_
  refine j_iald X ia_53 dX4_finding_21 (fun h_4 => ?_)
  refine j_iconst (v := 1) X dX4_finding_22 rfl ?_
  refine j_iadd X dX4_finding_23 ?_
  refine j_iast X ia_53 dX4_finding_24 (fun h_5 => ?_)
  refine j_bM (fun M_6 => ?_)
  refine j_iload_n (i := 1) X dX4_finding_25 rfl rfl ?_
  exact j_iret X hr dX4_finding_26
def mi_X4_finding (v1 : Int32) (M : Mem) : Option (Int32 × Mem) := pi_X4_finding_e v1 M
theorem ct_X4_finding (l : Launch) (g : Gh) (v1 : Int32) (M : Mem) : CtI l g yX4_finding cX4_finding 2 (some (.int)) 0 [.ref (gA g 49), .int v1] M (mi_X4_finding v1 M) := ctI_of (own := RX4) (L := [(0, .ref (gA g 49)), (1, .int v1)]) (by decide +kernel) rfl (Nat.le_of_ble_eq_true rfl) rfl (fun p e s m args below meth c X hr => pj_X4_finding_e X hr v1  M)

def pi_X4_within_e (v0 : Int32) (v1 : Int32) (v2 : Int32) (M : Mem) : Option (Int32 × Mem) := if v0 < v1 then (gd (isB 0) (some (0, M))) else (if v2 < v0 then (gd (isB 0) (some (0, M))) else (gd (isB 1) (some (1, M))))
set_option maxRecDepth 100000 in
set_option maxHeartbeats 4000000 in
theorem pj_X4_within_e {p : Program} {l : Launch} {e : Env} {R : Room} {s : State} {m : MethodId} {args : Array Value} {below : List Frame} {meth : Method} {c : Code} {g : Gh} (X : Cx p l e R s m args below meth c g cX4_within 3 (0, 0) RX4 0) (hr : meth.sig.returnType = (some (.boolean))) (v0 : Int32) (v1 : Int32) (v2 : Int32) (M : Mem) : J p l e R s m args below meth c g 3 (0, 0) (QfI below args s g) (pi_X4_within_e v0 v1 v2 M) M 0 [(0, .int v0), (1, .int v1), (2, .int v2)] [] := by
  unfold pi_X4_within_e
  refine j_iload_n (i := 0) X dX4_within_0 rfl rfl ?_
  refine j_iload_n (i := 1) X dX4_within_1 rfl rfl ?_
  refine j_icmp_lt (tgt := 14) X dX4_within_2 (by decide) ?_ ?_
  · refine j_iconst (v := 0) X dX4_within_14 rfl ?_
    exact j_zret X hr dX4_within_15
  · refine j_iload_n (i := 0) X dX4_within_5 rfl rfl ?_
    refine j_iload_n (i := 2) X dX4_within_6 rfl rfl ?_
    refine j_icmp_gt (tgt := 14) X dX4_within_7 (by decide) ?_ ?_
    · refine j_iconst (v := 0) X dX4_within_14 rfl ?_
      exact j_zret X hr dX4_within_15
    · refine j_iconst (v := 1) X dX4_within_10 rfl ?_
      refine j_goto (tgt := 15) X dX4_within_11 (by decide) ?_
      exact j_zret X hr dX4_within_15
def mi_X4_within (v0 : Int32) (v1 : Int32) (v2 : Int32) (M : Mem) : Option (Int32 × Mem) := pi_X4_within_e v0 v1 v2 M
theorem ct_X4_within (l : Launch) (g : Gh) (v0 : Int32) (v1 : Int32) (v2 : Int32) (M : Mem) : CtI l g yX4_within cX4_within 3 (some (.boolean)) 0 [.int v0, .int v1, .int v2] M (mi_X4_within v0 v1 v2 M) := ctI_of (own := RX4) (L := [(0, .int v0), (1, .int v1), (2, .int v2)]) (by decide +kernel) rfl (Nat.le_of_ble_eq_true rfl) rfl (fun p e s m args below meth c X hr => pj_X4_within_e X hr v0 v1 v2  M)

def pi_X4_become_e (v1 : Int32) (v2 : Int32) (M : Mem) : Option (Int32 × Mem) := gd (inb v1 62) <| bI (M 50 v1.toNatClampNeg) fun v3_2 => gd (inb v1 62) <| bM (up M 50 v1.toNatClampNeg v2) fun M_4 => some (v3_2, M_4)
set_option maxRecDepth 100000 in
set_option maxHeartbeats 4000000 in
theorem pj_X4_become_e {p : Program} {l : Launch} {e : Env} {R : Room} {s : State} {m : MethodId} {args : Array Value} {below : List Frame} {meth : Method} {c : Code} {g : Gh} (X : Cx p l e R s m args below meth c g cX4_become 4 (0, 0) RX4 0) (hr : meth.sig.returnType = (some (.int))) (v1 : Int32) (v2 : Int32) (M : Mem) : J p l e R s m args below meth c g 4 (0, 0) (QfI below args s g) (pi_X4_become_e v1 v2 M) M 0 [(0, .ref (gA g 49)), (1, .int v1), (2, .int v2)] [] := by
  unfold pi_X4_become_e
  refine j_aload_n (i := 0) X dX4_become_0 rfl rfl ?_
  refine j_get_md 0 X (by decide) wq_346 rfl dX4_become_1 ?_
  refine j_iload_n (i := 1) X dX4_become_4 rfl rfl ?_
  refine j_iald X ia_50 dX4_become_5 (fun h_1 => ?_)
  refine j_bI (fun v3_2 => ?_)
  refine j_istore_n (i := 3) (Lq := [(0, .ref (gA g 49)), (1, .int v1), (2, .int v2), (3, .int v3_2)]) X dX4_become_6 rfl (by decide) rfl ?_
  refine j_aload_n (i := 0) X dX4_become_7 rfl rfl ?_
  refine j_get_md 0 X (by decide) wq_346 rfl dX4_become_8 ?_
  refine j_iload_n (i := 1) X dX4_become_11 rfl rfl ?_
  refine j_iload_n (i := 2) X dX4_become_12 rfl rfl ?_
  refine j_iast X ia_50 dX4_become_13 (fun h_3 => ?_)
  refine j_bM (fun M_4 => ?_)
  refine j_iload_n (i := 3) X dX4_become_14 rfl rfl ?_
  exact j_iret X hr dX4_become_15
def mi_X4_become (v1 : Int32) (v2 : Int32) (M : Mem) : Option (Int32 × Mem) := pi_X4_become_e v1 v2 M
theorem ct_X4_become (l : Launch) (g : Gh) (v1 : Int32) (v2 : Int32) (M : Mem) : CtI l g yX4_become cX4_become 4 (some (.int)) 0 [.ref (gA g 49), .int v1, .int v2] M (mi_X4_become v1 v2 M) := ctI_of (own := RX4) (L := [(0, .ref (gA g 49)), (1, .int v1), (2, .int v2)]) (by decide +kernel) rfl (Nat.le_of_ble_eq_true rfl) rfl (fun p e s m args below meth c X hr => pj_X4_become_e X hr v1 v2  M)

def pi_X4_copyRow_2 (k0 : Nat) (n0 : Nat) (k1 : Nat) (n1 : Nat) (rc2 : Int32 × Mem → Option (Mem)) (v2 : Int32) (M : Mem) : Option (Mem) := if 62 ≤ v2 then (some M) else (gd (inb v2 n0) <| gd (inb v2 n1) <| bM (up M k1 v2.toNatClampNeg (M k0 v2.toNatClampNeg)) fun M_3 => bI (v2 + 1) fun v2_4 => rc2 (v2_4, M_3))
set_option maxRecDepth 100000 in
set_option maxHeartbeats 4000000 in
theorem pj_X4_copyRow_2 {p : Program} {l : Launch} {e : Env} {R : Room} {s : State} {m : MethodId} {args : Array Value} {below : List Frame} {meth : Method} {c : Code} {g : Gh} (X : Cx p l e R s m args below meth c g cX4_copyRow 3 (0, 0) RX4 0) (hr : meth.sig.returnType = none) (k0 : Nat) (n0 : Nat) (k1 : Nat) (n1 : Nat) (ha0 : ia k0 n0) (ha1 : ia k1 n1) (rc2 : Int32 × Mem → Option (Mem)) (hc2 : ∀ x, J p l e R s m args below meth c g 3 (0, 0) (QfV below args s g) (rc2 x) x.2 2 [(0, .ref (gA g k0)), (1, .ref (gA g k1)), (2, .int x.1)] []) (v2 : Int32) (M : Mem) : J p l e R s m args below meth c g 3 (0, 0) (QfV below args s g) (pi_X4_copyRow_2 k0 n0 k1 n1 rc2 v2 M) M 2 [(0, .ref (gA g k0)), (1, .ref (gA g k1)), (2, .int v2)] [] := by
  unfold pi_X4_copyRow_2
  refine j_iload_n (i := 2) X dX4_copyRow_2 rfl rfl ?_
  refine j_bipush (v := 62) X dX4_copyRow_3 rfl ?_
  refine j_icmp_ge (tgt := 20) X dX4_copyRow_5 (by decide) ?_ ?_
  · exact j_vret X hr dX4_copyRow_20
  · refine j_aload_n (i := 1) X dX4_copyRow_8 rfl rfl ?_
    refine j_iload_n (i := 2) X dX4_copyRow_9 rfl rfl ?_
    refine j_aload_n (i := 0) X dX4_copyRow_10 rfl rfl ?_
    refine j_iload_n (i := 2) X dX4_copyRow_11 rfl rfl ?_
    refine j_iald X ha0 dX4_copyRow_12 (fun h_1 => ?_)
    refine j_iast X ha1 dX4_copyRow_13 (fun h_2 => ?_)
    refine j_bM (fun M_3 => ?_)
    refine j_iincB (i := 2) (y := v2 + 1) (Lf := fun v2_4 => [(0, .ref (gA g k0)), (1, .ref (gA g k1)), (2, .int v2_4)]) X dX4_copyRow_14 rfl rfl (by decide) (fun _ => rfl) (fun v2_4 => ?_)
    refine j_goto (tgt := 2) X dX4_copyRow_17 (by decide) ?_
    exact hc2 (v2_4, M_3)
def pi_X4_copyRow_e (k0 : Nat) (n0 : Nat) (k1 : Nat) (n1 : Nat) (M : Mem) : Option (Mem) := lp (fun rc2 x => pi_X4_copyRow_2 k0 n0 k1 n1 rc2 x.1 x.2) FU (0, M)
set_option maxRecDepth 100000 in
set_option maxHeartbeats 4000000 in
theorem pj_X4_copyRow_e {p : Program} {l : Launch} {e : Env} {R : Room} {s : State} {m : MethodId} {args : Array Value} {below : List Frame} {meth : Method} {c : Code} {g : Gh} (X : Cx p l e R s m args below meth c g cX4_copyRow 3 (0, 0) RX4 0) (hr : meth.sig.returnType = none) (k0 : Nat) (n0 : Nat) (k1 : Nat) (n1 : Nat) (ha0 : ia k0 n0) (ha1 : ia k1 n1) (M : Mem) : J p l e R s m args below meth c g 3 (0, 0) (QfV below args s g) (pi_X4_copyRow_e k0 n0 k1 n1 M) M 0 [(0, .ref (gA g k0)), (1, .ref (gA g k1))] [] := by
  unfold pi_X4_copyRow_e
  refine j_iconst (v := 0) X dX4_copyRow_0 rfl ?_
  refine j_istore_n (i := 2) (Lq := [(0, .ref (gA g k0)), (1, .ref (gA g k1)), (2, .int 0)]) X dX4_copyRow_1 rfl (by decide) rfl ?_
  exact j_lp (Lf := fun x => [(0, .ref (gA g k0)), (1, .ref (gA g k1)), (2, .int x.1)]) (Mf := fun x => x.2) (fun rc2 hc2 x => pj_X4_copyRow_2 X hr k0 n0 k1 n1 ha0 ha1 rc2 hc2 x.1 x.2) FU (0, M)
def mi_X4_copyRow (k0 : Nat) (n0 : Nat) (k1 : Nat) (n1 : Nat) (M : Mem) : Option (Mem) := pi_X4_copyRow_e k0 n0 k1 n1 M
theorem ct_X4_copyRow (l : Launch) (g : Gh) (k0 : Nat) (n0 : Nat) (k1 : Nat) (n1 : Nat) (ha0 : ia k0 n0) (ha1 : ia k1 n1) (M : Mem) : CtV l g yX4_copyRow cX4_copyRow 3 none 0 [.ref (gA g k0), .ref (gA g k1)] M (mi_X4_copyRow k0 n0 k1 n1 M) := ctV_of (own := RX4) (L := [(0, .ref (gA g k0)), (1, .ref (gA g k1))]) (by decide +kernel) rfl (Nat.le_of_ble_eq_true rfl) rfl (fun p e s m args below meth c X hr => pj_X4_copyRow_e X hr k0 n0 k1 n1 ha0 ha1 M)

def pi_X4_putBack_e (v1 : Int32) (M : Mem) : Option (Int32 × Mem) := bv (mi_X4_copyRow 52 62 50 62 M) fun M_1 => some (v1, M_1)
set_option maxRecDepth 100000 in
set_option maxHeartbeats 4000000 in
theorem pj_X4_putBack_e {p : Program} {l : Launch} {e : Env} {R : Room} {s : State} {m : MethodId} {args : Array Value} {below : List Frame} {meth : Method} {c : Code} {g : Gh} (X : Cx p l e R s m args below meth c g cX4_putBack 2 (0, 0) RX4 1) (hr : meth.sig.returnType = (some (.int))) (v1 : Int32) (M : Mem) : J p l e R s m args below meth c g 2 (0, 0) (QfI below args s g) (pi_X4_putBack_e v1 M) M 0 [(0, .ref (gA g 49)), (1, .int v1)] [] := by
  unfold pi_X4_putBack_e
  refine j_aload_n (i := 0) X dX4_putBack_0 rfl rfl ?_
  refine j_get_md 2 X (by decide) wq_347 rfl dX4_putBack_1 ?_
  refine j_aload_n (i := 0) X dX4_putBack_4 rfl rfl ?_
  refine j_get_md 0 X (by decide) wq_346 rfl dX4_putBack_5 ?_
  refine k_cSV (As := [.ref (gA g 52), .ref (gA g 50)]) (rest := []) X (ct_X4_copyRow l g 52 62 50 62 ia_52 ia_50 M) wl_X4_76 rfl rfl (by decide) (Nat.le_of_ble_eq_true rfl) dX4_putBack_8 (fun M_1 => ?_)
  refine j_iload_n (i := 1) X dX4_putBack_11 rfl rfl ?_
  exact j_iret X hr dX4_putBack_12
def mi_X4_putBack (v1 : Int32) (M : Mem) : Option (Int32 × Mem) := pi_X4_putBack_e v1 M
theorem ct_X4_putBack (l : Launch) (g : Gh) (v1 : Int32) (M : Mem) : CtI l g yX4_putBack cX4_putBack 2 (some (.int)) 1 [.ref (gA g 49), .int v1] M (mi_X4_putBack v1 M) := ctI_of (own := RX4) (L := [(0, .ref (gA g 49)), (1, .int v1)]) (by decide +kernel) rfl (Nat.le_of_ble_eq_true rfl) rfl (fun p e s m args below meth c X hr => pj_X4_putBack_e X hr v1  M)

def pi_X4_orNone_e (v1 : Int32) (M : Mem) : Option (Int32 × Mem) := if 0 ≤ v1 then (some (v1, M)) else (bd (mi_X4_finding (-1000004) M) fun r_2 M_1 => some (r_2, M_1))
set_option maxRecDepth 100000 in
set_option maxHeartbeats 4000000 in
theorem pj_X4_orNone_e {p : Program} {l : Launch} {e : Env} {R : Room} {s : State} {m : MethodId} {args : Array Value} {below : List Frame} {meth : Method} {c : Code} {g : Gh} (X : Cx p l e R s m args below meth c g cX4_orNone 2 (0, 0) RX4 1) (hr : meth.sig.returnType = (some (.int))) (v1 : Int32) (M : Mem) : J p l e R s m args below meth c g 2 (0, 0) (QfI below args s g) (pi_X4_orNone_e v1 M) M 0 [(0, .ref (gA g 49)), (1, .int v1)] [] := by
  unfold pi_X4_orNone_e
  refine j_iload_n (i := 1) X dX4_orNone_0 rfl rfl ?_
  refine j_if_ge (tgt := 13) X dX4_orNone_1 (by decide) ?_ ?_
  · refine j_iload_n (i := 1) X dX4_orNone_13 rfl rfl ?_
    exact j_iret X hr dX4_orNone_14
  · refine j_aload_n (i := 0) X dX4_orNone_4 rfl rfl ?_
    refine j_ldc (v := (-1000004)) X wq_352 dX4_orNone_5 ?_
    refine k_cVI (As := [.int (-1000004)]) (rest := []) (by decide) (cf_md _) rfl X (ct_X4_finding l g (-1000004) M) wl_X4_81 rfl rfl (by decide) (Nat.le_of_ble_eq_true rfl) dX4_orNone_7 (fun r_2 M_1 => ?_)
    refine j_goto (tgt := 14) X dX4_orNone_10 (by decide) ?_
    exact j_iret X hr dX4_orNone_14
def mi_X4_orNone (v1 : Int32) (M : Mem) : Option (Int32 × Mem) := pi_X4_orNone_e v1 M
theorem ct_X4_orNone (l : Launch) (g : Gh) (v1 : Int32) (M : Mem) : CtI l g yX4_orNone cX4_orNone 2 (some (.int)) 1 [.ref (gA g 49), .int v1] M (mi_X4_orNone v1 M) := ctI_of (own := RX4) (L := [(0, .ref (gA g 49)), (1, .int v1)]) (by decide +kernel) rfl (Nat.le_of_ble_eq_true rfl) rfl (fun p e s m args below meth c X hr => pj_X4_orNone_e X hr v1  M)

def pi_X4_bits_4 (v0 : Int32) (rc4 : Int32 × Int32 × Mem → Option (Int32 × Mem)) (v1 : Int32) (v2 : Int32) (M : Mem) : Option (Int32 × Mem) := if v2 = 0 then (some (v1, M)) else (bI (v1 + 1) fun v1_1 => bI (v2 &&& (v2 - 1)) fun v2_2 => rc4 (v1_1, v2_2, M))
set_option maxRecDepth 100000 in
set_option maxHeartbeats 4000000 in
theorem pj_X4_bits_4 {p : Program} {l : Launch} {e : Env} {R : Room} {s : State} {m : MethodId} {args : Array Value} {below : List Frame} {meth : Method} {c : Code} {g : Gh} (X : Cx p l e R s m args below meth c g cX4_bits 3 (0, 0) RX4 0) (hr : meth.sig.returnType = (some (.int))) (v0 : Int32) (rc4 : Int32 × Int32 × Mem → Option (Int32 × Mem)) (hc4 : ∀ x, J p l e R s m args below meth c g 3 (0, 0) (QfI below args s g) (rc4 x) x.2.2 4 [(0, .int v0), (1, .int x.1), (2, .int x.2.1)] []) (v1 : Int32) (v2 : Int32) (M : Mem) : J p l e R s m args below meth c g 3 (0, 0) (QfI below args s g) (pi_X4_bits_4 v0 rc4 v1 v2 M) M 4 [(0, .int v0), (1, .int v1), (2, .int v2)] [] := by
  unfold pi_X4_bits_4
  refine j_iload_n (i := 2) X dX4_bits_4 rfl rfl ?_
  refine j_if_eq (tgt := 20) X dX4_bits_5 (by decide) ?_ ?_
  · refine j_iload_n (i := 1) X dX4_bits_20 rfl rfl ?_
    exact j_iret X hr dX4_bits_21
  · refine j_iincB (i := 1) (y := v1 + 1) (Lf := fun v1_1 => [(0, .int v0), (1, .int v1_1), (2, .int v2)]) X dX4_bits_8 rfl rfl (by decide) (fun _ => rfl) (fun v1_1 => ?_)
    refine j_iload_n (i := 2) X dX4_bits_11 rfl rfl ?_
    refine j_iload_n (i := 2) X dX4_bits_12 rfl rfl ?_
    refine j_iconst (v := 1) X dX4_bits_13 rfl ?_
    refine j_isub X dX4_bits_14 ?_
    refine j_iand X dX4_bits_15 ?_
    refine j_bI (fun v2_2 => ?_)
    refine j_istore_n (i := 2) (Lq := [(0, .int v0), (1, .int v1_1), (2, .int v2_2)]) X dX4_bits_16 rfl (by decide) rfl ?_
    refine j_goto (tgt := 4) X dX4_bits_17 (by decide) ?_
    exact hc4 (v1_1, v2_2, M)
def pi_X4_bits_e (v0 : Int32) (M : Mem) : Option (Int32 × Mem) := lp (fun rc4 x => pi_X4_bits_4 v0 rc4 x.1 x.2.1 x.2.2) FU (0, v0, M)
set_option maxRecDepth 100000 in
set_option maxHeartbeats 4000000 in
theorem pj_X4_bits_e {p : Program} {l : Launch} {e : Env} {R : Room} {s : State} {m : MethodId} {args : Array Value} {below : List Frame} {meth : Method} {c : Code} {g : Gh} (X : Cx p l e R s m args below meth c g cX4_bits 3 (0, 0) RX4 0) (hr : meth.sig.returnType = (some (.int))) (v0 : Int32) (M : Mem) : J p l e R s m args below meth c g 3 (0, 0) (QfI below args s g) (pi_X4_bits_e v0 M) M 0 [(0, .int v0)] [] := by
  unfold pi_X4_bits_e
  refine j_iconst (v := 0) X dX4_bits_0 rfl ?_
  refine j_istore_n (i := 1) (Lq := [(0, .int v0), (1, .int 0)]) X dX4_bits_1 rfl (by decide) rfl ?_
  refine j_iload_n (i := 0) X dX4_bits_2 rfl rfl ?_
  refine j_istore_n (i := 2) (Lq := [(0, .int v0), (1, .int 0), (2, .int v0)]) X dX4_bits_3 rfl (by decide) rfl ?_
  exact j_lp (Lf := fun x => [(0, .int v0), (1, .int x.1), (2, .int x.2.1)]) (Mf := fun x => x.2.2) (fun rc4 hc4 x => pj_X4_bits_4 X hr v0 rc4 hc4 x.1 x.2.1 x.2.2) FU (0, v0, M)
def mi_X4_bits (v0 : Int32) (M : Mem) : Option (Int32 × Mem) := pi_X4_bits_e v0 M
theorem ct_X4_bits (l : Launch) (g : Gh) (v0 : Int32) (M : Mem) : CtI l g yX4_bits cX4_bits 3 (some (.int)) 0 [.int v0] M (mi_X4_bits v0 M) := ctI_of (own := RX4) (L := [(0, .int v0)]) (by decide +kernel) rfl (Nat.le_of_ble_eq_true rfl) rfl (fun p e s m args below meth c X hr => pj_X4_bits_e X hr v0  M)

def pi_X4_by12_e (v0 : Int32) (M : Mem) : Option (Int32 × Mem) := bI (v0 - v0 / 12 * 12) fun v1_1 => if 0 ≤ v1_1 then (some (v1_1, M)) else (some (v1_1 + 12, M))
set_option maxRecDepth 100000 in
set_option maxHeartbeats 4000000 in
theorem pj_X4_by12_e {p : Program} {l : Launch} {e : Env} {R : Room} {s : State} {m : MethodId} {args : Array Value} {below : List Frame} {meth : Method} {c : Code} {g : Gh} (X : Cx p l e R s m args below meth c g cX4_by12 2 (0, 0) RX4 0) (hr : meth.sig.returnType = (some (.int))) (v0 : Int32) (M : Mem) : J p l e R s m args below meth c g 2 (0, 0) (QfI below args s g) (pi_X4_by12_e v0 M) M 0 [(0, .int v0)] [] := by
  unfold pi_X4_by12_e
  refine j_iload_n (i := 0) X dX4_by12_0 rfl rfl ?_
  refine j_bipush (v := 12) X dX4_by12_1 rfl ?_
  refine j_iremc X dX4_by12_3 (by decide) ?_
  refine j_bI (fun v1_1 => ?_)
  refine j_istore_n (i := 1) (Lq := [(0, .int v0), (1, .int v1_1)]) X dX4_by12_4 rfl (by decide) rfl ?_
  refine j_iload_n (i := 1) X dX4_by12_5 rfl rfl ?_
  refine j_if_ge (tgt := 16) X dX4_by12_6 (by decide) ?_ ?_
  · refine j_iload_n (i := 1) X dX4_by12_16 rfl rfl ?_
    exact j_iret X hr dX4_by12_17
  · refine j_iload_n (i := 1) X dX4_by12_9 rfl rfl ?_
    refine j_bipush (v := 12) X dX4_by12_10 rfl ?_
    refine j_iadd X dX4_by12_12 ?_
    refine j_goto (tgt := 17) X dX4_by12_13 (by decide) ?_
    exact j_iret X hr dX4_by12_17
def mi_X4_by12 (v0 : Int32) (M : Mem) : Option (Int32 × Mem) := pi_X4_by12_e v0 M
theorem ct_X4_by12 (l : Launch) (g : Gh) (v0 : Int32) (M : Mem) : CtI l g yX4_by12 cX4_by12 2 (some (.int)) 0 [.int v0] M (mi_X4_by12 v0 M) := ctI_of (own := RX4) (L := [(0, .int v0)]) (by decide +kernel) rfl (Nat.le_of_ble_eq_true rfl) rfl (fun p e s m args below meth c X hr => pj_X4_by12_e X hr v0  M)

def pi_X4_rain_e (v1 : Int32) (M : Mem) : Option (Int32 × Mem) := bd (mi_X4_within v1 0 9 M) fun r_2 M_1 => if r_2 = 0 then (bd (mi_X4_finding (-1000001) M_1) fun r_4 M_3 => some (r_4, M_3)) else (bd (mi_X4_become 3 v1 M_1) fun r_6 M_5 => some (r_6, M_5))
set_option maxRecDepth 100000 in
set_option maxHeartbeats 4000000 in
theorem pj_X4_rain_e {p : Program} {l : Launch} {e : Env} {R : Room} {s : State} {m : MethodId} {args : Array Value} {below : List Frame} {meth : Method} {c : Code} {g : Gh} (X : Cx p l e R s m args below meth c g cX4_rain 2 (0, 0) RX4 1) (hr : meth.sig.returnType = (some (.int))) (v1 : Int32) (M : Mem) : J p l e R s m args below meth c g 2 (0, 0) (QfI below args s g) (pi_X4_rain_e v1 M) M 0 [(0, .ref (gA g 49)), (1, .int v1)] [] := by
  unfold pi_X4_rain_e
  refine j_iload_n (i := 1) X dX4_rain_0 rfl rfl ?_
  refine j_iconst (v := 0) X dX4_rain_1 rfl ?_
  refine j_bipush (v := 9) X dX4_rain_2 rfl ?_
  refine k_cSI (As := [.int v1, .int 0, .int 9]) (rest := []) X (ct_X4_within l g v1 0 9 M) wl_X4_85 rfl rfl (by decide) (Nat.le_of_ble_eq_true rfl) dX4_rain_4 (fun r_2 M_1 => ?_)
  refine j_if_eq (tgt := 19) X dX4_rain_7 (by decide) ?_ ?_
  · refine j_aload_n (i := 0) X dX4_rain_19 rfl rfl ?_
    refine j_ldc (v := (-1000001)) X wq_345 dX4_rain_20 ?_
    refine k_cVI (As := [.int (-1000001)]) (rest := []) (by decide) (cf_md _) rfl X (ct_X4_finding l g (-1000001) M_1) wl_X4_81 rfl rfl (by decide) (Nat.le_of_ble_eq_true rfl) dX4_rain_22 (fun r_4 M_3 => ?_)
    exact j_iret X hr dX4_rain_25
  · refine j_aload_n (i := 0) X dX4_rain_10 rfl rfl ?_
    refine j_iconst (v := 3) X dX4_rain_11 rfl ?_
    refine j_iload_n (i := 1) X dX4_rain_12 rfl rfl ?_
    refine k_cVI (As := [.int 3, .int v1]) (rest := []) (by decide) (cf_md _) rfl X (ct_X4_become l g 3 v1 M_1) wl_X4_89 rfl rfl (by decide) (Nat.le_of_ble_eq_true rfl) dX4_rain_13 (fun r_6 M_5 => ?_)
    refine j_goto (tgt := 25) X dX4_rain_16 (by decide) ?_
    exact j_iret X hr dX4_rain_25
def mi_X4_rain (v1 : Int32) (M : Mem) : Option (Int32 × Mem) := pi_X4_rain_e v1 M
theorem ct_X4_rain (l : Launch) (g : Gh) (v1 : Int32) (M : Mem) : CtI l g yX4_rain cX4_rain 2 (some (.int)) 1 [.ref (gA g 49), .int v1] M (mi_X4_rain v1 M) := ctI_of (own := RX4) (L := [(0, .ref (gA g 49)), (1, .int v1)]) (by decide +kernel) rfl (Nat.le_of_ble_eq_true rfl) rfl (fun p e s m args below meth c X hr => pj_X4_rain_e X hr v1  M)

def pi_X4_isValley_e (v0 : Int32) (M : Mem) : Option (Int32 × Mem) := bd (mi_X4_within v0 0 11 M) fun r_2 M_1 => gd (isB r_2) (some (r_2, M_1))
set_option maxRecDepth 100000 in
set_option maxHeartbeats 4000000 in
theorem pj_X4_isValley_e {p : Program} {l : Launch} {e : Env} {R : Room} {s : State} {m : MethodId} {args : Array Value} {below : List Frame} {meth : Method} {c : Code} {g : Gh} (X : Cx p l e R s m args below meth c g cX4_isValley 1 (0, 0) RX4 1) (hr : meth.sig.returnType = (some (.boolean))) (v0 : Int32) (M : Mem) : J p l e R s m args below meth c g 1 (0, 0) (QfI below args s g) (pi_X4_isValley_e v0 M) M 0 [(0, .int v0)] [] := by
  unfold pi_X4_isValley_e
  refine j_iload_n (i := 0) X dX4_isValley_0 rfl rfl ?_
  refine j_iconst (v := 0) X dX4_isValley_1 rfl ?_
  refine j_bipush (v := 11) X dX4_isValley_2 rfl ?_
  refine k_cSI (As := [.int v0, .int 0, .int 11]) (rest := []) X (ct_X4_within l g v0 0 11 M) wl_X4_85 rfl rfl (by decide) (Nat.le_of_ble_eq_true rfl) dX4_isValley_4 (fun r_2 M_1 => ?_)
  exact j_zret X hr dX4_isValley_7
def mi_X4_isValley (v0 : Int32) (M : Mem) : Option (Int32 × Mem) := pi_X4_isValley_e v0 M
theorem ct_X4_isValley (l : Launch) (g : Gh) (v0 : Int32) (M : Mem) : CtI l g yX4_isValley cX4_isValley 1 (some (.boolean)) 1 [.int v0] M (mi_X4_isValley v0 M) := ctI_of (own := RX4) (L := [(0, .int v0)]) (by decide +kernel) rfl (Nat.le_of_ble_eq_true rfl) rfl (fun p e s m args below meth c X hr => pj_X4_isValley_e X hr v0  M)

def pi_X4_isHigh_e (v0 : Int32) (M : Mem) : Option (Int32 × Mem) := bd (mi_X4_within v0 0 99 M) fun r_2 M_1 => gd (isB r_2) (some (r_2, M_1))
set_option maxRecDepth 100000 in
set_option maxHeartbeats 4000000 in
theorem pj_X4_isHigh_e {p : Program} {l : Launch} {e : Env} {R : Room} {s : State} {m : MethodId} {args : Array Value} {below : List Frame} {meth : Method} {c : Code} {g : Gh} (X : Cx p l e R s m args below meth c g cX4_isHigh 1 (0, 0) RX4 1) (hr : meth.sig.returnType = (some (.boolean))) (v0 : Int32) (M : Mem) : J p l e R s m args below meth c g 1 (0, 0) (QfI below args s g) (pi_X4_isHigh_e v0 M) M 0 [(0, .int v0)] [] := by
  unfold pi_X4_isHigh_e
  refine j_iload_n (i := 0) X dX4_isHigh_0 rfl rfl ?_
  refine j_iconst (v := 0) X dX4_isHigh_1 rfl ?_
  refine j_bipush (v := 99) X dX4_isHigh_2 rfl ?_
  refine k_cSI (As := [.int v0, .int 0, .int 99]) (rest := []) X (ct_X4_within l g v0 0 99 M) wl_X4_85 rfl rfl (by decide) (Nat.le_of_ble_eq_true rfl) dX4_isHigh_4 (fun r_2 M_1 => ?_)
  exact j_zret X hr dX4_isHigh_7
def mi_X4_isHigh (v0 : Int32) (M : Mem) : Option (Int32 × Mem) := pi_X4_isHigh_e v0 M
theorem ct_X4_isHigh (l : Launch) (g : Gh) (v0 : Int32) (M : Mem) : CtI l g yX4_isHigh cX4_isHigh 1 (some (.boolean)) 1 [.int v0] M (mi_X4_isHigh v0 M) := ctI_of (own := RX4) (L := [(0, .int v0)]) (by decide +kernel) rfl (Nat.le_of_ble_eq_true rfl) rfl (fun p e s m args below meth c X hr => pj_X4_isHigh_e X hr v0  M)

def pi_X4_isHill_e (v1 : Int32) (M : Mem) : Option (Int32 × Mem) := gd (inb 1 62) <| bd (mi_X4_within v1 0 ((M 50 (1 : Int32).toNatClampNeg) - 1) M) fun r_3 M_2 => gd (isB r_3) (some (r_3, M_2))
set_option maxRecDepth 100000 in
set_option maxHeartbeats 4000000 in
theorem pj_X4_isHill_e {p : Program} {l : Launch} {e : Env} {R : Room} {s : State} {m : MethodId} {args : Array Value} {below : List Frame} {meth : Method} {c : Code} {g : Gh} (X : Cx p l e R s m args below meth c g cX4_isHill 2 (0, 0) RX4 1) (hr : meth.sig.returnType = (some (.boolean))) (v1 : Int32) (M : Mem) : J p l e R s m args below meth c g 2 (0, 0) (QfI below args s g) (pi_X4_isHill_e v1 M) M 0 [(0, .ref (gA g 49)), (1, .int v1)] [] := by
  unfold pi_X4_isHill_e
  refine j_iload_n (i := 1) X dX4_isHill_0 rfl rfl ?_
  refine j_iconst (v := 0) X dX4_isHill_1 rfl ?_
  refine j_aload_n (i := 0) X dX4_isHill_2 rfl rfl ?_
  refine j_get_md 0 X (by decide) wq_346 rfl dX4_isHill_3 ?_
  refine j_iconst (v := 1) X dX4_isHill_6 rfl ?_
  refine j_iald X ia_50 dX4_isHill_7 (fun h_1 => ?_)
  refine j_iconst (v := 1) X dX4_isHill_8 rfl ?_
  refine j_isub X dX4_isHill_9 ?_
  refine k_cSI (As := [.int v1, .int 0, .int ((M 50 (1 : Int32).toNatClampNeg) - 1)]) (rest := []) X (ct_X4_within l g v1 0 ((M 50 (1 : Int32).toNatClampNeg) - 1) M) wl_X4_85 rfl rfl (by decide) (Nat.le_of_ble_eq_true rfl) dX4_isHill_10 (fun r_3 M_2 => ?_)
  exact j_zret X hr dX4_isHill_13
def mi_X4_isHill (v1 : Int32) (M : Mem) : Option (Int32 × Mem) := pi_X4_isHill_e v1 M
theorem ct_X4_isHill (l : Launch) (g : Gh) (v1 : Int32) (M : Mem) : CtI l g yX4_isHill cX4_isHill 2 (some (.boolean)) 1 [.ref (gA g 49), .int v1] M (mi_X4_isHill v1 M) := ctI_of (own := RX4) (L := [(0, .ref (gA g 49)), (1, .int v1)]) (by decide +kernel) rfl (Nat.le_of_ble_eq_true rfl) rfl (fun p e s m args below meth c X hr => pj_X4_isHill_e X hr v1  M)

def pi_X4_isKind_e (v0 : Int32) (M : Mem) : Option (Int32 × Mem) := bd (mi_X4_within v0 0 6 M) fun r_2 M_1 => gd (isB r_2) (some (r_2, M_1))
set_option maxRecDepth 100000 in
set_option maxHeartbeats 4000000 in
theorem pj_X4_isKind_e {p : Program} {l : Launch} {e : Env} {R : Room} {s : State} {m : MethodId} {args : Array Value} {below : List Frame} {meth : Method} {c : Code} {g : Gh} (X : Cx p l e R s m args below meth c g cX4_isKind 1 (0, 0) RX4 1) (hr : meth.sig.returnType = (some (.boolean))) (v0 : Int32) (M : Mem) : J p l e R s m args below meth c g 1 (0, 0) (QfI below args s g) (pi_X4_isKind_e v0 M) M 0 [(0, .int v0)] [] := by
  unfold pi_X4_isKind_e
  refine j_iload_n (i := 0) X dX4_isKind_0 rfl rfl ?_
  refine j_iconst (v := 0) X dX4_isKind_1 rfl ?_
  refine j_bipush (v := 6) X dX4_isKind_2 rfl ?_
  refine k_cSI (As := [.int v0, .int 0, .int 6]) (rest := []) X (ct_X4_within l g v0 0 6 M) wl_X4_85 rfl rfl (by decide) (Nat.le_of_ble_eq_true rfl) dX4_isKind_4 (fun r_2 M_1 => ?_)
  exact j_zret X hr dX4_isKind_7
def mi_X4_isKind (v0 : Int32) (M : Mem) : Option (Int32 × Mem) := pi_X4_isKind_e v0 M
theorem ct_X4_isKind (l : Launch) (g : Gh) (v0 : Int32) (M : Mem) : CtI l g yX4_isKind cX4_isKind 1 (some (.boolean)) 1 [.int v0] M (mi_X4_isKind v0 M) := ctI_of (own := RX4) (L := [(0, .int v0)]) (by decide +kernel) rfl (Nat.le_of_ble_eq_true rfl) rfl (fun p e s m args below meth c X hr => pj_X4_isKind_e X hr v0  M)

def pi_X4_at_e (v0 : Int32) (v1 : Int32) (M : Mem) : Option (Int32 × Mem) := some ((14 + (6 * v0)) + v1, M)
set_option maxRecDepth 100000 in
set_option maxHeartbeats 4000000 in
theorem pj_X4_at_e {p : Program} {l : Launch} {e : Env} {R : Room} {s : State} {m : MethodId} {args : Array Value} {below : List Frame} {meth : Method} {c : Code} {g : Gh} (X : Cx p l e R s m args below meth c g cX4_at 2 (0, 0) RX4 0) (hr : meth.sig.returnType = (some (.int))) (v0 : Int32) (v1 : Int32) (M : Mem) : J p l e R s m args below meth c g 2 (0, 0) (QfI below args s g) (pi_X4_at_e v0 v1 M) M 0 [(0, .int v0), (1, .int v1)] [] := by
  unfold pi_X4_at_e
  refine j_bipush (v := 14) X dX4_at_0 rfl ?_
  refine j_bipush (v := 6) X dX4_at_2 rfl ?_
  refine j_iload_n (i := 0) X dX4_at_4 rfl rfl ?_
  refine j_imul X dX4_at_5 ?_
  refine j_iadd X dX4_at_6 ?_
  refine j_iload_n (i := 1) X dX4_at_7 rfl rfl ?_
  refine j_iadd X dX4_at_8 ?_
  exact j_iret X hr dX4_at_9
def mi_X4_at (v0 : Int32) (v1 : Int32) (M : Mem) : Option (Int32 × Mem) := pi_X4_at_e v0 v1 M
theorem ct_X4_at (l : Launch) (g : Gh) (v0 : Int32) (v1 : Int32) (M : Mem) : CtI l g yX4_at cX4_at 2 (some (.int)) 0 [.int v0, .int v1] M (mi_X4_at v0 v1 M) := ctI_of (own := RX4) (L := [(0, .int v0), (1, .int v1)]) (by decide +kernel) rfl (Nat.le_of_ble_eq_true rfl) rfl (fun p e s m args below meth c X hr => pj_X4_at_e X hr v0 v1  M)

def pi_X4_hillIs_e (v1 : Int32) (v2 : Int32) (M : Mem) : Option (Int32 × Mem) := bd (mi_X4_at v1 v2 M) fun r_2 M_1 => gd (inb r_2 62) <| some (M_1 50 r_2.toNatClampNeg, M_1)
set_option maxRecDepth 100000 in
set_option maxHeartbeats 4000000 in
theorem pj_X4_hillIs_e {p : Program} {l : Launch} {e : Env} {R : Room} {s : State} {m : MethodId} {args : Array Value} {below : List Frame} {meth : Method} {c : Code} {g : Gh} (X : Cx p l e R s m args below meth c g cX4_hillIs 3 (0, 0) RX4 1) (hr : meth.sig.returnType = (some (.int))) (v1 : Int32) (v2 : Int32) (M : Mem) : J p l e R s m args below meth c g 3 (0, 0) (QfI below args s g) (pi_X4_hillIs_e v1 v2 M) M 0 [(0, .ref (gA g 49)), (1, .int v1), (2, .int v2)] [] := by
  unfold pi_X4_hillIs_e
  refine j_aload_n (i := 0) X dX4_hillIs_0 rfl rfl ?_
  refine j_get_md 0 X (by decide) wq_346 rfl dX4_hillIs_1 ?_
  refine j_iload_n (i := 1) X dX4_hillIs_4 rfl rfl ?_
  refine j_iload_n (i := 2) X dX4_hillIs_5 rfl rfl ?_
  refine k_cSI (As := [.int v1, .int v2]) (rest := [.ref (gA g 50)]) X (ct_X4_at l g v1 v2 M) wl_X4_93 rfl rfl (by decide) (Nat.le_of_ble_eq_true rfl) dX4_hillIs_6 (fun r_2 M_1 => ?_)
  refine j_iald X ia_50 dX4_hillIs_9 (fun h_3 => ?_)
  exact j_iret X hr dX4_hillIs_10
def mi_X4_hillIs (v1 : Int32) (v2 : Int32) (M : Mem) : Option (Int32 × Mem) := pi_X4_hillIs_e v1 v2 M
theorem ct_X4_hillIs (l : Launch) (g : Gh) (v1 : Int32) (v2 : Int32) (M : Mem) : CtI l g yX4_hillIs cX4_hillIs 3 (some (.int)) 1 [.ref (gA g 49), .int v1, .int v2] M (mi_X4_hillIs v1 v2 M) := ctI_of (own := RX4) (L := [(0, .ref (gA g 49)), (1, .int v1), (2, .int v2)]) (by decide +kernel) rfl (Nat.le_of_ble_eq_true rfl) rfl (fun p e s m args below meth c X hr => pj_X4_hillIs_e X hr v1 v2  M)

def pi_X4_comes_e (v1 : Int32) (v2 : Int32) (v3 : Int32) (v4 : Int32) (v5 : Int32) (M : Mem) : Option (Int32 × Mem) := gd (inb 1 62) <| bI (M 50 (1 : Int32).toNatClampNeg) fun v6_2 => bd (mi_X4_at v6_2 0 M) fun r_4 M_3 => gd (inb r_4 62) <| bM (up M_3 50 r_4.toNatClampNeg v1) fun M_6 => bd (mi_X4_at v6_2 1 M_6) fun r_8 M_7 => gd (inb r_8 62) <| bM (up M_7 50 r_8.toNatClampNeg v2) fun M_10 => bd (mi_X4_at v6_2 2 M_10) fun r_12 M_11 => gd (inb r_12 62) <| bM (up M_11 50 r_12.toNatClampNeg v3) fun M_14 => bd (mi_X4_at v6_2 3 M_14) fun r_16 M_15 => gd (inb r_16 62) <| bM (up M_15 50 r_16.toNatClampNeg v4) fun M_18 => bd (mi_X4_at v6_2 4 M_18) fun r_20 M_19 => gd (inb r_20 62) <| bM (up M_19 50 r_20.toNatClampNeg v5) fun M_22 => bd (mi_X4_at v6_2 5 M_22) fun r_24 M_23 => gd (inb r_24 62) <| bM (up M_23 50 r_24.toNatClampNeg 0) fun M_26 => gd (inb 1 62) <| gd (inb 1 62) <| bM (up M_26 50 (1 : Int32).toNatClampNeg ((M_26 50 (1 : Int32).toNatClampNeg) + 1)) fun M_29 => some (v6_2, M_29)
set_option maxRecDepth 100000 in
set_option maxHeartbeats 4000000 in
theorem pj_X4_comes_e {p : Program} {l : Launch} {e : Env} {R : Room} {s : State} {m : MethodId} {args : Array Value} {below : List Frame} {meth : Method} {c : Code} {g : Gh} (X : Cx p l e R s m args below meth c g cX4_comes 7 (0, 0) RX4 1) (hr : meth.sig.returnType = (some (.int))) (v1 : Int32) (v2 : Int32) (v3 : Int32) (v4 : Int32) (v5 : Int32) (M : Mem) : J p l e R s m args below meth c g 7 (0, 0) (QfI below args s g) (pi_X4_comes_e v1 v2 v3 v4 v5 M) M 0 [(0, .ref (gA g 49)), (1, .int v1), (2, .int v2), (3, .int v3), (4, .int v4), (5, .int v5)] [] := by
  unfold pi_X4_comes_e
  refine j_aload_n (i := 0) X dX4_comes_0 rfl rfl ?_
  refine j_get_md 0 X (by decide) wq_346 rfl dX4_comes_1 ?_
  refine j_iconst (v := 1) X dX4_comes_4 rfl ?_
  refine j_iald X ia_50 dX4_comes_5 (fun h_1 => ?_)
  refine j_bI (fun v6_2 => ?_)
  refine j_istore (i := 6) (Lq := [(0, .ref (gA g 49)), (1, .int v1), (2, .int v2), (3, .int v3), (4, .int v4), (5, .int v5), (6, .int v6_2)]) X dX4_comes_6 (by decide) rfl ?_
  refine j_aload_n (i := 0) X dX4_comes_8 rfl rfl ?_
  refine j_get_md 0 X (by decide) wq_346 rfl dX4_comes_9 ?_
  refine j_iload (i := 6) X dX4_comes_12 rfl ?_
  refine j_iconst (v := 0) X dX4_comes_14 rfl ?_
  refine k_cSI (As := [.int v6_2, .int 0]) (rest := [.ref (gA g 50)]) X (ct_X4_at l g v6_2 0 M) wl_X4_93 rfl rfl (by decide) (Nat.le_of_ble_eq_true rfl) dX4_comes_15 (fun r_4 M_3 => ?_)
  refine j_iload_n (i := 1) X dX4_comes_18 rfl rfl ?_
  refine j_iast X ia_50 dX4_comes_19 (fun h_5 => ?_)
  refine j_bM (fun M_6 => ?_)
  refine j_aload_n (i := 0) X dX4_comes_20 rfl rfl ?_
  refine j_get_md 0 X (by decide) wq_346 rfl dX4_comes_21 ?_
  refine j_iload (i := 6) X dX4_comes_24 rfl ?_
  refine j_iconst (v := 1) X dX4_comes_26 rfl ?_
  refine k_cSI (As := [.int v6_2, .int 1]) (rest := [.ref (gA g 50)]) X (ct_X4_at l g v6_2 1 M_6) wl_X4_93 rfl rfl (by decide) (Nat.le_of_ble_eq_true rfl) dX4_comes_27 (fun r_8 M_7 => ?_)
  refine j_iload_n (i := 2) X dX4_comes_30 rfl rfl ?_
  refine j_iast X ia_50 dX4_comes_31 (fun h_9 => ?_)
  refine j_bM (fun M_10 => ?_)
  refine j_aload_n (i := 0) X dX4_comes_32 rfl rfl ?_
  refine j_get_md 0 X (by decide) wq_346 rfl dX4_comes_33 ?_
  refine j_iload (i := 6) X dX4_comes_36 rfl ?_
  refine j_iconst (v := 2) X dX4_comes_38 rfl ?_
  refine k_cSI (As := [.int v6_2, .int 2]) (rest := [.ref (gA g 50)]) X (ct_X4_at l g v6_2 2 M_10) wl_X4_93 rfl rfl (by decide) (Nat.le_of_ble_eq_true rfl) dX4_comes_39 (fun r_12 M_11 => ?_)
  refine j_iload_n (i := 3) X dX4_comes_42 rfl rfl ?_
  refine j_iast X ia_50 dX4_comes_43 (fun h_13 => ?_)
  refine j_bM (fun M_14 => ?_)
  refine j_aload_n (i := 0) X dX4_comes_44 rfl rfl ?_
  refine j_get_md 0 X (by decide) wq_346 rfl dX4_comes_45 ?_
  refine j_iload (i := 6) X dX4_comes_48 rfl ?_
  refine j_iconst (v := 3) X dX4_comes_50 rfl ?_
  refine k_cSI (As := [.int v6_2, .int 3]) (rest := [.ref (gA g 50)]) X (ct_X4_at l g v6_2 3 M_14) wl_X4_93 rfl rfl (by decide) (Nat.le_of_ble_eq_true rfl) dX4_comes_51 (fun r_16 M_15 => ?_)
  refine j_iload (i := 4) X dX4_comes_54 rfl ?_
  refine j_iast X ia_50 dX4_comes_56 (fun h_17 => ?_)
  refine j_bM (fun M_18 => ?_)
  refine j_aload_n (i := 0) X dX4_comes_57 rfl rfl ?_
  refine j_get_md 0 X (by decide) wq_346 rfl dX4_comes_58 ?_
  refine j_iload (i := 6) X dX4_comes_61 rfl ?_
  refine j_iconst (v := 4) X dX4_comes_63 rfl ?_
  refine k_cSI (As := [.int v6_2, .int 4]) (rest := [.ref (gA g 50)]) X (ct_X4_at l g v6_2 4 M_18) wl_X4_93 rfl rfl (by decide) (Nat.le_of_ble_eq_true rfl) dX4_comes_64 (fun r_20 M_19 => ?_)
  refine j_iload (i := 5) X dX4_comes_67 rfl ?_
  refine j_iast X ia_50 dX4_comes_69 (fun h_21 => ?_)
  refine j_bM (fun M_22 => ?_)
  refine j_aload_n (i := 0) X dX4_comes_70 rfl rfl ?_
  refine j_get_md 0 X (by decide) wq_346 rfl dX4_comes_71 ?_
  refine j_iload (i := 6) X dX4_comes_74 rfl ?_
  refine j_iconst (v := 5) X dX4_comes_76 rfl ?_
  refine k_cSI (As := [.int v6_2, .int 5]) (rest := [.ref (gA g 50)]) X (ct_X4_at l g v6_2 5 M_22) wl_X4_93 rfl rfl (by decide) (Nat.le_of_ble_eq_true rfl) dX4_comes_77 (fun r_24 M_23 => ?_)
  refine j_iconst (v := 0) X dX4_comes_80 rfl ?_
  refine j_iast X ia_50 dX4_comes_81 (fun h_25 => ?_)
  refine j_bM (fun M_26 => ?_)
  refine j_aload_n (i := 0) X dX4_comes_82 rfl rfl ?_
  refine j_get_md 0 X (by decide) wq_346 rfl dX4_comes_83 ?_
  refine j_iconst (v := 1) X dX4_comes_86 rfl ?_
  refine j_dup2 X dX4_comes_87 rfl rfl ?_
  refine j_iald X ia_50 dX4_comes_88 (fun h_27 => ?_)
  refine j_iconst (v := 1) X dX4_comes_89 rfl ?_
  refine j_iadd X dX4_comes_90 ?_
  refine j_iast X ia_50 dX4_comes_91 (fun h_28 => ?_)
  refine j_bM (fun M_29 => ?_)
  refine j_iload (i := 6) X dX4_comes_92 rfl ?_
  exact j_iret X hr dX4_comes_94
def mi_X4_comes (v1 : Int32) (v2 : Int32) (v3 : Int32) (v4 : Int32) (v5 : Int32) (M : Mem) : Option (Int32 × Mem) := pi_X4_comes_e v1 v2 v3 v4 v5 M
theorem ct_X4_comes (l : Launch) (g : Gh) (v1 : Int32) (v2 : Int32) (v3 : Int32) (v4 : Int32) (v5 : Int32) (M : Mem) : CtI l g yX4_comes cX4_comes 7 (some (.int)) 1 [.ref (gA g 49), .int v1, .int v2, .int v3, .int v4, .int v5] M (mi_X4_comes v1 v2 v3 v4 v5 M) := ctI_of (own := RX4) (L := [(0, .ref (gA g 49)), (1, .int v1), (2, .int v2), (3, .int v3), (4, .int v4), (5, .int v5)]) (by decide +kernel) rfl (Nat.le_of_ble_eq_true rfl) rfl (fun p e s m args below meth c X hr => pj_X4_comes_e X hr v1 v2 v3 v4 v5  M)

def pi_X4_hill_14 (v1 : Int32) (v2 : Int32) (M : Mem) : Option (Int32 × Mem) := bd (mi_X4_finding (-1000001) M) fun r_4 M_3 => some (r_4, M_3)
set_option maxRecDepth 100000 in
set_option maxHeartbeats 4000000 in
theorem pj_X4_hill_14 {p : Program} {l : Launch} {e : Env} {R : Room} {s : State} {m : MethodId} {args : Array Value} {below : List Frame} {meth : Method} {c : Code} {g : Gh} (X : Cx p l e R s m args below meth c g cX4_hill 3 (0, 0) RX4 2) (hr : meth.sig.returnType = (some (.int))) (v1 : Int32) (v2 : Int32) (M : Mem) : J p l e R s m args below meth c g 3 (0, 0) (QfI below args s g) (pi_X4_hill_14 v1 v2 M) M 14 [(0, .ref (gA g 49)), (1, .int v1), (2, .int v2)] [] := by
  unfold pi_X4_hill_14
  refine j_aload_n (i := 0) X dX4_hill_14 rfl rfl ?_
  refine j_ldc (v := (-1000001)) X wq_345 dX4_hill_15 ?_
  refine k_cVI (As := [.int (-1000001)]) (rest := []) (by decide) (cf_md _) rfl X (ct_X4_finding l g (-1000001) M) wl_X4_81 rfl rfl (by decide) (Nat.le_of_ble_eq_true rfl) dX4_hill_17 (fun r_4 M_3 => ?_)
  exact j_iret X hr dX4_hill_20
def pi_X4_hill_e (v1 : Int32) (v2 : Int32) (M : Mem) : Option (Int32 × Mem) := bd (mi_X4_isKind v1 M) fun r_2 M_1 => if r_2 = 0 then (pi_X4_hill_14 v1 v2 M_1) else (bd (mi_X4_isValley v2 M_1) fun r_6 M_5 => if r_6 = 0 then (pi_X4_hill_14 v1 v2 M_5) else (gd (inb 1 62) <| if (M_5 50 (1 : Int32).toNatClampNeg) = 8 then (bd (mi_X4_finding (-1000002) M_5) fun r_9 M_8 => some (r_9, M_8)) else (bd (mi_X4_comes v1 v2 1 0 50 M_5) fun r_11 M_10 => some (r_11, M_10))))
set_option maxRecDepth 100000 in
set_option maxHeartbeats 4000000 in
theorem pj_X4_hill_e {p : Program} {l : Launch} {e : Env} {R : Room} {s : State} {m : MethodId} {args : Array Value} {below : List Frame} {meth : Method} {c : Code} {g : Gh} (X : Cx p l e R s m args below meth c g cX4_hill 3 (0, 0) RX4 2) (hr : meth.sig.returnType = (some (.int))) (v1 : Int32) (v2 : Int32) (M : Mem) : J p l e R s m args below meth c g 3 (0, 0) (QfI below args s g) (pi_X4_hill_e v1 v2 M) M 0 [(0, .ref (gA g 49)), (1, .int v1), (2, .int v2)] [] := by
  unfold pi_X4_hill_e
  refine j_iload_n (i := 1) X dX4_hill_0 rfl rfl ?_
  refine k_cSI (As := [.int v1]) (rest := []) X (ct_X4_isKind l g v1 M) wl_X4_96 rfl rfl (by decide) (Nat.le_of_ble_eq_true rfl) dX4_hill_1 (fun r_2 M_1 => ?_)
  refine j_if_eq (tgt := 14) X dX4_hill_4 (by decide) ?_ ?_
  · exact pj_X4_hill_14 X hr v1 v2 M_1
  · refine j_iload_n (i := 2) X dX4_hill_7 rfl rfl ?_
    refine k_cSI (As := [.int v2]) (rest := []) X (ct_X4_isValley l g v2 M_1) wl_X4_100 rfl rfl (by decide) (Nat.le_of_ble_eq_true rfl) dX4_hill_8 (fun r_6 M_5 => ?_)
    refine j_if_ne (tgt := 21) X dX4_hill_11 (by decide) ?_ ?_
    · exact pj_X4_hill_14 X hr v1 v2 M_5
    · refine j_aload_n (i := 0) X dX4_hill_21 rfl rfl ?_
      refine j_get_md 0 X (by decide) wq_346 rfl dX4_hill_22 ?_
      refine j_iconst (v := 1) X dX4_hill_25 rfl ?_
      refine j_iald X ia_50 dX4_hill_26 (fun h_7 => ?_)
      refine j_bipush (v := 8) X dX4_hill_27 rfl ?_
      refine j_icmp_ne (tgt := 41) X dX4_hill_29 (by decide) ?_ ?_
      · refine j_aload_n (i := 0) X dX4_hill_32 rfl rfl ?_
        refine j_ldc (v := (-1000002)) X wq_373 dX4_hill_33 ?_
        refine k_cVI (As := [.int (-1000002)]) (rest := []) (by decide) (cf_md _) rfl X (ct_X4_finding l g (-1000002) M_5) wl_X4_81 rfl rfl (by decide) (Nat.le_of_ble_eq_true rfl) dX4_hill_35 (fun r_9 M_8 => ?_)
        refine j_goto (tgt := 51) X dX4_hill_38 (by decide) ?_
        exact j_iret X hr dX4_hill_51
      · refine j_aload_n (i := 0) X dX4_hill_41 rfl rfl ?_
        refine j_iload_n (i := 1) X dX4_hill_42 rfl rfl ?_
        refine j_iload_n (i := 2) X dX4_hill_43 rfl rfl ?_
        refine j_iconst (v := 1) X dX4_hill_44 rfl ?_
        refine j_iconst (v := 0) X dX4_hill_45 rfl ?_
        refine j_bipush (v := 50) X dX4_hill_46 rfl ?_
        refine k_cVI (As := [.int v1, .int v2, .int 1, .int 0, .int 50]) (rest := []) (by decide) (cf_md _) rfl X (ct_X4_comes l g v1 v2 1 0 50 M_5) wl_X4_104 rfl rfl (by decide) (Nat.le_of_ble_eq_true rfl) dX4_hill_48 (fun r_11 M_10 => ?_)
        exact j_iret X hr dX4_hill_51
def mi_X4_hill (v1 : Int32) (v2 : Int32) (M : Mem) : Option (Int32 × Mem) := pi_X4_hill_e v1 v2 M
theorem ct_X4_hill (l : Launch) (g : Gh) (v1 : Int32) (v2 : Int32) (M : Mem) : CtI l g yX4_hill cX4_hill 3 (some (.int)) 2 [.ref (gA g 49), .int v1, .int v2] M (mi_X4_hill v1 v2 M) := ctI_of (own := RX4) (L := [(0, .ref (gA g 49)), (1, .int v1), (2, .int v2)]) (by decide +kernel) rfl (Nat.le_of_ble_eq_true rfl) rfl (fun p e s m args below meth c X hr => pj_X4_hill_e X hr v1 v2  M)

def pi_X4_facesOf_e (v1 : Int32) (M : Mem) : Option (Int32 × Mem) := bd (mi_X4_hillIs v1 1 M) fun r_2 M_1 => bd (mi_X4_hillIs v1 3 M_1) fun r_4 M_3 => gd (inb r_4 4) <| bd (mi_X4_by12 (r_2 + (M_3 54 r_4.toNatClampNeg)) M_3) fun r_7 M_6 => some (r_7, M_6)
set_option maxRecDepth 100000 in
set_option maxHeartbeats 4000000 in
theorem pj_X4_facesOf_e {p : Program} {l : Launch} {e : Env} {R : Room} {s : State} {m : MethodId} {args : Array Value} {below : List Frame} {meth : Method} {c : Code} {g : Gh} (X : Cx p l e R s m args below meth c g cX4_facesOf 2 (0, 0) RX4 2) (hr : meth.sig.returnType = (some (.int))) (v1 : Int32) (M : Mem) : J p l e R s m args below meth c g 2 (0, 0) (QfI below args s g) (pi_X4_facesOf_e v1 M) M 0 [(0, .ref (gA g 49)), (1, .int v1)] [] := by
  unfold pi_X4_facesOf_e
  refine j_aload_n (i := 0) X dX4_facesOf_0 rfl rfl ?_
  refine j_iload_n (i := 1) X dX4_facesOf_1 rfl rfl ?_
  refine j_iconst (v := 1) X dX4_facesOf_2 rfl ?_
  refine k_cVI (As := [.int v1, .int 1]) (rest := []) (by decide) (cf_md _) rfl X (ct_X4_hillIs l g v1 1 M) wl_X4_108 rfl rfl (by decide) (Nat.le_of_ble_eq_true rfl) dX4_facesOf_3 (fun r_2 M_1 => ?_)
  refine j_aload_n (i := 0) X dX4_facesOf_6 rfl rfl ?_
  refine j_get_md 5 X (by decide) wq_382 rfl dX4_facesOf_7 ?_
  refine j_aload_n (i := 0) X dX4_facesOf_10 rfl rfl ?_
  refine j_iload_n (i := 1) X dX4_facesOf_11 rfl rfl ?_
  refine j_iconst (v := 3) X dX4_facesOf_12 rfl ?_
  refine k_cVI (As := [.int v1, .int 3]) (rest := [.ref (gA g 54), .int r_2]) (by decide) (cf_md _) rfl X (ct_X4_hillIs l g v1 3 M_1) wl_X4_108 rfl rfl (by decide) (Nat.le_of_ble_eq_true rfl) dX4_facesOf_13 (fun r_4 M_3 => ?_)
  refine j_iald X ia_54 dX4_facesOf_16 (fun h_5 => ?_)
  refine j_iadd X dX4_facesOf_17 ?_
  refine k_cSI (As := [.int (r_2 + (M_3 54 r_4.toNatClampNeg))]) (rest := []) X (ct_X4_by12 l g (r_2 + (M_3 54 r_4.toNatClampNeg)) M_3) wl_X4_111 rfl rfl (by decide) (Nat.le_of_ble_eq_true rfl) dX4_facesOf_18 (fun r_7 M_6 => ?_)
  exact j_iret X hr dX4_facesOf_21
def mi_X4_facesOf (v1 : Int32) (M : Mem) : Option (Int32 × Mem) := pi_X4_facesOf_e v1 M
theorem ct_X4_facesOf (l : Launch) (g : Gh) (v1 : Int32) (M : Mem) : CtI l g yX4_facesOf cX4_facesOf 2 (some (.int)) 2 [.ref (gA g 49), .int v1] M (mi_X4_facesOf v1 M) := ctI_of (own := RX4) (L := [(0, .ref (gA g 49)), (1, .int v1)]) (by decide +kernel) rfl (Nat.le_of_ble_eq_true rfl) rfl (fun p e s m args below meth c X hr => pj_X4_facesOf_e X hr v1  M)

def pi_X4_atValley_4 (v1 : Int32) (rc4 : Int32 × Int32 × Mem → Option (Int32 × Mem)) (v2 : Int32) (v3 : Int32) (M : Mem) : Option (Int32 × Mem) := gd (inb 1 62) <| if (M 50 (1 : Int32).toNatClampNeg) ≤ v3 then (some (v2, M)) else (bd (mi_X4_hillIs v3 1 M) fun r_3 M_2 => if r_3 = v1 then (bI (v2 ||| (1 <<< (v3 &&& 31))) fun v2_4 => bI (v3 + 1) fun v3_5 => rc4 (v2_4, v3_5, M_2)) else (bI (v2 ||| 0) fun v2_6 => bI (v3 + 1) fun v3_7 => rc4 (v2_6, v3_7, M_2)))
set_option maxRecDepth 100000 in
set_option maxHeartbeats 4000000 in
theorem pj_X4_atValley_4 {p : Program} {l : Launch} {e : Env} {R : Room} {s : State} {m : MethodId} {args : Array Value} {below : List Frame} {meth : Method} {c : Code} {g : Gh} (X : Cx p l e R s m args below meth c g cX4_atValley 4 (0, 0) RX4 2) (hr : meth.sig.returnType = (some (.int))) (v1 : Int32) (rc4 : Int32 × Int32 × Mem → Option (Int32 × Mem)) (hc4 : ∀ x, J p l e R s m args below meth c g 4 (0, 0) (QfI below args s g) (rc4 x) x.2.2 4 [(0, .ref (gA g 49)), (1, .int v1), (2, .int x.1), (3, .int x.2.1)] []) (v2 : Int32) (v3 : Int32) (M : Mem) : J p l e R s m args below meth c g 4 (0, 0) (QfI below args s g) (pi_X4_atValley_4 v1 rc4 v2 v3 M) M 4 [(0, .ref (gA g 49)), (1, .int v1), (2, .int v2), (3, .int v3)] [] := by
  unfold pi_X4_atValley_4
  refine j_iload_n (i := 3) X dX4_atValley_4 rfl rfl ?_
  refine j_aload_n (i := 0) X dX4_atValley_5 rfl rfl ?_
  refine j_get_md 0 X (by decide) wq_346 rfl dX4_atValley_6 ?_
  refine j_iconst (v := 1) X dX4_atValley_9 rfl ?_
  refine j_iald X ia_50 dX4_atValley_10 (fun h_1 => ?_)
  refine j_icmp_ge (tgt := 40) X dX4_atValley_11 (by decide) ?_ ?_
  · refine j_iload_n (i := 2) X dX4_atValley_40 rfl rfl ?_
    exact j_iret X hr dX4_atValley_41
  · refine j_iload_n (i := 2) X dX4_atValley_14 rfl rfl ?_
    refine j_aload_n (i := 0) X dX4_atValley_15 rfl rfl ?_
    refine j_iload_n (i := 3) X dX4_atValley_16 rfl rfl ?_
    refine j_iconst (v := 1) X dX4_atValley_17 rfl ?_
    refine k_cVI (As := [.int v3, .int 1]) (rest := [.int v2]) (by decide) (cf_md _) rfl X (ct_X4_hillIs l g v3 1 M) wl_X4_108 rfl rfl (by decide) (Nat.le_of_ble_eq_true rfl) dX4_atValley_18 (fun r_3 M_2 => ?_)
    refine j_iload_n (i := 1) X dX4_atValley_21 rfl rfl ?_
    refine j_icmp_ne (tgt := 31) X dX4_atValley_22 (by decide) ?_ ?_
    · refine j_iconst (v := 1) X dX4_atValley_25 rfl ?_
      refine j_iload_n (i := 3) X dX4_atValley_26 rfl rfl ?_
      refine j_ishl X dX4_atValley_27 ?_
      refine j_goto (tgt := 32) X dX4_atValley_28 (by decide) ?_
      refine j_ior X dX4_atValley_32 ?_
      refine j_bI (fun v2_4 => ?_)
      refine j_istore_n (i := 2) (Lq := [(0, .ref (gA g 49)), (1, .int v1), (2, .int v2_4), (3, .int v3)]) X dX4_atValley_33 rfl (by decide) rfl ?_
      refine j_iincB (i := 3) (y := v3 + 1) (Lf := fun v3_5 => [(0, .ref (gA g 49)), (1, .int v1), (2, .int v2_4), (3, .int v3_5)]) X dX4_atValley_34 rfl rfl (by decide) (fun _ => rfl) (fun v3_5 => ?_)
      refine j_goto (tgt := 4) X dX4_atValley_37 (by decide) ?_
      exact hc4 (v2_4, v3_5, M_2)
    · refine j_iconst (v := 0) X dX4_atValley_31 rfl ?_
      refine j_ior X dX4_atValley_32 ?_
      refine j_bI (fun v2_6 => ?_)
      refine j_istore_n (i := 2) (Lq := [(0, .ref (gA g 49)), (1, .int v1), (2, .int v2_6), (3, .int v3)]) X dX4_atValley_33 rfl (by decide) rfl ?_
      refine j_iincB (i := 3) (y := v3 + 1) (Lf := fun v3_7 => [(0, .ref (gA g 49)), (1, .int v1), (2, .int v2_6), (3, .int v3_7)]) X dX4_atValley_34 rfl rfl (by decide) (fun _ => rfl) (fun v3_7 => ?_)
      refine j_goto (tgt := 4) X dX4_atValley_37 (by decide) ?_
      exact hc4 (v2_6, v3_7, M_2)
def pi_X4_atValley_e (v1 : Int32) (M : Mem) : Option (Int32 × Mem) := lp (fun rc4 x => pi_X4_atValley_4 v1 rc4 x.1 x.2.1 x.2.2) FU (0, 0, M)
set_option maxRecDepth 100000 in
set_option maxHeartbeats 4000000 in
theorem pj_X4_atValley_e {p : Program} {l : Launch} {e : Env} {R : Room} {s : State} {m : MethodId} {args : Array Value} {below : List Frame} {meth : Method} {c : Code} {g : Gh} (X : Cx p l e R s m args below meth c g cX4_atValley 4 (0, 0) RX4 2) (hr : meth.sig.returnType = (some (.int))) (v1 : Int32) (M : Mem) : J p l e R s m args below meth c g 4 (0, 0) (QfI below args s g) (pi_X4_atValley_e v1 M) M 0 [(0, .ref (gA g 49)), (1, .int v1)] [] := by
  unfold pi_X4_atValley_e
  refine j_iconst (v := 0) X dX4_atValley_0 rfl ?_
  refine j_istore_n (i := 2) (Lq := [(0, .ref (gA g 49)), (1, .int v1), (2, .int 0)]) X dX4_atValley_1 rfl (by decide) rfl ?_
  refine j_iconst (v := 0) X dX4_atValley_2 rfl ?_
  refine j_istore_n (i := 3) (Lq := [(0, .ref (gA g 49)), (1, .int v1), (2, .int 0), (3, .int 0)]) X dX4_atValley_3 rfl (by decide) rfl ?_
  exact j_lp (Lf := fun x => [(0, .ref (gA g 49)), (1, .int v1), (2, .int x.1), (3, .int x.2.1)]) (Mf := fun x => x.2.2) (fun rc4 hc4 x => pj_X4_atValley_4 X hr v1 rc4 hc4 x.1 x.2.1 x.2.2) FU (0, 0, M)
def mi_X4_atValley (v1 : Int32) (M : Mem) : Option (Int32 × Mem) := pi_X4_atValley_e v1 M
theorem ct_X4_atValley (l : Launch) (g : Gh) (v1 : Int32) (M : Mem) : CtI l g yX4_atValley cX4_atValley 4 (some (.int)) 2 [.ref (gA g 49), .int v1] M (mi_X4_atValley v1 M) := ctI_of (own := RX4) (L := [(0, .ref (gA g 49)), (1, .int v1)]) (by decide +kernel) rfl (Nat.le_of_ble_eq_true rfl) rfl (fun p e s m args below meth c X hr => pj_X4_atValley_e X hr v1  M)
