def pi_X0_append_e (v1 : Int32) (M : Mem) : Option (Mem) := gd (inb (M 37 1) 120) <| bM (up M 38 (M 37 1).toNatClampNeg v1) fun M_2 => bM (up M_2 37 1 ((M_2 37 1) + 1)) fun M_3 => some M_3
set_option maxRecDepth 100000 in
set_option maxHeartbeats 4000000 in
theorem pj_X0_append_e {p : Program} {l : Launch} {e : Env} {R : Room} {s : State} {m : MethodId} {args : Array Value} {below : List Frame} {meth : Method} {c : Code} {g : Gh} (X : Cx p l e R s m args below meth c g cX0_append 2 (0, 0) RX0 0) (hr : meth.sig.returnType = none) (v1 : Int32) (M : Mem) : J p l e R s m args below meth c g 2 (0, 0) (QfV below args s g) (pi_X0_append_e v1 M) M 0 [(0, .ref (gA g 37)), (1, .int v1)] [] := by
  unfold pi_X0_append_e
  refine j_aload_n (i := 0) X dX0_append_0 rfl rfl ?_
  refine j_get_rd 0 X (by decide) wq_0 rfl dX0_append_1 ?_
  refine j_aload_n (i := 0) X dX0_append_4 rfl rfl ?_
  refine j_get_rd 1 X (by decide) wq_1 rfl dX0_append_5 ?_
  refine j_iload_n (i := 1) X dX0_append_8 rfl rfl ?_
  refine j_iast X ia_38 dX0_append_9 (fun h_1 => ?_)
  refine j_bM (fun M_2 => ?_)
  refine j_aload_n (i := 0) X dX0_append_10 rfl rfl ?_
  refine j_dup X dX0_append_11 rfl ?_
  refine j_get_rd 1 X (by decide) wq_1 rfl dX0_append_12 ?_
  refine j_iconst (v := 1) X dX0_append_15 rfl ?_
  refine j_iadd X dX0_append_16 ?_
  refine j_put_rd (ty := .int) 1 X (by decide) wq_1 (fun _ => rfl) rfl (by decide +kernel) rfl rfl dX0_append_17 ?_
  refine j_bM (fun M_3 => ?_)
  exact j_vret X hr dX0_append_20
def mi_X0_append (v1 : Int32) (M : Mem) : Option (Mem) := pi_X0_append_e v1 M
theorem ct_X0_append (l : Launch) (g : Gh) (v1 : Int32) (M : Mem) : CtV l g yX0_append cX0_append 2 none 0 [.ref (gA g 37), .int v1] M (mi_X0_append v1 M) := ctV_of (own := RX0) (L := [(0, .ref (gA g 37)), (1, .int v1)]) (by decide +kernel) rfl (Nat.le_of_ble_eq_true rfl) rfl (fun p e s m args below meth c X hr => pj_X0_append_e X hr v1  M)

def pi_X0_isDigit_e (v0 : Int32) (M : Mem) : Option (Int32 × Mem) := if v0 < 48 then (gd (isB 0) (some (0, M))) else (if 57 < v0 then (gd (isB 0) (some (0, M))) else (gd (isB 1) (some (1, M))))
set_option maxRecDepth 100000 in
set_option maxHeartbeats 4000000 in
theorem pj_X0_isDigit_e {p : Program} {l : Launch} {e : Env} {R : Room} {s : State} {m : MethodId} {args : Array Value} {below : List Frame} {meth : Method} {c : Code} {g : Gh} (X : Cx p l e R s m args below meth c g cX0_isDigit 1 (0, 0) RX0 0) (hr : meth.sig.returnType = (some (.boolean))) (v0 : Int32) (M : Mem) : J p l e R s m args below meth c g 1 (0, 0) (QfI below args s g) (pi_X0_isDigit_e v0 M) M 0 [(0, .int v0)] [] := by
  unfold pi_X0_isDigit_e
  refine j_iload_n (i := 0) X dX0_isDigit_0 rfl rfl ?_
  refine j_bipush (v := 48) X dX0_isDigit_1 rfl ?_
  refine j_icmp_lt (tgt := 16) X dX0_isDigit_3 (by decide) ?_ ?_
  · refine j_iconst (v := 0) X dX0_isDigit_16 rfl ?_
    exact j_zret X hr dX0_isDigit_17
  · refine j_iload_n (i := 0) X dX0_isDigit_6 rfl rfl ?_
    refine j_bipush (v := 57) X dX0_isDigit_7 rfl ?_
    refine j_icmp_gt (tgt := 16) X dX0_isDigit_9 (by decide) ?_ ?_
    · refine j_iconst (v := 0) X dX0_isDigit_16 rfl ?_
      exact j_zret X hr dX0_isDigit_17
    · refine j_iconst (v := 1) X dX0_isDigit_12 rfl ?_
      refine j_goto (tgt := 17) X dX0_isDigit_13 (by decide) ?_
      exact j_zret X hr dX0_isDigit_17
def mi_X0_isDigit (v0 : Int32) (M : Mem) : Option (Int32 × Mem) := pi_X0_isDigit_e v0 M
theorem ct_X0_isDigit (l : Launch) (g : Gh) (v0 : Int32) (M : Mem) : CtI l g yX0_isDigit cX0_isDigit 1 (some (.boolean)) 0 [.int v0] M (mi_X0_isDigit v0 M) := ctI_of (own := RX0) (L := [(0, .int v0)]) (by decide +kernel) rfl (Nat.le_of_ble_eq_true rfl) rfl (fun p e s m args below meth c X hr => pj_X0_isDigit_e X hr v0  M)

def pi_X0_isLetter_e (v0 : Int32) (M : Mem) : Option (Int32 × Mem) := if v0 < 97 then (gd (isB 0) (some (0, M))) else (if 122 < v0 then (gd (isB 0) (some (0, M))) else (gd (isB 1) (some (1, M))))
set_option maxRecDepth 100000 in
set_option maxHeartbeats 4000000 in
theorem pj_X0_isLetter_e {p : Program} {l : Launch} {e : Env} {R : Room} {s : State} {m : MethodId} {args : Array Value} {below : List Frame} {meth : Method} {c : Code} {g : Gh} (X : Cx p l e R s m args below meth c g cX0_isLetter 1 (0, 0) RX0 0) (hr : meth.sig.returnType = (some (.boolean))) (v0 : Int32) (M : Mem) : J p l e R s m args below meth c g 1 (0, 0) (QfI below args s g) (pi_X0_isLetter_e v0 M) M 0 [(0, .int v0)] [] := by
  unfold pi_X0_isLetter_e
  refine j_iload_n (i := 0) X dX0_isLetter_0 rfl rfl ?_
  refine j_bipush (v := 97) X dX0_isLetter_1 rfl ?_
  refine j_icmp_lt (tgt := 16) X dX0_isLetter_3 (by decide) ?_ ?_
  · refine j_iconst (v := 0) X dX0_isLetter_16 rfl ?_
    exact j_zret X hr dX0_isLetter_17
  · refine j_iload_n (i := 0) X dX0_isLetter_6 rfl rfl ?_
    refine j_bipush (v := 122) X dX0_isLetter_7 rfl ?_
    refine j_icmp_gt (tgt := 16) X dX0_isLetter_9 (by decide) ?_ ?_
    · refine j_iconst (v := 0) X dX0_isLetter_16 rfl ?_
      exact j_zret X hr dX0_isLetter_17
    · refine j_iconst (v := 1) X dX0_isLetter_12 rfl ?_
      refine j_goto (tgt := 17) X dX0_isLetter_13 (by decide) ?_
      exact j_zret X hr dX0_isLetter_17
def mi_X0_isLetter (v0 : Int32) (M : Mem) : Option (Int32 × Mem) := pi_X0_isLetter_e v0 M
theorem ct_X0_isLetter (l : Launch) (g : Gh) (v0 : Int32) (M : Mem) : CtI l g yX0_isLetter cX0_isLetter 1 (some (.boolean)) 0 [.int v0] M (mi_X0_isLetter v0 M) := ctI_of (own := RX0) (L := [(0, .int v0)]) (by decide +kernel) rfl (Nat.le_of_ble_eq_true rfl) rfl (fun p e s m args below meth c X hr => pj_X0_isLetter_e X hr v0  M)

def pi_X0_signOf_e (v0 : Int32) (M : Mem) : Option (Int32 × Mem) := if v0 = 59 then (some (3, M)) else (if v0 = 45 then (some (4, M)) else (some (5, M)))
set_option maxRecDepth 100000 in
set_option maxHeartbeats 4000000 in
theorem pj_X0_signOf_e {p : Program} {l : Launch} {e : Env} {R : Room} {s : State} {m : MethodId} {args : Array Value} {below : List Frame} {meth : Method} {c : Code} {g : Gh} (X : Cx p l e R s m args below meth c g cX0_signOf 1 (0, 0) RX0 0) (hr : meth.sig.returnType = (some (.int))) (v0 : Int32) (M : Mem) : J p l e R s m args below meth c g 1 (0, 0) (QfI below args s g) (pi_X0_signOf_e v0 M) M 0 [(0, .int v0)] [] := by
  unfold pi_X0_signOf_e
  refine j_iload_n (i := 0) X dX0_signOf_0 rfl rfl ?_
  refine j_bipush (v := 59) X dX0_signOf_1 rfl ?_
  refine j_icmp_ne (tgt := 8) X dX0_signOf_3 (by decide) ?_ ?_
  · refine j_iconst (v := 3) X dX0_signOf_6 rfl ?_
    exact j_iret X hr dX0_signOf_7
  · refine j_iload_n (i := 0) X dX0_signOf_8 rfl rfl ?_
    refine j_bipush (v := 45) X dX0_signOf_9 rfl ?_
    refine j_icmp_ne (tgt := 18) X dX0_signOf_11 (by decide) ?_ ?_
    · refine j_iconst (v := 4) X dX0_signOf_14 rfl ?_
      refine j_goto (tgt := 19) X dX0_signOf_15 (by decide) ?_
      exact j_iret X hr dX0_signOf_19
    · refine j_iconst (v := 5) X dX0_signOf_18 rfl ?_
      exact j_iret X hr dX0_signOf_19
def mi_X0_signOf (v0 : Int32) (M : Mem) : Option (Int32 × Mem) := pi_X0_signOf_e v0 M
theorem ct_X0_signOf (l : Launch) (g : Gh) (v0 : Int32) (M : Mem) : CtI l g yX0_signOf cX0_signOf 1 (some (.int)) 0 [.int v0] M (mi_X0_signOf v0 M) := ctI_of (own := RX0) (L := [(0, .int v0)]) (by decide +kernel) rfl (Nat.le_of_ble_eq_true rfl) rfl (fun p e s m args below meth c X hr => pj_X0_signOf_e X hr v0  M)

def pi_X0_takeDigits_5 (rc5 : Mem → Option (Mem)) (M : Mem) : Option (Mem) := if (M 37 1) ≤ (M 37 3) then (some M) else (gd (inb (M 37 3) 120) <| bd (mi_X0_isDigit (M 38 (M 37 3).toNatClampNeg) M) fun r_4 M_3 => if r_4 = 0 then (some M_3) else (gd (inb (M_3 37 3) 120) <| bM (up M_3 37 5 (if ((((M_3 37 5) * 10) + (M_3 38 (M_3 37 3).toNatClampNeg)) - 48) < 1000 then ((((M_3 37 5) * 10) + (M_3 38 (M_3 37 3).toNatClampNeg)) - 48) else 1000)) fun M_6 => bM (up M_6 37 3 ((M_6 37 3) + 1)) fun M_7 => rc5 M_7))
set_option maxRecDepth 100000 in
set_option maxHeartbeats 4000000 in
theorem pj_X0_takeDigits_5 {p : Program} {l : Launch} {e : Env} {R : Room} {s : State} {m : MethodId} {args : Array Value} {below : List Frame} {meth : Method} {c : Code} {g : Gh} (X : Cx p l e R s m args below meth c g cX0_takeDigits 1 (0, 0) RX0 1) (hr : meth.sig.returnType = none) (rc5 : Mem → Option (Mem)) (hc5 : ∀ x, J p l e R s m args below meth c g 1 (0, 0) (QfV below args s g) (rc5 x) x 5 [(0, .ref (gA g 37))] []) (M : Mem) : J p l e R s m args below meth c g 1 (0, 0) (QfV below args s g) (pi_X0_takeDigits_5 rc5 M) M 5 [(0, .ref (gA g 37))] [] := by
  unfold pi_X0_takeDigits_5
  refine j_aload_n (i := 0) X dX0_takeDigits_5 rfl rfl ?_
  refine j_get_rd 3 X (by decide) wq_3 rfl dX0_takeDigits_6 ?_
  refine j_aload_n (i := 0) X dX0_takeDigits_9 rfl rfl ?_
  refine j_get_rd 1 X (by decide) wq_1 rfl dX0_takeDigits_10 ?_
  refine j_icmp_ge (tgt := 74) X dX0_takeDigits_13 (by decide) ?_ ?_
  · exact j_vret X hr dX0_takeDigits_74
  · refine j_aload_n (i := 0) X dX0_takeDigits_16 rfl rfl ?_
    refine j_get_rd 0 X (by decide) wq_0 rfl dX0_takeDigits_17 ?_
    refine j_aload_n (i := 0) X dX0_takeDigits_20 rfl rfl ?_
    refine j_get_rd 3 X (by decide) wq_3 rfl dX0_takeDigits_21 ?_
    refine j_iald X ia_38 dX0_takeDigits_24 (fun h_2 => ?_)
    refine k_cSI (As := [.int (M 38 (M 37 3).toNatClampNeg)]) (rest := []) X (ct_X0_isDigit l g (M 38 (M 37 3).toNatClampNeg) M) wl_X0_117 rfl rfl (by decide) (Nat.le_of_ble_eq_true rfl) dX0_takeDigits_25 (fun r_4 M_3 => ?_)
    refine j_if_eq (tgt := 74) X dX0_takeDigits_28 (by decide) ?_ ?_
    · exact j_vret X hr dX0_takeDigits_74
    · refine j_aload_n (i := 0) X dX0_takeDigits_31 rfl rfl ?_
      refine j_sipush (v := 1000) X dX0_takeDigits_32 rfl ?_
      refine j_aload_n (i := 0) X dX0_takeDigits_35 rfl rfl ?_
      refine j_get_rd 5 X (by decide) wq_2 rfl dX0_takeDigits_36 ?_
      refine j_bipush (v := 10) X dX0_takeDigits_39 rfl ?_
      refine j_imul X dX0_takeDigits_41 ?_
      refine j_aload_n (i := 0) X dX0_takeDigits_42 rfl rfl ?_
      refine j_get_rd 0 X (by decide) wq_0 rfl dX0_takeDigits_43 ?_
      refine j_aload_n (i := 0) X dX0_takeDigits_46 rfl rfl ?_
      refine j_get_rd 3 X (by decide) wq_3 rfl dX0_takeDigits_47 ?_
      refine j_iald X ia_38 dX0_takeDigits_50 (fun h_5 => ?_)
      refine j_iadd X dX0_takeDigits_51 ?_
      refine j_bipush (v := 48) X dX0_takeDigits_52 rfl ?_
      refine j_isub X dX0_takeDigits_54 ?_
      refine j_mmin X wm_X0_126 wm_min2 wm_ini wm_min4 (by decide) (Nat.le_of_ble_eq_true rfl) dX0_takeDigits_55 ?_
      refine j_put_rd (ty := .int) 5 X (by decide) wq_2 (fun _ => rfl) rfl (by decide +kernel) rfl rfl dX0_takeDigits_58 ?_
      refine j_bM (fun M_6 => ?_)
      refine j_aload_n (i := 0) X dX0_takeDigits_61 rfl rfl ?_
      refine j_dup X dX0_takeDigits_62 rfl ?_
      refine j_get_rd 3 X (by decide) wq_3 rfl dX0_takeDigits_63 ?_
      refine j_iconst (v := 1) X dX0_takeDigits_66 rfl ?_
      refine j_iadd X dX0_takeDigits_67 ?_
      refine j_put_rd (ty := .int) 3 X (by decide) wq_3 (fun _ => rfl) rfl (by decide +kernel) rfl rfl dX0_takeDigits_68 ?_
      refine j_bM (fun M_7 => ?_)
      refine j_goto (tgt := 5) X dX0_takeDigits_71 (by decide) ?_
      exact hc5 M_7
def pi_X0_takeDigits_e (M : Mem) : Option (Mem) := bM (up M 37 5 0) fun M_1 => lp (fun rc5 x => pi_X0_takeDigits_5 rc5 x) FU M_1
set_option maxRecDepth 100000 in
set_option maxHeartbeats 4000000 in
theorem pj_X0_takeDigits_e {p : Program} {l : Launch} {e : Env} {R : Room} {s : State} {m : MethodId} {args : Array Value} {below : List Frame} {meth : Method} {c : Code} {g : Gh} (X : Cx p l e R s m args below meth c g cX0_takeDigits 1 (0, 0) RX0 1) (hr : meth.sig.returnType = none) (M : Mem) : J p l e R s m args below meth c g 1 (0, 0) (QfV below args s g) (pi_X0_takeDigits_e M) M 0 [(0, .ref (gA g 37))] [] := by
  unfold pi_X0_takeDigits_e
  refine j_aload_n (i := 0) X dX0_takeDigits_0 rfl rfl ?_
  refine j_iconst (v := 0) X dX0_takeDigits_1 rfl ?_
  refine j_put_rd (ty := .int) 5 X (by decide) wq_2 (fun _ => rfl) rfl (by decide +kernel) rfl rfl dX0_takeDigits_2 ?_
  refine j_bM (fun M_1 => ?_)
  exact j_lp (Lf := fun x => [(0, .ref (gA g 37))]) (Mf := fun x => x) (fun rc5 hc5 x => pj_X0_takeDigits_5 X hr rc5 hc5 x) FU M_1
def mi_X0_takeDigits (M : Mem) : Option (Mem) := pi_X0_takeDigits_e  M
theorem ct_X0_takeDigits (l : Launch) (g : Gh) (M : Mem) : CtV l g yX0_takeDigits cX0_takeDigits 1 none 1 [.ref (gA g 37)] M (mi_X0_takeDigits  M) := ctV_of (own := RX0) (L := [(0, .ref (gA g 37))]) (by decide +kernel) rfl (Nat.le_of_ble_eq_true rfl) rfl (fun p e s m args below meth c X hr => pj_X0_takeDigits_e X hr   M)

def pi_X0_takeLetters_0 (rc0 : Mem → Option (Mem)) (M : Mem) : Option (Mem) := if (M 37 1) ≤ (M 37 3) then (some M) else (gd (inb (M 37 3) 120) <| bd (mi_X0_isLetter (M 38 (M 37 3).toNatClampNeg) M) fun r_7 M_6 => if r_7 = 0 then (some M_6) else (bM (up M_6 37 3 ((M_6 37 3) + 1)) fun M_8 => rc0 M_8))
set_option maxRecDepth 100000 in
set_option maxHeartbeats 4000000 in
theorem pj_X0_takeLetters_0 {p : Program} {l : Launch} {e : Env} {R : Room} {s : State} {m : MethodId} {args : Array Value} {below : List Frame} {meth : Method} {c : Code} {g : Gh} (X : Cx p l e R s m args below meth c g cX0_takeLetters 1 (0, 0) RX0 1) (hr : meth.sig.returnType = none) (rc0 : Mem → Option (Mem)) (hc0 : ∀ x, J p l e R s m args below meth c g 1 (0, 0) (QfV below args s g) (rc0 x) x 0 [(0, .ref (gA g 37))] []) (M : Mem) : J p l e R s m args below meth c g 1 (0, 0) (QfV below args s g) (pi_X0_takeLetters_0 rc0 M) M 0 [(0, .ref (gA g 37))] [] := by
  unfold pi_X0_takeLetters_0
  refine j_aload_n (i := 0) X dX0_takeLetters_0 rfl rfl ?_
  refine j_get_rd 3 X (by decide) wq_3 rfl dX0_takeLetters_1 ?_
  refine j_aload_n (i := 0) X dX0_takeLetters_4 rfl rfl ?_
  refine j_get_rd 1 X (by decide) wq_1 rfl dX0_takeLetters_5 ?_
  refine j_icmp_ge (tgt := 39) X dX0_takeLetters_8 (by decide) ?_ ?_
  · exact j_vret X hr dX0_takeLetters_39
  · refine j_aload_n (i := 0) X dX0_takeLetters_11 rfl rfl ?_
    refine j_get_rd 0 X (by decide) wq_0 rfl dX0_takeLetters_12 ?_
    refine j_aload_n (i := 0) X dX0_takeLetters_15 rfl rfl ?_
    refine j_get_rd 3 X (by decide) wq_3 rfl dX0_takeLetters_16 ?_
    refine j_iald X ia_38 dX0_takeLetters_19 (fun h_5 => ?_)
    refine k_cSI (As := [.int (M 38 (M 37 3).toNatClampNeg)]) (rest := []) X (ct_X0_isLetter l g (M 38 (M 37 3).toNatClampNeg) M) wl_X0_111 rfl rfl (by decide) (Nat.le_of_ble_eq_true rfl) dX0_takeLetters_20 (fun r_7 M_6 => ?_)
    refine j_if_eq (tgt := 39) X dX0_takeLetters_23 (by decide) ?_ ?_
    · exact j_vret X hr dX0_takeLetters_39
    · refine j_aload_n (i := 0) X dX0_takeLetters_26 rfl rfl ?_
      refine j_dup X dX0_takeLetters_27 rfl ?_
      refine j_get_rd 3 X (by decide) wq_3 rfl dX0_takeLetters_28 ?_
      refine j_iconst (v := 1) X dX0_takeLetters_31 rfl ?_
      refine j_iadd X dX0_takeLetters_32 ?_
      refine j_put_rd (ty := .int) 3 X (by decide) wq_3 (fun _ => rfl) rfl (by decide +kernel) rfl rfl dX0_takeLetters_33 ?_
      refine j_bM (fun M_8 => ?_)
      refine j_goto (tgt := 0) X dX0_takeLetters_36 (by decide) ?_
      exact hc0 M_8
def pi_X0_takeLetters_e (M : Mem) : Option (Mem) := if (M 37 1) ≤ (M 37 3) then (some M) else (gd (inb (M 37 3) 120) <| bd (mi_X0_isLetter (M 38 (M 37 3).toNatClampNeg) M) fun r_3 M_2 => if r_3 = 0 then (some M_2) else (bM (up M_2 37 3 ((M_2 37 3) + 1)) fun M_4 => lp (fun rc0 x => pi_X0_takeLetters_0 rc0 x) FU M_4))
set_option maxRecDepth 100000 in
set_option maxHeartbeats 4000000 in
theorem pj_X0_takeLetters_e {p : Program} {l : Launch} {e : Env} {R : Room} {s : State} {m : MethodId} {args : Array Value} {below : List Frame} {meth : Method} {c : Code} {g : Gh} (X : Cx p l e R s m args below meth c g cX0_takeLetters 1 (0, 0) RX0 1) (hr : meth.sig.returnType = none) (M : Mem) : J p l e R s m args below meth c g 1 (0, 0) (QfV below args s g) (pi_X0_takeLetters_e M) M 0 [(0, .ref (gA g 37))] [] := by
  unfold pi_X0_takeLetters_e
  refine j_aload_n (i := 0) X dX0_takeLetters_0 rfl rfl ?_
  refine j_get_rd 3 X (by decide) wq_3 rfl dX0_takeLetters_1 ?_
  refine j_aload_n (i := 0) X dX0_takeLetters_4 rfl rfl ?_
  refine j_get_rd 1 X (by decide) wq_1 rfl dX0_takeLetters_5 ?_
  refine j_icmp_ge (tgt := 39) X dX0_takeLetters_8 (by decide) ?_ ?_
  · exact j_vret X hr dX0_takeLetters_39
  · refine j_aload_n (i := 0) X dX0_takeLetters_11 rfl rfl ?_
    refine j_get_rd 0 X (by decide) wq_0 rfl dX0_takeLetters_12 ?_
    refine j_aload_n (i := 0) X dX0_takeLetters_15 rfl rfl ?_
    refine j_get_rd 3 X (by decide) wq_3 rfl dX0_takeLetters_16 ?_
    refine j_iald X ia_38 dX0_takeLetters_19 (fun h_1 => ?_)
    refine k_cSI (As := [.int (M 38 (M 37 3).toNatClampNeg)]) (rest := []) X (ct_X0_isLetter l g (M 38 (M 37 3).toNatClampNeg) M) wl_X0_111 rfl rfl (by decide) (Nat.le_of_ble_eq_true rfl) dX0_takeLetters_20 (fun r_3 M_2 => ?_)
    refine j_if_eq (tgt := 39) X dX0_takeLetters_23 (by decide) ?_ ?_
    · exact j_vret X hr dX0_takeLetters_39
    · refine j_aload_n (i := 0) X dX0_takeLetters_26 rfl rfl ?_
      refine j_dup X dX0_takeLetters_27 rfl ?_
      refine j_get_rd 3 X (by decide) wq_3 rfl dX0_takeLetters_28 ?_
      refine j_iconst (v := 1) X dX0_takeLetters_31 rfl ?_
      refine j_iadd X dX0_takeLetters_32 ?_
      refine j_put_rd (ty := .int) 3 X (by decide) wq_3 (fun _ => rfl) rfl (by decide +kernel) rfl rfl dX0_takeLetters_33 ?_
      refine j_bM (fun M_4 => ?_)
      refine j_goto (tgt := 0) X dX0_takeLetters_36 (by decide) ?_
      exact j_lp (Lf := fun x => [(0, .ref (gA g 37))]) (Mf := fun x => x) (fun rc0 hc0 x => pj_X0_takeLetters_0 X hr rc0 hc0 x) FU M_4
def mi_X0_takeLetters (M : Mem) : Option (Mem) := pi_X0_takeLetters_e  M
theorem ct_X0_takeLetters (l : Launch) (g : Gh) (M : Mem) : CtV l g yX0_takeLetters cX0_takeLetters 1 none 1 [.ref (gA g 37)] M (mi_X0_takeLetters  M) := ctV_of (own := RX0) (L := [(0, .ref (gA g 37))]) (by decide +kernel) rfl (Nat.le_of_ble_eq_true rfl) rfl (fun p e s m args below meth c X hr => pj_X0_takeLetters_e X hr   M)

def pi_X0_advance_46 (M : Mem) : Option (Mem) := bM (up M 37 3 (M 37 2)) fun M_2 => if (M_2 37 2) < (M_2 37 1) then (gd (inb (M_2 37 2) 120) <| bd (mi_X0_isLetter (M_2 38 (M_2 37 2).toNatClampNeg) M_2) fun r_5 M_4 => if r_5 = 0 then (gd (inb (M_4 37 2) 120) <| bd (mi_X0_isDigit (M_4 38 (M_4 37 2).toNatClampNeg) M_4) fun r_8 M_7 => if r_8 = 0 then (gd (inb (M_7 37 2) 120) <| bd (mi_X0_signOf (M_7 38 (M_7 37 2).toNatClampNeg) M_7) fun r_11 M_10 => bM (up M_10 37 4 r_11) fun M_12 => bM (up M_12 37 3 ((M_12 37 2) + 1)) fun M_13 => some M_13) else (bM (up M_7 37 4 2) fun M_14 => bv (mi_X0_takeDigits M_14) fun M_15 => some M_15)) else (bM (up M_4 37 4 1) fun M_16 => bv (mi_X0_takeLetters M_16) fun M_17 => some M_17)) else (bM (up M_2 37 4 0) fun M_18 => some M_18)
set_option maxRecDepth 100000 in
set_option maxHeartbeats 4000000 in
theorem pj_X0_advance_46 {p : Program} {l : Launch} {e : Env} {R : Room} {s : State} {m : MethodId} {args : Array Value} {below : List Frame} {meth : Method} {c : Code} {g : Gh} (X : Cx p l e R s m args below meth c g cX0_advance 1 (0, 0) RX0 2) (hr : meth.sig.returnType = none) (M : Mem) : J p l e R s m args below meth c g 1 (0, 0) (QfV below args s g) (pi_X0_advance_46 M) M 46 [(0, .ref (gA g 37))] [] := by
  unfold pi_X0_advance_46
  refine j_aload_n (i := 0) X dX0_advance_46 rfl rfl ?_
  refine j_aload_n (i := 0) X dX0_advance_47 rfl rfl ?_
  refine j_get_rd 2 X (by decide) wq_11 rfl dX0_advance_48 ?_
  refine j_put_rd (ty := .int) 3 X (by decide) wq_3 (fun _ => rfl) rfl (by decide +kernel) rfl rfl dX0_advance_51 ?_
  refine j_bM (fun M_2 => ?_)
  refine j_aload_n (i := 0) X dX0_advance_54 rfl rfl ?_
  refine j_get_rd 2 X (by decide) wq_11 rfl dX0_advance_55 ?_
  refine j_aload_n (i := 0) X dX0_advance_58 rfl rfl ?_
  refine j_get_rd 1 X (by decide) wq_1 rfl dX0_advance_59 ?_
  refine j_icmp_lt (tgt := 73) X dX0_advance_62 (by decide) ?_ ?_
  · refine j_aload_n (i := 0) X dX0_advance_73 rfl rfl ?_
    refine j_get_rd 0 X (by decide) wq_0 rfl dX0_advance_74 ?_
    refine j_aload_n (i := 0) X dX0_advance_77 rfl rfl ?_
    refine j_get_rd 2 X (by decide) wq_11 rfl dX0_advance_78 ?_
    refine j_iald X ia_38 dX0_advance_81 (fun h_3 => ?_)
    refine k_cSI (As := [.int (M_2 38 (M_2 37 2).toNatClampNeg)]) (rest := []) X (ct_X0_isLetter l g (M_2 38 (M_2 37 2).toNatClampNeg) M_2) wl_X0_111 rfl rfl (by decide) (Nat.le_of_ble_eq_true rfl) dX0_advance_82 (fun r_5 M_4 => ?_)
    refine j_if_eq (tgt := 100) X dX0_advance_85 (by decide) ?_ ?_
    · refine j_aload_n (i := 0) X dX0_advance_100 rfl rfl ?_
      refine j_get_rd 0 X (by decide) wq_0 rfl dX0_advance_101 ?_
      refine j_aload_n (i := 0) X dX0_advance_104 rfl rfl ?_
      refine j_get_rd 2 X (by decide) wq_11 rfl dX0_advance_105 ?_
      refine j_iald X ia_38 dX0_advance_108 (fun h_6 => ?_)
      refine k_cSI (As := [.int (M_4 38 (M_4 37 2).toNatClampNeg)]) (rest := []) X (ct_X0_isDigit l g (M_4 38 (M_4 37 2).toNatClampNeg) M_4) wl_X0_117 rfl rfl (by decide) (Nat.le_of_ble_eq_true rfl) dX0_advance_109 (fun r_8 M_7 => ?_)
      refine j_if_eq (tgt := 127) X dX0_advance_112 (by decide) ?_ ?_
      · refine j_aload_n (i := 0) X dX0_advance_127 rfl rfl ?_
        refine j_aload_n (i := 0) X dX0_advance_128 rfl rfl ?_
        refine j_get_rd 0 X (by decide) wq_0 rfl dX0_advance_129 ?_
        refine j_aload_n (i := 0) X dX0_advance_132 rfl rfl ?_
        refine j_get_rd 2 X (by decide) wq_11 rfl dX0_advance_133 ?_
        refine j_iald X ia_38 dX0_advance_136 (fun h_9 => ?_)
        refine k_cSI (As := [.int (M_7 38 (M_7 37 2).toNatClampNeg)]) (rest := [.ref (gA g 37)]) X (ct_X0_signOf l g (M_7 38 (M_7 37 2).toNatClampNeg) M_7) wl_X0_123 rfl rfl (by decide) (Nat.le_of_ble_eq_true rfl) dX0_advance_137 (fun r_11 M_10 => ?_)
        refine j_put_rd (ty := .int) 4 X (by decide) wq_15 (fun _ => rfl) rfl (by decide +kernel) rfl rfl dX0_advance_140 ?_
        refine j_bM (fun M_12 => ?_)
        refine j_aload_n (i := 0) X dX0_advance_143 rfl rfl ?_
        refine j_aload_n (i := 0) X dX0_advance_144 rfl rfl ?_
        refine j_get_rd 2 X (by decide) wq_11 rfl dX0_advance_145 ?_
        refine j_iconst (v := 1) X dX0_advance_148 rfl ?_
        refine j_iadd X dX0_advance_149 ?_
        refine j_put_rd (ty := .int) 3 X (by decide) wq_3 (fun _ => rfl) rfl (by decide +kernel) rfl rfl dX0_advance_150 ?_
        refine j_bM (fun M_13 => ?_)
        exact j_vret X hr dX0_advance_153
      · refine j_aload_n (i := 0) X dX0_advance_115 rfl rfl ?_
        refine j_iconst (v := 2) X dX0_advance_116 rfl ?_
        refine j_put_rd (ty := .int) 4 X (by decide) wq_15 (fun _ => rfl) rfl (by decide +kernel) rfl rfl dX0_advance_117 ?_
        refine j_bM (fun M_14 => ?_)
        refine j_aload_n (i := 0) X dX0_advance_120 rfl rfl ?_
        refine k_cVV (As := []) (rest := []) (by decide) (cf_rd _) rfl X (ct_X0_takeDigits l g M_14) wl_X0_120 rfl rfl (by decide) (Nat.le_of_ble_eq_true rfl) dX0_advance_121 (fun M_15 => ?_)
        refine j_goto (tgt := 153) X dX0_advance_124 (by decide) ?_
        exact j_vret X hr dX0_advance_153
    · refine j_aload_n (i := 0) X dX0_advance_88 rfl rfl ?_
      refine j_iconst (v := 1) X dX0_advance_89 rfl ?_
      refine j_put_rd (ty := .int) 4 X (by decide) wq_15 (fun _ => rfl) rfl (by decide +kernel) rfl rfl dX0_advance_90 ?_
      refine j_bM (fun M_16 => ?_)
      refine j_aload_n (i := 0) X dX0_advance_93 rfl rfl ?_
      refine k_cVV (As := []) (rest := []) (by decide) (cf_rd _) rfl X (ct_X0_takeLetters l g M_16) wl_X0_114 rfl rfl (by decide) (Nat.le_of_ble_eq_true rfl) dX0_advance_94 (fun M_17 => ?_)
      refine j_goto (tgt := 153) X dX0_advance_97 (by decide) ?_
      exact j_vret X hr dX0_advance_153
  · refine j_aload_n (i := 0) X dX0_advance_65 rfl rfl ?_
    refine j_iconst (v := 0) X dX0_advance_66 rfl ?_
    refine j_put_rd (ty := .int) 4 X (by decide) wq_15 (fun _ => rfl) rfl (by decide +kernel) rfl rfl dX0_advance_67 ?_
    refine j_bM (fun M_18 => ?_)
    refine j_goto (tgt := 153) X dX0_advance_70 (by decide) ?_
    exact j_vret X hr dX0_advance_153
def pi_X0_advance_8 (rc8 : Mem → Option (Mem)) (M : Mem) : Option (Mem) := if (M 37 1) ≤ (M 37 2) then (pi_X0_advance_46 M) else (gd (inb (M 37 2) 120) <| if (M 38 (M 37 2).toNatClampNeg) = 32 then (bM (up M 37 2 ((M 37 2) + 1)) fun M_20 => rc8 M_20) else (pi_X0_advance_46 M))
set_option maxRecDepth 100000 in
set_option maxHeartbeats 4000000 in
theorem pj_X0_advance_8 {p : Program} {l : Launch} {e : Env} {R : Room} {s : State} {m : MethodId} {args : Array Value} {below : List Frame} {meth : Method} {c : Code} {g : Gh} (X : Cx p l e R s m args below meth c g cX0_advance 1 (0, 0) RX0 2) (hr : meth.sig.returnType = none) (rc8 : Mem → Option (Mem)) (hc8 : ∀ x, J p l e R s m args below meth c g 1 (0, 0) (QfV below args s g) (rc8 x) x 8 [(0, .ref (gA g 37))] []) (M : Mem) : J p l e R s m args below meth c g 1 (0, 0) (QfV below args s g) (pi_X0_advance_8 rc8 M) M 8 [(0, .ref (gA g 37))] [] := by
  unfold pi_X0_advance_8
  refine j_aload_n (i := 0) X dX0_advance_8 rfl rfl ?_
  refine j_get_rd 2 X (by decide) wq_11 rfl dX0_advance_9 ?_
  refine j_aload_n (i := 0) X dX0_advance_12 rfl rfl ?_
  refine j_get_rd 1 X (by decide) wq_1 rfl dX0_advance_13 ?_
  refine j_icmp_ge (tgt := 46) X dX0_advance_16 (by decide) ?_ ?_
  · exact pj_X0_advance_46 X hr M
  · refine j_aload_n (i := 0) X dX0_advance_19 rfl rfl ?_
    refine j_get_rd 0 X (by decide) wq_0 rfl dX0_advance_20 ?_
    refine j_aload_n (i := 0) X dX0_advance_23 rfl rfl ?_
    refine j_get_rd 2 X (by decide) wq_11 rfl dX0_advance_24 ?_
    refine j_iald X ia_38 dX0_advance_27 (fun h_19 => ?_)
    refine j_bipush (v := 32) X dX0_advance_28 rfl ?_
    refine j_icmp_ne (tgt := 46) X dX0_advance_30 (by decide) ?_ ?_
    · refine j_aload_n (i := 0) X dX0_advance_33 rfl rfl ?_
      refine j_dup X dX0_advance_34 rfl ?_
      refine j_get_rd 2 X (by decide) wq_11 rfl dX0_advance_35 ?_
      refine j_iconst (v := 1) X dX0_advance_38 rfl ?_
      refine j_iadd X dX0_advance_39 ?_
      refine j_put_rd (ty := .int) 2 X (by decide) wq_11 (fun _ => rfl) rfl (by decide +kernel) rfl rfl dX0_advance_40 ?_
      refine j_bM (fun M_20 => ?_)
      refine j_goto (tgt := 8) X dX0_advance_43 (by decide) ?_
      exact hc8 M_20
    · exact pj_X0_advance_46 X hr M
def pi_X0_advance_e (M : Mem) : Option (Mem) := bM (up M 37 2 (M 37 3)) fun M_1 => lp (fun rc8 x => pi_X0_advance_8 rc8 x) FU M_1
set_option maxRecDepth 100000 in
set_option maxHeartbeats 4000000 in
theorem pj_X0_advance_e {p : Program} {l : Launch} {e : Env} {R : Room} {s : State} {m : MethodId} {args : Array Value} {below : List Frame} {meth : Method} {c : Code} {g : Gh} (X : Cx p l e R s m args below meth c g cX0_advance 1 (0, 0) RX0 2) (hr : meth.sig.returnType = none) (M : Mem) : J p l e R s m args below meth c g 1 (0, 0) (QfV below args s g) (pi_X0_advance_e M) M 0 [(0, .ref (gA g 37))] [] := by
  unfold pi_X0_advance_e
  refine j_aload_n (i := 0) X dX0_advance_0 rfl rfl ?_
  refine j_aload_n (i := 0) X dX0_advance_1 rfl rfl ?_
  refine j_get_rd 3 X (by decide) wq_3 rfl dX0_advance_2 ?_
  refine j_put_rd (ty := .int) 2 X (by decide) wq_11 (fun _ => rfl) rfl (by decide +kernel) rfl rfl dX0_advance_5 ?_
  refine j_bM (fun M_1 => ?_)
  exact j_lp (Lf := fun x => [(0, .ref (gA g 37))]) (Mf := fun x => x) (fun rc8 hc8 x => pj_X0_advance_8 X hr rc8 hc8 x) FU M_1
def mi_X0_advance (M : Mem) : Option (Mem) := pi_X0_advance_e  M
theorem ct_X0_advance (l : Launch) (g : Gh) (M : Mem) : CtV l g yX0_advance cX0_advance 1 none 2 [.ref (gA g 37)] M (mi_X0_advance  M) := ctV_of (own := RX0) (L := [(0, .ref (gA g 37))]) (by decide +kernel) rfl (Nat.le_of_ble_eq_true rfl) rfl (fun p e s m args below meth c X hr => pj_X0_advance_e X hr   M)

def pi_X0_isNumberTo_e (v1 : Int32) (M : Mem) : Option (Int32 × Mem) := if (M 37 4) = 2 then (if v1 < (M 37 5) then (gd (isB 0) (some (0, M))) else (gd (isB 1) (some (1, M)))) else (gd (isB 0) (some (0, M)))
set_option maxRecDepth 100000 in
set_option maxHeartbeats 4000000 in
theorem pj_X0_isNumberTo_e {p : Program} {l : Launch} {e : Env} {R : Room} {s : State} {m : MethodId} {args : Array Value} {below : List Frame} {meth : Method} {c : Code} {g : Gh} (X : Cx p l e R s m args below meth c g cX0_isNumberTo 2 (0, 0) RX0 0) (hr : meth.sig.returnType = (some (.boolean))) (v1 : Int32) (M : Mem) : J p l e R s m args below meth c g 2 (0, 0) (QfI below args s g) (pi_X0_isNumberTo_e v1 M) M 0 [(0, .ref (gA g 37)), (1, .int v1)] [] := by
  unfold pi_X0_isNumberTo_e
  refine j_aload_n (i := 0) X dX0_isNumberTo_0 rfl rfl ?_
  refine j_get_rd 4 X (by decide) wq_15 rfl dX0_isNumberTo_1 ?_
  refine j_iconst (v := 2) X dX0_isNumberTo_4 rfl ?_
  refine j_icmp_ne (tgt := 20) X dX0_isNumberTo_5 (by decide) ?_ ?_
  · refine j_aload_n (i := 0) X dX0_isNumberTo_8 rfl rfl ?_
    refine j_get_rd 5 X (by decide) wq_2 rfl dX0_isNumberTo_9 ?_
    refine j_iload_n (i := 1) X dX0_isNumberTo_12 rfl rfl ?_
    refine j_icmp_gt (tgt := 20) X dX0_isNumberTo_13 (by decide) ?_ ?_
    · refine j_iconst (v := 0) X dX0_isNumberTo_20 rfl ?_
      exact j_zret X hr dX0_isNumberTo_21
    · refine j_iconst (v := 1) X dX0_isNumberTo_16 rfl ?_
      refine j_goto (tgt := 21) X dX0_isNumberTo_17 (by decide) ?_
      exact j_zret X hr dX0_isNumberTo_21
  · refine j_iconst (v := 0) X dX0_isNumberTo_20 rfl ?_
    exact j_zret X hr dX0_isNumberTo_21
def mi_X0_isNumberTo (v1 : Int32) (M : Mem) : Option (Int32 × Mem) := pi_X0_isNumberTo_e v1 M
theorem ct_X0_isNumberTo (l : Launch) (g : Gh) (v1 : Int32) (M : Mem) : CtI l g yX0_isNumberTo cX0_isNumberTo 2 (some (.boolean)) 0 [.ref (gA g 37), .int v1] M (mi_X0_isNumberTo v1 M) := ctI_of (own := RX0) (L := [(0, .ref (gA g 37)), (1, .int v1)]) (by decide +kernel) rfl (Nat.le_of_ble_eq_true rfl) rfl (fun p e s m args below meth c X hr => pj_X0_isNumberTo_e X hr v1  M)

def pi_X0_isWord_28 (w1 : Nat) (rc28 : Int32 × Mem → Option (Int32 × Mem)) (v2 : Int32) (M : Mem) : Option (Int32 × Mem) := bd (mi_J0_length_8abf5 w1 M) fun r_4 M_3 => if r_4 ≤ v2 then (gd (isB 1) (some (1, M_3))) else (gd (inb ((M_3 37 2) + v2) 120) <| bd (mi_J0_charAt_5068e w1 v2 M_3) fun r_7 M_6 => if (M_3 38 ((M_3 37 2) + v2).toNatClampNeg) = r_7 then (bI (v2 + 1) fun v2_8 => rc28 (v2_8, M_6)) else (gd (isB 0) (some (0, M_6))))
set_option maxRecDepth 100000 in
set_option maxHeartbeats 4000000 in
theorem pj_X0_isWord_28 {p : Program} {l : Launch} {e : Env} {R : Room} {s : State} {m : MethodId} {args : Array Value} {below : List Frame} {meth : Method} {c : Code} {g : Gh} (X : Cx p l e R s m args below meth c g cX0_isWord 3 (0, 0) RX0 4) (hr : meth.sig.returnType = (some (.boolean))) (w1 : Nat) (hw1 : w1 < 12) (rc28 : Int32 × Mem → Option (Int32 × Mem)) (hc28 : ∀ x, J p l e R s m args below meth c g 3 (0, 0) (QfI below args s g) (rc28 x) x.2 28 [(0, .ref (gA g 37)), (1, .ref (gS g w1)), (2, .int x.1)] []) (v2 : Int32) (M : Mem) : J p l e R s m args below meth c g 3 (0, 0) (QfI below args s g) (pi_X0_isWord_28 w1 rc28 v2 M) M 28 [(0, .ref (gA g 37)), (1, .ref (gS g w1)), (2, .int v2)] [] := by
  unfold pi_X0_isWord_28
  refine j_iload_n (i := 2) X dX0_isWord_28 rfl rfl ?_
  refine j_aload_n (i := 1) X dX0_isWord_29 rfl rfl ?_
  refine k_cTI (As := []) (rest := [.int v2]) hw1 X (ct_J0_length_8abf5 l g w1 hw1 M) wl_X0_103 rfl rfl (by decide) (Nat.le_of_ble_eq_true rfl) dX0_isWord_30 (fun r_4 M_3 => ?_)
  refine j_icmp_ge (tgt := 63) X dX0_isWord_33 (by decide) ?_ ?_
  · refine j_iconst (v := 1) X dX0_isWord_63 rfl ?_
    exact j_zret X hr dX0_isWord_64
  · refine j_aload_n (i := 0) X dX0_isWord_36 rfl rfl ?_
    refine j_get_rd 0 X (by decide) wq_0 rfl dX0_isWord_37 ?_
    refine j_aload_n (i := 0) X dX0_isWord_40 rfl rfl ?_
    refine j_get_rd 2 X (by decide) wq_11 rfl dX0_isWord_41 ?_
    refine j_iload_n (i := 2) X dX0_isWord_44 rfl rfl ?_
    refine j_iadd X dX0_isWord_45 ?_
    refine j_iald X ia_38 dX0_isWord_46 (fun h_5 => ?_)
    refine j_aload_n (i := 1) X dX0_isWord_47 rfl rfl ?_
    refine j_iload_n (i := 2) X dX0_isWord_48 rfl rfl ?_
    refine k_cTI (As := [.int v2]) (rest := [.int (M_3 38 ((M_3 37 2) + v2).toNatClampNeg)]) hw1 X (ct_J0_charAt_5068e l g w1 v2 hw1 M_3) wl_X0_107 rfl rfl (by decide) (Nat.le_of_ble_eq_true rfl) dX0_isWord_49 (fun r_7 M_6 => ?_)
    refine j_icmp_eq (tgt := 57) X dX0_isWord_52 (by decide) ?_ ?_
    · refine j_iincB (i := 2) (y := v2 + 1) (Lf := fun v2_8 => [(0, .ref (gA g 37)), (1, .ref (gS g w1)), (2, .int v2_8)]) X dX0_isWord_57 rfl rfl (by decide) (fun _ => rfl) (fun v2_8 => ?_)
      refine j_goto (tgt := 28) X dX0_isWord_60 (by decide) ?_
      exact hc28 (v2_8, M_6)
    · refine j_iconst (v := 0) X dX0_isWord_55 rfl ?_
      exact j_zret X hr dX0_isWord_56
def pi_X0_isWord_e (w1 : Nat) (M : Mem) : Option (Int32 × Mem) := if (M 37 4) = 1 then (bd (mi_J0_length_8abf5 w1 M) fun r_2 M_1 => if ((M 37 3) - (M 37 2)) = r_2 then (lp (fun rc28 x => pi_X0_isWord_28 w1 rc28 x.1 x.2) FU (0, M_1)) else (gd (isB 0) (some (0, M_1)))) else (gd (isB 0) (some (0, M)))
set_option maxRecDepth 100000 in
set_option maxHeartbeats 4000000 in
theorem pj_X0_isWord_e {p : Program} {l : Launch} {e : Env} {R : Room} {s : State} {m : MethodId} {args : Array Value} {below : List Frame} {meth : Method} {c : Code} {g : Gh} (X : Cx p l e R s m args below meth c g cX0_isWord 3 (0, 0) RX0 4) (hr : meth.sig.returnType = (some (.boolean))) (w1 : Nat) (hw1 : w1 < 12) (M : Mem) : J p l e R s m args below meth c g 3 (0, 0) (QfI below args s g) (pi_X0_isWord_e w1 M) M 0 [(0, .ref (gA g 37)), (1, .ref (gS g w1))] [] := by
  unfold pi_X0_isWord_e
  refine j_aload_n (i := 0) X dX0_isWord_0 rfl rfl ?_
  refine j_get_rd 4 X (by decide) wq_15 rfl dX0_isWord_1 ?_
  refine j_iconst (v := 1) X dX0_isWord_4 rfl ?_
  refine j_icmp_ne (tgt := 24) X dX0_isWord_5 (by decide) ?_ ?_
  · refine j_aload_n (i := 0) X dX0_isWord_8 rfl rfl ?_
    refine j_get_rd 3 X (by decide) wq_3 rfl dX0_isWord_9 ?_
    refine j_aload_n (i := 0) X dX0_isWord_12 rfl rfl ?_
    refine j_get_rd 2 X (by decide) wq_11 rfl dX0_isWord_13 ?_
    refine j_isub X dX0_isWord_16 ?_
    refine j_aload_n (i := 1) X dX0_isWord_17 rfl rfl ?_
    refine k_cTI (As := []) (rest := [.int ((M 37 3) - (M 37 2))]) hw1 X (ct_J0_length_8abf5 l g w1 hw1 M) wl_X0_103 rfl rfl (by decide) (Nat.le_of_ble_eq_true rfl) dX0_isWord_18 (fun r_2 M_1 => ?_)
    refine j_icmp_eq (tgt := 26) X dX0_isWord_21 (by decide) ?_ ?_
    · refine j_iconst (v := 0) X dX0_isWord_26 rfl ?_
      refine j_istore_n (i := 2) (Lq := [(0, .ref (gA g 37)), (1, .ref (gS g w1)), (2, .int 0)]) X dX0_isWord_27 rfl (by decide) rfl ?_
      exact j_lp (Lf := fun x => [(0, .ref (gA g 37)), (1, .ref (gS g w1)), (2, .int x.1)]) (Mf := fun x => x.2) (fun rc28 hc28 x => pj_X0_isWord_28 X hr w1 hw1 rc28 hc28 x.1 x.2) FU (0, M_1)
    · refine j_iconst (v := 0) X dX0_isWord_24 rfl ?_
      exact j_zret X hr dX0_isWord_25
  · refine j_iconst (v := 0) X dX0_isWord_24 rfl ?_
    exact j_zret X hr dX0_isWord_25
def mi_X0_isWord (w1 : Nat) (M : Mem) : Option (Int32 × Mem) := pi_X0_isWord_e w1 M
theorem ct_X0_isWord (l : Launch) (g : Gh) (w1 : Nat) (hw1 : w1 < 12) (M : Mem) : CtI l g yX0_isWord cX0_isWord 3 (some (.boolean)) 4 [.ref (gA g 37), .ref (gS g w1)] M (mi_X0_isWord w1 M) := ctI_of (own := RX0) (L := [(0, .ref (gA g 37)), (1, .ref (gS g w1))]) (by decide +kernel) rfl (Nat.le_of_ble_eq_true rfl) rfl (fun p e s m args below meth c X hr => pj_X0_isWord_e X hr w1 hw1 M)

def pi_X0_wordOf_e (v0 : Int32) (M : Mem) : Option (Nat × Mem) := swc v0 [(0, some (0, M)), (1, some (1, M)), (2, some (2, M)), (3, some (3, M)), (4, some (4, M)), (5, some (5, M))] (some (6, M))
set_option maxRecDepth 100000 in
set_option maxHeartbeats 4000000 in
theorem pj_X0_wordOf_e {p : Program} {l : Launch} {e : Env} {R : Room} {s : State} {m : MethodId} {args : Array Value} {below : List Frame} {meth : Method} {c : Code} {g : Gh} (X : Cx p l e R s m args below meth c g cX0_wordOf 1 (0, 0) RX0 0) (hr : meth.sig.returnType = (some (.object "java/lang/String"))) (v0 : Int32) (M : Mem) : J p l e R s m args below meth c g 1 (0, 0) (QfR below args s g) (pi_X0_wordOf_e v0 M) M 0 [(0, .int v0)] [] := by
  unfold pi_X0_wordOf_e
  refine j_iload_n (i := 0) X dX0_wordOf_0 rfl rfl ?_
  refine j_tsw [0, 1, 2, 3, 4, 5] [40, 43, 46, 49, 52, 55] (dt := 58) X dX0_wordOf_1 rfl (by decide +kernel) (by decide +kernel) (by decide) ⟨?_, ?_, ?_, ?_, ?_, ?_, trivial⟩ ?_
  · refine j_ldcS (i := 0) (tx := "hill") X (by decide +kernel) dX0_wordOf_40 ?_
    exact j_aret X hr dX0_wordOf_42
  · refine j_ldcS (i := 1) (tx := "ridge") X (by decide +kernel) dX0_wordOf_43 ?_
    exact j_aret X hr dX0_wordOf_45
  · refine j_ldcS (i := 2) (tx := "partner") X (by decide +kernel) dX0_wordOf_46 ?_
    exact j_aret X hr dX0_wordOf_48
  · refine j_ldcS (i := 3) (tx := "twin") X (by decide +kernel) dX0_wordOf_49 ?_
    exact j_aret X hr dX0_wordOf_51
  · refine j_ldcS (i := 4) (tx := "feud") X (by decide +kernel) dX0_wordOf_52 ?_
    exact j_aret X hr dX0_wordOf_54
  · refine j_ldcS (i := 5) (tx := "stone") X (by decide +kernel) dX0_wordOf_55 ?_
    exact j_aret X hr dX0_wordOf_57
  · refine j_ldcS (i := 6) (tx := "scarp") X (by decide +kernel) dX0_wordOf_58 ?_
    exact j_aret X hr dX0_wordOf_60
def mi_X0_wordOf (v0 : Int32) (M : Mem) : Option (Nat × Mem) := pi_X0_wordOf_e v0 M
theorem ct_X0_wordOf (l : Launch) (g : Gh) (v0 : Int32) (M : Mem) : CtR l g yX0_wordOf cX0_wordOf 1 (some (.object "java/lang/String")) 0 [.int v0] M (mi_X0_wordOf v0 M) := ctR_of (own := RX0) (L := [(0, .int v0)]) (by decide +kernel) rfl (Nat.le_of_ble_eq_true rfl) rfl (fun p e s m args below meth c X hr => pj_X0_wordOf_e X hr v0  M)

def pi_X0_kindTold_2 (rc2 : Int32 × Mem → Option (Int32 × Mem)) (v1 : Int32) (M : Mem) : Option (Int32 × Mem) := if 7 ≤ v1 then (some ((-1), M)) else (bd (mi_X0_wordOf v1 M) fun r_2 M_1 => gd (decide (r_2 < 12)) <| bd (mi_X0_isWord r_2 M_1) fun r_5 M_4 => if r_5 = 0 then (bI (v1 + 1) fun v1_6 => rc2 (v1_6, M_4)) else (some (v1, M_4)))
set_option maxRecDepth 100000 in
set_option maxHeartbeats 4000000 in
theorem pj_X0_kindTold_2 {p : Program} {l : Launch} {e : Env} {R : Room} {s : State} {m : MethodId} {args : Array Value} {below : List Frame} {meth : Method} {c : Code} {g : Gh} (X : Cx p l e R s m args below meth c g cX0_kindTold 2 (0, 0) RX0 5) (hr : meth.sig.returnType = (some (.int))) (rc2 : Int32 × Mem → Option (Int32 × Mem)) (hc2 : ∀ x, J p l e R s m args below meth c g 2 (0, 0) (QfI below args s g) (rc2 x) x.2 2 [(0, .ref (gA g 37)), (1, .int x.1)] []) (v1 : Int32) (M : Mem) : J p l e R s m args below meth c g 2 (0, 0) (QfI below args s g) (pi_X0_kindTold_2 rc2 v1 M) M 2 [(0, .ref (gA g 37)), (1, .int v1)] [] := by
  unfold pi_X0_kindTold_2
  refine j_iload_n (i := 1) X dX0_kindTold_2 rfl rfl ?_
  refine j_bipush (v := 7) X dX0_kindTold_3 rfl ?_
  refine j_icmp_ge (tgt := 27) X dX0_kindTold_5 (by decide) ?_ ?_
  · refine j_iconst (v := (-1)) X dX0_kindTold_27 rfl ?_
    exact j_iret X hr dX0_kindTold_28
  · refine j_aload_n (i := 0) X dX0_kindTold_8 rfl rfl ?_
    refine j_iload_n (i := 1) X dX0_kindTold_9 rfl rfl ?_
    refine k_cSR (As := [.int v1]) (rest := [.ref (gA g 37)]) X (ct_X0_wordOf l g v1 M) wl_X0_85 rfl rfl (by decide) (Nat.le_of_ble_eq_true rfl) dX0_kindTold_10 (fun r_2 M_1 => ?_)
    refine j_gd (fun h_3 => ?_)
    refine k_cVI (As := [.ref (gS g r_2)]) (rest := []) (by decide) (cf_rd _) rfl X (ct_X0_isWord l g r_2 (of_decide_eq_true h_3) M_1) wl_X0_37 rfl rfl (by decide) (Nat.le_of_ble_eq_true rfl) dX0_kindTold_13 (fun r_5 M_4 => ?_)
    refine j_if_eq (tgt := 21) X dX0_kindTold_16 (by decide) ?_ ?_
    · refine j_iincB (i := 1) (y := v1 + 1) (Lf := fun v1_6 => [(0, .ref (gA g 37)), (1, .int v1_6)]) X dX0_kindTold_21 rfl rfl (by decide) (fun _ => rfl) (fun v1_6 => ?_)
      refine j_goto (tgt := 2) X dX0_kindTold_24 (by decide) ?_
      exact hc2 (v1_6, M_4)
    · refine j_iload_n (i := 1) X dX0_kindTold_19 rfl rfl ?_
      exact j_iret X hr dX0_kindTold_20
def pi_X0_kindTold_e (M : Mem) : Option (Int32 × Mem) := lp (fun rc2 x => pi_X0_kindTold_2 rc2 x.1 x.2) FU (0, M)
set_option maxRecDepth 100000 in
set_option maxHeartbeats 4000000 in
theorem pj_X0_kindTold_e {p : Program} {l : Launch} {e : Env} {R : Room} {s : State} {m : MethodId} {args : Array Value} {below : List Frame} {meth : Method} {c : Code} {g : Gh} (X : Cx p l e R s m args below meth c g cX0_kindTold 2 (0, 0) RX0 5) (hr : meth.sig.returnType = (some (.int))) (M : Mem) : J p l e R s m args below meth c g 2 (0, 0) (QfI below args s g) (pi_X0_kindTold_e M) M 0 [(0, .ref (gA g 37))] [] := by
  unfold pi_X0_kindTold_e
  refine j_iconst (v := 0) X dX0_kindTold_0 rfl ?_
  refine j_istore_n (i := 1) (Lq := [(0, .ref (gA g 37)), (1, .int 0)]) X dX0_kindTold_1 rfl (by decide) rfl ?_
  exact j_lp (Lf := fun x => [(0, .ref (gA g 37)), (1, .int x.1)]) (Mf := fun x => x.2) (fun rc2 hc2 x => pj_X0_kindTold_2 X hr rc2 hc2 x.1 x.2) FU (0, M)
def mi_X0_kindTold (M : Mem) : Option (Int32 × Mem) := pi_X0_kindTold_e  M
theorem ct_X0_kindTold (l : Launch) (g : Gh) (M : Mem) : CtI l g yX0_kindTold cX0_kindTold 2 (some (.int)) 5 [.ref (gA g 37)] M (mi_X0_kindTold  M) := ctI_of (own := RX0) (L := [(0, .ref (gA g 37))]) (by decide +kernel) rfl (Nat.le_of_ble_eq_true rfl) rfl (fun p e s m args below meth c X hr => pj_X0_kindTold_e X hr   M)

def pi_J7_fill_53178_5 (k0 : Nat) (n0 : Nat) (v1 : Int32) (v3 : Int32) (rc5 : Int32 × Mem → Option (Mem)) (v2 : Int32) (M : Mem) : Option (Mem) := if v3 ≤ v2 then (some M) else (gd (inb v2 n0) <| bM (up M k0 v2.toNatClampNeg v1) fun M_3 => bI (v2 + 1) fun v2_4 => rc5 (v2_4, M_3))
set_option maxRecDepth 100000 in
set_option maxHeartbeats 4000000 in
theorem pj_J7_fill_53178_5 {p : Program} {l : Launch} {e : Env} {R : Room} {s : State} {m : MethodId} {args : Array Value} {below : List Frame} {meth : Method} {c : Code} {g : Gh} (X : Cx p l e R s m args below meth c g cJ7_fill_53178 4 (0, 0) RJ7 0) (hr : meth.sig.returnType = none) (k0 : Nat) (n0 : Nat) (v1 : Int32) (ha0 : ia k0 n0) (v3 : Int32) (rc5 : Int32 × Mem → Option (Mem)) (hc5 : ∀ x, J p l e R s m args below meth c g 4 (0, 0) (QfV below args s g) (rc5 x) x.2 5 [(0, .ref (gA g k0)), (1, .int v1), (2, .int x.1), (3, .int v3)] []) (v2 : Int32) (M : Mem) : J p l e R s m args below meth c g 4 (0, 0) (QfV below args s g) (pi_J7_fill_53178_5 k0 n0 v1 v3 rc5 v2 M) M 5 [(0, .ref (gA g k0)), (1, .int v1), (2, .int v2), (3, .int v3)] [] := by
  unfold pi_J7_fill_53178_5
  refine j_iload_n (i := 2) X dJ7_fill_53178_5 rfl rfl ?_
  refine j_iload_n (i := 3) X dJ7_fill_53178_6 rfl rfl ?_
  refine j_icmp_ge (tgt := 20) X dJ7_fill_53178_7 (by decide) ?_ ?_
  · exact j_vret X hr dJ7_fill_53178_20
  · refine j_aload_n (i := 0) X dJ7_fill_53178_10 rfl rfl ?_
    refine j_iload_n (i := 2) X dJ7_fill_53178_11 rfl rfl ?_
    refine j_iload_n (i := 1) X dJ7_fill_53178_12 rfl rfl ?_
    refine j_iast X ha0 dJ7_fill_53178_13 (fun h_2 => ?_)
    refine j_bM (fun M_3 => ?_)
    refine j_iincB (i := 2) (y := v2 + 1) (Lf := fun v2_4 => [(0, .ref (gA g k0)), (1, .int v1), (2, .int v2_4), (3, .int v3)]) X dJ7_fill_53178_14 rfl rfl (by decide) (fun _ => rfl) (fun v2_4 => ?_)
    refine j_goto (tgt := 5) X dJ7_fill_53178_17 (by decide) ?_
    exact hc5 (v2_4, M_3)
def pi_J7_fill_53178_e (k0 : Nat) (n0 : Nat) (v1 : Int32) (M : Mem) : Option (Mem) := bI (Int32.ofNat n0) fun v3_1 => lp (fun rc5 x => pi_J7_fill_53178_5 k0 n0 v1 v3_1 rc5 x.1 x.2) FU (0, M)
set_option maxRecDepth 100000 in
set_option maxHeartbeats 4000000 in
theorem pj_J7_fill_53178_e {p : Program} {l : Launch} {e : Env} {R : Room} {s : State} {m : MethodId} {args : Array Value} {below : List Frame} {meth : Method} {c : Code} {g : Gh} (X : Cx p l e R s m args below meth c g cJ7_fill_53178 4 (0, 0) RJ7 0) (hr : meth.sig.returnType = none) (k0 : Nat) (n0 : Nat) (v1 : Int32) (ha0 : ia k0 n0) (M : Mem) : J p l e R s m args below meth c g 4 (0, 0) (QfV below args s g) (pi_J7_fill_53178_e k0 n0 v1 M) M 0 [(0, .ref (gA g k0)), (1, .int v1)] [] := by
  unfold pi_J7_fill_53178_e
  refine j_iconst (v := 0) X dJ7_fill_53178_0 rfl ?_
  refine j_istore_n (i := 2) (Lq := [(0, .ref (gA g k0)), (1, .int v1), (2, .int 0)]) X dJ7_fill_53178_1 rfl (by decide) rfl ?_
  refine j_aload_n (i := 0) X dJ7_fill_53178_2 rfl rfl ?_
  refine j_alen (v := Int32.ofNat n0) X ha0 rfl dJ7_fill_53178_3 ?_
  refine j_bI (fun v3_1 => ?_)
  refine j_istore_n (i := 3) (Lq := [(0, .ref (gA g k0)), (1, .int v1), (2, .int 0), (3, .int v3_1)]) X dJ7_fill_53178_4 rfl (by decide) rfl ?_
  exact j_lp (Lf := fun x => [(0, .ref (gA g k0)), (1, .int v1), (2, .int x.1), (3, .int v3_1)]) (Mf := fun x => x.2) (fun rc5 hc5 x => pj_J7_fill_53178_5 X hr k0 n0 v1 ha0 v3_1 rc5 hc5 x.1 x.2) FU (0, M)
def mi_J7_fill_53178 (k0 : Nat) (n0 : Nat) (v1 : Int32) (M : Mem) : Option (Mem) := pi_J7_fill_53178_e k0 n0 v1 M
theorem ct_J7_fill_53178 (l : Launch) (g : Gh) (k0 : Nat) (n0 : Nat) (v1 : Int32) (ha0 : ia k0 n0) (M : Mem) : CtV l g yJ7_fill_53178 cJ7_fill_53178 4 none 0 [.ref (gA g k0), .int v1] M (mi_J7_fill_53178 k0 n0 v1 M) := ctV_of (own := RJ7) (L := [(0, .ref (gA g k0)), (1, .int v1)]) (by decide +kernel) rfl (Nat.le_of_ble_eq_true rfl) rfl (fun p e s m args below meth c X hr => pj_J7_fill_53178_e X hr k0 n0 v1 ha0 M)
