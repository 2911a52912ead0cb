def pi_X4_next_131 (rc131 : Mem → Option (Mem)) (M : Mem) : Option (Mem) := bd (mi_X4_byteAt (M 49 13) M) fun r_17 M_16 => bd (mi_X4_within r_17 48 57 M_16) fun r_19 M_18 => if r_19 = 0 then (some M_18) else (bd (mi_X4_byteAt (M_18 49 13) M_18) fun r_21 M_20 => bM (up M_20 49 15 (if (((10 * (M_18 49 15)) + r_21) - 48) < 1000 then (((10 * (M_18 49 15)) + r_21) - 48) else 1000)) fun M_22 => bM (up M_22 49 13 ((M_22 49 13) + 1)) fun M_23 => rc131 M_23)
set_option maxRecDepth 100000 in
set_option maxHeartbeats 4000000 in
theorem pj_X4_next_131 {p : Program} {l : Launch} {e : Env} {R : Room} {s : State} {m : MethodId} {args : Array Value} {below : List Frame} {meth : Method} {c : Code} {g : Gh} (X : Cx p l e R s m args below meth c g cX4_next 2 (0, 0) RX4 1) (hr : meth.sig.returnType = none) (rc131 : Mem → Option (Mem)) (hc131 : ∀ x, J p l e R s m args below meth c g 2 (0, 0) (QfV below args s g) (rc131 x) x 131 [(0, .ref (gA g 49))] []) (M : Mem) : J p l e R s m args below meth c g 2 (0, 0) (QfV below args s g) (pi_X4_next_131 rc131 M) M 131 [(0, .ref (gA g 49))] [] := by
  unfold pi_X4_next_131
  refine j_aload_n (i := 0) X dX4_next_131 rfl rfl ?_
  refine j_aload_n (i := 0) X dX4_next_132 rfl rfl ?_
  refine j_get_md 13 X (by decide) wq_549 rfl dX4_next_133 ?_
  refine k_cVI (As := [.int (M 49 13)]) (rest := []) (by decide) (cf_md _) rfl X (ct_X4_byteAt l g (M 49 13) M) wl_X4_260 rfl rfl (by decide) (Nat.le_of_ble_eq_true rfl) dX4_next_136 (fun r_17 M_16 => ?_)
  refine j_bipush (v := 48) X dX4_next_139 rfl ?_
  refine j_bipush (v := 57) X dX4_next_141 rfl ?_
  refine k_cSI (As := [.int r_17, .int 48, .int 57]) (rest := []) X (ct_X4_within l g r_17 48 57 M_16) wl_X4_85 rfl rfl (by decide) (Nat.le_of_ble_eq_true rfl) dX4_next_143 (fun r_19 M_18 => ?_)
  refine j_if_eq (tgt := 206) X dX4_next_146 (by decide) ?_ ?_
  · exact j_vret X hr dX4_next_206
  · refine j_aload_n (i := 0) X dX4_next_149 rfl rfl ?_
    refine j_sipush (v := 1000) X dX4_next_150 rfl ?_
    refine j_bipush (v := 10) X dX4_next_153 rfl ?_
    refine j_aload_n (i := 0) X dX4_next_155 rfl rfl ?_
    refine j_get_md 15 X (by decide) wq_555 rfl dX4_next_156 ?_
    refine j_imul X dX4_next_159 ?_
    refine j_aload_n (i := 0) X dX4_next_160 rfl rfl ?_
    refine j_aload_n (i := 0) X dX4_next_161 rfl rfl ?_
    refine j_get_md 13 X (by decide) wq_549 rfl dX4_next_162 ?_
    refine k_cVI (As := [.int (M_18 49 13)]) (rest := [.int (10 * (M_18 49 15)), .int 1000, .ref (gA g 49)]) (by decide) (cf_md _) rfl X (ct_X4_byteAt l g (M_18 49 13) M_18) wl_X4_260 rfl rfl (by decide) (Nat.le_of_ble_eq_true rfl) dX4_next_165 (fun r_21 M_20 => ?_)
    refine j_iadd X dX4_next_168 ?_
    refine j_bipush (v := 48) X dX4_next_169 rfl ?_
    refine j_isub X dX4_next_171 ?_
    refine j_mmin X wm_X4_159 wm_min2 wm_ini wm_min4 (by decide) (Nat.le_of_ble_eq_true rfl) dX4_next_172 ?_
    refine j_put_md (ty := .int) 15 X (by decide) wq_555 (fun _ => rfl) rfl (by decide +kernel) rfl rfl dX4_next_175 ?_
    refine j_bM (fun M_22 => ?_)
    refine j_aload_n (i := 0) X dX4_next_178 rfl rfl ?_
    refine j_dup X dX4_next_179 rfl ?_
    refine j_get_md 13 X (by decide) wq_549 rfl dX4_next_180 ?_
    refine j_iconst (v := 1) X dX4_next_183 rfl ?_
    refine j_iadd X dX4_next_184 ?_
    refine j_put_md (ty := .int) 13 X (by decide) wq_549 (fun _ => rfl) rfl (by decide +kernel) rfl rfl dX4_next_185 ?_
    refine j_bM (fun M_23 => ?_)
    refine j_goto (tgt := 131) X dX4_next_188 (by decide) ?_
    exact hc131 M_23
def pi_X4_next_84 (rc84 : Mem → Option (Mem)) (M : Mem) : Option (Mem) := bd (mi_X4_byteAt (M 49 13) M) fun r_26 M_25 => bd (mi_X4_within r_26 97 122 M_25) fun r_28 M_27 => if r_28 = 0 then (some M_27) else (bM (up M_27 49 13 ((M_27 49 13) + 1)) fun M_29 => rc84 M_29)
set_option maxRecDepth 100000 in
set_option maxHeartbeats 4000000 in
theorem pj_X4_next_84 {p : Program} {l : Launch} {e : Env} {R : Room} {s : State} {m : MethodId} {args : Array Value} {below : List Frame} {meth : Method} {c : Code} {g : Gh} (X : Cx p l e R s m args below meth c g cX4_next 2 (0, 0) RX4 1) (hr : meth.sig.returnType = none) (rc84 : Mem → Option (Mem)) (hc84 : ∀ x, J p l e R s m args below meth c g 2 (0, 0) (QfV below args s g) (rc84 x) x 84 [(0, .ref (gA g 49))] []) (M : Mem) : J p l e R s m args below meth c g 2 (0, 0) (QfV below args s g) (pi_X4_next_84 rc84 M) M 84 [(0, .ref (gA g 49))] [] := by
  unfold pi_X4_next_84
  refine j_aload_n (i := 0) X dX4_next_84 rfl rfl ?_
  refine j_aload_n (i := 0) X dX4_next_85 rfl rfl ?_
  refine j_get_md 13 X (by decide) wq_549 rfl dX4_next_86 ?_
  refine k_cVI (As := [.int (M 49 13)]) (rest := []) (by decide) (cf_md _) rfl X (ct_X4_byteAt l g (M 49 13) M) wl_X4_260 rfl rfl (by decide) (Nat.le_of_ble_eq_true rfl) dX4_next_89 (fun r_26 M_25 => ?_)
  refine j_bipush (v := 97) X dX4_next_92 rfl ?_
  refine j_bipush (v := 122) X dX4_next_94 rfl ?_
  refine k_cSI (As := [.int r_26, .int 97, .int 122]) (rest := []) X (ct_X4_within l g r_26 97 122 M_25) wl_X4_85 rfl rfl (by decide) (Nat.le_of_ble_eq_true rfl) dX4_next_96 (fun r_28 M_27 => ?_)
  refine j_if_eq (tgt := 206) X dX4_next_99 (by decide) ?_ ?_
  · exact j_vret X hr dX4_next_206
  · refine j_aload_n (i := 0) X dX4_next_102 rfl rfl ?_
    refine j_dup X dX4_next_103 rfl ?_
    refine j_get_md 13 X (by decide) wq_549 rfl dX4_next_104 ?_
    refine j_iconst (v := 1) X dX4_next_107 rfl ?_
    refine j_iadd X dX4_next_108 ?_
    refine j_put_md (ty := .int) 13 X (by decide) wq_549 (fun _ => rfl) rfl (by decide +kernel) rfl rfl dX4_next_109 ?_
    refine j_bM (fun M_29 => ?_)
    refine j_goto (tgt := 84) X dX4_next_112 (by decide) ?_
    exact hc84 M_29
def pi_X4_next_8 (rc8 : Mem → Option (Mem)) (M : Mem) : Option (Mem) := bd (mi_X4_byteAt (M 49 12) M) fun r_3 M_2 => if r_3 = 32 then (bM (up M_2 49 12 ((M_2 49 12) + 1)) fun M_4 => rc8 M_4) else (bd (mi_X4_byteAt (M_2 49 12) M_2) fun r_6 M_5 => bM (up M_5 49 13 (M_5 49 12)) fun M_7 => bM (up M_7 49 15 0) fun M_8 => if 0 ≤ r_6 then (bd (mi_X4_within r_6 97 122 M_8) fun r_10 M_9 => if r_10 = 0 then (bd (mi_X4_within r_6 48 57 M_9) fun r_12 M_11 => if r_12 = 0 then (bM (up M_11 49 14 3) fun M_13 => bM (up M_13 49 13 ((M_13 49 13) + 1)) fun M_14 => some M_14) else (bM (up M_11 49 14 2) fun M_15 => lp (fun rc131 x => pi_X4_next_131 rc131 x) FU M_15)) else (bM (up M_9 49 14 1) fun M_24 => lp (fun rc84 x => pi_X4_next_84 rc84 x) FU M_24)) else (bM (up M_8 49 14 0) fun M_30 => some M_30))
set_option maxRecDepth 100000 in
set_option maxHeartbeats 4000000 in
theorem pj_X4_next_8 {p : Program} {l : Launch} {e : Env} {R : Room} {s : State} {m : MethodId} {args : Array Value} {below : List Frame} {meth : Method} {c : Code} {g : Gh} (X : Cx p l e R s m args below meth c g cX4_next 2 (0, 0) RX4 1) (hr : meth.sig.returnType = none) (rc8 : Mem → Option (Mem)) (hc8 : ∀ x, J p l e R s m args below meth c g 2 (0, 0) (QfV below args s g) (rc8 x) x 8 [(0, .ref (gA g 49))] []) (M : Mem) : J p l e R s m args below meth c g 2 (0, 0) (QfV below args s g) (pi_X4_next_8 rc8 M) M 8 [(0, .ref (gA g 49))] [] := by
  unfold pi_X4_next_8
  refine j_aload_n (i := 0) X dX4_next_8 rfl rfl ?_
  refine j_aload_n (i := 0) X dX4_next_9 rfl rfl ?_
  refine j_get_md 12 X (by decide) wq_550 rfl dX4_next_10 ?_
  refine k_cVI (As := [.int (M 49 12)]) (rest := []) (by decide) (cf_md _) rfl X (ct_X4_byteAt l g (M 49 12) M) wl_X4_260 rfl rfl (by decide) (Nat.le_of_ble_eq_true rfl) dX4_next_13 (fun r_3 M_2 => ?_)
  refine j_bipush (v := 32) X dX4_next_16 rfl ?_
  refine j_icmp_ne (tgt := 34) X dX4_next_18 (by decide) ?_ ?_
  · refine j_aload_n (i := 0) X dX4_next_21 rfl rfl ?_
    refine j_dup X dX4_next_22 rfl ?_
    refine j_get_md 12 X (by decide) wq_550 rfl dX4_next_23 ?_
    refine j_iconst (v := 1) X dX4_next_26 rfl ?_
    refine j_iadd X dX4_next_27 ?_
    refine j_put_md (ty := .int) 12 X (by decide) wq_550 (fun _ => rfl) rfl (by decide +kernel) rfl rfl dX4_next_28 ?_
    refine j_bM (fun M_4 => ?_)
    refine j_goto (tgt := 8) X dX4_next_31 (by decide) ?_
    exact hc8 M_4
  · refine j_aload_n (i := 0) X dX4_next_34 rfl rfl ?_
    refine j_aload_n (i := 0) X dX4_next_35 rfl rfl ?_
    refine j_get_md 12 X (by decide) wq_550 rfl dX4_next_36 ?_
    refine k_cVI (As := [.int (M_2 49 12)]) (rest := []) (by decide) (cf_md _) rfl X (ct_X4_byteAt l g (M_2 49 12) M_2) wl_X4_260 rfl rfl (by decide) (Nat.le_of_ble_eq_true rfl) dX4_next_39 (fun r_6 M_5 => ?_)
    refine j_istore_n (i := 1) (Lq := [(0, .ref (gA g 49)), (1, .int r_6)]) X dX4_next_42 rfl (by decide) rfl ?_
    refine j_aload_n (i := 0) X dX4_next_43 rfl rfl ?_
    refine j_aload_n (i := 0) X dX4_next_44 rfl rfl ?_
    refine j_get_md 12 X (by decide) wq_550 rfl dX4_next_45 ?_
    refine j_put_md (ty := .int) 13 X (by decide) wq_549 (fun _ => rfl) rfl (by decide +kernel) rfl rfl dX4_next_48 ?_
    refine j_bM (fun M_7 => ?_)
    refine j_aload_n (i := 0) X dX4_next_51 rfl rfl ?_
    refine j_iconst (v := 0) X dX4_next_52 rfl ?_
    refine j_put_md (ty := .int) 15 X (by decide) wq_555 (fun _ => rfl) rfl (by decide +kernel) rfl rfl dX4_next_53 ?_
    refine j_bM (fun M_8 => ?_)
    refine j_iload_n (i := 1) X dX4_next_56 rfl rfl ?_
    refine j_if_ge (tgt := 68) X dX4_next_57 (by decide) ?_ ?_
    · refine j_iload_n (i := 1) X dX4_next_68 rfl rfl ?_
      refine j_bipush (v := 97) X dX4_next_69 rfl ?_
      refine j_bipush (v := 122) X dX4_next_71 rfl ?_
      refine k_cSI (As := [.int r_6, .int 97, .int 122]) (rest := []) X (ct_X4_within l g r_6 97 122 M_8) wl_X4_85 rfl rfl (by decide) (Nat.le_of_ble_eq_true rfl) dX4_next_73 (fun r_10 M_9 => ?_)
      refine j_if_eq (tgt := 115) X dX4_next_76 (by decide) ?_ ?_
      · refine j_iload_n (i := 1) X dX4_next_115 rfl rfl ?_
        refine j_bipush (v := 48) X dX4_next_116 rfl ?_
        refine j_bipush (v := 57) X dX4_next_118 rfl ?_
        refine k_cSI (As := [.int r_6, .int 48, .int 57]) (rest := []) X (ct_X4_within l g r_6 48 57 M_9) wl_X4_85 rfl rfl (by decide) (Nat.le_of_ble_eq_true rfl) dX4_next_120 (fun r_12 M_11 => ?_)
        refine j_if_eq (tgt := 191) X dX4_next_123 (by decide) ?_ ?_
        · refine j_aload_n (i := 0) X dX4_next_191 rfl rfl ?_
          refine j_iconst (v := 3) X dX4_next_192 rfl ?_
          refine j_put_md (ty := .int) 14 X (by decide) wq_556 (fun _ => rfl) rfl (by decide +kernel) rfl rfl dX4_next_193 ?_
          refine j_bM (fun M_13 => ?_)
          refine j_aload_n (i := 0) X dX4_next_196 rfl rfl ?_
          refine j_dup X dX4_next_197 rfl ?_
          refine j_get_md 13 X (by decide) wq_549 rfl dX4_next_198 ?_
          refine j_iconst (v := 1) X dX4_next_201 rfl ?_
          refine j_iadd X dX4_next_202 ?_
          refine j_put_md (ty := .int) 13 X (by decide) wq_549 (fun _ => rfl) rfl (by decide +kernel) rfl rfl dX4_next_203 ?_
          refine j_bM (fun M_14 => ?_)
          exact j_vret X hr dX4_next_206
        · refine j_aload_n (i := 0) X dX4_next_126 rfl rfl ?_
          refine j_iconst (v := 2) X dX4_next_127 rfl ?_
          refine j_put_md (ty := .int) 14 X (by decide) wq_556 (fun _ => rfl) rfl (by decide +kernel) rfl rfl dX4_next_128 ?_
          refine j_bM (fun M_15 => ?_)
          refine j_pick [0] (Lq := [(0, .ref (gA g 49))]) rfl ?_
          exact j_lp (Lf := fun x => [(0, .ref (gA g 49))]) (Mf := fun x => x) (fun rc131 hc131 x => pj_X4_next_131 X hr rc131 hc131 x) FU M_15
      · refine j_aload_n (i := 0) X dX4_next_79 rfl rfl ?_
        refine j_iconst (v := 1) X dX4_next_80 rfl ?_
        refine j_put_md (ty := .int) 14 X (by decide) wq_556 (fun _ => rfl) rfl (by decide +kernel) rfl rfl dX4_next_81 ?_
        refine j_bM (fun M_24 => ?_)
        refine j_pick [0] (Lq := [(0, .ref (gA g 49))]) rfl ?_
        exact j_lp (Lf := fun x => [(0, .ref (gA g 49))]) (Mf := fun x => x) (fun rc84 hc84 x => pj_X4_next_84 X hr rc84 hc84 x) FU M_24
    · refine j_aload_n (i := 0) X dX4_next_60 rfl rfl ?_
      refine j_iconst (v := 0) X dX4_next_61 rfl ?_
      refine j_put_md (ty := .int) 14 X (by decide) wq_556 (fun _ => rfl) rfl (by decide +kernel) rfl rfl dX4_next_62 ?_
      refine j_bM (fun M_30 => ?_)
      refine j_goto (tgt := 206) X dX4_next_65 (by decide) ?_
      exact j_vret X hr dX4_next_206
def pi_X4_next_e (M : Mem) : Option (Mem) := bM (up M 49 12 (M 49 13)) fun M_1 => lp (fun rc8 x => pi_X4_next_8 rc8 x) FU M_1
set_option maxRecDepth 100000 in
set_option maxHeartbeats 4000000 in
theorem pj_X4_next_e {p : Program} {l : Launch} {e : Env} {R : Room} {s : State} {m : MethodId} {args : Array Value} {below : List Frame} {meth : Method} {c : Code} {g : Gh} (X : Cx p l e R s m args below meth c g cX4_next 2 (0, 0) RX4 1) (hr : meth.sig.returnType = none) (M : Mem) : J p l e R s m args below meth c g 2 (0, 0) (QfV below args s g) (pi_X4_next_e M) M 0 [(0, .ref (gA g 49))] [] := by
  unfold pi_X4_next_e
  refine j_aload_n (i := 0) X dX4_next_0 rfl rfl ?_
  refine j_aload_n (i := 0) X dX4_next_1 rfl rfl ?_
  refine j_get_md 13 X (by decide) wq_549 rfl dX4_next_2 ?_
  refine j_put_md (ty := .int) 12 X (by decide) wq_550 (fun _ => rfl) rfl (by decide +kernel) rfl rfl dX4_next_5 ?_
  refine j_bM (fun M_1 => ?_)
  exact j_lp (Lf := fun x => [(0, .ref (gA g 49))]) (Mf := fun x => x) (fun rc8 hc8 x => pj_X4_next_8 X hr rc8 hc8 x) FU M_1
def mi_X4_next (M : Mem) : Option (Mem) := pi_X4_next_e  M
theorem ct_X4_next (l : Launch) (g : Gh) (M : Mem) : CtV l g yX4_next cX4_next 2 none 1 [.ref (gA g 49)] M (mi_X4_next  M) := ctV_of (own := RX4) (L := [(0, .ref (gA g 49))]) (by decide +kernel) rfl (Nat.le_of_ble_eq_true rfl) rfl (fun p e s m args below meth c X hr => pj_X4_next_e X hr   M)

def pi_X4_isWord_32 (w1 : Nat) (rc32 : Int32 × Int32 × Mem → Option (Int32 × Mem)) (v2 : Int32) (v3 : Int32) (M : Mem) : Option (Int32 × Mem) := bd (mi_J0_length_8abf5 w1 M) fun r_4 M_3 => if r_4 ≤ v3 then (gd (isB v2) (some (v2, M_3))) else (if v2 = 0 then (gd (isB v2) (some (v2, M_3))) else (gd (inb ((M_3 49 12) + v3) 120) <| bd (mi_J0_charAt_5068e w1 v3 M_3) fun r_7 M_6 => if (M_3 59 ((M_3 49 12) + v3).toNatClampNeg) = r_7 then (bI (v3 + 1) fun v3_8 => rc32 (1, v3_8, M_6)) else (bI (v3 + 1) fun v3_9 => rc32 (0, v3_9, M_6))))
set_option maxRecDepth 100000 in
set_option maxHeartbeats 4000000 in
theorem pj_X4_isWord_32 {p : Program} {l : Launch} {e : Env} {R : Room} {s : State} {m : MethodId} {args : Array Value} {below : List Frame} {meth : Method} {c : Code} {g : Gh} (X : Cx p l e R s m args below meth c g cX4_isWord 4 (0, 0) RX4 4) (hr : meth.sig.returnType = (some (.boolean))) (w1 : Nat) (hw1 : w1 < 12) (rc32 : Int32 × Int32 × Mem → Option (Int32 × Mem)) (hc32 : ∀ x, J p l e R s m args below meth c g 4 (0, 0) (QfI below args s g) (rc32 x) x.2.2 32 [(0, .ref (gA g 49)), (1, .ref (gS g w1)), (2, .int x.1), (3, .int x.2.1)] []) (v2 : Int32) (v3 : Int32) (M : Mem) : J p l e R s m args below meth c g 4 (0, 0) (QfI below args s g) (pi_X4_isWord_32 w1 rc32 v2 v3 M) M 32 [(0, .ref (gA g 49)), (1, .ref (gS g w1)), (2, .int v2), (3, .int v3)] [] := by
  unfold pi_X4_isWord_32
  refine j_iload_n (i := 3) X dX4_isWord_32 rfl rfl ?_
  refine j_aload_n (i := 1) X dX4_isWord_33 rfl rfl ?_
  refine k_cTI (As := []) (rest := [.int v3]) hw1 X (ct_J0_length_8abf5 l g w1 hw1 M) wl_X4_269 rfl rfl (by decide) (Nat.le_of_ble_eq_true rfl) dX4_isWord_34 (fun r_4 M_3 => ?_)
  refine j_icmp_ge (tgt := 75) X dX4_isWord_37 (by decide) ?_ ?_
  · refine j_iload_n (i := 2) X dX4_isWord_75 rfl rfl ?_
    exact j_zret X hr dX4_isWord_76
  · refine j_iload_n (i := 2) X dX4_isWord_40 rfl rfl ?_
    refine j_if_eq (tgt := 75) X dX4_isWord_41 (by decide) ?_ ?_
    · refine j_iload_n (i := 2) X dX4_isWord_75 rfl rfl ?_
      exact j_zret X hr dX4_isWord_76
    · refine j_aload_n (i := 0) X dX4_isWord_44 rfl rfl ?_
      refine j_get_md 10 X (by decide) wq_548 rfl dX4_isWord_45 ?_
      refine j_aload_n (i := 0) X dX4_isWord_48 rfl rfl ?_
      refine j_get_md 12 X (by decide) wq_550 rfl dX4_isWord_49 ?_
      refine j_iload_n (i := 3) X dX4_isWord_52 rfl rfl ?_
      refine j_iadd X dX4_isWord_53 ?_
      refine j_iald X ia_59 dX4_isWord_54 (fun h_5 => ?_)
      refine j_aload_n (i := 1) X dX4_isWord_55 rfl rfl ?_
      refine j_iload_n (i := 3) X dX4_isWord_56 rfl rfl ?_
      refine k_cTI (As := [.int v3]) (rest := [.int (M_3 59 ((M_3 49 12) + v3).toNatClampNeg)]) hw1 X (ct_J0_charAt_5068e l g w1 v3 hw1 M_3) wl_X4_272 rfl rfl (by decide) (Nat.le_of_ble_eq_true rfl) dX4_isWord_57 (fun r_7 M_6 => ?_)
      refine j_icmp_ne (tgt := 67) X dX4_isWord_60 (by decide) ?_ ?_
      · refine j_iconst (v := 1) X dX4_isWord_63 rfl ?_
        refine j_goto (tgt := 68) X dX4_isWord_64 (by decide) ?_
        refine j_istore_n (i := 2) (Lq := [(0, .ref (gA g 49)), (1, .ref (gS g w1)), (2, .int 1), (3, .int v3)]) X dX4_isWord_68 rfl (by decide) rfl ?_
        refine j_iincB (i := 3) (y := v3 + 1) (Lf := fun v3_8 => [(0, .ref (gA g 49)), (1, .ref (gS g w1)), (2, .int 1), (3, .int v3_8)]) X dX4_isWord_69 rfl rfl (by decide) (fun _ => rfl) (fun v3_8 => ?_)
        refine j_goto (tgt := 32) X dX4_isWord_72 (by decide) ?_
        exact hc32 (1, v3_8, M_6)
      · refine j_iconst (v := 0) X dX4_isWord_67 rfl ?_
        refine j_istore_n (i := 2) (Lq := [(0, .ref (gA g 49)), (1, .ref (gS g w1)), (2, .int 0), (3, .int v3)]) X dX4_isWord_68 rfl (by decide) rfl ?_
        refine j_iincB (i := 3) (y := v3 + 1) (Lf := fun v3_9 => [(0, .ref (gA g 49)), (1, .ref (gS g w1)), (2, .int 0), (3, .int v3_9)]) X dX4_isWord_69 rfl rfl (by decide) (fun _ => rfl) (fun v3_9 => ?_)
        refine j_goto (tgt := 32) X dX4_isWord_72 (by decide) ?_
        exact hc32 (0, v3_9, M_6)
def pi_X4_isWord_e (w1 : Nat) (M : Mem) : Option (Int32 × Mem) := if (M 49 14) = 1 then (bd (mi_J0_length_8abf5 w1 M) fun r_2 M_1 => if ((M 49 13) - (M 49 12)) = r_2 then (lp (fun rc32 x => pi_X4_isWord_32 w1 rc32 x.1 x.2.1 x.2.2) FU (1, 0, M_1)) else (lp (fun rc32 x => pi_X4_isWord_32 w1 rc32 x.1 x.2.1 x.2.2) FU (0, 0, M_1))) else (lp (fun rc32 x => pi_X4_isWord_32 w1 rc32 x.1 x.2.1 x.2.2) FU (0, 0, M))
set_option maxRecDepth 100000 in
set_option maxHeartbeats 4000000 in
theorem pj_X4_isWord_e {p : Program} {l : Launch} {e : Env} {R : Room} {s : State} {m : MethodId} {args : Array Value} {below : List Frame} {meth : Method} {c : Code} {g : Gh} (X : Cx p l e R s m args below meth c g cX4_isWord 4 (0, 0) RX4 4) (hr : meth.sig.returnType = (some (.boolean))) (w1 : Nat) (hw1 : w1 < 12) (M : Mem) : J p l e R s m args below meth c g 4 (0, 0) (QfI below args s g) (pi_X4_isWord_e w1 M) M 0 [(0, .ref (gA g 49)), (1, .ref (gS g w1))] [] := by
  unfold pi_X4_isWord_e
  refine j_aload_n (i := 0) X dX4_isWord_0 rfl rfl ?_
  refine j_get_md 14 X (by decide) wq_556 rfl dX4_isWord_1 ?_
  refine j_iconst (v := 1) X dX4_isWord_4 rfl ?_
  refine j_icmp_ne (tgt := 28) X dX4_isWord_5 (by decide) ?_ ?_
  · refine j_aload_n (i := 0) X dX4_isWord_8 rfl rfl ?_
    refine j_get_md 13 X (by decide) wq_549 rfl dX4_isWord_9 ?_
    refine j_aload_n (i := 0) X dX4_isWord_12 rfl rfl ?_
    refine j_get_md 12 X (by decide) wq_550 rfl dX4_isWord_13 ?_
    refine j_isub X dX4_isWord_16 ?_
    refine j_aload_n (i := 1) X dX4_isWord_17 rfl rfl ?_
    refine k_cTI (As := []) (rest := [.int ((M 49 13) - (M 49 12))]) hw1 X (ct_J0_length_8abf5 l g w1 hw1 M) wl_X4_269 rfl rfl (by decide) (Nat.le_of_ble_eq_true rfl) dX4_isWord_18 (fun r_2 M_1 => ?_)
    refine j_icmp_ne (tgt := 28) X dX4_isWord_21 (by decide) ?_ ?_
    · refine j_iconst (v := 1) X dX4_isWord_24 rfl ?_
      refine j_goto (tgt := 29) X dX4_isWord_25 (by decide) ?_
      refine j_istore_n (i := 2) (Lq := [(0, .ref (gA g 49)), (1, .ref (gS g w1)), (2, .int 1)]) X dX4_isWord_29 rfl (by decide) rfl ?_
      refine j_iconst (v := 0) X dX4_isWord_30 rfl ?_
      refine j_istore_n (i := 3) (Lq := [(0, .ref (gA g 49)), (1, .ref (gS g w1)), (2, .int 1), (3, .int 0)]) X dX4_isWord_31 rfl (by decide) rfl ?_
      exact j_lp (Lf := fun x => [(0, .ref (gA g 49)), (1, .ref (gS g w1)), (2, .int x.1), (3, .int x.2.1)]) (Mf := fun x => x.2.2) (fun rc32 hc32 x => pj_X4_isWord_32 X hr w1 hw1 rc32 hc32 x.1 x.2.1 x.2.2) FU (1, 0, M_1)
    · refine j_iconst (v := 0) X dX4_isWord_28 rfl ?_
      refine j_istore_n (i := 2) (Lq := [(0, .ref (gA g 49)), (1, .ref (gS g w1)), (2, .int 0)]) X dX4_isWord_29 rfl (by decide) rfl ?_
      refine j_iconst (v := 0) X dX4_isWord_30 rfl ?_
      refine j_istore_n (i := 3) (Lq := [(0, .ref (gA g 49)), (1, .ref (gS g w1)), (2, .int 0), (3, .int 0)]) X dX4_isWord_31 rfl (by decide) rfl ?_
      exact j_lp (Lf := fun x => [(0, .ref (gA g 49)), (1, .ref (gS g w1)), (2, .int x.1), (3, .int x.2.1)]) (Mf := fun x => x.2.2) (fun rc32 hc32 x => pj_X4_isWord_32 X hr w1 hw1 rc32 hc32 x.1 x.2.1 x.2.2) FU (0, 0, M_1)
  · refine j_iconst (v := 0) X dX4_isWord_28 rfl ?_
    refine j_istore_n (i := 2) (Lq := [(0, .ref (gA g 49)), (1, .ref (gS g w1)), (2, .int 0)]) X dX4_isWord_29 rfl (by decide) rfl ?_
    refine j_iconst (v := 0) X dX4_isWord_30 rfl ?_
    refine j_istore_n (i := 3) (Lq := [(0, .ref (gA g 49)), (1, .ref (gS g w1)), (2, .int 0), (3, .int 0)]) X dX4_isWord_31 rfl (by decide) rfl ?_
    exact j_lp (Lf := fun x => [(0, .ref (gA g 49)), (1, .ref (gS g w1)), (2, .int x.1), (3, .int x.2.1)]) (Mf := fun x => x.2.2) (fun rc32 hc32 x => pj_X4_isWord_32 X hr w1 hw1 rc32 hc32 x.1 x.2.1 x.2.2) FU (0, 0, M)
def mi_X4_isWord (w1 : Nat) (M : Mem) : Option (Int32 × Mem) := pi_X4_isWord_e w1 M
theorem ct_X4_isWord (l : Launch) (g : Gh) (w1 : Nat) (hw1 : w1 < 12) (M : Mem) : CtI l g yX4_isWord cX4_isWord 4 (some (.boolean)) 4 [.ref (gA g 49), .ref (gS g w1)] M (mi_X4_isWord w1 M) := ctI_of (own := RX4) (L := [(0, .ref (gA g 49)), (1, .ref (gS g w1))]) (by decide +kernel) rfl (Nat.le_of_ble_eq_true rfl) rfl (fun p e s m args below meth c X hr => pj_X4_isWord_e X hr w1 hw1 M)

def pi_X4_must_17 (v1 : Int32) (t0 : Int32) (M : Mem) : Option (Mem) := gd (isB t0) <| bM (up M 49 16 t0) fun M_1 => if (M_1 49 16) = 0 then (bv (mi_X4_next M_1) fun M_3 => some M_3) else (some M_1)
set_option maxRecDepth 100000 in
set_option maxHeartbeats 4000000 in
theorem pj_X4_must_17 {p : Program} {l : Launch} {e : Env} {R : Room} {s : State} {m : MethodId} {args : Array Value} {below : List Frame} {meth : Method} {c : Code} {g : Gh} (X : Cx p l e R s m args below meth c g cX4_must 2 (0, 0) RX4 2) (hr : meth.sig.returnType = none) (v1 : Int32) (t0 : Int32) (M : Mem) : J p l e R s m args below meth c g 2 (0, 0) (QfV below args s g) (pi_X4_must_17 v1 t0 M) M 17 [(0, .ref (gA g 49)), (1, .int v1)] [.int t0, .ref (gA g 49)] := by
  unfold pi_X4_must_17
  refine j_gd (fun h_2 => ?_)
  refine j_put_md (ty := .boolean) 16 X (by decide) wq_559 (fun _ => rfl) rfl (by decide +kernel) (isB_n h_2) (isB_f h_2) dX4_must_17 ?_
  refine j_bM (fun M_1 => ?_)
  refine j_aload_n (i := 0) X dX4_must_20 rfl rfl ?_
  refine j_get_md 16 X (by decide) wq_559 rfl dX4_must_21 ?_
  refine j_if_ne (tgt := 31) X dX4_must_24 (by decide) ?_ ?_
  · refine j_aload_n (i := 0) X dX4_must_27 rfl rfl ?_
    refine k_cVV (As := []) (rest := []) (by decide) (cf_md _) rfl X (ct_X4_next l g M_1) wl_X4_280 rfl rfl (by decide) (Nat.le_of_ble_eq_true rfl) dX4_must_28 (fun M_3 => ?_)
    exact j_vret X hr dX4_must_31
  · exact j_vret X hr dX4_must_31
def pi_X4_must_12 (v1 : Int32) (M : Mem) : Option (Mem) := pi_X4_must_17 v1 1 M
set_option maxRecDepth 100000 in
set_option maxHeartbeats 4000000 in
theorem pj_X4_must_12 {p : Program} {l : Launch} {e : Env} {R : Room} {s : State} {m : MethodId} {args : Array Value} {below : List Frame} {meth : Method} {c : Code} {g : Gh} (X : Cx p l e R s m args below meth c g cX4_must 2 (0, 0) RX4 2) (hr : meth.sig.returnType = none) (v1 : Int32) (M : Mem) : J p l e R s m args below meth c g 2 (0, 0) (QfV below args s g) (pi_X4_must_12 v1 M) M 12 [(0, .ref (gA g 49)), (1, .int v1)] [.ref (gA g 49)] := by
  unfold pi_X4_must_12
  refine j_iconst (v := 1) X dX4_must_12 rfl ?_
  refine j_goto (tgt := 17) X dX4_must_13 (by decide) ?_
  exact pj_X4_must_17 X hr v1 1 M
def pi_X4_must_e (v1 : Int32) (M : Mem) : Option (Mem) := if (M 49 16) = 0 then (if v1 = 0 then (pi_X4_must_12 v1 M) else (pi_X4_must_17 v1 0 M)) else (pi_X4_must_12 v1 M)
set_option maxRecDepth 100000 in
set_option maxHeartbeats 4000000 in
theorem pj_X4_must_e {p : Program} {l : Launch} {e : Env} {R : Room} {s : State} {m : MethodId} {args : Array Value} {below : List Frame} {meth : Method} {c : Code} {g : Gh} (X : Cx p l e R s m args below meth c g cX4_must 2 (0, 0) RX4 2) (hr : meth.sig.returnType = none) (v1 : Int32) (M : Mem) : J p l e R s m args below meth c g 2 (0, 0) (QfV below args s g) (pi_X4_must_e v1 M) M 0 [(0, .ref (gA g 49)), (1, .int v1)] [] := by
  unfold pi_X4_must_e
  refine j_aload_n (i := 0) X dX4_must_0 rfl rfl ?_
  refine j_aload_n (i := 0) X dX4_must_1 rfl rfl ?_
  refine j_get_md 16 X (by decide) wq_559 rfl dX4_must_2 ?_
  refine j_if_ne (tgt := 12) X dX4_must_5 (by decide) ?_ ?_
  · refine j_iload_n (i := 1) X dX4_must_8 rfl rfl ?_
    refine j_if_ne (tgt := 16) X dX4_must_9 (by decide) ?_ ?_
    · exact pj_X4_must_12 X hr v1 M
    · refine j_iconst (v := 0) X dX4_must_16 rfl ?_
      exact pj_X4_must_17 X hr v1 0 M
  · exact pj_X4_must_12 X hr v1 M
def mi_X4_must (v1 : Int32) (M : Mem) : Option (Mem) := pi_X4_must_e v1 M
theorem ct_X4_must (l : Launch) (g : Gh) (v1 : Int32) (M : Mem) : CtV l g yX4_must cX4_must 2 none 2 [.ref (gA g 49), .int v1] M (mi_X4_must v1 M) := ctV_of (own := RX4) (L := [(0, .ref (gA g 49)), (1, .int v1)]) (by decide +kernel) rfl (Nat.le_of_ble_eq_true rfl) rfl (fun p e s m args below meth c X hr => pj_X4_must_e X hr v1  M)

def pi_X4_number_28 (v1 : Int32) (v2 : Int32) (v3 : Int32) (t0 : Int32) (M : Mem) : Option (Int32 × Mem) := bv (mi_X4_must t0 M) fun M_4 => some (v3, M_4)
set_option maxRecDepth 100000 in
set_option maxHeartbeats 4000000 in
theorem pj_X4_number_28 {p : Program} {l : Launch} {e : Env} {R : Room} {s : State} {m : MethodId} {args : Array Value} {below : List Frame} {meth : Method} {c : Code} {g : Gh} (X : Cx p l e R s m args below meth c g cX4_number 4 (0, 0) RX4 3) (hr : meth.sig.returnType = (some (.int))) (v1 : Int32) (v2 : Int32) (v3 : Int32) (t0 : Int32) (M : Mem) : J p l e R s m args below meth c g 4 (0, 0) (QfI below args s g) (pi_X4_number_28 v1 v2 v3 t0 M) M 28 [(0, .ref (gA g 49)), (1, .int v1), (2, .int v2), (3, .int v3)] [.int t0, .ref (gA g 49)] := by
  unfold pi_X4_number_28
  refine k_cVV (As := [.int t0]) (rest := []) (by decide) (cf_md _) rfl X (ct_X4_must l g t0 M) wl_X4_283 rfl rfl (by decide) (Nat.le_of_ble_eq_true rfl) dX4_number_28 (fun M_4 => ?_)
  refine j_iload_n (i := 3) X dX4_number_31 rfl rfl ?_
  exact j_iret X hr dX4_number_32
def pi_X4_number_27 (v1 : Int32) (v2 : Int32) (v3 : Int32) (M : Mem) : Option (Int32 × Mem) := pi_X4_number_28 v1 v2 v3 0 M
set_option maxRecDepth 100000 in
set_option maxHeartbeats 4000000 in
theorem pj_X4_number_27 {p : Program} {l : Launch} {e : Env} {R : Room} {s : State} {m : MethodId} {args : Array Value} {below : List Frame} {meth : Method} {c : Code} {g : Gh} (X : Cx p l e R s m args below meth c g cX4_number 4 (0, 0) RX4 3) (hr : meth.sig.returnType = (some (.int))) (v1 : Int32) (v2 : Int32) (v3 : Int32) (M : Mem) : J p l e R s m args below meth c g 4 (0, 0) (QfI below args s g) (pi_X4_number_27 v1 v2 v3 M) M 27 [(0, .ref (gA g 49)), (1, .int v1), (2, .int v2), (3, .int v3)] [.ref (gA g 49)] := by
  unfold pi_X4_number_27
  refine j_iconst (v := 0) X dX4_number_27 rfl ?_
  exact pj_X4_number_28 X hr v1 v2 v3 0 M
def pi_X4_number_e (v1 : Int32) (v2 : Int32) (M : Mem) : Option (Int32 × Mem) := bI (M 49 15) fun v3_1 => if (M 49 14) = 2 then (bd (mi_X4_within v3_1 v1 v2 M) fun r_3 M_2 => if r_3 = 0 then (pi_X4_number_27 v1 v2 v3_1 M_2) else (pi_X4_number_28 v1 v2 v3_1 1 M_2)) else (pi_X4_number_27 v1 v2 v3_1 M)
set_option maxRecDepth 100000 in
set_option maxHeartbeats 4000000 in
theorem pj_X4_number_e {p : Program} {l : Launch} {e : Env} {R : Room} {s : State} {m : MethodId} {args : Array Value} {below : List Frame} {meth : Method} {c : Code} {g : Gh} (X : Cx p l e R s m args below meth c g cX4_number 4 (0, 0) RX4 3) (hr : meth.sig.returnType = (some (.int))) (v1 : Int32) (v2 : Int32) (M : Mem) : J p l e R s m args below meth c g 4 (0, 0) (QfI below args s g) (pi_X4_number_e v1 v2 M) M 0 [(0, .ref (gA g 49)), (1, .int v1), (2, .int v2)] [] := by
  unfold pi_X4_number_e
  refine j_aload_n (i := 0) X dX4_number_0 rfl rfl ?_
  refine j_get_md 15 X (by decide) wq_555 rfl dX4_number_1 ?_
  refine j_bI (fun v3_1 => ?_)
  refine j_istore_n (i := 3) (Lq := [(0, .ref (gA g 49)), (1, .int v1), (2, .int v2), (3, .int v3_1)]) X dX4_number_4 rfl (by decide) rfl ?_
  refine j_aload_n (i := 0) X dX4_number_5 rfl rfl ?_
  refine j_aload_n (i := 0) X dX4_number_6 rfl rfl ?_
  refine j_get_md 14 X (by decide) wq_556 rfl dX4_number_7 ?_
  refine j_iconst (v := 2) X dX4_number_10 rfl ?_
  refine j_icmp_ne (tgt := 27) X dX4_number_11 (by decide) ?_ ?_
  · refine j_iload_n (i := 3) X dX4_number_14 rfl rfl ?_
    refine j_iload_n (i := 1) X dX4_number_15 rfl rfl ?_
    refine j_iload_n (i := 2) X dX4_number_16 rfl rfl ?_
    refine k_cSI (As := [.int v3_1, .int v1, .int v2]) (rest := [.ref (gA g 49)]) X (ct_X4_within l g v3_1 v1 v2 M) wl_X4_85 rfl rfl (by decide) (Nat.le_of_ble_eq_true rfl) dX4_number_17 (fun r_3 M_2 => ?_)
    refine j_if_eq (tgt := 27) X dX4_number_20 (by decide) ?_ ?_
    · exact pj_X4_number_27 X hr v1 v2 v3_1 M_2
    · refine j_iconst (v := 1) X dX4_number_23 rfl ?_
      refine j_goto (tgt := 28) X dX4_number_24 (by decide) ?_
      exact pj_X4_number_28 X hr v1 v2 v3_1 1 M_2
  · exact pj_X4_number_27 X hr v1 v2 v3_1 M
def mi_X4_number (v1 : Int32) (v2 : Int32) (M : Mem) : Option (Int32 × Mem) := pi_X4_number_e v1 v2 M
theorem ct_X4_number (l : Launch) (g : Gh) (v1 : Int32) (v2 : Int32) (M : Mem) : CtI l g yX4_number cX4_number 4 (some (.int)) 3 [.ref (gA g 49), .int v1, .int v2] M (mi_X4_number v1 v2 M) := ctI_of (own := RX4) (L := [(0, .ref (gA g 49)), (1, .int v1), (2, .int v2)]) (by decide +kernel) rfl (Nat.le_of_ble_eq_true rfl) rfl (fun p e s m args below meth c X hr => pj_X4_number_e X hr v1 v2  M)

def pi_X4_addItem_e (v1 : Int32) (v2 : Int32) (v3 : Int32) (v4 : Int32) (v5 : Int32) (M : Mem) : Option (Mem) := bI (5 * (M 49 19)) fun v6_1 => gd (inb v6_1 600) <| bM (up M 61 v6_1.toNatClampNeg v1) fun M_3 => gd (inb (v6_1 + 1) 600) <| bM (up M_3 61 (v6_1 + 1).toNatClampNeg v2) fun M_5 => gd (inb (v6_1 + 2) 600) <| bM (up M_5 61 (v6_1 + 2).toNatClampNeg v3) fun M_7 => gd (inb (v6_1 + 3) 600) <| bM (up M_7 61 (v6_1 + 3).toNatClampNeg v4) fun M_9 => gd (inb (v6_1 + 4) 600) <| bM (up M_9 61 (v6_1 + 4).toNatClampNeg v5) fun M_11 => bM (up M_11 49 19 ((M_11 49 19) + 1)) fun M_12 => some M_12
set_option maxRecDepth 100000 in
set_option maxHeartbeats 4000000 in
theorem pj_X4_addItem_e {p : Program} {l : Launch} {e : Env} {R : Room} {s : State} {m : MethodId} {args : Array Value} {below : List Frame} {meth : Method} {c : Code} {g : Gh} (X : Cx p l e R s m args below meth c g cX4_addItem 7 (0, 0) RX4 0) (hr : meth.sig.returnType = none) (v1 : Int32) (v2 : Int32) (v3 : Int32) (v4 : Int32) (v5 : Int32) (M : Mem) : J p l e R s m args below meth c g 7 (0, 0) (QfV below args s g) (pi_X4_addItem_e v1 v2 v3 v4 v5 M) M 0 [(0, .ref (gA g 49)), (1, .int v1), (2, .int v2), (3, .int v3), (4, .int v4), (5, .int v5)] [] := by
  unfold pi_X4_addItem_e
  refine j_iconst (v := 5) X dX4_addItem_0 rfl ?_
  refine j_aload_n (i := 0) X dX4_addItem_1 rfl rfl ?_
  refine j_get_md 19 X (by decide) wq_568 rfl dX4_addItem_2 ?_
  refine j_imul X dX4_addItem_5 ?_
  refine j_bI (fun v6_1 => ?_)
  refine j_istore (i := 6) (Lq := [(0, .ref (gA g 49)), (1, .int v1), (2, .int v2), (3, .int v3), (4, .int v4), (5, .int v5), (6, .int v6_1)]) X dX4_addItem_6 (by decide) rfl ?_
  refine j_aload_n (i := 0) X dX4_addItem_8 rfl rfl ?_
  refine j_get_md 18 X (by decide) wq_569 rfl dX4_addItem_9 ?_
  refine j_iload (i := 6) X dX4_addItem_12 rfl ?_
  refine j_iload_n (i := 1) X dX4_addItem_14 rfl rfl ?_
  refine j_iast X ia_61 dX4_addItem_15 (fun h_2 => ?_)
  refine j_bM (fun M_3 => ?_)
  refine j_aload_n (i := 0) X dX4_addItem_16 rfl rfl ?_
  refine j_get_md 18 X (by decide) wq_569 rfl dX4_addItem_17 ?_
  refine j_iload (i := 6) X dX4_addItem_20 rfl ?_
  refine j_iconst (v := 1) X dX4_addItem_22 rfl ?_
  refine j_iadd X dX4_addItem_23 ?_
  refine j_iload_n (i := 2) X dX4_addItem_24 rfl rfl ?_
  refine j_iast X ia_61 dX4_addItem_25 (fun h_4 => ?_)
  refine j_bM (fun M_5 => ?_)
  refine j_aload_n (i := 0) X dX4_addItem_26 rfl rfl ?_
  refine j_get_md 18 X (by decide) wq_569 rfl dX4_addItem_27 ?_
  refine j_iload (i := 6) X dX4_addItem_30 rfl ?_
  refine j_iconst (v := 2) X dX4_addItem_32 rfl ?_
  refine j_iadd X dX4_addItem_33 ?_
  refine j_iload_n (i := 3) X dX4_addItem_34 rfl rfl ?_
  refine j_iast X ia_61 dX4_addItem_35 (fun h_6 => ?_)
  refine j_bM (fun M_7 => ?_)
  refine j_aload_n (i := 0) X dX4_addItem_36 rfl rfl ?_
  refine j_get_md 18 X (by decide) wq_569 rfl dX4_addItem_37 ?_
  refine j_iload (i := 6) X dX4_addItem_40 rfl ?_
  refine j_iconst (v := 3) X dX4_addItem_42 rfl ?_
  refine j_iadd X dX4_addItem_43 ?_
  refine j_iload (i := 4) X dX4_addItem_44 rfl ?_
  refine j_iast X ia_61 dX4_addItem_46 (fun h_8 => ?_)
  refine j_bM (fun M_9 => ?_)
  refine j_aload_n (i := 0) X dX4_addItem_47 rfl rfl ?_
  refine j_get_md 18 X (by decide) wq_569 rfl dX4_addItem_48 ?_
  refine j_iload (i := 6) X dX4_addItem_51 rfl ?_
  refine j_iconst (v := 4) X dX4_addItem_53 rfl ?_
  refine j_iadd X dX4_addItem_54 ?_
  refine j_iload (i := 5) X dX4_addItem_55 rfl ?_
  refine j_iast X ia_61 dX4_addItem_57 (fun h_10 => ?_)
  refine j_bM (fun M_11 => ?_)
  refine j_aload_n (i := 0) X dX4_addItem_58 rfl rfl ?_
  refine j_dup X dX4_addItem_59 rfl ?_
  refine j_get_md 19 X (by decide) wq_568 rfl dX4_addItem_60 ?_
  refine j_iconst (v := 1) X dX4_addItem_63 rfl ?_
  refine j_iadd X dX4_addItem_64 ?_
  refine j_put_md (ty := .int) 19 X (by decide) wq_568 (fun _ => rfl) rfl (by decide +kernel) rfl rfl dX4_addItem_65 ?_
  refine j_bM (fun M_12 => ?_)
  exact j_vret X hr dX4_addItem_68
def mi_X4_addItem (v1 : Int32) (v2 : Int32) (v3 : Int32) (v4 : Int32) (v5 : Int32) (M : Mem) : Option (Mem) := pi_X4_addItem_e v1 v2 v3 v4 v5 M
theorem ct_X4_addItem (l : Launch) (g : Gh) (v1 : Int32) (v2 : Int32) (v3 : Int32) (v4 : Int32) (v5 : Int32) (M : Mem) : CtV l g yX4_addItem cX4_addItem 7 none 0 [.ref (gA g 49), .int v1, .int v2, .int v3, .int v4, .int v5] M (mi_X4_addItem v1 v2 v3 v4 v5 M) := ctV_of (own := RX4) (L := [(0, .ref (gA g 49)), (1, .int v1), (2, .int v2), (3, .int v3), (4, .int v4), (5, .int v5)]) (by decide +kernel) rfl (Nat.le_of_ble_eq_true rfl) rfl (fun p e s m args below meth c X hr => pj_X4_addItem_e X hr v1 v2 v3 v4 v5  M)

def pi_X4_kindTold_4 (rc4 : Int32 × Int32 × Mem → Option (Int32 × Mem)) (v1 : Int32) (v2 : Int32) (M : Mem) : Option (Int32 × Mem) := if 7 ≤ v2 then (some (v1, M)) else (gd (inb v2 7) <| bd (mi_X4_isWord v2.toNatClampNeg M) fun r_3 M_2 => if r_3 = 0 then (bI (v2 + 1) fun v2_4 => rc4 (v1, v2_4, M_2)) else (bI (v2 + 1) fun v2_5 => rc4 (v2, v2_5, M_2)))
set_option maxRecDepth 100000 in
set_option maxHeartbeats 4000000 in
theorem pj_X4_kindTold_4 {p : Program} {l : Launch} {e : Env} {R : Room} {s : State} {m : MethodId} {args : Array Value} {below : List Frame} {meth : Method} {c : Code} {g : Gh} (X : Cx p l e R s m args below meth c g cX4_kindTold 3 (0, 0) RX4 5) (hr : meth.sig.returnType = (some (.int))) (rc4 : Int32 × Int32 × Mem → Option (Int32 × Mem)) (hc4 : ∀ x, J p l e R s m args below meth c g 3 (0, 0) (QfI below args s g) (rc4 x) x.2.2 4 [(0, .ref (gA g 49)), (1, .int x.1), (2, .int x.2.1)] []) (v1 : Int32) (v2 : Int32) (M : Mem) : J p l e R s m args below meth c g 3 (0, 0) (QfI below args s g) (pi_X4_kindTold_4 rc4 v1 v2 M) M 4 [(0, .ref (gA g 49)), (1, .int v1), (2, .int v2)] [] := by
  unfold pi_X4_kindTold_4
  refine j_iload_n (i := 2) X dX4_kindTold_4 rfl rfl ?_
  refine j_aload_n (i := 0) X dX4_kindTold_5 rfl rfl ?_
  refine j_get_md 17 X (by decide) wq_570 rfl dX4_kindTold_6 ?_
  refine j_alen_kn X dX4_kindTold_9 ?_
  refine j_icmp_ge (tgt := 38) X dX4_kindTold_10 (by decide) ?_ ?_
  · refine j_iload_n (i := 1) X dX4_kindTold_38 rfl rfl ?_
    exact j_iret X hr dX4_kindTold_39
  · refine j_aload_n (i := 0) X dX4_kindTold_13 rfl rfl ?_
    refine j_aload_n (i := 0) X dX4_kindTold_14 rfl rfl ?_
    refine j_get_md 17 X (by decide) wq_570 rfl dX4_kindTold_15 ?_
    refine j_iload_n (i := 2) X dX4_kindTold_18 rfl rfl ?_
    refine j_ald_kn X dX4_kindTold_19 (fun h_1 => ?_)
    refine k_cVI (As := [.ref (gS g v2.toNatClampNeg)]) (rest := []) (by decide) (cf_md _) rfl X (ct_X4_isWord l g v2.toNatClampNeg (kn_in h_1) M) wl_X4_290 rfl rfl (by decide) (Nat.le_of_ble_eq_true rfl) dX4_kindTold_20 (fun r_3 M_2 => ?_)
    refine j_if_eq (tgt := 30) X dX4_kindTold_23 (by decide) ?_ ?_
    · refine j_iload_n (i := 1) X dX4_kindTold_30 rfl rfl ?_
      refine j_istore_n (i := 1) (Lq := [(0, .ref (gA g 49)), (1, .int v1), (2, .int v2)]) X dX4_kindTold_31 rfl (by decide) rfl ?_
      refine j_iincB (i := 2) (y := v2 + 1) (Lf := fun v2_4 => [(0, .ref (gA g 49)), (1, .int v1), (2, .int v2_4)]) X dX4_kindTold_32 rfl rfl (by decide) (fun _ => rfl) (fun v2_4 => ?_)
      refine j_goto (tgt := 4) X dX4_kindTold_35 (by decide) ?_
      exact hc4 (v1, v2_4, M_2)
    · refine j_iload_n (i := 2) X dX4_kindTold_26 rfl rfl ?_
      refine j_goto (tgt := 31) X dX4_kindTold_27 (by decide) ?_
      refine j_istore_n (i := 1) (Lq := [(0, .ref (gA g 49)), (1, .int v2), (2, .int v2)]) X dX4_kindTold_31 rfl (by decide) rfl ?_
      refine j_iincB (i := 2) (y := v2 + 1) (Lf := fun v2_5 => [(0, .ref (gA g 49)), (1, .int v2), (2, .int v2_5)]) X dX4_kindTold_32 rfl rfl (by decide) (fun _ => rfl) (fun v2_5 => ?_)
      refine j_goto (tgt := 4) X dX4_kindTold_35 (by decide) ?_
      exact hc4 (v2, v2_5, M_2)
def pi_X4_kindTold_e (M : Mem) : Option (Int32 × Mem) := lp (fun rc4 x => pi_X4_kindTold_4 rc4 x.1 x.2.1 x.2.2) FU ((-1), 0, M)
set_option maxRecDepth 100000 in
set_option maxHeartbeats 4000000 in
theorem pj_X4_kindTold_e {p : Program} {l : Launch} {e : Env} {R : Room} {s : State} {m : MethodId} {args : Array Value} {below : List Frame} {meth : Method} {c : Code} {g : Gh} (X : Cx p l e R s m args below meth c g cX4_kindTold 3 (0, 0) RX4 5) (hr : meth.sig.returnType = (some (.int))) (M : Mem) : J p l e R s m args below meth c g 3 (0, 0) (QfI below args s g) (pi_X4_kindTold_e M) M 0 [(0, .ref (gA g 49))] [] := by
  unfold pi_X4_kindTold_e
  refine j_iconst (v := (-1)) X dX4_kindTold_0 rfl ?_
  refine j_istore_n (i := 1) (Lq := [(0, .ref (gA g 49)), (1, .int (-1))]) X dX4_kindTold_1 rfl (by decide) rfl ?_
  refine j_iconst (v := 0) X dX4_kindTold_2 rfl ?_
  refine j_istore_n (i := 2) (Lq := [(0, .ref (gA g 49)), (1, .int (-1)), (2, .int 0)]) X dX4_kindTold_3 rfl (by decide) rfl ?_
  exact j_lp (Lf := fun x => [(0, .ref (gA g 49)), (1, .int x.1), (2, .int x.2.1)]) (Mf := fun x => x.2.2) (fun rc4 hc4 x => pj_X4_kindTold_4 X hr rc4 hc4 x.1 x.2.1 x.2.2) FU ((-1), 0, M)
def mi_X4_kindTold (M : Mem) : Option (Int32 × Mem) := pi_X4_kindTold_e  M
theorem ct_X4_kindTold (l : Launch) (g : Gh) (M : Mem) : CtI l g yX4_kindTold cX4_kindTold 3 (some (.int)) 5 [.ref (gA g 49)] M (mi_X4_kindTold  M) := ctI_of (own := RX4) (L := [(0, .ref (gA g 49))]) (by decide +kernel) rfl (Nat.le_of_ble_eq_true rfl) rfl (fun p e s m args below meth c X hr => pj_X4_kindTold_e X hr   M)

def pi_X4_afterWord_e (w1 : Nat) (v2 : Int32) (v3 : Int32) (M : Mem) : Option (Int32 × Mem) := if (M 49 16) = 0 then (bd (mi_X4_isWord w1 M) fun r_2 M_1 => if r_2 = 0 then (some (v3, M_1)) else (bv (mi_X4_must 1 M_1) fun M_3 => bd (mi_X4_number 0 v2 M_3) fun r_5 M_4 => some (r_5, M_4))) else (some (v3, M))
set_option maxRecDepth 100000 in
set_option maxHeartbeats 4000000 in
theorem pj_X4_afterWord_e {p : Program} {l : Launch} {e : Env} {R : Room} {s : State} {m : MethodId} {args : Array Value} {below : List Frame} {meth : Method} {c : Code} {g : Gh} (X : Cx p l e R s m args below meth c g cX4_afterWord 4 (0, 0) RX4 5) (hr : meth.sig.returnType = (some (.int))) (w1 : Nat) (v2 : Int32) (v3 : Int32) (hw1 : w1 < 12) (M : Mem) : J p l e R s m args below meth c g 4 (0, 0) (QfI below args s g) (pi_X4_afterWord_e w1 v2 v3 M) M 0 [(0, .ref (gA g 49)), (1, .ref (gS g w1)), (2, .int v2), (3, .int v3)] [] := by
  unfold pi_X4_afterWord_e
  refine j_aload_n (i := 0) X dX4_afterWord_0 rfl rfl ?_
  refine j_get_md 16 X (by decide) wq_559 rfl dX4_afterWord_1 ?_
  refine j_if_ne (tgt := 15) X dX4_afterWord_4 (by decide) ?_ ?_
  · refine j_aload_n (i := 0) X dX4_afterWord_7 rfl rfl ?_
    refine j_aload_n (i := 1) X dX4_afterWord_8 rfl rfl ?_
    refine k_cVI (As := [.ref (gS g w1)]) (rest := []) (by decide) (cf_md _) rfl X (ct_X4_isWord l g w1 hw1 M) wl_X4_290 rfl rfl (by decide) (Nat.le_of_ble_eq_true rfl) dX4_afterWord_9 (fun r_2 M_1 => ?_)
    refine j_if_ne (tgt := 17) X dX4_afterWord_12 (by decide) ?_ ?_
    · refine j_iload_n (i := 3) X dX4_afterWord_15 rfl rfl ?_
      exact j_iret X hr dX4_afterWord_16
    · refine j_aload_n (i := 0) X dX4_afterWord_17 rfl rfl ?_
      refine j_iconst (v := 1) X dX4_afterWord_18 rfl ?_
      refine k_cVV (As := [.int 1]) (rest := []) (by decide) (cf_md _) rfl X (ct_X4_must l g 1 M_1) wl_X4_283 rfl rfl (by decide) (Nat.le_of_ble_eq_true rfl) dX4_afterWord_19 (fun M_3 => ?_)
      refine j_aload_n (i := 0) X dX4_afterWord_22 rfl rfl ?_
      refine j_iconst (v := 0) X dX4_afterWord_23 rfl ?_
      refine j_iload_n (i := 2) X dX4_afterWord_24 rfl rfl ?_
      refine k_cVI (As := [.int 0, .int v2]) (rest := []) (by decide) (cf_md _) rfl X (ct_X4_number l g 0 v2 M_3) wl_X4_294 rfl rfl (by decide) (Nat.le_of_ble_eq_true rfl) dX4_afterWord_25 (fun r_5 M_4 => ?_)
      exact j_iret X hr dX4_afterWord_28
  · refine j_iload_n (i := 3) X dX4_afterWord_15 rfl rfl ?_
    exact j_iret X hr dX4_afterWord_16
def mi_X4_afterWord (w1 : Nat) (v2 : Int32) (v3 : Int32) (M : Mem) : Option (Int32 × Mem) := pi_X4_afterWord_e w1 v2 v3 M
theorem ct_X4_afterWord (l : Launch) (g : Gh) (w1 : Nat) (v2 : Int32) (v3 : Int32) (hw1 : w1 < 12) (M : Mem) : CtI l g yX4_afterWord cX4_afterWord 4 (some (.int)) 5 [.ref (gA g 49), .ref (gS g w1), .int v2, .int v3] M (mi_X4_afterWord w1 v2 v3 M) := ctI_of (own := RX4) (L := [(0, .ref (gA g 49)), (1, .ref (gS g w1)), (2, .int v2), (3, .int v3)]) (by decide +kernel) rfl (Nat.le_of_ble_eq_true rfl) rfl (fun p e s m args below meth c X hr => pj_X4_afterWord_e X hr w1 v2 v3 hw1 M)
