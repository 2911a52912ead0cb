def pi_X3_write_e (v1 : Int32) (v2 : Int32) (v3 : Int32) (M : Mem) : Option (Int32 × Mem) := bd (mi_X3_wrongWithSheet v1 M) fun r_2 M_1 => if r_2 < 0 then (gd (inb v1 4) <| bd (mi_X3_isOutside v2 0 ((M_1 (40 + 2 * v1.toNatClampNeg) 1) - 1) M_1) fun r_5 M_4 => if r_5 = 0 then (gd (inb v1 4) <| bv (mi_X1_put (40 + 2 * v1.toNatClampNeg) v2 v3 M_4) fun M_7 => some (1, M_7)) else (bd (mi_X3_finding 0 M_4) fun r_9 M_8 => some (r_9, M_8))) else (bd (mi_X3_finding r_2 M_1) fun r_11 M_10 => some (r_11, M_10))
set_option maxRecDepth 100000 in
set_option maxHeartbeats 4000000 in
theorem pj_X3_write_e {p : Program} {l : Launch} {e : Env} {R : Room} {s : State} {m : MethodId} {args : Array Value} {below : List Frame} {meth : Method} {c : Code} {g : Gh} (X : Cx p l e R s m args below meth c g cX3_write 5 (0, 0) RX3 3) (hr : meth.sig.returnType = (some (.int))) (v1 : Int32) (v2 : Int32) (v3 : Int32) (M : Mem) : J p l e R s m args below meth c g 5 (0, 0) (QfI below args s g) (pi_X3_write_e v1 v2 v3 M) M 0 [(0, .ref (gA g 0)), (1, .int v1), (2, .int v2), (3, .int v3)] [] := by
  unfold pi_X3_write_e
  refine j_aload_n (i := 0) X dX3_write_0 rfl rfl ?_
  refine j_iload_n (i := 1) X dX3_write_1 rfl rfl ?_
  refine k_cVI (As := [.int v1]) (rest := []) (by decide) (cf_hd _) rfl X (ct_X3_wrongWithSheet l g v1 M) wl_X3_218 rfl rfl (by decide) (Nat.le_of_ble_eq_true rfl) dX3_write_2 (fun r_2 M_1 => ?_)
  refine j_istore (i := 4) (Lq := [(0, .ref (gA g 0)), (1, .int v1), (2, .int v2), (3, .int v3), (4, .int r_2)]) X dX3_write_5 (by decide) rfl ?_
  refine j_iload (i := 4) X dX3_write_7 rfl ?_
  refine j_if_lt (tgt := 19) X dX3_write_9 (by decide) ?_ ?_
  · refine j_iload_n (i := 2) X dX3_write_19 rfl rfl ?_
    refine j_iconst (v := 0) X dX3_write_20 rfl ?_
    refine j_aload_n (i := 0) X dX3_write_21 rfl rfl ?_
    refine j_get_hd 5 X (by decide) wq_284 rfl dX3_write_22 ?_
    refine j_iload_n (i := 1) X dX3_write_25 rfl rfl ?_
    refine j_ald_sht X dX3_write_26 (fun h_3 => ?_)
    refine j_getN_st (st_in h_3) 1 X (by decide) (by decide +kernel) rfl dX3_write_27 ?_
    refine j_iconst (v := 1) X dX3_write_30 rfl ?_
    refine j_isub X dX3_write_31 ?_
    refine k_cSI (As := [.int v2, .int 0, .int ((M_1 (40 + 2 * v1.toNatClampNeg) 1) - 1)]) (rest := []) X (ct_X3_isOutside l g v2 0 ((M_1 (40 + 2 * v1.toNatClampNeg) 1) - 1) M_1) wl_X3_40 rfl rfl (by decide) (Nat.le_of_ble_eq_true rfl) dX3_write_32 (fun r_5 M_4 => ?_)
    refine j_if_eq (tgt := 44) X dX3_write_35 (by decide) ?_ ?_
    · refine j_aload_n (i := 0) X dX3_write_44 rfl rfl ?_
      refine j_get_hd 5 X (by decide) wq_284 rfl dX3_write_45 ?_
      refine j_iload_n (i := 1) X dX3_write_48 rfl rfl ?_
      refine j_ald_sht X dX3_write_49 (fun h_6 => ?_)
      refine j_iload_n (i := 2) X dX3_write_50 rfl rfl ?_
      refine j_iload_n (i := 3) X dX3_write_51 rfl rfl ?_
      refine k_cVV (As := [.int v2, .int v3]) (rest := []) (st_in h_6).lt (cf_st (st_in h_6) _) rfl X (ct_X1_put l g (40 + 2 * v1.toNatClampNeg) v2 v3 (st_in h_6) M_4) wl_X3_221 rfl rfl (by decide) (Nat.le_of_ble_eq_true rfl) dX3_write_52 (fun M_7 => ?_)
      refine j_iconst (v := 1) X dX3_write_55 rfl ?_
      exact j_iret X hr dX3_write_56
    · refine j_aload_n (i := 0) X dX3_write_38 rfl rfl ?_
      refine j_iconst (v := 0) X dX3_write_39 rfl ?_
      refine k_cVI (As := [.int 0]) (rest := []) (by decide) (cf_hd _) rfl X (ct_X3_finding l g 0 M_4) wl_X3_44 rfl rfl (by decide) (Nat.le_of_ble_eq_true rfl) dX3_write_40 (fun r_9 M_8 => ?_)
      exact j_iret X hr dX3_write_43
  · refine j_aload_n (i := 0) X dX3_write_12 rfl rfl ?_
    refine j_iload (i := 4) X dX3_write_13 rfl ?_
    refine k_cVI (As := [.int r_2]) (rest := []) (by decide) (cf_hd _) rfl X (ct_X3_finding l g r_2 M_1) wl_X3_44 rfl rfl (by decide) (Nat.le_of_ble_eq_true rfl) dX3_write_15 (fun r_11 M_10 => ?_)
    exact j_iret X hr dX3_write_18
def mi_X3_write (v1 : Int32) (v2 : Int32) (v3 : Int32) (M : Mem) : Option (Int32 × Mem) := pi_X3_write_e v1 v2 v3 M
theorem ct_X3_write (l : Launch) (g : Gh) (v1 : Int32) (v2 : Int32) (v3 : Int32) (M : Mem) : CtI l g yX3_write cX3_write 5 (some (.int)) 3 [.ref (gA g 0), .int v1, .int v2, .int v3] M (mi_X3_write v1 v2 v3 M) := ctI_of (own := RX3) (L := [(0, .ref (gA g 0)), (1, .int v1), (2, .int v2), (3, .int v3)]) (by decide +kernel) rfl (Nat.le_of_ble_eq_true rfl) rfl (fun p e s m args below meth c X hr => pj_X3_write_e X hr v1 v2 v3  M)

def pi_X3_copy_100 (v1 : Int32) (v2 : Int32) (v3 : Int32) (v4 : Int32) (v5 : Int32) (M : Mem) : Option (Int32 × Mem) := bd (mi_X3_finding 0 M) fun r_14 M_13 => some (r_14, M_13)
set_option maxRecDepth 100000 in
set_option maxHeartbeats 4000000 in
theorem pj_X3_copy_100 {p : Program} {l : Launch} {e : Env} {R : Room} {s : State} {m : MethodId} {args : Array Value} {below : List Frame} {meth : Method} {c : Code} {g : Gh} (X : Cx p l e R s m args below meth c g cX3_copy 8 (0, 0) RX3 2) (hr : meth.sig.returnType = (some (.int))) (v1 : Int32) (v2 : Int32) (v3 : Int32) (v4 : Int32) (v5 : Int32) (M : Mem) : J p l e R s m args below meth c g 8 (0, 0) (QfI below args s g) (pi_X3_copy_100 v1 v2 v3 v4 v5 M) M 100 [(0, .ref (gA g 0)), (1, .int v1), (2, .int v2), (3, .int v3), (4, .int v4), (5, .int v5)] [] := by
  unfold pi_X3_copy_100
  refine j_aload_n (i := 0) X dX3_copy_100 rfl rfl ?_
  refine j_iconst (v := 0) X dX3_copy_101 rfl ?_
  refine k_cVI (As := [.int 0]) (rest := []) (by decide) (cf_hd _) rfl X (ct_X3_finding l g 0 M) wl_X3_44 rfl rfl (by decide) (Nat.le_of_ble_eq_true rfl) dX3_copy_102 (fun r_14 M_13 => ?_)
  exact j_iret X hr dX3_copy_105
def pi_X3_copy_52 (v1 : Int32) (v2 : Int32) (v3 : Int32) (v4 : Int32) (v5 : Int32) (M : Mem) : Option (Int32 × Mem) := bd (mi_X3_finding 5 M) fun r_21 M_20 => some (r_21, M_20)
set_option maxRecDepth 100000 in
set_option maxHeartbeats 4000000 in
theorem pj_X3_copy_52 {p : Program} {l : Launch} {e : Env} {R : Room} {s : State} {m : MethodId} {args : Array Value} {below : List Frame} {meth : Method} {c : Code} {g : Gh} (X : Cx p l e R s m args below meth c g cX3_copy 8 (0, 0) RX3 2) (hr : meth.sig.returnType = (some (.int))) (v1 : Int32) (v2 : Int32) (v3 : Int32) (v4 : Int32) (v5 : Int32) (M : Mem) : J p l e R s m args below meth c g 8 (0, 0) (QfI below args s g) (pi_X3_copy_52 v1 v2 v3 v4 v5 M) M 52 [(0, .ref (gA g 0)), (1, .int v1), (2, .int v2), (3, .int v3), (4, .int v4), (5, .int v5)] [] := by
  unfold pi_X3_copy_52
  refine j_aload_n (i := 0) X dX3_copy_52 rfl rfl ?_
  refine j_iconst (v := 5) X dX3_copy_53 rfl ?_
  refine k_cVI (As := [.int 5]) (rest := []) (by decide) (cf_hd _) rfl X (ct_X3_finding l g 5 M) wl_X3_44 rfl rfl (by decide) (Nat.le_of_ble_eq_true rfl) dX3_copy_54 (fun r_21 M_20 => ?_)
  exact j_iret X hr dX3_copy_57
def pi_X3_copy_14 (v1 : Int32) (v2 : Int32) (v3 : Int32) (v4 : Int32) (v5 : Int32) (M : Mem) : Option (Int32 × Mem) := bd (mi_X3_finding 0 M) fun r_23 M_22 => some (r_23, M_22)
set_option maxRecDepth 100000 in
set_option maxHeartbeats 4000000 in
theorem pj_X3_copy_14 {p : Program} {l : Launch} {e : Env} {R : Room} {s : State} {m : MethodId} {args : Array Value} {below : List Frame} {meth : Method} {c : Code} {g : Gh} (X : Cx p l e R s m args below meth c g cX3_copy 8 (0, 0) RX3 2) (hr : meth.sig.returnType = (some (.int))) (v1 : Int32) (v2 : Int32) (v3 : Int32) (v4 : Int32) (v5 : Int32) (M : Mem) : J p l e R s m args below meth c g 8 (0, 0) (QfI below args s g) (pi_X3_copy_14 v1 v2 v3 v4 v5 M) M 14 [(0, .ref (gA g 0)), (1, .int v1), (2, .int v2), (3, .int v3), (4, .int v4), (5, .int v5)] [] := by
  unfold pi_X3_copy_14
  refine j_aload_n (i := 0) X dX3_copy_14 rfl rfl ?_
  refine j_iconst (v := 0) X dX3_copy_15 rfl ?_
  refine k_cVI (As := [.int 0]) (rest := []) (by decide) (cf_hd _) rfl X (ct_X3_finding l g 0 M) wl_X3_44 rfl rfl (by decide) (Nat.le_of_ble_eq_true rfl) dX3_copy_16 (fun r_23 M_22 => ?_)
  exact j_iret X hr dX3_copy_19
def pi_X3_copy_e (v1 : Int32) (v2 : Int32) (v3 : Int32) (v4 : Int32) (v5 : Int32) (M : Mem) : Option (Int32 × Mem) := bd (mi_X3_isNoSheet v1 M) fun r_2 M_1 => if r_2 = 0 then (bd (mi_X3_isNoSheet v3 M_1) fun r_4 M_3 => if r_4 = 0 then (gd (inb v1 4) <| gd (inb v3 4) <| bd (mi_X1_isMissing (40 + 2 * v1.toNatClampNeg) M_3) fun r_8 M_7 => if r_8 = 0 then (bd (mi_X1_isMissing (40 + 2 * v3.toNatClampNeg) M_7) fun r_10 M_9 => if r_10 = 0 then (if (M_9 (40 + 2 * v1.toNatClampNeg) 0) = (M_9 (40 + 2 * v3.toNatClampNeg) 0) then (bd (mi_X1_reaches (40 + 2 * v1.toNatClampNeg) v2 v5 M_9) fun r_12 M_11 => if r_12 = 0 then (pi_X3_copy_100 v1 v2 v3 v4 v5 M_11) else (bd (mi_X1_reaches (40 + 2 * v3.toNatClampNeg) v4 v5 M_11) fun r_16 M_15 => if r_16 = 0 then (pi_X3_copy_100 v1 v2 v3 v4 v5 M_15) else (gd (cpo v2 v4 v5 40 40) <| bM (upA M_15 (40 + 2 * v3.toNatClampNeg + 1) (va_cpy (M_15 (40 + 2 * v1.toNatClampNeg + 1)) (M_15 (40 + 2 * v3.toNatClampNeg + 1)) v2.toNatClampNeg v4.toNatClampNeg v5.toNatClampNeg)) fun M_17 => some (v5, M_17)))) else (bd (mi_X3_finding 2 M_9) fun r_19 M_18 => some (r_19, M_18))) else (pi_X3_copy_52 v1 v2 v3 v4 v5 M_9)) else (pi_X3_copy_52 v1 v2 v3 v4 v5 M_7)) else (pi_X3_copy_14 v1 v2 v3 v4 v5 M_3)) else (pi_X3_copy_14 v1 v2 v3 v4 v5 M_1)
set_option maxRecDepth 100000 in
set_option maxHeartbeats 4000000 in
theorem pj_X3_copy_e {p : Program} {l : Launch} {e : Env} {R : Room} {s : State} {m : MethodId} {args : Array Value} {below : List Frame} {meth : Method} {c : Code} {g : Gh} (X : Cx p l e R s m args below meth c g cX3_copy 8 (0, 0) RX3 2) (hr : meth.sig.returnType = (some (.int))) (v1 : Int32) (v2 : Int32) (v3 : Int32) (v4 : Int32) (v5 : Int32) (M : Mem) : J p l e R s m args below meth c g 8 (0, 0) (QfI below args s g) (pi_X3_copy_e v1 v2 v3 v4 v5 M) M 0 [(0, .ref (gA g 0)), (1, .int v1), (2, .int v2), (3, .int v3), (4, .int v4), (5, .int v5)] [] := by
  unfold pi_X3_copy_e
  refine j_iload_n (i := 1) X dX3_copy_0 rfl rfl ?_
  refine k_cSI (As := [.int v1]) (rest := []) X (ct_X3_isNoSheet l g v1 M) wl_X3_210 rfl rfl (by decide) (Nat.le_of_ble_eq_true rfl) dX3_copy_1 (fun r_2 M_1 => ?_)
  refine j_if_ne (tgt := 14) X dX3_copy_4 (by decide) ?_ ?_
  · refine j_iload_n (i := 3) X dX3_copy_7 rfl rfl ?_
    refine k_cSI (As := [.int v3]) (rest := []) X (ct_X3_isNoSheet l g v3 M_1) wl_X3_210 rfl rfl (by decide) (Nat.le_of_ble_eq_true rfl) dX3_copy_8 (fun r_4 M_3 => ?_)
    refine j_if_eq (tgt := 20) X dX3_copy_11 (by decide) ?_ ?_
    · refine j_aload_n (i := 0) X dX3_copy_20 rfl rfl ?_
      refine j_get_hd 5 X (by decide) wq_284 rfl dX3_copy_21 ?_
      refine j_iload_n (i := 1) X dX3_copy_24 rfl rfl ?_
      refine j_ald_sht X dX3_copy_25 (fun h_5 => ?_)
      refine j_astore (i := 6) (Lq := [(0, .ref (gA g 0)), (1, .int v1), (2, .int v2), (3, .int v3), (4, .int v4), (5, .int v5), (6, .ref (gA g (40 + 2 * v1.toNatClampNeg)))]) X dX3_copy_26 (by decide) rfl ?_
      refine j_aload_n (i := 0) X dX3_copy_28 rfl rfl ?_
      refine j_get_hd 5 X (by decide) wq_284 rfl dX3_copy_29 ?_
      refine j_iload_n (i := 3) X dX3_copy_32 rfl rfl ?_
      refine j_ald_sht X dX3_copy_33 (fun h_6 => ?_)
      refine j_astore (i := 7) (Lq := [(0, .ref (gA g 0)), (1, .int v1), (2, .int v2), (3, .int v3), (4, .int v4), (5, .int v5), (6, .ref (gA g (40 + 2 * v1.toNatClampNeg))), (7, .ref (gA g (40 + 2 * v3.toNatClampNeg)))]) X dX3_copy_34 (by decide) rfl ?_
      refine j_aload (i := 6) X dX3_copy_36 rfl ?_
      refine k_cVI (As := []) (rest := []) (st_in h_5).lt (cf_st (st_in h_5) _) rfl X (ct_X1_isMissing l g (40 + 2 * v1.toNatClampNeg) (st_in h_5) M_3) wl_X3_224 rfl rfl (by decide) (Nat.le_of_ble_eq_true rfl) dX3_copy_38 (fun r_8 M_7 => ?_)
      refine j_if_ne (tgt := 52) X dX3_copy_41 (by decide) ?_ ?_
      · refine j_aload (i := 7) X dX3_copy_44 rfl ?_
        refine k_cVI (As := []) (rest := []) (st_in h_6).lt (cf_st (st_in h_6) _) rfl X (ct_X1_isMissing l g (40 + 2 * v3.toNatClampNeg) (st_in h_6) M_7) wl_X3_224 rfl rfl (by decide) (Nat.le_of_ble_eq_true rfl) dX3_copy_46 (fun r_10 M_9 => ?_)
        refine j_if_eq (tgt := 58) X dX3_copy_49 (by decide) ?_ ?_
        · refine j_aload (i := 6) X dX3_copy_58 rfl ?_
          refine j_getN_st (st_in h_5) 0 X (by decide) (by decide +kernel) rfl dX3_copy_60 ?_
          refine j_aload (i := 7) X dX3_copy_63 rfl ?_
          refine j_getN_st (st_in h_6) 0 X (by decide) (by decide +kernel) rfl dX3_copy_65 ?_
          refine j_icmp_eq (tgt := 77) X dX3_copy_68 (by decide) ?_ ?_
          · refine j_aload (i := 6) X dX3_copy_77 rfl ?_
            refine j_iload_n (i := 2) X dX3_copy_79 rfl rfl ?_
            refine j_iload (i := 5) X dX3_copy_80 rfl ?_
            refine k_cVI (As := [.int v2, .int v5]) (rest := []) (st_in h_5).lt (cf_st (st_in h_5) _) rfl X (ct_X1_reaches l g (40 + 2 * v1.toNatClampNeg) v2 v5 (st_in h_5) M_9) wl_X3_230 rfl rfl (by decide) (Nat.le_of_ble_eq_true rfl) dX3_copy_82 (fun r_12 M_11 => ?_)
            refine j_if_eq (tgt := 100) X dX3_copy_85 (by decide) ?_ ?_
            · refine j_pick [0, 1, 2, 3, 4, 5] (Lq := [(0, .ref (gA g 0)), (1, .int v1), (2, .int v2), (3, .int v3), (4, .int v4), (5, .int v5)]) rfl ?_
              exact pj_X3_copy_100 X hr v1 v2 v3 v4 v5 M_11
            · refine j_aload (i := 7) X dX3_copy_88 rfl ?_
              refine j_iload (i := 4) X dX3_copy_90 rfl ?_
              refine j_iload (i := 5) X dX3_copy_92 rfl ?_
              refine k_cVI (As := [.int v4, .int v5]) (rest := []) (st_in h_6).lt (cf_st (st_in h_6) _) rfl X (ct_X1_reaches l g (40 + 2 * v3.toNatClampNeg) v4 v5 (st_in h_6) M_11) wl_X3_230 rfl rfl (by decide) (Nat.le_of_ble_eq_true rfl) dX3_copy_94 (fun r_16 M_15 => ?_)
              refine j_if_ne (tgt := 106) X dX3_copy_97 (by decide) ?_ ?_
              · refine j_pick [0, 1, 2, 3, 4, 5] (Lq := [(0, .ref (gA g 0)), (1, .int v1), (2, .int v2), (3, .int v3), (4, .int v4), (5, .int v5)]) rfl ?_
                exact pj_X3_copy_100 X hr v1 v2 v3 v4 v5 M_15
              · refine j_aload (i := 6) X dX3_copy_106 rfl ?_
                refine j_getN_st (st_in h_5) 2 X (by decide) (by decide +kernel) rfl dX3_copy_108 ?_
                refine j_iload_n (i := 2) X dX3_copy_111 rfl rfl ?_
                refine j_aload (i := 7) X dX3_copy_112 rfl ?_
                refine j_getN_st (st_in h_6) 2 X (by decide) (by decide +kernel) rfl dX3_copy_114 ?_
                refine j_iload (i := 4) X dX3_copy_117 rfl ?_
                refine j_iload (i := 5) X dX3_copy_119 rfl ?_
                refine j_acopy X wa_X3_236 wa_2 wa_3 wa_4 (ia_st (st_in h_5)) (ia_st (st_in h_6)) (by decide) (Nat.le_of_ble_eq_true rfl) dX3_copy_121 ?_
                refine j_bM (fun M_17 => ?_)
                refine j_iload (i := 5) X dX3_copy_124 rfl ?_
                exact j_iret X hr dX3_copy_126
          · refine j_aload_n (i := 0) X dX3_copy_71 rfl rfl ?_
            refine j_iconst (v := 2) X dX3_copy_72 rfl ?_
            refine k_cVI (As := [.int 2]) (rest := []) (by decide) (cf_hd _) rfl X (ct_X3_finding l g 2 M_9) wl_X3_44 rfl rfl (by decide) (Nat.le_of_ble_eq_true rfl) dX3_copy_73 (fun r_19 M_18 => ?_)
            exact j_iret X hr dX3_copy_76
        · refine j_pick [0, 1, 2, 3, 4, 5] (Lq := [(0, .ref (gA g 0)), (1, .int v1), (2, .int v2), (3, .int v3), (4, .int v4), (5, .int v5)]) rfl ?_
          exact pj_X3_copy_52 X hr v1 v2 v3 v4 v5 M_9
      · refine j_pick [0, 1, 2, 3, 4, 5] (Lq := [(0, .ref (gA g 0)), (1, .int v1), (2, .int v2), (3, .int v3), (4, .int v4), (5, .int v5)]) rfl ?_
        exact pj_X3_copy_52 X hr v1 v2 v3 v4 v5 M_7
    · exact pj_X3_copy_14 X hr v1 v2 v3 v4 v5 M_3
  · exact pj_X3_copy_14 X hr v1 v2 v3 v4 v5 M_1
def mi_X3_copy (v1 : Int32) (v2 : Int32) (v3 : Int32) (v4 : Int32) (v5 : Int32) (M : Mem) : Option (Int32 × Mem) := pi_X3_copy_e v1 v2 v3 v4 v5 M
theorem ct_X3_copy (l : Launch) (g : Gh) (v1 : Int32) (v2 : Int32) (v3 : Int32) (v4 : Int32) (v5 : Int32) (M : Mem) : CtI l g yX3_copy cX3_copy 8 (some (.int)) 2 [.ref (gA g 0), .int v1, .int v2, .int v3, .int v4, .int v5] M (mi_X3_copy v1 v2 v3 v4 v5 M) := ctI_of (own := RX3) (L := [(0, .ref (gA g 0)), (1, .int v1), (2, .int v2), (3, .int v3), (4, .int v4), (5, .int v5)]) (by decide +kernel) rfl (Nat.le_of_ble_eq_true rfl) rfl (fun p e s m args below meth c X hr => pj_X3_copy_e X hr v1 v2 v3 v4 v5  M)

def pi_X3_load_26 (v1 : Int32) (b3 : Nat) (rc26 : Int32 × Mem → Option (Int32 × Mem)) (v4 : Int32) (M : Mem) : Option (Int32 × Mem) := if (M b3 1) ≤ v4 then (some (v4, M)) else (bd (mi_X2_lacks 1 v4 M) fun r_5 M_4 => if r_5 = 0 then (gd (inb v4 40) <| bd (mi_X3_isOutside (M_4 (b3 + 1) v4.toNatClampNeg) 0 99 M_4) fun r_8 M_7 => if r_8 = 0 then (gd (inb v4 40) <| bv (mi_X2_setTrait 1 v4 4 (M_7 (b3 + 1) v4.toNatClampNeg) M_7) fun M_10 => bI (v4 + 1) fun v4_11 => rc26 (v4_11, M_10)) else (some (v4, M_7))) else (some (v4, M_4)))
set_option maxRecDepth 100000 in
set_option maxHeartbeats 4000000 in
theorem pj_X3_load_26 {p : Program} {l : Launch} {e : Env} {R : Room} {s : State} {m : MethodId} {args : Array Value} {below : List Frame} {meth : Method} {c : Code} {g : Gh} (X : Cx p l e R s m args below meth c g cX3_load 5 (0, 0) RX3 3) (hr : meth.sig.returnType = (some (.int))) (v1 : Int32) (b3 : Nat) (hb3 : isSt b3) (rc26 : Int32 × Mem → Option (Int32 × Mem)) (hc26 : ∀ x, J p l e R s m args below meth c g 5 (0, 0) (QfI below args s g) (rc26 x) x.2 26 [(0, .ref (gA g 0)), (1, .int v1), (3, .ref (gA g b3)), (4, .int x.1)] []) (v4 : Int32) (M : Mem) : J p l e R s m args below meth c g 5 (0, 0) (QfI below args s g) (pi_X3_load_26 v1 b3 rc26 v4 M) M 26 [(0, .ref (gA g 0)), (1, .int v1), (3, .ref (gA g b3)), (4, .int v4)] [] := by
  unfold pi_X3_load_26
  refine j_iload (i := 4) X dX3_load_26 rfl ?_
  refine j_aload_n (i := 3) X dX3_load_28 rfl rfl ?_
  refine j_getN_st hb3 1 X (by decide) (by decide +kernel) rfl dX3_load_29 ?_
  refine j_icmp_ge (tgt := 86) X dX3_load_32 (by decide) ?_ ?_
  · refine j_iload (i := 4) X dX3_load_86 rfl ?_
    exact j_iret X hr dX3_load_88
  · refine j_aload_n (i := 0) X dX3_load_35 rfl rfl ?_
    refine j_get_hd 0 X (by decide) wq_172 rfl dX3_load_36 ?_
    refine j_iload (i := 4) X dX3_load_39 rfl ?_
    refine k_cVI (As := [.int v4]) (rest := []) sh_1.lt (cf_sh sh_1 _) rfl X (ct_X2_lacks l g 1 v4 sh_1 M) wl_X3_64 rfl rfl (by decide) (Nat.le_of_ble_eq_true rfl) dX3_load_41 (fun r_5 M_4 => ?_)
    refine j_if_ne (tgt := 86) X dX3_load_44 (by decide) ?_ ?_
    · refine j_aload_n (i := 3) X dX3_load_47 rfl rfl ?_
      refine j_getN_st hb3 2 X (by decide) (by decide +kernel) rfl dX3_load_48 ?_
      refine j_iload (i := 4) X dX3_load_51 rfl ?_
      refine j_iald X (ia_st hb3) dX3_load_53 (fun h_6 => ?_)
      refine j_iconst (v := 0) X dX3_load_54 rfl ?_
      refine j_bipush (v := 99) X dX3_load_55 rfl ?_
      refine k_cSI (As := [.int (M_4 (b3 + 1) v4.toNatClampNeg), .int 0, .int 99]) (rest := []) X (ct_X3_isOutside l g (M_4 (b3 + 1) v4.toNatClampNeg) 0 99 M_4) wl_X3_40 rfl rfl (by decide) (Nat.le_of_ble_eq_true rfl) dX3_load_57 (fun r_8 M_7 => ?_)
      refine j_if_ne (tgt := 86) X dX3_load_60 (by decide) ?_ ?_
      · refine j_aload_n (i := 0) X dX3_load_63 rfl rfl ?_
        refine j_get_hd 0 X (by decide) wq_172 rfl dX3_load_64 ?_
        refine j_iload (i := 4) X dX3_load_67 rfl ?_
        refine j_iconst (v := 4) X dX3_load_69 rfl ?_
        refine j_aload_n (i := 3) X dX3_load_70 rfl rfl ?_
        refine j_getN_st hb3 2 X (by decide) (by decide +kernel) rfl dX3_load_71 ?_
        refine j_iload (i := 4) X dX3_load_74 rfl ?_
        refine j_iald X (ia_st hb3) dX3_load_76 (fun h_9 => ?_)
        refine k_cVV (As := [.int v4, .int 4, .int (M_7 (b3 + 1) v4.toNatClampNeg)]) (rest := []) sh_1.lt (cf_sh sh_1 _) rfl X (ct_X2_setTrait l g 1 v4 4 (M_7 (b3 + 1) v4.toNatClampNeg) sh_1 M_7) wl_X3_88 rfl rfl (by decide) (Nat.le_of_ble_eq_true rfl) dX3_load_77 (fun M_10 => ?_)
        refine j_iincB (i := 4) (y := v4 + 1) (Lf := fun v4_11 => [(0, .ref (gA g 0)), (1, .int v1), (3, .ref (gA g b3)), (4, .int v4_11)]) X dX3_load_80 rfl rfl (by decide) (fun _ => rfl) (fun v4_11 => ?_)
        refine j_goto (tgt := 26) X dX3_load_83 (by decide) ?_
        exact hc26 (v4_11, M_10)
      · refine j_iload (i := 4) X dX3_load_86 rfl ?_
        exact j_iret X hr dX3_load_88
    · refine j_iload (i := 4) X dX3_load_86 rfl ?_
      exact j_iret X hr dX3_load_88
def pi_X3_load_e (v1 : Int32) (M : Mem) : Option (Int32 × Mem) := bd (mi_X3_wrongWithSheet v1 M) fun r_2 M_1 => if r_2 < 0 then (gd (inb v1 4) <| lp (fun rc26 x => pi_X3_load_26 v1 (40 + 2 * v1.toNatClampNeg) rc26 x.1 x.2) FU (0, M_1)) else (bd (mi_X3_finding r_2 M_1) fun r_13 M_12 => some (r_13, M_12))
set_option maxRecDepth 100000 in
set_option maxHeartbeats 4000000 in
theorem pj_X3_load_e {p : Program} {l : Launch} {e : Env} {R : Room} {s : State} {m : MethodId} {args : Array Value} {below : List Frame} {meth : Method} {c : Code} {g : Gh} (X : Cx p l e R s m args below meth c g cX3_load 5 (0, 0) RX3 3) (hr : meth.sig.returnType = (some (.int))) (v1 : Int32) (M : Mem) : J p l e R s m args below meth c g 5 (0, 0) (QfI below args s g) (pi_X3_load_e v1 M) M 0 [(0, .ref (gA g 0)), (1, .int v1)] [] := by
  unfold pi_X3_load_e
  refine j_aload_n (i := 0) X dX3_load_0 rfl rfl ?_
  refine j_iload_n (i := 1) X dX3_load_1 rfl rfl ?_
  refine k_cVI (As := [.int v1]) (rest := []) (by decide) (cf_hd _) rfl X (ct_X3_wrongWithSheet l g v1 M) wl_X3_218 rfl rfl (by decide) (Nat.le_of_ble_eq_true rfl) dX3_load_2 (fun r_2 M_1 => ?_)
  refine j_istore_n (i := 2) (Lq := [(0, .ref (gA g 0)), (1, .int v1), (2, .int r_2)]) X dX3_load_5 rfl (by decide) rfl ?_
  refine j_iload_n (i := 2) X dX3_load_6 rfl rfl ?_
  refine j_if_lt (tgt := 16) X dX3_load_7 (by decide) ?_ ?_
  · refine j_aload_n (i := 0) X dX3_load_16 rfl rfl ?_
    refine j_get_hd 5 X (by decide) wq_284 rfl dX3_load_17 ?_
    refine j_iload_n (i := 1) X dX3_load_20 rfl rfl ?_
    refine j_ald_sht X dX3_load_21 (fun h_3 => ?_)
    refine j_astore_n (i := 3) (Lq := [(0, .ref (gA g 0)), (1, .int v1), (2, .int r_2), (3, .ref (gA g (40 + 2 * v1.toNatClampNeg)))]) X dX3_load_22 rfl (by decide) rfl ?_
    refine j_iconst (v := 0) X dX3_load_23 rfl ?_
    refine j_istore (i := 4) (Lq := [(0, .ref (gA g 0)), (1, .int v1), (2, .int r_2), (3, .ref (gA g (40 + 2 * v1.toNatClampNeg))), (4, .int 0)]) X dX3_load_24 (by decide) rfl ?_
    refine j_pick [0, 1, 3, 4] (Lq := [(0, .ref (gA g 0)), (1, .int v1), (3, .ref (gA g (40 + 2 * v1.toNatClampNeg))), (4, .int 0)]) rfl ?_
    exact j_lp (Lf := fun x => [(0, .ref (gA g 0)), (1, .int v1), (3, .ref (gA g (40 + 2 * v1.toNatClampNeg))), (4, .int x.1)]) (Mf := fun x => x.2) (fun rc26 hc26 x => pj_X3_load_26 X hr v1 (40 + 2 * v1.toNatClampNeg) (st_in h_3) rc26 hc26 x.1 x.2) FU (0, M_1)
  · refine j_aload_n (i := 0) X dX3_load_10 rfl rfl ?_
    refine j_iload_n (i := 2) X dX3_load_11 rfl rfl ?_
    refine k_cVI (As := [.int r_2]) (rest := []) (by decide) (cf_hd _) rfl X (ct_X3_finding l g r_2 M_1) wl_X3_44 rfl rfl (by decide) (Nat.le_of_ble_eq_true rfl) dX3_load_12 (fun r_13 M_12 => ?_)
    exact j_iret X hr dX3_load_15
def mi_X3_load (v1 : Int32) (M : Mem) : Option (Int32 × Mem) := pi_X3_load_e v1 M
theorem ct_X3_load (l : Launch) (g : Gh) (v1 : Int32) (M : Mem) : CtI l g yX3_load cX3_load 5 (some (.int)) 3 [.ref (gA g 0), .int v1] M (mi_X3_load v1 M) := ctI_of (own := RX3) (L := [(0, .ref (gA g 0)), (1, .int v1)]) (by decide +kernel) rfl (Nat.le_of_ble_eq_true rfl) rfl (fun p e s m args below meth c X hr => pj_X3_load_e X hr v1  M)

def pi_X3_judge_26 (v1 : Int32) (b3 : Nat) (rc26 : Int32 × Mem → Option (Int32 × Mem)) (v4 : Int32) (M : Mem) : Option (Int32 × Mem) := if (M b3 1) ≤ v4 then (some (0, M)) else (bd (mi_X2_lacks 1 v4 M) fun r_5 M_4 => if r_5 = 0 then (bd (mi_X2_facedBy 1 v4 M_4) fun r_7 M_6 => gd (inb v4 40) <| if r_7 = (M_6 (b3 + 1) v4.toNatClampNeg) then (bI (v4 + 1) fun v4_9 => rc26 (v4_9, M_6)) else (some (1 + v4, M_6))) else (some (1 + v4, M_4)))
set_option maxRecDepth 100000 in
set_option maxHeartbeats 4000000 in
theorem pj_X3_judge_26 {p : Program} {l : Launch} {e : Env} {R : Room} {s : State} {m : MethodId} {args : Array Value} {below : List Frame} {meth : Method} {c : Code} {g : Gh} (X : Cx p l e R s m args below meth c g cX3_judge 5 (0, 0) RX3 3) (hr : meth.sig.returnType = (some (.int))) (v1 : Int32) (b3 : Nat) (hb3 : isSt b3) (rc26 : Int32 × Mem → Option (Int32 × Mem)) (hc26 : ∀ x, J p l e R s m args below meth c g 5 (0, 0) (QfI below args s g) (rc26 x) x.2 26 [(0, .ref (gA g 0)), (1, .int v1), (3, .ref (gA g b3)), (4, .int x.1)] []) (v4 : Int32) (M : Mem) : J p l e R s m args below meth c g 5 (0, 0) (QfI below args s g) (pi_X3_judge_26 v1 b3 rc26 v4 M) M 26 [(0, .ref (gA g 0)), (1, .int v1), (3, .ref (gA g b3)), (4, .int v4)] [] := by
  unfold pi_X3_judge_26
  refine j_iload (i := 4) X dX3_judge_26 rfl ?_
  refine j_aload_n (i := 3) X dX3_judge_28 rfl rfl ?_
  refine j_getN_st hb3 1 X (by decide) (by decide +kernel) rfl dX3_judge_29 ?_
  refine j_icmp_ge (tgt := 77) X dX3_judge_32 (by decide) ?_ ?_
  · refine j_iconst (v := 0) X dX3_judge_77 rfl ?_
    exact j_iret X hr dX3_judge_78
  · refine j_aload_n (i := 0) X dX3_judge_35 rfl rfl ?_
    refine j_get_hd 0 X (by decide) wq_172 rfl dX3_judge_36 ?_
    refine j_iload (i := 4) X dX3_judge_39 rfl ?_
    refine k_cVI (As := [.int v4]) (rest := []) sh_1.lt (cf_sh sh_1 _) rfl X (ct_X2_lacks l g 1 v4 sh_1 M) wl_X3_64 rfl rfl (by decide) (Nat.le_of_ble_eq_true rfl) dX3_judge_41 (fun r_5 M_4 => ?_)
    refine j_if_ne (tgt := 66) X dX3_judge_44 (by decide) ?_ ?_
    · refine j_aload_n (i := 0) X dX3_judge_47 rfl rfl ?_
      refine j_get_hd 0 X (by decide) wq_172 rfl dX3_judge_48 ?_
      refine j_iload (i := 4) X dX3_judge_51 rfl ?_
      refine k_cVI (As := [.int v4]) (rest := []) sh_1.lt (cf_sh sh_1 _) rfl X (ct_X2_facedBy l g 1 v4 sh_1 M_4) wl_X3_137 rfl rfl (by decide) (Nat.le_of_ble_eq_true rfl) dX3_judge_53 (fun r_7 M_6 => ?_)
      refine j_aload_n (i := 3) X dX3_judge_56 rfl rfl ?_
      refine j_getN_st hb3 2 X (by decide) (by decide +kernel) rfl dX3_judge_57 ?_
      refine j_iload (i := 4) X dX3_judge_60 rfl ?_
      refine j_iald X (ia_st hb3) dX3_judge_62 (fun h_8 => ?_)
      refine j_icmp_eq (tgt := 71) X dX3_judge_63 (by decide) ?_ ?_
      · refine j_iincB (i := 4) (y := v4 + 1) (Lf := fun v4_9 => [(0, .ref (gA g 0)), (1, .int v1), (3, .ref (gA g b3)), (4, .int v4_9)]) X dX3_judge_71 rfl rfl (by decide) (fun _ => rfl) (fun v4_9 => ?_)
        refine j_goto (tgt := 26) X dX3_judge_74 (by decide) ?_
        exact hc26 (v4_9, M_6)
      · refine j_iconst (v := 1) X dX3_judge_66 rfl ?_
        refine j_iload (i := 4) X dX3_judge_67 rfl ?_
        refine j_iadd X dX3_judge_69 ?_
        exact j_iret X hr dX3_judge_70
    · refine j_iconst (v := 1) X dX3_judge_66 rfl ?_
      refine j_iload (i := 4) X dX3_judge_67 rfl ?_
      refine j_iadd X dX3_judge_69 ?_
      exact j_iret X hr dX3_judge_70
def pi_X3_judge_e (v1 : Int32) (M : Mem) : Option (Int32 × Mem) := bd (mi_X3_wrongWithSheet v1 M) fun r_2 M_1 => if r_2 < 0 then (gd (inb v1 4) <| lp (fun rc26 x => pi_X3_judge_26 v1 (40 + 2 * v1.toNatClampNeg) rc26 x.1 x.2) FU (0, M_1)) else (bd (mi_X3_finding r_2 M_1) fun r_11 M_10 => some (r_11, M_10))
set_option maxRecDepth 100000 in
set_option maxHeartbeats 4000000 in
theorem pj_X3_judge_e {p : Program} {l : Launch} {e : Env} {R : Room} {s : State} {m : MethodId} {args : Array Value} {below : List Frame} {meth : Method} {c : Code} {g : Gh} (X : Cx p l e R s m args below meth c g cX3_judge 5 (0, 0) RX3 3) (hr : meth.sig.returnType = (some (.int))) (v1 : Int32) (M : Mem) : J p l e R s m args below meth c g 5 (0, 0) (QfI below args s g) (pi_X3_judge_e v1 M) M 0 [(0, .ref (gA g 0)), (1, .int v1)] [] := by
  unfold pi_X3_judge_e
  refine j_aload_n (i := 0) X dX3_judge_0 rfl rfl ?_
  refine j_iload_n (i := 1) X dX3_judge_1 rfl rfl ?_
  refine k_cVI (As := [.int v1]) (rest := []) (by decide) (cf_hd _) rfl X (ct_X3_wrongWithSheet l g v1 M) wl_X3_218 rfl rfl (by decide) (Nat.le_of_ble_eq_true rfl) dX3_judge_2 (fun r_2 M_1 => ?_)
  refine j_istore_n (i := 2) (Lq := [(0, .ref (gA g 0)), (1, .int v1), (2, .int r_2)]) X dX3_judge_5 rfl (by decide) rfl ?_
  refine j_iload_n (i := 2) X dX3_judge_6 rfl rfl ?_
  refine j_if_lt (tgt := 16) X dX3_judge_7 (by decide) ?_ ?_
  · refine j_aload_n (i := 0) X dX3_judge_16 rfl rfl ?_
    refine j_get_hd 5 X (by decide) wq_284 rfl dX3_judge_17 ?_
    refine j_iload_n (i := 1) X dX3_judge_20 rfl rfl ?_
    refine j_ald_sht X dX3_judge_21 (fun h_3 => ?_)
    refine j_astore_n (i := 3) (Lq := [(0, .ref (gA g 0)), (1, .int v1), (2, .int r_2), (3, .ref (gA g (40 + 2 * v1.toNatClampNeg)))]) X dX3_judge_22 rfl (by decide) rfl ?_
    refine j_iconst (v := 0) X dX3_judge_23 rfl ?_
    refine j_istore (i := 4) (Lq := [(0, .ref (gA g 0)), (1, .int v1), (2, .int r_2), (3, .ref (gA g (40 + 2 * v1.toNatClampNeg))), (4, .int 0)]) X dX3_judge_24 (by decide) rfl ?_
    refine j_pick [0, 1, 3, 4] (Lq := [(0, .ref (gA g 0)), (1, .int v1), (3, .ref (gA g (40 + 2 * v1.toNatClampNeg))), (4, .int 0)]) rfl ?_
    exact j_lp (Lf := fun x => [(0, .ref (gA g 0)), (1, .int v1), (3, .ref (gA g (40 + 2 * v1.toNatClampNeg))), (4, .int x.1)]) (Mf := fun x => x.2) (fun rc26 hc26 x => pj_X3_judge_26 X hr v1 (40 + 2 * v1.toNatClampNeg) (st_in h_3) rc26 hc26 x.1 x.2) FU (0, M_1)
  · refine j_aload_n (i := 0) X dX3_judge_10 rfl rfl ?_
    refine j_iload_n (i := 2) X dX3_judge_11 rfl rfl ?_
    refine k_cVI (As := [.int r_2]) (rest := []) (by decide) (cf_hd _) rfl X (ct_X3_finding l g r_2 M_1) wl_X3_44 rfl rfl (by decide) (Nat.le_of_ble_eq_true rfl) dX3_judge_12 (fun r_11 M_10 => ?_)
    exact j_iret X hr dX3_judge_15
def mi_X3_judge (v1 : Int32) (M : Mem) : Option (Int32 × Mem) := pi_X3_judge_e v1 M
theorem ct_X3_judge (l : Launch) (g : Gh) (v1 : Int32) (M : Mem) : CtI l g yX3_judge cX3_judge 5 (some (.int)) 3 [.ref (gA g 0), .int v1] M (mi_X3_judge v1 M) := ctI_of (own := RX3) (L := [(0, .ref (gA g 0)), (1, .int v1)]) (by decide +kernel) rfl (Nat.le_of_ble_eq_true rfl) rfl (fun p e s m args below meth c X hr => pj_X3_judge_e X hr v1  M)

def pi_X3_image_e (M : Mem) : Option (Int32 × Mem) := bv (mi_X2_become 25 1 M) fun M_1 => gd (isB 1) <| bM (up M_1 0 3 1) fun M_2 => some (1, M_2)
set_option maxRecDepth 100000 in
set_option maxHeartbeats 4000000 in
theorem pj_X3_image_e {p : Program} {l : Launch} {e : Env} {R : Room} {s : State} {m : MethodId} {args : Array Value} {below : List Frame} {meth : Method} {c : Code} {g : Gh} (X : Cx p l e R s m args below meth c g cX3_image 1 (0, 0) RX3 3) (hr : meth.sig.returnType = (some (.int))) (M : Mem) : J p l e R s m args below meth c g 1 (0, 0) (QfI below args s g) (pi_X3_image_e M) M 0 [(0, .ref (gA g 0))] [] := by
  unfold pi_X3_image_e
  refine j_aload_n (i := 0) X dX3_image_0 rfl rfl ?_
  refine j_get_hd 2 X (by decide) wq_338 rfl dX3_image_1 ?_
  refine j_aload_n (i := 0) X dX3_image_4 rfl rfl ?_
  refine j_get_hd 0 X (by decide) wq_172 rfl dX3_image_5 ?_
  refine k_cVV (As := [.ref (gA g 1)]) (rest := []) sh_25.lt (cf_sh sh_25 _) rfl X (ct_X2_become l g 25 1 sh_25 sh_1 M) wl_X3_133 rfl rfl (by decide) (Nat.le_of_ble_eq_true rfl) dX3_image_8 (fun M_1 => ?_)
  refine j_aload_n (i := 0) X dX3_image_11 rfl rfl ?_
  refine j_iconst (v := 1) X dX3_image_12 rfl ?_
  refine j_gd (fun h_3 => ?_)
  refine j_put_hd (ty := .boolean) 3 X (by decide) wq_339 (fun _ => rfl) rfl (by decide +kernel) (isB_n h_3) (isB_f h_3) dX3_image_13 ?_
  refine j_bM (fun M_2 => ?_)
  refine j_iconst (v := 1) X dX3_image_16 rfl ?_
  exact j_iret X hr dX3_image_17
def mi_X3_image (M : Mem) : Option (Int32 × Mem) := pi_X3_image_e  M
theorem ct_X3_image (l : Launch) (g : Gh) (M : Mem) : CtI l g yX3_image cX3_image 1 (some (.int)) 3 [.ref (gA g 0)] M (mi_X3_image  M) := ctI_of (own := RX3) (L := [(0, .ref (gA g 0))]) (by decide +kernel) rfl (Nat.le_of_ble_eq_true rfl) rfl (fun p e s m args below meth c X hr => pj_X3_image_e X hr   M)

def pi_X3_undo_e (M : Mem) : Option (Int32 × Mem) := if (M 0 3) = 0 then (bd (mi_X3_finding 3 M) fun r_2 M_1 => some (r_2, M_1)) else (bv (mi_X2_become 1 25 M) fun M_3 => some (M_3 1 1, M_3))
set_option maxRecDepth 100000 in
set_option maxHeartbeats 4000000 in
theorem pj_X3_undo_e {p : Program} {l : Launch} {e : Env} {R : Room} {s : State} {m : MethodId} {args : Array Value} {below : List Frame} {meth : Method} {c : Code} {g : Gh} (X : Cx p l e R s m args below meth c g cX3_undo 1 (0, 0) RX3 3) (hr : meth.sig.returnType = (some (.int))) (M : Mem) : J p l e R s m args below meth c g 1 (0, 0) (QfI below args s g) (pi_X3_undo_e M) M 0 [(0, .ref (gA g 0))] [] := by
  unfold pi_X3_undo_e
  refine j_aload_n (i := 0) X dX3_undo_0 rfl rfl ?_
  refine j_get_hd 3 X (by decide) wq_339 rfl dX3_undo_1 ?_
  refine j_if_ne (tgt := 13) X dX3_undo_4 (by decide) ?_ ?_
  · refine j_aload_n (i := 0) X dX3_undo_7 rfl rfl ?_
    refine j_iconst (v := 3) X dX3_undo_8 rfl ?_
    refine k_cVI (As := [.int 3]) (rest := []) (by decide) (cf_hd _) rfl X (ct_X3_finding l g 3 M) wl_X3_44 rfl rfl (by decide) (Nat.le_of_ble_eq_true rfl) dX3_undo_9 (fun r_2 M_1 => ?_)
    exact j_iret X hr dX3_undo_12
  · refine j_aload_n (i := 0) X dX3_undo_13 rfl rfl ?_
    refine j_get_hd 0 X (by decide) wq_172 rfl dX3_undo_14 ?_
    refine j_aload_n (i := 0) X dX3_undo_17 rfl rfl ?_
    refine j_get_hd 2 X (by decide) wq_338 rfl dX3_undo_18 ?_
    refine k_cVV (As := [.ref (gA g 25)]) (rest := []) sh_1.lt (cf_sh sh_1 _) rfl X (ct_X2_become l g 1 25 sh_1 sh_25 M) wl_X3_133 rfl rfl (by decide) (Nat.le_of_ble_eq_true rfl) dX3_undo_21 (fun M_3 => ?_)
    refine j_aload_n (i := 0) X dX3_undo_24 rfl rfl ?_
    refine j_get_hd 0 X (by decide) wq_172 rfl dX3_undo_25 ?_
    refine j_getN_sh sh_1 1 X (by decide) (by decide +kernel) rfl dX3_undo_28 ?_
    exact j_iret X hr dX3_undo_31
def mi_X3_undo (M : Mem) : Option (Int32 × Mem) := pi_X3_undo_e  M
theorem ct_X3_undo (l : Launch) (g : Gh) (M : Mem) : CtI l g yX3_undo cX3_undo 1 (some (.int)) 3 [.ref (gA g 0)] M (mi_X3_undo  M) := ctI_of (own := RX3) (L := [(0, .ref (gA g 0))]) (by decide +kernel) rfl (Nat.le_of_ble_eq_true rfl) rfl (fun p e s m args below meth c X hr => pj_X3_undo_e X hr   M)

def pi_X3_tear_e (M : Mem) : Option (Int32 × Mem) := if (M 0 3) = 0 then (gd (isB 0) <| bM (up M 0 3 0) fun M_1 => some (0, M_1)) else (gd (isB 0) <| bM (up M 0 3 0) fun M_3 => some (1, M_3))
set_option maxRecDepth 100000 in
set_option maxHeartbeats 4000000 in
theorem pj_X3_tear_e {p : Program} {l : Launch} {e : Env} {R : Room} {s : State} {m : MethodId} {args : Array Value} {below : List Frame} {meth : Method} {c : Code} {g : Gh} (X : Cx p l e R s m args below meth c g cX3_tear 2 (0, 0) RX3 0) (hr : meth.sig.returnType = (some (.int))) (M : Mem) : J p l e R s m args below meth c g 2 (0, 0) (QfI below args s g) (pi_X3_tear_e M) M 0 [(0, .ref (gA g 0))] [] := by
  unfold pi_X3_tear_e
  refine j_aload_n (i := 0) X dX3_tear_0 rfl rfl ?_
  refine j_get_hd 3 X (by decide) wq_339 rfl dX3_tear_1 ?_
  refine j_if_eq (tgt := 11) X dX3_tear_4 (by decide) ?_ ?_
  · refine j_iconst (v := 0) X dX3_tear_11 rfl ?_
    refine j_istore_n (i := 1) (Lq := [(0, .ref (gA g 0)), (1, .int 0)]) X dX3_tear_12 rfl (by decide) rfl ?_
    refine j_aload_n (i := 0) X dX3_tear_13 rfl rfl ?_
    refine j_iconst (v := 0) X dX3_tear_14 rfl ?_
    refine j_gd (fun h_2 => ?_)
    refine j_put_hd (ty := .boolean) 3 X (by decide) wq_339 (fun _ => rfl) rfl (by decide +kernel) (isB_n h_2) (isB_f h_2) dX3_tear_15 ?_
    refine j_bM (fun M_1 => ?_)
    refine j_iload_n (i := 1) X dX3_tear_18 rfl rfl ?_
    exact j_iret X hr dX3_tear_19
  · refine j_iconst (v := 1) X dX3_tear_7 rfl ?_
    refine j_goto (tgt := 12) X dX3_tear_8 (by decide) ?_
    refine j_istore_n (i := 1) (Lq := [(0, .ref (gA g 0)), (1, .int 1)]) X dX3_tear_12 rfl (by decide) rfl ?_
    refine j_aload_n (i := 0) X dX3_tear_13 rfl rfl ?_
    refine j_iconst (v := 0) X dX3_tear_14 rfl ?_
    refine j_gd (fun h_4 => ?_)
    refine j_put_hd (ty := .boolean) 3 X (by decide) wq_339 (fun _ => rfl) rfl (by decide +kernel) (isB_n h_4) (isB_f h_4) dX3_tear_15 ?_
    refine j_bM (fun M_3 => ?_)
    refine j_iload_n (i := 1) X dX3_tear_18 rfl rfl ?_
    exact j_iret X hr dX3_tear_19
def mi_X3_tear (M : Mem) : Option (Int32 × Mem) := pi_X3_tear_e  M
theorem ct_X3_tear (l : Launch) (g : Gh) (M : Mem) : CtI l g yX3_tear cX3_tear 2 (some (.int)) 0 [.ref (gA g 0)] M (mi_X3_tear  M) := ctI_of (own := RX3) (L := [(0, .ref (gA g 0))]) (by decide +kernel) rfl (Nat.le_of_ble_eq_true rfl) rfl (fun p e s m args below meth c X hr => pj_X3_tear_e X hr   M)

def pi_X3_count_e (v1 : Int32) (M : Mem) : Option (Int32 × Mem) := swc v1 [(0, some (M 1 1, M)), (1, some (M 1 3, M)), (2, bd (mi_X2_meeting 1 M) fun r_2 M_1 => bd (mi_J6_bitCount_0f7a4 r_2 M_1) fun r_4 M_3 => some (r_4, M_3)), (3, bd (mi_X2_heightOfAll 1 M) fun r_6 M_5 => some (r_6, M_5)), (4, bd (mi_X2_bowedOfAll 1 M) fun r_8 M_7 => some (r_8, M_7)), (5, some (M 37 1, M)), (6, some (M 1 2, M)), (7, bd (mi_X2_spotsHeld 1 M) fun r_10 M_9 => some (r_10, M_9))] (bd (mi_X3_finding 0 M) fun r_12 M_11 => some (r_12, M_11))
set_option maxRecDepth 100000 in
set_option maxHeartbeats 4000000 in
theorem pj_X3_count_e {p : Program} {l : Launch} {e : Env} {R : Room} {s : State} {m : MethodId} {args : Array Value} {below : List Frame} {meth : Method} {c : Code} {g : Gh} (X : Cx p l e R s m args below meth c g cX3_count 2 (0, 0) RX3 2) (hr : meth.sig.returnType = (some (.int))) (v1 : Int32) (M : Mem) : J p l e R s m args below meth c g 2 (0, 0) (QfI below args s g) (pi_X3_count_e v1 M) M 0 [(0, .ref (gA g 0)), (1, .int v1)] [] := by
  unfold pi_X3_count_e
  refine j_iload_n (i := 1) X dX3_count_0 rfl rfl ?_
  refine j_tsw [0, 1, 2, 3, 4, 5, 6, 7] [48, 56, 64, 75, 83, 91, 99, 107] (dt := 115) X dX3_count_1 rfl (by decide +kernel) (by decide +kernel) (by decide) ⟨?_, ?_, ?_, ?_, ?_, ?_, ?_, ?_, trivial⟩ ?_
  · refine j_aload_n (i := 0) X dX3_count_48 rfl rfl ?_
    refine j_get_hd 0 X (by decide) wq_172 rfl dX3_count_49 ?_
    refine j_getN_sh sh_1 1 X (by decide) (by decide +kernel) rfl dX3_count_52 ?_
    exact j_iret X hr dX3_count_55
  · refine j_aload_n (i := 0) X dX3_count_56 rfl rfl ?_
    refine j_get_hd 0 X (by decide) wq_172 rfl dX3_count_57 ?_
    refine j_getN_sh sh_1 3 X (by decide) (by decide +kernel) rfl dX3_count_60 ?_
    exact j_iret X hr dX3_count_63
  · refine j_aload_n (i := 0) X dX3_count_64 rfl rfl ?_
    refine j_get_hd 0 X (by decide) wq_172 rfl dX3_count_65 ?_
    refine k_cVI (As := []) (rest := []) sh_1.lt (cf_sh sh_1 _) rfl X (ct_X2_meeting l g 1 sh_1 M) wl_X3_109 rfl rfl (by decide) (Nat.le_of_ble_eq_true rfl) dX3_count_68 (fun r_2 M_1 => ?_)
    refine k_cSI (As := [.int r_2]) (rest := []) X (ct_J6_bitCount_0f7a4 l g r_2 M_1) wl_X3_113 rfl rfl (by decide) (Nat.le_of_ble_eq_true rfl) dX3_count_71 (fun r_4 M_3 => ?_)
    exact j_iret X hr dX3_count_74
  · refine j_aload_n (i := 0) X dX3_count_75 rfl rfl ?_
    refine j_get_hd 0 X (by decide) wq_172 rfl dX3_count_76 ?_
    refine k_cVI (As := []) (rest := []) sh_1.lt (cf_sh sh_1 _) rfl X (ct_X2_heightOfAll l g 1 sh_1 M) wl_X3_118 rfl rfl (by decide) (Nat.le_of_ble_eq_true rfl) dX3_count_79 (fun r_6 M_5 => ?_)
    exact j_iret X hr dX3_count_82
  · refine j_aload_n (i := 0) X dX3_count_83 rfl rfl ?_
    refine j_get_hd 0 X (by decide) wq_172 rfl dX3_count_84 ?_
    refine k_cVI (As := []) (rest := []) sh_1.lt (cf_sh sh_1 _) rfl X (ct_X2_bowedOfAll l g 1 sh_1 M) wl_X3_127 rfl rfl (by decide) (Nat.le_of_ble_eq_true rfl) dX3_count_87 (fun r_8 M_7 => ?_)
    exact j_iret X hr dX3_count_90
  · refine j_aload_n (i := 0) X dX3_count_91 rfl rfl ?_
    refine j_get_hd 4 X (by decide) wq_313 rfl dX3_count_92 ?_
    refine j_getN_rd 1 X (by decide) (by decide +kernel) rfl dX3_count_95 ?_
    exact j_iret X hr dX3_count_98
  · refine j_aload_n (i := 0) X dX3_count_99 rfl rfl ?_
    refine j_get_hd 0 X (by decide) wq_172 rfl dX3_count_100 ?_
    refine j_getN_sh sh_1 2 X (by decide) (by decide +kernel) rfl dX3_count_103 ?_
    exact j_iret X hr dX3_count_106
  · refine j_aload_n (i := 0) X dX3_count_107 rfl rfl ?_
    refine j_get_hd 0 X (by decide) wq_172 rfl dX3_count_108 ?_
    refine k_cVI (As := []) (rest := []) sh_1.lt (cf_sh sh_1 _) rfl X (ct_X2_spotsHeld l g 1 sh_1 M) wl_X3_249 rfl rfl (by decide) (Nat.le_of_ble_eq_true rfl) dX3_count_111 (fun r_10 M_9 => ?_)
    exact j_iret X hr dX3_count_114
  · refine j_aload_n (i := 0) X dX3_count_115 rfl rfl ?_
    refine j_iconst (v := 0) X dX3_count_116 rfl ?_
    refine k_cVI (As := [.int 0]) (rest := []) (by decide) (cf_hd _) rfl X (ct_X3_finding l g 0 M) wl_X3_44 rfl rfl (by decide) (Nat.le_of_ble_eq_true rfl) dX3_count_117 (fun r_12 M_11 => ?_)
    exact j_iret X hr dX3_count_120
def mi_X3_count (v1 : Int32) (M : Mem) : Option (Int32 × Mem) := pi_X3_count_e v1 M
theorem ct_X3_count (l : Launch) (g : Gh) (v1 : Int32) (M : Mem) : CtI l g yX3_count cX3_count 2 (some (.int)) 2 [.ref (gA g 0), .int v1] M (mi_X3_count v1 M) := ctI_of (own := RX3) (L := [(0, .ref (gA g 0)), (1, .int v1)]) (by decide +kernel) rfl (Nat.le_of_ble_eq_true rfl) rfl (fun p e s m args below meth c X hr => pj_X3_count_e X hr v1  M)

def pi_X3_status_31 (v1 : Int32) (rc31 : Int32 × Int32 × Mem → Option (Int32 × Mem)) (v2 : Int32) (v3 : Int32) (M : Mem) : Option (Int32 × Mem) := if 7 ≤ v3 then (some (v2, M)) else (gd (inb v3 7) <| bI (v2 + (M 48 v3.toNatClampNeg)) fun v2_4 => bI (v3 + 1) fun v3_5 => rc31 (v2_4, v3_5, M))
set_option maxRecDepth 100000 in
set_option maxHeartbeats 4000000 in
theorem pj_X3_status_31 {p : Program} {l : Launch} {e : Env} {R : Room} {s : State} {m : MethodId} {args : Array Value} {below : List Frame} {meth : Method} {c : Code} {g : Gh} (X : Cx p l e R s m args below meth c g cX3_status 4 (0, 0) RX3 1) (hr : meth.sig.returnType = (some (.int))) (v1 : Int32) (rc31 : Int32 × Int32 × Mem → Option (Int32 × Mem)) (hc31 : ∀ x, J p l e R s m args below meth c g 4 (0, 0) (QfI below args s g) (rc31 x) x.2.2 31 [(0, .ref (gA g 0)), (1, .int v1), (2, .int x.1), (3, .int x.2.1)] []) (v2 : Int32) (v3 : Int32) (M : Mem) : J p l e R s m args below meth c g 4 (0, 0) (QfI below args s g) (pi_X3_status_31 v1 rc31 v2 v3 M) M 31 [(0, .ref (gA g 0)), (1, .int v1), (2, .int v2), (3, .int v3)] [] := by
  unfold pi_X3_status_31
  refine j_iload_n (i := 3) X dX3_status_31 rfl rfl ?_
  refine j_bipush (v := 7) X dX3_status_32 rfl ?_
  refine j_icmp_ge (tgt := 52) X dX3_status_34 (by decide) ?_ ?_
  · refine j_iload_n (i := 2) X dX3_status_52 rfl rfl ?_
    exact j_iret X hr dX3_status_53
  · refine j_iload_n (i := 2) X dX3_status_37 rfl rfl ?_
    refine j_aload_n (i := 0) X dX3_status_38 rfl rfl ?_
    refine j_get_hd 6 X (by decide) wq_167 rfl dX3_status_39 ?_
    refine j_iload_n (i := 3) X dX3_status_42 rfl rfl ?_
    refine j_iald X ia_48 dX3_status_43 (fun h_3 => ?_)
    refine j_iadd X dX3_status_44 ?_
    refine j_bI (fun v2_4 => ?_)
    refine j_istore_n (i := 2) (Lq := [(0, .ref (gA g 0)), (1, .int v1), (2, .int v2_4), (3, .int v3)]) X dX3_status_45 rfl (by decide) rfl ?_
    refine j_iincB (i := 3) (y := v3 + 1) (Lf := fun v3_5 => [(0, .ref (gA g 0)), (1, .int v1), (2, .int v2_4), (3, .int v3_5)]) X dX3_status_46 rfl rfl (by decide) (fun _ => rfl) (fun v3_5 => ?_)
    refine j_goto (tgt := 31) X dX3_status_49 (by decide) ?_
    exact hc31 (v2_4, v3_5, M)
def pi_X3_status_e (v1 : Int32) (M : Mem) : Option (Int32 × Mem) := bd (mi_X3_isOutside v1 (-1) 6 M) fun r_2 M_1 => if r_2 = 0 then (if v1 < 0 then (lp (fun rc31 x => pi_X3_status_31 v1 rc31 x.1 x.2.1 x.2.2) FU (0, 0, M_1)) else (gd (inb v1 7) <| some (M_1 48 v1.toNatClampNeg, M_1))) else (bd (mi_X3_finding 0 M_1) fun r_8 M_7 => some (r_8, M_7))
set_option maxRecDepth 100000 in
set_option maxHeartbeats 4000000 in
theorem pj_X3_status_e {p : Program} {l : Launch} {e : Env} {R : Room} {s : State} {m : MethodId} {args : Array Value} {below : List Frame} {meth : Method} {c : Code} {g : Gh} (X : Cx p l e R s m args below meth c g cX3_status 4 (0, 0) RX3 1) (hr : meth.sig.returnType = (some (.int))) (v1 : Int32) (M : Mem) : J p l e R s m args below meth c g 4 (0, 0) (QfI below args s g) (pi_X3_status_e v1 M) M 0 [(0, .ref (gA g 0)), (1, .int v1)] [] := by
  unfold pi_X3_status_e
  refine j_iload_n (i := 1) X dX3_status_0 rfl rfl ?_
  refine j_iconst (v := (-1)) X dX3_status_1 rfl ?_
  refine j_bipush (v := 6) X dX3_status_2 rfl ?_
  refine k_cSI (As := [.int v1, .int (-1), .int 6]) (rest := []) X (ct_X3_isOutside l g v1 (-1) 6 M) wl_X3_40 rfl rfl (by decide) (Nat.le_of_ble_eq_true rfl) dX3_status_4 (fun r_2 M_1 => ?_)
  refine j_if_eq (tgt := 16) X dX3_status_7 (by decide) ?_ ?_
  · refine j_iload_n (i := 1) X dX3_status_16 rfl rfl ?_
    refine j_if_lt (tgt := 27) X dX3_status_17 (by decide) ?_ ?_
    · refine j_iconst (v := 0) X dX3_status_27 rfl ?_
      refine j_istore_n (i := 2) (Lq := [(0, .ref (gA g 0)), (1, .int v1), (2, .int 0)]) X dX3_status_28 rfl (by decide) rfl ?_
      refine j_iconst (v := 0) X dX3_status_29 rfl ?_
      refine j_istore_n (i := 3) (Lq := [(0, .ref (gA g 0)), (1, .int v1), (2, .int 0), (3, .int 0)]) X dX3_status_30 rfl (by decide) rfl ?_
      exact j_lp (Lf := fun x => [(0, .ref (gA g 0)), (1, .int v1), (2, .int x.1), (3, .int x.2.1)]) (Mf := fun x => x.2.2) (fun rc31 hc31 x => pj_X3_status_31 X hr v1 rc31 hc31 x.1 x.2.1 x.2.2) FU (0, 0, M_1)
    · refine j_aload_n (i := 0) X dX3_status_20 rfl rfl ?_
      refine j_get_hd 6 X (by decide) wq_167 rfl dX3_status_21 ?_
      refine j_iload_n (i := 1) X dX3_status_24 rfl rfl ?_
      refine j_iald X ia_48 dX3_status_25 (fun h_6 => ?_)
      exact j_iret X hr dX3_status_26
  · refine j_aload_n (i := 0) X dX3_status_10 rfl rfl ?_
    refine j_iconst (v := 0) X dX3_status_11 rfl ?_
    refine k_cVI (As := [.int 0]) (rest := []) (by decide) (cf_hd _) rfl X (ct_X3_finding l g 0 M_1) wl_X3_44 rfl rfl (by decide) (Nat.le_of_ble_eq_true rfl) dX3_status_12 (fun r_8 M_7 => ?_)
    exact j_iret X hr dX3_status_15
def mi_X3_status (v1 : Int32) (M : Mem) : Option (Int32 × Mem) := pi_X3_status_e v1 M
theorem ct_X3_status (l : Launch) (g : Gh) (v1 : Int32) (M : Mem) : CtI l g yX3_status cX3_status 4 (some (.int)) 1 [.ref (gA g 0), .int v1] M (mi_X3_status v1 M) := ctI_of (own := RX3) (L := [(0, .ref (gA g 0)), (1, .int v1)]) (by decide +kernel) rfl (Nat.le_of_ble_eq_true rfl) rfl (fun p e s m args below meth c X hr => pj_X3_status_e X hr v1  M)
