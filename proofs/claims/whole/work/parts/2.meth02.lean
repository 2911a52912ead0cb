def pi_X0_readItem_e (b1 : Nat) (M : Mem) : Option (Int32 × Mem) := bd (mi_X0_isWord 7 M) fun r_2 M_1 => if r_2 = 0 then (bd (mi_X0_kindTold M_1) fun r_4 M_3 => if r_4 < 0 then (gd (isB 0) (some (0, M_3))) else (bd (mi_X2_isCrowded b1 M_3) fun r_6 M_5 => if r_6 = 0 then (bd (mi_X2_raise b1 r_4 0 M_5) fun r_8 M_7 => bv (mi_X0_advance M_7) fun M_9 => bd (mi_X0_readTrait b1 r_8 1 8 M_9) fun r_11 M_10 => if r_11 = 0 then (gd (isB 0) (some (0, M_10))) else (bd (mi_X0_readTrait b1 r_8 2 9 M_10) fun r_13 M_12 => if r_13 = 0 then (gd (isB 0) (some (0, M_12))) else (bd (mi_X0_readTrait b1 r_8 3 10 M_12) fun r_15 M_14 => if r_15 = 0 then (gd (isB 0) (some (0, M_14))) else (bd (mi_X0_readTrait b1 r_8 4 11 M_14) fun r_17 M_16 => if r_17 = 0 then (gd (isB 0) (some (0, M_16))) else (gd (isB 1) (some (1, M_16))))))) else (gd (isB 0) (some (0, M_5))))) else (bv (mi_X0_advance M_1) fun M_18 => bd (mi_X0_isNumberTo 9 M_18) fun r_20 M_19 => if r_20 = 0 then (gd (isB 0) (some (0, M_19))) else (bM (up M_19 b1 0 (M_19 37 5)) fun M_21 => bv (mi_X0_advance M_21) fun M_22 => gd (isB 1) (some (1, M_22))))
set_option maxRecDepth 100000 in
set_option maxHeartbeats 4000000 in
theorem pj_X0_readItem_e {p : Program} {l : Launch} {e : Env} {R : Room} {s : State} {m : MethodId} {args : Array Value} {below : List Frame} {meth : Method} {c : Code} {g : Gh} (X : Cx p l e R s m args below meth c g cX0_readItem 4 (0, 0) RX0 6) (hr : meth.sig.returnType = (some (.boolean))) (b1 : Nat) (hb1 : isSh b1) (M : Mem) : J p l e R s m args below meth c g 4 (0, 0) (QfI below args s g) (pi_X0_readItem_e b1 M) M 0 [(0, .ref (gA g 37)), (1, .ref (gA g b1))] [] := by
  unfold pi_X0_readItem_e
  refine j_aload_n (i := 0) X dX0_readItem_0 rfl rfl ?_
  refine j_ldcS (i := 7) (tx := "rain") X (by decide +kernel) dX0_readItem_1 ?_
  refine k_cVI (As := [.ref (gS g 7)]) (rest := []) (by decide) (cf_rd _) rfl X (ct_X0_isWord l g 7 (by decide) M) wl_X0_37 rfl rfl (by decide) (Nat.le_of_ble_eq_true rfl) dX0_readItem_3 (fun r_2 M_1 => ?_)
  refine j_if_eq (tgt := 38) X dX0_readItem_6 (by decide) ?_ ?_
  · refine j_aload_n (i := 0) X dX0_readItem_38 rfl rfl ?_
    refine k_cVI (As := []) (rest := []) (by decide) (cf_rd _) rfl X (ct_X0_kindTold l g M_1) wl_X0_53 rfl rfl (by decide) (Nat.le_of_ble_eq_true rfl) dX0_readItem_39 (fun r_4 M_3 => ?_)
    refine j_istore_n (i := 2) (Lq := [(0, .ref (gA g 37)), (1, .ref (gA g b1)), (2, .int r_4)]) X dX0_readItem_42 rfl (by decide) rfl ?_
    refine j_iload_n (i := 2) X dX0_readItem_43 rfl rfl ?_
    refine j_if_lt (tgt := 54) X dX0_readItem_44 (by decide) ?_ ?_
    · refine j_iconst (v := 0) X dX0_readItem_54 rfl ?_
      exact j_zret X hr dX0_readItem_55
    · refine j_aload_n (i := 1) X dX0_readItem_47 rfl rfl ?_
      refine k_cVI (As := []) (rest := []) hb1.lt (cf_sh hb1 _) rfl X (ct_X2_isCrowded l g b1 hb1 M_3) wl_X0_57 rfl rfl (by decide) (Nat.le_of_ble_eq_true rfl) dX0_readItem_48 (fun r_6 M_5 => ?_)
      refine j_if_eq (tgt := 56) X dX0_readItem_51 (by decide) ?_ ?_
      · refine j_aload_n (i := 1) X dX0_readItem_56 rfl rfl ?_
        refine j_iload_n (i := 2) X dX0_readItem_57 rfl rfl ?_
        refine j_iconst (v := 0) X dX0_readItem_58 rfl ?_
        refine k_cVI (As := [.int r_4, .int 0]) (rest := []) hb1.lt (cf_sh hb1 _) rfl X (ct_X2_raise l g b1 r_4 0 hb1 M_5) wl_X0_61 rfl rfl (by decide) (Nat.le_of_ble_eq_true rfl) dX0_readItem_59 (fun r_8 M_7 => ?_)
        refine j_istore_n (i := 3) (Lq := [(0, .ref (gA g 37)), (1, .ref (gA g b1)), (2, .int r_4), (3, .int r_8)]) X dX0_readItem_62 rfl (by decide) rfl ?_
        refine j_aload_n (i := 0) X dX0_readItem_63 rfl rfl ?_
        refine k_cVV (As := []) (rest := []) (by decide) (cf_rd _) rfl X (ct_X0_advance l g M_7) wl_X0_22 rfl rfl (by decide) (Nat.le_of_ble_eq_true rfl) dX0_readItem_64 (fun M_9 => ?_)
        refine j_aload_n (i := 0) X dX0_readItem_67 rfl rfl ?_
        refine j_aload_n (i := 1) X dX0_readItem_68 rfl rfl ?_
        refine j_iload_n (i := 3) X dX0_readItem_69 rfl rfl ?_
        refine j_iconst (v := 1) X dX0_readItem_70 rfl ?_
        refine j_ldcS (i := 8) (tx := "at") X (by decide +kernel) dX0_readItem_71 ?_
        refine k_cVI (As := [.ref (gA g b1), .int r_8, .int 1, .ref (gS g 8)]) (rest := []) (by decide) (cf_rd _) rfl X (ct_X0_readTrait l g b1 r_8 1 8 hb1 (by decide) M_9) wl_X0_67 rfl rfl (by decide) (Nat.le_of_ble_eq_true rfl) dX0_readItem_73 (fun r_11 M_10 => ?_)
        refine j_if_eq (tgt := 119) X dX0_readItem_76 (by decide) ?_ ?_
        · refine j_iconst (v := 0) X dX0_readItem_119 rfl ?_
          exact j_zret X hr dX0_readItem_120
        · refine j_aload_n (i := 0) X dX0_readItem_79 rfl rfl ?_
          refine j_aload_n (i := 1) X dX0_readItem_80 rfl rfl ?_
          refine j_iload_n (i := 3) X dX0_readItem_81 rfl rfl ?_
          refine j_iconst (v := 2) X dX0_readItem_82 rfl ?_
          refine j_ldcS (i := 9) (tx := "step") X (by decide +kernel) dX0_readItem_83 ?_
          refine k_cVI (As := [.ref (gA g b1), .int r_8, .int 2, .ref (gS g 9)]) (rest := []) (by decide) (cf_rd _) rfl X (ct_X0_readTrait l g b1 r_8 2 9 hb1 (by decide) M_10) wl_X0_67 rfl rfl (by decide) (Nat.le_of_ble_eq_true rfl) dX0_readItem_85 (fun r_13 M_12 => ?_)
          refine j_if_eq (tgt := 119) X dX0_readItem_88 (by decide) ?_ ?_
          · refine j_iconst (v := 0) X dX0_readItem_119 rfl ?_
            exact j_zret X hr dX0_readItem_120
          · refine j_aload_n (i := 0) X dX0_readItem_91 rfl rfl ?_
            refine j_aload_n (i := 1) X dX0_readItem_92 rfl rfl ?_
            refine j_iload_n (i := 3) X dX0_readItem_93 rfl rfl ?_
            refine j_iconst (v := 3) X dX0_readItem_94 rfl ?_
            refine j_ldcS (i := 10) (tx := "turn") X (by decide +kernel) dX0_readItem_95 ?_
            refine k_cVI (As := [.ref (gA g b1), .int r_8, .int 3, .ref (gS g 10)]) (rest := []) (by decide) (cf_rd _) rfl X (ct_X0_readTrait l g b1 r_8 3 10 hb1 (by decide) M_12) wl_X0_67 rfl rfl (by decide) (Nat.le_of_ble_eq_true rfl) dX0_readItem_97 (fun r_15 M_14 => ?_)
            refine j_if_eq (tgt := 119) X dX0_readItem_100 (by decide) ?_ ?_
            · refine j_iconst (v := 0) X dX0_readItem_119 rfl ?_
              exact j_zret X hr dX0_readItem_120
            · refine j_aload_n (i := 0) X dX0_readItem_103 rfl rfl ?_
              refine j_aload_n (i := 1) X dX0_readItem_104 rfl rfl ?_
              refine j_iload_n (i := 3) X dX0_readItem_105 rfl rfl ?_
              refine j_iconst (v := 4) X dX0_readItem_106 rfl ?_
              refine j_ldcS (i := 11) (tx := "high") X (by decide +kernel) dX0_readItem_107 ?_
              refine k_cVI (As := [.ref (gA g b1), .int r_8, .int 4, .ref (gS g 11)]) (rest := []) (by decide) (cf_rd _) rfl X (ct_X0_readTrait l g b1 r_8 4 11 hb1 (by decide) M_14) wl_X0_67 rfl rfl (by decide) (Nat.le_of_ble_eq_true rfl) dX0_readItem_109 (fun r_17 M_16 => ?_)
              refine j_if_eq (tgt := 119) X dX0_readItem_112 (by decide) ?_ ?_
              · refine j_iconst (v := 0) X dX0_readItem_119 rfl ?_
                exact j_zret X hr dX0_readItem_120
              · refine j_iconst (v := 1) X dX0_readItem_115 rfl ?_
                refine j_goto (tgt := 120) X dX0_readItem_116 (by decide) ?_
                exact j_zret X hr dX0_readItem_120
      · refine j_iconst (v := 0) X dX0_readItem_54 rfl ?_
        exact j_zret X hr dX0_readItem_55
  · refine j_aload_n (i := 0) X dX0_readItem_9 rfl rfl ?_
    refine k_cVV (As := []) (rest := []) (by decide) (cf_rd _) rfl X (ct_X0_advance l g M_1) wl_X0_22 rfl rfl (by decide) (Nat.le_of_ble_eq_true rfl) dX0_readItem_10 (fun M_18 => ?_)
    refine j_aload_n (i := 0) X dX0_readItem_13 rfl rfl ?_
    refine j_bipush (v := 9) X dX0_readItem_14 rfl ?_
    refine k_cVI (As := [.int 9]) (rest := []) (by decide) (cf_rd _) rfl X (ct_X0_isNumberTo l g 9 M_18) wl_X0_41 rfl rfl (by decide) (Nat.le_of_ble_eq_true rfl) dX0_readItem_16 (fun r_20 M_19 => ?_)
    refine j_if_ne (tgt := 24) X dX0_readItem_19 (by decide) ?_ ?_
    · refine j_iconst (v := 0) X dX0_readItem_22 rfl ?_
      exact j_zret X hr dX0_readItem_23
    · refine j_aload_n (i := 1) X dX0_readItem_24 rfl rfl ?_
      refine j_aload_n (i := 0) X dX0_readItem_25 rfl rfl ?_
      refine j_get_rd 5 X (by decide) wq_2 rfl dX0_readItem_26 ?_
      refine j_putN_sh (ty := .int) hb1 0 X (by decide) (by decide +kernel) (fun _ => rfl) rfl (by decide +kernel) rfl rfl dX0_readItem_29 ?_
      refine j_bM (fun M_21 => ?_)
      refine j_aload_n (i := 0) X dX0_readItem_32 rfl rfl ?_
      refine k_cVV (As := []) (rest := []) (by decide) (cf_rd _) rfl X (ct_X0_advance l g M_21) wl_X0_22 rfl rfl (by decide) (Nat.le_of_ble_eq_true rfl) dX0_readItem_33 (fun M_22 => ?_)
      refine j_iconst (v := 1) X dX0_readItem_36 rfl ?_
      exact j_zret X hr dX0_readItem_37
def mi_X0_readItem (b1 : Nat) (M : Mem) : Option (Int32 × Mem) := pi_X0_readItem_e b1 M
theorem ct_X0_readItem (l : Launch) (g : Gh) (b1 : Nat) (hb1 : isSh b1) (M : Mem) : CtI l g yX0_readItem cX0_readItem 4 (some (.boolean)) 6 [.ref (gA g 37), .ref (gA g b1)] M (mi_X0_readItem b1 M) := ctI_of (own := RX0) (L := [(0, .ref (gA g 37)), (1, .ref (gA g b1))]) (by decide +kernel) rfl (Nat.le_of_ble_eq_true rfl) rfl (fun p e s m args below meth c X hr => pj_X0_readItem_e X hr b1 hb1 M)

def pi_X0_readInto_11 (b1 : Nat) (rc11 : Int32 × Mem → Option (Int32 × Mem)) (v2 : Int32) (M : Mem) : Option (Int32 × Mem) := if 120 < v2 then (some ((-1) - (M 37 2), M)) else (bd (mi_X0_readItem b1 M) fun r_4 M_3 => if r_4 = 0 then (some ((-1) - (M_3 37 2), M_3)) else (if (M_3 37 4) = 0 then (some (v2, M_3)) else (if (M_3 37 4) = 3 then (bv (mi_X0_advance M_3) fun M_5 => bI (v2 + 1) fun v2_6 => rc11 (v2_6, M_5)) else (some ((-1) - (M_3 37 2), M_3)))))
set_option maxRecDepth 100000 in
set_option maxHeartbeats 4000000 in
theorem pj_X0_readInto_11 {p : Program} {l : Launch} {e : Env} {R : Room} {s : State} {m : MethodId} {args : Array Value} {below : List Frame} {meth : Method} {c : Code} {g : Gh} (X : Cx p l e R s m args below meth c g cX0_readInto 3 (0, 0) RX0 7) (hr : meth.sig.returnType = (some (.int))) (b1 : Nat) (hb1 : isSh b1) (rc11 : Int32 × Mem → Option (Int32 × Mem)) (hc11 : ∀ x, J p l e R s m args below meth c g 3 (0, 0) (QfI below args s g) (rc11 x) x.2 11 [(0, .ref (gA g 37)), (1, .ref (gA g b1)), (2, .int x.1)] []) (v2 : Int32) (M : Mem) : J p l e R s m args below meth c g 3 (0, 0) (QfI below args s g) (pi_X0_readInto_11 b1 rc11 v2 M) M 11 [(0, .ref (gA g 37)), (1, .ref (gA g b1)), (2, .int v2)] [] := by
  unfold pi_X0_readInto_11
  refine j_iload_n (i := 2) X dX0_readInto_11 rfl rfl ?_
  refine j_bipush (v := 120) X dX0_readInto_12 rfl ?_
  refine j_icmp_gt (tgt := 66) X dX0_readInto_14 (by decide) ?_ ?_
  · refine j_iconst (v := (-1)) X dX0_readInto_66 rfl ?_
    refine j_aload_n (i := 0) X dX0_readInto_67 rfl rfl ?_
    refine j_get_rd 2 X (by decide) wq_11 rfl dX0_readInto_68 ?_
    refine j_isub X dX0_readInto_71 ?_
    exact j_iret X hr dX0_readInto_72
  · refine j_aload_n (i := 0) X dX0_readInto_17 rfl rfl ?_
    refine j_aload_n (i := 1) X dX0_readInto_18 rfl rfl ?_
    refine k_cVI (As := [.ref (gA g b1)]) (rest := []) (by decide) (cf_rd _) rfl X (ct_X0_readItem l g b1 hb1 M) wl_X0_25 rfl rfl (by decide) (Nat.le_of_ble_eq_true rfl) dX0_readInto_19 (fun r_4 M_3 => ?_)
    refine j_if_ne (tgt := 32) X dX0_readInto_22 (by decide) ?_ ?_
    · refine j_iconst (v := (-1)) X dX0_readInto_25 rfl ?_
      refine j_aload_n (i := 0) X dX0_readInto_26 rfl rfl ?_
      refine j_get_rd 2 X (by decide) wq_11 rfl dX0_readInto_27 ?_
      refine j_isub X dX0_readInto_30 ?_
      exact j_iret X hr dX0_readInto_31
    · refine j_aload_n (i := 0) X dX0_readInto_32 rfl rfl ?_
      refine j_get_rd 4 X (by decide) wq_15 rfl dX0_readInto_33 ?_
      refine j_if_ne (tgt := 41) X dX0_readInto_36 (by decide) ?_ ?_
      · refine j_iload_n (i := 2) X dX0_readInto_39 rfl rfl ?_
        exact j_iret X hr dX0_readInto_40
      · refine j_aload_n (i := 0) X dX0_readInto_41 rfl rfl ?_
        refine j_get_rd 4 X (by decide) wq_15 rfl dX0_readInto_42 ?_
        refine j_iconst (v := 3) X dX0_readInto_45 rfl ?_
        refine j_icmp_eq (tgt := 56) X dX0_readInto_46 (by decide) ?_ ?_
        · refine j_aload_n (i := 0) X dX0_readInto_56 rfl rfl ?_
          refine k_cVV (As := []) (rest := []) (by decide) (cf_rd _) rfl X (ct_X0_advance l g M_3) wl_X0_22 rfl rfl (by decide) (Nat.le_of_ble_eq_true rfl) dX0_readInto_57 (fun M_5 => ?_)
          refine j_iincB (i := 2) (y := v2 + 1) (Lf := fun v2_6 => [(0, .ref (gA g 37)), (1, .ref (gA g b1)), (2, .int v2_6)]) X dX0_readInto_60 rfl rfl (by decide) (fun _ => rfl) (fun v2_6 => ?_)
          refine j_goto (tgt := 11) X dX0_readInto_63 (by decide) ?_
          exact hc11 (v2_6, M_5)
        · refine j_iconst (v := (-1)) X dX0_readInto_49 rfl ?_
          refine j_aload_n (i := 0) X dX0_readInto_50 rfl rfl ?_
          refine j_get_rd 2 X (by decide) wq_11 rfl dX0_readInto_51 ?_
          refine j_isub X dX0_readInto_54 ?_
          exact j_iret X hr dX0_readInto_55
def pi_X0_readInto_e (b1 : Nat) (M : Mem) : Option (Int32 × Mem) := bM (up M 37 3 0) fun M_1 => bv (mi_X0_advance M_1) fun M_2 => lp (fun rc11 x => pi_X0_readInto_11 b1 rc11 x.1 x.2) FU (1, M_2)
set_option maxRecDepth 100000 in
set_option maxHeartbeats 4000000 in
theorem pj_X0_readInto_e {p : Program} {l : Launch} {e : Env} {R : Room} {s : State} {m : MethodId} {args : Array Value} {below : List Frame} {meth : Method} {c : Code} {g : Gh} (X : Cx p l e R s m args below meth c g cX0_readInto 3 (0, 0) RX0 7) (hr : meth.sig.returnType = (some (.int))) (b1 : Nat) (hb1 : isSh b1) (M : Mem) : J p l e R s m args below meth c g 3 (0, 0) (QfI below args s g) (pi_X0_readInto_e b1 M) M 0 [(0, .ref (gA g 37)), (1, .ref (gA g b1))] [] := by
  unfold pi_X0_readInto_e
  refine j_aload_n (i := 0) X dX0_readInto_0 rfl rfl ?_
  refine j_iconst (v := 0) X dX0_readInto_1 rfl ?_
  refine j_put_rd (ty := .int) 3 X (by decide) wq_3 (fun _ => rfl) rfl (by decide +kernel) rfl rfl dX0_readInto_2 ?_
  refine j_bM (fun M_1 => ?_)
  refine j_aload_n (i := 0) X dX0_readInto_5 rfl rfl ?_
  refine k_cVV (As := []) (rest := []) (by decide) (cf_rd _) rfl X (ct_X0_advance l g M_1) wl_X0_22 rfl rfl (by decide) (Nat.le_of_ble_eq_true rfl) dX0_readInto_6 (fun M_2 => ?_)
  refine j_iconst (v := 1) X dX0_readInto_9 rfl ?_
  refine j_istore_n (i := 2) (Lq := [(0, .ref (gA g 37)), (1, .ref (gA g b1)), (2, .int 1)]) X dX0_readInto_10 rfl (by decide) rfl ?_
  exact j_lp (Lf := fun x => [(0, .ref (gA g 37)), (1, .ref (gA g b1)), (2, .int x.1)]) (Mf := fun x => x.2) (fun rc11 hc11 x => pj_X0_readInto_11 X hr b1 hb1 rc11 hc11 x.1 x.2) FU (1, M_2)
def mi_X0_readInto (b1 : Nat) (M : Mem) : Option (Int32 × Mem) := pi_X0_readInto_e b1 M
theorem ct_X0_readInto (l : Launch) (g : Gh) (b1 : Nat) (hb1 : isSh b1) (M : Mem) : CtI l g yX0_readInto cX0_readInto 3 (some (.int)) 7 [.ref (gA g 37), .ref (gA g b1)] M (mi_X0_readInto b1 M) := ctI_of (own := RX0) (L := [(0, .ref (gA g 37)), (1, .ref (gA g b1))]) (by decide +kernel) rfl (Nat.le_of_ble_eq_true rfl) rfl (fun p e s m args below meth c X hr => pj_X0_readInto_e X hr b1 hb1 M)

def pi_X1_begin_15 (b : Nat) (v1 : Int32) (v2 : Int32) (t0 : Int32) (M : Mem) : Option (Mem) := bM (up M b 1 t0) fun M_2 => bv (mi_J7_fill_53178 (b + 1) 40 0 M_2) fun M_3 => some M_3
set_option maxRecDepth 100000 in
set_option maxHeartbeats 4000000 in
theorem pj_X1_begin_15 {p : Program} {l : Launch} {e : Env} {R : Room} {s : State} {m : MethodId} {args : Array Value} {below : List Frame} {meth : Method} {c : Code} {g : Gh} (X : Cx p l e R s m args below meth c g cX1_begin 3 (0, 0) RX1 1) (hr : meth.sig.returnType = none) (b : Nat) (v1 : Int32) (v2 : Int32) (hb : isSt b) (t0 : Int32) (M : Mem) : J p l e R s m args below meth c g 3 (0, 0) (QfV below args s g) (pi_X1_begin_15 b v1 v2 t0 M) M 15 [(0, .ref (gA g b)), (1, .int v1), (2, .int v2)] [.int t0, .ref (gA g b)] := by
  unfold pi_X1_begin_15
  refine j_put_st (ty := .int) hb 1 X (by decide) wq_96 (fun _ => rfl) rfl (by decide +kernel) rfl rfl dX1_begin_15 ?_
  refine j_bM (fun M_2 => ?_)
  refine j_aload_n (i := 0) X dX1_begin_18 rfl rfl ?_
  refine j_get_st hb 2 X (by decide) wq_97 rfl dX1_begin_19 ?_
  refine j_iconst (v := 0) X dX1_begin_22 rfl ?_
  refine k_cSV (As := [.ref (gA g (b + 1)), .int 0]) (rest := []) X (ct_J7_fill_53178 l g (b + 1) 40 0 (ia_st hb) M_2) wl_X1_22 rfl rfl (by decide) (Nat.le_of_ble_eq_true rfl) dX1_begin_23 (fun M_3 => ?_)
  exact j_vret X hr dX1_begin_26
def pi_X1_begin_e (b : Nat) (v1 : Int32) (v2 : Int32) (M : Mem) : Option (Mem) := bM (up M b 0 v1) fun M_1 => if v1 = 0 then (pi_X1_begin_15 b v1 v2 0 M_1) else (pi_X1_begin_15 b v1 v2 v2 M_1)
set_option maxRecDepth 100000 in
set_option maxHeartbeats 4000000 in
theorem pj_X1_begin_e {p : Program} {l : Launch} {e : Env} {R : Room} {s : State} {m : MethodId} {args : Array Value} {below : List Frame} {meth : Method} {c : Code} {g : Gh} (X : Cx p l e R s m args below meth c g cX1_begin 3 (0, 0) RX1 1) (hr : meth.sig.returnType = none) (b : Nat) (v1 : Int32) (v2 : Int32) (hb : isSt b) (M : Mem) : J p l e R s m args below meth c g 3 (0, 0) (QfV below args s g) (pi_X1_begin_e b v1 v2 M) M 0 [(0, .ref (gA g b)), (1, .int v1), (2, .int v2)] [] := by
  unfold pi_X1_begin_e
  refine j_aload_n (i := 0) X dX1_begin_0 rfl rfl ?_
  refine j_iload_n (i := 1) X dX1_begin_1 rfl rfl ?_
  refine j_put_st (ty := .int) hb 0 X (by decide) wq_95 (fun _ => rfl) rfl (by decide +kernel) rfl rfl dX1_begin_2 ?_
  refine j_bM (fun M_1 => ?_)
  refine j_aload_n (i := 0) X dX1_begin_5 rfl rfl ?_
  refine j_iload_n (i := 1) X dX1_begin_6 rfl rfl ?_
  refine j_if_ne (tgt := 14) X dX1_begin_7 (by decide) ?_ ?_
  · refine j_iconst (v := 0) X dX1_begin_10 rfl ?_
    refine j_goto (tgt := 15) X dX1_begin_11 (by decide) ?_
    exact pj_X1_begin_15 X hr b v1 v2 hb 0 M_1
  · refine j_iload_n (i := 2) X dX1_begin_14 rfl rfl ?_
    exact pj_X1_begin_15 X hr b v1 v2 hb v2 M_1
def mi_X1_begin (b : Nat) (v1 : Int32) (v2 : Int32) (M : Mem) : Option (Mem) := pi_X1_begin_e b v1 v2 M
theorem ct_X1_begin (l : Launch) (g : Gh) (b : Nat) (v1 : Int32) (v2 : Int32) (hb : isSt b) (M : Mem) : CtV l g yX1_begin cX1_begin 3 none 1 [.ref (gA g b), .int v1, .int v2] M (mi_X1_begin b v1 v2 M) := ctV_of (own := RX1) (L := [(0, .ref (gA g b)), (1, .int v1), (2, .int v2)]) (by decide +kernel) rfl (Nat.le_of_ble_eq_true rfl) rfl (fun p e s m args below meth c X hr => pj_X1_begin_e X hr b v1 v2 hb M)

def pi_X1_isMissing_e (b : Nat) (M : Mem) : Option (Int32 × Mem) := if (M b 0) = 0 then (gd (isB 1) (some (1, M))) else (gd (isB 0) (some (0, M)))
set_option maxRecDepth 100000 in
set_option maxHeartbeats 4000000 in
theorem pj_X1_isMissing_e {p : Program} {l : Launch} {e : Env} {R : Room} {s : State} {m : MethodId} {args : Array Value} {below : List Frame} {meth : Method} {c : Code} {g : Gh} (X : Cx p l e R s m args below meth c g cX1_isMissing 1 (0, 0) RX1 0) (hr : meth.sig.returnType = (some (.boolean))) (b : Nat) (hb : isSt b) (M : Mem) : J p l e R s m args below meth c g 1 (0, 0) (QfI below args s g) (pi_X1_isMissing_e b M) M 0 [(0, .ref (gA g b))] [] := by
  unfold pi_X1_isMissing_e
  refine j_aload_n (i := 0) X dX1_isMissing_0 rfl rfl ?_
  refine j_get_st hb 0 X (by decide) wq_95 rfl dX1_isMissing_1 ?_
  refine j_if_ne (tgt := 11) X dX1_isMissing_4 (by decide) ?_ ?_
  · refine j_iconst (v := 1) X dX1_isMissing_7 rfl ?_
    refine j_goto (tgt := 12) X dX1_isMissing_8 (by decide) ?_
    exact j_zret X hr dX1_isMissing_12
  · refine j_iconst (v := 0) X dX1_isMissing_11 rfl ?_
    exact j_zret X hr dX1_isMissing_12
def mi_X1_isMissing (b : Nat) (M : Mem) : Option (Int32 × Mem) := pi_X1_isMissing_e b M
theorem ct_X1_isMissing (l : Launch) (g : Gh) (b : Nat) (hb : isSt b) (M : Mem) : CtI l g yX1_isMissing cX1_isMissing 1 (some (.boolean)) 0 [.ref (gA g b)] M (mi_X1_isMissing b M) := ctI_of (own := RX1) (L := [(0, .ref (gA g b))]) (by decide +kernel) rfl (Nat.le_of_ble_eq_true rfl) rfl (fun p e s m args below meth c X hr => pj_X1_isMissing_e X hr b hb M)

def pi_X1_put_e (b : Nat) (v1 : Int32) (v2 : Int32) (M : Mem) : Option (Mem) := if (M b 0) = 8 then (gd (inb v1 40) <| bM (up M (b + 1) v1.toNatClampNeg v2.toInt8.toInt32) fun M_2 => some M_2) else (if (M b 0) = 16 then (gd (inb v1 40) <| bM (up M (b + 1) v1.toNatClampNeg v2.toInt16.toInt32) fun M_4 => some M_4) else (gd (inb v1 40) <| bM (up M (b + 1) v1.toNatClampNeg v2) fun M_6 => some M_6))
set_option maxRecDepth 100000 in
set_option maxHeartbeats 4000000 in
theorem pj_X1_put_e {p : Program} {l : Launch} {e : Env} {R : Room} {s : State} {m : MethodId} {args : Array Value} {below : List Frame} {meth : Method} {c : Code} {g : Gh} (X : Cx p l e R s m args below meth c g cX1_put 3 (0, 0) RX1 0) (hr : meth.sig.returnType = none) (b : Nat) (v1 : Int32) (v2 : Int32) (hb : isSt b) (M : Mem) : J p l e R s m args below meth c g 3 (0, 0) (QfV below args s g) (pi_X1_put_e b v1 v2 M) M 0 [(0, .ref (gA g b)), (1, .int v1), (2, .int v2)] [] := by
  unfold pi_X1_put_e
  refine j_aload_n (i := 0) X dX1_put_0 rfl rfl ?_
  refine j_get_st hb 0 X (by decide) wq_95 rfl dX1_put_1 ?_
  refine j_bipush (v := 8) X dX1_put_4 rfl ?_
  refine j_icmp_ne (tgt := 20) X dX1_put_6 (by decide) ?_ ?_
  · refine j_aload_n (i := 0) X dX1_put_9 rfl rfl ?_
    refine j_get_st hb 2 X (by decide) wq_97 rfl dX1_put_10 ?_
    refine j_iload_n (i := 1) X dX1_put_13 rfl rfl ?_
    refine j_iload_n (i := 2) X dX1_put_14 rfl rfl ?_
    refine j_i2b X dX1_put_15 ?_
    refine j_iast X (ia_st hb) dX1_put_16 (fun h_1 => ?_)
    refine j_bM (fun M_2 => ?_)
    refine j_goto (tgt := 47) X dX1_put_17 (by decide) ?_
    exact j_vret X hr dX1_put_47
  · refine j_aload_n (i := 0) X dX1_put_20 rfl rfl ?_
    refine j_get_st hb 0 X (by decide) wq_95 rfl dX1_put_21 ?_
    refine j_bipush (v := 16) X dX1_put_24 rfl ?_
    refine j_icmp_ne (tgt := 40) X dX1_put_26 (by decide) ?_ ?_
    · refine j_aload_n (i := 0) X dX1_put_29 rfl rfl ?_
      refine j_get_st hb 2 X (by decide) wq_97 rfl dX1_put_30 ?_
      refine j_iload_n (i := 1) X dX1_put_33 rfl rfl ?_
      refine j_iload_n (i := 2) X dX1_put_34 rfl rfl ?_
      refine j_i2s X dX1_put_35 ?_
      refine j_iast X (ia_st hb) dX1_put_36 (fun h_3 => ?_)
      refine j_bM (fun M_4 => ?_)
      refine j_goto (tgt := 47) X dX1_put_37 (by decide) ?_
      exact j_vret X hr dX1_put_47
    · refine j_aload_n (i := 0) X dX1_put_40 rfl rfl ?_
      refine j_get_st hb 2 X (by decide) wq_97 rfl dX1_put_41 ?_
      refine j_iload_n (i := 1) X dX1_put_44 rfl rfl ?_
      refine j_iload_n (i := 2) X dX1_put_45 rfl rfl ?_
      refine j_iast X (ia_st hb) dX1_put_46 (fun h_5 => ?_)
      refine j_bM (fun M_6 => ?_)
      exact j_vret X hr dX1_put_47
def mi_X1_put (b : Nat) (v1 : Int32) (v2 : Int32) (M : Mem) : Option (Mem) := pi_X1_put_e b v1 v2 M
theorem ct_X1_put (l : Launch) (g : Gh) (b : Nat) (v1 : Int32) (v2 : Int32) (hb : isSt b) (M : Mem) : CtV l g yX1_put cX1_put 3 none 0 [.ref (gA g b), .int v1, .int v2] M (mi_X1_put b v1 v2 M) := ctV_of (own := RX1) (L := [(0, .ref (gA g b)), (1, .int v1), (2, .int v2)]) (by decide +kernel) rfl (Nat.le_of_ble_eq_true rfl) rfl (fun p e s m args below meth c X hr => pj_X1_put_e X hr b v1 v2 hb M)

def pi_X1_reaches_e (b : Nat) (v1 : Int32) (v2 : Int32) (M : Mem) : Option (Int32 × Mem) := if v1 < 0 then (gd (isB 0) (some (0, M))) else (if v2 < 0 then (gd (isB 0) (some (0, M))) else (if (M b 1) < v1 then (gd (isB 0) (some (0, M))) else (if ((M b 1) - v1) < v2 then (gd (isB 0) (some (0, M))) else (gd (isB 1) (some (1, M))))))
set_option maxRecDepth 100000 in
set_option maxHeartbeats 4000000 in
theorem pj_X1_reaches_e {p : Program} {l : Launch} {e : Env} {R : Room} {s : State} {m : MethodId} {args : Array Value} {below : List Frame} {meth : Method} {c : Code} {g : Gh} (X : Cx p l e R s m args below meth c g cX1_reaches 3 (0, 0) RX1 0) (hr : meth.sig.returnType = (some (.boolean))) (b : Nat) (v1 : Int32) (v2 : Int32) (hb : isSt b) (M : Mem) : J p l e R s m args below meth c g 3 (0, 0) (QfI below args s g) (pi_X1_reaches_e b v1 v2 M) M 0 [(0, .ref (gA g b)), (1, .int v1), (2, .int v2)] [] := by
  unfold pi_X1_reaches_e
  refine j_iload_n (i := 1) X dX1_reaches_0 rfl rfl ?_
  refine j_if_lt (tgt := 30) X dX1_reaches_1 (by decide) ?_ ?_
  · refine j_iconst (v := 0) X dX1_reaches_30 rfl ?_
    exact j_zret X hr dX1_reaches_31
  · refine j_iload_n (i := 2) X dX1_reaches_4 rfl rfl ?_
    refine j_if_lt (tgt := 30) X dX1_reaches_5 (by decide) ?_ ?_
    · refine j_iconst (v := 0) X dX1_reaches_30 rfl ?_
      exact j_zret X hr dX1_reaches_31
    · refine j_iload_n (i := 1) X dX1_reaches_8 rfl rfl ?_
      refine j_aload_n (i := 0) X dX1_reaches_9 rfl rfl ?_
      refine j_get_st hb 1 X (by decide) wq_96 rfl dX1_reaches_10 ?_
      refine j_icmp_gt (tgt := 30) X dX1_reaches_13 (by decide) ?_ ?_
      · refine j_iconst (v := 0) X dX1_reaches_30 rfl ?_
        exact j_zret X hr dX1_reaches_31
      · refine j_iload_n (i := 2) X dX1_reaches_16 rfl rfl ?_
        refine j_aload_n (i := 0) X dX1_reaches_17 rfl rfl ?_
        refine j_get_st hb 1 X (by decide) wq_96 rfl dX1_reaches_18 ?_
        refine j_iload_n (i := 1) X dX1_reaches_21 rfl rfl ?_
        refine j_isub X dX1_reaches_22 ?_
        refine j_icmp_gt (tgt := 30) X dX1_reaches_23 (by decide) ?_ ?_
        · refine j_iconst (v := 0) X dX1_reaches_30 rfl ?_
          exact j_zret X hr dX1_reaches_31
        · refine j_iconst (v := 1) X dX1_reaches_26 rfl ?_
          refine j_goto (tgt := 31) X dX1_reaches_27 (by decide) ?_
          exact j_zret X hr dX1_reaches_31
def mi_X1_reaches (b : Nat) (v1 : Int32) (v2 : Int32) (M : Mem) : Option (Int32 × Mem) := pi_X1_reaches_e b v1 v2 M
theorem ct_X1_reaches (l : Launch) (g : Gh) (b : Nat) (v1 : Int32) (v2 : Int32) (hb : isSt b) (M : Mem) : CtI l g yX1_reaches cX1_reaches 3 (some (.boolean)) 0 [.ref (gA g b), .int v1, .int v2] M (mi_X1_reaches b v1 v2 M) := ctI_of (own := RX1) (L := [(0, .ref (gA g b)), (1, .int v1), (2, .int v2)]) (by decide +kernel) rfl (Nat.le_of_ble_eq_true rfl) rfl (fun p e s m args below meth c X hr => pj_X1_reaches_e X hr b v1 v2 hb M)

def pi_X2_lacks_e (b : Nat) (v1 : Int32) (M : Mem) : Option (Int32 × Mem) := if v1 < 0 then (gd (isB 1) (some (1, M))) else (if v1 < (M b 3) then (gd (isB 0) (some (0, M))) else (gd (isB 1) (some (1, M))))
set_option maxRecDepth 100000 in
set_option maxHeartbeats 4000000 in
theorem pj_X2_lacks_e {p : Program} {l : Launch} {e : Env} {R : Room} {s : State} {m : MethodId} {args : Array Value} {below : List Frame} {meth : Method} {c : Code} {g : Gh} (X : Cx p l e R s m args below meth c g cX2_lacks 2 (0, 0) RX2 0) (hr : meth.sig.returnType = (some (.boolean))) (b : Nat) (v1 : Int32) (hb : isSh b) (M : Mem) : J p l e R s m args below meth c g 2 (0, 0) (QfI below args s g) (pi_X2_lacks_e b v1 M) M 0 [(0, .ref (gA g b)), (1, .int v1)] [] := by
  unfold pi_X2_lacks_e
  refine j_iload_n (i := 1) X dX2_lacks_0 rfl rfl ?_
  refine j_if_lt (tgt := 12) X dX2_lacks_1 (by decide) ?_ ?_
  · refine j_iconst (v := 1) X dX2_lacks_12 rfl ?_
    refine j_goto (tgt := 17) X dX2_lacks_13 (by decide) ?_
    exact j_zret X hr dX2_lacks_17
  · refine j_iload_n (i := 1) X dX2_lacks_4 rfl rfl ?_
    refine j_aload_n (i := 0) X dX2_lacks_5 rfl rfl ?_
    refine j_get_sh hb 3 X (by decide) wq_46 rfl dX2_lacks_6 ?_
    refine j_icmp_lt (tgt := 16) X dX2_lacks_9 (by decide) ?_ ?_
    · refine j_iconst (v := 0) X dX2_lacks_16 rfl ?_
      exact j_zret X hr dX2_lacks_17
    · refine j_iconst (v := 1) X dX2_lacks_12 rfl ?_
      refine j_goto (tgt := 17) X dX2_lacks_13 (by decide) ?_
      exact j_zret X hr dX2_lacks_17
def mi_X2_lacks (b : Nat) (v1 : Int32) (M : Mem) : Option (Int32 × Mem) := pi_X2_lacks_e b v1 M
theorem ct_X2_lacks (l : Launch) (g : Gh) (b : Nat) (v1 : Int32) (hb : isSh b) (M : Mem) : CtI l g yX2_lacks cX2_lacks 2 (some (.boolean)) 0 [.ref (gA g b), .int v1] M (mi_X2_lacks b v1 M) := ctI_of (own := RX2) (L := [(0, .ref (gA g b)), (1, .int v1)]) (by decide +kernel) rfl (Nat.le_of_ble_eq_true rfl) rfl (fun p e s m args below meth c X hr => pj_X2_lacks_e X hr b v1 hb M)

def pi_X2_trait_e (b : Nat) (v1 : Int32) (v2 : Int32) (M : Mem) : Option (Int32 × Mem) := swc v2 [(0, gd (inb v1 8) <| some (M (b + 2) v1.toNatClampNeg, M)), (1, gd (inb v1 8) <| some (M (b + 3) v1.toNatClampNeg, M)), (2, gd (inb v1 8) <| some (M (b + 4) v1.toNatClampNeg, M)), (3, gd (inb v1 8) <| some (M (b + 5) v1.toNatClampNeg, M)), (4, gd (inb v1 8) <| some (M (b + 6) v1.toNatClampNeg, M)), (5, gd (inb v1 8) <| some (M (b + 7) v1.toNatClampNeg, M))] (gd (inb v1 8) <| some (M (b + 8) v1.toNatClampNeg, M))
set_option maxRecDepth 100000 in
set_option maxHeartbeats 4000000 in
theorem pj_X2_trait_e {p : Program} {l : Launch} {e : Env} {R : Room} {s : State} {m : MethodId} {args : Array Value} {below : List Frame} {meth : Method} {c : Code} {g : Gh} (X : Cx p l e R s m args below meth c g cX2_trait 3 (0, 0) RX2 0) (hr : meth.sig.returnType = (some (.int))) (b : Nat) (v1 : Int32) (v2 : Int32) (hb : isSh b) (M : Mem) : J p l e R s m args below meth c g 3 (0, 0) (QfI below args s g) (pi_X2_trait_e b v1 v2 M) M 0 [(0, .ref (gA g b)), (1, .int v1), (2, .int v2)] [] := by
  unfold pi_X2_trait_e
  refine j_iload_n (i := 2) X dX2_trait_0 rfl rfl ?_
  refine j_tsw [0, 1, 2, 3, 4, 5] [40, 47, 54, 61, 68, 75] (dt := 82) X dX2_trait_1 rfl (by decide +kernel) (by decide +kernel) (by decide) ⟨?_, ?_, ?_, ?_, ?_, ?_, trivial⟩ ?_
  · refine j_aload_n (i := 0) X dX2_trait_40 rfl rfl ?_
    refine j_get_sh hb 5 X (by decide) wq_51 rfl dX2_trait_41 ?_
    refine j_iload_n (i := 1) X dX2_trait_44 rfl rfl ?_
    refine j_iald X (ia_sh2 hb) dX2_trait_45 (fun h_1 => ?_)
    exact j_iret X hr dX2_trait_46
  · refine j_aload_n (i := 0) X dX2_trait_47 rfl rfl ?_
    refine j_get_sh hb 6 X (by decide) wq_49 rfl dX2_trait_48 ?_
    refine j_iload_n (i := 1) X dX2_trait_51 rfl rfl ?_
    refine j_iald X (ia_sh3 hb) dX2_trait_52 (fun h_2 => ?_)
    exact j_iret X hr dX2_trait_53
  · refine j_aload_n (i := 0) X dX2_trait_54 rfl rfl ?_
    refine j_get_sh hb 7 X (by decide) wq_57 rfl dX2_trait_55 ?_
    refine j_iload_n (i := 1) X dX2_trait_58 rfl rfl ?_
    refine j_iald X (ia_sh4 hb) dX2_trait_59 (fun h_3 => ?_)
    exact j_iret X hr dX2_trait_60
  · refine j_aload_n (i := 0) X dX2_trait_61 rfl rfl ?_
    refine j_get_sh hb 8 X (by decide) wq_50 rfl dX2_trait_62 ?_
    refine j_iload_n (i := 1) X dX2_trait_65 rfl rfl ?_
    refine j_iald X (ia_sh5 hb) dX2_trait_66 (fun h_4 => ?_)
    exact j_iret X hr dX2_trait_67
  · refine j_aload_n (i := 0) X dX2_trait_68 rfl rfl ?_
    refine j_get_sh hb 9 X (by decide) wq_58 rfl dX2_trait_69 ?_
    refine j_iload_n (i := 1) X dX2_trait_72 rfl rfl ?_
    refine j_iald X (ia_sh6 hb) dX2_trait_73 (fun h_5 => ?_)
    exact j_iret X hr dX2_trait_74
  · refine j_aload_n (i := 0) X dX2_trait_75 rfl rfl ?_
    refine j_get_sh hb 10 X (by decide) wq_59 rfl dX2_trait_76 ?_
    refine j_iload_n (i := 1) X dX2_trait_79 rfl rfl ?_
    refine j_iald X (ia_sh7 hb) dX2_trait_80 (fun h_6 => ?_)
    exact j_iret X hr dX2_trait_81
  · refine j_aload_n (i := 0) X dX2_trait_82 rfl rfl ?_
    refine j_get_sh hb 11 X (by decide) wq_48 rfl dX2_trait_83 ?_
    refine j_iload_n (i := 1) X dX2_trait_86 rfl rfl ?_
    refine j_iald X (ia_sh8 hb) dX2_trait_87 (fun h_7 => ?_)
    exact j_iret X hr dX2_trait_88
def mi_X2_trait (b : Nat) (v1 : Int32) (v2 : Int32) (M : Mem) : Option (Int32 × Mem) := pi_X2_trait_e b v1 v2 M
theorem ct_X2_trait (l : Launch) (g : Gh) (b : Nat) (v1 : Int32) (v2 : Int32) (hb : isSh b) (M : Mem) : CtI l g yX2_trait cX2_trait 3 (some (.int)) 0 [.ref (gA g b), .int v1, .int v2] M (mi_X2_trait b v1 v2 M) := ctI_of (own := RX2) (L := [(0, .ref (gA g b)), (1, .int v1), (2, .int v2)]) (by decide +kernel) rfl (Nat.le_of_ble_eq_true rfl) rfl (fun p e s m args below meth c X hr => pj_X2_trait_e X hr b v1 v2 hb M)
