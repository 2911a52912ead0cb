def pi_X2_partnerMoves_e (b : Nat) (v1 : Int32) (M : Mem) : Option (Int32 × Mem) := gd (inb v1 8) <| if (M (b + 9) v1.toNatClampNeg) = 0 then (gd (inb v1 8) <| some (M (b + 4) v1.toNatClampNeg, M)) else (some (0, M))
set_option maxRecDepth 100000 in
set_option maxHeartbeats 4000000 in
theorem pj_X2_partnerMoves_e {p : Program} {l : Launch} {e : Env} {R : Room} {s : State} {m : MethodId} {args : Array Value} {below : List Frame} {meth : Method} {c : Code} {g : Gh} (X : Cx p l e R s m args below meth c g cX2_partnerMoves 2 (0, 0) RX2 0) (hr : meth.sig.returnType = (some (.int))) (b : Nat) (v1 : Int32) (hb : isSh b) (M : Mem) : J p l e R s m args below meth c g 2 (0, 0) (QfI below args s g) (pi_X2_partnerMoves_e b v1 M) M 0 [(0, .ref (gA g b)), (1, .int v1)] [] := by
  unfold pi_X2_partnerMoves_e
  refine j_aload_n (i := 0) X dX2_partnerMoves_0 rfl rfl ?_
  refine j_get_sh hb 12 X (by decide) wq_47 rfl dX2_partnerMoves_1 ?_
  refine j_iload_n (i := 1) X dX2_partnerMoves_4 rfl rfl ?_
  refine j_iald X (ia_sh9 hb) dX2_partnerMoves_5 (fun h_1 => ?_)
  refine j_if_eq (tgt := 13) X dX2_partnerMoves_6 (by decide) ?_ ?_
  · refine j_aload_n (i := 0) X dX2_partnerMoves_13 rfl rfl ?_
    refine j_get_sh hb 7 X (by decide) wq_57 rfl dX2_partnerMoves_14 ?_
    refine j_iload_n (i := 1) X dX2_partnerMoves_17 rfl rfl ?_
    refine j_iald X (ia_sh4 hb) dX2_partnerMoves_18 (fun h_2 => ?_)
    exact j_iret X hr dX2_partnerMoves_19
  · refine j_iconst (v := 0) X dX2_partnerMoves_9 rfl ?_
    refine j_goto (tgt := 19) X dX2_partnerMoves_10 (by decide) ?_
    exact j_iret X hr dX2_partnerMoves_19
def mi_X2_partnerMoves (b : Nat) (v1 : Int32) (M : Mem) : Option (Int32 × Mem) := pi_X2_partnerMoves_e b v1 M
theorem ct_X2_partnerMoves (l : Launch) (g : Gh) (b : Nat) (v1 : Int32) (hb : isSh b) (M : Mem) : CtI l g yX2_partnerMoves cX2_partnerMoves 2 (some (.int)) 0 [.ref (gA g b), .int v1] M (mi_X2_partnerMoves b v1 M) := ctI_of (own := RX2) (L := [(0, .ref (gA g b)), (1, .int v1)]) (by decide +kernel) rfl (Nat.le_of_ble_eq_true rfl) rfl (fun p e s m args below meth c X hr => pj_X2_partnerMoves_e X hr b v1 hb M)

def pi_X2_tallOf_e (b : Nat) (v1 : Int32) (M : Mem) : Option (Int32 × Mem) := gd (inb v1 8) <| if (M (b + 6) v1.toNatClampNeg) ≤ 50 then (some (0, M)) else (some (1, M))
set_option maxRecDepth 100000 in
set_option maxHeartbeats 4000000 in
theorem pj_X2_tallOf_e {p : Program} {l : Launch} {e : Env} {R : Room} {s : State} {m : MethodId} {args : Array Value} {below : List Frame} {meth : Method} {c : Code} {g : Gh} (X : Cx p l e R s m args below meth c g cX2_tallOf 2 (0, 0) RX2 0) (hr : meth.sig.returnType = (some (.int))) (b : Nat) (v1 : Int32) (hb : isSh b) (M : Mem) : J p l e R s m args below meth c g 2 (0, 0) (QfI below args s g) (pi_X2_tallOf_e b v1 M) M 0 [(0, .ref (gA g b)), (1, .int v1)] [] := by
  unfold pi_X2_tallOf_e
  refine j_aload_n (i := 0) X dX2_tallOf_0 rfl rfl ?_
  refine j_get_sh hb 9 X (by decide) wq_58 rfl dX2_tallOf_1 ?_
  refine j_iload_n (i := 1) X dX2_tallOf_4 rfl rfl ?_
  refine j_iald X (ia_sh6 hb) dX2_tallOf_5 (fun h_1 => ?_)
  refine j_bipush (v := 50) X dX2_tallOf_6 rfl ?_
  refine j_icmp_le (tgt := 15) X dX2_tallOf_8 (by decide) ?_ ?_
  · refine j_iconst (v := 0) X dX2_tallOf_15 rfl ?_
    exact j_iret X hr dX2_tallOf_16
  · refine j_iconst (v := 1) X dX2_tallOf_11 rfl ?_
    refine j_goto (tgt := 16) X dX2_tallOf_12 (by decide) ?_
    exact j_iret X hr dX2_tallOf_16
def mi_X2_tallOf (b : Nat) (v1 : Int32) (M : Mem) : Option (Int32 × Mem) := pi_X2_tallOf_e b v1 M
theorem ct_X2_tallOf (l : Launch) (g : Gh) (b : Nat) (v1 : Int32) (hb : isSh b) (M : Mem) : CtI l g yX2_tallOf cX2_tallOf 2 (some (.int)) 0 [.ref (gA g b), .int v1] M (mi_X2_tallOf b v1 M) := ctI_of (own := RX2) (L := [(0, .ref (gA g b)), (1, .int v1)]) (by decide +kernel) rfl (Nat.le_of_ble_eq_true rfl) rfl (fun p e s m args below meth c X hr => pj_X2_tallOf_e X hr b v1 hb M)

def pi_J6_bitCount_0f7a4_e (v0 : Int32) (M : Mem) : Option (Int32 × Mem) := bI (v0 - (((v0.toUInt32 >>> ((1 : Int32).toUInt32 &&& Int32.toUInt32 31)).toInt32) &&& 1431655765)) fun v0_1 => bI ((v0_1 &&& 858993459) + (((v0_1.toUInt32 >>> ((2 : Int32).toUInt32 &&& Int32.toUInt32 31)).toInt32) &&& 858993459)) fun v0_2 => bI ((v0_2 + ((v0_2.toUInt32 >>> ((4 : Int32).toUInt32 &&& Int32.toUInt32 31)).toInt32)) &&& 252645135) fun v0_3 => bI (v0_3 + ((v0_3.toUInt32 >>> ((8 : Int32).toUInt32 &&& Int32.toUInt32 31)).toInt32)) fun v0_4 => bI (v0_4 + ((v0_4.toUInt32 >>> ((16 : Int32).toUInt32 &&& Int32.toUInt32 31)).toInt32)) fun v0_5 => some (v0_5 &&& 63, M)
set_option maxRecDepth 100000 in
set_option maxHeartbeats 4000000 in
theorem pj_J6_bitCount_0f7a4_e {p : Program} {l : Launch} {e : Env} {R : Room} {s : State} {m : MethodId} {args : Array Value} {below : List Frame} {meth : Method} {c : Code} {g : Gh} (X : Cx p l e R s m args below meth c g cJ6_bitCount_0f7a4 1 (0, 0) RJ6 0) (hr : meth.sig.returnType = (some (.int))) (v0 : Int32) (M : Mem) : J p l e R s m args below meth c g 1 (0, 0) (QfI below args s g) (pi_J6_bitCount_0f7a4_e v0 M) M 0 [(0, .int v0)] [] := by
  unfold pi_J6_bitCount_0f7a4_e
  refine j_iload_n (i := 0) X dJ6_bitCount_0f7a4_0 rfl rfl ?_
  refine j_iload_n (i := 0) X dJ6_bitCount_0f7a4_1 rfl rfl ?_
  refine j_iconst (v := 1) X dJ6_bitCount_0f7a4_2 rfl ?_
  refine j_iushr X dJ6_bitCount_0f7a4_3 ?_
  refine j_ldcw (v := 1431655765) X wq_120 dJ6_bitCount_0f7a4_4 ?_
  refine j_iand X dJ6_bitCount_0f7a4_7 ?_
  refine j_isub X dJ6_bitCount_0f7a4_8 ?_
  refine j_bI (fun v0_1 => ?_)
  refine j_istore_n (i := 0) (Lq := [(0, .int v0_1)]) X dJ6_bitCount_0f7a4_9 rfl (by decide) rfl ?_
  refine j_iload_n (i := 0) X dJ6_bitCount_0f7a4_10 rfl rfl ?_
  refine j_ldcw (v := 858993459) X wq_121 dJ6_bitCount_0f7a4_11 ?_
  refine j_iand X dJ6_bitCount_0f7a4_14 ?_
  refine j_iload_n (i := 0) X dJ6_bitCount_0f7a4_15 rfl rfl ?_
  refine j_iconst (v := 2) X dJ6_bitCount_0f7a4_16 rfl ?_
  refine j_iushr X dJ6_bitCount_0f7a4_17 ?_
  refine j_ldcw (v := 858993459) X wq_121 dJ6_bitCount_0f7a4_18 ?_
  refine j_iand X dJ6_bitCount_0f7a4_21 ?_
  refine j_iadd X dJ6_bitCount_0f7a4_22 ?_
  refine j_bI (fun v0_2 => ?_)
  refine j_istore_n (i := 0) (Lq := [(0, .int v0_2)]) X dJ6_bitCount_0f7a4_23 rfl (by decide) rfl ?_
  refine j_iload_n (i := 0) X dJ6_bitCount_0f7a4_24 rfl rfl ?_
  refine j_iload_n (i := 0) X dJ6_bitCount_0f7a4_25 rfl rfl ?_
  refine j_iconst (v := 4) X dJ6_bitCount_0f7a4_26 rfl ?_
  refine j_iushr X dJ6_bitCount_0f7a4_27 ?_
  refine j_iadd X dJ6_bitCount_0f7a4_28 ?_
  refine j_ldcw (v := 252645135) X wq_122 dJ6_bitCount_0f7a4_29 ?_
  refine j_iand X dJ6_bitCount_0f7a4_32 ?_
  refine j_bI (fun v0_3 => ?_)
  refine j_istore_n (i := 0) (Lq := [(0, .int v0_3)]) X dJ6_bitCount_0f7a4_33 rfl (by decide) rfl ?_
  refine j_iload_n (i := 0) X dJ6_bitCount_0f7a4_34 rfl rfl ?_
  refine j_iload_n (i := 0) X dJ6_bitCount_0f7a4_35 rfl rfl ?_
  refine j_bipush (v := 8) X dJ6_bitCount_0f7a4_36 rfl ?_
  refine j_iushr X dJ6_bitCount_0f7a4_38 ?_
  refine j_iadd X dJ6_bitCount_0f7a4_39 ?_
  refine j_bI (fun v0_4 => ?_)
  refine j_istore_n (i := 0) (Lq := [(0, .int v0_4)]) X dJ6_bitCount_0f7a4_40 rfl (by decide) rfl ?_
  refine j_iload_n (i := 0) X dJ6_bitCount_0f7a4_41 rfl rfl ?_
  refine j_iload_n (i := 0) X dJ6_bitCount_0f7a4_42 rfl rfl ?_
  refine j_bipush (v := 16) X dJ6_bitCount_0f7a4_43 rfl ?_
  refine j_iushr X dJ6_bitCount_0f7a4_45 ?_
  refine j_iadd X dJ6_bitCount_0f7a4_46 ?_
  refine j_bI (fun v0_5 => ?_)
  refine j_istore_n (i := 0) (Lq := [(0, .int v0_5)]) X dJ6_bitCount_0f7a4_47 rfl (by decide) rfl ?_
  refine j_iload_n (i := 0) X dJ6_bitCount_0f7a4_48 rfl rfl ?_
  refine j_bipush (v := 63) X dJ6_bitCount_0f7a4_49 rfl ?_
  refine j_iand X dJ6_bitCount_0f7a4_51 ?_
  exact j_iret X hr dJ6_bitCount_0f7a4_52
def mi_J6_bitCount_0f7a4 (v0 : Int32) (M : Mem) : Option (Int32 × Mem) := pi_J6_bitCount_0f7a4_e v0 M
theorem ct_J6_bitCount_0f7a4 (l : Launch) (g : Gh) (v0 : Int32) (M : Mem) : CtI l g yJ6_bitCount_0f7a4 cJ6_bitCount_0f7a4 1 (some (.int)) 0 [.int v0] M (mi_J6_bitCount_0f7a4 v0 M) := ctI_of (own := RJ6) (L := [(0, .int v0)]) (by decide +kernel) rfl (Nat.le_of_ble_eq_true rfl) rfl (fun p e s m args below meth c X hr => pj_J6_bitCount_0f7a4_e X hr v0  M)

def pi_X2_twinMoves_e (b : Nat) (v1 : Int32) (M : Mem) : Option (Int32 × Mem) := bd (mi_X2_partnerMoves b v1 M) fun r_2 M_1 => gd (inb v1 8) <| gd (inb (M_1 (b + 3) v1.toNatClampNeg) 12) <| bd (mi_J6_bitCount_0f7a4 (M_1 (b + 10) (M_1 (b + 3) v1.toNatClampNeg).toNatClampNeg) M_1) fun r_6 M_5 => some ((r_2 + r_6) - 1, M_5)
set_option maxRecDepth 100000 in
set_option maxHeartbeats 4000000 in
theorem pj_X2_twinMoves_e {p : Program} {l : Launch} {e : Env} {R : Room} {s : State} {m : MethodId} {args : Array Value} {below : List Frame} {meth : Method} {c : Code} {g : Gh} (X : Cx p l e R s m args below meth c g cX2_twinMoves 2 (0, 0) RX2 1) (hr : meth.sig.returnType = (some (.int))) (b : Nat) (v1 : Int32) (hb : isSh b) (M : Mem) : J p l e R s m args below meth c g 2 (0, 0) (QfI below args s g) (pi_X2_twinMoves_e b v1 M) M 0 [(0, .ref (gA g b)), (1, .int v1)] [] := by
  unfold pi_X2_twinMoves_e
  refine j_aload_n (i := 0) X dX2_twinMoves_0 rfl rfl ?_
  refine j_iload_n (i := 1) X dX2_twinMoves_1 rfl rfl ?_
  refine k_cVI (As := [.int v1]) (rest := []) hb.lt (cf_sh hb _) rfl X (ct_X2_partnerMoves l g b v1 hb M) wl_X2_99 rfl rfl (by decide) (Nat.le_of_ble_eq_true rfl) dX2_twinMoves_2 (fun r_2 M_1 => ?_)
  refine j_aload_n (i := 0) X dX2_twinMoves_5 rfl rfl ?_
  refine j_get_sh hb 13 X (by decide) wq_40 rfl dX2_twinMoves_6 ?_
  refine j_aload_n (i := 0) X dX2_twinMoves_9 rfl rfl ?_
  refine j_get_sh hb 6 X (by decide) wq_49 rfl dX2_twinMoves_10 ?_
  refine j_iload_n (i := 1) X dX2_twinMoves_13 rfl rfl ?_
  refine j_iald X (ia_sh3 hb) dX2_twinMoves_14 (fun h_3 => ?_)
  refine j_iald X (ia_sh10 hb) dX2_twinMoves_15 (fun h_4 => ?_)
  refine k_cSI (As := [.int (M_1 (b + 10) (M_1 (b + 3) v1.toNatClampNeg).toNatClampNeg)]) (rest := [.int r_2]) X (ct_J6_bitCount_0f7a4 l g (M_1 (b + 10) (M_1 (b + 3) v1.toNatClampNeg).toNatClampNeg) M_1) wl_X2_105 rfl rfl (by decide) (Nat.le_of_ble_eq_true rfl) dX2_twinMoves_16 (fun r_6 M_5 => ?_)
  refine j_iadd X dX2_twinMoves_19 ?_
  refine j_iconst (v := 1) X dX2_twinMoves_20 rfl ?_
  refine j_isub X dX2_twinMoves_21 ?_
  exact j_iret X hr dX2_twinMoves_22
def mi_X2_twinMoves (b : Nat) (v1 : Int32) (M : Mem) : Option (Int32 × Mem) := pi_X2_twinMoves_e b v1 M
theorem ct_X2_twinMoves (l : Launch) (g : Gh) (b : Nat) (v1 : Int32) (hb : isSh b) (M : Mem) : CtI l g yX2_twinMoves cX2_twinMoves 2 (some (.int)) 1 [.ref (gA g b), .int v1] M (mi_X2_twinMoves b v1 M) := ctI_of (own := RX2) (L := [(0, .ref (gA g b)), (1, .int v1)]) (by decide +kernel) rfl (Nat.le_of_ble_eq_true rfl) rfl (fun p e s m args below meth c X hr => pj_X2_twinMoves_e X hr b v1 hb M)

def pi_X2_movesOf_e (b : Nat) (v1 : Int32) (M : Mem) : Option (Int32 × Mem) := gd (inb v1 8) <| swc (M (b + 2) v1.toNatClampNeg) [(0, gd (inb v1 8) <| some (M (b + 4) v1.toNatClampNeg, M)), (1, gd (inb v1 8) <| some (2 * (M (b + 4) v1.toNatClampNeg), M)), (2, bd (mi_X2_partnerMoves b v1 M) fun r_5 M_4 => some (r_5, M_4)), (3, bd (mi_X2_twinMoves b v1 M) fun r_7 M_6 => some (r_7, M_6)), (4, bd (mi_X2_twinMoves b v1 M) fun r_9 M_8 => some (-r_9, M_8)), (5, some (0, M)), (6, gd (inb v1 8) <| bd (mi_X2_tallOf b v1 M) fun r_12 M_11 => some ((2 * (M (b + 4) v1.toNatClampNeg)) + r_12, M_11))] (some (0, M))
set_option maxRecDepth 100000 in
set_option maxHeartbeats 4000000 in
theorem pj_X2_movesOf_e {p : Program} {l : Launch} {e : Env} {R : Room} {s : State} {m : MethodId} {args : Array Value} {below : List Frame} {meth : Method} {c : Code} {g : Gh} (X : Cx p l e R s m args below meth c g cX2_movesOf 2 (0, 0) RX2 2) (hr : meth.sig.returnType = (some (.int))) (b : Nat) (v1 : Int32) (hb : isSh b) (M : Mem) : J p l e R s m args below meth c g 2 (0, 0) (QfI below args s g) (pi_X2_movesOf_e b v1 M) M 0 [(0, .ref (gA g b)), (1, .int v1)] [] := by
  unfold pi_X2_movesOf_e
  refine j_aload_n (i := 0) X dX2_movesOf_0 rfl rfl ?_
  refine j_get_sh hb 5 X (by decide) wq_51 rfl dX2_movesOf_1 ?_
  refine j_iload_n (i := 1) X dX2_movesOf_4 rfl rfl ?_
  refine j_iald X (ia_sh2 hb) dX2_movesOf_5 (fun h_1 => ?_)
  refine j_tsw [0, 1, 2, 3, 4, 5, 6] [48, 55, 79, 85, 91, 98, 64] (dt := 98) X dX2_movesOf_6 rfl (by decide +kernel) (by decide +kernel) (by decide) ⟨?_, ?_, ?_, ?_, ?_, ?_, ?_, trivial⟩ ?_
  · refine j_aload_n (i := 0) X dX2_movesOf_48 rfl rfl ?_
    refine j_get_sh hb 7 X (by decide) wq_57 rfl dX2_movesOf_49 ?_
    refine j_iload_n (i := 1) X dX2_movesOf_52 rfl rfl ?_
    refine j_iald X (ia_sh4 hb) dX2_movesOf_53 (fun h_2 => ?_)
    exact j_iret X hr dX2_movesOf_54
  · refine j_iconst (v := 2) X dX2_movesOf_55 rfl ?_
    refine j_aload_n (i := 0) X dX2_movesOf_56 rfl rfl ?_
    refine j_get_sh hb 7 X (by decide) wq_57 rfl dX2_movesOf_57 ?_
    refine j_iload_n (i := 1) X dX2_movesOf_60 rfl rfl ?_
    refine j_iald X (ia_sh4 hb) dX2_movesOf_61 (fun h_3 => ?_)
    refine j_imul X dX2_movesOf_62 ?_
    exact j_iret X hr dX2_movesOf_63
  · refine j_aload_n (i := 0) X dX2_movesOf_79 rfl rfl ?_
    refine j_iload_n (i := 1) X dX2_movesOf_80 rfl rfl ?_
    refine k_cVI (As := [.int v1]) (rest := []) hb.lt (cf_sh hb _) rfl X (ct_X2_partnerMoves l g b v1 hb M) wl_X2_99 rfl rfl (by decide) (Nat.le_of_ble_eq_true rfl) dX2_movesOf_81 (fun r_5 M_4 => ?_)
    exact j_iret X hr dX2_movesOf_84
  · refine j_aload_n (i := 0) X dX2_movesOf_85 rfl rfl ?_
    refine j_iload_n (i := 1) X dX2_movesOf_86 rfl rfl ?_
    refine k_cVI (As := [.int v1]) (rest := []) hb.lt (cf_sh hb _) rfl X (ct_X2_twinMoves l g b v1 hb M) wl_X2_102 rfl rfl (by decide) (Nat.le_of_ble_eq_true rfl) dX2_movesOf_87 (fun r_7 M_6 => ?_)
    exact j_iret X hr dX2_movesOf_90
  · refine j_aload_n (i := 0) X dX2_movesOf_91 rfl rfl ?_
    refine j_iload_n (i := 1) X dX2_movesOf_92 rfl rfl ?_
    refine k_cVI (As := [.int v1]) (rest := []) hb.lt (cf_sh hb _) rfl X (ct_X2_twinMoves l g b v1 hb M) wl_X2_102 rfl rfl (by decide) (Nat.le_of_ble_eq_true rfl) dX2_movesOf_93 (fun r_9 M_8 => ?_)
    refine j_ineg X dX2_movesOf_96 ?_
    exact j_iret X hr dX2_movesOf_97
  · refine j_iconst (v := 0) X dX2_movesOf_98 rfl ?_
    exact j_iret X hr dX2_movesOf_99
  · refine j_iconst (v := 2) X dX2_movesOf_64 rfl ?_
    refine j_aload_n (i := 0) X dX2_movesOf_65 rfl rfl ?_
    refine j_get_sh hb 7 X (by decide) wq_57 rfl dX2_movesOf_66 ?_
    refine j_iload_n (i := 1) X dX2_movesOf_69 rfl rfl ?_
    refine j_iald X (ia_sh4 hb) dX2_movesOf_70 (fun h_10 => ?_)
    refine j_imul X dX2_movesOf_71 ?_
    refine j_aload_n (i := 0) X dX2_movesOf_72 rfl rfl ?_
    refine j_iload_n (i := 1) X dX2_movesOf_73 rfl rfl ?_
    refine k_cVI (As := [.int v1]) (rest := [.int (2 * (M (b + 4) v1.toNatClampNeg))]) hb.lt (cf_sh hb _) rfl X (ct_X2_tallOf l g b v1 hb M) wl_X2_95 rfl rfl (by decide) (Nat.le_of_ble_eq_true rfl) dX2_movesOf_74 (fun r_12 M_11 => ?_)
    refine j_iadd X dX2_movesOf_77 ?_
    exact j_iret X hr dX2_movesOf_78
  · refine j_iconst (v := 0) X dX2_movesOf_98 rfl ?_
    exact j_iret X hr dX2_movesOf_99
def mi_X2_movesOf (b : Nat) (v1 : Int32) (M : Mem) : Option (Int32 × Mem) := pi_X2_movesOf_e b v1 M
theorem ct_X2_movesOf (l : Launch) (g : Gh) (b : Nat) (v1 : Int32) (hb : isSh b) (M : Mem) : CtI l g yX2_movesOf cX2_movesOf 2 (some (.int)) 2 [.ref (gA g b), .int v1] M (mi_X2_movesOf b v1 M) := ctI_of (own := RX2) (L := [(0, .ref (gA g b)), (1, .int v1)]) (by decide +kernel) rfl (Nat.le_of_ble_eq_true rfl) rfl (fun p e s m args below meth c X hr => pj_X2_movesOf_e X hr b v1 hb M)

def pi_X2_turnsOf_e (b : Nat) (v1 : Int32) (M : Mem) : Option (Int32 × Mem) := gd (inb v1 8) <| swc (M (b + 2) v1.toNatClampNeg) [(0, some (1, M)), (1, some (0, M)), (2, some (1, M)), (3, bd (mi_X2_tallOf b v1 M) fun r_3 M_2 => some (1 + r_3, M_2)), (4, bd (mi_X2_tallOf b v1 M) fun r_5 M_4 => some (3 * (1 + r_5), M_4)), (5, some (0, M)), (6, some (2, M))] (some (0, M))
set_option maxRecDepth 100000 in
set_option maxHeartbeats 4000000 in
theorem pj_X2_turnsOf_e {p : Program} {l : Launch} {e : Env} {R : Room} {s : State} {m : MethodId} {args : Array Value} {below : List Frame} {meth : Method} {c : Code} {g : Gh} (X : Cx p l e R s m args below meth c g cX2_turnsOf 2 (0, 0) RX2 1) (hr : meth.sig.returnType = (some (.int))) (b : Nat) (v1 : Int32) (hb : isSh b) (M : Mem) : J p l e R s m args below meth c g 2 (0, 0) (QfI below args s g) (pi_X2_turnsOf_e b v1 M) M 0 [(0, .ref (gA g b)), (1, .int v1)] [] := by
  unfold pi_X2_turnsOf_e
  refine j_aload_n (i := 0) X dX2_turnsOf_0 rfl rfl ?_
  refine j_get_sh hb 5 X (by decide) wq_51 rfl dX2_turnsOf_1 ?_
  refine j_iload_n (i := 1) X dX2_turnsOf_4 rfl rfl ?_
  refine j_iald X (ia_sh2 hb) dX2_turnsOf_5 (fun h_1 => ?_)
  refine j_tsw [0, 1, 2, 3, 4, 5, 6] [48, 70, 48, 52, 60, 70, 50] (dt := 70) X dX2_turnsOf_6 rfl (by decide +kernel) (by decide +kernel) (by decide) ⟨?_, ?_, ?_, ?_, ?_, ?_, ?_, trivial⟩ ?_
  · refine j_iconst (v := 1) X dX2_turnsOf_48 rfl ?_
    exact j_iret X hr dX2_turnsOf_49
  · refine j_iconst (v := 0) X dX2_turnsOf_70 rfl ?_
    exact j_iret X hr dX2_turnsOf_71
  · refine j_iconst (v := 1) X dX2_turnsOf_48 rfl ?_
    exact j_iret X hr dX2_turnsOf_49
  · refine j_iconst (v := 1) X dX2_turnsOf_52 rfl ?_
    refine j_aload_n (i := 0) X dX2_turnsOf_53 rfl rfl ?_
    refine j_iload_n (i := 1) X dX2_turnsOf_54 rfl rfl ?_
    refine k_cVI (As := [.int v1]) (rest := [.int 1]) hb.lt (cf_sh hb _) rfl X (ct_X2_tallOf l g b v1 hb M) wl_X2_95 rfl rfl (by decide) (Nat.le_of_ble_eq_true rfl) dX2_turnsOf_55 (fun r_3 M_2 => ?_)
    refine j_iadd X dX2_turnsOf_58 ?_
    exact j_iret X hr dX2_turnsOf_59
  · refine j_iconst (v := 3) X dX2_turnsOf_60 rfl ?_
    refine j_iconst (v := 1) X dX2_turnsOf_61 rfl ?_
    refine j_aload_n (i := 0) X dX2_turnsOf_62 rfl rfl ?_
    refine j_iload_n (i := 1) X dX2_turnsOf_63 rfl rfl ?_
    refine k_cVI (As := [.int v1]) (rest := [.int 1, .int 3]) hb.lt (cf_sh hb _) rfl X (ct_X2_tallOf l g b v1 hb M) wl_X2_95 rfl rfl (by decide) (Nat.le_of_ble_eq_true rfl) dX2_turnsOf_64 (fun r_5 M_4 => ?_)
    refine j_iadd X dX2_turnsOf_67 ?_
    refine j_imul X dX2_turnsOf_68 ?_
    exact j_iret X hr dX2_turnsOf_69
  · refine j_iconst (v := 0) X dX2_turnsOf_70 rfl ?_
    exact j_iret X hr dX2_turnsOf_71
  · refine j_iconst (v := 2) X dX2_turnsOf_50 rfl ?_
    exact j_iret X hr dX2_turnsOf_51
  · refine j_iconst (v := 0) X dX2_turnsOf_70 rfl ?_
    exact j_iret X hr dX2_turnsOf_71
def mi_X2_turnsOf (b : Nat) (v1 : Int32) (M : Mem) : Option (Int32 × Mem) := pi_X2_turnsOf_e b v1 M
theorem ct_X2_turnsOf (l : Launch) (g : Gh) (b : Nat) (v1 : Int32) (hb : isSh b) (M : Mem) : CtI l g yX2_turnsOf cX2_turnsOf 2 (some (.int)) 1 [.ref (gA g b), .int v1] M (mi_X2_turnsOf b v1 M) := ctI_of (own := RX2) (L := [(0, .ref (gA g b)), (1, .int v1)]) (by decide +kernel) rfl (Nat.le_of_ble_eq_true rfl) rfl (fun p e s m args below meth c X hr => pj_X2_turnsOf_e X hr b v1 hb M)

def pi_X2_sinksOf_e (b : Nat) (v1 : Int32) (M : Mem) : Option (Int32 × Mem) := gd (inb v1 8) <| swc (M (b + 2) v1.toNatClampNeg) [(0, some (1, M)), (1, some (M b 0, M)), (2, some ((M b 0) + 1, M)), (3, some (((M b 0) + 1) / 2, M)), (4, some (((M b 0) + 1) / 2, M)), (5, some (0, M)), (6, some ((M b 0) + 1, M))] (some (0, M))
set_option maxRecDepth 100000 in
set_option maxHeartbeats 4000000 in
theorem pj_X2_sinksOf_e {p : Program} {l : Launch} {e : Env} {R : Room} {s : State} {m : MethodId} {args : Array Value} {below : List Frame} {meth : Method} {c : Code} {g : Gh} (X : Cx p l e R s m args below meth c g cX2_sinksOf 2 (0, 0) RX2 0) (hr : meth.sig.returnType = (some (.int))) (b : Nat) (v1 : Int32) (hb : isSh b) (M : Mem) : J p l e R s m args below meth c g 2 (0, 0) (QfI below args s g) (pi_X2_sinksOf_e b v1 M) M 0 [(0, .ref (gA g b)), (1, .int v1)] [] := by
  unfold pi_X2_sinksOf_e
  refine j_aload_n (i := 0) X dX2_sinksOf_0 rfl rfl ?_
  refine j_get_sh hb 5 X (by decide) wq_51 rfl dX2_sinksOf_1 ?_
  refine j_iload_n (i := 1) X dX2_sinksOf_4 rfl rfl ?_
  refine j_iald X (ia_sh2 hb) dX2_sinksOf_5 (fun h_1 => ?_)
  refine j_tsw [0, 1, 2, 3, 4, 5, 6] [48, 50, 55, 62, 62, 71, 55] (dt := 71) X dX2_sinksOf_6 rfl (by decide +kernel) (by decide +kernel) (by decide) ⟨?_, ?_, ?_, ?_, ?_, ?_, ?_, trivial⟩ ?_
  · refine j_iconst (v := 1) X dX2_sinksOf_48 rfl ?_
    exact j_iret X hr dX2_sinksOf_49
  · refine j_aload_n (i := 0) X dX2_sinksOf_50 rfl rfl ?_
    refine j_get_sh hb 0 X (by decide) wq_99 rfl dX2_sinksOf_51 ?_
    exact j_iret X hr dX2_sinksOf_54
  · refine j_aload_n (i := 0) X dX2_sinksOf_55 rfl rfl ?_
    refine j_get_sh hb 0 X (by decide) wq_99 rfl dX2_sinksOf_56 ?_
    refine j_iconst (v := 1) X dX2_sinksOf_59 rfl ?_
    refine j_iadd X dX2_sinksOf_60 ?_
    exact j_iret X hr dX2_sinksOf_61
  · refine j_aload_n (i := 0) X dX2_sinksOf_62 rfl rfl ?_
    refine j_get_sh hb 0 X (by decide) wq_99 rfl dX2_sinksOf_63 ?_
    refine j_iconst (v := 1) X dX2_sinksOf_66 rfl ?_
    refine j_iadd X dX2_sinksOf_67 ?_
    refine j_iconst (v := 2) X dX2_sinksOf_68 rfl ?_
    refine j_idivc X dX2_sinksOf_69 (by decide) ?_
    exact j_iret X hr dX2_sinksOf_70
  · refine j_aload_n (i := 0) X dX2_sinksOf_62 rfl rfl ?_
    refine j_get_sh hb 0 X (by decide) wq_99 rfl dX2_sinksOf_63 ?_
    refine j_iconst (v := 1) X dX2_sinksOf_66 rfl ?_
    refine j_iadd X dX2_sinksOf_67 ?_
    refine j_iconst (v := 2) X dX2_sinksOf_68 rfl ?_
    refine j_idivc X dX2_sinksOf_69 (by decide) ?_
    exact j_iret X hr dX2_sinksOf_70
  · refine j_iconst (v := 0) X dX2_sinksOf_71 rfl ?_
    exact j_iret X hr dX2_sinksOf_72
  · refine j_aload_n (i := 0) X dX2_sinksOf_55 rfl rfl ?_
    refine j_get_sh hb 0 X (by decide) wq_99 rfl dX2_sinksOf_56 ?_
    refine j_iconst (v := 1) X dX2_sinksOf_59 rfl ?_
    refine j_iadd X dX2_sinksOf_60 ?_
    exact j_iret X hr dX2_sinksOf_61
  · refine j_iconst (v := 0) X dX2_sinksOf_71 rfl ?_
    exact j_iret X hr dX2_sinksOf_72
def mi_X2_sinksOf (b : Nat) (v1 : Int32) (M : Mem) : Option (Int32 × Mem) := pi_X2_sinksOf_e b v1 M
theorem ct_X2_sinksOf (l : Launch) (g : Gh) (b : Nat) (v1 : Int32) (hb : isSh b) (M : Mem) : CtI l g yX2_sinksOf cX2_sinksOf 2 (some (.int)) 0 [.ref (gA g b), .int v1] M (mi_X2_sinksOf b v1 M) := ctI_of (own := RX2) (L := [(0, .ref (gA g b)), (1, .int v1)]) (by decide +kernel) rfl (Nat.le_of_ble_eq_true rfl) rfl (fun p e s m args below meth c X hr => pj_X2_sinksOf_e X hr b v1 hb M)

def pi_X2_passAge_95 (b : Nat) (v1 : Int32) (v2 : Int32) (v3 : Int32) (rc2 : Int32 × Mem → Option (Mem)) (M : Mem) : Option (Mem) := gd (inb v1 8) <| bd (mi_J9_floorMod_7cf53 ((M (b + 3) v1.toNatClampNeg) + v2) 12 M) fun r_13 M_12 => gd (inb v1 8) <| bM (up M_12 (b + 3) v1.toNatClampNeg r_13) fun M_15 => gd (inb v1 8) <| gd (inb v1 8) <| bM (up M_15 (b + 5) v1.toNatClampNeg (((M_15 (b + 5) v1.toNatClampNeg) + v3) - ((M_15 (b + 5) v1.toNatClampNeg) + v3) / 4 * 4)) fun M_18 => bI (v1 + 1) fun v1_19 => rc2 (v1_19, M_18)
set_option maxRecDepth 100000 in
set_option maxHeartbeats 4000000 in
theorem pj_X2_passAge_95 {p : Program} {l : Launch} {e : Env} {R : Room} {s : State} {m : MethodId} {args : Array Value} {below : List Frame} {meth : Method} {c : Code} {g : Gh} (X : Cx p l e R s m args below meth c g cX2_passAge 4 (0, 0) RX2 3) (hr : meth.sig.returnType = none) (b : Nat) (hb : isSh b) (v1 : Int32) (v2 : Int32) (v3 : Int32) (rc2 : Int32 × Mem → Option (Mem)) (hc2 : ∀ x, J p l e R s m args below meth c g 4 (0, 0) (QfV below args s g) (rc2 x) x.2 2 [(0, .ref (gA g b)), (1, .int x.1)] []) (M : Mem) : J p l e R s m args below meth c g 4 (0, 0) (QfV below args s g) (pi_X2_passAge_95 b v1 v2 v3 rc2 M) M 95 [(0, .ref (gA g b)), (1, .int v1), (2, .int v2), (3, .int v3)] [] := by
  unfold pi_X2_passAge_95
  refine j_aload_n (i := 0) X dX2_passAge_95 rfl rfl ?_
  refine j_get_sh hb 6 X (by decide) wq_49 rfl dX2_passAge_96 ?_
  refine j_iload_n (i := 1) X dX2_passAge_99 rfl rfl ?_
  refine j_aload_n (i := 0) X dX2_passAge_100 rfl rfl ?_
  refine j_get_sh hb 6 X (by decide) wq_49 rfl dX2_passAge_101 ?_
  refine j_iload_n (i := 1) X dX2_passAge_104 rfl rfl ?_
  refine j_iald X (ia_sh3 hb) dX2_passAge_105 (fun h_11 => ?_)
  refine j_iload_n (i := 2) X dX2_passAge_106 rfl rfl ?_
  refine j_iadd X dX2_passAge_107 ?_
  refine j_bipush (v := 12) X dX2_passAge_108 rfl ?_
  refine k_cSI (As := [.int ((M (b + 3) v1.toNatClampNeg) + v2), .int 12]) (rest := [.int v1, .ref (gA g (b + 3))]) X (ct_J9_floorMod_7cf53 l g ((M (b + 3) v1.toNatClampNeg) + v2) 12 M) wl_X2_125 rfl rfl (by decide) (Nat.le_of_ble_eq_true rfl) dX2_passAge_110 (fun r_13 M_12 => ?_)
  refine j_iast X (ia_sh3 hb) dX2_passAge_113 (fun h_14 => ?_)
  refine j_bM (fun M_15 => ?_)
  refine j_aload_n (i := 0) X dX2_passAge_114 rfl rfl ?_
  refine j_get_sh hb 8 X (by decide) wq_50 rfl dX2_passAge_115 ?_
  refine j_iload_n (i := 1) X dX2_passAge_118 rfl rfl ?_
  refine j_aload_n (i := 0) X dX2_passAge_119 rfl rfl ?_
  refine j_get_sh hb 8 X (by decide) wq_50 rfl dX2_passAge_120 ?_
  refine j_iload_n (i := 1) X dX2_passAge_123 rfl rfl ?_
  refine j_iald X (ia_sh5 hb) dX2_passAge_124 (fun h_16 => ?_)
  refine j_iload_n (i := 3) X dX2_passAge_125 rfl rfl ?_
  refine j_iadd X dX2_passAge_126 ?_
  refine j_iconst (v := 4) X dX2_passAge_127 rfl ?_
  refine j_iremc X dX2_passAge_128 (by decide) ?_
  refine j_iast X (ia_sh5 hb) dX2_passAge_129 (fun h_17 => ?_)
  refine j_bM (fun M_18 => ?_)
  refine j_iincB (i := 1) (y := v1 + 1) (Lf := fun v1_19 => [(0, .ref (gA g b)), (1, .int v1_19), (2, .int v2), (3, .int v3)]) X dX2_passAge_130 rfl rfl (by decide) (fun _ => rfl) (fun v1_19 => ?_)
  refine j_goto (tgt := 2) X dX2_passAge_133 (by decide) ?_
  refine j_pick [0, 1] (Lq := [(0, .ref (gA g b)), (1, .int v1_19)]) rfl ?_
  exact hc2 (v1_19, M_18)
def pi_X2_passAge_2 (b : Nat) (rc2 : Int32 × Mem → Option (Mem)) (v1 : Int32) (M : Mem) : Option (Mem) := if (M b 3) ≤ v1 then (bM (up M b 1 (if ((M b 1) + 1) < 99999 then ((M b 1) + 1) else 99999)) fun M_1 => bv (mi_X2_lookAround b M_1) fun M_2 => some M_2) else (bd (mi_X2_movesOf b v1 M) fun r_4 M_3 => bd (mi_X2_turnsOf b v1 M_3) fun r_6 M_5 => gd (inb v1 8) <| if (M_5 (b + 9) v1.toNatClampNeg) = 0 then (gd (inb v1 8) <| gd (inb v1 8) <| bM (up M_5 (b + 6) v1.toNatClampNeg (if ((M_5 (b + 6) v1.toNatClampNeg) + 1) < 99 then ((M_5 (b + 6) v1.toNatClampNeg) + 1) else 99)) fun M_10 => pi_X2_passAge_95 b v1 r_4 r_6 rc2 M_10) else (gd (inb v1 8) <| bd (mi_X2_sinksOf b v1 M_5) fun r_22 M_21 => gd (inb v1 8) <| bM (up M_21 (b + 6) v1.toNatClampNeg (if 0 < ((M_5 (b + 6) v1.toNatClampNeg) - r_22) then ((M_5 (b + 6) v1.toNatClampNeg) - r_22) else 0)) fun M_24 => gd (inb v1 8) <| gd (inb v1 8) <| bM (up M_24 (b + 7) v1.toNatClampNeg (if ((M_24 (b + 7) v1.toNatClampNeg) + 1) < 9999 then ((M_24 (b + 7) v1.toNatClampNeg) + 1) else 9999)) fun M_27 => pi_X2_passAge_95 b v1 r_4 r_6 rc2 M_27))
set_option maxRecDepth 100000 in
set_option maxHeartbeats 4000000 in
theorem pj_X2_passAge_2 {p : Program} {l : Launch} {e : Env} {R : Room} {s : State} {m : MethodId} {args : Array Value} {below : List Frame} {meth : Method} {c : Code} {g : Gh} (X : Cx p l e R s m args below meth c g cX2_passAge 4 (0, 0) RX2 3) (hr : meth.sig.returnType = none) (b : Nat) (hb : isSh b) (rc2 : Int32 × Mem → Option (Mem)) (hc2 : ∀ x, J p l e R s m args below meth c g 4 (0, 0) (QfV below args s g) (rc2 x) x.2 2 [(0, .ref (gA g b)), (1, .int x.1)] []) (v1 : Int32) (M : Mem) : J p l e R s m args below meth c g 4 (0, 0) (QfV below args s g) (pi_X2_passAge_2 b rc2 v1 M) M 2 [(0, .ref (gA g b)), (1, .int v1)] [] := by
  unfold pi_X2_passAge_2
  refine j_iload_n (i := 1) X dX2_passAge_2 rfl rfl ?_
  refine j_aload_n (i := 0) X dX2_passAge_3 rfl rfl ?_
  refine j_get_sh hb 3 X (by decide) wq_46 rfl dX2_passAge_4 ?_
  refine j_icmp_ge (tgt := 136) X dX2_passAge_7 (by decide) ?_ ?_
  · refine j_aload_n (i := 0) X dX2_passAge_136 rfl rfl ?_
    refine j_ldc (v := 99999) X wq_139 dX2_passAge_137 ?_
    refine j_aload_n (i := 0) X dX2_passAge_139 rfl rfl ?_
    refine j_get_sh hb 1 X (by decide) wq_100 rfl dX2_passAge_140 ?_
    refine j_iconst (v := 1) X dX2_passAge_143 rfl ?_
    refine j_iadd X dX2_passAge_144 ?_
    refine j_mmin X wm_X2_90 wm_min2 wm_ini wm_min4 (by decide) (Nat.le_of_ble_eq_true rfl) dX2_passAge_145 ?_
    refine j_put_sh (ty := .int) hb 1 X (by decide) wq_100 (fun _ => rfl) rfl (by decide +kernel) rfl rfl dX2_passAge_148 ?_
    refine j_bM (fun M_1 => ?_)
    refine j_aload_n (i := 0) X dX2_passAge_151 rfl rfl ?_
    refine k_cVV (As := []) (rest := []) hb.lt (cf_sh hb _) rfl X (ct_X2_lookAround l g b hb M_1) wl_X2_55 rfl rfl (by decide) (Nat.le_of_ble_eq_true rfl) dX2_passAge_152 (fun M_2 => ?_)
    exact j_vret X hr dX2_passAge_155
  · refine j_aload_n (i := 0) X dX2_passAge_10 rfl rfl ?_
    refine j_iload_n (i := 1) X dX2_passAge_11 rfl rfl ?_
    refine k_cVI (As := [.int v1]) (rest := []) hb.lt (cf_sh hb _) rfl X (ct_X2_movesOf l g b v1 hb M) wl_X2_113 rfl rfl (by decide) (Nat.le_of_ble_eq_true rfl) dX2_passAge_12 (fun r_4 M_3 => ?_)
    refine j_istore_n (i := 2) (Lq := [(0, .ref (gA g b)), (1, .int v1), (2, .int r_4)]) X dX2_passAge_15 rfl (by decide) rfl ?_
    refine j_aload_n (i := 0) X dX2_passAge_16 rfl rfl ?_
    refine j_iload_n (i := 1) X dX2_passAge_17 rfl rfl ?_
    refine k_cVI (As := [.int v1]) (rest := []) hb.lt (cf_sh hb _) rfl X (ct_X2_turnsOf l g b v1 hb M_3) wl_X2_116 rfl rfl (by decide) (Nat.le_of_ble_eq_true rfl) dX2_passAge_18 (fun r_6 M_5 => ?_)
    refine j_istore_n (i := 3) (Lq := [(0, .ref (gA g b)), (1, .int v1), (2, .int r_4), (3, .int r_6)]) X dX2_passAge_21 rfl (by decide) rfl ?_
    refine j_aload_n (i := 0) X dX2_passAge_22 rfl rfl ?_
    refine j_get_sh hb 12 X (by decide) wq_47 rfl dX2_passAge_23 ?_
    refine j_iload_n (i := 1) X dX2_passAge_26 rfl rfl ?_
    refine j_iald X (ia_sh9 hb) dX2_passAge_27 (fun h_7 => ?_)
    refine j_if_eq (tgt := 76) X dX2_passAge_28 (by decide) ?_ ?_
    · refine j_aload_n (i := 0) X dX2_passAge_76 rfl rfl ?_
      refine j_get_sh hb 9 X (by decide) wq_58 rfl dX2_passAge_77 ?_
      refine j_iload_n (i := 1) X dX2_passAge_80 rfl rfl ?_
      refine j_bipush (v := 99) X dX2_passAge_81 rfl ?_
      refine j_aload_n (i := 0) X dX2_passAge_83 rfl rfl ?_
      refine j_get_sh hb 9 X (by decide) wq_58 rfl dX2_passAge_84 ?_
      refine j_iload_n (i := 1) X dX2_passAge_87 rfl rfl ?_
      refine j_iald X (ia_sh6 hb) dX2_passAge_88 (fun h_8 => ?_)
      refine j_iconst (v := 1) X dX2_passAge_89 rfl ?_
      refine j_iadd X dX2_passAge_90 ?_
      refine j_mmin X wm_X2_90 wm_min2 wm_ini wm_min4 (by decide) (Nat.le_of_ble_eq_true rfl) dX2_passAge_91 ?_
      refine j_iast X (ia_sh6 hb) dX2_passAge_94 (fun h_9 => ?_)
      refine j_bM (fun M_10 => ?_)
      exact pj_X2_passAge_95 X hr b hb v1 r_4 r_6 rc2 hc2 M_10
    · refine j_aload_n (i := 0) X dX2_passAge_31 rfl rfl ?_
      refine j_get_sh hb 9 X (by decide) wq_58 rfl dX2_passAge_32 ?_
      refine j_iload_n (i := 1) X dX2_passAge_35 rfl rfl ?_
      refine j_iconst (v := 0) X dX2_passAge_36 rfl ?_
      refine j_aload_n (i := 0) X dX2_passAge_37 rfl rfl ?_
      refine j_get_sh hb 9 X (by decide) wq_58 rfl dX2_passAge_38 ?_
      refine j_iload_n (i := 1) X dX2_passAge_41 rfl rfl ?_
      refine j_iald X (ia_sh6 hb) dX2_passAge_42 (fun h_20 => ?_)
      refine j_aload_n (i := 0) X dX2_passAge_43 rfl rfl ?_
      refine j_iload_n (i := 1) X dX2_passAge_44 rfl rfl ?_
      refine k_cVI (As := [.int v1]) (rest := [.int (M_5 (b + 6) v1.toNatClampNeg), .int 0, .int v1, .ref (gA g (b + 6))]) hb.lt (cf_sh hb _) rfl X (ct_X2_sinksOf l g b v1 hb M_5) wl_X2_119 rfl rfl (by decide) (Nat.le_of_ble_eq_true rfl) dX2_passAge_45 (fun r_22 M_21 => ?_)
      refine j_isub X dX2_passAge_48 ?_
      refine j_mmax X wm_X2_122 wm_max2 wm_ini wm_max4 (by decide) (Nat.le_of_ble_eq_true rfl) dX2_passAge_49 ?_
      refine j_iast X (ia_sh6 hb) dX2_passAge_52 (fun h_23 => ?_)
      refine j_bM (fun M_24 => ?_)
      refine j_aload_n (i := 0) X dX2_passAge_53 rfl rfl ?_
      refine j_get_sh hb 10 X (by decide) wq_59 rfl dX2_passAge_54 ?_
      refine j_iload_n (i := 1) X dX2_passAge_57 rfl rfl ?_
      refine j_sipush (v := 9999) X dX2_passAge_58 rfl ?_
      refine j_aload_n (i := 0) X dX2_passAge_61 rfl rfl ?_
      refine j_get_sh hb 10 X (by decide) wq_59 rfl dX2_passAge_62 ?_
      refine j_iload_n (i := 1) X dX2_passAge_65 rfl rfl ?_
      refine j_iald X (ia_sh7 hb) dX2_passAge_66 (fun h_25 => ?_)
      refine j_iconst (v := 1) X dX2_passAge_67 rfl ?_
      refine j_iadd X dX2_passAge_68 ?_
      refine j_mmin X wm_X2_90 wm_min2 wm_ini wm_min4 (by decide) (Nat.le_of_ble_eq_true rfl) dX2_passAge_69 ?_
      refine j_iast X (ia_sh7 hb) dX2_passAge_72 (fun h_26 => ?_)
      refine j_bM (fun M_27 => ?_)
      refine j_goto (tgt := 95) X dX2_passAge_73 (by decide) ?_
      exact pj_X2_passAge_95 X hr b hb v1 r_4 r_6 rc2 hc2 M_27
def pi_X2_passAge_e (b : Nat) (M : Mem) : Option (Mem) := lp (fun rc2 x => pi_X2_passAge_2 b rc2 x.1 x.2) FU (0, M)
set_option maxRecDepth 100000 in
set_option maxHeartbeats 4000000 in
theorem pj_X2_passAge_e {p : Program} {l : Launch} {e : Env} {R : Room} {s : State} {m : MethodId} {args : Array Value} {below : List Frame} {meth : Method} {c : Code} {g : Gh} (X : Cx p l e R s m args below meth c g cX2_passAge 4 (0, 0) RX2 3) (hr : meth.sig.returnType = none) (b : Nat) (hb : isSh b) (M : Mem) : J p l e R s m args below meth c g 4 (0, 0) (QfV below args s g) (pi_X2_passAge_e b M) M 0 [(0, .ref (gA g b))] [] := by
  unfold pi_X2_passAge_e
  refine j_iconst (v := 0) X dX2_passAge_0 rfl ?_
  refine j_istore_n (i := 1) (Lq := [(0, .ref (gA g b)), (1, .int 0)]) X dX2_passAge_1 rfl (by decide) rfl ?_
  exact j_lp (Lf := fun x => [(0, .ref (gA g b)), (1, .int x.1)]) (Mf := fun x => x.2) (fun rc2 hc2 x => pj_X2_passAge_2 X hr b hb rc2 hc2 x.1 x.2) FU (0, M)
def mi_X2_passAge (b : Nat) (M : Mem) : Option (Mem) := pi_X2_passAge_e b M
theorem ct_X2_passAge (l : Launch) (g : Gh) (b : Nat) (hb : isSh b) (M : Mem) : CtV l g yX2_passAge cX2_passAge 4 none 3 [.ref (gA g b)] M (mi_X2_passAge b M) := ctV_of (own := RX2) (L := [(0, .ref (gA g b))]) (by decide +kernel) rfl (Nat.le_of_ble_eq_true rfl) rfl (fun p e s m args below meth c X hr => pj_X2_passAge_e X hr b hb M)

def pi_X2_passAges_2 (b : Nat) (v1 : Int32) (rc2 : Int32 × Mem → Option (Mem)) (v2 : Int32) (M : Mem) : Option (Mem) := if v1 ≤ v2 then (some M) else (bv (mi_X2_passAge b M) fun M_1 => bI (v2 + 1) fun v2_2 => rc2 (v2_2, M_1))
set_option maxRecDepth 100000 in
set_option maxHeartbeats 4000000 in
theorem pj_X2_passAges_2 {p : Program} {l : Launch} {e : Env} {R : Room} {s : State} {m : MethodId} {args : Array Value} {below : List Frame} {meth : Method} {c : Code} {g : Gh} (X : Cx p l e R s m args below meth c g cX2_passAges 3 (0, 0) RX2 4) (hr : meth.sig.returnType = none) (b : Nat) (v1 : Int32) (hb : isSh b) (rc2 : Int32 × Mem → Option (Mem)) (hc2 : ∀ x, J p l e R s m args below meth c g 3 (0, 0) (QfV below args s g) (rc2 x) x.2 2 [(0, .ref (gA g b)), (1, .int v1), (2, .int x.1)] []) (v2 : Int32) (M : Mem) : J p l e R s m args below meth c g 3 (0, 0) (QfV below args s g) (pi_X2_passAges_2 b v1 rc2 v2 M) M 2 [(0, .ref (gA g b)), (1, .int v1), (2, .int v2)] [] := by
  unfold pi_X2_passAges_2
  refine j_iload_n (i := 2) X dX2_passAges_2 rfl rfl ?_
  refine j_iload_n (i := 1) X dX2_passAges_3 rfl rfl ?_
  refine j_icmp_ge (tgt := 17) X dX2_passAges_4 (by decide) ?_ ?_
  · exact j_vret X hr dX2_passAges_17
  · refine j_aload_n (i := 0) X dX2_passAges_7 rfl rfl ?_
    refine k_cVV (As := []) (rest := []) hb.lt (cf_sh hb _) rfl X (ct_X2_passAge l g b hb M) wl_X2_110 rfl rfl (by decide) (Nat.le_of_ble_eq_true rfl) dX2_passAges_8 (fun M_1 => ?_)
    refine j_iincB (i := 2) (y := v2 + 1) (Lf := fun v2_2 => [(0, .ref (gA g b)), (1, .int v1), (2, .int v2_2)]) X dX2_passAges_11 rfl rfl (by decide) (fun _ => rfl) (fun v2_2 => ?_)
    refine j_goto (tgt := 2) X dX2_passAges_14 (by decide) ?_
    exact hc2 (v2_2, M_1)
def pi_X2_passAges_e (b : Nat) (v1 : Int32) (M : Mem) : Option (Mem) := lp (fun rc2 x => pi_X2_passAges_2 b v1 rc2 x.1 x.2) FU (0, M)
set_option maxRecDepth 100000 in
set_option maxHeartbeats 4000000 in
theorem pj_X2_passAges_e {p : Program} {l : Launch} {e : Env} {R : Room} {s : State} {m : MethodId} {args : Array Value} {below : List Frame} {meth : Method} {c : Code} {g : Gh} (X : Cx p l e R s m args below meth c g cX2_passAges 3 (0, 0) RX2 4) (hr : meth.sig.returnType = none) (b : Nat) (v1 : Int32) (hb : isSh b) (M : Mem) : J p l e R s m args below meth c g 3 (0, 0) (QfV below args s g) (pi_X2_passAges_e b v1 M) M 0 [(0, .ref (gA g b)), (1, .int v1)] [] := by
  unfold pi_X2_passAges_e
  refine j_iconst (v := 0) X dX2_passAges_0 rfl ?_
  refine j_istore_n (i := 2) (Lq := [(0, .ref (gA g b)), (1, .int v1), (2, .int 0)]) X dX2_passAges_1 rfl (by decide) rfl ?_
  exact j_lp (Lf := fun x => [(0, .ref (gA g b)), (1, .int v1), (2, .int x.1)]) (Mf := fun x => x.2) (fun rc2 hc2 x => pj_X2_passAges_2 X hr b v1 hb rc2 hc2 x.1 x.2) FU (0, M)
def mi_X2_passAges (b : Nat) (v1 : Int32) (M : Mem) : Option (Mem) := pi_X2_passAges_e b v1 M
theorem ct_X2_passAges (l : Launch) (g : Gh) (b : Nat) (v1 : Int32) (hb : isSh b) (M : Mem) : CtV l g yX2_passAges cX2_passAges 3 none 4 [.ref (gA g b), .int v1] M (mi_X2_passAges b v1 M) := ctV_of (own := RX2) (L := [(0, .ref (gA g b)), (1, .int v1)]) (by decide +kernel) rfl (Nat.le_of_ble_eq_true rfl) rfl (fun p e s m args below meth c X hr => pj_X2_passAges_e X hr b v1 hb M)

def pi_X2_draw_e (b : Nat) (M : Mem) : Option (Int32 × Mem) := bM (up M b 2 (((M b 2) * 1103515245) + 12345)) fun M_1 => some (((M_1 b 2).toUInt32 >>> ((8 : Int32).toUInt32 &&& Int32.toUInt32 31)).toInt32, M_1)
set_option maxRecDepth 100000 in
set_option maxHeartbeats 4000000 in
theorem pj_X2_draw_e {p : Program} {l : Launch} {e : Env} {R : Room} {s : State} {m : MethodId} {args : Array Value} {below : List Frame} {meth : Method} {c : Code} {g : Gh} (X : Cx p l e R s m args below meth c g cX2_draw 1 (0, 0) RX2 0) (hr : meth.sig.returnType = (some (.int))) (b : Nat) (hb : isSh b) (M : Mem) : J p l e R s m args below meth c g 1 (0, 0) (QfI below args s g) (pi_X2_draw_e b M) M 0 [(0, .ref (gA g b))] [] := by
  unfold pi_X2_draw_e
  refine j_aload_n (i := 0) X dX2_draw_0 rfl rfl ?_
  refine j_aload_n (i := 0) X dX2_draw_1 rfl rfl ?_
  refine j_get_sh hb 2 X (by decide) wq_101 rfl dX2_draw_2 ?_
  refine j_ldc (v := 1103515245) X wq_157 dX2_draw_5 ?_
  refine j_imul X dX2_draw_7 ?_
  refine j_sipush (v := 12345) X dX2_draw_8 rfl ?_
  refine j_iadd X dX2_draw_11 ?_
  refine j_put_sh (ty := .int) hb 2 X (by decide) wq_101 (fun _ => rfl) rfl (by decide +kernel) rfl rfl dX2_draw_12 ?_
  refine j_bM (fun M_1 => ?_)
  refine j_aload_n (i := 0) X dX2_draw_15 rfl rfl ?_
  refine j_get_sh hb 2 X (by decide) wq_101 rfl dX2_draw_16 ?_
  refine j_bipush (v := 8) X dX2_draw_19 rfl ?_
  refine j_iushr X dX2_draw_21 ?_
  exact j_iret X hr dX2_draw_22
def mi_X2_draw (b : Nat) (M : Mem) : Option (Int32 × Mem) := pi_X2_draw_e b M
theorem ct_X2_draw (l : Launch) (g : Gh) (b : Nat) (hb : isSh b) (M : Mem) : CtI l g yX2_draw cX2_draw 1 (some (.int)) 0 [.ref (gA g b)] M (mi_X2_draw b M) := ctI_of (own := RX2) (L := [(0, .ref (gA g b))]) (by decide +kernel) rfl (Nat.le_of_ble_eq_true rfl) rfl (fun p e s m args below meth c X hr => pj_X2_draw_e X hr b hb M)
