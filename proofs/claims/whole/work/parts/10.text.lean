section JS
variable {p : Program} {l : Launch} {e : Env} {R : Room} {s : State} {m : MethodId} {args : Array Value} {below : List Frame} {meth : Method} {c : Code} {g : Gh} {nL : Nat} {cw : Nat × Nat} {α : Type} {Qf : α → State → Prop} {o o1 o2 : Option α} {M : Mem} {pc : Nat} {L Lq : List (Nat × Value)} {st rest : List Value} {cc : ByteArray} {own : String} {d : Nat}
theorem j_gets_cs {idx : Nat} (X : Cx p l e R s m args below meth c g cc nL cw own d) (hl : Cond.fieldLink own idx "java/lang/String" "COMPACT_STRINGS" "Z" ∈ BG) (hd : decode cc pc = .ok (.getstatic idx, 3)) (kk : J p l e R s m args below meth c g nL cw Qf o M (pc + 3) L (.int 1 :: st)) : J p l e R s m args below meth c g nL cw Qf o M pc L st :=
  fun x hx H locs ls hP hS hl' => va_gets X.1 X.2.1 X.2.2.2.2.2.2.2.1.2.2.1 hS X.2.2.2.1 (X.2.2.2.2.1 _ hl) (fun _ h => h) hd (kk x hx H locs ls hP hS hl')
theorem j_gets_sf {idx : Nat} (X : Cx p l e R s m args below meth c g cc nL cw own d) (hl : Cond.fieldLink own idx "jdk/internal/util/Preconditions" "SIOOBE_FORMATTER" "Ljava/util/function/BiFunction;" ∈ BG) (hd : decode cc pc = .ok (.getstatic idx, 3)) (kk : ∀ v : Value, v = .null ∨ (∃ a, v = .ref a) → J p l e R s m args below meth c g nL cw Qf o M (pc + 3) L (v :: st)) : J p l e R s m args below meth c g nL cw Qf o M pc L st := by
  intro x hx H locs ls hP hS hl'
  rcases X.2.2.2.2.2.2.2.1.2.2.2.1 with hz | ⟨t, hz⟩
  · exact va_gets X.1 X.2.1 hz hS X.2.2.2.1 (X.2.2.2.2.1 _ hl) (fun _ h => h) hd (kk .null (Or.inl rfl) x hx H locs ls hP hS hl')
  · exact va_gets X.1 X.2.1 hz hS X.2.2.2.1 (X.2.2.2.2.1 _ hl) (fun _ h => h) hd (kk (.ref t) (Or.inr ⟨t, rfl⟩) x hx H locs ls hP hS hl')
theorem j_get_val {idx w : Nat} (X : Cx p l e R s m args below meth c g cc nL cw own d) (hw : w < 12) (hl : Cond.fieldLink own idx "java/lang/String" "value" "[B" ∈ BG) (hd : decode cc pc = .ok (.getfield idx, 3)) (kk : J p l e R s m args below meth c g nL cw Qf o M (pc + 3) L (.ref (gV g w) :: st)) : J p l e R s m args below meth c g nL cw Qf o M pc L (.ref (gS g w) :: st) :=
  fun x hx H locs ls hP hS hl' => vk_getf X.1 X.2.1 (X.2.2.2.2.2.2.2.1.2.2.2.2.1.1 w hw).2.2.1 hS X.2.2.2.1 (X.2.2.2.2.1 _ hl) (fun _ h => h) hd (kk x hx H locs ls hP hS hl')
theorem j_get_cod {idx w : Nat} (X : Cx p l e R s m args below meth c g cc nL cw own d) (hw : w < 12) (hl : Cond.fieldLink own idx "java/lang/String" "coder" "B" ∈ BG) (hd : decode cc pc = .ok (.getfield idx, 3)) (kk : J p l e R s m args below meth c g nL cw Qf o M (pc + 3) L (.int 0 :: st)) : J p l e R s m args below meth c g nL cw Qf o M pc L (.ref (gS g w) :: st) :=
  fun x hx H locs ls hP hS hl' => vk_getf X.1 X.2.1 (X.2.2.2.2.2.2.2.1.2.2.2.2.1.1 w hw).2.1 hS X.2.2.2.1 (X.2.2.2.2.1 _ hl) (fun _ h => h) hd (kk x hx H locs ls hP hS hl')
theorem j_blen {w : Nat} (X : Cx p l e R s m args below meth c g cc nL cw own d) (hw : w < 12) (hd : decode cc pc = .ok (.arraylength, 1)) (kk : J p l e R s m args below meth c g nL cw Qf o M (pc + 1) L (.int (Int32.ofNat (txL.getD w 0)) :: st)) : J p l e R s m args below meth c g nL cw Qf o M pc L (.ref (gV g w) :: st) :=
  fun x hx H locs ls hP hS hl' => va_tlen X.1 X.2.1 (X.2.2.2.2.2.2.2.1.2.2.2.2.1.1 w hw).2.2.2 hS rfl hd (kk x hx H locs ls hP hS hl')
theorem j_bald {w : Nat} {i : Int32} (X : Cx p l e R s m args below meth c g cc nL cw own d) (hw : w < 12) (hd : decode cc pc = .ok (.baload, 1)) (kk : J p l e R s m args below meth c g nL cw Qf o M (pc + 1) L (.int ((txB.getD w []).getD i.toNatClampNeg 0) :: st)) : J p l e R s m args below meth c g nL cw Qf (gd (inb i (txL.getD w 0)) o) M pc L (.int i :: .ref (gV g w) :: st) :=
  fun x hx H locs ls hP hS hl' => va_tb X.1 X.2.1 (X.2.2.2.2.2.2.2.1.2.2.2.2.1.1 w hw).2.2.2 hS (inb_vp (gd_some hx).1) rfl hd (kk x (gd_some hx).2 H locs ls hP hS hl')
end JS
def mi_J0_length_8abf5 (w : Nat) (M : Mem) : Option (Int32 × Mem) := some (Int32.ofNat (txL.getD w 0), M)
def mi_J0_charAt_5068e (w : Nat) (i : Int32) (M : Mem) : Option (Int32 × Mem) := gd (inb i (txL.getD w 0)) (some ((txB.getD w []).getD i.toNatClampNeg 0, M))
theorem ct_J0_coder (l : Launch) (g : Gh) (w : Nat) (hw : w < 12) (M : Mem) : CtI l g yJ0_coder_7d493 cJ0_coder_7d493 1 (some .byte) 0 [.ref (gS g w)] M (some (0, M)) := ctI_of (own := RJ0) (L := [(0, .ref (gS g w))]) (by decide +kernel) rfl (Nat.le_of_ble_eq_true rfl) rfl (fun p e s m args below meth c X hr => by
  refine j_eq (o1 := if (1 : Int32) = 0 then none else some (0, M)) (if_neg (by decide)) ?_
  refine j_gets_cs X wq_624 dJ0_coder_7d493_0 ?_
  refine j_if_eq (tgt := 13) X dJ0_coder_7d493_3 (by decide) j_none ?_
  refine j_aload_n (i := 0) X dJ0_coder_7d493_6 rfl rfl ?_
  refine j_get_cod X hw wq_627 dJ0_coder_7d493_7 ?_
  refine j_goto (tgt := 14) X dJ0_coder_7d493_10 (by decide) ?_
  exact j_tret X hr rfl dJ0_coder_7d493_14)
theorem ct_J0_isLatin1 (l : Launch) (g : Gh) (w : Nat) (hw : w < 12) (M : Mem) : CtI l g yJ0_isLatin1_aae02 cJ0_isLatin1_aae02 1 (some .boolean) 0 [.ref (gS g w)] M (some (1, M)) := ctI_of (own := RJ0) (L := [(0, .ref (gS g w))]) (by decide +kernel) rfl (Nat.le_of_ble_eq_true rfl) rfl (fun p e s m args below meth c X hr => by
  refine j_eq (o1 := if (1 : Int32) = 0 then none else if (0 : Int32) = 0 then some (1, M) else none) (by rw [if_neg (by decide), if_pos rfl]) ?_
  refine j_gets_cs X wq_624 dJ0_isLatin1_aae02_0 ?_
  refine j_if_eq (tgt := 17) X dJ0_isLatin1_aae02_3 (by decide) j_none ?_
  refine j_aload_n (i := 0) X dJ0_isLatin1_aae02_6 rfl rfl ?_
  refine j_get_cod X hw wq_627 dJ0_isLatin1_aae02_7 ?_
  refine j_if_ne (tgt := 17) X dJ0_isLatin1_aae02_10 (by decide) ?_ j_none
  refine j_iconst (v := 1) X dJ0_isLatin1_aae02_13 rfl ?_
  refine j_goto (tgt := 18) X dJ0_isLatin1_aae02_14 (by decide) ?_
  exact j_tret X hr rfl dJ0_isLatin1_aae02_18)
theorem len_shr : ∀ w : Nat, (Int32.ofNat (txL.getD w 0)) >>> ((0 : Int32) &&& 31) = Int32.ofNat (txL.getD w 0) := by
  intro w
  have h : ∀ x : Int32, x >>> ((0 : Int32) &&& 31) = x := by
    intro x
    apply Int32.toBitVec_inj.mp
    simp
  exact h _
theorem ct_J0_length_8abf5 (l : Launch) (g : Gh) (w : Nat) (hw : w < 12) (M : Mem) : CtI l g yJ0_length_8abf5 cJ0_length_8abf5 1 (some .int) 1 [.ref (gS g w)] M (mi_J0_length_8abf5 w M) := ctI_of (own := RJ0) (L := [(0, .ref (gS g w))]) (by decide +kernel) rfl (Nat.le_of_ble_eq_true rfl) rfl (fun p e s m args below meth c X hr => by
  refine j_eq (o1 := bd (some ((0 : Int32), M)) fun r N2 => some ((Int32.ofNat (txL.getD w 0)) >>> (r &&& 31), N2)) (by show some (_, M) = some (_, M); rw [len_shr]) ?_
  refine j_aload_n (i := 0) X dJ0_length_8abf5_0 rfl rfl ?_
  refine j_get_val X hw wq_626 dJ0_length_8abf5_1 ?_
  refine j_blen X hw dJ0_length_8abf5_4 ?_
  refine j_aload_n (i := 0) X dJ0_length_8abf5_5 rfl rfl ?_
  refine k_cTI (As := []) (rest := [.int (Int32.ofNat (txL.getD w 0))]) hw X (ct_J0_coder l g w hw M) wl_J0_335 rfl rfl (by decide) (Nat.le_of_ble_eq_true rfl) dJ0_length_8abf5_6 (fun r N2 => ?_)
  refine j_ishr X dJ0_length_8abf5_9 ?_
  exact j_iret X hr dJ0_length_8abf5_10)
def mi_ck (i n : Int32) (M : Mem) : Option (Int32 × Mem) := if i < 0 then none else if i < n then some (i, M) else none
theorem ct_J3_checkIndex (l : Launch) (g : Gh) (i n : Int32) (v : Value) (hv : v = .null ∨ ∃ a, v = .ref a) (M : Mem) : CtI l g yJ3_checkIndex_8e157 cJ3_checkIndex_8e157 3 (some .int) 0 [.int i, .int n, v] M (mi_ck i n M) := ctI_of (own := RJ3) (L := [(0, .int i), (1, .int n), (2, v)]) (by decide +kernel) rfl (by rcases hv with rfl | ⟨a, rfl⟩ <;> exact Nat.le_of_ble_eq_true rfl) rfl (fun p e s m args below meth c X hr => by
  unfold mi_ck
  refine j_iload_n (i := 0) X dJ3_checkIndex_8e157_0 rfl rfl ?_
  refine j_if_lt (tgt := 9) X dJ3_checkIndex_8e157_1 (by decide) j_none ?_
  refine j_iload_n (i := 0) X dJ3_checkIndex_8e157_4 rfl rfl ?_
  refine j_iload_n (i := 1) X dJ3_checkIndex_8e157_5 rfl rfl ?_
  refine j_icmp_lt (tgt := 16) X dJ3_checkIndex_8e157_6 (by decide) ?_ j_none
  refine j_iload_n (i := 0) X dJ3_checkIndex_8e157_16 rfl rfl ?_
  exact j_iret X hr dJ3_checkIndex_8e157_17)
theorem ct_J0_checkIndex (l : Launch) (g : Gh) (i n : Int32) (M : Mem) : CtV l g yJ0_checkIndex_df160 cJ0_checkIndex_df160 2 none 1 [.int i, .int n] M (bd (mi_ck i n M) fun _ N2 => some N2) := ctV_of (own := RJ0) (L := [(0, .int i), (1, .int n)]) (by decide +kernel) rfl (Nat.le_of_ble_eq_true rfl) rfl (fun p e s m args below meth c X hr => by
  refine j_iload_n (i := 0) X dJ0_checkIndex_df160_0 rfl rfl ?_
  refine j_iload_n (i := 1) X dJ0_checkIndex_df160_1 rfl rfl ?_
  refine j_gets_sf X wq_625 dJ0_checkIndex_df160_2 (fun v hv => ?_)
  refine k_cSI (As := [.int i, .int n, v]) (rest := []) X (ct_J3_checkIndex l g i n v hv M) wl_J0_1059 rfl rfl (by decide) (Nat.le_of_ble_eq_true rfl) dJ0_checkIndex_df160_5 (fun r N2 => ?_)
  refine j_pop X dJ0_checkIndex_df160_8 rfl ?_
  exact j_vret X hr dJ0_checkIndex_df160_9)
theorem tx_ch : ∀ x ∈ txB.flatten, ((x &&& 255).toUInt32 % 65536).toInt32 = x ∧ narrow .char (.int (((x &&& 255).toUInt32 % 65536).toInt32)) = .int (((x &&& 255).toUInt32 % 65536).toInt32) ∧ narrow .char (.int x) = .int x := by decide +kernel
theorem tx_in : ∀ w, w < 12 → ∀ j, j < txL.getD w 0 → (txB.getD w []).getD j 0 ∈ txB.flatten := by decide +kernel
theorem inb_lt {i : Int32} {n : Nat} (h : inb i n = true) : ¬ i < 0 ∧ i.toNatClampNeg < n := by
  simp only [inb, Bool.and_eq_true, Bool.not_eq_true', decide_eq_false_iff_not, decide_eq_true_eq] at h
  exact h
theorem ct_J1_charAt (l : Launch) (g : Gh) (w : Nat) (hw : w < 12) (i : Int32) (M : Mem) : CtI l g yJ1_charAt_3b067 cJ1_charAt_3b067 2 (some .char) 2 [.ref (gV g w), .int i] M (mi_J0_charAt_5068e w i M) := by
  intro zx hzx
  obtain ⟨h1, h2⟩ := gd_some hzx
  have h3 := inb_lt h1
  have h4 := tx_ch _ (tx_in w hw _ h3.2)
  have hlt : i < Int32.ofNat (txL.getD w 0) := by
    have hb : txL.getD w 0 < 2 ^ 31 := by
      have : ∀ w, w < 12 → txL.getD w 0 < 2 ^ 31 := by decide
      exact this w hw
    obtain ⟨j, hj, rfl⟩ := vp_in_of (inb_vp h1) hb
    exact nI_lt hj hb
  refine ctI_of (own := RJ1) (L := [(0, .ref (gV g w)), (1, .int i)]) (o := mi_J0_charAt_5068e w i M) (by decide +kernel) rfl (Nat.le_of_ble_eq_true rfl) rfl (fun p e s m args below meth c X hr => ?_) zx hzx
  refine j_eq (o1 := bv (bd (mi_ck i (Int32.ofNat (txL.getD w 0)) M) fun _ N2 => some N2) fun N2 => gd (inb i (txL.getD w 0)) (some ((((txB.getD w []).getD i.toNatClampNeg 0 &&& 255).toUInt32 % 65536).toInt32, N2))) ?_ ?_
  · unfold mi_ck mi_J0_charAt_5068e
    rw [if_neg h3.1, if_pos hlt, h4.1]
    rfl
  refine j_iload_n (i := 1) X dJ1_charAt_3b067_0 rfl rfl ?_
  refine j_aload_n (i := 0) X dJ1_charAt_3b067_1 rfl rfl ?_
  refine j_blen X hw dJ1_charAt_3b067_2 ?_
  refine k_cSV (As := [.int i, .int (Int32.ofNat (txL.getD w 0))]) (rest := []) X (ct_J0_checkIndex l g i _ M) wl_J1_9 rfl rfl (by decide) (Nat.le_of_ble_eq_true rfl) dJ1_charAt_3b067_3 (fun N2 => ?_)
  refine j_aload_n (i := 0) X dJ1_charAt_3b067_6 rfl rfl ?_
  refine j_iload_n (i := 1) X dJ1_charAt_3b067_7 rfl rfl ?_
  refine j_bald X hw dJ1_charAt_3b067_8 ?_
  refine j_sipush (v := 255) X dJ1_charAt_3b067_9 rfl ?_
  refine j_iand X dJ1_charAt_3b067_12 ?_
  refine j_i2c X dJ1_charAt_3b067_13 ?_
  exact j_tret X hr h4.2.1 dJ1_charAt_3b067_14
theorem ct_J0_charAt_5068e (l : Launch) (g : Gh) (w : Nat) (i : Int32) (hw : w < 12) (M : Mem) : CtI l g yJ0_charAt_5068e cJ0_charAt_5068e 2 (some .char) 3 [.ref (gS g w), .int i] M (mi_J0_charAt_5068e w i M) := by
  intro zx hzx
  obtain ⟨h1, h2⟩ := gd_some hzx
  have h4 := tx_ch _ (tx_in w hw _ (inb_lt h1).2)
  refine ctI_of (own := RJ0) (L := [(0, .ref (gS g w)), (1, .int i)]) (o := mi_J0_charAt_5068e w i M) (by decide +kernel) rfl (Nat.le_of_ble_eq_true rfl) rfl (fun p e s m args below meth c X hr => ?_) zx hzx
  refine j_eq (o1 := bd (some ((1 : Int32), M)) fun r N2 => if r = 0 then none else bd (mi_J0_charAt_5068e w i N2) fun r2 N3 => gd (r2 == (txB.getD w []).getD i.toNatClampNeg 0) (some (r2, N3))) ?_ ?_
  · show (if (1 : Int32) = 0 then none else bd (mi_J0_charAt_5068e w i M) fun r2 N3 => gd (r2 == (txB.getD w []).getD i.toNatClampNeg 0) (some (r2, N3))) = _
    rw [if_neg (by decide)]
    unfold mi_J0_charAt_5068e
    rw [h1]
    show gd ((txB.getD w []).getD i.toNatClampNeg 0 == (txB.getD w []).getD i.toNatClampNeg 0) _ = _
    rw [beq_self_eq_true]
  refine j_aload_n (i := 0) X dJ0_charAt_5068e_0 rfl rfl ?_
  refine k_cTI (As := []) (rest := []) hw X (ct_J0_isLatin1 l g w hw M) wl_J0_492 rfl rfl (by decide) (Nat.le_of_ble_eq_true rfl) dJ0_charAt_5068e_1 (fun r N2 => ?_)
  refine j_if_eq (tgt := 16) X dJ0_charAt_5068e_4 (by decide) j_none ?_
  refine j_aload_n (i := 0) X dJ0_charAt_5068e_7 rfl rfl ?_
  refine j_get_val X hw wq_626 dJ0_charAt_5068e_8 ?_
  refine j_iload_n (i := 1) X dJ0_charAt_5068e_11 rfl rfl ?_
  refine k_cSI (As := [.ref (gV g w), .int i]) (rest := []) X (ct_J1_charAt l g w hw i N2) wl_J0_495 rfl rfl (by decide) (Nat.le_of_ble_eq_true rfl) dJ0_charAt_5068e_12 (fun r2 N3 => ?_)
  refine j_gd (fun h9 => ?_)
  refine j_tret X hr (by rw [eq_of_beq h9]; exact h4.2.2) dJ0_charAt_5068e_15
