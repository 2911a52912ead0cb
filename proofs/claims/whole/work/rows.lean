section
-- ===== PART A: goes FIRST, ahead of the names: the tables' words, and 'selects' of the private methods out of them =====
/-- a private method of a class that the tables say can be made, by its rows of tables_1 -/
def lw_okq (q : MethodName × Nat) : Prop := (q.1.cls ≠ "java/lang/invoke/MethodHandle" ∧ q.1.cls ≠ "java/lang/invoke/VarHandle") ∧ Cond.instantiable q.1.cls q.2 ∈ tables_1 ∧ Cond.privateMethod q.1 ∈ tables_1 ∧ Cond.instanceMethod q.1 ∈ tables_1
theorem lw_p0 : lw_okq (⟨"HillDance", "finding", "(I)I"⟩, 7) := ⟨⟨by decide +kernel, by decide +kernel⟩, List.mem_of_getElem? (i := 15) (by decide +kernel), List.mem_of_getElem? (i := 157) (by decide +kernel), List.mem_of_getElem? (i := 158) (by decide +kernel)⟩
theorem lw_p1 : lw_okq (⟨"HillDance$Shire", "lookAround", "()V"⟩, 15) := ⟨⟨by decide +kernel, by decide +kernel⟩, List.mem_of_getElem? (i := 23) (by decide +kernel), List.mem_of_getElem? (i := 177) (by decide +kernel), List.mem_of_getElem? (i := 178) (by decide +kernel)⟩
theorem lw_p2 : lw_okq (⟨"HillDance$Shire", "tallOf", "(I)I"⟩, 15) := ⟨⟨by decide +kernel, by decide +kernel⟩, List.mem_of_getElem? (i := 23) (by decide +kernel), List.mem_of_getElem? (i := 198) (by decide +kernel), List.mem_of_getElem? (i := 199) (by decide +kernel)⟩
theorem lw_p3 : lw_okq (⟨"HillDance$Shire", "partnerMoves", "(I)I"⟩, 15) := ⟨⟨by decide +kernel, by decide +kernel⟩, List.mem_of_getElem? (i := 23) (by decide +kernel), List.mem_of_getElem? (i := 202) (by decide +kernel), List.mem_of_getElem? (i := 203) (by decide +kernel)⟩
theorem lw_p4 : lw_okq (⟨"HillDance$Shire", "twinMoves", "(I)I"⟩, 15) := ⟨⟨by decide +kernel, by decide +kernel⟩, List.mem_of_getElem? (i := 23) (by decide +kernel), List.mem_of_getElem? (i := 206) (by decide +kernel), List.mem_of_getElem? (i := 207) (by decide +kernel)⟩
theorem lw_p5 : lw_okq (⟨"HillDance$Shire", "sumOf", "([I)I"⟩, 15) := ⟨⟨by decide +kernel, by decide +kernel⟩, List.mem_of_getElem? (i := 23) (by decide +kernel), List.mem_of_getElem? (i := 301) (by decide +kernel), List.mem_of_getElem? (i := 302) (by decide +kernel)⟩
theorem lw_p6 : lw_okq (⟨"HillDance", "isNoPair", "(II)Z"⟩, 7) := ⟨⟨by decide +kernel, by decide +kernel⟩, List.mem_of_getElem? (i := 15) (by decide +kernel), List.mem_of_getElem? (i := 347) (by decide +kernel), List.mem_of_getElem? (i := 348) (by decide +kernel)⟩
theorem lw_p7 : lw_okq (⟨"HillDance", "agesUntilMeeting", "(III)I"⟩, 7) := ⟨⟨by decide +kernel, by decide +kernel⟩, List.mem_of_getElem? (i := 15) (by decide +kernel), List.mem_of_getElem? (i := 351) (by decide +kernel), List.mem_of_getElem? (i := 352) (by decide +kernel)⟩
theorem lw_p8 : lw_okq (⟨"HillDance", "soonestWith", "(III)I"⟩, 7) := ⟨⟨by decide +kernel, by decide +kernel⟩, List.mem_of_getElem? (i := 15) (by decide +kernel), List.mem_of_getElem? (i := 379) (by decide +kernel), List.mem_of_getElem? (i := 380) (by decide +kernel)⟩
theorem lw_p9 : lw_okq (⟨"HillDance", "tryWith", "(III)V"⟩, 7) := ⟨⟨by decide +kernel, by decide +kernel⟩, List.mem_of_getElem? (i := 15) (by decide +kernel), List.mem_of_getElem? (i := 383) (by decide +kernel), List.mem_of_getElem? (i := 384) (by decide +kernel)⟩
theorem lw_p10 : lw_okq (⟨"HillDance", "agesOpen", "(IIII)I"⟩, 7) := ⟨⟨by decide +kernel, by decide +kernel⟩, List.mem_of_getElem? (i := 15) (by decide +kernel), List.mem_of_getElem? (i := 430) (by decide +kernel), List.mem_of_getElem? (i := 431) (by decide +kernel)⟩
theorem lw_p11 : lw_okq (⟨"HillDance", "wrongWithTold", "(II)I"⟩, 7) := ⟨⟨by decide +kernel, by decide +kernel⟩, List.mem_of_getElem? (i := 15) (by decide +kernel), List.mem_of_getElem? (i := 442) (by decide +kernel), List.mem_of_getElem? (i := 443) (by decide +kernel)⟩
theorem lw_p12 : lw_okq (⟨"HillDance", "wrongWithSheet", "(I)I"⟩, 7) := ⟨⟨by decide +kernel, by decide +kernel⟩, List.mem_of_getElem? (i := 15) (by decide +kernel), List.mem_of_getElem? (i := 446) (by decide +kernel), List.mem_of_getElem? (i := 447) (by decide +kernel)⟩
theorem lw_p13 : lw_okq (⟨"HillDance", "fittingSet", "(III)I"⟩, 7) := ⟨⟨by decide +kernel, by decide +kernel⟩, List.mem_of_getElem? (i := 15) (by decide +kernel), List.mem_of_getElem? (i := 457) (by decide +kernel), List.mem_of_getElem? (i := 458) (by decide +kernel)⟩
theorem lw_p14 : lw_okq (⟨"HillDance", "facesAsTold", "(LHillDance$Sheet;I)Z"⟩, 7) := ⟨⟨by decide +kernel, by decide +kernel⟩, List.mem_of_getElem? (i := 15) (by decide +kernel), List.mem_of_getElem? (i := 461) (by decide +kernel), List.mem_of_getElem? (i := 462) (by decide +kernel)⟩
theorem lw_p15 : lw_okq (⟨"HillDance$Shire", "draw", "()I"⟩, 15) := ⟨⟨by decide +kernel, by decide +kernel⟩, List.mem_of_getElem? (i := 23) (by decide +kernel), List.mem_of_getElem? (i := 481) (by decide +kernel), List.mem_of_getElem? (i := 482) (by decide +kernel)⟩
def lw_privs_1 : List (MethodName × Nat) := [(⟨"HillDance", "finding", "(I)I"⟩, 7), (⟨"HillDance$Shire", "lookAround", "()V"⟩, 15), (⟨"HillDance$Shire", "tallOf", "(I)I"⟩, 15), (⟨"HillDance$Shire", "partnerMoves", "(I)I"⟩, 15), (⟨"HillDance$Shire", "twinMoves", "(I)I"⟩, 15), (⟨"HillDance$Shire", "sumOf", "([I)I"⟩, 15), (⟨"HillDance", "isNoPair", "(II)Z"⟩, 7), (⟨"HillDance", "agesUntilMeeting", "(III)I"⟩, 7), (⟨"HillDance", "soonestWith", "(III)I"⟩, 7), (⟨"HillDance", "tryWith", "(III)V"⟩, 7), (⟨"HillDance", "agesOpen", "(IIII)I"⟩, 7), (⟨"HillDance", "wrongWithTold", "(II)I"⟩, 7), (⟨"HillDance", "wrongWithSheet", "(I)I"⟩, 7), (⟨"HillDance", "fittingSet", "(III)I"⟩, 7), (⟨"HillDance", "facesAsTold", "(LHillDance$Sheet;I)Z"⟩, 7), (⟨"HillDance$Shire", "draw", "()I"⟩, 15)]
theorem lw_r1 : ∀ q ∈ lw_privs_1, lw_okq q := List.forall_mem_cons.mpr ⟨lw_p0, List.forall_mem_cons.mpr ⟨lw_p1, List.forall_mem_cons.mpr ⟨lw_p2, List.forall_mem_cons.mpr ⟨lw_p3, List.forall_mem_cons.mpr ⟨lw_p4, List.forall_mem_cons.mpr ⟨lw_p5, List.forall_mem_cons.mpr ⟨lw_p6, List.forall_mem_cons.mpr ⟨lw_p7, List.forall_mem_cons.mpr ⟨lw_p8, List.forall_mem_cons.mpr ⟨lw_p9, List.forall_mem_cons.mpr ⟨lw_p10, List.forall_mem_cons.mpr ⟨lw_p11, List.forall_mem_cons.mpr ⟨lw_p12, List.forall_mem_cons.mpr ⟨lw_p13, List.forall_mem_cons.mpr ⟨lw_p14, List.forall_mem_cons.mpr ⟨lw_p15, fun _ h => absurd h List.not_mem_nil⟩⟩⟩⟩⟩⟩⟩⟩⟩⟩⟩⟩⟩⟩⟩⟩
theorem lw_p16 : lw_okq (⟨"HillDance$Reader", "advance", "()V"⟩, 6) := ⟨⟨by decide +kernel, by decide +kernel⟩, List.mem_of_getElem? (i := 82) (by decide +kernel), List.mem_of_getElem? (i := 516) (by decide +kernel), List.mem_of_getElem? (i := 517) (by decide +kernel)⟩
theorem lw_p17 : lw_okq (⟨"HillDance$Reader", "takeLetters", "()V"⟩, 6) := ⟨⟨by decide +kernel, by decide +kernel⟩, List.mem_of_getElem? (i := 82) (by decide +kernel), List.mem_of_getElem? (i := 523) (by decide +kernel), List.mem_of_getElem? (i := 524) (by decide +kernel)⟩
theorem lw_p18 : lw_okq (⟨"HillDance$Reader", "takeDigits", "()V"⟩, 6) := ⟨⟨by decide +kernel, by decide +kernel⟩, List.mem_of_getElem? (i := 82) (by decide +kernel), List.mem_of_getElem? (i := 530) (by decide +kernel), List.mem_of_getElem? (i := 531) (by decide +kernel)⟩
theorem lw_p19 : lw_okq (⟨"HillDance$Reader", "readItem", "(LHillDance$Shire;)Z"⟩, 6) := ⟨⟨by decide +kernel, by decide +kernel⟩, List.mem_of_getElem? (i := 82) (by decide +kernel), List.mem_of_getElem? (i := 538) (by decide +kernel), List.mem_of_getElem? (i := 539) (by decide +kernel)⟩
theorem lw_p20 : lw_okq (⟨"HillDance$Reader", "isWord", "(Ljava/lang/String;)Z"⟩, 6) := ⟨⟨by decide +kernel, by decide +kernel⟩, List.mem_of_getElem? (i := 82) (by decide +kernel), List.mem_of_getElem? (i := 543) (by decide +kernel), List.mem_of_getElem? (i := 544) (by decide +kernel)⟩
theorem lw_p21 : lw_okq (⟨"HillDance$Reader", "isNumberTo", "(I)Z"⟩, 6) := ⟨⟨by decide +kernel, by decide +kernel⟩, List.mem_of_getElem? (i := 82) (by decide +kernel), List.mem_of_getElem? (i := 595) (by decide +kernel), List.mem_of_getElem? (i := 596) (by decide +kernel)⟩
theorem lw_p22 : lw_okq (⟨"HillDance$Reader", "kindTold", "()I"⟩, 6) := ⟨⟨by decide +kernel, by decide +kernel⟩, List.mem_of_getElem? (i := 82) (by decide +kernel), List.mem_of_getElem? (i := 599) (by decide +kernel), List.mem_of_getElem? (i := 600) (by decide +kernel)⟩
theorem lw_p23 : lw_okq (⟨"HillDance$Reader", "readTrait", "(LHillDance$Shire;IILjava/lang/String;)Z"⟩, 6) := ⟨⟨by decide +kernel, by decide +kernel⟩, List.mem_of_getElem? (i := 82) (by decide +kernel), List.mem_of_getElem? (i := 616) (by decide +kernel), List.mem_of_getElem? (i := 617) (by decide +kernel)⟩
theorem lw_p24 : lw_okq (⟨"HillDanceModel", "become", "(II)I"⟩, 25) := ⟨⟨by decide +kernel, by decide +kernel⟩, List.mem_of_getElem? (i := 697) (by decide +kernel), List.mem_of_getElem? (i := 795) (by decide +kernel), List.mem_of_getElem? (i := 796) (by decide +kernel)⟩
theorem lw_p25 : lw_okq (⟨"HillDanceModel", "finding", "(I)I"⟩, 25) := ⟨⟨by decide +kernel, by decide +kernel⟩, List.mem_of_getElem? (i := 697) (by decide +kernel), List.mem_of_getElem? (i := 800) (by decide +kernel), List.mem_of_getElem? (i := 801) (by decide +kernel)⟩
theorem lw_p26 : lw_okq (⟨"HillDanceModel", "comes", "(IIIII)I"⟩, 25) := ⟨⟨by decide +kernel, by decide +kernel⟩, List.mem_of_getElem? (i := 697) (by decide +kernel), List.mem_of_getElem? (i := 815) (by decide +kernel), List.mem_of_getElem? (i := 816) (by decide +kernel)⟩
theorem lw_p27 : lw_okq (⟨"HillDanceModel", "isHill", "(I)Z"⟩, 25) := ⟨⟨by decide +kernel, by decide +kernel⟩, List.mem_of_getElem? (i := 697) (by decide +kernel), List.mem_of_getElem? (i := 826) (by decide +kernel), List.mem_of_getElem? (i := 827) (by decide +kernel)⟩
theorem lw_p28 : lw_okq (⟨"HillDanceModel", "looksAt", "()V"⟩, 25) := ⟨⟨by decide +kernel, by decide +kernel⟩, List.mem_of_getElem? (i := 697) (by decide +kernel), List.mem_of_getElem? (i := 830) (by decide +kernel), List.mem_of_getElem? (i := 831) (by decide +kernel)⟩
theorem lw_p29 : lw_okq (⟨"HillDanceModel", "meeting", "(I)I"⟩, 25) := ⟨⟨by decide +kernel, by decide +kernel⟩, List.mem_of_getElem? (i := 697) (by decide +kernel), List.mem_of_getElem? (i := 834) (by decide +kernel), List.mem_of_getElem? (i := 835) (by decide +kernel)⟩
theorem lw_p30 : lw_okq (⟨"HillDanceModel", "facesOf", "(I)I"⟩, 25) := ⟨⟨by decide +kernel, by decide +kernel⟩, List.mem_of_getElem? (i := 697) (by decide +kernel), List.mem_of_getElem? (i := 838) (by decide +kernel), List.mem_of_getElem? (i := 839) (by decide +kernel)⟩
theorem lw_p31 : lw_okq (⟨"HillDanceModel", "hillIs", "(II)I"⟩, 25) := ⟨⟨by decide +kernel, by decide +kernel⟩, List.mem_of_getElem? (i := 697) (by decide +kernel), List.mem_of_getElem? (i := 842) (by decide +kernel), List.mem_of_getElem? (i := 843) (by decide +kernel)⟩
def lw_privs_2 : List (MethodName × Nat) := [(⟨"HillDance$Reader", "advance", "()V"⟩, 6), (⟨"HillDance$Reader", "takeLetters", "()V"⟩, 6), (⟨"HillDance$Reader", "takeDigits", "()V"⟩, 6), (⟨"HillDance$Reader", "readItem", "(LHillDance$Shire;)Z"⟩, 6), (⟨"HillDance$Reader", "isWord", "(Ljava/lang/String;)Z"⟩, 6), (⟨"HillDance$Reader", "isNumberTo", "(I)Z"⟩, 6), (⟨"HillDance$Reader", "kindTold", "()I"⟩, 6), (⟨"HillDance$Reader", "readTrait", "(LHillDance$Shire;IILjava/lang/String;)Z"⟩, 6), (⟨"HillDanceModel", "become", "(II)I"⟩, 25), (⟨"HillDanceModel", "finding", "(I)I"⟩, 25), (⟨"HillDanceModel", "comes", "(IIIII)I"⟩, 25), (⟨"HillDanceModel", "isHill", "(I)Z"⟩, 25), (⟨"HillDanceModel", "looksAt", "()V"⟩, 25), (⟨"HillDanceModel", "meeting", "(I)I"⟩, 25), (⟨"HillDanceModel", "facesOf", "(I)I"⟩, 25), (⟨"HillDanceModel", "hillIs", "(II)I"⟩, 25)]
theorem lw_r2 : ∀ q ∈ lw_privs_2, lw_okq q := List.forall_mem_cons.mpr ⟨lw_p16, List.forall_mem_cons.mpr ⟨lw_p17, List.forall_mem_cons.mpr ⟨lw_p18, List.forall_mem_cons.mpr ⟨lw_p19, List.forall_mem_cons.mpr ⟨lw_p20, List.forall_mem_cons.mpr ⟨lw_p21, List.forall_mem_cons.mpr ⟨lw_p22, List.forall_mem_cons.mpr ⟨lw_p23, List.forall_mem_cons.mpr ⟨lw_p24, List.forall_mem_cons.mpr ⟨lw_p25, List.forall_mem_cons.mpr ⟨lw_p26, List.forall_mem_cons.mpr ⟨lw_p27, List.forall_mem_cons.mpr ⟨lw_p28, List.forall_mem_cons.mpr ⟨lw_p29, List.forall_mem_cons.mpr ⟨lw_p30, List.forall_mem_cons.mpr ⟨lw_p31, fun _ h => absurd h List.not_mem_nil⟩⟩⟩⟩⟩⟩⟩⟩⟩⟩⟩⟩⟩⟩⟩⟩
theorem lw_p32 : lw_okq (⟨"HillDanceModel", "movesOf", "(II)I"⟩, 25) := ⟨⟨by decide +kernel, by decide +kernel⟩, List.mem_of_getElem? (i := 697) (by decide +kernel), List.mem_of_getElem? (i := 849) (by decide +kernel), List.mem_of_getElem? (i := 850) (by decide +kernel)⟩
theorem lw_p33 : lw_okq (⟨"HillDanceModel", "atValley", "(I)I"⟩, 25) := ⟨⟨by decide +kernel, by decide +kernel⟩, List.mem_of_getElem? (i := 697) (by decide +kernel), List.mem_of_getElem? (i := 853) (by decide +kernel), List.mem_of_getElem? (i := 854) (by decide +kernel)⟩
theorem lw_p34 : lw_okq (⟨"HillDanceModel", "turnsOf", "(II)I"⟩, 25) := ⟨⟨by decide +kernel, by decide +kernel⟩, List.mem_of_getElem? (i := 697) (by decide +kernel), List.mem_of_getElem? (i := 860) (by decide +kernel), List.mem_of_getElem? (i := 861) (by decide +kernel)⟩
theorem lw_p35 : lw_okq (⟨"HillDanceModel", "sinksOf", "(I)I"⟩, 25) := ⟨⟨by decide +kernel, by decide +kernel⟩, List.mem_of_getElem? (i := 697) (by decide +kernel), List.mem_of_getElem? (i := 864) (by decide +kernel), List.mem_of_getElem? (i := 865) (by decide +kernel)⟩
theorem lw_p36 : lw_okq (⟨"HillDanceModel", "facing", "(I)I"⟩, 25) := ⟨⟨by decide +kernel, by decide +kernel⟩, List.mem_of_getElem? (i := 697) (by decide +kernel), List.mem_of_getElem? (i := 882) (by decide +kernel), List.mem_of_getElem? (i := 883) (by decide +kernel)⟩
theorem lw_p37 : lw_okq (⟨"HillDanceModel", "highestAt", "(I)I"⟩, 25) := ⟨⟨by decide +kernel, by decide +kernel⟩, List.mem_of_getElem? (i := 697) (by decide +kernel), List.mem_of_getElem? (i := 886) (by decide +kernel), List.mem_of_getElem? (i := 887) (by decide +kernel)⟩
theorem lw_p38 : lw_okq (⟨"HillDanceModel", "ages", "(I)V"⟩, 25) := ⟨⟨by decide +kernel, by decide +kernel⟩, List.mem_of_getElem? (i := 697) (by decide +kernel), List.mem_of_getElem? (i := 897) (by decide +kernel), List.mem_of_getElem? (i := 898) (by decide +kernel)⟩
theorem lw_p39 : lw_okq (⟨"HillDanceModel", "age", "()V"⟩, 25) := ⟨⟨by decide +kernel, by decide +kernel⟩, List.mem_of_getElem? (i := 697) (by decide +kernel), List.mem_of_getElem? (i := 901) (by decide +kernel), List.mem_of_getElem? (i := 902) (by decide +kernel)⟩
theorem lw_p40 : lw_okq (⟨"HillDanceModel", "whoMeets", "()I"⟩, 25) := ⟨⟨by decide +kernel, by decide +kernel⟩, List.mem_of_getElem? (i := 697) (by decide +kernel), List.mem_of_getElem? (i := 906) (by decide +kernel), List.mem_of_getElem? (i := 907) (by decide +kernel)⟩
theorem lw_p41 : lw_okq (⟨"HillDanceModel", "sumOf", "(I)I"⟩, 25) := ⟨⟨by decide +kernel, by decide +kernel⟩, List.mem_of_getElem? (i := 697) (by decide +kernel), List.mem_of_getElem? (i := 914) (by decide +kernel), List.mem_of_getElem? (i := 915) (by decide +kernel)⟩
theorem lw_p42 : lw_okq (⟨"HillDanceModel", "valleysAt", "()I"⟩, 25) := ⟨⟨by decide +kernel, by decide +kernel⟩, List.mem_of_getElem? (i := 697) (by decide +kernel), List.mem_of_getElem? (i := 918) (by decide +kernel), List.mem_of_getElem? (i := 919) (by decide +kernel)⟩
theorem lw_p43 : lw_okq (⟨"HillDanceModel", "valleysFaced", "()I"⟩, 25) := ⟨⟨by decide +kernel, by decide +kernel⟩, List.mem_of_getElem? (i := 697) (by decide +kernel), List.mem_of_getElem? (i := 922) (by decide +kernel), List.mem_of_getElem? (i := 923) (by decide +kernel)⟩
theorem lw_p44 : lw_okq (⟨"HillDanceModel", "putBack", "(I)I"⟩, 25) := ⟨⟨by decide +kernel, by decide +kernel⟩, List.mem_of_getElem? (i := 697) (by decide +kernel), List.mem_of_getElem? (i := 933) (by decide +kernel), List.mem_of_getElem? (i := 934) (by decide +kernel)⟩
theorem lw_p45 : lw_okq (⟨"HillDanceModel", "orNone", "(I)I"⟩, 25) := ⟨⟨by decide +kernel, by decide +kernel⟩, List.mem_of_getElem? (i := 697) (by decide +kernel), List.mem_of_getElem? (i := 941) (by decide +kernel), List.mem_of_getElem? (i := 942) (by decide +kernel)⟩
theorem lw_p46 : lw_okq (⟨"HillDanceModel", "areTwo", "(II)Z"⟩, 25) := ⟨⟨by decide +kernel, by decide +kernel⟩, List.mem_of_getElem? (i := 697) (by decide +kernel), List.mem_of_getElem? (i := 950) (by decide +kernel), List.mem_of_getElem? (i := 951) (by decide +kernel)⟩
theorem lw_p47 : lw_okq (⟨"HillDanceModel", "meetIn", "(III)I"⟩, 25) := ⟨⟨by decide +kernel, by decide +kernel⟩, List.mem_of_getElem? (i := 697) (by decide +kernel), List.mem_of_getElem? (i := 954) (by decide +kernel), List.mem_of_getElem? (i := 955) (by decide +kernel)⟩
def lw_privs_3 : List (MethodName × Nat) := [(⟨"HillDanceModel", "movesOf", "(II)I"⟩, 25), (⟨"HillDanceModel", "atValley", "(I)I"⟩, 25), (⟨"HillDanceModel", "turnsOf", "(II)I"⟩, 25), (⟨"HillDanceModel", "sinksOf", "(I)I"⟩, 25), (⟨"HillDanceModel", "facing", "(I)I"⟩, 25), (⟨"HillDanceModel", "highestAt", "(I)I"⟩, 25), (⟨"HillDanceModel", "ages", "(I)V"⟩, 25), (⟨"HillDanceModel", "age", "()V"⟩, 25), (⟨"HillDanceModel", "whoMeets", "()I"⟩, 25), (⟨"HillDanceModel", "sumOf", "(I)I"⟩, 25), (⟨"HillDanceModel", "valleysAt", "()I"⟩, 25), (⟨"HillDanceModel", "valleysFaced", "()I"⟩, 25), (⟨"HillDanceModel", "putBack", "(I)I"⟩, 25), (⟨"HillDanceModel", "orNone", "(I)I"⟩, 25), (⟨"HillDanceModel", "areTwo", "(II)Z"⟩, 25), (⟨"HillDanceModel", "meetIn", "(III)I"⟩, 25)]
theorem lw_r3 : ∀ q ∈ lw_privs_3, lw_okq q := List.forall_mem_cons.mpr ⟨lw_p32, List.forall_mem_cons.mpr ⟨lw_p33, List.forall_mem_cons.mpr ⟨lw_p34, List.forall_mem_cons.mpr ⟨lw_p35, List.forall_mem_cons.mpr ⟨lw_p36, List.forall_mem_cons.mpr ⟨lw_p37, List.forall_mem_cons.mpr ⟨lw_p38, List.forall_mem_cons.mpr ⟨lw_p39, List.forall_mem_cons.mpr ⟨lw_p40, List.forall_mem_cons.mpr ⟨lw_p41, List.forall_mem_cons.mpr ⟨lw_p42, List.forall_mem_cons.mpr ⟨lw_p43, List.forall_mem_cons.mpr ⟨lw_p44, List.forall_mem_cons.mpr ⟨lw_p45, List.forall_mem_cons.mpr ⟨lw_p46, List.forall_mem_cons.mpr ⟨lw_p47, fun _ h => absurd h List.not_mem_nil⟩⟩⟩⟩⟩⟩⟩⟩⟩⟩⟩⟩⟩⟩⟩⟩
theorem lw_p48 : lw_okq (⟨"HillDanceModel", "doMeet", "(II)Z"⟩, 25) := ⟨⟨by decide +kernel, by decide +kernel⟩, List.mem_of_getElem? (i := 697) (by decide +kernel), List.mem_of_getElem? (i := 958) (by decide +kernel), List.mem_of_getElem? (i := 959) (by decide +kernel)⟩
theorem lw_p49 : lw_okq (⟨"HillDanceModel", "isAsAside", "()Z"⟩, 25) := ⟨⟨by decide +kernel, by decide +kernel⟩, List.mem_of_getElem? (i := 697) (by decide +kernel), List.mem_of_getElem? (i := 966) (by decide +kernel), List.mem_of_getElem? (i := 967) (by decide +kernel)⟩
theorem lw_p50 : lw_okq (⟨"HillDanceModel", "soonest", "(IIIII)I"⟩, 25) := ⟨⟨by decide +kernel, by decide +kernel⟩, List.mem_of_getElem? (i := 697) (by decide +kernel), List.mem_of_getElem? (i := 985) (by decide +kernel), List.mem_of_getElem? (i := 986) (by decide +kernel)⟩
theorem lw_p51 : lw_okq (⟨"HillDanceModel", "behind", "(III)I"⟩, 25) := ⟨⟨by decide +kernel, by decide +kernel⟩, List.mem_of_getElem? (i := 697) (by decide +kernel), List.mem_of_getElem? (i := 1005) (by decide +kernel), List.mem_of_getElem? (i := 1006) (by decide +kernel)⟩
theorem lw_p52 : lw_okq (⟨"HillDanceModel", "roadNow", "(III)I"⟩, 25) := ⟨⟨by decide +kernel, by decide +kernel⟩, List.mem_of_getElem? (i := 697) (by decide +kernel), List.mem_of_getElem? (i := 1020) (by decide +kernel), List.mem_of_getElem? (i := 1021) (by decide +kernel)⟩
theorem lw_p53 : lw_okq (⟨"HillDanceModel", "between", "(III)I"⟩, 25) := ⟨⟨by decide +kernel, by decide +kernel⟩, List.mem_of_getElem? (i := 697) (by decide +kernel), List.mem_of_getElem? (i := 1024) (by decide +kernel), List.mem_of_getElem? (i := 1025) (by decide +kernel)⟩
theorem lw_p54 : lw_okq (⟨"HillDanceModel", "climbNow", "(II)I"⟩, 25) := ⟨⟨by decide +kernel, by decide +kernel⟩, List.mem_of_getElem? (i := 697) (by decide +kernel), List.mem_of_getElem? (i := 1032) (by decide +kernel), List.mem_of_getElem? (i := 1033) (by decide +kernel)⟩
theorem lw_p55 : lw_okq (⟨"HillDanceModel", "openIn", "(IIII)I"⟩, 25) := ⟨⟨by decide +kernel, by decide +kernel⟩, List.mem_of_getElem? (i := 697) (by decide +kernel), List.mem_of_getElem? (i := 1040) (by decide +kernel), List.mem_of_getElem? (i := 1041) (by decide +kernel)⟩
theorem lw_p56 : lw_okq (⟨"HillDanceModel", "lacks", "(II)I"⟩, 25) := ⟨⟨by decide +kernel, by decide +kernel⟩, List.mem_of_getElem? (i := 697) (by decide +kernel), List.mem_of_getElem? (i := 1052) (by decide +kernel), List.mem_of_getElem? (i := 1053) (by decide +kernel)⟩
theorem lw_p57 : lw_okq (⟨"HillDanceModel", "fitting", "(IIIII)I"⟩, 25) := ⟨⟨by decide +kernel, by decide +kernel⟩, List.mem_of_getElem? (i := 697) (by decide +kernel), List.mem_of_getElem? (i := 1060) (by decide +kernel), List.mem_of_getElem? (i := 1061) (by decide +kernel)⟩
theorem lw_p58 : lw_okq (⟨"HillDanceModel", "facedSo", "(II)Z"⟩, 25) := ⟨⟨by decide +kernel, by decide +kernel⟩, List.mem_of_getElem? (i := 697) (by decide +kernel), List.mem_of_getElem? (i := 1064) (by decide +kernel), List.mem_of_getElem? (i := 1065) (by decide +kernel)⟩
theorem lw_p59 : lw_okq (⟨"HillDanceModel", "drawn", "()I"⟩, 25) := ⟨⟨by decide +kernel, by decide +kernel⟩, List.mem_of_getElem? (i := 697) (by decide +kernel), List.mem_of_getElem? (i := 1080) (by decide +kernel), List.mem_of_getElem? (i := 1081) (by decide +kernel)⟩
theorem lw_p60 : lw_okq (⟨"HillDanceModel", "next", "()V"⟩, 25) := ⟨⟨by decide +kernel, by decide +kernel⟩, List.mem_of_getElem? (i := 697) (by decide +kernel), List.mem_of_getElem? (i := 1105) (by decide +kernel), List.mem_of_getElem? (i := 1106) (by decide +kernel)⟩
theorem lw_p61 : lw_okq (⟨"HillDanceModel", "byteAt", "(I)I"⟩, 25) := ⟨⟨by decide +kernel, by decide +kernel⟩, List.mem_of_getElem? (i := 697) (by decide +kernel), List.mem_of_getElem? (i := 1109) (by decide +kernel), List.mem_of_getElem? (i := 1110) (by decide +kernel)⟩
theorem lw_p62 : lw_okq (⟨"HillDanceModel", "readItem", "()V"⟩, 25) := ⟨⟨by decide +kernel, by decide +kernel⟩, List.mem_of_getElem? (i := 697) (by decide +kernel), List.mem_of_getElem? (i := 1113) (by decide +kernel), List.mem_of_getElem? (i := 1114) (by decide +kernel)⟩
theorem lw_p63 : lw_okq (⟨"HillDanceModel", "kindTold", "()I"⟩, 25) := ⟨⟨by decide +kernel, by decide +kernel⟩, List.mem_of_getElem? (i := 697) (by decide +kernel), List.mem_of_getElem? (i := 1117) (by decide +kernel), List.mem_of_getElem? (i := 1118) (by decide +kernel)⟩
def lw_privs_4 : List (MethodName × Nat) := [(⟨"HillDanceModel", "doMeet", "(II)Z"⟩, 25), (⟨"HillDanceModel", "isAsAside", "()Z"⟩, 25), (⟨"HillDanceModel", "soonest", "(IIIII)I"⟩, 25), (⟨"HillDanceModel", "behind", "(III)I"⟩, 25), (⟨"HillDanceModel", "roadNow", "(III)I"⟩, 25), (⟨"HillDanceModel", "between", "(III)I"⟩, 25), (⟨"HillDanceModel", "climbNow", "(II)I"⟩, 25), (⟨"HillDanceModel", "openIn", "(IIII)I"⟩, 25), (⟨"HillDanceModel", "lacks", "(II)I"⟩, 25), (⟨"HillDanceModel", "fitting", "(IIIII)I"⟩, 25), (⟨"HillDanceModel", "facedSo", "(II)Z"⟩, 25), (⟨"HillDanceModel", "drawn", "()I"⟩, 25), (⟨"HillDanceModel", "next", "()V"⟩, 25), (⟨"HillDanceModel", "byteAt", "(I)I"⟩, 25), (⟨"HillDanceModel", "readItem", "()V"⟩, 25), (⟨"HillDanceModel", "kindTold", "()I"⟩, 25)]
theorem lw_r4 : ∀ q ∈ lw_privs_4, lw_okq q := List.forall_mem_cons.mpr ⟨lw_p48, List.forall_mem_cons.mpr ⟨lw_p49, List.forall_mem_cons.mpr ⟨lw_p50, List.forall_mem_cons.mpr ⟨lw_p51, List.forall_mem_cons.mpr ⟨lw_p52, List.forall_mem_cons.mpr ⟨lw_p53, List.forall_mem_cons.mpr ⟨lw_p54, List.forall_mem_cons.mpr ⟨lw_p55, List.forall_mem_cons.mpr ⟨lw_p56, List.forall_mem_cons.mpr ⟨lw_p57, List.forall_mem_cons.mpr ⟨lw_p58, List.forall_mem_cons.mpr ⟨lw_p59, List.forall_mem_cons.mpr ⟨lw_p60, List.forall_mem_cons.mpr ⟨lw_p61, List.forall_mem_cons.mpr ⟨lw_p62, List.forall_mem_cons.mpr ⟨lw_p63, fun _ h => absurd h List.not_mem_nil⟩⟩⟩⟩⟩⟩⟩⟩⟩⟩⟩⟩⟩⟩⟩⟩
theorem lw_p64 : lw_okq (⟨"HillDanceModel", "isWord", "(Ljava/lang/String;)Z"⟩, 25) := ⟨⟨by decide +kernel, by decide +kernel⟩, List.mem_of_getElem? (i := 697) (by decide +kernel), List.mem_of_getElem? (i := 1121) (by decide +kernel), List.mem_of_getElem? (i := 1122) (by decide +kernel)⟩
theorem lw_p65 : lw_okq (⟨"HillDanceModel", "must", "(Z)V"⟩, 25) := ⟨⟨by decide +kernel, by decide +kernel⟩, List.mem_of_getElem? (i := 697) (by decide +kernel), List.mem_of_getElem? (i := 1127) (by decide +kernel), List.mem_of_getElem? (i := 1128) (by decide +kernel)⟩
theorem lw_p66 : lw_okq (⟨"HillDanceModel", "afterWord", "(Ljava/lang/String;II)I"⟩, 25) := ⟨⟨by decide +kernel, by decide +kernel⟩, List.mem_of_getElem? (i := 697) (by decide +kernel), List.mem_of_getElem? (i := 1132) (by decide +kernel), List.mem_of_getElem? (i := 1133) (by decide +kernel)⟩
theorem lw_p67 : lw_okq (⟨"HillDanceModel", "number", "(II)I"⟩, 25) := ⟨⟨by decide +kernel, by decide +kernel⟩, List.mem_of_getElem? (i := 697) (by decide +kernel), List.mem_of_getElem? (i := 1136) (by decide +kernel), List.mem_of_getElem? (i := 1137) (by decide +kernel)⟩
theorem lw_p68 : lw_okq (⟨"HillDanceModel", "stepTold", "()I"⟩, 25) := ⟨⟨by decide +kernel, by decide +kernel⟩, List.mem_of_getElem? (i := 697) (by decide +kernel), List.mem_of_getElem? (i := 1140) (by decide +kernel), List.mem_of_getElem? (i := 1141) (by decide +kernel)⟩
theorem lw_p69 : lw_okq (⟨"HillDanceModel", "addItem", "(IIIII)V"⟩, 25) := ⟨⟨by decide +kernel, by decide +kernel⟩, List.mem_of_getElem? (i := 697) (by decide +kernel), List.mem_of_getElem? (i := 1147) (by decide +kernel), List.mem_of_getElem? (i := 1148) (by decide +kernel)⟩
theorem lw_p70 : lw_okq (⟨"HillDanceModel", "isToldSo", "(I)I"⟩, 25) := ⟨⟨by decide +kernel, by decide +kernel⟩, List.mem_of_getElem? (i := 697) (by decide +kernel), List.mem_of_getElem? (i := 1152) (by decide +kernel), List.mem_of_getElem? (i := 1153) (by decide +kernel)⟩
theorem lw_p71 : lw_okq (⟨"HillDanceModel", "lacksSheet", "(I)I"⟩, 25) := ⟨⟨by decide +kernel, by decide +kernel⟩, List.mem_of_getElem? (i := 697) (by decide +kernel), List.mem_of_getElem? (i := 1193) (by decide +kernel), List.mem_of_getElem? (i := 1194) (by decide +kernel)⟩
def lw_privs_5 : List (MethodName × Nat) := [(⟨"HillDanceModel", "isWord", "(Ljava/lang/String;)Z"⟩, 25), (⟨"HillDanceModel", "must", "(Z)V"⟩, 25), (⟨"HillDanceModel", "afterWord", "(Ljava/lang/String;II)I"⟩, 25), (⟨"HillDanceModel", "number", "(II)I"⟩, 25), (⟨"HillDanceModel", "stepTold", "()I"⟩, 25), (⟨"HillDanceModel", "addItem", "(IIIII)V"⟩, 25), (⟨"HillDanceModel", "isToldSo", "(I)I"⟩, 25), (⟨"HillDanceModel", "lacksSheet", "(I)I"⟩, 25)]
theorem lw_r5 : ∀ q ∈ lw_privs_5, lw_okq q := List.forall_mem_cons.mpr ⟨lw_p64, List.forall_mem_cons.mpr ⟨lw_p65, List.forall_mem_cons.mpr ⟨lw_p66, List.forall_mem_cons.mpr ⟨lw_p67, List.forall_mem_cons.mpr ⟨lw_p68, List.forall_mem_cons.mpr ⟨lw_p69, List.forall_mem_cons.mpr ⟨lw_p70, List.forall_mem_cons.mpr ⟨lw_p71, fun _ h => absurd h List.not_mem_nil⟩⟩⟩⟩⟩⟩⟩⟩
def lw_privs : List (MethodName × Nat) := lw_privs_1 ++ (lw_privs_2 ++ (lw_privs_3 ++ (lw_privs_4 ++ (lw_privs_5))))
def lw_tbl : List Cond := k2_sels lw_privs ++ tables_1
theorem lw_privs_ok : ∀ q ∈ lw_privs, lw_okq q := by
  show ∀ q ∈ lw_privs_1 ++ (lw_privs_2 ++ (lw_privs_3 ++ (lw_privs_4 ++ (lw_privs_5)))), lw_okq q
  exact List.forall_mem_append.mpr ⟨lw_r1, List.forall_mem_append.mpr ⟨lw_r2, List.forall_mem_append.mpr ⟨lw_r3, List.forall_mem_append.mpr ⟨lw_r4, lw_r5⟩⟩⟩⟩
end
section
def RX0 : String := "HillDance$Reader"
def TX0 : u_T := fun k => match k with
  | 0 => ("HillDance$Reader", "tape", "[I", true)
  | 1 => ("HillDance$Reader", "length", "I", false)
  | 2 => ("HillDance$Reader", "begin", "I", false)
  | 3 => ("HillDance$Reader", "end", "I", false)
  | 4 => ("HillDance$Reader", "token", "I", false)
  | _ => ("HillDance$Reader", "number", "I", false)
def tyX0 : Nat → FieldType := fun k => match k with
  | 0 => .array .int
  | 1 => .int
  | 2 => .int
  | 3 => .int
  | 4 => .int
  | _ => .int
abbrev wsX00 : List Cond := u_ws RX0 TX0 6
theorem nmX0 : ∀ a, a < 6 → ∀ b, b < 6 → a ≠ b → (TX0 a).2.1 ≠ (TX0 b).2.1 := by decide +kernel
theorem tyX0_ok : ∀ k, k < 6 → parseFieldDescriptor (TX0 k).2.2.1 = some (tyX0 k) := by decide +kernel
abbrev cX0_init : ByteArray := prog_2_method_1_code
def yX0_init : MethodName := ⟨RX0, "<init>", "()V"⟩
abbrev cX0_append : ByteArray := prog_2_method_2_code
def yX0_append : MethodName := ⟨RX0, "append", "(I)V"⟩
abbrev cX0_readInto : ByteArray := prog_2_method_3_code
def yX0_readInto : MethodName := ⟨RX0, "readInto", "(LHillDance$Shire;)I"⟩
abbrev cX0_readItem : ByteArray := prog_2_method_4_code
def yX0_readItem : MethodName := ⟨RX0, "readItem", "(LHillDance$Shire;)Z"⟩
abbrev cX0_readTrait : ByteArray := prog_2_method_5_code
def yX0_readTrait : MethodName := ⟨RX0, "readTrait", "(LHillDance$Shire;IILjava/lang/String;)Z"⟩
abbrev cX0_isNumberTo : ByteArray := prog_2_method_6_code
def yX0_isNumberTo : MethodName := ⟨RX0, "isNumberTo", "(I)Z"⟩
abbrev cX0_kindTold : ByteArray := prog_2_method_7_code
def yX0_kindTold : MethodName := ⟨RX0, "kindTold", "()I"⟩
abbrev cX0_wordOf : ByteArray := prog_2_method_8_code
def yX0_wordOf : MethodName := ⟨RX0, "wordOf", "(I)Ljava/lang/String;"⟩
abbrev cX0_isWord : ByteArray := prog_2_method_9_code
def yX0_isWord : MethodName := ⟨RX0, "isWord", "(Ljava/lang/String;)Z"⟩
abbrev cX0_advance : ByteArray := prog_2_method_10_code
def yX0_advance : MethodName := ⟨RX0, "advance", "()V"⟩
abbrev cX0_takeLetters : ByteArray := prog_2_method_11_code
def yX0_takeLetters : MethodName := ⟨RX0, "takeLetters", "()V"⟩
abbrev cX0_takeDigits : ByteArray := prog_2_method_12_code
def yX0_takeDigits : MethodName := ⟨RX0, "takeDigits", "()V"⟩
abbrev cX0_signOf : ByteArray := prog_2_method_13_code
def yX0_signOf : MethodName := ⟨RX0, "signOf", "(I)I"⟩
abbrev cX0_isLetter : ByteArray := prog_2_method_14_code
def yX0_isLetter : MethodName := ⟨RX0, "isLetter", "(I)Z"⟩
abbrev cX0_isDigit : ByteArray := prog_2_method_15_code
def yX0_isDigit : MethodName := ⟨RX0, "isDigit", "(I)Z"⟩
def RX1 : String := "HillDance$Sheet"
def TX1 : u_T := fun k => match k with
  | 0 => ("HillDance$Sheet", "bits", "I", false)
  | 1 => ("HillDance$Sheet", "length", "I", false)
  | _ => ("HillDance$Sheet", "numbers", "[I", true)
def tyX1 : Nat → FieldType := fun k => match k with
  | 0 => .int
  | 1 => .int
  | _ => .array .int
abbrev wsX10 : List Cond := u_ws RX1 TX1 3
theorem nmX1 : ∀ a, a < 3 → ∀ b, b < 3 → a ≠ b → (TX1 a).2.1 ≠ (TX1 b).2.1 := by decide +kernel
theorem tyX1_ok : ∀ k, k < 3 → parseFieldDescriptor (TX1 k).2.2.1 = some (tyX1 k) := by decide +kernel
abbrev cX1_init : ByteArray := prog_3_method_1_code
def yX1_init : MethodName := ⟨RX1, "<init>", "()V"⟩
abbrev cX1_begin : ByteArray := prog_3_method_2_code
def yX1_begin : MethodName := ⟨RX1, "begin", "(II)V"⟩
abbrev cX1_isMissing : ByteArray := prog_3_method_3_code
def yX1_isMissing : MethodName := ⟨RX1, "isMissing", "()Z"⟩
abbrev cX1_put : ByteArray := prog_3_method_4_code
def yX1_put : MethodName := ⟨RX1, "put", "(II)V"⟩
abbrev cX1_reaches : ByteArray := prog_3_method_5_code
def yX1_reaches : MethodName := ⟨RX1, "reaches", "(II)Z"⟩
def RX2 : String := "HillDance$Shire"
def TX2 : u_T := fun k => match k with
  | 0 => ("HillDance$Shire", "rainfall", "I", false)
  | 1 => ("HillDance$Shire", "age", "I", false)
  | 2 => ("HillDance$Shire", "z", "I", false)
  | 3 => ("HillDance$Shire", "hills", "I", false)
  | 4 => ("HillDance$Shire", "spots", "[I", true)
  | 5 => ("HillDance$Shire", "kinds", "[I", true)
  | 6 => ("HillDance$Shire", "valleys", "[I", true)
  | 7 => ("HillDance$Shire", "steps", "[I", true)
  | 8 => ("HillDance$Shire", "turns", "[I", true)
  | 9 => ("HillDance$Shire", "heights", "[I", true)
  | 10 => ("HillDance$Shire", "bows", "[I", true)
  | 11 => ("HillDance$Shire", "faced", "[I", true)
  | 12 => ("HillDance$Shire", "met", "[I", true)
  | 13 => ("HillDance$Shire", "standing", "[I", true)
  | _ => ("HillDance$Shire", "looking", "[I", true)
def tyX2 : Nat → FieldType := fun k => match k with
  | 0 => .int
  | 1 => .int
  | 2 => .int
  | 3 => .int
  | 4 => .array .int
  | 5 => .array .int
  | 6 => .array .int
  | 7 => .array .int
  | 8 => .array .int
  | 9 => .array .int
  | 10 => .array .int
  | 11 => .array .int
  | 12 => .array .int
  | 13 => .array .int
  | _ => .array .int
abbrev wsX20 : List Cond := u_ws RX2 TX2 15
theorem nmX2 : ∀ a, a < 15 → ∀ b, b < 15 → a ≠ b → (TX2 a).2.1 ≠ (TX2 b).2.1 := by decide +kernel
theorem tyX2_ok : ∀ k, k < 15 → parseFieldDescriptor (TX2 k).2.2.1 = some (tyX2 k) := by decide +kernel
abbrev cX2_init : ByteArray := prog_4_method_1_code
def yX2_init : MethodName := ⟨RX2, "<init>", "()V"⟩
abbrev cX2_lacks : ByteArray := prog_4_method_2_code
def yX2_lacks : MethodName := ⟨RX2, "lacks", "(I)Z"⟩
abbrev cX2_isCrowded : ByteArray := prog_4_method_3_code
def yX2_isCrowded : MethodName := ⟨RX2, "isCrowded", "()Z"⟩
abbrev cX2_raise : ByteArray := prog_4_method_4_code
def yX2_raise : MethodName := ⟨RX2, "raise", "(II)I"⟩
abbrev cX2_trait : ByteArray := prog_4_method_5_code
def yX2_trait : MethodName := ⟨RX2, "trait", "(II)I"⟩
abbrev cX2_setTrait : ByteArray := prog_4_method_6_code
def yX2_setTrait : MethodName := ⟨RX2, "setTrait", "(III)V"⟩
abbrev cX2_become : ByteArray := prog_4_method_7_code
def yX2_become : MethodName := ⟨RX2, "become", "(LHillDance$Shire;)V"⟩
abbrev cX2_lookAround : ByteArray := prog_4_method_8_code
def yX2_lookAround : MethodName := ⟨RX2, "lookAround", "()V"⟩
abbrev cX2_facedBy : ByteArray := prog_4_method_9_code
def yX2_facedBy : MethodName := ⟨RX2, "facedBy", "(I)I"⟩
abbrev cX2_meetsOf : ByteArray := prog_4_method_10_code
def yX2_meetsOf : MethodName := ⟨RX2, "meetsOf", "(I)I"⟩
abbrev cX2_standingAt : ByteArray := prog_4_method_11_code
def yX2_standingAt : MethodName := ⟨RX2, "standingAt", "(I)I"⟩
abbrev cX2_facing : ByteArray := prog_4_method_12_code
def yX2_facing : MethodName := ⟨RX2, "facing", "(I)I"⟩
abbrev cX2_everyone : ByteArray := prog_4_method_13_code
def yX2_everyone : MethodName := ⟨RX2, "everyone", "()I"⟩
abbrev cX2_meeting : ByteArray := prog_4_method_14_code
def yX2_meeting : MethodName := ⟨RX2, "meeting", "()I"⟩
abbrev cX2_valleysStoodAt : ByteArray := prog_4_method_15_code
def yX2_valleysStoodAt : MethodName := ⟨RX2, "valleysStoodAt", "()I"⟩
abbrev cX2_valleysFaced : ByteArray := prog_4_method_16_code
def yX2_valleysFaced : MethodName := ⟨RX2, "valleysFaced", "()I"⟩
abbrev cX2_valleysIn : ByteArray := prog_4_method_17_code
def yX2_valleysIn : MethodName := ⟨RX2, "valleysIn", "([I)I"⟩
abbrev cX2_heightOfAll : ByteArray := prog_4_method_18_code
def yX2_heightOfAll : MethodName := ⟨RX2, "heightOfAll", "()I"⟩
abbrev cX2_bowedOfAll : ByteArray := prog_4_method_19_code
def yX2_bowedOfAll : MethodName := ⟨RX2, "bowedOfAll", "()I"⟩
abbrev cX2_sumOf : ByteArray := prog_4_method_20_code
def yX2_sumOf : MethodName := ⟨RX2, "sumOf", "([I)I"⟩
abbrev cX2_spotsHeld : ByteArray := prog_4_method_21_code
def yX2_spotsHeld : MethodName := ⟨RX2, "spotsHeld", "()I"⟩
abbrev cX2_highestAt : ByteArray := prog_4_method_22_code
def yX2_highestAt : MethodName := ⟨RX2, "highestAt", "(I)I"⟩
abbrev cX2_climbOn : ByteArray := prog_4_method_23_code
def yX2_climbOn : MethodName := ⟨RX2, "climbOn", "(II)I"⟩
abbrev cX2_leastClimb : ByteArray := prog_4_method_24_code
def yX2_leastClimb : MethodName := ⟨RX2, "leastClimb", "(II)I"⟩
abbrev cX2_movesOf : ByteArray := prog_4_method_25_code
def yX2_movesOf : MethodName := ⟨RX2, "movesOf", "(I)I"⟩
abbrev cX2_tallOf : ByteArray := prog_4_method_26_code
def yX2_tallOf : MethodName := ⟨RX2, "tallOf", "(I)I"⟩
abbrev cX2_partnerMoves : ByteArray := prog_4_method_27_code
def yX2_partnerMoves : MethodName := ⟨RX2, "partnerMoves", "(I)I"⟩
abbrev cX2_twinMoves : ByteArray := prog_4_method_28_code
def yX2_twinMoves : MethodName := ⟨RX2, "twinMoves", "(I)I"⟩
abbrev cX2_turnsOf : ByteArray := prog_4_method_29_code
def yX2_turnsOf : MethodName := ⟨RX2, "turnsOf", "(I)I"⟩
abbrev cX2_sinksOf : ByteArray := prog_4_method_30_code
def yX2_sinksOf : MethodName := ⟨RX2, "sinksOf", "(I)I"⟩
abbrev cX2_passAges : ByteArray := prog_4_method_31_code
def yX2_passAges : MethodName := ⟨RX2, "passAges", "(I)V"⟩
abbrev cX2_passAge : ByteArray := prog_4_method_32_code
def yX2_passAge : MethodName := ⟨RX2, "passAge", "()V"⟩
abbrev cX2_draw : ByteArray := prog_4_method_33_code
def yX2_draw : MethodName := ⟨RX2, "draw", "()I"⟩
abbrev cX2_passWetAge : ByteArray := prog_4_method_34_code
def yX2_passWetAge : MethodName := ⟨RX2, "passWetAge", "()V"⟩
abbrev cX2_standsAndTurnsAs : ByteArray := prog_4_method_35_code
def yX2_standsAndTurnsAs : MethodName := ⟨RX2, "standsAndTurnsAs", "(LHillDance$Shire;)Z"⟩
def RX3 : String := "HillDance"
def TX3 : u_T := fun k => match k with
  | 0 => ("HillDance", "shire", "LHillDance$Shire;", true)
  | 1 => ("HillDance", "trial", "LHillDance$Shire;", true)
  | 2 => ("HillDance", "kept", "LHillDance$Shire;", true)
  | 3 => ("HillDance", "isKept", "Z", false)
  | 4 => ("HillDance", "reader", "LHillDance$Reader;", true)
  | 5 => ("HillDance", "sheets", "[LHillDance$Sheet;", true)
  | _ => ("HillDance", "found", "[I", true)
def tyX3 : Nat → FieldType := fun k => match k with
  | 0 => .object "HillDance$Shire"
  | 1 => .object "HillDance$Shire"
  | 2 => .object "HillDance$Shire"
  | 3 => .boolean
  | 4 => .object "HillDance$Reader"
  | 5 => .array (.object "HillDance$Sheet")
  | _ => .array .int
abbrev wsX30 : List Cond := u_ws RX3 TX3 7
theorem nmX3 : ∀ a, a < 7 → ∀ b, b < 7 → a ≠ b → (TX3 a).2.1 ≠ (TX3 b).2.1 := by decide +kernel
theorem tyX3_ok : ∀ k, k < 7 → parseFieldDescriptor (TX3 k).2.2.1 = some (tyX3 k) := by decide +kernel
abbrev cX3_init : ByteArray := prog_1_method_1_code
def yX3_init : MethodName := ⟨RX3, "<init>", "()V"⟩
abbrev cX3_rain : ByteArray := prog_1_method_2_code
def yX3_rain : MethodName := ⟨RX3, "rain", "(I)I"⟩
abbrev cX3_hill : ByteArray := prog_1_method_3_code
def yX3_hill : MethodName := ⟨RX3, "hill", "(II)I"⟩
abbrev cX3_of : ByteArray := prog_1_method_4_code
def yX3_of : MethodName := ⟨RX3, "of", "(II)I"⟩
abbrev cX3_change : ByteArray := prog_1_method_5_code
def yX3_change : MethodName := ⟨RX3, "change", "(III)I"⟩
abbrev cX3_valley : ByteArray := prog_1_method_6_code
def yX3_valley : MethodName := ⟨RX3, "valley", "(II)I"⟩
abbrev cX3_go : ByteArray := prog_1_method_7_code
def yX3_go : MethodName := ⟨RX3, "go", "(I)I"⟩
abbrev cX3_now : ByteArray := prog_1_method_8_code
def yX3_now : MethodName := ⟨RX3, "now", "(I)I"⟩
abbrev cX3_ahead : ByteArray := prog_1_method_9_code
def yX3_ahead : MethodName := ⟨RX3, "ahead", "(III)I"⟩
abbrev cX3_when : ByteArray := prog_1_method_10_code
def yX3_when : MethodName := ⟨RX3, "when", "(II)I"⟩
abbrev cX3_meet : ByteArray := prog_1_method_11_code
def yX3_meet : MethodName := ⟨RX3, "meet", "(II)I"⟩
abbrev cX3_round : ByteArray := prog_1_method_12_code
def yX3_round : MethodName := ⟨RX3, "round", "()I"⟩
abbrev cX3_skylines : ByteArray := prog_1_method_13_code
def yX3_skylines : MethodName := ⟨RX3, "skylines", "(II)I"⟩
abbrev cX3_wallflowers : ByteArray := prog_1_method_14_code
def yX3_wallflowers : MethodName := ⟨RX3, "wallflowers", "(I)I"⟩
abbrev cX3_stand : ByteArray := prog_1_method_15_code
def yX3_stand : MethodName := ⟨RX3, "stand", "(II)I"⟩
abbrev cX3_stepFor : ByteArray := prog_1_method_16_code
def yX3_stepFor : MethodName := ⟨RX3, "stepFor", "(II)I"⟩
abbrev cX3_turnFor : ByteArray := prog_1_method_17_code
def yX3_turnFor : MethodName := ⟨RX3, "turnFor", "(II)I"⟩
abbrev cX3_kindFor : ByteArray := prog_1_method_18_code
def yX3_kindFor : MethodName := ⟨RX3, "kindFor", "(II)I"⟩
abbrev cX3_rainFor : ByteArray := prog_1_method_19_code
def yX3_rainFor : MethodName := ⟨RX3, "rainFor", "(III)I"⟩
abbrev cX3_road : ByteArray := prog_1_method_20_code
def yX3_road : MethodName := ⟨RX3, "road", "(III)I"⟩
abbrev cX3_climb : ByteArray := prog_1_method_21_code
def yX3_climb : MethodName := ⟨RX3, "climb", "(II)I"⟩
abbrev cX3_open : ByteArray := prog_1_method_22_code
def yX3_open : MethodName := ⟨RX3, "open", "(IIII)I"⟩
abbrev cX3_lay : ByteArray := prog_1_method_23_code
def yX3_lay : MethodName := ⟨RX3, "lay", "(III)I"⟩
abbrev cX3_fits : ByteArray := prog_1_method_24_code
def yX3_fits : MethodName := ⟨RX3, "fits", "(II)I"⟩
abbrev cX3_step : ByteArray := prog_1_method_25_code
def yX3_step : MethodName := ⟨RX3, "step", "(II)I"⟩
abbrev cX3_kinds : ByteArray := prog_1_method_26_code
def yX3_kinds : MethodName := ⟨RX3, "kinds", "(II)I"⟩
abbrev cX3_rains : ByteArray := prog_1_method_27_code
def yX3_rains : MethodName := ⟨RX3, "rains", "(I)I"⟩
abbrev cX3_odds : ByteArray := prog_1_method_28_code
def yX3_odds : MethodName := ⟨RX3, "odds", "(II)J"⟩
abbrev cX3_seed : ByteArray := prog_1_method_29_code
def yX3_seed : MethodName := ⟨RX3, "seed", "(I)I"⟩
abbrev cX3_feed : ByteArray := prog_1_method_30_code
def yX3_feed : MethodName := ⟨RX3, "feed", "(II)I"⟩
abbrev cX3_wipe : ByteArray := prog_1_method_31_code
def yX3_wipe : MethodName := ⟨RX3, "wipe", "()I"⟩
abbrev cX3_text : ByteArray := prog_1_method_32_code
def yX3_text : MethodName := ⟨RX3, "text", "()I"⟩
abbrev cX3_hold : ByteArray := prog_1_method_33_code
def yX3_hold : MethodName := ⟨RX3, "hold", "(II)I"⟩
abbrev cX3_as : ByteArray := prog_1_method_34_code
def yX3_as : MethodName := ⟨RX3, "as", "(II)I"⟩
abbrev cX3_sheet : ByteArray := prog_1_method_35_code
def yX3_sheet : MethodName := ⟨RX3, "sheet", "(III)I"⟩
abbrev cX3_write : ByteArray := prog_1_method_36_code
def yX3_write : MethodName := ⟨RX3, "write", "(III)I"⟩
abbrev cX3_copy : ByteArray := prog_1_method_37_code
def yX3_copy : MethodName := ⟨RX3, "copy", "(IIIII)I"⟩
abbrev cX3_load : ByteArray := prog_1_method_38_code
def yX3_load : MethodName := ⟨RX3, "load", "(I)I"⟩
abbrev cX3_judge : ByteArray := prog_1_method_39_code
def yX3_judge : MethodName := ⟨RX3, "judge", "(I)I"⟩
abbrev cX3_image : ByteArray := prog_1_method_40_code
def yX3_image : MethodName := ⟨RX3, "image", "()I"⟩
abbrev cX3_undo : ByteArray := prog_1_method_41_code
def yX3_undo : MethodName := ⟨RX3, "undo", "()I"⟩
abbrev cX3_tear : ByteArray := prog_1_method_42_code
def yX3_tear : MethodName := ⟨RX3, "tear", "()I"⟩
abbrev cX3_count : ByteArray := prog_1_method_43_code
def yX3_count : MethodName := ⟨RX3, "count", "(I)I"⟩
abbrev cX3_status : ByteArray := prog_1_method_44_code
def yX3_status : MethodName := ⟨RX3, "status", "(I)I"⟩
abbrev cX3_finding : ByteArray := prog_1_method_45_code
def yX3_finding : MethodName := ⟨RX3, "finding", "(I)I"⟩
abbrev cX3_isOutside : ByteArray := prog_1_method_46_code
def yX3_isOutside : MethodName := ⟨RX3, "isOutside", "(III)Z"⟩
abbrev cX3_isNoValley : ByteArray := prog_1_method_47_code
def yX3_isNoValley : MethodName := ⟨RX3, "isNoValley", "(I)Z"⟩
abbrev cX3_isNoSheet : ByteArray := prog_1_method_48_code
def yX3_isNoSheet : MethodName := ⟨RX3, "isNoSheet", "(I)Z"⟩
abbrev cX3_isNoPair : ByteArray := prog_1_method_49_code
def yX3_isNoPair : MethodName := ⟨RX3, "isNoPair", "(II)Z"⟩
abbrev cX3_isForetold : ByteArray := prog_1_method_50_code
def yX3_isForetold : MethodName := ⟨RX3, "isForetold", "(I)Z"⟩
abbrev cX3_leastOf : ByteArray := prog_1_method_51_code
def yX3_leastOf : MethodName := ⟨RX3, "leastOf", "(I)I"⟩
abbrev cX3_mostOf : ByteArray := prog_1_method_52_code
def yX3_mostOf : MethodName := ⟨RX3, "mostOf", "(I)I"⟩
abbrev cX3_isUnder : ByteArray := prog_1_method_53_code
def yX3_isUnder : MethodName := ⟨RX3, "isUnder", "(II)Z"⟩
abbrev cX3_wrongWithSheet : ByteArray := prog_1_method_54_code
def yX3_wrongWithSheet : MethodName := ⟨RX3, "wrongWithSheet", "(I)I"⟩
abbrev cX3_wrongWithTold : ByteArray := prog_1_method_55_code
def yX3_wrongWithTold : MethodName := ⟨RX3, "wrongWithTold", "(II)I"⟩
abbrev cX3_tryWith : ByteArray := prog_1_method_56_code
def yX3_tryWith : MethodName := ⟨RX3, "tryWith", "(III)V"⟩
abbrev cX3_agesUntilMeeting : ByteArray := prog_1_method_57_code
def yX3_agesUntilMeeting : MethodName := ⟨RX3, "agesUntilMeeting", "(III)I"⟩
abbrev cX3_soonestWith : ByteArray := prog_1_method_58_code
def yX3_soonestWith : MethodName := ⟨RX3, "soonestWith", "(III)I"⟩
abbrev cX3_waysOn : ByteArray := prog_1_method_59_code
def yX3_waysOn : MethodName := ⟨RX3, "waysOn", "(II)I"⟩
abbrev cX3_agesOpen : ByteArray := prog_1_method_60_code
def yX3_agesOpen : MethodName := ⟨RX3, "agesOpen", "(IIII)I"⟩
abbrev cX3_fittingSet : ByteArray := prog_1_method_61_code
def yX3_fittingSet : MethodName := ⟨RX3, "fittingSet", "(III)I"⟩
abbrev cX3_facesAsTold : ByteArray := prog_1_method_62_code
def yX3_facesAsTold : MethodName := ⟨RX3, "facesAsTold", "(LHillDance$Sheet;I)Z"⟩
def RX4 : String := "HillDanceModel"
def TX4 : u_T := fun k => match k with
  | 0 => ("HillDanceModel", "now", "[I", true)
  | 1 => ("HillDanceModel", "kept", "[I", true)
  | 2 => ("HillDanceModel", "aside", "[I", true)
  | 3 => ("HillDanceModel", "isKept", "Z", false)
  | 4 => ("HillDanceModel", "found", "[I", true)
  | 5 => ("HillDanceModel", "faces", "[I", true)
  | 6 => ("HillDanceModel", "met", "[I", true)
  | 7 => ("HillDanceModel", "moves", "[I", true)
  | 8 => ("HillDanceModel", "turns", "[I", true)
  | 9 => ("HillDanceModel", "sinks", "[I", true)
  | 10 => ("HillDanceModel", "tape", "[I", true)
  | 11 => ("HillDanceModel", "taped", "I", false)
  | 12 => ("HillDanceModel", "begins", "I", false)
  | 13 => ("HillDanceModel", "ends", "I", false)
  | 14 => ("HillDanceModel", "sort", "I", false)
  | 15 => ("HillDanceModel", "value", "I", false)
  | 16 => ("HillDanceModel", "isWrong", "Z", false)
  | 17 => ("HillDanceModel", "kindNames", "[Ljava/lang/String;", true)
  | 18 => ("HillDanceModel", "items", "[I", true)
  | 19 => ("HillDanceModel", "itemMany", "I", false)
  | 20 => ("HillDanceModel", "hillThen", "I", false)
  | 21 => ("HillDanceModel", "widths", "[I", true)
  | 22 => ("HillDanceModel", "sizes", "[I", true)
  | 23 => ("HillDanceModel", "numbers", "[I", true)
  | _ => ("HillDanceModel", "moved", "[I", true)
def tyX4 : Nat → FieldType := fun k => match k with
  | 0 => .array .int
  | 1 => .array .int
  | 2 => .array .int
  | 3 => .boolean
  | 4 => .array .int
  | 5 => .array .int
  | 6 => .array .int
  | 7 => .array .int
  | 8 => .array .int
  | 9 => .array .int
  | 10 => .array .int
  | 11 => .int
  | 12 => .int
  | 13 => .int
  | 14 => .int
  | 15 => .int
  | 16 => .boolean
  | 17 => .array (.object "java/lang/String")
  | 18 => .array .int
  | 19 => .int
  | 20 => .int
  | 21 => .array .int
  | 22 => .array .int
  | 23 => .array .int
  | _ => .array .int
abbrev wsX40 : List Cond := u_ws RX4 TX4 25
theorem nmX4 : ∀ a, a < 25 → ∀ b, b < 25 → a ≠ b → (TX4 a).2.1 ≠ (TX4 b).2.1 := by decide +kernel
theorem tyX4_ok : ∀ k, k < 25 → parseFieldDescriptor (TX4 k).2.2.1 = some (tyX4 k) := by decide +kernel
abbrev cX4_init : ByteArray := prog_6_method_1_code
def yX4_init : MethodName := ⟨RX4, "<init>", "()V"⟩
abbrev cX4_finding : ByteArray := prog_6_method_2_code
def yX4_finding : MethodName := ⟨RX4, "finding", "(I)I"⟩
abbrev cX4_within : ByteArray := prog_6_method_3_code
def yX4_within : MethodName := ⟨RX4, "within", "(III)Z"⟩
abbrev cX4_become : ByteArray := prog_6_method_4_code
def yX4_become : MethodName := ⟨RX4, "become", "(II)I"⟩
abbrev cX4_copyRow : ByteArray := prog_6_method_5_code
def yX4_copyRow : MethodName := ⟨RX4, "copyRow", "([I[I)V"⟩
abbrev cX4_putBack : ByteArray := prog_6_method_6_code
def yX4_putBack : MethodName := ⟨RX4, "putBack", "(I)I"⟩
abbrev cX4_orNone : ByteArray := prog_6_method_7_code
def yX4_orNone : MethodName := ⟨RX4, "orNone", "(I)I"⟩
abbrev cX4_bits : ByteArray := prog_6_method_8_code
def yX4_bits : MethodName := ⟨RX4, "bits", "(I)I"⟩
abbrev cX4_by12 : ByteArray := prog_6_method_9_code
def yX4_by12 : MethodName := ⟨RX4, "by12", "(I)I"⟩
abbrev cX4_rain : ByteArray := prog_6_method_10_code
def yX4_rain : MethodName := ⟨RX4, "rain", "(I)I"⟩
abbrev cX4_isValley : ByteArray := prog_6_method_11_code
def yX4_isValley : MethodName := ⟨RX4, "isValley", "(I)Z"⟩
abbrev cX4_isHigh : ByteArray := prog_6_method_12_code
def yX4_isHigh : MethodName := ⟨RX4, "isHigh", "(I)Z"⟩
abbrev cX4_isHill : ByteArray := prog_6_method_13_code
def yX4_isHill : MethodName := ⟨RX4, "isHill", "(I)Z"⟩
abbrev cX4_isKind : ByteArray := prog_6_method_14_code
def yX4_isKind : MethodName := ⟨RX4, "isKind", "(I)Z"⟩
abbrev cX4_at : ByteArray := prog_6_method_15_code
def yX4_at : MethodName := ⟨RX4, "at", "(II)I"⟩
abbrev cX4_hillIs : ByteArray := prog_6_method_16_code
def yX4_hillIs : MethodName := ⟨RX4, "hillIs", "(II)I"⟩
abbrev cX4_comes : ByteArray := prog_6_method_17_code
def yX4_comes : MethodName := ⟨RX4, "comes", "(IIIII)I"⟩
abbrev cX4_hill : ByteArray := prog_6_method_18_code
def yX4_hill : MethodName := ⟨RX4, "hill", "(II)I"⟩
abbrev cX4_facesOf : ByteArray := prog_6_method_19_code
def yX4_facesOf : MethodName := ⟨RX4, "facesOf", "(I)I"⟩
abbrev cX4_atValley : ByteArray := prog_6_method_20_code
def yX4_atValley : MethodName := ⟨RX4, "atValley", "(I)I"⟩
abbrev cX4_facing : ByteArray := prog_6_method_21_code
def yX4_facing : MethodName := ⟨RX4, "facing", "(I)I"⟩
abbrev cX4_meeting : ByteArray := prog_6_method_22_code
def yX4_meeting : MethodName := ⟨RX4, "meeting", "(I)I"⟩
abbrev cX4_movesOf : ByteArray := prog_6_method_23_code
def yX4_movesOf : MethodName := ⟨RX4, "movesOf", "(II)I"⟩
abbrev cX4_turnsOf : ByteArray := prog_6_method_24_code
def yX4_turnsOf : MethodName := ⟨RX4, "turnsOf", "(II)I"⟩
abbrev cX4_sinksOf : ByteArray := prog_6_method_25_code
def yX4_sinksOf : MethodName := ⟨RX4, "sinksOf", "(I)I"⟩
abbrev cX4_looksAt : ByteArray := prog_6_method_26_code
def yX4_looksAt : MethodName := ⟨RX4, "looksAt", "()V"⟩
abbrev cX4_of : ByteArray := prog_6_method_27_code
def yX4_of : MethodName := ⟨RX4, "of", "(II)I"⟩
abbrev cX4_mayBe : ByteArray := prog_6_method_28_code
def yX4_mayBe : MethodName := ⟨RX4, "mayBe", "(II)Z"⟩
abbrev cX4_change : ByteArray := prog_6_method_29_code
def yX4_change : MethodName := ⟨RX4, "change", "(III)I"⟩
abbrev cX4_highestAt : ByteArray := prog_6_method_30_code
def yX4_highestAt : MethodName := ⟨RX4, "highestAt", "(I)I"⟩
abbrev cX4_valley : ByteArray := prog_6_method_31_code
def yX4_valley : MethodName := ⟨RX4, "valley", "(II)I"⟩
abbrev cX4_age : ByteArray := prog_6_method_32_code
def yX4_age : MethodName := ⟨RX4, "age", "()V"⟩
abbrev cX4_ages : ByteArray := prog_6_method_33_code
def yX4_ages : MethodName := ⟨RX4, "ages", "(I)V"⟩
abbrev cX4_whoMeets : ByteArray := prog_6_method_34_code
def yX4_whoMeets : MethodName := ⟨RX4, "whoMeets", "()I"⟩
abbrev cX4_go : ByteArray := prog_6_method_35_code
def yX4_go : MethodName := ⟨RX4, "go", "(I)I"⟩
abbrev cX4_sumOf : ByteArray := prog_6_method_36_code
def yX4_sumOf : MethodName := ⟨RX4, "sumOf", "(I)I"⟩
abbrev cX4_valleysAt : ByteArray := prog_6_method_37_code
def yX4_valleysAt : MethodName := ⟨RX4, "valleysAt", "()I"⟩
abbrev cX4_valleysFaced : ByteArray := prog_6_method_38_code
def yX4_valleysFaced : MethodName := ⟨RX4, "valleysFaced", "()I"⟩
abbrev cX4_now : ByteArray := prog_6_method_39_code
def yX4_now : MethodName := ⟨RX4, "now", "(I)I"⟩
abbrev cX4_ahead : ByteArray := prog_6_method_40_code
def yX4_ahead : MethodName := ⟨RX4, "ahead", "(III)I"⟩
abbrev cX4_when : ByteArray := prog_6_method_41_code
def yX4_when : MethodName := ⟨RX4, "when", "(II)I"⟩
abbrev cX4_areTwo : ByteArray := prog_6_method_42_code
def yX4_areTwo : MethodName := ⟨RX4, "areTwo", "(II)Z"⟩
abbrev cX4_doMeet : ByteArray := prog_6_method_43_code
def yX4_doMeet : MethodName := ⟨RX4, "doMeet", "(II)Z"⟩
abbrev cX4_meetIn : ByteArray := prog_6_method_44_code
def yX4_meetIn : MethodName := ⟨RX4, "meetIn", "(III)I"⟩
abbrev cX4_meet : ByteArray := prog_6_method_45_code
def yX4_meet : MethodName := ⟨RX4, "meet", "(II)I"⟩
abbrev cX4_isAsAside : ByteArray := prog_6_method_46_code
def yX4_isAsAside : MethodName := ⟨RX4, "isAsAside", "()Z"⟩
abbrev cX4_round : ByteArray := prog_6_method_47_code
def yX4_round : MethodName := ⟨RX4, "round", "()I"⟩
abbrev cX4_isSoon : ByteArray := prog_6_method_48_code
def yX4_isSoon : MethodName := ⟨RX4, "isSoon", "(I)Z"⟩
abbrev cX4_skylines : ByteArray := prog_6_method_49_code
def yX4_skylines : MethodName := ⟨RX4, "skylines", "(II)I"⟩
abbrev cX4_wallflowers : ByteArray := prog_6_method_50_code
def yX4_wallflowers : MethodName := ⟨RX4, "wallflowers", "(I)I"⟩
abbrev cX4_soonest : ByteArray := prog_6_method_51_code
def yX4_soonest : MethodName := ⟨RX4, "soonest", "(IIIII)I"⟩
abbrev cX4_stand : ByteArray := prog_6_method_52_code
def yX4_stand : MethodName := ⟨RX4, "stand", "(II)I"⟩
abbrev cX4_stepFor : ByteArray := prog_6_method_53_code
def yX4_stepFor : MethodName := ⟨RX4, "stepFor", "(II)I"⟩
abbrev cX4_turnFor : ByteArray := prog_6_method_54_code
def yX4_turnFor : MethodName := ⟨RX4, "turnFor", "(II)I"⟩
abbrev cX4_isGo : ByteArray := prog_6_method_55_code
def yX4_isGo : MethodName := ⟨RX4, "isGo", "(I)Z"⟩
abbrev cX4_behind : ByteArray := prog_6_method_56_code
def yX4_behind : MethodName := ⟨RX4, "behind", "(III)I"⟩
abbrev cX4_kindFor : ByteArray := prog_6_method_57_code
def yX4_kindFor : MethodName := ⟨RX4, "kindFor", "(II)I"⟩
abbrev cX4_rainFor : ByteArray := prog_6_method_58_code
def yX4_rainFor : MethodName := ⟨RX4, "rainFor", "(III)I"⟩
abbrev cX4_between : ByteArray := prog_6_method_59_code
def yX4_between : MethodName := ⟨RX4, "between", "(III)I"⟩
abbrev cX4_areEnds : ByteArray := prog_6_method_60_code
def yX4_areEnds : MethodName := ⟨RX4, "areEnds", "(II)Z"⟩
abbrev cX4_roadNow : ByteArray := prog_6_method_61_code
def yX4_roadNow : MethodName := ⟨RX4, "roadNow", "(III)I"⟩
abbrev cX4_road : ByteArray := prog_6_method_62_code
def yX4_road : MethodName := ⟨RX4, "road", "(III)I"⟩
abbrev cX4_climbNow : ByteArray := prog_6_method_63_code
def yX4_climbNow : MethodName := ⟨RX4, "climbNow", "(II)I"⟩
abbrev cX4_climb : ByteArray := prog_6_method_64_code
def yX4_climb : MethodName := ⟨RX4, "climb", "(II)I"⟩
abbrev cX4_openIn : ByteArray := prog_6_method_65_code
def yX4_openIn : MethodName := ⟨RX4, "openIn", "(IIII)I"⟩
abbrev cX4_open : ByteArray := prog_6_method_66_code
def yX4_open : MethodName := ⟨RX4, "open", "(IIII)I"⟩
abbrev cX4_lay : ByteArray := prog_6_method_67_code
def yX4_lay : MethodName := ⟨RX4, "lay", "(III)I"⟩
abbrev cX4_lacks : ByteArray := prog_6_method_68_code
def yX4_lacks : MethodName := ⟨RX4, "lacks", "(II)I"⟩
abbrev cX4_facedSo : ByteArray := prog_6_method_69_code
def yX4_facedSo : MethodName := ⟨RX4, "facedSo", "(II)Z"⟩
abbrev cX4_fitting : ByteArray := prog_6_method_70_code
def yX4_fitting : MethodName := ⟨RX4, "fitting", "(IIIII)I"⟩
abbrev cX4_fits : ByteArray := prog_6_method_71_code
def yX4_fits : MethodName := ⟨RX4, "fits", "(II)I"⟩
abbrev cX4_step : ByteArray := prog_6_method_72_code
def yX4_step : MethodName := ⟨RX4, "step", "(II)I"⟩
abbrev cX4_kinds : ByteArray := prog_6_method_73_code
def yX4_kinds : MethodName := ⟨RX4, "kinds", "(II)I"⟩
abbrev cX4_drawn : ByteArray := prog_6_method_74_code
def yX4_drawn : MethodName := ⟨RX4, "drawn", "()I"⟩
abbrev cX4_rains : ByteArray := prog_6_method_75_code
def yX4_rains : MethodName := ⟨RX4, "rains", "(I)I"⟩
abbrev cX4_odds : ByteArray := prog_6_method_76_code
def yX4_odds : MethodName := ⟨RX4, "odds", "(II)J"⟩
abbrev cX4_seed : ByteArray := prog_6_method_77_code
def yX4_seed : MethodName := ⟨RX4, "seed", "(I)I"⟩
abbrev cX4_feed : ByteArray := prog_6_method_78_code
def yX4_feed : MethodName := ⟨RX4, "feed", "(II)I"⟩
abbrev cX4_wipe : ByteArray := prog_6_method_79_code
def yX4_wipe : MethodName := ⟨RX4, "wipe", "()I"⟩
abbrev cX4_byteAt : ByteArray := prog_6_method_80_code
def yX4_byteAt : MethodName := ⟨RX4, "byteAt", "(I)I"⟩
abbrev cX4_next : ByteArray := prog_6_method_81_code
def yX4_next : MethodName := ⟨RX4, "next", "()V"⟩
abbrev cX4_isWord : ByteArray := prog_6_method_82_code
def yX4_isWord : MethodName := ⟨RX4, "isWord", "(Ljava/lang/String;)Z"⟩
abbrev cX4_must : ByteArray := prog_6_method_83_code
def yX4_must : MethodName := ⟨RX4, "must", "(Z)V"⟩
abbrev cX4_number : ByteArray := prog_6_method_84_code
def yX4_number : MethodName := ⟨RX4, "number", "(II)I"⟩
abbrev cX4_addItem : ByteArray := prog_6_method_85_code
def yX4_addItem : MethodName := ⟨RX4, "addItem", "(IIIII)V"⟩
abbrev cX4_kindTold : ByteArray := prog_6_method_86_code
def yX4_kindTold : MethodName := ⟨RX4, "kindTold", "()I"⟩
abbrev cX4_afterWord : ByteArray := prog_6_method_87_code
def yX4_afterWord : MethodName := ⟨RX4, "afterWord", "(Ljava/lang/String;II)I"⟩
abbrev cX4_stepTold : ByteArray := prog_6_method_88_code
def yX4_stepTold : MethodName := ⟨RX4, "stepTold", "()I"⟩
abbrev cX4_readItem : ByteArray := prog_6_method_89_code
def yX4_readItem : MethodName := ⟨RX4, "readItem", "()V"⟩
abbrev cX4_isToldSo : ByteArray := prog_6_method_90_code
def yX4_isToldSo : MethodName := ⟨RX4, "isToldSo", "(I)I"⟩
abbrev cX4_text : ByteArray := prog_6_method_91_code
def yX4_text : MethodName := ⟨RX4, "text", "()I"⟩
abbrev cX4_isSpot : ByteArray := prog_6_method_92_code
def yX4_isSpot : MethodName := ⟨RX4, "isSpot", "(I)Z"⟩
abbrev cX4_hold : ByteArray := prog_6_method_93_code
def yX4_hold : MethodName := ⟨RX4, "hold", "(II)I"⟩
abbrev cX4_as : ByteArray := prog_6_method_94_code
def yX4_as : MethodName := ⟨RX4, "as", "(II)I"⟩
abbrev cX4_isSheet : ByteArray := prog_6_method_95_code
def yX4_isSheet : MethodName := ⟨RX4, "isSheet", "(I)Z"⟩
abbrev cX4_cutTo : ByteArray := prog_6_method_96_code
def yX4_cutTo : MethodName := ⟨RX4, "cutTo", "(II)I"⟩
abbrev cX4_sheet : ByteArray := prog_6_method_97_code
def yX4_sheet : MethodName := ⟨RX4, "sheet", "(III)I"⟩
abbrev cX4_write : ByteArray := prog_6_method_98_code
def yX4_write : MethodName := ⟨RX4, "write", "(III)I"⟩
abbrev cX4_copy : ByteArray := prog_6_method_99_code
def yX4_copy : MethodName := ⟨RX4, "copy", "(IIIII)I"⟩
abbrev cX4_above : ByteArray := prog_6_method_100_code
def yX4_above : MethodName := ⟨RX4, "above", "(I)I"⟩
abbrev cX4_isUnder : ByteArray := prog_6_method_101_code
def yX4_isUnder : MethodName := ⟨RX4, "isUnder", "(II)Z"⟩
abbrev cX4_lacksSheet : ByteArray := prog_6_method_102_code
def yX4_lacksSheet : MethodName := ⟨RX4, "lacksSheet", "(I)I"⟩
abbrev cX4_load : ByteArray := prog_6_method_103_code
def yX4_load : MethodName := ⟨RX4, "load", "(I)I"⟩
abbrev cX4_judge : ByteArray := prog_6_method_104_code
def yX4_judge : MethodName := ⟨RX4, "judge", "(I)I"⟩
abbrev cX4_image : ByteArray := prog_6_method_105_code
def yX4_image : MethodName := ⟨RX4, "image", "()I"⟩
abbrev cX4_undo : ByteArray := prog_6_method_106_code
def yX4_undo : MethodName := ⟨RX4, "undo", "()I"⟩
abbrev cX4_tear : ByteArray := prog_6_method_107_code
def yX4_tear : MethodName := ⟨RX4, "tear", "()I"⟩
abbrev cX4_count : ByteArray := prog_6_method_108_code
def yX4_count : MethodName := ⟨RX4, "count", "(I)I"⟩
abbrev cX4_status : ByteArray := prog_6_method_109_code
def yX4_status : MethodName := ⟨RX4, "status", "(I)I"⟩
def RJx145de : String := "java/io/Serializable"
def TJx145de : u_T := fun k => match k with
  | _ => ("", "", "", false)
def tyJx145de : Nat → FieldType := fun k => match k with
  | _ => .int
def RJx9f9b0 : String := "java/lang/CharSequence"
def TJx9f9b0 : u_T := fun k => match k with
  | _ => ("", "", "", false)
def tyJx9f9b0 : Nat → FieldType := fun k => match k with
  | _ => .int
def RJxb160c : String := "java/lang/Comparable"
def TJxb160c : u_T := fun k => match k with
  | _ => ("", "", "", false)
def tyJxb160c : Nat → FieldType := fun k => match k with
  | _ => .int
def RJ6 : String := "java/lang/Integer"
def TJ6 : u_T := fun k => match k with
  | _ => ("", "", "", false)
def tyJ6 : Nat → FieldType := fun k => match k with
  | _ => .int
abbrev cJ6_bitCount_0f7a4 : ByteArray := prog_7_method_49_code
def yJ6_bitCount_0f7a4 : MethodName := ⟨RJ6, "bitCount", "(I)I"⟩
def RJ9 : String := "java/lang/Math"
def TJ9 : u_T := fun k => match k with
  | _ => ("", "", "", false)
def tyJ9 : Nat → FieldType := fun k => match k with
  | _ => .int
abbrev cJ9_floorMod_7cf53 : ByteArray := prog_8_method_50_code
def yJ9_floorMod_7cf53 : MethodName := ⟨RJ9, "floorMod", "(II)I"⟩
abbrev cJ9_max_7cf53 : ByteArray := prog_8_method_65_code
def yJ9_max_7cf53 : MethodName := ⟨RJ9, "max", "(II)I"⟩
abbrev cJ9_min_7cf53 : ByteArray := prog_8_method_69_code
def yJ9_min_7cf53 : MethodName := ⟨RJ9, "min", "(II)I"⟩
def RJ0 : String := "java/lang/String"
def TJ0 : u_T := fun k => match k with
  | _ => ("", "", "", false)
def tyJ0 : Nat → FieldType := fun k => match k with
  | _ => .int
abbrev cJ0_length_8abf5 : ByteArray := prog_9_method_54_code
def yJ0_length_8abf5 : MethodName := ⟨RJ0, "length", "()I"⟩
abbrev cJ0_charAt_5068e : ByteArray := prog_9_method_56_code
def yJ0_charAt_5068e : MethodName := ⟨RJ0, "charAt", "(I)C"⟩
abbrev cJ0_coder_7d493 : ByteArray := prog_9_method_152_code
def yJ0_coder_7d493 : MethodName := ⟨RJ0, "coder", "()B"⟩
abbrev cJ0_isLatin1_aae02 : ByteArray := prog_9_method_154_code
def yJ0_isLatin1_aae02 : MethodName := ⟨RJ0, "isLatin1", "()Z"⟩
abbrev cJ0_checkIndex_df160 : ByteArray := prog_9_method_155_code
def yJ0_checkIndex_df160 : MethodName := ⟨RJ0, "checkIndex", "(II)V"⟩
def RJ1 : String := "java/lang/StringLatin1"
def TJ1 : u_T := fun k => match k with
  | _ => ("", "", "", false)
def tyJ1 : Nat → FieldType := fun k => match k with
  | _ => .int
abbrev cJ1_charAt_3b067 : ByteArray := prog_10_method_2_code
def yJ1_charAt_3b067 : MethodName := ⟨RJ1, "charAt", "([BI)C"⟩
def RJ2 : String := "java/lang/StringUTF16"
def TJ2 : u_T := fun k => match k with
  | _ => ("", "", "", false)
def tyJ2 : Nat → FieldType := fun k => match k with
  | _ => .int
abbrev cJ2_getChar_3b067 : ByteArray := prog_11_method_5_code
def yJ2_getChar_3b067 : MethodName := ⟨RJ2, "getChar", "([BI)C"⟩
abbrev cJ2_length_9d52b : ByteArray := prog_11_method_6_code
def yJ2_length_9d52b : MethodName := ⟨RJ2, "length", "([B)I"⟩
abbrev cJ2_charAt_3b067 : ByteArray := prog_11_method_83_code
def yJ2_charAt_3b067 : MethodName := ⟨RJ2, "charAt", "([BI)C"⟩
abbrev cJ2_checkIndex_2214a : ByteArray := prog_11_method_91_code
def yJ2_checkIndex_2214a : MethodName := ⟨RJ2, "checkIndex", "(I[B)V"⟩
def RJ10 : String := "java/lang/System"
def TJ10 : u_T := fun k => match k with
  | _ => ("", "", "", false)
def tyJ10 : Nat → FieldType := fun k => match k with
  | _ => .int
def RJxfd54e : String := "java/lang/constant/Constable"
def TJxfd54e : u_T := fun k => match k with
  | _ => ("", "", "", false)
def tyJxfd54e : Nat → FieldType := fun k => match k with
  | _ => .int
def RJx3cf43 : String := "java/lang/constant/ConstantDesc"
def TJx3cf43 : u_T := fun k => match k with
  | _ => ("", "", "", false)
def tyJx3cf43 : Nat → FieldType := fun k => match k with
  | _ => .int
def RJ7 : String := "java/util/Arrays"
def TJ7 : u_T := fun k => match k with
  | _ => ("", "", "", false)
def tyJ7 : Nat → FieldType := fun k => match k with
  | _ => .int
abbrev cJ7_fill_53178 : ByteArray := prog_13_method_103_code
def yJ7_fill_53178 : MethodName := ⟨RJ7, "fill", "([II)V"⟩
def RJ3 : String := "jdk/internal/util/Preconditions"
def TJ3 : u_T := fun k => match k with
  | _ => ("", "", "", false)
def tyJ3 : Nat → FieldType := fun k => match k with
  | _ => .int
abbrev cJ3_checkIndex_8e157 : ByteArray := prog_14_method_11_code
def yJ3_checkIndex_8e157 : MethodName := ⟨RJ3, "checkIndex", "(IILjava/util/function/BiFunction;)I"⟩
def RL : String := "HillDanceLaw"
abbrev cL_law : ByteArray := code
def yL_law : MethodName := ⟨RL, "law", "([I)Z"⟩
abbrev vwCl : List vw_C := [(RX0, TX0, 6), (RX1, TX1, 3), (RX2, TX2, 15), (RX3, TX3, 7), (RX4, TX4, 25)]
end
section
theorem dX0_init_0 : decode cX0_init 0 = .ok (.aload_n 0, 1) := by decide +kernel
theorem dX0_init_1 : decode cX0_init 1 = .ok (.invokespecial 3, 3) := by decide +kernel
theorem dX0_init_4 : decode cX0_init 4 = .ok (.aload_n 0, 1) := by decide +kernel
theorem dX0_init_5 : decode cX0_init 5 = .ok (.bipush 120, 2) := by decide +kernel
theorem dX0_init_7 : decode cX0_init 7 = .ok (.newarray .int, 2) := by decide +kernel
theorem dX0_init_9 : decode cX0_init 9 = .ok (.putfield 9, 3) := by decide +kernel
theorem dX0_init_12 : decode cX0_init 12 = .ok (.return_, 1) := by decide +kernel
theorem dX0_append_0 : decode cX0_append 0 = .ok (.aload_n 0, 1) := by decide +kernel
theorem dX0_append_1 : decode cX0_append 1 = .ok (.getfield 9, 3) := by decide +kernel
theorem dX0_append_4 : decode cX0_append 4 = .ok (.aload_n 0, 1) := by decide +kernel
theorem dX0_append_5 : decode cX0_append 5 = .ok (.getfield 15, 3) := by decide +kernel
theorem dX0_append_8 : decode cX0_append 8 = .ok (.iload_n 1, 1) := by decide +kernel
theorem dX0_append_9 : decode cX0_append 9 = .ok (.iastore, 1) := by decide +kernel
theorem dX0_append_10 : decode cX0_append 10 = .ok (.aload_n 0, 1) := by decide +kernel
theorem dX0_append_11 : decode cX0_append 11 = .ok (.dup, 1) := by decide +kernel
theorem dX0_append_12 : decode cX0_append 12 = .ok (.getfield 15, 3) := by decide +kernel
theorem dX0_append_15 : decode cX0_append 15 = .ok (.iconst 1, 1) := by decide +kernel
theorem dX0_append_16 : decode cX0_append 16 = .ok (.iadd, 1) := by decide +kernel
theorem dX0_append_17 : decode cX0_append 17 = .ok (.putfield 15, 3) := by decide +kernel
theorem dX0_append_20 : decode cX0_append 20 = .ok (.return_, 1) := by decide +kernel
theorem dX0_readInto_0 : decode cX0_readInto 0 = .ok (.aload_n 0, 1) := by decide +kernel
theorem dX0_readInto_1 : decode cX0_readInto 1 = .ok (.iconst 0, 1) := by decide +kernel
theorem dX0_readInto_2 : decode cX0_readInto 2 = .ok (.putfield 19, 3) := by decide +kernel
theorem dX0_readInto_5 : decode cX0_readInto 5 = .ok (.aload_n 0, 1) := by decide +kernel
theorem dX0_readInto_6 : decode cX0_readInto 6 = .ok (.invokevirtual 22, 3) := by decide +kernel
theorem dX0_readInto_9 : decode cX0_readInto 9 = .ok (.iconst 1, 1) := by decide +kernel
theorem dX0_readInto_10 : decode cX0_readInto 10 = .ok (.istore_n 2, 1) := by decide +kernel
theorem dX0_readInto_11 : decode cX0_readInto 11 = .ok (.iload_n 2, 1) := by decide +kernel
theorem dX0_readInto_12 : decode cX0_readInto 12 = .ok (.bipush 120, 2) := by decide +kernel
theorem dX0_readInto_14 : decode cX0_readInto 14 = .ok (.if_icmp .gt 52, 3) := by decide +kernel
theorem dX0_readInto_17 : decode cX0_readInto 17 = .ok (.aload_n 0, 1) := by decide +kernel
theorem dX0_readInto_18 : decode cX0_readInto 18 = .ok (.aload_n 1, 1) := by decide +kernel
theorem dX0_readInto_19 : decode cX0_readInto 19 = .ok (.invokevirtual 25, 3) := by decide +kernel
theorem dX0_readInto_22 : decode cX0_readInto 22 = .ok (.ifCond .ne 10, 3) := by decide +kernel
theorem dX0_readInto_25 : decode cX0_readInto 25 = .ok (.iconst (-1), 1) := by decide +kernel
theorem dX0_readInto_26 : decode cX0_readInto 26 = .ok (.aload_n 0, 1) := by decide +kernel
theorem dX0_readInto_27 : decode cX0_readInto 27 = .ok (.getfield 29, 3) := by decide +kernel
theorem dX0_readInto_30 : decode cX0_readInto 30 = .ok (.isub, 1) := by decide +kernel
theorem dX0_readInto_31 : decode cX0_readInto 31 = .ok (.ireturn, 1) := by decide +kernel
theorem dX0_readInto_32 : decode cX0_readInto 32 = .ok (.aload_n 0, 1) := by decide +kernel
theorem dX0_readInto_33 : decode cX0_readInto 33 = .ok (.getfield 32, 3) := by decide +kernel
theorem dX0_readInto_36 : decode cX0_readInto 36 = .ok (.ifCond .ne 5, 3) := by decide +kernel
theorem dX0_readInto_39 : decode cX0_readInto 39 = .ok (.iload_n 2, 1) := by decide +kernel
theorem dX0_readInto_40 : decode cX0_readInto 40 = .ok (.ireturn, 1) := by decide +kernel
theorem dX0_readInto_41 : decode cX0_readInto 41 = .ok (.aload_n 0, 1) := by decide +kernel
theorem dX0_readInto_42 : decode cX0_readInto 42 = .ok (.getfield 32, 3) := by decide +kernel
theorem dX0_readInto_45 : decode cX0_readInto 45 = .ok (.iconst 3, 1) := by decide +kernel
theorem dX0_readInto_46 : decode cX0_readInto 46 = .ok (.if_icmp .eq 10, 3) := by decide +kernel
theorem dX0_readInto_49 : decode cX0_readInto 49 = .ok (.iconst (-1), 1) := by decide +kernel
theorem dX0_readInto_50 : decode cX0_readInto 50 = .ok (.aload_n 0, 1) := by decide +kernel
theorem dX0_readInto_51 : decode cX0_readInto 51 = .ok (.getfield 29, 3) := by decide +kernel
theorem dX0_readInto_54 : decode cX0_readInto 54 = .ok (.isub, 1) := by decide +kernel
theorem dX0_readInto_55 : decode cX0_readInto 55 = .ok (.ireturn, 1) := by decide +kernel
theorem dX0_readInto_56 : decode cX0_readInto 56 = .ok (.aload_n 0, 1) := by decide +kernel
theorem dX0_readInto_57 : decode cX0_readInto 57 = .ok (.invokevirtual 22, 3) := by decide +kernel
theorem dX0_readInto_60 : decode cX0_readInto 60 = .ok (.iinc 2 1, 3) := by decide +kernel
theorem dX0_readInto_63 : decode cX0_readInto 63 = .ok (.goto (-52), 3) := by decide +kernel
theorem dX0_readInto_66 : decode cX0_readInto 66 = .ok (.iconst (-1), 1) := by decide +kernel
theorem dX0_readInto_67 : decode cX0_readInto 67 = .ok (.aload_n 0, 1) := by decide +kernel
theorem dX0_readInto_68 : decode cX0_readInto 68 = .ok (.getfield 29, 3) := by decide +kernel
theorem dX0_readInto_71 : decode cX0_readInto 71 = .ok (.isub, 1) := by decide +kernel
theorem dX0_readInto_72 : decode cX0_readInto 72 = .ok (.ireturn, 1) := by decide +kernel
theorem dX0_readItem_0 : decode cX0_readItem 0 = .ok (.aload_n 0, 1) := by decide +kernel
theorem dX0_readItem_1 : decode cX0_readItem 1 = .ok (.ldc 35, 2) := by decide +kernel
theorem dX0_readItem_3 : decode cX0_readItem 3 = .ok (.invokevirtual 37, 3) := by decide +kernel
theorem dX0_readItem_6 : decode cX0_readItem 6 = .ok (.ifCond .eq 32, 3) := by decide +kernel
theorem dX0_readItem_9 : decode cX0_readItem 9 = .ok (.aload_n 0, 1) := by decide +kernel
theorem dX0_readItem_10 : decode cX0_readItem 10 = .ok (.invokevirtual 22, 3) := by decide +kernel
theorem dX0_readItem_13 : decode cX0_readItem 13 = .ok (.aload_n 0, 1) := by decide +kernel
theorem dX0_readItem_14 : decode cX0_readItem 14 = .ok (.bipush 9, 2) := by decide +kernel
theorem dX0_readItem_16 : decode cX0_readItem 16 = .ok (.invokevirtual 41, 3) := by decide +kernel
theorem dX0_readItem_19 : decode cX0_readItem 19 = .ok (.ifCond .ne 5, 3) := by decide +kernel
theorem dX0_readItem_22 : decode cX0_readItem 22 = .ok (.iconst 0, 1) := by decide +kernel
theorem dX0_readItem_23 : decode cX0_readItem 23 = .ok (.ireturn, 1) := by decide +kernel
theorem dX0_readItem_24 : decode cX0_readItem 24 = .ok (.aload_n 1, 1) := by decide +kernel
theorem dX0_readItem_25 : decode cX0_readItem 25 = .ok (.aload_n 0, 1) := by decide +kernel
theorem dX0_readItem_26 : decode cX0_readItem 26 = .ok (.getfield 45, 3) := by decide +kernel
theorem dX0_readItem_29 : decode cX0_readItem 29 = .ok (.putfield 48, 3) := by decide +kernel
theorem dX0_readItem_32 : decode cX0_readItem 32 = .ok (.aload_n 0, 1) := by decide +kernel
theorem dX0_readItem_33 : decode cX0_readItem 33 = .ok (.invokevirtual 22, 3) := by decide +kernel
theorem dX0_readItem_36 : decode cX0_readItem 36 = .ok (.iconst 1, 1) := by decide +kernel
theorem dX0_readItem_37 : decode cX0_readItem 37 = .ok (.ireturn, 1) := by decide +kernel
theorem dX0_readItem_38 : decode cX0_readItem 38 = .ok (.aload_n 0, 1) := by decide +kernel
theorem dX0_readItem_39 : decode cX0_readItem 39 = .ok (.invokevirtual 53, 3) := by decide +kernel
theorem dX0_readItem_42 : decode cX0_readItem 42 = .ok (.istore_n 2, 1) := by decide +kernel
theorem dX0_readItem_43 : decode cX0_readItem 43 = .ok (.iload_n 2, 1) := by decide +kernel
theorem dX0_readItem_44 : decode cX0_readItem 44 = .ok (.ifCond .lt 10, 3) := by decide +kernel
theorem dX0_readItem_47 : decode cX0_readItem 47 = .ok (.aload_n 1, 1) := by decide +kernel
theorem dX0_readItem_48 : decode cX0_readItem 48 = .ok (.invokevirtual 57, 3) := by decide +kernel
theorem dX0_readItem_51 : decode cX0_readItem 51 = .ok (.ifCond .eq 5, 3) := by decide +kernel
theorem dX0_readItem_54 : decode cX0_readItem 54 = .ok (.iconst 0, 1) := by decide +kernel
theorem dX0_readItem_55 : decode cX0_readItem 55 = .ok (.ireturn, 1) := by decide +kernel
theorem dX0_readItem_56 : decode cX0_readItem 56 = .ok (.aload_n 1, 1) := by decide +kernel
theorem dX0_readItem_57 : decode cX0_readItem 57 = .ok (.iload_n 2, 1) := by decide +kernel
theorem dX0_readItem_58 : decode cX0_readItem 58 = .ok (.iconst 0, 1) := by decide +kernel
theorem dX0_readItem_59 : decode cX0_readItem 59 = .ok (.invokevirtual 61, 3) := by decide +kernel
theorem dX0_readItem_62 : decode cX0_readItem 62 = .ok (.istore_n 3, 1) := by decide +kernel
theorem dX0_readItem_63 : decode cX0_readItem 63 = .ok (.aload_n 0, 1) := by decide +kernel
theorem dX0_readItem_64 : decode cX0_readItem 64 = .ok (.invokevirtual 22, 3) := by decide +kernel
theorem dX0_readItem_67 : decode cX0_readItem 67 = .ok (.aload_n 0, 1) := by decide +kernel
theorem dX0_readItem_68 : decode cX0_readItem 68 = .ok (.aload_n 1, 1) := by decide +kernel
theorem dX0_readItem_69 : decode cX0_readItem 69 = .ok (.iload_n 3, 1) := by decide +kernel
theorem dX0_readItem_70 : decode cX0_readItem 70 = .ok (.iconst 1, 1) := by decide +kernel
theorem dX0_readItem_71 : decode cX0_readItem 71 = .ok (.ldc 65, 2) := by decide +kernel
theorem dX0_readItem_73 : decode cX0_readItem 73 = .ok (.invokevirtual 67, 3) := by decide +kernel
theorem dX0_readItem_76 : decode cX0_readItem 76 = .ok (.ifCond .eq 43, 3) := by decide +kernel
theorem dX0_readItem_79 : decode cX0_readItem 79 = .ok (.aload_n 0, 1) := by decide +kernel
theorem dX0_readItem_80 : decode cX0_readItem 80 = .ok (.aload_n 1, 1) := by decide +kernel
theorem dX0_readItem_81 : decode cX0_readItem 81 = .ok (.iload_n 3, 1) := by decide +kernel
theorem dX0_readItem_82 : decode cX0_readItem 82 = .ok (.iconst 2, 1) := by decide +kernel
theorem dX0_readItem_83 : decode cX0_readItem 83 = .ok (.ldc 71, 2) := by decide +kernel
theorem dX0_readItem_85 : decode cX0_readItem 85 = .ok (.invokevirtual 67, 3) := by decide +kernel
theorem dX0_readItem_88 : decode cX0_readItem 88 = .ok (.ifCond .eq 31, 3) := by decide +kernel
theorem dX0_readItem_91 : decode cX0_readItem 91 = .ok (.aload_n 0, 1) := by decide +kernel
theorem dX0_readItem_92 : decode cX0_readItem 92 = .ok (.aload_n 1, 1) := by decide +kernel
theorem dX0_readItem_93 : decode cX0_readItem 93 = .ok (.iload_n 3, 1) := by decide +kernel
theorem dX0_readItem_94 : decode cX0_readItem 94 = .ok (.iconst 3, 1) := by decide +kernel
theorem dX0_readItem_95 : decode cX0_readItem 95 = .ok (.ldc 73, 2) := by decide +kernel
theorem dX0_readItem_97 : decode cX0_readItem 97 = .ok (.invokevirtual 67, 3) := by decide +kernel
theorem dX0_readItem_100 : decode cX0_readItem 100 = .ok (.ifCond .eq 19, 3) := by decide +kernel
theorem dX0_readItem_103 : decode cX0_readItem 103 = .ok (.aload_n 0, 1) := by decide +kernel
theorem dX0_readItem_104 : decode cX0_readItem 104 = .ok (.aload_n 1, 1) := by decide +kernel
theorem dX0_readItem_105 : decode cX0_readItem 105 = .ok (.iload_n 3, 1) := by decide +kernel
theorem dX0_readItem_106 : decode cX0_readItem 106 = .ok (.iconst 4, 1) := by decide +kernel
theorem dX0_readItem_107 : decode cX0_readItem 107 = .ok (.ldc 75, 2) := by decide +kernel
theorem dX0_readItem_109 : decode cX0_readItem 109 = .ok (.invokevirtual 67, 3) := by decide +kernel
theorem dX0_readItem_112 : decode cX0_readItem 112 = .ok (.ifCond .eq 7, 3) := by decide +kernel
theorem dX0_readItem_115 : decode cX0_readItem 115 = .ok (.iconst 1, 1) := by decide +kernel
theorem dX0_readItem_116 : decode cX0_readItem 116 = .ok (.goto 4, 3) := by decide +kernel
theorem dX0_readItem_119 : decode cX0_readItem 119 = .ok (.iconst 0, 1) := by decide +kernel
theorem dX0_readItem_120 : decode cX0_readItem 120 = .ok (.ireturn, 1) := by decide +kernel
theorem dX0_readTrait_0 : decode cX0_readTrait 0 = .ok (.aload_n 0, 1) := by decide +kernel
theorem dX0_readTrait_1 : decode cX0_readTrait 1 = .ok (.aload 4, 2) := by decide +kernel
theorem dX0_readTrait_3 : decode cX0_readTrait 3 = .ok (.invokevirtual 37, 3) := by decide +kernel
theorem dX0_readTrait_6 : decode cX0_readTrait 6 = .ok (.ifCond .ne 5, 3) := by decide +kernel
theorem dX0_readTrait_9 : decode cX0_readTrait 9 = .ok (.iconst 1, 1) := by decide +kernel
theorem dX0_readTrait_10 : decode cX0_readTrait 10 = .ok (.ireturn, 1) := by decide +kernel
theorem dX0_readTrait_11 : decode cX0_readTrait 11 = .ok (.aload_n 0, 1) := by decide +kernel
theorem dX0_readTrait_12 : decode cX0_readTrait 12 = .ok (.invokevirtual 22, 3) := by decide +kernel
theorem dX0_readTrait_15 : decode cX0_readTrait 15 = .ok (.iload_n 3, 1) := by decide +kernel
theorem dX0_readTrait_16 : decode cX0_readTrait 16 = .ok (.iconst 2, 1) := by decide +kernel
theorem dX0_readTrait_17 : decode cX0_readTrait 17 = .ok (.if_icmp .ne 15, 3) := by decide +kernel
theorem dX0_readTrait_20 : decode cX0_readTrait 20 = .ok (.aload_n 0, 1) := by decide +kernel
theorem dX0_readTrait_21 : decode cX0_readTrait 21 = .ok (.getfield 32, 3) := by decide +kernel
theorem dX0_readTrait_24 : decode cX0_readTrait 24 = .ok (.iconst 4, 1) := by decide +kernel
theorem dX0_readTrait_25 : decode cX0_readTrait 25 = .ok (.if_icmp .ne 7, 3) := by decide +kernel
theorem dX0_readTrait_28 : decode cX0_readTrait 28 = .ok (.iconst 1, 1) := by decide +kernel
theorem dX0_readTrait_29 : decode cX0_readTrait 29 = .ok (.goto 4, 3) := by decide +kernel
theorem dX0_readTrait_32 : decode cX0_readTrait 32 = .ok (.iconst 0, 1) := by decide +kernel
theorem dX0_readTrait_33 : decode cX0_readTrait 33 = .ok (.istore 5, 2) := by decide +kernel
theorem dX0_readTrait_35 : decode cX0_readTrait 35 = .ok (.iload 5, 2) := by decide +kernel
theorem dX0_readTrait_37 : decode cX0_readTrait 37 = .ok (.ifCond .eq 7, 3) := by decide +kernel
theorem dX0_readTrait_40 : decode cX0_readTrait 40 = .ok (.aload_n 0, 1) := by decide +kernel
theorem dX0_readTrait_41 : decode cX0_readTrait 41 = .ok (.invokevirtual 22, 3) := by decide +kernel
theorem dX0_readTrait_44 : decode cX0_readTrait 44 = .ok (.aload_n 0, 1) := by decide +kernel
theorem dX0_readTrait_45 : decode cX0_readTrait 45 = .ok (.iload_n 3, 1) := by decide +kernel
theorem dX0_readTrait_46 : decode cX0_readTrait 46 = .ok (.invokestatic 77, 3) := by decide +kernel
theorem dX0_readTrait_49 : decode cX0_readTrait 49 = .ok (.invokevirtual 41, 3) := by decide +kernel
theorem dX0_readTrait_52 : decode cX0_readTrait 52 = .ok (.ifCond .ne 5, 3) := by decide +kernel
theorem dX0_readTrait_55 : decode cX0_readTrait 55 = .ok (.iconst 0, 1) := by decide +kernel
theorem dX0_readTrait_56 : decode cX0_readTrait 56 = .ok (.ireturn, 1) := by decide +kernel
theorem dX0_readTrait_57 : decode cX0_readTrait 57 = .ok (.aload_n 1, 1) := by decide +kernel
theorem dX0_readTrait_58 : decode cX0_readTrait 58 = .ok (.iload_n 2, 1) := by decide +kernel
theorem dX0_readTrait_59 : decode cX0_readTrait 59 = .ok (.iload_n 3, 1) := by decide +kernel
theorem dX0_readTrait_60 : decode cX0_readTrait 60 = .ok (.iload 5, 2) := by decide +kernel
theorem dX0_readTrait_62 : decode cX0_readTrait 62 = .ok (.ifCond .eq 11, 3) := by decide +kernel
theorem dX0_readTrait_65 : decode cX0_readTrait 65 = .ok (.aload_n 0, 1) := by decide +kernel
theorem dX0_readTrait_66 : decode cX0_readTrait 66 = .ok (.getfield 45, 3) := by decide +kernel
theorem dX0_readTrait_69 : decode cX0_readTrait 69 = .ok (.ineg, 1) := by decide +kernel
theorem dX0_readTrait_70 : decode cX0_readTrait 70 = .ok (.goto 7, 3) := by decide +kernel
theorem dX0_readTrait_73 : decode cX0_readTrait 73 = .ok (.aload_n 0, 1) := by decide +kernel
theorem dX0_readTrait_74 : decode cX0_readTrait 74 = .ok (.getfield 45, 3) := by decide +kernel
theorem dX0_readTrait_77 : decode cX0_readTrait 77 = .ok (.invokevirtual 81, 3) := by decide +kernel
theorem dX0_readTrait_80 : decode cX0_readTrait 80 = .ok (.aload_n 0, 1) := by decide +kernel
theorem dX0_readTrait_81 : decode cX0_readTrait 81 = .ok (.invokevirtual 22, 3) := by decide +kernel
theorem dX0_readTrait_84 : decode cX0_readTrait 84 = .ok (.iconst 1, 1) := by decide +kernel
theorem dX0_readTrait_85 : decode cX0_readTrait 85 = .ok (.ireturn, 1) := by decide +kernel
theorem dX0_isNumberTo_0 : decode cX0_isNumberTo 0 = .ok (.aload_n 0, 1) := by decide +kernel
theorem dX0_isNumberTo_1 : decode cX0_isNumberTo 1 = .ok (.getfield 32, 3) := by decide +kernel
theorem dX0_isNumberTo_4 : decode cX0_isNumberTo 4 = .ok (.iconst 2, 1) := by decide +kernel
theorem dX0_isNumberTo_5 : decode cX0_isNumberTo 5 = .ok (.if_icmp .ne 15, 3) := by decide +kernel
theorem dX0_isNumberTo_8 : decode cX0_isNumberTo 8 = .ok (.aload_n 0, 1) := by decide +kernel
theorem dX0_isNumberTo_9 : decode cX0_isNumberTo 9 = .ok (.getfield 45, 3) := by decide +kernel
theorem dX0_isNumberTo_12 : decode cX0_isNumberTo 12 = .ok (.iload_n 1, 1) := by decide +kernel
theorem dX0_isNumberTo_13 : decode cX0_isNumberTo 13 = .ok (.if_icmp .gt 7, 3) := by decide +kernel
theorem dX0_isNumberTo_16 : decode cX0_isNumberTo 16 = .ok (.iconst 1, 1) := by decide +kernel
theorem dX0_isNumberTo_17 : decode cX0_isNumberTo 17 = .ok (.goto 4, 3) := by decide +kernel
theorem dX0_isNumberTo_20 : decode cX0_isNumberTo 20 = .ok (.iconst 0, 1) := by decide +kernel
theorem dX0_isNumberTo_21 : decode cX0_isNumberTo 21 = .ok (.ireturn, 1) := by decide +kernel
theorem dX0_kindTold_0 : decode cX0_kindTold 0 = .ok (.iconst 0, 1) := by decide +kernel
theorem dX0_kindTold_1 : decode cX0_kindTold 1 = .ok (.istore_n 1, 1) := by decide +kernel
theorem dX0_kindTold_2 : decode cX0_kindTold 2 = .ok (.iload_n 1, 1) := by decide +kernel
theorem dX0_kindTold_3 : decode cX0_kindTold 3 = .ok (.bipush 7, 2) := by decide +kernel
theorem dX0_kindTold_5 : decode cX0_kindTold 5 = .ok (.if_icmp .ge 22, 3) := by decide +kernel
theorem dX0_kindTold_8 : decode cX0_kindTold 8 = .ok (.aload_n 0, 1) := by decide +kernel
theorem dX0_kindTold_9 : decode cX0_kindTold 9 = .ok (.iload_n 1, 1) := by decide +kernel
theorem dX0_kindTold_10 : decode cX0_kindTold 10 = .ok (.invokestatic 85, 3) := by decide +kernel
theorem dX0_kindTold_13 : decode cX0_kindTold 13 = .ok (.invokevirtual 37, 3) := by decide +kernel
theorem dX0_kindTold_16 : decode cX0_kindTold 16 = .ok (.ifCond .eq 5, 3) := by decide +kernel
theorem dX0_kindTold_19 : decode cX0_kindTold 19 = .ok (.iload_n 1, 1) := by decide +kernel
theorem dX0_kindTold_20 : decode cX0_kindTold 20 = .ok (.ireturn, 1) := by decide +kernel
theorem dX0_kindTold_21 : decode cX0_kindTold 21 = .ok (.iinc 1 1, 3) := by decide +kernel
theorem dX0_kindTold_24 : decode cX0_kindTold 24 = .ok (.goto (-22), 3) := by decide +kernel
theorem dX0_kindTold_27 : decode cX0_kindTold 27 = .ok (.iconst (-1), 1) := by decide +kernel
theorem dX0_kindTold_28 : decode cX0_kindTold 28 = .ok (.ireturn, 1) := by decide +kernel
theorem dX0_wordOf_0 : decode cX0_wordOf 0 = .ok (.iload_n 0, 1) := by decide +kernel
theorem dX0_wordOf_1 : decode cX0_wordOf 1 = .ok (.tableswitch 57 0 5 #[39, 42, 45, 48, 51, 54], 39) := by decide +kernel
theorem dX0_wordOf_40 : decode cX0_wordOf 40 = .ok (.ldc 89, 2) := by decide +kernel
theorem dX0_wordOf_42 : decode cX0_wordOf 42 = .ok (.areturn, 1) := by decide +kernel
theorem dX0_wordOf_43 : decode cX0_wordOf 43 = .ok (.ldc 91, 2) := by decide +kernel
theorem dX0_wordOf_45 : decode cX0_wordOf 45 = .ok (.areturn, 1) := by decide +kernel
theorem dX0_wordOf_46 : decode cX0_wordOf 46 = .ok (.ldc 93, 2) := by decide +kernel
theorem dX0_wordOf_48 : decode cX0_wordOf 48 = .ok (.areturn, 1) := by decide +kernel
theorem dX0_wordOf_49 : decode cX0_wordOf 49 = .ok (.ldc 95, 2) := by decide +kernel
theorem dX0_wordOf_51 : decode cX0_wordOf 51 = .ok (.areturn, 1) := by decide +kernel
theorem dX0_wordOf_52 : decode cX0_wordOf 52 = .ok (.ldc 97, 2) := by decide +kernel
theorem dX0_wordOf_54 : decode cX0_wordOf 54 = .ok (.areturn, 1) := by decide +kernel
theorem dX0_wordOf_55 : decode cX0_wordOf 55 = .ok (.ldc 99, 2) := by decide +kernel
theorem dX0_wordOf_57 : decode cX0_wordOf 57 = .ok (.areturn, 1) := by decide +kernel
theorem dX0_wordOf_58 : decode cX0_wordOf 58 = .ok (.ldc 101, 2) := by decide +kernel
theorem dX0_wordOf_60 : decode cX0_wordOf 60 = .ok (.areturn, 1) := by decide +kernel
theorem dX0_isWord_0 : decode cX0_isWord 0 = .ok (.aload_n 0, 1) := by decide +kernel
theorem dX0_isWord_1 : decode cX0_isWord 1 = .ok (.getfield 32, 3) := by decide +kernel
theorem dX0_isWord_4 : decode cX0_isWord 4 = .ok (.iconst 1, 1) := by decide +kernel
theorem dX0_isWord_5 : decode cX0_isWord 5 = .ok (.if_icmp .ne 19, 3) := by decide +kernel
theorem dX0_isWord_8 : decode cX0_isWord 8 = .ok (.aload_n 0, 1) := by decide +kernel
theorem dX0_isWord_9 : decode cX0_isWord 9 = .ok (.getfield 19, 3) := by decide +kernel
theorem dX0_isWord_12 : decode cX0_isWord 12 = .ok (.aload_n 0, 1) := by decide +kernel
theorem dX0_isWord_13 : decode cX0_isWord 13 = .ok (.getfield 29, 3) := by decide +kernel
theorem dX0_isWord_16 : decode cX0_isWord 16 = .ok (.isub, 1) := by decide +kernel
theorem dX0_isWord_17 : decode cX0_isWord 17 = .ok (.aload_n 1, 1) := by decide +kernel
theorem dX0_isWord_18 : decode cX0_isWord 18 = .ok (.invokevirtual 103, 3) := by decide +kernel
theorem dX0_isWord_21 : decode cX0_isWord 21 = .ok (.if_icmp .eq 5, 3) := by decide +kernel
theorem dX0_isWord_24 : decode cX0_isWord 24 = .ok (.iconst 0, 1) := by decide +kernel
theorem dX0_isWord_25 : decode cX0_isWord 25 = .ok (.ireturn, 1) := by decide +kernel
theorem dX0_isWord_26 : decode cX0_isWord 26 = .ok (.iconst 0, 1) := by decide +kernel
theorem dX0_isWord_27 : decode cX0_isWord 27 = .ok (.istore_n 2, 1) := by decide +kernel
theorem dX0_isWord_28 : decode cX0_isWord 28 = .ok (.iload_n 2, 1) := by decide +kernel
theorem dX0_isWord_29 : decode cX0_isWord 29 = .ok (.aload_n 1, 1) := by decide +kernel
theorem dX0_isWord_30 : decode cX0_isWord 30 = .ok (.invokevirtual 103, 3) := by decide +kernel
theorem dX0_isWord_33 : decode cX0_isWord 33 = .ok (.if_icmp .ge 30, 3) := by decide +kernel
theorem dX0_isWord_36 : decode cX0_isWord 36 = .ok (.aload_n 0, 1) := by decide +kernel
theorem dX0_isWord_37 : decode cX0_isWord 37 = .ok (.getfield 9, 3) := by decide +kernel
theorem dX0_isWord_40 : decode cX0_isWord 40 = .ok (.aload_n 0, 1) := by decide +kernel
theorem dX0_isWord_41 : decode cX0_isWord 41 = .ok (.getfield 29, 3) := by decide +kernel
theorem dX0_isWord_44 : decode cX0_isWord 44 = .ok (.iload_n 2, 1) := by decide +kernel
theorem dX0_isWord_45 : decode cX0_isWord 45 = .ok (.iadd, 1) := by decide +kernel
theorem dX0_isWord_46 : decode cX0_isWord 46 = .ok (.iaload, 1) := by decide +kernel
theorem dX0_isWord_47 : decode cX0_isWord 47 = .ok (.aload_n 1, 1) := by decide +kernel
theorem dX0_isWord_48 : decode cX0_isWord 48 = .ok (.iload_n 2, 1) := by decide +kernel
theorem dX0_isWord_49 : decode cX0_isWord 49 = .ok (.invokevirtual 107, 3) := by decide +kernel
theorem dX0_isWord_52 : decode cX0_isWord 52 = .ok (.if_icmp .eq 5, 3) := by decide +kernel
theorem dX0_isWord_55 : decode cX0_isWord 55 = .ok (.iconst 0, 1) := by decide +kernel
theorem dX0_isWord_56 : decode cX0_isWord 56 = .ok (.ireturn, 1) := by decide +kernel
theorem dX0_isWord_57 : decode cX0_isWord 57 = .ok (.iinc 2 1, 3) := by decide +kernel
theorem dX0_isWord_60 : decode cX0_isWord 60 = .ok (.goto (-32), 3) := by decide +kernel
theorem dX0_isWord_63 : decode cX0_isWord 63 = .ok (.iconst 1, 1) := by decide +kernel
theorem dX0_isWord_64 : decode cX0_isWord 64 = .ok (.ireturn, 1) := by decide +kernel
theorem dX0_advance_0 : decode cX0_advance 0 = .ok (.aload_n 0, 1) := by decide +kernel
theorem dX0_advance_1 : decode cX0_advance 1 = .ok (.aload_n 0, 1) := by decide +kernel
theorem dX0_advance_2 : decode cX0_advance 2 = .ok (.getfield 19, 3) := by decide +kernel
theorem dX0_advance_5 : decode cX0_advance 5 = .ok (.putfield 29, 3) := by decide +kernel
theorem dX0_advance_8 : decode cX0_advance 8 = .ok (.aload_n 0, 1) := by decide +kernel
theorem dX0_advance_9 : decode cX0_advance 9 = .ok (.getfield 29, 3) := by decide +kernel
theorem dX0_advance_12 : decode cX0_advance 12 = .ok (.aload_n 0, 1) := by decide +kernel
theorem dX0_advance_13 : decode cX0_advance 13 = .ok (.getfield 15, 3) := by decide +kernel
theorem dX0_advance_16 : decode cX0_advance 16 = .ok (.if_icmp .ge 30, 3) := by decide +kernel
theorem dX0_advance_19 : decode cX0_advance 19 = .ok (.aload_n 0, 1) := by decide +kernel
theorem dX0_advance_20 : decode cX0_advance 20 = .ok (.getfield 9, 3) := by decide +kernel
theorem dX0_advance_23 : decode cX0_advance 23 = .ok (.aload_n 0, 1) := by decide +kernel
theorem dX0_advance_24 : decode cX0_advance 24 = .ok (.getfield 29, 3) := by decide +kernel
theorem dX0_advance_27 : decode cX0_advance 27 = .ok (.iaload, 1) := by decide +kernel
theorem dX0_advance_28 : decode cX0_advance 28 = .ok (.bipush 32, 2) := by decide +kernel
theorem dX0_advance_30 : decode cX0_advance 30 = .ok (.if_icmp .ne 16, 3) := by decide +kernel
theorem dX0_advance_33 : decode cX0_advance 33 = .ok (.aload_n 0, 1) := by decide +kernel
theorem dX0_advance_34 : decode cX0_advance 34 = .ok (.dup, 1) := by decide +kernel
theorem dX0_advance_35 : decode cX0_advance 35 = .ok (.getfield 29, 3) := by decide +kernel
theorem dX0_advance_38 : decode cX0_advance 38 = .ok (.iconst 1, 1) := by decide +kernel
theorem dX0_advance_39 : decode cX0_advance 39 = .ok (.iadd, 1) := by decide +kernel
theorem dX0_advance_40 : decode cX0_advance 40 = .ok (.putfield 29, 3) := by decide +kernel
theorem dX0_advance_43 : decode cX0_advance 43 = .ok (.goto (-35), 3) := by decide +kernel
theorem dX0_advance_46 : decode cX0_advance 46 = .ok (.aload_n 0, 1) := by decide +kernel
theorem dX0_advance_47 : decode cX0_advance 47 = .ok (.aload_n 0, 1) := by decide +kernel
theorem dX0_advance_48 : decode cX0_advance 48 = .ok (.getfield 29, 3) := by decide +kernel
theorem dX0_advance_51 : decode cX0_advance 51 = .ok (.putfield 19, 3) := by decide +kernel
theorem dX0_advance_54 : decode cX0_advance 54 = .ok (.aload_n 0, 1) := by decide +kernel
theorem dX0_advance_55 : decode cX0_advance 55 = .ok (.getfield 29, 3) := by decide +kernel
theorem dX0_advance_58 : decode cX0_advance 58 = .ok (.aload_n 0, 1) := by decide +kernel
theorem dX0_advance_59 : decode cX0_advance 59 = .ok (.getfield 15, 3) := by decide +kernel
theorem dX0_advance_62 : decode cX0_advance 62 = .ok (.if_icmp .lt 11, 3) := by decide +kernel
theorem dX0_advance_65 : decode cX0_advance 65 = .ok (.aload_n 0, 1) := by decide +kernel
theorem dX0_advance_66 : decode cX0_advance 66 = .ok (.iconst 0, 1) := by decide +kernel
theorem dX0_advance_67 : decode cX0_advance 67 = .ok (.putfield 32, 3) := by decide +kernel
theorem dX0_advance_70 : decode cX0_advance 70 = .ok (.goto 83, 3) := by decide +kernel
theorem dX0_advance_73 : decode cX0_advance 73 = .ok (.aload_n 0, 1) := by decide +kernel
theorem dX0_advance_74 : decode cX0_advance 74 = .ok (.getfield 9, 3) := by decide +kernel
theorem dX0_advance_77 : decode cX0_advance 77 = .ok (.aload_n 0, 1) := by decide +kernel
theorem dX0_advance_78 : decode cX0_advance 78 = .ok (.getfield 29, 3) := by decide +kernel
theorem dX0_advance_81 : decode cX0_advance 81 = .ok (.iaload, 1) := by decide +kernel
theorem dX0_advance_82 : decode cX0_advance 82 = .ok (.invokestatic 111, 3) := by decide +kernel
theorem dX0_advance_85 : decode cX0_advance 85 = .ok (.ifCond .eq 15, 3) := by decide +kernel
theorem dX0_advance_88 : decode cX0_advance 88 = .ok (.aload_n 0, 1) := by decide +kernel
theorem dX0_advance_89 : decode cX0_advance 89 = .ok (.iconst 1, 1) := by decide +kernel
theorem dX0_advance_90 : decode cX0_advance 90 = .ok (.putfield 32, 3) := by decide +kernel
theorem dX0_advance_93 : decode cX0_advance 93 = .ok (.aload_n 0, 1) := by decide +kernel
theorem dX0_advance_94 : decode cX0_advance 94 = .ok (.invokevirtual 114, 3) := by decide +kernel
theorem dX0_advance_97 : decode cX0_advance 97 = .ok (.goto 56, 3) := by decide +kernel
theorem dX0_advance_100 : decode cX0_advance 100 = .ok (.aload_n 0, 1) := by decide +kernel
theorem dX0_advance_101 : decode cX0_advance 101 = .ok (.getfield 9, 3) := by decide +kernel
theorem dX0_advance_104 : decode cX0_advance 104 = .ok (.aload_n 0, 1) := by decide +kernel
theorem dX0_advance_105 : decode cX0_advance 105 = .ok (.getfield 29, 3) := by decide +kernel
theorem dX0_advance_108 : decode cX0_advance 108 = .ok (.iaload, 1) := by decide +kernel
theorem dX0_advance_109 : decode cX0_advance 109 = .ok (.invokestatic 117, 3) := by decide +kernel
theorem dX0_advance_112 : decode cX0_advance 112 = .ok (.ifCond .eq 15, 3) := by decide +kernel
theorem dX0_advance_115 : decode cX0_advance 115 = .ok (.aload_n 0, 1) := by decide +kernel
theorem dX0_advance_116 : decode cX0_advance 116 = .ok (.iconst 2, 1) := by decide +kernel
theorem dX0_advance_117 : decode cX0_advance 117 = .ok (.putfield 32, 3) := by decide +kernel
theorem dX0_advance_120 : decode cX0_advance 120 = .ok (.aload_n 0, 1) := by decide +kernel
theorem dX0_advance_121 : decode cX0_advance 121 = .ok (.invokevirtual 120, 3) := by decide +kernel
theorem dX0_advance_124 : decode cX0_advance 124 = .ok (.goto 29, 3) := by decide +kernel
theorem dX0_advance_127 : decode cX0_advance 127 = .ok (.aload_n 0, 1) := by decide +kernel
theorem dX0_advance_128 : decode cX0_advance 128 = .ok (.aload_n 0, 1) := by decide +kernel
theorem dX0_advance_129 : decode cX0_advance 129 = .ok (.getfield 9, 3) := by decide +kernel
theorem dX0_advance_132 : decode cX0_advance 132 = .ok (.aload_n 0, 1) := by decide +kernel
theorem dX0_advance_133 : decode cX0_advance 133 = .ok (.getfield 29, 3) := by decide +kernel
theorem dX0_advance_136 : decode cX0_advance 136 = .ok (.iaload, 1) := by decide +kernel
theorem dX0_advance_137 : decode cX0_advance 137 = .ok (.invokestatic 123, 3) := by decide +kernel
theorem dX0_advance_140 : decode cX0_advance 140 = .ok (.putfield 32, 3) := by decide +kernel
theorem dX0_advance_143 : decode cX0_advance 143 = .ok (.aload_n 0, 1) := by decide +kernel
theorem dX0_advance_144 : decode cX0_advance 144 = .ok (.aload_n 0, 1) := by decide +kernel
theorem dX0_advance_145 : decode cX0_advance 145 = .ok (.getfield 29, 3) := by decide +kernel
theorem dX0_advance_148 : decode cX0_advance 148 = .ok (.iconst 1, 1) := by decide +kernel
theorem dX0_advance_149 : decode cX0_advance 149 = .ok (.iadd, 1) := by decide +kernel
theorem dX0_advance_150 : decode cX0_advance 150 = .ok (.putfield 19, 3) := by decide +kernel
theorem dX0_advance_153 : decode cX0_advance 153 = .ok (.return_, 1) := by decide +kernel
theorem dX0_takeLetters_0 : decode cX0_takeLetters 0 = .ok (.aload_n 0, 1) := by decide +kernel
theorem dX0_takeLetters_1 : decode cX0_takeLetters 1 = .ok (.getfield 19, 3) := by decide +kernel
theorem dX0_takeLetters_4 : decode cX0_takeLetters 4 = .ok (.aload_n 0, 1) := by decide +kernel
theorem dX0_takeLetters_5 : decode cX0_takeLetters 5 = .ok (.getfield 15, 3) := by decide +kernel
theorem dX0_takeLetters_8 : decode cX0_takeLetters 8 = .ok (.if_icmp .ge 31, 3) := by decide +kernel
theorem dX0_takeLetters_11 : decode cX0_takeLetters 11 = .ok (.aload_n 0, 1) := by decide +kernel
theorem dX0_takeLetters_12 : decode cX0_takeLetters 12 = .ok (.getfield 9, 3) := by decide +kernel
theorem dX0_takeLetters_15 : decode cX0_takeLetters 15 = .ok (.aload_n 0, 1) := by decide +kernel
theorem dX0_takeLetters_16 : decode cX0_takeLetters 16 = .ok (.getfield 19, 3) := by decide +kernel
theorem dX0_takeLetters_19 : decode cX0_takeLetters 19 = .ok (.iaload, 1) := by decide +kernel
theorem dX0_takeLetters_20 : decode cX0_takeLetters 20 = .ok (.invokestatic 111, 3) := by decide +kernel
theorem dX0_takeLetters_23 : decode cX0_takeLetters 23 = .ok (.ifCond .eq 16, 3) := by decide +kernel
theorem dX0_takeLetters_26 : decode cX0_takeLetters 26 = .ok (.aload_n 0, 1) := by decide +kernel
theorem dX0_takeLetters_27 : decode cX0_takeLetters 27 = .ok (.dup, 1) := by decide +kernel
theorem dX0_takeLetters_28 : decode cX0_takeLetters 28 = .ok (.getfield 19, 3) := by decide +kernel
theorem dX0_takeLetters_31 : decode cX0_takeLetters 31 = .ok (.iconst 1, 1) := by decide +kernel
theorem dX0_takeLetters_32 : decode cX0_takeLetters 32 = .ok (.iadd, 1) := by decide +kernel
theorem dX0_takeLetters_33 : decode cX0_takeLetters 33 = .ok (.putfield 19, 3) := by decide +kernel
theorem dX0_takeLetters_36 : decode cX0_takeLetters 36 = .ok (.goto (-36), 3) := by decide +kernel
theorem dX0_takeLetters_39 : decode cX0_takeLetters 39 = .ok (.return_, 1) := by decide +kernel
theorem dX0_takeDigits_0 : decode cX0_takeDigits 0 = .ok (.aload_n 0, 1) := by decide +kernel
theorem dX0_takeDigits_1 : decode cX0_takeDigits 1 = .ok (.iconst 0, 1) := by decide +kernel
theorem dX0_takeDigits_2 : decode cX0_takeDigits 2 = .ok (.putfield 45, 3) := by decide +kernel
theorem dX0_takeDigits_5 : decode cX0_takeDigits 5 = .ok (.aload_n 0, 1) := by decide +kernel
theorem dX0_takeDigits_6 : decode cX0_takeDigits 6 = .ok (.getfield 19, 3) := by decide +kernel
theorem dX0_takeDigits_9 : decode cX0_takeDigits 9 = .ok (.aload_n 0, 1) := by decide +kernel
theorem dX0_takeDigits_10 : decode cX0_takeDigits 10 = .ok (.getfield 15, 3) := by decide +kernel
theorem dX0_takeDigits_13 : decode cX0_takeDigits 13 = .ok (.if_icmp .ge 61, 3) := by decide +kernel
theorem dX0_takeDigits_16 : decode cX0_takeDigits 16 = .ok (.aload_n 0, 1) := by decide +kernel
theorem dX0_takeDigits_17 : decode cX0_takeDigits 17 = .ok (.getfield 9, 3) := by decide +kernel
theorem dX0_takeDigits_20 : decode cX0_takeDigits 20 = .ok (.aload_n 0, 1) := by decide +kernel
theorem dX0_takeDigits_21 : decode cX0_takeDigits 21 = .ok (.getfield 19, 3) := by decide +kernel
theorem dX0_takeDigits_24 : decode cX0_takeDigits 24 = .ok (.iaload, 1) := by decide +kernel
theorem dX0_takeDigits_25 : decode cX0_takeDigits 25 = .ok (.invokestatic 117, 3) := by decide +kernel
theorem dX0_takeDigits_28 : decode cX0_takeDigits 28 = .ok (.ifCond .eq 46, 3) := by decide +kernel
theorem dX0_takeDigits_31 : decode cX0_takeDigits 31 = .ok (.aload_n 0, 1) := by decide +kernel
theorem dX0_takeDigits_32 : decode cX0_takeDigits 32 = .ok (.sipush 1000, 3) := by decide +kernel
theorem dX0_takeDigits_35 : decode cX0_takeDigits 35 = .ok (.aload_n 0, 1) := by decide +kernel
theorem dX0_takeDigits_36 : decode cX0_takeDigits 36 = .ok (.getfield 45, 3) := by decide +kernel
theorem dX0_takeDigits_39 : decode cX0_takeDigits 39 = .ok (.bipush 10, 2) := by decide +kernel
theorem dX0_takeDigits_41 : decode cX0_takeDigits 41 = .ok (.imul, 1) := by decide +kernel
theorem dX0_takeDigits_42 : decode cX0_takeDigits 42 = .ok (.aload_n 0, 1) := by decide +kernel
theorem dX0_takeDigits_43 : decode cX0_takeDigits 43 = .ok (.getfield 9, 3) := by decide +kernel
theorem dX0_takeDigits_46 : decode cX0_takeDigits 46 = .ok (.aload_n 0, 1) := by decide +kernel
theorem dX0_takeDigits_47 : decode cX0_takeDigits 47 = .ok (.getfield 19, 3) := by decide +kernel
theorem dX0_takeDigits_50 : decode cX0_takeDigits 50 = .ok (.iaload, 1) := by decide +kernel
theorem dX0_takeDigits_51 : decode cX0_takeDigits 51 = .ok (.iadd, 1) := by decide +kernel
theorem dX0_takeDigits_52 : decode cX0_takeDigits 52 = .ok (.bipush 48, 2) := by decide +kernel
theorem dX0_takeDigits_54 : decode cX0_takeDigits 54 = .ok (.isub, 1) := by decide +kernel
theorem dX0_takeDigits_55 : decode cX0_takeDigits 55 = .ok (.invokestatic 126, 3) := by decide +kernel
theorem dX0_takeDigits_58 : decode cX0_takeDigits 58 = .ok (.putfield 45, 3) := by decide +kernel
theorem dX0_takeDigits_61 : decode cX0_takeDigits 61 = .ok (.aload_n 0, 1) := by decide +kernel
theorem dX0_takeDigits_62 : decode cX0_takeDigits 62 = .ok (.dup, 1) := by decide +kernel
theorem dX0_takeDigits_63 : decode cX0_takeDigits 63 = .ok (.getfield 19, 3) := by decide +kernel
theorem dX0_takeDigits_66 : decode cX0_takeDigits 66 = .ok (.iconst 1, 1) := by decide +kernel
theorem dX0_takeDigits_67 : decode cX0_takeDigits 67 = .ok (.iadd, 1) := by decide +kernel
theorem dX0_takeDigits_68 : decode cX0_takeDigits 68 = .ok (.putfield 19, 3) := by decide +kernel
theorem dX0_takeDigits_71 : decode cX0_takeDigits 71 = .ok (.goto (-66), 3) := by decide +kernel
theorem dX0_takeDigits_74 : decode cX0_takeDigits 74 = .ok (.return_, 1) := by decide +kernel
theorem dX0_signOf_0 : decode cX0_signOf 0 = .ok (.iload_n 0, 1) := by decide +kernel
theorem dX0_signOf_1 : decode cX0_signOf 1 = .ok (.bipush 59, 2) := by decide +kernel
theorem dX0_signOf_3 : decode cX0_signOf 3 = .ok (.if_icmp .ne 5, 3) := by decide +kernel
theorem dX0_signOf_6 : decode cX0_signOf 6 = .ok (.iconst 3, 1) := by decide +kernel
theorem dX0_signOf_7 : decode cX0_signOf 7 = .ok (.ireturn, 1) := by decide +kernel
theorem dX0_signOf_8 : decode cX0_signOf 8 = .ok (.iload_n 0, 1) := by decide +kernel
theorem dX0_signOf_9 : decode cX0_signOf 9 = .ok (.bipush 45, 2) := by decide +kernel
theorem dX0_signOf_11 : decode cX0_signOf 11 = .ok (.if_icmp .ne 7, 3) := by decide +kernel
theorem dX0_signOf_14 : decode cX0_signOf 14 = .ok (.iconst 4, 1) := by decide +kernel
theorem dX0_signOf_15 : decode cX0_signOf 15 = .ok (.goto 4, 3) := by decide +kernel
theorem dX0_signOf_18 : decode cX0_signOf 18 = .ok (.iconst 5, 1) := by decide +kernel
theorem dX0_signOf_19 : decode cX0_signOf 19 = .ok (.ireturn, 1) := by decide +kernel
theorem dX0_isLetter_0 : decode cX0_isLetter 0 = .ok (.iload_n 0, 1) := by decide +kernel
theorem dX0_isLetter_1 : decode cX0_isLetter 1 = .ok (.bipush 97, 2) := by decide +kernel
theorem dX0_isLetter_3 : decode cX0_isLetter 3 = .ok (.if_icmp .lt 13, 3) := by decide +kernel
theorem dX0_isLetter_6 : decode cX0_isLetter 6 = .ok (.iload_n 0, 1) := by decide +kernel
theorem dX0_isLetter_7 : decode cX0_isLetter 7 = .ok (.bipush 122, 2) := by decide +kernel
theorem dX0_isLetter_9 : decode cX0_isLetter 9 = .ok (.if_icmp .gt 7, 3) := by decide +kernel
theorem dX0_isLetter_12 : decode cX0_isLetter 12 = .ok (.iconst 1, 1) := by decide +kernel
theorem dX0_isLetter_13 : decode cX0_isLetter 13 = .ok (.goto 4, 3) := by decide +kernel
theorem dX0_isLetter_16 : decode cX0_isLetter 16 = .ok (.iconst 0, 1) := by decide +kernel
theorem dX0_isLetter_17 : decode cX0_isLetter 17 = .ok (.ireturn, 1) := by decide +kernel
theorem dX0_isDigit_0 : decode cX0_isDigit 0 = .ok (.iload_n 0, 1) := by decide +kernel
theorem dX0_isDigit_1 : decode cX0_isDigit 1 = .ok (.bipush 48, 2) := by decide +kernel
theorem dX0_isDigit_3 : decode cX0_isDigit 3 = .ok (.if_icmp .lt 13, 3) := by decide +kernel
theorem dX0_isDigit_6 : decode cX0_isDigit 6 = .ok (.iload_n 0, 1) := by decide +kernel
theorem dX0_isDigit_7 : decode cX0_isDigit 7 = .ok (.bipush 57, 2) := by decide +kernel
theorem dX0_isDigit_9 : decode cX0_isDigit 9 = .ok (.if_icmp .gt 7, 3) := by decide +kernel
theorem dX0_isDigit_12 : decode cX0_isDigit 12 = .ok (.iconst 1, 1) := by decide +kernel
theorem dX0_isDigit_13 : decode cX0_isDigit 13 = .ok (.goto 4, 3) := by decide +kernel
theorem dX0_isDigit_16 : decode cX0_isDigit 16 = .ok (.iconst 0, 1) := by decide +kernel
theorem dX0_isDigit_17 : decode cX0_isDigit 17 = .ok (.ireturn, 1) := by decide +kernel
theorem dX1_init_0 : decode cX1_init 0 = .ok (.aload_n 0, 1) := by decide +kernel
theorem dX1_init_1 : decode cX1_init 1 = .ok (.invokespecial 3, 3) := by decide +kernel
theorem dX1_init_4 : decode cX1_init 4 = .ok (.aload_n 0, 1) := by decide +kernel
theorem dX1_init_5 : decode cX1_init 5 = .ok (.bipush 40, 2) := by decide +kernel
theorem dX1_init_7 : decode cX1_init 7 = .ok (.newarray .int, 2) := by decide +kernel
theorem dX1_init_9 : decode cX1_init 9 = .ok (.putfield 9, 3) := by decide +kernel
theorem dX1_init_12 : decode cX1_init 12 = .ok (.return_, 1) := by decide +kernel
theorem dX1_begin_0 : decode cX1_begin 0 = .ok (.aload_n 0, 1) := by decide +kernel
theorem dX1_begin_1 : decode cX1_begin 1 = .ok (.iload_n 1, 1) := by decide +kernel
theorem dX1_begin_2 : decode cX1_begin 2 = .ok (.putfield 15, 3) := by decide +kernel
theorem dX1_begin_5 : decode cX1_begin 5 = .ok (.aload_n 0, 1) := by decide +kernel
theorem dX1_begin_6 : decode cX1_begin 6 = .ok (.iload_n 1, 1) := by decide +kernel
theorem dX1_begin_7 : decode cX1_begin 7 = .ok (.ifCond .ne 7, 3) := by decide +kernel
theorem dX1_begin_10 : decode cX1_begin 10 = .ok (.iconst 0, 1) := by decide +kernel
theorem dX1_begin_11 : decode cX1_begin 11 = .ok (.goto 4, 3) := by decide +kernel
theorem dX1_begin_14 : decode cX1_begin 14 = .ok (.iload_n 2, 1) := by decide +kernel
theorem dX1_begin_15 : decode cX1_begin 15 = .ok (.putfield 19, 3) := by decide +kernel
theorem dX1_begin_18 : decode cX1_begin 18 = .ok (.aload_n 0, 1) := by decide +kernel
theorem dX1_begin_19 : decode cX1_begin 19 = .ok (.getfield 9, 3) := by decide +kernel
theorem dX1_begin_22 : decode cX1_begin 22 = .ok (.iconst 0, 1) := by decide +kernel
theorem dX1_begin_23 : decode cX1_begin 23 = .ok (.invokestatic 22, 3) := by decide +kernel
theorem dX1_begin_26 : decode cX1_begin 26 = .ok (.return_, 1) := by decide +kernel
theorem dX1_isMissing_0 : decode cX1_isMissing 0 = .ok (.aload_n 0, 1) := by decide +kernel
theorem dX1_isMissing_1 : decode cX1_isMissing 1 = .ok (.getfield 15, 3) := by decide +kernel
theorem dX1_isMissing_4 : decode cX1_isMissing 4 = .ok (.ifCond .ne 7, 3) := by decide +kernel
theorem dX1_isMissing_7 : decode cX1_isMissing 7 = .ok (.iconst 1, 1) := by decide +kernel
theorem dX1_isMissing_8 : decode cX1_isMissing 8 = .ok (.goto 4, 3) := by decide +kernel
theorem dX1_isMissing_11 : decode cX1_isMissing 11 = .ok (.iconst 0, 1) := by decide +kernel
theorem dX1_isMissing_12 : decode cX1_isMissing 12 = .ok (.ireturn, 1) := by decide +kernel
theorem dX1_put_0 : decode cX1_put 0 = .ok (.aload_n 0, 1) := by decide +kernel
theorem dX1_put_1 : decode cX1_put 1 = .ok (.getfield 15, 3) := by decide +kernel
theorem dX1_put_4 : decode cX1_put 4 = .ok (.bipush 8, 2) := by decide +kernel
theorem dX1_put_6 : decode cX1_put 6 = .ok (.if_icmp .ne 14, 3) := by decide +kernel
theorem dX1_put_9 : decode cX1_put 9 = .ok (.aload_n 0, 1) := by decide +kernel
theorem dX1_put_10 : decode cX1_put 10 = .ok (.getfield 9, 3) := by decide +kernel
theorem dX1_put_13 : decode cX1_put 13 = .ok (.iload_n 1, 1) := by decide +kernel
theorem dX1_put_14 : decode cX1_put 14 = .ok (.iload_n 2, 1) := by decide +kernel
theorem dX1_put_15 : decode cX1_put 15 = .ok (.i2b, 1) := by decide +kernel
theorem dX1_put_16 : decode cX1_put 16 = .ok (.iastore, 1) := by decide +kernel
theorem dX1_put_17 : decode cX1_put 17 = .ok (.goto 30, 3) := by decide +kernel
theorem dX1_put_20 : decode cX1_put 20 = .ok (.aload_n 0, 1) := by decide +kernel
theorem dX1_put_21 : decode cX1_put 21 = .ok (.getfield 15, 3) := by decide +kernel
theorem dX1_put_24 : decode cX1_put 24 = .ok (.bipush 16, 2) := by decide +kernel
theorem dX1_put_26 : decode cX1_put 26 = .ok (.if_icmp .ne 14, 3) := by decide +kernel
theorem dX1_put_29 : decode cX1_put 29 = .ok (.aload_n 0, 1) := by decide +kernel
theorem dX1_put_30 : decode cX1_put 30 = .ok (.getfield 9, 3) := by decide +kernel
theorem dX1_put_33 : decode cX1_put 33 = .ok (.iload_n 1, 1) := by decide +kernel
theorem dX1_put_34 : decode cX1_put 34 = .ok (.iload_n 2, 1) := by decide +kernel
theorem dX1_put_35 : decode cX1_put 35 = .ok (.i2s, 1) := by decide +kernel
theorem dX1_put_36 : decode cX1_put 36 = .ok (.iastore, 1) := by decide +kernel
theorem dX1_put_37 : decode cX1_put 37 = .ok (.goto 10, 3) := by decide +kernel
theorem dX1_put_40 : decode cX1_put 40 = .ok (.aload_n 0, 1) := by decide +kernel
theorem dX1_put_41 : decode cX1_put 41 = .ok (.getfield 9, 3) := by decide +kernel
theorem dX1_put_44 : decode cX1_put 44 = .ok (.iload_n 1, 1) := by decide +kernel
theorem dX1_put_45 : decode cX1_put 45 = .ok (.iload_n 2, 1) := by decide +kernel
theorem dX1_put_46 : decode cX1_put 46 = .ok (.iastore, 1) := by decide +kernel
theorem dX1_put_47 : decode cX1_put 47 = .ok (.return_, 1) := by decide +kernel
theorem dX1_reaches_0 : decode cX1_reaches 0 = .ok (.iload_n 1, 1) := by decide +kernel
theorem dX1_reaches_1 : decode cX1_reaches 1 = .ok (.ifCond .lt 29, 3) := by decide +kernel
theorem dX1_reaches_4 : decode cX1_reaches 4 = .ok (.iload_n 2, 1) := by decide +kernel
theorem dX1_reaches_5 : decode cX1_reaches 5 = .ok (.ifCond .lt 25, 3) := by decide +kernel
theorem dX1_reaches_8 : decode cX1_reaches 8 = .ok (.iload_n 1, 1) := by decide +kernel
theorem dX1_reaches_9 : decode cX1_reaches 9 = .ok (.aload_n 0, 1) := by decide +kernel
theorem dX1_reaches_10 : decode cX1_reaches 10 = .ok (.getfield 19, 3) := by decide +kernel
theorem dX1_reaches_13 : decode cX1_reaches 13 = .ok (.if_icmp .gt 17, 3) := by decide +kernel
theorem dX1_reaches_16 : decode cX1_reaches 16 = .ok (.iload_n 2, 1) := by decide +kernel
theorem dX1_reaches_17 : decode cX1_reaches 17 = .ok (.aload_n 0, 1) := by decide +kernel
theorem dX1_reaches_18 : decode cX1_reaches 18 = .ok (.getfield 19, 3) := by decide +kernel
theorem dX1_reaches_21 : decode cX1_reaches 21 = .ok (.iload_n 1, 1) := by decide +kernel
theorem dX1_reaches_22 : decode cX1_reaches 22 = .ok (.isub, 1) := by decide +kernel
theorem dX1_reaches_23 : decode cX1_reaches 23 = .ok (.if_icmp .gt 7, 3) := by decide +kernel
theorem dX1_reaches_26 : decode cX1_reaches 26 = .ok (.iconst 1, 1) := by decide +kernel
theorem dX1_reaches_27 : decode cX1_reaches 27 = .ok (.goto 4, 3) := by decide +kernel
theorem dX1_reaches_30 : decode cX1_reaches 30 = .ok (.iconst 0, 1) := by decide +kernel
theorem dX1_reaches_31 : decode cX1_reaches 31 = .ok (.ireturn, 1) := by decide +kernel
theorem dX2_init_0 : decode cX2_init 0 = .ok (.aload_n 0, 1) := by decide +kernel
theorem dX2_init_1 : decode cX2_init 1 = .ok (.invokespecial 3, 3) := by decide +kernel
theorem dX2_init_4 : decode cX2_init 4 = .ok (.aload_n 0, 1) := by decide +kernel
theorem dX2_init_5 : decode cX2_init 5 = .ok (.iconst 2, 1) := by decide +kernel
theorem dX2_init_6 : decode cX2_init 6 = .ok (.putfield 9, 3) := by decide +kernel
theorem dX2_init_9 : decode cX2_init 9 = .ok (.aload_n 0, 1) := by decide +kernel
theorem dX2_init_10 : decode cX2_init 10 = .ok (.iconst 1, 1) := by decide +kernel
theorem dX2_init_11 : decode cX2_init 11 = .ok (.putfield 15, 3) := by decide +kernel
theorem dX2_init_14 : decode cX2_init 14 = .ok (.aload_n 0, 1) := by decide +kernel
theorem dX2_init_15 : decode cX2_init 15 = .ok (.bipush 10, 2) := by decide +kernel
theorem dX2_init_17 : decode cX2_init 17 = .ok (.newarray .int, 2) := by decide +kernel
theorem dX2_init_19 : decode cX2_init 19 = .ok (.putfield 18, 3) := by decide +kernel
theorem dX2_init_22 : decode cX2_init 22 = .ok (.aload_n 0, 1) := by decide +kernel
theorem dX2_init_23 : decode cX2_init 23 = .ok (.bipush 8, 2) := by decide +kernel
theorem dX2_init_25 : decode cX2_init 25 = .ok (.newarray .int, 2) := by decide +kernel
theorem dX2_init_27 : decode cX2_init 27 = .ok (.putfield 22, 3) := by decide +kernel
theorem dX2_init_30 : decode cX2_init 30 = .ok (.aload_n 0, 1) := by decide +kernel
theorem dX2_init_31 : decode cX2_init 31 = .ok (.bipush 8, 2) := by decide +kernel
theorem dX2_init_33 : decode cX2_init 33 = .ok (.newarray .int, 2) := by decide +kernel
theorem dX2_init_35 : decode cX2_init 35 = .ok (.putfield 25, 3) := by decide +kernel
theorem dX2_init_38 : decode cX2_init 38 = .ok (.aload_n 0, 1) := by decide +kernel
theorem dX2_init_39 : decode cX2_init 39 = .ok (.bipush 8, 2) := by decide +kernel
theorem dX2_init_41 : decode cX2_init 41 = .ok (.newarray .int, 2) := by decide +kernel
theorem dX2_init_43 : decode cX2_init 43 = .ok (.putfield 28, 3) := by decide +kernel
theorem dX2_init_46 : decode cX2_init 46 = .ok (.aload_n 0, 1) := by decide +kernel
theorem dX2_init_47 : decode cX2_init 47 = .ok (.bipush 8, 2) := by decide +kernel
theorem dX2_init_49 : decode cX2_init 49 = .ok (.newarray .int, 2) := by decide +kernel
theorem dX2_init_51 : decode cX2_init 51 = .ok (.putfield 31, 3) := by decide +kernel
theorem dX2_init_54 : decode cX2_init 54 = .ok (.aload_n 0, 1) := by decide +kernel
theorem dX2_init_55 : decode cX2_init 55 = .ok (.bipush 8, 2) := by decide +kernel
theorem dX2_init_57 : decode cX2_init 57 = .ok (.newarray .int, 2) := by decide +kernel
theorem dX2_init_59 : decode cX2_init 59 = .ok (.putfield 34, 3) := by decide +kernel
theorem dX2_init_62 : decode cX2_init 62 = .ok (.aload_n 0, 1) := by decide +kernel
theorem dX2_init_63 : decode cX2_init 63 = .ok (.bipush 8, 2) := by decide +kernel
theorem dX2_init_65 : decode cX2_init 65 = .ok (.newarray .int, 2) := by decide +kernel
theorem dX2_init_67 : decode cX2_init 67 = .ok (.putfield 37, 3) := by decide +kernel
theorem dX2_init_70 : decode cX2_init 70 = .ok (.aload_n 0, 1) := by decide +kernel
theorem dX2_init_71 : decode cX2_init 71 = .ok (.bipush 8, 2) := by decide +kernel
theorem dX2_init_73 : decode cX2_init 73 = .ok (.newarray .int, 2) := by decide +kernel
theorem dX2_init_75 : decode cX2_init 75 = .ok (.putfield 40, 3) := by decide +kernel
theorem dX2_init_78 : decode cX2_init 78 = .ok (.aload_n 0, 1) := by decide +kernel
theorem dX2_init_79 : decode cX2_init 79 = .ok (.bipush 8, 2) := by decide +kernel
theorem dX2_init_81 : decode cX2_init 81 = .ok (.newarray .int, 2) := by decide +kernel
theorem dX2_init_83 : decode cX2_init 83 = .ok (.putfield 43, 3) := by decide +kernel
theorem dX2_init_86 : decode cX2_init 86 = .ok (.aload_n 0, 1) := by decide +kernel
theorem dX2_init_87 : decode cX2_init 87 = .ok (.bipush 12, 2) := by decide +kernel
theorem dX2_init_89 : decode cX2_init 89 = .ok (.newarray .int, 2) := by decide +kernel
theorem dX2_init_91 : decode cX2_init 91 = .ok (.putfield 46, 3) := by decide +kernel
theorem dX2_init_94 : decode cX2_init 94 = .ok (.aload_n 0, 1) := by decide +kernel
theorem dX2_init_95 : decode cX2_init 95 = .ok (.bipush 12, 2) := by decide +kernel
theorem dX2_init_97 : decode cX2_init 97 = .ok (.newarray .int, 2) := by decide +kernel
theorem dX2_init_99 : decode cX2_init 99 = .ok (.putfield 49, 3) := by decide +kernel
theorem dX2_init_102 : decode cX2_init 102 = .ok (.iconst 0, 1) := by decide +kernel
theorem dX2_init_103 : decode cX2_init 103 = .ok (.istore_n 1, 1) := by decide +kernel
theorem dX2_init_104 : decode cX2_init 104 = .ok (.iload_n 1, 1) := by decide +kernel
theorem dX2_init_105 : decode cX2_init 105 = .ok (.bipush 10, 2) := by decide +kernel
theorem dX2_init_107 : decode cX2_init 107 = .ok (.if_icmp .ge 16, 3) := by decide +kernel
theorem dX2_init_110 : decode cX2_init 110 = .ok (.aload_n 0, 1) := by decide +kernel
theorem dX2_init_111 : decode cX2_init 111 = .ok (.getfield 18, 3) := by decide +kernel
theorem dX2_init_114 : decode cX2_init 114 = .ok (.iload_n 1, 1) := by decide +kernel
theorem dX2_init_115 : decode cX2_init 115 = .ok (.iconst (-1), 1) := by decide +kernel
theorem dX2_init_116 : decode cX2_init 116 = .ok (.iastore, 1) := by decide +kernel
theorem dX2_init_117 : decode cX2_init 117 = .ok (.iinc 1 1, 3) := by decide +kernel
theorem dX2_init_120 : decode cX2_init 120 = .ok (.goto (-16), 3) := by decide +kernel
theorem dX2_init_123 : decode cX2_init 123 = .ok (.return_, 1) := by decide +kernel
theorem dX2_lacks_0 : decode cX2_lacks 0 = .ok (.iload_n 1, 1) := by decide +kernel
theorem dX2_lacks_1 : decode cX2_lacks 1 = .ok (.ifCond .lt 11, 3) := by decide +kernel
theorem dX2_lacks_4 : decode cX2_lacks 4 = .ok (.iload_n 1, 1) := by decide +kernel
theorem dX2_lacks_5 : decode cX2_lacks 5 = .ok (.aload_n 0, 1) := by decide +kernel
theorem dX2_lacks_6 : decode cX2_lacks 6 = .ok (.getfield 52, 3) := by decide +kernel
theorem dX2_lacks_9 : decode cX2_lacks 9 = .ok (.if_icmp .lt 7, 3) := by decide +kernel
theorem dX2_lacks_12 : decode cX2_lacks 12 = .ok (.iconst 1, 1) := by decide +kernel
theorem dX2_lacks_13 : decode cX2_lacks 13 = .ok (.goto 4, 3) := by decide +kernel
theorem dX2_lacks_16 : decode cX2_lacks 16 = .ok (.iconst 0, 1) := by decide +kernel
theorem dX2_lacks_17 : decode cX2_lacks 17 = .ok (.ireturn, 1) := by decide +kernel
theorem dX2_isCrowded_0 : decode cX2_isCrowded 0 = .ok (.aload_n 0, 1) := by decide +kernel
theorem dX2_isCrowded_1 : decode cX2_isCrowded 1 = .ok (.getfield 52, 3) := by decide +kernel
theorem dX2_isCrowded_4 : decode cX2_isCrowded 4 = .ok (.bipush 8, 2) := by decide +kernel
theorem dX2_isCrowded_6 : decode cX2_isCrowded 6 = .ok (.if_icmp .lt 7, 3) := by decide +kernel
theorem dX2_isCrowded_9 : decode cX2_isCrowded 9 = .ok (.iconst 1, 1) := by decide +kernel
theorem dX2_isCrowded_10 : decode cX2_isCrowded 10 = .ok (.goto 4, 3) := by decide +kernel
theorem dX2_isCrowded_13 : decode cX2_isCrowded 13 = .ok (.iconst 0, 1) := by decide +kernel
theorem dX2_isCrowded_14 : decode cX2_isCrowded 14 = .ok (.ireturn, 1) := by decide +kernel
theorem dX2_raise_0 : decode cX2_raise 0 = .ok (.aload_n 0, 1) := by decide +kernel
theorem dX2_raise_1 : decode cX2_raise 1 = .ok (.getfield 52, 3) := by decide +kernel
theorem dX2_raise_4 : decode cX2_raise 4 = .ok (.istore_n 3, 1) := by decide +kernel
theorem dX2_raise_5 : decode cX2_raise 5 = .ok (.aload_n 0, 1) := by decide +kernel
theorem dX2_raise_6 : decode cX2_raise 6 = .ok (.getfield 22, 3) := by decide +kernel
theorem dX2_raise_9 : decode cX2_raise 9 = .ok (.iload_n 3, 1) := by decide +kernel
theorem dX2_raise_10 : decode cX2_raise 10 = .ok (.iload_n 1, 1) := by decide +kernel
theorem dX2_raise_11 : decode cX2_raise 11 = .ok (.iastore, 1) := by decide +kernel
theorem dX2_raise_12 : decode cX2_raise 12 = .ok (.aload_n 0, 1) := by decide +kernel
theorem dX2_raise_13 : decode cX2_raise 13 = .ok (.getfield 25, 3) := by decide +kernel
theorem dX2_raise_16 : decode cX2_raise 16 = .ok (.iload_n 3, 1) := by decide +kernel
theorem dX2_raise_17 : decode cX2_raise 17 = .ok (.iload_n 2, 1) := by decide +kernel
theorem dX2_raise_18 : decode cX2_raise 18 = .ok (.iastore, 1) := by decide +kernel
theorem dX2_raise_19 : decode cX2_raise 19 = .ok (.aload_n 0, 1) := by decide +kernel
theorem dX2_raise_20 : decode cX2_raise 20 = .ok (.getfield 28, 3) := by decide +kernel
theorem dX2_raise_23 : decode cX2_raise 23 = .ok (.iload_n 3, 1) := by decide +kernel
theorem dX2_raise_24 : decode cX2_raise 24 = .ok (.iconst 1, 1) := by decide +kernel
theorem dX2_raise_25 : decode cX2_raise 25 = .ok (.iastore, 1) := by decide +kernel
theorem dX2_raise_26 : decode cX2_raise 26 = .ok (.aload_n 0, 1) := by decide +kernel
theorem dX2_raise_27 : decode cX2_raise 27 = .ok (.getfield 31, 3) := by decide +kernel
theorem dX2_raise_30 : decode cX2_raise 30 = .ok (.iload_n 3, 1) := by decide +kernel
theorem dX2_raise_31 : decode cX2_raise 31 = .ok (.iconst 0, 1) := by decide +kernel
theorem dX2_raise_32 : decode cX2_raise 32 = .ok (.iastore, 1) := by decide +kernel
theorem dX2_raise_33 : decode cX2_raise 33 = .ok (.aload_n 0, 1) := by decide +kernel
theorem dX2_raise_34 : decode cX2_raise 34 = .ok (.getfield 34, 3) := by decide +kernel
theorem dX2_raise_37 : decode cX2_raise 37 = .ok (.iload_n 3, 1) := by decide +kernel
theorem dX2_raise_38 : decode cX2_raise 38 = .ok (.bipush 50, 2) := by decide +kernel
theorem dX2_raise_40 : decode cX2_raise 40 = .ok (.iastore, 1) := by decide +kernel
theorem dX2_raise_41 : decode cX2_raise 41 = .ok (.aload_n 0, 1) := by decide +kernel
theorem dX2_raise_42 : decode cX2_raise 42 = .ok (.getfield 37, 3) := by decide +kernel
theorem dX2_raise_45 : decode cX2_raise 45 = .ok (.iload_n 3, 1) := by decide +kernel
theorem dX2_raise_46 : decode cX2_raise 46 = .ok (.iconst 0, 1) := by decide +kernel
theorem dX2_raise_47 : decode cX2_raise 47 = .ok (.iastore, 1) := by decide +kernel
theorem dX2_raise_48 : decode cX2_raise 48 = .ok (.aload_n 0, 1) := by decide +kernel
theorem dX2_raise_49 : decode cX2_raise 49 = .ok (.iload_n 3, 1) := by decide +kernel
theorem dX2_raise_50 : decode cX2_raise 50 = .ok (.iconst 1, 1) := by decide +kernel
theorem dX2_raise_51 : decode cX2_raise 51 = .ok (.iadd, 1) := by decide +kernel
theorem dX2_raise_52 : decode cX2_raise 52 = .ok (.putfield 52, 3) := by decide +kernel
theorem dX2_raise_55 : decode cX2_raise 55 = .ok (.aload_n 0, 1) := by decide +kernel
theorem dX2_raise_56 : decode cX2_raise 56 = .ok (.invokevirtual 55, 3) := by decide +kernel
theorem dX2_raise_59 : decode cX2_raise 59 = .ok (.iload_n 3, 1) := by decide +kernel
theorem dX2_raise_60 : decode cX2_raise 60 = .ok (.ireturn, 1) := by decide +kernel
theorem dX2_trait_0 : decode cX2_trait 0 = .ok (.iload_n 2, 1) := by decide +kernel
theorem dX2_trait_1 : decode cX2_trait 1 = .ok (.tableswitch 81 0 5 #[39, 46, 53, 60, 67, 74], 39) := by decide +kernel
theorem dX2_trait_40 : decode cX2_trait 40 = .ok (.aload_n 0, 1) := by decide +kernel
theorem dX2_trait_41 : decode cX2_trait 41 = .ok (.getfield 22, 3) := by decide +kernel
theorem dX2_trait_44 : decode cX2_trait 44 = .ok (.iload_n 1, 1) := by decide +kernel
theorem dX2_trait_45 : decode cX2_trait 45 = .ok (.iaload, 1) := by decide +kernel
theorem dX2_trait_46 : decode cX2_trait 46 = .ok (.ireturn, 1) := by decide +kernel
theorem dX2_trait_47 : decode cX2_trait 47 = .ok (.aload_n 0, 1) := by decide +kernel
theorem dX2_trait_48 : decode cX2_trait 48 = .ok (.getfield 25, 3) := by decide +kernel
theorem dX2_trait_51 : decode cX2_trait 51 = .ok (.iload_n 1, 1) := by decide +kernel
theorem dX2_trait_52 : decode cX2_trait 52 = .ok (.iaload, 1) := by decide +kernel
theorem dX2_trait_53 : decode cX2_trait 53 = .ok (.ireturn, 1) := by decide +kernel
theorem dX2_trait_54 : decode cX2_trait 54 = .ok (.aload_n 0, 1) := by decide +kernel
theorem dX2_trait_55 : decode cX2_trait 55 = .ok (.getfield 28, 3) := by decide +kernel
theorem dX2_trait_58 : decode cX2_trait 58 = .ok (.iload_n 1, 1) := by decide +kernel
theorem dX2_trait_59 : decode cX2_trait 59 = .ok (.iaload, 1) := by decide +kernel
theorem dX2_trait_60 : decode cX2_trait 60 = .ok (.ireturn, 1) := by decide +kernel
theorem dX2_trait_61 : decode cX2_trait 61 = .ok (.aload_n 0, 1) := by decide +kernel
theorem dX2_trait_62 : decode cX2_trait 62 = .ok (.getfield 31, 3) := by decide +kernel
theorem dX2_trait_65 : decode cX2_trait 65 = .ok (.iload_n 1, 1) := by decide +kernel
theorem dX2_trait_66 : decode cX2_trait 66 = .ok (.iaload, 1) := by decide +kernel
theorem dX2_trait_67 : decode cX2_trait 67 = .ok (.ireturn, 1) := by decide +kernel
theorem dX2_trait_68 : decode cX2_trait 68 = .ok (.aload_n 0, 1) := by decide +kernel
theorem dX2_trait_69 : decode cX2_trait 69 = .ok (.getfield 34, 3) := by decide +kernel
theorem dX2_trait_72 : decode cX2_trait 72 = .ok (.iload_n 1, 1) := by decide +kernel
theorem dX2_trait_73 : decode cX2_trait 73 = .ok (.iaload, 1) := by decide +kernel
theorem dX2_trait_74 : decode cX2_trait 74 = .ok (.ireturn, 1) := by decide +kernel
theorem dX2_trait_75 : decode cX2_trait 75 = .ok (.aload_n 0, 1) := by decide +kernel
theorem dX2_trait_76 : decode cX2_trait 76 = .ok (.getfield 37, 3) := by decide +kernel
theorem dX2_trait_79 : decode cX2_trait 79 = .ok (.iload_n 1, 1) := by decide +kernel
theorem dX2_trait_80 : decode cX2_trait 80 = .ok (.iaload, 1) := by decide +kernel
theorem dX2_trait_81 : decode cX2_trait 81 = .ok (.ireturn, 1) := by decide +kernel
theorem dX2_trait_82 : decode cX2_trait 82 = .ok (.aload_n 0, 1) := by decide +kernel
theorem dX2_trait_83 : decode cX2_trait 83 = .ok (.getfield 40, 3) := by decide +kernel
theorem dX2_trait_86 : decode cX2_trait 86 = .ok (.iload_n 1, 1) := by decide +kernel
theorem dX2_trait_87 : decode cX2_trait 87 = .ok (.iaload, 1) := by decide +kernel
theorem dX2_trait_88 : decode cX2_trait 88 = .ok (.ireturn, 1) := by decide +kernel
theorem dX2_setTrait_0 : decode cX2_setTrait 0 = .ok (.iload_n 2, 1) := by decide +kernel
theorem dX2_setTrait_1 : decode cX2_setTrait 1 = .ok (.tableswitch 85 0 4 #[35, 45, 55, 65, 75], 35) := by decide +kernel
theorem dX2_setTrait_36 : decode cX2_setTrait 36 = .ok (.aload_n 0, 1) := by decide +kernel
theorem dX2_setTrait_37 : decode cX2_setTrait 37 = .ok (.getfield 22, 3) := by decide +kernel
theorem dX2_setTrait_40 : decode cX2_setTrait 40 = .ok (.iload_n 1, 1) := by decide +kernel
theorem dX2_setTrait_41 : decode cX2_setTrait 41 = .ok (.iload_n 3, 1) := by decide +kernel
theorem dX2_setTrait_42 : decode cX2_setTrait 42 = .ok (.iastore, 1) := by decide +kernel
theorem dX2_setTrait_43 : decode cX2_setTrait 43 = .ok (.goto 50, 3) := by decide +kernel
theorem dX2_setTrait_46 : decode cX2_setTrait 46 = .ok (.aload_n 0, 1) := by decide +kernel
theorem dX2_setTrait_47 : decode cX2_setTrait 47 = .ok (.getfield 25, 3) := by decide +kernel
theorem dX2_setTrait_50 : decode cX2_setTrait 50 = .ok (.iload_n 1, 1) := by decide +kernel
theorem dX2_setTrait_51 : decode cX2_setTrait 51 = .ok (.iload_n 3, 1) := by decide +kernel
theorem dX2_setTrait_52 : decode cX2_setTrait 52 = .ok (.iastore, 1) := by decide +kernel
theorem dX2_setTrait_53 : decode cX2_setTrait 53 = .ok (.goto 40, 3) := by decide +kernel
theorem dX2_setTrait_56 : decode cX2_setTrait 56 = .ok (.aload_n 0, 1) := by decide +kernel
theorem dX2_setTrait_57 : decode cX2_setTrait 57 = .ok (.getfield 28, 3) := by decide +kernel
theorem dX2_setTrait_60 : decode cX2_setTrait 60 = .ok (.iload_n 1, 1) := by decide +kernel
theorem dX2_setTrait_61 : decode cX2_setTrait 61 = .ok (.iload_n 3, 1) := by decide +kernel
theorem dX2_setTrait_62 : decode cX2_setTrait 62 = .ok (.iastore, 1) := by decide +kernel
theorem dX2_setTrait_63 : decode cX2_setTrait 63 = .ok (.goto 30, 3) := by decide +kernel
theorem dX2_setTrait_66 : decode cX2_setTrait 66 = .ok (.aload_n 0, 1) := by decide +kernel
theorem dX2_setTrait_67 : decode cX2_setTrait 67 = .ok (.getfield 31, 3) := by decide +kernel
theorem dX2_setTrait_70 : decode cX2_setTrait 70 = .ok (.iload_n 1, 1) := by decide +kernel
theorem dX2_setTrait_71 : decode cX2_setTrait 71 = .ok (.iload_n 3, 1) := by decide +kernel
theorem dX2_setTrait_72 : decode cX2_setTrait 72 = .ok (.iastore, 1) := by decide +kernel
theorem dX2_setTrait_73 : decode cX2_setTrait 73 = .ok (.goto 20, 3) := by decide +kernel
theorem dX2_setTrait_76 : decode cX2_setTrait 76 = .ok (.aload_n 0, 1) := by decide +kernel
theorem dX2_setTrait_77 : decode cX2_setTrait 77 = .ok (.getfield 34, 3) := by decide +kernel
theorem dX2_setTrait_80 : decode cX2_setTrait 80 = .ok (.iload_n 1, 1) := by decide +kernel
theorem dX2_setTrait_81 : decode cX2_setTrait 81 = .ok (.iload_n 3, 1) := by decide +kernel
theorem dX2_setTrait_82 : decode cX2_setTrait 82 = .ok (.iastore, 1) := by decide +kernel
theorem dX2_setTrait_83 : decode cX2_setTrait 83 = .ok (.goto 10, 3) := by decide +kernel
theorem dX2_setTrait_86 : decode cX2_setTrait 86 = .ok (.aload_n 0, 1) := by decide +kernel
theorem dX2_setTrait_87 : decode cX2_setTrait 87 = .ok (.getfield 37, 3) := by decide +kernel
theorem dX2_setTrait_90 : decode cX2_setTrait 90 = .ok (.iload_n 1, 1) := by decide +kernel
theorem dX2_setTrait_91 : decode cX2_setTrait 91 = .ok (.iload_n 3, 1) := by decide +kernel
theorem dX2_setTrait_92 : decode cX2_setTrait 92 = .ok (.iastore, 1) := by decide +kernel
theorem dX2_setTrait_93 : decode cX2_setTrait 93 = .ok (.aload_n 0, 1) := by decide +kernel
theorem dX2_setTrait_94 : decode cX2_setTrait 94 = .ok (.invokevirtual 55, 3) := by decide +kernel
theorem dX2_setTrait_97 : decode cX2_setTrait 97 = .ok (.return_, 1) := by decide +kernel
theorem dX2_become_0 : decode cX2_become 0 = .ok (.aload_n 0, 1) := by decide +kernel
theorem dX2_become_1 : decode cX2_become 1 = .ok (.aload_n 1, 1) := by decide +kernel
theorem dX2_become_2 : decode cX2_become 2 = .ok (.getfield 9, 3) := by decide +kernel
theorem dX2_become_5 : decode cX2_become 5 = .ok (.putfield 9, 3) := by decide +kernel
theorem dX2_become_8 : decode cX2_become 8 = .ok (.aload_n 0, 1) := by decide +kernel
theorem dX2_become_9 : decode cX2_become 9 = .ok (.aload_n 1, 1) := by decide +kernel
theorem dX2_become_10 : decode cX2_become 10 = .ok (.getfield 58, 3) := by decide +kernel
theorem dX2_become_13 : decode cX2_become 13 = .ok (.putfield 58, 3) := by decide +kernel
theorem dX2_become_16 : decode cX2_become 16 = .ok (.aload_n 0, 1) := by decide +kernel
theorem dX2_become_17 : decode cX2_become 17 = .ok (.aload_n 1, 1) := by decide +kernel
theorem dX2_become_18 : decode cX2_become 18 = .ok (.getfield 15, 3) := by decide +kernel
theorem dX2_become_21 : decode cX2_become 21 = .ok (.putfield 15, 3) := by decide +kernel
theorem dX2_become_24 : decode cX2_become 24 = .ok (.aload_n 0, 1) := by decide +kernel
theorem dX2_become_25 : decode cX2_become 25 = .ok (.aload_n 1, 1) := by decide +kernel
theorem dX2_become_26 : decode cX2_become 26 = .ok (.getfield 52, 3) := by decide +kernel
theorem dX2_become_29 : decode cX2_become 29 = .ok (.putfield 52, 3) := by decide +kernel
theorem dX2_become_32 : decode cX2_become 32 = .ok (.aload_n 1, 1) := by decide +kernel
theorem dX2_become_33 : decode cX2_become 33 = .ok (.getfield 18, 3) := by decide +kernel
theorem dX2_become_36 : decode cX2_become 36 = .ok (.iconst 0, 1) := by decide +kernel
theorem dX2_become_37 : decode cX2_become 37 = .ok (.aload_n 0, 1) := by decide +kernel
theorem dX2_become_38 : decode cX2_become 38 = .ok (.getfield 18, 3) := by decide +kernel
theorem dX2_become_41 : decode cX2_become 41 = .ok (.iconst 0, 1) := by decide +kernel
theorem dX2_become_42 : decode cX2_become 42 = .ok (.bipush 10, 2) := by decide +kernel
theorem dX2_become_44 : decode cX2_become 44 = .ok (.invokestatic 61, 3) := by decide +kernel
theorem dX2_become_47 : decode cX2_become 47 = .ok (.aload_n 1, 1) := by decide +kernel
theorem dX2_become_48 : decode cX2_become 48 = .ok (.getfield 22, 3) := by decide +kernel
theorem dX2_become_51 : decode cX2_become 51 = .ok (.iconst 0, 1) := by decide +kernel
theorem dX2_become_52 : decode cX2_become 52 = .ok (.aload_n 0, 1) := by decide +kernel
theorem dX2_become_53 : decode cX2_become 53 = .ok (.getfield 22, 3) := by decide +kernel
theorem dX2_become_56 : decode cX2_become 56 = .ok (.iconst 0, 1) := by decide +kernel
theorem dX2_become_57 : decode cX2_become 57 = .ok (.bipush 8, 2) := by decide +kernel
theorem dX2_become_59 : decode cX2_become 59 = .ok (.invokestatic 61, 3) := by decide +kernel
theorem dX2_become_62 : decode cX2_become 62 = .ok (.aload_n 1, 1) := by decide +kernel
theorem dX2_become_63 : decode cX2_become 63 = .ok (.getfield 25, 3) := by decide +kernel
theorem dX2_become_66 : decode cX2_become 66 = .ok (.iconst 0, 1) := by decide +kernel
theorem dX2_become_67 : decode cX2_become 67 = .ok (.aload_n 0, 1) := by decide +kernel
theorem dX2_become_68 : decode cX2_become 68 = .ok (.getfield 25, 3) := by decide +kernel
theorem dX2_become_71 : decode cX2_become 71 = .ok (.iconst 0, 1) := by decide +kernel
theorem dX2_become_72 : decode cX2_become 72 = .ok (.bipush 8, 2) := by decide +kernel
theorem dX2_become_74 : decode cX2_become 74 = .ok (.invokestatic 61, 3) := by decide +kernel
theorem dX2_become_77 : decode cX2_become 77 = .ok (.aload_n 1, 1) := by decide +kernel
theorem dX2_become_78 : decode cX2_become 78 = .ok (.getfield 28, 3) := by decide +kernel
theorem dX2_become_81 : decode cX2_become 81 = .ok (.iconst 0, 1) := by decide +kernel
theorem dX2_become_82 : decode cX2_become 82 = .ok (.aload_n 0, 1) := by decide +kernel
theorem dX2_become_83 : decode cX2_become 83 = .ok (.getfield 28, 3) := by decide +kernel
theorem dX2_become_86 : decode cX2_become 86 = .ok (.iconst 0, 1) := by decide +kernel
theorem dX2_become_87 : decode cX2_become 87 = .ok (.bipush 8, 2) := by decide +kernel
theorem dX2_become_89 : decode cX2_become 89 = .ok (.invokestatic 61, 3) := by decide +kernel
theorem dX2_become_92 : decode cX2_become 92 = .ok (.aload_n 1, 1) := by decide +kernel
theorem dX2_become_93 : decode cX2_become 93 = .ok (.getfield 31, 3) := by decide +kernel
theorem dX2_become_96 : decode cX2_become 96 = .ok (.iconst 0, 1) := by decide +kernel
theorem dX2_become_97 : decode cX2_become 97 = .ok (.aload_n 0, 1) := by decide +kernel
theorem dX2_become_98 : decode cX2_become 98 = .ok (.getfield 31, 3) := by decide +kernel
theorem dX2_become_101 : decode cX2_become 101 = .ok (.iconst 0, 1) := by decide +kernel
theorem dX2_become_102 : decode cX2_become 102 = .ok (.bipush 8, 2) := by decide +kernel
theorem dX2_become_104 : decode cX2_become 104 = .ok (.invokestatic 61, 3) := by decide +kernel
theorem dX2_become_107 : decode cX2_become 107 = .ok (.aload_n 1, 1) := by decide +kernel
theorem dX2_become_108 : decode cX2_become 108 = .ok (.getfield 34, 3) := by decide +kernel
theorem dX2_become_111 : decode cX2_become 111 = .ok (.iconst 0, 1) := by decide +kernel
theorem dX2_become_112 : decode cX2_become 112 = .ok (.aload_n 0, 1) := by decide +kernel
theorem dX2_become_113 : decode cX2_become 113 = .ok (.getfield 34, 3) := by decide +kernel
theorem dX2_become_116 : decode cX2_become 116 = .ok (.iconst 0, 1) := by decide +kernel
theorem dX2_become_117 : decode cX2_become 117 = .ok (.bipush 8, 2) := by decide +kernel
theorem dX2_become_119 : decode cX2_become 119 = .ok (.invokestatic 61, 3) := by decide +kernel
theorem dX2_become_122 : decode cX2_become 122 = .ok (.aload_n 1, 1) := by decide +kernel
theorem dX2_become_123 : decode cX2_become 123 = .ok (.getfield 37, 3) := by decide +kernel
theorem dX2_become_126 : decode cX2_become 126 = .ok (.iconst 0, 1) := by decide +kernel
theorem dX2_become_127 : decode cX2_become 127 = .ok (.aload_n 0, 1) := by decide +kernel
theorem dX2_become_128 : decode cX2_become 128 = .ok (.getfield 37, 3) := by decide +kernel
theorem dX2_become_131 : decode cX2_become 131 = .ok (.iconst 0, 1) := by decide +kernel
theorem dX2_become_132 : decode cX2_become 132 = .ok (.bipush 8, 2) := by decide +kernel
theorem dX2_become_134 : decode cX2_become 134 = .ok (.invokestatic 61, 3) := by decide +kernel
theorem dX2_become_137 : decode cX2_become 137 = .ok (.aload_n 0, 1) := by decide +kernel
theorem dX2_become_138 : decode cX2_become 138 = .ok (.invokevirtual 55, 3) := by decide +kernel
theorem dX2_become_141 : decode cX2_become 141 = .ok (.return_, 1) := by decide +kernel
theorem dX2_lookAround_0 : decode cX2_lookAround 0 = .ok (.aload_n 0, 1) := by decide +kernel
theorem dX2_lookAround_1 : decode cX2_lookAround 1 = .ok (.getfield 46, 3) := by decide +kernel
theorem dX2_lookAround_4 : decode cX2_lookAround 4 = .ok (.iconst 0, 1) := by decide +kernel
theorem dX2_lookAround_5 : decode cX2_lookAround 5 = .ok (.invokestatic 67, 3) := by decide +kernel
theorem dX2_lookAround_8 : decode cX2_lookAround 8 = .ok (.aload_n 0, 1) := by decide +kernel
theorem dX2_lookAround_9 : decode cX2_lookAround 9 = .ok (.getfield 49, 3) := by decide +kernel
theorem dX2_lookAround_12 : decode cX2_lookAround 12 = .ok (.iconst 0, 1) := by decide +kernel
theorem dX2_lookAround_13 : decode cX2_lookAround 13 = .ok (.invokestatic 67, 3) := by decide +kernel
theorem dX2_lookAround_16 : decode cX2_lookAround 16 = .ok (.iconst 0, 1) := by decide +kernel
theorem dX2_lookAround_17 : decode cX2_lookAround 17 = .ok (.istore_n 1, 1) := by decide +kernel
theorem dX2_lookAround_18 : decode cX2_lookAround 18 = .ok (.iload_n 1, 1) := by decide +kernel
theorem dX2_lookAround_19 : decode cX2_lookAround 19 = .ok (.aload_n 0, 1) := by decide +kernel
theorem dX2_lookAround_20 : decode cX2_lookAround 20 = .ok (.getfield 52, 3) := by decide +kernel
theorem dX2_lookAround_23 : decode cX2_lookAround 23 = .ok (.if_icmp .ge 66, 3) := by decide +kernel
theorem dX2_lookAround_26 : decode cX2_lookAround 26 = .ok (.aload_n 0, 1) := by decide +kernel
theorem dX2_lookAround_27 : decode cX2_lookAround 27 = .ok (.getfield 25, 3) := by decide +kernel
theorem dX2_lookAround_30 : decode cX2_lookAround 30 = .ok (.iload_n 1, 1) := by decide +kernel
theorem dX2_lookAround_31 : decode cX2_lookAround 31 = .ok (.iaload, 1) := by decide +kernel
theorem dX2_lookAround_32 : decode cX2_lookAround 32 = .ok (.getstatic 73, 3) := by decide +kernel
theorem dX2_lookAround_35 : decode cX2_lookAround 35 = .ok (.aload_n 0, 1) := by decide +kernel
theorem dX2_lookAround_36 : decode cX2_lookAround 36 = .ok (.getfield 31, 3) := by decide +kernel
theorem dX2_lookAround_39 : decode cX2_lookAround 39 = .ok (.iload_n 1, 1) := by decide +kernel
theorem dX2_lookAround_40 : decode cX2_lookAround 40 = .ok (.iaload, 1) := by decide +kernel
theorem dX2_lookAround_41 : decode cX2_lookAround 41 = .ok (.iaload, 1) := by decide +kernel
theorem dX2_lookAround_42 : decode cX2_lookAround 42 = .ok (.iadd, 1) := by decide +kernel
theorem dX2_lookAround_43 : decode cX2_lookAround 43 = .ok (.bipush 12, 2) := by decide +kernel
theorem dX2_lookAround_45 : decode cX2_lookAround 45 = .ok (.irem, 1) := by decide +kernel
theorem dX2_lookAround_46 : decode cX2_lookAround 46 = .ok (.istore_n 2, 1) := by decide +kernel
theorem dX2_lookAround_47 : decode cX2_lookAround 47 = .ok (.aload_n 0, 1) := by decide +kernel
theorem dX2_lookAround_48 : decode cX2_lookAround 48 = .ok (.getfield 40, 3) := by decide +kernel
theorem dX2_lookAround_51 : decode cX2_lookAround 51 = .ok (.iload_n 1, 1) := by decide +kernel
theorem dX2_lookAround_52 : decode cX2_lookAround 52 = .ok (.iload_n 2, 1) := by decide +kernel
theorem dX2_lookAround_53 : decode cX2_lookAround 53 = .ok (.iastore, 1) := by decide +kernel
theorem dX2_lookAround_54 : decode cX2_lookAround 54 = .ok (.aload_n 0, 1) := by decide +kernel
theorem dX2_lookAround_55 : decode cX2_lookAround 55 = .ok (.getfield 46, 3) := by decide +kernel
theorem dX2_lookAround_58 : decode cX2_lookAround 58 = .ok (.aload_n 0, 1) := by decide +kernel
theorem dX2_lookAround_59 : decode cX2_lookAround 59 = .ok (.getfield 25, 3) := by decide +kernel
theorem dX2_lookAround_62 : decode cX2_lookAround 62 = .ok (.iload_n 1, 1) := by decide +kernel
theorem dX2_lookAround_63 : decode cX2_lookAround 63 = .ok (.iaload, 1) := by decide +kernel
theorem dX2_lookAround_64 : decode cX2_lookAround 64 = .ok (.dup2, 1) := by decide +kernel
theorem dX2_lookAround_65 : decode cX2_lookAround 65 = .ok (.iaload, 1) := by decide +kernel
theorem dX2_lookAround_66 : decode cX2_lookAround 66 = .ok (.iconst 1, 1) := by decide +kernel
theorem dX2_lookAround_67 : decode cX2_lookAround 67 = .ok (.iload_n 1, 1) := by decide +kernel
theorem dX2_lookAround_68 : decode cX2_lookAround 68 = .ok (.ishl, 1) := by decide +kernel
theorem dX2_lookAround_69 : decode cX2_lookAround 69 = .ok (.ior, 1) := by decide +kernel
theorem dX2_lookAround_70 : decode cX2_lookAround 70 = .ok (.iastore, 1) := by decide +kernel
theorem dX2_lookAround_71 : decode cX2_lookAround 71 = .ok (.aload_n 0, 1) := by decide +kernel
theorem dX2_lookAround_72 : decode cX2_lookAround 72 = .ok (.getfield 49, 3) := by decide +kernel
theorem dX2_lookAround_75 : decode cX2_lookAround 75 = .ok (.iload_n 2, 1) := by decide +kernel
theorem dX2_lookAround_76 : decode cX2_lookAround 76 = .ok (.dup2, 1) := by decide +kernel
theorem dX2_lookAround_77 : decode cX2_lookAround 77 = .ok (.iaload, 1) := by decide +kernel
theorem dX2_lookAround_78 : decode cX2_lookAround 78 = .ok (.iconst 1, 1) := by decide +kernel
theorem dX2_lookAround_79 : decode cX2_lookAround 79 = .ok (.iload_n 1, 1) := by decide +kernel
theorem dX2_lookAround_80 : decode cX2_lookAround 80 = .ok (.ishl, 1) := by decide +kernel
theorem dX2_lookAround_81 : decode cX2_lookAround 81 = .ok (.ior, 1) := by decide +kernel
theorem dX2_lookAround_82 : decode cX2_lookAround 82 = .ok (.iastore, 1) := by decide +kernel
theorem dX2_lookAround_83 : decode cX2_lookAround 83 = .ok (.iinc 1 1, 3) := by decide +kernel
theorem dX2_lookAround_86 : decode cX2_lookAround 86 = .ok (.goto (-68), 3) := by decide +kernel
theorem dX2_lookAround_89 : decode cX2_lookAround 89 = .ok (.iconst 0, 1) := by decide +kernel
theorem dX2_lookAround_90 : decode cX2_lookAround 90 = .ok (.istore_n 1, 1) := by decide +kernel
theorem dX2_lookAround_91 : decode cX2_lookAround 91 = .ok (.iload_n 1, 1) := by decide +kernel
theorem dX2_lookAround_92 : decode cX2_lookAround 92 = .ok (.aload_n 0, 1) := by decide +kernel
theorem dX2_lookAround_93 : decode cX2_lookAround 93 = .ok (.getfield 52, 3) := by decide +kernel
theorem dX2_lookAround_96 : decode cX2_lookAround 96 = .ok (.if_icmp .ge 44, 3) := by decide +kernel
theorem dX2_lookAround_99 : decode cX2_lookAround 99 = .ok (.aload_n 0, 1) := by decide +kernel
theorem dX2_lookAround_100 : decode cX2_lookAround 100 = .ok (.getfield 43, 3) := by decide +kernel
theorem dX2_lookAround_103 : decode cX2_lookAround 103 = .ok (.iload_n 1, 1) := by decide +kernel
theorem dX2_lookAround_104 : decode cX2_lookAround 104 = .ok (.aload_n 0, 1) := by decide +kernel
theorem dX2_lookAround_105 : decode cX2_lookAround 105 = .ok (.getfield 46, 3) := by decide +kernel
theorem dX2_lookAround_108 : decode cX2_lookAround 108 = .ok (.aload_n 0, 1) := by decide +kernel
theorem dX2_lookAround_109 : decode cX2_lookAround 109 = .ok (.getfield 40, 3) := by decide +kernel
theorem dX2_lookAround_112 : decode cX2_lookAround 112 = .ok (.iload_n 1, 1) := by decide +kernel
theorem dX2_lookAround_113 : decode cX2_lookAround 113 = .ok (.iaload, 1) := by decide +kernel
theorem dX2_lookAround_114 : decode cX2_lookAround 114 = .ok (.iaload, 1) := by decide +kernel
theorem dX2_lookAround_115 : decode cX2_lookAround 115 = .ok (.aload_n 0, 1) := by decide +kernel
theorem dX2_lookAround_116 : decode cX2_lookAround 116 = .ok (.getfield 49, 3) := by decide +kernel
theorem dX2_lookAround_119 : decode cX2_lookAround 119 = .ok (.aload_n 0, 1) := by decide +kernel
theorem dX2_lookAround_120 : decode cX2_lookAround 120 = .ok (.getfield 25, 3) := by decide +kernel
theorem dX2_lookAround_123 : decode cX2_lookAround 123 = .ok (.iload_n 1, 1) := by decide +kernel
theorem dX2_lookAround_124 : decode cX2_lookAround 124 = .ok (.iaload, 1) := by decide +kernel
theorem dX2_lookAround_125 : decode cX2_lookAround 125 = .ok (.iaload, 1) := by decide +kernel
theorem dX2_lookAround_126 : decode cX2_lookAround 126 = .ok (.iand, 1) := by decide +kernel
theorem dX2_lookAround_127 : decode cX2_lookAround 127 = .ok (.iconst 1, 1) := by decide +kernel
theorem dX2_lookAround_128 : decode cX2_lookAround 128 = .ok (.iload_n 1, 1) := by decide +kernel
theorem dX2_lookAround_129 : decode cX2_lookAround 129 = .ok (.ishl, 1) := by decide +kernel
theorem dX2_lookAround_130 : decode cX2_lookAround 130 = .ok (.iconst (-1), 1) := by decide +kernel
theorem dX2_lookAround_131 : decode cX2_lookAround 131 = .ok (.ixor, 1) := by decide +kernel
theorem dX2_lookAround_132 : decode cX2_lookAround 132 = .ok (.iand, 1) := by decide +kernel
theorem dX2_lookAround_133 : decode cX2_lookAround 133 = .ok (.iastore, 1) := by decide +kernel
theorem dX2_lookAround_134 : decode cX2_lookAround 134 = .ok (.iinc 1 1, 3) := by decide +kernel
theorem dX2_lookAround_137 : decode cX2_lookAround 137 = .ok (.goto (-46), 3) := by decide +kernel
theorem dX2_lookAround_140 : decode cX2_lookAround 140 = .ok (.return_, 1) := by decide +kernel
theorem dX2_facedBy_0 : decode cX2_facedBy 0 = .ok (.aload_n 0, 1) := by decide +kernel
theorem dX2_facedBy_1 : decode cX2_facedBy 1 = .ok (.getfield 40, 3) := by decide +kernel
theorem dX2_facedBy_4 : decode cX2_facedBy 4 = .ok (.iload_n 1, 1) := by decide +kernel
theorem dX2_facedBy_5 : decode cX2_facedBy 5 = .ok (.iaload, 1) := by decide +kernel
theorem dX2_facedBy_6 : decode cX2_facedBy 6 = .ok (.ireturn, 1) := by decide +kernel
theorem dX2_meetsOf_0 : decode cX2_meetsOf 0 = .ok (.aload_n 0, 1) := by decide +kernel
theorem dX2_meetsOf_1 : decode cX2_meetsOf 1 = .ok (.getfield 43, 3) := by decide +kernel
theorem dX2_meetsOf_4 : decode cX2_meetsOf 4 = .ok (.iload_n 1, 1) := by decide +kernel
theorem dX2_meetsOf_5 : decode cX2_meetsOf 5 = .ok (.iaload, 1) := by decide +kernel
theorem dX2_meetsOf_6 : decode cX2_meetsOf 6 = .ok (.ireturn, 1) := by decide +kernel
theorem dX2_standingAt_0 : decode cX2_standingAt 0 = .ok (.aload_n 0, 1) := by decide +kernel
theorem dX2_standingAt_1 : decode cX2_standingAt 1 = .ok (.getfield 46, 3) := by decide +kernel
theorem dX2_standingAt_4 : decode cX2_standingAt 4 = .ok (.iload_n 1, 1) := by decide +kernel
theorem dX2_standingAt_5 : decode cX2_standingAt 5 = .ok (.iaload, 1) := by decide +kernel
theorem dX2_standingAt_6 : decode cX2_standingAt 6 = .ok (.ireturn, 1) := by decide +kernel
theorem dX2_facing_0 : decode cX2_facing 0 = .ok (.aload_n 0, 1) := by decide +kernel
theorem dX2_facing_1 : decode cX2_facing 1 = .ok (.getfield 49, 3) := by decide +kernel
theorem dX2_facing_4 : decode cX2_facing 4 = .ok (.iload_n 1, 1) := by decide +kernel
theorem dX2_facing_5 : decode cX2_facing 5 = .ok (.iaload, 1) := by decide +kernel
theorem dX2_facing_6 : decode cX2_facing 6 = .ok (.ireturn, 1) := by decide +kernel
theorem dX2_everyone_0 : decode cX2_everyone 0 = .ok (.iconst 1, 1) := by decide +kernel
theorem dX2_everyone_1 : decode cX2_everyone 1 = .ok (.aload_n 0, 1) := by decide +kernel
theorem dX2_everyone_2 : decode cX2_everyone 2 = .ok (.getfield 52, 3) := by decide +kernel
theorem dX2_everyone_5 : decode cX2_everyone 5 = .ok (.ishl, 1) := by decide +kernel
theorem dX2_everyone_6 : decode cX2_everyone 6 = .ok (.iconst 1, 1) := by decide +kernel
theorem dX2_everyone_7 : decode cX2_everyone 7 = .ok (.isub, 1) := by decide +kernel
theorem dX2_everyone_8 : decode cX2_everyone 8 = .ok (.ireturn, 1) := by decide +kernel
theorem dX2_meeting_0 : decode cX2_meeting 0 = .ok (.iconst 0, 1) := by decide +kernel
theorem dX2_meeting_1 : decode cX2_meeting 1 = .ok (.istore_n 1, 1) := by decide +kernel
theorem dX2_meeting_2 : decode cX2_meeting 2 = .ok (.iconst 0, 1) := by decide +kernel
theorem dX2_meeting_3 : decode cX2_meeting 3 = .ok (.istore_n 2, 1) := by decide +kernel
theorem dX2_meeting_4 : decode cX2_meeting 4 = .ok (.iload_n 2, 1) := by decide +kernel
theorem dX2_meeting_5 : decode cX2_meeting 5 = .ok (.aload_n 0, 1) := by decide +kernel
theorem dX2_meeting_6 : decode cX2_meeting 6 = .ok (.getfield 52, 3) := by decide +kernel
theorem dX2_meeting_9 : decode cX2_meeting 9 = .ok (.if_icmp .ge 24, 3) := by decide +kernel
theorem dX2_meeting_12 : decode cX2_meeting 12 = .ok (.aload_n 0, 1) := by decide +kernel
theorem dX2_meeting_13 : decode cX2_meeting 13 = .ok (.getfield 43, 3) := by decide +kernel
theorem dX2_meeting_16 : decode cX2_meeting 16 = .ok (.iload_n 2, 1) := by decide +kernel
theorem dX2_meeting_17 : decode cX2_meeting 17 = .ok (.iaload, 1) := by decide +kernel
theorem dX2_meeting_18 : decode cX2_meeting 18 = .ok (.ifCond .eq 9, 3) := by decide +kernel
theorem dX2_meeting_21 : decode cX2_meeting 21 = .ok (.iload_n 1, 1) := by decide +kernel
theorem dX2_meeting_22 : decode cX2_meeting 22 = .ok (.iconst 1, 1) := by decide +kernel
theorem dX2_meeting_23 : decode cX2_meeting 23 = .ok (.iload_n 2, 1) := by decide +kernel
theorem dX2_meeting_24 : decode cX2_meeting 24 = .ok (.ishl, 1) := by decide +kernel
theorem dX2_meeting_25 : decode cX2_meeting 25 = .ok (.ior, 1) := by decide +kernel
theorem dX2_meeting_26 : decode cX2_meeting 26 = .ok (.istore_n 1, 1) := by decide +kernel
theorem dX2_meeting_27 : decode cX2_meeting 27 = .ok (.iinc 2 1, 3) := by decide +kernel
theorem dX2_meeting_30 : decode cX2_meeting 30 = .ok (.goto (-26), 3) := by decide +kernel
theorem dX2_meeting_33 : decode cX2_meeting 33 = .ok (.iload_n 1, 1) := by decide +kernel
theorem dX2_meeting_34 : decode cX2_meeting 34 = .ok (.ireturn, 1) := by decide +kernel
theorem dX2_valleysStoodAt_0 : decode cX2_valleysStoodAt 0 = .ok (.aload_n 0, 1) := by decide +kernel
theorem dX2_valleysStoodAt_1 : decode cX2_valleysStoodAt 1 = .ok (.getfield 46, 3) := by decide +kernel
theorem dX2_valleysStoodAt_4 : decode cX2_valleysStoodAt 4 = .ok (.invokestatic 76, 3) := by decide +kernel
theorem dX2_valleysStoodAt_7 : decode cX2_valleysStoodAt 7 = .ok (.ireturn, 1) := by decide +kernel
theorem dX2_valleysFaced_0 : decode cX2_valleysFaced 0 = .ok (.aload_n 0, 1) := by decide +kernel
theorem dX2_valleysFaced_1 : decode cX2_valleysFaced 1 = .ok (.getfield 49, 3) := by decide +kernel
theorem dX2_valleysFaced_4 : decode cX2_valleysFaced 4 = .ok (.invokestatic 76, 3) := by decide +kernel
theorem dX2_valleysFaced_7 : decode cX2_valleysFaced 7 = .ok (.ireturn, 1) := by decide +kernel
theorem dX2_valleysIn_0 : decode cX2_valleysIn 0 = .ok (.iconst 0, 1) := by decide +kernel
theorem dX2_valleysIn_1 : decode cX2_valleysIn 1 = .ok (.istore_n 1, 1) := by decide +kernel
theorem dX2_valleysIn_2 : decode cX2_valleysIn 2 = .ok (.iconst 0, 1) := by decide +kernel
theorem dX2_valleysIn_3 : decode cX2_valleysIn 3 = .ok (.istore_n 2, 1) := by decide +kernel
theorem dX2_valleysIn_4 : decode cX2_valleysIn 4 = .ok (.iload_n 2, 1) := by decide +kernel
theorem dX2_valleysIn_5 : decode cX2_valleysIn 5 = .ok (.bipush 12, 2) := by decide +kernel
theorem dX2_valleysIn_7 : decode cX2_valleysIn 7 = .ok (.if_icmp .ge 21, 3) := by decide +kernel
theorem dX2_valleysIn_10 : decode cX2_valleysIn 10 = .ok (.aload_n 0, 1) := by decide +kernel
theorem dX2_valleysIn_11 : decode cX2_valleysIn 11 = .ok (.iload_n 2, 1) := by decide +kernel
theorem dX2_valleysIn_12 : decode cX2_valleysIn 12 = .ok (.iaload, 1) := by decide +kernel
theorem dX2_valleysIn_13 : decode cX2_valleysIn 13 = .ok (.ifCond .eq 9, 3) := by decide +kernel
theorem dX2_valleysIn_16 : decode cX2_valleysIn 16 = .ok (.iload_n 1, 1) := by decide +kernel
theorem dX2_valleysIn_17 : decode cX2_valleysIn 17 = .ok (.iconst 1, 1) := by decide +kernel
theorem dX2_valleysIn_18 : decode cX2_valleysIn 18 = .ok (.iload_n 2, 1) := by decide +kernel
theorem dX2_valleysIn_19 : decode cX2_valleysIn 19 = .ok (.ishl, 1) := by decide +kernel
theorem dX2_valleysIn_20 : decode cX2_valleysIn 20 = .ok (.ior, 1) := by decide +kernel
theorem dX2_valleysIn_21 : decode cX2_valleysIn 21 = .ok (.istore_n 1, 1) := by decide +kernel
theorem dX2_valleysIn_22 : decode cX2_valleysIn 22 = .ok (.iinc 2 1, 3) := by decide +kernel
theorem dX2_valleysIn_25 : decode cX2_valleysIn 25 = .ok (.goto (-21), 3) := by decide +kernel
theorem dX2_valleysIn_28 : decode cX2_valleysIn 28 = .ok (.iload_n 1, 1) := by decide +kernel
theorem dX2_valleysIn_29 : decode cX2_valleysIn 29 = .ok (.ireturn, 1) := by decide +kernel
theorem dX2_heightOfAll_0 : decode cX2_heightOfAll 0 = .ok (.aload_n 0, 1) := by decide +kernel
theorem dX2_heightOfAll_1 : decode cX2_heightOfAll 1 = .ok (.aload_n 0, 1) := by decide +kernel
theorem dX2_heightOfAll_2 : decode cX2_heightOfAll 2 = .ok (.getfield 34, 3) := by decide +kernel
theorem dX2_heightOfAll_5 : decode cX2_heightOfAll 5 = .ok (.invokevirtual 80, 3) := by decide +kernel
theorem dX2_heightOfAll_8 : decode cX2_heightOfAll 8 = .ok (.ireturn, 1) := by decide +kernel
theorem dX2_bowedOfAll_0 : decode cX2_bowedOfAll 0 = .ok (.aload_n 0, 1) := by decide +kernel
theorem dX2_bowedOfAll_1 : decode cX2_bowedOfAll 1 = .ok (.aload_n 0, 1) := by decide +kernel
theorem dX2_bowedOfAll_2 : decode cX2_bowedOfAll 2 = .ok (.getfield 37, 3) := by decide +kernel
theorem dX2_bowedOfAll_5 : decode cX2_bowedOfAll 5 = .ok (.invokevirtual 80, 3) := by decide +kernel
theorem dX2_bowedOfAll_8 : decode cX2_bowedOfAll 8 = .ok (.ireturn, 1) := by decide +kernel
theorem dX2_sumOf_0 : decode cX2_sumOf 0 = .ok (.iconst 0, 1) := by decide +kernel
theorem dX2_sumOf_1 : decode cX2_sumOf 1 = .ok (.istore_n 2, 1) := by decide +kernel
theorem dX2_sumOf_2 : decode cX2_sumOf 2 = .ok (.iconst 0, 1) := by decide +kernel
theorem dX2_sumOf_3 : decode cX2_sumOf 3 = .ok (.istore_n 3, 1) := by decide +kernel
theorem dX2_sumOf_4 : decode cX2_sumOf 4 = .ok (.iload_n 3, 1) := by decide +kernel
theorem dX2_sumOf_5 : decode cX2_sumOf 5 = .ok (.aload_n 0, 1) := by decide +kernel
theorem dX2_sumOf_6 : decode cX2_sumOf 6 = .ok (.getfield 52, 3) := by decide +kernel
theorem dX2_sumOf_9 : decode cX2_sumOf 9 = .ok (.if_icmp .ge 15, 3) := by decide +kernel
theorem dX2_sumOf_12 : decode cX2_sumOf 12 = .ok (.iload_n 2, 1) := by decide +kernel
theorem dX2_sumOf_13 : decode cX2_sumOf 13 = .ok (.aload_n 1, 1) := by decide +kernel
theorem dX2_sumOf_14 : decode cX2_sumOf 14 = .ok (.iload_n 3, 1) := by decide +kernel
theorem dX2_sumOf_15 : decode cX2_sumOf 15 = .ok (.iaload, 1) := by decide +kernel
theorem dX2_sumOf_16 : decode cX2_sumOf 16 = .ok (.iadd, 1) := by decide +kernel
theorem dX2_sumOf_17 : decode cX2_sumOf 17 = .ok (.istore_n 2, 1) := by decide +kernel
theorem dX2_sumOf_18 : decode cX2_sumOf 18 = .ok (.iinc 3 1, 3) := by decide +kernel
theorem dX2_sumOf_21 : decode cX2_sumOf 21 = .ok (.goto (-17), 3) := by decide +kernel
theorem dX2_sumOf_24 : decode cX2_sumOf 24 = .ok (.iload_n 2, 1) := by decide +kernel
theorem dX2_sumOf_25 : decode cX2_sumOf 25 = .ok (.ireturn, 1) := by decide +kernel
theorem dX2_spotsHeld_0 : decode cX2_spotsHeld 0 = .ok (.iconst 0, 1) := by decide +kernel
theorem dX2_spotsHeld_1 : decode cX2_spotsHeld 1 = .ok (.istore_n 1, 1) := by decide +kernel
theorem dX2_spotsHeld_2 : decode cX2_spotsHeld 2 = .ok (.iconst 0, 1) := by decide +kernel
theorem dX2_spotsHeld_3 : decode cX2_spotsHeld 3 = .ok (.istore_n 2, 1) := by decide +kernel
theorem dX2_spotsHeld_4 : decode cX2_spotsHeld 4 = .ok (.iload_n 2, 1) := by decide +kernel
theorem dX2_spotsHeld_5 : decode cX2_spotsHeld 5 = .ok (.bipush 10, 2) := by decide +kernel
theorem dX2_spotsHeld_7 : decode cX2_spotsHeld 7 = .ok (.if_icmp .ge 21, 3) := by decide +kernel
theorem dX2_spotsHeld_10 : decode cX2_spotsHeld 10 = .ok (.aload_n 0, 1) := by decide +kernel
theorem dX2_spotsHeld_11 : decode cX2_spotsHeld 11 = .ok (.getfield 18, 3) := by decide +kernel
theorem dX2_spotsHeld_14 : decode cX2_spotsHeld 14 = .ok (.iload_n 2, 1) := by decide +kernel
theorem dX2_spotsHeld_15 : decode cX2_spotsHeld 15 = .ok (.iaload, 1) := by decide +kernel
theorem dX2_spotsHeld_16 : decode cX2_spotsHeld 16 = .ok (.ifCond .lt 6, 3) := by decide +kernel
theorem dX2_spotsHeld_19 : decode cX2_spotsHeld 19 = .ok (.iinc 1 1, 3) := by decide +kernel
theorem dX2_spotsHeld_22 : decode cX2_spotsHeld 22 = .ok (.iinc 2 1, 3) := by decide +kernel
theorem dX2_spotsHeld_25 : decode cX2_spotsHeld 25 = .ok (.goto (-21), 3) := by decide +kernel
theorem dX2_spotsHeld_28 : decode cX2_spotsHeld 28 = .ok (.iload_n 1, 1) := by decide +kernel
theorem dX2_spotsHeld_29 : decode cX2_spotsHeld 29 = .ok (.ireturn, 1) := by decide +kernel
theorem dX2_highestAt_0 : decode cX2_highestAt 0 = .ok (.iconst (-1), 1) := by decide +kernel
theorem dX2_highestAt_1 : decode cX2_highestAt 1 = .ok (.istore_n 2, 1) := by decide +kernel
theorem dX2_highestAt_2 : decode cX2_highestAt 2 = .ok (.iconst 0, 1) := by decide +kernel
theorem dX2_highestAt_3 : decode cX2_highestAt 3 = .ok (.istore_n 3, 1) := by decide +kernel
theorem dX2_highestAt_4 : decode cX2_highestAt 4 = .ok (.iload_n 3, 1) := by decide +kernel
theorem dX2_highestAt_5 : decode cX2_highestAt 5 = .ok (.aload_n 0, 1) := by decide +kernel
theorem dX2_highestAt_6 : decode cX2_highestAt 6 = .ok (.getfield 52, 3) := by decide +kernel
theorem dX2_highestAt_9 : decode cX2_highestAt 9 = .ok (.if_icmp .ge 36, 3) := by decide +kernel
theorem dX2_highestAt_12 : decode cX2_highestAt 12 = .ok (.aload_n 0, 1) := by decide +kernel
theorem dX2_highestAt_13 : decode cX2_highestAt 13 = .ok (.getfield 25, 3) := by decide +kernel
theorem dX2_highestAt_16 : decode cX2_highestAt 16 = .ok (.iload_n 3, 1) := by decide +kernel
theorem dX2_highestAt_17 : decode cX2_highestAt 17 = .ok (.iaload, 1) := by decide +kernel
theorem dX2_highestAt_18 : decode cX2_highestAt 18 = .ok (.iload_n 1, 1) := by decide +kernel
theorem dX2_highestAt_19 : decode cX2_highestAt 19 = .ok (.if_icmp .ne 20, 3) := by decide +kernel
theorem dX2_highestAt_22 : decode cX2_highestAt 22 = .ok (.aload_n 0, 1) := by decide +kernel
theorem dX2_highestAt_23 : decode cX2_highestAt 23 = .ok (.getfield 34, 3) := by decide +kernel
theorem dX2_highestAt_26 : decode cX2_highestAt 26 = .ok (.iload_n 3, 1) := by decide +kernel
theorem dX2_highestAt_27 : decode cX2_highestAt 27 = .ok (.iaload, 1) := by decide +kernel
theorem dX2_highestAt_28 : decode cX2_highestAt 28 = .ok (.iload_n 2, 1) := by decide +kernel
theorem dX2_highestAt_29 : decode cX2_highestAt 29 = .ok (.if_icmp .le 10, 3) := by decide +kernel
theorem dX2_highestAt_32 : decode cX2_highestAt 32 = .ok (.aload_n 0, 1) := by decide +kernel
theorem dX2_highestAt_33 : decode cX2_highestAt 33 = .ok (.getfield 34, 3) := by decide +kernel
theorem dX2_highestAt_36 : decode cX2_highestAt 36 = .ok (.iload_n 3, 1) := by decide +kernel
theorem dX2_highestAt_37 : decode cX2_highestAt 37 = .ok (.iaload, 1) := by decide +kernel
theorem dX2_highestAt_38 : decode cX2_highestAt 38 = .ok (.istore_n 2, 1) := by decide +kernel
theorem dX2_highestAt_39 : decode cX2_highestAt 39 = .ok (.iinc 3 1, 3) := by decide +kernel
theorem dX2_highestAt_42 : decode cX2_highestAt 42 = .ok (.goto (-38), 3) := by decide +kernel
theorem dX2_highestAt_45 : decode cX2_highestAt 45 = .ok (.iload_n 2, 1) := by decide +kernel
theorem dX2_highestAt_46 : decode cX2_highestAt 46 = .ok (.ireturn, 1) := by decide +kernel
theorem dX2_climbOn_0 : decode cX2_climbOn 0 = .ok (.iload_n 1, 1) := by decide +kernel
theorem dX2_climbOn_1 : decode cX2_climbOn 1 = .ok (.iload_n 2, 1) := by decide +kernel
theorem dX2_climbOn_2 : decode cX2_climbOn 2 = .ok (.invokestatic 83, 3) := by decide +kernel
theorem dX2_climbOn_5 : decode cX2_climbOn 5 = .ok (.istore_n 3, 1) := by decide +kernel
theorem dX2_climbOn_6 : decode cX2_climbOn 6 = .ok (.iconst 0, 1) := by decide +kernel
theorem dX2_climbOn_7 : decode cX2_climbOn 7 = .ok (.istore 4, 2) := by decide +kernel
theorem dX2_climbOn_9 : decode cX2_climbOn 9 = .ok (.iconst 0, 1) := by decide +kernel
theorem dX2_climbOn_10 : decode cX2_climbOn 10 = .ok (.istore 5, 2) := by decide +kernel
theorem dX2_climbOn_12 : decode cX2_climbOn 12 = .ok (.iload 5, 2) := by decide +kernel
theorem dX2_climbOn_14 : decode cX2_climbOn 14 = .ok (.aload_n 0, 1) := by decide +kernel
theorem dX2_climbOn_15 : decode cX2_climbOn 15 = .ok (.getfield 52, 3) := by decide +kernel
theorem dX2_climbOn_18 : decode cX2_climbOn 18 = .ok (.if_icmp .ge 54, 3) := by decide +kernel
theorem dX2_climbOn_21 : decode cX2_climbOn 21 = .ok (.iload_n 1, 1) := by decide +kernel
theorem dX2_climbOn_22 : decode cX2_climbOn 22 = .ok (.aload_n 0, 1) := by decide +kernel
theorem dX2_climbOn_23 : decode cX2_climbOn 23 = .ok (.getfield 25, 3) := by decide +kernel
theorem dX2_climbOn_26 : decode cX2_climbOn 26 = .ok (.iload 5, 2) := by decide +kernel
theorem dX2_climbOn_28 : decode cX2_climbOn 28 = .ok (.iaload, 1) := by decide +kernel
theorem dX2_climbOn_29 : decode cX2_climbOn 29 = .ok (.invokestatic 83, 3) := by decide +kernel
theorem dX2_climbOn_32 : decode cX2_climbOn 32 = .ok (.istore 6, 2) := by decide +kernel
theorem dX2_climbOn_34 : decode cX2_climbOn 34 = .ok (.iload 6, 2) := by decide +kernel
theorem dX2_climbOn_36 : decode cX2_climbOn 36 = .ok (.ifCond .le 30, 3) := by decide +kernel
theorem dX2_climbOn_39 : decode cX2_climbOn 39 = .ok (.iload 6, 2) := by decide +kernel
theorem dX2_climbOn_41 : decode cX2_climbOn 41 = .ok (.iload_n 3, 1) := by decide +kernel
theorem dX2_climbOn_42 : decode cX2_climbOn 42 = .ok (.if_icmp .ge 24, 3) := by decide +kernel
theorem dX2_climbOn_45 : decode cX2_climbOn 45 = .ok (.aload_n 0, 1) := by decide +kernel
theorem dX2_climbOn_46 : decode cX2_climbOn 46 = .ok (.getfield 34, 3) := by decide +kernel
theorem dX2_climbOn_49 : decode cX2_climbOn 49 = .ok (.iload 5, 2) := by decide +kernel
theorem dX2_climbOn_51 : decode cX2_climbOn 51 = .ok (.iaload, 1) := by decide +kernel
theorem dX2_climbOn_52 : decode cX2_climbOn 52 = .ok (.iload 4, 2) := by decide +kernel
theorem dX2_climbOn_54 : decode cX2_climbOn 54 = .ok (.if_icmp .le 12, 3) := by decide +kernel
theorem dX2_climbOn_57 : decode cX2_climbOn 57 = .ok (.aload_n 0, 1) := by decide +kernel
theorem dX2_climbOn_58 : decode cX2_climbOn 58 = .ok (.getfield 34, 3) := by decide +kernel
theorem dX2_climbOn_61 : decode cX2_climbOn 61 = .ok (.iload 5, 2) := by decide +kernel
theorem dX2_climbOn_63 : decode cX2_climbOn 63 = .ok (.iaload, 1) := by decide +kernel
theorem dX2_climbOn_64 : decode cX2_climbOn 64 = .ok (.istore 4, 2) := by decide +kernel
theorem dX2_climbOn_66 : decode cX2_climbOn 66 = .ok (.iinc 5 1, 3) := by decide +kernel
theorem dX2_climbOn_69 : decode cX2_climbOn 69 = .ok (.goto (-57), 3) := by decide +kernel
theorem dX2_climbOn_72 : decode cX2_climbOn 72 = .ok (.iload 4, 2) := by decide +kernel
theorem dX2_climbOn_74 : decode cX2_climbOn 74 = .ok (.ireturn, 1) := by decide +kernel
theorem dX2_leastClimb_0 : decode cX2_leastClimb 0 = .ok (.aload_n 0, 1) := by decide +kernel
theorem dX2_leastClimb_1 : decode cX2_leastClimb 1 = .ok (.iload_n 1, 1) := by decide +kernel
theorem dX2_leastClimb_2 : decode cX2_leastClimb 2 = .ok (.iload_n 2, 1) := by decide +kernel
theorem dX2_leastClimb_3 : decode cX2_leastClimb 3 = .ok (.invokevirtual 87, 3) := by decide +kernel
theorem dX2_leastClimb_6 : decode cX2_leastClimb 6 = .ok (.aload_n 0, 1) := by decide +kernel
theorem dX2_leastClimb_7 : decode cX2_leastClimb 7 = .ok (.iload_n 2, 1) := by decide +kernel
theorem dX2_leastClimb_8 : decode cX2_leastClimb 8 = .ok (.iload_n 1, 1) := by decide +kernel
theorem dX2_leastClimb_9 : decode cX2_leastClimb 9 = .ok (.invokevirtual 87, 3) := by decide +kernel
theorem dX2_leastClimb_12 : decode cX2_leastClimb 12 = .ok (.invokestatic 90, 3) := by decide +kernel
theorem dX2_leastClimb_15 : decode cX2_leastClimb 15 = .ok (.ireturn, 1) := by decide +kernel
theorem dX2_movesOf_0 : decode cX2_movesOf 0 = .ok (.aload_n 0, 1) := by decide +kernel
theorem dX2_movesOf_1 : decode cX2_movesOf 1 = .ok (.getfield 22, 3) := by decide +kernel
theorem dX2_movesOf_4 : decode cX2_movesOf 4 = .ok (.iload_n 1, 1) := by decide +kernel
theorem dX2_movesOf_5 : decode cX2_movesOf 5 = .ok (.iaload, 1) := by decide +kernel
theorem dX2_movesOf_6 : decode cX2_movesOf 6 = .ok (.tableswitch 92 0 6 #[42, 49, 73, 79, 85, 92, 58], 42) := by decide +kernel
theorem dX2_movesOf_48 : decode cX2_movesOf 48 = .ok (.aload_n 0, 1) := by decide +kernel
theorem dX2_movesOf_49 : decode cX2_movesOf 49 = .ok (.getfield 28, 3) := by decide +kernel
theorem dX2_movesOf_52 : decode cX2_movesOf 52 = .ok (.iload_n 1, 1) := by decide +kernel
theorem dX2_movesOf_53 : decode cX2_movesOf 53 = .ok (.iaload, 1) := by decide +kernel
theorem dX2_movesOf_54 : decode cX2_movesOf 54 = .ok (.ireturn, 1) := by decide +kernel
theorem dX2_movesOf_55 : decode cX2_movesOf 55 = .ok (.iconst 2, 1) := by decide +kernel
theorem dX2_movesOf_56 : decode cX2_movesOf 56 = .ok (.aload_n 0, 1) := by decide +kernel
theorem dX2_movesOf_57 : decode cX2_movesOf 57 = .ok (.getfield 28, 3) := by decide +kernel
theorem dX2_movesOf_60 : decode cX2_movesOf 60 = .ok (.iload_n 1, 1) := by decide +kernel
theorem dX2_movesOf_61 : decode cX2_movesOf 61 = .ok (.iaload, 1) := by decide +kernel
theorem dX2_movesOf_62 : decode cX2_movesOf 62 = .ok (.imul, 1) := by decide +kernel
theorem dX2_movesOf_63 : decode cX2_movesOf 63 = .ok (.ireturn, 1) := by decide +kernel
theorem dX2_movesOf_64 : decode cX2_movesOf 64 = .ok (.iconst 2, 1) := by decide +kernel
theorem dX2_movesOf_65 : decode cX2_movesOf 65 = .ok (.aload_n 0, 1) := by decide +kernel
theorem dX2_movesOf_66 : decode cX2_movesOf 66 = .ok (.getfield 28, 3) := by decide +kernel
theorem dX2_movesOf_69 : decode cX2_movesOf 69 = .ok (.iload_n 1, 1) := by decide +kernel
theorem dX2_movesOf_70 : decode cX2_movesOf 70 = .ok (.iaload, 1) := by decide +kernel
theorem dX2_movesOf_71 : decode cX2_movesOf 71 = .ok (.imul, 1) := by decide +kernel
theorem dX2_movesOf_72 : decode cX2_movesOf 72 = .ok (.aload_n 0, 1) := by decide +kernel
theorem dX2_movesOf_73 : decode cX2_movesOf 73 = .ok (.iload_n 1, 1) := by decide +kernel
theorem dX2_movesOf_74 : decode cX2_movesOf 74 = .ok (.invokevirtual 95, 3) := by decide +kernel
theorem dX2_movesOf_77 : decode cX2_movesOf 77 = .ok (.iadd, 1) := by decide +kernel
theorem dX2_movesOf_78 : decode cX2_movesOf 78 = .ok (.ireturn, 1) := by decide +kernel
theorem dX2_movesOf_79 : decode cX2_movesOf 79 = .ok (.aload_n 0, 1) := by decide +kernel
theorem dX2_movesOf_80 : decode cX2_movesOf 80 = .ok (.iload_n 1, 1) := by decide +kernel
theorem dX2_movesOf_81 : decode cX2_movesOf 81 = .ok (.invokevirtual 99, 3) := by decide +kernel
theorem dX2_movesOf_84 : decode cX2_movesOf 84 = .ok (.ireturn, 1) := by decide +kernel
theorem dX2_movesOf_85 : decode cX2_movesOf 85 = .ok (.aload_n 0, 1) := by decide +kernel
theorem dX2_movesOf_86 : decode cX2_movesOf 86 = .ok (.iload_n 1, 1) := by decide +kernel
theorem dX2_movesOf_87 : decode cX2_movesOf 87 = .ok (.invokevirtual 102, 3) := by decide +kernel
theorem dX2_movesOf_90 : decode cX2_movesOf 90 = .ok (.ireturn, 1) := by decide +kernel
theorem dX2_movesOf_91 : decode cX2_movesOf 91 = .ok (.aload_n 0, 1) := by decide +kernel
theorem dX2_movesOf_92 : decode cX2_movesOf 92 = .ok (.iload_n 1, 1) := by decide +kernel
theorem dX2_movesOf_93 : decode cX2_movesOf 93 = .ok (.invokevirtual 102, 3) := by decide +kernel
theorem dX2_movesOf_96 : decode cX2_movesOf 96 = .ok (.ineg, 1) := by decide +kernel
theorem dX2_movesOf_97 : decode cX2_movesOf 97 = .ok (.ireturn, 1) := by decide +kernel
theorem dX2_movesOf_98 : decode cX2_movesOf 98 = .ok (.iconst 0, 1) := by decide +kernel
theorem dX2_movesOf_99 : decode cX2_movesOf 99 = .ok (.ireturn, 1) := by decide +kernel
theorem dX2_tallOf_0 : decode cX2_tallOf 0 = .ok (.aload_n 0, 1) := by decide +kernel
theorem dX2_tallOf_1 : decode cX2_tallOf 1 = .ok (.getfield 34, 3) := by decide +kernel
theorem dX2_tallOf_4 : decode cX2_tallOf 4 = .ok (.iload_n 1, 1) := by decide +kernel
theorem dX2_tallOf_5 : decode cX2_tallOf 5 = .ok (.iaload, 1) := by decide +kernel
theorem dX2_tallOf_6 : decode cX2_tallOf 6 = .ok (.bipush 50, 2) := by decide +kernel
theorem dX2_tallOf_8 : decode cX2_tallOf 8 = .ok (.if_icmp .le 7, 3) := by decide +kernel
theorem dX2_tallOf_11 : decode cX2_tallOf 11 = .ok (.iconst 1, 1) := by decide +kernel
theorem dX2_tallOf_12 : decode cX2_tallOf 12 = .ok (.goto 4, 3) := by decide +kernel
theorem dX2_tallOf_15 : decode cX2_tallOf 15 = .ok (.iconst 0, 1) := by decide +kernel
theorem dX2_tallOf_16 : decode cX2_tallOf 16 = .ok (.ireturn, 1) := by decide +kernel
theorem dX2_partnerMoves_0 : decode cX2_partnerMoves 0 = .ok (.aload_n 0, 1) := by decide +kernel
theorem dX2_partnerMoves_1 : decode cX2_partnerMoves 1 = .ok (.getfield 43, 3) := by decide +kernel
theorem dX2_partnerMoves_4 : decode cX2_partnerMoves 4 = .ok (.iload_n 1, 1) := by decide +kernel
theorem dX2_partnerMoves_5 : decode cX2_partnerMoves 5 = .ok (.iaload, 1) := by decide +kernel
theorem dX2_partnerMoves_6 : decode cX2_partnerMoves 6 = .ok (.ifCond .eq 7, 3) := by decide +kernel
theorem dX2_partnerMoves_9 : decode cX2_partnerMoves 9 = .ok (.iconst 0, 1) := by decide +kernel
theorem dX2_partnerMoves_10 : decode cX2_partnerMoves 10 = .ok (.goto 9, 3) := by decide +kernel
theorem dX2_partnerMoves_13 : decode cX2_partnerMoves 13 = .ok (.aload_n 0, 1) := by decide +kernel
theorem dX2_partnerMoves_14 : decode cX2_partnerMoves 14 = .ok (.getfield 28, 3) := by decide +kernel
theorem dX2_partnerMoves_17 : decode cX2_partnerMoves 17 = .ok (.iload_n 1, 1) := by decide +kernel
theorem dX2_partnerMoves_18 : decode cX2_partnerMoves 18 = .ok (.iaload, 1) := by decide +kernel
theorem dX2_partnerMoves_19 : decode cX2_partnerMoves 19 = .ok (.ireturn, 1) := by decide +kernel
theorem dX2_twinMoves_0 : decode cX2_twinMoves 0 = .ok (.aload_n 0, 1) := by decide +kernel
theorem dX2_twinMoves_1 : decode cX2_twinMoves 1 = .ok (.iload_n 1, 1) := by decide +kernel
theorem dX2_twinMoves_2 : decode cX2_twinMoves 2 = .ok (.invokevirtual 99, 3) := by decide +kernel
theorem dX2_twinMoves_5 : decode cX2_twinMoves 5 = .ok (.aload_n 0, 1) := by decide +kernel
theorem dX2_twinMoves_6 : decode cX2_twinMoves 6 = .ok (.getfield 46, 3) := by decide +kernel
theorem dX2_twinMoves_9 : decode cX2_twinMoves 9 = .ok (.aload_n 0, 1) := by decide +kernel
theorem dX2_twinMoves_10 : decode cX2_twinMoves 10 = .ok (.getfield 25, 3) := by decide +kernel
theorem dX2_twinMoves_13 : decode cX2_twinMoves 13 = .ok (.iload_n 1, 1) := by decide +kernel
theorem dX2_twinMoves_14 : decode cX2_twinMoves 14 = .ok (.iaload, 1) := by decide +kernel
theorem dX2_twinMoves_15 : decode cX2_twinMoves 15 = .ok (.iaload, 1) := by decide +kernel
theorem dX2_twinMoves_16 : decode cX2_twinMoves 16 = .ok (.invokestatic 105, 3) := by decide +kernel
theorem dX2_twinMoves_19 : decode cX2_twinMoves 19 = .ok (.iadd, 1) := by decide +kernel
theorem dX2_twinMoves_20 : decode cX2_twinMoves 20 = .ok (.iconst 1, 1) := by decide +kernel
theorem dX2_twinMoves_21 : decode cX2_twinMoves 21 = .ok (.isub, 1) := by decide +kernel
theorem dX2_twinMoves_22 : decode cX2_twinMoves 22 = .ok (.ireturn, 1) := by decide +kernel
theorem dX2_turnsOf_0 : decode cX2_turnsOf 0 = .ok (.aload_n 0, 1) := by decide +kernel
theorem dX2_turnsOf_1 : decode cX2_turnsOf 1 = .ok (.getfield 22, 3) := by decide +kernel
theorem dX2_turnsOf_4 : decode cX2_turnsOf 4 = .ok (.iload_n 1, 1) := by decide +kernel
theorem dX2_turnsOf_5 : decode cX2_turnsOf 5 = .ok (.iaload, 1) := by decide +kernel
theorem dX2_turnsOf_6 : decode cX2_turnsOf 6 = .ok (.tableswitch 64 0 6 #[42, 64, 42, 46, 54, 64, 44], 42) := by decide +kernel
theorem dX2_turnsOf_48 : decode cX2_turnsOf 48 = .ok (.iconst 1, 1) := by decide +kernel
theorem dX2_turnsOf_49 : decode cX2_turnsOf 49 = .ok (.ireturn, 1) := by decide +kernel
theorem dX2_turnsOf_50 : decode cX2_turnsOf 50 = .ok (.iconst 2, 1) := by decide +kernel
theorem dX2_turnsOf_51 : decode cX2_turnsOf 51 = .ok (.ireturn, 1) := by decide +kernel
theorem dX2_turnsOf_52 : decode cX2_turnsOf 52 = .ok (.iconst 1, 1) := by decide +kernel
theorem dX2_turnsOf_53 : decode cX2_turnsOf 53 = .ok (.aload_n 0, 1) := by decide +kernel
theorem dX2_turnsOf_54 : decode cX2_turnsOf 54 = .ok (.iload_n 1, 1) := by decide +kernel
theorem dX2_turnsOf_55 : decode cX2_turnsOf 55 = .ok (.invokevirtual 95, 3) := by decide +kernel
theorem dX2_turnsOf_58 : decode cX2_turnsOf 58 = .ok (.iadd, 1) := by decide +kernel
theorem dX2_turnsOf_59 : decode cX2_turnsOf 59 = .ok (.ireturn, 1) := by decide +kernel
theorem dX2_turnsOf_60 : decode cX2_turnsOf 60 = .ok (.iconst 3, 1) := by decide +kernel
theorem dX2_turnsOf_61 : decode cX2_turnsOf 61 = .ok (.iconst 1, 1) := by decide +kernel
theorem dX2_turnsOf_62 : decode cX2_turnsOf 62 = .ok (.aload_n 0, 1) := by decide +kernel
theorem dX2_turnsOf_63 : decode cX2_turnsOf 63 = .ok (.iload_n 1, 1) := by decide +kernel
theorem dX2_turnsOf_64 : decode cX2_turnsOf 64 = .ok (.invokevirtual 95, 3) := by decide +kernel
theorem dX2_turnsOf_67 : decode cX2_turnsOf 67 = .ok (.iadd, 1) := by decide +kernel
theorem dX2_turnsOf_68 : decode cX2_turnsOf 68 = .ok (.imul, 1) := by decide +kernel
theorem dX2_turnsOf_69 : decode cX2_turnsOf 69 = .ok (.ireturn, 1) := by decide +kernel
theorem dX2_turnsOf_70 : decode cX2_turnsOf 70 = .ok (.iconst 0, 1) := by decide +kernel
theorem dX2_turnsOf_71 : decode cX2_turnsOf 71 = .ok (.ireturn, 1) := by decide +kernel
theorem dX2_sinksOf_0 : decode cX2_sinksOf 0 = .ok (.aload_n 0, 1) := by decide +kernel
theorem dX2_sinksOf_1 : decode cX2_sinksOf 1 = .ok (.getfield 22, 3) := by decide +kernel
theorem dX2_sinksOf_4 : decode cX2_sinksOf 4 = .ok (.iload_n 1, 1) := by decide +kernel
theorem dX2_sinksOf_5 : decode cX2_sinksOf 5 = .ok (.iaload, 1) := by decide +kernel
theorem dX2_sinksOf_6 : decode cX2_sinksOf 6 = .ok (.tableswitch 65 0 6 #[42, 44, 49, 56, 56, 65, 49], 42) := by decide +kernel
theorem dX2_sinksOf_48 : decode cX2_sinksOf 48 = .ok (.iconst 1, 1) := by decide +kernel
theorem dX2_sinksOf_49 : decode cX2_sinksOf 49 = .ok (.ireturn, 1) := by decide +kernel
theorem dX2_sinksOf_50 : decode cX2_sinksOf 50 = .ok (.aload_n 0, 1) := by decide +kernel
theorem dX2_sinksOf_51 : decode cX2_sinksOf 51 = .ok (.getfield 9, 3) := by decide +kernel
theorem dX2_sinksOf_54 : decode cX2_sinksOf 54 = .ok (.ireturn, 1) := by decide +kernel
theorem dX2_sinksOf_55 : decode cX2_sinksOf 55 = .ok (.aload_n 0, 1) := by decide +kernel
theorem dX2_sinksOf_56 : decode cX2_sinksOf 56 = .ok (.getfield 9, 3) := by decide +kernel
theorem dX2_sinksOf_59 : decode cX2_sinksOf 59 = .ok (.iconst 1, 1) := by decide +kernel
theorem dX2_sinksOf_60 : decode cX2_sinksOf 60 = .ok (.iadd, 1) := by decide +kernel
theorem dX2_sinksOf_61 : decode cX2_sinksOf 61 = .ok (.ireturn, 1) := by decide +kernel
theorem dX2_sinksOf_62 : decode cX2_sinksOf 62 = .ok (.aload_n 0, 1) := by decide +kernel
theorem dX2_sinksOf_63 : decode cX2_sinksOf 63 = .ok (.getfield 9, 3) := by decide +kernel
theorem dX2_sinksOf_66 : decode cX2_sinksOf 66 = .ok (.iconst 1, 1) := by decide +kernel
theorem dX2_sinksOf_67 : decode cX2_sinksOf 67 = .ok (.iadd, 1) := by decide +kernel
theorem dX2_sinksOf_68 : decode cX2_sinksOf 68 = .ok (.iconst 2, 1) := by decide +kernel
theorem dX2_sinksOf_69 : decode cX2_sinksOf 69 = .ok (.idiv, 1) := by decide +kernel
theorem dX2_sinksOf_70 : decode cX2_sinksOf 70 = .ok (.ireturn, 1) := by decide +kernel
theorem dX2_sinksOf_71 : decode cX2_sinksOf 71 = .ok (.iconst 0, 1) := by decide +kernel
theorem dX2_sinksOf_72 : decode cX2_sinksOf 72 = .ok (.ireturn, 1) := by decide +kernel
theorem dX2_passAges_0 : decode cX2_passAges 0 = .ok (.iconst 0, 1) := by decide +kernel
theorem dX2_passAges_1 : decode cX2_passAges 1 = .ok (.istore_n 2, 1) := by decide +kernel
theorem dX2_passAges_2 : decode cX2_passAges 2 = .ok (.iload_n 2, 1) := by decide +kernel
theorem dX2_passAges_3 : decode cX2_passAges 3 = .ok (.iload_n 1, 1) := by decide +kernel
theorem dX2_passAges_4 : decode cX2_passAges 4 = .ok (.if_icmp .ge 13, 3) := by decide +kernel
theorem dX2_passAges_7 : decode cX2_passAges 7 = .ok (.aload_n 0, 1) := by decide +kernel
theorem dX2_passAges_8 : decode cX2_passAges 8 = .ok (.invokevirtual 110, 3) := by decide +kernel
theorem dX2_passAges_11 : decode cX2_passAges 11 = .ok (.iinc 2 1, 3) := by decide +kernel
theorem dX2_passAges_14 : decode cX2_passAges 14 = .ok (.goto (-12), 3) := by decide +kernel
theorem dX2_passAges_17 : decode cX2_passAges 17 = .ok (.return_, 1) := by decide +kernel
theorem dX2_passAge_0 : decode cX2_passAge 0 = .ok (.iconst 0, 1) := by decide +kernel
theorem dX2_passAge_1 : decode cX2_passAge 1 = .ok (.istore_n 1, 1) := by decide +kernel
theorem dX2_passAge_2 : decode cX2_passAge 2 = .ok (.iload_n 1, 1) := by decide +kernel
theorem dX2_passAge_3 : decode cX2_passAge 3 = .ok (.aload_n 0, 1) := by decide +kernel
theorem dX2_passAge_4 : decode cX2_passAge 4 = .ok (.getfield 52, 3) := by decide +kernel
theorem dX2_passAge_7 : decode cX2_passAge 7 = .ok (.if_icmp .ge 129, 3) := by decide +kernel
theorem dX2_passAge_10 : decode cX2_passAge 10 = .ok (.aload_n 0, 1) := by decide +kernel
theorem dX2_passAge_11 : decode cX2_passAge 11 = .ok (.iload_n 1, 1) := by decide +kernel
theorem dX2_passAge_12 : decode cX2_passAge 12 = .ok (.invokevirtual 113, 3) := by decide +kernel
theorem dX2_passAge_15 : decode cX2_passAge 15 = .ok (.istore_n 2, 1) := by decide +kernel
theorem dX2_passAge_16 : decode cX2_passAge 16 = .ok (.aload_n 0, 1) := by decide +kernel
theorem dX2_passAge_17 : decode cX2_passAge 17 = .ok (.iload_n 1, 1) := by decide +kernel
theorem dX2_passAge_18 : decode cX2_passAge 18 = .ok (.invokevirtual 116, 3) := by decide +kernel
theorem dX2_passAge_21 : decode cX2_passAge 21 = .ok (.istore_n 3, 1) := by decide +kernel
theorem dX2_passAge_22 : decode cX2_passAge 22 = .ok (.aload_n 0, 1) := by decide +kernel
theorem dX2_passAge_23 : decode cX2_passAge 23 = .ok (.getfield 43, 3) := by decide +kernel
theorem dX2_passAge_26 : decode cX2_passAge 26 = .ok (.iload_n 1, 1) := by decide +kernel
theorem dX2_passAge_27 : decode cX2_passAge 27 = .ok (.iaload, 1) := by decide +kernel
theorem dX2_passAge_28 : decode cX2_passAge 28 = .ok (.ifCond .eq 48, 3) := by decide +kernel
theorem dX2_passAge_31 : decode cX2_passAge 31 = .ok (.aload_n 0, 1) := by decide +kernel
theorem dX2_passAge_32 : decode cX2_passAge 32 = .ok (.getfield 34, 3) := by decide +kernel
theorem dX2_passAge_35 : decode cX2_passAge 35 = .ok (.iload_n 1, 1) := by decide +kernel
theorem dX2_passAge_36 : decode cX2_passAge 36 = .ok (.iconst 0, 1) := by decide +kernel
theorem dX2_passAge_37 : decode cX2_passAge 37 = .ok (.aload_n 0, 1) := by decide +kernel
theorem dX2_passAge_38 : decode cX2_passAge 38 = .ok (.getfield 34, 3) := by decide +kernel
theorem dX2_passAge_41 : decode cX2_passAge 41 = .ok (.iload_n 1, 1) := by decide +kernel
theorem dX2_passAge_42 : decode cX2_passAge 42 = .ok (.iaload, 1) := by decide +kernel
theorem dX2_passAge_43 : decode cX2_passAge 43 = .ok (.aload_n 0, 1) := by decide +kernel
theorem dX2_passAge_44 : decode cX2_passAge 44 = .ok (.iload_n 1, 1) := by decide +kernel
theorem dX2_passAge_45 : decode cX2_passAge 45 = .ok (.invokevirtual 119, 3) := by decide +kernel
theorem dX2_passAge_48 : decode cX2_passAge 48 = .ok (.isub, 1) := by decide +kernel
theorem dX2_passAge_49 : decode cX2_passAge 49 = .ok (.invokestatic 122, 3) := by decide +kernel
theorem dX2_passAge_52 : decode cX2_passAge 52 = .ok (.iastore, 1) := by decide +kernel
theorem dX2_passAge_53 : decode cX2_passAge 53 = .ok (.aload_n 0, 1) := by decide +kernel
theorem dX2_passAge_54 : decode cX2_passAge 54 = .ok (.getfield 37, 3) := by decide +kernel
theorem dX2_passAge_57 : decode cX2_passAge 57 = .ok (.iload_n 1, 1) := by decide +kernel
theorem dX2_passAge_58 : decode cX2_passAge 58 = .ok (.sipush 9999, 3) := by decide +kernel
theorem dX2_passAge_61 : decode cX2_passAge 61 = .ok (.aload_n 0, 1) := by decide +kernel
theorem dX2_passAge_62 : decode cX2_passAge 62 = .ok (.getfield 37, 3) := by decide +kernel
theorem dX2_passAge_65 : decode cX2_passAge 65 = .ok (.iload_n 1, 1) := by decide +kernel
theorem dX2_passAge_66 : decode cX2_passAge 66 = .ok (.iaload, 1) := by decide +kernel
theorem dX2_passAge_67 : decode cX2_passAge 67 = .ok (.iconst 1, 1) := by decide +kernel
theorem dX2_passAge_68 : decode cX2_passAge 68 = .ok (.iadd, 1) := by decide +kernel
theorem dX2_passAge_69 : decode cX2_passAge 69 = .ok (.invokestatic 90, 3) := by decide +kernel
theorem dX2_passAge_72 : decode cX2_passAge 72 = .ok (.iastore, 1) := by decide +kernel
theorem dX2_passAge_73 : decode cX2_passAge 73 = .ok (.goto 22, 3) := by decide +kernel
theorem dX2_passAge_76 : decode cX2_passAge 76 = .ok (.aload_n 0, 1) := by decide +kernel
theorem dX2_passAge_77 : decode cX2_passAge 77 = .ok (.getfield 34, 3) := by decide +kernel
theorem dX2_passAge_80 : decode cX2_passAge 80 = .ok (.iload_n 1, 1) := by decide +kernel
theorem dX2_passAge_81 : decode cX2_passAge 81 = .ok (.bipush 99, 2) := by decide +kernel
theorem dX2_passAge_83 : decode cX2_passAge 83 = .ok (.aload_n 0, 1) := by decide +kernel
theorem dX2_passAge_84 : decode cX2_passAge 84 = .ok (.getfield 34, 3) := by decide +kernel
theorem dX2_passAge_87 : decode cX2_passAge 87 = .ok (.iload_n 1, 1) := by decide +kernel
theorem dX2_passAge_88 : decode cX2_passAge 88 = .ok (.iaload, 1) := by decide +kernel
theorem dX2_passAge_89 : decode cX2_passAge 89 = .ok (.iconst 1, 1) := by decide +kernel
theorem dX2_passAge_90 : decode cX2_passAge 90 = .ok (.iadd, 1) := by decide +kernel
theorem dX2_passAge_91 : decode cX2_passAge 91 = .ok (.invokestatic 90, 3) := by decide +kernel
theorem dX2_passAge_94 : decode cX2_passAge 94 = .ok (.iastore, 1) := by decide +kernel
theorem dX2_passAge_95 : decode cX2_passAge 95 = .ok (.aload_n 0, 1) := by decide +kernel
theorem dX2_passAge_96 : decode cX2_passAge 96 = .ok (.getfield 25, 3) := by decide +kernel
theorem dX2_passAge_99 : decode cX2_passAge 99 = .ok (.iload_n 1, 1) := by decide +kernel
theorem dX2_passAge_100 : decode cX2_passAge 100 = .ok (.aload_n 0, 1) := by decide +kernel
theorem dX2_passAge_101 : decode cX2_passAge 101 = .ok (.getfield 25, 3) := by decide +kernel
theorem dX2_passAge_104 : decode cX2_passAge 104 = .ok (.iload_n 1, 1) := by decide +kernel
theorem dX2_passAge_105 : decode cX2_passAge 105 = .ok (.iaload, 1) := by decide +kernel
theorem dX2_passAge_106 : decode cX2_passAge 106 = .ok (.iload_n 2, 1) := by decide +kernel
theorem dX2_passAge_107 : decode cX2_passAge 107 = .ok (.iadd, 1) := by decide +kernel
theorem dX2_passAge_108 : decode cX2_passAge 108 = .ok (.bipush 12, 2) := by decide +kernel
theorem dX2_passAge_110 : decode cX2_passAge 110 = .ok (.invokestatic 125, 3) := by decide +kernel
theorem dX2_passAge_113 : decode cX2_passAge 113 = .ok (.iastore, 1) := by decide +kernel
theorem dX2_passAge_114 : decode cX2_passAge 114 = .ok (.aload_n 0, 1) := by decide +kernel
theorem dX2_passAge_115 : decode cX2_passAge 115 = .ok (.getfield 31, 3) := by decide +kernel
theorem dX2_passAge_118 : decode cX2_passAge 118 = .ok (.iload_n 1, 1) := by decide +kernel
theorem dX2_passAge_119 : decode cX2_passAge 119 = .ok (.aload_n 0, 1) := by decide +kernel
theorem dX2_passAge_120 : decode cX2_passAge 120 = .ok (.getfield 31, 3) := by decide +kernel
theorem dX2_passAge_123 : decode cX2_passAge 123 = .ok (.iload_n 1, 1) := by decide +kernel
theorem dX2_passAge_124 : decode cX2_passAge 124 = .ok (.iaload, 1) := by decide +kernel
theorem dX2_passAge_125 : decode cX2_passAge 125 = .ok (.iload_n 3, 1) := by decide +kernel
theorem dX2_passAge_126 : decode cX2_passAge 126 = .ok (.iadd, 1) := by decide +kernel
theorem dX2_passAge_127 : decode cX2_passAge 127 = .ok (.iconst 4, 1) := by decide +kernel
theorem dX2_passAge_128 : decode cX2_passAge 128 = .ok (.irem, 1) := by decide +kernel
theorem dX2_passAge_129 : decode cX2_passAge 129 = .ok (.iastore, 1) := by decide +kernel
theorem dX2_passAge_130 : decode cX2_passAge 130 = .ok (.iinc 1 1, 3) := by decide +kernel
theorem dX2_passAge_133 : decode cX2_passAge 133 = .ok (.goto (-131), 3) := by decide +kernel
theorem dX2_passAge_136 : decode cX2_passAge 136 = .ok (.aload_n 0, 1) := by decide +kernel
theorem dX2_passAge_137 : decode cX2_passAge 137 = .ok (.ldc 128, 2) := by decide +kernel
theorem dX2_passAge_139 : decode cX2_passAge 139 = .ok (.aload_n 0, 1) := by decide +kernel
theorem dX2_passAge_140 : decode cX2_passAge 140 = .ok (.getfield 58, 3) := by decide +kernel
theorem dX2_passAge_143 : decode cX2_passAge 143 = .ok (.iconst 1, 1) := by decide +kernel
end
section
theorem dX2_passAge_144 : decode cX2_passAge 144 = .ok (.iadd, 1) := by decide +kernel
theorem dX2_passAge_145 : decode cX2_passAge 145 = .ok (.invokestatic 90, 3) := by decide +kernel
theorem dX2_passAge_148 : decode cX2_passAge 148 = .ok (.putfield 58, 3) := by decide +kernel
theorem dX2_passAge_151 : decode cX2_passAge 151 = .ok (.aload_n 0, 1) := by decide +kernel
theorem dX2_passAge_152 : decode cX2_passAge 152 = .ok (.invokevirtual 55, 3) := by decide +kernel
theorem dX2_passAge_155 : decode cX2_passAge 155 = .ok (.return_, 1) := by decide +kernel
theorem dX2_draw_0 : decode cX2_draw 0 = .ok (.aload_n 0, 1) := by decide +kernel
theorem dX2_draw_1 : decode cX2_draw 1 = .ok (.aload_n 0, 1) := by decide +kernel
theorem dX2_draw_2 : decode cX2_draw 2 = .ok (.getfield 15, 3) := by decide +kernel
theorem dX2_draw_5 : decode cX2_draw 5 = .ok (.ldc 129, 2) := by decide +kernel
theorem dX2_draw_7 : decode cX2_draw 7 = .ok (.imul, 1) := by decide +kernel
theorem dX2_draw_8 : decode cX2_draw 8 = .ok (.sipush 12345, 3) := by decide +kernel
theorem dX2_draw_11 : decode cX2_draw 11 = .ok (.iadd, 1) := by decide +kernel
theorem dX2_draw_12 : decode cX2_draw 12 = .ok (.putfield 15, 3) := by decide +kernel
theorem dX2_draw_15 : decode cX2_draw 15 = .ok (.aload_n 0, 1) := by decide +kernel
theorem dX2_draw_16 : decode cX2_draw 16 = .ok (.getfield 15, 3) := by decide +kernel
theorem dX2_draw_19 : decode cX2_draw 19 = .ok (.bipush 8, 2) := by decide +kernel
theorem dX2_draw_21 : decode cX2_draw 21 = .ok (.iushr, 1) := by decide +kernel
theorem dX2_draw_22 : decode cX2_draw 22 = .ok (.ireturn, 1) := by decide +kernel
theorem dX2_passWetAge_0 : decode cX2_passWetAge 0 = .ok (.aload_n 0, 1) := by decide +kernel
theorem dX2_passWetAge_1 : decode cX2_passWetAge 1 = .ok (.aload_n 0, 1) := by decide +kernel
theorem dX2_passWetAge_2 : decode cX2_passWetAge 2 = .ok (.invokevirtual 130, 3) := by decide +kernel
theorem dX2_passWetAge_5 : decode cX2_passWetAge 5 = .ok (.bipush 10, 2) := by decide +kernel
theorem dX2_passWetAge_7 : decode cX2_passWetAge 7 = .ok (.irem, 1) := by decide +kernel
theorem dX2_passWetAge_8 : decode cX2_passWetAge 8 = .ok (.putfield 9, 3) := by decide +kernel
theorem dX2_passWetAge_11 : decode cX2_passWetAge 11 = .ok (.aload_n 0, 1) := by decide +kernel
theorem dX2_passWetAge_12 : decode cX2_passWetAge 12 = .ok (.invokevirtual 130, 3) := by decide +kernel
theorem dX2_passWetAge_15 : decode cX2_passWetAge 15 = .ok (.bipush 8, 2) := by decide +kernel
theorem dX2_passWetAge_17 : decode cX2_passWetAge 17 = .ok (.irem, 1) := by decide +kernel
theorem dX2_passWetAge_18 : decode cX2_passWetAge 18 = .ok (.istore_n 1, 1) := by decide +kernel
theorem dX2_passWetAge_19 : decode cX2_passWetAge 19 = .ok (.aload_n 0, 1) := by decide +kernel
theorem dX2_passWetAge_20 : decode cX2_passWetAge 20 = .ok (.iload_n 1, 1) := by decide +kernel
theorem dX2_passWetAge_21 : decode cX2_passWetAge 21 = .ok (.invokevirtual 134, 3) := by decide +kernel
theorem dX2_passWetAge_24 : decode cX2_passWetAge 24 = .ok (.ifCond .ne 19, 3) := by decide +kernel
theorem dX2_passWetAge_27 : decode cX2_passWetAge 27 = .ok (.aload_n 0, 1) := by decide +kernel
theorem dX2_passWetAge_28 : decode cX2_passWetAge 28 = .ok (.iload_n 1, 1) := by decide +kernel
theorem dX2_passWetAge_29 : decode cX2_passWetAge 29 = .ok (.iconst 3, 1) := by decide +kernel
theorem dX2_passWetAge_30 : decode cX2_passWetAge 30 = .ok (.aload_n 0, 1) := by decide +kernel
theorem dX2_passWetAge_31 : decode cX2_passWetAge 31 = .ok (.getfield 31, 3) := by decide +kernel
theorem dX2_passWetAge_34 : decode cX2_passWetAge 34 = .ok (.iload_n 1, 1) := by decide +kernel
theorem dX2_passWetAge_35 : decode cX2_passWetAge 35 = .ok (.iaload, 1) := by decide +kernel
theorem dX2_passWetAge_36 : decode cX2_passWetAge 36 = .ok (.iconst 1, 1) := by decide +kernel
theorem dX2_passWetAge_37 : decode cX2_passWetAge 37 = .ok (.iadd, 1) := by decide +kernel
theorem dX2_passWetAge_38 : decode cX2_passWetAge 38 = .ok (.iconst 4, 1) := by decide +kernel
theorem dX2_passWetAge_39 : decode cX2_passWetAge 39 = .ok (.irem, 1) := by decide +kernel
theorem dX2_passWetAge_40 : decode cX2_passWetAge 40 = .ok (.invokevirtual 138, 3) := by decide +kernel
theorem dX2_passWetAge_43 : decode cX2_passWetAge 43 = .ok (.aload_n 0, 1) := by decide +kernel
theorem dX2_passWetAge_44 : decode cX2_passWetAge 44 = .ok (.invokevirtual 110, 3) := by decide +kernel
theorem dX2_passWetAge_47 : decode cX2_passWetAge 47 = .ok (.return_, 1) := by decide +kernel
theorem dX2_standsAndTurnsAs_0 : decode cX2_standsAndTurnsAs 0 = .ok (.iconst 0, 1) := by decide +kernel
theorem dX2_standsAndTurnsAs_1 : decode cX2_standsAndTurnsAs 1 = .ok (.istore_n 2, 1) := by decide +kernel
theorem dX2_standsAndTurnsAs_2 : decode cX2_standsAndTurnsAs 2 = .ok (.iload_n 2, 1) := by decide +kernel
theorem dX2_standsAndTurnsAs_3 : decode cX2_standsAndTurnsAs 3 = .ok (.aload_n 0, 1) := by decide +kernel
theorem dX2_standsAndTurnsAs_4 : decode cX2_standsAndTurnsAs 4 = .ok (.getfield 52, 3) := by decide +kernel
theorem dX2_standsAndTurnsAs_7 : decode cX2_standsAndTurnsAs 7 = .ok (.if_icmp .ge 41, 3) := by decide +kernel
theorem dX2_standsAndTurnsAs_10 : decode cX2_standsAndTurnsAs 10 = .ok (.aload_n 0, 1) := by decide +kernel
theorem dX2_standsAndTurnsAs_11 : decode cX2_standsAndTurnsAs 11 = .ok (.getfield 25, 3) := by decide +kernel
theorem dX2_standsAndTurnsAs_14 : decode cX2_standsAndTurnsAs 14 = .ok (.iload_n 2, 1) := by decide +kernel
theorem dX2_standsAndTurnsAs_15 : decode cX2_standsAndTurnsAs 15 = .ok (.iaload, 1) := by decide +kernel
theorem dX2_standsAndTurnsAs_16 : decode cX2_standsAndTurnsAs 16 = .ok (.aload_n 1, 1) := by decide +kernel
theorem dX2_standsAndTurnsAs_17 : decode cX2_standsAndTurnsAs 17 = .ok (.getfield 25, 3) := by decide +kernel
theorem dX2_standsAndTurnsAs_20 : decode cX2_standsAndTurnsAs 20 = .ok (.iload_n 2, 1) := by decide +kernel
theorem dX2_standsAndTurnsAs_21 : decode cX2_standsAndTurnsAs 21 = .ok (.iaload, 1) := by decide +kernel
theorem dX2_standsAndTurnsAs_22 : decode cX2_standsAndTurnsAs 22 = .ok (.if_icmp .ne 18, 3) := by decide +kernel
theorem dX2_standsAndTurnsAs_25 : decode cX2_standsAndTurnsAs 25 = .ok (.aload_n 0, 1) := by decide +kernel
theorem dX2_standsAndTurnsAs_26 : decode cX2_standsAndTurnsAs 26 = .ok (.getfield 31, 3) := by decide +kernel
theorem dX2_standsAndTurnsAs_29 : decode cX2_standsAndTurnsAs 29 = .ok (.iload_n 2, 1) := by decide +kernel
theorem dX2_standsAndTurnsAs_30 : decode cX2_standsAndTurnsAs 30 = .ok (.iaload, 1) := by decide +kernel
theorem dX2_standsAndTurnsAs_31 : decode cX2_standsAndTurnsAs 31 = .ok (.aload_n 1, 1) := by decide +kernel
theorem dX2_standsAndTurnsAs_32 : decode cX2_standsAndTurnsAs 32 = .ok (.getfield 31, 3) := by decide +kernel
theorem dX2_standsAndTurnsAs_35 : decode cX2_standsAndTurnsAs 35 = .ok (.iload_n 2, 1) := by decide +kernel
theorem dX2_standsAndTurnsAs_36 : decode cX2_standsAndTurnsAs 36 = .ok (.iaload, 1) := by decide +kernel
theorem dX2_standsAndTurnsAs_37 : decode cX2_standsAndTurnsAs 37 = .ok (.if_icmp .eq 5, 3) := by decide +kernel
theorem dX2_standsAndTurnsAs_40 : decode cX2_standsAndTurnsAs 40 = .ok (.iconst 0, 1) := by decide +kernel
theorem dX2_standsAndTurnsAs_41 : decode cX2_standsAndTurnsAs 41 = .ok (.ireturn, 1) := by decide +kernel
theorem dX2_standsAndTurnsAs_42 : decode cX2_standsAndTurnsAs 42 = .ok (.iinc 2 1, 3) := by decide +kernel
theorem dX2_standsAndTurnsAs_45 : decode cX2_standsAndTurnsAs 45 = .ok (.goto (-43), 3) := by decide +kernel
theorem dX2_standsAndTurnsAs_48 : decode cX2_standsAndTurnsAs 48 = .ok (.iconst 1, 1) := by decide +kernel
theorem dX2_standsAndTurnsAs_49 : decode cX2_standsAndTurnsAs 49 = .ok (.ireturn, 1) := by decide +kernel
theorem dX3_init_0 : decode cX3_init 0 = .ok (.aload_n 0, 1) := by decide +kernel
theorem dX3_init_1 : decode cX3_init 1 = .ok (.invokespecial 1, 3) := by decide +kernel
theorem dX3_init_4 : decode cX3_init 4 = .ok (.aload_n 0, 1) := by decide +kernel
theorem dX3_init_5 : decode cX3_init 5 = .ok (.new 7, 3) := by decide +kernel
theorem dX3_init_8 : decode cX3_init 8 = .ok (.dup, 1) := by decide +kernel
theorem dX3_init_9 : decode cX3_init 9 = .ok (.invokespecial 9, 3) := by decide +kernel
theorem dX3_init_12 : decode cX3_init 12 = .ok (.putfield 10, 3) := by decide +kernel
theorem dX3_init_15 : decode cX3_init 15 = .ok (.aload_n 0, 1) := by decide +kernel
theorem dX3_init_16 : decode cX3_init 16 = .ok (.new 7, 3) := by decide +kernel
theorem dX3_init_19 : decode cX3_init 19 = .ok (.dup, 1) := by decide +kernel
theorem dX3_init_20 : decode cX3_init 20 = .ok (.invokespecial 9, 3) := by decide +kernel
theorem dX3_init_23 : decode cX3_init 23 = .ok (.putfield 16, 3) := by decide +kernel
theorem dX3_init_26 : decode cX3_init 26 = .ok (.aload_n 0, 1) := by decide +kernel
theorem dX3_init_27 : decode cX3_init 27 = .ok (.new 7, 3) := by decide +kernel
theorem dX3_init_30 : decode cX3_init 30 = .ok (.dup, 1) := by decide +kernel
theorem dX3_init_31 : decode cX3_init 31 = .ok (.invokespecial 9, 3) := by decide +kernel
theorem dX3_init_34 : decode cX3_init 34 = .ok (.putfield 19, 3) := by decide +kernel
theorem dX3_init_37 : decode cX3_init 37 = .ok (.aload_n 0, 1) := by decide +kernel
theorem dX3_init_38 : decode cX3_init 38 = .ok (.new 22, 3) := by decide +kernel
theorem dX3_init_41 : decode cX3_init 41 = .ok (.dup, 1) := by decide +kernel
theorem dX3_init_42 : decode cX3_init 42 = .ok (.invokespecial 24, 3) := by decide +kernel
theorem dX3_init_45 : decode cX3_init 45 = .ok (.putfield 25, 3) := by decide +kernel
theorem dX3_init_48 : decode cX3_init 48 = .ok (.aload_n 0, 1) := by decide +kernel
theorem dX3_init_49 : decode cX3_init 49 = .ok (.iconst 4, 1) := by decide +kernel
theorem dX3_init_50 : decode cX3_init 50 = .ok (.anewarray 29, 3) := by decide +kernel
theorem dX3_init_53 : decode cX3_init 53 = .ok (.putfield 31, 3) := by decide +kernel
theorem dX3_init_56 : decode cX3_init 56 = .ok (.aload_n 0, 1) := by decide +kernel
theorem dX3_init_57 : decode cX3_init 57 = .ok (.bipush 7, 2) := by decide +kernel
theorem dX3_init_59 : decode cX3_init 59 = .ok (.newarray .int, 2) := by decide +kernel
theorem dX3_init_61 : decode cX3_init 61 = .ok (.putfield 35, 3) := by decide +kernel
theorem dX3_init_64 : decode cX3_init 64 = .ok (.iconst 0, 1) := by decide +kernel
theorem dX3_init_65 : decode cX3_init 65 = .ok (.istore_n 1, 1) := by decide +kernel
theorem dX3_init_66 : decode cX3_init 66 = .ok (.iload_n 1, 1) := by decide +kernel
theorem dX3_init_67 : decode cX3_init 67 = .ok (.iconst 4, 1) := by decide +kernel
theorem dX3_init_68 : decode cX3_init 68 = .ok (.if_icmp .ge 22, 3) := by decide +kernel
theorem dX3_init_71 : decode cX3_init 71 = .ok (.aload_n 0, 1) := by decide +kernel
theorem dX3_init_72 : decode cX3_init 72 = .ok (.getfield 31, 3) := by decide +kernel
theorem dX3_init_75 : decode cX3_init 75 = .ok (.iload_n 1, 1) := by decide +kernel
theorem dX3_init_76 : decode cX3_init 76 = .ok (.new 29, 3) := by decide +kernel
theorem dX3_init_79 : decode cX3_init 79 = .ok (.dup, 1) := by decide +kernel
theorem dX3_init_80 : decode cX3_init 80 = .ok (.invokespecial 39, 3) := by decide +kernel
theorem dX3_init_83 : decode cX3_init 83 = .ok (.aastore, 1) := by decide +kernel
theorem dX3_init_84 : decode cX3_init 84 = .ok (.iinc 1 1, 3) := by decide +kernel
theorem dX3_init_87 : decode cX3_init 87 = .ok (.goto (-21), 3) := by decide +kernel
theorem dX3_init_90 : decode cX3_init 90 = .ok (.return_, 1) := by decide +kernel
theorem dX3_rain_0 : decode cX3_rain 0 = .ok (.iload_n 1, 1) := by decide +kernel
theorem dX3_rain_1 : decode cX3_rain 1 = .ok (.iconst 0, 1) := by decide +kernel
theorem dX3_rain_2 : decode cX3_rain 2 = .ok (.bipush 9, 2) := by decide +kernel
theorem dX3_rain_4 : decode cX3_rain 4 = .ok (.invokestatic 40, 3) := by decide +kernel
theorem dX3_rain_7 : decode cX3_rain 7 = .ok (.ifCond .eq 9, 3) := by decide +kernel
theorem dX3_rain_10 : decode cX3_rain 10 = .ok (.aload_n 0, 1) := by decide +kernel
theorem dX3_rain_11 : decode cX3_rain 11 = .ok (.iconst 0, 1) := by decide +kernel
theorem dX3_rain_12 : decode cX3_rain 12 = .ok (.invokevirtual 44, 3) := by decide +kernel
theorem dX3_rain_15 : decode cX3_rain 15 = .ok (.ireturn, 1) := by decide +kernel
theorem dX3_rain_16 : decode cX3_rain 16 = .ok (.aload_n 0, 1) := by decide +kernel
theorem dX3_rain_17 : decode cX3_rain 17 = .ok (.getfield 10, 3) := by decide +kernel
theorem dX3_rain_20 : decode cX3_rain 20 = .ok (.getfield 48, 3) := by decide +kernel
theorem dX3_rain_23 : decode cX3_rain 23 = .ok (.istore_n 2, 1) := by decide +kernel
theorem dX3_rain_24 : decode cX3_rain 24 = .ok (.aload_n 0, 1) := by decide +kernel
theorem dX3_rain_25 : decode cX3_rain 25 = .ok (.getfield 10, 3) := by decide +kernel
theorem dX3_rain_28 : decode cX3_rain 28 = .ok (.iload_n 1, 1) := by decide +kernel
theorem dX3_rain_29 : decode cX3_rain 29 = .ok (.putfield 48, 3) := by decide +kernel
theorem dX3_rain_32 : decode cX3_rain 32 = .ok (.iload_n 2, 1) := by decide +kernel
theorem dX3_rain_33 : decode cX3_rain 33 = .ok (.ireturn, 1) := by decide +kernel
theorem dX3_hill_0 : decode cX3_hill 0 = .ok (.iload_n 1, 1) := by decide +kernel
theorem dX3_hill_1 : decode cX3_hill 1 = .ok (.iconst 0, 1) := by decide +kernel
theorem dX3_hill_2 : decode cX3_hill 2 = .ok (.bipush 6, 2) := by decide +kernel
theorem dX3_hill_4 : decode cX3_hill 4 = .ok (.invokestatic 40, 3) := by decide +kernel
theorem dX3_hill_7 : decode cX3_hill 7 = .ok (.ifCond .ne 10, 3) := by decide +kernel
theorem dX3_hill_10 : decode cX3_hill 10 = .ok (.iload_n 2, 1) := by decide +kernel
theorem dX3_hill_11 : decode cX3_hill 11 = .ok (.invokestatic 52, 3) := by decide +kernel
theorem dX3_hill_14 : decode cX3_hill 14 = .ok (.ifCond .eq 9, 3) := by decide +kernel
theorem dX3_hill_17 : decode cX3_hill 17 = .ok (.aload_n 0, 1) := by decide +kernel
theorem dX3_hill_18 : decode cX3_hill 18 = .ok (.iconst 0, 1) := by decide +kernel
theorem dX3_hill_19 : decode cX3_hill 19 = .ok (.invokevirtual 44, 3) := by decide +kernel
theorem dX3_hill_22 : decode cX3_hill 22 = .ok (.ireturn, 1) := by decide +kernel
theorem dX3_hill_23 : decode cX3_hill 23 = .ok (.aload_n 0, 1) := by decide +kernel
theorem dX3_hill_24 : decode cX3_hill 24 = .ok (.getfield 10, 3) := by decide +kernel
theorem dX3_hill_27 : decode cX3_hill 27 = .ok (.invokevirtual 56, 3) := by decide +kernel
theorem dX3_hill_30 : decode cX3_hill 30 = .ok (.ifCond .eq 9, 3) := by decide +kernel
theorem dX3_hill_33 : decode cX3_hill 33 = .ok (.aload_n 0, 1) := by decide +kernel
theorem dX3_hill_34 : decode cX3_hill 34 = .ok (.iconst 1, 1) := by decide +kernel
theorem dX3_hill_35 : decode cX3_hill 35 = .ok (.invokevirtual 44, 3) := by decide +kernel
theorem dX3_hill_38 : decode cX3_hill 38 = .ok (.ireturn, 1) := by decide +kernel
theorem dX3_hill_39 : decode cX3_hill 39 = .ok (.aload_n 0, 1) := by decide +kernel
theorem dX3_hill_40 : decode cX3_hill 40 = .ok (.getfield 10, 3) := by decide +kernel
theorem dX3_hill_43 : decode cX3_hill 43 = .ok (.iload_n 1, 1) := by decide +kernel
theorem dX3_hill_44 : decode cX3_hill 44 = .ok (.iload_n 2, 1) := by decide +kernel
theorem dX3_hill_45 : decode cX3_hill 45 = .ok (.invokevirtual 60, 3) := by decide +kernel
theorem dX3_hill_48 : decode cX3_hill 48 = .ok (.ireturn, 1) := by decide +kernel
theorem dX3_of_0 : decode cX3_of 0 = .ok (.aload_n 0, 1) := by decide +kernel
theorem dX3_of_1 : decode cX3_of 1 = .ok (.getfield 10, 3) := by decide +kernel
theorem dX3_of_4 : decode cX3_of 4 = .ok (.iload_n 1, 1) := by decide +kernel
theorem dX3_of_5 : decode cX3_of 5 = .ok (.invokevirtual 64, 3) := by decide +kernel
theorem dX3_of_8 : decode cX3_of 8 = .ok (.ifCond .ne 13, 3) := by decide +kernel
theorem dX3_of_11 : decode cX3_of 11 = .ok (.iload_n 2, 1) := by decide +kernel
theorem dX3_of_12 : decode cX3_of 12 = .ok (.iconst 0, 1) := by decide +kernel
theorem dX3_of_13 : decode cX3_of 13 = .ok (.bipush 10, 2) := by decide +kernel
theorem dX3_of_15 : decode cX3_of 15 = .ok (.invokestatic 40, 3) := by decide +kernel
theorem dX3_of_18 : decode cX3_of 18 = .ok (.ifCond .eq 9, 3) := by decide +kernel
theorem dX3_of_21 : decode cX3_of 21 = .ok (.aload_n 0, 1) := by decide +kernel
theorem dX3_of_22 : decode cX3_of 22 = .ok (.iconst 0, 1) := by decide +kernel
theorem dX3_of_23 : decode cX3_of 23 = .ok (.invokevirtual 44, 3) := by decide +kernel
theorem dX3_of_26 : decode cX3_of 26 = .ok (.ireturn, 1) := by decide +kernel
theorem dX3_of_27 : decode cX3_of 27 = .ok (.iload_n 2, 1) := by decide +kernel
theorem dX3_of_28 : decode cX3_of 28 = .ok (.tableswitch 68 7 10 #[32, 41, 50, 59], 32) := by decide +kernel
theorem dX3_of_60 : decode cX3_of 60 = .ok (.aload_n 0, 1) := by decide +kernel
theorem dX3_of_61 : decode cX3_of 61 = .ok (.getfield 10, 3) := by decide +kernel
theorem dX3_of_64 : decode cX3_of 64 = .ok (.iload_n 1, 1) := by decide +kernel
theorem dX3_of_65 : decode cX3_of 65 = .ok (.invokevirtual 67, 3) := by decide +kernel
theorem dX3_of_68 : decode cX3_of 68 = .ok (.ireturn, 1) := by decide +kernel
theorem dX3_of_69 : decode cX3_of 69 = .ok (.aload_n 0, 1) := by decide +kernel
theorem dX3_of_70 : decode cX3_of 70 = .ok (.getfield 10, 3) := by decide +kernel
theorem dX3_of_73 : decode cX3_of 73 = .ok (.iload_n 1, 1) := by decide +kernel
theorem dX3_of_74 : decode cX3_of 74 = .ok (.invokevirtual 70, 3) := by decide +kernel
theorem dX3_of_77 : decode cX3_of 77 = .ok (.ireturn, 1) := by decide +kernel
theorem dX3_of_78 : decode cX3_of 78 = .ok (.aload_n 0, 1) := by decide +kernel
theorem dX3_of_79 : decode cX3_of 79 = .ok (.getfield 10, 3) := by decide +kernel
theorem dX3_of_82 : decode cX3_of 82 = .ok (.iload_n 1, 1) := by decide +kernel
theorem dX3_of_83 : decode cX3_of 83 = .ok (.invokevirtual 73, 3) := by decide +kernel
theorem dX3_of_86 : decode cX3_of 86 = .ok (.ireturn, 1) := by decide +kernel
theorem dX3_of_87 : decode cX3_of 87 = .ok (.aload_n 0, 1) := by decide +kernel
theorem dX3_of_88 : decode cX3_of 88 = .ok (.getfield 10, 3) := by decide +kernel
theorem dX3_of_91 : decode cX3_of 91 = .ok (.iload_n 1, 1) := by decide +kernel
theorem dX3_of_92 : decode cX3_of 92 = .ok (.invokevirtual 76, 3) := by decide +kernel
theorem dX3_of_95 : decode cX3_of 95 = .ok (.ireturn, 1) := by decide +kernel
theorem dX3_of_96 : decode cX3_of 96 = .ok (.aload_n 0, 1) := by decide +kernel
theorem dX3_of_97 : decode cX3_of 97 = .ok (.getfield 10, 3) := by decide +kernel
theorem dX3_of_100 : decode cX3_of 100 = .ok (.iload_n 1, 1) := by decide +kernel
theorem dX3_of_101 : decode cX3_of 101 = .ok (.iload_n 2, 1) := by decide +kernel
theorem dX3_of_102 : decode cX3_of 102 = .ok (.invokevirtual 79, 3) := by decide +kernel
theorem dX3_of_105 : decode cX3_of 105 = .ok (.ireturn, 1) := by decide +kernel
theorem dX3_change_0 : decode cX3_change 0 = .ok (.aload_n 0, 1) := by decide +kernel
theorem dX3_change_1 : decode cX3_change 1 = .ok (.getfield 10, 3) := by decide +kernel
theorem dX3_change_4 : decode cX3_change 4 = .ok (.iload_n 1, 1) := by decide +kernel
theorem dX3_change_5 : decode cX3_change 5 = .ok (.invokevirtual 64, 3) := by decide +kernel
theorem dX3_change_8 : decode cX3_change 8 = .ok (.ifCond .ne 27, 3) := by decide +kernel
theorem dX3_change_11 : decode cX3_change 11 = .ok (.iload_n 2, 1) := by decide +kernel
theorem dX3_change_12 : decode cX3_change 12 = .ok (.iconst 0, 1) := by decide +kernel
theorem dX3_change_13 : decode cX3_change 13 = .ok (.iconst 5, 1) := by decide +kernel
theorem dX3_change_14 : decode cX3_change 14 = .ok (.invokestatic 40, 3) := by decide +kernel
theorem dX3_change_17 : decode cX3_change 17 = .ok (.ifCond .ne 18, 3) := by decide +kernel
theorem dX3_change_20 : decode cX3_change 20 = .ok (.iload_n 3, 1) := by decide +kernel
theorem dX3_change_21 : decode cX3_change 21 = .ok (.iload_n 2, 1) := by decide +kernel
theorem dX3_change_22 : decode cX3_change 22 = .ok (.invokestatic 82, 3) := by decide +kernel
theorem dX3_change_25 : decode cX3_change 25 = .ok (.iload_n 2, 1) := by decide +kernel
theorem dX3_change_26 : decode cX3_change 26 = .ok (.invokestatic 85, 3) := by decide +kernel
theorem dX3_change_29 : decode cX3_change 29 = .ok (.invokestatic 40, 3) := by decide +kernel
theorem dX3_change_32 : decode cX3_change 32 = .ok (.ifCond .eq 9, 3) := by decide +kernel
theorem dX3_change_35 : decode cX3_change 35 = .ok (.aload_n 0, 1) := by decide +kernel
theorem dX3_change_36 : decode cX3_change 36 = .ok (.iconst 0, 1) := by decide +kernel
theorem dX3_change_37 : decode cX3_change 37 = .ok (.invokevirtual 44, 3) := by decide +kernel
theorem dX3_change_40 : decode cX3_change 40 = .ok (.ireturn, 1) := by decide +kernel
theorem dX3_change_41 : decode cX3_change 41 = .ok (.aload_n 0, 1) := by decide +kernel
theorem dX3_change_42 : decode cX3_change 42 = .ok (.getfield 10, 3) := by decide +kernel
theorem dX3_change_45 : decode cX3_change 45 = .ok (.iload_n 1, 1) := by decide +kernel
theorem dX3_change_46 : decode cX3_change 46 = .ok (.iload_n 2, 1) := by decide +kernel
theorem dX3_change_47 : decode cX3_change 47 = .ok (.invokevirtual 79, 3) := by decide +kernel
theorem dX3_change_50 : decode cX3_change 50 = .ok (.istore 4, 2) := by decide +kernel
theorem dX3_change_52 : decode cX3_change 52 = .ok (.aload_n 0, 1) := by decide +kernel
theorem dX3_change_53 : decode cX3_change 53 = .ok (.getfield 10, 3) := by decide +kernel
theorem dX3_change_56 : decode cX3_change 56 = .ok (.iload_n 1, 1) := by decide +kernel
theorem dX3_change_57 : decode cX3_change 57 = .ok (.iload_n 2, 1) := by decide +kernel
theorem dX3_change_58 : decode cX3_change 58 = .ok (.iload_n 3, 1) := by decide +kernel
theorem dX3_change_59 : decode cX3_change 59 = .ok (.invokevirtual 88, 3) := by decide +kernel
theorem dX3_change_62 : decode cX3_change 62 = .ok (.iload 4, 2) := by decide +kernel
theorem dX3_change_64 : decode cX3_change 64 = .ok (.ireturn, 1) := by decide +kernel
theorem dX3_valley_0 : decode cX3_valley 0 = .ok (.iload_n 1, 1) := by decide +kernel
theorem dX3_valley_1 : decode cX3_valley 1 = .ok (.invokestatic 52, 3) := by decide +kernel
theorem dX3_valley_4 : decode cX3_valley 4 = .ok (.ifCond .ne 12, 3) := by decide +kernel
theorem dX3_valley_7 : decode cX3_valley 7 = .ok (.iload_n 2, 1) := by decide +kernel
theorem dX3_valley_8 : decode cX3_valley 8 = .ok (.iconst 0, 1) := by decide +kernel
theorem dX3_valley_9 : decode cX3_valley 9 = .ok (.iconst 2, 1) := by decide +kernel
theorem dX3_valley_10 : decode cX3_valley 10 = .ok (.invokestatic 40, 3) := by decide +kernel
theorem dX3_valley_13 : decode cX3_valley 13 = .ok (.ifCond .eq 9, 3) := by decide +kernel
theorem dX3_valley_16 : decode cX3_valley 16 = .ok (.aload_n 0, 1) := by decide +kernel
theorem dX3_valley_17 : decode cX3_valley 17 = .ok (.iconst 0, 1) := by decide +kernel
theorem dX3_valley_18 : decode cX3_valley 18 = .ok (.invokevirtual 44, 3) := by decide +kernel
theorem dX3_valley_21 : decode cX3_valley 21 = .ok (.ireturn, 1) := by decide +kernel
theorem dX3_valley_22 : decode cX3_valley 22 = .ok (.iload_n 2, 1) := by decide +kernel
theorem dX3_valley_23 : decode cX3_valley 23 = .ok (.ifCond .ne 12, 3) := by decide +kernel
theorem dX3_valley_26 : decode cX3_valley 26 = .ok (.aload_n 0, 1) := by decide +kernel
theorem dX3_valley_27 : decode cX3_valley 27 = .ok (.getfield 10, 3) := by decide +kernel
theorem dX3_valley_30 : decode cX3_valley 30 = .ok (.iload_n 1, 1) := by decide +kernel
theorem dX3_valley_31 : decode cX3_valley 31 = .ok (.invokevirtual 92, 3) := by decide +kernel
theorem dX3_valley_34 : decode cX3_valley 34 = .ok (.ireturn, 1) := by decide +kernel
theorem dX3_valley_35 : decode cX3_valley 35 = .ok (.iload_n 2, 1) := by decide +kernel
theorem dX3_valley_36 : decode cX3_valley 36 = .ok (.iconst 1, 1) := by decide +kernel
theorem dX3_valley_37 : decode cX3_valley 37 = .ok (.if_icmp .ne 12, 3) := by decide +kernel
theorem dX3_valley_40 : decode cX3_valley 40 = .ok (.aload_n 0, 1) := by decide +kernel
theorem dX3_valley_41 : decode cX3_valley 41 = .ok (.getfield 10, 3) := by decide +kernel
theorem dX3_valley_44 : decode cX3_valley 44 = .ok (.iload_n 1, 1) := by decide +kernel
theorem dX3_valley_45 : decode cX3_valley 45 = .ok (.invokevirtual 95, 3) := by decide +kernel
theorem dX3_valley_48 : decode cX3_valley 48 = .ok (.ireturn, 1) := by decide +kernel
theorem dX3_valley_49 : decode cX3_valley 49 = .ok (.aload_n 0, 1) := by decide +kernel
theorem dX3_valley_50 : decode cX3_valley 50 = .ok (.getfield 10, 3) := by decide +kernel
theorem dX3_valley_53 : decode cX3_valley 53 = .ok (.iload_n 1, 1) := by decide +kernel
theorem dX3_valley_54 : decode cX3_valley 54 = .ok (.invokevirtual 98, 3) := by decide +kernel
theorem dX3_valley_57 : decode cX3_valley 57 = .ok (.ireturn, 1) := by decide +kernel
theorem dX3_go_0 : decode cX3_go 0 = .ok (.iload_n 1, 1) := by decide +kernel
theorem dX3_go_1 : decode cX3_go 1 = .ok (.iconst 1, 1) := by decide +kernel
theorem dX3_go_2 : decode cX3_go 2 = .ok (.bipush 60, 2) := by decide +kernel
theorem dX3_go_4 : decode cX3_go 4 = .ok (.invokestatic 40, 3) := by decide +kernel
theorem dX3_go_7 : decode cX3_go 7 = .ok (.ifCond .eq 9, 3) := by decide +kernel
theorem dX3_go_10 : decode cX3_go 10 = .ok (.aload_n 0, 1) := by decide +kernel
theorem dX3_go_11 : decode cX3_go 11 = .ok (.iconst 0, 1) := by decide +kernel
theorem dX3_go_12 : decode cX3_go 12 = .ok (.invokevirtual 44, 3) := by decide +kernel
theorem dX3_go_15 : decode cX3_go 15 = .ok (.ireturn, 1) := by decide +kernel
theorem dX3_go_16 : decode cX3_go 16 = .ok (.aload_n 0, 1) := by decide +kernel
theorem dX3_go_17 : decode cX3_go 17 = .ok (.getfield 10, 3) := by decide +kernel
theorem dX3_go_20 : decode cX3_go 20 = .ok (.getfield 101, 3) := by decide +kernel
theorem dX3_go_23 : decode cX3_go 23 = .ok (.ldc 104, 2) := by decide +kernel
theorem dX3_go_25 : decode cX3_go 25 = .ok (.iload_n 1, 1) := by decide +kernel
theorem dX3_go_26 : decode cX3_go 26 = .ok (.isub, 1) := by decide +kernel
theorem dX3_go_27 : decode cX3_go 27 = .ok (.if_icmp .le 9, 3) := by decide +kernel
theorem dX3_go_30 : decode cX3_go 30 = .ok (.aload_n 0, 1) := by decide +kernel
theorem dX3_go_31 : decode cX3_go 31 = .ok (.iconst 4, 1) := by decide +kernel
theorem dX3_go_32 : decode cX3_go 32 = .ok (.invokevirtual 44, 3) := by decide +kernel
theorem dX3_go_35 : decode cX3_go 35 = .ok (.ireturn, 1) := by decide +kernel
theorem dX3_go_36 : decode cX3_go 36 = .ok (.aload_n 0, 1) := by decide +kernel
theorem dX3_go_37 : decode cX3_go 37 = .ok (.getfield 10, 3) := by decide +kernel
theorem dX3_go_40 : decode cX3_go 40 = .ok (.iload_n 1, 1) := by decide +kernel
theorem dX3_go_41 : decode cX3_go 41 = .ok (.invokevirtual 105, 3) := by decide +kernel
theorem dX3_go_44 : decode cX3_go 44 = .ok (.aload_n 0, 1) := by decide +kernel
theorem dX3_go_45 : decode cX3_go 45 = .ok (.getfield 10, 3) := by decide +kernel
theorem dX3_go_48 : decode cX3_go 48 = .ok (.invokevirtual 109, 3) := by decide +kernel
theorem dX3_go_51 : decode cX3_go 51 = .ok (.invokestatic 113, 3) := by decide +kernel
theorem dX3_go_54 : decode cX3_go 54 = .ok (.ireturn, 1) := by decide +kernel
theorem dX3_now_0 : decode cX3_now 0 = .ok (.iload_n 1, 1) := by decide +kernel
theorem dX3_now_1 : decode cX3_now 1 = .ok (.tableswitch 87 0 5 #[39, 47, 55, 63, 71, 79], 39) := by decide +kernel
theorem dX3_now_40 : decode cX3_now 40 = .ok (.aload_n 0, 1) := by decide +kernel
theorem dX3_now_41 : decode cX3_now 41 = .ok (.getfield 10, 3) := by decide +kernel
theorem dX3_now_44 : decode cX3_now 44 = .ok (.getfield 101, 3) := by decide +kernel
theorem dX3_now_47 : decode cX3_now 47 = .ok (.ireturn, 1) := by decide +kernel
theorem dX3_now_48 : decode cX3_now 48 = .ok (.aload_n 0, 1) := by decide +kernel
theorem dX3_now_49 : decode cX3_now 49 = .ok (.getfield 10, 3) := by decide +kernel
theorem dX3_now_52 : decode cX3_now 52 = .ok (.invokevirtual 118, 3) := by decide +kernel
theorem dX3_now_55 : decode cX3_now 55 = .ok (.ireturn, 1) := by decide +kernel
theorem dX3_now_56 : decode cX3_now 56 = .ok (.aload_n 0, 1) := by decide +kernel
theorem dX3_now_57 : decode cX3_now 57 = .ok (.getfield 10, 3) := by decide +kernel
theorem dX3_now_60 : decode cX3_now 60 = .ok (.invokevirtual 109, 3) := by decide +kernel
theorem dX3_now_63 : decode cX3_now 63 = .ok (.ireturn, 1) := by decide +kernel
theorem dX3_now_64 : decode cX3_now 64 = .ok (.aload_n 0, 1) := by decide +kernel
theorem dX3_now_65 : decode cX3_now 65 = .ok (.getfield 10, 3) := by decide +kernel
theorem dX3_now_68 : decode cX3_now 68 = .ok (.invokevirtual 121, 3) := by decide +kernel
theorem dX3_now_71 : decode cX3_now 71 = .ok (.ireturn, 1) := by decide +kernel
theorem dX3_now_72 : decode cX3_now 72 = .ok (.aload_n 0, 1) := by decide +kernel
theorem dX3_now_73 : decode cX3_now 73 = .ok (.getfield 10, 3) := by decide +kernel
theorem dX3_now_76 : decode cX3_now 76 = .ok (.invokevirtual 124, 3) := by decide +kernel
theorem dX3_now_79 : decode cX3_now 79 = .ok (.ireturn, 1) := by decide +kernel
theorem dX3_now_80 : decode cX3_now 80 = .ok (.aload_n 0, 1) := by decide +kernel
theorem dX3_now_81 : decode cX3_now 81 = .ok (.getfield 10, 3) := by decide +kernel
theorem dX3_now_84 : decode cX3_now 84 = .ok (.invokevirtual 127, 3) := by decide +kernel
theorem dX3_now_87 : decode cX3_now 87 = .ok (.ireturn, 1) := by decide +kernel
theorem dX3_now_88 : decode cX3_now 88 = .ok (.aload_n 0, 1) := by decide +kernel
theorem dX3_now_89 : decode cX3_now 89 = .ok (.iconst 0, 1) := by decide +kernel
theorem dX3_now_90 : decode cX3_now 90 = .ok (.invokevirtual 44, 3) := by decide +kernel
theorem dX3_now_93 : decode cX3_now 93 = .ok (.ireturn, 1) := by decide +kernel
theorem dX3_ahead_0 : decode cX3_ahead 0 = .ok (.aload_n 0, 1) := by decide +kernel
theorem dX3_ahead_1 : decode cX3_ahead 1 = .ok (.getfield 10, 3) := by decide +kernel
theorem dX3_ahead_4 : decode cX3_ahead 4 = .ok (.iload_n 1, 1) := by decide +kernel
theorem dX3_ahead_5 : decode cX3_ahead 5 = .ok (.invokevirtual 64, 3) := by decide +kernel
theorem dX3_ahead_8 : decode cX3_ahead 8 = .ok (.ifCond .ne 20, 3) := by decide +kernel
theorem dX3_ahead_11 : decode cX3_ahead 11 = .ok (.iload_n 2, 1) := by decide +kernel
theorem dX3_ahead_12 : decode cX3_ahead 12 = .ok (.invokestatic 130, 3) := by decide +kernel
theorem dX3_ahead_15 : decode cX3_ahead 15 = .ok (.ifCond .eq 13, 3) := by decide +kernel
theorem dX3_ahead_18 : decode cX3_ahead 18 = .ok (.iload_n 3, 1) := by decide +kernel
theorem dX3_ahead_19 : decode cX3_ahead 19 = .ok (.iconst 0, 1) := by decide +kernel
theorem dX3_ahead_20 : decode cX3_ahead 20 = .ok (.bipush 100, 2) := by decide +kernel
theorem dX3_ahead_22 : decode cX3_ahead 22 = .ok (.invokestatic 40, 3) := by decide +kernel
theorem dX3_ahead_25 : decode cX3_ahead 25 = .ok (.ifCond .eq 9, 3) := by decide +kernel
theorem dX3_ahead_28 : decode cX3_ahead 28 = .ok (.aload_n 0, 1) := by decide +kernel
theorem dX3_ahead_29 : decode cX3_ahead 29 = .ok (.iconst 0, 1) := by decide +kernel
theorem dX3_ahead_30 : decode cX3_ahead 30 = .ok (.invokevirtual 44, 3) := by decide +kernel
theorem dX3_ahead_33 : decode cX3_ahead 33 = .ok (.ireturn, 1) := by decide +kernel
theorem dX3_ahead_34 : decode cX3_ahead 34 = .ok (.aload_n 0, 1) := by decide +kernel
theorem dX3_ahead_35 : decode cX3_ahead 35 = .ok (.getfield 16, 3) := by decide +kernel
theorem dX3_ahead_38 : decode cX3_ahead 38 = .ok (.aload_n 0, 1) := by decide +kernel
theorem dX3_ahead_39 : decode cX3_ahead 39 = .ok (.getfield 10, 3) := by decide +kernel
theorem dX3_ahead_42 : decode cX3_ahead 42 = .ok (.invokevirtual 133, 3) := by decide +kernel
theorem dX3_ahead_45 : decode cX3_ahead 45 = .ok (.aload_n 0, 1) := by decide +kernel
theorem dX3_ahead_46 : decode cX3_ahead 46 = .ok (.getfield 16, 3) := by decide +kernel
theorem dX3_ahead_49 : decode cX3_ahead 49 = .ok (.iload_n 3, 1) := by decide +kernel
theorem dX3_ahead_50 : decode cX3_ahead 50 = .ok (.invokevirtual 105, 3) := by decide +kernel
theorem dX3_ahead_53 : decode cX3_ahead 53 = .ok (.aload_n 0, 1) := by decide +kernel
theorem dX3_ahead_54 : decode cX3_ahead 54 = .ok (.getfield 16, 3) := by decide +kernel
theorem dX3_ahead_57 : decode cX3_ahead 57 = .ok (.iload_n 1, 1) := by decide +kernel
theorem dX3_ahead_58 : decode cX3_ahead 58 = .ok (.iload_n 2, 1) := by decide +kernel
theorem dX3_ahead_59 : decode cX3_ahead 59 = .ok (.invokevirtual 79, 3) := by decide +kernel
theorem dX3_ahead_62 : decode cX3_ahead 62 = .ok (.ireturn, 1) := by decide +kernel
theorem dX3_when_0 : decode cX3_when 0 = .ok (.aload_n 0, 1) := by decide +kernel
theorem dX3_when_1 : decode cX3_when 1 = .ok (.getfield 10, 3) := by decide +kernel
theorem dX3_when_4 : decode cX3_when 4 = .ok (.iload_n 1, 1) := by decide +kernel
theorem dX3_when_5 : decode cX3_when 5 = .ok (.invokevirtual 64, 3) := by decide +kernel
theorem dX3_when_8 : decode cX3_when 8 = .ok (.ifCond .ne 10, 3) := by decide +kernel
theorem dX3_when_11 : decode cX3_when 11 = .ok (.iload_n 2, 1) := by decide +kernel
theorem dX3_when_12 : decode cX3_when 12 = .ok (.invokestatic 52, 3) := by decide +kernel
theorem dX3_when_15 : decode cX3_when 15 = .ok (.ifCond .eq 9, 3) := by decide +kernel
theorem dX3_when_18 : decode cX3_when 18 = .ok (.aload_n 0, 1) := by decide +kernel
theorem dX3_when_19 : decode cX3_when 19 = .ok (.iconst 0, 1) := by decide +kernel
theorem dX3_when_20 : decode cX3_when 20 = .ok (.invokevirtual 44, 3) := by decide +kernel
theorem dX3_when_23 : decode cX3_when 23 = .ok (.ireturn, 1) := by decide +kernel
theorem dX3_when_24 : decode cX3_when 24 = .ok (.aload_n 0, 1) := by decide +kernel
theorem dX3_when_25 : decode cX3_when 25 = .ok (.getfield 16, 3) := by decide +kernel
theorem dX3_when_28 : decode cX3_when 28 = .ok (.aload_n 0, 1) := by decide +kernel
theorem dX3_when_29 : decode cX3_when 29 = .ok (.getfield 10, 3) := by decide +kernel
theorem dX3_when_32 : decode cX3_when 32 = .ok (.invokevirtual 133, 3) := by decide +kernel
theorem dX3_when_35 : decode cX3_when 35 = .ok (.iconst 0, 1) := by decide +kernel
theorem dX3_when_36 : decode cX3_when 36 = .ok (.istore_n 3, 1) := by decide +kernel
theorem dX3_when_37 : decode cX3_when 37 = .ok (.iload_n 3, 1) := by decide +kernel
theorem dX3_when_38 : decode cX3_when 38 = .ok (.sipush 200, 3) := by decide +kernel
theorem dX3_when_41 : decode cX3_when 41 = .ok (.if_icmp .gt 30, 3) := by decide +kernel
theorem dX3_when_44 : decode cX3_when 44 = .ok (.aload_n 0, 1) := by decide +kernel
theorem dX3_when_45 : decode cX3_when 45 = .ok (.getfield 16, 3) := by decide +kernel
theorem dX3_when_48 : decode cX3_when 48 = .ok (.iload_n 1, 1) := by decide +kernel
theorem dX3_when_49 : decode cX3_when 49 = .ok (.invokevirtual 137, 3) := by decide +kernel
theorem dX3_when_52 : decode cX3_when 52 = .ok (.iload_n 2, 1) := by decide +kernel
theorem dX3_when_53 : decode cX3_when 53 = .ok (.if_icmp .ne 5, 3) := by decide +kernel
theorem dX3_when_56 : decode cX3_when 56 = .ok (.iload_n 3, 1) := by decide +kernel
theorem dX3_when_57 : decode cX3_when 57 = .ok (.ireturn, 1) := by decide +kernel
theorem dX3_when_58 : decode cX3_when 58 = .ok (.aload_n 0, 1) := by decide +kernel
theorem dX3_when_59 : decode cX3_when 59 = .ok (.getfield 16, 3) := by decide +kernel
theorem dX3_when_62 : decode cX3_when 62 = .ok (.invokevirtual 140, 3) := by decide +kernel
theorem dX3_when_65 : decode cX3_when 65 = .ok (.iinc 3 1, 3) := by decide +kernel
theorem dX3_when_68 : decode cX3_when 68 = .ok (.goto (-31), 3) := by decide +kernel
theorem dX3_when_71 : decode cX3_when 71 = .ok (.aload_n 0, 1) := by decide +kernel
theorem dX3_when_72 : decode cX3_when 72 = .ok (.iconst 3, 1) := by decide +kernel
theorem dX3_when_73 : decode cX3_when 73 = .ok (.invokevirtual 44, 3) := by decide +kernel
theorem dX3_when_76 : decode cX3_when 76 = .ok (.ireturn, 1) := by decide +kernel
theorem dX3_meet_0 : decode cX3_meet 0 = .ok (.aload_n 0, 1) := by decide +kernel
theorem dX3_meet_1 : decode cX3_meet 1 = .ok (.iload_n 1, 1) := by decide +kernel
theorem dX3_meet_2 : decode cX3_meet 2 = .ok (.iload_n 2, 1) := by decide +kernel
theorem dX3_meet_3 : decode cX3_meet 3 = .ok (.invokevirtual 143, 3) := by decide +kernel
theorem dX3_meet_6 : decode cX3_meet 6 = .ok (.ifCond .eq 9, 3) := by decide +kernel
theorem dX3_meet_9 : decode cX3_meet 9 = .ok (.aload_n 0, 1) := by decide +kernel
theorem dX3_meet_10 : decode cX3_meet 10 = .ok (.iconst 0, 1) := by decide +kernel
theorem dX3_meet_11 : decode cX3_meet 11 = .ok (.invokevirtual 44, 3) := by decide +kernel
theorem dX3_meet_14 : decode cX3_meet 14 = .ok (.ireturn, 1) := by decide +kernel
theorem dX3_meet_15 : decode cX3_meet 15 = .ok (.aload_n 0, 1) := by decide +kernel
theorem dX3_meet_16 : decode cX3_meet 16 = .ok (.getfield 16, 3) := by decide +kernel
theorem dX3_meet_19 : decode cX3_meet 19 = .ok (.aload_n 0, 1) := by decide +kernel
theorem dX3_meet_20 : decode cX3_meet 20 = .ok (.getfield 10, 3) := by decide +kernel
theorem dX3_meet_23 : decode cX3_meet 23 = .ok (.invokevirtual 133, 3) := by decide +kernel
theorem dX3_meet_26 : decode cX3_meet 26 = .ok (.aload_n 0, 1) := by decide +kernel
theorem dX3_meet_27 : decode cX3_meet 27 = .ok (.iload_n 1, 1) := by decide +kernel
theorem dX3_meet_28 : decode cX3_meet 28 = .ok (.iload_n 2, 1) := by decide +kernel
theorem dX3_meet_29 : decode cX3_meet 29 = .ok (.sipush 200, 3) := by decide +kernel
theorem dX3_meet_32 : decode cX3_meet 32 = .ok (.invokevirtual 147, 3) := by decide +kernel
theorem dX3_meet_35 : decode cX3_meet 35 = .ok (.istore_n 3, 1) := by decide +kernel
theorem dX3_meet_36 : decode cX3_meet 36 = .ok (.iload_n 3, 1) := by decide +kernel
theorem dX3_meet_37 : decode cX3_meet 37 = .ok (.ifCond .ge 11, 3) := by decide +kernel
theorem dX3_meet_40 : decode cX3_meet 40 = .ok (.aload_n 0, 1) := by decide +kernel
theorem dX3_meet_41 : decode cX3_meet 41 = .ok (.iconst 3, 1) := by decide +kernel
theorem dX3_meet_42 : decode cX3_meet 42 = .ok (.invokevirtual 44, 3) := by decide +kernel
theorem dX3_meet_45 : decode cX3_meet 45 = .ok (.goto 4, 3) := by decide +kernel
theorem dX3_meet_48 : decode cX3_meet 48 = .ok (.iload_n 3, 1) := by decide +kernel
theorem dX3_meet_49 : decode cX3_meet 49 = .ok (.ireturn, 1) := by decide +kernel
theorem dX3_round_0 : decode cX3_round 0 = .ok (.aload_n 0, 1) := by decide +kernel
theorem dX3_round_1 : decode cX3_round 1 = .ok (.getfield 16, 3) := by decide +kernel
theorem dX3_round_4 : decode cX3_round 4 = .ok (.aload_n 0, 1) := by decide +kernel
theorem dX3_round_5 : decode cX3_round 5 = .ok (.getfield 10, 3) := by decide +kernel
theorem dX3_round_8 : decode cX3_round 8 = .ok (.invokevirtual 133, 3) := by decide +kernel
theorem dX3_round_11 : decode cX3_round 11 = .ok (.iconst 1, 1) := by decide +kernel
theorem dX3_round_12 : decode cX3_round 12 = .ok (.istore_n 1, 1) := by decide +kernel
theorem dX3_round_13 : decode cX3_round 13 = .ok (.iload_n 1, 1) := by decide +kernel
theorem dX3_round_14 : decode cX3_round 14 = .ok (.sipush 300, 3) := by decide +kernel
theorem dX3_round_17 : decode cX3_round 17 = .ok (.if_icmp .gt 32, 3) := by decide +kernel
theorem dX3_round_20 : decode cX3_round 20 = .ok (.aload_n 0, 1) := by decide +kernel
theorem dX3_round_21 : decode cX3_round 21 = .ok (.getfield 16, 3) := by decide +kernel
theorem dX3_round_24 : decode cX3_round 24 = .ok (.invokevirtual 140, 3) := by decide +kernel
theorem dX3_round_27 : decode cX3_round 27 = .ok (.aload_n 0, 1) := by decide +kernel
theorem dX3_round_28 : decode cX3_round 28 = .ok (.getfield 16, 3) := by decide +kernel
theorem dX3_round_31 : decode cX3_round 31 = .ok (.aload_n 0, 1) := by decide +kernel
theorem dX3_round_32 : decode cX3_round 32 = .ok (.getfield 10, 3) := by decide +kernel
theorem dX3_round_35 : decode cX3_round 35 = .ok (.invokevirtual 151, 3) := by decide +kernel
theorem dX3_round_38 : decode cX3_round 38 = .ok (.ifCond .eq 5, 3) := by decide +kernel
theorem dX3_round_41 : decode cX3_round 41 = .ok (.iload_n 1, 1) := by decide +kernel
theorem dX3_round_42 : decode cX3_round 42 = .ok (.ireturn, 1) := by decide +kernel
theorem dX3_round_43 : decode cX3_round 43 = .ok (.iinc 1 1, 3) := by decide +kernel
theorem dX3_round_46 : decode cX3_round 46 = .ok (.goto (-33), 3) := by decide +kernel
theorem dX3_round_49 : decode cX3_round 49 = .ok (.aload_n 0, 1) := by decide +kernel
theorem dX3_round_50 : decode cX3_round 50 = .ok (.iconst 3, 1) := by decide +kernel
theorem dX3_round_51 : decode cX3_round 51 = .ok (.invokevirtual 44, 3) := by decide +kernel
theorem dX3_round_54 : decode cX3_round 54 = .ok (.ireturn, 1) := by decide +kernel
theorem dX3_skylines_0 : decode cX3_skylines 0 = .ok (.iload_n 1, 1) := by decide +kernel
theorem dX3_skylines_1 : decode cX3_skylines 1 = .ok (.invokestatic 52, 3) := by decide +kernel
theorem dX3_skylines_4 : decode cX3_skylines 4 = .ok (.ifCond .ne 14, 3) := by decide +kernel
theorem dX3_skylines_7 : decode cX3_skylines 7 = .ok (.iload_n 2, 1) := by decide +kernel
theorem dX3_skylines_8 : decode cX3_skylines 8 = .ok (.iconst 0, 1) := by decide +kernel
theorem dX3_skylines_9 : decode cX3_skylines 9 = .ok (.sipush 200, 3) := by decide +kernel
theorem dX3_skylines_12 : decode cX3_skylines 12 = .ok (.invokestatic 40, 3) := by decide +kernel
theorem dX3_skylines_15 : decode cX3_skylines 15 = .ok (.ifCond .eq 9, 3) := by decide +kernel
theorem dX3_skylines_18 : decode cX3_skylines 18 = .ok (.aload_n 0, 1) := by decide +kernel
theorem dX3_skylines_19 : decode cX3_skylines 19 = .ok (.iconst 0, 1) := by decide +kernel
theorem dX3_skylines_20 : decode cX3_skylines 20 = .ok (.invokevirtual 44, 3) := by decide +kernel
theorem dX3_skylines_23 : decode cX3_skylines 23 = .ok (.ireturn, 1) := by decide +kernel
theorem dX3_skylines_24 : decode cX3_skylines 24 = .ok (.aload_n 0, 1) := by decide +kernel
theorem dX3_skylines_25 : decode cX3_skylines 25 = .ok (.getfield 16, 3) := by decide +kernel
theorem dX3_skylines_28 : decode cX3_skylines 28 = .ok (.aload_n 0, 1) := by decide +kernel
theorem dX3_skylines_29 : decode cX3_skylines 29 = .ok (.getfield 10, 3) := by decide +kernel
theorem dX3_skylines_32 : decode cX3_skylines 32 = .ok (.invokevirtual 133, 3) := by decide +kernel
theorem dX3_skylines_35 : decode cX3_skylines 35 = .ok (.iconst 0, 1) := by decide +kernel
theorem dX3_skylines_36 : decode cX3_skylines 36 = .ok (.istore_n 3, 1) := by decide +kernel
theorem dX3_skylines_37 : decode cX3_skylines 37 = .ok (.iconst 0, 1) := by decide +kernel
theorem dX3_skylines_38 : decode cX3_skylines 38 = .ok (.istore 4, 2) := by decide +kernel
theorem dX3_skylines_40 : decode cX3_skylines 40 = .ok (.iload 4, 2) := by decide +kernel
theorem dX3_skylines_42 : decode cX3_skylines 42 = .ok (.iload_n 2, 1) := by decide +kernel
theorem dX3_skylines_43 : decode cX3_skylines 43 = .ok (.if_icmp .ge 30, 3) := by decide +kernel
theorem dX3_skylines_46 : decode cX3_skylines 46 = .ok (.aload_n 0, 1) := by decide +kernel
theorem dX3_skylines_47 : decode cX3_skylines 47 = .ok (.getfield 16, 3) := by decide +kernel
theorem dX3_skylines_50 : decode cX3_skylines 50 = .ok (.iload_n 1, 1) := by decide +kernel
theorem dX3_skylines_51 : decode cX3_skylines 51 = .ok (.invokevirtual 95, 3) := by decide +kernel
theorem dX3_skylines_54 : decode cX3_skylines 54 = .ok (.ifCond .eq 6, 3) := by decide +kernel
theorem dX3_skylines_57 : decode cX3_skylines 57 = .ok (.iinc 3 1, 3) := by decide +kernel
theorem dX3_skylines_60 : decode cX3_skylines 60 = .ok (.aload_n 0, 1) := by decide +kernel
theorem dX3_skylines_61 : decode cX3_skylines 61 = .ok (.getfield 16, 3) := by decide +kernel
theorem dX3_skylines_64 : decode cX3_skylines 64 = .ok (.invokevirtual 140, 3) := by decide +kernel
theorem dX3_skylines_67 : decode cX3_skylines 67 = .ok (.iinc 4 1, 3) := by decide +kernel
theorem dX3_skylines_70 : decode cX3_skylines 70 = .ok (.goto (-30), 3) := by decide +kernel
theorem dX3_skylines_73 : decode cX3_skylines 73 = .ok (.iload_n 3, 1) := by decide +kernel
theorem dX3_skylines_74 : decode cX3_skylines 74 = .ok (.ireturn, 1) := by decide +kernel
theorem dX3_wallflowers_0 : decode cX3_wallflowers 0 = .ok (.iload_n 1, 1) := by decide +kernel
theorem dX3_wallflowers_1 : decode cX3_wallflowers 1 = .ok (.iconst 0, 1) := by decide +kernel
theorem dX3_wallflowers_2 : decode cX3_wallflowers 2 = .ok (.sipush 200, 3) := by decide +kernel
theorem dX3_wallflowers_5 : decode cX3_wallflowers 5 = .ok (.invokestatic 40, 3) := by decide +kernel
theorem dX3_wallflowers_8 : decode cX3_wallflowers 8 = .ok (.ifCond .eq 9, 3) := by decide +kernel
theorem dX3_wallflowers_11 : decode cX3_wallflowers 11 = .ok (.aload_n 0, 1) := by decide +kernel
theorem dX3_wallflowers_12 : decode cX3_wallflowers 12 = .ok (.iconst 0, 1) := by decide +kernel
theorem dX3_wallflowers_13 : decode cX3_wallflowers 13 = .ok (.invokevirtual 44, 3) := by decide +kernel
theorem dX3_wallflowers_16 : decode cX3_wallflowers 16 = .ok (.ireturn, 1) := by decide +kernel
theorem dX3_wallflowers_17 : decode cX3_wallflowers 17 = .ok (.aload_n 0, 1) := by decide +kernel
theorem dX3_wallflowers_18 : decode cX3_wallflowers 18 = .ok (.getfield 16, 3) := by decide +kernel
theorem dX3_wallflowers_21 : decode cX3_wallflowers 21 = .ok (.aload_n 0, 1) := by decide +kernel
theorem dX3_wallflowers_22 : decode cX3_wallflowers 22 = .ok (.getfield 10, 3) := by decide +kernel
theorem dX3_wallflowers_25 : decode cX3_wallflowers 25 = .ok (.invokevirtual 133, 3) := by decide +kernel
theorem dX3_wallflowers_28 : decode cX3_wallflowers 28 = .ok (.aload_n 0, 1) := by decide +kernel
theorem dX3_wallflowers_29 : decode cX3_wallflowers 29 = .ok (.getfield 10, 3) := by decide +kernel
theorem dX3_wallflowers_32 : decode cX3_wallflowers 32 = .ok (.invokevirtual 155, 3) := by decide +kernel
theorem dX3_wallflowers_35 : decode cX3_wallflowers 35 = .ok (.istore_n 2, 1) := by decide +kernel
theorem dX3_wallflowers_36 : decode cX3_wallflowers 36 = .ok (.iconst 0, 1) := by decide +kernel
theorem dX3_wallflowers_37 : decode cX3_wallflowers 37 = .ok (.istore_n 3, 1) := by decide +kernel
theorem dX3_wallflowers_38 : decode cX3_wallflowers 38 = .ok (.iload_n 3, 1) := by decide +kernel
theorem dX3_wallflowers_39 : decode cX3_wallflowers 39 = .ok (.iload_n 1, 1) := by decide +kernel
theorem dX3_wallflowers_40 : decode cX3_wallflowers 40 = .ok (.if_icmp .ge 32, 3) := by decide +kernel
theorem dX3_wallflowers_43 : decode cX3_wallflowers 43 = .ok (.iload_n 2, 1) := by decide +kernel
theorem dX3_wallflowers_44 : decode cX3_wallflowers 44 = .ok (.ifCond .eq 28, 3) := by decide +kernel
theorem dX3_wallflowers_47 : decode cX3_wallflowers 47 = .ok (.iload_n 2, 1) := by decide +kernel
theorem dX3_wallflowers_48 : decode cX3_wallflowers 48 = .ok (.aload_n 0, 1) := by decide +kernel
theorem dX3_wallflowers_49 : decode cX3_wallflowers 49 = .ok (.getfield 16, 3) := by decide +kernel
theorem dX3_wallflowers_52 : decode cX3_wallflowers 52 = .ok (.invokevirtual 109, 3) := by decide +kernel
theorem dX3_wallflowers_55 : decode cX3_wallflowers 55 = .ok (.iconst (-1), 1) := by decide +kernel
theorem dX3_wallflowers_56 : decode cX3_wallflowers 56 = .ok (.ixor, 1) := by decide +kernel
theorem dX3_wallflowers_57 : decode cX3_wallflowers 57 = .ok (.iand, 1) := by decide +kernel
theorem dX3_wallflowers_58 : decode cX3_wallflowers 58 = .ok (.istore_n 2, 1) := by decide +kernel
theorem dX3_wallflowers_59 : decode cX3_wallflowers 59 = .ok (.aload_n 0, 1) := by decide +kernel
theorem dX3_wallflowers_60 : decode cX3_wallflowers 60 = .ok (.getfield 16, 3) := by decide +kernel
theorem dX3_wallflowers_63 : decode cX3_wallflowers 63 = .ok (.invokevirtual 140, 3) := by decide +kernel
theorem dX3_wallflowers_66 : decode cX3_wallflowers 66 = .ok (.iinc 3 1, 3) := by decide +kernel
theorem dX3_wallflowers_69 : decode cX3_wallflowers 69 = .ok (.goto (-31), 3) := by decide +kernel
theorem dX3_wallflowers_72 : decode cX3_wallflowers 72 = .ok (.iload_n 2, 1) := by decide +kernel
theorem dX3_wallflowers_73 : decode cX3_wallflowers 73 = .ok (.ireturn, 1) := by decide +kernel
theorem dX3_stand_0 : decode cX3_stand 0 = .ok (.aload_n 0, 1) := by decide +kernel
theorem dX3_stand_1 : decode cX3_stand 1 = .ok (.iload_n 1, 1) := by decide +kernel
theorem dX3_stand_2 : decode cX3_stand 2 = .ok (.iload_n 2, 1) := by decide +kernel
theorem dX3_stand_3 : decode cX3_stand 3 = .ok (.iconst 1, 1) := by decide +kernel
theorem dX3_stand_4 : decode cX3_stand 4 = .ok (.invokevirtual 158, 3) := by decide +kernel
theorem dX3_stand_7 : decode cX3_stand 7 = .ok (.ireturn, 1) := by decide +kernel
theorem dX3_stepFor_0 : decode cX3_stepFor 0 = .ok (.aload_n 0, 1) := by decide +kernel
theorem dX3_stepFor_1 : decode cX3_stepFor 1 = .ok (.iload_n 1, 1) := by decide +kernel
theorem dX3_stepFor_2 : decode cX3_stepFor 2 = .ok (.iload_n 2, 1) := by decide +kernel
theorem dX3_stepFor_3 : decode cX3_stepFor 3 = .ok (.iconst 2, 1) := by decide +kernel
theorem dX3_stepFor_4 : decode cX3_stepFor 4 = .ok (.invokevirtual 158, 3) := by decide +kernel
theorem dX3_stepFor_7 : decode cX3_stepFor 7 = .ok (.ireturn, 1) := by decide +kernel
theorem dX3_turnFor_0 : decode cX3_turnFor 0 = .ok (.aload_n 0, 1) := by decide +kernel
theorem dX3_turnFor_1 : decode cX3_turnFor 1 = .ok (.iload_n 1, 1) := by decide +kernel
theorem dX3_turnFor_2 : decode cX3_turnFor 2 = .ok (.iload_n 2, 1) := by decide +kernel
theorem dX3_turnFor_3 : decode cX3_turnFor 3 = .ok (.iconst 3, 1) := by decide +kernel
theorem dX3_turnFor_4 : decode cX3_turnFor 4 = .ok (.invokevirtual 158, 3) := by decide +kernel
theorem dX3_turnFor_7 : decode cX3_turnFor 7 = .ok (.ireturn, 1) := by decide +kernel
theorem dX3_kindFor_0 : decode cX3_kindFor 0 = .ok (.aload_n 0, 1) := by decide +kernel
theorem dX3_kindFor_1 : decode cX3_kindFor 1 = .ok (.getfield 10, 3) := by decide +kernel
theorem dX3_kindFor_4 : decode cX3_kindFor 4 = .ok (.iload_n 1, 1) := by decide +kernel
theorem dX3_kindFor_5 : decode cX3_kindFor 5 = .ok (.invokevirtual 64, 3) := by decide +kernel
theorem dX3_kindFor_8 : decode cX3_kindFor 8 = .ok (.ifCond .ne 13, 3) := by decide +kernel
theorem dX3_kindFor_11 : decode cX3_kindFor 11 = .ok (.iload_n 2, 1) := by decide +kernel
theorem dX3_kindFor_12 : decode cX3_kindFor 12 = .ok (.iconst 0, 1) := by decide +kernel
theorem dX3_kindFor_13 : decode cX3_kindFor 13 = .ok (.bipush 60, 2) := by decide +kernel
theorem dX3_kindFor_15 : decode cX3_kindFor 15 = .ok (.invokestatic 40, 3) := by decide +kernel
theorem dX3_kindFor_18 : decode cX3_kindFor 18 = .ok (.ifCond .eq 9, 3) := by decide +kernel
theorem dX3_kindFor_21 : decode cX3_kindFor 21 = .ok (.aload_n 0, 1) := by decide +kernel
theorem dX3_kindFor_22 : decode cX3_kindFor 22 = .ok (.iconst 0, 1) := by decide +kernel
theorem dX3_kindFor_23 : decode cX3_kindFor 23 = .ok (.invokevirtual 44, 3) := by decide +kernel
theorem dX3_kindFor_26 : decode cX3_kindFor 26 = .ok (.ireturn, 1) := by decide +kernel
theorem dX3_kindFor_27 : decode cX3_kindFor 27 = .ok (.iconst 0, 1) := by decide +kernel
theorem dX3_kindFor_28 : decode cX3_kindFor 28 = .ok (.istore_n 3, 1) := by decide +kernel
theorem dX3_kindFor_29 : decode cX3_kindFor 29 = .ok (.iconst (-1), 1) := by decide +kernel
theorem dX3_kindFor_30 : decode cX3_kindFor 30 = .ok (.istore 4, 2) := by decide +kernel
theorem dX3_kindFor_32 : decode cX3_kindFor 32 = .ok (.iconst 0, 1) := by decide +kernel
theorem dX3_kindFor_33 : decode cX3_kindFor 33 = .ok (.istore 5, 2) := by decide +kernel
theorem dX3_kindFor_35 : decode cX3_kindFor 35 = .ok (.iload 5, 2) := by decide +kernel
theorem dX3_kindFor_37 : decode cX3_kindFor 37 = .ok (.bipush 7, 2) := by decide +kernel
theorem dX3_kindFor_39 : decode cX3_kindFor 39 = .ok (.if_icmp .ge 50, 3) := by decide +kernel
theorem dX3_kindFor_42 : decode cX3_kindFor 42 = .ok (.aload_n 0, 1) := by decide +kernel
theorem dX3_kindFor_43 : decode cX3_kindFor 43 = .ok (.iload_n 1, 1) := by decide +kernel
theorem dX3_kindFor_44 : decode cX3_kindFor 44 = .ok (.iconst 0, 1) := by decide +kernel
theorem dX3_kindFor_45 : decode cX3_kindFor 45 = .ok (.iload 5, 2) := by decide +kernel
theorem dX3_kindFor_47 : decode cX3_kindFor 47 = .ok (.invokevirtual 161, 3) := by decide +kernel
theorem dX3_kindFor_50 : decode cX3_kindFor 50 = .ok (.aload_n 0, 1) := by decide +kernel
theorem dX3_kindFor_51 : decode cX3_kindFor 51 = .ok (.getfield 16, 3) := by decide +kernel
theorem dX3_kindFor_54 : decode cX3_kindFor 54 = .ok (.iload_n 2, 1) := by decide +kernel
theorem dX3_kindFor_55 : decode cX3_kindFor 55 = .ok (.invokevirtual 105, 3) := by decide +kernel
theorem dX3_kindFor_58 : decode cX3_kindFor 58 = .ok (.aload_n 0, 1) := by decide +kernel
theorem dX3_kindFor_59 : decode cX3_kindFor 59 = .ok (.getfield 16, 3) := by decide +kernel
theorem dX3_kindFor_62 : decode cX3_kindFor 62 = .ok (.iload_n 1, 1) := by decide +kernel
theorem dX3_kindFor_63 : decode cX3_kindFor 63 = .ok (.iconst 5, 1) := by decide +kernel
theorem dX3_kindFor_64 : decode cX3_kindFor 64 = .ok (.invokevirtual 79, 3) := by decide +kernel
theorem dX3_kindFor_67 : decode cX3_kindFor 67 = .ok (.istore 6, 2) := by decide +kernel
theorem dX3_kindFor_69 : decode cX3_kindFor 69 = .ok (.iload 6, 2) := by decide +kernel
theorem dX3_kindFor_71 : decode cX3_kindFor 71 = .ok (.iload 4, 2) := by decide +kernel
theorem dX3_kindFor_73 : decode cX3_kindFor 73 = .ok (.if_icmp .le 10, 3) := by decide +kernel
theorem dX3_kindFor_76 : decode cX3_kindFor 76 = .ok (.iload 6, 2) := by decide +kernel
theorem dX3_kindFor_78 : decode cX3_kindFor 78 = .ok (.istore 4, 2) := by decide +kernel
theorem dX3_kindFor_80 : decode cX3_kindFor 80 = .ok (.iload 5, 2) := by decide +kernel
theorem dX3_kindFor_82 : decode cX3_kindFor 82 = .ok (.istore_n 3, 1) := by decide +kernel
theorem dX3_kindFor_83 : decode cX3_kindFor 83 = .ok (.iinc 5 1, 3) := by decide +kernel
theorem dX3_kindFor_86 : decode cX3_kindFor 86 = .ok (.goto (-51), 3) := by decide +kernel
theorem dX3_kindFor_89 : decode cX3_kindFor 89 = .ok (.iload_n 3, 1) := by decide +kernel
theorem dX3_kindFor_90 : decode cX3_kindFor 90 = .ok (.ireturn, 1) := by decide +kernel
theorem dX3_rainFor_0 : decode cX3_rainFor 0 = .ok (.aload_n 0, 1) := by decide +kernel
theorem dX3_rainFor_1 : decode cX3_rainFor 1 = .ok (.getfield 10, 3) := by decide +kernel
theorem dX3_rainFor_4 : decode cX3_rainFor 4 = .ok (.iload_n 1, 1) := by decide +kernel
theorem dX3_rainFor_5 : decode cX3_rainFor 5 = .ok (.invokevirtual 64, 3) := by decide +kernel
theorem dX3_rainFor_8 : decode cX3_rainFor 8 = .ok (.ifCond .ne 23, 3) := by decide +kernel
theorem dX3_rainFor_11 : decode cX3_rainFor 11 = .ok (.iload_n 2, 1) := by decide +kernel
theorem dX3_rainFor_12 : decode cX3_rainFor 12 = .ok (.iconst 0, 1) := by decide +kernel
theorem dX3_rainFor_13 : decode cX3_rainFor 13 = .ok (.bipush 99, 2) := by decide +kernel
theorem dX3_rainFor_15 : decode cX3_rainFor 15 = .ok (.invokestatic 40, 3) := by decide +kernel
theorem dX3_rainFor_18 : decode cX3_rainFor 18 = .ok (.ifCond .ne 13, 3) := by decide +kernel
theorem dX3_rainFor_21 : decode cX3_rainFor 21 = .ok (.iload_n 3, 1) := by decide +kernel
theorem dX3_rainFor_22 : decode cX3_rainFor 22 = .ok (.iconst 0, 1) := by decide +kernel
theorem dX3_rainFor_23 : decode cX3_rainFor 23 = .ok (.bipush 60, 2) := by decide +kernel
theorem dX3_rainFor_25 : decode cX3_rainFor 25 = .ok (.invokestatic 40, 3) := by decide +kernel
theorem dX3_rainFor_28 : decode cX3_rainFor 28 = .ok (.ifCond .eq 9, 3) := by decide +kernel
theorem dX3_rainFor_31 : decode cX3_rainFor 31 = .ok (.aload_n 0, 1) := by decide +kernel
theorem dX3_rainFor_32 : decode cX3_rainFor 32 = .ok (.iconst 0, 1) := by decide +kernel
theorem dX3_rainFor_33 : decode cX3_rainFor 33 = .ok (.invokevirtual 44, 3) := by decide +kernel
theorem dX3_rainFor_36 : decode cX3_rainFor 36 = .ok (.ireturn, 1) := by decide +kernel
theorem dX3_rainFor_37 : decode cX3_rainFor 37 = .ok (.iconst 0, 1) := by decide +kernel
theorem dX3_rainFor_38 : decode cX3_rainFor 38 = .ok (.istore 4, 2) := by decide +kernel
theorem dX3_rainFor_40 : decode cX3_rainFor 40 = .ok (.iload 4, 2) := by decide +kernel
theorem dX3_rainFor_42 : decode cX3_rainFor 42 = .ok (.bipush 9, 2) := by decide +kernel
theorem dX3_rainFor_44 : decode cX3_rainFor 44 = .ok (.if_icmp .gt 53, 3) := by decide +kernel
theorem dX3_rainFor_47 : decode cX3_rainFor 47 = .ok (.aload_n 0, 1) := by decide +kernel
theorem dX3_rainFor_48 : decode cX3_rainFor 48 = .ok (.getfield 16, 3) := by decide +kernel
theorem dX3_rainFor_51 : decode cX3_rainFor 51 = .ok (.aload_n 0, 1) := by decide +kernel
theorem dX3_rainFor_52 : decode cX3_rainFor 52 = .ok (.getfield 10, 3) := by decide +kernel
theorem dX3_rainFor_55 : decode cX3_rainFor 55 = .ok (.invokevirtual 133, 3) := by decide +kernel
theorem dX3_rainFor_58 : decode cX3_rainFor 58 = .ok (.aload_n 0, 1) := by decide +kernel
theorem dX3_rainFor_59 : decode cX3_rainFor 59 = .ok (.getfield 16, 3) := by decide +kernel
theorem dX3_rainFor_62 : decode cX3_rainFor 62 = .ok (.iload 4, 2) := by decide +kernel
theorem dX3_rainFor_64 : decode cX3_rainFor 64 = .ok (.putfield 48, 3) := by decide +kernel
theorem dX3_rainFor_67 : decode cX3_rainFor 67 = .ok (.aload_n 0, 1) := by decide +kernel
theorem dX3_rainFor_68 : decode cX3_rainFor 68 = .ok (.getfield 16, 3) := by decide +kernel
theorem dX3_rainFor_71 : decode cX3_rainFor 71 = .ok (.iload_n 3, 1) := by decide +kernel
theorem dX3_rainFor_72 : decode cX3_rainFor 72 = .ok (.invokevirtual 105, 3) := by decide +kernel
theorem dX3_rainFor_75 : decode cX3_rainFor 75 = .ok (.aload_n 0, 1) := by decide +kernel
theorem dX3_rainFor_76 : decode cX3_rainFor 76 = .ok (.getfield 16, 3) := by decide +kernel
theorem dX3_rainFor_79 : decode cX3_rainFor 79 = .ok (.iload_n 1, 1) := by decide +kernel
theorem dX3_rainFor_80 : decode cX3_rainFor 80 = .ok (.iconst 4, 1) := by decide +kernel
theorem dX3_rainFor_81 : decode cX3_rainFor 81 = .ok (.invokevirtual 79, 3) := by decide +kernel
theorem dX3_rainFor_84 : decode cX3_rainFor 84 = .ok (.iload_n 2, 1) := by decide +kernel
theorem dX3_rainFor_85 : decode cX3_rainFor 85 = .ok (.if_icmp .gt 6, 3) := by decide +kernel
theorem dX3_rainFor_88 : decode cX3_rainFor 88 = .ok (.iload 4, 2) := by decide +kernel
theorem dX3_rainFor_90 : decode cX3_rainFor 90 = .ok (.ireturn, 1) := by decide +kernel
theorem dX3_rainFor_91 : decode cX3_rainFor 91 = .ok (.iinc 4 1, 3) := by decide +kernel
theorem dX3_rainFor_94 : decode cX3_rainFor 94 = .ok (.goto (-54), 3) := by decide +kernel
theorem dX3_rainFor_97 : decode cX3_rainFor 97 = .ok (.aload_n 0, 1) := by decide +kernel
theorem dX3_rainFor_98 : decode cX3_rainFor 98 = .ok (.iconst 3, 1) := by decide +kernel
theorem dX3_rainFor_99 : decode cX3_rainFor 99 = .ok (.invokevirtual 44, 3) := by decide +kernel
theorem dX3_rainFor_102 : decode cX3_rainFor 102 = .ok (.ireturn, 1) := by decide +kernel
theorem dX3_road_0 : decode cX3_road 0 = .ok (.iload_n 1, 1) := by decide +kernel
theorem dX3_road_1 : decode cX3_road 1 = .ok (.invokestatic 52, 3) := by decide +kernel
theorem dX3_road_4 : decode cX3_road 4 = .ok (.ifCond .ne 20, 3) := by decide +kernel
theorem dX3_road_7 : decode cX3_road 7 = .ok (.iload_n 2, 1) := by decide +kernel
theorem dX3_road_8 : decode cX3_road 8 = .ok (.invokestatic 52, 3) := by decide +kernel
theorem dX3_road_11 : decode cX3_road 11 = .ok (.ifCond .ne 13, 3) := by decide +kernel
theorem dX3_road_14 : decode cX3_road 14 = .ok (.iload_n 3, 1) := by decide +kernel
theorem dX3_road_15 : decode cX3_road 15 = .ok (.iconst 0, 1) := by decide +kernel
theorem dX3_road_16 : decode cX3_road 16 = .ok (.bipush 99, 2) := by decide +kernel
theorem dX3_road_18 : decode cX3_road 18 = .ok (.invokestatic 40, 3) := by decide +kernel
theorem dX3_road_21 : decode cX3_road 21 = .ok (.ifCond .eq 9, 3) := by decide +kernel
theorem dX3_road_24 : decode cX3_road 24 = .ok (.aload_n 0, 1) := by decide +kernel
theorem dX3_road_25 : decode cX3_road 25 = .ok (.iconst 0, 1) := by decide +kernel
theorem dX3_road_26 : decode cX3_road 26 = .ok (.invokevirtual 44, 3) := by decide +kernel
theorem dX3_road_29 : decode cX3_road 29 = .ok (.ireturn, 1) := by decide +kernel
theorem dX3_road_30 : decode cX3_road 30 = .ok (.iload_n 1, 1) := by decide +kernel
theorem dX3_road_31 : decode cX3_road 31 = .ok (.iload_n 2, 1) := by decide +kernel
theorem dX3_road_32 : decode cX3_road 32 = .ok (.invokestatic 164, 3) := by decide +kernel
theorem dX3_road_35 : decode cX3_road 35 = .ok (.istore 4, 2) := by decide +kernel
theorem dX3_road_37 : decode cX3_road 37 = .ok (.iload_n 2, 1) := by decide +kernel
theorem dX3_road_38 : decode cX3_road 38 = .ok (.iload_n 1, 1) := by decide +kernel
theorem dX3_road_39 : decode cX3_road 39 = .ok (.invokestatic 164, 3) := by decide +kernel
theorem dX3_road_42 : decode cX3_road 42 = .ok (.istore 5, 2) := by decide +kernel
theorem dX3_road_44 : decode cX3_road 44 = .ok (.aload_n 0, 1) := by decide +kernel
theorem dX3_road_45 : decode cX3_road 45 = .ok (.getfield 10, 3) := by decide +kernel
theorem dX3_road_48 : decode cX3_road 48 = .ok (.iload_n 1, 1) := by decide +kernel
theorem dX3_road_49 : decode cX3_road 49 = .ok (.iload_n 2, 1) := by decide +kernel
theorem dX3_road_50 : decode cX3_road 50 = .ok (.invokevirtual 167, 3) := by decide +kernel
theorem dX3_road_53 : decode cX3_road 53 = .ok (.iload_n 3, 1) := by decide +kernel
theorem dX3_road_54 : decode cX3_road 54 = .ok (.if_icmp .gt 7, 3) := by decide +kernel
theorem dX3_road_57 : decode cX3_road 57 = .ok (.iconst 1, 1) := by decide +kernel
theorem dX3_road_58 : decode cX3_road 58 = .ok (.goto 4, 3) := by decide +kernel
theorem dX3_road_61 : decode cX3_road 61 = .ok (.iconst 0, 1) := by decide +kernel
theorem dX3_road_62 : decode cX3_road 62 = .ok (.istore 6, 2) := by decide +kernel
theorem dX3_road_64 : decode cX3_road 64 = .ok (.aload_n 0, 1) := by decide +kernel
theorem dX3_road_65 : decode cX3_road 65 = .ok (.getfield 10, 3) := by decide +kernel
theorem dX3_road_68 : decode cX3_road 68 = .ok (.iload_n 2, 1) := by decide +kernel
theorem dX3_road_69 : decode cX3_road 69 = .ok (.iload_n 1, 1) := by decide +kernel
theorem dX3_road_70 : decode cX3_road 70 = .ok (.invokevirtual 167, 3) := by decide +kernel
theorem dX3_road_73 : decode cX3_road 73 = .ok (.iload_n 3, 1) := by decide +kernel
theorem dX3_road_74 : decode cX3_road 74 = .ok (.if_icmp .gt 7, 3) := by decide +kernel
theorem dX3_road_77 : decode cX3_road 77 = .ok (.iconst 1, 1) := by decide +kernel
theorem dX3_road_78 : decode cX3_road 78 = .ok (.goto 4, 3) := by decide +kernel
theorem dX3_road_81 : decode cX3_road 81 = .ok (.iconst 0, 1) := by decide +kernel
theorem dX3_road_82 : decode cX3_road 82 = .ok (.istore 7, 2) := by decide +kernel
theorem dX3_road_84 : decode cX3_road 84 = .ok (.iload 6, 2) := by decide +kernel
theorem dX3_road_86 : decode cX3_road 86 = .ok (.ifCond .eq 16, 3) := by decide +kernel
theorem dX3_road_89 : decode cX3_road 89 = .ok (.iload 7, 2) := by decide +kernel
theorem dX3_road_91 : decode cX3_road 91 = .ok (.ifCond .eq 11, 3) := by decide +kernel
theorem dX3_road_94 : decode cX3_road 94 = .ok (.iload 4, 2) := by decide +kernel
theorem dX3_road_96 : decode cX3_road 96 = .ok (.iload 5, 2) := by decide +kernel
theorem dX3_road_98 : decode cX3_road 98 = .ok (.invokestatic 170, 3) := by decide +kernel
theorem dX3_road_101 : decode cX3_road 101 = .ok (.ireturn, 1) := by decide +kernel
theorem dX3_road_102 : decode cX3_road 102 = .ok (.iload 6, 2) := by decide +kernel
theorem dX3_road_104 : decode cX3_road 104 = .ok (.ifCond .eq 6, 3) := by decide +kernel
theorem dX3_road_107 : decode cX3_road 107 = .ok (.iload 4, 2) := by decide +kernel
theorem dX3_road_109 : decode cX3_road 109 = .ok (.ireturn, 1) := by decide +kernel
theorem dX3_road_110 : decode cX3_road 110 = .ok (.iload 7, 2) := by decide +kernel
theorem dX3_road_112 : decode cX3_road 112 = .ok (.ifCond .eq 8, 3) := by decide +kernel
theorem dX3_road_115 : decode cX3_road 115 = .ok (.iload 5, 2) := by decide +kernel
theorem dX3_road_117 : decode cX3_road 117 = .ok (.goto 8, 3) := by decide +kernel
theorem dX3_road_120 : decode cX3_road 120 = .ok (.aload_n 0, 1) := by decide +kernel
theorem dX3_road_121 : decode cX3_road 121 = .ok (.iconst 3, 1) := by decide +kernel
theorem dX3_road_122 : decode cX3_road 122 = .ok (.invokevirtual 44, 3) := by decide +kernel
theorem dX3_road_125 : decode cX3_road 125 = .ok (.ireturn, 1) := by decide +kernel
theorem dX3_climb_0 : decode cX3_climb 0 = .ok (.iload_n 1, 1) := by decide +kernel
theorem dX3_climb_1 : decode cX3_climb 1 = .ok (.invokestatic 52, 3) := by decide +kernel
theorem dX3_climb_4 : decode cX3_climb 4 = .ok (.ifCond .ne 10, 3) := by decide +kernel
theorem dX3_climb_7 : decode cX3_climb 7 = .ok (.iload_n 2, 1) := by decide +kernel
theorem dX3_climb_8 : decode cX3_climb 8 = .ok (.invokestatic 52, 3) := by decide +kernel
theorem dX3_climb_11 : decode cX3_climb 11 = .ok (.ifCond .eq 9, 3) := by decide +kernel
theorem dX3_climb_14 : decode cX3_climb 14 = .ok (.aload_n 0, 1) := by decide +kernel
theorem dX3_climb_15 : decode cX3_climb 15 = .ok (.iconst 0, 1) := by decide +kernel
theorem dX3_climb_16 : decode cX3_climb 16 = .ok (.invokevirtual 44, 3) := by decide +kernel
theorem dX3_climb_19 : decode cX3_climb 19 = .ok (.ireturn, 1) := by decide +kernel
theorem dX3_climb_20 : decode cX3_climb 20 = .ok (.aload_n 0, 1) := by decide +kernel
theorem dX3_climb_21 : decode cX3_climb 21 = .ok (.getfield 10, 3) := by decide +kernel
theorem dX3_climb_24 : decode cX3_climb 24 = .ok (.iload_n 1, 1) := by decide +kernel
theorem dX3_climb_25 : decode cX3_climb 25 = .ok (.iload_n 2, 1) := by decide +kernel
theorem dX3_climb_26 : decode cX3_climb 26 = .ok (.invokevirtual 175, 3) := by decide +kernel
theorem dX3_climb_29 : decode cX3_climb 29 = .ok (.ireturn, 1) := by decide +kernel
theorem dX3_open_0 : decode cX3_open 0 = .ok (.iload_n 1, 1) := by decide +kernel
theorem dX3_open_1 : decode cX3_open 1 = .ok (.invokestatic 52, 3) := by decide +kernel
theorem dX3_open_4 : decode cX3_open 4 = .ok (.ifCond .ne 31, 3) := by decide +kernel
theorem dX3_open_7 : decode cX3_open 7 = .ok (.iload_n 2, 1) := by decide +kernel
theorem dX3_open_8 : decode cX3_open 8 = .ok (.invokestatic 52, 3) := by decide +kernel
theorem dX3_open_11 : decode cX3_open 11 = .ok (.ifCond .ne 24, 3) := by decide +kernel
theorem dX3_open_14 : decode cX3_open 14 = .ok (.iload_n 3, 1) := by decide +kernel
theorem dX3_open_15 : decode cX3_open 15 = .ok (.iconst 0, 1) := by decide +kernel
theorem dX3_open_16 : decode cX3_open 16 = .ok (.bipush 99, 2) := by decide +kernel
theorem dX3_open_18 : decode cX3_open 18 = .ok (.invokestatic 40, 3) := by decide +kernel
theorem dX3_open_21 : decode cX3_open 21 = .ok (.ifCond .ne 14, 3) := by decide +kernel
theorem dX3_open_24 : decode cX3_open 24 = .ok (.iload 4, 2) := by decide +kernel
theorem dX3_open_26 : decode cX3_open 26 = .ok (.iconst 0, 1) := by decide +kernel
theorem dX3_open_27 : decode cX3_open 27 = .ok (.bipush 100, 2) := by decide +kernel
theorem dX3_open_29 : decode cX3_open 29 = .ok (.invokestatic 40, 3) := by decide +kernel
theorem dX3_open_32 : decode cX3_open 32 = .ok (.ifCond .eq 9, 3) := by decide +kernel
theorem dX3_open_35 : decode cX3_open 35 = .ok (.aload_n 0, 1) := by decide +kernel
theorem dX3_open_36 : decode cX3_open 36 = .ok (.iconst 0, 1) := by decide +kernel
theorem dX3_open_37 : decode cX3_open 37 = .ok (.invokevirtual 44, 3) := by decide +kernel
theorem dX3_open_40 : decode cX3_open 40 = .ok (.ireturn, 1) := by decide +kernel
theorem dX3_open_41 : decode cX3_open 41 = .ok (.aload_n 0, 1) := by decide +kernel
theorem dX3_open_42 : decode cX3_open 42 = .ok (.iload_n 1, 1) := by decide +kernel
theorem dX3_open_43 : decode cX3_open 43 = .ok (.iload_n 2, 1) := by decide +kernel
theorem dX3_open_44 : decode cX3_open 44 = .ok (.iload_n 3, 1) := by decide +kernel
theorem dX3_open_45 : decode cX3_open 45 = .ok (.iload 4, 2) := by decide +kernel
theorem dX3_open_47 : decode cX3_open 47 = .ok (.invokevirtual 178, 3) := by decide +kernel
theorem dX3_open_50 : decode cX3_open 50 = .ok (.ireturn, 1) := by decide +kernel
theorem dX3_lay_0 : decode cX3_lay 0 = .ok (.iload_n 1, 1) := by decide +kernel
theorem dX3_lay_1 : decode cX3_lay 1 = .ok (.invokestatic 52, 3) := by decide +kernel
theorem dX3_lay_4 : decode cX3_lay 4 = .ok (.ifCond .ne 23, 3) := by decide +kernel
theorem dX3_lay_7 : decode cX3_lay 7 = .ok (.iload_n 2, 1) := by decide +kernel
theorem dX3_lay_8 : decode cX3_lay 8 = .ok (.iconst 0, 1) := by decide +kernel
theorem dX3_lay_9 : decode cX3_lay 9 = .ok (.bipush 99, 2) := by decide +kernel
theorem dX3_lay_11 : decode cX3_lay 11 = .ok (.invokestatic 40, 3) := by decide +kernel
theorem dX3_lay_14 : decode cX3_lay 14 = .ok (.ifCond .ne 13, 3) := by decide +kernel
theorem dX3_lay_17 : decode cX3_lay 17 = .ok (.iload_n 3, 1) := by decide +kernel
theorem dX3_lay_18 : decode cX3_lay 18 = .ok (.iconst 0, 1) := by decide +kernel
theorem dX3_lay_19 : decode cX3_lay 19 = .ok (.bipush 60, 2) := by decide +kernel
theorem dX3_lay_21 : decode cX3_lay 21 = .ok (.invokestatic 40, 3) := by decide +kernel
theorem dX3_lay_24 : decode cX3_lay 24 = .ok (.ifCond .eq 9, 3) := by decide +kernel
theorem dX3_lay_27 : decode cX3_lay 27 = .ok (.aload_n 0, 1) := by decide +kernel
theorem dX3_lay_28 : decode cX3_lay 28 = .ok (.iconst 0, 1) := by decide +kernel
theorem dX3_lay_29 : decode cX3_lay 29 = .ok (.invokevirtual 44, 3) := by decide +kernel
theorem dX3_lay_32 : decode cX3_lay 32 = .ok (.ireturn, 1) := by decide +kernel
theorem dX3_lay_33 : decode cX3_lay 33 = .ok (.iconst 0, 1) := by decide +kernel
theorem dX3_lay_34 : decode cX3_lay 34 = .ok (.istore 4, 2) := by decide +kernel
theorem dX3_lay_36 : decode cX3_lay 36 = .ok (.iconst (-1), 1) := by decide +kernel
theorem dX3_lay_37 : decode cX3_lay 37 = .ok (.istore 5, 2) := by decide +kernel
theorem dX3_lay_39 : decode cX3_lay 39 = .ok (.iconst 0, 1) := by decide +kernel
theorem dX3_lay_40 : decode cX3_lay 40 = .ok (.istore 6, 2) := by decide +kernel
theorem dX3_lay_42 : decode cX3_lay 42 = .ok (.iload 6, 2) := by decide +kernel
theorem dX3_lay_44 : decode cX3_lay 44 = .ok (.bipush 12, 2) := by decide +kernel
theorem dX3_lay_46 : decode cX3_lay 46 = .ok (.if_icmp .ge 51, 3) := by decide +kernel
theorem dX3_lay_49 : decode cX3_lay 49 = .ok (.iload 5, 2) := by decide +kernel
theorem dX3_lay_51 : decode cX3_lay 51 = .ok (.iload_n 3, 1) := by decide +kernel
theorem dX3_lay_52 : decode cX3_lay 52 = .ok (.if_icmp .ge 45, 3) := by decide +kernel
theorem dX3_lay_55 : decode cX3_lay 55 = .ok (.iload 6, 2) := by decide +kernel
theorem dX3_lay_57 : decode cX3_lay 57 = .ok (.iload_n 1, 1) := by decide +kernel
theorem dX3_lay_58 : decode cX3_lay 58 = .ok (.if_icmp .ne 7, 3) := by decide +kernel
theorem dX3_lay_61 : decode cX3_lay 61 = .ok (.iconst (-1), 1) := by decide +kernel
theorem dX3_lay_62 : decode cX3_lay 62 = .ok (.goto 12, 3) := by decide +kernel
theorem dX3_lay_65 : decode cX3_lay 65 = .ok (.aload_n 0, 1) := by decide +kernel
theorem dX3_lay_66 : decode cX3_lay 66 = .ok (.iload_n 1, 1) := by decide +kernel
theorem dX3_lay_67 : decode cX3_lay 67 = .ok (.iload 6, 2) := by decide +kernel
theorem dX3_lay_69 : decode cX3_lay 69 = .ok (.iload_n 2, 1) := by decide +kernel
theorem dX3_lay_70 : decode cX3_lay 70 = .ok (.iload_n 3, 1) := by decide +kernel
theorem dX3_lay_71 : decode cX3_lay 71 = .ok (.invokevirtual 178, 3) := by decide +kernel
theorem dX3_lay_74 : decode cX3_lay 74 = .ok (.istore 7, 2) := by decide +kernel
theorem dX3_lay_76 : decode cX3_lay 76 = .ok (.iload 7, 2) := by decide +kernel
theorem dX3_lay_78 : decode cX3_lay 78 = .ok (.iload 5, 2) := by decide +kernel
theorem dX3_lay_80 : decode cX3_lay 80 = .ok (.if_icmp .le 11, 3) := by decide +kernel
theorem dX3_lay_83 : decode cX3_lay 83 = .ok (.iload 7, 2) := by decide +kernel
theorem dX3_lay_85 : decode cX3_lay 85 = .ok (.istore 5, 2) := by decide +kernel
theorem dX3_lay_87 : decode cX3_lay 87 = .ok (.iload 6, 2) := by decide +kernel
theorem dX3_lay_89 : decode cX3_lay 89 = .ok (.istore 4, 2) := by decide +kernel
theorem dX3_lay_91 : decode cX3_lay 91 = .ok (.iinc 6 1, 3) := by decide +kernel
theorem dX3_lay_94 : decode cX3_lay 94 = .ok (.goto (-52), 3) := by decide +kernel
theorem dX3_lay_97 : decode cX3_lay 97 = .ok (.iload 4, 2) := by decide +kernel
theorem dX3_lay_99 : decode cX3_lay 99 = .ok (.ireturn, 1) := by decide +kernel
theorem dX3_fits_0 : decode cX3_fits 0 = .ok (.aload_n 0, 1) := by decide +kernel
theorem dX3_fits_1 : decode cX3_fits 1 = .ok (.iload_n 1, 1) := by decide +kernel
theorem dX3_fits_2 : decode cX3_fits 2 = .ok (.iload_n 2, 1) := by decide +kernel
theorem dX3_fits_3 : decode cX3_fits 3 = .ok (.invokevirtual 182, 3) := by decide +kernel
theorem dX3_fits_6 : decode cX3_fits 6 = .ok (.istore_n 3, 1) := by decide +kernel
theorem dX3_fits_7 : decode cX3_fits 7 = .ok (.iload_n 3, 1) := by decide +kernel
theorem dX3_fits_8 : decode cX3_fits 8 = .ok (.ifCond .lt 11, 3) := by decide +kernel
theorem dX3_fits_11 : decode cX3_fits 11 = .ok (.aload_n 0, 1) := by decide +kernel
theorem dX3_fits_12 : decode cX3_fits 12 = .ok (.iload_n 3, 1) := by decide +kernel
theorem dX3_fits_13 : decode cX3_fits 13 = .ok (.invokevirtual 44, 3) := by decide +kernel
theorem dX3_fits_16 : decode cX3_fits 16 = .ok (.goto 13, 3) := by decide +kernel
theorem dX3_fits_19 : decode cX3_fits 19 = .ok (.aload_n 0, 1) := by decide +kernel
theorem dX3_fits_20 : decode cX3_fits 20 = .ok (.iload_n 1, 1) := by decide +kernel
theorem dX3_fits_21 : decode cX3_fits 21 = .ok (.iload_n 2, 1) := by decide +kernel
theorem dX3_fits_22 : decode cX3_fits 22 = .ok (.iconst 2, 1) := by decide +kernel
theorem dX3_fits_23 : decode cX3_fits 23 = .ok (.invokevirtual 185, 3) := by decide +kernel
theorem dX3_fits_26 : decode cX3_fits 26 = .ok (.invokestatic 113, 3) := by decide +kernel
theorem dX3_fits_29 : decode cX3_fits 29 = .ok (.ireturn, 1) := by decide +kernel
theorem dX3_step_0 : decode cX3_step 0 = .ok (.aload_n 0, 1) := by decide +kernel
theorem dX3_step_1 : decode cX3_step 1 = .ok (.iload_n 1, 1) := by decide +kernel
theorem dX3_step_2 : decode cX3_step 2 = .ok (.iload_n 2, 1) := by decide +kernel
theorem dX3_step_3 : decode cX3_step 3 = .ok (.invokevirtual 182, 3) := by decide +kernel
theorem dX3_step_6 : decode cX3_step 6 = .ok (.istore_n 3, 1) := by decide +kernel
theorem dX3_step_7 : decode cX3_step 7 = .ok (.iload_n 3, 1) := by decide +kernel
theorem dX3_step_8 : decode cX3_step 8 = .ok (.ifCond .lt 9, 3) := by decide +kernel
theorem dX3_step_11 : decode cX3_step 11 = .ok (.aload_n 0, 1) := by decide +kernel
theorem dX3_step_12 : decode cX3_step 12 = .ok (.iload_n 3, 1) := by decide +kernel
theorem dX3_step_13 : decode cX3_step 13 = .ok (.invokevirtual 44, 3) := by decide +kernel
theorem dX3_step_16 : decode cX3_step 16 = .ok (.ireturn, 1) := by decide +kernel
theorem dX3_step_17 : decode cX3_step 17 = .ok (.aload_n 0, 1) := by decide +kernel
theorem dX3_step_18 : decode cX3_step 18 = .ok (.iload_n 1, 1) := by decide +kernel
theorem dX3_step_19 : decode cX3_step 19 = .ok (.iload_n 2, 1) := by decide +kernel
theorem dX3_step_20 : decode cX3_step 20 = .ok (.iconst 2, 1) := by decide +kernel
theorem dX3_step_21 : decode cX3_step 21 = .ok (.invokevirtual 185, 3) := by decide +kernel
theorem dX3_step_24 : decode cX3_step 24 = .ok (.istore 4, 2) := by decide +kernel
theorem dX3_step_26 : decode cX3_step 26 = .ok (.bipush (-5), 2) := by decide +kernel
theorem dX3_step_28 : decode cX3_step 28 = .ok (.istore 5, 2) := by decide +kernel
theorem dX3_step_30 : decode cX3_step 30 = .ok (.iload 5, 2) := by decide +kernel
theorem dX3_step_32 : decode cX3_step 32 = .ok (.iconst 5, 1) := by decide +kernel
theorem dX3_step_33 : decode cX3_step 33 = .ok (.if_icmp .gt 24, 3) := by decide +kernel
theorem dX3_step_36 : decode cX3_step 36 = .ok (.iload 4, 2) := by decide +kernel
theorem dX3_step_38 : decode cX3_step 38 = .ok (.iload 5, 2) := by decide +kernel
theorem dX3_step_40 : decode cX3_step 40 = .ok (.iconst 5, 1) := by decide +kernel
theorem dX3_step_41 : decode cX3_step 41 = .ok (.iadd, 1) := by decide +kernel
theorem dX3_step_42 : decode cX3_step 42 = .ok (.ishr, 1) := by decide +kernel
theorem dX3_step_43 : decode cX3_step 43 = .ok (.iconst 1, 1) := by decide +kernel
theorem dX3_step_44 : decode cX3_step 44 = .ok (.iand, 1) := by decide +kernel
theorem dX3_step_45 : decode cX3_step 45 = .ok (.ifCond .eq 6, 3) := by decide +kernel
theorem dX3_step_48 : decode cX3_step 48 = .ok (.iload 5, 2) := by decide +kernel
theorem dX3_step_50 : decode cX3_step 50 = .ok (.ireturn, 1) := by decide +kernel
theorem dX3_step_51 : decode cX3_step 51 = .ok (.iinc 5 1, 3) := by decide +kernel
theorem dX3_step_54 : decode cX3_step 54 = .ok (.goto (-24), 3) := by decide +kernel
theorem dX3_step_57 : decode cX3_step 57 = .ok (.aload_n 0, 1) := by decide +kernel
theorem dX3_step_58 : decode cX3_step 58 = .ok (.iconst 3, 1) := by decide +kernel
theorem dX3_step_59 : decode cX3_step 59 = .ok (.invokevirtual 44, 3) := by decide +kernel
theorem dX3_step_62 : decode cX3_step 62 = .ok (.ireturn, 1) := by decide +kernel
theorem dX3_kinds_0 : decode cX3_kinds 0 = .ok (.aload_n 0, 1) := by decide +kernel
theorem dX3_kinds_1 : decode cX3_kinds 1 = .ok (.iload_n 1, 1) := by decide +kernel
theorem dX3_kinds_2 : decode cX3_kinds 2 = .ok (.iload_n 2, 1) := by decide +kernel
theorem dX3_kinds_3 : decode cX3_kinds 3 = .ok (.invokevirtual 182, 3) := by decide +kernel
theorem dX3_kinds_6 : decode cX3_kinds 6 = .ok (.istore_n 3, 1) := by decide +kernel
theorem dX3_kinds_7 : decode cX3_kinds 7 = .ok (.iload_n 3, 1) := by decide +kernel
theorem dX3_kinds_8 : decode cX3_kinds 8 = .ok (.ifCond .lt 11, 3) := by decide +kernel
theorem dX3_kinds_11 : decode cX3_kinds 11 = .ok (.aload_n 0, 1) := by decide +kernel
theorem dX3_kinds_12 : decode cX3_kinds 12 = .ok (.iload_n 3, 1) := by decide +kernel
theorem dX3_kinds_13 : decode cX3_kinds 13 = .ok (.invokevirtual 44, 3) := by decide +kernel
theorem dX3_kinds_16 : decode cX3_kinds 16 = .ok (.goto 10, 3) := by decide +kernel
theorem dX3_kinds_19 : decode cX3_kinds 19 = .ok (.aload_n 0, 1) := by decide +kernel
theorem dX3_kinds_20 : decode cX3_kinds 20 = .ok (.iload_n 1, 1) := by decide +kernel
theorem dX3_kinds_21 : decode cX3_kinds 21 = .ok (.iload_n 2, 1) := by decide +kernel
theorem dX3_kinds_22 : decode cX3_kinds 22 = .ok (.iconst 0, 1) := by decide +kernel
theorem dX3_kinds_23 : decode cX3_kinds 23 = .ok (.invokevirtual 185, 3) := by decide +kernel
theorem dX3_kinds_26 : decode cX3_kinds 26 = .ok (.ireturn, 1) := by decide +kernel
theorem dX3_rains_0 : decode cX3_rains 0 = .ok (.iload_n 1, 1) := by decide +kernel
theorem dX3_rains_1 : decode cX3_rains 1 = .ok (.iconst 1, 1) := by decide +kernel
theorem dX3_rains_2 : decode cX3_rains 2 = .ok (.bipush 20, 2) := by decide +kernel
theorem dX3_rains_4 : decode cX3_rains 4 = .ok (.invokestatic 40, 3) := by decide +kernel
theorem dX3_rains_7 : decode cX3_rains 7 = .ok (.ifCond .eq 9, 3) := by decide +kernel
theorem dX3_rains_10 : decode cX3_rains 10 = .ok (.aload_n 0, 1) := by decide +kernel
theorem dX3_rains_11 : decode cX3_rains 11 = .ok (.iconst 0, 1) := by decide +kernel
theorem dX3_rains_12 : decode cX3_rains 12 = .ok (.invokevirtual 44, 3) := by decide +kernel
theorem dX3_rains_15 : decode cX3_rains 15 = .ok (.ireturn, 1) := by decide +kernel
theorem dX3_rains_16 : decode cX3_rains 16 = .ok (.aload_n 0, 1) := by decide +kernel
theorem dX3_rains_17 : decode cX3_rains 17 = .ok (.getfield 10, 3) := by decide +kernel
theorem dX3_rains_20 : decode cX3_rains 20 = .ok (.getfield 101, 3) := by decide +kernel
theorem dX3_rains_23 : decode cX3_rains 23 = .ok (.ldc 104, 2) := by decide +kernel
theorem dX3_rains_25 : decode cX3_rains 25 = .ok (.iload_n 1, 1) := by decide +kernel
theorem dX3_rains_26 : decode cX3_rains 26 = .ok (.isub, 1) := by decide +kernel
theorem dX3_rains_27 : decode cX3_rains 27 = .ok (.if_icmp .le 9, 3) := by decide +kernel
theorem dX3_rains_30 : decode cX3_rains 30 = .ok (.aload_n 0, 1) := by decide +kernel
theorem dX3_rains_31 : decode cX3_rains 31 = .ok (.iconst 4, 1) := by decide +kernel
theorem dX3_rains_32 : decode cX3_rains 32 = .ok (.invokevirtual 44, 3) := by decide +kernel
theorem dX3_rains_35 : decode cX3_rains 35 = .ok (.ireturn, 1) := by decide +kernel
theorem dX3_rains_36 : decode cX3_rains 36 = .ok (.iconst 0, 1) := by decide +kernel
theorem dX3_rains_37 : decode cX3_rains 37 = .ok (.istore_n 2, 1) := by decide +kernel
theorem dX3_rains_38 : decode cX3_rains 38 = .ok (.iload_n 2, 1) := by decide +kernel
theorem dX3_rains_39 : decode cX3_rains 39 = .ok (.iload_n 1, 1) := by decide +kernel
theorem dX3_rains_40 : decode cX3_rains 40 = .ok (.if_icmp .ge 16, 3) := by decide +kernel
theorem dX3_rains_43 : decode cX3_rains 43 = .ok (.aload_n 0, 1) := by decide +kernel
theorem dX3_rains_44 : decode cX3_rains 44 = .ok (.getfield 10, 3) := by decide +kernel
theorem dX3_rains_47 : decode cX3_rains 47 = .ok (.invokevirtual 188, 3) := by decide +kernel
theorem dX3_rains_50 : decode cX3_rains 50 = .ok (.iinc 2 1, 3) := by decide +kernel
theorem dX3_rains_53 : decode cX3_rains 53 = .ok (.goto (-15), 3) := by decide +kernel
theorem dX3_rains_56 : decode cX3_rains 56 = .ok (.aload_n 0, 1) := by decide +kernel
theorem dX3_rains_57 : decode cX3_rains 57 = .ok (.getfield 10, 3) := by decide +kernel
theorem dX3_rains_60 : decode cX3_rains 60 = .ok (.invokevirtual 118, 3) := by decide +kernel
theorem dX3_rains_63 : decode cX3_rains 63 = .ok (.ireturn, 1) := by decide +kernel
theorem dX3_odds_0 : decode cX3_odds 0 = .ok (.iload_n 1, 1) := by decide +kernel
theorem dX3_odds_1 : decode cX3_odds 1 = .ok (.iconst 0, 1) := by decide +kernel
theorem dX3_odds_2 : decode cX3_odds 2 = .ok (.bipush 20, 2) := by decide +kernel
theorem dX3_odds_4 : decode cX3_odds 4 = .ok (.invokestatic 40, 3) := by decide +kernel
theorem dX3_odds_7 : decode cX3_odds 7 = .ok (.ifCond .ne 12, 3) := by decide +kernel
theorem dX3_odds_10 : decode cX3_odds 10 = .ok (.iload_n 2, 1) := by decide +kernel
theorem dX3_odds_11 : decode cX3_odds 11 = .ok (.iconst 0, 1) := by decide +kernel
theorem dX3_odds_12 : decode cX3_odds 12 = .ok (.iconst 1, 1) := by decide +kernel
theorem dX3_odds_13 : decode cX3_odds 13 = .ok (.invokestatic 40, 3) := by decide +kernel
theorem dX3_odds_16 : decode cX3_odds 16 = .ok (.ifCond .eq 10, 3) := by decide +kernel
theorem dX3_odds_19 : decode cX3_odds 19 = .ok (.aload_n 0, 1) := by decide +kernel
theorem dX3_odds_20 : decode cX3_odds 20 = .ok (.iconst 0, 1) := by decide +kernel
theorem dX3_odds_21 : decode cX3_odds 21 = .ok (.invokevirtual 44, 3) := by decide +kernel
theorem dX3_odds_24 : decode cX3_odds 24 = .ok (.i2l, 1) := by decide +kernel
theorem dX3_odds_25 : decode cX3_odds 25 = .ok (.lreturn, 1) := by decide +kernel
theorem dX3_odds_26 : decode cX3_odds 26 = .ok (.aload_n 0, 1) := by decide +kernel
theorem dX3_odds_27 : decode cX3_odds 27 = .ok (.getfield 10, 3) := by decide +kernel
theorem dX3_odds_30 : decode cX3_odds 30 = .ok (.invokevirtual 155, 3) := by decide +kernel
theorem dX3_odds_33 : decode cX3_odds 33 = .ok (.aload_n 0, 1) := by decide +kernel
theorem dX3_odds_34 : decode cX3_odds 34 = .ok (.getfield 10, 3) := by decide +kernel
theorem dX3_odds_37 : decode cX3_odds 37 = .ok (.invokevirtual 109, 3) := by decide +kernel
theorem dX3_odds_40 : decode cX3_odds 40 = .ok (.iconst (-1), 1) := by decide +kernel
theorem dX3_odds_41 : decode cX3_odds 41 = .ok (.ixor, 1) := by decide +kernel
theorem dX3_odds_42 : decode cX3_odds 42 = .ok (.iand, 1) := by decide +kernel
theorem dX3_odds_43 : decode cX3_odds 43 = .ok (.invokestatic 113, 3) := by decide +kernel
theorem dX3_odds_46 : decode cX3_odds 46 = .ok (.istore_n 3, 1) := by decide +kernel
theorem dX3_odds_47 : decode cX3_odds 47 = .ok (.bipush 8, 2) := by decide +kernel
theorem dX3_odds_49 : decode cX3_odds 49 = .ok (.istore 4, 2) := by decide +kernel
theorem dX3_odds_51 : decode cX3_odds 51 = .ok (.iconst 0, 1) := by decide +kernel
theorem dX3_odds_52 : decode cX3_odds 52 = .ok (.istore 5, 2) := by decide +kernel
theorem dX3_odds_54 : decode cX3_odds 54 = .ok (.iload 5, 2) := by decide +kernel
theorem dX3_odds_56 : decode cX3_odds 56 = .ok (.iconst 3, 1) := by decide +kernel
theorem dX3_odds_57 : decode cX3_odds 57 = .ok (.if_icmp .ge 25, 3) := by decide +kernel
theorem dX3_odds_60 : decode cX3_odds 60 = .ok (.iload_n 3, 1) := by decide +kernel
theorem dX3_odds_61 : decode cX3_odds 61 = .ok (.iconst 2, 1) := by decide +kernel
theorem dX3_odds_62 : decode cX3_odds 62 = .ok (.irem, 1) := by decide +kernel
theorem dX3_odds_63 : decode cX3_odds 63 = .ok (.ifCond .ne 19, 3) := by decide +kernel
theorem dX3_odds_66 : decode cX3_odds 66 = .ok (.iload_n 3, 1) := by decide +kernel
theorem dX3_odds_67 : decode cX3_odds 67 = .ok (.iconst 2, 1) := by decide +kernel
theorem dX3_odds_68 : decode cX3_odds 68 = .ok (.idiv, 1) := by decide +kernel
theorem dX3_odds_69 : decode cX3_odds 69 = .ok (.istore_n 3, 1) := by decide +kernel
theorem dX3_odds_70 : decode cX3_odds 70 = .ok (.iload 4, 2) := by decide +kernel
theorem dX3_odds_72 : decode cX3_odds 72 = .ok (.iconst 2, 1) := by decide +kernel
theorem dX3_odds_73 : decode cX3_odds 73 = .ok (.idiv, 1) := by decide +kernel
theorem dX3_odds_74 : decode cX3_odds 74 = .ok (.istore 4, 2) := by decide +kernel
theorem dX3_odds_76 : decode cX3_odds 76 = .ok (.iinc 5 1, 3) := by decide +kernel
theorem dX3_odds_79 : decode cX3_odds 79 = .ok (.goto (-25), 3) := by decide +kernel
theorem dX3_odds_82 : decode cX3_odds 82 = .ok (.iload_n 2, 1) := by decide +kernel
theorem dX3_odds_83 : decode cX3_odds 83 = .ok (.ifCond .ne 7, 3) := by decide +kernel
theorem dX3_odds_86 : decode cX3_odds 86 = .ok (.iload_n 3, 1) := by decide +kernel
theorem dX3_odds_87 : decode cX3_odds 87 = .ok (.goto 5, 3) := by decide +kernel
theorem dX3_odds_90 : decode cX3_odds 90 = .ok (.iload 4, 2) := by decide +kernel
theorem dX3_odds_92 : decode cX3_odds 92 = .ok (.istore 5, 2) := by decide +kernel
theorem dX3_odds_94 : decode cX3_odds 94 = .ok (.lconst 1, 1) := by decide +kernel
theorem dX3_odds_95 : decode cX3_odds 95 = .ok (.lstore 6, 2) := by decide +kernel
theorem dX3_odds_97 : decode cX3_odds 97 = .ok (.iconst 0, 1) := by decide +kernel
theorem dX3_odds_98 : decode cX3_odds 98 = .ok (.istore 8, 2) := by decide +kernel
theorem dX3_odds_100 : decode cX3_odds 100 = .ok (.iload 8, 2) := by decide +kernel
theorem dX3_odds_102 : decode cX3_odds 102 = .ok (.iload_n 1, 1) := by decide +kernel
theorem dX3_odds_103 : decode cX3_odds 103 = .ok (.if_icmp .ge 17, 3) := by decide +kernel
theorem dX3_odds_106 : decode cX3_odds 106 = .ok (.lload 6, 2) := by decide +kernel
theorem dX3_odds_108 : decode cX3_odds 108 = .ok (.iload 5, 2) := by decide +kernel
theorem dX3_odds_110 : decode cX3_odds 110 = .ok (.i2l, 1) := by decide +kernel
theorem dX3_odds_111 : decode cX3_odds 111 = .ok (.lmul, 1) := by decide +kernel
theorem dX3_odds_112 : decode cX3_odds 112 = .ok (.lstore 6, 2) := by decide +kernel
theorem dX3_odds_114 : decode cX3_odds 114 = .ok (.iinc 8 1, 3) := by decide +kernel
theorem dX3_odds_117 : decode cX3_odds 117 = .ok (.goto (-17), 3) := by decide +kernel
theorem dX3_odds_120 : decode cX3_odds 120 = .ok (.lload 6, 2) := by decide +kernel
theorem dX3_odds_122 : decode cX3_odds 122 = .ok (.lreturn, 1) := by decide +kernel
theorem dX3_seed_0 : decode cX3_seed 0 = .ok (.aload_n 0, 1) := by decide +kernel
theorem dX3_seed_1 : decode cX3_seed 1 = .ok (.getfield 10, 3) := by decide +kernel
theorem dX3_seed_4 : decode cX3_seed 4 = .ok (.getfield 191, 3) := by decide +kernel
theorem dX3_seed_7 : decode cX3_seed 7 = .ok (.istore_n 2, 1) := by decide +kernel
theorem dX3_seed_8 : decode cX3_seed 8 = .ok (.aload_n 0, 1) := by decide +kernel
theorem dX3_seed_9 : decode cX3_seed 9 = .ok (.getfield 10, 3) := by decide +kernel
theorem dX3_seed_12 : decode cX3_seed 12 = .ok (.iload_n 1, 1) := by decide +kernel
theorem dX3_seed_13 : decode cX3_seed 13 = .ok (.putfield 191, 3) := by decide +kernel
theorem dX3_seed_16 : decode cX3_seed 16 = .ok (.iload_n 2, 1) := by decide +kernel
theorem dX3_seed_17 : decode cX3_seed 17 = .ok (.ireturn, 1) := by decide +kernel
theorem dX3_feed_0 : decode cX3_feed 0 = .ok (.iload_n 2, 1) := by decide +kernel
theorem dX3_feed_1 : decode cX3_feed 1 = .ok (.iconst 1, 1) := by decide +kernel
theorem dX3_feed_2 : decode cX3_feed 2 = .ok (.iconst 4, 1) := by decide +kernel
theorem dX3_feed_3 : decode cX3_feed 3 = .ok (.invokestatic 40, 3) := by decide +kernel
theorem dX3_feed_6 : decode cX3_feed 6 = .ok (.ifCond .eq 9, 3) := by decide +kernel
theorem dX3_feed_9 : decode cX3_feed 9 = .ok (.aload_n 0, 1) := by decide +kernel
theorem dX3_feed_10 : decode cX3_feed 10 = .ok (.iconst 0, 1) := by decide +kernel
theorem dX3_feed_11 : decode cX3_feed 11 = .ok (.invokevirtual 44, 3) := by decide +kernel
theorem dX3_feed_14 : decode cX3_feed 14 = .ok (.ireturn, 1) := by decide +kernel
theorem dX3_feed_15 : decode cX3_feed 15 = .ok (.aload_n 0, 1) := by decide +kernel
theorem dX3_feed_16 : decode cX3_feed 16 = .ok (.getfield 25, 3) := by decide +kernel
theorem dX3_feed_19 : decode cX3_feed 19 = .ok (.getfield 194, 3) := by decide +kernel
theorem dX3_feed_22 : decode cX3_feed 22 = .ok (.bipush 120, 2) := by decide +kernel
theorem dX3_feed_24 : decode cX3_feed 24 = .ok (.iload_n 2, 1) := by decide +kernel
theorem dX3_feed_25 : decode cX3_feed 25 = .ok (.isub, 1) := by decide +kernel
theorem dX3_feed_26 : decode cX3_feed 26 = .ok (.if_icmp .le 9, 3) := by decide +kernel
theorem dX3_feed_29 : decode cX3_feed 29 = .ok (.aload_n 0, 1) := by decide +kernel
theorem dX3_feed_30 : decode cX3_feed 30 = .ok (.iconst 1, 1) := by decide +kernel
theorem dX3_feed_31 : decode cX3_feed 31 = .ok (.invokevirtual 44, 3) := by decide +kernel
theorem dX3_feed_34 : decode cX3_feed 34 = .ok (.ireturn, 1) := by decide +kernel
theorem dX3_feed_35 : decode cX3_feed 35 = .ok (.bipush 8, 2) := by decide +kernel
theorem dX3_feed_37 : decode cX3_feed 37 = .ok (.iload_n 2, 1) := by decide +kernel
theorem dX3_feed_38 : decode cX3_feed 38 = .ok (.iconst 1, 1) := by decide +kernel
theorem dX3_feed_39 : decode cX3_feed 39 = .ok (.isub, 1) := by decide +kernel
theorem dX3_feed_40 : decode cX3_feed 40 = .ok (.imul, 1) := by decide +kernel
theorem dX3_feed_41 : decode cX3_feed 41 = .ok (.istore_n 3, 1) := by decide +kernel
theorem dX3_feed_42 : decode cX3_feed 42 = .ok (.iload_n 3, 1) := by decide +kernel
theorem dX3_feed_43 : decode cX3_feed 43 = .ok (.ifCond .lt 23, 3) := by decide +kernel
theorem dX3_feed_46 : decode cX3_feed 46 = .ok (.aload_n 0, 1) := by decide +kernel
theorem dX3_feed_47 : decode cX3_feed 47 = .ok (.getfield 25, 3) := by decide +kernel
theorem dX3_feed_50 : decode cX3_feed 50 = .ok (.iload_n 1, 1) := by decide +kernel
theorem dX3_feed_51 : decode cX3_feed 51 = .ok (.iload_n 3, 1) := by decide +kernel
theorem dX3_feed_52 : decode cX3_feed 52 = .ok (.ishr, 1) := by decide +kernel
theorem dX3_feed_53 : decode cX3_feed 53 = .ok (.sipush 255, 3) := by decide +kernel
theorem dX3_feed_56 : decode cX3_feed 56 = .ok (.iand, 1) := by decide +kernel
theorem dX3_feed_57 : decode cX3_feed 57 = .ok (.invokevirtual 197, 3) := by decide +kernel
theorem dX3_feed_60 : decode cX3_feed 60 = .ok (.iinc 3 (-8), 3) := by decide +kernel
theorem dX3_feed_63 : decode cX3_feed 63 = .ok (.goto (-21), 3) := by decide +kernel
theorem dX3_feed_66 : decode cX3_feed 66 = .ok (.aload_n 0, 1) := by decide +kernel
theorem dX3_feed_67 : decode cX3_feed 67 = .ok (.getfield 25, 3) := by decide +kernel
theorem dX3_feed_70 : decode cX3_feed 70 = .ok (.getfield 194, 3) := by decide +kernel
theorem dX3_feed_73 : decode cX3_feed 73 = .ok (.ireturn, 1) := by decide +kernel
theorem dX3_wipe_0 : decode cX3_wipe 0 = .ok (.aload_n 0, 1) := by decide +kernel
theorem dX3_wipe_1 : decode cX3_wipe 1 = .ok (.getfield 25, 3) := by decide +kernel
theorem dX3_wipe_4 : decode cX3_wipe 4 = .ok (.getfield 194, 3) := by decide +kernel
theorem dX3_wipe_7 : decode cX3_wipe 7 = .ok (.istore_n 1, 1) := by decide +kernel
theorem dX3_wipe_8 : decode cX3_wipe 8 = .ok (.aload_n 0, 1) := by decide +kernel
theorem dX3_wipe_9 : decode cX3_wipe 9 = .ok (.getfield 25, 3) := by decide +kernel
theorem dX3_wipe_12 : decode cX3_wipe 12 = .ok (.iconst 0, 1) := by decide +kernel
theorem dX3_wipe_13 : decode cX3_wipe 13 = .ok (.putfield 194, 3) := by decide +kernel
theorem dX3_wipe_16 : decode cX3_wipe 16 = .ok (.iload_n 1, 1) := by decide +kernel
theorem dX3_wipe_17 : decode cX3_wipe 17 = .ok (.ireturn, 1) := by decide +kernel
theorem dX3_text_0 : decode cX3_text 0 = .ok (.aload_n 0, 1) := by decide +kernel
theorem dX3_text_1 : decode cX3_text 1 = .ok (.getfield 16, 3) := by decide +kernel
theorem dX3_text_4 : decode cX3_text 4 = .ok (.aload_n 0, 1) := by decide +kernel
theorem dX3_text_5 : decode cX3_text 5 = .ok (.getfield 10, 3) := by decide +kernel
theorem dX3_text_8 : decode cX3_text 8 = .ok (.invokevirtual 133, 3) := by decide +kernel
theorem dX3_text_11 : decode cX3_text 11 = .ok (.aload_n 0, 1) := by decide +kernel
theorem dX3_text_12 : decode cX3_text 12 = .ok (.getfield 25, 3) := by decide +kernel
theorem dX3_text_15 : decode cX3_text 15 = .ok (.aload_n 0, 1) := by decide +kernel
theorem dX3_text_16 : decode cX3_text 16 = .ok (.getfield 16, 3) := by decide +kernel
theorem dX3_text_19 : decode cX3_text 19 = .ok (.invokevirtual 200, 3) := by decide +kernel
theorem dX3_text_22 : decode cX3_text 22 = .ok (.istore_n 1, 1) := by decide +kernel
theorem dX3_text_23 : decode cX3_text 23 = .ok (.iload_n 1, 1) := by decide +kernel
theorem dX3_text_24 : decode cX3_text 24 = .ok (.ifCond .lt 14, 3) := by decide +kernel
theorem dX3_text_27 : decode cX3_text 27 = .ok (.aload_n 0, 1) := by decide +kernel
theorem dX3_text_28 : decode cX3_text 28 = .ok (.getfield 10, 3) := by decide +kernel
theorem dX3_text_31 : decode cX3_text 31 = .ok (.aload_n 0, 1) := by decide +kernel
theorem dX3_text_32 : decode cX3_text 32 = .ok (.getfield 16, 3) := by decide +kernel
theorem dX3_text_35 : decode cX3_text 35 = .ok (.invokevirtual 133, 3) := by decide +kernel
theorem dX3_text_38 : decode cX3_text 38 = .ok (.aload_n 0, 1) := by decide +kernel
theorem dX3_text_39 : decode cX3_text 39 = .ok (.getfield 25, 3) := by decide +kernel
theorem dX3_text_42 : decode cX3_text 42 = .ok (.iconst 0, 1) := by decide +kernel
theorem dX3_text_43 : decode cX3_text 43 = .ok (.putfield 194, 3) := by decide +kernel
theorem dX3_text_46 : decode cX3_text 46 = .ok (.iload_n 1, 1) := by decide +kernel
theorem dX3_text_47 : decode cX3_text 47 = .ok (.ireturn, 1) := by decide +kernel
theorem dX3_hold_0 : decode cX3_hold 0 = .ok (.iload_n 1, 1) := by decide +kernel
theorem dX3_hold_1 : decode cX3_hold 1 = .ok (.iconst 0, 1) := by decide +kernel
theorem dX3_hold_2 : decode cX3_hold 2 = .ok (.bipush 9, 2) := by decide +kernel
theorem dX3_hold_4 : decode cX3_hold 4 = .ok (.invokestatic 40, 3) := by decide +kernel
theorem dX3_hold_7 : decode cX3_hold 7 = .ok (.ifCond .ne 19, 3) := by decide +kernel
theorem dX3_hold_10 : decode cX3_hold 10 = .ok (.iload_n 2, 1) := by decide +kernel
theorem dX3_hold_11 : decode cX3_hold 11 = .ok (.iconst (-1), 1) := by decide +kernel
theorem dX3_hold_12 : decode cX3_hold 12 = .ok (.if_icmp .eq 20, 3) := by decide +kernel
theorem dX3_hold_15 : decode cX3_hold 15 = .ok (.aload_n 0, 1) := by decide +kernel
theorem dX3_hold_16 : decode cX3_hold 16 = .ok (.getfield 10, 3) := by decide +kernel
theorem dX3_hold_19 : decode cX3_hold 19 = .ok (.iload_n 2, 1) := by decide +kernel
theorem dX3_hold_20 : decode cX3_hold 20 = .ok (.invokevirtual 64, 3) := by decide +kernel
theorem dX3_hold_23 : decode cX3_hold 23 = .ok (.ifCond .eq 9, 3) := by decide +kernel
theorem dX3_hold_26 : decode cX3_hold 26 = .ok (.aload_n 0, 1) := by decide +kernel
theorem dX3_hold_27 : decode cX3_hold 27 = .ok (.iconst 0, 1) := by decide +kernel
theorem dX3_hold_28 : decode cX3_hold 28 = .ok (.invokevirtual 44, 3) := by decide +kernel
theorem dX3_hold_31 : decode cX3_hold 31 = .ok (.ireturn, 1) := by decide +kernel
theorem dX3_hold_32 : decode cX3_hold 32 = .ok (.aload_n 0, 1) := by decide +kernel
theorem dX3_hold_33 : decode cX3_hold 33 = .ok (.getfield 10, 3) := by decide +kernel
theorem dX3_hold_36 : decode cX3_hold 36 = .ok (.getfield 204, 3) := by decide +kernel
theorem dX3_hold_39 : decode cX3_hold 39 = .ok (.iload_n 1, 1) := by decide +kernel
theorem dX3_hold_40 : decode cX3_hold 40 = .ok (.iload_n 2, 1) := by decide +kernel
theorem dX3_hold_41 : decode cX3_hold 41 = .ok (.iastore, 1) := by decide +kernel
theorem dX3_hold_42 : decode cX3_hold 42 = .ok (.iconst 1, 1) := by decide +kernel
theorem dX3_hold_43 : decode cX3_hold 43 = .ok (.ireturn, 1) := by decide +kernel
theorem dX3_as_0 : decode cX3_as 0 = .ok (.iload_n 1, 1) := by decide +kernel
theorem dX3_as_1 : decode cX3_as 1 = .ok (.iconst 0, 1) := by decide +kernel
theorem dX3_as_2 : decode cX3_as 2 = .ok (.bipush 9, 2) := by decide +kernel
theorem dX3_as_4 : decode cX3_as 4 = .ok (.invokestatic 40, 3) := by decide +kernel
theorem dX3_as_7 : decode cX3_as 7 = .ok (.ifCond .ne 13, 3) := by decide +kernel
theorem dX3_as_10 : decode cX3_as 10 = .ok (.iload_n 2, 1) := by decide +kernel
theorem dX3_as_11 : decode cX3_as 11 = .ok (.iconst 0, 1) := by decide +kernel
theorem dX3_as_12 : decode cX3_as 12 = .ok (.bipush 6, 2) := by decide +kernel
theorem dX3_as_14 : decode cX3_as 14 = .ok (.invokestatic 40, 3) := by decide +kernel
theorem dX3_as_17 : decode cX3_as 17 = .ok (.ifCond .eq 9, 3) := by decide +kernel
theorem dX3_as_20 : decode cX3_as 20 = .ok (.aload_n 0, 1) := by decide +kernel
theorem dX3_as_21 : decode cX3_as 21 = .ok (.iconst 0, 1) := by decide +kernel
theorem dX3_as_22 : decode cX3_as 22 = .ok (.invokevirtual 44, 3) := by decide +kernel
theorem dX3_as_25 : decode cX3_as 25 = .ok (.ireturn, 1) := by decide +kernel
theorem dX3_as_26 : decode cX3_as 26 = .ok (.aload_n 0, 1) := by decide +kernel
theorem dX3_as_27 : decode cX3_as 27 = .ok (.getfield 10, 3) := by decide +kernel
theorem dX3_as_30 : decode cX3_as 30 = .ok (.getfield 204, 3) := by decide +kernel
theorem dX3_as_33 : decode cX3_as 33 = .ok (.iload_n 1, 1) := by decide +kernel
theorem dX3_as_34 : decode cX3_as 34 = .ok (.iaload, 1) := by decide +kernel
theorem dX3_as_35 : decode cX3_as 35 = .ok (.istore_n 3, 1) := by decide +kernel
theorem dX3_as_36 : decode cX3_as 36 = .ok (.aload_n 0, 1) := by decide +kernel
theorem dX3_as_37 : decode cX3_as 37 = .ok (.getfield 10, 3) := by decide +kernel
theorem dX3_as_40 : decode cX3_as 40 = .ok (.iload_n 3, 1) := by decide +kernel
theorem dX3_as_41 : decode cX3_as 41 = .ok (.invokevirtual 64, 3) := by decide +kernel
theorem dX3_as_44 : decode cX3_as 44 = .ok (.ifCond .eq 9, 3) := by decide +kernel
theorem dX3_as_47 : decode cX3_as 47 = .ok (.aload_n 0, 1) := by decide +kernel
theorem dX3_as_48 : decode cX3_as 48 = .ok (.iconst 5, 1) := by decide +kernel
theorem dX3_as_49 : decode cX3_as 49 = .ok (.invokevirtual 44, 3) := by decide +kernel
theorem dX3_as_52 : decode cX3_as 52 = .ok (.ireturn, 1) := by decide +kernel
theorem dX3_as_53 : decode cX3_as 53 = .ok (.aload_n 0, 1) := by decide +kernel
theorem dX3_as_54 : decode cX3_as 54 = .ok (.getfield 10, 3) := by decide +kernel
theorem dX3_as_57 : decode cX3_as 57 = .ok (.iload_n 3, 1) := by decide +kernel
theorem dX3_as_58 : decode cX3_as 58 = .ok (.iconst 0, 1) := by decide +kernel
theorem dX3_as_59 : decode cX3_as 59 = .ok (.invokevirtual 79, 3) := by decide +kernel
theorem dX3_as_62 : decode cX3_as 62 = .ok (.iload_n 2, 1) := by decide +kernel
theorem dX3_as_63 : decode cX3_as 63 = .ok (.invokestatic 207, 3) := by decide +kernel
theorem dX3_as_66 : decode cX3_as 66 = .ok (.ifCond .eq 7, 3) := by decide +kernel
theorem dX3_as_69 : decode cX3_as 69 = .ok (.iload_n 3, 1) := by decide +kernel
theorem dX3_as_70 : decode cX3_as 70 = .ok (.goto 8, 3) := by decide +kernel
theorem dX3_as_73 : decode cX3_as 73 = .ok (.aload_n 0, 1) := by decide +kernel
theorem dX3_as_74 : decode cX3_as 74 = .ok (.iconst 2, 1) := by decide +kernel
theorem dX3_as_75 : decode cX3_as 75 = .ok (.invokevirtual 44, 3) := by decide +kernel
theorem dX3_as_78 : decode cX3_as 78 = .ok (.ireturn, 1) := by decide +kernel
theorem dX3_sheet_0 : decode cX3_sheet 0 = .ok (.iload_n 1, 1) := by decide +kernel
theorem dX3_sheet_1 : decode cX3_sheet 1 = .ok (.invokestatic 210, 3) := by decide +kernel
theorem dX3_sheet_4 : decode cX3_sheet 4 = .ok (.ifCond .ne 25, 3) := by decide +kernel
theorem dX3_sheet_7 : decode cX3_sheet 7 = .ok (.iload_n 2, 1) := by decide +kernel
theorem dX3_sheet_8 : decode cX3_sheet 8 = .ok (.ifCond .eq 27, 3) := by decide +kernel
theorem dX3_sheet_11 : decode cX3_sheet 11 = .ok (.iload_n 2, 1) := by decide +kernel
theorem dX3_sheet_12 : decode cX3_sheet 12 = .ok (.bipush 8, 2) := by decide +kernel
theorem dX3_sheet_14 : decode cX3_sheet 14 = .ok (.if_icmp .eq 21, 3) := by decide +kernel
theorem dX3_sheet_17 : decode cX3_sheet 17 = .ok (.iload_n 2, 1) := by decide +kernel
theorem dX3_sheet_18 : decode cX3_sheet 18 = .ok (.bipush 16, 2) := by decide +kernel
theorem dX3_sheet_20 : decode cX3_sheet 20 = .ok (.if_icmp .eq 15, 3) := by decide +kernel
theorem dX3_sheet_23 : decode cX3_sheet 23 = .ok (.iload_n 2, 1) := by decide +kernel
theorem dX3_sheet_24 : decode cX3_sheet 24 = .ok (.bipush 32, 2) := by decide +kernel
theorem dX3_sheet_26 : decode cX3_sheet 26 = .ok (.if_icmp .eq 9, 3) := by decide +kernel
theorem dX3_sheet_29 : decode cX3_sheet 29 = .ok (.aload_n 0, 1) := by decide +kernel
theorem dX3_sheet_30 : decode cX3_sheet 30 = .ok (.iconst 0, 1) := by decide +kernel
theorem dX3_sheet_31 : decode cX3_sheet 31 = .ok (.invokevirtual 44, 3) := by decide +kernel
theorem dX3_sheet_34 : decode cX3_sheet 34 = .ok (.ireturn, 1) := by decide +kernel
theorem dX3_sheet_35 : decode cX3_sheet 35 = .ok (.iload_n 3, 1) := by decide +kernel
theorem dX3_sheet_36 : decode cX3_sheet 36 = .ok (.ifCond .ge 10, 3) := by decide +kernel
theorem dX3_sheet_39 : decode cX3_sheet 39 = .ok (.aload_n 0, 1) := by decide +kernel
theorem dX3_sheet_40 : decode cX3_sheet 40 = .ok (.bipush 6, 2) := by decide +kernel
theorem dX3_sheet_42 : decode cX3_sheet 42 = .ok (.invokevirtual 44, 3) := by decide +kernel
theorem dX3_sheet_45 : decode cX3_sheet 45 = .ok (.ireturn, 1) := by decide +kernel
theorem dX3_sheet_46 : decode cX3_sheet 46 = .ok (.iload_n 3, 1) := by decide +kernel
theorem dX3_sheet_47 : decode cX3_sheet 47 = .ok (.bipush 40, 2) := by decide +kernel
theorem dX3_sheet_49 : decode cX3_sheet 49 = .ok (.if_icmp .le 9, 3) := by decide +kernel
theorem dX3_sheet_52 : decode cX3_sheet 52 = .ok (.aload_n 0, 1) := by decide +kernel
theorem dX3_sheet_53 : decode cX3_sheet 53 = .ok (.iconst 0, 1) := by decide +kernel
theorem dX3_sheet_54 : decode cX3_sheet 54 = .ok (.invokevirtual 44, 3) := by decide +kernel
theorem dX3_sheet_57 : decode cX3_sheet 57 = .ok (.ireturn, 1) := by decide +kernel
theorem dX3_sheet_58 : decode cX3_sheet 58 = .ok (.aload_n 0, 1) := by decide +kernel
theorem dX3_sheet_59 : decode cX3_sheet 59 = .ok (.getfield 31, 3) := by decide +kernel
theorem dX3_sheet_62 : decode cX3_sheet 62 = .ok (.iload_n 1, 1) := by decide +kernel
theorem dX3_sheet_63 : decode cX3_sheet 63 = .ok (.aaload, 1) := by decide +kernel
theorem dX3_sheet_64 : decode cX3_sheet 64 = .ok (.iload_n 2, 1) := by decide +kernel
theorem dX3_sheet_65 : decode cX3_sheet 65 = .ok (.iload_n 3, 1) := by decide +kernel
theorem dX3_sheet_66 : decode cX3_sheet 66 = .ok (.invokevirtual 213, 3) := by decide +kernel
theorem dX3_sheet_69 : decode cX3_sheet 69 = .ok (.aload_n 0, 1) := by decide +kernel
theorem dX3_sheet_70 : decode cX3_sheet 70 = .ok (.getfield 31, 3) := by decide +kernel
theorem dX3_sheet_73 : decode cX3_sheet 73 = .ok (.iload_n 1, 1) := by decide +kernel
theorem dX3_sheet_74 : decode cX3_sheet 74 = .ok (.aaload, 1) := by decide +kernel
theorem dX3_sheet_75 : decode cX3_sheet 75 = .ok (.getfield 217, 3) := by decide +kernel
theorem dX3_sheet_78 : decode cX3_sheet 78 = .ok (.ireturn, 1) := by decide +kernel
theorem dX3_write_0 : decode cX3_write 0 = .ok (.aload_n 0, 1) := by decide +kernel
theorem dX3_write_1 : decode cX3_write 1 = .ok (.iload_n 1, 1) := by decide +kernel
theorem dX3_write_2 : decode cX3_write 2 = .ok (.invokevirtual 218, 3) := by decide +kernel
theorem dX3_write_5 : decode cX3_write 5 = .ok (.istore 4, 2) := by decide +kernel
theorem dX3_write_7 : decode cX3_write 7 = .ok (.iload 4, 2) := by decide +kernel
theorem dX3_write_9 : decode cX3_write 9 = .ok (.ifCond .lt 10, 3) := by decide +kernel
theorem dX3_write_12 : decode cX3_write 12 = .ok (.aload_n 0, 1) := by decide +kernel
theorem dX3_write_13 : decode cX3_write 13 = .ok (.iload 4, 2) := by decide +kernel
theorem dX3_write_15 : decode cX3_write 15 = .ok (.invokevirtual 44, 3) := by decide +kernel
theorem dX3_write_18 : decode cX3_write 18 = .ok (.ireturn, 1) := by decide +kernel
theorem dX3_write_19 : decode cX3_write 19 = .ok (.iload_n 2, 1) := by decide +kernel
theorem dX3_write_20 : decode cX3_write 20 = .ok (.iconst 0, 1) := by decide +kernel
theorem dX3_write_21 : decode cX3_write 21 = .ok (.aload_n 0, 1) := by decide +kernel
theorem dX3_write_22 : decode cX3_write 22 = .ok (.getfield 31, 3) := by decide +kernel
theorem dX3_write_25 : decode cX3_write 25 = .ok (.iload_n 1, 1) := by decide +kernel
theorem dX3_write_26 : decode cX3_write 26 = .ok (.aaload, 1) := by decide +kernel
theorem dX3_write_27 : decode cX3_write 27 = .ok (.getfield 217, 3) := by decide +kernel
theorem dX3_write_30 : decode cX3_write 30 = .ok (.iconst 1, 1) := by decide +kernel
theorem dX3_write_31 : decode cX3_write 31 = .ok (.isub, 1) := by decide +kernel
theorem dX3_write_32 : decode cX3_write 32 = .ok (.invokestatic 40, 3) := by decide +kernel
theorem dX3_write_35 : decode cX3_write 35 = .ok (.ifCond .eq 9, 3) := by decide +kernel
theorem dX3_write_38 : decode cX3_write 38 = .ok (.aload_n 0, 1) := by decide +kernel
theorem dX3_write_39 : decode cX3_write 39 = .ok (.iconst 0, 1) := by decide +kernel
theorem dX3_write_40 : decode cX3_write 40 = .ok (.invokevirtual 44, 3) := by decide +kernel
theorem dX3_write_43 : decode cX3_write 43 = .ok (.ireturn, 1) := by decide +kernel
theorem dX3_write_44 : decode cX3_write 44 = .ok (.aload_n 0, 1) := by decide +kernel
theorem dX3_write_45 : decode cX3_write 45 = .ok (.getfield 31, 3) := by decide +kernel
theorem dX3_write_48 : decode cX3_write 48 = .ok (.iload_n 1, 1) := by decide +kernel
theorem dX3_write_49 : decode cX3_write 49 = .ok (.aaload, 1) := by decide +kernel
theorem dX3_write_50 : decode cX3_write 50 = .ok (.iload_n 2, 1) := by decide +kernel
theorem dX3_write_51 : decode cX3_write 51 = .ok (.iload_n 3, 1) := by decide +kernel
theorem dX3_write_52 : decode cX3_write 52 = .ok (.invokevirtual 221, 3) := by decide +kernel
theorem dX3_write_55 : decode cX3_write 55 = .ok (.iconst 1, 1) := by decide +kernel
theorem dX3_write_56 : decode cX3_write 56 = .ok (.ireturn, 1) := by decide +kernel
theorem dX3_copy_0 : decode cX3_copy 0 = .ok (.iload_n 1, 1) := by decide +kernel
theorem dX3_copy_1 : decode cX3_copy 1 = .ok (.invokestatic 210, 3) := by decide +kernel
theorem dX3_copy_4 : decode cX3_copy 4 = .ok (.ifCond .ne 10, 3) := by decide +kernel
theorem dX3_copy_7 : decode cX3_copy 7 = .ok (.iload_n 3, 1) := by decide +kernel
theorem dX3_copy_8 : decode cX3_copy 8 = .ok (.invokestatic 210, 3) := by decide +kernel
theorem dX3_copy_11 : decode cX3_copy 11 = .ok (.ifCond .eq 9, 3) := by decide +kernel
theorem dX3_copy_14 : decode cX3_copy 14 = .ok (.aload_n 0, 1) := by decide +kernel
theorem dX3_copy_15 : decode cX3_copy 15 = .ok (.iconst 0, 1) := by decide +kernel
theorem dX3_copy_16 : decode cX3_copy 16 = .ok (.invokevirtual 44, 3) := by decide +kernel
theorem dX3_copy_19 : decode cX3_copy 19 = .ok (.ireturn, 1) := by decide +kernel
theorem dX3_copy_20 : decode cX3_copy 20 = .ok (.aload_n 0, 1) := by decide +kernel
theorem dX3_copy_21 : decode cX3_copy 21 = .ok (.getfield 31, 3) := by decide +kernel
theorem dX3_copy_24 : decode cX3_copy 24 = .ok (.iload_n 1, 1) := by decide +kernel
theorem dX3_copy_25 : decode cX3_copy 25 = .ok (.aaload, 1) := by decide +kernel
theorem dX3_copy_26 : decode cX3_copy 26 = .ok (.astore 6, 2) := by decide +kernel
theorem dX3_copy_28 : decode cX3_copy 28 = .ok (.aload_n 0, 1) := by decide +kernel
theorem dX3_copy_29 : decode cX3_copy 29 = .ok (.getfield 31, 3) := by decide +kernel
theorem dX3_copy_32 : decode cX3_copy 32 = .ok (.iload_n 3, 1) := by decide +kernel
theorem dX3_copy_33 : decode cX3_copy 33 = .ok (.aaload, 1) := by decide +kernel
theorem dX3_copy_34 : decode cX3_copy 34 = .ok (.astore 7, 2) := by decide +kernel
theorem dX3_copy_36 : decode cX3_copy 36 = .ok (.aload 6, 2) := by decide +kernel
theorem dX3_copy_38 : decode cX3_copy 38 = .ok (.invokevirtual 224, 3) := by decide +kernel
theorem dX3_copy_41 : decode cX3_copy 41 = .ok (.ifCond .ne 11, 3) := by decide +kernel
theorem dX3_copy_44 : decode cX3_copy 44 = .ok (.aload 7, 2) := by decide +kernel
theorem dX3_copy_46 : decode cX3_copy 46 = .ok (.invokevirtual 224, 3) := by decide +kernel
theorem dX3_copy_49 : decode cX3_copy 49 = .ok (.ifCond .eq 9, 3) := by decide +kernel
theorem dX3_copy_52 : decode cX3_copy 52 = .ok (.aload_n 0, 1) := by decide +kernel
theorem dX3_copy_53 : decode cX3_copy 53 = .ok (.iconst 5, 1) := by decide +kernel
theorem dX3_copy_54 : decode cX3_copy 54 = .ok (.invokevirtual 44, 3) := by decide +kernel
theorem dX3_copy_57 : decode cX3_copy 57 = .ok (.ireturn, 1) := by decide +kernel
theorem dX3_copy_58 : decode cX3_copy 58 = .ok (.aload 6, 2) := by decide +kernel
theorem dX3_copy_60 : decode cX3_copy 60 = .ok (.getfield 227, 3) := by decide +kernel
theorem dX3_copy_63 : decode cX3_copy 63 = .ok (.aload 7, 2) := by decide +kernel
theorem dX3_copy_65 : decode cX3_copy 65 = .ok (.getfield 227, 3) := by decide +kernel
theorem dX3_copy_68 : decode cX3_copy 68 = .ok (.if_icmp .eq 9, 3) := by decide +kernel
theorem dX3_copy_71 : decode cX3_copy 71 = .ok (.aload_n 0, 1) := by decide +kernel
theorem dX3_copy_72 : decode cX3_copy 72 = .ok (.iconst 2, 1) := by decide +kernel
theorem dX3_copy_73 : decode cX3_copy 73 = .ok (.invokevirtual 44, 3) := by decide +kernel
theorem dX3_copy_76 : decode cX3_copy 76 = .ok (.ireturn, 1) := by decide +kernel
theorem dX3_copy_77 : decode cX3_copy 77 = .ok (.aload 6, 2) := by decide +kernel
theorem dX3_copy_79 : decode cX3_copy 79 = .ok (.iload_n 2, 1) := by decide +kernel
theorem dX3_copy_80 : decode cX3_copy 80 = .ok (.iload 5, 2) := by decide +kernel
theorem dX3_copy_82 : decode cX3_copy 82 = .ok (.invokevirtual 230, 3) := by decide +kernel
theorem dX3_copy_85 : decode cX3_copy 85 = .ok (.ifCond .eq 15, 3) := by decide +kernel
theorem dX3_copy_88 : decode cX3_copy 88 = .ok (.aload 7, 2) := by decide +kernel
theorem dX3_copy_90 : decode cX3_copy 90 = .ok (.iload 4, 2) := by decide +kernel
theorem dX3_copy_92 : decode cX3_copy 92 = .ok (.iload 5, 2) := by decide +kernel
theorem dX3_copy_94 : decode cX3_copy 94 = .ok (.invokevirtual 230, 3) := by decide +kernel
theorem dX3_copy_97 : decode cX3_copy 97 = .ok (.ifCond .ne 9, 3) := by decide +kernel
theorem dX3_copy_100 : decode cX3_copy 100 = .ok (.aload_n 0, 1) := by decide +kernel
theorem dX3_copy_101 : decode cX3_copy 101 = .ok (.iconst 0, 1) := by decide +kernel
theorem dX3_copy_102 : decode cX3_copy 102 = .ok (.invokevirtual 44, 3) := by decide +kernel
theorem dX3_copy_105 : decode cX3_copy 105 = .ok (.ireturn, 1) := by decide +kernel
theorem dX3_copy_106 : decode cX3_copy 106 = .ok (.aload 6, 2) := by decide +kernel
theorem dX3_copy_108 : decode cX3_copy 108 = .ok (.getfield 233, 3) := by decide +kernel
theorem dX3_copy_111 : decode cX3_copy 111 = .ok (.iload_n 2, 1) := by decide +kernel
theorem dX3_copy_112 : decode cX3_copy 112 = .ok (.aload 7, 2) := by decide +kernel
theorem dX3_copy_114 : decode cX3_copy 114 = .ok (.getfield 233, 3) := by decide +kernel
theorem dX3_copy_117 : decode cX3_copy 117 = .ok (.iload 4, 2) := by decide +kernel
theorem dX3_copy_119 : decode cX3_copy 119 = .ok (.iload 5, 2) := by decide +kernel
theorem dX3_copy_121 : decode cX3_copy 121 = .ok (.invokestatic 236, 3) := by decide +kernel
theorem dX3_copy_124 : decode cX3_copy 124 = .ok (.iload 5, 2) := by decide +kernel
theorem dX3_copy_126 : decode cX3_copy 126 = .ok (.ireturn, 1) := by decide +kernel
theorem dX3_load_0 : decode cX3_load 0 = .ok (.aload_n 0, 1) := by decide +kernel
theorem dX3_load_1 : decode cX3_load 1 = .ok (.iload_n 1, 1) := by decide +kernel
theorem dX3_load_2 : decode cX3_load 2 = .ok (.invokevirtual 218, 3) := by decide +kernel
theorem dX3_load_5 : decode cX3_load 5 = .ok (.istore_n 2, 1) := by decide +kernel
theorem dX3_load_6 : decode cX3_load 6 = .ok (.iload_n 2, 1) := by decide +kernel
theorem dX3_load_7 : decode cX3_load 7 = .ok (.ifCond .lt 9, 3) := by decide +kernel
theorem dX3_load_10 : decode cX3_load 10 = .ok (.aload_n 0, 1) := by decide +kernel
theorem dX3_load_11 : decode cX3_load 11 = .ok (.iload_n 2, 1) := by decide +kernel
theorem dX3_load_12 : decode cX3_load 12 = .ok (.invokevirtual 44, 3) := by decide +kernel
theorem dX3_load_15 : decode cX3_load 15 = .ok (.ireturn, 1) := by decide +kernel
end
section
theorem dX3_load_16 : decode cX3_load 16 = .ok (.aload_n 0, 1) := by decide +kernel
theorem dX3_load_17 : decode cX3_load 17 = .ok (.getfield 31, 3) := by decide +kernel
theorem dX3_load_20 : decode cX3_load 20 = .ok (.iload_n 1, 1) := by decide +kernel
theorem dX3_load_21 : decode cX3_load 21 = .ok (.aaload, 1) := by decide +kernel
theorem dX3_load_22 : decode cX3_load 22 = .ok (.astore_n 3, 1) := by decide +kernel
theorem dX3_load_23 : decode cX3_load 23 = .ok (.iconst 0, 1) := by decide +kernel
theorem dX3_load_24 : decode cX3_load 24 = .ok (.istore 4, 2) := by decide +kernel
theorem dX3_load_26 : decode cX3_load 26 = .ok (.iload 4, 2) := by decide +kernel
theorem dX3_load_28 : decode cX3_load 28 = .ok (.aload_n 3, 1) := by decide +kernel
theorem dX3_load_29 : decode cX3_load 29 = .ok (.getfield 217, 3) := by decide +kernel
theorem dX3_load_32 : decode cX3_load 32 = .ok (.if_icmp .ge 54, 3) := by decide +kernel
theorem dX3_load_35 : decode cX3_load 35 = .ok (.aload_n 0, 1) := by decide +kernel
theorem dX3_load_36 : decode cX3_load 36 = .ok (.getfield 10, 3) := by decide +kernel
theorem dX3_load_39 : decode cX3_load 39 = .ok (.iload 4, 2) := by decide +kernel
theorem dX3_load_41 : decode cX3_load 41 = .ok (.invokevirtual 64, 3) := by decide +kernel
theorem dX3_load_44 : decode cX3_load 44 = .ok (.ifCond .ne 42, 3) := by decide +kernel
theorem dX3_load_47 : decode cX3_load 47 = .ok (.aload_n 3, 1) := by decide +kernel
theorem dX3_load_48 : decode cX3_load 48 = .ok (.getfield 233, 3) := by decide +kernel
theorem dX3_load_51 : decode cX3_load 51 = .ok (.iload 4, 2) := by decide +kernel
theorem dX3_load_53 : decode cX3_load 53 = .ok (.iaload, 1) := by decide +kernel
theorem dX3_load_54 : decode cX3_load 54 = .ok (.iconst 0, 1) := by decide +kernel
theorem dX3_load_55 : decode cX3_load 55 = .ok (.bipush 99, 2) := by decide +kernel
theorem dX3_load_57 : decode cX3_load 57 = .ok (.invokestatic 40, 3) := by decide +kernel
theorem dX3_load_60 : decode cX3_load 60 = .ok (.ifCond .ne 26, 3) := by decide +kernel
theorem dX3_load_63 : decode cX3_load 63 = .ok (.aload_n 0, 1) := by decide +kernel
theorem dX3_load_64 : decode cX3_load 64 = .ok (.getfield 10, 3) := by decide +kernel
theorem dX3_load_67 : decode cX3_load 67 = .ok (.iload 4, 2) := by decide +kernel
theorem dX3_load_69 : decode cX3_load 69 = .ok (.iconst 4, 1) := by decide +kernel
theorem dX3_load_70 : decode cX3_load 70 = .ok (.aload_n 3, 1) := by decide +kernel
theorem dX3_load_71 : decode cX3_load 71 = .ok (.getfield 233, 3) := by decide +kernel
theorem dX3_load_74 : decode cX3_load 74 = .ok (.iload 4, 2) := by decide +kernel
theorem dX3_load_76 : decode cX3_load 76 = .ok (.iaload, 1) := by decide +kernel
theorem dX3_load_77 : decode cX3_load 77 = .ok (.invokevirtual 88, 3) := by decide +kernel
theorem dX3_load_80 : decode cX3_load 80 = .ok (.iinc 4 1, 3) := by decide +kernel
theorem dX3_load_83 : decode cX3_load 83 = .ok (.goto (-57), 3) := by decide +kernel
theorem dX3_load_86 : decode cX3_load 86 = .ok (.iload 4, 2) := by decide +kernel
theorem dX3_load_88 : decode cX3_load 88 = .ok (.ireturn, 1) := by decide +kernel
theorem dX3_judge_0 : decode cX3_judge 0 = .ok (.aload_n 0, 1) := by decide +kernel
theorem dX3_judge_1 : decode cX3_judge 1 = .ok (.iload_n 1, 1) := by decide +kernel
theorem dX3_judge_2 : decode cX3_judge 2 = .ok (.invokevirtual 218, 3) := by decide +kernel
theorem dX3_judge_5 : decode cX3_judge 5 = .ok (.istore_n 2, 1) := by decide +kernel
theorem dX3_judge_6 : decode cX3_judge 6 = .ok (.iload_n 2, 1) := by decide +kernel
theorem dX3_judge_7 : decode cX3_judge 7 = .ok (.ifCond .lt 9, 3) := by decide +kernel
theorem dX3_judge_10 : decode cX3_judge 10 = .ok (.aload_n 0, 1) := by decide +kernel
theorem dX3_judge_11 : decode cX3_judge 11 = .ok (.iload_n 2, 1) := by decide +kernel
theorem dX3_judge_12 : decode cX3_judge 12 = .ok (.invokevirtual 44, 3) := by decide +kernel
theorem dX3_judge_15 : decode cX3_judge 15 = .ok (.ireturn, 1) := by decide +kernel
theorem dX3_judge_16 : decode cX3_judge 16 = .ok (.aload_n 0, 1) := by decide +kernel
theorem dX3_judge_17 : decode cX3_judge 17 = .ok (.getfield 31, 3) := by decide +kernel
theorem dX3_judge_20 : decode cX3_judge 20 = .ok (.iload_n 1, 1) := by decide +kernel
theorem dX3_judge_21 : decode cX3_judge 21 = .ok (.aaload, 1) := by decide +kernel
theorem dX3_judge_22 : decode cX3_judge 22 = .ok (.astore_n 3, 1) := by decide +kernel
theorem dX3_judge_23 : decode cX3_judge 23 = .ok (.iconst 0, 1) := by decide +kernel
theorem dX3_judge_24 : decode cX3_judge 24 = .ok (.istore 4, 2) := by decide +kernel
theorem dX3_judge_26 : decode cX3_judge 26 = .ok (.iload 4, 2) := by decide +kernel
theorem dX3_judge_28 : decode cX3_judge 28 = .ok (.aload_n 3, 1) := by decide +kernel
theorem dX3_judge_29 : decode cX3_judge 29 = .ok (.getfield 217, 3) := by decide +kernel
theorem dX3_judge_32 : decode cX3_judge 32 = .ok (.if_icmp .ge 45, 3) := by decide +kernel
theorem dX3_judge_35 : decode cX3_judge 35 = .ok (.aload_n 0, 1) := by decide +kernel
theorem dX3_judge_36 : decode cX3_judge 36 = .ok (.getfield 10, 3) := by decide +kernel
theorem dX3_judge_39 : decode cX3_judge 39 = .ok (.iload 4, 2) := by decide +kernel
theorem dX3_judge_41 : decode cX3_judge 41 = .ok (.invokevirtual 64, 3) := by decide +kernel
theorem dX3_judge_44 : decode cX3_judge 44 = .ok (.ifCond .ne 22, 3) := by decide +kernel
theorem dX3_judge_47 : decode cX3_judge 47 = .ok (.aload_n 0, 1) := by decide +kernel
theorem dX3_judge_48 : decode cX3_judge 48 = .ok (.getfield 10, 3) := by decide +kernel
theorem dX3_judge_51 : decode cX3_judge 51 = .ok (.iload 4, 2) := by decide +kernel
theorem dX3_judge_53 : decode cX3_judge 53 = .ok (.invokevirtual 137, 3) := by decide +kernel
theorem dX3_judge_56 : decode cX3_judge 56 = .ok (.aload_n 3, 1) := by decide +kernel
theorem dX3_judge_57 : decode cX3_judge 57 = .ok (.getfield 233, 3) := by decide +kernel
theorem dX3_judge_60 : decode cX3_judge 60 = .ok (.iload 4, 2) := by decide +kernel
theorem dX3_judge_62 : decode cX3_judge 62 = .ok (.iaload, 1) := by decide +kernel
theorem dX3_judge_63 : decode cX3_judge 63 = .ok (.if_icmp .eq 8, 3) := by decide +kernel
theorem dX3_judge_66 : decode cX3_judge 66 = .ok (.iconst 1, 1) := by decide +kernel
theorem dX3_judge_67 : decode cX3_judge 67 = .ok (.iload 4, 2) := by decide +kernel
theorem dX3_judge_69 : decode cX3_judge 69 = .ok (.iadd, 1) := by decide +kernel
theorem dX3_judge_70 : decode cX3_judge 70 = .ok (.ireturn, 1) := by decide +kernel
theorem dX3_judge_71 : decode cX3_judge 71 = .ok (.iinc 4 1, 3) := by decide +kernel
theorem dX3_judge_74 : decode cX3_judge 74 = .ok (.goto (-48), 3) := by decide +kernel
theorem dX3_judge_77 : decode cX3_judge 77 = .ok (.iconst 0, 1) := by decide +kernel
theorem dX3_judge_78 : decode cX3_judge 78 = .ok (.ireturn, 1) := by decide +kernel
theorem dX3_image_0 : decode cX3_image 0 = .ok (.aload_n 0, 1) := by decide +kernel
theorem dX3_image_1 : decode cX3_image 1 = .ok (.getfield 19, 3) := by decide +kernel
theorem dX3_image_4 : decode cX3_image 4 = .ok (.aload_n 0, 1) := by decide +kernel
theorem dX3_image_5 : decode cX3_image 5 = .ok (.getfield 10, 3) := by decide +kernel
theorem dX3_image_8 : decode cX3_image 8 = .ok (.invokevirtual 133, 3) := by decide +kernel
theorem dX3_image_11 : decode cX3_image 11 = .ok (.aload_n 0, 1) := by decide +kernel
theorem dX3_image_12 : decode cX3_image 12 = .ok (.iconst 1, 1) := by decide +kernel
theorem dX3_image_13 : decode cX3_image 13 = .ok (.putfield 242, 3) := by decide +kernel
theorem dX3_image_16 : decode cX3_image 16 = .ok (.iconst 1, 1) := by decide +kernel
theorem dX3_image_17 : decode cX3_image 17 = .ok (.ireturn, 1) := by decide +kernel
theorem dX3_undo_0 : decode cX3_undo 0 = .ok (.aload_n 0, 1) := by decide +kernel
theorem dX3_undo_1 : decode cX3_undo 1 = .ok (.getfield 242, 3) := by decide +kernel
theorem dX3_undo_4 : decode cX3_undo 4 = .ok (.ifCond .ne 9, 3) := by decide +kernel
theorem dX3_undo_7 : decode cX3_undo 7 = .ok (.aload_n 0, 1) := by decide +kernel
theorem dX3_undo_8 : decode cX3_undo 8 = .ok (.iconst 3, 1) := by decide +kernel
theorem dX3_undo_9 : decode cX3_undo 9 = .ok (.invokevirtual 44, 3) := by decide +kernel
theorem dX3_undo_12 : decode cX3_undo 12 = .ok (.ireturn, 1) := by decide +kernel
theorem dX3_undo_13 : decode cX3_undo 13 = .ok (.aload_n 0, 1) := by decide +kernel
theorem dX3_undo_14 : decode cX3_undo 14 = .ok (.getfield 10, 3) := by decide +kernel
theorem dX3_undo_17 : decode cX3_undo 17 = .ok (.aload_n 0, 1) := by decide +kernel
theorem dX3_undo_18 : decode cX3_undo 18 = .ok (.getfield 19, 3) := by decide +kernel
theorem dX3_undo_21 : decode cX3_undo 21 = .ok (.invokevirtual 133, 3) := by decide +kernel
theorem dX3_undo_24 : decode cX3_undo 24 = .ok (.aload_n 0, 1) := by decide +kernel
theorem dX3_undo_25 : decode cX3_undo 25 = .ok (.getfield 10, 3) := by decide +kernel
theorem dX3_undo_28 : decode cX3_undo 28 = .ok (.getfield 101, 3) := by decide +kernel
theorem dX3_undo_31 : decode cX3_undo 31 = .ok (.ireturn, 1) := by decide +kernel
theorem dX3_tear_0 : decode cX3_tear 0 = .ok (.aload_n 0, 1) := by decide +kernel
theorem dX3_tear_1 : decode cX3_tear 1 = .ok (.getfield 242, 3) := by decide +kernel
theorem dX3_tear_4 : decode cX3_tear 4 = .ok (.ifCond .eq 7, 3) := by decide +kernel
theorem dX3_tear_7 : decode cX3_tear 7 = .ok (.iconst 1, 1) := by decide +kernel
theorem dX3_tear_8 : decode cX3_tear 8 = .ok (.goto 4, 3) := by decide +kernel
theorem dX3_tear_11 : decode cX3_tear 11 = .ok (.iconst 0, 1) := by decide +kernel
theorem dX3_tear_12 : decode cX3_tear 12 = .ok (.istore_n 1, 1) := by decide +kernel
theorem dX3_tear_13 : decode cX3_tear 13 = .ok (.aload_n 0, 1) := by decide +kernel
theorem dX3_tear_14 : decode cX3_tear 14 = .ok (.iconst 0, 1) := by decide +kernel
theorem dX3_tear_15 : decode cX3_tear 15 = .ok (.putfield 242, 3) := by decide +kernel
theorem dX3_tear_18 : decode cX3_tear 18 = .ok (.iload_n 1, 1) := by decide +kernel
theorem dX3_tear_19 : decode cX3_tear 19 = .ok (.ireturn, 1) := by decide +kernel
theorem dX3_count_0 : decode cX3_count 0 = .ok (.iload_n 1, 1) := by decide +kernel
theorem dX3_count_1 : decode cX3_count 1 = .ok (.tableswitch 114 0 7 #[47, 55, 63, 74, 82, 90, 98, 106], 47) := by decide +kernel
theorem dX3_count_48 : decode cX3_count 48 = .ok (.aload_n 0, 1) := by decide +kernel
theorem dX3_count_49 : decode cX3_count 49 = .ok (.getfield 10, 3) := by decide +kernel
theorem dX3_count_52 : decode cX3_count 52 = .ok (.getfield 101, 3) := by decide +kernel
theorem dX3_count_55 : decode cX3_count 55 = .ok (.ireturn, 1) := by decide +kernel
theorem dX3_count_56 : decode cX3_count 56 = .ok (.aload_n 0, 1) := by decide +kernel
theorem dX3_count_57 : decode cX3_count 57 = .ok (.getfield 10, 3) := by decide +kernel
theorem dX3_count_60 : decode cX3_count 60 = .ok (.getfield 246, 3) := by decide +kernel
theorem dX3_count_63 : decode cX3_count 63 = .ok (.ireturn, 1) := by decide +kernel
theorem dX3_count_64 : decode cX3_count 64 = .ok (.aload_n 0, 1) := by decide +kernel
theorem dX3_count_65 : decode cX3_count 65 = .ok (.getfield 10, 3) := by decide +kernel
theorem dX3_count_68 : decode cX3_count 68 = .ok (.invokevirtual 109, 3) := by decide +kernel
theorem dX3_count_71 : decode cX3_count 71 = .ok (.invokestatic 113, 3) := by decide +kernel
theorem dX3_count_74 : decode cX3_count 74 = .ok (.ireturn, 1) := by decide +kernel
theorem dX3_count_75 : decode cX3_count 75 = .ok (.aload_n 0, 1) := by decide +kernel
theorem dX3_count_76 : decode cX3_count 76 = .ok (.getfield 10, 3) := by decide +kernel
theorem dX3_count_79 : decode cX3_count 79 = .ok (.invokevirtual 118, 3) := by decide +kernel
theorem dX3_count_82 : decode cX3_count 82 = .ok (.ireturn, 1) := by decide +kernel
theorem dX3_count_83 : decode cX3_count 83 = .ok (.aload_n 0, 1) := by decide +kernel
theorem dX3_count_84 : decode cX3_count 84 = .ok (.getfield 10, 3) := by decide +kernel
theorem dX3_count_87 : decode cX3_count 87 = .ok (.invokevirtual 127, 3) := by decide +kernel
theorem dX3_count_90 : decode cX3_count 90 = .ok (.ireturn, 1) := by decide +kernel
theorem dX3_count_91 : decode cX3_count 91 = .ok (.aload_n 0, 1) := by decide +kernel
theorem dX3_count_92 : decode cX3_count 92 = .ok (.getfield 25, 3) := by decide +kernel
theorem dX3_count_95 : decode cX3_count 95 = .ok (.getfield 194, 3) := by decide +kernel
theorem dX3_count_98 : decode cX3_count 98 = .ok (.ireturn, 1) := by decide +kernel
theorem dX3_count_99 : decode cX3_count 99 = .ok (.aload_n 0, 1) := by decide +kernel
theorem dX3_count_100 : decode cX3_count 100 = .ok (.getfield 10, 3) := by decide +kernel
theorem dX3_count_103 : decode cX3_count 103 = .ok (.getfield 191, 3) := by decide +kernel
theorem dX3_count_106 : decode cX3_count 106 = .ok (.ireturn, 1) := by decide +kernel
theorem dX3_count_107 : decode cX3_count 107 = .ok (.aload_n 0, 1) := by decide +kernel
theorem dX3_count_108 : decode cX3_count 108 = .ok (.getfield 10, 3) := by decide +kernel
theorem dX3_count_111 : decode cX3_count 111 = .ok (.invokevirtual 249, 3) := by decide +kernel
theorem dX3_count_114 : decode cX3_count 114 = .ok (.ireturn, 1) := by decide +kernel
theorem dX3_count_115 : decode cX3_count 115 = .ok (.aload_n 0, 1) := by decide +kernel
theorem dX3_count_116 : decode cX3_count 116 = .ok (.iconst 0, 1) := by decide +kernel
theorem dX3_count_117 : decode cX3_count 117 = .ok (.invokevirtual 44, 3) := by decide +kernel
theorem dX3_count_120 : decode cX3_count 120 = .ok (.ireturn, 1) := by decide +kernel
theorem dX3_status_0 : decode cX3_status 0 = .ok (.iload_n 1, 1) := by decide +kernel
theorem dX3_status_1 : decode cX3_status 1 = .ok (.iconst (-1), 1) := by decide +kernel
theorem dX3_status_2 : decode cX3_status 2 = .ok (.bipush 6, 2) := by decide +kernel
theorem dX3_status_4 : decode cX3_status 4 = .ok (.invokestatic 40, 3) := by decide +kernel
theorem dX3_status_7 : decode cX3_status 7 = .ok (.ifCond .eq 9, 3) := by decide +kernel
theorem dX3_status_10 : decode cX3_status 10 = .ok (.aload_n 0, 1) := by decide +kernel
theorem dX3_status_11 : decode cX3_status 11 = .ok (.iconst 0, 1) := by decide +kernel
theorem dX3_status_12 : decode cX3_status 12 = .ok (.invokevirtual 44, 3) := by decide +kernel
theorem dX3_status_15 : decode cX3_status 15 = .ok (.ireturn, 1) := by decide +kernel
theorem dX3_status_16 : decode cX3_status 16 = .ok (.iload_n 1, 1) := by decide +kernel
theorem dX3_status_17 : decode cX3_status 17 = .ok (.ifCond .lt 10, 3) := by decide +kernel
theorem dX3_status_20 : decode cX3_status 20 = .ok (.aload_n 0, 1) := by decide +kernel
theorem dX3_status_21 : decode cX3_status 21 = .ok (.getfield 35, 3) := by decide +kernel
theorem dX3_status_24 : decode cX3_status 24 = .ok (.iload_n 1, 1) := by decide +kernel
theorem dX3_status_25 : decode cX3_status 25 = .ok (.iaload, 1) := by decide +kernel
theorem dX3_status_26 : decode cX3_status 26 = .ok (.ireturn, 1) := by decide +kernel
theorem dX3_status_27 : decode cX3_status 27 = .ok (.iconst 0, 1) := by decide +kernel
theorem dX3_status_28 : decode cX3_status 28 = .ok (.istore_n 2, 1) := by decide +kernel
theorem dX3_status_29 : decode cX3_status 29 = .ok (.iconst 0, 1) := by decide +kernel
theorem dX3_status_30 : decode cX3_status 30 = .ok (.istore_n 3, 1) := by decide +kernel
theorem dX3_status_31 : decode cX3_status 31 = .ok (.iload_n 3, 1) := by decide +kernel
theorem dX3_status_32 : decode cX3_status 32 = .ok (.bipush 7, 2) := by decide +kernel
theorem dX3_status_34 : decode cX3_status 34 = .ok (.if_icmp .ge 18, 3) := by decide +kernel
theorem dX3_status_37 : decode cX3_status 37 = .ok (.iload_n 2, 1) := by decide +kernel
theorem dX3_status_38 : decode cX3_status 38 = .ok (.aload_n 0, 1) := by decide +kernel
theorem dX3_status_39 : decode cX3_status 39 = .ok (.getfield 35, 3) := by decide +kernel
theorem dX3_status_42 : decode cX3_status 42 = .ok (.iload_n 3, 1) := by decide +kernel
theorem dX3_status_43 : decode cX3_status 43 = .ok (.iaload, 1) := by decide +kernel
theorem dX3_status_44 : decode cX3_status 44 = .ok (.iadd, 1) := by decide +kernel
theorem dX3_status_45 : decode cX3_status 45 = .ok (.istore_n 2, 1) := by decide +kernel
theorem dX3_status_46 : decode cX3_status 46 = .ok (.iinc 3 1, 3) := by decide +kernel
theorem dX3_status_49 : decode cX3_status 49 = .ok (.goto (-18), 3) := by decide +kernel
theorem dX3_status_52 : decode cX3_status 52 = .ok (.iload_n 2, 1) := by decide +kernel
theorem dX3_status_53 : decode cX3_status 53 = .ok (.ireturn, 1) := by decide +kernel
theorem dX3_finding_0 : decode cX3_finding 0 = .ok (.aload_n 0, 1) := by decide +kernel
theorem dX3_finding_1 : decode cX3_finding 1 = .ok (.getfield 35, 3) := by decide +kernel
theorem dX3_finding_4 : decode cX3_finding 4 = .ok (.iload_n 1, 1) := by decide +kernel
theorem dX3_finding_5 : decode cX3_finding 5 = .ok (.dup2, 1) := by decide +kernel
theorem dX3_finding_6 : decode cX3_finding 6 = .ok (.iaload, 1) := by decide +kernel
theorem dX3_finding_7 : decode cX3_finding 7 = .ok (.iconst 1, 1) := by decide +kernel
theorem dX3_finding_8 : decode cX3_finding 8 = .ok (.iadd, 1) := by decide +kernel
theorem dX3_finding_9 : decode cX3_finding 9 = .ok (.iastore, 1) := by decide +kernel
theorem dX3_finding_10 : decode cX3_finding 10 = .ok (.ldc 252, 2) := by decide +kernel
theorem dX3_finding_12 : decode cX3_finding 12 = .ok (.iload_n 1, 1) := by decide +kernel
theorem dX3_finding_13 : decode cX3_finding 13 = .ok (.isub, 1) := by decide +kernel
theorem dX3_finding_14 : decode cX3_finding 14 = .ok (.ireturn, 1) := by decide +kernel
theorem dX3_isOutside_0 : decode cX3_isOutside 0 = .ok (.iload_n 0, 1) := by decide +kernel
theorem dX3_isOutside_1 : decode cX3_isOutside 1 = .ok (.iload_n 1, 1) := by decide +kernel
theorem dX3_isOutside_2 : decode cX3_isOutside 2 = .ok (.if_icmp .lt 8, 3) := by decide +kernel
theorem dX3_isOutside_5 : decode cX3_isOutside 5 = .ok (.iload_n 0, 1) := by decide +kernel
theorem dX3_isOutside_6 : decode cX3_isOutside 6 = .ok (.iload_n 2, 1) := by decide +kernel
theorem dX3_isOutside_7 : decode cX3_isOutside 7 = .ok (.if_icmp .le 7, 3) := by decide +kernel
theorem dX3_isOutside_10 : decode cX3_isOutside 10 = .ok (.iconst 1, 1) := by decide +kernel
theorem dX3_isOutside_11 : decode cX3_isOutside 11 = .ok (.goto 4, 3) := by decide +kernel
theorem dX3_isOutside_14 : decode cX3_isOutside 14 = .ok (.iconst 0, 1) := by decide +kernel
theorem dX3_isOutside_15 : decode cX3_isOutside 15 = .ok (.ireturn, 1) := by decide +kernel
theorem dX3_isNoValley_0 : decode cX3_isNoValley 0 = .ok (.iload_n 0, 1) := by decide +kernel
theorem dX3_isNoValley_1 : decode cX3_isNoValley 1 = .ok (.iconst 0, 1) := by decide +kernel
theorem dX3_isNoValley_2 : decode cX3_isNoValley 2 = .ok (.bipush 11, 2) := by decide +kernel
theorem dX3_isNoValley_4 : decode cX3_isNoValley 4 = .ok (.invokestatic 40, 3) := by decide +kernel
theorem dX3_isNoValley_7 : decode cX3_isNoValley 7 = .ok (.ireturn, 1) := by decide +kernel
theorem dX3_isNoSheet_0 : decode cX3_isNoSheet 0 = .ok (.iload_n 0, 1) := by decide +kernel
theorem dX3_isNoSheet_1 : decode cX3_isNoSheet 1 = .ok (.iconst 0, 1) := by decide +kernel
theorem dX3_isNoSheet_2 : decode cX3_isNoSheet 2 = .ok (.iconst 3, 1) := by decide +kernel
theorem dX3_isNoSheet_3 : decode cX3_isNoSheet 3 = .ok (.invokestatic 40, 3) := by decide +kernel
theorem dX3_isNoSheet_6 : decode cX3_isNoSheet 6 = .ok (.ireturn, 1) := by decide +kernel
theorem dX3_isNoPair_0 : decode cX3_isNoPair 0 = .ok (.aload_n 0, 1) := by decide +kernel
theorem dX3_isNoPair_1 : decode cX3_isNoPair 1 = .ok (.getfield 10, 3) := by decide +kernel
theorem dX3_isNoPair_4 : decode cX3_isNoPair 4 = .ok (.iload_n 1, 1) := by decide +kernel
theorem dX3_isNoPair_5 : decode cX3_isNoPair 5 = .ok (.invokevirtual 64, 3) := by decide +kernel
theorem dX3_isNoPair_8 : decode cX3_isNoPair 8 = .ok (.ifCond .ne 19, 3) := by decide +kernel
theorem dX3_isNoPair_11 : decode cX3_isNoPair 11 = .ok (.aload_n 0, 1) := by decide +kernel
theorem dX3_isNoPair_12 : decode cX3_isNoPair 12 = .ok (.getfield 10, 3) := by decide +kernel
theorem dX3_isNoPair_15 : decode cX3_isNoPair 15 = .ok (.iload_n 2, 1) := by decide +kernel
theorem dX3_isNoPair_16 : decode cX3_isNoPair 16 = .ok (.invokevirtual 64, 3) := by decide +kernel
theorem dX3_isNoPair_19 : decode cX3_isNoPair 19 = .ok (.ifCond .ne 8, 3) := by decide +kernel
theorem dX3_isNoPair_22 : decode cX3_isNoPair 22 = .ok (.iload_n 1, 1) := by decide +kernel
theorem dX3_isNoPair_23 : decode cX3_isNoPair 23 = .ok (.iload_n 2, 1) := by decide +kernel
theorem dX3_isNoPair_24 : decode cX3_isNoPair 24 = .ok (.if_icmp .ne 7, 3) := by decide +kernel
theorem dX3_isNoPair_27 : decode cX3_isNoPair 27 = .ok (.iconst 1, 1) := by decide +kernel
theorem dX3_isNoPair_28 : decode cX3_isNoPair 28 = .ok (.goto 4, 3) := by decide +kernel
theorem dX3_isNoPair_31 : decode cX3_isNoPair 31 = .ok (.iconst 0, 1) := by decide +kernel
theorem dX3_isNoPair_32 : decode cX3_isNoPair 32 = .ok (.ireturn, 1) := by decide +kernel
theorem dX3_isForetold_0 : decode cX3_isForetold 0 = .ok (.iload_n 0, 1) := by decide +kernel
theorem dX3_isForetold_1 : decode cX3_isForetold 1 = .ok (.iconst 1, 1) := by decide +kernel
theorem dX3_isForetold_2 : decode cX3_isForetold 2 = .ok (.if_icmp .eq 13, 3) := by decide +kernel
theorem dX3_isForetold_5 : decode cX3_isForetold 5 = .ok (.iload_n 0, 1) := by decide +kernel
theorem dX3_isForetold_6 : decode cX3_isForetold 6 = .ok (.iconst 3, 1) := by decide +kernel
theorem dX3_isForetold_7 : decode cX3_isForetold 7 = .ok (.bipush 6, 2) := by decide +kernel
theorem dX3_isForetold_9 : decode cX3_isForetold 9 = .ok (.invokestatic 40, 3) := by decide +kernel
theorem dX3_isForetold_12 : decode cX3_isForetold 12 = .ok (.ifCond .ne 7, 3) := by decide +kernel
theorem dX3_isForetold_15 : decode cX3_isForetold 15 = .ok (.iconst 1, 1) := by decide +kernel
theorem dX3_isForetold_16 : decode cX3_isForetold 16 = .ok (.goto 4, 3) := by decide +kernel
theorem dX3_isForetold_19 : decode cX3_isForetold 19 = .ok (.iconst 0, 1) := by decide +kernel
theorem dX3_isForetold_20 : decode cX3_isForetold 20 = .ok (.ireturn, 1) := by decide +kernel
theorem dX3_leastOf_0 : decode cX3_leastOf 0 = .ok (.iload_n 0, 1) := by decide +kernel
theorem dX3_leastOf_1 : decode cX3_leastOf 1 = .ok (.iconst 2, 1) := by decide +kernel
theorem dX3_leastOf_2 : decode cX3_leastOf 2 = .ok (.if_icmp .ne 8, 3) := by decide +kernel
theorem dX3_leastOf_5 : decode cX3_leastOf 5 = .ok (.bipush (-5), 2) := by decide +kernel
theorem dX3_leastOf_7 : decode cX3_leastOf 7 = .ok (.goto 4, 3) := by decide +kernel
theorem dX3_leastOf_10 : decode cX3_leastOf 10 = .ok (.iconst 0, 1) := by decide +kernel
theorem dX3_leastOf_11 : decode cX3_leastOf 11 = .ok (.ireturn, 1) := by decide +kernel
theorem dX3_mostOf_0 : decode cX3_mostOf 0 = .ok (.iload_n 0, 1) := by decide +kernel
theorem dX3_mostOf_1 : decode cX3_mostOf 1 = .ok (.tableswitch 48 0 4 #[35, 38, 41, 43, 45], 35) := by decide +kernel
theorem dX3_mostOf_36 : decode cX3_mostOf 36 = .ok (.bipush 6, 2) := by decide +kernel
theorem dX3_mostOf_38 : decode cX3_mostOf 38 = .ok (.ireturn, 1) := by decide +kernel
theorem dX3_mostOf_39 : decode cX3_mostOf 39 = .ok (.bipush 11, 2) := by decide +kernel
theorem dX3_mostOf_41 : decode cX3_mostOf 41 = .ok (.ireturn, 1) := by decide +kernel
theorem dX3_mostOf_42 : decode cX3_mostOf 42 = .ok (.iconst 5, 1) := by decide +kernel
theorem dX3_mostOf_43 : decode cX3_mostOf 43 = .ok (.ireturn, 1) := by decide +kernel
theorem dX3_mostOf_44 : decode cX3_mostOf 44 = .ok (.iconst 3, 1) := by decide +kernel
theorem dX3_mostOf_45 : decode cX3_mostOf 45 = .ok (.ireturn, 1) := by decide +kernel
theorem dX3_mostOf_46 : decode cX3_mostOf 46 = .ok (.bipush 99, 2) := by decide +kernel
theorem dX3_mostOf_48 : decode cX3_mostOf 48 = .ok (.ireturn, 1) := by decide +kernel
theorem dX3_mostOf_49 : decode cX3_mostOf 49 = .ok (.sipush 9999, 3) := by decide +kernel
theorem dX3_mostOf_52 : decode cX3_mostOf 52 = .ok (.ireturn, 1) := by decide +kernel
theorem dX3_isUnder_0 : decode cX3_isUnder 0 = .ok (.iload_n 0, 1) := by decide +kernel
theorem dX3_isUnder_1 : decode cX3_isUnder 1 = .ok (.istore_n 2, 1) := by decide +kernel
theorem dX3_isUnder_2 : decode cX3_isUnder 2 = .ok (.iconst 0, 1) := by decide +kernel
theorem dX3_isUnder_3 : decode cX3_isUnder 3 = .ok (.istore_n 3, 1) := by decide +kernel
theorem dX3_isUnder_4 : decode cX3_isUnder 4 = .ok (.iload_n 3, 1) := by decide +kernel
theorem dX3_isUnder_5 : decode cX3_isUnder 5 = .ok (.bipush 7, 2) := by decide +kernel
theorem dX3_isUnder_7 : decode cX3_isUnder 7 = .ok (.if_icmp .ge 26, 3) := by decide +kernel
theorem dX3_isUnder_10 : decode cX3_isUnder 10 = .ok (.iload_n 2, 1) := by decide +kernel
theorem dX3_isUnder_11 : decode cX3_isUnder 11 = .ok (.ifCond .lt 22, 3) := by decide +kernel
theorem dX3_isUnder_14 : decode cX3_isUnder 14 = .ok (.iload_n 2, 1) := by decide +kernel
theorem dX3_isUnder_15 : decode cX3_isUnder 15 = .ok (.iload_n 1, 1) := by decide +kernel
theorem dX3_isUnder_16 : decode cX3_isUnder 16 = .ok (.if_icmp .ne 5, 3) := by decide +kernel
theorem dX3_isUnder_19 : decode cX3_isUnder 19 = .ok (.iconst 1, 1) := by decide +kernel
theorem dX3_isUnder_20 : decode cX3_isUnder 20 = .ok (.ireturn, 1) := by decide +kernel
theorem dX3_isUnder_21 : decode cX3_isUnder 21 = .ok (.getstatic 253, 3) := by decide +kernel
theorem dX3_isUnder_24 : decode cX3_isUnder 24 = .ok (.iload_n 2, 1) := by decide +kernel
theorem dX3_isUnder_25 : decode cX3_isUnder 25 = .ok (.iaload, 1) := by decide +kernel
theorem dX3_isUnder_26 : decode cX3_isUnder 26 = .ok (.istore_n 2, 1) := by decide +kernel
theorem dX3_isUnder_27 : decode cX3_isUnder 27 = .ok (.iinc 3 1, 3) := by decide +kernel
theorem dX3_isUnder_30 : decode cX3_isUnder 30 = .ok (.goto (-26), 3) := by decide +kernel
theorem dX3_isUnder_33 : decode cX3_isUnder 33 = .ok (.iconst 0, 1) := by decide +kernel
theorem dX3_isUnder_34 : decode cX3_isUnder 34 = .ok (.ireturn, 1) := by decide +kernel
theorem dX3_wrongWithSheet_0 : decode cX3_wrongWithSheet 0 = .ok (.iload_n 1, 1) := by decide +kernel
theorem dX3_wrongWithSheet_1 : decode cX3_wrongWithSheet 1 = .ok (.invokestatic 210, 3) := by decide +kernel
theorem dX3_wrongWithSheet_4 : decode cX3_wrongWithSheet 4 = .ok (.ifCond .eq 5, 3) := by decide +kernel
theorem dX3_wrongWithSheet_7 : decode cX3_wrongWithSheet 7 = .ok (.iconst 0, 1) := by decide +kernel
theorem dX3_wrongWithSheet_8 : decode cX3_wrongWithSheet 8 = .ok (.ireturn, 1) := by decide +kernel
theorem dX3_wrongWithSheet_9 : decode cX3_wrongWithSheet 9 = .ok (.aload_n 0, 1) := by decide +kernel
theorem dX3_wrongWithSheet_10 : decode cX3_wrongWithSheet 10 = .ok (.getfield 31, 3) := by decide +kernel
theorem dX3_wrongWithSheet_13 : decode cX3_wrongWithSheet 13 = .ok (.iload_n 1, 1) := by decide +kernel
theorem dX3_wrongWithSheet_14 : decode cX3_wrongWithSheet 14 = .ok (.aaload, 1) := by decide +kernel
theorem dX3_wrongWithSheet_15 : decode cX3_wrongWithSheet 15 = .ok (.invokevirtual 224, 3) := by decide +kernel
theorem dX3_wrongWithSheet_18 : decode cX3_wrongWithSheet 18 = .ok (.ifCond .eq 7, 3) := by decide +kernel
theorem dX3_wrongWithSheet_21 : decode cX3_wrongWithSheet 21 = .ok (.iconst 5, 1) := by decide +kernel
theorem dX3_wrongWithSheet_22 : decode cX3_wrongWithSheet 22 = .ok (.goto 4, 3) := by decide +kernel
theorem dX3_wrongWithSheet_25 : decode cX3_wrongWithSheet 25 = .ok (.iconst (-1), 1) := by decide +kernel
theorem dX3_wrongWithSheet_26 : decode cX3_wrongWithSheet 26 = .ok (.ireturn, 1) := by decide +kernel
theorem dX3_wrongWithTold_0 : decode cX3_wrongWithTold 0 = .ok (.aload_n 0, 1) := by decide +kernel
theorem dX3_wrongWithTold_1 : decode cX3_wrongWithTold 1 = .ok (.iload_n 1, 1) := by decide +kernel
theorem dX3_wrongWithTold_2 : decode cX3_wrongWithTold 2 = .ok (.invokevirtual 218, 3) := by decide +kernel
theorem dX3_wrongWithTold_5 : decode cX3_wrongWithTold 5 = .ok (.istore_n 3, 1) := by decide +kernel
theorem dX3_wrongWithTold_6 : decode cX3_wrongWithTold 6 = .ok (.iload_n 3, 1) := by decide +kernel
theorem dX3_wrongWithTold_7 : decode cX3_wrongWithTold 7 = .ok (.ifCond .lt 5, 3) := by decide +kernel
theorem dX3_wrongWithTold_10 : decode cX3_wrongWithTold 10 = .ok (.iload_n 3, 1) := by decide +kernel
theorem dX3_wrongWithTold_11 : decode cX3_wrongWithTold 11 = .ok (.ireturn, 1) := by decide +kernel
theorem dX3_wrongWithTold_12 : decode cX3_wrongWithTold 12 = .ok (.aload_n 0, 1) := by decide +kernel
theorem dX3_wrongWithTold_13 : decode cX3_wrongWithTold 13 = .ok (.getfield 10, 3) := by decide +kernel
theorem dX3_wrongWithTold_16 : decode cX3_wrongWithTold 16 = .ok (.iload_n 2, 1) := by decide +kernel
theorem dX3_wrongWithTold_17 : decode cX3_wrongWithTold 17 = .ok (.invokevirtual 64, 3) := by decide +kernel
theorem dX3_wrongWithTold_20 : decode cX3_wrongWithTold 20 = .ok (.ifCond .eq 7, 3) := by decide +kernel
theorem dX3_wrongWithTold_23 : decode cX3_wrongWithTold 23 = .ok (.iconst 0, 1) := by decide +kernel
theorem dX3_wrongWithTold_24 : decode cX3_wrongWithTold 24 = .ok (.goto 4, 3) := by decide +kernel
theorem dX3_wrongWithTold_27 : decode cX3_wrongWithTold 27 = .ok (.iconst (-1), 1) := by decide +kernel
theorem dX3_wrongWithTold_28 : decode cX3_wrongWithTold 28 = .ok (.ireturn, 1) := by decide +kernel
theorem dX3_tryWith_0 : decode cX3_tryWith 0 = .ok (.aload_n 0, 1) := by decide +kernel
theorem dX3_tryWith_1 : decode cX3_tryWith 1 = .ok (.getfield 16, 3) := by decide +kernel
theorem dX3_tryWith_4 : decode cX3_tryWith 4 = .ok (.aload_n 0, 1) := by decide +kernel
theorem dX3_tryWith_5 : decode cX3_tryWith 5 = .ok (.getfield 10, 3) := by decide +kernel
theorem dX3_tryWith_8 : decode cX3_tryWith 8 = .ok (.invokevirtual 133, 3) := by decide +kernel
theorem dX3_tryWith_11 : decode cX3_tryWith 11 = .ok (.aload_n 0, 1) := by decide +kernel
theorem dX3_tryWith_12 : decode cX3_tryWith 12 = .ok (.getfield 16, 3) := by decide +kernel
theorem dX3_tryWith_15 : decode cX3_tryWith 15 = .ok (.iload_n 1, 1) := by decide +kernel
theorem dX3_tryWith_16 : decode cX3_tryWith 16 = .ok (.iload_n 2, 1) := by decide +kernel
theorem dX3_tryWith_17 : decode cX3_tryWith 17 = .ok (.iload_n 3, 1) := by decide +kernel
theorem dX3_tryWith_18 : decode cX3_tryWith 18 = .ok (.invokevirtual 88, 3) := by decide +kernel
theorem dX3_tryWith_21 : decode cX3_tryWith 21 = .ok (.return_, 1) := by decide +kernel
theorem dX3_agesUntilMeeting_0 : decode cX3_agesUntilMeeting 0 = .ok (.iconst 0, 1) := by decide +kernel
theorem dX3_agesUntilMeeting_1 : decode cX3_agesUntilMeeting 1 = .ok (.istore 4, 2) := by decide +kernel
theorem dX3_agesUntilMeeting_3 : decode cX3_agesUntilMeeting 3 = .ok (.iload 4, 2) := by decide +kernel
theorem dX3_agesUntilMeeting_5 : decode cX3_agesUntilMeeting 5 = .ok (.iload_n 3, 1) := by decide +kernel
theorem dX3_agesUntilMeeting_6 : decode cX3_agesUntilMeeting 6 = .ok (.if_icmp .gt 34, 3) := by decide +kernel
theorem dX3_agesUntilMeeting_9 : decode cX3_agesUntilMeeting 9 = .ok (.aload_n 0, 1) := by decide +kernel
theorem dX3_agesUntilMeeting_10 : decode cX3_agesUntilMeeting 10 = .ok (.getfield 16, 3) := by decide +kernel
theorem dX3_agesUntilMeeting_13 : decode cX3_agesUntilMeeting 13 = .ok (.iload_n 1, 1) := by decide +kernel
theorem dX3_agesUntilMeeting_14 : decode cX3_agesUntilMeeting 14 = .ok (.invokevirtual 76, 3) := by decide +kernel
theorem dX3_agesUntilMeeting_17 : decode cX3_agesUntilMeeting 17 = .ok (.iload_n 2, 1) := by decide +kernel
theorem dX3_agesUntilMeeting_18 : decode cX3_agesUntilMeeting 18 = .ok (.ishr, 1) := by decide +kernel
theorem dX3_agesUntilMeeting_19 : decode cX3_agesUntilMeeting 19 = .ok (.iconst 1, 1) := by decide +kernel
theorem dX3_agesUntilMeeting_20 : decode cX3_agesUntilMeeting 20 = .ok (.iand, 1) := by decide +kernel
theorem dX3_agesUntilMeeting_21 : decode cX3_agesUntilMeeting 21 = .ok (.ifCond .eq 6, 3) := by decide +kernel
theorem dX3_agesUntilMeeting_24 : decode cX3_agesUntilMeeting 24 = .ok (.iload 4, 2) := by decide +kernel
theorem dX3_agesUntilMeeting_26 : decode cX3_agesUntilMeeting 26 = .ok (.ireturn, 1) := by decide +kernel
theorem dX3_agesUntilMeeting_27 : decode cX3_agesUntilMeeting 27 = .ok (.aload_n 0, 1) := by decide +kernel
theorem dX3_agesUntilMeeting_28 : decode cX3_agesUntilMeeting 28 = .ok (.getfield 16, 3) := by decide +kernel
theorem dX3_agesUntilMeeting_31 : decode cX3_agesUntilMeeting 31 = .ok (.invokevirtual 140, 3) := by decide +kernel
theorem dX3_agesUntilMeeting_34 : decode cX3_agesUntilMeeting 34 = .ok (.iinc 4 1, 3) := by decide +kernel
theorem dX3_agesUntilMeeting_37 : decode cX3_agesUntilMeeting 37 = .ok (.goto (-34), 3) := by decide +kernel
theorem dX3_agesUntilMeeting_40 : decode cX3_agesUntilMeeting 40 = .ok (.iconst (-1), 1) := by decide +kernel
theorem dX3_agesUntilMeeting_41 : decode cX3_agesUntilMeeting 41 = .ok (.ireturn, 1) := by decide +kernel
theorem dX3_soonestWith_0 : decode cX3_soonestWith 0 = .ok (.aload_n 0, 1) := by decide +kernel
theorem dX3_soonestWith_1 : decode cX3_soonestWith 1 = .ok (.iload_n 1, 1) := by decide +kernel
theorem dX3_soonestWith_2 : decode cX3_soonestWith 2 = .ok (.iload_n 2, 1) := by decide +kernel
theorem dX3_soonestWith_3 : decode cX3_soonestWith 3 = .ok (.invokevirtual 143, 3) := by decide +kernel
theorem dX3_soonestWith_6 : decode cX3_soonestWith 6 = .ok (.ifCond .eq 9, 3) := by decide +kernel
theorem dX3_soonestWith_9 : decode cX3_soonestWith 9 = .ok (.aload_n 0, 1) := by decide +kernel
theorem dX3_soonestWith_10 : decode cX3_soonestWith 10 = .ok (.iconst 0, 1) := by decide +kernel
theorem dX3_soonestWith_11 : decode cX3_soonestWith 11 = .ok (.invokevirtual 44, 3) := by decide +kernel
theorem dX3_soonestWith_14 : decode cX3_soonestWith 14 = .ok (.ireturn, 1) := by decide +kernel
theorem dX3_soonestWith_15 : decode cX3_soonestWith 15 = .ok (.iconst 0, 1) := by decide +kernel
theorem dX3_soonestWith_16 : decode cX3_soonestWith 16 = .ok (.istore 4, 2) := by decide +kernel
theorem dX3_soonestWith_18 : decode cX3_soonestWith 18 = .ok (.sipush 201, 3) := by decide +kernel
theorem dX3_soonestWith_21 : decode cX3_soonestWith 21 = .ok (.istore 5, 2) := by decide +kernel
theorem dX3_soonestWith_23 : decode cX3_soonestWith 23 = .ok (.iload_n 3, 1) := by decide +kernel
theorem dX3_soonestWith_24 : decode cX3_soonestWith 24 = .ok (.invokestatic 82, 3) := by decide +kernel
theorem dX3_soonestWith_27 : decode cX3_soonestWith 27 = .ok (.istore 6, 2) := by decide +kernel
theorem dX3_soonestWith_29 : decode cX3_soonestWith 29 = .ok (.iload 6, 2) := by decide +kernel
theorem dX3_soonestWith_31 : decode cX3_soonestWith 31 = .ok (.iload_n 3, 1) := by decide +kernel
theorem dX3_soonestWith_32 : decode cX3_soonestWith 32 = .ok (.invokestatic 85, 3) := by decide +kernel
theorem dX3_soonestWith_35 : decode cX3_soonestWith 35 = .ok (.if_icmp .gt 42, 3) := by decide +kernel
theorem dX3_soonestWith_38 : decode cX3_soonestWith 38 = .ok (.aload_n 0, 1) := by decide +kernel
theorem dX3_soonestWith_39 : decode cX3_soonestWith 39 = .ok (.iload_n 1, 1) := by decide +kernel
theorem dX3_soonestWith_40 : decode cX3_soonestWith 40 = .ok (.iload_n 3, 1) := by decide +kernel
theorem dX3_soonestWith_41 : decode cX3_soonestWith 41 = .ok (.iload 6, 2) := by decide +kernel
theorem dX3_soonestWith_43 : decode cX3_soonestWith 43 = .ok (.invokevirtual 161, 3) := by decide +kernel
theorem dX3_soonestWith_46 : decode cX3_soonestWith 46 = .ok (.aload_n 0, 1) := by decide +kernel
theorem dX3_soonestWith_47 : decode cX3_soonestWith 47 = .ok (.iload_n 1, 1) := by decide +kernel
theorem dX3_soonestWith_48 : decode cX3_soonestWith 48 = .ok (.iload_n 2, 1) := by decide +kernel
theorem dX3_soonestWith_49 : decode cX3_soonestWith 49 = .ok (.iload 5, 2) := by decide +kernel
theorem dX3_soonestWith_51 : decode cX3_soonestWith 51 = .ok (.iconst 1, 1) := by decide +kernel
theorem dX3_soonestWith_52 : decode cX3_soonestWith 52 = .ok (.isub, 1) := by decide +kernel
theorem dX3_soonestWith_53 : decode cX3_soonestWith 53 = .ok (.invokevirtual 147, 3) := by decide +kernel
theorem dX3_soonestWith_56 : decode cX3_soonestWith 56 = .ok (.istore 7, 2) := by decide +kernel
theorem dX3_soonestWith_58 : decode cX3_soonestWith 58 = .ok (.iload 7, 2) := by decide +kernel
theorem dX3_soonestWith_60 : decode cX3_soonestWith 60 = .ok (.ifCond .lt 11, 3) := by decide +kernel
theorem dX3_soonestWith_63 : decode cX3_soonestWith 63 = .ok (.iload 7, 2) := by decide +kernel
theorem dX3_soonestWith_65 : decode cX3_soonestWith 65 = .ok (.istore 5, 2) := by decide +kernel
theorem dX3_soonestWith_67 : decode cX3_soonestWith 67 = .ok (.iload 6, 2) := by decide +kernel
theorem dX3_soonestWith_69 : decode cX3_soonestWith 69 = .ok (.istore 4, 2) := by decide +kernel
theorem dX3_soonestWith_71 : decode cX3_soonestWith 71 = .ok (.iinc 6 1, 3) := by decide +kernel
theorem dX3_soonestWith_74 : decode cX3_soonestWith 74 = .ok (.goto (-45), 3) := by decide +kernel
theorem dX3_soonestWith_77 : decode cX3_soonestWith 77 = .ok (.iload 5, 2) := by decide +kernel
theorem dX3_soonestWith_79 : decode cX3_soonestWith 79 = .ok (.sipush 200, 3) := by decide +kernel
theorem dX3_soonestWith_82 : decode cX3_soonestWith 82 = .ok (.if_icmp .le 11, 3) := by decide +kernel
theorem dX3_soonestWith_85 : decode cX3_soonestWith 85 = .ok (.aload_n 0, 1) := by decide +kernel
theorem dX3_soonestWith_86 : decode cX3_soonestWith 86 = .ok (.iconst 3, 1) := by decide +kernel
theorem dX3_soonestWith_87 : decode cX3_soonestWith 87 = .ok (.invokevirtual 44, 3) := by decide +kernel
theorem dX3_soonestWith_90 : decode cX3_soonestWith 90 = .ok (.goto 5, 3) := by decide +kernel
theorem dX3_soonestWith_93 : decode cX3_soonestWith 93 = .ok (.iload 4, 2) := by decide +kernel
theorem dX3_soonestWith_95 : decode cX3_soonestWith 95 = .ok (.ireturn, 1) := by decide +kernel
theorem dX3_waysOn_0 : decode cX3_waysOn 0 = .ok (.iload_n 1, 1) := by decide +kernel
theorem dX3_waysOn_1 : decode cX3_waysOn 1 = .ok (.iload_n 0, 1) := by decide +kernel
theorem dX3_waysOn_2 : decode cX3_waysOn 2 = .ok (.isub, 1) := by decide +kernel
theorem dX3_waysOn_3 : decode cX3_waysOn 3 = .ok (.bipush 12, 2) := by decide +kernel
theorem dX3_waysOn_5 : decode cX3_waysOn 5 = .ok (.invokestatic 256, 3) := by decide +kernel
theorem dX3_waysOn_8 : decode cX3_waysOn 8 = .ok (.ireturn, 1) := by decide +kernel
theorem dX3_agesOpen_0 : decode cX3_agesOpen 0 = .ok (.aload_n 0, 1) := by decide +kernel
theorem dX3_agesOpen_1 : decode cX3_agesOpen 1 = .ok (.getfield 16, 3) := by decide +kernel
theorem dX3_agesOpen_4 : decode cX3_agesOpen 4 = .ok (.aload_n 0, 1) := by decide +kernel
theorem dX3_agesOpen_5 : decode cX3_agesOpen 5 = .ok (.getfield 10, 3) := by decide +kernel
theorem dX3_agesOpen_8 : decode cX3_agesOpen 8 = .ok (.invokevirtual 133, 3) := by decide +kernel
theorem dX3_agesOpen_11 : decode cX3_agesOpen 11 = .ok (.iconst 0, 1) := by decide +kernel
theorem dX3_agesOpen_12 : decode cX3_agesOpen 12 = .ok (.istore 5, 2) := by decide +kernel
theorem dX3_agesOpen_14 : decode cX3_agesOpen 14 = .ok (.iconst 0, 1) := by decide +kernel
theorem dX3_agesOpen_15 : decode cX3_agesOpen 15 = .ok (.istore 6, 2) := by decide +kernel
theorem dX3_agesOpen_17 : decode cX3_agesOpen 17 = .ok (.iload 6, 2) := by decide +kernel
theorem dX3_agesOpen_19 : decode cX3_agesOpen 19 = .ok (.iload 4, 2) := by decide +kernel
theorem dX3_agesOpen_21 : decode cX3_agesOpen 21 = .ok (.if_icmp .ge 32, 3) := by decide +kernel
theorem dX3_agesOpen_24 : decode cX3_agesOpen 24 = .ok (.aload_n 0, 1) := by decide +kernel
theorem dX3_agesOpen_25 : decode cX3_agesOpen 25 = .ok (.getfield 16, 3) := by decide +kernel
theorem dX3_agesOpen_28 : decode cX3_agesOpen 28 = .ok (.iload_n 1, 1) := by decide +kernel
theorem dX3_agesOpen_29 : decode cX3_agesOpen 29 = .ok (.iload_n 2, 1) := by decide +kernel
theorem dX3_agesOpen_30 : decode cX3_agesOpen 30 = .ok (.invokevirtual 175, 3) := by decide +kernel
theorem dX3_agesOpen_33 : decode cX3_agesOpen 33 = .ok (.iload_n 3, 1) := by decide +kernel
theorem dX3_agesOpen_34 : decode cX3_agesOpen 34 = .ok (.if_icmp .gt 6, 3) := by decide +kernel
theorem dX3_agesOpen_37 : decode cX3_agesOpen 37 = .ok (.iinc 5 1, 3) := by decide +kernel
theorem dX3_agesOpen_40 : decode cX3_agesOpen 40 = .ok (.aload_n 0, 1) := by decide +kernel
theorem dX3_agesOpen_41 : decode cX3_agesOpen 41 = .ok (.getfield 16, 3) := by decide +kernel
theorem dX3_agesOpen_44 : decode cX3_agesOpen 44 = .ok (.invokevirtual 140, 3) := by decide +kernel
theorem dX3_agesOpen_47 : decode cX3_agesOpen 47 = .ok (.iinc 6 1, 3) := by decide +kernel
theorem dX3_agesOpen_50 : decode cX3_agesOpen 50 = .ok (.goto (-33), 3) := by decide +kernel
theorem dX3_agesOpen_53 : decode cX3_agesOpen 53 = .ok (.iload 5, 2) := by decide +kernel
theorem dX3_agesOpen_55 : decode cX3_agesOpen 55 = .ok (.ireturn, 1) := by decide +kernel
theorem dX3_fittingSet_0 : decode cX3_fittingSet 0 = .ok (.iload_n 3, 1) := by decide +kernel
theorem dX3_fittingSet_1 : decode cX3_fittingSet 1 = .ok (.invokestatic 82, 3) := by decide +kernel
theorem dX3_fittingSet_4 : decode cX3_fittingSet 4 = .ok (.istore 4, 2) := by decide +kernel
theorem dX3_fittingSet_6 : decode cX3_fittingSet 6 = .ok (.iconst 0, 1) := by decide +kernel
theorem dX3_fittingSet_7 : decode cX3_fittingSet 7 = .ok (.istore 5, 2) := by decide +kernel
theorem dX3_fittingSet_9 : decode cX3_fittingSet 9 = .ok (.iload 4, 2) := by decide +kernel
theorem dX3_fittingSet_11 : decode cX3_fittingSet 11 = .ok (.istore 6, 2) := by decide +kernel
theorem dX3_fittingSet_13 : decode cX3_fittingSet 13 = .ok (.iload 6, 2) := by decide +kernel
theorem dX3_fittingSet_15 : decode cX3_fittingSet 15 = .ok (.iload_n 3, 1) := by decide +kernel
theorem dX3_fittingSet_16 : decode cX3_fittingSet 16 = .ok (.invokestatic 85, 3) := by decide +kernel
theorem dX3_fittingSet_19 : decode cX3_fittingSet 19 = .ok (.if_icmp .gt 43, 3) := by decide +kernel
theorem dX3_fittingSet_22 : decode cX3_fittingSet 22 = .ok (.aload_n 0, 1) := by decide +kernel
theorem dX3_fittingSet_23 : decode cX3_fittingSet 23 = .ok (.iload_n 2, 1) := by decide +kernel
theorem dX3_fittingSet_24 : decode cX3_fittingSet 24 = .ok (.iload_n 3, 1) := by decide +kernel
theorem dX3_fittingSet_25 : decode cX3_fittingSet 25 = .ok (.iload 6, 2) := by decide +kernel
theorem dX3_fittingSet_27 : decode cX3_fittingSet 27 = .ok (.invokevirtual 161, 3) := by decide +kernel
theorem dX3_fittingSet_30 : decode cX3_fittingSet 30 = .ok (.aload_n 0, 1) := by decide +kernel
theorem dX3_fittingSet_31 : decode cX3_fittingSet 31 = .ok (.aload_n 0, 1) := by decide +kernel
theorem dX3_fittingSet_32 : decode cX3_fittingSet 32 = .ok (.getfield 31, 3) := by decide +kernel
theorem dX3_fittingSet_35 : decode cX3_fittingSet 35 = .ok (.iload_n 1, 1) := by decide +kernel
theorem dX3_fittingSet_36 : decode cX3_fittingSet 36 = .ok (.aaload, 1) := by decide +kernel
theorem dX3_fittingSet_37 : decode cX3_fittingSet 37 = .ok (.iload_n 2, 1) := by decide +kernel
theorem dX3_fittingSet_38 : decode cX3_fittingSet 38 = .ok (.invokevirtual 259, 3) := by decide +kernel
theorem dX3_fittingSet_41 : decode cX3_fittingSet 41 = .ok (.ifCond .eq 15, 3) := by decide +kernel
theorem dX3_fittingSet_44 : decode cX3_fittingSet 44 = .ok (.iload 5, 2) := by decide +kernel
theorem dX3_fittingSet_46 : decode cX3_fittingSet 46 = .ok (.iconst 1, 1) := by decide +kernel
theorem dX3_fittingSet_47 : decode cX3_fittingSet 47 = .ok (.iload 6, 2) := by decide +kernel
theorem dX3_fittingSet_49 : decode cX3_fittingSet 49 = .ok (.iload 4, 2) := by decide +kernel
theorem dX3_fittingSet_51 : decode cX3_fittingSet 51 = .ok (.isub, 1) := by decide +kernel
theorem dX3_fittingSet_52 : decode cX3_fittingSet 52 = .ok (.ishl, 1) := by decide +kernel
theorem dX3_fittingSet_53 : decode cX3_fittingSet 53 = .ok (.ior, 1) := by decide +kernel
theorem dX3_fittingSet_54 : decode cX3_fittingSet 54 = .ok (.istore 5, 2) := by decide +kernel
theorem dX3_fittingSet_56 : decode cX3_fittingSet 56 = .ok (.iinc 6 1, 3) := by decide +kernel
theorem dX3_fittingSet_59 : decode cX3_fittingSet 59 = .ok (.goto (-46), 3) := by decide +kernel
theorem dX3_fittingSet_62 : decode cX3_fittingSet 62 = .ok (.iload 5, 2) := by decide +kernel
theorem dX3_fittingSet_64 : decode cX3_fittingSet 64 = .ok (.ireturn, 1) := by decide +kernel
theorem dX3_facesAsTold_0 : decode cX3_facesAsTold 0 = .ok (.iconst 0, 1) := by decide +kernel
theorem dX3_facesAsTold_1 : decode cX3_facesAsTold 1 = .ok (.istore_n 3, 1) := by decide +kernel
theorem dX3_facesAsTold_2 : decode cX3_facesAsTold 2 = .ok (.iload_n 3, 1) := by decide +kernel
theorem dX3_facesAsTold_3 : decode cX3_facesAsTold 3 = .ok (.aload_n 1, 1) := by decide +kernel
theorem dX3_facesAsTold_4 : decode cX3_facesAsTold 4 = .ok (.getfield 217, 3) := by decide +kernel
theorem dX3_facesAsTold_7 : decode cX3_facesAsTold 7 = .ok (.if_icmp .ge 45, 3) := by decide +kernel
theorem dX3_facesAsTold_10 : decode cX3_facesAsTold 10 = .ok (.aload_n 1, 1) := by decide +kernel
theorem dX3_facesAsTold_11 : decode cX3_facesAsTold 11 = .ok (.getfield 233, 3) := by decide +kernel
theorem dX3_facesAsTold_14 : decode cX3_facesAsTold 14 = .ok (.iload_n 3, 1) := by decide +kernel
theorem dX3_facesAsTold_15 : decode cX3_facesAsTold 15 = .ok (.iaload, 1) := by decide +kernel
theorem dX3_facesAsTold_16 : decode cX3_facesAsTold 16 = .ok (.istore 4, 2) := by decide +kernel
theorem dX3_facesAsTold_18 : decode cX3_facesAsTold 18 = .ok (.iload 4, 2) := by decide +kernel
theorem dX3_facesAsTold_20 : decode cX3_facesAsTold 20 = .ok (.iconst (-1), 1) := by decide +kernel
theorem dX3_facesAsTold_21 : decode cX3_facesAsTold 21 = .ok (.if_icmp .eq 18, 3) := by decide +kernel
theorem dX3_facesAsTold_24 : decode cX3_facesAsTold 24 = .ok (.iload 4, 2) := by decide +kernel
theorem dX3_facesAsTold_26 : decode cX3_facesAsTold 26 = .ok (.aload_n 0, 1) := by decide +kernel
theorem dX3_facesAsTold_27 : decode cX3_facesAsTold 27 = .ok (.getfield 16, 3) := by decide +kernel
theorem dX3_facesAsTold_30 : decode cX3_facesAsTold 30 = .ok (.iload_n 2, 1) := by decide +kernel
theorem dX3_facesAsTold_31 : decode cX3_facesAsTold 31 = .ok (.invokevirtual 137, 3) := by decide +kernel
theorem dX3_facesAsTold_34 : decode cX3_facesAsTold 34 = .ok (.if_icmp .eq 5, 3) := by decide +kernel
theorem dX3_facesAsTold_37 : decode cX3_facesAsTold 37 = .ok (.iconst 0, 1) := by decide +kernel
theorem dX3_facesAsTold_38 : decode cX3_facesAsTold 38 = .ok (.ireturn, 1) := by decide +kernel
theorem dX3_facesAsTold_39 : decode cX3_facesAsTold 39 = .ok (.aload_n 0, 1) := by decide +kernel
theorem dX3_facesAsTold_40 : decode cX3_facesAsTold 40 = .ok (.getfield 16, 3) := by decide +kernel
theorem dX3_facesAsTold_43 : decode cX3_facesAsTold 43 = .ok (.invokevirtual 140, 3) := by decide +kernel
theorem dX3_facesAsTold_46 : decode cX3_facesAsTold 46 = .ok (.iinc 3 1, 3) := by decide +kernel
theorem dX3_facesAsTold_49 : decode cX3_facesAsTold 49 = .ok (.goto (-47), 3) := by decide +kernel
theorem dX3_facesAsTold_52 : decode cX3_facesAsTold 52 = .ok (.iconst 1, 1) := by decide +kernel
theorem dX3_facesAsTold_53 : decode cX3_facesAsTold 53 = .ok (.ireturn, 1) := by decide +kernel
theorem dX4_init_0 : decode cX4_init 0 = .ok (.aload_n 0, 1) := by decide +kernel
theorem dX4_init_1 : decode cX4_init 1 = .ok (.invokespecial 1, 3) := by decide +kernel
theorem dX4_init_4 : decode cX4_init 4 = .ok (.aload_n 0, 1) := by decide +kernel
theorem dX4_init_5 : decode cX4_init 5 = .ok (.bipush 62, 2) := by decide +kernel
theorem dX4_init_7 : decode cX4_init 7 = .ok (.newarray .int, 2) := by decide +kernel
theorem dX4_init_9 : decode cX4_init 9 = .ok (.putfield 9, 3) := by decide +kernel
theorem dX4_init_12 : decode cX4_init 12 = .ok (.aload_n 0, 1) := by decide +kernel
theorem dX4_init_13 : decode cX4_init 13 = .ok (.bipush 62, 2) := by decide +kernel
theorem dX4_init_15 : decode cX4_init 15 = .ok (.newarray .int, 2) := by decide +kernel
theorem dX4_init_17 : decode cX4_init 17 = .ok (.putfield 13, 3) := by decide +kernel
theorem dX4_init_20 : decode cX4_init 20 = .ok (.aload_n 0, 1) := by decide +kernel
theorem dX4_init_21 : decode cX4_init 21 = .ok (.bipush 62, 2) := by decide +kernel
theorem dX4_init_23 : decode cX4_init 23 = .ok (.newarray .int, 2) := by decide +kernel
theorem dX4_init_25 : decode cX4_init 25 = .ok (.putfield 16, 3) := by decide +kernel
theorem dX4_init_28 : decode cX4_init 28 = .ok (.aload_n 0, 1) := by decide +kernel
theorem dX4_init_29 : decode cX4_init 29 = .ok (.bipush 8, 2) := by decide +kernel
theorem dX4_init_31 : decode cX4_init 31 = .ok (.newarray .int, 2) := by decide +kernel
theorem dX4_init_33 : decode cX4_init 33 = .ok (.putfield 19, 3) := by decide +kernel
theorem dX4_init_36 : decode cX4_init 36 = .ok (.aload_n 0, 1) := by decide +kernel
theorem dX4_init_37 : decode cX4_init 37 = .ok (.iconst 4, 1) := by decide +kernel
theorem dX4_init_38 : decode cX4_init 38 = .ok (.newarray .int, 2) := by decide +kernel
theorem dX4_init_40 : decode cX4_init 40 = .ok (.dup, 1) := by decide +kernel
theorem dX4_init_41 : decode cX4_init 41 = .ok (.iconst 0, 1) := by decide +kernel
theorem dX4_init_42 : decode cX4_init 42 = .ok (.iconst 0, 1) := by decide +kernel
theorem dX4_init_43 : decode cX4_init 43 = .ok (.iastore, 1) := by decide +kernel
theorem dX4_init_44 : decode cX4_init 44 = .ok (.dup, 1) := by decide +kernel
theorem dX4_init_45 : decode cX4_init 45 = .ok (.iconst 1, 1) := by decide +kernel
theorem dX4_init_46 : decode cX4_init 46 = .ok (.iconst 1, 1) := by decide +kernel
theorem dX4_init_47 : decode cX4_init 47 = .ok (.iastore, 1) := by decide +kernel
theorem dX4_init_48 : decode cX4_init 48 = .ok (.dup, 1) := by decide +kernel
theorem dX4_init_49 : decode cX4_init 49 = .ok (.iconst 2, 1) := by decide +kernel
theorem dX4_init_50 : decode cX4_init 50 = .ok (.bipush 6, 2) := by decide +kernel
theorem dX4_init_52 : decode cX4_init 52 = .ok (.iastore, 1) := by decide +kernel
theorem dX4_init_53 : decode cX4_init 53 = .ok (.dup, 1) := by decide +kernel
theorem dX4_init_54 : decode cX4_init 54 = .ok (.iconst 3, 1) := by decide +kernel
theorem dX4_init_55 : decode cX4_init 55 = .ok (.bipush 11, 2) := by decide +kernel
theorem dX4_init_57 : decode cX4_init 57 = .ok (.iastore, 1) := by decide +kernel
theorem dX4_init_58 : decode cX4_init 58 = .ok (.putfield 22, 3) := by decide +kernel
theorem dX4_init_61 : decode cX4_init 61 = .ok (.aload_n 0, 1) := by decide +kernel
theorem dX4_init_62 : decode cX4_init 62 = .ok (.bipush 8, 2) := by decide +kernel
theorem dX4_init_64 : decode cX4_init 64 = .ok (.newarray .int, 2) := by decide +kernel
theorem dX4_init_66 : decode cX4_init 66 = .ok (.putfield 25, 3) := by decide +kernel
theorem dX4_init_69 : decode cX4_init 69 = .ok (.aload_n 0, 1) := by decide +kernel
theorem dX4_init_70 : decode cX4_init 70 = .ok (.bipush 8, 2) := by decide +kernel
theorem dX4_init_72 : decode cX4_init 72 = .ok (.newarray .int, 2) := by decide +kernel
theorem dX4_init_74 : decode cX4_init 74 = .ok (.putfield 28, 3) := by decide +kernel
theorem dX4_init_77 : decode cX4_init 77 = .ok (.aload_n 0, 1) := by decide +kernel
theorem dX4_init_78 : decode cX4_init 78 = .ok (.bipush 8, 2) := by decide +kernel
theorem dX4_init_80 : decode cX4_init 80 = .ok (.newarray .int, 2) := by decide +kernel
theorem dX4_init_82 : decode cX4_init 82 = .ok (.putfield 31, 3) := by decide +kernel
theorem dX4_init_85 : decode cX4_init 85 = .ok (.aload_n 0, 1) := by decide +kernel
theorem dX4_init_86 : decode cX4_init 86 = .ok (.bipush 8, 2) := by decide +kernel
theorem dX4_init_88 : decode cX4_init 88 = .ok (.newarray .int, 2) := by decide +kernel
theorem dX4_init_90 : decode cX4_init 90 = .ok (.putfield 34, 3) := by decide +kernel
theorem dX4_init_93 : decode cX4_init 93 = .ok (.aload_n 0, 1) := by decide +kernel
theorem dX4_init_94 : decode cX4_init 94 = .ok (.bipush 120, 2) := by decide +kernel
theorem dX4_init_96 : decode cX4_init 96 = .ok (.newarray .int, 2) := by decide +kernel
theorem dX4_init_98 : decode cX4_init 98 = .ok (.putfield 37, 3) := by decide +kernel
theorem dX4_init_101 : decode cX4_init 101 = .ok (.aload_n 0, 1) := by decide +kernel
theorem dX4_init_102 : decode cX4_init 102 = .ok (.bipush 7, 2) := by decide +kernel
theorem dX4_init_104 : decode cX4_init 104 = .ok (.anewarray 40, 3) := by decide +kernel
theorem dX4_init_107 : decode cX4_init 107 = .ok (.dup, 1) := by decide +kernel
theorem dX4_init_108 : decode cX4_init 108 = .ok (.iconst 0, 1) := by decide +kernel
theorem dX4_init_109 : decode cX4_init 109 = .ok (.ldc 42, 2) := by decide +kernel
theorem dX4_init_111 : decode cX4_init 111 = .ok (.aastore, 1) := by decide +kernel
theorem dX4_init_112 : decode cX4_init 112 = .ok (.dup, 1) := by decide +kernel
theorem dX4_init_113 : decode cX4_init 113 = .ok (.iconst 1, 1) := by decide +kernel
theorem dX4_init_114 : decode cX4_init 114 = .ok (.ldc 44, 2) := by decide +kernel
theorem dX4_init_116 : decode cX4_init 116 = .ok (.aastore, 1) := by decide +kernel
theorem dX4_init_117 : decode cX4_init 117 = .ok (.dup, 1) := by decide +kernel
theorem dX4_init_118 : decode cX4_init 118 = .ok (.iconst 2, 1) := by decide +kernel
theorem dX4_init_119 : decode cX4_init 119 = .ok (.ldc 46, 2) := by decide +kernel
theorem dX4_init_121 : decode cX4_init 121 = .ok (.aastore, 1) := by decide +kernel
theorem dX4_init_122 : decode cX4_init 122 = .ok (.dup, 1) := by decide +kernel
theorem dX4_init_123 : decode cX4_init 123 = .ok (.iconst 3, 1) := by decide +kernel
theorem dX4_init_124 : decode cX4_init 124 = .ok (.ldc 48, 2) := by decide +kernel
theorem dX4_init_126 : decode cX4_init 126 = .ok (.aastore, 1) := by decide +kernel
theorem dX4_init_127 : decode cX4_init 127 = .ok (.dup, 1) := by decide +kernel
theorem dX4_init_128 : decode cX4_init 128 = .ok (.iconst 4, 1) := by decide +kernel
theorem dX4_init_129 : decode cX4_init 129 = .ok (.ldc 50, 2) := by decide +kernel
theorem dX4_init_131 : decode cX4_init 131 = .ok (.aastore, 1) := by decide +kernel
theorem dX4_init_132 : decode cX4_init 132 = .ok (.dup, 1) := by decide +kernel
theorem dX4_init_133 : decode cX4_init 133 = .ok (.iconst 5, 1) := by decide +kernel
theorem dX4_init_134 : decode cX4_init 134 = .ok (.ldc 52, 2) := by decide +kernel
theorem dX4_init_136 : decode cX4_init 136 = .ok (.aastore, 1) := by decide +kernel
theorem dX4_init_137 : decode cX4_init 137 = .ok (.dup, 1) := by decide +kernel
theorem dX4_init_138 : decode cX4_init 138 = .ok (.bipush 6, 2) := by decide +kernel
theorem dX4_init_140 : decode cX4_init 140 = .ok (.ldc 54, 2) := by decide +kernel
theorem dX4_init_142 : decode cX4_init 142 = .ok (.aastore, 1) := by decide +kernel
theorem dX4_init_143 : decode cX4_init 143 = .ok (.putfield 56, 3) := by decide +kernel
theorem dX4_init_146 : decode cX4_init 146 = .ok (.aload_n 0, 1) := by decide +kernel
theorem dX4_init_147 : decode cX4_init 147 = .ok (.sipush 600, 3) := by decide +kernel
theorem dX4_init_150 : decode cX4_init 150 = .ok (.newarray .int, 2) := by decide +kernel
theorem dX4_init_152 : decode cX4_init 152 = .ok (.putfield 60, 3) := by decide +kernel
theorem dX4_init_155 : decode cX4_init 155 = .ok (.aload_n 0, 1) := by decide +kernel
theorem dX4_init_156 : decode cX4_init 156 = .ok (.iconst 4, 1) := by decide +kernel
theorem dX4_init_157 : decode cX4_init 157 = .ok (.newarray .int, 2) := by decide +kernel
theorem dX4_init_159 : decode cX4_init 159 = .ok (.putfield 63, 3) := by decide +kernel
theorem dX4_init_162 : decode cX4_init 162 = .ok (.aload_n 0, 1) := by decide +kernel
theorem dX4_init_163 : decode cX4_init 163 = .ok (.iconst 4, 1) := by decide +kernel
theorem dX4_init_164 : decode cX4_init 164 = .ok (.newarray .int, 2) := by decide +kernel
theorem dX4_init_166 : decode cX4_init 166 = .ok (.putfield 66, 3) := by decide +kernel
theorem dX4_init_169 : decode cX4_init 169 = .ok (.aload_n 0, 1) := by decide +kernel
theorem dX4_init_170 : decode cX4_init 170 = .ok (.sipush 160, 3) := by decide +kernel
theorem dX4_init_173 : decode cX4_init 173 = .ok (.newarray .int, 2) := by decide +kernel
theorem dX4_init_175 : decode cX4_init 175 = .ok (.putfield 69, 3) := by decide +kernel
theorem dX4_init_178 : decode cX4_init 178 = .ok (.aload_n 0, 1) := by decide +kernel
theorem dX4_init_179 : decode cX4_init 179 = .ok (.bipush 40, 2) := by decide +kernel
theorem dX4_init_181 : decode cX4_init 181 = .ok (.newarray .int, 2) := by decide +kernel
theorem dX4_init_183 : decode cX4_init 183 = .ok (.putfield 72, 3) := by decide +kernel
theorem dX4_init_186 : decode cX4_init 186 = .ok (.aload_n 0, 1) := by decide +kernel
theorem dX4_init_187 : decode cX4_init 187 = .ok (.getfield 9, 3) := by decide +kernel
theorem dX4_init_190 : decode cX4_init 190 = .ok (.iconst 2, 1) := by decide +kernel
theorem dX4_init_191 : decode cX4_init 191 = .ok (.iconst 1, 1) := by decide +kernel
theorem dX4_init_192 : decode cX4_init 192 = .ok (.iastore, 1) := by decide +kernel
theorem dX4_init_193 : decode cX4_init 193 = .ok (.aload_n 0, 1) := by decide +kernel
theorem dX4_init_194 : decode cX4_init 194 = .ok (.getfield 9, 3) := by decide +kernel
theorem dX4_init_197 : decode cX4_init 197 = .ok (.iconst 3, 1) := by decide +kernel
theorem dX4_init_198 : decode cX4_init 198 = .ok (.iconst 2, 1) := by decide +kernel
theorem dX4_init_199 : decode cX4_init 199 = .ok (.iastore, 1) := by decide +kernel
theorem dX4_init_200 : decode cX4_init 200 = .ok (.iconst 0, 1) := by decide +kernel
theorem dX4_init_201 : decode cX4_init 201 = .ok (.istore_n 1, 1) := by decide +kernel
theorem dX4_init_202 : decode cX4_init 202 = .ok (.iload_n 1, 1) := by decide +kernel
theorem dX4_init_203 : decode cX4_init 203 = .ok (.bipush 10, 2) := by decide +kernel
theorem dX4_init_205 : decode cX4_init 205 = .ok (.if_icmp .ge 18, 3) := by decide +kernel
theorem dX4_init_208 : decode cX4_init 208 = .ok (.aload_n 0, 1) := by decide +kernel
theorem dX4_init_209 : decode cX4_init 209 = .ok (.getfield 9, 3) := by decide +kernel
theorem dX4_init_212 : decode cX4_init 212 = .ok (.iconst 4, 1) := by decide +kernel
theorem dX4_init_213 : decode cX4_init 213 = .ok (.iload_n 1, 1) := by decide +kernel
theorem dX4_init_214 : decode cX4_init 214 = .ok (.iadd, 1) := by decide +kernel
theorem dX4_init_215 : decode cX4_init 215 = .ok (.iconst (-1), 1) := by decide +kernel
theorem dX4_init_216 : decode cX4_init 216 = .ok (.iastore, 1) := by decide +kernel
theorem dX4_init_217 : decode cX4_init 217 = .ok (.iinc 1 1, 3) := by decide +kernel
theorem dX4_init_220 : decode cX4_init 220 = .ok (.goto (-18), 3) := by decide +kernel
theorem dX4_init_223 : decode cX4_init 223 = .ok (.return_, 1) := by decide +kernel
theorem dX4_finding_0 : decode cX4_finding 0 = .ok (.aload_n 0, 1) := by decide +kernel
theorem dX4_finding_1 : decode cX4_finding 1 = .ok (.getfield 19, 3) := by decide +kernel
theorem dX4_finding_4 : decode cX4_finding 4 = .ok (.ldc 75, 2) := by decide +kernel
theorem dX4_finding_6 : decode cX4_finding 6 = .ok (.iload_n 1, 1) := by decide +kernel
theorem dX4_finding_7 : decode cX4_finding 7 = .ok (.isub, 1) := by decide +kernel
theorem dX4_finding_8 : decode cX4_finding 8 = .ok (.iconst 1, 1) := by decide +kernel
theorem dX4_finding_9 : decode cX4_finding 9 = .ok (.iadd, 1) := by decide +kernel
theorem dX4_finding_10 : decode cX4_finding 10 = .ok (.dup2, 1) := by decide +kernel
theorem dX4_finding_11 : decode cX4_finding 11 = .ok (.iaload, 1) := by decide +kernel
theorem dX4_finding_12 : decode cX4_finding 12 = .ok (.iconst 1, 1) := by decide +kernel
theorem dX4_finding_13 : decode cX4_finding 13 = .ok (.iadd, 1) := by decide +kernel
theorem dX4_finding_14 : decode cX4_finding 14 = .ok (.iastore, 1) := by decide +kernel
theorem dX4_finding_15 : decode cX4_finding 15 = .ok (.aload_n 0, 1) := by decide +kernel
theorem dX4_finding_16 : decode cX4_finding 16 = .ok (.getfield 19, 3) := by decide +kernel
theorem dX4_finding_19 : decode cX4_finding 19 = .ok (.iconst 0, 1) := by decide +kernel
theorem dX4_finding_20 : decode cX4_finding 20 = .ok (.dup2, 1) := by decide +kernel
theorem dX4_finding_21 : decode cX4_finding 21 = .ok (.iaload, 1) := by decide +kernel
theorem dX4_finding_22 : decode cX4_finding 22 = .ok (.iconst 1, 1) := by decide +kernel
theorem dX4_finding_23 : decode cX4_finding 23 = .ok (.iadd, 1) := by decide +kernel
theorem dX4_finding_24 : decode cX4_finding 24 = .ok (.iastore, 1) := by decide +kernel
theorem dX4_finding_25 : decode cX4_finding 25 = .ok (.iload_n 1, 1) := by decide +kernel
theorem dX4_finding_26 : decode cX4_finding 26 = .ok (.ireturn, 1) := by decide +kernel
theorem dX4_within_0 : decode cX4_within 0 = .ok (.iload_n 0, 1) := by decide +kernel
theorem dX4_within_1 : decode cX4_within 1 = .ok (.iload_n 1, 1) := by decide +kernel
theorem dX4_within_2 : decode cX4_within 2 = .ok (.if_icmp .lt 12, 3) := by decide +kernel
theorem dX4_within_5 : decode cX4_within 5 = .ok (.iload_n 0, 1) := by decide +kernel
theorem dX4_within_6 : decode cX4_within 6 = .ok (.iload_n 2, 1) := by decide +kernel
theorem dX4_within_7 : decode cX4_within 7 = .ok (.if_icmp .gt 7, 3) := by decide +kernel
theorem dX4_within_10 : decode cX4_within 10 = .ok (.iconst 1, 1) := by decide +kernel
theorem dX4_within_11 : decode cX4_within 11 = .ok (.goto 4, 3) := by decide +kernel
theorem dX4_within_14 : decode cX4_within 14 = .ok (.iconst 0, 1) := by decide +kernel
theorem dX4_within_15 : decode cX4_within 15 = .ok (.ireturn, 1) := by decide +kernel
theorem dX4_become_0 : decode cX4_become 0 = .ok (.aload_n 0, 1) := by decide +kernel
theorem dX4_become_1 : decode cX4_become 1 = .ok (.getfield 9, 3) := by decide +kernel
theorem dX4_become_4 : decode cX4_become 4 = .ok (.iload_n 1, 1) := by decide +kernel
theorem dX4_become_5 : decode cX4_become 5 = .ok (.iaload, 1) := by decide +kernel
theorem dX4_become_6 : decode cX4_become 6 = .ok (.istore_n 3, 1) := by decide +kernel
theorem dX4_become_7 : decode cX4_become 7 = .ok (.aload_n 0, 1) := by decide +kernel
theorem dX4_become_8 : decode cX4_become 8 = .ok (.getfield 9, 3) := by decide +kernel
theorem dX4_become_11 : decode cX4_become 11 = .ok (.iload_n 1, 1) := by decide +kernel
theorem dX4_become_12 : decode cX4_become 12 = .ok (.iload_n 2, 1) := by decide +kernel
theorem dX4_become_13 : decode cX4_become 13 = .ok (.iastore, 1) := by decide +kernel
theorem dX4_become_14 : decode cX4_become 14 = .ok (.iload_n 3, 1) := by decide +kernel
theorem dX4_become_15 : decode cX4_become 15 = .ok (.ireturn, 1) := by decide +kernel
theorem dX4_copyRow_0 : decode cX4_copyRow 0 = .ok (.iconst 0, 1) := by decide +kernel
theorem dX4_copyRow_1 : decode cX4_copyRow 1 = .ok (.istore_n 2, 1) := by decide +kernel
theorem dX4_copyRow_2 : decode cX4_copyRow 2 = .ok (.iload_n 2, 1) := by decide +kernel
theorem dX4_copyRow_3 : decode cX4_copyRow 3 = .ok (.bipush 62, 2) := by decide +kernel
theorem dX4_copyRow_5 : decode cX4_copyRow 5 = .ok (.if_icmp .ge 15, 3) := by decide +kernel
theorem dX4_copyRow_8 : decode cX4_copyRow 8 = .ok (.aload_n 1, 1) := by decide +kernel
theorem dX4_copyRow_9 : decode cX4_copyRow 9 = .ok (.iload_n 2, 1) := by decide +kernel
theorem dX4_copyRow_10 : decode cX4_copyRow 10 = .ok (.aload_n 0, 1) := by decide +kernel
theorem dX4_copyRow_11 : decode cX4_copyRow 11 = .ok (.iload_n 2, 1) := by decide +kernel
theorem dX4_copyRow_12 : decode cX4_copyRow 12 = .ok (.iaload, 1) := by decide +kernel
theorem dX4_copyRow_13 : decode cX4_copyRow 13 = .ok (.iastore, 1) := by decide +kernel
theorem dX4_copyRow_14 : decode cX4_copyRow 14 = .ok (.iinc 2 1, 3) := by decide +kernel
theorem dX4_copyRow_17 : decode cX4_copyRow 17 = .ok (.goto (-15), 3) := by decide +kernel
theorem dX4_copyRow_20 : decode cX4_copyRow 20 = .ok (.return_, 1) := by decide +kernel
theorem dX4_putBack_0 : decode cX4_putBack 0 = .ok (.aload_n 0, 1) := by decide +kernel
theorem dX4_putBack_1 : decode cX4_putBack 1 = .ok (.getfield 16, 3) := by decide +kernel
theorem dX4_putBack_4 : decode cX4_putBack 4 = .ok (.aload_n 0, 1) := by decide +kernel
theorem dX4_putBack_5 : decode cX4_putBack 5 = .ok (.getfield 9, 3) := by decide +kernel
theorem dX4_putBack_8 : decode cX4_putBack 8 = .ok (.invokestatic 76, 3) := by decide +kernel
theorem dX4_putBack_11 : decode cX4_putBack 11 = .ok (.iload_n 1, 1) := by decide +kernel
theorem dX4_putBack_12 : decode cX4_putBack 12 = .ok (.ireturn, 1) := by decide +kernel
theorem dX4_orNone_0 : decode cX4_orNone 0 = .ok (.iload_n 1, 1) := by decide +kernel
theorem dX4_orNone_1 : decode cX4_orNone 1 = .ok (.ifCond .ge 12, 3) := by decide +kernel
theorem dX4_orNone_4 : decode cX4_orNone 4 = .ok (.aload_n 0, 1) := by decide +kernel
theorem dX4_orNone_5 : decode cX4_orNone 5 = .ok (.ldc 80, 2) := by decide +kernel
theorem dX4_orNone_7 : decode cX4_orNone 7 = .ok (.invokevirtual 81, 3) := by decide +kernel
theorem dX4_orNone_10 : decode cX4_orNone 10 = .ok (.goto 4, 3) := by decide +kernel
theorem dX4_orNone_13 : decode cX4_orNone 13 = .ok (.iload_n 1, 1) := by decide +kernel
theorem dX4_orNone_14 : decode cX4_orNone 14 = .ok (.ireturn, 1) := by decide +kernel
theorem dX4_bits_0 : decode cX4_bits 0 = .ok (.iconst 0, 1) := by decide +kernel
theorem dX4_bits_1 : decode cX4_bits 1 = .ok (.istore_n 1, 1) := by decide +kernel
theorem dX4_bits_2 : decode cX4_bits 2 = .ok (.iload_n 0, 1) := by decide +kernel
theorem dX4_bits_3 : decode cX4_bits 3 = .ok (.istore_n 2, 1) := by decide +kernel
theorem dX4_bits_4 : decode cX4_bits 4 = .ok (.iload_n 2, 1) := by decide +kernel
theorem dX4_bits_5 : decode cX4_bits 5 = .ok (.ifCond .eq 15, 3) := by decide +kernel
theorem dX4_bits_8 : decode cX4_bits 8 = .ok (.iinc 1 1, 3) := by decide +kernel
theorem dX4_bits_11 : decode cX4_bits 11 = .ok (.iload_n 2, 1) := by decide +kernel
theorem dX4_bits_12 : decode cX4_bits 12 = .ok (.iload_n 2, 1) := by decide +kernel
theorem dX4_bits_13 : decode cX4_bits 13 = .ok (.iconst 1, 1) := by decide +kernel
theorem dX4_bits_14 : decode cX4_bits 14 = .ok (.isub, 1) := by decide +kernel
theorem dX4_bits_15 : decode cX4_bits 15 = .ok (.iand, 1) := by decide +kernel
theorem dX4_bits_16 : decode cX4_bits 16 = .ok (.istore_n 2, 1) := by decide +kernel
theorem dX4_bits_17 : decode cX4_bits 17 = .ok (.goto (-13), 3) := by decide +kernel
theorem dX4_bits_20 : decode cX4_bits 20 = .ok (.iload_n 1, 1) := by decide +kernel
theorem dX4_bits_21 : decode cX4_bits 21 = .ok (.ireturn, 1) := by decide +kernel
theorem dX4_by12_0 : decode cX4_by12 0 = .ok (.iload_n 0, 1) := by decide +kernel
theorem dX4_by12_1 : decode cX4_by12 1 = .ok (.bipush 12, 2) := by decide +kernel
theorem dX4_by12_3 : decode cX4_by12 3 = .ok (.irem, 1) := by decide +kernel
theorem dX4_by12_4 : decode cX4_by12 4 = .ok (.istore_n 1, 1) := by decide +kernel
theorem dX4_by12_5 : decode cX4_by12 5 = .ok (.iload_n 1, 1) := by decide +kernel
theorem dX4_by12_6 : decode cX4_by12 6 = .ok (.ifCond .ge 10, 3) := by decide +kernel
theorem dX4_by12_9 : decode cX4_by12 9 = .ok (.iload_n 1, 1) := by decide +kernel
theorem dX4_by12_10 : decode cX4_by12 10 = .ok (.bipush 12, 2) := by decide +kernel
theorem dX4_by12_12 : decode cX4_by12 12 = .ok (.iadd, 1) := by decide +kernel
theorem dX4_by12_13 : decode cX4_by12 13 = .ok (.goto 4, 3) := by decide +kernel
theorem dX4_by12_16 : decode cX4_by12 16 = .ok (.iload_n 1, 1) := by decide +kernel
theorem dX4_by12_17 : decode cX4_by12 17 = .ok (.ireturn, 1) := by decide +kernel
theorem dX4_rain_0 : decode cX4_rain 0 = .ok (.iload_n 1, 1) := by decide +kernel
theorem dX4_rain_1 : decode cX4_rain 1 = .ok (.iconst 0, 1) := by decide +kernel
theorem dX4_rain_2 : decode cX4_rain 2 = .ok (.bipush 9, 2) := by decide +kernel
theorem dX4_rain_4 : decode cX4_rain 4 = .ok (.invokestatic 85, 3) := by decide +kernel
theorem dX4_rain_7 : decode cX4_rain 7 = .ok (.ifCond .eq 12, 3) := by decide +kernel
theorem dX4_rain_10 : decode cX4_rain 10 = .ok (.aload_n 0, 1) := by decide +kernel
theorem dX4_rain_11 : decode cX4_rain 11 = .ok (.iconst 3, 1) := by decide +kernel
theorem dX4_rain_12 : decode cX4_rain 12 = .ok (.iload_n 1, 1) := by decide +kernel
theorem dX4_rain_13 : decode cX4_rain 13 = .ok (.invokevirtual 89, 3) := by decide +kernel
theorem dX4_rain_16 : decode cX4_rain 16 = .ok (.goto 9, 3) := by decide +kernel
theorem dX4_rain_19 : decode cX4_rain 19 = .ok (.aload_n 0, 1) := by decide +kernel
theorem dX4_rain_20 : decode cX4_rain 20 = .ok (.ldc 75, 2) := by decide +kernel
theorem dX4_rain_22 : decode cX4_rain 22 = .ok (.invokevirtual 81, 3) := by decide +kernel
theorem dX4_rain_25 : decode cX4_rain 25 = .ok (.ireturn, 1) := by decide +kernel
theorem dX4_isValley_0 : decode cX4_isValley 0 = .ok (.iload_n 0, 1) := by decide +kernel
theorem dX4_isValley_1 : decode cX4_isValley 1 = .ok (.iconst 0, 1) := by decide +kernel
theorem dX4_isValley_2 : decode cX4_isValley 2 = .ok (.bipush 11, 2) := by decide +kernel
theorem dX4_isValley_4 : decode cX4_isValley 4 = .ok (.invokestatic 85, 3) := by decide +kernel
theorem dX4_isValley_7 : decode cX4_isValley 7 = .ok (.ireturn, 1) := by decide +kernel
theorem dX4_isHigh_0 : decode cX4_isHigh 0 = .ok (.iload_n 0, 1) := by decide +kernel
theorem dX4_isHigh_1 : decode cX4_isHigh 1 = .ok (.iconst 0, 1) := by decide +kernel
theorem dX4_isHigh_2 : decode cX4_isHigh 2 = .ok (.bipush 99, 2) := by decide +kernel
theorem dX4_isHigh_4 : decode cX4_isHigh 4 = .ok (.invokestatic 85, 3) := by decide +kernel
theorem dX4_isHigh_7 : decode cX4_isHigh 7 = .ok (.ireturn, 1) := by decide +kernel
theorem dX4_isHill_0 : decode cX4_isHill 0 = .ok (.iload_n 1, 1) := by decide +kernel
theorem dX4_isHill_1 : decode cX4_isHill 1 = .ok (.iconst 0, 1) := by decide +kernel
theorem dX4_isHill_2 : decode cX4_isHill 2 = .ok (.aload_n 0, 1) := by decide +kernel
theorem dX4_isHill_3 : decode cX4_isHill 3 = .ok (.getfield 9, 3) := by decide +kernel
theorem dX4_isHill_6 : decode cX4_isHill 6 = .ok (.iconst 1, 1) := by decide +kernel
theorem dX4_isHill_7 : decode cX4_isHill 7 = .ok (.iaload, 1) := by decide +kernel
theorem dX4_isHill_8 : decode cX4_isHill 8 = .ok (.iconst 1, 1) := by decide +kernel
theorem dX4_isHill_9 : decode cX4_isHill 9 = .ok (.isub, 1) := by decide +kernel
theorem dX4_isHill_10 : decode cX4_isHill 10 = .ok (.invokestatic 85, 3) := by decide +kernel
theorem dX4_isHill_13 : decode cX4_isHill 13 = .ok (.ireturn, 1) := by decide +kernel
theorem dX4_isKind_0 : decode cX4_isKind 0 = .ok (.iload_n 0, 1) := by decide +kernel
theorem dX4_isKind_1 : decode cX4_isKind 1 = .ok (.iconst 0, 1) := by decide +kernel
theorem dX4_isKind_2 : decode cX4_isKind 2 = .ok (.bipush 6, 2) := by decide +kernel
theorem dX4_isKind_4 : decode cX4_isKind 4 = .ok (.invokestatic 85, 3) := by decide +kernel
theorem dX4_isKind_7 : decode cX4_isKind 7 = .ok (.ireturn, 1) := by decide +kernel
theorem dX4_at_0 : decode cX4_at 0 = .ok (.bipush 14, 2) := by decide +kernel
theorem dX4_at_2 : decode cX4_at 2 = .ok (.bipush 6, 2) := by decide +kernel
theorem dX4_at_4 : decode cX4_at 4 = .ok (.iload_n 0, 1) := by decide +kernel
theorem dX4_at_5 : decode cX4_at 5 = .ok (.imul, 1) := by decide +kernel
theorem dX4_at_6 : decode cX4_at 6 = .ok (.iadd, 1) := by decide +kernel
theorem dX4_at_7 : decode cX4_at 7 = .ok (.iload_n 1, 1) := by decide +kernel
theorem dX4_at_8 : decode cX4_at 8 = .ok (.iadd, 1) := by decide +kernel
theorem dX4_at_9 : decode cX4_at 9 = .ok (.ireturn, 1) := by decide +kernel
theorem dX4_hillIs_0 : decode cX4_hillIs 0 = .ok (.aload_n 0, 1) := by decide +kernel
theorem dX4_hillIs_1 : decode cX4_hillIs 1 = .ok (.getfield 9, 3) := by decide +kernel
theorem dX4_hillIs_4 : decode cX4_hillIs 4 = .ok (.iload_n 1, 1) := by decide +kernel
theorem dX4_hillIs_5 : decode cX4_hillIs 5 = .ok (.iload_n 2, 1) := by decide +kernel
theorem dX4_hillIs_6 : decode cX4_hillIs 6 = .ok (.invokestatic 93, 3) := by decide +kernel
theorem dX4_hillIs_9 : decode cX4_hillIs 9 = .ok (.iaload, 1) := by decide +kernel
theorem dX4_hillIs_10 : decode cX4_hillIs 10 = .ok (.ireturn, 1) := by decide +kernel
theorem dX4_comes_0 : decode cX4_comes 0 = .ok (.aload_n 0, 1) := by decide +kernel
theorem dX4_comes_1 : decode cX4_comes 1 = .ok (.getfield 9, 3) := by decide +kernel
theorem dX4_comes_4 : decode cX4_comes 4 = .ok (.iconst 1, 1) := by decide +kernel
theorem dX4_comes_5 : decode cX4_comes 5 = .ok (.iaload, 1) := by decide +kernel
theorem dX4_comes_6 : decode cX4_comes 6 = .ok (.istore 6, 2) := by decide +kernel
theorem dX4_comes_8 : decode cX4_comes 8 = .ok (.aload_n 0, 1) := by decide +kernel
theorem dX4_comes_9 : decode cX4_comes 9 = .ok (.getfield 9, 3) := by decide +kernel
theorem dX4_comes_12 : decode cX4_comes 12 = .ok (.iload 6, 2) := by decide +kernel
theorem dX4_comes_14 : decode cX4_comes 14 = .ok (.iconst 0, 1) := by decide +kernel
theorem dX4_comes_15 : decode cX4_comes 15 = .ok (.invokestatic 93, 3) := by decide +kernel
theorem dX4_comes_18 : decode cX4_comes 18 = .ok (.iload_n 1, 1) := by decide +kernel
theorem dX4_comes_19 : decode cX4_comes 19 = .ok (.iastore, 1) := by decide +kernel
theorem dX4_comes_20 : decode cX4_comes 20 = .ok (.aload_n 0, 1) := by decide +kernel
theorem dX4_comes_21 : decode cX4_comes 21 = .ok (.getfield 9, 3) := by decide +kernel
theorem dX4_comes_24 : decode cX4_comes 24 = .ok (.iload 6, 2) := by decide +kernel
theorem dX4_comes_26 : decode cX4_comes 26 = .ok (.iconst 1, 1) := by decide +kernel
theorem dX4_comes_27 : decode cX4_comes 27 = .ok (.invokestatic 93, 3) := by decide +kernel
theorem dX4_comes_30 : decode cX4_comes 30 = .ok (.iload_n 2, 1) := by decide +kernel
theorem dX4_comes_31 : decode cX4_comes 31 = .ok (.iastore, 1) := by decide +kernel
theorem dX4_comes_32 : decode cX4_comes 32 = .ok (.aload_n 0, 1) := by decide +kernel
theorem dX4_comes_33 : decode cX4_comes 33 = .ok (.getfield 9, 3) := by decide +kernel
theorem dX4_comes_36 : decode cX4_comes 36 = .ok (.iload 6, 2) := by decide +kernel
theorem dX4_comes_38 : decode cX4_comes 38 = .ok (.iconst 2, 1) := by decide +kernel
theorem dX4_comes_39 : decode cX4_comes 39 = .ok (.invokestatic 93, 3) := by decide +kernel
theorem dX4_comes_42 : decode cX4_comes 42 = .ok (.iload_n 3, 1) := by decide +kernel
theorem dX4_comes_43 : decode cX4_comes 43 = .ok (.iastore, 1) := by decide +kernel
theorem dX4_comes_44 : decode cX4_comes 44 = .ok (.aload_n 0, 1) := by decide +kernel
theorem dX4_comes_45 : decode cX4_comes 45 = .ok (.getfield 9, 3) := by decide +kernel
theorem dX4_comes_48 : decode cX4_comes 48 = .ok (.iload 6, 2) := by decide +kernel
theorem dX4_comes_50 : decode cX4_comes 50 = .ok (.iconst 3, 1) := by decide +kernel
theorem dX4_comes_51 : decode cX4_comes 51 = .ok (.invokestatic 93, 3) := by decide +kernel
theorem dX4_comes_54 : decode cX4_comes 54 = .ok (.iload 4, 2) := by decide +kernel
theorem dX4_comes_56 : decode cX4_comes 56 = .ok (.iastore, 1) := by decide +kernel
theorem dX4_comes_57 : decode cX4_comes 57 = .ok (.aload_n 0, 1) := by decide +kernel
theorem dX4_comes_58 : decode cX4_comes 58 = .ok (.getfield 9, 3) := by decide +kernel
theorem dX4_comes_61 : decode cX4_comes 61 = .ok (.iload 6, 2) := by decide +kernel
theorem dX4_comes_63 : decode cX4_comes 63 = .ok (.iconst 4, 1) := by decide +kernel
theorem dX4_comes_64 : decode cX4_comes 64 = .ok (.invokestatic 93, 3) := by decide +kernel
theorem dX4_comes_67 : decode cX4_comes 67 = .ok (.iload 5, 2) := by decide +kernel
theorem dX4_comes_69 : decode cX4_comes 69 = .ok (.iastore, 1) := by decide +kernel
theorem dX4_comes_70 : decode cX4_comes 70 = .ok (.aload_n 0, 1) := by decide +kernel
theorem dX4_comes_71 : decode cX4_comes 71 = .ok (.getfield 9, 3) := by decide +kernel
theorem dX4_comes_74 : decode cX4_comes 74 = .ok (.iload 6, 2) := by decide +kernel
theorem dX4_comes_76 : decode cX4_comes 76 = .ok (.iconst 5, 1) := by decide +kernel
theorem dX4_comes_77 : decode cX4_comes 77 = .ok (.invokestatic 93, 3) := by decide +kernel
theorem dX4_comes_80 : decode cX4_comes 80 = .ok (.iconst 0, 1) := by decide +kernel
theorem dX4_comes_81 : decode cX4_comes 81 = .ok (.iastore, 1) := by decide +kernel
theorem dX4_comes_82 : decode cX4_comes 82 = .ok (.aload_n 0, 1) := by decide +kernel
theorem dX4_comes_83 : decode cX4_comes 83 = .ok (.getfield 9, 3) := by decide +kernel
theorem dX4_comes_86 : decode cX4_comes 86 = .ok (.iconst 1, 1) := by decide +kernel
theorem dX4_comes_87 : decode cX4_comes 87 = .ok (.dup2, 1) := by decide +kernel
theorem dX4_comes_88 : decode cX4_comes 88 = .ok (.iaload, 1) := by decide +kernel
theorem dX4_comes_89 : decode cX4_comes 89 = .ok (.iconst 1, 1) := by decide +kernel
theorem dX4_comes_90 : decode cX4_comes 90 = .ok (.iadd, 1) := by decide +kernel
theorem dX4_comes_91 : decode cX4_comes 91 = .ok (.iastore, 1) := by decide +kernel
theorem dX4_comes_92 : decode cX4_comes 92 = .ok (.iload 6, 2) := by decide +kernel
theorem dX4_comes_94 : decode cX4_comes 94 = .ok (.ireturn, 1) := by decide +kernel
theorem dX4_hill_0 : decode cX4_hill 0 = .ok (.iload_n 1, 1) := by decide +kernel
theorem dX4_hill_1 : decode cX4_hill 1 = .ok (.invokestatic 96, 3) := by decide +kernel
theorem dX4_hill_4 : decode cX4_hill 4 = .ok (.ifCond .eq 10, 3) := by decide +kernel
theorem dX4_hill_7 : decode cX4_hill 7 = .ok (.iload_n 2, 1) := by decide +kernel
theorem dX4_hill_8 : decode cX4_hill 8 = .ok (.invokestatic 100, 3) := by decide +kernel
theorem dX4_hill_11 : decode cX4_hill 11 = .ok (.ifCond .ne 10, 3) := by decide +kernel
theorem dX4_hill_14 : decode cX4_hill 14 = .ok (.aload_n 0, 1) := by decide +kernel
theorem dX4_hill_15 : decode cX4_hill 15 = .ok (.ldc 75, 2) := by decide +kernel
theorem dX4_hill_17 : decode cX4_hill 17 = .ok (.invokevirtual 81, 3) := by decide +kernel
theorem dX4_hill_20 : decode cX4_hill 20 = .ok (.ireturn, 1) := by decide +kernel
theorem dX4_hill_21 : decode cX4_hill 21 = .ok (.aload_n 0, 1) := by decide +kernel
theorem dX4_hill_22 : decode cX4_hill 22 = .ok (.getfield 9, 3) := by decide +kernel
theorem dX4_hill_25 : decode cX4_hill 25 = .ok (.iconst 1, 1) := by decide +kernel
theorem dX4_hill_26 : decode cX4_hill 26 = .ok (.iaload, 1) := by decide +kernel
theorem dX4_hill_27 : decode cX4_hill 27 = .ok (.bipush 8, 2) := by decide +kernel
theorem dX4_hill_29 : decode cX4_hill 29 = .ok (.if_icmp .ne 12, 3) := by decide +kernel
theorem dX4_hill_32 : decode cX4_hill 32 = .ok (.aload_n 0, 1) := by decide +kernel
theorem dX4_hill_33 : decode cX4_hill 33 = .ok (.ldc 103, 2) := by decide +kernel
theorem dX4_hill_35 : decode cX4_hill 35 = .ok (.invokevirtual 81, 3) := by decide +kernel
theorem dX4_hill_38 : decode cX4_hill 38 = .ok (.goto 13, 3) := by decide +kernel
theorem dX4_hill_41 : decode cX4_hill 41 = .ok (.aload_n 0, 1) := by decide +kernel
theorem dX4_hill_42 : decode cX4_hill 42 = .ok (.iload_n 1, 1) := by decide +kernel
theorem dX4_hill_43 : decode cX4_hill 43 = .ok (.iload_n 2, 1) := by decide +kernel
theorem dX4_hill_44 : decode cX4_hill 44 = .ok (.iconst 1, 1) := by decide +kernel
theorem dX4_hill_45 : decode cX4_hill 45 = .ok (.iconst 0, 1) := by decide +kernel
theorem dX4_hill_46 : decode cX4_hill 46 = .ok (.bipush 50, 2) := by decide +kernel
theorem dX4_hill_48 : decode cX4_hill 48 = .ok (.invokevirtual 104, 3) := by decide +kernel
theorem dX4_hill_51 : decode cX4_hill 51 = .ok (.ireturn, 1) := by decide +kernel
theorem dX4_facesOf_0 : decode cX4_facesOf 0 = .ok (.aload_n 0, 1) := by decide +kernel
theorem dX4_facesOf_1 : decode cX4_facesOf 1 = .ok (.iload_n 1, 1) := by decide +kernel
theorem dX4_facesOf_2 : decode cX4_facesOf 2 = .ok (.iconst 1, 1) := by decide +kernel
theorem dX4_facesOf_3 : decode cX4_facesOf 3 = .ok (.invokevirtual 108, 3) := by decide +kernel
theorem dX4_facesOf_6 : decode cX4_facesOf 6 = .ok (.aload_n 0, 1) := by decide +kernel
theorem dX4_facesOf_7 : decode cX4_facesOf 7 = .ok (.getfield 22, 3) := by decide +kernel
theorem dX4_facesOf_10 : decode cX4_facesOf 10 = .ok (.aload_n 0, 1) := by decide +kernel
theorem dX4_facesOf_11 : decode cX4_facesOf 11 = .ok (.iload_n 1, 1) := by decide +kernel
theorem dX4_facesOf_12 : decode cX4_facesOf 12 = .ok (.iconst 3, 1) := by decide +kernel
theorem dX4_facesOf_13 : decode cX4_facesOf 13 = .ok (.invokevirtual 108, 3) := by decide +kernel
theorem dX4_facesOf_16 : decode cX4_facesOf 16 = .ok (.iaload, 1) := by decide +kernel
theorem dX4_facesOf_17 : decode cX4_facesOf 17 = .ok (.iadd, 1) := by decide +kernel
theorem dX4_facesOf_18 : decode cX4_facesOf 18 = .ok (.invokestatic 111, 3) := by decide +kernel
theorem dX4_facesOf_21 : decode cX4_facesOf 21 = .ok (.ireturn, 1) := by decide +kernel
theorem dX4_atValley_0 : decode cX4_atValley 0 = .ok (.iconst 0, 1) := by decide +kernel
theorem dX4_atValley_1 : decode cX4_atValley 1 = .ok (.istore_n 2, 1) := by decide +kernel
theorem dX4_atValley_2 : decode cX4_atValley 2 = .ok (.iconst 0, 1) := by decide +kernel
theorem dX4_atValley_3 : decode cX4_atValley 3 = .ok (.istore_n 3, 1) := by decide +kernel
theorem dX4_atValley_4 : decode cX4_atValley 4 = .ok (.iload_n 3, 1) := by decide +kernel
theorem dX4_atValley_5 : decode cX4_atValley 5 = .ok (.aload_n 0, 1) := by decide +kernel
theorem dX4_atValley_6 : decode cX4_atValley 6 = .ok (.getfield 9, 3) := by decide +kernel
theorem dX4_atValley_9 : decode cX4_atValley 9 = .ok (.iconst 1, 1) := by decide +kernel
theorem dX4_atValley_10 : decode cX4_atValley 10 = .ok (.iaload, 1) := by decide +kernel
theorem dX4_atValley_11 : decode cX4_atValley 11 = .ok (.if_icmp .ge 29, 3) := by decide +kernel
theorem dX4_atValley_14 : decode cX4_atValley 14 = .ok (.iload_n 2, 1) := by decide +kernel
theorem dX4_atValley_15 : decode cX4_atValley 15 = .ok (.aload_n 0, 1) := by decide +kernel
theorem dX4_atValley_16 : decode cX4_atValley 16 = .ok (.iload_n 3, 1) := by decide +kernel
theorem dX4_atValley_17 : decode cX4_atValley 17 = .ok (.iconst 1, 1) := by decide +kernel
theorem dX4_atValley_18 : decode cX4_atValley 18 = .ok (.invokevirtual 108, 3) := by decide +kernel
theorem dX4_atValley_21 : decode cX4_atValley 21 = .ok (.iload_n 1, 1) := by decide +kernel
theorem dX4_atValley_22 : decode cX4_atValley 22 = .ok (.if_icmp .ne 9, 3) := by decide +kernel
theorem dX4_atValley_25 : decode cX4_atValley 25 = .ok (.iconst 1, 1) := by decide +kernel
theorem dX4_atValley_26 : decode cX4_atValley 26 = .ok (.iload_n 3, 1) := by decide +kernel
theorem dX4_atValley_27 : decode cX4_atValley 27 = .ok (.ishl, 1) := by decide +kernel
theorem dX4_atValley_28 : decode cX4_atValley 28 = .ok (.goto 4, 3) := by decide +kernel
theorem dX4_atValley_31 : decode cX4_atValley 31 = .ok (.iconst 0, 1) := by decide +kernel
theorem dX4_atValley_32 : decode cX4_atValley 32 = .ok (.ior, 1) := by decide +kernel
theorem dX4_atValley_33 : decode cX4_atValley 33 = .ok (.istore_n 2, 1) := by decide +kernel
theorem dX4_atValley_34 : decode cX4_atValley 34 = .ok (.iinc 3 1, 3) := by decide +kernel
theorem dX4_atValley_37 : decode cX4_atValley 37 = .ok (.goto (-33), 3) := by decide +kernel
theorem dX4_atValley_40 : decode cX4_atValley 40 = .ok (.iload_n 2, 1) := by decide +kernel
theorem dX4_atValley_41 : decode cX4_atValley 41 = .ok (.ireturn, 1) := by decide +kernel
theorem dX4_facing_0 : decode cX4_facing 0 = .ok (.iconst 0, 1) := by decide +kernel
theorem dX4_facing_1 : decode cX4_facing 1 = .ok (.istore_n 2, 1) := by decide +kernel
theorem dX4_facing_2 : decode cX4_facing 2 = .ok (.iconst 0, 1) := by decide +kernel
theorem dX4_facing_3 : decode cX4_facing 3 = .ok (.istore_n 3, 1) := by decide +kernel
theorem dX4_facing_4 : decode cX4_facing 4 = .ok (.iload_n 3, 1) := by decide +kernel
theorem dX4_facing_5 : decode cX4_facing 5 = .ok (.aload_n 0, 1) := by decide +kernel
theorem dX4_facing_6 : decode cX4_facing 6 = .ok (.getfield 9, 3) := by decide +kernel
theorem dX4_facing_9 : decode cX4_facing 9 = .ok (.iconst 1, 1) := by decide +kernel
theorem dX4_facing_10 : decode cX4_facing 10 = .ok (.iaload, 1) := by decide +kernel
theorem dX4_facing_11 : decode cX4_facing 11 = .ok (.if_icmp .ge 28, 3) := by decide +kernel
theorem dX4_facing_14 : decode cX4_facing 14 = .ok (.iload_n 2, 1) := by decide +kernel
theorem dX4_facing_15 : decode cX4_facing 15 = .ok (.aload_n 0, 1) := by decide +kernel
theorem dX4_facing_16 : decode cX4_facing 16 = .ok (.iload_n 3, 1) := by decide +kernel
theorem dX4_facing_17 : decode cX4_facing 17 = .ok (.invokevirtual 114, 3) := by decide +kernel
theorem dX4_facing_20 : decode cX4_facing 20 = .ok (.iload_n 1, 1) := by decide +kernel
theorem dX4_facing_21 : decode cX4_facing 21 = .ok (.if_icmp .ne 9, 3) := by decide +kernel
theorem dX4_facing_24 : decode cX4_facing 24 = .ok (.iconst 1, 1) := by decide +kernel
theorem dX4_facing_25 : decode cX4_facing 25 = .ok (.iload_n 3, 1) := by decide +kernel
theorem dX4_facing_26 : decode cX4_facing 26 = .ok (.ishl, 1) := by decide +kernel
theorem dX4_facing_27 : decode cX4_facing 27 = .ok (.goto 4, 3) := by decide +kernel
theorem dX4_facing_30 : decode cX4_facing 30 = .ok (.iconst 0, 1) := by decide +kernel
theorem dX4_facing_31 : decode cX4_facing 31 = .ok (.ior, 1) := by decide +kernel
theorem dX4_facing_32 : decode cX4_facing 32 = .ok (.istore_n 2, 1) := by decide +kernel
theorem dX4_facing_33 : decode cX4_facing 33 = .ok (.iinc 3 1, 3) := by decide +kernel
theorem dX4_facing_36 : decode cX4_facing 36 = .ok (.goto (-32), 3) := by decide +kernel
theorem dX4_facing_39 : decode cX4_facing 39 = .ok (.iload_n 2, 1) := by decide +kernel
theorem dX4_facing_40 : decode cX4_facing 40 = .ok (.ireturn, 1) := by decide +kernel
theorem dX4_meeting_0 : decode cX4_meeting 0 = .ok (.iconst 0, 1) := by decide +kernel
theorem dX4_meeting_1 : decode cX4_meeting 1 = .ok (.istore_n 2, 1) := by decide +kernel
theorem dX4_meeting_2 : decode cX4_meeting 2 = .ok (.iconst 0, 1) := by decide +kernel
theorem dX4_meeting_3 : decode cX4_meeting 3 = .ok (.istore_n 3, 1) := by decide +kernel
theorem dX4_meeting_4 : decode cX4_meeting 4 = .ok (.iload_n 3, 1) := by decide +kernel
theorem dX4_meeting_5 : decode cX4_meeting 5 = .ok (.aload_n 0, 1) := by decide +kernel
theorem dX4_meeting_6 : decode cX4_meeting 6 = .ok (.getfield 9, 3) := by decide +kernel
theorem dX4_meeting_9 : decode cX4_meeting 9 = .ok (.iconst 1, 1) := by decide +kernel
theorem dX4_meeting_10 : decode cX4_meeting 10 = .ok (.iaload, 1) := by decide +kernel
theorem dX4_meeting_11 : decode cX4_meeting 11 = .ok (.if_icmp .ge 52, 3) := by decide +kernel
theorem dX4_meeting_14 : decode cX4_meeting 14 = .ok (.iload_n 2, 1) := by decide +kernel
theorem dX4_meeting_15 : decode cX4_meeting 15 = .ok (.iload_n 3, 1) := by decide +kernel
theorem dX4_meeting_16 : decode cX4_meeting 16 = .ok (.iload_n 1, 1) := by decide +kernel
theorem dX4_meeting_17 : decode cX4_meeting 17 = .ok (.if_icmp .eq 37, 3) := by decide +kernel
theorem dX4_meeting_20 : decode cX4_meeting 20 = .ok (.aload_n 0, 1) := by decide +kernel
theorem dX4_meeting_21 : decode cX4_meeting 21 = .ok (.iload_n 1, 1) := by decide +kernel
theorem dX4_meeting_22 : decode cX4_meeting 22 = .ok (.invokevirtual 114, 3) := by decide +kernel
theorem dX4_meeting_25 : decode cX4_meeting 25 = .ok (.aload_n 0, 1) := by decide +kernel
theorem dX4_meeting_26 : decode cX4_meeting 26 = .ok (.iload_n 3, 1) := by decide +kernel
theorem dX4_meeting_27 : decode cX4_meeting 27 = .ok (.iconst 1, 1) := by decide +kernel
theorem dX4_meeting_28 : decode cX4_meeting 28 = .ok (.invokevirtual 108, 3) := by decide +kernel
theorem dX4_meeting_31 : decode cX4_meeting 31 = .ok (.if_icmp .ne 23, 3) := by decide +kernel
theorem dX4_meeting_34 : decode cX4_meeting 34 = .ok (.aload_n 0, 1) := by decide +kernel
theorem dX4_meeting_35 : decode cX4_meeting 35 = .ok (.iload_n 3, 1) := by decide +kernel
theorem dX4_meeting_36 : decode cX4_meeting 36 = .ok (.invokevirtual 114, 3) := by decide +kernel
theorem dX4_meeting_39 : decode cX4_meeting 39 = .ok (.aload_n 0, 1) := by decide +kernel
theorem dX4_meeting_40 : decode cX4_meeting 40 = .ok (.iload_n 1, 1) := by decide +kernel
theorem dX4_meeting_41 : decode cX4_meeting 41 = .ok (.iconst 1, 1) := by decide +kernel
theorem dX4_meeting_42 : decode cX4_meeting 42 = .ok (.invokevirtual 108, 3) := by decide +kernel
theorem dX4_meeting_45 : decode cX4_meeting 45 = .ok (.if_icmp .ne 9, 3) := by decide +kernel
theorem dX4_meeting_48 : decode cX4_meeting 48 = .ok (.iconst 1, 1) := by decide +kernel
theorem dX4_meeting_49 : decode cX4_meeting 49 = .ok (.iload_n 3, 1) := by decide +kernel
theorem dX4_meeting_50 : decode cX4_meeting 50 = .ok (.ishl, 1) := by decide +kernel
theorem dX4_meeting_51 : decode cX4_meeting 51 = .ok (.goto 4, 3) := by decide +kernel
theorem dX4_meeting_54 : decode cX4_meeting 54 = .ok (.iconst 0, 1) := by decide +kernel
theorem dX4_meeting_55 : decode cX4_meeting 55 = .ok (.ior, 1) := by decide +kernel
theorem dX4_meeting_56 : decode cX4_meeting 56 = .ok (.istore_n 2, 1) := by decide +kernel
theorem dX4_meeting_57 : decode cX4_meeting 57 = .ok (.iinc 3 1, 3) := by decide +kernel
theorem dX4_meeting_60 : decode cX4_meeting 60 = .ok (.goto (-56), 3) := by decide +kernel
theorem dX4_meeting_63 : decode cX4_meeting 63 = .ok (.iload_n 2, 1) := by decide +kernel
theorem dX4_meeting_64 : decode cX4_meeting 64 = .ok (.ireturn, 1) := by decide +kernel
theorem dX4_movesOf_0 : decode cX4_movesOf 0 = .ok (.aload_n 0, 1) := by decide +kernel
theorem dX4_movesOf_1 : decode cX4_movesOf 1 = .ok (.iload_n 1, 1) := by decide +kernel
theorem dX4_movesOf_2 : decode cX4_movesOf 2 = .ok (.iconst 2, 1) := by decide +kernel
theorem dX4_movesOf_3 : decode cX4_movesOf 3 = .ok (.invokevirtual 108, 3) := by decide +kernel
theorem dX4_movesOf_6 : decode cX4_movesOf 6 = .ok (.istore_n 3, 1) := by decide +kernel
theorem dX4_movesOf_7 : decode cX4_movesOf 7 = .ok (.iload_n 2, 1) := by decide +kernel
theorem dX4_movesOf_8 : decode cX4_movesOf 8 = .ok (.tableswitch 116 1 6 #[40, 68, 83, 106, 114, 44], 40) := by decide +kernel
theorem dX4_movesOf_48 : decode cX4_movesOf 48 = .ok (.iconst 2, 1) := by decide +kernel
theorem dX4_movesOf_49 : decode cX4_movesOf 49 = .ok (.iload_n 3, 1) := by decide +kernel
theorem dX4_movesOf_50 : decode cX4_movesOf 50 = .ok (.imul, 1) := by decide +kernel
theorem dX4_movesOf_51 : decode cX4_movesOf 51 = .ok (.ireturn, 1) := by decide +kernel
theorem dX4_movesOf_52 : decode cX4_movesOf 52 = .ok (.aload_n 0, 1) := by decide +kernel
theorem dX4_movesOf_53 : decode cX4_movesOf 53 = .ok (.iload_n 1, 1) := by decide +kernel
theorem dX4_movesOf_54 : decode cX4_movesOf 54 = .ok (.iconst 1, 1) := by decide +kernel
theorem dX4_movesOf_55 : decode cX4_movesOf 55 = .ok (.invokevirtual 117, 3) := by decide +kernel
theorem dX4_movesOf_58 : decode cX4_movesOf 58 = .ok (.aload_n 0, 1) := by decide +kernel
theorem dX4_movesOf_59 : decode cX4_movesOf 59 = .ok (.iload_n 1, 1) := by decide +kernel
theorem dX4_movesOf_60 : decode cX4_movesOf 60 = .ok (.iconst 4, 1) := by decide +kernel
theorem dX4_movesOf_61 : decode cX4_movesOf 61 = .ok (.invokevirtual 108, 3) := by decide +kernel
theorem dX4_movesOf_64 : decode cX4_movesOf 64 = .ok (.bipush 50, 2) := by decide +kernel
theorem dX4_movesOf_66 : decode cX4_movesOf 66 = .ok (.if_icmp .le 7, 3) := by decide +kernel
theorem dX4_movesOf_69 : decode cX4_movesOf 69 = .ok (.iconst 1, 1) := by decide +kernel
theorem dX4_movesOf_70 : decode cX4_movesOf 70 = .ok (.goto 4, 3) := by decide +kernel
theorem dX4_movesOf_73 : decode cX4_movesOf 73 = .ok (.iconst 0, 1) := by decide +kernel
theorem dX4_movesOf_74 : decode cX4_movesOf 74 = .ok (.iadd, 1) := by decide +kernel
theorem dX4_movesOf_75 : decode cX4_movesOf 75 = .ok (.ireturn, 1) := by decide +kernel
theorem dX4_movesOf_76 : decode cX4_movesOf 76 = .ok (.aload_n 0, 1) := by decide +kernel
theorem dX4_movesOf_77 : decode cX4_movesOf 77 = .ok (.getfield 25, 3) := by decide +kernel
theorem dX4_movesOf_80 : decode cX4_movesOf 80 = .ok (.iload_n 1, 1) := by decide +kernel
theorem dX4_movesOf_81 : decode cX4_movesOf 81 = .ok (.iaload, 1) := by decide +kernel
theorem dX4_movesOf_82 : decode cX4_movesOf 82 = .ok (.ifCond .eq 7, 3) := by decide +kernel
theorem dX4_movesOf_85 : decode cX4_movesOf 85 = .ok (.iconst 0, 1) := by decide +kernel
theorem dX4_movesOf_86 : decode cX4_movesOf 86 = .ok (.goto 4, 3) := by decide +kernel
theorem dX4_movesOf_89 : decode cX4_movesOf 89 = .ok (.iload_n 3, 1) := by decide +kernel
theorem dX4_movesOf_90 : decode cX4_movesOf 90 = .ok (.ireturn, 1) := by decide +kernel
theorem dX4_movesOf_91 : decode cX4_movesOf 91 = .ok (.aload_n 0, 1) := by decide +kernel
theorem dX4_movesOf_92 : decode cX4_movesOf 92 = .ok (.iload_n 1, 1) := by decide +kernel
theorem dX4_movesOf_93 : decode cX4_movesOf 93 = .ok (.iconst 2, 1) := by decide +kernel
theorem dX4_movesOf_94 : decode cX4_movesOf 94 = .ok (.invokevirtual 117, 3) := by decide +kernel
theorem dX4_movesOf_97 : decode cX4_movesOf 97 = .ok (.aload_n 0, 1) := by decide +kernel
theorem dX4_movesOf_98 : decode cX4_movesOf 98 = .ok (.aload_n 0, 1) := by decide +kernel
theorem dX4_movesOf_99 : decode cX4_movesOf 99 = .ok (.iload_n 1, 1) := by decide +kernel
theorem dX4_movesOf_100 : decode cX4_movesOf 100 = .ok (.iconst 1, 1) := by decide +kernel
theorem dX4_movesOf_101 : decode cX4_movesOf 101 = .ok (.invokevirtual 108, 3) := by decide +kernel
theorem dX4_movesOf_104 : decode cX4_movesOf 104 = .ok (.invokevirtual 120, 3) := by decide +kernel
theorem dX4_movesOf_107 : decode cX4_movesOf 107 = .ok (.invokestatic 123, 3) := by decide +kernel
theorem dX4_movesOf_110 : decode cX4_movesOf 110 = .ok (.iadd, 1) := by decide +kernel
theorem dX4_movesOf_111 : decode cX4_movesOf 111 = .ok (.iconst 1, 1) := by decide +kernel
theorem dX4_movesOf_112 : decode cX4_movesOf 112 = .ok (.isub, 1) := by decide +kernel
theorem dX4_movesOf_113 : decode cX4_movesOf 113 = .ok (.ireturn, 1) := by decide +kernel
theorem dX4_movesOf_114 : decode cX4_movesOf 114 = .ok (.aload_n 0, 1) := by decide +kernel
theorem dX4_movesOf_115 : decode cX4_movesOf 115 = .ok (.iload_n 1, 1) := by decide +kernel
theorem dX4_movesOf_116 : decode cX4_movesOf 116 = .ok (.iconst 3, 1) := by decide +kernel
theorem dX4_movesOf_117 : decode cX4_movesOf 117 = .ok (.invokevirtual 117, 3) := by decide +kernel
theorem dX4_movesOf_120 : decode cX4_movesOf 120 = .ok (.ineg, 1) := by decide +kernel
theorem dX4_movesOf_121 : decode cX4_movesOf 121 = .ok (.ireturn, 1) := by decide +kernel
theorem dX4_movesOf_122 : decode cX4_movesOf 122 = .ok (.iconst 0, 1) := by decide +kernel
theorem dX4_movesOf_123 : decode cX4_movesOf 123 = .ok (.ireturn, 1) := by decide +kernel
theorem dX4_movesOf_124 : decode cX4_movesOf 124 = .ok (.iload_n 3, 1) := by decide +kernel
theorem dX4_movesOf_125 : decode cX4_movesOf 125 = .ok (.ireturn, 1) := by decide +kernel
theorem dX4_turnsOf_0 : decode cX4_turnsOf 0 = .ok (.iload_n 2, 1) := by decide +kernel
theorem dX4_turnsOf_1 : decode cX4_turnsOf 1 = .ok (.tableswitch 69 1 6 #[39, 69, 43, 60, 39, 41], 39) := by decide +kernel
theorem dX4_turnsOf_40 : decode cX4_turnsOf 40 = .ok (.iconst 0, 1) := by decide +kernel
theorem dX4_turnsOf_41 : decode cX4_turnsOf 41 = .ok (.ireturn, 1) := by decide +kernel
theorem dX4_turnsOf_42 : decode cX4_turnsOf 42 = .ok (.iconst 2, 1) := by decide +kernel
theorem dX4_turnsOf_43 : decode cX4_turnsOf 43 = .ok (.ireturn, 1) := by decide +kernel
theorem dX4_turnsOf_44 : decode cX4_turnsOf 44 = .ok (.aload_n 0, 1) := by decide +kernel
theorem dX4_turnsOf_45 : decode cX4_turnsOf 45 = .ok (.iload_n 1, 1) := by decide +kernel
theorem dX4_turnsOf_46 : decode cX4_turnsOf 46 = .ok (.iconst 4, 1) := by decide +kernel
theorem dX4_turnsOf_47 : decode cX4_turnsOf 47 = .ok (.invokevirtual 108, 3) := by decide +kernel
theorem dX4_turnsOf_50 : decode cX4_turnsOf 50 = .ok (.bipush 50, 2) := by decide +kernel
theorem dX4_turnsOf_52 : decode cX4_turnsOf 52 = .ok (.if_icmp .le 7, 3) := by decide +kernel
theorem dX4_turnsOf_55 : decode cX4_turnsOf 55 = .ok (.iconst 2, 1) := by decide +kernel
theorem dX4_turnsOf_56 : decode cX4_turnsOf 56 = .ok (.goto 4, 3) := by decide +kernel
theorem dX4_turnsOf_59 : decode cX4_turnsOf 59 = .ok (.iconst 1, 1) := by decide +kernel
theorem dX4_turnsOf_60 : decode cX4_turnsOf 60 = .ok (.ireturn, 1) := by decide +kernel
theorem dX4_turnsOf_61 : decode cX4_turnsOf 61 = .ok (.iconst 3, 1) := by decide +kernel
theorem dX4_turnsOf_62 : decode cX4_turnsOf 62 = .ok (.aload_n 0, 1) := by decide +kernel
theorem dX4_turnsOf_63 : decode cX4_turnsOf 63 = .ok (.iload_n 1, 1) := by decide +kernel
theorem dX4_turnsOf_64 : decode cX4_turnsOf 64 = .ok (.iconst 3, 1) := by decide +kernel
theorem dX4_turnsOf_65 : decode cX4_turnsOf 65 = .ok (.invokevirtual 126, 3) := by decide +kernel
theorem dX4_turnsOf_68 : decode cX4_turnsOf 68 = .ok (.imul, 1) := by decide +kernel
theorem dX4_turnsOf_69 : decode cX4_turnsOf 69 = .ok (.ireturn, 1) := by decide +kernel
theorem dX4_turnsOf_70 : decode cX4_turnsOf 70 = .ok (.iconst 1, 1) := by decide +kernel
theorem dX4_turnsOf_71 : decode cX4_turnsOf 71 = .ok (.ireturn, 1) := by decide +kernel
theorem dX4_sinksOf_0 : decode cX4_sinksOf 0 = .ok (.aload_n 0, 1) := by decide +kernel
theorem dX4_sinksOf_1 : decode cX4_sinksOf 1 = .ok (.getfield 9, 3) := by decide +kernel
theorem dX4_sinksOf_4 : decode cX4_sinksOf 4 = .ok (.iconst 3, 1) := by decide +kernel
theorem dX4_sinksOf_5 : decode cX4_sinksOf 5 = .ok (.iaload, 1) := by decide +kernel
theorem dX4_sinksOf_6 : decode cX4_sinksOf 6 = .ok (.istore_n 2, 1) := by decide +kernel
theorem dX4_sinksOf_7 : decode cX4_sinksOf 7 = .ok (.iload_n 1, 1) := by decide +kernel
theorem dX4_sinksOf_8 : decode cX4_sinksOf 8 = .ok (.tableswitch 58 1 6 #[40, 46, 50, 50, 56, 42], 40) := by decide +kernel
theorem dX4_sinksOf_48 : decode cX4_sinksOf 48 = .ok (.iload_n 2, 1) := by decide +kernel
theorem dX4_sinksOf_49 : decode cX4_sinksOf 49 = .ok (.ireturn, 1) := by decide +kernel
theorem dX4_sinksOf_50 : decode cX4_sinksOf 50 = .ok (.iload_n 2, 1) := by decide +kernel
theorem dX4_sinksOf_51 : decode cX4_sinksOf 51 = .ok (.iconst 1, 1) := by decide +kernel
theorem dX4_sinksOf_52 : decode cX4_sinksOf 52 = .ok (.iadd, 1) := by decide +kernel
theorem dX4_sinksOf_53 : decode cX4_sinksOf 53 = .ok (.ireturn, 1) := by decide +kernel
theorem dX4_sinksOf_54 : decode cX4_sinksOf 54 = .ok (.iconst 1, 1) := by decide +kernel
theorem dX4_sinksOf_55 : decode cX4_sinksOf 55 = .ok (.iload_n 2, 1) := by decide +kernel
theorem dX4_sinksOf_56 : decode cX4_sinksOf 56 = .ok (.iadd, 1) := by decide +kernel
theorem dX4_sinksOf_57 : decode cX4_sinksOf 57 = .ok (.ireturn, 1) := by decide +kernel
theorem dX4_sinksOf_58 : decode cX4_sinksOf 58 = .ok (.iconst 1, 1) := by decide +kernel
theorem dX4_sinksOf_59 : decode cX4_sinksOf 59 = .ok (.iload_n 2, 1) := by decide +kernel
theorem dX4_sinksOf_60 : decode cX4_sinksOf 60 = .ok (.iadd, 1) := by decide +kernel
theorem dX4_sinksOf_61 : decode cX4_sinksOf 61 = .ok (.iconst 2, 1) := by decide +kernel
theorem dX4_sinksOf_62 : decode cX4_sinksOf 62 = .ok (.idiv, 1) := by decide +kernel
theorem dX4_sinksOf_63 : decode cX4_sinksOf 63 = .ok (.ireturn, 1) := by decide +kernel
theorem dX4_sinksOf_64 : decode cX4_sinksOf 64 = .ok (.iconst 0, 1) := by decide +kernel
theorem dX4_sinksOf_65 : decode cX4_sinksOf 65 = .ok (.ireturn, 1) := by decide +kernel
theorem dX4_sinksOf_66 : decode cX4_sinksOf 66 = .ok (.iconst 1, 1) := by decide +kernel
theorem dX4_sinksOf_67 : decode cX4_sinksOf 67 = .ok (.ireturn, 1) := by decide +kernel
theorem dX4_looksAt_0 : decode cX4_looksAt 0 = .ok (.iconst 0, 1) := by decide +kernel
theorem dX4_looksAt_1 : decode cX4_looksAt 1 = .ok (.istore_n 1, 1) := by decide +kernel
theorem dX4_looksAt_2 : decode cX4_looksAt 2 = .ok (.iload_n 1, 1) := by decide +kernel
theorem dX4_looksAt_3 : decode cX4_looksAt 3 = .ok (.aload_n 0, 1) := by decide +kernel
theorem dX4_looksAt_4 : decode cX4_looksAt 4 = .ok (.getfield 9, 3) := by decide +kernel
theorem dX4_looksAt_7 : decode cX4_looksAt 7 = .ok (.iconst 1, 1) := by decide +kernel
theorem dX4_looksAt_8 : decode cX4_looksAt 8 = .ok (.iaload, 1) := by decide +kernel
theorem dX4_looksAt_9 : decode cX4_looksAt 9 = .ok (.if_icmp .ge 70, 3) := by decide +kernel
theorem dX4_looksAt_12 : decode cX4_looksAt 12 = .ok (.aload_n 0, 1) := by decide +kernel
theorem dX4_looksAt_13 : decode cX4_looksAt 13 = .ok (.getfield 25, 3) := by decide +kernel
theorem dX4_looksAt_16 : decode cX4_looksAt 16 = .ok (.iload_n 1, 1) := by decide +kernel
theorem dX4_looksAt_17 : decode cX4_looksAt 17 = .ok (.aload_n 0, 1) := by decide +kernel
theorem dX4_looksAt_18 : decode cX4_looksAt 18 = .ok (.iload_n 1, 1) := by decide +kernel
theorem dX4_looksAt_19 : decode cX4_looksAt 19 = .ok (.invokevirtual 129, 3) := by decide +kernel
theorem dX4_looksAt_22 : decode cX4_looksAt 22 = .ok (.iastore, 1) := by decide +kernel
theorem dX4_looksAt_23 : decode cX4_looksAt 23 = .ok (.aload_n 0, 1) := by decide +kernel
theorem dX4_looksAt_24 : decode cX4_looksAt 24 = .ok (.getfield 28, 3) := by decide +kernel
theorem dX4_looksAt_27 : decode cX4_looksAt 27 = .ok (.iload_n 1, 1) := by decide +kernel
theorem dX4_looksAt_28 : decode cX4_looksAt 28 = .ok (.aload_n 0, 1) := by decide +kernel
theorem dX4_looksAt_29 : decode cX4_looksAt 29 = .ok (.iload_n 1, 1) := by decide +kernel
theorem dX4_looksAt_30 : decode cX4_looksAt 30 = .ok (.aload_n 0, 1) := by decide +kernel
theorem dX4_looksAt_31 : decode cX4_looksAt 31 = .ok (.iload_n 1, 1) := by decide +kernel
theorem dX4_looksAt_32 : decode cX4_looksAt 32 = .ok (.iconst 0, 1) := by decide +kernel
theorem dX4_looksAt_33 : decode cX4_looksAt 33 = .ok (.invokevirtual 108, 3) := by decide +kernel
theorem dX4_looksAt_36 : decode cX4_looksAt 36 = .ok (.invokevirtual 117, 3) := by decide +kernel
theorem dX4_looksAt_39 : decode cX4_looksAt 39 = .ok (.iastore, 1) := by decide +kernel
theorem dX4_looksAt_40 : decode cX4_looksAt 40 = .ok (.aload_n 0, 1) := by decide +kernel
theorem dX4_looksAt_41 : decode cX4_looksAt 41 = .ok (.getfield 31, 3) := by decide +kernel
theorem dX4_looksAt_44 : decode cX4_looksAt 44 = .ok (.iload_n 1, 1) := by decide +kernel
theorem dX4_looksAt_45 : decode cX4_looksAt 45 = .ok (.aload_n 0, 1) := by decide +kernel
theorem dX4_looksAt_46 : decode cX4_looksAt 46 = .ok (.iload_n 1, 1) := by decide +kernel
theorem dX4_looksAt_47 : decode cX4_looksAt 47 = .ok (.aload_n 0, 1) := by decide +kernel
theorem dX4_looksAt_48 : decode cX4_looksAt 48 = .ok (.iload_n 1, 1) := by decide +kernel
theorem dX4_looksAt_49 : decode cX4_looksAt 49 = .ok (.iconst 0, 1) := by decide +kernel
theorem dX4_looksAt_50 : decode cX4_looksAt 50 = .ok (.invokevirtual 108, 3) := by decide +kernel
theorem dX4_looksAt_53 : decode cX4_looksAt 53 = .ok (.invokevirtual 126, 3) := by decide +kernel
theorem dX4_looksAt_56 : decode cX4_looksAt 56 = .ok (.iastore, 1) := by decide +kernel
theorem dX4_looksAt_57 : decode cX4_looksAt 57 = .ok (.aload_n 0, 1) := by decide +kernel
theorem dX4_looksAt_58 : decode cX4_looksAt 58 = .ok (.getfield 34, 3) := by decide +kernel
theorem dX4_looksAt_61 : decode cX4_looksAt 61 = .ok (.iload_n 1, 1) := by decide +kernel
theorem dX4_looksAt_62 : decode cX4_looksAt 62 = .ok (.aload_n 0, 1) := by decide +kernel
theorem dX4_looksAt_63 : decode cX4_looksAt 63 = .ok (.aload_n 0, 1) := by decide +kernel
theorem dX4_looksAt_64 : decode cX4_looksAt 64 = .ok (.iload_n 1, 1) := by decide +kernel
theorem dX4_looksAt_65 : decode cX4_looksAt 65 = .ok (.iconst 0, 1) := by decide +kernel
theorem dX4_looksAt_66 : decode cX4_looksAt 66 = .ok (.invokevirtual 108, 3) := by decide +kernel
theorem dX4_looksAt_69 : decode cX4_looksAt 69 = .ok (.invokevirtual 132, 3) := by decide +kernel
theorem dX4_looksAt_72 : decode cX4_looksAt 72 = .ok (.iastore, 1) := by decide +kernel
theorem dX4_looksAt_73 : decode cX4_looksAt 73 = .ok (.iinc 1 1, 3) := by decide +kernel
theorem dX4_looksAt_76 : decode cX4_looksAt 76 = .ok (.goto (-74), 3) := by decide +kernel
theorem dX4_looksAt_79 : decode cX4_looksAt 79 = .ok (.return_, 1) := by decide +kernel
theorem dX4_of_0 : decode cX4_of 0 = .ok (.aload_n 0, 1) := by decide +kernel
theorem dX4_of_1 : decode cX4_of 1 = .ok (.iload_n 1, 1) := by decide +kernel
theorem dX4_of_2 : decode cX4_of 2 = .ok (.invokevirtual 135, 3) := by decide +kernel
theorem dX4_of_5 : decode cX4_of 5 = .ok (.ifCond .eq 13, 3) := by decide +kernel
theorem dX4_of_8 : decode cX4_of 8 = .ok (.iload_n 2, 1) := by decide +kernel
theorem dX4_of_9 : decode cX4_of 9 = .ok (.iconst 0, 1) := by decide +kernel
theorem dX4_of_10 : decode cX4_of 10 = .ok (.bipush 10, 2) := by decide +kernel
theorem dX4_of_12 : decode cX4_of 12 = .ok (.invokestatic 85, 3) := by decide +kernel
theorem dX4_of_15 : decode cX4_of 15 = .ok (.ifCond .ne 10, 3) := by decide +kernel
theorem dX4_of_18 : decode cX4_of 18 = .ok (.aload_n 0, 1) := by decide +kernel
theorem dX4_of_19 : decode cX4_of 19 = .ok (.ldc 75, 2) := by decide +kernel
theorem dX4_of_21 : decode cX4_of 21 = .ok (.invokevirtual 81, 3) := by decide +kernel
theorem dX4_of_24 : decode cX4_of 24 = .ok (.ireturn, 1) := by decide +kernel
theorem dX4_of_25 : decode cX4_of 25 = .ok (.aload_n 0, 1) := by decide +kernel
theorem dX4_of_26 : decode cX4_of 26 = .ok (.invokevirtual 138, 3) := by decide +kernel
theorem dX4_of_29 : decode cX4_of 29 = .ok (.iload_n 2, 1) := by decide +kernel
theorem dX4_of_30 : decode cX4_of 30 = .ok (.tableswitch 68 6 10 #[34, 40, 47, 54, 61], 34) := by decide +kernel
theorem dX4_of_64 : decode cX4_of 64 = .ok (.aload_n 0, 1) := by decide +kernel
theorem dX4_of_65 : decode cX4_of 65 = .ok (.iload_n 1, 1) := by decide +kernel
theorem dX4_of_66 : decode cX4_of 66 = .ok (.invokevirtual 114, 3) := by decide +kernel
theorem dX4_of_69 : decode cX4_of 69 = .ok (.ireturn, 1) := by decide +kernel
theorem dX4_of_70 : decode cX4_of 70 = .ok (.aload_n 0, 1) := by decide +kernel
theorem dX4_of_71 : decode cX4_of 71 = .ok (.getfield 28, 3) := by decide +kernel
theorem dX4_of_74 : decode cX4_of 74 = .ok (.iload_n 1, 1) := by decide +kernel
theorem dX4_of_75 : decode cX4_of 75 = .ok (.iaload, 1) := by decide +kernel
theorem dX4_of_76 : decode cX4_of 76 = .ok (.ireturn, 1) := by decide +kernel
theorem dX4_of_77 : decode cX4_of 77 = .ok (.aload_n 0, 1) := by decide +kernel
theorem dX4_of_78 : decode cX4_of 78 = .ok (.getfield 31, 3) := by decide +kernel
theorem dX4_of_81 : decode cX4_of 81 = .ok (.iload_n 1, 1) := by decide +kernel
theorem dX4_of_82 : decode cX4_of 82 = .ok (.iaload, 1) := by decide +kernel
theorem dX4_of_83 : decode cX4_of 83 = .ok (.ireturn, 1) := by decide +kernel
theorem dX4_of_84 : decode cX4_of 84 = .ok (.aload_n 0, 1) := by decide +kernel
theorem dX4_of_85 : decode cX4_of 85 = .ok (.getfield 34, 3) := by decide +kernel
theorem dX4_of_88 : decode cX4_of 88 = .ok (.iload_n 1, 1) := by decide +kernel
theorem dX4_of_89 : decode cX4_of 89 = .ok (.iaload, 1) := by decide +kernel
theorem dX4_of_90 : decode cX4_of 90 = .ok (.ireturn, 1) := by decide +kernel
theorem dX4_of_91 : decode cX4_of 91 = .ok (.aload_n 0, 1) := by decide +kernel
theorem dX4_of_92 : decode cX4_of 92 = .ok (.getfield 25, 3) := by decide +kernel
theorem dX4_of_95 : decode cX4_of 95 = .ok (.iload_n 1, 1) := by decide +kernel
theorem dX4_of_96 : decode cX4_of 96 = .ok (.iaload, 1) := by decide +kernel
theorem dX4_of_97 : decode cX4_of 97 = .ok (.ireturn, 1) := by decide +kernel
theorem dX4_of_98 : decode cX4_of 98 = .ok (.aload_n 0, 1) := by decide +kernel
theorem dX4_of_99 : decode cX4_of 99 = .ok (.iload_n 1, 1) := by decide +kernel
theorem dX4_of_100 : decode cX4_of 100 = .ok (.iload_n 2, 1) := by decide +kernel
theorem dX4_of_101 : decode cX4_of 101 = .ok (.invokevirtual 108, 3) := by decide +kernel
theorem dX4_of_104 : decode cX4_of 104 = .ok (.ireturn, 1) := by decide +kernel
theorem dX4_mayBe_0 : decode cX4_mayBe 0 = .ok (.iload_n 0, 1) := by decide +kernel
theorem dX4_mayBe_1 : decode cX4_mayBe 1 = .ok (.tableswitch 78 0 5 #[39, 44, 49, 57, 64, 69], 39) := by decide +kernel
theorem dX4_mayBe_40 : decode cX4_mayBe 40 = .ok (.iload_n 1, 1) := by decide +kernel
theorem dX4_mayBe_41 : decode cX4_mayBe 41 = .ok (.invokestatic 96, 3) := by decide +kernel
theorem dX4_mayBe_44 : decode cX4_mayBe 44 = .ok (.ireturn, 1) := by decide +kernel
theorem dX4_mayBe_45 : decode cX4_mayBe 45 = .ok (.iload_n 1, 1) := by decide +kernel
theorem dX4_mayBe_46 : decode cX4_mayBe 46 = .ok (.invokestatic 100, 3) := by decide +kernel
theorem dX4_mayBe_49 : decode cX4_mayBe 49 = .ok (.ireturn, 1) := by decide +kernel
theorem dX4_mayBe_50 : decode cX4_mayBe 50 = .ok (.iload_n 1, 1) := by decide +kernel
theorem dX4_mayBe_51 : decode cX4_mayBe 51 = .ok (.bipush (-5), 2) := by decide +kernel
theorem dX4_mayBe_53 : decode cX4_mayBe 53 = .ok (.iconst 5, 1) := by decide +kernel
theorem dX4_mayBe_54 : decode cX4_mayBe 54 = .ok (.invokestatic 85, 3) := by decide +kernel
theorem dX4_mayBe_57 : decode cX4_mayBe 57 = .ok (.ireturn, 1) := by decide +kernel
theorem dX4_mayBe_58 : decode cX4_mayBe 58 = .ok (.iload_n 1, 1) := by decide +kernel
theorem dX4_mayBe_59 : decode cX4_mayBe 59 = .ok (.iconst 0, 1) := by decide +kernel
theorem dX4_mayBe_60 : decode cX4_mayBe 60 = .ok (.iconst 3, 1) := by decide +kernel
theorem dX4_mayBe_61 : decode cX4_mayBe 61 = .ok (.invokestatic 85, 3) := by decide +kernel
theorem dX4_mayBe_64 : decode cX4_mayBe 64 = .ok (.ireturn, 1) := by decide +kernel
theorem dX4_mayBe_65 : decode cX4_mayBe 65 = .ok (.iload_n 1, 1) := by decide +kernel
theorem dX4_mayBe_66 : decode cX4_mayBe 66 = .ok (.invokestatic 141, 3) := by decide +kernel
theorem dX4_mayBe_69 : decode cX4_mayBe 69 = .ok (.ireturn, 1) := by decide +kernel
theorem dX4_mayBe_70 : decode cX4_mayBe 70 = .ok (.iload_n 1, 1) := by decide +kernel
theorem dX4_mayBe_71 : decode cX4_mayBe 71 = .ok (.iconst 0, 1) := by decide +kernel
theorem dX4_mayBe_72 : decode cX4_mayBe 72 = .ok (.sipush 9999, 3) := by decide +kernel
theorem dX4_mayBe_75 : decode cX4_mayBe 75 = .ok (.invokestatic 85, 3) := by decide +kernel
theorem dX4_mayBe_78 : decode cX4_mayBe 78 = .ok (.ireturn, 1) := by decide +kernel
theorem dX4_mayBe_79 : decode cX4_mayBe 79 = .ok (.iconst 0, 1) := by decide +kernel
theorem dX4_mayBe_80 : decode cX4_mayBe 80 = .ok (.ireturn, 1) := by decide +kernel
theorem dX4_change_0 : decode cX4_change 0 = .ok (.aload_n 0, 1) := by decide +kernel
theorem dX4_change_1 : decode cX4_change 1 = .ok (.iload_n 1, 1) := by decide +kernel
theorem dX4_change_2 : decode cX4_change 2 = .ok (.invokevirtual 135, 3) := by decide +kernel
theorem dX4_change_5 : decode cX4_change 5 = .ok (.ifCond .eq 24, 3) := by decide +kernel
theorem dX4_change_8 : decode cX4_change 8 = .ok (.iload_n 2, 1) := by decide +kernel
theorem dX4_change_9 : decode cX4_change 9 = .ok (.iload_n 3, 1) := by decide +kernel
theorem dX4_change_10 : decode cX4_change 10 = .ok (.invokestatic 144, 3) := by decide +kernel
theorem dX4_change_13 : decode cX4_change 13 = .ok (.ifCond .eq 16, 3) := by decide +kernel
theorem dX4_change_16 : decode cX4_change 16 = .ok (.aload_n 0, 1) := by decide +kernel
theorem dX4_change_17 : decode cX4_change 17 = .ok (.iload_n 1, 1) := by decide +kernel
theorem dX4_change_18 : decode cX4_change 18 = .ok (.iload_n 2, 1) := by decide +kernel
theorem dX4_change_19 : decode cX4_change 19 = .ok (.invokestatic 93, 3) := by decide +kernel
theorem dX4_change_22 : decode cX4_change 22 = .ok (.iload_n 3, 1) := by decide +kernel
theorem dX4_change_23 : decode cX4_change 23 = .ok (.invokevirtual 89, 3) := by decide +kernel
theorem dX4_change_26 : decode cX4_change 26 = .ok (.goto 9, 3) := by decide +kernel
theorem dX4_change_29 : decode cX4_change 29 = .ok (.aload_n 0, 1) := by decide +kernel
theorem dX4_change_30 : decode cX4_change 30 = .ok (.ldc 75, 2) := by decide +kernel
theorem dX4_change_32 : decode cX4_change 32 = .ok (.invokevirtual 81, 3) := by decide +kernel
theorem dX4_change_35 : decode cX4_change 35 = .ok (.ireturn, 1) := by decide +kernel
theorem dX4_highestAt_0 : decode cX4_highestAt 0 = .ok (.iconst (-1), 1) := by decide +kernel
theorem dX4_highestAt_1 : decode cX4_highestAt 1 = .ok (.istore_n 2, 1) := by decide +kernel
theorem dX4_highestAt_2 : decode cX4_highestAt 2 = .ok (.iconst 0, 1) := by decide +kernel
theorem dX4_highestAt_3 : decode cX4_highestAt 3 = .ok (.istore_n 3, 1) := by decide +kernel
theorem dX4_highestAt_4 : decode cX4_highestAt 4 = .ok (.iload_n 3, 1) := by decide +kernel
theorem dX4_highestAt_5 : decode cX4_highestAt 5 = .ok (.aload_n 0, 1) := by decide +kernel
theorem dX4_highestAt_6 : decode cX4_highestAt 6 = .ok (.getfield 9, 3) := by decide +kernel
theorem dX4_highestAt_9 : decode cX4_highestAt 9 = .ok (.iconst 1, 1) := by decide +kernel
theorem dX4_highestAt_10 : decode cX4_highestAt 10 = .ok (.iaload, 1) := by decide +kernel
theorem dX4_highestAt_11 : decode cX4_highestAt 11 = .ok (.if_icmp .ge 34, 3) := by decide +kernel
theorem dX4_highestAt_14 : decode cX4_highestAt 14 = .ok (.aload_n 0, 1) := by decide +kernel
theorem dX4_highestAt_15 : decode cX4_highestAt 15 = .ok (.iload_n 3, 1) := by decide +kernel
theorem dX4_highestAt_16 : decode cX4_highestAt 16 = .ok (.iconst 1, 1) := by decide +kernel
theorem dX4_highestAt_17 : decode cX4_highestAt 17 = .ok (.invokevirtual 108, 3) := by decide +kernel
theorem dX4_highestAt_20 : decode cX4_highestAt 20 = .ok (.iload_n 1, 1) := by decide +kernel
theorem dX4_highestAt_21 : decode cX4_highestAt 21 = .ok (.if_icmp .ne 16, 3) := by decide +kernel
theorem dX4_highestAt_24 : decode cX4_highestAt 24 = .ok (.iload_n 2, 1) := by decide +kernel
theorem dX4_highestAt_25 : decode cX4_highestAt 25 = .ok (.aload_n 0, 1) := by decide +kernel
theorem dX4_highestAt_26 : decode cX4_highestAt 26 = .ok (.iload_n 3, 1) := by decide +kernel
theorem dX4_highestAt_27 : decode cX4_highestAt 27 = .ok (.iconst 4, 1) := by decide +kernel
theorem dX4_highestAt_28 : decode cX4_highestAt 28 = .ok (.invokevirtual 108, 3) := by decide +kernel
theorem dX4_highestAt_31 : decode cX4_highestAt 31 = .ok (.invokestatic 148, 3) := by decide +kernel
theorem dX4_highestAt_34 : decode cX4_highestAt 34 = .ok (.goto 4, 3) := by decide +kernel
theorem dX4_highestAt_37 : decode cX4_highestAt 37 = .ok (.iload_n 2, 1) := by decide +kernel
theorem dX4_highestAt_38 : decode cX4_highestAt 38 = .ok (.istore_n 2, 1) := by decide +kernel
theorem dX4_highestAt_39 : decode cX4_highestAt 39 = .ok (.iinc 3 1, 3) := by decide +kernel
theorem dX4_highestAt_42 : decode cX4_highestAt 42 = .ok (.goto (-38), 3) := by decide +kernel
theorem dX4_highestAt_45 : decode cX4_highestAt 45 = .ok (.iload_n 2, 1) := by decide +kernel
theorem dX4_highestAt_46 : decode cX4_highestAt 46 = .ok (.ireturn, 1) := by decide +kernel
theorem dX4_valley_0 : decode cX4_valley 0 = .ok (.iload_n 1, 1) := by decide +kernel
theorem dX4_valley_1 : decode cX4_valley 1 = .ok (.invokestatic 100, 3) := by decide +kernel
theorem dX4_valley_4 : decode cX4_valley 4 = .ok (.ifCond .eq 12, 3) := by decide +kernel
theorem dX4_valley_7 : decode cX4_valley 7 = .ok (.iload_n 2, 1) := by decide +kernel
theorem dX4_valley_8 : decode cX4_valley 8 = .ok (.iconst 0, 1) := by decide +kernel
theorem dX4_valley_9 : decode cX4_valley 9 = .ok (.iconst 2, 1) := by decide +kernel
theorem dX4_valley_10 : decode cX4_valley 10 = .ok (.invokestatic 85, 3) := by decide +kernel
theorem dX4_valley_13 : decode cX4_valley 13 = .ok (.ifCond .ne 10, 3) := by decide +kernel
theorem dX4_valley_16 : decode cX4_valley 16 = .ok (.aload_n 0, 1) := by decide +kernel
theorem dX4_valley_17 : decode cX4_valley 17 = .ok (.ldc 75, 2) := by decide +kernel
theorem dX4_valley_19 : decode cX4_valley 19 = .ok (.invokevirtual 81, 3) := by decide +kernel
theorem dX4_valley_22 : decode cX4_valley 22 = .ok (.ireturn, 1) := by decide +kernel
theorem dX4_valley_23 : decode cX4_valley 23 = .ok (.iload_n 2, 1) := by decide +kernel
theorem dX4_valley_24 : decode cX4_valley 24 = .ok (.ifCond .ne 11, 3) := by decide +kernel
theorem dX4_valley_27 : decode cX4_valley 27 = .ok (.aload_n 0, 1) := by decide +kernel
theorem dX4_valley_28 : decode cX4_valley 28 = .ok (.iload_n 1, 1) := by decide +kernel
theorem dX4_valley_29 : decode cX4_valley 29 = .ok (.invokevirtual 120, 3) := by decide +kernel
theorem dX4_valley_32 : decode cX4_valley 32 = .ok (.goto 21, 3) := by decide +kernel
theorem dX4_valley_35 : decode cX4_valley 35 = .ok (.iload_n 2, 1) := by decide +kernel
theorem dX4_valley_36 : decode cX4_valley 36 = .ok (.iconst 1, 1) := by decide +kernel
theorem dX4_valley_37 : decode cX4_valley 37 = .ok (.if_icmp .ne 11, 3) := by decide +kernel
end
section
theorem dX4_valley_40 : decode cX4_valley 40 = .ok (.aload_n 0, 1) := by decide +kernel
theorem dX4_valley_41 : decode cX4_valley 41 = .ok (.iload_n 1, 1) := by decide +kernel
theorem dX4_valley_42 : decode cX4_valley 42 = .ok (.invokevirtual 153, 3) := by decide +kernel
theorem dX4_valley_45 : decode cX4_valley 45 = .ok (.goto 8, 3) := by decide +kernel
theorem dX4_valley_48 : decode cX4_valley 48 = .ok (.aload_n 0, 1) := by decide +kernel
theorem dX4_valley_49 : decode cX4_valley 49 = .ok (.iload_n 1, 1) := by decide +kernel
theorem dX4_valley_50 : decode cX4_valley 50 = .ok (.invokevirtual 156, 3) := by decide +kernel
theorem dX4_valley_53 : decode cX4_valley 53 = .ok (.ireturn, 1) := by decide +kernel
theorem dX4_age_0 : decode cX4_age 0 = .ok (.aload_n 0, 1) := by decide +kernel
theorem dX4_age_1 : decode cX4_age 1 = .ok (.invokevirtual 138, 3) := by decide +kernel
theorem dX4_age_4 : decode cX4_age 4 = .ok (.iconst 0, 1) := by decide +kernel
theorem dX4_age_5 : decode cX4_age 5 = .ok (.istore_n 1, 1) := by decide +kernel
theorem dX4_age_6 : decode cX4_age 6 = .ok (.iload_n 1, 1) := by decide +kernel
theorem dX4_age_7 : decode cX4_age 7 = .ok (.aload_n 0, 1) := by decide +kernel
theorem dX4_age_8 : decode cX4_age 8 = .ok (.getfield 9, 3) := by decide +kernel
theorem dX4_age_11 : decode cX4_age 11 = .ok (.iconst 1, 1) := by decide +kernel
theorem dX4_age_12 : decode cX4_age 12 = .ok (.iaload, 1) := by decide +kernel
theorem dX4_age_13 : decode cX4_age 13 = .ok (.if_icmp .ge 159, 3) := by decide +kernel
theorem dX4_age_16 : decode cX4_age 16 = .ok (.aload_n 0, 1) := by decide +kernel
theorem dX4_age_17 : decode cX4_age 17 = .ok (.getfield 25, 3) := by decide +kernel
theorem dX4_age_20 : decode cX4_age 20 = .ok (.iload_n 1, 1) := by decide +kernel
theorem dX4_age_21 : decode cX4_age 21 = .ok (.iaload, 1) := by decide +kernel
theorem dX4_age_22 : decode cX4_age 22 = .ok (.ifCond .eq 7, 3) := by decide +kernel
theorem dX4_age_25 : decode cX4_age 25 = .ok (.iconst 1, 1) := by decide +kernel
theorem dX4_age_26 : decode cX4_age 26 = .ok (.goto 4, 3) := by decide +kernel
theorem dX4_age_29 : decode cX4_age 29 = .ok (.iconst 0, 1) := by decide +kernel
theorem dX4_age_30 : decode cX4_age 30 = .ok (.istore_n 2, 1) := by decide +kernel
theorem dX4_age_31 : decode cX4_age 31 = .ok (.aload_n 0, 1) := by decide +kernel
theorem dX4_age_32 : decode cX4_age 32 = .ok (.getfield 9, 3) := by decide +kernel
theorem dX4_age_35 : decode cX4_age 35 = .ok (.iload_n 1, 1) := by decide +kernel
theorem dX4_age_36 : decode cX4_age 36 = .ok (.iconst 1, 1) := by decide +kernel
theorem dX4_age_37 : decode cX4_age 37 = .ok (.invokestatic 93, 3) := by decide +kernel
theorem dX4_age_40 : decode cX4_age 40 = .ok (.aload_n 0, 1) := by decide +kernel
theorem dX4_age_41 : decode cX4_age 41 = .ok (.iload_n 1, 1) := by decide +kernel
theorem dX4_age_42 : decode cX4_age 42 = .ok (.iconst 1, 1) := by decide +kernel
theorem dX4_age_43 : decode cX4_age 43 = .ok (.invokevirtual 108, 3) := by decide +kernel
theorem dX4_age_46 : decode cX4_age 46 = .ok (.aload_n 0, 1) := by decide +kernel
theorem dX4_age_47 : decode cX4_age 47 = .ok (.getfield 28, 3) := by decide +kernel
theorem dX4_age_50 : decode cX4_age 50 = .ok (.iload_n 1, 1) := by decide +kernel
theorem dX4_age_51 : decode cX4_age 51 = .ok (.iaload, 1) := by decide +kernel
theorem dX4_age_52 : decode cX4_age 52 = .ok (.iadd, 1) := by decide +kernel
theorem dX4_age_53 : decode cX4_age 53 = .ok (.invokestatic 111, 3) := by decide +kernel
theorem dX4_age_56 : decode cX4_age 56 = .ok (.iastore, 1) := by decide +kernel
theorem dX4_age_57 : decode cX4_age 57 = .ok (.aload_n 0, 1) := by decide +kernel
theorem dX4_age_58 : decode cX4_age 58 = .ok (.getfield 9, 3) := by decide +kernel
theorem dX4_age_61 : decode cX4_age 61 = .ok (.iload_n 1, 1) := by decide +kernel
theorem dX4_age_62 : decode cX4_age 62 = .ok (.iconst 3, 1) := by decide +kernel
theorem dX4_age_63 : decode cX4_age 63 = .ok (.invokestatic 93, 3) := by decide +kernel
theorem dX4_age_66 : decode cX4_age 66 = .ok (.aload_n 0, 1) := by decide +kernel
theorem dX4_age_67 : decode cX4_age 67 = .ok (.iload_n 1, 1) := by decide +kernel
theorem dX4_age_68 : decode cX4_age 68 = .ok (.iconst 3, 1) := by decide +kernel
theorem dX4_age_69 : decode cX4_age 69 = .ok (.invokevirtual 108, 3) := by decide +kernel
theorem dX4_age_72 : decode cX4_age 72 = .ok (.aload_n 0, 1) := by decide +kernel
theorem dX4_age_73 : decode cX4_age 73 = .ok (.getfield 31, 3) := by decide +kernel
theorem dX4_age_76 : decode cX4_age 76 = .ok (.iload_n 1, 1) := by decide +kernel
theorem dX4_age_77 : decode cX4_age 77 = .ok (.iaload, 1) := by decide +kernel
theorem dX4_age_78 : decode cX4_age 78 = .ok (.iadd, 1) := by decide +kernel
theorem dX4_age_79 : decode cX4_age 79 = .ok (.iconst 4, 1) := by decide +kernel
theorem dX4_age_80 : decode cX4_age 80 = .ok (.irem, 1) := by decide +kernel
theorem dX4_age_81 : decode cX4_age 81 = .ok (.iastore, 1) := by decide +kernel
theorem dX4_age_82 : decode cX4_age 82 = .ok (.aload_n 0, 1) := by decide +kernel
theorem dX4_age_83 : decode cX4_age 83 = .ok (.getfield 9, 3) := by decide +kernel
theorem dX4_age_86 : decode cX4_age 86 = .ok (.iload_n 1, 1) := by decide +kernel
theorem dX4_age_87 : decode cX4_age 87 = .ok (.iconst 4, 1) := by decide +kernel
theorem dX4_age_88 : decode cX4_age 88 = .ok (.invokestatic 93, 3) := by decide +kernel
theorem dX4_age_91 : decode cX4_age 91 = .ok (.iload_n 2, 1) := by decide +kernel
theorem dX4_age_92 : decode cX4_age 92 = .ok (.ifCond .eq 23, 3) := by decide +kernel
theorem dX4_age_95 : decode cX4_age 95 = .ok (.iconst 0, 1) := by decide +kernel
theorem dX4_age_96 : decode cX4_age 96 = .ok (.aload_n 0, 1) := by decide +kernel
theorem dX4_age_97 : decode cX4_age 97 = .ok (.iload_n 1, 1) := by decide +kernel
theorem dX4_age_98 : decode cX4_age 98 = .ok (.iconst 4, 1) := by decide +kernel
theorem dX4_age_99 : decode cX4_age 99 = .ok (.invokevirtual 108, 3) := by decide +kernel
theorem dX4_age_102 : decode cX4_age 102 = .ok (.aload_n 0, 1) := by decide +kernel
theorem dX4_age_103 : decode cX4_age 103 = .ok (.getfield 34, 3) := by decide +kernel
theorem dX4_age_106 : decode cX4_age 106 = .ok (.iload_n 1, 1) := by decide +kernel
theorem dX4_age_107 : decode cX4_age 107 = .ok (.iaload, 1) := by decide +kernel
theorem dX4_age_108 : decode cX4_age 108 = .ok (.isub, 1) := by decide +kernel
theorem dX4_age_109 : decode cX4_age 109 = .ok (.invokestatic 148, 3) := by decide +kernel
theorem dX4_age_112 : decode cX4_age 112 = .ok (.goto 16, 3) := by decide +kernel
theorem dX4_age_115 : decode cX4_age 115 = .ok (.bipush 99, 2) := by decide +kernel
theorem dX4_age_117 : decode cX4_age 117 = .ok (.aload_n 0, 1) := by decide +kernel
theorem dX4_age_118 : decode cX4_age 118 = .ok (.iload_n 1, 1) := by decide +kernel
theorem dX4_age_119 : decode cX4_age 119 = .ok (.iconst 4, 1) := by decide +kernel
theorem dX4_age_120 : decode cX4_age 120 = .ok (.invokevirtual 108, 3) := by decide +kernel
theorem dX4_age_123 : decode cX4_age 123 = .ok (.iconst 1, 1) := by decide +kernel
theorem dX4_age_124 : decode cX4_age 124 = .ok (.iadd, 1) := by decide +kernel
theorem dX4_age_125 : decode cX4_age 125 = .ok (.invokestatic 159, 3) := by decide +kernel
theorem dX4_age_128 : decode cX4_age 128 = .ok (.iastore, 1) := by decide +kernel
theorem dX4_age_129 : decode cX4_age 129 = .ok (.aload_n 0, 1) := by decide +kernel
theorem dX4_age_130 : decode cX4_age 130 = .ok (.getfield 9, 3) := by decide +kernel
theorem dX4_age_133 : decode cX4_age 133 = .ok (.iload_n 1, 1) := by decide +kernel
theorem dX4_age_134 : decode cX4_age 134 = .ok (.iconst 5, 1) := by decide +kernel
theorem dX4_age_135 : decode cX4_age 135 = .ok (.invokestatic 93, 3) := by decide +kernel
theorem dX4_age_138 : decode cX4_age 138 = .ok (.iload_n 2, 1) := by decide +kernel
theorem dX4_age_139 : decode cX4_age 139 = .ok (.ifCond .eq 20, 3) := by decide +kernel
theorem dX4_age_142 : decode cX4_age 142 = .ok (.sipush 9999, 3) := by decide +kernel
theorem dX4_age_145 : decode cX4_age 145 = .ok (.aload_n 0, 1) := by decide +kernel
theorem dX4_age_146 : decode cX4_age 146 = .ok (.iload_n 1, 1) := by decide +kernel
theorem dX4_age_147 : decode cX4_age 147 = .ok (.iconst 5, 1) := by decide +kernel
theorem dX4_age_148 : decode cX4_age 148 = .ok (.invokevirtual 108, 3) := by decide +kernel
theorem dX4_age_151 : decode cX4_age 151 = .ok (.iconst 1, 1) := by decide +kernel
theorem dX4_age_152 : decode cX4_age 152 = .ok (.iadd, 1) := by decide +kernel
theorem dX4_age_153 : decode cX4_age 153 = .ok (.invokestatic 159, 3) := by decide +kernel
theorem dX4_age_156 : decode cX4_age 156 = .ok (.goto 9, 3) := by decide +kernel
theorem dX4_age_159 : decode cX4_age 159 = .ok (.aload_n 0, 1) := by decide +kernel
theorem dX4_age_160 : decode cX4_age 160 = .ok (.iload_n 1, 1) := by decide +kernel
theorem dX4_age_161 : decode cX4_age 161 = .ok (.iconst 5, 1) := by decide +kernel
theorem dX4_age_162 : decode cX4_age 162 = .ok (.invokevirtual 108, 3) := by decide +kernel
theorem dX4_age_165 : decode cX4_age 165 = .ok (.iastore, 1) := by decide +kernel
theorem dX4_age_166 : decode cX4_age 166 = .ok (.iinc 1 1, 3) := by decide +kernel
theorem dX4_age_169 : decode cX4_age 169 = .ok (.goto (-163), 3) := by decide +kernel
theorem dX4_age_172 : decode cX4_age 172 = .ok (.aload_n 0, 1) := by decide +kernel
theorem dX4_age_173 : decode cX4_age 173 = .ok (.getfield 9, 3) := by decide +kernel
theorem dX4_age_176 : decode cX4_age 176 = .ok (.iconst 0, 1) := by decide +kernel
theorem dX4_age_177 : decode cX4_age 177 = .ok (.dup2, 1) := by decide +kernel
theorem dX4_age_178 : decode cX4_age 178 = .ok (.iaload, 1) := by decide +kernel
theorem dX4_age_179 : decode cX4_age 179 = .ok (.iconst 1, 1) := by decide +kernel
theorem dX4_age_180 : decode cX4_age 180 = .ok (.iadd, 1) := by decide +kernel
theorem dX4_age_181 : decode cX4_age 181 = .ok (.iastore, 1) := by decide +kernel
theorem dX4_age_182 : decode cX4_age 182 = .ok (.return_, 1) := by decide +kernel
theorem dX4_ages_0 : decode cX4_ages 0 = .ok (.iconst 0, 1) := by decide +kernel
theorem dX4_ages_1 : decode cX4_ages 1 = .ok (.istore_n 2, 1) := by decide +kernel
theorem dX4_ages_2 : decode cX4_ages 2 = .ok (.iload_n 2, 1) := by decide +kernel
theorem dX4_ages_3 : decode cX4_ages 3 = .ok (.iload_n 1, 1) := by decide +kernel
theorem dX4_ages_4 : decode cX4_ages 4 = .ok (.if_icmp .ge 13, 3) := by decide +kernel
theorem dX4_ages_7 : decode cX4_ages 7 = .ok (.aload_n 0, 1) := by decide +kernel
theorem dX4_ages_8 : decode cX4_ages 8 = .ok (.invokevirtual 162, 3) := by decide +kernel
theorem dX4_ages_11 : decode cX4_ages 11 = .ok (.iinc 2 1, 3) := by decide +kernel
theorem dX4_ages_14 : decode cX4_ages 14 = .ok (.goto (-12), 3) := by decide +kernel
theorem dX4_ages_17 : decode cX4_ages 17 = .ok (.return_, 1) := by decide +kernel
theorem dX4_whoMeets_0 : decode cX4_whoMeets 0 = .ok (.iconst 0, 1) := by decide +kernel
theorem dX4_whoMeets_1 : decode cX4_whoMeets 1 = .ok (.istore_n 1, 1) := by decide +kernel
theorem dX4_whoMeets_2 : decode cX4_whoMeets 2 = .ok (.iconst 0, 1) := by decide +kernel
theorem dX4_whoMeets_3 : decode cX4_whoMeets 3 = .ok (.istore_n 2, 1) := by decide +kernel
theorem dX4_whoMeets_4 : decode cX4_whoMeets 4 = .ok (.iload_n 2, 1) := by decide +kernel
theorem dX4_whoMeets_5 : decode cX4_whoMeets 5 = .ok (.aload_n 0, 1) := by decide +kernel
theorem dX4_whoMeets_6 : decode cX4_whoMeets 6 = .ok (.getfield 9, 3) := by decide +kernel
theorem dX4_whoMeets_9 : decode cX4_whoMeets 9 = .ok (.iconst 1, 1) := by decide +kernel
theorem dX4_whoMeets_10 : decode cX4_whoMeets 10 = .ok (.iaload, 1) := by decide +kernel
theorem dX4_whoMeets_11 : decode cX4_whoMeets 11 = .ok (.if_icmp .ge 27, 3) := by decide +kernel
theorem dX4_whoMeets_14 : decode cX4_whoMeets 14 = .ok (.iload_n 1, 1) := by decide +kernel
theorem dX4_whoMeets_15 : decode cX4_whoMeets 15 = .ok (.aload_n 0, 1) := by decide +kernel
theorem dX4_whoMeets_16 : decode cX4_whoMeets 16 = .ok (.iload_n 2, 1) := by decide +kernel
theorem dX4_whoMeets_17 : decode cX4_whoMeets 17 = .ok (.invokevirtual 129, 3) := by decide +kernel
theorem dX4_whoMeets_20 : decode cX4_whoMeets 20 = .ok (.ifCond .eq 9, 3) := by decide +kernel
theorem dX4_whoMeets_23 : decode cX4_whoMeets 23 = .ok (.iconst 1, 1) := by decide +kernel
theorem dX4_whoMeets_24 : decode cX4_whoMeets 24 = .ok (.iload_n 2, 1) := by decide +kernel
theorem dX4_whoMeets_25 : decode cX4_whoMeets 25 = .ok (.ishl, 1) := by decide +kernel
theorem dX4_whoMeets_26 : decode cX4_whoMeets 26 = .ok (.goto 4, 3) := by decide +kernel
theorem dX4_whoMeets_29 : decode cX4_whoMeets 29 = .ok (.iconst 0, 1) := by decide +kernel
theorem dX4_whoMeets_30 : decode cX4_whoMeets 30 = .ok (.ior, 1) := by decide +kernel
theorem dX4_whoMeets_31 : decode cX4_whoMeets 31 = .ok (.istore_n 1, 1) := by decide +kernel
theorem dX4_whoMeets_32 : decode cX4_whoMeets 32 = .ok (.iinc 2 1, 3) := by decide +kernel
theorem dX4_whoMeets_35 : decode cX4_whoMeets 35 = .ok (.goto (-31), 3) := by decide +kernel
theorem dX4_whoMeets_38 : decode cX4_whoMeets 38 = .ok (.iload_n 1, 1) := by decide +kernel
theorem dX4_whoMeets_39 : decode cX4_whoMeets 39 = .ok (.ireturn, 1) := by decide +kernel
theorem dX4_go_0 : decode cX4_go 0 = .ok (.iload_n 1, 1) := by decide +kernel
theorem dX4_go_1 : decode cX4_go 1 = .ok (.iconst 1, 1) := by decide +kernel
theorem dX4_go_2 : decode cX4_go 2 = .ok (.bipush 60, 2) := by decide +kernel
theorem dX4_go_4 : decode cX4_go 4 = .ok (.invokestatic 85, 3) := by decide +kernel
theorem dX4_go_7 : decode cX4_go 7 = .ok (.ifCond .ne 10, 3) := by decide +kernel
theorem dX4_go_10 : decode cX4_go 10 = .ok (.aload_n 0, 1) := by decide +kernel
theorem dX4_go_11 : decode cX4_go 11 = .ok (.ldc 75, 2) := by decide +kernel
theorem dX4_go_13 : decode cX4_go 13 = .ok (.invokevirtual 81, 3) := by decide +kernel
theorem dX4_go_16 : decode cX4_go 16 = .ok (.ireturn, 1) := by decide +kernel
theorem dX4_go_17 : decode cX4_go 17 = .ok (.aload_n 0, 1) := by decide +kernel
theorem dX4_go_18 : decode cX4_go 18 = .ok (.getfield 9, 3) := by decide +kernel
theorem dX4_go_21 : decode cX4_go 21 = .ok (.iconst 0, 1) := by decide +kernel
theorem dX4_go_22 : decode cX4_go 22 = .ok (.iaload, 1) := by decide +kernel
theorem dX4_go_23 : decode cX4_go 23 = .ok (.iload_n 1, 1) := by decide +kernel
theorem dX4_go_24 : decode cX4_go 24 = .ok (.iadd, 1) := by decide +kernel
theorem dX4_go_25 : decode cX4_go 25 = .ok (.ldc 165, 2) := by decide +kernel
theorem dX4_go_27 : decode cX4_go 27 = .ok (.if_icmp .le 10, 3) := by decide +kernel
theorem dX4_go_30 : decode cX4_go 30 = .ok (.aload_n 0, 1) := by decide +kernel
theorem dX4_go_31 : decode cX4_go 31 = .ok (.ldc 166, 2) := by decide +kernel
theorem dX4_go_33 : decode cX4_go 33 = .ok (.invokevirtual 81, 3) := by decide +kernel
theorem dX4_go_36 : decode cX4_go 36 = .ok (.ireturn, 1) := by decide +kernel
theorem dX4_go_37 : decode cX4_go 37 = .ok (.aload_n 0, 1) := by decide +kernel
theorem dX4_go_38 : decode cX4_go 38 = .ok (.iload_n 1, 1) := by decide +kernel
theorem dX4_go_39 : decode cX4_go 39 = .ok (.invokevirtual 167, 3) := by decide +kernel
theorem dX4_go_42 : decode cX4_go 42 = .ok (.aload_n 0, 1) := by decide +kernel
theorem dX4_go_43 : decode cX4_go 43 = .ok (.invokevirtual 171, 3) := by decide +kernel
theorem dX4_go_46 : decode cX4_go 46 = .ok (.invokestatic 123, 3) := by decide +kernel
theorem dX4_go_49 : decode cX4_go 49 = .ok (.ireturn, 1) := by decide +kernel
theorem dX4_sumOf_0 : decode cX4_sumOf 0 = .ok (.iconst 0, 1) := by decide +kernel
theorem dX4_sumOf_1 : decode cX4_sumOf 1 = .ok (.istore_n 2, 1) := by decide +kernel
theorem dX4_sumOf_2 : decode cX4_sumOf 2 = .ok (.iconst 0, 1) := by decide +kernel
theorem dX4_sumOf_3 : decode cX4_sumOf 3 = .ok (.istore_n 3, 1) := by decide +kernel
theorem dX4_sumOf_4 : decode cX4_sumOf 4 = .ok (.iload_n 3, 1) := by decide +kernel
theorem dX4_sumOf_5 : decode cX4_sumOf 5 = .ok (.aload_n 0, 1) := by decide +kernel
theorem dX4_sumOf_6 : decode cX4_sumOf 6 = .ok (.getfield 9, 3) := by decide +kernel
theorem dX4_sumOf_9 : decode cX4_sumOf 9 = .ok (.iconst 1, 1) := by decide +kernel
theorem dX4_sumOf_10 : decode cX4_sumOf 10 = .ok (.iaload, 1) := by decide +kernel
theorem dX4_sumOf_11 : decode cX4_sumOf 11 = .ok (.if_icmp .ge 18, 3) := by decide +kernel
theorem dX4_sumOf_14 : decode cX4_sumOf 14 = .ok (.iload_n 2, 1) := by decide +kernel
theorem dX4_sumOf_15 : decode cX4_sumOf 15 = .ok (.aload_n 0, 1) := by decide +kernel
theorem dX4_sumOf_16 : decode cX4_sumOf 16 = .ok (.iload_n 3, 1) := by decide +kernel
theorem dX4_sumOf_17 : decode cX4_sumOf 17 = .ok (.iload_n 1, 1) := by decide +kernel
theorem dX4_sumOf_18 : decode cX4_sumOf 18 = .ok (.invokevirtual 108, 3) := by decide +kernel
theorem dX4_sumOf_21 : decode cX4_sumOf 21 = .ok (.iadd, 1) := by decide +kernel
theorem dX4_sumOf_22 : decode cX4_sumOf 22 = .ok (.istore_n 2, 1) := by decide +kernel
theorem dX4_sumOf_23 : decode cX4_sumOf 23 = .ok (.iinc 3 1, 3) := by decide +kernel
theorem dX4_sumOf_26 : decode cX4_sumOf 26 = .ok (.goto (-22), 3) := by decide +kernel
theorem dX4_sumOf_29 : decode cX4_sumOf 29 = .ok (.iload_n 2, 1) := by decide +kernel
theorem dX4_sumOf_30 : decode cX4_sumOf 30 = .ok (.ireturn, 1) := by decide +kernel
theorem dX4_valleysAt_0 : decode cX4_valleysAt 0 = .ok (.iconst 0, 1) := by decide +kernel
theorem dX4_valleysAt_1 : decode cX4_valleysAt 1 = .ok (.istore_n 1, 1) := by decide +kernel
theorem dX4_valleysAt_2 : decode cX4_valleysAt 2 = .ok (.iconst 0, 1) := by decide +kernel
theorem dX4_valleysAt_3 : decode cX4_valleysAt 3 = .ok (.istore_n 2, 1) := by decide +kernel
theorem dX4_valleysAt_4 : decode cX4_valleysAt 4 = .ok (.iload_n 2, 1) := by decide +kernel
theorem dX4_valleysAt_5 : decode cX4_valleysAt 5 = .ok (.aload_n 0, 1) := by decide +kernel
theorem dX4_valleysAt_6 : decode cX4_valleysAt 6 = .ok (.getfield 9, 3) := by decide +kernel
theorem dX4_valleysAt_9 : decode cX4_valleysAt 9 = .ok (.iconst 1, 1) := by decide +kernel
theorem dX4_valleysAt_10 : decode cX4_valleysAt 10 = .ok (.iaload, 1) := by decide +kernel
theorem dX4_valleysAt_11 : decode cX4_valleysAt 11 = .ok (.if_icmp .ge 20, 3) := by decide +kernel
theorem dX4_valleysAt_14 : decode cX4_valleysAt 14 = .ok (.iload_n 1, 1) := by decide +kernel
theorem dX4_valleysAt_15 : decode cX4_valleysAt 15 = .ok (.iconst 1, 1) := by decide +kernel
theorem dX4_valleysAt_16 : decode cX4_valleysAt 16 = .ok (.aload_n 0, 1) := by decide +kernel
theorem dX4_valleysAt_17 : decode cX4_valleysAt 17 = .ok (.iload_n 2, 1) := by decide +kernel
theorem dX4_valleysAt_18 : decode cX4_valleysAt 18 = .ok (.iconst 1, 1) := by decide +kernel
theorem dX4_valleysAt_19 : decode cX4_valleysAt 19 = .ok (.invokevirtual 108, 3) := by decide +kernel
theorem dX4_valleysAt_22 : decode cX4_valleysAt 22 = .ok (.ishl, 1) := by decide +kernel
theorem dX4_valleysAt_23 : decode cX4_valleysAt 23 = .ok (.ior, 1) := by decide +kernel
theorem dX4_valleysAt_24 : decode cX4_valleysAt 24 = .ok (.istore_n 1, 1) := by decide +kernel
theorem dX4_valleysAt_25 : decode cX4_valleysAt 25 = .ok (.iinc 2 1, 3) := by decide +kernel
theorem dX4_valleysAt_28 : decode cX4_valleysAt 28 = .ok (.goto (-24), 3) := by decide +kernel
theorem dX4_valleysAt_31 : decode cX4_valleysAt 31 = .ok (.iload_n 1, 1) := by decide +kernel
theorem dX4_valleysAt_32 : decode cX4_valleysAt 32 = .ok (.ireturn, 1) := by decide +kernel
theorem dX4_valleysFaced_0 : decode cX4_valleysFaced 0 = .ok (.iconst 0, 1) := by decide +kernel
theorem dX4_valleysFaced_1 : decode cX4_valleysFaced 1 = .ok (.istore_n 1, 1) := by decide +kernel
theorem dX4_valleysFaced_2 : decode cX4_valleysFaced 2 = .ok (.iconst 0, 1) := by decide +kernel
theorem dX4_valleysFaced_3 : decode cX4_valleysFaced 3 = .ok (.istore_n 2, 1) := by decide +kernel
theorem dX4_valleysFaced_4 : decode cX4_valleysFaced 4 = .ok (.iload_n 2, 1) := by decide +kernel
theorem dX4_valleysFaced_5 : decode cX4_valleysFaced 5 = .ok (.aload_n 0, 1) := by decide +kernel
theorem dX4_valleysFaced_6 : decode cX4_valleysFaced 6 = .ok (.getfield 9, 3) := by decide +kernel
theorem dX4_valleysFaced_9 : decode cX4_valleysFaced 9 = .ok (.iconst 1, 1) := by decide +kernel
theorem dX4_valleysFaced_10 : decode cX4_valleysFaced 10 = .ok (.iaload, 1) := by decide +kernel
theorem dX4_valleysFaced_11 : decode cX4_valleysFaced 11 = .ok (.if_icmp .ge 19, 3) := by decide +kernel
theorem dX4_valleysFaced_14 : decode cX4_valleysFaced 14 = .ok (.iload_n 1, 1) := by decide +kernel
theorem dX4_valleysFaced_15 : decode cX4_valleysFaced 15 = .ok (.iconst 1, 1) := by decide +kernel
theorem dX4_valleysFaced_16 : decode cX4_valleysFaced 16 = .ok (.aload_n 0, 1) := by decide +kernel
theorem dX4_valleysFaced_17 : decode cX4_valleysFaced 17 = .ok (.iload_n 2, 1) := by decide +kernel
theorem dX4_valleysFaced_18 : decode cX4_valleysFaced 18 = .ok (.invokevirtual 114, 3) := by decide +kernel
theorem dX4_valleysFaced_21 : decode cX4_valleysFaced 21 = .ok (.ishl, 1) := by decide +kernel
theorem dX4_valleysFaced_22 : decode cX4_valleysFaced 22 = .ok (.ior, 1) := by decide +kernel
theorem dX4_valleysFaced_23 : decode cX4_valleysFaced 23 = .ok (.istore_n 1, 1) := by decide +kernel
theorem dX4_valleysFaced_24 : decode cX4_valleysFaced 24 = .ok (.iinc 2 1, 3) := by decide +kernel
theorem dX4_valleysFaced_27 : decode cX4_valleysFaced 27 = .ok (.goto (-23), 3) := by decide +kernel
theorem dX4_valleysFaced_30 : decode cX4_valleysFaced 30 = .ok (.iload_n 1, 1) := by decide +kernel
theorem dX4_valleysFaced_31 : decode cX4_valleysFaced 31 = .ok (.ireturn, 1) := by decide +kernel
theorem dX4_now_0 : decode cX4_now 0 = .ok (.iload_n 1, 1) := by decide +kernel
theorem dX4_now_1 : decode cX4_now 1 = .ok (.tableswitch 73 0 5 #[39, 46, 52, 57, 62, 67], 39) := by decide +kernel
theorem dX4_now_40 : decode cX4_now 40 = .ok (.aload_n 0, 1) := by decide +kernel
theorem dX4_now_41 : decode cX4_now 41 = .ok (.getfield 9, 3) := by decide +kernel
theorem dX4_now_44 : decode cX4_now 44 = .ok (.iconst 0, 1) := by decide +kernel
theorem dX4_now_45 : decode cX4_now 45 = .ok (.iaload, 1) := by decide +kernel
theorem dX4_now_46 : decode cX4_now 46 = .ok (.ireturn, 1) := by decide +kernel
theorem dX4_now_47 : decode cX4_now 47 = .ok (.aload_n 0, 1) := by decide +kernel
theorem dX4_now_48 : decode cX4_now 48 = .ok (.iconst 4, 1) := by decide +kernel
theorem dX4_now_49 : decode cX4_now 49 = .ok (.invokevirtual 175, 3) := by decide +kernel
theorem dX4_now_52 : decode cX4_now 52 = .ok (.ireturn, 1) := by decide +kernel
theorem dX4_now_53 : decode cX4_now 53 = .ok (.aload_n 0, 1) := by decide +kernel
theorem dX4_now_54 : decode cX4_now 54 = .ok (.invokevirtual 171, 3) := by decide +kernel
theorem dX4_now_57 : decode cX4_now 57 = .ok (.ireturn, 1) := by decide +kernel
theorem dX4_now_58 : decode cX4_now 58 = .ok (.aload_n 0, 1) := by decide +kernel
theorem dX4_now_59 : decode cX4_now 59 = .ok (.invokevirtual 178, 3) := by decide +kernel
theorem dX4_now_62 : decode cX4_now 62 = .ok (.ireturn, 1) := by decide +kernel
theorem dX4_now_63 : decode cX4_now 63 = .ok (.aload_n 0, 1) := by decide +kernel
theorem dX4_now_64 : decode cX4_now 64 = .ok (.invokevirtual 181, 3) := by decide +kernel
theorem dX4_now_67 : decode cX4_now 67 = .ok (.ireturn, 1) := by decide +kernel
theorem dX4_now_68 : decode cX4_now 68 = .ok (.aload_n 0, 1) := by decide +kernel
theorem dX4_now_69 : decode cX4_now 69 = .ok (.iconst 5, 1) := by decide +kernel
theorem dX4_now_70 : decode cX4_now 70 = .ok (.invokevirtual 175, 3) := by decide +kernel
theorem dX4_now_73 : decode cX4_now 73 = .ok (.ireturn, 1) := by decide +kernel
theorem dX4_now_74 : decode cX4_now 74 = .ok (.aload_n 0, 1) := by decide +kernel
theorem dX4_now_75 : decode cX4_now 75 = .ok (.ldc 75, 2) := by decide +kernel
theorem dX4_now_77 : decode cX4_now 77 = .ok (.invokevirtual 81, 3) := by decide +kernel
theorem dX4_now_80 : decode cX4_now 80 = .ok (.ireturn, 1) := by decide +kernel
theorem dX4_ahead_0 : decode cX4_ahead 0 = .ok (.aload_n 0, 1) := by decide +kernel
theorem dX4_ahead_1 : decode cX4_ahead 1 = .ok (.iload_n 1, 1) := by decide +kernel
theorem dX4_ahead_2 : decode cX4_ahead 2 = .ok (.invokevirtual 135, 3) := by decide +kernel
theorem dX4_ahead_5 : decode cX4_ahead 5 = .ok (.ifCond .eq 28, 3) := by decide +kernel
theorem dX4_ahead_8 : decode cX4_ahead 8 = .ok (.iload_n 2, 1) := by decide +kernel
theorem dX4_ahead_9 : decode cX4_ahead 9 = .ok (.iconst 1, 1) := by decide +kernel
theorem dX4_ahead_10 : decode cX4_ahead 10 = .ok (.if_icmp .eq 13, 3) := by decide +kernel
theorem dX4_ahead_13 : decode cX4_ahead 13 = .ok (.iload_n 2, 1) := by decide +kernel
theorem dX4_ahead_14 : decode cX4_ahead 14 = .ok (.iconst 3, 1) := by decide +kernel
theorem dX4_ahead_15 : decode cX4_ahead 15 = .ok (.bipush 6, 2) := by decide +kernel
theorem dX4_ahead_17 : decode cX4_ahead 17 = .ok (.invokestatic 85, 3) := by decide +kernel
theorem dX4_ahead_20 : decode cX4_ahead 20 = .ok (.ifCond .eq 13, 3) := by decide +kernel
theorem dX4_ahead_23 : decode cX4_ahead 23 = .ok (.iload_n 3, 1) := by decide +kernel
theorem dX4_ahead_24 : decode cX4_ahead 24 = .ok (.iconst 0, 1) := by decide +kernel
theorem dX4_ahead_25 : decode cX4_ahead 25 = .ok (.bipush 100, 2) := by decide +kernel
theorem dX4_ahead_27 : decode cX4_ahead 27 = .ok (.invokestatic 85, 3) := by decide +kernel
theorem dX4_ahead_30 : decode cX4_ahead 30 = .ok (.ifCond .ne 10, 3) := by decide +kernel
theorem dX4_ahead_33 : decode cX4_ahead 33 = .ok (.aload_n 0, 1) := by decide +kernel
theorem dX4_ahead_34 : decode cX4_ahead 34 = .ok (.ldc 75, 2) := by decide +kernel
theorem dX4_ahead_36 : decode cX4_ahead 36 = .ok (.invokevirtual 81, 3) := by decide +kernel
theorem dX4_ahead_39 : decode cX4_ahead 39 = .ok (.ireturn, 1) := by decide +kernel
theorem dX4_ahead_40 : decode cX4_ahead 40 = .ok (.aload_n 0, 1) := by decide +kernel
theorem dX4_ahead_41 : decode cX4_ahead 41 = .ok (.getfield 9, 3) := by decide +kernel
theorem dX4_ahead_44 : decode cX4_ahead 44 = .ok (.aload_n 0, 1) := by decide +kernel
theorem dX4_ahead_45 : decode cX4_ahead 45 = .ok (.getfield 16, 3) := by decide +kernel
theorem dX4_ahead_48 : decode cX4_ahead 48 = .ok (.invokestatic 76, 3) := by decide +kernel
theorem dX4_ahead_51 : decode cX4_ahead 51 = .ok (.aload_n 0, 1) := by decide +kernel
theorem dX4_ahead_52 : decode cX4_ahead 52 = .ok (.iload_n 3, 1) := by decide +kernel
theorem dX4_ahead_53 : decode cX4_ahead 53 = .ok (.invokevirtual 167, 3) := by decide +kernel
theorem dX4_ahead_56 : decode cX4_ahead 56 = .ok (.aload_n 0, 1) := by decide +kernel
theorem dX4_ahead_57 : decode cX4_ahead 57 = .ok (.iload_n 2, 1) := by decide +kernel
theorem dX4_ahead_58 : decode cX4_ahead 58 = .ok (.bipush 6, 2) := by decide +kernel
theorem dX4_ahead_60 : decode cX4_ahead 60 = .ok (.if_icmp .ne 11, 3) := by decide +kernel
theorem dX4_ahead_63 : decode cX4_ahead 63 = .ok (.aload_n 0, 1) := by decide +kernel
theorem dX4_ahead_64 : decode cX4_ahead 64 = .ok (.iload_n 1, 1) := by decide +kernel
theorem dX4_ahead_65 : decode cX4_ahead 65 = .ok (.invokevirtual 114, 3) := by decide +kernel
theorem dX4_ahead_68 : decode cX4_ahead 68 = .ok (.goto 9, 3) := by decide +kernel
theorem dX4_ahead_71 : decode cX4_ahead 71 = .ok (.aload_n 0, 1) := by decide +kernel
theorem dX4_ahead_72 : decode cX4_ahead 72 = .ok (.iload_n 1, 1) := by decide +kernel
theorem dX4_ahead_73 : decode cX4_ahead 73 = .ok (.iload_n 2, 1) := by decide +kernel
theorem dX4_ahead_74 : decode cX4_ahead 74 = .ok (.invokevirtual 108, 3) := by decide +kernel
theorem dX4_ahead_77 : decode cX4_ahead 77 = .ok (.invokevirtual 184, 3) := by decide +kernel
theorem dX4_ahead_80 : decode cX4_ahead 80 = .ok (.ireturn, 1) := by decide +kernel
theorem dX4_when_0 : decode cX4_when 0 = .ok (.aload_n 0, 1) := by decide +kernel
theorem dX4_when_1 : decode cX4_when 1 = .ok (.iload_n 1, 1) := by decide +kernel
theorem dX4_when_2 : decode cX4_when 2 = .ok (.invokevirtual 135, 3) := by decide +kernel
theorem dX4_when_5 : decode cX4_when 5 = .ok (.ifCond .eq 10, 3) := by decide +kernel
theorem dX4_when_8 : decode cX4_when 8 = .ok (.iload_n 2, 1) := by decide +kernel
theorem dX4_when_9 : decode cX4_when 9 = .ok (.invokestatic 100, 3) := by decide +kernel
theorem dX4_when_12 : decode cX4_when 12 = .ok (.ifCond .ne 10, 3) := by decide +kernel
theorem dX4_when_15 : decode cX4_when 15 = .ok (.aload_n 0, 1) := by decide +kernel
theorem dX4_when_16 : decode cX4_when 16 = .ok (.ldc 75, 2) := by decide +kernel
theorem dX4_when_18 : decode cX4_when 18 = .ok (.invokevirtual 81, 3) := by decide +kernel
theorem dX4_when_21 : decode cX4_when 21 = .ok (.ireturn, 1) := by decide +kernel
theorem dX4_when_22 : decode cX4_when 22 = .ok (.aload_n 0, 1) := by decide +kernel
theorem dX4_when_23 : decode cX4_when 23 = .ok (.getfield 9, 3) := by decide +kernel
theorem dX4_when_26 : decode cX4_when 26 = .ok (.aload_n 0, 1) := by decide +kernel
theorem dX4_when_27 : decode cX4_when 27 = .ok (.getfield 16, 3) := by decide +kernel
theorem dX4_when_30 : decode cX4_when 30 = .ok (.invokestatic 76, 3) := by decide +kernel
theorem dX4_when_33 : decode cX4_when 33 = .ok (.iconst 0, 1) := by decide +kernel
theorem dX4_when_34 : decode cX4_when 34 = .ok (.istore_n 3, 1) := by decide +kernel
theorem dX4_when_35 : decode cX4_when 35 = .ok (.iload_n 3, 1) := by decide +kernel
theorem dX4_when_36 : decode cX4_when 36 = .ok (.sipush 200, 3) := by decide +kernel
theorem dX4_when_39 : decode cX4_when 39 = .ok (.if_icmp .ge 22, 3) := by decide +kernel
theorem dX4_when_42 : decode cX4_when 42 = .ok (.aload_n 0, 1) := by decide +kernel
theorem dX4_when_43 : decode cX4_when 43 = .ok (.iload_n 1, 1) := by decide +kernel
theorem dX4_when_44 : decode cX4_when 44 = .ok (.invokevirtual 114, 3) := by decide +kernel
theorem dX4_when_47 : decode cX4_when 47 = .ok (.iload_n 2, 1) := by decide +kernel
theorem dX4_when_48 : decode cX4_when 48 = .ok (.if_icmp .eq 13, 3) := by decide +kernel
theorem dX4_when_51 : decode cX4_when 51 = .ok (.aload_n 0, 1) := by decide +kernel
theorem dX4_when_52 : decode cX4_when 52 = .ok (.invokevirtual 162, 3) := by decide +kernel
theorem dX4_when_55 : decode cX4_when 55 = .ok (.iinc 3 1, 3) := by decide +kernel
theorem dX4_when_58 : decode cX4_when 58 = .ok (.goto (-23), 3) := by decide +kernel
theorem dX4_when_61 : decode cX4_when 61 = .ok (.aload_n 0, 1) := by decide +kernel
theorem dX4_when_62 : decode cX4_when 62 = .ok (.aload_n 0, 1) := by decide +kernel
theorem dX4_when_63 : decode cX4_when 63 = .ok (.aload_n 0, 1) := by decide +kernel
theorem dX4_when_64 : decode cX4_when 64 = .ok (.iload_n 1, 1) := by decide +kernel
theorem dX4_when_65 : decode cX4_when 65 = .ok (.invokevirtual 114, 3) := by decide +kernel
theorem dX4_when_68 : decode cX4_when 68 = .ok (.iload_n 2, 1) := by decide +kernel
theorem dX4_when_69 : decode cX4_when 69 = .ok (.if_icmp .ne 7, 3) := by decide +kernel
theorem dX4_when_72 : decode cX4_when 72 = .ok (.iload_n 3, 1) := by decide +kernel
theorem dX4_when_73 : decode cX4_when 73 = .ok (.goto 4, 3) := by decide +kernel
theorem dX4_when_76 : decode cX4_when 76 = .ok (.iconst (-1), 1) := by decide +kernel
theorem dX4_when_77 : decode cX4_when 77 = .ok (.invokevirtual 184, 3) := by decide +kernel
theorem dX4_when_80 : decode cX4_when 80 = .ok (.invokevirtual 187, 3) := by decide +kernel
theorem dX4_when_83 : decode cX4_when 83 = .ok (.ireturn, 1) := by decide +kernel
theorem dX4_areTwo_0 : decode cX4_areTwo 0 = .ok (.aload_n 0, 1) := by decide +kernel
theorem dX4_areTwo_1 : decode cX4_areTwo 1 = .ok (.iload_n 1, 1) := by decide +kernel
theorem dX4_areTwo_2 : decode cX4_areTwo 2 = .ok (.invokevirtual 135, 3) := by decide +kernel
theorem dX4_areTwo_5 : decode cX4_areTwo 5 = .ok (.ifCond .eq 20, 3) := by decide +kernel
theorem dX4_areTwo_8 : decode cX4_areTwo 8 = .ok (.aload_n 0, 1) := by decide +kernel
theorem dX4_areTwo_9 : decode cX4_areTwo 9 = .ok (.iload_n 2, 1) := by decide +kernel
theorem dX4_areTwo_10 : decode cX4_areTwo 10 = .ok (.invokevirtual 135, 3) := by decide +kernel
theorem dX4_areTwo_13 : decode cX4_areTwo 13 = .ok (.ifCond .eq 12, 3) := by decide +kernel
theorem dX4_areTwo_16 : decode cX4_areTwo 16 = .ok (.iload_n 1, 1) := by decide +kernel
theorem dX4_areTwo_17 : decode cX4_areTwo 17 = .ok (.iload_n 2, 1) := by decide +kernel
theorem dX4_areTwo_18 : decode cX4_areTwo 18 = .ok (.if_icmp .eq 7, 3) := by decide +kernel
theorem dX4_areTwo_21 : decode cX4_areTwo 21 = .ok (.iconst 1, 1) := by decide +kernel
theorem dX4_areTwo_22 : decode cX4_areTwo 22 = .ok (.goto 4, 3) := by decide +kernel
theorem dX4_areTwo_25 : decode cX4_areTwo 25 = .ok (.iconst 0, 1) := by decide +kernel
theorem dX4_areTwo_26 : decode cX4_areTwo 26 = .ok (.ireturn, 1) := by decide +kernel
theorem dX4_doMeet_0 : decode cX4_doMeet 0 = .ok (.aload_n 0, 1) := by decide +kernel
theorem dX4_doMeet_1 : decode cX4_doMeet 1 = .ok (.iload_n 1, 1) := by decide +kernel
theorem dX4_doMeet_2 : decode cX4_doMeet 2 = .ok (.invokevirtual 114, 3) := by decide +kernel
theorem dX4_doMeet_5 : decode cX4_doMeet 5 = .ok (.aload_n 0, 1) := by decide +kernel
theorem dX4_doMeet_6 : decode cX4_doMeet 6 = .ok (.iload_n 2, 1) := by decide +kernel
theorem dX4_doMeet_7 : decode cX4_doMeet 7 = .ok (.iconst 1, 1) := by decide +kernel
theorem dX4_doMeet_8 : decode cX4_doMeet 8 = .ok (.invokevirtual 108, 3) := by decide +kernel
theorem dX4_doMeet_11 : decode cX4_doMeet 11 = .ok (.if_icmp .ne 21, 3) := by decide +kernel
theorem dX4_doMeet_14 : decode cX4_doMeet 14 = .ok (.aload_n 0, 1) := by decide +kernel
theorem dX4_doMeet_15 : decode cX4_doMeet 15 = .ok (.iload_n 2, 1) := by decide +kernel
theorem dX4_doMeet_16 : decode cX4_doMeet 16 = .ok (.invokevirtual 114, 3) := by decide +kernel
theorem dX4_doMeet_19 : decode cX4_doMeet 19 = .ok (.aload_n 0, 1) := by decide +kernel
theorem dX4_doMeet_20 : decode cX4_doMeet 20 = .ok (.iload_n 1, 1) := by decide +kernel
theorem dX4_doMeet_21 : decode cX4_doMeet 21 = .ok (.iconst 1, 1) := by decide +kernel
theorem dX4_doMeet_22 : decode cX4_doMeet 22 = .ok (.invokevirtual 108, 3) := by decide +kernel
theorem dX4_doMeet_25 : decode cX4_doMeet 25 = .ok (.if_icmp .ne 7, 3) := by decide +kernel
theorem dX4_doMeet_28 : decode cX4_doMeet 28 = .ok (.iconst 1, 1) := by decide +kernel
theorem dX4_doMeet_29 : decode cX4_doMeet 29 = .ok (.goto 4, 3) := by decide +kernel
theorem dX4_doMeet_32 : decode cX4_doMeet 32 = .ok (.iconst 0, 1) := by decide +kernel
theorem dX4_doMeet_33 : decode cX4_doMeet 33 = .ok (.ireturn, 1) := by decide +kernel
theorem dX4_meetIn_0 : decode cX4_meetIn 0 = .ok (.aload_n 0, 1) := by decide +kernel
theorem dX4_meetIn_1 : decode cX4_meetIn 1 = .ok (.getfield 9, 3) := by decide +kernel
theorem dX4_meetIn_4 : decode cX4_meetIn 4 = .ok (.aload_n 0, 1) := by decide +kernel
theorem dX4_meetIn_5 : decode cX4_meetIn 5 = .ok (.getfield 16, 3) := by decide +kernel
theorem dX4_meetIn_8 : decode cX4_meetIn 8 = .ok (.invokestatic 76, 3) := by decide +kernel
theorem dX4_meetIn_11 : decode cX4_meetIn 11 = .ok (.iconst 0, 1) := by decide +kernel
theorem dX4_meetIn_12 : decode cX4_meetIn 12 = .ok (.istore 4, 2) := by decide +kernel
theorem dX4_meetIn_14 : decode cX4_meetIn 14 = .ok (.iload 4, 2) := by decide +kernel
theorem dX4_meetIn_16 : decode cX4_meetIn 16 = .ok (.iload_n 3, 1) := by decide +kernel
theorem dX4_meetIn_17 : decode cX4_meetIn 17 = .ok (.if_icmp .ge 22, 3) := by decide +kernel
theorem dX4_meetIn_20 : decode cX4_meetIn 20 = .ok (.aload_n 0, 1) := by decide +kernel
theorem dX4_meetIn_21 : decode cX4_meetIn 21 = .ok (.iload_n 1, 1) := by decide +kernel
theorem dX4_meetIn_22 : decode cX4_meetIn 22 = .ok (.iload_n 2, 1) := by decide +kernel
theorem dX4_meetIn_23 : decode cX4_meetIn 23 = .ok (.invokevirtual 190, 3) := by decide +kernel
theorem dX4_meetIn_26 : decode cX4_meetIn 26 = .ok (.ifCond .ne 13, 3) := by decide +kernel
theorem dX4_meetIn_29 : decode cX4_meetIn 29 = .ok (.aload_n 0, 1) := by decide +kernel
theorem dX4_meetIn_30 : decode cX4_meetIn 30 = .ok (.invokevirtual 162, 3) := by decide +kernel
theorem dX4_meetIn_33 : decode cX4_meetIn 33 = .ok (.iinc 4 1, 3) := by decide +kernel
theorem dX4_meetIn_36 : decode cX4_meetIn 36 = .ok (.goto (-22), 3) := by decide +kernel
theorem dX4_meetIn_39 : decode cX4_meetIn 39 = .ok (.aload_n 0, 1) := by decide +kernel
theorem dX4_meetIn_40 : decode cX4_meetIn 40 = .ok (.iload 4, 2) := by decide +kernel
theorem dX4_meetIn_42 : decode cX4_meetIn 42 = .ok (.iload_n 3, 1) := by decide +kernel
theorem dX4_meetIn_43 : decode cX4_meetIn 43 = .ok (.if_icmp .ge 8, 3) := by decide +kernel
theorem dX4_meetIn_46 : decode cX4_meetIn 46 = .ok (.iload 4, 2) := by decide +kernel
theorem dX4_meetIn_48 : decode cX4_meetIn 48 = .ok (.goto 4, 3) := by decide +kernel
theorem dX4_meetIn_51 : decode cX4_meetIn 51 = .ok (.iconst (-1), 1) := by decide +kernel
theorem dX4_meetIn_52 : decode cX4_meetIn 52 = .ok (.invokevirtual 184, 3) := by decide +kernel
theorem dX4_meetIn_55 : decode cX4_meetIn 55 = .ok (.ireturn, 1) := by decide +kernel
theorem dX4_meet_0 : decode cX4_meet 0 = .ok (.aload_n 0, 1) := by decide +kernel
theorem dX4_meet_1 : decode cX4_meet 1 = .ok (.iload_n 1, 1) := by decide +kernel
theorem dX4_meet_2 : decode cX4_meet 2 = .ok (.iload_n 2, 1) := by decide +kernel
theorem dX4_meet_3 : decode cX4_meet 3 = .ok (.invokevirtual 193, 3) := by decide +kernel
theorem dX4_meet_6 : decode cX4_meet 6 = .ok (.ifCond .eq 19, 3) := by decide +kernel
theorem dX4_meet_9 : decode cX4_meet 9 = .ok (.aload_n 0, 1) := by decide +kernel
theorem dX4_meet_10 : decode cX4_meet 10 = .ok (.aload_n 0, 1) := by decide +kernel
theorem dX4_meet_11 : decode cX4_meet 11 = .ok (.iload_n 1, 1) := by decide +kernel
theorem dX4_meet_12 : decode cX4_meet 12 = .ok (.iload_n 2, 1) := by decide +kernel
theorem dX4_meet_13 : decode cX4_meet 13 = .ok (.sipush 201, 3) := by decide +kernel
theorem dX4_meet_16 : decode cX4_meet 16 = .ok (.invokevirtual 196, 3) := by decide +kernel
theorem dX4_meet_19 : decode cX4_meet 19 = .ok (.invokevirtual 187, 3) := by decide +kernel
theorem dX4_meet_22 : decode cX4_meet 22 = .ok (.goto 9, 3) := by decide +kernel
theorem dX4_meet_25 : decode cX4_meet 25 = .ok (.aload_n 0, 1) := by decide +kernel
theorem dX4_meet_26 : decode cX4_meet 26 = .ok (.ldc 75, 2) := by decide +kernel
theorem dX4_meet_28 : decode cX4_meet 28 = .ok (.invokevirtual 81, 3) := by decide +kernel
theorem dX4_meet_31 : decode cX4_meet 31 = .ok (.ireturn, 1) := by decide +kernel
theorem dX4_isAsAside_0 : decode cX4_isAsAside 0 = .ok (.iconst 1, 1) := by decide +kernel
theorem dX4_isAsAside_1 : decode cX4_isAsAside 1 = .ok (.istore_n 1, 1) := by decide +kernel
theorem dX4_isAsAside_2 : decode cX4_isAsAside 2 = .ok (.iconst 0, 1) := by decide +kernel
theorem dX4_isAsAside_3 : decode cX4_isAsAside 3 = .ok (.istore_n 2, 1) := by decide +kernel
theorem dX4_isAsAside_4 : decode cX4_isAsAside 4 = .ok (.iload_n 2, 1) := by decide +kernel
theorem dX4_isAsAside_5 : decode cX4_isAsAside 5 = .ok (.aload_n 0, 1) := by decide +kernel
theorem dX4_isAsAside_6 : decode cX4_isAsAside 6 = .ok (.getfield 9, 3) := by decide +kernel
theorem dX4_isAsAside_9 : decode cX4_isAsAside 9 = .ok (.iconst 1, 1) := by decide +kernel
theorem dX4_isAsAside_10 : decode cX4_isAsAside 10 = .ok (.iaload, 1) := by decide +kernel
theorem dX4_isAsAside_11 : decode cX4_isAsAside 11 = .ok (.if_icmp .ge 65, 3) := by decide +kernel
theorem dX4_isAsAside_14 : decode cX4_isAsAside 14 = .ok (.iload_n 1, 1) := by decide +kernel
theorem dX4_isAsAside_15 : decode cX4_isAsAside 15 = .ok (.ifCond .eq 53, 3) := by decide +kernel
theorem dX4_isAsAside_18 : decode cX4_isAsAside 18 = .ok (.aload_n 0, 1) := by decide +kernel
theorem dX4_isAsAside_19 : decode cX4_isAsAside 19 = .ok (.getfield 9, 3) := by decide +kernel
theorem dX4_isAsAside_22 : decode cX4_isAsAside 22 = .ok (.iload_n 2, 1) := by decide +kernel
theorem dX4_isAsAside_23 : decode cX4_isAsAside 23 = .ok (.iconst 1, 1) := by decide +kernel
theorem dX4_isAsAside_24 : decode cX4_isAsAside 24 = .ok (.invokestatic 93, 3) := by decide +kernel
theorem dX4_isAsAside_27 : decode cX4_isAsAside 27 = .ok (.iaload, 1) := by decide +kernel
theorem dX4_isAsAside_28 : decode cX4_isAsAside 28 = .ok (.aload_n 0, 1) := by decide +kernel
theorem dX4_isAsAside_29 : decode cX4_isAsAside 29 = .ok (.getfield 16, 3) := by decide +kernel
theorem dX4_isAsAside_32 : decode cX4_isAsAside 32 = .ok (.iload_n 2, 1) := by decide +kernel
theorem dX4_isAsAside_33 : decode cX4_isAsAside 33 = .ok (.iconst 1, 1) := by decide +kernel
theorem dX4_isAsAside_34 : decode cX4_isAsAside 34 = .ok (.invokestatic 93, 3) := by decide +kernel
theorem dX4_isAsAside_37 : decode cX4_isAsAside 37 = .ok (.iaload, 1) := by decide +kernel
theorem dX4_isAsAside_38 : decode cX4_isAsAside 38 = .ok (.if_icmp .ne 30, 3) := by decide +kernel
theorem dX4_isAsAside_41 : decode cX4_isAsAside 41 = .ok (.aload_n 0, 1) := by decide +kernel
theorem dX4_isAsAside_42 : decode cX4_isAsAside 42 = .ok (.getfield 9, 3) := by decide +kernel
theorem dX4_isAsAside_45 : decode cX4_isAsAside 45 = .ok (.iload_n 2, 1) := by decide +kernel
theorem dX4_isAsAside_46 : decode cX4_isAsAside 46 = .ok (.iconst 3, 1) := by decide +kernel
theorem dX4_isAsAside_47 : decode cX4_isAsAside 47 = .ok (.invokestatic 93, 3) := by decide +kernel
theorem dX4_isAsAside_50 : decode cX4_isAsAside 50 = .ok (.iaload, 1) := by decide +kernel
theorem dX4_isAsAside_51 : decode cX4_isAsAside 51 = .ok (.aload_n 0, 1) := by decide +kernel
theorem dX4_isAsAside_52 : decode cX4_isAsAside 52 = .ok (.getfield 16, 3) := by decide +kernel
theorem dX4_isAsAside_55 : decode cX4_isAsAside 55 = .ok (.iload_n 2, 1) := by decide +kernel
theorem dX4_isAsAside_56 : decode cX4_isAsAside 56 = .ok (.iconst 3, 1) := by decide +kernel
theorem dX4_isAsAside_57 : decode cX4_isAsAside 57 = .ok (.invokestatic 93, 3) := by decide +kernel
theorem dX4_isAsAside_60 : decode cX4_isAsAside 60 = .ok (.iaload, 1) := by decide +kernel
theorem dX4_isAsAside_61 : decode cX4_isAsAside 61 = .ok (.if_icmp .ne 7, 3) := by decide +kernel
theorem dX4_isAsAside_64 : decode cX4_isAsAside 64 = .ok (.iconst 1, 1) := by decide +kernel
theorem dX4_isAsAside_65 : decode cX4_isAsAside 65 = .ok (.goto 4, 3) := by decide +kernel
theorem dX4_isAsAside_68 : decode cX4_isAsAside 68 = .ok (.iconst 0, 1) := by decide +kernel
theorem dX4_isAsAside_69 : decode cX4_isAsAside 69 = .ok (.istore_n 1, 1) := by decide +kernel
theorem dX4_isAsAside_70 : decode cX4_isAsAside 70 = .ok (.iinc 2 1, 3) := by decide +kernel
theorem dX4_isAsAside_73 : decode cX4_isAsAside 73 = .ok (.goto (-69), 3) := by decide +kernel
theorem dX4_isAsAside_76 : decode cX4_isAsAside 76 = .ok (.iload_n 1, 1) := by decide +kernel
theorem dX4_isAsAside_77 : decode cX4_isAsAside 77 = .ok (.ireturn, 1) := by decide +kernel
theorem dX4_round_0 : decode cX4_round 0 = .ok (.aload_n 0, 1) := by decide +kernel
theorem dX4_round_1 : decode cX4_round 1 = .ok (.getfield 9, 3) := by decide +kernel
theorem dX4_round_4 : decode cX4_round 4 = .ok (.aload_n 0, 1) := by decide +kernel
theorem dX4_round_5 : decode cX4_round 5 = .ok (.getfield 16, 3) := by decide +kernel
theorem dX4_round_8 : decode cX4_round 8 = .ok (.invokestatic 76, 3) := by decide +kernel
theorem dX4_round_11 : decode cX4_round 11 = .ok (.aload_n 0, 1) := by decide +kernel
theorem dX4_round_12 : decode cX4_round 12 = .ok (.invokevirtual 162, 3) := by decide +kernel
theorem dX4_round_15 : decode cX4_round 15 = .ok (.iconst 1, 1) := by decide +kernel
theorem dX4_round_16 : decode cX4_round 16 = .ok (.istore_n 1, 1) := by decide +kernel
theorem dX4_round_17 : decode cX4_round 17 = .ok (.iload_n 1, 1) := by decide +kernel
theorem dX4_round_18 : decode cX4_round 18 = .ok (.sipush 300, 3) := by decide +kernel
theorem dX4_round_21 : decode cX4_round 21 = .ok (.if_icmp .ge 20, 3) := by decide +kernel
theorem dX4_round_24 : decode cX4_round 24 = .ok (.aload_n 0, 1) := by decide +kernel
theorem dX4_round_25 : decode cX4_round 25 = .ok (.invokevirtual 200, 3) := by decide +kernel
theorem dX4_round_28 : decode cX4_round 28 = .ok (.ifCond .ne 13, 3) := by decide +kernel
theorem dX4_round_31 : decode cX4_round 31 = .ok (.aload_n 0, 1) := by decide +kernel
theorem dX4_round_32 : decode cX4_round 32 = .ok (.invokevirtual 162, 3) := by decide +kernel
theorem dX4_round_35 : decode cX4_round 35 = .ok (.iinc 1 1, 3) := by decide +kernel
theorem dX4_round_38 : decode cX4_round 38 = .ok (.goto (-21), 3) := by decide +kernel
theorem dX4_round_41 : decode cX4_round 41 = .ok (.aload_n 0, 1) := by decide +kernel
theorem dX4_round_42 : decode cX4_round 42 = .ok (.aload_n 0, 1) := by decide +kernel
theorem dX4_round_43 : decode cX4_round 43 = .ok (.aload_n 0, 1) := by decide +kernel
theorem dX4_round_44 : decode cX4_round 44 = .ok (.invokevirtual 200, 3) := by decide +kernel
theorem dX4_round_47 : decode cX4_round 47 = .ok (.ifCond .eq 7, 3) := by decide +kernel
theorem dX4_round_50 : decode cX4_round 50 = .ok (.iload_n 1, 1) := by decide +kernel
theorem dX4_round_51 : decode cX4_round 51 = .ok (.goto 4, 3) := by decide +kernel
theorem dX4_round_54 : decode cX4_round 54 = .ok (.iconst (-1), 1) := by decide +kernel
theorem dX4_round_55 : decode cX4_round 55 = .ok (.invokevirtual 184, 3) := by decide +kernel
theorem dX4_round_58 : decode cX4_round 58 = .ok (.invokevirtual 187, 3) := by decide +kernel
theorem dX4_round_61 : decode cX4_round 61 = .ok (.ireturn, 1) := by decide +kernel
theorem dX4_isSoon_0 : decode cX4_isSoon 0 = .ok (.iload_n 0, 1) := by decide +kernel
theorem dX4_isSoon_1 : decode cX4_isSoon 1 = .ok (.iconst 0, 1) := by decide +kernel
theorem dX4_isSoon_2 : decode cX4_isSoon 2 = .ok (.sipush 200, 3) := by decide +kernel
theorem dX4_isSoon_5 : decode cX4_isSoon 5 = .ok (.invokestatic 85, 3) := by decide +kernel
theorem dX4_isSoon_8 : decode cX4_isSoon 8 = .ok (.ireturn, 1) := by decide +kernel
theorem dX4_skylines_0 : decode cX4_skylines 0 = .ok (.iload_n 1, 1) := by decide +kernel
theorem dX4_skylines_1 : decode cX4_skylines 1 = .ok (.invokestatic 100, 3) := by decide +kernel
theorem dX4_skylines_4 : decode cX4_skylines 4 = .ok (.ifCond .eq 10, 3) := by decide +kernel
theorem dX4_skylines_7 : decode cX4_skylines 7 = .ok (.iload_n 2, 1) := by decide +kernel
theorem dX4_skylines_8 : decode cX4_skylines 8 = .ok (.invokestatic 204, 3) := by decide +kernel
theorem dX4_skylines_11 : decode cX4_skylines 11 = .ok (.ifCond .ne 10, 3) := by decide +kernel
theorem dX4_skylines_14 : decode cX4_skylines 14 = .ok (.aload_n 0, 1) := by decide +kernel
theorem dX4_skylines_15 : decode cX4_skylines 15 = .ok (.ldc 75, 2) := by decide +kernel
theorem dX4_skylines_17 : decode cX4_skylines 17 = .ok (.invokevirtual 81, 3) := by decide +kernel
theorem dX4_skylines_20 : decode cX4_skylines 20 = .ok (.ireturn, 1) := by decide +kernel
theorem dX4_skylines_21 : decode cX4_skylines 21 = .ok (.aload_n 0, 1) := by decide +kernel
theorem dX4_skylines_22 : decode cX4_skylines 22 = .ok (.getfield 9, 3) := by decide +kernel
theorem dX4_skylines_25 : decode cX4_skylines 25 = .ok (.aload_n 0, 1) := by decide +kernel
theorem dX4_skylines_26 : decode cX4_skylines 26 = .ok (.getfield 16, 3) := by decide +kernel
theorem dX4_skylines_29 : decode cX4_skylines 29 = .ok (.invokestatic 76, 3) := by decide +kernel
theorem dX4_skylines_32 : decode cX4_skylines 32 = .ok (.iconst 0, 1) := by decide +kernel
theorem dX4_skylines_33 : decode cX4_skylines 33 = .ok (.istore_n 3, 1) := by decide +kernel
theorem dX4_skylines_34 : decode cX4_skylines 34 = .ok (.iconst 0, 1) := by decide +kernel
theorem dX4_skylines_35 : decode cX4_skylines 35 = .ok (.istore 4, 2) := by decide +kernel
theorem dX4_skylines_37 : decode cX4_skylines 37 = .ok (.iload 4, 2) := by decide +kernel
theorem dX4_skylines_39 : decode cX4_skylines 39 = .ok (.iload_n 2, 1) := by decide +kernel
theorem dX4_skylines_40 : decode cX4_skylines 40 = .ok (.if_icmp .ge 29, 3) := by decide +kernel
theorem dX4_skylines_43 : decode cX4_skylines 43 = .ok (.iload_n 3, 1) := by decide +kernel
theorem dX4_skylines_44 : decode cX4_skylines 44 = .ok (.aload_n 0, 1) := by decide +kernel
theorem dX4_skylines_45 : decode cX4_skylines 45 = .ok (.iload_n 1, 1) := by decide +kernel
theorem dX4_skylines_46 : decode cX4_skylines 46 = .ok (.invokevirtual 153, 3) := by decide +kernel
theorem dX4_skylines_49 : decode cX4_skylines 49 = .ok (.ifCond .eq 7, 3) := by decide +kernel
theorem dX4_skylines_52 : decode cX4_skylines 52 = .ok (.iconst 1, 1) := by decide +kernel
theorem dX4_skylines_53 : decode cX4_skylines 53 = .ok (.goto 4, 3) := by decide +kernel
theorem dX4_skylines_56 : decode cX4_skylines 56 = .ok (.iconst 0, 1) := by decide +kernel
theorem dX4_skylines_57 : decode cX4_skylines 57 = .ok (.iadd, 1) := by decide +kernel
theorem dX4_skylines_58 : decode cX4_skylines 58 = .ok (.istore_n 3, 1) := by decide +kernel
theorem dX4_skylines_59 : decode cX4_skylines 59 = .ok (.aload_n 0, 1) := by decide +kernel
theorem dX4_skylines_60 : decode cX4_skylines 60 = .ok (.invokevirtual 162, 3) := by decide +kernel
theorem dX4_skylines_63 : decode cX4_skylines 63 = .ok (.iinc 4 1, 3) := by decide +kernel
theorem dX4_skylines_66 : decode cX4_skylines 66 = .ok (.goto (-29), 3) := by decide +kernel
theorem dX4_skylines_69 : decode cX4_skylines 69 = .ok (.aload_n 0, 1) := by decide +kernel
theorem dX4_skylines_70 : decode cX4_skylines 70 = .ok (.iload_n 3, 1) := by decide +kernel
theorem dX4_skylines_71 : decode cX4_skylines 71 = .ok (.invokevirtual 184, 3) := by decide +kernel
theorem dX4_skylines_74 : decode cX4_skylines 74 = .ok (.ireturn, 1) := by decide +kernel
theorem dX4_wallflowers_0 : decode cX4_wallflowers 0 = .ok (.iload_n 1, 1) := by decide +kernel
theorem dX4_wallflowers_1 : decode cX4_wallflowers 1 = .ok (.invokestatic 204, 3) := by decide +kernel
theorem dX4_wallflowers_4 : decode cX4_wallflowers 4 = .ok (.ifCond .ne 10, 3) := by decide +kernel
theorem dX4_wallflowers_7 : decode cX4_wallflowers 7 = .ok (.aload_n 0, 1) := by decide +kernel
theorem dX4_wallflowers_8 : decode cX4_wallflowers 8 = .ok (.ldc 75, 2) := by decide +kernel
theorem dX4_wallflowers_10 : decode cX4_wallflowers 10 = .ok (.invokevirtual 81, 3) := by decide +kernel
theorem dX4_wallflowers_13 : decode cX4_wallflowers 13 = .ok (.ireturn, 1) := by decide +kernel
theorem dX4_wallflowers_14 : decode cX4_wallflowers 14 = .ok (.aload_n 0, 1) := by decide +kernel
theorem dX4_wallflowers_15 : decode cX4_wallflowers 15 = .ok (.getfield 9, 3) := by decide +kernel
theorem dX4_wallflowers_18 : decode cX4_wallflowers 18 = .ok (.aload_n 0, 1) := by decide +kernel
theorem dX4_wallflowers_19 : decode cX4_wallflowers 19 = .ok (.getfield 16, 3) := by decide +kernel
theorem dX4_wallflowers_22 : decode cX4_wallflowers 22 = .ok (.invokestatic 76, 3) := by decide +kernel
theorem dX4_wallflowers_25 : decode cX4_wallflowers 25 = .ok (.iconst 0, 1) := by decide +kernel
theorem dX4_wallflowers_26 : decode cX4_wallflowers 26 = .ok (.istore_n 2, 1) := by decide +kernel
theorem dX4_wallflowers_27 : decode cX4_wallflowers 27 = .ok (.iconst 0, 1) := by decide +kernel
theorem dX4_wallflowers_28 : decode cX4_wallflowers 28 = .ok (.istore_n 3, 1) := by decide +kernel
theorem dX4_wallflowers_29 : decode cX4_wallflowers 29 = .ok (.iload_n 3, 1) := by decide +kernel
theorem dX4_wallflowers_30 : decode cX4_wallflowers 30 = .ok (.iload_n 1, 1) := by decide +kernel
theorem dX4_wallflowers_31 : decode cX4_wallflowers 31 = .ok (.if_icmp .ge 20, 3) := by decide +kernel
theorem dX4_wallflowers_34 : decode cX4_wallflowers 34 = .ok (.iload_n 2, 1) := by decide +kernel
theorem dX4_wallflowers_35 : decode cX4_wallflowers 35 = .ok (.aload_n 0, 1) := by decide +kernel
theorem dX4_wallflowers_36 : decode cX4_wallflowers 36 = .ok (.invokevirtual 171, 3) := by decide +kernel
theorem dX4_wallflowers_39 : decode cX4_wallflowers 39 = .ok (.ior, 1) := by decide +kernel
theorem dX4_wallflowers_40 : decode cX4_wallflowers 40 = .ok (.istore_n 2, 1) := by decide +kernel
theorem dX4_wallflowers_41 : decode cX4_wallflowers 41 = .ok (.aload_n 0, 1) := by decide +kernel
theorem dX4_wallflowers_42 : decode cX4_wallflowers 42 = .ok (.invokevirtual 162, 3) := by decide +kernel
theorem dX4_wallflowers_45 : decode cX4_wallflowers 45 = .ok (.iinc 3 1, 3) := by decide +kernel
theorem dX4_wallflowers_48 : decode cX4_wallflowers 48 = .ok (.goto (-19), 3) := by decide +kernel
theorem dX4_wallflowers_51 : decode cX4_wallflowers 51 = .ok (.aload_n 0, 1) := by decide +kernel
theorem dX4_wallflowers_52 : decode cX4_wallflowers 52 = .ok (.iconst 1, 1) := by decide +kernel
theorem dX4_wallflowers_53 : decode cX4_wallflowers 53 = .ok (.aload_n 0, 1) := by decide +kernel
theorem dX4_wallflowers_54 : decode cX4_wallflowers 54 = .ok (.getfield 9, 3) := by decide +kernel
theorem dX4_wallflowers_57 : decode cX4_wallflowers 57 = .ok (.iconst 1, 1) := by decide +kernel
theorem dX4_wallflowers_58 : decode cX4_wallflowers 58 = .ok (.iaload, 1) := by decide +kernel
theorem dX4_wallflowers_59 : decode cX4_wallflowers 59 = .ok (.ishl, 1) := by decide +kernel
theorem dX4_wallflowers_60 : decode cX4_wallflowers 60 = .ok (.iconst 1, 1) := by decide +kernel
theorem dX4_wallflowers_61 : decode cX4_wallflowers 61 = .ok (.isub, 1) := by decide +kernel
theorem dX4_wallflowers_62 : decode cX4_wallflowers 62 = .ok (.iload_n 2, 1) := by decide +kernel
theorem dX4_wallflowers_63 : decode cX4_wallflowers 63 = .ok (.iconst (-1), 1) := by decide +kernel
theorem dX4_wallflowers_64 : decode cX4_wallflowers 64 = .ok (.ixor, 1) := by decide +kernel
theorem dX4_wallflowers_65 : decode cX4_wallflowers 65 = .ok (.iand, 1) := by decide +kernel
theorem dX4_wallflowers_66 : decode cX4_wallflowers 66 = .ok (.invokevirtual 184, 3) := by decide +kernel
theorem dX4_wallflowers_69 : decode cX4_wallflowers 69 = .ok (.ireturn, 1) := by decide +kernel
theorem dX4_soonest_0 : decode cX4_soonest 0 = .ok (.aload_n 0, 1) := by decide +kernel
theorem dX4_soonest_1 : decode cX4_soonest 1 = .ok (.iload_n 1, 1) := by decide +kernel
theorem dX4_soonest_2 : decode cX4_soonest 2 = .ok (.iload_n 3, 1) := by decide +kernel
theorem dX4_soonest_3 : decode cX4_soonest 3 = .ok (.invokevirtual 108, 3) := by decide +kernel
theorem dX4_soonest_6 : decode cX4_soonest 6 = .ok (.istore 6, 2) := by decide +kernel
theorem dX4_soonest_8 : decode cX4_soonest 8 = .ok (.ldc 207, 2) := by decide +kernel
theorem dX4_soonest_10 : decode cX4_soonest 10 = .ok (.istore 7, 2) := by decide +kernel
theorem dX4_soonest_12 : decode cX4_soonest 12 = .ok (.sipush 201, 3) := by decide +kernel
theorem dX4_soonest_15 : decode cX4_soonest 15 = .ok (.istore 8, 2) := by decide +kernel
theorem dX4_soonest_17 : decode cX4_soonest 17 = .ok (.iload 4, 2) := by decide +kernel
theorem dX4_soonest_19 : decode cX4_soonest 19 = .ok (.istore 9, 2) := by decide +kernel
theorem dX4_soonest_21 : decode cX4_soonest 21 = .ok (.iload 9, 2) := by decide +kernel
theorem dX4_soonest_23 : decode cX4_soonest 23 = .ok (.iload 5, 2) := by decide +kernel
theorem dX4_soonest_25 : decode cX4_soonest 25 = .ok (.if_icmp .gt 59, 3) := by decide +kernel
theorem dX4_soonest_28 : decode cX4_soonest 28 = .ok (.aload_n 0, 1) := by decide +kernel
theorem dX4_soonest_29 : decode cX4_soonest 29 = .ok (.getfield 9, 3) := by decide +kernel
theorem dX4_soonest_32 : decode cX4_soonest 32 = .ok (.iload_n 1, 1) := by decide +kernel
theorem dX4_soonest_33 : decode cX4_soonest 33 = .ok (.iload_n 3, 1) := by decide +kernel
theorem dX4_soonest_34 : decode cX4_soonest 34 = .ok (.invokestatic 93, 3) := by decide +kernel
theorem dX4_soonest_37 : decode cX4_soonest 37 = .ok (.iload 9, 2) := by decide +kernel
theorem dX4_soonest_39 : decode cX4_soonest 39 = .ok (.iastore, 1) := by decide +kernel
theorem dX4_soonest_40 : decode cX4_soonest 40 = .ok (.aload_n 0, 1) := by decide +kernel
theorem dX4_soonest_41 : decode cX4_soonest 41 = .ok (.iload_n 1, 1) := by decide +kernel
theorem dX4_soonest_42 : decode cX4_soonest 42 = .ok (.iload_n 2, 1) := by decide +kernel
theorem dX4_soonest_43 : decode cX4_soonest 43 = .ok (.iload 8, 2) := by decide +kernel
theorem dX4_soonest_45 : decode cX4_soonest 45 = .ok (.invokevirtual 196, 3) := by decide +kernel
theorem dX4_soonest_48 : decode cX4_soonest 48 = .ok (.istore 10, 2) := by decide +kernel
theorem dX4_soonest_50 : decode cX4_soonest 50 = .ok (.iload 10, 2) := by decide +kernel
theorem dX4_soonest_52 : decode cX4_soonest 52 = .ok (.ifCond .lt 8, 3) := by decide +kernel
theorem dX4_soonest_55 : decode cX4_soonest 55 = .ok (.iload 9, 2) := by decide +kernel
theorem dX4_soonest_57 : decode cX4_soonest 57 = .ok (.goto 5, 3) := by decide +kernel
theorem dX4_soonest_60 : decode cX4_soonest 60 = .ok (.iload 7, 2) := by decide +kernel
theorem dX4_soonest_62 : decode cX4_soonest 62 = .ok (.istore 7, 2) := by decide +kernel
theorem dX4_soonest_64 : decode cX4_soonest 64 = .ok (.iload 10, 2) := by decide +kernel
theorem dX4_soonest_66 : decode cX4_soonest 66 = .ok (.ifCond .lt 8, 3) := by decide +kernel
theorem dX4_soonest_69 : decode cX4_soonest 69 = .ok (.iload 10, 2) := by decide +kernel
theorem dX4_soonest_71 : decode cX4_soonest 71 = .ok (.goto 5, 3) := by decide +kernel
theorem dX4_soonest_74 : decode cX4_soonest 74 = .ok (.iload 8, 2) := by decide +kernel
theorem dX4_soonest_76 : decode cX4_soonest 76 = .ok (.istore 8, 2) := by decide +kernel
theorem dX4_soonest_78 : decode cX4_soonest 78 = .ok (.iinc 9 1, 3) := by decide +kernel
theorem dX4_soonest_81 : decode cX4_soonest 81 = .ok (.goto (-60), 3) := by decide +kernel
theorem dX4_soonest_84 : decode cX4_soonest 84 = .ok (.aload_n 0, 1) := by decide +kernel
theorem dX4_soonest_85 : decode cX4_soonest 85 = .ok (.getfield 9, 3) := by decide +kernel
theorem dX4_soonest_88 : decode cX4_soonest 88 = .ok (.iload_n 1, 1) := by decide +kernel
theorem dX4_soonest_89 : decode cX4_soonest 89 = .ok (.iload_n 3, 1) := by decide +kernel
theorem dX4_soonest_90 : decode cX4_soonest 90 = .ok (.invokestatic 93, 3) := by decide +kernel
theorem dX4_soonest_93 : decode cX4_soonest 93 = .ok (.iload 6, 2) := by decide +kernel
theorem dX4_soonest_95 : decode cX4_soonest 95 = .ok (.iastore, 1) := by decide +kernel
theorem dX4_soonest_96 : decode cX4_soonest 96 = .ok (.iload 7, 2) := by decide +kernel
theorem dX4_soonest_98 : decode cX4_soonest 98 = .ok (.ldc 207, 2) := by decide +kernel
theorem dX4_soonest_100 : decode cX4_soonest 100 = .ok (.if_icmp .ne 12, 3) := by decide +kernel
theorem dX4_soonest_103 : decode cX4_soonest 103 = .ok (.aload_n 0, 1) := by decide +kernel
theorem dX4_soonest_104 : decode cX4_soonest 104 = .ok (.ldc 80, 2) := by decide +kernel
theorem dX4_soonest_106 : decode cX4_soonest 106 = .ok (.invokevirtual 81, 3) := by decide +kernel
theorem dX4_soonest_109 : decode cX4_soonest 109 = .ok (.goto 5, 3) := by decide +kernel
theorem dX4_soonest_112 : decode cX4_soonest 112 = .ok (.iload 7, 2) := by decide +kernel
theorem dX4_soonest_114 : decode cX4_soonest 114 = .ok (.ireturn, 1) := by decide +kernel
theorem dX4_stand_0 : decode cX4_stand 0 = .ok (.aload_n 0, 1) := by decide +kernel
theorem dX4_stand_1 : decode cX4_stand 1 = .ok (.iload_n 1, 1) := by decide +kernel
theorem dX4_stand_2 : decode cX4_stand 2 = .ok (.iload_n 2, 1) := by decide +kernel
theorem dX4_stand_3 : decode cX4_stand 3 = .ok (.invokevirtual 193, 3) := by decide +kernel
theorem dX4_stand_6 : decode cX4_stand 6 = .ok (.ifCond .eq 16, 3) := by decide +kernel
theorem dX4_stand_9 : decode cX4_stand 9 = .ok (.aload_n 0, 1) := by decide +kernel
theorem dX4_stand_10 : decode cX4_stand 10 = .ok (.iload_n 1, 1) := by decide +kernel
theorem dX4_stand_11 : decode cX4_stand 11 = .ok (.iload_n 2, 1) := by decide +kernel
theorem dX4_stand_12 : decode cX4_stand 12 = .ok (.iconst 1, 1) := by decide +kernel
theorem dX4_stand_13 : decode cX4_stand 13 = .ok (.iconst 0, 1) := by decide +kernel
theorem dX4_stand_14 : decode cX4_stand 14 = .ok (.bipush 11, 2) := by decide +kernel
theorem dX4_stand_16 : decode cX4_stand 16 = .ok (.invokevirtual 208, 3) := by decide +kernel
theorem dX4_stand_19 : decode cX4_stand 19 = .ok (.goto 9, 3) := by decide +kernel
theorem dX4_stand_22 : decode cX4_stand 22 = .ok (.aload_n 0, 1) := by decide +kernel
theorem dX4_stand_23 : decode cX4_stand 23 = .ok (.ldc 75, 2) := by decide +kernel
theorem dX4_stand_25 : decode cX4_stand 25 = .ok (.invokevirtual 81, 3) := by decide +kernel
theorem dX4_stand_28 : decode cX4_stand 28 = .ok (.ireturn, 1) := by decide +kernel
theorem dX4_stepFor_0 : decode cX4_stepFor 0 = .ok (.aload_n 0, 1) := by decide +kernel
theorem dX4_stepFor_1 : decode cX4_stepFor 1 = .ok (.iload_n 1, 1) := by decide +kernel
theorem dX4_stepFor_2 : decode cX4_stepFor 2 = .ok (.iload_n 2, 1) := by decide +kernel
theorem dX4_stepFor_3 : decode cX4_stepFor 3 = .ok (.invokevirtual 193, 3) := by decide +kernel
theorem dX4_stepFor_6 : decode cX4_stepFor 6 = .ok (.ifCond .eq 16, 3) := by decide +kernel
theorem dX4_stepFor_9 : decode cX4_stepFor 9 = .ok (.aload_n 0, 1) := by decide +kernel
theorem dX4_stepFor_10 : decode cX4_stepFor 10 = .ok (.iload_n 1, 1) := by decide +kernel
theorem dX4_stepFor_11 : decode cX4_stepFor 11 = .ok (.iload_n 2, 1) := by decide +kernel
theorem dX4_stepFor_12 : decode cX4_stepFor 12 = .ok (.iconst 2, 1) := by decide +kernel
theorem dX4_stepFor_13 : decode cX4_stepFor 13 = .ok (.bipush (-5), 2) := by decide +kernel
theorem dX4_stepFor_15 : decode cX4_stepFor 15 = .ok (.iconst 5, 1) := by decide +kernel
theorem dX4_stepFor_16 : decode cX4_stepFor 16 = .ok (.invokevirtual 208, 3) := by decide +kernel
theorem dX4_stepFor_19 : decode cX4_stepFor 19 = .ok (.goto 9, 3) := by decide +kernel
theorem dX4_stepFor_22 : decode cX4_stepFor 22 = .ok (.aload_n 0, 1) := by decide +kernel
theorem dX4_stepFor_23 : decode cX4_stepFor 23 = .ok (.ldc 75, 2) := by decide +kernel
theorem dX4_stepFor_25 : decode cX4_stepFor 25 = .ok (.invokevirtual 81, 3) := by decide +kernel
theorem dX4_stepFor_28 : decode cX4_stepFor 28 = .ok (.ireturn, 1) := by decide +kernel
theorem dX4_turnFor_0 : decode cX4_turnFor 0 = .ok (.aload_n 0, 1) := by decide +kernel
theorem dX4_turnFor_1 : decode cX4_turnFor 1 = .ok (.iload_n 1, 1) := by decide +kernel
theorem dX4_turnFor_2 : decode cX4_turnFor 2 = .ok (.iload_n 2, 1) := by decide +kernel
theorem dX4_turnFor_3 : decode cX4_turnFor 3 = .ok (.invokevirtual 193, 3) := by decide +kernel
theorem dX4_turnFor_6 : decode cX4_turnFor 6 = .ok (.ifCond .eq 15, 3) := by decide +kernel
theorem dX4_turnFor_9 : decode cX4_turnFor 9 = .ok (.aload_n 0, 1) := by decide +kernel
theorem dX4_turnFor_10 : decode cX4_turnFor 10 = .ok (.iload_n 1, 1) := by decide +kernel
theorem dX4_turnFor_11 : decode cX4_turnFor 11 = .ok (.iload_n 2, 1) := by decide +kernel
theorem dX4_turnFor_12 : decode cX4_turnFor 12 = .ok (.iconst 3, 1) := by decide +kernel
theorem dX4_turnFor_13 : decode cX4_turnFor 13 = .ok (.iconst 0, 1) := by decide +kernel
theorem dX4_turnFor_14 : decode cX4_turnFor 14 = .ok (.iconst 3, 1) := by decide +kernel
theorem dX4_turnFor_15 : decode cX4_turnFor 15 = .ok (.invokevirtual 208, 3) := by decide +kernel
theorem dX4_turnFor_18 : decode cX4_turnFor 18 = .ok (.goto 9, 3) := by decide +kernel
theorem dX4_turnFor_21 : decode cX4_turnFor 21 = .ok (.aload_n 0, 1) := by decide +kernel
theorem dX4_turnFor_22 : decode cX4_turnFor 22 = .ok (.ldc 75, 2) := by decide +kernel
theorem dX4_turnFor_24 : decode cX4_turnFor 24 = .ok (.invokevirtual 81, 3) := by decide +kernel
theorem dX4_turnFor_27 : decode cX4_turnFor 27 = .ok (.ireturn, 1) := by decide +kernel
theorem dX4_isGo_0 : decode cX4_isGo 0 = .ok (.iload_n 0, 1) := by decide +kernel
theorem dX4_isGo_1 : decode cX4_isGo 1 = .ok (.iconst 0, 1) := by decide +kernel
theorem dX4_isGo_2 : decode cX4_isGo 2 = .ok (.bipush 60, 2) := by decide +kernel
theorem dX4_isGo_4 : decode cX4_isGo 4 = .ok (.invokestatic 85, 3) := by decide +kernel
theorem dX4_isGo_7 : decode cX4_isGo 7 = .ok (.ireturn, 1) := by decide +kernel
theorem dX4_behind_0 : decode cX4_behind 0 = .ok (.aload_n 0, 1) := by decide +kernel
theorem dX4_behind_1 : decode cX4_behind 1 = .ok (.getfield 9, 3) := by decide +kernel
theorem dX4_behind_4 : decode cX4_behind 4 = .ok (.aload_n 0, 1) := by decide +kernel
theorem dX4_behind_5 : decode cX4_behind 5 = .ok (.getfield 16, 3) := by decide +kernel
theorem dX4_behind_8 : decode cX4_behind 8 = .ok (.invokestatic 76, 3) := by decide +kernel
theorem dX4_behind_11 : decode cX4_behind 11 = .ok (.aload_n 0, 1) := by decide +kernel
theorem dX4_behind_12 : decode cX4_behind 12 = .ok (.iload_n 3, 1) := by decide +kernel
theorem dX4_behind_13 : decode cX4_behind 13 = .ok (.invokevirtual 167, 3) := by decide +kernel
theorem dX4_behind_16 : decode cX4_behind 16 = .ok (.aload_n 0, 1) := by decide +kernel
theorem dX4_behind_17 : decode cX4_behind 17 = .ok (.aload_n 0, 1) := by decide +kernel
theorem dX4_behind_18 : decode cX4_behind 18 = .ok (.iload_n 1, 1) := by decide +kernel
theorem dX4_behind_19 : decode cX4_behind 19 = .ok (.iload_n 2, 1) := by decide +kernel
theorem dX4_behind_20 : decode cX4_behind 20 = .ok (.invokevirtual 108, 3) := by decide +kernel
theorem dX4_behind_23 : decode cX4_behind 23 = .ok (.invokevirtual 184, 3) := by decide +kernel
theorem dX4_behind_26 : decode cX4_behind 26 = .ok (.ireturn, 1) := by decide +kernel
theorem dX4_kindFor_0 : decode cX4_kindFor 0 = .ok (.aload_n 0, 1) := by decide +kernel
theorem dX4_kindFor_1 : decode cX4_kindFor 1 = .ok (.iload_n 1, 1) := by decide +kernel
theorem dX4_kindFor_2 : decode cX4_kindFor 2 = .ok (.invokevirtual 135, 3) := by decide +kernel
theorem dX4_kindFor_5 : decode cX4_kindFor 5 = .ok (.ifCond .eq 10, 3) := by decide +kernel
theorem dX4_kindFor_8 : decode cX4_kindFor 8 = .ok (.iload_n 2, 1) := by decide +kernel
theorem dX4_kindFor_9 : decode cX4_kindFor 9 = .ok (.invokestatic 211, 3) := by decide +kernel
theorem dX4_kindFor_12 : decode cX4_kindFor 12 = .ok (.ifCond .ne 10, 3) := by decide +kernel
theorem dX4_kindFor_15 : decode cX4_kindFor 15 = .ok (.aload_n 0, 1) := by decide +kernel
theorem dX4_kindFor_16 : decode cX4_kindFor 16 = .ok (.ldc 75, 2) := by decide +kernel
theorem dX4_kindFor_18 : decode cX4_kindFor 18 = .ok (.invokevirtual 81, 3) := by decide +kernel
theorem dX4_kindFor_21 : decode cX4_kindFor 21 = .ok (.ireturn, 1) := by decide +kernel
theorem dX4_kindFor_22 : decode cX4_kindFor 22 = .ok (.aload_n 0, 1) := by decide +kernel
theorem dX4_kindFor_23 : decode cX4_kindFor 23 = .ok (.iload_n 1, 1) := by decide +kernel
theorem dX4_kindFor_24 : decode cX4_kindFor 24 = .ok (.iconst 0, 1) := by decide +kernel
theorem dX4_kindFor_25 : decode cX4_kindFor 25 = .ok (.invokevirtual 108, 3) := by decide +kernel
theorem dX4_kindFor_28 : decode cX4_kindFor 28 = .ok (.istore_n 3, 1) := by decide +kernel
theorem dX4_kindFor_29 : decode cX4_kindFor 29 = .ok (.iconst 0, 1) := by decide +kernel
theorem dX4_kindFor_30 : decode cX4_kindFor 30 = .ok (.istore 4, 2) := by decide +kernel
theorem dX4_kindFor_32 : decode cX4_kindFor 32 = .ok (.iconst (-1), 1) := by decide +kernel
theorem dX4_kindFor_33 : decode cX4_kindFor 33 = .ok (.istore 5, 2) := by decide +kernel
theorem dX4_kindFor_35 : decode cX4_kindFor 35 = .ok (.iconst 0, 1) := by decide +kernel
theorem dX4_kindFor_36 : decode cX4_kindFor 36 = .ok (.istore 6, 2) := by decide +kernel
theorem dX4_kindFor_38 : decode cX4_kindFor 38 = .ok (.iload 6, 2) := by decide +kernel
theorem dX4_kindFor_40 : decode cX4_kindFor 40 = .ok (.bipush 6, 2) := by decide +kernel
theorem dX4_kindFor_42 : decode cX4_kindFor 42 = .ok (.if_icmp .gt 55, 3) := by decide +kernel
theorem dX4_kindFor_45 : decode cX4_kindFor 45 = .ok (.aload_n 0, 1) := by decide +kernel
theorem dX4_kindFor_46 : decode cX4_kindFor 46 = .ok (.getfield 9, 3) := by decide +kernel
theorem dX4_kindFor_49 : decode cX4_kindFor 49 = .ok (.iload_n 1, 1) := by decide +kernel
theorem dX4_kindFor_50 : decode cX4_kindFor 50 = .ok (.iconst 0, 1) := by decide +kernel
theorem dX4_kindFor_51 : decode cX4_kindFor 51 = .ok (.invokestatic 93, 3) := by decide +kernel
theorem dX4_kindFor_54 : decode cX4_kindFor 54 = .ok (.iload 6, 2) := by decide +kernel
theorem dX4_kindFor_56 : decode cX4_kindFor 56 = .ok (.iastore, 1) := by decide +kernel
theorem dX4_kindFor_57 : decode cX4_kindFor 57 = .ok (.aload_n 0, 1) := by decide +kernel
theorem dX4_kindFor_58 : decode cX4_kindFor 58 = .ok (.iload_n 1, 1) := by decide +kernel
theorem dX4_kindFor_59 : decode cX4_kindFor 59 = .ok (.iconst 5, 1) := by decide +kernel
theorem dX4_kindFor_60 : decode cX4_kindFor 60 = .ok (.iload_n 2, 1) := by decide +kernel
theorem dX4_kindFor_61 : decode cX4_kindFor 61 = .ok (.invokevirtual 214, 3) := by decide +kernel
theorem dX4_kindFor_64 : decode cX4_kindFor 64 = .ok (.istore 7, 2) := by decide +kernel
theorem dX4_kindFor_66 : decode cX4_kindFor 66 = .ok (.iload 7, 2) := by decide +kernel
theorem dX4_kindFor_68 : decode cX4_kindFor 68 = .ok (.iload 5, 2) := by decide +kernel
theorem dX4_kindFor_70 : decode cX4_kindFor 70 = .ok (.if_icmp .le 8, 3) := by decide +kernel
theorem dX4_kindFor_73 : decode cX4_kindFor 73 = .ok (.iload 6, 2) := by decide +kernel
theorem dX4_kindFor_75 : decode cX4_kindFor 75 = .ok (.goto 5, 3) := by decide +kernel
theorem dX4_kindFor_78 : decode cX4_kindFor 78 = .ok (.iload 4, 2) := by decide +kernel
theorem dX4_kindFor_80 : decode cX4_kindFor 80 = .ok (.istore 4, 2) := by decide +kernel
theorem dX4_kindFor_82 : decode cX4_kindFor 82 = .ok (.iload 5, 2) := by decide +kernel
theorem dX4_kindFor_84 : decode cX4_kindFor 84 = .ok (.iload 7, 2) := by decide +kernel
theorem dX4_kindFor_86 : decode cX4_kindFor 86 = .ok (.invokestatic 148, 3) := by decide +kernel
theorem dX4_kindFor_89 : decode cX4_kindFor 89 = .ok (.istore 5, 2) := by decide +kernel
theorem dX4_kindFor_91 : decode cX4_kindFor 91 = .ok (.iinc 6 1, 3) := by decide +kernel
theorem dX4_kindFor_94 : decode cX4_kindFor 94 = .ok (.goto (-56), 3) := by decide +kernel
theorem dX4_kindFor_97 : decode cX4_kindFor 97 = .ok (.aload_n 0, 1) := by decide +kernel
theorem dX4_kindFor_98 : decode cX4_kindFor 98 = .ok (.getfield 9, 3) := by decide +kernel
theorem dX4_kindFor_101 : decode cX4_kindFor 101 = .ok (.iload_n 1, 1) := by decide +kernel
theorem dX4_kindFor_102 : decode cX4_kindFor 102 = .ok (.iconst 0, 1) := by decide +kernel
theorem dX4_kindFor_103 : decode cX4_kindFor 103 = .ok (.invokestatic 93, 3) := by decide +kernel
theorem dX4_kindFor_106 : decode cX4_kindFor 106 = .ok (.iload_n 3, 1) := by decide +kernel
theorem dX4_kindFor_107 : decode cX4_kindFor 107 = .ok (.iastore, 1) := by decide +kernel
theorem dX4_kindFor_108 : decode cX4_kindFor 108 = .ok (.iload 4, 2) := by decide +kernel
theorem dX4_kindFor_110 : decode cX4_kindFor 110 = .ok (.ireturn, 1) := by decide +kernel
theorem dX4_rainFor_0 : decode cX4_rainFor 0 = .ok (.aload_n 0, 1) := by decide +kernel
theorem dX4_rainFor_1 : decode cX4_rainFor 1 = .ok (.iload_n 1, 1) := by decide +kernel
theorem dX4_rainFor_2 : decode cX4_rainFor 2 = .ok (.invokevirtual 135, 3) := by decide +kernel
theorem dX4_rainFor_5 : decode cX4_rainFor 5 = .ok (.ifCond .eq 17, 3) := by decide +kernel
theorem dX4_rainFor_8 : decode cX4_rainFor 8 = .ok (.iload_n 2, 1) := by decide +kernel
theorem dX4_rainFor_9 : decode cX4_rainFor 9 = .ok (.invokestatic 141, 3) := by decide +kernel
theorem dX4_rainFor_12 : decode cX4_rainFor 12 = .ok (.ifCond .eq 10, 3) := by decide +kernel
theorem dX4_rainFor_15 : decode cX4_rainFor 15 = .ok (.iload_n 3, 1) := by decide +kernel
theorem dX4_rainFor_16 : decode cX4_rainFor 16 = .ok (.invokestatic 211, 3) := by decide +kernel
theorem dX4_rainFor_19 : decode cX4_rainFor 19 = .ok (.ifCond .ne 10, 3) := by decide +kernel
theorem dX4_rainFor_22 : decode cX4_rainFor 22 = .ok (.aload_n 0, 1) := by decide +kernel
theorem dX4_rainFor_23 : decode cX4_rainFor 23 = .ok (.ldc 75, 2) := by decide +kernel
theorem dX4_rainFor_25 : decode cX4_rainFor 25 = .ok (.invokevirtual 81, 3) := by decide +kernel
theorem dX4_rainFor_28 : decode cX4_rainFor 28 = .ok (.ireturn, 1) := by decide +kernel
theorem dX4_rainFor_29 : decode cX4_rainFor 29 = .ok (.aload_n 0, 1) := by decide +kernel
theorem dX4_rainFor_30 : decode cX4_rainFor 30 = .ok (.getfield 9, 3) := by decide +kernel
theorem dX4_rainFor_33 : decode cX4_rainFor 33 = .ok (.iconst 3, 1) := by decide +kernel
theorem dX4_rainFor_34 : decode cX4_rainFor 34 = .ok (.iaload, 1) := by decide +kernel
theorem dX4_rainFor_35 : decode cX4_rainFor 35 = .ok (.istore 4, 2) := by decide +kernel
theorem dX4_rainFor_37 : decode cX4_rainFor 37 = .ok (.iconst (-1), 1) := by decide +kernel
theorem dX4_rainFor_38 : decode cX4_rainFor 38 = .ok (.istore 5, 2) := by decide +kernel
theorem dX4_rainFor_40 : decode cX4_rainFor 40 = .ok (.bipush 9, 2) := by decide +kernel
theorem dX4_rainFor_42 : decode cX4_rainFor 42 = .ok (.istore 6, 2) := by decide +kernel
theorem dX4_rainFor_44 : decode cX4_rainFor 44 = .ok (.iload 6, 2) := by decide +kernel
theorem dX4_rainFor_46 : decode cX4_rainFor 46 = .ok (.ifCond .lt 37, 3) := by decide +kernel
theorem dX4_rainFor_49 : decode cX4_rainFor 49 = .ok (.aload_n 0, 1) := by decide +kernel
theorem dX4_rainFor_50 : decode cX4_rainFor 50 = .ok (.getfield 9, 3) := by decide +kernel
theorem dX4_rainFor_53 : decode cX4_rainFor 53 = .ok (.iconst 3, 1) := by decide +kernel
theorem dX4_rainFor_54 : decode cX4_rainFor 54 = .ok (.iload 6, 2) := by decide +kernel
theorem dX4_rainFor_56 : decode cX4_rainFor 56 = .ok (.iastore, 1) := by decide +kernel
theorem dX4_rainFor_57 : decode cX4_rainFor 57 = .ok (.aload_n 0, 1) := by decide +kernel
theorem dX4_rainFor_58 : decode cX4_rainFor 58 = .ok (.iload_n 1, 1) := by decide +kernel
theorem dX4_rainFor_59 : decode cX4_rainFor 59 = .ok (.iconst 4, 1) := by decide +kernel
theorem dX4_rainFor_60 : decode cX4_rainFor 60 = .ok (.iload_n 3, 1) := by decide +kernel
theorem dX4_rainFor_61 : decode cX4_rainFor 61 = .ok (.invokevirtual 214, 3) := by decide +kernel
theorem dX4_rainFor_64 : decode cX4_rainFor 64 = .ok (.iload_n 2, 1) := by decide +kernel
theorem dX4_rainFor_65 : decode cX4_rainFor 65 = .ok (.if_icmp .gt 8, 3) := by decide +kernel
theorem dX4_rainFor_68 : decode cX4_rainFor 68 = .ok (.iload 6, 2) := by decide +kernel
theorem dX4_rainFor_70 : decode cX4_rainFor 70 = .ok (.goto 5, 3) := by decide +kernel
theorem dX4_rainFor_73 : decode cX4_rainFor 73 = .ok (.iload 5, 2) := by decide +kernel
theorem dX4_rainFor_75 : decode cX4_rainFor 75 = .ok (.istore 5, 2) := by decide +kernel
theorem dX4_rainFor_77 : decode cX4_rainFor 77 = .ok (.iinc 6 (-1), 3) := by decide +kernel
theorem dX4_rainFor_80 : decode cX4_rainFor 80 = .ok (.goto (-36), 3) := by decide +kernel
theorem dX4_rainFor_83 : decode cX4_rainFor 83 = .ok (.aload_n 0, 1) := by decide +kernel
theorem dX4_rainFor_84 : decode cX4_rainFor 84 = .ok (.getfield 9, 3) := by decide +kernel
theorem dX4_rainFor_87 : decode cX4_rainFor 87 = .ok (.iconst 3, 1) := by decide +kernel
theorem dX4_rainFor_88 : decode cX4_rainFor 88 = .ok (.iload 4, 2) := by decide +kernel
theorem dX4_rainFor_90 : decode cX4_rainFor 90 = .ok (.iastore, 1) := by decide +kernel
theorem dX4_rainFor_91 : decode cX4_rainFor 91 = .ok (.aload_n 0, 1) := by decide +kernel
theorem dX4_rainFor_92 : decode cX4_rainFor 92 = .ok (.iload 5, 2) := by decide +kernel
theorem dX4_rainFor_94 : decode cX4_rainFor 94 = .ok (.invokevirtual 187, 3) := by decide +kernel
theorem dX4_rainFor_97 : decode cX4_rainFor 97 = .ok (.ireturn, 1) := by decide +kernel
theorem dX4_between_0 : decode cX4_between 0 = .ok (.iconst 0, 1) := by decide +kernel
theorem dX4_between_1 : decode cX4_between 1 = .ok (.istore 4, 2) := by decide +kernel
theorem dX4_between_3 : decode cX4_between 3 = .ok (.iload_n 1, 1) := by decide +kernel
theorem dX4_between_4 : decode cX4_between 4 = .ok (.iload_n 3, 1) := by decide +kernel
theorem dX4_between_5 : decode cX4_between 5 = .ok (.iadd, 1) := by decide +kernel
theorem dX4_between_6 : decode cX4_between 6 = .ok (.invokestatic 111, 3) := by decide +kernel
theorem dX4_between_9 : decode cX4_between 9 = .ok (.istore 5, 2) := by decide +kernel
theorem dX4_between_11 : decode cX4_between 11 = .ok (.iload 5, 2) := by decide +kernel
theorem dX4_between_13 : decode cX4_between 13 = .ok (.iload_n 2, 1) := by decide +kernel
theorem dX4_between_14 : decode cX4_between 14 = .ok (.if_icmp .eq 33, 3) := by decide +kernel
theorem dX4_between_17 : decode cX4_between 17 = .ok (.iload_n 1, 1) := by decide +kernel
theorem dX4_between_18 : decode cX4_between 18 = .ok (.iload_n 2, 1) := by decide +kernel
theorem dX4_between_19 : decode cX4_between 19 = .ok (.if_icmp .eq 28, 3) := by decide +kernel
theorem dX4_between_22 : decode cX4_between 22 = .ok (.iload 4, 2) := by decide +kernel
theorem dX4_between_24 : decode cX4_between 24 = .ok (.aload_n 0, 1) := by decide +kernel
theorem dX4_between_25 : decode cX4_between 25 = .ok (.iload 5, 2) := by decide +kernel
theorem dX4_between_27 : decode cX4_between 27 = .ok (.invokevirtual 156, 3) := by decide +kernel
theorem dX4_between_30 : decode cX4_between 30 = .ok (.invokestatic 148, 3) := by decide +kernel
theorem dX4_between_33 : decode cX4_between 33 = .ok (.istore 4, 2) := by decide +kernel
theorem dX4_between_35 : decode cX4_between 35 = .ok (.iload 5, 2) := by decide +kernel
theorem dX4_between_37 : decode cX4_between 37 = .ok (.iload_n 3, 1) := by decide +kernel
theorem dX4_between_38 : decode cX4_between 38 = .ok (.iadd, 1) := by decide +kernel
theorem dX4_between_39 : decode cX4_between 39 = .ok (.invokestatic 111, 3) := by decide +kernel
theorem dX4_between_42 : decode cX4_between 42 = .ok (.istore 5, 2) := by decide +kernel
theorem dX4_between_44 : decode cX4_between 44 = .ok (.goto (-33), 3) := by decide +kernel
theorem dX4_between_47 : decode cX4_between 47 = .ok (.iload 4, 2) := by decide +kernel
theorem dX4_between_49 : decode cX4_between 49 = .ok (.ireturn, 1) := by decide +kernel
theorem dX4_areEnds_0 : decode cX4_areEnds 0 = .ok (.iload_n 0, 1) := by decide +kernel
theorem dX4_areEnds_1 : decode cX4_areEnds 1 = .ok (.invokestatic 100, 3) := by decide +kernel
theorem dX4_areEnds_4 : decode cX4_areEnds 4 = .ok (.ifCond .eq 14, 3) := by decide +kernel
theorem dX4_areEnds_7 : decode cX4_areEnds 7 = .ok (.iload_n 1, 1) := by decide +kernel
theorem dX4_areEnds_8 : decode cX4_areEnds 8 = .ok (.invokestatic 100, 3) := by decide +kernel
theorem dX4_areEnds_11 : decode cX4_areEnds 11 = .ok (.ifCond .eq 7, 3) := by decide +kernel
theorem dX4_areEnds_14 : decode cX4_areEnds 14 = .ok (.iconst 1, 1) := by decide +kernel
theorem dX4_areEnds_15 : decode cX4_areEnds 15 = .ok (.goto 4, 3) := by decide +kernel
theorem dX4_areEnds_18 : decode cX4_areEnds 18 = .ok (.iconst 0, 1) := by decide +kernel
theorem dX4_areEnds_19 : decode cX4_areEnds 19 = .ok (.ireturn, 1) := by decide +kernel
theorem dX4_roadNow_0 : decode cX4_roadNow 0 = .ok (.aload_n 0, 1) := by decide +kernel
theorem dX4_roadNow_1 : decode cX4_roadNow 1 = .ok (.iload_n 1, 1) := by decide +kernel
theorem dX4_roadNow_2 : decode cX4_roadNow 2 = .ok (.iload_n 2, 1) := by decide +kernel
theorem dX4_roadNow_3 : decode cX4_roadNow 3 = .ok (.iconst 1, 1) := by decide +kernel
theorem dX4_roadNow_4 : decode cX4_roadNow 4 = .ok (.invokevirtual 217, 3) := by decide +kernel
theorem dX4_roadNow_7 : decode cX4_roadNow 7 = .ok (.iload_n 3, 1) := by decide +kernel
theorem dX4_roadNow_8 : decode cX4_roadNow 8 = .ok (.if_icmp .gt 12, 3) := by decide +kernel
theorem dX4_roadNow_11 : decode cX4_roadNow 11 = .ok (.iload_n 2, 1) := by decide +kernel
theorem dX4_roadNow_12 : decode cX4_roadNow 12 = .ok (.iload_n 1, 1) := by decide +kernel
theorem dX4_roadNow_13 : decode cX4_roadNow 13 = .ok (.isub, 1) := by decide +kernel
theorem dX4_roadNow_14 : decode cX4_roadNow 14 = .ok (.invokestatic 111, 3) := by decide +kernel
theorem dX4_roadNow_17 : decode cX4_roadNow 17 = .ok (.goto 5, 3) := by decide +kernel
theorem dX4_roadNow_20 : decode cX4_roadNow 20 = .ok (.bipush 12, 2) := by decide +kernel
theorem dX4_roadNow_22 : decode cX4_roadNow 22 = .ok (.istore 4, 2) := by decide +kernel
theorem dX4_roadNow_24 : decode cX4_roadNow 24 = .ok (.aload_n 0, 1) := by decide +kernel
theorem dX4_roadNow_25 : decode cX4_roadNow 25 = .ok (.iload_n 1, 1) := by decide +kernel
theorem dX4_roadNow_26 : decode cX4_roadNow 26 = .ok (.iload_n 2, 1) := by decide +kernel
theorem dX4_roadNow_27 : decode cX4_roadNow 27 = .ok (.iconst (-1), 1) := by decide +kernel
theorem dX4_roadNow_28 : decode cX4_roadNow 28 = .ok (.invokevirtual 217, 3) := by decide +kernel
theorem dX4_roadNow_31 : decode cX4_roadNow 31 = .ok (.iload_n 3, 1) := by decide +kernel
theorem dX4_roadNow_32 : decode cX4_roadNow 32 = .ok (.if_icmp .gt 12, 3) := by decide +kernel
theorem dX4_roadNow_35 : decode cX4_roadNow 35 = .ok (.iload_n 1, 1) := by decide +kernel
theorem dX4_roadNow_36 : decode cX4_roadNow 36 = .ok (.iload_n 2, 1) := by decide +kernel
theorem dX4_roadNow_37 : decode cX4_roadNow 37 = .ok (.isub, 1) := by decide +kernel
theorem dX4_roadNow_38 : decode cX4_roadNow 38 = .ok (.invokestatic 111, 3) := by decide +kernel
theorem dX4_roadNow_41 : decode cX4_roadNow 41 = .ok (.goto 5, 3) := by decide +kernel
theorem dX4_roadNow_44 : decode cX4_roadNow 44 = .ok (.bipush 12, 2) := by decide +kernel
theorem dX4_roadNow_46 : decode cX4_roadNow 46 = .ok (.istore 5, 2) := by decide +kernel
theorem dX4_roadNow_48 : decode cX4_roadNow 48 = .ok (.iload 4, 2) := by decide +kernel
theorem dX4_roadNow_50 : decode cX4_roadNow 50 = .ok (.iload 5, 2) := by decide +kernel
theorem dX4_roadNow_52 : decode cX4_roadNow 52 = .ok (.invokestatic 159, 3) := by decide +kernel
theorem dX4_roadNow_55 : decode cX4_roadNow 55 = .ok (.ireturn, 1) := by decide +kernel
theorem dX4_road_0 : decode cX4_road 0 = .ok (.iload_n 1, 1) := by decide +kernel
theorem dX4_road_1 : decode cX4_road 1 = .ok (.iload_n 2, 1) := by decide +kernel
theorem dX4_road_2 : decode cX4_road 2 = .ok (.invokestatic 220, 3) := by decide +kernel
theorem dX4_road_5 : decode cX4_road 5 = .ok (.ifCond .eq 10, 3) := by decide +kernel
theorem dX4_road_8 : decode cX4_road 8 = .ok (.iload_n 3, 1) := by decide +kernel
theorem dX4_road_9 : decode cX4_road 9 = .ok (.invokestatic 141, 3) := by decide +kernel
theorem dX4_road_12 : decode cX4_road 12 = .ok (.ifCond .ne 10, 3) := by decide +kernel
theorem dX4_road_15 : decode cX4_road 15 = .ok (.aload_n 0, 1) := by decide +kernel
theorem dX4_road_16 : decode cX4_road 16 = .ok (.ldc 75, 2) := by decide +kernel
theorem dX4_road_18 : decode cX4_road 18 = .ok (.invokevirtual 81, 3) := by decide +kernel
theorem dX4_road_21 : decode cX4_road 21 = .ok (.ireturn, 1) := by decide +kernel
theorem dX4_road_22 : decode cX4_road 22 = .ok (.aload_n 0, 1) := by decide +kernel
theorem dX4_road_23 : decode cX4_road 23 = .ok (.iload_n 1, 1) := by decide +kernel
theorem dX4_road_24 : decode cX4_road 24 = .ok (.iload_n 2, 1) := by decide +kernel
theorem dX4_road_25 : decode cX4_road 25 = .ok (.iload_n 3, 1) := by decide +kernel
theorem dX4_road_26 : decode cX4_road 26 = .ok (.invokevirtual 223, 3) := by decide +kernel
theorem dX4_road_29 : decode cX4_road 29 = .ok (.istore 4, 2) := by decide +kernel
theorem dX4_road_31 : decode cX4_road 31 = .ok (.iload 4, 2) := by decide +kernel
theorem dX4_road_33 : decode cX4_road 33 = .ok (.bipush 12, 2) := by decide +kernel
theorem dX4_road_35 : decode cX4_road 35 = .ok (.if_icmp .ne 12, 3) := by decide +kernel
theorem dX4_road_38 : decode cX4_road 38 = .ok (.aload_n 0, 1) := by decide +kernel
theorem dX4_road_39 : decode cX4_road 39 = .ok (.ldc 80, 2) := by decide +kernel
theorem dX4_road_41 : decode cX4_road 41 = .ok (.invokevirtual 81, 3) := by decide +kernel
theorem dX4_road_44 : decode cX4_road 44 = .ok (.goto 5, 3) := by decide +kernel
theorem dX4_road_47 : decode cX4_road 47 = .ok (.iload 4, 2) := by decide +kernel
theorem dX4_road_49 : decode cX4_road 49 = .ok (.ireturn, 1) := by decide +kernel
theorem dX4_climbNow_0 : decode cX4_climbNow 0 = .ok (.aload_n 0, 1) := by decide +kernel
theorem dX4_climbNow_1 : decode cX4_climbNow 1 = .ok (.iload_n 1, 1) := by decide +kernel
theorem dX4_climbNow_2 : decode cX4_climbNow 2 = .ok (.iload_n 2, 1) := by decide +kernel
theorem dX4_climbNow_3 : decode cX4_climbNow 3 = .ok (.iconst 1, 1) := by decide +kernel
theorem dX4_climbNow_4 : decode cX4_climbNow 4 = .ok (.invokevirtual 217, 3) := by decide +kernel
theorem dX4_climbNow_7 : decode cX4_climbNow 7 = .ok (.aload_n 0, 1) := by decide +kernel
theorem dX4_climbNow_8 : decode cX4_climbNow 8 = .ok (.iload_n 1, 1) := by decide +kernel
theorem dX4_climbNow_9 : decode cX4_climbNow 9 = .ok (.iload_n 2, 1) := by decide +kernel
theorem dX4_climbNow_10 : decode cX4_climbNow 10 = .ok (.iconst (-1), 1) := by decide +kernel
theorem dX4_climbNow_11 : decode cX4_climbNow 11 = .ok (.invokevirtual 217, 3) := by decide +kernel
theorem dX4_climbNow_14 : decode cX4_climbNow 14 = .ok (.invokestatic 159, 3) := by decide +kernel
theorem dX4_climbNow_17 : decode cX4_climbNow 17 = .ok (.ireturn, 1) := by decide +kernel
theorem dX4_climb_0 : decode cX4_climb 0 = .ok (.iload_n 1, 1) := by decide +kernel
theorem dX4_climb_1 : decode cX4_climb 1 = .ok (.iload_n 2, 1) := by decide +kernel
theorem dX4_climb_2 : decode cX4_climb 2 = .ok (.invokestatic 220, 3) := by decide +kernel
theorem dX4_climb_5 : decode cX4_climb 5 = .ok (.ifCond .eq 12, 3) := by decide +kernel
theorem dX4_climb_8 : decode cX4_climb 8 = .ok (.aload_n 0, 1) := by decide +kernel
theorem dX4_climb_9 : decode cX4_climb 9 = .ok (.iload_n 1, 1) := by decide +kernel
theorem dX4_climb_10 : decode cX4_climb 10 = .ok (.iload_n 2, 1) := by decide +kernel
theorem dX4_climb_11 : decode cX4_climb 11 = .ok (.invokevirtual 226, 3) := by decide +kernel
theorem dX4_climb_14 : decode cX4_climb 14 = .ok (.goto 9, 3) := by decide +kernel
theorem dX4_climb_17 : decode cX4_climb 17 = .ok (.aload_n 0, 1) := by decide +kernel
theorem dX4_climb_18 : decode cX4_climb 18 = .ok (.ldc 75, 2) := by decide +kernel
theorem dX4_climb_20 : decode cX4_climb 20 = .ok (.invokevirtual 81, 3) := by decide +kernel
theorem dX4_climb_23 : decode cX4_climb 23 = .ok (.ireturn, 1) := by decide +kernel
theorem dX4_openIn_0 : decode cX4_openIn 0 = .ok (.aload_n 0, 1) := by decide +kernel
theorem dX4_openIn_1 : decode cX4_openIn 1 = .ok (.getfield 9, 3) := by decide +kernel
theorem dX4_openIn_4 : decode cX4_openIn 4 = .ok (.aload_n 0, 1) := by decide +kernel
theorem dX4_openIn_5 : decode cX4_openIn 5 = .ok (.getfield 16, 3) := by decide +kernel
theorem dX4_openIn_8 : decode cX4_openIn 8 = .ok (.invokestatic 76, 3) := by decide +kernel
theorem dX4_openIn_11 : decode cX4_openIn 11 = .ok (.iconst 0, 1) := by decide +kernel
theorem dX4_openIn_12 : decode cX4_openIn 12 = .ok (.istore 5, 2) := by decide +kernel
theorem dX4_openIn_14 : decode cX4_openIn 14 = .ok (.iconst 0, 1) := by decide +kernel
theorem dX4_openIn_15 : decode cX4_openIn 15 = .ok (.istore 6, 2) := by decide +kernel
theorem dX4_openIn_17 : decode cX4_openIn 17 = .ok (.iload 6, 2) := by decide +kernel
theorem dX4_openIn_19 : decode cX4_openIn 19 = .ok (.iload 4, 2) := by decide +kernel
theorem dX4_openIn_21 : decode cX4_openIn 21 = .ok (.if_icmp .ge 33, 3) := by decide +kernel
theorem dX4_openIn_24 : decode cX4_openIn 24 = .ok (.iload 5, 2) := by decide +kernel
theorem dX4_openIn_26 : decode cX4_openIn 26 = .ok (.aload_n 0, 1) := by decide +kernel
theorem dX4_openIn_27 : decode cX4_openIn 27 = .ok (.iload_n 1, 1) := by decide +kernel
theorem dX4_openIn_28 : decode cX4_openIn 28 = .ok (.iload_n 2, 1) := by decide +kernel
theorem dX4_openIn_29 : decode cX4_openIn 29 = .ok (.invokevirtual 226, 3) := by decide +kernel
theorem dX4_openIn_32 : decode cX4_openIn 32 = .ok (.iload_n 3, 1) := by decide +kernel
theorem dX4_openIn_33 : decode cX4_openIn 33 = .ok (.if_icmp .gt 7, 3) := by decide +kernel
theorem dX4_openIn_36 : decode cX4_openIn 36 = .ok (.iconst 1, 1) := by decide +kernel
theorem dX4_openIn_37 : decode cX4_openIn 37 = .ok (.goto 4, 3) := by decide +kernel
theorem dX4_openIn_40 : decode cX4_openIn 40 = .ok (.iconst 0, 1) := by decide +kernel
theorem dX4_openIn_41 : decode cX4_openIn 41 = .ok (.iadd, 1) := by decide +kernel
theorem dX4_openIn_42 : decode cX4_openIn 42 = .ok (.istore 5, 2) := by decide +kernel
theorem dX4_openIn_44 : decode cX4_openIn 44 = .ok (.aload_n 0, 1) := by decide +kernel
theorem dX4_openIn_45 : decode cX4_openIn 45 = .ok (.invokevirtual 162, 3) := by decide +kernel
theorem dX4_openIn_48 : decode cX4_openIn 48 = .ok (.iinc 6 1, 3) := by decide +kernel
theorem dX4_openIn_51 : decode cX4_openIn 51 = .ok (.goto (-34), 3) := by decide +kernel
theorem dX4_openIn_54 : decode cX4_openIn 54 = .ok (.aload_n 0, 1) := by decide +kernel
theorem dX4_openIn_55 : decode cX4_openIn 55 = .ok (.iload 5, 2) := by decide +kernel
theorem dX4_openIn_57 : decode cX4_openIn 57 = .ok (.invokevirtual 184, 3) := by decide +kernel
theorem dX4_openIn_60 : decode cX4_openIn 60 = .ok (.ireturn, 1) := by decide +kernel
theorem dX4_open_0 : decode cX4_open 0 = .ok (.iload_n 1, 1) := by decide +kernel
theorem dX4_open_1 : decode cX4_open 1 = .ok (.iload_n 2, 1) := by decide +kernel
theorem dX4_open_2 : decode cX4_open 2 = .ok (.invokestatic 220, 3) := by decide +kernel
theorem dX4_open_5 : decode cX4_open 5 = .ok (.ifCond .eq 33, 3) := by decide +kernel
theorem dX4_open_8 : decode cX4_open 8 = .ok (.iload_n 3, 1) := by decide +kernel
theorem dX4_open_9 : decode cX4_open 9 = .ok (.invokestatic 141, 3) := by decide +kernel
theorem dX4_open_12 : decode cX4_open 12 = .ok (.ifCond .eq 26, 3) := by decide +kernel
theorem dX4_open_15 : decode cX4_open 15 = .ok (.iload 4, 2) := by decide +kernel
theorem dX4_open_17 : decode cX4_open 17 = .ok (.iconst 0, 1) := by decide +kernel
theorem dX4_open_18 : decode cX4_open 18 = .ok (.bipush 100, 2) := by decide +kernel
theorem dX4_open_20 : decode cX4_open 20 = .ok (.invokestatic 85, 3) := by decide +kernel
theorem dX4_open_23 : decode cX4_open 23 = .ok (.ifCond .eq 15, 3) := by decide +kernel
theorem dX4_open_26 : decode cX4_open 26 = .ok (.aload_n 0, 1) := by decide +kernel
theorem dX4_open_27 : decode cX4_open 27 = .ok (.iload_n 1, 1) := by decide +kernel
theorem dX4_open_28 : decode cX4_open 28 = .ok (.iload_n 2, 1) := by decide +kernel
theorem dX4_open_29 : decode cX4_open 29 = .ok (.iload_n 3, 1) := by decide +kernel
theorem dX4_open_30 : decode cX4_open 30 = .ok (.iload 4, 2) := by decide +kernel
theorem dX4_open_32 : decode cX4_open 32 = .ok (.invokevirtual 229, 3) := by decide +kernel
theorem dX4_open_35 : decode cX4_open 35 = .ok (.goto 9, 3) := by decide +kernel
theorem dX4_open_38 : decode cX4_open 38 = .ok (.aload_n 0, 1) := by decide +kernel
theorem dX4_open_39 : decode cX4_open 39 = .ok (.ldc 75, 2) := by decide +kernel
theorem dX4_open_41 : decode cX4_open 41 = .ok (.invokevirtual 81, 3) := by decide +kernel
theorem dX4_open_44 : decode cX4_open 44 = .ok (.ireturn, 1) := by decide +kernel
theorem dX4_lay_0 : decode cX4_lay 0 = .ok (.iload_n 1, 1) := by decide +kernel
theorem dX4_lay_1 : decode cX4_lay 1 = .ok (.invokestatic 100, 3) := by decide +kernel
theorem dX4_lay_4 : decode cX4_lay 4 = .ok (.ifCond .eq 17, 3) := by decide +kernel
theorem dX4_lay_7 : decode cX4_lay 7 = .ok (.iload_n 2, 1) := by decide +kernel
theorem dX4_lay_8 : decode cX4_lay 8 = .ok (.invokestatic 141, 3) := by decide +kernel
theorem dX4_lay_11 : decode cX4_lay 11 = .ok (.ifCond .eq 10, 3) := by decide +kernel
theorem dX4_lay_14 : decode cX4_lay 14 = .ok (.iload_n 3, 1) := by decide +kernel
theorem dX4_lay_15 : decode cX4_lay 15 = .ok (.invokestatic 211, 3) := by decide +kernel
theorem dX4_lay_18 : decode cX4_lay 18 = .ok (.ifCond .ne 10, 3) := by decide +kernel
theorem dX4_lay_21 : decode cX4_lay 21 = .ok (.aload_n 0, 1) := by decide +kernel
theorem dX4_lay_22 : decode cX4_lay 22 = .ok (.ldc 75, 2) := by decide +kernel
theorem dX4_lay_24 : decode cX4_lay 24 = .ok (.invokevirtual 81, 3) := by decide +kernel
theorem dX4_lay_27 : decode cX4_lay 27 = .ok (.ireturn, 1) := by decide +kernel
theorem dX4_lay_28 : decode cX4_lay 28 = .ok (.iconst (-1), 1) := by decide +kernel
theorem dX4_lay_29 : decode cX4_lay 29 = .ok (.istore 4, 2) := by decide +kernel
theorem dX4_lay_31 : decode cX4_lay 31 = .ok (.iconst (-1), 1) := by decide +kernel
theorem dX4_lay_32 : decode cX4_lay 32 = .ok (.istore 5, 2) := by decide +kernel
theorem dX4_lay_34 : decode cX4_lay 34 = .ok (.iconst 0, 1) := by decide +kernel
theorem dX4_lay_35 : decode cX4_lay 35 = .ok (.istore 6, 2) := by decide +kernel
theorem dX4_lay_37 : decode cX4_lay 37 = .ok (.iload 6, 2) := by decide +kernel
theorem dX4_lay_39 : decode cX4_lay 39 = .ok (.bipush 12, 2) := by decide +kernel
theorem dX4_lay_41 : decode cX4_lay 41 = .ok (.if_icmp .ge 55, 3) := by decide +kernel
theorem dX4_lay_44 : decode cX4_lay 44 = .ok (.iload 6, 2) := by decide +kernel
theorem dX4_lay_46 : decode cX4_lay 46 = .ok (.iload_n 1, 1) := by decide +kernel
theorem dX4_lay_47 : decode cX4_lay 47 = .ok (.if_icmp .ne 7, 3) := by decide +kernel
theorem dX4_lay_50 : decode cX4_lay 50 = .ok (.iconst (-1), 1) := by decide +kernel
theorem dX4_lay_51 : decode cX4_lay 51 = .ok (.goto 12, 3) := by decide +kernel
theorem dX4_lay_54 : decode cX4_lay 54 = .ok (.aload_n 0, 1) := by decide +kernel
theorem dX4_lay_55 : decode cX4_lay 55 = .ok (.iload_n 1, 1) := by decide +kernel
theorem dX4_lay_56 : decode cX4_lay 56 = .ok (.iload 6, 2) := by decide +kernel
theorem dX4_lay_58 : decode cX4_lay 58 = .ok (.iload_n 2, 1) := by decide +kernel
theorem dX4_lay_59 : decode cX4_lay 59 = .ok (.iload_n 3, 1) := by decide +kernel
theorem dX4_lay_60 : decode cX4_lay 60 = .ok (.invokevirtual 229, 3) := by decide +kernel
theorem dX4_lay_63 : decode cX4_lay 63 = .ok (.istore 7, 2) := by decide +kernel
theorem dX4_lay_65 : decode cX4_lay 65 = .ok (.iload 7, 2) := by decide +kernel
theorem dX4_lay_67 : decode cX4_lay 67 = .ok (.iload 5, 2) := by decide +kernel
theorem dX4_lay_69 : decode cX4_lay 69 = .ok (.if_icmp .le 8, 3) := by decide +kernel
theorem dX4_lay_72 : decode cX4_lay 72 = .ok (.iload 6, 2) := by decide +kernel
theorem dX4_lay_74 : decode cX4_lay 74 = .ok (.goto 5, 3) := by decide +kernel
theorem dX4_lay_77 : decode cX4_lay 77 = .ok (.iload 4, 2) := by decide +kernel
theorem dX4_lay_79 : decode cX4_lay 79 = .ok (.istore 4, 2) := by decide +kernel
theorem dX4_lay_81 : decode cX4_lay 81 = .ok (.iload 5, 2) := by decide +kernel
theorem dX4_lay_83 : decode cX4_lay 83 = .ok (.iload 7, 2) := by decide +kernel
theorem dX4_lay_85 : decode cX4_lay 85 = .ok (.invokestatic 148, 3) := by decide +kernel
theorem dX4_lay_88 : decode cX4_lay 88 = .ok (.istore 5, 2) := by decide +kernel
theorem dX4_lay_90 : decode cX4_lay 90 = .ok (.iinc 6 1, 3) := by decide +kernel
theorem dX4_lay_93 : decode cX4_lay 93 = .ok (.goto (-56), 3) := by decide +kernel
theorem dX4_lay_96 : decode cX4_lay 96 = .ok (.iload 4, 2) := by decide +kernel
theorem dX4_lay_98 : decode cX4_lay 98 = .ok (.ireturn, 1) := by decide +kernel
theorem dX4_lacks_0 : decode cX4_lacks 0 = .ok (.iload_n 1, 1) := by decide +kernel
theorem dX4_lacks_1 : decode cX4_lacks 1 = .ok (.invokestatic 233, 3) := by decide +kernel
theorem dX4_lacks_4 : decode cX4_lacks 4 = .ok (.ifCond .ne 8, 3) := by decide +kernel
theorem dX4_lacks_7 : decode cX4_lacks 7 = .ok (.ldc 75, 2) := by decide +kernel
theorem dX4_lacks_9 : decode cX4_lacks 9 = .ok (.goto 31, 3) := by decide +kernel
theorem dX4_lacks_12 : decode cX4_lacks 12 = .ok (.aload_n 0, 1) := by decide +kernel
theorem dX4_lacks_13 : decode cX4_lacks 13 = .ok (.getfield 63, 3) := by decide +kernel
theorem dX4_lacks_16 : decode cX4_lacks 16 = .ok (.iload_n 1, 1) := by decide +kernel
theorem dX4_lacks_17 : decode cX4_lacks 17 = .ok (.iaload, 1) := by decide +kernel
theorem dX4_lacks_18 : decode cX4_lacks 18 = .ok (.ifCond .ne 8, 3) := by decide +kernel
theorem dX4_lacks_21 : decode cX4_lacks 21 = .ok (.ldc 236, 2) := by decide +kernel
theorem dX4_lacks_23 : decode cX4_lacks 23 = .ok (.goto 17, 3) := by decide +kernel
theorem dX4_lacks_26 : decode cX4_lacks 26 = .ok (.aload_n 0, 1) := by decide +kernel
theorem dX4_lacks_27 : decode cX4_lacks 27 = .ok (.iload_n 2, 1) := by decide +kernel
theorem dX4_lacks_28 : decode cX4_lacks 28 = .ok (.invokevirtual 135, 3) := by decide +kernel
theorem dX4_lacks_31 : decode cX4_lacks 31 = .ok (.ifCond .eq 7, 3) := by decide +kernel
theorem dX4_lacks_34 : decode cX4_lacks 34 = .ok (.iconst 0, 1) := by decide +kernel
theorem dX4_lacks_35 : decode cX4_lacks 35 = .ok (.goto 5, 3) := by decide +kernel
theorem dX4_lacks_38 : decode cX4_lacks 38 = .ok (.ldc 75, 2) := by decide +kernel
theorem dX4_lacks_40 : decode cX4_lacks 40 = .ok (.ireturn, 1) := by decide +kernel
theorem dX4_facedSo_0 : decode cX4_facedSo 0 = .ok (.aload_n 0, 1) := by decide +kernel
theorem dX4_facedSo_1 : decode cX4_facedSo 1 = .ok (.getfield 9, 3) := by decide +kernel
theorem dX4_facedSo_4 : decode cX4_facedSo 4 = .ok (.aload_n 0, 1) := by decide +kernel
theorem dX4_facedSo_5 : decode cX4_facedSo 5 = .ok (.getfield 16, 3) := by decide +kernel
theorem dX4_facedSo_8 : decode cX4_facedSo 8 = .ok (.invokestatic 76, 3) := by decide +kernel
theorem dX4_facedSo_11 : decode cX4_facedSo 11 = .ok (.iconst 1, 1) := by decide +kernel
theorem dX4_facedSo_12 : decode cX4_facedSo 12 = .ok (.istore_n 3, 1) := by decide +kernel
theorem dX4_facedSo_13 : decode cX4_facedSo 13 = .ok (.iconst 0, 1) := by decide +kernel
theorem dX4_facedSo_14 : decode cX4_facedSo 14 = .ok (.istore 4, 2) := by decide +kernel
theorem dX4_facedSo_16 : decode cX4_facedSo 16 = .ok (.iload 4, 2) := by decide +kernel
theorem dX4_facedSo_18 : decode cX4_facedSo 18 = .ok (.aload_n 0, 1) := by decide +kernel
theorem dX4_facedSo_19 : decode cX4_facedSo 19 = .ok (.getfield 66, 3) := by decide +kernel
theorem dX4_facedSo_22 : decode cX4_facedSo 22 = .ok (.iload_n 1, 1) := by decide +kernel
theorem dX4_facedSo_23 : decode cX4_facedSo 23 = .ok (.iaload, 1) := by decide +kernel
theorem dX4_facedSo_24 : decode cX4_facedSo 24 = .ok (.if_icmp .ge 53, 3) := by decide +kernel
theorem dX4_facedSo_27 : decode cX4_facedSo 27 = .ok (.iload_n 3, 1) := by decide +kernel
theorem dX4_facedSo_28 : decode cX4_facedSo 28 = .ok (.ifCond .eq 49, 3) := by decide +kernel
theorem dX4_facedSo_31 : decode cX4_facedSo 31 = .ok (.aload_n 0, 1) := by decide +kernel
theorem dX4_facedSo_32 : decode cX4_facedSo 32 = .ok (.getfield 69, 3) := by decide +kernel
theorem dX4_facedSo_35 : decode cX4_facedSo 35 = .ok (.bipush 40, 2) := by decide +kernel
theorem dX4_facedSo_37 : decode cX4_facedSo 37 = .ok (.iload_n 1, 1) := by decide +kernel
theorem dX4_facedSo_38 : decode cX4_facedSo 38 = .ok (.imul, 1) := by decide +kernel
theorem dX4_facedSo_39 : decode cX4_facedSo 39 = .ok (.iload 4, 2) := by decide +kernel
theorem dX4_facedSo_41 : decode cX4_facedSo 41 = .ok (.iadd, 1) := by decide +kernel
theorem dX4_facedSo_42 : decode cX4_facedSo 42 = .ok (.iaload, 1) := by decide +kernel
theorem dX4_facedSo_43 : decode cX4_facedSo 43 = .ok (.istore 5, 2) := by decide +kernel
theorem dX4_facedSo_45 : decode cX4_facedSo 45 = .ok (.iload 5, 2) := by decide +kernel
theorem dX4_facedSo_47 : decode cX4_facedSo 47 = .ok (.iconst (-1), 1) := by decide +kernel
theorem dX4_facedSo_48 : decode cX4_facedSo 48 = .ok (.if_icmp .eq 13, 3) := by decide +kernel
theorem dX4_facedSo_51 : decode cX4_facedSo 51 = .ok (.iload 5, 2) := by decide +kernel
theorem dX4_facedSo_53 : decode cX4_facedSo 53 = .ok (.aload_n 0, 1) := by decide +kernel
theorem dX4_facedSo_54 : decode cX4_facedSo 54 = .ok (.iload_n 2, 1) := by decide +kernel
theorem dX4_facedSo_55 : decode cX4_facedSo 55 = .ok (.invokevirtual 114, 3) := by decide +kernel
theorem dX4_facedSo_58 : decode cX4_facedSo 58 = .ok (.if_icmp .ne 7, 3) := by decide +kernel
theorem dX4_facedSo_61 : decode cX4_facedSo 61 = .ok (.iconst 1, 1) := by decide +kernel
theorem dX4_facedSo_62 : decode cX4_facedSo 62 = .ok (.goto 4, 3) := by decide +kernel
theorem dX4_facedSo_65 : decode cX4_facedSo 65 = .ok (.iconst 0, 1) := by decide +kernel
theorem dX4_facedSo_66 : decode cX4_facedSo 66 = .ok (.istore_n 3, 1) := by decide +kernel
theorem dX4_facedSo_67 : decode cX4_facedSo 67 = .ok (.aload_n 0, 1) := by decide +kernel
theorem dX4_facedSo_68 : decode cX4_facedSo 68 = .ok (.invokevirtual 162, 3) := by decide +kernel
theorem dX4_facedSo_71 : decode cX4_facedSo 71 = .ok (.iinc 4 1, 3) := by decide +kernel
theorem dX4_facedSo_74 : decode cX4_facedSo 74 = .ok (.goto (-58), 3) := by decide +kernel
theorem dX4_facedSo_77 : decode cX4_facedSo 77 = .ok (.aload_n 0, 1) := by decide +kernel
theorem dX4_facedSo_78 : decode cX4_facedSo 78 = .ok (.getfield 16, 3) := by decide +kernel
theorem dX4_facedSo_81 : decode cX4_facedSo 81 = .ok (.aload_n 0, 1) := by decide +kernel
theorem dX4_facedSo_82 : decode cX4_facedSo 82 = .ok (.getfield 9, 3) := by decide +kernel
theorem dX4_facedSo_85 : decode cX4_facedSo 85 = .ok (.invokestatic 76, 3) := by decide +kernel
theorem dX4_facedSo_88 : decode cX4_facedSo 88 = .ok (.iload_n 3, 1) := by decide +kernel
theorem dX4_facedSo_89 : decode cX4_facedSo 89 = .ok (.ireturn, 1) := by decide +kernel
theorem dX4_fitting_0 : decode cX4_fitting 0 = .ok (.aload_n 0, 1) := by decide +kernel
theorem dX4_fitting_1 : decode cX4_fitting 1 = .ok (.iload_n 2, 1) := by decide +kernel
theorem dX4_fitting_2 : decode cX4_fitting 2 = .ok (.iload_n 3, 1) := by decide +kernel
theorem dX4_fitting_3 : decode cX4_fitting 3 = .ok (.invokevirtual 108, 3) := by decide +kernel
theorem dX4_fitting_6 : decode cX4_fitting 6 = .ok (.istore 6, 2) := by decide +kernel
theorem dX4_fitting_8 : decode cX4_fitting 8 = .ok (.iconst 0, 1) := by decide +kernel
theorem dX4_fitting_9 : decode cX4_fitting 9 = .ok (.istore 7, 2) := by decide +kernel
theorem dX4_fitting_11 : decode cX4_fitting 11 = .ok (.iload 4, 2) := by decide +kernel
theorem dX4_fitting_13 : decode cX4_fitting 13 = .ok (.istore 8, 2) := by decide +kernel
theorem dX4_fitting_15 : decode cX4_fitting 15 = .ok (.iload 8, 2) := by decide +kernel
theorem dX4_fitting_17 : decode cX4_fitting 17 = .ok (.iload 5, 2) := by decide +kernel
theorem dX4_fitting_19 : decode cX4_fitting 19 = .ok (.if_icmp .gt 46, 3) := by decide +kernel
theorem dX4_fitting_22 : decode cX4_fitting 22 = .ok (.aload_n 0, 1) := by decide +kernel
theorem dX4_fitting_23 : decode cX4_fitting 23 = .ok (.getfield 9, 3) := by decide +kernel
theorem dX4_fitting_26 : decode cX4_fitting 26 = .ok (.iload_n 2, 1) := by decide +kernel
theorem dX4_fitting_27 : decode cX4_fitting 27 = .ok (.iload_n 3, 1) := by decide +kernel
theorem dX4_fitting_28 : decode cX4_fitting 28 = .ok (.invokestatic 93, 3) := by decide +kernel
theorem dX4_fitting_31 : decode cX4_fitting 31 = .ok (.iload 8, 2) := by decide +kernel
theorem dX4_fitting_33 : decode cX4_fitting 33 = .ok (.iastore, 1) := by decide +kernel
theorem dX4_fitting_34 : decode cX4_fitting 34 = .ok (.iload 7, 2) := by decide +kernel
theorem dX4_fitting_36 : decode cX4_fitting 36 = .ok (.aload_n 0, 1) := by decide +kernel
theorem dX4_fitting_37 : decode cX4_fitting 37 = .ok (.iload_n 1, 1) := by decide +kernel
theorem dX4_fitting_38 : decode cX4_fitting 38 = .ok (.iload_n 2, 1) := by decide +kernel
theorem dX4_fitting_39 : decode cX4_fitting 39 = .ok (.invokevirtual 237, 3) := by decide +kernel
theorem dX4_fitting_42 : decode cX4_fitting 42 = .ok (.ifCond .eq 13, 3) := by decide +kernel
theorem dX4_fitting_45 : decode cX4_fitting 45 = .ok (.iconst 1, 1) := by decide +kernel
theorem dX4_fitting_46 : decode cX4_fitting 46 = .ok (.iload 8, 2) := by decide +kernel
theorem dX4_fitting_48 : decode cX4_fitting 48 = .ok (.iload 4, 2) := by decide +kernel
theorem dX4_fitting_50 : decode cX4_fitting 50 = .ok (.isub, 1) := by decide +kernel
theorem dX4_fitting_51 : decode cX4_fitting 51 = .ok (.ishl, 1) := by decide +kernel
theorem dX4_fitting_52 : decode cX4_fitting 52 = .ok (.goto 4, 3) := by decide +kernel
theorem dX4_fitting_55 : decode cX4_fitting 55 = .ok (.iconst 0, 1) := by decide +kernel
theorem dX4_fitting_56 : decode cX4_fitting 56 = .ok (.ior, 1) := by decide +kernel
theorem dX4_fitting_57 : decode cX4_fitting 57 = .ok (.istore 7, 2) := by decide +kernel
theorem dX4_fitting_59 : decode cX4_fitting 59 = .ok (.iinc 8 1, 3) := by decide +kernel
theorem dX4_fitting_62 : decode cX4_fitting 62 = .ok (.goto (-47), 3) := by decide +kernel
theorem dX4_fitting_65 : decode cX4_fitting 65 = .ok (.aload_n 0, 1) := by decide +kernel
theorem dX4_fitting_66 : decode cX4_fitting 66 = .ok (.getfield 9, 3) := by decide +kernel
theorem dX4_fitting_69 : decode cX4_fitting 69 = .ok (.iload_n 2, 1) := by decide +kernel
theorem dX4_fitting_70 : decode cX4_fitting 70 = .ok (.iload_n 3, 1) := by decide +kernel
theorem dX4_fitting_71 : decode cX4_fitting 71 = .ok (.invokestatic 93, 3) := by decide +kernel
theorem dX4_fitting_74 : decode cX4_fitting 74 = .ok (.iload 6, 2) := by decide +kernel
theorem dX4_fitting_76 : decode cX4_fitting 76 = .ok (.iastore, 1) := by decide +kernel
theorem dX4_fitting_77 : decode cX4_fitting 77 = .ok (.iload 7, 2) := by decide +kernel
theorem dX4_fitting_79 : decode cX4_fitting 79 = .ok (.ireturn, 1) := by decide +kernel
theorem dX4_fits_0 : decode cX4_fits 0 = .ok (.aload_n 0, 1) := by decide +kernel
theorem dX4_fits_1 : decode cX4_fits 1 = .ok (.iload_n 1, 1) := by decide +kernel
theorem dX4_fits_2 : decode cX4_fits 2 = .ok (.iload_n 2, 1) := by decide +kernel
theorem dX4_fits_3 : decode cX4_fits 3 = .ok (.invokevirtual 240, 3) := by decide +kernel
theorem dX4_fits_6 : decode cX4_fits 6 = .ok (.ifCond .eq 16, 3) := by decide +kernel
theorem dX4_fits_9 : decode cX4_fits 9 = .ok (.aload_n 0, 1) := by decide +kernel
theorem dX4_fits_10 : decode cX4_fits 10 = .ok (.aload_n 0, 1) := by decide +kernel
theorem dX4_fits_11 : decode cX4_fits 11 = .ok (.iload_n 1, 1) := by decide +kernel
theorem dX4_fits_12 : decode cX4_fits 12 = .ok (.iload_n 2, 1) := by decide +kernel
theorem dX4_fits_13 : decode cX4_fits 13 = .ok (.invokevirtual 240, 3) := by decide +kernel
theorem dX4_fits_16 : decode cX4_fits 16 = .ok (.invokevirtual 81, 3) := by decide +kernel
theorem dX4_fits_19 : decode cX4_fits 19 = .ok (.goto 16, 3) := by decide +kernel
theorem dX4_fits_22 : decode cX4_fits 22 = .ok (.aload_n 0, 1) := by decide +kernel
theorem dX4_fits_23 : decode cX4_fits 23 = .ok (.iload_n 1, 1) := by decide +kernel
theorem dX4_fits_24 : decode cX4_fits 24 = .ok (.iload_n 2, 1) := by decide +kernel
theorem dX4_fits_25 : decode cX4_fits 25 = .ok (.iconst 2, 1) := by decide +kernel
theorem dX4_fits_26 : decode cX4_fits 26 = .ok (.bipush (-5), 2) := by decide +kernel
theorem dX4_fits_28 : decode cX4_fits 28 = .ok (.iconst 5, 1) := by decide +kernel
theorem dX4_fits_29 : decode cX4_fits 29 = .ok (.invokevirtual 243, 3) := by decide +kernel
theorem dX4_fits_32 : decode cX4_fits 32 = .ok (.invokestatic 123, 3) := by decide +kernel
theorem dX4_fits_35 : decode cX4_fits 35 = .ok (.ireturn, 1) := by decide +kernel
theorem dX4_step_0 : decode cX4_step 0 = .ok (.aload_n 0, 1) := by decide +kernel
theorem dX4_step_1 : decode cX4_step 1 = .ok (.iload_n 1, 1) := by decide +kernel
theorem dX4_step_2 : decode cX4_step 2 = .ok (.iload_n 2, 1) := by decide +kernel
theorem dX4_step_3 : decode cX4_step 3 = .ok (.invokevirtual 240, 3) := by decide +kernel
theorem dX4_step_6 : decode cX4_step 6 = .ok (.ifCond .eq 14, 3) := by decide +kernel
theorem dX4_step_9 : decode cX4_step 9 = .ok (.aload_n 0, 1) := by decide +kernel
theorem dX4_step_10 : decode cX4_step 10 = .ok (.aload_n 0, 1) := by decide +kernel
theorem dX4_step_11 : decode cX4_step 11 = .ok (.iload_n 1, 1) := by decide +kernel
theorem dX4_step_12 : decode cX4_step 12 = .ok (.iload_n 2, 1) := by decide +kernel
theorem dX4_step_13 : decode cX4_step 13 = .ok (.invokevirtual 240, 3) := by decide +kernel
theorem dX4_step_16 : decode cX4_step 16 = .ok (.invokevirtual 81, 3) := by decide +kernel
theorem dX4_step_19 : decode cX4_step 19 = .ok (.ireturn, 1) := by decide +kernel
theorem dX4_step_20 : decode cX4_step 20 = .ok (.aload_n 0, 1) := by decide +kernel
theorem dX4_step_21 : decode cX4_step 21 = .ok (.iload_n 1, 1) := by decide +kernel
theorem dX4_step_22 : decode cX4_step 22 = .ok (.iload_n 2, 1) := by decide +kernel
theorem dX4_step_23 : decode cX4_step 23 = .ok (.iconst 2, 1) := by decide +kernel
theorem dX4_step_24 : decode cX4_step 24 = .ok (.bipush (-5), 2) := by decide +kernel
theorem dX4_step_26 : decode cX4_step 26 = .ok (.iconst 5, 1) := by decide +kernel
theorem dX4_step_27 : decode cX4_step 27 = .ok (.invokevirtual 243, 3) := by decide +kernel
theorem dX4_step_30 : decode cX4_step 30 = .ok (.istore_n 3, 1) := by decide +kernel
theorem dX4_step_31 : decode cX4_step 31 = .ok (.iload_n 3, 1) := by decide +kernel
theorem dX4_step_32 : decode cX4_step 32 = .ok (.ifCond .ne 12, 3) := by decide +kernel
theorem dX4_step_35 : decode cX4_step 35 = .ok (.aload_n 0, 1) := by decide +kernel
theorem dX4_step_36 : decode cX4_step 36 = .ok (.ldc 80, 2) := by decide +kernel
theorem dX4_step_38 : decode cX4_step 38 = .ok (.invokevirtual 81, 3) := by decide +kernel
theorem dX4_step_41 : decode cX4_step 41 = .ok (.goto 14, 3) := by decide +kernel
theorem dX4_step_44 : decode cX4_step 44 = .ok (.iload_n 3, 1) := by decide +kernel
theorem dX4_step_45 : decode cX4_step 45 = .ok (.iload_n 3, 1) := by decide +kernel
theorem dX4_step_46 : decode cX4_step 46 = .ok (.ineg, 1) := by decide +kernel
theorem dX4_step_47 : decode cX4_step 47 = .ok (.iand, 1) := by decide +kernel
theorem dX4_step_48 : decode cX4_step 48 = .ok (.iconst 1, 1) := by decide +kernel
theorem dX4_step_49 : decode cX4_step 49 = .ok (.isub, 1) := by decide +kernel
theorem dX4_step_50 : decode cX4_step 50 = .ok (.invokestatic 123, 3) := by decide +kernel
theorem dX4_step_53 : decode cX4_step 53 = .ok (.iconst 5, 1) := by decide +kernel
theorem dX4_step_54 : decode cX4_step 54 = .ok (.isub, 1) := by decide +kernel
theorem dX4_step_55 : decode cX4_step 55 = .ok (.ireturn, 1) := by decide +kernel
theorem dX4_kinds_0 : decode cX4_kinds 0 = .ok (.aload_n 0, 1) := by decide +kernel
theorem dX4_kinds_1 : decode cX4_kinds 1 = .ok (.iload_n 1, 1) := by decide +kernel
theorem dX4_kinds_2 : decode cX4_kinds 2 = .ok (.iload_n 2, 1) := by decide +kernel
theorem dX4_kinds_3 : decode cX4_kinds 3 = .ok (.invokevirtual 240, 3) := by decide +kernel
theorem dX4_kinds_6 : decode cX4_kinds 6 = .ok (.ifCond .eq 16, 3) := by decide +kernel
theorem dX4_kinds_9 : decode cX4_kinds 9 = .ok (.aload_n 0, 1) := by decide +kernel
theorem dX4_kinds_10 : decode cX4_kinds 10 = .ok (.aload_n 0, 1) := by decide +kernel
theorem dX4_kinds_11 : decode cX4_kinds 11 = .ok (.iload_n 1, 1) := by decide +kernel
theorem dX4_kinds_12 : decode cX4_kinds 12 = .ok (.iload_n 2, 1) := by decide +kernel
theorem dX4_kinds_13 : decode cX4_kinds 13 = .ok (.invokevirtual 240, 3) := by decide +kernel
theorem dX4_kinds_16 : decode cX4_kinds 16 = .ok (.invokevirtual 81, 3) := by decide +kernel
theorem dX4_kinds_19 : decode cX4_kinds 19 = .ok (.goto 13, 3) := by decide +kernel
theorem dX4_kinds_22 : decode cX4_kinds 22 = .ok (.aload_n 0, 1) := by decide +kernel
theorem dX4_kinds_23 : decode cX4_kinds 23 = .ok (.iload_n 1, 1) := by decide +kernel
theorem dX4_kinds_24 : decode cX4_kinds 24 = .ok (.iload_n 2, 1) := by decide +kernel
theorem dX4_kinds_25 : decode cX4_kinds 25 = .ok (.iconst 0, 1) := by decide +kernel
theorem dX4_kinds_26 : decode cX4_kinds 26 = .ok (.iconst 0, 1) := by decide +kernel
theorem dX4_kinds_27 : decode cX4_kinds 27 = .ok (.bipush 6, 2) := by decide +kernel
theorem dX4_kinds_29 : decode cX4_kinds 29 = .ok (.invokevirtual 243, 3) := by decide +kernel
theorem dX4_kinds_32 : decode cX4_kinds 32 = .ok (.ireturn, 1) := by decide +kernel
theorem dX4_drawn_0 : decode cX4_drawn 0 = .ok (.aload_n 0, 1) := by decide +kernel
theorem dX4_drawn_1 : decode cX4_drawn 1 = .ok (.getfield 9, 3) := by decide +kernel
theorem dX4_drawn_4 : decode cX4_drawn 4 = .ok (.iconst 2, 1) := by decide +kernel
theorem dX4_drawn_5 : decode cX4_drawn 5 = .ok (.aload_n 0, 1) := by decide +kernel
theorem dX4_drawn_6 : decode cX4_drawn 6 = .ok (.getfield 9, 3) := by decide +kernel
theorem dX4_drawn_9 : decode cX4_drawn 9 = .ok (.iconst 2, 1) := by decide +kernel
theorem dX4_drawn_10 : decode cX4_drawn 10 = .ok (.iaload, 1) := by decide +kernel
theorem dX4_drawn_11 : decode cX4_drawn 11 = .ok (.ldc 246, 2) := by decide +kernel
theorem dX4_drawn_13 : decode cX4_drawn 13 = .ok (.imul, 1) := by decide +kernel
theorem dX4_drawn_14 : decode cX4_drawn 14 = .ok (.sipush 12345, 3) := by decide +kernel
theorem dX4_drawn_17 : decode cX4_drawn 17 = .ok (.iadd, 1) := by decide +kernel
theorem dX4_drawn_18 : decode cX4_drawn 18 = .ok (.iastore, 1) := by decide +kernel
theorem dX4_drawn_19 : decode cX4_drawn 19 = .ok (.aload_n 0, 1) := by decide +kernel
theorem dX4_drawn_20 : decode cX4_drawn 20 = .ok (.getfield 9, 3) := by decide +kernel
theorem dX4_drawn_23 : decode cX4_drawn 23 = .ok (.iconst 2, 1) := by decide +kernel
theorem dX4_drawn_24 : decode cX4_drawn 24 = .ok (.iaload, 1) := by decide +kernel
theorem dX4_drawn_25 : decode cX4_drawn 25 = .ok (.bipush 8, 2) := by decide +kernel
theorem dX4_drawn_27 : decode cX4_drawn 27 = .ok (.iushr, 1) := by decide +kernel
theorem dX4_drawn_28 : decode cX4_drawn 28 = .ok (.ireturn, 1) := by decide +kernel
theorem dX4_rains_0 : decode cX4_rains 0 = .ok (.iload_n 1, 1) := by decide +kernel
theorem dX4_rains_1 : decode cX4_rains 1 = .ok (.iconst 1, 1) := by decide +kernel
theorem dX4_rains_2 : decode cX4_rains 2 = .ok (.bipush 20, 2) := by decide +kernel
theorem dX4_rains_4 : decode cX4_rains 4 = .ok (.invokestatic 85, 3) := by decide +kernel
theorem dX4_rains_7 : decode cX4_rains 7 = .ok (.ifCond .ne 10, 3) := by decide +kernel
theorem dX4_rains_10 : decode cX4_rains 10 = .ok (.aload_n 0, 1) := by decide +kernel
theorem dX4_rains_11 : decode cX4_rains 11 = .ok (.ldc 75, 2) := by decide +kernel
theorem dX4_rains_13 : decode cX4_rains 13 = .ok (.invokevirtual 81, 3) := by decide +kernel
theorem dX4_rains_16 : decode cX4_rains 16 = .ok (.ireturn, 1) := by decide +kernel
theorem dX4_rains_17 : decode cX4_rains 17 = .ok (.aload_n 0, 1) := by decide +kernel
theorem dX4_rains_18 : decode cX4_rains 18 = .ok (.getfield 9, 3) := by decide +kernel
theorem dX4_rains_21 : decode cX4_rains 21 = .ok (.iconst 0, 1) := by decide +kernel
theorem dX4_rains_22 : decode cX4_rains 22 = .ok (.iaload, 1) := by decide +kernel
theorem dX4_rains_23 : decode cX4_rains 23 = .ok (.iload_n 1, 1) := by decide +kernel
theorem dX4_rains_24 : decode cX4_rains 24 = .ok (.iadd, 1) := by decide +kernel
theorem dX4_rains_25 : decode cX4_rains 25 = .ok (.ldc 165, 2) := by decide +kernel
theorem dX4_rains_27 : decode cX4_rains 27 = .ok (.if_icmp .le 10, 3) := by decide +kernel
theorem dX4_rains_30 : decode cX4_rains 30 = .ok (.aload_n 0, 1) := by decide +kernel
end
section
theorem dX4_rains_31 : decode cX4_rains 31 = .ok (.ldc 166, 2) := by decide +kernel
theorem dX4_rains_33 : decode cX4_rains 33 = .ok (.invokevirtual 81, 3) := by decide +kernel
theorem dX4_rains_36 : decode cX4_rains 36 = .ok (.ireturn, 1) := by decide +kernel
theorem dX4_rains_37 : decode cX4_rains 37 = .ok (.iconst 0, 1) := by decide +kernel
theorem dX4_rains_38 : decode cX4_rains 38 = .ok (.istore_n 2, 1) := by decide +kernel
theorem dX4_rains_39 : decode cX4_rains 39 = .ok (.iload_n 2, 1) := by decide +kernel
theorem dX4_rains_40 : decode cX4_rains 40 = .ok (.iload_n 1, 1) := by decide +kernel
theorem dX4_rains_41 : decode cX4_rains 41 = .ok (.if_icmp .ge 62, 3) := by decide +kernel
theorem dX4_rains_44 : decode cX4_rains 44 = .ok (.aload_n 0, 1) := by decide +kernel
theorem dX4_rains_45 : decode cX4_rains 45 = .ok (.getfield 9, 3) := by decide +kernel
theorem dX4_rains_48 : decode cX4_rains 48 = .ok (.iconst 3, 1) := by decide +kernel
theorem dX4_rains_49 : decode cX4_rains 49 = .ok (.aload_n 0, 1) := by decide +kernel
theorem dX4_rains_50 : decode cX4_rains 50 = .ok (.invokevirtual 247, 3) := by decide +kernel
theorem dX4_rains_53 : decode cX4_rains 53 = .ok (.bipush 10, 2) := by decide +kernel
theorem dX4_rains_55 : decode cX4_rains 55 = .ok (.irem, 1) := by decide +kernel
theorem dX4_rains_56 : decode cX4_rains 56 = .ok (.iastore, 1) := by decide +kernel
theorem dX4_rains_57 : decode cX4_rains 57 = .ok (.aload_n 0, 1) := by decide +kernel
theorem dX4_rains_58 : decode cX4_rains 58 = .ok (.invokevirtual 247, 3) := by decide +kernel
theorem dX4_rains_61 : decode cX4_rains 61 = .ok (.bipush 8, 2) := by decide +kernel
theorem dX4_rains_63 : decode cX4_rains 63 = .ok (.irem, 1) := by decide +kernel
theorem dX4_rains_64 : decode cX4_rains 64 = .ok (.istore_n 3, 1) := by decide +kernel
theorem dX4_rains_65 : decode cX4_rains 65 = .ok (.aload_n 0, 1) := by decide +kernel
theorem dX4_rains_66 : decode cX4_rains 66 = .ok (.iload_n 3, 1) := by decide +kernel
theorem dX4_rains_67 : decode cX4_rains 67 = .ok (.invokevirtual 135, 3) := by decide +kernel
theorem dX4_rains_70 : decode cX4_rains 70 = .ok (.ifCond .eq 23, 3) := by decide +kernel
theorem dX4_rains_73 : decode cX4_rains 73 = .ok (.aload_n 0, 1) := by decide +kernel
theorem dX4_rains_74 : decode cX4_rains 74 = .ok (.getfield 9, 3) := by decide +kernel
theorem dX4_rains_77 : decode cX4_rains 77 = .ok (.iload_n 3, 1) := by decide +kernel
theorem dX4_rains_78 : decode cX4_rains 78 = .ok (.iconst 3, 1) := by decide +kernel
theorem dX4_rains_79 : decode cX4_rains 79 = .ok (.invokestatic 93, 3) := by decide +kernel
theorem dX4_rains_82 : decode cX4_rains 82 = .ok (.aload_n 0, 1) := by decide +kernel
theorem dX4_rains_83 : decode cX4_rains 83 = .ok (.iload_n 3, 1) := by decide +kernel
theorem dX4_rains_84 : decode cX4_rains 84 = .ok (.iconst 3, 1) := by decide +kernel
theorem dX4_rains_85 : decode cX4_rains 85 = .ok (.invokevirtual 108, 3) := by decide +kernel
theorem dX4_rains_88 : decode cX4_rains 88 = .ok (.iconst 1, 1) := by decide +kernel
theorem dX4_rains_89 : decode cX4_rains 89 = .ok (.iadd, 1) := by decide +kernel
theorem dX4_rains_90 : decode cX4_rains 90 = .ok (.iconst 4, 1) := by decide +kernel
theorem dX4_rains_91 : decode cX4_rains 91 = .ok (.irem, 1) := by decide +kernel
theorem dX4_rains_92 : decode cX4_rains 92 = .ok (.iastore, 1) := by decide +kernel
theorem dX4_rains_93 : decode cX4_rains 93 = .ok (.aload_n 0, 1) := by decide +kernel
theorem dX4_rains_94 : decode cX4_rains 94 = .ok (.invokevirtual 162, 3) := by decide +kernel
theorem dX4_rains_97 : decode cX4_rains 97 = .ok (.iinc 2 1, 3) := by decide +kernel
theorem dX4_rains_100 : decode cX4_rains 100 = .ok (.goto (-61), 3) := by decide +kernel
theorem dX4_rains_103 : decode cX4_rains 103 = .ok (.aload_n 0, 1) := by decide +kernel
theorem dX4_rains_104 : decode cX4_rains 104 = .ok (.iconst 4, 1) := by decide +kernel
theorem dX4_rains_105 : decode cX4_rains 105 = .ok (.invokevirtual 175, 3) := by decide +kernel
theorem dX4_rains_108 : decode cX4_rains 108 = .ok (.ireturn, 1) := by decide +kernel
theorem dX4_odds_0 : decode cX4_odds 0 = .ok (.iload_n 1, 1) := by decide +kernel
theorem dX4_odds_1 : decode cX4_odds 1 = .ok (.iconst 0, 1) := by decide +kernel
theorem dX4_odds_2 : decode cX4_odds 2 = .ok (.bipush 20, 2) := by decide +kernel
theorem dX4_odds_4 : decode cX4_odds 4 = .ok (.invokestatic 85, 3) := by decide +kernel
theorem dX4_odds_7 : decode cX4_odds 7 = .ok (.ifCond .eq 12, 3) := by decide +kernel
theorem dX4_odds_10 : decode cX4_odds 10 = .ok (.iload_n 2, 1) := by decide +kernel
theorem dX4_odds_11 : decode cX4_odds 11 = .ok (.iconst 0, 1) := by decide +kernel
theorem dX4_odds_12 : decode cX4_odds 12 = .ok (.iconst 1, 1) := by decide +kernel
theorem dX4_odds_13 : decode cX4_odds 13 = .ok (.invokestatic 85, 3) := by decide +kernel
theorem dX4_odds_16 : decode cX4_odds 16 = .ok (.ifCond .ne 11, 3) := by decide +kernel
theorem dX4_odds_19 : decode cX4_odds 19 = .ok (.aload_n 0, 1) := by decide +kernel
theorem dX4_odds_20 : decode cX4_odds 20 = .ok (.ldc 75, 2) := by decide +kernel
theorem dX4_odds_22 : decode cX4_odds 22 = .ok (.invokevirtual 81, 3) := by decide +kernel
theorem dX4_odds_25 : decode cX4_odds 25 = .ok (.i2l, 1) := by decide +kernel
theorem dX4_odds_26 : decode cX4_odds 26 = .ok (.lreturn, 1) := by decide +kernel
theorem dX4_odds_27 : decode cX4_odds 27 = .ok (.aload_n 0, 1) := by decide +kernel
theorem dX4_odds_28 : decode cX4_odds 28 = .ok (.getfield 9, 3) := by decide +kernel
theorem dX4_odds_31 : decode cX4_odds 31 = .ok (.iconst 1, 1) := by decide +kernel
theorem dX4_odds_32 : decode cX4_odds 32 = .ok (.iaload, 1) := by decide +kernel
theorem dX4_odds_33 : decode cX4_odds 33 = .ok (.aload_n 0, 1) := by decide +kernel
theorem dX4_odds_34 : decode cX4_odds 34 = .ok (.invokevirtual 171, 3) := by decide +kernel
theorem dX4_odds_37 : decode cX4_odds 37 = .ok (.invokestatic 123, 3) := by decide +kernel
theorem dX4_odds_40 : decode cX4_odds 40 = .ok (.isub, 1) := by decide +kernel
theorem dX4_odds_41 : decode cX4_odds 41 = .ok (.istore_n 3, 1) := by decide +kernel
theorem dX4_odds_42 : decode cX4_odds 42 = .ok (.bipush 8, 2) := by decide +kernel
theorem dX4_odds_44 : decode cX4_odds 44 = .ok (.istore 4, 2) := by decide +kernel
theorem dX4_odds_46 : decode cX4_odds 46 = .ok (.iload_n 3, 1) := by decide +kernel
theorem dX4_odds_47 : decode cX4_odds 47 = .ok (.istore 5, 2) := by decide +kernel
theorem dX4_odds_49 : decode cX4_odds 49 = .ok (.iload 5, 2) := by decide +kernel
theorem dX4_odds_51 : decode cX4_odds 51 = .ok (.ifCond .eq 21, 3) := by decide +kernel
theorem dX4_odds_54 : decode cX4_odds 54 = .ok (.iload 4, 2) := by decide +kernel
theorem dX4_odds_56 : decode cX4_odds 56 = .ok (.iload 5, 2) := by decide +kernel
theorem dX4_odds_58 : decode cX4_odds 58 = .ok (.irem, 1) := by decide +kernel
theorem dX4_odds_59 : decode cX4_odds 59 = .ok (.istore 6, 2) := by decide +kernel
theorem dX4_odds_61 : decode cX4_odds 61 = .ok (.iload 5, 2) := by decide +kernel
theorem dX4_odds_63 : decode cX4_odds 63 = .ok (.istore 4, 2) := by decide +kernel
theorem dX4_odds_65 : decode cX4_odds 65 = .ok (.iload 6, 2) := by decide +kernel
theorem dX4_odds_67 : decode cX4_odds 67 = .ok (.istore 5, 2) := by decide +kernel
theorem dX4_odds_69 : decode cX4_odds 69 = .ok (.goto (-20), 3) := by decide +kernel
theorem dX4_odds_72 : decode cX4_odds 72 = .ok (.lconst 1, 1) := by decide +kernel
theorem dX4_odds_73 : decode cX4_odds 73 = .ok (.lstore 6, 2) := by decide +kernel
theorem dX4_odds_75 : decode cX4_odds 75 = .ok (.iconst 0, 1) := by decide +kernel
theorem dX4_odds_76 : decode cX4_odds 76 = .ok (.istore 8, 2) := by decide +kernel
theorem dX4_odds_78 : decode cX4_odds 78 = .ok (.iload 8, 2) := by decide +kernel
theorem dX4_odds_80 : decode cX4_odds 80 = .ok (.iload_n 1, 1) := by decide +kernel
theorem dX4_odds_81 : decode cX4_odds 81 = .ok (.if_icmp .ge 28, 3) := by decide +kernel
theorem dX4_odds_84 : decode cX4_odds 84 = .ok (.lload 6, 2) := by decide +kernel
theorem dX4_odds_86 : decode cX4_odds 86 = .ok (.iload_n 2, 1) := by decide +kernel
theorem dX4_odds_87 : decode cX4_odds 87 = .ok (.ifCond .ne 7, 3) := by decide +kernel
theorem dX4_odds_90 : decode cX4_odds 90 = .ok (.iload_n 3, 1) := by decide +kernel
theorem dX4_odds_91 : decode cX4_odds 91 = .ok (.goto 5, 3) := by decide +kernel
theorem dX4_odds_94 : decode cX4_odds 94 = .ok (.bipush 8, 2) := by decide +kernel
theorem dX4_odds_96 : decode cX4_odds 96 = .ok (.iload 4, 2) := by decide +kernel
theorem dX4_odds_98 : decode cX4_odds 98 = .ok (.idiv, 1) := by decide +kernel
theorem dX4_odds_99 : decode cX4_odds 99 = .ok (.i2l, 1) := by decide +kernel
theorem dX4_odds_100 : decode cX4_odds 100 = .ok (.lmul, 1) := by decide +kernel
theorem dX4_odds_101 : decode cX4_odds 101 = .ok (.lstore 6, 2) := by decide +kernel
theorem dX4_odds_103 : decode cX4_odds 103 = .ok (.iinc 8 1, 3) := by decide +kernel
theorem dX4_odds_106 : decode cX4_odds 106 = .ok (.goto (-28), 3) := by decide +kernel
theorem dX4_odds_109 : decode cX4_odds 109 = .ok (.lload 6, 2) := by decide +kernel
theorem dX4_odds_111 : decode cX4_odds 111 = .ok (.lreturn, 1) := by decide +kernel
theorem dX4_seed_0 : decode cX4_seed 0 = .ok (.aload_n 0, 1) := by decide +kernel
theorem dX4_seed_1 : decode cX4_seed 1 = .ok (.iconst 2, 1) := by decide +kernel
theorem dX4_seed_2 : decode cX4_seed 2 = .ok (.iload_n 1, 1) := by decide +kernel
theorem dX4_seed_3 : decode cX4_seed 3 = .ok (.invokevirtual 89, 3) := by decide +kernel
theorem dX4_seed_6 : decode cX4_seed 6 = .ok (.ireturn, 1) := by decide +kernel
theorem dX4_feed_0 : decode cX4_feed 0 = .ok (.iload_n 2, 1) := by decide +kernel
theorem dX4_feed_1 : decode cX4_feed 1 = .ok (.iconst 1, 1) := by decide +kernel
theorem dX4_feed_2 : decode cX4_feed 2 = .ok (.iconst 4, 1) := by decide +kernel
theorem dX4_feed_3 : decode cX4_feed 3 = .ok (.invokestatic 85, 3) := by decide +kernel
theorem dX4_feed_6 : decode cX4_feed 6 = .ok (.ifCond .ne 10, 3) := by decide +kernel
theorem dX4_feed_9 : decode cX4_feed 9 = .ok (.aload_n 0, 1) := by decide +kernel
theorem dX4_feed_10 : decode cX4_feed 10 = .ok (.ldc 75, 2) := by decide +kernel
theorem dX4_feed_12 : decode cX4_feed 12 = .ok (.invokevirtual 81, 3) := by decide +kernel
theorem dX4_feed_15 : decode cX4_feed 15 = .ok (.ireturn, 1) := by decide +kernel
theorem dX4_feed_16 : decode cX4_feed 16 = .ok (.aload_n 0, 1) := by decide +kernel
theorem dX4_feed_17 : decode cX4_feed 17 = .ok (.getfield 250, 3) := by decide +kernel
theorem dX4_feed_20 : decode cX4_feed 20 = .ok (.iload_n 2, 1) := by decide +kernel
theorem dX4_feed_21 : decode cX4_feed 21 = .ok (.iadd, 1) := by decide +kernel
theorem dX4_feed_22 : decode cX4_feed 22 = .ok (.bipush 120, 2) := by decide +kernel
theorem dX4_feed_24 : decode cX4_feed 24 = .ok (.if_icmp .le 10, 3) := by decide +kernel
theorem dX4_feed_27 : decode cX4_feed 27 = .ok (.aload_n 0, 1) := by decide +kernel
theorem dX4_feed_28 : decode cX4_feed 28 = .ok (.ldc 103, 2) := by decide +kernel
theorem dX4_feed_30 : decode cX4_feed 30 = .ok (.invokevirtual 81, 3) := by decide +kernel
theorem dX4_feed_33 : decode cX4_feed 33 = .ok (.ireturn, 1) := by decide +kernel
theorem dX4_feed_34 : decode cX4_feed 34 = .ok (.iload_n 2, 1) := by decide +kernel
theorem dX4_feed_35 : decode cX4_feed 35 = .ok (.iconst 1, 1) := by decide +kernel
theorem dX4_feed_36 : decode cX4_feed 36 = .ok (.isub, 1) := by decide +kernel
theorem dX4_feed_37 : decode cX4_feed 37 = .ok (.istore_n 3, 1) := by decide +kernel
theorem dX4_feed_38 : decode cX4_feed 38 = .ok (.iload_n 3, 1) := by decide +kernel
theorem dX4_feed_39 : decode cX4_feed 39 = .ok (.ifCond .lt 38, 3) := by decide +kernel
theorem dX4_feed_42 : decode cX4_feed 42 = .ok (.aload_n 0, 1) := by decide +kernel
theorem dX4_feed_43 : decode cX4_feed 43 = .ok (.getfield 37, 3) := by decide +kernel
theorem dX4_feed_46 : decode cX4_feed 46 = .ok (.aload_n 0, 1) := by decide +kernel
theorem dX4_feed_47 : decode cX4_feed 47 = .ok (.getfield 250, 3) := by decide +kernel
theorem dX4_feed_50 : decode cX4_feed 50 = .ok (.iload_n 1, 1) := by decide +kernel
theorem dX4_feed_51 : decode cX4_feed 51 = .ok (.bipush 8, 2) := by decide +kernel
theorem dX4_feed_53 : decode cX4_feed 53 = .ok (.iload_n 3, 1) := by decide +kernel
theorem dX4_feed_54 : decode cX4_feed 54 = .ok (.imul, 1) := by decide +kernel
theorem dX4_feed_55 : decode cX4_feed 55 = .ok (.ishr, 1) := by decide +kernel
theorem dX4_feed_56 : decode cX4_feed 56 = .ok (.sipush 255, 3) := by decide +kernel
theorem dX4_feed_59 : decode cX4_feed 59 = .ok (.iand, 1) := by decide +kernel
theorem dX4_feed_60 : decode cX4_feed 60 = .ok (.iastore, 1) := by decide +kernel
theorem dX4_feed_61 : decode cX4_feed 61 = .ok (.aload_n 0, 1) := by decide +kernel
theorem dX4_feed_62 : decode cX4_feed 62 = .ok (.dup, 1) := by decide +kernel
theorem dX4_feed_63 : decode cX4_feed 63 = .ok (.getfield 250, 3) := by decide +kernel
theorem dX4_feed_66 : decode cX4_feed 66 = .ok (.iconst 1, 1) := by decide +kernel
theorem dX4_feed_67 : decode cX4_feed 67 = .ok (.iadd, 1) := by decide +kernel
theorem dX4_feed_68 : decode cX4_feed 68 = .ok (.putfield 250, 3) := by decide +kernel
theorem dX4_feed_71 : decode cX4_feed 71 = .ok (.iinc 3 (-1), 3) := by decide +kernel
theorem dX4_feed_74 : decode cX4_feed 74 = .ok (.goto (-36), 3) := by decide +kernel
theorem dX4_feed_77 : decode cX4_feed 77 = .ok (.aload_n 0, 1) := by decide +kernel
theorem dX4_feed_78 : decode cX4_feed 78 = .ok (.getfield 250, 3) := by decide +kernel
theorem dX4_feed_81 : decode cX4_feed 81 = .ok (.ireturn, 1) := by decide +kernel
theorem dX4_wipe_0 : decode cX4_wipe 0 = .ok (.aload_n 0, 1) := by decide +kernel
theorem dX4_wipe_1 : decode cX4_wipe 1 = .ok (.getfield 250, 3) := by decide +kernel
theorem dX4_wipe_4 : decode cX4_wipe 4 = .ok (.istore_n 1, 1) := by decide +kernel
theorem dX4_wipe_5 : decode cX4_wipe 5 = .ok (.aload_n 0, 1) := by decide +kernel
theorem dX4_wipe_6 : decode cX4_wipe 6 = .ok (.iconst 0, 1) := by decide +kernel
theorem dX4_wipe_7 : decode cX4_wipe 7 = .ok (.putfield 250, 3) := by decide +kernel
theorem dX4_wipe_10 : decode cX4_wipe 10 = .ok (.iload_n 1, 1) := by decide +kernel
theorem dX4_wipe_11 : decode cX4_wipe 11 = .ok (.ireturn, 1) := by decide +kernel
theorem dX4_byteAt_0 : decode cX4_byteAt 0 = .ok (.iload_n 1, 1) := by decide +kernel
theorem dX4_byteAt_1 : decode cX4_byteAt 1 = .ok (.aload_n 0, 1) := by decide +kernel
theorem dX4_byteAt_2 : decode cX4_byteAt 2 = .ok (.getfield 250, 3) := by decide +kernel
theorem dX4_byteAt_5 : decode cX4_byteAt 5 = .ok (.if_icmp .ge 12, 3) := by decide +kernel
theorem dX4_byteAt_8 : decode cX4_byteAt 8 = .ok (.aload_n 0, 1) := by decide +kernel
theorem dX4_byteAt_9 : decode cX4_byteAt 9 = .ok (.getfield 37, 3) := by decide +kernel
theorem dX4_byteAt_12 : decode cX4_byteAt 12 = .ok (.iload_n 1, 1) := by decide +kernel
theorem dX4_byteAt_13 : decode cX4_byteAt 13 = .ok (.iaload, 1) := by decide +kernel
theorem dX4_byteAt_14 : decode cX4_byteAt 14 = .ok (.goto 4, 3) := by decide +kernel
theorem dX4_byteAt_17 : decode cX4_byteAt 17 = .ok (.iconst (-1), 1) := by decide +kernel
theorem dX4_byteAt_18 : decode cX4_byteAt 18 = .ok (.ireturn, 1) := by decide +kernel
theorem dX4_next_0 : decode cX4_next 0 = .ok (.aload_n 0, 1) := by decide +kernel
theorem dX4_next_1 : decode cX4_next 1 = .ok (.aload_n 0, 1) := by decide +kernel
theorem dX4_next_2 : decode cX4_next 2 = .ok (.getfield 254, 3) := by decide +kernel
theorem dX4_next_5 : decode cX4_next 5 = .ok (.putfield 257, 3) := by decide +kernel
theorem dX4_next_8 : decode cX4_next 8 = .ok (.aload_n 0, 1) := by decide +kernel
theorem dX4_next_9 : decode cX4_next 9 = .ok (.aload_n 0, 1) := by decide +kernel
theorem dX4_next_10 : decode cX4_next 10 = .ok (.getfield 257, 3) := by decide +kernel
theorem dX4_next_13 : decode cX4_next 13 = .ok (.invokevirtual 260, 3) := by decide +kernel
theorem dX4_next_16 : decode cX4_next 16 = .ok (.bipush 32, 2) := by decide +kernel
theorem dX4_next_18 : decode cX4_next 18 = .ok (.if_icmp .ne 16, 3) := by decide +kernel
theorem dX4_next_21 : decode cX4_next 21 = .ok (.aload_n 0, 1) := by decide +kernel
theorem dX4_next_22 : decode cX4_next 22 = .ok (.dup, 1) := by decide +kernel
theorem dX4_next_23 : decode cX4_next 23 = .ok (.getfield 257, 3) := by decide +kernel
theorem dX4_next_26 : decode cX4_next 26 = .ok (.iconst 1, 1) := by decide +kernel
theorem dX4_next_27 : decode cX4_next 27 = .ok (.iadd, 1) := by decide +kernel
theorem dX4_next_28 : decode cX4_next 28 = .ok (.putfield 257, 3) := by decide +kernel
theorem dX4_next_31 : decode cX4_next 31 = .ok (.goto (-23), 3) := by decide +kernel
theorem dX4_next_34 : decode cX4_next 34 = .ok (.aload_n 0, 1) := by decide +kernel
theorem dX4_next_35 : decode cX4_next 35 = .ok (.aload_n 0, 1) := by decide +kernel
theorem dX4_next_36 : decode cX4_next 36 = .ok (.getfield 257, 3) := by decide +kernel
theorem dX4_next_39 : decode cX4_next 39 = .ok (.invokevirtual 260, 3) := by decide +kernel
theorem dX4_next_42 : decode cX4_next 42 = .ok (.istore_n 1, 1) := by decide +kernel
theorem dX4_next_43 : decode cX4_next 43 = .ok (.aload_n 0, 1) := by decide +kernel
theorem dX4_next_44 : decode cX4_next 44 = .ok (.aload_n 0, 1) := by decide +kernel
theorem dX4_next_45 : decode cX4_next 45 = .ok (.getfield 257, 3) := by decide +kernel
theorem dX4_next_48 : decode cX4_next 48 = .ok (.putfield 254, 3) := by decide +kernel
theorem dX4_next_51 : decode cX4_next 51 = .ok (.aload_n 0, 1) := by decide +kernel
theorem dX4_next_52 : decode cX4_next 52 = .ok (.iconst 0, 1) := by decide +kernel
theorem dX4_next_53 : decode cX4_next 53 = .ok (.putfield 263, 3) := by decide +kernel
theorem dX4_next_56 : decode cX4_next 56 = .ok (.iload_n 1, 1) := by decide +kernel
theorem dX4_next_57 : decode cX4_next 57 = .ok (.ifCond .ge 11, 3) := by decide +kernel
theorem dX4_next_60 : decode cX4_next 60 = .ok (.aload_n 0, 1) := by decide +kernel
theorem dX4_next_61 : decode cX4_next 61 = .ok (.iconst 0, 1) := by decide +kernel
theorem dX4_next_62 : decode cX4_next 62 = .ok (.putfield 266, 3) := by decide +kernel
theorem dX4_next_65 : decode cX4_next 65 = .ok (.goto 141, 3) := by decide +kernel
theorem dX4_next_68 : decode cX4_next 68 = .ok (.iload_n 1, 1) := by decide +kernel
theorem dX4_next_69 : decode cX4_next 69 = .ok (.bipush 97, 2) := by decide +kernel
theorem dX4_next_71 : decode cX4_next 71 = .ok (.bipush 122, 2) := by decide +kernel
theorem dX4_next_73 : decode cX4_next 73 = .ok (.invokestatic 85, 3) := by decide +kernel
theorem dX4_next_76 : decode cX4_next 76 = .ok (.ifCond .eq 39, 3) := by decide +kernel
theorem dX4_next_79 : decode cX4_next 79 = .ok (.aload_n 0, 1) := by decide +kernel
theorem dX4_next_80 : decode cX4_next 80 = .ok (.iconst 1, 1) := by decide +kernel
theorem dX4_next_81 : decode cX4_next 81 = .ok (.putfield 266, 3) := by decide +kernel
theorem dX4_next_84 : decode cX4_next 84 = .ok (.aload_n 0, 1) := by decide +kernel
theorem dX4_next_85 : decode cX4_next 85 = .ok (.aload_n 0, 1) := by decide +kernel
theorem dX4_next_86 : decode cX4_next 86 = .ok (.getfield 254, 3) := by decide +kernel
theorem dX4_next_89 : decode cX4_next 89 = .ok (.invokevirtual 260, 3) := by decide +kernel
theorem dX4_next_92 : decode cX4_next 92 = .ok (.bipush 97, 2) := by decide +kernel
theorem dX4_next_94 : decode cX4_next 94 = .ok (.bipush 122, 2) := by decide +kernel
theorem dX4_next_96 : decode cX4_next 96 = .ok (.invokestatic 85, 3) := by decide +kernel
theorem dX4_next_99 : decode cX4_next 99 = .ok (.ifCond .eq 107, 3) := by decide +kernel
theorem dX4_next_102 : decode cX4_next 102 = .ok (.aload_n 0, 1) := by decide +kernel
theorem dX4_next_103 : decode cX4_next 103 = .ok (.dup, 1) := by decide +kernel
theorem dX4_next_104 : decode cX4_next 104 = .ok (.getfield 254, 3) := by decide +kernel
theorem dX4_next_107 : decode cX4_next 107 = .ok (.iconst 1, 1) := by decide +kernel
theorem dX4_next_108 : decode cX4_next 108 = .ok (.iadd, 1) := by decide +kernel
theorem dX4_next_109 : decode cX4_next 109 = .ok (.putfield 254, 3) := by decide +kernel
theorem dX4_next_112 : decode cX4_next 112 = .ok (.goto (-28), 3) := by decide +kernel
theorem dX4_next_115 : decode cX4_next 115 = .ok (.iload_n 1, 1) := by decide +kernel
theorem dX4_next_116 : decode cX4_next 116 = .ok (.bipush 48, 2) := by decide +kernel
theorem dX4_next_118 : decode cX4_next 118 = .ok (.bipush 57, 2) := by decide +kernel
theorem dX4_next_120 : decode cX4_next 120 = .ok (.invokestatic 85, 3) := by decide +kernel
theorem dX4_next_123 : decode cX4_next 123 = .ok (.ifCond .eq 68, 3) := by decide +kernel
theorem dX4_next_126 : decode cX4_next 126 = .ok (.aload_n 0, 1) := by decide +kernel
theorem dX4_next_127 : decode cX4_next 127 = .ok (.iconst 2, 1) := by decide +kernel
theorem dX4_next_128 : decode cX4_next 128 = .ok (.putfield 266, 3) := by decide +kernel
theorem dX4_next_131 : decode cX4_next 131 = .ok (.aload_n 0, 1) := by decide +kernel
theorem dX4_next_132 : decode cX4_next 132 = .ok (.aload_n 0, 1) := by decide +kernel
theorem dX4_next_133 : decode cX4_next 133 = .ok (.getfield 254, 3) := by decide +kernel
theorem dX4_next_136 : decode cX4_next 136 = .ok (.invokevirtual 260, 3) := by decide +kernel
theorem dX4_next_139 : decode cX4_next 139 = .ok (.bipush 48, 2) := by decide +kernel
theorem dX4_next_141 : decode cX4_next 141 = .ok (.bipush 57, 2) := by decide +kernel
theorem dX4_next_143 : decode cX4_next 143 = .ok (.invokestatic 85, 3) := by decide +kernel
theorem dX4_next_146 : decode cX4_next 146 = .ok (.ifCond .eq 60, 3) := by decide +kernel
theorem dX4_next_149 : decode cX4_next 149 = .ok (.aload_n 0, 1) := by decide +kernel
theorem dX4_next_150 : decode cX4_next 150 = .ok (.sipush 1000, 3) := by decide +kernel
theorem dX4_next_153 : decode cX4_next 153 = .ok (.bipush 10, 2) := by decide +kernel
theorem dX4_next_155 : decode cX4_next 155 = .ok (.aload_n 0, 1) := by decide +kernel
theorem dX4_next_156 : decode cX4_next 156 = .ok (.getfield 263, 3) := by decide +kernel
theorem dX4_next_159 : decode cX4_next 159 = .ok (.imul, 1) := by decide +kernel
theorem dX4_next_160 : decode cX4_next 160 = .ok (.aload_n 0, 1) := by decide +kernel
theorem dX4_next_161 : decode cX4_next 161 = .ok (.aload_n 0, 1) := by decide +kernel
theorem dX4_next_162 : decode cX4_next 162 = .ok (.getfield 254, 3) := by decide +kernel
theorem dX4_next_165 : decode cX4_next 165 = .ok (.invokevirtual 260, 3) := by decide +kernel
theorem dX4_next_168 : decode cX4_next 168 = .ok (.iadd, 1) := by decide +kernel
theorem dX4_next_169 : decode cX4_next 169 = .ok (.bipush 48, 2) := by decide +kernel
theorem dX4_next_171 : decode cX4_next 171 = .ok (.isub, 1) := by decide +kernel
theorem dX4_next_172 : decode cX4_next 172 = .ok (.invokestatic 159, 3) := by decide +kernel
theorem dX4_next_175 : decode cX4_next 175 = .ok (.putfield 263, 3) := by decide +kernel
theorem dX4_next_178 : decode cX4_next 178 = .ok (.aload_n 0, 1) := by decide +kernel
theorem dX4_next_179 : decode cX4_next 179 = .ok (.dup, 1) := by decide +kernel
theorem dX4_next_180 : decode cX4_next 180 = .ok (.getfield 254, 3) := by decide +kernel
theorem dX4_next_183 : decode cX4_next 183 = .ok (.iconst 1, 1) := by decide +kernel
theorem dX4_next_184 : decode cX4_next 184 = .ok (.iadd, 1) := by decide +kernel
theorem dX4_next_185 : decode cX4_next 185 = .ok (.putfield 254, 3) := by decide +kernel
theorem dX4_next_188 : decode cX4_next 188 = .ok (.goto (-57), 3) := by decide +kernel
theorem dX4_next_191 : decode cX4_next 191 = .ok (.aload_n 0, 1) := by decide +kernel
theorem dX4_next_192 : decode cX4_next 192 = .ok (.iconst 3, 1) := by decide +kernel
theorem dX4_next_193 : decode cX4_next 193 = .ok (.putfield 266, 3) := by decide +kernel
theorem dX4_next_196 : decode cX4_next 196 = .ok (.aload_n 0, 1) := by decide +kernel
theorem dX4_next_197 : decode cX4_next 197 = .ok (.dup, 1) := by decide +kernel
theorem dX4_next_198 : decode cX4_next 198 = .ok (.getfield 254, 3) := by decide +kernel
theorem dX4_next_201 : decode cX4_next 201 = .ok (.iconst 1, 1) := by decide +kernel
theorem dX4_next_202 : decode cX4_next 202 = .ok (.iadd, 1) := by decide +kernel
theorem dX4_next_203 : decode cX4_next 203 = .ok (.putfield 254, 3) := by decide +kernel
theorem dX4_next_206 : decode cX4_next 206 = .ok (.return_, 1) := by decide +kernel
theorem dX4_isWord_0 : decode cX4_isWord 0 = .ok (.aload_n 0, 1) := by decide +kernel
theorem dX4_isWord_1 : decode cX4_isWord 1 = .ok (.getfield 266, 3) := by decide +kernel
theorem dX4_isWord_4 : decode cX4_isWord 4 = .ok (.iconst 1, 1) := by decide +kernel
theorem dX4_isWord_5 : decode cX4_isWord 5 = .ok (.if_icmp .ne 23, 3) := by decide +kernel
theorem dX4_isWord_8 : decode cX4_isWord 8 = .ok (.aload_n 0, 1) := by decide +kernel
theorem dX4_isWord_9 : decode cX4_isWord 9 = .ok (.getfield 254, 3) := by decide +kernel
theorem dX4_isWord_12 : decode cX4_isWord 12 = .ok (.aload_n 0, 1) := by decide +kernel
theorem dX4_isWord_13 : decode cX4_isWord 13 = .ok (.getfield 257, 3) := by decide +kernel
theorem dX4_isWord_16 : decode cX4_isWord 16 = .ok (.isub, 1) := by decide +kernel
theorem dX4_isWord_17 : decode cX4_isWord 17 = .ok (.aload_n 1, 1) := by decide +kernel
theorem dX4_isWord_18 : decode cX4_isWord 18 = .ok (.invokevirtual 269, 3) := by decide +kernel
theorem dX4_isWord_21 : decode cX4_isWord 21 = .ok (.if_icmp .ne 7, 3) := by decide +kernel
theorem dX4_isWord_24 : decode cX4_isWord 24 = .ok (.iconst 1, 1) := by decide +kernel
theorem dX4_isWord_25 : decode cX4_isWord 25 = .ok (.goto 4, 3) := by decide +kernel
theorem dX4_isWord_28 : decode cX4_isWord 28 = .ok (.iconst 0, 1) := by decide +kernel
theorem dX4_isWord_29 : decode cX4_isWord 29 = .ok (.istore_n 2, 1) := by decide +kernel
theorem dX4_isWord_30 : decode cX4_isWord 30 = .ok (.iconst 0, 1) := by decide +kernel
theorem dX4_isWord_31 : decode cX4_isWord 31 = .ok (.istore_n 3, 1) := by decide +kernel
theorem dX4_isWord_32 : decode cX4_isWord 32 = .ok (.iload_n 3, 1) := by decide +kernel
theorem dX4_isWord_33 : decode cX4_isWord 33 = .ok (.aload_n 1, 1) := by decide +kernel
theorem dX4_isWord_34 : decode cX4_isWord 34 = .ok (.invokevirtual 269, 3) := by decide +kernel
theorem dX4_isWord_37 : decode cX4_isWord 37 = .ok (.if_icmp .ge 38, 3) := by decide +kernel
theorem dX4_isWord_40 : decode cX4_isWord 40 = .ok (.iload_n 2, 1) := by decide +kernel
theorem dX4_isWord_41 : decode cX4_isWord 41 = .ok (.ifCond .eq 34, 3) := by decide +kernel
theorem dX4_isWord_44 : decode cX4_isWord 44 = .ok (.aload_n 0, 1) := by decide +kernel
theorem dX4_isWord_45 : decode cX4_isWord 45 = .ok (.getfield 37, 3) := by decide +kernel
theorem dX4_isWord_48 : decode cX4_isWord 48 = .ok (.aload_n 0, 1) := by decide +kernel
theorem dX4_isWord_49 : decode cX4_isWord 49 = .ok (.getfield 257, 3) := by decide +kernel
theorem dX4_isWord_52 : decode cX4_isWord 52 = .ok (.iload_n 3, 1) := by decide +kernel
theorem dX4_isWord_53 : decode cX4_isWord 53 = .ok (.iadd, 1) := by decide +kernel
theorem dX4_isWord_54 : decode cX4_isWord 54 = .ok (.iaload, 1) := by decide +kernel
theorem dX4_isWord_55 : decode cX4_isWord 55 = .ok (.aload_n 1, 1) := by decide +kernel
theorem dX4_isWord_56 : decode cX4_isWord 56 = .ok (.iload_n 3, 1) := by decide +kernel
theorem dX4_isWord_57 : decode cX4_isWord 57 = .ok (.invokevirtual 272, 3) := by decide +kernel
theorem dX4_isWord_60 : decode cX4_isWord 60 = .ok (.if_icmp .ne 7, 3) := by decide +kernel
theorem dX4_isWord_63 : decode cX4_isWord 63 = .ok (.iconst 1, 1) := by decide +kernel
theorem dX4_isWord_64 : decode cX4_isWord 64 = .ok (.goto 4, 3) := by decide +kernel
theorem dX4_isWord_67 : decode cX4_isWord 67 = .ok (.iconst 0, 1) := by decide +kernel
theorem dX4_isWord_68 : decode cX4_isWord 68 = .ok (.istore_n 2, 1) := by decide +kernel
theorem dX4_isWord_69 : decode cX4_isWord 69 = .ok (.iinc 3 1, 3) := by decide +kernel
theorem dX4_isWord_72 : decode cX4_isWord 72 = .ok (.goto (-40), 3) := by decide +kernel
theorem dX4_isWord_75 : decode cX4_isWord 75 = .ok (.iload_n 2, 1) := by decide +kernel
theorem dX4_isWord_76 : decode cX4_isWord 76 = .ok (.ireturn, 1) := by decide +kernel
theorem dX4_must_0 : decode cX4_must 0 = .ok (.aload_n 0, 1) := by decide +kernel
theorem dX4_must_1 : decode cX4_must 1 = .ok (.aload_n 0, 1) := by decide +kernel
theorem dX4_must_2 : decode cX4_must 2 = .ok (.getfield 276, 3) := by decide +kernel
theorem dX4_must_5 : decode cX4_must 5 = .ok (.ifCond .ne 7, 3) := by decide +kernel
theorem dX4_must_8 : decode cX4_must 8 = .ok (.iload_n 1, 1) := by decide +kernel
theorem dX4_must_9 : decode cX4_must 9 = .ok (.ifCond .ne 7, 3) := by decide +kernel
theorem dX4_must_12 : decode cX4_must 12 = .ok (.iconst 1, 1) := by decide +kernel
theorem dX4_must_13 : decode cX4_must 13 = .ok (.goto 4, 3) := by decide +kernel
theorem dX4_must_16 : decode cX4_must 16 = .ok (.iconst 0, 1) := by decide +kernel
theorem dX4_must_17 : decode cX4_must 17 = .ok (.putfield 276, 3) := by decide +kernel
theorem dX4_must_20 : decode cX4_must 20 = .ok (.aload_n 0, 1) := by decide +kernel
theorem dX4_must_21 : decode cX4_must 21 = .ok (.getfield 276, 3) := by decide +kernel
theorem dX4_must_24 : decode cX4_must 24 = .ok (.ifCond .ne 7, 3) := by decide +kernel
theorem dX4_must_27 : decode cX4_must 27 = .ok (.aload_n 0, 1) := by decide +kernel
theorem dX4_must_28 : decode cX4_must 28 = .ok (.invokevirtual 280, 3) := by decide +kernel
theorem dX4_must_31 : decode cX4_must 31 = .ok (.return_, 1) := by decide +kernel
theorem dX4_number_0 : decode cX4_number 0 = .ok (.aload_n 0, 1) := by decide +kernel
theorem dX4_number_1 : decode cX4_number 1 = .ok (.getfield 263, 3) := by decide +kernel
theorem dX4_number_4 : decode cX4_number 4 = .ok (.istore_n 3, 1) := by decide +kernel
theorem dX4_number_5 : decode cX4_number 5 = .ok (.aload_n 0, 1) := by decide +kernel
theorem dX4_number_6 : decode cX4_number 6 = .ok (.aload_n 0, 1) := by decide +kernel
theorem dX4_number_7 : decode cX4_number 7 = .ok (.getfield 266, 3) := by decide +kernel
theorem dX4_number_10 : decode cX4_number 10 = .ok (.iconst 2, 1) := by decide +kernel
theorem dX4_number_11 : decode cX4_number 11 = .ok (.if_icmp .ne 16, 3) := by decide +kernel
theorem dX4_number_14 : decode cX4_number 14 = .ok (.iload_n 3, 1) := by decide +kernel
theorem dX4_number_15 : decode cX4_number 15 = .ok (.iload_n 1, 1) := by decide +kernel
theorem dX4_number_16 : decode cX4_number 16 = .ok (.iload_n 2, 1) := by decide +kernel
theorem dX4_number_17 : decode cX4_number 17 = .ok (.invokestatic 85, 3) := by decide +kernel
theorem dX4_number_20 : decode cX4_number 20 = .ok (.ifCond .eq 7, 3) := by decide +kernel
theorem dX4_number_23 : decode cX4_number 23 = .ok (.iconst 1, 1) := by decide +kernel
theorem dX4_number_24 : decode cX4_number 24 = .ok (.goto 4, 3) := by decide +kernel
theorem dX4_number_27 : decode cX4_number 27 = .ok (.iconst 0, 1) := by decide +kernel
theorem dX4_number_28 : decode cX4_number 28 = .ok (.invokevirtual 283, 3) := by decide +kernel
theorem dX4_number_31 : decode cX4_number 31 = .ok (.iload_n 3, 1) := by decide +kernel
theorem dX4_number_32 : decode cX4_number 32 = .ok (.ireturn, 1) := by decide +kernel
theorem dX4_addItem_0 : decode cX4_addItem 0 = .ok (.iconst 5, 1) := by decide +kernel
theorem dX4_addItem_1 : decode cX4_addItem 1 = .ok (.aload_n 0, 1) := by decide +kernel
theorem dX4_addItem_2 : decode cX4_addItem 2 = .ok (.getfield 287, 3) := by decide +kernel
theorem dX4_addItem_5 : decode cX4_addItem 5 = .ok (.imul, 1) := by decide +kernel
theorem dX4_addItem_6 : decode cX4_addItem 6 = .ok (.istore 6, 2) := by decide +kernel
theorem dX4_addItem_8 : decode cX4_addItem 8 = .ok (.aload_n 0, 1) := by decide +kernel
theorem dX4_addItem_9 : decode cX4_addItem 9 = .ok (.getfield 60, 3) := by decide +kernel
theorem dX4_addItem_12 : decode cX4_addItem 12 = .ok (.iload 6, 2) := by decide +kernel
theorem dX4_addItem_14 : decode cX4_addItem 14 = .ok (.iload_n 1, 1) := by decide +kernel
theorem dX4_addItem_15 : decode cX4_addItem 15 = .ok (.iastore, 1) := by decide +kernel
theorem dX4_addItem_16 : decode cX4_addItem 16 = .ok (.aload_n 0, 1) := by decide +kernel
theorem dX4_addItem_17 : decode cX4_addItem 17 = .ok (.getfield 60, 3) := by decide +kernel
theorem dX4_addItem_20 : decode cX4_addItem 20 = .ok (.iload 6, 2) := by decide +kernel
theorem dX4_addItem_22 : decode cX4_addItem 22 = .ok (.iconst 1, 1) := by decide +kernel
theorem dX4_addItem_23 : decode cX4_addItem 23 = .ok (.iadd, 1) := by decide +kernel
theorem dX4_addItem_24 : decode cX4_addItem 24 = .ok (.iload_n 2, 1) := by decide +kernel
theorem dX4_addItem_25 : decode cX4_addItem 25 = .ok (.iastore, 1) := by decide +kernel
theorem dX4_addItem_26 : decode cX4_addItem 26 = .ok (.aload_n 0, 1) := by decide +kernel
theorem dX4_addItem_27 : decode cX4_addItem 27 = .ok (.getfield 60, 3) := by decide +kernel
theorem dX4_addItem_30 : decode cX4_addItem 30 = .ok (.iload 6, 2) := by decide +kernel
theorem dX4_addItem_32 : decode cX4_addItem 32 = .ok (.iconst 2, 1) := by decide +kernel
theorem dX4_addItem_33 : decode cX4_addItem 33 = .ok (.iadd, 1) := by decide +kernel
theorem dX4_addItem_34 : decode cX4_addItem 34 = .ok (.iload_n 3, 1) := by decide +kernel
theorem dX4_addItem_35 : decode cX4_addItem 35 = .ok (.iastore, 1) := by decide +kernel
theorem dX4_addItem_36 : decode cX4_addItem 36 = .ok (.aload_n 0, 1) := by decide +kernel
theorem dX4_addItem_37 : decode cX4_addItem 37 = .ok (.getfield 60, 3) := by decide +kernel
theorem dX4_addItem_40 : decode cX4_addItem 40 = .ok (.iload 6, 2) := by decide +kernel
theorem dX4_addItem_42 : decode cX4_addItem 42 = .ok (.iconst 3, 1) := by decide +kernel
theorem dX4_addItem_43 : decode cX4_addItem 43 = .ok (.iadd, 1) := by decide +kernel
theorem dX4_addItem_44 : decode cX4_addItem 44 = .ok (.iload 4, 2) := by decide +kernel
theorem dX4_addItem_46 : decode cX4_addItem 46 = .ok (.iastore, 1) := by decide +kernel
theorem dX4_addItem_47 : decode cX4_addItem 47 = .ok (.aload_n 0, 1) := by decide +kernel
theorem dX4_addItem_48 : decode cX4_addItem 48 = .ok (.getfield 60, 3) := by decide +kernel
theorem dX4_addItem_51 : decode cX4_addItem 51 = .ok (.iload 6, 2) := by decide +kernel
theorem dX4_addItem_53 : decode cX4_addItem 53 = .ok (.iconst 4, 1) := by decide +kernel
theorem dX4_addItem_54 : decode cX4_addItem 54 = .ok (.iadd, 1) := by decide +kernel
theorem dX4_addItem_55 : decode cX4_addItem 55 = .ok (.iload 5, 2) := by decide +kernel
theorem dX4_addItem_57 : decode cX4_addItem 57 = .ok (.iastore, 1) := by decide +kernel
theorem dX4_addItem_58 : decode cX4_addItem 58 = .ok (.aload_n 0, 1) := by decide +kernel
theorem dX4_addItem_59 : decode cX4_addItem 59 = .ok (.dup, 1) := by decide +kernel
theorem dX4_addItem_60 : decode cX4_addItem 60 = .ok (.getfield 287, 3) := by decide +kernel
theorem dX4_addItem_63 : decode cX4_addItem 63 = .ok (.iconst 1, 1) := by decide +kernel
theorem dX4_addItem_64 : decode cX4_addItem 64 = .ok (.iadd, 1) := by decide +kernel
theorem dX4_addItem_65 : decode cX4_addItem 65 = .ok (.putfield 287, 3) := by decide +kernel
theorem dX4_addItem_68 : decode cX4_addItem 68 = .ok (.return_, 1) := by decide +kernel
theorem dX4_kindTold_0 : decode cX4_kindTold 0 = .ok (.iconst (-1), 1) := by decide +kernel
theorem dX4_kindTold_1 : decode cX4_kindTold 1 = .ok (.istore_n 1, 1) := by decide +kernel
theorem dX4_kindTold_2 : decode cX4_kindTold 2 = .ok (.iconst 0, 1) := by decide +kernel
theorem dX4_kindTold_3 : decode cX4_kindTold 3 = .ok (.istore_n 2, 1) := by decide +kernel
theorem dX4_kindTold_4 : decode cX4_kindTold 4 = .ok (.iload_n 2, 1) := by decide +kernel
theorem dX4_kindTold_5 : decode cX4_kindTold 5 = .ok (.aload_n 0, 1) := by decide +kernel
theorem dX4_kindTold_6 : decode cX4_kindTold 6 = .ok (.getfield 56, 3) := by decide +kernel
theorem dX4_kindTold_9 : decode cX4_kindTold 9 = .ok (.arraylength, 1) := by decide +kernel
theorem dX4_kindTold_10 : decode cX4_kindTold 10 = .ok (.if_icmp .ge 28, 3) := by decide +kernel
theorem dX4_kindTold_13 : decode cX4_kindTold 13 = .ok (.aload_n 0, 1) := by decide +kernel
theorem dX4_kindTold_14 : decode cX4_kindTold 14 = .ok (.aload_n 0, 1) := by decide +kernel
theorem dX4_kindTold_15 : decode cX4_kindTold 15 = .ok (.getfield 56, 3) := by decide +kernel
theorem dX4_kindTold_18 : decode cX4_kindTold 18 = .ok (.iload_n 2, 1) := by decide +kernel
theorem dX4_kindTold_19 : decode cX4_kindTold 19 = .ok (.aaload, 1) := by decide +kernel
theorem dX4_kindTold_20 : decode cX4_kindTold 20 = .ok (.invokevirtual 290, 3) := by decide +kernel
theorem dX4_kindTold_23 : decode cX4_kindTold 23 = .ok (.ifCond .eq 7, 3) := by decide +kernel
theorem dX4_kindTold_26 : decode cX4_kindTold 26 = .ok (.iload_n 2, 1) := by decide +kernel
theorem dX4_kindTold_27 : decode cX4_kindTold 27 = .ok (.goto 4, 3) := by decide +kernel
theorem dX4_kindTold_30 : decode cX4_kindTold 30 = .ok (.iload_n 1, 1) := by decide +kernel
theorem dX4_kindTold_31 : decode cX4_kindTold 31 = .ok (.istore_n 1, 1) := by decide +kernel
theorem dX4_kindTold_32 : decode cX4_kindTold 32 = .ok (.iinc 2 1, 3) := by decide +kernel
theorem dX4_kindTold_35 : decode cX4_kindTold 35 = .ok (.goto (-31), 3) := by decide +kernel
theorem dX4_kindTold_38 : decode cX4_kindTold 38 = .ok (.iload_n 1, 1) := by decide +kernel
theorem dX4_kindTold_39 : decode cX4_kindTold 39 = .ok (.ireturn, 1) := by decide +kernel
theorem dX4_afterWord_0 : decode cX4_afterWord 0 = .ok (.aload_n 0, 1) := by decide +kernel
theorem dX4_afterWord_1 : decode cX4_afterWord 1 = .ok (.getfield 276, 3) := by decide +kernel
theorem dX4_afterWord_4 : decode cX4_afterWord 4 = .ok (.ifCond .ne 11, 3) := by decide +kernel
theorem dX4_afterWord_7 : decode cX4_afterWord 7 = .ok (.aload_n 0, 1) := by decide +kernel
theorem dX4_afterWord_8 : decode cX4_afterWord 8 = .ok (.aload_n 1, 1) := by decide +kernel
theorem dX4_afterWord_9 : decode cX4_afterWord 9 = .ok (.invokevirtual 290, 3) := by decide +kernel
theorem dX4_afterWord_12 : decode cX4_afterWord 12 = .ok (.ifCond .ne 5, 3) := by decide +kernel
theorem dX4_afterWord_15 : decode cX4_afterWord 15 = .ok (.iload_n 3, 1) := by decide +kernel
theorem dX4_afterWord_16 : decode cX4_afterWord 16 = .ok (.ireturn, 1) := by decide +kernel
theorem dX4_afterWord_17 : decode cX4_afterWord 17 = .ok (.aload_n 0, 1) := by decide +kernel
theorem dX4_afterWord_18 : decode cX4_afterWord 18 = .ok (.iconst 1, 1) := by decide +kernel
theorem dX4_afterWord_19 : decode cX4_afterWord 19 = .ok (.invokevirtual 283, 3) := by decide +kernel
theorem dX4_afterWord_22 : decode cX4_afterWord 22 = .ok (.aload_n 0, 1) := by decide +kernel
theorem dX4_afterWord_23 : decode cX4_afterWord 23 = .ok (.iconst 0, 1) := by decide +kernel
theorem dX4_afterWord_24 : decode cX4_afterWord 24 = .ok (.iload_n 2, 1) := by decide +kernel
theorem dX4_afterWord_25 : decode cX4_afterWord 25 = .ok (.invokevirtual 294, 3) := by decide +kernel
theorem dX4_afterWord_28 : decode cX4_afterWord 28 = .ok (.ireturn, 1) := by decide +kernel
theorem dX4_stepTold_0 : decode cX4_stepTold 0 = .ok (.aload_n 0, 1) := by decide +kernel
theorem dX4_stepTold_1 : decode cX4_stepTold 1 = .ok (.getfield 276, 3) := by decide +kernel
theorem dX4_stepTold_4 : decode cX4_stepTold 4 = .ok (.ifCond .ne 13, 3) := by decide +kernel
theorem dX4_stepTold_7 : decode cX4_stepTold 7 = .ok (.aload_n 0, 1) := by decide +kernel
theorem dX4_stepTold_8 : decode cX4_stepTold 8 = .ok (.ldc_w 297, 3) := by decide +kernel
theorem dX4_stepTold_11 : decode cX4_stepTold 11 = .ok (.invokevirtual 290, 3) := by decide +kernel
theorem dX4_stepTold_14 : decode cX4_stepTold 14 = .ok (.ifCond .ne 5, 3) := by decide +kernel
theorem dX4_stepTold_17 : decode cX4_stepTold 17 = .ok (.iconst 1, 1) := by decide +kernel
theorem dX4_stepTold_18 : decode cX4_stepTold 18 = .ok (.ireturn, 1) := by decide +kernel
theorem dX4_stepTold_19 : decode cX4_stepTold 19 = .ok (.aload_n 0, 1) := by decide +kernel
theorem dX4_stepTold_20 : decode cX4_stepTold 20 = .ok (.iconst 1, 1) := by decide +kernel
theorem dX4_stepTold_21 : decode cX4_stepTold 21 = .ok (.invokevirtual 283, 3) := by decide +kernel
theorem dX4_stepTold_24 : decode cX4_stepTold 24 = .ok (.aload_n 0, 1) := by decide +kernel
theorem dX4_stepTold_25 : decode cX4_stepTold 25 = .ok (.getfield 266, 3) := by decide +kernel
theorem dX4_stepTold_28 : decode cX4_stepTold 28 = .ok (.iconst 3, 1) := by decide +kernel
theorem dX4_stepTold_29 : decode cX4_stepTold 29 = .ok (.if_icmp .ne 21, 3) := by decide +kernel
theorem dX4_stepTold_32 : decode cX4_stepTold 32 = .ok (.aload_n 0, 1) := by decide +kernel
theorem dX4_stepTold_33 : decode cX4_stepTold 33 = .ok (.getfield 37, 3) := by decide +kernel
theorem dX4_stepTold_36 : decode cX4_stepTold 36 = .ok (.aload_n 0, 1) := by decide +kernel
theorem dX4_stepTold_37 : decode cX4_stepTold 37 = .ok (.getfield 257, 3) := by decide +kernel
theorem dX4_stepTold_40 : decode cX4_stepTold 40 = .ok (.iaload, 1) := by decide +kernel
theorem dX4_stepTold_41 : decode cX4_stepTold 41 = .ok (.bipush 45, 2) := by decide +kernel
theorem dX4_stepTold_43 : decode cX4_stepTold 43 = .ok (.if_icmp .ne 7, 3) := by decide +kernel
theorem dX4_stepTold_46 : decode cX4_stepTold 46 = .ok (.iconst 1, 1) := by decide +kernel
theorem dX4_stepTold_47 : decode cX4_stepTold 47 = .ok (.goto 4, 3) := by decide +kernel
theorem dX4_stepTold_50 : decode cX4_stepTold 50 = .ok (.iconst 0, 1) := by decide +kernel
theorem dX4_stepTold_51 : decode cX4_stepTold 51 = .ok (.istore_n 1, 1) := by decide +kernel
theorem dX4_stepTold_52 : decode cX4_stepTold 52 = .ok (.iload_n 1, 1) := by decide +kernel
theorem dX4_stepTold_53 : decode cX4_stepTold 53 = .ok (.ifCond .eq 8, 3) := by decide +kernel
theorem dX4_stepTold_56 : decode cX4_stepTold 56 = .ok (.aload_n 0, 1) := by decide +kernel
theorem dX4_stepTold_57 : decode cX4_stepTold 57 = .ok (.iconst 1, 1) := by decide +kernel
theorem dX4_stepTold_58 : decode cX4_stepTold 58 = .ok (.invokevirtual 283, 3) := by decide +kernel
theorem dX4_stepTold_61 : decode cX4_stepTold 61 = .ok (.aload_n 0, 1) := by decide +kernel
theorem dX4_stepTold_62 : decode cX4_stepTold 62 = .ok (.iconst 0, 1) := by decide +kernel
theorem dX4_stepTold_63 : decode cX4_stepTold 63 = .ok (.iconst 5, 1) := by decide +kernel
theorem dX4_stepTold_64 : decode cX4_stepTold 64 = .ok (.invokevirtual 294, 3) := by decide +kernel
theorem dX4_stepTold_67 : decode cX4_stepTold 67 = .ok (.istore_n 2, 1) := by decide +kernel
theorem dX4_stepTold_68 : decode cX4_stepTold 68 = .ok (.iload_n 1, 1) := by decide +kernel
theorem dX4_stepTold_69 : decode cX4_stepTold 69 = .ok (.ifCond .eq 8, 3) := by decide +kernel
theorem dX4_stepTold_72 : decode cX4_stepTold 72 = .ok (.iload_n 2, 1) := by decide +kernel
theorem dX4_stepTold_73 : decode cX4_stepTold 73 = .ok (.ineg, 1) := by decide +kernel
theorem dX4_stepTold_74 : decode cX4_stepTold 74 = .ok (.goto 4, 3) := by decide +kernel
theorem dX4_stepTold_77 : decode cX4_stepTold 77 = .ok (.iload_n 2, 1) := by decide +kernel
theorem dX4_stepTold_78 : decode cX4_stepTold 78 = .ok (.ireturn, 1) := by decide +kernel
theorem dX4_readItem_0 : decode cX4_readItem 0 = .ok (.aload_n 0, 1) := by decide +kernel
theorem dX4_readItem_1 : decode cX4_readItem 1 = .ok (.invokevirtual 299, 3) := by decide +kernel
theorem dX4_readItem_4 : decode cX4_readItem 4 = .ok (.istore_n 1, 1) := by decide +kernel
theorem dX4_readItem_5 : decode cX4_readItem 5 = .ok (.iload_n 1, 1) := by decide +kernel
theorem dX4_readItem_6 : decode cX4_readItem 6 = .ok (.ifCond .lt 81, 3) := by decide +kernel
theorem dX4_readItem_9 : decode cX4_readItem 9 = .ok (.aload_n 0, 1) := by decide +kernel
theorem dX4_readItem_10 : decode cX4_readItem 10 = .ok (.aload_n 0, 1) := by decide +kernel
theorem dX4_readItem_11 : decode cX4_readItem 11 = .ok (.getfield 302, 3) := by decide +kernel
theorem dX4_readItem_14 : decode cX4_readItem 14 = .ok (.bipush 8, 2) := by decide +kernel
theorem dX4_readItem_16 : decode cX4_readItem 16 = .ok (.if_icmp .ge 7, 3) := by decide +kernel
theorem dX4_readItem_19 : decode cX4_readItem 19 = .ok (.iconst 1, 1) := by decide +kernel
theorem dX4_readItem_20 : decode cX4_readItem 20 = .ok (.goto 4, 3) := by decide +kernel
theorem dX4_readItem_23 : decode cX4_readItem 23 = .ok (.iconst 0, 1) := by decide +kernel
theorem dX4_readItem_24 : decode cX4_readItem 24 = .ok (.invokevirtual 283, 3) := by decide +kernel
theorem dX4_readItem_27 : decode cX4_readItem 27 = .ok (.aload_n 0, 1) := by decide +kernel
theorem dX4_readItem_28 : decode cX4_readItem 28 = .ok (.dup, 1) := by decide +kernel
theorem dX4_readItem_29 : decode cX4_readItem 29 = .ok (.getfield 302, 3) := by decide +kernel
theorem dX4_readItem_32 : decode cX4_readItem 32 = .ok (.iconst 1, 1) := by decide +kernel
theorem dX4_readItem_33 : decode cX4_readItem 33 = .ok (.iadd, 1) := by decide +kernel
theorem dX4_readItem_34 : decode cX4_readItem 34 = .ok (.putfield 302, 3) := by decide +kernel
theorem dX4_readItem_37 : decode cX4_readItem 37 = .ok (.aload_n 0, 1) := by decide +kernel
theorem dX4_readItem_38 : decode cX4_readItem 38 = .ok (.ldc_w 305, 3) := by decide +kernel
theorem dX4_readItem_41 : decode cX4_readItem 41 = .ok (.bipush 11, 2) := by decide +kernel
theorem dX4_readItem_43 : decode cX4_readItem 43 = .ok (.iconst 0, 1) := by decide +kernel
theorem dX4_readItem_44 : decode cX4_readItem 44 = .ok (.invokevirtual 306, 3) := by decide +kernel
theorem dX4_readItem_47 : decode cX4_readItem 47 = .ok (.istore_n 2, 1) := by decide +kernel
theorem dX4_readItem_48 : decode cX4_readItem 48 = .ok (.aload_n 0, 1) := by decide +kernel
theorem dX4_readItem_49 : decode cX4_readItem 49 = .ok (.invokevirtual 310, 3) := by decide +kernel
theorem dX4_readItem_52 : decode cX4_readItem 52 = .ok (.istore_n 3, 1) := by decide +kernel
theorem dX4_readItem_53 : decode cX4_readItem 53 = .ok (.aload_n 0, 1) := by decide +kernel
theorem dX4_readItem_54 : decode cX4_readItem 54 = .ok (.ldc_w 313, 3) := by decide +kernel
theorem dX4_readItem_57 : decode cX4_readItem 57 = .ok (.iconst 3, 1) := by decide +kernel
theorem dX4_readItem_58 : decode cX4_readItem 58 = .ok (.iconst 0, 1) := by decide +kernel
theorem dX4_readItem_59 : decode cX4_readItem 59 = .ok (.invokevirtual 306, 3) := by decide +kernel
theorem dX4_readItem_62 : decode cX4_readItem 62 = .ok (.istore 4, 2) := by decide +kernel
theorem dX4_readItem_64 : decode cX4_readItem 64 = .ok (.aload_n 0, 1) := by decide +kernel
theorem dX4_readItem_65 : decode cX4_readItem 65 = .ok (.iload_n 1, 1) := by decide +kernel
theorem dX4_readItem_66 : decode cX4_readItem 66 = .ok (.iload_n 2, 1) := by decide +kernel
theorem dX4_readItem_67 : decode cX4_readItem 67 = .ok (.iload_n 3, 1) := by decide +kernel
theorem dX4_readItem_68 : decode cX4_readItem 68 = .ok (.iload 4, 2) := by decide +kernel
theorem dX4_readItem_70 : decode cX4_readItem 70 = .ok (.aload_n 0, 1) := by decide +kernel
theorem dX4_readItem_71 : decode cX4_readItem 71 = .ok (.ldc_w 315, 3) := by decide +kernel
theorem dX4_readItem_74 : decode cX4_readItem 74 = .ok (.bipush 99, 2) := by decide +kernel
theorem dX4_readItem_76 : decode cX4_readItem 76 = .ok (.bipush 50, 2) := by decide +kernel
theorem dX4_readItem_78 : decode cX4_readItem 78 = .ok (.invokevirtual 306, 3) := by decide +kernel
theorem dX4_readItem_81 : decode cX4_readItem 81 = .ok (.invokevirtual 317, 3) := by decide +kernel
theorem dX4_readItem_84 : decode cX4_readItem 84 = .ok (.goto 30, 3) := by decide +kernel
theorem dX4_readItem_87 : decode cX4_readItem 87 = .ok (.aload_n 0, 1) := by decide +kernel
theorem dX4_readItem_88 : decode cX4_readItem 88 = .ok (.aload_n 0, 1) := by decide +kernel
theorem dX4_readItem_89 : decode cX4_readItem 89 = .ok (.ldc_w 321, 3) := by decide +kernel
theorem dX4_readItem_92 : decode cX4_readItem 92 = .ok (.invokevirtual 290, 3) := by decide +kernel
theorem dX4_readItem_95 : decode cX4_readItem 95 = .ok (.invokevirtual 283, 3) := by decide +kernel
theorem dX4_readItem_98 : decode cX4_readItem 98 = .ok (.aload_n 0, 1) := by decide +kernel
theorem dX4_readItem_99 : decode cX4_readItem 99 = .ok (.bipush 10, 2) := by decide +kernel
theorem dX4_readItem_101 : decode cX4_readItem 101 = .ok (.aload_n 0, 1) := by decide +kernel
theorem dX4_readItem_102 : decode cX4_readItem 102 = .ok (.iconst 0, 1) := by decide +kernel
theorem dX4_readItem_103 : decode cX4_readItem 103 = .ok (.bipush 9, 2) := by decide +kernel
theorem dX4_readItem_105 : decode cX4_readItem 105 = .ok (.invokevirtual 294, 3) := by decide +kernel
theorem dX4_readItem_108 : decode cX4_readItem 108 = .ok (.iconst 0, 1) := by decide +kernel
theorem dX4_readItem_109 : decode cX4_readItem 109 = .ok (.iconst 0, 1) := by decide +kernel
theorem dX4_readItem_110 : decode cX4_readItem 110 = .ok (.iconst 0, 1) := by decide +kernel
theorem dX4_readItem_111 : decode cX4_readItem 111 = .ok (.invokevirtual 317, 3) := by decide +kernel
theorem dX4_readItem_114 : decode cX4_readItem 114 = .ok (.return_, 1) := by decide +kernel
theorem dX4_isToldSo_0 : decode cX4_isToldSo 0 = .ok (.aload_n 0, 1) := by decide +kernel
theorem dX4_isToldSo_1 : decode cX4_isToldSo 1 = .ok (.getfield 60, 3) := by decide +kernel
theorem dX4_isToldSo_4 : decode cX4_isToldSo 4 = .ok (.iload_n 1, 1) := by decide +kernel
theorem dX4_isToldSo_5 : decode cX4_isToldSo 5 = .ok (.iconst 1, 1) := by decide +kernel
theorem dX4_isToldSo_6 : decode cX4_isToldSo 6 = .ok (.iadd, 1) := by decide +kernel
theorem dX4_isToldSo_7 : decode cX4_isToldSo 7 = .ok (.iaload, 1) := by decide +kernel
theorem dX4_isToldSo_8 : decode cX4_isToldSo 8 = .ok (.istore_n 2, 1) := by decide +kernel
theorem dX4_isToldSo_9 : decode cX4_isToldSo 9 = .ok (.aload_n 0, 1) := by decide +kernel
theorem dX4_isToldSo_10 : decode cX4_isToldSo 10 = .ok (.getfield 60, 3) := by decide +kernel
theorem dX4_isToldSo_13 : decode cX4_isToldSo 13 = .ok (.iload_n 1, 1) := by decide +kernel
theorem dX4_isToldSo_14 : decode cX4_isToldSo 14 = .ok (.iaload, 1) := by decide +kernel
theorem dX4_isToldSo_15 : decode cX4_isToldSo 15 = .ok (.bipush 10, 2) := by decide +kernel
theorem dX4_isToldSo_17 : decode cX4_isToldSo 17 = .ok (.if_icmp .ne 12, 3) := by decide +kernel
theorem dX4_isToldSo_20 : decode cX4_isToldSo 20 = .ok (.aload_n 0, 1) := by decide +kernel
theorem dX4_isToldSo_21 : decode cX4_isToldSo 21 = .ok (.iconst 3, 1) := by decide +kernel
theorem dX4_isToldSo_22 : decode cX4_isToldSo 22 = .ok (.iload_n 2, 1) := by decide +kernel
theorem dX4_isToldSo_23 : decode cX4_isToldSo 23 = .ok (.invokevirtual 89, 3) := by decide +kernel
theorem dX4_isToldSo_26 : decode cX4_isToldSo 26 = .ok (.goto 38, 3) := by decide +kernel
theorem dX4_isToldSo_29 : decode cX4_isToldSo 29 = .ok (.aload_n 0, 1) := by decide +kernel
theorem dX4_isToldSo_30 : decode cX4_isToldSo 30 = .ok (.aload_n 0, 1) := by decide +kernel
theorem dX4_isToldSo_31 : decode cX4_isToldSo 31 = .ok (.getfield 60, 3) := by decide +kernel
theorem dX4_isToldSo_34 : decode cX4_isToldSo 34 = .ok (.iload_n 1, 1) := by decide +kernel
theorem dX4_isToldSo_35 : decode cX4_isToldSo 35 = .ok (.iaload, 1) := by decide +kernel
theorem dX4_isToldSo_36 : decode cX4_isToldSo 36 = .ok (.iload_n 2, 1) := by decide +kernel
theorem dX4_isToldSo_37 : decode cX4_isToldSo 37 = .ok (.aload_n 0, 1) := by decide +kernel
theorem dX4_isToldSo_38 : decode cX4_isToldSo 38 = .ok (.getfield 60, 3) := by decide +kernel
theorem dX4_isToldSo_41 : decode cX4_isToldSo 41 = .ok (.iload_n 1, 1) := by decide +kernel
theorem dX4_isToldSo_42 : decode cX4_isToldSo 42 = .ok (.iconst 2, 1) := by decide +kernel
theorem dX4_isToldSo_43 : decode cX4_isToldSo 43 = .ok (.iadd, 1) := by decide +kernel
theorem dX4_isToldSo_44 : decode cX4_isToldSo 44 = .ok (.iaload, 1) := by decide +kernel
theorem dX4_isToldSo_45 : decode cX4_isToldSo 45 = .ok (.aload_n 0, 1) := by decide +kernel
theorem dX4_isToldSo_46 : decode cX4_isToldSo 46 = .ok (.getfield 60, 3) := by decide +kernel
theorem dX4_isToldSo_49 : decode cX4_isToldSo 49 = .ok (.iload_n 1, 1) := by decide +kernel
theorem dX4_isToldSo_50 : decode cX4_isToldSo 50 = .ok (.iconst 3, 1) := by decide +kernel
theorem dX4_isToldSo_51 : decode cX4_isToldSo 51 = .ok (.iadd, 1) := by decide +kernel
theorem dX4_isToldSo_52 : decode cX4_isToldSo 52 = .ok (.iaload, 1) := by decide +kernel
theorem dX4_isToldSo_53 : decode cX4_isToldSo 53 = .ok (.aload_n 0, 1) := by decide +kernel
theorem dX4_isToldSo_54 : decode cX4_isToldSo 54 = .ok (.getfield 60, 3) := by decide +kernel
theorem dX4_isToldSo_57 : decode cX4_isToldSo 57 = .ok (.iload_n 1, 1) := by decide +kernel
theorem dX4_isToldSo_58 : decode cX4_isToldSo 58 = .ok (.iconst 4, 1) := by decide +kernel
theorem dX4_isToldSo_59 : decode cX4_isToldSo 59 = .ok (.iadd, 1) := by decide +kernel
theorem dX4_isToldSo_60 : decode cX4_isToldSo 60 = .ok (.iaload, 1) := by decide +kernel
theorem dX4_isToldSo_61 : decode cX4_isToldSo 61 = .ok (.invokevirtual 104, 3) := by decide +kernel
theorem dX4_isToldSo_64 : decode cX4_isToldSo 64 = .ok (.ireturn, 1) := by decide +kernel
theorem dX4_text_0 : decode cX4_text 0 = .ok (.aload_n 0, 1) := by decide +kernel
theorem dX4_text_1 : decode cX4_text 1 = .ok (.iconst 0, 1) := by decide +kernel
theorem dX4_text_2 : decode cX4_text 2 = .ok (.putfield 254, 3) := by decide +kernel
theorem dX4_text_5 : decode cX4_text 5 = .ok (.aload_n 0, 1) := by decide +kernel
theorem dX4_text_6 : decode cX4_text 6 = .ok (.iconst 0, 1) := by decide +kernel
theorem dX4_text_7 : decode cX4_text 7 = .ok (.putfield 276, 3) := by decide +kernel
theorem dX4_text_10 : decode cX4_text 10 = .ok (.aload_n 0, 1) := by decide +kernel
theorem dX4_text_11 : decode cX4_text 11 = .ok (.iconst 0, 1) := by decide +kernel
theorem dX4_text_12 : decode cX4_text 12 = .ok (.putfield 287, 3) := by decide +kernel
theorem dX4_text_15 : decode cX4_text 15 = .ok (.aload_n 0, 1) := by decide +kernel
theorem dX4_text_16 : decode cX4_text 16 = .ok (.aload_n 0, 1) := by decide +kernel
theorem dX4_text_17 : decode cX4_text 17 = .ok (.getfield 9, 3) := by decide +kernel
theorem dX4_text_20 : decode cX4_text 20 = .ok (.iconst 1, 1) := by decide +kernel
theorem dX4_text_21 : decode cX4_text 21 = .ok (.iaload, 1) := by decide +kernel
theorem dX4_text_22 : decode cX4_text 22 = .ok (.putfield 302, 3) := by decide +kernel
theorem dX4_text_25 : decode cX4_text 25 = .ok (.aload_n 0, 1) := by decide +kernel
theorem dX4_text_26 : decode cX4_text 26 = .ok (.invokevirtual 280, 3) := by decide +kernel
theorem dX4_text_29 : decode cX4_text 29 = .ok (.aload_n 0, 1) := by decide +kernel
theorem dX4_text_30 : decode cX4_text 30 = .ok (.invokevirtual 323, 3) := by decide +kernel
theorem dX4_text_33 : decode cX4_text 33 = .ok (.aload_n 0, 1) := by decide +kernel
theorem dX4_text_34 : decode cX4_text 34 = .ok (.getfield 276, 3) := by decide +kernel
theorem dX4_text_37 : decode cX4_text 37 = .ok (.ifCond .ne 37, 3) := by decide +kernel
theorem dX4_text_40 : decode cX4_text 40 = .ok (.aload_n 0, 1) := by decide +kernel
theorem dX4_text_41 : decode cX4_text 41 = .ok (.getfield 266, 3) := by decide +kernel
theorem dX4_text_44 : decode cX4_text 44 = .ok (.iconst 3, 1) := by decide +kernel
theorem dX4_text_45 : decode cX4_text 45 = .ok (.if_icmp .ne 29, 3) := by decide +kernel
theorem dX4_text_48 : decode cX4_text 48 = .ok (.aload_n 0, 1) := by decide +kernel
theorem dX4_text_49 : decode cX4_text 49 = .ok (.getfield 37, 3) := by decide +kernel
theorem dX4_text_52 : decode cX4_text 52 = .ok (.aload_n 0, 1) := by decide +kernel
theorem dX4_text_53 : decode cX4_text 53 = .ok (.getfield 257, 3) := by decide +kernel
theorem dX4_text_56 : decode cX4_text 56 = .ok (.iaload, 1) := by decide +kernel
theorem dX4_text_57 : decode cX4_text 57 = .ok (.bipush 59, 2) := by decide +kernel
theorem dX4_text_59 : decode cX4_text 59 = .ok (.if_icmp .ne 15, 3) := by decide +kernel
theorem dX4_text_62 : decode cX4_text 62 = .ok (.aload_n 0, 1) := by decide +kernel
theorem dX4_text_63 : decode cX4_text 63 = .ok (.iconst 1, 1) := by decide +kernel
theorem dX4_text_64 : decode cX4_text 64 = .ok (.invokevirtual 283, 3) := by decide +kernel
theorem dX4_text_67 : decode cX4_text 67 = .ok (.aload_n 0, 1) := by decide +kernel
theorem dX4_text_68 : decode cX4_text 68 = .ok (.invokevirtual 323, 3) := by decide +kernel
theorem dX4_text_71 : decode cX4_text 71 = .ok (.goto (-38), 3) := by decide +kernel
theorem dX4_text_74 : decode cX4_text 74 = .ok (.aload_n 0, 1) := by decide +kernel
theorem dX4_text_75 : decode cX4_text 75 = .ok (.aload_n 0, 1) := by decide +kernel
theorem dX4_text_76 : decode cX4_text 76 = .ok (.getfield 266, 3) := by decide +kernel
theorem dX4_text_79 : decode cX4_text 79 = .ok (.ifCond .ne 7, 3) := by decide +kernel
theorem dX4_text_82 : decode cX4_text 82 = .ok (.iconst 1, 1) := by decide +kernel
theorem dX4_text_83 : decode cX4_text 83 = .ok (.goto 4, 3) := by decide +kernel
theorem dX4_text_86 : decode cX4_text 86 = .ok (.iconst 0, 1) := by decide +kernel
theorem dX4_text_87 : decode cX4_text 87 = .ok (.invokevirtual 283, 3) := by decide +kernel
theorem dX4_text_90 : decode cX4_text 90 = .ok (.aload_n 0, 1) := by decide +kernel
theorem dX4_text_91 : decode cX4_text 91 = .ok (.iconst 0, 1) := by decide +kernel
theorem dX4_text_92 : decode cX4_text 92 = .ok (.putfield 250, 3) := by decide +kernel
theorem dX4_text_95 : decode cX4_text 95 = .ok (.aload_n 0, 1) := by decide +kernel
theorem dX4_text_96 : decode cX4_text 96 = .ok (.getfield 276, 3) := by decide +kernel
theorem dX4_text_99 : decode cX4_text 99 = .ok (.ifCond .eq 10, 3) := by decide +kernel
theorem dX4_text_102 : decode cX4_text 102 = .ok (.iconst (-1), 1) := by decide +kernel
theorem dX4_text_103 : decode cX4_text 103 = .ok (.aload_n 0, 1) := by decide +kernel
theorem dX4_text_104 : decode cX4_text 104 = .ok (.getfield 257, 3) := by decide +kernel
theorem dX4_text_107 : decode cX4_text 107 = .ok (.isub, 1) := by decide +kernel
theorem dX4_text_108 : decode cX4_text 108 = .ok (.ireturn, 1) := by decide +kernel
theorem dX4_text_109 : decode cX4_text 109 = .ok (.iconst 0, 1) := by decide +kernel
theorem dX4_text_110 : decode cX4_text 110 = .ok (.istore_n 1, 1) := by decide +kernel
theorem dX4_text_111 : decode cX4_text 111 = .ok (.iconst 0, 1) := by decide +kernel
theorem dX4_text_112 : decode cX4_text 112 = .ok (.istore_n 2, 1) := by decide +kernel
theorem dX4_text_113 : decode cX4_text 113 = .ok (.iload_n 2, 1) := by decide +kernel
theorem dX4_text_114 : decode cX4_text 114 = .ok (.aload_n 0, 1) := by decide +kernel
theorem dX4_text_115 : decode cX4_text 115 = .ok (.getfield 287, 3) := by decide +kernel
theorem dX4_text_118 : decode cX4_text 118 = .ok (.if_icmp .ge 27, 3) := by decide +kernel
theorem dX4_text_121 : decode cX4_text 121 = .ok (.iload_n 1, 1) := by decide +kernel
theorem dX4_text_122 : decode cX4_text 122 = .ok (.aload_n 0, 1) := by decide +kernel
theorem dX4_text_123 : decode cX4_text 123 = .ok (.iconst 5, 1) := by decide +kernel
theorem dX4_text_124 : decode cX4_text 124 = .ok (.iload_n 2, 1) := by decide +kernel
theorem dX4_text_125 : decode cX4_text 125 = .ok (.imul, 1) := by decide +kernel
theorem dX4_text_126 : decode cX4_text 126 = .ok (.invokevirtual 326, 3) := by decide +kernel
theorem dX4_text_129 : decode cX4_text 129 = .ok (.ifCond .ge 7, 3) := by decide +kernel
theorem dX4_text_132 : decode cX4_text 132 = .ok (.iconst 0, 1) := by decide +kernel
theorem dX4_text_133 : decode cX4_text 133 = .ok (.goto 4, 3) := by decide +kernel
theorem dX4_text_136 : decode cX4_text 136 = .ok (.iconst 1, 1) := by decide +kernel
theorem dX4_text_137 : decode cX4_text 137 = .ok (.iadd, 1) := by decide +kernel
theorem dX4_text_138 : decode cX4_text 138 = .ok (.istore_n 1, 1) := by decide +kernel
theorem dX4_text_139 : decode cX4_text 139 = .ok (.iinc 2 1, 3) := by decide +kernel
theorem dX4_text_142 : decode cX4_text 142 = .ok (.goto (-29), 3) := by decide +kernel
theorem dX4_text_145 : decode cX4_text 145 = .ok (.iload_n 1, 1) := by decide +kernel
theorem dX4_text_146 : decode cX4_text 146 = .ok (.ireturn, 1) := by decide +kernel
theorem dX4_isSpot_0 : decode cX4_isSpot 0 = .ok (.iload_n 0, 1) := by decide +kernel
theorem dX4_isSpot_1 : decode cX4_isSpot 1 = .ok (.iconst 0, 1) := by decide +kernel
theorem dX4_isSpot_2 : decode cX4_isSpot 2 = .ok (.bipush 9, 2) := by decide +kernel
theorem dX4_isSpot_4 : decode cX4_isSpot 4 = .ok (.invokestatic 85, 3) := by decide +kernel
theorem dX4_isSpot_7 : decode cX4_isSpot 7 = .ok (.ireturn, 1) := by decide +kernel
theorem dX4_hold_0 : decode cX4_hold 0 = .ok (.iload_n 1, 1) := by decide +kernel
theorem dX4_hold_1 : decode cX4_hold 1 = .ok (.invokestatic 329, 3) := by decide +kernel
theorem dX4_hold_4 : decode cX4_hold 4 = .ok (.ifCond .eq 16, 3) := by decide +kernel
theorem dX4_hold_7 : decode cX4_hold 7 = .ok (.iload_n 2, 1) := by decide +kernel
theorem dX4_hold_8 : decode cX4_hold 8 = .ok (.iconst (-1), 1) := by decide +kernel
theorem dX4_hold_9 : decode cX4_hold 9 = .ok (.if_icmp .eq 18, 3) := by decide +kernel
theorem dX4_hold_12 : decode cX4_hold 12 = .ok (.aload_n 0, 1) := by decide +kernel
theorem dX4_hold_13 : decode cX4_hold 13 = .ok (.iload_n 2, 1) := by decide +kernel
theorem dX4_hold_14 : decode cX4_hold 14 = .ok (.invokevirtual 135, 3) := by decide +kernel
theorem dX4_hold_17 : decode cX4_hold 17 = .ok (.ifCond .ne 10, 3) := by decide +kernel
theorem dX4_hold_20 : decode cX4_hold 20 = .ok (.aload_n 0, 1) := by decide +kernel
theorem dX4_hold_21 : decode cX4_hold 21 = .ok (.ldc 75, 2) := by decide +kernel
theorem dX4_hold_23 : decode cX4_hold 23 = .ok (.invokevirtual 81, 3) := by decide +kernel
theorem dX4_hold_26 : decode cX4_hold 26 = .ok (.ireturn, 1) := by decide +kernel
theorem dX4_hold_27 : decode cX4_hold 27 = .ok (.aload_n 0, 1) := by decide +kernel
theorem dX4_hold_28 : decode cX4_hold 28 = .ok (.getfield 9, 3) := by decide +kernel
theorem dX4_hold_31 : decode cX4_hold 31 = .ok (.iconst 4, 1) := by decide +kernel
theorem dX4_hold_32 : decode cX4_hold 32 = .ok (.iload_n 1, 1) := by decide +kernel
theorem dX4_hold_33 : decode cX4_hold 33 = .ok (.iadd, 1) := by decide +kernel
theorem dX4_hold_34 : decode cX4_hold 34 = .ok (.iload_n 2, 1) := by decide +kernel
theorem dX4_hold_35 : decode cX4_hold 35 = .ok (.iastore, 1) := by decide +kernel
theorem dX4_hold_36 : decode cX4_hold 36 = .ok (.iconst 1, 1) := by decide +kernel
theorem dX4_hold_37 : decode cX4_hold 37 = .ok (.ireturn, 1) := by decide +kernel
theorem dX4_as_0 : decode cX4_as 0 = .ok (.iload_n 1, 1) := by decide +kernel
theorem dX4_as_1 : decode cX4_as 1 = .ok (.invokestatic 329, 3) := by decide +kernel
theorem dX4_as_4 : decode cX4_as 4 = .ok (.ifCond .eq 10, 3) := by decide +kernel
theorem dX4_as_7 : decode cX4_as 7 = .ok (.iload_n 2, 1) := by decide +kernel
theorem dX4_as_8 : decode cX4_as 8 = .ok (.invokestatic 96, 3) := by decide +kernel
theorem dX4_as_11 : decode cX4_as 11 = .ok (.ifCond .ne 10, 3) := by decide +kernel
theorem dX4_as_14 : decode cX4_as 14 = .ok (.aload_n 0, 1) := by decide +kernel
theorem dX4_as_15 : decode cX4_as 15 = .ok (.ldc 75, 2) := by decide +kernel
theorem dX4_as_17 : decode cX4_as 17 = .ok (.invokevirtual 81, 3) := by decide +kernel
theorem dX4_as_20 : decode cX4_as 20 = .ok (.ireturn, 1) := by decide +kernel
theorem dX4_as_21 : decode cX4_as 21 = .ok (.aload_n 0, 1) := by decide +kernel
theorem dX4_as_22 : decode cX4_as 22 = .ok (.getfield 9, 3) := by decide +kernel
theorem dX4_as_25 : decode cX4_as 25 = .ok (.iconst 4, 1) := by decide +kernel
theorem dX4_as_26 : decode cX4_as 26 = .ok (.iload_n 1, 1) := by decide +kernel
theorem dX4_as_27 : decode cX4_as 27 = .ok (.iadd, 1) := by decide +kernel
theorem dX4_as_28 : decode cX4_as 28 = .ok (.iaload, 1) := by decide +kernel
theorem dX4_as_29 : decode cX4_as 29 = .ok (.istore_n 3, 1) := by decide +kernel
theorem dX4_as_30 : decode cX4_as 30 = .ok (.iload_n 3, 1) := by decide +kernel
theorem dX4_as_31 : decode cX4_as 31 = .ok (.ifCond .ge 10, 3) := by decide +kernel
theorem dX4_as_34 : decode cX4_as 34 = .ok (.aload_n 0, 1) := by decide +kernel
theorem dX4_as_35 : decode cX4_as 35 = .ok (.ldc 236, 2) := by decide +kernel
theorem dX4_as_37 : decode cX4_as 37 = .ok (.invokevirtual 81, 3) := by decide +kernel
theorem dX4_as_40 : decode cX4_as 40 = .ok (.ireturn, 1) := by decide +kernel
theorem dX4_as_41 : decode cX4_as 41 = .ok (.aload_n 0, 1) := by decide +kernel
theorem dX4_as_42 : decode cX4_as 42 = .ok (.iload_n 3, 1) := by decide +kernel
theorem dX4_as_43 : decode cX4_as 43 = .ok (.iconst 0, 1) := by decide +kernel
theorem dX4_as_44 : decode cX4_as 44 = .ok (.invokevirtual 108, 3) := by decide +kernel
theorem dX4_as_47 : decode cX4_as 47 = .ok (.iload_n 2, 1) := by decide +kernel
theorem dX4_as_48 : decode cX4_as 48 = .ok (.invokestatic 332, 3) := by decide +kernel
theorem dX4_as_51 : decode cX4_as 51 = .ok (.ifCond .eq 7, 3) := by decide +kernel
theorem dX4_as_54 : decode cX4_as 54 = .ok (.iload_n 3, 1) := by decide +kernel
theorem dX4_as_55 : decode cX4_as 55 = .ok (.goto 10, 3) := by decide +kernel
theorem dX4_as_58 : decode cX4_as 58 = .ok (.aload_n 0, 1) := by decide +kernel
theorem dX4_as_59 : decode cX4_as 59 = .ok (.ldc_w 335, 3) := by decide +kernel
theorem dX4_as_62 : decode cX4_as 62 = .ok (.invokevirtual 81, 3) := by decide +kernel
theorem dX4_as_65 : decode cX4_as 65 = .ok (.ireturn, 1) := by decide +kernel
theorem dX4_isSheet_0 : decode cX4_isSheet 0 = .ok (.iload_n 0, 1) := by decide +kernel
theorem dX4_isSheet_1 : decode cX4_isSheet 1 = .ok (.iconst 0, 1) := by decide +kernel
theorem dX4_isSheet_2 : decode cX4_isSheet 2 = .ok (.iconst 3, 1) := by decide +kernel
theorem dX4_isSheet_3 : decode cX4_isSheet 3 = .ok (.invokestatic 85, 3) := by decide +kernel
theorem dX4_isSheet_6 : decode cX4_isSheet 6 = .ok (.ireturn, 1) := by decide +kernel
theorem dX4_cutTo_0 : decode cX4_cutTo 0 = .ok (.iload_n 1, 1) := by decide +kernel
theorem dX4_cutTo_1 : decode cX4_cutTo 1 = .ok (.bipush 8, 2) := by decide +kernel
theorem dX4_cutTo_3 : decode cX4_cutTo 3 = .ok (.if_icmp .ne 8, 3) := by decide +kernel
theorem dX4_cutTo_6 : decode cX4_cutTo 6 = .ok (.iload_n 0, 1) := by decide +kernel
theorem dX4_cutTo_7 : decode cX4_cutTo 7 = .ok (.i2b, 1) := by decide +kernel
theorem dX4_cutTo_8 : decode cX4_cutTo 8 = .ok (.goto 15, 3) := by decide +kernel
theorem dX4_cutTo_11 : decode cX4_cutTo 11 = .ok (.iload_n 1, 1) := by decide +kernel
theorem dX4_cutTo_12 : decode cX4_cutTo 12 = .ok (.bipush 16, 2) := by decide +kernel
theorem dX4_cutTo_14 : decode cX4_cutTo 14 = .ok (.if_icmp .ne 8, 3) := by decide +kernel
theorem dX4_cutTo_17 : decode cX4_cutTo 17 = .ok (.iload_n 0, 1) := by decide +kernel
theorem dX4_cutTo_18 : decode cX4_cutTo 18 = .ok (.i2s, 1) := by decide +kernel
theorem dX4_cutTo_19 : decode cX4_cutTo 19 = .ok (.goto 4, 3) := by decide +kernel
theorem dX4_cutTo_22 : decode cX4_cutTo 22 = .ok (.iload_n 0, 1) := by decide +kernel
theorem dX4_cutTo_23 : decode cX4_cutTo 23 = .ok (.ireturn, 1) := by decide +kernel
theorem dX4_sheet_0 : decode cX4_sheet 0 = .ok (.iload_n 1, 1) := by decide +kernel
theorem dX4_sheet_1 : decode cX4_sheet 1 = .ok (.invokestatic 233, 3) := by decide +kernel
theorem dX4_sheet_4 : decode cX4_sheet 4 = .ok (.ifCond .eq 25, 3) := by decide +kernel
theorem dX4_sheet_7 : decode cX4_sheet 7 = .ok (.iload_n 2, 1) := by decide +kernel
theorem dX4_sheet_8 : decode cX4_sheet 8 = .ok (.ifCond .eq 28, 3) := by decide +kernel
theorem dX4_sheet_11 : decode cX4_sheet 11 = .ok (.iload_n 2, 1) := by decide +kernel
theorem dX4_sheet_12 : decode cX4_sheet 12 = .ok (.bipush 8, 2) := by decide +kernel
theorem dX4_sheet_14 : decode cX4_sheet 14 = .ok (.if_icmp .eq 22, 3) := by decide +kernel
theorem dX4_sheet_17 : decode cX4_sheet 17 = .ok (.iload_n 2, 1) := by decide +kernel
theorem dX4_sheet_18 : decode cX4_sheet 18 = .ok (.bipush 16, 2) := by decide +kernel
theorem dX4_sheet_20 : decode cX4_sheet 20 = .ok (.if_icmp .eq 16, 3) := by decide +kernel
theorem dX4_sheet_23 : decode cX4_sheet 23 = .ok (.iload_n 2, 1) := by decide +kernel
theorem dX4_sheet_24 : decode cX4_sheet 24 = .ok (.bipush 32, 2) := by decide +kernel
theorem dX4_sheet_26 : decode cX4_sheet 26 = .ok (.if_icmp .eq 10, 3) := by decide +kernel
theorem dX4_sheet_29 : decode cX4_sheet 29 = .ok (.aload_n 0, 1) := by decide +kernel
theorem dX4_sheet_30 : decode cX4_sheet 30 = .ok (.ldc 75, 2) := by decide +kernel
theorem dX4_sheet_32 : decode cX4_sheet 32 = .ok (.invokevirtual 81, 3) := by decide +kernel
theorem dX4_sheet_35 : decode cX4_sheet 35 = .ok (.ireturn, 1) := by decide +kernel
theorem dX4_sheet_36 : decode cX4_sheet 36 = .ok (.iload_n 3, 1) := by decide +kernel
theorem dX4_sheet_37 : decode cX4_sheet 37 = .ok (.ifCond .ge 10, 3) := by decide +kernel
theorem dX4_sheet_40 : decode cX4_sheet 40 = .ok (.aload_n 0, 1) := by decide +kernel
theorem dX4_sheet_41 : decode cX4_sheet 41 = .ok (.ldc 207, 2) := by decide +kernel
theorem dX4_sheet_43 : decode cX4_sheet 43 = .ok (.invokevirtual 81, 3) := by decide +kernel
theorem dX4_sheet_46 : decode cX4_sheet 46 = .ok (.ireturn, 1) := by decide +kernel
theorem dX4_sheet_47 : decode cX4_sheet 47 = .ok (.iload_n 3, 1) := by decide +kernel
theorem dX4_sheet_48 : decode cX4_sheet 48 = .ok (.bipush 40, 2) := by decide +kernel
theorem dX4_sheet_50 : decode cX4_sheet 50 = .ok (.if_icmp .le 10, 3) := by decide +kernel
theorem dX4_sheet_53 : decode cX4_sheet 53 = .ok (.aload_n 0, 1) := by decide +kernel
theorem dX4_sheet_54 : decode cX4_sheet 54 = .ok (.ldc 75, 2) := by decide +kernel
theorem dX4_sheet_56 : decode cX4_sheet 56 = .ok (.invokevirtual 81, 3) := by decide +kernel
theorem dX4_sheet_59 : decode cX4_sheet 59 = .ok (.ireturn, 1) := by decide +kernel
theorem dX4_sheet_60 : decode cX4_sheet 60 = .ok (.aload_n 0, 1) := by decide +kernel
theorem dX4_sheet_61 : decode cX4_sheet 61 = .ok (.getfield 63, 3) := by decide +kernel
theorem dX4_sheet_64 : decode cX4_sheet 64 = .ok (.iload_n 1, 1) := by decide +kernel
theorem dX4_sheet_65 : decode cX4_sheet 65 = .ok (.iload_n 2, 1) := by decide +kernel
theorem dX4_sheet_66 : decode cX4_sheet 66 = .ok (.iastore, 1) := by decide +kernel
theorem dX4_sheet_67 : decode cX4_sheet 67 = .ok (.aload_n 0, 1) := by decide +kernel
theorem dX4_sheet_68 : decode cX4_sheet 68 = .ok (.getfield 66, 3) := by decide +kernel
theorem dX4_sheet_71 : decode cX4_sheet 71 = .ok (.iload_n 1, 1) := by decide +kernel
theorem dX4_sheet_72 : decode cX4_sheet 72 = .ok (.iload_n 2, 1) := by decide +kernel
theorem dX4_sheet_73 : decode cX4_sheet 73 = .ok (.ifCond .ne 7, 3) := by decide +kernel
theorem dX4_sheet_76 : decode cX4_sheet 76 = .ok (.iconst 0, 1) := by decide +kernel
theorem dX4_sheet_77 : decode cX4_sheet 77 = .ok (.goto 4, 3) := by decide +kernel
theorem dX4_sheet_80 : decode cX4_sheet 80 = .ok (.iload_n 3, 1) := by decide +kernel
theorem dX4_sheet_81 : decode cX4_sheet 81 = .ok (.iastore, 1) := by decide +kernel
theorem dX4_sheet_82 : decode cX4_sheet 82 = .ok (.iconst 0, 1) := by decide +kernel
theorem dX4_sheet_83 : decode cX4_sheet 83 = .ok (.istore 4, 2) := by decide +kernel
theorem dX4_sheet_85 : decode cX4_sheet 85 = .ok (.iload 4, 2) := by decide +kernel
theorem dX4_sheet_87 : decode cX4_sheet 87 = .ok (.bipush 40, 2) := by decide +kernel
theorem dX4_sheet_89 : decode cX4_sheet 89 = .ok (.if_icmp .ge 22, 3) := by decide +kernel
theorem dX4_sheet_92 : decode cX4_sheet 92 = .ok (.aload_n 0, 1) := by decide +kernel
theorem dX4_sheet_93 : decode cX4_sheet 93 = .ok (.getfield 69, 3) := by decide +kernel
theorem dX4_sheet_96 : decode cX4_sheet 96 = .ok (.bipush 40, 2) := by decide +kernel
theorem dX4_sheet_98 : decode cX4_sheet 98 = .ok (.iload_n 1, 1) := by decide +kernel
theorem dX4_sheet_99 : decode cX4_sheet 99 = .ok (.imul, 1) := by decide +kernel
theorem dX4_sheet_100 : decode cX4_sheet 100 = .ok (.iload 4, 2) := by decide +kernel
theorem dX4_sheet_102 : decode cX4_sheet 102 = .ok (.iadd, 1) := by decide +kernel
theorem dX4_sheet_103 : decode cX4_sheet 103 = .ok (.iconst 0, 1) := by decide +kernel
theorem dX4_sheet_104 : decode cX4_sheet 104 = .ok (.iastore, 1) := by decide +kernel
theorem dX4_sheet_105 : decode cX4_sheet 105 = .ok (.iinc 4 1, 3) := by decide +kernel
theorem dX4_sheet_108 : decode cX4_sheet 108 = .ok (.goto (-23), 3) := by decide +kernel
theorem dX4_sheet_111 : decode cX4_sheet 111 = .ok (.aload_n 0, 1) := by decide +kernel
theorem dX4_sheet_112 : decode cX4_sheet 112 = .ok (.getfield 66, 3) := by decide +kernel
theorem dX4_sheet_115 : decode cX4_sheet 115 = .ok (.iload_n 1, 1) := by decide +kernel
theorem dX4_sheet_116 : decode cX4_sheet 116 = .ok (.iaload, 1) := by decide +kernel
theorem dX4_sheet_117 : decode cX4_sheet 117 = .ok (.ireturn, 1) := by decide +kernel
theorem dX4_write_0 : decode cX4_write 0 = .ok (.iload_n 1, 1) := by decide +kernel
theorem dX4_write_1 : decode cX4_write 1 = .ok (.invokestatic 233, 3) := by decide +kernel
theorem dX4_write_4 : decode cX4_write 4 = .ok (.ifCond .ne 10, 3) := by decide +kernel
theorem dX4_write_7 : decode cX4_write 7 = .ok (.aload_n 0, 1) := by decide +kernel
theorem dX4_write_8 : decode cX4_write 8 = .ok (.ldc 75, 2) := by decide +kernel
theorem dX4_write_10 : decode cX4_write 10 = .ok (.invokevirtual 81, 3) := by decide +kernel
theorem dX4_write_13 : decode cX4_write 13 = .ok (.ireturn, 1) := by decide +kernel
theorem dX4_write_14 : decode cX4_write 14 = .ok (.aload_n 0, 1) := by decide +kernel
theorem dX4_write_15 : decode cX4_write 15 = .ok (.getfield 63, 3) := by decide +kernel
theorem dX4_write_18 : decode cX4_write 18 = .ok (.iload_n 1, 1) := by decide +kernel
theorem dX4_write_19 : decode cX4_write 19 = .ok (.iaload, 1) := by decide +kernel
theorem dX4_write_20 : decode cX4_write 20 = .ok (.ifCond .ne 10, 3) := by decide +kernel
theorem dX4_write_23 : decode cX4_write 23 = .ok (.aload_n 0, 1) := by decide +kernel
theorem dX4_write_24 : decode cX4_write 24 = .ok (.ldc 236, 2) := by decide +kernel
theorem dX4_write_26 : decode cX4_write 26 = .ok (.invokevirtual 81, 3) := by decide +kernel
theorem dX4_write_29 : decode cX4_write 29 = .ok (.ireturn, 1) := by decide +kernel
theorem dX4_write_30 : decode cX4_write 30 = .ok (.iload_n 2, 1) := by decide +kernel
theorem dX4_write_31 : decode cX4_write 31 = .ok (.iconst 0, 1) := by decide +kernel
theorem dX4_write_32 : decode cX4_write 32 = .ok (.aload_n 0, 1) := by decide +kernel
theorem dX4_write_33 : decode cX4_write 33 = .ok (.getfield 66, 3) := by decide +kernel
theorem dX4_write_36 : decode cX4_write 36 = .ok (.iload_n 1, 1) := by decide +kernel
theorem dX4_write_37 : decode cX4_write 37 = .ok (.iaload, 1) := by decide +kernel
theorem dX4_write_38 : decode cX4_write 38 = .ok (.iconst 1, 1) := by decide +kernel
theorem dX4_write_39 : decode cX4_write 39 = .ok (.isub, 1) := by decide +kernel
theorem dX4_write_40 : decode cX4_write 40 = .ok (.invokestatic 85, 3) := by decide +kernel
theorem dX4_write_43 : decode cX4_write 43 = .ok (.ifCond .ne 10, 3) := by decide +kernel
theorem dX4_write_46 : decode cX4_write 46 = .ok (.aload_n 0, 1) := by decide +kernel
theorem dX4_write_47 : decode cX4_write 47 = .ok (.ldc 75, 2) := by decide +kernel
theorem dX4_write_49 : decode cX4_write 49 = .ok (.invokevirtual 81, 3) := by decide +kernel
theorem dX4_write_52 : decode cX4_write 52 = .ok (.ireturn, 1) := by decide +kernel
theorem dX4_write_53 : decode cX4_write 53 = .ok (.aload_n 0, 1) := by decide +kernel
theorem dX4_write_54 : decode cX4_write 54 = .ok (.getfield 69, 3) := by decide +kernel
theorem dX4_write_57 : decode cX4_write 57 = .ok (.bipush 40, 2) := by decide +kernel
theorem dX4_write_59 : decode cX4_write 59 = .ok (.iload_n 1, 1) := by decide +kernel
theorem dX4_write_60 : decode cX4_write 60 = .ok (.imul, 1) := by decide +kernel
theorem dX4_write_61 : decode cX4_write 61 = .ok (.iload_n 2, 1) := by decide +kernel
theorem dX4_write_62 : decode cX4_write 62 = .ok (.iadd, 1) := by decide +kernel
theorem dX4_write_63 : decode cX4_write 63 = .ok (.iload_n 3, 1) := by decide +kernel
theorem dX4_write_64 : decode cX4_write 64 = .ok (.aload_n 0, 1) := by decide +kernel
theorem dX4_write_65 : decode cX4_write 65 = .ok (.getfield 63, 3) := by decide +kernel
theorem dX4_write_68 : decode cX4_write 68 = .ok (.iload_n 1, 1) := by decide +kernel
theorem dX4_write_69 : decode cX4_write 69 = .ok (.iaload, 1) := by decide +kernel
theorem dX4_write_70 : decode cX4_write 70 = .ok (.invokestatic 336, 3) := by decide +kernel
theorem dX4_write_73 : decode cX4_write 73 = .ok (.iastore, 1) := by decide +kernel
theorem dX4_write_74 : decode cX4_write 74 = .ok (.iconst 1, 1) := by decide +kernel
theorem dX4_write_75 : decode cX4_write 75 = .ok (.ireturn, 1) := by decide +kernel
theorem dX4_copy_0 : decode cX4_copy 0 = .ok (.iload_n 1, 1) := by decide +kernel
theorem dX4_copy_1 : decode cX4_copy 1 = .ok (.invokestatic 233, 3) := by decide +kernel
theorem dX4_copy_4 : decode cX4_copy 4 = .ok (.ifCond .eq 10, 3) := by decide +kernel
theorem dX4_copy_7 : decode cX4_copy 7 = .ok (.iload_n 3, 1) := by decide +kernel
theorem dX4_copy_8 : decode cX4_copy 8 = .ok (.invokestatic 233, 3) := by decide +kernel
theorem dX4_copy_11 : decode cX4_copy 11 = .ok (.ifCond .ne 10, 3) := by decide +kernel
theorem dX4_copy_14 : decode cX4_copy 14 = .ok (.aload_n 0, 1) := by decide +kernel
theorem dX4_copy_15 : decode cX4_copy 15 = .ok (.ldc 75, 2) := by decide +kernel
theorem dX4_copy_17 : decode cX4_copy 17 = .ok (.invokevirtual 81, 3) := by decide +kernel
theorem dX4_copy_20 : decode cX4_copy 20 = .ok (.ireturn, 1) := by decide +kernel
theorem dX4_copy_21 : decode cX4_copy 21 = .ok (.aload_n 0, 1) := by decide +kernel
theorem dX4_copy_22 : decode cX4_copy 22 = .ok (.getfield 63, 3) := by decide +kernel
theorem dX4_copy_25 : decode cX4_copy 25 = .ok (.iload_n 1, 1) := by decide +kernel
theorem dX4_copy_26 : decode cX4_copy 26 = .ok (.iaload, 1) := by decide +kernel
theorem dX4_copy_27 : decode cX4_copy 27 = .ok (.ifCond .eq 12, 3) := by decide +kernel
theorem dX4_copy_30 : decode cX4_copy 30 = .ok (.aload_n 0, 1) := by decide +kernel
theorem dX4_copy_31 : decode cX4_copy 31 = .ok (.getfield 63, 3) := by decide +kernel
theorem dX4_copy_34 : decode cX4_copy 34 = .ok (.iload_n 3, 1) := by decide +kernel
theorem dX4_copy_35 : decode cX4_copy 35 = .ok (.iaload, 1) := by decide +kernel
theorem dX4_copy_36 : decode cX4_copy 36 = .ok (.ifCond .ne 10, 3) := by decide +kernel
theorem dX4_copy_39 : decode cX4_copy 39 = .ok (.aload_n 0, 1) := by decide +kernel
theorem dX4_copy_40 : decode cX4_copy 40 = .ok (.ldc 236, 2) := by decide +kernel
theorem dX4_copy_42 : decode cX4_copy 42 = .ok (.invokevirtual 81, 3) := by decide +kernel
theorem dX4_copy_45 : decode cX4_copy 45 = .ok (.ireturn, 1) := by decide +kernel
theorem dX4_copy_46 : decode cX4_copy 46 = .ok (.aload_n 0, 1) := by decide +kernel
theorem dX4_copy_47 : decode cX4_copy 47 = .ok (.getfield 63, 3) := by decide +kernel
theorem dX4_copy_50 : decode cX4_copy 50 = .ok (.iload_n 1, 1) := by decide +kernel
theorem dX4_copy_51 : decode cX4_copy 51 = .ok (.iaload, 1) := by decide +kernel
theorem dX4_copy_52 : decode cX4_copy 52 = .ok (.aload_n 0, 1) := by decide +kernel
theorem dX4_copy_53 : decode cX4_copy 53 = .ok (.getfield 63, 3) := by decide +kernel
theorem dX4_copy_56 : decode cX4_copy 56 = .ok (.iload_n 3, 1) := by decide +kernel
theorem dX4_copy_57 : decode cX4_copy 57 = .ok (.iaload, 1) := by decide +kernel
theorem dX4_copy_58 : decode cX4_copy 58 = .ok (.if_icmp .eq 11, 3) := by decide +kernel
theorem dX4_copy_61 : decode cX4_copy 61 = .ok (.aload_n 0, 1) := by decide +kernel
theorem dX4_copy_62 : decode cX4_copy 62 = .ok (.ldc_w 335, 3) := by decide +kernel
theorem dX4_copy_65 : decode cX4_copy 65 = .ok (.invokevirtual 81, 3) := by decide +kernel
theorem dX4_copy_68 : decode cX4_copy 68 = .ok (.ireturn, 1) := by decide +kernel
theorem dX4_copy_69 : decode cX4_copy 69 = .ok (.iload_n 2, 1) := by decide +kernel
theorem dX4_copy_70 : decode cX4_copy 70 = .ok (.ifCond .lt 48, 3) := by decide +kernel
theorem dX4_copy_73 : decode cX4_copy 73 = .ok (.iload 4, 2) := by decide +kernel
theorem dX4_copy_75 : decode cX4_copy 75 = .ok (.ifCond .lt 43, 3) := by decide +kernel
theorem dX4_copy_78 : decode cX4_copy 78 = .ok (.iload 5, 2) := by decide +kernel
theorem dX4_copy_80 : decode cX4_copy 80 = .ok (.ifCond .lt 38, 3) := by decide +kernel
theorem dX4_copy_83 : decode cX4_copy 83 = .ok (.iload_n 2, 1) := by decide +kernel
theorem dX4_copy_84 : decode cX4_copy 84 = .ok (.i2l, 1) := by decide +kernel
theorem dX4_copy_85 : decode cX4_copy 85 = .ok (.iload 5, 2) := by decide +kernel
theorem dX4_copy_87 : decode cX4_copy 87 = .ok (.i2l, 1) := by decide +kernel
theorem dX4_copy_88 : decode cX4_copy 88 = .ok (.ladd, 1) := by decide +kernel
theorem dX4_copy_89 : decode cX4_copy 89 = .ok (.aload_n 0, 1) := by decide +kernel
theorem dX4_copy_90 : decode cX4_copy 90 = .ok (.getfield 66, 3) := by decide +kernel
theorem dX4_copy_93 : decode cX4_copy 93 = .ok (.iload_n 1, 1) := by decide +kernel
theorem dX4_copy_94 : decode cX4_copy 94 = .ok (.iaload, 1) := by decide +kernel
theorem dX4_copy_95 : decode cX4_copy 95 = .ok (.i2l, 1) := by decide +kernel
theorem dX4_copy_96 : decode cX4_copy 96 = .ok (.lcmp, 1) := by decide +kernel
theorem dX4_copy_97 : decode cX4_copy 97 = .ok (.ifCond .gt 21, 3) := by decide +kernel
theorem dX4_copy_100 : decode cX4_copy 100 = .ok (.iload 4, 2) := by decide +kernel
theorem dX4_copy_102 : decode cX4_copy 102 = .ok (.i2l, 1) := by decide +kernel
theorem dX4_copy_103 : decode cX4_copy 103 = .ok (.iload 5, 2) := by decide +kernel
theorem dX4_copy_105 : decode cX4_copy 105 = .ok (.i2l, 1) := by decide +kernel
theorem dX4_copy_106 : decode cX4_copy 106 = .ok (.ladd, 1) := by decide +kernel
theorem dX4_copy_107 : decode cX4_copy 107 = .ok (.aload_n 0, 1) := by decide +kernel
theorem dX4_copy_108 : decode cX4_copy 108 = .ok (.getfield 66, 3) := by decide +kernel
theorem dX4_copy_111 : decode cX4_copy 111 = .ok (.iload_n 3, 1) := by decide +kernel
theorem dX4_copy_112 : decode cX4_copy 112 = .ok (.iaload, 1) := by decide +kernel
theorem dX4_copy_113 : decode cX4_copy 113 = .ok (.i2l, 1) := by decide +kernel
theorem dX4_copy_114 : decode cX4_copy 114 = .ok (.lcmp, 1) := by decide +kernel
theorem dX4_copy_115 : decode cX4_copy 115 = .ok (.ifCond .le 10, 3) := by decide +kernel
theorem dX4_copy_118 : decode cX4_copy 118 = .ok (.aload_n 0, 1) := by decide +kernel
theorem dX4_copy_119 : decode cX4_copy 119 = .ok (.ldc 75, 2) := by decide +kernel
theorem dX4_copy_121 : decode cX4_copy 121 = .ok (.invokevirtual 81, 3) := by decide +kernel
theorem dX4_copy_124 : decode cX4_copy 124 = .ok (.ireturn, 1) := by decide +kernel
theorem dX4_copy_125 : decode cX4_copy 125 = .ok (.iconst 0, 1) := by decide +kernel
theorem dX4_copy_126 : decode cX4_copy 126 = .ok (.istore 6, 2) := by decide +kernel
theorem dX4_copy_128 : decode cX4_copy 128 = .ok (.iload 6, 2) := by decide +kernel
theorem dX4_copy_130 : decode cX4_copy 130 = .ok (.iload 5, 2) := by decide +kernel
theorem dX4_copy_132 : decode cX4_copy 132 = .ok (.if_icmp .ge 30, 3) := by decide +kernel
theorem dX4_copy_135 : decode cX4_copy 135 = .ok (.aload_n 0, 1) := by decide +kernel
theorem dX4_copy_136 : decode cX4_copy 136 = .ok (.getfield 72, 3) := by decide +kernel
theorem dX4_copy_139 : decode cX4_copy 139 = .ok (.iload 6, 2) := by decide +kernel
theorem dX4_copy_141 : decode cX4_copy 141 = .ok (.aload_n 0, 1) := by decide +kernel
theorem dX4_copy_142 : decode cX4_copy 142 = .ok (.getfield 69, 3) := by decide +kernel
theorem dX4_copy_145 : decode cX4_copy 145 = .ok (.bipush 40, 2) := by decide +kernel
theorem dX4_copy_147 : decode cX4_copy 147 = .ok (.iload_n 1, 1) := by decide +kernel
theorem dX4_copy_148 : decode cX4_copy 148 = .ok (.imul, 1) := by decide +kernel
theorem dX4_copy_149 : decode cX4_copy 149 = .ok (.iload_n 2, 1) := by decide +kernel
theorem dX4_copy_150 : decode cX4_copy 150 = .ok (.iadd, 1) := by decide +kernel
theorem dX4_copy_151 : decode cX4_copy 151 = .ok (.iload 6, 2) := by decide +kernel
theorem dX4_copy_153 : decode cX4_copy 153 = .ok (.iadd, 1) := by decide +kernel
theorem dX4_copy_154 : decode cX4_copy 154 = .ok (.iaload, 1) := by decide +kernel
theorem dX4_copy_155 : decode cX4_copy 155 = .ok (.iastore, 1) := by decide +kernel
theorem dX4_copy_156 : decode cX4_copy 156 = .ok (.iinc 6 1, 3) := by decide +kernel
theorem dX4_copy_159 : decode cX4_copy 159 = .ok (.goto (-31), 3) := by decide +kernel
theorem dX4_copy_162 : decode cX4_copy 162 = .ok (.iconst 0, 1) := by decide +kernel
theorem dX4_copy_163 : decode cX4_copy 163 = .ok (.istore 6, 2) := by decide +kernel
theorem dX4_copy_165 : decode cX4_copy 165 = .ok (.iload 6, 2) := by decide +kernel
theorem dX4_copy_167 : decode cX4_copy 167 = .ok (.iload 5, 2) := by decide +kernel
theorem dX4_copy_169 : decode cX4_copy 169 = .ok (.if_icmp .ge 31, 3) := by decide +kernel
theorem dX4_copy_172 : decode cX4_copy 172 = .ok (.aload_n 0, 1) := by decide +kernel
theorem dX4_copy_173 : decode cX4_copy 173 = .ok (.getfield 69, 3) := by decide +kernel
theorem dX4_copy_176 : decode cX4_copy 176 = .ok (.bipush 40, 2) := by decide +kernel
theorem dX4_copy_178 : decode cX4_copy 178 = .ok (.iload_n 3, 1) := by decide +kernel
theorem dX4_copy_179 : decode cX4_copy 179 = .ok (.imul, 1) := by decide +kernel
theorem dX4_copy_180 : decode cX4_copy 180 = .ok (.iload 4, 2) := by decide +kernel
theorem dX4_copy_182 : decode cX4_copy 182 = .ok (.iadd, 1) := by decide +kernel
theorem dX4_copy_183 : decode cX4_copy 183 = .ok (.iload 6, 2) := by decide +kernel
theorem dX4_copy_185 : decode cX4_copy 185 = .ok (.iadd, 1) := by decide +kernel
theorem dX4_copy_186 : decode cX4_copy 186 = .ok (.aload_n 0, 1) := by decide +kernel
theorem dX4_copy_187 : decode cX4_copy 187 = .ok (.getfield 72, 3) := by decide +kernel
theorem dX4_copy_190 : decode cX4_copy 190 = .ok (.iload 6, 2) := by decide +kernel
theorem dX4_copy_192 : decode cX4_copy 192 = .ok (.iaload, 1) := by decide +kernel
theorem dX4_copy_193 : decode cX4_copy 193 = .ok (.iastore, 1) := by decide +kernel
theorem dX4_copy_194 : decode cX4_copy 194 = .ok (.iinc 6 1, 3) := by decide +kernel
theorem dX4_copy_197 : decode cX4_copy 197 = .ok (.goto (-32), 3) := by decide +kernel
theorem dX4_copy_200 : decode cX4_copy 200 = .ok (.iload 5, 2) := by decide +kernel
theorem dX4_copy_202 : decode cX4_copy 202 = .ok (.ireturn, 1) := by decide +kernel
theorem dX4_above_0 : decode cX4_above 0 = .ok (.iload_n 0, 1) := by decide +kernel
theorem dX4_above_1 : decode cX4_above 1 = .ok (.ifCond .ne 7, 3) := by decide +kernel
theorem dX4_above_4 : decode cX4_above 4 = .ok (.iconst (-1), 1) := by decide +kernel
theorem dX4_above_5 : decode cX4_above 5 = .ok (.goto 32, 3) := by decide +kernel
theorem dX4_above_8 : decode cX4_above 8 = .ok (.iload_n 0, 1) := by decide +kernel
theorem dX4_above_9 : decode cX4_above 9 = .ok (.iconst 3, 1) := by decide +kernel
theorem dX4_above_10 : decode cX4_above 10 = .ok (.if_icmp .ne 7, 3) := by decide +kernel
theorem dX4_above_13 : decode cX4_above 13 = .ok (.iconst 2, 1) := by decide +kernel
theorem dX4_above_14 : decode cX4_above 14 = .ok (.goto 23, 3) := by decide +kernel
theorem dX4_above_17 : decode cX4_above 17 = .ok (.iload_n 0, 1) := by decide +kernel
theorem dX4_above_18 : decode cX4_above 18 = .ok (.iconst 4, 1) := by decide +kernel
theorem dX4_above_19 : decode cX4_above 19 = .ok (.if_icmp .ne 7, 3) := by decide +kernel
theorem dX4_above_22 : decode cX4_above 22 = .ok (.iconst 3, 1) := by decide +kernel
theorem dX4_above_23 : decode cX4_above 23 = .ok (.goto 14, 3) := by decide +kernel
theorem dX4_above_26 : decode cX4_above 26 = .ok (.iload_n 0, 1) := by decide +kernel
theorem dX4_above_27 : decode cX4_above 27 = .ok (.bipush 6, 2) := by decide +kernel
theorem dX4_above_29 : decode cX4_above 29 = .ok (.if_icmp .ne 7, 3) := by decide +kernel
theorem dX4_above_32 : decode cX4_above 32 = .ok (.iconst 1, 1) := by decide +kernel
theorem dX4_above_33 : decode cX4_above 33 = .ok (.goto 4, 3) := by decide +kernel
theorem dX4_above_36 : decode cX4_above 36 = .ok (.iconst 0, 1) := by decide +kernel
theorem dX4_above_37 : decode cX4_above 37 = .ok (.ireturn, 1) := by decide +kernel
theorem dX4_isUnder_0 : decode cX4_isUnder 0 = .ok (.iload_n 0, 1) := by decide +kernel
theorem dX4_isUnder_1 : decode cX4_isUnder 1 = .ok (.istore_n 2, 1) := by decide +kernel
theorem dX4_isUnder_2 : decode cX4_isUnder 2 = .ok (.iload_n 2, 1) := by decide +kernel
theorem dX4_isUnder_3 : decode cX4_isUnder 3 = .ok (.ifCond .lt 16, 3) := by decide +kernel
theorem dX4_isUnder_6 : decode cX4_isUnder 6 = .ok (.iload_n 2, 1) := by decide +kernel
theorem dX4_isUnder_7 : decode cX4_isUnder 7 = .ok (.iload_n 1, 1) := by decide +kernel
theorem dX4_isUnder_8 : decode cX4_isUnder 8 = .ok (.if_icmp .eq 11, 3) := by decide +kernel
theorem dX4_isUnder_11 : decode cX4_isUnder 11 = .ok (.iload_n 2, 1) := by decide +kernel
theorem dX4_isUnder_12 : decode cX4_isUnder 12 = .ok (.invokestatic 339, 3) := by decide +kernel
theorem dX4_isUnder_15 : decode cX4_isUnder 15 = .ok (.istore_n 2, 1) := by decide +kernel
theorem dX4_isUnder_16 : decode cX4_isUnder 16 = .ok (.goto (-14), 3) := by decide +kernel
theorem dX4_isUnder_19 : decode cX4_isUnder 19 = .ok (.iload_n 2, 1) := by decide +kernel
theorem dX4_isUnder_20 : decode cX4_isUnder 20 = .ok (.ifCond .lt 7, 3) := by decide +kernel
theorem dX4_isUnder_23 : decode cX4_isUnder 23 = .ok (.iconst 1, 1) := by decide +kernel
theorem dX4_isUnder_24 : decode cX4_isUnder 24 = .ok (.goto 4, 3) := by decide +kernel
theorem dX4_isUnder_27 : decode cX4_isUnder 27 = .ok (.iconst 0, 1) := by decide +kernel
theorem dX4_isUnder_28 : decode cX4_isUnder 28 = .ok (.ireturn, 1) := by decide +kernel
theorem dX4_lacksSheet_0 : decode cX4_lacksSheet 0 = .ok (.iload_n 1, 1) := by decide +kernel
theorem dX4_lacksSheet_1 : decode cX4_lacksSheet 1 = .ok (.invokestatic 233, 3) := by decide +kernel
theorem dX4_lacksSheet_4 : decode cX4_lacksSheet 4 = .ok (.ifCond .ne 8, 3) := by decide +kernel
theorem dX4_lacksSheet_7 : decode cX4_lacksSheet 7 = .ok (.ldc 75, 2) := by decide +kernel
theorem dX4_lacksSheet_9 : decode cX4_lacksSheet 9 = .ok (.goto 18, 3) := by decide +kernel
theorem dX4_lacksSheet_12 : decode cX4_lacksSheet 12 = .ok (.aload_n 0, 1) := by decide +kernel
theorem dX4_lacksSheet_13 : decode cX4_lacksSheet 13 = .ok (.getfield 63, 3) := by decide +kernel
theorem dX4_lacksSheet_16 : decode cX4_lacksSheet 16 = .ok (.iload_n 1, 1) := by decide +kernel
theorem dX4_lacksSheet_17 : decode cX4_lacksSheet 17 = .ok (.iaload, 1) := by decide +kernel
theorem dX4_lacksSheet_18 : decode cX4_lacksSheet 18 = .ok (.ifCond .ne 8, 3) := by decide +kernel
theorem dX4_lacksSheet_21 : decode cX4_lacksSheet 21 = .ok (.ldc 236, 2) := by decide +kernel
theorem dX4_lacksSheet_23 : decode cX4_lacksSheet 23 = .ok (.goto 4, 3) := by decide +kernel
theorem dX4_lacksSheet_26 : decode cX4_lacksSheet 26 = .ok (.iconst 0, 1) := by decide +kernel
theorem dX4_lacksSheet_27 : decode cX4_lacksSheet 27 = .ok (.ireturn, 1) := by decide +kernel
theorem dX4_load_0 : decode cX4_load 0 = .ok (.aload_n 0, 1) := by decide +kernel
theorem dX4_load_1 : decode cX4_load 1 = .ok (.iload_n 1, 1) := by decide +kernel
theorem dX4_load_2 : decode cX4_load 2 = .ok (.invokevirtual 342, 3) := by decide +kernel
theorem dX4_load_5 : decode cX4_load 5 = .ok (.ifCond .eq 13, 3) := by decide +kernel
theorem dX4_load_8 : decode cX4_load 8 = .ok (.aload_n 0, 1) := by decide +kernel
theorem dX4_load_9 : decode cX4_load 9 = .ok (.aload_n 0, 1) := by decide +kernel
theorem dX4_load_10 : decode cX4_load 10 = .ok (.iload_n 1, 1) := by decide +kernel
theorem dX4_load_11 : decode cX4_load 11 = .ok (.invokevirtual 342, 3) := by decide +kernel
theorem dX4_load_14 : decode cX4_load 14 = .ok (.invokevirtual 81, 3) := by decide +kernel
theorem dX4_load_17 : decode cX4_load 17 = .ok (.ireturn, 1) := by decide +kernel
theorem dX4_load_18 : decode cX4_load 18 = .ok (.iconst 0, 1) := by decide +kernel
theorem dX4_load_19 : decode cX4_load 19 = .ok (.istore_n 2, 1) := by decide +kernel
theorem dX4_load_20 : decode cX4_load 20 = .ok (.iload_n 2, 1) := by decide +kernel
theorem dX4_load_21 : decode cX4_load 21 = .ok (.aload_n 0, 1) := by decide +kernel
theorem dX4_load_22 : decode cX4_load 22 = .ok (.getfield 66, 3) := by decide +kernel
theorem dX4_load_25 : decode cX4_load 25 = .ok (.iload_n 1, 1) := by decide +kernel
theorem dX4_load_26 : decode cX4_load 26 = .ok (.iaload, 1) := by decide +kernel
theorem dX4_load_27 : decode cX4_load 27 = .ok (.if_icmp .ge 55, 3) := by decide +kernel
theorem dX4_load_30 : decode cX4_load 30 = .ok (.aload_n 0, 1) := by decide +kernel
theorem dX4_load_31 : decode cX4_load 31 = .ok (.iload_n 2, 1) := by decide +kernel
theorem dX4_load_32 : decode cX4_load 32 = .ok (.invokevirtual 135, 3) := by decide +kernel
theorem dX4_load_35 : decode cX4_load 35 = .ok (.ifCond .eq 47, 3) := by decide +kernel
theorem dX4_load_38 : decode cX4_load 38 = .ok (.aload_n 0, 1) := by decide +kernel
theorem dX4_load_39 : decode cX4_load 39 = .ok (.getfield 69, 3) := by decide +kernel
theorem dX4_load_42 : decode cX4_load 42 = .ok (.bipush 40, 2) := by decide +kernel
theorem dX4_load_44 : decode cX4_load 44 = .ok (.iload_n 1, 1) := by decide +kernel
theorem dX4_load_45 : decode cX4_load 45 = .ok (.imul, 1) := by decide +kernel
theorem dX4_load_46 : decode cX4_load 46 = .ok (.iload_n 2, 1) := by decide +kernel
theorem dX4_load_47 : decode cX4_load 47 = .ok (.iadd, 1) := by decide +kernel
theorem dX4_load_48 : decode cX4_load 48 = .ok (.iaload, 1) := by decide +kernel
theorem dX4_load_49 : decode cX4_load 49 = .ok (.invokestatic 141, 3) := by decide +kernel
theorem dX4_load_52 : decode cX4_load 52 = .ok (.ifCond .eq 30, 3) := by decide +kernel
theorem dX4_load_55 : decode cX4_load 55 = .ok (.aload_n 0, 1) := by decide +kernel
theorem dX4_load_56 : decode cX4_load 56 = .ok (.getfield 9, 3) := by decide +kernel
theorem dX4_load_59 : decode cX4_load 59 = .ok (.iload_n 2, 1) := by decide +kernel
theorem dX4_load_60 : decode cX4_load 60 = .ok (.iconst 4, 1) := by decide +kernel
theorem dX4_load_61 : decode cX4_load 61 = .ok (.invokestatic 93, 3) := by decide +kernel
theorem dX4_load_64 : decode cX4_load 64 = .ok (.aload_n 0, 1) := by decide +kernel
theorem dX4_load_65 : decode cX4_load 65 = .ok (.getfield 69, 3) := by decide +kernel
theorem dX4_load_68 : decode cX4_load 68 = .ok (.bipush 40, 2) := by decide +kernel
theorem dX4_load_70 : decode cX4_load 70 = .ok (.iload_n 1, 1) := by decide +kernel
theorem dX4_load_71 : decode cX4_load 71 = .ok (.imul, 1) := by decide +kernel
theorem dX4_load_72 : decode cX4_load 72 = .ok (.iload_n 2, 1) := by decide +kernel
theorem dX4_load_73 : decode cX4_load 73 = .ok (.iadd, 1) := by decide +kernel
theorem dX4_load_74 : decode cX4_load 74 = .ok (.iaload, 1) := by decide +kernel
theorem dX4_load_75 : decode cX4_load 75 = .ok (.iastore, 1) := by decide +kernel
theorem dX4_load_76 : decode cX4_load 76 = .ok (.iinc 2 1, 3) := by decide +kernel
theorem dX4_load_79 : decode cX4_load 79 = .ok (.goto (-59), 3) := by decide +kernel
theorem dX4_load_82 : decode cX4_load 82 = .ok (.iload_n 2, 1) := by decide +kernel
theorem dX4_load_83 : decode cX4_load 83 = .ok (.ireturn, 1) := by decide +kernel
theorem dX4_judge_0 : decode cX4_judge 0 = .ok (.aload_n 0, 1) := by decide +kernel
theorem dX4_judge_1 : decode cX4_judge 1 = .ok (.iload_n 1, 1) := by decide +kernel
theorem dX4_judge_2 : decode cX4_judge 2 = .ok (.invokevirtual 342, 3) := by decide +kernel
theorem dX4_judge_5 : decode cX4_judge 5 = .ok (.ifCond .eq 13, 3) := by decide +kernel
theorem dX4_judge_8 : decode cX4_judge 8 = .ok (.aload_n 0, 1) := by decide +kernel
theorem dX4_judge_9 : decode cX4_judge 9 = .ok (.aload_n 0, 1) := by decide +kernel
theorem dX4_judge_10 : decode cX4_judge 10 = .ok (.iload_n 1, 1) := by decide +kernel
theorem dX4_judge_11 : decode cX4_judge 11 = .ok (.invokevirtual 342, 3) := by decide +kernel
theorem dX4_judge_14 : decode cX4_judge 14 = .ok (.invokevirtual 81, 3) := by decide +kernel
theorem dX4_judge_17 : decode cX4_judge 17 = .ok (.ireturn, 1) := by decide +kernel
theorem dX4_judge_18 : decode cX4_judge 18 = .ok (.iconst 0, 1) := by decide +kernel
theorem dX4_judge_19 : decode cX4_judge 19 = .ok (.istore_n 2, 1) := by decide +kernel
theorem dX4_judge_20 : decode cX4_judge 20 = .ok (.iload_n 2, 1) := by decide +kernel
theorem dX4_judge_21 : decode cX4_judge 21 = .ok (.aload_n 0, 1) := by decide +kernel
theorem dX4_judge_22 : decode cX4_judge 22 = .ok (.getfield 66, 3) := by decide +kernel
theorem dX4_judge_25 : decode cX4_judge 25 = .ok (.iload_n 1, 1) := by decide +kernel
theorem dX4_judge_26 : decode cX4_judge 26 = .ok (.iaload, 1) := by decide +kernel
theorem dX4_judge_27 : decode cX4_judge 27 = .ok (.if_icmp .ge 36, 3) := by decide +kernel
theorem dX4_judge_30 : decode cX4_judge 30 = .ok (.aload_n 0, 1) := by decide +kernel
theorem dX4_judge_31 : decode cX4_judge 31 = .ok (.iload_n 2, 1) := by decide +kernel
theorem dX4_judge_32 : decode cX4_judge 32 = .ok (.invokevirtual 135, 3) := by decide +kernel
theorem dX4_judge_35 : decode cX4_judge 35 = .ok (.ifCond .eq 28, 3) := by decide +kernel
theorem dX4_judge_38 : decode cX4_judge 38 = .ok (.aload_n 0, 1) := by decide +kernel
theorem dX4_judge_39 : decode cX4_judge 39 = .ok (.getfield 69, 3) := by decide +kernel
theorem dX4_judge_42 : decode cX4_judge 42 = .ok (.bipush 40, 2) := by decide +kernel
theorem dX4_judge_44 : decode cX4_judge 44 = .ok (.iload_n 1, 1) := by decide +kernel
theorem dX4_judge_45 : decode cX4_judge 45 = .ok (.imul, 1) := by decide +kernel
theorem dX4_judge_46 : decode cX4_judge 46 = .ok (.iload_n 2, 1) := by decide +kernel
theorem dX4_judge_47 : decode cX4_judge 47 = .ok (.iadd, 1) := by decide +kernel
theorem dX4_judge_48 : decode cX4_judge 48 = .ok (.iaload, 1) := by decide +kernel
theorem dX4_judge_49 : decode cX4_judge 49 = .ok (.aload_n 0, 1) := by decide +kernel
theorem dX4_judge_50 : decode cX4_judge 50 = .ok (.iload_n 2, 1) := by decide +kernel
theorem dX4_judge_51 : decode cX4_judge 51 = .ok (.invokevirtual 114, 3) := by decide +kernel
theorem dX4_judge_54 : decode cX4_judge 54 = .ok (.if_icmp .ne 9, 3) := by decide +kernel
theorem dX4_judge_57 : decode cX4_judge 57 = .ok (.iinc 2 1, 3) := by decide +kernel
theorem dX4_judge_60 : decode cX4_judge 60 = .ok (.goto (-40), 3) := by decide +kernel
theorem dX4_judge_63 : decode cX4_judge 63 = .ok (.iload_n 2, 1) := by decide +kernel
theorem dX4_judge_64 : decode cX4_judge 64 = .ok (.aload_n 0, 1) := by decide +kernel
theorem dX4_judge_65 : decode cX4_judge 65 = .ok (.getfield 66, 3) := by decide +kernel
theorem dX4_judge_68 : decode cX4_judge 68 = .ok (.iload_n 1, 1) := by decide +kernel
theorem dX4_judge_69 : decode cX4_judge 69 = .ok (.iaload, 1) := by decide +kernel
theorem dX4_judge_70 : decode cX4_judge 70 = .ok (.if_icmp .ne 7, 3) := by decide +kernel
theorem dX4_judge_73 : decode cX4_judge 73 = .ok (.iconst 0, 1) := by decide +kernel
theorem dX4_judge_74 : decode cX4_judge 74 = .ok (.goto 6, 3) := by decide +kernel
theorem dX4_judge_77 : decode cX4_judge 77 = .ok (.iconst 1, 1) := by decide +kernel
theorem dX4_judge_78 : decode cX4_judge 78 = .ok (.iload_n 2, 1) := by decide +kernel
theorem dX4_judge_79 : decode cX4_judge 79 = .ok (.iadd, 1) := by decide +kernel
theorem dX4_judge_80 : decode cX4_judge 80 = .ok (.ireturn, 1) := by decide +kernel
theorem dX4_image_0 : decode cX4_image 0 = .ok (.aload_n 0, 1) := by decide +kernel
theorem dX4_image_1 : decode cX4_image 1 = .ok (.getfield 9, 3) := by decide +kernel
theorem dX4_image_4 : decode cX4_image 4 = .ok (.aload_n 0, 1) := by decide +kernel
theorem dX4_image_5 : decode cX4_image 5 = .ok (.getfield 13, 3) := by decide +kernel
theorem dX4_image_8 : decode cX4_image 8 = .ok (.invokestatic 76, 3) := by decide +kernel
theorem dX4_image_11 : decode cX4_image 11 = .ok (.aload_n 0, 1) := by decide +kernel
theorem dX4_image_12 : decode cX4_image 12 = .ok (.iconst 1, 1) := by decide +kernel
theorem dX4_image_13 : decode cX4_image 13 = .ok (.putfield 345, 3) := by decide +kernel
theorem dX4_image_16 : decode cX4_image 16 = .ok (.iconst 1, 1) := by decide +kernel
theorem dX4_image_17 : decode cX4_image 17 = .ok (.ireturn, 1) := by decide +kernel
theorem dX4_undo_0 : decode cX4_undo 0 = .ok (.aload_n 0, 1) := by decide +kernel
theorem dX4_undo_1 : decode cX4_undo 1 = .ok (.getfield 345, 3) := by decide +kernel
theorem dX4_undo_4 : decode cX4_undo 4 = .ok (.ifCond .ne 10, 3) := by decide +kernel
theorem dX4_undo_7 : decode cX4_undo 7 = .ok (.aload_n 0, 1) := by decide +kernel
theorem dX4_undo_8 : decode cX4_undo 8 = .ok (.ldc 80, 2) := by decide +kernel
theorem dX4_undo_10 : decode cX4_undo 10 = .ok (.invokevirtual 81, 3) := by decide +kernel
theorem dX4_undo_13 : decode cX4_undo 13 = .ok (.ireturn, 1) := by decide +kernel
theorem dX4_undo_14 : decode cX4_undo 14 = .ok (.aload_n 0, 1) := by decide +kernel
theorem dX4_undo_15 : decode cX4_undo 15 = .ok (.getfield 13, 3) := by decide +kernel
theorem dX4_undo_18 : decode cX4_undo 18 = .ok (.aload_n 0, 1) := by decide +kernel
theorem dX4_undo_19 : decode cX4_undo 19 = .ok (.getfield 9, 3) := by decide +kernel
theorem dX4_undo_22 : decode cX4_undo 22 = .ok (.invokestatic 76, 3) := by decide +kernel
theorem dX4_undo_25 : decode cX4_undo 25 = .ok (.aload_n 0, 1) := by decide +kernel
theorem dX4_undo_26 : decode cX4_undo 26 = .ok (.getfield 9, 3) := by decide +kernel
theorem dX4_undo_29 : decode cX4_undo 29 = .ok (.iconst 0, 1) := by decide +kernel
theorem dX4_undo_30 : decode cX4_undo 30 = .ok (.iaload, 1) := by decide +kernel
theorem dX4_undo_31 : decode cX4_undo 31 = .ok (.ireturn, 1) := by decide +kernel
theorem dX4_tear_0 : decode cX4_tear 0 = .ok (.aload_n 0, 1) := by decide +kernel
theorem dX4_tear_1 : decode cX4_tear 1 = .ok (.getfield 345, 3) := by decide +kernel
theorem dX4_tear_4 : decode cX4_tear 4 = .ok (.ifCond .eq 7, 3) := by decide +kernel
theorem dX4_tear_7 : decode cX4_tear 7 = .ok (.iconst 1, 1) := by decide +kernel
theorem dX4_tear_8 : decode cX4_tear 8 = .ok (.goto 4, 3) := by decide +kernel
theorem dX4_tear_11 : decode cX4_tear 11 = .ok (.iconst 0, 1) := by decide +kernel
theorem dX4_tear_12 : decode cX4_tear 12 = .ok (.istore_n 1, 1) := by decide +kernel
theorem dX4_tear_13 : decode cX4_tear 13 = .ok (.aload_n 0, 1) := by decide +kernel
theorem dX4_tear_14 : decode cX4_tear 14 = .ok (.iconst 0, 1) := by decide +kernel
theorem dX4_tear_15 : decode cX4_tear 15 = .ok (.putfield 345, 3) := by decide +kernel
theorem dX4_tear_18 : decode cX4_tear 18 = .ok (.iload_n 1, 1) := by decide +kernel
theorem dX4_tear_19 : decode cX4_tear 19 = .ok (.ireturn, 1) := by decide +kernel
theorem dX4_count_0 : decode cX4_count 0 = .ok (.iconst 0, 1) := by decide +kernel
theorem dX4_count_1 : decode cX4_count 1 = .ok (.istore_n 2, 1) := by decide +kernel
theorem dX4_count_2 : decode cX4_count 2 = .ok (.iload_n 1, 1) := by decide +kernel
theorem dX4_count_3 : decode cX4_count 3 = .ok (.tableswitch 126 0 7 #[45, 52, 59, 67, 73, 79, 84, 91], 45) := by decide +kernel
theorem dX4_count_48 : decode cX4_count 48 = .ok (.aload_n 0, 1) := by decide +kernel
theorem dX4_count_49 : decode cX4_count 49 = .ok (.getfield 9, 3) := by decide +kernel
theorem dX4_count_52 : decode cX4_count 52 = .ok (.iconst 0, 1) := by decide +kernel
theorem dX4_count_53 : decode cX4_count 53 = .ok (.iaload, 1) := by decide +kernel
theorem dX4_count_54 : decode cX4_count 54 = .ok (.ireturn, 1) := by decide +kernel
theorem dX4_count_55 : decode cX4_count 55 = .ok (.aload_n 0, 1) := by decide +kernel
theorem dX4_count_56 : decode cX4_count 56 = .ok (.getfield 9, 3) := by decide +kernel
theorem dX4_count_59 : decode cX4_count 59 = .ok (.iconst 1, 1) := by decide +kernel
theorem dX4_count_60 : decode cX4_count 60 = .ok (.iaload, 1) := by decide +kernel
theorem dX4_count_61 : decode cX4_count 61 = .ok (.ireturn, 1) := by decide +kernel
theorem dX4_count_62 : decode cX4_count 62 = .ok (.aload_n 0, 1) := by decide +kernel
theorem dX4_count_63 : decode cX4_count 63 = .ok (.invokevirtual 171, 3) := by decide +kernel
theorem dX4_count_66 : decode cX4_count 66 = .ok (.invokestatic 123, 3) := by decide +kernel
theorem dX4_count_69 : decode cX4_count 69 = .ok (.ireturn, 1) := by decide +kernel
theorem dX4_count_70 : decode cX4_count 70 = .ok (.aload_n 0, 1) := by decide +kernel
theorem dX4_count_71 : decode cX4_count 71 = .ok (.iconst 4, 1) := by decide +kernel
theorem dX4_count_72 : decode cX4_count 72 = .ok (.invokevirtual 175, 3) := by decide +kernel
theorem dX4_count_75 : decode cX4_count 75 = .ok (.ireturn, 1) := by decide +kernel
theorem dX4_count_76 : decode cX4_count 76 = .ok (.aload_n 0, 1) := by decide +kernel
theorem dX4_count_77 : decode cX4_count 77 = .ok (.iconst 5, 1) := by decide +kernel
theorem dX4_count_78 : decode cX4_count 78 = .ok (.invokevirtual 175, 3) := by decide +kernel
theorem dX4_count_81 : decode cX4_count 81 = .ok (.ireturn, 1) := by decide +kernel
theorem dX4_count_82 : decode cX4_count 82 = .ok (.aload_n 0, 1) := by decide +kernel
theorem dX4_count_83 : decode cX4_count 83 = .ok (.getfield 250, 3) := by decide +kernel
theorem dX4_count_86 : decode cX4_count 86 = .ok (.ireturn, 1) := by decide +kernel
theorem dX4_count_87 : decode cX4_count 87 = .ok (.aload_n 0, 1) := by decide +kernel
theorem dX4_count_88 : decode cX4_count 88 = .ok (.getfield 9, 3) := by decide +kernel
theorem dX4_count_91 : decode cX4_count 91 = .ok (.iconst 2, 1) := by decide +kernel
theorem dX4_count_92 : decode cX4_count 92 = .ok (.iaload, 1) := by decide +kernel
theorem dX4_count_93 : decode cX4_count 93 = .ok (.ireturn, 1) := by decide +kernel
theorem dX4_count_94 : decode cX4_count 94 = .ok (.iconst 0, 1) := by decide +kernel
theorem dX4_count_95 : decode cX4_count 95 = .ok (.istore_n 3, 1) := by decide +kernel
theorem dX4_count_96 : decode cX4_count 96 = .ok (.iload_n 3, 1) := by decide +kernel
theorem dX4_count_97 : decode cX4_count 97 = .ok (.bipush 10, 2) := by decide +kernel
theorem dX4_count_99 : decode cX4_count 99 = .ok (.if_icmp .ge 28, 3) := by decide +kernel
theorem dX4_count_102 : decode cX4_count 102 = .ok (.iload_n 2, 1) := by decide +kernel
theorem dX4_count_103 : decode cX4_count 103 = .ok (.aload_n 0, 1) := by decide +kernel
theorem dX4_count_104 : decode cX4_count 104 = .ok (.getfield 9, 3) := by decide +kernel
theorem dX4_count_107 : decode cX4_count 107 = .ok (.iconst 4, 1) := by decide +kernel
theorem dX4_count_108 : decode cX4_count 108 = .ok (.iload_n 3, 1) := by decide +kernel
theorem dX4_count_109 : decode cX4_count 109 = .ok (.iadd, 1) := by decide +kernel
theorem dX4_count_110 : decode cX4_count 110 = .ok (.iaload, 1) := by decide +kernel
theorem dX4_count_111 : decode cX4_count 111 = .ok (.ifCond .ge 7, 3) := by decide +kernel
theorem dX4_count_114 : decode cX4_count 114 = .ok (.iconst 0, 1) := by decide +kernel
theorem dX4_count_115 : decode cX4_count 115 = .ok (.goto 4, 3) := by decide +kernel
theorem dX4_count_118 : decode cX4_count 118 = .ok (.iconst 1, 1) := by decide +kernel
theorem dX4_count_119 : decode cX4_count 119 = .ok (.iadd, 1) := by decide +kernel
theorem dX4_count_120 : decode cX4_count 120 = .ok (.istore_n 2, 1) := by decide +kernel
theorem dX4_count_121 : decode cX4_count 121 = .ok (.iinc 3 1, 3) := by decide +kernel
theorem dX4_count_124 : decode cX4_count 124 = .ok (.goto (-28), 3) := by decide +kernel
theorem dX4_count_127 : decode cX4_count 127 = .ok (.iload_n 2, 1) := by decide +kernel
theorem dX4_count_128 : decode cX4_count 128 = .ok (.ireturn, 1) := by decide +kernel
theorem dX4_count_129 : decode cX4_count 129 = .ok (.aload_n 0, 1) := by decide +kernel
theorem dX4_count_130 : decode cX4_count 130 = .ok (.ldc 75, 2) := by decide +kernel
theorem dX4_count_132 : decode cX4_count 132 = .ok (.invokevirtual 81, 3) := by decide +kernel
theorem dX4_count_135 : decode cX4_count 135 = .ok (.ireturn, 1) := by decide +kernel
theorem dX4_status_0 : decode cX4_status 0 = .ok (.iload_n 1, 1) := by decide +kernel
theorem dX4_status_1 : decode cX4_status 1 = .ok (.iconst (-1), 1) := by decide +kernel
theorem dX4_status_2 : decode cX4_status 2 = .ok (.bipush 6, 2) := by decide +kernel
theorem dX4_status_4 : decode cX4_status 4 = .ok (.invokestatic 85, 3) := by decide +kernel
theorem dX4_status_7 : decode cX4_status 7 = .ok (.ifCond .eq 14, 3) := by decide +kernel
theorem dX4_status_10 : decode cX4_status 10 = .ok (.aload_n 0, 1) := by decide +kernel
theorem dX4_status_11 : decode cX4_status 11 = .ok (.getfield 19, 3) := by decide +kernel
theorem dX4_status_14 : decode cX4_status 14 = .ok (.iload_n 1, 1) := by decide +kernel
theorem dX4_status_15 : decode cX4_status 15 = .ok (.iconst 1, 1) := by decide +kernel
theorem dX4_status_16 : decode cX4_status 16 = .ok (.iadd, 1) := by decide +kernel
theorem dX4_status_17 : decode cX4_status 17 = .ok (.iaload, 1) := by decide +kernel
theorem dX4_status_18 : decode cX4_status 18 = .ok (.goto 9, 3) := by decide +kernel
theorem dX4_status_21 : decode cX4_status 21 = .ok (.aload_n 0, 1) := by decide +kernel
theorem dX4_status_22 : decode cX4_status 22 = .ok (.ldc 75, 2) := by decide +kernel
theorem dX4_status_24 : decode cX4_status 24 = .ok (.invokevirtual 81, 3) := by decide +kernel
theorem dX4_status_27 : decode cX4_status 27 = .ok (.ireturn, 1) := by decide +kernel
theorem dJ6_bitCount_0f7a4_0 : decode cJ6_bitCount_0f7a4 0 = .ok (.iload_n 0, 1) := by decide +kernel
theorem dJ6_bitCount_0f7a4_1 : decode cJ6_bitCount_0f7a4 1 = .ok (.iload_n 0, 1) := by decide +kernel
theorem dJ6_bitCount_0f7a4_2 : decode cJ6_bitCount_0f7a4 2 = .ok (.iconst 1, 1) := by decide +kernel
theorem dJ6_bitCount_0f7a4_3 : decode cJ6_bitCount_0f7a4 3 = .ok (.iushr, 1) := by decide +kernel
theorem dJ6_bitCount_0f7a4_4 : decode cJ6_bitCount_0f7a4 4 = .ok (.ldc_w 265, 3) := by decide +kernel
theorem dJ6_bitCount_0f7a4_7 : decode cJ6_bitCount_0f7a4 7 = .ok (.iand, 1) := by decide +kernel
theorem dJ6_bitCount_0f7a4_8 : decode cJ6_bitCount_0f7a4 8 = .ok (.isub, 1) := by decide +kernel
theorem dJ6_bitCount_0f7a4_9 : decode cJ6_bitCount_0f7a4 9 = .ok (.istore_n 0, 1) := by decide +kernel
theorem dJ6_bitCount_0f7a4_10 : decode cJ6_bitCount_0f7a4 10 = .ok (.iload_n 0, 1) := by decide +kernel
theorem dJ6_bitCount_0f7a4_11 : decode cJ6_bitCount_0f7a4 11 = .ok (.ldc_w 266, 3) := by decide +kernel
theorem dJ6_bitCount_0f7a4_14 : decode cJ6_bitCount_0f7a4 14 = .ok (.iand, 1) := by decide +kernel
theorem dJ6_bitCount_0f7a4_15 : decode cJ6_bitCount_0f7a4 15 = .ok (.iload_n 0, 1) := by decide +kernel
theorem dJ6_bitCount_0f7a4_16 : decode cJ6_bitCount_0f7a4 16 = .ok (.iconst 2, 1) := by decide +kernel
theorem dJ6_bitCount_0f7a4_17 : decode cJ6_bitCount_0f7a4 17 = .ok (.iushr, 1) := by decide +kernel
theorem dJ6_bitCount_0f7a4_18 : decode cJ6_bitCount_0f7a4 18 = .ok (.ldc_w 266, 3) := by decide +kernel
theorem dJ6_bitCount_0f7a4_21 : decode cJ6_bitCount_0f7a4 21 = .ok (.iand, 1) := by decide +kernel
theorem dJ6_bitCount_0f7a4_22 : decode cJ6_bitCount_0f7a4 22 = .ok (.iadd, 1) := by decide +kernel
theorem dJ6_bitCount_0f7a4_23 : decode cJ6_bitCount_0f7a4 23 = .ok (.istore_n 0, 1) := by decide +kernel
theorem dJ6_bitCount_0f7a4_24 : decode cJ6_bitCount_0f7a4 24 = .ok (.iload_n 0, 1) := by decide +kernel
theorem dJ6_bitCount_0f7a4_25 : decode cJ6_bitCount_0f7a4 25 = .ok (.iload_n 0, 1) := by decide +kernel
theorem dJ6_bitCount_0f7a4_26 : decode cJ6_bitCount_0f7a4 26 = .ok (.iconst 4, 1) := by decide +kernel
theorem dJ6_bitCount_0f7a4_27 : decode cJ6_bitCount_0f7a4 27 = .ok (.iushr, 1) := by decide +kernel
theorem dJ6_bitCount_0f7a4_28 : decode cJ6_bitCount_0f7a4 28 = .ok (.iadd, 1) := by decide +kernel
theorem dJ6_bitCount_0f7a4_29 : decode cJ6_bitCount_0f7a4 29 = .ok (.ldc_w 267, 3) := by decide +kernel
theorem dJ6_bitCount_0f7a4_32 : decode cJ6_bitCount_0f7a4 32 = .ok (.iand, 1) := by decide +kernel
theorem dJ6_bitCount_0f7a4_33 : decode cJ6_bitCount_0f7a4 33 = .ok (.istore_n 0, 1) := by decide +kernel
theorem dJ6_bitCount_0f7a4_34 : decode cJ6_bitCount_0f7a4 34 = .ok (.iload_n 0, 1) := by decide +kernel
theorem dJ6_bitCount_0f7a4_35 : decode cJ6_bitCount_0f7a4 35 = .ok (.iload_n 0, 1) := by decide +kernel
theorem dJ6_bitCount_0f7a4_36 : decode cJ6_bitCount_0f7a4 36 = .ok (.bipush 8, 2) := by decide +kernel
theorem dJ6_bitCount_0f7a4_38 : decode cJ6_bitCount_0f7a4 38 = .ok (.iushr, 1) := by decide +kernel
theorem dJ6_bitCount_0f7a4_39 : decode cJ6_bitCount_0f7a4 39 = .ok (.iadd, 1) := by decide +kernel
theorem dJ6_bitCount_0f7a4_40 : decode cJ6_bitCount_0f7a4 40 = .ok (.istore_n 0, 1) := by decide +kernel
theorem dJ6_bitCount_0f7a4_41 : decode cJ6_bitCount_0f7a4 41 = .ok (.iload_n 0, 1) := by decide +kernel
theorem dJ6_bitCount_0f7a4_42 : decode cJ6_bitCount_0f7a4 42 = .ok (.iload_n 0, 1) := by decide +kernel
theorem dJ6_bitCount_0f7a4_43 : decode cJ6_bitCount_0f7a4 43 = .ok (.bipush 16, 2) := by decide +kernel
theorem dJ6_bitCount_0f7a4_45 : decode cJ6_bitCount_0f7a4 45 = .ok (.iushr, 1) := by decide +kernel
theorem dJ6_bitCount_0f7a4_46 : decode cJ6_bitCount_0f7a4 46 = .ok (.iadd, 1) := by decide +kernel
theorem dJ6_bitCount_0f7a4_47 : decode cJ6_bitCount_0f7a4 47 = .ok (.istore_n 0, 1) := by decide +kernel
theorem dJ6_bitCount_0f7a4_48 : decode cJ6_bitCount_0f7a4 48 = .ok (.iload_n 0, 1) := by decide +kernel
theorem dJ6_bitCount_0f7a4_49 : decode cJ6_bitCount_0f7a4 49 = .ok (.bipush 63, 2) := by decide +kernel
theorem dJ6_bitCount_0f7a4_51 : decode cJ6_bitCount_0f7a4 51 = .ok (.iand, 1) := by decide +kernel
theorem dJ6_bitCount_0f7a4_52 : decode cJ6_bitCount_0f7a4 52 = .ok (.ireturn, 1) := by decide +kernel
end
section
theorem dJ9_floorMod_7cf53_0 : decode cJ9_floorMod_7cf53 0 = .ok (.iload_n 0, 1) := by decide +kernel
theorem dJ9_floorMod_7cf53_1 : decode cJ9_floorMod_7cf53 1 = .ok (.iload_n 1, 1) := by decide +kernel
theorem dJ9_floorMod_7cf53_2 : decode cJ9_floorMod_7cf53 2 = .ok (.irem, 1) := by decide +kernel
theorem dJ9_floorMod_7cf53_3 : decode cJ9_floorMod_7cf53 3 = .ok (.istore_n 2, 1) := by decide +kernel
theorem dJ9_floorMod_7cf53_4 : decode cJ9_floorMod_7cf53 4 = .ok (.iload_n 0, 1) := by decide +kernel
theorem dJ9_floorMod_7cf53_5 : decode cJ9_floorMod_7cf53 5 = .ok (.iload_n 1, 1) := by decide +kernel
theorem dJ9_floorMod_7cf53_6 : decode cJ9_floorMod_7cf53 6 = .ok (.ixor, 1) := by decide +kernel
theorem dJ9_floorMod_7cf53_7 : decode cJ9_floorMod_7cf53 7 = .ok (.ifCond .ge 11, 3) := by decide +kernel
theorem dJ9_floorMod_7cf53_10 : decode cJ9_floorMod_7cf53 10 = .ok (.iload_n 2, 1) := by decide +kernel
theorem dJ9_floorMod_7cf53_11 : decode cJ9_floorMod_7cf53 11 = .ok (.ifCond .eq 7, 3) := by decide +kernel
theorem dJ9_floorMod_7cf53_14 : decode cJ9_floorMod_7cf53 14 = .ok (.iload_n 2, 1) := by decide +kernel
theorem dJ9_floorMod_7cf53_15 : decode cJ9_floorMod_7cf53 15 = .ok (.iload_n 1, 1) := by decide +kernel
theorem dJ9_floorMod_7cf53_16 : decode cJ9_floorMod_7cf53 16 = .ok (.iadd, 1) := by decide +kernel
theorem dJ9_floorMod_7cf53_17 : decode cJ9_floorMod_7cf53 17 = .ok (.ireturn, 1) := by decide +kernel
theorem dJ9_floorMod_7cf53_18 : decode cJ9_floorMod_7cf53 18 = .ok (.iload_n 2, 1) := by decide +kernel
theorem dJ9_floorMod_7cf53_19 : decode cJ9_floorMod_7cf53 19 = .ok (.ireturn, 1) := by decide +kernel
theorem dJ9_max_7cf53_0 : decode cJ9_max_7cf53 0 = .ok (.iload_n 0, 1) := by decide +kernel
theorem dJ9_max_7cf53_1 : decode cJ9_max_7cf53 1 = .ok (.iload_n 1, 1) := by decide +kernel
theorem dJ9_max_7cf53_2 : decode cJ9_max_7cf53 2 = .ok (.if_icmp .lt 7, 3) := by decide +kernel
theorem dJ9_max_7cf53_5 : decode cJ9_max_7cf53 5 = .ok (.iload_n 0, 1) := by decide +kernel
theorem dJ9_max_7cf53_6 : decode cJ9_max_7cf53 6 = .ok (.goto 4, 3) := by decide +kernel
theorem dJ9_max_7cf53_9 : decode cJ9_max_7cf53 9 = .ok (.iload_n 1, 1) := by decide +kernel
theorem dJ9_max_7cf53_10 : decode cJ9_max_7cf53 10 = .ok (.ireturn, 1) := by decide +kernel
theorem dJ9_min_7cf53_0 : decode cJ9_min_7cf53 0 = .ok (.iload_n 0, 1) := by decide +kernel
theorem dJ9_min_7cf53_1 : decode cJ9_min_7cf53 1 = .ok (.iload_n 1, 1) := by decide +kernel
theorem dJ9_min_7cf53_2 : decode cJ9_min_7cf53 2 = .ok (.if_icmp .gt 7, 3) := by decide +kernel
theorem dJ9_min_7cf53_5 : decode cJ9_min_7cf53 5 = .ok (.iload_n 0, 1) := by decide +kernel
theorem dJ9_min_7cf53_6 : decode cJ9_min_7cf53 6 = .ok (.goto 4, 3) := by decide +kernel
theorem dJ9_min_7cf53_9 : decode cJ9_min_7cf53 9 = .ok (.iload_n 1, 1) := by decide +kernel
theorem dJ9_min_7cf53_10 : decode cJ9_min_7cf53 10 = .ok (.ireturn, 1) := by decide +kernel
theorem dJ0_length_8abf5_0 : decode cJ0_length_8abf5 0 = .ok (.aload_n 0, 1) := by decide +kernel
theorem dJ0_length_8abf5_1 : decode cJ0_length_8abf5 1 = .ok (.getfield 9, 3) := by decide +kernel
theorem dJ0_length_8abf5_4 : decode cJ0_length_8abf5 4 = .ok (.arraylength, 1) := by decide +kernel
theorem dJ0_length_8abf5_5 : decode cJ0_length_8abf5 5 = .ok (.aload_n 0, 1) := by decide +kernel
theorem dJ0_length_8abf5_6 : decode cJ0_length_8abf5 6 = .ok (.invokevirtual 335, 3) := by decide +kernel
theorem dJ0_length_8abf5_9 : decode cJ0_length_8abf5 9 = .ok (.ishr, 1) := by decide +kernel
theorem dJ0_length_8abf5_10 : decode cJ0_length_8abf5 10 = .ok (.ireturn, 1) := by decide +kernel
theorem dJ0_charAt_5068e_0 : decode cJ0_charAt_5068e 0 = .ok (.aload_n 0, 1) := by decide +kernel
theorem dJ0_charAt_5068e_1 : decode cJ0_charAt_5068e 1 = .ok (.invokevirtual 492, 3) := by decide +kernel
theorem dJ0_charAt_5068e_4 : decode cJ0_charAt_5068e 4 = .ok (.ifCond .eq 12, 3) := by decide +kernel
theorem dJ0_charAt_5068e_7 : decode cJ0_charAt_5068e 7 = .ok (.aload_n 0, 1) := by decide +kernel
theorem dJ0_charAt_5068e_8 : decode cJ0_charAt_5068e 8 = .ok (.getfield 9, 3) := by decide +kernel
theorem dJ0_charAt_5068e_11 : decode cJ0_charAt_5068e 11 = .ok (.iload_n 1, 1) := by decide +kernel
theorem dJ0_charAt_5068e_12 : decode cJ0_charAt_5068e 12 = .ok (.invokestatic 495, 3) := by decide +kernel
theorem dJ0_charAt_5068e_15 : decode cJ0_charAt_5068e 15 = .ok (.ireturn, 1) := by decide +kernel
theorem dJ0_charAt_5068e_16 : decode cJ0_charAt_5068e 16 = .ok (.aload_n 0, 1) := by decide +kernel
theorem dJ0_charAt_5068e_17 : decode cJ0_charAt_5068e 17 = .ok (.getfield 9, 3) := by decide +kernel
theorem dJ0_charAt_5068e_20 : decode cJ0_charAt_5068e 20 = .ok (.iload_n 1, 1) := by decide +kernel
theorem dJ0_charAt_5068e_21 : decode cJ0_charAt_5068e 21 = .ok (.invokestatic 498, 3) := by decide +kernel
theorem dJ0_charAt_5068e_24 : decode cJ0_charAt_5068e 24 = .ok (.ireturn, 1) := by decide +kernel
theorem dJ0_coder_7d493_0 : decode cJ0_coder_7d493 0 = .ok (.getstatic 38, 3) := by decide +kernel
theorem dJ0_coder_7d493_3 : decode cJ0_coder_7d493 3 = .ok (.ifCond .eq 10, 3) := by decide +kernel
theorem dJ0_coder_7d493_6 : decode cJ0_coder_7d493 6 = .ok (.aload_n 0, 1) := by decide +kernel
theorem dJ0_coder_7d493_7 : decode cJ0_coder_7d493 7 = .ok (.getfield 15, 3) := by decide +kernel
theorem dJ0_coder_7d493_10 : decode cJ0_coder_7d493 10 = .ok (.goto 4, 3) := by decide +kernel
theorem dJ0_coder_7d493_13 : decode cJ0_coder_7d493 13 = .ok (.iconst 1, 1) := by decide +kernel
theorem dJ0_coder_7d493_14 : decode cJ0_coder_7d493 14 = .ok (.ireturn, 1) := by decide +kernel
theorem dJ0_isLatin1_aae02_0 : decode cJ0_isLatin1_aae02 0 = .ok (.getstatic 38, 3) := by decide +kernel
theorem dJ0_isLatin1_aae02_3 : decode cJ0_isLatin1_aae02 3 = .ok (.ifCond .eq 14, 3) := by decide +kernel
theorem dJ0_isLatin1_aae02_6 : decode cJ0_isLatin1_aae02 6 = .ok (.aload_n 0, 1) := by decide +kernel
theorem dJ0_isLatin1_aae02_7 : decode cJ0_isLatin1_aae02 7 = .ok (.getfield 15, 3) := by decide +kernel
theorem dJ0_isLatin1_aae02_10 : decode cJ0_isLatin1_aae02 10 = .ok (.ifCond .ne 7, 3) := by decide +kernel
theorem dJ0_isLatin1_aae02_13 : decode cJ0_isLatin1_aae02 13 = .ok (.iconst 1, 1) := by decide +kernel
theorem dJ0_isLatin1_aae02_14 : decode cJ0_isLatin1_aae02 14 = .ok (.goto 4, 3) := by decide +kernel
theorem dJ0_isLatin1_aae02_17 : decode cJ0_isLatin1_aae02 17 = .ok (.iconst 0, 1) := by decide +kernel
theorem dJ0_isLatin1_aae02_18 : decode cJ0_isLatin1_aae02 18 = .ok (.ireturn, 1) := by decide +kernel
theorem dJ0_checkIndex_df160_0 : decode cJ0_checkIndex_df160 0 = .ok (.iload_n 0, 1) := by decide +kernel
theorem dJ0_checkIndex_df160_1 : decode cJ0_checkIndex_df160 1 = .ok (.iload_n 1, 1) := by decide +kernel
theorem dJ0_checkIndex_df160_2 : decode cJ0_checkIndex_df160 2 = .ok (.getstatic 1053, 3) := by decide +kernel
theorem dJ0_checkIndex_df160_5 : decode cJ0_checkIndex_df160 5 = .ok (.invokestatic 1059, 3) := by decide +kernel
theorem dJ0_checkIndex_df160_8 : decode cJ0_checkIndex_df160 8 = .ok (.pop, 1) := by decide +kernel
theorem dJ0_checkIndex_df160_9 : decode cJ0_checkIndex_df160 9 = .ok (.return_, 1) := by decide +kernel
theorem dJ1_charAt_3b067_0 : decode cJ1_charAt_3b067 0 = .ok (.iload_n 1, 1) := by decide +kernel
theorem dJ1_charAt_3b067_1 : decode cJ1_charAt_3b067 1 = .ok (.aload_n 0, 1) := by decide +kernel
theorem dJ1_charAt_3b067_2 : decode cJ1_charAt_3b067 2 = .ok (.arraylength, 1) := by decide +kernel
theorem dJ1_charAt_3b067_3 : decode cJ1_charAt_3b067 3 = .ok (.invokestatic 9, 3) := by decide +kernel
theorem dJ1_charAt_3b067_6 : decode cJ1_charAt_3b067 6 = .ok (.aload_n 0, 1) := by decide +kernel
theorem dJ1_charAt_3b067_7 : decode cJ1_charAt_3b067 7 = .ok (.iload_n 1, 1) := by decide +kernel
theorem dJ1_charAt_3b067_8 : decode cJ1_charAt_3b067 8 = .ok (.baload, 1) := by decide +kernel
theorem dJ1_charAt_3b067_9 : decode cJ1_charAt_3b067 9 = .ok (.sipush 255, 3) := by decide +kernel
theorem dJ1_charAt_3b067_12 : decode cJ1_charAt_3b067 12 = .ok (.iand, 1) := by decide +kernel
theorem dJ1_charAt_3b067_13 : decode cJ1_charAt_3b067 13 = .ok (.i2c, 1) := by decide +kernel
theorem dJ1_charAt_3b067_14 : decode cJ1_charAt_3b067 14 = .ok (.ireturn, 1) := by decide +kernel
theorem dJ2_getChar_3b067_0 : decode cJ2_getChar_3b067 0 = .ok (.getstatic 44, 3) := by decide +kernel
theorem dJ2_getChar_3b067_3 : decode cJ2_getChar_3b067 3 = .ok (.ifCond .ne 25, 3) := by decide +kernel
theorem dJ2_getChar_3b067_6 : decode cJ2_getChar_3b067 6 = .ok (.iload_n 1, 1) := by decide +kernel
theorem dJ2_getChar_3b067_7 : decode cJ2_getChar_3b067 7 = .ok (.ifCond .lt 11, 3) := by decide +kernel
theorem dJ2_getChar_3b067_10 : decode cJ2_getChar_3b067 10 = .ok (.iload_n 1, 1) := by decide +kernel
theorem dJ2_getChar_3b067_11 : decode cJ2_getChar_3b067 11 = .ok (.aload_n 0, 1) := by decide +kernel
theorem dJ2_getChar_3b067_12 : decode cJ2_getChar_3b067 12 = .ok (.invokestatic 48, 3) := by decide +kernel
theorem dJ2_getChar_3b067_15 : decode cJ2_getChar_3b067 15 = .ok (.if_icmp .lt 13, 3) := by decide +kernel
theorem dJ2_getChar_3b067_18 : decode cJ2_getChar_3b067 18 = .ok (.new 52, 3) := by decide +kernel
theorem dJ2_getChar_3b067_21 : decode cJ2_getChar_3b067 21 = .ok (.dup, 1) := by decide +kernel
theorem dJ2_getChar_3b067_22 : decode cJ2_getChar_3b067 22 = .ok (.ldc 54, 2) := by decide +kernel
theorem dJ2_getChar_3b067_24 : decode cJ2_getChar_3b067 24 = .ok (.invokespecial 56, 3) := by decide +kernel
theorem dJ2_getChar_3b067_27 : decode cJ2_getChar_3b067 27 = .ok (.athrow, 1) := by decide +kernel
theorem dJ2_getChar_3b067_28 : decode cJ2_getChar_3b067 28 = .ok (.iload_n 1, 1) := by decide +kernel
theorem dJ2_getChar_3b067_29 : decode cJ2_getChar_3b067 29 = .ok (.iconst 1, 1) := by decide +kernel
theorem dJ2_getChar_3b067_30 : decode cJ2_getChar_3b067 30 = .ok (.ishl, 1) := by decide +kernel
theorem dJ2_getChar_3b067_31 : decode cJ2_getChar_3b067 31 = .ok (.istore_n 1, 1) := by decide +kernel
theorem dJ2_getChar_3b067_32 : decode cJ2_getChar_3b067 32 = .ok (.aload_n 0, 1) := by decide +kernel
theorem dJ2_getChar_3b067_33 : decode cJ2_getChar_3b067 33 = .ok (.iload_n 1, 1) := by decide +kernel
theorem dJ2_getChar_3b067_34 : decode cJ2_getChar_3b067 34 = .ok (.iinc 1 1, 3) := by decide +kernel
theorem dJ2_getChar_3b067_37 : decode cJ2_getChar_3b067 37 = .ok (.baload, 1) := by decide +kernel
theorem dJ2_getChar_3b067_38 : decode cJ2_getChar_3b067 38 = .ok (.sipush 255, 3) := by decide +kernel
theorem dJ2_getChar_3b067_41 : decode cJ2_getChar_3b067 41 = .ok (.iand, 1) := by decide +kernel
theorem dJ2_getChar_3b067_42 : decode cJ2_getChar_3b067 42 = .ok (.getstatic 59, 3) := by decide +kernel
theorem dJ2_getChar_3b067_45 : decode cJ2_getChar_3b067 45 = .ok (.ishl, 1) := by decide +kernel
theorem dJ2_getChar_3b067_46 : decode cJ2_getChar_3b067 46 = .ok (.aload_n 0, 1) := by decide +kernel
theorem dJ2_getChar_3b067_47 : decode cJ2_getChar_3b067 47 = .ok (.iload_n 1, 1) := by decide +kernel
theorem dJ2_getChar_3b067_48 : decode cJ2_getChar_3b067 48 = .ok (.baload, 1) := by decide +kernel
theorem dJ2_getChar_3b067_49 : decode cJ2_getChar_3b067 49 = .ok (.sipush 255, 3) := by decide +kernel
theorem dJ2_getChar_3b067_52 : decode cJ2_getChar_3b067 52 = .ok (.iand, 1) := by decide +kernel
theorem dJ2_getChar_3b067_53 : decode cJ2_getChar_3b067 53 = .ok (.getstatic 63, 3) := by decide +kernel
theorem dJ2_getChar_3b067_56 : decode cJ2_getChar_3b067 56 = .ok (.ishl, 1) := by decide +kernel
theorem dJ2_getChar_3b067_57 : decode cJ2_getChar_3b067 57 = .ok (.ior, 1) := by decide +kernel
theorem dJ2_getChar_3b067_58 : decode cJ2_getChar_3b067 58 = .ok (.i2c, 1) := by decide +kernel
theorem dJ2_getChar_3b067_59 : decode cJ2_getChar_3b067 59 = .ok (.ireturn, 1) := by decide +kernel
theorem dJ2_length_9d52b_0 : decode cJ2_length_9d52b 0 = .ok (.aload_n 0, 1) := by decide +kernel
theorem dJ2_length_9d52b_1 : decode cJ2_length_9d52b 1 = .ok (.arraylength, 1) := by decide +kernel
theorem dJ2_length_9d52b_2 : decode cJ2_length_9d52b 2 = .ok (.iconst 1, 1) := by decide +kernel
theorem dJ2_length_9d52b_3 : decode cJ2_length_9d52b 3 = .ok (.ishr, 1) := by decide +kernel
theorem dJ2_length_9d52b_4 : decode cJ2_length_9d52b 4 = .ok (.ireturn, 1) := by decide +kernel
theorem dJ2_charAt_3b067_0 : decode cJ2_charAt_3b067 0 = .ok (.iload_n 1, 1) := by decide +kernel
theorem dJ2_charAt_3b067_1 : decode cJ2_charAt_3b067 1 = .ok (.aload_n 0, 1) := by decide +kernel
theorem dJ2_charAt_3b067_2 : decode cJ2_charAt_3b067 2 = .ok (.invokestatic 67, 3) := by decide +kernel
theorem dJ2_charAt_3b067_5 : decode cJ2_charAt_3b067 5 = .ok (.aload_n 0, 1) := by decide +kernel
theorem dJ2_charAt_3b067_6 : decode cJ2_charAt_3b067 6 = .ok (.iload_n 1, 1) := by decide +kernel
theorem dJ2_charAt_3b067_7 : decode cJ2_charAt_3b067 7 = .ok (.invokestatic 71, 3) := by decide +kernel
theorem dJ2_charAt_3b067_10 : decode cJ2_charAt_3b067 10 = .ok (.ireturn, 1) := by decide +kernel
theorem dJ2_checkIndex_2214a_0 : decode cJ2_checkIndex_2214a 0 = .ok (.iload_n 0, 1) := by decide +kernel
theorem dJ2_checkIndex_2214a_1 : decode cJ2_checkIndex_2214a 1 = .ok (.aload_n 1, 1) := by decide +kernel
theorem dJ2_checkIndex_2214a_2 : decode cJ2_checkIndex_2214a 2 = .ok (.invokestatic 48, 3) := by decide +kernel
theorem dJ2_checkIndex_2214a_5 : decode cJ2_checkIndex_2214a 5 = .ok (.invokestatic 414, 3) := by decide +kernel
theorem dJ2_checkIndex_2214a_8 : decode cJ2_checkIndex_2214a 8 = .ok (.return_, 1) := by decide +kernel
theorem dJ7_fill_53178_0 : decode cJ7_fill_53178 0 = .ok (.iconst 0, 1) := by decide +kernel
theorem dJ7_fill_53178_1 : decode cJ7_fill_53178 1 = .ok (.istore_n 2, 1) := by decide +kernel
theorem dJ7_fill_53178_2 : decode cJ7_fill_53178 2 = .ok (.aload_n 0, 1) := by decide +kernel
theorem dJ7_fill_53178_3 : decode cJ7_fill_53178 3 = .ok (.arraylength, 1) := by decide +kernel
theorem dJ7_fill_53178_4 : decode cJ7_fill_53178 4 = .ok (.istore_n 3, 1) := by decide +kernel
theorem dJ7_fill_53178_5 : decode cJ7_fill_53178 5 = .ok (.iload_n 2, 1) := by decide +kernel
theorem dJ7_fill_53178_6 : decode cJ7_fill_53178 6 = .ok (.iload_n 3, 1) := by decide +kernel
theorem dJ7_fill_53178_7 : decode cJ7_fill_53178 7 = .ok (.if_icmp .ge 13, 3) := by decide +kernel
theorem dJ7_fill_53178_10 : decode cJ7_fill_53178 10 = .ok (.aload_n 0, 1) := by decide +kernel
theorem dJ7_fill_53178_11 : decode cJ7_fill_53178 11 = .ok (.iload_n 2, 1) := by decide +kernel
theorem dJ7_fill_53178_12 : decode cJ7_fill_53178 12 = .ok (.iload_n 1, 1) := by decide +kernel
theorem dJ7_fill_53178_13 : decode cJ7_fill_53178 13 = .ok (.iastore, 1) := by decide +kernel
theorem dJ7_fill_53178_14 : decode cJ7_fill_53178 14 = .ok (.iinc 2 1, 3) := by decide +kernel
theorem dJ7_fill_53178_17 : decode cJ7_fill_53178 17 = .ok (.goto (-12), 3) := by decide +kernel
theorem dJ7_fill_53178_20 : decode cJ7_fill_53178 20 = .ok (.return_, 1) := by decide +kernel
theorem dJ3_checkIndex_8e157_0 : decode cJ3_checkIndex_8e157 0 = .ok (.iload_n 0, 1) := by decide +kernel
theorem dJ3_checkIndex_8e157_1 : decode cJ3_checkIndex_8e157 1 = .ok (.ifCond .lt 8, 3) := by decide +kernel
theorem dJ3_checkIndex_8e157_4 : decode cJ3_checkIndex_8e157 4 = .ok (.iload_n 0, 1) := by decide +kernel
theorem dJ3_checkIndex_8e157_5 : decode cJ3_checkIndex_8e157 5 = .ok (.iload_n 1, 1) := by decide +kernel
theorem dJ3_checkIndex_8e157_6 : decode cJ3_checkIndex_8e157 6 = .ok (.if_icmp .lt 10, 3) := by decide +kernel
theorem dJ3_checkIndex_8e157_9 : decode cJ3_checkIndex_8e157 9 = .ok (.aload_n 2, 1) := by decide +kernel
theorem dJ3_checkIndex_8e157_10 : decode cJ3_checkIndex_8e157 10 = .ok (.iload_n 0, 1) := by decide +kernel
theorem dJ3_checkIndex_8e157_11 : decode cJ3_checkIndex_8e157 11 = .ok (.iload_n 1, 1) := by decide +kernel
theorem dJ3_checkIndex_8e157_12 : decode cJ3_checkIndex_8e157 12 = .ok (.invokestatic 95, 3) := by decide +kernel
theorem dJ3_checkIndex_8e157_15 : decode cJ3_checkIndex_8e157 15 = .ok (.athrow, 1) := by decide +kernel
theorem dJ3_checkIndex_8e157_16 : decode cJ3_checkIndex_8e157 16 = .ok (.iload_n 0, 1) := by decide +kernel
theorem dJ3_checkIndex_8e157_17 : decode cJ3_checkIndex_8e157 17 = .ok (.ireturn, 1) := by decide +kernel
theorem dL_law_0 : decode cL_law 0 = .ok (.new 7, 3) := by decide +kernel
theorem dL_law_3 : decode cL_law 3 = .ok (.dup, 1) := by decide +kernel
theorem dL_law_4 : decode cL_law 4 = .ok (.invokespecial 9, 3) := by decide +kernel
theorem dL_law_7 : decode cL_law 7 = .ok (.astore_n 1, 1) := by decide +kernel
theorem dL_law_8 : decode cL_law 8 = .ok (.new 10, 3) := by decide +kernel
theorem dL_law_11 : decode cL_law 11 = .ok (.dup, 1) := by decide +kernel
theorem dL_law_12 : decode cL_law 12 = .ok (.invokespecial 12, 3) := by decide +kernel
theorem dL_law_15 : decode cL_law 15 = .ok (.astore_n 2, 1) := by decide +kernel
theorem dL_law_16 : decode cL_law 16 = .ok (.iconst 0, 1) := by decide +kernel
theorem dL_law_17 : decode cL_law 17 = .ok (.istore_n 3, 1) := by decide +kernel
theorem dL_law_18 : decode cL_law 18 = .ok (.iload_n 3, 1) := by decide +kernel
theorem dL_law_19 : decode cL_law 19 = .ok (.aload_n 0, 1) := by decide +kernel
theorem dL_law_20 : decode cL_law 20 = .ok (.arraylength, 1) := by decide +kernel
theorem dL_law_21 : decode cL_law 21 = .ok (.bipush 6, 2) := by decide +kernel
theorem dL_law_23 : decode cL_law 23 = .ok (.isub, 1) := by decide +kernel
theorem dL_law_24 : decode cL_law 24 = .ok (.if_icmp .gt 1522, 3) := by decide +kernel
theorem dL_law_27 : decode cL_law 27 = .ok (.aload_n 0, 1) := by decide +kernel
theorem dL_law_28 : decode cL_law 28 = .ok (.iload_n 3, 1) := by decide +kernel
theorem dL_law_29 : decode cL_law 29 = .ok (.iaload, 1) := by decide +kernel
theorem dL_law_30 : decode cL_law 30 = .ok (.bipush 63, 2) := by decide +kernel
theorem dL_law_32 : decode cL_law 32 = .ok (.iand, 1) := by decide +kernel
theorem dL_law_33 : decode cL_law 33 = .ok (.tableswitch 1507 0 42 #[187, 210, 243, 276, 319, 352, 375, 398, 441, 474, 507, 520, 553, 576, 609, 642, 675, 708, 751, 794, 827, 880, 923, 956, 989, 1022, 1045, 1079, 1102, 1135, 1148, 1161, 1194, 1227, 1270, 1313, 1376, 1399, 1422, 1435, 1448, 1461, 1484], 187) := by decide +kernel
theorem dL_law_220 : decode cL_law 220 = .ok (.aload_n 1, 1) := by decide +kernel
theorem dL_law_221 : decode cL_law 221 = .ok (.aload_n 0, 1) := by decide +kernel
theorem dL_law_222 : decode cL_law 222 = .ok (.iload_n 3, 1) := by decide +kernel
theorem dL_law_223 : decode cL_law 223 = .ok (.iconst 1, 1) := by decide +kernel
theorem dL_law_224 : decode cL_law 224 = .ok (.iadd, 1) := by decide +kernel
theorem dL_law_225 : decode cL_law 225 = .ok (.iaload, 1) := by decide +kernel
theorem dL_law_226 : decode cL_law 226 = .ok (.invokevirtual 13, 3) := by decide +kernel
theorem dL_law_229 : decode cL_law 229 = .ok (.aload_n 2, 1) := by decide +kernel
theorem dL_law_230 : decode cL_law 230 = .ok (.aload_n 0, 1) := by decide +kernel
theorem dL_law_231 : decode cL_law 231 = .ok (.iload_n 3, 1) := by decide +kernel
theorem dL_law_232 : decode cL_law 232 = .ok (.iconst 1, 1) := by decide +kernel
theorem dL_law_233 : decode cL_law 233 = .ok (.iadd, 1) := by decide +kernel
theorem dL_law_234 : decode cL_law 234 = .ok (.iaload, 1) := by decide +kernel
theorem dL_law_235 : decode cL_law 235 = .ok (.invokevirtual 17, 3) := by decide +kernel
theorem dL_law_238 : decode cL_law 238 = .ok (.if_icmp .eq 1302, 3) := by decide +kernel
theorem dL_law_241 : decode cL_law 241 = .ok (.iconst 0, 1) := by decide +kernel
theorem dL_law_242 : decode cL_law 242 = .ok (.ireturn, 1) := by decide +kernel
theorem dL_law_243 : decode cL_law 243 = .ok (.aload_n 1, 1) := by decide +kernel
theorem dL_law_244 : decode cL_law 244 = .ok (.aload_n 0, 1) := by decide +kernel
theorem dL_law_245 : decode cL_law 245 = .ok (.iload_n 3, 1) := by decide +kernel
theorem dL_law_246 : decode cL_law 246 = .ok (.iconst 1, 1) := by decide +kernel
theorem dL_law_247 : decode cL_law 247 = .ok (.iadd, 1) := by decide +kernel
theorem dL_law_248 : decode cL_law 248 = .ok (.iaload, 1) := by decide +kernel
theorem dL_law_249 : decode cL_law 249 = .ok (.aload_n 0, 1) := by decide +kernel
theorem dL_law_250 : decode cL_law 250 = .ok (.iload_n 3, 1) := by decide +kernel
theorem dL_law_251 : decode cL_law 251 = .ok (.iconst 2, 1) := by decide +kernel
theorem dL_law_252 : decode cL_law 252 = .ok (.iadd, 1) := by decide +kernel
theorem dL_law_253 : decode cL_law 253 = .ok (.iaload, 1) := by decide +kernel
theorem dL_law_254 : decode cL_law 254 = .ok (.invokevirtual 18, 3) := by decide +kernel
theorem dL_law_257 : decode cL_law 257 = .ok (.aload_n 2, 1) := by decide +kernel
theorem dL_law_258 : decode cL_law 258 = .ok (.aload_n 0, 1) := by decide +kernel
theorem dL_law_259 : decode cL_law 259 = .ok (.iload_n 3, 1) := by decide +kernel
theorem dL_law_260 : decode cL_law 260 = .ok (.iconst 1, 1) := by decide +kernel
theorem dL_law_261 : decode cL_law 261 = .ok (.iadd, 1) := by decide +kernel
theorem dL_law_262 : decode cL_law 262 = .ok (.iaload, 1) := by decide +kernel
theorem dL_law_263 : decode cL_law 263 = .ok (.aload_n 0, 1) := by decide +kernel
theorem dL_law_264 : decode cL_law 264 = .ok (.iload_n 3, 1) := by decide +kernel
theorem dL_law_265 : decode cL_law 265 = .ok (.iconst 2, 1) := by decide +kernel
theorem dL_law_266 : decode cL_law 266 = .ok (.iadd, 1) := by decide +kernel
theorem dL_law_267 : decode cL_law 267 = .ok (.iaload, 1) := by decide +kernel
theorem dL_law_268 : decode cL_law 268 = .ok (.invokevirtual 22, 3) := by decide +kernel
theorem dL_law_271 : decode cL_law 271 = .ok (.if_icmp .eq 1269, 3) := by decide +kernel
theorem dL_law_274 : decode cL_law 274 = .ok (.iconst 0, 1) := by decide +kernel
theorem dL_law_275 : decode cL_law 275 = .ok (.ireturn, 1) := by decide +kernel
theorem dL_law_276 : decode cL_law 276 = .ok (.aload_n 1, 1) := by decide +kernel
theorem dL_law_277 : decode cL_law 277 = .ok (.aload_n 0, 1) := by decide +kernel
theorem dL_law_278 : decode cL_law 278 = .ok (.iload_n 3, 1) := by decide +kernel
theorem dL_law_279 : decode cL_law 279 = .ok (.iconst 1, 1) := by decide +kernel
theorem dL_law_280 : decode cL_law 280 = .ok (.iadd, 1) := by decide +kernel
theorem dL_law_281 : decode cL_law 281 = .ok (.iaload, 1) := by decide +kernel
theorem dL_law_282 : decode cL_law 282 = .ok (.aload_n 0, 1) := by decide +kernel
theorem dL_law_283 : decode cL_law 283 = .ok (.iload_n 3, 1) := by decide +kernel
theorem dL_law_284 : decode cL_law 284 = .ok (.iconst 2, 1) := by decide +kernel
theorem dL_law_285 : decode cL_law 285 = .ok (.iadd, 1) := by decide +kernel
theorem dL_law_286 : decode cL_law 286 = .ok (.iaload, 1) := by decide +kernel
theorem dL_law_287 : decode cL_law 287 = .ok (.invokevirtual 23, 3) := by decide +kernel
theorem dL_law_290 : decode cL_law 290 = .ok (.aload_n 2, 1) := by decide +kernel
theorem dL_law_291 : decode cL_law 291 = .ok (.aload_n 0, 1) := by decide +kernel
theorem dL_law_292 : decode cL_law 292 = .ok (.iload_n 3, 1) := by decide +kernel
theorem dL_law_293 : decode cL_law 293 = .ok (.iconst 1, 1) := by decide +kernel
theorem dL_law_294 : decode cL_law 294 = .ok (.iadd, 1) := by decide +kernel
theorem dL_law_295 : decode cL_law 295 = .ok (.iaload, 1) := by decide +kernel
theorem dL_law_296 : decode cL_law 296 = .ok (.aload_n 0, 1) := by decide +kernel
theorem dL_law_297 : decode cL_law 297 = .ok (.iload_n 3, 1) := by decide +kernel
theorem dL_law_298 : decode cL_law 298 = .ok (.iconst 2, 1) := by decide +kernel
theorem dL_law_299 : decode cL_law 299 = .ok (.iadd, 1) := by decide +kernel
theorem dL_law_300 : decode cL_law 300 = .ok (.iaload, 1) := by decide +kernel
theorem dL_law_301 : decode cL_law 301 = .ok (.invokevirtual 26, 3) := by decide +kernel
theorem dL_law_304 : decode cL_law 304 = .ok (.if_icmp .eq 1236, 3) := by decide +kernel
theorem dL_law_307 : decode cL_law 307 = .ok (.iconst 0, 1) := by decide +kernel
theorem dL_law_308 : decode cL_law 308 = .ok (.ireturn, 1) := by decide +kernel
theorem dL_law_309 : decode cL_law 309 = .ok (.aload_n 1, 1) := by decide +kernel
theorem dL_law_310 : decode cL_law 310 = .ok (.aload_n 0, 1) := by decide +kernel
theorem dL_law_311 : decode cL_law 311 = .ok (.iload_n 3, 1) := by decide +kernel
theorem dL_law_312 : decode cL_law 312 = .ok (.iconst 1, 1) := by decide +kernel
theorem dL_law_313 : decode cL_law 313 = .ok (.iadd, 1) := by decide +kernel
theorem dL_law_314 : decode cL_law 314 = .ok (.iaload, 1) := by decide +kernel
theorem dL_law_315 : decode cL_law 315 = .ok (.aload_n 0, 1) := by decide +kernel
theorem dL_law_316 : decode cL_law 316 = .ok (.iload_n 3, 1) := by decide +kernel
theorem dL_law_317 : decode cL_law 317 = .ok (.iconst 2, 1) := by decide +kernel
theorem dL_law_318 : decode cL_law 318 = .ok (.iadd, 1) := by decide +kernel
theorem dL_law_319 : decode cL_law 319 = .ok (.iaload, 1) := by decide +kernel
theorem dL_law_320 : decode cL_law 320 = .ok (.aload_n 0, 1) := by decide +kernel
theorem dL_law_321 : decode cL_law 321 = .ok (.iload_n 3, 1) := by decide +kernel
theorem dL_law_322 : decode cL_law 322 = .ok (.iconst 3, 1) := by decide +kernel
theorem dL_law_323 : decode cL_law 323 = .ok (.iadd, 1) := by decide +kernel
theorem dL_law_324 : decode cL_law 324 = .ok (.iaload, 1) := by decide +kernel
theorem dL_law_325 : decode cL_law 325 = .ok (.invokevirtual 27, 3) := by decide +kernel
theorem dL_law_328 : decode cL_law 328 = .ok (.aload_n 2, 1) := by decide +kernel
theorem dL_law_329 : decode cL_law 329 = .ok (.aload_n 0, 1) := by decide +kernel
theorem dL_law_330 : decode cL_law 330 = .ok (.iload_n 3, 1) := by decide +kernel
theorem dL_law_331 : decode cL_law 331 = .ok (.iconst 1, 1) := by decide +kernel
theorem dL_law_332 : decode cL_law 332 = .ok (.iadd, 1) := by decide +kernel
theorem dL_law_333 : decode cL_law 333 = .ok (.iaload, 1) := by decide +kernel
theorem dL_law_334 : decode cL_law 334 = .ok (.aload_n 0, 1) := by decide +kernel
theorem dL_law_335 : decode cL_law 335 = .ok (.iload_n 3, 1) := by decide +kernel
theorem dL_law_336 : decode cL_law 336 = .ok (.iconst 2, 1) := by decide +kernel
theorem dL_law_337 : decode cL_law 337 = .ok (.iadd, 1) := by decide +kernel
theorem dL_law_338 : decode cL_law 338 = .ok (.iaload, 1) := by decide +kernel
theorem dL_law_339 : decode cL_law 339 = .ok (.aload_n 0, 1) := by decide +kernel
theorem dL_law_340 : decode cL_law 340 = .ok (.iload_n 3, 1) := by decide +kernel
theorem dL_law_341 : decode cL_law 341 = .ok (.iconst 3, 1) := by decide +kernel
theorem dL_law_342 : decode cL_law 342 = .ok (.iadd, 1) := by decide +kernel
theorem dL_law_343 : decode cL_law 343 = .ok (.iaload, 1) := by decide +kernel
theorem dL_law_344 : decode cL_law 344 = .ok (.invokevirtual 31, 3) := by decide +kernel
theorem dL_law_347 : decode cL_law 347 = .ok (.if_icmp .eq 1193, 3) := by decide +kernel
theorem dL_law_350 : decode cL_law 350 = .ok (.iconst 0, 1) := by decide +kernel
theorem dL_law_351 : decode cL_law 351 = .ok (.ireturn, 1) := by decide +kernel
theorem dL_law_352 : decode cL_law 352 = .ok (.aload_n 1, 1) := by decide +kernel
theorem dL_law_353 : decode cL_law 353 = .ok (.aload_n 0, 1) := by decide +kernel
theorem dL_law_354 : decode cL_law 354 = .ok (.iload_n 3, 1) := by decide +kernel
theorem dL_law_355 : decode cL_law 355 = .ok (.iconst 1, 1) := by decide +kernel
theorem dL_law_356 : decode cL_law 356 = .ok (.iadd, 1) := by decide +kernel
theorem dL_law_357 : decode cL_law 357 = .ok (.iaload, 1) := by decide +kernel
theorem dL_law_358 : decode cL_law 358 = .ok (.aload_n 0, 1) := by decide +kernel
theorem dL_law_359 : decode cL_law 359 = .ok (.iload_n 3, 1) := by decide +kernel
theorem dL_law_360 : decode cL_law 360 = .ok (.iconst 2, 1) := by decide +kernel
theorem dL_law_361 : decode cL_law 361 = .ok (.iadd, 1) := by decide +kernel
theorem dL_law_362 : decode cL_law 362 = .ok (.iaload, 1) := by decide +kernel
theorem dL_law_363 : decode cL_law 363 = .ok (.invokevirtual 32, 3) := by decide +kernel
theorem dL_law_366 : decode cL_law 366 = .ok (.aload_n 2, 1) := by decide +kernel
theorem dL_law_367 : decode cL_law 367 = .ok (.aload_n 0, 1) := by decide +kernel
theorem dL_law_368 : decode cL_law 368 = .ok (.iload_n 3, 1) := by decide +kernel
theorem dL_law_369 : decode cL_law 369 = .ok (.iconst 1, 1) := by decide +kernel
theorem dL_law_370 : decode cL_law 370 = .ok (.iadd, 1) := by decide +kernel
theorem dL_law_371 : decode cL_law 371 = .ok (.iaload, 1) := by decide +kernel
theorem dL_law_372 : decode cL_law 372 = .ok (.aload_n 0, 1) := by decide +kernel
theorem dL_law_373 : decode cL_law 373 = .ok (.iload_n 3, 1) := by decide +kernel
theorem dL_law_374 : decode cL_law 374 = .ok (.iconst 2, 1) := by decide +kernel
theorem dL_law_375 : decode cL_law 375 = .ok (.iadd, 1) := by decide +kernel
theorem dL_law_376 : decode cL_law 376 = .ok (.iaload, 1) := by decide +kernel
theorem dL_law_377 : decode cL_law 377 = .ok (.invokevirtual 35, 3) := by decide +kernel
theorem dL_law_380 : decode cL_law 380 = .ok (.if_icmp .eq 1160, 3) := by decide +kernel
theorem dL_law_383 : decode cL_law 383 = .ok (.iconst 0, 1) := by decide +kernel
theorem dL_law_384 : decode cL_law 384 = .ok (.ireturn, 1) := by decide +kernel
theorem dL_law_385 : decode cL_law 385 = .ok (.aload_n 1, 1) := by decide +kernel
theorem dL_law_386 : decode cL_law 386 = .ok (.aload_n 0, 1) := by decide +kernel
theorem dL_law_387 : decode cL_law 387 = .ok (.iload_n 3, 1) := by decide +kernel
theorem dL_law_388 : decode cL_law 388 = .ok (.iconst 1, 1) := by decide +kernel
theorem dL_law_389 : decode cL_law 389 = .ok (.iadd, 1) := by decide +kernel
theorem dL_law_390 : decode cL_law 390 = .ok (.iaload, 1) := by decide +kernel
theorem dL_law_391 : decode cL_law 391 = .ok (.invokevirtual 36, 3) := by decide +kernel
theorem dL_law_394 : decode cL_law 394 = .ok (.aload_n 2, 1) := by decide +kernel
theorem dL_law_395 : decode cL_law 395 = .ok (.aload_n 0, 1) := by decide +kernel
theorem dL_law_396 : decode cL_law 396 = .ok (.iload_n 3, 1) := by decide +kernel
theorem dL_law_397 : decode cL_law 397 = .ok (.iconst 1, 1) := by decide +kernel
theorem dL_law_398 : decode cL_law 398 = .ok (.iadd, 1) := by decide +kernel
theorem dL_law_399 : decode cL_law 399 = .ok (.iaload, 1) := by decide +kernel
theorem dL_law_400 : decode cL_law 400 = .ok (.invokevirtual 39, 3) := by decide +kernel
theorem dL_law_403 : decode cL_law 403 = .ok (.if_icmp .eq 1137, 3) := by decide +kernel
theorem dL_law_406 : decode cL_law 406 = .ok (.iconst 0, 1) := by decide +kernel
theorem dL_law_407 : decode cL_law 407 = .ok (.ireturn, 1) := by decide +kernel
theorem dL_law_408 : decode cL_law 408 = .ok (.aload_n 1, 1) := by decide +kernel
theorem dL_law_409 : decode cL_law 409 = .ok (.aload_n 0, 1) := by decide +kernel
theorem dL_law_410 : decode cL_law 410 = .ok (.iload_n 3, 1) := by decide +kernel
theorem dL_law_411 : decode cL_law 411 = .ok (.iconst 1, 1) := by decide +kernel
theorem dL_law_412 : decode cL_law 412 = .ok (.iadd, 1) := by decide +kernel
theorem dL_law_413 : decode cL_law 413 = .ok (.iaload, 1) := by decide +kernel
theorem dL_law_414 : decode cL_law 414 = .ok (.invokevirtual 40, 3) := by decide +kernel
theorem dL_law_417 : decode cL_law 417 = .ok (.aload_n 2, 1) := by decide +kernel
theorem dL_law_418 : decode cL_law 418 = .ok (.aload_n 0, 1) := by decide +kernel
theorem dL_law_419 : decode cL_law 419 = .ok (.iload_n 3, 1) := by decide +kernel
theorem dL_law_420 : decode cL_law 420 = .ok (.iconst 1, 1) := by decide +kernel
theorem dL_law_421 : decode cL_law 421 = .ok (.iadd, 1) := by decide +kernel
theorem dL_law_422 : decode cL_law 422 = .ok (.iaload, 1) := by decide +kernel
theorem dL_law_423 : decode cL_law 423 = .ok (.invokevirtual 43, 3) := by decide +kernel
theorem dL_law_426 : decode cL_law 426 = .ok (.if_icmp .eq 1114, 3) := by decide +kernel
theorem dL_law_429 : decode cL_law 429 = .ok (.iconst 0, 1) := by decide +kernel
theorem dL_law_430 : decode cL_law 430 = .ok (.ireturn, 1) := by decide +kernel
theorem dL_law_431 : decode cL_law 431 = .ok (.aload_n 1, 1) := by decide +kernel
theorem dL_law_432 : decode cL_law 432 = .ok (.aload_n 0, 1) := by decide +kernel
theorem dL_law_433 : decode cL_law 433 = .ok (.iload_n 3, 1) := by decide +kernel
theorem dL_law_434 : decode cL_law 434 = .ok (.iconst 1, 1) := by decide +kernel
theorem dL_law_435 : decode cL_law 435 = .ok (.iadd, 1) := by decide +kernel
theorem dL_law_436 : decode cL_law 436 = .ok (.iaload, 1) := by decide +kernel
theorem dL_law_437 : decode cL_law 437 = .ok (.aload_n 0, 1) := by decide +kernel
theorem dL_law_438 : decode cL_law 438 = .ok (.iload_n 3, 1) := by decide +kernel
theorem dL_law_439 : decode cL_law 439 = .ok (.iconst 2, 1) := by decide +kernel
theorem dL_law_440 : decode cL_law 440 = .ok (.iadd, 1) := by decide +kernel
theorem dL_law_441 : decode cL_law 441 = .ok (.iaload, 1) := by decide +kernel
theorem dL_law_442 : decode cL_law 442 = .ok (.aload_n 0, 1) := by decide +kernel
theorem dL_law_443 : decode cL_law 443 = .ok (.iload_n 3, 1) := by decide +kernel
theorem dL_law_444 : decode cL_law 444 = .ok (.iconst 3, 1) := by decide +kernel
theorem dL_law_445 : decode cL_law 445 = .ok (.iadd, 1) := by decide +kernel
theorem dL_law_446 : decode cL_law 446 = .ok (.iaload, 1) := by decide +kernel
theorem dL_law_447 : decode cL_law 447 = .ok (.invokevirtual 44, 3) := by decide +kernel
theorem dL_law_450 : decode cL_law 450 = .ok (.aload_n 2, 1) := by decide +kernel
theorem dL_law_451 : decode cL_law 451 = .ok (.aload_n 0, 1) := by decide +kernel
theorem dL_law_452 : decode cL_law 452 = .ok (.iload_n 3, 1) := by decide +kernel
theorem dL_law_453 : decode cL_law 453 = .ok (.iconst 1, 1) := by decide +kernel
theorem dL_law_454 : decode cL_law 454 = .ok (.iadd, 1) := by decide +kernel
theorem dL_law_455 : decode cL_law 455 = .ok (.iaload, 1) := by decide +kernel
theorem dL_law_456 : decode cL_law 456 = .ok (.aload_n 0, 1) := by decide +kernel
theorem dL_law_457 : decode cL_law 457 = .ok (.iload_n 3, 1) := by decide +kernel
theorem dL_law_458 : decode cL_law 458 = .ok (.iconst 2, 1) := by decide +kernel
theorem dL_law_459 : decode cL_law 459 = .ok (.iadd, 1) := by decide +kernel
theorem dL_law_460 : decode cL_law 460 = .ok (.iaload, 1) := by decide +kernel
theorem dL_law_461 : decode cL_law 461 = .ok (.aload_n 0, 1) := by decide +kernel
theorem dL_law_462 : decode cL_law 462 = .ok (.iload_n 3, 1) := by decide +kernel
theorem dL_law_463 : decode cL_law 463 = .ok (.iconst 3, 1) := by decide +kernel
theorem dL_law_464 : decode cL_law 464 = .ok (.iadd, 1) := by decide +kernel
theorem dL_law_465 : decode cL_law 465 = .ok (.iaload, 1) := by decide +kernel
theorem dL_law_466 : decode cL_law 466 = .ok (.invokevirtual 47, 3) := by decide +kernel
theorem dL_law_469 : decode cL_law 469 = .ok (.if_icmp .eq 1071, 3) := by decide +kernel
theorem dL_law_472 : decode cL_law 472 = .ok (.iconst 0, 1) := by decide +kernel
theorem dL_law_473 : decode cL_law 473 = .ok (.ireturn, 1) := by decide +kernel
theorem dL_law_474 : decode cL_law 474 = .ok (.aload_n 1, 1) := by decide +kernel
theorem dL_law_475 : decode cL_law 475 = .ok (.aload_n 0, 1) := by decide +kernel
theorem dL_law_476 : decode cL_law 476 = .ok (.iload_n 3, 1) := by decide +kernel
theorem dL_law_477 : decode cL_law 477 = .ok (.iconst 1, 1) := by decide +kernel
theorem dL_law_478 : decode cL_law 478 = .ok (.iadd, 1) := by decide +kernel
theorem dL_law_479 : decode cL_law 479 = .ok (.iaload, 1) := by decide +kernel
theorem dL_law_480 : decode cL_law 480 = .ok (.aload_n 0, 1) := by decide +kernel
theorem dL_law_481 : decode cL_law 481 = .ok (.iload_n 3, 1) := by decide +kernel
theorem dL_law_482 : decode cL_law 482 = .ok (.iconst 2, 1) := by decide +kernel
theorem dL_law_483 : decode cL_law 483 = .ok (.iadd, 1) := by decide +kernel
theorem dL_law_484 : decode cL_law 484 = .ok (.iaload, 1) := by decide +kernel
theorem dL_law_485 : decode cL_law 485 = .ok (.invokevirtual 48, 3) := by decide +kernel
theorem dL_law_488 : decode cL_law 488 = .ok (.aload_n 2, 1) := by decide +kernel
theorem dL_law_489 : decode cL_law 489 = .ok (.aload_n 0, 1) := by decide +kernel
theorem dL_law_490 : decode cL_law 490 = .ok (.iload_n 3, 1) := by decide +kernel
theorem dL_law_491 : decode cL_law 491 = .ok (.iconst 1, 1) := by decide +kernel
theorem dL_law_492 : decode cL_law 492 = .ok (.iadd, 1) := by decide +kernel
theorem dL_law_493 : decode cL_law 493 = .ok (.iaload, 1) := by decide +kernel
theorem dL_law_494 : decode cL_law 494 = .ok (.aload_n 0, 1) := by decide +kernel
theorem dL_law_495 : decode cL_law 495 = .ok (.iload_n 3, 1) := by decide +kernel
theorem dL_law_496 : decode cL_law 496 = .ok (.iconst 2, 1) := by decide +kernel
theorem dL_law_497 : decode cL_law 497 = .ok (.iadd, 1) := by decide +kernel
theorem dL_law_498 : decode cL_law 498 = .ok (.iaload, 1) := by decide +kernel
theorem dL_law_499 : decode cL_law 499 = .ok (.invokevirtual 51, 3) := by decide +kernel
theorem dL_law_502 : decode cL_law 502 = .ok (.if_icmp .eq 1038, 3) := by decide +kernel
theorem dL_law_505 : decode cL_law 505 = .ok (.iconst 0, 1) := by decide +kernel
theorem dL_law_506 : decode cL_law 506 = .ok (.ireturn, 1) := by decide +kernel
theorem dL_law_507 : decode cL_law 507 = .ok (.aload_n 1, 1) := by decide +kernel
theorem dL_law_508 : decode cL_law 508 = .ok (.aload_n 0, 1) := by decide +kernel
theorem dL_law_509 : decode cL_law 509 = .ok (.iload_n 3, 1) := by decide +kernel
theorem dL_law_510 : decode cL_law 510 = .ok (.iconst 1, 1) := by decide +kernel
theorem dL_law_511 : decode cL_law 511 = .ok (.iadd, 1) := by decide +kernel
theorem dL_law_512 : decode cL_law 512 = .ok (.iaload, 1) := by decide +kernel
theorem dL_law_513 : decode cL_law 513 = .ok (.aload_n 0, 1) := by decide +kernel
theorem dL_law_514 : decode cL_law 514 = .ok (.iload_n 3, 1) := by decide +kernel
theorem dL_law_515 : decode cL_law 515 = .ok (.iconst 2, 1) := by decide +kernel
theorem dL_law_516 : decode cL_law 516 = .ok (.iadd, 1) := by decide +kernel
theorem dL_law_517 : decode cL_law 517 = .ok (.iaload, 1) := by decide +kernel
theorem dL_law_518 : decode cL_law 518 = .ok (.invokevirtual 52, 3) := by decide +kernel
theorem dL_law_521 : decode cL_law 521 = .ok (.aload_n 2, 1) := by decide +kernel
theorem dL_law_522 : decode cL_law 522 = .ok (.aload_n 0, 1) := by decide +kernel
theorem dL_law_523 : decode cL_law 523 = .ok (.iload_n 3, 1) := by decide +kernel
theorem dL_law_524 : decode cL_law 524 = .ok (.iconst 1, 1) := by decide +kernel
theorem dL_law_525 : decode cL_law 525 = .ok (.iadd, 1) := by decide +kernel
theorem dL_law_526 : decode cL_law 526 = .ok (.iaload, 1) := by decide +kernel
theorem dL_law_527 : decode cL_law 527 = .ok (.aload_n 0, 1) := by decide +kernel
theorem dL_law_528 : decode cL_law 528 = .ok (.iload_n 3, 1) := by decide +kernel
theorem dL_law_529 : decode cL_law 529 = .ok (.iconst 2, 1) := by decide +kernel
theorem dL_law_530 : decode cL_law 530 = .ok (.iadd, 1) := by decide +kernel
theorem dL_law_531 : decode cL_law 531 = .ok (.iaload, 1) := by decide +kernel
theorem dL_law_532 : decode cL_law 532 = .ok (.invokevirtual 55, 3) := by decide +kernel
theorem dL_law_535 : decode cL_law 535 = .ok (.if_icmp .eq 1005, 3) := by decide +kernel
theorem dL_law_538 : decode cL_law 538 = .ok (.iconst 0, 1) := by decide +kernel
theorem dL_law_539 : decode cL_law 539 = .ok (.ireturn, 1) := by decide +kernel
theorem dL_law_540 : decode cL_law 540 = .ok (.aload_n 1, 1) := by decide +kernel
theorem dL_law_541 : decode cL_law 541 = .ok (.invokevirtual 56, 3) := by decide +kernel
theorem dL_law_544 : decode cL_law 544 = .ok (.aload_n 2, 1) := by decide +kernel
theorem dL_law_545 : decode cL_law 545 = .ok (.invokevirtual 60, 3) := by decide +kernel
theorem dL_law_548 : decode cL_law 548 = .ok (.if_icmp .eq 992, 3) := by decide +kernel
theorem dL_law_551 : decode cL_law 551 = .ok (.iconst 0, 1) := by decide +kernel
theorem dL_law_552 : decode cL_law 552 = .ok (.ireturn, 1) := by decide +kernel
theorem dL_law_553 : decode cL_law 553 = .ok (.aload_n 1, 1) := by decide +kernel
theorem dL_law_554 : decode cL_law 554 = .ok (.aload_n 0, 1) := by decide +kernel
theorem dL_law_555 : decode cL_law 555 = .ok (.iload_n 3, 1) := by decide +kernel
theorem dL_law_556 : decode cL_law 556 = .ok (.iconst 1, 1) := by decide +kernel
theorem dL_law_557 : decode cL_law 557 = .ok (.iadd, 1) := by decide +kernel
theorem dL_law_558 : decode cL_law 558 = .ok (.iaload, 1) := by decide +kernel
theorem dL_law_559 : decode cL_law 559 = .ok (.aload_n 0, 1) := by decide +kernel
theorem dL_law_560 : decode cL_law 560 = .ok (.iload_n 3, 1) := by decide +kernel
theorem dL_law_561 : decode cL_law 561 = .ok (.iconst 2, 1) := by decide +kernel
theorem dL_law_562 : decode cL_law 562 = .ok (.iadd, 1) := by decide +kernel
theorem dL_law_563 : decode cL_law 563 = .ok (.iaload, 1) := by decide +kernel
theorem dL_law_564 : decode cL_law 564 = .ok (.invokevirtual 61, 3) := by decide +kernel
theorem dL_law_567 : decode cL_law 567 = .ok (.aload_n 2, 1) := by decide +kernel
theorem dL_law_568 : decode cL_law 568 = .ok (.aload_n 0, 1) := by decide +kernel
theorem dL_law_569 : decode cL_law 569 = .ok (.iload_n 3, 1) := by decide +kernel
theorem dL_law_570 : decode cL_law 570 = .ok (.iconst 1, 1) := by decide +kernel
theorem dL_law_571 : decode cL_law 571 = .ok (.iadd, 1) := by decide +kernel
theorem dL_law_572 : decode cL_law 572 = .ok (.iaload, 1) := by decide +kernel
theorem dL_law_573 : decode cL_law 573 = .ok (.aload_n 0, 1) := by decide +kernel
theorem dL_law_574 : decode cL_law 574 = .ok (.iload_n 3, 1) := by decide +kernel
theorem dL_law_575 : decode cL_law 575 = .ok (.iconst 2, 1) := by decide +kernel
theorem dL_law_576 : decode cL_law 576 = .ok (.iadd, 1) := by decide +kernel
theorem dL_law_577 : decode cL_law 577 = .ok (.iaload, 1) := by decide +kernel
theorem dL_law_578 : decode cL_law 578 = .ok (.invokevirtual 64, 3) := by decide +kernel
theorem dL_law_581 : decode cL_law 581 = .ok (.if_icmp .eq 959, 3) := by decide +kernel
theorem dL_law_584 : decode cL_law 584 = .ok (.iconst 0, 1) := by decide +kernel
theorem dL_law_585 : decode cL_law 585 = .ok (.ireturn, 1) := by decide +kernel
theorem dL_law_586 : decode cL_law 586 = .ok (.aload_n 1, 1) := by decide +kernel
theorem dL_law_587 : decode cL_law 587 = .ok (.aload_n 0, 1) := by decide +kernel
theorem dL_law_588 : decode cL_law 588 = .ok (.iload_n 3, 1) := by decide +kernel
theorem dL_law_589 : decode cL_law 589 = .ok (.iconst 1, 1) := by decide +kernel
theorem dL_law_590 : decode cL_law 590 = .ok (.iadd, 1) := by decide +kernel
theorem dL_law_591 : decode cL_law 591 = .ok (.iaload, 1) := by decide +kernel
theorem dL_law_592 : decode cL_law 592 = .ok (.invokevirtual 65, 3) := by decide +kernel
theorem dL_law_595 : decode cL_law 595 = .ok (.aload_n 2, 1) := by decide +kernel
theorem dL_law_596 : decode cL_law 596 = .ok (.aload_n 0, 1) := by decide +kernel
theorem dL_law_597 : decode cL_law 597 = .ok (.iload_n 3, 1) := by decide +kernel
theorem dL_law_598 : decode cL_law 598 = .ok (.iconst 1, 1) := by decide +kernel
theorem dL_law_599 : decode cL_law 599 = .ok (.iadd, 1) := by decide +kernel
theorem dL_law_600 : decode cL_law 600 = .ok (.iaload, 1) := by decide +kernel
theorem dL_law_601 : decode cL_law 601 = .ok (.invokevirtual 68, 3) := by decide +kernel
theorem dL_law_604 : decode cL_law 604 = .ok (.if_icmp .eq 936, 3) := by decide +kernel
theorem dL_law_607 : decode cL_law 607 = .ok (.iconst 0, 1) := by decide +kernel
theorem dL_law_608 : decode cL_law 608 = .ok (.ireturn, 1) := by decide +kernel
theorem dL_law_609 : decode cL_law 609 = .ok (.aload_n 1, 1) := by decide +kernel
theorem dL_law_610 : decode cL_law 610 = .ok (.aload_n 0, 1) := by decide +kernel
theorem dL_law_611 : decode cL_law 611 = .ok (.iload_n 3, 1) := by decide +kernel
theorem dL_law_612 : decode cL_law 612 = .ok (.iconst 1, 1) := by decide +kernel
theorem dL_law_613 : decode cL_law 613 = .ok (.iadd, 1) := by decide +kernel
theorem dL_law_614 : decode cL_law 614 = .ok (.iaload, 1) := by decide +kernel
theorem dL_law_615 : decode cL_law 615 = .ok (.aload_n 0, 1) := by decide +kernel
theorem dL_law_616 : decode cL_law 616 = .ok (.iload_n 3, 1) := by decide +kernel
theorem dL_law_617 : decode cL_law 617 = .ok (.iconst 2, 1) := by decide +kernel
theorem dL_law_618 : decode cL_law 618 = .ok (.iadd, 1) := by decide +kernel
theorem dL_law_619 : decode cL_law 619 = .ok (.iaload, 1) := by decide +kernel
theorem dL_law_620 : decode cL_law 620 = .ok (.invokevirtual 69, 3) := by decide +kernel
theorem dL_law_623 : decode cL_law 623 = .ok (.aload_n 2, 1) := by decide +kernel
theorem dL_law_624 : decode cL_law 624 = .ok (.aload_n 0, 1) := by decide +kernel
theorem dL_law_625 : decode cL_law 625 = .ok (.iload_n 3, 1) := by decide +kernel
theorem dL_law_626 : decode cL_law 626 = .ok (.iconst 1, 1) := by decide +kernel
theorem dL_law_627 : decode cL_law 627 = .ok (.iadd, 1) := by decide +kernel
theorem dL_law_628 : decode cL_law 628 = .ok (.iaload, 1) := by decide +kernel
theorem dL_law_629 : decode cL_law 629 = .ok (.aload_n 0, 1) := by decide +kernel
theorem dL_law_630 : decode cL_law 630 = .ok (.iload_n 3, 1) := by decide +kernel
theorem dL_law_631 : decode cL_law 631 = .ok (.iconst 2, 1) := by decide +kernel
theorem dL_law_632 : decode cL_law 632 = .ok (.iadd, 1) := by decide +kernel
theorem dL_law_633 : decode cL_law 633 = .ok (.iaload, 1) := by decide +kernel
theorem dL_law_634 : decode cL_law 634 = .ok (.invokevirtual 72, 3) := by decide +kernel
theorem dL_law_637 : decode cL_law 637 = .ok (.if_icmp .eq 903, 3) := by decide +kernel
theorem dL_law_640 : decode cL_law 640 = .ok (.iconst 0, 1) := by decide +kernel
theorem dL_law_641 : decode cL_law 641 = .ok (.ireturn, 1) := by decide +kernel
theorem dL_law_642 : decode cL_law 642 = .ok (.aload_n 1, 1) := by decide +kernel
theorem dL_law_643 : decode cL_law 643 = .ok (.aload_n 0, 1) := by decide +kernel
theorem dL_law_644 : decode cL_law 644 = .ok (.iload_n 3, 1) := by decide +kernel
theorem dL_law_645 : decode cL_law 645 = .ok (.iconst 1, 1) := by decide +kernel
theorem dL_law_646 : decode cL_law 646 = .ok (.iadd, 1) := by decide +kernel
theorem dL_law_647 : decode cL_law 647 = .ok (.iaload, 1) := by decide +kernel
theorem dL_law_648 : decode cL_law 648 = .ok (.aload_n 0, 1) := by decide +kernel
theorem dL_law_649 : decode cL_law 649 = .ok (.iload_n 3, 1) := by decide +kernel
theorem dL_law_650 : decode cL_law 650 = .ok (.iconst 2, 1) := by decide +kernel
theorem dL_law_651 : decode cL_law 651 = .ok (.iadd, 1) := by decide +kernel
theorem dL_law_652 : decode cL_law 652 = .ok (.iaload, 1) := by decide +kernel
theorem dL_law_653 : decode cL_law 653 = .ok (.invokevirtual 73, 3) := by decide +kernel
theorem dL_law_656 : decode cL_law 656 = .ok (.aload_n 2, 1) := by decide +kernel
theorem dL_law_657 : decode cL_law 657 = .ok (.aload_n 0, 1) := by decide +kernel
theorem dL_law_658 : decode cL_law 658 = .ok (.iload_n 3, 1) := by decide +kernel
theorem dL_law_659 : decode cL_law 659 = .ok (.iconst 1, 1) := by decide +kernel
theorem dL_law_660 : decode cL_law 660 = .ok (.iadd, 1) := by decide +kernel
theorem dL_law_661 : decode cL_law 661 = .ok (.iaload, 1) := by decide +kernel
theorem dL_law_662 : decode cL_law 662 = .ok (.aload_n 0, 1) := by decide +kernel
theorem dL_law_663 : decode cL_law 663 = .ok (.iload_n 3, 1) := by decide +kernel
theorem dL_law_664 : decode cL_law 664 = .ok (.iconst 2, 1) := by decide +kernel
theorem dL_law_665 : decode cL_law 665 = .ok (.iadd, 1) := by decide +kernel
theorem dL_law_666 : decode cL_law 666 = .ok (.iaload, 1) := by decide +kernel
theorem dL_law_667 : decode cL_law 667 = .ok (.invokevirtual 76, 3) := by decide +kernel
theorem dL_law_670 : decode cL_law 670 = .ok (.if_icmp .eq 870, 3) := by decide +kernel
theorem dL_law_673 : decode cL_law 673 = .ok (.iconst 0, 1) := by decide +kernel
theorem dL_law_674 : decode cL_law 674 = .ok (.ireturn, 1) := by decide +kernel
theorem dL_law_675 : decode cL_law 675 = .ok (.aload_n 1, 1) := by decide +kernel
theorem dL_law_676 : decode cL_law 676 = .ok (.aload_n 0, 1) := by decide +kernel
theorem dL_law_677 : decode cL_law 677 = .ok (.iload_n 3, 1) := by decide +kernel
theorem dL_law_678 : decode cL_law 678 = .ok (.iconst 1, 1) := by decide +kernel
theorem dL_law_679 : decode cL_law 679 = .ok (.iadd, 1) := by decide +kernel
theorem dL_law_680 : decode cL_law 680 = .ok (.iaload, 1) := by decide +kernel
theorem dL_law_681 : decode cL_law 681 = .ok (.aload_n 0, 1) := by decide +kernel
theorem dL_law_682 : decode cL_law 682 = .ok (.iload_n 3, 1) := by decide +kernel
theorem dL_law_683 : decode cL_law 683 = .ok (.iconst 2, 1) := by decide +kernel
theorem dL_law_684 : decode cL_law 684 = .ok (.iadd, 1) := by decide +kernel
theorem dL_law_685 : decode cL_law 685 = .ok (.iaload, 1) := by decide +kernel
theorem dL_law_686 : decode cL_law 686 = .ok (.invokevirtual 77, 3) := by decide +kernel
theorem dL_law_689 : decode cL_law 689 = .ok (.aload_n 2, 1) := by decide +kernel
theorem dL_law_690 : decode cL_law 690 = .ok (.aload_n 0, 1) := by decide +kernel
theorem dL_law_691 : decode cL_law 691 = .ok (.iload_n 3, 1) := by decide +kernel
theorem dL_law_692 : decode cL_law 692 = .ok (.iconst 1, 1) := by decide +kernel
theorem dL_law_693 : decode cL_law 693 = .ok (.iadd, 1) := by decide +kernel
theorem dL_law_694 : decode cL_law 694 = .ok (.iaload, 1) := by decide +kernel
theorem dL_law_695 : decode cL_law 695 = .ok (.aload_n 0, 1) := by decide +kernel
theorem dL_law_696 : decode cL_law 696 = .ok (.iload_n 3, 1) := by decide +kernel
theorem dL_law_697 : decode cL_law 697 = .ok (.iconst 2, 1) := by decide +kernel
theorem dL_law_698 : decode cL_law 698 = .ok (.iadd, 1) := by decide +kernel
theorem dL_law_699 : decode cL_law 699 = .ok (.iaload, 1) := by decide +kernel
theorem dL_law_700 : decode cL_law 700 = .ok (.invokevirtual 80, 3) := by decide +kernel
theorem dL_law_703 : decode cL_law 703 = .ok (.if_icmp .eq 837, 3) := by decide +kernel
theorem dL_law_706 : decode cL_law 706 = .ok (.iconst 0, 1) := by decide +kernel
theorem dL_law_707 : decode cL_law 707 = .ok (.ireturn, 1) := by decide +kernel
theorem dL_law_708 : decode cL_law 708 = .ok (.aload_n 1, 1) := by decide +kernel
theorem dL_law_709 : decode cL_law 709 = .ok (.aload_n 0, 1) := by decide +kernel
theorem dL_law_710 : decode cL_law 710 = .ok (.iload_n 3, 1) := by decide +kernel
theorem dL_law_711 : decode cL_law 711 = .ok (.iconst 1, 1) := by decide +kernel
theorem dL_law_712 : decode cL_law 712 = .ok (.iadd, 1) := by decide +kernel
theorem dL_law_713 : decode cL_law 713 = .ok (.iaload, 1) := by decide +kernel
theorem dL_law_714 : decode cL_law 714 = .ok (.aload_n 0, 1) := by decide +kernel
theorem dL_law_715 : decode cL_law 715 = .ok (.iload_n 3, 1) := by decide +kernel
theorem dL_law_716 : decode cL_law 716 = .ok (.iconst 2, 1) := by decide +kernel
theorem dL_law_717 : decode cL_law 717 = .ok (.iadd, 1) := by decide +kernel
theorem dL_law_718 : decode cL_law 718 = .ok (.iaload, 1) := by decide +kernel
theorem dL_law_719 : decode cL_law 719 = .ok (.invokevirtual 81, 3) := by decide +kernel
theorem dL_law_722 : decode cL_law 722 = .ok (.aload_n 2, 1) := by decide +kernel
theorem dL_law_723 : decode cL_law 723 = .ok (.aload_n 0, 1) := by decide +kernel
theorem dL_law_724 : decode cL_law 724 = .ok (.iload_n 3, 1) := by decide +kernel
theorem dL_law_725 : decode cL_law 725 = .ok (.iconst 1, 1) := by decide +kernel
theorem dL_law_726 : decode cL_law 726 = .ok (.iadd, 1) := by decide +kernel
theorem dL_law_727 : decode cL_law 727 = .ok (.iaload, 1) := by decide +kernel
theorem dL_law_728 : decode cL_law 728 = .ok (.aload_n 0, 1) := by decide +kernel
theorem dL_law_729 : decode cL_law 729 = .ok (.iload_n 3, 1) := by decide +kernel
theorem dL_law_730 : decode cL_law 730 = .ok (.iconst 2, 1) := by decide +kernel
theorem dL_law_731 : decode cL_law 731 = .ok (.iadd, 1) := by decide +kernel
theorem dL_law_732 : decode cL_law 732 = .ok (.iaload, 1) := by decide +kernel
theorem dL_law_733 : decode cL_law 733 = .ok (.invokevirtual 84, 3) := by decide +kernel
theorem dL_law_736 : decode cL_law 736 = .ok (.if_icmp .eq 804, 3) := by decide +kernel
theorem dL_law_739 : decode cL_law 739 = .ok (.iconst 0, 1) := by decide +kernel
theorem dL_law_740 : decode cL_law 740 = .ok (.ireturn, 1) := by decide +kernel
theorem dL_law_741 : decode cL_law 741 = .ok (.aload_n 1, 1) := by decide +kernel
theorem dL_law_742 : decode cL_law 742 = .ok (.aload_n 0, 1) := by decide +kernel
theorem dL_law_743 : decode cL_law 743 = .ok (.iload_n 3, 1) := by decide +kernel
theorem dL_law_744 : decode cL_law 744 = .ok (.iconst 1, 1) := by decide +kernel
theorem dL_law_745 : decode cL_law 745 = .ok (.iadd, 1) := by decide +kernel
theorem dL_law_746 : decode cL_law 746 = .ok (.iaload, 1) := by decide +kernel
theorem dL_law_747 : decode cL_law 747 = .ok (.aload_n 0, 1) := by decide +kernel
theorem dL_law_748 : decode cL_law 748 = .ok (.iload_n 3, 1) := by decide +kernel
theorem dL_law_749 : decode cL_law 749 = .ok (.iconst 2, 1) := by decide +kernel
theorem dL_law_750 : decode cL_law 750 = .ok (.iadd, 1) := by decide +kernel
theorem dL_law_751 : decode cL_law 751 = .ok (.iaload, 1) := by decide +kernel
theorem dL_law_752 : decode cL_law 752 = .ok (.aload_n 0, 1) := by decide +kernel
theorem dL_law_753 : decode cL_law 753 = .ok (.iload_n 3, 1) := by decide +kernel
theorem dL_law_754 : decode cL_law 754 = .ok (.iconst 3, 1) := by decide +kernel
theorem dL_law_755 : decode cL_law 755 = .ok (.iadd, 1) := by decide +kernel
theorem dL_law_756 : decode cL_law 756 = .ok (.iaload, 1) := by decide +kernel
theorem dL_law_757 : decode cL_law 757 = .ok (.invokevirtual 85, 3) := by decide +kernel
theorem dL_law_760 : decode cL_law 760 = .ok (.aload_n 2, 1) := by decide +kernel
theorem dL_law_761 : decode cL_law 761 = .ok (.aload_n 0, 1) := by decide +kernel
theorem dL_law_762 : decode cL_law 762 = .ok (.iload_n 3, 1) := by decide +kernel
theorem dL_law_763 : decode cL_law 763 = .ok (.iconst 1, 1) := by decide +kernel
theorem dL_law_764 : decode cL_law 764 = .ok (.iadd, 1) := by decide +kernel
theorem dL_law_765 : decode cL_law 765 = .ok (.iaload, 1) := by decide +kernel
theorem dL_law_766 : decode cL_law 766 = .ok (.aload_n 0, 1) := by decide +kernel
theorem dL_law_767 : decode cL_law 767 = .ok (.iload_n 3, 1) := by decide +kernel
theorem dL_law_768 : decode cL_law 768 = .ok (.iconst 2, 1) := by decide +kernel
theorem dL_law_769 : decode cL_law 769 = .ok (.iadd, 1) := by decide +kernel
theorem dL_law_770 : decode cL_law 770 = .ok (.iaload, 1) := by decide +kernel
theorem dL_law_771 : decode cL_law 771 = .ok (.aload_n 0, 1) := by decide +kernel
theorem dL_law_772 : decode cL_law 772 = .ok (.iload_n 3, 1) := by decide +kernel
theorem dL_law_773 : decode cL_law 773 = .ok (.iconst 3, 1) := by decide +kernel
theorem dL_law_774 : decode cL_law 774 = .ok (.iadd, 1) := by decide +kernel
theorem dL_law_775 : decode cL_law 775 = .ok (.iaload, 1) := by decide +kernel
theorem dL_law_776 : decode cL_law 776 = .ok (.invokevirtual 88, 3) := by decide +kernel
theorem dL_law_779 : decode cL_law 779 = .ok (.if_icmp .eq 761, 3) := by decide +kernel
theorem dL_law_782 : decode cL_law 782 = .ok (.iconst 0, 1) := by decide +kernel
theorem dL_law_783 : decode cL_law 783 = .ok (.ireturn, 1) := by decide +kernel
theorem dL_law_784 : decode cL_law 784 = .ok (.aload_n 1, 1) := by decide +kernel
theorem dL_law_785 : decode cL_law 785 = .ok (.aload_n 0, 1) := by decide +kernel
theorem dL_law_786 : decode cL_law 786 = .ok (.iload_n 3, 1) := by decide +kernel
theorem dL_law_787 : decode cL_law 787 = .ok (.iconst 1, 1) := by decide +kernel
theorem dL_law_788 : decode cL_law 788 = .ok (.iadd, 1) := by decide +kernel
theorem dL_law_789 : decode cL_law 789 = .ok (.iaload, 1) := by decide +kernel
theorem dL_law_790 : decode cL_law 790 = .ok (.aload_n 0, 1) := by decide +kernel
theorem dL_law_791 : decode cL_law 791 = .ok (.iload_n 3, 1) := by decide +kernel
theorem dL_law_792 : decode cL_law 792 = .ok (.iconst 2, 1) := by decide +kernel
theorem dL_law_793 : decode cL_law 793 = .ok (.iadd, 1) := by decide +kernel
theorem dL_law_794 : decode cL_law 794 = .ok (.iaload, 1) := by decide +kernel
theorem dL_law_795 : decode cL_law 795 = .ok (.aload_n 0, 1) := by decide +kernel
theorem dL_law_796 : decode cL_law 796 = .ok (.iload_n 3, 1) := by decide +kernel
theorem dL_law_797 : decode cL_law 797 = .ok (.iconst 3, 1) := by decide +kernel
theorem dL_law_798 : decode cL_law 798 = .ok (.iadd, 1) := by decide +kernel
theorem dL_law_799 : decode cL_law 799 = .ok (.iaload, 1) := by decide +kernel
theorem dL_law_800 : decode cL_law 800 = .ok (.invokevirtual 89, 3) := by decide +kernel
theorem dL_law_803 : decode cL_law 803 = .ok (.aload_n 2, 1) := by decide +kernel
theorem dL_law_804 : decode cL_law 804 = .ok (.aload_n 0, 1) := by decide +kernel
theorem dL_law_805 : decode cL_law 805 = .ok (.iload_n 3, 1) := by decide +kernel
theorem dL_law_806 : decode cL_law 806 = .ok (.iconst 1, 1) := by decide +kernel
theorem dL_law_807 : decode cL_law 807 = .ok (.iadd, 1) := by decide +kernel
theorem dL_law_808 : decode cL_law 808 = .ok (.iaload, 1) := by decide +kernel
theorem dL_law_809 : decode cL_law 809 = .ok (.aload_n 0, 1) := by decide +kernel
theorem dL_law_810 : decode cL_law 810 = .ok (.iload_n 3, 1) := by decide +kernel
theorem dL_law_811 : decode cL_law 811 = .ok (.iconst 2, 1) := by decide +kernel
theorem dL_law_812 : decode cL_law 812 = .ok (.iadd, 1) := by decide +kernel
theorem dL_law_813 : decode cL_law 813 = .ok (.iaload, 1) := by decide +kernel
theorem dL_law_814 : decode cL_law 814 = .ok (.aload_n 0, 1) := by decide +kernel
theorem dL_law_815 : decode cL_law 815 = .ok (.iload_n 3, 1) := by decide +kernel
theorem dL_law_816 : decode cL_law 816 = .ok (.iconst 3, 1) := by decide +kernel
theorem dL_law_817 : decode cL_law 817 = .ok (.iadd, 1) := by decide +kernel
theorem dL_law_818 : decode cL_law 818 = .ok (.iaload, 1) := by decide +kernel
theorem dL_law_819 : decode cL_law 819 = .ok (.invokevirtual 92, 3) := by decide +kernel
theorem dL_law_822 : decode cL_law 822 = .ok (.if_icmp .eq 718, 3) := by decide +kernel
theorem dL_law_825 : decode cL_law 825 = .ok (.iconst 0, 1) := by decide +kernel
theorem dL_law_826 : decode cL_law 826 = .ok (.ireturn, 1) := by decide +kernel
theorem dL_law_827 : decode cL_law 827 = .ok (.aload_n 1, 1) := by decide +kernel
theorem dL_law_828 : decode cL_law 828 = .ok (.aload_n 0, 1) := by decide +kernel
theorem dL_law_829 : decode cL_law 829 = .ok (.iload_n 3, 1) := by decide +kernel
theorem dL_law_830 : decode cL_law 830 = .ok (.iconst 1, 1) := by decide +kernel
theorem dL_law_831 : decode cL_law 831 = .ok (.iadd, 1) := by decide +kernel
theorem dL_law_832 : decode cL_law 832 = .ok (.iaload, 1) := by decide +kernel
theorem dL_law_833 : decode cL_law 833 = .ok (.aload_n 0, 1) := by decide +kernel
theorem dL_law_834 : decode cL_law 834 = .ok (.iload_n 3, 1) := by decide +kernel
theorem dL_law_835 : decode cL_law 835 = .ok (.iconst 2, 1) := by decide +kernel
theorem dL_law_836 : decode cL_law 836 = .ok (.iadd, 1) := by decide +kernel
theorem dL_law_837 : decode cL_law 837 = .ok (.iaload, 1) := by decide +kernel
theorem dL_law_838 : decode cL_law 838 = .ok (.invokevirtual 93, 3) := by decide +kernel
theorem dL_law_841 : decode cL_law 841 = .ok (.aload_n 2, 1) := by decide +kernel
theorem dL_law_842 : decode cL_law 842 = .ok (.aload_n 0, 1) := by decide +kernel
theorem dL_law_843 : decode cL_law 843 = .ok (.iload_n 3, 1) := by decide +kernel
theorem dL_law_844 : decode cL_law 844 = .ok (.iconst 1, 1) := by decide +kernel
theorem dL_law_845 : decode cL_law 845 = .ok (.iadd, 1) := by decide +kernel
theorem dL_law_846 : decode cL_law 846 = .ok (.iaload, 1) := by decide +kernel
theorem dL_law_847 : decode cL_law 847 = .ok (.aload_n 0, 1) := by decide +kernel
theorem dL_law_848 : decode cL_law 848 = .ok (.iload_n 3, 1) := by decide +kernel
theorem dL_law_849 : decode cL_law 849 = .ok (.iconst 2, 1) := by decide +kernel
theorem dL_law_850 : decode cL_law 850 = .ok (.iadd, 1) := by decide +kernel
theorem dL_law_851 : decode cL_law 851 = .ok (.iaload, 1) := by decide +kernel
theorem dL_law_852 : decode cL_law 852 = .ok (.invokevirtual 96, 3) := by decide +kernel
theorem dL_law_855 : decode cL_law 855 = .ok (.if_icmp .eq 685, 3) := by decide +kernel
theorem dL_law_858 : decode cL_law 858 = .ok (.iconst 0, 1) := by decide +kernel
theorem dL_law_859 : decode cL_law 859 = .ok (.ireturn, 1) := by decide +kernel
theorem dL_law_860 : decode cL_law 860 = .ok (.aload_n 1, 1) := by decide +kernel
theorem dL_law_861 : decode cL_law 861 = .ok (.aload_n 0, 1) := by decide +kernel
theorem dL_law_862 : decode cL_law 862 = .ok (.iload_n 3, 1) := by decide +kernel
theorem dL_law_863 : decode cL_law 863 = .ok (.iconst 1, 1) := by decide +kernel
theorem dL_law_864 : decode cL_law 864 = .ok (.iadd, 1) := by decide +kernel
theorem dL_law_865 : decode cL_law 865 = .ok (.iaload, 1) := by decide +kernel
theorem dL_law_866 : decode cL_law 866 = .ok (.aload_n 0, 1) := by decide +kernel
theorem dL_law_867 : decode cL_law 867 = .ok (.iload_n 3, 1) := by decide +kernel
theorem dL_law_868 : decode cL_law 868 = .ok (.iconst 2, 1) := by decide +kernel
theorem dL_law_869 : decode cL_law 869 = .ok (.iadd, 1) := by decide +kernel
theorem dL_law_870 : decode cL_law 870 = .ok (.iaload, 1) := by decide +kernel
theorem dL_law_871 : decode cL_law 871 = .ok (.aload_n 0, 1) := by decide +kernel
theorem dL_law_872 : decode cL_law 872 = .ok (.iload_n 3, 1) := by decide +kernel
theorem dL_law_873 : decode cL_law 873 = .ok (.iconst 3, 1) := by decide +kernel
theorem dL_law_874 : decode cL_law 874 = .ok (.iadd, 1) := by decide +kernel
theorem dL_law_875 : decode cL_law 875 = .ok (.iaload, 1) := by decide +kernel
theorem dL_law_876 : decode cL_law 876 = .ok (.aload_n 0, 1) := by decide +kernel
theorem dL_law_877 : decode cL_law 877 = .ok (.iload_n 3, 1) := by decide +kernel
theorem dL_law_878 : decode cL_law 878 = .ok (.iconst 4, 1) := by decide +kernel
theorem dL_law_879 : decode cL_law 879 = .ok (.iadd, 1) := by decide +kernel
theorem dL_law_880 : decode cL_law 880 = .ok (.iaload, 1) := by decide +kernel
theorem dL_law_881 : decode cL_law 881 = .ok (.invokevirtual 97, 3) := by decide +kernel
theorem dL_law_884 : decode cL_law 884 = .ok (.aload_n 2, 1) := by decide +kernel
theorem dL_law_885 : decode cL_law 885 = .ok (.aload_n 0, 1) := by decide +kernel
theorem dL_law_886 : decode cL_law 886 = .ok (.iload_n 3, 1) := by decide +kernel
theorem dL_law_887 : decode cL_law 887 = .ok (.iconst 1, 1) := by decide +kernel
theorem dL_law_888 : decode cL_law 888 = .ok (.iadd, 1) := by decide +kernel
theorem dL_law_889 : decode cL_law 889 = .ok (.iaload, 1) := by decide +kernel
theorem dL_law_890 : decode cL_law 890 = .ok (.aload_n 0, 1) := by decide +kernel
theorem dL_law_891 : decode cL_law 891 = .ok (.iload_n 3, 1) := by decide +kernel
theorem dL_law_892 : decode cL_law 892 = .ok (.iconst 2, 1) := by decide +kernel
theorem dL_law_893 : decode cL_law 893 = .ok (.iadd, 1) := by decide +kernel
theorem dL_law_894 : decode cL_law 894 = .ok (.iaload, 1) := by decide +kernel
theorem dL_law_895 : decode cL_law 895 = .ok (.aload_n 0, 1) := by decide +kernel
theorem dL_law_896 : decode cL_law 896 = .ok (.iload_n 3, 1) := by decide +kernel
theorem dL_law_897 : decode cL_law 897 = .ok (.iconst 3, 1) := by decide +kernel
theorem dL_law_898 : decode cL_law 898 = .ok (.iadd, 1) := by decide +kernel
theorem dL_law_899 : decode cL_law 899 = .ok (.iaload, 1) := by decide +kernel
theorem dL_law_900 : decode cL_law 900 = .ok (.aload_n 0, 1) := by decide +kernel
theorem dL_law_901 : decode cL_law 901 = .ok (.iload_n 3, 1) := by decide +kernel
theorem dL_law_902 : decode cL_law 902 = .ok (.iconst 4, 1) := by decide +kernel
theorem dL_law_903 : decode cL_law 903 = .ok (.iadd, 1) := by decide +kernel
theorem dL_law_904 : decode cL_law 904 = .ok (.iaload, 1) := by decide +kernel
theorem dL_law_905 : decode cL_law 905 = .ok (.invokevirtual 101, 3) := by decide +kernel
theorem dL_law_908 : decode cL_law 908 = .ok (.if_icmp .eq 632, 3) := by decide +kernel
theorem dL_law_911 : decode cL_law 911 = .ok (.iconst 0, 1) := by decide +kernel
theorem dL_law_912 : decode cL_law 912 = .ok (.ireturn, 1) := by decide +kernel
theorem dL_law_913 : decode cL_law 913 = .ok (.aload_n 1, 1) := by decide +kernel
theorem dL_law_914 : decode cL_law 914 = .ok (.aload_n 0, 1) := by decide +kernel
theorem dL_law_915 : decode cL_law 915 = .ok (.iload_n 3, 1) := by decide +kernel
theorem dL_law_916 : decode cL_law 916 = .ok (.iconst 1, 1) := by decide +kernel
theorem dL_law_917 : decode cL_law 917 = .ok (.iadd, 1) := by decide +kernel
theorem dL_law_918 : decode cL_law 918 = .ok (.iaload, 1) := by decide +kernel
theorem dL_law_919 : decode cL_law 919 = .ok (.aload_n 0, 1) := by decide +kernel
theorem dL_law_920 : decode cL_law 920 = .ok (.iload_n 3, 1) := by decide +kernel
theorem dL_law_921 : decode cL_law 921 = .ok (.iconst 2, 1) := by decide +kernel
theorem dL_law_922 : decode cL_law 922 = .ok (.iadd, 1) := by decide +kernel
theorem dL_law_923 : decode cL_law 923 = .ok (.iaload, 1) := by decide +kernel
theorem dL_law_924 : decode cL_law 924 = .ok (.aload_n 0, 1) := by decide +kernel
theorem dL_law_925 : decode cL_law 925 = .ok (.iload_n 3, 1) := by decide +kernel
theorem dL_law_926 : decode cL_law 926 = .ok (.iconst 3, 1) := by decide +kernel
theorem dL_law_927 : decode cL_law 927 = .ok (.iadd, 1) := by decide +kernel
theorem dL_law_928 : decode cL_law 928 = .ok (.iaload, 1) := by decide +kernel
theorem dL_law_929 : decode cL_law 929 = .ok (.invokevirtual 102, 3) := by decide +kernel
theorem dL_law_932 : decode cL_law 932 = .ok (.aload_n 2, 1) := by decide +kernel
theorem dL_law_933 : decode cL_law 933 = .ok (.aload_n 0, 1) := by decide +kernel
theorem dL_law_934 : decode cL_law 934 = .ok (.iload_n 3, 1) := by decide +kernel
theorem dL_law_935 : decode cL_law 935 = .ok (.iconst 1, 1) := by decide +kernel
theorem dL_law_936 : decode cL_law 936 = .ok (.iadd, 1) := by decide +kernel
theorem dL_law_937 : decode cL_law 937 = .ok (.iaload, 1) := by decide +kernel
theorem dL_law_938 : decode cL_law 938 = .ok (.aload_n 0, 1) := by decide +kernel
theorem dL_law_939 : decode cL_law 939 = .ok (.iload_n 3, 1) := by decide +kernel
theorem dL_law_940 : decode cL_law 940 = .ok (.iconst 2, 1) := by decide +kernel
theorem dL_law_941 : decode cL_law 941 = .ok (.iadd, 1) := by decide +kernel
theorem dL_law_942 : decode cL_law 942 = .ok (.iaload, 1) := by decide +kernel
theorem dL_law_943 : decode cL_law 943 = .ok (.aload_n 0, 1) := by decide +kernel
theorem dL_law_944 : decode cL_law 944 = .ok (.iload_n 3, 1) := by decide +kernel
theorem dL_law_945 : decode cL_law 945 = .ok (.iconst 3, 1) := by decide +kernel
theorem dL_law_946 : decode cL_law 946 = .ok (.iadd, 1) := by decide +kernel
theorem dL_law_947 : decode cL_law 947 = .ok (.iaload, 1) := by decide +kernel
theorem dL_law_948 : decode cL_law 948 = .ok (.invokevirtual 105, 3) := by decide +kernel
theorem dL_law_951 : decode cL_law 951 = .ok (.if_icmp .eq 589, 3) := by decide +kernel
theorem dL_law_954 : decode cL_law 954 = .ok (.iconst 0, 1) := by decide +kernel
theorem dL_law_955 : decode cL_law 955 = .ok (.ireturn, 1) := by decide +kernel
theorem dL_law_956 : decode cL_law 956 = .ok (.aload_n 1, 1) := by decide +kernel
theorem dL_law_957 : decode cL_law 957 = .ok (.aload_n 0, 1) := by decide +kernel
theorem dL_law_958 : decode cL_law 958 = .ok (.iload_n 3, 1) := by decide +kernel
theorem dL_law_959 : decode cL_law 959 = .ok (.iconst 1, 1) := by decide +kernel
theorem dL_law_960 : decode cL_law 960 = .ok (.iadd, 1) := by decide +kernel
theorem dL_law_961 : decode cL_law 961 = .ok (.iaload, 1) := by decide +kernel
theorem dL_law_962 : decode cL_law 962 = .ok (.aload_n 0, 1) := by decide +kernel
theorem dL_law_963 : decode cL_law 963 = .ok (.iload_n 3, 1) := by decide +kernel
theorem dL_law_964 : decode cL_law 964 = .ok (.iconst 2, 1) := by decide +kernel
theorem dL_law_965 : decode cL_law 965 = .ok (.iadd, 1) := by decide +kernel
theorem dL_law_966 : decode cL_law 966 = .ok (.iaload, 1) := by decide +kernel
theorem dL_law_967 : decode cL_law 967 = .ok (.invokevirtual 106, 3) := by decide +kernel
theorem dL_law_970 : decode cL_law 970 = .ok (.aload_n 2, 1) := by decide +kernel
theorem dL_law_971 : decode cL_law 971 = .ok (.aload_n 0, 1) := by decide +kernel
theorem dL_law_972 : decode cL_law 972 = .ok (.iload_n 3, 1) := by decide +kernel
theorem dL_law_973 : decode cL_law 973 = .ok (.iconst 1, 1) := by decide +kernel
theorem dL_law_974 : decode cL_law 974 = .ok (.iadd, 1) := by decide +kernel
theorem dL_law_975 : decode cL_law 975 = .ok (.iaload, 1) := by decide +kernel
theorem dL_law_976 : decode cL_law 976 = .ok (.aload_n 0, 1) := by decide +kernel
theorem dL_law_977 : decode cL_law 977 = .ok (.iload_n 3, 1) := by decide +kernel
theorem dL_law_978 : decode cL_law 978 = .ok (.iconst 2, 1) := by decide +kernel
theorem dL_law_979 : decode cL_law 979 = .ok (.iadd, 1) := by decide +kernel
theorem dL_law_980 : decode cL_law 980 = .ok (.iaload, 1) := by decide +kernel
theorem dL_law_981 : decode cL_law 981 = .ok (.invokevirtual 109, 3) := by decide +kernel
theorem dL_law_984 : decode cL_law 984 = .ok (.if_icmp .eq 556, 3) := by decide +kernel
theorem dL_law_987 : decode cL_law 987 = .ok (.iconst 0, 1) := by decide +kernel
theorem dL_law_988 : decode cL_law 988 = .ok (.ireturn, 1) := by decide +kernel
theorem dL_law_989 : decode cL_law 989 = .ok (.aload_n 1, 1) := by decide +kernel
theorem dL_law_990 : decode cL_law 990 = .ok (.aload_n 0, 1) := by decide +kernel
theorem dL_law_991 : decode cL_law 991 = .ok (.iload_n 3, 1) := by decide +kernel
theorem dL_law_992 : decode cL_law 992 = .ok (.iconst 1, 1) := by decide +kernel
theorem dL_law_993 : decode cL_law 993 = .ok (.iadd, 1) := by decide +kernel
theorem dL_law_994 : decode cL_law 994 = .ok (.iaload, 1) := by decide +kernel
theorem dL_law_995 : decode cL_law 995 = .ok (.aload_n 0, 1) := by decide +kernel
theorem dL_law_996 : decode cL_law 996 = .ok (.iload_n 3, 1) := by decide +kernel
theorem dL_law_997 : decode cL_law 997 = .ok (.iconst 2, 1) := by decide +kernel
theorem dL_law_998 : decode cL_law 998 = .ok (.iadd, 1) := by decide +kernel
theorem dL_law_999 : decode cL_law 999 = .ok (.iaload, 1) := by decide +kernel
theorem dL_law_1000 : decode cL_law 1000 = .ok (.invokevirtual 110, 3) := by decide +kernel
theorem dL_law_1003 : decode cL_law 1003 = .ok (.aload_n 2, 1) := by decide +kernel
theorem dL_law_1004 : decode cL_law 1004 = .ok (.aload_n 0, 1) := by decide +kernel
theorem dL_law_1005 : decode cL_law 1005 = .ok (.iload_n 3, 1) := by decide +kernel
theorem dL_law_1006 : decode cL_law 1006 = .ok (.iconst 1, 1) := by decide +kernel
theorem dL_law_1007 : decode cL_law 1007 = .ok (.iadd, 1) := by decide +kernel
theorem dL_law_1008 : decode cL_law 1008 = .ok (.iaload, 1) := by decide +kernel
theorem dL_law_1009 : decode cL_law 1009 = .ok (.aload_n 0, 1) := by decide +kernel
theorem dL_law_1010 : decode cL_law 1010 = .ok (.iload_n 3, 1) := by decide +kernel
theorem dL_law_1011 : decode cL_law 1011 = .ok (.iconst 2, 1) := by decide +kernel
theorem dL_law_1012 : decode cL_law 1012 = .ok (.iadd, 1) := by decide +kernel
theorem dL_law_1013 : decode cL_law 1013 = .ok (.iaload, 1) := by decide +kernel
theorem dL_law_1014 : decode cL_law 1014 = .ok (.invokevirtual 113, 3) := by decide +kernel
theorem dL_law_1017 : decode cL_law 1017 = .ok (.if_icmp .eq 523, 3) := by decide +kernel
theorem dL_law_1020 : decode cL_law 1020 = .ok (.iconst 0, 1) := by decide +kernel
theorem dL_law_1021 : decode cL_law 1021 = .ok (.ireturn, 1) := by decide +kernel
theorem dL_law_1022 : decode cL_law 1022 = .ok (.aload_n 1, 1) := by decide +kernel
theorem dL_law_1023 : decode cL_law 1023 = .ok (.aload_n 0, 1) := by decide +kernel
theorem dL_law_1024 : decode cL_law 1024 = .ok (.iload_n 3, 1) := by decide +kernel
theorem dL_law_1025 : decode cL_law 1025 = .ok (.iconst 1, 1) := by decide +kernel
theorem dL_law_1026 : decode cL_law 1026 = .ok (.iadd, 1) := by decide +kernel
theorem dL_law_1027 : decode cL_law 1027 = .ok (.iaload, 1) := by decide +kernel
theorem dL_law_1028 : decode cL_law 1028 = .ok (.aload_n 0, 1) := by decide +kernel
theorem dL_law_1029 : decode cL_law 1029 = .ok (.iload_n 3, 1) := by decide +kernel
theorem dL_law_1030 : decode cL_law 1030 = .ok (.iconst 2, 1) := by decide +kernel
theorem dL_law_1031 : decode cL_law 1031 = .ok (.iadd, 1) := by decide +kernel
theorem dL_law_1032 : decode cL_law 1032 = .ok (.iaload, 1) := by decide +kernel
theorem dL_law_1033 : decode cL_law 1033 = .ok (.invokevirtual 114, 3) := by decide +kernel
theorem dL_law_1036 : decode cL_law 1036 = .ok (.aload_n 2, 1) := by decide +kernel
theorem dL_law_1037 : decode cL_law 1037 = .ok (.aload_n 0, 1) := by decide +kernel
theorem dL_law_1038 : decode cL_law 1038 = .ok (.iload_n 3, 1) := by decide +kernel
theorem dL_law_1039 : decode cL_law 1039 = .ok (.iconst 1, 1) := by decide +kernel
theorem dL_law_1040 : decode cL_law 1040 = .ok (.iadd, 1) := by decide +kernel
theorem dL_law_1041 : decode cL_law 1041 = .ok (.iaload, 1) := by decide +kernel
theorem dL_law_1042 : decode cL_law 1042 = .ok (.aload_n 0, 1) := by decide +kernel
theorem dL_law_1043 : decode cL_law 1043 = .ok (.iload_n 3, 1) := by decide +kernel
theorem dL_law_1044 : decode cL_law 1044 = .ok (.iconst 2, 1) := by decide +kernel
theorem dL_law_1045 : decode cL_law 1045 = .ok (.iadd, 1) := by decide +kernel
theorem dL_law_1046 : decode cL_law 1046 = .ok (.iaload, 1) := by decide +kernel
theorem dL_law_1047 : decode cL_law 1047 = .ok (.invokevirtual 117, 3) := by decide +kernel
theorem dL_law_1050 : decode cL_law 1050 = .ok (.if_icmp .eq 490, 3) := by decide +kernel
theorem dL_law_1053 : decode cL_law 1053 = .ok (.iconst 0, 1) := by decide +kernel
theorem dL_law_1054 : decode cL_law 1054 = .ok (.ireturn, 1) := by decide +kernel
theorem dL_law_1055 : decode cL_law 1055 = .ok (.aload_n 1, 1) := by decide +kernel
theorem dL_law_1056 : decode cL_law 1056 = .ok (.aload_n 0, 1) := by decide +kernel
theorem dL_law_1057 : decode cL_law 1057 = .ok (.iload_n 3, 1) := by decide +kernel
theorem dL_law_1058 : decode cL_law 1058 = .ok (.iconst 1, 1) := by decide +kernel
theorem dL_law_1059 : decode cL_law 1059 = .ok (.iadd, 1) := by decide +kernel
theorem dL_law_1060 : decode cL_law 1060 = .ok (.iaload, 1) := by decide +kernel
theorem dL_law_1061 : decode cL_law 1061 = .ok (.invokevirtual 118, 3) := by decide +kernel
theorem dL_law_1064 : decode cL_law 1064 = .ok (.aload_n 2, 1) := by decide +kernel
theorem dL_law_1065 : decode cL_law 1065 = .ok (.aload_n 0, 1) := by decide +kernel
theorem dL_law_1066 : decode cL_law 1066 = .ok (.iload_n 3, 1) := by decide +kernel
theorem dL_law_1067 : decode cL_law 1067 = .ok (.iconst 1, 1) := by decide +kernel
theorem dL_law_1068 : decode cL_law 1068 = .ok (.iadd, 1) := by decide +kernel
theorem dL_law_1069 : decode cL_law 1069 = .ok (.iaload, 1) := by decide +kernel
theorem dL_law_1070 : decode cL_law 1070 = .ok (.invokevirtual 121, 3) := by decide +kernel
theorem dL_law_1073 : decode cL_law 1073 = .ok (.if_icmp .eq 467, 3) := by decide +kernel
theorem dL_law_1076 : decode cL_law 1076 = .ok (.iconst 0, 1) := by decide +kernel
theorem dL_law_1077 : decode cL_law 1077 = .ok (.ireturn, 1) := by decide +kernel
theorem dL_law_1078 : decode cL_law 1078 = .ok (.aload_n 1, 1) := by decide +kernel
theorem dL_law_1079 : decode cL_law 1079 = .ok (.aload_n 0, 1) := by decide +kernel
theorem dL_law_1080 : decode cL_law 1080 = .ok (.iload_n 3, 1) := by decide +kernel
theorem dL_law_1081 : decode cL_law 1081 = .ok (.iconst 1, 1) := by decide +kernel
theorem dL_law_1082 : decode cL_law 1082 = .ok (.iadd, 1) := by decide +kernel
theorem dL_law_1083 : decode cL_law 1083 = .ok (.iaload, 1) := by decide +kernel
theorem dL_law_1084 : decode cL_law 1084 = .ok (.aload_n 0, 1) := by decide +kernel
theorem dL_law_1085 : decode cL_law 1085 = .ok (.iload_n 3, 1) := by decide +kernel
theorem dL_law_1086 : decode cL_law 1086 = .ok (.iconst 2, 1) := by decide +kernel
theorem dL_law_1087 : decode cL_law 1087 = .ok (.iadd, 1) := by decide +kernel
theorem dL_law_1088 : decode cL_law 1088 = .ok (.iaload, 1) := by decide +kernel
theorem dL_law_1089 : decode cL_law 1089 = .ok (.invokevirtual 122, 3) := by decide +kernel
theorem dL_law_1092 : decode cL_law 1092 = .ok (.aload_n 2, 1) := by decide +kernel
theorem dL_law_1093 : decode cL_law 1093 = .ok (.aload_n 0, 1) := by decide +kernel
theorem dL_law_1094 : decode cL_law 1094 = .ok (.iload_n 3, 1) := by decide +kernel
theorem dL_law_1095 : decode cL_law 1095 = .ok (.iconst 1, 1) := by decide +kernel
theorem dL_law_1096 : decode cL_law 1096 = .ok (.iadd, 1) := by decide +kernel
theorem dL_law_1097 : decode cL_law 1097 = .ok (.iaload, 1) := by decide +kernel
theorem dL_law_1098 : decode cL_law 1098 = .ok (.aload_n 0, 1) := by decide +kernel
theorem dL_law_1099 : decode cL_law 1099 = .ok (.iload_n 3, 1) := by decide +kernel
theorem dL_law_1100 : decode cL_law 1100 = .ok (.iconst 2, 1) := by decide +kernel
theorem dL_law_1101 : decode cL_law 1101 = .ok (.iadd, 1) := by decide +kernel
theorem dL_law_1102 : decode cL_law 1102 = .ok (.iaload, 1) := by decide +kernel
theorem dL_law_1103 : decode cL_law 1103 = .ok (.invokevirtual 126, 3) := by decide +kernel
theorem dL_law_1106 : decode cL_law 1106 = .ok (.lcmp, 1) := by decide +kernel
theorem dL_law_1107 : decode cL_law 1107 = .ok (.ifCond .eq 433, 3) := by decide +kernel
theorem dL_law_1110 : decode cL_law 1110 = .ok (.iconst 0, 1) := by decide +kernel
theorem dL_law_1111 : decode cL_law 1111 = .ok (.ireturn, 1) := by decide +kernel
theorem dL_law_1112 : decode cL_law 1112 = .ok (.aload_n 1, 1) := by decide +kernel
theorem dL_law_1113 : decode cL_law 1113 = .ok (.aload_n 0, 1) := by decide +kernel
theorem dL_law_1114 : decode cL_law 1114 = .ok (.iload_n 3, 1) := by decide +kernel
theorem dL_law_1115 : decode cL_law 1115 = .ok (.iconst 1, 1) := by decide +kernel
theorem dL_law_1116 : decode cL_law 1116 = .ok (.iadd, 1) := by decide +kernel
theorem dL_law_1117 : decode cL_law 1117 = .ok (.iaload, 1) := by decide +kernel
theorem dL_law_1118 : decode cL_law 1118 = .ok (.invokevirtual 127, 3) := by decide +kernel
theorem dL_law_1121 : decode cL_law 1121 = .ok (.aload_n 2, 1) := by decide +kernel
theorem dL_law_1122 : decode cL_law 1122 = .ok (.aload_n 0, 1) := by decide +kernel
theorem dL_law_1123 : decode cL_law 1123 = .ok (.iload_n 3, 1) := by decide +kernel
theorem dL_law_1124 : decode cL_law 1124 = .ok (.iconst 1, 1) := by decide +kernel
theorem dL_law_1125 : decode cL_law 1125 = .ok (.iadd, 1) := by decide +kernel
theorem dL_law_1126 : decode cL_law 1126 = .ok (.iaload, 1) := by decide +kernel
theorem dL_law_1127 : decode cL_law 1127 = .ok (.invokevirtual 130, 3) := by decide +kernel
theorem dL_law_1130 : decode cL_law 1130 = .ok (.if_icmp .eq 410, 3) := by decide +kernel
theorem dL_law_1133 : decode cL_law 1133 = .ok (.iconst 0, 1) := by decide +kernel
theorem dL_law_1134 : decode cL_law 1134 = .ok (.ireturn, 1) := by decide +kernel
theorem dL_law_1135 : decode cL_law 1135 = .ok (.aload_n 1, 1) := by decide +kernel
theorem dL_law_1136 : decode cL_law 1136 = .ok (.aload_n 0, 1) := by decide +kernel
theorem dL_law_1137 : decode cL_law 1137 = .ok (.iload_n 3, 1) := by decide +kernel
theorem dL_law_1138 : decode cL_law 1138 = .ok (.iconst 1, 1) := by decide +kernel
theorem dL_law_1139 : decode cL_law 1139 = .ok (.iadd, 1) := by decide +kernel
theorem dL_law_1140 : decode cL_law 1140 = .ok (.iaload, 1) := by decide +kernel
theorem dL_law_1141 : decode cL_law 1141 = .ok (.aload_n 0, 1) := by decide +kernel
theorem dL_law_1142 : decode cL_law 1142 = .ok (.iload_n 3, 1) := by decide +kernel
theorem dL_law_1143 : decode cL_law 1143 = .ok (.iconst 2, 1) := by decide +kernel
theorem dL_law_1144 : decode cL_law 1144 = .ok (.iadd, 1) := by decide +kernel
theorem dL_law_1145 : decode cL_law 1145 = .ok (.iaload, 1) := by decide +kernel
theorem dL_law_1146 : decode cL_law 1146 = .ok (.invokevirtual 131, 3) := by decide +kernel
theorem dL_law_1149 : decode cL_law 1149 = .ok (.aload_n 2, 1) := by decide +kernel
theorem dL_law_1150 : decode cL_law 1150 = .ok (.aload_n 0, 1) := by decide +kernel
theorem dL_law_1151 : decode cL_law 1151 = .ok (.iload_n 3, 1) := by decide +kernel
theorem dL_law_1152 : decode cL_law 1152 = .ok (.iconst 1, 1) := by decide +kernel
theorem dL_law_1153 : decode cL_law 1153 = .ok (.iadd, 1) := by decide +kernel
theorem dL_law_1154 : decode cL_law 1154 = .ok (.iaload, 1) := by decide +kernel
theorem dL_law_1155 : decode cL_law 1155 = .ok (.aload_n 0, 1) := by decide +kernel
theorem dL_law_1156 : decode cL_law 1156 = .ok (.iload_n 3, 1) := by decide +kernel
theorem dL_law_1157 : decode cL_law 1157 = .ok (.iconst 2, 1) := by decide +kernel
theorem dL_law_1158 : decode cL_law 1158 = .ok (.iadd, 1) := by decide +kernel
theorem dL_law_1159 : decode cL_law 1159 = .ok (.iaload, 1) := by decide +kernel
theorem dL_law_1160 : decode cL_law 1160 = .ok (.invokevirtual 134, 3) := by decide +kernel
theorem dL_law_1163 : decode cL_law 1163 = .ok (.if_icmp .eq 377, 3) := by decide +kernel
theorem dL_law_1166 : decode cL_law 1166 = .ok (.iconst 0, 1) := by decide +kernel
theorem dL_law_1167 : decode cL_law 1167 = .ok (.ireturn, 1) := by decide +kernel
theorem dL_law_1168 : decode cL_law 1168 = .ok (.aload_n 1, 1) := by decide +kernel
theorem dL_law_1169 : decode cL_law 1169 = .ok (.invokevirtual 135, 3) := by decide +kernel
theorem dL_law_1172 : decode cL_law 1172 = .ok (.aload_n 2, 1) := by decide +kernel
theorem dL_law_1173 : decode cL_law 1173 = .ok (.invokevirtual 138, 3) := by decide +kernel
theorem dL_law_1176 : decode cL_law 1176 = .ok (.if_icmp .eq 364, 3) := by decide +kernel
theorem dL_law_1179 : decode cL_law 1179 = .ok (.iconst 0, 1) := by decide +kernel
theorem dL_law_1180 : decode cL_law 1180 = .ok (.ireturn, 1) := by decide +kernel
theorem dL_law_1181 : decode cL_law 1181 = .ok (.aload_n 1, 1) := by decide +kernel
theorem dL_law_1182 : decode cL_law 1182 = .ok (.invokevirtual 139, 3) := by decide +kernel
theorem dL_law_1185 : decode cL_law 1185 = .ok (.aload_n 2, 1) := by decide +kernel
theorem dL_law_1186 : decode cL_law 1186 = .ok (.invokevirtual 142, 3) := by decide +kernel
theorem dL_law_1189 : decode cL_law 1189 = .ok (.if_icmp .eq 351, 3) := by decide +kernel
theorem dL_law_1192 : decode cL_law 1192 = .ok (.iconst 0, 1) := by decide +kernel
theorem dL_law_1193 : decode cL_law 1193 = .ok (.ireturn, 1) := by decide +kernel
theorem dL_law_1194 : decode cL_law 1194 = .ok (.aload_n 1, 1) := by decide +kernel
theorem dL_law_1195 : decode cL_law 1195 = .ok (.aload_n 0, 1) := by decide +kernel
theorem dL_law_1196 : decode cL_law 1196 = .ok (.iload_n 3, 1) := by decide +kernel
theorem dL_law_1197 : decode cL_law 1197 = .ok (.iconst 1, 1) := by decide +kernel
theorem dL_law_1198 : decode cL_law 1198 = .ok (.iadd, 1) := by decide +kernel
theorem dL_law_1199 : decode cL_law 1199 = .ok (.iaload, 1) := by decide +kernel
theorem dL_law_1200 : decode cL_law 1200 = .ok (.aload_n 0, 1) := by decide +kernel
theorem dL_law_1201 : decode cL_law 1201 = .ok (.iload_n 3, 1) := by decide +kernel
theorem dL_law_1202 : decode cL_law 1202 = .ok (.iconst 2, 1) := by decide +kernel
theorem dL_law_1203 : decode cL_law 1203 = .ok (.iadd, 1) := by decide +kernel
theorem dL_law_1204 : decode cL_law 1204 = .ok (.iaload, 1) := by decide +kernel
theorem dL_law_1205 : decode cL_law 1205 = .ok (.invokevirtual 143, 3) := by decide +kernel
theorem dL_law_1208 : decode cL_law 1208 = .ok (.aload_n 2, 1) := by decide +kernel
theorem dL_law_1209 : decode cL_law 1209 = .ok (.aload_n 0, 1) := by decide +kernel
theorem dL_law_1210 : decode cL_law 1210 = .ok (.iload_n 3, 1) := by decide +kernel
theorem dL_law_1211 : decode cL_law 1211 = .ok (.iconst 1, 1) := by decide +kernel
theorem dL_law_1212 : decode cL_law 1212 = .ok (.iadd, 1) := by decide +kernel
theorem dL_law_1213 : decode cL_law 1213 = .ok (.iaload, 1) := by decide +kernel
theorem dL_law_1214 : decode cL_law 1214 = .ok (.aload_n 0, 1) := by decide +kernel
theorem dL_law_1215 : decode cL_law 1215 = .ok (.iload_n 3, 1) := by decide +kernel
theorem dL_law_1216 : decode cL_law 1216 = .ok (.iconst 2, 1) := by decide +kernel
theorem dL_law_1217 : decode cL_law 1217 = .ok (.iadd, 1) := by decide +kernel
theorem dL_law_1218 : decode cL_law 1218 = .ok (.iaload, 1) := by decide +kernel
theorem dL_law_1219 : decode cL_law 1219 = .ok (.invokevirtual 146, 3) := by decide +kernel
theorem dL_law_1222 : decode cL_law 1222 = .ok (.if_icmp .eq 318, 3) := by decide +kernel
theorem dL_law_1225 : decode cL_law 1225 = .ok (.iconst 0, 1) := by decide +kernel
theorem dL_law_1226 : decode cL_law 1226 = .ok (.ireturn, 1) := by decide +kernel
theorem dL_law_1227 : decode cL_law 1227 = .ok (.aload_n 1, 1) := by decide +kernel
theorem dL_law_1228 : decode cL_law 1228 = .ok (.aload_n 0, 1) := by decide +kernel
theorem dL_law_1229 : decode cL_law 1229 = .ok (.iload_n 3, 1) := by decide +kernel
theorem dL_law_1230 : decode cL_law 1230 = .ok (.iconst 1, 1) := by decide +kernel
theorem dL_law_1231 : decode cL_law 1231 = .ok (.iadd, 1) := by decide +kernel
theorem dL_law_1232 : decode cL_law 1232 = .ok (.iaload, 1) := by decide +kernel
theorem dL_law_1233 : decode cL_law 1233 = .ok (.aload_n 0, 1) := by decide +kernel
theorem dL_law_1234 : decode cL_law 1234 = .ok (.iload_n 3, 1) := by decide +kernel
theorem dL_law_1235 : decode cL_law 1235 = .ok (.iconst 2, 1) := by decide +kernel
theorem dL_law_1236 : decode cL_law 1236 = .ok (.iadd, 1) := by decide +kernel
theorem dL_law_1237 : decode cL_law 1237 = .ok (.iaload, 1) := by decide +kernel
theorem dL_law_1238 : decode cL_law 1238 = .ok (.invokevirtual 147, 3) := by decide +kernel
theorem dL_law_1241 : decode cL_law 1241 = .ok (.aload_n 2, 1) := by decide +kernel
theorem dL_law_1242 : decode cL_law 1242 = .ok (.aload_n 0, 1) := by decide +kernel
theorem dL_law_1243 : decode cL_law 1243 = .ok (.iload_n 3, 1) := by decide +kernel
theorem dL_law_1244 : decode cL_law 1244 = .ok (.iconst 1, 1) := by decide +kernel
theorem dL_law_1245 : decode cL_law 1245 = .ok (.iadd, 1) := by decide +kernel
theorem dL_law_1246 : decode cL_law 1246 = .ok (.iaload, 1) := by decide +kernel
theorem dL_law_1247 : decode cL_law 1247 = .ok (.aload_n 0, 1) := by decide +kernel
theorem dL_law_1248 : decode cL_law 1248 = .ok (.iload_n 3, 1) := by decide +kernel
theorem dL_law_1249 : decode cL_law 1249 = .ok (.iconst 2, 1) := by decide +kernel
theorem dL_law_1250 : decode cL_law 1250 = .ok (.iadd, 1) := by decide +kernel
theorem dL_law_1251 : decode cL_law 1251 = .ok (.iaload, 1) := by decide +kernel
theorem dL_law_1252 : decode cL_law 1252 = .ok (.invokevirtual 150, 3) := by decide +kernel
theorem dL_law_1255 : decode cL_law 1255 = .ok (.if_icmp .eq 285, 3) := by decide +kernel
theorem dL_law_1258 : decode cL_law 1258 = .ok (.iconst 0, 1) := by decide +kernel
theorem dL_law_1259 : decode cL_law 1259 = .ok (.ireturn, 1) := by decide +kernel
theorem dL_law_1260 : decode cL_law 1260 = .ok (.aload_n 1, 1) := by decide +kernel
theorem dL_law_1261 : decode cL_law 1261 = .ok (.aload_n 0, 1) := by decide +kernel
theorem dL_law_1262 : decode cL_law 1262 = .ok (.iload_n 3, 1) := by decide +kernel
theorem dL_law_1263 : decode cL_law 1263 = .ok (.iconst 1, 1) := by decide +kernel
theorem dL_law_1264 : decode cL_law 1264 = .ok (.iadd, 1) := by decide +kernel
theorem dL_law_1265 : decode cL_law 1265 = .ok (.iaload, 1) := by decide +kernel
theorem dL_law_1266 : decode cL_law 1266 = .ok (.aload_n 0, 1) := by decide +kernel
theorem dL_law_1267 : decode cL_law 1267 = .ok (.iload_n 3, 1) := by decide +kernel
theorem dL_law_1268 : decode cL_law 1268 = .ok (.iconst 2, 1) := by decide +kernel
theorem dL_law_1269 : decode cL_law 1269 = .ok (.iadd, 1) := by decide +kernel
theorem dL_law_1270 : decode cL_law 1270 = .ok (.iaload, 1) := by decide +kernel
theorem dL_law_1271 : decode cL_law 1271 = .ok (.aload_n 0, 1) := by decide +kernel
theorem dL_law_1272 : decode cL_law 1272 = .ok (.iload_n 3, 1) := by decide +kernel
theorem dL_law_1273 : decode cL_law 1273 = .ok (.iconst 3, 1) := by decide +kernel
theorem dL_law_1274 : decode cL_law 1274 = .ok (.iadd, 1) := by decide +kernel
theorem dL_law_1275 : decode cL_law 1275 = .ok (.iaload, 1) := by decide +kernel
theorem dL_law_1276 : decode cL_law 1276 = .ok (.invokevirtual 151, 3) := by decide +kernel
theorem dL_law_1279 : decode cL_law 1279 = .ok (.aload_n 2, 1) := by decide +kernel
theorem dL_law_1280 : decode cL_law 1280 = .ok (.aload_n 0, 1) := by decide +kernel
theorem dL_law_1281 : decode cL_law 1281 = .ok (.iload_n 3, 1) := by decide +kernel
theorem dL_law_1282 : decode cL_law 1282 = .ok (.iconst 1, 1) := by decide +kernel
theorem dL_law_1283 : decode cL_law 1283 = .ok (.iadd, 1) := by decide +kernel
theorem dL_law_1284 : decode cL_law 1284 = .ok (.iaload, 1) := by decide +kernel
theorem dL_law_1285 : decode cL_law 1285 = .ok (.aload_n 0, 1) := by decide +kernel
theorem dL_law_1286 : decode cL_law 1286 = .ok (.iload_n 3, 1) := by decide +kernel
theorem dL_law_1287 : decode cL_law 1287 = .ok (.iconst 2, 1) := by decide +kernel
theorem dL_law_1288 : decode cL_law 1288 = .ok (.iadd, 1) := by decide +kernel
theorem dL_law_1289 : decode cL_law 1289 = .ok (.iaload, 1) := by decide +kernel
theorem dL_law_1290 : decode cL_law 1290 = .ok (.aload_n 0, 1) := by decide +kernel
theorem dL_law_1291 : decode cL_law 1291 = .ok (.iload_n 3, 1) := by decide +kernel
theorem dL_law_1292 : decode cL_law 1292 = .ok (.iconst 3, 1) := by decide +kernel
theorem dL_law_1293 : decode cL_law 1293 = .ok (.iadd, 1) := by decide +kernel
theorem dL_law_1294 : decode cL_law 1294 = .ok (.iaload, 1) := by decide +kernel
theorem dL_law_1295 : decode cL_law 1295 = .ok (.invokevirtual 154, 3) := by decide +kernel
theorem dL_law_1298 : decode cL_law 1298 = .ok (.if_icmp .eq 242, 3) := by decide +kernel
theorem dL_law_1301 : decode cL_law 1301 = .ok (.iconst 0, 1) := by decide +kernel
theorem dL_law_1302 : decode cL_law 1302 = .ok (.ireturn, 1) := by decide +kernel
theorem dL_law_1303 : decode cL_law 1303 = .ok (.aload_n 1, 1) := by decide +kernel
theorem dL_law_1304 : decode cL_law 1304 = .ok (.aload_n 0, 1) := by decide +kernel
theorem dL_law_1305 : decode cL_law 1305 = .ok (.iload_n 3, 1) := by decide +kernel
theorem dL_law_1306 : decode cL_law 1306 = .ok (.iconst 1, 1) := by decide +kernel
theorem dL_law_1307 : decode cL_law 1307 = .ok (.iadd, 1) := by decide +kernel
theorem dL_law_1308 : decode cL_law 1308 = .ok (.iaload, 1) := by decide +kernel
theorem dL_law_1309 : decode cL_law 1309 = .ok (.aload_n 0, 1) := by decide +kernel
theorem dL_law_1310 : decode cL_law 1310 = .ok (.iload_n 3, 1) := by decide +kernel
theorem dL_law_1311 : decode cL_law 1311 = .ok (.iconst 2, 1) := by decide +kernel
theorem dL_law_1312 : decode cL_law 1312 = .ok (.iadd, 1) := by decide +kernel
theorem dL_law_1313 : decode cL_law 1313 = .ok (.iaload, 1) := by decide +kernel
theorem dL_law_1314 : decode cL_law 1314 = .ok (.aload_n 0, 1) := by decide +kernel
theorem dL_law_1315 : decode cL_law 1315 = .ok (.iload_n 3, 1) := by decide +kernel
theorem dL_law_1316 : decode cL_law 1316 = .ok (.iconst 3, 1) := by decide +kernel
theorem dL_law_1317 : decode cL_law 1317 = .ok (.iadd, 1) := by decide +kernel
theorem dL_law_1318 : decode cL_law 1318 = .ok (.iaload, 1) := by decide +kernel
theorem dL_law_1319 : decode cL_law 1319 = .ok (.invokevirtual 155, 3) := by decide +kernel
theorem dL_law_1322 : decode cL_law 1322 = .ok (.aload_n 2, 1) := by decide +kernel
theorem dL_law_1323 : decode cL_law 1323 = .ok (.aload_n 0, 1) := by decide +kernel
theorem dL_law_1324 : decode cL_law 1324 = .ok (.iload_n 3, 1) := by decide +kernel
theorem dL_law_1325 : decode cL_law 1325 = .ok (.iconst 1, 1) := by decide +kernel
theorem dL_law_1326 : decode cL_law 1326 = .ok (.iadd, 1) := by decide +kernel
theorem dL_law_1327 : decode cL_law 1327 = .ok (.iaload, 1) := by decide +kernel
theorem dL_law_1328 : decode cL_law 1328 = .ok (.aload_n 0, 1) := by decide +kernel
theorem dL_law_1329 : decode cL_law 1329 = .ok (.iload_n 3, 1) := by decide +kernel
theorem dL_law_1330 : decode cL_law 1330 = .ok (.iconst 2, 1) := by decide +kernel
theorem dL_law_1331 : decode cL_law 1331 = .ok (.iadd, 1) := by decide +kernel
theorem dL_law_1332 : decode cL_law 1332 = .ok (.iaload, 1) := by decide +kernel
theorem dL_law_1333 : decode cL_law 1333 = .ok (.aload_n 0, 1) := by decide +kernel
theorem dL_law_1334 : decode cL_law 1334 = .ok (.iload_n 3, 1) := by decide +kernel
theorem dL_law_1335 : decode cL_law 1335 = .ok (.iconst 3, 1) := by decide +kernel
theorem dL_law_1336 : decode cL_law 1336 = .ok (.iadd, 1) := by decide +kernel
theorem dL_law_1337 : decode cL_law 1337 = .ok (.iaload, 1) := by decide +kernel
theorem dL_law_1338 : decode cL_law 1338 = .ok (.invokevirtual 158, 3) := by decide +kernel
theorem dL_law_1341 : decode cL_law 1341 = .ok (.if_icmp .eq 199, 3) := by decide +kernel
theorem dL_law_1344 : decode cL_law 1344 = .ok (.iconst 0, 1) := by decide +kernel
theorem dL_law_1345 : decode cL_law 1345 = .ok (.ireturn, 1) := by decide +kernel
theorem dL_law_1346 : decode cL_law 1346 = .ok (.aload_n 1, 1) := by decide +kernel
theorem dL_law_1347 : decode cL_law 1347 = .ok (.aload_n 0, 1) := by decide +kernel
theorem dL_law_1348 : decode cL_law 1348 = .ok (.iload_n 3, 1) := by decide +kernel
theorem dL_law_1349 : decode cL_law 1349 = .ok (.iconst 1, 1) := by decide +kernel
theorem dL_law_1350 : decode cL_law 1350 = .ok (.iadd, 1) := by decide +kernel
theorem dL_law_1351 : decode cL_law 1351 = .ok (.iaload, 1) := by decide +kernel
theorem dL_law_1352 : decode cL_law 1352 = .ok (.aload_n 0, 1) := by decide +kernel
theorem dL_law_1353 : decode cL_law 1353 = .ok (.iload_n 3, 1) := by decide +kernel
theorem dL_law_1354 : decode cL_law 1354 = .ok (.iconst 2, 1) := by decide +kernel
theorem dL_law_1355 : decode cL_law 1355 = .ok (.iadd, 1) := by decide +kernel
theorem dL_law_1356 : decode cL_law 1356 = .ok (.iaload, 1) := by decide +kernel
theorem dL_law_1357 : decode cL_law 1357 = .ok (.aload_n 0, 1) := by decide +kernel
theorem dL_law_1358 : decode cL_law 1358 = .ok (.iload_n 3, 1) := by decide +kernel
theorem dL_law_1359 : decode cL_law 1359 = .ok (.iconst 3, 1) := by decide +kernel
theorem dL_law_1360 : decode cL_law 1360 = .ok (.iadd, 1) := by decide +kernel
theorem dL_law_1361 : decode cL_law 1361 = .ok (.iaload, 1) := by decide +kernel
theorem dL_law_1362 : decode cL_law 1362 = .ok (.aload_n 0, 1) := by decide +kernel
theorem dL_law_1363 : decode cL_law 1363 = .ok (.iload_n 3, 1) := by decide +kernel
theorem dL_law_1364 : decode cL_law 1364 = .ok (.iconst 4, 1) := by decide +kernel
theorem dL_law_1365 : decode cL_law 1365 = .ok (.iadd, 1) := by decide +kernel
theorem dL_law_1366 : decode cL_law 1366 = .ok (.iaload, 1) := by decide +kernel
theorem dL_law_1367 : decode cL_law 1367 = .ok (.aload_n 0, 1) := by decide +kernel
theorem dL_law_1368 : decode cL_law 1368 = .ok (.iload_n 3, 1) := by decide +kernel
theorem dL_law_1369 : decode cL_law 1369 = .ok (.iconst 5, 1) := by decide +kernel
theorem dL_law_1370 : decode cL_law 1370 = .ok (.iadd, 1) := by decide +kernel
theorem dL_law_1371 : decode cL_law 1371 = .ok (.iaload, 1) := by decide +kernel
theorem dL_law_1372 : decode cL_law 1372 = .ok (.invokevirtual 159, 3) := by decide +kernel
theorem dL_law_1375 : decode cL_law 1375 = .ok (.aload_n 2, 1) := by decide +kernel
theorem dL_law_1376 : decode cL_law 1376 = .ok (.aload_n 0, 1) := by decide +kernel
theorem dL_law_1377 : decode cL_law 1377 = .ok (.iload_n 3, 1) := by decide +kernel
theorem dL_law_1378 : decode cL_law 1378 = .ok (.iconst 1, 1) := by decide +kernel
theorem dL_law_1379 : decode cL_law 1379 = .ok (.iadd, 1) := by decide +kernel
theorem dL_law_1380 : decode cL_law 1380 = .ok (.iaload, 1) := by decide +kernel
theorem dL_law_1381 : decode cL_law 1381 = .ok (.aload_n 0, 1) := by decide +kernel
theorem dL_law_1382 : decode cL_law 1382 = .ok (.iload_n 3, 1) := by decide +kernel
theorem dL_law_1383 : decode cL_law 1383 = .ok (.iconst 2, 1) := by decide +kernel
theorem dL_law_1384 : decode cL_law 1384 = .ok (.iadd, 1) := by decide +kernel
theorem dL_law_1385 : decode cL_law 1385 = .ok (.iaload, 1) := by decide +kernel
theorem dL_law_1386 : decode cL_law 1386 = .ok (.aload_n 0, 1) := by decide +kernel
theorem dL_law_1387 : decode cL_law 1387 = .ok (.iload_n 3, 1) := by decide +kernel
theorem dL_law_1388 : decode cL_law 1388 = .ok (.iconst 3, 1) := by decide +kernel
theorem dL_law_1389 : decode cL_law 1389 = .ok (.iadd, 1) := by decide +kernel
theorem dL_law_1390 : decode cL_law 1390 = .ok (.iaload, 1) := by decide +kernel
theorem dL_law_1391 : decode cL_law 1391 = .ok (.aload_n 0, 1) := by decide +kernel
theorem dL_law_1392 : decode cL_law 1392 = .ok (.iload_n 3, 1) := by decide +kernel
theorem dL_law_1393 : decode cL_law 1393 = .ok (.iconst 4, 1) := by decide +kernel
theorem dL_law_1394 : decode cL_law 1394 = .ok (.iadd, 1) := by decide +kernel
theorem dL_law_1395 : decode cL_law 1395 = .ok (.iaload, 1) := by decide +kernel
theorem dL_law_1396 : decode cL_law 1396 = .ok (.aload_n 0, 1) := by decide +kernel
theorem dL_law_1397 : decode cL_law 1397 = .ok (.iload_n 3, 1) := by decide +kernel
theorem dL_law_1398 : decode cL_law 1398 = .ok (.iconst 5, 1) := by decide +kernel
theorem dL_law_1399 : decode cL_law 1399 = .ok (.iadd, 1) := by decide +kernel
theorem dL_law_1400 : decode cL_law 1400 = .ok (.iaload, 1) := by decide +kernel
theorem dL_law_1401 : decode cL_law 1401 = .ok (.invokevirtual 163, 3) := by decide +kernel
theorem dL_law_1404 : decode cL_law 1404 = .ok (.if_icmp .eq 136, 3) := by decide +kernel
theorem dL_law_1407 : decode cL_law 1407 = .ok (.iconst 0, 1) := by decide +kernel
theorem dL_law_1408 : decode cL_law 1408 = .ok (.ireturn, 1) := by decide +kernel
theorem dL_law_1409 : decode cL_law 1409 = .ok (.aload_n 1, 1) := by decide +kernel
theorem dL_law_1410 : decode cL_law 1410 = .ok (.aload_n 0, 1) := by decide +kernel
theorem dL_law_1411 : decode cL_law 1411 = .ok (.iload_n 3, 1) := by decide +kernel
theorem dL_law_1412 : decode cL_law 1412 = .ok (.iconst 1, 1) := by decide +kernel
theorem dL_law_1413 : decode cL_law 1413 = .ok (.iadd, 1) := by decide +kernel
theorem dL_law_1414 : decode cL_law 1414 = .ok (.iaload, 1) := by decide +kernel
theorem dL_law_1415 : decode cL_law 1415 = .ok (.invokevirtual 164, 3) := by decide +kernel
theorem dL_law_1418 : decode cL_law 1418 = .ok (.aload_n 2, 1) := by decide +kernel
theorem dL_law_1419 : decode cL_law 1419 = .ok (.aload_n 0, 1) := by decide +kernel
theorem dL_law_1420 : decode cL_law 1420 = .ok (.iload_n 3, 1) := by decide +kernel
theorem dL_law_1421 : decode cL_law 1421 = .ok (.iconst 1, 1) := by decide +kernel
theorem dL_law_1422 : decode cL_law 1422 = .ok (.iadd, 1) := by decide +kernel
theorem dL_law_1423 : decode cL_law 1423 = .ok (.iaload, 1) := by decide +kernel
theorem dL_law_1424 : decode cL_law 1424 = .ok (.invokevirtual 167, 3) := by decide +kernel
theorem dL_law_1427 : decode cL_law 1427 = .ok (.if_icmp .eq 113, 3) := by decide +kernel
theorem dL_law_1430 : decode cL_law 1430 = .ok (.iconst 0, 1) := by decide +kernel
theorem dL_law_1431 : decode cL_law 1431 = .ok (.ireturn, 1) := by decide +kernel
theorem dL_law_1432 : decode cL_law 1432 = .ok (.aload_n 1, 1) := by decide +kernel
theorem dL_law_1433 : decode cL_law 1433 = .ok (.aload_n 0, 1) := by decide +kernel
theorem dL_law_1434 : decode cL_law 1434 = .ok (.iload_n 3, 1) := by decide +kernel
theorem dL_law_1435 : decode cL_law 1435 = .ok (.iconst 1, 1) := by decide +kernel
theorem dL_law_1436 : decode cL_law 1436 = .ok (.iadd, 1) := by decide +kernel
theorem dL_law_1437 : decode cL_law 1437 = .ok (.iaload, 1) := by decide +kernel
theorem dL_law_1438 : decode cL_law 1438 = .ok (.invokevirtual 168, 3) := by decide +kernel
theorem dL_law_1441 : decode cL_law 1441 = .ok (.aload_n 2, 1) := by decide +kernel
theorem dL_law_1442 : decode cL_law 1442 = .ok (.aload_n 0, 1) := by decide +kernel
theorem dL_law_1443 : decode cL_law 1443 = .ok (.iload_n 3, 1) := by decide +kernel
theorem dL_law_1444 : decode cL_law 1444 = .ok (.iconst 1, 1) := by decide +kernel
theorem dL_law_1445 : decode cL_law 1445 = .ok (.iadd, 1) := by decide +kernel
theorem dL_law_1446 : decode cL_law 1446 = .ok (.iaload, 1) := by decide +kernel
theorem dL_law_1447 : decode cL_law 1447 = .ok (.invokevirtual 171, 3) := by decide +kernel
theorem dL_law_1450 : decode cL_law 1450 = .ok (.if_icmp .eq 90, 3) := by decide +kernel
theorem dL_law_1453 : decode cL_law 1453 = .ok (.iconst 0, 1) := by decide +kernel
theorem dL_law_1454 : decode cL_law 1454 = .ok (.ireturn, 1) := by decide +kernel
theorem dL_law_1455 : decode cL_law 1455 = .ok (.aload_n 1, 1) := by decide +kernel
theorem dL_law_1456 : decode cL_law 1456 = .ok (.invokevirtual 172, 3) := by decide +kernel
theorem dL_law_1459 : decode cL_law 1459 = .ok (.aload_n 2, 1) := by decide +kernel
theorem dL_law_1460 : decode cL_law 1460 = .ok (.invokevirtual 175, 3) := by decide +kernel
theorem dL_law_1463 : decode cL_law 1463 = .ok (.if_icmp .eq 77, 3) := by decide +kernel
theorem dL_law_1466 : decode cL_law 1466 = .ok (.iconst 0, 1) := by decide +kernel
theorem dL_law_1467 : decode cL_law 1467 = .ok (.ireturn, 1) := by decide +kernel
theorem dL_law_1468 : decode cL_law 1468 = .ok (.aload_n 1, 1) := by decide +kernel
theorem dL_law_1469 : decode cL_law 1469 = .ok (.invokevirtual 176, 3) := by decide +kernel
theorem dL_law_1472 : decode cL_law 1472 = .ok (.aload_n 2, 1) := by decide +kernel
theorem dL_law_1473 : decode cL_law 1473 = .ok (.invokevirtual 179, 3) := by decide +kernel
theorem dL_law_1476 : decode cL_law 1476 = .ok (.if_icmp .eq 64, 3) := by decide +kernel
theorem dL_law_1479 : decode cL_law 1479 = .ok (.iconst 0, 1) := by decide +kernel
theorem dL_law_1480 : decode cL_law 1480 = .ok (.ireturn, 1) := by decide +kernel
theorem dL_law_1481 : decode cL_law 1481 = .ok (.aload_n 1, 1) := by decide +kernel
theorem dL_law_1482 : decode cL_law 1482 = .ok (.invokevirtual 180, 3) := by decide +kernel
theorem dL_law_1485 : decode cL_law 1485 = .ok (.aload_n 2, 1) := by decide +kernel
theorem dL_law_1486 : decode cL_law 1486 = .ok (.invokevirtual 183, 3) := by decide +kernel
theorem dL_law_1489 : decode cL_law 1489 = .ok (.if_icmp .eq 51, 3) := by decide +kernel
theorem dL_law_1492 : decode cL_law 1492 = .ok (.iconst 0, 1) := by decide +kernel
theorem dL_law_1493 : decode cL_law 1493 = .ok (.ireturn, 1) := by decide +kernel
theorem dL_law_1494 : decode cL_law 1494 = .ok (.aload_n 1, 1) := by decide +kernel
theorem dL_law_1495 : decode cL_law 1495 = .ok (.aload_n 0, 1) := by decide +kernel
theorem dL_law_1496 : decode cL_law 1496 = .ok (.iload_n 3, 1) := by decide +kernel
theorem dL_law_1497 : decode cL_law 1497 = .ok (.iconst 1, 1) := by decide +kernel
theorem dL_law_1498 : decode cL_law 1498 = .ok (.iadd, 1) := by decide +kernel
theorem dL_law_1499 : decode cL_law 1499 = .ok (.iaload, 1) := by decide +kernel
theorem dL_law_1500 : decode cL_law 1500 = .ok (.invokevirtual 184, 3) := by decide +kernel
theorem dL_law_1503 : decode cL_law 1503 = .ok (.aload_n 2, 1) := by decide +kernel
theorem dL_law_1504 : decode cL_law 1504 = .ok (.aload_n 0, 1) := by decide +kernel
theorem dL_law_1505 : decode cL_law 1505 = .ok (.iload_n 3, 1) := by decide +kernel
theorem dL_law_1506 : decode cL_law 1506 = .ok (.iconst 1, 1) := by decide +kernel
theorem dL_law_1507 : decode cL_law 1507 = .ok (.iadd, 1) := by decide +kernel
theorem dL_law_1508 : decode cL_law 1508 = .ok (.iaload, 1) := by decide +kernel
theorem dL_law_1509 : decode cL_law 1509 = .ok (.invokevirtual 187, 3) := by decide +kernel
theorem dL_law_1512 : decode cL_law 1512 = .ok (.if_icmp .eq 28, 3) := by decide +kernel
theorem dL_law_1515 : decode cL_law 1515 = .ok (.iconst 0, 1) := by decide +kernel
theorem dL_law_1516 : decode cL_law 1516 = .ok (.ireturn, 1) := by decide +kernel
theorem dL_law_1517 : decode cL_law 1517 = .ok (.aload_n 1, 1) := by decide +kernel
theorem dL_law_1518 : decode cL_law 1518 = .ok (.aload_n 0, 1) := by decide +kernel
theorem dL_law_1519 : decode cL_law 1519 = .ok (.iload_n 3, 1) := by decide +kernel
theorem dL_law_1520 : decode cL_law 1520 = .ok (.iconst 1, 1) := by decide +kernel
theorem dL_law_1521 : decode cL_law 1521 = .ok (.iadd, 1) := by decide +kernel
theorem dL_law_1522 : decode cL_law 1522 = .ok (.iaload, 1) := by decide +kernel
theorem dL_law_1523 : decode cL_law 1523 = .ok (.invokevirtual 188, 3) := by decide +kernel
theorem dL_law_1526 : decode cL_law 1526 = .ok (.aload_n 2, 1) := by decide +kernel
theorem dL_law_1527 : decode cL_law 1527 = .ok (.aload_n 0, 1) := by decide +kernel
theorem dL_law_1528 : decode cL_law 1528 = .ok (.iload_n 3, 1) := by decide +kernel
theorem dL_law_1529 : decode cL_law 1529 = .ok (.iconst 1, 1) := by decide +kernel
theorem dL_law_1530 : decode cL_law 1530 = .ok (.iadd, 1) := by decide +kernel
theorem dL_law_1531 : decode cL_law 1531 = .ok (.iaload, 1) := by decide +kernel
theorem dL_law_1532 : decode cL_law 1532 = .ok (.invokevirtual 191, 3) := by decide +kernel
theorem dL_law_1535 : decode cL_law 1535 = .ok (.if_icmp .eq 5, 3) := by decide +kernel
theorem dL_law_1538 : decode cL_law 1538 = .ok (.iconst 0, 1) := by decide +kernel
theorem dL_law_1539 : decode cL_law 1539 = .ok (.ireturn, 1) := by decide +kernel
theorem dL_law_1540 : decode cL_law 1540 = .ok (.iinc 3 6, 3) := by decide +kernel
theorem dL_law_1543 : decode cL_law 1543 = .ok (.goto (-1525), 3) := by decide +kernel
theorem dL_law_1546 : decode cL_law 1546 = .ok (.iconst 1, 1) := by decide +kernel
theorem dL_law_1547 : decode cL_law 1547 = .ok (.ireturn, 1) := by decide +kernel
end
section
/-! memory, guards, worlds -/
abbrev Mem : Type := Nat → Nat → Int32
def upA (M : Mem) (k : Nat) (f : Nat → Int32) : Mem := fun a => if a = k then f else M a
def up (M : Mem) (k j : Nat) (v : Int32) : Mem := upA M k (upd (M k) j v)
def gd {α : Type} (b : Bool) (o : Option α) : Option α := match b with
  | true => o
  | false => none
def inb (i : Int32) (n : Nat) : Bool := !(decide (i < 0)) && decide (i.toNatClampNeg < n)
theorem inb_vp {i : Int32} {n : Nat} (h : inb i n = true) : vp_in i n := by
  simp only [inb, Bool.and_eq_true, Bool.not_eq_true', decide_eq_false_iff_not, decide_eq_true_eq] at h
  intro q
  rcases q with q | q
  · exact h.1 q
  · omega
theorem gd_some {α : Type} {b : Bool} {o : Option α} {x : α} (h : gd b o = some x) : b = true ∧ o = some x := by
  cases b with
  | true => exact ⟨rfl, h⟩
  | false => cases h
abbrev Gh : Type := va_G × (Nat → Nat) × (Nat → Nat) × (Nat → Nat) × (Nat × Nat) × ClassId × ClassId × ClassId
abbrev gD (g : Gh) : va_G := g.1
abbrev gA (g : Gh) : Nat → Nat := g.2.1
abbrev gS (g : Gh) : Nat → Nat := g.2.2.1
abbrev gV (g : Gh) : Nat → Nat := g.2.2.2.1
abbrev gP (g : Gh) : Nat × Nat := g.2.2.2.2.1
abbrev gI (g : Gh) : ClassId := g.2.2.2.2.2.1
abbrev gH (g : Gh) : ClassId := g.2.2.2.2.2.2.1
abbrev gT (g : Gh) : ClassId := g.2.2.2.2.2.2.2
def ar (g : Gh) (n : Nat) : (Nat → Int32) → va_E := fun f => .inl (gI g, n, .inl f)
def hdV (g : Gh) (f : Nat → Int32) : List Value := [.ref (gA g 1), .ref (gA g 13), .ref (gA g 25), .int (f 3), .ref (gA g 37), .ref (gA g 39), .ref (gA g 48)]
def shV (g : Gh) (b : Nat) (f : Nat → Int32) : List Value := [.int (f 0), .int (f 1), .int (f 2), .int (f 3), .ref (gA g (b + 1)), .ref (gA g (b + 2)), .ref (gA g (b + 3)), .ref (gA g (b + 4)), .ref (gA g (b + 5)), .ref (gA g (b + 6)), .ref (gA g (b + 7)), .ref (gA g (b + 8)), .ref (gA g (b + 9)), .ref (gA g (b + 10)), .ref (gA g (b + 11))]
def rdV (g : Gh) (f : Nat → Int32) : List Value := [.ref (gA g 38), .int (f 1), .int (f 2), .int (f 3), .int (f 4), .int (f 5)]
def stV (g : Gh) (b : Nat) (f : Nat → Int32) : List Value := [.int (f 0), .int (f 1), .ref (gA g (b + 1))]
def mdV (g : Gh) (f : Nat → Int32) : List Value := [.ref (gA g 50), .ref (gA g 51), .ref (gA g 52), .int (f 3), .ref (gA g 53), .ref (gA g 54), .ref (gA g 55), .ref (gA g 56), .ref (gA g 57), .ref (gA g 58), .ref (gA g 59), .int (f 11), .int (f 12), .int (f 13), .int (f 14), .int (f 15), .int (f 16), .ref (gA g 60), .ref (gA g 61), .int (f 19), .int (f 20), .ref (gA g 62), .ref (gA g 63), .ref (gA g 64), .ref (gA g 65)]
def shtA (g : Gh) : (Nat → Int32) → va_E := fun _ => .inl (gH g, 4, .inr (.inr (.inr (.inr (fun i => some (gA g (40 + 2 * i)))))))
def knA (g : Gh) : (Nat → Int32) → va_E := fun _ => .inl (gT g, 7, .inr (.inr (.inr (.inr (fun i => some (gS g i))))))
def shO (g : Gh) (b : Nat) : (Nat → Int32) → va_E := fun f => .inr (2, shV g b f)
def shL (g : Gh) (b : Nat) : List ((Nat → Int32) → va_E) := [shO g b, ar g 10, ar g 8, ar g 8, ar g 8, ar g 8, ar g 8, ar g 8, ar g 8, ar g 8, ar g 12, ar g 12]
def stL2 (g : Gh) (b : Nat) : List ((Nat → Int32) → va_E) := [fun f => .inr (1, stV g b f), ar g 40]
def cfL (g : Gh) : List ((Nat → Int32) → va_E) := (fun f => .inr (3, hdV g f)) :: (shL g 1 ++ (shL g 13 ++ (shL g 25 ++ ((fun f => .inr (0, rdV g f)) :: ar g 120 :: shtA g :: (stL2 g 40 ++ (stL2 g 42 ++ (stL2 g 44 ++ (stL2 g 46 ++ (ar g 7 :: (fun f => .inr (4, mdV g f)) :: [ar g 62, ar g 62, ar g 62, ar g 8, ar g 4, ar g 8, ar g 8, ar g 8, ar g 8, ar g 120, knA g, ar g 600, ar g 4, ar g 4, ar g 160, ar g 40])))))))))
def cf (g : Gh) (k : Nat) : (Nat → Int32) → va_E := (cfL g).getD k (ar g 0)
def wd (g : Gh) (M : Mem) : va_W := (List.range 66).map fun k => (gA g k, cf g k (M k))
def Aw (g : Gh) : Nat → Prop := fun q => ∃ k, k < 66 ∧ q = gA g k
def Inj (g : Gh) : Prop := ∀ i j, i < 66 → j < 66 → gA g i = gA g j → i = j
def tysG (g : Gh) : List (ClassId × FieldType) := [(gI g, .int), (gH g, .object "HillDance$Sheet"), (gT g, .object "java/lang/String")]
theorem wd_get {g : Gh} {M : Mem} {k : Nat} (h : k < 66) : (wd g M)[k]? = some (gA g k, cf g k (M k)) := by
  simp [wd, List.getElem?_map, List.getElem?_range h]
theorem wd_lt {g : Gh} {M : Mem} {k : Nat} {q : Nat × va_E} (h : (wd g M)[k]? = some q) : k < 66 ∧ q = (gA g k, cf g k (M k)) := by
  have h1 : k < (wd g M).length := (List.getElem?_eq_some_iff.mp h).1
  have h2 : k < 66 := by simpa [wd] using h1
  rw [wd_get h2] at h
  exact ⟨h2, (Option.some.inj h).symm⟩
theorem wd_set {g : Gh} {M : Mem} {k : Nat} {f : Nat → Int32} (h : k < 66) : (wd g M).set k (gA g k, cf g k f) = wd g (upA M k f) := by
  apply List.ext_getElem?
  intro i
  rw [List.getElem?_set]
  by_cases hi : k = i
  · subst hi
    have hl : k < (wd g M).length := by simpa [wd] using h
    rw [if_pos rfl, if_pos hl, wd_get h]
    simp [upA]
  · rw [if_neg hi]
    by_cases h6 : i < 66
    · rw [wd_get h6, wd_get h6]
      simp [upA, Ne.symm hi]
    · have e1 : (wd g M)[i]? = none := by rw [List.getElem?_eq_none_iff]; simp [wd]; omega
      have e2 : (wd g (upA M k f))[i]? = none := by rw [List.getElem?_eq_none_iff]; simp [wd]; omega
      rw [e1, e2]
theorem wd_D {g : Gh} {M : Mem} (h : Inj g) : va_D (Aw g) (wd g M) := by
  refine ⟨fun i j p q hp hq e => ?_, fun k q hk => ?_⟩
  · obtain ⟨h1, rfl⟩ := wd_lt hp
    obtain ⟨h2, rfl⟩ := wd_lt hq
    exact h i j h1 h2 e
  · obtain ⟨h1, rfl⟩ := wd_lt hk
    exact ⟨k, h1, rfl⟩
/-! words -/
def BG : List Cond := lw_tbl.filter goodWord
theorem mem_T {w : Cond} {i : Nat} (h : tables_1[i]? = some w) (hg : goodWord w = true) : w ∈ BG := List.mem_filter.mpr ⟨List.mem_append_right _ (List.mem_of_getElem? h), hg⟩
theorem mem_P {w : Cond} {i : Nat} (h : (k2_sels lw_privs)[i]? = some w) (hg : goodWord w = true) : w ∈ BG := List.mem_filter.mpr ⟨List.mem_append_left _ (List.mem_of_getElem? h), hg⟩
theorem good_BG {w : Cond} (hw : w ∈ BG) : GoodIn BG (w :: BG) := by
  intro v hv
  have h1 : v ∈ BG := by
    rcases List.mem_cons.mp hv with e | e
    · rw [e]; exact hw
    · exact e
  exact ⟨h1, good_of_word (List.mem_filter.mp h1).2⟩
def rmD (d : Nat) : Room := { frames := d, cells := 0, slots := 0, locals := 64 * d }
/-! what stands from the start: static rows, texts, links between nest mates -/
def foT (j : Nat) : Int32 := ([0, 1, 6, 11] : List Int32).getD j 0
def kaT (j : Nat) : Int32 := ([-1, 0, 0, 2, 3, 0, 1] : List Int32).getD j 0
def txL : List Nat := [4, 5, 7, 4, 4, 5, 5, 4, 2, 4, 4, 4]
def txB : List (List Int32) := [[104, 105, 108, 108], [114, 105, 100, 103, 101], [112, 97, 114, 116, 110, 101, 114], [116, 119, 105, 110], [102, 101, 117, 100], [115, 116, 111, 110, 101], [115, 99, 97, 114, 112], [114, 97, 105, 110], [97, 116], [115, 116, 101, 112], [116, 117, 114, 110], [104, 105, 103, 104]]
def nfs : List (String × Nat × String × String × String) := [("HillDance", 48, "HillDance$Shire", "rainfall", "I"), ("HillDance$Reader", 48, "HillDance$Shire", "rainfall", "I"), ("HillDance", 101, "HillDance$Shire", "age", "I"), ("HillDance", 191, "HillDance$Shire", "z", "I"), ("HillDance", 246, "HillDance$Shire", "hills", "I"), ("HillDance", 204, "HillDance$Shire", "spots", "[I"), ("HillDance", 194, "HillDance$Reader", "length", "I"), ("HillDance", 227, "HillDance$Sheet", "bits", "I"), ("HillDance", 217, "HillDance$Sheet", "length", "I"), ("HillDance", 233, "HillDance$Sheet", "numbers", "[I"), ("HillDance$Shire", 73, "HillDance", "FURTHER_ON", "[I")]
def nms : List (String × Nat × MethodName) := [("HillDance$Shire", 83, yX3_waysOn), ("HillDance$Reader", 77, yX3_mostOf)]
def sts : List (String × Nat × String × Nat) := [("HillDance$Reader", 89, "hill", 0), ("HillDance$Reader", 91, "ridge", 1), ("HillDance$Reader", 93, "partner", 2), ("HillDance$Reader", 95, "twin", 3), ("HillDance$Reader", 97, "feud", 4), ("HillDance$Reader", 99, "stone", 5), ("HillDance$Reader", 101, "scarp", 6), ("HillDance$Reader", 35, "rain", 7), ("HillDance$Reader", 65, "at", 8), ("HillDance$Reader", 71, "step", 9), ("HillDance$Reader", 73, "turn", 10), ("HillDance$Reader", 75, "high", 11), ("HillDanceModel", 321, "rain", 7), ("HillDanceModel", 305, "at", 8), ("HillDanceModel", 297, "step", 9), ("HillDanceModel", 313, "turn", 10), ("HillDanceModel", 315, "high", 11)]
def Fx (g : Gh) (U : State) (H : Heap) : Prop :=
  (va_Z "HillDance" "FURTHER_ON" "[I" (.ref (gP g).1) (Aw g) U H ∧ va_T .int (gP g).1 4 (fun j => .int (foT j)) (Aw g) U H) ∧
  (va_Z "HillDance" "KIND_ABOVE" "[I" (.ref (gP g).2) (Aw g) U H ∧ va_T .int (gP g).2 7 (fun j => .int (kaT j)) (Aw g) U H) ∧
  va_Z "java/lang/String" "COMPACT_STRINGS" "Z" (.int 1) (Aw g) U H ∧
  va_Zq "jdk/internal/util/Preconditions" "SIOOBE_FORMATTER" "Ljava/util/function/BiFunction;" (Aw g) U H ∧
  vk_S 12 txL txB (gS g) (gV g) (Aw g) U H ∧
  (∀ q ∈ nfs, va_Nw (.fieldLinkNest q.1 q.2.1 q.2.2.1 q.2.2.2.1 q.2.2.2.2 "HillDance") U) ∧
  (∀ q ∈ nms, va_Nw (.methodLinkNest q.1 q.2.1 q.2.2 "HillDance") U) ∧
  (∀ q ∈ sts, vk_R q.1 q.2.1 q.2.2.1 (gS g q.2.2.2) U)
theorem Zq_kept {C n d : String} {A : Nat → Prop} {U : State} {H H1 : Heap} (h : va_Zq C n d A U H) (hq : ∀ a : Nat, a < H.size → ¬ A a → H1[a]? = H[a]?) : va_Zq C n d A U H1 := by
  rcases h with h | ⟨t, h⟩
  · exact Or.inl (h.kept hq)
  · exact Or.inr ⟨t, h.kept hq⟩
theorem Zq_moved {C n d : String} {A : Nat → Prop} {u U : State} {H : Heap} (hvm : u.vm.Alike U.vm) (h : va_Zq C n d A u H) : va_Zq C n d A U H := by
  rcases h with h | ⟨t, h⟩
  · exact Or.inl (h.moved hvm)
  · exact Or.inr ⟨t, h.moved hvm⟩
theorem Fx.kept {g : Gh} {U : State} {H H1 : Heap} (h : Fx g U H) (hq : ∀ a : Nat, a < H.size → ¬ Aw g a → H1[a]? = H[a]?) : Fx g U H1 := by
  obtain ⟨⟨h1, h2⟩, ⟨h3, h4⟩, h5, h6, h7, h8⟩ := h
  exact ⟨⟨h1.kept hq, h2.kept hq⟩, ⟨h3.kept hq, h4.kept hq⟩, h5.kept hq, Zq_kept h6 hq, h7.kept hq, h8⟩
theorem Fx.warm {g : Gh} {s U : State} {H : Heap} (hW : s.WarmedH U.vm) (h : Fx g s H) : Fx g U H := by
  have ha := hW.alike
  obtain ⟨⟨h1, h2⟩, ⟨h3, h4⟩, h5, h6, h7, h8, h9, h10⟩ := h
  exact ⟨⟨h1.moved ha, h2.moved ha⟩, ⟨h3.moved ha, h4.moved ha⟩, h5.moved ha, Zq_moved ha h6, h7.moved ha, fun q hq => (h8 q hq).warmF hW, fun q hq => (h9 q hq).warmM hW, fun q hq => (h10 q hq).warm hW⟩
theorem Fx.same {g : Gh} {s U : State} {H : Heap} (hv : s.vm = U.vm) (h : Fx g s H) : Fx g U H := by
  have ha : s.vm.Alike U.vm := by rw [hv]; exact Vm.Alike.refl _
  obtain ⟨⟨h1, h2⟩, ⟨h3, h4⟩, h5, h6, h7, h8, h9, h10⟩ := h
  exact ⟨⟨h1.moved ha, h2.moved ha⟩, ⟨h3.moved ha, h4.moved ha⟩, h5.moved ha, Zq_moved ha h6, h7.moved ha, fun q hq => (h8 q hq).same rfl hv, fun q hq => (h9 q hq).same rfl hv, fun q hq => (h10 q hq).same hv.symm⟩
def Wo (g : Gh) (M : Mem) (U : State) : Prop := va_P (gD g) vwCl (wd g M) U.heap ∧ va_K (gD g) vwCl (tysG g) U ∧ Inj g ∧ Fx g U U.heap
theorem wo_blind {g : Gh} {M : Mem} {av : List Value} : FrameBlind (va_Pc av (Wo g M)) := by
  intro a U f mk q
  obtain ⟨q0, q1, q2, q3, q4⟩ := q
  exact ⟨q0, q1, va_K.moved (u := U) (U := U.calling f mk a) (Vm.Alike.refl U.vm) q2, q3, Fx.same (s := U) (U := U.calling f mk a) rfl q4⟩
/-! contracts -/
def QI (g : Gh) (x : Int32 × Mem) : Array Value → State → Outcome → State → Prop := va_Qi (fun (r : Int32) (u : Mem) => r = x.1 ∧ u = x.2) (fun u t => Wo g u t) (Aw g)
def QL (g : Gh) (x : Int64 × Mem) : Array Value → State → Outcome → State → Prop := va_Ql (fun (r : Int64) (u : Mem) => r = x.1 ∧ u = x.2) (fun u t => Wo g u t) (Aw g)
def QV (g : Gh) (x : Mem) : Array Value → State → Outcome → State → Prop := va_Qv (fun (u : Mem) => u = x) (fun u t => Wo g u t) (Aw g)
def QR (g : Gh) (x : Nat × Mem) : Array Value → State → Outcome → State → Prop := va_Qr (fun (u : Mem) => u = x.2) (fun u a t => a = gS g x.1 ∧ Wo g u t) (Aw g)
def wsM (y : MethodName) (cc : ByteArray) (mL : Nat) (rt : Option FieldType) : List Cond := .code y cc mL rt :: BG
def CtI (l : Launch) (g : Gh) (y : MethodName) (cc : ByteArray) (mL : Nat) (rt : Option FieldType) (d : Nat) (av : List Value) (M : Mem) (o : Option (Int32 × Mem)) : Prop := ∀ x, o = some x → Met l y (wsM y cc mL rt) (rmD d) (va_Pc av (Wo g M)) (QI g x) 0 0 (Aw g)
def CtL (l : Launch) (g : Gh) (y : MethodName) (cc : ByteArray) (mL : Nat) (rt : Option FieldType) (d : Nat) (av : List Value) (M : Mem) (o : Option (Int64 × Mem)) : Prop := ∀ x, o = some x → Met l y (wsM y cc mL rt) (rmD d) (va_Pc av (Wo g M)) (QL g x) 0 0 (Aw g)
def CtV (l : Launch) (g : Gh) (y : MethodName) (cc : ByteArray) (mL : Nat) (rt : Option FieldType) (d : Nat) (av : List Value) (M : Mem) (o : Option Mem) : Prop := ∀ x, o = some x → Met l y (wsM y cc mL rt) (rmD d) (va_Pc av (Wo g M)) (QV g x) 0 0 (Aw g)
def CtR (l : Launch) (g : Gh) (y : MethodName) (cc : ByteArray) (mL : Nat) (rt : Option FieldType) (d : Nat) (av : List Value) (M : Mem) (o : Option (Nat × Mem)) : Prop := ∀ x, o = some x → Met l y (wsM y cc mL rt) (rmD d) (va_Pc av (Wo g M)) (QR g x) 0 0 (Aw g)
/-- the method's own ground -/
def Cx (p : Program) (l : Launch) (e : Env) (R : Room) (s : State) (m : MethodId) (args : Array Value) (below : List Frame) (meth : Method) (c : Code) (g : Gh) (cc : ByteArray) (nL : Nat) (own : String) (d : Nat) : Prop :=
  p.tables.exec = Jvm.exec ∧ c.code = cc ∧ c.maxLocals = nL ∧ s.vm.findClass own = some m.cls ∧ (∀ w ∈ BG, w.before args s = true) ∧ va_K (gD g) vwCl (tysG g) s ∧ Inj g ∧ Fx g s s.heap ∧ d ≤ R.frames ∧ 64 * d ≤ R.locals ∧ meth.locks = false
/-- from here on, if the picture says what comes, the machine comes to it -/
def J (p : Program) (l : Launch) (e : Env) (R : Room) (s : State) (m : MethodId) (args : Array Value) (below : List Frame) (meth : Method) (c : Code) (g : Gh) (nL : Nat) {α : Type} (Qf : α → State → Prop) (o : Option α) (M : Mem) (pc : Nat) (L : List (Nat × Value)) (st : List Value) : Prop :=
  ∀ x, o = some x → ∀ (H : Heap) (locs : List Loc) (ls : Array Slot), va_P (gD g) vwCl (wd g M) H → va_S (Aw g) s.heap H locs → lv_has ls nL L → W p l e R s m args below meth c H locs 0 0 (Qf x) (F0 m pc ls st)
def ll : List (Nat × Value) → Nat → Option Value
  | [], _ => none
  | (a, v) :: r, i => bif Nat.beq a i then some v else ll r i
theorem ll_mem {L : List (Nat × Value)} {i : Nat} {v : Value} (h : ll L i = some v) : (i, v) ∈ L := by
  induction L with
  | nil => cases h
  | cons q r ih =>
    obtain ⟨a, w⟩ := q
    simp only [ll] at h
    cases hb : Nat.beq a i with
    | true =>
      rw [hb] at h
      have e1 : a = i := Nat.eq_of_beq_eq_true hb
      have e2 : w = v := Option.some.inj h
      subst e1; subst e2
      exact List.mem_cons_self
    | false =>
      rw [hb] at h
      exact List.mem_cons_of_mem _ (ih h)
def lput : List (Nat × Value) → Nat → Value → List (Nat × Value)
  | [], i, v => [(i, v)]
  | (a, w) :: r, i, v => bif Nat.blt i a then (i, v) :: (a, w) :: r else (a, w) :: lput r i v
theorem lput_mem {L : List (Nat × Value)} {i : Nat} {v : Value} : ∀ q ∈ lput L i v, q = (i, v) ∨ q ∈ L := by
  induction L with
  | nil =>
    intro q hq
    exact Or.inl (List.mem_singleton.mp hq)
  | cons z r ih =>
    obtain ⟨a, w⟩ := z
    intro q hq
    simp only [lput] at hq
    cases hb : Nat.blt i a with
    | true =>
      rw [hb] at hq
      exact List.mem_cons.mp hq
    | false =>
      rw [hb] at hq
      rcases List.mem_cons.mp hq with e | e
      · exact Or.inr (by rw [e]; exact List.mem_cons_self)
      · rcases ih q e with h | h
        · exact Or.inl h
        · exact Or.inr (List.mem_cons_of_mem _ h)
def lset (L : List (Nat × Value)) (i : Nat) (v : Value) : List (Nat × Value) := lput (L.filter (fun q => !(q.1 == i) && !(q.1 + 1 == i && q.2.category == 2))) i v
def lset2 (L : List (Nat × Value)) (i : Nat) (v : Value) : List (Nat × Value) := lput (L.filter (fun q => !(q.1 == i) && (!(q.1 == i + 1) && !(q.1 + 1 == i && q.2.category == 2)))) i v
theorem lset_has {ls : Array Slot} {nL i : Nat} {L L' : List (Nat × Value)} {v : Value} (h : lv_has ls nL ((i, v) :: L.filter (fun q => !(q.1 == i) && !(q.1 + 1 == i && q.2.category == 2)))) (e : lset L i v = L') : lv_has ls nL L' := by
  subst e
  refine ⟨h.1, h.2.1, fun q hq => h.2.2 q ?_⟩
  rcases lput_mem q hq with h1 | h1
  · rw [h1]; exact List.mem_cons_self
  · exact List.mem_cons_of_mem _ h1
theorem lset2_has {ls : Array Slot} {nL i : Nat} {L L' : List (Nat × Value)} {v : Value} (h : lv_has ls nL ((i, v) :: L.filter (fun q => !(q.1 == i) && (!(q.1 == i + 1) && !(q.1 + 1 == i && q.2.category == 2))))) (e : lset2 L i v = L') : lv_has ls nL L' := by
  subst e
  refine ⟨h.1, h.2.1, fun q hq => h.2.2 q ?_⟩
  rcases lput_mem q hq with h1 | h1
  · rw [h1]; exact List.mem_cons_self
  · exact List.mem_cons_of_mem _ h1
end
section
section JR
variable {p : Program} {l : Launch} {e : Env} {R : Room} {s : State} {m : MethodId} {args : Array Value} {below : List Frame} {meth : Method} {c : Code} {g : Gh} {nL : Nat} {α : Type} {Qf : α → State → Prop} {o o1 o2 : Option α} {M : Mem} {pc : Nat} {L Lq : List (Nat × Value)} {st : List Value} {cc : ByteArray} {own : String} {d : Nat}
theorem j_iadd {x y : Int32} (X : Cx p l e R s m args below meth c g cc nL own d) (hd : decode cc pc = .ok (.iadd, 1))  (k : J p l e R s m args below meth c g nL Qf o M (pc + 1) L (.int (x + y) :: st)) : J p l e R s m args below meth c g nL Qf o M pc L (.int y :: .int x :: st) := fun v hv H locs ls hP hS hl => lv_iadd X.1 X.2.1 hd  (k v hv H locs ls hP hS hl)
theorem j_isub {x y : Int32} (X : Cx p l e R s m args below meth c g cc nL own d) (hd : decode cc pc = .ok (.isub, 1))  (k : J p l e R s m args below meth c g nL Qf o M (pc + 1) L (.int (x - y) :: st)) : J p l e R s m args below meth c g nL Qf o M pc L (.int y :: .int x :: st) := fun v hv H locs ls hP hS hl => lv_isub X.1 X.2.1 hd  (k v hv H locs ls hP hS hl)
theorem j_imul {x y : Int32} (X : Cx p l e R s m args below meth c g cc nL own d) (hd : decode cc pc = .ok (.imul, 1))  (k : J p l e R s m args below meth c g nL Qf o M (pc + 1) L (.int (x * y) :: st)) : J p l e R s m args below meth c g nL Qf o M pc L (.int y :: .int x :: st) := fun v hv H locs ls hP hS hl => lv_imul X.1 X.2.1 hd  (k v hv H locs ls hP hS hl)
theorem j_iand {x y : Int32} (X : Cx p l e R s m args below meth c g cc nL own d) (hd : decode cc pc = .ok (.iand, 1))  (k : J p l e R s m args below meth c g nL Qf o M (pc + 1) L (.int (x &&& y) :: st)) : J p l e R s m args below meth c g nL Qf o M pc L (.int y :: .int x :: st) := fun v hv H locs ls hP hS hl => lv_iand X.1 X.2.1 hd  (k v hv H locs ls hP hS hl)
theorem j_ior {x y : Int32} (X : Cx p l e R s m args below meth c g cc nL own d) (hd : decode cc pc = .ok (.ior, 1))  (k : J p l e R s m args below meth c g nL Qf o M (pc + 1) L (.int (x ||| y) :: st)) : J p l e R s m args below meth c g nL Qf o M pc L (.int y :: .int x :: st) := fun v hv H locs ls hP hS hl => lv_ior X.1 X.2.1 hd  (k v hv H locs ls hP hS hl)
theorem j_ixor {x y : Int32} (X : Cx p l e R s m args below meth c g cc nL own d) (hd : decode cc pc = .ok (.ixor, 1))  (k : J p l e R s m args below meth c g nL Qf o M (pc + 1) L (.int (x ^^^ y) :: st)) : J p l e R s m args below meth c g nL Qf o M pc L (.int y :: .int x :: st) := fun v hv H locs ls hP hS hl => lv_ixor X.1 X.2.1 hd  (k v hv H locs ls hP hS hl)
theorem j_ishl {x y : Int32} (X : Cx p l e R s m args below meth c g cc nL own d) (hd : decode cc pc = .ok (.ishl, 1))  (k : J p l e R s m args below meth c g nL Qf o M (pc + 1) L (.int (x <<< (y &&& 31)) :: st)) : J p l e R s m args below meth c g nL Qf o M pc L (.int y :: .int x :: st) := fun v hv H locs ls hP hS hl => lv_ishl X.1 X.2.1 hd  (k v hv H locs ls hP hS hl)
theorem j_ishr {x y : Int32} (X : Cx p l e R s m args below meth c g cc nL own d) (hd : decode cc pc = .ok (.ishr, 1))  (k : J p l e R s m args below meth c g nL Qf o M (pc + 1) L (.int (x >>> (y &&& 31)) :: st)) : J p l e R s m args below meth c g nL Qf o M pc L (.int y :: .int x :: st) := fun v hv H locs ls hP hS hl => lv_ishr X.1 X.2.1 hd  (k v hv H locs ls hP hS hl)
theorem j_iushr {x y : Int32} (X : Cx p l e R s m args below meth c g cc nL own d) (hd : decode cc pc = .ok (.iushr, 1))  (k : J p l e R s m args below meth c g nL Qf o M (pc + 1) L (.int ((x.toUInt32 >>> (y.toUInt32 &&& Int32.toUInt32 31)).toInt32) :: st)) : J p l e R s m args below meth c g nL Qf o M pc L (.int y :: .int x :: st) := fun v hv H locs ls hP hS hl => lv_iushr X.1 X.2.1 hd rfl (k v hv H locs ls hP hS hl)
theorem j_ineg {x : Int32} (X : Cx p l e R s m args below meth c g cc nL own d) (hd : decode cc pc = .ok (.ineg, 1))  (k : J p l e R s m args below meth c g nL Qf o M (pc + 1) L (.int (-x) :: st)) : J p l e R s m args below meth c g nL Qf o M pc L (.int x :: st) := fun v hv H locs ls hP hS hl => lv_ineg X.1 X.2.1 hd  (k v hv H locs ls hP hS hl)
theorem j_i2b {x : Int32} (X : Cx p l e R s m args below meth c g cc nL own d) (hd : decode cc pc = .ok (.i2b, 1))  (k : J p l e R s m args below meth c g nL Qf o M (pc + 1) L (.int x.toInt8.toInt32 :: st)) : J p l e R s m args below meth c g nL Qf o M pc L (.int x :: st) := fun v hv H locs ls hP hS hl => lv_i2b X.1 X.2.1 hd rfl (k v hv H locs ls hP hS hl)
theorem j_i2s {x : Int32} (X : Cx p l e R s m args below meth c g cc nL own d) (hd : decode cc pc = .ok (.i2s, 1))  (k : J p l e R s m args below meth c g nL Qf o M (pc + 1) L (.int x.toInt16.toInt32 :: st)) : J p l e R s m args below meth c g nL Qf o M pc L (.int x :: st) := fun v hv H locs ls hP hS hl => lv_i2s X.1 X.2.1 hd rfl (k v hv H locs ls hP hS hl)
theorem j_i2c {x : Int32} (X : Cx p l e R s m args below meth c g cc nL own d) (hd : decode cc pc = .ok (.i2c, 1))  (k : J p l e R s m args below meth c g nL Qf o M (pc + 1) L (.int (x.toUInt32 % 65536).toInt32 :: st)) : J p l e R s m args below meth c g nL Qf o M pc L (.int x :: st) := fun v hv H locs ls hP hS hl => lv_i2c X.1 X.2.1 hd rfl (k v hv H locs ls hP hS hl)
theorem j_i2l {x : Int32} (X : Cx p l e R s m args below meth c g cc nL own d) (hd : decode cc pc = .ok (.i2l, 1))  (k : J p l e R s m args below meth c g nL Qf o M (pc + 1) L (.long x.toInt64 :: st)) : J p l e R s m args below meth c g nL Qf o M pc L (.int x :: st) := fun v hv H locs ls hP hS hl => lv_i2l X.1 X.2.1 hd rfl (k v hv H locs ls hP hS hl)
theorem j_ladd {x y : Int64} (X : Cx p l e R s m args below meth c g cc nL own d) (hd : decode cc pc = .ok (.ladd, 1))  (k : J p l e R s m args below meth c g nL Qf o M (pc + 1) L (.long (x + y) :: st)) : J p l e R s m args below meth c g nL Qf o M pc L (.long y :: .long x :: st) := fun v hv H locs ls hP hS hl => lv_ladd X.1 X.2.1 hd  (k v hv H locs ls hP hS hl)
theorem j_lmul {x y : Int64} (X : Cx p l e R s m args below meth c g cc nL own d) (hd : decode cc pc = .ok (.lmul, 1))  (k : J p l e R s m args below meth c g nL Qf o M (pc + 1) L (.long (x * y) :: st)) : J p l e R s m args below meth c g nL Qf o M pc L (.long y :: .long x :: st) := fun v hv H locs ls hP hS hl => lv_lmul X.1 X.2.1 hd  (k v hv H locs ls hP hS hl)
theorem j_dup {va : Value} (X : Cx p l e R s m args below meth c g cc nL own d) (hd : decode cc pc = .ok (.dup, 1)) (hva : va.category = 1) (k : J p l e R s m args below meth c g nL Qf o M (pc + 1) L (va :: va :: st)) : J p l e R s m args below meth c g nL Qf o M pc L (va :: st) := fun v hv H locs ls hP hS hl => lv_dup X.1 X.2.1 hd hva (k v hv H locs ls hP hS hl)
theorem j_pop {va : Value} (X : Cx p l e R s m args below meth c g cc nL own d) (hd : decode cc pc = .ok (.pop, 1)) (hva : va.category = 1) (k : J p l e R s m args below meth c g nL Qf o M (pc + 1) L st) : J p l e R s m args below meth c g nL Qf o M pc L (va :: st) := fun v hv H locs ls hP hS hl => lv_pop X.1 X.2.1 hd hva (k v hv H locs ls hP hS hl)
theorem j_dup2 {va vb : Value} (X : Cx p l e R s m args below meth c g cc nL own d) (hd : decode cc pc = .ok (.dup2, 1)) (hva : va.category = 1) (hvb : vb.category = 1) (k : J p l e R s m args below meth c g nL Qf o M (pc + 1) L (va :: vb :: va :: vb :: st)) : J p l e R s m args below meth c g nL Qf o M pc L (va :: vb :: st) := fun v hv H locs ls hP hS hl => lv_dup2_11 X.1 X.2.1 hd hva hvb (k v hv H locs ls hP hS hl)
theorem j_idiv {x y : Int32} (X : Cx p l e R s m args below meth c g cc nL own d) (hd : decode cc pc = .ok (.idiv, 1)) (k : J p l e R s m args below meth c g nL Qf o M (pc + 1) L (.int (x / y) :: st)) : J p l e R s m args below meth c g nL Qf (gd (!(y == 0)) o) M pc L (.int y :: .int x :: st) := fun v hv H locs ls hP hS hl => lv_idiv X.1 X.2.1 hd (by have h := (gd_some hv).1; simpa using h) (k v (gd_some hv).2 H locs ls hP hS hl)
theorem j_idivc {x y : Int32} (X : Cx p l e R s m args below meth c g cc nL own d) (hd : decode cc pc = .ok (.idiv, 1)) (hy : ¬ y = 0) (k : J p l e R s m args below meth c g nL Qf o M (pc + 1) L (.int (x / y) :: st)) : J p l e R s m args below meth c g nL Qf o M pc L (.int y :: .int x :: st) := fun v hv H locs ls hP hS hl => lv_idiv X.1 X.2.1 hd hy (k v hv H locs ls hP hS hl)
theorem j_irem {x y : Int32} (X : Cx p l e R s m args below meth c g cc nL own d) (hd : decode cc pc = .ok (.irem, 1)) (k : J p l e R s m args below meth c g nL Qf o M (pc + 1) L (.int (x - x / y * y) :: st)) : J p l e R s m args below meth c g nL Qf (gd (!(y == 0)) o) M pc L (.int y :: .int x :: st) := fun v hv H locs ls hP hS hl => lv_irem X.1 X.2.1 hd (by have h := (gd_some hv).1; simpa using h) (k v (gd_some hv).2 H locs ls hP hS hl)
theorem j_iremc {x y : Int32} (X : Cx p l e R s m args below meth c g cc nL own d) (hd : decode cc pc = .ok (.irem, 1)) (hy : ¬ y = 0) (k : J p l e R s m args below meth c g nL Qf o M (pc + 1) L (.int (x - x / y * y) :: st)) : J p l e R s m args below meth c g nL Qf o M pc L (.int y :: .int x :: st) := fun v hv H locs ls hP hS hl => lv_irem X.1 X.2.1 hd hy (k v hv H locs ls hP hS hl)
theorem j_iconst {n : Int} {v : Int32} (X : Cx p l e R s m args below meth c g cc nL own d) (hd : decode cc pc = .ok (.iconst n, 1)) (hv : Int32.ofInt n = v) (k : J p l e R s m args below meth c g nL Qf o M (pc + 1) L (.int v :: st)) : J p l e R s m args below meth c g nL Qf o M pc L st := fun x hx H locs ls hP hS hl => lv_iconst X.1 X.2.1 hd hv (k x hx H locs ls hP hS hl)
theorem j_bipush {n : Int} {v : Int32} (X : Cx p l e R s m args below meth c g cc nL own d) (hd : decode cc pc = .ok (.bipush n, 2)) (hv : (Int8.ofInt n).toInt32 = v) (k : J p l e R s m args below meth c g nL Qf o M (pc + 2) L (.int v :: st)) : J p l e R s m args below meth c g nL Qf o M pc L st := fun x hx H locs ls hP hS hl => lv_bipush X.1 X.2.1 hd hv (k x hx H locs ls hP hS hl)
theorem j_sipush {n : Int} {v : Int32} (X : Cx p l e R s m args below meth c g cc nL own d) (hd : decode cc pc = .ok (.sipush n, 3)) (hv : (Int16.ofInt n).toInt32 = v) (k : J p l e R s m args below meth c g nL Qf o M (pc + 3) L (.int v :: st)) : J p l e R s m args below meth c g nL Qf o M pc L st := fun x hx H locs ls hP hS hl => lv_sipush X.1 X.2.1 hd hv (k x hx H locs ls hP hS hl)
theorem j_lconst {n : Fin 2} {v : Int64} (X : Cx p l e R s m args below meth c g cc nL own d) (hd : decode cc pc = .ok (.lconst n, 1)) (hv : Int64.ofNat (n : Nat) = v) (k : J p l e R s m args below meth c g nL Qf o M (pc + 1) L (.long v :: st)) : J p l e R s m args below meth c g nL Qf o M pc L st := fun x hx H locs ls hP hS hl => lv_lconst X.1 X.2.1 hd hv (k x hx H locs ls hP hS hl)
theorem j_ldc {index : Nat} {v : Int32} (X : Cx p l e R s m args below meth c g cc nL own d) (hw : Cond.constant own index v ∈ BG) (hd : decode cc pc = .ok (.ldc index, 2)) (k : J p l e R s m args below meth c g nL Qf o M (pc + 2) L (.int v :: st)) : J p l e R s m args below meth c g nL Qf o M pc L st := fun x hx H locs ls hP hS hl => lv_ldc X.1 X.2.1 X.2.2.2.1 (X.2.2.2.2.1 _ hw) hd (k x hx H locs ls hP hS hl)
theorem j_ldcw {index : Nat} {v : Int32} (X : Cx p l e R s m args below meth c g cc nL own d) (hw : Cond.constant own index v ∈ BG) (hd : decode cc pc = .ok (.ldc_w index, 3)) (k : J p l e R s m args below meth c g nL Qf o M (pc + 3) L (.int v :: st)) : J p l e R s m args below meth c g nL Qf o M pc L st := fun x hx H locs ls hP hS hl => lv_ldcw X.1 X.2.1 X.2.2.2.1 (X.2.2.2.2.1 _ hw) hd (k x hx H locs ls hP hS hl)
theorem j_ldcS {index i : Nat} {tx : String} (X : Cx p l e R s m args below meth c g cc nL own d) (hw : (own, index, tx, i) ∈ sts) (hd : decode cc pc = .ok (.ldc index, 2)) (k : J p l e R s m args below meth c g nL Qf o M (pc + 2) L (.ref (gS g i) :: st)) : J p l e R s m args below meth c g nL Qf o M pc L st := fun x hx H locs ls hP hS hl => va_ldcS X.1 X.2.1 X.2.2.2.1 (X.2.2.2.2.2.2.2.1.2.2.2.2.2.2.2 _ hw) hd (k x hx H locs ls hP hS hl)
theorem j_ldcwS {index i : Nat} {tx : String} (X : Cx p l e R s m args below meth c g cc nL own d) (hw : (own, index, tx, i) ∈ sts) (hd : decode cc pc = .ok (.ldc_w index, 3)) (k : J p l e R s m args below meth c g nL Qf o M (pc + 3) L (.ref (gS g i) :: st)) : J p l e R s m args below meth c g nL Qf o M pc L st := by
  intro x hx H locs ls hP hS hl T hT Y
  obtain ⟨t, a1, b1⟩ := k x hx H locs ls hP hS hl T hT Y
  have hZ := X.2.2.2.2.2.2.2.1.2.2.2.2.2.2.2 _ hw
  exact ⟨t, Y.ldcStringW X.1 X.2.2.2.1 (text := tx) (a := gS g i) hZ.1 hZ.2 (g := F0 m pc ls st) rfl (by rw [X.2.1]; exact hd) t a1, b1⟩
theorem j_iload_n {k : Fin 4} {i : Nat} {x : Int32} (X : Cx p l e R s m args below meth c g cc nL own d) (hd : decode cc pc = .ok (.iload_n k, 1)) (hi : (k : Nat) = i) (hq : ll L i = some (.int x)) (kk : J p l e R s m args below meth c g nL Qf o M (pc + 1) L (.int x :: st)) : J p l e R s m args below meth c g nL Qf o M pc L st := fun v hv H locs ls hP hS hl => lv_iload_n X.1 X.2.1 hd hi (hl.2.2 _ (ll_mem hq)) (kk v hv H locs ls hP hS hl)
theorem j_iload {i : Nat} {x : Int32} (X : Cx p l e R s m args below meth c g cc nL own d) (hd : decode cc pc = .ok (.iload i, 2)) (hq : ll L i = some (.int x)) (kk : J p l e R s m args below meth c g nL Qf o M (pc + 2) L (.int x :: st)) : J p l e R s m args below meth c g nL Qf o M pc L st := fun v hv H locs ls hP hS hl => lv_iload X.1 X.2.1 hd (hl.2.2 _ (ll_mem hq)) (kk v hv H locs ls hP hS hl)
theorem j_aload_n {k : Fin 4} {i : Nat} {x : Nat} (X : Cx p l e R s m args below meth c g cc nL own d) (hd : decode cc pc = .ok (.aload_n k, 1)) (hi : (k : Nat) = i) (hq : ll L i = some (.ref x)) (kk : J p l e R s m args below meth c g nL Qf o M (pc + 1) L (.ref x :: st)) : J p l e R s m args below meth c g nL Qf o M pc L st := fun v hv H locs ls hP hS hl => lv_aload_n X.1 X.2.1 hd hi (hl.2.2 _ (ll_mem hq)) (kk v hv H locs ls hP hS hl)
theorem j_aload {i : Nat} {x : Nat} (X : Cx p l e R s m args below meth c g cc nL own d) (hd : decode cc pc = .ok (.aload i, 2)) (hq : ll L i = some (.ref x)) (kk : J p l e R s m args below meth c g nL Qf o M (pc + 2) L (.ref x :: st)) : J p l e R s m args below meth c g nL Qf o M pc L st := fun v hv H locs ls hP hS hl => lv_aload X.1 X.2.1 hd (hl.2.2 _ (ll_mem hq)) (kk v hv H locs ls hP hS hl)
theorem j_lload_n {k : Fin 4} {i : Nat} {x : Int64} (X : Cx p l e R s m args below meth c g cc nL own d) (hd : decode cc pc = .ok (.lload_n k, 1)) (hi : (k : Nat) = i) (hq : ll L i = some (.long x)) (kk : J p l e R s m args below meth c g nL Qf o M (pc + 1) L (.long x :: st)) : J p l e R s m args below meth c g nL Qf o M pc L st := fun v hv H locs ls hP hS hl => lv_lload_n X.1 X.2.1 hd hi (hl.2.2 _ (ll_mem hq)) (kk v hv H locs ls hP hS hl)
theorem j_lload {i : Nat} {x : Int64} (X : Cx p l e R s m args below meth c g cc nL own d) (hd : decode cc pc = .ok (.lload i, 2)) (hq : ll L i = some (.long x)) (kk : J p l e R s m args below meth c g nL Qf o M (pc + 2) L (.long x :: st)) : J p l e R s m args below meth c g nL Qf o M pc L st := fun v hv H locs ls hP hS hl => lv_lload X.1 X.2.1 hd (hl.2.2 _ (ll_mem hq)) (kk v hv H locs ls hP hS hl)
theorem j_istore_n {k : Fin 4} {i : Nat} {x : Int32} (X : Cx p l e R s m args below meth c g cc nL own d) (hd : decode cc pc = .ok (.istore_n k, 1)) (hi : (k : Nat) = i) (hn : i < nL) (hq : lset L i (.int x) = Lq) (kk : J p l e R s m args below meth c g nL Qf o M (pc + 1) Lq st) : J p l e R s m args below meth c g nL Qf o M pc L (.int x :: st) := fun v hv H locs ls hP hS hl => lv_istore_n X.1 X.2.1 hd hi hl hn rfl (fun ls2 hl2 => kk v hv H locs ls2 hP hS (lset_has hl2 hq))
theorem j_istore {i : Nat} {x : Int32} (X : Cx p l e R s m args below meth c g cc nL own d) (hd : decode cc pc = .ok (.istore i, 2)) (hn : i < nL) (hq : lset L i (.int x) = Lq) (kk : J p l e R s m args below meth c g nL Qf o M (pc + 2) Lq st) : J p l e R s m args below meth c g nL Qf o M pc L (.int x :: st) := fun v hv H locs ls hP hS hl => lv_istore X.1 X.2.1 hd hl hn rfl (fun ls2 hl2 => kk v hv H locs ls2 hP hS (lset_has hl2 hq))
theorem j_astore_n {k : Fin 4} {i : Nat} {x : Nat} (X : Cx p l e R s m args below meth c g cc nL own d) (hd : decode cc pc = .ok (.astore_n k, 1)) (hi : (k : Nat) = i) (hn : i < nL) (hq : lset L i (.ref x) = Lq) (kk : J p l e R s m args below meth c g nL Qf o M (pc + 1) Lq st) : J p l e R s m args below meth c g nL Qf o M pc L (.ref x :: st) := fun v hv H locs ls hP hS hl => lv_astore_n X.1 X.2.1 hd hi hl hn rfl (fun ls2 hl2 => kk v hv H locs ls2 hP hS (lset_has hl2 hq))
theorem j_astore {i : Nat} {x : Nat} (X : Cx p l e R s m args below meth c g cc nL own d) (hd : decode cc pc = .ok (.astore i, 2)) (hn : i < nL) (hq : lset L i (.ref x) = Lq) (kk : J p l e R s m args below meth c g nL Qf o M (pc + 2) Lq st) : J p l e R s m args below meth c g nL Qf o M pc L (.ref x :: st) := fun v hv H locs ls hP hS hl => lv_astore X.1 X.2.1 hd hl hn rfl (fun ls2 hl2 => kk v hv H locs ls2 hP hS (lset_has hl2 hq))
theorem j_lstore {i : Nat} {x : Int64} (X : Cx p l e R s m args below meth c g cc nL own d) (hd : decode cc pc = .ok (.lstore i, 2)) (hn : i + 1 < nL) (hq : lset2 L i (.long x) = Lq) (kk : J p l e R s m args below meth c g nL Qf o M (pc + 2) Lq st) : J p l e R s m args below meth c g nL Qf o M pc L (.long x :: st) := fun v hv H locs ls hP hS hl => lv_lstore X.1 X.2.1 hd hl hn rfl (fun ls2 hl2 => kk v hv H locs ls2 hP hS (lset2_has hl2 hq))
theorem j_iinc {i : Nat} {n : Int} {x y : Int32} (X : Cx p l e R s m args below meth c g cc nL own d) (hd : decode cc pc = .ok (.iinc i n, 3)) (hx : ll L i = some (.int x)) (hy : x + Int32.ofInt n = y) (hn : i < nL) (hq : lset L i (.int y) = Lq) (kk : J p l e R s m args below meth c g nL Qf o M (pc + 3) Lq st) : J p l e R s m args below meth c g nL Qf o M pc L st := by
  intro v hv H locs ls hP hS hl
  obtain ⟨k, hk⟩ := List.mem_iff_getElem?.mp (ll_mem hx)
  exact lv_iinc X.1 X.2.1 hd hl hk hy hn rfl (fun ls2 hl2 => kk v hv H locs ls2 hP hS (lset_has hl2 hq))
theorem j_goto {off : Int} {tgt : Nat} (X : Cx p l e R s m args below meth c g cc nL own d) (hd : decode cc pc = .ok (.goto off, 3)) (ht : (pc : Int) + off = (tgt : Int)) (k : J p l e R s m args below meth c g nL Qf o M tgt L st) : J p l e R s m args below meth c g nL Qf o M pc L st := fun v hv H locs ls hP hS hl => lv_goto X.1 X.2.1 hd ht (k v hv H locs ls hP hS hl)
theorem j_icmp_eq {x y : Int32} {off : Int} {tgt : Nat} (X : Cx p l e R s m args below meth c g cc nL own d) (hd : decode cc pc = .ok (.if_icmp .eq off, 3)) (ht : (pc : Int) + off = (tgt : Int)) (k1 : J p l e R s m args below meth c g nL Qf o1 M tgt L st) (k2 : J p l e R s m args below meth c g nL Qf o2 M (pc + 3) L st) : J p l e R s m args below meth c g nL Qf (if x = y then o1 else o2) M pc L (.int y :: .int x :: st) := fun v hv H locs ls hP hS hl => lv_icmp_eq X.1 X.2.1 hd ht (fun h => k1 v (by rw [if_pos h] at hv; exact hv) H locs ls hP hS hl) (fun h => k2 v (by rw [if_neg h] at hv; exact hv) H locs ls hP hS hl)
theorem j_if_eq {x : Int32} {off : Int} {tgt : Nat} (X : Cx p l e R s m args below meth c g cc nL own d) (hd : decode cc pc = .ok (.ifCond .eq off, 3)) (ht : (pc : Int) + off = (tgt : Int)) (k1 : J p l e R s m args below meth c g nL Qf o1 M tgt L st) (k2 : J p l e R s m args below meth c g nL Qf o2 M (pc + 3) L st) : J p l e R s m args below meth c g nL Qf (if x = 0 then o1 else o2) M pc L (.int x :: st) := fun v hv H locs ls hP hS hl => lv_if_eq X.1 X.2.1 hd ht (fun h => k1 v (by rw [if_pos h] at hv; exact hv) H locs ls hP hS hl) (fun h => k2 v (by rw [if_neg h] at hv; exact hv) H locs ls hP hS hl)
theorem j_icmp_ne {x y : Int32} {off : Int} {tgt : Nat} (X : Cx p l e R s m args below meth c g cc nL own d) (hd : decode cc pc = .ok (.if_icmp .ne off, 3)) (ht : (pc : Int) + off = (tgt : Int)) (k1 : J p l e R s m args below meth c g nL Qf o1 M (pc + 3) L st) (k2 : J p l e R s m args below meth c g nL Qf o2 M tgt L st) : J p l e R s m args below meth c g nL Qf (if x = y then o1 else o2) M pc L (.int y :: .int x :: st) := fun v hv H locs ls hP hS hl => lv_icmp_ne X.1 X.2.1 hd ht (fun h => k2 v (by rw [if_neg h] at hv; exact hv) H locs ls hP hS hl) (fun h => k1 v (by rw [if_pos h] at hv; exact hv) H locs ls hP hS hl)
theorem j_if_ne {x : Int32} {off : Int} {tgt : Nat} (X : Cx p l e R s m args below meth c g cc nL own d) (hd : decode cc pc = .ok (.ifCond .ne off, 3)) (ht : (pc : Int) + off = (tgt : Int)) (k1 : J p l e R s m args below meth c g nL Qf o1 M (pc + 3) L st) (k2 : J p l e R s m args below meth c g nL Qf o2 M tgt L st) : J p l e R s m args below meth c g nL Qf (if x = 0 then o1 else o2) M pc L (.int x :: st) := fun v hv H locs ls hP hS hl => lv_if_ne X.1 X.2.1 hd ht (fun h => k2 v (by rw [if_neg h] at hv; exact hv) H locs ls hP hS hl) (fun h => k1 v (by rw [if_pos h] at hv; exact hv) H locs ls hP hS hl)
theorem j_icmp_lt {x y : Int32} {off : Int} {tgt : Nat} (X : Cx p l e R s m args below meth c g cc nL own d) (hd : decode cc pc = .ok (.if_icmp .lt off, 3)) (ht : (pc : Int) + off = (tgt : Int)) (k1 : J p l e R s m args below meth c g nL Qf o1 M tgt L st) (k2 : J p l e R s m args below meth c g nL Qf o2 M (pc + 3) L st) : J p l e R s m args below meth c g nL Qf (if x < y then o1 else o2) M pc L (.int y :: .int x :: st) := fun v hv H locs ls hP hS hl => lv_icmp_lt X.1 X.2.1 hd ht (fun h => k1 v (by rw [if_pos h] at hv; exact hv) H locs ls hP hS hl) (fun h => k2 v (by rw [if_neg h] at hv; exact hv) H locs ls hP hS hl)
theorem j_if_lt {x : Int32} {off : Int} {tgt : Nat} (X : Cx p l e R s m args below meth c g cc nL own d) (hd : decode cc pc = .ok (.ifCond .lt off, 3)) (ht : (pc : Int) + off = (tgt : Int)) (k1 : J p l e R s m args below meth c g nL Qf o1 M tgt L st) (k2 : J p l e R s m args below meth c g nL Qf o2 M (pc + 3) L st) : J p l e R s m args below meth c g nL Qf (if x < 0 then o1 else o2) M pc L (.int x :: st) := fun v hv H locs ls hP hS hl => lv_if_lt X.1 X.2.1 hd ht (fun h => k1 v (by rw [if_pos h] at hv; exact hv) H locs ls hP hS hl) (fun h => k2 v (by rw [if_neg h] at hv; exact hv) H locs ls hP hS hl)
theorem j_icmp_ge {x y : Int32} {off : Int} {tgt : Nat} (X : Cx p l e R s m args below meth c g cc nL own d) (hd : decode cc pc = .ok (.if_icmp .ge off, 3)) (ht : (pc : Int) + off = (tgt : Int)) (k1 : J p l e R s m args below meth c g nL Qf o1 M tgt L st) (k2 : J p l e R s m args below meth c g nL Qf o2 M (pc + 3) L st) : J p l e R s m args below meth c g nL Qf (if y ≤ x then o1 else o2) M pc L (.int y :: .int x :: st) := fun v hv H locs ls hP hS hl => lv_icmp_ge X.1 X.2.1 hd ht (fun h => k1 v (by rw [if_pos h] at hv; exact hv) H locs ls hP hS hl) (fun h => k2 v (by rw [if_neg h] at hv; exact hv) H locs ls hP hS hl)
theorem j_if_ge {x : Int32} {off : Int} {tgt : Nat} (X : Cx p l e R s m args below meth c g cc nL own d) (hd : decode cc pc = .ok (.ifCond .ge off, 3)) (ht : (pc : Int) + off = (tgt : Int)) (k1 : J p l e R s m args below meth c g nL Qf o1 M tgt L st) (k2 : J p l e R s m args below meth c g nL Qf o2 M (pc + 3) L st) : J p l e R s m args below meth c g nL Qf (if 0 ≤ x then o1 else o2) M pc L (.int x :: st) := fun v hv H locs ls hP hS hl => lv_if_ge X.1 X.2.1 hd ht (fun h => k1 v (by rw [if_pos h] at hv; exact hv) H locs ls hP hS hl) (fun h => k2 v (by rw [if_neg h] at hv; exact hv) H locs ls hP hS hl)
theorem j_icmp_gt {x y : Int32} {off : Int} {tgt : Nat} (X : Cx p l e R s m args below meth c g cc nL own d) (hd : decode cc pc = .ok (.if_icmp .gt off, 3)) (ht : (pc : Int) + off = (tgt : Int)) (k1 : J p l e R s m args below meth c g nL Qf o1 M tgt L st) (k2 : J p l e R s m args below meth c g nL Qf o2 M (pc + 3) L st) : J p l e R s m args below meth c g nL Qf (if y < x then o1 else o2) M pc L (.int y :: .int x :: st) := fun v hv H locs ls hP hS hl => lv_icmp_gt X.1 X.2.1 hd ht (fun h => k1 v (by rw [if_pos h] at hv; exact hv) H locs ls hP hS hl) (fun h => k2 v (by rw [if_neg h] at hv; exact hv) H locs ls hP hS hl)
theorem j_if_gt {x : Int32} {off : Int} {tgt : Nat} (X : Cx p l e R s m args below meth c g cc nL own d) (hd : decode cc pc = .ok (.ifCond .gt off, 3)) (ht : (pc : Int) + off = (tgt : Int)) (k1 : J p l e R s m args below meth c g nL Qf o1 M tgt L st) (k2 : J p l e R s m args below meth c g nL Qf o2 M (pc + 3) L st) : J p l e R s m args below meth c g nL Qf (if 0 < x then o1 else o2) M pc L (.int x :: st) := fun v hv H locs ls hP hS hl => lv_if_gt X.1 X.2.1 hd ht (fun h => k1 v (by rw [if_pos h] at hv; exact hv) H locs ls hP hS hl) (fun h => k2 v (by rw [if_neg h] at hv; exact hv) H locs ls hP hS hl)
theorem j_icmp_le {x y : Int32} {off : Int} {tgt : Nat} (X : Cx p l e R s m args below meth c g cc nL own d) (hd : decode cc pc = .ok (.if_icmp .le off, 3)) (ht : (pc : Int) + off = (tgt : Int)) (k1 : J p l e R s m args below meth c g nL Qf o1 M tgt L st) (k2 : J p l e R s m args below meth c g nL Qf o2 M (pc + 3) L st) : J p l e R s m args below meth c g nL Qf (if x ≤ y then o1 else o2) M pc L (.int y :: .int x :: st) := fun v hv H locs ls hP hS hl => lv_icmp_le X.1 X.2.1 hd ht (fun h => k1 v (by rw [if_pos h] at hv; exact hv) H locs ls hP hS hl) (fun h => k2 v (by rw [if_neg h] at hv; exact hv) H locs ls hP hS hl)
theorem j_if_le {x : Int32} {off : Int} {tgt : Nat} (X : Cx p l e R s m args below meth c g cc nL own d) (hd : decode cc pc = .ok (.ifCond .le off, 3)) (ht : (pc : Int) + off = (tgt : Int)) (k1 : J p l e R s m args below meth c g nL Qf o1 M tgt L st) (k2 : J p l e R s m args below meth c g nL Qf o2 M (pc + 3) L st) : J p l e R s m args below meth c g nL Qf (if x ≤ 0 then o1 else o2) M pc L (.int x :: st) := fun v hv H locs ls hP hS hl => lv_if_le X.1 X.2.1 hd ht (fun h => k1 v (by rw [if_pos h] at hv; exact hv) H locs ls hP hS hl) (fun h => k2 v (by rw [if_neg h] at hv; exact hv) H locs ls hP hS hl)
theorem j_none : J p l e R s m args below meth c g nL Qf none M pc L st := fun v hv => by cases hv
theorem j_eq (h : o1 = o) (k : J p l e R s m args below meth c g nL Qf o1 M pc L st) : J p l e R s m args below meth c g nL Qf o M pc L st := h ▸ k
end JR
end
section
def isSh (b : Nat) : Prop := b = 1 ∨ b = 13 ∨ b = 25
def isSt (b : Nat) : Prop := b = 40 ∨ b = 42 ∨ b = 44 ∨ b = 46
def ia (k n : Nat) : Prop := k < 66 ∧ ∀ (g : Gh) (f : Nat → Int32), cf g k f = .inl (gI g, n, .inl f)
def isB (x : Int32) : Bool := x == 0 || x == 1
theorem sh_1 : isSh 1 := Or.inl rfl
theorem sh_13 : isSh 13 := Or.inr (Or.inl rfl)
theorem sh_25 : isSh 25 := Or.inr (Or.inr rfl)
theorem isSh.lt {b : Nat} (h : isSh b) : b < 66 := by unfold isSh at h; omega
theorem isSt.lt {b : Nat} (h : isSt b) : b < 66 := by unfold isSt at h; omega
theorem cf_sh {g : Gh} {b : Nat} (h : isSh b) (f : Nat → Int32) : cf g b f = .inr (2, shV g b f) := by rcases h with rfl | rfl | rfl <;> rfl
theorem cf_st {g : Gh} {b : Nat} (h : isSt b) (f : Nat → Int32) : cf g b f = .inr (1, stV g b f) := by rcases h with rfl | rfl | rfl | rfl <;> rfl
theorem cf_hd {g : Gh} (f : Nat → Int32) : cf g 0 f = .inr (3, hdV g f) := rfl
theorem cf_rd {g : Gh} (f : Nat → Int32) : cf g 37 f = .inr (0, rdV g f) := rfl
theorem cf_md {g : Gh} (f : Nat → Int32) : cf g 49 f = .inr (4, mdV g f) := rfl
theorem inX0 : ∀ w ∈ u_ws RX0 TX0 6, w ∈ BG := by decide +kernel
theorem inX1 : ∀ w ∈ u_ws RX1 TX1 3, w ∈ BG := by decide +kernel
theorem inX2 : ∀ w ∈ u_ws RX2 TX2 15, w ∈ BG := by decide +kernel
theorem inX3 : ∀ w ∈ u_ws RX3 TX3 7, w ∈ BG := by decide +kernel
theorem inX4 : ∀ w ∈ u_ws RX4 TX4 25, w ∈ BG := by decide +kernel
theorem st_in {i : Int32} (h : inb i 4 = true) : isSt (40 + 2 * i.toNatClampNeg) := by
  simp only [inb, Bool.and_eq_true, decide_eq_true_eq] at h
  unfold isSt
  omega
theorem st_in' {i : Int32} (h : inb i 4 = true) : i.toNatClampNeg < 4 := by
  simp only [inb, Bool.and_eq_true, decide_eq_true_eq] at h
  exact h.2
theorem ia_sh1 {b : Nat} (h : isSh b) : ia (b + 1) 10 := by rcases h with rfl | rfl | rfl <;> exact ⟨by decide, fun g f => rfl⟩
theorem ia_sh2 {b : Nat} (h : isSh b) : ia (b + 2) 8 := by rcases h with rfl | rfl | rfl <;> exact ⟨by decide, fun g f => rfl⟩
theorem ia_sh3 {b : Nat} (h : isSh b) : ia (b + 3) 8 := by rcases h with rfl | rfl | rfl <;> exact ⟨by decide, fun g f => rfl⟩
theorem ia_sh4 {b : Nat} (h : isSh b) : ia (b + 4) 8 := by rcases h with rfl | rfl | rfl <;> exact ⟨by decide, fun g f => rfl⟩
theorem ia_sh5 {b : Nat} (h : isSh b) : ia (b + 5) 8 := by rcases h with rfl | rfl | rfl <;> exact ⟨by decide, fun g f => rfl⟩
theorem ia_sh6 {b : Nat} (h : isSh b) : ia (b + 6) 8 := by rcases h with rfl | rfl | rfl <;> exact ⟨by decide, fun g f => rfl⟩
theorem ia_sh7 {b : Nat} (h : isSh b) : ia (b + 7) 8 := by rcases h with rfl | rfl | rfl <;> exact ⟨by decide, fun g f => rfl⟩
theorem ia_sh8 {b : Nat} (h : isSh b) : ia (b + 8) 8 := by rcases h with rfl | rfl | rfl <;> exact ⟨by decide, fun g f => rfl⟩
theorem ia_sh9 {b : Nat} (h : isSh b) : ia (b + 9) 8 := by rcases h with rfl | rfl | rfl <;> exact ⟨by decide, fun g f => rfl⟩
theorem ia_sh10 {b : Nat} (h : isSh b) : ia (b + 10) 12 := by rcases h with rfl | rfl | rfl <;> exact ⟨by decide, fun g f => rfl⟩
theorem ia_sh11 {b : Nat} (h : isSh b) : ia (b + 11) 12 := by rcases h with rfl | rfl | rfl <;> exact ⟨by decide, fun g f => rfl⟩
theorem ia_st {b : Nat} (h : isSt b) : ia (b + 1) 40 := by rcases h with rfl | rfl | rfl | rfl <;> exact ⟨by decide, fun g f => rfl⟩
theorem ia_38 : ia 38 120 := ⟨by decide, fun g f => rfl⟩
theorem ia_48 : ia 48 7 := ⟨by decide, fun g f => rfl⟩
theorem ia_50 : ia 50 62 := ⟨by decide, fun g f => rfl⟩
theorem ia_51 : ia 51 62 := ⟨by decide, fun g f => rfl⟩
theorem ia_52 : ia 52 62 := ⟨by decide, fun g f => rfl⟩
theorem ia_53 : ia 53 8 := ⟨by decide, fun g f => rfl⟩
theorem ia_54 : ia 54 4 := ⟨by decide, fun g f => rfl⟩
theorem ia_55 : ia 55 8 := ⟨by decide, fun g f => rfl⟩
theorem ia_56 : ia 56 8 := ⟨by decide, fun g f => rfl⟩
theorem ia_57 : ia 57 8 := ⟨by decide, fun g f => rfl⟩
theorem ia_58 : ia 58 8 := ⟨by decide, fun g f => rfl⟩
theorem ia_59 : ia 59 120 := ⟨by decide, fun g f => rfl⟩
theorem ia_61 : ia 61 600 := ⟨by decide, fun g f => rfl⟩
theorem ia_62 : ia 62 4 := ⟨by decide, fun g f => rfl⟩
theorem ia_63 : ia 63 4 := ⟨by decide, fun g f => rfl⟩
theorem ia_64 : ia 64 160 := ⟨by decide, fun g f => rfl⟩
theorem ia_65 : ia 65 40 := ⟨by decide, fun g f => rfl⟩
section JH
variable {p : Program} {l : Launch} {e : Env} {R : Room} {s : State} {m : MethodId} {args : Array Value} {below : List Frame} {meth : Method} {c : Code} {g : Gh} {nL : Nat} {α : Type} {Qf : α → State → Prop} {o o1 o2 : Option α} {M : Mem} {pc : Nat} {L Lq : List (Nat × Value)} {st rest : List Value} {cc : ByteArray} {own : String} {d : Nat}
theorem j_getf {k ci f N idx : Nat} {C : String} {T : u_T} {fs : List Value} {v : Value} (X : Cx p l e R s m args below meth c g cc nL own d) (hk : k < 66) (hc : cf g k (M k) = .inr (ci, fs)) (hcl : vwCl[ci]? = some (C, T, N)) (hin : ∀ w ∈ u_ws C T N, w ∈ BG) (hf : f < N) (hl : Cond.fieldLink own idx (T f).1 (T f).2.1 (T f).2.2.1 ∈ BG) (hv : fs[f]? = some v) (hd : decode cc pc = .ok (.getfield idx, 3)) (kk : J p l e R s m args below meth c g nL Qf o M (pc + 3) L (v :: st)) : J p l e R s m args below meth c g nL Qf o M pc L (.ref (gA g k) :: st) :=
  fun x hx H locs ls hP hS hl' => va_get (D := gD g) (ci := ci) (v := v) (C := C) (T := T) (N := N) X.1 X.2.1 X.2.2.2.2.1 hin X.2.2.2.1 X.2.2.2.2.2.1 hP k ((wd_get hk).trans (by rw [hc])) hcl f hf (X.2.2.2.2.1 _ hl) (fun _ h => h) hv hd (kk x hx H locs ls hP hS hl')
theorem j_getfN {k ci f N idx : Nat} {C : String} {T : u_T} {fs : List Value} {v : Value} (X : Cx p l e R s m args below meth c g cc nL own d) (hk : k < 66) (hc : cf g k (M k) = .inr (ci, fs)) (hcl : vwCl[ci]? = some (C, T, N)) (hin : ∀ w ∈ u_ws C T N, w ∈ BG) (hf : f < N) (hl : (own, idx, (T f).1, (T f).2.1, (T f).2.2.1) ∈ nfs) (hv : fs[f]? = some v) (hd : decode cc pc = .ok (.getfield idx, 3)) (kk : J p l e R s m args below meth c g nL Qf o M (pc + 3) L (v :: st)) : J p l e R s m args below meth c g nL Qf o M pc L (.ref (gA g k) :: st) :=
  fun x hx H locs ls hP hS hl' => va_getN (D := gD g) (ci := ci) (v := v) (C := C) (T := T) (N := N) X.1 X.2.1 X.2.2.2.2.1 hin X.2.2.2.1 X.2.2.2.2.2.1 hP k ((wd_get hk).trans (by rw [hc])) hcl f hf (va_Nw.use rfl (X.2.2.2.2.2.2.2.1.2.2.2.2.2.1 _ hl)) (fun _ h => h) hv hd (kk x hx H locs ls hP hS hl')
theorem j_putf {k ci f N idx : Nat} {C : String} {T : u_T} {fs : List Value} {x : Int32} {ty : FieldType} (ty0 : Nat → FieldType) (hty : ∀ k, k < N → parseFieldDescriptor (T k).2.2.1 = some (ty0 k)) (hnm : ∀ a, a < N → ∀ b, b < N → a ≠ b → (T a).2.1 ≠ (T b).2.1) (X : Cx p l e R s m args below meth c g cc nL own d) (hk : k < 66) (hc : cf g k (M k) = .inr (ci, fs)) (hset : cf g k (upd (M k) f x) = .inr (ci, fs.set f (.int x))) (hcl : vwCl[ci]? = some (C, T, N)) (hin : ∀ w ∈ u_ws C T N, w ∈ BG) (hf : f < N) (hl : Cond.fieldLink own idx (T f).1 (T f).2.1 (T f).2.2.1 ∈ BG) (hfin : (T f).2.2.2 = false) (hpd : parseFieldDescriptor (T f).2.2.1 = some ty) (hn : narrow ty (.int x) = .int x) (hfit : fits ty (.int x) = true) (hlen : f < fs.length) (hd : decode cc pc = .ok (.putfield idx, 3)) (kk : J p l e R s m args below meth c g nL Qf o (up M k f x) (pc + 3) L st) : J p l e R s m args below meth c g nL Qf o M pc L (.int x :: .ref (gA g k) :: st) :=
  fun w hw H locs ls hP hS hl' => va_put (D := gD g) (ci := ci) (v := .int x) (ty := ty) (C := C) (T := T) (N := N) X.1 X.2.1 X.2.2.2.2.1 hin ty0 hty hnm X.2.2.2.1 X.2.2.2.2.2.1 hP (wd_D X.2.2.2.2.2.2.1) hS k ((wd_get hk).trans (by rw [hc])) hcl f hf (X.2.2.2.2.1 _ hl) (fun _ h => h) hfin hpd hn hfit hlen hd (fun H1 locs1 hP1 _ hS1 => kk w hw H1 locs1 ls (by rw [← hset, wd_set hk] at hP1; exact hP1) hS1 hl')
theorem j_putfN {k ci f N idx : Nat} {C : String} {T : u_T} {fs : List Value} {x : Int32} {ty : FieldType} (ty0 : Nat → FieldType) (hty : ∀ k, k < N → parseFieldDescriptor (T k).2.2.1 = some (ty0 k)) (hnm : ∀ a, a < N → ∀ b, b < N → a ≠ b → (T a).2.1 ≠ (T b).2.1) (X : Cx p l e R s m args below meth c g cc nL own d) (hk : k < 66) (hc : cf g k (M k) = .inr (ci, fs)) (hset : cf g k (upd (M k) f x) = .inr (ci, fs.set f (.int x))) (hcl : vwCl[ci]? = some (C, T, N)) (hin : ∀ w ∈ u_ws C T N, w ∈ BG) (hf : f < N) (hl : (own, idx, (T f).1, (T f).2.1, (T f).2.2.1) ∈ nfs) (hfin : (T f).2.2.2 = false) (hpd : parseFieldDescriptor (T f).2.2.1 = some ty) (hn : narrow ty (.int x) = .int x) (hfit : fits ty (.int x) = true) (hlen : f < fs.length) (hd : decode cc pc = .ok (.putfield idx, 3)) (kk : J p l e R s m args below meth c g nL Qf o (up M k f x) (pc + 3) L st) : J p l e R s m args below meth c g nL Qf o M pc L (.int x :: .ref (gA g k) :: st) :=
  fun w hw H locs ls hP hS hl' => va_putN (D := gD g) (ci := ci) (v := .int x) (ty := ty) (C := C) (T := T) (N := N) X.1 X.2.1 X.2.2.2.2.1 hin ty0 hty hnm X.2.2.2.1 X.2.2.2.2.2.1 hP (wd_D X.2.2.2.2.2.2.1) hS k ((wd_get hk).trans (by rw [hc])) hcl f hf (va_Nw.use rfl (X.2.2.2.2.2.2.2.1.2.2.2.2.2.1 _ hl)) (fun _ h => h) hfin hpd hn hfit hlen hd (fun H1 locs1 hP1 _ hS1 => kk w hw H1 locs1 ls (by rw [← hset, wd_set hk] at hP1; exact hP1) hS1 hl')
theorem j_get_sh {idx : Nat} {v : Value} {b : Nat} (hb : isSh b) (f : Nat) (X : Cx p l e R s m args below meth c g cc nL own d) (hf : f < 15) (hl : Cond.fieldLink own idx (TX2 f).1 (TX2 f).2.1 (TX2 f).2.2.1 ∈ BG) (hv : (shV g b (M b))[f]? = some v) (hd : decode cc pc = .ok (.getfield idx, 3)) (kk : J p l e R s m args below meth c g nL Qf o M (pc + 3) L (v :: st)) : J p l e R s m args below meth c g nL Qf o M pc L (.ref (gA g b) :: st) := j_getf X hb.lt (cf_sh hb _) (T := TX2) rfl inX2 hf hl hv hd kk
theorem j_put_sh {idx : Nat} {x : Int32} {ty : FieldType} {b : Nat} (hb : isSh b) (f : Nat) (X : Cx p l e R s m args below meth c g cc nL own d) (hf : f < 15) (hl : Cond.fieldLink own idx (TX2 f).1 (TX2 f).2.1 (TX2 f).2.2.1 ∈ BG) (hset : ∀ F : Nat → Int32, shV g b (upd F f x) = (shV g b F).set f (.int x)) (hfin : (TX2 f).2.2.2 = false) (hpd : parseFieldDescriptor (TX2 f).2.2.1 = some ty) (hn : narrow ty (.int x) = .int x) (hfit : fits ty (.int x) = true) (hd : decode cc pc = .ok (.putfield idx, 3)) (kk : J p l e R s m args below meth c g nL Qf o (up M b f x) (pc + 3) L st) : J p l e R s m args below meth c g nL Qf o M pc L (.int x :: .ref (gA g b) :: st) := j_putf tyX2 tyX2_ok nmX2 X hb.lt (cf_sh hb _) ((cf_sh hb _).trans (by rw [hset])) (T := TX2) rfl inX2 hf hl hfin hpd hn hfit hf hd kk
theorem j_getN_sh {idx : Nat} {v : Value} {b : Nat} (hb : isSh b) (f : Nat) (X : Cx p l e R s m args below meth c g cc nL own d) (hf : f < 15) (hl : (own, idx, (TX2 f).1, (TX2 f).2.1, (TX2 f).2.2.1) ∈ nfs) (hv : (shV g b (M b))[f]? = some v) (hd : decode cc pc = .ok (.getfield idx, 3)) (kk : J p l e R s m args below meth c g nL Qf o M (pc + 3) L (v :: st)) : J p l e R s m args below meth c g nL Qf o M pc L (.ref (gA g b) :: st) := j_getfN X hb.lt (cf_sh hb _) (T := TX2) rfl inX2 hf hl hv hd kk
theorem j_putN_sh {idx : Nat} {x : Int32} {ty : FieldType} {b : Nat} (hb : isSh b) (f : Nat) (X : Cx p l e R s m args below meth c g cc nL own d) (hf : f < 15) (hl : (own, idx, (TX2 f).1, (TX2 f).2.1, (TX2 f).2.2.1) ∈ nfs) (hset : ∀ F : Nat → Int32, shV g b (upd F f x) = (shV g b F).set f (.int x)) (hfin : (TX2 f).2.2.2 = false) (hpd : parseFieldDescriptor (TX2 f).2.2.1 = some ty) (hn : narrow ty (.int x) = .int x) (hfit : fits ty (.int x) = true) (hd : decode cc pc = .ok (.putfield idx, 3)) (kk : J p l e R s m args below meth c g nL Qf o (up M b f x) (pc + 3) L st) : J p l e R s m args below meth c g nL Qf o M pc L (.int x :: .ref (gA g b) :: st) := j_putfN tyX2 tyX2_ok nmX2 X hb.lt (cf_sh hb _) ((cf_sh hb _).trans (by rw [hset])) (T := TX2) rfl inX2 hf hl hfin hpd hn hfit hf hd kk
theorem j_get_st {idx : Nat} {v : Value} {b : Nat} (hb : isSt b) (f : Nat) (X : Cx p l e R s m args below meth c g cc nL own d) (hf : f < 3) (hl : Cond.fieldLink own idx (TX1 f).1 (TX1 f).2.1 (TX1 f).2.2.1 ∈ BG) (hv : (stV g b (M b))[f]? = some v) (hd : decode cc pc = .ok (.getfield idx, 3)) (kk : J p l e R s m args below meth c g nL Qf o M (pc + 3) L (v :: st)) : J p l e R s m args below meth c g nL Qf o M pc L (.ref (gA g b) :: st) := j_getf X hb.lt (cf_st hb _) (T := TX1) rfl inX1 hf hl hv hd kk
theorem j_put_st {idx : Nat} {x : Int32} {ty : FieldType} {b : Nat} (hb : isSt b) (f : Nat) (X : Cx p l e R s m args below meth c g cc nL own d) (hf : f < 3) (hl : Cond.fieldLink own idx (TX1 f).1 (TX1 f).2.1 (TX1 f).2.2.1 ∈ BG) (hset : ∀ F : Nat → Int32, stV g b (upd F f x) = (stV g b F).set f (.int x)) (hfin : (TX1 f).2.2.2 = false) (hpd : parseFieldDescriptor (TX1 f).2.2.1 = some ty) (hn : narrow ty (.int x) = .int x) (hfit : fits ty (.int x) = true) (hd : decode cc pc = .ok (.putfield idx, 3)) (kk : J p l e R s m args below meth c g nL Qf o (up M b f x) (pc + 3) L st) : J p l e R s m args below meth c g nL Qf o M pc L (.int x :: .ref (gA g b) :: st) := j_putf tyX1 tyX1_ok nmX1 X hb.lt (cf_st hb _) ((cf_st hb _).trans (by rw [hset])) (T := TX1) rfl inX1 hf hl hfin hpd hn hfit hf hd kk
theorem j_getN_st {idx : Nat} {v : Value} {b : Nat} (hb : isSt b) (f : Nat) (X : Cx p l e R s m args below meth c g cc nL own d) (hf : f < 3) (hl : (own, idx, (TX1 f).1, (TX1 f).2.1, (TX1 f).2.2.1) ∈ nfs) (hv : (stV g b (M b))[f]? = some v) (hd : decode cc pc = .ok (.getfield idx, 3)) (kk : J p l e R s m args below meth c g nL Qf o M (pc + 3) L (v :: st)) : J p l e R s m args below meth c g nL Qf o M pc L (.ref (gA g b) :: st) := j_getfN X hb.lt (cf_st hb _) (T := TX1) rfl inX1 hf hl hv hd kk
theorem j_putN_st {idx : Nat} {x : Int32} {ty : FieldType} {b : Nat} (hb : isSt b) (f : Nat) (X : Cx p l e R s m args below meth c g cc nL own d) (hf : f < 3) (hl : (own, idx, (TX1 f).1, (TX1 f).2.1, (TX1 f).2.2.1) ∈ nfs) (hset : ∀ F : Nat → Int32, stV g b (upd F f x) = (stV g b F).set f (.int x)) (hfin : (TX1 f).2.2.2 = false) (hpd : parseFieldDescriptor (TX1 f).2.2.1 = some ty) (hn : narrow ty (.int x) = .int x) (hfit : fits ty (.int x) = true) (hd : decode cc pc = .ok (.putfield idx, 3)) (kk : J p l e R s m args below meth c g nL Qf o (up M b f x) (pc + 3) L st) : J p l e R s m args below meth c g nL Qf o M pc L (.int x :: .ref (gA g b) :: st) := j_putfN tyX1 tyX1_ok nmX1 X hb.lt (cf_st hb _) ((cf_st hb _).trans (by rw [hset])) (T := TX1) rfl inX1 hf hl hfin hpd hn hfit hf hd kk
theorem j_get_hd {idx : Nat} {v : Value}  (f : Nat) (X : Cx p l e R s m args below meth c g cc nL own d) (hf : f < 7) (hl : Cond.fieldLink own idx (TX3 f).1 (TX3 f).2.1 (TX3 f).2.2.1 ∈ BG) (hv : (hdV g (M 0))[f]? = some v) (hd : decode cc pc = .ok (.getfield idx, 3)) (kk : J p l e R s m args below meth c g nL Qf o M (pc + 3) L (v :: st)) : J p l e R s m args below meth c g nL Qf o M pc L (.ref (gA g 0) :: st) := j_getf X (by decide) (cf_hd _) (T := TX3) rfl inX3 hf hl hv hd kk
theorem j_put_hd {idx : Nat} {x : Int32} {ty : FieldType}  (f : Nat) (X : Cx p l e R s m args below meth c g cc nL own d) (hf : f < 7) (hl : Cond.fieldLink own idx (TX3 f).1 (TX3 f).2.1 (TX3 f).2.2.1 ∈ BG) (hset : ∀ F : Nat → Int32, hdV g (upd F f x) = (hdV g F).set f (.int x)) (hfin : (TX3 f).2.2.2 = false) (hpd : parseFieldDescriptor (TX3 f).2.2.1 = some ty) (hn : narrow ty (.int x) = .int x) (hfit : fits ty (.int x) = true) (hd : decode cc pc = .ok (.putfield idx, 3)) (kk : J p l e R s m args below meth c g nL Qf o (up M 0 f x) (pc + 3) L st) : J p l e R s m args below meth c g nL Qf o M pc L (.int x :: .ref (gA g 0) :: st) := j_putf tyX3 tyX3_ok nmX3 X (by decide) (cf_hd _) ((cf_hd _).trans (by rw [hset])) (T := TX3) rfl inX3 hf hl hfin hpd hn hfit hf hd kk
theorem j_getN_hd {idx : Nat} {v : Value}  (f : Nat) (X : Cx p l e R s m args below meth c g cc nL own d) (hf : f < 7) (hl : (own, idx, (TX3 f).1, (TX3 f).2.1, (TX3 f).2.2.1) ∈ nfs) (hv : (hdV g (M 0))[f]? = some v) (hd : decode cc pc = .ok (.getfield idx, 3)) (kk : J p l e R s m args below meth c g nL Qf o M (pc + 3) L (v :: st)) : J p l e R s m args below meth c g nL Qf o M pc L (.ref (gA g 0) :: st) := j_getfN X (by decide) (cf_hd _) (T := TX3) rfl inX3 hf hl hv hd kk
theorem j_putN_hd {idx : Nat} {x : Int32} {ty : FieldType}  (f : Nat) (X : Cx p l e R s m args below meth c g cc nL own d) (hf : f < 7) (hl : (own, idx, (TX3 f).1, (TX3 f).2.1, (TX3 f).2.2.1) ∈ nfs) (hset : ∀ F : Nat → Int32, hdV g (upd F f x) = (hdV g F).set f (.int x)) (hfin : (TX3 f).2.2.2 = false) (hpd : parseFieldDescriptor (TX3 f).2.2.1 = some ty) (hn : narrow ty (.int x) = .int x) (hfit : fits ty (.int x) = true) (hd : decode cc pc = .ok (.putfield idx, 3)) (kk : J p l e R s m args below meth c g nL Qf o (up M 0 f x) (pc + 3) L st) : J p l e R s m args below meth c g nL Qf o M pc L (.int x :: .ref (gA g 0) :: st) := j_putfN tyX3 tyX3_ok nmX3 X (by decide) (cf_hd _) ((cf_hd _).trans (by rw [hset])) (T := TX3) rfl inX3 hf hl hfin hpd hn hfit hf hd kk
theorem j_get_rd {idx : Nat} {v : Value}  (f : Nat) (X : Cx p l e R s m args below meth c g cc nL own d) (hf : f < 6) (hl : Cond.fieldLink own idx (TX0 f).1 (TX0 f).2.1 (TX0 f).2.2.1 ∈ BG) (hv : (rdV g (M 37))[f]? = some v) (hd : decode cc pc = .ok (.getfield idx, 3)) (kk : J p l e R s m args below meth c g nL Qf o M (pc + 3) L (v :: st)) : J p l e R s m args below meth c g nL Qf o M pc L (.ref (gA g 37) :: st) := j_getf X (by decide) (cf_rd _) (T := TX0) rfl inX0 hf hl hv hd kk
theorem j_put_rd {idx : Nat} {x : Int32} {ty : FieldType}  (f : Nat) (X : Cx p l e R s m args below meth c g cc nL own d) (hf : f < 6) (hl : Cond.fieldLink own idx (TX0 f).1 (TX0 f).2.1 (TX0 f).2.2.1 ∈ BG) (hset : ∀ F : Nat → Int32, rdV g (upd F f x) = (rdV g F).set f (.int x)) (hfin : (TX0 f).2.2.2 = false) (hpd : parseFieldDescriptor (TX0 f).2.2.1 = some ty) (hn : narrow ty (.int x) = .int x) (hfit : fits ty (.int x) = true) (hd : decode cc pc = .ok (.putfield idx, 3)) (kk : J p l e R s m args below meth c g nL Qf o (up M 37 f x) (pc + 3) L st) : J p l e R s m args below meth c g nL Qf o M pc L (.int x :: .ref (gA g 37) :: st) := j_putf tyX0 tyX0_ok nmX0 X (by decide) (cf_rd _) ((cf_rd _).trans (by rw [hset])) (T := TX0) rfl inX0 hf hl hfin hpd hn hfit hf hd kk
theorem j_getN_rd {idx : Nat} {v : Value}  (f : Nat) (X : Cx p l e R s m args below meth c g cc nL own d) (hf : f < 6) (hl : (own, idx, (TX0 f).1, (TX0 f).2.1, (TX0 f).2.2.1) ∈ nfs) (hv : (rdV g (M 37))[f]? = some v) (hd : decode cc pc = .ok (.getfield idx, 3)) (kk : J p l e R s m args below meth c g nL Qf o M (pc + 3) L (v :: st)) : J p l e R s m args below meth c g nL Qf o M pc L (.ref (gA g 37) :: st) := j_getfN X (by decide) (cf_rd _) (T := TX0) rfl inX0 hf hl hv hd kk
theorem j_putN_rd {idx : Nat} {x : Int32} {ty : FieldType}  (f : Nat) (X : Cx p l e R s m args below meth c g cc nL own d) (hf : f < 6) (hl : (own, idx, (TX0 f).1, (TX0 f).2.1, (TX0 f).2.2.1) ∈ nfs) (hset : ∀ F : Nat → Int32, rdV g (upd F f x) = (rdV g F).set f (.int x)) (hfin : (TX0 f).2.2.2 = false) (hpd : parseFieldDescriptor (TX0 f).2.2.1 = some ty) (hn : narrow ty (.int x) = .int x) (hfit : fits ty (.int x) = true) (hd : decode cc pc = .ok (.putfield idx, 3)) (kk : J p l e R s m args below meth c g nL Qf o (up M 37 f x) (pc + 3) L st) : J p l e R s m args below meth c g nL Qf o M pc L (.int x :: .ref (gA g 37) :: st) := j_putfN tyX0 tyX0_ok nmX0 X (by decide) (cf_rd _) ((cf_rd _).trans (by rw [hset])) (T := TX0) rfl inX0 hf hl hfin hpd hn hfit hf hd kk
theorem j_get_md {idx : Nat} {v : Value}  (f : Nat) (X : Cx p l e R s m args below meth c g cc nL own d) (hf : f < 25) (hl : Cond.fieldLink own idx (TX4 f).1 (TX4 f).2.1 (TX4 f).2.2.1 ∈ BG) (hv : (mdV g (M 49))[f]? = some v) (hd : decode cc pc = .ok (.getfield idx, 3)) (kk : J p l e R s m args below meth c g nL Qf o M (pc + 3) L (v :: st)) : J p l e R s m args below meth c g nL Qf o M pc L (.ref (gA g 49) :: st) := j_getf X (by decide) (cf_md _) (T := TX4) rfl inX4 hf hl hv hd kk
theorem j_put_md {idx : Nat} {x : Int32} {ty : FieldType}  (f : Nat) (X : Cx p l e R s m args below meth c g cc nL own d) (hf : f < 25) (hl : Cond.fieldLink own idx (TX4 f).1 (TX4 f).2.1 (TX4 f).2.2.1 ∈ BG) (hset : ∀ F : Nat → Int32, mdV g (upd F f x) = (mdV g F).set f (.int x)) (hfin : (TX4 f).2.2.2 = false) (hpd : parseFieldDescriptor (TX4 f).2.2.1 = some ty) (hn : narrow ty (.int x) = .int x) (hfit : fits ty (.int x) = true) (hd : decode cc pc = .ok (.putfield idx, 3)) (kk : J p l e R s m args below meth c g nL Qf o (up M 49 f x) (pc + 3) L st) : J p l e R s m args below meth c g nL Qf o M pc L (.int x :: .ref (gA g 49) :: st) := j_putf tyX4 tyX4_ok nmX4 X (by decide) (cf_md _) ((cf_md _).trans (by rw [hset])) (T := TX4) rfl inX4 hf hl hfin hpd hn hfit hf hd kk
theorem j_getN_md {idx : Nat} {v : Value}  (f : Nat) (X : Cx p l e R s m args below meth c g cc nL own d) (hf : f < 25) (hl : (own, idx, (TX4 f).1, (TX4 f).2.1, (TX4 f).2.2.1) ∈ nfs) (hv : (mdV g (M 49))[f]? = some v) (hd : decode cc pc = .ok (.getfield idx, 3)) (kk : J p l e R s m args below meth c g nL Qf o M (pc + 3) L (v :: st)) : J p l e R s m args below meth c g nL Qf o M pc L (.ref (gA g 49) :: st) := j_getfN X (by decide) (cf_md _) (T := TX4) rfl inX4 hf hl hv hd kk
theorem j_putN_md {idx : Nat} {x : Int32} {ty : FieldType}  (f : Nat) (X : Cx p l e R s m args below meth c g cc nL own d) (hf : f < 25) (hl : (own, idx, (TX4 f).1, (TX4 f).2.1, (TX4 f).2.2.1) ∈ nfs) (hset : ∀ F : Nat → Int32, mdV g (upd F f x) = (mdV g F).set f (.int x)) (hfin : (TX4 f).2.2.2 = false) (hpd : parseFieldDescriptor (TX4 f).2.2.1 = some ty) (hn : narrow ty (.int x) = .int x) (hfit : fits ty (.int x) = true) (hd : decode cc pc = .ok (.putfield idx, 3)) (kk : J p l e R s m args below meth c g nL Qf o (up M 49 f x) (pc + 3) L st) : J p l e R s m args below meth c g nL Qf o M pc L (.int x :: .ref (gA g 49) :: st) := j_putfN tyX4 tyX4_ok nmX4 X (by decide) (cf_md _) ((cf_md _).trans (by rw [hset])) (T := TX4) rfl inX4 hf hl hfin hpd hn hfit hf hd kk
theorem j_iald {k n : Nat} {i : Int32} (X : Cx p l e R s m args below meth c g cc nL own d) (ha : ia k n) (hd : decode cc pc = .ok (.iaload, 1)) (kk : inb i n = true → J p l e R s m args below meth c g nL Qf o M (pc + 1) L (.int (M k i.toNatClampNeg) :: st)) : J p l e R s m args below meth c g nL Qf (gd (inb i n) o) M pc L (.int i :: .ref (gA g k) :: st) :=
  fun x hx H locs ls hP hS hl => va_iald X.1 X.2.1 X.2.2.2.2.2.1 hP k 0 ((wd_get ha.1).trans (by rw [ha.2])) rfl (inb_vp (gd_some hx).1) hd (kk (gd_some hx).1 x (gd_some hx).2 H locs ls hP hS hl)
theorem j_iast {k n : Nat} {i v : Int32} (X : Cx p l e R s m args below meth c g cc nL own d) (ha : ia k n) (hd : decode cc pc = .ok (.iastore, 1)) (kk : inb i n = true → J p l e R s m args below meth c g nL Qf o (up M k i.toNatClampNeg v) (pc + 1) L st) : J p l e R s m args below meth c g nL Qf (gd (inb i n) o) M pc L (.int v :: .int i :: .ref (gA g k) :: st) :=
  fun x hx H locs ls hP hS hl => va_iast X.1 X.2.1 X.2.2.2.2.2.1 hP (wd_D X.2.2.2.2.2.2.1) hS k 0 ((wd_get ha.1).trans (by rw [ha.2])) rfl (inb_vp (gd_some hx).1) hd (fun H1 locs1 hP1 _ hS1 => kk (gd_some hx).1 x (gd_some hx).2 H1 locs1 ls (by rw [← ha.2 g, wd_set ha.1] at hP1; exact hP1) hS1 hl)
theorem j_alen {k n : Nat} {v : Int32} (X : Cx p l e R s m args below meth c g cc nL own d) (ha : ia k n) (hv : Int32.ofNat n = v) (hd : decode cc pc = .ok (.arraylength, 1)) (kk : J p l e R s m args below meth c g nL Qf o M (pc + 1) L (.int v :: st)) : J p l e R s m args below meth c g nL Qf o M pc L (.ref (gA g k) :: st) :=
  fun x hx H locs ls hP hS hl => va_alen X.1 X.2.1 X.2.2.2.2.2.1 hP k 0 ((wd_get ha.1).trans (by rw [ha.2])) (ty := .int) rfl hv hd (kk x hx H locs ls hP hS hl)
theorem j_ald_sht {i : Int32} (X : Cx p l e R s m args below meth c g cc nL own d) (hd : decode cc pc = .ok (.aaload, 1)) (kk : inb i 4 = true → J p l e R s m args below meth c g nL Qf o M (pc + 1) L (.ref (gA g (40 + 2 * i.toNatClampNeg)) :: st)) : J p l e R s m args below meth c g nL Qf (gd (inb i 4) o) M pc L (.int i :: .ref (gA g 39) :: st) :=
  fun x hx H locs ls hP hS hl => va_aldq X.1 X.2.1 X.2.2.2.2.2.1 hP 39 1 (C := "HillDance$Sheet") (f := fun i => some (gA g (40 + 2 * i))) (cA := gH g) (n := 4) (wd_get (by decide)) rfl (inb_vp (gd_some hx).1) hd (kk (gd_some hx).1 x (gd_some hx).2 H locs ls hP hS hl)
theorem j_ald_kn {i : Int32} (X : Cx p l e R s m args below meth c g cc nL own d) (hd : decode cc pc = .ok (.aaload, 1)) (kk : inb i 7 = true → J p l e R s m args below meth c g nL Qf o M (pc + 1) L (.ref (gS g i.toNatClampNeg) :: st)) : J p l e R s m args below meth c g nL Qf (gd (inb i 7) o) M pc L (.int i :: .ref (gA g 60) :: st) :=
  fun x hx H locs ls hP hS hl => va_aldq X.1 X.2.1 X.2.2.2.2.2.1 hP 60 2 (C := "java/lang/String") (f := fun i => some (gS g i)) (cA := gT g) (n := 7) (wd_get (by decide)) rfl (inb_vp (gd_some hx).1) hd (kk (gd_some hx).1 x (gd_some hx).2 H locs ls hP hS hl)
theorem j_alen_kn (X : Cx p l e R s m args below meth c g cc nL own d) (hd : decode cc pc = .ok (.arraylength, 1)) (kk : J p l e R s m args below meth c g nL Qf o M (pc + 1) L (.int 7 :: st)) : J p l e R s m args below meth c g nL Qf o M pc L (.ref (gA g 60) :: st) :=
  fun x hx H locs ls hP hS hl => va_alen X.1 X.2.1 X.2.2.2.2.2.1 hP 60 2 (cA := gT g) (x := (7, .inr (.inr (.inr (.inr (fun i => some (gS g i))))))) (wd_get (by decide)) (ty := .object "java/lang/String") rfl rfl hd (kk x hx H locs ls hP hS hl)
theorem j_gets_fo {idx : Nat} (X : Cx p l e R s m args below meth c g cc nL own d) (hl : (own, idx, "HillDance", "FURTHER_ON", "[I") ∈ nfs) (hd : decode cc pc = .ok (.getstatic idx, 3)) (kk : J p l e R s m args below meth c g nL Qf o M (pc + 3) L (.ref (gP g).1 :: st)) : J p l e R s m args below meth c g nL Qf o M pc L st :=
  fun x hx H locs ls hP hS hl' => va_getsN X.1 X.2.1 X.2.2.2.2.2.2.2.1.1.1 hS X.2.2.2.1 (va_Nw.use rfl (X.2.2.2.2.2.2.2.1.2.2.2.2.2.1 _ hl)) (fun _ h => h) hd (kk x hx H locs ls hP hS hl')
theorem j_gets_ka {idx : Nat} (X : Cx p l e R s m args below meth c g cc nL own d) (hl : Cond.fieldLink own idx "HillDance" "KIND_ABOVE" "[I" ∈ BG) (hd : decode cc pc = .ok (.getstatic idx, 3)) (kk : J p l e R s m args below meth c g nL Qf o M (pc + 3) L (.ref (gP g).2 :: st)) : J p l e R s m args below meth c g nL Qf o M pc L st :=
  fun x hx H locs ls hP hS hl' => va_gets X.1 X.2.1 X.2.2.2.2.2.2.2.1.2.1.1 hS X.2.2.2.1 (X.2.2.2.2.1 _ hl) (fun _ h => h) hd (kk x hx H locs ls hP hS hl')
theorem j_tld_fo {i : Int32} (X : Cx p l e R s m args below meth c g cc nL own d) (hd : decode cc pc = .ok (.iaload, 1)) (kk : inb i 4 = true → J p l e R s m args below meth c g nL Qf o M (pc + 1) L (.int (foT i.toNatClampNeg) :: st)) : J p l e R s m args below meth c g nL Qf (gd (inb i 4) o) M pc L (.int i :: .ref (gP g).1 :: st) :=
  fun x hx H locs ls hP hS hl => va_ti X.1 X.2.1 X.2.2.2.2.2.2.2.1.1.2 hS (inb_vp (gd_some hx).1) rfl hd (kk (gd_some hx).1 x (gd_some hx).2 H locs ls hP hS hl)
theorem j_tld_ka {i : Int32} (X : Cx p l e R s m args below meth c g cc nL own d) (hd : decode cc pc = .ok (.iaload, 1)) (kk : inb i 7 = true → J p l e R s m args below meth c g nL Qf o M (pc + 1) L (.int (kaT i.toNatClampNeg) :: st)) : J p l e R s m args below meth c g nL Qf (gd (inb i 7) o) M pc L (.int i :: .ref (gP g).2 :: st) :=
  fun x hx H locs ls hP hS hl => va_ti X.1 X.2.1 X.2.2.2.2.2.2.2.1.2.1.2 hS (inb_vp (gd_some hx).1) rfl hd (kk (gd_some hx).1 x (gd_some hx).2 H locs ls hP hS hl)
end JH
end
section
def QfI (below : List Frame) (args : Array Value) (s : State) (g : Gh) (x : Int32 × Mem) : State → Prop := MQ below (QI g x) args s 0 0 (Aw g)
def QfL (below : List Frame) (args : Array Value) (s : State) (g : Gh) (x : Int64 × Mem) : State → Prop := MQ below (QL g x) args s 0 0 (Aw g)
def QfV (below : List Frame) (args : Array Value) (s : State) (g : Gh) (x : Mem) : State → Prop := MQ below (QV g x) args s 0 0 (Aw g)
def QfR (below : List Frame) (args : Array Value) (s : State) (g : Gh) (x : Nat × Mem) : State → Prop := MQ below (QR g x) args s 0 0 (Aw g)
def swc {α : Type} (x : Int32) : List (Int32 × Option α) → Option α → Option α
  | [], od => od
  | (k, o) :: r, od => if x = k then o else swc x r od
def swk (pc : Nat) (lo hi : Int) (offs : Array Int) : List Int32 → List Nat → Bool
  | [], [] => true
  | k :: ks, t :: ts => decide (¬ k.toInt < lo) && decide (¬ hi < k.toInt) && (match offs[(k.toInt - lo).toNat]? with | some off => decide ((pc : Int) + off = (t : Int)) | none => false) && swk pc lo hi offs ks ts
  | _, _ => false
def swf (lo hi : Int) (ks : List Int32) : Bool := (List.range (hi - lo + 1).toNat).all fun i => ks.any fun k => k.toInt == lo + i
theorem isB_or {x : Int32} (h : isB x = true) : x = 0 ∨ x = 1 := by
  simp only [isB, Bool.or_eq_true, beq_iff_eq] at h
  exact h
theorem isB_n {x : Int32} (h : isB x = true) : narrow .boolean (.int x) = .int x := by
  rcases isB_or h with rfl | rfl <;> rfl
theorem isB_f {x : Int32} (h : isB x = true) : fits .boolean (.int x) = true := by
  rcases isB_or h with rfl | rfl <;> rfl
/-- a link to a method: the words that a call of it needs -/
def WlV (own : String) (idx : Nat) (C : String) (y : MethodName) (bytes : ByteArray) (mL : Nat) (rt : Option FieldType) (n : Nat) : Prop := Cond.methodLink own idx y ∈ BG ∧ Cond.instanceMethod y ∈ BG ∧ Cond.selects C y y ∈ BG ∧ Cond.initialized y.cls ∈ BG ∧ Cond.code y bytes mL rt ∈ BG ∧ (y.cls ≠ "java/lang/invoke/MethodHandle" ∧ y.cls ≠ "java/lang/invoke/VarHandle" ∧ (parseMethodDescriptor y.desc).map (fun d => d.parameters.length) = some n) ∧ mL ≤ 40
def WlS (own : String) (idx : Nat) (y : MethodName) (bytes : ByteArray) (mL : Nat) (rt : Option FieldType) (n : Nat) : Prop := Cond.methodLink own idx y ∈ BG ∧ Cond.static y ∈ BG ∧ Cond.initialized y.cls ∈ BG ∧ Cond.code y bytes mL rt ∈ BG ∧ (y.cls ≠ "java/lang/invoke/MethodHandle" ∧ y.cls ≠ "java/lang/invoke/VarHandle" ∧ (parseMethodDescriptor y.desc).map (fun d => d.parameters.length) = some n) ∧ mL ≤ 40
def WlN (own : String) (idx : Nat) (y : MethodName) (bytes : ByteArray) (mL : Nat) (rt : Option FieldType) (n : Nat) : Prop := (own, idx, y) ∈ nms ∧ Cond.static y ∈ BG ∧ Cond.initialized y.cls ∈ BG ∧ Cond.code y bytes mL rt ∈ BG ∧ (y.cls ≠ "java/lang/invoke/MethodHandle" ∧ y.cls ≠ "java/lang/invoke/VarHandle" ∧ (parseMethodDescriptor y.desc).map (fun d => d.parameters.length) = some n) ∧ mL ≤ 40
section JC
variable {p : Program} {l : Launch} {e : Env} {R : Room} {s : State} {m : MethodId} {args : Array Value} {below : List Frame} {meth : Method} {c : Code} {g : Gh} {nL : Nat} {α : Type} {Qf : α → State → Prop} {o o1 o2 : Option α} {M : Mem} {pc : Nat} {L Lq : List (Nat × Value)} {st rest : List Value} {cc : ByteArray} {own : String} {d : Nat}
theorem wo_end (X : Cx p l e R s m args below meth c g cc nL own d) {H : Heap} {locs : List Loc} {t : State} (hP : va_P (gD g) vwCl (wd g M) H) (hS : va_S (Aw g) s.heap H locs) (ht : t.heap = H) (hW : s.WarmedH t.vm) : Wo g M t :=
  ⟨by rw [ht]; exact hP, va_K.moved hW.alike X.2.2.2.2.2.1, X.2.2.2.2.2.2.1, by rw [ht]; exact (X.2.2.2.2.2.2.2.1.kept hS.2.1).warm hW⟩
theorem j_iret {x : Int32} (X : Cx p l e R s m args below meth c g cc nL own d) (hr : meth.sig.returnType = some .int) (hd : decode cc pc = .ok (.ireturn, 1)) : J p l e R s m args below meth c g nL (QfI below args s g) (some (x, M)) M pc L [.int x] := by
  intro v hv H locs ls hP hS hl
  cases hv
  exact W.iret (v := x) X.1 X.2.1 hr (fun t ht hW => ⟨⟨x, M, rfl, ⟨rfl, rfl⟩, wo_end X hP hS ht hW⟩, hS.F ht⟩) hS.2.2 hd X.2.2.2.2.2.2.2.2.2.2
theorem j_zret {x : Int32} (X : Cx p l e R s m args below meth c g cc nL own d) (hr : meth.sig.returnType = some .boolean) (hd : decode cc pc = .ok (.ireturn, 1)) : J p l e R s m args below meth c g nL (QfI below args s g) (gd (isB x) (some (x, M))) M pc L [.int x] := by
  intro v hv H locs ls hP hS hl
  obtain ⟨h1, h2⟩ := gd_some hv
  cases h2
  exact W.zret (v := x) (ty := .boolean) X.1 X.2.1 hr (isB_n h1) (fun t ht hW => ⟨⟨x, M, rfl, ⟨rfl, rfl⟩, wo_end X hP hS ht hW⟩, hS.F ht⟩) hS.2.2 hd X.2.2.2.2.2.2.2.2.2.2
theorem j_tret {x : Int32} {ty : FieldType} (X : Cx p l e R s m args below meth c g cc nL own d) (hr : meth.sig.returnType = some ty) (hn : narrow ty (.int x) = .int x) (hd : decode cc pc = .ok (.ireturn, 1)) : J p l e R s m args below meth c g nL (QfI below args s g) (some (x, M)) M pc L [.int x] := by
  intro v hv H locs ls hP hS hl
  cases hv
  exact W.zret (v := x) (ty := ty) X.1 X.2.1 hr hn (fun t ht hW => ⟨⟨x, M, rfl, ⟨rfl, rfl⟩, wo_end X hP hS ht hW⟩, hS.F ht⟩) hS.2.2 hd X.2.2.2.2.2.2.2.2.2.2
theorem j_lret {x : Int64} (X : Cx p l e R s m args below meth c g cc nL own d) (hr : meth.sig.returnType = some .long) (hd : decode cc pc = .ok (.lreturn, 1)) : J p l e R s m args below meth c g nL (QfL below args s g) (some (x, M)) M pc L [.long x] := by
  intro v hv H locs ls hP hS hl
  cases hv
  exact W.lret (v := x) X.1 X.2.1 hr (fun t ht hW => ⟨⟨x, M, rfl, ⟨rfl, rfl⟩, wo_end X hP hS ht hW⟩, hS.F ht⟩) hS.2.2 hd X.2.2.2.2.2.2.2.2.2.2
theorem j_vret (X : Cx p l e R s m args below meth c g cc nL own d) (hr : meth.sig.returnType = none) (hd : decode cc pc = .ok (.return_, 1)) : J p l e R s m args below meth c g nL (QfV below args s g) (some M) M pc L [] := by
  intro v hv H locs ls hP hS hl
  cases hv
  exact W.vret X.1 X.2.1 hr (fun t ht hW => ⟨⟨M, rfl, rfl, wo_end X hP hS ht hW⟩, hS.F ht⟩) hS.2.2 hd X.2.2.2.2.2.2.2.2.2.2
theorem j_aret {i : Nat} {n : String} (X : Cx p l e R s m args below meth c g cc nL own d) (hr : meth.sig.returnType = some (.object n)) (hd : decode cc pc = .ok (.areturn, 1)) : J p l e R s m args below meth c g nL (QfR below args s g) (some (i, M)) M pc L [.ref (gS g i)] := by
  intro v hv H locs ls hP hS hl
  cases hv
  exact W.aret (v := .ref (gS g i)) X.1 X.2.1 hr (Or.inl ⟨n, rfl⟩) (Or.inr ⟨_, rfl⟩) (fun t ht hW => ⟨⟨M, gS g i, rfl, rfl, rfl, wo_end X hP hS ht hW⟩, hS.F ht⟩) hS.2.2 hd X.2.2.2.2.2.2.2.2.2.2
theorem ctI_of {y : MethodName} {mL : Nat} {rt : Option FieldType} {av : List Value} {o : Option (Int32 × Mem)} (hy : plainName y.cls = true) (ho : y.cls = own) (hlen : (lg_sl av).length ≤ mL) (hL : lv_args 0 av = L) (body : ∀ (p : Program) (e : Env) (s : State) (m : MethodId) (args : Array Value) (below : List Frame) (meth : Method) (c : Code), Cx p l e (rmD d) s m args below meth c g cc mL own d → meth.sig.returnType = rt → J p l e (rmD d) s m args below meth c g mL (QfI below args s g) o M 0 L []) : CtI l g y cc mL rt d av M o := by
  intro x hx
  refine Met.ofW (cc := cc) (maxL := mL) (ret := rt) hy rfl ?_
  intro p e s m args below meth c s₁ B hml hv
  obtain ⟨rfl, hP, hK, hI, hF⟩ := hv
  have hts := atoms_spec (ws := wsM y cc mL rt) B.pre
  have hown : s.vm.findClass own = some m.cls := by rw [← ho]; exact findClass_of_methodNamed B.named
  have hl := lv_entry av (n := mL) hlen
  rw [lg_entry_eq]
  rw [hL] at hl
  exact body p e s m av.toArray below meth c ⟨B.exec, B.bytes, hml, hown, fun w hw => hts w (List.mem_cons_of_mem _ hw), hK, hI, hF, Nat.le_refl _, Nat.le_refl _, B.notSynchronized⟩ B.returns x hx s.heap [] _ hP va_S.rf hl
theorem ctL_of {y : MethodName} {mL : Nat} {rt : Option FieldType} {av : List Value} {o : Option (Int64 × Mem)} (hy : plainName y.cls = true) (ho : y.cls = own) (hlen : (lg_sl av).length ≤ mL) (hL : lv_args 0 av = L) (body : ∀ (p : Program) (e : Env) (s : State) (m : MethodId) (args : Array Value) (below : List Frame) (meth : Method) (c : Code), Cx p l e (rmD d) s m args below meth c g cc mL own d → meth.sig.returnType = rt → J p l e (rmD d) s m args below meth c g mL (QfL below args s g) o M 0 L []) : CtL l g y cc mL rt d av M o := by
  intro x hx
  refine Met.ofW (cc := cc) (maxL := mL) (ret := rt) hy rfl ?_
  intro p e s m args below meth c s₁ B hml hv
  obtain ⟨rfl, hP, hK, hI, hF⟩ := hv
  have hts := atoms_spec (ws := wsM y cc mL rt) B.pre
  have hown : s.vm.findClass own = some m.cls := by rw [← ho]; exact findClass_of_methodNamed B.named
  have hl := lv_entry av (n := mL) hlen
  rw [lg_entry_eq]
  rw [hL] at hl
  exact body p e s m av.toArray below meth c ⟨B.exec, B.bytes, hml, hown, fun w hw => hts w (List.mem_cons_of_mem _ hw), hK, hI, hF, Nat.le_refl _, Nat.le_refl _, B.notSynchronized⟩ B.returns x hx s.heap [] _ hP va_S.rf hl
theorem ctV_of {y : MethodName} {mL : Nat} {rt : Option FieldType} {av : List Value} {o : Option (Mem)} (hy : plainName y.cls = true) (ho : y.cls = own) (hlen : (lg_sl av).length ≤ mL) (hL : lv_args 0 av = L) (body : ∀ (p : Program) (e : Env) (s : State) (m : MethodId) (args : Array Value) (below : List Frame) (meth : Method) (c : Code), Cx p l e (rmD d) s m args below meth c g cc mL own d → meth.sig.returnType = rt → J p l e (rmD d) s m args below meth c g mL (QfV below args s g) o M 0 L []) : CtV l g y cc mL rt d av M o := by
  intro x hx
  refine Met.ofW (cc := cc) (maxL := mL) (ret := rt) hy rfl ?_
  intro p e s m args below meth c s₁ B hml hv
  obtain ⟨rfl, hP, hK, hI, hF⟩ := hv
  have hts := atoms_spec (ws := wsM y cc mL rt) B.pre
  have hown : s.vm.findClass own = some m.cls := by rw [← ho]; exact findClass_of_methodNamed B.named
  have hl := lv_entry av (n := mL) hlen
  rw [lg_entry_eq]
  rw [hL] at hl
  exact body p e s m av.toArray below meth c ⟨B.exec, B.bytes, hml, hown, fun w hw => hts w (List.mem_cons_of_mem _ hw), hK, hI, hF, Nat.le_refl _, Nat.le_refl _, B.notSynchronized⟩ B.returns x hx s.heap [] _ hP va_S.rf hl
theorem ctR_of {y : MethodName} {mL : Nat} {rt : Option FieldType} {av : List Value} {o : Option (Nat × Mem)} (hy : plainName y.cls = true) (ho : y.cls = own) (hlen : (lg_sl av).length ≤ mL) (hL : lv_args 0 av = L) (body : ∀ (p : Program) (e : Env) (s : State) (m : MethodId) (args : Array Value) (below : List Frame) (meth : Method) (c : Code), Cx p l e (rmD d) s m args below meth c g cc mL own d → meth.sig.returnType = rt → J p l e (rmD d) s m args below meth c g mL (QfR below args s g) o M 0 L []) : CtR l g y cc mL rt d av M o := by
  intro x hx
  refine Met.ofW (cc := cc) (maxL := mL) (ret := rt) hy rfl ?_
  intro p e s m args below meth c s₁ B hml hv
  obtain ⟨rfl, hP, hK, hI, hF⟩ := hv
  have hts := atoms_spec (ws := wsM y cc mL rt) B.pre
  have hown : s.vm.findClass own = some m.cls := by rw [← ho]; exact findClass_of_methodNamed B.named
  have hl := lv_entry av (n := mL) hlen
  rw [lg_entry_eq]
  rw [hL] at hl
  exact body p e s m av.toArray below meth c ⟨B.exec, B.bytes, hml, hown, fun w hw => hts w (List.mem_cons_of_mem _ hw), hK, hI, hF, Nat.le_refl _, Nat.le_refl _, B.notSynchronized⟩ B.returns x hx s.heap [] _ hP va_S.rf hl
theorem j_cVI {y : MethodName} {bytes : ByteArray} {mL n idx d2 : Nat} {rt : Option FieldType} {As : List Value} {ob : Option (Int32 × Mem)} {f : Int32 × Mem → Option α} {C : String} {T : u_T} {N ci k : Nat} {fs : List Value} (hk : k < 66) (hc : cf g k (M k) = .inr (ci, fs)) (hcl : vwCl[ci]? = some (C, T, N)) (X : Cx p l e R s m args below meth c g cc nL own d) (hC : CtI l g y bytes mL rt d2 (.ref (gA g k) :: As) M ob) (hw : WlV own idx C y bytes mL rt n) (hst : st = As.reverse ++ .ref (gA g k) :: rest) (hn : As.length = n) (hdd : d2 + 1 ≤ d) (hrest : (rest.map fun v => v.category).sum ≤ 8) (hd : decode cc pc = .ok (.invokevirtual idx, 3)) (kk : ∀ q : Int32 × Mem, J p l e R s m args below meth c g nL Qf (f q) q.2 (pc + 3) L (.int q.1 :: rest)) : J p l e R s m args below meth c g nL Qf (ob.bind f) M pc L st := by
  intro x hx H locs ls hP hS hl
  obtain ⟨x1, h1, h2⟩ := Option.bind_eq_some_iff.mp hx
  subst hst
  have hR1 : (rmD d2).frames + 1 ≤ R.frames := Nat.le_trans hdd X.2.2.2.2.2.2.2.2.1
  have hR2 : 8 + (mL + 11) + (rmD d2).locals ≤ R.locals := by
    have h3 := X.2.2.2.2.2.2.2.2.2.1
    have h4 := hw.2.2.2.2.2.2
    show 8 + (mL + 11) + 64 * d2 ≤ R.locals
    omega
  refine va_calli (va_runV (As := As) (rest := rest) ⟨X.1, X.2.1, X.2.2.1, X.2.2.2.1, X.2.2.2.2.1⟩ (hC x1 h1) ⟨callB_of n X.2.2.2.2.1 (good_BG hw.2.2.2.2.1) rfl rfl rfl (X.2.2.2.2.1 _ hw.2.2.2.1) (X.2.2.2.2.1 _ hw.1) hw.2.2.2.2.2.1 ⟨hR1, hR2⟩, X.2.2.2.2.1 _ hw.2.1, X.2.2.2.2.1 _ hw.2.2.1⟩ ⟨wo_blind, va_recv (ci := ci) (q0 := k) X.2.2.2.2.2.1 hP hcl ((wd_get hk).trans (by rw [hc])), fun U hU hW => ⟨rfl, wo_end X hP hS hU hW⟩⟩ rfl hn hl.1 rfl (lv_room hrest) hd ⟨Nat.zero_le _, Nat.zero_le _⟩) hS (fun q _ h => h) (fun q h => h) ?_
  intro r u t H1 locs1 ht hvm hw hB hz hk hS1
  obtain ⟨rfl, rfl⟩ := hw
  have hP1 := hB.1
  rw [ht] at hP1
  exact kk x1 x h2 H1 locs1 ls hP1 hS1 hl
theorem j_cTI {y : MethodName} {bytes : ByteArray} {mL n idx d2 : Nat} {rt : Option FieldType} {As : List Value} {ob : Option (Int32 × Mem)} {f : Int32 × Mem → Option α} {k : Nat} (hk : k < 12) (X : Cx p l e R s m args below meth c g cc nL own d) (hC : CtI l g y bytes mL rt d2 (.ref (gS g k) :: As) M ob) (hw : WlV own idx "java/lang/String" y bytes mL rt n) (hst : st = As.reverse ++ .ref (gS g k) :: rest) (hn : As.length = n) (hdd : d2 + 1 ≤ d) (hrest : (rest.map fun v => v.category).sum ≤ 8) (hd : decode cc pc = .ok (.invokevirtual idx, 3)) (kk : ∀ q : Int32 × Mem, J p l e R s m args below meth c g nL Qf (f q) q.2 (pc + 3) L (.int q.1 :: rest)) : J p l e R s m args below meth c g nL Qf (ob.bind f) M pc L st := by
  intro x hx H locs ls hP hS hl
  obtain ⟨x1, h1, h2⟩ := Option.bind_eq_some_iff.mp hx
  subst hst
  have hR1 : (rmD d2).frames + 1 ≤ R.frames := Nat.le_trans hdd X.2.2.2.2.2.2.2.2.1
  have hR2 : 8 + (mL + 11) + (rmD d2).locals ≤ R.locals := by
    have h3 := X.2.2.2.2.2.2.2.2.2.1
    have h4 := hw.2.2.2.2.2.2
    show 8 + (mL + 11) + 64 * d2 ≤ R.locals
    omega
  refine va_calli (va_runV (As := As) (rest := rest) ⟨X.1, X.2.1, X.2.2.1, X.2.2.2.1, X.2.2.2.2.1⟩ (hC x1 h1) ⟨callB_of n X.2.2.2.2.1 (good_BG hw.2.2.2.2.1) rfl rfl rfl (X.2.2.2.2.1 _ hw.2.2.2.1) (X.2.2.2.2.1 _ hw.1) hw.2.2.2.2.2.1 ⟨hR1, hR2⟩, X.2.2.2.2.1 _ hw.2.1, X.2.2.2.2.1 _ hw.2.2.1⟩ ⟨wo_blind, vk_recv X.2.2.2.2.2.2.2.1.2.2.2.2.1 hk hS, fun U hU hW => ⟨rfl, wo_end X hP hS hU hW⟩⟩ rfl hn hl.1 rfl (lv_room hrest) hd ⟨Nat.zero_le _, Nat.zero_le _⟩) hS (fun q _ h => h) (fun q h => h) ?_
  intro r u t H1 locs1 ht hvm hw hB hz hk hS1
  obtain ⟨rfl, rfl⟩ := hw
  have hP1 := hB.1
  rw [ht] at hP1
  exact kk x1 x h2 H1 locs1 ls hP1 hS1 hl
theorem j_cSI {y : MethodName} {bytes : ByteArray} {mL n idx d2 : Nat} {rt : Option FieldType} {As : List Value} {ob : Option (Int32 × Mem)} {f : Int32 × Mem → Option α}  (X : Cx p l e R s m args below meth c g cc nL own d) (hC : CtI l g y bytes mL rt d2 As M ob) (hw : WlS own idx y bytes mL rt n) (hst : st = As.reverse ++ rest) (hn : As.length = n) (hdd : d2 + 1 ≤ d) (hrest : (rest.map fun v => v.category).sum ≤ 8) (hd : decode cc pc = .ok (.invokestatic idx, 3)) (kk : ∀ q : Int32 × Mem, J p l e R s m args below meth c g nL Qf (f q) q.2 (pc + 3) L (.int q.1 :: rest)) : J p l e R s m args below meth c g nL Qf (ob.bind f) M pc L st := by
  intro x hx H locs ls hP hS hl
  obtain ⟨x1, h1, h2⟩ := Option.bind_eq_some_iff.mp hx
  subst hst
  have hR1 : (rmD d2).frames + 1 ≤ R.frames := Nat.le_trans hdd X.2.2.2.2.2.2.2.2.1
  have hR2 : 8 + (mL + 11) + (rmD d2).locals ≤ R.locals := by
    have h3 := X.2.2.2.2.2.2.2.2.2.1
    have h4 := hw.2.2.2.2.2
    show 8 + (mL + 11) + 64 * d2 ≤ R.locals
    omega
  refine va_calli (va_runS (As := As) (rest := rest) ⟨X.1, X.2.1, X.2.2.1, X.2.2.2.1, X.2.2.2.2.1⟩ (hC x1 h1) ⟨callB_of n X.2.2.2.2.1 (good_BG hw.2.2.2.1) rfl rfl rfl (X.2.2.2.2.1 _ hw.2.2.1) (X.2.2.2.2.1 _ hw.1) hw.2.2.2.2.1 ⟨hR1, hR2⟩, X.2.2.2.2.1 _ hw.2.1⟩ ⟨wo_blind, fun U hU hW => ⟨rfl, wo_end X hP hS hU hW⟩⟩ rfl hn hl.1 rfl (lv_room hrest) hd ⟨Nat.zero_le _, Nat.zero_le _⟩) hS (fun q _ h => h) (fun q h => h) ?_
  intro r u t H1 locs1 ht hvm hw hB hz hk hS1
  obtain ⟨rfl, rfl⟩ := hw
  have hP1 := hB.1
  rw [ht] at hP1
  exact kk x1 x h2 H1 locs1 ls hP1 hS1 hl
theorem j_cNI {y : MethodName} {bytes : ByteArray} {mL n idx d2 : Nat} {rt : Option FieldType} {As : List Value} {ob : Option (Int32 × Mem)} {f : Int32 × Mem → Option α}  (X : Cx p l e R s m args below meth c g cc nL own d) (hC : CtI l g y bytes mL rt d2 As M ob) (hw : WlN own idx y bytes mL rt n) (hst : st = As.reverse ++ rest) (hn : As.length = n) (hdd : d2 + 1 ≤ d) (hrest : (rest.map fun v => v.category).sum ≤ 8) (hd : decode cc pc = .ok (.invokestatic idx, 3)) (kk : ∀ q : Int32 × Mem, J p l e R s m args below meth c g nL Qf (f q) q.2 (pc + 3) L (.int q.1 :: rest)) : J p l e R s m args below meth c g nL Qf (ob.bind f) M pc L st := by
  intro x hx H locs ls hP hS hl
  obtain ⟨x1, h1, h2⟩ := Option.bind_eq_some_iff.mp hx
  subst hst
  have hR1 : (rmD d2).frames + 1 ≤ R.frames := Nat.le_trans hdd X.2.2.2.2.2.2.2.2.1
  have hR2 : 8 + (mL + 11) + (rmD d2).locals ≤ R.locals := by
    have h3 := X.2.2.2.2.2.2.2.2.2.1
    have h4 := hw.2.2.2.2.2
    show 8 + (mL + 11) + 64 * d2 ≤ R.locals
    omega
  refine va_calli (va_runSN (As := As) (rest := rest) ⟨X.1, X.2.1, X.2.2.1, X.2.2.2.1, X.2.2.2.2.1⟩ (hC x1 h1) ⟨va_cnB n X.2.2.2.2.1 (good_BG hw.2.2.2.1) rfl rfl rfl (X.2.2.2.2.2.2.2.1.2.2.2.2.2.2.1 _ hw.1) (X.2.2.2.2.1 _ hw.2.2.1) hw.2.2.2.2.1 ⟨hR1, hR2⟩, X.2.2.2.2.1 _ hw.2.1, trivial⟩ ⟨wo_blind, fun U hU hW => ⟨rfl, wo_end X hP hS hU hW⟩⟩ rfl hn hl.1 rfl (lv_room hrest) hd ⟨Nat.zero_le _, Nat.zero_le _⟩) hS (fun q _ h => h) (fun q h => h) ?_
  intro r u t H1 locs1 ht hvm hw hB hz hk hS1
  obtain ⟨rfl, rfl⟩ := hw
  have hP1 := hB.1
  rw [ht] at hP1
  exact kk x1 x h2 H1 locs1 ls hP1 hS1 hl
theorem j_cVL {y : MethodName} {bytes : ByteArray} {mL n idx d2 : Nat} {rt : Option FieldType} {As : List Value} {ob : Option (Int64 × Mem)} {f : Int64 × Mem → Option α} {C : String} {T : u_T} {N ci k : Nat} {fs : List Value} (hk : k < 66) (hc : cf g k (M k) = .inr (ci, fs)) (hcl : vwCl[ci]? = some (C, T, N)) (X : Cx p l e R s m args below meth c g cc nL own d) (hC : CtL l g y bytes mL rt d2 (.ref (gA g k) :: As) M ob) (hw : WlV own idx C y bytes mL rt n) (hst : st = As.reverse ++ .ref (gA g k) :: rest) (hn : As.length = n) (hdd : d2 + 1 ≤ d) (hrest : (rest.map fun v => v.category).sum ≤ 8) (hd : decode cc pc = .ok (.invokevirtual idx, 3)) (kk : ∀ q : Int64 × Mem, J p l e R s m args below meth c g nL Qf (f q) q.2 (pc + 3) L (.long q.1 :: rest)) : J p l e R s m args below meth c g nL Qf (ob.bind f) M pc L st := by
  intro x hx H locs ls hP hS hl
  obtain ⟨x1, h1, h2⟩ := Option.bind_eq_some_iff.mp hx
  subst hst
  have hR1 : (rmD d2).frames + 1 ≤ R.frames := Nat.le_trans hdd X.2.2.2.2.2.2.2.2.1
  have hR2 : 8 + (mL + 11) + (rmD d2).locals ≤ R.locals := by
    have h3 := X.2.2.2.2.2.2.2.2.2.1
    have h4 := hw.2.2.2.2.2.2
    show 8 + (mL + 11) + 64 * d2 ≤ R.locals
    omega
  refine va_calll (va_runV (As := As) (rest := rest) ⟨X.1, X.2.1, X.2.2.1, X.2.2.2.1, X.2.2.2.2.1⟩ (hC x1 h1) ⟨callB_of n X.2.2.2.2.1 (good_BG hw.2.2.2.2.1) rfl rfl rfl (X.2.2.2.2.1 _ hw.2.2.2.1) (X.2.2.2.2.1 _ hw.1) hw.2.2.2.2.2.1 ⟨hR1, hR2⟩, X.2.2.2.2.1 _ hw.2.1, X.2.2.2.2.1 _ hw.2.2.1⟩ ⟨wo_blind, va_recv (ci := ci) (q0 := k) X.2.2.2.2.2.1 hP hcl ((wd_get hk).trans (by rw [hc])), fun U hU hW => ⟨rfl, wo_end X hP hS hU hW⟩⟩ rfl hn hl.1 rfl (lv_room hrest) hd ⟨Nat.zero_le _, Nat.zero_le _⟩) hS (fun q _ h => h) (fun q h => h) ?_
  intro r u t H1 locs1 ht hvm hw hB hz hk hS1
  obtain ⟨rfl, rfl⟩ := hw
  have hP1 := hB.1
  rw [ht] at hP1
  exact kk x1 x h2 H1 locs1 ls hP1 hS1 hl
theorem j_cSL {y : MethodName} {bytes : ByteArray} {mL n idx d2 : Nat} {rt : Option FieldType} {As : List Value} {ob : Option (Int64 × Mem)} {f : Int64 × Mem → Option α}  (X : Cx p l e R s m args below meth c g cc nL own d) (hC : CtL l g y bytes mL rt d2 As M ob) (hw : WlS own idx y bytes mL rt n) (hst : st = As.reverse ++ rest) (hn : As.length = n) (hdd : d2 + 1 ≤ d) (hrest : (rest.map fun v => v.category).sum ≤ 8) (hd : decode cc pc = .ok (.invokestatic idx, 3)) (kk : ∀ q : Int64 × Mem, J p l e R s m args below meth c g nL Qf (f q) q.2 (pc + 3) L (.long q.1 :: rest)) : J p l e R s m args below meth c g nL Qf (ob.bind f) M pc L st := by
  intro x hx H locs ls hP hS hl
  obtain ⟨x1, h1, h2⟩ := Option.bind_eq_some_iff.mp hx
  subst hst
  have hR1 : (rmD d2).frames + 1 ≤ R.frames := Nat.le_trans hdd X.2.2.2.2.2.2.2.2.1
  have hR2 : 8 + (mL + 11) + (rmD d2).locals ≤ R.locals := by
    have h3 := X.2.2.2.2.2.2.2.2.2.1
    have h4 := hw.2.2.2.2.2
    show 8 + (mL + 11) + 64 * d2 ≤ R.locals
    omega
  refine va_calll (va_runS (As := As) (rest := rest) ⟨X.1, X.2.1, X.2.2.1, X.2.2.2.1, X.2.2.2.2.1⟩ (hC x1 h1) ⟨callB_of n X.2.2.2.2.1 (good_BG hw.2.2.2.1) rfl rfl rfl (X.2.2.2.2.1 _ hw.2.2.1) (X.2.2.2.2.1 _ hw.1) hw.2.2.2.2.1 ⟨hR1, hR2⟩, X.2.2.2.2.1 _ hw.2.1⟩ ⟨wo_blind, fun U hU hW => ⟨rfl, wo_end X hP hS hU hW⟩⟩ rfl hn hl.1 rfl (lv_room hrest) hd ⟨Nat.zero_le _, Nat.zero_le _⟩) hS (fun q _ h => h) (fun q h => h) ?_
  intro r u t H1 locs1 ht hvm hw hB hz hk hS1
  obtain ⟨rfl, rfl⟩ := hw
  have hP1 := hB.1
  rw [ht] at hP1
  exact kk x1 x h2 H1 locs1 ls hP1 hS1 hl
theorem j_cVV {y : MethodName} {bytes : ByteArray} {mL n idx d2 : Nat} {rt : Option FieldType} {As : List Value} {ob : Option (Mem)} {f : Mem → Option α} {C : String} {T : u_T} {N ci k : Nat} {fs : List Value} (hk : k < 66) (hc : cf g k (M k) = .inr (ci, fs)) (hcl : vwCl[ci]? = some (C, T, N)) (X : Cx p l e R s m args below meth c g cc nL own d) (hC : CtV l g y bytes mL rt d2 (.ref (gA g k) :: As) M ob) (hw : WlV own idx C y bytes mL rt n) (hst : st = As.reverse ++ .ref (gA g k) :: rest) (hn : As.length = n) (hdd : d2 + 1 ≤ d) (hrest : (rest.map fun v => v.category).sum ≤ 8) (hd : decode cc pc = .ok (.invokevirtual idx, 3)) (kk : ∀ q : Mem, J p l e R s m args below meth c g nL Qf (f q) q (pc + 3) L rest) : J p l e R s m args below meth c g nL Qf (ob.bind f) M pc L st := by
  intro x hx H locs ls hP hS hl
  obtain ⟨x1, h1, h2⟩ := Option.bind_eq_some_iff.mp hx
  subst hst
  have hR1 : (rmD d2).frames + 1 ≤ R.frames := Nat.le_trans hdd X.2.2.2.2.2.2.2.2.1
  have hR2 : 8 + (mL + 11) + (rmD d2).locals ≤ R.locals := by
    have h3 := X.2.2.2.2.2.2.2.2.2.1
    have h4 := hw.2.2.2.2.2.2
    show 8 + (mL + 11) + 64 * d2 ≤ R.locals
    omega
  refine va_callv (va_runV (As := As) (rest := rest) ⟨X.1, X.2.1, X.2.2.1, X.2.2.2.1, X.2.2.2.2.1⟩ (hC x1 h1) ⟨callB_of n X.2.2.2.2.1 (good_BG hw.2.2.2.2.1) rfl rfl rfl (X.2.2.2.2.1 _ hw.2.2.2.1) (X.2.2.2.2.1 _ hw.1) hw.2.2.2.2.2.1 ⟨hR1, hR2⟩, X.2.2.2.2.1 _ hw.2.1, X.2.2.2.2.1 _ hw.2.2.1⟩ ⟨wo_blind, va_recv (ci := ci) (q0 := k) X.2.2.2.2.2.1 hP hcl ((wd_get hk).trans (by rw [hc])), fun U hU hW => ⟨rfl, wo_end X hP hS hU hW⟩⟩ rfl hn hl.1 rfl (lv_room hrest) hd ⟨Nat.zero_le _, Nat.zero_le _⟩) hS (fun q _ h => h) (fun q h => h) ?_
  intro u t H1 locs1 ht hvm hw hB hz hk hS1
  rw [hw] at hB
  have hP1 := hB.1
  rw [ht] at hP1
  exact kk x1 x h2 H1 locs1 ls hP1 hS1 hl
theorem j_cSV {y : MethodName} {bytes : ByteArray} {mL n idx d2 : Nat} {rt : Option FieldType} {As : List Value} {ob : Option (Mem)} {f : Mem → Option α}  (X : Cx p l e R s m args below meth c g cc nL own d) (hC : CtV l g y bytes mL rt d2 As M ob) (hw : WlS own idx y bytes mL rt n) (hst : st = As.reverse ++ rest) (hn : As.length = n) (hdd : d2 + 1 ≤ d) (hrest : (rest.map fun v => v.category).sum ≤ 8) (hd : decode cc pc = .ok (.invokestatic idx, 3)) (kk : ∀ q : Mem, J p l e R s m args below meth c g nL Qf (f q) q (pc + 3) L rest) : J p l e R s m args below meth c g nL Qf (ob.bind f) M pc L st := by
  intro x hx H locs ls hP hS hl
  obtain ⟨x1, h1, h2⟩ := Option.bind_eq_some_iff.mp hx
  subst hst
  have hR1 : (rmD d2).frames + 1 ≤ R.frames := Nat.le_trans hdd X.2.2.2.2.2.2.2.2.1
  have hR2 : 8 + (mL + 11) + (rmD d2).locals ≤ R.locals := by
    have h3 := X.2.2.2.2.2.2.2.2.2.1
    have h4 := hw.2.2.2.2.2
    show 8 + (mL + 11) + 64 * d2 ≤ R.locals
    omega
  refine va_callv (va_runS (As := As) (rest := rest) ⟨X.1, X.2.1, X.2.2.1, X.2.2.2.1, X.2.2.2.2.1⟩ (hC x1 h1) ⟨callB_of n X.2.2.2.2.1 (good_BG hw.2.2.2.1) rfl rfl rfl (X.2.2.2.2.1 _ hw.2.2.1) (X.2.2.2.2.1 _ hw.1) hw.2.2.2.2.1 ⟨hR1, hR2⟩, X.2.2.2.2.1 _ hw.2.1⟩ ⟨wo_blind, fun U hU hW => ⟨rfl, wo_end X hP hS hU hW⟩⟩ rfl hn hl.1 rfl (lv_room hrest) hd ⟨Nat.zero_le _, Nat.zero_le _⟩) hS (fun q _ h => h) (fun q h => h) ?_
  intro u t H1 locs1 ht hvm hw hB hz hk hS1
  rw [hw] at hB
  have hP1 := hB.1
  rw [ht] at hP1
  exact kk x1 x h2 H1 locs1 ls hP1 hS1 hl
theorem j_cVR {y : MethodName} {bytes : ByteArray} {mL n idx d2 : Nat} {rt : Option FieldType} {As : List Value} {ob : Option (Nat × Mem)} {f : Nat × Mem → Option α} {C : String} {T : u_T} {N ci k : Nat} {fs : List Value} (hk : k < 66) (hc : cf g k (M k) = .inr (ci, fs)) (hcl : vwCl[ci]? = some (C, T, N)) (X : Cx p l e R s m args below meth c g cc nL own d) (hC : CtR l g y bytes mL rt d2 (.ref (gA g k) :: As) M ob) (hw : WlV own idx C y bytes mL rt n) (hst : st = As.reverse ++ .ref (gA g k) :: rest) (hn : As.length = n) (hdd : d2 + 1 ≤ d) (hrest : (rest.map fun v => v.category).sum ≤ 8) (hd : decode cc pc = .ok (.invokevirtual idx, 3)) (kk : ∀ q : Nat × Mem, J p l e R s m args below meth c g nL Qf (f q) q.2 (pc + 3) L (.ref (gS g q.1) :: rest)) : J p l e R s m args below meth c g nL Qf (ob.bind f) M pc L st := by
  intro x hx H locs ls hP hS hl
  obtain ⟨x1, h1, h2⟩ := Option.bind_eq_some_iff.mp hx
  subst hst
  have hR1 : (rmD d2).frames + 1 ≤ R.frames := Nat.le_trans hdd X.2.2.2.2.2.2.2.2.1
  have hR2 : 8 + (mL + 11) + (rmD d2).locals ≤ R.locals := by
    have h3 := X.2.2.2.2.2.2.2.2.2.1
    have h4 := hw.2.2.2.2.2.2
    show 8 + (mL + 11) + 64 * d2 ≤ R.locals
    omega
  refine va_callr (va_runV (As := As) (rest := rest) ⟨X.1, X.2.1, X.2.2.1, X.2.2.2.1, X.2.2.2.2.1⟩ (hC x1 h1) ⟨callB_of n X.2.2.2.2.1 (good_BG hw.2.2.2.2.1) rfl rfl rfl (X.2.2.2.2.1 _ hw.2.2.2.1) (X.2.2.2.2.1 _ hw.1) hw.2.2.2.2.2.1 ⟨hR1, hR2⟩, X.2.2.2.2.1 _ hw.2.1, X.2.2.2.2.1 _ hw.2.2.1⟩ ⟨wo_blind, va_recv (ci := ci) (q0 := k) X.2.2.2.2.2.1 hP hcl ((wd_get hk).trans (by rw [hc])), fun U hU hW => ⟨rfl, wo_end X hP hS hU hW⟩⟩ rfl hn hl.1 rfl (lv_room hrest) hd ⟨Nat.zero_le _, Nat.zero_le _⟩) hS (fun q _ h => h) (fun q h => h) ?_
  intro u ra t H1 locs1 ht hvm hw hB hz hk hS1
  subst hw
  obtain ⟨rfl, hB⟩ := hB
  have hP1 := hB.1
  rw [ht] at hP1
  exact kk x1 x h2 H1 locs1 ls hP1 hS1 hl
theorem j_cSR {y : MethodName} {bytes : ByteArray} {mL n idx d2 : Nat} {rt : Option FieldType} {As : List Value} {ob : Option (Nat × Mem)} {f : Nat × Mem → Option α}  (X : Cx p l e R s m args below meth c g cc nL own d) (hC : CtR l g y bytes mL rt d2 As M ob) (hw : WlS own idx y bytes mL rt n) (hst : st = As.reverse ++ rest) (hn : As.length = n) (hdd : d2 + 1 ≤ d) (hrest : (rest.map fun v => v.category).sum ≤ 8) (hd : decode cc pc = .ok (.invokestatic idx, 3)) (kk : ∀ q : Nat × Mem, J p l e R s m args below meth c g nL Qf (f q) q.2 (pc + 3) L (.ref (gS g q.1) :: rest)) : J p l e R s m args below meth c g nL Qf (ob.bind f) M pc L st := by
  intro x hx H locs ls hP hS hl
  obtain ⟨x1, h1, h2⟩ := Option.bind_eq_some_iff.mp hx
  subst hst
  have hR1 : (rmD d2).frames + 1 ≤ R.frames := Nat.le_trans hdd X.2.2.2.2.2.2.2.2.1
  have hR2 : 8 + (mL + 11) + (rmD d2).locals ≤ R.locals := by
    have h3 := X.2.2.2.2.2.2.2.2.2.1
    have h4 := hw.2.2.2.2.2
    show 8 + (mL + 11) + 64 * d2 ≤ R.locals
    omega
  refine va_callr (va_runS (As := As) (rest := rest) ⟨X.1, X.2.1, X.2.2.1, X.2.2.2.1, X.2.2.2.2.1⟩ (hC x1 h1) ⟨callB_of n X.2.2.2.2.1 (good_BG hw.2.2.2.1) rfl rfl rfl (X.2.2.2.2.1 _ hw.2.2.1) (X.2.2.2.2.1 _ hw.1) hw.2.2.2.2.1 ⟨hR1, hR2⟩, X.2.2.2.2.1 _ hw.2.1⟩ ⟨wo_blind, fun U hU hW => ⟨rfl, wo_end X hP hS hU hW⟩⟩ rfl hn hl.1 rfl (lv_room hrest) hd ⟨Nat.zero_le _, Nat.zero_le _⟩) hS (fun q _ h => h) (fun q h => h) ?_
  intro u ra t H1 locs1 ht hvm hw hB hz hk hS1
  subst hw
  obtain ⟨rfl, hB⟩ := hB
  have hP1 := hB.1
  rw [ht] at hP1
  exact kk x1 x h2 H1 locs1 ls hP1 hS1 hl
theorem j_mmax {idx : Nat} {x y : Int32} (X : Cx p l e R s m args below meth c g cc nL own d) (h1 : Cond.methodLink own idx Lib.Math.max.name ∈ BG) (h2 : Cond.static Lib.Math.max.name ∈ BG) (h3 : Cond.initialized "java/lang/Math" ∈ BG) (h4 : Cond.code Lib.Math.max.name Lib.Math.max.code 2 (some .int) ∈ BG) (hd1 : 1 ≤ d) (hrest : (rest.map fun v => v.category).sum ≤ 8) (hd : decode cc pc = .ok (.invokestatic idx, 3)) (kk : J p l e R s m args below meth c g nL Qf o M (pc + 3) L (.int (if x < y then y else x) :: rest)) : J p l e R s m args below meth c g nL Qf o M pc L (.int y :: .int x :: rest) :=
  fun v hv H locs ls hP hS hl => va_mmax X.1 X.2.1 (X.2.2.1.trans hl.1.symm) X.2.2.2.1 (X.2.2.2.2.1 _ h1) (X.2.2.2.2.1 _ h2) (X.2.2.2.2.1 _ h3) (X.2.2.2.2.1 _ h4) (Nat.le_trans hd1 X.2.2.2.2.2.2.2.2.1) (by have h9 := X.2.2.2.2.2.2.2.2.2.1; omega) (Nat.zero_le _) (Nat.zero_le _) hd (kk v hv H locs ls hP hS hl)
theorem j_mmin {idx : Nat} {x y : Int32} (X : Cx p l e R s m args below meth c g cc nL own d) (h1 : Cond.methodLink own idx Lib.Math.min.name ∈ BG) (h2 : Cond.static Lib.Math.min.name ∈ BG) (h3 : Cond.initialized "java/lang/Math" ∈ BG) (h4 : Cond.code Lib.Math.min.name Lib.Math.min.code 2 (some .int) ∈ BG) (hd1 : 1 ≤ d) (hrest : (rest.map fun v => v.category).sum ≤ 8) (hd : decode cc pc = .ok (.invokestatic idx, 3)) (kk : J p l e R s m args below meth c g nL Qf o M (pc + 3) L (.int (if y < x then y else x) :: rest)) : J p l e R s m args below meth c g nL Qf o M pc L (.int y :: .int x :: rest) :=
  fun v hv H locs ls hP hS hl => va_mmin X.1 X.2.1 (X.2.2.1.trans hl.1.symm) X.2.2.2.1 (X.2.2.2.2.1 _ h1) (X.2.2.2.2.1 _ h2) (X.2.2.2.2.1 _ h3) (X.2.2.2.2.1 _ h4) (Nat.le_trans hd1 X.2.2.2.2.2.2.2.2.1) (by have h9 := X.2.2.2.2.2.2.2.2.2.1; omega) (Nat.zero_le _) (Nat.zero_le _) hd (kk v hv H locs ls hP hS hl)
def cpo (sp dp n : Int32) (n0 n1 : Nat) : Bool := !(decide (sp < 0)) && (!(decide (dp < 0)) && (!(decide (n < 0)) && (decide (sp.toNatClampNeg + n.toNatClampNeg ≤ n0) && decide (dp.toNatClampNeg + n.toNatClampNeg ≤ n1))))
theorem nfw : nativeFrameWords "java/lang/System" "arraycopy" 5 + 11 ≤ 56 := by decide +kernel
theorem j_acopy {idx k0 k1 n0 n1 : Nat} {sp dp n : Int32} (X : Cx p l e R s m args below meth c g cc nL own d) (h1 : Cond.methodLink own idx arraycopyName ∈ BG) (h2 : Cond.native arraycopyName ∈ BG) (h3 : Cond.static arraycopyName ∈ BG) (h4 : Cond.initialized "java/lang/System" ∈ BG) (a0 : ia k0 n0) (a1 : ia k1 n1) (hd1 : 1 ≤ d) (hrest : (rest.map fun v => v.category).sum ≤ 8) (hd : decode cc pc = .ok (.invokestatic idx, 3)) (kk : J p l e R s m args below meth c g nL Qf o (upA M k1 (va_cpy (M k0) (M k1) sp.toNatClampNeg dp.toNatClampNeg n.toNatClampNeg)) (pc + 3) L rest) : J p l e R s m args below meth c g nL Qf (gd (cpo sp dp n n0 n1) o) M pc L (.int n :: .int dp :: .ref (gA g k1) :: .int sp :: .ref (gA g k0) :: rest) := by
  intro v hv H locs ls hP hS hl
  obtain ⟨hc, hv⟩ := gd_some hv
  simp only [cpo, Bool.and_eq_true, Bool.not_eq_true', decide_eq_false_iff_not, decide_eq_true_eq] at hc
  obtain ⟨c1, c2, c3, c4, c5⟩ := hc
  exact va_copyi (ty := .int) X.1 X.2.1 (X.2.2.1.trans hl.1.symm) X.2.2.2.1 (X.2.2.2.2.1 _ h1) (X.2.2.2.2.1 _ h2) (X.2.2.2.2.1 _ h3) (X.2.2.2.2.1 _ h4) X.2.2.2.2.2.1 hP (wd_D X.2.2.2.2.2.2.1) hS k0 k1 0 0 ((wd_get a0.1).trans (by rw [a0.2])) ((wd_get a1.1).trans (by rw [a1.2])) rfl rfl rfl c1 c2 c3 c4 c5 (fun _ _ => rfl) (Nat.le_trans hd1 X.2.2.2.2.2.2.2.2.1) (by have h9 := X.2.2.2.2.2.2.2.2.2.1; have h8 := nfw; omega) hd
    (fun H1 locs1 hP1 _ hS1 => kk v hv H1 locs1 ls (by rw [← a1.2 g, wd_set a1.1] at hP1; exact hP1) hS1 hl)
theorem j_lcmp {x y : Int64} (X : Cx p l e R s m args below meth c g cc nL own d) (hd : decode cc pc = .ok (.lcmp, 1)) (k : J p l e R s m args below meth c g nL Qf o M (pc + 1) L (.int (lg_cmp x y) :: st)) : J p l e R s m args below meth c g nL Qf o M pc L (.long y :: .long x :: st) := fun v hv H locs ls hP hS hl => W.lcmp X.1 X.2.1 hd (k v hv H locs ls hP hS hl)
def jAll (p : Program) (l : Launch) (e : Env) (R : Room) (s : State) (m : MethodId) (args : Array Value) (below : List Frame) (meth : Method) (c : Code) (g : Gh) (nL : Nat) {α : Type} (Qf : α → State → Prop) (M : Mem) (L : List (Nat × Value)) (st : List Value) : List (Int32 × Option α) → List Nat → Prop
  | [], [] => True
  | q :: r, t :: ts => J p l e R s m args below meth c g nL Qf q.2 M t L st ∧ jAll p l e R s m args below meth c g nL Qf M L st r ts
  | _, _ => False
theorem j_sw_in {off : Int} {len : Nat} {dflt lo hi : Int} {offs : Array Int} {x : Int32} (X : Cx p l e R s m args below meth c g cc nL own d) (hd : decode cc pc = .ok (.tableswitch dflt lo hi offs, len)) : ∀ (os : List (Int32 × Option α)) (tg : List Nat) (od : Option α), swk pc lo hi offs (os.map Prod.fst) tg = true → jAll p l e R s m args below meth c g nL Qf M L st os tg → ((∀ k ∈ os.map Prod.fst, ¬ x = k) → J p l e R s m args below meth c g nL Qf od M pc L (.int x :: st)) → J p l e R s m args below meth c g nL Qf (swc x os od) M pc L (.int x :: st) := by
  intro os
  induction os with
  | nil =>
    intro tg od h1 h2 h3
    exact h3 (fun k hk => by cases hk)
  | cons q r ih =>
    intro tg od h1 h2 h3
    obtain ⟨k, o⟩ := q
    cases tg with
    | nil => cases h2
    | cons t ts =>
      simp only [List.map_cons, swk, Bool.and_eq_true, decide_eq_true_eq] at h1
      obtain ⟨⟨⟨g1, g2⟩, g3⟩, g4⟩ := h1
      intro v hv H locs ls hP hS hl
      by_cases hk : x = k
      · subst hk
        simp only [swc, if_true] at hv
        cases ho : offs[(x.toInt - lo).toNat]? with
        | none => rw [ho] at g3; cases g3
        | some off =>
          rw [ho] at g3
          exact lv_tableIn X.1 X.2.1 hd g1 g2 ho (by simpa using g3) (h2.1 v hv H locs ls hP hS hl)
      · rw [swc, if_neg hk] at hv
        refine ih ts od g4 h2.2 (fun h => h3 (fun k' hk' => ?_)) v hv H locs ls hP hS hl
        rcases List.mem_cons.mp hk' with e1 | e1
        · rw [e1]; exact hk
        · exact h k' e1
theorem j_tsw {len : Nat} {dflt lo hi : Int} {offs : Array Int} {x : Int32} {os : List (Int32 × Option α)} {od : Option α} {dt : Nat} (ks : List Int32) (tg : List Nat) (X : Cx p l e R s m args below meth c g cc nL own d) (hd : decode cc pc = .ok (.tableswitch dflt lo hi offs, len)) (hk : os.map Prod.fst = ks) (h1 : swk pc lo hi offs ks tg = true) (h2 : swf lo hi ks = true) (ht : (pc : Int) + dflt = (dt : Int)) (k1 : jAll p l e R s m args below meth c g nL Qf M L st os tg) (k2 : J p l e R s m args below meth c g nL Qf od M dt L st) : J p l e R s m args below meth c g nL Qf (swc x os od) M pc L (.int x :: st) := by
  subst hk
  refine j_sw_in (off := 0) X hd os tg od h1 k1 (fun hne => ?_)
  intro v hv H locs ls hP hS hl
  refine lv_tableOut X.1 X.2.1 hd ?_ ht (k2 v hv H locs ls hP hS hl)
  by_cases a1 : x.toInt < lo
  · exact Or.inl a1
  · by_cases a2 : hi < x.toInt
    · exact Or.inr a2
    · exfalso
      have h5 := List.all_eq_true.mp h2 (x.toInt - lo).toNat (List.mem_range.mpr (by omega))
      obtain ⟨k, hk1, hk2⟩ := List.any_eq_true.mp h5
      have h6 : k.toInt = lo + ((x.toInt - lo).toNat : Int) := by simpa using hk2
      refine hne k hk1 (Int32.toInt_inj.mp ?_)
      omega
end JC
end
section
def bI {α : Type} (x : Int32) (f : Int32 → Option α) : Option α := f x
def bL {α : Type} (x : Int64) (f : Int64 → Option α) : Option α := f x
def bM {α : Type} (x : Mem) (f : Mem → Option α) : Option α := f x
def bd {β α : Type} (o : Option (β × Mem)) (f : β → Mem → Option α) : Option α := o.bind (fun q => f q.1 q.2)
def bv {α : Type} (o : Option Mem) (f : Mem → Option α) : Option α := o.bind f
def lp {α σ : Type} (F : (σ → Option α) → σ → Option α) : Nat → σ → Option α
  | 0, _ => none
  | n + 1, x => F (lp F n) x
def FU : Nat := 1000
theorem kn_in {i : Int32} (h : inb i 7 = true) : i.toNatClampNeg < 12 := by
  simp only [inb, Bool.and_eq_true, decide_eq_true_eq] at h
  omega
section JB
variable {p : Program} {l : Launch} {e : Env} {R : Room} {s : State} {m : MethodId} {args : Array Value} {below : List Frame} {meth : Method} {c : Code} {g : Gh} {nL : Nat} {α : Type} {Qf : α → State → Prop} {o o1 o2 : Option α} {M : Mem} {pc : Nat} {L Lq : List (Nat × Value)} {st rest : List Value} {cc : ByteArray} {own : String} {d : Nat}
theorem j_bI {x : Int32} {f : Int32 → Option α} (k : ∀ y : Int32, J p l e R s m args below meth c g nL Qf (f y) M pc L (.int y :: st)) : J p l e R s m args below meth c g nL Qf (bI x f) M pc L (.int x :: st) := k x
theorem j_bL {x : Int64} {f : Int64 → Option α} (k : ∀ y : Int64, J p l e R s m args below meth c g nL Qf (f y) M pc L (.long y :: st)) : J p l e R s m args below meth c g nL Qf (bL x f) M pc L (.long x :: st) := k x
theorem j_bM {f : Mem → Option α} (k : ∀ N : Mem, J p l e R s m args below meth c g nL Qf (f N) N pc L st) : J p l e R s m args below meth c g nL Qf (bM M f) M pc L st := k M
theorem j_gd {b : Bool} (k : b = true → J p l e R s m args below meth c g nL Qf o M pc L st) : J p l e R s m args below meth c g nL Qf (gd b o) M pc L st := fun v hv => k (gd_some hv).1 v (gd_some hv).2
theorem j_pick (ks : List Nat) (h : lv_pick L ks = Lq) (k : J p l e R s m args below meth c g nL Qf o M pc Lq st) : J p l e R s m args below meth c g nL Qf o M pc L st := fun v hv H locs ls hP hS hl => k v hv H locs ls hP hS (lv_sub hl ks h)
theorem j_iincB {i : Nat} {n : Int} {x y : Int32} {f : Int32 → Option α} {Lf : Int32 → List (Nat × Value)} (X : Cx p l e R s m args below meth c g cc nL own d) (hd : decode cc pc = .ok (.iinc i n, 3)) (hx : ll L i = some (.int x)) (hy : x + Int32.ofInt n = y) (hn : i < nL) (hq : ∀ z, lset L i (.int z) = Lf z) (kk : ∀ z, J p l e R s m args below meth c g nL Qf (f z) M (pc + 3) (Lf z) st) : J p l e R s m args below meth c g nL Qf (bI y f) M pc L st := j_iinc X hd hx hy hn (hq y) (kk y)
theorem j_lp {σ : Type} {F : (σ → Option α) → σ → Option α} {Lf : σ → List (Nat × Value)} {Mf : σ → Mem} (hF : ∀ rec : σ → Option α, (∀ x, J p l e R s m args below meth c g nL Qf (rec x) (Mf x) pc (Lf x) []) → ∀ x, J p l e R s m args below meth c g nL Qf (F rec x) (Mf x) pc (Lf x) []) : ∀ (n : Nat) (x : σ), J p l e R s m args below meth c g nL Qf (lp F n x) (Mf x) pc (Lf x) [] := by
  intro n
  induction n with
  | zero => intro x; exact j_none
  | succ n ih => intro x; exact hF (lp F n) ih x
theorem k_cVI {y : MethodName} {bytes : ByteArray} {mL n idx d2 : Nat} {rt : Option FieldType} {As : List Value} {ob : Option (Int32 × Mem)} {f : Int32 → Mem → Option α} {C : String} {T : u_T} {N ci k : Nat} {fs : List Value} (hk : k < 66) (hc : cf g k (M k) = .inr (ci, fs)) (hcl : vwCl[ci]? = some (C, T, N)) (X : Cx p l e R s m args below meth c g cc nL own d) (hC : CtI l g y bytes mL rt d2 (.ref (gA g k) :: As) M ob) (hw : WlV own idx C y bytes mL rt n) (hst : st = As.reverse ++ .ref (gA g k) :: rest) (hn : As.length = n) (hdd : d2 + 1 ≤ d) (hrest : (rest.map fun v => v.category).sum ≤ 8) (hd : decode cc pc = .ok (.invokevirtual idx, 3)) (kk : ∀ (r : Int32) (N2 : Mem), J p l e R s m args below meth c g nL Qf (f r N2) N2 (pc + 3) L (.int r :: rest)) : J p l e R s m args below meth c g nL Qf (bd ob f) M pc L st := j_cVI hk hc hcl X hC hw hst hn hdd hrest hd (fun q => kk q.1 q.2)
theorem k_cTI {y : MethodName} {bytes : ByteArray} {mL n idx d2 : Nat} {rt : Option FieldType} {As : List Value} {ob : Option (Int32 × Mem)} {f : Int32 → Mem → Option α} {k : Nat} (hk : k < 12) (X : Cx p l e R s m args below meth c g cc nL own d) (hC : CtI l g y bytes mL rt d2 (.ref (gS g k) :: As) M ob) (hw : WlV own idx "java/lang/String" y bytes mL rt n) (hst : st = As.reverse ++ .ref (gS g k) :: rest) (hn : As.length = n) (hdd : d2 + 1 ≤ d) (hrest : (rest.map fun v => v.category).sum ≤ 8) (hd : decode cc pc = .ok (.invokevirtual idx, 3)) (kk : ∀ (r : Int32) (N2 : Mem), J p l e R s m args below meth c g nL Qf (f r N2) N2 (pc + 3) L (.int r :: rest)) : J p l e R s m args below meth c g nL Qf (bd ob f) M pc L st := j_cTI hk X hC hw hst hn hdd hrest hd (fun q => kk q.1 q.2)
theorem k_cSI {y : MethodName} {bytes : ByteArray} {mL n idx d2 : Nat} {rt : Option FieldType} {As : List Value} {ob : Option (Int32 × Mem)} {f : Int32 → Mem → Option α}  (X : Cx p l e R s m args below meth c g cc nL own d) (hC : CtI l g y bytes mL rt d2 As M ob) (hw : WlS own idx y bytes mL rt n) (hst : st = As.reverse ++ rest) (hn : As.length = n) (hdd : d2 + 1 ≤ d) (hrest : (rest.map fun v => v.category).sum ≤ 8) (hd : decode cc pc = .ok (.invokestatic idx, 3)) (kk : ∀ (r : Int32) (N2 : Mem), J p l e R s m args below meth c g nL Qf (f r N2) N2 (pc + 3) L (.int r :: rest)) : J p l e R s m args below meth c g nL Qf (bd ob f) M pc L st := j_cSI  X hC hw hst hn hdd hrest hd (fun q => kk q.1 q.2)
theorem k_cNI {y : MethodName} {bytes : ByteArray} {mL n idx d2 : Nat} {rt : Option FieldType} {As : List Value} {ob : Option (Int32 × Mem)} {f : Int32 → Mem → Option α}  (X : Cx p l e R s m args below meth c g cc nL own d) (hC : CtI l g y bytes mL rt d2 As M ob) (hw : WlN own idx y bytes mL rt n) (hst : st = As.reverse ++ rest) (hn : As.length = n) (hdd : d2 + 1 ≤ d) (hrest : (rest.map fun v => v.category).sum ≤ 8) (hd : decode cc pc = .ok (.invokestatic idx, 3)) (kk : ∀ (r : Int32) (N2 : Mem), J p l e R s m args below meth c g nL Qf (f r N2) N2 (pc + 3) L (.int r :: rest)) : J p l e R s m args below meth c g nL Qf (bd ob f) M pc L st := j_cNI  X hC hw hst hn hdd hrest hd (fun q => kk q.1 q.2)
theorem k_cVL {y : MethodName} {bytes : ByteArray} {mL n idx d2 : Nat} {rt : Option FieldType} {As : List Value} {ob : Option (Int64 × Mem)} {f : Int64 → Mem → Option α} {C : String} {T : u_T} {N ci k : Nat} {fs : List Value} (hk : k < 66) (hc : cf g k (M k) = .inr (ci, fs)) (hcl : vwCl[ci]? = some (C, T, N)) (X : Cx p l e R s m args below meth c g cc nL own d) (hC : CtL l g y bytes mL rt d2 (.ref (gA g k) :: As) M ob) (hw : WlV own idx C y bytes mL rt n) (hst : st = As.reverse ++ .ref (gA g k) :: rest) (hn : As.length = n) (hdd : d2 + 1 ≤ d) (hrest : (rest.map fun v => v.category).sum ≤ 8) (hd : decode cc pc = .ok (.invokevirtual idx, 3)) (kk : ∀ (r : Int64) (N2 : Mem), J p l e R s m args below meth c g nL Qf (f r N2) N2 (pc + 3) L (.long r :: rest)) : J p l e R s m args below meth c g nL Qf (bd ob f) M pc L st := j_cVL hk hc hcl X hC hw hst hn hdd hrest hd (fun q => kk q.1 q.2)
theorem k_cSL {y : MethodName} {bytes : ByteArray} {mL n idx d2 : Nat} {rt : Option FieldType} {As : List Value} {ob : Option (Int64 × Mem)} {f : Int64 → Mem → Option α}  (X : Cx p l e R s m args below meth c g cc nL own d) (hC : CtL l g y bytes mL rt d2 As M ob) (hw : WlS own idx y bytes mL rt n) (hst : st = As.reverse ++ rest) (hn : As.length = n) (hdd : d2 + 1 ≤ d) (hrest : (rest.map fun v => v.category).sum ≤ 8) (hd : decode cc pc = .ok (.invokestatic idx, 3)) (kk : ∀ (r : Int64) (N2 : Mem), J p l e R s m args below meth c g nL Qf (f r N2) N2 (pc + 3) L (.long r :: rest)) : J p l e R s m args below meth c g nL Qf (bd ob f) M pc L st := j_cSL  X hC hw hst hn hdd hrest hd (fun q => kk q.1 q.2)
theorem k_cVR {y : MethodName} {bytes : ByteArray} {mL n idx d2 : Nat} {rt : Option FieldType} {As : List Value} {ob : Option (Nat × Mem)} {f : Nat → Mem → Option α} {C : String} {T : u_T} {N ci k : Nat} {fs : List Value} (hk : k < 66) (hc : cf g k (M k) = .inr (ci, fs)) (hcl : vwCl[ci]? = some (C, T, N)) (X : Cx p l e R s m args below meth c g cc nL own d) (hC : CtR l g y bytes mL rt d2 (.ref (gA g k) :: As) M ob) (hw : WlV own idx C y bytes mL rt n) (hst : st = As.reverse ++ .ref (gA g k) :: rest) (hn : As.length = n) (hdd : d2 + 1 ≤ d) (hrest : (rest.map fun v => v.category).sum ≤ 8) (hd : decode cc pc = .ok (.invokevirtual idx, 3)) (kk : ∀ (r : Nat) (N2 : Mem), J p l e R s m args below meth c g nL Qf (f r N2) N2 (pc + 3) L (.ref (gS g r) :: rest)) : J p l e R s m args below meth c g nL Qf (bd ob f) M pc L st := j_cVR hk hc hcl X hC hw hst hn hdd hrest hd (fun q => kk q.1 q.2)
theorem k_cSR {y : MethodName} {bytes : ByteArray} {mL n idx d2 : Nat} {rt : Option FieldType} {As : List Value} {ob : Option (Nat × Mem)} {f : Nat → Mem → Option α}  (X : Cx p l e R s m args below meth c g cc nL own d) (hC : CtR l g y bytes mL rt d2 As M ob) (hw : WlS own idx y bytes mL rt n) (hst : st = As.reverse ++ rest) (hn : As.length = n) (hdd : d2 + 1 ≤ d) (hrest : (rest.map fun v => v.category).sum ≤ 8) (hd : decode cc pc = .ok (.invokestatic idx, 3)) (kk : ∀ (r : Nat) (N2 : Mem), J p l e R s m args below meth c g nL Qf (f r N2) N2 (pc + 3) L (.ref (gS g r) :: rest)) : J p l e R s m args below meth c g nL Qf (bd ob f) M pc L st := j_cSR  X hC hw hst hn hdd hrest hd (fun q => kk q.1 q.2)
theorem k_cVV {y : MethodName} {bytes : ByteArray} {mL n idx d2 : Nat} {rt : Option FieldType} {As : List Value} {ob : Option (Mem)} {f : Mem → Option α} {C : String} {T : u_T} {N ci k : Nat} {fs : List Value} (hk : k < 66) (hc : cf g k (M k) = .inr (ci, fs)) (hcl : vwCl[ci]? = some (C, T, N)) (X : Cx p l e R s m args below meth c g cc nL own d) (hC : CtV l g y bytes mL rt d2 (.ref (gA g k) :: As) M ob) (hw : WlV own idx C y bytes mL rt n) (hst : st = As.reverse ++ .ref (gA g k) :: rest) (hn : As.length = n) (hdd : d2 + 1 ≤ d) (hrest : (rest.map fun v => v.category).sum ≤ 8) (hd : decode cc pc = .ok (.invokevirtual idx, 3)) (kk : ∀ (N2 : Mem), J p l e R s m args below meth c g nL Qf (f N2) N2 (pc + 3) L rest) : J p l e R s m args below meth c g nL Qf (bv ob f) M pc L st := j_cVV hk hc hcl X hC hw hst hn hdd hrest hd (fun q => kk q)
theorem k_cSV {y : MethodName} {bytes : ByteArray} {mL n idx d2 : Nat} {rt : Option FieldType} {As : List Value} {ob : Option (Mem)} {f : Mem → Option α}  (X : Cx p l e R s m args below meth c g cc nL own d) (hC : CtV l g y bytes mL rt d2 As M ob) (hw : WlS own idx y bytes mL rt n) (hst : st = As.reverse ++ rest) (hn : As.length = n) (hdd : d2 + 1 ≤ d) (hrest : (rest.map fun v => v.category).sum ≤ 8) (hd : decode cc pc = .ok (.invokestatic idx, 3)) (kk : ∀ (N2 : Mem), J p l e R s m args below meth c g nL Qf (f N2) N2 (pc + 3) L rest) : J p l e R s m args below meth c g nL Qf (bv ob f) M pc L st := j_cSV  X hC hw hst hn hdd hrest hd (fun q => kk q)
end JB
end
section
theorem wm_max2 : Cond.static Lib.Math.max.name ∈ BG := mem_T (i := 278) (by decide +kernel) rfl
theorem wm_max4 : Cond.code Lib.Math.max.name Lib.Math.max.code 2 (some .int) ∈ BG := mem_T (i := 279) (by decide +kernel) rfl
theorem wm_min2 : Cond.static Lib.Math.min.name ∈ BG := mem_T (i := 281) (by decide +kernel) rfl
theorem wm_min4 : Cond.code Lib.Math.min.name Lib.Math.min.code 2 (some .int) ∈ BG := mem_T (i := 282) (by decide +kernel) rfl
theorem wm_ini : Cond.initialized "java/lang/Math" ∈ BG := mem_T (i := 8) (by decide +kernel) rfl
theorem wa_2 : Cond.native arraycopyName ∈ BG := mem_T (i := 332) (by decide +kernel) rfl
theorem wa_3 : Cond.static arraycopyName ∈ BG := mem_T (i := 331) (by decide +kernel) rfl
theorem wa_4 : Cond.initialized "java/lang/System" ∈ BG := mem_T (i := 9) (by decide +kernel) rfl
theorem wq_0 : Cond.fieldLink RX0 9 "HillDance$Reader" "tape" "[I" ∈ BG := mem_T (i := 87) (by decide +kernel) rfl
theorem wq_1 : Cond.fieldLink RX0 15 "HillDance$Reader" "length" "I" ∈ BG := mem_T (i := 88) (by decide +kernel) rfl
theorem wq_2 : Cond.fieldLink RX0 45 "HillDance$Reader" "number" "I" ∈ BG := mem_T (i := 93) (by decide +kernel) rfl
theorem wq_3 : Cond.fieldLink RX0 19 "HillDance$Reader" "end" "I" ∈ BG := mem_T (i := 91) (by decide +kernel) rfl
theorem wq_4 : Cond.methodLink RX0 117 yX0_isDigit ∈ BG := mem_T (i := 526) (by decide +kernel) rfl
theorem wq_5 : Cond.static yX0_isDigit ∈ BG := mem_T (i := 527) (by decide +kernel) rfl
theorem wq_6 : Cond.initialized RX0 ∈ BG := mem_T (i := 3) (by decide +kernel) rfl
theorem wq_7 : Cond.code yX0_isDigit cX0_isDigit 1 (some (.boolean)) ∈ BG := mem_T (i := 528) (by decide +kernel) rfl
theorem wq_8 : Cond.methodLink RX0 111 yX0_isLetter ∈ BG := mem_T (i := 519) (by decide +kernel) rfl
theorem wq_9 : Cond.static yX0_isLetter ∈ BG := mem_T (i := 520) (by decide +kernel) rfl
theorem wq_10 : Cond.code yX0_isLetter cX0_isLetter 1 (some (.boolean)) ∈ BG := mem_T (i := 521) (by decide +kernel) rfl
theorem wq_11 : Cond.fieldLink RX0 29 "HillDance$Reader" "begin" "I" ∈ BG := mem_T (i := 90) (by decide +kernel) rfl
theorem wq_12 : Cond.methodLink RX0 123 yX0_signOf ∈ BG := mem_T (i := 534) (by decide +kernel) rfl
theorem wq_13 : Cond.static yX0_signOf ∈ BG := mem_T (i := 535) (by decide +kernel) rfl
theorem wq_14 : Cond.code yX0_signOf cX0_signOf 1 (some (.int)) ∈ BG := mem_T (i := 536) (by decide +kernel) rfl
theorem wq_15 : Cond.fieldLink RX0 32 "HillDance$Reader" "token" "I" ∈ BG := mem_T (i := 92) (by decide +kernel) rfl
theorem wq_16 : Cond.methodLink RX0 120 yX0_takeDigits ∈ BG := mem_T (i := 529) (by decide +kernel) rfl
theorem wq_17 : Cond.instanceMethod yX0_takeDigits ∈ BG := mem_T (i := 531) (by decide +kernel) rfl
theorem wq_18 : Cond.selects RX0 yX0_takeDigits yX0_takeDigits ∈ BG := mem_P (i := 18) (by decide +kernel) rfl
theorem wq_19 : Cond.code yX0_takeDigits cX0_takeDigits 1 none ∈ BG := mem_T (i := 532) (by decide +kernel) rfl
theorem wq_20 : Cond.methodLink RX0 114 yX0_takeLetters ∈ BG := mem_T (i := 522) (by decide +kernel) rfl
theorem wq_21 : Cond.instanceMethod yX0_takeLetters ∈ BG := mem_T (i := 524) (by decide +kernel) rfl
theorem wq_22 : Cond.selects RX0 yX0_takeLetters yX0_takeLetters ∈ BG := mem_P (i := 17) (by decide +kernel) rfl
theorem wq_23 : Cond.code yX0_takeLetters cX0_takeLetters 1 none ∈ BG := mem_T (i := 525) (by decide +kernel) rfl
theorem wq_24 : Cond.methodLink RX0 103 yJ0_length_8abf5 ∈ BG := mem_T (i := 546) (by decide +kernel) rfl
theorem wq_25 : Cond.instanceMethod yJ0_length_8abf5 ∈ BG := mem_T (i := 547) (by decide +kernel) rfl
theorem wq_26 : Cond.selects RJ0 yJ0_length_8abf5 yJ0_length_8abf5 ∈ BG := mem_T (i := 548) (by decide +kernel) rfl
theorem wq_27 : Cond.initialized RJ0 ∈ BG := mem_T (i := 10) (by decide +kernel) rfl
theorem wq_28 : Cond.code yJ0_length_8abf5 cJ0_length_8abf5 1 (some (.int)) ∈ BG := mem_T (i := 549) (by decide +kernel) rfl
theorem wq_29 : Cond.methodLink RX0 107 yJ0_charAt_5068e ∈ BG := mem_T (i := 556) (by decide +kernel) rfl
theorem wq_30 : Cond.instanceMethod yJ0_charAt_5068e ∈ BG := mem_T (i := 557) (by decide +kernel) rfl
theorem wq_31 : Cond.selects RJ0 yJ0_charAt_5068e yJ0_charAt_5068e ∈ BG := mem_T (i := 558) (by decide +kernel) rfl
theorem wq_32 : Cond.code yJ0_charAt_5068e cJ0_charAt_5068e 2 (some (.char)) ∈ BG := mem_T (i := 559) (by decide +kernel) rfl
theorem wq_33 : Cond.methodLink RX0 85 yX0_wordOf ∈ BG := mem_T (i := 602) (by decide +kernel) rfl
theorem wq_34 : Cond.static yX0_wordOf ∈ BG := mem_T (i := 603) (by decide +kernel) rfl
theorem wq_35 : Cond.code yX0_wordOf cX0_wordOf 1 (some (.object "java/lang/String")) ∈ BG := mem_T (i := 604) (by decide +kernel) rfl
theorem wq_36 : Cond.methodLink RX0 37 yX0_isWord ∈ BG := mem_T (i := 542) (by decide +kernel) rfl
theorem wq_37 : Cond.instanceMethod yX0_isWord ∈ BG := mem_T (i := 544) (by decide +kernel) rfl
theorem wq_38 : Cond.selects RX0 yX0_isWord yX0_isWord ∈ BG := mem_P (i := 20) (by decide +kernel) rfl
theorem wq_39 : Cond.code yX0_isWord cX0_isWord 3 (some (.boolean)) ∈ BG := mem_T (i := 545) (by decide +kernel) rfl
theorem wq_40 : Cond.fieldLink RX2 46 "HillDance$Shire" "standing" "[I" ∈ BG := mem_T (i := 47) (by decide +kernel) rfl
theorem wq_41 : Cond.methodLink RX2 67 yJ7_fill_53178 ∈ BG := mem_T (i := 180) (by decide +kernel) rfl
theorem wq_42 : Cond.static yJ7_fill_53178 ∈ BG := mem_T (i := 181) (by decide +kernel) rfl
theorem wq_43 : Cond.initialized RJ7 ∈ BG := mem_T (i := 6) (by decide +kernel) rfl
theorem wq_44 : Cond.code yJ7_fill_53178 cJ7_fill_53178 4 none ∈ BG := mem_T (i := 182) (by decide +kernel) rfl
theorem wq_45 : Cond.fieldLink RX2 49 "HillDance$Shire" "looking" "[I" ∈ BG := mem_T (i := 48) (by decide +kernel) rfl
theorem wq_46 : Cond.fieldLink RX2 52 "HillDance$Shire" "hills" "I" ∈ BG := mem_T (i := 35) (by decide +kernel) rfl
theorem wq_47 : Cond.fieldLink RX2 43 "HillDance$Shire" "met" "[I" ∈ BG := mem_T (i := 46) (by decide +kernel) rfl
theorem wq_48 : Cond.fieldLink RX2 40 "HillDance$Shire" "faced" "[I" ∈ BG := mem_T (i := 45) (by decide +kernel) rfl
theorem wq_49 : Cond.fieldLink RX2 25 "HillDance$Shire" "valleys" "[I" ∈ BG := mem_T (i := 40) (by decide +kernel) rfl
theorem wq_50 : Cond.fieldLink RX2 31 "HillDance$Shire" "turns" "[I" ∈ BG := mem_T (i := 42) (by decide +kernel) rfl
theorem wq_51 : Cond.fieldLink RX2 22 "HillDance$Shire" "kinds" "[I" ∈ BG := mem_T (i := 39) (by decide +kernel) rfl
theorem wq_52 : Cond.methodLink RX2 55 yX2_lookAround ∈ BG := mem_T (i := 176) (by decide +kernel) rfl
theorem wq_53 : Cond.instanceMethod yX2_lookAround ∈ BG := mem_T (i := 178) (by decide +kernel) rfl
theorem wq_54 : Cond.selects RX2 yX2_lookAround yX2_lookAround ∈ BG := mem_P (i := 1) (by decide +kernel) rfl
theorem wq_55 : Cond.initialized RX2 ∈ BG := mem_T (i := 2) (by decide +kernel) rfl
theorem wq_56 : Cond.code yX2_lookAround cX2_lookAround 3 none ∈ BG := mem_T (i := 179) (by decide +kernel) rfl
theorem wq_57 : Cond.fieldLink RX2 28 "HillDance$Shire" "steps" "[I" ∈ BG := mem_T (i := 41) (by decide +kernel) rfl
theorem wq_58 : Cond.fieldLink RX2 34 "HillDance$Shire" "heights" "[I" ∈ BG := mem_T (i := 43) (by decide +kernel) rfl
theorem wq_59 : Cond.fieldLink RX2 37 "HillDance$Shire" "bows" "[I" ∈ BG := mem_T (i := 44) (by decide +kernel) rfl
theorem wq_60 : Cond.methodLink RX0 22 yX0_advance ∈ BG := mem_T (i := 515) (by decide +kernel) rfl
theorem wq_61 : Cond.instanceMethod yX0_advance ∈ BG := mem_T (i := 517) (by decide +kernel) rfl
theorem wq_62 : Cond.selects RX0 yX0_advance yX0_advance ∈ BG := mem_P (i := 16) (by decide +kernel) rfl
theorem wq_63 : Cond.code yX0_advance cX0_advance 1 none ∈ BG := mem_T (i := 518) (by decide +kernel) rfl
theorem wq_64 : Cond.static yX3_mostOf ∈ BG := mem_T (i := 239) (by decide +kernel) rfl
theorem wq_65 : Cond.initialized RX3 ∈ BG := mem_T (i := 1) (by decide +kernel) rfl
theorem wq_66 : Cond.code yX3_mostOf cX3_mostOf 1 (some (.int)) ∈ BG := mem_T (i := 240) (by decide +kernel) rfl
theorem wq_67 : Cond.methodLink RX0 41 yX0_isNumberTo ∈ BG := mem_T (i := 594) (by decide +kernel) rfl
theorem wq_68 : Cond.instanceMethod yX0_isNumberTo ∈ BG := mem_T (i := 596) (by decide +kernel) rfl
theorem wq_69 : Cond.selects RX0 yX0_isNumberTo yX0_isNumberTo ∈ BG := mem_P (i := 21) (by decide +kernel) rfl
theorem wq_70 : Cond.code yX0_isNumberTo cX0_isNumberTo 2 (some (.boolean)) ∈ BG := mem_T (i := 597) (by decide +kernel) rfl
theorem wq_71 : Cond.methodLink RX0 81 yX2_setTrait ∈ BG := mem_T (i := 620) (by decide +kernel) rfl
theorem wq_72 : Cond.instanceMethod yX2_setTrait ∈ BG := mem_T (i := 242) (by decide +kernel) rfl
theorem wq_73 : Cond.selects RX2 yX2_setTrait yX2_setTrait ∈ BG := mem_T (i := 243) (by decide +kernel) rfl
theorem wq_74 : Cond.code yX2_setTrait cX2_setTrait 4 none ∈ BG := mem_T (i := 244) (by decide +kernel) rfl
theorem wq_75 : Cond.methodLink RX0 53 yX0_kindTold ∈ BG := mem_T (i := 598) (by decide +kernel) rfl
theorem wq_76 : Cond.instanceMethod yX0_kindTold ∈ BG := mem_T (i := 600) (by decide +kernel) rfl
theorem wq_77 : Cond.selects RX0 yX0_kindTold yX0_kindTold ∈ BG := mem_P (i := 22) (by decide +kernel) rfl
theorem wq_78 : Cond.code yX0_kindTold cX0_kindTold 2 (some (.int)) ∈ BG := mem_T (i := 601) (by decide +kernel) rfl
theorem wq_79 : Cond.methodLink RX0 57 yX2_isCrowded ∈ BG := mem_T (i := 612) (by decide +kernel) rfl
theorem wq_80 : Cond.instanceMethod yX2_isCrowded ∈ BG := mem_T (i := 169) (by decide +kernel) rfl
theorem wq_81 : Cond.selects RX2 yX2_isCrowded yX2_isCrowded ∈ BG := mem_T (i := 170) (by decide +kernel) rfl
theorem wq_82 : Cond.code yX2_isCrowded cX2_isCrowded 1 (some (.boolean)) ∈ BG := mem_T (i := 171) (by decide +kernel) rfl
theorem wq_83 : Cond.methodLink RX0 61 yX2_raise ∈ BG := mem_T (i := 613) (by decide +kernel) rfl
theorem wq_84 : Cond.instanceMethod yX2_raise ∈ BG := mem_T (i := 173) (by decide +kernel) rfl
theorem wq_85 : Cond.selects RX2 yX2_raise yX2_raise ∈ BG := mem_T (i := 174) (by decide +kernel) rfl
theorem wq_86 : Cond.code yX2_raise cX2_raise 4 (some (.int)) ∈ BG := mem_T (i := 175) (by decide +kernel) rfl
theorem wq_87 : Cond.methodLink RX0 67 yX0_readTrait ∈ BG := mem_T (i := 615) (by decide +kernel) rfl
theorem wq_88 : Cond.instanceMethod yX0_readTrait ∈ BG := mem_T (i := 617) (by decide +kernel) rfl
theorem wq_89 : Cond.selects RX0 yX0_readTrait yX0_readTrait ∈ BG := mem_P (i := 23) (by decide +kernel) rfl
theorem wq_90 : Cond.code yX0_readTrait cX0_readTrait 6 (some (.boolean)) ∈ BG := mem_T (i := 618) (by decide +kernel) rfl
theorem wq_91 : Cond.methodLink RX0 25 yX0_readItem ∈ BG := mem_T (i := 537) (by decide +kernel) rfl
theorem wq_92 : Cond.instanceMethod yX0_readItem ∈ BG := mem_T (i := 539) (by decide +kernel) rfl
theorem wq_93 : Cond.selects RX0 yX0_readItem yX0_readItem ∈ BG := mem_P (i := 19) (by decide +kernel) rfl
theorem wq_94 : Cond.code yX0_readItem cX0_readItem 4 (some (.boolean)) ∈ BG := mem_T (i := 540) (by decide +kernel) rfl
theorem wq_95 : Cond.fieldLink RX1 15 "HillDance$Sheet" "bits" "I" ∈ BG := mem_T (i := 114) (by decide +kernel) rfl
theorem wq_96 : Cond.fieldLink RX1 19 "HillDance$Sheet" "length" "I" ∈ BG := mem_T (i := 116) (by decide +kernel) rfl
theorem wq_97 : Cond.fieldLink RX1 9 "HillDance$Sheet" "numbers" "[I" ∈ BG := mem_T (i := 118) (by decide +kernel) rfl
theorem wq_98 : Cond.methodLink RX1 22 yJ7_fill_53178 ∈ BG := mem_T (i := 646) (by decide +kernel) rfl
theorem wq_99 : Cond.fieldLink RX2 9 "HillDance$Shire" "rainfall" "I" ∈ BG := mem_T (i := 28) (by decide +kernel) rfl
theorem wq_100 : Cond.fieldLink RX2 58 "HillDance$Shire" "age" "I" ∈ BG := mem_T (i := 31) (by decide +kernel) rfl
theorem wq_101 : Cond.fieldLink RX2 15 "HillDance$Shire" "z" "I" ∈ BG := mem_T (i := 33) (by decide +kernel) rfl
theorem wq_102 : Cond.fieldLink RX2 18 "HillDance$Shire" "spots" "[I" ∈ BG := mem_T (i := 37) (by decide +kernel) rfl
theorem wq_103 : Cond.methodLink RX2 76 yX2_valleysIn ∈ BG := mem_T (i := 308) (by decide +kernel) rfl
theorem wq_104 : Cond.static yX2_valleysIn ∈ BG := mem_T (i := 309) (by decide +kernel) rfl
theorem wq_105 : Cond.code yX2_valleysIn cX2_valleysIn 3 (some (.int)) ∈ BG := mem_T (i := 310) (by decide +kernel) rfl
theorem wq_106 : Cond.methodLink RX2 80 yX2_sumOf ∈ BG := mem_T (i := 300) (by decide +kernel) rfl
theorem wq_107 : Cond.instanceMethod yX2_sumOf ∈ BG := mem_T (i := 302) (by decide +kernel) rfl
theorem wq_108 : Cond.selects RX2 yX2_sumOf yX2_sumOf ∈ BG := mem_P (i := 5) (by decide +kernel) rfl
theorem wq_109 : Cond.code yX2_sumOf cX2_sumOf 4 (some (.int)) ∈ BG := mem_T (i := 303) (by decide +kernel) rfl
theorem wq_110 : Cond.methodLink RX3 256 yJ9_floorMod_7cf53 ∈ BG := mem_T (i := 409) (by decide +kernel) rfl
theorem wq_111 : Cond.static yJ9_floorMod_7cf53 ∈ BG := mem_T (i := 284) (by decide +kernel) rfl
theorem wq_112 : Cond.initialized RJ9 ∈ BG := mem_T (i := 8) (by decide +kernel) rfl
theorem wq_113 : Cond.code yJ9_floorMod_7cf53 cJ9_floorMod_7cf53 3 (some (.int)) ∈ BG := mem_T (i := 285) (by decide +kernel) rfl
theorem wq_114 : Cond.static yX3_waysOn ∈ BG := mem_T (i := 407) (by decide +kernel) rfl
theorem wq_115 : Cond.code yX3_waysOn cX3_waysOn 2 (some (.int)) ∈ BG := mem_T (i := 408) (by decide +kernel) rfl
theorem wq_116 : Cond.methodLink RX2 87 yX2_climbOn ∈ BG := mem_T (i := 424) (by decide +kernel) rfl
theorem wq_117 : Cond.instanceMethod yX2_climbOn ∈ BG := mem_T (i := 411) (by decide +kernel) rfl
theorem wq_118 : Cond.selects RX2 yX2_climbOn yX2_climbOn ∈ BG := mem_T (i := 412) (by decide +kernel) rfl
theorem wq_119 : Cond.code yX2_climbOn cX2_climbOn 7 (some (.int)) ∈ BG := mem_T (i := 413) (by decide +kernel) rfl
theorem wq_120 : Cond.constant RJ6 265 (1431655765) ∈ BG := mem_T (i := 212) (by decide +kernel) rfl
theorem wq_121 : Cond.constant RJ6 266 (858993459) ∈ BG := mem_T (i := 213) (by decide +kernel) rfl
theorem wq_122 : Cond.constant RJ6 267 (252645135) ∈ BG := mem_T (i := 214) (by decide +kernel) rfl
theorem wq_123 : Cond.methodLink RX2 99 yX2_partnerMoves ∈ BG := mem_T (i := 201) (by decide +kernel) rfl
theorem wq_124 : Cond.instanceMethod yX2_partnerMoves ∈ BG := mem_T (i := 203) (by decide +kernel) rfl
theorem wq_125 : Cond.selects RX2 yX2_partnerMoves yX2_partnerMoves ∈ BG := mem_P (i := 3) (by decide +kernel) rfl
theorem wq_126 : Cond.code yX2_partnerMoves cX2_partnerMoves 2 (some (.int)) ∈ BG := mem_T (i := 204) (by decide +kernel) rfl
theorem wq_127 : Cond.methodLink RX2 105 yJ6_bitCount_0f7a4 ∈ BG := mem_T (i := 209) (by decide +kernel) rfl
theorem wq_128 : Cond.static yJ6_bitCount_0f7a4 ∈ BG := mem_T (i := 210) (by decide +kernel) rfl
theorem wq_129 : Cond.initialized RJ6 ∈ BG := mem_T (i := 7) (by decide +kernel) rfl
theorem wq_130 : Cond.code yJ6_bitCount_0f7a4 cJ6_bitCount_0f7a4 1 (some (.int)) ∈ BG := mem_T (i := 211) (by decide +kernel) rfl
theorem wq_131 : Cond.methodLink RX2 102 yX2_twinMoves ∈ BG := mem_T (i := 205) (by decide +kernel) rfl
theorem wq_132 : Cond.instanceMethod yX2_twinMoves ∈ BG := mem_T (i := 207) (by decide +kernel) rfl
theorem wq_133 : Cond.selects RX2 yX2_twinMoves yX2_twinMoves ∈ BG := mem_P (i := 4) (by decide +kernel) rfl
theorem wq_134 : Cond.code yX2_twinMoves cX2_twinMoves 2 (some (.int)) ∈ BG := mem_T (i := 208) (by decide +kernel) rfl
theorem wq_135 : Cond.methodLink RX2 95 yX2_tallOf ∈ BG := mem_T (i := 197) (by decide +kernel) rfl
theorem wq_136 : Cond.instanceMethod yX2_tallOf ∈ BG := mem_T (i := 199) (by decide +kernel) rfl
theorem wq_137 : Cond.selects RX2 yX2_tallOf yX2_tallOf ∈ BG := mem_P (i := 2) (by decide +kernel) rfl
theorem wq_138 : Cond.code yX2_tallOf cX2_tallOf 2 (some (.int)) ∈ BG := mem_T (i := 200) (by decide +kernel) rfl
theorem wq_139 : Cond.constant RX2 128 (99999) ∈ BG := mem_T (i := 286) (by decide +kernel) rfl
theorem wq_140 : Cond.methodLink RX2 113 yX2_movesOf ∈ BG := mem_T (i := 274) (by decide +kernel) rfl
theorem wq_141 : Cond.instanceMethod yX2_movesOf ∈ BG := mem_T (i := 194) (by decide +kernel) rfl
theorem wq_142 : Cond.selects RX2 yX2_movesOf yX2_movesOf ∈ BG := mem_T (i := 195) (by decide +kernel) rfl
theorem wq_143 : Cond.code yX2_movesOf cX2_movesOf 2 (some (.int)) ∈ BG := mem_T (i := 196) (by decide +kernel) rfl
theorem wq_144 : Cond.methodLink RX2 116 yX2_turnsOf ∈ BG := mem_T (i := 275) (by decide +kernel) rfl
theorem wq_145 : Cond.instanceMethod yX2_turnsOf ∈ BG := mem_T (i := 216) (by decide +kernel) rfl
theorem wq_146 : Cond.selects RX2 yX2_turnsOf yX2_turnsOf ∈ BG := mem_T (i := 217) (by decide +kernel) rfl
theorem wq_147 : Cond.code yX2_turnsOf cX2_turnsOf 2 (some (.int)) ∈ BG := mem_T (i := 218) (by decide +kernel) rfl
theorem wq_148 : Cond.methodLink RX2 125 yJ9_floorMod_7cf53 ∈ BG := mem_T (i := 283) (by decide +kernel) rfl
theorem wq_149 : Cond.methodLink RX2 119 yX2_sinksOf ∈ BG := mem_T (i := 276) (by decide +kernel) rfl
theorem wq_150 : Cond.instanceMethod yX2_sinksOf ∈ BG := mem_T (i := 220) (by decide +kernel) rfl
theorem wq_151 : Cond.selects RX2 yX2_sinksOf yX2_sinksOf ∈ BG := mem_T (i := 221) (by decide +kernel) rfl
theorem wq_152 : Cond.code yX2_sinksOf cX2_sinksOf 2 (some (.int)) ∈ BG := mem_T (i := 222) (by decide +kernel) rfl
theorem wq_153 : Cond.methodLink RX2 110 yX2_passAge ∈ BG := mem_T (i := 270) (by decide +kernel) rfl
theorem wq_154 : Cond.instanceMethod yX2_passAge ∈ BG := mem_T (i := 271) (by decide +kernel) rfl
theorem wq_155 : Cond.selects RX2 yX2_passAge yX2_passAge ∈ BG := mem_T (i := 272) (by decide +kernel) rfl
theorem wq_156 : Cond.code yX2_passAge cX2_passAge 4 none ∈ BG := mem_T (i := 273) (by decide +kernel) rfl
theorem wq_157 : Cond.constant RX2 129 (1103515245) ∈ BG := mem_T (i := 484) (by decide +kernel) rfl
theorem wq_158 : Cond.methodLink RX2 130 yX2_draw ∈ BG := mem_T (i := 480) (by decide +kernel) rfl
theorem wq_159 : Cond.instanceMethod yX2_draw ∈ BG := mem_T (i := 482) (by decide +kernel) rfl
theorem wq_160 : Cond.selects RX2 yX2_draw yX2_draw ∈ BG := mem_P (i := 15) (by decide +kernel) rfl
theorem wq_161 : Cond.code yX2_draw cX2_draw 1 (some (.int)) ∈ BG := mem_T (i := 483) (by decide +kernel) rfl
theorem wq_162 : Cond.methodLink RX2 134 yX2_lacks ∈ BG := mem_T (i := 485) (by decide +kernel) rfl
theorem wq_163 : Cond.instanceMethod yX2_lacks ∈ BG := mem_T (i := 190) (by decide +kernel) rfl
theorem wq_164 : Cond.selects RX2 yX2_lacks yX2_lacks ∈ BG := mem_T (i := 191) (by decide +kernel) rfl
theorem wq_165 : Cond.code yX2_lacks cX2_lacks 2 (some (.boolean)) ∈ BG := mem_T (i := 192) (by decide +kernel) rfl
theorem wq_166 : Cond.methodLink RX2 138 yX2_setTrait ∈ BG := mem_T (i := 486) (by decide +kernel) rfl
theorem wq_167 : Cond.fieldLink RX3 35 "HillDance" "found" "[I" ∈ BG := mem_T (i := 133) (by decide +kernel) rfl
theorem wq_168 : Cond.constant RX3 252 (-1000001) ∈ BG := mem_T (i := 160) (by decide +kernel) rfl
theorem wq_169 : Cond.methodLink RX3 40 yX3_isOutside ∈ BG := mem_T (i := 153) (by decide +kernel) rfl
theorem wq_170 : Cond.static yX3_isOutside ∈ BG := mem_T (i := 154) (by decide +kernel) rfl
theorem wq_171 : Cond.code yX3_isOutside cX3_isOutside 3 (some (.boolean)) ∈ BG := mem_T (i := 155) (by decide +kernel) rfl
theorem wq_172 : Cond.fieldLink RX3 10 "HillDance" "shire" "LHillDance$Shire;" ∈ BG := mem_T (i := 127) (by decide +kernel) rfl
theorem wq_173 : Cond.methodLink RX3 44 yX3_finding ∈ BG := mem_T (i := 156) (by decide +kernel) rfl
theorem wq_174 : Cond.instanceMethod yX3_finding ∈ BG := mem_T (i := 158) (by decide +kernel) rfl
theorem wq_175 : Cond.selects RX3 yX3_finding yX3_finding ∈ BG := mem_P (i := 0) (by decide +kernel) rfl
theorem wq_176 : Cond.code yX3_finding cX3_finding 2 (some (.int)) ∈ BG := mem_T (i := 159) (by decide +kernel) rfl
theorem wq_177 : Cond.methodLink RX3 52 yX3_isNoValley ∈ BG := mem_T (i := 165) (by decide +kernel) rfl
theorem wq_178 : Cond.static yX3_isNoValley ∈ BG := mem_T (i := 166) (by decide +kernel) rfl
theorem wq_179 : Cond.code yX3_isNoValley cX3_isNoValley 1 (some (.boolean)) ∈ BG := mem_T (i := 167) (by decide +kernel) rfl
theorem wq_180 : Cond.methodLink RX3 56 yX2_isCrowded ∈ BG := mem_T (i := 168) (by decide +kernel) rfl
theorem wq_181 : Cond.methodLink RX3 60 yX2_raise ∈ BG := mem_T (i := 172) (by decide +kernel) rfl
theorem wq_182 : Cond.methodLink RX3 64 yX2_lacks ∈ BG := mem_T (i := 189) (by decide +kernel) rfl
theorem wq_183 : Cond.methodLink RX3 67 yX2_movesOf ∈ BG := mem_T (i := 193) (by decide +kernel) rfl
theorem wq_184 : Cond.methodLink RX3 70 yX2_turnsOf ∈ BG := mem_T (i := 215) (by decide +kernel) rfl
theorem wq_185 : Cond.methodLink RX3 73 yX2_sinksOf ∈ BG := mem_T (i := 219) (by decide +kernel) rfl
theorem wq_186 : Cond.methodLink RX3 76 yX2_meetsOf ∈ BG := mem_T (i := 223) (by decide +kernel) rfl
theorem wq_187 : Cond.instanceMethod yX2_meetsOf ∈ BG := mem_T (i := 224) (by decide +kernel) rfl
theorem wq_188 : Cond.selects RX2 yX2_meetsOf yX2_meetsOf ∈ BG := mem_T (i := 225) (by decide +kernel) rfl
theorem wq_189 : Cond.code yX2_meetsOf cX2_meetsOf 2 (some (.int)) ∈ BG := mem_T (i := 226) (by decide +kernel) rfl
theorem wq_190 : Cond.methodLink RX3 79 yX2_trait ∈ BG := mem_T (i := 227) (by decide +kernel) rfl
theorem wq_191 : Cond.instanceMethod yX2_trait ∈ BG := mem_T (i := 228) (by decide +kernel) rfl
theorem wq_192 : Cond.selects RX2 yX2_trait yX2_trait ∈ BG := mem_T (i := 229) (by decide +kernel) rfl
theorem wq_193 : Cond.code yX2_trait cX2_trait 3 (some (.int)) ∈ BG := mem_T (i := 230) (by decide +kernel) rfl
theorem wq_194 : Cond.methodLink RX3 82 yX3_leastOf ∈ BG := mem_T (i := 235) (by decide +kernel) rfl
theorem wq_195 : Cond.static yX3_leastOf ∈ BG := mem_T (i := 236) (by decide +kernel) rfl
theorem wq_196 : Cond.code yX3_leastOf cX3_leastOf 1 (some (.int)) ∈ BG := mem_T (i := 237) (by decide +kernel) rfl
theorem wq_197 : Cond.methodLink RX3 85 yX3_mostOf ∈ BG := mem_T (i := 238) (by decide +kernel) rfl
theorem wq_198 : Cond.methodLink RX3 88 yX2_setTrait ∈ BG := mem_T (i := 241) (by decide +kernel) rfl
theorem wq_199 : Cond.methodLink RX3 92 yX2_standingAt ∈ BG := mem_T (i := 249) (by decide +kernel) rfl
theorem wq_200 : Cond.instanceMethod yX2_standingAt ∈ BG := mem_T (i := 250) (by decide +kernel) rfl
theorem wq_201 : Cond.selects RX2 yX2_standingAt yX2_standingAt ∈ BG := mem_T (i := 251) (by decide +kernel) rfl
theorem wq_202 : Cond.code yX2_standingAt cX2_standingAt 2 (some (.int)) ∈ BG := mem_T (i := 252) (by decide +kernel) rfl
theorem wq_203 : Cond.methodLink RX3 95 yX2_facing ∈ BG := mem_T (i := 253) (by decide +kernel) rfl
theorem wq_204 : Cond.instanceMethod yX2_facing ∈ BG := mem_T (i := 254) (by decide +kernel) rfl
theorem wq_205 : Cond.selects RX2 yX2_facing yX2_facing ∈ BG := mem_T (i := 255) (by decide +kernel) rfl
theorem wq_206 : Cond.code yX2_facing cX2_facing 2 (some (.int)) ∈ BG := mem_T (i := 256) (by decide +kernel) rfl
theorem wq_207 : Cond.methodLink RX3 98 yX2_highestAt ∈ BG := mem_T (i := 257) (by decide +kernel) rfl
theorem wq_208 : Cond.instanceMethod yX2_highestAt ∈ BG := mem_T (i := 258) (by decide +kernel) rfl
theorem wq_209 : Cond.selects RX2 yX2_highestAt yX2_highestAt ∈ BG := mem_T (i := 259) (by decide +kernel) rfl
theorem wq_210 : Cond.code yX2_highestAt cX2_highestAt 4 (some (.int)) ∈ BG := mem_T (i := 260) (by decide +kernel) rfl
theorem wq_211 : Cond.constant RX3 104 (99999) ∈ BG := mem_T (i := 265) (by decide +kernel) rfl
theorem wq_212 : Cond.methodLink RX3 105 yX2_passAges ∈ BG := mem_T (i := 266) (by decide +kernel) rfl
theorem wq_213 : Cond.instanceMethod yX2_passAges ∈ BG := mem_T (i := 267) (by decide +kernel) rfl
theorem wq_214 : Cond.selects RX2 yX2_passAges yX2_passAges ∈ BG := mem_T (i := 268) (by decide +kernel) rfl
theorem wq_215 : Cond.code yX2_passAges cX2_passAges 3 none ∈ BG := mem_T (i := 269) (by decide +kernel) rfl
theorem wq_216 : Cond.methodLink RX3 109 yX2_meeting ∈ BG := mem_T (i := 287) (by decide +kernel) rfl
theorem wq_217 : Cond.instanceMethod yX2_meeting ∈ BG := mem_T (i := 288) (by decide +kernel) rfl
theorem wq_218 : Cond.selects RX2 yX2_meeting yX2_meeting ∈ BG := mem_T (i := 289) (by decide +kernel) rfl
theorem wq_219 : Cond.code yX2_meeting cX2_meeting 3 (some (.int)) ∈ BG := mem_T (i := 290) (by decide +kernel) rfl
theorem wq_220 : Cond.methodLink RX3 113 yJ6_bitCount_0f7a4 ∈ BG := mem_T (i := 291) (by decide +kernel) rfl
theorem wq_221 : Cond.methodLink RX3 118 yX2_heightOfAll ∈ BG := mem_T (i := 296) (by decide +kernel) rfl
theorem wq_222 : Cond.instanceMethod yX2_heightOfAll ∈ BG := mem_T (i := 297) (by decide +kernel) rfl
theorem wq_223 : Cond.selects RX2 yX2_heightOfAll yX2_heightOfAll ∈ BG := mem_T (i := 298) (by decide +kernel) rfl
theorem wq_224 : Cond.code yX2_heightOfAll cX2_heightOfAll 1 (some (.int)) ∈ BG := mem_T (i := 299) (by decide +kernel) rfl
theorem wq_225 : Cond.methodLink RX3 121 yX2_valleysStoodAt ∈ BG := mem_T (i := 304) (by decide +kernel) rfl
theorem wq_226 : Cond.instanceMethod yX2_valleysStoodAt ∈ BG := mem_T (i := 305) (by decide +kernel) rfl
theorem wq_227 : Cond.selects RX2 yX2_valleysStoodAt yX2_valleysStoodAt ∈ BG := mem_T (i := 306) (by decide +kernel) rfl
theorem wq_228 : Cond.code yX2_valleysStoodAt cX2_valleysStoodAt 1 (some (.int)) ∈ BG := mem_T (i := 307) (by decide +kernel) rfl
theorem wq_229 : Cond.methodLink RX3 124 yX2_valleysFaced ∈ BG := mem_T (i := 311) (by decide +kernel) rfl
theorem wq_230 : Cond.instanceMethod yX2_valleysFaced ∈ BG := mem_T (i := 312) (by decide +kernel) rfl
theorem wq_231 : Cond.selects RX2 yX2_valleysFaced yX2_valleysFaced ∈ BG := mem_T (i := 313) (by decide +kernel) rfl
theorem wq_232 : Cond.code yX2_valleysFaced cX2_valleysFaced 1 (some (.int)) ∈ BG := mem_T (i := 314) (by decide +kernel) rfl
theorem wq_233 : Cond.methodLink RX3 127 yX2_bowedOfAll ∈ BG := mem_T (i := 315) (by decide +kernel) rfl
theorem wq_234 : Cond.instanceMethod yX2_bowedOfAll ∈ BG := mem_T (i := 316) (by decide +kernel) rfl
theorem wq_235 : Cond.selects RX2 yX2_bowedOfAll yX2_bowedOfAll ∈ BG := mem_T (i := 317) (by decide +kernel) rfl
theorem wq_236 : Cond.code yX2_bowedOfAll cX2_bowedOfAll 1 (some (.int)) ∈ BG := mem_T (i := 318) (by decide +kernel) rfl
theorem wq_237 : Cond.methodLink RX3 130 yX3_isForetold ∈ BG := mem_T (i := 323) (by decide +kernel) rfl
theorem wq_238 : Cond.static yX3_isForetold ∈ BG := mem_T (i := 324) (by decide +kernel) rfl
theorem wq_239 : Cond.code yX3_isForetold cX3_isForetold 1 (some (.boolean)) ∈ BG := mem_T (i := 325) (by decide +kernel) rfl
theorem wq_240 : Cond.fieldLink RX3 16 "HillDance" "trial" "LHillDance$Shire;" ∈ BG := mem_T (i := 128) (by decide +kernel) rfl
theorem wq_241 : Cond.methodLink RX3 133 yX2_become ∈ BG := mem_T (i := 326) (by decide +kernel) rfl
theorem wq_242 : Cond.instanceMethod yX2_become ∈ BG := mem_T (i := 327) (by decide +kernel) rfl
theorem wq_243 : Cond.selects RX2 yX2_become yX2_become ∈ BG := mem_T (i := 328) (by decide +kernel) rfl
theorem wq_244 : Cond.code yX2_become cX2_become 2 none ∈ BG := mem_T (i := 329) (by decide +kernel) rfl
theorem wq_245 : Cond.methodLink RX3 137 yX2_facedBy ∈ BG := mem_T (i := 337) (by decide +kernel) rfl
theorem wq_246 : Cond.instanceMethod yX2_facedBy ∈ BG := mem_T (i := 338) (by decide +kernel) rfl
theorem wq_247 : Cond.selects RX2 yX2_facedBy yX2_facedBy ∈ BG := mem_T (i := 339) (by decide +kernel) rfl
theorem wq_248 : Cond.code yX2_facedBy cX2_facedBy 2 (some (.int)) ∈ BG := mem_T (i := 340) (by decide +kernel) rfl
theorem wq_249 : Cond.methodLink RX3 140 yX2_passAge ∈ BG := mem_T (i := 341) (by decide +kernel) rfl
theorem wq_250 : Cond.methodLink RX3 143 yX3_isNoPair ∈ BG := mem_T (i := 346) (by decide +kernel) rfl
theorem wq_251 : Cond.instanceMethod yX3_isNoPair ∈ BG := mem_T (i := 348) (by decide +kernel) rfl
theorem wq_252 : Cond.selects RX3 yX3_isNoPair yX3_isNoPair ∈ BG := mem_P (i := 6) (by decide +kernel) rfl
theorem wq_253 : Cond.code yX3_isNoPair cX3_isNoPair 3 (some (.boolean)) ∈ BG := mem_T (i := 349) (by decide +kernel) rfl
theorem wq_254 : Cond.methodLink RX3 147 yX3_agesUntilMeeting ∈ BG := mem_T (i := 350) (by decide +kernel) rfl
theorem wq_255 : Cond.instanceMethod yX3_agesUntilMeeting ∈ BG := mem_T (i := 352) (by decide +kernel) rfl
theorem wq_256 : Cond.selects RX3 yX3_agesUntilMeeting yX3_agesUntilMeeting ∈ BG := mem_P (i := 7) (by decide +kernel) rfl
theorem wq_257 : Cond.code yX3_agesUntilMeeting cX3_agesUntilMeeting 5 (some (.int)) ∈ BG := mem_T (i := 353) (by decide +kernel) rfl
theorem wq_258 : Cond.methodLink RX3 151 yX2_standsAndTurnsAs ∈ BG := mem_T (i := 358) (by decide +kernel) rfl
theorem wq_259 : Cond.instanceMethod yX2_standsAndTurnsAs ∈ BG := mem_T (i := 359) (by decide +kernel) rfl
theorem wq_260 : Cond.selects RX2 yX2_standsAndTurnsAs yX2_standsAndTurnsAs ∈ BG := mem_T (i := 360) (by decide +kernel) rfl
theorem wq_261 : Cond.code yX2_standsAndTurnsAs cX2_standsAndTurnsAs 3 (some (.boolean)) ∈ BG := mem_T (i := 361) (by decide +kernel) rfl
theorem wq_262 : Cond.methodLink RX3 155 yX2_everyone ∈ BG := mem_T (i := 370) (by decide +kernel) rfl
theorem wq_263 : Cond.instanceMethod yX2_everyone ∈ BG := mem_T (i := 371) (by decide +kernel) rfl
theorem wq_264 : Cond.selects RX2 yX2_everyone yX2_everyone ∈ BG := mem_T (i := 372) (by decide +kernel) rfl
theorem wq_265 : Cond.code yX2_everyone cX2_everyone 1 (some (.int)) ∈ BG := mem_T (i := 373) (by decide +kernel) rfl
theorem wq_266 : Cond.methodLink RX3 161 yX3_tryWith ∈ BG := mem_T (i := 382) (by decide +kernel) rfl
theorem wq_267 : Cond.instanceMethod yX3_tryWith ∈ BG := mem_T (i := 384) (by decide +kernel) rfl
theorem wq_268 : Cond.selects RX3 yX3_tryWith yX3_tryWith ∈ BG := mem_P (i := 9) (by decide +kernel) rfl
theorem wq_269 : Cond.code yX3_tryWith cX3_tryWith 4 none ∈ BG := mem_T (i := 385) (by decide +kernel) rfl
theorem wq_270 : Cond.methodLink RX3 158 yX3_soonestWith ∈ BG := mem_T (i := 378) (by decide +kernel) rfl
theorem wq_271 : Cond.instanceMethod yX3_soonestWith ∈ BG := mem_T (i := 380) (by decide +kernel) rfl
theorem wq_272 : Cond.selects RX3 yX3_soonestWith yX3_soonestWith ∈ BG := mem_P (i := 8) (by decide +kernel) rfl
theorem wq_273 : Cond.code yX3_soonestWith cX3_soonestWith 8 (some (.int)) ∈ BG := mem_T (i := 381) (by decide +kernel) rfl
theorem wq_274 : Cond.methodLink RX3 164 yX3_waysOn ∈ BG := mem_T (i := 406) (by decide +kernel) rfl
theorem wq_275 : Cond.methodLink RX3 167 yX2_climbOn ∈ BG := mem_T (i := 410) (by decide +kernel) rfl
theorem wq_276 : Cond.methodLink RX3 175 yX2_leastClimb ∈ BG := mem_T (i := 420) (by decide +kernel) rfl
theorem wq_277 : Cond.instanceMethod yX2_leastClimb ∈ BG := mem_T (i := 421) (by decide +kernel) rfl
theorem wq_278 : Cond.selects RX2 yX2_leastClimb yX2_leastClimb ∈ BG := mem_T (i := 422) (by decide +kernel) rfl
theorem wq_279 : Cond.code yX2_leastClimb cX2_leastClimb 3 (some (.int)) ∈ BG := mem_T (i := 423) (by decide +kernel) rfl
theorem wq_280 : Cond.methodLink RX3 178 yX3_agesOpen ∈ BG := mem_T (i := 429) (by decide +kernel) rfl
theorem wq_281 : Cond.instanceMethod yX3_agesOpen ∈ BG := mem_T (i := 431) (by decide +kernel) rfl
theorem wq_282 : Cond.selects RX3 yX3_agesOpen yX3_agesOpen ∈ BG := mem_P (i := 10) (by decide +kernel) rfl
theorem wq_283 : Cond.code yX3_agesOpen cX3_agesOpen 7 (some (.int)) ∈ BG := mem_T (i := 432) (by decide +kernel) rfl
theorem wq_284 : Cond.fieldLink RX3 31 "HillDance" "sheets" "[LHillDance$Sheet;" ∈ BG := mem_T (i := 132) (by decide +kernel) rfl
theorem wq_285 : Cond.methodLink RX3 259 yX3_facesAsTold ∈ BG := mem_T (i := 460) (by decide +kernel) rfl
theorem wq_286 : Cond.instanceMethod yX3_facesAsTold ∈ BG := mem_T (i := 462) (by decide +kernel) rfl
theorem wq_287 : Cond.selects RX3 yX3_facesAsTold yX3_facesAsTold ∈ BG := mem_P (i := 14) (by decide +kernel) rfl
theorem wq_288 : Cond.code yX3_facesAsTold cX3_facesAsTold 5 (some (.boolean)) ∈ BG := mem_T (i := 463) (by decide +kernel) rfl
theorem wq_289 : Cond.methodLink RX3 210 yX3_isNoSheet ∈ BG := mem_T (i := 449) (by decide +kernel) rfl
theorem wq_290 : Cond.static yX3_isNoSheet ∈ BG := mem_T (i := 450) (by decide +kernel) rfl
theorem wq_291 : Cond.code yX3_isNoSheet cX3_isNoSheet 1 (some (.boolean)) ∈ BG := mem_T (i := 451) (by decide +kernel) rfl
theorem wq_292 : Cond.methodLink RX3 224 yX1_isMissing ∈ BG := mem_T (i := 452) (by decide +kernel) rfl
theorem wq_293 : Cond.instanceMethod yX1_isMissing ∈ BG := mem_T (i := 453) (by decide +kernel) rfl
theorem wq_294 : Cond.selects RX1 yX1_isMissing yX1_isMissing ∈ BG := mem_T (i := 454) (by decide +kernel) rfl
theorem wq_295 : Cond.initialized RX1 ∈ BG := mem_T (i := 4) (by decide +kernel) rfl
theorem wq_296 : Cond.code yX1_isMissing cX1_isMissing 1 (some (.boolean)) ∈ BG := mem_T (i := 455) (by decide +kernel) rfl
theorem wq_297 : Cond.methodLink RX3 218 yX3_wrongWithSheet ∈ BG := mem_T (i := 445) (by decide +kernel) rfl
theorem wq_298 : Cond.instanceMethod yX3_wrongWithSheet ∈ BG := mem_T (i := 447) (by decide +kernel) rfl
theorem wq_299 : Cond.selects RX3 yX3_wrongWithSheet yX3_wrongWithSheet ∈ BG := mem_P (i := 12) (by decide +kernel) rfl
theorem wq_300 : Cond.code yX3_wrongWithSheet cX3_wrongWithSheet 2 (some (.int)) ∈ BG := mem_T (i := 448) (by decide +kernel) rfl
theorem wq_301 : Cond.methodLink RX3 182 yX3_wrongWithTold ∈ BG := mem_T (i := 441) (by decide +kernel) rfl
theorem wq_302 : Cond.instanceMethod yX3_wrongWithTold ∈ BG := mem_T (i := 443) (by decide +kernel) rfl
theorem wq_303 : Cond.selects RX3 yX3_wrongWithTold yX3_wrongWithTold ∈ BG := mem_P (i := 11) (by decide +kernel) rfl
theorem wq_304 : Cond.code yX3_wrongWithTold cX3_wrongWithTold 4 (some (.int)) ∈ BG := mem_T (i := 444) (by decide +kernel) rfl
theorem wq_305 : Cond.methodLink RX3 185 yX3_fittingSet ∈ BG := mem_T (i := 456) (by decide +kernel) rfl
theorem wq_306 : Cond.instanceMethod yX3_fittingSet ∈ BG := mem_T (i := 458) (by decide +kernel) rfl
theorem wq_307 : Cond.selects RX3 yX3_fittingSet yX3_fittingSet ∈ BG := mem_P (i := 13) (by decide +kernel) rfl
theorem wq_308 : Cond.code yX3_fittingSet cX3_fittingSet 7 (some (.int)) ∈ BG := mem_T (i := 459) (by decide +kernel) rfl
theorem wq_309 : Cond.methodLink RX3 188 yX2_passWetAge ∈ BG := mem_T (i := 476) (by decide +kernel) rfl
theorem wq_310 : Cond.instanceMethod yX2_passWetAge ∈ BG := mem_T (i := 477) (by decide +kernel) rfl
theorem wq_311 : Cond.selects RX2 yX2_passWetAge yX2_passWetAge ∈ BG := mem_T (i := 478) (by decide +kernel) rfl
theorem wq_312 : Cond.code yX2_passWetAge cX2_passWetAge 2 none ∈ BG := mem_T (i := 479) (by decide +kernel) rfl
theorem wq_313 : Cond.fieldLink RX3 25 "HillDance" "reader" "LHillDance$Reader;" ∈ BG := mem_T (i := 131) (by decide +kernel) rfl
theorem wq_314 : Cond.methodLink RX3 197 yX0_append ∈ BG := mem_T (i := 499) (by decide +kernel) rfl
theorem wq_315 : Cond.instanceMethod yX0_append ∈ BG := mem_T (i := 500) (by decide +kernel) rfl
theorem wq_316 : Cond.selects RX0 yX0_append yX0_append ∈ BG := mem_T (i := 501) (by decide +kernel) rfl
theorem wq_317 : Cond.code yX0_append cX0_append 2 none ∈ BG := mem_T (i := 502) (by decide +kernel) rfl
theorem wq_318 : Cond.methodLink RX3 200 yX0_readInto ∈ BG := mem_T (i := 511) (by decide +kernel) rfl
theorem wq_319 : Cond.instanceMethod yX0_readInto ∈ BG := mem_T (i := 512) (by decide +kernel) rfl
theorem wq_320 : Cond.selects RX0 yX0_readInto yX0_readInto ∈ BG := mem_T (i := 513) (by decide +kernel) rfl
theorem wq_321 : Cond.code yX0_readInto cX0_readInto 3 (some (.int)) ∈ BG := mem_T (i := 514) (by decide +kernel) rfl
theorem wq_322 : Cond.fieldLink RX3 253 "HillDance" "KIND_ABOVE" "[I" ∈ BG := mem_T (i := 636) (by decide +kernel) rfl
theorem wq_323 : Cond.methodLink RX3 207 yX3_isUnder ∈ BG := mem_T (i := 633) (by decide +kernel) rfl
theorem wq_324 : Cond.static yX3_isUnder ∈ BG := mem_T (i := 634) (by decide +kernel) rfl
theorem wq_325 : Cond.code yX3_isUnder cX3_isUnder 4 (some (.boolean)) ∈ BG := mem_T (i := 635) (by decide +kernel) rfl
theorem wq_326 : Cond.methodLink RX3 213 yX1_begin ∈ BG := mem_T (i := 642) (by decide +kernel) rfl
theorem wq_327 : Cond.instanceMethod yX1_begin ∈ BG := mem_T (i := 643) (by decide +kernel) rfl
theorem wq_328 : Cond.selects RX1 yX1_begin yX1_begin ∈ BG := mem_T (i := 644) (by decide +kernel) rfl
theorem wq_329 : Cond.code yX1_begin cX1_begin 3 none ∈ BG := mem_T (i := 645) (by decide +kernel) rfl
theorem wq_330 : Cond.methodLink RX3 221 yX1_put ∈ BG := mem_T (i := 651) (by decide +kernel) rfl
theorem wq_331 : Cond.instanceMethod yX1_put ∈ BG := mem_T (i := 652) (by decide +kernel) rfl
theorem wq_332 : Cond.selects RX1 yX1_put yX1_put ∈ BG := mem_T (i := 653) (by decide +kernel) rfl
theorem wq_333 : Cond.code yX1_put cX1_put 3 none ∈ BG := mem_T (i := 654) (by decide +kernel) rfl
theorem wq_334 : Cond.methodLink RX3 230 yX1_reaches ∈ BG := mem_T (i := 659) (by decide +kernel) rfl
theorem wq_335 : Cond.instanceMethod yX1_reaches ∈ BG := mem_T (i := 660) (by decide +kernel) rfl
theorem wq_336 : Cond.selects RX1 yX1_reaches yX1_reaches ∈ BG := mem_T (i := 661) (by decide +kernel) rfl
theorem wq_337 : Cond.code yX1_reaches cX1_reaches 3 (some (.boolean)) ∈ BG := mem_T (i := 662) (by decide +kernel) rfl
theorem wq_338 : Cond.fieldLink RX3 19 "HillDance" "kept" "LHillDance$Shire;" ∈ BG := mem_T (i := 129) (by decide +kernel) rfl
theorem wq_339 : Cond.fieldLink RX3 242 "HillDance" "isKept" "Z" ∈ BG := mem_T (i := 130) (by decide +kernel) rfl
theorem wq_340 : Cond.methodLink RX3 249 yX2_spotsHeld ∈ BG := mem_T (i := 688) (by decide +kernel) rfl
theorem wq_341 : Cond.instanceMethod yX2_spotsHeld ∈ BG := mem_T (i := 689) (by decide +kernel) rfl
theorem wq_342 : Cond.selects RX2 yX2_spotsHeld yX2_spotsHeld ∈ BG := mem_T (i := 690) (by decide +kernel) rfl
theorem wq_343 : Cond.code yX2_spotsHeld cX2_spotsHeld 3 (some (.int)) ∈ BG := mem_T (i := 691) (by decide +kernel) rfl
theorem wq_344 : Cond.fieldLink RX4 19 "HillDanceModel" "found" "[I" ∈ BG := mem_T (i := 715) (by decide +kernel) rfl
theorem wq_345 : Cond.constant RX4 75 (-1000001) ∈ BG := mem_T (i := 798) (by decide +kernel) rfl
theorem wq_346 : Cond.fieldLink RX4 9 "HillDanceModel" "now" "[I" ∈ BG := mem_T (i := 711) (by decide +kernel) rfl
theorem wq_347 : Cond.fieldLink RX4 16 "HillDanceModel" "aside" "[I" ∈ BG := mem_T (i := 713) (by decide +kernel) rfl
theorem wq_348 : Cond.methodLink RX4 76 yX4_copyRow ∈ BG := mem_T (i := 929) (by decide +kernel) rfl
theorem wq_349 : Cond.static yX4_copyRow ∈ BG := mem_T (i := 930) (by decide +kernel) rfl
theorem wq_350 : Cond.initialized RX4 ∈ BG := mem_T (i := 5) (by decide +kernel) rfl
theorem wq_351 : Cond.code yX4_copyRow cX4_copyRow 3 none ∈ BG := mem_T (i := 931) (by decide +kernel) rfl
theorem wq_352 : Cond.constant RX4 80 (-1000004) ∈ BG := mem_T (i := 944) (by decide +kernel) rfl
theorem wq_353 : Cond.methodLink RX4 81 yX4_finding ∈ BG := mem_T (i := 799) (by decide +kernel) rfl
theorem wq_354 : Cond.instanceMethod yX4_finding ∈ BG := mem_T (i := 801) (by decide +kernel) rfl
theorem wq_355 : Cond.selects RX4 yX4_finding yX4_finding ∈ BG := mem_P (i := 25) (by decide +kernel) rfl
theorem wq_356 : Cond.code yX4_finding cX4_finding 2 (some (.int)) ∈ BG := mem_T (i := 802) (by decide +kernel) rfl
theorem wq_357 : Cond.methodLink RX4 85 yX4_within ∈ BG := mem_T (i := 791) (by decide +kernel) rfl
theorem wq_358 : Cond.static yX4_within ∈ BG := mem_T (i := 792) (by decide +kernel) rfl
theorem wq_359 : Cond.code yX4_within cX4_within 3 (some (.boolean)) ∈ BG := mem_T (i := 793) (by decide +kernel) rfl
theorem wq_360 : Cond.methodLink RX4 89 yX4_become ∈ BG := mem_T (i := 794) (by decide +kernel) rfl
theorem wq_361 : Cond.instanceMethod yX4_become ∈ BG := mem_T (i := 796) (by decide +kernel) rfl
theorem wq_362 : Cond.selects RX4 yX4_become yX4_become ∈ BG := mem_P (i := 24) (by decide +kernel) rfl
theorem wq_363 : Cond.code yX4_become cX4_become 4 (some (.int)) ∈ BG := mem_T (i := 797) (by decide +kernel) rfl
theorem wq_364 : Cond.methodLink RX4 93 yX4_at ∈ BG := mem_T (i := 818) (by decide +kernel) rfl
theorem wq_365 : Cond.static yX4_at ∈ BG := mem_T (i := 819) (by decide +kernel) rfl
theorem wq_366 : Cond.code yX4_at cX4_at 2 (some (.int)) ∈ BG := mem_T (i := 820) (by decide +kernel) rfl
theorem wq_367 : Cond.methodLink RX4 96 yX4_isKind ∈ BG := mem_T (i := 807) (by decide +kernel) rfl
theorem wq_368 : Cond.static yX4_isKind ∈ BG := mem_T (i := 808) (by decide +kernel) rfl
theorem wq_369 : Cond.code yX4_isKind cX4_isKind 1 (some (.boolean)) ∈ BG := mem_T (i := 809) (by decide +kernel) rfl
theorem wq_370 : Cond.methodLink RX4 100 yX4_isValley ∈ BG := mem_T (i := 810) (by decide +kernel) rfl
theorem wq_371 : Cond.static yX4_isValley ∈ BG := mem_T (i := 811) (by decide +kernel) rfl
theorem wq_372 : Cond.code yX4_isValley cX4_isValley 1 (some (.boolean)) ∈ BG := mem_T (i := 812) (by decide +kernel) rfl
theorem wq_373 : Cond.constant RX4 103 (-1000002) ∈ BG := mem_T (i := 813) (by decide +kernel) rfl
theorem wq_374 : Cond.methodLink RX4 104 yX4_comes ∈ BG := mem_T (i := 814) (by decide +kernel) rfl
theorem wq_375 : Cond.instanceMethod yX4_comes ∈ BG := mem_T (i := 816) (by decide +kernel) rfl
theorem wq_376 : Cond.selects RX4 yX4_comes yX4_comes ∈ BG := mem_P (i := 26) (by decide +kernel) rfl
theorem wq_377 : Cond.code yX4_comes cX4_comes 7 (some (.int)) ∈ BG := mem_T (i := 817) (by decide +kernel) rfl
theorem wq_378 : Cond.methodLink RX4 108 yX4_hillIs ∈ BG := mem_T (i := 841) (by decide +kernel) rfl
theorem wq_379 : Cond.instanceMethod yX4_hillIs ∈ BG := mem_T (i := 843) (by decide +kernel) rfl
theorem wq_380 : Cond.selects RX4 yX4_hillIs yX4_hillIs ∈ BG := mem_P (i := 31) (by decide +kernel) rfl
theorem wq_381 : Cond.code yX4_hillIs cX4_hillIs 3 (some (.int)) ∈ BG := mem_T (i := 844) (by decide +kernel) rfl
theorem wq_382 : Cond.fieldLink RX4 22 "HillDanceModel" "faces" "[I" ∈ BG := mem_T (i := 716) (by decide +kernel) rfl
theorem wq_383 : Cond.methodLink RX4 111 yX4_by12 ∈ BG := mem_T (i := 845) (by decide +kernel) rfl
theorem wq_384 : Cond.static yX4_by12 ∈ BG := mem_T (i := 846) (by decide +kernel) rfl
theorem wq_385 : Cond.code yX4_by12 cX4_by12 2 (some (.int)) ∈ BG := mem_T (i := 847) (by decide +kernel) rfl
theorem wq_386 : Cond.methodLink RX4 114 yX4_facesOf ∈ BG := mem_T (i := 837) (by decide +kernel) rfl
theorem wq_387 : Cond.instanceMethod yX4_facesOf ∈ BG := mem_T (i := 839) (by decide +kernel) rfl
theorem wq_388 : Cond.selects RX4 yX4_facesOf yX4_facesOf ∈ BG := mem_P (i := 30) (by decide +kernel) rfl
theorem wq_389 : Cond.code yX4_facesOf cX4_facesOf 2 (some (.int)) ∈ BG := mem_T (i := 840) (by decide +kernel) rfl
theorem wq_390 : Cond.fieldLink RX4 25 "HillDanceModel" "met" "[I" ∈ BG := mem_T (i := 717) (by decide +kernel) rfl
theorem wq_391 : Cond.methodLink RX4 117 yX4_movesOf ∈ BG := mem_T (i := 848) (by decide +kernel) rfl
theorem wq_392 : Cond.instanceMethod yX4_movesOf ∈ BG := mem_T (i := 850) (by decide +kernel) rfl
theorem wq_393 : Cond.selects RX4 yX4_movesOf yX4_movesOf ∈ BG := mem_P (i := 32) (by decide +kernel) rfl
theorem wq_394 : Cond.code yX4_movesOf cX4_movesOf 4 (some (.int)) ∈ BG := mem_T (i := 851) (by decide +kernel) rfl
theorem wq_395 : Cond.methodLink RX4 120 yX4_atValley ∈ BG := mem_T (i := 852) (by decide +kernel) rfl
theorem wq_396 : Cond.instanceMethod yX4_atValley ∈ BG := mem_T (i := 854) (by decide +kernel) rfl
theorem wq_397 : Cond.selects RX4 yX4_atValley yX4_atValley ∈ BG := mem_P (i := 33) (by decide +kernel) rfl
theorem wq_398 : Cond.code yX4_atValley cX4_atValley 4 (some (.int)) ∈ BG := mem_T (i := 855) (by decide +kernel) rfl
theorem wq_399 : Cond.methodLink RX4 123 yX4_bits ∈ BG := mem_T (i := 856) (by decide +kernel) rfl
theorem wq_400 : Cond.static yX4_bits ∈ BG := mem_T (i := 857) (by decide +kernel) rfl
theorem wq_401 : Cond.code yX4_bits cX4_bits 3 (some (.int)) ∈ BG := mem_T (i := 858) (by decide +kernel) rfl
theorem wq_402 : Cond.methodLink RX4 126 yX4_turnsOf ∈ BG := mem_T (i := 859) (by decide +kernel) rfl
theorem wq_403 : Cond.instanceMethod yX4_turnsOf ∈ BG := mem_T (i := 861) (by decide +kernel) rfl
theorem wq_404 : Cond.selects RX4 yX4_turnsOf yX4_turnsOf ∈ BG := mem_P (i := 34) (by decide +kernel) rfl
theorem wq_405 : Cond.code yX4_turnsOf cX4_turnsOf 3 (some (.int)) ∈ BG := mem_T (i := 862) (by decide +kernel) rfl
theorem wq_406 : Cond.methodLink RX4 129 yX4_meeting ∈ BG := mem_T (i := 833) (by decide +kernel) rfl
theorem wq_407 : Cond.instanceMethod yX4_meeting ∈ BG := mem_T (i := 835) (by decide +kernel) rfl
theorem wq_408 : Cond.selects RX4 yX4_meeting yX4_meeting ∈ BG := mem_P (i := 29) (by decide +kernel) rfl
theorem wq_409 : Cond.code yX4_meeting cX4_meeting 4 (some (.int)) ∈ BG := mem_T (i := 836) (by decide +kernel) rfl
theorem wq_410 : Cond.fieldLink RX4 28 "HillDanceModel" "moves" "[I" ∈ BG := mem_T (i := 718) (by decide +kernel) rfl
theorem wq_411 : Cond.fieldLink RX4 31 "HillDanceModel" "turns" "[I" ∈ BG := mem_T (i := 719) (by decide +kernel) rfl
theorem wq_412 : Cond.fieldLink RX4 34 "HillDanceModel" "sinks" "[I" ∈ BG := mem_T (i := 720) (by decide +kernel) rfl
theorem wq_413 : Cond.methodLink RX4 132 yX4_sinksOf ∈ BG := mem_T (i := 863) (by decide +kernel) rfl
theorem wq_414 : Cond.instanceMethod yX4_sinksOf ∈ BG := mem_T (i := 865) (by decide +kernel) rfl
theorem wq_415 : Cond.selects RX4 yX4_sinksOf yX4_sinksOf ∈ BG := mem_P (i := 35) (by decide +kernel) rfl
theorem wq_416 : Cond.code yX4_sinksOf cX4_sinksOf 3 (some (.int)) ∈ BG := mem_T (i := 866) (by decide +kernel) rfl
theorem wq_417 : Cond.methodLink RX4 135 yX4_isHill ∈ BG := mem_T (i := 825) (by decide +kernel) rfl
theorem wq_418 : Cond.instanceMethod yX4_isHill ∈ BG := mem_T (i := 827) (by decide +kernel) rfl
theorem wq_419 : Cond.selects RX4 yX4_isHill yX4_isHill ∈ BG := mem_P (i := 27) (by decide +kernel) rfl
theorem wq_420 : Cond.code yX4_isHill cX4_isHill 2 (some (.boolean)) ∈ BG := mem_T (i := 828) (by decide +kernel) rfl
theorem wq_421 : Cond.methodLink RX4 138 yX4_looksAt ∈ BG := mem_T (i := 829) (by decide +kernel) rfl
theorem wq_422 : Cond.instanceMethod yX4_looksAt ∈ BG := mem_T (i := 831) (by decide +kernel) rfl
theorem wq_423 : Cond.selects RX4 yX4_looksAt yX4_looksAt ∈ BG := mem_P (i := 28) (by decide +kernel) rfl
theorem wq_424 : Cond.code yX4_looksAt cX4_looksAt 2 none ∈ BG := mem_T (i := 832) (by decide +kernel) rfl
theorem wq_425 : Cond.methodLink RX4 141 yX4_isHigh ∈ BG := mem_T (i := 874) (by decide +kernel) rfl
theorem wq_426 : Cond.static yX4_isHigh ∈ BG := mem_T (i := 875) (by decide +kernel) rfl
theorem wq_427 : Cond.code yX4_isHigh cX4_isHigh 1 (some (.boolean)) ∈ BG := mem_T (i := 876) (by decide +kernel) rfl
theorem wq_428 : Cond.methodLink RX4 144 yX4_mayBe ∈ BG := mem_T (i := 871) (by decide +kernel) rfl
theorem wq_429 : Cond.static yX4_mayBe ∈ BG := mem_T (i := 872) (by decide +kernel) rfl
theorem wq_430 : Cond.code yX4_mayBe cX4_mayBe 2 (some (.boolean)) ∈ BG := mem_T (i := 873) (by decide +kernel) rfl
theorem wq_431 : Cond.methodLink RX4 153 yX4_facing ∈ BG := mem_T (i := 881) (by decide +kernel) rfl
theorem wq_432 : Cond.instanceMethod yX4_facing ∈ BG := mem_T (i := 883) (by decide +kernel) rfl
theorem wq_433 : Cond.selects RX4 yX4_facing yX4_facing ∈ BG := mem_P (i := 36) (by decide +kernel) rfl
theorem wq_434 : Cond.code yX4_facing cX4_facing 4 (some (.int)) ∈ BG := mem_T (i := 884) (by decide +kernel) rfl
theorem wq_435 : Cond.methodLink RX4 156 yX4_highestAt ∈ BG := mem_T (i := 885) (by decide +kernel) rfl
theorem wq_436 : Cond.instanceMethod yX4_highestAt ∈ BG := mem_T (i := 887) (by decide +kernel) rfl
theorem wq_437 : Cond.selects RX4 yX4_highestAt yX4_highestAt ∈ BG := mem_P (i := 37) (by decide +kernel) rfl
theorem wq_438 : Cond.code yX4_highestAt cX4_highestAt 4 (some (.int)) ∈ BG := mem_T (i := 888) (by decide +kernel) rfl
theorem wq_439 : Cond.methodLink RX4 162 yX4_age ∈ BG := mem_T (i := 900) (by decide +kernel) rfl
theorem wq_440 : Cond.instanceMethod yX4_age ∈ BG := mem_T (i := 902) (by decide +kernel) rfl
theorem wq_441 : Cond.selects RX4 yX4_age yX4_age ∈ BG := mem_P (i := 39) (by decide +kernel) rfl
theorem wq_442 : Cond.code yX4_age cX4_age 3 none ∈ BG := mem_T (i := 903) (by decide +kernel) rfl
theorem wq_443 : Cond.constant RX4 165 (99999) ∈ BG := mem_T (i := 894) (by decide +kernel) rfl
theorem wq_444 : Cond.methodLink RX4 167 yX4_ages ∈ BG := mem_T (i := 896) (by decide +kernel) rfl
theorem wq_445 : Cond.instanceMethod yX4_ages ∈ BG := mem_T (i := 898) (by decide +kernel) rfl
theorem wq_446 : Cond.selects RX4 yX4_ages yX4_ages ∈ BG := mem_P (i := 38) (by decide +kernel) rfl
theorem wq_447 : Cond.code yX4_ages cX4_ages 3 none ∈ BG := mem_T (i := 899) (by decide +kernel) rfl
theorem wq_448 : Cond.methodLink RX4 171 yX4_whoMeets ∈ BG := mem_T (i := 905) (by decide +kernel) rfl
theorem wq_449 : Cond.instanceMethod yX4_whoMeets ∈ BG := mem_T (i := 907) (by decide +kernel) rfl
theorem wq_450 : Cond.selects RX4 yX4_whoMeets yX4_whoMeets ∈ BG := mem_P (i := 40) (by decide +kernel) rfl
theorem wq_451 : Cond.code yX4_whoMeets cX4_whoMeets 3 (some (.int)) ∈ BG := mem_T (i := 908) (by decide +kernel) rfl
theorem wq_452 : Cond.constant RX4 166 (-1000005) ∈ BG := mem_T (i := 895) (by decide +kernel) rfl
theorem wq_453 : Cond.methodLink RX4 175 yX4_sumOf ∈ BG := mem_T (i := 913) (by decide +kernel) rfl
theorem wq_454 : Cond.instanceMethod yX4_sumOf ∈ BG := mem_T (i := 915) (by decide +kernel) rfl
theorem wq_455 : Cond.selects RX4 yX4_sumOf yX4_sumOf ∈ BG := mem_P (i := 41) (by decide +kernel) rfl
theorem wq_456 : Cond.code yX4_sumOf cX4_sumOf 4 (some (.int)) ∈ BG := mem_T (i := 916) (by decide +kernel) rfl
theorem wq_457 : Cond.methodLink RX4 178 yX4_valleysAt ∈ BG := mem_T (i := 917) (by decide +kernel) rfl
theorem wq_458 : Cond.instanceMethod yX4_valleysAt ∈ BG := mem_T (i := 919) (by decide +kernel) rfl
theorem wq_459 : Cond.selects RX4 yX4_valleysAt yX4_valleysAt ∈ BG := mem_P (i := 42) (by decide +kernel) rfl
theorem wq_460 : Cond.code yX4_valleysAt cX4_valleysAt 3 (some (.int)) ∈ BG := mem_T (i := 920) (by decide +kernel) rfl
theorem wq_461 : Cond.methodLink RX4 181 yX4_valleysFaced ∈ BG := mem_T (i := 921) (by decide +kernel) rfl
theorem wq_462 : Cond.instanceMethod yX4_valleysFaced ∈ BG := mem_T (i := 923) (by decide +kernel) rfl
theorem wq_463 : Cond.selects RX4 yX4_valleysFaced yX4_valleysFaced ∈ BG := mem_P (i := 43) (by decide +kernel) rfl
theorem wq_464 : Cond.code yX4_valleysFaced cX4_valleysFaced 3 (some (.int)) ∈ BG := mem_T (i := 924) (by decide +kernel) rfl
theorem wq_465 : Cond.methodLink RX4 184 yX4_putBack ∈ BG := mem_T (i := 932) (by decide +kernel) rfl
theorem wq_466 : Cond.instanceMethod yX4_putBack ∈ BG := mem_T (i := 934) (by decide +kernel) rfl
theorem wq_467 : Cond.selects RX4 yX4_putBack yX4_putBack ∈ BG := mem_P (i := 44) (by decide +kernel) rfl
theorem wq_468 : Cond.code yX4_putBack cX4_putBack 2 (some (.int)) ∈ BG := mem_T (i := 935) (by decide +kernel) rfl
theorem wq_469 : Cond.methodLink RX4 187 yX4_orNone ∈ BG := mem_T (i := 940) (by decide +kernel) rfl
theorem wq_470 : Cond.instanceMethod yX4_orNone ∈ BG := mem_T (i := 942) (by decide +kernel) rfl
theorem wq_471 : Cond.selects RX4 yX4_orNone yX4_orNone ∈ BG := mem_P (i := 45) (by decide +kernel) rfl
theorem wq_472 : Cond.code yX4_orNone cX4_orNone 2 (some (.int)) ∈ BG := mem_T (i := 943) (by decide +kernel) rfl
theorem wq_473 : Cond.methodLink RX4 190 yX4_doMeet ∈ BG := mem_T (i := 957) (by decide +kernel) rfl
theorem wq_474 : Cond.instanceMethod yX4_doMeet ∈ BG := mem_T (i := 959) (by decide +kernel) rfl
theorem wq_475 : Cond.selects RX4 yX4_doMeet yX4_doMeet ∈ BG := mem_P (i := 48) (by decide +kernel) rfl
theorem wq_476 : Cond.code yX4_doMeet cX4_doMeet 3 (some (.boolean)) ∈ BG := mem_T (i := 960) (by decide +kernel) rfl
theorem wq_477 : Cond.methodLink RX4 193 yX4_areTwo ∈ BG := mem_T (i := 949) (by decide +kernel) rfl
theorem wq_478 : Cond.instanceMethod yX4_areTwo ∈ BG := mem_T (i := 951) (by decide +kernel) rfl
theorem wq_479 : Cond.selects RX4 yX4_areTwo yX4_areTwo ∈ BG := mem_P (i := 46) (by decide +kernel) rfl
theorem wq_480 : Cond.code yX4_areTwo cX4_areTwo 3 (some (.boolean)) ∈ BG := mem_T (i := 952) (by decide +kernel) rfl
theorem wq_481 : Cond.methodLink RX4 196 yX4_meetIn ∈ BG := mem_T (i := 953) (by decide +kernel) rfl
theorem wq_482 : Cond.instanceMethod yX4_meetIn ∈ BG := mem_T (i := 955) (by decide +kernel) rfl
theorem wq_483 : Cond.selects RX4 yX4_meetIn yX4_meetIn ∈ BG := mem_P (i := 47) (by decide +kernel) rfl
theorem wq_484 : Cond.code yX4_meetIn cX4_meetIn 5 (some (.int)) ∈ BG := mem_T (i := 956) (by decide +kernel) rfl
theorem wq_485 : Cond.methodLink RX4 200 yX4_isAsAside ∈ BG := mem_T (i := 965) (by decide +kernel) rfl
theorem wq_486 : Cond.instanceMethod yX4_isAsAside ∈ BG := mem_T (i := 967) (by decide +kernel) rfl
theorem wq_487 : Cond.selects RX4 yX4_isAsAside yX4_isAsAside ∈ BG := mem_P (i := 49) (by decide +kernel) rfl
theorem wq_488 : Cond.code yX4_isAsAside cX4_isAsAside 3 (some (.boolean)) ∈ BG := mem_T (i := 968) (by decide +kernel) rfl
theorem wq_489 : Cond.methodLink RX4 204 yX4_isSoon ∈ BG := mem_T (i := 973) (by decide +kernel) rfl
theorem wq_490 : Cond.static yX4_isSoon ∈ BG := mem_T (i := 974) (by decide +kernel) rfl
theorem wq_491 : Cond.code yX4_isSoon cX4_isSoon 1 (some (.boolean)) ∈ BG := mem_T (i := 975) (by decide +kernel) rfl
theorem wq_492 : Cond.constant RX4 207 (-1000007) ∈ BG := mem_T (i := 988) (by decide +kernel) rfl
theorem wq_493 : Cond.methodLink RX4 208 yX4_soonest ∈ BG := mem_T (i := 984) (by decide +kernel) rfl
theorem wq_494 : Cond.instanceMethod yX4_soonest ∈ BG := mem_T (i := 986) (by decide +kernel) rfl
theorem wq_495 : Cond.selects RX4 yX4_soonest yX4_soonest ∈ BG := mem_P (i := 50) (by decide +kernel) rfl
theorem wq_496 : Cond.code yX4_soonest cX4_soonest 11 (some (.int)) ∈ BG := mem_T (i := 987) (by decide +kernel) rfl
theorem wq_497 : Cond.methodLink RX4 211 yX4_isGo ∈ BG := mem_T (i := 1001) (by decide +kernel) rfl
theorem wq_498 : Cond.static yX4_isGo ∈ BG := mem_T (i := 1002) (by decide +kernel) rfl
theorem wq_499 : Cond.code yX4_isGo cX4_isGo 1 (some (.boolean)) ∈ BG := mem_T (i := 1003) (by decide +kernel) rfl
theorem wq_500 : Cond.methodLink RX4 214 yX4_behind ∈ BG := mem_T (i := 1004) (by decide +kernel) rfl
theorem wq_501 : Cond.instanceMethod yX4_behind ∈ BG := mem_T (i := 1006) (by decide +kernel) rfl
theorem wq_502 : Cond.selects RX4 yX4_behind yX4_behind ∈ BG := mem_P (i := 51) (by decide +kernel) rfl
theorem wq_503 : Cond.code yX4_behind cX4_behind 4 (some (.int)) ∈ BG := mem_T (i := 1007) (by decide +kernel) rfl
theorem wq_504 : Cond.methodLink RX4 217 yX4_between ∈ BG := mem_T (i := 1023) (by decide +kernel) rfl
theorem wq_505 : Cond.instanceMethod yX4_between ∈ BG := mem_T (i := 1025) (by decide +kernel) rfl
theorem wq_506 : Cond.selects RX4 yX4_between yX4_between ∈ BG := mem_P (i := 53) (by decide +kernel) rfl
theorem wq_507 : Cond.code yX4_between cX4_between 6 (some (.int)) ∈ BG := mem_T (i := 1026) (by decide +kernel) rfl
theorem wq_508 : Cond.methodLink RX4 220 yX4_areEnds ∈ BG := mem_T (i := 1016) (by decide +kernel) rfl
theorem wq_509 : Cond.static yX4_areEnds ∈ BG := mem_T (i := 1017) (by decide +kernel) rfl
theorem wq_510 : Cond.code yX4_areEnds cX4_areEnds 2 (some (.boolean)) ∈ BG := mem_T (i := 1018) (by decide +kernel) rfl
theorem wq_511 : Cond.methodLink RX4 223 yX4_roadNow ∈ BG := mem_T (i := 1019) (by decide +kernel) rfl
theorem wq_512 : Cond.instanceMethod yX4_roadNow ∈ BG := mem_T (i := 1021) (by decide +kernel) rfl
theorem wq_513 : Cond.selects RX4 yX4_roadNow yX4_roadNow ∈ BG := mem_P (i := 52) (by decide +kernel) rfl
theorem wq_514 : Cond.code yX4_roadNow cX4_roadNow 6 (some (.int)) ∈ BG := mem_T (i := 1022) (by decide +kernel) rfl
theorem wq_515 : Cond.methodLink RX4 226 yX4_climbNow ∈ BG := mem_T (i := 1031) (by decide +kernel) rfl
theorem wq_516 : Cond.instanceMethod yX4_climbNow ∈ BG := mem_T (i := 1033) (by decide +kernel) rfl
theorem wq_517 : Cond.selects RX4 yX4_climbNow yX4_climbNow ∈ BG := mem_P (i := 54) (by decide +kernel) rfl
theorem wq_518 : Cond.code yX4_climbNow cX4_climbNow 3 (some (.int)) ∈ BG := mem_T (i := 1034) (by decide +kernel) rfl
theorem wq_519 : Cond.methodLink RX4 229 yX4_openIn ∈ BG := mem_T (i := 1039) (by decide +kernel) rfl
theorem wq_520 : Cond.instanceMethod yX4_openIn ∈ BG := mem_T (i := 1041) (by decide +kernel) rfl
theorem wq_521 : Cond.selects RX4 yX4_openIn yX4_openIn ∈ BG := mem_P (i := 55) (by decide +kernel) rfl
theorem wq_522 : Cond.code yX4_openIn cX4_openIn 7 (some (.int)) ∈ BG := mem_T (i := 1042) (by decide +kernel) rfl
theorem wq_523 : Cond.methodLink RX4 233 yX4_isSheet ∈ BG := mem_T (i := 1055) (by decide +kernel) rfl
theorem wq_524 : Cond.static yX4_isSheet ∈ BG := mem_T (i := 1056) (by decide +kernel) rfl
theorem wq_525 : Cond.code yX4_isSheet cX4_isSheet 1 (some (.boolean)) ∈ BG := mem_T (i := 1057) (by decide +kernel) rfl
theorem wq_526 : Cond.fieldLink RX4 63 "HillDanceModel" "widths" "[I" ∈ BG := mem_T (i := 732) (by decide +kernel) rfl
theorem wq_527 : Cond.constant RX4 236 (-1000006) ∈ BG := mem_T (i := 1058) (by decide +kernel) rfl
theorem wq_528 : Cond.fieldLink RX4 66 "HillDanceModel" "sizes" "[I" ∈ BG := mem_T (i := 733) (by decide +kernel) rfl
theorem wq_529 : Cond.fieldLink RX4 69 "HillDanceModel" "numbers" "[I" ∈ BG := mem_T (i := 734) (by decide +kernel) rfl
theorem wq_530 : Cond.methodLink RX4 237 yX4_facedSo ∈ BG := mem_T (i := 1063) (by decide +kernel) rfl
theorem wq_531 : Cond.instanceMethod yX4_facedSo ∈ BG := mem_T (i := 1065) (by decide +kernel) rfl
theorem wq_532 : Cond.selects RX4 yX4_facedSo yX4_facedSo ∈ BG := mem_P (i := 58) (by decide +kernel) rfl
theorem wq_533 : Cond.code yX4_facedSo cX4_facedSo 6 (some (.boolean)) ∈ BG := mem_T (i := 1066) (by decide +kernel) rfl
theorem wq_534 : Cond.methodLink RX4 240 yX4_lacks ∈ BG := mem_T (i := 1051) (by decide +kernel) rfl
theorem wq_535 : Cond.instanceMethod yX4_lacks ∈ BG := mem_T (i := 1053) (by decide +kernel) rfl
theorem wq_536 : Cond.selects RX4 yX4_lacks yX4_lacks ∈ BG := mem_P (i := 56) (by decide +kernel) rfl
theorem wq_537 : Cond.code yX4_lacks cX4_lacks 3 (some (.int)) ∈ BG := mem_T (i := 1054) (by decide +kernel) rfl
theorem wq_538 : Cond.methodLink RX4 243 yX4_fitting ∈ BG := mem_T (i := 1059) (by decide +kernel) rfl
theorem wq_539 : Cond.instanceMethod yX4_fitting ∈ BG := mem_T (i := 1061) (by decide +kernel) rfl
theorem wq_540 : Cond.selects RX4 yX4_fitting yX4_fitting ∈ BG := mem_P (i := 57) (by decide +kernel) rfl
theorem wq_541 : Cond.code yX4_fitting cX4_fitting 9 (some (.int)) ∈ BG := mem_T (i := 1062) (by decide +kernel) rfl
theorem wq_542 : Cond.constant RX4 246 (1103515245) ∈ BG := mem_T (i := 1083) (by decide +kernel) rfl
theorem wq_543 : Cond.methodLink RX4 247 yX4_drawn ∈ BG := mem_T (i := 1079) (by decide +kernel) rfl
theorem wq_544 : Cond.instanceMethod yX4_drawn ∈ BG := mem_T (i := 1081) (by decide +kernel) rfl
theorem wq_545 : Cond.selects RX4 yX4_drawn yX4_drawn ∈ BG := mem_P (i := 59) (by decide +kernel) rfl
theorem wq_546 : Cond.code yX4_drawn cX4_drawn 1 (some (.int)) ∈ BG := mem_T (i := 1082) (by decide +kernel) rfl
theorem wq_547 : Cond.fieldLink RX4 250 "HillDanceModel" "taped" "I" ∈ BG := mem_T (i := 722) (by decide +kernel) rfl
theorem wq_548 : Cond.fieldLink RX4 37 "HillDanceModel" "tape" "[I" ∈ BG := mem_T (i := 721) (by decide +kernel) rfl
theorem wq_549 : Cond.fieldLink RX4 254 "HillDanceModel" "ends" "I" ∈ BG := mem_T (i := 724) (by decide +kernel) rfl
theorem wq_550 : Cond.fieldLink RX4 257 "HillDanceModel" "begins" "I" ∈ BG := mem_T (i := 723) (by decide +kernel) rfl
theorem wq_551 : Cond.methodLink RX4 260 yX4_byteAt ∈ BG := mem_T (i := 1108) (by decide +kernel) rfl
theorem wq_552 : Cond.instanceMethod yX4_byteAt ∈ BG := mem_T (i := 1110) (by decide +kernel) rfl
theorem wq_553 : Cond.selects RX4 yX4_byteAt yX4_byteAt ∈ BG := mem_P (i := 61) (by decide +kernel) rfl
theorem wq_554 : Cond.code yX4_byteAt cX4_byteAt 2 (some (.int)) ∈ BG := mem_T (i := 1111) (by decide +kernel) rfl
theorem wq_555 : Cond.fieldLink RX4 263 "HillDanceModel" "value" "I" ∈ BG := mem_T (i := 726) (by decide +kernel) rfl
theorem wq_556 : Cond.fieldLink RX4 266 "HillDanceModel" "sort" "I" ∈ BG := mem_T (i := 725) (by decide +kernel) rfl
theorem wq_557 : Cond.methodLink RX4 269 yJ0_length_8abf5 ∈ BG := mem_T (i := 1124) (by decide +kernel) rfl
theorem wq_558 : Cond.methodLink RX4 272 yJ0_charAt_5068e ∈ BG := mem_T (i := 1125) (by decide +kernel) rfl
theorem wq_559 : Cond.fieldLink RX4 276 "HillDanceModel" "isWrong" "Z" ∈ BG := mem_T (i := 727) (by decide +kernel) rfl
theorem wq_560 : Cond.methodLink RX4 280 yX4_next ∈ BG := mem_T (i := 1104) (by decide +kernel) rfl
theorem wq_561 : Cond.instanceMethod yX4_next ∈ BG := mem_T (i := 1106) (by decide +kernel) rfl
theorem wq_562 : Cond.selects RX4 yX4_next yX4_next ∈ BG := mem_P (i := 60) (by decide +kernel) rfl
theorem wq_563 : Cond.code yX4_next cX4_next 2 none ∈ BG := mem_T (i := 1107) (by decide +kernel) rfl
theorem wq_564 : Cond.methodLink RX4 283 yX4_must ∈ BG := mem_T (i := 1126) (by decide +kernel) rfl
theorem wq_565 : Cond.instanceMethod yX4_must ∈ BG := mem_T (i := 1128) (by decide +kernel) rfl
theorem wq_566 : Cond.selects RX4 yX4_must yX4_must ∈ BG := mem_P (i := 65) (by decide +kernel) rfl
theorem wq_567 : Cond.code yX4_must cX4_must 2 none ∈ BG := mem_T (i := 1129) (by decide +kernel) rfl
theorem wq_568 : Cond.fieldLink RX4 287 "HillDanceModel" "itemMany" "I" ∈ BG := mem_T (i := 730) (by decide +kernel) rfl
theorem wq_569 : Cond.fieldLink RX4 60 "HillDanceModel" "items" "[I" ∈ BG := mem_T (i := 729) (by decide +kernel) rfl
theorem wq_570 : Cond.fieldLink RX4 56 "HillDanceModel" "kindNames" "[Ljava/lang/String;" ∈ BG := mem_T (i := 728) (by decide +kernel) rfl
theorem wq_571 : Cond.methodLink RX4 290 yX4_isWord ∈ BG := mem_T (i := 1120) (by decide +kernel) rfl
theorem wq_572 : Cond.instanceMethod yX4_isWord ∈ BG := mem_T (i := 1122) (by decide +kernel) rfl
theorem wq_573 : Cond.selects RX4 yX4_isWord yX4_isWord ∈ BG := mem_P (i := 64) (by decide +kernel) rfl
theorem wq_574 : Cond.code yX4_isWord cX4_isWord 4 (some (.boolean)) ∈ BG := mem_T (i := 1123) (by decide +kernel) rfl
theorem wq_575 : Cond.methodLink RX4 294 yX4_number ∈ BG := mem_T (i := 1135) (by decide +kernel) rfl
theorem wq_576 : Cond.instanceMethod yX4_number ∈ BG := mem_T (i := 1137) (by decide +kernel) rfl
theorem wq_577 : Cond.selects RX4 yX4_number yX4_number ∈ BG := mem_P (i := 67) (by decide +kernel) rfl
theorem wq_578 : Cond.code yX4_number cX4_number 4 (some (.int)) ∈ BG := mem_T (i := 1138) (by decide +kernel) rfl
theorem wq_579 : Cond.methodLink RX4 299 yX4_kindTold ∈ BG := mem_T (i := 1116) (by decide +kernel) rfl
theorem wq_580 : Cond.instanceMethod yX4_kindTold ∈ BG := mem_T (i := 1118) (by decide +kernel) rfl
theorem wq_581 : Cond.selects RX4 yX4_kindTold yX4_kindTold ∈ BG := mem_P (i := 63) (by decide +kernel) rfl
theorem wq_582 : Cond.code yX4_kindTold cX4_kindTold 3 (some (.int)) ∈ BG := mem_T (i := 1119) (by decide +kernel) rfl
theorem wq_583 : Cond.methodLink RX4 317 yX4_addItem ∈ BG := mem_T (i := 1146) (by decide +kernel) rfl
theorem wq_584 : Cond.instanceMethod yX4_addItem ∈ BG := mem_T (i := 1148) (by decide +kernel) rfl
theorem wq_585 : Cond.selects RX4 yX4_addItem yX4_addItem ∈ BG := mem_P (i := 69) (by decide +kernel) rfl
theorem wq_586 : Cond.code yX4_addItem cX4_addItem 7 none ∈ BG := mem_T (i := 1149) (by decide +kernel) rfl
theorem wq_587 : Cond.fieldLink RX4 302 "HillDanceModel" "hillThen" "I" ∈ BG := mem_T (i := 731) (by decide +kernel) rfl
theorem wq_588 : Cond.methodLink RX4 306 yX4_afterWord ∈ BG := mem_T (i := 1131) (by decide +kernel) rfl
theorem wq_589 : Cond.instanceMethod yX4_afterWord ∈ BG := mem_T (i := 1133) (by decide +kernel) rfl
theorem wq_590 : Cond.selects RX4 yX4_afterWord yX4_afterWord ∈ BG := mem_P (i := 66) (by decide +kernel) rfl
theorem wq_591 : Cond.code yX4_afterWord cX4_afterWord 4 (some (.int)) ∈ BG := mem_T (i := 1134) (by decide +kernel) rfl
theorem wq_592 : Cond.methodLink RX4 310 yX4_stepTold ∈ BG := mem_T (i := 1139) (by decide +kernel) rfl
theorem wq_593 : Cond.instanceMethod yX4_stepTold ∈ BG := mem_T (i := 1141) (by decide +kernel) rfl
theorem wq_594 : Cond.selects RX4 yX4_stepTold yX4_stepTold ∈ BG := mem_P (i := 68) (by decide +kernel) rfl
theorem wq_595 : Cond.code yX4_stepTold cX4_stepTold 3 (some (.int)) ∈ BG := mem_T (i := 1142) (by decide +kernel) rfl
theorem wq_596 : Cond.methodLink RX4 323 yX4_readItem ∈ BG := mem_T (i := 1112) (by decide +kernel) rfl
theorem wq_597 : Cond.instanceMethod yX4_readItem ∈ BG := mem_T (i := 1114) (by decide +kernel) rfl
theorem wq_598 : Cond.selects RX4 yX4_readItem yX4_readItem ∈ BG := mem_P (i := 62) (by decide +kernel) rfl
theorem wq_599 : Cond.code yX4_readItem cX4_readItem 5 none ∈ BG := mem_T (i := 1115) (by decide +kernel) rfl
theorem wq_600 : Cond.methodLink RX4 326 yX4_isToldSo ∈ BG := mem_T (i := 1151) (by decide +kernel) rfl
theorem wq_601 : Cond.instanceMethod yX4_isToldSo ∈ BG := mem_T (i := 1153) (by decide +kernel) rfl
theorem wq_602 : Cond.selects RX4 yX4_isToldSo yX4_isToldSo ∈ BG := mem_P (i := 70) (by decide +kernel) rfl
theorem wq_603 : Cond.code yX4_isToldSo cX4_isToldSo 3 (some (.int)) ∈ BG := mem_T (i := 1154) (by decide +kernel) rfl
theorem wq_604 : Cond.methodLink RX4 329 yX4_isSpot ∈ BG := mem_T (i := 1159) (by decide +kernel) rfl
theorem wq_605 : Cond.static yX4_isSpot ∈ BG := mem_T (i := 1160) (by decide +kernel) rfl
theorem wq_606 : Cond.code yX4_isSpot cX4_isSpot 1 (some (.boolean)) ∈ BG := mem_T (i := 1161) (by decide +kernel) rfl
theorem wq_607 : Cond.methodLink RX4 339 yX4_above ∈ BG := mem_T (i := 1169) (by decide +kernel) rfl
theorem wq_608 : Cond.static yX4_above ∈ BG := mem_T (i := 1170) (by decide +kernel) rfl
theorem wq_609 : Cond.code yX4_above cX4_above 1 (some (.int)) ∈ BG := mem_T (i := 1171) (by decide +kernel) rfl
theorem wq_610 : Cond.methodLink RX4 332 yX4_isUnder ∈ BG := mem_T (i := 1166) (by decide +kernel) rfl
theorem wq_611 : Cond.static yX4_isUnder ∈ BG := mem_T (i := 1167) (by decide +kernel) rfl
theorem wq_612 : Cond.code yX4_isUnder cX4_isUnder 3 (some (.boolean)) ∈ BG := mem_T (i := 1168) (by decide +kernel) rfl
theorem wq_613 : Cond.constant RX4 335 (-1000003) ∈ BG := mem_T (i := 1172) (by decide +kernel) rfl
theorem wq_614 : Cond.methodLink RX4 336 yX4_cutTo ∈ BG := mem_T (i := 1181) (by decide +kernel) rfl
theorem wq_615 : Cond.static yX4_cutTo ∈ BG := mem_T (i := 1182) (by decide +kernel) rfl
theorem wq_616 : Cond.code yX4_cutTo cX4_cutTo 2 (some (.int)) ∈ BG := mem_T (i := 1183) (by decide +kernel) rfl
theorem wq_617 : Cond.fieldLink RX4 72 "HillDanceModel" "moved" "[I" ∈ BG := mem_T (i := 735) (by decide +kernel) rfl
theorem wq_618 : Cond.methodLink RX4 342 yX4_lacksSheet ∈ BG := mem_T (i := 1192) (by decide +kernel) rfl
theorem wq_619 : Cond.instanceMethod yX4_lacksSheet ∈ BG := mem_T (i := 1194) (by decide +kernel) rfl
theorem wq_620 : Cond.selects RX4 yX4_lacksSheet yX4_lacksSheet ∈ BG := mem_P (i := 71) (by decide +kernel) rfl
theorem wq_621 : Cond.code yX4_lacksSheet cX4_lacksSheet 2 (some (.int)) ∈ BG := mem_T (i := 1195) (by decide +kernel) rfl
theorem wq_622 : Cond.fieldLink RX4 13 "HillDanceModel" "kept" "[I" ∈ BG := mem_T (i := 712) (by decide +kernel) rfl
theorem wq_623 : Cond.fieldLink RX4 345 "HillDanceModel" "isKept" "Z" ∈ BG := mem_T (i := 714) (by decide +kernel) rfl
theorem wm_X0_126 : Cond.methodLink RX0 126 Lib.Math.min.name ∈ BG := mem_T (i := 533) (by decide +kernel) rfl
theorem wa_X2_61 : Cond.methodLink RX2 61 arraycopyName ∈ BG := mem_T (i := 330) (by decide +kernel) rfl
theorem wm_X2_90 : Cond.methodLink RX2 90 Lib.Math.min.name ∈ BG := mem_T (i := 280) (by decide +kernel) rfl
theorem wm_X2_122 : Cond.methodLink RX2 122 Lib.Math.max.name ∈ BG := mem_T (i := 277) (by decide +kernel) rfl
theorem wm_X3_170 : Cond.methodLink RX3 170 Lib.Math.min.name ∈ BG := mem_T (i := 415) (by decide +kernel) rfl
theorem wa_X3_236 : Cond.methodLink RX3 236 arraycopyName ∈ BG := mem_T (i := 663) (by decide +kernel) rfl
theorem wm_X4_148 : Cond.methodLink RX4 148 Lib.Math.max.name ∈ BG := mem_T (i := 889) (by decide +kernel) rfl
theorem wm_X4_159 : Cond.methodLink RX4 159 Lib.Math.min.name ∈ BG := mem_T (i := 904) (by decide +kernel) rfl
theorem wl_X0_117 : WlS RX0 117 yX0_isDigit cX0_isDigit 1 (some (.boolean)) 1 := ⟨wq_4, wq_5, wq_6, wq_7, ⟨by decide +kernel, by decide +kernel, by decide +kernel⟩, by decide⟩
theorem wl_X0_111 : WlS RX0 111 yX0_isLetter cX0_isLetter 1 (some (.boolean)) 1 := ⟨wq_8, wq_9, wq_6, wq_10, ⟨by decide +kernel, by decide +kernel, by decide +kernel⟩, by decide⟩
theorem wl_X0_123 : WlS RX0 123 yX0_signOf cX0_signOf 1 (some (.int)) 1 := ⟨wq_12, wq_13, wq_6, wq_14, ⟨by decide +kernel, by decide +kernel, by decide +kernel⟩, by decide⟩
theorem wl_X0_120 : WlV RX0 120 RX0 yX0_takeDigits cX0_takeDigits 1 none 0 := ⟨wq_16, wq_17, wq_18, wq_6, wq_19, ⟨by decide +kernel, by decide +kernel, by decide +kernel⟩, by decide⟩
theorem wl_X0_114 : WlV RX0 114 RX0 yX0_takeLetters cX0_takeLetters 1 none 0 := ⟨wq_20, wq_21, wq_22, wq_6, wq_23, ⟨by decide +kernel, by decide +kernel, by decide +kernel⟩, by decide⟩
theorem wl_X0_103 : WlV RX0 103 RJ0 yJ0_length_8abf5 cJ0_length_8abf5 1 (some (.int)) 0 := ⟨wq_24, wq_25, wq_26, wq_27, wq_28, ⟨by decide +kernel, by decide +kernel, by decide +kernel⟩, by decide⟩
theorem wl_X0_107 : WlV RX0 107 RJ0 yJ0_charAt_5068e cJ0_charAt_5068e 2 (some (.char)) 1 := ⟨wq_29, wq_30, wq_31, wq_27, wq_32, ⟨by decide +kernel, by decide +kernel, by decide +kernel⟩, by decide⟩
theorem wl_X0_85 : WlS RX0 85 yX0_wordOf cX0_wordOf 1 (some (.object "java/lang/String")) 1 := ⟨wq_33, wq_34, wq_6, wq_35, ⟨by decide +kernel, by decide +kernel, by decide +kernel⟩, by decide⟩
theorem wl_X0_37 : WlV RX0 37 RX0 yX0_isWord cX0_isWord 3 (some (.boolean)) 1 := ⟨wq_36, wq_37, wq_38, wq_6, wq_39, ⟨by decide +kernel, by decide +kernel, by decide +kernel⟩, by decide⟩
theorem wl_X2_67 : WlS RX2 67 yJ7_fill_53178 cJ7_fill_53178 4 none 2 := ⟨wq_41, wq_42, wq_43, wq_44, ⟨by decide +kernel, by decide +kernel, by decide +kernel⟩, by decide⟩
theorem wl_X2_55 : WlV RX2 55 RX2 yX2_lookAround cX2_lookAround 3 none 0 := ⟨wq_52, wq_53, wq_54, wq_55, wq_56, ⟨by decide +kernel, by decide +kernel, by decide +kernel⟩, by decide⟩
theorem wl_X0_22 : WlV RX0 22 RX0 yX0_advance cX0_advance 1 none 0 := ⟨wq_60, wq_61, wq_62, wq_6, wq_63, ⟨by decide +kernel, by decide +kernel, by decide +kernel⟩, by decide⟩
theorem wl_X0_77 : WlN RX0 77 yX3_mostOf cX3_mostOf 1 (some (.int)) 1 := ⟨by decide +kernel, wq_64, wq_65, wq_66, ⟨by decide +kernel, by decide +kernel, by decide +kernel⟩, by decide⟩
theorem wl_X0_41 : WlV RX0 41 RX0 yX0_isNumberTo cX0_isNumberTo 2 (some (.boolean)) 1 := ⟨wq_67, wq_68, wq_69, wq_6, wq_70, ⟨by decide +kernel, by decide +kernel, by decide +kernel⟩, by decide⟩
theorem wl_X0_81 : WlV RX0 81 RX2 yX2_setTrait cX2_setTrait 4 none 3 := ⟨wq_71, wq_72, wq_73, wq_55, wq_74, ⟨by decide +kernel, by decide +kernel, by decide +kernel⟩, by decide⟩
theorem wl_X0_53 : WlV RX0 53 RX0 yX0_kindTold cX0_kindTold 2 (some (.int)) 0 := ⟨wq_75, wq_76, wq_77, wq_6, wq_78, ⟨by decide +kernel, by decide +kernel, by decide +kernel⟩, by decide⟩
theorem wl_X0_57 : WlV RX0 57 RX2 yX2_isCrowded cX2_isCrowded 1 (some (.boolean)) 0 := ⟨wq_79, wq_80, wq_81, wq_55, wq_82, ⟨by decide +kernel, by decide +kernel, by decide +kernel⟩, by decide⟩
theorem wl_X0_61 : WlV RX0 61 RX2 yX2_raise cX2_raise 4 (some (.int)) 2 := ⟨wq_83, wq_84, wq_85, wq_55, wq_86, ⟨by decide +kernel, by decide +kernel, by decide +kernel⟩, by decide⟩
theorem wl_X0_67 : WlV RX0 67 RX0 yX0_readTrait cX0_readTrait 6 (some (.boolean)) 4 := ⟨wq_87, wq_88, wq_89, wq_6, wq_90, ⟨by decide +kernel, by decide +kernel, by decide +kernel⟩, by decide⟩
theorem wl_X0_25 : WlV RX0 25 RX0 yX0_readItem cX0_readItem 4 (some (.boolean)) 1 := ⟨wq_91, wq_92, wq_93, wq_6, wq_94, ⟨by decide +kernel, by decide +kernel, by decide +kernel⟩, by decide⟩
theorem wl_X1_22 : WlS RX1 22 yJ7_fill_53178 cJ7_fill_53178 4 none 2 := ⟨wq_98, wq_42, wq_43, wq_44, ⟨by decide +kernel, by decide +kernel, by decide +kernel⟩, by decide⟩
theorem wl_X2_76 : WlS RX2 76 yX2_valleysIn cX2_valleysIn 3 (some (.int)) 1 := ⟨wq_103, wq_104, wq_55, wq_105, ⟨by decide +kernel, by decide +kernel, by decide +kernel⟩, by decide⟩
theorem wl_X2_80 : WlV RX2 80 RX2 yX2_sumOf cX2_sumOf 4 (some (.int)) 1 := ⟨wq_106, wq_107, wq_108, wq_55, wq_109, ⟨by decide +kernel, by decide +kernel, by decide +kernel⟩, by decide⟩
theorem wl_X3_256 : WlS RX3 256 yJ9_floorMod_7cf53 cJ9_floorMod_7cf53 3 (some (.int)) 2 := ⟨wq_110, wq_111, wq_112, wq_113, ⟨by decide +kernel, by decide +kernel, by decide +kernel⟩, by decide⟩
theorem wl_X2_83 : WlN RX2 83 yX3_waysOn cX3_waysOn 2 (some (.int)) 2 := ⟨by decide +kernel, wq_114, wq_65, wq_115, ⟨by decide +kernel, by decide +kernel, by decide +kernel⟩, by decide⟩
theorem wl_X2_87 : WlV RX2 87 RX2 yX2_climbOn cX2_climbOn 7 (some (.int)) 2 := ⟨wq_116, wq_117, wq_118, wq_55, wq_119, ⟨by decide +kernel, by decide +kernel, by decide +kernel⟩, by decide⟩
theorem wl_X2_99 : WlV RX2 99 RX2 yX2_partnerMoves cX2_partnerMoves 2 (some (.int)) 1 := ⟨wq_123, wq_124, wq_125, wq_55, wq_126, ⟨by decide +kernel, by decide +kernel, by decide +kernel⟩, by decide⟩
theorem wl_X2_105 : WlS RX2 105 yJ6_bitCount_0f7a4 cJ6_bitCount_0f7a4 1 (some (.int)) 1 := ⟨wq_127, wq_128, wq_129, wq_130, ⟨by decide +kernel, by decide +kernel, by decide +kernel⟩, by decide⟩
theorem wl_X2_102 : WlV RX2 102 RX2 yX2_twinMoves cX2_twinMoves 2 (some (.int)) 1 := ⟨wq_131, wq_132, wq_133, wq_55, wq_134, ⟨by decide +kernel, by decide +kernel, by decide +kernel⟩, by decide⟩
theorem wl_X2_95 : WlV RX2 95 RX2 yX2_tallOf cX2_tallOf 2 (some (.int)) 1 := ⟨wq_135, wq_136, wq_137, wq_55, wq_138, ⟨by decide +kernel, by decide +kernel, by decide +kernel⟩, by decide⟩
theorem wl_X2_113 : WlV RX2 113 RX2 yX2_movesOf cX2_movesOf 2 (some (.int)) 1 := ⟨wq_140, wq_141, wq_142, wq_55, wq_143, ⟨by decide +kernel, by decide +kernel, by decide +kernel⟩, by decide⟩
theorem wl_X2_116 : WlV RX2 116 RX2 yX2_turnsOf cX2_turnsOf 2 (some (.int)) 1 := ⟨wq_144, wq_145, wq_146, wq_55, wq_147, ⟨by decide +kernel, by decide +kernel, by decide +kernel⟩, by decide⟩
theorem wl_X2_125 : WlS RX2 125 yJ9_floorMod_7cf53 cJ9_floorMod_7cf53 3 (some (.int)) 2 := ⟨wq_148, wq_111, wq_112, wq_113, ⟨by decide +kernel, by decide +kernel, by decide +kernel⟩, by decide⟩
theorem wl_X2_119 : WlV RX2 119 RX2 yX2_sinksOf cX2_sinksOf 2 (some (.int)) 1 := ⟨wq_149, wq_150, wq_151, wq_55, wq_152, ⟨by decide +kernel, by decide +kernel, by decide +kernel⟩, by decide⟩
theorem wl_X2_110 : WlV RX2 110 RX2 yX2_passAge cX2_passAge 4 none 0 := ⟨wq_153, wq_154, wq_155, wq_55, wq_156, ⟨by decide +kernel, by decide +kernel, by decide +kernel⟩, by decide⟩
theorem wl_X2_130 : WlV RX2 130 RX2 yX2_draw cX2_draw 1 (some (.int)) 0 := ⟨wq_158, wq_159, wq_160, wq_55, wq_161, ⟨by decide +kernel, by decide +kernel, by decide +kernel⟩, by decide⟩
theorem wl_X2_134 : WlV RX2 134 RX2 yX2_lacks cX2_lacks 2 (some (.boolean)) 1 := ⟨wq_162, wq_163, wq_164, wq_55, wq_165, ⟨by decide +kernel, by decide +kernel, by decide +kernel⟩, by decide⟩
theorem wl_X2_138 : WlV RX2 138 RX2 yX2_setTrait cX2_setTrait 4 none 3 := ⟨wq_166, wq_72, wq_73, wq_55, wq_74, ⟨by decide +kernel, by decide +kernel, by decide +kernel⟩, by decide⟩
theorem wl_X3_40 : WlS RX3 40 yX3_isOutside cX3_isOutside 3 (some (.boolean)) 3 := ⟨wq_169, wq_170, wq_65, wq_171, ⟨by decide +kernel, by decide +kernel, by decide +kernel⟩, by decide⟩
theorem wl_X3_44 : WlV RX3 44 RX3 yX3_finding cX3_finding 2 (some (.int)) 1 := ⟨wq_173, wq_174, wq_175, wq_65, wq_176, ⟨by decide +kernel, by decide +kernel, by decide +kernel⟩, by decide⟩
theorem wl_X3_52 : WlS RX3 52 yX3_isNoValley cX3_isNoValley 1 (some (.boolean)) 1 := ⟨wq_177, wq_178, wq_65, wq_179, ⟨by decide +kernel, by decide +kernel, by decide +kernel⟩, by decide⟩
theorem wl_X3_56 : WlV RX3 56 RX2 yX2_isCrowded cX2_isCrowded 1 (some (.boolean)) 0 := ⟨wq_180, wq_80, wq_81, wq_55, wq_82, ⟨by decide +kernel, by decide +kernel, by decide +kernel⟩, by decide⟩
theorem wl_X3_60 : WlV RX3 60 RX2 yX2_raise cX2_raise 4 (some (.int)) 2 := ⟨wq_181, wq_84, wq_85, wq_55, wq_86, ⟨by decide +kernel, by decide +kernel, by decide +kernel⟩, by decide⟩
theorem wl_X3_64 : WlV RX3 64 RX2 yX2_lacks cX2_lacks 2 (some (.boolean)) 1 := ⟨wq_182, wq_163, wq_164, wq_55, wq_165, ⟨by decide +kernel, by decide +kernel, by decide +kernel⟩, by decide⟩
theorem wl_X3_67 : WlV RX3 67 RX2 yX2_movesOf cX2_movesOf 2 (some (.int)) 1 := ⟨wq_183, wq_141, wq_142, wq_55, wq_143, ⟨by decide +kernel, by decide +kernel, by decide +kernel⟩, by decide⟩
theorem wl_X3_70 : WlV RX3 70 RX2 yX2_turnsOf cX2_turnsOf 2 (some (.int)) 1 := ⟨wq_184, wq_145, wq_146, wq_55, wq_147, ⟨by decide +kernel, by decide +kernel, by decide +kernel⟩, by decide⟩
theorem wl_X3_73 : WlV RX3 73 RX2 yX2_sinksOf cX2_sinksOf 2 (some (.int)) 1 := ⟨wq_185, wq_150, wq_151, wq_55, wq_152, ⟨by decide +kernel, by decide +kernel, by decide +kernel⟩, by decide⟩
theorem wl_X3_76 : WlV RX3 76 RX2 yX2_meetsOf cX2_meetsOf 2 (some (.int)) 1 := ⟨wq_186, wq_187, wq_188, wq_55, wq_189, ⟨by decide +kernel, by decide +kernel, by decide +kernel⟩, by decide⟩
theorem wl_X3_79 : WlV RX3 79 RX2 yX2_trait cX2_trait 3 (some (.int)) 2 := ⟨wq_190, wq_191, wq_192, wq_55, wq_193, ⟨by decide +kernel, by decide +kernel, by decide +kernel⟩, by decide⟩
theorem wl_X3_82 : WlS RX3 82 yX3_leastOf cX3_leastOf 1 (some (.int)) 1 := ⟨wq_194, wq_195, wq_65, wq_196, ⟨by decide +kernel, by decide +kernel, by decide +kernel⟩, by decide⟩
theorem wl_X3_85 : WlS RX3 85 yX3_mostOf cX3_mostOf 1 (some (.int)) 1 := ⟨wq_197, wq_64, wq_65, wq_66, ⟨by decide +kernel, by decide +kernel, by decide +kernel⟩, by decide⟩
theorem wl_X3_88 : WlV RX3 88 RX2 yX2_setTrait cX2_setTrait 4 none 3 := ⟨wq_198, wq_72, wq_73, wq_55, wq_74, ⟨by decide +kernel, by decide +kernel, by decide +kernel⟩, by decide⟩
theorem wl_X3_92 : WlV RX3 92 RX2 yX2_standingAt cX2_standingAt 2 (some (.int)) 1 := ⟨wq_199, wq_200, wq_201, wq_55, wq_202, ⟨by decide +kernel, by decide +kernel, by decide +kernel⟩, by decide⟩
theorem wl_X3_95 : WlV RX3 95 RX2 yX2_facing cX2_facing 2 (some (.int)) 1 := ⟨wq_203, wq_204, wq_205, wq_55, wq_206, ⟨by decide +kernel, by decide +kernel, by decide +kernel⟩, by decide⟩
theorem wl_X3_98 : WlV RX3 98 RX2 yX2_highestAt cX2_highestAt 4 (some (.int)) 1 := ⟨wq_207, wq_208, wq_209, wq_55, wq_210, ⟨by decide +kernel, by decide +kernel, by decide +kernel⟩, by decide⟩
theorem wl_X3_105 : WlV RX3 105 RX2 yX2_passAges cX2_passAges 3 none 1 := ⟨wq_212, wq_213, wq_214, wq_55, wq_215, ⟨by decide +kernel, by decide +kernel, by decide +kernel⟩, by decide⟩
theorem wl_X3_109 : WlV RX3 109 RX2 yX2_meeting cX2_meeting 3 (some (.int)) 0 := ⟨wq_216, wq_217, wq_218, wq_55, wq_219, ⟨by decide +kernel, by decide +kernel, by decide +kernel⟩, by decide⟩
theorem wl_X3_113 : WlS RX3 113 yJ6_bitCount_0f7a4 cJ6_bitCount_0f7a4 1 (some (.int)) 1 := ⟨wq_220, wq_128, wq_129, wq_130, ⟨by decide +kernel, by decide +kernel, by decide +kernel⟩, by decide⟩
theorem wl_X3_118 : WlV RX3 118 RX2 yX2_heightOfAll cX2_heightOfAll 1 (some (.int)) 0 := ⟨wq_221, wq_222, wq_223, wq_55, wq_224, ⟨by decide +kernel, by decide +kernel, by decide +kernel⟩, by decide⟩
theorem wl_X3_121 : WlV RX3 121 RX2 yX2_valleysStoodAt cX2_valleysStoodAt 1 (some (.int)) 0 := ⟨wq_225, wq_226, wq_227, wq_55, wq_228, ⟨by decide +kernel, by decide +kernel, by decide +kernel⟩, by decide⟩
theorem wl_X3_124 : WlV RX3 124 RX2 yX2_valleysFaced cX2_valleysFaced 1 (some (.int)) 0 := ⟨wq_229, wq_230, wq_231, wq_55, wq_232, ⟨by decide +kernel, by decide +kernel, by decide +kernel⟩, by decide⟩
theorem wl_X3_127 : WlV RX3 127 RX2 yX2_bowedOfAll cX2_bowedOfAll 1 (some (.int)) 0 := ⟨wq_233, wq_234, wq_235, wq_55, wq_236, ⟨by decide +kernel, by decide +kernel, by decide +kernel⟩, by decide⟩
theorem wl_X3_130 : WlS RX3 130 yX3_isForetold cX3_isForetold 1 (some (.boolean)) 1 := ⟨wq_237, wq_238, wq_65, wq_239, ⟨by decide +kernel, by decide +kernel, by decide +kernel⟩, by decide⟩
theorem wl_X3_133 : WlV RX3 133 RX2 yX2_become cX2_become 2 none 1 := ⟨wq_241, wq_242, wq_243, wq_55, wq_244, ⟨by decide +kernel, by decide +kernel, by decide +kernel⟩, by decide⟩
theorem wl_X3_137 : WlV RX3 137 RX2 yX2_facedBy cX2_facedBy 2 (some (.int)) 1 := ⟨wq_245, wq_246, wq_247, wq_55, wq_248, ⟨by decide +kernel, by decide +kernel, by decide +kernel⟩, by decide⟩
theorem wl_X3_140 : WlV RX3 140 RX2 yX2_passAge cX2_passAge 4 none 0 := ⟨wq_249, wq_154, wq_155, wq_55, wq_156, ⟨by decide +kernel, by decide +kernel, by decide +kernel⟩, by decide⟩
theorem wl_X3_143 : WlV RX3 143 RX3 yX3_isNoPair cX3_isNoPair 3 (some (.boolean)) 2 := ⟨wq_250, wq_251, wq_252, wq_65, wq_253, ⟨by decide +kernel, by decide +kernel, by decide +kernel⟩, by decide⟩
theorem wl_X3_147 : WlV RX3 147 RX3 yX3_agesUntilMeeting cX3_agesUntilMeeting 5 (some (.int)) 3 := ⟨wq_254, wq_255, wq_256, wq_65, wq_257, ⟨by decide +kernel, by decide +kernel, by decide +kernel⟩, by decide⟩
theorem wl_X3_151 : WlV RX3 151 RX2 yX2_standsAndTurnsAs cX2_standsAndTurnsAs 3 (some (.boolean)) 1 := ⟨wq_258, wq_259, wq_260, wq_55, wq_261, ⟨by decide +kernel, by decide +kernel, by decide +kernel⟩, by decide⟩
theorem wl_X3_155 : WlV RX3 155 RX2 yX2_everyone cX2_everyone 1 (some (.int)) 0 := ⟨wq_262, wq_263, wq_264, wq_55, wq_265, ⟨by decide +kernel, by decide +kernel, by decide +kernel⟩, by decide⟩
theorem wl_X3_161 : WlV RX3 161 RX3 yX3_tryWith cX3_tryWith 4 none 3 := ⟨wq_266, wq_267, wq_268, wq_65, wq_269, ⟨by decide +kernel, by decide +kernel, by decide +kernel⟩, by decide⟩
theorem wl_X3_158 : WlV RX3 158 RX3 yX3_soonestWith cX3_soonestWith 8 (some (.int)) 3 := ⟨wq_270, wq_271, wq_272, wq_65, wq_273, ⟨by decide +kernel, by decide +kernel, by decide +kernel⟩, by decide⟩
theorem wl_X3_164 : WlS RX3 164 yX3_waysOn cX3_waysOn 2 (some (.int)) 2 := ⟨wq_274, wq_114, wq_65, wq_115, ⟨by decide +kernel, by decide +kernel, by decide +kernel⟩, by decide⟩
theorem wl_X3_167 : WlV RX3 167 RX2 yX2_climbOn cX2_climbOn 7 (some (.int)) 2 := ⟨wq_275, wq_117, wq_118, wq_55, wq_119, ⟨by decide +kernel, by decide +kernel, by decide +kernel⟩, by decide⟩
theorem wl_X3_175 : WlV RX3 175 RX2 yX2_leastClimb cX2_leastClimb 3 (some (.int)) 2 := ⟨wq_276, wq_277, wq_278, wq_55, wq_279, ⟨by decide +kernel, by decide +kernel, by decide +kernel⟩, by decide⟩
theorem wl_X3_178 : WlV RX3 178 RX3 yX3_agesOpen cX3_agesOpen 7 (some (.int)) 4 := ⟨wq_280, wq_281, wq_282, wq_65, wq_283, ⟨by decide +kernel, by decide +kernel, by decide +kernel⟩, by decide⟩
theorem wl_X3_259 : WlV RX3 259 RX3 yX3_facesAsTold cX3_facesAsTold 5 (some (.boolean)) 2 := ⟨wq_285, wq_286, wq_287, wq_65, wq_288, ⟨by decide +kernel, by decide +kernel, by decide +kernel⟩, by decide⟩
theorem wl_X3_210 : WlS RX3 210 yX3_isNoSheet cX3_isNoSheet 1 (some (.boolean)) 1 := ⟨wq_289, wq_290, wq_65, wq_291, ⟨by decide +kernel, by decide +kernel, by decide +kernel⟩, by decide⟩
theorem wl_X3_224 : WlV RX3 224 RX1 yX1_isMissing cX1_isMissing 1 (some (.boolean)) 0 := ⟨wq_292, wq_293, wq_294, wq_295, wq_296, ⟨by decide +kernel, by decide +kernel, by decide +kernel⟩, by decide⟩
theorem wl_X3_218 : WlV RX3 218 RX3 yX3_wrongWithSheet cX3_wrongWithSheet 2 (some (.int)) 1 := ⟨wq_297, wq_298, wq_299, wq_65, wq_300, ⟨by decide +kernel, by decide +kernel, by decide +kernel⟩, by decide⟩
theorem wl_X3_182 : WlV RX3 182 RX3 yX3_wrongWithTold cX3_wrongWithTold 4 (some (.int)) 2 := ⟨wq_301, wq_302, wq_303, wq_65, wq_304, ⟨by decide +kernel, by decide +kernel, by decide +kernel⟩, by decide⟩
theorem wl_X3_185 : WlV RX3 185 RX3 yX3_fittingSet cX3_fittingSet 7 (some (.int)) 3 := ⟨wq_305, wq_306, wq_307, wq_65, wq_308, ⟨by decide +kernel, by decide +kernel, by decide +kernel⟩, by decide⟩
theorem wl_X3_188 : WlV RX3 188 RX2 yX2_passWetAge cX2_passWetAge 2 none 0 := ⟨wq_309, wq_310, wq_311, wq_55, wq_312, ⟨by decide +kernel, by decide +kernel, by decide +kernel⟩, by decide⟩
theorem wl_X3_197 : WlV RX3 197 RX0 yX0_append cX0_append 2 none 1 := ⟨wq_314, wq_315, wq_316, wq_6, wq_317, ⟨by decide +kernel, by decide +kernel, by decide +kernel⟩, by decide⟩
theorem wl_X3_200 : WlV RX3 200 RX0 yX0_readInto cX0_readInto 3 (some (.int)) 1 := ⟨wq_318, wq_319, wq_320, wq_6, wq_321, ⟨by decide +kernel, by decide +kernel, by decide +kernel⟩, by decide⟩
theorem wl_X3_207 : WlS RX3 207 yX3_isUnder cX3_isUnder 4 (some (.boolean)) 2 := ⟨wq_323, wq_324, wq_65, wq_325, ⟨by decide +kernel, by decide +kernel, by decide +kernel⟩, by decide⟩
theorem wl_X3_213 : WlV RX3 213 RX1 yX1_begin cX1_begin 3 none 2 := ⟨wq_326, wq_327, wq_328, wq_295, wq_329, ⟨by decide +kernel, by decide +kernel, by decide +kernel⟩, by decide⟩
theorem wl_X3_221 : WlV RX3 221 RX1 yX1_put cX1_put 3 none 2 := ⟨wq_330, wq_331, wq_332, wq_295, wq_333, ⟨by decide +kernel, by decide +kernel, by decide +kernel⟩, by decide⟩
theorem wl_X3_230 : WlV RX3 230 RX1 yX1_reaches cX1_reaches 3 (some (.boolean)) 2 := ⟨wq_334, wq_335, wq_336, wq_295, wq_337, ⟨by decide +kernel, by decide +kernel, by decide +kernel⟩, by decide⟩
theorem wl_X3_249 : WlV RX3 249 RX2 yX2_spotsHeld cX2_spotsHeld 3 (some (.int)) 0 := ⟨wq_340, wq_341, wq_342, wq_55, wq_343, ⟨by decide +kernel, by decide +kernel, by decide +kernel⟩, by decide⟩
theorem wl_X4_76 : WlS RX4 76 yX4_copyRow cX4_copyRow 3 none 2 := ⟨wq_348, wq_349, wq_350, wq_351, ⟨by decide +kernel, by decide +kernel, by decide +kernel⟩, by decide⟩
theorem wl_X4_81 : WlV RX4 81 RX4 yX4_finding cX4_finding 2 (some (.int)) 1 := ⟨wq_353, wq_354, wq_355, wq_350, wq_356, ⟨by decide +kernel, by decide +kernel, by decide +kernel⟩, by decide⟩
theorem wl_X4_85 : WlS RX4 85 yX4_within cX4_within 3 (some (.boolean)) 3 := ⟨wq_357, wq_358, wq_350, wq_359, ⟨by decide +kernel, by decide +kernel, by decide +kernel⟩, by decide⟩
theorem wl_X4_89 : WlV RX4 89 RX4 yX4_become cX4_become 4 (some (.int)) 2 := ⟨wq_360, wq_361, wq_362, wq_350, wq_363, ⟨by decide +kernel, by decide +kernel, by decide +kernel⟩, by decide⟩
theorem wl_X4_93 : WlS RX4 93 yX4_at cX4_at 2 (some (.int)) 2 := ⟨wq_364, wq_365, wq_350, wq_366, ⟨by decide +kernel, by decide +kernel, by decide +kernel⟩, by decide⟩
theorem wl_X4_96 : WlS RX4 96 yX4_isKind cX4_isKind 1 (some (.boolean)) 1 := ⟨wq_367, wq_368, wq_350, wq_369, ⟨by decide +kernel, by decide +kernel, by decide +kernel⟩, by decide⟩
theorem wl_X4_100 : WlS RX4 100 yX4_isValley cX4_isValley 1 (some (.boolean)) 1 := ⟨wq_370, wq_371, wq_350, wq_372, ⟨by decide +kernel, by decide +kernel, by decide +kernel⟩, by decide⟩
theorem wl_X4_104 : WlV RX4 104 RX4 yX4_comes cX4_comes 7 (some (.int)) 5 := ⟨wq_374, wq_375, wq_376, wq_350, wq_377, ⟨by decide +kernel, by decide +kernel, by decide +kernel⟩, by decide⟩
theorem wl_X4_108 : WlV RX4 108 RX4 yX4_hillIs cX4_hillIs 3 (some (.int)) 2 := ⟨wq_378, wq_379, wq_380, wq_350, wq_381, ⟨by decide +kernel, by decide +kernel, by decide +kernel⟩, by decide⟩
theorem wl_X4_111 : WlS RX4 111 yX4_by12 cX4_by12 2 (some (.int)) 1 := ⟨wq_383, wq_384, wq_350, wq_385, ⟨by decide +kernel, by decide +kernel, by decide +kernel⟩, by decide⟩
theorem wl_X4_114 : WlV RX4 114 RX4 yX4_facesOf cX4_facesOf 2 (some (.int)) 1 := ⟨wq_386, wq_387, wq_388, wq_350, wq_389, ⟨by decide +kernel, by decide +kernel, by decide +kernel⟩, by decide⟩
theorem wl_X4_117 : WlV RX4 117 RX4 yX4_movesOf cX4_movesOf 4 (some (.int)) 2 := ⟨wq_391, wq_392, wq_393, wq_350, wq_394, ⟨by decide +kernel, by decide +kernel, by decide +kernel⟩, by decide⟩
theorem wl_X4_120 : WlV RX4 120 RX4 yX4_atValley cX4_atValley 4 (some (.int)) 1 := ⟨wq_395, wq_396, wq_397, wq_350, wq_398, ⟨by decide +kernel, by decide +kernel, by decide +kernel⟩, by decide⟩
theorem wl_X4_123 : WlS RX4 123 yX4_bits cX4_bits 3 (some (.int)) 1 := ⟨wq_399, wq_400, wq_350, wq_401, ⟨by decide +kernel, by decide +kernel, by decide +kernel⟩, by decide⟩
theorem wl_X4_126 : WlV RX4 126 RX4 yX4_turnsOf cX4_turnsOf 3 (some (.int)) 2 := ⟨wq_402, wq_403, wq_404, wq_350, wq_405, ⟨by decide +kernel, by decide +kernel, by decide +kernel⟩, by decide⟩
theorem wl_X4_129 : WlV RX4 129 RX4 yX4_meeting cX4_meeting 4 (some (.int)) 1 := ⟨wq_406, wq_407, wq_408, wq_350, wq_409, ⟨by decide +kernel, by decide +kernel, by decide +kernel⟩, by decide⟩
theorem wl_X4_132 : WlV RX4 132 RX4 yX4_sinksOf cX4_sinksOf 3 (some (.int)) 1 := ⟨wq_413, wq_414, wq_415, wq_350, wq_416, ⟨by decide +kernel, by decide +kernel, by decide +kernel⟩, by decide⟩
theorem wl_X4_135 : WlV RX4 135 RX4 yX4_isHill cX4_isHill 2 (some (.boolean)) 1 := ⟨wq_417, wq_418, wq_419, wq_350, wq_420, ⟨by decide +kernel, by decide +kernel, by decide +kernel⟩, by decide⟩
theorem wl_X4_138 : WlV RX4 138 RX4 yX4_looksAt cX4_looksAt 2 none 0 := ⟨wq_421, wq_422, wq_423, wq_350, wq_424, ⟨by decide +kernel, by decide +kernel, by decide +kernel⟩, by decide⟩
theorem wl_X4_141 : WlS RX4 141 yX4_isHigh cX4_isHigh 1 (some (.boolean)) 1 := ⟨wq_425, wq_426, wq_350, wq_427, ⟨by decide +kernel, by decide +kernel, by decide +kernel⟩, by decide⟩
theorem wl_X4_144 : WlS RX4 144 yX4_mayBe cX4_mayBe 2 (some (.boolean)) 2 := ⟨wq_428, wq_429, wq_350, wq_430, ⟨by decide +kernel, by decide +kernel, by decide +kernel⟩, by decide⟩
theorem wl_X4_153 : WlV RX4 153 RX4 yX4_facing cX4_facing 4 (some (.int)) 1 := ⟨wq_431, wq_432, wq_433, wq_350, wq_434, ⟨by decide +kernel, by decide +kernel, by decide +kernel⟩, by decide⟩
theorem wl_X4_156 : WlV RX4 156 RX4 yX4_highestAt cX4_highestAt 4 (some (.int)) 1 := ⟨wq_435, wq_436, wq_437, wq_350, wq_438, ⟨by decide +kernel, by decide +kernel, by decide +kernel⟩, by decide⟩
theorem wl_X4_162 : WlV RX4 162 RX4 yX4_age cX4_age 3 none 0 := ⟨wq_439, wq_440, wq_441, wq_350, wq_442, ⟨by decide +kernel, by decide +kernel, by decide +kernel⟩, by decide⟩
theorem wl_X4_167 : WlV RX4 167 RX4 yX4_ages cX4_ages 3 none 1 := ⟨wq_444, wq_445, wq_446, wq_350, wq_447, ⟨by decide +kernel, by decide +kernel, by decide +kernel⟩, by decide⟩
theorem wl_X4_171 : WlV RX4 171 RX4 yX4_whoMeets cX4_whoMeets 3 (some (.int)) 0 := ⟨wq_448, wq_449, wq_450, wq_350, wq_451, ⟨by decide +kernel, by decide +kernel, by decide +kernel⟩, by decide⟩
theorem wl_X4_175 : WlV RX4 175 RX4 yX4_sumOf cX4_sumOf 4 (some (.int)) 1 := ⟨wq_453, wq_454, wq_455, wq_350, wq_456, ⟨by decide +kernel, by decide +kernel, by decide +kernel⟩, by decide⟩
theorem wl_X4_178 : WlV RX4 178 RX4 yX4_valleysAt cX4_valleysAt 3 (some (.int)) 0 := ⟨wq_457, wq_458, wq_459, wq_350, wq_460, ⟨by decide +kernel, by decide +kernel, by decide +kernel⟩, by decide⟩
theorem wl_X4_181 : WlV RX4 181 RX4 yX4_valleysFaced cX4_valleysFaced 3 (some (.int)) 0 := ⟨wq_461, wq_462, wq_463, wq_350, wq_464, ⟨by decide +kernel, by decide +kernel, by decide +kernel⟩, by decide⟩
theorem wl_X4_184 : WlV RX4 184 RX4 yX4_putBack cX4_putBack 2 (some (.int)) 1 := ⟨wq_465, wq_466, wq_467, wq_350, wq_468, ⟨by decide +kernel, by decide +kernel, by decide +kernel⟩, by decide⟩
theorem wl_X4_187 : WlV RX4 187 RX4 yX4_orNone cX4_orNone 2 (some (.int)) 1 := ⟨wq_469, wq_470, wq_471, wq_350, wq_472, ⟨by decide +kernel, by decide +kernel, by decide +kernel⟩, by decide⟩
theorem wl_X4_190 : WlV RX4 190 RX4 yX4_doMeet cX4_doMeet 3 (some (.boolean)) 2 := ⟨wq_473, wq_474, wq_475, wq_350, wq_476, ⟨by decide +kernel, by decide +kernel, by decide +kernel⟩, by decide⟩
theorem wl_X4_193 : WlV RX4 193 RX4 yX4_areTwo cX4_areTwo 3 (some (.boolean)) 2 := ⟨wq_477, wq_478, wq_479, wq_350, wq_480, ⟨by decide +kernel, by decide +kernel, by decide +kernel⟩, by decide⟩
theorem wl_X4_196 : WlV RX4 196 RX4 yX4_meetIn cX4_meetIn 5 (some (.int)) 3 := ⟨wq_481, wq_482, wq_483, wq_350, wq_484, ⟨by decide +kernel, by decide +kernel, by decide +kernel⟩, by decide⟩
theorem wl_X4_200 : WlV RX4 200 RX4 yX4_isAsAside cX4_isAsAside 3 (some (.boolean)) 0 := ⟨wq_485, wq_486, wq_487, wq_350, wq_488, ⟨by decide +kernel, by decide +kernel, by decide +kernel⟩, by decide⟩
theorem wl_X4_204 : WlS RX4 204 yX4_isSoon cX4_isSoon 1 (some (.boolean)) 1 := ⟨wq_489, wq_490, wq_350, wq_491, ⟨by decide +kernel, by decide +kernel, by decide +kernel⟩, by decide⟩
theorem wl_X4_208 : WlV RX4 208 RX4 yX4_soonest cX4_soonest 11 (some (.int)) 5 := ⟨wq_493, wq_494, wq_495, wq_350, wq_496, ⟨by decide +kernel, by decide +kernel, by decide +kernel⟩, by decide⟩
theorem wl_X4_211 : WlS RX4 211 yX4_isGo cX4_isGo 1 (some (.boolean)) 1 := ⟨wq_497, wq_498, wq_350, wq_499, ⟨by decide +kernel, by decide +kernel, by decide +kernel⟩, by decide⟩
theorem wl_X4_214 : WlV RX4 214 RX4 yX4_behind cX4_behind 4 (some (.int)) 3 := ⟨wq_500, wq_501, wq_502, wq_350, wq_503, ⟨by decide +kernel, by decide +kernel, by decide +kernel⟩, by decide⟩
theorem wl_X4_217 : WlV RX4 217 RX4 yX4_between cX4_between 6 (some (.int)) 3 := ⟨wq_504, wq_505, wq_506, wq_350, wq_507, ⟨by decide +kernel, by decide +kernel, by decide +kernel⟩, by decide⟩
theorem wl_X4_220 : WlS RX4 220 yX4_areEnds cX4_areEnds 2 (some (.boolean)) 2 := ⟨wq_508, wq_509, wq_350, wq_510, ⟨by decide +kernel, by decide +kernel, by decide +kernel⟩, by decide⟩
theorem wl_X4_223 : WlV RX4 223 RX4 yX4_roadNow cX4_roadNow 6 (some (.int)) 3 := ⟨wq_511, wq_512, wq_513, wq_350, wq_514, ⟨by decide +kernel, by decide +kernel, by decide +kernel⟩, by decide⟩
theorem wl_X4_226 : WlV RX4 226 RX4 yX4_climbNow cX4_climbNow 3 (some (.int)) 2 := ⟨wq_515, wq_516, wq_517, wq_350, wq_518, ⟨by decide +kernel, by decide +kernel, by decide +kernel⟩, by decide⟩
theorem wl_X4_229 : WlV RX4 229 RX4 yX4_openIn cX4_openIn 7 (some (.int)) 4 := ⟨wq_519, wq_520, wq_521, wq_350, wq_522, ⟨by decide +kernel, by decide +kernel, by decide +kernel⟩, by decide⟩
theorem wl_X4_233 : WlS RX4 233 yX4_isSheet cX4_isSheet 1 (some (.boolean)) 1 := ⟨wq_523, wq_524, wq_350, wq_525, ⟨by decide +kernel, by decide +kernel, by decide +kernel⟩, by decide⟩
theorem wl_X4_237 : WlV RX4 237 RX4 yX4_facedSo cX4_facedSo 6 (some (.boolean)) 2 := ⟨wq_530, wq_531, wq_532, wq_350, wq_533, ⟨by decide +kernel, by decide +kernel, by decide +kernel⟩, by decide⟩
theorem wl_X4_240 : WlV RX4 240 RX4 yX4_lacks cX4_lacks 3 (some (.int)) 2 := ⟨wq_534, wq_535, wq_536, wq_350, wq_537, ⟨by decide +kernel, by decide +kernel, by decide +kernel⟩, by decide⟩
theorem wl_X4_243 : WlV RX4 243 RX4 yX4_fitting cX4_fitting 9 (some (.int)) 5 := ⟨wq_538, wq_539, wq_540, wq_350, wq_541, ⟨by decide +kernel, by decide +kernel, by decide +kernel⟩, by decide⟩
theorem wl_X4_247 : WlV RX4 247 RX4 yX4_drawn cX4_drawn 1 (some (.int)) 0 := ⟨wq_543, wq_544, wq_545, wq_350, wq_546, ⟨by decide +kernel, by decide +kernel, by decide +kernel⟩, by decide⟩
theorem wl_X4_260 : WlV RX4 260 RX4 yX4_byteAt cX4_byteAt 2 (some (.int)) 1 := ⟨wq_551, wq_552, wq_553, wq_350, wq_554, ⟨by decide +kernel, by decide +kernel, by decide +kernel⟩, by decide⟩
theorem wl_X4_269 : WlV RX4 269 RJ0 yJ0_length_8abf5 cJ0_length_8abf5 1 (some (.int)) 0 := ⟨wq_557, wq_25, wq_26, wq_27, wq_28, ⟨by decide +kernel, by decide +kernel, by decide +kernel⟩, by decide⟩
theorem wl_X4_272 : WlV RX4 272 RJ0 yJ0_charAt_5068e cJ0_charAt_5068e 2 (some (.char)) 1 := ⟨wq_558, wq_30, wq_31, wq_27, wq_32, ⟨by decide +kernel, by decide +kernel, by decide +kernel⟩, by decide⟩
theorem wl_X4_280 : WlV RX4 280 RX4 yX4_next cX4_next 2 none 0 := ⟨wq_560, wq_561, wq_562, wq_350, wq_563, ⟨by decide +kernel, by decide +kernel, by decide +kernel⟩, by decide⟩
theorem wl_X4_283 : WlV RX4 283 RX4 yX4_must cX4_must 2 none 1 := ⟨wq_564, wq_565, wq_566, wq_350, wq_567, ⟨by decide +kernel, by decide +kernel, by decide +kernel⟩, by decide⟩
theorem wl_X4_290 : WlV RX4 290 RX4 yX4_isWord cX4_isWord 4 (some (.boolean)) 1 := ⟨wq_571, wq_572, wq_573, wq_350, wq_574, ⟨by decide +kernel, by decide +kernel, by decide +kernel⟩, by decide⟩
theorem wl_X4_294 : WlV RX4 294 RX4 yX4_number cX4_number 4 (some (.int)) 2 := ⟨wq_575, wq_576, wq_577, wq_350, wq_578, ⟨by decide +kernel, by decide +kernel, by decide +kernel⟩, by decide⟩
theorem wl_X4_299 : WlV RX4 299 RX4 yX4_kindTold cX4_kindTold 3 (some (.int)) 0 := ⟨wq_579, wq_580, wq_581, wq_350, wq_582, ⟨by decide +kernel, by decide +kernel, by decide +kernel⟩, by decide⟩
theorem wl_X4_317 : WlV RX4 317 RX4 yX4_addItem cX4_addItem 7 none 5 := ⟨wq_583, wq_584, wq_585, wq_350, wq_586, ⟨by decide +kernel, by decide +kernel, by decide +kernel⟩, by decide⟩
theorem wl_X4_306 : WlV RX4 306 RX4 yX4_afterWord cX4_afterWord 4 (some (.int)) 3 := ⟨wq_588, wq_589, wq_590, wq_350, wq_591, ⟨by decide +kernel, by decide +kernel, by decide +kernel⟩, by decide⟩
theorem wl_X4_310 : WlV RX4 310 RX4 yX4_stepTold cX4_stepTold 3 (some (.int)) 0 := ⟨wq_592, wq_593, wq_594, wq_350, wq_595, ⟨by decide +kernel, by decide +kernel, by decide +kernel⟩, by decide⟩
theorem wl_X4_323 : WlV RX4 323 RX4 yX4_readItem cX4_readItem 5 none 0 := ⟨wq_596, wq_597, wq_598, wq_350, wq_599, ⟨by decide +kernel, by decide +kernel, by decide +kernel⟩, by decide⟩
theorem wl_X4_326 : WlV RX4 326 RX4 yX4_isToldSo cX4_isToldSo 3 (some (.int)) 1 := ⟨wq_600, wq_601, wq_602, wq_350, wq_603, ⟨by decide +kernel, by decide +kernel, by decide +kernel⟩, by decide⟩
theorem wl_X4_329 : WlS RX4 329 yX4_isSpot cX4_isSpot 1 (some (.boolean)) 1 := ⟨wq_604, wq_605, wq_350, wq_606, ⟨by decide +kernel, by decide +kernel, by decide +kernel⟩, by decide⟩
theorem wl_X4_339 : WlS RX4 339 yX4_above cX4_above 1 (some (.int)) 1 := ⟨wq_607, wq_608, wq_350, wq_609, ⟨by decide +kernel, by decide +kernel, by decide +kernel⟩, by decide⟩
theorem wl_X4_332 : WlS RX4 332 yX4_isUnder cX4_isUnder 3 (some (.boolean)) 2 := ⟨wq_610, wq_611, wq_350, wq_612, ⟨by decide +kernel, by decide +kernel, by decide +kernel⟩, by decide⟩
theorem wl_X4_336 : WlS RX4 336 yX4_cutTo cX4_cutTo 2 (some (.int)) 2 := ⟨wq_614, wq_615, wq_350, wq_616, ⟨by decide +kernel, by decide +kernel, by decide +kernel⟩, by decide⟩
theorem wl_X4_342 : WlV RX4 342 RX4 yX4_lacksSheet cX4_lacksSheet 2 (some (.int)) 1 := ⟨wq_618, wq_619, wq_620, wq_350, wq_621, ⟨by decide +kernel, by decide +kernel, by decide +kernel⟩, by decide⟩
end
section
def pi_J7_fill_53178_5 (k0 : Nat) (n0 : Nat) (v1 : Int32) (v3 : Int32) (rc5 : Int32 × Mem → Option (Mem)) (v2 : Int32) (M : Mem) : Option (Mem) := if v3 ≤ v2 then (some M) else (gd (inb v2 n0) <| bM (up M k0 v2.toNatClampNeg v1) fun M_3 => bI (v2 + 1) fun v2_4 => rc5 (v2_4, M_3))
set_option maxRecDepth 100000 in
set_option maxHeartbeats 4000000 in
theorem pj_J7_fill_53178_5 {p : Program} {l : Launch} {e : Env} {R : Room} {s : State} {m : MethodId} {args : Array Value} {below : List Frame} {meth : Method} {c : Code} {g : Gh} (X : Cx p l e R s m args below meth c g cJ7_fill_53178 4 RJ7 0) (hr : meth.sig.returnType = none) (k0 : Nat) (n0 : Nat) (v1 : Int32) (ha0 : ia k0 n0) (v3 : Int32) (rc5 : Int32 × Mem → Option (Mem)) (hc5 : ∀ x, J p l e R s m args below meth c g 4 (QfV below args s g) (rc5 x) x.2 5 [(0, .ref (gA g k0)), (1, .int v1), (2, .int x.1), (3, .int v3)] []) (v2 : Int32) (M : Mem) : J p l e R s m args below meth c g 4 (QfV below args s g) (pi_J7_fill_53178_5 k0 n0 v1 v3 rc5 v2 M) M 5 [(0, .ref (gA g k0)), (1, .int v1), (2, .int v2), (3, .int v3)] [] := by
  unfold pi_J7_fill_53178_5
  refine j_iload_n (i := 2) X dJ7_fill_53178_5 rfl rfl ?_
  refine j_iload_n (i := 3) X dJ7_fill_53178_6 rfl rfl ?_
  refine j_icmp_ge (tgt := 20) X dJ7_fill_53178_7 (by decide) ?_ ?_
  · exact j_vret X hr dJ7_fill_53178_20
  · refine j_aload_n (i := 0) X dJ7_fill_53178_10 rfl rfl ?_
    refine j_iload_n (i := 2) X dJ7_fill_53178_11 rfl rfl ?_
    refine j_iload_n (i := 1) X dJ7_fill_53178_12 rfl rfl ?_
    refine j_iast X ha0 dJ7_fill_53178_13 (fun h_2 => ?_)
    refine j_bM (fun M_3 => ?_)
    refine j_iincB (i := 2) (y := v2 + 1) (Lf := fun v2_4 => [(0, .ref (gA g k0)), (1, .int v1), (2, .int v2_4), (3, .int v3)]) X dJ7_fill_53178_14 rfl rfl (by decide) (fun _ => rfl) (fun v2_4 => ?_)
    refine j_goto (tgt := 5) X dJ7_fill_53178_17 (by decide) ?_
    exact hc5 (v2_4, M_3)
def pi_J7_fill_53178_e (k0 : Nat) (n0 : Nat) (v1 : Int32) (M : Mem) : Option (Mem) := bI (Int32.ofNat n0) fun v3_1 => lp (fun rc5 x => pi_J7_fill_53178_5 k0 n0 v1 v3_1 rc5 x.1 x.2) FU (0, M)
set_option maxRecDepth 100000 in
set_option maxHeartbeats 4000000 in
theorem pj_J7_fill_53178_e {p : Program} {l : Launch} {e : Env} {R : Room} {s : State} {m : MethodId} {args : Array Value} {below : List Frame} {meth : Method} {c : Code} {g : Gh} (X : Cx p l e R s m args below meth c g cJ7_fill_53178 4 RJ7 0) (hr : meth.sig.returnType = none) (k0 : Nat) (n0 : Nat) (v1 : Int32) (ha0 : ia k0 n0) (M : Mem) : J p l e R s m args below meth c g 4 (QfV below args s g) (pi_J7_fill_53178_e k0 n0 v1 M) M 0 [(0, .ref (gA g k0)), (1, .int v1)] [] := by
  unfold pi_J7_fill_53178_e
  refine j_iconst (v := 0) X dJ7_fill_53178_0 rfl ?_
  refine j_istore_n (i := 2) (Lq := [(0, .ref (gA g k0)), (1, .int v1), (2, .int 0)]) X dJ7_fill_53178_1 rfl (by decide) rfl ?_
  refine j_aload_n (i := 0) X dJ7_fill_53178_2 rfl rfl ?_
  refine j_alen (v := Int32.ofNat n0) X ha0 rfl dJ7_fill_53178_3 ?_
  refine j_bI (fun v3_1 => ?_)
  refine j_istore_n (i := 3) (Lq := [(0, .ref (gA g k0)), (1, .int v1), (2, .int 0), (3, .int v3_1)]) X dJ7_fill_53178_4 rfl (by decide) rfl ?_
  exact j_lp (Lf := fun x => [(0, .ref (gA g k0)), (1, .int v1), (2, .int x.1), (3, .int v3_1)]) (Mf := fun x => x.2) (fun rc5 hc5 x => pj_J7_fill_53178_5 X hr k0 n0 v1 ha0 v3_1 rc5 hc5 x.1 x.2) FU (0, M)
def mi_J7_fill_53178 (k0 : Nat) (n0 : Nat) (v1 : Int32) (M : Mem) : Option (Mem) := pi_J7_fill_53178_e k0 n0 v1 M
theorem ct_J7_fill_53178 (l : Launch) (g : Gh) (k0 : Nat) (n0 : Nat) (v1 : Int32) (ha0 : ia k0 n0) (M : Mem) : CtV l g yJ7_fill_53178 cJ7_fill_53178 4 none 0 [.ref (gA g k0), .int v1] M (mi_J7_fill_53178 k0 n0 v1 M) := ctV_of (own := RJ7) (L := [(0, .ref (gA g k0)), (1, .int v1)]) (by decide +kernel) rfl (Nat.le_of_ble_eq_true rfl) rfl (fun p e s m args below meth c X hr => pj_J7_fill_53178_e X hr k0 n0 v1 ha0 M)

def pi_X2_lookAround_91 (b : Nat) (rc91 : Int32 × Mem → Option (Mem)) (v1 : Int32) (M : Mem) : Option (Mem) := if (M b 3) ≤ v1 then (some M) else (gd (inb v1 8) <| gd (inb (M (b + 8) v1.toNatClampNeg) 12) <| gd (inb v1 8) <| gd (inb (M (b + 3) v1.toNatClampNeg) 12) <| gd (inb v1 8) <| bM (up M (b + 9) v1.toNatClampNeg (((M (b + 10) (M (b + 8) v1.toNatClampNeg).toNatClampNeg) &&& (M (b + 11) (M (b + 3) v1.toNatClampNeg).toNatClampNeg)) &&& ((1 <<< (v1 &&& 31)) ^^^ (-1)))) fun M_8 => bI (v1 + 1) fun v1_9 => rc91 (v1_9, M_8))
set_option maxRecDepth 100000 in
set_option maxHeartbeats 4000000 in
theorem pj_X2_lookAround_91 {p : Program} {l : Launch} {e : Env} {R : Room} {s : State} {m : MethodId} {args : Array Value} {below : List Frame} {meth : Method} {c : Code} {g : Gh} (X : Cx p l e R s m args below meth c g cX2_lookAround 3 RX2 1) (hr : meth.sig.returnType = none) (b : Nat) (hb : isSh b) (rc91 : Int32 × Mem → Option (Mem)) (hc91 : ∀ x, J p l e R s m args below meth c g 3 (QfV below args s g) (rc91 x) x.2 91 [(0, .ref (gA g b)), (1, .int x.1)] []) (v1 : Int32) (M : Mem) : J p l e R s m args below meth c g 3 (QfV below args s g) (pi_X2_lookAround_91 b rc91 v1 M) M 91 [(0, .ref (gA g b)), (1, .int v1)] [] := by
  unfold pi_X2_lookAround_91
  refine j_iload_n (i := 1) X dX2_lookAround_91 rfl rfl ?_
  refine j_aload_n (i := 0) X dX2_lookAround_92 rfl rfl ?_
  refine j_get_sh hb 3 X (by decide) wq_46 rfl dX2_lookAround_93 ?_
  refine j_icmp_ge (tgt := 140) X dX2_lookAround_96 (by decide) ?_ ?_
  · exact j_vret X hr dX2_lookAround_140
  · refine j_aload_n (i := 0) X dX2_lookAround_99 rfl rfl ?_
    refine j_get_sh hb 12 X (by decide) wq_47 rfl dX2_lookAround_100 ?_
    refine j_iload_n (i := 1) X dX2_lookAround_103 rfl rfl ?_
    refine j_aload_n (i := 0) X dX2_lookAround_104 rfl rfl ?_
    refine j_get_sh hb 13 X (by decide) wq_40 rfl dX2_lookAround_105 ?_
    refine j_aload_n (i := 0) X dX2_lookAround_108 rfl rfl ?_
    refine j_get_sh hb 11 X (by decide) wq_48 rfl dX2_lookAround_109 ?_
    refine j_iload_n (i := 1) X dX2_lookAround_112 rfl rfl ?_
    refine j_iald X (ia_sh8 hb) dX2_lookAround_113 (fun h_3 => ?_)
    refine j_iald X (ia_sh10 hb) dX2_lookAround_114 (fun h_4 => ?_)
    refine j_aload_n (i := 0) X dX2_lookAround_115 rfl rfl ?_
    refine j_get_sh hb 14 X (by decide) wq_45 rfl dX2_lookAround_116 ?_
    refine j_aload_n (i := 0) X dX2_lookAround_119 rfl rfl ?_
    refine j_get_sh hb 6 X (by decide) wq_49 rfl dX2_lookAround_120 ?_
    refine j_iload_n (i := 1) X dX2_lookAround_123 rfl rfl ?_
    refine j_iald X (ia_sh3 hb) dX2_lookAround_124 (fun h_5 => ?_)
    refine j_iald X (ia_sh11 hb) dX2_lookAround_125 (fun h_6 => ?_)
    refine j_iand X dX2_lookAround_126 ?_
    refine j_iconst (v := 1) X dX2_lookAround_127 rfl ?_
    refine j_iload_n (i := 1) X dX2_lookAround_128 rfl rfl ?_
    refine j_ishl X dX2_lookAround_129 ?_
    refine j_iconst (v := (-1)) X dX2_lookAround_130 rfl ?_
    refine j_ixor X dX2_lookAround_131 ?_
    refine j_iand X dX2_lookAround_132 ?_
    refine j_iast X (ia_sh9 hb) dX2_lookAround_133 (fun h_7 => ?_)
    refine j_bM (fun M_8 => ?_)
    refine j_iincB (i := 1) (y := v1 + 1) (Lf := fun v1_9 => [(0, .ref (gA g b)), (1, .int v1_9)]) X dX2_lookAround_134 rfl rfl (by decide) (fun _ => rfl) (fun v1_9 => ?_)
    refine j_goto (tgt := 91) X dX2_lookAround_137 (by decide) ?_
    exact hc91 (v1_9, M_8)
def pi_X2_lookAround_18 (b : Nat) (rc18 : Int32 × Mem → Option (Mem)) (v1 : Int32) (M : Mem) : Option (Mem) := if (M b 3) ≤ v1 then (lp (fun rc91 x => pi_X2_lookAround_91 b rc91 x.1 x.2) FU (0, M)) else (gd (inb v1 8) <| gd (inb v1 8) <| gd (inb (M (b + 5) v1.toNatClampNeg) 4) <| bI (((M (b + 3) v1.toNatClampNeg) + (foT (M (b + 5) v1.toNatClampNeg).toNatClampNeg)) - ((M (b + 3) v1.toNatClampNeg) + (foT (M (b + 5) v1.toNatClampNeg).toNatClampNeg)) / 12 * 12) fun v2_13 => gd (inb v1 8) <| bM (up M (b + 8) v1.toNatClampNeg v2_13) fun M_15 => gd (inb v1 8) <| gd (inb (M_15 (b + 3) v1.toNatClampNeg) 12) <| gd (inb (M_15 (b + 3) v1.toNatClampNeg) 12) <| bM (up M_15 (b + 10) (M_15 (b + 3) v1.toNatClampNeg).toNatClampNeg ((M_15 (b + 10) (M_15 (b + 3) v1.toNatClampNeg).toNatClampNeg) ||| (1 <<< (v1 &&& 31)))) fun M_19 => gd (inb v2_13 12) <| gd (inb v2_13 12) <| bM (up M_19 (b + 11) v2_13.toNatClampNeg ((M_19 (b + 11) v2_13.toNatClampNeg) ||| (1 <<< (v1 &&& 31)))) fun M_22 => bI (v1 + 1) fun v1_23 => rc18 (v1_23, M_22))
set_option maxRecDepth 100000 in
set_option maxHeartbeats 4000000 in
theorem pj_X2_lookAround_18 {p : Program} {l : Launch} {e : Env} {R : Room} {s : State} {m : MethodId} {args : Array Value} {below : List Frame} {meth : Method} {c : Code} {g : Gh} (X : Cx p l e R s m args below meth c g cX2_lookAround 3 RX2 1) (hr : meth.sig.returnType = none) (b : Nat) (hb : isSh b) (rc18 : Int32 × Mem → Option (Mem)) (hc18 : ∀ x, J p l e R s m args below meth c g 3 (QfV below args s g) (rc18 x) x.2 18 [(0, .ref (gA g b)), (1, .int x.1)] []) (v1 : Int32) (M : Mem) : J p l e R s m args below meth c g 3 (QfV below args s g) (pi_X2_lookAround_18 b rc18 v1 M) M 18 [(0, .ref (gA g b)), (1, .int v1)] [] := by
  unfold pi_X2_lookAround_18
  refine j_iload_n (i := 1) X dX2_lookAround_18 rfl rfl ?_
  refine j_aload_n (i := 0) X dX2_lookAround_19 rfl rfl ?_
  refine j_get_sh hb 3 X (by decide) wq_46 rfl dX2_lookAround_20 ?_
  refine j_icmp_ge (tgt := 89) X dX2_lookAround_23 (by decide) ?_ ?_
  · refine j_iconst (v := 0) X dX2_lookAround_89 rfl ?_
    refine j_istore_n (i := 1) (Lq := [(0, .ref (gA g b)), (1, .int 0)]) X dX2_lookAround_90 rfl (by decide) rfl ?_
    exact j_lp (Lf := fun x => [(0, .ref (gA g b)), (1, .int x.1)]) (Mf := fun x => x.2) (fun rc91 hc91 x => pj_X2_lookAround_91 X hr b hb rc91 hc91 x.1 x.2) FU (0, M)
  · refine j_aload_n (i := 0) X dX2_lookAround_26 rfl rfl ?_
    refine j_get_sh hb 6 X (by decide) wq_49 rfl dX2_lookAround_27 ?_
    refine j_iload_n (i := 1) X dX2_lookAround_30 rfl rfl ?_
    refine j_iald X (ia_sh3 hb) dX2_lookAround_31 (fun h_10 => ?_)
    refine j_gets_fo X (by decide +kernel) dX2_lookAround_32 ?_
    refine j_aload_n (i := 0) X dX2_lookAround_35 rfl rfl ?_
    refine j_get_sh hb 8 X (by decide) wq_50 rfl dX2_lookAround_36 ?_
    refine j_iload_n (i := 1) X dX2_lookAround_39 rfl rfl ?_
    refine j_iald X (ia_sh5 hb) dX2_lookAround_40 (fun h_11 => ?_)
    refine j_tld_fo X dX2_lookAround_41 (fun h_12 => ?_)
    refine j_iadd X dX2_lookAround_42 ?_
    refine j_bipush (v := 12) X dX2_lookAround_43 rfl ?_
    refine j_iremc X dX2_lookAround_45 (by decide) ?_
    refine j_bI (fun v2_13 => ?_)
    refine j_istore_n (i := 2) (Lq := [(0, .ref (gA g b)), (1, .int v1), (2, .int v2_13)]) X dX2_lookAround_46 rfl (by decide) rfl ?_
    refine j_aload_n (i := 0) X dX2_lookAround_47 rfl rfl ?_
    refine j_get_sh hb 11 X (by decide) wq_48 rfl dX2_lookAround_48 ?_
    refine j_iload_n (i := 1) X dX2_lookAround_51 rfl rfl ?_
    refine j_iload_n (i := 2) X dX2_lookAround_52 rfl rfl ?_
    refine j_iast X (ia_sh8 hb) dX2_lookAround_53 (fun h_14 => ?_)
    refine j_bM (fun M_15 => ?_)
    refine j_aload_n (i := 0) X dX2_lookAround_54 rfl rfl ?_
    refine j_get_sh hb 13 X (by decide) wq_40 rfl dX2_lookAround_55 ?_
    refine j_aload_n (i := 0) X dX2_lookAround_58 rfl rfl ?_
    refine j_get_sh hb 6 X (by decide) wq_49 rfl dX2_lookAround_59 ?_
    refine j_iload_n (i := 1) X dX2_lookAround_62 rfl rfl ?_
    refine j_iald X (ia_sh3 hb) dX2_lookAround_63 (fun h_16 => ?_)
    refine j_dup2 X dX2_lookAround_64 rfl rfl ?_
    refine j_iald X (ia_sh10 hb) dX2_lookAround_65 (fun h_17 => ?_)
    refine j_iconst (v := 1) X dX2_lookAround_66 rfl ?_
    refine j_iload_n (i := 1) X dX2_lookAround_67 rfl rfl ?_
    refine j_ishl X dX2_lookAround_68 ?_
    refine j_ior X dX2_lookAround_69 ?_
    refine j_iast X (ia_sh10 hb) dX2_lookAround_70 (fun h_18 => ?_)
    refine j_bM (fun M_19 => ?_)
    refine j_aload_n (i := 0) X dX2_lookAround_71 rfl rfl ?_
    refine j_get_sh hb 14 X (by decide) wq_45 rfl dX2_lookAround_72 ?_
    refine j_iload_n (i := 2) X dX2_lookAround_75 rfl rfl ?_
    refine j_dup2 X dX2_lookAround_76 rfl rfl ?_
    refine j_iald X (ia_sh11 hb) dX2_lookAround_77 (fun h_20 => ?_)
    refine j_iconst (v := 1) X dX2_lookAround_78 rfl ?_
    refine j_iload_n (i := 1) X dX2_lookAround_79 rfl rfl ?_
    refine j_ishl X dX2_lookAround_80 ?_
    refine j_ior X dX2_lookAround_81 ?_
    refine j_iast X (ia_sh11 hb) dX2_lookAround_82 (fun h_21 => ?_)
    refine j_bM (fun M_22 => ?_)
    refine j_iincB (i := 1) (y := v1 + 1) (Lf := fun v1_23 => [(0, .ref (gA g b)), (1, .int v1_23), (2, .int v2_13)]) X dX2_lookAround_83 rfl rfl (by decide) (fun _ => rfl) (fun v1_23 => ?_)
    refine j_goto (tgt := 18) X dX2_lookAround_86 (by decide) ?_
    refine j_pick [0, 1] (Lq := [(0, .ref (gA g b)), (1, .int v1_23)]) rfl ?_
    exact hc18 (v1_23, M_22)
def pi_X2_lookAround_e (b : Nat) (M : Mem) : Option (Mem) := bv (mi_J7_fill_53178 (b + 10) 12 0 M) fun M_1 => bv (mi_J7_fill_53178 (b + 11) 12 0 M_1) fun M_2 => lp (fun rc18 x => pi_X2_lookAround_18 b rc18 x.1 x.2) FU (0, M_2)
set_option maxRecDepth 100000 in
set_option maxHeartbeats 4000000 in
theorem pj_X2_lookAround_e {p : Program} {l : Launch} {e : Env} {R : Room} {s : State} {m : MethodId} {args : Array Value} {below : List Frame} {meth : Method} {c : Code} {g : Gh} (X : Cx p l e R s m args below meth c g cX2_lookAround 3 RX2 1) (hr : meth.sig.returnType = none) (b : Nat) (hb : isSh b) (M : Mem) : J p l e R s m args below meth c g 3 (QfV below args s g) (pi_X2_lookAround_e b M) M 0 [(0, .ref (gA g b))] [] := by
  unfold pi_X2_lookAround_e
  refine j_aload_n (i := 0) X dX2_lookAround_0 rfl rfl ?_
  refine j_get_sh hb 13 X (by decide) wq_40 rfl dX2_lookAround_1 ?_
  refine j_iconst (v := 0) X dX2_lookAround_4 rfl ?_
  refine k_cSV (As := [.ref (gA g (b + 10)), .int 0]) (rest := []) X (ct_J7_fill_53178 l g (b + 10) 12 0 (ia_sh10 hb) M) wl_X2_67 rfl rfl (by decide) (Nat.le_of_ble_eq_true rfl) dX2_lookAround_5 (fun M_1 => ?_)
  refine j_aload_n (i := 0) X dX2_lookAround_8 rfl rfl ?_
  refine j_get_sh hb 14 X (by decide) wq_45 rfl dX2_lookAround_9 ?_
  refine j_iconst (v := 0) X dX2_lookAround_12 rfl ?_
  refine k_cSV (As := [.ref (gA g (b + 11)), .int 0]) (rest := []) X (ct_J7_fill_53178 l g (b + 11) 12 0 (ia_sh11 hb) M_1) wl_X2_67 rfl rfl (by decide) (Nat.le_of_ble_eq_true rfl) dX2_lookAround_13 (fun M_2 => ?_)
  refine j_iconst (v := 0) X dX2_lookAround_16 rfl ?_
  refine j_istore_n (i := 1) (Lq := [(0, .ref (gA g b)), (1, .int 0)]) X dX2_lookAround_17 rfl (by decide) rfl ?_
  exact j_lp (Lf := fun x => [(0, .ref (gA g b)), (1, .int x.1)]) (Mf := fun x => x.2) (fun rc18 hc18 x => pj_X2_lookAround_18 X hr b hb rc18 hc18 x.1 x.2) FU (0, M_2)
def mi_X2_lookAround (b : Nat) (M : Mem) : Option (Mem) := pi_X2_lookAround_e b M
theorem ct_X2_lookAround (l : Launch) (g : Gh) (b : Nat) (hb : isSh b) (M : Mem) : CtV l g yX2_lookAround cX2_lookAround 3 none 1 [.ref (gA g b)] M (mi_X2_lookAround b M) := ctV_of (own := RX2) (L := [(0, .ref (gA g b))]) (by decide +kernel) rfl (Nat.le_of_ble_eq_true rfl) rfl (fun p e s m args below meth c X hr => pj_X2_lookAround_e X hr b hb M)

def pi_X2_lacks_e (b : Nat) (v1 : Int32) (M : Mem) : Option (Int32 × Mem) := if v1 < 0 then (gd (isB 1) (some (1, M))) else (if v1 < (M b 3) then (gd (isB 0) (some (0, M))) else (gd (isB 1) (some (1, M))))
set_option maxRecDepth 100000 in
set_option maxHeartbeats 4000000 in
theorem pj_X2_lacks_e {p : Program} {l : Launch} {e : Env} {R : Room} {s : State} {m : MethodId} {args : Array Value} {below : List Frame} {meth : Method} {c : Code} {g : Gh} (X : Cx p l e R s m args below meth c g cX2_lacks 2 RX2 0) (hr : meth.sig.returnType = (some (.boolean))) (b : Nat) (v1 : Int32) (hb : isSh b) (M : Mem) : J p l e R s m args below meth c g 2 (QfI below args s g) (pi_X2_lacks_e b v1 M) M 0 [(0, .ref (gA g b)), (1, .int v1)] [] := by
  unfold pi_X2_lacks_e
  refine j_iload_n (i := 1) X dX2_lacks_0 rfl rfl ?_
  refine j_if_lt (tgt := 12) X dX2_lacks_1 (by decide) ?_ ?_
  · refine j_iconst (v := 1) X dX2_lacks_12 rfl ?_
    refine j_goto (tgt := 17) X dX2_lacks_13 (by decide) ?_
    exact j_zret X hr dX2_lacks_17
  · refine j_iload_n (i := 1) X dX2_lacks_4 rfl rfl ?_
    refine j_aload_n (i := 0) X dX2_lacks_5 rfl rfl ?_
    refine j_get_sh hb 3 X (by decide) wq_46 rfl dX2_lacks_6 ?_
    refine j_icmp_lt (tgt := 16) X dX2_lacks_9 (by decide) ?_ ?_
    · refine j_iconst (v := 0) X dX2_lacks_16 rfl ?_
      exact j_zret X hr dX2_lacks_17
    · refine j_iconst (v := 1) X dX2_lacks_12 rfl ?_
      refine j_goto (tgt := 17) X dX2_lacks_13 (by decide) ?_
      exact j_zret X hr dX2_lacks_17
def mi_X2_lacks (b : Nat) (v1 : Int32) (M : Mem) : Option (Int32 × Mem) := pi_X2_lacks_e b v1 M
theorem ct_X2_lacks (l : Launch) (g : Gh) (b : Nat) (v1 : Int32) (hb : isSh b) (M : Mem) : CtI l g yX2_lacks cX2_lacks 2 (some (.boolean)) 0 [.ref (gA g b), .int v1] M (mi_X2_lacks b v1 M) := ctI_of (own := RX2) (L := [(0, .ref (gA g b)), (1, .int v1)]) (by decide +kernel) rfl (Nat.le_of_ble_eq_true rfl) rfl (fun p e s m args below meth c X hr => pj_X2_lacks_e X hr b v1 hb M)

def pi_X3_finding_e (v1 : Int32) (M : Mem) : Option (Int32 × Mem) := gd (inb v1 7) <| gd (inb v1 7) <| bM (up M 48 v1.toNatClampNeg ((M 48 v1.toNatClampNeg) + 1)) fun M_3 => some ((-1000001) - v1, M_3)
set_option maxRecDepth 100000 in
set_option maxHeartbeats 4000000 in
theorem pj_X3_finding_e {p : Program} {l : Launch} {e : Env} {R : Room} {s : State} {m : MethodId} {args : Array Value} {below : List Frame} {meth : Method} {c : Code} {g : Gh} (X : Cx p l e R s m args below meth c g cX3_finding 2 RX3 0) (hr : meth.sig.returnType = (some (.int))) (v1 : Int32) (M : Mem) : J p l e R s m args below meth c g 2 (QfI below args s g) (pi_X3_finding_e v1 M) M 0 [(0, .ref (gA g 0)), (1, .int v1)] [] := by
  unfold pi_X3_finding_e
  refine j_aload_n (i := 0) X dX3_finding_0 rfl rfl ?_
  refine j_get_hd 6 X (by decide) wq_167 rfl dX3_finding_1 ?_
  refine j_iload_n (i := 1) X dX3_finding_4 rfl rfl ?_
  refine j_dup2 X dX3_finding_5 rfl rfl ?_
  refine j_iald X ia_48 dX3_finding_6 (fun h_1 => ?_)
  refine j_iconst (v := 1) X dX3_finding_7 rfl ?_
  refine j_iadd X dX3_finding_8 ?_
  refine j_iast X ia_48 dX3_finding_9 (fun h_2 => ?_)
  refine j_bM (fun M_3 => ?_)
  refine j_ldc (v := (-1000001)) X wq_168 dX3_finding_10 ?_
  refine j_iload_n (i := 1) X dX3_finding_12 rfl rfl ?_
  refine j_isub X dX3_finding_13 ?_
  exact j_iret X hr dX3_finding_14
def mi_X3_finding (v1 : Int32) (M : Mem) : Option (Int32 × Mem) := pi_X3_finding_e v1 M
theorem ct_X3_finding (l : Launch) (g : Gh) (v1 : Int32) (M : Mem) : CtI l g yX3_finding cX3_finding 2 (some (.int)) 0 [.ref (gA g 0), .int v1] M (mi_X3_finding v1 M) := ctI_of (own := RX3) (L := [(0, .ref (gA g 0)), (1, .int v1)]) (by decide +kernel) rfl (Nat.le_of_ble_eq_true rfl) rfl (fun p e s m args below meth c X hr => pj_X3_finding_e X hr v1  M)

def pi_X3_isOutside_e (v0 : Int32) (v1 : Int32) (v2 : Int32) (M : Mem) : Option (Int32 × Mem) := if v0 < v1 then (gd (isB 1) (some (1, M))) else (if v0 ≤ v2 then (gd (isB 0) (some (0, M))) else (gd (isB 1) (some (1, M))))
set_option maxRecDepth 100000 in
set_option maxHeartbeats 4000000 in
theorem pj_X3_isOutside_e {p : Program} {l : Launch} {e : Env} {R : Room} {s : State} {m : MethodId} {args : Array Value} {below : List Frame} {meth : Method} {c : Code} {g : Gh} (X : Cx p l e R s m args below meth c g cX3_isOutside 3 RX3 0) (hr : meth.sig.returnType = (some (.boolean))) (v0 : Int32) (v1 : Int32) (v2 : Int32) (M : Mem) : J p l e R s m args below meth c g 3 (QfI below args s g) (pi_X3_isOutside_e v0 v1 v2 M) M 0 [(0, .int v0), (1, .int v1), (2, .int v2)] [] := by
  unfold pi_X3_isOutside_e
  refine j_iload_n (i := 0) X dX3_isOutside_0 rfl rfl ?_
  refine j_iload_n (i := 1) X dX3_isOutside_1 rfl rfl ?_
  refine j_icmp_lt (tgt := 10) X dX3_isOutside_2 (by decide) ?_ ?_
  · refine j_iconst (v := 1) X dX3_isOutside_10 rfl ?_
    refine j_goto (tgt := 15) X dX3_isOutside_11 (by decide) ?_
    exact j_zret X hr dX3_isOutside_15
  · refine j_iload_n (i := 0) X dX3_isOutside_5 rfl rfl ?_
    refine j_iload_n (i := 2) X dX3_isOutside_6 rfl rfl ?_
    refine j_icmp_le (tgt := 14) X dX3_isOutside_7 (by decide) ?_ ?_
    · refine j_iconst (v := 0) X dX3_isOutside_14 rfl ?_
      exact j_zret X hr dX3_isOutside_15
    · refine j_iconst (v := 1) X dX3_isOutside_10 rfl ?_
      refine j_goto (tgt := 15) X dX3_isOutside_11 (by decide) ?_
      exact j_zret X hr dX3_isOutside_15
def mi_X3_isOutside (v0 : Int32) (v1 : Int32) (v2 : Int32) (M : Mem) : Option (Int32 × Mem) := pi_X3_isOutside_e v0 v1 v2 M
theorem ct_X3_isOutside (l : Launch) (g : Gh) (v0 : Int32) (v1 : Int32) (v2 : Int32) (M : Mem) : CtI l g yX3_isOutside cX3_isOutside 3 (some (.boolean)) 0 [.int v0, .int v1, .int v2] M (mi_X3_isOutside v0 v1 v2 M) := ctI_of (own := RX3) (L := [(0, .int v0), (1, .int v1), (2, .int v2)]) (by decide +kernel) rfl (Nat.le_of_ble_eq_true rfl) rfl (fun p e s m args below meth c X hr => pj_X3_isOutside_e X hr v0 v1 v2  M)

def pi_X3_rain_e (v1 : Int32) (M : Mem) : Option (Int32 × Mem) := bd (mi_X3_isOutside v1 0 9 M) fun r_2 M_1 => if r_2 = 0 then (bI (M_1 1 0) fun v2_3 => bM (up M_1 1 0 v1) fun M_4 => some (v2_3, M_4)) else (bd (mi_X3_finding 0 M_1) fun r_6 M_5 => some (r_6, M_5))
set_option maxRecDepth 100000 in
set_option maxHeartbeats 4000000 in
theorem pj_X3_rain_e {p : Program} {l : Launch} {e : Env} {R : Room} {s : State} {m : MethodId} {args : Array Value} {below : List Frame} {meth : Method} {c : Code} {g : Gh} (X : Cx p l e R s m args below meth c g cX3_rain 3 RX3 1) (hr : meth.sig.returnType = (some (.int))) (v1 : Int32) (M : Mem) : J p l e R s m args below meth c g 3 (QfI below args s g) (pi_X3_rain_e v1 M) M 0 [(0, .ref (gA g 0)), (1, .int v1)] [] := by
  unfold pi_X3_rain_e
  refine j_iload_n (i := 1) X dX3_rain_0 rfl rfl ?_
  refine j_iconst (v := 0) X dX3_rain_1 rfl ?_
  refine j_bipush (v := 9) X dX3_rain_2 rfl ?_
  refine k_cSI (As := [.int v1, .int 0, .int 9]) (rest := []) X (ct_X3_isOutside l g v1 0 9 M) wl_X3_40 rfl rfl (by decide) (Nat.le_of_ble_eq_true rfl) dX3_rain_4 (fun r_2 M_1 => ?_)
  refine j_if_eq (tgt := 16) X dX3_rain_7 (by decide) ?_ ?_
  · refine j_aload_n (i := 0) X dX3_rain_16 rfl rfl ?_
    refine j_get_hd 0 X (by decide) wq_172 rfl dX3_rain_17 ?_
    refine j_getN_sh sh_1 0 X (by decide) (by decide +kernel) rfl dX3_rain_20 ?_
    refine j_bI (fun v2_3 => ?_)
    refine j_istore_n (i := 2) (Lq := [(0, .ref (gA g 0)), (1, .int v1), (2, .int v2_3)]) X dX3_rain_23 rfl (by decide) rfl ?_
    refine j_aload_n (i := 0) X dX3_rain_24 rfl rfl ?_
    refine j_get_hd 0 X (by decide) wq_172 rfl dX3_rain_25 ?_
    refine j_iload_n (i := 1) X dX3_rain_28 rfl rfl ?_
    refine j_putN_sh (ty := .int) sh_1 0 X (by decide) (by decide +kernel) (fun _ => rfl) rfl (by decide +kernel) rfl rfl dX3_rain_29 ?_
    refine j_bM (fun M_4 => ?_)
    refine j_iload_n (i := 2) X dX3_rain_32 rfl rfl ?_
    exact j_iret X hr dX3_rain_33
  · refine j_aload_n (i := 0) X dX3_rain_10 rfl rfl ?_
    refine j_iconst (v := 0) X dX3_rain_11 rfl ?_
    refine k_cVI (As := [.int 0]) (rest := []) (by decide) (cf_hd _) rfl X (ct_X3_finding l g 0 M_1) wl_X3_44 rfl rfl (by decide) (Nat.le_of_ble_eq_true rfl) dX3_rain_12 (fun r_6 M_5 => ?_)
    exact j_iret X hr dX3_rain_15
def mi_X3_rain (v1 : Int32) (M : Mem) : Option (Int32 × Mem) := pi_X3_rain_e v1 M
theorem ct_X3_rain (l : Launch) (g : Gh) (v1 : Int32) (M : Mem) : CtI l g yX3_rain cX3_rain 3 (some (.int)) 1 [.ref (gA g 0), .int v1] M (mi_X3_rain v1 M) := ctI_of (own := RX3) (L := [(0, .ref (gA g 0)), (1, .int v1)]) (by decide +kernel) rfl (Nat.le_of_ble_eq_true rfl) rfl (fun p e s m args below meth c X hr => pj_X3_rain_e X hr v1  M)

def pi_X4_by12_e (v0 : Int32) (M : Mem) : Option (Int32 × Mem) := bI (v0 - v0 / 12 * 12) fun v1_1 => if 0 ≤ v1_1 then (some (v1_1, M)) else (some (v1_1 + 12, M))
set_option maxRecDepth 100000 in
set_option maxHeartbeats 4000000 in
theorem pj_X4_by12_e {p : Program} {l : Launch} {e : Env} {R : Room} {s : State} {m : MethodId} {args : Array Value} {below : List Frame} {meth : Method} {c : Code} {g : Gh} (X : Cx p l e R s m args below meth c g cX4_by12 2 RX4 0) (hr : meth.sig.returnType = (some (.int))) (v0 : Int32) (M : Mem) : J p l e R s m args below meth c g 2 (QfI below args s g) (pi_X4_by12_e v0 M) M 0 [(0, .int v0)] [] := by
  unfold pi_X4_by12_e
  refine j_iload_n (i := 0) X dX4_by12_0 rfl rfl ?_
  refine j_bipush (v := 12) X dX4_by12_1 rfl ?_
  refine j_iremc X dX4_by12_3 (by decide) ?_
  refine j_bI (fun v1_1 => ?_)
  refine j_istore_n (i := 1) (Lq := [(0, .int v0), (1, .int v1_1)]) X dX4_by12_4 rfl (by decide) rfl ?_
  refine j_iload_n (i := 1) X dX4_by12_5 rfl rfl ?_
  refine j_if_ge (tgt := 16) X dX4_by12_6 (by decide) ?_ ?_
  · refine j_iload_n (i := 1) X dX4_by12_16 rfl rfl ?_
    exact j_iret X hr dX4_by12_17
  · refine j_iload_n (i := 1) X dX4_by12_9 rfl rfl ?_
    refine j_bipush (v := 12) X dX4_by12_10 rfl ?_
    refine j_iadd X dX4_by12_12 ?_
    refine j_goto (tgt := 17) X dX4_by12_13 (by decide) ?_
    exact j_iret X hr dX4_by12_17
def mi_X4_by12 (v0 : Int32) (M : Mem) : Option (Int32 × Mem) := pi_X4_by12_e v0 M
theorem ct_X4_by12 (l : Launch) (g : Gh) (v0 : Int32) (M : Mem) : CtI l g yX4_by12 cX4_by12 2 (some (.int)) 0 [.int v0] M (mi_X4_by12 v0 M) := ctI_of (own := RX4) (L := [(0, .int v0)]) (by decide +kernel) rfl (Nat.le_of_ble_eq_true rfl) rfl (fun p e s m args below meth c X hr => pj_X4_by12_e X hr v0  M)

def pi_X4_at_e (v0 : Int32) (v1 : Int32) (M : Mem) : Option (Int32 × Mem) := some ((14 + (6 * v0)) + v1, M)
set_option maxRecDepth 100000 in
set_option maxHeartbeats 4000000 in
theorem pj_X4_at_e {p : Program} {l : Launch} {e : Env} {R : Room} {s : State} {m : MethodId} {args : Array Value} {below : List Frame} {meth : Method} {c : Code} {g : Gh} (X : Cx p l e R s m args below meth c g cX4_at 2 RX4 0) (hr : meth.sig.returnType = (some (.int))) (v0 : Int32) (v1 : Int32) (M : Mem) : J p l e R s m args below meth c g 2 (QfI below args s g) (pi_X4_at_e v0 v1 M) M 0 [(0, .int v0), (1, .int v1)] [] := by
  unfold pi_X4_at_e
  refine j_bipush (v := 14) X dX4_at_0 rfl ?_
  refine j_bipush (v := 6) X dX4_at_2 rfl ?_
  refine j_iload_n (i := 0) X dX4_at_4 rfl rfl ?_
  refine j_imul X dX4_at_5 ?_
  refine j_iadd X dX4_at_6 ?_
  refine j_iload_n (i := 1) X dX4_at_7 rfl rfl ?_
  refine j_iadd X dX4_at_8 ?_
  exact j_iret X hr dX4_at_9
def mi_X4_at (v0 : Int32) (v1 : Int32) (M : Mem) : Option (Int32 × Mem) := pi_X4_at_e v0 v1 M
theorem ct_X4_at (l : Launch) (g : Gh) (v0 : Int32) (v1 : Int32) (M : Mem) : CtI l g yX4_at cX4_at 2 (some (.int)) 0 [.int v0, .int v1] M (mi_X4_at v0 v1 M) := ctI_of (own := RX4) (L := [(0, .int v0), (1, .int v1)]) (by decide +kernel) rfl (Nat.le_of_ble_eq_true rfl) rfl (fun p e s m args below meth c X hr => pj_X4_at_e X hr v0 v1  M)

def pi_X4_hillIs_e (v1 : Int32) (v2 : Int32) (M : Mem) : Option (Int32 × Mem) := bd (mi_X4_at v1 v2 M) fun r_2 M_1 => gd (inb r_2 62) <| some (M_1 50 r_2.toNatClampNeg, M_1)
set_option maxRecDepth 100000 in
set_option maxHeartbeats 4000000 in
theorem pj_X4_hillIs_e {p : Program} {l : Launch} {e : Env} {R : Room} {s : State} {m : MethodId} {args : Array Value} {below : List Frame} {meth : Method} {c : Code} {g : Gh} (X : Cx p l e R s m args below meth c g cX4_hillIs 3 RX4 1) (hr : meth.sig.returnType = (some (.int))) (v1 : Int32) (v2 : Int32) (M : Mem) : J p l e R s m args below meth c g 3 (QfI below args s g) (pi_X4_hillIs_e v1 v2 M) M 0 [(0, .ref (gA g 49)), (1, .int v1), (2, .int v2)] [] := by
  unfold pi_X4_hillIs_e
  refine j_aload_n (i := 0) X dX4_hillIs_0 rfl rfl ?_
  refine j_get_md 0 X (by decide) wq_346 rfl dX4_hillIs_1 ?_
  refine j_iload_n (i := 1) X dX4_hillIs_4 rfl rfl ?_
  refine j_iload_n (i := 2) X dX4_hillIs_5 rfl rfl ?_
  refine k_cSI (As := [.int v1, .int v2]) (rest := [.ref (gA g 50)]) X (ct_X4_at l g v1 v2 M) wl_X4_93 rfl rfl (by decide) (Nat.le_of_ble_eq_true rfl) dX4_hillIs_6 (fun r_2 M_1 => ?_)
  refine j_iald X ia_50 dX4_hillIs_9 (fun h_3 => ?_)
  exact j_iret X hr dX4_hillIs_10
def mi_X4_hillIs (v1 : Int32) (v2 : Int32) (M : Mem) : Option (Int32 × Mem) := pi_X4_hillIs_e v1 v2 M
theorem ct_X4_hillIs (l : Launch) (g : Gh) (v1 : Int32) (v2 : Int32) (M : Mem) : CtI l g yX4_hillIs cX4_hillIs 3 (some (.int)) 1 [.ref (gA g 49), .int v1, .int v2] M (mi_X4_hillIs v1 v2 M) := ctI_of (own := RX4) (L := [(0, .ref (gA g 49)), (1, .int v1), (2, .int v2)]) (by decide +kernel) rfl (Nat.le_of_ble_eq_true rfl) rfl (fun p e s m args below meth c X hr => pj_X4_hillIs_e X hr v1 v2  M)

def pi_X4_facesOf_e (v1 : Int32) (M : Mem) : Option (Int32 × Mem) := bd (mi_X4_hillIs v1 1 M) fun r_2 M_1 => bd (mi_X4_hillIs v1 3 M_1) fun r_4 M_3 => gd (inb r_4 4) <| bd (mi_X4_by12 (r_2 + (M_3 54 r_4.toNatClampNeg)) M_3) fun r_7 M_6 => some (r_7, M_6)
set_option maxRecDepth 100000 in
set_option maxHeartbeats 4000000 in
theorem pj_X4_facesOf_e {p : Program} {l : Launch} {e : Env} {R : Room} {s : State} {m : MethodId} {args : Array Value} {below : List Frame} {meth : Method} {c : Code} {g : Gh} (X : Cx p l e R s m args below meth c g cX4_facesOf 2 RX4 2) (hr : meth.sig.returnType = (some (.int))) (v1 : Int32) (M : Mem) : J p l e R s m args below meth c g 2 (QfI below args s g) (pi_X4_facesOf_e v1 M) M 0 [(0, .ref (gA g 49)), (1, .int v1)] [] := by
  unfold pi_X4_facesOf_e
  refine j_aload_n (i := 0) X dX4_facesOf_0 rfl rfl ?_
  refine j_iload_n (i := 1) X dX4_facesOf_1 rfl rfl ?_
  refine j_iconst (v := 1) X dX4_facesOf_2 rfl ?_
  refine k_cVI (As := [.int v1, .int 1]) (rest := []) (by decide) (cf_md _) rfl X (ct_X4_hillIs l g v1 1 M) wl_X4_108 rfl rfl (by decide) (Nat.le_of_ble_eq_true rfl) dX4_facesOf_3 (fun r_2 M_1 => ?_)
  refine j_aload_n (i := 0) X dX4_facesOf_6 rfl rfl ?_
  refine j_get_md 5 X (by decide) wq_382 rfl dX4_facesOf_7 ?_
  refine j_aload_n (i := 0) X dX4_facesOf_10 rfl rfl ?_
  refine j_iload_n (i := 1) X dX4_facesOf_11 rfl rfl ?_
  refine j_iconst (v := 3) X dX4_facesOf_12 rfl ?_
  refine k_cVI (As := [.int v1, .int 3]) (rest := [.ref (gA g 54), .int r_2]) (by decide) (cf_md _) rfl X (ct_X4_hillIs l g v1 3 M_1) wl_X4_108 rfl rfl (by decide) (Nat.le_of_ble_eq_true rfl) dX4_facesOf_13 (fun r_4 M_3 => ?_)
  refine j_iald X ia_54 dX4_facesOf_16 (fun h_5 => ?_)
  refine j_iadd X dX4_facesOf_17 ?_
  refine k_cSI (As := [.int (r_2 + (M_3 54 r_4.toNatClampNeg))]) (rest := []) X (ct_X4_by12 l g (r_2 + (M_3 54 r_4.toNatClampNeg)) M_3) wl_X4_111 rfl rfl (by decide) (Nat.le_of_ble_eq_true rfl) dX4_facesOf_18 (fun r_7 M_6 => ?_)
  exact j_iret X hr dX4_facesOf_21
def mi_X4_facesOf (v1 : Int32) (M : Mem) : Option (Int32 × Mem) := pi_X4_facesOf_e v1 M
theorem ct_X4_facesOf (l : Launch) (g : Gh) (v1 : Int32) (M : Mem) : CtI l g yX4_facesOf cX4_facesOf 2 (some (.int)) 2 [.ref (gA g 49), .int v1] M (mi_X4_facesOf v1 M) := ctI_of (own := RX4) (L := [(0, .ref (gA g 49)), (1, .int v1)]) (by decide +kernel) rfl (Nat.le_of_ble_eq_true rfl) rfl (fun p e s m args below meth c X hr => pj_X4_facesOf_e X hr v1  M)

def pi_X4_meeting_4 (v1 : Int32) (rc4 : Int32 × Int32 × Mem → Option (Int32 × Mem)) (v2 : Int32) (v3 : Int32) (M : Mem) : Option (Int32 × Mem) := gd (inb 1 62) <| if (M 50 (1 : Int32).toNatClampNeg) ≤ v3 then (some (v2, M)) else (if v3 = v1 then (bI (v2 ||| 0) fun v2_2 => bI (v3 + 1) fun v3_3 => rc4 (v2_2, v3_3, M)) else (bd (mi_X4_facesOf v1 M) fun r_5 M_4 => bd (mi_X4_hillIs v3 1 M_4) fun r_7 M_6 => if r_5 = r_7 then (bd (mi_X4_facesOf v3 M_6) fun r_9 M_8 => bd (mi_X4_hillIs v1 1 M_8) fun r_11 M_10 => if r_9 = r_11 then (bI (v2 ||| (1 <<< (v3 &&& 31))) fun v2_12 => bI (v3 + 1) fun v3_13 => rc4 (v2_12, v3_13, M_10)) else (bI (v2 ||| 0) fun v2_14 => bI (v3 + 1) fun v3_15 => rc4 (v2_14, v3_15, M_10))) else (bI (v2 ||| 0) fun v2_16 => bI (v3 + 1) fun v3_17 => rc4 (v2_16, v3_17, M_6))))
set_option maxRecDepth 100000 in
set_option maxHeartbeats 4000000 in
theorem pj_X4_meeting_4 {p : Program} {l : Launch} {e : Env} {R : Room} {s : State} {m : MethodId} {args : Array Value} {below : List Frame} {meth : Method} {c : Code} {g : Gh} (X : Cx p l e R s m args below meth c g cX4_meeting 4 RX4 3) (hr : meth.sig.returnType = (some (.int))) (v1 : Int32) (rc4 : Int32 × Int32 × Mem → Option (Int32 × Mem)) (hc4 : ∀ x, J p l e R s m args below meth c g 4 (QfI below args s g) (rc4 x) x.2.2 4 [(0, .ref (gA g 49)), (1, .int v1), (2, .int x.1), (3, .int x.2.1)] []) (v2 : Int32) (v3 : Int32) (M : Mem) : J p l e R s m args below meth c g 4 (QfI below args s g) (pi_X4_meeting_4 v1 rc4 v2 v3 M) M 4 [(0, .ref (gA g 49)), (1, .int v1), (2, .int v2), (3, .int v3)] [] := by
  unfold pi_X4_meeting_4
  refine j_iload_n (i := 3) X dX4_meeting_4 rfl rfl ?_
  refine j_aload_n (i := 0) X dX4_meeting_5 rfl rfl ?_
  refine j_get_md 0 X (by decide) wq_346 rfl dX4_meeting_6 ?_
  refine j_iconst (v := 1) X dX4_meeting_9 rfl ?_
  refine j_iald X ia_50 dX4_meeting_10 (fun h_1 => ?_)
  refine j_icmp_ge (tgt := 63) X dX4_meeting_11 (by decide) ?_ ?_
  · refine j_iload_n (i := 2) X dX4_meeting_63 rfl rfl ?_
    exact j_iret X hr dX4_meeting_64
  · refine j_iload_n (i := 2) X dX4_meeting_14 rfl rfl ?_
    refine j_iload_n (i := 3) X dX4_meeting_15 rfl rfl ?_
    refine j_iload_n (i := 1) X dX4_meeting_16 rfl rfl ?_
    refine j_icmp_eq (tgt := 54) X dX4_meeting_17 (by decide) ?_ ?_
    · refine j_iconst (v := 0) X dX4_meeting_54 rfl ?_
      refine j_ior X dX4_meeting_55 ?_
      refine j_bI (fun v2_2 => ?_)
      refine j_istore_n (i := 2) (Lq := [(0, .ref (gA g 49)), (1, .int v1), (2, .int v2_2), (3, .int v3)]) X dX4_meeting_56 rfl (by decide) rfl ?_
      refine j_iincB (i := 3) (y := v3 + 1) (Lf := fun v3_3 => [(0, .ref (gA g 49)), (1, .int v1), (2, .int v2_2), (3, .int v3_3)]) X dX4_meeting_57 rfl rfl (by decide) (fun _ => rfl) (fun v3_3 => ?_)
      refine j_goto (tgt := 4) X dX4_meeting_60 (by decide) ?_
      exact hc4 (v2_2, v3_3, M)
    · refine j_aload_n (i := 0) X dX4_meeting_20 rfl rfl ?_
      refine j_iload_n (i := 1) X dX4_meeting_21 rfl rfl ?_
      refine k_cVI (As := [.int v1]) (rest := [.int v2]) (by decide) (cf_md _) rfl X (ct_X4_facesOf l g v1 M) wl_X4_114 rfl rfl (by decide) (Nat.le_of_ble_eq_true rfl) dX4_meeting_22 (fun r_5 M_4 => ?_)
      refine j_aload_n (i := 0) X dX4_meeting_25 rfl rfl ?_
      refine j_iload_n (i := 3) X dX4_meeting_26 rfl rfl ?_
      refine j_iconst (v := 1) X dX4_meeting_27 rfl ?_
      refine k_cVI (As := [.int v3, .int 1]) (rest := [.int r_5, .int v2]) (by decide) (cf_md _) rfl X (ct_X4_hillIs l g v3 1 M_4) wl_X4_108 rfl rfl (by decide) (Nat.le_of_ble_eq_true rfl) dX4_meeting_28 (fun r_7 M_6 => ?_)
      refine j_icmp_ne (tgt := 54) X dX4_meeting_31 (by decide) ?_ ?_
      · refine j_aload_n (i := 0) X dX4_meeting_34 rfl rfl ?_
        refine j_iload_n (i := 3) X dX4_meeting_35 rfl rfl ?_
        refine k_cVI (As := [.int v3]) (rest := [.int v2]) (by decide) (cf_md _) rfl X (ct_X4_facesOf l g v3 M_6) wl_X4_114 rfl rfl (by decide) (Nat.le_of_ble_eq_true rfl) dX4_meeting_36 (fun r_9 M_8 => ?_)
        refine j_aload_n (i := 0) X dX4_meeting_39 rfl rfl ?_
        refine j_iload_n (i := 1) X dX4_meeting_40 rfl rfl ?_
        refine j_iconst (v := 1) X dX4_meeting_41 rfl ?_
        refine k_cVI (As := [.int v1, .int 1]) (rest := [.int r_9, .int v2]) (by decide) (cf_md _) rfl X (ct_X4_hillIs l g v1 1 M_8) wl_X4_108 rfl rfl (by decide) (Nat.le_of_ble_eq_true rfl) dX4_meeting_42 (fun r_11 M_10 => ?_)
        refine j_icmp_ne (tgt := 54) X dX4_meeting_45 (by decide) ?_ ?_
        · refine j_iconst (v := 1) X dX4_meeting_48 rfl ?_
          refine j_iload_n (i := 3) X dX4_meeting_49 rfl rfl ?_
          refine j_ishl X dX4_meeting_50 ?_
          refine j_goto (tgt := 55) X dX4_meeting_51 (by decide) ?_
          refine j_ior X dX4_meeting_55 ?_
          refine j_bI (fun v2_12 => ?_)
          refine j_istore_n (i := 2) (Lq := [(0, .ref (gA g 49)), (1, .int v1), (2, .int v2_12), (3, .int v3)]) X dX4_meeting_56 rfl (by decide) rfl ?_
          refine j_iincB (i := 3) (y := v3 + 1) (Lf := fun v3_13 => [(0, .ref (gA g 49)), (1, .int v1), (2, .int v2_12), (3, .int v3_13)]) X dX4_meeting_57 rfl rfl (by decide) (fun _ => rfl) (fun v3_13 => ?_)
          refine j_goto (tgt := 4) X dX4_meeting_60 (by decide) ?_
          exact hc4 (v2_12, v3_13, M_10)
        · refine j_iconst (v := 0) X dX4_meeting_54 rfl ?_
          refine j_ior X dX4_meeting_55 ?_
          refine j_bI (fun v2_14 => ?_)
          refine j_istore_n (i := 2) (Lq := [(0, .ref (gA g 49)), (1, .int v1), (2, .int v2_14), (3, .int v3)]) X dX4_meeting_56 rfl (by decide) rfl ?_
          refine j_iincB (i := 3) (y := v3 + 1) (Lf := fun v3_15 => [(0, .ref (gA g 49)), (1, .int v1), (2, .int v2_14), (3, .int v3_15)]) X dX4_meeting_57 rfl rfl (by decide) (fun _ => rfl) (fun v3_15 => ?_)
          refine j_goto (tgt := 4) X dX4_meeting_60 (by decide) ?_
          exact hc4 (v2_14, v3_15, M_10)
      · refine j_iconst (v := 0) X dX4_meeting_54 rfl ?_
        refine j_ior X dX4_meeting_55 ?_
        refine j_bI (fun v2_16 => ?_)
        refine j_istore_n (i := 2) (Lq := [(0, .ref (gA g 49)), (1, .int v1), (2, .int v2_16), (3, .int v3)]) X dX4_meeting_56 rfl (by decide) rfl ?_
        refine j_iincB (i := 3) (y := v3 + 1) (Lf := fun v3_17 => [(0, .ref (gA g 49)), (1, .int v1), (2, .int v2_16), (3, .int v3_17)]) X dX4_meeting_57 rfl rfl (by decide) (fun _ => rfl) (fun v3_17 => ?_)
        refine j_goto (tgt := 4) X dX4_meeting_60 (by decide) ?_
        exact hc4 (v2_16, v3_17, M_6)
def pi_X4_meeting_e (v1 : Int32) (M : Mem) : Option (Int32 × Mem) := lp (fun rc4 x => pi_X4_meeting_4 v1 rc4 x.1 x.2.1 x.2.2) FU (0, 0, M)
set_option maxRecDepth 100000 in
set_option maxHeartbeats 4000000 in
theorem pj_X4_meeting_e {p : Program} {l : Launch} {e : Env} {R : Room} {s : State} {m : MethodId} {args : Array Value} {below : List Frame} {meth : Method} {c : Code} {g : Gh} (X : Cx p l e R s m args below meth c g cX4_meeting 4 RX4 3) (hr : meth.sig.returnType = (some (.int))) (v1 : Int32) (M : Mem) : J p l e R s m args below meth c g 4 (QfI below args s g) (pi_X4_meeting_e v1 M) M 0 [(0, .ref (gA g 49)), (1, .int v1)] [] := by
  unfold pi_X4_meeting_e
  refine j_iconst (v := 0) X dX4_meeting_0 rfl ?_
  refine j_istore_n (i := 2) (Lq := [(0, .ref (gA g 49)), (1, .int v1), (2, .int 0)]) X dX4_meeting_1 rfl (by decide) rfl ?_
  refine j_iconst (v := 0) X dX4_meeting_2 rfl ?_
  refine j_istore_n (i := 3) (Lq := [(0, .ref (gA g 49)), (1, .int v1), (2, .int 0), (3, .int 0)]) X dX4_meeting_3 rfl (by decide) rfl ?_
  exact j_lp (Lf := fun x => [(0, .ref (gA g 49)), (1, .int v1), (2, .int x.1), (3, .int x.2.1)]) (Mf := fun x => x.2.2) (fun rc4 hc4 x => pj_X4_meeting_4 X hr v1 rc4 hc4 x.1 x.2.1 x.2.2) FU (0, 0, M)
def mi_X4_meeting (v1 : Int32) (M : Mem) : Option (Int32 × Mem) := pi_X4_meeting_e v1 M
theorem ct_X4_meeting (l : Launch) (g : Gh) (v1 : Int32) (M : Mem) : CtI l g yX4_meeting cX4_meeting 4 (some (.int)) 3 [.ref (gA g 49), .int v1] M (mi_X4_meeting v1 M) := ctI_of (own := RX4) (L := [(0, .ref (gA g 49)), (1, .int v1)]) (by decide +kernel) rfl (Nat.le_of_ble_eq_true rfl) rfl (fun p e s m args below meth c X hr => pj_X4_meeting_e X hr v1  M)
end
