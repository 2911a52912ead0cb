theorem dX0_init_0 : decode cX0_init 0 = .ok (.aload_n 0, 1) := by decide +kernel
theorem dX0_init_1 : decode cX0_init 1 = .ok (.invokespecial 3, 3) := by decide +kernel
theorem dX0_init_4 : decode cX0_init 4 = .ok (.aload_n 0, 1) := by decide +kernel
theorem dX0_init_5 : decode cX0_init 5 = .ok (.bipush 120, 2) := by decide +kernel
theorem dX0_init_7 : decode cX0_init 7 = .ok (.newarray .int, 2) := by decide +kernel
theorem dX0_init_9 : decode cX0_init 9 = .ok (.putfield 9, 3) := by decide +kernel
theorem dX0_init_12 : decode cX0_init 12 = .ok (.return_, 1) := by decide +kernel
theorem dX0_append_0 : decode cX0_append 0 = .ok (.aload_n 0, 1) := by decide +kernel
theorem dX0_append_1 : decode cX0_append 1 = .ok (.getfield 9, 3) := by decide +kernel
theorem dX0_append_4 : decode cX0_append 4 = .ok (.aload_n 0, 1) := by decide +kernel
theorem dX0_append_5 : decode cX0_append 5 = .ok (.getfield 15, 3) := by decide +kernel
theorem dX0_append_8 : decode cX0_append 8 = .ok (.iload_n 1, 1) := by decide +kernel
theorem dX0_append_9 : decode cX0_append 9 = .ok (.iastore, 1) := by decide +kernel
theorem dX0_append_10 : decode cX0_append 10 = .ok (.aload_n 0, 1) := by decide +kernel
theorem dX0_append_11 : decode cX0_append 11 = .ok (.dup, 1) := by decide +kernel
theorem dX0_append_12 : decode cX0_append 12 = .ok (.getfield 15, 3) := by decide +kernel
theorem dX0_append_15 : decode cX0_append 15 = .ok (.iconst 1, 1) := by decide +kernel
theorem dX0_append_16 : decode cX0_append 16 = .ok (.iadd, 1) := by decide +kernel
theorem dX0_append_17 : decode cX0_append 17 = .ok (.putfield 15, 3) := by decide +kernel
theorem dX0_append_20 : decode cX0_append 20 = .ok (.return_, 1) := by decide +kernel
theorem dX0_readInto_0 : decode cX0_readInto 0 = .ok (.aload_n 0, 1) := by decide +kernel
theorem dX0_readInto_1 : decode cX0_readInto 1 = .ok (.iconst 0, 1) := by decide +kernel
theorem dX0_readInto_2 : decode cX0_readInto 2 = .ok (.putfield 19, 3) := by decide +kernel
theorem dX0_readInto_5 : decode cX0_readInto 5 = .ok (.aload_n 0, 1) := by decide +kernel
theorem dX0_readInto_6 : decode cX0_readInto 6 = .ok (.invokevirtual 22, 3) := by decide +kernel
theorem dX0_readInto_9 : decode cX0_readInto 9 = .ok (.iconst 1, 1) := by decide +kernel
theorem dX0_readInto_10 : decode cX0_readInto 10 = .ok (.istore_n 2, 1) := by decide +kernel
theorem dX0_readInto_11 : decode cX0_readInto 11 = .ok (.iload_n 2, 1) := by decide +kernel
theorem dX0_readInto_12 : decode cX0_readInto 12 = .ok (.bipush 120, 2) := by decide +kernel
theorem dX0_readInto_14 : decode cX0_readInto 14 = .ok (.if_icmp .gt 52, 3) := by decide +kernel
theorem dX0_readInto_17 : decode cX0_readInto 17 = .ok (.aload_n 0, 1) := by decide +kernel
theorem dX0_readInto_18 : decode cX0_readInto 18 = .ok (.aload_n 1, 1) := by decide +kernel
theorem dX0_readInto_19 : decode cX0_readInto 19 = .ok (.invokevirtual 25, 3) := by decide +kernel
theorem dX0_readInto_22 : decode cX0_readInto 22 = .ok (.ifCond .ne 10, 3) := by decide +kernel
theorem dX0_readInto_25 : decode cX0_readInto 25 = .ok (.iconst (-1), 1) := by decide +kernel
theorem dX0_readInto_26 : decode cX0_readInto 26 = .ok (.aload_n 0, 1) := by decide +kernel
theorem dX0_readInto_27 : decode cX0_readInto 27 = .ok (.getfield 29, 3) := by decide +kernel
theorem dX0_readInto_30 : decode cX0_readInto 30 = .ok (.isub, 1) := by decide +kernel
theorem dX0_readInto_31 : decode cX0_readInto 31 = .ok (.ireturn, 1) := by decide +kernel
theorem dX0_readInto_32 : decode cX0_readInto 32 = .ok (.aload_n 0, 1) := by decide +kernel
theorem dX0_readInto_33 : decode cX0_readInto 33 = .ok (.getfield 32, 3) := by decide +kernel
theorem dX0_readInto_36 : decode cX0_readInto 36 = .ok (.ifCond .ne 5, 3) := by decide +kernel
theorem dX0_readInto_39 : decode cX0_readInto 39 = .ok (.iload_n 2, 1) := by decide +kernel
theorem dX0_readInto_40 : decode cX0_readInto 40 = .ok (.ireturn, 1) := by decide +kernel
theorem dX0_readInto_41 : decode cX0_readInto 41 = .ok (.aload_n 0, 1) := by decide +kernel
theorem dX0_readInto_42 : decode cX0_readInto 42 = .ok (.getfield 32, 3) := by decide +kernel
theorem dX0_readInto_45 : decode cX0_readInto 45 = .ok (.iconst 3, 1) := by decide +kernel
theorem dX0_readInto_46 : decode cX0_readInto 46 = .ok (.if_icmp .eq 10, 3) := by decide +kernel
theorem dX0_readInto_49 : decode cX0_readInto 49 = .ok (.iconst (-1), 1) := by decide +kernel
theorem dX0_readInto_50 : decode cX0_readInto 50 = .ok (.aload_n 0, 1) := by decide +kernel
theorem dX0_readInto_51 : decode cX0_readInto 51 = .ok (.getfield 29, 3) := by decide +kernel
theorem dX0_readInto_54 : decode cX0_readInto 54 = .ok (.isub, 1) := by decide +kernel
theorem dX0_readInto_55 : decode cX0_readInto 55 = .ok (.ireturn, 1) := by decide +kernel
theorem dX0_readInto_56 : decode cX0_readInto 56 = .ok (.aload_n 0, 1) := by decide +kernel
theorem dX0_readInto_57 : decode cX0_readInto 57 = .ok (.invokevirtual 22, 3) := by decide +kernel
theorem dX0_readInto_60 : decode cX0_readInto 60 = .ok (.iinc 2 1, 3) := by decide +kernel
theorem dX0_readInto_63 : decode cX0_readInto 63 = .ok (.goto (-52), 3) := by decide +kernel
theorem dX0_readInto_66 : decode cX0_readInto 66 = .ok (.iconst (-1), 1) := by decide +kernel
theorem dX0_readInto_67 : decode cX0_readInto 67 = .ok (.aload_n 0, 1) := by decide +kernel
theorem dX0_readInto_68 : decode cX0_readInto 68 = .ok (.getfield 29, 3) := by decide +kernel
theorem dX0_readInto_71 : decode cX0_readInto 71 = .ok (.isub, 1) := by decide +kernel
theorem dX0_readInto_72 : decode cX0_readInto 72 = .ok (.ireturn, 1) := by decide +kernel
theorem dX0_readItem_0 : decode cX0_readItem 0 = .ok (.aload_n 0, 1) := by decide +kernel
theorem dX0_readItem_1 : decode cX0_readItem 1 = .ok (.ldc 35, 2) := by decide +kernel
theorem dX0_readItem_3 : decode cX0_readItem 3 = .ok (.invokevirtual 37, 3) := by decide +kernel
theorem dX0_readItem_6 : decode cX0_readItem 6 = .ok (.ifCond .eq 32, 3) := by decide +kernel
theorem dX0_readItem_9 : decode cX0_readItem 9 = .ok (.aload_n 0, 1) := by decide +kernel
theorem dX0_readItem_10 : decode cX0_readItem 10 = .ok (.invokevirtual 22, 3) := by decide +kernel
theorem dX0_readItem_13 : decode cX0_readItem 13 = .ok (.aload_n 0, 1) := by decide +kernel
theorem dX0_readItem_14 : decode cX0_readItem 14 = .ok (.bipush 9, 2) := by decide +kernel
theorem dX0_readItem_16 : decode cX0_readItem 16 = .ok (.invokevirtual 41, 3) := by decide +kernel
theorem dX0_readItem_19 : decode cX0_readItem 19 = .ok (.ifCond .ne 5, 3) := by decide +kernel
theorem dX0_readItem_22 : decode cX0_readItem 22 = .ok (.iconst 0, 1) := by decide +kernel
theorem dX0_readItem_23 : decode cX0_readItem 23 = .ok (.ireturn, 1) := by decide +kernel
theorem dX0_readItem_24 : decode cX0_readItem 24 = .ok (.aload_n 1, 1) := by decide +kernel
theorem dX0_readItem_25 : decode cX0_readItem 25 = .ok (.aload_n 0, 1) := by decide +kernel
theorem dX0_readItem_26 : decode cX0_readItem 26 = .ok (.getfield 45, 3) := by decide +kernel
theorem dX0_readItem_29 : decode cX0_readItem 29 = .ok (.putfield 48, 3) := by decide +kernel
theorem dX0_readItem_32 : decode cX0_readItem 32 = .ok (.aload_n 0, 1) := by decide +kernel
theorem dX0_readItem_33 : decode cX0_readItem 33 = .ok (.invokevirtual 22, 3) := by decide +kernel
theorem dX0_readItem_36 : decode cX0_readItem 36 = .ok (.iconst 1, 1) := by decide +kernel
theorem dX0_readItem_37 : decode cX0_readItem 37 = .ok (.ireturn, 1) := by decide +kernel
theorem dX0_readItem_38 : decode cX0_readItem 38 = .ok (.aload_n 0, 1) := by decide +kernel
theorem dX0_readItem_39 : decode cX0_readItem 39 = .ok (.invokevirtual 53, 3) := by decide +kernel
theorem dX0_readItem_42 : decode cX0_readItem 42 = .ok (.istore_n 2, 1) := by decide +kernel
theorem dX0_readItem_43 : decode cX0_readItem 43 = .ok (.iload_n 2, 1) := by decide +kernel
theorem dX0_readItem_44 : decode cX0_readItem 44 = .ok (.ifCond .lt 10, 3) := by decide +kernel
theorem dX0_readItem_47 : decode cX0_readItem 47 = .ok (.aload_n 1, 1) := by decide +kernel
theorem dX0_readItem_48 : decode cX0_readItem 48 = .ok (.invokevirtual 57, 3) := by decide +kernel
theorem dX0_readItem_51 : decode cX0_readItem 51 = .ok (.ifCond .eq 5, 3) := by decide +kernel
theorem dX0_readItem_54 : decode cX0_readItem 54 = .ok (.iconst 0, 1) := by decide +kernel
theorem dX0_readItem_55 : decode cX0_readItem 55 = .ok (.ireturn, 1) := by decide +kernel
theorem dX0_readItem_56 : decode cX0_readItem 56 = .ok (.aload_n 1, 1) := by decide +kernel
theorem dX0_readItem_57 : decode cX0_readItem 57 = .ok (.iload_n 2, 1) := by decide +kernel
theorem dX0_readItem_58 : decode cX0_readItem 58 = .ok (.iconst 0, 1) := by decide +kernel
theorem dX0_readItem_59 : decode cX0_readItem 59 = .ok (.invokevirtual 61, 3) := by decide +kernel
theorem dX0_readItem_62 : decode cX0_readItem 62 = .ok (.istore_n 3, 1) := by decide +kernel
theorem dX0_readItem_63 : decode cX0_readItem 63 = .ok (.aload_n 0, 1) := by decide +kernel
theorem dX0_readItem_64 : decode cX0_readItem 64 = .ok (.invokevirtual 22, 3) := by decide +kernel
theorem dX0_readItem_67 : decode cX0_readItem 67 = .ok (.aload_n 0, 1) := by decide +kernel
theorem dX0_readItem_68 : decode cX0_readItem 68 = .ok (.aload_n 1, 1) := by decide +kernel
theorem dX0_readItem_69 : decode cX0_readItem 69 = .ok (.iload_n 3, 1) := by decide +kernel
theorem dX0_readItem_70 : decode cX0_readItem 70 = .ok (.iconst 1, 1) := by decide +kernel
theorem dX0_readItem_71 : decode cX0_readItem 71 = .ok (.ldc 65, 2) := by decide +kernel
theorem dX0_readItem_73 : decode cX0_readItem 73 = .ok (.invokevirtual 67, 3) := by decide +kernel
theorem dX0_readItem_76 : decode cX0_readItem 76 = .ok (.ifCond .eq 43, 3) := by decide +kernel
theorem dX0_readItem_79 : decode cX0_readItem 79 = .ok (.aload_n 0, 1) := by decide +kernel
theorem dX0_readItem_80 : decode cX0_readItem 80 = .ok (.aload_n 1, 1) := by decide +kernel
theorem dX0_readItem_81 : decode cX0_readItem 81 = .ok (.iload_n 3, 1) := by decide +kernel
theorem dX0_readItem_82 : decode cX0_readItem 82 = .ok (.iconst 2, 1) := by decide +kernel
theorem dX0_readItem_83 : decode cX0_readItem 83 = .ok (.ldc 71, 2) := by decide +kernel
theorem dX0_readItem_85 : decode cX0_readItem 85 = .ok (.invokevirtual 67, 3) := by decide +kernel
theorem dX0_readItem_88 : decode cX0_readItem 88 = .ok (.ifCond .eq 31, 3) := by decide +kernel
theorem dX0_readItem_91 : decode cX0_readItem 91 = .ok (.aload_n 0, 1) := by decide +kernel
theorem dX0_readItem_92 : decode cX0_readItem 92 = .ok (.aload_n 1, 1) := by decide +kernel
theorem dX0_readItem_93 : decode cX0_readItem 93 = .ok (.iload_n 3, 1) := by decide +kernel
theorem dX0_readItem_94 : decode cX0_readItem 94 = .ok (.iconst 3, 1) := by decide +kernel
theorem dX0_readItem_95 : decode cX0_readItem 95 = .ok (.ldc 73, 2) := by decide +kernel
theorem dX0_readItem_97 : decode cX0_readItem 97 = .ok (.invokevirtual 67, 3) := by decide +kernel
theorem dX0_readItem_100 : decode cX0_readItem 100 = .ok (.ifCond .eq 19, 3) := by decide +kernel
theorem dX0_readItem_103 : decode cX0_readItem 103 = .ok (.aload_n 0, 1) := by decide +kernel
theorem dX0_readItem_104 : decode cX0_readItem 104 = .ok (.aload_n 1, 1) := by decide +kernel
theorem dX0_readItem_105 : decode cX0_readItem 105 = .ok (.iload_n 3, 1) := by decide +kernel
theorem dX0_readItem_106 : decode cX0_readItem 106 = .ok (.iconst 4, 1) := by decide +kernel
theorem dX0_readItem_107 : decode cX0_readItem 107 = .ok (.ldc 75, 2) := by decide +kernel
theorem dX0_readItem_109 : decode cX0_readItem 109 = .ok (.invokevirtual 67, 3) := by decide +kernel
theorem dX0_readItem_112 : decode cX0_readItem 112 = .ok (.ifCond .eq 7, 3) := by decide +kernel
theorem dX0_readItem_115 : decode cX0_readItem 115 = .ok (.iconst 1, 1) := by decide +kernel
theorem dX0_readItem_116 : decode cX0_readItem 116 = .ok (.goto 4, 3) := by decide +kernel
theorem dX0_readItem_119 : decode cX0_readItem 119 = .ok (.iconst 0, 1) := by decide +kernel
theorem dX0_readItem_120 : decode cX0_readItem 120 = .ok (.ireturn, 1) := by decide +kernel
theorem dX0_readTrait_0 : decode cX0_readTrait 0 = .ok (.aload_n 0, 1) := by decide +kernel
theorem dX0_readTrait_1 : decode cX0_readTrait 1 = .ok (.aload 4, 2) := by decide +kernel
theorem dX0_readTrait_3 : decode cX0_readTrait 3 = .ok (.invokevirtual 37, 3) := by decide +kernel
theorem dX0_readTrait_6 : decode cX0_readTrait 6 = .ok (.ifCond .ne 5, 3) := by decide +kernel
theorem dX0_readTrait_9 : decode cX0_readTrait 9 = .ok (.iconst 1, 1) := by decide +kernel
theorem dX0_readTrait_10 : decode cX0_readTrait 10 = .ok (.ireturn, 1) := by decide +kernel
theorem dX0_readTrait_11 : decode cX0_readTrait 11 = .ok (.aload_n 0, 1) := by decide +kernel
theorem dX0_readTrait_12 : decode cX0_readTrait 12 = .ok (.invokevirtual 22, 3) := by decide +kernel
theorem dX0_readTrait_15 : decode cX0_readTrait 15 = .ok (.iload_n 3, 1) := by decide +kernel
theorem dX0_readTrait_16 : decode cX0_readTrait 16 = .ok (.iconst 2, 1) := by decide +kernel
theorem dX0_readTrait_17 : decode cX0_readTrait 17 = .ok (.if_icmp .ne 15, 3) := by decide +kernel
theorem dX0_readTrait_20 : decode cX0_readTrait 20 = .ok (.aload_n 0, 1) := by decide +kernel
theorem dX0_readTrait_21 : decode cX0_readTrait 21 = .ok (.getfield 32, 3) := by decide +kernel
theorem dX0_readTrait_24 : decode cX0_readTrait 24 = .ok (.iconst 4, 1) := by decide +kernel
theorem dX0_readTrait_25 : decode cX0_readTrait 25 = .ok (.if_icmp .ne 7, 3) := by decide +kernel
theorem dX0_readTrait_28 : decode cX0_readTrait 28 = .ok (.iconst 1, 1) := by decide +kernel
theorem dX0_readTrait_29 : decode cX0_readTrait 29 = .ok (.goto 4, 3) := by decide +kernel
theorem dX0_readTrait_32 : decode cX0_readTrait 32 = .ok (.iconst 0, 1) := by decide +kernel
theorem dX0_readTrait_33 : decode cX0_readTrait 33 = .ok (.istore 5, 2) := by decide +kernel
theorem dX0_readTrait_35 : decode cX0_readTrait 35 = .ok (.iload 5, 2) := by decide +kernel
theorem dX0_readTrait_37 : decode cX0_readTrait 37 = .ok (.ifCond .eq 7, 3) := by decide +kernel
theorem dX0_readTrait_40 : decode cX0_readTrait 40 = .ok (.aload_n 0, 1) := by decide +kernel
theorem dX0_readTrait_41 : decode cX0_readTrait 41 = .ok (.invokevirtual 22, 3) := by decide +kernel
theorem dX0_readTrait_44 : decode cX0_readTrait 44 = .ok (.aload_n 0, 1) := by decide +kernel
theorem dX0_readTrait_45 : decode cX0_readTrait 45 = .ok (.iload_n 3, 1) := by decide +kernel
theorem dX0_readTrait_46 : decode cX0_readTrait 46 = .ok (.invokestatic 77, 3) := by decide +kernel
theorem dX0_readTrait_49 : decode cX0_readTrait 49 = .ok (.invokevirtual 41, 3) := by decide +kernel
theorem dX0_readTrait_52 : decode cX0_readTrait 52 = .ok (.ifCond .ne 5, 3) := by decide +kernel
theorem dX0_readTrait_55 : decode cX0_readTrait 55 = .ok (.iconst 0, 1) := by decide +kernel
theorem dX0_readTrait_56 : decode cX0_readTrait 56 = .ok (.ireturn, 1) := by decide +kernel
theorem dX0_readTrait_57 : decode cX0_readTrait 57 = .ok (.aload_n 1, 1) := by decide +kernel
theorem dX0_readTrait_58 : decode cX0_readTrait 58 = .ok (.iload_n 2, 1) := by decide +kernel
theorem dX0_readTrait_59 : decode cX0_readTrait 59 = .ok (.iload_n 3, 1) := by decide +kernel
theorem dX0_readTrait_60 : decode cX0_readTrait 60 = .ok (.iload 5, 2) := by decide +kernel
theorem dX0_readTrait_62 : decode cX0_readTrait 62 = .ok (.ifCond .eq 11, 3) := by decide +kernel
theorem dX0_readTrait_65 : decode cX0_readTrait 65 = .ok (.aload_n 0, 1) := by decide +kernel
theorem dX0_readTrait_66 : decode cX0_readTrait 66 = .ok (.getfield 45, 3) := by decide +kernel
theorem dX0_readTrait_69 : decode cX0_readTrait 69 = .ok (.ineg, 1) := by decide +kernel
theorem dX0_readTrait_70 : decode cX0_readTrait 70 = .ok (.goto 7, 3) := by decide +kernel
theorem dX0_readTrait_73 : decode cX0_readTrait 73 = .ok (.aload_n 0, 1) := by decide +kernel
theorem dX0_readTrait_74 : decode cX0_readTrait 74 = .ok (.getfield 45, 3) := by decide +kernel
theorem dX0_readTrait_77 : decode cX0_readTrait 77 = .ok (.invokevirtual 81, 3) := by decide +kernel
theorem dX0_readTrait_80 : decode cX0_readTrait 80 = .ok (.aload_n 0, 1) := by decide +kernel
theorem dX0_readTrait_81 : decode cX0_readTrait 81 = .ok (.invokevirtual 22, 3) := by decide +kernel
theorem dX0_readTrait_84 : decode cX0_readTrait 84 = .ok (.iconst 1, 1) := by decide +kernel
theorem dX0_readTrait_85 : decode cX0_readTrait 85 = .ok (.ireturn, 1) := by decide +kernel
theorem dX0_isNumberTo_0 : decode cX0_isNumberTo 0 = .ok (.aload_n 0, 1) := by decide +kernel
theorem dX0_isNumberTo_1 : decode cX0_isNumberTo 1 = .ok (.getfield 32, 3) := by decide +kernel
theorem dX0_isNumberTo_4 : decode cX0_isNumberTo 4 = .ok (.iconst 2, 1) := by decide +kernel
theorem dX0_isNumberTo_5 : decode cX0_isNumberTo 5 = .ok (.if_icmp .ne 15, 3) := by decide +kernel
theorem dX0_isNumberTo_8 : decode cX0_isNumberTo 8 = .ok (.aload_n 0, 1) := by decide +kernel
theorem dX0_isNumberTo_9 : decode cX0_isNumberTo 9 = .ok (.getfield 45, 3) := by decide +kernel
theorem dX0_isNumberTo_12 : decode cX0_isNumberTo 12 = .ok (.iload_n 1, 1) := by decide +kernel
theorem dX0_isNumberTo_13 : decode cX0_isNumberTo 13 = .ok (.if_icmp .gt 7, 3) := by decide +kernel
theorem dX0_isNumberTo_16 : decode cX0_isNumberTo 16 = .ok (.iconst 1, 1) := by decide +kernel
theorem dX0_isNumberTo_17 : decode cX0_isNumberTo 17 = .ok (.goto 4, 3) := by decide +kernel
theorem dX0_isNumberTo_20 : decode cX0_isNumberTo 20 = .ok (.iconst 0, 1) := by decide +kernel
theorem dX0_isNumberTo_21 : decode cX0_isNumberTo 21 = .ok (.ireturn, 1) := by decide +kernel
theorem dX0_kindTold_0 : decode cX0_kindTold 0 = .ok (.iconst 0, 1) := by decide +kernel
theorem dX0_kindTold_1 : decode cX0_kindTold 1 = .ok (.istore_n 1, 1) := by decide +kernel
theorem dX0_kindTold_2 : decode cX0_kindTold 2 = .ok (.iload_n 1, 1) := by decide +kernel
theorem dX0_kindTold_3 : decode cX0_kindTold 3 = .ok (.bipush 7, 2) := by decide +kernel
theorem dX0_kindTold_5 : decode cX0_kindTold 5 = .ok (.if_icmp .ge 22, 3) := by decide +kernel
theorem dX0_kindTold_8 : decode cX0_kindTold 8 = .ok (.aload_n 0, 1) := by decide +kernel
theorem dX0_kindTold_9 : decode cX0_kindTold 9 = .ok (.iload_n 1, 1) := by decide +kernel
theorem dX0_kindTold_10 : decode cX0_kindTold 10 = .ok (.invokestatic 85, 3) := by decide +kernel
theorem dX0_kindTold_13 : decode cX0_kindTold 13 = .ok (.invokevirtual 37, 3) := by decide +kernel
theorem dX0_kindTold_16 : decode cX0_kindTold 16 = .ok (.ifCond .eq 5, 3) := by decide +kernel
theorem dX0_kindTold_19 : decode cX0_kindTold 19 = .ok (.iload_n 1, 1) := by decide +kernel
theorem dX0_kindTold_20 : decode cX0_kindTold 20 = .ok (.ireturn, 1) := by decide +kernel
theorem dX0_kindTold_21 : decode cX0_kindTold 21 = .ok (.iinc 1 1, 3) := by decide +kernel
theorem dX0_kindTold_24 : decode cX0_kindTold 24 = .ok (.goto (-22), 3) := by decide +kernel
theorem dX0_kindTold_27 : decode cX0_kindTold 27 = .ok (.iconst (-1), 1) := by decide +kernel
theorem dX0_kindTold_28 : decode cX0_kindTold 28 = .ok (.ireturn, 1) := by decide +kernel
theorem dX0_wordOf_0 : decode cX0_wordOf 0 = .ok (.iload_n 0, 1) := by decide +kernel
theorem dX0_wordOf_1 : decode cX0_wordOf 1 = .ok (.tableswitch 57 0 5 #[39, 42, 45, 48, 51, 54], 39) := by decide +kernel
theorem dX0_wordOf_40 : decode cX0_wordOf 40 = .ok (.ldc 89, 2) := by decide +kernel
theorem dX0_wordOf_42 : decode cX0_wordOf 42 = .ok (.areturn, 1) := by decide +kernel
theorem dX0_wordOf_43 : decode cX0_wordOf 43 = .ok (.ldc 91, 2) := by decide +kernel
theorem dX0_wordOf_45 : decode cX0_wordOf 45 = .ok (.areturn, 1) := by decide +kernel
theorem dX0_wordOf_46 : decode cX0_wordOf 46 = .ok (.ldc 93, 2) := by decide +kernel
theorem dX0_wordOf_48 : decode cX0_wordOf 48 = .ok (.areturn, 1) := by decide +kernel
theorem dX0_wordOf_49 : decode cX0_wordOf 49 = .ok (.ldc 95, 2) := by decide +kernel
theorem dX0_wordOf_51 : decode cX0_wordOf 51 = .ok (.areturn, 1) := by decide +kernel
theorem dX0_wordOf_52 : decode cX0_wordOf 52 = .ok (.ldc 97, 2) := by decide +kernel
theorem dX0_wordOf_54 : decode cX0_wordOf 54 = .ok (.areturn, 1) := by decide +kernel
theorem dX0_wordOf_55 : decode cX0_wordOf 55 = .ok (.ldc 99, 2) := by decide +kernel
theorem dX0_wordOf_57 : decode cX0_wordOf 57 = .ok (.areturn, 1) := by decide +kernel
theorem dX0_wordOf_58 : decode cX0_wordOf 58 = .ok (.ldc 101, 2) := by decide +kernel
theorem dX0_wordOf_60 : decode cX0_wordOf 60 = .ok (.areturn, 1) := by decide +kernel
theorem dX0_isWord_0 : decode cX0_isWord 0 = .ok (.aload_n 0, 1) := by decide +kernel
theorem dX0_isWord_1 : decode cX0_isWord 1 = .ok (.getfield 32, 3) := by decide +kernel
theorem dX0_isWord_4 : decode cX0_isWord 4 = .ok (.iconst 1, 1) := by decide +kernel
theorem dX0_isWord_5 : decode cX0_isWord 5 = .ok (.if_icmp .ne 19, 3) := by decide +kernel
theorem dX0_isWord_8 : decode cX0_isWord 8 = .ok (.aload_n 0, 1) := by decide +kernel
theorem dX0_isWord_9 : decode cX0_isWord 9 = .ok (.getfield 19, 3) := by decide +kernel
theorem dX0_isWord_12 : decode cX0_isWord 12 = .ok (.aload_n 0, 1) := by decide +kernel
theorem dX0_isWord_13 : decode cX0_isWord 13 = .ok (.getfield 29, 3) := by decide +kernel
theorem dX0_isWord_16 : decode cX0_isWord 16 = .ok (.isub, 1) := by decide +kernel
theorem dX0_isWord_17 : decode cX0_isWord 17 = .ok (.aload_n 1, 1) := by decide +kernel
theorem dX0_isWord_18 : decode cX0_isWord 18 = .ok (.invokevirtual 103, 3) := by decide +kernel
theorem dX0_isWord_21 : decode cX0_isWord 21 = .ok (.if_icmp .eq 5, 3) := by decide +kernel
theorem dX0_isWord_24 : decode cX0_isWord 24 = .ok (.iconst 0, 1) := by decide +kernel
theorem dX0_isWord_25 : decode cX0_isWord 25 = .ok (.ireturn, 1) := by decide +kernel
theorem dX0_isWord_26 : decode cX0_isWord 26 = .ok (.iconst 0, 1) := by decide +kernel
theorem dX0_isWord_27 : decode cX0_isWord 27 = .ok (.istore_n 2, 1) := by decide +kernel
theorem dX0_isWord_28 : decode cX0_isWord 28 = .ok (.iload_n 2, 1) := by decide +kernel
theorem dX0_isWord_29 : decode cX0_isWord 29 = .ok (.aload_n 1, 1) := by decide +kernel
theorem dX0_isWord_30 : decode cX0_isWord 30 = .ok (.invokevirtual 103, 3) := by decide +kernel
theorem dX0_isWord_33 : decode cX0_isWord 33 = .ok (.if_icmp .ge 30, 3) := by decide +kernel
theorem dX0_isWord_36 : decode cX0_isWord 36 = .ok (.aload_n 0, 1) := by decide +kernel
theorem dX0_isWord_37 : decode cX0_isWord 37 = .ok (.getfield 9, 3) := by decide +kernel
theorem dX0_isWord_40 : decode cX0_isWord 40 = .ok (.aload_n 0, 1) := by decide +kernel
theorem dX0_isWord_41 : decode cX0_isWord 41 = .ok (.getfield 29, 3) := by decide +kernel
theorem dX0_isWord_44 : decode cX0_isWord 44 = .ok (.iload_n 2, 1) := by decide +kernel
theorem dX0_isWord_45 : decode cX0_isWord 45 = .ok (.iadd, 1) := by decide +kernel
theorem dX0_isWord_46 : decode cX0_isWord 46 = .ok (.iaload, 1) := by decide +kernel
theorem dX0_isWord_47 : decode cX0_isWord 47 = .ok (.aload_n 1, 1) := by decide +kernel
theorem dX0_isWord_48 : decode cX0_isWord 48 = .ok (.iload_n 2, 1) := by decide +kernel
theorem dX0_isWord_49 : decode cX0_isWord 49 = .ok (.invokevirtual 107, 3) := by decide +kernel
theorem dX0_isWord_52 : decode cX0_isWord 52 = .ok (.if_icmp .eq 5, 3) := by decide +kernel
theorem dX0_isWord_55 : decode cX0_isWord 55 = .ok (.iconst 0, 1) := by decide +kernel
theorem dX0_isWord_56 : decode cX0_isWord 56 = .ok (.ireturn, 1) := by decide +kernel
theorem dX0_isWord_57 : decode cX0_isWord 57 = .ok (.iinc 2 1, 3) := by decide +kernel
theorem dX0_isWord_60 : decode cX0_isWord 60 = .ok (.goto (-32), 3) := by decide +kernel
theorem dX0_isWord_63 : decode cX0_isWord 63 = .ok (.iconst 1, 1) := by decide +kernel
theorem dX0_isWord_64 : decode cX0_isWord 64 = .ok (.ireturn, 1) := by decide +kernel
theorem dX0_advance_0 : decode cX0_advance 0 = .ok (.aload_n 0, 1) := by decide +kernel
theorem dX0_advance_1 : decode cX0_advance 1 = .ok (.aload_n 0, 1) := by decide +kernel
theorem dX0_advance_2 : decode cX0_advance 2 = .ok (.getfield 19, 3) := by decide +kernel
theorem dX0_advance_5 : decode cX0_advance 5 = .ok (.putfield 29, 3) := by decide +kernel
theorem dX0_advance_8 : decode cX0_advance 8 = .ok (.aload_n 0, 1) := by decide +kernel
theorem dX0_advance_9 : decode cX0_advance 9 = .ok (.getfield 29, 3) := by decide +kernel
theorem dX0_advance_12 : decode cX0_advance 12 = .ok (.aload_n 0, 1) := by decide +kernel
theorem dX0_advance_13 : decode cX0_advance 13 = .ok (.getfield 15, 3) := by decide +kernel
theorem dX0_advance_16 : decode cX0_advance 16 = .ok (.if_icmp .ge 30, 3) := by decide +kernel
theorem dX0_advance_19 : decode cX0_advance 19 = .ok (.aload_n 0, 1) := by decide +kernel
theorem dX0_advance_20 : decode cX0_advance 20 = .ok (.getfield 9, 3) := by decide +kernel
theorem dX0_advance_23 : decode cX0_advance 23 = .ok (.aload_n 0, 1) := by decide +kernel
theorem dX0_advance_24 : decode cX0_advance 24 = .ok (.getfield 29, 3) := by decide +kernel
theorem dX0_advance_27 : decode cX0_advance 27 = .ok (.iaload, 1) := by decide +kernel
theorem dX0_advance_28 : decode cX0_advance 28 = .ok (.bipush 32, 2) := by decide +kernel
theorem dX0_advance_30 : decode cX0_advance 30 = .ok (.if_icmp .ne 16, 3) := by decide +kernel
theorem dX0_advance_33 : decode cX0_advance 33 = .ok (.aload_n 0, 1) := by decide +kernel
theorem dX0_advance_34 : decode cX0_advance 34 = .ok (.dup, 1) := by decide +kernel
theorem dX0_advance_35 : decode cX0_advance 35 = .ok (.getfield 29, 3) := by decide +kernel
theorem dX0_advance_38 : decode cX0_advance 38 = .ok (.iconst 1, 1) := by decide +kernel
theorem dX0_advance_39 : decode cX0_advance 39 = .ok (.iadd, 1) := by decide +kernel
theorem dX0_advance_40 : decode cX0_advance 40 = .ok (.putfield 29, 3) := by decide +kernel
theorem dX0_advance_43 : decode cX0_advance 43 = .ok (.goto (-35), 3) := by decide +kernel
theorem dX0_advance_46 : decode cX0_advance 46 = .ok (.aload_n 0, 1) := by decide +kernel
theorem dX0_advance_47 : decode cX0_advance 47 = .ok (.aload_n 0, 1) := by decide +kernel
theorem dX0_advance_48 : decode cX0_advance 48 = .ok (.getfield 29, 3) := by decide +kernel
theorem dX0_advance_51 : decode cX0_advance 51 = .ok (.putfield 19, 3) := by decide +kernel
theorem dX0_advance_54 : decode cX0_advance 54 = .ok (.aload_n 0, 1) := by decide +kernel
theorem dX0_advance_55 : decode cX0_advance 55 = .ok (.getfield 29, 3) := by decide +kernel
theorem dX0_advance_58 : decode cX0_advance 58 = .ok (.aload_n 0, 1) := by decide +kernel
theorem dX0_advance_59 : decode cX0_advance 59 = .ok (.getfield 15, 3) := by decide +kernel
theorem dX0_advance_62 : decode cX0_advance 62 = .ok (.if_icmp .lt 11, 3) := by decide +kernel
theorem dX0_advance_65 : decode cX0_advance 65 = .ok (.aload_n 0, 1) := by decide +kernel
theorem dX0_advance_66 : decode cX0_advance 66 = .ok (.iconst 0, 1) := by decide +kernel
theorem dX0_advance_67 : decode cX0_advance 67 = .ok (.putfield 32, 3) := by decide +kernel
theorem dX0_advance_70 : decode cX0_advance 70 = .ok (.goto 83, 3) := by decide +kernel
theorem dX0_advance_73 : decode cX0_advance 73 = .ok (.aload_n 0, 1) := by decide +kernel
theorem dX0_advance_74 : decode cX0_advance 74 = .ok (.getfield 9, 3) := by decide +kernel
theorem dX0_advance_77 : decode cX0_advance 77 = .ok (.aload_n 0, 1) := by decide +kernel
theorem dX0_advance_78 : decode cX0_advance 78 = .ok (.getfield 29, 3) := by decide +kernel
theorem dX0_advance_81 : decode cX0_advance 81 = .ok (.iaload, 1) := by decide +kernel
theorem dX0_advance_82 : decode cX0_advance 82 = .ok (.invokestatic 111, 3) := by decide +kernel
theorem dX0_advance_85 : decode cX0_advance 85 = .ok (.ifCond .eq 15, 3) := by decide +kernel
theorem dX0_advance_88 : decode cX0_advance 88 = .ok (.aload_n 0, 1) := by decide +kernel
theorem dX0_advance_89 : decode cX0_advance 89 = .ok (.iconst 1, 1) := by decide +kernel
theorem dX0_advance_90 : decode cX0_advance 90 = .ok (.putfield 32, 3) := by decide +kernel
theorem dX0_advance_93 : decode cX0_advance 93 = .ok (.aload_n 0, 1) := by decide +kernel
theorem dX0_advance_94 : decode cX0_advance 94 = .ok (.invokevirtual 114, 3) := by decide +kernel
theorem dX0_advance_97 : decode cX0_advance 97 = .ok (.goto 56, 3) := by decide +kernel
theorem dX0_advance_100 : decode cX0_advance 100 = .ok (.aload_n 0, 1) := by decide +kernel
theorem dX0_advance_101 : decode cX0_advance 101 = .ok (.getfield 9, 3) := by decide +kernel
theorem dX0_advance_104 : decode cX0_advance 104 = .ok (.aload_n 0, 1) := by decide +kernel
theorem dX0_advance_105 : decode cX0_advance 105 = .ok (.getfield 29, 3) := by decide +kernel
theorem dX0_advance_108 : decode cX0_advance 108 = .ok (.iaload, 1) := by decide +kernel
theorem dX0_advance_109 : decode cX0_advance 109 = .ok (.invokestatic 117, 3) := by decide +kernel
theorem dX0_advance_112 : decode cX0_advance 112 = .ok (.ifCond .eq 15, 3) := by decide +kernel
theorem dX0_advance_115 : decode cX0_advance 115 = .ok (.aload_n 0, 1) := by decide +kernel
theorem dX0_advance_116 : decode cX0_advance 116 = .ok (.iconst 2, 1) := by decide +kernel
theorem dX0_advance_117 : decode cX0_advance 117 = .ok (.putfield 32, 3) := by decide +kernel
theorem dX0_advance_120 : decode cX0_advance 120 = .ok (.aload_n 0, 1) := by decide +kernel
theorem dX0_advance_121 : decode cX0_advance 121 = .ok (.invokevirtual 120, 3) := by decide +kernel
theorem dX0_advance_124 : decode cX0_advance 124 = .ok (.goto 29, 3) := by decide +kernel
theorem dX0_advance_127 : decode cX0_advance 127 = .ok (.aload_n 0, 1) := by decide +kernel
theorem dX0_advance_128 : decode cX0_advance 128 = .ok (.aload_n 0, 1) := by decide +kernel
theorem dX0_advance_129 : decode cX0_advance 129 = .ok (.getfield 9, 3) := by decide +kernel
theorem dX0_advance_132 : decode cX0_advance 132 = .ok (.aload_n 0, 1) := by decide +kernel
theorem dX0_advance_133 : decode cX0_advance 133 = .ok (.getfield 29, 3) := by decide +kernel
theorem dX0_advance_136 : decode cX0_advance 136 = .ok (.iaload, 1) := by decide +kernel
theorem dX0_advance_137 : decode cX0_advance 137 = .ok (.invokestatic 123, 3) := by decide +kernel
theorem dX0_advance_140 : decode cX0_advance 140 = .ok (.putfield 32, 3) := by decide +kernel
theorem dX0_advance_143 : decode cX0_advance 143 = .ok (.aload_n 0, 1) := by decide +kernel
theorem dX0_advance_144 : decode cX0_advance 144 = .ok (.aload_n 0, 1) := by decide +kernel
theorem dX0_advance_145 : decode cX0_advance 145 = .ok (.getfield 29, 3) := by decide +kernel
theorem dX0_advance_148 : decode cX0_advance 148 = .ok (.iconst 1, 1) := by decide +kernel
theorem dX0_advance_149 : decode cX0_advance 149 = .ok (.iadd, 1) := by decide +kernel
theorem dX0_advance_150 : decode cX0_advance 150 = .ok (.putfield 19, 3) := by decide +kernel
theorem dX0_advance_153 : decode cX0_advance 153 = .ok (.return_, 1) := by decide +kernel
theorem dX0_takeLetters_0 : decode cX0_takeLetters 0 = .ok (.aload_n 0, 1) := by decide +kernel
theorem dX0_takeLetters_1 : decode cX0_takeLetters 1 = .ok (.getfield 19, 3) := by decide +kernel
theorem dX0_takeLetters_4 : decode cX0_takeLetters 4 = .ok (.aload_n 0, 1) := by decide +kernel
theorem dX0_takeLetters_5 : decode cX0_takeLetters 5 = .ok (.getfield 15, 3) := by decide +kernel
theorem dX0_takeLetters_8 : decode cX0_takeLetters 8 = .ok (.if_icmp .ge 31, 3) := by decide +kernel
theorem dX0_takeLetters_11 : decode cX0_takeLetters 11 = .ok (.aload_n 0, 1) := by decide +kernel
theorem dX0_takeLetters_12 : decode cX0_takeLetters 12 = .ok (.getfield 9, 3) := by decide +kernel
theorem dX0_takeLetters_15 : decode cX0_takeLetters 15 = .ok (.aload_n 0, 1) := by decide +kernel
theorem dX0_takeLetters_16 : decode cX0_takeLetters 16 = .ok (.getfield 19, 3) := by decide +kernel
theorem dX0_takeLetters_19 : decode cX0_takeLetters 19 = .ok (.iaload, 1) := by decide +kernel
theorem dX0_takeLetters_20 : decode cX0_takeLetters 20 = .ok (.invokestatic 111, 3) := by decide +kernel
theorem dX0_takeLetters_23 : decode cX0_takeLetters 23 = .ok (.ifCond .eq 16, 3) := by decide +kernel
theorem dX0_takeLetters_26 : decode cX0_takeLetters 26 = .ok (.aload_n 0, 1) := by decide +kernel
theorem dX0_takeLetters_27 : decode cX0_takeLetters 27 = .ok (.dup, 1) := by decide +kernel
theorem dX0_takeLetters_28 : decode cX0_takeLetters 28 = .ok (.getfield 19, 3) := by decide +kernel
theorem dX0_takeLetters_31 : decode cX0_takeLetters 31 = .ok (.iconst 1, 1) := by decide +kernel
theorem dX0_takeLetters_32 : decode cX0_takeLetters 32 = .ok (.iadd, 1) := by decide +kernel
theorem dX0_takeLetters_33 : decode cX0_takeLetters 33 = .ok (.putfield 19, 3) := by decide +kernel
theorem dX0_takeLetters_36 : decode cX0_takeLetters 36 = .ok (.goto (-36), 3) := by decide +kernel
theorem dX0_takeLetters_39 : decode cX0_takeLetters 39 = .ok (.return_, 1) := by decide +kernel
theorem dX0_takeDigits_0 : decode cX0_takeDigits 0 = .ok (.aload_n 0, 1) := by decide +kernel
theorem dX0_takeDigits_1 : decode cX0_takeDigits 1 = .ok (.iconst 0, 1) := by decide +kernel
theorem dX0_takeDigits_2 : decode cX0_takeDigits 2 = .ok (.putfield 45, 3) := by decide +kernel
theorem dX0_takeDigits_5 : decode cX0_takeDigits 5 = .ok (.aload_n 0, 1) := by decide +kernel
theorem dX0_takeDigits_6 : decode cX0_takeDigits 6 = .ok (.getfield 19, 3) := by decide +kernel
theorem dX0_takeDigits_9 : decode cX0_takeDigits 9 = .ok (.aload_n 0, 1) := by decide +kernel
theorem dX0_takeDigits_10 : decode cX0_takeDigits 10 = .ok (.getfield 15, 3) := by decide +kernel
theorem dX0_takeDigits_13 : decode cX0_takeDigits 13 = .ok (.if_icmp .ge 61, 3) := by decide +kernel
theorem dX0_takeDigits_16 : decode cX0_takeDigits 16 = .ok (.aload_n 0, 1) := by decide +kernel
theorem dX0_takeDigits_17 : decode cX0_takeDigits 17 = .ok (.getfield 9, 3) := by decide +kernel
theorem dX0_takeDigits_20 : decode cX0_takeDigits 20 = .ok (.aload_n 0, 1) := by decide +kernel
theorem dX0_takeDigits_21 : decode cX0_takeDigits 21 = .ok (.getfield 19, 3) := by decide +kernel
theorem dX0_takeDigits_24 : decode cX0_takeDigits 24 = .ok (.iaload, 1) := by decide +kernel
theorem dX0_takeDigits_25 : decode cX0_takeDigits 25 = .ok (.invokestatic 117, 3) := by decide +kernel
theorem dX0_takeDigits_28 : decode cX0_takeDigits 28 = .ok (.ifCond .eq 46, 3) := by decide +kernel
theorem dX0_takeDigits_31 : decode cX0_takeDigits 31 = .ok (.aload_n 0, 1) := by decide +kernel
theorem dX0_takeDigits_32 : decode cX0_takeDigits 32 = .ok (.sipush 1000, 3) := by decide +kernel
theorem dX0_takeDigits_35 : decode cX0_takeDigits 35 = .ok (.aload_n 0, 1) := by decide +kernel
theorem dX0_takeDigits_36 : decode cX0_takeDigits 36 = .ok (.getfield 45, 3) := by decide +kernel
theorem dX0_takeDigits_39 : decode cX0_takeDigits 39 = .ok (.bipush 10, 2) := by decide +kernel
theorem dX0_takeDigits_41 : decode cX0_takeDigits 41 = .ok (.imul, 1) := by decide +kernel
theorem dX0_takeDigits_42 : decode cX0_takeDigits 42 = .ok (.aload_n 0, 1) := by decide +kernel
theorem dX0_takeDigits_43 : decode cX0_takeDigits 43 = .ok (.getfield 9, 3) := by decide +kernel
theorem dX0_takeDigits_46 : decode cX0_takeDigits 46 = .ok (.aload_n 0, 1) := by decide +kernel
theorem dX0_takeDigits_47 : decode cX0_takeDigits 47 = .ok (.getfield 19, 3) := by decide +kernel
theorem dX0_takeDigits_50 : decode cX0_takeDigits 50 = .ok (.iaload, 1) := by decide +kernel
theorem dX0_takeDigits_51 : decode cX0_takeDigits 51 = .ok (.iadd, 1) := by decide +kernel
theorem dX0_takeDigits_52 : decode cX0_takeDigits 52 = .ok (.bipush 48, 2) := by decide +kernel
theorem dX0_takeDigits_54 : decode cX0_takeDigits 54 = .ok (.isub, 1) := by decide +kernel
theorem dX0_takeDigits_55 : decode cX0_takeDigits 55 = .ok (.invokestatic 126, 3) := by decide +kernel
theorem dX0_takeDigits_58 : decode cX0_takeDigits 58 = .ok (.putfield 45, 3) := by decide +kernel
theorem dX0_takeDigits_61 : decode cX0_takeDigits 61 = .ok (.aload_n 0, 1) := by decide +kernel
theorem dX0_takeDigits_62 : decode cX0_takeDigits 62 = .ok (.dup, 1) := by decide +kernel
theorem dX0_takeDigits_63 : decode cX0_takeDigits 63 = .ok (.getfield 19, 3) := by decide +kernel
theorem dX0_takeDigits_66 : decode cX0_takeDigits 66 = .ok (.iconst 1, 1) := by decide +kernel
theorem dX0_takeDigits_67 : decode cX0_takeDigits 67 = .ok (.iadd, 1) := by decide +kernel
theorem dX0_takeDigits_68 : decode cX0_takeDigits 68 = .ok (.putfield 19, 3) := by decide +kernel
theorem dX0_takeDigits_71 : decode cX0_takeDigits 71 = .ok (.goto (-66), 3) := by decide +kernel
theorem dX0_takeDigits_74 : decode cX0_takeDigits 74 = .ok (.return_, 1) := by decide +kernel
theorem dX0_signOf_0 : decode cX0_signOf 0 = .ok (.iload_n 0, 1) := by decide +kernel
theorem dX0_signOf_1 : decode cX0_signOf 1 = .ok (.bipush 59, 2) := by decide +kernel
theorem dX0_signOf_3 : decode cX0_signOf 3 = .ok (.if_icmp .ne 5, 3) := by decide +kernel
theorem dX0_signOf_6 : decode cX0_signOf 6 = .ok (.iconst 3, 1) := by decide +kernel
theorem dX0_signOf_7 : decode cX0_signOf 7 = .ok (.ireturn, 1) := by decide +kernel
theorem dX0_signOf_8 : decode cX0_signOf 8 = .ok (.iload_n 0, 1) := by decide +kernel
theorem dX0_signOf_9 : decode cX0_signOf 9 = .ok (.bipush 45, 2) := by decide +kernel
theorem dX0_signOf_11 : decode cX0_signOf 11 = .ok (.if_icmp .ne 7, 3) := by decide +kernel
theorem dX0_signOf_14 : decode cX0_signOf 14 = .ok (.iconst 4, 1) := by decide +kernel
theorem dX0_signOf_15 : decode cX0_signOf 15 = .ok (.goto 4, 3) := by decide +kernel
theorem dX0_signOf_18 : decode cX0_signOf 18 = .ok (.iconst 5, 1) := by decide +kernel
theorem dX0_signOf_19 : decode cX0_signOf 19 = .ok (.ireturn, 1) := by decide +kernel
theorem dX0_isLetter_0 : decode cX0_isLetter 0 = .ok (.iload_n 0, 1) := by decide +kernel
theorem dX0_isLetter_1 : decode cX0_isLetter 1 = .ok (.bipush 97, 2) := by decide +kernel
theorem dX0_isLetter_3 : decode cX0_isLetter 3 = .ok (.if_icmp .lt 13, 3) := by decide +kernel
theorem dX0_isLetter_6 : decode cX0_isLetter 6 = .ok (.iload_n 0, 1) := by decide +kernel
theorem dX0_isLetter_7 : decode cX0_isLetter 7 = .ok (.bipush 122, 2) := by decide +kernel
theorem dX0_isLetter_9 : decode cX0_isLetter 9 = .ok (.if_icmp .gt 7, 3) := by decide +kernel
theorem dX0_isLetter_12 : decode cX0_isLetter 12 = .ok (.iconst 1, 1) := by decide +kernel
theorem dX0_isLetter_13 : decode cX0_isLetter 13 = .ok (.goto 4, 3) := by decide +kernel
theorem dX0_isLetter_16 : decode cX0_isLetter 16 = .ok (.iconst 0, 1) := by decide +kernel
theorem dX0_isLetter_17 : decode cX0_isLetter 17 = .ok (.ireturn, 1) := by decide +kernel
theorem dX0_isDigit_0 : decode cX0_isDigit 0 = .ok (.iload_n 0, 1) := by decide +kernel
theorem dX0_isDigit_1 : decode cX0_isDigit 1 = .ok (.bipush 48, 2) := by decide +kernel
theorem dX0_isDigit_3 : decode cX0_isDigit 3 = .ok (.if_icmp .lt 13, 3) := by decide +kernel
theorem dX0_isDigit_6 : decode cX0_isDigit 6 = .ok (.iload_n 0, 1) := by decide +kernel
theorem dX0_isDigit_7 : decode cX0_isDigit 7 = .ok (.bipush 57, 2) := by decide +kernel
theorem dX0_isDigit_9 : decode cX0_isDigit 9 = .ok (.if_icmp .gt 7, 3) := by decide +kernel
theorem dX0_isDigit_12 : decode cX0_isDigit 12 = .ok (.iconst 1, 1) := by decide +kernel
theorem dX0_isDigit_13 : decode cX0_isDigit 13 = .ok (.goto 4, 3) := by decide +kernel
theorem dX0_isDigit_16 : decode cX0_isDigit 16 = .ok (.iconst 0, 1) := by decide +kernel
theorem dX0_isDigit_17 : decode cX0_isDigit 17 = .ok (.ireturn, 1) := by decide +kernel
theorem dX1_init_0 : decode cX1_init 0 = .ok (.aload_n 0, 1) := by decide +kernel
theorem dX1_init_1 : decode cX1_init 1 = .ok (.invokespecial 3, 3) := by decide +kernel
theorem dX1_init_4 : decode cX1_init 4 = .ok (.aload_n 0, 1) := by decide +kernel
theorem dX1_init_5 : decode cX1_init 5 = .ok (.bipush 40, 2) := by decide +kernel
theorem dX1_init_7 : decode cX1_init 7 = .ok (.newarray .int, 2) := by decide +kernel
theorem dX1_init_9 : decode cX1_init 9 = .ok (.putfield 9, 3) := by decide +kernel
theorem dX1_init_12 : decode cX1_init 12 = .ok (.return_, 1) := by decide +kernel
theorem dX1_begin_0 : decode cX1_begin 0 = .ok (.aload_n 0, 1) := by decide +kernel
theorem dX1_begin_1 : decode cX1_begin 1 = .ok (.iload_n 1, 1) := by decide +kernel
theorem dX1_begin_2 : decode cX1_begin 2 = .ok (.putfield 15, 3) := by decide +kernel
theorem dX1_begin_5 : decode cX1_begin 5 = .ok (.aload_n 0, 1) := by decide +kernel
theorem dX1_begin_6 : decode cX1_begin 6 = .ok (.iload_n 1, 1) := by decide +kernel
theorem dX1_begin_7 : decode cX1_begin 7 = .ok (.ifCond .ne 7, 3) := by decide +kernel
theorem dX1_begin_10 : decode cX1_begin 10 = .ok (.iconst 0, 1) := by decide +kernel
theorem dX1_begin_11 : decode cX1_begin 11 = .ok (.goto 4, 3) := by decide +kernel
theorem dX1_begin_14 : decode cX1_begin 14 = .ok (.iload_n 2, 1) := by decide +kernel
theorem dX1_begin_15 : decode cX1_begin 15 = .ok (.putfield 19, 3) := by decide +kernel
theorem dX1_begin_18 : decode cX1_begin 18 = .ok (.aload_n 0, 1) := by decide +kernel
theorem dX1_begin_19 : decode cX1_begin 19 = .ok (.getfield 9, 3) := by decide +kernel
theorem dX1_begin_22 : decode cX1_begin 22 = .ok (.iconst 0, 1) := by decide +kernel
theorem dX1_begin_23 : decode cX1_begin 23 = .ok (.invokestatic 22, 3) := by decide +kernel
theorem dX1_begin_26 : decode cX1_begin 26 = .ok (.return_, 1) := by decide +kernel
theorem dX1_isMissing_0 : decode cX1_isMissing 0 = .ok (.aload_n 0, 1) := by decide +kernel
theorem dX1_isMissing_1 : decode cX1_isMissing 1 = .ok (.getfield 15, 3) := by decide +kernel
theorem dX1_isMissing_4 : decode cX1_isMissing 4 = .ok (.ifCond .ne 7, 3) := by decide +kernel
theorem dX1_isMissing_7 : decode cX1_isMissing 7 = .ok (.iconst 1, 1) := by decide +kernel
theorem dX1_isMissing_8 : decode cX1_isMissing 8 = .ok (.goto 4, 3) := by decide +kernel
theorem dX1_isMissing_11 : decode cX1_isMissing 11 = .ok (.iconst 0, 1) := by decide +kernel
theorem dX1_isMissing_12 : decode cX1_isMissing 12 = .ok (.ireturn, 1) := by decide +kernel
theorem dX1_put_0 : decode cX1_put 0 = .ok (.aload_n 0, 1) := by decide +kernel
theorem dX1_put_1 : decode cX1_put 1 = .ok (.getfield 15, 3) := by decide +kernel
theorem dX1_put_4 : decode cX1_put 4 = .ok (.bipush 8, 2) := by decide +kernel
theorem dX1_put_6 : decode cX1_put 6 = .ok (.if_icmp .ne 14, 3) := by decide +kernel
theorem dX1_put_9 : decode cX1_put 9 = .ok (.aload_n 0, 1) := by decide +kernel
theorem dX1_put_10 : decode cX1_put 10 = .ok (.getfield 9, 3) := by decide +kernel
theorem dX1_put_13 : decode cX1_put 13 = .ok (.iload_n 1, 1) := by decide +kernel
theorem dX1_put_14 : decode cX1_put 14 = .ok (.iload_n 2, 1) := by decide +kernel
theorem dX1_put_15 : decode cX1_put 15 = .ok (.i2b, 1) := by decide +kernel
theorem dX1_put_16 : decode cX1_put 16 = .ok (.iastore, 1) := by decide +kernel
theorem dX1_put_17 : decode cX1_put 17 = .ok (.goto 30, 3) := by decide +kernel
theorem dX1_put_20 : decode cX1_put 20 = .ok (.aload_n 0, 1) := by decide +kernel
theorem dX1_put_21 : decode cX1_put 21 = .ok (.getfield 15, 3) := by decide +kernel
theorem dX1_put_24 : decode cX1_put 24 = .ok (.bipush 16, 2) := by decide +kernel
theorem dX1_put_26 : decode cX1_put 26 = .ok (.if_icmp .ne 14, 3) := by decide +kernel
theorem dX1_put_29 : decode cX1_put 29 = .ok (.aload_n 0, 1) := by decide +kernel
theorem dX1_put_30 : decode cX1_put 30 = .ok (.getfield 9, 3) := by decide +kernel
theorem dX1_put_33 : decode cX1_put 33 = .ok (.iload_n 1, 1) := by decide +kernel
theorem dX1_put_34 : decode cX1_put 34 = .ok (.iload_n 2, 1) := by decide +kernel
theorem dX1_put_35 : decode cX1_put 35 = .ok (.i2s, 1) := by decide +kernel
theorem dX1_put_36 : decode cX1_put 36 = .ok (.iastore, 1) := by decide +kernel
theorem dX1_put_37 : decode cX1_put 37 = .ok (.goto 10, 3) := by decide +kernel
theorem dX1_put_40 : decode cX1_put 40 = .ok (.aload_n 0, 1) := by decide +kernel
theorem dX1_put_41 : decode cX1_put 41 = .ok (.getfield 9, 3) := by decide +kernel
theorem dX1_put_44 : decode cX1_put 44 = .ok (.iload_n 1, 1) := by decide +kernel
theorem dX1_put_45 : decode cX1_put 45 = .ok (.iload_n 2, 1) := by decide +kernel
theorem dX1_put_46 : decode cX1_put 46 = .ok (.iastore, 1) := by decide +kernel
theorem dX1_put_47 : decode cX1_put 47 = .ok (.return_, 1) := by decide +kernel
theorem dX1_reaches_0 : decode cX1_reaches 0 = .ok (.iload_n 1, 1) := by decide +kernel
theorem dX1_reaches_1 : decode cX1_reaches 1 = .ok (.ifCond .lt 29, 3) := by decide +kernel
theorem dX1_reaches_4 : decode cX1_reaches 4 = .ok (.iload_n 2, 1) := by decide +kernel
theorem dX1_reaches_5 : decode cX1_reaches 5 = .ok (.ifCond .lt 25, 3) := by decide +kernel
theorem dX1_reaches_8 : decode cX1_reaches 8 = .ok (.iload_n 1, 1) := by decide +kernel
theorem dX1_reaches_9 : decode cX1_reaches 9 = .ok (.aload_n 0, 1) := by decide +kernel
theorem dX1_reaches_10 : decode cX1_reaches 10 = .ok (.getfield 19, 3) := by decide +kernel
theorem dX1_reaches_13 : decode cX1_reaches 13 = .ok (.if_icmp .gt 17, 3) := by decide +kernel
theorem dX1_reaches_16 : decode cX1_reaches 16 = .ok (.iload_n 2, 1) := by decide +kernel
theorem dX1_reaches_17 : decode cX1_reaches 17 = .ok (.aload_n 0, 1) := by decide +kernel
theorem dX1_reaches_18 : decode cX1_reaches 18 = .ok (.getfield 19, 3) := by decide +kernel
theorem dX1_reaches_21 : decode cX1_reaches 21 = .ok (.iload_n 1, 1) := by decide +kernel
theorem dX1_reaches_22 : decode cX1_reaches 22 = .ok (.isub, 1) := by decide +kernel
theorem dX1_reaches_23 : decode cX1_reaches 23 = .ok (.if_icmp .gt 7, 3) := by decide +kernel
theorem dX1_reaches_26 : decode cX1_reaches 26 = .ok (.iconst 1, 1) := by decide +kernel
theorem dX1_reaches_27 : decode cX1_reaches 27 = .ok (.goto 4, 3) := by decide +kernel
theorem dX1_reaches_30 : decode cX1_reaches 30 = .ok (.iconst 0, 1) := by decide +kernel
theorem dX1_reaches_31 : decode cX1_reaches 31 = .ok (.ireturn, 1) := by decide +kernel
theorem dX2_init_0 : decode cX2_init 0 = .ok (.aload_n 0, 1) := by decide +kernel
theorem dX2_init_1 : decode cX2_init 1 = .ok (.invokespecial 3, 3) := by decide +kernel
theorem dX2_init_4 : decode cX2_init 4 = .ok (.aload_n 0, 1) := by decide +kernel
theorem dX2_init_5 : decode cX2_init 5 = .ok (.iconst 2, 1) := by decide +kernel
theorem dX2_init_6 : decode cX2_init 6 = .ok (.putfield 9, 3) := by decide +kernel
theorem dX2_init_9 : decode cX2_init 9 = .ok (.aload_n 0, 1) := by decide +kernel
theorem dX2_init_10 : decode cX2_init 10 = .ok (.iconst 1, 1) := by decide +kernel
theorem dX2_init_11 : decode cX2_init 11 = .ok (.putfield 15, 3) := by decide +kernel
theorem dX2_init_14 : decode cX2_init 14 = .ok (.aload_n 0, 1) := by decide +kernel
theorem dX2_init_15 : decode cX2_init 15 = .ok (.bipush 10, 2) := by decide +kernel
theorem dX2_init_17 : decode cX2_init 17 = .ok (.newarray .int, 2) := by decide +kernel
theorem dX2_init_19 : decode cX2_init 19 = .ok (.putfield 18, 3) := by decide +kernel
theorem dX2_init_22 : decode cX2_init 22 = .ok (.aload_n 0, 1) := by decide +kernel
theorem dX2_init_23 : decode cX2_init 23 = .ok (.bipush 8, 2) := by decide +kernel
theorem dX2_init_25 : decode cX2_init 25 = .ok (.newarray .int, 2) := by decide +kernel
theorem dX2_init_27 : decode cX2_init 27 = .ok (.putfield 22, 3) := by decide +kernel
theorem dX2_init_30 : decode cX2_init 30 = .ok (.aload_n 0, 1) := by decide +kernel
theorem dX2_init_31 : decode cX2_init 31 = .ok (.bipush 8, 2) := by decide +kernel
theorem dX2_init_33 : decode cX2_init 33 = .ok (.newarray .int, 2) := by decide +kernel
theorem dX2_init_35 : decode cX2_init 35 = .ok (.putfield 25, 3) := by decide +kernel
theorem dX2_init_38 : decode cX2_init 38 = .ok (.aload_n 0, 1) := by decide +kernel
theorem dX2_init_39 : decode cX2_init 39 = .ok (.bipush 8, 2) := by decide +kernel
theorem dX2_init_41 : decode cX2_init 41 = .ok (.newarray .int, 2) := by decide +kernel
theorem dX2_init_43 : decode cX2_init 43 = .ok (.putfield 28, 3) := by decide +kernel
theorem dX2_init_46 : decode cX2_init 46 = .ok (.aload_n 0, 1) := by decide +kernel
theorem dX2_init_47 : decode cX2_init 47 = .ok (.bipush 8, 2) := by decide +kernel
theorem dX2_init_49 : decode cX2_init 49 = .ok (.newarray .int, 2) := by decide +kernel
theorem dX2_init_51 : decode cX2_init 51 = .ok (.putfield 31, 3) := by decide +kernel
theorem dX2_init_54 : decode cX2_init 54 = .ok (.aload_n 0, 1) := by decide +kernel
theorem dX2_init_55 : decode cX2_init 55 = .ok (.bipush 8, 2) := by decide +kernel
theorem dX2_init_57 : decode cX2_init 57 = .ok (.newarray .int, 2) := by decide +kernel
theorem dX2_init_59 : decode cX2_init 59 = .ok (.putfield 34, 3) := by decide +kernel
theorem dX2_init_62 : decode cX2_init 62 = .ok (.aload_n 0, 1) := by decide +kernel
theorem dX2_init_63 : decode cX2_init 63 = .ok (.bipush 8, 2) := by decide +kernel
theorem dX2_init_65 : decode cX2_init 65 = .ok (.newarray .int, 2) := by decide +kernel
theorem dX2_init_67 : decode cX2_init 67 = .ok (.putfield 37, 3) := by decide +kernel
theorem dX2_init_70 : decode cX2_init 70 = .ok (.aload_n 0, 1) := by decide +kernel
theorem dX2_init_71 : decode cX2_init 71 = .ok (.bipush 8, 2) := by decide +kernel
theorem dX2_init_73 : decode cX2_init 73 = .ok (.newarray .int, 2) := by decide +kernel
theorem dX2_init_75 : decode cX2_init 75 = .ok (.putfield 40, 3) := by decide +kernel
theorem dX2_init_78 : decode cX2_init 78 = .ok (.aload_n 0, 1) := by decide +kernel
theorem dX2_init_79 : decode cX2_init 79 = .ok (.bipush 8, 2) := by decide +kernel
theorem dX2_init_81 : decode cX2_init 81 = .ok (.newarray .int, 2) := by decide +kernel
theorem dX2_init_83 : decode cX2_init 83 = .ok (.putfield 43, 3) := by decide +kernel
theorem dX2_init_86 : decode cX2_init 86 = .ok (.aload_n 0, 1) := by decide +kernel
theorem dX2_init_87 : decode cX2_init 87 = .ok (.bipush 12, 2) := by decide +kernel
theorem dX2_init_89 : decode cX2_init 89 = .ok (.newarray .int, 2) := by decide +kernel
theorem dX2_init_91 : decode cX2_init 91 = .ok (.putfield 46, 3) := by decide +kernel
theorem dX2_init_94 : decode cX2_init 94 = .ok (.aload_n 0, 1) := by decide +kernel
theorem dX2_init_95 : decode cX2_init 95 = .ok (.bipush 12, 2) := by decide +kernel
theorem dX2_init_97 : decode cX2_init 97 = .ok (.newarray .int, 2) := by decide +kernel
theorem dX2_init_99 : decode cX2_init 99 = .ok (.putfield 49, 3) := by decide +kernel
theorem dX2_init_102 : decode cX2_init 102 = .ok (.iconst 0, 1) := by decide +kernel
theorem dX2_init_103 : decode cX2_init 103 = .ok (.istore_n 1, 1) := by decide +kernel
theorem dX2_init_104 : decode cX2_init 104 = .ok (.iload_n 1, 1) := by decide +kernel
theorem dX2_init_105 : decode cX2_init 105 = .ok (.bipush 10, 2) := by decide +kernel
theorem dX2_init_107 : decode cX2_init 107 = .ok (.if_icmp .ge 16, 3) := by decide +kernel
theorem dX2_init_110 : decode cX2_init 110 = .ok (.aload_n 0, 1) := by decide +kernel
theorem dX2_init_111 : decode cX2_init 111 = .ok (.getfield 18, 3) := by decide +kernel
theorem dX2_init_114 : decode cX2_init 114 = .ok (.iload_n 1, 1) := by decide +kernel
theorem dX2_init_115 : decode cX2_init 115 = .ok (.iconst (-1), 1) := by decide +kernel
theorem dX2_init_116 : decode cX2_init 116 = .ok (.iastore, 1) := by decide +kernel
theorem dX2_init_117 : decode cX2_init 117 = .ok (.iinc 1 1, 3) := by decide +kernel
theorem dX2_init_120 : decode cX2_init 120 = .ok (.goto (-16), 3) := by decide +kernel
theorem dX2_init_123 : decode cX2_init 123 = .ok (.return_, 1) := by decide +kernel
theorem dX2_lacks_0 : decode cX2_lacks 0 = .ok (.iload_n 1, 1) := by decide +kernel
theorem dX2_lacks_1 : decode cX2_lacks 1 = .ok (.ifCond .lt 11, 3) := by decide +kernel
theorem dX2_lacks_4 : decode cX2_lacks 4 = .ok (.iload_n 1, 1) := by decide +kernel
theorem dX2_lacks_5 : decode cX2_lacks 5 = .ok (.aload_n 0, 1) := by decide +kernel
theorem dX2_lacks_6 : decode cX2_lacks 6 = .ok (.getfield 52, 3) := by decide +kernel
theorem dX2_lacks_9 : decode cX2_lacks 9 = .ok (.if_icmp .lt 7, 3) := by decide +kernel
theorem dX2_lacks_12 : decode cX2_lacks 12 = .ok (.iconst 1, 1) := by decide +kernel
theorem dX2_lacks_13 : decode cX2_lacks 13 = .ok (.goto 4, 3) := by decide +kernel
theorem dX2_lacks_16 : decode cX2_lacks 16 = .ok (.iconst 0, 1) := by decide +kernel
theorem dX2_lacks_17 : decode cX2_lacks 17 = .ok (.ireturn, 1) := by decide +kernel
theorem dX2_isCrowded_0 : decode cX2_isCrowded 0 = .ok (.aload_n 0, 1) := by decide +kernel
theorem dX2_isCrowded_1 : decode cX2_isCrowded 1 = .ok (.getfield 52, 3) := by decide +kernel
theorem dX2_isCrowded_4 : decode cX2_isCrowded 4 = .ok (.bipush 8, 2) := by decide +kernel
theorem dX2_isCrowded_6 : decode cX2_isCrowded 6 = .ok (.if_icmp .lt 7, 3) := by decide +kernel
theorem dX2_isCrowded_9 : decode cX2_isCrowded 9 = .ok (.iconst 1, 1) := by decide +kernel
theorem dX2_isCrowded_10 : decode cX2_isCrowded 10 = .ok (.goto 4, 3) := by decide +kernel
theorem dX2_isCrowded_13 : decode cX2_isCrowded 13 = .ok (.iconst 0, 1) := by decide +kernel
theorem dX2_isCrowded_14 : decode cX2_isCrowded 14 = .ok (.ireturn, 1) := by decide +kernel
theorem dX2_raise_0 : decode cX2_raise 0 = .ok (.aload_n 0, 1) := by decide +kernel
theorem dX2_raise_1 : decode cX2_raise 1 = .ok (.getfield 52, 3) := by decide +kernel
theorem dX2_raise_4 : decode cX2_raise 4 = .ok (.istore_n 3, 1) := by decide +kernel
theorem dX2_raise_5 : decode cX2_raise 5 = .ok (.aload_n 0, 1) := by decide +kernel
theorem dX2_raise_6 : decode cX2_raise 6 = .ok (.getfield 22, 3) := by decide +kernel
theorem dX2_raise_9 : decode cX2_raise 9 = .ok (.iload_n 3, 1) := by decide +kernel
theorem dX2_raise_10 : decode cX2_raise 10 = .ok (.iload_n 1, 1) := by decide +kernel
theorem dX2_raise_11 : decode cX2_raise 11 = .ok (.iastore, 1) := by decide +kernel
theorem dX2_raise_12 : decode cX2_raise 12 = .ok (.aload_n 0, 1) := by decide +kernel
theorem dX2_raise_13 : decode cX2_raise 13 = .ok (.getfield 25, 3) := by decide +kernel
theorem dX2_raise_16 : decode cX2_raise 16 = .ok (.iload_n 3, 1) := by decide +kernel
theorem dX2_raise_17 : decode cX2_raise 17 = .ok (.iload_n 2, 1) := by decide +kernel
theorem dX2_raise_18 : decode cX2_raise 18 = .ok (.iastore, 1) := by decide +kernel
theorem dX2_raise_19 : decode cX2_raise 19 = .ok (.aload_n 0, 1) := by decide +kernel
theorem dX2_raise_20 : decode cX2_raise 20 = .ok (.getfield 28, 3) := by decide +kernel
theorem dX2_raise_23 : decode cX2_raise 23 = .ok (.iload_n 3, 1) := by decide +kernel
theorem dX2_raise_24 : decode cX2_raise 24 = .ok (.iconst 1, 1) := by decide +kernel
theorem dX2_raise_25 : decode cX2_raise 25 = .ok (.iastore, 1) := by decide +kernel
theorem dX2_raise_26 : decode cX2_raise 26 = .ok (.aload_n 0, 1) := by decide +kernel
theorem dX2_raise_27 : decode cX2_raise 27 = .ok (.getfield 31, 3) := by decide +kernel
theorem dX2_raise_30 : decode cX2_raise 30 = .ok (.iload_n 3, 1) := by decide +kernel
theorem dX2_raise_31 : decode cX2_raise 31 = .ok (.iconst 0, 1) := by decide +kernel
theorem dX2_raise_32 : decode cX2_raise 32 = .ok (.iastore, 1) := by decide +kernel
theorem dX2_raise_33 : decode cX2_raise 33 = .ok (.aload_n 0, 1) := by decide +kernel
theorem dX2_raise_34 : decode cX2_raise 34 = .ok (.getfield 34, 3) := by decide +kernel
theorem dX2_raise_37 : decode cX2_raise 37 = .ok (.iload_n 3, 1) := by decide +kernel
theorem dX2_raise_38 : decode cX2_raise 38 = .ok (.bipush 50, 2) := by decide +kernel
theorem dX2_raise_40 : decode cX2_raise 40 = .ok (.iastore, 1) := by decide +kernel
theorem dX2_raise_41 : decode cX2_raise 41 = .ok (.aload_n 0, 1) := by decide +kernel
theorem dX2_raise_42 : decode cX2_raise 42 = .ok (.getfield 37, 3) := by decide +kernel
theorem dX2_raise_45 : decode cX2_raise 45 = .ok (.iload_n 3, 1) := by decide +kernel
theorem dX2_raise_46 : decode cX2_raise 46 = .ok (.iconst 0, 1) := by decide +kernel
theorem dX2_raise_47 : decode cX2_raise 47 = .ok (.iastore, 1) := by decide +kernel
theorem dX2_raise_48 : decode cX2_raise 48 = .ok (.aload_n 0, 1) := by decide +kernel
theorem dX2_raise_49 : decode cX2_raise 49 = .ok (.iload_n 3, 1) := by decide +kernel
theorem dX2_raise_50 : decode cX2_raise 50 = .ok (.iconst 1, 1) := by decide +kernel
theorem dX2_raise_51 : decode cX2_raise 51 = .ok (.iadd, 1) := by decide +kernel
theorem dX2_raise_52 : decode cX2_raise 52 = .ok (.putfield 52, 3) := by decide +kernel
theorem dX2_raise_55 : decode cX2_raise 55 = .ok (.aload_n 0, 1) := by decide +kernel
theorem dX2_raise_56 : decode cX2_raise 56 = .ok (.invokevirtual 55, 3) := by decide +kernel
theorem dX2_raise_59 : decode cX2_raise 59 = .ok (.iload_n 3, 1) := by decide +kernel
theorem dX2_raise_60 : decode cX2_raise 60 = .ok (.ireturn, 1) := by decide +kernel
theorem dX2_trait_0 : decode cX2_trait 0 = .ok (.iload_n 2, 1) := by decide +kernel
theorem dX2_trait_1 : decode cX2_trait 1 = .ok (.tableswitch 81 0 5 #[39, 46, 53, 60, 67, 74], 39) := by decide +kernel
theorem dX2_trait_40 : decode cX2_trait 40 = .ok (.aload_n 0, 1) := by decide +kernel
theorem dX2_trait_41 : decode cX2_trait 41 = .ok (.getfield 22, 3) := by decide +kernel
theorem dX2_trait_44 : decode cX2_trait 44 = .ok (.iload_n 1, 1) := by decide +kernel
theorem dX2_trait_45 : decode cX2_trait 45 = .ok (.iaload, 1) := by decide +kernel
theorem dX2_trait_46 : decode cX2_trait 46 = .ok (.ireturn, 1) := by decide +kernel
theorem dX2_trait_47 : decode cX2_trait 47 = .ok (.aload_n 0, 1) := by decide +kernel
theorem dX2_trait_48 : decode cX2_trait 48 = .ok (.getfield 25, 3) := by decide +kernel
theorem dX2_trait_51 : decode cX2_trait 51 = .ok (.iload_n 1, 1) := by decide +kernel
theorem dX2_trait_52 : decode cX2_trait 52 = .ok (.iaload, 1) := by decide +kernel
theorem dX2_trait_53 : decode cX2_trait 53 = .ok (.ireturn, 1) := by decide +kernel
theorem dX2_trait_54 : decode cX2_trait 54 = .ok (.aload_n 0, 1) := by decide +kernel
theorem dX2_trait_55 : decode cX2_trait 55 = .ok (.getfield 28, 3) := by decide +kernel
theorem dX2_trait_58 : decode cX2_trait 58 = .ok (.iload_n 1, 1) := by decide +kernel
theorem dX2_trait_59 : decode cX2_trait 59 = .ok (.iaload, 1) := by decide +kernel
theorem dX2_trait_60 : decode cX2_trait 60 = .ok (.ireturn, 1) := by decide +kernel
theorem dX2_trait_61 : decode cX2_trait 61 = .ok (.aload_n 0, 1) := by decide +kernel
theorem dX2_trait_62 : decode cX2_trait 62 = .ok (.getfield 31, 3) := by decide +kernel
theorem dX2_trait_65 : decode cX2_trait 65 = .ok (.iload_n 1, 1) := by decide +kernel
theorem dX2_trait_66 : decode cX2_trait 66 = .ok (.iaload, 1) := by decide +kernel
theorem dX2_trait_67 : decode cX2_trait 67 = .ok (.ireturn, 1) := by decide +kernel
theorem dX2_trait_68 : decode cX2_trait 68 = .ok (.aload_n 0, 1) := by decide +kernel
theorem dX2_trait_69 : decode cX2_trait 69 = .ok (.getfield 34, 3) := by decide +kernel
theorem dX2_trait_72 : decode cX2_trait 72 = .ok (.iload_n 1, 1) := by decide +kernel
theorem dX2_trait_73 : decode cX2_trait 73 = .ok (.iaload, 1) := by decide +kernel
theorem dX2_trait_74 : decode cX2_trait 74 = .ok (.ireturn, 1) := by decide +kernel
theorem dX2_trait_75 : decode cX2_trait 75 = .ok (.aload_n 0, 1) := by decide +kernel
theorem dX2_trait_76 : decode cX2_trait 76 = .ok (.getfield 37, 3) := by decide +kernel
theorem dX2_trait_79 : decode cX2_trait 79 = .ok (.iload_n 1, 1) := by decide +kernel
theorem dX2_trait_80 : decode cX2_trait 80 = .ok (.iaload, 1) := by decide +kernel
theorem dX2_trait_81 : decode cX2_trait 81 = .ok (.ireturn, 1) := by decide +kernel
theorem dX2_trait_82 : decode cX2_trait 82 = .ok (.aload_n 0, 1) := by decide +kernel
theorem dX2_trait_83 : decode cX2_trait 83 = .ok (.getfield 40, 3) := by decide +kernel
theorem dX2_trait_86 : decode cX2_trait 86 = .ok (.iload_n 1, 1) := by decide +kernel
theorem dX2_trait_87 : decode cX2_trait 87 = .ok (.iaload, 1) := by decide +kernel
theorem dX2_trait_88 : decode cX2_trait 88 = .ok (.ireturn, 1) := by decide +kernel
theorem dX2_setTrait_0 : decode cX2_setTrait 0 = .ok (.iload_n 2, 1) := by decide +kernel
theorem dX2_setTrait_1 : decode cX2_setTrait 1 = .ok (.tableswitch 85 0 4 #[35, 45, 55, 65, 75], 35) := by decide +kernel
theorem dX2_setTrait_36 : decode cX2_setTrait 36 = .ok (.aload_n 0, 1) := by decide +kernel
theorem dX2_setTrait_37 : decode cX2_setTrait 37 = .ok (.getfield 22, 3) := by decide +kernel
theorem dX2_setTrait_40 : decode cX2_setTrait 40 = .ok (.iload_n 1, 1) := by decide +kernel
theorem dX2_setTrait_41 : decode cX2_setTrait 41 = .ok (.iload_n 3, 1) := by decide +kernel
theorem dX2_setTrait_42 : decode cX2_setTrait 42 = .ok (.iastore, 1) := by decide +kernel
theorem dX2_setTrait_43 : decode cX2_setTrait 43 = .ok (.goto 50, 3) := by decide +kernel
theorem dX2_setTrait_46 : decode cX2_setTrait 46 = .ok (.aload_n 0, 1) := by decide +kernel
theorem dX2_setTrait_47 : decode cX2_setTrait 47 = .ok (.getfield 25, 3) := by decide +kernel
theorem dX2_setTrait_50 : decode cX2_setTrait 50 = .ok (.iload_n 1, 1) := by decide +kernel
theorem dX2_setTrait_51 : decode cX2_setTrait 51 = .ok (.iload_n 3, 1) := by decide +kernel
theorem dX2_setTrait_52 : decode cX2_setTrait 52 = .ok (.iastore, 1) := by decide +kernel
theorem dX2_setTrait_53 : decode cX2_setTrait 53 = .ok (.goto 40, 3) := by decide +kernel
theorem dX2_setTrait_56 : decode cX2_setTrait 56 = .ok (.aload_n 0, 1) := by decide +kernel
theorem dX2_setTrait_57 : decode cX2_setTrait 57 = .ok (.getfield 28, 3) := by decide +kernel
theorem dX2_setTrait_60 : decode cX2_setTrait 60 = .ok (.iload_n 1, 1) := by decide +kernel
theorem dX2_setTrait_61 : decode cX2_setTrait 61 = .ok (.iload_n 3, 1) := by decide +kernel
theorem dX2_setTrait_62 : decode cX2_setTrait 62 = .ok (.iastore, 1) := by decide +kernel
theorem dX2_setTrait_63 : decode cX2_setTrait 63 = .ok (.goto 30, 3) := by decide +kernel
theorem dX2_setTrait_66 : decode cX2_setTrait 66 = .ok (.aload_n 0, 1) := by decide +kernel
theorem dX2_setTrait_67 : decode cX2_setTrait 67 = .ok (.getfield 31, 3) := by decide +kernel
theorem dX2_setTrait_70 : decode cX2_setTrait 70 = .ok (.iload_n 1, 1) := by decide +kernel
theorem dX2_setTrait_71 : decode cX2_setTrait 71 = .ok (.iload_n 3, 1) := by decide +kernel
theorem dX2_setTrait_72 : decode cX2_setTrait 72 = .ok (.iastore, 1) := by decide +kernel
theorem dX2_setTrait_73 : decode cX2_setTrait 73 = .ok (.goto 20, 3) := by decide +kernel
theorem dX2_setTrait_76 : decode cX2_setTrait 76 = .ok (.aload_n 0, 1) := by decide +kernel
theorem dX2_setTrait_77 : decode cX2_setTrait 77 = .ok (.getfield 34, 3) := by decide +kernel
theorem dX2_setTrait_80 : decode cX2_setTrait 80 = .ok (.iload_n 1, 1) := by decide +kernel
theorem dX2_setTrait_81 : decode cX2_setTrait 81 = .ok (.iload_n 3, 1) := by decide +kernel
theorem dX2_setTrait_82 : decode cX2_setTrait 82 = .ok (.iastore, 1) := by decide +kernel
theorem dX2_setTrait_83 : decode cX2_setTrait 83 = .ok (.goto 10, 3) := by decide +kernel
theorem dX2_setTrait_86 : decode cX2_setTrait 86 = .ok (.aload_n 0, 1) := by decide +kernel
theorem dX2_setTrait_87 : decode cX2_setTrait 87 = .ok (.getfield 37, 3) := by decide +kernel
theorem dX2_setTrait_90 : decode cX2_setTrait 90 = .ok (.iload_n 1, 1) := by decide +kernel
theorem dX2_setTrait_91 : decode cX2_setTrait 91 = .ok (.iload_n 3, 1) := by decide +kernel
theorem dX2_setTrait_92 : decode cX2_setTrait 92 = .ok (.iastore, 1) := by decide +kernel
theorem dX2_setTrait_93 : decode cX2_setTrait 93 = .ok (.aload_n 0, 1) := by decide +kernel
theorem dX2_setTrait_94 : decode cX2_setTrait 94 = .ok (.invokevirtual 55, 3) := by decide +kernel
theorem dX2_setTrait_97 : decode cX2_setTrait 97 = .ok (.return_, 1) := by decide +kernel
theorem dX2_become_0 : decode cX2_become 0 = .ok (.aload_n 0, 1) := by decide +kernel
theorem dX2_become_1 : decode cX2_become 1 = .ok (.aload_n 1, 1) := by decide +kernel
theorem dX2_become_2 : decode cX2_become 2 = .ok (.getfield 9, 3) := by decide +kernel
theorem dX2_become_5 : decode cX2_become 5 = .ok (.putfield 9, 3) := by decide +kernel
theorem dX2_become_8 : decode cX2_become 8 = .ok (.aload_n 0, 1) := by decide +kernel
theorem dX2_become_9 : decode cX2_become 9 = .ok (.aload_n 1, 1) := by decide +kernel
theorem dX2_become_10 : decode cX2_become 10 = .ok (.getfield 58, 3) := by decide +kernel
theorem dX2_become_13 : decode cX2_become 13 = .ok (.putfield 58, 3) := by decide +kernel
theorem dX2_become_16 : decode cX2_become 16 = .ok (.aload_n 0, 1) := by decide +kernel
theorem dX2_become_17 : decode cX2_become 17 = .ok (.aload_n 1, 1) := by decide +kernel
theorem dX2_become_18 : decode cX2_become 18 = .ok (.getfield 15, 3) := by decide +kernel
theorem dX2_become_21 : decode cX2_become 21 = .ok (.putfield 15, 3) := by decide +kernel
theorem dX2_become_24 : decode cX2_become 24 = .ok (.aload_n 0, 1) := by decide +kernel
theorem dX2_become_25 : decode cX2_become 25 = .ok (.aload_n 1, 1) := by decide +kernel
theorem dX2_become_26 : decode cX2_become 26 = .ok (.getfield 52, 3) := by decide +kernel
theorem dX2_become_29 : decode cX2_become 29 = .ok (.putfield 52, 3) := by decide +kernel
theorem dX2_become_32 : decode cX2_become 32 = .ok (.aload_n 1, 1) := by decide +kernel
theorem dX2_become_33 : decode cX2_become 33 = .ok (.getfield 18, 3) := by decide +kernel
theorem dX2_become_36 : decode cX2_become 36 = .ok (.iconst 0, 1) := by decide +kernel
theorem dX2_become_37 : decode cX2_become 37 = .ok (.aload_n 0, 1) := by decide +kernel
theorem dX2_become_38 : decode cX2_become 38 = .ok (.getfield 18, 3) := by decide +kernel
theorem dX2_become_41 : decode cX2_become 41 = .ok (.iconst 0, 1) := by decide +kernel
theorem dX2_become_42 : decode cX2_become 42 = .ok (.bipush 10, 2) := by decide +kernel
theorem dX2_become_44 : decode cX2_become 44 = .ok (.invokestatic 61, 3) := by decide +kernel
theorem dX2_become_47 : decode cX2_become 47 = .ok (.aload_n 1, 1) := by decide +kernel
theorem dX2_become_48 : decode cX2_become 48 = .ok (.getfield 22, 3) := by decide +kernel
theorem dX2_become_51 : decode cX2_become 51 = .ok (.iconst 0, 1) := by decide +kernel
theorem dX2_become_52 : decode cX2_become 52 = .ok (.aload_n 0, 1) := by decide +kernel
theorem dX2_become_53 : decode cX2_become 53 = .ok (.getfield 22, 3) := by decide +kernel
theorem dX2_become_56 : decode cX2_become 56 = .ok (.iconst 0, 1) := by decide +kernel
theorem dX2_become_57 : decode cX2_become 57 = .ok (.bipush 8, 2) := by decide +kernel
theorem dX2_become_59 : decode cX2_become 59 = .ok (.invokestatic 61, 3) := by decide +kernel
theorem dX2_become_62 : decode cX2_become 62 = .ok (.aload_n 1, 1) := by decide +kernel
theorem dX2_become_63 : decode cX2_become 63 = .ok (.getfield 25, 3) := by decide +kernel
theorem dX2_become_66 : decode cX2_become 66 = .ok (.iconst 0, 1) := by decide +kernel
theorem dX2_become_67 : decode cX2_become 67 = .ok (.aload_n 0, 1) := by decide +kernel
theorem dX2_become_68 : decode cX2_become 68 = .ok (.getfield 25, 3) := by decide +kernel
theorem dX2_become_71 : decode cX2_become 71 = .ok (.iconst 0, 1) := by decide +kernel
theorem dX2_become_72 : decode cX2_become 72 = .ok (.bipush 8, 2) := by decide +kernel
theorem dX2_become_74 : decode cX2_become 74 = .ok (.invokestatic 61, 3) := by decide +kernel
theorem dX2_become_77 : decode cX2_become 77 = .ok (.aload_n 1, 1) := by decide +kernel
theorem dX2_become_78 : decode cX2_become 78 = .ok (.getfield 28, 3) := by decide +kernel
theorem dX2_become_81 : decode cX2_become 81 = .ok (.iconst 0, 1) := by decide +kernel
theorem dX2_become_82 : decode cX2_become 82 = .ok (.aload_n 0, 1) := by decide +kernel
theorem dX2_become_83 : decode cX2_become 83 = .ok (.getfield 28, 3) := by decide +kernel
theorem dX2_become_86 : decode cX2_become 86 = .ok (.iconst 0, 1) := by decide +kernel
theorem dX2_become_87 : decode cX2_become 87 = .ok (.bipush 8, 2) := by decide +kernel
theorem dX2_become_89 : decode cX2_become 89 = .ok (.invokestatic 61, 3) := by decide +kernel
theorem dX2_become_92 : decode cX2_become 92 = .ok (.aload_n 1, 1) := by decide +kernel
theorem dX2_become_93 : decode cX2_become 93 = .ok (.getfield 31, 3) := by decide +kernel
theorem dX2_become_96 : decode cX2_become 96 = .ok (.iconst 0, 1) := by decide +kernel
theorem dX2_become_97 : decode cX2_become 97 = .ok (.aload_n 0, 1) := by decide +kernel
theorem dX2_become_98 : decode cX2_become 98 = .ok (.getfield 31, 3) := by decide +kernel
theorem dX2_become_101 : decode cX2_become 101 = .ok (.iconst 0, 1) := by decide +kernel
theorem dX2_become_102 : decode cX2_become 102 = .ok (.bipush 8, 2) := by decide +kernel
theorem dX2_become_104 : decode cX2_become 104 = .ok (.invokestatic 61, 3) := by decide +kernel
theorem dX2_become_107 : decode cX2_become 107 = .ok (.aload_n 1, 1) := by decide +kernel
theorem dX2_become_108 : decode cX2_become 108 = .ok (.getfield 34, 3) := by decide +kernel
theorem dX2_become_111 : decode cX2_become 111 = .ok (.iconst 0, 1) := by decide +kernel
theorem dX2_become_112 : decode cX2_become 112 = .ok (.aload_n 0, 1) := by decide +kernel
theorem dX2_become_113 : decode cX2_become 113 = .ok (.getfield 34, 3) := by decide +kernel
theorem dX2_become_116 : decode cX2_become 116 = .ok (.iconst 0, 1) := by decide +kernel
theorem dX2_become_117 : decode cX2_become 117 = .ok (.bipush 8, 2) := by decide +kernel
theorem dX2_become_119 : decode cX2_become 119 = .ok (.invokestatic 61, 3) := by decide +kernel
theorem dX2_become_122 : decode cX2_become 122 = .ok (.aload_n 1, 1) := by decide +kernel
theorem dX2_become_123 : decode cX2_become 123 = .ok (.getfield 37, 3) := by decide +kernel
theorem dX2_become_126 : decode cX2_become 126 = .ok (.iconst 0, 1) := by decide +kernel
theorem dX2_become_127 : decode cX2_become 127 = .ok (.aload_n 0, 1) := by decide +kernel
theorem dX2_become_128 : decode cX2_become 128 = .ok (.getfield 37, 3) := by decide +kernel
theorem dX2_become_131 : decode cX2_become 131 = .ok (.iconst 0, 1) := by decide +kernel
theorem dX2_become_132 : decode cX2_become 132 = .ok (.bipush 8, 2) := by decide +kernel
theorem dX2_become_134 : decode cX2_become 134 = .ok (.invokestatic 61, 3) := by decide +kernel
theorem dX2_become_137 : decode cX2_become 137 = .ok (.aload_n 0, 1) := by decide +kernel
theorem dX2_become_138 : decode cX2_become 138 = .ok (.invokevirtual 55, 3) := by decide +kernel
theorem dX2_become_141 : decode cX2_become 141 = .ok (.return_, 1) := by decide +kernel
theorem dX2_lookAround_0 : decode cX2_lookAround 0 = .ok (.aload_n 0, 1) := by decide +kernel
theorem dX2_lookAround_1 : decode cX2_lookAround 1 = .ok (.getfield 46, 3) := by decide +kernel
theorem dX2_lookAround_4 : decode cX2_lookAround 4 = .ok (.iconst 0, 1) := by decide +kernel
theorem dX2_lookAround_5 : decode cX2_lookAround 5 = .ok (.invokestatic 67, 3) := by decide +kernel
theorem dX2_lookAround_8 : decode cX2_lookAround 8 = .ok (.aload_n 0, 1) := by decide +kernel
theorem dX2_lookAround_9 : decode cX2_lookAround 9 = .ok (.getfield 49, 3) := by decide +kernel
theorem dX2_lookAround_12 : decode cX2_lookAround 12 = .ok (.iconst 0, 1) := by decide +kernel
theorem dX2_lookAround_13 : decode cX2_lookAround 13 = .ok (.invokestatic 67, 3) := by decide +kernel
theorem dX2_lookAround_16 : decode cX2_lookAround 16 = .ok (.iconst 0, 1) := by decide +kernel
theorem dX2_lookAround_17 : decode cX2_lookAround 17 = .ok (.istore_n 1, 1) := by decide +kernel
theorem dX2_lookAround_18 : decode cX2_lookAround 18 = .ok (.iload_n 1, 1) := by decide +kernel
theorem dX2_lookAround_19 : decode cX2_lookAround 19 = .ok (.aload_n 0, 1) := by decide +kernel
theorem dX2_lookAround_20 : decode cX2_lookAround 20 = .ok (.getfield 52, 3) := by decide +kernel
theorem dX2_lookAround_23 : decode cX2_lookAround 23 = .ok (.if_icmp .ge 66, 3) := by decide +kernel
theorem dX2_lookAround_26 : decode cX2_lookAround 26 = .ok (.aload_n 0, 1) := by decide +kernel
theorem dX2_lookAround_27 : decode cX2_lookAround 27 = .ok (.getfield 25, 3) := by decide +kernel
theorem dX2_lookAround_30 : decode cX2_lookAround 30 = .ok (.iload_n 1, 1) := by decide +kernel
theorem dX2_lookAround_31 : decode cX2_lookAround 31 = .ok (.iaload, 1) := by decide +kernel
theorem dX2_lookAround_32 : decode cX2_lookAround 32 = .ok (.getstatic 73, 3) := by decide +kernel
theorem dX2_lookAround_35 : decode cX2_lookAround 35 = .ok (.aload_n 0, 1) := by decide +kernel
theorem dX2_lookAround_36 : decode cX2_lookAround 36 = .ok (.getfield 31, 3) := by decide +kernel
theorem dX2_lookAround_39 : decode cX2_lookAround 39 = .ok (.iload_n 1, 1) := by decide +kernel
theorem dX2_lookAround_40 : decode cX2_lookAround 40 = .ok (.iaload, 1) := by decide +kernel
theorem dX2_lookAround_41 : decode cX2_lookAround 41 = .ok (.iaload, 1) := by decide +kernel
theorem dX2_lookAround_42 : decode cX2_lookAround 42 = .ok (.iadd, 1) := by decide +kernel
theorem dX2_lookAround_43 : decode cX2_lookAround 43 = .ok (.bipush 12, 2) := by decide +kernel
theorem dX2_lookAround_45 : decode cX2_lookAround 45 = .ok (.irem, 1) := by decide +kernel
theorem dX2_lookAround_46 : decode cX2_lookAround 46 = .ok (.istore_n 2, 1) := by decide +kernel
theorem dX2_lookAround_47 : decode cX2_lookAround 47 = .ok (.aload_n 0, 1) := by decide +kernel
theorem dX2_lookAround_48 : decode cX2_lookAround 48 = .ok (.getfield 40, 3) := by decide +kernel
theorem dX2_lookAround_51 : decode cX2_lookAround 51 = .ok (.iload_n 1, 1) := by decide +kernel
theorem dX2_lookAround_52 : decode cX2_lookAround 52 = .ok (.iload_n 2, 1) := by decide +kernel
theorem dX2_lookAround_53 : decode cX2_lookAround 53 = .ok (.iastore, 1) := by decide +kernel
theorem dX2_lookAround_54 : decode cX2_lookAround 54 = .ok (.aload_n 0, 1) := by decide +kernel
theorem dX2_lookAround_55 : decode cX2_lookAround 55 = .ok (.getfield 46, 3) := by decide +kernel
theorem dX2_lookAround_58 : decode cX2_lookAround 58 = .ok (.aload_n 0, 1) := by decide +kernel
theorem dX2_lookAround_59 : decode cX2_lookAround 59 = .ok (.getfield 25, 3) := by decide +kernel
theorem dX2_lookAround_62 : decode cX2_lookAround 62 = .ok (.iload_n 1, 1) := by decide +kernel
theorem dX2_lookAround_63 : decode cX2_lookAround 63 = .ok (.iaload, 1) := by decide +kernel
theorem dX2_lookAround_64 : decode cX2_lookAround 64 = .ok (.dup2, 1) := by decide +kernel
theorem dX2_lookAround_65 : decode cX2_lookAround 65 = .ok (.iaload, 1) := by decide +kernel
theorem dX2_lookAround_66 : decode cX2_lookAround 66 = .ok (.iconst 1, 1) := by decide +kernel
theorem dX2_lookAround_67 : decode cX2_lookAround 67 = .ok (.iload_n 1, 1) := by decide +kernel
theorem dX2_lookAround_68 : decode cX2_lookAround 68 = .ok (.ishl, 1) := by decide +kernel
theorem dX2_lookAround_69 : decode cX2_lookAround 69 = .ok (.ior, 1) := by decide +kernel
theorem dX2_lookAround_70 : decode cX2_lookAround 70 = .ok (.iastore, 1) := by decide +kernel
theorem dX2_lookAround_71 : decode cX2_lookAround 71 = .ok (.aload_n 0, 1) := by decide +kernel
theorem dX2_lookAround_72 : decode cX2_lookAround 72 = .ok (.getfield 49, 3) := by decide +kernel
theorem dX2_lookAround_75 : decode cX2_lookAround 75 = .ok (.iload_n 2, 1) := by decide +kernel
theorem dX2_lookAround_76 : decode cX2_lookAround 76 = .ok (.dup2, 1) := by decide +kernel
theorem dX2_lookAround_77 : decode cX2_lookAround 77 = .ok (.iaload, 1) := by decide +kernel
theorem dX2_lookAround_78 : decode cX2_lookAround 78 = .ok (.iconst 1, 1) := by decide +kernel
theorem dX2_lookAround_79 : decode cX2_lookAround 79 = .ok (.iload_n 1, 1) := by decide +kernel
theorem dX2_lookAround_80 : decode cX2_lookAround 80 = .ok (.ishl, 1) := by decide +kernel
theorem dX2_lookAround_81 : decode cX2_lookAround 81 = .ok (.ior, 1) := by decide +kernel
theorem dX2_lookAround_82 : decode cX2_lookAround 82 = .ok (.iastore, 1) := by decide +kernel
theorem dX2_lookAround_83 : decode cX2_lookAround 83 = .ok (.iinc 1 1, 3) := by decide +kernel
theorem dX2_lookAround_86 : decode cX2_lookAround 86 = .ok (.goto (-68), 3) := by decide +kernel
theorem dX2_lookAround_89 : decode cX2_lookAround 89 = .ok (.iconst 0, 1) := by decide +kernel
theorem dX2_lookAround_90 : decode cX2_lookAround 90 = .ok (.istore_n 1, 1) := by decide +kernel
theorem dX2_lookAround_91 : decode cX2_lookAround 91 = .ok (.iload_n 1, 1) := by decide +kernel
theorem dX2_lookAround_92 : decode cX2_lookAround 92 = .ok (.aload_n 0, 1) := by decide +kernel
theorem dX2_lookAround_93 : decode cX2_lookAround 93 = .ok (.getfield 52, 3) := by decide +kernel
theorem dX2_lookAround_96 : decode cX2_lookAround 96 = .ok (.if_icmp .ge 44, 3) := by decide +kernel
theorem dX2_lookAround_99 : decode cX2_lookAround 99 = .ok (.aload_n 0, 1) := by decide +kernel
theorem dX2_lookAround_100 : decode cX2_lookAround 100 = .ok (.getfield 43, 3) := by decide +kernel
theorem dX2_lookAround_103 : decode cX2_lookAround 103 = .ok (.iload_n 1, 1) := by decide +kernel
theorem dX2_lookAround_104 : decode cX2_lookAround 104 = .ok (.aload_n 0, 1) := by decide +kernel
theorem dX2_lookAround_105 : decode cX2_lookAround 105 = .ok (.getfield 46, 3) := by decide +kernel
theorem dX2_lookAround_108 : decode cX2_lookAround 108 = .ok (.aload_n 0, 1) := by decide +kernel
theorem dX2_lookAround_109 : decode cX2_lookAround 109 = .ok (.getfield 40, 3) := by decide +kernel
theorem dX2_lookAround_112 : decode cX2_lookAround 112 = .ok (.iload_n 1, 1) := by decide +kernel
theorem dX2_lookAround_113 : decode cX2_lookAround 113 = .ok (.iaload, 1) := by decide +kernel
theorem dX2_lookAround_114 : decode cX2_lookAround 114 = .ok (.iaload, 1) := by decide +kernel
theorem dX2_lookAround_115 : decode cX2_lookAround 115 = .ok (.aload_n 0, 1) := by decide +kernel
theorem dX2_lookAround_116 : decode cX2_lookAround 116 = .ok (.getfield 49, 3) := by decide +kernel
theorem dX2_lookAround_119 : decode cX2_lookAround 119 = .ok (.aload_n 0, 1) := by decide +kernel
theorem dX2_lookAround_120 : decode cX2_lookAround 120 = .ok (.getfield 25, 3) := by decide +kernel
theorem dX2_lookAround_123 : decode cX2_lookAround 123 = .ok (.iload_n 1, 1) := by decide +kernel
theorem dX2_lookAround_124 : decode cX2_lookAround 124 = .ok (.iaload, 1) := by decide +kernel
theorem dX2_lookAround_125 : decode cX2_lookAround 125 = .ok (.iaload, 1) := by decide +kernel
theorem dX2_lookAround_126 : decode cX2_lookAround 126 = .ok (.iand, 1) := by decide +kernel
theorem dX2_lookAround_127 : decode cX2_lookAround 127 = .ok (.iconst 1, 1) := by decide +kernel
theorem dX2_lookAround_128 : decode cX2_lookAround 128 = .ok (.iload_n 1, 1) := by decide +kernel
theorem dX2_lookAround_129 : decode cX2_lookAround 129 = .ok (.ishl, 1) := by decide +kernel
theorem dX2_lookAround_130 : decode cX2_lookAround 130 = .ok (.iconst (-1), 1) := by decide +kernel
theorem dX2_lookAround_131 : decode cX2_lookAround 131 = .ok (.ixor, 1) := by decide +kernel
theorem dX2_lookAround_132 : decode cX2_lookAround 132 = .ok (.iand, 1) := by decide +kernel
theorem dX2_lookAround_133 : decode cX2_lookAround 133 = .ok (.iastore, 1) := by decide +kernel
theorem dX2_lookAround_134 : decode cX2_lookAround 134 = .ok (.iinc 1 1, 3) := by decide +kernel
theorem dX2_lookAround_137 : decode cX2_lookAround 137 = .ok (.goto (-46), 3) := by decide +kernel
theorem dX2_lookAround_140 : decode cX2_lookAround 140 = .ok (.return_, 1) := by decide +kernel
theorem dX2_facedBy_0 : decode cX2_facedBy 0 = .ok (.aload_n 0, 1) := by decide +kernel
theorem dX2_facedBy_1 : decode cX2_facedBy 1 = .ok (.getfield 40, 3) := by decide +kernel
theorem dX2_facedBy_4 : decode cX2_facedBy 4 = .ok (.iload_n 1, 1) := by decide +kernel
theorem dX2_facedBy_5 : decode cX2_facedBy 5 = .ok (.iaload, 1) := by decide +kernel
theorem dX2_facedBy_6 : decode cX2_facedBy 6 = .ok (.ireturn, 1) := by decide +kernel
theorem dX2_meetsOf_0 : decode cX2_meetsOf 0 = .ok (.aload_n 0, 1) := by decide +kernel
theorem dX2_meetsOf_1 : decode cX2_meetsOf 1 = .ok (.getfield 43, 3) := by decide +kernel
theorem dX2_meetsOf_4 : decode cX2_meetsOf 4 = .ok (.iload_n 1, 1) := by decide +kernel
theorem dX2_meetsOf_5 : decode cX2_meetsOf 5 = .ok (.iaload, 1) := by decide +kernel
theorem dX2_meetsOf_6 : decode cX2_meetsOf 6 = .ok (.ireturn, 1) := by decide +kernel
theorem dX2_standingAt_0 : decode cX2_standingAt 0 = .ok (.aload_n 0, 1) := by decide +kernel
theorem dX2_standingAt_1 : decode cX2_standingAt 1 = .ok (.getfield 46, 3) := by decide +kernel
theorem dX2_standingAt_4 : decode cX2_standingAt 4 = .ok (.iload_n 1, 1) := by decide +kernel
theorem dX2_standingAt_5 : decode cX2_standingAt 5 = .ok (.iaload, 1) := by decide +kernel
theorem dX2_standingAt_6 : decode cX2_standingAt 6 = .ok (.ireturn, 1) := by decide +kernel
theorem dX2_facing_0 : decode cX2_facing 0 = .ok (.aload_n 0, 1) := by decide +kernel
theorem dX2_facing_1 : decode cX2_facing 1 = .ok (.getfield 49, 3) := by decide +kernel
theorem dX2_facing_4 : decode cX2_facing 4 = .ok (.iload_n 1, 1) := by decide +kernel
theorem dX2_facing_5 : decode cX2_facing 5 = .ok (.iaload, 1) := by decide +kernel
theorem dX2_facing_6 : decode cX2_facing 6 = .ok (.ireturn, 1) := by decide +kernel
theorem dX2_everyone_0 : decode cX2_everyone 0 = .ok (.iconst 1, 1) := by decide +kernel
theorem dX2_everyone_1 : decode cX2_everyone 1 = .ok (.aload_n 0, 1) := by decide +kernel
theorem dX2_everyone_2 : decode cX2_everyone 2 = .ok (.getfield 52, 3) := by decide +kernel
theorem dX2_everyone_5 : decode cX2_everyone 5 = .ok (.ishl, 1) := by decide +kernel
theorem dX2_everyone_6 : decode cX2_everyone 6 = .ok (.iconst 1, 1) := by decide +kernel
theorem dX2_everyone_7 : decode cX2_everyone 7 = .ok (.isub, 1) := by decide +kernel
theorem dX2_everyone_8 : decode cX2_everyone 8 = .ok (.ireturn, 1) := by decide +kernel
theorem dX2_meeting_0 : decode cX2_meeting 0 = .ok (.iconst 0, 1) := by decide +kernel
theorem dX2_meeting_1 : decode cX2_meeting 1 = .ok (.istore_n 1, 1) := by decide +kernel
theorem dX2_meeting_2 : decode cX2_meeting 2 = .ok (.iconst 0, 1) := by decide +kernel
theorem dX2_meeting_3 : decode cX2_meeting 3 = .ok (.istore_n 2, 1) := by decide +kernel
theorem dX2_meeting_4 : decode cX2_meeting 4 = .ok (.iload_n 2, 1) := by decide +kernel
theorem dX2_meeting_5 : decode cX2_meeting 5 = .ok (.aload_n 0, 1) := by decide +kernel
theorem dX2_meeting_6 : decode cX2_meeting 6 = .ok (.getfield 52, 3) := by decide +kernel
theorem dX2_meeting_9 : decode cX2_meeting 9 = .ok (.if_icmp .ge 24, 3) := by decide +kernel
theorem dX2_meeting_12 : decode cX2_meeting 12 = .ok (.aload_n 0, 1) := by decide +kernel
theorem dX2_meeting_13 : decode cX2_meeting 13 = .ok (.getfield 43, 3) := by decide +kernel
theorem dX2_meeting_16 : decode cX2_meeting 16 = .ok (.iload_n 2, 1) := by decide +kernel
theorem dX2_meeting_17 : decode cX2_meeting 17 = .ok (.iaload, 1) := by decide +kernel
theorem dX2_meeting_18 : decode cX2_meeting 18 = .ok (.ifCond .eq 9, 3) := by decide +kernel
theorem dX2_meeting_21 : decode cX2_meeting 21 = .ok (.iload_n 1, 1) := by decide +kernel
theorem dX2_meeting_22 : decode cX2_meeting 22 = .ok (.iconst 1, 1) := by decide +kernel
theorem dX2_meeting_23 : decode cX2_meeting 23 = .ok (.iload_n 2, 1) := by decide +kernel
theorem dX2_meeting_24 : decode cX2_meeting 24 = .ok (.ishl, 1) := by decide +kernel
theorem dX2_meeting_25 : decode cX2_meeting 25 = .ok (.ior, 1) := by decide +kernel
theorem dX2_meeting_26 : decode cX2_meeting 26 = .ok (.istore_n 1, 1) := by decide +kernel
theorem dX2_meeting_27 : decode cX2_meeting 27 = .ok (.iinc 2 1, 3) := by decide +kernel
theorem dX2_meeting_30 : decode cX2_meeting 30 = .ok (.goto (-26), 3) := by decide +kernel
theorem dX2_meeting_33 : decode cX2_meeting 33 = .ok (.iload_n 1, 1) := by decide +kernel
theorem dX2_meeting_34 : decode cX2_meeting 34 = .ok (.ireturn, 1) := by decide +kernel
theorem dX2_valleysStoodAt_0 : decode cX2_valleysStoodAt 0 = .ok (.aload_n 0, 1) := by decide +kernel
theorem dX2_valleysStoodAt_1 : decode cX2_valleysStoodAt 1 = .ok (.getfield 46, 3) := by decide +kernel
theorem dX2_valleysStoodAt_4 : decode cX2_valleysStoodAt 4 = .ok (.invokestatic 76, 3) := by decide +kernel
theorem dX2_valleysStoodAt_7 : decode cX2_valleysStoodAt 7 = .ok (.ireturn, 1) := by decide +kernel
theorem dX2_valleysFaced_0 : decode cX2_valleysFaced 0 = .ok (.aload_n 0, 1) := by decide +kernel
theorem dX2_valleysFaced_1 : decode cX2_valleysFaced 1 = .ok (.getfield 49, 3) := by decide +kernel
theorem dX2_valleysFaced_4 : decode cX2_valleysFaced 4 = .ok (.invokestatic 76, 3) := by decide +kernel
theorem dX2_valleysFaced_7 : decode cX2_valleysFaced 7 = .ok (.ireturn, 1) := by decide +kernel
theorem dX2_valleysIn_0 : decode cX2_valleysIn 0 = .ok (.iconst 0, 1) := by decide +kernel
theorem dX2_valleysIn_1 : decode cX2_valleysIn 1 = .ok (.istore_n 1, 1) := by decide +kernel
theorem dX2_valleysIn_2 : decode cX2_valleysIn 2 = .ok (.iconst 0, 1) := by decide +kernel
theorem dX2_valleysIn_3 : decode cX2_valleysIn 3 = .ok (.istore_n 2, 1) := by decide +kernel
theorem dX2_valleysIn_4 : decode cX2_valleysIn 4 = .ok (.iload_n 2, 1) := by decide +kernel
theorem dX2_valleysIn_5 : decode cX2_valleysIn 5 = .ok (.bipush 12, 2) := by decide +kernel
theorem dX2_valleysIn_7 : decode cX2_valleysIn 7 = .ok (.if_icmp .ge 21, 3) := by decide +kernel
theorem dX2_valleysIn_10 : decode cX2_valleysIn 10 = .ok (.aload_n 0, 1) := by decide +kernel
theorem dX2_valleysIn_11 : decode cX2_valleysIn 11 = .ok (.iload_n 2, 1) := by decide +kernel
theorem dX2_valleysIn_12 : decode cX2_valleysIn 12 = .ok (.iaload, 1) := by decide +kernel
theorem dX2_valleysIn_13 : decode cX2_valleysIn 13 = .ok (.ifCond .eq 9, 3) := by decide +kernel
theorem dX2_valleysIn_16 : decode cX2_valleysIn 16 = .ok (.iload_n 1, 1) := by decide +kernel
theorem dX2_valleysIn_17 : decode cX2_valleysIn 17 = .ok (.iconst 1, 1) := by decide +kernel
theorem dX2_valleysIn_18 : decode cX2_valleysIn 18 = .ok (.iload_n 2, 1) := by decide +kernel
theorem dX2_valleysIn_19 : decode cX2_valleysIn 19 = .ok (.ishl, 1) := by decide +kernel
theorem dX2_valleysIn_20 : decode cX2_valleysIn 20 = .ok (.ior, 1) := by decide +kernel
theorem dX2_valleysIn_21 : decode cX2_valleysIn 21 = .ok (.istore_n 1, 1) := by decide +kernel
theorem dX2_valleysIn_22 : decode cX2_valleysIn 22 = .ok (.iinc 2 1, 3) := by decide +kernel
theorem dX2_valleysIn_25 : decode cX2_valleysIn 25 = .ok (.goto (-21), 3) := by decide +kernel
theorem dX2_valleysIn_28 : decode cX2_valleysIn 28 = .ok (.iload_n 1, 1) := by decide +kernel
theorem dX2_valleysIn_29 : decode cX2_valleysIn 29 = .ok (.ireturn, 1) := by decide +kernel
theorem dX2_heightOfAll_0 : decode cX2_heightOfAll 0 = .ok (.aload_n 0, 1) := by decide +kernel
theorem dX2_heightOfAll_1 : decode cX2_heightOfAll 1 = .ok (.aload_n 0, 1) := by decide +kernel
theorem dX2_heightOfAll_2 : decode cX2_heightOfAll 2 = .ok (.getfield 34, 3) := by decide +kernel
theorem dX2_heightOfAll_5 : decode cX2_heightOfAll 5 = .ok (.invokevirtual 80, 3) := by decide +kernel
theorem dX2_heightOfAll_8 : decode cX2_heightOfAll 8 = .ok (.ireturn, 1) := by decide +kernel
theorem dX2_bowedOfAll_0 : decode cX2_bowedOfAll 0 = .ok (.aload_n 0, 1) := by decide +kernel
theorem dX2_bowedOfAll_1 : decode cX2_bowedOfAll 1 = .ok (.aload_n 0, 1) := by decide +kernel
theorem dX2_bowedOfAll_2 : decode cX2_bowedOfAll 2 = .ok (.getfield 37, 3) := by decide +kernel
theorem dX2_bowedOfAll_5 : decode cX2_bowedOfAll 5 = .ok (.invokevirtual 80, 3) := by decide +kernel
theorem dX2_bowedOfAll_8 : decode cX2_bowedOfAll 8 = .ok (.ireturn, 1) := by decide +kernel
theorem dX2_sumOf_0 : decode cX2_sumOf 0 = .ok (.iconst 0, 1) := by decide +kernel
theorem dX2_sumOf_1 : decode cX2_sumOf 1 = .ok (.istore_n 2, 1) := by decide +kernel
theorem dX2_sumOf_2 : decode cX2_sumOf 2 = .ok (.iconst 0, 1) := by decide +kernel
theorem dX2_sumOf_3 : decode cX2_sumOf 3 = .ok (.istore_n 3, 1) := by decide +kernel
theorem dX2_sumOf_4 : decode cX2_sumOf 4 = .ok (.iload_n 3, 1) := by decide +kernel
theorem dX2_sumOf_5 : decode cX2_sumOf 5 = .ok (.aload_n 0, 1) := by decide +kernel
theorem dX2_sumOf_6 : decode cX2_sumOf 6 = .ok (.getfield 52, 3) := by decide +kernel
theorem dX2_sumOf_9 : decode cX2_sumOf 9 = .ok (.if_icmp .ge 15, 3) := by decide +kernel
theorem dX2_sumOf_12 : decode cX2_sumOf 12 = .ok (.iload_n 2, 1) := by decide +kernel
theorem dX2_sumOf_13 : decode cX2_sumOf 13 = .ok (.aload_n 1, 1) := by decide +kernel
theorem dX2_sumOf_14 : decode cX2_sumOf 14 = .ok (.iload_n 3, 1) := by decide +kernel
theorem dX2_sumOf_15 : decode cX2_sumOf 15 = .ok (.iaload, 1) := by decide +kernel
theorem dX2_sumOf_16 : decode cX2_sumOf 16 = .ok (.iadd, 1) := by decide +kernel
theorem dX2_sumOf_17 : decode cX2_sumOf 17 = .ok (.istore_n 2, 1) := by decide +kernel
theorem dX2_sumOf_18 : decode cX2_sumOf 18 = .ok (.iinc 3 1, 3) := by decide +kernel
theorem dX2_sumOf_21 : decode cX2_sumOf 21 = .ok (.goto (-17), 3) := by decide +kernel
theorem dX2_sumOf_24 : decode cX2_sumOf 24 = .ok (.iload_n 2, 1) := by decide +kernel
theorem dX2_sumOf_25 : decode cX2_sumOf 25 = .ok (.ireturn, 1) := by decide +kernel
theorem dX2_spotsHeld_0 : decode cX2_spotsHeld 0 = .ok (.iconst 0, 1) := by decide +kernel
theorem dX2_spotsHeld_1 : decode cX2_spotsHeld 1 = .ok (.istore_n 1, 1) := by decide +kernel
theorem dX2_spotsHeld_2 : decode cX2_spotsHeld 2 = .ok (.iconst 0, 1) := by decide +kernel
theorem dX2_spotsHeld_3 : decode cX2_spotsHeld 3 = .ok (.istore_n 2, 1) := by decide +kernel
theorem dX2_spotsHeld_4 : decode cX2_spotsHeld 4 = .ok (.iload_n 2, 1) := by decide +kernel
theorem dX2_spotsHeld_5 : decode cX2_spotsHeld 5 = .ok (.bipush 10, 2) := by decide +kernel
theorem dX2_spotsHeld_7 : decode cX2_spotsHeld 7 = .ok (.if_icmp .ge 21, 3) := by decide +kernel
theorem dX2_spotsHeld_10 : decode cX2_spotsHeld 10 = .ok (.aload_n 0, 1) := by decide +kernel
theorem dX2_spotsHeld_11 : decode cX2_spotsHeld 11 = .ok (.getfield 18, 3) := by decide +kernel
theorem dX2_spotsHeld_14 : decode cX2_spotsHeld 14 = .ok (.iload_n 2, 1) := by decide +kernel
theorem dX2_spotsHeld_15 : decode cX2_spotsHeld 15 = .ok (.iaload, 1) := by decide +kernel
theorem dX2_spotsHeld_16 : decode cX2_spotsHeld 16 = .ok (.ifCond .lt 6, 3) := by decide +kernel
theorem dX2_spotsHeld_19 : decode cX2_spotsHeld 19 = .ok (.iinc 1 1, 3) := by decide +kernel
theorem dX2_spotsHeld_22 : decode cX2_spotsHeld 22 = .ok (.iinc 2 1, 3) := by decide +kernel
theorem dX2_spotsHeld_25 : decode cX2_spotsHeld 25 = .ok (.goto (-21), 3) := by decide +kernel
theorem dX2_spotsHeld_28 : decode cX2_spotsHeld 28 = .ok (.iload_n 1, 1) := by decide +kernel
theorem dX2_spotsHeld_29 : decode cX2_spotsHeld 29 = .ok (.ireturn, 1) := by decide +kernel
theorem dX2_highestAt_0 : decode cX2_highestAt 0 = .ok (.iconst (-1), 1) := by decide +kernel
theorem dX2_highestAt_1 : decode cX2_highestAt 1 = .ok (.istore_n 2, 1) := by decide +kernel
theorem dX2_highestAt_2 : decode cX2_highestAt 2 = .ok (.iconst 0, 1) := by decide +kernel
theorem dX2_highestAt_3 : decode cX2_highestAt 3 = .ok (.istore_n 3, 1) := by decide +kernel
theorem dX2_highestAt_4 : decode cX2_highestAt 4 = .ok (.iload_n 3, 1) := by decide +kernel
theorem dX2_highestAt_5 : decode cX2_highestAt 5 = .ok (.aload_n 0, 1) := by decide +kernel
theorem dX2_highestAt_6 : decode cX2_highestAt 6 = .ok (.getfield 52, 3) := by decide +kernel
theorem dX2_highestAt_9 : decode cX2_highestAt 9 = .ok (.if_icmp .ge 36, 3) := by decide +kernel
theorem dX2_highestAt_12 : decode cX2_highestAt 12 = .ok (.aload_n 0, 1) := by decide +kernel
theorem dX2_highestAt_13 : decode cX2_highestAt 13 = .ok (.getfield 25, 3) := by decide +kernel
theorem dX2_highestAt_16 : decode cX2_highestAt 16 = .ok (.iload_n 3, 1) := by decide +kernel
theorem dX2_highestAt_17 : decode cX2_highestAt 17 = .ok (.iaload, 1) := by decide +kernel
theorem dX2_highestAt_18 : decode cX2_highestAt 18 = .ok (.iload_n 1, 1) := by decide +kernel
theorem dX2_highestAt_19 : decode cX2_highestAt 19 = .ok (.if_icmp .ne 20, 3) := by decide +kernel
theorem dX2_highestAt_22 : decode cX2_highestAt 22 = .ok (.aload_n 0, 1) := by decide +kernel
theorem dX2_highestAt_23 : decode cX2_highestAt 23 = .ok (.getfield 34, 3) := by decide +kernel
theorem dX2_highestAt_26 : decode cX2_highestAt 26 = .ok (.iload_n 3, 1) := by decide +kernel
theorem dX2_highestAt_27 : decode cX2_highestAt 27 = .ok (.iaload, 1) := by decide +kernel
theorem dX2_highestAt_28 : decode cX2_highestAt 28 = .ok (.iload_n 2, 1) := by decide +kernel
theorem dX2_highestAt_29 : decode cX2_highestAt 29 = .ok (.if_icmp .le 10, 3) := by decide +kernel
theorem dX2_highestAt_32 : decode cX2_highestAt 32 = .ok (.aload_n 0, 1) := by decide +kernel
theorem dX2_highestAt_33 : decode cX2_highestAt 33 = .ok (.getfield 34, 3) := by decide +kernel
theorem dX2_highestAt_36 : decode cX2_highestAt 36 = .ok (.iload_n 3, 1) := by decide +kernel
theorem dX2_highestAt_37 : decode cX2_highestAt 37 = .ok (.iaload, 1) := by decide +kernel
theorem dX2_highestAt_38 : decode cX2_highestAt 38 = .ok (.istore_n 2, 1) := by decide +kernel
theorem dX2_highestAt_39 : decode cX2_highestAt 39 = .ok (.iinc 3 1, 3) := by decide +kernel
theorem dX2_highestAt_42 : decode cX2_highestAt 42 = .ok (.goto (-38), 3) := by decide +kernel
theorem dX2_highestAt_45 : decode cX2_highestAt 45 = .ok (.iload_n 2, 1) := by decide +kernel
theorem dX2_highestAt_46 : decode cX2_highestAt 46 = .ok (.ireturn, 1) := by decide +kernel
theorem dX2_climbOn_0 : decode cX2_climbOn 0 = .ok (.iload_n 1, 1) := by decide +kernel
theorem dX2_climbOn_1 : decode cX2_climbOn 1 = .ok (.iload_n 2, 1) := by decide +kernel
theorem dX2_climbOn_2 : decode cX2_climbOn 2 = .ok (.invokestatic 83, 3) := by decide +kernel
theorem dX2_climbOn_5 : decode cX2_climbOn 5 = .ok (.istore_n 3, 1) := by decide +kernel
theorem dX2_climbOn_6 : decode cX2_climbOn 6 = .ok (.iconst 0, 1) := by decide +kernel
theorem dX2_climbOn_7 : decode cX2_climbOn 7 = .ok (.istore 4, 2) := by decide +kernel
theorem dX2_climbOn_9 : decode cX2_climbOn 9 = .ok (.iconst 0, 1) := by decide +kernel
theorem dX2_climbOn_10 : decode cX2_climbOn 10 = .ok (.istore 5, 2) := by decide +kernel
theorem dX2_climbOn_12 : decode cX2_climbOn 12 = .ok (.iload 5, 2) := by decide +kernel
theorem dX2_climbOn_14 : decode cX2_climbOn 14 = .ok (.aload_n 0, 1) := by decide +kernel
theorem dX2_climbOn_15 : decode cX2_climbOn 15 = .ok (.getfield 52, 3) := by decide +kernel
theorem dX2_climbOn_18 : decode cX2_climbOn 18 = .ok (.if_icmp .ge 54, 3) := by decide +kernel
theorem dX2_climbOn_21 : decode cX2_climbOn 21 = .ok (.iload_n 1, 1) := by decide +kernel
theorem dX2_climbOn_22 : decode cX2_climbOn 22 = .ok (.aload_n 0, 1) := by decide +kernel
theorem dX2_climbOn_23 : decode cX2_climbOn 23 = .ok (.getfield 25, 3) := by decide +kernel
theorem dX2_climbOn_26 : decode cX2_climbOn 26 = .ok (.iload 5, 2) := by decide +kernel
theorem dX2_climbOn_28 : decode cX2_climbOn 28 = .ok (.iaload, 1) := by decide +kernel
theorem dX2_climbOn_29 : decode cX2_climbOn 29 = .ok (.invokestatic 83, 3) := by decide +kernel
theorem dX2_climbOn_32 : decode cX2_climbOn 32 = .ok (.istore 6, 2) := by decide +kernel
theorem dX2_climbOn_34 : decode cX2_climbOn 34 = .ok (.iload 6, 2) := by decide +kernel
theorem dX2_climbOn_36 : decode cX2_climbOn 36 = .ok (.ifCond .le 30, 3) := by decide +kernel
theorem dX2_climbOn_39 : decode cX2_climbOn 39 = .ok (.iload 6, 2) := by decide +kernel
theorem dX2_climbOn_41 : decode cX2_climbOn 41 = .ok (.iload_n 3, 1) := by decide +kernel
theorem dX2_climbOn_42 : decode cX2_climbOn 42 = .ok (.if_icmp .ge 24, 3) := by decide +kernel
theorem dX2_climbOn_45 : decode cX2_climbOn 45 = .ok (.aload_n 0, 1) := by decide +kernel
theorem dX2_climbOn_46 : decode cX2_climbOn 46 = .ok (.getfield 34, 3) := by decide +kernel
theorem dX2_climbOn_49 : decode cX2_climbOn 49 = .ok (.iload 5, 2) := by decide +kernel
theorem dX2_climbOn_51 : decode cX2_climbOn 51 = .ok (.iaload, 1) := by decide +kernel
theorem dX2_climbOn_52 : decode cX2_climbOn 52 = .ok (.iload 4, 2) := by decide +kernel
theorem dX2_climbOn_54 : decode cX2_climbOn 54 = .ok (.if_icmp .le 12, 3) := by decide +kernel
theorem dX2_climbOn_57 : decode cX2_climbOn 57 = .ok (.aload_n 0, 1) := by decide +kernel
theorem dX2_climbOn_58 : decode cX2_climbOn 58 = .ok (.getfield 34, 3) := by decide +kernel
theorem dX2_climbOn_61 : decode cX2_climbOn 61 = .ok (.iload 5, 2) := by decide +kernel
theorem dX2_climbOn_63 : decode cX2_climbOn 63 = .ok (.iaload, 1) := by decide +kernel
theorem dX2_climbOn_64 : decode cX2_climbOn 64 = .ok (.istore 4, 2) := by decide +kernel
theorem dX2_climbOn_66 : decode cX2_climbOn 66 = .ok (.iinc 5 1, 3) := by decide +kernel
theorem dX2_climbOn_69 : decode cX2_climbOn 69 = .ok (.goto (-57), 3) := by decide +kernel
theorem dX2_climbOn_72 : decode cX2_climbOn 72 = .ok (.iload 4, 2) := by decide +kernel
theorem dX2_climbOn_74 : decode cX2_climbOn 74 = .ok (.ireturn, 1) := by decide +kernel
theorem dX2_leastClimb_0 : decode cX2_leastClimb 0 = .ok (.aload_n 0, 1) := by decide +kernel
theorem dX2_leastClimb_1 : decode cX2_leastClimb 1 = .ok (.iload_n 1, 1) := by decide +kernel
theorem dX2_leastClimb_2 : decode cX2_leastClimb 2 = .ok (.iload_n 2, 1) := by decide +kernel
theorem dX2_leastClimb_3 : decode cX2_leastClimb 3 = .ok (.invokevirtual 87, 3) := by decide +kernel
theorem dX2_leastClimb_6 : decode cX2_leastClimb 6 = .ok (.aload_n 0, 1) := by decide +kernel
theorem dX2_leastClimb_7 : decode cX2_leastClimb 7 = .ok (.iload_n 2, 1) := by decide +kernel
theorem dX2_leastClimb_8 : decode cX2_leastClimb 8 = .ok (.iload_n 1, 1) := by decide +kernel
theorem dX2_leastClimb_9 : decode cX2_leastClimb 9 = .ok (.invokevirtual 87, 3) := by decide +kernel
theorem dX2_leastClimb_12 : decode cX2_leastClimb 12 = .ok (.invokestatic 90, 3) := by decide +kernel
theorem dX2_leastClimb_15 : decode cX2_leastClimb 15 = .ok (.ireturn, 1) := by decide +kernel
theorem dX2_movesOf_0 : decode cX2_movesOf 0 = .ok (.aload_n 0, 1) := by decide +kernel
theorem dX2_movesOf_1 : decode cX2_movesOf 1 = .ok (.getfield 22, 3) := by decide +kernel
theorem dX2_movesOf_4 : decode cX2_movesOf 4 = .ok (.iload_n 1, 1) := by decide +kernel
theorem dX2_movesOf_5 : decode cX2_movesOf 5 = .ok (.iaload, 1) := by decide +kernel
theorem dX2_movesOf_6 : decode cX2_movesOf 6 = .ok (.tableswitch 92 0 6 #[42, 49, 73, 79, 85, 92, 58], 42) := by decide +kernel
theorem dX2_movesOf_48 : decode cX2_movesOf 48 = .ok (.aload_n 0, 1) := by decide +kernel
theorem dX2_movesOf_49 : decode cX2_movesOf 49 = .ok (.getfield 28, 3) := by decide +kernel
theorem dX2_movesOf_52 : decode cX2_movesOf 52 = .ok (.iload_n 1, 1) := by decide +kernel
theorem dX2_movesOf_53 : decode cX2_movesOf 53 = .ok (.iaload, 1) := by decide +kernel
theorem dX2_movesOf_54 : decode cX2_movesOf 54 = .ok (.ireturn, 1) := by decide +kernel
theorem dX2_movesOf_55 : decode cX2_movesOf 55 = .ok (.iconst 2, 1) := by decide +kernel
theorem dX2_movesOf_56 : decode cX2_movesOf 56 = .ok (.aload_n 0, 1) := by decide +kernel
theorem dX2_movesOf_57 : decode cX2_movesOf 57 = .ok (.getfield 28, 3) := by decide +kernel
theorem dX2_movesOf_60 : decode cX2_movesOf 60 = .ok (.iload_n 1, 1) := by decide +kernel
theorem dX2_movesOf_61 : decode cX2_movesOf 61 = .ok (.iaload, 1) := by decide +kernel
theorem dX2_movesOf_62 : decode cX2_movesOf 62 = .ok (.imul, 1) := by decide +kernel
theorem dX2_movesOf_63 : decode cX2_movesOf 63 = .ok (.ireturn, 1) := by decide +kernel
theorem dX2_movesOf_64 : decode cX2_movesOf 64 = .ok (.iconst 2, 1) := by decide +kernel
theorem dX2_movesOf_65 : decode cX2_movesOf 65 = .ok (.aload_n 0, 1) := by decide +kernel
theorem dX2_movesOf_66 : decode cX2_movesOf 66 = .ok (.getfield 28, 3) := by decide +kernel
theorem dX2_movesOf_69 : decode cX2_movesOf 69 = .ok (.iload_n 1, 1) := by decide +kernel
theorem dX2_movesOf_70 : decode cX2_movesOf 70 = .ok (.iaload, 1) := by decide +kernel
theorem dX2_movesOf_71 : decode cX2_movesOf 71 = .ok (.imul, 1) := by decide +kernel
theorem dX2_movesOf_72 : decode cX2_movesOf 72 = .ok (.aload_n 0, 1) := by decide +kernel
theorem dX2_movesOf_73 : decode cX2_movesOf 73 = .ok (.iload_n 1, 1) := by decide +kernel
theorem dX2_movesOf_74 : decode cX2_movesOf 74 = .ok (.invokevirtual 95, 3) := by decide +kernel
theorem dX2_movesOf_77 : decode cX2_movesOf 77 = .ok (.iadd, 1) := by decide +kernel
theorem dX2_movesOf_78 : decode cX2_movesOf 78 = .ok (.ireturn, 1) := by decide +kernel
theorem dX2_movesOf_79 : decode cX2_movesOf 79 = .ok (.aload_n 0, 1) := by decide +kernel
theorem dX2_movesOf_80 : decode cX2_movesOf 80 = .ok (.iload_n 1, 1) := by decide +kernel
theorem dX2_movesOf_81 : decode cX2_movesOf 81 = .ok (.invokevirtual 99, 3) := by decide +kernel
theorem dX2_movesOf_84 : decode cX2_movesOf 84 = .ok (.ireturn, 1) := by decide +kernel
theorem dX2_movesOf_85 : decode cX2_movesOf 85 = .ok (.aload_n 0, 1) := by decide +kernel
theorem dX2_movesOf_86 : decode cX2_movesOf 86 = .ok (.iload_n 1, 1) := by decide +kernel
theorem dX2_movesOf_87 : decode cX2_movesOf 87 = .ok (.invokevirtual 102, 3) := by decide +kernel
theorem dX2_movesOf_90 : decode cX2_movesOf 90 = .ok (.ireturn, 1) := by decide +kernel
theorem dX2_movesOf_91 : decode cX2_movesOf 91 = .ok (.aload_n 0, 1) := by decide +kernel
theorem dX2_movesOf_92 : decode cX2_movesOf 92 = .ok (.iload_n 1, 1) := by decide +kernel
theorem dX2_movesOf_93 : decode cX2_movesOf 93 = .ok (.invokevirtual 102, 3) := by decide +kernel
theorem dX2_movesOf_96 : decode cX2_movesOf 96 = .ok (.ineg, 1) := by decide +kernel
theorem dX2_movesOf_97 : decode cX2_movesOf 97 = .ok (.ireturn, 1) := by decide +kernel
theorem dX2_movesOf_98 : decode cX2_movesOf 98 = .ok (.iconst 0, 1) := by decide +kernel
theorem dX2_movesOf_99 : decode cX2_movesOf 99 = .ok (.ireturn, 1) := by decide +kernel
theorem dX2_tallOf_0 : decode cX2_tallOf 0 = .ok (.aload_n 0, 1) := by decide +kernel
theorem dX2_tallOf_1 : decode cX2_tallOf 1 = .ok (.getfield 34, 3) := by decide +kernel
theorem dX2_tallOf_4 : decode cX2_tallOf 4 = .ok (.iload_n 1, 1) := by decide +kernel
theorem dX2_tallOf_5 : decode cX2_tallOf 5 = .ok (.iaload, 1) := by decide +kernel
theorem dX2_tallOf_6 : decode cX2_tallOf 6 = .ok (.bipush 50, 2) := by decide +kernel
theorem dX2_tallOf_8 : decode cX2_tallOf 8 = .ok (.if_icmp .le 7, 3) := by decide +kernel
theorem dX2_tallOf_11 : decode cX2_tallOf 11 = .ok (.iconst 1, 1) := by decide +kernel
theorem dX2_tallOf_12 : decode cX2_tallOf 12 = .ok (.goto 4, 3) := by decide +kernel
theorem dX2_tallOf_15 : decode cX2_tallOf 15 = .ok (.iconst 0, 1) := by decide +kernel
theorem dX2_tallOf_16 : decode cX2_tallOf 16 = .ok (.ireturn, 1) := by decide +kernel
theorem dX2_partnerMoves_0 : decode cX2_partnerMoves 0 = .ok (.aload_n 0, 1) := by decide +kernel
theorem dX2_partnerMoves_1 : decode cX2_partnerMoves 1 = .ok (.getfield 43, 3) := by decide +kernel
theorem dX2_partnerMoves_4 : decode cX2_partnerMoves 4 = .ok (.iload_n 1, 1) := by decide +kernel
theorem dX2_partnerMoves_5 : decode cX2_partnerMoves 5 = .ok (.iaload, 1) := by decide +kernel
theorem dX2_partnerMoves_6 : decode cX2_partnerMoves 6 = .ok (.ifCond .eq 7, 3) := by decide +kernel
theorem dX2_partnerMoves_9 : decode cX2_partnerMoves 9 = .ok (.iconst 0, 1) := by decide +kernel
theorem dX2_partnerMoves_10 : decode cX2_partnerMoves 10 = .ok (.goto 9, 3) := by decide +kernel
theorem dX2_partnerMoves_13 : decode cX2_partnerMoves 13 = .ok (.aload_n 0, 1) := by decide +kernel
theorem dX2_partnerMoves_14 : decode cX2_partnerMoves 14 = .ok (.getfield 28, 3) := by decide +kernel
theorem dX2_partnerMoves_17 : decode cX2_partnerMoves 17 = .ok (.iload_n 1, 1) := by decide +kernel
theorem dX2_partnerMoves_18 : decode cX2_partnerMoves 18 = .ok (.iaload, 1) := by decide +kernel
theorem dX2_partnerMoves_19 : decode cX2_partnerMoves 19 = .ok (.ireturn, 1) := by decide +kernel
theorem dX2_twinMoves_0 : decode cX2_twinMoves 0 = .ok (.aload_n 0, 1) := by decide +kernel
theorem dX2_twinMoves_1 : decode cX2_twinMoves 1 = .ok (.iload_n 1, 1) := by decide +kernel
theorem dX2_twinMoves_2 : decode cX2_twinMoves 2 = .ok (.invokevirtual 99, 3) := by decide +kernel
theorem dX2_twinMoves_5 : decode cX2_twinMoves 5 = .ok (.aload_n 0, 1) := by decide +kernel
theorem dX2_twinMoves_6 : decode cX2_twinMoves 6 = .ok (.getfield 46, 3) := by decide +kernel
theorem dX2_twinMoves_9 : decode cX2_twinMoves 9 = .ok (.aload_n 0, 1) := by decide +kernel
theorem dX2_twinMoves_10 : decode cX2_twinMoves 10 = .ok (.getfield 25, 3) := by decide +kernel
theorem dX2_twinMoves_13 : decode cX2_twinMoves 13 = .ok (.iload_n 1, 1) := by decide +kernel
theorem dX2_twinMoves_14 : decode cX2_twinMoves 14 = .ok (.iaload, 1) := by decide +kernel
theorem dX2_twinMoves_15 : decode cX2_twinMoves 15 = .ok (.iaload, 1) := by decide +kernel
theorem dX2_twinMoves_16 : decode cX2_twinMoves 16 = .ok (.invokestatic 105, 3) := by decide +kernel
theorem dX2_twinMoves_19 : decode cX2_twinMoves 19 = .ok (.iadd, 1) := by decide +kernel
theorem dX2_twinMoves_20 : decode cX2_twinMoves 20 = .ok (.iconst 1, 1) := by decide +kernel
theorem dX2_twinMoves_21 : decode cX2_twinMoves 21 = .ok (.isub, 1) := by decide +kernel
theorem dX2_twinMoves_22 : decode cX2_twinMoves 22 = .ok (.ireturn, 1) := by decide +kernel
theorem dX2_turnsOf_0 : decode cX2_turnsOf 0 = .ok (.aload_n 0, 1) := by decide +kernel
theorem dX2_turnsOf_1 : decode cX2_turnsOf 1 = .ok (.getfield 22, 3) := by decide +kernel
theorem dX2_turnsOf_4 : decode cX2_turnsOf 4 = .ok (.iload_n 1, 1) := by decide +kernel
theorem dX2_turnsOf_5 : decode cX2_turnsOf 5 = .ok (.iaload, 1) := by decide +kernel
theorem dX2_turnsOf_6 : decode cX2_turnsOf 6 = .ok (.tableswitch 64 0 6 #[42, 64, 42, 46, 54, 64, 44], 42) := by decide +kernel
theorem dX2_turnsOf_48 : decode cX2_turnsOf 48 = .ok (.iconst 1, 1) := by decide +kernel
theorem dX2_turnsOf_49 : decode cX2_turnsOf 49 = .ok (.ireturn, 1) := by decide +kernel
theorem dX2_turnsOf_50 : decode cX2_turnsOf 50 = .ok (.iconst 2, 1) := by decide +kernel
theorem dX2_turnsOf_51 : decode cX2_turnsOf 51 = .ok (.ireturn, 1) := by decide +kernel
theorem dX2_turnsOf_52 : decode cX2_turnsOf 52 = .ok (.iconst 1, 1) := by decide +kernel
theorem dX2_turnsOf_53 : decode cX2_turnsOf 53 = .ok (.aload_n 0, 1) := by decide +kernel
theorem dX2_turnsOf_54 : decode cX2_turnsOf 54 = .ok (.iload_n 1, 1) := by decide +kernel
theorem dX2_turnsOf_55 : decode cX2_turnsOf 55 = .ok (.invokevirtual 95, 3) := by decide +kernel
theorem dX2_turnsOf_58 : decode cX2_turnsOf 58 = .ok (.iadd, 1) := by decide +kernel
theorem dX2_turnsOf_59 : decode cX2_turnsOf 59 = .ok (.ireturn, 1) := by decide +kernel
theorem dX2_turnsOf_60 : decode cX2_turnsOf 60 = .ok (.iconst 3, 1) := by decide +kernel
theorem dX2_turnsOf_61 : decode cX2_turnsOf 61 = .ok (.iconst 1, 1) := by decide +kernel
theorem dX2_turnsOf_62 : decode cX2_turnsOf 62 = .ok (.aload_n 0, 1) := by decide +kernel
theorem dX2_turnsOf_63 : decode cX2_turnsOf 63 = .ok (.iload_n 1, 1) := by decide +kernel
theorem dX2_turnsOf_64 : decode cX2_turnsOf 64 = .ok (.invokevirtual 95, 3) := by decide +kernel
theorem dX2_turnsOf_67 : decode cX2_turnsOf 67 = .ok (.iadd, 1) := by decide +kernel
theorem dX2_turnsOf_68 : decode cX2_turnsOf 68 = .ok (.imul, 1) := by decide +kernel
theorem dX2_turnsOf_69 : decode cX2_turnsOf 69 = .ok (.ireturn, 1) := by decide +kernel
theorem dX2_turnsOf_70 : decode cX2_turnsOf 70 = .ok (.iconst 0, 1) := by decide +kernel
theorem dX2_turnsOf_71 : decode cX2_turnsOf 71 = .ok (.ireturn, 1) := by decide +kernel
theorem dX2_sinksOf_0 : decode cX2_sinksOf 0 = .ok (.aload_n 0, 1) := by decide +kernel
theorem dX2_sinksOf_1 : decode cX2_sinksOf 1 = .ok (.getfield 22, 3) := by decide +kernel
theorem dX2_sinksOf_4 : decode cX2_sinksOf 4 = .ok (.iload_n 1, 1) := by decide +kernel
theorem dX2_sinksOf_5 : decode cX2_sinksOf 5 = .ok (.iaload, 1) := by decide +kernel
theorem dX2_sinksOf_6 : decode cX2_sinksOf 6 = .ok (.tableswitch 65 0 6 #[42, 44, 49, 56, 56, 65, 49], 42) := by decide +kernel
theorem dX2_sinksOf_48 : decode cX2_sinksOf 48 = .ok (.iconst 1, 1) := by decide +kernel
theorem dX2_sinksOf_49 : decode cX2_sinksOf 49 = .ok (.ireturn, 1) := by decide +kernel
theorem dX2_sinksOf_50 : decode cX2_sinksOf 50 = .ok (.aload_n 0, 1) := by decide +kernel
theorem dX2_sinksOf_51 : decode cX2_sinksOf 51 = .ok (.getfield 9, 3) := by decide +kernel
theorem dX2_sinksOf_54 : decode cX2_sinksOf 54 = .ok (.ireturn, 1) := by decide +kernel
theorem dX2_sinksOf_55 : decode cX2_sinksOf 55 = .ok (.aload_n 0, 1) := by decide +kernel
theorem dX2_sinksOf_56 : decode cX2_sinksOf 56 = .ok (.getfield 9, 3) := by decide +kernel
theorem dX2_sinksOf_59 : decode cX2_sinksOf 59 = .ok (.iconst 1, 1) := by decide +kernel
theorem dX2_sinksOf_60 : decode cX2_sinksOf 60 = .ok (.iadd, 1) := by decide +kernel
theorem dX2_sinksOf_61 : decode cX2_sinksOf 61 = .ok (.ireturn, 1) := by decide +kernel
theorem dX2_sinksOf_62 : decode cX2_sinksOf 62 = .ok (.aload_n 0, 1) := by decide +kernel
theorem dX2_sinksOf_63 : decode cX2_sinksOf 63 = .ok (.getfield 9, 3) := by decide +kernel
theorem dX2_sinksOf_66 : decode cX2_sinksOf 66 = .ok (.iconst 1, 1) := by decide +kernel
theorem dX2_sinksOf_67 : decode cX2_sinksOf 67 = .ok (.iadd, 1) := by decide +kernel
theorem dX2_sinksOf_68 : decode cX2_sinksOf 68 = .ok (.iconst 2, 1) := by decide +kernel
theorem dX2_sinksOf_69 : decode cX2_sinksOf 69 = .ok (.idiv, 1) := by decide +kernel
theorem dX2_sinksOf_70 : decode cX2_sinksOf 70 = .ok (.ireturn, 1) := by decide +kernel
theorem dX2_sinksOf_71 : decode cX2_sinksOf 71 = .ok (.iconst 0, 1) := by decide +kernel
theorem dX2_sinksOf_72 : decode cX2_sinksOf 72 = .ok (.ireturn, 1) := by decide +kernel
theorem dX2_passAges_0 : decode cX2_passAges 0 = .ok (.iconst 0, 1) := by decide +kernel
theorem dX2_passAges_1 : decode cX2_passAges 1 = .ok (.istore_n 2, 1) := by decide +kernel
theorem dX2_passAges_2 : decode cX2_passAges 2 = .ok (.iload_n 2, 1) := by decide +kernel
theorem dX2_passAges_3 : decode cX2_passAges 3 = .ok (.iload_n 1, 1) := by decide +kernel
theorem dX2_passAges_4 : decode cX2_passAges 4 = .ok (.if_icmp .ge 13, 3) := by decide +kernel
theorem dX2_passAges_7 : decode cX2_passAges 7 = .ok (.aload_n 0, 1) := by decide +kernel
theorem dX2_passAges_8 : decode cX2_passAges 8 = .ok (.invokevirtual 110, 3) := by decide +kernel
theorem dX2_passAges_11 : decode cX2_passAges 11 = .ok (.iinc 2 1, 3) := by decide +kernel
theorem dX2_passAges_14 : decode cX2_passAges 14 = .ok (.goto (-12), 3) := by decide +kernel
theorem dX2_passAges_17 : decode cX2_passAges 17 = .ok (.return_, 1) := by decide +kernel
theorem dX2_passAge_0 : decode cX2_passAge 0 = .ok (.iconst 0, 1) := by decide +kernel
theorem dX2_passAge_1 : decode cX2_passAge 1 = .ok (.istore_n 1, 1) := by decide +kernel
theorem dX2_passAge_2 : decode cX2_passAge 2 = .ok (.iload_n 1, 1) := by decide +kernel
theorem dX2_passAge_3 : decode cX2_passAge 3 = .ok (.aload_n 0, 1) := by decide +kernel
theorem dX2_passAge_4 : decode cX2_passAge 4 = .ok (.getfield 52, 3) := by decide +kernel
theorem dX2_passAge_7 : decode cX2_passAge 7 = .ok (.if_icmp .ge 129, 3) := by decide +kernel
theorem dX2_passAge_10 : decode cX2_passAge 10 = .ok (.aload_n 0, 1) := by decide +kernel
theorem dX2_passAge_11 : decode cX2_passAge 11 = .ok (.iload_n 1, 1) := by decide +kernel
theorem dX2_passAge_12 : decode cX2_passAge 12 = .ok (.invokevirtual 113, 3) := by decide +kernel
theorem dX2_passAge_15 : decode cX2_passAge 15 = .ok (.istore_n 2, 1) := by decide +kernel
theorem dX2_passAge_16 : decode cX2_passAge 16 = .ok (.aload_n 0, 1) := by decide +kernel
theorem dX2_passAge_17 : decode cX2_passAge 17 = .ok (.iload_n 1, 1) := by decide +kernel
theorem dX2_passAge_18 : decode cX2_passAge 18 = .ok (.invokevirtual 116, 3) := by decide +kernel
theorem dX2_passAge_21 : decode cX2_passAge 21 = .ok (.istore_n 3, 1) := by decide +kernel
theorem dX2_passAge_22 : decode cX2_passAge 22 = .ok (.aload_n 0, 1) := by decide +kernel
theorem dX2_passAge_23 : decode cX2_passAge 23 = .ok (.getfield 43, 3) := by decide +kernel
theorem dX2_passAge_26 : decode cX2_passAge 26 = .ok (.iload_n 1, 1) := by decide +kernel
theorem dX2_passAge_27 : decode cX2_passAge 27 = .ok (.iaload, 1) := by decide +kernel
theorem dX2_passAge_28 : decode cX2_passAge 28 = .ok (.ifCond .eq 48, 3) := by decide +kernel
theorem dX2_passAge_31 : decode cX2_passAge 31 = .ok (.aload_n 0, 1) := by decide +kernel
theorem dX2_passAge_32 : decode cX2_passAge 32 = .ok (.getfield 34, 3) := by decide +kernel
theorem dX2_passAge_35 : decode cX2_passAge 35 = .ok (.iload_n 1, 1) := by decide +kernel
theorem dX2_passAge_36 : decode cX2_passAge 36 = .ok (.iconst 0, 1) := by decide +kernel
theorem dX2_passAge_37 : decode cX2_passAge 37 = .ok (.aload_n 0, 1) := by decide +kernel
theorem dX2_passAge_38 : decode cX2_passAge 38 = .ok (.getfield 34, 3) := by decide +kernel
theorem dX2_passAge_41 : decode cX2_passAge 41 = .ok (.iload_n 1, 1) := by decide +kernel
theorem dX2_passAge_42 : decode cX2_passAge 42 = .ok (.iaload, 1) := by decide +kernel
theorem dX2_passAge_43 : decode cX2_passAge 43 = .ok (.aload_n 0, 1) := by decide +kernel
theorem dX2_passAge_44 : decode cX2_passAge 44 = .ok (.iload_n 1, 1) := by decide +kernel
theorem dX2_passAge_45 : decode cX2_passAge 45 = .ok (.invokevirtual 119, 3) := by decide +kernel
theorem dX2_passAge_48 : decode cX2_passAge 48 = .ok (.isub, 1) := by decide +kernel
theorem dX2_passAge_49 : decode cX2_passAge 49 = .ok (.invokestatic 122, 3) := by decide +kernel
theorem dX2_passAge_52 : decode cX2_passAge 52 = .ok (.iastore, 1) := by decide +kernel
theorem dX2_passAge_53 : decode cX2_passAge 53 = .ok (.aload_n 0, 1) := by decide +kernel
theorem dX2_passAge_54 : decode cX2_passAge 54 = .ok (.getfield 37, 3) := by decide +kernel
theorem dX2_passAge_57 : decode cX2_passAge 57 = .ok (.iload_n 1, 1) := by decide +kernel
theorem dX2_passAge_58 : decode cX2_passAge 58 = .ok (.sipush 9999, 3) := by decide +kernel
theorem dX2_passAge_61 : decode cX2_passAge 61 = .ok (.aload_n 0, 1) := by decide +kernel
theorem dX2_passAge_62 : decode cX2_passAge 62 = .ok (.getfield 37, 3) := by decide +kernel
theorem dX2_passAge_65 : decode cX2_passAge 65 = .ok (.iload_n 1, 1) := by decide +kernel
theorem dX2_passAge_66 : decode cX2_passAge 66 = .ok (.iaload, 1) := by decide +kernel
theorem dX2_passAge_67 : decode cX2_passAge 67 = .ok (.iconst 1, 1) := by decide +kernel
theorem dX2_passAge_68 : decode cX2_passAge 68 = .ok (.iadd, 1) := by decide +kernel
theorem dX2_passAge_69 : decode cX2_passAge 69 = .ok (.invokestatic 90, 3) := by decide +kernel
theorem dX2_passAge_72 : decode cX2_passAge 72 = .ok (.iastore, 1) := by decide +kernel
theorem dX2_passAge_73 : decode cX2_passAge 73 = .ok (.goto 22, 3) := by decide +kernel
theorem dX2_passAge_76 : decode cX2_passAge 76 = .ok (.aload_n 0, 1) := by decide +kernel
theorem dX2_passAge_77 : decode cX2_passAge 77 = .ok (.getfield 34, 3) := by decide +kernel
theorem dX2_passAge_80 : decode cX2_passAge 80 = .ok (.iload_n 1, 1) := by decide +kernel
theorem dX2_passAge_81 : decode cX2_passAge 81 = .ok (.bipush 99, 2) := by decide +kernel
theorem dX2_passAge_83 : decode cX2_passAge 83 = .ok (.aload_n 0, 1) := by decide +kernel
theorem dX2_passAge_84 : decode cX2_passAge 84 = .ok (.getfield 34, 3) := by decide +kernel
theorem dX2_passAge_87 : decode cX2_passAge 87 = .ok (.iload_n 1, 1) := by decide +kernel
theorem dX2_passAge_88 : decode cX2_passAge 88 = .ok (.iaload, 1) := by decide +kernel
theorem dX2_passAge_89 : decode cX2_passAge 89 = .ok (.iconst 1, 1) := by decide +kernel
theorem dX2_passAge_90 : decode cX2_passAge 90 = .ok (.iadd, 1) := by decide +kernel
theorem dX2_passAge_91 : decode cX2_passAge 91 = .ok (.invokestatic 90, 3) := by decide +kernel
theorem dX2_passAge_94 : decode cX2_passAge 94 = .ok (.iastore, 1) := by decide +kernel
theorem dX2_passAge_95 : decode cX2_passAge 95 = .ok (.aload_n 0, 1) := by decide +kernel
theorem dX2_passAge_96 : decode cX2_passAge 96 = .ok (.getfield 25, 3) := by decide +kernel
theorem dX2_passAge_99 : decode cX2_passAge 99 = .ok (.iload_n 1, 1) := by decide +kernel
theorem dX2_passAge_100 : decode cX2_passAge 100 = .ok (.aload_n 0, 1) := by decide +kernel
theorem dX2_passAge_101 : decode cX2_passAge 101 = .ok (.getfield 25, 3) := by decide +kernel
theorem dX2_passAge_104 : decode cX2_passAge 104 = .ok (.iload_n 1, 1) := by decide +kernel
theorem dX2_passAge_105 : decode cX2_passAge 105 = .ok (.iaload, 1) := by decide +kernel
theorem dX2_passAge_106 : decode cX2_passAge 106 = .ok (.iload_n 2, 1) := by decide +kernel
theorem dX2_passAge_107 : decode cX2_passAge 107 = .ok (.iadd, 1) := by decide +kernel
theorem dX2_passAge_108 : decode cX2_passAge 108 = .ok (.bipush 12, 2) := by decide +kernel
theorem dX2_passAge_110 : decode cX2_passAge 110 = .ok (.invokestatic 125, 3) := by decide +kernel
theorem dX2_passAge_113 : decode cX2_passAge 113 = .ok (.iastore, 1) := by decide +kernel
theorem dX2_passAge_114 : decode cX2_passAge 114 = .ok (.aload_n 0, 1) := by decide +kernel
theorem dX2_passAge_115 : decode cX2_passAge 115 = .ok (.getfield 31, 3) := by decide +kernel
theorem dX2_passAge_118 : decode cX2_passAge 118 = .ok (.iload_n 1, 1) := by decide +kernel
theorem dX2_passAge_119 : decode cX2_passAge 119 = .ok (.aload_n 0, 1) := by decide +kernel
theorem dX2_passAge_120 : decode cX2_passAge 120 = .ok (.getfield 31, 3) := by decide +kernel
theorem dX2_passAge_123 : decode cX2_passAge 123 = .ok (.iload_n 1, 1) := by decide +kernel
theorem dX2_passAge_124 : decode cX2_passAge 124 = .ok (.iaload, 1) := by decide +kernel
theorem dX2_passAge_125 : decode cX2_passAge 125 = .ok (.iload_n 3, 1) := by decide +kernel
theorem dX2_passAge_126 : decode cX2_passAge 126 = .ok (.iadd, 1) := by decide +kernel
theorem dX2_passAge_127 : decode cX2_passAge 127 = .ok (.iconst 4, 1) := by decide +kernel
theorem dX2_passAge_128 : decode cX2_passAge 128 = .ok (.irem, 1) := by decide +kernel
theorem dX2_passAge_129 : decode cX2_passAge 129 = .ok (.iastore, 1) := by decide +kernel
theorem dX2_passAge_130 : decode cX2_passAge 130 = .ok (.iinc 1 1, 3) := by decide +kernel
theorem dX2_passAge_133 : decode cX2_passAge 133 = .ok (.goto (-131), 3) := by decide +kernel
theorem dX2_passAge_136 : decode cX2_passAge 136 = .ok (.aload_n 0, 1) := by decide +kernel
theorem dX2_passAge_137 : decode cX2_passAge 137 = .ok (.ldc 128, 2) := by decide +kernel
theorem dX2_passAge_139 : decode cX2_passAge 139 = .ok (.aload_n 0, 1) := by decide +kernel
theorem dX2_passAge_140 : decode cX2_passAge 140 = .ok (.getfield 58, 3) := by decide +kernel
theorem dX2_passAge_143 : decode cX2_passAge 143 = .ok (.iconst 1, 1) := by decide +kernel
