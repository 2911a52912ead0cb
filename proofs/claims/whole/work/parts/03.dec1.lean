theorem dX2_passAge_144 : decode cX2_passAge 144 = .ok (.iadd, 1) := by decide +kernel
theorem dX2_passAge_145 : decode cX2_passAge 145 = .ok (.invokestatic 90, 3) := by decide +kernel
theorem dX2_passAge_148 : decode cX2_passAge 148 = .ok (.putfield 58, 3) := by decide +kernel
theorem dX2_passAge_151 : decode cX2_passAge 151 = .ok (.aload_n 0, 1) := by decide +kernel
theorem dX2_passAge_152 : decode cX2_passAge 152 = .ok (.invokevirtual 55, 3) := by decide +kernel
theorem dX2_passAge_155 : decode cX2_passAge 155 = .ok (.return_, 1) := by decide +kernel
theorem dX2_draw_0 : decode cX2_draw 0 = .ok (.aload_n 0, 1) := by decide +kernel
theorem dX2_draw_1 : decode cX2_draw 1 = .ok (.aload_n 0, 1) := by decide +kernel
theorem dX2_draw_2 : decode cX2_draw 2 = .ok (.getfield 15, 3) := by decide +kernel
theorem dX2_draw_5 : decode cX2_draw 5 = .ok (.ldc 129, 2) := by decide +kernel
theorem dX2_draw_7 : decode cX2_draw 7 = .ok (.imul, 1) := by decide +kernel
theorem dX2_draw_8 : decode cX2_draw 8 = .ok (.sipush 12345, 3) := by decide +kernel
theorem dX2_draw_11 : decode cX2_draw 11 = .ok (.iadd, 1) := by decide +kernel
theorem dX2_draw_12 : decode cX2_draw 12 = .ok (.putfield 15, 3) := by decide +kernel
theorem dX2_draw_15 : decode cX2_draw 15 = .ok (.aload_n 0, 1) := by decide +kernel
theorem dX2_draw_16 : decode cX2_draw 16 = .ok (.getfield 15, 3) := by decide +kernel
theorem dX2_draw_19 : decode cX2_draw 19 = .ok (.bipush 8, 2) := by decide +kernel
theorem dX2_draw_21 : decode cX2_draw 21 = .ok (.iushr, 1) := by decide +kernel
theorem dX2_draw_22 : decode cX2_draw 22 = .ok (.ireturn, 1) := by decide +kernel
theorem dX2_passWetAge_0 : decode cX2_passWetAge 0 = .ok (.aload_n 0, 1) := by decide +kernel
theorem dX2_passWetAge_1 : decode cX2_passWetAge 1 = .ok (.aload_n 0, 1) := by decide +kernel
theorem dX2_passWetAge_2 : decode cX2_passWetAge 2 = .ok (.invokevirtual 130, 3) := by decide +kernel
theorem dX2_passWetAge_5 : decode cX2_passWetAge 5 = .ok (.bipush 10, 2) := by decide +kernel
theorem dX2_passWetAge_7 : decode cX2_passWetAge 7 = .ok (.irem, 1) := by decide +kernel
theorem dX2_passWetAge_8 : decode cX2_passWetAge 8 = .ok (.putfield 9, 3) := by decide +kernel
theorem dX2_passWetAge_11 : decode cX2_passWetAge 11 = .ok (.aload_n 0, 1) := by decide +kernel
theorem dX2_passWetAge_12 : decode cX2_passWetAge 12 = .ok (.invokevirtual 130, 3) := by decide +kernel
theorem dX2_passWetAge_15 : decode cX2_passWetAge 15 = .ok (.bipush 8, 2) := by decide +kernel
theorem dX2_passWetAge_17 : decode cX2_passWetAge 17 = .ok (.irem, 1) := by decide +kernel
theorem dX2_passWetAge_18 : decode cX2_passWetAge 18 = .ok (.istore_n 1, 1) := by decide +kernel
theorem dX2_passWetAge_19 : decode cX2_passWetAge 19 = .ok (.aload_n 0, 1) := by decide +kernel
theorem dX2_passWetAge_20 : decode cX2_passWetAge 20 = .ok (.iload_n 1, 1) := by decide +kernel
theorem dX2_passWetAge_21 : decode cX2_passWetAge 21 = .ok (.invokevirtual 134, 3) := by decide +kernel
theorem dX2_passWetAge_24 : decode cX2_passWetAge 24 = .ok (.ifCond .ne 19, 3) := by decide +kernel
theorem dX2_passWetAge_27 : decode cX2_passWetAge 27 = .ok (.aload_n 0, 1) := by decide +kernel
theorem dX2_passWetAge_28 : decode cX2_passWetAge 28 = .ok (.iload_n 1, 1) := by decide +kernel
theorem dX2_passWetAge_29 : decode cX2_passWetAge 29 = .ok (.iconst 3, 1) := by decide +kernel
theorem dX2_passWetAge_30 : decode cX2_passWetAge 30 = .ok (.aload_n 0, 1) := by decide +kernel
theorem dX2_passWetAge_31 : decode cX2_passWetAge 31 = .ok (.getfield 31, 3) := by decide +kernel
theorem dX2_passWetAge_34 : decode cX2_passWetAge 34 = .ok (.iload_n 1, 1) := by decide +kernel
theorem dX2_passWetAge_35 : decode cX2_passWetAge 35 = .ok (.iaload, 1) := by decide +kernel
theorem dX2_passWetAge_36 : decode cX2_passWetAge 36 = .ok (.iconst 1, 1) := by decide +kernel
theorem dX2_passWetAge_37 : decode cX2_passWetAge 37 = .ok (.iadd, 1) := by decide +kernel
theorem dX2_passWetAge_38 : decode cX2_passWetAge 38 = .ok (.iconst 4, 1) := by decide +kernel
theorem dX2_passWetAge_39 : decode cX2_passWetAge 39 = .ok (.irem, 1) := by decide +kernel
theorem dX2_passWetAge_40 : decode cX2_passWetAge 40 = .ok (.invokevirtual 138, 3) := by decide +kernel
theorem dX2_passWetAge_43 : decode cX2_passWetAge 43 = .ok (.aload_n 0, 1) := by decide +kernel
theorem dX2_passWetAge_44 : decode cX2_passWetAge 44 = .ok (.invokevirtual 110, 3) := by decide +kernel
theorem dX2_passWetAge_47 : decode cX2_passWetAge 47 = .ok (.return_, 1) := by decide +kernel
theorem dX2_standsAndTurnsAs_0 : decode cX2_standsAndTurnsAs 0 = .ok (.iconst 0, 1) := by decide +kernel
theorem dX2_standsAndTurnsAs_1 : decode cX2_standsAndTurnsAs 1 = .ok (.istore_n 2, 1) := by decide +kernel
theorem dX2_standsAndTurnsAs_2 : decode cX2_standsAndTurnsAs 2 = .ok (.iload_n 2, 1) := by decide +kernel
theorem dX2_standsAndTurnsAs_3 : decode cX2_standsAndTurnsAs 3 = .ok (.aload_n 0, 1) := by decide +kernel
theorem dX2_standsAndTurnsAs_4 : decode cX2_standsAndTurnsAs 4 = .ok (.getfield 52, 3) := by decide +kernel
theorem dX2_standsAndTurnsAs_7 : decode cX2_standsAndTurnsAs 7 = .ok (.if_icmp .ge 41, 3) := by decide +kernel
theorem dX2_standsAndTurnsAs_10 : decode cX2_standsAndTurnsAs 10 = .ok (.aload_n 0, 1) := by decide +kernel
theorem dX2_standsAndTurnsAs_11 : decode cX2_standsAndTurnsAs 11 = .ok (.getfield 25, 3) := by decide +kernel
theorem dX2_standsAndTurnsAs_14 : decode cX2_standsAndTurnsAs 14 = .ok (.iload_n 2, 1) := by decide +kernel
theorem dX2_standsAndTurnsAs_15 : decode cX2_standsAndTurnsAs 15 = .ok (.iaload, 1) := by decide +kernel
theorem dX2_standsAndTurnsAs_16 : decode cX2_standsAndTurnsAs 16 = .ok (.aload_n 1, 1) := by decide +kernel
theorem dX2_standsAndTurnsAs_17 : decode cX2_standsAndTurnsAs 17 = .ok (.getfield 25, 3) := by decide +kernel
theorem dX2_standsAndTurnsAs_20 : decode cX2_standsAndTurnsAs 20 = .ok (.iload_n 2, 1) := by decide +kernel
theorem dX2_standsAndTurnsAs_21 : decode cX2_standsAndTurnsAs 21 = .ok (.iaload, 1) := by decide +kernel
theorem dX2_standsAndTurnsAs_22 : decode cX2_standsAndTurnsAs 22 = .ok (.if_icmp .ne 18, 3) := by decide +kernel
theorem dX2_standsAndTurnsAs_25 : decode cX2_standsAndTurnsAs 25 = .ok (.aload_n 0, 1) := by decide +kernel
theorem dX2_standsAndTurnsAs_26 : decode cX2_standsAndTurnsAs 26 = .ok (.getfield 31, 3) := by decide +kernel
theorem dX2_standsAndTurnsAs_29 : decode cX2_standsAndTurnsAs 29 = .ok (.iload_n 2, 1) := by decide +kernel
theorem dX2_standsAndTurnsAs_30 : decode cX2_standsAndTurnsAs 30 = .ok (.iaload, 1) := by decide +kernel
theorem dX2_standsAndTurnsAs_31 : decode cX2_standsAndTurnsAs 31 = .ok (.aload_n 1, 1) := by decide +kernel
theorem dX2_standsAndTurnsAs_32 : decode cX2_standsAndTurnsAs 32 = .ok (.getfield 31, 3) := by decide +kernel
theorem dX2_standsAndTurnsAs_35 : decode cX2_standsAndTurnsAs 35 = .ok (.iload_n 2, 1) := by decide +kernel
theorem dX2_standsAndTurnsAs_36 : decode cX2_standsAndTurnsAs 36 = .ok (.iaload, 1) := by decide +kernel
theorem dX2_standsAndTurnsAs_37 : decode cX2_standsAndTurnsAs 37 = .ok (.if_icmp .eq 5, 3) := by decide +kernel
theorem dX2_standsAndTurnsAs_40 : decode cX2_standsAndTurnsAs 40 = .ok (.iconst 0, 1) := by decide +kernel
theorem dX2_standsAndTurnsAs_41 : decode cX2_standsAndTurnsAs 41 = .ok (.ireturn, 1) := by decide +kernel
theorem dX2_standsAndTurnsAs_42 : decode cX2_standsAndTurnsAs 42 = .ok (.iinc 2 1, 3) := by decide +kernel
theorem dX2_standsAndTurnsAs_45 : decode cX2_standsAndTurnsAs 45 = .ok (.goto (-43), 3) := by decide +kernel
theorem dX2_standsAndTurnsAs_48 : decode cX2_standsAndTurnsAs 48 = .ok (.iconst 1, 1) := by decide +kernel
theorem dX2_standsAndTurnsAs_49 : decode cX2_standsAndTurnsAs 49 = .ok (.ireturn, 1) := by decide +kernel
theorem dX3_init_0 : decode cX3_init 0 = .ok (.aload_n 0, 1) := by decide +kernel
theorem dX3_init_1 : decode cX3_init 1 = .ok (.invokespecial 1, 3) := by decide +kernel
theorem dX3_init_4 : decode cX3_init 4 = .ok (.aload_n 0, 1) := by decide +kernel
theorem dX3_init_5 : decode cX3_init 5 = .ok (.new 7, 3) := by decide +kernel
theorem dX3_init_8 : decode cX3_init 8 = .ok (.dup, 1) := by decide +kernel
theorem dX3_init_9 : decode cX3_init 9 = .ok (.invokespecial 9, 3) := by decide +kernel
theorem dX3_init_12 : decode cX3_init 12 = .ok (.putfield 10, 3) := by decide +kernel
theorem dX3_init_15 : decode cX3_init 15 = .ok (.aload_n 0, 1) := by decide +kernel
theorem dX3_init_16 : decode cX3_init 16 = .ok (.new 7, 3) := by decide +kernel
theorem dX3_init_19 : decode cX3_init 19 = .ok (.dup, 1) := by decide +kernel
theorem dX3_init_20 : decode cX3_init 20 = .ok (.invokespecial 9, 3) := by decide +kernel
theorem dX3_init_23 : decode cX3_init 23 = .ok (.putfield 16, 3) := by decide +kernel
theorem dX3_init_26 : decode cX3_init 26 = .ok (.aload_n 0, 1) := by decide +kernel
theorem dX3_init_27 : decode cX3_init 27 = .ok (.new 7, 3) := by decide +kernel
theorem dX3_init_30 : decode cX3_init 30 = .ok (.dup, 1) := by decide +kernel
theorem dX3_init_31 : decode cX3_init 31 = .ok (.invokespecial 9, 3) := by decide +kernel
theorem dX3_init_34 : decode cX3_init 34 = .ok (.putfield 19, 3) := by decide +kernel
theorem dX3_init_37 : decode cX3_init 37 = .ok (.aload_n 0, 1) := by decide +kernel
theorem dX3_init_38 : decode cX3_init 38 = .ok (.new 22, 3) := by decide +kernel
theorem dX3_init_41 : decode cX3_init 41 = .ok (.dup, 1) := by decide +kernel
theorem dX3_init_42 : decode cX3_init 42 = .ok (.invokespecial 24, 3) := by decide +kernel
theorem dX3_init_45 : decode cX3_init 45 = .ok (.putfield 25, 3) := by decide +kernel
theorem dX3_init_48 : decode cX3_init 48 = .ok (.aload_n 0, 1) := by decide +kernel
theorem dX3_init_49 : decode cX3_init 49 = .ok (.iconst 4, 1) := by decide +kernel
theorem dX3_init_50 : decode cX3_init 50 = .ok (.anewarray 29, 3) := by decide +kernel
theorem dX3_init_53 : decode cX3_init 53 = .ok (.putfield 31, 3) := by decide +kernel
theorem dX3_init_56 : decode cX3_init 56 = .ok (.aload_n 0, 1) := by decide +kernel
theorem dX3_init_57 : decode cX3_init 57 = .ok (.bipush 7, 2) := by decide +kernel
theorem dX3_init_59 : decode cX3_init 59 = .ok (.newarray .int, 2) := by decide +kernel
theorem dX3_init_61 : decode cX3_init 61 = .ok (.putfield 35, 3) := by decide +kernel
theorem dX3_init_64 : decode cX3_init 64 = .ok (.iconst 0, 1) := by decide +kernel
theorem dX3_init_65 : decode cX3_init 65 = .ok (.istore_n 1, 1) := by decide +kernel
theorem dX3_init_66 : decode cX3_init 66 = .ok (.iload_n 1, 1) := by decide +kernel
theorem dX3_init_67 : decode cX3_init 67 = .ok (.iconst 4, 1) := by decide +kernel
theorem dX3_init_68 : decode cX3_init 68 = .ok (.if_icmp .ge 22, 3) := by decide +kernel
theorem dX3_init_71 : decode cX3_init 71 = .ok (.aload_n 0, 1) := by decide +kernel
theorem dX3_init_72 : decode cX3_init 72 = .ok (.getfield 31, 3) := by decide +kernel
theorem dX3_init_75 : decode cX3_init 75 = .ok (.iload_n 1, 1) := by decide +kernel
theorem dX3_init_76 : decode cX3_init 76 = .ok (.new 29, 3) := by decide +kernel
theorem dX3_init_79 : decode cX3_init 79 = .ok (.dup, 1) := by decide +kernel
theorem dX3_init_80 : decode cX3_init 80 = .ok (.invokespecial 39, 3) := by decide +kernel
theorem dX3_init_83 : decode cX3_init 83 = .ok (.aastore, 1) := by decide +kernel
theorem dX3_init_84 : decode cX3_init 84 = .ok (.iinc 1 1, 3) := by decide +kernel
theorem dX3_init_87 : decode cX3_init 87 = .ok (.goto (-21), 3) := by decide +kernel
theorem dX3_init_90 : decode cX3_init 90 = .ok (.return_, 1) := by decide +kernel
theorem dX3_rain_0 : decode cX3_rain 0 = .ok (.iload_n 1, 1) := by decide +kernel
theorem dX3_rain_1 : decode cX3_rain 1 = .ok (.iconst 0, 1) := by decide +kernel
theorem dX3_rain_2 : decode cX3_rain 2 = .ok (.bipush 9, 2) := by decide +kernel
theorem dX3_rain_4 : decode cX3_rain 4 = .ok (.invokestatic 40, 3) := by decide +kernel
theorem dX3_rain_7 : decode cX3_rain 7 = .ok (.ifCond .eq 9, 3) := by decide +kernel
theorem dX3_rain_10 : decode cX3_rain 10 = .ok (.aload_n 0, 1) := by decide +kernel
theorem dX3_rain_11 : decode cX3_rain 11 = .ok (.iconst 0, 1) := by decide +kernel
theorem dX3_rain_12 : decode cX3_rain 12 = .ok (.invokevirtual 44, 3) := by decide +kernel
theorem dX3_rain_15 : decode cX3_rain 15 = .ok (.ireturn, 1) := by decide +kernel
theorem dX3_rain_16 : decode cX3_rain 16 = .ok (.aload_n 0, 1) := by decide +kernel
theorem dX3_rain_17 : decode cX3_rain 17 = .ok (.getfield 10, 3) := by decide +kernel
theorem dX3_rain_20 : decode cX3_rain 20 = .ok (.getfield 48, 3) := by decide +kernel
theorem dX3_rain_23 : decode cX3_rain 23 = .ok (.istore_n 2, 1) := by decide +kernel
theorem dX3_rain_24 : decode cX3_rain 24 = .ok (.aload_n 0, 1) := by decide +kernel
theorem dX3_rain_25 : decode cX3_rain 25 = .ok (.getfield 10, 3) := by decide +kernel
theorem dX3_rain_28 : decode cX3_rain 28 = .ok (.iload_n 1, 1) := by decide +kernel
theorem dX3_rain_29 : decode cX3_rain 29 = .ok (.putfield 48, 3) := by decide +kernel
theorem dX3_rain_32 : decode cX3_rain 32 = .ok (.iload_n 2, 1) := by decide +kernel
theorem dX3_rain_33 : decode cX3_rain 33 = .ok (.ireturn, 1) := by decide +kernel
theorem dX3_hill_0 : decode cX3_hill 0 = .ok (.iload_n 1, 1) := by decide +kernel
theorem dX3_hill_1 : decode cX3_hill 1 = .ok (.iconst 0, 1) := by decide +kernel
theorem dX3_hill_2 : decode cX3_hill 2 = .ok (.bipush 6, 2) := by decide +kernel
theorem dX3_hill_4 : decode cX3_hill 4 = .ok (.invokestatic 40, 3) := by decide +kernel
theorem dX3_hill_7 : decode cX3_hill 7 = .ok (.ifCond .ne 10, 3) := by decide +kernel
theorem dX3_hill_10 : decode cX3_hill 10 = .ok (.iload_n 2, 1) := by decide +kernel
theorem dX3_hill_11 : decode cX3_hill 11 = .ok (.invokestatic 52, 3) := by decide +kernel
theorem dX3_hill_14 : decode cX3_hill 14 = .ok (.ifCond .eq 9, 3) := by decide +kernel
theorem dX3_hill_17 : decode cX3_hill 17 = .ok (.aload_n 0, 1) := by decide +kernel
theorem dX3_hill_18 : decode cX3_hill 18 = .ok (.iconst 0, 1) := by decide +kernel
theorem dX3_hill_19 : decode cX3_hill 19 = .ok (.invokevirtual 44, 3) := by decide +kernel
theorem dX3_hill_22 : decode cX3_hill 22 = .ok (.ireturn, 1) := by decide +kernel
theorem dX3_hill_23 : decode cX3_hill 23 = .ok (.aload_n 0, 1) := by decide +kernel
theorem dX3_hill_24 : decode cX3_hill 24 = .ok (.getfield 10, 3) := by decide +kernel
theorem dX3_hill_27 : decode cX3_hill 27 = .ok (.invokevirtual 56, 3) := by decide +kernel
theorem dX3_hill_30 : decode cX3_hill 30 = .ok (.ifCond .eq 9, 3) := by decide +kernel
theorem dX3_hill_33 : decode cX3_hill 33 = .ok (.aload_n 0, 1) := by decide +kernel
theorem dX3_hill_34 : decode cX3_hill 34 = .ok (.iconst 1, 1) := by decide +kernel
theorem dX3_hill_35 : decode cX3_hill 35 = .ok (.invokevirtual 44, 3) := by decide +kernel
theorem dX3_hill_38 : decode cX3_hill 38 = .ok (.ireturn, 1) := by decide +kernel
theorem dX3_hill_39 : decode cX3_hill 39 = .ok (.aload_n 0, 1) := by decide +kernel
theorem dX3_hill_40 : decode cX3_hill 40 = .ok (.getfield 10, 3) := by decide +kernel
theorem dX3_hill_43 : decode cX3_hill 43 = .ok (.iload_n 1, 1) := by decide +kernel
theorem dX3_hill_44 : decode cX3_hill 44 = .ok (.iload_n 2, 1) := by decide +kernel
theorem dX3_hill_45 : decode cX3_hill 45 = .ok (.invokevirtual 60, 3) := by decide +kernel
theorem dX3_hill_48 : decode cX3_hill 48 = .ok (.ireturn, 1) := by decide +kernel
theorem dX3_of_0 : decode cX3_of 0 = .ok (.aload_n 0, 1) := by decide +kernel
theorem dX3_of_1 : decode cX3_of 1 = .ok (.getfield 10, 3) := by decide +kernel
theorem dX3_of_4 : decode cX3_of 4 = .ok (.iload_n 1, 1) := by decide +kernel
theorem dX3_of_5 : decode cX3_of 5 = .ok (.invokevirtual 64, 3) := by decide +kernel
theorem dX3_of_8 : decode cX3_of 8 = .ok (.ifCond .ne 13, 3) := by decide +kernel
theorem dX3_of_11 : decode cX3_of 11 = .ok (.iload_n 2, 1) := by decide +kernel
theorem dX3_of_12 : decode cX3_of 12 = .ok (.iconst 0, 1) := by decide +kernel
theorem dX3_of_13 : decode cX3_of 13 = .ok (.bipush 10, 2) := by decide +kernel
theorem dX3_of_15 : decode cX3_of 15 = .ok (.invokestatic 40, 3) := by decide +kernel
theorem dX3_of_18 : decode cX3_of 18 = .ok (.ifCond .eq 9, 3) := by decide +kernel
theorem dX3_of_21 : decode cX3_of 21 = .ok (.aload_n 0, 1) := by decide +kernel
theorem dX3_of_22 : decode cX3_of 22 = .ok (.iconst 0, 1) := by decide +kernel
theorem dX3_of_23 : decode cX3_of 23 = .ok (.invokevirtual 44, 3) := by decide +kernel
theorem dX3_of_26 : decode cX3_of 26 = .ok (.ireturn, 1) := by decide +kernel
theorem dX3_of_27 : decode cX3_of 27 = .ok (.iload_n 2, 1) := by decide +kernel
theorem dX3_of_28 : decode cX3_of 28 = .ok (.tableswitch 68 7 10 #[32, 41, 50, 59], 32) := by decide +kernel
theorem dX3_of_60 : decode cX3_of 60 = .ok (.aload_n 0, 1) := by decide +kernel
theorem dX3_of_61 : decode cX3_of 61 = .ok (.getfield 10, 3) := by decide +kernel
theorem dX3_of_64 : decode cX3_of 64 = .ok (.iload_n 1, 1) := by decide +kernel
theorem dX3_of_65 : decode cX3_of 65 = .ok (.invokevirtual 67, 3) := by decide +kernel
theorem dX3_of_68 : decode cX3_of 68 = .ok (.ireturn, 1) := by decide +kernel
theorem dX3_of_69 : decode cX3_of 69 = .ok (.aload_n 0, 1) := by decide +kernel
theorem dX3_of_70 : decode cX3_of 70 = .ok (.getfield 10, 3) := by decide +kernel
theorem dX3_of_73 : decode cX3_of 73 = .ok (.iload_n 1, 1) := by decide +kernel
theorem dX3_of_74 : decode cX3_of 74 = .ok (.invokevirtual 70, 3) := by decide +kernel
theorem dX3_of_77 : decode cX3_of 77 = .ok (.ireturn, 1) := by decide +kernel
theorem dX3_of_78 : decode cX3_of 78 = .ok (.aload_n 0, 1) := by decide +kernel
theorem dX3_of_79 : decode cX3_of 79 = .ok (.getfield 10, 3) := by decide +kernel
theorem dX3_of_82 : decode cX3_of 82 = .ok (.iload_n 1, 1) := by decide +kernel
theorem dX3_of_83 : decode cX3_of 83 = .ok (.invokevirtual 73, 3) := by decide +kernel
theorem dX3_of_86 : decode cX3_of 86 = .ok (.ireturn, 1) := by decide +kernel
theorem dX3_of_87 : decode cX3_of 87 = .ok (.aload_n 0, 1) := by decide +kernel
theorem dX3_of_88 : decode cX3_of 88 = .ok (.getfield 10, 3) := by decide +kernel
theorem dX3_of_91 : decode cX3_of 91 = .ok (.iload_n 1, 1) := by decide +kernel
theorem dX3_of_92 : decode cX3_of 92 = .ok (.invokevirtual 76, 3) := by decide +kernel
theorem dX3_of_95 : decode cX3_of 95 = .ok (.ireturn, 1) := by decide +kernel
theorem dX3_of_96 : decode cX3_of 96 = .ok (.aload_n 0, 1) := by decide +kernel
theorem dX3_of_97 : decode cX3_of 97 = .ok (.getfield 10, 3) := by decide +kernel
theorem dX3_of_100 : decode cX3_of 100 = .ok (.iload_n 1, 1) := by decide +kernel
theorem dX3_of_101 : decode cX3_of 101 = .ok (.iload_n 2, 1) := by decide +kernel
theorem dX3_of_102 : decode cX3_of 102 = .ok (.invokevirtual 79, 3) := by decide +kernel
theorem dX3_of_105 : decode cX3_of 105 = .ok (.ireturn, 1) := by decide +kernel
theorem dX3_change_0 : decode cX3_change 0 = .ok (.aload_n 0, 1) := by decide +kernel
theorem dX3_change_1 : decode cX3_change 1 = .ok (.getfield 10, 3) := by decide +kernel
theorem dX3_change_4 : decode cX3_change 4 = .ok (.iload_n 1, 1) := by decide +kernel
theorem dX3_change_5 : decode cX3_change 5 = .ok (.invokevirtual 64, 3) := by decide +kernel
theorem dX3_change_8 : decode cX3_change 8 = .ok (.ifCond .ne 27, 3) := by decide +kernel
theorem dX3_change_11 : decode cX3_change 11 = .ok (.iload_n 2, 1) := by decide +kernel
theorem dX3_change_12 : decode cX3_change 12 = .ok (.iconst 0, 1) := by decide +kernel
theorem dX3_change_13 : decode cX3_change 13 = .ok (.iconst 5, 1) := by decide +kernel
theorem dX3_change_14 : decode cX3_change 14 = .ok (.invokestatic 40, 3) := by decide +kernel
theorem dX3_change_17 : decode cX3_change 17 = .ok (.ifCond .ne 18, 3) := by decide +kernel
theorem dX3_change_20 : decode cX3_change 20 = .ok (.iload_n 3, 1) := by decide +kernel
theorem dX3_change_21 : decode cX3_change 21 = .ok (.iload_n 2, 1) := by decide +kernel
theorem dX3_change_22 : decode cX3_change 22 = .ok (.invokestatic 82, 3) := by decide +kernel
theorem dX3_change_25 : decode cX3_change 25 = .ok (.iload_n 2, 1) := by decide +kernel
theorem dX3_change_26 : decode cX3_change 26 = .ok (.invokestatic 85, 3) := by decide +kernel
theorem dX3_change_29 : decode cX3_change 29 = .ok (.invokestatic 40, 3) := by decide +kernel
theorem dX3_change_32 : decode cX3_change 32 = .ok (.ifCond .eq 9, 3) := by decide +kernel
theorem dX3_change_35 : decode cX3_change 35 = .ok (.aload_n 0, 1) := by decide +kernel
theorem dX3_change_36 : decode cX3_change 36 = .ok (.iconst 0, 1) := by decide +kernel
theorem dX3_change_37 : decode cX3_change 37 = .ok (.invokevirtual 44, 3) := by decide +kernel
theorem dX3_change_40 : decode cX3_change 40 = .ok (.ireturn, 1) := by decide +kernel
theorem dX3_change_41 : decode cX3_change 41 = .ok (.aload_n 0, 1) := by decide +kernel
theorem dX3_change_42 : decode cX3_change 42 = .ok (.getfield 10, 3) := by decide +kernel
theorem dX3_change_45 : decode cX3_change 45 = .ok (.iload_n 1, 1) := by decide +kernel
theorem dX3_change_46 : decode cX3_change 46 = .ok (.iload_n 2, 1) := by decide +kernel
theorem dX3_change_47 : decode cX3_change 47 = .ok (.invokevirtual 79, 3) := by decide +kernel
theorem dX3_change_50 : decode cX3_change 50 = .ok (.istore 4, 2) := by decide +kernel
theorem dX3_change_52 : decode cX3_change 52 = .ok (.aload_n 0, 1) := by decide +kernel
theorem dX3_change_53 : decode cX3_change 53 = .ok (.getfield 10, 3) := by decide +kernel
theorem dX3_change_56 : decode cX3_change 56 = .ok (.iload_n 1, 1) := by decide +kernel
theorem dX3_change_57 : decode cX3_change 57 = .ok (.iload_n 2, 1) := by decide +kernel
theorem dX3_change_58 : decode cX3_change 58 = .ok (.iload_n 3, 1) := by decide +kernel
theorem dX3_change_59 : decode cX3_change 59 = .ok (.invokevirtual 88, 3) := by decide +kernel
theorem dX3_change_62 : decode cX3_change 62 = .ok (.iload 4, 2) := by decide +kernel
theorem dX3_change_64 : decode cX3_change 64 = .ok (.ireturn, 1) := by decide +kernel
theorem dX3_valley_0 : decode cX3_valley 0 = .ok (.iload_n 1, 1) := by decide +kernel
theorem dX3_valley_1 : decode cX3_valley 1 = .ok (.invokestatic 52, 3) := by decide +kernel
theorem dX3_valley_4 : decode cX3_valley 4 = .ok (.ifCond .ne 12, 3) := by decide +kernel
theorem dX3_valley_7 : decode cX3_valley 7 = .ok (.iload_n 2, 1) := by decide +kernel
theorem dX3_valley_8 : decode cX3_valley 8 = .ok (.iconst 0, 1) := by decide +kernel
theorem dX3_valley_9 : decode cX3_valley 9 = .ok (.iconst 2, 1) := by decide +kernel
theorem dX3_valley_10 : decode cX3_valley 10 = .ok (.invokestatic 40, 3) := by decide +kernel
theorem dX3_valley_13 : decode cX3_valley 13 = .ok (.ifCond .eq 9, 3) := by decide +kernel
theorem dX3_valley_16 : decode cX3_valley 16 = .ok (.aload_n 0, 1) := by decide +kernel
theorem dX3_valley_17 : decode cX3_valley 17 = .ok (.iconst 0, 1) := by decide +kernel
theorem dX3_valley_18 : decode cX3_valley 18 = .ok (.invokevirtual 44, 3) := by decide +kernel
theorem dX3_valley_21 : decode cX3_valley 21 = .ok (.ireturn, 1) := by decide +kernel
theorem dX3_valley_22 : decode cX3_valley 22 = .ok (.iload_n 2, 1) := by decide +kernel
theorem dX3_valley_23 : decode cX3_valley 23 = .ok (.ifCond .ne 12, 3) := by decide +kernel
theorem dX3_valley_26 : decode cX3_valley 26 = .ok (.aload_n 0, 1) := by decide +kernel
theorem dX3_valley_27 : decode cX3_valley 27 = .ok (.getfield 10, 3) := by decide +kernel
theorem dX3_valley_30 : decode cX3_valley 30 = .ok (.iload_n 1, 1) := by decide +kernel
theorem dX3_valley_31 : decode cX3_valley 31 = .ok (.invokevirtual 92, 3) := by decide +kernel
theorem dX3_valley_34 : decode cX3_valley 34 = .ok (.ireturn, 1) := by decide +kernel
theorem dX3_valley_35 : decode cX3_valley 35 = .ok (.iload_n 2, 1) := by decide +kernel
theorem dX3_valley_36 : decode cX3_valley 36 = .ok (.iconst 1, 1) := by decide +kernel
theorem dX3_valley_37 : decode cX3_valley 37 = .ok (.if_icmp .ne 12, 3) := by decide +kernel
theorem dX3_valley_40 : decode cX3_valley 40 = .ok (.aload_n 0, 1) := by decide +kernel
theorem dX3_valley_41 : decode cX3_valley 41 = .ok (.getfield 10, 3) := by decide +kernel
theorem dX3_valley_44 : decode cX3_valley 44 = .ok (.iload_n 1, 1) := by decide +kernel
theorem dX3_valley_45 : decode cX3_valley 45 = .ok (.invokevirtual 95, 3) := by decide +kernel
theorem dX3_valley_48 : decode cX3_valley 48 = .ok (.ireturn, 1) := by decide +kernel
theorem dX3_valley_49 : decode cX3_valley 49 = .ok (.aload_n 0, 1) := by decide +kernel
theorem dX3_valley_50 : decode cX3_valley 50 = .ok (.getfield 10, 3) := by decide +kernel
theorem dX3_valley_53 : decode cX3_valley 53 = .ok (.iload_n 1, 1) := by decide +kernel
theorem dX3_valley_54 : decode cX3_valley 54 = .ok (.invokevirtual 98, 3) := by decide +kernel
theorem dX3_valley_57 : decode cX3_valley 57 = .ok (.ireturn, 1) := by decide +kernel
theorem dX3_go_0 : decode cX3_go 0 = .ok (.iload_n 1, 1) := by decide +kernel
theorem dX3_go_1 : decode cX3_go 1 = .ok (.iconst 1, 1) := by decide +kernel
theorem dX3_go_2 : decode cX3_go 2 = .ok (.bipush 60, 2) := by decide +kernel
theorem dX3_go_4 : decode cX3_go 4 = .ok (.invokestatic 40, 3) := by decide +kernel
theorem dX3_go_7 : decode cX3_go 7 = .ok (.ifCond .eq 9, 3) := by decide +kernel
theorem dX3_go_10 : decode cX3_go 10 = .ok (.aload_n 0, 1) := by decide +kernel
theorem dX3_go_11 : decode cX3_go 11 = .ok (.iconst 0, 1) := by decide +kernel
theorem dX3_go_12 : decode cX3_go 12 = .ok (.invokevirtual 44, 3) := by decide +kernel
theorem dX3_go_15 : decode cX3_go 15 = .ok (.ireturn, 1) := by decide +kernel
theorem dX3_go_16 : decode cX3_go 16 = .ok (.aload_n 0, 1) := by decide +kernel
theorem dX3_go_17 : decode cX3_go 17 = .ok (.getfield 10, 3) := by decide +kernel
theorem dX3_go_20 : decode cX3_go 20 = .ok (.getfield 101, 3) := by decide +kernel
theorem dX3_go_23 : decode cX3_go 23 = .ok (.ldc 104, 2) := by decide +kernel
theorem dX3_go_25 : decode cX3_go 25 = .ok (.iload_n 1, 1) := by decide +kernel
theorem dX3_go_26 : decode cX3_go 26 = .ok (.isub, 1) := by decide +kernel
theorem dX3_go_27 : decode cX3_go 27 = .ok (.if_icmp .le 9, 3) := by decide +kernel
theorem dX3_go_30 : decode cX3_go 30 = .ok (.aload_n 0, 1) := by decide +kernel
theorem dX3_go_31 : decode cX3_go 31 = .ok (.iconst 4, 1) := by decide +kernel
theorem dX3_go_32 : decode cX3_go 32 = .ok (.invokevirtual 44, 3) := by decide +kernel
theorem dX3_go_35 : decode cX3_go 35 = .ok (.ireturn, 1) := by decide +kernel
theorem dX3_go_36 : decode cX3_go 36 = .ok (.aload_n 0, 1) := by decide +kernel
theorem dX3_go_37 : decode cX3_go 37 = .ok (.getfield 10, 3) := by decide +kernel
theorem dX3_go_40 : decode cX3_go 40 = .ok (.iload_n 1, 1) := by decide +kernel
theorem dX3_go_41 : decode cX3_go 41 = .ok (.invokevirtual 105, 3) := by decide +kernel
theorem dX3_go_44 : decode cX3_go 44 = .ok (.aload_n 0, 1) := by decide +kernel
theorem dX3_go_45 : decode cX3_go 45 = .ok (.getfield 10, 3) := by decide +kernel
theorem dX3_go_48 : decode cX3_go 48 = .ok (.invokevirtual 109, 3) := by decide +kernel
theorem dX3_go_51 : decode cX3_go 51 = .ok (.invokestatic 113, 3) := by decide +kernel
theorem dX3_go_54 : decode cX3_go 54 = .ok (.ireturn, 1) := by decide +kernel
theorem dX3_now_0 : decode cX3_now 0 = .ok (.iload_n 1, 1) := by decide +kernel
theorem dX3_now_1 : decode cX3_now 1 = .ok (.tableswitch 87 0 5 #[39, 47, 55, 63, 71, 79], 39) := by decide +kernel
theorem dX3_now_40 : decode cX3_now 40 = .ok (.aload_n 0, 1) := by decide +kernel
theorem dX3_now_41 : decode cX3_now 41 = .ok (.getfield 10, 3) := by decide +kernel
theorem dX3_now_44 : decode cX3_now 44 = .ok (.getfield 101, 3) := by decide +kernel
theorem dX3_now_47 : decode cX3_now 47 = .ok (.ireturn, 1) := by decide +kernel
theorem dX3_now_48 : decode cX3_now 48 = .ok (.aload_n 0, 1) := by decide +kernel
theorem dX3_now_49 : decode cX3_now 49 = .ok (.getfield 10, 3) := by decide +kernel
theorem dX3_now_52 : decode cX3_now 52 = .ok (.invokevirtual 118, 3) := by decide +kernel
theorem dX3_now_55 : decode cX3_now 55 = .ok (.ireturn, 1) := by decide +kernel
theorem dX3_now_56 : decode cX3_now 56 = .ok (.aload_n 0, 1) := by decide +kernel
theorem dX3_now_57 : decode cX3_now 57 = .ok (.getfield 10, 3) := by decide +kernel
theorem dX3_now_60 : decode cX3_now 60 = .ok (.invokevirtual 109, 3) := by decide +kernel
theorem dX3_now_63 : decode cX3_now 63 = .ok (.ireturn, 1) := by decide +kernel
theorem dX3_now_64 : decode cX3_now 64 = .ok (.aload_n 0, 1) := by decide +kernel
theorem dX3_now_65 : decode cX3_now 65 = .ok (.getfield 10, 3) := by decide +kernel
theorem dX3_now_68 : decode cX3_now 68 = .ok (.invokevirtual 121, 3) := by decide +kernel
theorem dX3_now_71 : decode cX3_now 71 = .ok (.ireturn, 1) := by decide +kernel
theorem dX3_now_72 : decode cX3_now 72 = .ok (.aload_n 0, 1) := by decide +kernel
theorem dX3_now_73 : decode cX3_now 73 = .ok (.getfield 10, 3) := by decide +kernel
theorem dX3_now_76 : decode cX3_now 76 = .ok (.invokevirtual 124, 3) := by decide +kernel
theorem dX3_now_79 : decode cX3_now 79 = .ok (.ireturn, 1) := by decide +kernel
theorem dX3_now_80 : decode cX3_now 80 = .ok (.aload_n 0, 1) := by decide +kernel
theorem dX3_now_81 : decode cX3_now 81 = .ok (.getfield 10, 3) := by decide +kernel
theorem dX3_now_84 : decode cX3_now 84 = .ok (.invokevirtual 127, 3) := by decide +kernel
theorem dX3_now_87 : decode cX3_now 87 = .ok (.ireturn, 1) := by decide +kernel
theorem dX3_now_88 : decode cX3_now 88 = .ok (.aload_n 0, 1) := by decide +kernel
theorem dX3_now_89 : decode cX3_now 89 = .ok (.iconst 0, 1) := by decide +kernel
theorem dX3_now_90 : decode cX3_now 90 = .ok (.invokevirtual 44, 3) := by decide +kernel
theorem dX3_now_93 : decode cX3_now 93 = .ok (.ireturn, 1) := by decide +kernel
theorem dX3_ahead_0 : decode cX3_ahead 0 = .ok (.aload_n 0, 1) := by decide +kernel
theorem dX3_ahead_1 : decode cX3_ahead 1 = .ok (.getfield 10, 3) := by decide +kernel
theorem dX3_ahead_4 : decode cX3_ahead 4 = .ok (.iload_n 1, 1) := by decide +kernel
theorem dX3_ahead_5 : decode cX3_ahead 5 = .ok (.invokevirtual 64, 3) := by decide +kernel
theorem dX3_ahead_8 : decode cX3_ahead 8 = .ok (.ifCond .ne 20, 3) := by decide +kernel
theorem dX3_ahead_11 : decode cX3_ahead 11 = .ok (.iload_n 2, 1) := by decide +kernel
theorem dX3_ahead_12 : decode cX3_ahead 12 = .ok (.invokestatic 130, 3) := by decide +kernel
theorem dX3_ahead_15 : decode cX3_ahead 15 = .ok (.ifCond .eq 13, 3) := by decide +kernel
theorem dX3_ahead_18 : decode cX3_ahead 18 = .ok (.iload_n 3, 1) := by decide +kernel
theorem dX3_ahead_19 : decode cX3_ahead 19 = .ok (.iconst 0, 1) := by decide +kernel
theorem dX3_ahead_20 : decode cX3_ahead 20 = .ok (.bipush 100, 2) := by decide +kernel
theorem dX3_ahead_22 : decode cX3_ahead 22 = .ok (.invokestatic 40, 3) := by decide +kernel
theorem dX3_ahead_25 : decode cX3_ahead 25 = .ok (.ifCond .eq 9, 3) := by decide +kernel
theorem dX3_ahead_28 : decode cX3_ahead 28 = .ok (.aload_n 0, 1) := by decide +kernel
theorem dX3_ahead_29 : decode cX3_ahead 29 = .ok (.iconst 0, 1) := by decide +kernel
theorem dX3_ahead_30 : decode cX3_ahead 30 = .ok (.invokevirtual 44, 3) := by decide +kernel
theorem dX3_ahead_33 : decode cX3_ahead 33 = .ok (.ireturn, 1) := by decide +kernel
theorem dX3_ahead_34 : decode cX3_ahead 34 = .ok (.aload_n 0, 1) := by decide +kernel
theorem dX3_ahead_35 : decode cX3_ahead 35 = .ok (.getfield 16, 3) := by decide +kernel
theorem dX3_ahead_38 : decode cX3_ahead 38 = .ok (.aload_n 0, 1) := by decide +kernel
theorem dX3_ahead_39 : decode cX3_ahead 39 = .ok (.getfield 10, 3) := by decide +kernel
theorem dX3_ahead_42 : decode cX3_ahead 42 = .ok (.invokevirtual 133, 3) := by decide +kernel
theorem dX3_ahead_45 : decode cX3_ahead 45 = .ok (.aload_n 0, 1) := by decide +kernel
theorem dX3_ahead_46 : decode cX3_ahead 46 = .ok (.getfield 16, 3) := by decide +kernel
theorem dX3_ahead_49 : decode cX3_ahead 49 = .ok (.iload_n 3, 1) := by decide +kernel
theorem dX3_ahead_50 : decode cX3_ahead 50 = .ok (.invokevirtual 105, 3) := by decide +kernel
theorem dX3_ahead_53 : decode cX3_ahead 53 = .ok (.aload_n 0, 1) := by decide +kernel
theorem dX3_ahead_54 : decode cX3_ahead 54 = .ok (.getfield 16, 3) := by decide +kernel
theorem dX3_ahead_57 : decode cX3_ahead 57 = .ok (.iload_n 1, 1) := by decide +kernel
theorem dX3_ahead_58 : decode cX3_ahead 58 = .ok (.iload_n 2, 1) := by decide +kernel
theorem dX3_ahead_59 : decode cX3_ahead 59 = .ok (.invokevirtual 79, 3) := by decide +kernel
theorem dX3_ahead_62 : decode cX3_ahead 62 = .ok (.ireturn, 1) := by decide +kernel
theorem dX3_when_0 : decode cX3_when 0 = .ok (.aload_n 0, 1) := by decide +kernel
theorem dX3_when_1 : decode cX3_when 1 = .ok (.getfield 10, 3) := by decide +kernel
theorem dX3_when_4 : decode cX3_when 4 = .ok (.iload_n 1, 1) := by decide +kernel
theorem dX3_when_5 : decode cX3_when 5 = .ok (.invokevirtual 64, 3) := by decide +kernel
theorem dX3_when_8 : decode cX3_when 8 = .ok (.ifCond .ne 10, 3) := by decide +kernel
theorem dX3_when_11 : decode cX3_when 11 = .ok (.iload_n 2, 1) := by decide +kernel
theorem dX3_when_12 : decode cX3_when 12 = .ok (.invokestatic 52, 3) := by decide +kernel
theorem dX3_when_15 : decode cX3_when 15 = .ok (.ifCond .eq 9, 3) := by decide +kernel
theorem dX3_when_18 : decode cX3_when 18 = .ok (.aload_n 0, 1) := by decide +kernel
theorem dX3_when_19 : decode cX3_when 19 = .ok (.iconst 0, 1) := by decide +kernel
theorem dX3_when_20 : decode cX3_when 20 = .ok (.invokevirtual 44, 3) := by decide +kernel
theorem dX3_when_23 : decode cX3_when 23 = .ok (.ireturn, 1) := by decide +kernel
theorem dX3_when_24 : decode cX3_when 24 = .ok (.aload_n 0, 1) := by decide +kernel
theorem dX3_when_25 : decode cX3_when 25 = .ok (.getfield 16, 3) := by decide +kernel
theorem dX3_when_28 : decode cX3_when 28 = .ok (.aload_n 0, 1) := by decide +kernel
theorem dX3_when_29 : decode cX3_when 29 = .ok (.getfield 10, 3) := by decide +kernel
theorem dX3_when_32 : decode cX3_when 32 = .ok (.invokevirtual 133, 3) := by decide +kernel
theorem dX3_when_35 : decode cX3_when 35 = .ok (.iconst 0, 1) := by decide +kernel
theorem dX3_when_36 : decode cX3_when 36 = .ok (.istore_n 3, 1) := by decide +kernel
theorem dX3_when_37 : decode cX3_when 37 = .ok (.iload_n 3, 1) := by decide +kernel
theorem dX3_when_38 : decode cX3_when 38 = .ok (.sipush 200, 3) := by decide +kernel
theorem dX3_when_41 : decode cX3_when 41 = .ok (.if_icmp .gt 30, 3) := by decide +kernel
theorem dX3_when_44 : decode cX3_when 44 = .ok (.aload_n 0, 1) := by decide +kernel
theorem dX3_when_45 : decode cX3_when 45 = .ok (.getfield 16, 3) := by decide +kernel
theorem dX3_when_48 : decode cX3_when 48 = .ok (.iload_n 1, 1) := by decide +kernel
theorem dX3_when_49 : decode cX3_when 49 = .ok (.invokevirtual 137, 3) := by decide +kernel
theorem dX3_when_52 : decode cX3_when 52 = .ok (.iload_n 2, 1) := by decide +kernel
theorem dX3_when_53 : decode cX3_when 53 = .ok (.if_icmp .ne 5, 3) := by decide +kernel
theorem dX3_when_56 : decode cX3_when 56 = .ok (.iload_n 3, 1) := by decide +kernel
theorem dX3_when_57 : decode cX3_when 57 = .ok (.ireturn, 1) := by decide +kernel
theorem dX3_when_58 : decode cX3_when 58 = .ok (.aload_n 0, 1) := by decide +kernel
theorem dX3_when_59 : decode cX3_when 59 = .ok (.getfield 16, 3) := by decide +kernel
theorem dX3_when_62 : decode cX3_when 62 = .ok (.invokevirtual 140, 3) := by decide +kernel
theorem dX3_when_65 : decode cX3_when 65 = .ok (.iinc 3 1, 3) := by decide +kernel
theorem dX3_when_68 : decode cX3_when 68 = .ok (.goto (-31), 3) := by decide +kernel
theorem dX3_when_71 : decode cX3_when 71 = .ok (.aload_n 0, 1) := by decide +kernel
theorem dX3_when_72 : decode cX3_when 72 = .ok (.iconst 3, 1) := by decide +kernel
theorem dX3_when_73 : decode cX3_when 73 = .ok (.invokevirtual 44, 3) := by decide +kernel
theorem dX3_when_76 : decode cX3_when 76 = .ok (.ireturn, 1) := by decide +kernel
theorem dX3_meet_0 : decode cX3_meet 0 = .ok (.aload_n 0, 1) := by decide +kernel
theorem dX3_meet_1 : decode cX3_meet 1 = .ok (.iload_n 1, 1) := by decide +kernel
theorem dX3_meet_2 : decode cX3_meet 2 = .ok (.iload_n 2, 1) := by decide +kernel
theorem dX3_meet_3 : decode cX3_meet 3 = .ok (.invokevirtual 143, 3) := by decide +kernel
theorem dX3_meet_6 : decode cX3_meet 6 = .ok (.ifCond .eq 9, 3) := by decide +kernel
theorem dX3_meet_9 : decode cX3_meet 9 = .ok (.aload_n 0, 1) := by decide +kernel
theorem dX3_meet_10 : decode cX3_meet 10 = .ok (.iconst 0, 1) := by decide +kernel
theorem dX3_meet_11 : decode cX3_meet 11 = .ok (.invokevirtual 44, 3) := by decide +kernel
theorem dX3_meet_14 : decode cX3_meet 14 = .ok (.ireturn, 1) := by decide +kernel
theorem dX3_meet_15 : decode cX3_meet 15 = .ok (.aload_n 0, 1) := by decide +kernel
theorem dX3_meet_16 : decode cX3_meet 16 = .ok (.getfield 16, 3) := by decide +kernel
theorem dX3_meet_19 : decode cX3_meet 19 = .ok (.aload_n 0, 1) := by decide +kernel
theorem dX3_meet_20 : decode cX3_meet 20 = .ok (.getfield 10, 3) := by decide +kernel
theorem dX3_meet_23 : decode cX3_meet 23 = .ok (.invokevirtual 133, 3) := by decide +kernel
theorem dX3_meet_26 : decode cX3_meet 26 = .ok (.aload_n 0, 1) := by decide +kernel
theorem dX3_meet_27 : decode cX3_meet 27 = .ok (.iload_n 1, 1) := by decide +kernel
theorem dX3_meet_28 : decode cX3_meet 28 = .ok (.iload_n 2, 1) := by decide +kernel
theorem dX3_meet_29 : decode cX3_meet 29 = .ok (.sipush 200, 3) := by decide +kernel
theorem dX3_meet_32 : decode cX3_meet 32 = .ok (.invokevirtual 147, 3) := by decide +kernel
theorem dX3_meet_35 : decode cX3_meet 35 = .ok (.istore_n 3, 1) := by decide +kernel
theorem dX3_meet_36 : decode cX3_meet 36 = .ok (.iload_n 3, 1) := by decide +kernel
theorem dX3_meet_37 : decode cX3_meet 37 = .ok (.ifCond .ge 11, 3) := by decide +kernel
theorem dX3_meet_40 : decode cX3_meet 40 = .ok (.aload_n 0, 1) := by decide +kernel
theorem dX3_meet_41 : decode cX3_meet 41 = .ok (.iconst 3, 1) := by decide +kernel
theorem dX3_meet_42 : decode cX3_meet 42 = .ok (.invokevirtual 44, 3) := by decide +kernel
theorem dX3_meet_45 : decode cX3_meet 45 = .ok (.goto 4, 3) := by decide +kernel
theorem dX3_meet_48 : decode cX3_meet 48 = .ok (.iload_n 3, 1) := by decide +kernel
theorem dX3_meet_49 : decode cX3_meet 49 = .ok (.ireturn, 1) := by decide +kernel
theorem dX3_round_0 : decode cX3_round 0 = .ok (.aload_n 0, 1) := by decide +kernel
theorem dX3_round_1 : decode cX3_round 1 = .ok (.getfield 16, 3) := by decide +kernel
theorem dX3_round_4 : decode cX3_round 4 = .ok (.aload_n 0, 1) := by decide +kernel
theorem dX3_round_5 : decode cX3_round 5 = .ok (.getfield 10, 3) := by decide +kernel
theorem dX3_round_8 : decode cX3_round 8 = .ok (.invokevirtual 133, 3) := by decide +kernel
theorem dX3_round_11 : decode cX3_round 11 = .ok (.iconst 1, 1) := by decide +kernel
theorem dX3_round_12 : decode cX3_round 12 = .ok (.istore_n 1, 1) := by decide +kernel
theorem dX3_round_13 : decode cX3_round 13 = .ok (.iload_n 1, 1) := by decide +kernel
theorem dX3_round_14 : decode cX3_round 14 = .ok (.sipush 300, 3) := by decide +kernel
theorem dX3_round_17 : decode cX3_round 17 = .ok (.if_icmp .gt 32, 3) := by decide +kernel
theorem dX3_round_20 : decode cX3_round 20 = .ok (.aload_n 0, 1) := by decide +kernel
theorem dX3_round_21 : decode cX3_round 21 = .ok (.getfield 16, 3) := by decide +kernel
theorem dX3_round_24 : decode cX3_round 24 = .ok (.invokevirtual 140, 3) := by decide +kernel
theorem dX3_round_27 : decode cX3_round 27 = .ok (.aload_n 0, 1) := by decide +kernel
theorem dX3_round_28 : decode cX3_round 28 = .ok (.getfield 16, 3) := by decide +kernel
theorem dX3_round_31 : decode cX3_round 31 = .ok (.aload_n 0, 1) := by decide +kernel
theorem dX3_round_32 : decode cX3_round 32 = .ok (.getfield 10, 3) := by decide +kernel
theorem dX3_round_35 : decode cX3_round 35 = .ok (.invokevirtual 151, 3) := by decide +kernel
theorem dX3_round_38 : decode cX3_round 38 = .ok (.ifCond .eq 5, 3) := by decide +kernel
theorem dX3_round_41 : decode cX3_round 41 = .ok (.iload_n 1, 1) := by decide +kernel
theorem dX3_round_42 : decode cX3_round 42 = .ok (.ireturn, 1) := by decide +kernel
theorem dX3_round_43 : decode cX3_round 43 = .ok (.iinc 1 1, 3) := by decide +kernel
theorem dX3_round_46 : decode cX3_round 46 = .ok (.goto (-33), 3) := by decide +kernel
theorem dX3_round_49 : decode cX3_round 49 = .ok (.aload_n 0, 1) := by decide +kernel
theorem dX3_round_50 : decode cX3_round 50 = .ok (.iconst 3, 1) := by decide +kernel
theorem dX3_round_51 : decode cX3_round 51 = .ok (.invokevirtual 44, 3) := by decide +kernel
theorem dX3_round_54 : decode cX3_round 54 = .ok (.ireturn, 1) := by decide +kernel
theorem dX3_skylines_0 : decode cX3_skylines 0 = .ok (.iload_n 1, 1) := by decide +kernel
theorem dX3_skylines_1 : decode cX3_skylines 1 = .ok (.invokestatic 52, 3) := by decide +kernel
theorem dX3_skylines_4 : decode cX3_skylines 4 = .ok (.ifCond .ne 14, 3) := by decide +kernel
theorem dX3_skylines_7 : decode cX3_skylines 7 = .ok (.iload_n 2, 1) := by decide +kernel
theorem dX3_skylines_8 : decode cX3_skylines 8 = .ok (.iconst 0, 1) := by decide +kernel
theorem dX3_skylines_9 : decode cX3_skylines 9 = .ok (.sipush 200, 3) := by decide +kernel
theorem dX3_skylines_12 : decode cX3_skylines 12 = .ok (.invokestatic 40, 3) := by decide +kernel
theorem dX3_skylines_15 : decode cX3_skylines 15 = .ok (.ifCond .eq 9, 3) := by decide +kernel
theorem dX3_skylines_18 : decode cX3_skylines 18 = .ok (.aload_n 0, 1) := by decide +kernel
theorem dX3_skylines_19 : decode cX3_skylines 19 = .ok (.iconst 0, 1) := by decide +kernel
theorem dX3_skylines_20 : decode cX3_skylines 20 = .ok (.invokevirtual 44, 3) := by decide +kernel
theorem dX3_skylines_23 : decode cX3_skylines 23 = .ok (.ireturn, 1) := by decide +kernel
theorem dX3_skylines_24 : decode cX3_skylines 24 = .ok (.aload_n 0, 1) := by decide +kernel
theorem dX3_skylines_25 : decode cX3_skylines 25 = .ok (.getfield 16, 3) := by decide +kernel
theorem dX3_skylines_28 : decode cX3_skylines 28 = .ok (.aload_n 0, 1) := by decide +kernel
theorem dX3_skylines_29 : decode cX3_skylines 29 = .ok (.getfield 10, 3) := by decide +kernel
theorem dX3_skylines_32 : decode cX3_skylines 32 = .ok (.invokevirtual 133, 3) := by decide +kernel
theorem dX3_skylines_35 : decode cX3_skylines 35 = .ok (.iconst 0, 1) := by decide +kernel
theorem dX3_skylines_36 : decode cX3_skylines 36 = .ok (.istore_n 3, 1) := by decide +kernel
theorem dX3_skylines_37 : decode cX3_skylines 37 = .ok (.iconst 0, 1) := by decide +kernel
theorem dX3_skylines_38 : decode cX3_skylines 38 = .ok (.istore 4, 2) := by decide +kernel
theorem dX3_skylines_40 : decode cX3_skylines 40 = .ok (.iload 4, 2) := by decide +kernel
theorem dX3_skylines_42 : decode cX3_skylines 42 = .ok (.iload_n 2, 1) := by decide +kernel
theorem dX3_skylines_43 : decode cX3_skylines 43 = .ok (.if_icmp .ge 30, 3) := by decide +kernel
theorem dX3_skylines_46 : decode cX3_skylines 46 = .ok (.aload_n 0, 1) := by decide +kernel
theorem dX3_skylines_47 : decode cX3_skylines 47 = .ok (.getfield 16, 3) := by decide +kernel
theorem dX3_skylines_50 : decode cX3_skylines 50 = .ok (.iload_n 1, 1) := by decide +kernel
theorem dX3_skylines_51 : decode cX3_skylines 51 = .ok (.invokevirtual 95, 3) := by decide +kernel
theorem dX3_skylines_54 : decode cX3_skylines 54 = .ok (.ifCond .eq 6, 3) := by decide +kernel
theorem dX3_skylines_57 : decode cX3_skylines 57 = .ok (.iinc 3 1, 3) := by decide +kernel
theorem dX3_skylines_60 : decode cX3_skylines 60 = .ok (.aload_n 0, 1) := by decide +kernel
theorem dX3_skylines_61 : decode cX3_skylines 61 = .ok (.getfield 16, 3) := by decide +kernel
theorem dX3_skylines_64 : decode cX3_skylines 64 = .ok (.invokevirtual 140, 3) := by decide +kernel
theorem dX3_skylines_67 : decode cX3_skylines 67 = .ok (.iinc 4 1, 3) := by decide +kernel
theorem dX3_skylines_70 : decode cX3_skylines 70 = .ok (.goto (-30), 3) := by decide +kernel
theorem dX3_skylines_73 : decode cX3_skylines 73 = .ok (.iload_n 3, 1) := by decide +kernel
theorem dX3_skylines_74 : decode cX3_skylines 74 = .ok (.ireturn, 1) := by decide +kernel
theorem dX3_wallflowers_0 : decode cX3_wallflowers 0 = .ok (.iload_n 1, 1) := by decide +kernel
theorem dX3_wallflowers_1 : decode cX3_wallflowers 1 = .ok (.iconst 0, 1) := by decide +kernel
theorem dX3_wallflowers_2 : decode cX3_wallflowers 2 = .ok (.sipush 200, 3) := by decide +kernel
theorem dX3_wallflowers_5 : decode cX3_wallflowers 5 = .ok (.invokestatic 40, 3) := by decide +kernel
theorem dX3_wallflowers_8 : decode cX3_wallflowers 8 = .ok (.ifCond .eq 9, 3) := by decide +kernel
theorem dX3_wallflowers_11 : decode cX3_wallflowers 11 = .ok (.aload_n 0, 1) := by decide +kernel
theorem dX3_wallflowers_12 : decode cX3_wallflowers 12 = .ok (.iconst 0, 1) := by decide +kernel
theorem dX3_wallflowers_13 : decode cX3_wallflowers 13 = .ok (.invokevirtual 44, 3) := by decide +kernel
theorem dX3_wallflowers_16 : decode cX3_wallflowers 16 = .ok (.ireturn, 1) := by decide +kernel
theorem dX3_wallflowers_17 : decode cX3_wallflowers 17 = .ok (.aload_n 0, 1) := by decide +kernel
theorem dX3_wallflowers_18 : decode cX3_wallflowers 18 = .ok (.getfield 16, 3) := by decide +kernel
theorem dX3_wallflowers_21 : decode cX3_wallflowers 21 = .ok (.aload_n 0, 1) := by decide +kernel
theorem dX3_wallflowers_22 : decode cX3_wallflowers 22 = .ok (.getfield 10, 3) := by decide +kernel
theorem dX3_wallflowers_25 : decode cX3_wallflowers 25 = .ok (.invokevirtual 133, 3) := by decide +kernel
theorem dX3_wallflowers_28 : decode cX3_wallflowers 28 = .ok (.aload_n 0, 1) := by decide +kernel
theorem dX3_wallflowers_29 : decode cX3_wallflowers 29 = .ok (.getfield 10, 3) := by decide +kernel
theorem dX3_wallflowers_32 : decode cX3_wallflowers 32 = .ok (.invokevirtual 155, 3) := by decide +kernel
theorem dX3_wallflowers_35 : decode cX3_wallflowers 35 = .ok (.istore_n 2, 1) := by decide +kernel
theorem dX3_wallflowers_36 : decode cX3_wallflowers 36 = .ok (.iconst 0, 1) := by decide +kernel
theorem dX3_wallflowers_37 : decode cX3_wallflowers 37 = .ok (.istore_n 3, 1) := by decide +kernel
theorem dX3_wallflowers_38 : decode cX3_wallflowers 38 = .ok (.iload_n 3, 1) := by decide +kernel
theorem dX3_wallflowers_39 : decode cX3_wallflowers 39 = .ok (.iload_n 1, 1) := by decide +kernel
theorem dX3_wallflowers_40 : decode cX3_wallflowers 40 = .ok (.if_icmp .ge 32, 3) := by decide +kernel
theorem dX3_wallflowers_43 : decode cX3_wallflowers 43 = .ok (.iload_n 2, 1) := by decide +kernel
theorem dX3_wallflowers_44 : decode cX3_wallflowers 44 = .ok (.ifCond .eq 28, 3) := by decide +kernel
theorem dX3_wallflowers_47 : decode cX3_wallflowers 47 = .ok (.iload_n 2, 1) := by decide +kernel
theorem dX3_wallflowers_48 : decode cX3_wallflowers 48 = .ok (.aload_n 0, 1) := by decide +kernel
theorem dX3_wallflowers_49 : decode cX3_wallflowers 49 = .ok (.getfield 16, 3) := by decide +kernel
theorem dX3_wallflowers_52 : decode cX3_wallflowers 52 = .ok (.invokevirtual 109, 3) := by decide +kernel
theorem dX3_wallflowers_55 : decode cX3_wallflowers 55 = .ok (.iconst (-1), 1) := by decide +kernel
theorem dX3_wallflowers_56 : decode cX3_wallflowers 56 = .ok (.ixor, 1) := by decide +kernel
theorem dX3_wallflowers_57 : decode cX3_wallflowers 57 = .ok (.iand, 1) := by decide +kernel
theorem dX3_wallflowers_58 : decode cX3_wallflowers 58 = .ok (.istore_n 2, 1) := by decide +kernel
theorem dX3_wallflowers_59 : decode cX3_wallflowers 59 = .ok (.aload_n 0, 1) := by decide +kernel
theorem dX3_wallflowers_60 : decode cX3_wallflowers 60 = .ok (.getfield 16, 3) := by decide +kernel
theorem dX3_wallflowers_63 : decode cX3_wallflowers 63 = .ok (.invokevirtual 140, 3) := by decide +kernel
theorem dX3_wallflowers_66 : decode cX3_wallflowers 66 = .ok (.iinc 3 1, 3) := by decide +kernel
theorem dX3_wallflowers_69 : decode cX3_wallflowers 69 = .ok (.goto (-31), 3) := by decide +kernel
theorem dX3_wallflowers_72 : decode cX3_wallflowers 72 = .ok (.iload_n 2, 1) := by decide +kernel
theorem dX3_wallflowers_73 : decode cX3_wallflowers 73 = .ok (.ireturn, 1) := by decide +kernel
theorem dX3_stand_0 : decode cX3_stand 0 = .ok (.aload_n 0, 1) := by decide +kernel
theorem dX3_stand_1 : decode cX3_stand 1 = .ok (.iload_n 1, 1) := by decide +kernel
theorem dX3_stand_2 : decode cX3_stand 2 = .ok (.iload_n 2, 1) := by decide +kernel
theorem dX3_stand_3 : decode cX3_stand 3 = .ok (.iconst 1, 1) := by decide +kernel
theorem dX3_stand_4 : decode cX3_stand 4 = .ok (.invokevirtual 158, 3) := by decide +kernel
theorem dX3_stand_7 : decode cX3_stand 7 = .ok (.ireturn, 1) := by decide +kernel
theorem dX3_stepFor_0 : decode cX3_stepFor 0 = .ok (.aload_n 0, 1) := by decide +kernel
theorem dX3_stepFor_1 : decode cX3_stepFor 1 = .ok (.iload_n 1, 1) := by decide +kernel
theorem dX3_stepFor_2 : decode cX3_stepFor 2 = .ok (.iload_n 2, 1) := by decide +kernel
theorem dX3_stepFor_3 : decode cX3_stepFor 3 = .ok (.iconst 2, 1) := by decide +kernel
theorem dX3_stepFor_4 : decode cX3_stepFor 4 = .ok (.invokevirtual 158, 3) := by decide +kernel
theorem dX3_stepFor_7 : decode cX3_stepFor 7 = .ok (.ireturn, 1) := by decide +kernel
theorem dX3_turnFor_0 : decode cX3_turnFor 0 = .ok (.aload_n 0, 1) := by decide +kernel
theorem dX3_turnFor_1 : decode cX3_turnFor 1 = .ok (.iload_n 1, 1) := by decide +kernel
theorem dX3_turnFor_2 : decode cX3_turnFor 2 = .ok (.iload_n 2, 1) := by decide +kernel
theorem dX3_turnFor_3 : decode cX3_turnFor 3 = .ok (.iconst 3, 1) := by decide +kernel
theorem dX3_turnFor_4 : decode cX3_turnFor 4 = .ok (.invokevirtual 158, 3) := by decide +kernel
theorem dX3_turnFor_7 : decode cX3_turnFor 7 = .ok (.ireturn, 1) := by decide +kernel
theorem dX3_kindFor_0 : decode cX3_kindFor 0 = .ok (.aload_n 0, 1) := by decide +kernel
theorem dX3_kindFor_1 : decode cX3_kindFor 1 = .ok (.getfield 10, 3) := by decide +kernel
theorem dX3_kindFor_4 : decode cX3_kindFor 4 = .ok (.iload_n 1, 1) := by decide +kernel
theorem dX3_kindFor_5 : decode cX3_kindFor 5 = .ok (.invokevirtual 64, 3) := by decide +kernel
theorem dX3_kindFor_8 : decode cX3_kindFor 8 = .ok (.ifCond .ne 13, 3) := by decide +kernel
theorem dX3_kindFor_11 : decode cX3_kindFor 11 = .ok (.iload_n 2, 1) := by decide +kernel
theorem dX3_kindFor_12 : decode cX3_kindFor 12 = .ok (.iconst 0, 1) := by decide +kernel
theorem dX3_kindFor_13 : decode cX3_kindFor 13 = .ok (.bipush 60, 2) := by decide +kernel
theorem dX3_kindFor_15 : decode cX3_kindFor 15 = .ok (.invokestatic 40, 3) := by decide +kernel
theorem dX3_kindFor_18 : decode cX3_kindFor 18 = .ok (.ifCond .eq 9, 3) := by decide +kernel
theorem dX3_kindFor_21 : decode cX3_kindFor 21 = .ok (.aload_n 0, 1) := by decide +kernel
theorem dX3_kindFor_22 : decode cX3_kindFor 22 = .ok (.iconst 0, 1) := by decide +kernel
theorem dX3_kindFor_23 : decode cX3_kindFor 23 = .ok (.invokevirtual 44, 3) := by decide +kernel
theorem dX3_kindFor_26 : decode cX3_kindFor 26 = .ok (.ireturn, 1) := by decide +kernel
theorem dX3_kindFor_27 : decode cX3_kindFor 27 = .ok (.iconst 0, 1) := by decide +kernel
theorem dX3_kindFor_28 : decode cX3_kindFor 28 = .ok (.istore_n 3, 1) := by decide +kernel
theorem dX3_kindFor_29 : decode cX3_kindFor 29 = .ok (.iconst (-1), 1) := by decide +kernel
theorem dX3_kindFor_30 : decode cX3_kindFor 30 = .ok (.istore 4, 2) := by decide +kernel
theorem dX3_kindFor_32 : decode cX3_kindFor 32 = .ok (.iconst 0, 1) := by decide +kernel
theorem dX3_kindFor_33 : decode cX3_kindFor 33 = .ok (.istore 5, 2) := by decide +kernel
theorem dX3_kindFor_35 : decode cX3_kindFor 35 = .ok (.iload 5, 2) := by decide +kernel
theorem dX3_kindFor_37 : decode cX3_kindFor 37 = .ok (.bipush 7, 2) := by decide +kernel
theorem dX3_kindFor_39 : decode cX3_kindFor 39 = .ok (.if_icmp .ge 50, 3) := by decide +kernel
theorem dX3_kindFor_42 : decode cX3_kindFor 42 = .ok (.aload_n 0, 1) := by decide +kernel
theorem dX3_kindFor_43 : decode cX3_kindFor 43 = .ok (.iload_n 1, 1) := by decide +kernel
theorem dX3_kindFor_44 : decode cX3_kindFor 44 = .ok (.iconst 0, 1) := by decide +kernel
theorem dX3_kindFor_45 : decode cX3_kindFor 45 = .ok (.iload 5, 2) := by decide +kernel
theorem dX3_kindFor_47 : decode cX3_kindFor 47 = .ok (.invokevirtual 161, 3) := by decide +kernel
theorem dX3_kindFor_50 : decode cX3_kindFor 50 = .ok (.aload_n 0, 1) := by decide +kernel
theorem dX3_kindFor_51 : decode cX3_kindFor 51 = .ok (.getfield 16, 3) := by decide +kernel
theorem dX3_kindFor_54 : decode cX3_kindFor 54 = .ok (.iload_n 2, 1) := by decide +kernel
theorem dX3_kindFor_55 : decode cX3_kindFor 55 = .ok (.invokevirtual 105, 3) := by decide +kernel
theorem dX3_kindFor_58 : decode cX3_kindFor 58 = .ok (.aload_n 0, 1) := by decide +kernel
theorem dX3_kindFor_59 : decode cX3_kindFor 59 = .ok (.getfield 16, 3) := by decide +kernel
theorem dX3_kindFor_62 : decode cX3_kindFor 62 = .ok (.iload_n 1, 1) := by decide +kernel
theorem dX3_kindFor_63 : decode cX3_kindFor 63 = .ok (.iconst 5, 1) := by decide +kernel
theorem dX3_kindFor_64 : decode cX3_kindFor 64 = .ok (.invokevirtual 79, 3) := by decide +kernel
theorem dX3_kindFor_67 : decode cX3_kindFor 67 = .ok (.istore 6, 2) := by decide +kernel
theorem dX3_kindFor_69 : decode cX3_kindFor 69 = .ok (.iload 6, 2) := by decide +kernel
theorem dX3_kindFor_71 : decode cX3_kindFor 71 = .ok (.iload 4, 2) := by decide +kernel
theorem dX3_kindFor_73 : decode cX3_kindFor 73 = .ok (.if_icmp .le 10, 3) := by decide +kernel
theorem dX3_kindFor_76 : decode cX3_kindFor 76 = .ok (.iload 6, 2) := by decide +kernel
theorem dX3_kindFor_78 : decode cX3_kindFor 78 = .ok (.istore 4, 2) := by decide +kernel
theorem dX3_kindFor_80 : decode cX3_kindFor 80 = .ok (.iload 5, 2) := by decide +kernel
theorem dX3_kindFor_82 : decode cX3_kindFor 82 = .ok (.istore_n 3, 1) := by decide +kernel
theorem dX3_kindFor_83 : decode cX3_kindFor 83 = .ok (.iinc 5 1, 3) := by decide +kernel
theorem dX3_kindFor_86 : decode cX3_kindFor 86 = .ok (.goto (-51), 3) := by decide +kernel
theorem dX3_kindFor_89 : decode cX3_kindFor 89 = .ok (.iload_n 3, 1) := by decide +kernel
theorem dX3_kindFor_90 : decode cX3_kindFor 90 = .ok (.ireturn, 1) := by decide +kernel
theorem dX3_rainFor_0 : decode cX3_rainFor 0 = .ok (.aload_n 0, 1) := by decide +kernel
theorem dX3_rainFor_1 : decode cX3_rainFor 1 = .ok (.getfield 10, 3) := by decide +kernel
theorem dX3_rainFor_4 : decode cX3_rainFor 4 = .ok (.iload_n 1, 1) := by decide +kernel
theorem dX3_rainFor_5 : decode cX3_rainFor 5 = .ok (.invokevirtual 64, 3) := by decide +kernel
theorem dX3_rainFor_8 : decode cX3_rainFor 8 = .ok (.ifCond .ne 23, 3) := by decide +kernel
theorem dX3_rainFor_11 : decode cX3_rainFor 11 = .ok (.iload_n 2, 1) := by decide +kernel
theorem dX3_rainFor_12 : decode cX3_rainFor 12 = .ok (.iconst 0, 1) := by decide +kernel
theorem dX3_rainFor_13 : decode cX3_rainFor 13 = .ok (.bipush 99, 2) := by decide +kernel
theorem dX3_rainFor_15 : decode cX3_rainFor 15 = .ok (.invokestatic 40, 3) := by decide +kernel
theorem dX3_rainFor_18 : decode cX3_rainFor 18 = .ok (.ifCond .ne 13, 3) := by decide +kernel
theorem dX3_rainFor_21 : decode cX3_rainFor 21 = .ok (.iload_n 3, 1) := by decide +kernel
theorem dX3_rainFor_22 : decode cX3_rainFor 22 = .ok (.iconst 0, 1) := by decide +kernel
theorem dX3_rainFor_23 : decode cX3_rainFor 23 = .ok (.bipush 60, 2) := by decide +kernel
theorem dX3_rainFor_25 : decode cX3_rainFor 25 = .ok (.invokestatic 40, 3) := by decide +kernel
theorem dX3_rainFor_28 : decode cX3_rainFor 28 = .ok (.ifCond .eq 9, 3) := by decide +kernel
theorem dX3_rainFor_31 : decode cX3_rainFor 31 = .ok (.aload_n 0, 1) := by decide +kernel
theorem dX3_rainFor_32 : decode cX3_rainFor 32 = .ok (.iconst 0, 1) := by decide +kernel
theorem dX3_rainFor_33 : decode cX3_rainFor 33 = .ok (.invokevirtual 44, 3) := by decide +kernel
theorem dX3_rainFor_36 : decode cX3_rainFor 36 = .ok (.ireturn, 1) := by decide +kernel
theorem dX3_rainFor_37 : decode cX3_rainFor 37 = .ok (.iconst 0, 1) := by decide +kernel
theorem dX3_rainFor_38 : decode cX3_rainFor 38 = .ok (.istore 4, 2) := by decide +kernel
theorem dX3_rainFor_40 : decode cX3_rainFor 40 = .ok (.iload 4, 2) := by decide +kernel
theorem dX3_rainFor_42 : decode cX3_rainFor 42 = .ok (.bipush 9, 2) := by decide +kernel
theorem dX3_rainFor_44 : decode cX3_rainFor 44 = .ok (.if_icmp .gt 53, 3) := by decide +kernel
theorem dX3_rainFor_47 : decode cX3_rainFor 47 = .ok (.aload_n 0, 1) := by decide +kernel
theorem dX3_rainFor_48 : decode cX3_rainFor 48 = .ok (.getfield 16, 3) := by decide +kernel
theorem dX3_rainFor_51 : decode cX3_rainFor 51 = .ok (.aload_n 0, 1) := by decide +kernel
theorem dX3_rainFor_52 : decode cX3_rainFor 52 = .ok (.getfield 10, 3) := by decide +kernel
theorem dX3_rainFor_55 : decode cX3_rainFor 55 = .ok (.invokevirtual 133, 3) := by decide +kernel
theorem dX3_rainFor_58 : decode cX3_rainFor 58 = .ok (.aload_n 0, 1) := by decide +kernel
theorem dX3_rainFor_59 : decode cX3_rainFor 59 = .ok (.getfield 16, 3) := by decide +kernel
theorem dX3_rainFor_62 : decode cX3_rainFor 62 = .ok (.iload 4, 2) := by decide +kernel
theorem dX3_rainFor_64 : decode cX3_rainFor 64 = .ok (.putfield 48, 3) := by decide +kernel
theorem dX3_rainFor_67 : decode cX3_rainFor 67 = .ok (.aload_n 0, 1) := by decide +kernel
theorem dX3_rainFor_68 : decode cX3_rainFor 68 = .ok (.getfield 16, 3) := by decide +kernel
theorem dX3_rainFor_71 : decode cX3_rainFor 71 = .ok (.iload_n 3, 1) := by decide +kernel
theorem dX3_rainFor_72 : decode cX3_rainFor 72 = .ok (.invokevirtual 105, 3) := by decide +kernel
theorem dX3_rainFor_75 : decode cX3_rainFor 75 = .ok (.aload_n 0, 1) := by decide +kernel
theorem dX3_rainFor_76 : decode cX3_rainFor 76 = .ok (.getfield 16, 3) := by decide +kernel
theorem dX3_rainFor_79 : decode cX3_rainFor 79 = .ok (.iload_n 1, 1) := by decide +kernel
theorem dX3_rainFor_80 : decode cX3_rainFor 80 = .ok (.iconst 4, 1) := by decide +kernel
theorem dX3_rainFor_81 : decode cX3_rainFor 81 = .ok (.invokevirtual 79, 3) := by decide +kernel
theorem dX3_rainFor_84 : decode cX3_rainFor 84 = .ok (.iload_n 2, 1) := by decide +kernel
theorem dX3_rainFor_85 : decode cX3_rainFor 85 = .ok (.if_icmp .gt 6, 3) := by decide +kernel
theorem dX3_rainFor_88 : decode cX3_rainFor 88 = .ok (.iload 4, 2) := by decide +kernel
theorem dX3_rainFor_90 : decode cX3_rainFor 90 = .ok (.ireturn, 1) := by decide +kernel
theorem dX3_rainFor_91 : decode cX3_rainFor 91 = .ok (.iinc 4 1, 3) := by decide +kernel
theorem dX3_rainFor_94 : decode cX3_rainFor 94 = .ok (.goto (-54), 3) := by decide +kernel
theorem dX3_rainFor_97 : decode cX3_rainFor 97 = .ok (.aload_n 0, 1) := by decide +kernel
theorem dX3_rainFor_98 : decode cX3_rainFor 98 = .ok (.iconst 3, 1) := by decide +kernel
theorem dX3_rainFor_99 : decode cX3_rainFor 99 = .ok (.invokevirtual 44, 3) := by decide +kernel
theorem dX3_rainFor_102 : decode cX3_rainFor 102 = .ok (.ireturn, 1) := by decide +kernel
theorem dX3_road_0 : decode cX3_road 0 = .ok (.iload_n 1, 1) := by decide +kernel
theorem dX3_road_1 : decode cX3_road 1 = .ok (.invokestatic 52, 3) := by decide +kernel
theorem dX3_road_4 : decode cX3_road 4 = .ok (.ifCond .ne 20, 3) := by decide +kernel
theorem dX3_road_7 : decode cX3_road 7 = .ok (.iload_n 2, 1) := by decide +kernel
theorem dX3_road_8 : decode cX3_road 8 = .ok (.invokestatic 52, 3) := by decide +kernel
theorem dX3_road_11 : decode cX3_road 11 = .ok (.ifCond .ne 13, 3) := by decide +kernel
theorem dX3_road_14 : decode cX3_road 14 = .ok (.iload_n 3, 1) := by decide +kernel
theorem dX3_road_15 : decode cX3_road 15 = .ok (.iconst 0, 1) := by decide +kernel
theorem dX3_road_16 : decode cX3_road 16 = .ok (.bipush 99, 2) := by decide +kernel
theorem dX3_road_18 : decode cX3_road 18 = .ok (.invokestatic 40, 3) := by decide +kernel
theorem dX3_road_21 : decode cX3_road 21 = .ok (.ifCond .eq 9, 3) := by decide +kernel
theorem dX3_road_24 : decode cX3_road 24 = .ok (.aload_n 0, 1) := by decide +kernel
theorem dX3_road_25 : decode cX3_road 25 = .ok (.iconst 0, 1) := by decide +kernel
theorem dX3_road_26 : decode cX3_road 26 = .ok (.invokevirtual 44, 3) := by decide +kernel
theorem dX3_road_29 : decode cX3_road 29 = .ok (.ireturn, 1) := by decide +kernel
theorem dX3_road_30 : decode cX3_road 30 = .ok (.iload_n 1, 1) := by decide +kernel
theorem dX3_road_31 : decode cX3_road 31 = .ok (.iload_n 2, 1) := by decide +kernel
theorem dX3_road_32 : decode cX3_road 32 = .ok (.invokestatic 164, 3) := by decide +kernel
theorem dX3_road_35 : decode cX3_road 35 = .ok (.istore 4, 2) := by decide +kernel
theorem dX3_road_37 : decode cX3_road 37 = .ok (.iload_n 2, 1) := by decide +kernel
theorem dX3_road_38 : decode cX3_road 38 = .ok (.iload_n 1, 1) := by decide +kernel
theorem dX3_road_39 : decode cX3_road 39 = .ok (.invokestatic 164, 3) := by decide +kernel
theorem dX3_road_42 : decode cX3_road 42 = .ok (.istore 5, 2) := by decide +kernel
theorem dX3_road_44 : decode cX3_road 44 = .ok (.aload_n 0, 1) := by decide +kernel
theorem dX3_road_45 : decode cX3_road 45 = .ok (.getfield 10, 3) := by decide +kernel
theorem dX3_road_48 : decode cX3_road 48 = .ok (.iload_n 1, 1) := by decide +kernel
theorem dX3_road_49 : decode cX3_road 49 = .ok (.iload_n 2, 1) := by decide +kernel
theorem dX3_road_50 : decode cX3_road 50 = .ok (.invokevirtual 167, 3) := by decide +kernel
theorem dX3_road_53 : decode cX3_road 53 = .ok (.iload_n 3, 1) := by decide +kernel
theorem dX3_road_54 : decode cX3_road 54 = .ok (.if_icmp .gt 7, 3) := by decide +kernel
theorem dX3_road_57 : decode cX3_road 57 = .ok (.iconst 1, 1) := by decide +kernel
theorem dX3_road_58 : decode cX3_road 58 = .ok (.goto 4, 3) := by decide +kernel
theorem dX3_road_61 : decode cX3_road 61 = .ok (.iconst 0, 1) := by decide +kernel
theorem dX3_road_62 : decode cX3_road 62 = .ok (.istore 6, 2) := by decide +kernel
theorem dX3_road_64 : decode cX3_road 64 = .ok (.aload_n 0, 1) := by decide +kernel
theorem dX3_road_65 : decode cX3_road 65 = .ok (.getfield 10, 3) := by decide +kernel
theorem dX3_road_68 : decode cX3_road 68 = .ok (.iload_n 2, 1) := by decide +kernel
theorem dX3_road_69 : decode cX3_road 69 = .ok (.iload_n 1, 1) := by decide +kernel
theorem dX3_road_70 : decode cX3_road 70 = .ok (.invokevirtual 167, 3) := by decide +kernel
theorem dX3_road_73 : decode cX3_road 73 = .ok (.iload_n 3, 1) := by decide +kernel
theorem dX3_road_74 : decode cX3_road 74 = .ok (.if_icmp .gt 7, 3) := by decide +kernel
theorem dX3_road_77 : decode cX3_road 77 = .ok (.iconst 1, 1) := by decide +kernel
theorem dX3_road_78 : decode cX3_road 78 = .ok (.goto 4, 3) := by decide +kernel
theorem dX3_road_81 : decode cX3_road 81 = .ok (.iconst 0, 1) := by decide +kernel
theorem dX3_road_82 : decode cX3_road 82 = .ok (.istore 7, 2) := by decide +kernel
theorem dX3_road_84 : decode cX3_road 84 = .ok (.iload 6, 2) := by decide +kernel
theorem dX3_road_86 : decode cX3_road 86 = .ok (.ifCond .eq 16, 3) := by decide +kernel
theorem dX3_road_89 : decode cX3_road 89 = .ok (.iload 7, 2) := by decide +kernel
theorem dX3_road_91 : decode cX3_road 91 = .ok (.ifCond .eq 11, 3) := by decide +kernel
theorem dX3_road_94 : decode cX3_road 94 = .ok (.iload 4, 2) := by decide +kernel
theorem dX3_road_96 : decode cX3_road 96 = .ok (.iload 5, 2) := by decide +kernel
theorem dX3_road_98 : decode cX3_road 98 = .ok (.invokestatic 170, 3) := by decide +kernel
theorem dX3_road_101 : decode cX3_road 101 = .ok (.ireturn, 1) := by decide +kernel
theorem dX3_road_102 : decode cX3_road 102 = .ok (.iload 6, 2) := by decide +kernel
theorem dX3_road_104 : decode cX3_road 104 = .ok (.ifCond .eq 6, 3) := by decide +kernel
theorem dX3_road_107 : decode cX3_road 107 = .ok (.iload 4, 2) := by decide +kernel
theorem dX3_road_109 : decode cX3_road 109 = .ok (.ireturn, 1) := by decide +kernel
theorem dX3_road_110 : decode cX3_road 110 = .ok (.iload 7, 2) := by decide +kernel
theorem dX3_road_112 : decode cX3_road 112 = .ok (.ifCond .eq 8, 3) := by decide +kernel
theorem dX3_road_115 : decode cX3_road 115 = .ok (.iload 5, 2) := by decide +kernel
theorem dX3_road_117 : decode cX3_road 117 = .ok (.goto 8, 3) := by decide +kernel
theorem dX3_road_120 : decode cX3_road 120 = .ok (.aload_n 0, 1) := by decide +kernel
theorem dX3_road_121 : decode cX3_road 121 = .ok (.iconst 3, 1) := by decide +kernel
theorem dX3_road_122 : decode cX3_road 122 = .ok (.invokevirtual 44, 3) := by decide +kernel
theorem dX3_road_125 : decode cX3_road 125 = .ok (.ireturn, 1) := by decide +kernel
theorem dX3_climb_0 : decode cX3_climb 0 = .ok (.iload_n 1, 1) := by decide +kernel
theorem dX3_climb_1 : decode cX3_climb 1 = .ok (.invokestatic 52, 3) := by decide +kernel
theorem dX3_climb_4 : decode cX3_climb 4 = .ok (.ifCond .ne 10, 3) := by decide +kernel
theorem dX3_climb_7 : decode cX3_climb 7 = .ok (.iload_n 2, 1) := by decide +kernel
theorem dX3_climb_8 : decode cX3_climb 8 = .ok (.invokestatic 52, 3) := by decide +kernel
theorem dX3_climb_11 : decode cX3_climb 11 = .ok (.ifCond .eq 9, 3) := by decide +kernel
theorem dX3_climb_14 : decode cX3_climb 14 = .ok (.aload_n 0, 1) := by decide +kernel
theorem dX3_climb_15 : decode cX3_climb 15 = .ok (.iconst 0, 1) := by decide +kernel
theorem dX3_climb_16 : decode cX3_climb 16 = .ok (.invokevirtual 44, 3) := by decide +kernel
theorem dX3_climb_19 : decode cX3_climb 19 = .ok (.ireturn, 1) := by decide +kernel
theorem dX3_climb_20 : decode cX3_climb 20 = .ok (.aload_n 0, 1) := by decide +kernel
theorem dX3_climb_21 : decode cX3_climb 21 = .ok (.getfield 10, 3) := by decide +kernel
theorem dX3_climb_24 : decode cX3_climb 24 = .ok (.iload_n 1, 1) := by decide +kernel
theorem dX3_climb_25 : decode cX3_climb 25 = .ok (.iload_n 2, 1) := by decide +kernel
theorem dX3_climb_26 : decode cX3_climb 26 = .ok (.invokevirtual 175, 3) := by decide +kernel
theorem dX3_climb_29 : decode cX3_climb 29 = .ok (.ireturn, 1) := by decide +kernel
theorem dX3_open_0 : decode cX3_open 0 = .ok (.iload_n 1, 1) := by decide +kernel
theorem dX3_open_1 : decode cX3_open 1 = .ok (.invokestatic 52, 3) := by decide +kernel
theorem dX3_open_4 : decode cX3_open 4 = .ok (.ifCond .ne 31, 3) := by decide +kernel
theorem dX3_open_7 : decode cX3_open 7 = .ok (.iload_n 2, 1) := by decide +kernel
theorem dX3_open_8 : decode cX3_open 8 = .ok (.invokestatic 52, 3) := by decide +kernel
theorem dX3_open_11 : decode cX3_open 11 = .ok (.ifCond .ne 24, 3) := by decide +kernel
theorem dX3_open_14 : decode cX3_open 14 = .ok (.iload_n 3, 1) := by decide +kernel
theorem dX3_open_15 : decode cX3_open 15 = .ok (.iconst 0, 1) := by decide +kernel
theorem dX3_open_16 : decode cX3_open 16 = .ok (.bipush 99, 2) := by decide +kernel
theorem dX3_open_18 : decode cX3_open 18 = .ok (.invokestatic 40, 3) := by decide +kernel
theorem dX3_open_21 : decode cX3_open 21 = .ok (.ifCond .ne 14, 3) := by decide +kernel
theorem dX3_open_24 : decode cX3_open 24 = .ok (.iload 4, 2) := by decide +kernel
theorem dX3_open_26 : decode cX3_open 26 = .ok (.iconst 0, 1) := by decide +kernel
theorem dX3_open_27 : decode cX3_open 27 = .ok (.bipush 100, 2) := by decide +kernel
theorem dX3_open_29 : decode cX3_open 29 = .ok (.invokestatic 40, 3) := by decide +kernel
theorem dX3_open_32 : decode cX3_open 32 = .ok (.ifCond .eq 9, 3) := by decide +kernel
theorem dX3_open_35 : decode cX3_open 35 = .ok (.aload_n 0, 1) := by decide +kernel
theorem dX3_open_36 : decode cX3_open 36 = .ok (.iconst 0, 1) := by decide +kernel
theorem dX3_open_37 : decode cX3_open 37 = .ok (.invokevirtual 44, 3) := by decide +kernel
theorem dX3_open_40 : decode cX3_open 40 = .ok (.ireturn, 1) := by decide +kernel
theorem dX3_open_41 : decode cX3_open 41 = .ok (.aload_n 0, 1) := by decide +kernel
theorem dX3_open_42 : decode cX3_open 42 = .ok (.iload_n 1, 1) := by decide +kernel
theorem dX3_open_43 : decode cX3_open 43 = .ok (.iload_n 2, 1) := by decide +kernel
theorem dX3_open_44 : decode cX3_open 44 = .ok (.iload_n 3, 1) := by decide +kernel
theorem dX3_open_45 : decode cX3_open 45 = .ok (.iload 4, 2) := by decide +kernel
theorem dX3_open_47 : decode cX3_open 47 = .ok (.invokevirtual 178, 3) := by decide +kernel
theorem dX3_open_50 : decode cX3_open 50 = .ok (.ireturn, 1) := by decide +kernel
theorem dX3_lay_0 : decode cX3_lay 0 = .ok (.iload_n 1, 1) := by decide +kernel
theorem dX3_lay_1 : decode cX3_lay 1 = .ok (.invokestatic 52, 3) := by decide +kernel
theorem dX3_lay_4 : decode cX3_lay 4 = .ok (.ifCond .ne 23, 3) := by decide +kernel
theorem dX3_lay_7 : decode cX3_lay 7 = .ok (.iload_n 2, 1) := by decide +kernel
theorem dX3_lay_8 : decode cX3_lay 8 = .ok (.iconst 0, 1) := by decide +kernel
theorem dX3_lay_9 : decode cX3_lay 9 = .ok (.bipush 99, 2) := by decide +kernel
theorem dX3_lay_11 : decode cX3_lay 11 = .ok (.invokestatic 40, 3) := by decide +kernel
theorem dX3_lay_14 : decode cX3_lay 14 = .ok (.ifCond .ne 13, 3) := by decide +kernel
theorem dX3_lay_17 : decode cX3_lay 17 = .ok (.iload_n 3, 1) := by decide +kernel
theorem dX3_lay_18 : decode cX3_lay 18 = .ok (.iconst 0, 1) := by decide +kernel
theorem dX3_lay_19 : decode cX3_lay 19 = .ok (.bipush 60, 2) := by decide +kernel
theorem dX3_lay_21 : decode cX3_lay 21 = .ok (.invokestatic 40, 3) := by decide +kernel
theorem dX3_lay_24 : decode cX3_lay 24 = .ok (.ifCond .eq 9, 3) := by decide +kernel
theorem dX3_lay_27 : decode cX3_lay 27 = .ok (.aload_n 0, 1) := by decide +kernel
theorem dX3_lay_28 : decode cX3_lay 28 = .ok (.iconst 0, 1) := by decide +kernel
theorem dX3_lay_29 : decode cX3_lay 29 = .ok (.invokevirtual 44, 3) := by decide +kernel
theorem dX3_lay_32 : decode cX3_lay 32 = .ok (.ireturn, 1) := by decide +kernel
theorem dX3_lay_33 : decode cX3_lay 33 = .ok (.iconst 0, 1) := by decide +kernel
theorem dX3_lay_34 : decode cX3_lay 34 = .ok (.istore 4, 2) := by decide +kernel
theorem dX3_lay_36 : decode cX3_lay 36 = .ok (.iconst (-1), 1) := by decide +kernel
theorem dX3_lay_37 : decode cX3_lay 37 = .ok (.istore 5, 2) := by decide +kernel
theorem dX3_lay_39 : decode cX3_lay 39 = .ok (.iconst 0, 1) := by decide +kernel
theorem dX3_lay_40 : decode cX3_lay 40 = .ok (.istore 6, 2) := by decide +kernel
theorem dX3_lay_42 : decode cX3_lay 42 = .ok (.iload 6, 2) := by decide +kernel
theorem dX3_lay_44 : decode cX3_lay 44 = .ok (.bipush 12, 2) := by decide +kernel
theorem dX3_lay_46 : decode cX3_lay 46 = .ok (.if_icmp .ge 51, 3) := by decide +kernel
theorem dX3_lay_49 : decode cX3_lay 49 = .ok (.iload 5, 2) := by decide +kernel
theorem dX3_lay_51 : decode cX3_lay 51 = .ok (.iload_n 3, 1) := by decide +kernel
theorem dX3_lay_52 : decode cX3_lay 52 = .ok (.if_icmp .ge 45, 3) := by decide +kernel
theorem dX3_lay_55 : decode cX3_lay 55 = .ok (.iload 6, 2) := by decide +kernel
theorem dX3_lay_57 : decode cX3_lay 57 = .ok (.iload_n 1, 1) := by decide +kernel
theorem dX3_lay_58 : decode cX3_lay 58 = .ok (.if_icmp .ne 7, 3) := by decide +kernel
theorem dX3_lay_61 : decode cX3_lay 61 = .ok (.iconst (-1), 1) := by decide +kernel
theorem dX3_lay_62 : decode cX3_lay 62 = .ok (.goto 12, 3) := by decide +kernel
theorem dX3_lay_65 : decode cX3_lay 65 = .ok (.aload_n 0, 1) := by decide +kernel
theorem dX3_lay_66 : decode cX3_lay 66 = .ok (.iload_n 1, 1) := by decide +kernel
theorem dX3_lay_67 : decode cX3_lay 67 = .ok (.iload 6, 2) := by decide +kernel
theorem dX3_lay_69 : decode cX3_lay 69 = .ok (.iload_n 2, 1) := by decide +kernel
theorem dX3_lay_70 : decode cX3_lay 70 = .ok (.iload_n 3, 1) := by decide +kernel
theorem dX3_lay_71 : decode cX3_lay 71 = .ok (.invokevirtual 178, 3) := by decide +kernel
theorem dX3_lay_74 : decode cX3_lay 74 = .ok (.istore 7, 2) := by decide +kernel
theorem dX3_lay_76 : decode cX3_lay 76 = .ok (.iload 7, 2) := by decide +kernel
theorem dX3_lay_78 : decode cX3_lay 78 = .ok (.iload 5, 2) := by decide +kernel
theorem dX3_lay_80 : decode cX3_lay 80 = .ok (.if_icmp .le 11, 3) := by decide +kernel
theorem dX3_lay_83 : decode cX3_lay 83 = .ok (.iload 7, 2) := by decide +kernel
theorem dX3_lay_85 : decode cX3_lay 85 = .ok (.istore 5, 2) := by decide +kernel
theorem dX3_lay_87 : decode cX3_lay 87 = .ok (.iload 6, 2) := by decide +kernel
theorem dX3_lay_89 : decode cX3_lay 89 = .ok (.istore 4, 2) := by decide +kernel
theorem dX3_lay_91 : decode cX3_lay 91 = .ok (.iinc 6 1, 3) := by decide +kernel
theorem dX3_lay_94 : decode cX3_lay 94 = .ok (.goto (-52), 3) := by decide +kernel
theorem dX3_lay_97 : decode cX3_lay 97 = .ok (.iload 4, 2) := by decide +kernel
theorem dX3_lay_99 : decode cX3_lay 99 = .ok (.ireturn, 1) := by decide +kernel
theorem dX3_fits_0 : decode cX3_fits 0 = .ok (.aload_n 0, 1) := by decide +kernel
theorem dX3_fits_1 : decode cX3_fits 1 = .ok (.iload_n 1, 1) := by decide +kernel
theorem dX3_fits_2 : decode cX3_fits 2 = .ok (.iload_n 2, 1) := by decide +kernel
theorem dX3_fits_3 : decode cX3_fits 3 = .ok (.invokevirtual 182, 3) := by decide +kernel
theorem dX3_fits_6 : decode cX3_fits 6 = .ok (.istore_n 3, 1) := by decide +kernel
theorem dX3_fits_7 : decode cX3_fits 7 = .ok (.iload_n 3, 1) := by decide +kernel
theorem dX3_fits_8 : decode cX3_fits 8 = .ok (.ifCond .lt 11, 3) := by decide +kernel
theorem dX3_fits_11 : decode cX3_fits 11 = .ok (.aload_n 0, 1) := by decide +kernel
theorem dX3_fits_12 : decode cX3_fits 12 = .ok (.iload_n 3, 1) := by decide +kernel
theorem dX3_fits_13 : decode cX3_fits 13 = .ok (.invokevirtual 44, 3) := by decide +kernel
theorem dX3_fits_16 : decode cX3_fits 16 = .ok (.goto 13, 3) := by decide +kernel
theorem dX3_fits_19 : decode cX3_fits 19 = .ok (.aload_n 0, 1) := by decide +kernel
theorem dX3_fits_20 : decode cX3_fits 20 = .ok (.iload_n 1, 1) := by decide +kernel
theorem dX3_fits_21 : decode cX3_fits 21 = .ok (.iload_n 2, 1) := by decide +kernel
theorem dX3_fits_22 : decode cX3_fits 22 = .ok (.iconst 2, 1) := by decide +kernel
theorem dX3_fits_23 : decode cX3_fits 23 = .ok (.invokevirtual 185, 3) := by decide +kernel
theorem dX3_fits_26 : decode cX3_fits 26 = .ok (.invokestatic 113, 3) := by decide +kernel
theorem dX3_fits_29 : decode cX3_fits 29 = .ok (.ireturn, 1) := by decide +kernel
theorem dX3_step_0 : decode cX3_step 0 = .ok (.aload_n 0, 1) := by decide +kernel
theorem dX3_step_1 : decode cX3_step 1 = .ok (.iload_n 1, 1) := by decide +kernel
theorem dX3_step_2 : decode cX3_step 2 = .ok (.iload_n 2, 1) := by decide +kernel
theorem dX3_step_3 : decode cX3_step 3 = .ok (.invokevirtual 182, 3) := by decide +kernel
theorem dX3_step_6 : decode cX3_step 6 = .ok (.istore_n 3, 1) := by decide +kernel
theorem dX3_step_7 : decode cX3_step 7 = .ok (.iload_n 3, 1) := by decide +kernel
theorem dX3_step_8 : decode cX3_step 8 = .ok (.ifCond .lt 9, 3) := by decide +kernel
theorem dX3_step_11 : decode cX3_step 11 = .ok (.aload_n 0, 1) := by decide +kernel
theorem dX3_step_12 : decode cX3_step 12 = .ok (.iload_n 3, 1) := by decide +kernel
theorem dX3_step_13 : decode cX3_step 13 = .ok (.invokevirtual 44, 3) := by decide +kernel
theorem dX3_step_16 : decode cX3_step 16 = .ok (.ireturn, 1) := by decide +kernel
theorem dX3_step_17 : decode cX3_step 17 = .ok (.aload_n 0, 1) := by decide +kernel
theorem dX3_step_18 : decode cX3_step 18 = .ok (.iload_n 1, 1) := by decide +kernel
theorem dX3_step_19 : decode cX3_step 19 = .ok (.iload_n 2, 1) := by decide +kernel
theorem dX3_step_20 : decode cX3_step 20 = .ok (.iconst 2, 1) := by decide +kernel
theorem dX3_step_21 : decode cX3_step 21 = .ok (.invokevirtual 185, 3) := by decide +kernel
theorem dX3_step_24 : decode cX3_step 24 = .ok (.istore 4, 2) := by decide +kernel
theorem dX3_step_26 : decode cX3_step 26 = .ok (.bipush (-5), 2) := by decide +kernel
theorem dX3_step_28 : decode cX3_step 28 = .ok (.istore 5, 2) := by decide +kernel
theorem dX3_step_30 : decode cX3_step 30 = .ok (.iload 5, 2) := by decide +kernel
theorem dX3_step_32 : decode cX3_step 32 = .ok (.iconst 5, 1) := by decide +kernel
theorem dX3_step_33 : decode cX3_step 33 = .ok (.if_icmp .gt 24, 3) := by decide +kernel
theorem dX3_step_36 : decode cX3_step 36 = .ok (.iload 4, 2) := by decide +kernel
theorem dX3_step_38 : decode cX3_step 38 = .ok (.iload 5, 2) := by decide +kernel
theorem dX3_step_40 : decode cX3_step 40 = .ok (.iconst 5, 1) := by decide +kernel
theorem dX3_step_41 : decode cX3_step 41 = .ok (.iadd, 1) := by decide +kernel
theorem dX3_step_42 : decode cX3_step 42 = .ok (.ishr, 1) := by decide +kernel
theorem dX3_step_43 : decode cX3_step 43 = .ok (.iconst 1, 1) := by decide +kernel
theorem dX3_step_44 : decode cX3_step 44 = .ok (.iand, 1) := by decide +kernel
theorem dX3_step_45 : decode cX3_step 45 = .ok (.ifCond .eq 6, 3) := by decide +kernel
theorem dX3_step_48 : decode cX3_step 48 = .ok (.iload 5, 2) := by decide +kernel
theorem dX3_step_50 : decode cX3_step 50 = .ok (.ireturn, 1) := by decide +kernel
theorem dX3_step_51 : decode cX3_step 51 = .ok (.iinc 5 1, 3) := by decide +kernel
theorem dX3_step_54 : decode cX3_step 54 = .ok (.goto (-24), 3) := by decide +kernel
theorem dX3_step_57 : decode cX3_step 57 = .ok (.aload_n 0, 1) := by decide +kernel
theorem dX3_step_58 : decode cX3_step 58 = .ok (.iconst 3, 1) := by decide +kernel
theorem dX3_step_59 : decode cX3_step 59 = .ok (.invokevirtual 44, 3) := by decide +kernel
theorem dX3_step_62 : decode cX3_step 62 = .ok (.ireturn, 1) := by decide +kernel
theorem dX3_kinds_0 : decode cX3_kinds 0 = .ok (.aload_n 0, 1) := by decide +kernel
theorem dX3_kinds_1 : decode cX3_kinds 1 = .ok (.iload_n 1, 1) := by decide +kernel
theorem dX3_kinds_2 : decode cX3_kinds 2 = .ok (.iload_n 2, 1) := by decide +kernel
theorem dX3_kinds_3 : decode cX3_kinds 3 = .ok (.invokevirtual 182, 3) := by decide +kernel
theorem dX3_kinds_6 : decode cX3_kinds 6 = .ok (.istore_n 3, 1) := by decide +kernel
theorem dX3_kinds_7 : decode cX3_kinds 7 = .ok (.iload_n 3, 1) := by decide +kernel
theorem dX3_kinds_8 : decode cX3_kinds 8 = .ok (.ifCond .lt 11, 3) := by decide +kernel
theorem dX3_kinds_11 : decode cX3_kinds 11 = .ok (.aload_n 0, 1) := by decide +kernel
theorem dX3_kinds_12 : decode cX3_kinds 12 = .ok (.iload_n 3, 1) := by decide +kernel
theorem dX3_kinds_13 : decode cX3_kinds 13 = .ok (.invokevirtual 44, 3) := by decide +kernel
theorem dX3_kinds_16 : decode cX3_kinds 16 = .ok (.goto 10, 3) := by decide +kernel
theorem dX3_kinds_19 : decode cX3_kinds 19 = .ok (.aload_n 0, 1) := by decide +kernel
theorem dX3_kinds_20 : decode cX3_kinds 20 = .ok (.iload_n 1, 1) := by decide +kernel
theorem dX3_kinds_21 : decode cX3_kinds 21 = .ok (.iload_n 2, 1) := by decide +kernel
theorem dX3_kinds_22 : decode cX3_kinds 22 = .ok (.iconst 0, 1) := by decide +kernel
theorem dX3_kinds_23 : decode cX3_kinds 23 = .ok (.invokevirtual 185, 3) := by decide +kernel
theorem dX3_kinds_26 : decode cX3_kinds 26 = .ok (.ireturn, 1) := by decide +kernel
theorem dX3_rains_0 : decode cX3_rains 0 = .ok (.iload_n 1, 1) := by decide +kernel
theorem dX3_rains_1 : decode cX3_rains 1 = .ok (.iconst 1, 1) := by decide +kernel
theorem dX3_rains_2 : decode cX3_rains 2 = .ok (.bipush 20, 2) := by decide +kernel
theorem dX3_rains_4 : decode cX3_rains 4 = .ok (.invokestatic 40, 3) := by decide +kernel
theorem dX3_rains_7 : decode cX3_rains 7 = .ok (.ifCond .eq 9, 3) := by decide +kernel
theorem dX3_rains_10 : decode cX3_rains 10 = .ok (.aload_n 0, 1) := by decide +kernel
theorem dX3_rains_11 : decode cX3_rains 11 = .ok (.iconst 0, 1) := by decide +kernel
theorem dX3_rains_12 : decode cX3_rains 12 = .ok (.invokevirtual 44, 3) := by decide +kernel
theorem dX3_rains_15 : decode cX3_rains 15 = .ok (.ireturn, 1) := by decide +kernel
theorem dX3_rains_16 : decode cX3_rains 16 = .ok (.aload_n 0, 1) := by decide +kernel
theorem dX3_rains_17 : decode cX3_rains 17 = .ok (.getfield 10, 3) := by decide +kernel
theorem dX3_rains_20 : decode cX3_rains 20 = .ok (.getfield 101, 3) := by decide +kernel
theorem dX3_rains_23 : decode cX3_rains 23 = .ok (.ldc 104, 2) := by decide +kernel
theorem dX3_rains_25 : decode cX3_rains 25 = .ok (.iload_n 1, 1) := by decide +kernel
theorem dX3_rains_26 : decode cX3_rains 26 = .ok (.isub, 1) := by decide +kernel
theorem dX3_rains_27 : decode cX3_rains 27 = .ok (.if_icmp .le 9, 3) := by decide +kernel
theorem dX3_rains_30 : decode cX3_rains 30 = .ok (.aload_n 0, 1) := by decide +kernel
theorem dX3_rains_31 : decode cX3_rains 31 = .ok (.iconst 4, 1) := by decide +kernel
theorem dX3_rains_32 : decode cX3_rains 32 = .ok (.invokevirtual 44, 3) := by decide +kernel
theorem dX3_rains_35 : decode cX3_rains 35 = .ok (.ireturn, 1) := by decide +kernel
theorem dX3_rains_36 : decode cX3_rains 36 = .ok (.iconst 0, 1) := by decide +kernel
theorem dX3_rains_37 : decode cX3_rains 37 = .ok (.istore_n 2, 1) := by decide +kernel
theorem dX3_rains_38 : decode cX3_rains 38 = .ok (.iload_n 2, 1) := by decide +kernel
theorem dX3_rains_39 : decode cX3_rains 39 = .ok (.iload_n 1, 1) := by decide +kernel
theorem dX3_rains_40 : decode cX3_rains 40 = .ok (.if_icmp .ge 16, 3) := by decide +kernel
theorem dX3_rains_43 : decode cX3_rains 43 = .ok (.aload_n 0, 1) := by decide +kernel
theorem dX3_rains_44 : decode cX3_rains 44 = .ok (.getfield 10, 3) := by decide +kernel
theorem dX3_rains_47 : decode cX3_rains 47 = .ok (.invokevirtual 188, 3) := by decide +kernel
theorem dX3_rains_50 : decode cX3_rains 50 = .ok (.iinc 2 1, 3) := by decide +kernel
theorem dX3_rains_53 : decode cX3_rains 53 = .ok (.goto (-15), 3) := by decide +kernel
theorem dX3_rains_56 : decode cX3_rains 56 = .ok (.aload_n 0, 1) := by decide +kernel
theorem dX3_rains_57 : decode cX3_rains 57 = .ok (.getfield 10, 3) := by decide +kernel
theorem dX3_rains_60 : decode cX3_rains 60 = .ok (.invokevirtual 118, 3) := by decide +kernel
theorem dX3_rains_63 : decode cX3_rains 63 = .ok (.ireturn, 1) := by decide +kernel
theorem dX3_odds_0 : decode cX3_odds 0 = .ok (.iload_n 1, 1) := by decide +kernel
theorem dX3_odds_1 : decode cX3_odds 1 = .ok (.iconst 0, 1) := by decide +kernel
theorem dX3_odds_2 : decode cX3_odds 2 = .ok (.bipush 20, 2) := by decide +kernel
theorem dX3_odds_4 : decode cX3_odds 4 = .ok (.invokestatic 40, 3) := by decide +kernel
theorem dX3_odds_7 : decode cX3_odds 7 = .ok (.ifCond .ne 12, 3) := by decide +kernel
theorem dX3_odds_10 : decode cX3_odds 10 = .ok (.iload_n 2, 1) := by decide +kernel
theorem dX3_odds_11 : decode cX3_odds 11 = .ok (.iconst 0, 1) := by decide +kernel
theorem dX3_odds_12 : decode cX3_odds 12 = .ok (.iconst 1, 1) := by decide +kernel
theorem dX3_odds_13 : decode cX3_odds 13 = .ok (.invokestatic 40, 3) := by decide +kernel
theorem dX3_odds_16 : decode cX3_odds 16 = .ok (.ifCond .eq 10, 3) := by decide +kernel
theorem dX3_odds_19 : decode cX3_odds 19 = .ok (.aload_n 0, 1) := by decide +kernel
theorem dX3_odds_20 : decode cX3_odds 20 = .ok (.iconst 0, 1) := by decide +kernel
theorem dX3_odds_21 : decode cX3_odds 21 = .ok (.invokevirtual 44, 3) := by decide +kernel
theorem dX3_odds_24 : decode cX3_odds 24 = .ok (.i2l, 1) := by decide +kernel
theorem dX3_odds_25 : decode cX3_odds 25 = .ok (.lreturn, 1) := by decide +kernel
theorem dX3_odds_26 : decode cX3_odds 26 = .ok (.aload_n 0, 1) := by decide +kernel
theorem dX3_odds_27 : decode cX3_odds 27 = .ok (.getfield 10, 3) := by decide +kernel
theorem dX3_odds_30 : decode cX3_odds 30 = .ok (.invokevirtual 155, 3) := by decide +kernel
theorem dX3_odds_33 : decode cX3_odds 33 = .ok (.aload_n 0, 1) := by decide +kernel
theorem dX3_odds_34 : decode cX3_odds 34 = .ok (.getfield 10, 3) := by decide +kernel
theorem dX3_odds_37 : decode cX3_odds 37 = .ok (.invokevirtual 109, 3) := by decide +kernel
theorem dX3_odds_40 : decode cX3_odds 40 = .ok (.iconst (-1), 1) := by decide +kernel
theorem dX3_odds_41 : decode cX3_odds 41 = .ok (.ixor, 1) := by decide +kernel
theorem dX3_odds_42 : decode cX3_odds 42 = .ok (.iand, 1) := by decide +kernel
theorem dX3_odds_43 : decode cX3_odds 43 = .ok (.invokestatic 113, 3) := by decide +kernel
theorem dX3_odds_46 : decode cX3_odds 46 = .ok (.istore_n 3, 1) := by decide +kernel
theorem dX3_odds_47 : decode cX3_odds 47 = .ok (.bipush 8, 2) := by decide +kernel
theorem dX3_odds_49 : decode cX3_odds 49 = .ok (.istore 4, 2) := by decide +kernel
theorem dX3_odds_51 : decode cX3_odds 51 = .ok (.iconst 0, 1) := by decide +kernel
theorem dX3_odds_52 : decode cX3_odds 52 = .ok (.istore 5, 2) := by decide +kernel
theorem dX3_odds_54 : decode cX3_odds 54 = .ok (.iload 5, 2) := by decide +kernel
theorem dX3_odds_56 : decode cX3_odds 56 = .ok (.iconst 3, 1) := by decide +kernel
theorem dX3_odds_57 : decode cX3_odds 57 = .ok (.if_icmp .ge 25, 3) := by decide +kernel
theorem dX3_odds_60 : decode cX3_odds 60 = .ok (.iload_n 3, 1) := by decide +kernel
theorem dX3_odds_61 : decode cX3_odds 61 = .ok (.iconst 2, 1) := by decide +kernel
theorem dX3_odds_62 : decode cX3_odds 62 = .ok (.irem, 1) := by decide +kernel
theorem dX3_odds_63 : decode cX3_odds 63 = .ok (.ifCond .ne 19, 3) := by decide +kernel
theorem dX3_odds_66 : decode cX3_odds 66 = .ok (.iload_n 3, 1) := by decide +kernel
theorem dX3_odds_67 : decode cX3_odds 67 = .ok (.iconst 2, 1) := by decide +kernel
theorem dX3_odds_68 : decode cX3_odds 68 = .ok (.idiv, 1) := by decide +kernel
theorem dX3_odds_69 : decode cX3_odds 69 = .ok (.istore_n 3, 1) := by decide +kernel
theorem dX3_odds_70 : decode cX3_odds 70 = .ok (.iload 4, 2) := by decide +kernel
theorem dX3_odds_72 : decode cX3_odds 72 = .ok (.iconst 2, 1) := by decide +kernel
theorem dX3_odds_73 : decode cX3_odds 73 = .ok (.idiv, 1) := by decide +kernel
theorem dX3_odds_74 : decode cX3_odds 74 = .ok (.istore 4, 2) := by decide +kernel
theorem dX3_odds_76 : decode cX3_odds 76 = .ok (.iinc 5 1, 3) := by decide +kernel
theorem dX3_odds_79 : decode cX3_odds 79 = .ok (.goto (-25), 3) := by decide +kernel
theorem dX3_odds_82 : decode cX3_odds 82 = .ok (.iload_n 2, 1) := by decide +kernel
theorem dX3_odds_83 : decode cX3_odds 83 = .ok (.ifCond .ne 7, 3) := by decide +kernel
theorem dX3_odds_86 : decode cX3_odds 86 = .ok (.iload_n 3, 1) := by decide +kernel
theorem dX3_odds_87 : decode cX3_odds 87 = .ok (.goto 5, 3) := by decide +kernel
theorem dX3_odds_90 : decode cX3_odds 90 = .ok (.iload 4, 2) := by decide +kernel
theorem dX3_odds_92 : decode cX3_odds 92 = .ok (.istore 5, 2) := by decide +kernel
theorem dX3_odds_94 : decode cX3_odds 94 = .ok (.lconst 1, 1) := by decide +kernel
theorem dX3_odds_95 : decode cX3_odds 95 = .ok (.lstore 6, 2) := by decide +kernel
theorem dX3_odds_97 : decode cX3_odds 97 = .ok (.iconst 0, 1) := by decide +kernel
theorem dX3_odds_98 : decode cX3_odds 98 = .ok (.istore 8, 2) := by decide +kernel
theorem dX3_odds_100 : decode cX3_odds 100 = .ok (.iload 8, 2) := by decide +kernel
theorem dX3_odds_102 : decode cX3_odds 102 = .ok (.iload_n 1, 1) := by decide +kernel
theorem dX3_odds_103 : decode cX3_odds 103 = .ok (.if_icmp .ge 17, 3) := by decide +kernel
theorem dX3_odds_106 : decode cX3_odds 106 = .ok (.lload 6, 2) := by decide +kernel
theorem dX3_odds_108 : decode cX3_odds 108 = .ok (.iload 5, 2) := by decide +kernel
theorem dX3_odds_110 : decode cX3_odds 110 = .ok (.i2l, 1) := by decide +kernel
theorem dX3_odds_111 : decode cX3_odds 111 = .ok (.lmul, 1) := by decide +kernel
theorem dX3_odds_112 : decode cX3_odds 112 = .ok (.lstore 6, 2) := by decide +kernel
theorem dX3_odds_114 : decode cX3_odds 114 = .ok (.iinc 8 1, 3) := by decide +kernel
theorem dX3_odds_117 : decode cX3_odds 117 = .ok (.goto (-17), 3) := by decide +kernel
theorem dX3_odds_120 : decode cX3_odds 120 = .ok (.lload 6, 2) := by decide +kernel
theorem dX3_odds_122 : decode cX3_odds 122 = .ok (.lreturn, 1) := by decide +kernel
theorem dX3_seed_0 : decode cX3_seed 0 = .ok (.aload_n 0, 1) := by decide +kernel
theorem dX3_seed_1 : decode cX3_seed 1 = .ok (.getfield 10, 3) := by decide +kernel
theorem dX3_seed_4 : decode cX3_seed 4 = .ok (.getfield 191, 3) := by decide +kernel
theorem dX3_seed_7 : decode cX3_seed 7 = .ok (.istore_n 2, 1) := by decide +kernel
theorem dX3_seed_8 : decode cX3_seed 8 = .ok (.aload_n 0, 1) := by decide +kernel
theorem dX3_seed_9 : decode cX3_seed 9 = .ok (.getfield 10, 3) := by decide +kernel
theorem dX3_seed_12 : decode cX3_seed 12 = .ok (.iload_n 1, 1) := by decide +kernel
theorem dX3_seed_13 : decode cX3_seed 13 = .ok (.putfield 191, 3) := by decide +kernel
theorem dX3_seed_16 : decode cX3_seed 16 = .ok (.iload_n 2, 1) := by decide +kernel
theorem dX3_seed_17 : decode cX3_seed 17 = .ok (.ireturn, 1) := by decide +kernel
theorem dX3_feed_0 : decode cX3_feed 0 = .ok (.iload_n 2, 1) := by decide +kernel
theorem dX3_feed_1 : decode cX3_feed 1 = .ok (.iconst 1, 1) := by decide +kernel
theorem dX3_feed_2 : decode cX3_feed 2 = .ok (.iconst 4, 1) := by decide +kernel
theorem dX3_feed_3 : decode cX3_feed 3 = .ok (.invokestatic 40, 3) := by decide +kernel
theorem dX3_feed_6 : decode cX3_feed 6 = .ok (.ifCond .eq 9, 3) := by decide +kernel
theorem dX3_feed_9 : decode cX3_feed 9 = .ok (.aload_n 0, 1) := by decide +kernel
theorem dX3_feed_10 : decode cX3_feed 10 = .ok (.iconst 0, 1) := by decide +kernel
theorem dX3_feed_11 : decode cX3_feed 11 = .ok (.invokevirtual 44, 3) := by decide +kernel
theorem dX3_feed_14 : decode cX3_feed 14 = .ok (.ireturn, 1) := by decide +kernel
theorem dX3_feed_15 : decode cX3_feed 15 = .ok (.aload_n 0, 1) := by decide +kernel
theorem dX3_feed_16 : decode cX3_feed 16 = .ok (.getfield 25, 3) := by decide +kernel
theorem dX3_feed_19 : decode cX3_feed 19 = .ok (.getfield 194, 3) := by decide +kernel
theorem dX3_feed_22 : decode cX3_feed 22 = .ok (.bipush 120, 2) := by decide +kernel
theorem dX3_feed_24 : decode cX3_feed 24 = .ok (.iload_n 2, 1) := by decide +kernel
theorem dX3_feed_25 : decode cX3_feed 25 = .ok (.isub, 1) := by decide +kernel
theorem dX3_feed_26 : decode cX3_feed 26 = .ok (.if_icmp .le 9, 3) := by decide +kernel
theorem dX3_feed_29 : decode cX3_feed 29 = .ok (.aload_n 0, 1) := by decide +kernel
theorem dX3_feed_30 : decode cX3_feed 30 = .ok (.iconst 1, 1) := by decide +kernel
theorem dX3_feed_31 : decode cX3_feed 31 = .ok (.invokevirtual 44, 3) := by decide +kernel
theorem dX3_feed_34 : decode cX3_feed 34 = .ok (.ireturn, 1) := by decide +kernel
theorem dX3_feed_35 : decode cX3_feed 35 = .ok (.bipush 8, 2) := by decide +kernel
theorem dX3_feed_37 : decode cX3_feed 37 = .ok (.iload_n 2, 1) := by decide +kernel
theorem dX3_feed_38 : decode cX3_feed 38 = .ok (.iconst 1, 1) := by decide +kernel
theorem dX3_feed_39 : decode cX3_feed 39 = .ok (.isub, 1) := by decide +kernel
theorem dX3_feed_40 : decode cX3_feed 40 = .ok (.imul, 1) := by decide +kernel
theorem dX3_feed_41 : decode cX3_feed 41 = .ok (.istore_n 3, 1) := by decide +kernel
theorem dX3_feed_42 : decode cX3_feed 42 = .ok (.iload_n 3, 1) := by decide +kernel
theorem dX3_feed_43 : decode cX3_feed 43 = .ok (.ifCond .lt 23, 3) := by decide +kernel
theorem dX3_feed_46 : decode cX3_feed 46 = .ok (.aload_n 0, 1) := by decide +kernel
theorem dX3_feed_47 : decode cX3_feed 47 = .ok (.getfield 25, 3) := by decide +kernel
theorem dX3_feed_50 : decode cX3_feed 50 = .ok (.iload_n 1, 1) := by decide +kernel
theorem dX3_feed_51 : decode cX3_feed 51 = .ok (.iload_n 3, 1) := by decide +kernel
theorem dX3_feed_52 : decode cX3_feed 52 = .ok (.ishr, 1) := by decide +kernel
theorem dX3_feed_53 : decode cX3_feed 53 = .ok (.sipush 255, 3) := by decide +kernel
theorem dX3_feed_56 : decode cX3_feed 56 = .ok (.iand, 1) := by decide +kernel
theorem dX3_feed_57 : decode cX3_feed 57 = .ok (.invokevirtual 197, 3) := by decide +kernel
theorem dX3_feed_60 : decode cX3_feed 60 = .ok (.iinc 3 (-8), 3) := by decide +kernel
theorem dX3_feed_63 : decode cX3_feed 63 = .ok (.goto (-21), 3) := by decide +kernel
theorem dX3_feed_66 : decode cX3_feed 66 = .ok (.aload_n 0, 1) := by decide +kernel
theorem dX3_feed_67 : decode cX3_feed 67 = .ok (.getfield 25, 3) := by decide +kernel
theorem dX3_feed_70 : decode cX3_feed 70 = .ok (.getfield 194, 3) := by decide +kernel
theorem dX3_feed_73 : decode cX3_feed 73 = .ok (.ireturn, 1) := by decide +kernel
theorem dX3_wipe_0 : decode cX3_wipe 0 = .ok (.aload_n 0, 1) := by decide +kernel
theorem dX3_wipe_1 : decode cX3_wipe 1 = .ok (.getfield 25, 3) := by decide +kernel
theorem dX3_wipe_4 : decode cX3_wipe 4 = .ok (.getfield 194, 3) := by decide +kernel
theorem dX3_wipe_7 : decode cX3_wipe 7 = .ok (.istore_n 1, 1) := by decide +kernel
theorem dX3_wipe_8 : decode cX3_wipe 8 = .ok (.aload_n 0, 1) := by decide +kernel
theorem dX3_wipe_9 : decode cX3_wipe 9 = .ok (.getfield 25, 3) := by decide +kernel
theorem dX3_wipe_12 : decode cX3_wipe 12 = .ok (.iconst 0, 1) := by decide +kernel
theorem dX3_wipe_13 : decode cX3_wipe 13 = .ok (.putfield 194, 3) := by decide +kernel
theorem dX3_wipe_16 : decode cX3_wipe 16 = .ok (.iload_n 1, 1) := by decide +kernel
theorem dX3_wipe_17 : decode cX3_wipe 17 = .ok (.ireturn, 1) := by decide +kernel
theorem dX3_text_0 : decode cX3_text 0 = .ok (.aload_n 0, 1) := by decide +kernel
theorem dX3_text_1 : decode cX3_text 1 = .ok (.getfield 16, 3) := by decide +kernel
theorem dX3_text_4 : decode cX3_text 4 = .ok (.aload_n 0, 1) := by decide +kernel
theorem dX3_text_5 : decode cX3_text 5 = .ok (.getfield 10, 3) := by decide +kernel
theorem dX3_text_8 : decode cX3_text 8 = .ok (.invokevirtual 133, 3) := by decide +kernel
theorem dX3_text_11 : decode cX3_text 11 = .ok (.aload_n 0, 1) := by decide +kernel
theorem dX3_text_12 : decode cX3_text 12 = .ok (.getfield 25, 3) := by decide +kernel
theorem dX3_text_15 : decode cX3_text 15 = .ok (.aload_n 0, 1) := by decide +kernel
theorem dX3_text_16 : decode cX3_text 16 = .ok (.getfield 16, 3) := by decide +kernel
theorem dX3_text_19 : decode cX3_text 19 = .ok (.invokevirtual 200, 3) := by decide +kernel
theorem dX3_text_22 : decode cX3_text 22 = .ok (.istore_n 1, 1) := by decide +kernel
theorem dX3_text_23 : decode cX3_text 23 = .ok (.iload_n 1, 1) := by decide +kernel
theorem dX3_text_24 : decode cX3_text 24 = .ok (.ifCond .lt 14, 3) := by decide +kernel
theorem dX3_text_27 : decode cX3_text 27 = .ok (.aload_n 0, 1) := by decide +kernel
theorem dX3_text_28 : decode cX3_text 28 = .ok (.getfield 10, 3) := by decide +kernel
theorem dX3_text_31 : decode cX3_text 31 = .ok (.aload_n 0, 1) := by decide +kernel
theorem dX3_text_32 : decode cX3_text 32 = .ok (.getfield 16, 3) := by decide +kernel
theorem dX3_text_35 : decode cX3_text 35 = .ok (.invokevirtual 133, 3) := by decide +kernel
theorem dX3_text_38 : decode cX3_text 38 = .ok (.aload_n 0, 1) := by decide +kernel
theorem dX3_text_39 : decode cX3_text 39 = .ok (.getfield 25, 3) := by decide +kernel
theorem dX3_text_42 : decode cX3_text 42 = .ok (.iconst 0, 1) := by decide +kernel
theorem dX3_text_43 : decode cX3_text 43 = .ok (.putfield 194, 3) := by decide +kernel
theorem dX3_text_46 : decode cX3_text 46 = .ok (.iload_n 1, 1) := by decide +kernel
theorem dX3_text_47 : decode cX3_text 47 = .ok (.ireturn, 1) := by decide +kernel
theorem dX3_hold_0 : decode cX3_hold 0 = .ok (.iload_n 1, 1) := by decide +kernel
theorem dX3_hold_1 : decode cX3_hold 1 = .ok (.iconst 0, 1) := by decide +kernel
theorem dX3_hold_2 : decode cX3_hold 2 = .ok (.bipush 9, 2) := by decide +kernel
theorem dX3_hold_4 : decode cX3_hold 4 = .ok (.invokestatic 40, 3) := by decide +kernel
theorem dX3_hold_7 : decode cX3_hold 7 = .ok (.ifCond .ne 19, 3) := by decide +kernel
theorem dX3_hold_10 : decode cX3_hold 10 = .ok (.iload_n 2, 1) := by decide +kernel
theorem dX3_hold_11 : decode cX3_hold 11 = .ok (.iconst (-1), 1) := by decide +kernel
theorem dX3_hold_12 : decode cX3_hold 12 = .ok (.if_icmp .eq 20, 3) := by decide +kernel
theorem dX3_hold_15 : decode cX3_hold 15 = .ok (.aload_n 0, 1) := by decide +kernel
theorem dX3_hold_16 : decode cX3_hold 16 = .ok (.getfield 10, 3) := by decide +kernel
theorem dX3_hold_19 : decode cX3_hold 19 = .ok (.iload_n 2, 1) := by decide +kernel
theorem dX3_hold_20 : decode cX3_hold 20 = .ok (.invokevirtual 64, 3) := by decide +kernel
theorem dX3_hold_23 : decode cX3_hold 23 = .ok (.ifCond .eq 9, 3) := by decide +kernel
theorem dX3_hold_26 : decode cX3_hold 26 = .ok (.aload_n 0, 1) := by decide +kernel
theorem dX3_hold_27 : decode cX3_hold 27 = .ok (.iconst 0, 1) := by decide +kernel
theorem dX3_hold_28 : decode cX3_hold 28 = .ok (.invokevirtual 44, 3) := by decide +kernel
theorem dX3_hold_31 : decode cX3_hold 31 = .ok (.ireturn, 1) := by decide +kernel
theorem dX3_hold_32 : decode cX3_hold 32 = .ok (.aload_n 0, 1) := by decide +kernel
theorem dX3_hold_33 : decode cX3_hold 33 = .ok (.getfield 10, 3) := by decide +kernel
theorem dX3_hold_36 : decode cX3_hold 36 = .ok (.getfield 204, 3) := by decide +kernel
theorem dX3_hold_39 : decode cX3_hold 39 = .ok (.iload_n 1, 1) := by decide +kernel
theorem dX3_hold_40 : decode cX3_hold 40 = .ok (.iload_n 2, 1) := by decide +kernel
theorem dX3_hold_41 : decode cX3_hold 41 = .ok (.iastore, 1) := by decide +kernel
theorem dX3_hold_42 : decode cX3_hold 42 = .ok (.iconst 1, 1) := by decide +kernel
theorem dX3_hold_43 : decode cX3_hold 43 = .ok (.ireturn, 1) := by decide +kernel
theorem dX3_as_0 : decode cX3_as 0 = .ok (.iload_n 1, 1) := by decide +kernel
theorem dX3_as_1 : decode cX3_as 1 = .ok (.iconst 0, 1) := by decide +kernel
theorem dX3_as_2 : decode cX3_as 2 = .ok (.bipush 9, 2) := by decide +kernel
theorem dX3_as_4 : decode cX3_as 4 = .ok (.invokestatic 40, 3) := by decide +kernel
theorem dX3_as_7 : decode cX3_as 7 = .ok (.ifCond .ne 13, 3) := by decide +kernel
theorem dX3_as_10 : decode cX3_as 10 = .ok (.iload_n 2, 1) := by decide +kernel
theorem dX3_as_11 : decode cX3_as 11 = .ok (.iconst 0, 1) := by decide +kernel
theorem dX3_as_12 : decode cX3_as 12 = .ok (.bipush 6, 2) := by decide +kernel
theorem dX3_as_14 : decode cX3_as 14 = .ok (.invokestatic 40, 3) := by decide +kernel
theorem dX3_as_17 : decode cX3_as 17 = .ok (.ifCond .eq 9, 3) := by decide +kernel
theorem dX3_as_20 : decode cX3_as 20 = .ok (.aload_n 0, 1) := by decide +kernel
theorem dX3_as_21 : decode cX3_as 21 = .ok (.iconst 0, 1) := by decide +kernel
theorem dX3_as_22 : decode cX3_as 22 = .ok (.invokevirtual 44, 3) := by decide +kernel
theorem dX3_as_25 : decode cX3_as 25 = .ok (.ireturn, 1) := by decide +kernel
theorem dX3_as_26 : decode cX3_as 26 = .ok (.aload_n 0, 1) := by decide +kernel
theorem dX3_as_27 : decode cX3_as 27 = .ok (.getfield 10, 3) := by decide +kernel
theorem dX3_as_30 : decode cX3_as 30 = .ok (.getfield 204, 3) := by decide +kernel
theorem dX3_as_33 : decode cX3_as 33 = .ok (.iload_n 1, 1) := by decide +kernel
theorem dX3_as_34 : decode cX3_as 34 = .ok (.iaload, 1) := by decide +kernel
theorem dX3_as_35 : decode cX3_as 35 = .ok (.istore_n 3, 1) := by decide +kernel
theorem dX3_as_36 : decode cX3_as 36 = .ok (.aload_n 0, 1) := by decide +kernel
theorem dX3_as_37 : decode cX3_as 37 = .ok (.getfield 10, 3) := by decide +kernel
theorem dX3_as_40 : decode cX3_as 40 = .ok (.iload_n 3, 1) := by decide +kernel
theorem dX3_as_41 : decode cX3_as 41 = .ok (.invokevirtual 64, 3) := by decide +kernel
theorem dX3_as_44 : decode cX3_as 44 = .ok (.ifCond .eq 9, 3) := by decide +kernel
theorem dX3_as_47 : decode cX3_as 47 = .ok (.aload_n 0, 1) := by decide +kernel
theorem dX3_as_48 : decode cX3_as 48 = .ok (.iconst 5, 1) := by decide +kernel
theorem dX3_as_49 : decode cX3_as 49 = .ok (.invokevirtual 44, 3) := by decide +kernel
theorem dX3_as_52 : decode cX3_as 52 = .ok (.ireturn, 1) := by decide +kernel
theorem dX3_as_53 : decode cX3_as 53 = .ok (.aload_n 0, 1) := by decide +kernel
theorem dX3_as_54 : decode cX3_as 54 = .ok (.getfield 10, 3) := by decide +kernel
theorem dX3_as_57 : decode cX3_as 57 = .ok (.iload_n 3, 1) := by decide +kernel
theorem dX3_as_58 : decode cX3_as 58 = .ok (.iconst 0, 1) := by decide +kernel
theorem dX3_as_59 : decode cX3_as 59 = .ok (.invokevirtual 79, 3) := by decide +kernel
theorem dX3_as_62 : decode cX3_as 62 = .ok (.iload_n 2, 1) := by decide +kernel
theorem dX3_as_63 : decode cX3_as 63 = .ok (.invokestatic 207, 3) := by decide +kernel
theorem dX3_as_66 : decode cX3_as 66 = .ok (.ifCond .eq 7, 3) := by decide +kernel
theorem dX3_as_69 : decode cX3_as 69 = .ok (.iload_n 3, 1) := by decide +kernel
theorem dX3_as_70 : decode cX3_as 70 = .ok (.goto 8, 3) := by decide +kernel
theorem dX3_as_73 : decode cX3_as 73 = .ok (.aload_n 0, 1) := by decide +kernel
theorem dX3_as_74 : decode cX3_as 74 = .ok (.iconst 2, 1) := by decide +kernel
theorem dX3_as_75 : decode cX3_as 75 = .ok (.invokevirtual 44, 3) := by decide +kernel
theorem dX3_as_78 : decode cX3_as 78 = .ok (.ireturn, 1) := by decide +kernel
theorem dX3_sheet_0 : decode cX3_sheet 0 = .ok (.iload_n 1, 1) := by decide +kernel
theorem dX3_sheet_1 : decode cX3_sheet 1 = .ok (.invokestatic 210, 3) := by decide +kernel
theorem dX3_sheet_4 : decode cX3_sheet 4 = .ok (.ifCond .ne 25, 3) := by decide +kernel
theorem dX3_sheet_7 : decode cX3_sheet 7 = .ok (.iload_n 2, 1) := by decide +kernel
theorem dX3_sheet_8 : decode cX3_sheet 8 = .ok (.ifCond .eq 27, 3) := by decide +kernel
theorem dX3_sheet_11 : decode cX3_sheet 11 = .ok (.iload_n 2, 1) := by decide +kernel
theorem dX3_sheet_12 : decode cX3_sheet 12 = .ok (.bipush 8, 2) := by decide +kernel
theorem dX3_sheet_14 : decode cX3_sheet 14 = .ok (.if_icmp .eq 21, 3) := by decide +kernel
theorem dX3_sheet_17 : decode cX3_sheet 17 = .ok (.iload_n 2, 1) := by decide +kernel
theorem dX3_sheet_18 : decode cX3_sheet 18 = .ok (.bipush 16, 2) := by decide +kernel
theorem dX3_sheet_20 : decode cX3_sheet 20 = .ok (.if_icmp .eq 15, 3) := by decide +kernel
theorem dX3_sheet_23 : decode cX3_sheet 23 = .ok (.iload_n 2, 1) := by decide +kernel
theorem dX3_sheet_24 : decode cX3_sheet 24 = .ok (.bipush 32, 2) := by decide +kernel
theorem dX3_sheet_26 : decode cX3_sheet 26 = .ok (.if_icmp .eq 9, 3) := by decide +kernel
theorem dX3_sheet_29 : decode cX3_sheet 29 = .ok (.aload_n 0, 1) := by decide +kernel
theorem dX3_sheet_30 : decode cX3_sheet 30 = .ok (.iconst 0, 1) := by decide +kernel
theorem dX3_sheet_31 : decode cX3_sheet 31 = .ok (.invokevirtual 44, 3) := by decide +kernel
theorem dX3_sheet_34 : decode cX3_sheet 34 = .ok (.ireturn, 1) := by decide +kernel
theorem dX3_sheet_35 : decode cX3_sheet 35 = .ok (.iload_n 3, 1) := by decide +kernel
theorem dX3_sheet_36 : decode cX3_sheet 36 = .ok (.ifCond .ge 10, 3) := by decide +kernel
theorem dX3_sheet_39 : decode cX3_sheet 39 = .ok (.aload_n 0, 1) := by decide +kernel
theorem dX3_sheet_40 : decode cX3_sheet 40 = .ok (.bipush 6, 2) := by decide +kernel
theorem dX3_sheet_42 : decode cX3_sheet 42 = .ok (.invokevirtual 44, 3) := by decide +kernel
theorem dX3_sheet_45 : decode cX3_sheet 45 = .ok (.ireturn, 1) := by decide +kernel
theorem dX3_sheet_46 : decode cX3_sheet 46 = .ok (.iload_n 3, 1) := by decide +kernel
theorem dX3_sheet_47 : decode cX3_sheet 47 = .ok (.bipush 40, 2) := by decide +kernel
theorem dX3_sheet_49 : decode cX3_sheet 49 = .ok (.if_icmp .le 9, 3) := by decide +kernel
theorem dX3_sheet_52 : decode cX3_sheet 52 = .ok (.aload_n 0, 1) := by decide +kernel
theorem dX3_sheet_53 : decode cX3_sheet 53 = .ok (.iconst 0, 1) := by decide +kernel
theorem dX3_sheet_54 : decode cX3_sheet 54 = .ok (.invokevirtual 44, 3) := by decide +kernel
theorem dX3_sheet_57 : decode cX3_sheet 57 = .ok (.ireturn, 1) := by decide +kernel
theorem dX3_sheet_58 : decode cX3_sheet 58 = .ok (.aload_n 0, 1) := by decide +kernel
theorem dX3_sheet_59 : decode cX3_sheet 59 = .ok (.getfield 31, 3) := by decide +kernel
theorem dX3_sheet_62 : decode cX3_sheet 62 = .ok (.iload_n 1, 1) := by decide +kernel
theorem dX3_sheet_63 : decode cX3_sheet 63 = .ok (.aaload, 1) := by decide +kernel
theorem dX3_sheet_64 : decode cX3_sheet 64 = .ok (.iload_n 2, 1) := by decide +kernel
theorem dX3_sheet_65 : decode cX3_sheet 65 = .ok (.iload_n 3, 1) := by decide +kernel
theorem dX3_sheet_66 : decode cX3_sheet 66 = .ok (.invokevirtual 213, 3) := by decide +kernel
theorem dX3_sheet_69 : decode cX3_sheet 69 = .ok (.aload_n 0, 1) := by decide +kernel
theorem dX3_sheet_70 : decode cX3_sheet 70 = .ok (.getfield 31, 3) := by decide +kernel
theorem dX3_sheet_73 : decode cX3_sheet 73 = .ok (.iload_n 1, 1) := by decide +kernel
theorem dX3_sheet_74 : decode cX3_sheet 74 = .ok (.aaload, 1) := by decide +kernel
theorem dX3_sheet_75 : decode cX3_sheet 75 = .ok (.getfield 217, 3) := by decide +kernel
theorem dX3_sheet_78 : decode cX3_sheet 78 = .ok (.ireturn, 1) := by decide +kernel
theorem dX3_write_0 : decode cX3_write 0 = .ok (.aload_n 0, 1) := by decide +kernel
theorem dX3_write_1 : decode cX3_write 1 = .ok (.iload_n 1, 1) := by decide +kernel
theorem dX3_write_2 : decode cX3_write 2 = .ok (.invokevirtual 218, 3) := by decide +kernel
theorem dX3_write_5 : decode cX3_write 5 = .ok (.istore 4, 2) := by decide +kernel
theorem dX3_write_7 : decode cX3_write 7 = .ok (.iload 4, 2) := by decide +kernel
theorem dX3_write_9 : decode cX3_write 9 = .ok (.ifCond .lt 10, 3) := by decide +kernel
theorem dX3_write_12 : decode cX3_write 12 = .ok (.aload_n 0, 1) := by decide +kernel
theorem dX3_write_13 : decode cX3_write 13 = .ok (.iload 4, 2) := by decide +kernel
theorem dX3_write_15 : decode cX3_write 15 = .ok (.invokevirtual 44, 3) := by decide +kernel
theorem dX3_write_18 : decode cX3_write 18 = .ok (.ireturn, 1) := by decide +kernel
theorem dX3_write_19 : decode cX3_write 19 = .ok (.iload_n 2, 1) := by decide +kernel
theorem dX3_write_20 : decode cX3_write 20 = .ok (.iconst 0, 1) := by decide +kernel
theorem dX3_write_21 : decode cX3_write 21 = .ok (.aload_n 0, 1) := by decide +kernel
theorem dX3_write_22 : decode cX3_write 22 = .ok (.getfield 31, 3) := by decide +kernel
theorem dX3_write_25 : decode cX3_write 25 = .ok (.iload_n 1, 1) := by decide +kernel
theorem dX3_write_26 : decode cX3_write 26 = .ok (.aaload, 1) := by decide +kernel
theorem dX3_write_27 : decode cX3_write 27 = .ok (.getfield 217, 3) := by decide +kernel
theorem dX3_write_30 : decode cX3_write 30 = .ok (.iconst 1, 1) := by decide +kernel
theorem dX3_write_31 : decode cX3_write 31 = .ok (.isub, 1) := by decide +kernel
theorem dX3_write_32 : decode cX3_write 32 = .ok (.invokestatic 40, 3) := by decide +kernel
theorem dX3_write_35 : decode cX3_write 35 = .ok (.ifCond .eq 9, 3) := by decide +kernel
theorem dX3_write_38 : decode cX3_write 38 = .ok (.aload_n 0, 1) := by decide +kernel
theorem dX3_write_39 : decode cX3_write 39 = .ok (.iconst 0, 1) := by decide +kernel
theorem dX3_write_40 : decode cX3_write 40 = .ok (.invokevirtual 44, 3) := by decide +kernel
theorem dX3_write_43 : decode cX3_write 43 = .ok (.ireturn, 1) := by decide +kernel
theorem dX3_write_44 : decode cX3_write 44 = .ok (.aload_n 0, 1) := by decide +kernel
theorem dX3_write_45 : decode cX3_write 45 = .ok (.getfield 31, 3) := by decide +kernel
theorem dX3_write_48 : decode cX3_write 48 = .ok (.iload_n 1, 1) := by decide +kernel
theorem dX3_write_49 : decode cX3_write 49 = .ok (.aaload, 1) := by decide +kernel
theorem dX3_write_50 : decode cX3_write 50 = .ok (.iload_n 2, 1) := by decide +kernel
theorem dX3_write_51 : decode cX3_write 51 = .ok (.iload_n 3, 1) := by decide +kernel
theorem dX3_write_52 : decode cX3_write 52 = .ok (.invokevirtual 221, 3) := by decide +kernel
theorem dX3_write_55 : decode cX3_write 55 = .ok (.iconst 1, 1) := by decide +kernel
theorem dX3_write_56 : decode cX3_write 56 = .ok (.ireturn, 1) := by decide +kernel
theorem dX3_copy_0 : decode cX3_copy 0 = .ok (.iload_n 1, 1) := by decide +kernel
theorem dX3_copy_1 : decode cX3_copy 1 = .ok (.invokestatic 210, 3) := by decide +kernel
theorem dX3_copy_4 : decode cX3_copy 4 = .ok (.ifCond .ne 10, 3) := by decide +kernel
theorem dX3_copy_7 : decode cX3_copy 7 = .ok (.iload_n 3, 1) := by decide +kernel
theorem dX3_copy_8 : decode cX3_copy 8 = .ok (.invokestatic 210, 3) := by decide +kernel
theorem dX3_copy_11 : decode cX3_copy 11 = .ok (.ifCond .eq 9, 3) := by decide +kernel
theorem dX3_copy_14 : decode cX3_copy 14 = .ok (.aload_n 0, 1) := by decide +kernel
theorem dX3_copy_15 : decode cX3_copy 15 = .ok (.iconst 0, 1) := by decide +kernel
theorem dX3_copy_16 : decode cX3_copy 16 = .ok (.invokevirtual 44, 3) := by decide +kernel
theorem dX3_copy_19 : decode cX3_copy 19 = .ok (.ireturn, 1) := by decide +kernel
theorem dX3_copy_20 : decode cX3_copy 20 = .ok (.aload_n 0, 1) := by decide +kernel
theorem dX3_copy_21 : decode cX3_copy 21 = .ok (.getfield 31, 3) := by decide +kernel
theorem dX3_copy_24 : decode cX3_copy 24 = .ok (.iload_n 1, 1) := by decide +kernel
theorem dX3_copy_25 : decode cX3_copy 25 = .ok (.aaload, 1) := by decide +kernel
theorem dX3_copy_26 : decode cX3_copy 26 = .ok (.astore 6, 2) := by decide +kernel
theorem dX3_copy_28 : decode cX3_copy 28 = .ok (.aload_n 0, 1) := by decide +kernel
theorem dX3_copy_29 : decode cX3_copy 29 = .ok (.getfield 31, 3) := by decide +kernel
theorem dX3_copy_32 : decode cX3_copy 32 = .ok (.iload_n 3, 1) := by decide +kernel
theorem dX3_copy_33 : decode cX3_copy 33 = .ok (.aaload, 1) := by decide +kernel
theorem dX3_copy_34 : decode cX3_copy 34 = .ok (.astore 7, 2) := by decide +kernel
theorem dX3_copy_36 : decode cX3_copy 36 = .ok (.aload 6, 2) := by decide +kernel
theorem dX3_copy_38 : decode cX3_copy 38 = .ok (.invokevirtual 224, 3) := by decide +kernel
theorem dX3_copy_41 : decode cX3_copy 41 = .ok (.ifCond .ne 11, 3) := by decide +kernel
theorem dX3_copy_44 : decode cX3_copy 44 = .ok (.aload 7, 2) := by decide +kernel
theorem dX3_copy_46 : decode cX3_copy 46 = .ok (.invokevirtual 224, 3) := by decide +kernel
theorem dX3_copy_49 : decode cX3_copy 49 = .ok (.ifCond .eq 9, 3) := by decide +kernel
theorem dX3_copy_52 : decode cX3_copy 52 = .ok (.aload_n 0, 1) := by decide +kernel
theorem dX3_copy_53 : decode cX3_copy 53 = .ok (.iconst 5, 1) := by decide +kernel
theorem dX3_copy_54 : decode cX3_copy 54 = .ok (.invokevirtual 44, 3) := by decide +kernel
theorem dX3_copy_57 : decode cX3_copy 57 = .ok (.ireturn, 1) := by decide +kernel
theorem dX3_copy_58 : decode cX3_copy 58 = .ok (.aload 6, 2) := by decide +kernel
theorem dX3_copy_60 : decode cX3_copy 60 = .ok (.getfield 227, 3) := by decide +kernel
theorem dX3_copy_63 : decode cX3_copy 63 = .ok (.aload 7, 2) := by decide +kernel
theorem dX3_copy_65 : decode cX3_copy 65 = .ok (.getfield 227, 3) := by decide +kernel
theorem dX3_copy_68 : decode cX3_copy 68 = .ok (.if_icmp .eq 9, 3) := by decide +kernel
theorem dX3_copy_71 : decode cX3_copy 71 = .ok (.aload_n 0, 1) := by decide +kernel
theorem dX3_copy_72 : decode cX3_copy 72 = .ok (.iconst 2, 1) := by decide +kernel
theorem dX3_copy_73 : decode cX3_copy 73 = .ok (.invokevirtual 44, 3) := by decide +kernel
theorem dX3_copy_76 : decode cX3_copy 76 = .ok (.ireturn, 1) := by decide +kernel
theorem dX3_copy_77 : decode cX3_copy 77 = .ok (.aload 6, 2) := by decide +kernel
theorem dX3_copy_79 : decode cX3_copy 79 = .ok (.iload_n 2, 1) := by decide +kernel
theorem dX3_copy_80 : decode cX3_copy 80 = .ok (.iload 5, 2) := by decide +kernel
theorem dX3_copy_82 : decode cX3_copy 82 = .ok (.invokevirtual 230, 3) := by decide +kernel
theorem dX3_copy_85 : decode cX3_copy 85 = .ok (.ifCond .eq 15, 3) := by decide +kernel
theorem dX3_copy_88 : decode cX3_copy 88 = .ok (.aload 7, 2) := by decide +kernel
theorem dX3_copy_90 : decode cX3_copy 90 = .ok (.iload 4, 2) := by decide +kernel
theorem dX3_copy_92 : decode cX3_copy 92 = .ok (.iload 5, 2) := by decide +kernel
theorem dX3_copy_94 : decode cX3_copy 94 = .ok (.invokevirtual 230, 3) := by decide +kernel
theorem dX3_copy_97 : decode cX3_copy 97 = .ok (.ifCond .ne 9, 3) := by decide +kernel
theorem dX3_copy_100 : decode cX3_copy 100 = .ok (.aload_n 0, 1) := by decide +kernel
theorem dX3_copy_101 : decode cX3_copy 101 = .ok (.iconst 0, 1) := by decide +kernel
theorem dX3_copy_102 : decode cX3_copy 102 = .ok (.invokevirtual 44, 3) := by decide +kernel
theorem dX3_copy_105 : decode cX3_copy 105 = .ok (.ireturn, 1) := by decide +kernel
theorem dX3_copy_106 : decode cX3_copy 106 = .ok (.aload 6, 2) := by decide +kernel
theorem dX3_copy_108 : decode cX3_copy 108 = .ok (.getfield 233, 3) := by decide +kernel
theorem dX3_copy_111 : decode cX3_copy 111 = .ok (.iload_n 2, 1) := by decide +kernel
theorem dX3_copy_112 : decode cX3_copy 112 = .ok (.aload 7, 2) := by decide +kernel
theorem dX3_copy_114 : decode cX3_copy 114 = .ok (.getfield 233, 3) := by decide +kernel
theorem dX3_copy_117 : decode cX3_copy 117 = .ok (.iload 4, 2) := by decide +kernel
theorem dX3_copy_119 : decode cX3_copy 119 = .ok (.iload 5, 2) := by decide +kernel
theorem dX3_copy_121 : decode cX3_copy 121 = .ok (.invokestatic 236, 3) := by decide +kernel
theorem dX3_copy_124 : decode cX3_copy 124 = .ok (.iload 5, 2) := by decide +kernel
theorem dX3_copy_126 : decode cX3_copy 126 = .ok (.ireturn, 1) := by decide +kernel
theorem dX3_load_0 : decode cX3_load 0 = .ok (.aload_n 0, 1) := by decide +kernel
theorem dX3_load_1 : decode cX3_load 1 = .ok (.iload_n 1, 1) := by decide +kernel
theorem dX3_load_2 : decode cX3_load 2 = .ok (.invokevirtual 218, 3) := by decide +kernel
theorem dX3_load_5 : decode cX3_load 5 = .ok (.istore_n 2, 1) := by decide +kernel
theorem dX3_load_6 : decode cX3_load 6 = .ok (.iload_n 2, 1) := by decide +kernel
theorem dX3_load_7 : decode cX3_load 7 = .ok (.ifCond .lt 9, 3) := by decide +kernel
theorem dX3_load_10 : decode cX3_load 10 = .ok (.aload_n 0, 1) := by decide +kernel
theorem dX3_load_11 : decode cX3_load 11 = .ok (.iload_n 2, 1) := by decide +kernel
theorem dX3_load_12 : decode cX3_load 12 = .ok (.invokevirtual 44, 3) := by decide +kernel
theorem dX3_load_15 : decode cX3_load 15 = .ok (.ireturn, 1) := by decide +kernel
