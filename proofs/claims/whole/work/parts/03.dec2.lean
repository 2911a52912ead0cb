theorem dX3_load_16 : decode cX3_load 16 = .ok (.aload_n 0, 1) := by decide +kernel
theorem dX3_load_17 : decode cX3_load 17 = .ok (.getfield 31, 3) := by decide +kernel
theorem dX3_load_20 : decode cX3_load 20 = .ok (.iload_n 1, 1) := by decide +kernel
theorem dX3_load_21 : decode cX3_load 21 = .ok (.aaload, 1) := by decide +kernel
theorem dX3_load_22 : decode cX3_load 22 = .ok (.astore_n 3, 1) := by decide +kernel
theorem dX3_load_23 : decode cX3_load 23 = .ok (.iconst 0, 1) := by decide +kernel
theorem dX3_load_24 : decode cX3_load 24 = .ok (.istore 4, 2) := by decide +kernel
theorem dX3_load_26 : decode cX3_load 26 = .ok (.iload 4, 2) := by decide +kernel
theorem dX3_load_28 : decode cX3_load 28 = .ok (.aload_n 3, 1) := by decide +kernel
theorem dX3_load_29 : decode cX3_load 29 = .ok (.getfield 217, 3) := by decide +kernel
theorem dX3_load_32 : decode cX3_load 32 = .ok (.if_icmp .ge 54, 3) := by decide +kernel
theorem dX3_load_35 : decode cX3_load 35 = .ok (.aload_n 0, 1) := by decide +kernel
theorem dX3_load_36 : decode cX3_load 36 = .ok (.getfield 10, 3) := by decide +kernel
theorem dX3_load_39 : decode cX3_load 39 = .ok (.iload 4, 2) := by decide +kernel
theorem dX3_load_41 : decode cX3_load 41 = .ok (.invokevirtual 64, 3) := by decide +kernel
theorem dX3_load_44 : decode cX3_load 44 = .ok (.ifCond .ne 42, 3) := by decide +kernel
theorem dX3_load_47 : decode cX3_load 47 = .ok (.aload_n 3, 1) := by decide +kernel
theorem dX3_load_48 : decode cX3_load 48 = .ok (.getfield 233, 3) := by decide +kernel
theorem dX3_load_51 : decode cX3_load 51 = .ok (.iload 4, 2) := by decide +kernel
theorem dX3_load_53 : decode cX3_load 53 = .ok (.iaload, 1) := by decide +kernel
theorem dX3_load_54 : decode cX3_load 54 = .ok (.iconst 0, 1) := by decide +kernel
theorem dX3_load_55 : decode cX3_load 55 = .ok (.bipush 99, 2) := by decide +kernel
theorem dX3_load_57 : decode cX3_load 57 = .ok (.invokestatic 40, 3) := by decide +kernel
theorem dX3_load_60 : decode cX3_load 60 = .ok (.ifCond .ne 26, 3) := by decide +kernel
theorem dX3_load_63 : decode cX3_load 63 = .ok (.aload_n 0, 1) := by decide +kernel
theorem dX3_load_64 : decode cX3_load 64 = .ok (.getfield 10, 3) := by decide +kernel
theorem dX3_load_67 : decode cX3_load 67 = .ok (.iload 4, 2) := by decide +kernel
theorem dX3_load_69 : decode cX3_load 69 = .ok (.iconst 4, 1) := by decide +kernel
theorem dX3_load_70 : decode cX3_load 70 = .ok (.aload_n 3, 1) := by decide +kernel
theorem dX3_load_71 : decode cX3_load 71 = .ok (.getfield 233, 3) := by decide +kernel
theorem dX3_load_74 : decode cX3_load 74 = .ok (.iload 4, 2) := by decide +kernel
theorem dX3_load_76 : decode cX3_load 76 = .ok (.iaload, 1) := by decide +kernel
theorem dX3_load_77 : decode cX3_load 77 = .ok (.invokevirtual 88, 3) := by decide +kernel
theorem dX3_load_80 : decode cX3_load 80 = .ok (.iinc 4 1, 3) := by decide +kernel
theorem dX3_load_83 : decode cX3_load 83 = .ok (.goto (-57), 3) := by decide +kernel
theorem dX3_load_86 : decode cX3_load 86 = .ok (.iload 4, 2) := by decide +kernel
theorem dX3_load_88 : decode cX3_load 88 = .ok (.ireturn, 1) := by decide +kernel
theorem dX3_judge_0 : decode cX3_judge 0 = .ok (.aload_n 0, 1) := by decide +kernel
theorem dX3_judge_1 : decode cX3_judge 1 = .ok (.iload_n 1, 1) := by decide +kernel
theorem dX3_judge_2 : decode cX3_judge 2 = .ok (.invokevirtual 218, 3) := by decide +kernel
theorem dX3_judge_5 : decode cX3_judge 5 = .ok (.istore_n 2, 1) := by decide +kernel
theorem dX3_judge_6 : decode cX3_judge 6 = .ok (.iload_n 2, 1) := by decide +kernel
theorem dX3_judge_7 : decode cX3_judge 7 = .ok (.ifCond .lt 9, 3) := by decide +kernel
theorem dX3_judge_10 : decode cX3_judge 10 = .ok (.aload_n 0, 1) := by decide +kernel
theorem dX3_judge_11 : decode cX3_judge 11 = .ok (.iload_n 2, 1) := by decide +kernel
theorem dX3_judge_12 : decode cX3_judge 12 = .ok (.invokevirtual 44, 3) := by decide +kernel
theorem dX3_judge_15 : decode cX3_judge 15 = .ok (.ireturn, 1) := by decide +kernel
theorem dX3_judge_16 : decode cX3_judge 16 = .ok (.aload_n 0, 1) := by decide +kernel
theorem dX3_judge_17 : decode cX3_judge 17 = .ok (.getfield 31, 3) := by decide +kernel
theorem dX3_judge_20 : decode cX3_judge 20 = .ok (.iload_n 1, 1) := by decide +kernel
theorem dX3_judge_21 : decode cX3_judge 21 = .ok (.aaload, 1) := by decide +kernel
theorem dX3_judge_22 : decode cX3_judge 22 = .ok (.astore_n 3, 1) := by decide +kernel
theorem dX3_judge_23 : decode cX3_judge 23 = .ok (.iconst 0, 1) := by decide +kernel
theorem dX3_judge_24 : decode cX3_judge 24 = .ok (.istore 4, 2) := by decide +kernel
theorem dX3_judge_26 : decode cX3_judge 26 = .ok (.iload 4, 2) := by decide +kernel
theorem dX3_judge_28 : decode cX3_judge 28 = .ok (.aload_n 3, 1) := by decide +kernel
theorem dX3_judge_29 : decode cX3_judge 29 = .ok (.getfield 217, 3) := by decide +kernel
theorem dX3_judge_32 : decode cX3_judge 32 = .ok (.if_icmp .ge 45, 3) := by decide +kernel
theorem dX3_judge_35 : decode cX3_judge 35 = .ok (.aload_n 0, 1) := by decide +kernel
theorem dX3_judge_36 : decode cX3_judge 36 = .ok (.getfield 10, 3) := by decide +kernel
theorem dX3_judge_39 : decode cX3_judge 39 = .ok (.iload 4, 2) := by decide +kernel
theorem dX3_judge_41 : decode cX3_judge 41 = .ok (.invokevirtual 64, 3) := by decide +kernel
theorem dX3_judge_44 : decode cX3_judge 44 = .ok (.ifCond .ne 22, 3) := by decide +kernel
theorem dX3_judge_47 : decode cX3_judge 47 = .ok (.aload_n 0, 1) := by decide +kernel
theorem dX3_judge_48 : decode cX3_judge 48 = .ok (.getfield 10, 3) := by decide +kernel
theorem dX3_judge_51 : decode cX3_judge 51 = .ok (.iload 4, 2) := by decide +kernel
theorem dX3_judge_53 : decode cX3_judge 53 = .ok (.invokevirtual 137, 3) := by decide +kernel
theorem dX3_judge_56 : decode cX3_judge 56 = .ok (.aload_n 3, 1) := by decide +kernel
theorem dX3_judge_57 : decode cX3_judge 57 = .ok (.getfield 233, 3) := by decide +kernel
theorem dX3_judge_60 : decode cX3_judge 60 = .ok (.iload 4, 2) := by decide +kernel
theorem dX3_judge_62 : decode cX3_judge 62 = .ok (.iaload, 1) := by decide +kernel
theorem dX3_judge_63 : decode cX3_judge 63 = .ok (.if_icmp .eq 8, 3) := by decide +kernel
theorem dX3_judge_66 : decode cX3_judge 66 = .ok (.iconst 1, 1) := by decide +kernel
theorem dX3_judge_67 : decode cX3_judge 67 = .ok (.iload 4, 2) := by decide +kernel
theorem dX3_judge_69 : decode cX3_judge 69 = .ok (.iadd, 1) := by decide +kernel
theorem dX3_judge_70 : decode cX3_judge 70 = .ok (.ireturn, 1) := by decide +kernel
theorem dX3_judge_71 : decode cX3_judge 71 = .ok (.iinc 4 1, 3) := by decide +kernel
theorem dX3_judge_74 : decode cX3_judge 74 = .ok (.goto (-48), 3) := by decide +kernel
theorem dX3_judge_77 : decode cX3_judge 77 = .ok (.iconst 0, 1) := by decide +kernel
theorem dX3_judge_78 : decode cX3_judge 78 = .ok (.ireturn, 1) := by decide +kernel
theorem dX3_image_0 : decode cX3_image 0 = .ok (.aload_n 0, 1) := by decide +kernel
theorem dX3_image_1 : decode cX3_image 1 = .ok (.getfield 19, 3) := by decide +kernel
theorem dX3_image_4 : decode cX3_image 4 = .ok (.aload_n 0, 1) := by decide +kernel
theorem dX3_image_5 : decode cX3_image 5 = .ok (.getfield 10, 3) := by decide +kernel
theorem dX3_image_8 : decode cX3_image 8 = .ok (.invokevirtual 133, 3) := by decide +kernel
theorem dX3_image_11 : decode cX3_image 11 = .ok (.aload_n 0, 1) := by decide +kernel
theorem dX3_image_12 : decode cX3_image 12 = .ok (.iconst 1, 1) := by decide +kernel
theorem dX3_image_13 : decode cX3_image 13 = .ok (.putfield 242, 3) := by decide +kernel
theorem dX3_image_16 : decode cX3_image 16 = .ok (.iconst 1, 1) := by decide +kernel
theorem dX3_image_17 : decode cX3_image 17 = .ok (.ireturn, 1) := by decide +kernel
theorem dX3_undo_0 : decode cX3_undo 0 = .ok (.aload_n 0, 1) := by decide +kernel
theorem dX3_undo_1 : decode cX3_undo 1 = .ok (.getfield 242, 3) := by decide +kernel
theorem dX3_undo_4 : decode cX3_undo 4 = .ok (.ifCond .ne 9, 3) := by decide +kernel
theorem dX3_undo_7 : decode cX3_undo 7 = .ok (.aload_n 0, 1) := by decide +kernel
theorem dX3_undo_8 : decode cX3_undo 8 = .ok (.iconst 3, 1) := by decide +kernel
theorem dX3_undo_9 : decode cX3_undo 9 = .ok (.invokevirtual 44, 3) := by decide +kernel
theorem dX3_undo_12 : decode cX3_undo 12 = .ok (.ireturn, 1) := by decide +kernel
theorem dX3_undo_13 : decode cX3_undo 13 = .ok (.aload_n 0, 1) := by decide +kernel
theorem dX3_undo_14 : decode cX3_undo 14 = .ok (.getfield 10, 3) := by decide +kernel
theorem dX3_undo_17 : decode cX3_undo 17 = .ok (.aload_n 0, 1) := by decide +kernel
theorem dX3_undo_18 : decode cX3_undo 18 = .ok (.getfield 19, 3) := by decide +kernel
theorem dX3_undo_21 : decode cX3_undo 21 = .ok (.invokevirtual 133, 3) := by decide +kernel
theorem dX3_undo_24 : decode cX3_undo 24 = .ok (.aload_n 0, 1) := by decide +kernel
theorem dX3_undo_25 : decode cX3_undo 25 = .ok (.getfield 10, 3) := by decide +kernel
theorem dX3_undo_28 : decode cX3_undo 28 = .ok (.getfield 101, 3) := by decide +kernel
theorem dX3_undo_31 : decode cX3_undo 31 = .ok (.ireturn, 1) := by decide +kernel
theorem dX3_tear_0 : decode cX3_tear 0 = .ok (.aload_n 0, 1) := by decide +kernel
theorem dX3_tear_1 : decode cX3_tear 1 = .ok (.getfield 242, 3) := by decide +kernel
theorem dX3_tear_4 : decode cX3_tear 4 = .ok (.ifCond .eq 7, 3) := by decide +kernel
theorem dX3_tear_7 : decode cX3_tear 7 = .ok (.iconst 1, 1) := by decide +kernel
theorem dX3_tear_8 : decode cX3_tear 8 = .ok (.goto 4, 3) := by decide +kernel
theorem dX3_tear_11 : decode cX3_tear 11 = .ok (.iconst 0, 1) := by decide +kernel
theorem dX3_tear_12 : decode cX3_tear 12 = .ok (.istore_n 1, 1) := by decide +kernel
theorem dX3_tear_13 : decode cX3_tear 13 = .ok (.aload_n 0, 1) := by decide +kernel
theorem dX3_tear_14 : decode cX3_tear 14 = .ok (.iconst 0, 1) := by decide +kernel
theorem dX3_tear_15 : decode cX3_tear 15 = .ok (.putfield 242, 3) := by decide +kernel
theorem dX3_tear_18 : decode cX3_tear 18 = .ok (.iload_n 1, 1) := by decide +kernel
theorem dX3_tear_19 : decode cX3_tear 19 = .ok (.ireturn, 1) := by decide +kernel
theorem dX3_count_0 : decode cX3_count 0 = .ok (.iload_n 1, 1) := by decide +kernel
theorem dX3_count_1 : decode cX3_count 1 = .ok (.tableswitch 114 0 7 #[47, 55, 63, 74, 82, 90, 98, 106], 47) := by decide +kernel
theorem dX3_count_48 : decode cX3_count 48 = .ok (.aload_n 0, 1) := by decide +kernel
theorem dX3_count_49 : decode cX3_count 49 = .ok (.getfield 10, 3) := by decide +kernel
theorem dX3_count_52 : decode cX3_count 52 = .ok (.getfield 101, 3) := by decide +kernel
theorem dX3_count_55 : decode cX3_count 55 = .ok (.ireturn, 1) := by decide +kernel
theorem dX3_count_56 : decode cX3_count 56 = .ok (.aload_n 0, 1) := by decide +kernel
theorem dX3_count_57 : decode cX3_count 57 = .ok (.getfield 10, 3) := by decide +kernel
theorem dX3_count_60 : decode cX3_count 60 = .ok (.getfield 246, 3) := by decide +kernel
theorem dX3_count_63 : decode cX3_count 63 = .ok (.ireturn, 1) := by decide +kernel
theorem dX3_count_64 : decode cX3_count 64 = .ok (.aload_n 0, 1) := by decide +kernel
theorem dX3_count_65 : decode cX3_count 65 = .ok (.getfield 10, 3) := by decide +kernel
theorem dX3_count_68 : decode cX3_count 68 = .ok (.invokevirtual 109, 3) := by decide +kernel
theorem dX3_count_71 : decode cX3_count 71 = .ok (.invokestatic 113, 3) := by decide +kernel
theorem dX3_count_74 : decode cX3_count 74 = .ok (.ireturn, 1) := by decide +kernel
theorem dX3_count_75 : decode cX3_count 75 = .ok (.aload_n 0, 1) := by decide +kernel
theorem dX3_count_76 : decode cX3_count 76 = .ok (.getfield 10, 3) := by decide +kernel
theorem dX3_count_79 : decode cX3_count 79 = .ok (.invokevirtual 118, 3) := by decide +kernel
theorem dX3_count_82 : decode cX3_count 82 = .ok (.ireturn, 1) := by decide +kernel
theorem dX3_count_83 : decode cX3_count 83 = .ok (.aload_n 0, 1) := by decide +kernel
theorem dX3_count_84 : decode cX3_count 84 = .ok (.getfield 10, 3) := by decide +kernel
theorem dX3_count_87 : decode cX3_count 87 = .ok (.invokevirtual 127, 3) := by decide +kernel
theorem dX3_count_90 : decode cX3_count 90 = .ok (.ireturn, 1) := by decide +kernel
theorem dX3_count_91 : decode cX3_count 91 = .ok (.aload_n 0, 1) := by decide +kernel
theorem dX3_count_92 : decode cX3_count 92 = .ok (.getfield 25, 3) := by decide +kernel
theorem dX3_count_95 : decode cX3_count 95 = .ok (.getfield 194, 3) := by decide +kernel
theorem dX3_count_98 : decode cX3_count 98 = .ok (.ireturn, 1) := by decide +kernel
theorem dX3_count_99 : decode cX3_count 99 = .ok (.aload_n 0, 1) := by decide +kernel
theorem dX3_count_100 : decode cX3_count 100 = .ok (.getfield 10, 3) := by decide +kernel
theorem dX3_count_103 : decode cX3_count 103 = .ok (.getfield 191, 3) := by decide +kernel
theorem dX3_count_106 : decode cX3_count 106 = .ok (.ireturn, 1) := by decide +kernel
theorem dX3_count_107 : decode cX3_count 107 = .ok (.aload_n 0, 1) := by decide +kernel
theorem dX3_count_108 : decode cX3_count 108 = .ok (.getfield 10, 3) := by decide +kernel
theorem dX3_count_111 : decode cX3_count 111 = .ok (.invokevirtual 249, 3) := by decide +kernel
theorem dX3_count_114 : decode cX3_count 114 = .ok (.ireturn, 1) := by decide +kernel
theorem dX3_count_115 : decode cX3_count 115 = .ok (.aload_n 0, 1) := by decide +kernel
theorem dX3_count_116 : decode cX3_count 116 = .ok (.iconst 0, 1) := by decide +kernel
theorem dX3_count_117 : decode cX3_count 117 = .ok (.invokevirtual 44, 3) := by decide +kernel
theorem dX3_count_120 : decode cX3_count 120 = .ok (.ireturn, 1) := by decide +kernel
theorem dX3_status_0 : decode cX3_status 0 = .ok (.iload_n 1, 1) := by decide +kernel
theorem dX3_status_1 : decode cX3_status 1 = .ok (.iconst (-1), 1) := by decide +kernel
theorem dX3_status_2 : decode cX3_status 2 = .ok (.bipush 6, 2) := by decide +kernel
theorem dX3_status_4 : decode cX3_status 4 = .ok (.invokestatic 40, 3) := by decide +kernel
theorem dX3_status_7 : decode cX3_status 7 = .ok (.ifCond .eq 9, 3) := by decide +kernel
theorem dX3_status_10 : decode cX3_status 10 = .ok (.aload_n 0, 1) := by decide +kernel
theorem dX3_status_11 : decode cX3_status 11 = .ok (.iconst 0, 1) := by decide +kernel
theorem dX3_status_12 : decode cX3_status 12 = .ok (.invokevirtual 44, 3) := by decide +kernel
theorem dX3_status_15 : decode cX3_status 15 = .ok (.ireturn, 1) := by decide +kernel
theorem dX3_status_16 : decode cX3_status 16 = .ok (.iload_n 1, 1) := by decide +kernel
theorem dX3_status_17 : decode cX3_status 17 = .ok (.ifCond .lt 10, 3) := by decide +kernel
theorem dX3_status_20 : decode cX3_status 20 = .ok (.aload_n 0, 1) := by decide +kernel
theorem dX3_status_21 : decode cX3_status 21 = .ok (.getfield 35, 3) := by decide +kernel
theorem dX3_status_24 : decode cX3_status 24 = .ok (.iload_n 1, 1) := by decide +kernel
theorem dX3_status_25 : decode cX3_status 25 = .ok (.iaload, 1) := by decide +kernel
theorem dX3_status_26 : decode cX3_status 26 = .ok (.ireturn, 1) := by decide +kernel
theorem dX3_status_27 : decode cX3_status 27 = .ok (.iconst 0, 1) := by decide +kernel
theorem dX3_status_28 : decode cX3_status 28 = .ok (.istore_n 2, 1) := by decide +kernel
theorem dX3_status_29 : decode cX3_status 29 = .ok (.iconst 0, 1) := by decide +kernel
theorem dX3_status_30 : decode cX3_status 30 = .ok (.istore_n 3, 1) := by decide +kernel
theorem dX3_status_31 : decode cX3_status 31 = .ok (.iload_n 3, 1) := by decide +kernel
theorem dX3_status_32 : decode cX3_status 32 = .ok (.bipush 7, 2) := by decide +kernel
theorem dX3_status_34 : decode cX3_status 34 = .ok (.if_icmp .ge 18, 3) := by decide +kernel
theorem dX3_status_37 : decode cX3_status 37 = .ok (.iload_n 2, 1) := by decide +kernel
theorem dX3_status_38 : decode cX3_status 38 = .ok (.aload_n 0, 1) := by decide +kernel
theorem dX3_status_39 : decode cX3_status 39 = .ok (.getfield 35, 3) := by decide +kernel
theorem dX3_status_42 : decode cX3_status 42 = .ok (.iload_n 3, 1) := by decide +kernel
theorem dX3_status_43 : decode cX3_status 43 = .ok (.iaload, 1) := by decide +kernel
theorem dX3_status_44 : decode cX3_status 44 = .ok (.iadd, 1) := by decide +kernel
theorem dX3_status_45 : decode cX3_status 45 = .ok (.istore_n 2, 1) := by decide +kernel
theorem dX3_status_46 : decode cX3_status 46 = .ok (.iinc 3 1, 3) := by decide +kernel
theorem dX3_status_49 : decode cX3_status 49 = .ok (.goto (-18), 3) := by decide +kernel
theorem dX3_status_52 : decode cX3_status 52 = .ok (.iload_n 2, 1) := by decide +kernel
theorem dX3_status_53 : decode cX3_status 53 = .ok (.ireturn, 1) := by decide +kernel
theorem dX3_finding_0 : decode cX3_finding 0 = .ok (.aload_n 0, 1) := by decide +kernel
theorem dX3_finding_1 : decode cX3_finding 1 = .ok (.getfield 35, 3) := by decide +kernel
theorem dX3_finding_4 : decode cX3_finding 4 = .ok (.iload_n 1, 1) := by decide +kernel
theorem dX3_finding_5 : decode cX3_finding 5 = .ok (.dup2, 1) := by decide +kernel
theorem dX3_finding_6 : decode cX3_finding 6 = .ok (.iaload, 1) := by decide +kernel
theorem dX3_finding_7 : decode cX3_finding 7 = .ok (.iconst 1, 1) := by decide +kernel
theorem dX3_finding_8 : decode cX3_finding 8 = .ok (.iadd, 1) := by decide +kernel
theorem dX3_finding_9 : decode cX3_finding 9 = .ok (.iastore, 1) := by decide +kernel
theorem dX3_finding_10 : decode cX3_finding 10 = .ok (.ldc 252, 2) := by decide +kernel
theorem dX3_finding_12 : decode cX3_finding 12 = .ok (.iload_n 1, 1) := by decide +kernel
theorem dX3_finding_13 : decode cX3_finding 13 = .ok (.isub, 1) := by decide +kernel
theorem dX3_finding_14 : decode cX3_finding 14 = .ok (.ireturn, 1) := by decide +kernel
theorem dX3_isOutside_0 : decode cX3_isOutside 0 = .ok (.iload_n 0, 1) := by decide +kernel
theorem dX3_isOutside_1 : decode cX3_isOutside 1 = .ok (.iload_n 1, 1) := by decide +kernel
theorem dX3_isOutside_2 : decode cX3_isOutside 2 = .ok (.if_icmp .lt 8, 3) := by decide +kernel
theorem dX3_isOutside_5 : decode cX3_isOutside 5 = .ok (.iload_n 0, 1) := by decide +kernel
theorem dX3_isOutside_6 : decode cX3_isOutside 6 = .ok (.iload_n 2, 1) := by decide +kernel
theorem dX3_isOutside_7 : decode cX3_isOutside 7 = .ok (.if_icmp .le 7, 3) := by decide +kernel
theorem dX3_isOutside_10 : decode cX3_isOutside 10 = .ok (.iconst 1, 1) := by decide +kernel
theorem dX3_isOutside_11 : decode cX3_isOutside 11 = .ok (.goto 4, 3) := by decide +kernel
theorem dX3_isOutside_14 : decode cX3_isOutside 14 = .ok (.iconst 0, 1) := by decide +kernel
theorem dX3_isOutside_15 : decode cX3_isOutside 15 = .ok (.ireturn, 1) := by decide +kernel
theorem dX3_isNoValley_0 : decode cX3_isNoValley 0 = .ok (.iload_n 0, 1) := by decide +kernel
theorem dX3_isNoValley_1 : decode cX3_isNoValley 1 = .ok (.iconst 0, 1) := by decide +kernel
theorem dX3_isNoValley_2 : decode cX3_isNoValley 2 = .ok (.bipush 11, 2) := by decide +kernel
theorem dX3_isNoValley_4 : decode cX3_isNoValley 4 = .ok (.invokestatic 40, 3) := by decide +kernel
theorem dX3_isNoValley_7 : decode cX3_isNoValley 7 = .ok (.ireturn, 1) := by decide +kernel
theorem dX3_isNoSheet_0 : decode cX3_isNoSheet 0 = .ok (.iload_n 0, 1) := by decide +kernel
theorem dX3_isNoSheet_1 : decode cX3_isNoSheet 1 = .ok (.iconst 0, 1) := by decide +kernel
theorem dX3_isNoSheet_2 : decode cX3_isNoSheet 2 = .ok (.iconst 3, 1) := by decide +kernel
theorem dX3_isNoSheet_3 : decode cX3_isNoSheet 3 = .ok (.invokestatic 40, 3) := by decide +kernel
theorem dX3_isNoSheet_6 : decode cX3_isNoSheet 6 = .ok (.ireturn, 1) := by decide +kernel
theorem dX3_isNoPair_0 : decode cX3_isNoPair 0 = .ok (.aload_n 0, 1) := by decide +kernel
theorem dX3_isNoPair_1 : decode cX3_isNoPair 1 = .ok (.getfield 10, 3) := by decide +kernel
theorem dX3_isNoPair_4 : decode cX3_isNoPair 4 = .ok (.iload_n 1, 1) := by decide +kernel
theorem dX3_isNoPair_5 : decode cX3_isNoPair 5 = .ok (.invokevirtual 64, 3) := by decide +kernel
theorem dX3_isNoPair_8 : decode cX3_isNoPair 8 = .ok (.ifCond .ne 19, 3) := by decide +kernel
theorem dX3_isNoPair_11 : decode cX3_isNoPair 11 = .ok (.aload_n 0, 1) := by decide +kernel
theorem dX3_isNoPair_12 : decode cX3_isNoPair 12 = .ok (.getfield 10, 3) := by decide +kernel
theorem dX3_isNoPair_15 : decode cX3_isNoPair 15 = .ok (.iload_n 2, 1) := by decide +kernel
theorem dX3_isNoPair_16 : decode cX3_isNoPair 16 = .ok (.invokevirtual 64, 3) := by decide +kernel
theorem dX3_isNoPair_19 : decode cX3_isNoPair 19 = .ok (.ifCond .ne 8, 3) := by decide +kernel
theorem dX3_isNoPair_22 : decode cX3_isNoPair 22 = .ok (.iload_n 1, 1) := by decide +kernel
theorem dX3_isNoPair_23 : decode cX3_isNoPair 23 = .ok (.iload_n 2, 1) := by decide +kernel
theorem dX3_isNoPair_24 : decode cX3_isNoPair 24 = .ok (.if_icmp .ne 7, 3) := by decide +kernel
theorem dX3_isNoPair_27 : decode cX3_isNoPair 27 = .ok (.iconst 1, 1) := by decide +kernel
theorem dX3_isNoPair_28 : decode cX3_isNoPair 28 = .ok (.goto 4, 3) := by decide +kernel
theorem dX3_isNoPair_31 : decode cX3_isNoPair 31 = .ok (.iconst 0, 1) := by decide +kernel
theorem dX3_isNoPair_32 : decode cX3_isNoPair 32 = .ok (.ireturn, 1) := by decide +kernel
theorem dX3_isForetold_0 : decode cX3_isForetold 0 = .ok (.iload_n 0, 1) := by decide +kernel
theorem dX3_isForetold_1 : decode cX3_isForetold 1 = .ok (.iconst 1, 1) := by decide +kernel
theorem dX3_isForetold_2 : decode cX3_isForetold 2 = .ok (.if_icmp .eq 13, 3) := by decide +kernel
theorem dX3_isForetold_5 : decode cX3_isForetold 5 = .ok (.iload_n 0, 1) := by decide +kernel
theorem dX3_isForetold_6 : decode cX3_isForetold 6 = .ok (.iconst 3, 1) := by decide +kernel
theorem dX3_isForetold_7 : decode cX3_isForetold 7 = .ok (.bipush 6, 2) := by decide +kernel
theorem dX3_isForetold_9 : decode cX3_isForetold 9 = .ok (.invokestatic 40, 3) := by decide +kernel
theorem dX3_isForetold_12 : decode cX3_isForetold 12 = .ok (.ifCond .ne 7, 3) := by decide +kernel
theorem dX3_isForetold_15 : decode cX3_isForetold 15 = .ok (.iconst 1, 1) := by decide +kernel
theorem dX3_isForetold_16 : decode cX3_isForetold 16 = .ok (.goto 4, 3) := by decide +kernel
theorem dX3_isForetold_19 : decode cX3_isForetold 19 = .ok (.iconst 0, 1) := by decide +kernel
theorem dX3_isForetold_20 : decode cX3_isForetold 20 = .ok (.ireturn, 1) := by decide +kernel
theorem dX3_leastOf_0 : decode cX3_leastOf 0 = .ok (.iload_n 0, 1) := by decide +kernel
theorem dX3_leastOf_1 : decode cX3_leastOf 1 = .ok (.iconst 2, 1) := by decide +kernel
theorem dX3_leastOf_2 : decode cX3_leastOf 2 = .ok (.if_icmp .ne 8, 3) := by decide +kernel
theorem dX3_leastOf_5 : decode cX3_leastOf 5 = .ok (.bipush (-5), 2) := by decide +kernel
theorem dX3_leastOf_7 : decode cX3_leastOf 7 = .ok (.goto 4, 3) := by decide +kernel
theorem dX3_leastOf_10 : decode cX3_leastOf 10 = .ok (.iconst 0, 1) := by decide +kernel
theorem dX3_leastOf_11 : decode cX3_leastOf 11 = .ok (.ireturn, 1) := by decide +kernel
theorem dX3_mostOf_0 : decode cX3_mostOf 0 = .ok (.iload_n 0, 1) := by decide +kernel
theorem dX3_mostOf_1 : decode cX3_mostOf 1 = .ok (.tableswitch 48 0 4 #[35, 38, 41, 43, 45], 35) := by decide +kernel
theorem dX3_mostOf_36 : decode cX3_mostOf 36 = .ok (.bipush 6, 2) := by decide +kernel
theorem dX3_mostOf_38 : decode cX3_mostOf 38 = .ok (.ireturn, 1) := by decide +kernel
theorem dX3_mostOf_39 : decode cX3_mostOf 39 = .ok (.bipush 11, 2) := by decide +kernel
theorem dX3_mostOf_41 : decode cX3_mostOf 41 = .ok (.ireturn, 1) := by decide +kernel
theorem dX3_mostOf_42 : decode cX3_mostOf 42 = .ok (.iconst 5, 1) := by decide +kernel
theorem dX3_mostOf_43 : decode cX3_mostOf 43 = .ok (.ireturn, 1) := by decide +kernel
theorem dX3_mostOf_44 : decode cX3_mostOf 44 = .ok (.iconst 3, 1) := by decide +kernel
theorem dX3_mostOf_45 : decode cX3_mostOf 45 = .ok (.ireturn, 1) := by decide +kernel
theorem dX3_mostOf_46 : decode cX3_mostOf 46 = .ok (.bipush 99, 2) := by decide +kernel
theorem dX3_mostOf_48 : decode cX3_mostOf 48 = .ok (.ireturn, 1) := by decide +kernel
theorem dX3_mostOf_49 : decode cX3_mostOf 49 = .ok (.sipush 9999, 3) := by decide +kernel
theorem dX3_mostOf_52 : decode cX3_mostOf 52 = .ok (.ireturn, 1) := by decide +kernel
theorem dX3_isUnder_0 : decode cX3_isUnder 0 = .ok (.iload_n 0, 1) := by decide +kernel
theorem dX3_isUnder_1 : decode cX3_isUnder 1 = .ok (.istore_n 2, 1) := by decide +kernel
theorem dX3_isUnder_2 : decode cX3_isUnder 2 = .ok (.iconst 0, 1) := by decide +kernel
theorem dX3_isUnder_3 : decode cX3_isUnder 3 = .ok (.istore_n 3, 1) := by decide +kernel
theorem dX3_isUnder_4 : decode cX3_isUnder 4 = .ok (.iload_n 3, 1) := by decide +kernel
theorem dX3_isUnder_5 : decode cX3_isUnder 5 = .ok (.bipush 7, 2) := by decide +kernel
theorem dX3_isUnder_7 : decode cX3_isUnder 7 = .ok (.if_icmp .ge 26, 3) := by decide +kernel
theorem dX3_isUnder_10 : decode cX3_isUnder 10 = .ok (.iload_n 2, 1) := by decide +kernel
theorem dX3_isUnder_11 : decode cX3_isUnder 11 = .ok (.ifCond .lt 22, 3) := by decide +kernel
theorem dX3_isUnder_14 : decode cX3_isUnder 14 = .ok (.iload_n 2, 1) := by decide +kernel
theorem dX3_isUnder_15 : decode cX3_isUnder 15 = .ok (.iload_n 1, 1) := by decide +kernel
theorem dX3_isUnder_16 : decode cX3_isUnder 16 = .ok (.if_icmp .ne 5, 3) := by decide +kernel
theorem dX3_isUnder_19 : decode cX3_isUnder 19 = .ok (.iconst 1, 1) := by decide +kernel
theorem dX3_isUnder_20 : decode cX3_isUnder 20 = .ok (.ireturn, 1) := by decide +kernel
theorem dX3_isUnder_21 : decode cX3_isUnder 21 = .ok (.getstatic 253, 3) := by decide +kernel
theorem dX3_isUnder_24 : decode cX3_isUnder 24 = .ok (.iload_n 2, 1) := by decide +kernel
theorem dX3_isUnder_25 : decode cX3_isUnder 25 = .ok (.iaload, 1) := by decide +kernel
theorem dX3_isUnder_26 : decode cX3_isUnder 26 = .ok (.istore_n 2, 1) := by decide +kernel
theorem dX3_isUnder_27 : decode cX3_isUnder 27 = .ok (.iinc 3 1, 3) := by decide +kernel
theorem dX3_isUnder_30 : decode cX3_isUnder 30 = .ok (.goto (-26), 3) := by decide +kernel
theorem dX3_isUnder_33 : decode cX3_isUnder 33 = .ok (.iconst 0, 1) := by decide +kernel
theorem dX3_isUnder_34 : decode cX3_isUnder 34 = .ok (.ireturn, 1) := by decide +kernel
theorem dX3_wrongWithSheet_0 : decode cX3_wrongWithSheet 0 = .ok (.iload_n 1, 1) := by decide +kernel
theorem dX3_wrongWithSheet_1 : decode cX3_wrongWithSheet 1 = .ok (.invokestatic 210, 3) := by decide +kernel
theorem dX3_wrongWithSheet_4 : decode cX3_wrongWithSheet 4 = .ok (.ifCond .eq 5, 3) := by decide +kernel
theorem dX3_wrongWithSheet_7 : decode cX3_wrongWithSheet 7 = .ok (.iconst 0, 1) := by decide +kernel
theorem dX3_wrongWithSheet_8 : decode cX3_wrongWithSheet 8 = .ok (.ireturn, 1) := by decide +kernel
theorem dX3_wrongWithSheet_9 : decode cX3_wrongWithSheet 9 = .ok (.aload_n 0, 1) := by decide +kernel
theorem dX3_wrongWithSheet_10 : decode cX3_wrongWithSheet 10 = .ok (.getfield 31, 3) := by decide +kernel
theorem dX3_wrongWithSheet_13 : decode cX3_wrongWithSheet 13 = .ok (.iload_n 1, 1) := by decide +kernel
theorem dX3_wrongWithSheet_14 : decode cX3_wrongWithSheet 14 = .ok (.aaload, 1) := by decide +kernel
theorem dX3_wrongWithSheet_15 : decode cX3_wrongWithSheet 15 = .ok (.invokevirtual 224, 3) := by decide +kernel
theorem dX3_wrongWithSheet_18 : decode cX3_wrongWithSheet 18 = .ok (.ifCond .eq 7, 3) := by decide +kernel
theorem dX3_wrongWithSheet_21 : decode cX3_wrongWithSheet 21 = .ok (.iconst 5, 1) := by decide +kernel
theorem dX3_wrongWithSheet_22 : decode cX3_wrongWithSheet 22 = .ok (.goto 4, 3) := by decide +kernel
theorem dX3_wrongWithSheet_25 : decode cX3_wrongWithSheet 25 = .ok (.iconst (-1), 1) := by decide +kernel
theorem dX3_wrongWithSheet_26 : decode cX3_wrongWithSheet 26 = .ok (.ireturn, 1) := by decide +kernel
theorem dX3_wrongWithTold_0 : decode cX3_wrongWithTold 0 = .ok (.aload_n 0, 1) := by decide +kernel
theorem dX3_wrongWithTold_1 : decode cX3_wrongWithTold 1 = .ok (.iload_n 1, 1) := by decide +kernel
theorem dX3_wrongWithTold_2 : decode cX3_wrongWithTold 2 = .ok (.invokevirtual 218, 3) := by decide +kernel
theorem dX3_wrongWithTold_5 : decode cX3_wrongWithTold 5 = .ok (.istore_n 3, 1) := by decide +kernel
theorem dX3_wrongWithTold_6 : decode cX3_wrongWithTold 6 = .ok (.iload_n 3, 1) := by decide +kernel
theorem dX3_wrongWithTold_7 : decode cX3_wrongWithTold 7 = .ok (.ifCond .lt 5, 3) := by decide +kernel
theorem dX3_wrongWithTold_10 : decode cX3_wrongWithTold 10 = .ok (.iload_n 3, 1) := by decide +kernel
theorem dX3_wrongWithTold_11 : decode cX3_wrongWithTold 11 = .ok (.ireturn, 1) := by decide +kernel
theorem dX3_wrongWithTold_12 : decode cX3_wrongWithTold 12 = .ok (.aload_n 0, 1) := by decide +kernel
theorem dX3_wrongWithTold_13 : decode cX3_wrongWithTold 13 = .ok (.getfield 10, 3) := by decide +kernel
theorem dX3_wrongWithTold_16 : decode cX3_wrongWithTold 16 = .ok (.iload_n 2, 1) := by decide +kernel
theorem dX3_wrongWithTold_17 : decode cX3_wrongWithTold 17 = .ok (.invokevirtual 64, 3) := by decide +kernel
theorem dX3_wrongWithTold_20 : decode cX3_wrongWithTold 20 = .ok (.ifCond .eq 7, 3) := by decide +kernel
theorem dX3_wrongWithTold_23 : decode cX3_wrongWithTold 23 = .ok (.iconst 0, 1) := by decide +kernel
theorem dX3_wrongWithTold_24 : decode cX3_wrongWithTold 24 = .ok (.goto 4, 3) := by decide +kernel
theorem dX3_wrongWithTold_27 : decode cX3_wrongWithTold 27 = .ok (.iconst (-1), 1) := by decide +kernel
theorem dX3_wrongWithTold_28 : decode cX3_wrongWithTold 28 = .ok (.ireturn, 1) := by decide +kernel
theorem dX3_tryWith_0 : decode cX3_tryWith 0 = .ok (.aload_n 0, 1) := by decide +kernel
theorem dX3_tryWith_1 : decode cX3_tryWith 1 = .ok (.getfield 16, 3) := by decide +kernel
theorem dX3_tryWith_4 : decode cX3_tryWith 4 = .ok (.aload_n 0, 1) := by decide +kernel
theorem dX3_tryWith_5 : decode cX3_tryWith 5 = .ok (.getfield 10, 3) := by decide +kernel
theorem dX3_tryWith_8 : decode cX3_tryWith 8 = .ok (.invokevirtual 133, 3) := by decide +kernel
theorem dX3_tryWith_11 : decode cX3_tryWith 11 = .ok (.aload_n 0, 1) := by decide +kernel
theorem dX3_tryWith_12 : decode cX3_tryWith 12 = .ok (.getfield 16, 3) := by decide +kernel
theorem dX3_tryWith_15 : decode cX3_tryWith 15 = .ok (.iload_n 1, 1) := by decide +kernel
theorem dX3_tryWith_16 : decode cX3_tryWith 16 = .ok (.iload_n 2, 1) := by decide +kernel
theorem dX3_tryWith_17 : decode cX3_tryWith 17 = .ok (.iload_n 3, 1) := by decide +kernel
theorem dX3_tryWith_18 : decode cX3_tryWith 18 = .ok (.invokevirtual 88, 3) := by decide +kernel
theorem dX3_tryWith_21 : decode cX3_tryWith 21 = .ok (.return_, 1) := by decide +kernel
theorem dX3_agesUntilMeeting_0 : decode cX3_agesUntilMeeting 0 = .ok (.iconst 0, 1) := by decide +kernel
theorem dX3_agesUntilMeeting_1 : decode cX3_agesUntilMeeting 1 = .ok (.istore 4, 2) := by decide +kernel
theorem dX3_agesUntilMeeting_3 : decode cX3_agesUntilMeeting 3 = .ok (.iload 4, 2) := by decide +kernel
theorem dX3_agesUntilMeeting_5 : decode cX3_agesUntilMeeting 5 = .ok (.iload_n 3, 1) := by decide +kernel
theorem dX3_agesUntilMeeting_6 : decode cX3_agesUntilMeeting 6 = .ok (.if_icmp .gt 34, 3) := by decide +kernel
theorem dX3_agesUntilMeeting_9 : decode cX3_agesUntilMeeting 9 = .ok (.aload_n 0, 1) := by decide +kernel
theorem dX3_agesUntilMeeting_10 : decode cX3_agesUntilMeeting 10 = .ok (.getfield 16, 3) := by decide +kernel
theorem dX3_agesUntilMeeting_13 : decode cX3_agesUntilMeeting 13 = .ok (.iload_n 1, 1) := by decide +kernel
theorem dX3_agesUntilMeeting_14 : decode cX3_agesUntilMeeting 14 = .ok (.invokevirtual 76, 3) := by decide +kernel
theorem dX3_agesUntilMeeting_17 : decode cX3_agesUntilMeeting 17 = .ok (.iload_n 2, 1) := by decide +kernel
theorem dX3_agesUntilMeeting_18 : decode cX3_agesUntilMeeting 18 = .ok (.ishr, 1) := by decide +kernel
theorem dX3_agesUntilMeeting_19 : decode cX3_agesUntilMeeting 19 = .ok (.iconst 1, 1) := by decide +kernel
theorem dX3_agesUntilMeeting_20 : decode cX3_agesUntilMeeting 20 = .ok (.iand, 1) := by decide +kernel
theorem dX3_agesUntilMeeting_21 : decode cX3_agesUntilMeeting 21 = .ok (.ifCond .eq 6, 3) := by decide +kernel
theorem dX3_agesUntilMeeting_24 : decode cX3_agesUntilMeeting 24 = .ok (.iload 4, 2) := by decide +kernel
theorem dX3_agesUntilMeeting_26 : decode cX3_agesUntilMeeting 26 = .ok (.ireturn, 1) := by decide +kernel
theorem dX3_agesUntilMeeting_27 : decode cX3_agesUntilMeeting 27 = .ok (.aload_n 0, 1) := by decide +kernel
theorem dX3_agesUntilMeeting_28 : decode cX3_agesUntilMeeting 28 = .ok (.getfield 16, 3) := by decide +kernel
theorem dX3_agesUntilMeeting_31 : decode cX3_agesUntilMeeting 31 = .ok (.invokevirtual 140, 3) := by decide +kernel
theorem dX3_agesUntilMeeting_34 : decode cX3_agesUntilMeeting 34 = .ok (.iinc 4 1, 3) := by decide +kernel
theorem dX3_agesUntilMeeting_37 : decode cX3_agesUntilMeeting 37 = .ok (.goto (-34), 3) := by decide +kernel
theorem dX3_agesUntilMeeting_40 : decode cX3_agesUntilMeeting 40 = .ok (.iconst (-1), 1) := by decide +kernel
theorem dX3_agesUntilMeeting_41 : decode cX3_agesUntilMeeting 41 = .ok (.ireturn, 1) := by decide +kernel
theorem dX3_soonestWith_0 : decode cX3_soonestWith 0 = .ok (.aload_n 0, 1) := by decide +kernel
theorem dX3_soonestWith_1 : decode cX3_soonestWith 1 = .ok (.iload_n 1, 1) := by decide +kernel
theorem dX3_soonestWith_2 : decode cX3_soonestWith 2 = .ok (.iload_n 2, 1) := by decide +kernel
theorem dX3_soonestWith_3 : decode cX3_soonestWith 3 = .ok (.invokevirtual 143, 3) := by decide +kernel
theorem dX3_soonestWith_6 : decode cX3_soonestWith 6 = .ok (.ifCond .eq 9, 3) := by decide +kernel
theorem dX3_soonestWith_9 : decode cX3_soonestWith 9 = .ok (.aload_n 0, 1) := by decide +kernel
theorem dX3_soonestWith_10 : decode cX3_soonestWith 10 = .ok (.iconst 0, 1) := by decide +kernel
theorem dX3_soonestWith_11 : decode cX3_soonestWith 11 = .ok (.invokevirtual 44, 3) := by decide +kernel
theorem dX3_soonestWith_14 : decode cX3_soonestWith 14 = .ok (.ireturn, 1) := by decide +kernel
theorem dX3_soonestWith_15 : decode cX3_soonestWith 15 = .ok (.iconst 0, 1) := by decide +kernel
theorem dX3_soonestWith_16 : decode cX3_soonestWith 16 = .ok (.istore 4, 2) := by decide +kernel
theorem dX3_soonestWith_18 : decode cX3_soonestWith 18 = .ok (.sipush 201, 3) := by decide +kernel
theorem dX3_soonestWith_21 : decode cX3_soonestWith 21 = .ok (.istore 5, 2) := by decide +kernel
theorem dX3_soonestWith_23 : decode cX3_soonestWith 23 = .ok (.iload_n 3, 1) := by decide +kernel
theorem dX3_soonestWith_24 : decode cX3_soonestWith 24 = .ok (.invokestatic 82, 3) := by decide +kernel
theorem dX3_soonestWith_27 : decode cX3_soonestWith 27 = .ok (.istore 6, 2) := by decide +kernel
theorem dX3_soonestWith_29 : decode cX3_soonestWith 29 = .ok (.iload 6, 2) := by decide +kernel
theorem dX3_soonestWith_31 : decode cX3_soonestWith 31 = .ok (.iload_n 3, 1) := by decide +kernel
theorem dX3_soonestWith_32 : decode cX3_soonestWith 32 = .ok (.invokestatic 85, 3) := by decide +kernel
theorem dX3_soonestWith_35 : decode cX3_soonestWith 35 = .ok (.if_icmp .gt 42, 3) := by decide +kernel
theorem dX3_soonestWith_38 : decode cX3_soonestWith 38 = .ok (.aload_n 0, 1) := by decide +kernel
theorem dX3_soonestWith_39 : decode cX3_soonestWith 39 = .ok (.iload_n 1, 1) := by decide +kernel
theorem dX3_soonestWith_40 : decode cX3_soonestWith 40 = .ok (.iload_n 3, 1) := by decide +kernel
theorem dX3_soonestWith_41 : decode cX3_soonestWith 41 = .ok (.iload 6, 2) := by decide +kernel
theorem dX3_soonestWith_43 : decode cX3_soonestWith 43 = .ok (.invokevirtual 161, 3) := by decide +kernel
theorem dX3_soonestWith_46 : decode cX3_soonestWith 46 = .ok (.aload_n 0, 1) := by decide +kernel
theorem dX3_soonestWith_47 : decode cX3_soonestWith 47 = .ok (.iload_n 1, 1) := by decide +kernel
theorem dX3_soonestWith_48 : decode cX3_soonestWith 48 = .ok (.iload_n 2, 1) := by decide +kernel
theorem dX3_soonestWith_49 : decode cX3_soonestWith 49 = .ok (.iload 5, 2) := by decide +kernel
theorem dX3_soonestWith_51 : decode cX3_soonestWith 51 = .ok (.iconst 1, 1) := by decide +kernel
theorem dX3_soonestWith_52 : decode cX3_soonestWith 52 = .ok (.isub, 1) := by decide +kernel
theorem dX3_soonestWith_53 : decode cX3_soonestWith 53 = .ok (.invokevirtual 147, 3) := by decide +kernel
theorem dX3_soonestWith_56 : decode cX3_soonestWith 56 = .ok (.istore 7, 2) := by decide +kernel
theorem dX3_soonestWith_58 : decode cX3_soonestWith 58 = .ok (.iload 7, 2) := by decide +kernel
theorem dX3_soonestWith_60 : decode cX3_soonestWith 60 = .ok (.ifCond .lt 11, 3) := by decide +kernel
theorem dX3_soonestWith_63 : decode cX3_soonestWith 63 = .ok (.iload 7, 2) := by decide +kernel
theorem dX3_soonestWith_65 : decode cX3_soonestWith 65 = .ok (.istore 5, 2) := by decide +kernel
theorem dX3_soonestWith_67 : decode cX3_soonestWith 67 = .ok (.iload 6, 2) := by decide +kernel
theorem dX3_soonestWith_69 : decode cX3_soonestWith 69 = .ok (.istore 4, 2) := by decide +kernel
theorem dX3_soonestWith_71 : decode cX3_soonestWith 71 = .ok (.iinc 6 1, 3) := by decide +kernel
theorem dX3_soonestWith_74 : decode cX3_soonestWith 74 = .ok (.goto (-45), 3) := by decide +kernel
theorem dX3_soonestWith_77 : decode cX3_soonestWith 77 = .ok (.iload 5, 2) := by decide +kernel
theorem dX3_soonestWith_79 : decode cX3_soonestWith 79 = .ok (.sipush 200, 3) := by decide +kernel
theorem dX3_soonestWith_82 : decode cX3_soonestWith 82 = .ok (.if_icmp .le 11, 3) := by decide +kernel
theorem dX3_soonestWith_85 : decode cX3_soonestWith 85 = .ok (.aload_n 0, 1) := by decide +kernel
theorem dX3_soonestWith_86 : decode cX3_soonestWith 86 = .ok (.iconst 3, 1) := by decide +kernel
theorem dX3_soonestWith_87 : decode cX3_soonestWith 87 = .ok (.invokevirtual 44, 3) := by decide +kernel
theorem dX3_soonestWith_90 : decode cX3_soonestWith 90 = .ok (.goto 5, 3) := by decide +kernel
theorem dX3_soonestWith_93 : decode cX3_soonestWith 93 = .ok (.iload 4, 2) := by decide +kernel
theorem dX3_soonestWith_95 : decode cX3_soonestWith 95 = .ok (.ireturn, 1) := by decide +kernel
theorem dX3_waysOn_0 : decode cX3_waysOn 0 = .ok (.iload_n 1, 1) := by decide +kernel
theorem dX3_waysOn_1 : decode cX3_waysOn 1 = .ok (.iload_n 0, 1) := by decide +kernel
theorem dX3_waysOn_2 : decode cX3_waysOn 2 = .ok (.isub, 1) := by decide +kernel
theorem dX3_waysOn_3 : decode cX3_waysOn 3 = .ok (.bipush 12, 2) := by decide +kernel
theorem dX3_waysOn_5 : decode cX3_waysOn 5 = .ok (.invokestatic 256, 3) := by decide +kernel
theorem dX3_waysOn_8 : decode cX3_waysOn 8 = .ok (.ireturn, 1) := by decide +kernel
theorem dX3_agesOpen_0 : decode cX3_agesOpen 0 = .ok (.aload_n 0, 1) := by decide +kernel
theorem dX3_agesOpen_1 : decode cX3_agesOpen 1 = .ok (.getfield 16, 3) := by decide +kernel
theorem dX3_agesOpen_4 : decode cX3_agesOpen 4 = .ok (.aload_n 0, 1) := by decide +kernel
theorem dX3_agesOpen_5 : decode cX3_agesOpen 5 = .ok (.getfield 10, 3) := by decide +kernel
theorem dX3_agesOpen_8 : decode cX3_agesOpen 8 = .ok (.invokevirtual 133, 3) := by decide +kernel
theorem dX3_agesOpen_11 : decode cX3_agesOpen 11 = .ok (.iconst 0, 1) := by decide +kernel
theorem dX3_agesOpen_12 : decode cX3_agesOpen 12 = .ok (.istore 5, 2) := by decide +kernel
theorem dX3_agesOpen_14 : decode cX3_agesOpen 14 = .ok (.iconst 0, 1) := by decide +kernel
theorem dX3_agesOpen_15 : decode cX3_agesOpen 15 = .ok (.istore 6, 2) := by decide +kernel
theorem dX3_agesOpen_17 : decode cX3_agesOpen 17 = .ok (.iload 6, 2) := by decide +kernel
theorem dX3_agesOpen_19 : decode cX3_agesOpen 19 = .ok (.iload 4, 2) := by decide +kernel
theorem dX3_agesOpen_21 : decode cX3_agesOpen 21 = .ok (.if_icmp .ge 32, 3) := by decide +kernel
theorem dX3_agesOpen_24 : decode cX3_agesOpen 24 = .ok (.aload_n 0, 1) := by decide +kernel
theorem dX3_agesOpen_25 : decode cX3_agesOpen 25 = .ok (.getfield 16, 3) := by decide +kernel
theorem dX3_agesOpen_28 : decode cX3_agesOpen 28 = .ok (.iload_n 1, 1) := by decide +kernel
theorem dX3_agesOpen_29 : decode cX3_agesOpen 29 = .ok (.iload_n 2, 1) := by decide +kernel
theorem dX3_agesOpen_30 : decode cX3_agesOpen 30 = .ok (.invokevirtual 175, 3) := by decide +kernel
theorem dX3_agesOpen_33 : decode cX3_agesOpen 33 = .ok (.iload_n 3, 1) := by decide +kernel
theorem dX3_agesOpen_34 : decode cX3_agesOpen 34 = .ok (.if_icmp .gt 6, 3) := by decide +kernel
theorem dX3_agesOpen_37 : decode cX3_agesOpen 37 = .ok (.iinc 5 1, 3) := by decide +kernel
theorem dX3_agesOpen_40 : decode cX3_agesOpen 40 = .ok (.aload_n 0, 1) := by decide +kernel
theorem dX3_agesOpen_41 : decode cX3_agesOpen 41 = .ok (.getfield 16, 3) := by decide +kernel
theorem dX3_agesOpen_44 : decode cX3_agesOpen 44 = .ok (.invokevirtual 140, 3) := by decide +kernel
theorem dX3_agesOpen_47 : decode cX3_agesOpen 47 = .ok (.iinc 6 1, 3) := by decide +kernel
theorem dX3_agesOpen_50 : decode cX3_agesOpen 50 = .ok (.goto (-33), 3) := by decide +kernel
theorem dX3_agesOpen_53 : decode cX3_agesOpen 53 = .ok (.iload 5, 2) := by decide +kernel
theorem dX3_agesOpen_55 : decode cX3_agesOpen 55 = .ok (.ireturn, 1) := by decide +kernel
theorem dX3_fittingSet_0 : decode cX3_fittingSet 0 = .ok (.iload_n 3, 1) := by decide +kernel
theorem dX3_fittingSet_1 : decode cX3_fittingSet 1 = .ok (.invokestatic 82, 3) := by decide +kernel
theorem dX3_fittingSet_4 : decode cX3_fittingSet 4 = .ok (.istore 4, 2) := by decide +kernel
theorem dX3_fittingSet_6 : decode cX3_fittingSet 6 = .ok (.iconst 0, 1) := by decide +kernel
theorem dX3_fittingSet_7 : decode cX3_fittingSet 7 = .ok (.istore 5, 2) := by decide +kernel
theorem dX3_fittingSet_9 : decode cX3_fittingSet 9 = .ok (.iload 4, 2) := by decide +kernel
theorem dX3_fittingSet_11 : decode cX3_fittingSet 11 = .ok (.istore 6, 2) := by decide +kernel
theorem dX3_fittingSet_13 : decode cX3_fittingSet 13 = .ok (.iload 6, 2) := by decide +kernel
theorem dX3_fittingSet_15 : decode cX3_fittingSet 15 = .ok (.iload_n 3, 1) := by decide +kernel
theorem dX3_fittingSet_16 : decode cX3_fittingSet 16 = .ok (.invokestatic 85, 3) := by decide +kernel
theorem dX3_fittingSet_19 : decode cX3_fittingSet 19 = .ok (.if_icmp .gt 43, 3) := by decide +kernel
theorem dX3_fittingSet_22 : decode cX3_fittingSet 22 = .ok (.aload_n 0, 1) := by decide +kernel
theorem dX3_fittingSet_23 : decode cX3_fittingSet 23 = .ok (.iload_n 2, 1) := by decide +kernel
theorem dX3_fittingSet_24 : decode cX3_fittingSet 24 = .ok (.iload_n 3, 1) := by decide +kernel
theorem dX3_fittingSet_25 : decode cX3_fittingSet 25 = .ok (.iload 6, 2) := by decide +kernel
theorem dX3_fittingSet_27 : decode cX3_fittingSet 27 = .ok (.invokevirtual 161, 3) := by decide +kernel
theorem dX3_fittingSet_30 : decode cX3_fittingSet 30 = .ok (.aload_n 0, 1) := by decide +kernel
theorem dX3_fittingSet_31 : decode cX3_fittingSet 31 = .ok (.aload_n 0, 1) := by decide +kernel
theorem dX3_fittingSet_32 : decode cX3_fittingSet 32 = .ok (.getfield 31, 3) := by decide +kernel
theorem dX3_fittingSet_35 : decode cX3_fittingSet 35 = .ok (.iload_n 1, 1) := by decide +kernel
theorem dX3_fittingSet_36 : decode cX3_fittingSet 36 = .ok (.aaload, 1) := by decide +kernel
theorem dX3_fittingSet_37 : decode cX3_fittingSet 37 = .ok (.iload_n 2, 1) := by decide +kernel
theorem dX3_fittingSet_38 : decode cX3_fittingSet 38 = .ok (.invokevirtual 259, 3) := by decide +kernel
theorem dX3_fittingSet_41 : decode cX3_fittingSet 41 = .ok (.ifCond .eq 15, 3) := by decide +kernel
theorem dX3_fittingSet_44 : decode cX3_fittingSet 44 = .ok (.iload 5, 2) := by decide +kernel
theorem dX3_fittingSet_46 : decode cX3_fittingSet 46 = .ok (.iconst 1, 1) := by decide +kernel
theorem dX3_fittingSet_47 : decode cX3_fittingSet 47 = .ok (.iload 6, 2) := by decide +kernel
theorem dX3_fittingSet_49 : decode cX3_fittingSet 49 = .ok (.iload 4, 2) := by decide +kernel
theorem dX3_fittingSet_51 : decode cX3_fittingSet 51 = .ok (.isub, 1) := by decide +kernel
theorem dX3_fittingSet_52 : decode cX3_fittingSet 52 = .ok (.ishl, 1) := by decide +kernel
theorem dX3_fittingSet_53 : decode cX3_fittingSet 53 = .ok (.ior, 1) := by decide +kernel
theorem dX3_fittingSet_54 : decode cX3_fittingSet 54 = .ok (.istore 5, 2) := by decide +kernel
theorem dX3_fittingSet_56 : decode cX3_fittingSet 56 = .ok (.iinc 6 1, 3) := by decide +kernel
theorem dX3_fittingSet_59 : decode cX3_fittingSet 59 = .ok (.goto (-46), 3) := by decide +kernel
theorem dX3_fittingSet_62 : decode cX3_fittingSet 62 = .ok (.iload 5, 2) := by decide +kernel
theorem dX3_fittingSet_64 : decode cX3_fittingSet 64 = .ok (.ireturn, 1) := by decide +kernel
theorem dX3_facesAsTold_0 : decode cX3_facesAsTold 0 = .ok (.iconst 0, 1) := by decide +kernel
theorem dX3_facesAsTold_1 : decode cX3_facesAsTold 1 = .ok (.istore_n 3, 1) := by decide +kernel
theorem dX3_facesAsTold_2 : decode cX3_facesAsTold 2 = .ok (.iload_n 3, 1) := by decide +kernel
theorem dX3_facesAsTold_3 : decode cX3_facesAsTold 3 = .ok (.aload_n 1, 1) := by decide +kernel
theorem dX3_facesAsTold_4 : decode cX3_facesAsTold 4 = .ok (.getfield 217, 3) := by decide +kernel
theorem dX3_facesAsTold_7 : decode cX3_facesAsTold 7 = .ok (.if_icmp .ge 45, 3) := by decide +kernel
theorem dX3_facesAsTold_10 : decode cX3_facesAsTold 10 = .ok (.aload_n 1, 1) := by decide +kernel
theorem dX3_facesAsTold_11 : decode cX3_facesAsTold 11 = .ok (.getfield 233, 3) := by decide +kernel
theorem dX3_facesAsTold_14 : decode cX3_facesAsTold 14 = .ok (.iload_n 3, 1) := by decide +kernel
theorem dX3_facesAsTold_15 : decode cX3_facesAsTold 15 = .ok (.iaload, 1) := by decide +kernel
theorem dX3_facesAsTold_16 : decode cX3_facesAsTold 16 = .ok (.istore 4, 2) := by decide +kernel
theorem dX3_facesAsTold_18 : decode cX3_facesAsTold 18 = .ok (.iload 4, 2) := by decide +kernel
theorem dX3_facesAsTold_20 : decode cX3_facesAsTold 20 = .ok (.iconst (-1), 1) := by decide +kernel
theorem dX3_facesAsTold_21 : decode cX3_facesAsTold 21 = .ok (.if_icmp .eq 18, 3) := by decide +kernel
theorem dX3_facesAsTold_24 : decode cX3_facesAsTold 24 = .ok (.iload 4, 2) := by decide +kernel
theorem dX3_facesAsTold_26 : decode cX3_facesAsTold 26 = .ok (.aload_n 0, 1) := by decide +kernel
theorem dX3_facesAsTold_27 : decode cX3_facesAsTold 27 = .ok (.getfield 16, 3) := by decide +kernel
theorem dX3_facesAsTold_30 : decode cX3_facesAsTold 30 = .ok (.iload_n 2, 1) := by decide +kernel
theorem dX3_facesAsTold_31 : decode cX3_facesAsTold 31 = .ok (.invokevirtual 137, 3) := by decide +kernel
theorem dX3_facesAsTold_34 : decode cX3_facesAsTold 34 = .ok (.if_icmp .eq 5, 3) := by decide +kernel
theorem dX3_facesAsTold_37 : decode cX3_facesAsTold 37 = .ok (.iconst 0, 1) := by decide +kernel
theorem dX3_facesAsTold_38 : decode cX3_facesAsTold 38 = .ok (.ireturn, 1) := by decide +kernel
theorem dX3_facesAsTold_39 : decode cX3_facesAsTold 39 = .ok (.aload_n 0, 1) := by decide +kernel
theorem dX3_facesAsTold_40 : decode cX3_facesAsTold 40 = .ok (.getfield 16, 3) := by decide +kernel
theorem dX3_facesAsTold_43 : decode cX3_facesAsTold 43 = .ok (.invokevirtual 140, 3) := by decide +kernel
theorem dX3_facesAsTold_46 : decode cX3_facesAsTold 46 = .ok (.iinc 3 1, 3) := by decide +kernel
theorem dX3_facesAsTold_49 : decode cX3_facesAsTold 49 = .ok (.goto (-47), 3) := by decide +kernel
theorem dX3_facesAsTold_52 : decode cX3_facesAsTold 52 = .ok (.iconst 1, 1) := by decide +kernel
theorem dX3_facesAsTold_53 : decode cX3_facesAsTold 53 = .ok (.ireturn, 1) := by decide +kernel
theorem dX4_init_0 : decode cX4_init 0 = .ok (.aload_n 0, 1) := by decide +kernel
theorem dX4_init_1 : decode cX4_init 1 = .ok (.invokespecial 1, 3) := by decide +kernel
theorem dX4_init_4 : decode cX4_init 4 = .ok (.aload_n 0, 1) := by decide +kernel
theorem dX4_init_5 : decode cX4_init 5 = .ok (.bipush 62, 2) := by decide +kernel
theorem dX4_init_7 : decode cX4_init 7 = .ok (.newarray .int, 2) := by decide +kernel
theorem dX4_init_9 : decode cX4_init 9 = .ok (.putfield 9, 3) := by decide +kernel
theorem dX4_init_12 : decode cX4_init 12 = .ok (.aload_n 0, 1) := by decide +kernel
theorem dX4_init_13 : decode cX4_init 13 = .ok (.bipush 62, 2) := by decide +kernel
theorem dX4_init_15 : decode cX4_init 15 = .ok (.newarray .int, 2) := by decide +kernel
theorem dX4_init_17 : decode cX4_init 17 = .ok (.putfield 13, 3) := by decide +kernel
theorem dX4_init_20 : decode cX4_init 20 = .ok (.aload_n 0, 1) := by decide +kernel
theorem dX4_init_21 : decode cX4_init 21 = .ok (.bipush 62, 2) := by decide +kernel
theorem dX4_init_23 : decode cX4_init 23 = .ok (.newarray .int, 2) := by decide +kernel
theorem dX4_init_25 : decode cX4_init 25 = .ok (.putfield 16, 3) := by decide +kernel
theorem dX4_init_28 : decode cX4_init 28 = .ok (.aload_n 0, 1) := by decide +kernel
theorem dX4_init_29 : decode cX4_init 29 = .ok (.bipush 8, 2) := by decide +kernel
theorem dX4_init_31 : decode cX4_init 31 = .ok (.newarray .int, 2) := by decide +kernel
theorem dX4_init_33 : decode cX4_init 33 = .ok (.putfield 19, 3) := by decide +kernel
theorem dX4_init_36 : decode cX4_init 36 = .ok (.aload_n 0, 1) := by decide +kernel
theorem dX4_init_37 : decode cX4_init 37 = .ok (.iconst 4, 1) := by decide +kernel
theorem dX4_init_38 : decode cX4_init 38 = .ok (.newarray .int, 2) := by decide +kernel
theorem dX4_init_40 : decode cX4_init 40 = .ok (.dup, 1) := by decide +kernel
theorem dX4_init_41 : decode cX4_init 41 = .ok (.iconst 0, 1) := by decide +kernel
theorem dX4_init_42 : decode cX4_init 42 = .ok (.iconst 0, 1) := by decide +kernel
theorem dX4_init_43 : decode cX4_init 43 = .ok (.iastore, 1) := by decide +kernel
theorem dX4_init_44 : decode cX4_init 44 = .ok (.dup, 1) := by decide +kernel
theorem dX4_init_45 : decode cX4_init 45 = .ok (.iconst 1, 1) := by decide +kernel
theorem dX4_init_46 : decode cX4_init 46 = .ok (.iconst 1, 1) := by decide +kernel
theorem dX4_init_47 : decode cX4_init 47 = .ok (.iastore, 1) := by decide +kernel
theorem dX4_init_48 : decode cX4_init 48 = .ok (.dup, 1) := by decide +kernel
theorem dX4_init_49 : decode cX4_init 49 = .ok (.iconst 2, 1) := by decide +kernel
theorem dX4_init_50 : decode cX4_init 50 = .ok (.bipush 6, 2) := by decide +kernel
theorem dX4_init_52 : decode cX4_init 52 = .ok (.iastore, 1) := by decide +kernel
theorem dX4_init_53 : decode cX4_init 53 = .ok (.dup, 1) := by decide +kernel
theorem dX4_init_54 : decode cX4_init 54 = .ok (.iconst 3, 1) := by decide +kernel
theorem dX4_init_55 : decode cX4_init 55 = .ok (.bipush 11, 2) := by decide +kernel
theorem dX4_init_57 : decode cX4_init 57 = .ok (.iastore, 1) := by decide +kernel
theorem dX4_init_58 : decode cX4_init 58 = .ok (.putfield 22, 3) := by decide +kernel
theorem dX4_init_61 : decode cX4_init 61 = .ok (.aload_n 0, 1) := by decide +kernel
theorem dX4_init_62 : decode cX4_init 62 = .ok (.bipush 8, 2) := by decide +kernel
theorem dX4_init_64 : decode cX4_init 64 = .ok (.newarray .int, 2) := by decide +kernel
theorem dX4_init_66 : decode cX4_init 66 = .ok (.putfield 25, 3) := by decide +kernel
theorem dX4_init_69 : decode cX4_init 69 = .ok (.aload_n 0, 1) := by decide +kernel
theorem dX4_init_70 : decode cX4_init 70 = .ok (.bipush 8, 2) := by decide +kernel
theorem dX4_init_72 : decode cX4_init 72 = .ok (.newarray .int, 2) := by decide +kernel
theorem dX4_init_74 : decode cX4_init 74 = .ok (.putfield 28, 3) := by decide +kernel
theorem dX4_init_77 : decode cX4_init 77 = .ok (.aload_n 0, 1) := by decide +kernel
theorem dX4_init_78 : decode cX4_init 78 = .ok (.bipush 8, 2) := by decide +kernel
theorem dX4_init_80 : decode cX4_init 80 = .ok (.newarray .int, 2) := by decide +kernel
theorem dX4_init_82 : decode cX4_init 82 = .ok (.putfield 31, 3) := by decide +kernel
theorem dX4_init_85 : decode cX4_init 85 = .ok (.aload_n 0, 1) := by decide +kernel
theorem dX4_init_86 : decode cX4_init 86 = .ok (.bipush 8, 2) := by decide +kernel
theorem dX4_init_88 : decode cX4_init 88 = .ok (.newarray .int, 2) := by decide +kernel
theorem dX4_init_90 : decode cX4_init 90 = .ok (.putfield 34, 3) := by decide +kernel
theorem dX4_init_93 : decode cX4_init 93 = .ok (.aload_n 0, 1) := by decide +kernel
theorem dX4_init_94 : decode cX4_init 94 = .ok (.bipush 120, 2) := by decide +kernel
theorem dX4_init_96 : decode cX4_init 96 = .ok (.newarray .int, 2) := by decide +kernel
theorem dX4_init_98 : decode cX4_init 98 = .ok (.putfield 37, 3) := by decide +kernel
theorem dX4_init_101 : decode cX4_init 101 = .ok (.aload_n 0, 1) := by decide +kernel
theorem dX4_init_102 : decode cX4_init 102 = .ok (.bipush 7, 2) := by decide +kernel
theorem dX4_init_104 : decode cX4_init 104 = .ok (.anewarray 40, 3) := by decide +kernel
theorem dX4_init_107 : decode cX4_init 107 = .ok (.dup, 1) := by decide +kernel
theorem dX4_init_108 : decode cX4_init 108 = .ok (.iconst 0, 1) := by decide +kernel
theorem dX4_init_109 : decode cX4_init 109 = .ok (.ldc 42, 2) := by decide +kernel
theorem dX4_init_111 : decode cX4_init 111 = .ok (.aastore, 1) := by decide +kernel
theorem dX4_init_112 : decode cX4_init 112 = .ok (.dup, 1) := by decide +kernel
theorem dX4_init_113 : decode cX4_init 113 = .ok (.iconst 1, 1) := by decide +kernel
theorem dX4_init_114 : decode cX4_init 114 = .ok (.ldc 44, 2) := by decide +kernel
theorem dX4_init_116 : decode cX4_init 116 = .ok (.aastore, 1) := by decide +kernel
theorem dX4_init_117 : decode cX4_init 117 = .ok (.dup, 1) := by decide +kernel
theorem dX4_init_118 : decode cX4_init 118 = .ok (.iconst 2, 1) := by decide +kernel
theorem dX4_init_119 : decode cX4_init 119 = .ok (.ldc 46, 2) := by decide +kernel
theorem dX4_init_121 : decode cX4_init 121 = .ok (.aastore, 1) := by decide +kernel
theorem dX4_init_122 : decode cX4_init 122 = .ok (.dup, 1) := by decide +kernel
theorem dX4_init_123 : decode cX4_init 123 = .ok (.iconst 3, 1) := by decide +kernel
theorem dX4_init_124 : decode cX4_init 124 = .ok (.ldc 48, 2) := by decide +kernel
theorem dX4_init_126 : decode cX4_init 126 = .ok (.aastore, 1) := by decide +kernel
theorem dX4_init_127 : decode cX4_init 127 = .ok (.dup, 1) := by decide +kernel
theorem dX4_init_128 : decode cX4_init 128 = .ok (.iconst 4, 1) := by decide +kernel
theorem dX4_init_129 : decode cX4_init 129 = .ok (.ldc 50, 2) := by decide +kernel
theorem dX4_init_131 : decode cX4_init 131 = .ok (.aastore, 1) := by decide +kernel
theorem dX4_init_132 : decode cX4_init 132 = .ok (.dup, 1) := by decide +kernel
theorem dX4_init_133 : decode cX4_init 133 = .ok (.iconst 5, 1) := by decide +kernel
theorem dX4_init_134 : decode cX4_init 134 = .ok (.ldc 52, 2) := by decide +kernel
theorem dX4_init_136 : decode cX4_init 136 = .ok (.aastore, 1) := by decide +kernel
theorem dX4_init_137 : decode cX4_init 137 = .ok (.dup, 1) := by decide +kernel
theorem dX4_init_138 : decode cX4_init 138 = .ok (.bipush 6, 2) := by decide +kernel
theorem dX4_init_140 : decode cX4_init 140 = .ok (.ldc 54, 2) := by decide +kernel
theorem dX4_init_142 : decode cX4_init 142 = .ok (.aastore, 1) := by decide +kernel
theorem dX4_init_143 : decode cX4_init 143 = .ok (.putfield 56, 3) := by decide +kernel
theorem dX4_init_146 : decode cX4_init 146 = .ok (.aload_n 0, 1) := by decide +kernel
theorem dX4_init_147 : decode cX4_init 147 = .ok (.sipush 600, 3) := by decide +kernel
theorem dX4_init_150 : decode cX4_init 150 = .ok (.newarray .int, 2) := by decide +kernel
theorem dX4_init_152 : decode cX4_init 152 = .ok (.putfield 60, 3) := by decide +kernel
theorem dX4_init_155 : decode cX4_init 155 = .ok (.aload_n 0, 1) := by decide +kernel
theorem dX4_init_156 : decode cX4_init 156 = .ok (.iconst 4, 1) := by decide +kernel
theorem dX4_init_157 : decode cX4_init 157 = .ok (.newarray .int, 2) := by decide +kernel
theorem dX4_init_159 : decode cX4_init 159 = .ok (.putfield 63, 3) := by decide +kernel
theorem dX4_init_162 : decode cX4_init 162 = .ok (.aload_n 0, 1) := by decide +kernel
theorem dX4_init_163 : decode cX4_init 163 = .ok (.iconst 4, 1) := by decide +kernel
theorem dX4_init_164 : decode cX4_init 164 = .ok (.newarray .int, 2) := by decide +kernel
theorem dX4_init_166 : decode cX4_init 166 = .ok (.putfield 66, 3) := by decide +kernel
theorem dX4_init_169 : decode cX4_init 169 = .ok (.aload_n 0, 1) := by decide +kernel
theorem dX4_init_170 : decode cX4_init 170 = .ok (.sipush 160, 3) := by decide +kernel
theorem dX4_init_173 : decode cX4_init 173 = .ok (.newarray .int, 2) := by decide +kernel
theorem dX4_init_175 : decode cX4_init 175 = .ok (.putfield 69, 3) := by decide +kernel
theorem dX4_init_178 : decode cX4_init 178 = .ok (.aload_n 0, 1) := by decide +kernel
theorem dX4_init_179 : decode cX4_init 179 = .ok (.bipush 40, 2) := by decide +kernel
theorem dX4_init_181 : decode cX4_init 181 = .ok (.newarray .int, 2) := by decide +kernel
theorem dX4_init_183 : decode cX4_init 183 = .ok (.putfield 72, 3) := by decide +kernel
theorem dX4_init_186 : decode cX4_init 186 = .ok (.aload_n 0, 1) := by decide +kernel
theorem dX4_init_187 : decode cX4_init 187 = .ok (.getfield 9, 3) := by decide +kernel
theorem dX4_init_190 : decode cX4_init 190 = .ok (.iconst 2, 1) := by decide +kernel
theorem dX4_init_191 : decode cX4_init 191 = .ok (.iconst 1, 1) := by decide +kernel
theorem dX4_init_192 : decode cX4_init 192 = .ok (.iastore, 1) := by decide +kernel
theorem dX4_init_193 : decode cX4_init 193 = .ok (.aload_n 0, 1) := by decide +kernel
theorem dX4_init_194 : decode cX4_init 194 = .ok (.getfield 9, 3) := by decide +kernel
theorem dX4_init_197 : decode cX4_init 197 = .ok (.iconst 3, 1) := by decide +kernel
theorem dX4_init_198 : decode cX4_init 198 = .ok (.iconst 2, 1) := by decide +kernel
theorem dX4_init_199 : decode cX4_init 199 = .ok (.iastore, 1) := by decide +kernel
theorem dX4_init_200 : decode cX4_init 200 = .ok (.iconst 0, 1) := by decide +kernel
theorem dX4_init_201 : decode cX4_init 201 = .ok (.istore_n 1, 1) := by decide +kernel
theorem dX4_init_202 : decode cX4_init 202 = .ok (.iload_n 1, 1) := by decide +kernel
theorem dX4_init_203 : decode cX4_init 203 = .ok (.bipush 10, 2) := by decide +kernel
theorem dX4_init_205 : decode cX4_init 205 = .ok (.if_icmp .ge 18, 3) := by decide +kernel
theorem dX4_init_208 : decode cX4_init 208 = .ok (.aload_n 0, 1) := by decide +kernel
theorem dX4_init_209 : decode cX4_init 209 = .ok (.getfield 9, 3) := by decide +kernel
theorem dX4_init_212 : decode cX4_init 212 = .ok (.iconst 4, 1) := by decide +kernel
theorem dX4_init_213 : decode cX4_init 213 = .ok (.iload_n 1, 1) := by decide +kernel
theorem dX4_init_214 : decode cX4_init 214 = .ok (.iadd, 1) := by decide +kernel
theorem dX4_init_215 : decode cX4_init 215 = .ok (.iconst (-1), 1) := by decide +kernel
theorem dX4_init_216 : decode cX4_init 216 = .ok (.iastore, 1) := by decide +kernel
theorem dX4_init_217 : decode cX4_init 217 = .ok (.iinc 1 1, 3) := by decide +kernel
theorem dX4_init_220 : decode cX4_init 220 = .ok (.goto (-18), 3) := by decide +kernel
theorem dX4_init_223 : decode cX4_init 223 = .ok (.return_, 1) := by decide +kernel
theorem dX4_finding_0 : decode cX4_finding 0 = .ok (.aload_n 0, 1) := by decide +kernel
theorem dX4_finding_1 : decode cX4_finding 1 = .ok (.getfield 19, 3) := by decide +kernel
theorem dX4_finding_4 : decode cX4_finding 4 = .ok (.ldc 75, 2) := by decide +kernel
theorem dX4_finding_6 : decode cX4_finding 6 = .ok (.iload_n 1, 1) := by decide +kernel
theorem dX4_finding_7 : decode cX4_finding 7 = .ok (.isub, 1) := by decide +kernel
theorem dX4_finding_8 : decode cX4_finding 8 = .ok (.iconst 1, 1) := by decide +kernel
theorem dX4_finding_9 : decode cX4_finding 9 = .ok (.iadd, 1) := by decide +kernel
theorem dX4_finding_10 : decode cX4_finding 10 = .ok (.dup2, 1) := by decide +kernel
theorem dX4_finding_11 : decode cX4_finding 11 = .ok (.iaload, 1) := by decide +kernel
theorem dX4_finding_12 : decode cX4_finding 12 = .ok (.iconst 1, 1) := by decide +kernel
theorem dX4_finding_13 : decode cX4_finding 13 = .ok (.iadd, 1) := by decide +kernel
theorem dX4_finding_14 : decode cX4_finding 14 = .ok (.iastore, 1) := by decide +kernel
theorem dX4_finding_15 : decode cX4_finding 15 = .ok (.aload_n 0, 1) := by decide +kernel
theorem dX4_finding_16 : decode cX4_finding 16 = .ok (.getfield 19, 3) := by decide +kernel
theorem dX4_finding_19 : decode cX4_finding 19 = .ok (.iconst 0, 1) := by decide +kernel
theorem dX4_finding_20 : decode cX4_finding 20 = .ok (.dup2, 1) := by decide +kernel
theorem dX4_finding_21 : decode cX4_finding 21 = .ok (.iaload, 1) := by decide +kernel
theorem dX4_finding_22 : decode cX4_finding 22 = .ok (.iconst 1, 1) := by decide +kernel
theorem dX4_finding_23 : decode cX4_finding 23 = .ok (.iadd, 1) := by decide +kernel
theorem dX4_finding_24 : decode cX4_finding 24 = .ok (.iastore, 1) := by decide +kernel
theorem dX4_finding_25 : decode cX4_finding 25 = .ok (.iload_n 1, 1) := by decide +kernel
theorem dX4_finding_26 : decode cX4_finding 26 = .ok (.ireturn, 1) := by decide +kernel
theorem dX4_within_0 : decode cX4_within 0 = .ok (.iload_n 0, 1) := by decide +kernel
theorem dX4_within_1 : decode cX4_within 1 = .ok (.iload_n 1, 1) := by decide +kernel
theorem dX4_within_2 : decode cX4_within 2 = .ok (.if_icmp .lt 12, 3) := by decide +kernel
theorem dX4_within_5 : decode cX4_within 5 = .ok (.iload_n 0, 1) := by decide +kernel
theorem dX4_within_6 : decode cX4_within 6 = .ok (.iload_n 2, 1) := by decide +kernel
theorem dX4_within_7 : decode cX4_within 7 = .ok (.if_icmp .gt 7, 3) := by decide +kernel
theorem dX4_within_10 : decode cX4_within 10 = .ok (.iconst 1, 1) := by decide +kernel
theorem dX4_within_11 : decode cX4_within 11 = .ok (.goto 4, 3) := by decide +kernel
theorem dX4_within_14 : decode cX4_within 14 = .ok (.iconst 0, 1) := by decide +kernel
theorem dX4_within_15 : decode cX4_within 15 = .ok (.ireturn, 1) := by decide +kernel
theorem dX4_become_0 : decode cX4_become 0 = .ok (.aload_n 0, 1) := by decide +kernel
theorem dX4_become_1 : decode cX4_become 1 = .ok (.getfield 9, 3) := by decide +kernel
theorem dX4_become_4 : decode cX4_become 4 = .ok (.iload_n 1, 1) := by decide +kernel
theorem dX4_become_5 : decode cX4_become 5 = .ok (.iaload, 1) := by decide +kernel
theorem dX4_become_6 : decode cX4_become 6 = .ok (.istore_n 3, 1) := by decide +kernel
theorem dX4_become_7 : decode cX4_become 7 = .ok (.aload_n 0, 1) := by decide +kernel
theorem dX4_become_8 : decode cX4_become 8 = .ok (.getfield 9, 3) := by decide +kernel
theorem dX4_become_11 : decode cX4_become 11 = .ok (.iload_n 1, 1) := by decide +kernel
theorem dX4_become_12 : decode cX4_become 12 = .ok (.iload_n 2, 1) := by decide +kernel
theorem dX4_become_13 : decode cX4_become 13 = .ok (.iastore, 1) := by decide +kernel
theorem dX4_become_14 : decode cX4_become 14 = .ok (.iload_n 3, 1) := by decide +kernel
theorem dX4_become_15 : decode cX4_become 15 = .ok (.ireturn, 1) := by decide +kernel
theorem dX4_copyRow_0 : decode cX4_copyRow 0 = .ok (.iconst 0, 1) := by decide +kernel
theorem dX4_copyRow_1 : decode cX4_copyRow 1 = .ok (.istore_n 2, 1) := by decide +kernel
theorem dX4_copyRow_2 : decode cX4_copyRow 2 = .ok (.iload_n 2, 1) := by decide +kernel
theorem dX4_copyRow_3 : decode cX4_copyRow 3 = .ok (.bipush 62, 2) := by decide +kernel
theorem dX4_copyRow_5 : decode cX4_copyRow 5 = .ok (.if_icmp .ge 15, 3) := by decide +kernel
theorem dX4_copyRow_8 : decode cX4_copyRow 8 = .ok (.aload_n 1, 1) := by decide +kernel
theorem dX4_copyRow_9 : decode cX4_copyRow 9 = .ok (.iload_n 2, 1) := by decide +kernel
theorem dX4_copyRow_10 : decode cX4_copyRow 10 = .ok (.aload_n 0, 1) := by decide +kernel
theorem dX4_copyRow_11 : decode cX4_copyRow 11 = .ok (.iload_n 2, 1) := by decide +kernel
theorem dX4_copyRow_12 : decode cX4_copyRow 12 = .ok (.iaload, 1) := by decide +kernel
theorem dX4_copyRow_13 : decode cX4_copyRow 13 = .ok (.iastore, 1) := by decide +kernel
theorem dX4_copyRow_14 : decode cX4_copyRow 14 = .ok (.iinc 2 1, 3) := by decide +kernel
theorem dX4_copyRow_17 : decode cX4_copyRow 17 = .ok (.goto (-15), 3) := by decide +kernel
theorem dX4_copyRow_20 : decode cX4_copyRow 20 = .ok (.return_, 1) := by decide +kernel
theorem dX4_putBack_0 : decode cX4_putBack 0 = .ok (.aload_n 0, 1) := by decide +kernel
theorem dX4_putBack_1 : decode cX4_putBack 1 = .ok (.getfield 16, 3) := by decide +kernel
theorem dX4_putBack_4 : decode cX4_putBack 4 = .ok (.aload_n 0, 1) := by decide +kernel
theorem dX4_putBack_5 : decode cX4_putBack 5 = .ok (.getfield 9, 3) := by decide +kernel
theorem dX4_putBack_8 : decode cX4_putBack 8 = .ok (.invokestatic 76, 3) := by decide +kernel
theorem dX4_putBack_11 : decode cX4_putBack 11 = .ok (.iload_n 1, 1) := by decide +kernel
theorem dX4_putBack_12 : decode cX4_putBack 12 = .ok (.ireturn, 1) := by decide +kernel
theorem dX4_orNone_0 : decode cX4_orNone 0 = .ok (.iload_n 1, 1) := by decide +kernel
theorem dX4_orNone_1 : decode cX4_orNone 1 = .ok (.ifCond .ge 12, 3) := by decide +kernel
theorem dX4_orNone_4 : decode cX4_orNone 4 = .ok (.aload_n 0, 1) := by decide +kernel
theorem dX4_orNone_5 : decode cX4_orNone 5 = .ok (.ldc 80, 2) := by decide +kernel
theorem dX4_orNone_7 : decode cX4_orNone 7 = .ok (.invokevirtual 81, 3) := by decide +kernel
theorem dX4_orNone_10 : decode cX4_orNone 10 = .ok (.goto 4, 3) := by decide +kernel
theorem dX4_orNone_13 : decode cX4_orNone 13 = .ok (.iload_n 1, 1) := by decide +kernel
theorem dX4_orNone_14 : decode cX4_orNone 14 = .ok (.ireturn, 1) := by decide +kernel
theorem dX4_bits_0 : decode cX4_bits 0 = .ok (.iconst 0, 1) := by decide +kernel
theorem dX4_bits_1 : decode cX4_bits 1 = .ok (.istore_n 1, 1) := by decide +kernel
theorem dX4_bits_2 : decode cX4_bits 2 = .ok (.iload_n 0, 1) := by decide +kernel
theorem dX4_bits_3 : decode cX4_bits 3 = .ok (.istore_n 2, 1) := by decide +kernel
theorem dX4_bits_4 : decode cX4_bits 4 = .ok (.iload_n 2, 1) := by decide +kernel
theorem dX4_bits_5 : decode cX4_bits 5 = .ok (.ifCond .eq 15, 3) := by decide +kernel
theorem dX4_bits_8 : decode cX4_bits 8 = .ok (.iinc 1 1, 3) := by decide +kernel
theorem dX4_bits_11 : decode cX4_bits 11 = .ok (.iload_n 2, 1) := by decide +kernel
theorem dX4_bits_12 : decode cX4_bits 12 = .ok (.iload_n 2, 1) := by decide +kernel
theorem dX4_bits_13 : decode cX4_bits 13 = .ok (.iconst 1, 1) := by decide +kernel
theorem dX4_bits_14 : decode cX4_bits 14 = .ok (.isub, 1) := by decide +kernel
theorem dX4_bits_15 : decode cX4_bits 15 = .ok (.iand, 1) := by decide +kernel
theorem dX4_bits_16 : decode cX4_bits 16 = .ok (.istore_n 2, 1) := by decide +kernel
theorem dX4_bits_17 : decode cX4_bits 17 = .ok (.goto (-13), 3) := by decide +kernel
theorem dX4_bits_20 : decode cX4_bits 20 = .ok (.iload_n 1, 1) := by decide +kernel
theorem dX4_bits_21 : decode cX4_bits 21 = .ok (.ireturn, 1) := by decide +kernel
theorem dX4_by12_0 : decode cX4_by12 0 = .ok (.iload_n 0, 1) := by decide +kernel
theorem dX4_by12_1 : decode cX4_by12 1 = .ok (.bipush 12, 2) := by decide +kernel
theorem dX4_by12_3 : decode cX4_by12 3 = .ok (.irem, 1) := by decide +kernel
theorem dX4_by12_4 : decode cX4_by12 4 = .ok (.istore_n 1, 1) := by decide +kernel
theorem dX4_by12_5 : decode cX4_by12 5 = .ok (.iload_n 1, 1) := by decide +kernel
theorem dX4_by12_6 : decode cX4_by12 6 = .ok (.ifCond .ge 10, 3) := by decide +kernel
theorem dX4_by12_9 : decode cX4_by12 9 = .ok (.iload_n 1, 1) := by decide +kernel
theorem dX4_by12_10 : decode cX4_by12 10 = .ok (.bipush 12, 2) := by decide +kernel
theorem dX4_by12_12 : decode cX4_by12 12 = .ok (.iadd, 1) := by decide +kernel
theorem dX4_by12_13 : decode cX4_by12 13 = .ok (.goto 4, 3) := by decide +kernel
theorem dX4_by12_16 : decode cX4_by12 16 = .ok (.iload_n 1, 1) := by decide +kernel
theorem dX4_by12_17 : decode cX4_by12 17 = .ok (.ireturn, 1) := by decide +kernel
theorem dX4_rain_0 : decode cX4_rain 0 = .ok (.iload_n 1, 1) := by decide +kernel
theorem dX4_rain_1 : decode cX4_rain 1 = .ok (.iconst 0, 1) := by decide +kernel
theorem dX4_rain_2 : decode cX4_rain 2 = .ok (.bipush 9, 2) := by decide +kernel
theorem dX4_rain_4 : decode cX4_rain 4 = .ok (.invokestatic 85, 3) := by decide +kernel
theorem dX4_rain_7 : decode cX4_rain 7 = .ok (.ifCond .eq 12, 3) := by decide +kernel
theorem dX4_rain_10 : decode cX4_rain 10 = .ok (.aload_n 0, 1) := by decide +kernel
theorem dX4_rain_11 : decode cX4_rain 11 = .ok (.iconst 3, 1) := by decide +kernel
theorem dX4_rain_12 : decode cX4_rain 12 = .ok (.iload_n 1, 1) := by decide +kernel
theorem dX4_rain_13 : decode cX4_rain 13 = .ok (.invokevirtual 89, 3) := by decide +kernel
theorem dX4_rain_16 : decode cX4_rain 16 = .ok (.goto 9, 3) := by decide +kernel
theorem dX4_rain_19 : decode cX4_rain 19 = .ok (.aload_n 0, 1) := by decide +kernel
theorem dX4_rain_20 : decode cX4_rain 20 = .ok (.ldc 75, 2) := by decide +kernel
theorem dX4_rain_22 : decode cX4_rain 22 = .ok (.invokevirtual 81, 3) := by decide +kernel
theorem dX4_rain_25 : decode cX4_rain 25 = .ok (.ireturn, 1) := by decide +kernel
theorem dX4_isValley_0 : decode cX4_isValley 0 = .ok (.iload_n 0, 1) := by decide +kernel
theorem dX4_isValley_1 : decode cX4_isValley 1 = .ok (.iconst 0, 1) := by decide +kernel
theorem dX4_isValley_2 : decode cX4_isValley 2 = .ok (.bipush 11, 2) := by decide +kernel
theorem dX4_isValley_4 : decode cX4_isValley 4 = .ok (.invokestatic 85, 3) := by decide +kernel
theorem dX4_isValley_7 : decode cX4_isValley 7 = .ok (.ireturn, 1) := by decide +kernel
theorem dX4_isHigh_0 : decode cX4_isHigh 0 = .ok (.iload_n 0, 1) := by decide +kernel
theorem dX4_isHigh_1 : decode cX4_isHigh 1 = .ok (.iconst 0, 1) := by decide +kernel
theorem dX4_isHigh_2 : decode cX4_isHigh 2 = .ok (.bipush 99, 2) := by decide +kernel
theorem dX4_isHigh_4 : decode cX4_isHigh 4 = .ok (.invokestatic 85, 3) := by decide +kernel
theorem dX4_isHigh_7 : decode cX4_isHigh 7 = .ok (.ireturn, 1) := by decide +kernel
theorem dX4_isHill_0 : decode cX4_isHill 0 = .ok (.iload_n 1, 1) := by decide +kernel
theorem dX4_isHill_1 : decode cX4_isHill 1 = .ok (.iconst 0, 1) := by decide +kernel
theorem dX4_isHill_2 : decode cX4_isHill 2 = .ok (.aload_n 0, 1) := by decide +kernel
theorem dX4_isHill_3 : decode cX4_isHill 3 = .ok (.getfield 9, 3) := by decide +kernel
theorem dX4_isHill_6 : decode cX4_isHill 6 = .ok (.iconst 1, 1) := by decide +kernel
theorem dX4_isHill_7 : decode cX4_isHill 7 = .ok (.iaload, 1) := by decide +kernel
theorem dX4_isHill_8 : decode cX4_isHill 8 = .ok (.iconst 1, 1) := by decide +kernel
theorem dX4_isHill_9 : decode cX4_isHill 9 = .ok (.isub, 1) := by decide +kernel
theorem dX4_isHill_10 : decode cX4_isHill 10 = .ok (.invokestatic 85, 3) := by decide +kernel
theorem dX4_isHill_13 : decode cX4_isHill 13 = .ok (.ireturn, 1) := by decide +kernel
theorem dX4_isKind_0 : decode cX4_isKind 0 = .ok (.iload_n 0, 1) := by decide +kernel
theorem dX4_isKind_1 : decode cX4_isKind 1 = .ok (.iconst 0, 1) := by decide +kernel
theorem dX4_isKind_2 : decode cX4_isKind 2 = .ok (.bipush 6, 2) := by decide +kernel
theorem dX4_isKind_4 : decode cX4_isKind 4 = .ok (.invokestatic 85, 3) := by decide +kernel
theorem dX4_isKind_7 : decode cX4_isKind 7 = .ok (.ireturn, 1) := by decide +kernel
theorem dX4_at_0 : decode cX4_at 0 = .ok (.bipush 14, 2) := by decide +kernel
theorem dX4_at_2 : decode cX4_at 2 = .ok (.bipush 6, 2) := by decide +kernel
theorem dX4_at_4 : decode cX4_at 4 = .ok (.iload_n 0, 1) := by decide +kernel
theorem dX4_at_5 : decode cX4_at 5 = .ok (.imul, 1) := by decide +kernel
theorem dX4_at_6 : decode cX4_at 6 = .ok (.iadd, 1) := by decide +kernel
theorem dX4_at_7 : decode cX4_at 7 = .ok (.iload_n 1, 1) := by decide +kernel
theorem dX4_at_8 : decode cX4_at 8 = .ok (.iadd, 1) := by decide +kernel
theorem dX4_at_9 : decode cX4_at 9 = .ok (.ireturn, 1) := by decide +kernel
theorem dX4_hillIs_0 : decode cX4_hillIs 0 = .ok (.aload_n 0, 1) := by decide +kernel
theorem dX4_hillIs_1 : decode cX4_hillIs 1 = .ok (.getfield 9, 3) := by decide +kernel
theorem dX4_hillIs_4 : decode cX4_hillIs 4 = .ok (.iload_n 1, 1) := by decide +kernel
theorem dX4_hillIs_5 : decode cX4_hillIs 5 = .ok (.iload_n 2, 1) := by decide +kernel
theorem dX4_hillIs_6 : decode cX4_hillIs 6 = .ok (.invokestatic 93, 3) := by decide +kernel
theorem dX4_hillIs_9 : decode cX4_hillIs 9 = .ok (.iaload, 1) := by decide +kernel
theorem dX4_hillIs_10 : decode cX4_hillIs 10 = .ok (.ireturn, 1) := by decide +kernel
theorem dX4_comes_0 : decode cX4_comes 0 = .ok (.aload_n 0, 1) := by decide +kernel
theorem dX4_comes_1 : decode cX4_comes 1 = .ok (.getfield 9, 3) := by decide +kernel
theorem dX4_comes_4 : decode cX4_comes 4 = .ok (.iconst 1, 1) := by decide +kernel
theorem dX4_comes_5 : decode cX4_comes 5 = .ok (.iaload, 1) := by decide +kernel
theorem dX4_comes_6 : decode cX4_comes 6 = .ok (.istore 6, 2) := by decide +kernel
theorem dX4_comes_8 : decode cX4_comes 8 = .ok (.aload_n 0, 1) := by decide +kernel
theorem dX4_comes_9 : decode cX4_comes 9 = .ok (.getfield 9, 3) := by decide +kernel
theorem dX4_comes_12 : decode cX4_comes 12 = .ok (.iload 6, 2) := by decide +kernel
theorem dX4_comes_14 : decode cX4_comes 14 = .ok (.iconst 0, 1) := by decide +kernel
theorem dX4_comes_15 : decode cX4_comes 15 = .ok (.invokestatic 93, 3) := by decide +kernel
theorem dX4_comes_18 : decode cX4_comes 18 = .ok (.iload_n 1, 1) := by decide +kernel
theorem dX4_comes_19 : decode cX4_comes 19 = .ok (.iastore, 1) := by decide +kernel
theorem dX4_comes_20 : decode cX4_comes 20 = .ok (.aload_n 0, 1) := by decide +kernel
theorem dX4_comes_21 : decode cX4_comes 21 = .ok (.getfield 9, 3) := by decide +kernel
theorem dX4_comes_24 : decode cX4_comes 24 = .ok (.iload 6, 2) := by decide +kernel
theorem dX4_comes_26 : decode cX4_comes 26 = .ok (.iconst 1, 1) := by decide +kernel
theorem dX4_comes_27 : decode cX4_comes 27 = .ok (.invokestatic 93, 3) := by decide +kernel
theorem dX4_comes_30 : decode cX4_comes 30 = .ok (.iload_n 2, 1) := by decide +kernel
theorem dX4_comes_31 : decode cX4_comes 31 = .ok (.iastore, 1) := by decide +kernel
theorem dX4_comes_32 : decode cX4_comes 32 = .ok (.aload_n 0, 1) := by decide +kernel
theorem dX4_comes_33 : decode cX4_comes 33 = .ok (.getfield 9, 3) := by decide +kernel
theorem dX4_comes_36 : decode cX4_comes 36 = .ok (.iload 6, 2) := by decide +kernel
theorem dX4_comes_38 : decode cX4_comes 38 = .ok (.iconst 2, 1) := by decide +kernel
theorem dX4_comes_39 : decode cX4_comes 39 = .ok (.invokestatic 93, 3) := by decide +kernel
theorem dX4_comes_42 : decode cX4_comes 42 = .ok (.iload_n 3, 1) := by decide +kernel
theorem dX4_comes_43 : decode cX4_comes 43 = .ok (.iastore, 1) := by decide +kernel
theorem dX4_comes_44 : decode cX4_comes 44 = .ok (.aload_n 0, 1) := by decide +kernel
theorem dX4_comes_45 : decode cX4_comes 45 = .ok (.getfield 9, 3) := by decide +kernel
theorem dX4_comes_48 : decode cX4_comes 48 = .ok (.iload 6, 2) := by decide +kernel
theorem dX4_comes_50 : decode cX4_comes 50 = .ok (.iconst 3, 1) := by decide +kernel
theorem dX4_comes_51 : decode cX4_comes 51 = .ok (.invokestatic 93, 3) := by decide +kernel
theorem dX4_comes_54 : decode cX4_comes 54 = .ok (.iload 4, 2) := by decide +kernel
theorem dX4_comes_56 : decode cX4_comes 56 = .ok (.iastore, 1) := by decide +kernel
theorem dX4_comes_57 : decode cX4_comes 57 = .ok (.aload_n 0, 1) := by decide +kernel
theorem dX4_comes_58 : decode cX4_comes 58 = .ok (.getfield 9, 3) := by decide +kernel
theorem dX4_comes_61 : decode cX4_comes 61 = .ok (.iload 6, 2) := by decide +kernel
theorem dX4_comes_63 : decode cX4_comes 63 = .ok (.iconst 4, 1) := by decide +kernel
theorem dX4_comes_64 : decode cX4_comes 64 = .ok (.invokestatic 93, 3) := by decide +kernel
theorem dX4_comes_67 : decode cX4_comes 67 = .ok (.iload 5, 2) := by decide +kernel
theorem dX4_comes_69 : decode cX4_comes 69 = .ok (.iastore, 1) := by decide +kernel
theorem dX4_comes_70 : decode cX4_comes 70 = .ok (.aload_n 0, 1) := by decide +kernel
theorem dX4_comes_71 : decode cX4_comes 71 = .ok (.getfield 9, 3) := by decide +kernel
theorem dX4_comes_74 : decode cX4_comes 74 = .ok (.iload 6, 2) := by decide +kernel
theorem dX4_comes_76 : decode cX4_comes 76 = .ok (.iconst 5, 1) := by decide +kernel
theorem dX4_comes_77 : decode cX4_comes 77 = .ok (.invokestatic 93, 3) := by decide +kernel
theorem dX4_comes_80 : decode cX4_comes 80 = .ok (.iconst 0, 1) := by decide +kernel
theorem dX4_comes_81 : decode cX4_comes 81 = .ok (.iastore, 1) := by decide +kernel
theorem dX4_comes_82 : decode cX4_comes 82 = .ok (.aload_n 0, 1) := by decide +kernel
theorem dX4_comes_83 : decode cX4_comes 83 = .ok (.getfield 9, 3) := by decide +kernel
theorem dX4_comes_86 : decode cX4_comes 86 = .ok (.iconst 1, 1) := by decide +kernel
theorem dX4_comes_87 : decode cX4_comes 87 = .ok (.dup2, 1) := by decide +kernel
theorem dX4_comes_88 : decode cX4_comes 88 = .ok (.iaload, 1) := by decide +kernel
theorem dX4_comes_89 : decode cX4_comes 89 = .ok (.iconst 1, 1) := by decide +kernel
theorem dX4_comes_90 : decode cX4_comes 90 = .ok (.iadd, 1) := by decide +kernel
theorem dX4_comes_91 : decode cX4_comes 91 = .ok (.iastore, 1) := by decide +kernel
theorem dX4_comes_92 : decode cX4_comes 92 = .ok (.iload 6, 2) := by decide +kernel
theorem dX4_comes_94 : decode cX4_comes 94 = .ok (.ireturn, 1) := by decide +kernel
theorem dX4_hill_0 : decode cX4_hill 0 = .ok (.iload_n 1, 1) := by decide +kernel
theorem dX4_hill_1 : decode cX4_hill 1 = .ok (.invokestatic 96, 3) := by decide +kernel
theorem dX4_hill_4 : decode cX4_hill 4 = .ok (.ifCond .eq 10, 3) := by decide +kernel
theorem dX4_hill_7 : decode cX4_hill 7 = .ok (.iload_n 2, 1) := by decide +kernel
theorem dX4_hill_8 : decode cX4_hill 8 = .ok (.invokestatic 100, 3) := by decide +kernel
theorem dX4_hill_11 : decode cX4_hill 11 = .ok (.ifCond .ne 10, 3) := by decide +kernel
theorem dX4_hill_14 : decode cX4_hill 14 = .ok (.aload_n 0, 1) := by decide +kernel
theorem dX4_hill_15 : decode cX4_hill 15 = .ok (.ldc 75, 2) := by decide +kernel
theorem dX4_hill_17 : decode cX4_hill 17 = .ok (.invokevirtual 81, 3) := by decide +kernel
theorem dX4_hill_20 : decode cX4_hill 20 = .ok (.ireturn, 1) := by decide +kernel
theorem dX4_hill_21 : decode cX4_hill 21 = .ok (.aload_n 0, 1) := by decide +kernel
theorem dX4_hill_22 : decode cX4_hill 22 = .ok (.getfield 9, 3) := by decide +kernel
theorem dX4_hill_25 : decode cX4_hill 25 = .ok (.iconst 1, 1) := by decide +kernel
theorem dX4_hill_26 : decode cX4_hill 26 = .ok (.iaload, 1) := by decide +kernel
theorem dX4_hill_27 : decode cX4_hill 27 = .ok (.bipush 8, 2) := by decide +kernel
theorem dX4_hill_29 : decode cX4_hill 29 = .ok (.if_icmp .ne 12, 3) := by decide +kernel
theorem dX4_hill_32 : decode cX4_hill 32 = .ok (.aload_n 0, 1) := by decide +kernel
theorem dX4_hill_33 : decode cX4_hill 33 = .ok (.ldc 103, 2) := by decide +kernel
theorem dX4_hill_35 : decode cX4_hill 35 = .ok (.invokevirtual 81, 3) := by decide +kernel
theorem dX4_hill_38 : decode cX4_hill 38 = .ok (.goto 13, 3) := by decide +kernel
theorem dX4_hill_41 : decode cX4_hill 41 = .ok (.aload_n 0, 1) := by decide +kernel
theorem dX4_hill_42 : decode cX4_hill 42 = .ok (.iload_n 1, 1) := by decide +kernel
theorem dX4_hill_43 : decode cX4_hill 43 = .ok (.iload_n 2, 1) := by decide +kernel
theorem dX4_hill_44 : decode cX4_hill 44 = .ok (.iconst 1, 1) := by decide +kernel
theorem dX4_hill_45 : decode cX4_hill 45 = .ok (.iconst 0, 1) := by decide +kernel
theorem dX4_hill_46 : decode cX4_hill 46 = .ok (.bipush 50, 2) := by decide +kernel
theorem dX4_hill_48 : decode cX4_hill 48 = .ok (.invokevirtual 104, 3) := by decide +kernel
theorem dX4_hill_51 : decode cX4_hill 51 = .ok (.ireturn, 1) := by decide +kernel
theorem dX4_facesOf_0 : decode cX4_facesOf 0 = .ok (.aload_n 0, 1) := by decide +kernel
theorem dX4_facesOf_1 : decode cX4_facesOf 1 = .ok (.iload_n 1, 1) := by decide +kernel
theorem dX4_facesOf_2 : decode cX4_facesOf 2 = .ok (.iconst 1, 1) := by decide +kernel
theorem dX4_facesOf_3 : decode cX4_facesOf 3 = .ok (.invokevirtual 108, 3) := by decide +kernel
theorem dX4_facesOf_6 : decode cX4_facesOf 6 = .ok (.aload_n 0, 1) := by decide +kernel
theorem dX4_facesOf_7 : decode cX4_facesOf 7 = .ok (.getfield 22, 3) := by decide +kernel
theorem dX4_facesOf_10 : decode cX4_facesOf 10 = .ok (.aload_n 0, 1) := by decide +kernel
theorem dX4_facesOf_11 : decode cX4_facesOf 11 = .ok (.iload_n 1, 1) := by decide +kernel
theorem dX4_facesOf_12 : decode cX4_facesOf 12 = .ok (.iconst 3, 1) := by decide +kernel
theorem dX4_facesOf_13 : decode cX4_facesOf 13 = .ok (.invokevirtual 108, 3) := by decide +kernel
theorem dX4_facesOf_16 : decode cX4_facesOf 16 = .ok (.iaload, 1) := by decide +kernel
theorem dX4_facesOf_17 : decode cX4_facesOf 17 = .ok (.iadd, 1) := by decide +kernel
theorem dX4_facesOf_18 : decode cX4_facesOf 18 = .ok (.invokestatic 111, 3) := by decide +kernel
theorem dX4_facesOf_21 : decode cX4_facesOf 21 = .ok (.ireturn, 1) := by decide +kernel
theorem dX4_atValley_0 : decode cX4_atValley 0 = .ok (.iconst 0, 1) := by decide +kernel
theorem dX4_atValley_1 : decode cX4_atValley 1 = .ok (.istore_n 2, 1) := by decide +kernel
theorem dX4_atValley_2 : decode cX4_atValley 2 = .ok (.iconst 0, 1) := by decide +kernel
theorem dX4_atValley_3 : decode cX4_atValley 3 = .ok (.istore_n 3, 1) := by decide +kernel
theorem dX4_atValley_4 : decode cX4_atValley 4 = .ok (.iload_n 3, 1) := by decide +kernel
theorem dX4_atValley_5 : decode cX4_atValley 5 = .ok (.aload_n 0, 1) := by decide +kernel
theorem dX4_atValley_6 : decode cX4_atValley 6 = .ok (.getfield 9, 3) := by decide +kernel
theorem dX4_atValley_9 : decode cX4_atValley 9 = .ok (.iconst 1, 1) := by decide +kernel
theorem dX4_atValley_10 : decode cX4_atValley 10 = .ok (.iaload, 1) := by decide +kernel
theorem dX4_atValley_11 : decode cX4_atValley 11 = .ok (.if_icmp .ge 29, 3) := by decide +kernel
theorem dX4_atValley_14 : decode cX4_atValley 14 = .ok (.iload_n 2, 1) := by decide +kernel
theorem dX4_atValley_15 : decode cX4_atValley 15 = .ok (.aload_n 0, 1) := by decide +kernel
theorem dX4_atValley_16 : decode cX4_atValley 16 = .ok (.iload_n 3, 1) := by decide +kernel
theorem dX4_atValley_17 : decode cX4_atValley 17 = .ok (.iconst 1, 1) := by decide +kernel
theorem dX4_atValley_18 : decode cX4_atValley 18 = .ok (.invokevirtual 108, 3) := by decide +kernel
theorem dX4_atValley_21 : decode cX4_atValley 21 = .ok (.iload_n 1, 1) := by decide +kernel
theorem dX4_atValley_22 : decode cX4_atValley 22 = .ok (.if_icmp .ne 9, 3) := by decide +kernel
theorem dX4_atValley_25 : decode cX4_atValley 25 = .ok (.iconst 1, 1) := by decide +kernel
theorem dX4_atValley_26 : decode cX4_atValley 26 = .ok (.iload_n 3, 1) := by decide +kernel
theorem dX4_atValley_27 : decode cX4_atValley 27 = .ok (.ishl, 1) := by decide +kernel
theorem dX4_atValley_28 : decode cX4_atValley 28 = .ok (.goto 4, 3) := by decide +kernel
theorem dX4_atValley_31 : decode cX4_atValley 31 = .ok (.iconst 0, 1) := by decide +kernel
theorem dX4_atValley_32 : decode cX4_atValley 32 = .ok (.ior, 1) := by decide +kernel
theorem dX4_atValley_33 : decode cX4_atValley 33 = .ok (.istore_n 2, 1) := by decide +kernel
theorem dX4_atValley_34 : decode cX4_atValley 34 = .ok (.iinc 3 1, 3) := by decide +kernel
theorem dX4_atValley_37 : decode cX4_atValley 37 = .ok (.goto (-33), 3) := by decide +kernel
theorem dX4_atValley_40 : decode cX4_atValley 40 = .ok (.iload_n 2, 1) := by decide +kernel
theorem dX4_atValley_41 : decode cX4_atValley 41 = .ok (.ireturn, 1) := by decide +kernel
theorem dX4_facing_0 : decode cX4_facing 0 = .ok (.iconst 0, 1) := by decide +kernel
theorem dX4_facing_1 : decode cX4_facing 1 = .ok (.istore_n 2, 1) := by decide +kernel
theorem dX4_facing_2 : decode cX4_facing 2 = .ok (.iconst 0, 1) := by decide +kernel
theorem dX4_facing_3 : decode cX4_facing 3 = .ok (.istore_n 3, 1) := by decide +kernel
theorem dX4_facing_4 : decode cX4_facing 4 = .ok (.iload_n 3, 1) := by decide +kernel
theorem dX4_facing_5 : decode cX4_facing 5 = .ok (.aload_n 0, 1) := by decide +kernel
theorem dX4_facing_6 : decode cX4_facing 6 = .ok (.getfield 9, 3) := by decide +kernel
theorem dX4_facing_9 : decode cX4_facing 9 = .ok (.iconst 1, 1) := by decide +kernel
theorem dX4_facing_10 : decode cX4_facing 10 = .ok (.iaload, 1) := by decide +kernel
theorem dX4_facing_11 : decode cX4_facing 11 = .ok (.if_icmp .ge 28, 3) := by decide +kernel
theorem dX4_facing_14 : decode cX4_facing 14 = .ok (.iload_n 2, 1) := by decide +kernel
theorem dX4_facing_15 : decode cX4_facing 15 = .ok (.aload_n 0, 1) := by decide +kernel
theorem dX4_facing_16 : decode cX4_facing 16 = .ok (.iload_n 3, 1) := by decide +kernel
theorem dX4_facing_17 : decode cX4_facing 17 = .ok (.invokevirtual 114, 3) := by decide +kernel
theorem dX4_facing_20 : decode cX4_facing 20 = .ok (.iload_n 1, 1) := by decide +kernel
theorem dX4_facing_21 : decode cX4_facing 21 = .ok (.if_icmp .ne 9, 3) := by decide +kernel
theorem dX4_facing_24 : decode cX4_facing 24 = .ok (.iconst 1, 1) := by decide +kernel
theorem dX4_facing_25 : decode cX4_facing 25 = .ok (.iload_n 3, 1) := by decide +kernel
theorem dX4_facing_26 : decode cX4_facing 26 = .ok (.ishl, 1) := by decide +kernel
theorem dX4_facing_27 : decode cX4_facing 27 = .ok (.goto 4, 3) := by decide +kernel
theorem dX4_facing_30 : decode cX4_facing 30 = .ok (.iconst 0, 1) := by decide +kernel
theorem dX4_facing_31 : decode cX4_facing 31 = .ok (.ior, 1) := by decide +kernel
theorem dX4_facing_32 : decode cX4_facing 32 = .ok (.istore_n 2, 1) := by decide +kernel
theorem dX4_facing_33 : decode cX4_facing 33 = .ok (.iinc 3 1, 3) := by decide +kernel
theorem dX4_facing_36 : decode cX4_facing 36 = .ok (.goto (-32), 3) := by decide +kernel
theorem dX4_facing_39 : decode cX4_facing 39 = .ok (.iload_n 2, 1) := by decide +kernel
theorem dX4_facing_40 : decode cX4_facing 40 = .ok (.ireturn, 1) := by decide +kernel
theorem dX4_meeting_0 : decode cX4_meeting 0 = .ok (.iconst 0, 1) := by decide +kernel
theorem dX4_meeting_1 : decode cX4_meeting 1 = .ok (.istore_n 2, 1) := by decide +kernel
theorem dX4_meeting_2 : decode cX4_meeting 2 = .ok (.iconst 0, 1) := by decide +kernel
theorem dX4_meeting_3 : decode cX4_meeting 3 = .ok (.istore_n 3, 1) := by decide +kernel
theorem dX4_meeting_4 : decode cX4_meeting 4 = .ok (.iload_n 3, 1) := by decide +kernel
theorem dX4_meeting_5 : decode cX4_meeting 5 = .ok (.aload_n 0, 1) := by decide +kernel
theorem dX4_meeting_6 : decode cX4_meeting 6 = .ok (.getfield 9, 3) := by decide +kernel
theorem dX4_meeting_9 : decode cX4_meeting 9 = .ok (.iconst 1, 1) := by decide +kernel
theorem dX4_meeting_10 : decode cX4_meeting 10 = .ok (.iaload, 1) := by decide +kernel
theorem dX4_meeting_11 : decode cX4_meeting 11 = .ok (.if_icmp .ge 52, 3) := by decide +kernel
theorem dX4_meeting_14 : decode cX4_meeting 14 = .ok (.iload_n 2, 1) := by decide +kernel
theorem dX4_meeting_15 : decode cX4_meeting 15 = .ok (.iload_n 3, 1) := by decide +kernel
theorem dX4_meeting_16 : decode cX4_meeting 16 = .ok (.iload_n 1, 1) := by decide +kernel
theorem dX4_meeting_17 : decode cX4_meeting 17 = .ok (.if_icmp .eq 37, 3) := by decide +kernel
theorem dX4_meeting_20 : decode cX4_meeting 20 = .ok (.aload_n 0, 1) := by decide +kernel
theorem dX4_meeting_21 : decode cX4_meeting 21 = .ok (.iload_n 1, 1) := by decide +kernel
theorem dX4_meeting_22 : decode cX4_meeting 22 = .ok (.invokevirtual 114, 3) := by decide +kernel
theorem dX4_meeting_25 : decode cX4_meeting 25 = .ok (.aload_n 0, 1) := by decide +kernel
theorem dX4_meeting_26 : decode cX4_meeting 26 = .ok (.iload_n 3, 1) := by decide +kernel
theorem dX4_meeting_27 : decode cX4_meeting 27 = .ok (.iconst 1, 1) := by decide +kernel
theorem dX4_meeting_28 : decode cX4_meeting 28 = .ok (.invokevirtual 108, 3) := by decide +kernel
theorem dX4_meeting_31 : decode cX4_meeting 31 = .ok (.if_icmp .ne 23, 3) := by decide +kernel
theorem dX4_meeting_34 : decode cX4_meeting 34 = .ok (.aload_n 0, 1) := by decide +kernel
theorem dX4_meeting_35 : decode cX4_meeting 35 = .ok (.iload_n 3, 1) := by decide +kernel
theorem dX4_meeting_36 : decode cX4_meeting 36 = .ok (.invokevirtual 114, 3) := by decide +kernel
theorem dX4_meeting_39 : decode cX4_meeting 39 = .ok (.aload_n 0, 1) := by decide +kernel
theorem dX4_meeting_40 : decode cX4_meeting 40 = .ok (.iload_n 1, 1) := by decide +kernel
theorem dX4_meeting_41 : decode cX4_meeting 41 = .ok (.iconst 1, 1) := by decide +kernel
theorem dX4_meeting_42 : decode cX4_meeting 42 = .ok (.invokevirtual 108, 3) := by decide +kernel
theorem dX4_meeting_45 : decode cX4_meeting 45 = .ok (.if_icmp .ne 9, 3) := by decide +kernel
theorem dX4_meeting_48 : decode cX4_meeting 48 = .ok (.iconst 1, 1) := by decide +kernel
theorem dX4_meeting_49 : decode cX4_meeting 49 = .ok (.iload_n 3, 1) := by decide +kernel
theorem dX4_meeting_50 : decode cX4_meeting 50 = .ok (.ishl, 1) := by decide +kernel
theorem dX4_meeting_51 : decode cX4_meeting 51 = .ok (.goto 4, 3) := by decide +kernel
theorem dX4_meeting_54 : decode cX4_meeting 54 = .ok (.iconst 0, 1) := by decide +kernel
theorem dX4_meeting_55 : decode cX4_meeting 55 = .ok (.ior, 1) := by decide +kernel
theorem dX4_meeting_56 : decode cX4_meeting 56 = .ok (.istore_n 2, 1) := by decide +kernel
theorem dX4_meeting_57 : decode cX4_meeting 57 = .ok (.iinc 3 1, 3) := by decide +kernel
theorem dX4_meeting_60 : decode cX4_meeting 60 = .ok (.goto (-56), 3) := by decide +kernel
theorem dX4_meeting_63 : decode cX4_meeting 63 = .ok (.iload_n 2, 1) := by decide +kernel
theorem dX4_meeting_64 : decode cX4_meeting 64 = .ok (.ireturn, 1) := by decide +kernel
theorem dX4_movesOf_0 : decode cX4_movesOf 0 = .ok (.aload_n 0, 1) := by decide +kernel
theorem dX4_movesOf_1 : decode cX4_movesOf 1 = .ok (.iload_n 1, 1) := by decide +kernel
theorem dX4_movesOf_2 : decode cX4_movesOf 2 = .ok (.iconst 2, 1) := by decide +kernel
theorem dX4_movesOf_3 : decode cX4_movesOf 3 = .ok (.invokevirtual 108, 3) := by decide +kernel
theorem dX4_movesOf_6 : decode cX4_movesOf 6 = .ok (.istore_n 3, 1) := by decide +kernel
theorem dX4_movesOf_7 : decode cX4_movesOf 7 = .ok (.iload_n 2, 1) := by decide +kernel
theorem dX4_movesOf_8 : decode cX4_movesOf 8 = .ok (.tableswitch 116 1 6 #[40, 68, 83, 106, 114, 44], 40) := by decide +kernel
theorem dX4_movesOf_48 : decode cX4_movesOf 48 = .ok (.iconst 2, 1) := by decide +kernel
theorem dX4_movesOf_49 : decode cX4_movesOf 49 = .ok (.iload_n 3, 1) := by decide +kernel
theorem dX4_movesOf_50 : decode cX4_movesOf 50 = .ok (.imul, 1) := by decide +kernel
theorem dX4_movesOf_51 : decode cX4_movesOf 51 = .ok (.ireturn, 1) := by decide +kernel
theorem dX4_movesOf_52 : decode cX4_movesOf 52 = .ok (.aload_n 0, 1) := by decide +kernel
theorem dX4_movesOf_53 : decode cX4_movesOf 53 = .ok (.iload_n 1, 1) := by decide +kernel
theorem dX4_movesOf_54 : decode cX4_movesOf 54 = .ok (.iconst 1, 1) := by decide +kernel
theorem dX4_movesOf_55 : decode cX4_movesOf 55 = .ok (.invokevirtual 117, 3) := by decide +kernel
theorem dX4_movesOf_58 : decode cX4_movesOf 58 = .ok (.aload_n 0, 1) := by decide +kernel
theorem dX4_movesOf_59 : decode cX4_movesOf 59 = .ok (.iload_n 1, 1) := by decide +kernel
theorem dX4_movesOf_60 : decode cX4_movesOf 60 = .ok (.iconst 4, 1) := by decide +kernel
theorem dX4_movesOf_61 : decode cX4_movesOf 61 = .ok (.invokevirtual 108, 3) := by decide +kernel
theorem dX4_movesOf_64 : decode cX4_movesOf 64 = .ok (.bipush 50, 2) := by decide +kernel
theorem dX4_movesOf_66 : decode cX4_movesOf 66 = .ok (.if_icmp .le 7, 3) := by decide +kernel
theorem dX4_movesOf_69 : decode cX4_movesOf 69 = .ok (.iconst 1, 1) := by decide +kernel
theorem dX4_movesOf_70 : decode cX4_movesOf 70 = .ok (.goto 4, 3) := by decide +kernel
theorem dX4_movesOf_73 : decode cX4_movesOf 73 = .ok (.iconst 0, 1) := by decide +kernel
theorem dX4_movesOf_74 : decode cX4_movesOf 74 = .ok (.iadd, 1) := by decide +kernel
theorem dX4_movesOf_75 : decode cX4_movesOf 75 = .ok (.ireturn, 1) := by decide +kernel
theorem dX4_movesOf_76 : decode cX4_movesOf 76 = .ok (.aload_n 0, 1) := by decide +kernel
theorem dX4_movesOf_77 : decode cX4_movesOf 77 = .ok (.getfield 25, 3) := by decide +kernel
theorem dX4_movesOf_80 : decode cX4_movesOf 80 = .ok (.iload_n 1, 1) := by decide +kernel
theorem dX4_movesOf_81 : decode cX4_movesOf 81 = .ok (.iaload, 1) := by decide +kernel
theorem dX4_movesOf_82 : decode cX4_movesOf 82 = .ok (.ifCond .eq 7, 3) := by decide +kernel
theorem dX4_movesOf_85 : decode cX4_movesOf 85 = .ok (.iconst 0, 1) := by decide +kernel
theorem dX4_movesOf_86 : decode cX4_movesOf 86 = .ok (.goto 4, 3) := by decide +kernel
theorem dX4_movesOf_89 : decode cX4_movesOf 89 = .ok (.iload_n 3, 1) := by decide +kernel
theorem dX4_movesOf_90 : decode cX4_movesOf 90 = .ok (.ireturn, 1) := by decide +kernel
theorem dX4_movesOf_91 : decode cX4_movesOf 91 = .ok (.aload_n 0, 1) := by decide +kernel
theorem dX4_movesOf_92 : decode cX4_movesOf 92 = .ok (.iload_n 1, 1) := by decide +kernel
theorem dX4_movesOf_93 : decode cX4_movesOf 93 = .ok (.iconst 2, 1) := by decide +kernel
theorem dX4_movesOf_94 : decode cX4_movesOf 94 = .ok (.invokevirtual 117, 3) := by decide +kernel
theorem dX4_movesOf_97 : decode cX4_movesOf 97 = .ok (.aload_n 0, 1) := by decide +kernel
theorem dX4_movesOf_98 : decode cX4_movesOf 98 = .ok (.aload_n 0, 1) := by decide +kernel
theorem dX4_movesOf_99 : decode cX4_movesOf 99 = .ok (.iload_n 1, 1) := by decide +kernel
theorem dX4_movesOf_100 : decode cX4_movesOf 100 = .ok (.iconst 1, 1) := by decide +kernel
theorem dX4_movesOf_101 : decode cX4_movesOf 101 = .ok (.invokevirtual 108, 3) := by decide +kernel
theorem dX4_movesOf_104 : decode cX4_movesOf 104 = .ok (.invokevirtual 120, 3) := by decide +kernel
theorem dX4_movesOf_107 : decode cX4_movesOf 107 = .ok (.invokestatic 123, 3) := by decide +kernel
theorem dX4_movesOf_110 : decode cX4_movesOf 110 = .ok (.iadd, 1) := by decide +kernel
theorem dX4_movesOf_111 : decode cX4_movesOf 111 = .ok (.iconst 1, 1) := by decide +kernel
theorem dX4_movesOf_112 : decode cX4_movesOf 112 = .ok (.isub, 1) := by decide +kernel
theorem dX4_movesOf_113 : decode cX4_movesOf 113 = .ok (.ireturn, 1) := by decide +kernel
theorem dX4_movesOf_114 : decode cX4_movesOf 114 = .ok (.aload_n 0, 1) := by decide +kernel
theorem dX4_movesOf_115 : decode cX4_movesOf 115 = .ok (.iload_n 1, 1) := by decide +kernel
theorem dX4_movesOf_116 : decode cX4_movesOf 116 = .ok (.iconst 3, 1) := by decide +kernel
theorem dX4_movesOf_117 : decode cX4_movesOf 117 = .ok (.invokevirtual 117, 3) := by decide +kernel
theorem dX4_movesOf_120 : decode cX4_movesOf 120 = .ok (.ineg, 1) := by decide +kernel
theorem dX4_movesOf_121 : decode cX4_movesOf 121 = .ok (.ireturn, 1) := by decide +kernel
theorem dX4_movesOf_122 : decode cX4_movesOf 122 = .ok (.iconst 0, 1) := by decide +kernel
theorem dX4_movesOf_123 : decode cX4_movesOf 123 = .ok (.ireturn, 1) := by decide +kernel
theorem dX4_movesOf_124 : decode cX4_movesOf 124 = .ok (.iload_n 3, 1) := by decide +kernel
theorem dX4_movesOf_125 : decode cX4_movesOf 125 = .ok (.ireturn, 1) := by decide +kernel
theorem dX4_turnsOf_0 : decode cX4_turnsOf 0 = .ok (.iload_n 2, 1) := by decide +kernel
theorem dX4_turnsOf_1 : decode cX4_turnsOf 1 = .ok (.tableswitch 69 1 6 #[39, 69, 43, 60, 39, 41], 39) := by decide +kernel
theorem dX4_turnsOf_40 : decode cX4_turnsOf 40 = .ok (.iconst 0, 1) := by decide +kernel
theorem dX4_turnsOf_41 : decode cX4_turnsOf 41 = .ok (.ireturn, 1) := by decide +kernel
theorem dX4_turnsOf_42 : decode cX4_turnsOf 42 = .ok (.iconst 2, 1) := by decide +kernel
theorem dX4_turnsOf_43 : decode cX4_turnsOf 43 = .ok (.ireturn, 1) := by decide +kernel
theorem dX4_turnsOf_44 : decode cX4_turnsOf 44 = .ok (.aload_n 0, 1) := by decide +kernel
theorem dX4_turnsOf_45 : decode cX4_turnsOf 45 = .ok (.iload_n 1, 1) := by decide +kernel
theorem dX4_turnsOf_46 : decode cX4_turnsOf 46 = .ok (.iconst 4, 1) := by decide +kernel
theorem dX4_turnsOf_47 : decode cX4_turnsOf 47 = .ok (.invokevirtual 108, 3) := by decide +kernel
theorem dX4_turnsOf_50 : decode cX4_turnsOf 50 = .ok (.bipush 50, 2) := by decide +kernel
theorem dX4_turnsOf_52 : decode cX4_turnsOf 52 = .ok (.if_icmp .le 7, 3) := by decide +kernel
theorem dX4_turnsOf_55 : decode cX4_turnsOf 55 = .ok (.iconst 2, 1) := by decide +kernel
theorem dX4_turnsOf_56 : decode cX4_turnsOf 56 = .ok (.goto 4, 3) := by decide +kernel
theorem dX4_turnsOf_59 : decode cX4_turnsOf 59 = .ok (.iconst 1, 1) := by decide +kernel
theorem dX4_turnsOf_60 : decode cX4_turnsOf 60 = .ok (.ireturn, 1) := by decide +kernel
theorem dX4_turnsOf_61 : decode cX4_turnsOf 61 = .ok (.iconst 3, 1) := by decide +kernel
theorem dX4_turnsOf_62 : decode cX4_turnsOf 62 = .ok (.aload_n 0, 1) := by decide +kernel
theorem dX4_turnsOf_63 : decode cX4_turnsOf 63 = .ok (.iload_n 1, 1) := by decide +kernel
theorem dX4_turnsOf_64 : decode cX4_turnsOf 64 = .ok (.iconst 3, 1) := by decide +kernel
theorem dX4_turnsOf_65 : decode cX4_turnsOf 65 = .ok (.invokevirtual 126, 3) := by decide +kernel
theorem dX4_turnsOf_68 : decode cX4_turnsOf 68 = .ok (.imul, 1) := by decide +kernel
theorem dX4_turnsOf_69 : decode cX4_turnsOf 69 = .ok (.ireturn, 1) := by decide +kernel
theorem dX4_turnsOf_70 : decode cX4_turnsOf 70 = .ok (.iconst 1, 1) := by decide +kernel
theorem dX4_turnsOf_71 : decode cX4_turnsOf 71 = .ok (.ireturn, 1) := by decide +kernel
theorem dX4_sinksOf_0 : decode cX4_sinksOf 0 = .ok (.aload_n 0, 1) := by decide +kernel
theorem dX4_sinksOf_1 : decode cX4_sinksOf 1 = .ok (.getfield 9, 3) := by decide +kernel
theorem dX4_sinksOf_4 : decode cX4_sinksOf 4 = .ok (.iconst 3, 1) := by decide +kernel
theorem dX4_sinksOf_5 : decode cX4_sinksOf 5 = .ok (.iaload, 1) := by decide +kernel
theorem dX4_sinksOf_6 : decode cX4_sinksOf 6 = .ok (.istore_n 2, 1) := by decide +kernel
theorem dX4_sinksOf_7 : decode cX4_sinksOf 7 = .ok (.iload_n 1, 1) := by decide +kernel
theorem dX4_sinksOf_8 : decode cX4_sinksOf 8 = .ok (.tableswitch 58 1 6 #[40, 46, 50, 50, 56, 42], 40) := by decide +kernel
theorem dX4_sinksOf_48 : decode cX4_sinksOf 48 = .ok (.iload_n 2, 1) := by decide +kernel
theorem dX4_sinksOf_49 : decode cX4_sinksOf 49 = .ok (.ireturn, 1) := by decide +kernel
theorem dX4_sinksOf_50 : decode cX4_sinksOf 50 = .ok (.iload_n 2, 1) := by decide +kernel
theorem dX4_sinksOf_51 : decode cX4_sinksOf 51 = .ok (.iconst 1, 1) := by decide +kernel
theorem dX4_sinksOf_52 : decode cX4_sinksOf 52 = .ok (.iadd, 1) := by decide +kernel
theorem dX4_sinksOf_53 : decode cX4_sinksOf 53 = .ok (.ireturn, 1) := by decide +kernel
theorem dX4_sinksOf_54 : decode cX4_sinksOf 54 = .ok (.iconst 1, 1) := by decide +kernel
theorem dX4_sinksOf_55 : decode cX4_sinksOf 55 = .ok (.iload_n 2, 1) := by decide +kernel
theorem dX4_sinksOf_56 : decode cX4_sinksOf 56 = .ok (.iadd, 1) := by decide +kernel
theorem dX4_sinksOf_57 : decode cX4_sinksOf 57 = .ok (.ireturn, 1) := by decide +kernel
theorem dX4_sinksOf_58 : decode cX4_sinksOf 58 = .ok (.iconst 1, 1) := by decide +kernel
theorem dX4_sinksOf_59 : decode cX4_sinksOf 59 = .ok (.iload_n 2, 1) := by decide +kernel
theorem dX4_sinksOf_60 : decode cX4_sinksOf 60 = .ok (.iadd, 1) := by decide +kernel
theorem dX4_sinksOf_61 : decode cX4_sinksOf 61 = .ok (.iconst 2, 1) := by decide +kernel
theorem dX4_sinksOf_62 : decode cX4_sinksOf 62 = .ok (.idiv, 1) := by decide +kernel
theorem dX4_sinksOf_63 : decode cX4_sinksOf 63 = .ok (.ireturn, 1) := by decide +kernel
theorem dX4_sinksOf_64 : decode cX4_sinksOf 64 = .ok (.iconst 0, 1) := by decide +kernel
theorem dX4_sinksOf_65 : decode cX4_sinksOf 65 = .ok (.ireturn, 1) := by decide +kernel
theorem dX4_sinksOf_66 : decode cX4_sinksOf 66 = .ok (.iconst 1, 1) := by decide +kernel
theorem dX4_sinksOf_67 : decode cX4_sinksOf 67 = .ok (.ireturn, 1) := by decide +kernel
theorem dX4_looksAt_0 : decode cX4_looksAt 0 = .ok (.iconst 0, 1) := by decide +kernel
theorem dX4_looksAt_1 : decode cX4_looksAt 1 = .ok (.istore_n 1, 1) := by decide +kernel
theorem dX4_looksAt_2 : decode cX4_looksAt 2 = .ok (.iload_n 1, 1) := by decide +kernel
theorem dX4_looksAt_3 : decode cX4_looksAt 3 = .ok (.aload_n 0, 1) := by decide +kernel
theorem dX4_looksAt_4 : decode cX4_looksAt 4 = .ok (.getfield 9, 3) := by decide +kernel
theorem dX4_looksAt_7 : decode cX4_looksAt 7 = .ok (.iconst 1, 1) := by decide +kernel
theorem dX4_looksAt_8 : decode cX4_looksAt 8 = .ok (.iaload, 1) := by decide +kernel
theorem dX4_looksAt_9 : decode cX4_looksAt 9 = .ok (.if_icmp .ge 70, 3) := by decide +kernel
theorem dX4_looksAt_12 : decode cX4_looksAt 12 = .ok (.aload_n 0, 1) := by decide +kernel
theorem dX4_looksAt_13 : decode cX4_looksAt 13 = .ok (.getfield 25, 3) := by decide +kernel
theorem dX4_looksAt_16 : decode cX4_looksAt 16 = .ok (.iload_n 1, 1) := by decide +kernel
theorem dX4_looksAt_17 : decode cX4_looksAt 17 = .ok (.aload_n 0, 1) := by decide +kernel
theorem dX4_looksAt_18 : decode cX4_looksAt 18 = .ok (.iload_n 1, 1) := by decide +kernel
theorem dX4_looksAt_19 : decode cX4_looksAt 19 = .ok (.invokevirtual 129, 3) := by decide +kernel
theorem dX4_looksAt_22 : decode cX4_looksAt 22 = .ok (.iastore, 1) := by decide +kernel
theorem dX4_looksAt_23 : decode cX4_looksAt 23 = .ok (.aload_n 0, 1) := by decide +kernel
theorem dX4_looksAt_24 : decode cX4_looksAt 24 = .ok (.getfield 28, 3) := by decide +kernel
theorem dX4_looksAt_27 : decode cX4_looksAt 27 = .ok (.iload_n 1, 1) := by decide +kernel
theorem dX4_looksAt_28 : decode cX4_looksAt 28 = .ok (.aload_n 0, 1) := by decide +kernel
theorem dX4_looksAt_29 : decode cX4_looksAt 29 = .ok (.iload_n 1, 1) := by decide +kernel
theorem dX4_looksAt_30 : decode cX4_looksAt 30 = .ok (.aload_n 0, 1) := by decide +kernel
theorem dX4_looksAt_31 : decode cX4_looksAt 31 = .ok (.iload_n 1, 1) := by decide +kernel
theorem dX4_looksAt_32 : decode cX4_looksAt 32 = .ok (.iconst 0, 1) := by decide +kernel
theorem dX4_looksAt_33 : decode cX4_looksAt 33 = .ok (.invokevirtual 108, 3) := by decide +kernel
theorem dX4_looksAt_36 : decode cX4_looksAt 36 = .ok (.invokevirtual 117, 3) := by decide +kernel
theorem dX4_looksAt_39 : decode cX4_looksAt 39 = .ok (.iastore, 1) := by decide +kernel
theorem dX4_looksAt_40 : decode cX4_looksAt 40 = .ok (.aload_n 0, 1) := by decide +kernel
theorem dX4_looksAt_41 : decode cX4_looksAt 41 = .ok (.getfield 31, 3) := by decide +kernel
theorem dX4_looksAt_44 : decode cX4_looksAt 44 = .ok (.iload_n 1, 1) := by decide +kernel
theorem dX4_looksAt_45 : decode cX4_looksAt 45 = .ok (.aload_n 0, 1) := by decide +kernel
theorem dX4_looksAt_46 : decode cX4_looksAt 46 = .ok (.iload_n 1, 1) := by decide +kernel
theorem dX4_looksAt_47 : decode cX4_looksAt 47 = .ok (.aload_n 0, 1) := by decide +kernel
theorem dX4_looksAt_48 : decode cX4_looksAt 48 = .ok (.iload_n 1, 1) := by decide +kernel
theorem dX4_looksAt_49 : decode cX4_looksAt 49 = .ok (.iconst 0, 1) := by decide +kernel
theorem dX4_looksAt_50 : decode cX4_looksAt 50 = .ok (.invokevirtual 108, 3) := by decide +kernel
theorem dX4_looksAt_53 : decode cX4_looksAt 53 = .ok (.invokevirtual 126, 3) := by decide +kernel
theorem dX4_looksAt_56 : decode cX4_looksAt 56 = .ok (.iastore, 1) := by decide +kernel
theorem dX4_looksAt_57 : decode cX4_looksAt 57 = .ok (.aload_n 0, 1) := by decide +kernel
theorem dX4_looksAt_58 : decode cX4_looksAt 58 = .ok (.getfield 34, 3) := by decide +kernel
theorem dX4_looksAt_61 : decode cX4_looksAt 61 = .ok (.iload_n 1, 1) := by decide +kernel
theorem dX4_looksAt_62 : decode cX4_looksAt 62 = .ok (.aload_n 0, 1) := by decide +kernel
theorem dX4_looksAt_63 : decode cX4_looksAt 63 = .ok (.aload_n 0, 1) := by decide +kernel
theorem dX4_looksAt_64 : decode cX4_looksAt 64 = .ok (.iload_n 1, 1) := by decide +kernel
theorem dX4_looksAt_65 : decode cX4_looksAt 65 = .ok (.iconst 0, 1) := by decide +kernel
theorem dX4_looksAt_66 : decode cX4_looksAt 66 = .ok (.invokevirtual 108, 3) := by decide +kernel
theorem dX4_looksAt_69 : decode cX4_looksAt 69 = .ok (.invokevirtual 132, 3) := by decide +kernel
theorem dX4_looksAt_72 : decode cX4_looksAt 72 = .ok (.iastore, 1) := by decide +kernel
theorem dX4_looksAt_73 : decode cX4_looksAt 73 = .ok (.iinc 1 1, 3) := by decide +kernel
theorem dX4_looksAt_76 : decode cX4_looksAt 76 = .ok (.goto (-74), 3) := by decide +kernel
theorem dX4_looksAt_79 : decode cX4_looksAt 79 = .ok (.return_, 1) := by decide +kernel
theorem dX4_of_0 : decode cX4_of 0 = .ok (.aload_n 0, 1) := by decide +kernel
theorem dX4_of_1 : decode cX4_of 1 = .ok (.iload_n 1, 1) := by decide +kernel
theorem dX4_of_2 : decode cX4_of 2 = .ok (.invokevirtual 135, 3) := by decide +kernel
theorem dX4_of_5 : decode cX4_of 5 = .ok (.ifCond .eq 13, 3) := by decide +kernel
theorem dX4_of_8 : decode cX4_of 8 = .ok (.iload_n 2, 1) := by decide +kernel
theorem dX4_of_9 : decode cX4_of 9 = .ok (.iconst 0, 1) := by decide +kernel
theorem dX4_of_10 : decode cX4_of 10 = .ok (.bipush 10, 2) := by decide +kernel
theorem dX4_of_12 : decode cX4_of 12 = .ok (.invokestatic 85, 3) := by decide +kernel
theorem dX4_of_15 : decode cX4_of 15 = .ok (.ifCond .ne 10, 3) := by decide +kernel
theorem dX4_of_18 : decode cX4_of 18 = .ok (.aload_n 0, 1) := by decide +kernel
theorem dX4_of_19 : decode cX4_of 19 = .ok (.ldc 75, 2) := by decide +kernel
theorem dX4_of_21 : decode cX4_of 21 = .ok (.invokevirtual 81, 3) := by decide +kernel
theorem dX4_of_24 : decode cX4_of 24 = .ok (.ireturn, 1) := by decide +kernel
theorem dX4_of_25 : decode cX4_of 25 = .ok (.aload_n 0, 1) := by decide +kernel
theorem dX4_of_26 : decode cX4_of 26 = .ok (.invokevirtual 138, 3) := by decide +kernel
theorem dX4_of_29 : decode cX4_of 29 = .ok (.iload_n 2, 1) := by decide +kernel
theorem dX4_of_30 : decode cX4_of 30 = .ok (.tableswitch 68 6 10 #[34, 40, 47, 54, 61], 34) := by decide +kernel
theorem dX4_of_64 : decode cX4_of 64 = .ok (.aload_n 0, 1) := by decide +kernel
theorem dX4_of_65 : decode cX4_of 65 = .ok (.iload_n 1, 1) := by decide +kernel
theorem dX4_of_66 : decode cX4_of 66 = .ok (.invokevirtual 114, 3) := by decide +kernel
theorem dX4_of_69 : decode cX4_of 69 = .ok (.ireturn, 1) := by decide +kernel
theorem dX4_of_70 : decode cX4_of 70 = .ok (.aload_n 0, 1) := by decide +kernel
theorem dX4_of_71 : decode cX4_of 71 = .ok (.getfield 28, 3) := by decide +kernel
theorem dX4_of_74 : decode cX4_of 74 = .ok (.iload_n 1, 1) := by decide +kernel
theorem dX4_of_75 : decode cX4_of 75 = .ok (.iaload, 1) := by decide +kernel
theorem dX4_of_76 : decode cX4_of 76 = .ok (.ireturn, 1) := by decide +kernel
theorem dX4_of_77 : decode cX4_of 77 = .ok (.aload_n 0, 1) := by decide +kernel
theorem dX4_of_78 : decode cX4_of 78 = .ok (.getfield 31, 3) := by decide +kernel
theorem dX4_of_81 : decode cX4_of 81 = .ok (.iload_n 1, 1) := by decide +kernel
theorem dX4_of_82 : decode cX4_of 82 = .ok (.iaload, 1) := by decide +kernel
theorem dX4_of_83 : decode cX4_of 83 = .ok (.ireturn, 1) := by decide +kernel
theorem dX4_of_84 : decode cX4_of 84 = .ok (.aload_n 0, 1) := by decide +kernel
theorem dX4_of_85 : decode cX4_of 85 = .ok (.getfield 34, 3) := by decide +kernel
theorem dX4_of_88 : decode cX4_of 88 = .ok (.iload_n 1, 1) := by decide +kernel
theorem dX4_of_89 : decode cX4_of 89 = .ok (.iaload, 1) := by decide +kernel
theorem dX4_of_90 : decode cX4_of 90 = .ok (.ireturn, 1) := by decide +kernel
theorem dX4_of_91 : decode cX4_of 91 = .ok (.aload_n 0, 1) := by decide +kernel
theorem dX4_of_92 : decode cX4_of 92 = .ok (.getfield 25, 3) := by decide +kernel
theorem dX4_of_95 : decode cX4_of 95 = .ok (.iload_n 1, 1) := by decide +kernel
theorem dX4_of_96 : decode cX4_of 96 = .ok (.iaload, 1) := by decide +kernel
theorem dX4_of_97 : decode cX4_of 97 = .ok (.ireturn, 1) := by decide +kernel
theorem dX4_of_98 : decode cX4_of 98 = .ok (.aload_n 0, 1) := by decide +kernel
theorem dX4_of_99 : decode cX4_of 99 = .ok (.iload_n 1, 1) := by decide +kernel
theorem dX4_of_100 : decode cX4_of 100 = .ok (.iload_n 2, 1) := by decide +kernel
theorem dX4_of_101 : decode cX4_of 101 = .ok (.invokevirtual 108, 3) := by decide +kernel
theorem dX4_of_104 : decode cX4_of 104 = .ok (.ireturn, 1) := by decide +kernel
theorem dX4_mayBe_0 : decode cX4_mayBe 0 = .ok (.iload_n 0, 1) := by decide +kernel
theorem dX4_mayBe_1 : decode cX4_mayBe 1 = .ok (.tableswitch 78 0 5 #[39, 44, 49, 57, 64, 69], 39) := by decide +kernel
theorem dX4_mayBe_40 : decode cX4_mayBe 40 = .ok (.iload_n 1, 1) := by decide +kernel
theorem dX4_mayBe_41 : decode cX4_mayBe 41 = .ok (.invokestatic 96, 3) := by decide +kernel
theorem dX4_mayBe_44 : decode cX4_mayBe 44 = .ok (.ireturn, 1) := by decide +kernel
theorem dX4_mayBe_45 : decode cX4_mayBe 45 = .ok (.iload_n 1, 1) := by decide +kernel
theorem dX4_mayBe_46 : decode cX4_mayBe 46 = .ok (.invokestatic 100, 3) := by decide +kernel
theorem dX4_mayBe_49 : decode cX4_mayBe 49 = .ok (.ireturn, 1) := by decide +kernel
theorem dX4_mayBe_50 : decode cX4_mayBe 50 = .ok (.iload_n 1, 1) := by decide +kernel
theorem dX4_mayBe_51 : decode cX4_mayBe 51 = .ok (.bipush (-5), 2) := by decide +kernel
theorem dX4_mayBe_53 : decode cX4_mayBe 53 = .ok (.iconst 5, 1) := by decide +kernel
theorem dX4_mayBe_54 : decode cX4_mayBe 54 = .ok (.invokestatic 85, 3) := by decide +kernel
theorem dX4_mayBe_57 : decode cX4_mayBe 57 = .ok (.ireturn, 1) := by decide +kernel
theorem dX4_mayBe_58 : decode cX4_mayBe 58 = .ok (.iload_n 1, 1) := by decide +kernel
theorem dX4_mayBe_59 : decode cX4_mayBe 59 = .ok (.iconst 0, 1) := by decide +kernel
theorem dX4_mayBe_60 : decode cX4_mayBe 60 = .ok (.iconst 3, 1) := by decide +kernel
theorem dX4_mayBe_61 : decode cX4_mayBe 61 = .ok (.invokestatic 85, 3) := by decide +kernel
theorem dX4_mayBe_64 : decode cX4_mayBe 64 = .ok (.ireturn, 1) := by decide +kernel
theorem dX4_mayBe_65 : decode cX4_mayBe 65 = .ok (.iload_n 1, 1) := by decide +kernel
theorem dX4_mayBe_66 : decode cX4_mayBe 66 = .ok (.invokestatic 141, 3) := by decide +kernel
theorem dX4_mayBe_69 : decode cX4_mayBe 69 = .ok (.ireturn, 1) := by decide +kernel
theorem dX4_mayBe_70 : decode cX4_mayBe 70 = .ok (.iload_n 1, 1) := by decide +kernel
theorem dX4_mayBe_71 : decode cX4_mayBe 71 = .ok (.iconst 0, 1) := by decide +kernel
theorem dX4_mayBe_72 : decode cX4_mayBe 72 = .ok (.sipush 9999, 3) := by decide +kernel
theorem dX4_mayBe_75 : decode cX4_mayBe 75 = .ok (.invokestatic 85, 3) := by decide +kernel
theorem dX4_mayBe_78 : decode cX4_mayBe 78 = .ok (.ireturn, 1) := by decide +kernel
theorem dX4_mayBe_79 : decode cX4_mayBe 79 = .ok (.iconst 0, 1) := by decide +kernel
theorem dX4_mayBe_80 : decode cX4_mayBe 80 = .ok (.ireturn, 1) := by decide +kernel
theorem dX4_change_0 : decode cX4_change 0 = .ok (.aload_n 0, 1) := by decide +kernel
theorem dX4_change_1 : decode cX4_change 1 = .ok (.iload_n 1, 1) := by decide +kernel
theorem dX4_change_2 : decode cX4_change 2 = .ok (.invokevirtual 135, 3) := by decide +kernel
theorem dX4_change_5 : decode cX4_change 5 = .ok (.ifCond .eq 24, 3) := by decide +kernel
theorem dX4_change_8 : decode cX4_change 8 = .ok (.iload_n 2, 1) := by decide +kernel
theorem dX4_change_9 : decode cX4_change 9 = .ok (.iload_n 3, 1) := by decide +kernel
theorem dX4_change_10 : decode cX4_change 10 = .ok (.invokestatic 144, 3) := by decide +kernel
theorem dX4_change_13 : decode cX4_change 13 = .ok (.ifCond .eq 16, 3) := by decide +kernel
theorem dX4_change_16 : decode cX4_change 16 = .ok (.aload_n 0, 1) := by decide +kernel
theorem dX4_change_17 : decode cX4_change 17 = .ok (.iload_n 1, 1) := by decide +kernel
theorem dX4_change_18 : decode cX4_change 18 = .ok (.iload_n 2, 1) := by decide +kernel
theorem dX4_change_19 : decode cX4_change 19 = .ok (.invokestatic 93, 3) := by decide +kernel
theorem dX4_change_22 : decode cX4_change 22 = .ok (.iload_n 3, 1) := by decide +kernel
theorem dX4_change_23 : decode cX4_change 23 = .ok (.invokevirtual 89, 3) := by decide +kernel
theorem dX4_change_26 : decode cX4_change 26 = .ok (.goto 9, 3) := by decide +kernel
theorem dX4_change_29 : decode cX4_change 29 = .ok (.aload_n 0, 1) := by decide +kernel
theorem dX4_change_30 : decode cX4_change 30 = .ok (.ldc 75, 2) := by decide +kernel
theorem dX4_change_32 : decode cX4_change 32 = .ok (.invokevirtual 81, 3) := by decide +kernel
theorem dX4_change_35 : decode cX4_change 35 = .ok (.ireturn, 1) := by decide +kernel
theorem dX4_highestAt_0 : decode cX4_highestAt 0 = .ok (.iconst (-1), 1) := by decide +kernel
theorem dX4_highestAt_1 : decode cX4_highestAt 1 = .ok (.istore_n 2, 1) := by decide +kernel
theorem dX4_highestAt_2 : decode cX4_highestAt 2 = .ok (.iconst 0, 1) := by decide +kernel
theorem dX4_highestAt_3 : decode cX4_highestAt 3 = .ok (.istore_n 3, 1) := by decide +kernel
theorem dX4_highestAt_4 : decode cX4_highestAt 4 = .ok (.iload_n 3, 1) := by decide +kernel
theorem dX4_highestAt_5 : decode cX4_highestAt 5 = .ok (.aload_n 0, 1) := by decide +kernel
theorem dX4_highestAt_6 : decode cX4_highestAt 6 = .ok (.getfield 9, 3) := by decide +kernel
theorem dX4_highestAt_9 : decode cX4_highestAt 9 = .ok (.iconst 1, 1) := by decide +kernel
theorem dX4_highestAt_10 : decode cX4_highestAt 10 = .ok (.iaload, 1) := by decide +kernel
theorem dX4_highestAt_11 : decode cX4_highestAt 11 = .ok (.if_icmp .ge 34, 3) := by decide +kernel
theorem dX4_highestAt_14 : decode cX4_highestAt 14 = .ok (.aload_n 0, 1) := by decide +kernel
theorem dX4_highestAt_15 : decode cX4_highestAt 15 = .ok (.iload_n 3, 1) := by decide +kernel
theorem dX4_highestAt_16 : decode cX4_highestAt 16 = .ok (.iconst 1, 1) := by decide +kernel
theorem dX4_highestAt_17 : decode cX4_highestAt 17 = .ok (.invokevirtual 108, 3) := by decide +kernel
theorem dX4_highestAt_20 : decode cX4_highestAt 20 = .ok (.iload_n 1, 1) := by decide +kernel
theorem dX4_highestAt_21 : decode cX4_highestAt 21 = .ok (.if_icmp .ne 16, 3) := by decide +kernel
theorem dX4_highestAt_24 : decode cX4_highestAt 24 = .ok (.iload_n 2, 1) := by decide +kernel
theorem dX4_highestAt_25 : decode cX4_highestAt 25 = .ok (.aload_n 0, 1) := by decide +kernel
theorem dX4_highestAt_26 : decode cX4_highestAt 26 = .ok (.iload_n 3, 1) := by decide +kernel
theorem dX4_highestAt_27 : decode cX4_highestAt 27 = .ok (.iconst 4, 1) := by decide +kernel
theorem dX4_highestAt_28 : decode cX4_highestAt 28 = .ok (.invokevirtual 108, 3) := by decide +kernel
theorem dX4_highestAt_31 : decode cX4_highestAt 31 = .ok (.invokestatic 148, 3) := by decide +kernel
theorem dX4_highestAt_34 : decode cX4_highestAt 34 = .ok (.goto 4, 3) := by decide +kernel
theorem dX4_highestAt_37 : decode cX4_highestAt 37 = .ok (.iload_n 2, 1) := by decide +kernel
theorem dX4_highestAt_38 : decode cX4_highestAt 38 = .ok (.istore_n 2, 1) := by decide +kernel
theorem dX4_highestAt_39 : decode cX4_highestAt 39 = .ok (.iinc 3 1, 3) := by decide +kernel
theorem dX4_highestAt_42 : decode cX4_highestAt 42 = .ok (.goto (-38), 3) := by decide +kernel
theorem dX4_highestAt_45 : decode cX4_highestAt 45 = .ok (.iload_n 2, 1) := by decide +kernel
theorem dX4_highestAt_46 : decode cX4_highestAt 46 = .ok (.ireturn, 1) := by decide +kernel
theorem dX4_valley_0 : decode cX4_valley 0 = .ok (.iload_n 1, 1) := by decide +kernel
theorem dX4_valley_1 : decode cX4_valley 1 = .ok (.invokestatic 100, 3) := by decide +kernel
theorem dX4_valley_4 : decode cX4_valley 4 = .ok (.ifCond .eq 12, 3) := by decide +kernel
theorem dX4_valley_7 : decode cX4_valley 7 = .ok (.iload_n 2, 1) := by decide +kernel
theorem dX4_valley_8 : decode cX4_valley 8 = .ok (.iconst 0, 1) := by decide +kernel
theorem dX4_valley_9 : decode cX4_valley 9 = .ok (.iconst 2, 1) := by decide +kernel
theorem dX4_valley_10 : decode cX4_valley 10 = .ok (.invokestatic 85, 3) := by decide +kernel
theorem dX4_valley_13 : decode cX4_valley 13 = .ok (.ifCond .ne 10, 3) := by decide +kernel
theorem dX4_valley_16 : decode cX4_valley 16 = .ok (.aload_n 0, 1) := by decide +kernel
theorem dX4_valley_17 : decode cX4_valley 17 = .ok (.ldc 75, 2) := by decide +kernel
theorem dX4_valley_19 : decode cX4_valley 19 = .ok (.invokevirtual 81, 3) := by decide +kernel
theorem dX4_valley_22 : decode cX4_valley 22 = .ok (.ireturn, 1) := by decide +kernel
theorem dX4_valley_23 : decode cX4_valley 23 = .ok (.iload_n 2, 1) := by decide +kernel
theorem dX4_valley_24 : decode cX4_valley 24 = .ok (.ifCond .ne 11, 3) := by decide +kernel
theorem dX4_valley_27 : decode cX4_valley 27 = .ok (.aload_n 0, 1) := by decide +kernel
theorem dX4_valley_28 : decode cX4_valley 28 = .ok (.iload_n 1, 1) := by decide +kernel
theorem dX4_valley_29 : decode cX4_valley 29 = .ok (.invokevirtual 120, 3) := by decide +kernel
theorem dX4_valley_32 : decode cX4_valley 32 = .ok (.goto 21, 3) := by decide +kernel
theorem dX4_valley_35 : decode cX4_valley 35 = .ok (.iload_n 2, 1) := by decide +kernel
theorem dX4_valley_36 : decode cX4_valley 36 = .ok (.iconst 1, 1) := by decide +kernel
theorem dX4_valley_37 : decode cX4_valley 37 = .ok (.if_icmp .ne 11, 3) := by decide +kernel
