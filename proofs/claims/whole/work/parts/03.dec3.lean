theorem dX4_valley_40 : decode cX4_valley 40 = .ok (.aload_n 0, 1) := by decide +kernel
theorem dX4_valley_41 : decode cX4_valley 41 = .ok (.iload_n 1, 1) := by decide +kernel
theorem dX4_valley_42 : decode cX4_valley 42 = .ok (.invokevirtual 153, 3) := by decide +kernel
theorem dX4_valley_45 : decode cX4_valley 45 = .ok (.goto 8, 3) := by decide +kernel
theorem dX4_valley_48 : decode cX4_valley 48 = .ok (.aload_n 0, 1) := by decide +kernel
theorem dX4_valley_49 : decode cX4_valley 49 = .ok (.iload_n 1, 1) := by decide +kernel
theorem dX4_valley_50 : decode cX4_valley 50 = .ok (.invokevirtual 156, 3) := by decide +kernel
theorem dX4_valley_53 : decode cX4_valley 53 = .ok (.ireturn, 1) := by decide +kernel
theorem dX4_age_0 : decode cX4_age 0 = .ok (.aload_n 0, 1) := by decide +kernel
theorem dX4_age_1 : decode cX4_age 1 = .ok (.invokevirtual 138, 3) := by decide +kernel
theorem dX4_age_4 : decode cX4_age 4 = .ok (.iconst 0, 1) := by decide +kernel
theorem dX4_age_5 : decode cX4_age 5 = .ok (.istore_n 1, 1) := by decide +kernel
theorem dX4_age_6 : decode cX4_age 6 = .ok (.iload_n 1, 1) := by decide +kernel
theorem dX4_age_7 : decode cX4_age 7 = .ok (.aload_n 0, 1) := by decide +kernel
theorem dX4_age_8 : decode cX4_age 8 = .ok (.getfield 9, 3) := by decide +kernel
theorem dX4_age_11 : decode cX4_age 11 = .ok (.iconst 1, 1) := by decide +kernel
theorem dX4_age_12 : decode cX4_age 12 = .ok (.iaload, 1) := by decide +kernel
theorem dX4_age_13 : decode cX4_age 13 = .ok (.if_icmp .ge 159, 3) := by decide +kernel
theorem dX4_age_16 : decode cX4_age 16 = .ok (.aload_n 0, 1) := by decide +kernel
theorem dX4_age_17 : decode cX4_age 17 = .ok (.getfield 25, 3) := by decide +kernel
theorem dX4_age_20 : decode cX4_age 20 = .ok (.iload_n 1, 1) := by decide +kernel
theorem dX4_age_21 : decode cX4_age 21 = .ok (.iaload, 1) := by decide +kernel
theorem dX4_age_22 : decode cX4_age 22 = .ok (.ifCond .eq 7, 3) := by decide +kernel
theorem dX4_age_25 : decode cX4_age 25 = .ok (.iconst 1, 1) := by decide +kernel
theorem dX4_age_26 : decode cX4_age 26 = .ok (.goto 4, 3) := by decide +kernel
theorem dX4_age_29 : decode cX4_age 29 = .ok (.iconst 0, 1) := by decide +kernel
theorem dX4_age_30 : decode cX4_age 30 = .ok (.istore_n 2, 1) := by decide +kernel
theorem dX4_age_31 : decode cX4_age 31 = .ok (.aload_n 0, 1) := by decide +kernel
theorem dX4_age_32 : decode cX4_age 32 = .ok (.getfield 9, 3) := by decide +kernel
theorem dX4_age_35 : decode cX4_age 35 = .ok (.iload_n 1, 1) := by decide +kernel
theorem dX4_age_36 : decode cX4_age 36 = .ok (.iconst 1, 1) := by decide +kernel
theorem dX4_age_37 : decode cX4_age 37 = .ok (.invokestatic 93, 3) := by decide +kernel
theorem dX4_age_40 : decode cX4_age 40 = .ok (.aload_n 0, 1) := by decide +kernel
theorem dX4_age_41 : decode cX4_age 41 = .ok (.iload_n 1, 1) := by decide +kernel
theorem dX4_age_42 : decode cX4_age 42 = .ok (.iconst 1, 1) := by decide +kernel
theorem dX4_age_43 : decode cX4_age 43 = .ok (.invokevirtual 108, 3) := by decide +kernel
theorem dX4_age_46 : decode cX4_age 46 = .ok (.aload_n 0, 1) := by decide +kernel
theorem dX4_age_47 : decode cX4_age 47 = .ok (.getfield 28, 3) := by decide +kernel
theorem dX4_age_50 : decode cX4_age 50 = .ok (.iload_n 1, 1) := by decide +kernel
theorem dX4_age_51 : decode cX4_age 51 = .ok (.iaload, 1) := by decide +kernel
theorem dX4_age_52 : decode cX4_age 52 = .ok (.iadd, 1) := by decide +kernel
theorem dX4_age_53 : decode cX4_age 53 = .ok (.invokestatic 111, 3) := by decide +kernel
theorem dX4_age_56 : decode cX4_age 56 = .ok (.iastore, 1) := by decide +kernel
theorem dX4_age_57 : decode cX4_age 57 = .ok (.aload_n 0, 1) := by decide +kernel
theorem dX4_age_58 : decode cX4_age 58 = .ok (.getfield 9, 3) := by decide +kernel
theorem dX4_age_61 : decode cX4_age 61 = .ok (.iload_n 1, 1) := by decide +kernel
theorem dX4_age_62 : decode cX4_age 62 = .ok (.iconst 3, 1) := by decide +kernel
theorem dX4_age_63 : decode cX4_age 63 = .ok (.invokestatic 93, 3) := by decide +kernel
theorem dX4_age_66 : decode cX4_age 66 = .ok (.aload_n 0, 1) := by decide +kernel
theorem dX4_age_67 : decode cX4_age 67 = .ok (.iload_n 1, 1) := by decide +kernel
theorem dX4_age_68 : decode cX4_age 68 = .ok (.iconst 3, 1) := by decide +kernel
theorem dX4_age_69 : decode cX4_age 69 = .ok (.invokevirtual 108, 3) := by decide +kernel
theorem dX4_age_72 : decode cX4_age 72 = .ok (.aload_n 0, 1) := by decide +kernel
theorem dX4_age_73 : decode cX4_age 73 = .ok (.getfield 31, 3) := by decide +kernel
theorem dX4_age_76 : decode cX4_age 76 = .ok (.iload_n 1, 1) := by decide +kernel
theorem dX4_age_77 : decode cX4_age 77 = .ok (.iaload, 1) := by decide +kernel
theorem dX4_age_78 : decode cX4_age 78 = .ok (.iadd, 1) := by decide +kernel
theorem dX4_age_79 : decode cX4_age 79 = .ok (.iconst 4, 1) := by decide +kernel
theorem dX4_age_80 : decode cX4_age 80 = .ok (.irem, 1) := by decide +kernel
theorem dX4_age_81 : decode cX4_age 81 = .ok (.iastore, 1) := by decide +kernel
theorem dX4_age_82 : decode cX4_age 82 = .ok (.aload_n 0, 1) := by decide +kernel
theorem dX4_age_83 : decode cX4_age 83 = .ok (.getfield 9, 3) := by decide +kernel
theorem dX4_age_86 : decode cX4_age 86 = .ok (.iload_n 1, 1) := by decide +kernel
theorem dX4_age_87 : decode cX4_age 87 = .ok (.iconst 4, 1) := by decide +kernel
theorem dX4_age_88 : decode cX4_age 88 = .ok (.invokestatic 93, 3) := by decide +kernel
theorem dX4_age_91 : decode cX4_age 91 = .ok (.iload_n 2, 1) := by decide +kernel
theorem dX4_age_92 : decode cX4_age 92 = .ok (.ifCond .eq 23, 3) := by decide +kernel
theorem dX4_age_95 : decode cX4_age 95 = .ok (.iconst 0, 1) := by decide +kernel
theorem dX4_age_96 : decode cX4_age 96 = .ok (.aload_n 0, 1) := by decide +kernel
theorem dX4_age_97 : decode cX4_age 97 = .ok (.iload_n 1, 1) := by decide +kernel
theorem dX4_age_98 : decode cX4_age 98 = .ok (.iconst 4, 1) := by decide +kernel
theorem dX4_age_99 : decode cX4_age 99 = .ok (.invokevirtual 108, 3) := by decide +kernel
theorem dX4_age_102 : decode cX4_age 102 = .ok (.aload_n 0, 1) := by decide +kernel
theorem dX4_age_103 : decode cX4_age 103 = .ok (.getfield 34, 3) := by decide +kernel
theorem dX4_age_106 : decode cX4_age 106 = .ok (.iload_n 1, 1) := by decide +kernel
theorem dX4_age_107 : decode cX4_age 107 = .ok (.iaload, 1) := by decide +kernel
theorem dX4_age_108 : decode cX4_age 108 = .ok (.isub, 1) := by decide +kernel
theorem dX4_age_109 : decode cX4_age 109 = .ok (.invokestatic 148, 3) := by decide +kernel
theorem dX4_age_112 : decode cX4_age 112 = .ok (.goto 16, 3) := by decide +kernel
theorem dX4_age_115 : decode cX4_age 115 = .ok (.bipush 99, 2) := by decide +kernel
theorem dX4_age_117 : decode cX4_age 117 = .ok (.aload_n 0, 1) := by decide +kernel
theorem dX4_age_118 : decode cX4_age 118 = .ok (.iload_n 1, 1) := by decide +kernel
theorem dX4_age_119 : decode cX4_age 119 = .ok (.iconst 4, 1) := by decide +kernel
theorem dX4_age_120 : decode cX4_age 120 = .ok (.invokevirtual 108, 3) := by decide +kernel
theorem dX4_age_123 : decode cX4_age 123 = .ok (.iconst 1, 1) := by decide +kernel
theorem dX4_age_124 : decode cX4_age 124 = .ok (.iadd, 1) := by decide +kernel
theorem dX4_age_125 : decode cX4_age 125 = .ok (.invokestatic 159, 3) := by decide +kernel
theorem dX4_age_128 : decode cX4_age 128 = .ok (.iastore, 1) := by decide +kernel
theorem dX4_age_129 : decode cX4_age 129 = .ok (.aload_n 0, 1) := by decide +kernel
theorem dX4_age_130 : decode cX4_age 130 = .ok (.getfield 9, 3) := by decide +kernel
theorem dX4_age_133 : decode cX4_age 133 = .ok (.iload_n 1, 1) := by decide +kernel
theorem dX4_age_134 : decode cX4_age 134 = .ok (.iconst 5, 1) := by decide +kernel
theorem dX4_age_135 : decode cX4_age 135 = .ok (.invokestatic 93, 3) := by decide +kernel
theorem dX4_age_138 : decode cX4_age 138 = .ok (.iload_n 2, 1) := by decide +kernel
theorem dX4_age_139 : decode cX4_age 139 = .ok (.ifCond .eq 20, 3) := by decide +kernel
theorem dX4_age_142 : decode cX4_age 142 = .ok (.sipush 9999, 3) := by decide +kernel
theorem dX4_age_145 : decode cX4_age 145 = .ok (.aload_n 0, 1) := by decide +kernel
theorem dX4_age_146 : decode cX4_age 146 = .ok (.iload_n 1, 1) := by decide +kernel
theorem dX4_age_147 : decode cX4_age 147 = .ok (.iconst 5, 1) := by decide +kernel
theorem dX4_age_148 : decode cX4_age 148 = .ok (.invokevirtual 108, 3) := by decide +kernel
theorem dX4_age_151 : decode cX4_age 151 = .ok (.iconst 1, 1) := by decide +kernel
theorem dX4_age_152 : decode cX4_age 152 = .ok (.iadd, 1) := by decide +kernel
theorem dX4_age_153 : decode cX4_age 153 = .ok (.invokestatic 159, 3) := by decide +kernel
theorem dX4_age_156 : decode cX4_age 156 = .ok (.goto 9, 3) := by decide +kernel
theorem dX4_age_159 : decode cX4_age 159 = .ok (.aload_n 0, 1) := by decide +kernel
theorem dX4_age_160 : decode cX4_age 160 = .ok (.iload_n 1, 1) := by decide +kernel
theorem dX4_age_161 : decode cX4_age 161 = .ok (.iconst 5, 1) := by decide +kernel
theorem dX4_age_162 : decode cX4_age 162 = .ok (.invokevirtual 108, 3) := by decide +kernel
theorem dX4_age_165 : decode cX4_age 165 = .ok (.iastore, 1) := by decide +kernel
theorem dX4_age_166 : decode cX4_age 166 = .ok (.iinc 1 1, 3) := by decide +kernel
theorem dX4_age_169 : decode cX4_age 169 = .ok (.goto (-163), 3) := by decide +kernel
theorem dX4_age_172 : decode cX4_age 172 = .ok (.aload_n 0, 1) := by decide +kernel
theorem dX4_age_173 : decode cX4_age 173 = .ok (.getfield 9, 3) := by decide +kernel
theorem dX4_age_176 : decode cX4_age 176 = .ok (.iconst 0, 1) := by decide +kernel
theorem dX4_age_177 : decode cX4_age 177 = .ok (.dup2, 1) := by decide +kernel
theorem dX4_age_178 : decode cX4_age 178 = .ok (.iaload, 1) := by decide +kernel
theorem dX4_age_179 : decode cX4_age 179 = .ok (.iconst 1, 1) := by decide +kernel
theorem dX4_age_180 : decode cX4_age 180 = .ok (.iadd, 1) := by decide +kernel
theorem dX4_age_181 : decode cX4_age 181 = .ok (.iastore, 1) := by decide +kernel
theorem dX4_age_182 : decode cX4_age 182 = .ok (.return_, 1) := by decide +kernel
theorem dX4_ages_0 : decode cX4_ages 0 = .ok (.iconst 0, 1) := by decide +kernel
theorem dX4_ages_1 : decode cX4_ages 1 = .ok (.istore_n 2, 1) := by decide +kernel
theorem dX4_ages_2 : decode cX4_ages 2 = .ok (.iload_n 2, 1) := by decide +kernel
theorem dX4_ages_3 : decode cX4_ages 3 = .ok (.iload_n 1, 1) := by decide +kernel
theorem dX4_ages_4 : decode cX4_ages 4 = .ok (.if_icmp .ge 13, 3) := by decide +kernel
theorem dX4_ages_7 : decode cX4_ages 7 = .ok (.aload_n 0, 1) := by decide +kernel
theorem dX4_ages_8 : decode cX4_ages 8 = .ok (.invokevirtual 162, 3) := by decide +kernel
theorem dX4_ages_11 : decode cX4_ages 11 = .ok (.iinc 2 1, 3) := by decide +kernel
theorem dX4_ages_14 : decode cX4_ages 14 = .ok (.goto (-12), 3) := by decide +kernel
theorem dX4_ages_17 : decode cX4_ages 17 = .ok (.return_, 1) := by decide +kernel
theorem dX4_whoMeets_0 : decode cX4_whoMeets 0 = .ok (.iconst 0, 1) := by decide +kernel
theorem dX4_whoMeets_1 : decode cX4_whoMeets 1 = .ok (.istore_n 1, 1) := by decide +kernel
theorem dX4_whoMeets_2 : decode cX4_whoMeets 2 = .ok (.iconst 0, 1) := by decide +kernel
theorem dX4_whoMeets_3 : decode cX4_whoMeets 3 = .ok (.istore_n 2, 1) := by decide +kernel
theorem dX4_whoMeets_4 : decode cX4_whoMeets 4 = .ok (.iload_n 2, 1) := by decide +kernel
theorem dX4_whoMeets_5 : decode cX4_whoMeets 5 = .ok (.aload_n 0, 1) := by decide +kernel
theorem dX4_whoMeets_6 : decode cX4_whoMeets 6 = .ok (.getfield 9, 3) := by decide +kernel
theorem dX4_whoMeets_9 : decode cX4_whoMeets 9 = .ok (.iconst 1, 1) := by decide +kernel
theorem dX4_whoMeets_10 : decode cX4_whoMeets 10 = .ok (.iaload, 1) := by decide +kernel
theorem dX4_whoMeets_11 : decode cX4_whoMeets 11 = .ok (.if_icmp .ge 27, 3) := by decide +kernel
theorem dX4_whoMeets_14 : decode cX4_whoMeets 14 = .ok (.iload_n 1, 1) := by decide +kernel
theorem dX4_whoMeets_15 : decode cX4_whoMeets 15 = .ok (.aload_n 0, 1) := by decide +kernel
theorem dX4_whoMeets_16 : decode cX4_whoMeets 16 = .ok (.iload_n 2, 1) := by decide +kernel
theorem dX4_whoMeets_17 : decode cX4_whoMeets 17 = .ok (.invokevirtual 129, 3) := by decide +kernel
theorem dX4_whoMeets_20 : decode cX4_whoMeets 20 = .ok (.ifCond .eq 9, 3) := by decide +kernel
theorem dX4_whoMeets_23 : decode cX4_whoMeets 23 = .ok (.iconst 1, 1) := by decide +kernel
theorem dX4_whoMeets_24 : decode cX4_whoMeets 24 = .ok (.iload_n 2, 1) := by decide +kernel
theorem dX4_whoMeets_25 : decode cX4_whoMeets 25 = .ok (.ishl, 1) := by decide +kernel
theorem dX4_whoMeets_26 : decode cX4_whoMeets 26 = .ok (.goto 4, 3) := by decide +kernel
theorem dX4_whoMeets_29 : decode cX4_whoMeets 29 = .ok (.iconst 0, 1) := by decide +kernel
theorem dX4_whoMeets_30 : decode cX4_whoMeets 30 = .ok (.ior, 1) := by decide +kernel
theorem dX4_whoMeets_31 : decode cX4_whoMeets 31 = .ok (.istore_n 1, 1) := by decide +kernel
theorem dX4_whoMeets_32 : decode cX4_whoMeets 32 = .ok (.iinc 2 1, 3) := by decide +kernel
theorem dX4_whoMeets_35 : decode cX4_whoMeets 35 = .ok (.goto (-31), 3) := by decide +kernel
theorem dX4_whoMeets_38 : decode cX4_whoMeets 38 = .ok (.iload_n 1, 1) := by decide +kernel
theorem dX4_whoMeets_39 : decode cX4_whoMeets 39 = .ok (.ireturn, 1) := by decide +kernel
theorem dX4_go_0 : decode cX4_go 0 = .ok (.iload_n 1, 1) := by decide +kernel
theorem dX4_go_1 : decode cX4_go 1 = .ok (.iconst 1, 1) := by decide +kernel
theorem dX4_go_2 : decode cX4_go 2 = .ok (.bipush 60, 2) := by decide +kernel
theorem dX4_go_4 : decode cX4_go 4 = .ok (.invokestatic 85, 3) := by decide +kernel
theorem dX4_go_7 : decode cX4_go 7 = .ok (.ifCond .ne 10, 3) := by decide +kernel
theorem dX4_go_10 : decode cX4_go 10 = .ok (.aload_n 0, 1) := by decide +kernel
theorem dX4_go_11 : decode cX4_go 11 = .ok (.ldc 75, 2) := by decide +kernel
theorem dX4_go_13 : decode cX4_go 13 = .ok (.invokevirtual 81, 3) := by decide +kernel
theorem dX4_go_16 : decode cX4_go 16 = .ok (.ireturn, 1) := by decide +kernel
theorem dX4_go_17 : decode cX4_go 17 = .ok (.aload_n 0, 1) := by decide +kernel
theorem dX4_go_18 : decode cX4_go 18 = .ok (.getfield 9, 3) := by decide +kernel
theorem dX4_go_21 : decode cX4_go 21 = .ok (.iconst 0, 1) := by decide +kernel
theorem dX4_go_22 : decode cX4_go 22 = .ok (.iaload, 1) := by decide +kernel
theorem dX4_go_23 : decode cX4_go 23 = .ok (.iload_n 1, 1) := by decide +kernel
theorem dX4_go_24 : decode cX4_go 24 = .ok (.iadd, 1) := by decide +kernel
theorem dX4_go_25 : decode cX4_go 25 = .ok (.ldc 165, 2) := by decide +kernel
theorem dX4_go_27 : decode cX4_go 27 = .ok (.if_icmp .le 10, 3) := by decide +kernel
theorem dX4_go_30 : decode cX4_go 30 = .ok (.aload_n 0, 1) := by decide +kernel
theorem dX4_go_31 : decode cX4_go 31 = .ok (.ldc 166, 2) := by decide +kernel
theorem dX4_go_33 : decode cX4_go 33 = .ok (.invokevirtual 81, 3) := by decide +kernel
theorem dX4_go_36 : decode cX4_go 36 = .ok (.ireturn, 1) := by decide +kernel
theorem dX4_go_37 : decode cX4_go 37 = .ok (.aload_n 0, 1) := by decide +kernel
theorem dX4_go_38 : decode cX4_go 38 = .ok (.iload_n 1, 1) := by decide +kernel
theorem dX4_go_39 : decode cX4_go 39 = .ok (.invokevirtual 167, 3) := by decide +kernel
theorem dX4_go_42 : decode cX4_go 42 = .ok (.aload_n 0, 1) := by decide +kernel
theorem dX4_go_43 : decode cX4_go 43 = .ok (.invokevirtual 171, 3) := by decide +kernel
theorem dX4_go_46 : decode cX4_go 46 = .ok (.invokestatic 123, 3) := by decide +kernel
theorem dX4_go_49 : decode cX4_go 49 = .ok (.ireturn, 1) := by decide +kernel
theorem dX4_sumOf_0 : decode cX4_sumOf 0 = .ok (.iconst 0, 1) := by decide +kernel
theorem dX4_sumOf_1 : decode cX4_sumOf 1 = .ok (.istore_n 2, 1) := by decide +kernel
theorem dX4_sumOf_2 : decode cX4_sumOf 2 = .ok (.iconst 0, 1) := by decide +kernel
theorem dX4_sumOf_3 : decode cX4_sumOf 3 = .ok (.istore_n 3, 1) := by decide +kernel
theorem dX4_sumOf_4 : decode cX4_sumOf 4 = .ok (.iload_n 3, 1) := by decide +kernel
theorem dX4_sumOf_5 : decode cX4_sumOf 5 = .ok (.aload_n 0, 1) := by decide +kernel
theorem dX4_sumOf_6 : decode cX4_sumOf 6 = .ok (.getfield 9, 3) := by decide +kernel
theorem dX4_sumOf_9 : decode cX4_sumOf 9 = .ok (.iconst 1, 1) := by decide +kernel
theorem dX4_sumOf_10 : decode cX4_sumOf 10 = .ok (.iaload, 1) := by decide +kernel
theorem dX4_sumOf_11 : decode cX4_sumOf 11 = .ok (.if_icmp .ge 18, 3) := by decide +kernel
theorem dX4_sumOf_14 : decode cX4_sumOf 14 = .ok (.iload_n 2, 1) := by decide +kernel
theorem dX4_sumOf_15 : decode cX4_sumOf 15 = .ok (.aload_n 0, 1) := by decide +kernel
theorem dX4_sumOf_16 : decode cX4_sumOf 16 = .ok (.iload_n 3, 1) := by decide +kernel
theorem dX4_sumOf_17 : decode cX4_sumOf 17 = .ok (.iload_n 1, 1) := by decide +kernel
theorem dX4_sumOf_18 : decode cX4_sumOf 18 = .ok (.invokevirtual 108, 3) := by decide +kernel
theorem dX4_sumOf_21 : decode cX4_sumOf 21 = .ok (.iadd, 1) := by decide +kernel
theorem dX4_sumOf_22 : decode cX4_sumOf 22 = .ok (.istore_n 2, 1) := by decide +kernel
theorem dX4_sumOf_23 : decode cX4_sumOf 23 = .ok (.iinc 3 1, 3) := by decide +kernel
theorem dX4_sumOf_26 : decode cX4_sumOf 26 = .ok (.goto (-22), 3) := by decide +kernel
theorem dX4_sumOf_29 : decode cX4_sumOf 29 = .ok (.iload_n 2, 1) := by decide +kernel
theorem dX4_sumOf_30 : decode cX4_sumOf 30 = .ok (.ireturn, 1) := by decide +kernel
theorem dX4_valleysAt_0 : decode cX4_valleysAt 0 = .ok (.iconst 0, 1) := by decide +kernel
theorem dX4_valleysAt_1 : decode cX4_valleysAt 1 = .ok (.istore_n 1, 1) := by decide +kernel
theorem dX4_valleysAt_2 : decode cX4_valleysAt 2 = .ok (.iconst 0, 1) := by decide +kernel
theorem dX4_valleysAt_3 : decode cX4_valleysAt 3 = .ok (.istore_n 2, 1) := by decide +kernel
theorem dX4_valleysAt_4 : decode cX4_valleysAt 4 = .ok (.iload_n 2, 1) := by decide +kernel
theorem dX4_valleysAt_5 : decode cX4_valleysAt 5 = .ok (.aload_n 0, 1) := by decide +kernel
theorem dX4_valleysAt_6 : decode cX4_valleysAt 6 = .ok (.getfield 9, 3) := by decide +kernel
theorem dX4_valleysAt_9 : decode cX4_valleysAt 9 = .ok (.iconst 1, 1) := by decide +kernel
theorem dX4_valleysAt_10 : decode cX4_valleysAt 10 = .ok (.iaload, 1) := by decide +kernel
theorem dX4_valleysAt_11 : decode cX4_valleysAt 11 = .ok (.if_icmp .ge 20, 3) := by decide +kernel
theorem dX4_valleysAt_14 : decode cX4_valleysAt 14 = .ok (.iload_n 1, 1) := by decide +kernel
theorem dX4_valleysAt_15 : decode cX4_valleysAt 15 = .ok (.iconst 1, 1) := by decide +kernel
theorem dX4_valleysAt_16 : decode cX4_valleysAt 16 = .ok (.aload_n 0, 1) := by decide +kernel
theorem dX4_valleysAt_17 : decode cX4_valleysAt 17 = .ok (.iload_n 2, 1) := by decide +kernel
theorem dX4_valleysAt_18 : decode cX4_valleysAt 18 = .ok (.iconst 1, 1) := by decide +kernel
theorem dX4_valleysAt_19 : decode cX4_valleysAt 19 = .ok (.invokevirtual 108, 3) := by decide +kernel
theorem dX4_valleysAt_22 : decode cX4_valleysAt 22 = .ok (.ishl, 1) := by decide +kernel
theorem dX4_valleysAt_23 : decode cX4_valleysAt 23 = .ok (.ior, 1) := by decide +kernel
theorem dX4_valleysAt_24 : decode cX4_valleysAt 24 = .ok (.istore_n 1, 1) := by decide +kernel
theorem dX4_valleysAt_25 : decode cX4_valleysAt 25 = .ok (.iinc 2 1, 3) := by decide +kernel
theorem dX4_valleysAt_28 : decode cX4_valleysAt 28 = .ok (.goto (-24), 3) := by decide +kernel
theorem dX4_valleysAt_31 : decode cX4_valleysAt 31 = .ok (.iload_n 1, 1) := by decide +kernel
theorem dX4_valleysAt_32 : decode cX4_valleysAt 32 = .ok (.ireturn, 1) := by decide +kernel
theorem dX4_valleysFaced_0 : decode cX4_valleysFaced 0 = .ok (.iconst 0, 1) := by decide +kernel
theorem dX4_valleysFaced_1 : decode cX4_valleysFaced 1 = .ok (.istore_n 1, 1) := by decide +kernel
theorem dX4_valleysFaced_2 : decode cX4_valleysFaced 2 = .ok (.iconst 0, 1) := by decide +kernel
theorem dX4_valleysFaced_3 : decode cX4_valleysFaced 3 = .ok (.istore_n 2, 1) := by decide +kernel
theorem dX4_valleysFaced_4 : decode cX4_valleysFaced 4 = .ok (.iload_n 2, 1) := by decide +kernel
theorem dX4_valleysFaced_5 : decode cX4_valleysFaced 5 = .ok (.aload_n 0, 1) := by decide +kernel
theorem dX4_valleysFaced_6 : decode cX4_valleysFaced 6 = .ok (.getfield 9, 3) := by decide +kernel
theorem dX4_valleysFaced_9 : decode cX4_valleysFaced 9 = .ok (.iconst 1, 1) := by decide +kernel
theorem dX4_valleysFaced_10 : decode cX4_valleysFaced 10 = .ok (.iaload, 1) := by decide +kernel
theorem dX4_valleysFaced_11 : decode cX4_valleysFaced 11 = .ok (.if_icmp .ge 19, 3) := by decide +kernel
theorem dX4_valleysFaced_14 : decode cX4_valleysFaced 14 = .ok (.iload_n 1, 1) := by decide +kernel
theorem dX4_valleysFaced_15 : decode cX4_valleysFaced 15 = .ok (.iconst 1, 1) := by decide +kernel
theorem dX4_valleysFaced_16 : decode cX4_valleysFaced 16 = .ok (.aload_n 0, 1) := by decide +kernel
theorem dX4_valleysFaced_17 : decode cX4_valleysFaced 17 = .ok (.iload_n 2, 1) := by decide +kernel
theorem dX4_valleysFaced_18 : decode cX4_valleysFaced 18 = .ok (.invokevirtual 114, 3) := by decide +kernel
theorem dX4_valleysFaced_21 : decode cX4_valleysFaced 21 = .ok (.ishl, 1) := by decide +kernel
theorem dX4_valleysFaced_22 : decode cX4_valleysFaced 22 = .ok (.ior, 1) := by decide +kernel
theorem dX4_valleysFaced_23 : decode cX4_valleysFaced 23 = .ok (.istore_n 1, 1) := by decide +kernel
theorem dX4_valleysFaced_24 : decode cX4_valleysFaced 24 = .ok (.iinc 2 1, 3) := by decide +kernel
theorem dX4_valleysFaced_27 : decode cX4_valleysFaced 27 = .ok (.goto (-23), 3) := by decide +kernel
theorem dX4_valleysFaced_30 : decode cX4_valleysFaced 30 = .ok (.iload_n 1, 1) := by decide +kernel
theorem dX4_valleysFaced_31 : decode cX4_valleysFaced 31 = .ok (.ireturn, 1) := by decide +kernel
theorem dX4_now_0 : decode cX4_now 0 = .ok (.iload_n 1, 1) := by decide +kernel
theorem dX4_now_1 : decode cX4_now 1 = .ok (.tableswitch 73 0 5 #[39, 46, 52, 57, 62, 67], 39) := by decide +kernel
theorem dX4_now_40 : decode cX4_now 40 = .ok (.aload_n 0, 1) := by decide +kernel
theorem dX4_now_41 : decode cX4_now 41 = .ok (.getfield 9, 3) := by decide +kernel
theorem dX4_now_44 : decode cX4_now 44 = .ok (.iconst 0, 1) := by decide +kernel
theorem dX4_now_45 : decode cX4_now 45 = .ok (.iaload, 1) := by decide +kernel
theorem dX4_now_46 : decode cX4_now 46 = .ok (.ireturn, 1) := by decide +kernel
theorem dX4_now_47 : decode cX4_now 47 = .ok (.aload_n 0, 1) := by decide +kernel
theorem dX4_now_48 : decode cX4_now 48 = .ok (.iconst 4, 1) := by decide +kernel
theorem dX4_now_49 : decode cX4_now 49 = .ok (.invokevirtual 175, 3) := by decide +kernel
theorem dX4_now_52 : decode cX4_now 52 = .ok (.ireturn, 1) := by decide +kernel
theorem dX4_now_53 : decode cX4_now 53 = .ok (.aload_n 0, 1) := by decide +kernel
theorem dX4_now_54 : decode cX4_now 54 = .ok (.invokevirtual 171, 3) := by decide +kernel
theorem dX4_now_57 : decode cX4_now 57 = .ok (.ireturn, 1) := by decide +kernel
theorem dX4_now_58 : decode cX4_now 58 = .ok (.aload_n 0, 1) := by decide +kernel
theorem dX4_now_59 : decode cX4_now 59 = .ok (.invokevirtual 178, 3) := by decide +kernel
theorem dX4_now_62 : decode cX4_now 62 = .ok (.ireturn, 1) := by decide +kernel
theorem dX4_now_63 : decode cX4_now 63 = .ok (.aload_n 0, 1) := by decide +kernel
theorem dX4_now_64 : decode cX4_now 64 = .ok (.invokevirtual 181, 3) := by decide +kernel
theorem dX4_now_67 : decode cX4_now 67 = .ok (.ireturn, 1) := by decide +kernel
theorem dX4_now_68 : decode cX4_now 68 = .ok (.aload_n 0, 1) := by decide +kernel
theorem dX4_now_69 : decode cX4_now 69 = .ok (.iconst 5, 1) := by decide +kernel
theorem dX4_now_70 : decode cX4_now 70 = .ok (.invokevirtual 175, 3) := by decide +kernel
theorem dX4_now_73 : decode cX4_now 73 = .ok (.ireturn, 1) := by decide +kernel
theorem dX4_now_74 : decode cX4_now 74 = .ok (.aload_n 0, 1) := by decide +kernel
theorem dX4_now_75 : decode cX4_now 75 = .ok (.ldc 75, 2) := by decide +kernel
theorem dX4_now_77 : decode cX4_now 77 = .ok (.invokevirtual 81, 3) := by decide +kernel
theorem dX4_now_80 : decode cX4_now 80 = .ok (.ireturn, 1) := by decide +kernel
theorem dX4_ahead_0 : decode cX4_ahead 0 = .ok (.aload_n 0, 1) := by decide +kernel
theorem dX4_ahead_1 : decode cX4_ahead 1 = .ok (.iload_n 1, 1) := by decide +kernel
theorem dX4_ahead_2 : decode cX4_ahead 2 = .ok (.invokevirtual 135, 3) := by decide +kernel
theorem dX4_ahead_5 : decode cX4_ahead 5 = .ok (.ifCond .eq 28, 3) := by decide +kernel
theorem dX4_ahead_8 : decode cX4_ahead 8 = .ok (.iload_n 2, 1) := by decide +kernel
theorem dX4_ahead_9 : decode cX4_ahead 9 = .ok (.iconst 1, 1) := by decide +kernel
theorem dX4_ahead_10 : decode cX4_ahead 10 = .ok (.if_icmp .eq 13, 3) := by decide +kernel
theorem dX4_ahead_13 : decode cX4_ahead 13 = .ok (.iload_n 2, 1) := by decide +kernel
theorem dX4_ahead_14 : decode cX4_ahead 14 = .ok (.iconst 3, 1) := by decide +kernel
theorem dX4_ahead_15 : decode cX4_ahead 15 = .ok (.bipush 6, 2) := by decide +kernel
theorem dX4_ahead_17 : decode cX4_ahead 17 = .ok (.invokestatic 85, 3) := by decide +kernel
theorem dX4_ahead_20 : decode cX4_ahead 20 = .ok (.ifCond .eq 13, 3) := by decide +kernel
theorem dX4_ahead_23 : decode cX4_ahead 23 = .ok (.iload_n 3, 1) := by decide +kernel
theorem dX4_ahead_24 : decode cX4_ahead 24 = .ok (.iconst 0, 1) := by decide +kernel
theorem dX4_ahead_25 : decode cX4_ahead 25 = .ok (.bipush 100, 2) := by decide +kernel
theorem dX4_ahead_27 : decode cX4_ahead 27 = .ok (.invokestatic 85, 3) := by decide +kernel
theorem dX4_ahead_30 : decode cX4_ahead 30 = .ok (.ifCond .ne 10, 3) := by decide +kernel
theorem dX4_ahead_33 : decode cX4_ahead 33 = .ok (.aload_n 0, 1) := by decide +kernel
theorem dX4_ahead_34 : decode cX4_ahead 34 = .ok (.ldc 75, 2) := by decide +kernel
theorem dX4_ahead_36 : decode cX4_ahead 36 = .ok (.invokevirtual 81, 3) := by decide +kernel
theorem dX4_ahead_39 : decode cX4_ahead 39 = .ok (.ireturn, 1) := by decide +kernel
theorem dX4_ahead_40 : decode cX4_ahead 40 = .ok (.aload_n 0, 1) := by decide +kernel
theorem dX4_ahead_41 : decode cX4_ahead 41 = .ok (.getfield 9, 3) := by decide +kernel
theorem dX4_ahead_44 : decode cX4_ahead 44 = .ok (.aload_n 0, 1) := by decide +kernel
theorem dX4_ahead_45 : decode cX4_ahead 45 = .ok (.getfield 16, 3) := by decide +kernel
theorem dX4_ahead_48 : decode cX4_ahead 48 = .ok (.invokestatic 76, 3) := by decide +kernel
theorem dX4_ahead_51 : decode cX4_ahead 51 = .ok (.aload_n 0, 1) := by decide +kernel
theorem dX4_ahead_52 : decode cX4_ahead 52 = .ok (.iload_n 3, 1) := by decide +kernel
theorem dX4_ahead_53 : decode cX4_ahead 53 = .ok (.invokevirtual 167, 3) := by decide +kernel
theorem dX4_ahead_56 : decode cX4_ahead 56 = .ok (.aload_n 0, 1) := by decide +kernel
theorem dX4_ahead_57 : decode cX4_ahead 57 = .ok (.iload_n 2, 1) := by decide +kernel
theorem dX4_ahead_58 : decode cX4_ahead 58 = .ok (.bipush 6, 2) := by decide +kernel
theorem dX4_ahead_60 : decode cX4_ahead 60 = .ok (.if_icmp .ne 11, 3) := by decide +kernel
theorem dX4_ahead_63 : decode cX4_ahead 63 = .ok (.aload_n 0, 1) := by decide +kernel
theorem dX4_ahead_64 : decode cX4_ahead 64 = .ok (.iload_n 1, 1) := by decide +kernel
theorem dX4_ahead_65 : decode cX4_ahead 65 = .ok (.invokevirtual 114, 3) := by decide +kernel
theorem dX4_ahead_68 : decode cX4_ahead 68 = .ok (.goto 9, 3) := by decide +kernel
theorem dX4_ahead_71 : decode cX4_ahead 71 = .ok (.aload_n 0, 1) := by decide +kernel
theorem dX4_ahead_72 : decode cX4_ahead 72 = .ok (.iload_n 1, 1) := by decide +kernel
theorem dX4_ahead_73 : decode cX4_ahead 73 = .ok (.iload_n 2, 1) := by decide +kernel
theorem dX4_ahead_74 : decode cX4_ahead 74 = .ok (.invokevirtual 108, 3) := by decide +kernel
theorem dX4_ahead_77 : decode cX4_ahead 77 = .ok (.invokevirtual 184, 3) := by decide +kernel
theorem dX4_ahead_80 : decode cX4_ahead 80 = .ok (.ireturn, 1) := by decide +kernel
theorem dX4_when_0 : decode cX4_when 0 = .ok (.aload_n 0, 1) := by decide +kernel
theorem dX4_when_1 : decode cX4_when 1 = .ok (.iload_n 1, 1) := by decide +kernel
theorem dX4_when_2 : decode cX4_when 2 = .ok (.invokevirtual 135, 3) := by decide +kernel
theorem dX4_when_5 : decode cX4_when 5 = .ok (.ifCond .eq 10, 3) := by decide +kernel
theorem dX4_when_8 : decode cX4_when 8 = .ok (.iload_n 2, 1) := by decide +kernel
theorem dX4_when_9 : decode cX4_when 9 = .ok (.invokestatic 100, 3) := by decide +kernel
theorem dX4_when_12 : decode cX4_when 12 = .ok (.ifCond .ne 10, 3) := by decide +kernel
theorem dX4_when_15 : decode cX4_when 15 = .ok (.aload_n 0, 1) := by decide +kernel
theorem dX4_when_16 : decode cX4_when 16 = .ok (.ldc 75, 2) := by decide +kernel
theorem dX4_when_18 : decode cX4_when 18 = .ok (.invokevirtual 81, 3) := by decide +kernel
theorem dX4_when_21 : decode cX4_when 21 = .ok (.ireturn, 1) := by decide +kernel
theorem dX4_when_22 : decode cX4_when 22 = .ok (.aload_n 0, 1) := by decide +kernel
theorem dX4_when_23 : decode cX4_when 23 = .ok (.getfield 9, 3) := by decide +kernel
theorem dX4_when_26 : decode cX4_when 26 = .ok (.aload_n 0, 1) := by decide +kernel
theorem dX4_when_27 : decode cX4_when 27 = .ok (.getfield 16, 3) := by decide +kernel
theorem dX4_when_30 : decode cX4_when 30 = .ok (.invokestatic 76, 3) := by decide +kernel
theorem dX4_when_33 : decode cX4_when 33 = .ok (.iconst 0, 1) := by decide +kernel
theorem dX4_when_34 : decode cX4_when 34 = .ok (.istore_n 3, 1) := by decide +kernel
theorem dX4_when_35 : decode cX4_when 35 = .ok (.iload_n 3, 1) := by decide +kernel
theorem dX4_when_36 : decode cX4_when 36 = .ok (.sipush 200, 3) := by decide +kernel
theorem dX4_when_39 : decode cX4_when 39 = .ok (.if_icmp .ge 22, 3) := by decide +kernel
theorem dX4_when_42 : decode cX4_when 42 = .ok (.aload_n 0, 1) := by decide +kernel
theorem dX4_when_43 : decode cX4_when 43 = .ok (.iload_n 1, 1) := by decide +kernel
theorem dX4_when_44 : decode cX4_when 44 = .ok (.invokevirtual 114, 3) := by decide +kernel
theorem dX4_when_47 : decode cX4_when 47 = .ok (.iload_n 2, 1) := by decide +kernel
theorem dX4_when_48 : decode cX4_when 48 = .ok (.if_icmp .eq 13, 3) := by decide +kernel
theorem dX4_when_51 : decode cX4_when 51 = .ok (.aload_n 0, 1) := by decide +kernel
theorem dX4_when_52 : decode cX4_when 52 = .ok (.invokevirtual 162, 3) := by decide +kernel
theorem dX4_when_55 : decode cX4_when 55 = .ok (.iinc 3 1, 3) := by decide +kernel
theorem dX4_when_58 : decode cX4_when 58 = .ok (.goto (-23), 3) := by decide +kernel
theorem dX4_when_61 : decode cX4_when 61 = .ok (.aload_n 0, 1) := by decide +kernel
theorem dX4_when_62 : decode cX4_when 62 = .ok (.aload_n 0, 1) := by decide +kernel
theorem dX4_when_63 : decode cX4_when 63 = .ok (.aload_n 0, 1) := by decide +kernel
theorem dX4_when_64 : decode cX4_when 64 = .ok (.iload_n 1, 1) := by decide +kernel
theorem dX4_when_65 : decode cX4_when 65 = .ok (.invokevirtual 114, 3) := by decide +kernel
theorem dX4_when_68 : decode cX4_when 68 = .ok (.iload_n 2, 1) := by decide +kernel
theorem dX4_when_69 : decode cX4_when 69 = .ok (.if_icmp .ne 7, 3) := by decide +kernel
theorem dX4_when_72 : decode cX4_when 72 = .ok (.iload_n 3, 1) := by decide +kernel
theorem dX4_when_73 : decode cX4_when 73 = .ok (.goto 4, 3) := by decide +kernel
theorem dX4_when_76 : decode cX4_when 76 = .ok (.iconst (-1), 1) := by decide +kernel
theorem dX4_when_77 : decode cX4_when 77 = .ok (.invokevirtual 184, 3) := by decide +kernel
theorem dX4_when_80 : decode cX4_when 80 = .ok (.invokevirtual 187, 3) := by decide +kernel
theorem dX4_when_83 : decode cX4_when 83 = .ok (.ireturn, 1) := by decide +kernel
theorem dX4_areTwo_0 : decode cX4_areTwo 0 = .ok (.aload_n 0, 1) := by decide +kernel
theorem dX4_areTwo_1 : decode cX4_areTwo 1 = .ok (.iload_n 1, 1) := by decide +kernel
theorem dX4_areTwo_2 : decode cX4_areTwo 2 = .ok (.invokevirtual 135, 3) := by decide +kernel
theorem dX4_areTwo_5 : decode cX4_areTwo 5 = .ok (.ifCond .eq 20, 3) := by decide +kernel
theorem dX4_areTwo_8 : decode cX4_areTwo 8 = .ok (.aload_n 0, 1) := by decide +kernel
theorem dX4_areTwo_9 : decode cX4_areTwo 9 = .ok (.iload_n 2, 1) := by decide +kernel
theorem dX4_areTwo_10 : decode cX4_areTwo 10 = .ok (.invokevirtual 135, 3) := by decide +kernel
theorem dX4_areTwo_13 : decode cX4_areTwo 13 = .ok (.ifCond .eq 12, 3) := by decide +kernel
theorem dX4_areTwo_16 : decode cX4_areTwo 16 = .ok (.iload_n 1, 1) := by decide +kernel
theorem dX4_areTwo_17 : decode cX4_areTwo 17 = .ok (.iload_n 2, 1) := by decide +kernel
theorem dX4_areTwo_18 : decode cX4_areTwo 18 = .ok (.if_icmp .eq 7, 3) := by decide +kernel
theorem dX4_areTwo_21 : decode cX4_areTwo 21 = .ok (.iconst 1, 1) := by decide +kernel
theorem dX4_areTwo_22 : decode cX4_areTwo 22 = .ok (.goto 4, 3) := by decide +kernel
theorem dX4_areTwo_25 : decode cX4_areTwo 25 = .ok (.iconst 0, 1) := by decide +kernel
theorem dX4_areTwo_26 : decode cX4_areTwo 26 = .ok (.ireturn, 1) := by decide +kernel
theorem dX4_doMeet_0 : decode cX4_doMeet 0 = .ok (.aload_n 0, 1) := by decide +kernel
theorem dX4_doMeet_1 : decode cX4_doMeet 1 = .ok (.iload_n 1, 1) := by decide +kernel
theorem dX4_doMeet_2 : decode cX4_doMeet 2 = .ok (.invokevirtual 114, 3) := by decide +kernel
theorem dX4_doMeet_5 : decode cX4_doMeet 5 = .ok (.aload_n 0, 1) := by decide +kernel
theorem dX4_doMeet_6 : decode cX4_doMeet 6 = .ok (.iload_n 2, 1) := by decide +kernel
theorem dX4_doMeet_7 : decode cX4_doMeet 7 = .ok (.iconst 1, 1) := by decide +kernel
theorem dX4_doMeet_8 : decode cX4_doMeet 8 = .ok (.invokevirtual 108, 3) := by decide +kernel
theorem dX4_doMeet_11 : decode cX4_doMeet 11 = .ok (.if_icmp .ne 21, 3) := by decide +kernel
theorem dX4_doMeet_14 : decode cX4_doMeet 14 = .ok (.aload_n 0, 1) := by decide +kernel
theorem dX4_doMeet_15 : decode cX4_doMeet 15 = .ok (.iload_n 2, 1) := by decide +kernel
theorem dX4_doMeet_16 : decode cX4_doMeet 16 = .ok (.invokevirtual 114, 3) := by decide +kernel
theorem dX4_doMeet_19 : decode cX4_doMeet 19 = .ok (.aload_n 0, 1) := by decide +kernel
theorem dX4_doMeet_20 : decode cX4_doMeet 20 = .ok (.iload_n 1, 1) := by decide +kernel
theorem dX4_doMeet_21 : decode cX4_doMeet 21 = .ok (.iconst 1, 1) := by decide +kernel
theorem dX4_doMeet_22 : decode cX4_doMeet 22 = .ok (.invokevirtual 108, 3) := by decide +kernel
theorem dX4_doMeet_25 : decode cX4_doMeet 25 = .ok (.if_icmp .ne 7, 3) := by decide +kernel
theorem dX4_doMeet_28 : decode cX4_doMeet 28 = .ok (.iconst 1, 1) := by decide +kernel
theorem dX4_doMeet_29 : decode cX4_doMeet 29 = .ok (.goto 4, 3) := by decide +kernel
theorem dX4_doMeet_32 : decode cX4_doMeet 32 = .ok (.iconst 0, 1) := by decide +kernel
theorem dX4_doMeet_33 : decode cX4_doMeet 33 = .ok (.ireturn, 1) := by decide +kernel
theorem dX4_meetIn_0 : decode cX4_meetIn 0 = .ok (.aload_n 0, 1) := by decide +kernel
theorem dX4_meetIn_1 : decode cX4_meetIn 1 = .ok (.getfield 9, 3) := by decide +kernel
theorem dX4_meetIn_4 : decode cX4_meetIn 4 = .ok (.aload_n 0, 1) := by decide +kernel
theorem dX4_meetIn_5 : decode cX4_meetIn 5 = .ok (.getfield 16, 3) := by decide +kernel
theorem dX4_meetIn_8 : decode cX4_meetIn 8 = .ok (.invokestatic 76, 3) := by decide +kernel
theorem dX4_meetIn_11 : decode cX4_meetIn 11 = .ok (.iconst 0, 1) := by decide +kernel
theorem dX4_meetIn_12 : decode cX4_meetIn 12 = .ok (.istore 4, 2) := by decide +kernel
theorem dX4_meetIn_14 : decode cX4_meetIn 14 = .ok (.iload 4, 2) := by decide +kernel
theorem dX4_meetIn_16 : decode cX4_meetIn 16 = .ok (.iload_n 3, 1) := by decide +kernel
theorem dX4_meetIn_17 : decode cX4_meetIn 17 = .ok (.if_icmp .ge 22, 3) := by decide +kernel
theorem dX4_meetIn_20 : decode cX4_meetIn 20 = .ok (.aload_n 0, 1) := by decide +kernel
theorem dX4_meetIn_21 : decode cX4_meetIn 21 = .ok (.iload_n 1, 1) := by decide +kernel
theorem dX4_meetIn_22 : decode cX4_meetIn 22 = .ok (.iload_n 2, 1) := by decide +kernel
theorem dX4_meetIn_23 : decode cX4_meetIn 23 = .ok (.invokevirtual 190, 3) := by decide +kernel
theorem dX4_meetIn_26 : decode cX4_meetIn 26 = .ok (.ifCond .ne 13, 3) := by decide +kernel
theorem dX4_meetIn_29 : decode cX4_meetIn 29 = .ok (.aload_n 0, 1) := by decide +kernel
theorem dX4_meetIn_30 : decode cX4_meetIn 30 = .ok (.invokevirtual 162, 3) := by decide +kernel
theorem dX4_meetIn_33 : decode cX4_meetIn 33 = .ok (.iinc 4 1, 3) := by decide +kernel
theorem dX4_meetIn_36 : decode cX4_meetIn 36 = .ok (.goto (-22), 3) := by decide +kernel
theorem dX4_meetIn_39 : decode cX4_meetIn 39 = .ok (.aload_n 0, 1) := by decide +kernel
theorem dX4_meetIn_40 : decode cX4_meetIn 40 = .ok (.iload 4, 2) := by decide +kernel
theorem dX4_meetIn_42 : decode cX4_meetIn 42 = .ok (.iload_n 3, 1) := by decide +kernel
theorem dX4_meetIn_43 : decode cX4_meetIn 43 = .ok (.if_icmp .ge 8, 3) := by decide +kernel
theorem dX4_meetIn_46 : decode cX4_meetIn 46 = .ok (.iload 4, 2) := by decide +kernel
theorem dX4_meetIn_48 : decode cX4_meetIn 48 = .ok (.goto 4, 3) := by decide +kernel
theorem dX4_meetIn_51 : decode cX4_meetIn 51 = .ok (.iconst (-1), 1) := by decide +kernel
theorem dX4_meetIn_52 : decode cX4_meetIn 52 = .ok (.invokevirtual 184, 3) := by decide +kernel
theorem dX4_meetIn_55 : decode cX4_meetIn 55 = .ok (.ireturn, 1) := by decide +kernel
theorem dX4_meet_0 : decode cX4_meet 0 = .ok (.aload_n 0, 1) := by decide +kernel
theorem dX4_meet_1 : decode cX4_meet 1 = .ok (.iload_n 1, 1) := by decide +kernel
theorem dX4_meet_2 : decode cX4_meet 2 = .ok (.iload_n 2, 1) := by decide +kernel
theorem dX4_meet_3 : decode cX4_meet 3 = .ok (.invokevirtual 193, 3) := by decide +kernel
theorem dX4_meet_6 : decode cX4_meet 6 = .ok (.ifCond .eq 19, 3) := by decide +kernel
theorem dX4_meet_9 : decode cX4_meet 9 = .ok (.aload_n 0, 1) := by decide +kernel
theorem dX4_meet_10 : decode cX4_meet 10 = .ok (.aload_n 0, 1) := by decide +kernel
theorem dX4_meet_11 : decode cX4_meet 11 = .ok (.iload_n 1, 1) := by decide +kernel
theorem dX4_meet_12 : decode cX4_meet 12 = .ok (.iload_n 2, 1) := by decide +kernel
theorem dX4_meet_13 : decode cX4_meet 13 = .ok (.sipush 201, 3) := by decide +kernel
theorem dX4_meet_16 : decode cX4_meet 16 = .ok (.invokevirtual 196, 3) := by decide +kernel
theorem dX4_meet_19 : decode cX4_meet 19 = .ok (.invokevirtual 187, 3) := by decide +kernel
theorem dX4_meet_22 : decode cX4_meet 22 = .ok (.goto 9, 3) := by decide +kernel
theorem dX4_meet_25 : decode cX4_meet 25 = .ok (.aload_n 0, 1) := by decide +kernel
theorem dX4_meet_26 : decode cX4_meet 26 = .ok (.ldc 75, 2) := by decide +kernel
theorem dX4_meet_28 : decode cX4_meet 28 = .ok (.invokevirtual 81, 3) := by decide +kernel
theorem dX4_meet_31 : decode cX4_meet 31 = .ok (.ireturn, 1) := by decide +kernel
theorem dX4_isAsAside_0 : decode cX4_isAsAside 0 = .ok (.iconst 1, 1) := by decide +kernel
theorem dX4_isAsAside_1 : decode cX4_isAsAside 1 = .ok (.istore_n 1, 1) := by decide +kernel
theorem dX4_isAsAside_2 : decode cX4_isAsAside 2 = .ok (.iconst 0, 1) := by decide +kernel
theorem dX4_isAsAside_3 : decode cX4_isAsAside 3 = .ok (.istore_n 2, 1) := by decide +kernel
theorem dX4_isAsAside_4 : decode cX4_isAsAside 4 = .ok (.iload_n 2, 1) := by decide +kernel
theorem dX4_isAsAside_5 : decode cX4_isAsAside 5 = .ok (.aload_n 0, 1) := by decide +kernel
theorem dX4_isAsAside_6 : decode cX4_isAsAside 6 = .ok (.getfield 9, 3) := by decide +kernel
theorem dX4_isAsAside_9 : decode cX4_isAsAside 9 = .ok (.iconst 1, 1) := by decide +kernel
theorem dX4_isAsAside_10 : decode cX4_isAsAside 10 = .ok (.iaload, 1) := by decide +kernel
theorem dX4_isAsAside_11 : decode cX4_isAsAside 11 = .ok (.if_icmp .ge 65, 3) := by decide +kernel
theorem dX4_isAsAside_14 : decode cX4_isAsAside 14 = .ok (.iload_n 1, 1) := by decide +kernel
theorem dX4_isAsAside_15 : decode cX4_isAsAside 15 = .ok (.ifCond .eq 53, 3) := by decide +kernel
theorem dX4_isAsAside_18 : decode cX4_isAsAside 18 = .ok (.aload_n 0, 1) := by decide +kernel
theorem dX4_isAsAside_19 : decode cX4_isAsAside 19 = .ok (.getfield 9, 3) := by decide +kernel
theorem dX4_isAsAside_22 : decode cX4_isAsAside 22 = .ok (.iload_n 2, 1) := by decide +kernel
theorem dX4_isAsAside_23 : decode cX4_isAsAside 23 = .ok (.iconst 1, 1) := by decide +kernel
theorem dX4_isAsAside_24 : decode cX4_isAsAside 24 = .ok (.invokestatic 93, 3) := by decide +kernel
theorem dX4_isAsAside_27 : decode cX4_isAsAside 27 = .ok (.iaload, 1) := by decide +kernel
theorem dX4_isAsAside_28 : decode cX4_isAsAside 28 = .ok (.aload_n 0, 1) := by decide +kernel
theorem dX4_isAsAside_29 : decode cX4_isAsAside 29 = .ok (.getfield 16, 3) := by decide +kernel
theorem dX4_isAsAside_32 : decode cX4_isAsAside 32 = .ok (.iload_n 2, 1) := by decide +kernel
theorem dX4_isAsAside_33 : decode cX4_isAsAside 33 = .ok (.iconst 1, 1) := by decide +kernel
theorem dX4_isAsAside_34 : decode cX4_isAsAside 34 = .ok (.invokestatic 93, 3) := by decide +kernel
theorem dX4_isAsAside_37 : decode cX4_isAsAside 37 = .ok (.iaload, 1) := by decide +kernel
theorem dX4_isAsAside_38 : decode cX4_isAsAside 38 = .ok (.if_icmp .ne 30, 3) := by decide +kernel
theorem dX4_isAsAside_41 : decode cX4_isAsAside 41 = .ok (.aload_n 0, 1) := by decide +kernel
theorem dX4_isAsAside_42 : decode cX4_isAsAside 42 = .ok (.getfield 9, 3) := by decide +kernel
theorem dX4_isAsAside_45 : decode cX4_isAsAside 45 = .ok (.iload_n 2, 1) := by decide +kernel
theorem dX4_isAsAside_46 : decode cX4_isAsAside 46 = .ok (.iconst 3, 1) := by decide +kernel
theorem dX4_isAsAside_47 : decode cX4_isAsAside 47 = .ok (.invokestatic 93, 3) := by decide +kernel
theorem dX4_isAsAside_50 : decode cX4_isAsAside 50 = .ok (.iaload, 1) := by decide +kernel
theorem dX4_isAsAside_51 : decode cX4_isAsAside 51 = .ok (.aload_n 0, 1) := by decide +kernel
theorem dX4_isAsAside_52 : decode cX4_isAsAside 52 = .ok (.getfield 16, 3) := by decide +kernel
theorem dX4_isAsAside_55 : decode cX4_isAsAside 55 = .ok (.iload_n 2, 1) := by decide +kernel
theorem dX4_isAsAside_56 : decode cX4_isAsAside 56 = .ok (.iconst 3, 1) := by decide +kernel
theorem dX4_isAsAside_57 : decode cX4_isAsAside 57 = .ok (.invokestatic 93, 3) := by decide +kernel
theorem dX4_isAsAside_60 : decode cX4_isAsAside 60 = .ok (.iaload, 1) := by decide +kernel
theorem dX4_isAsAside_61 : decode cX4_isAsAside 61 = .ok (.if_icmp .ne 7, 3) := by decide +kernel
theorem dX4_isAsAside_64 : decode cX4_isAsAside 64 = .ok (.iconst 1, 1) := by decide +kernel
theorem dX4_isAsAside_65 : decode cX4_isAsAside 65 = .ok (.goto 4, 3) := by decide +kernel
theorem dX4_isAsAside_68 : decode cX4_isAsAside 68 = .ok (.iconst 0, 1) := by decide +kernel
theorem dX4_isAsAside_69 : decode cX4_isAsAside 69 = .ok (.istore_n 1, 1) := by decide +kernel
theorem dX4_isAsAside_70 : decode cX4_isAsAside 70 = .ok (.iinc 2 1, 3) := by decide +kernel
theorem dX4_isAsAside_73 : decode cX4_isAsAside 73 = .ok (.goto (-69), 3) := by decide +kernel
theorem dX4_isAsAside_76 : decode cX4_isAsAside 76 = .ok (.iload_n 1, 1) := by decide +kernel
theorem dX4_isAsAside_77 : decode cX4_isAsAside 77 = .ok (.ireturn, 1) := by decide +kernel
theorem dX4_round_0 : decode cX4_round 0 = .ok (.aload_n 0, 1) := by decide +kernel
theorem dX4_round_1 : decode cX4_round 1 = .ok (.getfield 9, 3) := by decide +kernel
theorem dX4_round_4 : decode cX4_round 4 = .ok (.aload_n 0, 1) := by decide +kernel
theorem dX4_round_5 : decode cX4_round 5 = .ok (.getfield 16, 3) := by decide +kernel
theorem dX4_round_8 : decode cX4_round 8 = .ok (.invokestatic 76, 3) := by decide +kernel
theorem dX4_round_11 : decode cX4_round 11 = .ok (.aload_n 0, 1) := by decide +kernel
theorem dX4_round_12 : decode cX4_round 12 = .ok (.invokevirtual 162, 3) := by decide +kernel
theorem dX4_round_15 : decode cX4_round 15 = .ok (.iconst 1, 1) := by decide +kernel
theorem dX4_round_16 : decode cX4_round 16 = .ok (.istore_n 1, 1) := by decide +kernel
theorem dX4_round_17 : decode cX4_round 17 = .ok (.iload_n 1, 1) := by decide +kernel
theorem dX4_round_18 : decode cX4_round 18 = .ok (.sipush 300, 3) := by decide +kernel
theorem dX4_round_21 : decode cX4_round 21 = .ok (.if_icmp .ge 20, 3) := by decide +kernel
theorem dX4_round_24 : decode cX4_round 24 = .ok (.aload_n 0, 1) := by decide +kernel
theorem dX4_round_25 : decode cX4_round 25 = .ok (.invokevirtual 200, 3) := by decide +kernel
theorem dX4_round_28 : decode cX4_round 28 = .ok (.ifCond .ne 13, 3) := by decide +kernel
theorem dX4_round_31 : decode cX4_round 31 = .ok (.aload_n 0, 1) := by decide +kernel
theorem dX4_round_32 : decode cX4_round 32 = .ok (.invokevirtual 162, 3) := by decide +kernel
theorem dX4_round_35 : decode cX4_round 35 = .ok (.iinc 1 1, 3) := by decide +kernel
theorem dX4_round_38 : decode cX4_round 38 = .ok (.goto (-21), 3) := by decide +kernel
theorem dX4_round_41 : decode cX4_round 41 = .ok (.aload_n 0, 1) := by decide +kernel
theorem dX4_round_42 : decode cX4_round 42 = .ok (.aload_n 0, 1) := by decide +kernel
theorem dX4_round_43 : decode cX4_round 43 = .ok (.aload_n 0, 1) := by decide +kernel
theorem dX4_round_44 : decode cX4_round 44 = .ok (.invokevirtual 200, 3) := by decide +kernel
theorem dX4_round_47 : decode cX4_round 47 = .ok (.ifCond .eq 7, 3) := by decide +kernel
theorem dX4_round_50 : decode cX4_round 50 = .ok (.iload_n 1, 1) := by decide +kernel
theorem dX4_round_51 : decode cX4_round 51 = .ok (.goto 4, 3) := by decide +kernel
theorem dX4_round_54 : decode cX4_round 54 = .ok (.iconst (-1), 1) := by decide +kernel
theorem dX4_round_55 : decode cX4_round 55 = .ok (.invokevirtual 184, 3) := by decide +kernel
theorem dX4_round_58 : decode cX4_round 58 = .ok (.invokevirtual 187, 3) := by decide +kernel
theorem dX4_round_61 : decode cX4_round 61 = .ok (.ireturn, 1) := by decide +kernel
theorem dX4_isSoon_0 : decode cX4_isSoon 0 = .ok (.iload_n 0, 1) := by decide +kernel
theorem dX4_isSoon_1 : decode cX4_isSoon 1 = .ok (.iconst 0, 1) := by decide +kernel
theorem dX4_isSoon_2 : decode cX4_isSoon 2 = .ok (.sipush 200, 3) := by decide +kernel
theorem dX4_isSoon_5 : decode cX4_isSoon 5 = .ok (.invokestatic 85, 3) := by decide +kernel
theorem dX4_isSoon_8 : decode cX4_isSoon 8 = .ok (.ireturn, 1) := by decide +kernel
theorem dX4_skylines_0 : decode cX4_skylines 0 = .ok (.iload_n 1, 1) := by decide +kernel
theorem dX4_skylines_1 : decode cX4_skylines 1 = .ok (.invokestatic 100, 3) := by decide +kernel
theorem dX4_skylines_4 : decode cX4_skylines 4 = .ok (.ifCond .eq 10, 3) := by decide +kernel
theorem dX4_skylines_7 : decode cX4_skylines 7 = .ok (.iload_n 2, 1) := by decide +kernel
theorem dX4_skylines_8 : decode cX4_skylines 8 = .ok (.invokestatic 204, 3) := by decide +kernel
theorem dX4_skylines_11 : decode cX4_skylines 11 = .ok (.ifCond .ne 10, 3) := by decide +kernel
theorem dX4_skylines_14 : decode cX4_skylines 14 = .ok (.aload_n 0, 1) := by decide +kernel
theorem dX4_skylines_15 : decode cX4_skylines 15 = .ok (.ldc 75, 2) := by decide +kernel
theorem dX4_skylines_17 : decode cX4_skylines 17 = .ok (.invokevirtual 81, 3) := by decide +kernel
theorem dX4_skylines_20 : decode cX4_skylines 20 = .ok (.ireturn, 1) := by decide +kernel
theorem dX4_skylines_21 : decode cX4_skylines 21 = .ok (.aload_n 0, 1) := by decide +kernel
theorem dX4_skylines_22 : decode cX4_skylines 22 = .ok (.getfield 9, 3) := by decide +kernel
theorem dX4_skylines_25 : decode cX4_skylines 25 = .ok (.aload_n 0, 1) := by decide +kernel
theorem dX4_skylines_26 : decode cX4_skylines 26 = .ok (.getfield 16, 3) := by decide +kernel
theorem dX4_skylines_29 : decode cX4_skylines 29 = .ok (.invokestatic 76, 3) := by decide +kernel
theorem dX4_skylines_32 : decode cX4_skylines 32 = .ok (.iconst 0, 1) := by decide +kernel
theorem dX4_skylines_33 : decode cX4_skylines 33 = .ok (.istore_n 3, 1) := by decide +kernel
theorem dX4_skylines_34 : decode cX4_skylines 34 = .ok (.iconst 0, 1) := by decide +kernel
theorem dX4_skylines_35 : decode cX4_skylines 35 = .ok (.istore 4, 2) := by decide +kernel
theorem dX4_skylines_37 : decode cX4_skylines 37 = .ok (.iload 4, 2) := by decide +kernel
theorem dX4_skylines_39 : decode cX4_skylines 39 = .ok (.iload_n 2, 1) := by decide +kernel
theorem dX4_skylines_40 : decode cX4_skylines 40 = .ok (.if_icmp .ge 29, 3) := by decide +kernel
theorem dX4_skylines_43 : decode cX4_skylines 43 = .ok (.iload_n 3, 1) := by decide +kernel
theorem dX4_skylines_44 : decode cX4_skylines 44 = .ok (.aload_n 0, 1) := by decide +kernel
theorem dX4_skylines_45 : decode cX4_skylines 45 = .ok (.iload_n 1, 1) := by decide +kernel
theorem dX4_skylines_46 : decode cX4_skylines 46 = .ok (.invokevirtual 153, 3) := by decide +kernel
theorem dX4_skylines_49 : decode cX4_skylines 49 = .ok (.ifCond .eq 7, 3) := by decide +kernel
theorem dX4_skylines_52 : decode cX4_skylines 52 = .ok (.iconst 1, 1) := by decide +kernel
theorem dX4_skylines_53 : decode cX4_skylines 53 = .ok (.goto 4, 3) := by decide +kernel
theorem dX4_skylines_56 : decode cX4_skylines 56 = .ok (.iconst 0, 1) := by decide +kernel
theorem dX4_skylines_57 : decode cX4_skylines 57 = .ok (.iadd, 1) := by decide +kernel
theorem dX4_skylines_58 : decode cX4_skylines 58 = .ok (.istore_n 3, 1) := by decide +kernel
theorem dX4_skylines_59 : decode cX4_skylines 59 = .ok (.aload_n 0, 1) := by decide +kernel
theorem dX4_skylines_60 : decode cX4_skylines 60 = .ok (.invokevirtual 162, 3) := by decide +kernel
theorem dX4_skylines_63 : decode cX4_skylines 63 = .ok (.iinc 4 1, 3) := by decide +kernel
theorem dX4_skylines_66 : decode cX4_skylines 66 = .ok (.goto (-29), 3) := by decide +kernel
theorem dX4_skylines_69 : decode cX4_skylines 69 = .ok (.aload_n 0, 1) := by decide +kernel
theorem dX4_skylines_70 : decode cX4_skylines 70 = .ok (.iload_n 3, 1) := by decide +kernel
theorem dX4_skylines_71 : decode cX4_skylines 71 = .ok (.invokevirtual 184, 3) := by decide +kernel
theorem dX4_skylines_74 : decode cX4_skylines 74 = .ok (.ireturn, 1) := by decide +kernel
theorem dX4_wallflowers_0 : decode cX4_wallflowers 0 = .ok (.iload_n 1, 1) := by decide +kernel
theorem dX4_wallflowers_1 : decode cX4_wallflowers 1 = .ok (.invokestatic 204, 3) := by decide +kernel
theorem dX4_wallflowers_4 : decode cX4_wallflowers 4 = .ok (.ifCond .ne 10, 3) := by decide +kernel
theorem dX4_wallflowers_7 : decode cX4_wallflowers 7 = .ok (.aload_n 0, 1) := by decide +kernel
theorem dX4_wallflowers_8 : decode cX4_wallflowers 8 = .ok (.ldc 75, 2) := by decide +kernel
theorem dX4_wallflowers_10 : decode cX4_wallflowers 10 = .ok (.invokevirtual 81, 3) := by decide +kernel
theorem dX4_wallflowers_13 : decode cX4_wallflowers 13 = .ok (.ireturn, 1) := by decide +kernel
theorem dX4_wallflowers_14 : decode cX4_wallflowers 14 = .ok (.aload_n 0, 1) := by decide +kernel
theorem dX4_wallflowers_15 : decode cX4_wallflowers 15 = .ok (.getfield 9, 3) := by decide +kernel
theorem dX4_wallflowers_18 : decode cX4_wallflowers 18 = .ok (.aload_n 0, 1) := by decide +kernel
theorem dX4_wallflowers_19 : decode cX4_wallflowers 19 = .ok (.getfield 16, 3) := by decide +kernel
theorem dX4_wallflowers_22 : decode cX4_wallflowers 22 = .ok (.invokestatic 76, 3) := by decide +kernel
theorem dX4_wallflowers_25 : decode cX4_wallflowers 25 = .ok (.iconst 0, 1) := by decide +kernel
theorem dX4_wallflowers_26 : decode cX4_wallflowers 26 = .ok (.istore_n 2, 1) := by decide +kernel
theorem dX4_wallflowers_27 : decode cX4_wallflowers 27 = .ok (.iconst 0, 1) := by decide +kernel
theorem dX4_wallflowers_28 : decode cX4_wallflowers 28 = .ok (.istore_n 3, 1) := by decide +kernel
theorem dX4_wallflowers_29 : decode cX4_wallflowers 29 = .ok (.iload_n 3, 1) := by decide +kernel
theorem dX4_wallflowers_30 : decode cX4_wallflowers 30 = .ok (.iload_n 1, 1) := by decide +kernel
theorem dX4_wallflowers_31 : decode cX4_wallflowers 31 = .ok (.if_icmp .ge 20, 3) := by decide +kernel
theorem dX4_wallflowers_34 : decode cX4_wallflowers 34 = .ok (.iload_n 2, 1) := by decide +kernel
theorem dX4_wallflowers_35 : decode cX4_wallflowers 35 = .ok (.aload_n 0, 1) := by decide +kernel
theorem dX4_wallflowers_36 : decode cX4_wallflowers 36 = .ok (.invokevirtual 171, 3) := by decide +kernel
theorem dX4_wallflowers_39 : decode cX4_wallflowers 39 = .ok (.ior, 1) := by decide +kernel
theorem dX4_wallflowers_40 : decode cX4_wallflowers 40 = .ok (.istore_n 2, 1) := by decide +kernel
theorem dX4_wallflowers_41 : decode cX4_wallflowers 41 = .ok (.aload_n 0, 1) := by decide +kernel
theorem dX4_wallflowers_42 : decode cX4_wallflowers 42 = .ok (.invokevirtual 162, 3) := by decide +kernel
theorem dX4_wallflowers_45 : decode cX4_wallflowers 45 = .ok (.iinc 3 1, 3) := by decide +kernel
theorem dX4_wallflowers_48 : decode cX4_wallflowers 48 = .ok (.goto (-19), 3) := by decide +kernel
theorem dX4_wallflowers_51 : decode cX4_wallflowers 51 = .ok (.aload_n 0, 1) := by decide +kernel
theorem dX4_wallflowers_52 : decode cX4_wallflowers 52 = .ok (.iconst 1, 1) := by decide +kernel
theorem dX4_wallflowers_53 : decode cX4_wallflowers 53 = .ok (.aload_n 0, 1) := by decide +kernel
theorem dX4_wallflowers_54 : decode cX4_wallflowers 54 = .ok (.getfield 9, 3) := by decide +kernel
theorem dX4_wallflowers_57 : decode cX4_wallflowers 57 = .ok (.iconst 1, 1) := by decide +kernel
theorem dX4_wallflowers_58 : decode cX4_wallflowers 58 = .ok (.iaload, 1) := by decide +kernel
theorem dX4_wallflowers_59 : decode cX4_wallflowers 59 = .ok (.ishl, 1) := by decide +kernel
theorem dX4_wallflowers_60 : decode cX4_wallflowers 60 = .ok (.iconst 1, 1) := by decide +kernel
theorem dX4_wallflowers_61 : decode cX4_wallflowers 61 = .ok (.isub, 1) := by decide +kernel
theorem dX4_wallflowers_62 : decode cX4_wallflowers 62 = .ok (.iload_n 2, 1) := by decide +kernel
theorem dX4_wallflowers_63 : decode cX4_wallflowers 63 = .ok (.iconst (-1), 1) := by decide +kernel
theorem dX4_wallflowers_64 : decode cX4_wallflowers 64 = .ok (.ixor, 1) := by decide +kernel
theorem dX4_wallflowers_65 : decode cX4_wallflowers 65 = .ok (.iand, 1) := by decide +kernel
theorem dX4_wallflowers_66 : decode cX4_wallflowers 66 = .ok (.invokevirtual 184, 3) := by decide +kernel
theorem dX4_wallflowers_69 : decode cX4_wallflowers 69 = .ok (.ireturn, 1) := by decide +kernel
theorem dX4_soonest_0 : decode cX4_soonest 0 = .ok (.aload_n 0, 1) := by decide +kernel
theorem dX4_soonest_1 : decode cX4_soonest 1 = .ok (.iload_n 1, 1) := by decide +kernel
theorem dX4_soonest_2 : decode cX4_soonest 2 = .ok (.iload_n 3, 1) := by decide +kernel
theorem dX4_soonest_3 : decode cX4_soonest 3 = .ok (.invokevirtual 108, 3) := by decide +kernel
theorem dX4_soonest_6 : decode cX4_soonest 6 = .ok (.istore 6, 2) := by decide +kernel
theorem dX4_soonest_8 : decode cX4_soonest 8 = .ok (.ldc 207, 2) := by decide +kernel
theorem dX4_soonest_10 : decode cX4_soonest 10 = .ok (.istore 7, 2) := by decide +kernel
theorem dX4_soonest_12 : decode cX4_soonest 12 = .ok (.sipush 201, 3) := by decide +kernel
theorem dX4_soonest_15 : decode cX4_soonest 15 = .ok (.istore 8, 2) := by decide +kernel
theorem dX4_soonest_17 : decode cX4_soonest 17 = .ok (.iload 4, 2) := by decide +kernel
theorem dX4_soonest_19 : decode cX4_soonest 19 = .ok (.istore 9, 2) := by decide +kernel
theorem dX4_soonest_21 : decode cX4_soonest 21 = .ok (.iload 9, 2) := by decide +kernel
theorem dX4_soonest_23 : decode cX4_soonest 23 = .ok (.iload 5, 2) := by decide +kernel
theorem dX4_soonest_25 : decode cX4_soonest 25 = .ok (.if_icmp .gt 59, 3) := by decide +kernel
theorem dX4_soonest_28 : decode cX4_soonest 28 = .ok (.aload_n 0, 1) := by decide +kernel
theorem dX4_soonest_29 : decode cX4_soonest 29 = .ok (.getfield 9, 3) := by decide +kernel
theorem dX4_soonest_32 : decode cX4_soonest 32 = .ok (.iload_n 1, 1) := by decide +kernel
theorem dX4_soonest_33 : decode cX4_soonest 33 = .ok (.iload_n 3, 1) := by decide +kernel
theorem dX4_soonest_34 : decode cX4_soonest 34 = .ok (.invokestatic 93, 3) := by decide +kernel
theorem dX4_soonest_37 : decode cX4_soonest 37 = .ok (.iload 9, 2) := by decide +kernel
theorem dX4_soonest_39 : decode cX4_soonest 39 = .ok (.iastore, 1) := by decide +kernel
theorem dX4_soonest_40 : decode cX4_soonest 40 = .ok (.aload_n 0, 1) := by decide +kernel
theorem dX4_soonest_41 : decode cX4_soonest 41 = .ok (.iload_n 1, 1) := by decide +kernel
theorem dX4_soonest_42 : decode cX4_soonest 42 = .ok (.iload_n 2, 1) := by decide +kernel
theorem dX4_soonest_43 : decode cX4_soonest 43 = .ok (.iload 8, 2) := by decide +kernel
theorem dX4_soonest_45 : decode cX4_soonest 45 = .ok (.invokevirtual 196, 3) := by decide +kernel
theorem dX4_soonest_48 : decode cX4_soonest 48 = .ok (.istore 10, 2) := by decide +kernel
theorem dX4_soonest_50 : decode cX4_soonest 50 = .ok (.iload 10, 2) := by decide +kernel
theorem dX4_soonest_52 : decode cX4_soonest 52 = .ok (.ifCond .lt 8, 3) := by decide +kernel
theorem dX4_soonest_55 : decode cX4_soonest 55 = .ok (.iload 9, 2) := by decide +kernel
theorem dX4_soonest_57 : decode cX4_soonest 57 = .ok (.goto 5, 3) := by decide +kernel
theorem dX4_soonest_60 : decode cX4_soonest 60 = .ok (.iload 7, 2) := by decide +kernel
theorem dX4_soonest_62 : decode cX4_soonest 62 = .ok (.istore 7, 2) := by decide +kernel
theorem dX4_soonest_64 : decode cX4_soonest 64 = .ok (.iload 10, 2) := by decide +kernel
theorem dX4_soonest_66 : decode cX4_soonest 66 = .ok (.ifCond .lt 8, 3) := by decide +kernel
theorem dX4_soonest_69 : decode cX4_soonest 69 = .ok (.iload 10, 2) := by decide +kernel
theorem dX4_soonest_71 : decode cX4_soonest 71 = .ok (.goto 5, 3) := by decide +kernel
theorem dX4_soonest_74 : decode cX4_soonest 74 = .ok (.iload 8, 2) := by decide +kernel
theorem dX4_soonest_76 : decode cX4_soonest 76 = .ok (.istore 8, 2) := by decide +kernel
theorem dX4_soonest_78 : decode cX4_soonest 78 = .ok (.iinc 9 1, 3) := by decide +kernel
theorem dX4_soonest_81 : decode cX4_soonest 81 = .ok (.goto (-60), 3) := by decide +kernel
theorem dX4_soonest_84 : decode cX4_soonest 84 = .ok (.aload_n 0, 1) := by decide +kernel
theorem dX4_soonest_85 : decode cX4_soonest 85 = .ok (.getfield 9, 3) := by decide +kernel
theorem dX4_soonest_88 : decode cX4_soonest 88 = .ok (.iload_n 1, 1) := by decide +kernel
theorem dX4_soonest_89 : decode cX4_soonest 89 = .ok (.iload_n 3, 1) := by decide +kernel
theorem dX4_soonest_90 : decode cX4_soonest 90 = .ok (.invokestatic 93, 3) := by decide +kernel
theorem dX4_soonest_93 : decode cX4_soonest 93 = .ok (.iload 6, 2) := by decide +kernel
theorem dX4_soonest_95 : decode cX4_soonest 95 = .ok (.iastore, 1) := by decide +kernel
theorem dX4_soonest_96 : decode cX4_soonest 96 = .ok (.iload 7, 2) := by decide +kernel
theorem dX4_soonest_98 : decode cX4_soonest 98 = .ok (.ldc 207, 2) := by decide +kernel
theorem dX4_soonest_100 : decode cX4_soonest 100 = .ok (.if_icmp .ne 12, 3) := by decide +kernel
theorem dX4_soonest_103 : decode cX4_soonest 103 = .ok (.aload_n 0, 1) := by decide +kernel
theorem dX4_soonest_104 : decode cX4_soonest 104 = .ok (.ldc 80, 2) := by decide +kernel
theorem dX4_soonest_106 : decode cX4_soonest 106 = .ok (.invokevirtual 81, 3) := by decide +kernel
theorem dX4_soonest_109 : decode cX4_soonest 109 = .ok (.goto 5, 3) := by decide +kernel
theorem dX4_soonest_112 : decode cX4_soonest 112 = .ok (.iload 7, 2) := by decide +kernel
theorem dX4_soonest_114 : decode cX4_soonest 114 = .ok (.ireturn, 1) := by decide +kernel
theorem dX4_stand_0 : decode cX4_stand 0 = .ok (.aload_n 0, 1) := by decide +kernel
theorem dX4_stand_1 : decode cX4_stand 1 = .ok (.iload_n 1, 1) := by decide +kernel
theorem dX4_stand_2 : decode cX4_stand 2 = .ok (.iload_n 2, 1) := by decide +kernel
theorem dX4_stand_3 : decode cX4_stand 3 = .ok (.invokevirtual 193, 3) := by decide +kernel
theorem dX4_stand_6 : decode cX4_stand 6 = .ok (.ifCond .eq 16, 3) := by decide +kernel
theorem dX4_stand_9 : decode cX4_stand 9 = .ok (.aload_n 0, 1) := by decide +kernel
theorem dX4_stand_10 : decode cX4_stand 10 = .ok (.iload_n 1, 1) := by decide +kernel
theorem dX4_stand_11 : decode cX4_stand 11 = .ok (.iload_n 2, 1) := by decide +kernel
theorem dX4_stand_12 : decode cX4_stand 12 = .ok (.iconst 1, 1) := by decide +kernel
theorem dX4_stand_13 : decode cX4_stand 13 = .ok (.iconst 0, 1) := by decide +kernel
theorem dX4_stand_14 : decode cX4_stand 14 = .ok (.bipush 11, 2) := by decide +kernel
theorem dX4_stand_16 : decode cX4_stand 16 = .ok (.invokevirtual 208, 3) := by decide +kernel
theorem dX4_stand_19 : decode cX4_stand 19 = .ok (.goto 9, 3) := by decide +kernel
theorem dX4_stand_22 : decode cX4_stand 22 = .ok (.aload_n 0, 1) := by decide +kernel
theorem dX4_stand_23 : decode cX4_stand 23 = .ok (.ldc 75, 2) := by decide +kernel
theorem dX4_stand_25 : decode cX4_stand 25 = .ok (.invokevirtual 81, 3) := by decide +kernel
theorem dX4_stand_28 : decode cX4_stand 28 = .ok (.ireturn, 1) := by decide +kernel
theorem dX4_stepFor_0 : decode cX4_stepFor 0 = .ok (.aload_n 0, 1) := by decide +kernel
theorem dX4_stepFor_1 : decode cX4_stepFor 1 = .ok (.iload_n 1, 1) := by decide +kernel
theorem dX4_stepFor_2 : decode cX4_stepFor 2 = .ok (.iload_n 2, 1) := by decide +kernel
theorem dX4_stepFor_3 : decode cX4_stepFor 3 = .ok (.invokevirtual 193, 3) := by decide +kernel
theorem dX4_stepFor_6 : decode cX4_stepFor 6 = .ok (.ifCond .eq 16, 3) := by decide +kernel
theorem dX4_stepFor_9 : decode cX4_stepFor 9 = .ok (.aload_n 0, 1) := by decide +kernel
theorem dX4_stepFor_10 : decode cX4_stepFor 10 = .ok (.iload_n 1, 1) := by decide +kernel
theorem dX4_stepFor_11 : decode cX4_stepFor 11 = .ok (.iload_n 2, 1) := by decide +kernel
theorem dX4_stepFor_12 : decode cX4_stepFor 12 = .ok (.iconst 2, 1) := by decide +kernel
theorem dX4_stepFor_13 : decode cX4_stepFor 13 = .ok (.bipush (-5), 2) := by decide +kernel
theorem dX4_stepFor_15 : decode cX4_stepFor 15 = .ok (.iconst 5, 1) := by decide +kernel
theorem dX4_stepFor_16 : decode cX4_stepFor 16 = .ok (.invokevirtual 208, 3) := by decide +kernel
theorem dX4_stepFor_19 : decode cX4_stepFor 19 = .ok (.goto 9, 3) := by decide +kernel
theorem dX4_stepFor_22 : decode cX4_stepFor 22 = .ok (.aload_n 0, 1) := by decide +kernel
theorem dX4_stepFor_23 : decode cX4_stepFor 23 = .ok (.ldc 75, 2) := by decide +kernel
theorem dX4_stepFor_25 : decode cX4_stepFor 25 = .ok (.invokevirtual 81, 3) := by decide +kernel
theorem dX4_stepFor_28 : decode cX4_stepFor 28 = .ok (.ireturn, 1) := by decide +kernel
theorem dX4_turnFor_0 : decode cX4_turnFor 0 = .ok (.aload_n 0, 1) := by decide +kernel
theorem dX4_turnFor_1 : decode cX4_turnFor 1 = .ok (.iload_n 1, 1) := by decide +kernel
theorem dX4_turnFor_2 : decode cX4_turnFor 2 = .ok (.iload_n 2, 1) := by decide +kernel
theorem dX4_turnFor_3 : decode cX4_turnFor 3 = .ok (.invokevirtual 193, 3) := by decide +kernel
theorem dX4_turnFor_6 : decode cX4_turnFor 6 = .ok (.ifCond .eq 15, 3) := by decide +kernel
theorem dX4_turnFor_9 : decode cX4_turnFor 9 = .ok (.aload_n 0, 1) := by decide +kernel
theorem dX4_turnFor_10 : decode cX4_turnFor 10 = .ok (.iload_n 1, 1) := by decide +kernel
theorem dX4_turnFor_11 : decode cX4_turnFor 11 = .ok (.iload_n 2, 1) := by decide +kernel
theorem dX4_turnFor_12 : decode cX4_turnFor 12 = .ok (.iconst 3, 1) := by decide +kernel
theorem dX4_turnFor_13 : decode cX4_turnFor 13 = .ok (.iconst 0, 1) := by decide +kernel
theorem dX4_turnFor_14 : decode cX4_turnFor 14 = .ok (.iconst 3, 1) := by decide +kernel
theorem dX4_turnFor_15 : decode cX4_turnFor 15 = .ok (.invokevirtual 208, 3) := by decide +kernel
theorem dX4_turnFor_18 : decode cX4_turnFor 18 = .ok (.goto 9, 3) := by decide +kernel
theorem dX4_turnFor_21 : decode cX4_turnFor 21 = .ok (.aload_n 0, 1) := by decide +kernel
theorem dX4_turnFor_22 : decode cX4_turnFor 22 = .ok (.ldc 75, 2) := by decide +kernel
theorem dX4_turnFor_24 : decode cX4_turnFor 24 = .ok (.invokevirtual 81, 3) := by decide +kernel
theorem dX4_turnFor_27 : decode cX4_turnFor 27 = .ok (.ireturn, 1) := by decide +kernel
theorem dX4_isGo_0 : decode cX4_isGo 0 = .ok (.iload_n 0, 1) := by decide +kernel
theorem dX4_isGo_1 : decode cX4_isGo 1 = .ok (.iconst 0, 1) := by decide +kernel
theorem dX4_isGo_2 : decode cX4_isGo 2 = .ok (.bipush 60, 2) := by decide +kernel
theorem dX4_isGo_4 : decode cX4_isGo 4 = .ok (.invokestatic 85, 3) := by decide +kernel
theorem dX4_isGo_7 : decode cX4_isGo 7 = .ok (.ireturn, 1) := by decide +kernel
theorem dX4_behind_0 : decode cX4_behind 0 = .ok (.aload_n 0, 1) := by decide +kernel
theorem dX4_behind_1 : decode cX4_behind 1 = .ok (.getfield 9, 3) := by decide +kernel
theorem dX4_behind_4 : decode cX4_behind 4 = .ok (.aload_n 0, 1) := by decide +kernel
theorem dX4_behind_5 : decode cX4_behind 5 = .ok (.getfield 16, 3) := by decide +kernel
theorem dX4_behind_8 : decode cX4_behind 8 = .ok (.invokestatic 76, 3) := by decide +kernel
theorem dX4_behind_11 : decode cX4_behind 11 = .ok (.aload_n 0, 1) := by decide +kernel
theorem dX4_behind_12 : decode cX4_behind 12 = .ok (.iload_n 3, 1) := by decide +kernel
theorem dX4_behind_13 : decode cX4_behind 13 = .ok (.invokevirtual 167, 3) := by decide +kernel
theorem dX4_behind_16 : decode cX4_behind 16 = .ok (.aload_n 0, 1) := by decide +kernel
theorem dX4_behind_17 : decode cX4_behind 17 = .ok (.aload_n 0, 1) := by decide +kernel
theorem dX4_behind_18 : decode cX4_behind 18 = .ok (.iload_n 1, 1) := by decide +kernel
theorem dX4_behind_19 : decode cX4_behind 19 = .ok (.iload_n 2, 1) := by decide +kernel
theorem dX4_behind_20 : decode cX4_behind 20 = .ok (.invokevirtual 108, 3) := by decide +kernel
theorem dX4_behind_23 : decode cX4_behind 23 = .ok (.invokevirtual 184, 3) := by decide +kernel
theorem dX4_behind_26 : decode cX4_behind 26 = .ok (.ireturn, 1) := by decide +kernel
theorem dX4_kindFor_0 : decode cX4_kindFor 0 = .ok (.aload_n 0, 1) := by decide +kernel
theorem dX4_kindFor_1 : decode cX4_kindFor 1 = .ok (.iload_n 1, 1) := by decide +kernel
theorem dX4_kindFor_2 : decode cX4_kindFor 2 = .ok (.invokevirtual 135, 3) := by decide +kernel
theorem dX4_kindFor_5 : decode cX4_kindFor 5 = .ok (.ifCond .eq 10, 3) := by decide +kernel
theorem dX4_kindFor_8 : decode cX4_kindFor 8 = .ok (.iload_n 2, 1) := by decide +kernel
theorem dX4_kindFor_9 : decode cX4_kindFor 9 = .ok (.invokestatic 211, 3) := by decide +kernel
theorem dX4_kindFor_12 : decode cX4_kindFor 12 = .ok (.ifCond .ne 10, 3) := by decide +kernel
theorem dX4_kindFor_15 : decode cX4_kindFor 15 = .ok (.aload_n 0, 1) := by decide +kernel
theorem dX4_kindFor_16 : decode cX4_kindFor 16 = .ok (.ldc 75, 2) := by decide +kernel
theorem dX4_kindFor_18 : decode cX4_kindFor 18 = .ok (.invokevirtual 81, 3) := by decide +kernel
theorem dX4_kindFor_21 : decode cX4_kindFor 21 = .ok (.ireturn, 1) := by decide +kernel
theorem dX4_kindFor_22 : decode cX4_kindFor 22 = .ok (.aload_n 0, 1) := by decide +kernel
theorem dX4_kindFor_23 : decode cX4_kindFor 23 = .ok (.iload_n 1, 1) := by decide +kernel
theorem dX4_kindFor_24 : decode cX4_kindFor 24 = .ok (.iconst 0, 1) := by decide +kernel
theorem dX4_kindFor_25 : decode cX4_kindFor 25 = .ok (.invokevirtual 108, 3) := by decide +kernel
theorem dX4_kindFor_28 : decode cX4_kindFor 28 = .ok (.istore_n 3, 1) := by decide +kernel
theorem dX4_kindFor_29 : decode cX4_kindFor 29 = .ok (.iconst 0, 1) := by decide +kernel
theorem dX4_kindFor_30 : decode cX4_kindFor 30 = .ok (.istore 4, 2) := by decide +kernel
theorem dX4_kindFor_32 : decode cX4_kindFor 32 = .ok (.iconst (-1), 1) := by decide +kernel
theorem dX4_kindFor_33 : decode cX4_kindFor 33 = .ok (.istore 5, 2) := by decide +kernel
theorem dX4_kindFor_35 : decode cX4_kindFor 35 = .ok (.iconst 0, 1) := by decide +kernel
theorem dX4_kindFor_36 : decode cX4_kindFor 36 = .ok (.istore 6, 2) := by decide +kernel
theorem dX4_kindFor_38 : decode cX4_kindFor 38 = .ok (.iload 6, 2) := by decide +kernel
theorem dX4_kindFor_40 : decode cX4_kindFor 40 = .ok (.bipush 6, 2) := by decide +kernel
theorem dX4_kindFor_42 : decode cX4_kindFor 42 = .ok (.if_icmp .gt 55, 3) := by decide +kernel
theorem dX4_kindFor_45 : decode cX4_kindFor 45 = .ok (.aload_n 0, 1) := by decide +kernel
theorem dX4_kindFor_46 : decode cX4_kindFor 46 = .ok (.getfield 9, 3) := by decide +kernel
theorem dX4_kindFor_49 : decode cX4_kindFor 49 = .ok (.iload_n 1, 1) := by decide +kernel
theorem dX4_kindFor_50 : decode cX4_kindFor 50 = .ok (.iconst 0, 1) := by decide +kernel
theorem dX4_kindFor_51 : decode cX4_kindFor 51 = .ok (.invokestatic 93, 3) := by decide +kernel
theorem dX4_kindFor_54 : decode cX4_kindFor 54 = .ok (.iload 6, 2) := by decide +kernel
theorem dX4_kindFor_56 : decode cX4_kindFor 56 = .ok (.iastore, 1) := by decide +kernel
theorem dX4_kindFor_57 : decode cX4_kindFor 57 = .ok (.aload_n 0, 1) := by decide +kernel
theorem dX4_kindFor_58 : decode cX4_kindFor 58 = .ok (.iload_n 1, 1) := by decide +kernel
theorem dX4_kindFor_59 : decode cX4_kindFor 59 = .ok (.iconst 5, 1) := by decide +kernel
theorem dX4_kindFor_60 : decode cX4_kindFor 60 = .ok (.iload_n 2, 1) := by decide +kernel
theorem dX4_kindFor_61 : decode cX4_kindFor 61 = .ok (.invokevirtual 214, 3) := by decide +kernel
theorem dX4_kindFor_64 : decode cX4_kindFor 64 = .ok (.istore 7, 2) := by decide +kernel
theorem dX4_kindFor_66 : decode cX4_kindFor 66 = .ok (.iload 7, 2) := by decide +kernel
theorem dX4_kindFor_68 : decode cX4_kindFor 68 = .ok (.iload 5, 2) := by decide +kernel
theorem dX4_kindFor_70 : decode cX4_kindFor 70 = .ok (.if_icmp .le 8, 3) := by decide +kernel
theorem dX4_kindFor_73 : decode cX4_kindFor 73 = .ok (.iload 6, 2) := by decide +kernel
theorem dX4_kindFor_75 : decode cX4_kindFor 75 = .ok (.goto 5, 3) := by decide +kernel
theorem dX4_kindFor_78 : decode cX4_kindFor 78 = .ok (.iload 4, 2) := by decide +kernel
theorem dX4_kindFor_80 : decode cX4_kindFor 80 = .ok (.istore 4, 2) := by decide +kernel
theorem dX4_kindFor_82 : decode cX4_kindFor 82 = .ok (.iload 5, 2) := by decide +kernel
theorem dX4_kindFor_84 : decode cX4_kindFor 84 = .ok (.iload 7, 2) := by decide +kernel
theorem dX4_kindFor_86 : decode cX4_kindFor 86 = .ok (.invokestatic 148, 3) := by decide +kernel
theorem dX4_kindFor_89 : decode cX4_kindFor 89 = .ok (.istore 5, 2) := by decide +kernel
theorem dX4_kindFor_91 : decode cX4_kindFor 91 = .ok (.iinc 6 1, 3) := by decide +kernel
theorem dX4_kindFor_94 : decode cX4_kindFor 94 = .ok (.goto (-56), 3) := by decide +kernel
theorem dX4_kindFor_97 : decode cX4_kindFor 97 = .ok (.aload_n 0, 1) := by decide +kernel
theorem dX4_kindFor_98 : decode cX4_kindFor 98 = .ok (.getfield 9, 3) := by decide +kernel
theorem dX4_kindFor_101 : decode cX4_kindFor 101 = .ok (.iload_n 1, 1) := by decide +kernel
theorem dX4_kindFor_102 : decode cX4_kindFor 102 = .ok (.iconst 0, 1) := by decide +kernel
theorem dX4_kindFor_103 : decode cX4_kindFor 103 = .ok (.invokestatic 93, 3) := by decide +kernel
theorem dX4_kindFor_106 : decode cX4_kindFor 106 = .ok (.iload_n 3, 1) := by decide +kernel
theorem dX4_kindFor_107 : decode cX4_kindFor 107 = .ok (.iastore, 1) := by decide +kernel
theorem dX4_kindFor_108 : decode cX4_kindFor 108 = .ok (.iload 4, 2) := by decide +kernel
theorem dX4_kindFor_110 : decode cX4_kindFor 110 = .ok (.ireturn, 1) := by decide +kernel
theorem dX4_rainFor_0 : decode cX4_rainFor 0 = .ok (.aload_n 0, 1) := by decide +kernel
theorem dX4_rainFor_1 : decode cX4_rainFor 1 = .ok (.iload_n 1, 1) := by decide +kernel
theorem dX4_rainFor_2 : decode cX4_rainFor 2 = .ok (.invokevirtual 135, 3) := by decide +kernel
theorem dX4_rainFor_5 : decode cX4_rainFor 5 = .ok (.ifCond .eq 17, 3) := by decide +kernel
theorem dX4_rainFor_8 : decode cX4_rainFor 8 = .ok (.iload_n 2, 1) := by decide +kernel
theorem dX4_rainFor_9 : decode cX4_rainFor 9 = .ok (.invokestatic 141, 3) := by decide +kernel
theorem dX4_rainFor_12 : decode cX4_rainFor 12 = .ok (.ifCond .eq 10, 3) := by decide +kernel
theorem dX4_rainFor_15 : decode cX4_rainFor 15 = .ok (.iload_n 3, 1) := by decide +kernel
theorem dX4_rainFor_16 : decode cX4_rainFor 16 = .ok (.invokestatic 211, 3) := by decide +kernel
theorem dX4_rainFor_19 : decode cX4_rainFor 19 = .ok (.ifCond .ne 10, 3) := by decide +kernel
theorem dX4_rainFor_22 : decode cX4_rainFor 22 = .ok (.aload_n 0, 1) := by decide +kernel
theorem dX4_rainFor_23 : decode cX4_rainFor 23 = .ok (.ldc 75, 2) := by decide +kernel
theorem dX4_rainFor_25 : decode cX4_rainFor 25 = .ok (.invokevirtual 81, 3) := by decide +kernel
theorem dX4_rainFor_28 : decode cX4_rainFor 28 = .ok (.ireturn, 1) := by decide +kernel
theorem dX4_rainFor_29 : decode cX4_rainFor 29 = .ok (.aload_n 0, 1) := by decide +kernel
theorem dX4_rainFor_30 : decode cX4_rainFor 30 = .ok (.getfield 9, 3) := by decide +kernel
theorem dX4_rainFor_33 : decode cX4_rainFor 33 = .ok (.iconst 3, 1) := by decide +kernel
theorem dX4_rainFor_34 : decode cX4_rainFor 34 = .ok (.iaload, 1) := by decide +kernel
theorem dX4_rainFor_35 : decode cX4_rainFor 35 = .ok (.istore 4, 2) := by decide +kernel
theorem dX4_rainFor_37 : decode cX4_rainFor 37 = .ok (.iconst (-1), 1) := by decide +kernel
theorem dX4_rainFor_38 : decode cX4_rainFor 38 = .ok (.istore 5, 2) := by decide +kernel
theorem dX4_rainFor_40 : decode cX4_rainFor 40 = .ok (.bipush 9, 2) := by decide +kernel
theorem dX4_rainFor_42 : decode cX4_rainFor 42 = .ok (.istore 6, 2) := by decide +kernel
theorem dX4_rainFor_44 : decode cX4_rainFor 44 = .ok (.iload 6, 2) := by decide +kernel
theorem dX4_rainFor_46 : decode cX4_rainFor 46 = .ok (.ifCond .lt 37, 3) := by decide +kernel
theorem dX4_rainFor_49 : decode cX4_rainFor 49 = .ok (.aload_n 0, 1) := by decide +kernel
theorem dX4_rainFor_50 : decode cX4_rainFor 50 = .ok (.getfield 9, 3) := by decide +kernel
theorem dX4_rainFor_53 : decode cX4_rainFor 53 = .ok (.iconst 3, 1) := by decide +kernel
theorem dX4_rainFor_54 : decode cX4_rainFor 54 = .ok (.iload 6, 2) := by decide +kernel
theorem dX4_rainFor_56 : decode cX4_rainFor 56 = .ok (.iastore, 1) := by decide +kernel
theorem dX4_rainFor_57 : decode cX4_rainFor 57 = .ok (.aload_n 0, 1) := by decide +kernel
theorem dX4_rainFor_58 : decode cX4_rainFor 58 = .ok (.iload_n 1, 1) := by decide +kernel
theorem dX4_rainFor_59 : decode cX4_rainFor 59 = .ok (.iconst 4, 1) := by decide +kernel
theorem dX4_rainFor_60 : decode cX4_rainFor 60 = .ok (.iload_n 3, 1) := by decide +kernel
theorem dX4_rainFor_61 : decode cX4_rainFor 61 = .ok (.invokevirtual 214, 3) := by decide +kernel
theorem dX4_rainFor_64 : decode cX4_rainFor 64 = .ok (.iload_n 2, 1) := by decide +kernel
theorem dX4_rainFor_65 : decode cX4_rainFor 65 = .ok (.if_icmp .gt 8, 3) := by decide +kernel
theorem dX4_rainFor_68 : decode cX4_rainFor 68 = .ok (.iload 6, 2) := by decide +kernel
theorem dX4_rainFor_70 : decode cX4_rainFor 70 = .ok (.goto 5, 3) := by decide +kernel
theorem dX4_rainFor_73 : decode cX4_rainFor 73 = .ok (.iload 5, 2) := by decide +kernel
theorem dX4_rainFor_75 : decode cX4_rainFor 75 = .ok (.istore 5, 2) := by decide +kernel
theorem dX4_rainFor_77 : decode cX4_rainFor 77 = .ok (.iinc 6 (-1), 3) := by decide +kernel
theorem dX4_rainFor_80 : decode cX4_rainFor 80 = .ok (.goto (-36), 3) := by decide +kernel
theorem dX4_rainFor_83 : decode cX4_rainFor 83 = .ok (.aload_n 0, 1) := by decide +kernel
theorem dX4_rainFor_84 : decode cX4_rainFor 84 = .ok (.getfield 9, 3) := by decide +kernel
theorem dX4_rainFor_87 : decode cX4_rainFor 87 = .ok (.iconst 3, 1) := by decide +kernel
theorem dX4_rainFor_88 : decode cX4_rainFor 88 = .ok (.iload 4, 2) := by decide +kernel
theorem dX4_rainFor_90 : decode cX4_rainFor 90 = .ok (.iastore, 1) := by decide +kernel
theorem dX4_rainFor_91 : decode cX4_rainFor 91 = .ok (.aload_n 0, 1) := by decide +kernel
theorem dX4_rainFor_92 : decode cX4_rainFor 92 = .ok (.iload 5, 2) := by decide +kernel
theorem dX4_rainFor_94 : decode cX4_rainFor 94 = .ok (.invokevirtual 187, 3) := by decide +kernel
theorem dX4_rainFor_97 : decode cX4_rainFor 97 = .ok (.ireturn, 1) := by decide +kernel
theorem dX4_between_0 : decode cX4_between 0 = .ok (.iconst 0, 1) := by decide +kernel
theorem dX4_between_1 : decode cX4_between 1 = .ok (.istore 4, 2) := by decide +kernel
theorem dX4_between_3 : decode cX4_between 3 = .ok (.iload_n 1, 1) := by decide +kernel
theorem dX4_between_4 : decode cX4_between 4 = .ok (.iload_n 3, 1) := by decide +kernel
theorem dX4_between_5 : decode cX4_between 5 = .ok (.iadd, 1) := by decide +kernel
theorem dX4_between_6 : decode cX4_between 6 = .ok (.invokestatic 111, 3) := by decide +kernel
theorem dX4_between_9 : decode cX4_between 9 = .ok (.istore 5, 2) := by decide +kernel
theorem dX4_between_11 : decode cX4_between 11 = .ok (.iload 5, 2) := by decide +kernel
theorem dX4_between_13 : decode cX4_between 13 = .ok (.iload_n 2, 1) := by decide +kernel
theorem dX4_between_14 : decode cX4_between 14 = .ok (.if_icmp .eq 33, 3) := by decide +kernel
theorem dX4_between_17 : decode cX4_between 17 = .ok (.iload_n 1, 1) := by decide +kernel
theorem dX4_between_18 : decode cX4_between 18 = .ok (.iload_n 2, 1) := by decide +kernel
theorem dX4_between_19 : decode cX4_between 19 = .ok (.if_icmp .eq 28, 3) := by decide +kernel
theorem dX4_between_22 : decode cX4_between 22 = .ok (.iload 4, 2) := by decide +kernel
theorem dX4_between_24 : decode cX4_between 24 = .ok (.aload_n 0, 1) := by decide +kernel
theorem dX4_between_25 : decode cX4_between 25 = .ok (.iload 5, 2) := by decide +kernel
theorem dX4_between_27 : decode cX4_between 27 = .ok (.invokevirtual 156, 3) := by decide +kernel
theorem dX4_between_30 : decode cX4_between 30 = .ok (.invokestatic 148, 3) := by decide +kernel
theorem dX4_between_33 : decode cX4_between 33 = .ok (.istore 4, 2) := by decide +kernel
theorem dX4_between_35 : decode cX4_between 35 = .ok (.iload 5, 2) := by decide +kernel
theorem dX4_between_37 : decode cX4_between 37 = .ok (.iload_n 3, 1) := by decide +kernel
theorem dX4_between_38 : decode cX4_between 38 = .ok (.iadd, 1) := by decide +kernel
theorem dX4_between_39 : decode cX4_between 39 = .ok (.invokestatic 111, 3) := by decide +kernel
theorem dX4_between_42 : decode cX4_between 42 = .ok (.istore 5, 2) := by decide +kernel
theorem dX4_between_44 : decode cX4_between 44 = .ok (.goto (-33), 3) := by decide +kernel
theorem dX4_between_47 : decode cX4_between 47 = .ok (.iload 4, 2) := by decide +kernel
theorem dX4_between_49 : decode cX4_between 49 = .ok (.ireturn, 1) := by decide +kernel
theorem dX4_areEnds_0 : decode cX4_areEnds 0 = .ok (.iload_n 0, 1) := by decide +kernel
theorem dX4_areEnds_1 : decode cX4_areEnds 1 = .ok (.invokestatic 100, 3) := by decide +kernel
theorem dX4_areEnds_4 : decode cX4_areEnds 4 = .ok (.ifCond .eq 14, 3) := by decide +kernel
theorem dX4_areEnds_7 : decode cX4_areEnds 7 = .ok (.iload_n 1, 1) := by decide +kernel
theorem dX4_areEnds_8 : decode cX4_areEnds 8 = .ok (.invokestatic 100, 3) := by decide +kernel
theorem dX4_areEnds_11 : decode cX4_areEnds 11 = .ok (.ifCond .eq 7, 3) := by decide +kernel
theorem dX4_areEnds_14 : decode cX4_areEnds 14 = .ok (.iconst 1, 1) := by decide +kernel
theorem dX4_areEnds_15 : decode cX4_areEnds 15 = .ok (.goto 4, 3) := by decide +kernel
theorem dX4_areEnds_18 : decode cX4_areEnds 18 = .ok (.iconst 0, 1) := by decide +kernel
theorem dX4_areEnds_19 : decode cX4_areEnds 19 = .ok (.ireturn, 1) := by decide +kernel
theorem dX4_roadNow_0 : decode cX4_roadNow 0 = .ok (.aload_n 0, 1) := by decide +kernel
theorem dX4_roadNow_1 : decode cX4_roadNow 1 = .ok (.iload_n 1, 1) := by decide +kernel
theorem dX4_roadNow_2 : decode cX4_roadNow 2 = .ok (.iload_n 2, 1) := by decide +kernel
theorem dX4_roadNow_3 : decode cX4_roadNow 3 = .ok (.iconst 1, 1) := by decide +kernel
theorem dX4_roadNow_4 : decode cX4_roadNow 4 = .ok (.invokevirtual 217, 3) := by decide +kernel
theorem dX4_roadNow_7 : decode cX4_roadNow 7 = .ok (.iload_n 3, 1) := by decide +kernel
theorem dX4_roadNow_8 : decode cX4_roadNow 8 = .ok (.if_icmp .gt 12, 3) := by decide +kernel
theorem dX4_roadNow_11 : decode cX4_roadNow 11 = .ok (.iload_n 2, 1) := by decide +kernel
theorem dX4_roadNow_12 : decode cX4_roadNow 12 = .ok (.iload_n 1, 1) := by decide +kernel
theorem dX4_roadNow_13 : decode cX4_roadNow 13 = .ok (.isub, 1) := by decide +kernel
theorem dX4_roadNow_14 : decode cX4_roadNow 14 = .ok (.invokestatic 111, 3) := by decide +kernel
theorem dX4_roadNow_17 : decode cX4_roadNow 17 = .ok (.goto 5, 3) := by decide +kernel
theorem dX4_roadNow_20 : decode cX4_roadNow 20 = .ok (.bipush 12, 2) := by decide +kernel
theorem dX4_roadNow_22 : decode cX4_roadNow 22 = .ok (.istore 4, 2) := by decide +kernel
theorem dX4_roadNow_24 : decode cX4_roadNow 24 = .ok (.aload_n 0, 1) := by decide +kernel
theorem dX4_roadNow_25 : decode cX4_roadNow 25 = .ok (.iload_n 1, 1) := by decide +kernel
theorem dX4_roadNow_26 : decode cX4_roadNow 26 = .ok (.iload_n 2, 1) := by decide +kernel
theorem dX4_roadNow_27 : decode cX4_roadNow 27 = .ok (.iconst (-1), 1) := by decide +kernel
theorem dX4_roadNow_28 : decode cX4_roadNow 28 = .ok (.invokevirtual 217, 3) := by decide +kernel
theorem dX4_roadNow_31 : decode cX4_roadNow 31 = .ok (.iload_n 3, 1) := by decide +kernel
theorem dX4_roadNow_32 : decode cX4_roadNow 32 = .ok (.if_icmp .gt 12, 3) := by decide +kernel
theorem dX4_roadNow_35 : decode cX4_roadNow 35 = .ok (.iload_n 1, 1) := by decide +kernel
theorem dX4_roadNow_36 : decode cX4_roadNow 36 = .ok (.iload_n 2, 1) := by decide +kernel
theorem dX4_roadNow_37 : decode cX4_roadNow 37 = .ok (.isub, 1) := by decide +kernel
theorem dX4_roadNow_38 : decode cX4_roadNow 38 = .ok (.invokestatic 111, 3) := by decide +kernel
theorem dX4_roadNow_41 : decode cX4_roadNow 41 = .ok (.goto 5, 3) := by decide +kernel
theorem dX4_roadNow_44 : decode cX4_roadNow 44 = .ok (.bipush 12, 2) := by decide +kernel
theorem dX4_roadNow_46 : decode cX4_roadNow 46 = .ok (.istore 5, 2) := by decide +kernel
theorem dX4_roadNow_48 : decode cX4_roadNow 48 = .ok (.iload 4, 2) := by decide +kernel
theorem dX4_roadNow_50 : decode cX4_roadNow 50 = .ok (.iload 5, 2) := by decide +kernel
theorem dX4_roadNow_52 : decode cX4_roadNow 52 = .ok (.invokestatic 159, 3) := by decide +kernel
theorem dX4_roadNow_55 : decode cX4_roadNow 55 = .ok (.ireturn, 1) := by decide +kernel
theorem dX4_road_0 : decode cX4_road 0 = .ok (.iload_n 1, 1) := by decide +kernel
theorem dX4_road_1 : decode cX4_road 1 = .ok (.iload_n 2, 1) := by decide +kernel
theorem dX4_road_2 : decode cX4_road 2 = .ok (.invokestatic 220, 3) := by decide +kernel
theorem dX4_road_5 : decode cX4_road 5 = .ok (.ifCond .eq 10, 3) := by decide +kernel
theorem dX4_road_8 : decode cX4_road 8 = .ok (.iload_n 3, 1) := by decide +kernel
theorem dX4_road_9 : decode cX4_road 9 = .ok (.invokestatic 141, 3) := by decide +kernel
theorem dX4_road_12 : decode cX4_road 12 = .ok (.ifCond .ne 10, 3) := by decide +kernel
theorem dX4_road_15 : decode cX4_road 15 = .ok (.aload_n 0, 1) := by decide +kernel
theorem dX4_road_16 : decode cX4_road 16 = .ok (.ldc 75, 2) := by decide +kernel
theorem dX4_road_18 : decode cX4_road 18 = .ok (.invokevirtual 81, 3) := by decide +kernel
theorem dX4_road_21 : decode cX4_road 21 = .ok (.ireturn, 1) := by decide +kernel
theorem dX4_road_22 : decode cX4_road 22 = .ok (.aload_n 0, 1) := by decide +kernel
theorem dX4_road_23 : decode cX4_road 23 = .ok (.iload_n 1, 1) := by decide +kernel
theorem dX4_road_24 : decode cX4_road 24 = .ok (.iload_n 2, 1) := by decide +kernel
theorem dX4_road_25 : decode cX4_road 25 = .ok (.iload_n 3, 1) := by decide +kernel
theorem dX4_road_26 : decode cX4_road 26 = .ok (.invokevirtual 223, 3) := by decide +kernel
theorem dX4_road_29 : decode cX4_road 29 = .ok (.istore 4, 2) := by decide +kernel
theorem dX4_road_31 : decode cX4_road 31 = .ok (.iload 4, 2) := by decide +kernel
theorem dX4_road_33 : decode cX4_road 33 = .ok (.bipush 12, 2) := by decide +kernel
theorem dX4_road_35 : decode cX4_road 35 = .ok (.if_icmp .ne 12, 3) := by decide +kernel
theorem dX4_road_38 : decode cX4_road 38 = .ok (.aload_n 0, 1) := by decide +kernel
theorem dX4_road_39 : decode cX4_road 39 = .ok (.ldc 80, 2) := by decide +kernel
theorem dX4_road_41 : decode cX4_road 41 = .ok (.invokevirtual 81, 3) := by decide +kernel
theorem dX4_road_44 : decode cX4_road 44 = .ok (.goto 5, 3) := by decide +kernel
theorem dX4_road_47 : decode cX4_road 47 = .ok (.iload 4, 2) := by decide +kernel
theorem dX4_road_49 : decode cX4_road 49 = .ok (.ireturn, 1) := by decide +kernel
theorem dX4_climbNow_0 : decode cX4_climbNow 0 = .ok (.aload_n 0, 1) := by decide +kernel
theorem dX4_climbNow_1 : decode cX4_climbNow 1 = .ok (.iload_n 1, 1) := by decide +kernel
theorem dX4_climbNow_2 : decode cX4_climbNow 2 = .ok (.iload_n 2, 1) := by decide +kernel
theorem dX4_climbNow_3 : decode cX4_climbNow 3 = .ok (.iconst 1, 1) := by decide +kernel
theorem dX4_climbNow_4 : decode cX4_climbNow 4 = .ok (.invokevirtual 217, 3) := by decide +kernel
theorem dX4_climbNow_7 : decode cX4_climbNow 7 = .ok (.aload_n 0, 1) := by decide +kernel
theorem dX4_climbNow_8 : decode cX4_climbNow 8 = .ok (.iload_n 1, 1) := by decide +kernel
theorem dX4_climbNow_9 : decode cX4_climbNow 9 = .ok (.iload_n 2, 1) := by decide +kernel
theorem dX4_climbNow_10 : decode cX4_climbNow 10 = .ok (.iconst (-1), 1) := by decide +kernel
theorem dX4_climbNow_11 : decode cX4_climbNow 11 = .ok (.invokevirtual 217, 3) := by decide +kernel
theorem dX4_climbNow_14 : decode cX4_climbNow 14 = .ok (.invokestatic 159, 3) := by decide +kernel
theorem dX4_climbNow_17 : decode cX4_climbNow 17 = .ok (.ireturn, 1) := by decide +kernel
theorem dX4_climb_0 : decode cX4_climb 0 = .ok (.iload_n 1, 1) := by decide +kernel
theorem dX4_climb_1 : decode cX4_climb 1 = .ok (.iload_n 2, 1) := by decide +kernel
theorem dX4_climb_2 : decode cX4_climb 2 = .ok (.invokestatic 220, 3) := by decide +kernel
theorem dX4_climb_5 : decode cX4_climb 5 = .ok (.ifCond .eq 12, 3) := by decide +kernel
theorem dX4_climb_8 : decode cX4_climb 8 = .ok (.aload_n 0, 1) := by decide +kernel
theorem dX4_climb_9 : decode cX4_climb 9 = .ok (.iload_n 1, 1) := by decide +kernel
theorem dX4_climb_10 : decode cX4_climb 10 = .ok (.iload_n 2, 1) := by decide +kernel
theorem dX4_climb_11 : decode cX4_climb 11 = .ok (.invokevirtual 226, 3) := by decide +kernel
theorem dX4_climb_14 : decode cX4_climb 14 = .ok (.goto 9, 3) := by decide +kernel
theorem dX4_climb_17 : decode cX4_climb 17 = .ok (.aload_n 0, 1) := by decide +kernel
theorem dX4_climb_18 : decode cX4_climb 18 = .ok (.ldc 75, 2) := by decide +kernel
theorem dX4_climb_20 : decode cX4_climb 20 = .ok (.invokevirtual 81, 3) := by decide +kernel
theorem dX4_climb_23 : decode cX4_climb 23 = .ok (.ireturn, 1) := by decide +kernel
theorem dX4_openIn_0 : decode cX4_openIn 0 = .ok (.aload_n 0, 1) := by decide +kernel
theorem dX4_openIn_1 : decode cX4_openIn 1 = .ok (.getfield 9, 3) := by decide +kernel
theorem dX4_openIn_4 : decode cX4_openIn 4 = .ok (.aload_n 0, 1) := by decide +kernel
theorem dX4_openIn_5 : decode cX4_openIn 5 = .ok (.getfield 16, 3) := by decide +kernel
theorem dX4_openIn_8 : decode cX4_openIn 8 = .ok (.invokestatic 76, 3) := by decide +kernel
theorem dX4_openIn_11 : decode cX4_openIn 11 = .ok (.iconst 0, 1) := by decide +kernel
theorem dX4_openIn_12 : decode cX4_openIn 12 = .ok (.istore 5, 2) := by decide +kernel
theorem dX4_openIn_14 : decode cX4_openIn 14 = .ok (.iconst 0, 1) := by decide +kernel
theorem dX4_openIn_15 : decode cX4_openIn 15 = .ok (.istore 6, 2) := by decide +kernel
theorem dX4_openIn_17 : decode cX4_openIn 17 = .ok (.iload 6, 2) := by decide +kernel
theorem dX4_openIn_19 : decode cX4_openIn 19 = .ok (.iload 4, 2) := by decide +kernel
theorem dX4_openIn_21 : decode cX4_openIn 21 = .ok (.if_icmp .ge 33, 3) := by decide +kernel
theorem dX4_openIn_24 : decode cX4_openIn 24 = .ok (.iload 5, 2) := by decide +kernel
theorem dX4_openIn_26 : decode cX4_openIn 26 = .ok (.aload_n 0, 1) := by decide +kernel
theorem dX4_openIn_27 : decode cX4_openIn 27 = .ok (.iload_n 1, 1) := by decide +kernel
theorem dX4_openIn_28 : decode cX4_openIn 28 = .ok (.iload_n 2, 1) := by decide +kernel
theorem dX4_openIn_29 : decode cX4_openIn 29 = .ok (.invokevirtual 226, 3) := by decide +kernel
theorem dX4_openIn_32 : decode cX4_openIn 32 = .ok (.iload_n 3, 1) := by decide +kernel
theorem dX4_openIn_33 : decode cX4_openIn 33 = .ok (.if_icmp .gt 7, 3) := by decide +kernel
theorem dX4_openIn_36 : decode cX4_openIn 36 = .ok (.iconst 1, 1) := by decide +kernel
theorem dX4_openIn_37 : decode cX4_openIn 37 = .ok (.goto 4, 3) := by decide +kernel
theorem dX4_openIn_40 : decode cX4_openIn 40 = .ok (.iconst 0, 1) := by decide +kernel
theorem dX4_openIn_41 : decode cX4_openIn 41 = .ok (.iadd, 1) := by decide +kernel
theorem dX4_openIn_42 : decode cX4_openIn 42 = .ok (.istore 5, 2) := by decide +kernel
theorem dX4_openIn_44 : decode cX4_openIn 44 = .ok (.aload_n 0, 1) := by decide +kernel
theorem dX4_openIn_45 : decode cX4_openIn 45 = .ok (.invokevirtual 162, 3) := by decide +kernel
theorem dX4_openIn_48 : decode cX4_openIn 48 = .ok (.iinc 6 1, 3) := by decide +kernel
theorem dX4_openIn_51 : decode cX4_openIn 51 = .ok (.goto (-34), 3) := by decide +kernel
theorem dX4_openIn_54 : decode cX4_openIn 54 = .ok (.aload_n 0, 1) := by decide +kernel
theorem dX4_openIn_55 : decode cX4_openIn 55 = .ok (.iload 5, 2) := by decide +kernel
theorem dX4_openIn_57 : decode cX4_openIn 57 = .ok (.invokevirtual 184, 3) := by decide +kernel
theorem dX4_openIn_60 : decode cX4_openIn 60 = .ok (.ireturn, 1) := by decide +kernel
theorem dX4_open_0 : decode cX4_open 0 = .ok (.iload_n 1, 1) := by decide +kernel
theorem dX4_open_1 : decode cX4_open 1 = .ok (.iload_n 2, 1) := by decide +kernel
theorem dX4_open_2 : decode cX4_open 2 = .ok (.invokestatic 220, 3) := by decide +kernel
theorem dX4_open_5 : decode cX4_open 5 = .ok (.ifCond .eq 33, 3) := by decide +kernel
theorem dX4_open_8 : decode cX4_open 8 = .ok (.iload_n 3, 1) := by decide +kernel
theorem dX4_open_9 : decode cX4_open 9 = .ok (.invokestatic 141, 3) := by decide +kernel
theorem dX4_open_12 : decode cX4_open 12 = .ok (.ifCond .eq 26, 3) := by decide +kernel
theorem dX4_open_15 : decode cX4_open 15 = .ok (.iload 4, 2) := by decide +kernel
theorem dX4_open_17 : decode cX4_open 17 = .ok (.iconst 0, 1) := by decide +kernel
theorem dX4_open_18 : decode cX4_open 18 = .ok (.bipush 100, 2) := by decide +kernel
theorem dX4_open_20 : decode cX4_open 20 = .ok (.invokestatic 85, 3) := by decide +kernel
theorem dX4_open_23 : decode cX4_open 23 = .ok (.ifCond .eq 15, 3) := by decide +kernel
theorem dX4_open_26 : decode cX4_open 26 = .ok (.aload_n 0, 1) := by decide +kernel
theorem dX4_open_27 : decode cX4_open 27 = .ok (.iload_n 1, 1) := by decide +kernel
theorem dX4_open_28 : decode cX4_open 28 = .ok (.iload_n 2, 1) := by decide +kernel
theorem dX4_open_29 : decode cX4_open 29 = .ok (.iload_n 3, 1) := by decide +kernel
theorem dX4_open_30 : decode cX4_open 30 = .ok (.iload 4, 2) := by decide +kernel
theorem dX4_open_32 : decode cX4_open 32 = .ok (.invokevirtual 229, 3) := by decide +kernel
theorem dX4_open_35 : decode cX4_open 35 = .ok (.goto 9, 3) := by decide +kernel
theorem dX4_open_38 : decode cX4_open 38 = .ok (.aload_n 0, 1) := by decide +kernel
theorem dX4_open_39 : decode cX4_open 39 = .ok (.ldc 75, 2) := by decide +kernel
theorem dX4_open_41 : decode cX4_open 41 = .ok (.invokevirtual 81, 3) := by decide +kernel
theorem dX4_open_44 : decode cX4_open 44 = .ok (.ireturn, 1) := by decide +kernel
theorem dX4_lay_0 : decode cX4_lay 0 = .ok (.iload_n 1, 1) := by decide +kernel
theorem dX4_lay_1 : decode cX4_lay 1 = .ok (.invokestatic 100, 3) := by decide +kernel
theorem dX4_lay_4 : decode cX4_lay 4 = .ok (.ifCond .eq 17, 3) := by decide +kernel
theorem dX4_lay_7 : decode cX4_lay 7 = .ok (.iload_n 2, 1) := by decide +kernel
theorem dX4_lay_8 : decode cX4_lay 8 = .ok (.invokestatic 141, 3) := by decide +kernel
theorem dX4_lay_11 : decode cX4_lay 11 = .ok (.ifCond .eq 10, 3) := by decide +kernel
theorem dX4_lay_14 : decode cX4_lay 14 = .ok (.iload_n 3, 1) := by decide +kernel
theorem dX4_lay_15 : decode cX4_lay 15 = .ok (.invokestatic 211, 3) := by decide +kernel
theorem dX4_lay_18 : decode cX4_lay 18 = .ok (.ifCond .ne 10, 3) := by decide +kernel
theorem dX4_lay_21 : decode cX4_lay 21 = .ok (.aload_n 0, 1) := by decide +kernel
theorem dX4_lay_22 : decode cX4_lay 22 = .ok (.ldc 75, 2) := by decide +kernel
theorem dX4_lay_24 : decode cX4_lay 24 = .ok (.invokevirtual 81, 3) := by decide +kernel
theorem dX4_lay_27 : decode cX4_lay 27 = .ok (.ireturn, 1) := by decide +kernel
theorem dX4_lay_28 : decode cX4_lay 28 = .ok (.iconst (-1), 1) := by decide +kernel
theorem dX4_lay_29 : decode cX4_lay 29 = .ok (.istore 4, 2) := by decide +kernel
theorem dX4_lay_31 : decode cX4_lay 31 = .ok (.iconst (-1), 1) := by decide +kernel
theorem dX4_lay_32 : decode cX4_lay 32 = .ok (.istore 5, 2) := by decide +kernel
theorem dX4_lay_34 : decode cX4_lay 34 = .ok (.iconst 0, 1) := by decide +kernel
theorem dX4_lay_35 : decode cX4_lay 35 = .ok (.istore 6, 2) := by decide +kernel
theorem dX4_lay_37 : decode cX4_lay 37 = .ok (.iload 6, 2) := by decide +kernel
theorem dX4_lay_39 : decode cX4_lay 39 = .ok (.bipush 12, 2) := by decide +kernel
theorem dX4_lay_41 : decode cX4_lay 41 = .ok (.if_icmp .ge 55, 3) := by decide +kernel
theorem dX4_lay_44 : decode cX4_lay 44 = .ok (.iload 6, 2) := by decide +kernel
theorem dX4_lay_46 : decode cX4_lay 46 = .ok (.iload_n 1, 1) := by decide +kernel
theorem dX4_lay_47 : decode cX4_lay 47 = .ok (.if_icmp .ne 7, 3) := by decide +kernel
theorem dX4_lay_50 : decode cX4_lay 50 = .ok (.iconst (-1), 1) := by decide +kernel
theorem dX4_lay_51 : decode cX4_lay 51 = .ok (.goto 12, 3) := by decide +kernel
theorem dX4_lay_54 : decode cX4_lay 54 = .ok (.aload_n 0, 1) := by decide +kernel
theorem dX4_lay_55 : decode cX4_lay 55 = .ok (.iload_n 1, 1) := by decide +kernel
theorem dX4_lay_56 : decode cX4_lay 56 = .ok (.iload 6, 2) := by decide +kernel
theorem dX4_lay_58 : decode cX4_lay 58 = .ok (.iload_n 2, 1) := by decide +kernel
theorem dX4_lay_59 : decode cX4_lay 59 = .ok (.iload_n 3, 1) := by decide +kernel
theorem dX4_lay_60 : decode cX4_lay 60 = .ok (.invokevirtual 229, 3) := by decide +kernel
theorem dX4_lay_63 : decode cX4_lay 63 = .ok (.istore 7, 2) := by decide +kernel
theorem dX4_lay_65 : decode cX4_lay 65 = .ok (.iload 7, 2) := by decide +kernel
theorem dX4_lay_67 : decode cX4_lay 67 = .ok (.iload 5, 2) := by decide +kernel
theorem dX4_lay_69 : decode cX4_lay 69 = .ok (.if_icmp .le 8, 3) := by decide +kernel
theorem dX4_lay_72 : decode cX4_lay 72 = .ok (.iload 6, 2) := by decide +kernel
theorem dX4_lay_74 : decode cX4_lay 74 = .ok (.goto 5, 3) := by decide +kernel
theorem dX4_lay_77 : decode cX4_lay 77 = .ok (.iload 4, 2) := by decide +kernel
theorem dX4_lay_79 : decode cX4_lay 79 = .ok (.istore 4, 2) := by decide +kernel
theorem dX4_lay_81 : decode cX4_lay 81 = .ok (.iload 5, 2) := by decide +kernel
theorem dX4_lay_83 : decode cX4_lay 83 = .ok (.iload 7, 2) := by decide +kernel
theorem dX4_lay_85 : decode cX4_lay 85 = .ok (.invokestatic 148, 3) := by decide +kernel
theorem dX4_lay_88 : decode cX4_lay 88 = .ok (.istore 5, 2) := by decide +kernel
theorem dX4_lay_90 : decode cX4_lay 90 = .ok (.iinc 6 1, 3) := by decide +kernel
theorem dX4_lay_93 : decode cX4_lay 93 = .ok (.goto (-56), 3) := by decide +kernel
theorem dX4_lay_96 : decode cX4_lay 96 = .ok (.iload 4, 2) := by decide +kernel
theorem dX4_lay_98 : decode cX4_lay 98 = .ok (.ireturn, 1) := by decide +kernel
theorem dX4_lacks_0 : decode cX4_lacks 0 = .ok (.iload_n 1, 1) := by decide +kernel
theorem dX4_lacks_1 : decode cX4_lacks 1 = .ok (.invokestatic 233, 3) := by decide +kernel
theorem dX4_lacks_4 : decode cX4_lacks 4 = .ok (.ifCond .ne 8, 3) := by decide +kernel
theorem dX4_lacks_7 : decode cX4_lacks 7 = .ok (.ldc 75, 2) := by decide +kernel
theorem dX4_lacks_9 : decode cX4_lacks 9 = .ok (.goto 31, 3) := by decide +kernel
theorem dX4_lacks_12 : decode cX4_lacks 12 = .ok (.aload_n 0, 1) := by decide +kernel
theorem dX4_lacks_13 : decode cX4_lacks 13 = .ok (.getfield 63, 3) := by decide +kernel
theorem dX4_lacks_16 : decode cX4_lacks 16 = .ok (.iload_n 1, 1) := by decide +kernel
theorem dX4_lacks_17 : decode cX4_lacks 17 = .ok (.iaload, 1) := by decide +kernel
theorem dX4_lacks_18 : decode cX4_lacks 18 = .ok (.ifCond .ne 8, 3) := by decide +kernel
theorem dX4_lacks_21 : decode cX4_lacks 21 = .ok (.ldc 236, 2) := by decide +kernel
theorem dX4_lacks_23 : decode cX4_lacks 23 = .ok (.goto 17, 3) := by decide +kernel
theorem dX4_lacks_26 : decode cX4_lacks 26 = .ok (.aload_n 0, 1) := by decide +kernel
theorem dX4_lacks_27 : decode cX4_lacks 27 = .ok (.iload_n 2, 1) := by decide +kernel
theorem dX4_lacks_28 : decode cX4_lacks 28 = .ok (.invokevirtual 135, 3) := by decide +kernel
theorem dX4_lacks_31 : decode cX4_lacks 31 = .ok (.ifCond .eq 7, 3) := by decide +kernel
theorem dX4_lacks_34 : decode cX4_lacks 34 = .ok (.iconst 0, 1) := by decide +kernel
theorem dX4_lacks_35 : decode cX4_lacks 35 = .ok (.goto 5, 3) := by decide +kernel
theorem dX4_lacks_38 : decode cX4_lacks 38 = .ok (.ldc 75, 2) := by decide +kernel
theorem dX4_lacks_40 : decode cX4_lacks 40 = .ok (.ireturn, 1) := by decide +kernel
theorem dX4_facedSo_0 : decode cX4_facedSo 0 = .ok (.aload_n 0, 1) := by decide +kernel
theorem dX4_facedSo_1 : decode cX4_facedSo 1 = .ok (.getfield 9, 3) := by decide +kernel
theorem dX4_facedSo_4 : decode cX4_facedSo 4 = .ok (.aload_n 0, 1) := by decide +kernel
theorem dX4_facedSo_5 : decode cX4_facedSo 5 = .ok (.getfield 16, 3) := by decide +kernel
theorem dX4_facedSo_8 : decode cX4_facedSo 8 = .ok (.invokestatic 76, 3) := by decide +kernel
theorem dX4_facedSo_11 : decode cX4_facedSo 11 = .ok (.iconst 1, 1) := by decide +kernel
theorem dX4_facedSo_12 : decode cX4_facedSo 12 = .ok (.istore_n 3, 1) := by decide +kernel
theorem dX4_facedSo_13 : decode cX4_facedSo 13 = .ok (.iconst 0, 1) := by decide +kernel
theorem dX4_facedSo_14 : decode cX4_facedSo 14 = .ok (.istore 4, 2) := by decide +kernel
theorem dX4_facedSo_16 : decode cX4_facedSo 16 = .ok (.iload 4, 2) := by decide +kernel
theorem dX4_facedSo_18 : decode cX4_facedSo 18 = .ok (.aload_n 0, 1) := by decide +kernel
theorem dX4_facedSo_19 : decode cX4_facedSo 19 = .ok (.getfield 66, 3) := by decide +kernel
theorem dX4_facedSo_22 : decode cX4_facedSo 22 = .ok (.iload_n 1, 1) := by decide +kernel
theorem dX4_facedSo_23 : decode cX4_facedSo 23 = .ok (.iaload, 1) := by decide +kernel
theorem dX4_facedSo_24 : decode cX4_facedSo 24 = .ok (.if_icmp .ge 53, 3) := by decide +kernel
theorem dX4_facedSo_27 : decode cX4_facedSo 27 = .ok (.iload_n 3, 1) := by decide +kernel
theorem dX4_facedSo_28 : decode cX4_facedSo 28 = .ok (.ifCond .eq 49, 3) := by decide +kernel
theorem dX4_facedSo_31 : decode cX4_facedSo 31 = .ok (.aload_n 0, 1) := by decide +kernel
theorem dX4_facedSo_32 : decode cX4_facedSo 32 = .ok (.getfield 69, 3) := by decide +kernel
theorem dX4_facedSo_35 : decode cX4_facedSo 35 = .ok (.bipush 40, 2) := by decide +kernel
theorem dX4_facedSo_37 : decode cX4_facedSo 37 = .ok (.iload_n 1, 1) := by decide +kernel
theorem dX4_facedSo_38 : decode cX4_facedSo 38 = .ok (.imul, 1) := by decide +kernel
theorem dX4_facedSo_39 : decode cX4_facedSo 39 = .ok (.iload 4, 2) := by decide +kernel
theorem dX4_facedSo_41 : decode cX4_facedSo 41 = .ok (.iadd, 1) := by decide +kernel
theorem dX4_facedSo_42 : decode cX4_facedSo 42 = .ok (.iaload, 1) := by decide +kernel
theorem dX4_facedSo_43 : decode cX4_facedSo 43 = .ok (.istore 5, 2) := by decide +kernel
theorem dX4_facedSo_45 : decode cX4_facedSo 45 = .ok (.iload 5, 2) := by decide +kernel
theorem dX4_facedSo_47 : decode cX4_facedSo 47 = .ok (.iconst (-1), 1) := by decide +kernel
theorem dX4_facedSo_48 : decode cX4_facedSo 48 = .ok (.if_icmp .eq 13, 3) := by decide +kernel
theorem dX4_facedSo_51 : decode cX4_facedSo 51 = .ok (.iload 5, 2) := by decide +kernel
theorem dX4_facedSo_53 : decode cX4_facedSo 53 = .ok (.aload_n 0, 1) := by decide +kernel
theorem dX4_facedSo_54 : decode cX4_facedSo 54 = .ok (.iload_n 2, 1) := by decide +kernel
theorem dX4_facedSo_55 : decode cX4_facedSo 55 = .ok (.invokevirtual 114, 3) := by decide +kernel
theorem dX4_facedSo_58 : decode cX4_facedSo 58 = .ok (.if_icmp .ne 7, 3) := by decide +kernel
theorem dX4_facedSo_61 : decode cX4_facedSo 61 = .ok (.iconst 1, 1) := by decide +kernel
theorem dX4_facedSo_62 : decode cX4_facedSo 62 = .ok (.goto 4, 3) := by decide +kernel
theorem dX4_facedSo_65 : decode cX4_facedSo 65 = .ok (.iconst 0, 1) := by decide +kernel
theorem dX4_facedSo_66 : decode cX4_facedSo 66 = .ok (.istore_n 3, 1) := by decide +kernel
theorem dX4_facedSo_67 : decode cX4_facedSo 67 = .ok (.aload_n 0, 1) := by decide +kernel
theorem dX4_facedSo_68 : decode cX4_facedSo 68 = .ok (.invokevirtual 162, 3) := by decide +kernel
theorem dX4_facedSo_71 : decode cX4_facedSo 71 = .ok (.iinc 4 1, 3) := by decide +kernel
theorem dX4_facedSo_74 : decode cX4_facedSo 74 = .ok (.goto (-58), 3) := by decide +kernel
theorem dX4_facedSo_77 : decode cX4_facedSo 77 = .ok (.aload_n 0, 1) := by decide +kernel
theorem dX4_facedSo_78 : decode cX4_facedSo 78 = .ok (.getfield 16, 3) := by decide +kernel
theorem dX4_facedSo_81 : decode cX4_facedSo 81 = .ok (.aload_n 0, 1) := by decide +kernel
theorem dX4_facedSo_82 : decode cX4_facedSo 82 = .ok (.getfield 9, 3) := by decide +kernel
theorem dX4_facedSo_85 : decode cX4_facedSo 85 = .ok (.invokestatic 76, 3) := by decide +kernel
theorem dX4_facedSo_88 : decode cX4_facedSo 88 = .ok (.iload_n 3, 1) := by decide +kernel
theorem dX4_facedSo_89 : decode cX4_facedSo 89 = .ok (.ireturn, 1) := by decide +kernel
theorem dX4_fitting_0 : decode cX4_fitting 0 = .ok (.aload_n 0, 1) := by decide +kernel
theorem dX4_fitting_1 : decode cX4_fitting 1 = .ok (.iload_n 2, 1) := by decide +kernel
theorem dX4_fitting_2 : decode cX4_fitting 2 = .ok (.iload_n 3, 1) := by decide +kernel
theorem dX4_fitting_3 : decode cX4_fitting 3 = .ok (.invokevirtual 108, 3) := by decide +kernel
theorem dX4_fitting_6 : decode cX4_fitting 6 = .ok (.istore 6, 2) := by decide +kernel
theorem dX4_fitting_8 : decode cX4_fitting 8 = .ok (.iconst 0, 1) := by decide +kernel
theorem dX4_fitting_9 : decode cX4_fitting 9 = .ok (.istore 7, 2) := by decide +kernel
theorem dX4_fitting_11 : decode cX4_fitting 11 = .ok (.iload 4, 2) := by decide +kernel
theorem dX4_fitting_13 : decode cX4_fitting 13 = .ok (.istore 8, 2) := by decide +kernel
theorem dX4_fitting_15 : decode cX4_fitting 15 = .ok (.iload 8, 2) := by decide +kernel
theorem dX4_fitting_17 : decode cX4_fitting 17 = .ok (.iload 5, 2) := by decide +kernel
theorem dX4_fitting_19 : decode cX4_fitting 19 = .ok (.if_icmp .gt 46, 3) := by decide +kernel
theorem dX4_fitting_22 : decode cX4_fitting 22 = .ok (.aload_n 0, 1) := by decide +kernel
theorem dX4_fitting_23 : decode cX4_fitting 23 = .ok (.getfield 9, 3) := by decide +kernel
theorem dX4_fitting_26 : decode cX4_fitting 26 = .ok (.iload_n 2, 1) := by decide +kernel
theorem dX4_fitting_27 : decode cX4_fitting 27 = .ok (.iload_n 3, 1) := by decide +kernel
theorem dX4_fitting_28 : decode cX4_fitting 28 = .ok (.invokestatic 93, 3) := by decide +kernel
theorem dX4_fitting_31 : decode cX4_fitting 31 = .ok (.iload 8, 2) := by decide +kernel
theorem dX4_fitting_33 : decode cX4_fitting 33 = .ok (.iastore, 1) := by decide +kernel
theorem dX4_fitting_34 : decode cX4_fitting 34 = .ok (.iload 7, 2) := by decide +kernel
theorem dX4_fitting_36 : decode cX4_fitting 36 = .ok (.aload_n 0, 1) := by decide +kernel
theorem dX4_fitting_37 : decode cX4_fitting 37 = .ok (.iload_n 1, 1) := by decide +kernel
theorem dX4_fitting_38 : decode cX4_fitting 38 = .ok (.iload_n 2, 1) := by decide +kernel
theorem dX4_fitting_39 : decode cX4_fitting 39 = .ok (.invokevirtual 237, 3) := by decide +kernel
theorem dX4_fitting_42 : decode cX4_fitting 42 = .ok (.ifCond .eq 13, 3) := by decide +kernel
theorem dX4_fitting_45 : decode cX4_fitting 45 = .ok (.iconst 1, 1) := by decide +kernel
theorem dX4_fitting_46 : decode cX4_fitting 46 = .ok (.iload 8, 2) := by decide +kernel
theorem dX4_fitting_48 : decode cX4_fitting 48 = .ok (.iload 4, 2) := by decide +kernel
theorem dX4_fitting_50 : decode cX4_fitting 50 = .ok (.isub, 1) := by decide +kernel
theorem dX4_fitting_51 : decode cX4_fitting 51 = .ok (.ishl, 1) := by decide +kernel
theorem dX4_fitting_52 : decode cX4_fitting 52 = .ok (.goto 4, 3) := by decide +kernel
theorem dX4_fitting_55 : decode cX4_fitting 55 = .ok (.iconst 0, 1) := by decide +kernel
theorem dX4_fitting_56 : decode cX4_fitting 56 = .ok (.ior, 1) := by decide +kernel
theorem dX4_fitting_57 : decode cX4_fitting 57 = .ok (.istore 7, 2) := by decide +kernel
theorem dX4_fitting_59 : decode cX4_fitting 59 = .ok (.iinc 8 1, 3) := by decide +kernel
theorem dX4_fitting_62 : decode cX4_fitting 62 = .ok (.goto (-47), 3) := by decide +kernel
theorem dX4_fitting_65 : decode cX4_fitting 65 = .ok (.aload_n 0, 1) := by decide +kernel
theorem dX4_fitting_66 : decode cX4_fitting 66 = .ok (.getfield 9, 3) := by decide +kernel
theorem dX4_fitting_69 : decode cX4_fitting 69 = .ok (.iload_n 2, 1) := by decide +kernel
theorem dX4_fitting_70 : decode cX4_fitting 70 = .ok (.iload_n 3, 1) := by decide +kernel
theorem dX4_fitting_71 : decode cX4_fitting 71 = .ok (.invokestatic 93, 3) := by decide +kernel
theorem dX4_fitting_74 : decode cX4_fitting 74 = .ok (.iload 6, 2) := by decide +kernel
theorem dX4_fitting_76 : decode cX4_fitting 76 = .ok (.iastore, 1) := by decide +kernel
theorem dX4_fitting_77 : decode cX4_fitting 77 = .ok (.iload 7, 2) := by decide +kernel
theorem dX4_fitting_79 : decode cX4_fitting 79 = .ok (.ireturn, 1) := by decide +kernel
theorem dX4_fits_0 : decode cX4_fits 0 = .ok (.aload_n 0, 1) := by decide +kernel
theorem dX4_fits_1 : decode cX4_fits 1 = .ok (.iload_n 1, 1) := by decide +kernel
theorem dX4_fits_2 : decode cX4_fits 2 = .ok (.iload_n 2, 1) := by decide +kernel
theorem dX4_fits_3 : decode cX4_fits 3 = .ok (.invokevirtual 240, 3) := by decide +kernel
theorem dX4_fits_6 : decode cX4_fits 6 = .ok (.ifCond .eq 16, 3) := by decide +kernel
theorem dX4_fits_9 : decode cX4_fits 9 = .ok (.aload_n 0, 1) := by decide +kernel
theorem dX4_fits_10 : decode cX4_fits 10 = .ok (.aload_n 0, 1) := by decide +kernel
theorem dX4_fits_11 : decode cX4_fits 11 = .ok (.iload_n 1, 1) := by decide +kernel
theorem dX4_fits_12 : decode cX4_fits 12 = .ok (.iload_n 2, 1) := by decide +kernel
theorem dX4_fits_13 : decode cX4_fits 13 = .ok (.invokevirtual 240, 3) := by decide +kernel
theorem dX4_fits_16 : decode cX4_fits 16 = .ok (.invokevirtual 81, 3) := by decide +kernel
theorem dX4_fits_19 : decode cX4_fits 19 = .ok (.goto 16, 3) := by decide +kernel
theorem dX4_fits_22 : decode cX4_fits 22 = .ok (.aload_n 0, 1) := by decide +kernel
theorem dX4_fits_23 : decode cX4_fits 23 = .ok (.iload_n 1, 1) := by decide +kernel
theorem dX4_fits_24 : decode cX4_fits 24 = .ok (.iload_n 2, 1) := by decide +kernel
theorem dX4_fits_25 : decode cX4_fits 25 = .ok (.iconst 2, 1) := by decide +kernel
theorem dX4_fits_26 : decode cX4_fits 26 = .ok (.bipush (-5), 2) := by decide +kernel
theorem dX4_fits_28 : decode cX4_fits 28 = .ok (.iconst 5, 1) := by decide +kernel
theorem dX4_fits_29 : decode cX4_fits 29 = .ok (.invokevirtual 243, 3) := by decide +kernel
theorem dX4_fits_32 : decode cX4_fits 32 = .ok (.invokestatic 123, 3) := by decide +kernel
theorem dX4_fits_35 : decode cX4_fits 35 = .ok (.ireturn, 1) := by decide +kernel
theorem dX4_step_0 : decode cX4_step 0 = .ok (.aload_n 0, 1) := by decide +kernel
theorem dX4_step_1 : decode cX4_step 1 = .ok (.iload_n 1, 1) := by decide +kernel
theorem dX4_step_2 : decode cX4_step 2 = .ok (.iload_n 2, 1) := by decide +kernel
theorem dX4_step_3 : decode cX4_step 3 = .ok (.invokevirtual 240, 3) := by decide +kernel
theorem dX4_step_6 : decode cX4_step 6 = .ok (.ifCond .eq 14, 3) := by decide +kernel
theorem dX4_step_9 : decode cX4_step 9 = .ok (.aload_n 0, 1) := by decide +kernel
theorem dX4_step_10 : decode cX4_step 10 = .ok (.aload_n 0, 1) := by decide +kernel
theorem dX4_step_11 : decode cX4_step 11 = .ok (.iload_n 1, 1) := by decide +kernel
theorem dX4_step_12 : decode cX4_step 12 = .ok (.iload_n 2, 1) := by decide +kernel
theorem dX4_step_13 : decode cX4_step 13 = .ok (.invokevirtual 240, 3) := by decide +kernel
theorem dX4_step_16 : decode cX4_step 16 = .ok (.invokevirtual 81, 3) := by decide +kernel
theorem dX4_step_19 : decode cX4_step 19 = .ok (.ireturn, 1) := by decide +kernel
theorem dX4_step_20 : decode cX4_step 20 = .ok (.aload_n 0, 1) := by decide +kernel
theorem dX4_step_21 : decode cX4_step 21 = .ok (.iload_n 1, 1) := by decide +kernel
theorem dX4_step_22 : decode cX4_step 22 = .ok (.iload_n 2, 1) := by decide +kernel
theorem dX4_step_23 : decode cX4_step 23 = .ok (.iconst 2, 1) := by decide +kernel
theorem dX4_step_24 : decode cX4_step 24 = .ok (.bipush (-5), 2) := by decide +kernel
theorem dX4_step_26 : decode cX4_step 26 = .ok (.iconst 5, 1) := by decide +kernel
theorem dX4_step_27 : decode cX4_step 27 = .ok (.invokevirtual 243, 3) := by decide +kernel
theorem dX4_step_30 : decode cX4_step 30 = .ok (.istore_n 3, 1) := by decide +kernel
theorem dX4_step_31 : decode cX4_step 31 = .ok (.iload_n 3, 1) := by decide +kernel
theorem dX4_step_32 : decode cX4_step 32 = .ok (.ifCond .ne 12, 3) := by decide +kernel
theorem dX4_step_35 : decode cX4_step 35 = .ok (.aload_n 0, 1) := by decide +kernel
theorem dX4_step_36 : decode cX4_step 36 = .ok (.ldc 80, 2) := by decide +kernel
theorem dX4_step_38 : decode cX4_step 38 = .ok (.invokevirtual 81, 3) := by decide +kernel
theorem dX4_step_41 : decode cX4_step 41 = .ok (.goto 14, 3) := by decide +kernel
theorem dX4_step_44 : decode cX4_step 44 = .ok (.iload_n 3, 1) := by decide +kernel
theorem dX4_step_45 : decode cX4_step 45 = .ok (.iload_n 3, 1) := by decide +kernel
theorem dX4_step_46 : decode cX4_step 46 = .ok (.ineg, 1) := by decide +kernel
theorem dX4_step_47 : decode cX4_step 47 = .ok (.iand, 1) := by decide +kernel
theorem dX4_step_48 : decode cX4_step 48 = .ok (.iconst 1, 1) := by decide +kernel
theorem dX4_step_49 : decode cX4_step 49 = .ok (.isub, 1) := by decide +kernel
theorem dX4_step_50 : decode cX4_step 50 = .ok (.invokestatic 123, 3) := by decide +kernel
theorem dX4_step_53 : decode cX4_step 53 = .ok (.iconst 5, 1) := by decide +kernel
theorem dX4_step_54 : decode cX4_step 54 = .ok (.isub, 1) := by decide +kernel
theorem dX4_step_55 : decode cX4_step 55 = .ok (.ireturn, 1) := by decide +kernel
theorem dX4_kinds_0 : decode cX4_kinds 0 = .ok (.aload_n 0, 1) := by decide +kernel
theorem dX4_kinds_1 : decode cX4_kinds 1 = .ok (.iload_n 1, 1) := by decide +kernel
theorem dX4_kinds_2 : decode cX4_kinds 2 = .ok (.iload_n 2, 1) := by decide +kernel
theorem dX4_kinds_3 : decode cX4_kinds 3 = .ok (.invokevirtual 240, 3) := by decide +kernel
theorem dX4_kinds_6 : decode cX4_kinds 6 = .ok (.ifCond .eq 16, 3) := by decide +kernel
theorem dX4_kinds_9 : decode cX4_kinds 9 = .ok (.aload_n 0, 1) := by decide +kernel
theorem dX4_kinds_10 : decode cX4_kinds 10 = .ok (.aload_n 0, 1) := by decide +kernel
theorem dX4_kinds_11 : decode cX4_kinds 11 = .ok (.iload_n 1, 1) := by decide +kernel
theorem dX4_kinds_12 : decode cX4_kinds 12 = .ok (.iload_n 2, 1) := by decide +kernel
theorem dX4_kinds_13 : decode cX4_kinds 13 = .ok (.invokevirtual 240, 3) := by decide +kernel
theorem dX4_kinds_16 : decode cX4_kinds 16 = .ok (.invokevirtual 81, 3) := by decide +kernel
theorem dX4_kinds_19 : decode cX4_kinds 19 = .ok (.goto 13, 3) := by decide +kernel
theorem dX4_kinds_22 : decode cX4_kinds 22 = .ok (.aload_n 0, 1) := by decide +kernel
theorem dX4_kinds_23 : decode cX4_kinds 23 = .ok (.iload_n 1, 1) := by decide +kernel
theorem dX4_kinds_24 : decode cX4_kinds 24 = .ok (.iload_n 2, 1) := by decide +kernel
theorem dX4_kinds_25 : decode cX4_kinds 25 = .ok (.iconst 0, 1) := by decide +kernel
theorem dX4_kinds_26 : decode cX4_kinds 26 = .ok (.iconst 0, 1) := by decide +kernel
theorem dX4_kinds_27 : decode cX4_kinds 27 = .ok (.bipush 6, 2) := by decide +kernel
theorem dX4_kinds_29 : decode cX4_kinds 29 = .ok (.invokevirtual 243, 3) := by decide +kernel
theorem dX4_kinds_32 : decode cX4_kinds 32 = .ok (.ireturn, 1) := by decide +kernel
theorem dX4_drawn_0 : decode cX4_drawn 0 = .ok (.aload_n 0, 1) := by decide +kernel
theorem dX4_drawn_1 : decode cX4_drawn 1 = .ok (.getfield 9, 3) := by decide +kernel
theorem dX4_drawn_4 : decode cX4_drawn 4 = .ok (.iconst 2, 1) := by decide +kernel
theorem dX4_drawn_5 : decode cX4_drawn 5 = .ok (.aload_n 0, 1) := by decide +kernel
theorem dX4_drawn_6 : decode cX4_drawn 6 = .ok (.getfield 9, 3) := by decide +kernel
theorem dX4_drawn_9 : decode cX4_drawn 9 = .ok (.iconst 2, 1) := by decide +kernel
theorem dX4_drawn_10 : decode cX4_drawn 10 = .ok (.iaload, 1) := by decide +kernel
theorem dX4_drawn_11 : decode cX4_drawn 11 = .ok (.ldc 246, 2) := by decide +kernel
theorem dX4_drawn_13 : decode cX4_drawn 13 = .ok (.imul, 1) := by decide +kernel
theorem dX4_drawn_14 : decode cX4_drawn 14 = .ok (.sipush 12345, 3) := by decide +kernel
theorem dX4_drawn_17 : decode cX4_drawn 17 = .ok (.iadd, 1) := by decide +kernel
theorem dX4_drawn_18 : decode cX4_drawn 18 = .ok (.iastore, 1) := by decide +kernel
theorem dX4_drawn_19 : decode cX4_drawn 19 = .ok (.aload_n 0, 1) := by decide +kernel
theorem dX4_drawn_20 : decode cX4_drawn 20 = .ok (.getfield 9, 3) := by decide +kernel
theorem dX4_drawn_23 : decode cX4_drawn 23 = .ok (.iconst 2, 1) := by decide +kernel
theorem dX4_drawn_24 : decode cX4_drawn 24 = .ok (.iaload, 1) := by decide +kernel
theorem dX4_drawn_25 : decode cX4_drawn 25 = .ok (.bipush 8, 2) := by decide +kernel
theorem dX4_drawn_27 : decode cX4_drawn 27 = .ok (.iushr, 1) := by decide +kernel
theorem dX4_drawn_28 : decode cX4_drawn 28 = .ok (.ireturn, 1) := by decide +kernel
theorem dX4_rains_0 : decode cX4_rains 0 = .ok (.iload_n 1, 1) := by decide +kernel
theorem dX4_rains_1 : decode cX4_rains 1 = .ok (.iconst 1, 1) := by decide +kernel
theorem dX4_rains_2 : decode cX4_rains 2 = .ok (.bipush 20, 2) := by decide +kernel
theorem dX4_rains_4 : decode cX4_rains 4 = .ok (.invokestatic 85, 3) := by decide +kernel
theorem dX4_rains_7 : decode cX4_rains 7 = .ok (.ifCond .ne 10, 3) := by decide +kernel
theorem dX4_rains_10 : decode cX4_rains 10 = .ok (.aload_n 0, 1) := by decide +kernel
theorem dX4_rains_11 : decode cX4_rains 11 = .ok (.ldc 75, 2) := by decide +kernel
theorem dX4_rains_13 : decode cX4_rains 13 = .ok (.invokevirtual 81, 3) := by decide +kernel
theorem dX4_rains_16 : decode cX4_rains 16 = .ok (.ireturn, 1) := by decide +kernel
theorem dX4_rains_17 : decode cX4_rains 17 = .ok (.aload_n 0, 1) := by decide +kernel
theorem dX4_rains_18 : decode cX4_rains 18 = .ok (.getfield 9, 3) := by decide +kernel
theorem dX4_rains_21 : decode cX4_rains 21 = .ok (.iconst 0, 1) := by decide +kernel
theorem dX4_rains_22 : decode cX4_rains 22 = .ok (.iaload, 1) := by decide +kernel
theorem dX4_rains_23 : decode cX4_rains 23 = .ok (.iload_n 1, 1) := by decide +kernel
theorem dX4_rains_24 : decode cX4_rains 24 = .ok (.iadd, 1) := by decide +kernel
theorem dX4_rains_25 : decode cX4_rains 25 = .ok (.ldc 165, 2) := by decide +kernel
theorem dX4_rains_27 : decode cX4_rains 27 = .ok (.if_icmp .le 10, 3) := by decide +kernel
theorem dX4_rains_30 : decode cX4_rains 30 = .ok (.aload_n 0, 1) := by decide +kernel
