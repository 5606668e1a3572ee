theorem dX9_clear_24 : decode cX9_clear 24 = .ok (.aload_n 0, 1) := by decide +kernel
theorem dX9_clear_25 : decode cX9_clear 25 = .ok (.getfield 21, 3) := by decide +kernel
theorem dX9_clear_28 : decode cX9_clear 28 = .ok (.iconst 0, 1) := by decide +kernel
theorem dX9_clear_29 : decode cX9_clear 29 = .ok (.invokestatic 27, 3) := by decide +kernel
theorem dX9_clear_32 : decode cX9_clear 32 = .ok (.aload_n 0, 1) := by decide +kernel
theorem dX9_clear_33 : decode cX9_clear 33 = .ok (.getfield 24, 3) := by decide +kernel
theorem dX9_clear_36 : decode cX9_clear 36 = .ok (.iconst 0, 1) := by decide +kernel
theorem dX9_clear_37 : decode cX9_clear 37 = .ok (.invokestatic 27, 3) := by decide +kernel
theorem dX9_clear_40 : decode cX9_clear 40 = .ok (.aload_n 0, 1) := by decide +kernel
theorem dX9_clear_41 : decode cX9_clear 41 = .ok (.iconst 0, 1) := by decide +kernel
theorem dX9_clear_42 : decode cX9_clear 42 = .ok (.putfield 33, 3) := by decide +kernel
theorem dX9_clear_45 : decode cX9_clear 45 = .ok (.aload_n 0, 1) := by decide +kernel
theorem dX9_clear_46 : decode cX9_clear 46 = .ok (.iconst 0, 1) := by decide +kernel
theorem dX9_clear_47 : decode cX9_clear 47 = .ok (.putfield 37, 3) := by decide +kernel
theorem dX9_clear_50 : decode cX9_clear 50 = .ok (.return_, 1) := by decide +kernel
theorem dX9_startDay_0 : decode cX9_startDay 0 = .ok (.aload_n 0, 1) := by decide +kernel
theorem dX9_startDay_1 : decode cX9_startDay 1 = .ok (.getfield 21, 3) := by decide +kernel
theorem dX9_startDay_4 : decode cX9_startDay 4 = .ok (.iconst 0, 1) := by decide +kernel
theorem dX9_startDay_5 : decode cX9_startDay 5 = .ok (.invokestatic 27, 3) := by decide +kernel
theorem dX9_startDay_8 : decode cX9_startDay 8 = .ok (.aload_n 0, 1) := by decide +kernel
theorem dX9_startDay_9 : decode cX9_startDay 9 = .ok (.iconst 0, 1) := by decide +kernel
theorem dX9_startDay_10 : decode cX9_startDay 10 = .ok (.putfield 37, 3) := by decide +kernel
theorem dX9_startDay_13 : decode cX9_startDay 13 = .ok (.aload_n 0, 1) := by decide +kernel
theorem dX9_startDay_14 : decode cX9_startDay 14 = .ok (.dup, 1) := by decide +kernel
theorem dX9_startDay_15 : decode cX9_startDay 15 = .ok (.getfield 33, 3) := by decide +kernel
theorem dX9_startDay_18 : decode cX9_startDay 18 = .ok (.iconst 1, 1) := by decide +kernel
theorem dX9_startDay_19 : decode cX9_startDay 19 = .ok (.iadd, 1) := by decide +kernel
theorem dX9_startDay_20 : decode cX9_startDay 20 = .ok (.putfield 33, 3) := by decide +kernel
theorem dX9_startDay_23 : decode cX9_startDay 23 = .ok (.return_, 1) := by decide +kernel
theorem dX10_init_0 : decode cX10_init 0 = .ok (.aload_n 0, 1) := by decide +kernel
theorem dX10_init_1 : decode cX10_init 1 = .ok (.invokespecial 1, 3) := by decide +kernel
theorem dX10_init_4 : decode cX10_init 4 = .ok (.aload_n 0, 1) := by decide +kernel
theorem dX10_init_5 : decode cX10_init 5 = .ok (.bipush 6, 2) := by decide +kernel
theorem dX10_init_7 : decode cX10_init 7 = .ok (.anewarray 9, 3) := by decide +kernel
theorem dX10_init_10 : decode cX10_init 10 = .ok (.putfield 11, 3) := by decide +kernel
theorem dX10_init_13 : decode cX10_init 13 = .ok (.aload_n 0, 1) := by decide +kernel
theorem dX10_init_14 : decode cX10_init 14 = .ok (.iconst 4, 1) := by decide +kernel
theorem dX10_init_15 : decode cX10_init 15 = .ok (.anewarray 9, 3) := by decide +kernel
theorem dX10_init_18 : decode cX10_init 18 = .ok (.putfield 15, 3) := by decide +kernel
theorem dX10_init_21 : decode cX10_init 21 = .ok (.aload_n 0, 1) := by decide +kernel
theorem dX10_init_22 : decode cX10_init 22 = .ok (.new 18, 3) := by decide +kernel
theorem dX10_init_25 : decode cX10_init 25 = .ok (.dup, 1) := by decide +kernel
theorem dX10_init_26 : decode cX10_init 26 = .ok (.invokespecial 20, 3) := by decide +kernel
theorem dX10_init_29 : decode cX10_init 29 = .ok (.putfield 21, 3) := by decide +kernel
theorem dX10_init_32 : decode cX10_init 32 = .ok (.aload_n 0, 1) := by decide +kernel
theorem dX10_init_33 : decode cX10_init 33 = .ok (.new 25, 3) := by decide +kernel
theorem dX10_init_36 : decode cX10_init 36 = .ok (.dup, 1) := by decide +kernel
theorem dX10_init_37 : decode cX10_init 37 = .ok (.invokespecial 27, 3) := by decide +kernel
theorem dX10_init_40 : decode cX10_init 40 = .ok (.putfield 28, 3) := by decide +kernel
theorem dX10_init_43 : decode cX10_init 43 = .ok (.aload_n 0, 1) := by decide +kernel
theorem dX10_init_44 : decode cX10_init 44 = .ok (.new 32, 3) := by decide +kernel
theorem dX10_init_47 : decode cX10_init 47 = .ok (.dup, 1) := by decide +kernel
theorem dX10_init_48 : decode cX10_init 48 = .ok (.invokespecial 34, 3) := by decide +kernel
theorem dX10_init_51 : decode cX10_init 51 = .ok (.putfield 35, 3) := by decide +kernel
theorem dX10_init_54 : decode cX10_init 54 = .ok (.aload_n 0, 1) := by decide +kernel
theorem dX10_init_55 : decode cX10_init 55 = .ok (.new 39, 3) := by decide +kernel
theorem dX10_init_58 : decode cX10_init 58 = .ok (.dup, 1) := by decide +kernel
theorem dX10_init_59 : decode cX10_init 59 = .ok (.iconst 3, 1) := by decide +kernel
theorem dX10_init_60 : decode cX10_init 60 = .ok (.invokespecial 41, 3) := by decide +kernel
theorem dX10_init_63 : decode cX10_init 63 = .ok (.putfield 44, 3) := by decide +kernel
theorem dX10_init_66 : decode cX10_init 66 = .ok (.aload_n 0, 1) := by decide +kernel
theorem dX10_init_67 : decode cX10_init 67 = .ok (.iconst 3, 1) := by decide +kernel
theorem dX10_init_68 : decode cX10_init 68 = .ok (.newarray .int, 2) := by decide +kernel
theorem dX10_init_70 : decode cX10_init 70 = .ok (.putfield 48, 3) := by decide +kernel
theorem dX10_init_73 : decode cX10_init 73 = .ok (.aload_n 0, 1) := by decide +kernel
theorem dX10_init_74 : decode cX10_init 74 = .ok (.new 52, 3) := by decide +kernel
theorem dX10_init_77 : decode cX10_init 77 = .ok (.dup, 1) := by decide +kernel
theorem dX10_init_78 : decode cX10_init 78 = .ok (.invokespecial 54, 3) := by decide +kernel
theorem dX10_init_81 : decode cX10_init 81 = .ok (.putfield 55, 3) := by decide +kernel
theorem dX10_init_84 : decode cX10_init 84 = .ok (.aload_n 0, 1) := by decide +kernel
theorem dX10_init_85 : decode cX10_init 85 = .ok (.new 59, 3) := by decide +kernel
theorem dX10_init_88 : decode cX10_init 88 = .ok (.dup, 1) := by decide +kernel
theorem dX10_init_89 : decode cX10_init 89 = .ok (.invokespecial 61, 3) := by decide +kernel
theorem dX10_init_92 : decode cX10_init 92 = .ok (.putfield 62, 3) := by decide +kernel
theorem dX10_init_95 : decode cX10_init 95 = .ok (.aload_n 0, 1) := by decide +kernel
theorem dX10_init_96 : decode cX10_init 96 = .ok (.bipush 6, 2) := by decide +kernel
theorem dX10_init_98 : decode cX10_init 98 = .ok (.newarray .int, 2) := by decide +kernel
theorem dX10_init_100 : decode cX10_init 100 = .ok (.putfield 66, 3) := by decide +kernel
theorem dX10_init_103 : decode cX10_init 103 = .ok (.aload_n 0, 1) := by decide +kernel
theorem dX10_init_104 : decode cX10_init 104 = .ok (.new 69, 3) := by decide +kernel
theorem dX10_init_107 : decode cX10_init 107 = .ok (.dup, 1) := by decide +kernel
theorem dX10_init_108 : decode cX10_init 108 = .ok (.invokespecial 71, 3) := by decide +kernel
theorem dX10_init_111 : decode cX10_init 111 = .ok (.putfield 72, 3) := by decide +kernel
theorem dX10_init_114 : decode cX10_init 114 = .ok (.aload_n 0, 1) := by decide +kernel
theorem dX10_init_115 : decode cX10_init 115 = .ok (.new 69, 3) := by decide +kernel
theorem dX10_init_118 : decode cX10_init 118 = .ok (.dup, 1) := by decide +kernel
theorem dX10_init_119 : decode cX10_init 119 = .ok (.invokespecial 71, 3) := by decide +kernel
theorem dX10_init_122 : decode cX10_init 122 = .ok (.putfield 76, 3) := by decide +kernel
theorem dX10_init_125 : decode cX10_init 125 = .ok (.iconst 0, 1) := by decide +kernel
theorem dX10_init_126 : decode cX10_init 126 = .ok (.istore_n 1, 1) := by decide +kernel
theorem dX10_init_127 : decode cX10_init 127 = .ok (.iload_n 1, 1) := by decide +kernel
theorem dX10_init_128 : decode cX10_init 128 = .ok (.bipush 6, 2) := by decide +kernel
theorem dX10_init_130 : decode cX10_init 130 = .ok (.if_icmp .ge 22, 3) := by decide +kernel
theorem dX10_init_133 : decode cX10_init 133 = .ok (.aload_n 0, 1) := by decide +kernel
theorem dX10_init_134 : decode cX10_init 134 = .ok (.getfield 11, 3) := by decide +kernel
theorem dX10_init_137 : decode cX10_init 137 = .ok (.iload_n 1, 1) := by decide +kernel
theorem dX10_init_138 : decode cX10_init 138 = .ok (.new 9, 3) := by decide +kernel
theorem dX10_init_141 : decode cX10_init 141 = .ok (.dup, 1) := by decide +kernel
theorem dX10_init_142 : decode cX10_init 142 = .ok (.invokespecial 79, 3) := by decide +kernel
theorem dX10_init_145 : decode cX10_init 145 = .ok (.aastore, 1) := by decide +kernel
theorem dX10_init_146 : decode cX10_init 146 = .ok (.iinc 1 1, 3) := by decide +kernel
theorem dX10_init_149 : decode cX10_init 149 = .ok (.goto (-22), 3) := by decide +kernel
theorem dX10_init_152 : decode cX10_init 152 = .ok (.iconst 0, 1) := by decide +kernel
theorem dX10_init_153 : decode cX10_init 153 = .ok (.istore_n 1, 1) := by decide +kernel
theorem dX10_init_154 : decode cX10_init 154 = .ok (.iload_n 1, 1) := by decide +kernel
theorem dX10_init_155 : decode cX10_init 155 = .ok (.iconst 4, 1) := by decide +kernel
theorem dX10_init_156 : decode cX10_init 156 = .ok (.if_icmp .ge 22, 3) := by decide +kernel
theorem dX10_init_159 : decode cX10_init 159 = .ok (.aload_n 0, 1) := by decide +kernel
theorem dX10_init_160 : decode cX10_init 160 = .ok (.getfield 15, 3) := by decide +kernel
theorem dX10_init_163 : decode cX10_init 163 = .ok (.iload_n 1, 1) := by decide +kernel
theorem dX10_init_164 : decode cX10_init 164 = .ok (.new 9, 3) := by decide +kernel
theorem dX10_init_167 : decode cX10_init 167 = .ok (.dup, 1) := by decide +kernel
theorem dX10_init_168 : decode cX10_init 168 = .ok (.invokespecial 79, 3) := by decide +kernel
theorem dX10_init_171 : decode cX10_init 171 = .ok (.aastore, 1) := by decide +kernel
theorem dX10_init_172 : decode cX10_init 172 = .ok (.iinc 1 1, 3) := by decide +kernel
theorem dX10_init_175 : decode cX10_init 175 = .ok (.goto (-21), 3) := by decide +kernel
theorem dX10_init_178 : decode cX10_init 178 = .ok (.aload_n 0, 1) := by decide +kernel
theorem dX10_init_179 : decode cX10_init 179 = .ok (.getfield 48, 3) := by decide +kernel
theorem dX10_init_182 : decode cX10_init 182 = .ok (.iconst (-1), 1) := by decide +kernel
theorem dX10_init_183 : decode cX10_init 183 = .ok (.invokestatic 80, 3) := by decide +kernel
theorem dX10_init_186 : decode cX10_init 186 = .ok (.return_, 1) := by decide +kernel
theorem dX10_row_0 : decode cX10_row 0 = .ok (.iload_n 1, 1) := by decide +kernel
theorem dX10_row_1 : decode cX10_row 1 = .ok (.iconst 0, 1) := by decide +kernel
theorem dX10_row_2 : decode cX10_row 2 = .ok (.iconst 5, 1) := by decide +kernel
theorem dX10_row_3 : decode cX10_row 3 = .ok (.invokestatic 86, 3) := by decide +kernel
theorem dX10_row_6 : decode cX10_row 6 = .ok (.ifCond .eq 18, 3) := by decide +kernel
theorem dX10_row_9 : decode cX10_row 9 = .ok (.aload_n 0, 1) := by decide +kernel
theorem dX10_row_10 : decode cX10_row 10 = .ok (.aload_n 0, 1) := by decide +kernel
theorem dX10_row_11 : decode cX10_row 11 = .ok (.getfield 11, 3) := by decide +kernel
theorem dX10_row_14 : decode cX10_row 14 = .ok (.iload_n 1, 1) := by decide +kernel
theorem dX10_row_15 : decode cX10_row 15 = .ok (.aaload, 1) := by decide +kernel
theorem dX10_row_16 : decode cX10_row 16 = .ok (.iload_n 2, 1) := by decide +kernel
theorem dX10_row_17 : decode cX10_row 17 = .ok (.iconst 0, 1) := by decide +kernel
theorem dX10_row_18 : decode cX10_row 18 = .ok (.invokevirtual 90, 3) := by decide +kernel
theorem dX10_row_21 : decode cX10_row 21 = .ok (.goto 4, 3) := by decide +kernel
theorem dX10_row_24 : decode cX10_row 24 = .ok (.iconst (-1), 1) := by decide +kernel
theorem dX10_row_25 : decode cX10_row 25 = .ok (.ireturn, 1) := by decide +kernel
theorem dX10_lay_0 : decode cX10_lay 0 = .ok (.aload_n 0, 1) := by decide +kernel
theorem dX10_lay_1 : decode cX10_lay 1 = .ok (.aload_n 0, 1) := by decide +kernel
theorem dX10_lay_2 : decode cX10_lay 2 = .ok (.getfield 11, 3) := by decide +kernel
theorem dX10_lay_5 : decode cX10_lay 5 = .ok (.iload_n 1, 1) := by decide +kernel
theorem dX10_lay_6 : decode cX10_lay 6 = .ok (.iload_n 2, 1) := by decide +kernel
theorem dX10_lay_7 : decode cX10_lay 7 = .ok (.invokevirtual 94, 3) := by decide +kernel
theorem dX10_lay_10 : decode cX10_lay 10 = .ok (.istore 4, 2) := by decide +kernel
theorem dX10_lay_12 : decode cX10_lay 12 = .ok (.iload 4, 2) := by decide +kernel
theorem dX10_lay_14 : decode cX10_lay 14 = .ok (.ifCond .eq 6, 3) := by decide +kernel
theorem dX10_lay_17 : decode cX10_lay 17 = .ok (.iload 4, 2) := by decide +kernel
theorem dX10_lay_19 : decode cX10_lay 19 = .ok (.ireturn, 1) := by decide +kernel
theorem dX10_lay_20 : decode cX10_lay 20 = .ok (.aload_n 0, 1) := by decide +kernel
theorem dX10_lay_21 : decode cX10_lay 21 = .ok (.getfield 11, 3) := by decide +kernel
theorem dX10_lay_24 : decode cX10_lay 24 = .ok (.iload_n 1, 1) := by decide +kernel
theorem dX10_lay_25 : decode cX10_lay 25 = .ok (.aaload, 1) := by decide +kernel
theorem dX10_lay_26 : decode cX10_lay 26 = .ok (.getfield 98, 3) := by decide +kernel
theorem dX10_lay_29 : decode cX10_lay 29 = .ok (.iload_n 2, 1) := by decide +kernel
theorem dX10_lay_30 : decode cX10_lay 30 = .ok (.iaload, 1) := by decide +kernel
theorem dX10_lay_31 : decode cX10_lay 31 = .ok (.istore 5, 2) := by decide +kernel
theorem dX10_lay_33 : decode cX10_lay 33 = .ok (.aload_n 0, 1) := by decide +kernel
theorem dX10_lay_34 : decode cX10_lay 34 = .ok (.getfield 11, 3) := by decide +kernel
theorem dX10_lay_37 : decode cX10_lay 37 = .ok (.iload_n 1, 1) := by decide +kernel
theorem dX10_lay_38 : decode cX10_lay 38 = .ok (.aaload, 1) := by decide +kernel
theorem dX10_lay_39 : decode cX10_lay 39 = .ok (.getfield 98, 3) := by decide +kernel
theorem dX10_lay_42 : decode cX10_lay 42 = .ok (.iload_n 2, 1) := by decide +kernel
theorem dX10_lay_43 : decode cX10_lay 43 = .ok (.iload_n 3, 1) := by decide +kernel
theorem dX10_lay_44 : decode cX10_lay 44 = .ok (.iastore, 1) := by decide +kernel
theorem dX10_lay_45 : decode cX10_lay 45 = .ok (.aload_n 0, 1) := by decide +kernel
theorem dX10_lay_46 : decode cX10_lay 46 = .ok (.iconst 1, 1) := by decide +kernel
theorem dX10_lay_47 : decode cX10_lay 47 = .ok (.iload 5, 2) := by decide +kernel
theorem dX10_lay_49 : decode cX10_lay 49 = .ok (.invokevirtual 101, 3) := by decide +kernel
theorem dX10_lay_52 : decode cX10_lay 52 = .ok (.ireturn, 1) := by decide +kernel
theorem dX10_at_0 : decode cX10_at 0 = .ok (.aload_n 0, 1) := by decide +kernel
theorem dX10_at_1 : decode cX10_at 1 = .ok (.aload_n 0, 1) := by decide +kernel
theorem dX10_at_2 : decode cX10_at 2 = .ok (.getfield 11, 3) := by decide +kernel
theorem dX10_at_5 : decode cX10_at 5 = .ok (.iload_n 1, 1) := by decide +kernel
theorem dX10_at_6 : decode cX10_at 6 = .ok (.iload_n 2, 1) := by decide +kernel
theorem dX10_at_7 : decode cX10_at 7 = .ok (.invokevirtual 94, 3) := by decide +kernel
theorem dX10_at_10 : decode cX10_at 10 = .ok (.istore_n 3, 1) := by decide +kernel
theorem dX10_at_11 : decode cX10_at 11 = .ok (.iload_n 3, 1) := by decide +kernel
theorem dX10_at_12 : decode cX10_at 12 = .ok (.ifCond .eq 7, 3) := by decide +kernel
theorem dX10_at_15 : decode cX10_at 15 = .ok (.iload_n 3, 1) := by decide +kernel
theorem dX10_at_16 : decode cX10_at 16 = .ok (.goto 19, 3) := by decide +kernel
theorem dX10_at_19 : decode cX10_at 19 = .ok (.aload_n 0, 1) := by decide +kernel
theorem dX10_at_20 : decode cX10_at 20 = .ok (.iconst 1, 1) := by decide +kernel
theorem dX10_at_21 : decode cX10_at 21 = .ok (.aload_n 0, 1) := by decide +kernel
theorem dX10_at_22 : decode cX10_at 22 = .ok (.getfield 11, 3) := by decide +kernel
theorem dX10_at_25 : decode cX10_at 25 = .ok (.iload_n 1, 1) := by decide +kernel
theorem dX10_at_26 : decode cX10_at 26 = .ok (.aaload, 1) := by decide +kernel
theorem dX10_at_27 : decode cX10_at 27 = .ok (.getfield 98, 3) := by decide +kernel
theorem dX10_at_30 : decode cX10_at 30 = .ok (.iload_n 2, 1) := by decide +kernel
theorem dX10_at_31 : decode cX10_at 31 = .ok (.iaload, 1) := by decide +kernel
theorem dX10_at_32 : decode cX10_at 32 = .ok (.invokevirtual 101, 3) := by decide +kernel
theorem dX10_at_35 : decode cX10_at 35 = .ok (.ireturn, 1) := by decide +kernel
theorem dX10_tear_0 : decode cX10_tear 0 = .ok (.aload_n 0, 1) := by decide +kernel
theorem dX10_tear_1 : decode cX10_tear 1 = .ok (.aload_n 0, 1) := by decide +kernel
theorem dX10_tear_2 : decode cX10_tear 2 = .ok (.getfield 11, 3) := by decide +kernel
theorem dX10_tear_5 : decode cX10_tear 5 = .ok (.iload_n 1, 1) := by decide +kernel
theorem dX10_tear_6 : decode cX10_tear 6 = .ok (.invokevirtual 105, 3) := by decide +kernel
theorem dX10_tear_9 : decode cX10_tear 9 = .ok (.istore_n 2, 1) := by decide +kernel
theorem dX10_tear_10 : decode cX10_tear 10 = .ok (.iload_n 2, 1) := by decide +kernel
theorem dX10_tear_11 : decode cX10_tear 11 = .ok (.ifCond .eq 5, 3) := by decide +kernel
theorem dX10_tear_14 : decode cX10_tear 14 = .ok (.iload_n 2, 1) := by decide +kernel
theorem dX10_tear_15 : decode cX10_tear 15 = .ok (.ireturn, 1) := by decide +kernel
theorem dX10_tear_16 : decode cX10_tear 16 = .ok (.aload_n 0, 1) := by decide +kernel
theorem dX10_tear_17 : decode cX10_tear 17 = .ok (.getfield 11, 3) := by decide +kernel
theorem dX10_tear_20 : decode cX10_tear 20 = .ok (.iload_n 1, 1) := by decide +kernel
theorem dX10_tear_21 : decode cX10_tear 21 = .ok (.aaload, 1) := by decide +kernel
theorem dX10_tear_22 : decode cX10_tear 22 = .ok (.iconst (-1), 1) := by decide +kernel
theorem dX10_tear_23 : decode cX10_tear 23 = .ok (.putfield 109, 3) := by decide +kernel
theorem dX10_tear_26 : decode cX10_tear 26 = .ok (.iconst 1, 1) := by decide +kernel
theorem dX10_tear_27 : decode cX10_tear 27 = .ok (.ireturn, 1) := by decide +kernel
theorem dX10_copy_0 : decode cX10_copy 0 = .ok (.iload_n 1, 1) := by decide +kernel
theorem dX10_copy_1 : decode cX10_copy 1 = .ok (.iconst 0, 1) := by decide +kernel
theorem dX10_copy_2 : decode cX10_copy 2 = .ok (.iconst 5, 1) := by decide +kernel
theorem dX10_copy_3 : decode cX10_copy 3 = .ok (.invokestatic 86, 3) := by decide +kernel
theorem dX10_copy_6 : decode cX10_copy 6 = .ok (.ifCond .eq 12, 3) := by decide +kernel
theorem dX10_copy_9 : decode cX10_copy 9 = .ok (.iload_n 3, 1) := by decide +kernel
theorem dX10_copy_10 : decode cX10_copy 10 = .ok (.iconst 0, 1) := by decide +kernel
theorem dX10_copy_11 : decode cX10_copy 11 = .ok (.iconst 5, 1) := by decide +kernel
theorem dX10_copy_12 : decode cX10_copy 12 = .ok (.invokestatic 86, 3) := by decide +kernel
theorem dX10_copy_15 : decode cX10_copy 15 = .ok (.ifCond .ne 5, 3) := by decide +kernel
theorem dX10_copy_18 : decode cX10_copy 18 = .ok (.iconst (-1), 1) := by decide +kernel
theorem dX10_copy_19 : decode cX10_copy 19 = .ok (.ireturn, 1) := by decide +kernel
theorem dX10_copy_20 : decode cX10_copy 20 = .ok (.iload 5, 2) := by decide +kernel
theorem dX10_copy_22 : decode cX10_copy 22 = .ok (.ifCond .ge 9, 3) := by decide +kernel
theorem dX10_copy_25 : decode cX10_copy 25 = .ok (.aload_n 0, 1) := by decide +kernel
theorem dX10_copy_26 : decode cX10_copy 26 = .ok (.iconst 5, 1) := by decide +kernel
theorem dX10_copy_27 : decode cX10_copy 27 = .ok (.invokevirtual 113, 3) := by decide +kernel
theorem dX10_copy_30 : decode cX10_copy 30 = .ok (.ireturn, 1) := by decide +kernel
theorem dX10_copy_31 : decode cX10_copy 31 = .ok (.aload_n 0, 1) := by decide +kernel
theorem dX10_copy_32 : decode cX10_copy 32 = .ok (.getfield 11, 3) := by decide +kernel
theorem dX10_copy_35 : decode cX10_copy 35 = .ok (.iload_n 1, 1) := by decide +kernel
theorem dX10_copy_36 : decode cX10_copy 36 = .ok (.aaload, 1) := by decide +kernel
theorem dX10_copy_37 : decode cX10_copy 37 = .ok (.astore 6, 2) := by decide +kernel
theorem dX10_copy_39 : decode cX10_copy 39 = .ok (.aload_n 0, 1) := by decide +kernel
theorem dX10_copy_40 : decode cX10_copy 40 = .ok (.getfield 11, 3) := by decide +kernel
theorem dX10_copy_43 : decode cX10_copy 43 = .ok (.iload_n 3, 1) := by decide +kernel
theorem dX10_copy_44 : decode cX10_copy 44 = .ok (.aaload, 1) := by decide +kernel
theorem dX10_copy_45 : decode cX10_copy 45 = .ok (.astore 7, 2) := by decide +kernel
theorem dX10_copy_47 : decode cX10_copy 47 = .ok (.aload 6, 2) := by decide +kernel
theorem dX10_copy_49 : decode cX10_copy 49 = .ok (.invokevirtual 117, 3) := by decide +kernel
theorem dX10_copy_52 : decode cX10_copy 52 = .ok (.ifCond .eq 11, 3) := by decide +kernel
theorem dX10_copy_55 : decode cX10_copy 55 = .ok (.aload 7, 2) := by decide +kernel
theorem dX10_copy_57 : decode cX10_copy 57 = .ok (.invokevirtual 117, 3) := by decide +kernel
theorem dX10_copy_60 : decode cX10_copy 60 = .ok (.ifCond .ne 9, 3) := by decide +kernel
theorem dX10_copy_63 : decode cX10_copy 63 = .ok (.aload_n 0, 1) := by decide +kernel
theorem dX10_copy_64 : decode cX10_copy 64 = .ok (.iconst 1, 1) := by decide +kernel
theorem dX10_copy_65 : decode cX10_copy 65 = .ok (.invokevirtual 113, 3) := by decide +kernel
theorem dX10_copy_68 : decode cX10_copy 68 = .ok (.ireturn, 1) := by decide +kernel
theorem dX10_copy_69 : decode cX10_copy 69 = .ok (.aload 6, 2) := by decide +kernel
theorem dX10_copy_71 : decode cX10_copy 71 = .ok (.iload_n 2, 1) := by decide +kernel
theorem dX10_copy_72 : decode cX10_copy 72 = .ok (.iload 5, 2) := by decide +kernel
theorem dX10_copy_74 : decode cX10_copy 74 = .ok (.invokevirtual 121, 3) := by decide +kernel
theorem dX10_copy_77 : decode cX10_copy 77 = .ok (.ifCond .eq 15, 3) := by decide +kernel
theorem dX10_copy_80 : decode cX10_copy 80 = .ok (.aload 7, 2) := by decide +kernel
theorem dX10_copy_82 : decode cX10_copy 82 = .ok (.iload 4, 2) := by decide +kernel
theorem dX10_copy_84 : decode cX10_copy 84 = .ok (.iload 5, 2) := by decide +kernel
theorem dX10_copy_86 : decode cX10_copy 86 = .ok (.invokevirtual 121, 3) := by decide +kernel
theorem dX10_copy_89 : decode cX10_copy 89 = .ok (.ifCond .ne 9, 3) := by decide +kernel
theorem dX10_copy_92 : decode cX10_copy 92 = .ok (.aload_n 0, 1) := by decide +kernel
theorem dX10_copy_93 : decode cX10_copy 93 = .ok (.iconst 2, 1) := by decide +kernel
theorem dX10_copy_94 : decode cX10_copy 94 = .ok (.invokevirtual 113, 3) := by decide +kernel
theorem dX10_copy_97 : decode cX10_copy 97 = .ok (.ireturn, 1) := by decide +kernel
theorem dX10_copy_98 : decode cX10_copy 98 = .ok (.aload 6, 2) := by decide +kernel
theorem dX10_copy_100 : decode cX10_copy 100 = .ok (.getfield 98, 3) := by decide +kernel
theorem dX10_copy_103 : decode cX10_copy 103 = .ok (.iload_n 2, 1) := by decide +kernel
theorem dX10_copy_104 : decode cX10_copy 104 = .ok (.aload 7, 2) := by decide +kernel
theorem dX10_copy_106 : decode cX10_copy 106 = .ok (.getfield 98, 3) := by decide +kernel
theorem dX10_copy_109 : decode cX10_copy 109 = .ok (.iload 4, 2) := by decide +kernel
theorem dX10_copy_111 : decode cX10_copy 111 = .ok (.iload 5, 2) := by decide +kernel
theorem dX10_copy_113 : decode cX10_copy 113 = .ok (.invokestatic 125, 3) := by decide +kernel
theorem dX10_copy_116 : decode cX10_copy 116 = .ok (.iconst 1, 1) := by decide +kernel
theorem dX10_copy_117 : decode cX10_copy 117 = .ok (.ireturn, 1) := by decide +kernel
theorem dX10_mean_0 : decode cX10_mean 0 = .ok (.aload_n 0, 1) := by decide +kernel
theorem dX10_mean_1 : decode cX10_mean 1 = .ok (.aload_n 0, 1) := by decide +kernel
theorem dX10_mean_2 : decode cX10_mean 2 = .ok (.getfield 11, 3) := by decide +kernel
theorem dX10_mean_5 : decode cX10_mean 5 = .ok (.iload_n 1, 1) := by decide +kernel
theorem dX10_mean_6 : decode cX10_mean 6 = .ok (.invokevirtual 105, 3) := by decide +kernel
theorem dX10_mean_9 : decode cX10_mean 9 = .ok (.istore_n 2, 1) := by decide +kernel
theorem dX10_mean_10 : decode cX10_mean 10 = .ok (.iload_n 2, 1) := by decide +kernel
theorem dX10_mean_11 : decode cX10_mean 11 = .ok (.ifCond .eq 5, 3) := by decide +kernel
theorem dX10_mean_14 : decode cX10_mean 14 = .ok (.iload_n 2, 1) := by decide +kernel
theorem dX10_mean_15 : decode cX10_mean 15 = .ok (.ireturn, 1) := by decide +kernel
theorem dX10_mean_16 : decode cX10_mean 16 = .ok (.aload_n 0, 1) := by decide +kernel
theorem dX10_mean_17 : decode cX10_mean 17 = .ok (.getfield 11, 3) := by decide +kernel
theorem dX10_mean_20 : decode cX10_mean 20 = .ok (.iload_n 1, 1) := by decide +kernel
theorem dX10_mean_21 : decode cX10_mean 21 = .ok (.aaload, 1) := by decide +kernel
theorem dX10_mean_22 : decode cX10_mean 22 = .ok (.astore_n 3, 1) := by decide +kernel
theorem dX10_mean_23 : decode cX10_mean 23 = .ok (.aload_n 3, 1) := by decide +kernel
theorem dX10_mean_24 : decode cX10_mean 24 = .ok (.getfield 109, 3) := by decide +kernel
theorem dX10_mean_27 : decode cX10_mean 27 = .ok (.ifCond .ne 9, 3) := by decide +kernel
theorem dX10_mean_30 : decode cX10_mean 30 = .ok (.aload_n 0, 1) := by decide +kernel
theorem dX10_mean_31 : decode cX10_mean 31 = .ok (.iconst 4, 1) := by decide +kernel
theorem dX10_mean_32 : decode cX10_mean 32 = .ok (.invokevirtual 113, 3) := by decide +kernel
theorem dX10_mean_35 : decode cX10_mean 35 = .ok (.ireturn, 1) := by decide +kernel
theorem dX10_mean_36 : decode cX10_mean 36 = .ok (.aload_n 0, 1) := by decide +kernel
theorem dX10_mean_37 : decode cX10_mean 37 = .ok (.iconst 1, 1) := by decide +kernel
theorem dX10_mean_38 : decode cX10_mean 38 = .ok (.aload_n 3, 1) := by decide +kernel
theorem dX10_mean_39 : decode cX10_mean 39 = .ok (.invokevirtual 131, 3) := by decide +kernel
theorem dX10_mean_42 : decode cX10_mean 42 = .ok (.aload_n 3, 1) := by decide +kernel
theorem dX10_mean_43 : decode cX10_mean 43 = .ok (.getfield 109, 3) := by decide +kernel
theorem dX10_mean_46 : decode cX10_mean 46 = .ok (.i2l, 1) := by decide +kernel
theorem dX10_mean_47 : decode cX10_mean 47 = .ok (.ldiv, 1) := by decide +kernel
theorem dX10_mean_48 : decode cX10_mean 48 = .ok (.l2i, 1) := by decide +kernel
theorem dX10_mean_49 : decode cX10_mean 49 = .ok (.invokevirtual 101, 3) := by decide +kernel
theorem dX10_mean_52 : decode cX10_mean 52 = .ok (.ireturn, 1) := by decide +kernel
theorem dX10_text_0 : decode cX10_text 0 = .ok (.iload_n 1, 1) := by decide +kernel
theorem dX10_text_1 : decode cX10_text 1 = .ok (.iconst 0, 1) := by decide +kernel
theorem dX10_text_2 : decode cX10_text 2 = .ok (.iconst 3, 1) := by decide +kernel
theorem dX10_text_3 : decode cX10_text 3 = .ok (.invokestatic 86, 3) := by decide +kernel
theorem dX10_text_6 : decode cX10_text 6 = .ok (.ifCond .eq 19, 3) := by decide +kernel
theorem dX10_text_9 : decode cX10_text 9 = .ok (.aload_n 0, 1) := by decide +kernel
theorem dX10_text_10 : decode cX10_text 10 = .ok (.aload_n 0, 1) := by decide +kernel
theorem dX10_text_11 : decode cX10_text 11 = .ok (.getfield 15, 3) := by decide +kernel
theorem dX10_text_14 : decode cX10_text 14 = .ok (.iload_n 1, 1) := by decide +kernel
theorem dX10_text_15 : decode cX10_text 15 = .ok (.aaload, 1) := by decide +kernel
theorem dX10_text_16 : decode cX10_text 16 = .ok (.iload_n 2, 1) := by decide +kernel
theorem dX10_text_17 : decode cX10_text 17 = .ok (.bipush 32, 2) := by decide +kernel
theorem dX10_text_19 : decode cX10_text 19 = .ok (.invokevirtual 90, 3) := by decide +kernel
theorem dX10_text_22 : decode cX10_text 22 = .ok (.goto 4, 3) := by decide +kernel
theorem dX10_text_25 : decode cX10_text 25 = .ok (.iconst (-1), 1) := by decide +kernel
theorem dX10_text_26 : decode cX10_text 26 = .ok (.ireturn, 1) := by decide +kernel
theorem dX10_put_0 : decode cX10_put 0 = .ok (.aload_n 0, 1) := by decide +kernel
theorem dX10_put_1 : decode cX10_put 1 = .ok (.aload_n 0, 1) := by decide +kernel
theorem dX10_put_2 : decode cX10_put 2 = .ok (.getfield 15, 3) := by decide +kernel
theorem dX10_put_5 : decode cX10_put 5 = .ok (.iload_n 1, 1) := by decide +kernel
theorem dX10_put_6 : decode cX10_put 6 = .ok (.iload_n 2, 1) := by decide +kernel
theorem dX10_put_7 : decode cX10_put 7 = .ok (.invokevirtual 94, 3) := by decide +kernel
theorem dX10_put_10 : decode cX10_put 10 = .ok (.istore 4, 2) := by decide +kernel
theorem dX10_put_12 : decode cX10_put 12 = .ok (.iload 4, 2) := by decide +kernel
theorem dX10_put_14 : decode cX10_put 14 = .ok (.ifCond .eq 6, 3) := by decide +kernel
theorem dX10_put_17 : decode cX10_put 17 = .ok (.iload 4, 2) := by decide +kernel
theorem dX10_put_19 : decode cX10_put 19 = .ok (.ireturn, 1) := by decide +kernel
theorem dX10_put_20 : decode cX10_put 20 = .ok (.aload_n 0, 1) := by decide +kernel
theorem dX10_put_21 : decode cX10_put 21 = .ok (.getfield 15, 3) := by decide +kernel
theorem dX10_put_24 : decode cX10_put 24 = .ok (.iload_n 1, 1) := by decide +kernel
theorem dX10_put_25 : decode cX10_put 25 = .ok (.aaload, 1) := by decide +kernel
theorem dX10_put_26 : decode cX10_put 26 = .ok (.getfield 98, 3) := by decide +kernel
theorem dX10_put_29 : decode cX10_put 29 = .ok (.iload_n 2, 1) := by decide +kernel
theorem dX10_put_30 : decode cX10_put 30 = .ok (.iaload, 1) := by decide +kernel
theorem dX10_put_31 : decode cX10_put 31 = .ok (.istore 5, 2) := by decide +kernel
theorem dX10_put_33 : decode cX10_put 33 = .ok (.aload_n 0, 1) := by decide +kernel
theorem dX10_put_34 : decode cX10_put 34 = .ok (.getfield 15, 3) := by decide +kernel
theorem dX10_put_37 : decode cX10_put 37 = .ok (.iload_n 1, 1) := by decide +kernel
theorem dX10_put_38 : decode cX10_put 38 = .ok (.aaload, 1) := by decide +kernel
theorem dX10_put_39 : decode cX10_put 39 = .ok (.getfield 98, 3) := by decide +kernel
theorem dX10_put_42 : decode cX10_put 42 = .ok (.iload_n 2, 1) := by decide +kernel
theorem dX10_put_43 : decode cX10_put 43 = .ok (.iload_n 3, 1) := by decide +kernel
theorem dX10_put_44 : decode cX10_put 44 = .ok (.i2b, 1) := by decide +kernel
theorem dX10_put_45 : decode cX10_put 45 = .ok (.iastore, 1) := by decide +kernel
theorem dX10_put_46 : decode cX10_put 46 = .ok (.iload 5, 2) := by decide +kernel
theorem dX10_put_48 : decode cX10_put 48 = .ok (.sipush 1000, 3) := by decide +kernel
theorem dX10_put_51 : decode cX10_put 51 = .ok (.iadd, 1) := by decide +kernel
theorem dX10_put_52 : decode cX10_put 52 = .ok (.ireturn, 1) := by decide +kernel
theorem dX10_fault_0 : decode cX10_fault 0 = .ok (.aload_n 0, 1) := by decide +kernel
theorem dX10_fault_1 : decode cX10_fault 1 = .ok (.aload_n 0, 1) := by decide +kernel
theorem dX10_fault_2 : decode cX10_fault 2 = .ok (.getfield 15, 3) := by decide +kernel
theorem dX10_fault_5 : decode cX10_fault 5 = .ok (.iload_n 1, 1) := by decide +kernel
theorem dX10_fault_6 : decode cX10_fault 6 = .ok (.invokevirtual 105, 3) := by decide +kernel
theorem dX10_fault_9 : decode cX10_fault 9 = .ok (.istore_n 2, 1) := by decide +kernel
theorem dX10_fault_10 : decode cX10_fault 10 = .ok (.iload_n 2, 1) := by decide +kernel
theorem dX10_fault_11 : decode cX10_fault 11 = .ok (.ifCond .eq 7, 3) := by decide +kernel
theorem dX10_fault_14 : decode cX10_fault 14 = .ok (.iload_n 2, 1) := by decide +kernel
theorem dX10_fault_15 : decode cX10_fault 15 = .ok (.goto 20, 3) := by decide +kernel
theorem dX10_fault_18 : decode cX10_fault 18 = .ok (.aload_n 0, 1) := by decide +kernel
theorem dX10_fault_19 : decode cX10_fault 19 = .ok (.getfield 21, 3) := by decide +kernel
theorem dX10_fault_22 : decode cX10_fault 22 = .ok (.aload_n 0, 1) := by decide +kernel
theorem dX10_fault_23 : decode cX10_fault 23 = .ok (.getfield 15, 3) := by decide +kernel
theorem dX10_fault_26 : decode cX10_fault 26 = .ok (.iload_n 1, 1) := by decide +kernel
theorem dX10_fault_27 : decode cX10_fault 27 = .ok (.aaload, 1) := by decide +kernel
theorem dX10_fault_28 : decode cX10_fault 28 = .ok (.aload_n 0, 1) := by decide +kernel
theorem dX10_fault_29 : decode cX10_fault 29 = .ok (.getfield 76, 3) := by decide +kernel
theorem dX10_fault_32 : decode cX10_fault 32 = .ok (.invokevirtual 135, 3) := by decide +kernel
theorem dX10_fault_35 : decode cX10_fault 35 = .ok (.ireturn, 1) := by decide +kernel
theorem dX10_land_0 : decode cX10_land 0 = .ok (.aload_n 0, 1) := by decide +kernel
theorem dX10_land_1 : decode cX10_land 1 = .ok (.aload_n 0, 1) := by decide +kernel
theorem dX10_land_2 : decode cX10_land 2 = .ok (.getfield 15, 3) := by decide +kernel
theorem dX10_land_5 : decode cX10_land 5 = .ok (.iload_n 1, 1) := by decide +kernel
theorem dX10_land_6 : decode cX10_land 6 = .ok (.invokevirtual 105, 3) := by decide +kernel
theorem dX10_land_9 : decode cX10_land 9 = .ok (.istore_n 2, 1) := by decide +kernel
theorem dX10_land_10 : decode cX10_land 10 = .ok (.iload_n 2, 1) := by decide +kernel
theorem dX10_land_11 : decode cX10_land 11 = .ok (.ifCond .eq 5, 3) := by decide +kernel
theorem dX10_land_14 : decode cX10_land 14 = .ok (.iload_n 2, 1) := by decide +kernel
theorem dX10_land_15 : decode cX10_land 15 = .ok (.ireturn, 1) := by decide +kernel
theorem dX10_land_16 : decode cX10_land 16 = .ok (.aload_n 0, 1) := by decide +kernel
theorem dX10_land_17 : decode cX10_land 17 = .ok (.getfield 21, 3) := by decide +kernel
theorem dX10_land_20 : decode cX10_land 20 = .ok (.aload_n 0, 1) := by decide +kernel
theorem dX10_land_21 : decode cX10_land 21 = .ok (.getfield 15, 3) := by decide +kernel
theorem dX10_land_24 : decode cX10_land 24 = .ok (.iload_n 1, 1) := by decide +kernel
theorem dX10_land_25 : decode cX10_land 25 = .ok (.aaload, 1) := by decide +kernel
theorem dX10_land_26 : decode cX10_land 26 = .ok (.aload_n 0, 1) := by decide +kernel
theorem dX10_land_27 : decode cX10_land 27 = .ok (.getfield 76, 3) := by decide +kernel
theorem dX10_land_30 : decode cX10_land 30 = .ok (.invokevirtual 135, 3) := by decide +kernel
theorem dX10_land_33 : decode cX10_land 33 = .ok (.bipush (-9), 2) := by decide +kernel
theorem dX10_land_35 : decode cX10_land 35 = .ok (.if_icmp .eq 6, 3) := by decide +kernel
theorem dX10_land_38 : decode cX10_land 38 = .ok (.bipush (-4), 2) := by decide +kernel
theorem dX10_land_40 : decode cX10_land 40 = .ok (.ireturn, 1) := by decide +kernel
theorem dX10_land_41 : decode cX10_land 41 = .ok (.aload_n 0, 1) := by decide +kernel
theorem dX10_land_42 : decode cX10_land 42 = .ok (.getfield 72, 3) := by decide +kernel
theorem dX10_land_45 : decode cX10_land 45 = .ok (.astore_n 3, 1) := by decide +kernel
theorem dX10_land_46 : decode cX10_land 46 = .ok (.aload_n 0, 1) := by decide +kernel
theorem dX10_land_47 : decode cX10_land 47 = .ok (.aload_n 0, 1) := by decide +kernel
theorem dX10_land_48 : decode cX10_land 48 = .ok (.getfield 76, 3) := by decide +kernel
theorem dX10_land_51 : decode cX10_land 51 = .ok (.putfield 72, 3) := by decide +kernel
theorem dX10_land_54 : decode cX10_land 54 = .ok (.aload_n 0, 1) := by decide +kernel
theorem dX10_land_55 : decode cX10_land 55 = .ok (.aload_n 3, 1) := by decide +kernel
theorem dX10_land_56 : decode cX10_land 56 = .ok (.putfield 76, 3) := by decide +kernel
theorem dX10_land_59 : decode cX10_land 59 = .ok (.aload_n 0, 1) := by decide +kernel
theorem dX10_land_60 : decode cX10_land 60 = .ok (.getfield 28, 3) := by decide +kernel
theorem dX10_land_63 : decode cX10_land 63 = .ok (.invokevirtual 139, 3) := by decide +kernel
theorem dX10_land_66 : decode cX10_land 66 = .ok (.aload_n 0, 1) := by decide +kernel
theorem dX10_land_67 : decode cX10_land 67 = .ok (.getfield 35, 3) := by decide +kernel
theorem dX10_land_70 : decode cX10_land 70 = .ok (.invokevirtual 142, 3) := by decide +kernel
theorem dX10_land_73 : decode cX10_land 73 = .ok (.aload_n 0, 1) := by decide +kernel
theorem dX10_land_74 : decode cX10_land 74 = .ok (.getfield 55, 3) := by decide +kernel
theorem dX10_land_77 : decode cX10_land 77 = .ok (.iconst 0, 1) := by decide +kernel
theorem dX10_land_78 : decode cX10_land 78 = .ok (.putfield 143, 3) := by decide +kernel
theorem dX10_land_81 : decode cX10_land 81 = .ok (.aload_n 0, 1) := by decide +kernel
theorem dX10_land_82 : decode cX10_land 82 = .ok (.getfield 48, 3) := by decide +kernel
theorem dX10_land_85 : decode cX10_land 85 = .ok (.iconst (-1), 1) := by decide +kernel
theorem dX10_land_86 : decode cX10_land 86 = .ok (.invokestatic 80, 3) := by decide +kernel
theorem dX10_land_89 : decode cX10_land 89 = .ok (.aload_n 0, 1) := by decide +kernel
theorem dX10_land_90 : decode cX10_land 90 = .ok (.getfield 72, 3) := by decide +kernel
theorem dX10_land_93 : decode cX10_land 93 = .ok (.getfield 144, 3) := by decide +kernel
theorem dX10_land_96 : decode cX10_land 96 = .ok (.ireturn, 1) := by decide +kernel
theorem dX10_jar_0 : decode cX10_jar 0 = .ok (.aload_n 0, 1) := by decide +kernel
theorem dX10_jar_1 : decode cX10_jar 1 = .ok (.iload_n 1, 1) := by decide +kernel
theorem dX10_jar_2 : decode cX10_jar 2 = .ok (.invokevirtual 147, 3) := by decide +kernel
theorem dX10_jar_5 : decode cX10_jar 5 = .ok (.ifCond .eq 12, 3) := by decide +kernel
theorem dX10_jar_8 : decode cX10_jar 8 = .ok (.iload_n 2, 1) := by decide +kernel
theorem dX10_jar_9 : decode cX10_jar 9 = .ok (.iconst 0, 1) := by decide +kernel
theorem dX10_jar_10 : decode cX10_jar 10 = .ok (.iconst 4, 1) := by decide +kernel
theorem dX10_jar_11 : decode cX10_jar 11 = .ok (.invokestatic 86, 3) := by decide +kernel
theorem dX10_jar_14 : decode cX10_jar 14 = .ok (.ifCond .ne 5, 3) := by decide +kernel
theorem dX10_jar_17 : decode cX10_jar 17 = .ok (.iconst (-1), 1) := by decide +kernel
theorem dX10_jar_18 : decode cX10_jar 18 = .ok (.ireturn, 1) := by decide +kernel
theorem dX10_jar_19 : decode cX10_jar 19 = .ok (.aload_n 0, 1) := by decide +kernel
theorem dX10_jar_20 : decode cX10_jar 20 = .ok (.iconst 1, 1) := by decide +kernel
theorem dX10_jar_21 : decode cX10_jar 21 = .ok (.aload_n 0, 1) := by decide +kernel
theorem dX10_jar_22 : decode cX10_jar 22 = .ok (.iload_n 1, 1) := by decide +kernel
theorem dX10_jar_23 : decode cX10_jar 23 = .ok (.iload_n 2, 1) := by decide +kernel
theorem dX10_jar_24 : decode cX10_jar 24 = .ok (.invokevirtual 151, 3) := by decide +kernel
theorem dX10_jar_27 : decode cX10_jar 27 = .ok (.invokevirtual 101, 3) := by decide +kernel
theorem dX10_jar_30 : decode cX10_jar 30 = .ok (.ireturn, 1) := by decide +kernel
theorem dX10_mark_0 : decode cX10_mark 0 = .ok (.aload_n 0, 1) := by decide +kernel
theorem dX10_mark_1 : decode cX10_mark 1 = .ok (.iload_n 1, 1) := by decide +kernel
theorem dX10_mark_2 : decode cX10_mark 2 = .ok (.invokevirtual 147, 3) := by decide +kernel
theorem dX10_mark_5 : decode cX10_mark 5 = .ok (.ifCond .eq 12, 3) := by decide +kernel
theorem dX10_mark_8 : decode cX10_mark 8 = .ok (.iload_n 2, 1) := by decide +kernel
theorem dX10_mark_9 : decode cX10_mark 9 = .ok (.iconst 1, 1) := by decide +kernel
theorem dX10_mark_10 : decode cX10_mark 10 = .ok (.iconst 5, 1) := by decide +kernel
theorem dX10_mark_11 : decode cX10_mark 11 = .ok (.invokestatic 86, 3) := by decide +kernel
theorem dX10_mark_14 : decode cX10_mark 14 = .ok (.ifCond .ne 5, 3) := by decide +kernel
theorem dX10_mark_17 : decode cX10_mark 17 = .ok (.iconst (-1), 1) := by decide +kernel
theorem dX10_mark_18 : decode cX10_mark 18 = .ok (.ireturn, 1) := by decide +kernel
theorem dX10_mark_19 : decode cX10_mark 19 = .ok (.aload_n 0, 1) := by decide +kernel
theorem dX10_mark_20 : decode cX10_mark 20 = .ok (.getfield 72, 3) := by decide +kernel
theorem dX10_mark_23 : decode cX10_mark 23 = .ok (.getfield 156, 3) := by decide +kernel
theorem dX10_mark_26 : decode cX10_mark 26 = .ok (.iload_n 1, 1) := by decide +kernel
theorem dX10_mark_27 : decode cX10_mark 27 = .ok (.iaload, 1) := by decide +kernel
theorem dX10_mark_28 : decode cX10_mark 28 = .ok (.iload_n 2, 1) := by decide +kernel
theorem dX10_mark_29 : decode cX10_mark 29 = .ok (.invokestatic 159, 3) := by decide +kernel
theorem dX10_mark_32 : decode cX10_mark 32 = .ok (.ifCond .ne 9, 3) := by decide +kernel
theorem dX10_mark_35 : decode cX10_mark 35 = .ok (.aload_n 0, 1) := by decide +kernel
theorem dX10_mark_36 : decode cX10_mark 36 = .ok (.iconst 3, 1) := by decide +kernel
theorem dX10_mark_37 : decode cX10_mark 37 = .ok (.invokevirtual 113, 3) := by decide +kernel
theorem dX10_mark_40 : decode cX10_mark 40 = .ok (.ireturn, 1) := by decide +kernel
theorem dX10_mark_41 : decode cX10_mark 41 = .ok (.aload_n 0, 1) := by decide +kernel
theorem dX10_mark_42 : decode cX10_mark 42 = .ok (.getfield 72, 3) := by decide +kernel
theorem dX10_mark_45 : decode cX10_mark 45 = .ok (.getfield 156, 3) := by decide +kernel
theorem dX10_mark_48 : decode cX10_mark 48 = .ok (.iload_n 1, 1) := by decide +kernel
theorem dX10_mark_49 : decode cX10_mark 49 = .ok (.iaload, 1) := by decide +kernel
theorem dX10_mark_50 : decode cX10_mark 50 = .ok (.istore_n 3, 1) := by decide +kernel
theorem dX10_mark_51 : decode cX10_mark 51 = .ok (.aload_n 0, 1) := by decide +kernel
theorem dX10_mark_52 : decode cX10_mark 52 = .ok (.getfield 28, 3) := by decide +kernel
theorem dX10_mark_55 : decode cX10_mark 55 = .ok (.getfield 162, 3) := by decide +kernel
theorem dX10_mark_58 : decode cX10_mark 58 = .ok (.iload_n 1, 1) := by decide +kernel
theorem dX10_mark_59 : decode cX10_mark 59 = .ok (.iaload, 1) := by decide +kernel
theorem dX10_mark_60 : decode cX10_mark 60 = .ok (.istore 4, 2) := by decide +kernel
theorem dX10_mark_62 : decode cX10_mark 62 = .ok (.iload_n 2, 1) := by decide +kernel
theorem dX10_mark_63 : decode cX10_mark 63 = .ok (.tableswitch 99 1 4 #[29, 45, 78, 92], 29) := by decide +kernel
theorem dX10_mark_92 : decode cX10_mark 92 = .ok (.iload_n 3, 1) := by decide +kernel
theorem dX10_mark_93 : decode cX10_mark 93 = .ok (.iload 4, 2) := by decide +kernel
theorem dX10_mark_95 : decode cX10_mark 95 = .ok (.iconst 1, 1) := by decide +kernel
theorem dX10_mark_96 : decode cX10_mark 96 = .ok (.invokestatic 165, 3) := by decide +kernel
theorem dX10_mark_99 : decode cX10_mark 99 = .ok (.iconst 0, 1) := by decide +kernel
theorem dX10_mark_100 : decode cX10_mark 100 = .ok (.iload 4, 2) := by decide +kernel
theorem dX10_mark_102 : decode cX10_mark 102 = .ok (.iconst 1, 1) := by decide +kernel
theorem dX10_mark_103 : decode cX10_mark 103 = .ok (.invokestatic 165, 3) := by decide +kernel
theorem dX10_mark_106 : decode cX10_mark 106 = .ok (.isub, 1) := by decide +kernel
theorem dX10_mark_107 : decode cX10_mark 107 = .ok (.ireturn, 1) := by decide +kernel
theorem dX10_mark_108 : decode cX10_mark 108 = .ok (.iload_n 3, 1) := by decide +kernel
theorem dX10_mark_109 : decode cX10_mark 109 = .ok (.iload 4, 2) := by decide +kernel
theorem dX10_mark_111 : decode cX10_mark 111 = .ok (.aload_n 0, 1) := by decide +kernel
theorem dX10_mark_112 : decode cX10_mark 112 = .ok (.getfield 28, 3) := by decide +kernel
theorem dX10_mark_115 : decode cX10_mark 115 = .ok (.getfield 169, 3) := by decide +kernel
theorem dX10_mark_118 : decode cX10_mark 118 = .ok (.iload_n 1, 1) := by decide +kernel
theorem dX10_mark_119 : decode cX10_mark 119 = .ok (.iaload, 1) := by decide +kernel
theorem dX10_mark_120 : decode cX10_mark 120 = .ok (.ifCond .eq 7, 3) := by decide +kernel
theorem dX10_mark_123 : decode cX10_mark 123 = .ok (.iconst 1, 1) := by decide +kernel
theorem dX10_mark_124 : decode cX10_mark 124 = .ok (.goto 4, 3) := by decide +kernel
theorem dX10_mark_127 : decode cX10_mark 127 = .ok (.iconst 0, 1) := by decide +kernel
theorem dX10_mark_128 : decode cX10_mark 128 = .ok (.invokestatic 165, 3) := by decide +kernel
theorem dX10_mark_131 : decode cX10_mark 131 = .ok (.ifCond .le 7, 3) := by decide +kernel
theorem dX10_mark_134 : decode cX10_mark 134 = .ok (.iconst 0, 1) := by decide +kernel
theorem dX10_mark_135 : decode cX10_mark 135 = .ok (.goto 5, 3) := by decide +kernel
theorem dX10_mark_138 : decode cX10_mark 138 = .ok (.bipush (-9), 2) := by decide +kernel
theorem dX10_mark_140 : decode cX10_mark 140 = .ok (.ireturn, 1) := by decide +kernel
theorem dX10_mark_141 : decode cX10_mark 141 = .ok (.iconst 0, 1) := by decide +kernel
theorem dX10_mark_142 : decode cX10_mark 142 = .ok (.iload 4, 2) := by decide +kernel
theorem dX10_mark_144 : decode cX10_mark 144 = .ok (.invokestatic 172, 3) := by decide +kernel
theorem dX10_mark_147 : decode cX10_mark 147 = .ok (.iload_n 3, 1) := by decide +kernel
theorem dX10_mark_148 : decode cX10_mark 148 = .ok (.iload 4, 2) := by decide +kernel
theorem dX10_mark_150 : decode cX10_mark 150 = .ok (.invokestatic 172, 3) := by decide +kernel
theorem dX10_mark_153 : decode cX10_mark 153 = .ok (.isub, 1) := by decide +kernel
theorem dX10_mark_154 : decode cX10_mark 154 = .ok (.ireturn, 1) := by decide +kernel
theorem dX10_mark_155 : decode cX10_mark 155 = .ok (.iload_n 3, 1) := by decide +kernel
theorem dX10_mark_156 : decode cX10_mark 156 = .ok (.iload 4, 2) := by decide +kernel
theorem dX10_mark_158 : decode cX10_mark 158 = .ok (.invokestatic 172, 3) := by decide +kernel
theorem dX10_mark_161 : decode cX10_mark 161 = .ok (.ireturn, 1) := by decide +kernel
theorem dX10_mark_162 : decode cX10_mark 162 = .ok (.iload 4, 2) := by decide +kernel
theorem dX10_mark_164 : decode cX10_mark 164 = .ok (.iload_n 3, 1) := by decide +kernel
theorem dX10_mark_165 : decode cX10_mark 165 = .ok (.iload 4, 2) := by decide +kernel
theorem dX10_mark_167 : decode cX10_mark 167 = .ok (.invokestatic 172, 3) := by decide +kernel
theorem dX10_mark_170 : decode cX10_mark 170 = .ok (.iload_n 3, 1) := by decide +kernel
theorem dX10_mark_171 : decode cX10_mark 171 = .ok (.invokestatic 175, 3) := by decide +kernel
theorem dX10_mark_174 : decode cX10_mark 174 = .ok (.imul, 1) := by decide +kernel
theorem dX10_mark_175 : decode cX10_mark 175 = .ok (.isub, 1) := by decide +kernel
theorem dX10_mark_176 : decode cX10_mark 176 = .ok (.ireturn, 1) := by decide +kernel
theorem dX10_place_0 : decode cX10_place 0 = .ok (.iload_n 1, 1) := by decide +kernel
theorem dX10_place_1 : decode cX10_place 1 = .ok (.invokestatic 178, 3) := by decide +kernel
theorem dX10_place_4 : decode cX10_place 4 = .ok (.ifCond .eq 12, 3) := by decide +kernel
theorem dX10_place_7 : decode cX10_place 7 = .ok (.iload_n 2, 1) := by decide +kernel
theorem dX10_place_8 : decode cX10_place 8 = .ok (.iconst 0, 1) := by decide +kernel
theorem dX10_place_9 : decode cX10_place 9 = .ok (.iconst 3, 1) := by decide +kernel
theorem dX10_place_10 : decode cX10_place 10 = .ok (.invokestatic 86, 3) := by decide +kernel
theorem dX10_place_13 : decode cX10_place 13 = .ok (.ifCond .ne 5, 3) := by decide +kernel
theorem dX10_place_16 : decode cX10_place 16 = .ok (.iconst (-1), 1) := by decide +kernel
theorem dX10_place_17 : decode cX10_place 17 = .ok (.ireturn, 1) := by decide +kernel
theorem dX10_place_18 : decode cX10_place 18 = .ok (.aload_n 0, 1) := by decide +kernel
theorem dX10_place_19 : decode cX10_place 19 = .ok (.iconst 1, 1) := by decide +kernel
theorem dX10_place_20 : decode cX10_place 20 = .ok (.aload_n 0, 1) := by decide +kernel
theorem dX10_place_21 : decode cX10_place 21 = .ok (.iload_n 1, 1) := by decide +kernel
theorem dX10_place_22 : decode cX10_place 22 = .ok (.iload_n 2, 1) := by decide +kernel
theorem dX10_place_23 : decode cX10_place 23 = .ok (.invokevirtual 181, 3) := by decide +kernel
theorem dX10_place_26 : decode cX10_place 26 = .ok (.invokevirtual 101, 3) := by decide +kernel
theorem dX10_place_29 : decode cX10_place 29 = .ok (.ireturn, 1) := by decide +kernel
theorem dX10_sun_0 : decode cX10_sun 0 = .ok (.iload_n 1, 1) := by decide +kernel
theorem dX10_sun_1 : decode cX10_sun 1 = .ok (.iconst 0, 1) := by decide +kernel
theorem dX10_sun_2 : decode cX10_sun 2 = .ok (.sipush 999, 3) := by decide +kernel
theorem dX10_sun_5 : decode cX10_sun 5 = .ok (.invokestatic 86, 3) := by decide +kernel
theorem dX10_sun_8 : decode cX10_sun 8 = .ok (.ifCond .ne 5, 3) := by decide +kernel
theorem dX10_sun_11 : decode cX10_sun 11 = .ok (.iconst (-1), 1) := by decide +kernel
theorem dX10_sun_12 : decode cX10_sun 12 = .ok (.ireturn, 1) := by decide +kernel
theorem dX10_sun_13 : decode cX10_sun 13 = .ok (.aload_n 0, 1) := by decide +kernel
theorem dX10_sun_14 : decode cX10_sun 14 = .ok (.getfield 72, 3) := by decide +kernel
theorem dX10_sun_17 : decode cX10_sun 17 = .ok (.iload_n 1, 1) := by decide +kernel
theorem dX10_sun_18 : decode cX10_sun 18 = .ok (.invokevirtual 184, 3) := by decide +kernel
theorem dX10_sun_21 : decode cX10_sun 21 = .ok (.ifCond .eq 7, 3) := by decide +kernel
theorem dX10_sun_24 : decode cX10_sun 24 = .ok (.iconst 1, 1) := by decide +kernel
theorem dX10_sun_25 : decode cX10_sun 25 = .ok (.goto 4, 3) := by decide +kernel
theorem dX10_sun_28 : decode cX10_sun 28 = .ok (.iconst 0, 1) := by decide +kernel
theorem dX10_sun_29 : decode cX10_sun 29 = .ok (.ireturn, 1) := by decide +kernel
theorem dX10_fill_0 : decode cX10_fill 0 = .ok (.aload_n 0, 1) := by decide +kernel
theorem dX10_fill_1 : decode cX10_fill 1 = .ok (.iload_n 1, 1) := by decide +kernel
theorem dX10_fill_2 : decode cX10_fill 2 = .ok (.invokevirtual 147, 3) := by decide +kernel
theorem dX10_fill_5 : decode cX10_fill 5 = .ok (.ifCond .ne 5, 3) := by decide +kernel
theorem dX10_fill_8 : decode cX10_fill 8 = .ok (.iconst (-1), 1) := by decide +kernel
theorem dX10_fill_9 : decode cX10_fill 9 = .ok (.ireturn, 1) := by decide +kernel
theorem dX10_fill_10 : decode cX10_fill 10 = .ok (.aload_n 0, 1) := by decide +kernel
theorem dX10_fill_11 : decode cX10_fill 11 = .ok (.getfield 28, 3) := by decide +kernel
theorem dX10_fill_14 : decode cX10_fill 14 = .ok (.getfield 187, 3) := by decide +kernel
theorem dX10_fill_17 : decode cX10_fill 17 = .ok (.iload_n 1, 1) := by decide +kernel
theorem dX10_fill_18 : decode cX10_fill 18 = .ok (.iaload, 1) := by decide +kernel
theorem dX10_fill_19 : decode cX10_fill 19 = .ok (.ifCond .ne 20, 3) := by decide +kernel
theorem dX10_fill_22 : decode cX10_fill 22 = .ok (.aload_n 0, 1) := by decide +kernel
theorem dX10_fill_23 : decode cX10_fill 23 = .ok (.getfield 72, 3) := by decide +kernel
theorem dX10_fill_26 : decode cX10_fill 26 = .ok (.aload_n 0, 1) := by decide +kernel
theorem dX10_fill_27 : decode cX10_fill 27 = .ok (.getfield 28, 3) := by decide +kernel
theorem dX10_fill_30 : decode cX10_fill 30 = .ok (.getfield 190, 3) := by decide +kernel
theorem dX10_fill_33 : decode cX10_fill 33 = .ok (.invokevirtual 184, 3) := by decide +kernel
theorem dX10_fill_36 : decode cX10_fill 36 = .ok (.ifCond .ne 6, 3) := by decide +kernel
theorem dX10_fill_39 : decode cX10_fill 39 = .ok (.bipush (-4), 2) := by decide +kernel
theorem dX10_fill_41 : decode cX10_fill 41 = .ok (.ireturn, 1) := by decide +kernel
theorem dX10_fill_42 : decode cX10_fill 42 = .ok (.aload_n 0, 1) := by decide +kernel
theorem dX10_fill_43 : decode cX10_fill 43 = .ok (.getfield 35, 3) := by decide +kernel
theorem dX10_fill_46 : decode cX10_fill 46 = .ok (.iconst 0, 1) := by decide +kernel
theorem dX10_fill_47 : decode cX10_fill 47 = .ok (.aload_n 0, 1) := by decide +kernel
theorem dX10_fill_48 : decode cX10_fill 48 = .ok (.getfield 28, 3) := by decide +kernel
theorem dX10_fill_51 : decode cX10_fill 51 = .ok (.invokevirtual 193, 3) := by decide +kernel
theorem dX10_fill_54 : decode cX10_fill 54 = .ok (.aload_n 0, 1) := by decide +kernel
theorem dX10_fill_55 : decode cX10_fill 55 = .ok (.getfield 72, 3) := by decide +kernel
theorem dX10_fill_58 : decode cX10_fill 58 = .ok (.getfield 197, 3) := by decide +kernel
theorem dX10_fill_61 : decode cX10_fill 61 = .ok (.iload_n 1, 1) := by decide +kernel
theorem dX10_fill_62 : decode cX10_fill 62 = .ok (.iaload, 1) := by decide +kernel
theorem dX10_fill_63 : decode cX10_fill 63 = .ok (.aload_n 0, 1) := by decide +kernel
theorem dX10_fill_64 : decode cX10_fill 64 = .ok (.getfield 28, 3) := by decide +kernel
theorem dX10_fill_67 : decode cX10_fill 67 = .ok (.getfield 162, 3) := by decide +kernel
theorem dX10_fill_70 : decode cX10_fill 70 = .ok (.iload_n 1, 1) := by decide +kernel
theorem dX10_fill_71 : decode cX10_fill 71 = .ok (.iaload, 1) := by decide +kernel
theorem dX10_fill_72 : decode cX10_fill 72 = .ok (.isub, 1) := by decide +kernel
theorem dX10_fill_73 : decode cX10_fill 73 = .ok (.istore_n 2, 1) := by decide +kernel
theorem dX10_fill_74 : decode cX10_fill 74 = .ok (.aload_n 0, 1) := by decide +kernel
theorem dX10_fill_75 : decode cX10_fill 75 = .ok (.getfield 28, 3) := by decide +kernel
theorem dX10_fill_78 : decode cX10_fill 78 = .ok (.getfield 162, 3) := by decide +kernel
