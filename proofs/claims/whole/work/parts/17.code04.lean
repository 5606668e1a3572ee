theorem dX10_fill_81 : decode cX10_fill 81 = .ok (.iload_n 1, 1) := by decide +kernel
theorem dX10_fill_82 : decode cX10_fill 82 = .ok (.aload_n 0, 1) := by decide +kernel
theorem dX10_fill_83 : decode cX10_fill 83 = .ok (.getfield 72, 3) := by decide +kernel
theorem dX10_fill_86 : decode cX10_fill 86 = .ok (.getfield 197, 3) := by decide +kernel
theorem dX10_fill_89 : decode cX10_fill 89 = .ok (.iload_n 1, 1) := by decide +kernel
theorem dX10_fill_90 : decode cX10_fill 90 = .ok (.iaload, 1) := by decide +kernel
theorem dX10_fill_91 : decode cX10_fill 91 = .ok (.iastore, 1) := by decide +kernel
theorem dX10_fill_92 : decode cX10_fill 92 = .ok (.aload_n 0, 1) := by decide +kernel
theorem dX10_fill_93 : decode cX10_fill 93 = .ok (.getfield 28, 3) := by decide +kernel
theorem dX10_fill_96 : decode cX10_fill 96 = .ok (.getfield 169, 3) := by decide +kernel
theorem dX10_fill_99 : decode cX10_fill 99 = .ok (.iload_n 1, 1) := by decide +kernel
theorem dX10_fill_100 : decode cX10_fill 100 = .ok (.iconst 0, 1) := by decide +kernel
theorem dX10_fill_101 : decode cX10_fill 101 = .ok (.iastore, 1) := by decide +kernel
theorem dX10_fill_102 : decode cX10_fill 102 = .ok (.iload_n 2, 1) := by decide +kernel
theorem dX10_fill_103 : decode cX10_fill 103 = .ok (.ireturn, 1) := by decide +kernel
theorem dX10_carry_0 : decode cX10_carry 0 = .ok (.aload_n 0, 1) := by decide +kernel
theorem dX10_carry_1 : decode cX10_carry 1 = .ok (.iload_n 1, 1) := by decide +kernel
theorem dX10_carry_2 : decode cX10_carry 2 = .ok (.invokevirtual 147, 3) := by decide +kernel
theorem dX10_carry_5 : decode cX10_carry 5 = .ok (.ifCond .eq 12, 3) := by decide +kernel
theorem dX10_carry_8 : decode cX10_carry 8 = .ok (.iload_n 2, 1) := by decide +kernel
theorem dX10_carry_9 : decode cX10_carry 9 = .ok (.iconst 0, 1) := by decide +kernel
theorem dX10_carry_10 : decode cX10_carry 10 = .ok (.iconst 1, 1) := by decide +kernel
theorem dX10_carry_11 : decode cX10_carry 11 = .ok (.invokestatic 86, 3) := by decide +kernel
theorem dX10_carry_14 : decode cX10_carry 14 = .ok (.ifCond .ne 5, 3) := by decide +kernel
theorem dX10_carry_17 : decode cX10_carry 17 = .ok (.iconst (-1), 1) := by decide +kernel
theorem dX10_carry_18 : decode cX10_carry 18 = .ok (.ireturn, 1) := by decide +kernel
theorem dX10_carry_19 : decode cX10_carry 19 = .ok (.aload_n 0, 1) := by decide +kernel
theorem dX10_carry_20 : decode cX10_carry 20 = .ok (.getfield 28, 3) := by decide +kernel
theorem dX10_carry_23 : decode cX10_carry 23 = .ok (.getfield 187, 3) := by decide +kernel
theorem dX10_carry_26 : decode cX10_carry 26 = .ok (.iload_n 1, 1) := by decide +kernel
theorem dX10_carry_27 : decode cX10_carry 27 = .ok (.iaload, 1) := by decide +kernel
theorem dX10_carry_28 : decode cX10_carry 28 = .ok (.iload_n 2, 1) := by decide +kernel
theorem dX10_carry_29 : decode cX10_carry 29 = .ok (.iconst 1, 1) := by decide +kernel
theorem dX10_carry_30 : decode cX10_carry 30 = .ok (.if_icmp .ne 7, 3) := by decide +kernel
theorem dX10_carry_33 : decode cX10_carry 33 = .ok (.iconst 1, 1) := by decide +kernel
theorem dX10_carry_34 : decode cX10_carry 34 = .ok (.goto 4, 3) := by decide +kernel
theorem dX10_carry_37 : decode cX10_carry 37 = .ok (.iconst (-1), 1) := by decide +kernel
theorem dX10_carry_38 : decode cX10_carry 38 = .ok (.iadd, 1) := by decide +kernel
theorem dX10_carry_39 : decode cX10_carry 39 = .ok (.istore_n 3, 1) := by decide +kernel
theorem dX10_carry_40 : decode cX10_carry 40 = .ok (.iload_n 3, 1) := by decide +kernel
theorem dX10_carry_41 : decode cX10_carry 41 = .ok (.invokestatic 178, 3) := by decide +kernel
theorem dX10_carry_44 : decode cX10_carry 44 = .ok (.ifCond .eq 20, 3) := by decide +kernel
theorem dX10_carry_47 : decode cX10_carry 47 = .ok (.aload_n 0, 1) := by decide +kernel
theorem dX10_carry_48 : decode cX10_carry 48 = .ok (.getfield 28, 3) := by decide +kernel
theorem dX10_carry_51 : decode cX10_carry 51 = .ok (.getfield 200, 3) := by decide +kernel
theorem dX10_carry_54 : decode cX10_carry 54 = .ok (.aload_n 0, 1) := by decide +kernel
theorem dX10_carry_55 : decode cX10_carry 55 = .ok (.getfield 72, 3) := by decide +kernel
theorem dX10_carry_58 : decode cX10_carry 58 = .ok (.getfield 203, 3) := by decide +kernel
theorem dX10_carry_61 : decode cX10_carry 61 = .ok (.if_icmp .lt 6, 3) := by decide +kernel
theorem dX10_carry_64 : decode cX10_carry 64 = .ok (.bipush (-4), 2) := by decide +kernel
theorem dX10_carry_66 : decode cX10_carry 66 = .ok (.ireturn, 1) := by decide +kernel
theorem dX10_carry_67 : decode cX10_carry 67 = .ok (.aload_n 0, 1) := by decide +kernel
theorem dX10_carry_68 : decode cX10_carry 68 = .ok (.getfield 35, 3) := by decide +kernel
theorem dX10_carry_71 : decode cX10_carry 71 = .ok (.iconst 1, 1) := by decide +kernel
theorem dX10_carry_72 : decode cX10_carry 72 = .ok (.aload_n 0, 1) := by decide +kernel
theorem dX10_carry_73 : decode cX10_carry 73 = .ok (.getfield 28, 3) := by decide +kernel
theorem dX10_carry_76 : decode cX10_carry 76 = .ok (.invokevirtual 193, 3) := by decide +kernel
theorem dX10_carry_79 : decode cX10_carry 79 = .ok (.aload_n 0, 1) := by decide +kernel
theorem dX10_carry_80 : decode cX10_carry 80 = .ok (.getfield 28, 3) := by decide +kernel
theorem dX10_carry_83 : decode cX10_carry 83 = .ok (.getfield 187, 3) := by decide +kernel
theorem dX10_carry_86 : decode cX10_carry 86 = .ok (.iload_n 1, 1) := by decide +kernel
theorem dX10_carry_87 : decode cX10_carry 87 = .ok (.iload_n 3, 1) := by decide +kernel
theorem dX10_carry_88 : decode cX10_carry 88 = .ok (.iastore, 1) := by decide +kernel
theorem dX10_carry_89 : decode cX10_carry 89 = .ok (.aload_n 0, 1) := by decide +kernel
theorem dX10_carry_90 : decode cX10_carry 90 = .ok (.getfield 28, 3) := by decide +kernel
theorem dX10_carry_93 : decode cX10_carry 93 = .ok (.dup, 1) := by decide +kernel
theorem dX10_carry_94 : decode cX10_carry 94 = .ok (.getfield 200, 3) := by decide +kernel
theorem dX10_carry_97 : decode cX10_carry 97 = .ok (.iconst 1, 1) := by decide +kernel
theorem dX10_carry_98 : decode cX10_carry 98 = .ok (.iadd, 1) := by decide +kernel
theorem dX10_carry_99 : decode cX10_carry 99 = .ok (.putfield 200, 3) := by decide +kernel
theorem dX10_carry_102 : decode cX10_carry 102 = .ok (.iload_n 3, 1) := by decide +kernel
theorem dX10_carry_103 : decode cX10_carry 103 = .ok (.ireturn, 1) := by decide +kernel
theorem dX10_pour_0 : decode cX10_pour 0 = .ok (.aload_n 0, 1) := by decide +kernel
theorem dX10_pour_1 : decode cX10_pour 1 = .ok (.iload_n 1, 1) := by decide +kernel
theorem dX10_pour_2 : decode cX10_pour 2 = .ok (.invokevirtual 147, 3) := by decide +kernel
theorem dX10_pour_5 : decode cX10_pour 5 = .ok (.ifCond .eq 16, 3) := by decide +kernel
theorem dX10_pour_8 : decode cX10_pour 8 = .ok (.aload_n 0, 1) := by decide +kernel
theorem dX10_pour_9 : decode cX10_pour 9 = .ok (.iload_n 2, 1) := by decide +kernel
theorem dX10_pour_10 : decode cX10_pour 10 = .ok (.invokevirtual 147, 3) := by decide +kernel
theorem dX10_pour_13 : decode cX10_pour 13 = .ok (.ifCond .eq 8, 3) := by decide +kernel
theorem dX10_pour_16 : decode cX10_pour 16 = .ok (.iload_n 1, 1) := by decide +kernel
theorem dX10_pour_17 : decode cX10_pour 17 = .ok (.iload_n 2, 1) := by decide +kernel
theorem dX10_pour_18 : decode cX10_pour 18 = .ok (.if_icmp .ne 5, 3) := by decide +kernel
theorem dX10_pour_21 : decode cX10_pour 21 = .ok (.iconst (-1), 1) := by decide +kernel
theorem dX10_pour_22 : decode cX10_pour 22 = .ok (.ireturn, 1) := by decide +kernel
theorem dX10_pour_23 : decode cX10_pour 23 = .ok (.aload_n 0, 1) := by decide +kernel
theorem dX10_pour_24 : decode cX10_pour 24 = .ok (.getfield 28, 3) := by decide +kernel
theorem dX10_pour_27 : decode cX10_pour 27 = .ok (.getfield 162, 3) := by decide +kernel
theorem dX10_pour_30 : decode cX10_pour 30 = .ok (.iload_n 1, 1) := by decide +kernel
theorem dX10_pour_31 : decode cX10_pour 31 = .ok (.iaload, 1) := by decide +kernel
theorem dX10_pour_32 : decode cX10_pour 32 = .ok (.aload_n 0, 1) := by decide +kernel
theorem dX10_pour_33 : decode cX10_pour 33 = .ok (.getfield 72, 3) := by decide +kernel
theorem dX10_pour_36 : decode cX10_pour 36 = .ok (.getfield 197, 3) := by decide +kernel
theorem dX10_pour_39 : decode cX10_pour 39 = .ok (.iload_n 2, 1) := by decide +kernel
theorem dX10_pour_40 : decode cX10_pour 40 = .ok (.iaload, 1) := by decide +kernel
theorem dX10_pour_41 : decode cX10_pour 41 = .ok (.aload_n 0, 1) := by decide +kernel
theorem dX10_pour_42 : decode cX10_pour 42 = .ok (.getfield 28, 3) := by decide +kernel
theorem dX10_pour_45 : decode cX10_pour 45 = .ok (.getfield 162, 3) := by decide +kernel
theorem dX10_pour_48 : decode cX10_pour 48 = .ok (.iload_n 2, 1) := by decide +kernel
theorem dX10_pour_49 : decode cX10_pour 49 = .ok (.iaload, 1) := by decide +kernel
theorem dX10_pour_50 : decode cX10_pour 50 = .ok (.isub, 1) := by decide +kernel
theorem dX10_pour_51 : decode cX10_pour 51 = .ok (.invokestatic 206, 3) := by decide +kernel
theorem dX10_pour_54 : decode cX10_pour 54 = .ok (.istore_n 3, 1) := by decide +kernel
theorem dX10_pour_55 : decode cX10_pour 55 = .ok (.iload_n 3, 1) := by decide +kernel
theorem dX10_pour_56 : decode cX10_pour 56 = .ok (.invokestatic 209, 3) := by decide +kernel
theorem dX10_pour_59 : decode cX10_pour 59 = .ok (.istore 4, 2) := by decide +kernel
theorem dX10_pour_61 : decode cX10_pour 61 = .ok (.aload_n 0, 1) := by decide +kernel
theorem dX10_pour_62 : decode cX10_pour 62 = .ok (.getfield 28, 3) := by decide +kernel
theorem dX10_pour_65 : decode cX10_pour 65 = .ok (.getfield 187, 3) := by decide +kernel
theorem dX10_pour_68 : decode cX10_pour 68 = .ok (.iload_n 1, 1) := by decide +kernel
theorem dX10_pour_69 : decode cX10_pour 69 = .ok (.iaload, 1) := by decide +kernel
theorem dX10_pour_70 : decode cX10_pour 70 = .ok (.aload_n 0, 1) := by decide +kernel
theorem dX10_pour_71 : decode cX10_pour 71 = .ok (.getfield 28, 3) := by decide +kernel
theorem dX10_pour_74 : decode cX10_pour 74 = .ok (.getfield 187, 3) := by decide +kernel
theorem dX10_pour_77 : decode cX10_pour 77 = .ok (.iload_n 2, 1) := by decide +kernel
theorem dX10_pour_78 : decode cX10_pour 78 = .ok (.iaload, 1) := by decide +kernel
theorem dX10_pour_79 : decode cX10_pour 79 = .ok (.if_icmp .ne 8, 3) := by decide +kernel
theorem dX10_pour_82 : decode cX10_pour 82 = .ok (.iload 4, 2) := by decide +kernel
theorem dX10_pour_84 : decode cX10_pour 84 = .ok (.ifCond .ne 6, 3) := by decide +kernel
theorem dX10_pour_87 : decode cX10_pour 87 = .ok (.bipush (-4), 2) := by decide +kernel
theorem dX10_pour_89 : decode cX10_pour 89 = .ok (.ireturn, 1) := by decide +kernel
theorem dX10_pour_90 : decode cX10_pour 90 = .ok (.aload_n 0, 1) := by decide +kernel
theorem dX10_pour_91 : decode cX10_pour 91 = .ok (.getfield 35, 3) := by decide +kernel
theorem dX10_pour_94 : decode cX10_pour 94 = .ok (.iconst 2, 1) := by decide +kernel
theorem dX10_pour_95 : decode cX10_pour 95 = .ok (.aload_n 0, 1) := by decide +kernel
theorem dX10_pour_96 : decode cX10_pour 96 = .ok (.getfield 28, 3) := by decide +kernel
theorem dX10_pour_99 : decode cX10_pour 99 = .ok (.invokevirtual 193, 3) := by decide +kernel
theorem dX10_pour_102 : decode cX10_pour 102 = .ok (.aload_n 0, 1) := by decide +kernel
theorem dX10_pour_103 : decode cX10_pour 103 = .ok (.getfield 28, 3) := by decide +kernel
theorem dX10_pour_106 : decode cX10_pour 106 = .ok (.getfield 162, 3) := by decide +kernel
theorem dX10_pour_109 : decode cX10_pour 109 = .ok (.iload_n 1, 1) := by decide +kernel
theorem dX10_pour_110 : decode cX10_pour 110 = .ok (.dup2, 1) := by decide +kernel
theorem dX10_pour_111 : decode cX10_pour 111 = .ok (.iaload, 1) := by decide +kernel
theorem dX10_pour_112 : decode cX10_pour 112 = .ok (.iload_n 3, 1) := by decide +kernel
theorem dX10_pour_113 : decode cX10_pour 113 = .ok (.isub, 1) := by decide +kernel
theorem dX10_pour_114 : decode cX10_pour 114 = .ok (.iastore, 1) := by decide +kernel
theorem dX10_pour_115 : decode cX10_pour 115 = .ok (.aload_n 0, 1) := by decide +kernel
theorem dX10_pour_116 : decode cX10_pour 116 = .ok (.getfield 28, 3) := by decide +kernel
theorem dX10_pour_119 : decode cX10_pour 119 = .ok (.getfield 162, 3) := by decide +kernel
theorem dX10_pour_122 : decode cX10_pour 122 = .ok (.iload_n 2, 1) := by decide +kernel
theorem dX10_pour_123 : decode cX10_pour 123 = .ok (.dup2, 1) := by decide +kernel
theorem dX10_pour_124 : decode cX10_pour 124 = .ok (.iaload, 1) := by decide +kernel
theorem dX10_pour_125 : decode cX10_pour 125 = .ok (.iload 4, 2) := by decide +kernel
theorem dX10_pour_127 : decode cX10_pour 127 = .ok (.iadd, 1) := by decide +kernel
theorem dX10_pour_128 : decode cX10_pour 128 = .ok (.iastore, 1) := by decide +kernel
theorem dX10_pour_129 : decode cX10_pour 129 = .ok (.aload_n 0, 1) := by decide +kernel
theorem dX10_pour_130 : decode cX10_pour 130 = .ok (.getfield 28, 3) := by decide +kernel
theorem dX10_pour_133 : decode cX10_pour 133 = .ok (.getfield 169, 3) := by decide +kernel
theorem dX10_pour_136 : decode cX10_pour 136 = .ok (.iload_n 1, 1) := by decide +kernel
theorem dX10_pour_137 : decode cX10_pour 137 = .ok (.iconst 1, 1) := by decide +kernel
theorem dX10_pour_138 : decode cX10_pour 138 = .ok (.iastore, 1) := by decide +kernel
theorem dX10_pour_139 : decode cX10_pour 139 = .ok (.aload_n 0, 1) := by decide +kernel
theorem dX10_pour_140 : decode cX10_pour 140 = .ok (.getfield 28, 3) := by decide +kernel
theorem dX10_pour_143 : decode cX10_pour 143 = .ok (.getfield 169, 3) := by decide +kernel
theorem dX10_pour_146 : decode cX10_pour 146 = .ok (.iload_n 2, 1) := by decide +kernel
theorem dX10_pour_147 : decode cX10_pour 147 = .ok (.iconst 1, 1) := by decide +kernel
theorem dX10_pour_148 : decode cX10_pour 148 = .ok (.iastore, 1) := by decide +kernel
theorem dX10_pour_149 : decode cX10_pour 149 = .ok (.aload_n 0, 1) := by decide +kernel
theorem dX10_pour_150 : decode cX10_pour 150 = .ok (.iload 4, 2) := by decide +kernel
theorem dX10_pour_152 : decode cX10_pour 152 = .ok (.iload_n 3, 1) := by decide +kernel
theorem dX10_pour_153 : decode cX10_pour 153 = .ok (.iload 4, 2) := by decide +kernel
theorem dX10_pour_155 : decode cX10_pour 155 = .ok (.isub, 1) := by decide +kernel
theorem dX10_pour_156 : decode cX10_pour 156 = .ok (.invokevirtual 101, 3) := by decide +kernel
theorem dX10_pour_159 : decode cX10_pour 159 = .ok (.ireturn, 1) := by decide +kernel
theorem dX10_spend_0 : decode cX10_spend 0 = .ok (.aload_n 0, 1) := by decide +kernel
theorem dX10_spend_1 : decode cX10_spend 1 = .ok (.iload_n 1, 1) := by decide +kernel
theorem dX10_spend_2 : decode cX10_spend 2 = .ok (.invokevirtual 147, 3) := by decide +kernel
theorem dX10_spend_5 : decode cX10_spend 5 = .ok (.ifCond .eq 13, 3) := by decide +kernel
theorem dX10_spend_8 : decode cX10_spend 8 = .ok (.iload_n 2, 1) := by decide +kernel
theorem dX10_spend_9 : decode cX10_spend 9 = .ok (.iconst 1, 1) := by decide +kernel
theorem dX10_spend_10 : decode cX10_spend 10 = .ok (.bipush 20, 2) := by decide +kernel
theorem dX10_spend_12 : decode cX10_spend 12 = .ok (.invokestatic 86, 3) := by decide +kernel
theorem dX10_spend_15 : decode cX10_spend 15 = .ok (.ifCond .ne 5, 3) := by decide +kernel
theorem dX10_spend_18 : decode cX10_spend 18 = .ok (.iconst (-1), 1) := by decide +kernel
theorem dX10_spend_19 : decode cX10_spend 19 = .ok (.ireturn, 1) := by decide +kernel
theorem dX10_spend_20 : decode cX10_spend 20 = .ok (.aload_n 0, 1) := by decide +kernel
theorem dX10_spend_21 : decode cX10_spend 21 = .ok (.getfield 72, 3) := by decide +kernel
theorem dX10_spend_24 : decode cX10_spend 24 = .ok (.getfield 156, 3) := by decide +kernel
theorem dX10_spend_27 : decode cX10_spend 27 = .ok (.iload_n 1, 1) := by decide +kernel
theorem dX10_spend_28 : decode cX10_spend 28 = .ok (.iaload, 1) := by decide +kernel
theorem dX10_spend_29 : decode cX10_spend 29 = .ok (.istore_n 3, 1) := by decide +kernel
theorem dX10_spend_30 : decode cX10_spend 30 = .ok (.iload_n 3, 1) := by decide +kernel
theorem dX10_spend_31 : decode cX10_spend 31 = .ok (.aload_n 0, 1) := by decide +kernel
theorem dX10_spend_32 : decode cX10_spend 32 = .ok (.getfield 28, 3) := by decide +kernel
theorem dX10_spend_35 : decode cX10_spend 35 = .ok (.getfield 162, 3) := by decide +kernel
theorem dX10_spend_38 : decode cX10_spend 38 = .ok (.iload_n 1, 1) := by decide +kernel
theorem dX10_spend_39 : decode cX10_spend 39 = .ok (.iaload, 1) := by decide +kernel
theorem dX10_spend_40 : decode cX10_spend 40 = .ok (.invokestatic 172, 3) := by decide +kernel
theorem dX10_spend_43 : decode cX10_spend 43 = .ok (.iload_n 2, 1) := by decide +kernel
theorem dX10_spend_44 : decode cX10_spend 44 = .ok (.if_icmp .ge 6, 3) := by decide +kernel
theorem dX10_spend_47 : decode cX10_spend 47 = .ok (.bipush (-4), 2) := by decide +kernel
theorem dX10_spend_49 : decode cX10_spend 49 = .ok (.ireturn, 1) := by decide +kernel
theorem dX10_spend_50 : decode cX10_spend 50 = .ok (.aload_n 0, 1) := by decide +kernel
theorem dX10_spend_51 : decode cX10_spend 51 = .ok (.getfield 35, 3) := by decide +kernel
theorem dX10_spend_54 : decode cX10_spend 54 = .ok (.iconst 3, 1) := by decide +kernel
theorem dX10_spend_55 : decode cX10_spend 55 = .ok (.aload_n 0, 1) := by decide +kernel
theorem dX10_spend_56 : decode cX10_spend 56 = .ok (.getfield 28, 3) := by decide +kernel
theorem dX10_spend_59 : decode cX10_spend 59 = .ok (.invokevirtual 193, 3) := by decide +kernel
theorem dX10_spend_62 : decode cX10_spend 62 = .ok (.aload_n 0, 1) := by decide +kernel
theorem dX10_spend_63 : decode cX10_spend 63 = .ok (.getfield 28, 3) := by decide +kernel
theorem dX10_spend_66 : decode cX10_spend 66 = .ok (.getfield 162, 3) := by decide +kernel
theorem dX10_spend_69 : decode cX10_spend 69 = .ok (.iload_n 1, 1) := by decide +kernel
theorem dX10_spend_70 : decode cX10_spend 70 = .ok (.dup2, 1) := by decide +kernel
theorem dX10_spend_71 : decode cX10_spend 71 = .ok (.iaload, 1) := by decide +kernel
theorem dX10_spend_72 : decode cX10_spend 72 = .ok (.iload_n 2, 1) := by decide +kernel
theorem dX10_spend_73 : decode cX10_spend 73 = .ok (.iload_n 3, 1) := by decide +kernel
theorem dX10_spend_74 : decode cX10_spend 74 = .ok (.invokestatic 175, 3) := by decide +kernel
theorem dX10_spend_77 : decode cX10_spend 77 = .ok (.imul, 1) := by decide +kernel
theorem dX10_spend_78 : decode cX10_spend 78 = .ok (.isub, 1) := by decide +kernel
theorem dX10_spend_79 : decode cX10_spend 79 = .ok (.iastore, 1) := by decide +kernel
theorem dX10_spend_80 : decode cX10_spend 80 = .ok (.aload_n 0, 1) := by decide +kernel
theorem dX10_spend_81 : decode cX10_spend 81 = .ok (.getfield 28, 3) := by decide +kernel
theorem dX10_spend_84 : decode cX10_spend 84 = .ok (.getfield 169, 3) := by decide +kernel
theorem dX10_spend_87 : decode cX10_spend 87 = .ok (.iload_n 1, 1) := by decide +kernel
theorem dX10_spend_88 : decode cX10_spend 88 = .ok (.iconst 1, 1) := by decide +kernel
theorem dX10_spend_89 : decode cX10_spend 89 = .ok (.iastore, 1) := by decide +kernel
theorem dX10_spend_90 : decode cX10_spend 90 = .ok (.aload_n 0, 1) := by decide +kernel
theorem dX10_spend_91 : decode cX10_spend 91 = .ok (.getfield 28, 3) := by decide +kernel
theorem dX10_spend_94 : decode cX10_spend 94 = .ok (.getfield 212, 3) := by decide +kernel
theorem dX10_spend_97 : decode cX10_spend 97 = .ok (.aload_n 0, 1) := by decide +kernel
theorem dX10_spend_98 : decode cX10_spend 98 = .ok (.getfield 28, 3) := by decide +kernel
theorem dX10_spend_101 : decode cX10_spend 101 = .ok (.getfield 187, 3) := by decide +kernel
theorem dX10_spend_104 : decode cX10_spend 104 = .ok (.iload_n 1, 1) := by decide +kernel
theorem dX10_spend_105 : decode cX10_spend 105 = .ok (.iaload, 1) := by decide +kernel
theorem dX10_spend_106 : decode cX10_spend 106 = .ok (.dup2, 1) := by decide +kernel
theorem dX10_spend_107 : decode cX10_spend 107 = .ok (.iaload, 1) := by decide +kernel
theorem dX10_spend_108 : decode cX10_spend 108 = .ok (.iload_n 2, 1) := by decide +kernel
theorem dX10_spend_109 : decode cX10_spend 109 = .ok (.iadd, 1) := by decide +kernel
theorem dX10_spend_110 : decode cX10_spend 110 = .ok (.iastore, 1) := by decide +kernel
theorem dX10_spend_111 : decode cX10_spend 111 = .ok (.aload_n 0, 1) := by decide +kernel
theorem dX10_spend_112 : decode cX10_spend 112 = .ok (.getfield 28, 3) := by decide +kernel
theorem dX10_spend_115 : decode cX10_spend 115 = .ok (.getfield 162, 3) := by decide +kernel
theorem dX10_spend_118 : decode cX10_spend 118 = .ok (.iload_n 1, 1) := by decide +kernel
theorem dX10_spend_119 : decode cX10_spend 119 = .ok (.iaload, 1) := by decide +kernel
theorem dX10_spend_120 : decode cX10_spend 120 = .ok (.ireturn, 1) := by decide +kernel
theorem dX10_steal_0 : decode cX10_steal 0 = .ok (.aload_n 0, 1) := by decide +kernel
theorem dX10_steal_1 : decode cX10_steal 1 = .ok (.iload_n 1, 1) := by decide +kernel
theorem dX10_steal_2 : decode cX10_steal 2 = .ok (.invokevirtual 147, 3) := by decide +kernel
theorem dX10_steal_5 : decode cX10_steal 5 = .ok (.ifCond .eq 13, 3) := by decide +kernel
theorem dX10_steal_8 : decode cX10_steal 8 = .ok (.iload_n 2, 1) := by decide +kernel
theorem dX10_steal_9 : decode cX10_steal 9 = .ok (.iconst 1, 1) := by decide +kernel
theorem dX10_steal_10 : decode cX10_steal 10 = .ok (.bipush 20, 2) := by decide +kernel
theorem dX10_steal_12 : decode cX10_steal 12 = .ok (.invokestatic 86, 3) := by decide +kernel
theorem dX10_steal_15 : decode cX10_steal 15 = .ok (.ifCond .ne 5, 3) := by decide +kernel
theorem dX10_steal_18 : decode cX10_steal 18 = .ok (.iconst (-1), 1) := by decide +kernel
theorem dX10_steal_19 : decode cX10_steal 19 = .ok (.ireturn, 1) := by decide +kernel
theorem dX10_steal_20 : decode cX10_steal 20 = .ok (.aload_n 0, 1) := by decide +kernel
theorem dX10_steal_21 : decode cX10_steal 21 = .ok (.getfield 28, 3) := by decide +kernel
theorem dX10_steal_24 : decode cX10_steal 24 = .ok (.getfield 162, 3) := by decide +kernel
theorem dX10_steal_27 : decode cX10_steal 27 = .ok (.iload_n 1, 1) := by decide +kernel
theorem dX10_steal_28 : decode cX10_steal 28 = .ok (.iaload, 1) := by decide +kernel
theorem dX10_steal_29 : decode cX10_steal 29 = .ok (.iload_n 2, 1) := by decide +kernel
theorem dX10_steal_30 : decode cX10_steal 30 = .ok (.if_icmp .lt 16, 3) := by decide +kernel
theorem dX10_steal_33 : decode cX10_steal 33 = .ok (.aload_n 0, 1) := by decide +kernel
theorem dX10_steal_34 : decode cX10_steal 34 = .ok (.getfield 72, 3) := by decide +kernel
theorem dX10_steal_37 : decode cX10_steal 37 = .ok (.getfield 156, 3) := by decide +kernel
theorem dX10_steal_40 : decode cX10_steal 40 = .ok (.iload_n 1, 1) := by decide +kernel
theorem dX10_steal_41 : decode cX10_steal 41 = .ok (.iaload, 1) := by decide +kernel
theorem dX10_steal_42 : decode cX10_steal 42 = .ok (.iconst 4, 1) := by decide +kernel
theorem dX10_steal_43 : decode cX10_steal 43 = .ok (.if_icmp .ne 6, 3) := by decide +kernel
theorem dX10_steal_46 : decode cX10_steal 46 = .ok (.bipush (-4), 2) := by decide +kernel
theorem dX10_steal_48 : decode cX10_steal 48 = .ok (.ireturn, 1) := by decide +kernel
theorem dX10_steal_49 : decode cX10_steal 49 = .ok (.aload_n 0, 1) := by decide +kernel
theorem dX10_steal_50 : decode cX10_steal 50 = .ok (.getfield 35, 3) := by decide +kernel
theorem dX10_steal_53 : decode cX10_steal 53 = .ok (.iconst 4, 1) := by decide +kernel
theorem dX10_steal_54 : decode cX10_steal 54 = .ok (.aload_n 0, 1) := by decide +kernel
theorem dX10_steal_55 : decode cX10_steal 55 = .ok (.getfield 28, 3) := by decide +kernel
theorem dX10_steal_58 : decode cX10_steal 58 = .ok (.invokevirtual 193, 3) := by decide +kernel
theorem dX10_steal_61 : decode cX10_steal 61 = .ok (.aload_n 0, 1) := by decide +kernel
theorem dX10_steal_62 : decode cX10_steal 62 = .ok (.getfield 28, 3) := by decide +kernel
theorem dX10_steal_65 : decode cX10_steal 65 = .ok (.getfield 162, 3) := by decide +kernel
theorem dX10_steal_68 : decode cX10_steal 68 = .ok (.iload_n 1, 1) := by decide +kernel
theorem dX10_steal_69 : decode cX10_steal 69 = .ok (.dup2, 1) := by decide +kernel
theorem dX10_steal_70 : decode cX10_steal 70 = .ok (.iaload, 1) := by decide +kernel
theorem dX10_steal_71 : decode cX10_steal 71 = .ok (.iload_n 2, 1) := by decide +kernel
theorem dX10_steal_72 : decode cX10_steal 72 = .ok (.isub, 1) := by decide +kernel
theorem dX10_steal_73 : decode cX10_steal 73 = .ok (.iastore, 1) := by decide +kernel
theorem dX10_steal_74 : decode cX10_steal 74 = .ok (.aload_n 0, 1) := by decide +kernel
theorem dX10_steal_75 : decode cX10_steal 75 = .ok (.getfield 28, 3) := by decide +kernel
theorem dX10_steal_78 : decode cX10_steal 78 = .ok (.getfield 162, 3) := by decide +kernel
theorem dX10_steal_81 : decode cX10_steal 81 = .ok (.iload_n 1, 1) := by decide +kernel
theorem dX10_steal_82 : decode cX10_steal 82 = .ok (.iaload, 1) := by decide +kernel
theorem dX10_steal_83 : decode cX10_steal 83 = .ok (.ireturn, 1) := by decide +kernel
theorem dX10_night_0 : decode cX10_night 0 = .ok (.aload_n 0, 1) := by decide +kernel
theorem dX10_night_1 : decode cX10_night 1 = .ok (.getfield 28, 3) := by decide +kernel
theorem dX10_night_4 : decode cX10_night 4 = .ok (.getfield 190, 3) := by decide +kernel
theorem dX10_night_7 : decode cX10_night 7 = .ok (.sipush 999, 3) := by decide +kernel
theorem dX10_night_10 : decode cX10_night 10 = .ok (.if_icmp .lt 6, 3) := by decide +kernel
theorem dX10_night_13 : decode cX10_night 13 = .ok (.bipush (-2), 2) := by decide +kernel
theorem dX10_night_15 : decode cX10_night 15 = .ok (.ireturn, 1) := by decide +kernel
theorem dX10_night_16 : decode cX10_night 16 = .ok (.aload_n 0, 1) := by decide +kernel
theorem dX10_night_17 : decode cX10_night 17 = .ok (.getfield 35, 3) := by decide +kernel
theorem dX10_night_20 : decode cX10_night 20 = .ok (.iconst 5, 1) := by decide +kernel
theorem dX10_night_21 : decode cX10_night 21 = .ok (.aload_n 0, 1) := by decide +kernel
theorem dX10_night_22 : decode cX10_night 22 = .ok (.getfield 28, 3) := by decide +kernel
theorem dX10_night_25 : decode cX10_night 25 = .ok (.invokevirtual 193, 3) := by decide +kernel
theorem dX10_night_28 : decode cX10_night 28 = .ok (.aload_n 0, 1) := by decide +kernel
theorem dX10_night_29 : decode cX10_night 29 = .ok (.invokevirtual 214, 3) := by decide +kernel
theorem dX10_night_32 : decode cX10_night 32 = .ok (.istore_n 1, 1) := by decide +kernel
theorem dX10_night_33 : decode cX10_night 33 = .ok (.aload_n 0, 1) := by decide +kernel
theorem dX10_night_34 : decode cX10_night 34 = .ok (.invokevirtual 218, 3) := by decide +kernel
theorem dX10_night_37 : decode cX10_night 37 = .ok (.istore_n 2, 1) := by decide +kernel
theorem dX10_night_38 : decode cX10_night 38 = .ok (.aload_n 0, 1) := by decide +kernel
theorem dX10_night_39 : decode cX10_night 39 = .ok (.getfield 28, 3) := by decide +kernel
theorem dX10_night_42 : decode cX10_night 42 = .ok (.invokevirtual 221, 3) := by decide +kernel
theorem dX10_night_45 : decode cX10_night 45 = .ok (.aload_n 0, 1) := by decide +kernel
theorem dX10_night_46 : decode cX10_night 46 = .ok (.iload_n 1, 1) := by decide +kernel
theorem dX10_night_47 : decode cX10_night 47 = .ok (.iload_n 2, 1) := by decide +kernel
theorem dX10_night_48 : decode cX10_night 48 = .ok (.invokevirtual 101, 3) := by decide +kernel
theorem dX10_night_51 : decode cX10_night 51 = .ok (.ireturn, 1) := by decide +kernel
theorem dX10_undo_0 : decode cX10_undo 0 = .ok (.aload_n 0, 1) := by decide +kernel
theorem dX10_undo_1 : decode cX10_undo 1 = .ok (.getfield 35, 3) := by decide +kernel
theorem dX10_undo_4 : decode cX10_undo 4 = .ok (.getfield 224, 3) := by decide +kernel
theorem dX10_undo_7 : decode cX10_undo 7 = .ok (.ifCond .ne 8, 3) := by decide +kernel
theorem dX10_undo_10 : decode cX10_undo 10 = .ok (.bipush (-4), 2) := by decide +kernel
theorem dX10_undo_12 : decode cX10_undo 12 = .ok (.goto 14, 3) := by decide +kernel
theorem dX10_undo_15 : decode cX10_undo 15 = .ok (.aload_n 0, 1) := by decide +kernel
theorem dX10_undo_16 : decode cX10_undo 16 = .ok (.getfield 35, 3) := by decide +kernel
theorem dX10_undo_19 : decode cX10_undo 19 = .ok (.aload_n 0, 1) := by decide +kernel
theorem dX10_undo_20 : decode cX10_undo 20 = .ok (.getfield 28, 3) := by decide +kernel
theorem dX10_undo_23 : decode cX10_undo 23 = .ok (.invokevirtual 225, 3) := by decide +kernel
theorem dX10_undo_26 : decode cX10_undo 26 = .ok (.ireturn, 1) := by decide +kernel
theorem dX10_keep_0 : decode cX10_keep 0 = .ok (.iload_n 1, 1) := by decide +kernel
theorem dX10_keep_1 : decode cX10_keep 1 = .ok (.iconst 0, 1) := by decide +kernel
theorem dX10_keep_2 : decode cX10_keep 2 = .ok (.iconst 2, 1) := by decide +kernel
theorem dX10_keep_3 : decode cX10_keep 3 = .ok (.invokestatic 86, 3) := by decide +kernel
theorem dX10_keep_6 : decode cX10_keep 6 = .ok (.ifCond .ne 5, 3) := by decide +kernel
theorem dX10_keep_9 : decode cX10_keep 9 = .ok (.iconst (-1), 1) := by decide +kernel
theorem dX10_keep_10 : decode cX10_keep 10 = .ok (.ireturn, 1) := by decide +kernel
theorem dX10_keep_11 : decode cX10_keep 11 = .ok (.aload_n 0, 1) := by decide +kernel
theorem dX10_keep_12 : decode cX10_keep 12 = .ok (.getfield 72, 3) := by decide +kernel
theorem dX10_keep_15 : decode cX10_keep 15 = .ok (.getfield 144, 3) := by decide +kernel
theorem dX10_keep_18 : decode cX10_keep 18 = .ok (.ifCond .ne 6, 3) := by decide +kernel
theorem dX10_keep_21 : decode cX10_keep 21 = .ok (.bipush (-4), 2) := by decide +kernel
theorem dX10_keep_23 : decode cX10_keep 23 = .ok (.ireturn, 1) := by decide +kernel
theorem dX10_keep_24 : decode cX10_keep 24 = .ok (.aload_n 0, 1) := by decide +kernel
theorem dX10_keep_25 : decode cX10_keep 25 = .ok (.getfield 44, 3) := by decide +kernel
theorem dX10_keep_28 : decode cX10_keep 28 = .ok (.iload_n 1, 1) := by decide +kernel
theorem dX10_keep_29 : decode cX10_keep 29 = .ok (.aload_n 0, 1) := by decide +kernel
theorem dX10_keep_30 : decode cX10_keep 30 = .ok (.getfield 28, 3) := by decide +kernel
theorem dX10_keep_33 : decode cX10_keep 33 = .ok (.invokevirtual 229, 3) := by decide +kernel
theorem dX10_keep_36 : decode cX10_keep 36 = .ok (.aload_n 0, 1) := by decide +kernel
theorem dX10_keep_37 : decode cX10_keep 37 = .ok (.getfield 48, 3) := by decide +kernel
theorem dX10_keep_40 : decode cX10_keep 40 = .ok (.iload_n 1, 1) := by decide +kernel
theorem dX10_keep_41 : decode cX10_keep 41 = .ok (.aload_n 0, 1) := by decide +kernel
theorem dX10_keep_42 : decode cX10_keep 42 = .ok (.getfield 28, 3) := by decide +kernel
theorem dX10_keep_45 : decode cX10_keep 45 = .ok (.getfield 190, 3) := by decide +kernel
theorem dX10_keep_48 : decode cX10_keep 48 = .ok (.iastore, 1) := by decide +kernel
theorem dX10_keep_49 : decode cX10_keep 49 = .ok (.aload_n 0, 1) := by decide +kernel
theorem dX10_keep_50 : decode cX10_keep 50 = .ok (.getfield 28, 3) := by decide +kernel
theorem dX10_keep_53 : decode cX10_keep 53 = .ok (.getfield 190, 3) := by decide +kernel
theorem dX10_keep_56 : decode cX10_keep 56 = .ok (.ireturn, 1) := by decide +kernel
theorem dX10_on_0 : decode cX10_on 0 = .ok (.iload_n 1, 1) := by decide +kernel
theorem dX10_on_1 : decode cX10_on 1 = .ok (.iconst 0, 1) := by decide +kernel
theorem dX10_on_2 : decode cX10_on 2 = .ok (.iconst 2, 1) := by decide +kernel
theorem dX10_on_3 : decode cX10_on 3 = .ok (.invokestatic 86, 3) := by decide +kernel
theorem dX10_on_6 : decode cX10_on 6 = .ok (.ifCond .ne 5, 3) := by decide +kernel
theorem dX10_on_9 : decode cX10_on 9 = .ok (.iconst (-1), 1) := by decide +kernel
theorem dX10_on_10 : decode cX10_on 10 = .ok (.ireturn, 1) := by decide +kernel
theorem dX10_on_11 : decode cX10_on 11 = .ok (.aload_n 0, 1) := by decide +kernel
theorem dX10_on_12 : decode cX10_on 12 = .ok (.getfield 48, 3) := by decide +kernel
theorem dX10_on_15 : decode cX10_on 15 = .ok (.iload_n 1, 1) := by decide +kernel
theorem dX10_on_16 : decode cX10_on 16 = .ok (.iaload, 1) := by decide +kernel
theorem dX10_on_17 : decode cX10_on 17 = .ok (.iconst (-1), 1) := by decide +kernel
theorem dX10_on_18 : decode cX10_on 18 = .ok (.if_icmp .ne 9, 3) := by decide +kernel
theorem dX10_on_21 : decode cX10_on 21 = .ok (.aload_n 0, 1) := by decide +kernel
theorem dX10_on_22 : decode cX10_on 22 = .ok (.iconst 1, 1) := by decide +kernel
theorem dX10_on_23 : decode cX10_on 23 = .ok (.invokevirtual 113, 3) := by decide +kernel
theorem dX10_on_26 : decode cX10_on 26 = .ok (.ireturn, 1) := by decide +kernel
theorem dX10_on_27 : decode cX10_on 27 = .ok (.aload_n 0, 1) := by decide +kernel
theorem dX10_on_28 : decode cX10_on 28 = .ok (.getfield 44, 3) := by decide +kernel
theorem dX10_on_31 : decode cX10_on 31 = .ok (.iload_n 1, 1) := by decide +kernel
theorem dX10_on_32 : decode cX10_on 32 = .ok (.aload_n 0, 1) := by decide +kernel
theorem dX10_on_33 : decode cX10_on 33 = .ok (.getfield 28, 3) := by decide +kernel
theorem dX10_on_36 : decode cX10_on 36 = .ok (.invokevirtual 232, 3) := by decide +kernel
theorem dX10_on_39 : decode cX10_on 39 = .ok (.aload_n 0, 1) := by decide +kernel
theorem dX10_on_40 : decode cX10_on 40 = .ok (.getfield 35, 3) := by decide +kernel
theorem dX10_on_43 : decode cX10_on 43 = .ok (.invokevirtual 142, 3) := by decide +kernel
theorem dX10_on_46 : decode cX10_on 46 = .ok (.aload_n 0, 1) := by decide +kernel
theorem dX10_on_47 : decode cX10_on 47 = .ok (.getfield 28, 3) := by decide +kernel
theorem dX10_on_50 : decode cX10_on 50 = .ok (.getfield 190, 3) := by decide +kernel
theorem dX10_on_53 : decode cX10_on 53 = .ok (.ireturn, 1) := by decide +kernel
theorem dX10_brings_0 : decode cX10_brings 0 = .ok (.aload_n 0, 1) := by decide +kernel
theorem dX10_brings_1 : decode cX10_brings 1 = .ok (.iload_n 1, 1) := by decide +kernel
theorem dX10_brings_2 : decode cX10_brings 2 = .ok (.invokevirtual 147, 3) := by decide +kernel
theorem dX10_brings_5 : decode cX10_brings 5 = .ok (.ifCond .eq 10, 3) := by decide +kernel
theorem dX10_brings_8 : decode cX10_brings 8 = .ok (.iload_n 2, 1) := by decide +kernel
theorem dX10_brings_9 : decode cX10_brings 9 = .ok (.invokestatic 178, 3) := by decide +kernel
theorem dX10_brings_12 : decode cX10_brings 12 = .ok (.ifCond .ne 5, 3) := by decide +kernel
theorem dX10_brings_15 : decode cX10_brings 15 = .ok (.iconst (-1), 1) := by decide +kernel
theorem dX10_brings_16 : decode cX10_brings 16 = .ok (.ireturn, 1) := by decide +kernel
theorem dX10_brings_17 : decode cX10_brings 17 = .ok (.aload_n 0, 1) := by decide +kernel
theorem dX10_brings_18 : decode cX10_brings 18 = .ok (.aload_n 0, 1) := by decide +kernel
theorem dX10_brings_19 : decode cX10_brings 19 = .ok (.getfield 72, 3) := by decide +kernel
theorem dX10_brings_22 : decode cX10_brings 22 = .ok (.iload_n 1, 1) := by decide +kernel
theorem dX10_brings_23 : decode cX10_brings 23 = .ok (.iload_n 2, 1) := by decide +kernel
theorem dX10_brings_24 : decode cX10_brings 24 = .ok (.invokevirtual 235, 3) := by decide +kernel
theorem dX10_brings_27 : decode cX10_brings 27 = .ok (.aload_n 0, 1) := by decide +kernel
theorem dX10_brings_28 : decode cX10_brings 28 = .ok (.getfield 72, 3) := by decide +kernel
theorem dX10_brings_31 : decode cX10_brings 31 = .ok (.iload_n 1, 1) := by decide +kernel
theorem dX10_brings_32 : decode cX10_brings 32 = .ok (.iload_n 2, 1) := by decide +kernel
theorem dX10_brings_33 : decode cX10_brings 33 = .ok (.invokevirtual 238, 3) := by decide +kernel
theorem dX10_brings_36 : decode cX10_brings 36 = .ok (.invokevirtual 101, 3) := by decide +kernel
theorem dX10_brings_39 : decode cX10_brings 39 = .ok (.ireturn, 1) := by decide +kernel
theorem dX10_best_0 : decode cX10_best 0 = .ok (.iload_n 1, 1) := by decide +kernel
theorem dX10_best_1 : decode cX10_best 1 = .ok (.invokestatic 178, 3) := by decide +kernel
theorem dX10_best_4 : decode cX10_best 4 = .ok (.ifCond .ne 5, 3) := by decide +kernel
theorem dX10_best_7 : decode cX10_best 7 = .ok (.iconst (-1), 1) := by decide +kernel
theorem dX10_best_8 : decode cX10_best 8 = .ok (.ireturn, 1) := by decide +kernel
theorem dX10_best_9 : decode cX10_best 9 = .ok (.aload_n 0, 1) := by decide +kernel
theorem dX10_best_10 : decode cX10_best 10 = .ok (.getfield 72, 3) := by decide +kernel
theorem dX10_best_13 : decode cX10_best 13 = .ok (.getfield 144, 3) := by decide +kernel
theorem dX10_best_16 : decode cX10_best 16 = .ok (.ifCond .ne 6, 3) := by decide +kernel
theorem dX10_best_19 : decode cX10_best 19 = .ok (.bipush (-4), 2) := by decide +kernel
theorem dX10_best_21 : decode cX10_best 21 = .ok (.ireturn, 1) := by decide +kernel
theorem dX10_best_22 : decode cX10_best 22 = .ok (.iconst 0, 1) := by decide +kernel
theorem dX10_best_23 : decode cX10_best 23 = .ok (.istore_n 2, 1) := by decide +kernel
theorem dX10_best_24 : decode cX10_best 24 = .ok (.iconst 1, 1) := by decide +kernel
theorem dX10_best_25 : decode cX10_best 25 = .ok (.istore_n 3, 1) := by decide +kernel
theorem dX10_best_26 : decode cX10_best 26 = .ok (.iload_n 3, 1) := by decide +kernel
theorem dX10_best_27 : decode cX10_best 27 = .ok (.aload_n 0, 1) := by decide +kernel
theorem dX10_best_28 : decode cX10_best 28 = .ok (.getfield 72, 3) := by decide +kernel
theorem dX10_best_31 : decode cX10_best 31 = .ok (.getfield 144, 3) := by decide +kernel
theorem dX10_best_34 : decode cX10_best 34 = .ok (.if_icmp .ge 32, 3) := by decide +kernel
theorem dX10_best_37 : decode cX10_best 37 = .ok (.aload_n 0, 1) := by decide +kernel
theorem dX10_best_38 : decode cX10_best 38 = .ok (.getfield 72, 3) := by decide +kernel
theorem dX10_best_41 : decode cX10_best 41 = .ok (.iload_n 3, 1) := by decide +kernel
theorem dX10_best_42 : decode cX10_best 42 = .ok (.iload_n 1, 1) := by decide +kernel
theorem dX10_best_43 : decode cX10_best 43 = .ok (.invokevirtual 238, 3) := by decide +kernel
theorem dX10_best_46 : decode cX10_best 46 = .ok (.aload_n 0, 1) := by decide +kernel
theorem dX10_best_47 : decode cX10_best 47 = .ok (.getfield 72, 3) := by decide +kernel
theorem dX10_best_50 : decode cX10_best 50 = .ok (.iload_n 2, 1) := by decide +kernel
theorem dX10_best_51 : decode cX10_best 51 = .ok (.iload_n 1, 1) := by decide +kernel
theorem dX10_best_52 : decode cX10_best 52 = .ok (.invokevirtual 238, 3) := by decide +kernel
theorem dX10_best_55 : decode cX10_best 55 = .ok (.if_icmp .le 5, 3) := by decide +kernel
theorem dX10_best_58 : decode cX10_best 58 = .ok (.iload_n 3, 1) := by decide +kernel
theorem dX10_best_59 : decode cX10_best 59 = .ok (.istore_n 2, 1) := by decide +kernel
theorem dX10_best_60 : decode cX10_best 60 = .ok (.iinc 3 1, 3) := by decide +kernel
theorem dX10_best_63 : decode cX10_best 63 = .ok (.goto (-37), 3) := by decide +kernel
theorem dX10_best_66 : decode cX10_best 66 = .ok (.aload_n 0, 1) := by decide +kernel
theorem dX10_best_67 : decode cX10_best 67 = .ok (.iload_n 2, 1) := by decide +kernel
theorem dX10_best_68 : decode cX10_best 68 = .ok (.aload_n 0, 1) := by decide +kernel
theorem dX10_best_69 : decode cX10_best 69 = .ok (.getfield 72, 3) := by decide +kernel
theorem dX10_best_72 : decode cX10_best 72 = .ok (.iload_n 2, 1) := by decide +kernel
theorem dX10_best_73 : decode cX10_best 73 = .ok (.iload_n 1, 1) := by decide +kernel
theorem dX10_best_74 : decode cX10_best 74 = .ok (.invokevirtual 238, 3) := by decide +kernel
theorem dX10_best_77 : decode cX10_best 77 = .ok (.invokevirtual 101, 3) := by decide +kernel
theorem dX10_best_80 : decode cX10_best 80 = .ok (.ireturn, 1) := by decide +kernel
theorem dX10_loads_0 : decode cX10_loads 0 = .ok (.aload_n 0, 1) := by decide +kernel
theorem dX10_loads_1 : decode cX10_loads 1 = .ok (.getfield 72, 3) := by decide +kernel
theorem dX10_loads_4 : decode cX10_loads 4 = .ok (.getfield 144, 3) := by decide +kernel
theorem dX10_loads_7 : decode cX10_loads 7 = .ok (.ifCond .ne 6, 3) := by decide +kernel
theorem dX10_loads_10 : decode cX10_loads 10 = .ok (.bipush (-4), 2) := by decide +kernel
theorem dX10_loads_12 : decode cX10_loads 12 = .ok (.ireturn, 1) := by decide +kernel
theorem dX10_loads_13 : decode cX10_loads 13 = .ok (.aload_n 0, 1) := by decide +kernel
theorem dX10_loads_14 : decode cX10_loads 14 = .ok (.getfield 62, 3) := by decide +kernel
theorem dX10_loads_17 : decode cX10_loads 17 = .ok (.aload_n 0, 1) := by decide +kernel
theorem dX10_loads_18 : decode cX10_loads 18 = .ok (.getfield 72, 3) := by decide +kernel
theorem dX10_loads_21 : decode cX10_loads 21 = .ok (.invokevirtual 241, 3) := by decide +kernel
theorem dX10_loads_24 : decode cX10_loads 24 = .ok (.aload_n 0, 1) := by decide +kernel
theorem dX10_loads_25 : decode cX10_loads 25 = .ok (.aload_n 0, 1) := by decide +kernel
theorem dX10_loads_26 : decode cX10_loads 26 = .ok (.getfield 62, 3) := by decide +kernel
theorem dX10_loads_29 : decode cX10_loads 29 = .ok (.invokevirtual 245, 3) := by decide +kernel
theorem dX10_loads_32 : decode cX10_loads 32 = .ok (.aload_n 0, 1) := by decide +kernel
theorem dX10_loads_33 : decode cX10_loads 33 = .ok (.getfield 62, 3) := by decide +kernel
theorem dX10_loads_36 : decode cX10_loads 36 = .ok (.invokevirtual 248, 3) := by decide +kernel
theorem dX10_loads_39 : decode cX10_loads 39 = .ok (.invokevirtual 101, 3) := by decide +kernel
theorem dX10_loads_42 : decode cX10_loads 42 = .ok (.ireturn, 1) := by decide +kernel
theorem dX10_needs_0 : decode cX10_needs 0 = .ok (.iload_n 1, 1) := by decide +kernel
theorem dX10_needs_1 : decode cX10_needs 1 = .ok (.invokestatic 251, 3) := by decide +kernel
theorem dX10_needs_4 : decode cX10_needs 4 = .ok (.ifCond .ne 5, 3) := by decide +kernel
theorem dX10_needs_7 : decode cX10_needs 7 = .ok (.iconst (-1), 1) := by decide +kernel
theorem dX10_needs_8 : decode cX10_needs 8 = .ok (.ireturn, 1) := by decide +kernel
theorem dX10_needs_9 : decode cX10_needs 9 = .ok (.bipush (-9), 2) := by decide +kernel
theorem dX10_needs_11 : decode cX10_needs 11 = .ok (.istore_n 2, 1) := by decide +kernel
theorem dX10_needs_12 : decode cX10_needs 12 = .ok (.iconst 0, 1) := by decide +kernel
theorem dX10_needs_13 : decode cX10_needs 13 = .ok (.istore_n 3, 1) := by decide +kernel
theorem dX10_needs_14 : decode cX10_needs 14 = .ok (.iload_n 3, 1) := by decide +kernel
theorem dX10_needs_15 : decode cX10_needs 15 = .ok (.iconst 1, 1) := by decide +kernel
theorem dX10_needs_16 : decode cX10_needs 16 = .ok (.aload_n 0, 1) := by decide +kernel
theorem dX10_needs_17 : decode cX10_needs 17 = .ok (.getfield 72, 3) := by decide +kernel
theorem dX10_needs_20 : decode cX10_needs 20 = .ok (.getfield 144, 3) := by decide +kernel
theorem dX10_needs_23 : decode cX10_needs 23 = .ok (.ishl, 1) := by decide +kernel
theorem dX10_needs_24 : decode cX10_needs 24 = .ok (.if_icmp .ge 61, 3) := by decide +kernel
theorem dX10_needs_27 : decode cX10_needs 27 = .ok (.iload_n 2, 1) := by decide +kernel
theorem dX10_needs_28 : decode cX10_needs 28 = .ok (.bipush (-9), 2) := by decide +kernel
theorem dX10_needs_30 : decode cX10_needs 30 = .ok (.if_icmp .eq 14, 3) := by decide +kernel
theorem dX10_needs_33 : decode cX10_needs 33 = .ok (.iload_n 3, 1) := by decide +kernel
theorem dX10_needs_34 : decode cX10_needs 34 = .ok (.invokestatic 254, 3) := by decide +kernel
theorem dX10_needs_37 : decode cX10_needs 37 = .ok (.iload_n 2, 1) := by decide +kernel
theorem dX10_needs_38 : decode cX10_needs 38 = .ok (.invokestatic 254, 3) := by decide +kernel
theorem dX10_needs_41 : decode cX10_needs 41 = .ok (.if_icmp .ge 7, 3) := by decide +kernel
theorem dX10_needs_44 : decode cX10_needs 44 = .ok (.iconst 1, 1) := by decide +kernel
theorem dX10_needs_45 : decode cX10_needs 45 = .ok (.goto 4, 3) := by decide +kernel
theorem dX10_needs_48 : decode cX10_needs 48 = .ok (.iconst 0, 1) := by decide +kernel
theorem dX10_needs_49 : decode cX10_needs 49 = .ok (.istore 4, 2) := by decide +kernel
theorem dX10_needs_51 : decode cX10_needs 51 = .ok (.iload 4, 2) := by decide +kernel
theorem dX10_needs_53 : decode cX10_needs 53 = .ok (.ifCond .eq 26, 3) := by decide +kernel
theorem dX10_needs_56 : decode cX10_needs 56 = .ok (.aload_n 0, 1) := by decide +kernel
theorem dX10_needs_57 : decode cX10_needs 57 = .ok (.getfield 72, 3) := by decide +kernel
theorem dX10_needs_60 : decode cX10_needs 60 = .ok (.iload_n 3, 1) := by decide +kernel
theorem dX10_needs_61 : decode cX10_needs 61 = .ok (.iload_n 1, 1) := by decide +kernel
theorem dX10_needs_62 : decode cX10_needs 62 = .ok (.invokevirtual 259, 3) := by decide +kernel
theorem dX10_needs_65 : decode cX10_needs 65 = .ok (.aload_n 0, 1) := by decide +kernel
theorem dX10_needs_66 : decode cX10_needs 66 = .ok (.getfield 72, 3) := by decide +kernel
theorem dX10_needs_69 : decode cX10_needs 69 = .ok (.getfield 262, 3) := by decide +kernel
theorem dX10_needs_72 : decode cX10_needs 72 = .ok (.iload_n 1, 1) := by decide +kernel
theorem dX10_needs_73 : decode cX10_needs 73 = .ok (.iaload, 1) := by decide +kernel
theorem dX10_needs_74 : decode cX10_needs 74 = .ok (.if_icmp .lt 5, 3) := by decide +kernel
theorem dX10_needs_77 : decode cX10_needs 77 = .ok (.iload_n 3, 1) := by decide +kernel
theorem dX10_needs_78 : decode cX10_needs 78 = .ok (.istore_n 2, 1) := by decide +kernel
theorem dX10_needs_79 : decode cX10_needs 79 = .ok (.iinc 3 1, 3) := by decide +kernel
theorem dX10_needs_82 : decode cX10_needs 82 = .ok (.goto (-68), 3) := by decide +kernel
theorem dX10_needs_85 : decode cX10_needs 85 = .ok (.iload_n 2, 1) := by decide +kernel
theorem dX10_needs_86 : decode cX10_needs 86 = .ok (.bipush (-9), 2) := by decide +kernel
theorem dX10_needs_88 : decode cX10_needs 88 = .ok (.if_icmp .ne 8, 3) := by decide +kernel
theorem dX10_needs_91 : decode cX10_needs 91 = .ok (.bipush (-9), 2) := by decide +kernel
theorem dX10_needs_93 : decode cX10_needs 93 = .ok (.goto 12, 3) := by decide +kernel
theorem dX10_needs_96 : decode cX10_needs 96 = .ok (.aload_n 0, 1) := by decide +kernel
theorem dX10_needs_97 : decode cX10_needs 97 = .ok (.iload_n 2, 1) := by decide +kernel
theorem dX10_needs_98 : decode cX10_needs 98 = .ok (.invokestatic 254, 3) := by decide +kernel
theorem dX10_needs_101 : decode cX10_needs 101 = .ok (.iload_n 2, 1) := by decide +kernel
theorem dX10_needs_102 : decode cX10_needs 102 = .ok (.invokevirtual 101, 3) := by decide +kernel
theorem dX10_needs_105 : decode cX10_needs 105 = .ok (.ireturn, 1) := by decide +kernel
theorem dX10_store_0 : decode cX10_store 0 = .ok (.iload_n 1, 1) := by decide +kernel
theorem dX10_store_1 : decode cX10_store 1 = .ok (.iconst 1, 1) := by decide +kernel
theorem dX10_store_2 : decode cX10_store 2 = .ok (.bipush 9, 2) := by decide +kernel
theorem dX10_store_4 : decode cX10_store 4 = .ok (.invokestatic 86, 3) := by decide +kernel
theorem dX10_store_7 : decode cX10_store 7 = .ok (.ifCond .eq 13, 3) := by decide +kernel
theorem dX10_store_10 : decode cX10_store 10 = .ok (.iload_n 2, 1) := by decide +kernel
theorem dX10_store_11 : decode cX10_store 11 = .ok (.iconst 1, 1) := by decide +kernel
theorem dX10_store_12 : decode cX10_store 12 = .ok (.bipush 20, 2) := by decide +kernel
theorem dX10_store_14 : decode cX10_store 14 = .ok (.invokestatic 86, 3) := by decide +kernel
theorem dX10_store_17 : decode cX10_store 17 = .ok (.ifCond .ne 5, 3) := by decide +kernel
theorem dX10_store_20 : decode cX10_store 20 = .ok (.iconst (-1), 1) := by decide +kernel
theorem dX10_store_21 : decode cX10_store 21 = .ok (.ireturn, 1) := by decide +kernel
theorem dX10_store_22 : decode cX10_store 22 = .ok (.iload_n 1, 1) := by decide +kernel
theorem dX10_store_23 : decode cX10_store 23 = .ok (.istore_n 3, 1) := by decide +kernel
theorem dX10_store_24 : decode cX10_store 24 = .ok (.iconst 1, 1) := by decide +kernel
theorem dX10_store_25 : decode cX10_store 25 = .ok (.istore 4, 2) := by decide +kernel
theorem dX10_store_27 : decode cX10_store 27 = .ok (.iload 4, 2) := by decide +kernel
theorem dX10_store_29 : decode cX10_store 29 = .ok (.iload_n 2, 1) := by decide +kernel
theorem dX10_store_30 : decode cX10_store 30 = .ok (.if_icmp .ge 16, 3) := by decide +kernel
theorem dX10_store_33 : decode cX10_store 33 = .ok (.iload_n 1, 1) := by decide +kernel
theorem dX10_store_34 : decode cX10_store 34 = .ok (.iload_n 3, 1) := by decide +kernel
theorem dX10_store_35 : decode cX10_store 35 = .ok (.invokestatic 265, 3) := by decide +kernel
theorem dX10_store_38 : decode cX10_store 38 = .ok (.iadd, 1) := by decide +kernel
theorem dX10_store_39 : decode cX10_store 39 = .ok (.istore_n 3, 1) := by decide +kernel
theorem dX10_store_40 : decode cX10_store 40 = .ok (.iinc 4 1, 3) := by decide +kernel
theorem dX10_store_43 : decode cX10_store 43 = .ok (.goto (-16), 3) := by decide +kernel
theorem dX10_store_46 : decode cX10_store 46 = .ok (.iload_n 3, 1) := by decide +kernel
theorem dX10_store_47 : decode cX10_store 47 = .ok (.iload_n 1, 1) := by decide +kernel
theorem dX10_store_48 : decode cX10_store 48 = .ok (.isub, 1) := by decide +kernel
theorem dX10_store_49 : decode cX10_store 49 = .ok (.istore 4, 2) := by decide +kernel
theorem dX10_store_51 : decode cX10_store 51 = .ok (.iconst 1, 1) := by decide +kernel
theorem dX10_store_52 : decode cX10_store 52 = .ok (.istore 5, 2) := by decide +kernel
theorem dX10_store_54 : decode cX10_store 54 = .ok (.iload 5, 2) := by decide +kernel
theorem dX10_store_56 : decode cX10_store 56 = .ok (.iload_n 2, 1) := by decide +kernel
theorem dX10_store_57 : decode cX10_store 57 = .ok (.if_icmp .ge 23, 3) := by decide +kernel
theorem dX10_store_60 : decode cX10_store 60 = .ok (.iload 4, 2) := by decide +kernel
theorem dX10_store_62 : decode cX10_store 62 = .ok (.iconst 0, 1) := by decide +kernel
theorem dX10_store_63 : decode cX10_store 63 = .ok (.iload 4, 2) := by decide +kernel
theorem dX10_store_65 : decode cX10_store 65 = .ok (.iconst 1, 1) := by decide +kernel
theorem dX10_store_66 : decode cX10_store 66 = .ok (.invokestatic 165, 3) := by decide +kernel
theorem dX10_store_69 : decode cX10_store 69 = .ok (.isub, 1) := by decide +kernel
theorem dX10_store_70 : decode cX10_store 70 = .ok (.iload_n 1, 1) := by decide +kernel
theorem dX10_store_71 : decode cX10_store 71 = .ok (.isub, 1) := by decide +kernel
theorem dX10_store_72 : decode cX10_store 72 = .ok (.istore 4, 2) := by decide +kernel
theorem dX10_store_74 : decode cX10_store 74 = .ok (.iinc 5 1, 3) := by decide +kernel
theorem dX10_store_77 : decode cX10_store 77 = .ok (.goto (-23), 3) := by decide +kernel
theorem dX10_store_80 : decode cX10_store 80 = .ok (.aload_n 0, 1) := by decide +kernel
theorem dX10_store_81 : decode cX10_store 81 = .ok (.iload_n 3, 1) := by decide +kernel
theorem dX10_store_82 : decode cX10_store 82 = .ok (.iload 4, 2) := by decide +kernel
theorem dX10_store_84 : decode cX10_store 84 = .ok (.invokevirtual 101, 3) := by decide +kernel
theorem dX10_store_87 : decode cX10_store 87 = .ok (.ireturn, 1) := by decide +kernel
theorem dX10_pours_0 : decode cX10_pours 0 = .ok (.aload_n 0, 1) := by decide +kernel
theorem dX10_pours_1 : decode cX10_pours 1 = .ok (.iload_n 1, 1) := by decide +kernel
theorem dX10_pours_2 : decode cX10_pours 2 = .ok (.iload_n 2, 1) := by decide +kernel
theorem dX10_pours_3 : decode cX10_pours 3 = .ok (.invokevirtual 268, 3) := by decide +kernel
theorem dX10_pours_6 : decode cX10_pours 6 = .ok (.istore_n 3, 1) := by decide +kernel
theorem dX10_pours_7 : decode cX10_pours 7 = .ok (.iload_n 3, 1) := by decide +kernel
theorem dX10_pours_8 : decode cX10_pours 8 = .ok (.ifCond .eq 5, 3) := by decide +kernel
theorem dX10_pours_11 : decode cX10_pours 11 = .ok (.iload_n 3, 1) := by decide +kernel
theorem dX10_pours_12 : decode cX10_pours 12 = .ok (.ireturn, 1) := by decide +kernel
theorem dX10_pours_13 : decode cX10_pours 13 = .ok (.aload_n 0, 1) := by decide +kernel
theorem dX10_pours_14 : decode cX10_pours 14 = .ok (.iload_n 1, 1) := by decide +kernel
theorem dX10_pours_15 : decode cX10_pours 15 = .ok (.invokevirtual 271, 3) := by decide +kernel
theorem dX10_pours_18 : decode cX10_pours 18 = .ok (.astore 4, 2) := by decide +kernel
theorem dX10_pours_20 : decode cX10_pours 20 = .ok (.aload 4, 2) := by decide +kernel
theorem dX10_pours_22 : decode cX10_pours 22 = .ok (.iload_n 1, 1) := by decide +kernel
theorem dX10_pours_23 : decode cX10_pours 23 = .ok (.iload_n 2, 1) := by decide +kernel
theorem dX10_pours_24 : decode cX10_pours 24 = .ok (.invokevirtual 275, 3) := by decide +kernel
theorem dX10_pours_27 : decode cX10_pours 27 = .ok (.istore 5, 2) := by decide +kernel
theorem dX10_pours_29 : decode cX10_pours 29 = .ok (.iload 5, 2) := by decide +kernel
theorem dX10_pours_31 : decode cX10_pours 31 = .ok (.bipush (-9), 2) := by decide +kernel
theorem dX10_pours_33 : decode cX10_pours 33 = .ok (.if_icmp .ne 6, 3) := by decide +kernel
theorem dX10_pours_36 : decode cX10_pours 36 = .ok (.bipush (-9), 2) := by decide +kernel
theorem dX10_pours_38 : decode cX10_pours 38 = .ok (.ireturn, 1) := by decide +kernel
theorem dX10_pours_39 : decode cX10_pours 39 = .ok (.aload 4, 2) := by decide +kernel
theorem dX10_pours_41 : decode cX10_pours 41 = .ok (.iload 5, 2) := by decide +kernel
theorem dX10_pours_43 : decode cX10_pours 43 = .ok (.invokevirtual 280, 3) := by decide +kernel
theorem dX10_pours_46 : decode cX10_pours 46 = .ok (.istore 6, 2) := by decide +kernel
theorem dX10_pours_48 : decode cX10_pours 48 = .ok (.iload 6, 2) := by decide +kernel
