theorem dX11_spend_70 : decode cX11_spend 70 = .ok (.iload_n 1, 1) := by decide +kernel
theorem dX11_spend_71 : decode cX11_spend 71 = .ok (.iadd, 1) := by decide +kernel
theorem dX11_spend_72 : decode cX11_spend 72 = .ok (.iconst 1, 1) := by decide +kernel
theorem dX11_spend_73 : decode cX11_spend 73 = .ok (.iastore, 1) := by decide +kernel
theorem dX11_spend_74 : decode cX11_spend 74 = .ok (.aload_n 0, 1) := by decide +kernel
theorem dX11_spend_75 : decode cX11_spend 75 = .ok (.getfield 53, 3) := by decide +kernel
theorem dX11_spend_78 : decode cX11_spend 78 = .ok (.bipush 18, 2) := by decide +kernel
theorem dX11_spend_80 : decode cX11_spend 80 = .ok (.aload_n 0, 1) := by decide +kernel
theorem dX11_spend_81 : decode cX11_spend 81 = .ok (.getfield 53, 3) := by decide +kernel
theorem dX11_spend_84 : decode cX11_spend 84 = .ok (.bipush 6, 2) := by decide +kernel
theorem dX11_spend_86 : decode cX11_spend 86 = .ok (.iload_n 1, 1) := by decide +kernel
theorem dX11_spend_87 : decode cX11_spend 87 = .ok (.iadd, 1) := by decide +kernel
theorem dX11_spend_88 : decode cX11_spend 88 = .ok (.iaload, 1) := by decide +kernel
theorem dX11_spend_89 : decode cX11_spend 89 = .ok (.iadd, 1) := by decide +kernel
theorem dX11_spend_90 : decode cX11_spend 90 = .ok (.dup2, 1) := by decide +kernel
theorem dX11_spend_91 : decode cX11_spend 91 = .ok (.iaload, 1) := by decide +kernel
theorem dX11_spend_92 : decode cX11_spend 92 = .ok (.iload_n 2, 1) := by decide +kernel
theorem dX11_spend_93 : decode cX11_spend 93 = .ok (.iadd, 1) := by decide +kernel
theorem dX11_spend_94 : decode cX11_spend 94 = .ok (.iastore, 1) := by decide +kernel
theorem dX11_spend_95 : decode cX11_spend 95 = .ok (.aload_n 0, 1) := by decide +kernel
theorem dX11_spend_96 : decode cX11_spend 96 = .ok (.getfield 53, 3) := by decide +kernel
theorem dX11_spend_99 : decode cX11_spend 99 = .ok (.iconst 0, 1) := by decide +kernel
theorem dX11_spend_100 : decode cX11_spend 100 = .ok (.iload_n 1, 1) := by decide +kernel
theorem dX11_spend_101 : decode cX11_spend 101 = .ok (.iadd, 1) := by decide +kernel
theorem dX11_spend_102 : decode cX11_spend 102 = .ok (.iaload, 1) := by decide +kernel
theorem dX11_spend_103 : decode cX11_spend 103 = .ok (.ireturn, 1) := by decide +kernel
theorem dX11_steal_0 : decode cX11_steal 0 = .ok (.aload_n 0, 1) := by decide +kernel
theorem dX11_steal_1 : decode cX11_steal 1 = .ok (.iload_n 1, 1) := by decide +kernel
theorem dX11_steal_2 : decode cX11_steal 2 = .ok (.invokevirtual 200, 3) := by decide +kernel
theorem dX11_steal_5 : decode cX11_steal 5 = .ok (.ifCond .eq 13, 3) := by decide +kernel
theorem dX11_steal_8 : decode cX11_steal 8 = .ok (.iload_n 2, 1) := by decide +kernel
theorem dX11_steal_9 : decode cX11_steal 9 = .ok (.iconst 1, 1) := by decide +kernel
theorem dX11_steal_10 : decode cX11_steal 10 = .ok (.bipush 20, 2) := by decide +kernel
theorem dX11_steal_12 : decode cX11_steal 12 = .ok (.invokestatic 106, 3) := by decide +kernel
theorem dX11_steal_15 : decode cX11_steal 15 = .ok (.ifCond .ne 5, 3) := by decide +kernel
theorem dX11_steal_18 : decode cX11_steal 18 = .ok (.iconst (-1), 1) := by decide +kernel
theorem dX11_steal_19 : decode cX11_steal 19 = .ok (.ireturn, 1) := by decide +kernel
theorem dX11_steal_20 : decode cX11_steal 20 = .ok (.iload_n 2, 1) := by decide +kernel
theorem dX11_steal_21 : decode cX11_steal 21 = .ok (.aload_n 0, 1) := by decide +kernel
theorem dX11_steal_22 : decode cX11_steal 22 = .ok (.getfield 53, 3) := by decide +kernel
theorem dX11_steal_25 : decode cX11_steal 25 = .ok (.iconst 0, 1) := by decide +kernel
theorem dX11_steal_26 : decode cX11_steal 26 = .ok (.iload_n 1, 1) := by decide +kernel
theorem dX11_steal_27 : decode cX11_steal 27 = .ok (.iadd, 1) := by decide +kernel
theorem dX11_steal_28 : decode cX11_steal 28 = .ok (.iaload, 1) := by decide +kernel
theorem dX11_steal_29 : decode cX11_steal 29 = .ok (.if_icmp .gt 13, 3) := by decide +kernel
theorem dX11_steal_32 : decode cX11_steal 32 = .ok (.aload_n 0, 1) := by decide +kernel
theorem dX11_steal_33 : decode cX11_steal 33 = .ok (.getfield 35, 3) := by decide +kernel
theorem dX11_steal_36 : decode cX11_steal 36 = .ok (.iload_n 1, 1) := by decide +kernel
theorem dX11_steal_37 : decode cX11_steal 37 = .ok (.iaload, 1) := by decide +kernel
theorem dX11_steal_38 : decode cX11_steal 38 = .ok (.iconst 4, 1) := by decide +kernel
theorem dX11_steal_39 : decode cX11_steal 39 = .ok (.if_icmp .ne 6, 3) := by decide +kernel
theorem dX11_steal_42 : decode cX11_steal 42 = .ok (.bipush (-4), 2) := by decide +kernel
theorem dX11_steal_44 : decode cX11_steal 44 = .ok (.ireturn, 1) := by decide +kernel
theorem dX11_steal_45 : decode cX11_steal 45 = .ok (.aload_n 0, 1) := by decide +kernel
theorem dX11_steal_46 : decode cX11_steal 46 = .ok (.iconst 4, 1) := by decide +kernel
theorem dX11_steal_47 : decode cX11_steal 47 = .ok (.invokevirtual 224, 3) := by decide +kernel
theorem dX11_steal_50 : decode cX11_steal 50 = .ok (.aload_n 0, 1) := by decide +kernel
theorem dX11_steal_51 : decode cX11_steal 51 = .ok (.getfield 53, 3) := by decide +kernel
theorem dX11_steal_54 : decode cX11_steal 54 = .ok (.iconst 0, 1) := by decide +kernel
theorem dX11_steal_55 : decode cX11_steal 55 = .ok (.iload_n 1, 1) := by decide +kernel
theorem dX11_steal_56 : decode cX11_steal 56 = .ok (.iadd, 1) := by decide +kernel
theorem dX11_steal_57 : decode cX11_steal 57 = .ok (.dup2, 1) := by decide +kernel
theorem dX11_steal_58 : decode cX11_steal 58 = .ok (.iaload, 1) := by decide +kernel
theorem dX11_steal_59 : decode cX11_steal 59 = .ok (.iload_n 2, 1) := by decide +kernel
theorem dX11_steal_60 : decode cX11_steal 60 = .ok (.isub, 1) := by decide +kernel
theorem dX11_steal_61 : decode cX11_steal 61 = .ok (.iastore, 1) := by decide +kernel
theorem dX11_steal_62 : decode cX11_steal 62 = .ok (.aload_n 0, 1) := by decide +kernel
theorem dX11_steal_63 : decode cX11_steal 63 = .ok (.getfield 53, 3) := by decide +kernel
theorem dX11_steal_66 : decode cX11_steal 66 = .ok (.iconst 0, 1) := by decide +kernel
theorem dX11_steal_67 : decode cX11_steal 67 = .ok (.iload_n 1, 1) := by decide +kernel
theorem dX11_steal_68 : decode cX11_steal 68 = .ok (.iadd, 1) := by decide +kernel
theorem dX11_steal_69 : decode cX11_steal 69 = .ok (.iaload, 1) := by decide +kernel
theorem dX11_steal_70 : decode cX11_steal 70 = .ok (.ireturn, 1) := by decide +kernel
theorem dX11_night_0 : decode cX11_night 0 = .ok (.aload_n 0, 1) := by decide +kernel
theorem dX11_night_1 : decode cX11_night 1 = .ok (.getfield 53, 3) := by decide +kernel
theorem dX11_night_4 : decode cX11_night 4 = .ok (.bipush 28, 2) := by decide +kernel
theorem dX11_night_6 : decode cX11_night 6 = .ok (.iaload, 1) := by decide +kernel
theorem dX11_night_7 : decode cX11_night 7 = .ok (.sipush 999, 3) := by decide +kernel
theorem dX11_night_10 : decode cX11_night 10 = .ok (.if_icmp .ne 6, 3) := by decide +kernel
theorem dX11_night_13 : decode cX11_night 13 = .ok (.bipush (-2), 2) := by decide +kernel
theorem dX11_night_15 : decode cX11_night 15 = .ok (.ireturn, 1) := by decide +kernel
theorem dX11_night_16 : decode cX11_night 16 = .ok (.aload_n 0, 1) := by decide +kernel
theorem dX11_night_17 : decode cX11_night 17 = .ok (.iconst 5, 1) := by decide +kernel
theorem dX11_night_18 : decode cX11_night 18 = .ok (.invokevirtual 224, 3) := by decide +kernel
theorem dX11_night_21 : decode cX11_night 21 = .ok (.iconst 0, 1) := by decide +kernel
theorem dX11_night_22 : decode cX11_night 22 = .ok (.istore_n 1, 1) := by decide +kernel
theorem dX11_night_23 : decode cX11_night 23 = .ok (.iconst 0, 1) := by decide +kernel
theorem dX11_night_24 : decode cX11_night 24 = .ok (.istore_n 2, 1) := by decide +kernel
theorem dX11_night_25 : decode cX11_night 25 = .ok (.iload_n 2, 1) := by decide +kernel
theorem dX11_night_26 : decode cX11_night 26 = .ok (.aload_n 0, 1) := by decide +kernel
theorem dX11_night_27 : decode cX11_night 27 = .ok (.getfield 184, 3) := by decide +kernel
theorem dX11_night_30 : decode cX11_night 30 = .ok (.if_icmp .ge 31, 3) := by decide +kernel
theorem dX11_night_33 : decode cX11_night 33 = .ok (.aload_n 0, 1) := by decide +kernel
theorem dX11_night_34 : decode cX11_night 34 = .ok (.iload_n 2, 1) := by decide +kernel
theorem dX11_night_35 : decode cX11_night 35 = .ok (.invokevirtual 206, 3) := by decide +kernel
theorem dX11_night_38 : decode cX11_night 38 = .ok (.istore_n 3, 1) := by decide +kernel
theorem dX11_night_39 : decode cX11_night 39 = .ok (.aload_n 0, 1) := by decide +kernel
theorem dX11_night_40 : decode cX11_night 40 = .ok (.getfield 53, 3) := by decide +kernel
theorem dX11_night_43 : decode cX11_night 43 = .ok (.iconst 0, 1) := by decide +kernel
theorem dX11_night_44 : decode cX11_night 44 = .ok (.iload_n 2, 1) := by decide +kernel
theorem dX11_night_45 : decode cX11_night 45 = .ok (.iadd, 1) := by decide +kernel
theorem dX11_night_46 : decode cX11_night 46 = .ok (.dup2, 1) := by decide +kernel
theorem dX11_night_47 : decode cX11_night 47 = .ok (.iaload, 1) := by decide +kernel
theorem dX11_night_48 : decode cX11_night 48 = .ok (.iload_n 3, 1) := by decide +kernel
theorem dX11_night_49 : decode cX11_night 49 = .ok (.isub, 1) := by decide +kernel
theorem dX11_night_50 : decode cX11_night 50 = .ok (.iastore, 1) := by decide +kernel
theorem dX11_night_51 : decode cX11_night 51 = .ok (.iload_n 1, 1) := by decide +kernel
theorem dX11_night_52 : decode cX11_night 52 = .ok (.iload_n 3, 1) := by decide +kernel
theorem dX11_night_53 : decode cX11_night 53 = .ok (.iadd, 1) := by decide +kernel
theorem dX11_night_54 : decode cX11_night 54 = .ok (.istore_n 1, 1) := by decide +kernel
theorem dX11_night_55 : decode cX11_night 55 = .ok (.iinc 2 1, 3) := by decide +kernel
theorem dX11_night_58 : decode cX11_night 58 = .ok (.goto (-33), 3) := by decide +kernel
theorem dX11_night_61 : decode cX11_night 61 = .ok (.iconst 0, 1) := by decide +kernel
theorem dX11_night_62 : decode cX11_night 62 = .ok (.istore_n 2, 1) := by decide +kernel
theorem dX11_night_63 : decode cX11_night 63 = .ok (.iconst 0, 1) := by decide +kernel
theorem dX11_night_64 : decode cX11_night 64 = .ok (.istore_n 3, 1) := by decide +kernel
theorem dX11_night_65 : decode cX11_night 65 = .ok (.iload_n 3, 1) := by decide +kernel
theorem dX11_night_66 : decode cX11_night 66 = .ok (.iconst 5, 1) := by decide +kernel
theorem dX11_night_67 : decode cX11_night 67 = .ok (.if_icmp .ge 83, 3) := by decide +kernel
theorem dX11_night_70 : decode cX11_night 70 = .ok (.iload_n 3, 1) := by decide +kernel
theorem dX11_night_71 : decode cX11_night 71 = .ok (.ifCond .le 25, 3) := by decide +kernel
theorem dX11_night_74 : decode cX11_night 74 = .ok (.aload_n 0, 1) := by decide +kernel
theorem dX11_night_75 : decode cX11_night 75 = .ok (.getfield 53, 3) := by decide +kernel
theorem dX11_night_78 : decode cX11_night 78 = .ok (.bipush 18, 2) := by decide +kernel
theorem dX11_night_80 : decode cX11_night 80 = .ok (.iload_n 3, 1) := by decide +kernel
theorem dX11_night_81 : decode cX11_night 81 = .ok (.iadd, 1) := by decide +kernel
theorem dX11_night_82 : decode cX11_night 82 = .ok (.iaload, 1) := by decide +kernel
theorem dX11_night_83 : decode cX11_night 83 = .ok (.aload_n 0, 1) := by decide +kernel
theorem dX11_night_84 : decode cX11_night 84 = .ok (.getfield 32, 3) := by decide +kernel
theorem dX11_night_87 : decode cX11_night 87 = .ok (.iload_n 3, 1) := by decide +kernel
theorem dX11_night_88 : decode cX11_night 88 = .ok (.iaload, 1) := by decide +kernel
theorem dX11_night_89 : decode cX11_night 89 = .ok (.if_icmp .ge 7, 3) := by decide +kernel
theorem dX11_night_92 : decode cX11_night 92 = .ok (.iconst 1, 1) := by decide +kernel
theorem dX11_night_93 : decode cX11_night 93 = .ok (.goto 4, 3) := by decide +kernel
theorem dX11_night_96 : decode cX11_night 96 = .ok (.iconst 0, 1) := by decide +kernel
theorem dX11_night_97 : decode cX11_night 97 = .ok (.istore 4, 2) := by decide +kernel
theorem dX11_night_99 : decode cX11_night 99 = .ok (.aload_n 0, 1) := by decide +kernel
theorem dX11_night_100 : decode cX11_night 100 = .ok (.getfield 53, 3) := by decide +kernel
theorem dX11_night_103 : decode cX11_night 103 = .ok (.bipush 23, 2) := by decide +kernel
theorem dX11_night_105 : decode cX11_night 105 = .ok (.iload_n 3, 1) := by decide +kernel
theorem dX11_night_106 : decode cX11_night 106 = .ok (.iadd, 1) := by decide +kernel
theorem dX11_night_107 : decode cX11_night 107 = .ok (.dup2, 1) := by decide +kernel
theorem dX11_night_108 : decode cX11_night 108 = .ok (.iaload, 1) := by decide +kernel
theorem dX11_night_109 : decode cX11_night 109 = .ok (.iload 4, 2) := by decide +kernel
theorem dX11_night_111 : decode cX11_night 111 = .ok (.ifCond .eq 7, 3) := by decide +kernel
theorem dX11_night_114 : decode cX11_night 114 = .ok (.iconst 1, 1) := by decide +kernel
theorem dX11_night_115 : decode cX11_night 115 = .ok (.goto 4, 3) := by decide +kernel
theorem dX11_night_118 : decode cX11_night 118 = .ok (.iconst 0, 1) := by decide +kernel
theorem dX11_night_119 : decode cX11_night 119 = .ok (.iadd, 1) := by decide +kernel
theorem dX11_night_120 : decode cX11_night 120 = .ok (.iastore, 1) := by decide +kernel
theorem dX11_night_121 : decode cX11_night 121 = .ok (.iload_n 2, 1) := by decide +kernel
theorem dX11_night_122 : decode cX11_night 122 = .ok (.iload 4, 2) := by decide +kernel
theorem dX11_night_124 : decode cX11_night 124 = .ok (.ifCond .eq 7, 3) := by decide +kernel
theorem dX11_night_127 : decode cX11_night 127 = .ok (.iconst 1, 1) := by decide +kernel
theorem dX11_night_128 : decode cX11_night 128 = .ok (.goto 4, 3) := by decide +kernel
theorem dX11_night_131 : decode cX11_night 131 = .ok (.iconst 0, 1) := by decide +kernel
theorem dX11_night_132 : decode cX11_night 132 = .ok (.iadd, 1) := by decide +kernel
theorem dX11_night_133 : decode cX11_night 133 = .ok (.istore_n 2, 1) := by decide +kernel
theorem dX11_night_134 : decode cX11_night 134 = .ok (.aload_n 0, 1) := by decide +kernel
theorem dX11_night_135 : decode cX11_night 135 = .ok (.getfield 53, 3) := by decide +kernel
theorem dX11_night_138 : decode cX11_night 138 = .ok (.bipush 18, 2) := by decide +kernel
theorem dX11_night_140 : decode cX11_night 140 = .ok (.iload_n 3, 1) := by decide +kernel
theorem dX11_night_141 : decode cX11_night 141 = .ok (.iadd, 1) := by decide +kernel
theorem dX11_night_142 : decode cX11_night 142 = .ok (.iconst 0, 1) := by decide +kernel
theorem dX11_night_143 : decode cX11_night 143 = .ok (.iastore, 1) := by decide +kernel
theorem dX11_night_144 : decode cX11_night 144 = .ok (.iinc 3 1, 3) := by decide +kernel
theorem dX11_night_147 : decode cX11_night 147 = .ok (.goto (-82), 3) := by decide +kernel
theorem dX11_night_150 : decode cX11_night 150 = .ok (.aload_n 0, 1) := by decide +kernel
theorem dX11_night_151 : decode cX11_night 151 = .ok (.getfield 53, 3) := by decide +kernel
theorem dX11_night_154 : decode cX11_night 154 = .ok (.bipush 28, 2) := by decide +kernel
theorem dX11_night_156 : decode cX11_night 156 = .ok (.dup2, 1) := by decide +kernel
theorem dX11_night_157 : decode cX11_night 157 = .ok (.iaload, 1) := by decide +kernel
theorem dX11_night_158 : decode cX11_night 158 = .ok (.iconst 1, 1) := by decide +kernel
theorem dX11_night_159 : decode cX11_night 159 = .ok (.iadd, 1) := by decide +kernel
theorem dX11_night_160 : decode cX11_night 160 = .ok (.iastore, 1) := by decide +kernel
theorem dX11_night_161 : decode cX11_night 161 = .ok (.aload_n 0, 1) := by decide +kernel
theorem dX11_night_162 : decode cX11_night 162 = .ok (.getfield 53, 3) := by decide +kernel
theorem dX11_night_165 : decode cX11_night 165 = .ok (.bipush 29, 2) := by decide +kernel
theorem dX11_night_167 : decode cX11_night 167 = .ok (.iconst 0, 1) := by decide +kernel
theorem dX11_night_168 : decode cX11_night 168 = .ok (.iastore, 1) := by decide +kernel
theorem dX11_night_169 : decode cX11_night 169 = .ok (.aload_n 0, 1) := by decide +kernel
theorem dX11_night_170 : decode cX11_night 170 = .ok (.iload_n 2, 1) := by decide +kernel
theorem dX11_night_171 : decode cX11_night 171 = .ok (.iload_n 1, 1) := by decide +kernel
theorem dX11_night_172 : decode cX11_night 172 = .ok (.invokevirtual 125, 3) := by decide +kernel
theorem dX11_night_175 : decode cX11_night 175 = .ok (.ireturn, 1) := by decide +kernel
theorem dX11_undo_0 : decode cX11_undo 0 = .ok (.aload_n 0, 1) := by decide +kernel
theorem dX11_undo_1 : decode cX11_undo 1 = .ok (.getfield 187, 3) := by decide +kernel
theorem dX11_undo_4 : decode cX11_undo 4 = .ok (.ifCond .ne 6, 3) := by decide +kernel
theorem dX11_undo_7 : decode cX11_undo 7 = .ok (.bipush (-4), 2) := by decide +kernel
theorem dX11_undo_9 : decode cX11_undo 9 = .ok (.ireturn, 1) := by decide +kernel
theorem dX11_undo_10 : decode cX11_undo 10 = .ok (.aload_n 0, 1) := by decide +kernel
theorem dX11_undo_11 : decode cX11_undo 11 = .ok (.dup, 1) := by decide +kernel
theorem dX11_undo_12 : decode cX11_undo 12 = .ok (.getfield 187, 3) := by decide +kernel
theorem dX11_undo_15 : decode cX11_undo 15 = .ok (.iconst 1, 1) := by decide +kernel
theorem dX11_undo_16 : decode cX11_undo 16 = .ok (.isub, 1) := by decide +kernel
theorem dX11_undo_17 : decode cX11_undo 17 = .ok (.putfield 187, 3) := by decide +kernel
theorem dX11_undo_20 : decode cX11_undo 20 = .ok (.bipush 31, 2) := by decide +kernel
theorem dX11_undo_22 : decode cX11_undo 22 = .ok (.aload_n 0, 1) := by decide +kernel
theorem dX11_undo_23 : decode cX11_undo 23 = .ok (.getfield 187, 3) := by decide +kernel
theorem dX11_undo_26 : decode cX11_undo 26 = .ok (.imul, 1) := by decide +kernel
theorem dX11_undo_27 : decode cX11_undo 27 = .ok (.istore_n 1, 1) := by decide +kernel
theorem dX11_undo_28 : decode cX11_undo 28 = .ok (.iconst 0, 1) := by decide +kernel
theorem dX11_undo_29 : decode cX11_undo 29 = .ok (.istore_n 2, 1) := by decide +kernel
theorem dX11_undo_30 : decode cX11_undo 30 = .ok (.iload_n 2, 1) := by decide +kernel
theorem dX11_undo_31 : decode cX11_undo 31 = .ok (.bipush 30, 2) := by decide +kernel
theorem dX11_undo_33 : decode cX11_undo 33 = .ok (.if_icmp .ge 23, 3) := by decide +kernel
theorem dX11_undo_36 : decode cX11_undo 36 = .ok (.aload_n 0, 1) := by decide +kernel
theorem dX11_undo_37 : decode cX11_undo 37 = .ok (.getfield 53, 3) := by decide +kernel
theorem dX11_undo_40 : decode cX11_undo 40 = .ok (.iload_n 2, 1) := by decide +kernel
theorem dX11_undo_41 : decode cX11_undo 41 = .ok (.aload_n 0, 1) := by decide +kernel
theorem dX11_undo_42 : decode cX11_undo 42 = .ok (.getfield 56, 3) := by decide +kernel
theorem dX11_undo_45 : decode cX11_undo 45 = .ok (.iload_n 1, 1) := by decide +kernel
theorem dX11_undo_46 : decode cX11_undo 46 = .ok (.iload_n 2, 1) := by decide +kernel
theorem dX11_undo_47 : decode cX11_undo 47 = .ok (.iadd, 1) := by decide +kernel
theorem dX11_undo_48 : decode cX11_undo 48 = .ok (.iaload, 1) := by decide +kernel
theorem dX11_undo_49 : decode cX11_undo 49 = .ok (.iastore, 1) := by decide +kernel
theorem dX11_undo_50 : decode cX11_undo 50 = .ok (.iinc 2 1, 3) := by decide +kernel
theorem dX11_undo_53 : decode cX11_undo 53 = .ok (.goto (-23), 3) := by decide +kernel
theorem dX11_undo_56 : decode cX11_undo 56 = .ok (.aload_n 0, 1) := by decide +kernel
theorem dX11_undo_57 : decode cX11_undo 57 = .ok (.getfield 56, 3) := by decide +kernel
theorem dX11_undo_60 : decode cX11_undo 60 = .ok (.iload_n 1, 1) := by decide +kernel
theorem dX11_undo_61 : decode cX11_undo 61 = .ok (.bipush 30, 2) := by decide +kernel
theorem dX11_undo_63 : decode cX11_undo 63 = .ok (.iadd, 1) := by decide +kernel
theorem dX11_undo_64 : decode cX11_undo 64 = .ok (.iaload, 1) := by decide +kernel
theorem dX11_undo_65 : decode cX11_undo 65 = .ok (.ireturn, 1) := by decide +kernel
theorem dX11_keep_0 : decode cX11_keep 0 = .ok (.iload_n 1, 1) := by decide +kernel
theorem dX11_keep_1 : decode cX11_keep 1 = .ok (.iconst 0, 1) := by decide +kernel
theorem dX11_keep_2 : decode cX11_keep 2 = .ok (.iconst 2, 1) := by decide +kernel
theorem dX11_keep_3 : decode cX11_keep 3 = .ok (.invokestatic 106, 3) := by decide +kernel
theorem dX11_keep_6 : decode cX11_keep 6 = .ok (.ifCond .ne 5, 3) := by decide +kernel
theorem dX11_keep_9 : decode cX11_keep 9 = .ok (.iconst (-1), 1) := by decide +kernel
theorem dX11_keep_10 : decode cX11_keep 10 = .ok (.ireturn, 1) := by decide +kernel
theorem dX11_keep_11 : decode cX11_keep 11 = .ok (.aload_n 0, 1) := by decide +kernel
theorem dX11_keep_12 : decode cX11_keep 12 = .ok (.getfield 184, 3) := by decide +kernel
theorem dX11_keep_15 : decode cX11_keep 15 = .ok (.ifCond .ne 6, 3) := by decide +kernel
theorem dX11_keep_18 : decode cX11_keep 18 = .ok (.bipush (-4), 2) := by decide +kernel
theorem dX11_keep_20 : decode cX11_keep 20 = .ok (.ireturn, 1) := by decide +kernel
theorem dX11_keep_21 : decode cX11_keep 21 = .ok (.iconst 0, 1) := by decide +kernel
theorem dX11_keep_22 : decode cX11_keep 22 = .ok (.istore_n 2, 1) := by decide +kernel
theorem dX11_keep_23 : decode cX11_keep 23 = .ok (.iload_n 2, 1) := by decide +kernel
theorem dX11_keep_24 : decode cX11_keep 24 = .ok (.bipush 30, 2) := by decide +kernel
theorem dX11_keep_26 : decode cX11_keep 26 = .ok (.if_icmp .ge 26, 3) := by decide +kernel
theorem dX11_keep_29 : decode cX11_keep 29 = .ok (.aload_n 0, 1) := by decide +kernel
theorem dX11_keep_30 : decode cX11_keep 30 = .ok (.getfield 63, 3) := by decide +kernel
theorem dX11_keep_33 : decode cX11_keep 33 = .ok (.bipush 30, 2) := by decide +kernel
theorem dX11_keep_35 : decode cX11_keep 35 = .ok (.iload_n 1, 1) := by decide +kernel
theorem dX11_keep_36 : decode cX11_keep 36 = .ok (.imul, 1) := by decide +kernel
theorem dX11_keep_37 : decode cX11_keep 37 = .ok (.iload_n 2, 1) := by decide +kernel
theorem dX11_keep_38 : decode cX11_keep 38 = .ok (.iadd, 1) := by decide +kernel
theorem dX11_keep_39 : decode cX11_keep 39 = .ok (.aload_n 0, 1) := by decide +kernel
theorem dX11_keep_40 : decode cX11_keep 40 = .ok (.getfield 53, 3) := by decide +kernel
theorem dX11_keep_43 : decode cX11_keep 43 = .ok (.iload_n 2, 1) := by decide +kernel
theorem dX11_keep_44 : decode cX11_keep 44 = .ok (.iaload, 1) := by decide +kernel
theorem dX11_keep_45 : decode cX11_keep 45 = .ok (.iastore, 1) := by decide +kernel
theorem dX11_keep_46 : decode cX11_keep 46 = .ok (.iinc 2 1, 3) := by decide +kernel
theorem dX11_keep_49 : decode cX11_keep 49 = .ok (.goto (-26), 3) := by decide +kernel
theorem dX11_keep_52 : decode cX11_keep 52 = .ok (.aload_n 0, 1) := by decide +kernel
theorem dX11_keep_53 : decode cX11_keep 53 = .ok (.getfield 59, 3) := by decide +kernel
theorem dX11_keep_56 : decode cX11_keep 56 = .ok (.iload_n 1, 1) := by decide +kernel
theorem dX11_keep_57 : decode cX11_keep 57 = .ok (.iconst 1, 1) := by decide +kernel
theorem dX11_keep_58 : decode cX11_keep 58 = .ok (.bastore, 1) := by decide +kernel
theorem dX11_keep_59 : decode cX11_keep 59 = .ok (.aload_n 0, 1) := by decide +kernel
theorem dX11_keep_60 : decode cX11_keep 60 = .ok (.getfield 53, 3) := by decide +kernel
theorem dX11_keep_63 : decode cX11_keep 63 = .ok (.bipush 28, 2) := by decide +kernel
theorem dX11_keep_65 : decode cX11_keep 65 = .ok (.iaload, 1) := by decide +kernel
theorem dX11_keep_66 : decode cX11_keep 66 = .ok (.ireturn, 1) := by decide +kernel
theorem dX11_on_0 : decode cX11_on 0 = .ok (.iload_n 1, 1) := by decide +kernel
theorem dX11_on_1 : decode cX11_on 1 = .ok (.iconst 0, 1) := by decide +kernel
theorem dX11_on_2 : decode cX11_on 2 = .ok (.iconst 2, 1) := by decide +kernel
theorem dX11_on_3 : decode cX11_on 3 = .ok (.invokestatic 106, 3) := by decide +kernel
theorem dX11_on_6 : decode cX11_on 6 = .ok (.ifCond .ne 5, 3) := by decide +kernel
theorem dX11_on_9 : decode cX11_on 9 = .ok (.iconst (-1), 1) := by decide +kernel
theorem dX11_on_10 : decode cX11_on 10 = .ok (.ireturn, 1) := by decide +kernel
theorem dX11_on_11 : decode cX11_on 11 = .ok (.aload_n 0, 1) := by decide +kernel
theorem dX11_on_12 : decode cX11_on 12 = .ok (.getfield 59, 3) := by decide +kernel
theorem dX11_on_15 : decode cX11_on 15 = .ok (.iload_n 1, 1) := by decide +kernel
theorem dX11_on_16 : decode cX11_on 16 = .ok (.baload, 1) := by decide +kernel
theorem dX11_on_17 : decode cX11_on 17 = .ok (.ifCond .ne 9, 3) := by decide +kernel
theorem dX11_on_20 : decode cX11_on 20 = .ok (.aload_n 0, 1) := by decide +kernel
theorem dX11_on_21 : decode cX11_on 21 = .ok (.iconst 1, 1) := by decide +kernel
theorem dX11_on_22 : decode cX11_on 22 = .ok (.invokevirtual 117, 3) := by decide +kernel
theorem dX11_on_25 : decode cX11_on 25 = .ok (.ireturn, 1) := by decide +kernel
theorem dX11_on_26 : decode cX11_on 26 = .ok (.iconst 0, 1) := by decide +kernel
theorem dX11_on_27 : decode cX11_on 27 = .ok (.istore_n 2, 1) := by decide +kernel
theorem dX11_on_28 : decode cX11_on 28 = .ok (.iload_n 2, 1) := by decide +kernel
theorem dX11_on_29 : decode cX11_on 29 = .ok (.bipush 30, 2) := by decide +kernel
theorem dX11_on_31 : decode cX11_on 31 = .ok (.if_icmp .ge 26, 3) := by decide +kernel
theorem dX11_on_34 : decode cX11_on 34 = .ok (.aload_n 0, 1) := by decide +kernel
theorem dX11_on_35 : decode cX11_on 35 = .ok (.getfield 53, 3) := by decide +kernel
theorem dX11_on_38 : decode cX11_on 38 = .ok (.iload_n 2, 1) := by decide +kernel
theorem dX11_on_39 : decode cX11_on 39 = .ok (.aload_n 0, 1) := by decide +kernel
theorem dX11_on_40 : decode cX11_on 40 = .ok (.getfield 63, 3) := by decide +kernel
theorem dX11_on_43 : decode cX11_on 43 = .ok (.bipush 30, 2) := by decide +kernel
theorem dX11_on_45 : decode cX11_on 45 = .ok (.iload_n 1, 1) := by decide +kernel
theorem dX11_on_46 : decode cX11_on 46 = .ok (.imul, 1) := by decide +kernel
theorem dX11_on_47 : decode cX11_on 47 = .ok (.iload_n 2, 1) := by decide +kernel
theorem dX11_on_48 : decode cX11_on 48 = .ok (.iadd, 1) := by decide +kernel
theorem dX11_on_49 : decode cX11_on 49 = .ok (.iaload, 1) := by decide +kernel
theorem dX11_on_50 : decode cX11_on 50 = .ok (.iastore, 1) := by decide +kernel
theorem dX11_on_51 : decode cX11_on 51 = .ok (.iinc 2 1, 3) := by decide +kernel
theorem dX11_on_54 : decode cX11_on 54 = .ok (.goto (-26), 3) := by decide +kernel
theorem dX11_on_57 : decode cX11_on 57 = .ok (.aload_n 0, 1) := by decide +kernel
theorem dX11_on_58 : decode cX11_on 58 = .ok (.iconst 0, 1) := by decide +kernel
theorem dX11_on_59 : decode cX11_on 59 = .ok (.putfield 187, 3) := by decide +kernel
theorem dX11_on_62 : decode cX11_on 62 = .ok (.aload_n 0, 1) := by decide +kernel
theorem dX11_on_63 : decode cX11_on 63 = .ok (.getfield 53, 3) := by decide +kernel
theorem dX11_on_66 : decode cX11_on 66 = .ok (.bipush 28, 2) := by decide +kernel
theorem dX11_on_68 : decode cX11_on 68 = .ok (.iaload, 1) := by decide +kernel
theorem dX11_on_69 : decode cX11_on 69 = .ok (.ireturn, 1) := by decide +kernel
theorem dX11_broughtTo_0 : decode cX11_broughtTo 0 = .ok (.aload_n 0, 1) := by decide +kernel
theorem dX11_broughtTo_1 : decode cX11_broughtTo 1 = .ok (.getfield 38, 3) := by decide +kernel
theorem dX11_broughtTo_4 : decode cX11_broughtTo 4 = .ok (.iload_n 1, 1) := by decide +kernel
theorem dX11_broughtTo_5 : decode cX11_broughtTo 5 = .ok (.iaload, 1) := by decide +kernel
theorem dX11_broughtTo_6 : decode cX11_broughtTo 6 = .ok (.istore_n 3, 1) := by decide +kernel
theorem dX11_broughtTo_7 : decode cX11_broughtTo 7 = .ok (.iconst 0, 1) := by decide +kernel
theorem dX11_broughtTo_8 : decode cX11_broughtTo 8 = .ok (.istore 4, 2) := by decide +kernel
theorem dX11_broughtTo_10 : decode cX11_broughtTo 10 = .ok (.iload 4, 2) := by decide +kernel
theorem dX11_broughtTo_12 : decode cX11_broughtTo 12 = .ok (.iload_n 2, 1) := by decide +kernel
theorem dX11_broughtTo_13 : decode cX11_broughtTo 13 = .ok (.if_icmp .ge 23, 3) := by decide +kernel
theorem dX11_broughtTo_16 : decode cX11_broughtTo 16 = .ok (.iload_n 3, 1) := by decide +kernel
theorem dX11_broughtTo_17 : decode cX11_broughtTo 17 = .ok (.aload_n 0, 1) := by decide +kernel
theorem dX11_broughtTo_18 : decode cX11_broughtTo 18 = .ok (.getfield 35, 3) := by decide +kernel
theorem dX11_broughtTo_21 : decode cX11_broughtTo 21 = .ok (.iload_n 1, 1) := by decide +kernel
theorem dX11_broughtTo_22 : decode cX11_broughtTo 22 = .ok (.iaload, 1) := by decide +kernel
theorem dX11_broughtTo_23 : decode cX11_broughtTo 23 = .ok (.iload_n 3, 1) := by decide +kernel
theorem dX11_broughtTo_24 : decode cX11_broughtTo 24 = .ok (.iconst 0, 1) := by decide +kernel
theorem dX11_broughtTo_25 : decode cX11_broughtTo 25 = .ok (.invokestatic 196, 3) := by decide +kernel
theorem dX11_broughtTo_28 : decode cX11_broughtTo 28 = .ok (.isub, 1) := by decide +kernel
theorem dX11_broughtTo_29 : decode cX11_broughtTo 29 = .ok (.istore_n 3, 1) := by decide +kernel
theorem dX11_broughtTo_30 : decode cX11_broughtTo 30 = .ok (.iinc 4 1, 3) := by decide +kernel
theorem dX11_broughtTo_33 : decode cX11_broughtTo 33 = .ok (.goto (-23), 3) := by decide +kernel
theorem dX11_broughtTo_36 : decode cX11_broughtTo 36 = .ok (.iload_n 3, 1) := by decide +kernel
theorem dX11_broughtTo_37 : decode cX11_broughtTo 37 = .ok (.ireturn, 1) := by decide +kernel
theorem dX11_hoursAt_0 : decode cX11_hoursAt 0 = .ok (.aload_n 0, 1) := by decide +kernel
theorem dX11_hoursAt_1 : decode cX11_hoursAt 1 = .ok (.iload_n 1, 1) := by decide +kernel
theorem dX11_hoursAt_2 : decode cX11_hoursAt 2 = .ok (.iload_n 2, 1) := by decide +kernel
theorem dX11_hoursAt_3 : decode cX11_hoursAt 3 = .ok (.invokevirtual 231, 3) := by decide +kernel
theorem dX11_hoursAt_6 : decode cX11_hoursAt 6 = .ok (.aload_n 0, 1) := by decide +kernel
theorem dX11_hoursAt_7 : decode cX11_hoursAt 7 = .ok (.getfield 35, 3) := by decide +kernel
theorem dX11_hoursAt_10 : decode cX11_hoursAt 10 = .ok (.iload_n 1, 1) := by decide +kernel
theorem dX11_hoursAt_11 : decode cX11_hoursAt 11 = .ok (.iaload, 1) := by decide +kernel
theorem dX11_hoursAt_12 : decode cX11_hoursAt 12 = .ok (.invokestatic 209, 3) := by decide +kernel
theorem dX11_hoursAt_15 : decode cX11_hoursAt 15 = .ok (.idiv, 1) := by decide +kernel
theorem dX11_hoursAt_16 : decode cX11_hoursAt 16 = .ok (.ireturn, 1) := by decide +kernel
theorem dX11_brings_0 : decode cX11_brings 0 = .ok (.aload_n 0, 1) := by decide +kernel
theorem dX11_brings_1 : decode cX11_brings 1 = .ok (.iload_n 1, 1) := by decide +kernel
theorem dX11_brings_2 : decode cX11_brings 2 = .ok (.invokevirtual 200, 3) := by decide +kernel
theorem dX11_brings_5 : decode cX11_brings 5 = .ok (.ifCond .eq 29, 3) := by decide +kernel
theorem dX11_brings_8 : decode cX11_brings 8 = .ok (.iload_n 2, 1) := by decide +kernel
theorem dX11_brings_9 : decode cX11_brings 9 = .ok (.invokestatic 215, 3) := by decide +kernel
theorem dX11_brings_12 : decode cX11_brings 12 = .ok (.ifCond .eq 22, 3) := by decide +kernel
theorem dX11_brings_15 : decode cX11_brings 15 = .ok (.aload_n 0, 1) := by decide +kernel
theorem dX11_brings_16 : decode cX11_brings 16 = .ok (.aload_n 0, 1) := by decide +kernel
theorem dX11_brings_17 : decode cX11_brings 17 = .ok (.iload_n 1, 1) := by decide +kernel
theorem dX11_brings_18 : decode cX11_brings 18 = .ok (.iload_n 2, 1) := by decide +kernel
theorem dX11_brings_19 : decode cX11_brings 19 = .ok (.invokevirtual 234, 3) := by decide +kernel
theorem dX11_brings_22 : decode cX11_brings 22 = .ok (.aload_n 0, 1) := by decide +kernel
theorem dX11_brings_23 : decode cX11_brings 23 = .ok (.iload_n 1, 1) := by decide +kernel
theorem dX11_brings_24 : decode cX11_brings 24 = .ok (.iload_n 2, 1) := by decide +kernel
theorem dX11_brings_25 : decode cX11_brings 25 = .ok (.invokevirtual 231, 3) := by decide +kernel
theorem dX11_brings_28 : decode cX11_brings 28 = .ok (.invokevirtual 125, 3) := by decide +kernel
theorem dX11_brings_31 : decode cX11_brings 31 = .ok (.goto 4, 3) := by decide +kernel
theorem dX11_brings_34 : decode cX11_brings 34 = .ok (.iconst (-1), 1) := by decide +kernel
theorem dX11_brings_35 : decode cX11_brings 35 = .ok (.ireturn, 1) := by decide +kernel
theorem dX11_best_0 : decode cX11_best 0 = .ok (.iload_n 1, 1) := by decide +kernel
theorem dX11_best_1 : decode cX11_best 1 = .ok (.invokestatic 215, 3) := by decide +kernel
theorem dX11_best_4 : decode cX11_best 4 = .ok (.ifCond .ne 5, 3) := by decide +kernel
theorem dX11_best_7 : decode cX11_best 7 = .ok (.iconst (-1), 1) := by decide +kernel
theorem dX11_best_8 : decode cX11_best 8 = .ok (.ireturn, 1) := by decide +kernel
theorem dX11_best_9 : decode cX11_best 9 = .ok (.aload_n 0, 1) := by decide +kernel
theorem dX11_best_10 : decode cX11_best 10 = .ok (.getfield 184, 3) := by decide +kernel
theorem dX11_best_13 : decode cX11_best 13 = .ok (.ifCond .ne 6, 3) := by decide +kernel
theorem dX11_best_16 : decode cX11_best 16 = .ok (.bipush (-4), 2) := by decide +kernel
theorem dX11_best_18 : decode cX11_best 18 = .ok (.ireturn, 1) := by decide +kernel
theorem dX11_best_19 : decode cX11_best 19 = .ok (.iconst 0, 1) := by decide +kernel
theorem dX11_best_20 : decode cX11_best 20 = .ok (.istore_n 2, 1) := by decide +kernel
theorem dX11_best_21 : decode cX11_best 21 = .ok (.iconst 1, 1) := by decide +kernel
theorem dX11_best_22 : decode cX11_best 22 = .ok (.istore_n 3, 1) := by decide +kernel
theorem dX11_best_23 : decode cX11_best 23 = .ok (.iload_n 3, 1) := by decide +kernel
theorem dX11_best_24 : decode cX11_best 24 = .ok (.aload_n 0, 1) := by decide +kernel
theorem dX11_best_25 : decode cX11_best 25 = .ok (.getfield 184, 3) := by decide +kernel
theorem dX11_best_28 : decode cX11_best 28 = .ok (.if_icmp .ge 30, 3) := by decide +kernel
theorem dX11_best_31 : decode cX11_best 31 = .ok (.aload_n 0, 1) := by decide +kernel
theorem dX11_best_32 : decode cX11_best 32 = .ok (.iload_n 3, 1) := by decide +kernel
theorem dX11_best_33 : decode cX11_best 33 = .ok (.iload_n 1, 1) := by decide +kernel
theorem dX11_best_34 : decode cX11_best 34 = .ok (.invokevirtual 234, 3) := by decide +kernel
theorem dX11_best_37 : decode cX11_best 37 = .ok (.aload_n 0, 1) := by decide +kernel
theorem dX11_best_38 : decode cX11_best 38 = .ok (.iload_n 2, 1) := by decide +kernel
theorem dX11_best_39 : decode cX11_best 39 = .ok (.iload_n 1, 1) := by decide +kernel
theorem dX11_best_40 : decode cX11_best 40 = .ok (.invokevirtual 234, 3) := by decide +kernel
theorem dX11_best_43 : decode cX11_best 43 = .ok (.if_icmp .le 7, 3) := by decide +kernel
theorem dX11_best_46 : decode cX11_best 46 = .ok (.iload_n 3, 1) := by decide +kernel
theorem dX11_best_47 : decode cX11_best 47 = .ok (.goto 4, 3) := by decide +kernel
theorem dX11_best_50 : decode cX11_best 50 = .ok (.iload_n 2, 1) := by decide +kernel
theorem dX11_best_51 : decode cX11_best 51 = .ok (.istore_n 2, 1) := by decide +kernel
theorem dX11_best_52 : decode cX11_best 52 = .ok (.iinc 3 1, 3) := by decide +kernel
theorem dX11_best_55 : decode cX11_best 55 = .ok (.goto (-32), 3) := by decide +kernel
theorem dX11_best_58 : decode cX11_best 58 = .ok (.aload_n 0, 1) := by decide +kernel
theorem dX11_best_59 : decode cX11_best 59 = .ok (.aload_n 0, 1) := by decide +kernel
theorem dX11_best_60 : decode cX11_best 60 = .ok (.iload_n 2, 1) := by decide +kernel
theorem dX11_best_61 : decode cX11_best 61 = .ok (.iload_n 1, 1) := by decide +kernel
theorem dX11_best_62 : decode cX11_best 62 = .ok (.invokevirtual 234, 3) := by decide +kernel
theorem dX11_best_65 : decode cX11_best 65 = .ok (.iload_n 2, 1) := by decide +kernel
theorem dX11_best_66 : decode cX11_best 66 = .ok (.invokevirtual 125, 3) := by decide +kernel
theorem dX11_best_69 : decode cX11_best 69 = .ok (.ireturn, 1) := by decide +kernel
theorem dX11_lit_0 : decode cX11_lit 0 = .ok (.iconst 0, 1) := by decide +kernel
theorem dX11_lit_1 : decode cX11_lit 1 = .ok (.istore_n 2, 1) := by decide +kernel
theorem dX11_lit_2 : decode cX11_lit 2 = .ok (.iload_n 2, 1) := by decide +kernel
theorem dX11_lit_3 : decode cX11_lit 3 = .ok (.iconst 5, 1) := by decide +kernel
theorem dX11_lit_4 : decode cX11_lit 4 = .ok (.if_icmp .ge 16, 3) := by decide +kernel
theorem dX11_lit_7 : decode cX11_lit 7 = .ok (.aload_n 0, 1) := by decide +kernel
theorem dX11_lit_8 : decode cX11_lit 8 = .ok (.getfield 66, 3) := by decide +kernel
theorem dX11_lit_11 : decode cX11_lit 11 = .ok (.iload_n 2, 1) := by decide +kernel
theorem dX11_lit_12 : decode cX11_lit 12 = .ok (.iconst 0, 1) := by decide +kernel
theorem dX11_lit_13 : decode cX11_lit 13 = .ok (.iastore, 1) := by decide +kernel
theorem dX11_lit_14 : decode cX11_lit 14 = .ok (.iinc 2 1, 3) := by decide +kernel
theorem dX11_lit_17 : decode cX11_lit 17 = .ok (.goto (-15), 3) := by decide +kernel
theorem dX11_lit_20 : decode cX11_lit 20 = .ok (.aload_n 0, 1) := by decide +kernel
theorem dX11_lit_21 : decode cX11_lit 21 = .ok (.iconst 0, 1) := by decide +kernel
theorem dX11_lit_22 : decode cX11_lit 22 = .ok (.putfield 237, 3) := by decide +kernel
theorem dX11_lit_25 : decode cX11_lit 25 = .ok (.iload_n 1, 1) := by decide +kernel
theorem dX11_lit_26 : decode cX11_lit 26 = .ok (.istore_n 2, 1) := by decide +kernel
theorem dX11_lit_27 : decode cX11_lit 27 = .ok (.aload_n 0, 1) := by decide +kernel
theorem dX11_lit_28 : decode cX11_lit 28 = .ok (.getfield 184, 3) := by decide +kernel
theorem dX11_lit_31 : decode cX11_lit 31 = .ok (.iconst 1, 1) := by decide +kernel
theorem dX11_lit_32 : decode cX11_lit 32 = .ok (.isub, 1) := by decide +kernel
theorem dX11_lit_33 : decode cX11_lit 33 = .ok (.istore_n 3, 1) := by decide +kernel
theorem dX11_lit_34 : decode cX11_lit 34 = .ok (.iload_n 3, 1) := by decide +kernel
theorem dX11_lit_35 : decode cX11_lit 35 = .ok (.ifCond .lt 63, 3) := by decide +kernel
theorem dX11_lit_38 : decode cX11_lit 38 = .ok (.iload_n 2, 1) := by decide +kernel
theorem dX11_lit_39 : decode cX11_lit 39 = .ok (.iconst 5, 1) := by decide +kernel
theorem dX11_lit_40 : decode cX11_lit 40 = .ok (.irem, 1) := by decide +kernel
theorem dX11_lit_41 : decode cX11_lit 41 = .ok (.istore 4, 2) := by decide +kernel
theorem dX11_lit_43 : decode cX11_lit 43 = .ok (.iload_n 2, 1) := by decide +kernel
theorem dX11_lit_44 : decode cX11_lit 44 = .ok (.iconst 5, 1) := by decide +kernel
theorem dX11_lit_45 : decode cX11_lit 45 = .ok (.idiv, 1) := by decide +kernel
theorem dX11_lit_46 : decode cX11_lit 46 = .ok (.istore_n 2, 1) := by decide +kernel
theorem dX11_lit_47 : decode cX11_lit 47 = .ok (.aload_n 0, 1) := by decide +kernel
theorem dX11_lit_48 : decode cX11_lit 48 = .ok (.getfield 66, 3) := by decide +kernel
theorem dX11_lit_51 : decode cX11_lit 51 = .ok (.iload 4, 2) := by decide +kernel
theorem dX11_lit_53 : decode cX11_lit 53 = .ok (.dup2, 1) := by decide +kernel
theorem dX11_lit_54 : decode cX11_lit 54 = .ok (.iaload, 1) := by decide +kernel
theorem dX11_lit_55 : decode cX11_lit 55 = .ok (.iload 4, 2) := by decide +kernel
theorem dX11_lit_57 : decode cX11_lit 57 = .ok (.ifCond .ne 7, 3) := by decide +kernel
theorem dX11_lit_60 : decode cX11_lit 60 = .ok (.iconst 0, 1) := by decide +kernel
theorem dX11_lit_61 : decode cX11_lit 61 = .ok (.goto 10, 3) := by decide +kernel
theorem dX11_lit_64 : decode cX11_lit 64 = .ok (.aload_n 0, 1) := by decide +kernel
theorem dX11_lit_65 : decode cX11_lit 65 = .ok (.iload_n 3, 1) := by decide +kernel
theorem dX11_lit_66 : decode cX11_lit 66 = .ok (.iload 4, 2) := by decide +kernel
theorem dX11_lit_68 : decode cX11_lit 68 = .ok (.invokevirtual 234, 3) := by decide +kernel
theorem dX11_lit_71 : decode cX11_lit 71 = .ok (.iadd, 1) := by decide +kernel
theorem dX11_lit_72 : decode cX11_lit 72 = .ok (.iastore, 1) := by decide +kernel
theorem dX11_lit_73 : decode cX11_lit 73 = .ok (.aload_n 0, 1) := by decide +kernel
theorem dX11_lit_74 : decode cX11_lit 74 = .ok (.dup, 1) := by decide +kernel
theorem dX11_lit_75 : decode cX11_lit 75 = .ok (.getfield 237, 3) := by decide +kernel
theorem dX11_lit_78 : decode cX11_lit 78 = .ok (.iload 4, 2) := by decide +kernel
theorem dX11_lit_80 : decode cX11_lit 80 = .ok (.ifCond .ne 7, 3) := by decide +kernel
theorem dX11_lit_83 : decode cX11_lit 83 = .ok (.iconst 0, 1) := by decide +kernel
theorem dX11_lit_84 : decode cX11_lit 84 = .ok (.goto 4, 3) := by decide +kernel
theorem dX11_lit_87 : decode cX11_lit 87 = .ok (.iconst 1, 1) := by decide +kernel
theorem dX11_lit_88 : decode cX11_lit 88 = .ok (.iadd, 1) := by decide +kernel
theorem dX11_lit_89 : decode cX11_lit 89 = .ok (.putfield 237, 3) := by decide +kernel
theorem dX11_lit_92 : decode cX11_lit 92 = .ok (.iinc 3 (-1), 3) := by decide +kernel
theorem dX11_lit_95 : decode cX11_lit 95 = .ok (.goto (-61), 3) := by decide +kernel
theorem dX11_lit_98 : decode cX11_lit 98 = .ok (.iconst 0, 1) := by decide +kernel
theorem dX11_lit_99 : decode cX11_lit 99 = .ok (.istore_n 3, 1) := by decide +kernel
theorem dX11_lit_100 : decode cX11_lit 100 = .ok (.iconst 1, 1) := by decide +kernel
theorem dX11_lit_101 : decode cX11_lit 101 = .ok (.istore 4, 2) := by decide +kernel
theorem dX11_lit_103 : decode cX11_lit 103 = .ok (.iload 4, 2) := by decide +kernel
theorem dX11_lit_105 : decode cX11_lit 105 = .ok (.iconst 5, 1) := by decide +kernel
theorem dX11_lit_106 : decode cX11_lit 106 = .ok (.if_icmp .ge 44, 3) := by decide +kernel
theorem dX11_lit_109 : decode cX11_lit 109 = .ok (.iload_n 3, 1) := by decide +kernel
theorem dX11_lit_110 : decode cX11_lit 110 = .ok (.aload_n 0, 1) := by decide +kernel
theorem dX11_lit_111 : decode cX11_lit 111 = .ok (.getfield 32, 3) := by decide +kernel
theorem dX11_lit_114 : decode cX11_lit 114 = .ok (.iload 4, 2) := by decide +kernel
theorem dX11_lit_116 : decode cX11_lit 116 = .ok (.iaload, 1) := by decide +kernel
theorem dX11_lit_117 : decode cX11_lit 117 = .ok (.ifCond .le 24, 3) := by decide +kernel
theorem dX11_lit_120 : decode cX11_lit 120 = .ok (.aload_n 0, 1) := by decide +kernel
theorem dX11_lit_121 : decode cX11_lit 121 = .ok (.getfield 66, 3) := by decide +kernel
theorem dX11_lit_124 : decode cX11_lit 124 = .ok (.iload 4, 2) := by decide +kernel
theorem dX11_lit_126 : decode cX11_lit 126 = .ok (.iaload, 1) := by decide +kernel
theorem dX11_lit_127 : decode cX11_lit 127 = .ok (.aload_n 0, 1) := by decide +kernel
theorem dX11_lit_128 : decode cX11_lit 128 = .ok (.getfield 32, 3) := by decide +kernel
theorem dX11_lit_131 : decode cX11_lit 131 = .ok (.iload 4, 2) := by decide +kernel
theorem dX11_lit_133 : decode cX11_lit 133 = .ok (.iaload, 1) := by decide +kernel
theorem dX11_lit_134 : decode cX11_lit 134 = .ok (.if_icmp .lt 7, 3) := by decide +kernel
theorem dX11_lit_137 : decode cX11_lit 137 = .ok (.iconst 1, 1) := by decide +kernel
theorem dX11_lit_138 : decode cX11_lit 138 = .ok (.goto 4, 3) := by decide +kernel
theorem dX11_lit_141 : decode cX11_lit 141 = .ok (.iconst 0, 1) := by decide +kernel
theorem dX11_lit_142 : decode cX11_lit 142 = .ok (.iadd, 1) := by decide +kernel
theorem dX11_lit_143 : decode cX11_lit 143 = .ok (.istore_n 3, 1) := by decide +kernel
theorem dX11_lit_144 : decode cX11_lit 144 = .ok (.iinc 4 1, 3) := by decide +kernel
theorem dX11_lit_147 : decode cX11_lit 147 = .ok (.goto (-44), 3) := by decide +kernel
theorem dX11_lit_150 : decode cX11_lit 150 = .ok (.iload_n 3, 1) := by decide +kernel
theorem dX11_lit_151 : decode cX11_lit 151 = .ok (.ireturn, 1) := by decide +kernel
theorem dX11_loads_0 : decode cX11_loads 0 = .ok (.aload_n 0, 1) := by decide +kernel
theorem dX11_loads_1 : decode cX11_loads 1 = .ok (.getfield 184, 3) := by decide +kernel
theorem dX11_loads_4 : decode cX11_loads 4 = .ok (.ifCond .ne 6, 3) := by decide +kernel
theorem dX11_loads_7 : decode cX11_loads 7 = .ok (.bipush (-4), 2) := by decide +kernel
theorem dX11_loads_9 : decode cX11_loads 9 = .ok (.ireturn, 1) := by decide +kernel
theorem dX11_loads_10 : decode cX11_loads 10 = .ok (.iconst 1, 1) := by decide +kernel
theorem dX11_loads_11 : decode cX11_loads 11 = .ok (.istore_n 1, 1) := by decide +kernel
theorem dX11_loads_12 : decode cX11_loads 12 = .ok (.iconst 0, 1) := by decide +kernel
theorem dX11_loads_13 : decode cX11_loads 13 = .ok (.istore_n 2, 1) := by decide +kernel
theorem dX11_loads_14 : decode cX11_loads 14 = .ok (.iload_n 2, 1) := by decide +kernel
theorem dX11_loads_15 : decode cX11_loads 15 = .ok (.aload_n 0, 1) := by decide +kernel
theorem dX11_loads_16 : decode cX11_loads 16 = .ok (.getfield 184, 3) := by decide +kernel
theorem dX11_loads_19 : decode cX11_loads 19 = .ok (.if_icmp .ge 13, 3) := by decide +kernel
theorem dX11_loads_22 : decode cX11_loads 22 = .ok (.iload_n 1, 1) := by decide +kernel
theorem dX11_loads_23 : decode cX11_loads 23 = .ok (.iconst 5, 1) := by decide +kernel
theorem dX11_loads_24 : decode cX11_loads 24 = .ok (.imul, 1) := by decide +kernel
theorem dX11_loads_25 : decode cX11_loads 25 = .ok (.istore_n 1, 1) := by decide +kernel
theorem dX11_loads_26 : decode cX11_loads 26 = .ok (.iinc 2 1, 3) := by decide +kernel
theorem dX11_loads_29 : decode cX11_loads 29 = .ok (.goto (-15), 3) := by decide +kernel
theorem dX11_loads_32 : decode cX11_loads 32 = .ok (.iconst (-1), 1) := by decide +kernel
theorem dX11_loads_33 : decode cX11_loads 33 = .ok (.istore_n 2, 1) := by decide +kernel
theorem dX11_loads_34 : decode cX11_loads 34 = .ok (.iconst 0, 1) := by decide +kernel
theorem dX11_loads_35 : decode cX11_loads 35 = .ok (.istore_n 3, 1) := by decide +kernel
theorem dX11_loads_36 : decode cX11_loads 36 = .ok (.iconst 0, 1) := by decide +kernel
theorem dX11_loads_37 : decode cX11_loads 37 = .ok (.istore 4, 2) := by decide +kernel
theorem dX11_loads_39 : decode cX11_loads 39 = .ok (.iconst 0, 1) := by decide +kernel
theorem dX11_loads_40 : decode cX11_loads 40 = .ok (.istore 5, 2) := by decide +kernel
theorem dX11_loads_42 : decode cX11_loads 42 = .ok (.iload 5, 2) := by decide +kernel
theorem dX11_loads_44 : decode cX11_loads 44 = .ok (.iload_n 1, 1) := by decide +kernel
theorem dX11_loads_45 : decode cX11_loads 45 = .ok (.if_icmp .ge 49, 3) := by decide +kernel
theorem dX11_loads_48 : decode cX11_loads 48 = .ok (.aload_n 0, 1) := by decide +kernel
theorem dX11_loads_49 : decode cX11_loads 49 = .ok (.iload 5, 2) := by decide +kernel
theorem dX11_loads_51 : decode cX11_loads 51 = .ok (.invokevirtual 240, 3) := by decide +kernel
theorem dX11_loads_54 : decode cX11_loads 54 = .ok (.istore 6, 2) := by decide +kernel
theorem dX11_loads_56 : decode cX11_loads 56 = .ok (.iload 6, 2) := by decide +kernel
theorem dX11_loads_58 : decode cX11_loads 58 = .ok (.iload_n 2, 1) := by decide +kernel
theorem dX11_loads_59 : decode cX11_loads 59 = .ok (.if_icmp .gt 17, 3) := by decide +kernel
theorem dX11_loads_62 : decode cX11_loads 62 = .ok (.iload 6, 2) := by decide +kernel
theorem dX11_loads_64 : decode cX11_loads 64 = .ok (.iload_n 2, 1) := by decide +kernel
theorem dX11_loads_65 : decode cX11_loads 65 = .ok (.if_icmp .ne 23, 3) := by decide +kernel
theorem dX11_loads_68 : decode cX11_loads 68 = .ok (.aload_n 0, 1) := by decide +kernel
theorem dX11_loads_69 : decode cX11_loads 69 = .ok (.getfield 237, 3) := by decide +kernel
theorem dX11_loads_72 : decode cX11_loads 72 = .ok (.iload_n 3, 1) := by decide +kernel
theorem dX11_loads_73 : decode cX11_loads 73 = .ok (.if_icmp .ge 15, 3) := by decide +kernel
theorem dX11_loads_76 : decode cX11_loads 76 = .ok (.iload 6, 2) := by decide +kernel
theorem dX11_loads_78 : decode cX11_loads 78 = .ok (.istore_n 2, 1) := by decide +kernel
theorem dX11_loads_79 : decode cX11_loads 79 = .ok (.aload_n 0, 1) := by decide +kernel
theorem dX11_loads_80 : decode cX11_loads 80 = .ok (.getfield 237, 3) := by decide +kernel
theorem dX11_loads_83 : decode cX11_loads 83 = .ok (.istore_n 3, 1) := by decide +kernel
theorem dX11_loads_84 : decode cX11_loads 84 = .ok (.iload 5, 2) := by decide +kernel
theorem dX11_loads_86 : decode cX11_loads 86 = .ok (.istore 4, 2) := by decide +kernel
theorem dX11_loads_88 : decode cX11_loads 88 = .ok (.iinc 5 1, 3) := by decide +kernel
theorem dX11_loads_91 : decode cX11_loads 91 = .ok (.goto (-49), 3) := by decide +kernel
theorem dX11_loads_94 : decode cX11_loads 94 = .ok (.aload_n 0, 1) := by decide +kernel
theorem dX11_loads_95 : decode cX11_loads 95 = .ok (.iload 4, 2) := by decide +kernel
theorem dX11_loads_97 : decode cX11_loads 97 = .ok (.iload_n 2, 1) := by decide +kernel
theorem dX11_loads_98 : decode cX11_loads 98 = .ok (.invokevirtual 125, 3) := by decide +kernel
theorem dX11_loads_101 : decode cX11_loads 101 = .ok (.ireturn, 1) := by decide +kernel
theorem dX11_needs_0 : decode cX11_needs 0 = .ok (.iload_n 1, 1) := by decide +kernel
theorem dX11_needs_1 : decode cX11_needs 1 = .ok (.invokestatic 243, 3) := by decide +kernel
theorem dX11_needs_4 : decode cX11_needs 4 = .ok (.ifCond .ne 5, 3) := by decide +kernel
theorem dX11_needs_7 : decode cX11_needs 7 = .ok (.iconst (-1), 1) := by decide +kernel
theorem dX11_needs_8 : decode cX11_needs 8 = .ok (.ireturn, 1) := by decide +kernel
theorem dX11_needs_9 : decode cX11_needs 9 = .ok (.bipush (-9), 2) := by decide +kernel
theorem dX11_needs_11 : decode cX11_needs 11 = .ok (.istore_n 2, 1) := by decide +kernel
theorem dX11_needs_12 : decode cX11_needs 12 = .ok (.iconst 0, 1) := by decide +kernel
theorem dX11_needs_13 : decode cX11_needs 13 = .ok (.istore_n 3, 1) := by decide +kernel
theorem dX11_needs_14 : decode cX11_needs 14 = .ok (.iload_n 3, 1) := by decide +kernel
theorem dX11_needs_15 : decode cX11_needs 15 = .ok (.iconst 1, 1) := by decide +kernel
theorem dX11_needs_16 : decode cX11_needs 16 = .ok (.aload_n 0, 1) := by decide +kernel
theorem dX11_needs_17 : decode cX11_needs 17 = .ok (.getfield 184, 3) := by decide +kernel
theorem dX11_needs_20 : decode cX11_needs 20 = .ok (.ishl, 1) := by decide +kernel
theorem dX11_needs_21 : decode cX11_needs 21 = .ok (.if_icmp .ge 89, 3) := by decide +kernel
theorem dX11_needs_24 : decode cX11_needs 24 = .ok (.iconst 0, 1) := by decide +kernel
theorem dX11_needs_25 : decode cX11_needs 25 = .ok (.istore 4, 2) := by decide +kernel
theorem dX11_needs_27 : decode cX11_needs 27 = .ok (.iconst 0, 1) := by decide +kernel
theorem dX11_needs_28 : decode cX11_needs 28 = .ok (.istore 5, 2) := by decide +kernel
theorem dX11_needs_30 : decode cX11_needs 30 = .ok (.iload 5, 2) := by decide +kernel
theorem dX11_needs_32 : decode cX11_needs 32 = .ok (.aload_n 0, 1) := by decide +kernel
theorem dX11_needs_33 : decode cX11_needs 33 = .ok (.getfield 184, 3) := by decide +kernel
theorem dX11_needs_36 : decode cX11_needs 36 = .ok (.if_icmp .ge 34, 3) := by decide +kernel
theorem dX11_needs_39 : decode cX11_needs 39 = .ok (.iload 4, 2) := by decide +kernel
theorem dX11_needs_41 : decode cX11_needs 41 = .ok (.iload_n 3, 1) := by decide +kernel
theorem dX11_needs_42 : decode cX11_needs 42 = .ok (.iload 5, 2) := by decide +kernel
theorem dX11_needs_44 : decode cX11_needs 44 = .ok (.invokestatic 246, 3) := by decide +kernel
theorem dX11_needs_47 : decode cX11_needs 47 = .ok (.ifCond .eq 13, 3) := by decide +kernel
theorem dX11_needs_50 : decode cX11_needs 50 = .ok (.aload_n 0, 1) := by decide +kernel
theorem dX11_needs_51 : decode cX11_needs 51 = .ok (.iload 5, 2) := by decide +kernel
theorem dX11_needs_53 : decode cX11_needs 53 = .ok (.iload_n 1, 1) := by decide +kernel
theorem dX11_needs_54 : decode cX11_needs 54 = .ok (.invokevirtual 234, 3) := by decide +kernel
theorem dX11_needs_57 : decode cX11_needs 57 = .ok (.goto 4, 3) := by decide +kernel
theorem dX11_needs_60 : decode cX11_needs 60 = .ok (.iconst 0, 1) := by decide +kernel
theorem dX11_needs_61 : decode cX11_needs 61 = .ok (.iadd, 1) := by decide +kernel
theorem dX11_needs_62 : decode cX11_needs 62 = .ok (.istore 4, 2) := by decide +kernel
theorem dX11_needs_64 : decode cX11_needs 64 = .ok (.iinc 5 1, 3) := by decide +kernel
theorem dX11_needs_67 : decode cX11_needs 67 = .ok (.goto (-37), 3) := by decide +kernel
theorem dX11_needs_70 : decode cX11_needs 70 = .ok (.iload 4, 2) := by decide +kernel
theorem dX11_needs_72 : decode cX11_needs 72 = .ok (.aload_n 0, 1) := by decide +kernel
theorem dX11_needs_73 : decode cX11_needs 73 = .ok (.getfield 32, 3) := by decide +kernel
theorem dX11_needs_76 : decode cX11_needs 76 = .ok (.iload_n 1, 1) := by decide +kernel
theorem dX11_needs_77 : decode cX11_needs 77 = .ok (.iaload, 1) := by decide +kernel
theorem dX11_needs_78 : decode cX11_needs 78 = .ok (.if_icmp .lt 24, 3) := by decide +kernel
theorem dX11_needs_81 : decode cX11_needs 81 = .ok (.iload_n 2, 1) := by decide +kernel
theorem dX11_needs_82 : decode cX11_needs 82 = .ok (.bipush (-9), 2) := by decide +kernel
theorem dX11_needs_84 : decode cX11_needs 84 = .ok (.if_icmp .eq 14, 3) := by decide +kernel
theorem dX11_needs_87 : decode cX11_needs 87 = .ok (.iload_n 3, 1) := by decide +kernel
theorem dX11_needs_88 : decode cX11_needs 88 = .ok (.invokestatic 249, 3) := by decide +kernel
theorem dX11_needs_91 : decode cX11_needs 91 = .ok (.iload_n 2, 1) := by decide +kernel
theorem dX11_needs_92 : decode cX11_needs 92 = .ok (.invokestatic 249, 3) := by decide +kernel
