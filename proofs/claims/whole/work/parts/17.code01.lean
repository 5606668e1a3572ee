theorem dX3_addValley_3 : decode cX3_addValley 3 = .ok (.istore_n 2, 1) := by decide +kernel
theorem dX3_addValley_4 : decode cX3_addValley 4 = .ok (.iload_n 2, 1) := by decide +kernel
theorem dX3_addValley_5 : decode cX3_addValley 5 = .ok (.ifCond .le 65, 3) := by decide +kernel
theorem dX3_addValley_8 : decode cX3_addValley 8 = .ok (.iload_n 2, 1) := by decide +kernel
theorem dX3_addValley_9 : decode cX3_addValley 9 = .ok (.istore_n 3, 1) := by decide +kernel
theorem dX3_addValley_10 : decode cX3_addValley 10 = .ok (.iload_n 3, 1) := by decide +kernel
theorem dX3_addValley_11 : decode cX3_addValley 11 = .ok (.ifCond .le 53, 3) := by decide +kernel
theorem dX3_addValley_14 : decode cX3_addValley 14 = .ok (.aload_n 0, 1) := by decide +kernel
theorem dX3_addValley_15 : decode cX3_addValley 15 = .ok (.getfield 15, 3) := by decide +kernel
theorem dX3_addValley_18 : decode cX3_addValley 18 = .ok (.iload_n 3, 1) := by decide +kernel
theorem dX3_addValley_19 : decode cX3_addValley 19 = .ok (.iaload, 1) := by decide +kernel
theorem dX3_addValley_20 : decode cX3_addValley 20 = .ok (.ldc 24, 2) := by decide +kernel
theorem dX3_addValley_22 : decode cX3_addValley 22 = .ok (.if_icmp .ge 33, 3) := by decide +kernel
theorem dX3_addValley_25 : decode cX3_addValley 25 = .ok (.aload_n 0, 1) := by decide +kernel
theorem dX3_addValley_26 : decode cX3_addValley 26 = .ok (.getfield 9, 3) := by decide +kernel
theorem dX3_addValley_29 : decode cX3_addValley 29 = .ok (.iload_n 2, 1) := by decide +kernel
theorem dX3_addValley_30 : decode cX3_addValley 30 = .ok (.aload_n 0, 1) := by decide +kernel
theorem dX3_addValley_31 : decode cX3_addValley 31 = .ok (.getfield 9, 3) := by decide +kernel
theorem dX3_addValley_34 : decode cX3_addValley 34 = .ok (.iload_n 2, 1) := by decide +kernel
theorem dX3_addValley_35 : decode cX3_addValley 35 = .ok (.iaload, 1) := by decide +kernel
theorem dX3_addValley_36 : decode cX3_addValley 36 = .ok (.aload_n 0, 1) := by decide +kernel
theorem dX3_addValley_37 : decode cX3_addValley 37 = .ok (.getfield 9, 3) := by decide +kernel
theorem dX3_addValley_40 : decode cX3_addValley 40 = .ok (.iload_n 2, 1) := by decide +kernel
theorem dX3_addValley_41 : decode cX3_addValley 41 = .ok (.iload_n 3, 1) := by decide +kernel
theorem dX3_addValley_42 : decode cX3_addValley 42 = .ok (.ixor, 1) := by decide +kernel
theorem dX3_addValley_43 : decode cX3_addValley 43 = .ok (.iaload, 1) := by decide +kernel
theorem dX3_addValley_44 : decode cX3_addValley 44 = .ok (.aload_n 0, 1) := by decide +kernel
theorem dX3_addValley_45 : decode cX3_addValley 45 = .ok (.getfield 15, 3) := by decide +kernel
theorem dX3_addValley_48 : decode cX3_addValley 48 = .ok (.iload_n 3, 1) := by decide +kernel
theorem dX3_addValley_49 : decode cX3_addValley 49 = .ok (.iaload, 1) := by decide +kernel
theorem dX3_addValley_50 : decode cX3_addValley 50 = .ok (.iadd, 1) := by decide +kernel
theorem dX3_addValley_51 : decode cX3_addValley 51 = .ok (.invokestatic 45, 3) := by decide +kernel
theorem dX3_addValley_54 : decode cX3_addValley 54 = .ok (.iastore, 1) := by decide +kernel
theorem dX3_addValley_55 : decode cX3_addValley 55 = .ok (.iload_n 3, 1) := by decide +kernel
theorem dX3_addValley_56 : decode cX3_addValley 56 = .ok (.iconst 1, 1) := by decide +kernel
theorem dX3_addValley_57 : decode cX3_addValley 57 = .ok (.isub, 1) := by decide +kernel
theorem dX3_addValley_58 : decode cX3_addValley 58 = .ok (.iload_n 2, 1) := by decide +kernel
theorem dX3_addValley_59 : decode cX3_addValley 59 = .ok (.iand, 1) := by decide +kernel
theorem dX3_addValley_60 : decode cX3_addValley 60 = .ok (.istore_n 3, 1) := by decide +kernel
theorem dX3_addValley_61 : decode cX3_addValley 61 = .ok (.goto (-51), 3) := by decide +kernel
theorem dX3_addValley_64 : decode cX3_addValley 64 = .ok (.iinc 2 (-1), 3) := by decide +kernel
theorem dX3_addValley_67 : decode cX3_addValley 67 = .ok (.goto (-63), 3) := by decide +kernel
theorem dX3_addValley_70 : decode cX3_addValley 70 = .ok (.return_, 1) := by decide +kernel
theorem dX4_init_0 : decode cX4_init 0 = .ok (.aload_n 0, 1) := by decide +kernel
theorem dX4_init_1 : decode cX4_init 1 = .ok (.invokespecial 3, 3) := by decide +kernel
theorem dX4_init_4 : decode cX4_init 4 = .ok (.aload_n 0, 1) := by decide +kernel
theorem dX4_init_5 : decode cX4_init 5 = .ok (.iload_n 1, 1) := by decide +kernel
theorem dX4_init_6 : decode cX4_init 6 = .ok (.iconst 0, 1) := by decide +kernel
theorem dX4_init_7 : decode cX4_init 7 = .ok (.invokestatic 9, 3) := by decide +kernel
theorem dX4_init_10 : decode cX4_init 10 = .ok (.bipush 30, 2) := by decide +kernel
theorem dX4_init_12 : decode cX4_init 12 = .ok (.imul, 1) := by decide +kernel
theorem dX4_init_13 : decode cX4_init 13 = .ok (.newarray .int, 2) := by decide +kernel
theorem dX4_init_15 : decode cX4_init 15 = .ok (.putfield 17, 3) := by decide +kernel
theorem dX4_init_18 : decode cX4_init 18 = .ok (.return_, 1) := by decide +kernel
theorem dX4_save_0 : decode cX4_save 0 = .ok (.iload_n 1, 1) := by decide +kernel
theorem dX4_save_1 : decode cX4_save 1 = .ok (.bipush 30, 2) := by decide +kernel
theorem dX4_save_3 : decode cX4_save 3 = .ok (.imul, 1) := by decide +kernel
theorem dX4_save_4 : decode cX4_save 4 = .ok (.istore_n 3, 1) := by decide +kernel
theorem dX4_save_5 : decode cX4_save 5 = .ok (.aload_n 0, 1) := by decide +kernel
theorem dX4_save_6 : decode cX4_save 6 = .ok (.iload_n 3, 1) := by decide +kernel
theorem dX4_save_7 : decode cX4_save 7 = .ok (.invokevirtual 21, 3) := by decide +kernel
theorem dX4_save_10 : decode cX4_save 10 = .ok (.ifCond .ne 4, 3) := by decide +kernel
theorem dX4_save_13 : decode cX4_save 13 = .ok (.return_, 1) := by decide +kernel
theorem dX4_save_14 : decode cX4_save 14 = .ok (.aload_n 2, 1) := by decide +kernel
theorem dX4_save_15 : decode cX4_save 15 = .ok (.getfield 25, 3) := by decide +kernel
theorem dX4_save_18 : decode cX4_save 18 = .ok (.iconst 0, 1) := by decide +kernel
theorem dX4_save_19 : decode cX4_save 19 = .ok (.aload_n 0, 1) := by decide +kernel
theorem dX4_save_20 : decode cX4_save 20 = .ok (.getfield 17, 3) := by decide +kernel
theorem dX4_save_23 : decode cX4_save 23 = .ok (.iload_n 3, 1) := by decide +kernel
theorem dX4_save_24 : decode cX4_save 24 = .ok (.iconst 0, 1) := by decide +kernel
theorem dX4_save_25 : decode cX4_save 25 = .ok (.iadd, 1) := by decide +kernel
theorem dX4_save_26 : decode cX4_save 26 = .ok (.bipush 6, 2) := by decide +kernel
theorem dX4_save_28 : decode cX4_save 28 = .ok (.invokestatic 30, 3) := by decide +kernel
theorem dX4_save_31 : decode cX4_save 31 = .ok (.aload_n 2, 1) := by decide +kernel
theorem dX4_save_32 : decode cX4_save 32 = .ok (.getfield 36, 3) := by decide +kernel
theorem dX4_save_35 : decode cX4_save 35 = .ok (.iconst 0, 1) := by decide +kernel
theorem dX4_save_36 : decode cX4_save 36 = .ok (.aload_n 0, 1) := by decide +kernel
theorem dX4_save_37 : decode cX4_save 37 = .ok (.getfield 17, 3) := by decide +kernel
theorem dX4_save_40 : decode cX4_save 40 = .ok (.iload_n 3, 1) := by decide +kernel
theorem dX4_save_41 : decode cX4_save 41 = .ok (.bipush 6, 2) := by decide +kernel
theorem dX4_save_43 : decode cX4_save 43 = .ok (.iadd, 1) := by decide +kernel
theorem dX4_save_44 : decode cX4_save 44 = .ok (.bipush 6, 2) := by decide +kernel
theorem dX4_save_46 : decode cX4_save 46 = .ok (.invokestatic 30, 3) := by decide +kernel
theorem dX4_save_49 : decode cX4_save 49 = .ok (.aload_n 2, 1) := by decide +kernel
theorem dX4_save_50 : decode cX4_save 50 = .ok (.getfield 39, 3) := by decide +kernel
theorem dX4_save_53 : decode cX4_save 53 = .ok (.iconst 0, 1) := by decide +kernel
theorem dX4_save_54 : decode cX4_save 54 = .ok (.aload_n 0, 1) := by decide +kernel
theorem dX4_save_55 : decode cX4_save 55 = .ok (.getfield 17, 3) := by decide +kernel
theorem dX4_save_58 : decode cX4_save 58 = .ok (.iload_n 3, 1) := by decide +kernel
theorem dX4_save_59 : decode cX4_save 59 = .ok (.bipush 12, 2) := by decide +kernel
theorem dX4_save_61 : decode cX4_save 61 = .ok (.iadd, 1) := by decide +kernel
theorem dX4_save_62 : decode cX4_save 62 = .ok (.bipush 6, 2) := by decide +kernel
theorem dX4_save_64 : decode cX4_save 64 = .ok (.invokestatic 30, 3) := by decide +kernel
theorem dX4_save_67 : decode cX4_save 67 = .ok (.aload_n 2, 1) := by decide +kernel
theorem dX4_save_68 : decode cX4_save 68 = .ok (.getfield 42, 3) := by decide +kernel
theorem dX4_save_71 : decode cX4_save 71 = .ok (.iconst 0, 1) := by decide +kernel
theorem dX4_save_72 : decode cX4_save 72 = .ok (.aload_n 0, 1) := by decide +kernel
theorem dX4_save_73 : decode cX4_save 73 = .ok (.getfield 17, 3) := by decide +kernel
theorem dX4_save_76 : decode cX4_save 76 = .ok (.iload_n 3, 1) := by decide +kernel
theorem dX4_save_77 : decode cX4_save 77 = .ok (.bipush 18, 2) := by decide +kernel
theorem dX4_save_79 : decode cX4_save 79 = .ok (.iadd, 1) := by decide +kernel
theorem dX4_save_80 : decode cX4_save 80 = .ok (.iconst 5, 1) := by decide +kernel
theorem dX4_save_81 : decode cX4_save 81 = .ok (.invokestatic 30, 3) := by decide +kernel
theorem dX4_save_84 : decode cX4_save 84 = .ok (.aload_n 2, 1) := by decide +kernel
theorem dX4_save_85 : decode cX4_save 85 = .ok (.getfield 45, 3) := by decide +kernel
theorem dX4_save_88 : decode cX4_save 88 = .ok (.iconst 0, 1) := by decide +kernel
theorem dX4_save_89 : decode cX4_save 89 = .ok (.aload_n 0, 1) := by decide +kernel
theorem dX4_save_90 : decode cX4_save 90 = .ok (.getfield 17, 3) := by decide +kernel
theorem dX4_save_93 : decode cX4_save 93 = .ok (.iload_n 3, 1) := by decide +kernel
theorem dX4_save_94 : decode cX4_save 94 = .ok (.bipush 23, 2) := by decide +kernel
theorem dX4_save_96 : decode cX4_save 96 = .ok (.iadd, 1) := by decide +kernel
theorem dX4_save_97 : decode cX4_save 97 = .ok (.iconst 5, 1) := by decide +kernel
theorem dX4_save_98 : decode cX4_save 98 = .ok (.invokestatic 30, 3) := by decide +kernel
theorem dX4_save_101 : decode cX4_save 101 = .ok (.aload_n 0, 1) := by decide +kernel
theorem dX4_save_102 : decode cX4_save 102 = .ok (.getfield 17, 3) := by decide +kernel
theorem dX4_save_105 : decode cX4_save 105 = .ok (.iload_n 3, 1) := by decide +kernel
theorem dX4_save_106 : decode cX4_save 106 = .ok (.bipush 28, 2) := by decide +kernel
theorem dX4_save_108 : decode cX4_save 108 = .ok (.iadd, 1) := by decide +kernel
theorem dX4_save_109 : decode cX4_save 109 = .ok (.aload_n 2, 1) := by decide +kernel
theorem dX4_save_110 : decode cX4_save 110 = .ok (.getfield 48, 3) := by decide +kernel
theorem dX4_save_113 : decode cX4_save 113 = .ok (.iastore, 1) := by decide +kernel
theorem dX4_save_114 : decode cX4_save 114 = .ok (.aload_n 0, 1) := by decide +kernel
theorem dX4_save_115 : decode cX4_save 115 = .ok (.getfield 17, 3) := by decide +kernel
theorem dX4_save_118 : decode cX4_save 118 = .ok (.iload_n 3, 1) := by decide +kernel
theorem dX4_save_119 : decode cX4_save 119 = .ok (.bipush 29, 2) := by decide +kernel
theorem dX4_save_121 : decode cX4_save 121 = .ok (.iadd, 1) := by decide +kernel
theorem dX4_save_122 : decode cX4_save 122 = .ok (.aload_n 2, 1) := by decide +kernel
theorem dX4_save_123 : decode cX4_save 123 = .ok (.getfield 52, 3) := by decide +kernel
theorem dX4_save_126 : decode cX4_save 126 = .ok (.iastore, 1) := by decide +kernel
theorem dX4_save_127 : decode cX4_save 127 = .ok (.return_, 1) := by decide +kernel
theorem dX4_recall_0 : decode cX4_recall 0 = .ok (.iload_n 1, 1) := by decide +kernel
theorem dX4_recall_1 : decode cX4_recall 1 = .ok (.bipush 30, 2) := by decide +kernel
theorem dX4_recall_3 : decode cX4_recall 3 = .ok (.imul, 1) := by decide +kernel
theorem dX4_recall_4 : decode cX4_recall 4 = .ok (.istore_n 3, 1) := by decide +kernel
theorem dX4_recall_5 : decode cX4_recall 5 = .ok (.aload_n 0, 1) := by decide +kernel
theorem dX4_recall_6 : decode cX4_recall 6 = .ok (.iload_n 3, 1) := by decide +kernel
theorem dX4_recall_7 : decode cX4_recall 7 = .ok (.invokevirtual 21, 3) := by decide +kernel
theorem dX4_recall_10 : decode cX4_recall 10 = .ok (.ifCond .ne 4, 3) := by decide +kernel
theorem dX4_recall_13 : decode cX4_recall 13 = .ok (.return_, 1) := by decide +kernel
theorem dX4_recall_14 : decode cX4_recall 14 = .ok (.aload_n 0, 1) := by decide +kernel
theorem dX4_recall_15 : decode cX4_recall 15 = .ok (.getfield 17, 3) := by decide +kernel
theorem dX4_recall_18 : decode cX4_recall 18 = .ok (.iload_n 3, 1) := by decide +kernel
theorem dX4_recall_19 : decode cX4_recall 19 = .ok (.iconst 0, 1) := by decide +kernel
theorem dX4_recall_20 : decode cX4_recall 20 = .ok (.iadd, 1) := by decide +kernel
theorem dX4_recall_21 : decode cX4_recall 21 = .ok (.aload_n 2, 1) := by decide +kernel
theorem dX4_recall_22 : decode cX4_recall 22 = .ok (.getfield 25, 3) := by decide +kernel
theorem dX4_recall_25 : decode cX4_recall 25 = .ok (.iconst 0, 1) := by decide +kernel
theorem dX4_recall_26 : decode cX4_recall 26 = .ok (.bipush 6, 2) := by decide +kernel
theorem dX4_recall_28 : decode cX4_recall 28 = .ok (.invokestatic 30, 3) := by decide +kernel
theorem dX4_recall_31 : decode cX4_recall 31 = .ok (.aload_n 0, 1) := by decide +kernel
theorem dX4_recall_32 : decode cX4_recall 32 = .ok (.getfield 17, 3) := by decide +kernel
theorem dX4_recall_35 : decode cX4_recall 35 = .ok (.iload_n 3, 1) := by decide +kernel
theorem dX4_recall_36 : decode cX4_recall 36 = .ok (.bipush 6, 2) := by decide +kernel
theorem dX4_recall_38 : decode cX4_recall 38 = .ok (.iadd, 1) := by decide +kernel
theorem dX4_recall_39 : decode cX4_recall 39 = .ok (.aload_n 2, 1) := by decide +kernel
theorem dX4_recall_40 : decode cX4_recall 40 = .ok (.getfield 36, 3) := by decide +kernel
theorem dX4_recall_43 : decode cX4_recall 43 = .ok (.iconst 0, 1) := by decide +kernel
theorem dX4_recall_44 : decode cX4_recall 44 = .ok (.bipush 6, 2) := by decide +kernel
theorem dX4_recall_46 : decode cX4_recall 46 = .ok (.invokestatic 30, 3) := by decide +kernel
theorem dX4_recall_49 : decode cX4_recall 49 = .ok (.aload_n 0, 1) := by decide +kernel
theorem dX4_recall_50 : decode cX4_recall 50 = .ok (.getfield 17, 3) := by decide +kernel
theorem dX4_recall_53 : decode cX4_recall 53 = .ok (.iload_n 3, 1) := by decide +kernel
theorem dX4_recall_54 : decode cX4_recall 54 = .ok (.bipush 12, 2) := by decide +kernel
theorem dX4_recall_56 : decode cX4_recall 56 = .ok (.iadd, 1) := by decide +kernel
theorem dX4_recall_57 : decode cX4_recall 57 = .ok (.aload_n 2, 1) := by decide +kernel
theorem dX4_recall_58 : decode cX4_recall 58 = .ok (.getfield 39, 3) := by decide +kernel
theorem dX4_recall_61 : decode cX4_recall 61 = .ok (.iconst 0, 1) := by decide +kernel
theorem dX4_recall_62 : decode cX4_recall 62 = .ok (.bipush 6, 2) := by decide +kernel
theorem dX4_recall_64 : decode cX4_recall 64 = .ok (.invokestatic 30, 3) := by decide +kernel
theorem dX4_recall_67 : decode cX4_recall 67 = .ok (.aload_n 0, 1) := by decide +kernel
theorem dX4_recall_68 : decode cX4_recall 68 = .ok (.getfield 17, 3) := by decide +kernel
theorem dX4_recall_71 : decode cX4_recall 71 = .ok (.iload_n 3, 1) := by decide +kernel
theorem dX4_recall_72 : decode cX4_recall 72 = .ok (.bipush 18, 2) := by decide +kernel
theorem dX4_recall_74 : decode cX4_recall 74 = .ok (.iadd, 1) := by decide +kernel
theorem dX4_recall_75 : decode cX4_recall 75 = .ok (.aload_n 2, 1) := by decide +kernel
theorem dX4_recall_76 : decode cX4_recall 76 = .ok (.getfield 42, 3) := by decide +kernel
theorem dX4_recall_79 : decode cX4_recall 79 = .ok (.iconst 0, 1) := by decide +kernel
theorem dX4_recall_80 : decode cX4_recall 80 = .ok (.iconst 5, 1) := by decide +kernel
theorem dX4_recall_81 : decode cX4_recall 81 = .ok (.invokestatic 30, 3) := by decide +kernel
theorem dX4_recall_84 : decode cX4_recall 84 = .ok (.aload_n 0, 1) := by decide +kernel
theorem dX4_recall_85 : decode cX4_recall 85 = .ok (.getfield 17, 3) := by decide +kernel
theorem dX4_recall_88 : decode cX4_recall 88 = .ok (.iload_n 3, 1) := by decide +kernel
theorem dX4_recall_89 : decode cX4_recall 89 = .ok (.bipush 23, 2) := by decide +kernel
theorem dX4_recall_91 : decode cX4_recall 91 = .ok (.iadd, 1) := by decide +kernel
theorem dX4_recall_92 : decode cX4_recall 92 = .ok (.aload_n 2, 1) := by decide +kernel
theorem dX4_recall_93 : decode cX4_recall 93 = .ok (.getfield 45, 3) := by decide +kernel
theorem dX4_recall_96 : decode cX4_recall 96 = .ok (.iconst 0, 1) := by decide +kernel
theorem dX4_recall_97 : decode cX4_recall 97 = .ok (.iconst 5, 1) := by decide +kernel
theorem dX4_recall_98 : decode cX4_recall 98 = .ok (.invokestatic 30, 3) := by decide +kernel
theorem dX4_recall_101 : decode cX4_recall 101 = .ok (.aload_n 2, 1) := by decide +kernel
theorem dX4_recall_102 : decode cX4_recall 102 = .ok (.aload_n 0, 1) := by decide +kernel
theorem dX4_recall_103 : decode cX4_recall 103 = .ok (.getfield 17, 3) := by decide +kernel
theorem dX4_recall_106 : decode cX4_recall 106 = .ok (.iload_n 3, 1) := by decide +kernel
theorem dX4_recall_107 : decode cX4_recall 107 = .ok (.bipush 28, 2) := by decide +kernel
theorem dX4_recall_109 : decode cX4_recall 109 = .ok (.iadd, 1) := by decide +kernel
theorem dX4_recall_110 : decode cX4_recall 110 = .ok (.iaload, 1) := by decide +kernel
theorem dX4_recall_111 : decode cX4_recall 111 = .ok (.putfield 48, 3) := by decide +kernel
theorem dX4_recall_114 : decode cX4_recall 114 = .ok (.aload_n 2, 1) := by decide +kernel
theorem dX4_recall_115 : decode cX4_recall 115 = .ok (.aload_n 0, 1) := by decide +kernel
theorem dX4_recall_116 : decode cX4_recall 116 = .ok (.getfield 17, 3) := by decide +kernel
theorem dX4_recall_119 : decode cX4_recall 119 = .ok (.iload_n 3, 1) := by decide +kernel
theorem dX4_recall_120 : decode cX4_recall 120 = .ok (.bipush 29, 2) := by decide +kernel
theorem dX4_recall_122 : decode cX4_recall 122 = .ok (.iadd, 1) := by decide +kernel
theorem dX4_recall_123 : decode cX4_recall 123 = .ok (.iaload, 1) := by decide +kernel
theorem dX4_recall_124 : decode cX4_recall 124 = .ok (.putfield 52, 3) := by decide +kernel
theorem dX4_recall_127 : decode cX4_recall 127 = .ok (.return_, 1) := by decide +kernel
theorem dX4_isSlot_0 : decode cX4_isSlot 0 = .ok (.iload_n 1, 1) := by decide +kernel
theorem dX4_isSlot_1 : decode cX4_isSlot 1 = .ok (.ifCond .lt 19, 3) := by decide +kernel
theorem dX4_isSlot_4 : decode cX4_isSlot 4 = .ok (.iload_n 1, 1) := by decide +kernel
theorem dX4_isSlot_5 : decode cX4_isSlot 5 = .ok (.bipush 30, 2) := by decide +kernel
theorem dX4_isSlot_7 : decode cX4_isSlot 7 = .ok (.iadd, 1) := by decide +kernel
theorem dX4_isSlot_8 : decode cX4_isSlot 8 = .ok (.aload_n 0, 1) := by decide +kernel
theorem dX4_isSlot_9 : decode cX4_isSlot 9 = .ok (.getfield 17, 3) := by decide +kernel
theorem dX4_isSlot_12 : decode cX4_isSlot 12 = .ok (.arraylength, 1) := by decide +kernel
theorem dX4_isSlot_13 : decode cX4_isSlot 13 = .ok (.if_icmp .gt 7, 3) := by decide +kernel
theorem dX4_isSlot_16 : decode cX4_isSlot 16 = .ok (.iconst 1, 1) := by decide +kernel
theorem dX4_isSlot_17 : decode cX4_isSlot 17 = .ok (.goto 4, 3) := by decide +kernel
theorem dX4_isSlot_20 : decode cX4_isSlot 20 = .ok (.iconst 0, 1) := by decide +kernel
theorem dX4_isSlot_21 : decode cX4_isSlot 21 = .ok (.ireturn, 1) := by decide +kernel
theorem dX5_init_0 : decode cX5_init 0 = .ok (.aload_n 0, 1) := by decide +kernel
theorem dX5_init_1 : decode cX5_init 1 = .ok (.invokespecial 3, 3) := by decide +kernel
theorem dX5_init_4 : decode cX5_init 4 = .ok (.aload_n 0, 1) := by decide +kernel
theorem dX5_init_5 : decode cX5_init 5 = .ok (.bipush 8, 2) := by decide +kernel
theorem dX5_init_7 : decode cX5_init 7 = .ok (.newarray .int, 2) := by decide +kernel
theorem dX5_init_9 : decode cX5_init 9 = .ok (.putfield 9, 3) := by decide +kernel
theorem dX5_init_12 : decode cX5_init 12 = .ok (.aload_n 0, 1) := by decide +kernel
theorem dX5_init_13 : decode cX5_init 13 = .ok (.iconst 5, 1) := by decide +kernel
theorem dX5_init_14 : decode cX5_init 14 = .ok (.newarray .int, 2) := by decide +kernel
theorem dX5_init_16 : decode cX5_init 16 = .ok (.putfield 15, 3) := by decide +kernel
theorem dX5_init_19 : decode cX5_init 19 = .ok (.aload_n 0, 1) := by decide +kernel
theorem dX5_init_20 : decode cX5_init 20 = .ok (.bipush 6, 2) := by decide +kernel
theorem dX5_init_22 : decode cX5_init 22 = .ok (.newarray .int, 2) := by decide +kernel
theorem dX5_init_24 : decode cX5_init 24 = .ok (.putfield 18, 3) := by decide +kernel
theorem dX5_init_27 : decode cX5_init 27 = .ok (.aload_n 0, 1) := by decide +kernel
theorem dX5_init_28 : decode cX5_init 28 = .ok (.bipush 6, 2) := by decide +kernel
theorem dX5_init_30 : decode cX5_init 30 = .ok (.newarray .int, 2) := by decide +kernel
theorem dX5_init_32 : decode cX5_init 32 = .ok (.putfield 21, 3) := by decide +kernel
theorem dX5_init_35 : decode cX5_init 35 = .ok (.return_, 1) := by decide +kernel
theorem dX5_isBright_0 : decode cX5_isBright 0 = .ok (.aload_n 0, 1) := by decide +kernel
theorem dX5_isBright_1 : decode cX5_isBright 1 = .ok (.getfield 24, 3) := by decide +kernel
theorem dX5_isBright_4 : decode cX5_isBright 4 = .ok (.ifCond .le 22, 3) := by decide +kernel
theorem dX5_isBright_7 : decode cX5_isBright 7 = .ok (.aload_n 0, 1) := by decide +kernel
theorem dX5_isBright_8 : decode cX5_isBright 8 = .ok (.getfield 9, 3) := by decide +kernel
theorem dX5_isBright_11 : decode cX5_isBright 11 = .ok (.iload_n 1, 1) := by decide +kernel
theorem dX5_isBright_12 : decode cX5_isBright 12 = .ok (.aload_n 0, 1) := by decide +kernel
theorem dX5_isBright_13 : decode cX5_isBright 13 = .ok (.getfield 24, 3) := by decide +kernel
theorem dX5_isBright_16 : decode cX5_isBright 16 = .ok (.irem, 1) := by decide +kernel
theorem dX5_isBright_17 : decode cX5_isBright 17 = .ok (.iaload, 1) := by decide +kernel
theorem dX5_isBright_18 : decode cX5_isBright 18 = .ok (.iconst 1, 1) := by decide +kernel
theorem dX5_isBright_19 : decode cX5_isBright 19 = .ok (.if_icmp .ne 7, 3) := by decide +kernel
theorem dX5_isBright_22 : decode cX5_isBright 22 = .ok (.iconst 1, 1) := by decide +kernel
theorem dX5_isBright_23 : decode cX5_isBright 23 = .ok (.goto 4, 3) := by decide +kernel
theorem dX5_isBright_26 : decode cX5_isBright 26 = .ok (.iconst 0, 1) := by decide +kernel
theorem dX5_isBright_27 : decode cX5_isBright 27 = .ok (.ireturn, 1) := by decide +kernel
theorem dX5_allSizes_0 : decode cX5_allSizes 0 = .ok (.iconst 0, 1) := by decide +kernel
theorem dX5_allSizes_1 : decode cX5_allSizes 1 = .ok (.istore_n 1, 1) := by decide +kernel
theorem dX5_allSizes_2 : decode cX5_allSizes 2 = .ok (.iconst 0, 1) := by decide +kernel
theorem dX5_allSizes_3 : decode cX5_allSizes 3 = .ok (.istore_n 2, 1) := by decide +kernel
theorem dX5_allSizes_4 : decode cX5_allSizes 4 = .ok (.iload_n 2, 1) := by decide +kernel
theorem dX5_allSizes_5 : decode cX5_allSizes 5 = .ok (.aload_n 0, 1) := by decide +kernel
theorem dX5_allSizes_6 : decode cX5_allSizes 6 = .ok (.getfield 28, 3) := by decide +kernel
theorem dX5_allSizes_9 : decode cX5_allSizes 9 = .ok (.if_icmp .ge 18, 3) := by decide +kernel
theorem dX5_allSizes_12 : decode cX5_allSizes 12 = .ok (.iload_n 1, 1) := by decide +kernel
theorem dX5_allSizes_13 : decode cX5_allSizes 13 = .ok (.aload_n 0, 1) := by decide +kernel
theorem dX5_allSizes_14 : decode cX5_allSizes 14 = .ok (.getfield 21, 3) := by decide +kernel
theorem dX5_allSizes_17 : decode cX5_allSizes 17 = .ok (.iload_n 2, 1) := by decide +kernel
theorem dX5_allSizes_18 : decode cX5_allSizes 18 = .ok (.iaload, 1) := by decide +kernel
theorem dX5_allSizes_19 : decode cX5_allSizes 19 = .ok (.iadd, 1) := by decide +kernel
theorem dX5_allSizes_20 : decode cX5_allSizes 20 = .ok (.istore_n 1, 1) := by decide +kernel
theorem dX5_allSizes_21 : decode cX5_allSizes 21 = .ok (.iinc 2 1, 3) := by decide +kernel
theorem dX5_allSizes_24 : decode cX5_allSizes 24 = .ok (.goto (-20), 3) := by decide +kernel
theorem dX5_allSizes_27 : decode cX5_allSizes 27 = .ok (.iload_n 1, 1) := by decide +kernel
theorem dX5_allSizes_28 : decode cX5_allSizes 28 = .ok (.ireturn, 1) := by decide +kernel
theorem dX5_countOf_0 : decode cX5_countOf 0 = .ok (.iconst 0, 1) := by decide +kernel
theorem dX5_countOf_1 : decode cX5_countOf 1 = .ok (.istore_n 2, 1) := by decide +kernel
theorem dX5_countOf_2 : decode cX5_countOf 2 = .ok (.iconst 0, 1) := by decide +kernel
theorem dX5_countOf_3 : decode cX5_countOf 3 = .ok (.istore_n 3, 1) := by decide +kernel
theorem dX5_countOf_4 : decode cX5_countOf 4 = .ok (.iload_n 3, 1) := by decide +kernel
theorem dX5_countOf_5 : decode cX5_countOf 5 = .ok (.aload_n 0, 1) := by decide +kernel
theorem dX5_countOf_6 : decode cX5_countOf 6 = .ok (.getfield 28, 3) := by decide +kernel
theorem dX5_countOf_9 : decode cX5_countOf 9 = .ok (.if_icmp .ge 25, 3) := by decide +kernel
theorem dX5_countOf_12 : decode cX5_countOf 12 = .ok (.aload_n 0, 1) := by decide +kernel
theorem dX5_countOf_13 : decode cX5_countOf 13 = .ok (.getfield 18, 3) := by decide +kernel
theorem dX5_countOf_16 : decode cX5_countOf 16 = .ok (.iload_n 3, 1) := by decide +kernel
theorem dX5_countOf_17 : decode cX5_countOf 17 = .ok (.iaload, 1) := by decide +kernel
theorem dX5_countOf_18 : decode cX5_countOf 18 = .ok (.iload_n 1, 1) := by decide +kernel
theorem dX5_countOf_19 : decode cX5_countOf 19 = .ok (.invokestatic 31, 3) := by decide +kernel
theorem dX5_countOf_22 : decode cX5_countOf 22 = .ok (.ifCond .eq 6, 3) := by decide +kernel
theorem dX5_countOf_25 : decode cX5_countOf 25 = .ok (.iinc 2 1, 3) := by decide +kernel
theorem dX5_countOf_28 : decode cX5_countOf 28 = .ok (.iinc 3 1, 3) := by decide +kernel
theorem dX5_countOf_31 : decode cX5_countOf 31 = .ok (.goto (-27), 3) := by decide +kernel
theorem dX5_countOf_34 : decode cX5_countOf 34 = .ok (.iload_n 2, 1) := by decide +kernel
theorem dX5_countOf_35 : decode cX5_countOf 35 = .ok (.ireturn, 1) := by decide +kernel
theorem dX5_lightBrought_0 : decode cX5_lightBrought 0 = .ok (.aload_n 0, 1) := by decide +kernel
theorem dX5_lightBrought_1 : decode cX5_lightBrought 1 = .ok (.getfield 21, 3) := by decide +kernel
theorem dX5_lightBrought_4 : decode cX5_lightBrought 4 = .ok (.iload_n 1, 1) := by decide +kernel
theorem dX5_lightBrought_5 : decode cX5_lightBrought 5 = .ok (.iaload, 1) := by decide +kernel
theorem dX5_lightBrought_6 : decode cX5_lightBrought 6 = .ok (.istore_n 3, 1) := by decide +kernel
theorem dX5_lightBrought_7 : decode cX5_lightBrought 7 = .ok (.iconst 0, 1) := by decide +kernel
theorem dX5_lightBrought_8 : decode cX5_lightBrought 8 = .ok (.istore 4, 2) := by decide +kernel
theorem dX5_lightBrought_10 : decode cX5_lightBrought 10 = .ok (.iload 4, 2) := by decide +kernel
theorem dX5_lightBrought_12 : decode cX5_lightBrought 12 = .ok (.iload_n 2, 1) := by decide +kernel
theorem dX5_lightBrought_13 : decode cX5_lightBrought 13 = .ok (.if_icmp .ge 23, 3) := by decide +kernel
theorem dX5_lightBrought_16 : decode cX5_lightBrought 16 = .ok (.iload_n 3, 1) := by decide +kernel
theorem dX5_lightBrought_17 : decode cX5_lightBrought 17 = .ok (.aload_n 0, 1) := by decide +kernel
theorem dX5_lightBrought_18 : decode cX5_lightBrought 18 = .ok (.getfield 18, 3) := by decide +kernel
theorem dX5_lightBrought_21 : decode cX5_lightBrought 21 = .ok (.iload_n 1, 1) := by decide +kernel
theorem dX5_lightBrought_22 : decode cX5_lightBrought 22 = .ok (.iaload, 1) := by decide +kernel
theorem dX5_lightBrought_23 : decode cX5_lightBrought 23 = .ok (.iload_n 3, 1) := by decide +kernel
theorem dX5_lightBrought_24 : decode cX5_lightBrought 24 = .ok (.iconst 0, 1) := by decide +kernel
theorem dX5_lightBrought_25 : decode cX5_lightBrought 25 = .ok (.invokestatic 37, 3) := by decide +kernel
theorem dX5_lightBrought_28 : decode cX5_lightBrought 28 = .ok (.isub, 1) := by decide +kernel
theorem dX5_lightBrought_29 : decode cX5_lightBrought 29 = .ok (.istore_n 3, 1) := by decide +kernel
theorem dX5_lightBrought_30 : decode cX5_lightBrought 30 = .ok (.iinc 4 1, 3) := by decide +kernel
theorem dX5_lightBrought_33 : decode cX5_lightBrought 33 = .ok (.goto (-23), 3) := by decide +kernel
theorem dX5_lightBrought_36 : decode cX5_lightBrought 36 = .ok (.iload_n 3, 1) := by decide +kernel
theorem dX5_lightBrought_37 : decode cX5_lightBrought 37 = .ok (.ireturn, 1) := by decide +kernel
theorem dX5_hoursBrought_0 : decode cX5_hoursBrought 0 = .ok (.aload_n 0, 1) := by decide +kernel
theorem dX5_hoursBrought_1 : decode cX5_hoursBrought 1 = .ok (.getfield 18, 3) := by decide +kernel
theorem dX5_hoursBrought_4 : decode cX5_hoursBrought 4 = .ok (.iload_n 1, 1) := by decide +kernel
theorem dX5_hoursBrought_5 : decode cX5_hoursBrought 5 = .ok (.iaload, 1) := by decide +kernel
theorem dX5_hoursBrought_6 : decode cX5_hoursBrought 6 = .ok (.aload_n 0, 1) := by decide +kernel
theorem dX5_hoursBrought_7 : decode cX5_hoursBrought 7 = .ok (.iload_n 1, 1) := by decide +kernel
theorem dX5_hoursBrought_8 : decode cX5_hoursBrought 8 = .ok (.iload_n 2, 1) := by decide +kernel
theorem dX5_hoursBrought_9 : decode cX5_hoursBrought 9 = .ok (.invokevirtual 41, 3) := by decide +kernel
theorem dX5_hoursBrought_12 : decode cX5_hoursBrought 12 = .ok (.invokestatic 45, 3) := by decide +kernel
theorem dX5_hoursBrought_15 : decode cX5_hoursBrought 15 = .ok (.ireturn, 1) := by decide +kernel
theorem dX5_hoursOfSet_0 : decode cX5_hoursOfSet 0 = .ok (.iconst 0, 1) := by decide +kernel
theorem dX5_hoursOfSet_1 : decode cX5_hoursOfSet 1 = .ok (.istore_n 3, 1) := by decide +kernel
theorem dX5_hoursOfSet_2 : decode cX5_hoursOfSet 2 = .ok (.iconst 0, 1) := by decide +kernel
theorem dX5_hoursOfSet_3 : decode cX5_hoursOfSet 3 = .ok (.istore 4, 2) := by decide +kernel
theorem dX5_hoursOfSet_5 : decode cX5_hoursOfSet 5 = .ok (.iload 4, 2) := by decide +kernel
theorem dX5_hoursOfSet_7 : decode cX5_hoursOfSet 7 = .ok (.aload_n 0, 1) := by decide +kernel
theorem dX5_hoursOfSet_8 : decode cX5_hoursOfSet 8 = .ok (.getfield 28, 3) := by decide +kernel
theorem dX5_hoursOfSet_11 : decode cX5_hoursOfSet 11 = .ok (.if_icmp .ge 29, 3) := by decide +kernel
theorem dX5_hoursOfSet_14 : decode cX5_hoursOfSet 14 = .ok (.iload_n 1, 1) := by decide +kernel
theorem dX5_hoursOfSet_15 : decode cX5_hoursOfSet 15 = .ok (.iload 4, 2) := by decide +kernel
theorem dX5_hoursOfSet_17 : decode cX5_hoursOfSet 17 = .ok (.ishr, 1) := by decide +kernel
theorem dX5_hoursOfSet_18 : decode cX5_hoursOfSet 18 = .ok (.iconst 1, 1) := by decide +kernel
theorem dX5_hoursOfSet_19 : decode cX5_hoursOfSet 19 = .ok (.iand, 1) := by decide +kernel
theorem dX5_hoursOfSet_20 : decode cX5_hoursOfSet 20 = .ok (.iconst 1, 1) := by decide +kernel
theorem dX5_hoursOfSet_21 : decode cX5_hoursOfSet 21 = .ok (.if_icmp .ne 13, 3) := by decide +kernel
theorem dX5_hoursOfSet_24 : decode cX5_hoursOfSet 24 = .ok (.iload_n 3, 1) := by decide +kernel
theorem dX5_hoursOfSet_25 : decode cX5_hoursOfSet 25 = .ok (.aload_n 0, 1) := by decide +kernel
theorem dX5_hoursOfSet_26 : decode cX5_hoursOfSet 26 = .ok (.iload 4, 2) := by decide +kernel
theorem dX5_hoursOfSet_28 : decode cX5_hoursOfSet 28 = .ok (.iload_n 2, 1) := by decide +kernel
theorem dX5_hoursOfSet_29 : decode cX5_hoursOfSet 29 = .ok (.invokevirtual 48, 3) := by decide +kernel
theorem dX5_hoursOfSet_32 : decode cX5_hoursOfSet 32 = .ok (.iadd, 1) := by decide +kernel
theorem dX5_hoursOfSet_33 : decode cX5_hoursOfSet 33 = .ok (.istore_n 3, 1) := by decide +kernel
theorem dX5_hoursOfSet_34 : decode cX5_hoursOfSet 34 = .ok (.iinc 4 1, 3) := by decide +kernel
theorem dX5_hoursOfSet_37 : decode cX5_hoursOfSet 37 = .ok (.goto (-32), 3) := by decide +kernel
theorem dX5_hoursOfSet_40 : decode cX5_hoursOfSet 40 = .ok (.iload_n 3, 1) := by decide +kernel
theorem dX5_hoursOfSet_41 : decode cX5_hoursOfSet 41 = .ok (.ireturn, 1) := by decide +kernel
theorem dX6_init_0 : decode cX6_init 0 = .ok (.aload_n 0, 1) := by decide +kernel
theorem dX6_init_1 : decode cX6_init 1 = .ok (.invokespecial 5, 3) := by decide +kernel
theorem dX6_init_4 : decode cX6_init 4 = .ok (.aload_n 0, 1) := by decide +kernel
theorem dX6_init_5 : decode cX6_init 5 = .ok (.sipush 9261, 3) := by decide +kernel
theorem dX6_init_8 : decode cX6_init 8 = .ok (.newarray .int, 2) := by decide +kernel
theorem dX6_init_10 : decode cX6_init 10 = .ok (.putfield 11, 3) := by decide +kernel
theorem dX6_init_13 : decode cX6_init 13 = .ok (.aload_n 0, 1) := by decide +kernel
theorem dX6_init_14 : decode cX6_init 14 = .ok (.sipush 9261, 3) := by decide +kernel
theorem dX6_init_17 : decode cX6_init 17 = .ok (.newarray .int, 2) := by decide +kernel
theorem dX6_init_19 : decode cX6_init 19 = .ok (.putfield 15, 3) := by decide +kernel
theorem dX6_init_22 : decode cX6_init 22 = .ok (.aload_n 0, 1) := by decide +kernel
theorem dX6_init_23 : decode cX6_init 23 = .ok (.sipush 9261, 3) := by decide +kernel
theorem dX6_init_26 : decode cX6_init 26 = .ok (.newarray .int, 2) := by decide +kernel
theorem dX6_init_28 : decode cX6_init 28 = .ok (.putfield 18, 3) := by decide +kernel
theorem dX6_init_31 : decode cX6_init 31 = .ok (.aload_n 0, 1) := by decide +kernel
theorem dX6_init_32 : decode cX6_init 32 = .ok (.iconst 3, 1) := by decide +kernel
theorem dX6_init_33 : decode cX6_init 33 = .ok (.newarray .int, 2) := by decide +kernel
theorem dX6_init_35 : decode cX6_init 35 = .ok (.putfield 21, 3) := by decide +kernel
theorem dX6_init_38 : decode cX6_init 38 = .ok (.aload_n 0, 1) := by decide +kernel
theorem dX6_init_39 : decode cX6_init 39 = .ok (.iconst 3, 1) := by decide +kernel
theorem dX6_init_40 : decode cX6_init 40 = .ok (.newarray .int, 2) := by decide +kernel
theorem dX6_init_42 : decode cX6_init 42 = .ok (.putfield 24, 3) := by decide +kernel
theorem dX6_init_45 : decode cX6_init 45 = .ok (.return_, 1) := by decide +kernel
theorem dX6_explore_0 : decode cX6_explore 0 = .ok (.aload_n 0, 1) := by decide +kernel
theorem dX6_explore_1 : decode cX6_explore 1 = .ok (.dup, 1) := by decide +kernel
theorem dX6_explore_2 : decode cX6_explore 2 = .ok (.getfield 27, 3) := by decide +kernel
theorem dX6_explore_5 : decode cX6_explore 5 = .ok (.iconst 1, 1) := by decide +kernel
theorem dX6_explore_6 : decode cX6_explore 6 = .ok (.iadd, 1) := by decide +kernel
theorem dX6_explore_7 : decode cX6_explore 7 = .ok (.putfield 27, 3) := by decide +kernel
theorem dX6_explore_10 : decode cX6_explore 10 = .ok (.aload_n 0, 1) := by decide +kernel
theorem dX6_explore_11 : decode cX6_explore 11 = .ok (.iconst 0, 1) := by decide +kernel
theorem dX6_explore_12 : decode cX6_explore 12 = .ok (.putfield 31, 3) := by decide +kernel
theorem dX6_explore_15 : decode cX6_explore 15 = .ok (.aload_n 0, 1) := by decide +kernel
theorem dX6_explore_16 : decode cX6_explore 16 = .ok (.aload_n 0, 1) := by decide +kernel
theorem dX6_explore_17 : decode cX6_explore 17 = .ok (.aload_n 1, 1) := by decide +kernel
theorem dX6_explore_18 : decode cX6_explore 18 = .ok (.aload_n 2, 1) := by decide +kernel
theorem dX6_explore_19 : decode cX6_explore 19 = .ok (.iload_n 3, 1) := by decide +kernel
theorem dX6_explore_20 : decode cX6_explore 20 = .ok (.invokevirtual 34, 3) := by decide +kernel
theorem dX6_explore_23 : decode cX6_explore 23 = .ok (.iconst 0, 1) := by decide +kernel
theorem dX6_explore_24 : decode cX6_explore 24 = .ok (.iconst 0, 1) := by decide +kernel
theorem dX6_explore_25 : decode cX6_explore 25 = .ok (.invokevirtual 38, 3) := by decide +kernel
theorem dX6_explore_28 : decode cX6_explore 28 = .ok (.iconst 0, 1) := by decide +kernel
theorem dX6_explore_29 : decode cX6_explore 29 = .ok (.istore 4, 2) := by decide +kernel
theorem dX6_explore_31 : decode cX6_explore 31 = .ok (.iload 4, 2) := by decide +kernel
theorem dX6_explore_33 : decode cX6_explore 33 = .ok (.aload_n 0, 1) := by decide +kernel
theorem dX6_explore_34 : decode cX6_explore 34 = .ok (.getfield 31, 3) := by decide +kernel
theorem dX6_explore_37 : decode cX6_explore 37 = .ok (.if_icmp .ge 23, 3) := by decide +kernel
theorem dX6_explore_40 : decode cX6_explore 40 = .ok (.iload 4, 2) := by decide +kernel
theorem dX6_explore_42 : decode cX6_explore 42 = .ok (.sipush 9261, 3) := by decide +kernel
theorem dX6_explore_45 : decode cX6_explore 45 = .ok (.if_icmp .ge 15, 3) := by decide +kernel
theorem dX6_explore_48 : decode cX6_explore 48 = .ok (.aload_n 0, 1) := by decide +kernel
theorem dX6_explore_49 : decode cX6_explore 49 = .ok (.iload 4, 2) := by decide +kernel
theorem dX6_explore_51 : decode cX6_explore 51 = .ok (.invokevirtual 42, 3) := by decide +kernel
theorem dX6_explore_54 : decode cX6_explore 54 = .ok (.iinc 4 1, 3) := by decide +kernel
theorem dX6_explore_57 : decode cX6_explore 57 = .ok (.goto (-26), 3) := by decide +kernel
theorem dX6_explore_60 : decode cX6_explore 60 = .ok (.return_, 1) := by decide +kernel
theorem dX6_firstWith_0 : decode cX6_firstWith 0 = .ok (.aload_n 0, 1) := by decide +kernel
theorem dX6_firstWith_1 : decode cX6_firstWith 1 = .ok (.iload_n 1, 1) := by decide +kernel
theorem dX6_firstWith_2 : decode cX6_firstWith 2 = .ok (.invokevirtual 46, 3) := by decide +kernel
theorem dX6_firstWith_5 : decode cX6_firstWith 5 = .ok (.istore_n 3, 1) := by decide +kernel
theorem dX6_firstWith_6 : decode cX6_firstWith 6 = .ok (.iconst 0, 1) := by decide +kernel
theorem dX6_firstWith_7 : decode cX6_firstWith 7 = .ok (.istore 4, 2) := by decide +kernel
theorem dX6_firstWith_9 : decode cX6_firstWith 9 = .ok (.iload 4, 2) := by decide +kernel
theorem dX6_firstWith_11 : decode cX6_firstWith 11 = .ok (.aload_n 0, 1) := by decide +kernel
theorem dX6_firstWith_12 : decode cX6_firstWith 12 = .ok (.getfield 31, 3) := by decide +kernel
theorem dX6_firstWith_15 : decode cX6_firstWith 15 = .ok (.if_icmp .ge 27, 3) := by decide +kernel
theorem dX6_firstWith_18 : decode cX6_firstWith 18 = .ok (.aload_n 0, 1) := by decide +kernel
theorem dX6_firstWith_19 : decode cX6_firstWith 19 = .ok (.getfield 11, 3) := by decide +kernel
theorem dX6_firstWith_22 : decode cX6_firstWith 22 = .ok (.iload 4, 2) := by decide +kernel
theorem dX6_firstWith_24 : decode cX6_firstWith 24 = .ok (.iaload, 1) := by decide +kernel
theorem dX6_firstWith_25 : decode cX6_firstWith 25 = .ok (.iload_n 3, 1) := by decide +kernel
theorem dX6_firstWith_26 : decode cX6_firstWith 26 = .ok (.invokestatic 50, 3) := by decide +kernel
theorem dX6_firstWith_29 : decode cX6_firstWith 29 = .ok (.iload_n 2, 1) := by decide +kernel
theorem dX6_firstWith_30 : decode cX6_firstWith 30 = .ok (.if_icmp .ne 6, 3) := by decide +kernel
theorem dX6_firstWith_33 : decode cX6_firstWith 33 = .ok (.iload 4, 2) := by decide +kernel
theorem dX6_firstWith_35 : decode cX6_firstWith 35 = .ok (.ireturn, 1) := by decide +kernel
theorem dX6_firstWith_36 : decode cX6_firstWith 36 = .ok (.iinc 4 1, 3) := by decide +kernel
theorem dX6_firstWith_39 : decode cX6_firstWith 39 = .ok (.goto (-30), 3) := by decide +kernel
theorem dX6_firstWith_42 : decode cX6_firstWith 42 = .ok (.bipush (-9), 2) := by decide +kernel
theorem dX6_firstWith_44 : decode cX6_firstWith 44 = .ok (.ireturn, 1) := by decide +kernel
theorem dX6_steps_0 : decode cX6_steps 0 = .ok (.iconst 0, 1) := by decide +kernel
theorem dX6_steps_1 : decode cX6_steps 1 = .ok (.istore_n 2, 1) := by decide +kernel
theorem dX6_steps_2 : decode cX6_steps 2 = .ok (.iload_n 1, 1) := by decide +kernel
theorem dX6_steps_3 : decode cX6_steps 3 = .ok (.istore_n 3, 1) := by decide +kernel
theorem dX6_steps_4 : decode cX6_steps 4 = .ok (.iload_n 3, 1) := by decide +kernel
theorem dX6_steps_5 : decode cX6_steps 5 = .ok (.ifCond .le 26, 3) := by decide +kernel
theorem dX6_steps_8 : decode cX6_steps 8 = .ok (.iload_n 2, 1) := by decide +kernel
theorem dX6_steps_9 : decode cX6_steps 9 = .ok (.sipush 9261, 3) := by decide +kernel
theorem dX6_steps_12 : decode cX6_steps 12 = .ok (.if_icmp .ge 19, 3) := by decide +kernel
theorem dX6_steps_15 : decode cX6_steps 15 = .ok (.iinc 2 1, 3) := by decide +kernel
theorem dX6_steps_18 : decode cX6_steps 18 = .ok (.aload_n 0, 1) := by decide +kernel
theorem dX6_steps_19 : decode cX6_steps 19 = .ok (.getfield 15, 3) := by decide +kernel
theorem dX6_steps_22 : decode cX6_steps 22 = .ok (.iload_n 3, 1) := by decide +kernel
theorem dX6_steps_23 : decode cX6_steps 23 = .ok (.iaload, 1) := by decide +kernel
theorem dX6_steps_24 : decode cX6_steps 24 = .ok (.bipush 36, 2) := by decide +kernel
theorem dX6_steps_26 : decode cX6_steps 26 = .ok (.idiv, 1) := by decide +kernel
theorem dX6_steps_27 : decode cX6_steps 27 = .ok (.istore_n 3, 1) := by decide +kernel
theorem dX6_steps_28 : decode cX6_steps 28 = .ok (.goto (-24), 3) := by decide +kernel
theorem dX6_steps_31 : decode cX6_steps 31 = .ok (.iload_n 2, 1) := by decide +kernel
theorem dX6_steps_32 : decode cX6_steps 32 = .ok (.ireturn, 1) := by decide +kernel
theorem dX6_spilt_0 : decode cX6_spilt 0 = .ok (.aload_n 0, 1) := by decide +kernel
theorem dX6_spilt_1 : decode cX6_spilt 1 = .ok (.getfield 11, 3) := by decide +kernel
theorem dX6_spilt_4 : decode cX6_spilt 4 = .ok (.iconst 0, 1) := by decide +kernel
theorem dX6_spilt_5 : decode cX6_spilt 5 = .ok (.iaload, 1) := by decide +kernel
theorem dX6_spilt_6 : decode cX6_spilt 6 = .ok (.invokestatic 54, 3) := by decide +kernel
theorem dX6_spilt_9 : decode cX6_spilt 9 = .ok (.aload_n 0, 1) := by decide +kernel
theorem dX6_spilt_10 : decode cX6_spilt 10 = .ok (.getfield 11, 3) := by decide +kernel
theorem dX6_spilt_13 : decode cX6_spilt 13 = .ok (.iload_n 1, 1) := by decide +kernel
theorem dX6_spilt_14 : decode cX6_spilt 14 = .ok (.iaload, 1) := by decide +kernel
theorem dX6_spilt_15 : decode cX6_spilt 15 = .ok (.invokestatic 54, 3) := by decide +kernel
theorem dX6_spilt_18 : decode cX6_spilt 18 = .ok (.isub, 1) := by decide +kernel
theorem dX6_spilt_19 : decode cX6_spilt 19 = .ok (.ireturn, 1) := by decide +kernel
theorem dX6_writeWay_0 : decode cX6_writeWay 0 = .ok (.aload_n 3, 1) := by decide +kernel
theorem dX6_writeWay_1 : decode cX6_writeWay 1 = .ok (.iload_n 2, 1) := by decide +kernel
theorem dX6_writeWay_2 : decode cX6_writeWay 2 = .ok (.iconst 0, 1) := by decide +kernel
theorem dX6_writeWay_3 : decode cX6_writeWay 3 = .ok (.invokevirtual 57, 3) := by decide +kernel
theorem dX6_writeWay_6 : decode cX6_writeWay 6 = .ok (.iload_n 2, 1) := by decide +kernel
theorem dX6_writeWay_7 : decode cX6_writeWay 7 = .ok (.iconst 1, 1) := by decide +kernel
theorem dX6_writeWay_8 : decode cX6_writeWay 8 = .ok (.isub, 1) := by decide +kernel
theorem dX6_writeWay_9 : decode cX6_writeWay 9 = .ok (.istore 4, 2) := by decide +kernel
theorem dX6_writeWay_11 : decode cX6_writeWay 11 = .ok (.iload_n 1, 1) := by decide +kernel
theorem dX6_writeWay_12 : decode cX6_writeWay 12 = .ok (.istore 5, 2) := by decide +kernel
theorem dX6_writeWay_14 : decode cX6_writeWay 14 = .ok (.iload 5, 2) := by decide +kernel
theorem dX6_writeWay_16 : decode cX6_writeWay 16 = .ok (.ifCond .le 43, 3) := by decide +kernel
theorem dX6_writeWay_19 : decode cX6_writeWay 19 = .ok (.iload 4, 2) := by decide +kernel
theorem dX6_writeWay_21 : decode cX6_writeWay 21 = .ok (.ifCond .lt 38, 3) := by decide +kernel
theorem dX6_writeWay_24 : decode cX6_writeWay 24 = .ok (.aload_n 3, 1) := by decide +kernel
theorem dX6_writeWay_25 : decode cX6_writeWay 25 = .ok (.getfield 63, 3) := by decide +kernel
theorem dX6_writeWay_28 : decode cX6_writeWay 28 = .ok (.iload 4, 2) := by decide +kernel
theorem dX6_writeWay_30 : decode cX6_writeWay 30 = .ok (.aload_n 0, 1) := by decide +kernel
theorem dX6_writeWay_31 : decode cX6_writeWay 31 = .ok (.getfield 15, 3) := by decide +kernel
theorem dX6_writeWay_34 : decode cX6_writeWay 34 = .ok (.iload 5, 2) := by decide +kernel
theorem dX6_writeWay_36 : decode cX6_writeWay 36 = .ok (.iaload, 1) := by decide +kernel
theorem dX6_writeWay_37 : decode cX6_writeWay 37 = .ok (.bipush 36, 2) := by decide +kernel
theorem dX6_writeWay_39 : decode cX6_writeWay 39 = .ok (.irem, 1) := by decide +kernel
theorem dX6_writeWay_40 : decode cX6_writeWay 40 = .ok (.iastore, 1) := by decide +kernel
theorem dX6_writeWay_41 : decode cX6_writeWay 41 = .ok (.iinc 4 (-1), 3) := by decide +kernel
theorem dX6_writeWay_44 : decode cX6_writeWay 44 = .ok (.aload_n 0, 1) := by decide +kernel
theorem dX6_writeWay_45 : decode cX6_writeWay 45 = .ok (.getfield 15, 3) := by decide +kernel
theorem dX6_writeWay_48 : decode cX6_writeWay 48 = .ok (.iload 5, 2) := by decide +kernel
theorem dX6_writeWay_50 : decode cX6_writeWay 50 = .ok (.iaload, 1) := by decide +kernel
theorem dX6_writeWay_51 : decode cX6_writeWay 51 = .ok (.bipush 36, 2) := by decide +kernel
theorem dX6_writeWay_53 : decode cX6_writeWay 53 = .ok (.idiv, 1) := by decide +kernel
theorem dX6_writeWay_54 : decode cX6_writeWay 54 = .ok (.istore 5, 2) := by decide +kernel
theorem dX6_writeWay_56 : decode cX6_writeWay 56 = .ok (.goto (-42), 3) := by decide +kernel
theorem dX6_writeWay_59 : decode cX6_writeWay 59 = .ok (.return_, 1) := by decide +kernel
theorem dX6_leastSpilt_0 : decode cX6_leastSpilt 0 = .ok (.aload_n 0, 1) := by decide +kernel
theorem dX6_leastSpilt_1 : decode cX6_leastSpilt 1 = .ok (.iload_n 1, 1) := by decide +kernel
theorem dX6_leastSpilt_2 : decode cX6_leastSpilt 2 = .ok (.invokevirtual 46, 3) := by decide +kernel
theorem dX6_leastSpilt_5 : decode cX6_leastSpilt 5 = .ok (.istore_n 3, 1) := by decide +kernel
theorem dX6_leastSpilt_6 : decode cX6_leastSpilt 6 = .ok (.bipush (-9), 2) := by decide +kernel
theorem dX6_leastSpilt_8 : decode cX6_leastSpilt 8 = .ok (.istore 4, 2) := by decide +kernel
theorem dX6_leastSpilt_10 : decode cX6_leastSpilt 10 = .ok (.iconst 0, 1) := by decide +kernel
theorem dX6_leastSpilt_11 : decode cX6_leastSpilt 11 = .ok (.istore 5, 2) := by decide +kernel
theorem dX6_leastSpilt_13 : decode cX6_leastSpilt 13 = .ok (.iload 5, 2) := by decide +kernel
theorem dX6_leastSpilt_15 : decode cX6_leastSpilt 15 = .ok (.aload_n 0, 1) := by decide +kernel
theorem dX6_leastSpilt_16 : decode cX6_leastSpilt 16 = .ok (.getfield 31, 3) := by decide +kernel
theorem dX6_leastSpilt_19 : decode cX6_leastSpilt 19 = .ok (.if_icmp .ge 50, 3) := by decide +kernel
theorem dX6_leastSpilt_22 : decode cX6_leastSpilt 22 = .ok (.aload_n 0, 1) := by decide +kernel
theorem dX6_leastSpilt_23 : decode cX6_leastSpilt 23 = .ok (.getfield 11, 3) := by decide +kernel
theorem dX6_leastSpilt_26 : decode cX6_leastSpilt 26 = .ok (.iload 5, 2) := by decide +kernel
theorem dX6_leastSpilt_28 : decode cX6_leastSpilt 28 = .ok (.iaload, 1) := by decide +kernel
theorem dX6_leastSpilt_29 : decode cX6_leastSpilt 29 = .ok (.iload_n 3, 1) := by decide +kernel
theorem dX6_leastSpilt_30 : decode cX6_leastSpilt 30 = .ok (.invokestatic 50, 3) := by decide +kernel
theorem dX6_leastSpilt_33 : decode cX6_leastSpilt 33 = .ok (.iload_n 2, 1) := by decide +kernel
theorem dX6_leastSpilt_34 : decode cX6_leastSpilt 34 = .ok (.if_icmp .ne 29, 3) := by decide +kernel
theorem dX6_leastSpilt_37 : decode cX6_leastSpilt 37 = .ok (.iload 4, 2) := by decide +kernel
theorem dX6_leastSpilt_39 : decode cX6_leastSpilt 39 = .ok (.bipush (-9), 2) := by decide +kernel
theorem dX6_leastSpilt_41 : decode cX6_leastSpilt 41 = .ok (.if_icmp .eq 14, 3) := by decide +kernel
theorem dX6_leastSpilt_44 : decode cX6_leastSpilt 44 = .ok (.aload_n 0, 1) := by decide +kernel
theorem dX6_leastSpilt_45 : decode cX6_leastSpilt 45 = .ok (.iload 5, 2) := by decide +kernel
theorem dX6_leastSpilt_47 : decode cX6_leastSpilt 47 = .ok (.invokevirtual 66, 3) := by decide +kernel
theorem dX6_leastSpilt_50 : decode cX6_leastSpilt 50 = .ok (.iload 4, 2) := by decide +kernel
theorem dX6_leastSpilt_52 : decode cX6_leastSpilt 52 = .ok (.if_icmp .ge 11, 3) := by decide +kernel
theorem dX6_leastSpilt_55 : decode cX6_leastSpilt 55 = .ok (.aload_n 0, 1) := by decide +kernel
theorem dX6_leastSpilt_56 : decode cX6_leastSpilt 56 = .ok (.iload 5, 2) := by decide +kernel
theorem dX6_leastSpilt_58 : decode cX6_leastSpilt 58 = .ok (.invokevirtual 66, 3) := by decide +kernel
theorem dX6_leastSpilt_61 : decode cX6_leastSpilt 61 = .ok (.istore 4, 2) := by decide +kernel
theorem dX6_leastSpilt_63 : decode cX6_leastSpilt 63 = .ok (.iinc 5 1, 3) := by decide +kernel
theorem dX6_leastSpilt_66 : decode cX6_leastSpilt 66 = .ok (.goto (-53), 3) := by decide +kernel
theorem dX6_leastSpilt_69 : decode cX6_leastSpilt 69 = .ok (.iload 4, 2) := by decide +kernel
theorem dX6_leastSpilt_71 : decode cX6_leastSpilt 71 = .ok (.ireturn, 1) := by decide +kernel
theorem dX6_mostIn_0 : decode cX6_mostIn 0 = .ok (.aload_n 0, 1) := by decide +kernel
theorem dX6_mostIn_1 : decode cX6_mostIn 1 = .ok (.iload_n 1, 1) := by decide +kernel
theorem dX6_mostIn_2 : decode cX6_mostIn 2 = .ok (.invokevirtual 46, 3) := by decide +kernel
theorem dX6_mostIn_5 : decode cX6_mostIn 5 = .ok (.istore_n 2, 1) := by decide +kernel
theorem dX6_mostIn_6 : decode cX6_mostIn 6 = .ok (.iconst 0, 1) := by decide +kernel
theorem dX6_mostIn_7 : decode cX6_mostIn 7 = .ok (.istore_n 3, 1) := by decide +kernel
theorem dX6_mostIn_8 : decode cX6_mostIn 8 = .ok (.iconst 0, 1) := by decide +kernel
theorem dX6_mostIn_9 : decode cX6_mostIn 9 = .ok (.istore 4, 2) := by decide +kernel
theorem dX6_mostIn_11 : decode cX6_mostIn 11 = .ok (.iload 4, 2) := by decide +kernel
theorem dX6_mostIn_13 : decode cX6_mostIn 13 = .ok (.aload_n 0, 1) := by decide +kernel
theorem dX6_mostIn_14 : decode cX6_mostIn 14 = .ok (.getfield 31, 3) := by decide +kernel
theorem dX6_mostIn_17 : decode cX6_mostIn 17 = .ok (.if_icmp .ge 25, 3) := by decide +kernel
theorem dX6_mostIn_20 : decode cX6_mostIn 20 = .ok (.iload_n 3, 1) := by decide +kernel
theorem dX6_mostIn_21 : decode cX6_mostIn 21 = .ok (.aload_n 0, 1) := by decide +kernel
theorem dX6_mostIn_22 : decode cX6_mostIn 22 = .ok (.getfield 11, 3) := by decide +kernel
theorem dX6_mostIn_25 : decode cX6_mostIn 25 = .ok (.iload 4, 2) := by decide +kernel
theorem dX6_mostIn_27 : decode cX6_mostIn 27 = .ok (.iaload, 1) := by decide +kernel
theorem dX6_mostIn_28 : decode cX6_mostIn 28 = .ok (.iload_n 2, 1) := by decide +kernel
theorem dX6_mostIn_29 : decode cX6_mostIn 29 = .ok (.invokestatic 50, 3) := by decide +kernel
theorem dX6_mostIn_32 : decode cX6_mostIn 32 = .ok (.invokestatic 69, 3) := by decide +kernel
theorem dX6_mostIn_35 : decode cX6_mostIn 35 = .ok (.istore_n 3, 1) := by decide +kernel
theorem dX6_mostIn_36 : decode cX6_mostIn 36 = .ok (.iinc 4 1, 3) := by decide +kernel
theorem dX6_mostIn_39 : decode cX6_mostIn 39 = .ok (.goto (-28), 3) := by decide +kernel
theorem dX6_mostIn_42 : decode cX6_mostIn 42 = .ok (.iload_n 3, 1) := by decide +kernel
theorem dX6_mostIn_43 : decode cX6_mostIn 43 = .ok (.ireturn, 1) := by decide +kernel
theorem dX6_gather_0 : decode cX6_gather 0 = .ok (.iconst 0, 1) := by decide +kernel
theorem dX6_gather_1 : decode cX6_gather 1 = .ok (.istore 4, 2) := by decide +kernel
theorem dX6_gather_3 : decode cX6_gather 3 = .ok (.aload_n 0, 1) := by decide +kernel
theorem dX6_gather_4 : decode cX6_gather 4 = .ok (.iconst 0, 1) := by decide +kernel
theorem dX6_gather_5 : decode cX6_gather 5 = .ok (.putfield 74, 3) := by decide +kernel
theorem dX6_gather_8 : decode cX6_gather 8 = .ok (.iconst 0, 1) := by decide +kernel
theorem dX6_gather_9 : decode cX6_gather 9 = .ok (.istore 5, 2) := by decide +kernel
theorem dX6_gather_11 : decode cX6_gather 11 = .ok (.iload 5, 2) := by decide +kernel
theorem dX6_gather_13 : decode cX6_gather 13 = .ok (.aload_n 1, 1) := by decide +kernel
theorem dX6_gather_14 : decode cX6_gather 14 = .ok (.getfield 77, 3) := by decide +kernel
theorem dX6_gather_17 : decode cX6_gather 17 = .ok (.if_icmp .ge 86, 3) := by decide +kernel
theorem dX6_gather_20 : decode cX6_gather 20 = .ok (.aload_n 2, 1) := by decide +kernel
theorem dX6_gather_21 : decode cX6_gather 21 = .ok (.getfield 80, 3) := by decide +kernel
theorem dX6_gather_24 : decode cX6_gather 24 = .ok (.iload 5, 2) := by decide +kernel
theorem dX6_gather_26 : decode cX6_gather 26 = .ok (.iaload, 1) := by decide +kernel
theorem dX6_gather_27 : decode cX6_gather 27 = .ok (.iload_n 3, 1) := by decide +kernel
theorem dX6_gather_28 : decode cX6_gather 28 = .ok (.if_icmp .ne 69, 3) := by decide +kernel
theorem dX6_gather_31 : decode cX6_gather 31 = .ok (.aload_n 0, 1) := by decide +kernel
theorem dX6_gather_32 : decode cX6_gather 32 = .ok (.getfield 74, 3) := by decide +kernel
theorem dX6_gather_35 : decode cX6_gather 35 = .ok (.iconst 3, 1) := by decide +kernel
theorem dX6_gather_36 : decode cX6_gather 36 = .ok (.if_icmp .ge 61, 3) := by decide +kernel
theorem dX6_gather_39 : decode cX6_gather 39 = .ok (.aload_n 0, 1) := by decide +kernel
theorem dX6_gather_40 : decode cX6_gather 40 = .ok (.getfield 21, 3) := by decide +kernel
theorem dX6_gather_43 : decode cX6_gather 43 = .ok (.aload_n 0, 1) := by decide +kernel
theorem dX6_gather_44 : decode cX6_gather 44 = .ok (.getfield 74, 3) := by decide +kernel
theorem dX6_gather_47 : decode cX6_gather 47 = .ok (.iload 5, 2) := by decide +kernel
theorem dX6_gather_49 : decode cX6_gather 49 = .ok (.iastore, 1) := by decide +kernel
theorem dX6_gather_50 : decode cX6_gather 50 = .ok (.aload_n 0, 1) := by decide +kernel
theorem dX6_gather_51 : decode cX6_gather 51 = .ok (.getfield 24, 3) := by decide +kernel
theorem dX6_gather_54 : decode cX6_gather 54 = .ok (.aload_n 0, 1) := by decide +kernel
theorem dX6_gather_55 : decode cX6_gather 55 = .ok (.getfield 74, 3) := by decide +kernel
theorem dX6_gather_58 : decode cX6_gather 58 = .ok (.aload_n 1, 1) := by decide +kernel
theorem dX6_gather_59 : decode cX6_gather 59 = .ok (.getfield 85, 3) := by decide +kernel
theorem dX6_gather_62 : decode cX6_gather 62 = .ok (.iload 5, 2) := by decide +kernel
theorem dX6_gather_64 : decode cX6_gather 64 = .ok (.iaload, 1) := by decide +kernel
theorem dX6_gather_65 : decode cX6_gather 65 = .ok (.iastore, 1) := by decide +kernel
theorem dX6_gather_66 : decode cX6_gather 66 = .ok (.iload 4, 2) := by decide +kernel
theorem dX6_gather_68 : decode cX6_gather 68 = .ok (.aload_n 2, 1) := by decide +kernel
theorem dX6_gather_69 : decode cX6_gather 69 = .ok (.getfield 86, 3) := by decide +kernel
theorem dX6_gather_72 : decode cX6_gather 72 = .ok (.iload 5, 2) := by decide +kernel
theorem dX6_gather_74 : decode cX6_gather 74 = .ok (.iaload, 1) := by decide +kernel
theorem dX6_gather_75 : decode cX6_gather 75 = .ok (.getstatic 89, 3) := by decide +kernel
theorem dX6_gather_78 : decode cX6_gather 78 = .ok (.aload_n 0, 1) := by decide +kernel
