theorem dX11_leakNow_10 : decode cX11_leakNow 10 = .ok (.iconst 0, 1) := by decide +kernel
theorem dX11_leakNow_11 : decode cX11_leakNow 11 = .ok (.iload_n 1, 1) := by decide +kernel
theorem dX11_leakNow_12 : decode cX11_leakNow 12 = .ok (.iadd, 1) := by decide +kernel
theorem dX11_leakNow_13 : decode cX11_leakNow 13 = .ok (.iaload, 1) := by decide +kernel
theorem dX11_leakNow_14 : decode cX11_leakNow 14 = .ok (.aload_n 0, 1) := by decide +kernel
theorem dX11_leakNow_15 : decode cX11_leakNow 15 = .ok (.getfield 53, 3) := by decide +kernel
theorem dX11_leakNow_18 : decode cX11_leakNow 18 = .ok (.bipush 12, 2) := by decide +kernel
theorem dX11_leakNow_20 : decode cX11_leakNow 20 = .ok (.iload_n 1, 1) := by decide +kernel
theorem dX11_leakNow_21 : decode cX11_leakNow 21 = .ok (.iadd, 1) := by decide +kernel
theorem dX11_leakNow_22 : decode cX11_leakNow 22 = .ok (.iaload, 1) := by decide +kernel
theorem dX11_leakNow_23 : decode cX11_leakNow 23 = .ok (.iconst 1, 1) := by decide +kernel
theorem dX11_leakNow_24 : decode cX11_leakNow 24 = .ok (.if_icmp .ne 7, 3) := by decide +kernel
theorem dX11_leakNow_27 : decode cX11_leakNow 27 = .ok (.iconst 1, 1) := by decide +kernel
theorem dX11_leakNow_28 : decode cX11_leakNow 28 = .ok (.goto 4, 3) := by decide +kernel
theorem dX11_leakNow_31 : decode cX11_leakNow 31 = .ok (.iconst 0, 1) := by decide +kernel
theorem dX11_leakNow_32 : decode cX11_leakNow 32 = .ok (.invokestatic 196, 3) := by decide +kernel
theorem dX11_leakNow_35 : decode cX11_leakNow 35 = .ok (.ireturn, 1) := by decide +kernel
theorem dX11_costOf_0 : decode cX11_costOf 0 = .ok (.iload_n 0, 1) := by decide +kernel
theorem dX11_costOf_1 : decode cX11_costOf 1 = .ok (.iconst 3, 1) := by decide +kernel
theorem dX11_costOf_2 : decode cX11_costOf 2 = .ok (.if_icmp .ne 7, 3) := by decide +kernel
theorem dX11_costOf_5 : decode cX11_costOf 5 = .ok (.iconst 2, 1) := by decide +kernel
theorem dX11_costOf_6 : decode cX11_costOf 6 = .ok (.goto 13, 3) := by decide +kernel
theorem dX11_costOf_9 : decode cX11_costOf 9 = .ok (.iload_n 0, 1) := by decide +kernel
theorem dX11_costOf_10 : decode cX11_costOf 10 = .ok (.iconst 5, 1) := by decide +kernel
theorem dX11_costOf_11 : decode cX11_costOf 11 = .ok (.if_icmp .ne 7, 3) := by decide +kernel
theorem dX11_costOf_14 : decode cX11_costOf 14 = .ok (.iconst 3, 1) := by decide +kernel
theorem dX11_costOf_15 : decode cX11_costOf 15 = .ok (.goto 4, 3) := by decide +kernel
theorem dX11_costOf_18 : decode cX11_costOf 18 = .ok (.iconst 1, 1) := by decide +kernel
theorem dX11_costOf_19 : decode cX11_costOf 19 = .ok (.ireturn, 1) := by decide +kernel
theorem dX11_jarTells_0 : decode cX11_jarTells 0 = .ok (.iload_n 2, 1) := by decide +kernel
theorem dX11_jarTells_1 : decode cX11_jarTells 1 = .ok (.tableswitch 64 0 3 #[31, 38, 45, 54], 31) := by decide +kernel
theorem dX11_jarTells_32 : decode cX11_jarTells 32 = .ok (.aload_n 0, 1) := by decide +kernel
theorem dX11_jarTells_33 : decode cX11_jarTells 33 = .ok (.getfield 35, 3) := by decide +kernel
theorem dX11_jarTells_36 : decode cX11_jarTells 36 = .ok (.iload_n 1, 1) := by decide +kernel
theorem dX11_jarTells_37 : decode cX11_jarTells 37 = .ok (.iaload, 1) := by decide +kernel
theorem dX11_jarTells_38 : decode cX11_jarTells 38 = .ok (.ireturn, 1) := by decide +kernel
theorem dX11_jarTells_39 : decode cX11_jarTells 39 = .ok (.aload_n 0, 1) := by decide +kernel
theorem dX11_jarTells_40 : decode cX11_jarTells 40 = .ok (.getfield 38, 3) := by decide +kernel
theorem dX11_jarTells_43 : decode cX11_jarTells 43 = .ok (.iload_n 1, 1) := by decide +kernel
theorem dX11_jarTells_44 : decode cX11_jarTells 44 = .ok (.iaload, 1) := by decide +kernel
theorem dX11_jarTells_45 : decode cX11_jarTells 45 = .ok (.ireturn, 1) := by decide +kernel
theorem dX11_jarTells_46 : decode cX11_jarTells 46 = .ok (.aload_n 0, 1) := by decide +kernel
theorem dX11_jarTells_47 : decode cX11_jarTells 47 = .ok (.getfield 53, 3) := by decide +kernel
theorem dX11_jarTells_50 : decode cX11_jarTells 50 = .ok (.iconst 0, 1) := by decide +kernel
theorem dX11_jarTells_51 : decode cX11_jarTells 51 = .ok (.iload_n 1, 1) := by decide +kernel
theorem dX11_jarTells_52 : decode cX11_jarTells 52 = .ok (.iadd, 1) := by decide +kernel
theorem dX11_jarTells_53 : decode cX11_jarTells 53 = .ok (.iaload, 1) := by decide +kernel
theorem dX11_jarTells_54 : decode cX11_jarTells 54 = .ok (.ireturn, 1) := by decide +kernel
theorem dX11_jarTells_55 : decode cX11_jarTells 55 = .ok (.aload_n 0, 1) := by decide +kernel
theorem dX11_jarTells_56 : decode cX11_jarTells 56 = .ok (.getfield 53, 3) := by decide +kernel
theorem dX11_jarTells_59 : decode cX11_jarTells 59 = .ok (.bipush 6, 2) := by decide +kernel
theorem dX11_jarTells_61 : decode cX11_jarTells 61 = .ok (.iload_n 1, 1) := by decide +kernel
theorem dX11_jarTells_62 : decode cX11_jarTells 62 = .ok (.iadd, 1) := by decide +kernel
theorem dX11_jarTells_63 : decode cX11_jarTells 63 = .ok (.iaload, 1) := by decide +kernel
theorem dX11_jarTells_64 : decode cX11_jarTells 64 = .ok (.ireturn, 1) := by decide +kernel
theorem dX11_jarTells_65 : decode cX11_jarTells 65 = .ok (.aload_n 0, 1) := by decide +kernel
theorem dX11_jarTells_66 : decode cX11_jarTells 66 = .ok (.getfield 53, 3) := by decide +kernel
theorem dX11_jarTells_69 : decode cX11_jarTells 69 = .ok (.bipush 12, 2) := by decide +kernel
theorem dX11_jarTells_71 : decode cX11_jarTells 71 = .ok (.iload_n 1, 1) := by decide +kernel
theorem dX11_jarTells_72 : decode cX11_jarTells 72 = .ok (.iadd, 1) := by decide +kernel
theorem dX11_jarTells_73 : decode cX11_jarTells 73 = .ok (.iaload, 1) := by decide +kernel
theorem dX11_jarTells_74 : decode cX11_jarTells 74 = .ok (.ireturn, 1) := by decide +kernel
theorem dX11_jar_0 : decode cX11_jar 0 = .ok (.aload_n 0, 1) := by decide +kernel
theorem dX11_jar_1 : decode cX11_jar 1 = .ok (.iload_n 1, 1) := by decide +kernel
theorem dX11_jar_2 : decode cX11_jar 2 = .ok (.invokevirtual 200, 3) := by decide +kernel
theorem dX11_jar_5 : decode cX11_jar 5 = .ok (.ifCond .eq 26, 3) := by decide +kernel
theorem dX11_jar_8 : decode cX11_jar 8 = .ok (.iload_n 2, 1) := by decide +kernel
theorem dX11_jar_9 : decode cX11_jar 9 = .ok (.iconst 0, 1) := by decide +kernel
theorem dX11_jar_10 : decode cX11_jar 10 = .ok (.iconst 4, 1) := by decide +kernel
theorem dX11_jar_11 : decode cX11_jar 11 = .ok (.invokestatic 106, 3) := by decide +kernel
theorem dX11_jar_14 : decode cX11_jar 14 = .ok (.ifCond .eq 17, 3) := by decide +kernel
theorem dX11_jar_17 : decode cX11_jar 17 = .ok (.aload_n 0, 1) := by decide +kernel
theorem dX11_jar_18 : decode cX11_jar 18 = .ok (.aload_n 0, 1) := by decide +kernel
theorem dX11_jar_19 : decode cX11_jar 19 = .ok (.iload_n 1, 1) := by decide +kernel
theorem dX11_jar_20 : decode cX11_jar 20 = .ok (.iload_n 2, 1) := by decide +kernel
theorem dX11_jar_21 : decode cX11_jar 21 = .ok (.invokevirtual 203, 3) := by decide +kernel
theorem dX11_jar_24 : decode cX11_jar 24 = .ok (.iconst 1, 1) := by decide +kernel
theorem dX11_jar_25 : decode cX11_jar 25 = .ok (.invokevirtual 125, 3) := by decide +kernel
theorem dX11_jar_28 : decode cX11_jar 28 = .ok (.goto 4, 3) := by decide +kernel
theorem dX11_jar_31 : decode cX11_jar 31 = .ok (.iconst (-1), 1) := by decide +kernel
theorem dX11_jar_32 : decode cX11_jar 32 = .ok (.ireturn, 1) := by decide +kernel
theorem dX11_mark_0 : decode cX11_mark 0 = .ok (.aload_n 0, 1) := by decide +kernel
theorem dX11_mark_1 : decode cX11_mark 1 = .ok (.iload_n 1, 1) := by decide +kernel
theorem dX11_mark_2 : decode cX11_mark 2 = .ok (.invokevirtual 200, 3) := by decide +kernel
theorem dX11_mark_5 : decode cX11_mark 5 = .ok (.ifCond .eq 12, 3) := by decide +kernel
theorem dX11_mark_8 : decode cX11_mark 8 = .ok (.iload_n 2, 1) := by decide +kernel
theorem dX11_mark_9 : decode cX11_mark 9 = .ok (.iconst 1, 1) := by decide +kernel
theorem dX11_mark_10 : decode cX11_mark 10 = .ok (.iconst 5, 1) := by decide +kernel
theorem dX11_mark_11 : decode cX11_mark 11 = .ok (.invokestatic 106, 3) := by decide +kernel
theorem dX11_mark_14 : decode cX11_mark 14 = .ok (.ifCond .ne 5, 3) := by decide +kernel
theorem dX11_mark_17 : decode cX11_mark 17 = .ok (.iconst (-1), 1) := by decide +kernel
theorem dX11_mark_18 : decode cX11_mark 18 = .ok (.ireturn, 1) := by decide +kernel
theorem dX11_mark_19 : decode cX11_mark 19 = .ok (.aload_n 0, 1) := by decide +kernel
theorem dX11_mark_20 : decode cX11_mark 20 = .ok (.getfield 35, 3) := by decide +kernel
theorem dX11_mark_23 : decode cX11_mark 23 = .ok (.iload_n 1, 1) := by decide +kernel
theorem dX11_mark_24 : decode cX11_mark 24 = .ok (.iaload, 1) := by decide +kernel
theorem dX11_mark_25 : decode cX11_mark 25 = .ok (.istore_n 3, 1) := by decide +kernel
theorem dX11_mark_26 : decode cX11_mark 26 = .ok (.iload_n 3, 1) := by decide +kernel
theorem dX11_mark_27 : decode cX11_mark 27 = .ok (.iload_n 2, 1) := by decide +kernel
theorem dX11_mark_28 : decode cX11_mark 28 = .ok (.if_icmp .eq 29, 3) := by decide +kernel
theorem dX11_mark_31 : decode cX11_mark 31 = .ok (.iload_n 2, 1) := by decide +kernel
theorem dX11_mark_32 : decode cX11_mark 32 = .ok (.iconst 2, 1) := by decide +kernel
theorem dX11_mark_33 : decode cX11_mark 33 = .ok (.if_icmp .ne 8, 3) := by decide +kernel
theorem dX11_mark_36 : decode cX11_mark 36 = .ok (.iload_n 3, 1) := by decide +kernel
theorem dX11_mark_37 : decode cX11_mark 37 = .ok (.iconst 4, 1) := by decide +kernel
theorem dX11_mark_38 : decode cX11_mark 38 = .ok (.if_icmp .eq 19, 3) := by decide +kernel
theorem dX11_mark_41 : decode cX11_mark 41 = .ok (.iload_n 2, 1) := by decide +kernel
theorem dX11_mark_42 : decode cX11_mark 42 = .ok (.iconst 3, 1) := by decide +kernel
theorem dX11_mark_43 : decode cX11_mark 43 = .ok (.if_icmp .ne 8, 3) := by decide +kernel
theorem dX11_mark_46 : decode cX11_mark 46 = .ok (.iload_n 3, 1) := by decide +kernel
theorem dX11_mark_47 : decode cX11_mark 47 = .ok (.iconst 5, 1) := by decide +kernel
theorem dX11_mark_48 : decode cX11_mark 48 = .ok (.if_icmp .eq 9, 3) := by decide +kernel
theorem dX11_mark_51 : decode cX11_mark 51 = .ok (.aload_n 0, 1) := by decide +kernel
theorem dX11_mark_52 : decode cX11_mark 52 = .ok (.iconst 3, 1) := by decide +kernel
theorem dX11_mark_53 : decode cX11_mark 53 = .ok (.invokevirtual 117, 3) := by decide +kernel
theorem dX11_mark_56 : decode cX11_mark 56 = .ok (.ireturn, 1) := by decide +kernel
theorem dX11_mark_57 : decode cX11_mark 57 = .ok (.aload_n 0, 1) := by decide +kernel
theorem dX11_mark_58 : decode cX11_mark 58 = .ok (.getfield 53, 3) := by decide +kernel
theorem dX11_mark_61 : decode cX11_mark 61 = .ok (.iconst 0, 1) := by decide +kernel
theorem dX11_mark_62 : decode cX11_mark 62 = .ok (.iload_n 1, 1) := by decide +kernel
theorem dX11_mark_63 : decode cX11_mark 63 = .ok (.iadd, 1) := by decide +kernel
theorem dX11_mark_64 : decode cX11_mark 64 = .ok (.iaload, 1) := by decide +kernel
theorem dX11_mark_65 : decode cX11_mark 65 = .ok (.istore 4, 2) := by decide +kernel
theorem dX11_mark_67 : decode cX11_mark 67 = .ok (.iload_n 2, 1) := by decide +kernel
theorem dX11_mark_68 : decode cX11_mark 68 = .ok (.tableswitch 75 1 4 #[32, 46, 61, 72], 32) := by decide +kernel
theorem dX11_mark_100 : decode cX11_mark 100 = .ok (.iconst 2, 1) := by decide +kernel
theorem dX11_mark_101 : decode cX11_mark 101 = .ok (.iload 4, 2) := by decide +kernel
theorem dX11_mark_103 : decode cX11_mark 103 = .ok (.imul, 1) := by decide +kernel
theorem dX11_mark_104 : decode cX11_mark 104 = .ok (.invokestatic 193, 3) := by decide +kernel
theorem dX11_mark_107 : decode cX11_mark 107 = .ok (.iload 4, 2) := by decide +kernel
theorem dX11_mark_109 : decode cX11_mark 109 = .ok (.invokestatic 193, 3) := by decide +kernel
theorem dX11_mark_112 : decode cX11_mark 112 = .ok (.isub, 1) := by decide +kernel
theorem dX11_mark_113 : decode cX11_mark 113 = .ok (.ireturn, 1) := by decide +kernel
theorem dX11_mark_114 : decode cX11_mark 114 = .ok (.aload_n 0, 1) := by decide +kernel
theorem dX11_mark_115 : decode cX11_mark 115 = .ok (.iload_n 1, 1) := by decide +kernel
theorem dX11_mark_116 : decode cX11_mark 116 = .ok (.invokevirtual 206, 3) := by decide +kernel
theorem dX11_mark_119 : decode cX11_mark 119 = .ok (.ifCond .le 7, 3) := by decide +kernel
theorem dX11_mark_122 : decode cX11_mark 122 = .ok (.iconst 0, 1) := by decide +kernel
theorem dX11_mark_123 : decode cX11_mark 123 = .ok (.goto 5, 3) := by decide +kernel
theorem dX11_mark_126 : decode cX11_mark 126 = .ok (.bipush (-9), 2) := by decide +kernel
theorem dX11_mark_128 : decode cX11_mark 128 = .ok (.ireturn, 1) := by decide +kernel
theorem dX11_mark_129 : decode cX11_mark 129 = .ok (.iload 4, 2) := by decide +kernel
theorem dX11_mark_131 : decode cX11_mark 131 = .ok (.iload 4, 2) := by decide +kernel
theorem dX11_mark_133 : decode cX11_mark 133 = .ok (.iload_n 3, 1) := by decide +kernel
theorem dX11_mark_134 : decode cX11_mark 134 = .ok (.invokestatic 209, 3) := by decide +kernel
theorem dX11_mark_137 : decode cX11_mark 137 = .ok (.idiv, 1) := by decide +kernel
theorem dX11_mark_138 : decode cX11_mark 138 = .ok (.isub, 1) := by decide +kernel
theorem dX11_mark_139 : decode cX11_mark 139 = .ok (.ireturn, 1) := by decide +kernel
theorem dX11_mark_140 : decode cX11_mark 140 = .ok (.iload 4, 2) := by decide +kernel
theorem dX11_mark_142 : decode cX11_mark 142 = .ok (.ireturn, 1) := by decide +kernel
theorem dX11_mark_143 : decode cX11_mark 143 = .ok (.iload 4, 2) := by decide +kernel
theorem dX11_mark_145 : decode cX11_mark 145 = .ok (.iconst 3, 1) := by decide +kernel
theorem dX11_mark_146 : decode cX11_mark 146 = .ok (.irem, 1) := by decide +kernel
theorem dX11_mark_147 : decode cX11_mark 147 = .ok (.ireturn, 1) := by decide +kernel
theorem dX11_lightAt_0 : decode cX11_lightAt 0 = .ok (.iconst 0, 1) := by decide +kernel
theorem dX11_lightAt_1 : decode cX11_lightAt 1 = .ok (.istore_n 2, 1) := by decide +kernel
theorem dX11_lightAt_2 : decode cX11_lightAt 2 = .ok (.iconst 0, 1) := by decide +kernel
theorem dX11_lightAt_3 : decode cX11_lightAt 3 = .ok (.istore_n 3, 1) := by decide +kernel
theorem dX11_lightAt_4 : decode cX11_lightAt 4 = .ok (.iload_n 3, 1) := by decide +kernel
theorem dX11_lightAt_5 : decode cX11_lightAt 5 = .ok (.aload_n 0, 1) := by decide +kernel
theorem dX11_lightAt_6 : decode cX11_lightAt 6 = .ok (.getfield 184, 3) := by decide +kernel
theorem dX11_lightAt_9 : decode cX11_lightAt 9 = .ok (.if_icmp .ge 37, 3) := by decide +kernel
theorem dX11_lightAt_12 : decode cX11_lightAt 12 = .ok (.iload_n 2, 1) := by decide +kernel
theorem dX11_lightAt_13 : decode cX11_lightAt 13 = .ok (.aload_n 0, 1) := by decide +kernel
theorem dX11_lightAt_14 : decode cX11_lightAt 14 = .ok (.getfield 53, 3) := by decide +kernel
theorem dX11_lightAt_17 : decode cX11_lightAt 17 = .ok (.bipush 6, 2) := by decide +kernel
theorem dX11_lightAt_19 : decode cX11_lightAt 19 = .ok (.iload_n 3, 1) := by decide +kernel
theorem dX11_lightAt_20 : decode cX11_lightAt 20 = .ok (.iadd, 1) := by decide +kernel
theorem dX11_lightAt_21 : decode cX11_lightAt 21 = .ok (.iaload, 1) := by decide +kernel
theorem dX11_lightAt_22 : decode cX11_lightAt 22 = .ok (.iload_n 1, 1) := by decide +kernel
theorem dX11_lightAt_23 : decode cX11_lightAt 23 = .ok (.if_icmp .ne 14, 3) := by decide +kernel
theorem dX11_lightAt_26 : decode cX11_lightAt 26 = .ok (.aload_n 0, 1) := by decide +kernel
theorem dX11_lightAt_27 : decode cX11_lightAt 27 = .ok (.getfield 53, 3) := by decide +kernel
theorem dX11_lightAt_30 : decode cX11_lightAt 30 = .ok (.iconst 0, 1) := by decide +kernel
theorem dX11_lightAt_31 : decode cX11_lightAt 31 = .ok (.iload_n 3, 1) := by decide +kernel
theorem dX11_lightAt_32 : decode cX11_lightAt 32 = .ok (.iadd, 1) := by decide +kernel
theorem dX11_lightAt_33 : decode cX11_lightAt 33 = .ok (.iaload, 1) := by decide +kernel
theorem dX11_lightAt_34 : decode cX11_lightAt 34 = .ok (.goto 4, 3) := by decide +kernel
theorem dX11_lightAt_37 : decode cX11_lightAt 37 = .ok (.iconst 0, 1) := by decide +kernel
theorem dX11_lightAt_38 : decode cX11_lightAt 38 = .ok (.iadd, 1) := by decide +kernel
theorem dX11_lightAt_39 : decode cX11_lightAt 39 = .ok (.istore_n 2, 1) := by decide +kernel
theorem dX11_lightAt_40 : decode cX11_lightAt 40 = .ok (.iinc 3 1, 3) := by decide +kernel
theorem dX11_lightAt_43 : decode cX11_lightAt 43 = .ok (.goto (-39), 3) := by decide +kernel
theorem dX11_lightAt_46 : decode cX11_lightAt 46 = .ok (.iload_n 2, 1) := by decide +kernel
theorem dX11_lightAt_47 : decode cX11_lightAt 47 = .ok (.ireturn, 1) := by decide +kernel
theorem dX11_placeTells_0 : decode cX11_placeTells 0 = .ok (.iload_n 2, 1) := by decide +kernel
theorem dX11_placeTells_1 : decode cX11_placeTells 1 = .ok (.ifCond .ne 12, 3) := by decide +kernel
theorem dX11_placeTells_4 : decode cX11_placeTells 4 = .ok (.aload_n 0, 1) := by decide +kernel
theorem dX11_placeTells_5 : decode cX11_placeTells 5 = .ok (.getfield 32, 3) := by decide +kernel
theorem dX11_placeTells_8 : decode cX11_placeTells 8 = .ok (.iload_n 1, 1) := by decide +kernel
theorem dX11_placeTells_9 : decode cX11_placeTells 9 = .ok (.iaload, 1) := by decide +kernel
theorem dX11_placeTells_10 : decode cX11_placeTells 10 = .ok (.goto 42, 3) := by decide +kernel
theorem dX11_placeTells_13 : decode cX11_placeTells 13 = .ok (.iload_n 2, 1) := by decide +kernel
theorem dX11_placeTells_14 : decode cX11_placeTells 14 = .ok (.iconst 1, 1) := by decide +kernel
theorem dX11_placeTells_15 : decode cX11_placeTells 15 = .ok (.if_icmp .ne 15, 3) := by decide +kernel
theorem dX11_placeTells_18 : decode cX11_placeTells 18 = .ok (.aload_n 0, 1) := by decide +kernel
theorem dX11_placeTells_19 : decode cX11_placeTells 19 = .ok (.getfield 53, 3) := by decide +kernel
theorem dX11_placeTells_22 : decode cX11_placeTells 22 = .ok (.bipush 18, 2) := by decide +kernel
theorem dX11_placeTells_24 : decode cX11_placeTells 24 = .ok (.iload_n 1, 1) := by decide +kernel
theorem dX11_placeTells_25 : decode cX11_placeTells 25 = .ok (.iadd, 1) := by decide +kernel
theorem dX11_placeTells_26 : decode cX11_placeTells 26 = .ok (.iaload, 1) := by decide +kernel
theorem dX11_placeTells_27 : decode cX11_placeTells 27 = .ok (.goto 25, 3) := by decide +kernel
theorem dX11_placeTells_30 : decode cX11_placeTells 30 = .ok (.iload_n 2, 1) := by decide +kernel
theorem dX11_placeTells_31 : decode cX11_placeTells 31 = .ok (.iconst 2, 1) := by decide +kernel
theorem dX11_placeTells_32 : decode cX11_placeTells 32 = .ok (.if_icmp .ne 15, 3) := by decide +kernel
theorem dX11_placeTells_35 : decode cX11_placeTells 35 = .ok (.aload_n 0, 1) := by decide +kernel
theorem dX11_placeTells_36 : decode cX11_placeTells 36 = .ok (.getfield 53, 3) := by decide +kernel
theorem dX11_placeTells_39 : decode cX11_placeTells 39 = .ok (.bipush 23, 2) := by decide +kernel
theorem dX11_placeTells_41 : decode cX11_placeTells 41 = .ok (.iload_n 1, 1) := by decide +kernel
theorem dX11_placeTells_42 : decode cX11_placeTells 42 = .ok (.iadd, 1) := by decide +kernel
theorem dX11_placeTells_43 : decode cX11_placeTells 43 = .ok (.iaload, 1) := by decide +kernel
theorem dX11_placeTells_44 : decode cX11_placeTells 44 = .ok (.goto 8, 3) := by decide +kernel
theorem dX11_placeTells_47 : decode cX11_placeTells 47 = .ok (.aload_n 0, 1) := by decide +kernel
theorem dX11_placeTells_48 : decode cX11_placeTells 48 = .ok (.iload_n 1, 1) := by decide +kernel
theorem dX11_placeTells_49 : decode cX11_placeTells 49 = .ok (.invokevirtual 212, 3) := by decide +kernel
theorem dX11_placeTells_52 : decode cX11_placeTells 52 = .ok (.ireturn, 1) := by decide +kernel
theorem dX11_place_0 : decode cX11_place 0 = .ok (.iload_n 1, 1) := by decide +kernel
theorem dX11_place_1 : decode cX11_place 1 = .ok (.invokestatic 215, 3) := by decide +kernel
theorem dX11_place_4 : decode cX11_place 4 = .ok (.ifCond .eq 26, 3) := by decide +kernel
theorem dX11_place_7 : decode cX11_place 7 = .ok (.iload_n 2, 1) := by decide +kernel
theorem dX11_place_8 : decode cX11_place 8 = .ok (.iconst 0, 1) := by decide +kernel
theorem dX11_place_9 : decode cX11_place 9 = .ok (.iconst 3, 1) := by decide +kernel
theorem dX11_place_10 : decode cX11_place 10 = .ok (.invokestatic 106, 3) := by decide +kernel
theorem dX11_place_13 : decode cX11_place 13 = .ok (.ifCond .eq 17, 3) := by decide +kernel
theorem dX11_place_16 : decode cX11_place 16 = .ok (.aload_n 0, 1) := by decide +kernel
theorem dX11_place_17 : decode cX11_place 17 = .ok (.aload_n 0, 1) := by decide +kernel
theorem dX11_place_18 : decode cX11_place 18 = .ok (.iload_n 1, 1) := by decide +kernel
theorem dX11_place_19 : decode cX11_place 19 = .ok (.iload_n 2, 1) := by decide +kernel
theorem dX11_place_20 : decode cX11_place 20 = .ok (.invokevirtual 218, 3) := by decide +kernel
theorem dX11_place_23 : decode cX11_place 23 = .ok (.iconst 1, 1) := by decide +kernel
theorem dX11_place_24 : decode cX11_place 24 = .ok (.invokevirtual 125, 3) := by decide +kernel
theorem dX11_place_27 : decode cX11_place 27 = .ok (.goto 4, 3) := by decide +kernel
theorem dX11_place_30 : decode cX11_place 30 = .ok (.iconst (-1), 1) := by decide +kernel
theorem dX11_place_31 : decode cX11_place 31 = .ok (.ireturn, 1) := by decide +kernel
theorem dX11_shines_0 : decode cX11_shines 0 = .ok (.aload_n 0, 1) := by decide +kernel
theorem dX11_shines_1 : decode cX11_shines 1 = .ok (.getfield 181, 3) := by decide +kernel
theorem dX11_shines_4 : decode cX11_shines 4 = .ok (.ifCond .le 22, 3) := by decide +kernel
theorem dX11_shines_7 : decode cX11_shines 7 = .ok (.aload_n 0, 1) := by decide +kernel
theorem dX11_shines_8 : decode cX11_shines 8 = .ok (.getfield 29, 3) := by decide +kernel
theorem dX11_shines_11 : decode cX11_shines 11 = .ok (.iload_n 1, 1) := by decide +kernel
theorem dX11_shines_12 : decode cX11_shines 12 = .ok (.aload_n 0, 1) := by decide +kernel
theorem dX11_shines_13 : decode cX11_shines 13 = .ok (.getfield 181, 3) := by decide +kernel
theorem dX11_shines_16 : decode cX11_shines 16 = .ok (.irem, 1) := by decide +kernel
theorem dX11_shines_17 : decode cX11_shines 17 = .ok (.iaload, 1) := by decide +kernel
theorem dX11_shines_18 : decode cX11_shines 18 = .ok (.iconst 1, 1) := by decide +kernel
theorem dX11_shines_19 : decode cX11_shines 19 = .ok (.if_icmp .ne 7, 3) := by decide +kernel
theorem dX11_shines_22 : decode cX11_shines 22 = .ok (.iconst 1, 1) := by decide +kernel
theorem dX11_shines_23 : decode cX11_shines 23 = .ok (.goto 4, 3) := by decide +kernel
theorem dX11_shines_26 : decode cX11_shines 26 = .ok (.iconst 0, 1) := by decide +kernel
theorem dX11_shines_27 : decode cX11_shines 27 = .ok (.ireturn, 1) := by decide +kernel
theorem dX11_sun_0 : decode cX11_sun 0 = .ok (.iload_n 1, 1) := by decide +kernel
theorem dX11_sun_1 : decode cX11_sun 1 = .ok (.iconst 0, 1) := by decide +kernel
theorem dX11_sun_2 : decode cX11_sun 2 = .ok (.sipush 999, 3) := by decide +kernel
theorem dX11_sun_5 : decode cX11_sun 5 = .ok (.invokestatic 106, 3) := by decide +kernel
theorem dX11_sun_8 : decode cX11_sun 8 = .ok (.ifCond .eq 19, 3) := by decide +kernel
theorem dX11_sun_11 : decode cX11_sun 11 = .ok (.aload_n 0, 1) := by decide +kernel
theorem dX11_sun_12 : decode cX11_sun 12 = .ok (.iload_n 1, 1) := by decide +kernel
theorem dX11_sun_13 : decode cX11_sun 13 = .ok (.invokevirtual 221, 3) := by decide +kernel
theorem dX11_sun_16 : decode cX11_sun 16 = .ok (.ifCond .eq 7, 3) := by decide +kernel
theorem dX11_sun_19 : decode cX11_sun 19 = .ok (.iconst 1, 1) := by decide +kernel
theorem dX11_sun_20 : decode cX11_sun 20 = .ok (.goto 8, 3) := by decide +kernel
theorem dX11_sun_23 : decode cX11_sun 23 = .ok (.iconst 0, 1) := by decide +kernel
theorem dX11_sun_24 : decode cX11_sun 24 = .ok (.goto 4, 3) := by decide +kernel
theorem dX11_sun_27 : decode cX11_sun 27 = .ok (.iconst (-1), 1) := by decide +kernel
theorem dX11_sun_28 : decode cX11_sun 28 = .ok (.ireturn, 1) := by decide +kernel
theorem dX11_remembers_0 : decode cX11_remembers 0 = .ok (.bipush 31, 2) := by decide +kernel
theorem dX11_remembers_2 : decode cX11_remembers 2 = .ok (.istore_n 2, 1) := by decide +kernel
theorem dX11_remembers_3 : decode cX11_remembers 3 = .ok (.aload_n 0, 1) := by decide +kernel
theorem dX11_remembers_4 : decode cX11_remembers 4 = .ok (.getfield 187, 3) := by decide +kernel
theorem dX11_remembers_7 : decode cX11_remembers 7 = .ok (.bipush 60, 2) := by decide +kernel
theorem dX11_remembers_9 : decode cX11_remembers 9 = .ok (.if_icmp .ne 43, 3) := by decide +kernel
theorem dX11_remembers_12 : decode cX11_remembers 12 = .ok (.iconst 0, 1) := by decide +kernel
theorem dX11_remembers_13 : decode cX11_remembers 13 = .ok (.istore_n 3, 1) := by decide +kernel
theorem dX11_remembers_14 : decode cX11_remembers 14 = .ok (.iload_n 3, 1) := by decide +kernel
theorem dX11_remembers_15 : decode cX11_remembers 15 = .ok (.iload_n 2, 1) := by decide +kernel
theorem dX11_remembers_16 : decode cX11_remembers 16 = .ok (.bipush 59, 2) := by decide +kernel
theorem dX11_remembers_18 : decode cX11_remembers 18 = .ok (.imul, 1) := by decide +kernel
theorem dX11_remembers_19 : decode cX11_remembers 19 = .ok (.if_icmp .ge 23, 3) := by decide +kernel
theorem dX11_remembers_22 : decode cX11_remembers 22 = .ok (.aload_n 0, 1) := by decide +kernel
theorem dX11_remembers_23 : decode cX11_remembers 23 = .ok (.getfield 56, 3) := by decide +kernel
theorem dX11_remembers_26 : decode cX11_remembers 26 = .ok (.iload_n 3, 1) := by decide +kernel
theorem dX11_remembers_27 : decode cX11_remembers 27 = .ok (.aload_n 0, 1) := by decide +kernel
theorem dX11_remembers_28 : decode cX11_remembers 28 = .ok (.getfield 56, 3) := by decide +kernel
theorem dX11_remembers_31 : decode cX11_remembers 31 = .ok (.iload_n 3, 1) := by decide +kernel
theorem dX11_remembers_32 : decode cX11_remembers 32 = .ok (.iload_n 2, 1) := by decide +kernel
theorem dX11_remembers_33 : decode cX11_remembers 33 = .ok (.iadd, 1) := by decide +kernel
theorem dX11_remembers_34 : decode cX11_remembers 34 = .ok (.iaload, 1) := by decide +kernel
theorem dX11_remembers_35 : decode cX11_remembers 35 = .ok (.iastore, 1) := by decide +kernel
theorem dX11_remembers_36 : decode cX11_remembers 36 = .ok (.iinc 3 1, 3) := by decide +kernel
theorem dX11_remembers_39 : decode cX11_remembers 39 = .ok (.goto (-25), 3) := by decide +kernel
theorem dX11_remembers_42 : decode cX11_remembers 42 = .ok (.aload_n 0, 1) := by decide +kernel
theorem dX11_remembers_43 : decode cX11_remembers 43 = .ok (.dup, 1) := by decide +kernel
theorem dX11_remembers_44 : decode cX11_remembers 44 = .ok (.getfield 187, 3) := by decide +kernel
theorem dX11_remembers_47 : decode cX11_remembers 47 = .ok (.iconst 1, 1) := by decide +kernel
theorem dX11_remembers_48 : decode cX11_remembers 48 = .ok (.isub, 1) := by decide +kernel
theorem dX11_remembers_49 : decode cX11_remembers 49 = .ok (.putfield 187, 3) := by decide +kernel
theorem dX11_remembers_52 : decode cX11_remembers 52 = .ok (.iconst 0, 1) := by decide +kernel
theorem dX11_remembers_53 : decode cX11_remembers 53 = .ok (.istore_n 3, 1) := by decide +kernel
theorem dX11_remembers_54 : decode cX11_remembers 54 = .ok (.iload_n 3, 1) := by decide +kernel
theorem dX11_remembers_55 : decode cX11_remembers 55 = .ok (.bipush 30, 2) := by decide +kernel
theorem dX11_remembers_57 : decode cX11_remembers 57 = .ok (.if_icmp .ge 28, 3) := by decide +kernel
theorem dX11_remembers_60 : decode cX11_remembers 60 = .ok (.aload_n 0, 1) := by decide +kernel
theorem dX11_remembers_61 : decode cX11_remembers 61 = .ok (.getfield 56, 3) := by decide +kernel
theorem dX11_remembers_64 : decode cX11_remembers 64 = .ok (.iload_n 2, 1) := by decide +kernel
theorem dX11_remembers_65 : decode cX11_remembers 65 = .ok (.aload_n 0, 1) := by decide +kernel
theorem dX11_remembers_66 : decode cX11_remembers 66 = .ok (.getfield 187, 3) := by decide +kernel
theorem dX11_remembers_69 : decode cX11_remembers 69 = .ok (.imul, 1) := by decide +kernel
theorem dX11_remembers_70 : decode cX11_remembers 70 = .ok (.iload_n 3, 1) := by decide +kernel
theorem dX11_remembers_71 : decode cX11_remembers 71 = .ok (.iadd, 1) := by decide +kernel
theorem dX11_remembers_72 : decode cX11_remembers 72 = .ok (.aload_n 0, 1) := by decide +kernel
theorem dX11_remembers_73 : decode cX11_remembers 73 = .ok (.getfield 53, 3) := by decide +kernel
theorem dX11_remembers_76 : decode cX11_remembers 76 = .ok (.iload_n 3, 1) := by decide +kernel
theorem dX11_remembers_77 : decode cX11_remembers 77 = .ok (.iaload, 1) := by decide +kernel
theorem dX11_remembers_78 : decode cX11_remembers 78 = .ok (.iastore, 1) := by decide +kernel
theorem dX11_remembers_79 : decode cX11_remembers 79 = .ok (.iinc 3 1, 3) := by decide +kernel
theorem dX11_remembers_82 : decode cX11_remembers 82 = .ok (.goto (-28), 3) := by decide +kernel
theorem dX11_remembers_85 : decode cX11_remembers 85 = .ok (.aload_n 0, 1) := by decide +kernel
theorem dX11_remembers_86 : decode cX11_remembers 86 = .ok (.getfield 56, 3) := by decide +kernel
theorem dX11_remembers_89 : decode cX11_remembers 89 = .ok (.iload_n 2, 1) := by decide +kernel
theorem dX11_remembers_90 : decode cX11_remembers 90 = .ok (.aload_n 0, 1) := by decide +kernel
theorem dX11_remembers_91 : decode cX11_remembers 91 = .ok (.getfield 187, 3) := by decide +kernel
theorem dX11_remembers_94 : decode cX11_remembers 94 = .ok (.imul, 1) := by decide +kernel
theorem dX11_remembers_95 : decode cX11_remembers 95 = .ok (.bipush 30, 2) := by decide +kernel
theorem dX11_remembers_97 : decode cX11_remembers 97 = .ok (.iadd, 1) := by decide +kernel
theorem dX11_remembers_98 : decode cX11_remembers 98 = .ok (.iload_n 1, 1) := by decide +kernel
theorem dX11_remembers_99 : decode cX11_remembers 99 = .ok (.iastore, 1) := by decide +kernel
theorem dX11_remembers_100 : decode cX11_remembers 100 = .ok (.aload_n 0, 1) := by decide +kernel
theorem dX11_remembers_101 : decode cX11_remembers 101 = .ok (.dup, 1) := by decide +kernel
theorem dX11_remembers_102 : decode cX11_remembers 102 = .ok (.getfield 187, 3) := by decide +kernel
theorem dX11_remembers_105 : decode cX11_remembers 105 = .ok (.iconst 1, 1) := by decide +kernel
theorem dX11_remembers_106 : decode cX11_remembers 106 = .ok (.iadd, 1) := by decide +kernel
theorem dX11_remembers_107 : decode cX11_remembers 107 = .ok (.putfield 187, 3) := by decide +kernel
theorem dX11_remembers_110 : decode cX11_remembers 110 = .ok (.return_, 1) := by decide +kernel
theorem dX11_fill_0 : decode cX11_fill 0 = .ok (.aload_n 0, 1) := by decide +kernel
theorem dX11_fill_1 : decode cX11_fill 1 = .ok (.iload_n 1, 1) := by decide +kernel
theorem dX11_fill_2 : decode cX11_fill 2 = .ok (.invokevirtual 200, 3) := by decide +kernel
theorem dX11_fill_5 : decode cX11_fill 5 = .ok (.ifCond .ne 5, 3) := by decide +kernel
theorem dX11_fill_8 : decode cX11_fill 8 = .ok (.iconst (-1), 1) := by decide +kernel
theorem dX11_fill_9 : decode cX11_fill 9 = .ok (.ireturn, 1) := by decide +kernel
theorem dX11_fill_10 : decode cX11_fill 10 = .ok (.aload_n 0, 1) := by decide +kernel
theorem dX11_fill_11 : decode cX11_fill 11 = .ok (.getfield 53, 3) := by decide +kernel
theorem dX11_fill_14 : decode cX11_fill 14 = .ok (.bipush 6, 2) := by decide +kernel
theorem dX11_fill_16 : decode cX11_fill 16 = .ok (.iload_n 1, 1) := by decide +kernel
theorem dX11_fill_17 : decode cX11_fill 17 = .ok (.iadd, 1) := by decide +kernel
theorem dX11_fill_18 : decode cX11_fill 18 = .ok (.iaload, 1) := by decide +kernel
theorem dX11_fill_19 : decode cX11_fill 19 = .ok (.ifCond .ne 17, 3) := by decide +kernel
theorem dX11_fill_22 : decode cX11_fill 22 = .ok (.aload_n 0, 1) := by decide +kernel
theorem dX11_fill_23 : decode cX11_fill 23 = .ok (.aload_n 0, 1) := by decide +kernel
theorem dX11_fill_24 : decode cX11_fill 24 = .ok (.getfield 53, 3) := by decide +kernel
theorem dX11_fill_27 : decode cX11_fill 27 = .ok (.bipush 28, 2) := by decide +kernel
theorem dX11_fill_29 : decode cX11_fill 29 = .ok (.iaload, 1) := by decide +kernel
theorem dX11_fill_30 : decode cX11_fill 30 = .ok (.invokevirtual 221, 3) := by decide +kernel
theorem dX11_fill_33 : decode cX11_fill 33 = .ok (.ifCond .ne 6, 3) := by decide +kernel
theorem dX11_fill_36 : decode cX11_fill 36 = .ok (.bipush (-4), 2) := by decide +kernel
theorem dX11_fill_38 : decode cX11_fill 38 = .ok (.ireturn, 1) := by decide +kernel
theorem dX11_fill_39 : decode cX11_fill 39 = .ok (.aload_n 0, 1) := by decide +kernel
theorem dX11_fill_40 : decode cX11_fill 40 = .ok (.iconst 0, 1) := by decide +kernel
theorem dX11_fill_41 : decode cX11_fill 41 = .ok (.invokevirtual 224, 3) := by decide +kernel
theorem dX11_fill_44 : decode cX11_fill 44 = .ok (.aload_n 0, 1) := by decide +kernel
theorem dX11_fill_45 : decode cX11_fill 45 = .ok (.getfield 38, 3) := by decide +kernel
theorem dX11_fill_48 : decode cX11_fill 48 = .ok (.iload_n 1, 1) := by decide +kernel
theorem dX11_fill_49 : decode cX11_fill 49 = .ok (.iaload, 1) := by decide +kernel
theorem dX11_fill_50 : decode cX11_fill 50 = .ok (.aload_n 0, 1) := by decide +kernel
theorem dX11_fill_51 : decode cX11_fill 51 = .ok (.getfield 53, 3) := by decide +kernel
theorem dX11_fill_54 : decode cX11_fill 54 = .ok (.iconst 0, 1) := by decide +kernel
theorem dX11_fill_55 : decode cX11_fill 55 = .ok (.iload_n 1, 1) := by decide +kernel
theorem dX11_fill_56 : decode cX11_fill 56 = .ok (.iadd, 1) := by decide +kernel
theorem dX11_fill_57 : decode cX11_fill 57 = .ok (.iaload, 1) := by decide +kernel
theorem dX11_fill_58 : decode cX11_fill 58 = .ok (.isub, 1) := by decide +kernel
theorem dX11_fill_59 : decode cX11_fill 59 = .ok (.istore_n 2, 1) := by decide +kernel
theorem dX11_fill_60 : decode cX11_fill 60 = .ok (.aload_n 0, 1) := by decide +kernel
theorem dX11_fill_61 : decode cX11_fill 61 = .ok (.getfield 53, 3) := by decide +kernel
theorem dX11_fill_64 : decode cX11_fill 64 = .ok (.iconst 0, 1) := by decide +kernel
theorem dX11_fill_65 : decode cX11_fill 65 = .ok (.iload_n 1, 1) := by decide +kernel
theorem dX11_fill_66 : decode cX11_fill 66 = .ok (.iadd, 1) := by decide +kernel
theorem dX11_fill_67 : decode cX11_fill 67 = .ok (.aload_n 0, 1) := by decide +kernel
theorem dX11_fill_68 : decode cX11_fill 68 = .ok (.getfield 38, 3) := by decide +kernel
theorem dX11_fill_71 : decode cX11_fill 71 = .ok (.iload_n 1, 1) := by decide +kernel
theorem dX11_fill_72 : decode cX11_fill 72 = .ok (.iaload, 1) := by decide +kernel
theorem dX11_fill_73 : decode cX11_fill 73 = .ok (.iastore, 1) := by decide +kernel
theorem dX11_fill_74 : decode cX11_fill 74 = .ok (.aload_n 0, 1) := by decide +kernel
theorem dX11_fill_75 : decode cX11_fill 75 = .ok (.getfield 53, 3) := by decide +kernel
theorem dX11_fill_78 : decode cX11_fill 78 = .ok (.bipush 12, 2) := by decide +kernel
theorem dX11_fill_80 : decode cX11_fill 80 = .ok (.iload_n 1, 1) := by decide +kernel
theorem dX11_fill_81 : decode cX11_fill 81 = .ok (.iadd, 1) := by decide +kernel
theorem dX11_fill_82 : decode cX11_fill 82 = .ok (.iconst 0, 1) := by decide +kernel
theorem dX11_fill_83 : decode cX11_fill 83 = .ok (.iastore, 1) := by decide +kernel
theorem dX11_fill_84 : decode cX11_fill 84 = .ok (.iload_n 2, 1) := by decide +kernel
theorem dX11_fill_85 : decode cX11_fill 85 = .ok (.ireturn, 1) := by decide +kernel
theorem dX11_carry_0 : decode cX11_carry 0 = .ok (.aload_n 0, 1) := by decide +kernel
theorem dX11_carry_1 : decode cX11_carry 1 = .ok (.iload_n 1, 1) := by decide +kernel
theorem dX11_carry_2 : decode cX11_carry 2 = .ok (.invokevirtual 200, 3) := by decide +kernel
theorem dX11_carry_5 : decode cX11_carry 5 = .ok (.ifCond .eq 12, 3) := by decide +kernel
theorem dX11_carry_8 : decode cX11_carry 8 = .ok (.iload_n 2, 1) := by decide +kernel
theorem dX11_carry_9 : decode cX11_carry 9 = .ok (.iconst 0, 1) := by decide +kernel
theorem dX11_carry_10 : decode cX11_carry 10 = .ok (.iconst 1, 1) := by decide +kernel
theorem dX11_carry_11 : decode cX11_carry 11 = .ok (.invokestatic 106, 3) := by decide +kernel
theorem dX11_carry_14 : decode cX11_carry 14 = .ok (.ifCond .ne 5, 3) := by decide +kernel
theorem dX11_carry_17 : decode cX11_carry 17 = .ok (.iconst (-1), 1) := by decide +kernel
theorem dX11_carry_18 : decode cX11_carry 18 = .ok (.ireturn, 1) := by decide +kernel
theorem dX11_carry_19 : decode cX11_carry 19 = .ok (.aload_n 0, 1) := by decide +kernel
theorem dX11_carry_20 : decode cX11_carry 20 = .ok (.getfield 53, 3) := by decide +kernel
theorem dX11_carry_23 : decode cX11_carry 23 = .ok (.bipush 6, 2) := by decide +kernel
theorem dX11_carry_25 : decode cX11_carry 25 = .ok (.iload_n 1, 1) := by decide +kernel
theorem dX11_carry_26 : decode cX11_carry 26 = .ok (.iadd, 1) := by decide +kernel
theorem dX11_carry_27 : decode cX11_carry 27 = .ok (.iaload, 1) := by decide +kernel
theorem dX11_carry_28 : decode cX11_carry 28 = .ok (.iload_n 2, 1) := by decide +kernel
theorem dX11_carry_29 : decode cX11_carry 29 = .ok (.iconst 1, 1) := by decide +kernel
theorem dX11_carry_30 : decode cX11_carry 30 = .ok (.if_icmp .ne 7, 3) := by decide +kernel
theorem dX11_carry_33 : decode cX11_carry 33 = .ok (.iconst 1, 1) := by decide +kernel
theorem dX11_carry_34 : decode cX11_carry 34 = .ok (.goto 4, 3) := by decide +kernel
theorem dX11_carry_37 : decode cX11_carry 37 = .ok (.iconst (-1), 1) := by decide +kernel
theorem dX11_carry_38 : decode cX11_carry 38 = .ok (.iadd, 1) := by decide +kernel
theorem dX11_carry_39 : decode cX11_carry 39 = .ok (.istore_n 3, 1) := by decide +kernel
theorem dX11_carry_40 : decode cX11_carry 40 = .ok (.iload_n 3, 1) := by decide +kernel
theorem dX11_carry_41 : decode cX11_carry 41 = .ok (.invokestatic 215, 3) := by decide +kernel
theorem dX11_carry_44 : decode cX11_carry 44 = .ok (.ifCond .eq 17, 3) := by decide +kernel
theorem dX11_carry_47 : decode cX11_carry 47 = .ok (.aload_n 0, 1) := by decide +kernel
theorem dX11_carry_48 : decode cX11_carry 48 = .ok (.getfield 53, 3) := by decide +kernel
theorem dX11_carry_51 : decode cX11_carry 51 = .ok (.bipush 29, 2) := by decide +kernel
theorem dX11_carry_53 : decode cX11_carry 53 = .ok (.iaload, 1) := by decide +kernel
theorem dX11_carry_54 : decode cX11_carry 54 = .ok (.aload_n 0, 1) := by decide +kernel
theorem dX11_carry_55 : decode cX11_carry 55 = .ok (.getfield 178, 3) := by decide +kernel
theorem dX11_carry_58 : decode cX11_carry 58 = .ok (.if_icmp .lt 6, 3) := by decide +kernel
theorem dX11_carry_61 : decode cX11_carry 61 = .ok (.bipush (-4), 2) := by decide +kernel
theorem dX11_carry_63 : decode cX11_carry 63 = .ok (.ireturn, 1) := by decide +kernel
theorem dX11_carry_64 : decode cX11_carry 64 = .ok (.aload_n 0, 1) := by decide +kernel
theorem dX11_carry_65 : decode cX11_carry 65 = .ok (.iconst 1, 1) := by decide +kernel
theorem dX11_carry_66 : decode cX11_carry 66 = .ok (.invokevirtual 224, 3) := by decide +kernel
theorem dX11_carry_69 : decode cX11_carry 69 = .ok (.aload_n 0, 1) := by decide +kernel
theorem dX11_carry_70 : decode cX11_carry 70 = .ok (.getfield 53, 3) := by decide +kernel
theorem dX11_carry_73 : decode cX11_carry 73 = .ok (.bipush 6, 2) := by decide +kernel
theorem dX11_carry_75 : decode cX11_carry 75 = .ok (.iload_n 1, 1) := by decide +kernel
theorem dX11_carry_76 : decode cX11_carry 76 = .ok (.iadd, 1) := by decide +kernel
theorem dX11_carry_77 : decode cX11_carry 77 = .ok (.iload_n 3, 1) := by decide +kernel
theorem dX11_carry_78 : decode cX11_carry 78 = .ok (.iastore, 1) := by decide +kernel
theorem dX11_carry_79 : decode cX11_carry 79 = .ok (.aload_n 0, 1) := by decide +kernel
theorem dX11_carry_80 : decode cX11_carry 80 = .ok (.getfield 53, 3) := by decide +kernel
theorem dX11_carry_83 : decode cX11_carry 83 = .ok (.bipush 29, 2) := by decide +kernel
theorem dX11_carry_85 : decode cX11_carry 85 = .ok (.dup2, 1) := by decide +kernel
theorem dX11_carry_86 : decode cX11_carry 86 = .ok (.iaload, 1) := by decide +kernel
theorem dX11_carry_87 : decode cX11_carry 87 = .ok (.iconst 1, 1) := by decide +kernel
theorem dX11_carry_88 : decode cX11_carry 88 = .ok (.iadd, 1) := by decide +kernel
theorem dX11_carry_89 : decode cX11_carry 89 = .ok (.iastore, 1) := by decide +kernel
theorem dX11_carry_90 : decode cX11_carry 90 = .ok (.iload_n 3, 1) := by decide +kernel
theorem dX11_carry_91 : decode cX11_carry 91 = .ok (.ireturn, 1) := by decide +kernel
theorem dX11_pouredOf_0 : decode cX11_pouredOf 0 = .ok (.iload_n 0, 1) := by decide +kernel
theorem dX11_pouredOf_1 : decode cX11_pouredOf 1 = .ok (.istore_n 2, 1) := by decide +kernel
theorem dX11_pouredOf_2 : decode cX11_pouredOf 2 = .ok (.iload_n 2, 1) := by decide +kernel
theorem dX11_pouredOf_3 : decode cX11_pouredOf 3 = .ok (.ifCond .le 19, 3) := by decide +kernel
theorem dX11_pouredOf_6 : decode cX11_pouredOf 6 = .ok (.iload_n 2, 1) := by decide +kernel
theorem dX11_pouredOf_7 : decode cX11_pouredOf 7 = .ok (.iload_n 2, 1) := by decide +kernel
theorem dX11_pouredOf_8 : decode cX11_pouredOf 8 = .ok (.invokestatic 193, 3) := by decide +kernel
theorem dX11_pouredOf_11 : decode cX11_pouredOf 11 = .ok (.isub, 1) := by decide +kernel
theorem dX11_pouredOf_12 : decode cX11_pouredOf 12 = .ok (.iload_n 1, 1) := by decide +kernel
theorem dX11_pouredOf_13 : decode cX11_pouredOf 13 = .ok (.if_icmp .le 9, 3) := by decide +kernel
theorem dX11_pouredOf_16 : decode cX11_pouredOf 16 = .ok (.iinc 2 (-1), 3) := by decide +kernel
theorem dX11_pouredOf_19 : decode cX11_pouredOf 19 = .ok (.goto (-17), 3) := by decide +kernel
theorem dX11_pouredOf_22 : decode cX11_pouredOf 22 = .ok (.iload_n 2, 1) := by decide +kernel
theorem dX11_pouredOf_23 : decode cX11_pouredOf 23 = .ok (.ireturn, 1) := by decide +kernel
theorem dX11_pour_0 : decode cX11_pour 0 = .ok (.aload_n 0, 1) := by decide +kernel
theorem dX11_pour_1 : decode cX11_pour 1 = .ok (.iload_n 1, 1) := by decide +kernel
theorem dX11_pour_2 : decode cX11_pour 2 = .ok (.invokevirtual 200, 3) := by decide +kernel
theorem dX11_pour_5 : decode cX11_pour 5 = .ok (.ifCond .eq 16, 3) := by decide +kernel
theorem dX11_pour_8 : decode cX11_pour 8 = .ok (.aload_n 0, 1) := by decide +kernel
theorem dX11_pour_9 : decode cX11_pour 9 = .ok (.iload_n 2, 1) := by decide +kernel
theorem dX11_pour_10 : decode cX11_pour 10 = .ok (.invokevirtual 200, 3) := by decide +kernel
theorem dX11_pour_13 : decode cX11_pour 13 = .ok (.ifCond .eq 8, 3) := by decide +kernel
theorem dX11_pour_16 : decode cX11_pour 16 = .ok (.iload_n 1, 1) := by decide +kernel
theorem dX11_pour_17 : decode cX11_pour 17 = .ok (.iload_n 2, 1) := by decide +kernel
theorem dX11_pour_18 : decode cX11_pour 18 = .ok (.if_icmp .ne 5, 3) := by decide +kernel
theorem dX11_pour_21 : decode cX11_pour 21 = .ok (.iconst (-1), 1) := by decide +kernel
theorem dX11_pour_22 : decode cX11_pour 22 = .ok (.ireturn, 1) := by decide +kernel
theorem dX11_pour_23 : decode cX11_pour 23 = .ok (.aload_n 0, 1) := by decide +kernel
theorem dX11_pour_24 : decode cX11_pour 24 = .ok (.getfield 53, 3) := by decide +kernel
theorem dX11_pour_27 : decode cX11_pour 27 = .ok (.iconst 0, 1) := by decide +kernel
theorem dX11_pour_28 : decode cX11_pour 28 = .ok (.iload_n 1, 1) := by decide +kernel
theorem dX11_pour_29 : decode cX11_pour 29 = .ok (.iadd, 1) := by decide +kernel
theorem dX11_pour_30 : decode cX11_pour 30 = .ok (.iaload, 1) := by decide +kernel
theorem dX11_pour_31 : decode cX11_pour 31 = .ok (.aload_n 0, 1) := by decide +kernel
theorem dX11_pour_32 : decode cX11_pour 32 = .ok (.getfield 38, 3) := by decide +kernel
theorem dX11_pour_35 : decode cX11_pour 35 = .ok (.iload_n 2, 1) := by decide +kernel
theorem dX11_pour_36 : decode cX11_pour 36 = .ok (.iaload, 1) := by decide +kernel
theorem dX11_pour_37 : decode cX11_pour 37 = .ok (.aload_n 0, 1) := by decide +kernel
theorem dX11_pour_38 : decode cX11_pour 38 = .ok (.getfield 53, 3) := by decide +kernel
theorem dX11_pour_41 : decode cX11_pour 41 = .ok (.iconst 0, 1) := by decide +kernel
theorem dX11_pour_42 : decode cX11_pour 42 = .ok (.iload_n 2, 1) := by decide +kernel
theorem dX11_pour_43 : decode cX11_pour 43 = .ok (.iadd, 1) := by decide +kernel
theorem dX11_pour_44 : decode cX11_pour 44 = .ok (.iaload, 1) := by decide +kernel
theorem dX11_pour_45 : decode cX11_pour 45 = .ok (.isub, 1) := by decide +kernel
theorem dX11_pour_46 : decode cX11_pour 46 = .ok (.invokestatic 228, 3) := by decide +kernel
theorem dX11_pour_49 : decode cX11_pour 49 = .ok (.istore_n 3, 1) := by decide +kernel
theorem dX11_pour_50 : decode cX11_pour 50 = .ok (.iload_n 3, 1) := by decide +kernel
theorem dX11_pour_51 : decode cX11_pour 51 = .ok (.iload_n 3, 1) := by decide +kernel
theorem dX11_pour_52 : decode cX11_pour 52 = .ok (.invokestatic 193, 3) := by decide +kernel
theorem dX11_pour_55 : decode cX11_pour 55 = .ok (.isub, 1) := by decide +kernel
theorem dX11_pour_56 : decode cX11_pour 56 = .ok (.istore 4, 2) := by decide +kernel
theorem dX11_pour_58 : decode cX11_pour 58 = .ok (.aload_n 0, 1) := by decide +kernel
theorem dX11_pour_59 : decode cX11_pour 59 = .ok (.getfield 53, 3) := by decide +kernel
theorem dX11_pour_62 : decode cX11_pour 62 = .ok (.bipush 6, 2) := by decide +kernel
theorem dX11_pour_64 : decode cX11_pour 64 = .ok (.iload_n 1, 1) := by decide +kernel
theorem dX11_pour_65 : decode cX11_pour 65 = .ok (.iadd, 1) := by decide +kernel
theorem dX11_pour_66 : decode cX11_pour 66 = .ok (.iaload, 1) := by decide +kernel
theorem dX11_pour_67 : decode cX11_pour 67 = .ok (.aload_n 0, 1) := by decide +kernel
theorem dX11_pour_68 : decode cX11_pour 68 = .ok (.getfield 53, 3) := by decide +kernel
theorem dX11_pour_71 : decode cX11_pour 71 = .ok (.bipush 6, 2) := by decide +kernel
theorem dX11_pour_73 : decode cX11_pour 73 = .ok (.iload_n 2, 1) := by decide +kernel
theorem dX11_pour_74 : decode cX11_pour 74 = .ok (.iadd, 1) := by decide +kernel
theorem dX11_pour_75 : decode cX11_pour 75 = .ok (.iaload, 1) := by decide +kernel
theorem dX11_pour_76 : decode cX11_pour 76 = .ok (.if_icmp .ne 8, 3) := by decide +kernel
theorem dX11_pour_79 : decode cX11_pour 79 = .ok (.iload 4, 2) := by decide +kernel
theorem dX11_pour_81 : decode cX11_pour 81 = .ok (.ifCond .gt 6, 3) := by decide +kernel
theorem dX11_pour_84 : decode cX11_pour 84 = .ok (.bipush (-4), 2) := by decide +kernel
theorem dX11_pour_86 : decode cX11_pour 86 = .ok (.ireturn, 1) := by decide +kernel
theorem dX11_pour_87 : decode cX11_pour 87 = .ok (.aload_n 0, 1) := by decide +kernel
theorem dX11_pour_88 : decode cX11_pour 88 = .ok (.iconst 2, 1) := by decide +kernel
theorem dX11_pour_89 : decode cX11_pour 89 = .ok (.invokevirtual 224, 3) := by decide +kernel
theorem dX11_pour_92 : decode cX11_pour 92 = .ok (.aload_n 0, 1) := by decide +kernel
theorem dX11_pour_93 : decode cX11_pour 93 = .ok (.getfield 53, 3) := by decide +kernel
theorem dX11_pour_96 : decode cX11_pour 96 = .ok (.iconst 0, 1) := by decide +kernel
theorem dX11_pour_97 : decode cX11_pour 97 = .ok (.iload_n 1, 1) := by decide +kernel
theorem dX11_pour_98 : decode cX11_pour 98 = .ok (.iadd, 1) := by decide +kernel
theorem dX11_pour_99 : decode cX11_pour 99 = .ok (.dup2, 1) := by decide +kernel
theorem dX11_pour_100 : decode cX11_pour 100 = .ok (.iaload, 1) := by decide +kernel
theorem dX11_pour_101 : decode cX11_pour 101 = .ok (.iload_n 3, 1) := by decide +kernel
theorem dX11_pour_102 : decode cX11_pour 102 = .ok (.isub, 1) := by decide +kernel
theorem dX11_pour_103 : decode cX11_pour 103 = .ok (.iastore, 1) := by decide +kernel
theorem dX11_pour_104 : decode cX11_pour 104 = .ok (.aload_n 0, 1) := by decide +kernel
theorem dX11_pour_105 : decode cX11_pour 105 = .ok (.getfield 53, 3) := by decide +kernel
theorem dX11_pour_108 : decode cX11_pour 108 = .ok (.iconst 0, 1) := by decide +kernel
theorem dX11_pour_109 : decode cX11_pour 109 = .ok (.iload_n 2, 1) := by decide +kernel
theorem dX11_pour_110 : decode cX11_pour 110 = .ok (.iadd, 1) := by decide +kernel
theorem dX11_pour_111 : decode cX11_pour 111 = .ok (.dup2, 1) := by decide +kernel
theorem dX11_pour_112 : decode cX11_pour 112 = .ok (.iaload, 1) := by decide +kernel
theorem dX11_pour_113 : decode cX11_pour 113 = .ok (.iload 4, 2) := by decide +kernel
theorem dX11_pour_115 : decode cX11_pour 115 = .ok (.iadd, 1) := by decide +kernel
theorem dX11_pour_116 : decode cX11_pour 116 = .ok (.iastore, 1) := by decide +kernel
theorem dX11_pour_117 : decode cX11_pour 117 = .ok (.aload_n 0, 1) := by decide +kernel
theorem dX11_pour_118 : decode cX11_pour 118 = .ok (.getfield 53, 3) := by decide +kernel
theorem dX11_pour_121 : decode cX11_pour 121 = .ok (.bipush 12, 2) := by decide +kernel
theorem dX11_pour_123 : decode cX11_pour 123 = .ok (.iload_n 1, 1) := by decide +kernel
theorem dX11_pour_124 : decode cX11_pour 124 = .ok (.iadd, 1) := by decide +kernel
theorem dX11_pour_125 : decode cX11_pour 125 = .ok (.iconst 1, 1) := by decide +kernel
theorem dX11_pour_126 : decode cX11_pour 126 = .ok (.iastore, 1) := by decide +kernel
theorem dX11_pour_127 : decode cX11_pour 127 = .ok (.aload_n 0, 1) := by decide +kernel
theorem dX11_pour_128 : decode cX11_pour 128 = .ok (.getfield 53, 3) := by decide +kernel
theorem dX11_pour_131 : decode cX11_pour 131 = .ok (.bipush 12, 2) := by decide +kernel
theorem dX11_pour_133 : decode cX11_pour 133 = .ok (.iload_n 2, 1) := by decide +kernel
theorem dX11_pour_134 : decode cX11_pour 134 = .ok (.iadd, 1) := by decide +kernel
theorem dX11_pour_135 : decode cX11_pour 135 = .ok (.iconst 1, 1) := by decide +kernel
theorem dX11_pour_136 : decode cX11_pour 136 = .ok (.iastore, 1) := by decide +kernel
theorem dX11_pour_137 : decode cX11_pour 137 = .ok (.aload_n 0, 1) := by decide +kernel
theorem dX11_pour_138 : decode cX11_pour 138 = .ok (.iload_n 3, 1) := by decide +kernel
theorem dX11_pour_139 : decode cX11_pour 139 = .ok (.iload 4, 2) := by decide +kernel
theorem dX11_pour_141 : decode cX11_pour 141 = .ok (.isub, 1) := by decide +kernel
theorem dX11_pour_142 : decode cX11_pour 142 = .ok (.iload 4, 2) := by decide +kernel
theorem dX11_pour_144 : decode cX11_pour 144 = .ok (.invokevirtual 125, 3) := by decide +kernel
theorem dX11_pour_147 : decode cX11_pour 147 = .ok (.ireturn, 1) := by decide +kernel
theorem dX11_spend_0 : decode cX11_spend 0 = .ok (.aload_n 0, 1) := by decide +kernel
theorem dX11_spend_1 : decode cX11_spend 1 = .ok (.iload_n 1, 1) := by decide +kernel
theorem dX11_spend_2 : decode cX11_spend 2 = .ok (.invokevirtual 200, 3) := by decide +kernel
theorem dX11_spend_5 : decode cX11_spend 5 = .ok (.ifCond .eq 13, 3) := by decide +kernel
theorem dX11_spend_8 : decode cX11_spend 8 = .ok (.iload_n 2, 1) := by decide +kernel
theorem dX11_spend_9 : decode cX11_spend 9 = .ok (.iconst 1, 1) := by decide +kernel
theorem dX11_spend_10 : decode cX11_spend 10 = .ok (.bipush 20, 2) := by decide +kernel
theorem dX11_spend_12 : decode cX11_spend 12 = .ok (.invokestatic 106, 3) := by decide +kernel
theorem dX11_spend_15 : decode cX11_spend 15 = .ok (.ifCond .ne 5, 3) := by decide +kernel
theorem dX11_spend_18 : decode cX11_spend 18 = .ok (.iconst (-1), 1) := by decide +kernel
theorem dX11_spend_19 : decode cX11_spend 19 = .ok (.ireturn, 1) := by decide +kernel
theorem dX11_spend_20 : decode cX11_spend 20 = .ok (.aload_n 0, 1) := by decide +kernel
theorem dX11_spend_21 : decode cX11_spend 21 = .ok (.getfield 35, 3) := by decide +kernel
theorem dX11_spend_24 : decode cX11_spend 24 = .ok (.iload_n 1, 1) := by decide +kernel
theorem dX11_spend_25 : decode cX11_spend 25 = .ok (.iaload, 1) := by decide +kernel
theorem dX11_spend_26 : decode cX11_spend 26 = .ok (.invokestatic 209, 3) := by decide +kernel
theorem dX11_spend_29 : decode cX11_spend 29 = .ok (.iload_n 2, 1) := by decide +kernel
theorem dX11_spend_30 : decode cX11_spend 30 = .ok (.imul, 1) := by decide +kernel
theorem dX11_spend_31 : decode cX11_spend 31 = .ok (.istore_n 3, 1) := by decide +kernel
theorem dX11_spend_32 : decode cX11_spend 32 = .ok (.iload_n 3, 1) := by decide +kernel
theorem dX11_spend_33 : decode cX11_spend 33 = .ok (.aload_n 0, 1) := by decide +kernel
theorem dX11_spend_34 : decode cX11_spend 34 = .ok (.getfield 53, 3) := by decide +kernel
theorem dX11_spend_37 : decode cX11_spend 37 = .ok (.iconst 0, 1) := by decide +kernel
theorem dX11_spend_38 : decode cX11_spend 38 = .ok (.iload_n 1, 1) := by decide +kernel
theorem dX11_spend_39 : decode cX11_spend 39 = .ok (.iadd, 1) := by decide +kernel
theorem dX11_spend_40 : decode cX11_spend 40 = .ok (.iaload, 1) := by decide +kernel
theorem dX11_spend_41 : decode cX11_spend 41 = .ok (.if_icmp .le 6, 3) := by decide +kernel
theorem dX11_spend_44 : decode cX11_spend 44 = .ok (.bipush (-4), 2) := by decide +kernel
theorem dX11_spend_46 : decode cX11_spend 46 = .ok (.ireturn, 1) := by decide +kernel
theorem dX11_spend_47 : decode cX11_spend 47 = .ok (.aload_n 0, 1) := by decide +kernel
theorem dX11_spend_48 : decode cX11_spend 48 = .ok (.iconst 3, 1) := by decide +kernel
theorem dX11_spend_49 : decode cX11_spend 49 = .ok (.invokevirtual 224, 3) := by decide +kernel
theorem dX11_spend_52 : decode cX11_spend 52 = .ok (.aload_n 0, 1) := by decide +kernel
theorem dX11_spend_53 : decode cX11_spend 53 = .ok (.getfield 53, 3) := by decide +kernel
theorem dX11_spend_56 : decode cX11_spend 56 = .ok (.iconst 0, 1) := by decide +kernel
theorem dX11_spend_57 : decode cX11_spend 57 = .ok (.iload_n 1, 1) := by decide +kernel
theorem dX11_spend_58 : decode cX11_spend 58 = .ok (.iadd, 1) := by decide +kernel
theorem dX11_spend_59 : decode cX11_spend 59 = .ok (.dup2, 1) := by decide +kernel
theorem dX11_spend_60 : decode cX11_spend 60 = .ok (.iaload, 1) := by decide +kernel
theorem dX11_spend_61 : decode cX11_spend 61 = .ok (.iload_n 3, 1) := by decide +kernel
theorem dX11_spend_62 : decode cX11_spend 62 = .ok (.isub, 1) := by decide +kernel
theorem dX11_spend_63 : decode cX11_spend 63 = .ok (.iastore, 1) := by decide +kernel
theorem dX11_spend_64 : decode cX11_spend 64 = .ok (.aload_n 0, 1) := by decide +kernel
theorem dX11_spend_65 : decode cX11_spend 65 = .ok (.getfield 53, 3) := by decide +kernel
theorem dX11_spend_68 : decode cX11_spend 68 = .ok (.bipush 12, 2) := by decide +kernel
