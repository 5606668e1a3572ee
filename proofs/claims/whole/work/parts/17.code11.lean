theorem dX11_needs_95 : decode cX11_needs 95 = .ok (.if_icmp .ge 7, 3) := by decide +kernel
theorem dX11_needs_98 : decode cX11_needs 98 = .ok (.iload_n 3, 1) := by decide +kernel
theorem dX11_needs_99 : decode cX11_needs 99 = .ok (.goto 4, 3) := by decide +kernel
theorem dX11_needs_102 : decode cX11_needs 102 = .ok (.iload_n 2, 1) := by decide +kernel
theorem dX11_needs_103 : decode cX11_needs 103 = .ok (.istore_n 2, 1) := by decide +kernel
theorem dX11_needs_104 : decode cX11_needs 104 = .ok (.iinc 3 1, 3) := by decide +kernel
theorem dX11_needs_107 : decode cX11_needs 107 = .ok (.goto (-93), 3) := by decide +kernel
theorem dX11_needs_110 : decode cX11_needs 110 = .ok (.iload_n 2, 1) := by decide +kernel
theorem dX11_needs_111 : decode cX11_needs 111 = .ok (.bipush (-9), 2) := by decide +kernel
theorem dX11_needs_113 : decode cX11_needs 113 = .ok (.if_icmp .ne 8, 3) := by decide +kernel
theorem dX11_needs_116 : decode cX11_needs 116 = .ok (.bipush (-9), 2) := by decide +kernel
theorem dX11_needs_118 : decode cX11_needs 118 = .ok (.goto 12, 3) := by decide +kernel
theorem dX11_needs_121 : decode cX11_needs 121 = .ok (.aload_n 0, 1) := by decide +kernel
theorem dX11_needs_122 : decode cX11_needs 122 = .ok (.iload_n 2, 1) := by decide +kernel
theorem dX11_needs_123 : decode cX11_needs 123 = .ok (.iload_n 2, 1) := by decide +kernel
theorem dX11_needs_124 : decode cX11_needs 124 = .ok (.invokestatic 249, 3) := by decide +kernel
theorem dX11_needs_127 : decode cX11_needs 127 = .ok (.invokevirtual 125, 3) := by decide +kernel
theorem dX11_needs_130 : decode cX11_needs 130 = .ok (.ireturn, 1) := by decide +kernel
theorem dX11_leftOf_0 : decode cX11_leftOf 0 = .ok (.iload_n 0, 1) := by decide +kernel
theorem dX11_leftOf_1 : decode cX11_leftOf 1 = .ok (.istore_n 3, 1) := by decide +kernel
theorem dX11_leftOf_2 : decode cX11_leftOf 2 = .ok (.iconst 0, 1) := by decide +kernel
theorem dX11_leftOf_3 : decode cX11_leftOf 3 = .ok (.istore 4, 2) := by decide +kernel
theorem dX11_leftOf_5 : decode cX11_leftOf 5 = .ok (.iload 4, 2) := by decide +kernel
theorem dX11_leftOf_7 : decode cX11_leftOf 7 = .ok (.iload_n 2, 1) := by decide +kernel
theorem dX11_leftOf_8 : decode cX11_leftOf 8 = .ok (.if_icmp .ge 33, 3) := by decide +kernel
theorem dX11_leftOf_11 : decode cX11_leftOf 11 = .ok (.iload_n 3, 1) := by decide +kernel
theorem dX11_leftOf_12 : decode cX11_leftOf 12 = .ok (.ifCond .lt 29, 3) := by decide +kernel
theorem dX11_leftOf_15 : decode cX11_leftOf 15 = .ok (.iload_n 3, 1) := by decide +kernel
theorem dX11_leftOf_16 : decode cX11_leftOf 16 = .ok (.iload 4, 2) := by decide +kernel
theorem dX11_leftOf_18 : decode cX11_leftOf 18 = .ok (.ifCond .le 10, 3) := by decide +kernel
theorem dX11_leftOf_21 : decode cX11_leftOf 21 = .ok (.iload_n 3, 1) := by decide +kernel
theorem dX11_leftOf_22 : decode cX11_leftOf 22 = .ok (.invokestatic 193, 3) := by decide +kernel
theorem dX11_leftOf_25 : decode cX11_leftOf 25 = .ok (.goto 4, 3) := by decide +kernel
theorem dX11_leftOf_28 : decode cX11_leftOf 28 = .ok (.iconst 0, 1) := by decide +kernel
theorem dX11_leftOf_29 : decode cX11_leftOf 29 = .ok (.isub, 1) := by decide +kernel
theorem dX11_leftOf_30 : decode cX11_leftOf 30 = .ok (.istore_n 3, 1) := by decide +kernel
theorem dX11_leftOf_31 : decode cX11_leftOf 31 = .ok (.iload_n 3, 1) := by decide +kernel
theorem dX11_leftOf_32 : decode cX11_leftOf 32 = .ok (.iload_n 1, 1) := by decide +kernel
theorem dX11_leftOf_33 : decode cX11_leftOf 33 = .ok (.isub, 1) := by decide +kernel
theorem dX11_leftOf_34 : decode cX11_leftOf 34 = .ok (.istore_n 3, 1) := by decide +kernel
theorem dX11_leftOf_35 : decode cX11_leftOf 35 = .ok (.iinc 4 1, 3) := by decide +kernel
theorem dX11_leftOf_38 : decode cX11_leftOf 38 = .ok (.goto (-33), 3) := by decide +kernel
theorem dX11_leftOf_41 : decode cX11_leftOf 41 = .ok (.iload_n 3, 1) := by decide +kernel
theorem dX11_leftOf_42 : decode cX11_leftOf 42 = .ok (.ireturn, 1) := by decide +kernel
theorem dX11_store_0 : decode cX11_store 0 = .ok (.iload_n 1, 1) := by decide +kernel
theorem dX11_store_1 : decode cX11_store 1 = .ok (.iconst 1, 1) := by decide +kernel
theorem dX11_store_2 : decode cX11_store 2 = .ok (.bipush 9, 2) := by decide +kernel
theorem dX11_store_4 : decode cX11_store 4 = .ok (.invokestatic 106, 3) := by decide +kernel
theorem dX11_store_7 : decode cX11_store 7 = .ok (.ifCond .eq 13, 3) := by decide +kernel
theorem dX11_store_10 : decode cX11_store 10 = .ok (.iload_n 2, 1) := by decide +kernel
theorem dX11_store_11 : decode cX11_store 11 = .ok (.iconst 1, 1) := by decide +kernel
theorem dX11_store_12 : decode cX11_store 12 = .ok (.bipush 20, 2) := by decide +kernel
theorem dX11_store_14 : decode cX11_store 14 = .ok (.invokestatic 106, 3) := by decide +kernel
theorem dX11_store_17 : decode cX11_store 17 = .ok (.ifCond .ne 5, 3) := by decide +kernel
theorem dX11_store_20 : decode cX11_store 20 = .ok (.iconst (-1), 1) := by decide +kernel
theorem dX11_store_21 : decode cX11_store 21 = .ok (.ireturn, 1) := by decide +kernel
theorem dX11_store_22 : decode cX11_store 22 = .ok (.iload_n 1, 1) := by decide +kernel
theorem dX11_store_23 : decode cX11_store 23 = .ok (.istore_n 3, 1) := by decide +kernel
theorem dX11_store_24 : decode cX11_store 24 = .ok (.iload_n 3, 1) := by decide +kernel
theorem dX11_store_25 : decode cX11_store 25 = .ok (.iload_n 1, 1) := by decide +kernel
theorem dX11_store_26 : decode cX11_store 26 = .ok (.iload_n 2, 1) := by decide +kernel
theorem dX11_store_27 : decode cX11_store 27 = .ok (.invokestatic 252, 3) := by decide +kernel
theorem dX11_store_30 : decode cX11_store 30 = .ok (.ifCond .ge 9, 3) := by decide +kernel
theorem dX11_store_33 : decode cX11_store 33 = .ok (.iinc 3 1, 3) := by decide +kernel
theorem dX11_store_36 : decode cX11_store 36 = .ok (.goto (-12), 3) := by decide +kernel
theorem dX11_store_39 : decode cX11_store 39 = .ok (.aload_n 0, 1) := by decide +kernel
theorem dX11_store_40 : decode cX11_store 40 = .ok (.iload_n 3, 1) := by decide +kernel
theorem dX11_store_41 : decode cX11_store 41 = .ok (.iload_n 1, 1) := by decide +kernel
theorem dX11_store_42 : decode cX11_store 42 = .ok (.iload_n 2, 1) := by decide +kernel
theorem dX11_store_43 : decode cX11_store 43 = .ok (.invokestatic 252, 3) := by decide +kernel
theorem dX11_store_46 : decode cX11_store 46 = .ok (.iload_n 3, 1) := by decide +kernel
theorem dX11_store_47 : decode cX11_store 47 = .ok (.invokevirtual 125, 3) := by decide +kernel
theorem dX11_store_50 : decode cX11_store 50 = .ok (.ireturn, 1) := by decide +kernel
theorem dX11_code_0 : decode cX11_code 0 = .ok (.iconst 0, 1) := by decide +kernel
theorem dX11_code_1 : decode cX11_code 1 = .ok (.istore_n 1, 1) := by decide +kernel
theorem dX11_code_2 : decode cX11_code 2 = .ok (.aload_n 0, 1) := by decide +kernel
theorem dX11_code_3 : decode cX11_code 3 = .ok (.getfield 256, 3) := by decide +kernel
theorem dX11_code_6 : decode cX11_code 6 = .ok (.iconst 1, 1) := by decide +kernel
theorem dX11_code_7 : decode cX11_code 7 = .ok (.isub, 1) := by decide +kernel
theorem dX11_code_8 : decode cX11_code 8 = .ok (.istore_n 2, 1) := by decide +kernel
theorem dX11_code_9 : decode cX11_code 9 = .ok (.iload_n 2, 1) := by decide +kernel
theorem dX11_code_10 : decode cX11_code 10 = .ok (.ifCond .lt 21, 3) := by decide +kernel
theorem dX11_code_13 : decode cX11_code 13 = .ok (.bipush 21, 2) := by decide +kernel
theorem dX11_code_15 : decode cX11_code 15 = .ok (.iload_n 1, 1) := by decide +kernel
theorem dX11_code_16 : decode cX11_code 16 = .ok (.imul, 1) := by decide +kernel
theorem dX11_code_17 : decode cX11_code 17 = .ok (.aload_n 0, 1) := by decide +kernel
theorem dX11_code_18 : decode cX11_code 18 = .ok (.getfield 72, 3) := by decide +kernel
theorem dX11_code_21 : decode cX11_code 21 = .ok (.iload_n 2, 1) := by decide +kernel
theorem dX11_code_22 : decode cX11_code 22 = .ok (.iaload, 1) := by decide +kernel
theorem dX11_code_23 : decode cX11_code 23 = .ok (.iadd, 1) := by decide +kernel
theorem dX11_code_24 : decode cX11_code 24 = .ok (.istore_n 1, 1) := by decide +kernel
theorem dX11_code_25 : decode cX11_code 25 = .ok (.iinc 2 (-1), 3) := by decide +kernel
theorem dX11_code_28 : decode cX11_code 28 = .ok (.goto (-19), 3) := by decide +kernel
theorem dX11_code_31 : decode cX11_code 31 = .ok (.iload_n 1, 1) := by decide +kernel
theorem dX11_code_32 : decode cX11_code 32 = .ok (.ireturn, 1) := by decide +kernel
theorem dX11_look_0 : decode cX11_look 0 = .ok (.iload_n 1, 1) := by decide +kernel
theorem dX11_look_1 : decode cX11_look 1 = .ok (.istore_n 2, 1) := by decide +kernel
theorem dX11_look_2 : decode cX11_look 2 = .ok (.iconst 0, 1) := by decide +kernel
theorem dX11_look_3 : decode cX11_look 3 = .ok (.istore_n 3, 1) := by decide +kernel
theorem dX11_look_4 : decode cX11_look 4 = .ok (.iload_n 3, 1) := by decide +kernel
theorem dX11_look_5 : decode cX11_look 5 = .ok (.aload_n 0, 1) := by decide +kernel
theorem dX11_look_6 : decode cX11_look 6 = .ok (.getfield 256, 3) := by decide +kernel
theorem dX11_look_9 : decode cX11_look 9 = .ok (.if_icmp .ge 24, 3) := by decide +kernel
theorem dX11_look_12 : decode cX11_look 12 = .ok (.aload_n 0, 1) := by decide +kernel
theorem dX11_look_13 : decode cX11_look 13 = .ok (.getfield 72, 3) := by decide +kernel
theorem dX11_look_16 : decode cX11_look 16 = .ok (.iload_n 3, 1) := by decide +kernel
theorem dX11_look_17 : decode cX11_look 17 = .ok (.iload_n 2, 1) := by decide +kernel
theorem dX11_look_18 : decode cX11_look 18 = .ok (.bipush 21, 2) := by decide +kernel
theorem dX11_look_20 : decode cX11_look 20 = .ok (.irem, 1) := by decide +kernel
theorem dX11_look_21 : decode cX11_look 21 = .ok (.iastore, 1) := by decide +kernel
theorem dX11_look_22 : decode cX11_look 22 = .ok (.iload_n 2, 1) := by decide +kernel
theorem dX11_look_23 : decode cX11_look 23 = .ok (.bipush 21, 2) := by decide +kernel
theorem dX11_look_25 : decode cX11_look 25 = .ok (.idiv, 1) := by decide +kernel
theorem dX11_look_26 : decode cX11_look 26 = .ok (.istore_n 2, 1) := by decide +kernel
theorem dX11_look_27 : decode cX11_look 27 = .ok (.iinc 3 1, 3) := by decide +kernel
theorem dX11_look_30 : decode cX11_look 30 = .ok (.goto (-26), 3) := by decide +kernel
theorem dX11_look_33 : decode cX11_look 33 = .ok (.return_, 1) := by decide +kernel
theorem dX11_layHere_0 : decode cX11_layHere 0 = .ok (.aload_n 0, 1) := by decide +kernel
theorem dX11_layHere_1 : decode cX11_layHere 1 = .ok (.iconst 0, 1) := by decide +kernel
theorem dX11_layHere_2 : decode cX11_layHere 2 = .ok (.putfield 256, 3) := by decide +kernel
theorem dX11_layHere_5 : decode cX11_layHere 5 = .ok (.iconst 0, 1) := by decide +kernel
theorem dX11_layHere_6 : decode cX11_layHere 6 = .ok (.istore_n 2, 1) := by decide +kernel
theorem dX11_layHere_7 : decode cX11_layHere 7 = .ok (.iload_n 2, 1) := by decide +kernel
theorem dX11_layHere_8 : decode cX11_layHere 8 = .ok (.aload_n 0, 1) := by decide +kernel
theorem dX11_layHere_9 : decode cX11_layHere 9 = .ok (.getfield 184, 3) := by decide +kernel
theorem dX11_layHere_12 : decode cX11_layHere 12 = .ok (.if_icmp .ge 50, 3) := by decide +kernel
theorem dX11_layHere_15 : decode cX11_layHere 15 = .ok (.aload_n 0, 1) := by decide +kernel
theorem dX11_layHere_16 : decode cX11_layHere 16 = .ok (.getfield 53, 3) := by decide +kernel
theorem dX11_layHere_19 : decode cX11_layHere 19 = .ok (.bipush 6, 2) := by decide +kernel
theorem dX11_layHere_21 : decode cX11_layHere 21 = .ok (.iload_n 2, 1) := by decide +kernel
theorem dX11_layHere_22 : decode cX11_layHere 22 = .ok (.iadd, 1) := by decide +kernel
theorem dX11_layHere_23 : decode cX11_layHere 23 = .ok (.iaload, 1) := by decide +kernel
theorem dX11_layHere_24 : decode cX11_layHere 24 = .ok (.aload_n 0, 1) := by decide +kernel
theorem dX11_layHere_25 : decode cX11_layHere 25 = .ok (.getfield 53, 3) := by decide +kernel
theorem dX11_layHere_28 : decode cX11_layHere 28 = .ok (.bipush 6, 2) := by decide +kernel
theorem dX11_layHere_30 : decode cX11_layHere 30 = .ok (.iload_n 1, 1) := by decide +kernel
theorem dX11_layHere_31 : decode cX11_layHere 31 = .ok (.iadd, 1) := by decide +kernel
theorem dX11_layHere_32 : decode cX11_layHere 32 = .ok (.iaload, 1) := by decide +kernel
theorem dX11_layHere_33 : decode cX11_layHere 33 = .ok (.if_icmp .ne 23, 3) := by decide +kernel
theorem dX11_layHere_36 : decode cX11_layHere 36 = .ok (.aload_n 0, 1) := by decide +kernel
theorem dX11_layHere_37 : decode cX11_layHere 37 = .ok (.getfield 69, 3) := by decide +kernel
theorem dX11_layHere_40 : decode cX11_layHere 40 = .ok (.aload_n 0, 1) := by decide +kernel
theorem dX11_layHere_41 : decode cX11_layHere 41 = .ok (.getfield 256, 3) := by decide +kernel
theorem dX11_layHere_44 : decode cX11_layHere 44 = .ok (.iload_n 2, 1) := by decide +kernel
theorem dX11_layHere_45 : decode cX11_layHere 45 = .ok (.iastore, 1) := by decide +kernel
theorem dX11_layHere_46 : decode cX11_layHere 46 = .ok (.aload_n 0, 1) := by decide +kernel
theorem dX11_layHere_47 : decode cX11_layHere 47 = .ok (.dup, 1) := by decide +kernel
theorem dX11_layHere_48 : decode cX11_layHere 48 = .ok (.getfield 256, 3) := by decide +kernel
theorem dX11_layHere_51 : decode cX11_layHere 51 = .ok (.iconst 1, 1) := by decide +kernel
theorem dX11_layHere_52 : decode cX11_layHere 52 = .ok (.iadd, 1) := by decide +kernel
theorem dX11_layHere_53 : decode cX11_layHere 53 = .ok (.putfield 256, 3) := by decide +kernel
theorem dX11_layHere_56 : decode cX11_layHere 56 = .ok (.iinc 2 1, 3) := by decide +kernel
theorem dX11_layHere_59 : decode cX11_layHere 59 = .ok (.goto (-52), 3) := by decide +kernel
theorem dX11_layHere_62 : decode cX11_layHere 62 = .ok (.return_, 1) := by decide +kernel
theorem dX11_layStates_0 : decode cX11_layStates 0 = .ok (.iconst 0, 1) := by decide +kernel
theorem dX11_layStates_1 : decode cX11_layStates 1 = .ok (.istore_n 1, 1) := by decide +kernel
theorem dX11_layStates_2 : decode cX11_layStates 2 = .ok (.iload_n 1, 1) := by decide +kernel
theorem dX11_layStates_3 : decode cX11_layStates 3 = .ok (.sipush 9261, 3) := by decide +kernel
theorem dX11_layStates_6 : decode cX11_layStates 6 = .ok (.if_icmp .ge 17, 3) := by decide +kernel
theorem dX11_layStates_9 : decode cX11_layStates 9 = .ok (.aload_n 0, 1) := by decide +kernel
theorem dX11_layStates_10 : decode cX11_layStates 10 = .ok (.getfield 75, 3) := by decide +kernel
theorem dX11_layStates_13 : decode cX11_layStates 13 = .ok (.iload_n 1, 1) := by decide +kernel
theorem dX11_layStates_14 : decode cX11_layStates 14 = .ok (.bipush (-9), 2) := by decide +kernel
theorem dX11_layStates_16 : decode cX11_layStates 16 = .ok (.iastore, 1) := by decide +kernel
theorem dX11_layStates_17 : decode cX11_layStates 17 = .ok (.iinc 1 1, 3) := by decide +kernel
theorem dX11_layStates_20 : decode cX11_layStates 20 = .ok (.goto (-18), 3) := by decide +kernel
theorem dX11_layStates_23 : decode cX11_layStates 23 = .ok (.iconst 0, 1) := by decide +kernel
theorem dX11_layStates_24 : decode cX11_layStates 24 = .ok (.istore_n 1, 1) := by decide +kernel
theorem dX11_layStates_25 : decode cX11_layStates 25 = .ok (.iload_n 1, 1) := by decide +kernel
theorem dX11_layStates_26 : decode cX11_layStates 26 = .ok (.aload_n 0, 1) := by decide +kernel
theorem dX11_layStates_27 : decode cX11_layStates 27 = .ok (.getfield 256, 3) := by decide +kernel
theorem dX11_layStates_30 : decode cX11_layStates 30 = .ok (.if_icmp .ge 28, 3) := by decide +kernel
theorem dX11_layStates_33 : decode cX11_layStates 33 = .ok (.aload_n 0, 1) := by decide +kernel
theorem dX11_layStates_34 : decode cX11_layStates 34 = .ok (.getfield 72, 3) := by decide +kernel
theorem dX11_layStates_37 : decode cX11_layStates 37 = .ok (.iload_n 1, 1) := by decide +kernel
theorem dX11_layStates_38 : decode cX11_layStates 38 = .ok (.aload_n 0, 1) := by decide +kernel
theorem dX11_layStates_39 : decode cX11_layStates 39 = .ok (.getfield 53, 3) := by decide +kernel
theorem dX11_layStates_42 : decode cX11_layStates 42 = .ok (.iconst 0, 1) := by decide +kernel
theorem dX11_layStates_43 : decode cX11_layStates 43 = .ok (.aload_n 0, 1) := by decide +kernel
theorem dX11_layStates_44 : decode cX11_layStates 44 = .ok (.getfield 69, 3) := by decide +kernel
theorem dX11_layStates_47 : decode cX11_layStates 47 = .ok (.iload_n 1, 1) := by decide +kernel
theorem dX11_layStates_48 : decode cX11_layStates 48 = .ok (.iaload, 1) := by decide +kernel
theorem dX11_layStates_49 : decode cX11_layStates 49 = .ok (.iadd, 1) := by decide +kernel
theorem dX11_layStates_50 : decode cX11_layStates 50 = .ok (.iaload, 1) := by decide +kernel
theorem dX11_layStates_51 : decode cX11_layStates 51 = .ok (.iastore, 1) := by decide +kernel
theorem dX11_layStates_52 : decode cX11_layStates 52 = .ok (.iinc 1 1, 3) := by decide +kernel
theorem dX11_layStates_55 : decode cX11_layStates 55 = .ok (.goto (-30), 3) := by decide +kernel
theorem dX11_layStates_58 : decode cX11_layStates 58 = .ok (.aload_n 0, 1) := by decide +kernel
theorem dX11_layStates_59 : decode cX11_layStates 59 = .ok (.getfield 78, 3) := by decide +kernel
theorem dX11_layStates_62 : decode cX11_layStates 62 = .ok (.iconst 0, 1) := by decide +kernel
theorem dX11_layStates_63 : decode cX11_layStates 63 = .ok (.aload_n 0, 1) := by decide +kernel
theorem dX11_layStates_64 : decode cX11_layStates 64 = .ok (.invokevirtual 259, 3) := by decide +kernel
theorem dX11_layStates_67 : decode cX11_layStates 67 = .ok (.iastore, 1) := by decide +kernel
theorem dX11_layStates_68 : decode cX11_layStates 68 = .ok (.aload_n 0, 1) := by decide +kernel
theorem dX11_layStates_69 : decode cX11_layStates 69 = .ok (.getfield 75, 3) := by decide +kernel
theorem dX11_layStates_72 : decode cX11_layStates 72 = .ok (.aload_n 0, 1) := by decide +kernel
theorem dX11_layStates_73 : decode cX11_layStates 73 = .ok (.getfield 78, 3) := by decide +kernel
theorem dX11_layStates_76 : decode cX11_layStates 76 = .ok (.iconst 0, 1) := by decide +kernel
theorem dX11_layStates_77 : decode cX11_layStates 77 = .ok (.iaload, 1) := by decide +kernel
theorem dX11_layStates_78 : decode cX11_layStates 78 = .ok (.iconst 0, 1) := by decide +kernel
theorem dX11_layStates_79 : decode cX11_layStates 79 = .ok (.iastore, 1) := by decide +kernel
theorem dX11_layStates_80 : decode cX11_layStates 80 = .ok (.aload_n 0, 1) := by decide +kernel
theorem dX11_layStates_81 : decode cX11_layStates 81 = .ok (.iconst 1, 1) := by decide +kernel
theorem dX11_layStates_82 : decode cX11_layStates 82 = .ok (.putfield 263, 3) := by decide +kernel
theorem dX11_layStates_85 : decode cX11_layStates 85 = .ok (.iconst 0, 1) := by decide +kernel
theorem dX11_layStates_86 : decode cX11_layStates 86 = .ok (.istore_n 1, 1) := by decide +kernel
theorem dX11_layStates_87 : decode cX11_layStates 87 = .ok (.iload_n 1, 1) := by decide +kernel
theorem dX11_layStates_88 : decode cX11_layStates 88 = .ok (.aload_n 0, 1) := by decide +kernel
theorem dX11_layStates_89 : decode cX11_layStates 89 = .ok (.getfield 263, 3) := by decide +kernel
theorem dX11_layStates_92 : decode cX11_layStates 92 = .ok (.if_icmp .ge 68, 3) := by decide +kernel
theorem dX11_layStates_95 : decode cX11_layStates 95 = .ok (.iconst 0, 1) := by decide +kernel
theorem dX11_layStates_96 : decode cX11_layStates 96 = .ok (.istore_n 2, 1) := by decide +kernel
theorem dX11_layStates_97 : decode cX11_layStates 97 = .ok (.iload_n 2, 1) := by decide +kernel
theorem dX11_layStates_98 : decode cX11_layStates 98 = .ok (.aload_n 0, 1) := by decide +kernel
theorem dX11_layStates_99 : decode cX11_layStates 99 = .ok (.getfield 256, 3) := by decide +kernel
theorem dX11_layStates_102 : decode cX11_layStates 102 = .ok (.if_icmp .ge 52, 3) := by decide +kernel
theorem dX11_layStates_105 : decode cX11_layStates 105 = .ok (.iconst 0, 1) := by decide +kernel
theorem dX11_layStates_106 : decode cX11_layStates 106 = .ok (.istore_n 3, 1) := by decide +kernel
theorem dX11_layStates_107 : decode cX11_layStates 107 = .ok (.iload_n 3, 1) := by decide +kernel
theorem dX11_layStates_108 : decode cX11_layStates 108 = .ok (.aload_n 0, 1) := by decide +kernel
theorem dX11_layStates_109 : decode cX11_layStates 109 = .ok (.getfield 256, 3) := by decide +kernel
theorem dX11_layStates_112 : decode cX11_layStates 112 = .ok (.if_icmp .ge 36, 3) := by decide +kernel
theorem dX11_layStates_115 : decode cX11_layStates 115 = .ok (.aload_n 0, 1) := by decide +kernel
theorem dX11_layStates_116 : decode cX11_layStates 116 = .ok (.aload_n 0, 1) := by decide +kernel
theorem dX11_layStates_117 : decode cX11_layStates 117 = .ok (.getfield 78, 3) := by decide +kernel
theorem dX11_layStates_120 : decode cX11_layStates 120 = .ok (.iload_n 1, 1) := by decide +kernel
theorem dX11_layStates_121 : decode cX11_layStates 121 = .ok (.iaload, 1) := by decide +kernel
theorem dX11_layStates_122 : decode cX11_layStates 122 = .ok (.invokevirtual 266, 3) := by decide +kernel
theorem dX11_layStates_125 : decode cX11_layStates 125 = .ok (.iload_n 2, 1) := by decide +kernel
theorem dX11_layStates_126 : decode cX11_layStates 126 = .ok (.iload_n 3, 1) := by decide +kernel
theorem dX11_layStates_127 : decode cX11_layStates 127 = .ok (.if_icmp .eq 15, 3) := by decide +kernel
theorem dX11_layStates_130 : decode cX11_layStates 130 = .ok (.aload_n 0, 1) := by decide +kernel
theorem dX11_layStates_131 : decode cX11_layStates 131 = .ok (.aload_n 0, 1) := by decide +kernel
theorem dX11_layStates_132 : decode cX11_layStates 132 = .ok (.getfield 78, 3) := by decide +kernel
theorem dX11_layStates_135 : decode cX11_layStates 135 = .ok (.iload_n 1, 1) := by decide +kernel
theorem dX11_layStates_136 : decode cX11_layStates 136 = .ok (.iaload, 1) := by decide +kernel
theorem dX11_layStates_137 : decode cX11_layStates 137 = .ok (.iload_n 2, 1) := by decide +kernel
theorem dX11_layStates_138 : decode cX11_layStates 138 = .ok (.iload_n 3, 1) := by decide +kernel
theorem dX11_layStates_139 : decode cX11_layStates 139 = .ok (.invokevirtual 269, 3) := by decide +kernel
theorem dX11_layStates_142 : decode cX11_layStates 142 = .ok (.iinc 3 1, 3) := by decide +kernel
theorem dX11_layStates_145 : decode cX11_layStates 145 = .ok (.goto (-38), 3) := by decide +kernel
theorem dX11_layStates_148 : decode cX11_layStates 148 = .ok (.iinc 2 1, 3) := by decide +kernel
theorem dX11_layStates_151 : decode cX11_layStates 151 = .ok (.goto (-54), 3) := by decide +kernel
theorem dX11_layStates_154 : decode cX11_layStates 154 = .ok (.iinc 1 1, 3) := by decide +kernel
theorem dX11_layStates_157 : decode cX11_layStates 157 = .ok (.goto (-70), 3) := by decide +kernel
theorem dX11_layStates_160 : decode cX11_layStates 160 = .ok (.return_, 1) := by decide +kernel
theorem dX11_step_0 : decode cX11_step 0 = .ok (.aload_n 0, 1) := by decide +kernel
theorem dX11_step_1 : decode cX11_step 1 = .ok (.getfield 72, 3) := by decide +kernel
theorem dX11_step_4 : decode cX11_step 4 = .ok (.iload_n 2, 1) := by decide +kernel
theorem dX11_step_5 : decode cX11_step 5 = .ok (.iaload, 1) := by decide +kernel
theorem dX11_step_6 : decode cX11_step 6 = .ok (.aload_n 0, 1) := by decide +kernel
theorem dX11_step_7 : decode cX11_step 7 = .ok (.getfield 38, 3) := by decide +kernel
theorem dX11_step_10 : decode cX11_step 10 = .ok (.aload_n 0, 1) := by decide +kernel
theorem dX11_step_11 : decode cX11_step 11 = .ok (.getfield 69, 3) := by decide +kernel
theorem dX11_step_14 : decode cX11_step 14 = .ok (.iload_n 3, 1) := by decide +kernel
theorem dX11_step_15 : decode cX11_step 15 = .ok (.iaload, 1) := by decide +kernel
theorem dX11_step_16 : decode cX11_step 16 = .ok (.iaload, 1) := by decide +kernel
theorem dX11_step_17 : decode cX11_step 17 = .ok (.aload_n 0, 1) := by decide +kernel
theorem dX11_step_18 : decode cX11_step 18 = .ok (.getfield 72, 3) := by decide +kernel
theorem dX11_step_21 : decode cX11_step 21 = .ok (.iload_n 3, 1) := by decide +kernel
theorem dX11_step_22 : decode cX11_step 22 = .ok (.iaload, 1) := by decide +kernel
theorem dX11_step_23 : decode cX11_step 23 = .ok (.isub, 1) := by decide +kernel
theorem dX11_step_24 : decode cX11_step 24 = .ok (.invokestatic 228, 3) := by decide +kernel
theorem dX11_step_27 : decode cX11_step 27 = .ok (.istore 4, 2) := by decide +kernel
theorem dX11_step_29 : decode cX11_step 29 = .ok (.iload 4, 2) := by decide +kernel
theorem dX11_step_31 : decode cX11_step 31 = .ok (.iload 4, 2) := by decide +kernel
theorem dX11_step_33 : decode cX11_step 33 = .ok (.invokestatic 193, 3) := by decide +kernel
theorem dX11_step_36 : decode cX11_step 36 = .ok (.isub, 1) := by decide +kernel
theorem dX11_step_37 : decode cX11_step 37 = .ok (.istore 5, 2) := by decide +kernel
theorem dX11_step_39 : decode cX11_step 39 = .ok (.iload 5, 2) := by decide +kernel
theorem dX11_step_41 : decode cX11_step 41 = .ok (.ifCond .le 110, 3) := by decide +kernel
theorem dX11_step_44 : decode cX11_step 44 = .ok (.aload_n 0, 1) := by decide +kernel
theorem dX11_step_45 : decode cX11_step 45 = .ok (.getfield 72, 3) := by decide +kernel
theorem dX11_step_48 : decode cX11_step 48 = .ok (.iload_n 2, 1) := by decide +kernel
theorem dX11_step_49 : decode cX11_step 49 = .ok (.dup2, 1) := by decide +kernel
theorem dX11_step_50 : decode cX11_step 50 = .ok (.iaload, 1) := by decide +kernel
theorem dX11_step_51 : decode cX11_step 51 = .ok (.iload 4, 2) := by decide +kernel
theorem dX11_step_53 : decode cX11_step 53 = .ok (.isub, 1) := by decide +kernel
theorem dX11_step_54 : decode cX11_step 54 = .ok (.iastore, 1) := by decide +kernel
theorem dX11_step_55 : decode cX11_step 55 = .ok (.aload_n 0, 1) := by decide +kernel
theorem dX11_step_56 : decode cX11_step 56 = .ok (.getfield 72, 3) := by decide +kernel
theorem dX11_step_59 : decode cX11_step 59 = .ok (.iload_n 3, 1) := by decide +kernel
theorem dX11_step_60 : decode cX11_step 60 = .ok (.dup2, 1) := by decide +kernel
theorem dX11_step_61 : decode cX11_step 61 = .ok (.iaload, 1) := by decide +kernel
theorem dX11_step_62 : decode cX11_step 62 = .ok (.iload 5, 2) := by decide +kernel
theorem dX11_step_64 : decode cX11_step 64 = .ok (.iadd, 1) := by decide +kernel
theorem dX11_step_65 : decode cX11_step 65 = .ok (.iastore, 1) := by decide +kernel
theorem dX11_step_66 : decode cX11_step 66 = .ok (.aload_n 0, 1) := by decide +kernel
theorem dX11_step_67 : decode cX11_step 67 = .ok (.invokevirtual 259, 3) := by decide +kernel
theorem dX11_step_70 : decode cX11_step 70 = .ok (.istore 6, 2) := by decide +kernel
theorem dX11_step_72 : decode cX11_step 72 = .ok (.aload_n 0, 1) := by decide +kernel
theorem dX11_step_73 : decode cX11_step 73 = .ok (.getfield 75, 3) := by decide +kernel
theorem dX11_step_76 : decode cX11_step 76 = .ok (.iload 6, 2) := by decide +kernel
theorem dX11_step_78 : decode cX11_step 78 = .ok (.iaload, 1) := by decide +kernel
theorem dX11_step_79 : decode cX11_step 79 = .ok (.bipush (-9), 2) := by decide +kernel
theorem dX11_step_81 : decode cX11_step 81 = .ok (.if_icmp .ne 70, 3) := by decide +kernel
theorem dX11_step_84 : decode cX11_step 84 = .ok (.aload_n 0, 1) := by decide +kernel
theorem dX11_step_85 : decode cX11_step 85 = .ok (.getfield 75, 3) := by decide +kernel
theorem dX11_step_88 : decode cX11_step 88 = .ok (.iload 6, 2) := by decide +kernel
theorem dX11_step_90 : decode cX11_step 90 = .ok (.aload_n 0, 1) := by decide +kernel
theorem dX11_step_91 : decode cX11_step 91 = .ok (.getfield 75, 3) := by decide +kernel
theorem dX11_step_94 : decode cX11_step 94 = .ok (.iload_n 1, 1) := by decide +kernel
theorem dX11_step_95 : decode cX11_step 95 = .ok (.iaload, 1) := by decide +kernel
theorem dX11_step_96 : decode cX11_step 96 = .ok (.iconst 1, 1) := by decide +kernel
theorem dX11_step_97 : decode cX11_step 97 = .ok (.iadd, 1) := by decide +kernel
theorem dX11_step_98 : decode cX11_step 98 = .ok (.iastore, 1) := by decide +kernel
theorem dX11_step_99 : decode cX11_step 99 = .ok (.aload_n 0, 1) := by decide +kernel
theorem dX11_step_100 : decode cX11_step 100 = .ok (.getfield 81, 3) := by decide +kernel
theorem dX11_step_103 : decode cX11_step 103 = .ok (.iload 6, 2) := by decide +kernel
theorem dX11_step_105 : decode cX11_step 105 = .ok (.iload_n 1, 1) := by decide +kernel
theorem dX11_step_106 : decode cX11_step 106 = .ok (.iastore, 1) := by decide +kernel
theorem dX11_step_107 : decode cX11_step 107 = .ok (.aload_n 0, 1) := by decide +kernel
theorem dX11_step_108 : decode cX11_step 108 = .ok (.getfield 84, 3) := by decide +kernel
theorem dX11_step_111 : decode cX11_step 111 = .ok (.iload 6, 2) := by decide +kernel
theorem dX11_step_113 : decode cX11_step 113 = .ok (.bipush 6, 2) := by decide +kernel
theorem dX11_step_115 : decode cX11_step 115 = .ok (.aload_n 0, 1) := by decide +kernel
theorem dX11_step_116 : decode cX11_step 116 = .ok (.getfield 69, 3) := by decide +kernel
theorem dX11_step_119 : decode cX11_step 119 = .ok (.iload_n 2, 1) := by decide +kernel
theorem dX11_step_120 : decode cX11_step 120 = .ok (.iaload, 1) := by decide +kernel
theorem dX11_step_121 : decode cX11_step 121 = .ok (.imul, 1) := by decide +kernel
theorem dX11_step_122 : decode cX11_step 122 = .ok (.aload_n 0, 1) := by decide +kernel
theorem dX11_step_123 : decode cX11_step 123 = .ok (.getfield 69, 3) := by decide +kernel
theorem dX11_step_126 : decode cX11_step 126 = .ok (.iload_n 3, 1) := by decide +kernel
theorem dX11_step_127 : decode cX11_step 127 = .ok (.iaload, 1) := by decide +kernel
theorem dX11_step_128 : decode cX11_step 128 = .ok (.iadd, 1) := by decide +kernel
theorem dX11_step_129 : decode cX11_step 129 = .ok (.iastore, 1) := by decide +kernel
theorem dX11_step_130 : decode cX11_step 130 = .ok (.aload_n 0, 1) := by decide +kernel
theorem dX11_step_131 : decode cX11_step 131 = .ok (.getfield 78, 3) := by decide +kernel
theorem dX11_step_134 : decode cX11_step 134 = .ok (.aload_n 0, 1) := by decide +kernel
theorem dX11_step_135 : decode cX11_step 135 = .ok (.getfield 263, 3) := by decide +kernel
theorem dX11_step_138 : decode cX11_step 138 = .ok (.iload 6, 2) := by decide +kernel
theorem dX11_step_140 : decode cX11_step 140 = .ok (.iastore, 1) := by decide +kernel
theorem dX11_step_141 : decode cX11_step 141 = .ok (.aload_n 0, 1) := by decide +kernel
theorem dX11_step_142 : decode cX11_step 142 = .ok (.dup, 1) := by decide +kernel
theorem dX11_step_143 : decode cX11_step 143 = .ok (.getfield 263, 3) := by decide +kernel
theorem dX11_step_146 : decode cX11_step 146 = .ok (.iconst 1, 1) := by decide +kernel
theorem dX11_step_147 : decode cX11_step 147 = .ok (.iadd, 1) := by decide +kernel
theorem dX11_step_148 : decode cX11_step 148 = .ok (.putfield 263, 3) := by decide +kernel
theorem dX11_step_151 : decode cX11_step 151 = .ok (.return_, 1) := by decide +kernel
theorem dX11_sumOf_0 : decode cX11_sumOf 0 = .ok (.aload_n 0, 1) := by decide +kernel
theorem dX11_sumOf_1 : decode cX11_sumOf 1 = .ok (.iload_n 1, 1) := by decide +kernel
theorem dX11_sumOf_2 : decode cX11_sumOf 2 = .ok (.invokevirtual 266, 3) := by decide +kernel
theorem dX11_sumOf_5 : decode cX11_sumOf 5 = .ok (.iconst 0, 1) := by decide +kernel
theorem dX11_sumOf_6 : decode cX11_sumOf 6 = .ok (.istore_n 2, 1) := by decide +kernel
theorem dX11_sumOf_7 : decode cX11_sumOf 7 = .ok (.iconst 0, 1) := by decide +kernel
theorem dX11_sumOf_8 : decode cX11_sumOf 8 = .ok (.istore_n 3, 1) := by decide +kernel
theorem dX11_sumOf_9 : decode cX11_sumOf 9 = .ok (.iload_n 3, 1) := by decide +kernel
theorem dX11_sumOf_10 : decode cX11_sumOf 10 = .ok (.aload_n 0, 1) := by decide +kernel
theorem dX11_sumOf_11 : decode cX11_sumOf 11 = .ok (.getfield 256, 3) := by decide +kernel
theorem dX11_sumOf_14 : decode cX11_sumOf 14 = .ok (.if_icmp .ge 18, 3) := by decide +kernel
theorem dX11_sumOf_17 : decode cX11_sumOf 17 = .ok (.iload_n 2, 1) := by decide +kernel
theorem dX11_sumOf_18 : decode cX11_sumOf 18 = .ok (.aload_n 0, 1) := by decide +kernel
theorem dX11_sumOf_19 : decode cX11_sumOf 19 = .ok (.getfield 72, 3) := by decide +kernel
theorem dX11_sumOf_22 : decode cX11_sumOf 22 = .ok (.iload_n 3, 1) := by decide +kernel
theorem dX11_sumOf_23 : decode cX11_sumOf 23 = .ok (.iaload, 1) := by decide +kernel
theorem dX11_sumOf_24 : decode cX11_sumOf 24 = .ok (.iadd, 1) := by decide +kernel
theorem dX11_sumOf_25 : decode cX11_sumOf 25 = .ok (.istore_n 2, 1) := by decide +kernel
theorem dX11_sumOf_26 : decode cX11_sumOf 26 = .ok (.iinc 3 1, 3) := by decide +kernel
theorem dX11_sumOf_29 : decode cX11_sumOf 29 = .ok (.goto (-20), 3) := by decide +kernel
theorem dX11_sumOf_32 : decode cX11_sumOf 32 = .ok (.iload_n 2, 1) := by decide +kernel
theorem dX11_sumOf_33 : decode cX11_sumOf 33 = .ok (.ireturn, 1) := by decide +kernel
theorem dX11_holds_0 : decode cX11_holds 0 = .ok (.aload_n 0, 1) := by decide +kernel
theorem dX11_holds_1 : decode cX11_holds 1 = .ok (.iload_n 1, 1) := by decide +kernel
theorem dX11_holds_2 : decode cX11_holds 2 = .ok (.invokevirtual 266, 3) := by decide +kernel
theorem dX11_holds_5 : decode cX11_holds 5 = .ok (.iconst 0, 1) := by decide +kernel
theorem dX11_holds_6 : decode cX11_holds 6 = .ok (.istore 4, 2) := by decide +kernel
theorem dX11_holds_8 : decode cX11_holds 8 = .ok (.iconst 0, 1) := by decide +kernel
theorem dX11_holds_9 : decode cX11_holds 9 = .ok (.istore 5, 2) := by decide +kernel
theorem dX11_holds_11 : decode cX11_holds 11 = .ok (.iload 5, 2) := by decide +kernel
theorem dX11_holds_13 : decode cX11_holds 13 = .ok (.aload_n 0, 1) := by decide +kernel
theorem dX11_holds_14 : decode cX11_holds 14 = .ok (.getfield 256, 3) := by decide +kernel
theorem dX11_holds_17 : decode cX11_holds 17 = .ok (.if_icmp .ge 43, 3) := by decide +kernel
theorem dX11_holds_20 : decode cX11_holds 20 = .ok (.iload 4, 2) := by decide +kernel
theorem dX11_holds_22 : decode cX11_holds 22 = .ok (.ifCond .ne 25, 3) := by decide +kernel
theorem dX11_holds_25 : decode cX11_holds 25 = .ok (.aload_n 0, 1) := by decide +kernel
theorem dX11_holds_26 : decode cX11_holds 26 = .ok (.getfield 69, 3) := by decide +kernel
theorem dX11_holds_29 : decode cX11_holds 29 = .ok (.iload 5, 2) := by decide +kernel
theorem dX11_holds_31 : decode cX11_holds 31 = .ok (.iaload, 1) := by decide +kernel
theorem dX11_holds_32 : decode cX11_holds 32 = .ok (.iload_n 2, 1) := by decide +kernel
theorem dX11_holds_33 : decode cX11_holds 33 = .ok (.if_icmp .ne 18, 3) := by decide +kernel
theorem dX11_holds_36 : decode cX11_holds 36 = .ok (.aload_n 0, 1) := by decide +kernel
theorem dX11_holds_37 : decode cX11_holds 37 = .ok (.getfield 72, 3) := by decide +kernel
theorem dX11_holds_40 : decode cX11_holds 40 = .ok (.iload 5, 2) := by decide +kernel
theorem dX11_holds_42 : decode cX11_holds 42 = .ok (.iaload, 1) := by decide +kernel
theorem dX11_holds_43 : decode cX11_holds 43 = .ok (.iload_n 3, 1) := by decide +kernel
theorem dX11_holds_44 : decode cX11_holds 44 = .ok (.if_icmp .ne 7, 3) := by decide +kernel
theorem dX11_holds_47 : decode cX11_holds 47 = .ok (.iconst 1, 1) := by decide +kernel
theorem dX11_holds_48 : decode cX11_holds 48 = .ok (.goto 4, 3) := by decide +kernel
theorem dX11_holds_51 : decode cX11_holds 51 = .ok (.iconst 0, 1) := by decide +kernel
theorem dX11_holds_52 : decode cX11_holds 52 = .ok (.istore 4, 2) := by decide +kernel
theorem dX11_holds_54 : decode cX11_holds 54 = .ok (.iinc 5 1, 3) := by decide +kernel
theorem dX11_holds_57 : decode cX11_holds 57 = .ok (.goto (-46), 3) := by decide +kernel
theorem dX11_holds_60 : decode cX11_holds 60 = .ok (.iload 4, 2) := by decide +kernel
theorem dX11_holds_62 : decode cX11_holds 62 = .ok (.ireturn, 1) := by decide +kernel
theorem dX11_needStates_0 : decode cX11_needStates 0 = .ok (.iload_n 1, 1) := by decide +kernel
theorem dX11_needStates_1 : decode cX11_needStates 1 = .ok (.ifCond .eq 11, 3) := by decide +kernel
theorem dX11_needStates_4 : decode cX11_needStates 4 = .ok (.aload_n 0, 1) := by decide +kernel
theorem dX11_needStates_5 : decode cX11_needStates 5 = .ok (.iload_n 2, 1) := by decide +kernel
theorem dX11_needStates_6 : decode cX11_needStates 6 = .ok (.invokevirtual 200, 3) := by decide +kernel
theorem dX11_needStates_9 : decode cX11_needStates 9 = .ok (.ifCond .ne 5, 3) := by decide +kernel
theorem dX11_needStates_12 : decode cX11_needStates 12 = .ok (.iconst (-1), 1) := by decide +kernel
theorem dX11_needStates_13 : decode cX11_needStates 13 = .ok (.ireturn, 1) := by decide +kernel
theorem dX11_needStates_14 : decode cX11_needStates 14 = .ok (.aload_n 0, 1) := by decide +kernel
theorem dX11_needStates_15 : decode cX11_needStates 15 = .ok (.iload_n 2, 1) := by decide +kernel
theorem dX11_needStates_16 : decode cX11_needStates 16 = .ok (.invokevirtual 273, 3) := by decide +kernel
theorem dX11_needStates_19 : decode cX11_needStates 19 = .ok (.aload_n 0, 1) := by decide +kernel
theorem dX11_needStates_20 : decode cX11_needStates 20 = .ok (.getfield 256, 3) := by decide +kernel
theorem dX11_needStates_23 : decode cX11_needStates 23 = .ok (.iconst 3, 1) := by decide +kernel
theorem dX11_needStates_24 : decode cX11_needStates 24 = .ok (.if_icmp .le 6, 3) := by decide +kernel
theorem dX11_needStates_27 : decode cX11_needStates 27 = .ok (.bipush (-6), 2) := by decide +kernel
theorem dX11_needStates_29 : decode cX11_needStates 29 = .ok (.ireturn, 1) := by decide +kernel
theorem dX11_needStates_30 : decode cX11_needStates 30 = .ok (.aload_n 0, 1) := by decide +kernel
theorem dX11_needStates_31 : decode cX11_needStates 31 = .ok (.invokevirtual 276, 3) := by decide +kernel
theorem dX11_needStates_34 : decode cX11_needStates 34 = .ok (.iconst 0, 1) := by decide +kernel
theorem dX11_needStates_35 : decode cX11_needStates 35 = .ok (.ireturn, 1) := by decide +kernel
theorem dX11_firstState_0 : decode cX11_firstState 0 = .ok (.iconst 0, 1) := by decide +kernel
theorem dX11_firstState_1 : decode cX11_firstState 1 = .ok (.istore_n 3, 1) := by decide +kernel
theorem dX11_firstState_2 : decode cX11_firstState 2 = .ok (.iload_n 3, 1) := by decide +kernel
theorem dX11_firstState_3 : decode cX11_firstState 3 = .ok (.aload_n 0, 1) := by decide +kernel
theorem dX11_firstState_4 : decode cX11_firstState 4 = .ok (.getfield 263, 3) := by decide +kernel
theorem dX11_firstState_7 : decode cX11_firstState 7 = .ok (.if_icmp .ge 31, 3) := by decide +kernel
theorem dX11_firstState_10 : decode cX11_firstState 10 = .ok (.aload_n 0, 1) := by decide +kernel
theorem dX11_firstState_11 : decode cX11_firstState 11 = .ok (.aload_n 0, 1) := by decide +kernel
theorem dX11_firstState_12 : decode cX11_firstState 12 = .ok (.getfield 78, 3) := by decide +kernel
theorem dX11_firstState_15 : decode cX11_firstState 15 = .ok (.iload_n 3, 1) := by decide +kernel
theorem dX11_firstState_16 : decode cX11_firstState 16 = .ok (.iaload, 1) := by decide +kernel
theorem dX11_firstState_17 : decode cX11_firstState 17 = .ok (.iload_n 1, 1) := by decide +kernel
theorem dX11_firstState_18 : decode cX11_firstState 18 = .ok (.iload_n 2, 1) := by decide +kernel
theorem dX11_firstState_19 : decode cX11_firstState 19 = .ok (.invokevirtual 279, 3) := by decide +kernel
theorem dX11_firstState_22 : decode cX11_firstState 22 = .ok (.ifCond .eq 10, 3) := by decide +kernel
theorem dX11_firstState_25 : decode cX11_firstState 25 = .ok (.aload_n 0, 1) := by decide +kernel
theorem dX11_firstState_26 : decode cX11_firstState 26 = .ok (.getfield 78, 3) := by decide +kernel
theorem dX11_firstState_29 : decode cX11_firstState 29 = .ok (.iload_n 3, 1) := by decide +kernel
theorem dX11_firstState_30 : decode cX11_firstState 30 = .ok (.iaload, 1) := by decide +kernel
theorem dX11_firstState_31 : decode cX11_firstState 31 = .ok (.ireturn, 1) := by decide +kernel
theorem dX11_firstState_32 : decode cX11_firstState 32 = .ok (.iinc 3 1, 3) := by decide +kernel
theorem dX11_firstState_35 : decode cX11_firstState 35 = .ok (.goto (-33), 3) := by decide +kernel
theorem dX11_firstState_38 : decode cX11_firstState 38 = .ok (.bipush (-9), 2) := by decide +kernel
theorem dX11_firstState_40 : decode cX11_firstState 40 = .ok (.ireturn, 1) := by decide +kernel
theorem dX11_pours_0 : decode cX11_pours 0 = .ok (.aload_n 0, 1) := by decide +kernel
theorem dX11_pours_1 : decode cX11_pours 1 = .ok (.iload_n 2, 1) := by decide +kernel
theorem dX11_pours_2 : decode cX11_pours 2 = .ok (.iconst 0, 1) := by decide +kernel
theorem dX11_pours_3 : decode cX11_pours 3 = .ok (.bipush 20, 2) := by decide +kernel
theorem dX11_pours_5 : decode cX11_pours 5 = .ok (.invokestatic 106, 3) := by decide +kernel
theorem dX11_pours_8 : decode cX11_pours 8 = .ok (.iload_n 1, 1) := by decide +kernel
theorem dX11_pours_9 : decode cX11_pours 9 = .ok (.invokevirtual 282, 3) := by decide +kernel
theorem dX11_pours_12 : decode cX11_pours 12 = .ok (.istore_n 3, 1) := by decide +kernel
theorem dX11_pours_13 : decode cX11_pours 13 = .ok (.iload_n 3, 1) := by decide +kernel
theorem dX11_pours_14 : decode cX11_pours 14 = .ok (.ifCond .ge 5, 3) := by decide +kernel
theorem dX11_pours_17 : decode cX11_pours 17 = .ok (.iload_n 3, 1) := by decide +kernel
theorem dX11_pours_18 : decode cX11_pours 18 = .ok (.ireturn, 1) := by decide +kernel
theorem dX11_pours_19 : decode cX11_pours 19 = .ok (.aload_n 0, 1) := by decide +kernel
theorem dX11_pours_20 : decode cX11_pours 20 = .ok (.iload_n 1, 1) := by decide +kernel
theorem dX11_pours_21 : decode cX11_pours 21 = .ok (.iload_n 2, 1) := by decide +kernel
theorem dX11_pours_22 : decode cX11_pours 22 = .ok (.invokevirtual 286, 3) := by decide +kernel
theorem dX11_pours_25 : decode cX11_pours 25 = .ok (.istore 4, 2) := by decide +kernel
theorem dX11_pours_27 : decode cX11_pours 27 = .ok (.iload 4, 2) := by decide +kernel
theorem dX11_pours_29 : decode cX11_pours 29 = .ok (.bipush (-9), 2) := by decide +kernel
theorem dX11_pours_31 : decode cX11_pours 31 = .ok (.if_icmp .ne 6, 3) := by decide +kernel
theorem dX11_pours_34 : decode cX11_pours 34 = .ok (.bipush (-9), 2) := by decide +kernel
theorem dX11_pours_36 : decode cX11_pours 36 = .ok (.ireturn, 1) := by decide +kernel
theorem dX11_pours_37 : decode cX11_pours 37 = .ok (.aload_n 0, 1) := by decide +kernel
theorem dX11_pours_38 : decode cX11_pours 38 = .ok (.getfield 75, 3) := by decide +kernel
theorem dX11_pours_41 : decode cX11_pours 41 = .ok (.iload 4, 2) := by decide +kernel
theorem dX11_pours_43 : decode cX11_pours 43 = .ok (.iaload, 1) := by decide +kernel
theorem dX11_pours_44 : decode cX11_pours 44 = .ok (.bipush 60, 2) := by decide +kernel
theorem dX11_pours_46 : decode cX11_pours 46 = .ok (.if_icmp .le 8, 3) := by decide +kernel
theorem dX11_pours_49 : decode cX11_pours 49 = .ok (.bipush (-6), 2) := by decide +kernel
theorem dX11_pours_51 : decode cX11_pours 51 = .ok (.goto 31, 3) := by decide +kernel
theorem dX11_pours_54 : decode cX11_pours 54 = .ok (.aload_n 0, 1) := by decide +kernel
theorem dX11_pours_55 : decode cX11_pours 55 = .ok (.aload_n 0, 1) := by decide +kernel
theorem dX11_pours_56 : decode cX11_pours 56 = .ok (.aload_n 0, 1) := by decide +kernel
theorem dX11_pours_57 : decode cX11_pours 57 = .ok (.getfield 78, 3) := by decide +kernel
theorem dX11_pours_60 : decode cX11_pours 60 = .ok (.iconst 0, 1) := by decide +kernel
theorem dX11_pours_61 : decode cX11_pours 61 = .ok (.iaload, 1) := by decide +kernel
theorem dX11_pours_62 : decode cX11_pours 62 = .ok (.invokevirtual 289, 3) := by decide +kernel
theorem dX11_pours_65 : decode cX11_pours 65 = .ok (.aload_n 0, 1) := by decide +kernel
theorem dX11_pours_66 : decode cX11_pours 66 = .ok (.iload 4, 2) := by decide +kernel
theorem dX11_pours_68 : decode cX11_pours 68 = .ok (.invokevirtual 289, 3) := by decide +kernel
theorem dX11_pours_71 : decode cX11_pours 71 = .ok (.isub, 1) := by decide +kernel
theorem dX11_pours_72 : decode cX11_pours 72 = .ok (.aload_n 0, 1) := by decide +kernel
theorem dX11_pours_73 : decode cX11_pours 73 = .ok (.getfield 75, 3) := by decide +kernel
theorem dX11_pours_76 : decode cX11_pours 76 = .ok (.iload 4, 2) := by decide +kernel
theorem dX11_pours_78 : decode cX11_pours 78 = .ok (.iaload, 1) := by decide +kernel
theorem dX11_pours_79 : decode cX11_pours 79 = .ok (.invokevirtual 125, 3) := by decide +kernel
theorem dX11_pours_82 : decode cX11_pours 82 = .ok (.ireturn, 1) := by decide +kernel
theorem dX11_way_0 : decode cX11_way 0 = .ok (.aload_n 0, 1) := by decide +kernel
theorem dX11_way_1 : decode cX11_way 1 = .ok (.iload_n 3, 1) := by decide +kernel
theorem dX11_way_2 : decode cX11_way 2 = .ok (.invokestatic 113, 3) := by decide +kernel
theorem dX11_way_5 : decode cX11_way 5 = .ok (.ifCond .eq 17, 3) := by decide +kernel
theorem dX11_way_8 : decode cX11_way 8 = .ok (.iload_n 2, 1) := by decide +kernel
theorem dX11_way_9 : decode cX11_way 9 = .ok (.iconst 0, 1) := by decide +kernel
theorem dX11_way_10 : decode cX11_way 10 = .ok (.bipush 20, 2) := by decide +kernel
theorem dX11_way_12 : decode cX11_way 12 = .ok (.invokestatic 106, 3) := by decide +kernel
theorem dX11_way_15 : decode cX11_way 15 = .ok (.ifCond .eq 7, 3) := by decide +kernel
theorem dX11_way_18 : decode cX11_way 18 = .ok (.iconst 1, 1) := by decide +kernel
theorem dX11_way_19 : decode cX11_way 19 = .ok (.goto 4, 3) := by decide +kernel
theorem dX11_way_22 : decode cX11_way 22 = .ok (.iconst 0, 1) := by decide +kernel
theorem dX11_way_23 : decode cX11_way 23 = .ok (.iload_n 1, 1) := by decide +kernel
theorem dX11_way_24 : decode cX11_way 24 = .ok (.invokevirtual 282, 3) := by decide +kernel
theorem dX11_way_27 : decode cX11_way 27 = .ok (.istore 4, 2) := by decide +kernel
theorem dX11_way_29 : decode cX11_way 29 = .ok (.iload 4, 2) := by decide +kernel
theorem dX11_way_31 : decode cX11_way 31 = .ok (.ifCond .ge 6, 3) := by decide +kernel
theorem dX11_way_34 : decode cX11_way 34 = .ok (.iload 4, 2) := by decide +kernel
theorem dX11_way_36 : decode cX11_way 36 = .ok (.ireturn, 1) := by decide +kernel
theorem dX11_way_37 : decode cX11_way 37 = .ok (.aload_n 0, 1) := by decide +kernel
theorem dX11_way_38 : decode cX11_way 38 = .ok (.iload_n 1, 1) := by decide +kernel
theorem dX11_way_39 : decode cX11_way 39 = .ok (.iload_n 2, 1) := by decide +kernel
theorem dX11_way_40 : decode cX11_way 40 = .ok (.invokevirtual 286, 3) := by decide +kernel
theorem dX11_way_43 : decode cX11_way 43 = .ok (.istore 5, 2) := by decide +kernel
theorem dX11_way_45 : decode cX11_way 45 = .ok (.iload 5, 2) := by decide +kernel
theorem dX11_way_47 : decode cX11_way 47 = .ok (.bipush (-9), 2) := by decide +kernel
theorem dX11_way_49 : decode cX11_way 49 = .ok (.if_icmp .ne 6, 3) := by decide +kernel
theorem dX11_way_52 : decode cX11_way 52 = .ok (.bipush (-9), 2) := by decide +kernel
theorem dX11_way_54 : decode cX11_way 54 = .ok (.ireturn, 1) := by decide +kernel
theorem dX11_way_55 : decode cX11_way 55 = .ok (.aload_n 0, 1) := by decide +kernel
theorem dX11_way_56 : decode cX11_way 56 = .ok (.getfield 75, 3) := by decide +kernel
theorem dX11_way_59 : decode cX11_way 59 = .ok (.iload 5, 2) := by decide +kernel
theorem dX11_way_61 : decode cX11_way 61 = .ok (.iaload, 1) := by decide +kernel
theorem dX11_way_62 : decode cX11_way 62 = .ok (.istore 6, 2) := by decide +kernel
theorem dX11_way_64 : decode cX11_way 64 = .ok (.iload 6, 2) := by decide +kernel
theorem dX11_way_66 : decode cX11_way 66 = .ok (.bipush 60, 2) := by decide +kernel
theorem dX11_way_68 : decode cX11_way 68 = .ok (.if_icmp .le 6, 3) := by decide +kernel
theorem dX11_way_71 : decode cX11_way 71 = .ok (.bipush (-6), 2) := by decide +kernel
theorem dX11_way_73 : decode cX11_way 73 = .ok (.ireturn, 1) := by decide +kernel
theorem dX11_way_74 : decode cX11_way 74 = .ok (.aload_n 0, 1) := by decide +kernel
theorem dX11_way_75 : decode cX11_way 75 = .ok (.getfield 13, 3) := by decide +kernel
theorem dX11_way_78 : decode cX11_way 78 = .ok (.iload_n 3, 1) := by decide +kernel
theorem dX11_way_79 : decode cX11_way 79 = .ok (.iload 6, 2) := by decide +kernel
theorem dX11_way_81 : decode cX11_way 81 = .ok (.iastore, 1) := by decide +kernel
theorem dX11_way_82 : decode cX11_way 82 = .ok (.iconst 0, 1) := by decide +kernel
theorem dX11_way_83 : decode cX11_way 83 = .ok (.istore 7, 2) := by decide +kernel
theorem dX11_way_85 : decode cX11_way 85 = .ok (.iload 7, 2) := by decide +kernel
theorem dX11_way_87 : decode cX11_way 87 = .ok (.bipush 60, 2) := by decide +kernel
theorem dX11_way_89 : decode cX11_way 89 = .ok (.if_icmp .ge 22, 3) := by decide +kernel
theorem dX11_way_92 : decode cX11_way 92 = .ok (.aload_n 0, 1) := by decide +kernel
theorem dX11_way_93 : decode cX11_way 93 = .ok (.getfield 16, 3) := by decide +kernel
theorem dX11_way_96 : decode cX11_way 96 = .ok (.bipush 60, 2) := by decide +kernel
theorem dX11_way_98 : decode cX11_way 98 = .ok (.iload_n 3, 1) := by decide +kernel
theorem dX11_way_99 : decode cX11_way 99 = .ok (.imul, 1) := by decide +kernel
theorem dX11_way_100 : decode cX11_way 100 = .ok (.iload 7, 2) := by decide +kernel
theorem dX11_way_102 : decode cX11_way 102 = .ok (.iadd, 1) := by decide +kernel
theorem dX11_way_103 : decode cX11_way 103 = .ok (.iconst 0, 1) := by decide +kernel
theorem dX11_way_104 : decode cX11_way 104 = .ok (.iastore, 1) := by decide +kernel
theorem dX11_way_105 : decode cX11_way 105 = .ok (.iinc 7 1, 3) := by decide +kernel
theorem dX11_way_108 : decode cX11_way 108 = .ok (.goto (-23), 3) := by decide +kernel
theorem dX11_way_111 : decode cX11_way 111 = .ok (.iload 6, 2) := by decide +kernel
theorem dX11_way_113 : decode cX11_way 113 = .ok (.iconst 1, 1) := by decide +kernel
theorem dX11_way_114 : decode cX11_way 114 = .ok (.isub, 1) := by decide +kernel
theorem dX11_way_115 : decode cX11_way 115 = .ok (.istore 7, 2) := by decide +kernel
theorem dX11_way_117 : decode cX11_way 117 = .ok (.iload 7, 2) := by decide +kernel
theorem dX11_way_119 : decode cX11_way 119 = .ok (.ifCond .lt 37, 3) := by decide +kernel
theorem dX11_way_122 : decode cX11_way 122 = .ok (.aload_n 0, 1) := by decide +kernel
theorem dX11_way_123 : decode cX11_way 123 = .ok (.getfield 16, 3) := by decide +kernel
theorem dX11_way_126 : decode cX11_way 126 = .ok (.bipush 60, 2) := by decide +kernel
theorem dX11_way_128 : decode cX11_way 128 = .ok (.iload_n 3, 1) := by decide +kernel
theorem dX11_way_129 : decode cX11_way 129 = .ok (.imul, 1) := by decide +kernel
theorem dX11_way_130 : decode cX11_way 130 = .ok (.iload 7, 2) := by decide +kernel
theorem dX11_way_132 : decode cX11_way 132 = .ok (.iadd, 1) := by decide +kernel
theorem dX11_way_133 : decode cX11_way 133 = .ok (.aload_n 0, 1) := by decide +kernel
theorem dX11_way_134 : decode cX11_way 134 = .ok (.getfield 84, 3) := by decide +kernel
theorem dX11_way_137 : decode cX11_way 137 = .ok (.iload 5, 2) := by decide +kernel
theorem dX11_way_139 : decode cX11_way 139 = .ok (.iaload, 1) := by decide +kernel
theorem dX11_way_140 : decode cX11_way 140 = .ok (.iastore, 1) := by decide +kernel
theorem dX11_way_141 : decode cX11_way 141 = .ok (.aload_n 0, 1) := by decide +kernel
theorem dX11_way_142 : decode cX11_way 142 = .ok (.getfield 81, 3) := by decide +kernel
theorem dX11_way_145 : decode cX11_way 145 = .ok (.iload 5, 2) := by decide +kernel
theorem dX11_way_147 : decode cX11_way 147 = .ok (.iaload, 1) := by decide +kernel
theorem dX11_way_148 : decode cX11_way 148 = .ok (.istore 5, 2) := by decide +kernel
theorem dX11_way_150 : decode cX11_way 150 = .ok (.iinc 7 (-1), 3) := by decide +kernel
theorem dX11_way_153 : decode cX11_way 153 = .ok (.goto (-36), 3) := by decide +kernel
theorem dX11_way_156 : decode cX11_way 156 = .ok (.iload 6, 2) := by decide +kernel
theorem dX11_way_158 : decode cX11_way 158 = .ok (.ireturn, 1) := by decide +kernel
theorem dX11_loss_0 : decode cX11_loss 0 = .ok (.aload_n 0, 1) := by decide +kernel
theorem dX11_loss_1 : decode cX11_loss 1 = .ok (.iload_n 2, 1) := by decide +kernel
theorem dX11_loss_2 : decode cX11_loss 2 = .ok (.iconst 0, 1) := by decide +kernel
theorem dX11_loss_3 : decode cX11_loss 3 = .ok (.bipush 20, 2) := by decide +kernel
theorem dX11_loss_5 : decode cX11_loss 5 = .ok (.invokestatic 106, 3) := by decide +kernel
theorem dX11_loss_8 : decode cX11_loss 8 = .ok (.iload_n 1, 1) := by decide +kernel
theorem dX11_loss_9 : decode cX11_loss 9 = .ok (.invokevirtual 282, 3) := by decide +kernel
theorem dX11_loss_12 : decode cX11_loss 12 = .ok (.istore_n 3, 1) := by decide +kernel
theorem dX11_loss_13 : decode cX11_loss 13 = .ok (.iload_n 3, 1) := by decide +kernel
theorem dX11_loss_14 : decode cX11_loss 14 = .ok (.ifCond .ge 5, 3) := by decide +kernel
theorem dX11_loss_17 : decode cX11_loss 17 = .ok (.iload_n 3, 1) := by decide +kernel
theorem dX11_loss_18 : decode cX11_loss 18 = .ok (.ireturn, 1) := by decide +kernel
theorem dX11_loss_19 : decode cX11_loss 19 = .ok (.aload_n 0, 1) := by decide +kernel
theorem dX11_loss_20 : decode cX11_loss 20 = .ok (.aload_n 0, 1) := by decide +kernel
theorem dX11_loss_21 : decode cX11_loss 21 = .ok (.getfield 78, 3) := by decide +kernel
theorem dX11_loss_24 : decode cX11_loss 24 = .ok (.iconst 0, 1) := by decide +kernel
theorem dX11_loss_25 : decode cX11_loss 25 = .ok (.iaload, 1) := by decide +kernel
theorem dX11_loss_26 : decode cX11_loss 26 = .ok (.invokevirtual 289, 3) := by decide +kernel
theorem dX11_loss_29 : decode cX11_loss 29 = .ok (.istore 4, 2) := by decide +kernel
theorem dX11_loss_31 : decode cX11_loss 31 = .ok (.bipush (-9), 2) := by decide +kernel
theorem dX11_loss_33 : decode cX11_loss 33 = .ok (.istore 5, 2) := by decide +kernel
theorem dX11_loss_35 : decode cX11_loss 35 = .ok (.iconst 0, 1) := by decide +kernel
theorem dX11_loss_36 : decode cX11_loss 36 = .ok (.istore 6, 2) := by decide +kernel
theorem dX11_loss_38 : decode cX11_loss 38 = .ok (.iload 6, 2) := by decide +kernel
theorem dX11_loss_40 : decode cX11_loss 40 = .ok (.aload_n 0, 1) := by decide +kernel
theorem dX11_loss_41 : decode cX11_loss 41 = .ok (.getfield 263, 3) := by decide +kernel
theorem dX11_loss_44 : decode cX11_loss 44 = .ok (.if_icmp .ge 64, 3) := by decide +kernel
theorem dX11_loss_47 : decode cX11_loss 47 = .ok (.aload_n 0, 1) := by decide +kernel
theorem dX11_loss_48 : decode cX11_loss 48 = .ok (.aload_n 0, 1) := by decide +kernel
theorem dX11_loss_49 : decode cX11_loss 49 = .ok (.getfield 78, 3) := by decide +kernel
