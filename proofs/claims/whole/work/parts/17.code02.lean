theorem dX6_gather_79 : decode cX6_gather 79 = .ok (.getfield 74, 3) := by decide +kernel
theorem dX6_gather_82 : decode cX6_gather 82 = .ok (.iaload, 1) := by decide +kernel
theorem dX6_gather_83 : decode cX6_gather 83 = .ok (.imul, 1) := by decide +kernel
theorem dX6_gather_84 : decode cX6_gather 84 = .ok (.iadd, 1) := by decide +kernel
theorem dX6_gather_85 : decode cX6_gather 85 = .ok (.istore 4, 2) := by decide +kernel
theorem dX6_gather_87 : decode cX6_gather 87 = .ok (.aload_n 0, 1) := by decide +kernel
theorem dX6_gather_88 : decode cX6_gather 88 = .ok (.dup, 1) := by decide +kernel
theorem dX6_gather_89 : decode cX6_gather 89 = .ok (.getfield 74, 3) := by decide +kernel
theorem dX6_gather_92 : decode cX6_gather 92 = .ok (.iconst 1, 1) := by decide +kernel
theorem dX6_gather_93 : decode cX6_gather 93 = .ok (.iadd, 1) := by decide +kernel
theorem dX6_gather_94 : decode cX6_gather 94 = .ok (.putfield 74, 3) := by decide +kernel
theorem dX6_gather_97 : decode cX6_gather 97 = .ok (.iinc 5 1, 3) := by decide +kernel
theorem dX6_gather_100 : decode cX6_gather 100 = .ok (.goto (-89), 3) := by decide +kernel
theorem dX6_gather_103 : decode cX6_gather 103 = .ok (.iload 4, 2) := by decide +kernel
theorem dX6_gather_105 : decode cX6_gather 105 = .ok (.ireturn, 1) := by decide +kernel
theorem dX6_pourFrom_0 : decode cX6_pourFrom 0 = .ok (.aload_n 0, 1) := by decide +kernel
theorem dX6_pourFrom_1 : decode cX6_pourFrom 1 = .ok (.getfield 11, 3) := by decide +kernel
theorem dX6_pourFrom_4 : decode cX6_pourFrom 4 = .ok (.iload_n 1, 1) := by decide +kernel
theorem dX6_pourFrom_5 : decode cX6_pourFrom 5 = .ok (.iaload, 1) := by decide +kernel
theorem dX6_pourFrom_6 : decode cX6_pourFrom 6 = .ok (.istore_n 2, 1) := by decide +kernel
theorem dX6_pourFrom_7 : decode cX6_pourFrom 7 = .ok (.iconst 0, 1) := by decide +kernel
theorem dX6_pourFrom_8 : decode cX6_pourFrom 8 = .ok (.istore_n 3, 1) := by decide +kernel
theorem dX6_pourFrom_9 : decode cX6_pourFrom 9 = .ok (.iload_n 3, 1) := by decide +kernel
theorem dX6_pourFrom_10 : decode cX6_pourFrom 10 = .ok (.aload_n 0, 1) := by decide +kernel
theorem dX6_pourFrom_11 : decode cX6_pourFrom 11 = .ok (.getfield 74, 3) := by decide +kernel
theorem dX6_pourFrom_14 : decode cX6_pourFrom 14 = .ok (.if_icmp .ge 115, 3) := by decide +kernel
theorem dX6_pourFrom_17 : decode cX6_pourFrom 17 = .ok (.iconst 0, 1) := by decide +kernel
theorem dX6_pourFrom_18 : decode cX6_pourFrom 18 = .ok (.istore 4, 2) := by decide +kernel
theorem dX6_pourFrom_20 : decode cX6_pourFrom 20 = .ok (.iload 4, 2) := by decide +kernel
theorem dX6_pourFrom_22 : decode cX6_pourFrom 22 = .ok (.aload_n 0, 1) := by decide +kernel
theorem dX6_pourFrom_23 : decode cX6_pourFrom 23 = .ok (.getfield 74, 3) := by decide +kernel
theorem dX6_pourFrom_26 : decode cX6_pourFrom 26 = .ok (.if_icmp .ge 97, 3) := by decide +kernel
theorem dX6_pourFrom_29 : decode cX6_pourFrom 29 = .ok (.iload_n 2, 1) := by decide +kernel
theorem dX6_pourFrom_30 : decode cX6_pourFrom 30 = .ok (.iload_n 3, 1) := by decide +kernel
theorem dX6_pourFrom_31 : decode cX6_pourFrom 31 = .ok (.invokestatic 50, 3) := by decide +kernel
theorem dX6_pourFrom_34 : decode cX6_pourFrom 34 = .ok (.aload_n 0, 1) := by decide +kernel
theorem dX6_pourFrom_35 : decode cX6_pourFrom 35 = .ok (.getfield 24, 3) := by decide +kernel
theorem dX6_pourFrom_38 : decode cX6_pourFrom 38 = .ok (.iload 4, 2) := by decide +kernel
theorem dX6_pourFrom_40 : decode cX6_pourFrom 40 = .ok (.iaload, 1) := by decide +kernel
theorem dX6_pourFrom_41 : decode cX6_pourFrom 41 = .ok (.iload_n 2, 1) := by decide +kernel
theorem dX6_pourFrom_42 : decode cX6_pourFrom 42 = .ok (.iload 4, 2) := by decide +kernel
theorem dX6_pourFrom_44 : decode cX6_pourFrom 44 = .ok (.invokestatic 50, 3) := by decide +kernel
theorem dX6_pourFrom_47 : decode cX6_pourFrom 47 = .ok (.isub, 1) := by decide +kernel
theorem dX6_pourFrom_48 : decode cX6_pourFrom 48 = .ok (.invokestatic 92, 3) := by decide +kernel
theorem dX6_pourFrom_51 : decode cX6_pourFrom 51 = .ok (.istore 5, 2) := by decide +kernel
theorem dX6_pourFrom_53 : decode cX6_pourFrom 53 = .ok (.iload 5, 2) := by decide +kernel
theorem dX6_pourFrom_55 : decode cX6_pourFrom 55 = .ok (.invokestatic 97, 3) := by decide +kernel
theorem dX6_pourFrom_58 : decode cX6_pourFrom 58 = .ok (.istore 6, 2) := by decide +kernel
theorem dX6_pourFrom_60 : decode cX6_pourFrom 60 = .ok (.iload_n 3, 1) := by decide +kernel
theorem dX6_pourFrom_61 : decode cX6_pourFrom 61 = .ok (.iload 4, 2) := by decide +kernel
theorem dX6_pourFrom_63 : decode cX6_pourFrom 63 = .ok (.if_icmp .eq 54, 3) := by decide +kernel
theorem dX6_pourFrom_66 : decode cX6_pourFrom 66 = .ok (.iload 6, 2) := by decide +kernel
theorem dX6_pourFrom_68 : decode cX6_pourFrom 68 = .ok (.ifCond .le 49, 3) := by decide +kernel
theorem dX6_pourFrom_71 : decode cX6_pourFrom 71 = .ok (.iload_n 2, 1) := by decide +kernel
theorem dX6_pourFrom_72 : decode cX6_pourFrom 72 = .ok (.iload 5, 2) := by decide +kernel
theorem dX6_pourFrom_74 : decode cX6_pourFrom 74 = .ok (.getstatic 89, 3) := by decide +kernel
theorem dX6_pourFrom_77 : decode cX6_pourFrom 77 = .ok (.iload_n 3, 1) := by decide +kernel
theorem dX6_pourFrom_78 : decode cX6_pourFrom 78 = .ok (.iaload, 1) := by decide +kernel
theorem dX6_pourFrom_79 : decode cX6_pourFrom 79 = .ok (.imul, 1) := by decide +kernel
theorem dX6_pourFrom_80 : decode cX6_pourFrom 80 = .ok (.isub, 1) := by decide +kernel
theorem dX6_pourFrom_81 : decode cX6_pourFrom 81 = .ok (.iload 6, 2) := by decide +kernel
theorem dX6_pourFrom_83 : decode cX6_pourFrom 83 = .ok (.getstatic 89, 3) := by decide +kernel
theorem dX6_pourFrom_86 : decode cX6_pourFrom 86 = .ok (.iload 4, 2) := by decide +kernel
theorem dX6_pourFrom_88 : decode cX6_pourFrom 88 = .ok (.iaload, 1) := by decide +kernel
theorem dX6_pourFrom_89 : decode cX6_pourFrom 89 = .ok (.imul, 1) := by decide +kernel
theorem dX6_pourFrom_90 : decode cX6_pourFrom 90 = .ok (.iadd, 1) := by decide +kernel
theorem dX6_pourFrom_91 : decode cX6_pourFrom 91 = .ok (.istore 7, 2) := by decide +kernel
theorem dX6_pourFrom_93 : decode cX6_pourFrom 93 = .ok (.aload_n 0, 1) := by decide +kernel
theorem dX6_pourFrom_94 : decode cX6_pourFrom 94 = .ok (.iload 7, 2) := by decide +kernel
theorem dX6_pourFrom_96 : decode cX6_pourFrom 96 = .ok (.iload_n 1, 1) := by decide +kernel
theorem dX6_pourFrom_97 : decode cX6_pourFrom 97 = .ok (.bipush 6, 2) := by decide +kernel
theorem dX6_pourFrom_99 : decode cX6_pourFrom 99 = .ok (.aload_n 0, 1) := by decide +kernel
theorem dX6_pourFrom_100 : decode cX6_pourFrom 100 = .ok (.getfield 21, 3) := by decide +kernel
theorem dX6_pourFrom_103 : decode cX6_pourFrom 103 = .ok (.iload_n 3, 1) := by decide +kernel
theorem dX6_pourFrom_104 : decode cX6_pourFrom 104 = .ok (.iaload, 1) := by decide +kernel
theorem dX6_pourFrom_105 : decode cX6_pourFrom 105 = .ok (.imul, 1) := by decide +kernel
theorem dX6_pourFrom_106 : decode cX6_pourFrom 106 = .ok (.aload_n 0, 1) := by decide +kernel
theorem dX6_pourFrom_107 : decode cX6_pourFrom 107 = .ok (.getfield 21, 3) := by decide +kernel
theorem dX6_pourFrom_110 : decode cX6_pourFrom 110 = .ok (.iload 4, 2) := by decide +kernel
theorem dX6_pourFrom_112 : decode cX6_pourFrom 112 = .ok (.iaload, 1) := by decide +kernel
theorem dX6_pourFrom_113 : decode cX6_pourFrom 113 = .ok (.iadd, 1) := by decide +kernel
theorem dX6_pourFrom_114 : decode cX6_pourFrom 114 = .ok (.invokevirtual 38, 3) := by decide +kernel
theorem dX6_pourFrom_117 : decode cX6_pourFrom 117 = .ok (.iinc 4 1, 3) := by decide +kernel
theorem dX6_pourFrom_120 : decode cX6_pourFrom 120 = .ok (.goto (-100), 3) := by decide +kernel
theorem dX6_pourFrom_123 : decode cX6_pourFrom 123 = .ok (.iinc 3 1, 3) := by decide +kernel
theorem dX6_pourFrom_126 : decode cX6_pourFrom 126 = .ok (.goto (-117), 3) := by decide +kernel
theorem dX6_pourFrom_129 : decode cX6_pourFrom 129 = .ok (.return_, 1) := by decide +kernel
theorem dX6_comeTo_0 : decode cX6_comeTo 0 = .ok (.iload_n 1, 1) := by decide +kernel
theorem dX6_comeTo_1 : decode cX6_comeTo 1 = .ok (.iconst 0, 1) := by decide +kernel
theorem dX6_comeTo_2 : decode cX6_comeTo 2 = .ok (.sipush 9260, 3) := by decide +kernel
theorem dX6_comeTo_5 : decode cX6_comeTo 5 = .ok (.invokestatic 100, 3) := by decide +kernel
theorem dX6_comeTo_8 : decode cX6_comeTo 8 = .ok (.ifCond .eq 71, 3) := by decide +kernel
theorem dX6_comeTo_11 : decode cX6_comeTo 11 = .ok (.aload_n 0, 1) := by decide +kernel
theorem dX6_comeTo_12 : decode cX6_comeTo 12 = .ok (.getfield 18, 3) := by decide +kernel
theorem dX6_comeTo_15 : decode cX6_comeTo 15 = .ok (.iload_n 1, 1) := by decide +kernel
theorem dX6_comeTo_16 : decode cX6_comeTo 16 = .ok (.iaload, 1) := by decide +kernel
theorem dX6_comeTo_17 : decode cX6_comeTo 17 = .ok (.aload_n 0, 1) := by decide +kernel
theorem dX6_comeTo_18 : decode cX6_comeTo 18 = .ok (.getfield 27, 3) := by decide +kernel
theorem dX6_comeTo_21 : decode cX6_comeTo 21 = .ok (.if_icmp .eq 58, 3) := by decide +kernel
theorem dX6_comeTo_24 : decode cX6_comeTo 24 = .ok (.aload_n 0, 1) := by decide +kernel
theorem dX6_comeTo_25 : decode cX6_comeTo 25 = .ok (.getfield 31, 3) := by decide +kernel
theorem dX6_comeTo_28 : decode cX6_comeTo 28 = .ok (.sipush 9261, 3) := by decide +kernel
theorem dX6_comeTo_31 : decode cX6_comeTo 31 = .ok (.if_icmp .ge 48, 3) := by decide +kernel
theorem dX6_comeTo_34 : decode cX6_comeTo 34 = .ok (.aload_n 0, 1) := by decide +kernel
theorem dX6_comeTo_35 : decode cX6_comeTo 35 = .ok (.getfield 18, 3) := by decide +kernel
theorem dX6_comeTo_38 : decode cX6_comeTo 38 = .ok (.iload_n 1, 1) := by decide +kernel
theorem dX6_comeTo_39 : decode cX6_comeTo 39 = .ok (.aload_n 0, 1) := by decide +kernel
theorem dX6_comeTo_40 : decode cX6_comeTo 40 = .ok (.getfield 27, 3) := by decide +kernel
theorem dX6_comeTo_43 : decode cX6_comeTo 43 = .ok (.iastore, 1) := by decide +kernel
theorem dX6_comeTo_44 : decode cX6_comeTo 44 = .ok (.aload_n 0, 1) := by decide +kernel
theorem dX6_comeTo_45 : decode cX6_comeTo 45 = .ok (.getfield 11, 3) := by decide +kernel
theorem dX6_comeTo_48 : decode cX6_comeTo 48 = .ok (.aload_n 0, 1) := by decide +kernel
theorem dX6_comeTo_49 : decode cX6_comeTo 49 = .ok (.getfield 31, 3) := by decide +kernel
theorem dX6_comeTo_52 : decode cX6_comeTo 52 = .ok (.iload_n 1, 1) := by decide +kernel
theorem dX6_comeTo_53 : decode cX6_comeTo 53 = .ok (.iastore, 1) := by decide +kernel
theorem dX6_comeTo_54 : decode cX6_comeTo 54 = .ok (.aload_n 0, 1) := by decide +kernel
theorem dX6_comeTo_55 : decode cX6_comeTo 55 = .ok (.getfield 15, 3) := by decide +kernel
theorem dX6_comeTo_58 : decode cX6_comeTo 58 = .ok (.aload_n 0, 1) := by decide +kernel
theorem dX6_comeTo_59 : decode cX6_comeTo 59 = .ok (.getfield 31, 3) := by decide +kernel
theorem dX6_comeTo_62 : decode cX6_comeTo 62 = .ok (.bipush 36, 2) := by decide +kernel
theorem dX6_comeTo_64 : decode cX6_comeTo 64 = .ok (.iload_n 2, 1) := by decide +kernel
theorem dX6_comeTo_65 : decode cX6_comeTo 65 = .ok (.imul, 1) := by decide +kernel
theorem dX6_comeTo_66 : decode cX6_comeTo 66 = .ok (.iload_n 3, 1) := by decide +kernel
theorem dX6_comeTo_67 : decode cX6_comeTo 67 = .ok (.iadd, 1) := by decide +kernel
theorem dX6_comeTo_68 : decode cX6_comeTo 68 = .ok (.iastore, 1) := by decide +kernel
theorem dX6_comeTo_69 : decode cX6_comeTo 69 = .ok (.aload_n 0, 1) := by decide +kernel
theorem dX6_comeTo_70 : decode cX6_comeTo 70 = .ok (.dup, 1) := by decide +kernel
theorem dX6_comeTo_71 : decode cX6_comeTo 71 = .ok (.getfield 31, 3) := by decide +kernel
theorem dX6_comeTo_74 : decode cX6_comeTo 74 = .ok (.iconst 1, 1) := by decide +kernel
theorem dX6_comeTo_75 : decode cX6_comeTo 75 = .ok (.iadd, 1) := by decide +kernel
theorem dX6_comeTo_76 : decode cX6_comeTo 76 = .ok (.putfield 31, 3) := by decide +kernel
theorem dX6_comeTo_79 : decode cX6_comeTo 79 = .ok (.return_, 1) := by decide +kernel
theorem dX6_slotOf_0 : decode cX6_slotOf 0 = .ok (.iconst 0, 1) := by decide +kernel
theorem dX6_slotOf_1 : decode cX6_slotOf 1 = .ok (.istore_n 2, 1) := by decide +kernel
theorem dX6_slotOf_2 : decode cX6_slotOf 2 = .ok (.iload_n 2, 1) := by decide +kernel
theorem dX6_slotOf_3 : decode cX6_slotOf 3 = .ok (.aload_n 0, 1) := by decide +kernel
theorem dX6_slotOf_4 : decode cX6_slotOf 4 = .ok (.getfield 74, 3) := by decide +kernel
theorem dX6_slotOf_7 : decode cX6_slotOf 7 = .ok (.if_icmp .ge 21, 3) := by decide +kernel
theorem dX6_slotOf_10 : decode cX6_slotOf 10 = .ok (.aload_n 0, 1) := by decide +kernel
theorem dX6_slotOf_11 : decode cX6_slotOf 11 = .ok (.getfield 21, 3) := by decide +kernel
theorem dX6_slotOf_14 : decode cX6_slotOf 14 = .ok (.iload_n 2, 1) := by decide +kernel
theorem dX6_slotOf_15 : decode cX6_slotOf 15 = .ok (.iaload, 1) := by decide +kernel
theorem dX6_slotOf_16 : decode cX6_slotOf 16 = .ok (.iload_n 1, 1) := by decide +kernel
theorem dX6_slotOf_17 : decode cX6_slotOf 17 = .ok (.if_icmp .ne 5, 3) := by decide +kernel
theorem dX6_slotOf_20 : decode cX6_slotOf 20 = .ok (.iload_n 2, 1) := by decide +kernel
theorem dX6_slotOf_21 : decode cX6_slotOf 21 = .ok (.ireturn, 1) := by decide +kernel
theorem dX6_slotOf_22 : decode cX6_slotOf 22 = .ok (.iinc 2 1, 3) := by decide +kernel
theorem dX6_slotOf_25 : decode cX6_slotOf 25 = .ok (.goto (-23), 3) := by decide +kernel
theorem dX6_slotOf_28 : decode cX6_slotOf 28 = .ok (.iconst 0, 1) := by decide +kernel
theorem dX6_slotOf_29 : decode cX6_slotOf 29 = .ok (.ireturn, 1) := by decide +kernel
theorem dX6_held_0 : decode cX6_held 0 = .ok (.iload_n 0, 1) := by decide +kernel
theorem dX6_held_1 : decode cX6_held 1 = .ok (.getstatic 89, 3) := by decide +kernel
theorem dX6_held_4 : decode cX6_held 4 = .ok (.iload_n 1, 1) := by decide +kernel
theorem dX6_held_5 : decode cX6_held 5 = .ok (.iaload, 1) := by decide +kernel
theorem dX6_held_6 : decode cX6_held 6 = .ok (.idiv, 1) := by decide +kernel
theorem dX6_held_7 : decode cX6_held 7 = .ok (.bipush 21, 2) := by decide +kernel
theorem dX6_held_9 : decode cX6_held 9 = .ok (.irem, 1) := by decide +kernel
theorem dX6_held_10 : decode cX6_held 10 = .ok (.ireturn, 1) := by decide +kernel
theorem dX6_total_0 : decode cX6_total 0 = .ok (.iload_n 0, 1) := by decide +kernel
theorem dX6_total_1 : decode cX6_total 1 = .ok (.iconst 0, 1) := by decide +kernel
theorem dX6_total_2 : decode cX6_total 2 = .ok (.invokestatic 50, 3) := by decide +kernel
theorem dX6_total_5 : decode cX6_total 5 = .ok (.iload_n 0, 1) := by decide +kernel
theorem dX6_total_6 : decode cX6_total 6 = .ok (.iconst 1, 1) := by decide +kernel
theorem dX6_total_7 : decode cX6_total 7 = .ok (.invokestatic 50, 3) := by decide +kernel
theorem dX6_total_10 : decode cX6_total 10 = .ok (.iadd, 1) := by decide +kernel
theorem dX6_total_11 : decode cX6_total 11 = .ok (.iload_n 0, 1) := by decide +kernel
theorem dX6_total_12 : decode cX6_total 12 = .ok (.iconst 2, 1) := by decide +kernel
theorem dX6_total_13 : decode cX6_total 13 = .ok (.invokestatic 50, 3) := by decide +kernel
theorem dX6_total_16 : decode cX6_total 16 = .ok (.iadd, 1) := by decide +kernel
theorem dX6_total_17 : decode cX6_total 17 = .ok (.ireturn, 1) := by decide +kernel
theorem dX7_init_0 : decode cX7_init 0 = .ok (.aload_n 0, 1) := by decide +kernel
theorem dX7_init_1 : decode cX7_init 1 = .ok (.invokespecial 3, 3) := by decide +kernel
theorem dX7_init_4 : decode cX7_init 4 = .ok (.return_, 1) := by decide +kernel
theorem dX7_read_0 : decode cX7_read 0 = .ok (.aload_n 0, 1) := by decide +kernel
theorem dX7_read_1 : decode cX7_read 1 = .ok (.aload_n 1, 1) := by decide +kernel
theorem dX7_read_2 : decode cX7_read 2 = .ok (.putfield 9, 3) := by decide +kernel
theorem dX7_read_5 : decode cX7_read 5 = .ok (.aload_n 0, 1) := by decide +kernel
theorem dX7_read_6 : decode cX7_read 6 = .ok (.iconst 0, 1) := by decide +kernel
theorem dX7_read_7 : decode cX7_read 7 = .ok (.putfield 15, 3) := by decide +kernel
theorem dX7_read_10 : decode cX7_read 10 = .ok (.aload_n 0, 1) := by decide +kernel
theorem dX7_read_11 : decode cX7_read 11 = .ok (.aload_n 2, 1) := by decide +kernel
theorem dX7_read_12 : decode cX7_read 12 = .ok (.invokevirtual 19, 3) := by decide +kernel
theorem dX7_read_15 : decode cX7_read 15 = .ok (.ifCond .eq 31, 3) := by decide +kernel
theorem dX7_read_18 : decode cX7_read 18 = .ok (.aload_n 0, 1) := by decide +kernel
theorem dX7_read_19 : decode cX7_read 19 = .ok (.aload_n 2, 1) := by decide +kernel
theorem dX7_read_20 : decode cX7_read 20 = .ok (.invokevirtual 23, 3) := by decide +kernel
theorem dX7_read_23 : decode cX7_read 23 = .ok (.ifCond .eq 23, 3) := by decide +kernel
theorem dX7_read_26 : decode cX7_read 26 = .ok (.aload_n 0, 1) := by decide +kernel
theorem dX7_read_27 : decode cX7_read 27 = .ok (.aload_n 2, 1) := by decide +kernel
theorem dX7_read_28 : decode cX7_read 28 = .ok (.invokevirtual 26, 3) := by decide +kernel
theorem dX7_read_31 : decode cX7_read 31 = .ok (.ifCond .eq 15, 3) := by decide +kernel
theorem dX7_read_34 : decode cX7_read 34 = .ok (.aload_n 0, 1) := by decide +kernel
theorem dX7_read_35 : decode cX7_read 35 = .ok (.aload_n 2, 1) := by decide +kernel
theorem dX7_read_36 : decode cX7_read 36 = .ok (.invokevirtual 29, 3) := by decide +kernel
theorem dX7_read_39 : decode cX7_read 39 = .ok (.ifCond .eq 7, 3) := by decide +kernel
theorem dX7_read_42 : decode cX7_read 42 = .ok (.iconst 1, 1) := by decide +kernel
theorem dX7_read_43 : decode cX7_read 43 = .ok (.goto 4, 3) := by decide +kernel
theorem dX7_read_46 : decode cX7_read 46 = .ok (.iconst 0, 1) := by decide +kernel
theorem dX7_read_47 : decode cX7_read 47 = .ok (.istore_n 3, 1) := by decide +kernel
theorem dX7_read_48 : decode cX7_read 48 = .ok (.iload_n 3, 1) := by decide +kernel
theorem dX7_read_49 : decode cX7_read 49 = .ok (.ifCond .eq 8, 3) := by decide +kernel
theorem dX7_read_52 : decode cX7_read 52 = .ok (.bipush (-9), 2) := by decide +kernel
theorem dX7_read_54 : decode cX7_read 54 = .ok (.goto 7, 3) := by decide +kernel
theorem dX7_read_57 : decode cX7_read 57 = .ok (.aload_n 0, 1) := by decide +kernel
theorem dX7_read_58 : decode cX7_read 58 = .ok (.getfield 15, 3) := by decide +kernel
theorem dX7_read_61 : decode cX7_read 61 = .ok (.ireturn, 1) := by decide +kernel
theorem dX7_readMules_0 : decode cX7_readMules 0 = .ok (.aload_n 0, 1) := by decide +kernel
theorem dX7_readMules_1 : decode cX7_readMules 1 = .ok (.bipush 121, 2) := by decide +kernel
theorem dX7_readMules_3 : decode cX7_readMules 3 = .ok (.invokevirtual 32, 3) := by decide +kernel
theorem dX7_readMules_6 : decode cX7_readMules 6 = .ok (.ifCond .eq 16, 3) := by decide +kernel
theorem dX7_readMules_9 : decode cX7_readMules 9 = .ok (.aload_n 0, 1) := by decide +kernel
theorem dX7_readMules_10 : decode cX7_readMules 10 = .ok (.invokevirtual 36, 3) := by decide +kernel
theorem dX7_readMules_13 : decode cX7_readMules 13 = .ok (.iconst 1, 1) := by decide +kernel
theorem dX7_readMules_14 : decode cX7_readMules 14 = .ok (.bipush 6, 2) := by decide +kernel
theorem dX7_readMules_16 : decode cX7_readMules 16 = .ok (.invokestatic 40, 3) := by decide +kernel
theorem dX7_readMules_19 : decode cX7_readMules 19 = .ok (.ifCond .ne 5, 3) := by decide +kernel
theorem dX7_readMules_22 : decode cX7_readMules 22 = .ok (.iconst 0, 1) := by decide +kernel
theorem dX7_readMules_23 : decode cX7_readMules 23 = .ok (.ireturn, 1) := by decide +kernel
theorem dX7_readMules_24 : decode cX7_readMules 24 = .ok (.aload_n 1, 1) := by decide +kernel
theorem dX7_readMules_25 : decode cX7_readMules 25 = .ok (.aload_n 0, 1) := by decide +kernel
theorem dX7_readMules_26 : decode cX7_readMules 26 = .ok (.invokevirtual 36, 3) := by decide +kernel
theorem dX7_readMules_29 : decode cX7_readMules 29 = .ok (.putfield 44, 3) := by decide +kernel
theorem dX7_readMules_32 : decode cX7_readMules 32 = .ok (.aload_n 0, 1) := by decide +kernel
theorem dX7_readMules_33 : decode cX7_readMules 33 = .ok (.dup, 1) := by decide +kernel
theorem dX7_readMules_34 : decode cX7_readMules 34 = .ok (.getfield 15, 3) := by decide +kernel
theorem dX7_readMules_37 : decode cX7_readMules 37 = .ok (.iconst 1, 1) := by decide +kernel
theorem dX7_readMules_38 : decode cX7_readMules 38 = .ok (.iadd, 1) := by decide +kernel
theorem dX7_readMules_39 : decode cX7_readMules 39 = .ok (.putfield 15, 3) := by decide +kernel
theorem dX7_readMules_42 : decode cX7_readMules 42 = .ok (.iconst 1, 1) := by decide +kernel
theorem dX7_readMules_43 : decode cX7_readMules 43 = .ok (.ireturn, 1) := by decide +kernel
theorem dX7_readSuns_0 : decode cX7_readSuns 0 = .ok (.aload_n 0, 1) := by decide +kernel
theorem dX7_readSuns_1 : decode cX7_readSuns 1 = .ok (.bipush 115, 2) := by decide +kernel
theorem dX7_readSuns_3 : decode cX7_readSuns 3 = .ok (.invokevirtual 32, 3) := by decide +kernel
theorem dX7_readSuns_6 : decode cX7_readSuns 6 = .ok (.ifCond .ne 5, 3) := by decide +kernel
theorem dX7_readSuns_9 : decode cX7_readSuns 9 = .ok (.iconst 0, 1) := by decide +kernel
theorem dX7_readSuns_10 : decode cX7_readSuns 10 = .ok (.ireturn, 1) := by decide +kernel
theorem dX7_readSuns_11 : decode cX7_readSuns 11 = .ok (.aload_n 1, 1) := by decide +kernel
theorem dX7_readSuns_12 : decode cX7_readSuns 12 = .ok (.iconst 0, 1) := by decide +kernel
theorem dX7_readSuns_13 : decode cX7_readSuns 13 = .ok (.putfield 49, 3) := by decide +kernel
theorem dX7_readSuns_16 : decode cX7_readSuns 16 = .ok (.aload_n 1, 1) := by decide +kernel
theorem dX7_readSuns_17 : decode cX7_readSuns 17 = .ok (.getfield 49, 3) := by decide +kernel
theorem dX7_readSuns_20 : decode cX7_readSuns 20 = .ok (.bipush 8, 2) := by decide +kernel
theorem dX7_readSuns_22 : decode cX7_readSuns 22 = .ok (.if_icmp .ge 51, 3) := by decide +kernel
theorem dX7_readSuns_25 : decode cX7_readSuns 25 = .ok (.aload_n 0, 1) := by decide +kernel
theorem dX7_readSuns_26 : decode cX7_readSuns 26 = .ok (.invokevirtual 36, 3) := by decide +kernel
theorem dX7_readSuns_29 : decode cX7_readSuns 29 = .ok (.iconst 0, 1) := by decide +kernel
theorem dX7_readSuns_30 : decode cX7_readSuns 30 = .ok (.iconst 1, 1) := by decide +kernel
theorem dX7_readSuns_31 : decode cX7_readSuns 31 = .ok (.invokestatic 40, 3) := by decide +kernel
theorem dX7_readSuns_34 : decode cX7_readSuns 34 = .ok (.ifCond .eq 39, 3) := by decide +kernel
theorem dX7_readSuns_37 : decode cX7_readSuns 37 = .ok (.aload_n 1, 1) := by decide +kernel
theorem dX7_readSuns_38 : decode cX7_readSuns 38 = .ok (.getfield 52, 3) := by decide +kernel
theorem dX7_readSuns_41 : decode cX7_readSuns 41 = .ok (.aload_n 1, 1) := by decide +kernel
theorem dX7_readSuns_42 : decode cX7_readSuns 42 = .ok (.getfield 49, 3) := by decide +kernel
theorem dX7_readSuns_45 : decode cX7_readSuns 45 = .ok (.aload_n 0, 1) := by decide +kernel
theorem dX7_readSuns_46 : decode cX7_readSuns 46 = .ok (.invokevirtual 36, 3) := by decide +kernel
theorem dX7_readSuns_49 : decode cX7_readSuns 49 = .ok (.iastore, 1) := by decide +kernel
theorem dX7_readSuns_50 : decode cX7_readSuns 50 = .ok (.aload_n 1, 1) := by decide +kernel
theorem dX7_readSuns_51 : decode cX7_readSuns 51 = .ok (.dup, 1) := by decide +kernel
theorem dX7_readSuns_52 : decode cX7_readSuns 52 = .ok (.getfield 49, 3) := by decide +kernel
theorem dX7_readSuns_55 : decode cX7_readSuns 55 = .ok (.iconst 1, 1) := by decide +kernel
theorem dX7_readSuns_56 : decode cX7_readSuns 56 = .ok (.iadd, 1) := by decide +kernel
theorem dX7_readSuns_57 : decode cX7_readSuns 57 = .ok (.putfield 49, 3) := by decide +kernel
theorem dX7_readSuns_60 : decode cX7_readSuns 60 = .ok (.aload_n 0, 1) := by decide +kernel
theorem dX7_readSuns_61 : decode cX7_readSuns 61 = .ok (.dup, 1) := by decide +kernel
theorem dX7_readSuns_62 : decode cX7_readSuns 62 = .ok (.getfield 15, 3) := by decide +kernel
theorem dX7_readSuns_65 : decode cX7_readSuns 65 = .ok (.iconst 1, 1) := by decide +kernel
theorem dX7_readSuns_66 : decode cX7_readSuns 66 = .ok (.iadd, 1) := by decide +kernel
theorem dX7_readSuns_67 : decode cX7_readSuns 67 = .ok (.putfield 15, 3) := by decide +kernel
theorem dX7_readSuns_70 : decode cX7_readSuns 70 = .ok (.goto (-54), 3) := by decide +kernel
theorem dX7_readSuns_73 : decode cX7_readSuns 73 = .ok (.aload_n 1, 1) := by decide +kernel
theorem dX7_readSuns_74 : decode cX7_readSuns 74 = .ok (.getfield 49, 3) := by decide +kernel
theorem dX7_readSuns_77 : decode cX7_readSuns 77 = .ok (.ifCond .le 7, 3) := by decide +kernel
theorem dX7_readSuns_80 : decode cX7_readSuns 80 = .ok (.iconst 1, 1) := by decide +kernel
theorem dX7_readSuns_81 : decode cX7_readSuns 81 = .ok (.goto 4, 3) := by decide +kernel
theorem dX7_readSuns_84 : decode cX7_readSuns 84 = .ok (.iconst 0, 1) := by decide +kernel
theorem dX7_readSuns_85 : decode cX7_readSuns 85 = .ok (.ireturn, 1) := by decide +kernel
theorem dX7_readNeeds_0 : decode cX7_readNeeds 0 = .ok (.aload_n 0, 1) := by decide +kernel
theorem dX7_readNeeds_1 : decode cX7_readNeeds 1 = .ok (.bipush 118, 2) := by decide +kernel
theorem dX7_readNeeds_3 : decode cX7_readNeeds 3 = .ok (.invokevirtual 32, 3) := by decide +kernel
theorem dX7_readNeeds_6 : decode cX7_readNeeds 6 = .ok (.ifCond .ne 5, 3) := by decide +kernel
theorem dX7_readNeeds_9 : decode cX7_readNeeds 9 = .ok (.iconst 0, 1) := by decide +kernel
theorem dX7_readNeeds_10 : decode cX7_readNeeds 10 = .ok (.ireturn, 1) := by decide +kernel
theorem dX7_readNeeds_11 : decode cX7_readNeeds 11 = .ok (.iconst 1, 1) := by decide +kernel
theorem dX7_readNeeds_12 : decode cX7_readNeeds 12 = .ok (.istore_n 2, 1) := by decide +kernel
theorem dX7_readNeeds_13 : decode cX7_readNeeds 13 = .ok (.iload_n 2, 1) := by decide +kernel
theorem dX7_readNeeds_14 : decode cX7_readNeeds 14 = .ok (.iconst 5, 1) := by decide +kernel
theorem dX7_readNeeds_15 : decode cX7_readNeeds 15 = .ok (.if_icmp .ge 40, 3) := by decide +kernel
theorem dX7_readNeeds_18 : decode cX7_readNeeds 18 = .ok (.aload_n 0, 1) := by decide +kernel
theorem dX7_readNeeds_19 : decode cX7_readNeeds 19 = .ok (.invokevirtual 36, 3) := by decide +kernel
theorem dX7_readNeeds_22 : decode cX7_readNeeds 22 = .ok (.bipush (-9), 2) := by decide +kernel
theorem dX7_readNeeds_24 : decode cX7_readNeeds 24 = .ok (.if_icmp .ne 5, 3) := by decide +kernel
theorem dX7_readNeeds_27 : decode cX7_readNeeds 27 = .ok (.iconst 0, 1) := by decide +kernel
theorem dX7_readNeeds_28 : decode cX7_readNeeds 28 = .ok (.ireturn, 1) := by decide +kernel
theorem dX7_readNeeds_29 : decode cX7_readNeeds 29 = .ok (.aload_n 1, 1) := by decide +kernel
theorem dX7_readNeeds_30 : decode cX7_readNeeds 30 = .ok (.getfield 56, 3) := by decide +kernel
theorem dX7_readNeeds_33 : decode cX7_readNeeds 33 = .ok (.iload_n 2, 1) := by decide +kernel
theorem dX7_readNeeds_34 : decode cX7_readNeeds 34 = .ok (.aload_n 0, 1) := by decide +kernel
theorem dX7_readNeeds_35 : decode cX7_readNeeds 35 = .ok (.invokevirtual 36, 3) := by decide +kernel
theorem dX7_readNeeds_38 : decode cX7_readNeeds 38 = .ok (.iastore, 1) := by decide +kernel
theorem dX7_readNeeds_39 : decode cX7_readNeeds 39 = .ok (.aload_n 0, 1) := by decide +kernel
theorem dX7_readNeeds_40 : decode cX7_readNeeds 40 = .ok (.dup, 1) := by decide +kernel
theorem dX7_readNeeds_41 : decode cX7_readNeeds 41 = .ok (.getfield 15, 3) := by decide +kernel
theorem dX7_readNeeds_44 : decode cX7_readNeeds 44 = .ok (.iconst 1, 1) := by decide +kernel
theorem dX7_readNeeds_45 : decode cX7_readNeeds 45 = .ok (.iadd, 1) := by decide +kernel
theorem dX7_readNeeds_46 : decode cX7_readNeeds 46 = .ok (.putfield 15, 3) := by decide +kernel
theorem dX7_readNeeds_49 : decode cX7_readNeeds 49 = .ok (.iinc 2 1, 3) := by decide +kernel
theorem dX7_readNeeds_52 : decode cX7_readNeeds 52 = .ok (.goto (-39), 3) := by decide +kernel
theorem dX7_readNeeds_55 : decode cX7_readNeeds 55 = .ok (.iconst 1, 1) := by decide +kernel
theorem dX7_readNeeds_56 : decode cX7_readNeeds 56 = .ok (.ireturn, 1) := by decide +kernel
theorem dX7_readJars_0 : decode cX7_readJars 0 = .ok (.aload_n 1, 1) := by decide +kernel
theorem dX7_readJars_1 : decode cX7_readJars 1 = .ok (.iconst 0, 1) := by decide +kernel
theorem dX7_readJars_2 : decode cX7_readJars 2 = .ok (.putfield 59, 3) := by decide +kernel
theorem dX7_readJars_5 : decode cX7_readJars 5 = .ok (.aload_n 0, 1) := by decide +kernel
theorem dX7_readJars_6 : decode cX7_readJars 6 = .ok (.invokevirtual 62, 3) := by decide +kernel
theorem dX7_readJars_9 : decode cX7_readJars 9 = .ok (.iconst 0, 1) := by decide +kernel
theorem dX7_readJars_10 : decode cX7_readJars 10 = .ok (.istore_n 2, 1) := by decide +kernel
theorem dX7_readJars_11 : decode cX7_readJars 11 = .ok (.iload_n 2, 1) := by decide +kernel
theorem dX7_readJars_12 : decode cX7_readJars 12 = .ok (.bipush 6, 2) := by decide +kernel
theorem dX7_readJars_14 : decode cX7_readJars 14 = .ok (.if_icmp .ge 44, 3) := by decide +kernel
theorem dX7_readJars_17 : decode cX7_readJars 17 = .ok (.aload_n 0, 1) := by decide +kernel
theorem dX7_readJars_18 : decode cX7_readJars 18 = .ok (.invokevirtual 65, 3) := by decide +kernel
theorem dX7_readJars_21 : decode cX7_readJars 21 = .ok (.sipush 1000, 3) := by decide +kernel
theorem dX7_readJars_24 : decode cX7_readJars 24 = .ok (.if_icmp .eq 34, 3) := by decide +kernel
theorem dX7_readJars_27 : decode cX7_readJars 27 = .ok (.aload_n 0, 1) := by decide +kernel
theorem dX7_readJars_28 : decode cX7_readJars 28 = .ok (.aload_n 1, 1) := by decide +kernel
theorem dX7_readJars_29 : decode cX7_readJars 29 = .ok (.iload_n 2, 1) := by decide +kernel
theorem dX7_readJars_30 : decode cX7_readJars 30 = .ok (.invokevirtual 68, 3) := by decide +kernel
theorem dX7_readJars_33 : decode cX7_readJars 33 = .ok (.ifCond .ne 5, 3) := by decide +kernel
theorem dX7_readJars_36 : decode cX7_readJars 36 = .ok (.iconst 0, 1) := by decide +kernel
theorem dX7_readJars_37 : decode cX7_readJars 37 = .ok (.ireturn, 1) := by decide +kernel
theorem dX7_readJars_38 : decode cX7_readJars 38 = .ok (.aload_n 1, 1) := by decide +kernel
theorem dX7_readJars_39 : decode cX7_readJars 39 = .ok (.dup, 1) := by decide +kernel
theorem dX7_readJars_40 : decode cX7_readJars 40 = .ok (.getfield 59, 3) := by decide +kernel
theorem dX7_readJars_43 : decode cX7_readJars 43 = .ok (.iconst 1, 1) := by decide +kernel
theorem dX7_readJars_44 : decode cX7_readJars 44 = .ok (.iadd, 1) := by decide +kernel
theorem dX7_readJars_45 : decode cX7_readJars 45 = .ok (.putfield 59, 3) := by decide +kernel
theorem dX7_readJars_48 : decode cX7_readJars 48 = .ok (.aload_n 0, 1) := by decide +kernel
theorem dX7_readJars_49 : decode cX7_readJars 49 = .ok (.invokevirtual 62, 3) := by decide +kernel
theorem dX7_readJars_52 : decode cX7_readJars 52 = .ok (.iinc 2 1, 3) := by decide +kernel
theorem dX7_readJars_55 : decode cX7_readJars 55 = .ok (.goto (-44), 3) := by decide +kernel
theorem dX7_readJars_58 : decode cX7_readJars 58 = .ok (.aload_n 0, 1) := by decide +kernel
theorem dX7_readJars_59 : decode cX7_readJars 59 = .ok (.invokevirtual 65, 3) := by decide +kernel
theorem dX7_readJars_62 : decode cX7_readJars 62 = .ok (.sipush 1000, 3) := by decide +kernel
theorem dX7_readJars_65 : decode cX7_readJars 65 = .ok (.if_icmp .ne 7, 3) := by decide +kernel
theorem dX7_readJars_68 : decode cX7_readJars 68 = .ok (.iconst 1, 1) := by decide +kernel
theorem dX7_readJars_69 : decode cX7_readJars 69 = .ok (.goto 4, 3) := by decide +kernel
theorem dX7_readJars_72 : decode cX7_readJars 72 = .ok (.iconst 0, 1) := by decide +kernel
theorem dX7_readJars_73 : decode cX7_readJars 73 = .ok (.ireturn, 1) := by decide +kernel
theorem dX7_readJar_0 : decode cX7_readJar 0 = .ok (.aload_n 0, 1) := by decide +kernel
theorem dX7_readJar_1 : decode cX7_readJar 1 = .ok (.invokevirtual 65, 3) := by decide +kernel
theorem dX7_readJar_4 : decode cX7_readJar 4 = .ok (.invokestatic 72, 3) := by decide +kernel
theorem dX7_readJar_7 : decode cX7_readJar 7 = .ok (.istore_n 3, 1) := by decide +kernel
theorem dX7_readJar_8 : decode cX7_readJar 8 = .ok (.iload_n 3, 1) := by decide +kernel
theorem dX7_readJar_9 : decode cX7_readJar 9 = .ok (.bipush (-9), 2) := by decide +kernel
theorem dX7_readJar_11 : decode cX7_readJar 11 = .ok (.if_icmp .ne 5, 3) := by decide +kernel
theorem dX7_readJar_14 : decode cX7_readJar 14 = .ok (.iconst 0, 1) := by decide +kernel
theorem dX7_readJar_15 : decode cX7_readJar 15 = .ok (.ireturn, 1) := by decide +kernel
theorem dX7_readJar_16 : decode cX7_readJar 16 = .ok (.aload_n 0, 1) := by decide +kernel
theorem dX7_readJar_17 : decode cX7_readJar 17 = .ok (.dup, 1) := by decide +kernel
theorem dX7_readJar_18 : decode cX7_readJar 18 = .ok (.getfield 15, 3) := by decide +kernel
theorem dX7_readJar_21 : decode cX7_readJar 21 = .ok (.iconst 1, 1) := by decide +kernel
theorem dX7_readJar_22 : decode cX7_readJar 22 = .ok (.iadd, 1) := by decide +kernel
theorem dX7_readJar_23 : decode cX7_readJar 23 = .ok (.putfield 15, 3) := by decide +kernel
theorem dX7_readJar_26 : decode cX7_readJar 26 = .ok (.aload_n 0, 1) := by decide +kernel
theorem dX7_readJar_27 : decode cX7_readJar 27 = .ok (.invokevirtual 36, 3) := by decide +kernel
theorem dX7_readJar_30 : decode cX7_readJar 30 = .ok (.istore 4, 2) := by decide +kernel
theorem dX7_readJar_32 : decode cX7_readJar 32 = .ok (.iload 4, 2) := by decide +kernel
theorem dX7_readJar_34 : decode cX7_readJar 34 = .ok (.bipush (-9), 2) := by decide +kernel
theorem dX7_readJar_36 : decode cX7_readJar 36 = .ok (.if_icmp .ne 5, 3) := by decide +kernel
theorem dX7_readJar_39 : decode cX7_readJar 39 = .ok (.iconst 0, 1) := by decide +kernel
theorem dX7_readJar_40 : decode cX7_readJar 40 = .ok (.ireturn, 1) := by decide +kernel
theorem dX7_readJar_41 : decode cX7_readJar 41 = .ok (.aload_n 0, 1) := by decide +kernel
theorem dX7_readJar_42 : decode cX7_readJar 42 = .ok (.dup, 1) := by decide +kernel
theorem dX7_readJar_43 : decode cX7_readJar 43 = .ok (.getfield 15, 3) := by decide +kernel
theorem dX7_readJar_46 : decode cX7_readJar 46 = .ok (.iconst 1, 1) := by decide +kernel
theorem dX7_readJar_47 : decode cX7_readJar 47 = .ok (.iadd, 1) := by decide +kernel
theorem dX7_readJar_48 : decode cX7_readJar 48 = .ok (.putfield 15, 3) := by decide +kernel
theorem dX7_readJar_51 : decode cX7_readJar 51 = .ok (.aload_n 0, 1) := by decide +kernel
theorem dX7_readJar_52 : decode cX7_readJar 52 = .ok (.invokevirtual 36, 3) := by decide +kernel
theorem dX7_readJar_55 : decode cX7_readJar 55 = .ok (.bipush (-9), 2) := by decide +kernel
theorem dX7_readJar_57 : decode cX7_readJar 57 = .ok (.if_icmp .eq 25, 3) := by decide +kernel
theorem dX7_readJar_60 : decode cX7_readJar 60 = .ok (.bipush 10, 2) := by decide +kernel
theorem dX7_readJar_62 : decode cX7_readJar 62 = .ok (.iload 4, 2) := by decide +kernel
theorem dX7_readJar_64 : decode cX7_readJar 64 = .ok (.imul, 1) := by decide +kernel
theorem dX7_readJar_65 : decode cX7_readJar 65 = .ok (.aload_n 0, 1) := by decide +kernel
theorem dX7_readJar_66 : decode cX7_readJar 66 = .ok (.invokevirtual 36, 3) := by decide +kernel
theorem dX7_readJar_69 : decode cX7_readJar 69 = .ok (.iadd, 1) := by decide +kernel
theorem dX7_readJar_70 : decode cX7_readJar 70 = .ok (.istore 4, 2) := by decide +kernel
theorem dX7_readJar_72 : decode cX7_readJar 72 = .ok (.aload_n 0, 1) := by decide +kernel
theorem dX7_readJar_73 : decode cX7_readJar 73 = .ok (.dup, 1) := by decide +kernel
theorem dX7_readJar_74 : decode cX7_readJar 74 = .ok (.getfield 15, 3) := by decide +kernel
theorem dX7_readJar_77 : decode cX7_readJar 77 = .ok (.iconst 1, 1) := by decide +kernel
theorem dX7_readJar_78 : decode cX7_readJar 78 = .ok (.iadd, 1) := by decide +kernel
theorem dX7_readJar_79 : decode cX7_readJar 79 = .ok (.putfield 15, 3) := by decide +kernel
theorem dX7_readJar_82 : decode cX7_readJar 82 = .ok (.iload 4, 2) := by decide +kernel
theorem dX7_readJar_84 : decode cX7_readJar 84 = .ok (.iconst 1, 1) := by decide +kernel
theorem dX7_readJar_85 : decode cX7_readJar 85 = .ok (.bipush 20, 2) := by decide +kernel
theorem dX7_readJar_87 : decode cX7_readJar 87 = .ok (.invokestatic 40, 3) := by decide +kernel
theorem dX7_readJar_90 : decode cX7_readJar 90 = .ok (.ifCond .ne 5, 3) := by decide +kernel
theorem dX7_readJar_93 : decode cX7_readJar 93 = .ok (.iconst 0, 1) := by decide +kernel
theorem dX7_readJar_94 : decode cX7_readJar 94 = .ok (.ireturn, 1) := by decide +kernel
theorem dX7_readJar_95 : decode cX7_readJar 95 = .ok (.aload_n 1, 1) := by decide +kernel
theorem dX7_readJar_96 : decode cX7_readJar 96 = .ok (.getfield 78, 3) := by decide +kernel
theorem dX7_readJar_99 : decode cX7_readJar 99 = .ok (.iload_n 2, 1) := by decide +kernel
theorem dX7_readJar_100 : decode cX7_readJar 100 = .ok (.iload_n 3, 1) := by decide +kernel
theorem dX7_readJar_101 : decode cX7_readJar 101 = .ok (.iastore, 1) := by decide +kernel
theorem dX7_readJar_102 : decode cX7_readJar 102 = .ok (.aload_n 1, 1) := by decide +kernel
theorem dX7_readJar_103 : decode cX7_readJar 103 = .ok (.getfield 81, 3) := by decide +kernel
theorem dX7_readJar_106 : decode cX7_readJar 106 = .ok (.iload_n 2, 1) := by decide +kernel
theorem dX7_readJar_107 : decode cX7_readJar 107 = .ok (.iload 4, 2) := by decide +kernel
theorem dX7_readJar_109 : decode cX7_readJar 109 = .ok (.iastore, 1) := by decide +kernel
theorem dX7_readJar_110 : decode cX7_readJar 110 = .ok (.iconst 1, 1) := by decide +kernel
theorem dX7_readJar_111 : decode cX7_readJar 111 = .ok (.ireturn, 1) := by decide +kernel
theorem dX7_readLetter_0 : decode cX7_readLetter 0 = .ok (.aload_n 0, 1) := by decide +kernel
theorem dX7_readLetter_1 : decode cX7_readLetter 1 = .ok (.invokevirtual 62, 3) := by decide +kernel
theorem dX7_readLetter_4 : decode cX7_readLetter 4 = .ok (.aload_n 0, 1) := by decide +kernel
theorem dX7_readLetter_5 : decode cX7_readLetter 5 = .ok (.invokevirtual 65, 3) := by decide +kernel
theorem dX7_readLetter_8 : decode cX7_readLetter 8 = .ok (.iload_n 1, 1) := by decide +kernel
theorem dX7_readLetter_9 : decode cX7_readLetter 9 = .ok (.if_icmp .eq 5, 3) := by decide +kernel
theorem dX7_readLetter_12 : decode cX7_readLetter 12 = .ok (.iconst 0, 1) := by decide +kernel
theorem dX7_readLetter_13 : decode cX7_readLetter 13 = .ok (.ireturn, 1) := by decide +kernel
theorem dX7_readLetter_14 : decode cX7_readLetter 14 = .ok (.aload_n 0, 1) := by decide +kernel
theorem dX7_readLetter_15 : decode cX7_readLetter 15 = .ok (.dup, 1) := by decide +kernel
theorem dX7_readLetter_16 : decode cX7_readLetter 16 = .ok (.getfield 15, 3) := by decide +kernel
theorem dX7_readLetter_19 : decode cX7_readLetter 19 = .ok (.iconst 1, 1) := by decide +kernel
theorem dX7_readLetter_20 : decode cX7_readLetter 20 = .ok (.iadd, 1) := by decide +kernel
theorem dX7_readLetter_21 : decode cX7_readLetter 21 = .ok (.putfield 15, 3) := by decide +kernel
theorem dX7_readLetter_24 : decode cX7_readLetter 24 = .ok (.iconst 1, 1) := by decide +kernel
theorem dX7_readLetter_25 : decode cX7_readLetter 25 = .ok (.ireturn, 1) := by decide +kernel
theorem dX7_skipBlanks_0 : decode cX7_skipBlanks 0 = .ok (.aload_n 0, 1) := by decide +kernel
theorem dX7_skipBlanks_1 : decode cX7_skipBlanks 1 = .ok (.getfield 15, 3) := by decide +kernel
theorem dX7_skipBlanks_4 : decode cX7_skipBlanks 4 = .ok (.bipush 60, 2) := by decide +kernel
theorem dX7_skipBlanks_6 : decode cX7_skipBlanks 6 = .ok (.if_icmp .ge 25, 3) := by decide +kernel
theorem dX7_skipBlanks_9 : decode cX7_skipBlanks 9 = .ok (.aload_n 0, 1) := by decide +kernel
theorem dX7_skipBlanks_10 : decode cX7_skipBlanks 10 = .ok (.invokevirtual 65, 3) := by decide +kernel
theorem dX7_skipBlanks_13 : decode cX7_skipBlanks 13 = .ok (.bipush 32, 2) := by decide +kernel
theorem dX7_skipBlanks_15 : decode cX7_skipBlanks 15 = .ok (.if_icmp .ne 16, 3) := by decide +kernel
theorem dX7_skipBlanks_18 : decode cX7_skipBlanks 18 = .ok (.aload_n 0, 1) := by decide +kernel
theorem dX7_skipBlanks_19 : decode cX7_skipBlanks 19 = .ok (.dup, 1) := by decide +kernel
theorem dX7_skipBlanks_20 : decode cX7_skipBlanks 20 = .ok (.getfield 15, 3) := by decide +kernel
theorem dX7_skipBlanks_23 : decode cX7_skipBlanks 23 = .ok (.iconst 1, 1) := by decide +kernel
theorem dX7_skipBlanks_24 : decode cX7_skipBlanks 24 = .ok (.iadd, 1) := by decide +kernel
theorem dX7_skipBlanks_25 : decode cX7_skipBlanks 25 = .ok (.putfield 15, 3) := by decide +kernel
theorem dX7_skipBlanks_28 : decode cX7_skipBlanks 28 = .ok (.goto (-28), 3) := by decide +kernel
theorem dX7_skipBlanks_31 : decode cX7_skipBlanks 31 = .ok (.return_, 1) := by decide +kernel
theorem dX7_sign_0 : decode cX7_sign 0 = .ok (.aload_n 0, 1) := by decide +kernel
theorem dX7_sign_1 : decode cX7_sign 1 = .ok (.getfield 9, 3) := by decide +kernel
theorem dX7_sign_4 : decode cX7_sign 4 = .ok (.ifnull 32, 3) := by decide +kernel
theorem dX7_sign_7 : decode cX7_sign 7 = .ok (.aload_n 0, 1) := by decide +kernel
theorem dX7_sign_8 : decode cX7_sign 8 = .ok (.getfield 9, 3) := by decide +kernel
theorem dX7_sign_11 : decode cX7_sign 11 = .ok (.aload_n 0, 1) := by decide +kernel
theorem dX7_sign_12 : decode cX7_sign 12 = .ok (.getfield 15, 3) := by decide +kernel
theorem dX7_sign_15 : decode cX7_sign 15 = .ok (.invokevirtual 84, 3) := by decide +kernel
theorem dX7_sign_18 : decode cX7_sign 18 = .ok (.ifCond .eq 18, 3) := by decide +kernel
theorem dX7_sign_21 : decode cX7_sign 21 = .ok (.aload_n 0, 1) := by decide +kernel
theorem dX7_sign_22 : decode cX7_sign 22 = .ok (.getfield 9, 3) := by decide +kernel
theorem dX7_sign_25 : decode cX7_sign 25 = .ok (.getfield 90, 3) := by decide +kernel
theorem dX7_sign_28 : decode cX7_sign 28 = .ok (.aload_n 0, 1) := by decide +kernel
theorem dX7_sign_29 : decode cX7_sign 29 = .ok (.getfield 15, 3) := by decide +kernel
theorem dX7_sign_32 : decode cX7_sign 32 = .ok (.iaload, 1) := by decide +kernel
theorem dX7_sign_33 : decode cX7_sign 33 = .ok (.goto 6, 3) := by decide +kernel
theorem dX7_sign_36 : decode cX7_sign 36 = .ok (.sipush 1000, 3) := by decide +kernel
theorem dX7_sign_39 : decode cX7_sign 39 = .ok (.ireturn, 1) := by decide +kernel
theorem dX7_figure_0 : decode cX7_figure 0 = .ok (.aload_n 0, 1) := by decide +kernel
theorem dX7_figure_1 : decode cX7_figure 1 = .ok (.invokevirtual 65, 3) := by decide +kernel
theorem dX7_figure_4 : decode cX7_figure 4 = .ok (.bipush 48, 2) := by decide +kernel
theorem dX7_figure_6 : decode cX7_figure 6 = .ok (.bipush 57, 2) := by decide +kernel
theorem dX7_figure_8 : decode cX7_figure 8 = .ok (.invokestatic 40, 3) := by decide +kernel
theorem dX7_figure_11 : decode cX7_figure 11 = .ok (.ifCond .eq 13, 3) := by decide +kernel
theorem dX7_figure_14 : decode cX7_figure 14 = .ok (.aload_n 0, 1) := by decide +kernel
theorem dX7_figure_15 : decode cX7_figure 15 = .ok (.invokevirtual 65, 3) := by decide +kernel
theorem dX7_figure_18 : decode cX7_figure 18 = .ok (.bipush 48, 2) := by decide +kernel
theorem dX7_figure_20 : decode cX7_figure 20 = .ok (.isub, 1) := by decide +kernel
theorem dX7_figure_21 : decode cX7_figure 21 = .ok (.goto 5, 3) := by decide +kernel
theorem dX7_figure_24 : decode cX7_figure 24 = .ok (.bipush (-9), 2) := by decide +kernel
theorem dX7_figure_26 : decode cX7_figure 26 = .ok (.ireturn, 1) := by decide +kernel
theorem dX8_init_0 : decode cX8_init 0 = .ok (.aload_n 0, 1) := by decide +kernel
theorem dX8_init_1 : decode cX8_init 1 = .ok (.invokespecial 3, 3) := by decide +kernel
theorem dX8_init_4 : decode cX8_init 4 = .ok (.aload_n 0, 1) := by decide +kernel
theorem dX8_init_5 : decode cX8_init 5 = .ok (.bipush 60, 2) := by decide +kernel
theorem dX8_init_7 : decode cX8_init 7 = .ok (.newarray .int, 2) := by decide +kernel
theorem dX8_init_9 : decode cX8_init 9 = .ok (.putfield 9, 3) := by decide +kernel
theorem dX8_init_12 : decode cX8_init 12 = .ok (.aload_n 0, 1) := by decide +kernel
theorem dX8_init_13 : decode cX8_init 13 = .ok (.iconst (-1), 1) := by decide +kernel
theorem dX8_init_14 : decode cX8_init 14 = .ok (.putfield 15, 3) := by decide +kernel
theorem dX8_init_17 : decode cX8_init 17 = .ok (.return_, 1) := by decide +kernel
theorem dX8_isThere_0 : decode cX8_isThere 0 = .ok (.aload_n 0, 1) := by decide +kernel
theorem dX8_isThere_1 : decode cX8_isThere 1 = .ok (.getfield 15, 3) := by decide +kernel
theorem dX8_isThere_4 : decode cX8_isThere 4 = .ok (.iconst (-1), 1) := by decide +kernel
theorem dX8_isThere_5 : decode cX8_isThere 5 = .ok (.if_icmp .eq 7, 3) := by decide +kernel
theorem dX8_isThere_8 : decode cX8_isThere 8 = .ok (.iconst 1, 1) := by decide +kernel
theorem dX8_isThere_9 : decode cX8_isThere 9 = .ok (.goto 4, 3) := by decide +kernel
theorem dX8_isThere_12 : decode cX8_isThere 12 = .ok (.iconst 0, 1) := by decide +kernel
theorem dX8_isThere_13 : decode cX8_isThere 13 = .ok (.ireturn, 1) := by decide +kernel
theorem dX8_has_0 : decode cX8_has 0 = .ok (.iload_n 1, 1) := by decide +kernel
theorem dX8_has_1 : decode cX8_has 1 = .ok (.ifCond .lt 15, 3) := by decide +kernel
theorem dX8_has_4 : decode cX8_has 4 = .ok (.iload_n 1, 1) := by decide +kernel
theorem dX8_has_5 : decode cX8_has 5 = .ok (.aload_n 0, 1) := by decide +kernel
theorem dX8_has_6 : decode cX8_has 6 = .ok (.getfield 15, 3) := by decide +kernel
theorem dX8_has_9 : decode cX8_has 9 = .ok (.if_icmp .ge 7, 3) := by decide +kernel
theorem dX8_has_12 : decode cX8_has 12 = .ok (.iconst 1, 1) := by decide +kernel
theorem dX8_has_13 : decode cX8_has 13 = .ok (.goto 4, 3) := by decide +kernel
theorem dX8_has_16 : decode cX8_has 16 = .ok (.iconst 0, 1) := by decide +kernel
theorem dX8_has_17 : decode cX8_has 17 = .ok (.ireturn, 1) := by decide +kernel
theorem dX8_hasFrom_0 : decode cX8_hasFrom 0 = .ok (.iload_n 1, 1) := by decide +kernel
theorem dX8_hasFrom_1 : decode cX8_hasFrom 1 = .ok (.ifCond .lt 25, 3) := by decide +kernel
theorem dX8_hasFrom_4 : decode cX8_hasFrom 4 = .ok (.iload_n 1, 1) := by decide +kernel
theorem dX8_hasFrom_5 : decode cX8_hasFrom 5 = .ok (.aload_n 0, 1) := by decide +kernel
theorem dX8_hasFrom_6 : decode cX8_hasFrom 6 = .ok (.getfield 15, 3) := by decide +kernel
theorem dX8_hasFrom_9 : decode cX8_hasFrom 9 = .ok (.if_icmp .gt 17, 3) := by decide +kernel
theorem dX8_hasFrom_12 : decode cX8_hasFrom 12 = .ok (.iload_n 2, 1) := by decide +kernel
theorem dX8_hasFrom_13 : decode cX8_hasFrom 13 = .ok (.aload_n 0, 1) := by decide +kernel
theorem dX8_hasFrom_14 : decode cX8_hasFrom 14 = .ok (.getfield 15, 3) := by decide +kernel
theorem dX8_hasFrom_17 : decode cX8_hasFrom 17 = .ok (.iload_n 1, 1) := by decide +kernel
theorem dX8_hasFrom_18 : decode cX8_hasFrom 18 = .ok (.isub, 1) := by decide +kernel
theorem dX8_hasFrom_19 : decode cX8_hasFrom 19 = .ok (.if_icmp .gt 7, 3) := by decide +kernel
theorem dX8_hasFrom_22 : decode cX8_hasFrom 22 = .ok (.iconst 1, 1) := by decide +kernel
theorem dX8_hasFrom_23 : decode cX8_hasFrom 23 = .ok (.goto 4, 3) := by decide +kernel
theorem dX8_hasFrom_26 : decode cX8_hasFrom 26 = .ok (.iconst 0, 1) := by decide +kernel
theorem dX8_hasFrom_27 : decode cX8_hasFrom 27 = .ok (.ireturn, 1) := by decide +kernel
theorem dX8_makeAnew_0 : decode cX8_makeAnew 0 = .ok (.aload_n 0, 1) := by decide +kernel
theorem dX8_makeAnew_1 : decode cX8_makeAnew 1 = .ok (.iload_n 1, 1) := by decide +kernel
theorem dX8_makeAnew_2 : decode cX8_makeAnew 2 = .ok (.putfield 15, 3) := by decide +kernel
theorem dX8_makeAnew_5 : decode cX8_makeAnew 5 = .ok (.aload_n 0, 1) := by decide +kernel
theorem dX8_makeAnew_6 : decode cX8_makeAnew 6 = .ok (.getfield 9, 3) := by decide +kernel
theorem dX8_makeAnew_9 : decode cX8_makeAnew 9 = .ok (.iload_n 2, 1) := by decide +kernel
theorem dX8_makeAnew_10 : decode cX8_makeAnew 10 = .ok (.invokestatic 19, 3) := by decide +kernel
theorem dX8_makeAnew_13 : decode cX8_makeAnew 13 = .ok (.return_, 1) := by decide +kernel
theorem dX8_sum_0 : decode cX8_sum 0 = .ok (.lconst 0, 1) := by decide +kernel
theorem dX8_sum_1 : decode cX8_sum 1 = .ok (.lstore_n 1, 1) := by decide +kernel
theorem dX8_sum_2 : decode cX8_sum 2 = .ok (.iconst 0, 1) := by decide +kernel
theorem dX8_sum_3 : decode cX8_sum 3 = .ok (.istore_n 3, 1) := by decide +kernel
theorem dX8_sum_4 : decode cX8_sum 4 = .ok (.iload_n 3, 1) := by decide +kernel
theorem dX8_sum_5 : decode cX8_sum 5 = .ok (.aload_n 0, 1) := by decide +kernel
theorem dX8_sum_6 : decode cX8_sum 6 = .ok (.getfield 15, 3) := by decide +kernel
theorem dX8_sum_9 : decode cX8_sum 9 = .ok (.if_icmp .ge 19, 3) := by decide +kernel
theorem dX8_sum_12 : decode cX8_sum 12 = .ok (.lload_n 1, 1) := by decide +kernel
theorem dX8_sum_13 : decode cX8_sum 13 = .ok (.aload_n 0, 1) := by decide +kernel
theorem dX8_sum_14 : decode cX8_sum 14 = .ok (.getfield 9, 3) := by decide +kernel
theorem dX8_sum_17 : decode cX8_sum 17 = .ok (.iload_n 3, 1) := by decide +kernel
theorem dX8_sum_18 : decode cX8_sum 18 = .ok (.iaload, 1) := by decide +kernel
theorem dX8_sum_19 : decode cX8_sum 19 = .ok (.i2l, 1) := by decide +kernel
theorem dX8_sum_20 : decode cX8_sum 20 = .ok (.ladd, 1) := by decide +kernel
theorem dX8_sum_21 : decode cX8_sum 21 = .ok (.lstore_n 1, 1) := by decide +kernel
theorem dX8_sum_22 : decode cX8_sum 22 = .ok (.iinc 3 1, 3) := by decide +kernel
theorem dX8_sum_25 : decode cX8_sum 25 = .ok (.goto (-21), 3) := by decide +kernel
theorem dX8_sum_28 : decode cX8_sum 28 = .ok (.lload_n 1, 1) := by decide +kernel
theorem dX8_sum_29 : decode cX8_sum 29 = .ok (.lreturn, 1) := by decide +kernel
theorem dX8_isAllWithin_0 : decode cX8_isAllWithin 0 = .ok (.iconst 0, 1) := by decide +kernel
theorem dX8_isAllWithin_1 : decode cX8_isAllWithin 1 = .ok (.istore_n 3, 1) := by decide +kernel
theorem dX8_isAllWithin_2 : decode cX8_isAllWithin 2 = .ok (.iload_n 3, 1) := by decide +kernel
theorem dX8_isAllWithin_3 : decode cX8_isAllWithin 3 = .ok (.aload_n 0, 1) := by decide +kernel
theorem dX8_isAllWithin_4 : decode cX8_isAllWithin 4 = .ok (.getfield 15, 3) := by decide +kernel
theorem dX8_isAllWithin_7 : decode cX8_isAllWithin 7 = .ok (.if_icmp .ge 25, 3) := by decide +kernel
theorem dX8_isAllWithin_10 : decode cX8_isAllWithin 10 = .ok (.aload_n 0, 1) := by decide +kernel
theorem dX8_isAllWithin_11 : decode cX8_isAllWithin 11 = .ok (.getfield 9, 3) := by decide +kernel
theorem dX8_isAllWithin_14 : decode cX8_isAllWithin 14 = .ok (.iload_n 3, 1) := by decide +kernel
theorem dX8_isAllWithin_15 : decode cX8_isAllWithin 15 = .ok (.iaload, 1) := by decide +kernel
theorem dX8_isAllWithin_16 : decode cX8_isAllWithin 16 = .ok (.iload_n 1, 1) := by decide +kernel
theorem dX8_isAllWithin_17 : decode cX8_isAllWithin 17 = .ok (.iload_n 2, 1) := by decide +kernel
theorem dX8_isAllWithin_18 : decode cX8_isAllWithin 18 = .ok (.invokestatic 25, 3) := by decide +kernel
theorem dX8_isAllWithin_21 : decode cX8_isAllWithin 21 = .ok (.ifCond .ne 5, 3) := by decide +kernel
theorem dX8_isAllWithin_24 : decode cX8_isAllWithin 24 = .ok (.iconst 0, 1) := by decide +kernel
theorem dX8_isAllWithin_25 : decode cX8_isAllWithin 25 = .ok (.ireturn, 1) := by decide +kernel
theorem dX8_isAllWithin_26 : decode cX8_isAllWithin 26 = .ok (.iinc 3 1, 3) := by decide +kernel
theorem dX8_isAllWithin_29 : decode cX8_isAllWithin 29 = .ok (.goto (-27), 3) := by decide +kernel
theorem dX8_isAllWithin_32 : decode cX8_isAllWithin 32 = .ok (.iconst 1, 1) := by decide +kernel
theorem dX8_isAllWithin_33 : decode cX8_isAllWithin 33 = .ok (.ireturn, 1) := by decide +kernel
theorem dX9_init_0 : decode cX9_init 0 = .ok (.aload_n 0, 1) := by decide +kernel
theorem dX9_init_1 : decode cX9_init 1 = .ok (.invokespecial 3, 3) := by decide +kernel
theorem dX9_init_4 : decode cX9_init 4 = .ok (.aload_n 0, 1) := by decide +kernel
theorem dX9_init_5 : decode cX9_init 5 = .ok (.bipush 6, 2) := by decide +kernel
theorem dX9_init_7 : decode cX9_init 7 = .ok (.newarray .int, 2) := by decide +kernel
theorem dX9_init_9 : decode cX9_init 9 = .ok (.putfield 9, 3) := by decide +kernel
theorem dX9_init_12 : decode cX9_init 12 = .ok (.aload_n 0, 1) := by decide +kernel
theorem dX9_init_13 : decode cX9_init 13 = .ok (.bipush 6, 2) := by decide +kernel
theorem dX9_init_15 : decode cX9_init 15 = .ok (.newarray .int, 2) := by decide +kernel
theorem dX9_init_17 : decode cX9_init 17 = .ok (.putfield 15, 3) := by decide +kernel
theorem dX9_init_20 : decode cX9_init 20 = .ok (.aload_n 0, 1) := by decide +kernel
theorem dX9_init_21 : decode cX9_init 21 = .ok (.bipush 6, 2) := by decide +kernel
theorem dX9_init_23 : decode cX9_init 23 = .ok (.newarray .int, 2) := by decide +kernel
theorem dX9_init_25 : decode cX9_init 25 = .ok (.putfield 18, 3) := by decide +kernel
theorem dX9_init_28 : decode cX9_init 28 = .ok (.aload_n 0, 1) := by decide +kernel
theorem dX9_init_29 : decode cX9_init 29 = .ok (.iconst 5, 1) := by decide +kernel
theorem dX9_init_30 : decode cX9_init 30 = .ok (.newarray .int, 2) := by decide +kernel
theorem dX9_init_32 : decode cX9_init 32 = .ok (.putfield 21, 3) := by decide +kernel
theorem dX9_init_35 : decode cX9_init 35 = .ok (.aload_n 0, 1) := by decide +kernel
theorem dX9_init_36 : decode cX9_init 36 = .ok (.iconst 5, 1) := by decide +kernel
theorem dX9_init_37 : decode cX9_init 37 = .ok (.newarray .int, 2) := by decide +kernel
theorem dX9_init_39 : decode cX9_init 39 = .ok (.putfield 24, 3) := by decide +kernel
theorem dX9_init_42 : decode cX9_init 42 = .ok (.return_, 1) := by decide +kernel
theorem dX9_clear_0 : decode cX9_clear 0 = .ok (.aload_n 0, 1) := by decide +kernel
theorem dX9_clear_1 : decode cX9_clear 1 = .ok (.getfield 9, 3) := by decide +kernel
theorem dX9_clear_4 : decode cX9_clear 4 = .ok (.iconst 0, 1) := by decide +kernel
theorem dX9_clear_5 : decode cX9_clear 5 = .ok (.invokestatic 27, 3) := by decide +kernel
theorem dX9_clear_8 : decode cX9_clear 8 = .ok (.aload_n 0, 1) := by decide +kernel
theorem dX9_clear_9 : decode cX9_clear 9 = .ok (.getfield 15, 3) := by decide +kernel
theorem dX9_clear_12 : decode cX9_clear 12 = .ok (.iconst 0, 1) := by decide +kernel
theorem dX9_clear_13 : decode cX9_clear 13 = .ok (.invokestatic 27, 3) := by decide +kernel
theorem dX9_clear_16 : decode cX9_clear 16 = .ok (.aload_n 0, 1) := by decide +kernel
theorem dX9_clear_17 : decode cX9_clear 17 = .ok (.getfield 18, 3) := by decide +kernel
theorem dX9_clear_20 : decode cX9_clear 20 = .ok (.iconst 0, 1) := by decide +kernel
theorem dX9_clear_21 : decode cX9_clear 21 = .ok (.invokestatic 27, 3) := by decide +kernel
