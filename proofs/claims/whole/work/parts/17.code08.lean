theorem dX11_text_16 : decode cX11_text 16 = .ok (.ifCond .ge 9, 3) := by decide +kernel
theorem dX11_text_19 : decode cX11_text 19 = .ok (.aload_n 0, 1) := by decide +kernel
theorem dX11_text_20 : decode cX11_text 20 = .ok (.iconst 5, 1) := by decide +kernel
theorem dX11_text_21 : decode cX11_text 21 = .ok (.invokevirtual 117, 3) := by decide +kernel
theorem dX11_text_24 : decode cX11_text 24 = .ok (.ireturn, 1) := by decide +kernel
theorem dX11_text_25 : decode cX11_text 25 = .ok (.aload_n 0, 1) := by decide +kernel
theorem dX11_text_26 : decode cX11_text 26 = .ok (.getfield 22, 3) := by decide +kernel
theorem dX11_text_29 : decode cX11_text 29 = .ok (.iload_n 1, 1) := by decide +kernel
theorem dX11_text_30 : decode cX11_text 30 = .ok (.iload_n 2, 1) := by decide +kernel
theorem dX11_text_31 : decode cX11_text 31 = .ok (.iastore, 1) := by decide +kernel
theorem dX11_text_32 : decode cX11_text 32 = .ok (.iconst 0, 1) := by decide +kernel
theorem dX11_text_33 : decode cX11_text 33 = .ok (.istore_n 3, 1) := by decide +kernel
theorem dX11_text_34 : decode cX11_text 34 = .ok (.iload_n 3, 1) := by decide +kernel
theorem dX11_text_35 : decode cX11_text 35 = .ok (.bipush 60, 2) := by decide +kernel
theorem dX11_text_37 : decode cX11_text 37 = .ok (.if_icmp .ge 22, 3) := by decide +kernel
theorem dX11_text_40 : decode cX11_text 40 = .ok (.aload_n 0, 1) := by decide +kernel
theorem dX11_text_41 : decode cX11_text 41 = .ok (.getfield 25, 3) := by decide +kernel
theorem dX11_text_44 : decode cX11_text 44 = .ok (.bipush 60, 2) := by decide +kernel
theorem dX11_text_46 : decode cX11_text 46 = .ok (.iload_n 1, 1) := by decide +kernel
theorem dX11_text_47 : decode cX11_text 47 = .ok (.imul, 1) := by decide +kernel
theorem dX11_text_48 : decode cX11_text 48 = .ok (.iload_n 3, 1) := by decide +kernel
theorem dX11_text_49 : decode cX11_text 49 = .ok (.iadd, 1) := by decide +kernel
theorem dX11_text_50 : decode cX11_text 50 = .ok (.bipush 32, 2) := by decide +kernel
theorem dX11_text_52 : decode cX11_text 52 = .ok (.bastore, 1) := by decide +kernel
theorem dX11_text_53 : decode cX11_text 53 = .ok (.iinc 3 1, 3) := by decide +kernel
theorem dX11_text_56 : decode cX11_text 56 = .ok (.goto (-22), 3) := by decide +kernel
theorem dX11_text_59 : decode cX11_text 59 = .ok (.iload_n 2, 1) := by decide +kernel
theorem dX11_text_60 : decode cX11_text 60 = .ok (.ireturn, 1) := by decide +kernel
theorem dX11_put_0 : decode cX11_put 0 = .ok (.iload_n 1, 1) := by decide +kernel
theorem dX11_put_1 : decode cX11_put 1 = .ok (.invokestatic 128, 3) := by decide +kernel
theorem dX11_put_4 : decode cX11_put 4 = .ok (.ifCond .ne 5, 3) := by decide +kernel
theorem dX11_put_7 : decode cX11_put 7 = .ok (.iconst (-1), 1) := by decide +kernel
theorem dX11_put_8 : decode cX11_put 8 = .ok (.ireturn, 1) := by decide +kernel
theorem dX11_put_9 : decode cX11_put 9 = .ok (.aload_n 0, 1) := by decide +kernel
theorem dX11_put_10 : decode cX11_put 10 = .ok (.getfield 22, 3) := by decide +kernel
theorem dX11_put_13 : decode cX11_put 13 = .ok (.iload_n 1, 1) := by decide +kernel
theorem dX11_put_14 : decode cX11_put 14 = .ok (.iaload, 1) := by decide +kernel
theorem dX11_put_15 : decode cX11_put 15 = .ok (.ifCond .ge 9, 3) := by decide +kernel
theorem dX11_put_18 : decode cX11_put 18 = .ok (.aload_n 0, 1) := by decide +kernel
theorem dX11_put_19 : decode cX11_put 19 = .ok (.iconst 1, 1) := by decide +kernel
theorem dX11_put_20 : decode cX11_put 20 = .ok (.invokevirtual 117, 3) := by decide +kernel
theorem dX11_put_23 : decode cX11_put 23 = .ok (.ireturn, 1) := by decide +kernel
theorem dX11_put_24 : decode cX11_put 24 = .ok (.iload_n 2, 1) := by decide +kernel
theorem dX11_put_25 : decode cX11_put 25 = .ok (.iconst 0, 1) := by decide +kernel
theorem dX11_put_26 : decode cX11_put 26 = .ok (.aload_n 0, 1) := by decide +kernel
theorem dX11_put_27 : decode cX11_put 27 = .ok (.getfield 22, 3) := by decide +kernel
theorem dX11_put_30 : decode cX11_put 30 = .ok (.iload_n 1, 1) := by decide +kernel
theorem dX11_put_31 : decode cX11_put 31 = .ok (.iaload, 1) := by decide +kernel
theorem dX11_put_32 : decode cX11_put 32 = .ok (.iconst 1, 1) := by decide +kernel
theorem dX11_put_33 : decode cX11_put 33 = .ok (.isub, 1) := by decide +kernel
theorem dX11_put_34 : decode cX11_put 34 = .ok (.invokestatic 106, 3) := by decide +kernel
theorem dX11_put_37 : decode cX11_put 37 = .ok (.ifCond .ne 9, 3) := by decide +kernel
theorem dX11_put_40 : decode cX11_put 40 = .ok (.aload_n 0, 1) := by decide +kernel
theorem dX11_put_41 : decode cX11_put 41 = .ok (.iconst 2, 1) := by decide +kernel
theorem dX11_put_42 : decode cX11_put 42 = .ok (.invokevirtual 117, 3) := by decide +kernel
theorem dX11_put_45 : decode cX11_put 45 = .ok (.ireturn, 1) := by decide +kernel
theorem dX11_put_46 : decode cX11_put 46 = .ok (.aload_n 0, 1) := by decide +kernel
theorem dX11_put_47 : decode cX11_put 47 = .ok (.getfield 25, 3) := by decide +kernel
theorem dX11_put_50 : decode cX11_put 50 = .ok (.bipush 60, 2) := by decide +kernel
theorem dX11_put_52 : decode cX11_put 52 = .ok (.iload_n 1, 1) := by decide +kernel
theorem dX11_put_53 : decode cX11_put 53 = .ok (.imul, 1) := by decide +kernel
theorem dX11_put_54 : decode cX11_put 54 = .ok (.iload_n 2, 1) := by decide +kernel
theorem dX11_put_55 : decode cX11_put 55 = .ok (.iadd, 1) := by decide +kernel
theorem dX11_put_56 : decode cX11_put 56 = .ok (.baload, 1) := by decide +kernel
theorem dX11_put_57 : decode cX11_put 57 = .ok (.istore 4, 2) := by decide +kernel
theorem dX11_put_59 : decode cX11_put 59 = .ok (.aload_n 0, 1) := by decide +kernel
theorem dX11_put_60 : decode cX11_put 60 = .ok (.getfield 25, 3) := by decide +kernel
theorem dX11_put_63 : decode cX11_put 63 = .ok (.bipush 60, 2) := by decide +kernel
theorem dX11_put_65 : decode cX11_put 65 = .ok (.iload_n 1, 1) := by decide +kernel
theorem dX11_put_66 : decode cX11_put 66 = .ok (.imul, 1) := by decide +kernel
theorem dX11_put_67 : decode cX11_put 67 = .ok (.iload_n 2, 1) := by decide +kernel
theorem dX11_put_68 : decode cX11_put 68 = .ok (.iadd, 1) := by decide +kernel
theorem dX11_put_69 : decode cX11_put 69 = .ok (.iload_n 3, 1) := by decide +kernel
theorem dX11_put_70 : decode cX11_put 70 = .ok (.i2b, 1) := by decide +kernel
theorem dX11_put_71 : decode cX11_put 71 = .ok (.bastore, 1) := by decide +kernel
theorem dX11_put_72 : decode cX11_put 72 = .ok (.sipush 1000, 3) := by decide +kernel
theorem dX11_put_75 : decode cX11_put 75 = .ok (.iload 4, 2) := by decide +kernel
theorem dX11_put_77 : decode cX11_put 77 = .ok (.iadd, 1) := by decide +kernel
theorem dX11_put_78 : decode cX11_put 78 = .ok (.ireturn, 1) := by decide +kernel
theorem dX11_byteAt_0 : decode cX11_byteAt 0 = .ok (.iload_n 2, 1) := by decide +kernel
theorem dX11_byteAt_1 : decode cX11_byteAt 1 = .ok (.aload_n 0, 1) := by decide +kernel
theorem dX11_byteAt_2 : decode cX11_byteAt 2 = .ok (.getfield 22, 3) := by decide +kernel
theorem dX11_byteAt_5 : decode cX11_byteAt 5 = .ok (.iload_n 1, 1) := by decide +kernel
theorem dX11_byteAt_6 : decode cX11_byteAt 6 = .ok (.iaload, 1) := by decide +kernel
theorem dX11_byteAt_7 : decode cX11_byteAt 7 = .ok (.if_icmp .ge 17, 3) := by decide +kernel
theorem dX11_byteAt_10 : decode cX11_byteAt 10 = .ok (.aload_n 0, 1) := by decide +kernel
theorem dX11_byteAt_11 : decode cX11_byteAt 11 = .ok (.getfield 25, 3) := by decide +kernel
theorem dX11_byteAt_14 : decode cX11_byteAt 14 = .ok (.bipush 60, 2) := by decide +kernel
theorem dX11_byteAt_16 : decode cX11_byteAt 16 = .ok (.iload_n 1, 1) := by decide +kernel
theorem dX11_byteAt_17 : decode cX11_byteAt 17 = .ok (.imul, 1) := by decide +kernel
theorem dX11_byteAt_18 : decode cX11_byteAt 18 = .ok (.iload_n 2, 1) := by decide +kernel
theorem dX11_byteAt_19 : decode cX11_byteAt 19 = .ok (.iadd, 1) := by decide +kernel
theorem dX11_byteAt_20 : decode cX11_byteAt 20 = .ok (.baload, 1) := by decide +kernel
theorem dX11_byteAt_21 : decode cX11_byteAt 21 = .ok (.goto 4, 3) := by decide +kernel
theorem dX11_byteAt_24 : decode cX11_byteAt 24 = .ok (.iconst 0, 1) := by decide +kernel
theorem dX11_byteAt_25 : decode cX11_byteAt 25 = .ok (.ireturn, 1) := by decide +kernel
theorem dX11_kindOf_0 : decode cX11_kindOf 0 = .ok (.iload_n 0, 1) := by decide +kernel
theorem dX11_kindOf_1 : decode cX11_kindOf 1 = .ok (.tableswitch 103 99 117 #[93, 97, 95, 103, 103, 103, 103, 91, 103, 99, 103, 103, 103, 103, 103, 103, 103, 103, 101], 91) := by decide +kernel
theorem dX11_kindOf_92 : decode cX11_kindOf 92 = .ok (.iconst 0, 1) := by decide +kernel
theorem dX11_kindOf_93 : decode cX11_kindOf 93 = .ok (.ireturn, 1) := by decide +kernel
theorem dX11_kindOf_94 : decode cX11_kindOf 94 = .ok (.iconst 1, 1) := by decide +kernel
theorem dX11_kindOf_95 : decode cX11_kindOf 95 = .ok (.ireturn, 1) := by decide +kernel
theorem dX11_kindOf_96 : decode cX11_kindOf 96 = .ok (.iconst 2, 1) := by decide +kernel
theorem dX11_kindOf_97 : decode cX11_kindOf 97 = .ok (.ireturn, 1) := by decide +kernel
theorem dX11_kindOf_98 : decode cX11_kindOf 98 = .ok (.iconst 3, 1) := by decide +kernel
theorem dX11_kindOf_99 : decode cX11_kindOf 99 = .ok (.ireturn, 1) := by decide +kernel
theorem dX11_kindOf_100 : decode cX11_kindOf 100 = .ok (.iconst 4, 1) := by decide +kernel
theorem dX11_kindOf_101 : decode cX11_kindOf 101 = .ok (.ireturn, 1) := by decide +kernel
theorem dX11_kindOf_102 : decode cX11_kindOf 102 = .ok (.iconst 5, 1) := by decide +kernel
theorem dX11_kindOf_103 : decode cX11_kindOf 103 = .ok (.ireturn, 1) := by decide +kernel
theorem dX11_kindOf_104 : decode cX11_kindOf 104 = .ok (.bipush (-9), 2) := by decide +kernel
theorem dX11_kindOf_106 : decode cX11_kindOf 106 = .ok (.ireturn, 1) := by decide +kernel
theorem dX11_figure_0 : decode cX11_figure 0 = .ok (.aload_n 0, 1) := by decide +kernel
theorem dX11_figure_1 : decode cX11_figure 1 = .ok (.aload_n 0, 1) := by decide +kernel
theorem dX11_figure_2 : decode cX11_figure 2 = .ok (.iload_n 1, 1) := by decide +kernel
theorem dX11_figure_3 : decode cX11_figure 3 = .ok (.aload_n 0, 1) := by decide +kernel
theorem dX11_figure_4 : decode cX11_figure 4 = .ok (.getfield 131, 3) := by decide +kernel
theorem dX11_figure_7 : decode cX11_figure 7 = .ok (.invokevirtual 134, 3) := by decide +kernel
theorem dX11_figure_10 : decode cX11_figure 10 = .ok (.bipush 48, 2) := by decide +kernel
theorem dX11_figure_12 : decode cX11_figure 12 = .ok (.isub, 1) := by decide +kernel
theorem dX11_figure_13 : decode cX11_figure 13 = .ok (.putfield 137, 3) := by decide +kernel
theorem dX11_figure_16 : decode cX11_figure 16 = .ok (.aload_n 0, 1) := by decide +kernel
theorem dX11_figure_17 : decode cX11_figure 17 = .ok (.getfield 137, 3) := by decide +kernel
theorem dX11_figure_20 : decode cX11_figure 20 = .ok (.iload_n 2, 1) := by decide +kernel
theorem dX11_figure_21 : decode cX11_figure 21 = .ok (.iload_n 3, 1) := by decide +kernel
theorem dX11_figure_22 : decode cX11_figure 22 = .ok (.invokestatic 106, 3) := by decide +kernel
theorem dX11_figure_25 : decode cX11_figure 25 = .ok (.istore 4, 2) := by decide +kernel
theorem dX11_figure_27 : decode cX11_figure 27 = .ok (.aload_n 0, 1) := by decide +kernel
theorem dX11_figure_28 : decode cX11_figure 28 = .ok (.dup, 1) := by decide +kernel
theorem dX11_figure_29 : decode cX11_figure 29 = .ok (.getfield 131, 3) := by decide +kernel
theorem dX11_figure_32 : decode cX11_figure 32 = .ok (.iload 4, 2) := by decide +kernel
theorem dX11_figure_34 : decode cX11_figure 34 = .ok (.ifCond .eq 7, 3) := by decide +kernel
theorem dX11_figure_37 : decode cX11_figure 37 = .ok (.iconst 1, 1) := by decide +kernel
theorem dX11_figure_38 : decode cX11_figure 38 = .ok (.goto 4, 3) := by decide +kernel
theorem dX11_figure_41 : decode cX11_figure 41 = .ok (.iconst 0, 1) := by decide +kernel
theorem dX11_figure_42 : decode cX11_figure 42 = .ok (.iadd, 1) := by decide +kernel
theorem dX11_figure_43 : decode cX11_figure 43 = .ok (.putfield 131, 3) := by decide +kernel
theorem dX11_figure_46 : decode cX11_figure 46 = .ok (.iload 4, 2) := by decide +kernel
theorem dX11_figure_48 : decode cX11_figure 48 = .ok (.ireturn, 1) := by decide +kernel
theorem dX11_isSign_0 : decode cX11_isSign 0 = .ok (.aload_n 0, 1) := by decide +kernel
theorem dX11_isSign_1 : decode cX11_isSign 1 = .ok (.iload_n 1, 1) := by decide +kernel
theorem dX11_isSign_2 : decode cX11_isSign 2 = .ok (.aload_n 0, 1) := by decide +kernel
theorem dX11_isSign_3 : decode cX11_isSign 3 = .ok (.getfield 131, 3) := by decide +kernel
theorem dX11_isSign_6 : decode cX11_isSign 6 = .ok (.invokevirtual 134, 3) := by decide +kernel
theorem dX11_isSign_9 : decode cX11_isSign 9 = .ok (.iload_n 2, 1) := by decide +kernel
theorem dX11_isSign_10 : decode cX11_isSign 10 = .ok (.if_icmp .ne 7, 3) := by decide +kernel
theorem dX11_isSign_13 : decode cX11_isSign 13 = .ok (.iconst 1, 1) := by decide +kernel
theorem dX11_isSign_14 : decode cX11_isSign 14 = .ok (.goto 4, 3) := by decide +kernel
theorem dX11_isSign_17 : decode cX11_isSign 17 = .ok (.iconst 0, 1) := by decide +kernel
theorem dX11_isSign_18 : decode cX11_isSign 18 = .ok (.istore_n 3, 1) := by decide +kernel
theorem dX11_isSign_19 : decode cX11_isSign 19 = .ok (.aload_n 0, 1) := by decide +kernel
theorem dX11_isSign_20 : decode cX11_isSign 20 = .ok (.dup, 1) := by decide +kernel
theorem dX11_isSign_21 : decode cX11_isSign 21 = .ok (.getfield 131, 3) := by decide +kernel
theorem dX11_isSign_24 : decode cX11_isSign 24 = .ok (.iload_n 3, 1) := by decide +kernel
theorem dX11_isSign_25 : decode cX11_isSign 25 = .ok (.ifCond .eq 7, 3) := by decide +kernel
theorem dX11_isSign_28 : decode cX11_isSign 28 = .ok (.iconst 1, 1) := by decide +kernel
theorem dX11_isSign_29 : decode cX11_isSign 29 = .ok (.goto 4, 3) := by decide +kernel
theorem dX11_isSign_32 : decode cX11_isSign 32 = .ok (.iconst 0, 1) := by decide +kernel
theorem dX11_isSign_33 : decode cX11_isSign 33 = .ok (.iadd, 1) := by decide +kernel
theorem dX11_isSign_34 : decode cX11_isSign 34 = .ok (.putfield 131, 3) := by decide +kernel
theorem dX11_isSign_37 : decode cX11_isSign 37 = .ok (.iload_n 3, 1) := by decide +kernel
theorem dX11_isSign_38 : decode cX11_isSign 38 = .ok (.ireturn, 1) := by decide +kernel
theorem dX11_readsMules_0 : decode cX11_readsMules 0 = .ok (.aload_n 0, 1) := by decide +kernel
theorem dX11_readsMules_1 : decode cX11_readsMules 1 = .ok (.iload_n 1, 1) := by decide +kernel
theorem dX11_readsMules_2 : decode cX11_readsMules 2 = .ok (.bipush 121, 2) := by decide +kernel
theorem dX11_readsMules_4 : decode cX11_readsMules 4 = .ok (.invokevirtual 140, 3) := by decide +kernel
theorem dX11_readsMules_7 : decode cX11_readsMules 7 = .ok (.ifCond .eq 14, 3) := by decide +kernel
theorem dX11_readsMules_10 : decode cX11_readsMules 10 = .ok (.aload_n 0, 1) := by decide +kernel
theorem dX11_readsMules_11 : decode cX11_readsMules 11 = .ok (.iload_n 1, 1) := by decide +kernel
theorem dX11_readsMules_12 : decode cX11_readsMules 12 = .ok (.iconst 1, 1) := by decide +kernel
theorem dX11_readsMules_13 : decode cX11_readsMules 13 = .ok (.bipush 6, 2) := by decide +kernel
theorem dX11_readsMules_15 : decode cX11_readsMules 15 = .ok (.invokevirtual 144, 3) := by decide +kernel
theorem dX11_readsMules_18 : decode cX11_readsMules 18 = .ok (.ifCond .ne 5, 3) := by decide +kernel
theorem dX11_readsMules_21 : decode cX11_readsMules 21 = .ok (.iconst 0, 1) := by decide +kernel
theorem dX11_readsMules_22 : decode cX11_readsMules 22 = .ok (.ireturn, 1) := by decide +kernel
theorem dX11_readsMules_23 : decode cX11_readsMules 23 = .ok (.aload_n 0, 1) := by decide +kernel
theorem dX11_readsMules_24 : decode cX11_readsMules 24 = .ok (.aload_n 0, 1) := by decide +kernel
theorem dX11_readsMules_25 : decode cX11_readsMules 25 = .ok (.getfield 137, 3) := by decide +kernel
theorem dX11_readsMules_28 : decode cX11_readsMules 28 = .ok (.putfield 147, 3) := by decide +kernel
theorem dX11_readsMules_31 : decode cX11_readsMules 31 = .ok (.iconst 1, 1) := by decide +kernel
theorem dX11_readsMules_32 : decode cX11_readsMules 32 = .ok (.ireturn, 1) := by decide +kernel
theorem dX11_readsSuns_0 : decode cX11_readsSuns 0 = .ok (.aload_n 0, 1) := by decide +kernel
theorem dX11_readsSuns_1 : decode cX11_readsSuns 1 = .ok (.iload_n 1, 1) := by decide +kernel
theorem dX11_readsSuns_2 : decode cX11_readsSuns 2 = .ok (.bipush 115, 2) := by decide +kernel
theorem dX11_readsSuns_4 : decode cX11_readsSuns 4 = .ok (.invokevirtual 140, 3) := by decide +kernel
theorem dX11_readsSuns_7 : decode cX11_readsSuns 7 = .ok (.ifCond .ne 5, 3) := by decide +kernel
theorem dX11_readsSuns_10 : decode cX11_readsSuns 10 = .ok (.iconst 0, 1) := by decide +kernel
theorem dX11_readsSuns_11 : decode cX11_readsSuns 11 = .ok (.ireturn, 1) := by decide +kernel
theorem dX11_readsSuns_12 : decode cX11_readsSuns 12 = .ok (.aload_n 0, 1) := by decide +kernel
theorem dX11_readsSuns_13 : decode cX11_readsSuns 13 = .ok (.getfield 150, 3) := by decide +kernel
theorem dX11_readsSuns_16 : decode cX11_readsSuns 16 = .ok (.bipush 8, 2) := by decide +kernel
theorem dX11_readsSuns_18 : decode cX11_readsSuns 18 = .ok (.if_icmp .ge 39, 3) := by decide +kernel
theorem dX11_readsSuns_21 : decode cX11_readsSuns 21 = .ok (.aload_n 0, 1) := by decide +kernel
theorem dX11_readsSuns_22 : decode cX11_readsSuns 22 = .ok (.iload_n 1, 1) := by decide +kernel
theorem dX11_readsSuns_23 : decode cX11_readsSuns 23 = .ok (.iconst 0, 1) := by decide +kernel
theorem dX11_readsSuns_24 : decode cX11_readsSuns 24 = .ok (.iconst 1, 1) := by decide +kernel
theorem dX11_readsSuns_25 : decode cX11_readsSuns 25 = .ok (.invokevirtual 144, 3) := by decide +kernel
theorem dX11_readsSuns_28 : decode cX11_readsSuns 28 = .ok (.ifCond .eq 29, 3) := by decide +kernel
theorem dX11_readsSuns_31 : decode cX11_readsSuns 31 = .ok (.aload_n 0, 1) := by decide +kernel
theorem dX11_readsSuns_32 : decode cX11_readsSuns 32 = .ok (.getfield 41, 3) := by decide +kernel
theorem dX11_readsSuns_35 : decode cX11_readsSuns 35 = .ok (.aload_n 0, 1) := by decide +kernel
theorem dX11_readsSuns_36 : decode cX11_readsSuns 36 = .ok (.getfield 150, 3) := by decide +kernel
theorem dX11_readsSuns_39 : decode cX11_readsSuns 39 = .ok (.aload_n 0, 1) := by decide +kernel
theorem dX11_readsSuns_40 : decode cX11_readsSuns 40 = .ok (.getfield 137, 3) := by decide +kernel
theorem dX11_readsSuns_43 : decode cX11_readsSuns 43 = .ok (.iastore, 1) := by decide +kernel
theorem dX11_readsSuns_44 : decode cX11_readsSuns 44 = .ok (.aload_n 0, 1) := by decide +kernel
theorem dX11_readsSuns_45 : decode cX11_readsSuns 45 = .ok (.dup, 1) := by decide +kernel
theorem dX11_readsSuns_46 : decode cX11_readsSuns 46 = .ok (.getfield 150, 3) := by decide +kernel
theorem dX11_readsSuns_49 : decode cX11_readsSuns 49 = .ok (.iconst 1, 1) := by decide +kernel
theorem dX11_readsSuns_50 : decode cX11_readsSuns 50 = .ok (.iadd, 1) := by decide +kernel
theorem dX11_readsSuns_51 : decode cX11_readsSuns 51 = .ok (.putfield 150, 3) := by decide +kernel
theorem dX11_readsSuns_54 : decode cX11_readsSuns 54 = .ok (.goto (-42), 3) := by decide +kernel
theorem dX11_readsSuns_57 : decode cX11_readsSuns 57 = .ok (.aload_n 0, 1) := by decide +kernel
theorem dX11_readsSuns_58 : decode cX11_readsSuns 58 = .ok (.getfield 150, 3) := by decide +kernel
theorem dX11_readsSuns_61 : decode cX11_readsSuns 61 = .ok (.ifCond .le 7, 3) := by decide +kernel
theorem dX11_readsSuns_64 : decode cX11_readsSuns 64 = .ok (.iconst 1, 1) := by decide +kernel
theorem dX11_readsSuns_65 : decode cX11_readsSuns 65 = .ok (.goto 4, 3) := by decide +kernel
theorem dX11_readsSuns_68 : decode cX11_readsSuns 68 = .ok (.iconst 0, 1) := by decide +kernel
theorem dX11_readsSuns_69 : decode cX11_readsSuns 69 = .ok (.ireturn, 1) := by decide +kernel
theorem dX11_readsNeeds_0 : decode cX11_readsNeeds 0 = .ok (.aload_n 0, 1) := by decide +kernel
theorem dX11_readsNeeds_1 : decode cX11_readsNeeds 1 = .ok (.iload_n 1, 1) := by decide +kernel
theorem dX11_readsNeeds_2 : decode cX11_readsNeeds 2 = .ok (.bipush 118, 2) := by decide +kernel
theorem dX11_readsNeeds_4 : decode cX11_readsNeeds 4 = .ok (.invokevirtual 140, 3) := by decide +kernel
theorem dX11_readsNeeds_7 : decode cX11_readsNeeds 7 = .ok (.ifCond .ne 5, 3) := by decide +kernel
theorem dX11_readsNeeds_10 : decode cX11_readsNeeds 10 = .ok (.iconst 0, 1) := by decide +kernel
theorem dX11_readsNeeds_11 : decode cX11_readsNeeds 11 = .ok (.ireturn, 1) := by decide +kernel
theorem dX11_readsNeeds_12 : decode cX11_readsNeeds 12 = .ok (.iconst 1, 1) := by decide +kernel
theorem dX11_readsNeeds_13 : decode cX11_readsNeeds 13 = .ok (.istore_n 2, 1) := by decide +kernel
theorem dX11_readsNeeds_14 : decode cX11_readsNeeds 14 = .ok (.iload_n 2, 1) := by decide +kernel
theorem dX11_readsNeeds_15 : decode cX11_readsNeeds 15 = .ok (.iconst 5, 1) := by decide +kernel
theorem dX11_readsNeeds_16 : decode cX11_readsNeeds 16 = .ok (.if_icmp .ge 32, 3) := by decide +kernel
theorem dX11_readsNeeds_19 : decode cX11_readsNeeds 19 = .ok (.aload_n 0, 1) := by decide +kernel
theorem dX11_readsNeeds_20 : decode cX11_readsNeeds 20 = .ok (.iload_n 1, 1) := by decide +kernel
theorem dX11_readsNeeds_21 : decode cX11_readsNeeds 21 = .ok (.iconst 0, 1) := by decide +kernel
theorem dX11_readsNeeds_22 : decode cX11_readsNeeds 22 = .ok (.bipush 9, 2) := by decide +kernel
theorem dX11_readsNeeds_24 : decode cX11_readsNeeds 24 = .ok (.invokevirtual 144, 3) := by decide +kernel
theorem dX11_readsNeeds_27 : decode cX11_readsNeeds 27 = .ok (.ifCond .ne 5, 3) := by decide +kernel
theorem dX11_readsNeeds_30 : decode cX11_readsNeeds 30 = .ok (.iconst 0, 1) := by decide +kernel
theorem dX11_readsNeeds_31 : decode cX11_readsNeeds 31 = .ok (.ireturn, 1) := by decide +kernel
theorem dX11_readsNeeds_32 : decode cX11_readsNeeds 32 = .ok (.aload_n 0, 1) := by decide +kernel
theorem dX11_readsNeeds_33 : decode cX11_readsNeeds 33 = .ok (.getfield 44, 3) := by decide +kernel
theorem dX11_readsNeeds_36 : decode cX11_readsNeeds 36 = .ok (.iload_n 2, 1) := by decide +kernel
theorem dX11_readsNeeds_37 : decode cX11_readsNeeds 37 = .ok (.aload_n 0, 1) := by decide +kernel
theorem dX11_readsNeeds_38 : decode cX11_readsNeeds 38 = .ok (.getfield 137, 3) := by decide +kernel
theorem dX11_readsNeeds_41 : decode cX11_readsNeeds 41 = .ok (.iastore, 1) := by decide +kernel
theorem dX11_readsNeeds_42 : decode cX11_readsNeeds 42 = .ok (.iinc 2 1, 3) := by decide +kernel
theorem dX11_readsNeeds_45 : decode cX11_readsNeeds 45 = .ok (.goto (-31), 3) := by decide +kernel
theorem dX11_readsNeeds_48 : decode cX11_readsNeeds 48 = .ok (.aload_n 0, 1) := by decide +kernel
theorem dX11_readsNeeds_49 : decode cX11_readsNeeds 49 = .ok (.iconst 1, 1) := by decide +kernel
theorem dX11_readsNeeds_50 : decode cX11_readsNeeds 50 = .ok (.putfield 153, 3) := by decide +kernel
theorem dX11_readsNeeds_53 : decode cX11_readsNeeds 53 = .ok (.iconst 1, 1) := by decide +kernel
theorem dX11_readsNeeds_54 : decode cX11_readsNeeds 54 = .ok (.ireturn, 1) := by decide +kernel
theorem dX11_readsJar_0 : decode cX11_readsJar 0 = .ok (.aload_n 0, 1) := by decide +kernel
theorem dX11_readsJar_1 : decode cX11_readsJar 1 = .ok (.iload_n 1, 1) := by decide +kernel
theorem dX11_readsJar_2 : decode cX11_readsJar 2 = .ok (.aload_n 0, 1) := by decide +kernel
theorem dX11_readsJar_3 : decode cX11_readsJar 3 = .ok (.getfield 131, 3) := by decide +kernel
theorem dX11_readsJar_6 : decode cX11_readsJar 6 = .ok (.invokevirtual 134, 3) := by decide +kernel
theorem dX11_readsJar_9 : decode cX11_readsJar 9 = .ok (.invokestatic 157, 3) := by decide +kernel
theorem dX11_readsJar_12 : decode cX11_readsJar 12 = .ok (.istore_n 2, 1) := by decide +kernel
theorem dX11_readsJar_13 : decode cX11_readsJar 13 = .ok (.iload_n 2, 1) := by decide +kernel
theorem dX11_readsJar_14 : decode cX11_readsJar 14 = .ok (.bipush (-9), 2) := by decide +kernel
theorem dX11_readsJar_16 : decode cX11_readsJar 16 = .ok (.if_icmp .eq 12, 3) := by decide +kernel
theorem dX11_readsJar_19 : decode cX11_readsJar 19 = .ok (.aload_n 0, 1) := by decide +kernel
theorem dX11_readsJar_20 : decode cX11_readsJar 20 = .ok (.getfield 160, 3) := by decide +kernel
theorem dX11_readsJar_23 : decode cX11_readsJar 23 = .ok (.bipush 6, 2) := by decide +kernel
theorem dX11_readsJar_25 : decode cX11_readsJar 25 = .ok (.if_icmp .ne 5, 3) := by decide +kernel
theorem dX11_readsJar_28 : decode cX11_readsJar 28 = .ok (.iconst 0, 1) := by decide +kernel
theorem dX11_readsJar_29 : decode cX11_readsJar 29 = .ok (.ireturn, 1) := by decide +kernel
theorem dX11_readsJar_30 : decode cX11_readsJar 30 = .ok (.aload_n 0, 1) := by decide +kernel
theorem dX11_readsJar_31 : decode cX11_readsJar 31 = .ok (.dup, 1) := by decide +kernel
theorem dX11_readsJar_32 : decode cX11_readsJar 32 = .ok (.getfield 131, 3) := by decide +kernel
theorem dX11_readsJar_35 : decode cX11_readsJar 35 = .ok (.iconst 1, 1) := by decide +kernel
theorem dX11_readsJar_36 : decode cX11_readsJar 36 = .ok (.iadd, 1) := by decide +kernel
theorem dX11_readsJar_37 : decode cX11_readsJar 37 = .ok (.putfield 131, 3) := by decide +kernel
theorem dX11_readsJar_40 : decode cX11_readsJar 40 = .ok (.iconst 0, 1) := by decide +kernel
theorem dX11_readsJar_41 : decode cX11_readsJar 41 = .ok (.istore_n 3, 1) := by decide +kernel
theorem dX11_readsJar_42 : decode cX11_readsJar 42 = .ok (.iconst 0, 1) := by decide +kernel
theorem dX11_readsJar_43 : decode cX11_readsJar 43 = .ok (.istore 4, 2) := by decide +kernel
theorem dX11_readsJar_45 : decode cX11_readsJar 45 = .ok (.iload 4, 2) := by decide +kernel
theorem dX11_readsJar_47 : decode cX11_readsJar 47 = .ok (.iconst 2, 1) := by decide +kernel
theorem dX11_readsJar_48 : decode cX11_readsJar 48 = .ok (.if_icmp .ge 56, 3) := by decide +kernel
theorem dX11_readsJar_51 : decode cX11_readsJar 51 = .ok (.aload_n 0, 1) := by decide +kernel
theorem dX11_readsJar_52 : decode cX11_readsJar 52 = .ok (.iload_n 1, 1) := by decide +kernel
theorem dX11_readsJar_53 : decode cX11_readsJar 53 = .ok (.aload_n 0, 1) := by decide +kernel
theorem dX11_readsJar_54 : decode cX11_readsJar 54 = .ok (.getfield 131, 3) := by decide +kernel
theorem dX11_readsJar_57 : decode cX11_readsJar 57 = .ok (.invokevirtual 134, 3) := by decide +kernel
theorem dX11_readsJar_60 : decode cX11_readsJar 60 = .ok (.bipush 48, 2) := by decide +kernel
theorem dX11_readsJar_62 : decode cX11_readsJar 62 = .ok (.bipush 57, 2) := by decide +kernel
theorem dX11_readsJar_64 : decode cX11_readsJar 64 = .ok (.invokestatic 106, 3) := by decide +kernel
theorem dX11_readsJar_67 : decode cX11_readsJar 67 = .ok (.ifCond .eq 37, 3) := by decide +kernel
theorem dX11_readsJar_70 : decode cX11_readsJar 70 = .ok (.bipush 10, 2) := by decide +kernel
theorem dX11_readsJar_72 : decode cX11_readsJar 72 = .ok (.iload_n 3, 1) := by decide +kernel
theorem dX11_readsJar_73 : decode cX11_readsJar 73 = .ok (.imul, 1) := by decide +kernel
theorem dX11_readsJar_74 : decode cX11_readsJar 74 = .ok (.aload_n 0, 1) := by decide +kernel
theorem dX11_readsJar_75 : decode cX11_readsJar 75 = .ok (.iload_n 1, 1) := by decide +kernel
theorem dX11_readsJar_76 : decode cX11_readsJar 76 = .ok (.aload_n 0, 1) := by decide +kernel
theorem dX11_readsJar_77 : decode cX11_readsJar 77 = .ok (.getfield 131, 3) := by decide +kernel
theorem dX11_readsJar_80 : decode cX11_readsJar 80 = .ok (.invokevirtual 134, 3) := by decide +kernel
theorem dX11_readsJar_83 : decode cX11_readsJar 83 = .ok (.iadd, 1) := by decide +kernel
theorem dX11_readsJar_84 : decode cX11_readsJar 84 = .ok (.bipush 48, 2) := by decide +kernel
theorem dX11_readsJar_86 : decode cX11_readsJar 86 = .ok (.isub, 1) := by decide +kernel
theorem dX11_readsJar_87 : decode cX11_readsJar 87 = .ok (.istore_n 3, 1) := by decide +kernel
theorem dX11_readsJar_88 : decode cX11_readsJar 88 = .ok (.aload_n 0, 1) := by decide +kernel
theorem dX11_readsJar_89 : decode cX11_readsJar 89 = .ok (.dup, 1) := by decide +kernel
theorem dX11_readsJar_90 : decode cX11_readsJar 90 = .ok (.getfield 131, 3) := by decide +kernel
theorem dX11_readsJar_93 : decode cX11_readsJar 93 = .ok (.iconst 1, 1) := by decide +kernel
theorem dX11_readsJar_94 : decode cX11_readsJar 94 = .ok (.iadd, 1) := by decide +kernel
theorem dX11_readsJar_95 : decode cX11_readsJar 95 = .ok (.putfield 131, 3) := by decide +kernel
theorem dX11_readsJar_98 : decode cX11_readsJar 98 = .ok (.iinc 4 1, 3) := by decide +kernel
theorem dX11_readsJar_101 : decode cX11_readsJar 101 = .ok (.goto (-56), 3) := by decide +kernel
theorem dX11_readsJar_104 : decode cX11_readsJar 104 = .ok (.iload 4, 2) := by decide +kernel
theorem dX11_readsJar_106 : decode cX11_readsJar 106 = .ok (.ifCond .eq 13, 3) := by decide +kernel
theorem dX11_readsJar_109 : decode cX11_readsJar 109 = .ok (.iload_n 3, 1) := by decide +kernel
theorem dX11_readsJar_110 : decode cX11_readsJar 110 = .ok (.iconst 1, 1) := by decide +kernel
theorem dX11_readsJar_111 : decode cX11_readsJar 111 = .ok (.bipush 20, 2) := by decide +kernel
theorem dX11_readsJar_113 : decode cX11_readsJar 113 = .ok (.invokestatic 106, 3) := by decide +kernel
theorem dX11_readsJar_116 : decode cX11_readsJar 116 = .ok (.ifCond .ne 5, 3) := by decide +kernel
theorem dX11_readsJar_119 : decode cX11_readsJar 119 = .ok (.iconst 0, 1) := by decide +kernel
theorem dX11_readsJar_120 : decode cX11_readsJar 120 = .ok (.ireturn, 1) := by decide +kernel
theorem dX11_readsJar_121 : decode cX11_readsJar 121 = .ok (.aload_n 0, 1) := by decide +kernel
theorem dX11_readsJar_122 : decode cX11_readsJar 122 = .ok (.getfield 47, 3) := by decide +kernel
theorem dX11_readsJar_125 : decode cX11_readsJar 125 = .ok (.aload_n 0, 1) := by decide +kernel
theorem dX11_readsJar_126 : decode cX11_readsJar 126 = .ok (.getfield 160, 3) := by decide +kernel
theorem dX11_readsJar_129 : decode cX11_readsJar 129 = .ok (.iload_n 2, 1) := by decide +kernel
theorem dX11_readsJar_130 : decode cX11_readsJar 130 = .ok (.iastore, 1) := by decide +kernel
theorem dX11_readsJar_131 : decode cX11_readsJar 131 = .ok (.aload_n 0, 1) := by decide +kernel
theorem dX11_readsJar_132 : decode cX11_readsJar 132 = .ok (.getfield 50, 3) := by decide +kernel
theorem dX11_readsJar_135 : decode cX11_readsJar 135 = .ok (.aload_n 0, 1) := by decide +kernel
theorem dX11_readsJar_136 : decode cX11_readsJar 136 = .ok (.getfield 160, 3) := by decide +kernel
theorem dX11_readsJar_139 : decode cX11_readsJar 139 = .ok (.iload_n 3, 1) := by decide +kernel
theorem dX11_readsJar_140 : decode cX11_readsJar 140 = .ok (.iastore, 1) := by decide +kernel
theorem dX11_readsJar_141 : decode cX11_readsJar 141 = .ok (.aload_n 0, 1) := by decide +kernel
theorem dX11_readsJar_142 : decode cX11_readsJar 142 = .ok (.dup, 1) := by decide +kernel
theorem dX11_readsJar_143 : decode cX11_readsJar 143 = .ok (.getfield 160, 3) := by decide +kernel
theorem dX11_readsJar_146 : decode cX11_readsJar 146 = .ok (.iconst 1, 1) := by decide +kernel
theorem dX11_readsJar_147 : decode cX11_readsJar 147 = .ok (.iadd, 1) := by decide +kernel
theorem dX11_readsJar_148 : decode cX11_readsJar 148 = .ok (.putfield 160, 3) := by decide +kernel
theorem dX11_readsJar_151 : decode cX11_readsJar 151 = .ok (.iconst 1, 1) := by decide +kernel
theorem dX11_readsJar_152 : decode cX11_readsJar 152 = .ok (.ireturn, 1) := by decide +kernel
theorem dX11_faultOf_0 : decode cX11_faultOf 0 = .ok (.aload_n 0, 1) := by decide +kernel
theorem dX11_faultOf_1 : decode cX11_faultOf 1 = .ok (.iconst 0, 1) := by decide +kernel
theorem dX11_faultOf_2 : decode cX11_faultOf 2 = .ok (.putfield 131, 3) := by decide +kernel
theorem dX11_faultOf_5 : decode cX11_faultOf 5 = .ok (.aload_n 0, 1) := by decide +kernel
theorem dX11_faultOf_6 : decode cX11_faultOf 6 = .ok (.iconst 0, 1) := by decide +kernel
theorem dX11_faultOf_7 : decode cX11_faultOf 7 = .ok (.putfield 147, 3) := by decide +kernel
theorem dX11_faultOf_10 : decode cX11_faultOf 10 = .ok (.aload_n 0, 1) := by decide +kernel
theorem dX11_faultOf_11 : decode cX11_faultOf 11 = .ok (.iconst 0, 1) := by decide +kernel
theorem dX11_faultOf_12 : decode cX11_faultOf 12 = .ok (.putfield 150, 3) := by decide +kernel
theorem dX11_faultOf_15 : decode cX11_faultOf 15 = .ok (.aload_n 0, 1) := by decide +kernel
theorem dX11_faultOf_16 : decode cX11_faultOf 16 = .ok (.iconst 0, 1) := by decide +kernel
theorem dX11_faultOf_17 : decode cX11_faultOf 17 = .ok (.putfield 153, 3) := by decide +kernel
theorem dX11_faultOf_20 : decode cX11_faultOf 20 = .ok (.aload_n 0, 1) := by decide +kernel
theorem dX11_faultOf_21 : decode cX11_faultOf 21 = .ok (.iconst 0, 1) := by decide +kernel
theorem dX11_faultOf_22 : decode cX11_faultOf 22 = .ok (.putfield 160, 3) := by decide +kernel
theorem dX11_faultOf_25 : decode cX11_faultOf 25 = .ok (.aload_n 0, 1) := by decide +kernel
theorem dX11_faultOf_26 : decode cX11_faultOf 26 = .ok (.getfield 131, 3) := by decide +kernel
theorem dX11_faultOf_29 : decode cX11_faultOf 29 = .ok (.aload_n 0, 1) := by decide +kernel
theorem dX11_faultOf_30 : decode cX11_faultOf 30 = .ok (.getfield 22, 3) := by decide +kernel
theorem dX11_faultOf_33 : decode cX11_faultOf 33 = .ok (.iload_n 1, 1) := by decide +kernel
theorem dX11_faultOf_34 : decode cX11_faultOf 34 = .ok (.iaload, 1) := by decide +kernel
theorem dX11_faultOf_35 : decode cX11_faultOf 35 = .ok (.if_icmp .ge 97, 3) := by decide +kernel
theorem dX11_faultOf_38 : decode cX11_faultOf 38 = .ok (.aload_n 0, 1) := by decide +kernel
theorem dX11_faultOf_39 : decode cX11_faultOf 39 = .ok (.iload_n 1, 1) := by decide +kernel
theorem dX11_faultOf_40 : decode cX11_faultOf 40 = .ok (.aload_n 0, 1) := by decide +kernel
theorem dX11_faultOf_41 : decode cX11_faultOf 41 = .ok (.getfield 131, 3) := by decide +kernel
theorem dX11_faultOf_44 : decode cX11_faultOf 44 = .ok (.invokevirtual 134, 3) := by decide +kernel
theorem dX11_faultOf_47 : decode cX11_faultOf 47 = .ok (.bipush 32, 2) := by decide +kernel
theorem dX11_faultOf_49 : decode cX11_faultOf 49 = .ok (.if_icmp .ne 16, 3) := by decide +kernel
theorem dX11_faultOf_52 : decode cX11_faultOf 52 = .ok (.aload_n 0, 1) := by decide +kernel
theorem dX11_faultOf_53 : decode cX11_faultOf 53 = .ok (.dup, 1) := by decide +kernel
theorem dX11_faultOf_54 : decode cX11_faultOf 54 = .ok (.getfield 131, 3) := by decide +kernel
theorem dX11_faultOf_57 : decode cX11_faultOf 57 = .ok (.iconst 1, 1) := by decide +kernel
theorem dX11_faultOf_58 : decode cX11_faultOf 58 = .ok (.iadd, 1) := by decide +kernel
theorem dX11_faultOf_59 : decode cX11_faultOf 59 = .ok (.putfield 131, 3) := by decide +kernel
theorem dX11_faultOf_62 : decode cX11_faultOf 62 = .ok (.goto (-37), 3) := by decide +kernel
theorem dX11_faultOf_65 : decode cX11_faultOf 65 = .ok (.aload_n 0, 1) := by decide +kernel
theorem dX11_faultOf_66 : decode cX11_faultOf 66 = .ok (.getfield 147, 3) := by decide +kernel
theorem dX11_faultOf_69 : decode cX11_faultOf 69 = .ok (.ifCond .ne 14, 3) := by decide +kernel
theorem dX11_faultOf_72 : decode cX11_faultOf 72 = .ok (.aload_n 0, 1) := by decide +kernel
theorem dX11_faultOf_73 : decode cX11_faultOf 73 = .ok (.iload_n 1, 1) := by decide +kernel
theorem dX11_faultOf_74 : decode cX11_faultOf 74 = .ok (.invokevirtual 163, 3) := by decide +kernel
theorem dX11_faultOf_77 : decode cX11_faultOf 77 = .ok (.ifCond .eq 50, 3) := by decide +kernel
theorem dX11_faultOf_80 : decode cX11_faultOf 80 = .ok (.goto (-55), 3) := by decide +kernel
theorem dX11_faultOf_83 : decode cX11_faultOf 83 = .ok (.aload_n 0, 1) := by decide +kernel
theorem dX11_faultOf_84 : decode cX11_faultOf 84 = .ok (.getfield 150, 3) := by decide +kernel
theorem dX11_faultOf_87 : decode cX11_faultOf 87 = .ok (.ifCond .ne 14, 3) := by decide +kernel
theorem dX11_faultOf_90 : decode cX11_faultOf 90 = .ok (.aload_n 0, 1) := by decide +kernel
theorem dX11_faultOf_91 : decode cX11_faultOf 91 = .ok (.iload_n 1, 1) := by decide +kernel
theorem dX11_faultOf_92 : decode cX11_faultOf 92 = .ok (.invokevirtual 166, 3) := by decide +kernel
theorem dX11_faultOf_95 : decode cX11_faultOf 95 = .ok (.ifCond .eq 32, 3) := by decide +kernel
theorem dX11_faultOf_98 : decode cX11_faultOf 98 = .ok (.goto (-73), 3) := by decide +kernel
theorem dX11_faultOf_101 : decode cX11_faultOf 101 = .ok (.aload_n 0, 1) := by decide +kernel
theorem dX11_faultOf_102 : decode cX11_faultOf 102 = .ok (.getfield 153, 3) := by decide +kernel
theorem dX11_faultOf_105 : decode cX11_faultOf 105 = .ok (.ifCond .ne 14, 3) := by decide +kernel
theorem dX11_faultOf_108 : decode cX11_faultOf 108 = .ok (.aload_n 0, 1) := by decide +kernel
theorem dX11_faultOf_109 : decode cX11_faultOf 109 = .ok (.iload_n 1, 1) := by decide +kernel
theorem dX11_faultOf_110 : decode cX11_faultOf 110 = .ok (.invokevirtual 169, 3) := by decide +kernel
theorem dX11_faultOf_113 : decode cX11_faultOf 113 = .ok (.ifCond .eq 14, 3) := by decide +kernel
theorem dX11_faultOf_116 : decode cX11_faultOf 116 = .ok (.goto (-91), 3) := by decide +kernel
theorem dX11_faultOf_119 : decode cX11_faultOf 119 = .ok (.aload_n 0, 1) := by decide +kernel
theorem dX11_faultOf_120 : decode cX11_faultOf 120 = .ok (.iload_n 1, 1) := by decide +kernel
theorem dX11_faultOf_121 : decode cX11_faultOf 121 = .ok (.invokevirtual 172, 3) := by decide +kernel
theorem dX11_faultOf_124 : decode cX11_faultOf 124 = .ok (.ifCond .ne (-99), 3) := by decide +kernel
theorem dX11_faultOf_127 : decode cX11_faultOf 127 = .ok (.aload_n 0, 1) := by decide +kernel
theorem dX11_faultOf_128 : decode cX11_faultOf 128 = .ok (.getfield 131, 3) := by decide +kernel
theorem dX11_faultOf_131 : decode cX11_faultOf 131 = .ok (.ireturn, 1) := by decide +kernel
theorem dX11_faultOf_132 : decode cX11_faultOf 132 = .ok (.aload_n 0, 1) := by decide +kernel
theorem dX11_faultOf_133 : decode cX11_faultOf 133 = .ok (.getfield 153, 3) := by decide +kernel
theorem dX11_faultOf_136 : decode cX11_faultOf 136 = .ok (.ifCond .eq 8, 3) := by decide +kernel
theorem dX11_faultOf_139 : decode cX11_faultOf 139 = .ok (.bipush (-9), 2) := by decide +kernel
theorem dX11_faultOf_141 : decode cX11_faultOf 141 = .ok (.goto 9, 3) := by decide +kernel
theorem dX11_faultOf_144 : decode cX11_faultOf 144 = .ok (.aload_n 0, 1) := by decide +kernel
theorem dX11_faultOf_145 : decode cX11_faultOf 145 = .ok (.getfield 22, 3) := by decide +kernel
theorem dX11_faultOf_148 : decode cX11_faultOf 148 = .ok (.iload_n 1, 1) := by decide +kernel
theorem dX11_faultOf_149 : decode cX11_faultOf 149 = .ok (.iaload, 1) := by decide +kernel
theorem dX11_faultOf_150 : decode cX11_faultOf 150 = .ok (.ireturn, 1) := by decide +kernel
theorem dX11_fault_0 : decode cX11_fault 0 = .ok (.iload_n 1, 1) := by decide +kernel
theorem dX11_fault_1 : decode cX11_fault 1 = .ok (.invokestatic 128, 3) := by decide +kernel
theorem dX11_fault_4 : decode cX11_fault 4 = .ok (.ifCond .ne 5, 3) := by decide +kernel
theorem dX11_fault_7 : decode cX11_fault 7 = .ok (.iconst (-1), 1) := by decide +kernel
theorem dX11_fault_8 : decode cX11_fault 8 = .ok (.ireturn, 1) := by decide +kernel
theorem dX11_fault_9 : decode cX11_fault 9 = .ok (.aload_n 0, 1) := by decide +kernel
theorem dX11_fault_10 : decode cX11_fault 10 = .ok (.getfield 22, 3) := by decide +kernel
theorem dX11_fault_13 : decode cX11_fault 13 = .ok (.iload_n 1, 1) := by decide +kernel
theorem dX11_fault_14 : decode cX11_fault 14 = .ok (.iaload, 1) := by decide +kernel
theorem dX11_fault_15 : decode cX11_fault 15 = .ok (.ifCond .ge 11, 3) := by decide +kernel
theorem dX11_fault_18 : decode cX11_fault 18 = .ok (.aload_n 0, 1) := by decide +kernel
theorem dX11_fault_19 : decode cX11_fault 19 = .ok (.iconst 1, 1) := by decide +kernel
theorem dX11_fault_20 : decode cX11_fault 20 = .ok (.invokevirtual 117, 3) := by decide +kernel
theorem dX11_fault_23 : decode cX11_fault 23 = .ok (.goto 8, 3) := by decide +kernel
theorem dX11_fault_26 : decode cX11_fault 26 = .ok (.aload_n 0, 1) := by decide +kernel
theorem dX11_fault_27 : decode cX11_fault 27 = .ok (.iload_n 1, 1) := by decide +kernel
theorem dX11_fault_28 : decode cX11_fault 28 = .ok (.invokevirtual 175, 3) := by decide +kernel
theorem dX11_fault_31 : decode cX11_fault 31 = .ok (.ireturn, 1) := by decide +kernel
theorem dX11_land_0 : decode cX11_land 0 = .ok (.iload_n 1, 1) := by decide +kernel
theorem dX11_land_1 : decode cX11_land 1 = .ok (.invokestatic 128, 3) := by decide +kernel
theorem dX11_land_4 : decode cX11_land 4 = .ok (.ifCond .ne 5, 3) := by decide +kernel
theorem dX11_land_7 : decode cX11_land 7 = .ok (.iconst (-1), 1) := by decide +kernel
theorem dX11_land_8 : decode cX11_land 8 = .ok (.ireturn, 1) := by decide +kernel
theorem dX11_land_9 : decode cX11_land 9 = .ok (.aload_n 0, 1) := by decide +kernel
theorem dX11_land_10 : decode cX11_land 10 = .ok (.getfield 22, 3) := by decide +kernel
theorem dX11_land_13 : decode cX11_land 13 = .ok (.iload_n 1, 1) := by decide +kernel
theorem dX11_land_14 : decode cX11_land 14 = .ok (.iaload, 1) := by decide +kernel
theorem dX11_land_15 : decode cX11_land 15 = .ok (.ifCond .ge 9, 3) := by decide +kernel
theorem dX11_land_18 : decode cX11_land 18 = .ok (.aload_n 0, 1) := by decide +kernel
theorem dX11_land_19 : decode cX11_land 19 = .ok (.iconst 1, 1) := by decide +kernel
theorem dX11_land_20 : decode cX11_land 20 = .ok (.invokevirtual 117, 3) := by decide +kernel
theorem dX11_land_23 : decode cX11_land 23 = .ok (.ireturn, 1) := by decide +kernel
theorem dX11_land_24 : decode cX11_land 24 = .ok (.aload_n 0, 1) := by decide +kernel
theorem dX11_land_25 : decode cX11_land 25 = .ok (.iload_n 1, 1) := by decide +kernel
theorem dX11_land_26 : decode cX11_land 26 = .ok (.invokevirtual 175, 3) := by decide +kernel
theorem dX11_land_29 : decode cX11_land 29 = .ok (.bipush (-9), 2) := by decide +kernel
theorem dX11_land_31 : decode cX11_land 31 = .ok (.if_icmp .eq 6, 3) := by decide +kernel
theorem dX11_land_34 : decode cX11_land 34 = .ok (.bipush (-4), 2) := by decide +kernel
theorem dX11_land_36 : decode cX11_land 36 = .ok (.ireturn, 1) := by decide +kernel
theorem dX11_land_37 : decode cX11_land 37 = .ok (.aload_n 0, 1) := by decide +kernel
theorem dX11_land_38 : decode cX11_land 38 = .ok (.aload_n 0, 1) := by decide +kernel
theorem dX11_land_39 : decode cX11_land 39 = .ok (.getfield 147, 3) := by decide +kernel
theorem dX11_land_42 : decode cX11_land 42 = .ok (.putfield 178, 3) := by decide +kernel
theorem dX11_land_45 : decode cX11_land 45 = .ok (.aload_n 0, 1) := by decide +kernel
theorem dX11_land_46 : decode cX11_land 46 = .ok (.aload_n 0, 1) := by decide +kernel
theorem dX11_land_47 : decode cX11_land 47 = .ok (.getfield 150, 3) := by decide +kernel
theorem dX11_land_50 : decode cX11_land 50 = .ok (.putfield 181, 3) := by decide +kernel
theorem dX11_land_53 : decode cX11_land 53 = .ok (.aload_n 0, 1) := by decide +kernel
theorem dX11_land_54 : decode cX11_land 54 = .ok (.aload_n 0, 1) := by decide +kernel
theorem dX11_land_55 : decode cX11_land 55 = .ok (.getfield 160, 3) := by decide +kernel
theorem dX11_land_58 : decode cX11_land 58 = .ok (.putfield 184, 3) := by decide +kernel
theorem dX11_land_61 : decode cX11_land 61 = .ok (.iconst 0, 1) := by decide +kernel
theorem dX11_land_62 : decode cX11_land 62 = .ok (.istore_n 2, 1) := by decide +kernel
theorem dX11_land_63 : decode cX11_land 63 = .ok (.iload_n 2, 1) := by decide +kernel
theorem dX11_land_64 : decode cX11_land 64 = .ok (.bipush 8, 2) := by decide +kernel
theorem dX11_land_66 : decode cX11_land 66 = .ok (.if_icmp .ge 21, 3) := by decide +kernel
theorem dX11_land_69 : decode cX11_land 69 = .ok (.aload_n 0, 1) := by decide +kernel
theorem dX11_land_70 : decode cX11_land 70 = .ok (.getfield 29, 3) := by decide +kernel
theorem dX11_land_73 : decode cX11_land 73 = .ok (.iload_n 2, 1) := by decide +kernel
theorem dX11_land_74 : decode cX11_land 74 = .ok (.aload_n 0, 1) := by decide +kernel
theorem dX11_land_75 : decode cX11_land 75 = .ok (.getfield 41, 3) := by decide +kernel
theorem dX11_land_78 : decode cX11_land 78 = .ok (.iload_n 2, 1) := by decide +kernel
theorem dX11_land_79 : decode cX11_land 79 = .ok (.iaload, 1) := by decide +kernel
theorem dX11_land_80 : decode cX11_land 80 = .ok (.iastore, 1) := by decide +kernel
theorem dX11_land_81 : decode cX11_land 81 = .ok (.iinc 2 1, 3) := by decide +kernel
theorem dX11_land_84 : decode cX11_land 84 = .ok (.goto (-21), 3) := by decide +kernel
theorem dX11_land_87 : decode cX11_land 87 = .ok (.iconst 1, 1) := by decide +kernel
theorem dX11_land_88 : decode cX11_land 88 = .ok (.istore_n 2, 1) := by decide +kernel
theorem dX11_land_89 : decode cX11_land 89 = .ok (.iload_n 2, 1) := by decide +kernel
theorem dX11_land_90 : decode cX11_land 90 = .ok (.iconst 5, 1) := by decide +kernel
theorem dX11_land_91 : decode cX11_land 91 = .ok (.if_icmp .ge 21, 3) := by decide +kernel
theorem dX11_land_94 : decode cX11_land 94 = .ok (.aload_n 0, 1) := by decide +kernel
theorem dX11_land_95 : decode cX11_land 95 = .ok (.getfield 32, 3) := by decide +kernel
theorem dX11_land_98 : decode cX11_land 98 = .ok (.iload_n 2, 1) := by decide +kernel
theorem dX11_land_99 : decode cX11_land 99 = .ok (.aload_n 0, 1) := by decide +kernel
theorem dX11_land_100 : decode cX11_land 100 = .ok (.getfield 44, 3) := by decide +kernel
theorem dX11_land_103 : decode cX11_land 103 = .ok (.iload_n 2, 1) := by decide +kernel
theorem dX11_land_104 : decode cX11_land 104 = .ok (.iaload, 1) := by decide +kernel
theorem dX11_land_105 : decode cX11_land 105 = .ok (.iastore, 1) := by decide +kernel
theorem dX11_land_106 : decode cX11_land 106 = .ok (.iinc 2 1, 3) := by decide +kernel
theorem dX11_land_109 : decode cX11_land 109 = .ok (.goto (-20), 3) := by decide +kernel
theorem dX11_land_112 : decode cX11_land 112 = .ok (.iconst 0, 1) := by decide +kernel
theorem dX11_land_113 : decode cX11_land 113 = .ok (.istore_n 2, 1) := by decide +kernel
theorem dX11_land_114 : decode cX11_land 114 = .ok (.iload_n 2, 1) := by decide +kernel
theorem dX11_land_115 : decode cX11_land 115 = .ok (.aload_n 0, 1) := by decide +kernel
theorem dX11_land_116 : decode cX11_land 116 = .ok (.getfield 184, 3) := by decide +kernel
theorem dX11_land_119 : decode cX11_land 119 = .ok (.if_icmp .ge 33, 3) := by decide +kernel
theorem dX11_land_122 : decode cX11_land 122 = .ok (.aload_n 0, 1) := by decide +kernel
theorem dX11_land_123 : decode cX11_land 123 = .ok (.getfield 35, 3) := by decide +kernel
theorem dX11_land_126 : decode cX11_land 126 = .ok (.iload_n 2, 1) := by decide +kernel
theorem dX11_land_127 : decode cX11_land 127 = .ok (.aload_n 0, 1) := by decide +kernel
theorem dX11_land_128 : decode cX11_land 128 = .ok (.getfield 47, 3) := by decide +kernel
theorem dX11_land_131 : decode cX11_land 131 = .ok (.iload_n 2, 1) := by decide +kernel
theorem dX11_land_132 : decode cX11_land 132 = .ok (.iaload, 1) := by decide +kernel
theorem dX11_land_133 : decode cX11_land 133 = .ok (.iastore, 1) := by decide +kernel
theorem dX11_land_134 : decode cX11_land 134 = .ok (.aload_n 0, 1) := by decide +kernel
theorem dX11_land_135 : decode cX11_land 135 = .ok (.getfield 38, 3) := by decide +kernel
theorem dX11_land_138 : decode cX11_land 138 = .ok (.iload_n 2, 1) := by decide +kernel
theorem dX11_land_139 : decode cX11_land 139 = .ok (.aload_n 0, 1) := by decide +kernel
theorem dX11_land_140 : decode cX11_land 140 = .ok (.getfield 50, 3) := by decide +kernel
theorem dX11_land_143 : decode cX11_land 143 = .ok (.iload_n 2, 1) := by decide +kernel
theorem dX11_land_144 : decode cX11_land 144 = .ok (.iaload, 1) := by decide +kernel
theorem dX11_land_145 : decode cX11_land 145 = .ok (.iastore, 1) := by decide +kernel
theorem dX11_land_146 : decode cX11_land 146 = .ok (.iinc 2 1, 3) := by decide +kernel
theorem dX11_land_149 : decode cX11_land 149 = .ok (.goto (-35), 3) := by decide +kernel
theorem dX11_land_152 : decode cX11_land 152 = .ok (.iconst 0, 1) := by decide +kernel
theorem dX11_land_153 : decode cX11_land 153 = .ok (.istore_n 2, 1) := by decide +kernel
theorem dX11_land_154 : decode cX11_land 154 = .ok (.iload_n 2, 1) := by decide +kernel
theorem dX11_land_155 : decode cX11_land 155 = .ok (.bipush 30, 2) := by decide +kernel
theorem dX11_land_157 : decode cX11_land 157 = .ok (.if_icmp .ge 16, 3) := by decide +kernel
theorem dX11_land_160 : decode cX11_land 160 = .ok (.aload_n 0, 1) := by decide +kernel
theorem dX11_land_161 : decode cX11_land 161 = .ok (.getfield 53, 3) := by decide +kernel
theorem dX11_land_164 : decode cX11_land 164 = .ok (.iload_n 2, 1) := by decide +kernel
theorem dX11_land_165 : decode cX11_land 165 = .ok (.iconst 0, 1) := by decide +kernel
theorem dX11_land_166 : decode cX11_land 166 = .ok (.iastore, 1) := by decide +kernel
theorem dX11_land_167 : decode cX11_land 167 = .ok (.iinc 2 1, 3) := by decide +kernel
theorem dX11_land_170 : decode cX11_land 170 = .ok (.goto (-16), 3) := by decide +kernel
theorem dX11_land_173 : decode cX11_land 173 = .ok (.iconst 0, 1) := by decide +kernel
theorem dX11_land_174 : decode cX11_land 174 = .ok (.istore_n 2, 1) := by decide +kernel
theorem dX11_land_175 : decode cX11_land 175 = .ok (.iload_n 2, 1) := by decide +kernel
theorem dX11_land_176 : decode cX11_land 176 = .ok (.iconst 3, 1) := by decide +kernel
theorem dX11_land_177 : decode cX11_land 177 = .ok (.if_icmp .ge 16, 3) := by decide +kernel
theorem dX11_land_180 : decode cX11_land 180 = .ok (.aload_n 0, 1) := by decide +kernel
theorem dX11_land_181 : decode cX11_land 181 = .ok (.getfield 59, 3) := by decide +kernel
theorem dX11_land_184 : decode cX11_land 184 = .ok (.iload_n 2, 1) := by decide +kernel
theorem dX11_land_185 : decode cX11_land 185 = .ok (.iconst 0, 1) := by decide +kernel
theorem dX11_land_186 : decode cX11_land 186 = .ok (.bastore, 1) := by decide +kernel
theorem dX11_land_187 : decode cX11_land 187 = .ok (.iinc 2 1, 3) := by decide +kernel
theorem dX11_land_190 : decode cX11_land 190 = .ok (.goto (-15), 3) := by decide +kernel
theorem dX11_land_193 : decode cX11_land 193 = .ok (.aload_n 0, 1) := by decide +kernel
theorem dX11_land_194 : decode cX11_land 194 = .ok (.iconst 0, 1) := by decide +kernel
theorem dX11_land_195 : decode cX11_land 195 = .ok (.putfield 187, 3) := by decide +kernel
theorem dX11_land_198 : decode cX11_land 198 = .ok (.aload_n 0, 1) := by decide +kernel
theorem dX11_land_199 : decode cX11_land 199 = .ok (.iconst 0, 1) := by decide +kernel
theorem dX11_land_200 : decode cX11_land 200 = .ok (.putfield 190, 3) := by decide +kernel
theorem dX11_land_203 : decode cX11_land 203 = .ok (.aload_n 0, 1) := by decide +kernel
theorem dX11_land_204 : decode cX11_land 204 = .ok (.getfield 184, 3) := by decide +kernel
theorem dX11_land_207 : decode cX11_land 207 = .ok (.ireturn, 1) := by decide +kernel
theorem dX11_isJar_0 : decode cX11_isJar 0 = .ok (.iload_n 1, 1) := by decide +kernel
theorem dX11_isJar_1 : decode cX11_isJar 1 = .ok (.iconst 0, 1) := by decide +kernel
theorem dX11_isJar_2 : decode cX11_isJar 2 = .ok (.aload_n 0, 1) := by decide +kernel
theorem dX11_isJar_3 : decode cX11_isJar 3 = .ok (.getfield 184, 3) := by decide +kernel
theorem dX11_isJar_6 : decode cX11_isJar 6 = .ok (.iconst 1, 1) := by decide +kernel
theorem dX11_isJar_7 : decode cX11_isJar 7 = .ok (.isub, 1) := by decide +kernel
theorem dX11_isJar_8 : decode cX11_isJar 8 = .ok (.invokestatic 106, 3) := by decide +kernel
theorem dX11_isJar_11 : decode cX11_isJar 11 = .ok (.ireturn, 1) := by decide +kernel
theorem dX11_isPlace_0 : decode cX11_isPlace 0 = .ok (.iload_n 0, 1) := by decide +kernel
theorem dX11_isPlace_1 : decode cX11_isPlace 1 = .ok (.iconst 0, 1) := by decide +kernel
theorem dX11_isPlace_2 : decode cX11_isPlace 2 = .ok (.iconst 4, 1) := by decide +kernel
theorem dX11_isPlace_3 : decode cX11_isPlace 3 = .ok (.invokestatic 106, 3) := by decide +kernel
theorem dX11_isPlace_6 : decode cX11_isPlace 6 = .ok (.ireturn, 1) := by decide +kernel
theorem dX11_isValley_0 : decode cX11_isValley 0 = .ok (.iload_n 0, 1) := by decide +kernel
theorem dX11_isValley_1 : decode cX11_isValley 1 = .ok (.iconst 1, 1) := by decide +kernel
theorem dX11_isValley_2 : decode cX11_isValley 2 = .ok (.iconst 4, 1) := by decide +kernel
theorem dX11_isValley_3 : decode cX11_isValley 3 = .ok (.invokestatic 106, 3) := by decide +kernel
theorem dX11_isValley_6 : decode cX11_isValley 6 = .ok (.ireturn, 1) := by decide +kernel
theorem dX11_tenth_0 : decode cX11_tenth 0 = .ok (.iload_n 0, 1) := by decide +kernel
theorem dX11_tenth_1 : decode cX11_tenth 1 = .ok (.bipush 9, 2) := by decide +kernel
theorem dX11_tenth_3 : decode cX11_tenth 3 = .ok (.iadd, 1) := by decide +kernel
theorem dX11_tenth_4 : decode cX11_tenth 4 = .ok (.bipush 10, 2) := by decide +kernel
theorem dX11_tenth_6 : decode cX11_tenth 6 = .ok (.idiv, 1) := by decide +kernel
theorem dX11_tenth_7 : decode cX11_tenth 7 = .ok (.ireturn, 1) := by decide +kernel
theorem dX11_leakOf_0 : decode cX11_leakOf 0 = .ok (.iload_n 0, 1) := by decide +kernel
theorem dX11_leakOf_1 : decode cX11_leakOf 1 = .ok (.tableswitch 53 1 4 #[31, 38, 53, 51], 31) := by decide +kernel
theorem dX11_leakOf_32 : decode cX11_leakOf 32 = .ok (.iconst 2, 1) := by decide +kernel
theorem dX11_leakOf_33 : decode cX11_leakOf 33 = .ok (.iload_n 1, 1) := by decide +kernel
theorem dX11_leakOf_34 : decode cX11_leakOf 34 = .ok (.imul, 1) := by decide +kernel
theorem dX11_leakOf_35 : decode cX11_leakOf 35 = .ok (.invokestatic 193, 3) := by decide +kernel
theorem dX11_leakOf_38 : decode cX11_leakOf 38 = .ok (.ireturn, 1) := by decide +kernel
theorem dX11_leakOf_39 : decode cX11_leakOf 39 = .ok (.iload_n 2, 1) := by decide +kernel
theorem dX11_leakOf_40 : decode cX11_leakOf 40 = .ok (.ifCond .eq 10, 3) := by decide +kernel
theorem dX11_leakOf_43 : decode cX11_leakOf 43 = .ok (.iload_n 1, 1) := by decide +kernel
theorem dX11_leakOf_44 : decode cX11_leakOf 44 = .ok (.invokestatic 193, 3) := by decide +kernel
theorem dX11_leakOf_47 : decode cX11_leakOf 47 = .ok (.goto 4, 3) := by decide +kernel
theorem dX11_leakOf_50 : decode cX11_leakOf 50 = .ok (.iconst 0, 1) := by decide +kernel
theorem dX11_leakOf_51 : decode cX11_leakOf 51 = .ok (.ireturn, 1) := by decide +kernel
theorem dX11_leakOf_52 : decode cX11_leakOf 52 = .ok (.iconst 0, 1) := by decide +kernel
theorem dX11_leakOf_53 : decode cX11_leakOf 53 = .ok (.ireturn, 1) := by decide +kernel
theorem dX11_leakOf_54 : decode cX11_leakOf 54 = .ok (.iload_n 1, 1) := by decide +kernel
theorem dX11_leakOf_55 : decode cX11_leakOf 55 = .ok (.invokestatic 193, 3) := by decide +kernel
theorem dX11_leakOf_58 : decode cX11_leakOf 58 = .ok (.ireturn, 1) := by decide +kernel
theorem dX11_leakNow_0 : decode cX11_leakNow 0 = .ok (.aload_n 0, 1) := by decide +kernel
theorem dX11_leakNow_1 : decode cX11_leakNow 1 = .ok (.getfield 35, 3) := by decide +kernel
theorem dX11_leakNow_4 : decode cX11_leakNow 4 = .ok (.iload_n 1, 1) := by decide +kernel
theorem dX11_leakNow_5 : decode cX11_leakNow 5 = .ok (.iaload, 1) := by decide +kernel
theorem dX11_leakNow_6 : decode cX11_leakNow 6 = .ok (.aload_n 0, 1) := by decide +kernel
theorem dX11_leakNow_7 : decode cX11_leakNow 7 = .ok (.getfield 53, 3) := by decide +kernel
