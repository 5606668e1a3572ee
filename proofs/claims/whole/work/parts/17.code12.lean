theorem dX11_loss_52 : decode cX11_loss 52 = .ok (.iload 6, 2) := by decide +kernel
theorem dX11_loss_54 : decode cX11_loss 54 = .ok (.iaload, 1) := by decide +kernel
theorem dX11_loss_55 : decode cX11_loss 55 = .ok (.iload_n 1, 1) := by decide +kernel
theorem dX11_loss_56 : decode cX11_loss 56 = .ok (.iload_n 2, 1) := by decide +kernel
theorem dX11_loss_57 : decode cX11_loss 57 = .ok (.invokevirtual 279, 3) := by decide +kernel
theorem dX11_loss_60 : decode cX11_loss 60 = .ok (.ifCond .eq 42, 3) := by decide +kernel
theorem dX11_loss_63 : decode cX11_loss 63 = .ok (.iload 4, 2) := by decide +kernel
theorem dX11_loss_65 : decode cX11_loss 65 = .ok (.aload_n 0, 1) := by decide +kernel
theorem dX11_loss_66 : decode cX11_loss 66 = .ok (.aload_n 0, 1) := by decide +kernel
theorem dX11_loss_67 : decode cX11_loss 67 = .ok (.getfield 78, 3) := by decide +kernel
theorem dX11_loss_70 : decode cX11_loss 70 = .ok (.iload 6, 2) := by decide +kernel
theorem dX11_loss_72 : decode cX11_loss 72 = .ok (.iaload, 1) := by decide +kernel
theorem dX11_loss_73 : decode cX11_loss 73 = .ok (.invokevirtual 289, 3) := by decide +kernel
theorem dX11_loss_76 : decode cX11_loss 76 = .ok (.isub, 1) := by decide +kernel
theorem dX11_loss_77 : decode cX11_loss 77 = .ok (.istore 7, 2) := by decide +kernel
theorem dX11_loss_79 : decode cX11_loss 79 = .ok (.iload 5, 2) := by decide +kernel
theorem dX11_loss_81 : decode cX11_loss 81 = .ok (.bipush (-9), 2) := by decide +kernel
theorem dX11_loss_83 : decode cX11_loss 83 = .ok (.if_icmp .eq 10, 3) := by decide +kernel
theorem dX11_loss_86 : decode cX11_loss 86 = .ok (.iload 7, 2) := by decide +kernel
theorem dX11_loss_88 : decode cX11_loss 88 = .ok (.iload 5, 2) := by decide +kernel
theorem dX11_loss_90 : decode cX11_loss 90 = .ok (.if_icmp .ge 8, 3) := by decide +kernel
theorem dX11_loss_93 : decode cX11_loss 93 = .ok (.iload 7, 2) := by decide +kernel
theorem dX11_loss_95 : decode cX11_loss 95 = .ok (.goto 5, 3) := by decide +kernel
theorem dX11_loss_98 : decode cX11_loss 98 = .ok (.iload 5, 2) := by decide +kernel
theorem dX11_loss_100 : decode cX11_loss 100 = .ok (.istore 5, 2) := by decide +kernel
theorem dX11_loss_102 : decode cX11_loss 102 = .ok (.iinc 6 1, 3) := by decide +kernel
theorem dX11_loss_105 : decode cX11_loss 105 = .ok (.goto (-67), 3) := by decide +kernel
theorem dX11_loss_108 : decode cX11_loss 108 = .ok (.iload 5, 2) := by decide +kernel
theorem dX11_loss_110 : decode cX11_loss 110 = .ok (.ireturn, 1) := by decide +kernel
theorem dX11_most_0 : decode cX11_most 0 = .ok (.aload_n 0, 1) := by decide +kernel
theorem dX11_most_1 : decode cX11_most 1 = .ok (.iconst 1, 1) := by decide +kernel
theorem dX11_most_2 : decode cX11_most 2 = .ok (.iload_n 1, 1) := by decide +kernel
theorem dX11_most_3 : decode cX11_most 3 = .ok (.invokevirtual 282, 3) := by decide +kernel
theorem dX11_most_6 : decode cX11_most 6 = .ok (.istore_n 2, 1) := by decide +kernel
theorem dX11_most_7 : decode cX11_most 7 = .ok (.iload_n 2, 1) := by decide +kernel
theorem dX11_most_8 : decode cX11_most 8 = .ok (.ifCond .ge 5, 3) := by decide +kernel
theorem dX11_most_11 : decode cX11_most 11 = .ok (.iload_n 2, 1) := by decide +kernel
theorem dX11_most_12 : decode cX11_most 12 = .ok (.ireturn, 1) := by decide +kernel
theorem dX11_most_13 : decode cX11_most 13 = .ok (.iconst 0, 1) := by decide +kernel
theorem dX11_most_14 : decode cX11_most 14 = .ok (.istore_n 3, 1) := by decide +kernel
theorem dX11_most_15 : decode cX11_most 15 = .ok (.iconst 0, 1) := by decide +kernel
theorem dX11_most_16 : decode cX11_most 16 = .ok (.istore 4, 2) := by decide +kernel
theorem dX11_most_18 : decode cX11_most 18 = .ok (.iload 4, 2) := by decide +kernel
theorem dX11_most_20 : decode cX11_most 20 = .ok (.aload_n 0, 1) := by decide +kernel
theorem dX11_most_21 : decode cX11_most 21 = .ok (.getfield 263, 3) := by decide +kernel
theorem dX11_most_24 : decode cX11_most 24 = .ok (.if_icmp .ge 65, 3) := by decide +kernel
theorem dX11_most_27 : decode cX11_most 27 = .ok (.aload_n 0, 1) := by decide +kernel
theorem dX11_most_28 : decode cX11_most 28 = .ok (.aload_n 0, 1) := by decide +kernel
theorem dX11_most_29 : decode cX11_most 29 = .ok (.getfield 78, 3) := by decide +kernel
theorem dX11_most_32 : decode cX11_most 32 = .ok (.iload 4, 2) := by decide +kernel
theorem dX11_most_34 : decode cX11_most 34 = .ok (.iaload, 1) := by decide +kernel
theorem dX11_most_35 : decode cX11_most 35 = .ok (.invokevirtual 266, 3) := by decide +kernel
theorem dX11_most_38 : decode cX11_most 38 = .ok (.iconst 0, 1) := by decide +kernel
theorem dX11_most_39 : decode cX11_most 39 = .ok (.istore 5, 2) := by decide +kernel
theorem dX11_most_41 : decode cX11_most 41 = .ok (.iload 5, 2) := by decide +kernel
theorem dX11_most_43 : decode cX11_most 43 = .ok (.aload_n 0, 1) := by decide +kernel
theorem dX11_most_44 : decode cX11_most 44 = .ok (.getfield 256, 3) := by decide +kernel
theorem dX11_most_47 : decode cX11_most 47 = .ok (.if_icmp .ge 36, 3) := by decide +kernel
theorem dX11_most_50 : decode cX11_most 50 = .ok (.aload_n 0, 1) := by decide +kernel
theorem dX11_most_51 : decode cX11_most 51 = .ok (.getfield 69, 3) := by decide +kernel
theorem dX11_most_54 : decode cX11_most 54 = .ok (.iload 5, 2) := by decide +kernel
theorem dX11_most_56 : decode cX11_most 56 = .ok (.iaload, 1) := by decide +kernel
theorem dX11_most_57 : decode cX11_most 57 = .ok (.iload_n 1, 1) := by decide +kernel
theorem dX11_most_58 : decode cX11_most 58 = .ok (.if_icmp .ne 17, 3) := by decide +kernel
theorem dX11_most_61 : decode cX11_most 61 = .ok (.iload_n 3, 1) := by decide +kernel
theorem dX11_most_62 : decode cX11_most 62 = .ok (.aload_n 0, 1) := by decide +kernel
theorem dX11_most_63 : decode cX11_most 63 = .ok (.getfield 72, 3) := by decide +kernel
theorem dX11_most_66 : decode cX11_most 66 = .ok (.iload 5, 2) := by decide +kernel
theorem dX11_most_68 : decode cX11_most 68 = .ok (.iaload, 1) := by decide +kernel
theorem dX11_most_69 : decode cX11_most 69 = .ok (.invokestatic 292, 3) := by decide +kernel
theorem dX11_most_72 : decode cX11_most 72 = .ok (.goto 4, 3) := by decide +kernel
theorem dX11_most_75 : decode cX11_most 75 = .ok (.iload_n 3, 1) := by decide +kernel
theorem dX11_most_76 : decode cX11_most 76 = .ok (.istore_n 3, 1) := by decide +kernel
theorem dX11_most_77 : decode cX11_most 77 = .ok (.iinc 5 1, 3) := by decide +kernel
theorem dX11_most_80 : decode cX11_most 80 = .ok (.goto (-39), 3) := by decide +kernel
theorem dX11_most_83 : decode cX11_most 83 = .ok (.iinc 4 1, 3) := by decide +kernel
theorem dX11_most_86 : decode cX11_most 86 = .ok (.goto (-68), 3) := by decide +kernel
theorem dX11_most_89 : decode cX11_most 89 = .ok (.aload_n 0, 1) := by decide +kernel
theorem dX11_most_90 : decode cX11_most 90 = .ok (.aload_n 0, 1) := by decide +kernel
theorem dX11_most_91 : decode cX11_most 91 = .ok (.getfield 263, 3) := by decide +kernel
theorem dX11_most_94 : decode cX11_most 94 = .ok (.iload_n 3, 1) := by decide +kernel
theorem dX11_most_95 : decode cX11_most 95 = .ok (.invokevirtual 125, 3) := by decide +kernel
theorem dX11_most_98 : decode cX11_most 98 = .ok (.ireturn, 1) := by decide +kernel
theorem dX11_burnt_0 : decode cX11_burnt 0 = .ok (.iload_n 1, 1) := by decide +kernel
theorem dX11_burnt_1 : decode cX11_burnt 1 = .ok (.iconst 1, 1) := by decide +kernel
theorem dX11_burnt_2 : decode cX11_burnt 2 = .ok (.iconst 1, 1) := by decide +kernel
theorem dX11_burnt_3 : decode cX11_burnt 3 = .ok (.aload_n 0, 1) := by decide +kernel
theorem dX11_burnt_4 : decode cX11_burnt 4 = .ok (.getfield 184, 3) := by decide +kernel
theorem dX11_burnt_7 : decode cX11_burnt 7 = .ok (.ishl, 1) := by decide +kernel
theorem dX11_burnt_8 : decode cX11_burnt 8 = .ok (.iconst 1, 1) := by decide +kernel
theorem dX11_burnt_9 : decode cX11_burnt 9 = .ok (.isub, 1) := by decide +kernel
theorem dX11_burnt_10 : decode cX11_burnt 10 = .ok (.invokestatic 106, 3) := by decide +kernel
theorem dX11_burnt_13 : decode cX11_burnt 13 = .ok (.ifCond .eq 13, 3) := by decide +kernel
theorem dX11_burnt_16 : decode cX11_burnt 16 = .ok (.iload_n 2, 1) := by decide +kernel
theorem dX11_burnt_17 : decode cX11_burnt 17 = .ok (.iconst 0, 1) := by decide +kernel
theorem dX11_burnt_18 : decode cX11_burnt 18 = .ok (.bipush 120, 2) := by decide +kernel
theorem dX11_burnt_20 : decode cX11_burnt 20 = .ok (.invokestatic 106, 3) := by decide +kernel
theorem dX11_burnt_23 : decode cX11_burnt 23 = .ok (.ifCond .ne 5, 3) := by decide +kernel
theorem dX11_burnt_26 : decode cX11_burnt 26 = .ok (.iconst (-1), 1) := by decide +kernel
theorem dX11_burnt_27 : decode cX11_burnt 27 = .ok (.ireturn, 1) := by decide +kernel
theorem dX11_burnt_28 : decode cX11_burnt 28 = .ok (.aload_n 0, 1) := by decide +kernel
theorem dX11_burnt_29 : decode cX11_burnt 29 = .ok (.getfield 190, 3) := by decide +kernel
theorem dX11_burnt_32 : decode cX11_burnt 32 = .ok (.bipush 8, 2) := by decide +kernel
theorem dX11_burnt_34 : decode cX11_burnt 34 = .ok (.if_icmp .ne 6, 3) := by decide +kernel
theorem dX11_burnt_37 : decode cX11_burnt 37 = .ok (.bipush (-2), 2) := by decide +kernel
theorem dX11_burnt_39 : decode cX11_burnt 39 = .ok (.ireturn, 1) := by decide +kernel
theorem dX11_burnt_40 : decode cX11_burnt 40 = .ok (.aload_n 0, 1) := by decide +kernel
theorem dX11_burnt_41 : decode cX11_burnt 41 = .ok (.getfield 87, 3) := by decide +kernel
theorem dX11_burnt_44 : decode cX11_burnt 44 = .ok (.aload_n 0, 1) := by decide +kernel
theorem dX11_burnt_45 : decode cX11_burnt 45 = .ok (.getfield 190, 3) := by decide +kernel
theorem dX11_burnt_48 : decode cX11_burnt 48 = .ok (.iload_n 1, 1) := by decide +kernel
theorem dX11_burnt_49 : decode cX11_burnt 49 = .ok (.iastore, 1) := by decide +kernel
theorem dX11_burnt_50 : decode cX11_burnt 50 = .ok (.aload_n 0, 1) := by decide +kernel
theorem dX11_burnt_51 : decode cX11_burnt 51 = .ok (.getfield 90, 3) := by decide +kernel
theorem dX11_burnt_54 : decode cX11_burnt 54 = .ok (.aload_n 0, 1) := by decide +kernel
theorem dX11_burnt_55 : decode cX11_burnt 55 = .ok (.getfield 190, 3) := by decide +kernel
theorem dX11_burnt_58 : decode cX11_burnt 58 = .ok (.iload_n 2, 1) := by decide +kernel
theorem dX11_burnt_59 : decode cX11_burnt 59 = .ok (.iastore, 1) := by decide +kernel
theorem dX11_burnt_60 : decode cX11_burnt 60 = .ok (.aload_n 0, 1) := by decide +kernel
theorem dX11_burnt_61 : decode cX11_burnt 61 = .ok (.dup, 1) := by decide +kernel
theorem dX11_burnt_62 : decode cX11_burnt 62 = .ok (.getfield 190, 3) := by decide +kernel
theorem dX11_burnt_65 : decode cX11_burnt 65 = .ok (.iconst 1, 1) := by decide +kernel
theorem dX11_burnt_66 : decode cX11_burnt 66 = .ok (.iadd, 1) := by decide +kernel
theorem dX11_burnt_67 : decode cX11_burnt 67 = .ok (.putfield 190, 3) := by decide +kernel
theorem dX11_burnt_70 : decode cX11_burnt 70 = .ok (.aload_n 0, 1) := by decide +kernel
theorem dX11_burnt_71 : decode cX11_burnt 71 = .ok (.getfield 190, 3) := by decide +kernel
theorem dX11_burnt_74 : decode cX11_burnt 74 = .ok (.iconst 1, 1) := by decide +kernel
theorem dX11_burnt_75 : decode cX11_burnt 75 = .ok (.isub, 1) := by decide +kernel
theorem dX11_burnt_76 : decode cX11_burnt 76 = .ok (.ireturn, 1) := by decide +kernel
theorem dX11_forget_0 : decode cX11_forget 0 = .ok (.iload_n 1, 1) := by decide +kernel
theorem dX11_forget_1 : decode cX11_forget 1 = .ok (.iconst 0, 1) := by decide +kernel
theorem dX11_forget_2 : decode cX11_forget 2 = .ok (.aload_n 0, 1) := by decide +kernel
theorem dX11_forget_3 : decode cX11_forget 3 = .ok (.getfield 190, 3) := by decide +kernel
theorem dX11_forget_6 : decode cX11_forget 6 = .ok (.invokestatic 106, 3) := by decide +kernel
theorem dX11_forget_9 : decode cX11_forget 9 = .ok (.ifCond .ne 5, 3) := by decide +kernel
theorem dX11_forget_12 : decode cX11_forget 12 = .ok (.iconst (-1), 1) := by decide +kernel
theorem dX11_forget_13 : decode cX11_forget 13 = .ok (.ireturn, 1) := by decide +kernel
theorem dX11_forget_14 : decode cX11_forget 14 = .ok (.aload_n 0, 1) := by decide +kernel
theorem dX11_forget_15 : decode cX11_forget 15 = .ok (.getfield 190, 3) := by decide +kernel
theorem dX11_forget_18 : decode cX11_forget 18 = .ok (.iload_n 1, 1) := by decide +kernel
theorem dX11_forget_19 : decode cX11_forget 19 = .ok (.isub, 1) := by decide +kernel
theorem dX11_forget_20 : decode cX11_forget 20 = .ok (.istore_n 2, 1) := by decide +kernel
theorem dX11_forget_21 : decode cX11_forget 21 = .ok (.aload_n 0, 1) := by decide +kernel
theorem dX11_forget_22 : decode cX11_forget 22 = .ok (.iload_n 1, 1) := by decide +kernel
theorem dX11_forget_23 : decode cX11_forget 23 = .ok (.putfield 190, 3) := by decide +kernel
theorem dX11_forget_26 : decode cX11_forget 26 = .ok (.iload_n 2, 1) := by decide +kernel
theorem dX11_forget_27 : decode cX11_forget 27 = .ok (.ireturn, 1) := by decide +kernel
theorem dX11_burns_0 : decode cX11_burns 0 = .ok (.iconst 0, 1) := by decide +kernel
theorem dX11_burns_1 : decode cX11_burns 1 = .ok (.istore_n 3, 1) := by decide +kernel
theorem dX11_burns_2 : decode cX11_burns 2 = .ok (.iconst 0, 1) := by decide +kernel
theorem dX11_burns_3 : decode cX11_burns 3 = .ok (.istore 4, 2) := by decide +kernel
theorem dX11_burns_5 : decode cX11_burns 5 = .ok (.iload 4, 2) := by decide +kernel
theorem dX11_burns_7 : decode cX11_burns 7 = .ok (.aload_n 0, 1) := by decide +kernel
theorem dX11_burns_8 : decode cX11_burns 8 = .ok (.getfield 184, 3) := by decide +kernel
theorem dX11_burns_11 : decode cX11_burns 11 = .ok (.if_icmp .ge 53, 3) := by decide +kernel
theorem dX11_burns_14 : decode cX11_burns 14 = .ok (.iload_n 3, 1) := by decide +kernel
theorem dX11_burns_15 : decode cX11_burns 15 = .ok (.iload_n 1, 1) := by decide +kernel
theorem dX11_burns_16 : decode cX11_burns 16 = .ok (.iload 4, 2) := by decide +kernel
theorem dX11_burns_18 : decode cX11_burns 18 = .ok (.invokestatic 246, 3) := by decide +kernel
theorem dX11_burns_21 : decode cX11_burns 21 = .ok (.ifCond .ne 7, 3) := by decide +kernel
theorem dX11_burns_24 : decode cX11_burns 24 = .ok (.iconst 0, 1) := by decide +kernel
theorem dX11_burns_25 : decode cX11_burns 25 = .ok (.goto 31, 3) := by decide +kernel
theorem dX11_burns_28 : decode cX11_burns 28 = .ok (.iload_n 2, 1) := by decide +kernel
theorem dX11_burns_29 : decode cX11_burns 29 = .ok (.iload 4, 2) := by decide +kernel
theorem dX11_burns_31 : decode cX11_burns 31 = .ok (.invokestatic 246, 3) := by decide +kernel
theorem dX11_burns_34 : decode cX11_burns 34 = .ok (.ifCond .eq 15, 3) := by decide +kernel
theorem dX11_burns_37 : decode cX11_burns 37 = .ok (.aload_n 0, 1) := by decide +kernel
theorem dX11_burns_38 : decode cX11_burns 38 = .ok (.getfield 38, 3) := by decide +kernel
theorem dX11_burns_41 : decode cX11_burns 41 = .ok (.iload 4, 2) := by decide +kernel
theorem dX11_burns_43 : decode cX11_burns 43 = .ok (.iaload, 1) := by decide +kernel
theorem dX11_burns_44 : decode cX11_burns 44 = .ok (.iconst 2, 1) := by decide +kernel
theorem dX11_burns_45 : decode cX11_burns 45 = .ok (.idiv, 1) := by decide +kernel
theorem dX11_burns_46 : decode cX11_burns 46 = .ok (.goto 10, 3) := by decide +kernel
theorem dX11_burns_49 : decode cX11_burns 49 = .ok (.aload_n 0, 1) := by decide +kernel
theorem dX11_burns_50 : decode cX11_burns 50 = .ok (.getfield 38, 3) := by decide +kernel
theorem dX11_burns_53 : decode cX11_burns 53 = .ok (.iload 4, 2) := by decide +kernel
theorem dX11_burns_55 : decode cX11_burns 55 = .ok (.iaload, 1) := by decide +kernel
theorem dX11_burns_56 : decode cX11_burns 56 = .ok (.iadd, 1) := by decide +kernel
theorem dX11_burns_57 : decode cX11_burns 57 = .ok (.istore_n 3, 1) := by decide +kernel
theorem dX11_burns_58 : decode cX11_burns 58 = .ok (.iinc 4 1, 3) := by decide +kernel
theorem dX11_burns_61 : decode cX11_burns 61 = .ok (.goto (-56), 3) := by decide +kernel
theorem dX11_burns_64 : decode cX11_burns 64 = .ok (.iload_n 3, 1) := by decide +kernel
theorem dX11_burns_65 : decode cX11_burns 65 = .ok (.ireturn, 1) := by decide +kernel
theorem dX11_fits_0 : decode cX11_fits 0 = .ok (.iconst 1, 1) := by decide +kernel
theorem dX11_fits_1 : decode cX11_fits 1 = .ok (.istore_n 2, 1) := by decide +kernel
theorem dX11_fits_2 : decode cX11_fits 2 = .ok (.iconst 0, 1) := by decide +kernel
theorem dX11_fits_3 : decode cX11_fits 3 = .ok (.istore_n 3, 1) := by decide +kernel
theorem dX11_fits_4 : decode cX11_fits 4 = .ok (.iload_n 3, 1) := by decide +kernel
theorem dX11_fits_5 : decode cX11_fits 5 = .ok (.aload_n 0, 1) := by decide +kernel
theorem dX11_fits_6 : decode cX11_fits 6 = .ok (.getfield 190, 3) := by decide +kernel
theorem dX11_fits_9 : decode cX11_fits 9 = .ok (.if_icmp .ge 39, 3) := by decide +kernel
theorem dX11_fits_12 : decode cX11_fits 12 = .ok (.iload_n 2, 1) := by decide +kernel
theorem dX11_fits_13 : decode cX11_fits 13 = .ok (.ifCond .eq 27, 3) := by decide +kernel
theorem dX11_fits_16 : decode cX11_fits 16 = .ok (.aload_n 0, 1) := by decide +kernel
theorem dX11_fits_17 : decode cX11_fits 17 = .ok (.aload_n 0, 1) := by decide +kernel
theorem dX11_fits_18 : decode cX11_fits 18 = .ok (.getfield 87, 3) := by decide +kernel
theorem dX11_fits_21 : decode cX11_fits 21 = .ok (.iload_n 3, 1) := by decide +kernel
theorem dX11_fits_22 : decode cX11_fits 22 = .ok (.iaload, 1) := by decide +kernel
theorem dX11_fits_23 : decode cX11_fits 23 = .ok (.iload_n 1, 1) := by decide +kernel
theorem dX11_fits_24 : decode cX11_fits 24 = .ok (.invokevirtual 295, 3) := by decide +kernel
theorem dX11_fits_27 : decode cX11_fits 27 = .ok (.aload_n 0, 1) := by decide +kernel
theorem dX11_fits_28 : decode cX11_fits 28 = .ok (.getfield 90, 3) := by decide +kernel
theorem dX11_fits_31 : decode cX11_fits 31 = .ok (.iload_n 3, 1) := by decide +kernel
theorem dX11_fits_32 : decode cX11_fits 32 = .ok (.iaload, 1) := by decide +kernel
theorem dX11_fits_33 : decode cX11_fits 33 = .ok (.if_icmp .ne 7, 3) := by decide +kernel
theorem dX11_fits_36 : decode cX11_fits 36 = .ok (.iconst 1, 1) := by decide +kernel
theorem dX11_fits_37 : decode cX11_fits 37 = .ok (.goto 4, 3) := by decide +kernel
theorem dX11_fits_40 : decode cX11_fits 40 = .ok (.iconst 0, 1) := by decide +kernel
theorem dX11_fits_41 : decode cX11_fits 41 = .ok (.istore_n 2, 1) := by decide +kernel
theorem dX11_fits_42 : decode cX11_fits 42 = .ok (.iinc 3 1, 3) := by decide +kernel
theorem dX11_fits_45 : decode cX11_fits 45 = .ok (.goto (-41), 3) := by decide +kernel
theorem dX11_fits_48 : decode cX11_fits 48 = .ok (.iload_n 2, 1) := by decide +kernel
theorem dX11_fits_49 : decode cX11_fits 49 = .ok (.ireturn, 1) := by decide +kernel
theorem dX11_mixed_0 : decode cX11_mixed 0 = .ok (.aload_n 0, 1) := by decide +kernel
theorem dX11_mixed_1 : decode cX11_mixed 1 = .ok (.getfield 184, 3) := by decide +kernel
theorem dX11_mixed_4 : decode cX11_mixed 4 = .ok (.ifCond .ne 6, 3) := by decide +kernel
theorem dX11_mixed_7 : decode cX11_mixed 7 = .ok (.bipush (-4), 2) := by decide +kernel
theorem dX11_mixed_9 : decode cX11_mixed 9 = .ok (.ireturn, 1) := by decide +kernel
theorem dX11_mixed_10 : decode cX11_mixed 10 = .ok (.iconst 0, 1) := by decide +kernel
theorem dX11_mixed_11 : decode cX11_mixed 11 = .ok (.istore_n 1, 1) := by decide +kernel
theorem dX11_mixed_12 : decode cX11_mixed 12 = .ok (.iconst 0, 1) := by decide +kernel
theorem dX11_mixed_13 : decode cX11_mixed 13 = .ok (.istore_n 2, 1) := by decide +kernel
theorem dX11_mixed_14 : decode cX11_mixed 14 = .ok (.iconst 0, 1) := by decide +kernel
theorem dX11_mixed_15 : decode cX11_mixed 15 = .ok (.istore_n 3, 1) := by decide +kernel
theorem dX11_mixed_16 : decode cX11_mixed 16 = .ok (.iload_n 3, 1) := by decide +kernel
theorem dX11_mixed_17 : decode cX11_mixed 17 = .ok (.iconst 1, 1) := by decide +kernel
theorem dX11_mixed_18 : decode cX11_mixed 18 = .ok (.aload_n 0, 1) := by decide +kernel
theorem dX11_mixed_19 : decode cX11_mixed 19 = .ok (.getfield 184, 3) := by decide +kernel
theorem dX11_mixed_22 : decode cX11_mixed 22 = .ok (.ishl, 1) := by decide +kernel
theorem dX11_mixed_23 : decode cX11_mixed 23 = .ok (.if_icmp .ge 30, 3) := by decide +kernel
theorem dX11_mixed_26 : decode cX11_mixed 26 = .ok (.aload_n 0, 1) := by decide +kernel
theorem dX11_mixed_27 : decode cX11_mixed 27 = .ok (.iload_n 3, 1) := by decide +kernel
theorem dX11_mixed_28 : decode cX11_mixed 28 = .ok (.invokevirtual 298, 3) := by decide +kernel
theorem dX11_mixed_31 : decode cX11_mixed 31 = .ok (.ifCond .eq 16, 3) := by decide +kernel
theorem dX11_mixed_34 : decode cX11_mixed 34 = .ok (.iload_n 1, 1) := by decide +kernel
theorem dX11_mixed_35 : decode cX11_mixed 35 = .ok (.ifCond .ne 7, 3) := by decide +kernel
theorem dX11_mixed_38 : decode cX11_mixed 38 = .ok (.iload_n 3, 1) := by decide +kernel
theorem dX11_mixed_39 : decode cX11_mixed 39 = .ok (.goto 4, 3) := by decide +kernel
theorem dX11_mixed_42 : decode cX11_mixed 42 = .ok (.iload_n 2, 1) := by decide +kernel
theorem dX11_mixed_43 : decode cX11_mixed 43 = .ok (.istore_n 2, 1) := by decide +kernel
theorem dX11_mixed_44 : decode cX11_mixed 44 = .ok (.iinc 1 1, 3) := by decide +kernel
theorem dX11_mixed_47 : decode cX11_mixed 47 = .ok (.iinc 3 1, 3) := by decide +kernel
theorem dX11_mixed_50 : decode cX11_mixed 50 = .ok (.goto (-34), 3) := by decide +kernel
theorem dX11_mixed_53 : decode cX11_mixed 53 = .ok (.iload_n 1, 1) := by decide +kernel
theorem dX11_mixed_54 : decode cX11_mixed 54 = .ok (.ifCond .ne 8, 3) := by decide +kernel
theorem dX11_mixed_57 : decode cX11_mixed 57 = .ok (.bipush (-9), 2) := by decide +kernel
theorem dX11_mixed_59 : decode cX11_mixed 59 = .ok (.goto 9, 3) := by decide +kernel
theorem dX11_mixed_62 : decode cX11_mixed 62 = .ok (.aload_n 0, 1) := by decide +kernel
theorem dX11_mixed_63 : decode cX11_mixed 63 = .ok (.iload_n 2, 1) := by decide +kernel
theorem dX11_mixed_64 : decode cX11_mixed 64 = .ok (.iload_n 1, 1) := by decide +kernel
theorem dX11_mixed_65 : decode cX11_mixed 65 = .ok (.invokevirtual 125, 3) := by decide +kernel
theorem dX11_mixed_68 : decode cX11_mixed 68 = .ok (.ireturn, 1) := by decide +kernel
theorem dX11_sure_0 : decode cX11_sure 0 = .ok (.aload_n 0, 1) := by decide +kernel
theorem dX11_sure_1 : decode cX11_sure 1 = .ok (.getfield 184, 3) := by decide +kernel
theorem dX11_sure_4 : decode cX11_sure 4 = .ok (.ifCond .ne 6, 3) := by decide +kernel
theorem dX11_sure_7 : decode cX11_sure 7 = .ok (.bipush (-4), 2) := by decide +kernel
theorem dX11_sure_9 : decode cX11_sure 9 = .ok (.ireturn, 1) := by decide +kernel
theorem dX11_sure_10 : decode cX11_sure 10 = .ok (.iconst 1, 1) := by decide +kernel
theorem dX11_sure_11 : decode cX11_sure 11 = .ok (.aload_n 0, 1) := by decide +kernel
theorem dX11_sure_12 : decode cX11_sure 12 = .ok (.getfield 184, 3) := by decide +kernel
theorem dX11_sure_15 : decode cX11_sure 15 = .ok (.ishl, 1) := by decide +kernel
theorem dX11_sure_16 : decode cX11_sure 16 = .ok (.iconst 1, 1) := by decide +kernel
theorem dX11_sure_17 : decode cX11_sure 17 = .ok (.isub, 1) := by decide +kernel
theorem dX11_sure_18 : decode cX11_sure 18 = .ok (.istore_n 1, 1) := by decide +kernel
theorem dX11_sure_19 : decode cX11_sure 19 = .ok (.iload_n 1, 1) := by decide +kernel
theorem dX11_sure_20 : decode cX11_sure 20 = .ok (.istore_n 2, 1) := by decide +kernel
theorem dX11_sure_21 : decode cX11_sure 21 = .ok (.iload_n 1, 1) := by decide +kernel
theorem dX11_sure_22 : decode cX11_sure 22 = .ok (.istore_n 3, 1) := by decide +kernel
theorem dX11_sure_23 : decode cX11_sure 23 = .ok (.iconst 0, 1) := by decide +kernel
theorem dX11_sure_24 : decode cX11_sure 24 = .ok (.istore 4, 2) := by decide +kernel
theorem dX11_sure_26 : decode cX11_sure 26 = .ok (.iconst 0, 1) := by decide +kernel
theorem dX11_sure_27 : decode cX11_sure 27 = .ok (.istore 5, 2) := by decide +kernel
theorem dX11_sure_29 : decode cX11_sure 29 = .ok (.iload 5, 2) := by decide +kernel
theorem dX11_sure_31 : decode cX11_sure 31 = .ok (.iload_n 1, 1) := by decide +kernel
theorem dX11_sure_32 : decode cX11_sure 32 = .ok (.if_icmp .gt 33, 3) := by decide +kernel
theorem dX11_sure_35 : decode cX11_sure 35 = .ok (.aload_n 0, 1) := by decide +kernel
theorem dX11_sure_36 : decode cX11_sure 36 = .ok (.iload 5, 2) := by decide +kernel
theorem dX11_sure_38 : decode cX11_sure 38 = .ok (.invokevirtual 298, 3) := by decide +kernel
theorem dX11_sure_41 : decode cX11_sure 41 = .ok (.ifCond .eq 18, 3) := by decide +kernel
theorem dX11_sure_44 : decode cX11_sure 44 = .ok (.iload_n 2, 1) := by decide +kernel
theorem dX11_sure_45 : decode cX11_sure 45 = .ok (.iload 5, 2) := by decide +kernel
theorem dX11_sure_47 : decode cX11_sure 47 = .ok (.iand, 1) := by decide +kernel
theorem dX11_sure_48 : decode cX11_sure 48 = .ok (.istore_n 2, 1) := by decide +kernel
theorem dX11_sure_49 : decode cX11_sure 49 = .ok (.iload_n 3, 1) := by decide +kernel
theorem dX11_sure_50 : decode cX11_sure 50 = .ok (.iload 5, 2) := by decide +kernel
theorem dX11_sure_52 : decode cX11_sure 52 = .ok (.iconst (-1), 1) := by decide +kernel
theorem dX11_sure_53 : decode cX11_sure 53 = .ok (.ixor, 1) := by decide +kernel
theorem dX11_sure_54 : decode cX11_sure 54 = .ok (.iand, 1) := by decide +kernel
theorem dX11_sure_55 : decode cX11_sure 55 = .ok (.istore_n 3, 1) := by decide +kernel
theorem dX11_sure_56 : decode cX11_sure 56 = .ok (.iinc 4 1, 3) := by decide +kernel
theorem dX11_sure_59 : decode cX11_sure 59 = .ok (.iinc 5 1, 3) := by decide +kernel
theorem dX11_sure_62 : decode cX11_sure 62 = .ok (.goto (-33), 3) := by decide +kernel
theorem dX11_sure_65 : decode cX11_sure 65 = .ok (.iload 4, 2) := by decide +kernel
theorem dX11_sure_67 : decode cX11_sure 67 = .ok (.ifCond .ne 11, 3) := by decide +kernel
theorem dX11_sure_70 : decode cX11_sure 70 = .ok (.aload_n 0, 1) := by decide +kernel
theorem dX11_sure_71 : decode cX11_sure 71 = .ok (.iconst 4, 1) := by decide +kernel
theorem dX11_sure_72 : decode cX11_sure 72 = .ok (.invokevirtual 117, 3) := by decide +kernel
theorem dX11_sure_75 : decode cX11_sure 75 = .ok (.goto 9, 3) := by decide +kernel
theorem dX11_sure_78 : decode cX11_sure 78 = .ok (.aload_n 0, 1) := by decide +kernel
theorem dX11_sure_79 : decode cX11_sure 79 = .ok (.iload_n 3, 1) := by decide +kernel
theorem dX11_sure_80 : decode cX11_sure 80 = .ok (.iload_n 2, 1) := by decide +kernel
theorem dX11_sure_81 : decode cX11_sure 81 = .ok (.invokevirtual 125, 3) := by decide +kernel
theorem dX11_sure_84 : decode cX11_sure 84 = .ok (.ireturn, 1) := by decide +kernel
theorem dX11_leftBy_0 : decode cX11_leftBy 0 = .ok (.iconst 0, 1) := by decide +kernel
theorem dX11_leftBy_1 : decode cX11_leftBy 1 = .ok (.istore_n 2, 1) := by decide +kernel
theorem dX11_leftBy_2 : decode cX11_leftBy 2 = .ok (.iload_n 2, 1) := by decide +kernel
theorem dX11_leftBy_3 : decode cX11_leftBy 3 = .ok (.bipush 121, 2) := by decide +kernel
theorem dX11_leftBy_5 : decode cX11_leftBy 5 = .ok (.if_icmp .ge 16, 3) := by decide +kernel
theorem dX11_leftBy_8 : decode cX11_leftBy 8 = .ok (.aload_n 0, 1) := by decide +kernel
theorem dX11_leftBy_9 : decode cX11_leftBy 9 = .ok (.getfield 93, 3) := by decide +kernel
theorem dX11_leftBy_12 : decode cX11_leftBy 12 = .ok (.iload_n 2, 1) := by decide +kernel
theorem dX11_leftBy_13 : decode cX11_leftBy 13 = .ok (.iconst 0, 1) := by decide +kernel
theorem dX11_leftBy_14 : decode cX11_leftBy 14 = .ok (.iastore, 1) := by decide +kernel
theorem dX11_leftBy_15 : decode cX11_leftBy 15 = .ok (.iinc 2 1, 3) := by decide +kernel
theorem dX11_leftBy_18 : decode cX11_leftBy 18 = .ok (.goto (-16), 3) := by decide +kernel
theorem dX11_leftBy_21 : decode cX11_leftBy 21 = .ok (.iconst 0, 1) := by decide +kernel
theorem dX11_leftBy_22 : decode cX11_leftBy 22 = .ok (.istore_n 2, 1) := by decide +kernel
theorem dX11_leftBy_23 : decode cX11_leftBy 23 = .ok (.iconst 0, 1) := by decide +kernel
theorem dX11_leftBy_24 : decode cX11_leftBy 24 = .ok (.istore_n 3, 1) := by decide +kernel
theorem dX11_leftBy_25 : decode cX11_leftBy 25 = .ok (.iload_n 3, 1) := by decide +kernel
theorem dX11_leftBy_26 : decode cX11_leftBy 26 = .ok (.iconst 1, 1) := by decide +kernel
theorem dX11_leftBy_27 : decode cX11_leftBy 27 = .ok (.aload_n 0, 1) := by decide +kernel
theorem dX11_leftBy_28 : decode cX11_leftBy 28 = .ok (.getfield 184, 3) := by decide +kernel
theorem dX11_leftBy_31 : decode cX11_leftBy 31 = .ok (.ishl, 1) := by decide +kernel
theorem dX11_leftBy_32 : decode cX11_leftBy 32 = .ok (.if_icmp .ge 48, 3) := by decide +kernel
theorem dX11_leftBy_35 : decode cX11_leftBy 35 = .ok (.aload_n 0, 1) := by decide +kernel
theorem dX11_leftBy_36 : decode cX11_leftBy 36 = .ok (.iload_n 3, 1) := by decide +kernel
theorem dX11_leftBy_37 : decode cX11_leftBy 37 = .ok (.invokevirtual 298, 3) := by decide +kernel
theorem dX11_leftBy_40 : decode cX11_leftBy 40 = .ok (.ifCond .eq 34, 3) := by decide +kernel
theorem dX11_leftBy_43 : decode cX11_leftBy 43 = .ok (.aload_n 0, 1) := by decide +kernel
theorem dX11_leftBy_44 : decode cX11_leftBy 44 = .ok (.iload_n 1, 1) := by decide +kernel
theorem dX11_leftBy_45 : decode cX11_leftBy 45 = .ok (.iload_n 3, 1) := by decide +kernel
theorem dX11_leftBy_46 : decode cX11_leftBy 46 = .ok (.invokevirtual 295, 3) := by decide +kernel
theorem dX11_leftBy_49 : decode cX11_leftBy 49 = .ok (.istore 4, 2) := by decide +kernel
theorem dX11_leftBy_51 : decode cX11_leftBy 51 = .ok (.aload_n 0, 1) := by decide +kernel
theorem dX11_leftBy_52 : decode cX11_leftBy 52 = .ok (.getfield 93, 3) := by decide +kernel
theorem dX11_leftBy_55 : decode cX11_leftBy 55 = .ok (.iload 4, 2) := by decide +kernel
theorem dX11_leftBy_57 : decode cX11_leftBy 57 = .ok (.dup2, 1) := by decide +kernel
theorem dX11_leftBy_58 : decode cX11_leftBy 58 = .ok (.iaload, 1) := by decide +kernel
theorem dX11_leftBy_59 : decode cX11_leftBy 59 = .ok (.iconst 1, 1) := by decide +kernel
theorem dX11_leftBy_60 : decode cX11_leftBy 60 = .ok (.iadd, 1) := by decide +kernel
theorem dX11_leftBy_61 : decode cX11_leftBy 61 = .ok (.iastore, 1) := by decide +kernel
theorem dX11_leftBy_62 : decode cX11_leftBy 62 = .ok (.iload_n 2, 1) := by decide +kernel
theorem dX11_leftBy_63 : decode cX11_leftBy 63 = .ok (.aload_n 0, 1) := by decide +kernel
theorem dX11_leftBy_64 : decode cX11_leftBy 64 = .ok (.getfield 93, 3) := by decide +kernel
theorem dX11_leftBy_67 : decode cX11_leftBy 67 = .ok (.iload 4, 2) := by decide +kernel
theorem dX11_leftBy_69 : decode cX11_leftBy 69 = .ok (.iaload, 1) := by decide +kernel
theorem dX11_leftBy_70 : decode cX11_leftBy 70 = .ok (.invokestatic 292, 3) := by decide +kernel
theorem dX11_leftBy_73 : decode cX11_leftBy 73 = .ok (.istore_n 2, 1) := by decide +kernel
theorem dX11_leftBy_74 : decode cX11_leftBy 74 = .ok (.iinc 3 1, 3) := by decide +kernel
theorem dX11_leftBy_77 : decode cX11_leftBy 77 = .ok (.goto (-52), 3) := by decide +kernel
theorem dX11_leftBy_80 : decode cX11_leftBy 80 = .ok (.iload_n 2, 1) := by decide +kernel
theorem dX11_leftBy_81 : decode cX11_leftBy 81 = .ok (.ireturn, 1) := by decide +kernel
theorem dX11_test_0 : decode cX11_test 0 = .ok (.aload_n 0, 1) := by decide +kernel
theorem dX11_test_1 : decode cX11_test 1 = .ok (.getfield 184, 3) := by decide +kernel
theorem dX11_test_4 : decode cX11_test 4 = .ok (.ifCond .ne 6, 3) := by decide +kernel
theorem dX11_test_7 : decode cX11_test 7 = .ok (.bipush (-4), 2) := by decide +kernel
theorem dX11_test_9 : decode cX11_test 9 = .ok (.ireturn, 1) := by decide +kernel
theorem dX11_test_10 : decode cX11_test 10 = .ok (.bipush (-9), 2) := by decide +kernel
theorem dX11_test_12 : decode cX11_test 12 = .ok (.istore_n 1, 1) := by decide +kernel
theorem dX11_test_13 : decode cX11_test 13 = .ok (.iconst 0, 1) := by decide +kernel
theorem dX11_test_14 : decode cX11_test 14 = .ok (.istore_n 2, 1) := by decide +kernel
theorem dX11_test_15 : decode cX11_test 15 = .ok (.iconst 1, 1) := by decide +kernel
theorem dX11_test_16 : decode cX11_test 16 = .ok (.istore_n 3, 1) := by decide +kernel
theorem dX11_test_17 : decode cX11_test 17 = .ok (.iload_n 3, 1) := by decide +kernel
theorem dX11_test_18 : decode cX11_test 18 = .ok (.iconst 1, 1) := by decide +kernel
theorem dX11_test_19 : decode cX11_test 19 = .ok (.aload_n 0, 1) := by decide +kernel
theorem dX11_test_20 : decode cX11_test 20 = .ok (.getfield 184, 3) := by decide +kernel
theorem dX11_test_23 : decode cX11_test 23 = .ok (.ishl, 1) := by decide +kernel
theorem dX11_test_24 : decode cX11_test 24 = .ok (.if_icmp .ge 50, 3) := by decide +kernel
theorem dX11_test_27 : decode cX11_test 27 = .ok (.aload_n 0, 1) := by decide +kernel
theorem dX11_test_28 : decode cX11_test 28 = .ok (.iload_n 3, 1) := by decide +kernel
theorem dX11_test_29 : decode cX11_test 29 = .ok (.invokevirtual 301, 3) := by decide +kernel
theorem dX11_test_32 : decode cX11_test 32 = .ok (.istore 4, 2) := by decide +kernel
theorem dX11_test_34 : decode cX11_test 34 = .ok (.iload_n 1, 1) := by decide +kernel
theorem dX11_test_35 : decode cX11_test 35 = .ok (.bipush (-9), 2) := by decide +kernel
theorem dX11_test_37 : decode cX11_test 37 = .ok (.if_icmp .eq 26, 3) := by decide +kernel
theorem dX11_test_40 : decode cX11_test 40 = .ok (.iload 4, 2) := by decide +kernel
theorem dX11_test_42 : decode cX11_test 42 = .ok (.iload_n 2, 1) := by decide +kernel
theorem dX11_test_43 : decode cX11_test 43 = .ok (.if_icmp .lt 20, 3) := by decide +kernel
theorem dX11_test_46 : decode cX11_test 46 = .ok (.iload 4, 2) := by decide +kernel
theorem dX11_test_48 : decode cX11_test 48 = .ok (.iload_n 2, 1) := by decide +kernel
theorem dX11_test_49 : decode cX11_test 49 = .ok (.if_icmp .ne 19, 3) := by decide +kernel
theorem dX11_test_52 : decode cX11_test 52 = .ok (.iload_n 3, 1) := by decide +kernel
theorem dX11_test_53 : decode cX11_test 53 = .ok (.invokestatic 249, 3) := by decide +kernel
theorem dX11_test_56 : decode cX11_test 56 = .ok (.iload_n 1, 1) := by decide +kernel
theorem dX11_test_57 : decode cX11_test 57 = .ok (.invokestatic 249, 3) := by decide +kernel
theorem dX11_test_60 : decode cX11_test 60 = .ok (.if_icmp .ge 8, 3) := by decide +kernel
theorem dX11_test_63 : decode cX11_test 63 = .ok (.iload_n 3, 1) := by decide +kernel
theorem dX11_test_64 : decode cX11_test 64 = .ok (.istore_n 1, 1) := by decide +kernel
theorem dX11_test_65 : decode cX11_test 65 = .ok (.iload 4, 2) := by decide +kernel
theorem dX11_test_67 : decode cX11_test 67 = .ok (.istore_n 2, 1) := by decide +kernel
theorem dX11_test_68 : decode cX11_test 68 = .ok (.iinc 3 1, 3) := by decide +kernel
theorem dX11_test_71 : decode cX11_test 71 = .ok (.goto (-54), 3) := by decide +kernel
theorem dX11_test_74 : decode cX11_test 74 = .ok (.iload_n 2, 1) := by decide +kernel
theorem dX11_test_75 : decode cX11_test 75 = .ok (.ifCond .ne 11, 3) := by decide +kernel
theorem dX11_test_78 : decode cX11_test 78 = .ok (.aload_n 0, 1) := by decide +kernel
theorem dX11_test_79 : decode cX11_test 79 = .ok (.iconst 4, 1) := by decide +kernel
theorem dX11_test_80 : decode cX11_test 80 = .ok (.invokevirtual 117, 3) := by decide +kernel
theorem dX11_test_83 : decode cX11_test 83 = .ok (.goto 9, 3) := by decide +kernel
theorem dX11_test_86 : decode cX11_test 86 = .ok (.aload_n 0, 1) := by decide +kernel
theorem dX11_test_87 : decode cX11_test 87 = .ok (.iload_n 2, 1) := by decide +kernel
theorem dX11_test_88 : decode cX11_test 88 = .ok (.iload_n 1, 1) := by decide +kernel
theorem dX11_test_89 : decode cX11_test 89 = .ok (.invokevirtual 125, 3) := by decide +kernel
theorem dX11_test_92 : decode cX11_test 92 = .ok (.ireturn, 1) := by decide +kernel
theorem dX11_theft_0 : decode cX11_theft 0 = .ok (.iload_n 1, 1) := by decide +kernel
theorem dX11_theft_1 : decode cX11_theft 1 = .ok (.invokestatic 113, 3) := by decide +kernel
theorem dX11_theft_4 : decode cX11_theft 4 = .ok (.ifCond .eq 12, 3) := by decide +kernel
theorem dX11_theft_7 : decode cX11_theft 7 = .ok (.iload_n 2, 1) := by decide +kernel
theorem dX11_theft_8 : decode cX11_theft 8 = .ok (.iconst 0, 1) := by decide +kernel
theorem dX11_theft_9 : decode cX11_theft 9 = .ok (.iconst 5, 1) := by decide +kernel
theorem dX11_theft_10 : decode cX11_theft 10 = .ok (.invokestatic 106, 3) := by decide +kernel
theorem dX11_theft_13 : decode cX11_theft 13 = .ok (.ifCond .ne 5, 3) := by decide +kernel
theorem dX11_theft_16 : decode cX11_theft 16 = .ok (.iconst (-1), 1) := by decide +kernel
theorem dX11_theft_17 : decode cX11_theft 17 = .ok (.ireturn, 1) := by decide +kernel
theorem dX11_theft_18 : decode cX11_theft 18 = .ok (.aload_n 0, 1) := by decide +kernel
theorem dX11_theft_19 : decode cX11_theft 19 = .ok (.getfield 13, 3) := by decide +kernel
theorem dX11_theft_22 : decode cX11_theft 22 = .ok (.iload_n 1, 1) := by decide +kernel
theorem dX11_theft_23 : decode cX11_theft 23 = .ok (.iaload, 1) := by decide +kernel
theorem dX11_theft_24 : decode cX11_theft 24 = .ok (.ifCond .ge 9, 3) := by decide +kernel
theorem dX11_theft_27 : decode cX11_theft 27 = .ok (.aload_n 0, 1) := by decide +kernel
theorem dX11_theft_28 : decode cX11_theft 28 = .ok (.iconst 1, 1) := by decide +kernel
theorem dX11_theft_29 : decode cX11_theft 29 = .ok (.invokevirtual 117, 3) := by decide +kernel
theorem dX11_theft_32 : decode cX11_theft 32 = .ok (.ireturn, 1) := by decide +kernel
theorem dX11_theft_33 : decode cX11_theft 33 = .ok (.aload_n 0, 1) := by decide +kernel
theorem dX11_theft_34 : decode cX11_theft 34 = .ok (.getfield 13, 3) := by decide +kernel
theorem dX11_theft_37 : decode cX11_theft 37 = .ok (.iload_n 1, 1) := by decide +kernel
theorem dX11_theft_38 : decode cX11_theft 38 = .ok (.iaload, 1) := by decide +kernel
theorem dX11_theft_39 : decode cX11_theft 39 = .ok (.iconst 2, 1) := by decide +kernel
theorem dX11_theft_40 : decode cX11_theft 40 = .ok (.if_icmp .ge 9, 3) := by decide +kernel
theorem dX11_theft_43 : decode cX11_theft 43 = .ok (.aload_n 0, 1) := by decide +kernel
theorem dX11_theft_44 : decode cX11_theft 44 = .ok (.iconst 5, 1) := by decide +kernel
theorem dX11_theft_45 : decode cX11_theft 45 = .ok (.invokevirtual 117, 3) := by decide +kernel
theorem dX11_theft_48 : decode cX11_theft 48 = .ok (.ireturn, 1) := by decide +kernel
theorem dX11_theft_49 : decode cX11_theft 49 = .ok (.iconst 1, 1) := by decide +kernel
theorem dX11_theft_50 : decode cX11_theft 50 = .ok (.istore_n 3, 1) := by decide +kernel
theorem dX11_theft_51 : decode cX11_theft 51 = .ok (.iconst 0, 1) := by decide +kernel
theorem dX11_theft_52 : decode cX11_theft 52 = .ok (.istore 4, 2) := by decide +kernel
theorem dX11_theft_54 : decode cX11_theft 54 = .ok (.iload 4, 2) := by decide +kernel
theorem dX11_theft_56 : decode cX11_theft 56 = .ok (.aload_n 0, 1) := by decide +kernel
theorem dX11_theft_57 : decode cX11_theft 57 = .ok (.getfield 13, 3) := by decide +kernel
theorem dX11_theft_60 : decode cX11_theft 60 = .ok (.iload_n 1, 1) := by decide +kernel
theorem dX11_theft_61 : decode cX11_theft 61 = .ok (.iaload, 1) := by decide +kernel
theorem dX11_theft_62 : decode cX11_theft 62 = .ok (.if_icmp .ge 35, 3) := by decide +kernel
theorem dX11_theft_65 : decode cX11_theft 65 = .ok (.iload_n 3, 1) := by decide +kernel
theorem dX11_theft_66 : decode cX11_theft 66 = .ok (.ifCond .eq 23, 3) := by decide +kernel
theorem dX11_theft_69 : decode cX11_theft 69 = .ok (.aload_n 0, 1) := by decide +kernel
theorem dX11_theft_70 : decode cX11_theft 70 = .ok (.iload_n 1, 1) := by decide +kernel
theorem dX11_theft_71 : decode cX11_theft 71 = .ok (.iload 4, 2) := by decide +kernel
theorem dX11_theft_73 : decode cX11_theft 73 = .ok (.invokevirtual 121, 3) := by decide +kernel
theorem dX11_theft_76 : decode cX11_theft 76 = .ok (.iconst 0, 1) := by decide +kernel
theorem dX11_theft_77 : decode cX11_theft 77 = .ok (.bipush 20, 2) := by decide +kernel
theorem dX11_theft_79 : decode cX11_theft 79 = .ok (.invokestatic 106, 3) := by decide +kernel
theorem dX11_theft_82 : decode cX11_theft 82 = .ok (.ifCond .eq 7, 3) := by decide +kernel
theorem dX11_theft_85 : decode cX11_theft 85 = .ok (.iconst 1, 1) := by decide +kernel
theorem dX11_theft_86 : decode cX11_theft 86 = .ok (.goto 4, 3) := by decide +kernel
theorem dX11_theft_89 : decode cX11_theft 89 = .ok (.iconst 0, 1) := by decide +kernel
theorem dX11_theft_90 : decode cX11_theft 90 = .ok (.istore_n 3, 1) := by decide +kernel
theorem dX11_theft_91 : decode cX11_theft 91 = .ok (.iinc 4 1, 3) := by decide +kernel
theorem dX11_theft_94 : decode cX11_theft 94 = .ok (.goto (-40), 3) := by decide +kernel
theorem dX11_theft_97 : decode cX11_theft 97 = .ok (.iload_n 3, 1) := by decide +kernel
theorem dX11_theft_98 : decode cX11_theft 98 = .ok (.ifCond .ne 9, 3) := by decide +kernel
theorem dX11_theft_101 : decode cX11_theft 101 = .ok (.aload_n 0, 1) := by decide +kernel
theorem dX11_theft_102 : decode cX11_theft 102 = .ok (.iconst 3, 1) := by decide +kernel
theorem dX11_theft_103 : decode cX11_theft 103 = .ok (.invokevirtual 117, 3) := by decide +kernel
theorem dX11_theft_106 : decode cX11_theft 106 = .ok (.ireturn, 1) := by decide +kernel
theorem dX11_theft_107 : decode cX11_theft 107 = .ok (.iconst 1, 1) := by decide +kernel
theorem dX11_theft_108 : decode cX11_theft 108 = .ok (.istore 4, 2) := by decide +kernel
theorem dX11_theft_110 : decode cX11_theft 110 = .ok (.iload 4, 2) := by decide +kernel
theorem dX11_theft_112 : decode cX11_theft 112 = .ok (.aload_n 0, 1) := by decide +kernel
theorem dX11_theft_113 : decode cX11_theft 113 = .ok (.getfield 13, 3) := by decide +kernel
theorem dX11_theft_116 : decode cX11_theft 116 = .ok (.iload_n 1, 1) := by decide +kernel
theorem dX11_theft_117 : decode cX11_theft 117 = .ok (.iaload, 1) := by decide +kernel
theorem dX11_theft_118 : decode cX11_theft 118 = .ok (.if_icmp .ge 64, 3) := by decide +kernel
theorem dX11_theft_121 : decode cX11_theft 121 = .ok (.aload_n 0, 1) := by decide +kernel
theorem dX11_theft_122 : decode cX11_theft 122 = .ok (.iload_n 1, 1) := by decide +kernel
theorem dX11_theft_123 : decode cX11_theft 123 = .ok (.iload 4, 2) := by decide +kernel
theorem dX11_theft_125 : decode cX11_theft 125 = .ok (.iconst 1, 1) := by decide +kernel
theorem dX11_theft_126 : decode cX11_theft 126 = .ok (.isub, 1) := by decide +kernel
theorem dX11_theft_127 : decode cX11_theft 127 = .ok (.invokevirtual 121, 3) := by decide +kernel
theorem dX11_theft_130 : decode cX11_theft 130 = .ok (.iload_n 2, 1) := by decide +kernel
theorem dX11_theft_131 : decode cX11_theft 131 = .ok (.aload_n 0, 1) := by decide +kernel
theorem dX11_theft_132 : decode cX11_theft 132 = .ok (.iload_n 1, 1) := by decide +kernel
theorem dX11_theft_133 : decode cX11_theft 133 = .ok (.iload 4, 2) := by decide +kernel
theorem dX11_theft_135 : decode cX11_theft 135 = .ok (.iconst 1, 1) := by decide +kernel
theorem dX11_theft_136 : decode cX11_theft 136 = .ok (.isub, 1) := by decide +kernel
theorem dX11_theft_137 : decode cX11_theft 137 = .ok (.invokevirtual 121, 3) := by decide +kernel
theorem dX11_theft_140 : decode cX11_theft 140 = .ok (.iconst 0, 1) := by decide +kernel
theorem dX11_theft_141 : decode cX11_theft 141 = .ok (.invokestatic 196, 3) := by decide +kernel
theorem dX11_theft_144 : decode cX11_theft 144 = .ok (.isub, 1) := by decide +kernel
theorem dX11_theft_145 : decode cX11_theft 145 = .ok (.istore 5, 2) := by decide +kernel
theorem dX11_theft_147 : decode cX11_theft 147 = .ok (.aload_n 0, 1) := by decide +kernel
theorem dX11_theft_148 : decode cX11_theft 148 = .ok (.iload_n 1, 1) := by decide +kernel
theorem dX11_theft_149 : decode cX11_theft 149 = .ok (.iload 4, 2) := by decide +kernel
theorem dX11_theft_151 : decode cX11_theft 151 = .ok (.invokevirtual 121, 3) := by decide +kernel
theorem dX11_theft_154 : decode cX11_theft 154 = .ok (.iload 5, 2) := by decide +kernel
theorem dX11_theft_156 : decode cX11_theft 156 = .ok (.if_icmp .ge 20, 3) := by decide +kernel
theorem dX11_theft_159 : decode cX11_theft 159 = .ok (.aload_n 0, 1) := by decide +kernel
theorem dX11_theft_160 : decode cX11_theft 160 = .ok (.iload 5, 2) := by decide +kernel
theorem dX11_theft_162 : decode cX11_theft 162 = .ok (.aload_n 0, 1) := by decide +kernel
theorem dX11_theft_163 : decode cX11_theft 163 = .ok (.iload_n 1, 1) := by decide +kernel
theorem dX11_theft_164 : decode cX11_theft 164 = .ok (.iload 4, 2) := by decide +kernel
theorem dX11_theft_166 : decode cX11_theft 166 = .ok (.invokevirtual 121, 3) := by decide +kernel
theorem dX11_theft_169 : decode cX11_theft 169 = .ok (.isub, 1) := by decide +kernel
theorem dX11_theft_170 : decode cX11_theft 170 = .ok (.iload 4, 2) := by decide +kernel
theorem dX11_theft_172 : decode cX11_theft 172 = .ok (.invokevirtual 125, 3) := by decide +kernel
theorem dX11_theft_175 : decode cX11_theft 175 = .ok (.ireturn, 1) := by decide +kernel
theorem dX11_theft_176 : decode cX11_theft 176 = .ok (.iinc 4 1, 3) := by decide +kernel
theorem dX11_theft_179 : decode cX11_theft 179 = .ok (.goto (-69), 3) := by decide +kernel
theorem dX11_theft_182 : decode cX11_theft 182 = .ok (.bipush (-9), 2) := by decide +kernel
theorem dX11_theft_184 : decode cX11_theft 184 = .ok (.ireturn, 1) := by decide +kernel
theorem dX11_seats_0 : decode cX11_seats 0 = .ok (.iload_n 1, 1) := by decide +kernel
theorem dX11_seats_1 : decode cX11_seats 1 = .ok (.iconst 0, 1) := by decide +kernel
theorem dX11_seats_2 : decode cX11_seats 2 = .ok (.bipush 99, 2) := by decide +kernel
theorem dX11_seats_4 : decode cX11_seats 4 = .ok (.invokestatic 106, 3) := by decide +kernel
theorem dX11_seats_7 : decode cX11_seats 7 = .ok (.ifCond .eq 17, 3) := by decide +kernel
theorem dX11_seats_10 : decode cX11_seats 10 = .ok (.iload_n 2, 1) := by decide +kernel
theorem dX11_seats_11 : decode cX11_seats 11 = .ok (.invokestatic 113, 3) := by decide +kernel
theorem dX11_seats_14 : decode cX11_seats 14 = .ok (.ifCond .eq 10, 3) := by decide +kernel
theorem dX11_seats_17 : decode cX11_seats 17 = .ok (.iload_n 3, 1) := by decide +kernel
theorem dX11_seats_18 : decode cX11_seats 18 = .ok (.invokestatic 113, 3) := by decide +kernel
theorem dX11_seats_21 : decode cX11_seats 21 = .ok (.ifCond .ne 5, 3) := by decide +kernel
theorem dX11_seats_24 : decode cX11_seats 24 = .ok (.iconst (-1), 1) := by decide +kernel
theorem dX11_seats_25 : decode cX11_seats 25 = .ok (.ireturn, 1) := by decide +kernel
theorem dX11_seats_26 : decode cX11_seats 26 = .ok (.aload_n 0, 1) := by decide +kernel
theorem dX11_seats_27 : decode cX11_seats 27 = .ok (.getfield 13, 3) := by decide +kernel
theorem dX11_seats_30 : decode cX11_seats 30 = .ok (.iload_n 2, 1) := by decide +kernel
theorem dX11_seats_31 : decode cX11_seats 31 = .ok (.iaload, 1) := by decide +kernel
theorem dX11_seats_32 : decode cX11_seats 32 = .ok (.ifCond .ge 9, 3) := by decide +kernel
theorem dX11_seats_35 : decode cX11_seats 35 = .ok (.aload_n 0, 1) := by decide +kernel
theorem dX11_seats_36 : decode cX11_seats 36 = .ok (.iconst 1, 1) := by decide +kernel
theorem dX11_seats_37 : decode cX11_seats 37 = .ok (.invokevirtual 117, 3) := by decide +kernel
theorem dX11_seats_40 : decode cX11_seats 40 = .ok (.ireturn, 1) := by decide +kernel
theorem dX11_seats_41 : decode cX11_seats 41 = .ok (.aload_n 0, 1) := by decide +kernel
theorem dX11_seats_42 : decode cX11_seats 42 = .ok (.getfield 13, 3) := by decide +kernel
theorem dX11_seats_45 : decode cX11_seats 45 = .ok (.iload_n 2, 1) := by decide +kernel
theorem dX11_seats_46 : decode cX11_seats 46 = .ok (.iaload, 1) := by decide +kernel
theorem dX11_seats_47 : decode cX11_seats 47 = .ok (.iconst 1, 1) := by decide +kernel
theorem dX11_seats_48 : decode cX11_seats 48 = .ok (.bipush 6, 2) := by decide +kernel
theorem dX11_seats_50 : decode cX11_seats 50 = .ok (.invokestatic 106, 3) := by decide +kernel
theorem dX11_seats_53 : decode cX11_seats 53 = .ok (.ifCond .ne 9, 3) := by decide +kernel
theorem dX11_seats_56 : decode cX11_seats 56 = .ok (.aload_n 0, 1) := by decide +kernel
theorem dX11_seats_57 : decode cX11_seats 57 = .ok (.iconst 5, 1) := by decide +kernel
theorem dX11_seats_58 : decode cX11_seats 58 = .ok (.invokevirtual 117, 3) := by decide +kernel
theorem dX11_seats_61 : decode cX11_seats 61 = .ok (.ireturn, 1) := by decide +kernel
theorem dX11_seats_62 : decode cX11_seats 62 = .ok (.aload_n 0, 1) := by decide +kernel
theorem dX11_seats_63 : decode cX11_seats 63 = .ok (.getfield 13, 3) := by decide +kernel
theorem dX11_seats_66 : decode cX11_seats 66 = .ok (.iload_n 2, 1) := by decide +kernel
theorem dX11_seats_67 : decode cX11_seats 67 = .ok (.iaload, 1) := by decide +kernel
theorem dX11_seats_68 : decode cX11_seats 68 = .ok (.istore 4, 2) := by decide +kernel
theorem dX11_seats_70 : decode cX11_seats 70 = .ok (.iconst 1, 1) := by decide +kernel
theorem dX11_seats_71 : decode cX11_seats 71 = .ok (.istore 5, 2) := by decide +kernel
theorem dX11_seats_73 : decode cX11_seats 73 = .ok (.iconst 0, 1) := by decide +kernel
theorem dX11_seats_74 : decode cX11_seats 74 = .ok (.istore 6, 2) := by decide +kernel
theorem dX11_seats_76 : decode cX11_seats 76 = .ok (.iconst 0, 1) := by decide +kernel
theorem dX11_seats_77 : decode cX11_seats 77 = .ok (.istore 7, 2) := by decide +kernel
theorem dX11_seats_79 : decode cX11_seats 79 = .ok (.iload 7, 2) := by decide +kernel
theorem dX11_seats_81 : decode cX11_seats 81 = .ok (.iload 4, 2) := by decide +kernel
theorem dX11_seats_83 : decode cX11_seats 83 = .ok (.if_icmp .ge 80, 3) := by decide +kernel
theorem dX11_seats_86 : decode cX11_seats 86 = .ok (.iload 5, 2) := by decide +kernel
theorem dX11_seats_88 : decode cX11_seats 88 = .ok (.ifCond .eq 23, 3) := by decide +kernel
theorem dX11_seats_91 : decode cX11_seats 91 = .ok (.aload_n 0, 1) := by decide +kernel
theorem dX11_seats_92 : decode cX11_seats 92 = .ok (.iload_n 2, 1) := by decide +kernel
theorem dX11_seats_93 : decode cX11_seats 93 = .ok (.iload 7, 2) := by decide +kernel
theorem dX11_seats_95 : decode cX11_seats 95 = .ok (.invokevirtual 121, 3) := by decide +kernel
theorem dX11_seats_98 : decode cX11_seats 98 = .ok (.iconst 0, 1) := by decide +kernel
theorem dX11_seats_99 : decode cX11_seats 99 = .ok (.bipush 99, 2) := by decide +kernel
theorem dX11_seats_101 : decode cX11_seats 101 = .ok (.invokestatic 106, 3) := by decide +kernel
theorem dX11_seats_104 : decode cX11_seats 104 = .ok (.ifCond .eq 7, 3) := by decide +kernel
theorem dX11_seats_107 : decode cX11_seats 107 = .ok (.iconst 1, 1) := by decide +kernel
theorem dX11_seats_108 : decode cX11_seats 108 = .ok (.goto 4, 3) := by decide +kernel
theorem dX11_seats_111 : decode cX11_seats 111 = .ok (.iconst 0, 1) := by decide +kernel
theorem dX11_seats_112 : decode cX11_seats 112 = .ok (.istore 5, 2) := by decide +kernel
theorem dX11_seats_114 : decode cX11_seats 114 = .ok (.iload 6, 2) := by decide +kernel
theorem dX11_seats_116 : decode cX11_seats 116 = .ok (.iload 5, 2) := by decide +kernel
theorem dX11_seats_118 : decode cX11_seats 118 = .ok (.ifCond .eq 13, 3) := by decide +kernel
theorem dX11_seats_121 : decode cX11_seats 121 = .ok (.aload_n 0, 1) := by decide +kernel
theorem dX11_seats_122 : decode cX11_seats 122 = .ok (.iload_n 2, 1) := by decide +kernel
theorem dX11_seats_123 : decode cX11_seats 123 = .ok (.iload 7, 2) := by decide +kernel
theorem dX11_seats_125 : decode cX11_seats 125 = .ok (.invokevirtual 121, 3) := by decide +kernel
theorem dX11_seats_128 : decode cX11_seats 128 = .ok (.goto 4, 3) := by decide +kernel
theorem dX11_seats_131 : decode cX11_seats 131 = .ok (.iconst 0, 1) := by decide +kernel
theorem dX11_seats_132 : decode cX11_seats 132 = .ok (.iadd, 1) := by decide +kernel
theorem dX11_seats_133 : decode cX11_seats 133 = .ok (.istore 6, 2) := by decide +kernel
theorem dX11_seats_135 : decode cX11_seats 135 = .ok (.aload_n 0, 1) := by decide +kernel
theorem dX11_seats_136 : decode cX11_seats 136 = .ok (.getfield 96, 3) := by decide +kernel
theorem dX11_seats_139 : decode cX11_seats 139 = .ok (.iload 7, 2) := by decide +kernel
theorem dX11_seats_141 : decode cX11_seats 141 = .ok (.iconst 0, 1) := by decide +kernel
theorem dX11_seats_142 : decode cX11_seats 142 = .ok (.iastore, 1) := by decide +kernel
theorem dX11_seats_143 : decode cX11_seats 143 = .ok (.aload_n 0, 1) := by decide +kernel
theorem dX11_seats_144 : decode cX11_seats 144 = .ok (.getfield 99, 3) := by decide +kernel
theorem dX11_seats_147 : decode cX11_seats 147 = .ok (.iload 7, 2) := by decide +kernel
theorem dX11_seats_149 : decode cX11_seats 149 = .ok (.aload_n 0, 1) := by decide +kernel
theorem dX11_seats_150 : decode cX11_seats 150 = .ok (.iload_n 2, 1) := by decide +kernel
theorem dX11_seats_151 : decode cX11_seats 151 = .ok (.iload 7, 2) := by decide +kernel
theorem dX11_seats_153 : decode cX11_seats 153 = .ok (.invokevirtual 121, 3) := by decide +kernel
theorem dX11_seats_156 : decode cX11_seats 156 = .ok (.iastore, 1) := by decide +kernel
theorem dX11_seats_157 : decode cX11_seats 157 = .ok (.iinc 7 1, 3) := by decide +kernel
theorem dX11_seats_160 : decode cX11_seats 160 = .ok (.goto (-81), 3) := by decide +kernel
theorem dX11_seats_163 : decode cX11_seats 163 = .ok (.iload 5, 2) := by decide +kernel
theorem dX11_seats_165 : decode cX11_seats 165 = .ok (.ifCond .ne 9, 3) := by decide +kernel
theorem dX11_seats_168 : decode cX11_seats 168 = .ok (.aload_n 0, 1) := by decide +kernel
theorem dX11_seats_169 : decode cX11_seats 169 = .ok (.iconst 3, 1) := by decide +kernel
