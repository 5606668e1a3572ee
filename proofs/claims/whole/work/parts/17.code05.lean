theorem dX10_pours_50 : decode cX10_pours 50 = .ok (.bipush 60, 2) := by decide +kernel
theorem dX10_pours_52 : decode cX10_pours 52 = .ok (.if_icmp .le 8, 3) := by decide +kernel
theorem dX10_pours_55 : decode cX10_pours 55 = .ok (.bipush (-6), 2) := by decide +kernel
theorem dX10_pours_57 : decode cX10_pours 57 = .ok (.goto 16, 3) := by decide +kernel
theorem dX10_pours_60 : decode cX10_pours 60 = .ok (.aload_n 0, 1) := by decide +kernel
theorem dX10_pours_61 : decode cX10_pours 61 = .ok (.iload 6, 2) := by decide +kernel
theorem dX10_pours_63 : decode cX10_pours 63 = .ok (.aload 4, 2) := by decide +kernel
theorem dX10_pours_65 : decode cX10_pours 65 = .ok (.iload 5, 2) := by decide +kernel
theorem dX10_pours_67 : decode cX10_pours 67 = .ok (.invokevirtual 283, 3) := by decide +kernel
theorem dX10_pours_70 : decode cX10_pours 70 = .ok (.invokevirtual 101, 3) := by decide +kernel
theorem dX10_pours_73 : decode cX10_pours 73 = .ok (.ireturn, 1) := by decide +kernel
theorem dX10_way_0 : decode cX10_way 0 = .ok (.iload_n 3, 1) := by decide +kernel
theorem dX10_way_1 : decode cX10_way 1 = .ok (.iconst 0, 1) := by decide +kernel
theorem dX10_way_2 : decode cX10_way 2 = .ok (.iconst 5, 1) := by decide +kernel
theorem dX10_way_3 : decode cX10_way 3 = .ok (.invokestatic 86, 3) := by decide +kernel
theorem dX10_way_6 : decode cX10_way 6 = .ok (.ifCond .eq 12, 3) := by decide +kernel
theorem dX10_way_9 : decode cX10_way 9 = .ok (.aload_n 0, 1) := by decide +kernel
theorem dX10_way_10 : decode cX10_way 10 = .ok (.iload_n 1, 1) := by decide +kernel
theorem dX10_way_11 : decode cX10_way 11 = .ok (.iload_n 2, 1) := by decide +kernel
theorem dX10_way_12 : decode cX10_way 12 = .ok (.invokevirtual 268, 3) := by decide +kernel
theorem dX10_way_15 : decode cX10_way 15 = .ok (.goto 4, 3) := by decide +kernel
theorem dX10_way_18 : decode cX10_way 18 = .ok (.iconst (-1), 1) := by decide +kernel
theorem dX10_way_19 : decode cX10_way 19 = .ok (.istore 4, 2) := by decide +kernel
theorem dX10_way_21 : decode cX10_way 21 = .ok (.iload 4, 2) := by decide +kernel
theorem dX10_way_23 : decode cX10_way 23 = .ok (.ifCond .eq 6, 3) := by decide +kernel
theorem dX10_way_26 : decode cX10_way 26 = .ok (.iload 4, 2) := by decide +kernel
theorem dX10_way_28 : decode cX10_way 28 = .ok (.ireturn, 1) := by decide +kernel
theorem dX10_way_29 : decode cX10_way 29 = .ok (.aload_n 0, 1) := by decide +kernel
theorem dX10_way_30 : decode cX10_way 30 = .ok (.iload_n 1, 1) := by decide +kernel
theorem dX10_way_31 : decode cX10_way 31 = .ok (.invokevirtual 271, 3) := by decide +kernel
theorem dX10_way_34 : decode cX10_way 34 = .ok (.astore 5, 2) := by decide +kernel
theorem dX10_way_36 : decode cX10_way 36 = .ok (.aload 5, 2) := by decide +kernel
theorem dX10_way_38 : decode cX10_way 38 = .ok (.iload_n 1, 1) := by decide +kernel
theorem dX10_way_39 : decode cX10_way 39 = .ok (.iload_n 2, 1) := by decide +kernel
theorem dX10_way_40 : decode cX10_way 40 = .ok (.invokevirtual 275, 3) := by decide +kernel
theorem dX10_way_43 : decode cX10_way 43 = .ok (.istore 6, 2) := by decide +kernel
theorem dX10_way_45 : decode cX10_way 45 = .ok (.iload 6, 2) := by decide +kernel
theorem dX10_way_47 : decode cX10_way 47 = .ok (.bipush (-9), 2) := by decide +kernel
theorem dX10_way_49 : decode cX10_way 49 = .ok (.if_icmp .ne 6, 3) := by decide +kernel
theorem dX10_way_52 : decode cX10_way 52 = .ok (.bipush (-9), 2) := by decide +kernel
theorem dX10_way_54 : decode cX10_way 54 = .ok (.ireturn, 1) := by decide +kernel
theorem dX10_way_55 : decode cX10_way 55 = .ok (.aload 5, 2) := by decide +kernel
theorem dX10_way_57 : decode cX10_way 57 = .ok (.iload 6, 2) := by decide +kernel
theorem dX10_way_59 : decode cX10_way 59 = .ok (.invokevirtual 280, 3) := by decide +kernel
theorem dX10_way_62 : decode cX10_way 62 = .ok (.istore 7, 2) := by decide +kernel
theorem dX10_way_64 : decode cX10_way 64 = .ok (.iload 7, 2) := by decide +kernel
theorem dX10_way_66 : decode cX10_way 66 = .ok (.bipush 60, 2) := by decide +kernel
theorem dX10_way_68 : decode cX10_way 68 = .ok (.if_icmp .le 6, 3) := by decide +kernel
theorem dX10_way_71 : decode cX10_way 71 = .ok (.bipush (-6), 2) := by decide +kernel
theorem dX10_way_73 : decode cX10_way 73 = .ok (.ireturn, 1) := by decide +kernel
theorem dX10_way_74 : decode cX10_way 74 = .ok (.aload 5, 2) := by decide +kernel
theorem dX10_way_76 : decode cX10_way 76 = .ok (.iload 6, 2) := by decide +kernel
theorem dX10_way_78 : decode cX10_way 78 = .ok (.iload 7, 2) := by decide +kernel
theorem dX10_way_80 : decode cX10_way 80 = .ok (.aload_n 0, 1) := by decide +kernel
theorem dX10_way_81 : decode cX10_way 81 = .ok (.getfield 11, 3) := by decide +kernel
theorem dX10_way_84 : decode cX10_way 84 = .ok (.iload_n 3, 1) := by decide +kernel
theorem dX10_way_85 : decode cX10_way 85 = .ok (.aaload, 1) := by decide +kernel
theorem dX10_way_86 : decode cX10_way 86 = .ok (.invokevirtual 286, 3) := by decide +kernel
theorem dX10_way_89 : decode cX10_way 89 = .ok (.iload 7, 2) := by decide +kernel
theorem dX10_way_91 : decode cX10_way 91 = .ok (.ireturn, 1) := by decide +kernel
theorem dX10_loss_0 : decode cX10_loss 0 = .ok (.aload_n 0, 1) := by decide +kernel
theorem dX10_loss_1 : decode cX10_loss 1 = .ok (.iload_n 1, 1) := by decide +kernel
theorem dX10_loss_2 : decode cX10_loss 2 = .ok (.iload_n 2, 1) := by decide +kernel
theorem dX10_loss_3 : decode cX10_loss 3 = .ok (.invokevirtual 268, 3) := by decide +kernel
theorem dX10_loss_6 : decode cX10_loss 6 = .ok (.istore_n 3, 1) := by decide +kernel
theorem dX10_loss_7 : decode cX10_loss 7 = .ok (.iload_n 3, 1) := by decide +kernel
theorem dX10_loss_8 : decode cX10_loss 8 = .ok (.ifCond .eq 7, 3) := by decide +kernel
theorem dX10_loss_11 : decode cX10_loss 11 = .ok (.iload_n 3, 1) := by decide +kernel
theorem dX10_loss_12 : decode cX10_loss 12 = .ok (.goto 13, 3) := by decide +kernel
theorem dX10_loss_15 : decode cX10_loss 15 = .ok (.aload_n 0, 1) := by decide +kernel
theorem dX10_loss_16 : decode cX10_loss 16 = .ok (.iload_n 1, 1) := by decide +kernel
theorem dX10_loss_17 : decode cX10_loss 17 = .ok (.invokevirtual 271, 3) := by decide +kernel
theorem dX10_loss_20 : decode cX10_loss 20 = .ok (.iload_n 1, 1) := by decide +kernel
theorem dX10_loss_21 : decode cX10_loss 21 = .ok (.iload_n 2, 1) := by decide +kernel
theorem dX10_loss_22 : decode cX10_loss 22 = .ok (.invokevirtual 290, 3) := by decide +kernel
theorem dX10_loss_25 : decode cX10_loss 25 = .ok (.ireturn, 1) := by decide +kernel
theorem dX10_most_0 : decode cX10_most 0 = .ok (.aload_n 0, 1) := by decide +kernel
theorem dX10_most_1 : decode cX10_most 1 = .ok (.iload_n 1, 1) := by decide +kernel
theorem dX10_most_2 : decode cX10_most 2 = .ok (.iconst 0, 1) := by decide +kernel
theorem dX10_most_3 : decode cX10_most 3 = .ok (.invokevirtual 268, 3) := by decide +kernel
theorem dX10_most_6 : decode cX10_most 6 = .ok (.istore_n 2, 1) := by decide +kernel
theorem dX10_most_7 : decode cX10_most 7 = .ok (.iload_n 2, 1) := by decide +kernel
theorem dX10_most_8 : decode cX10_most 8 = .ok (.ifCond .eq 5, 3) := by decide +kernel
theorem dX10_most_11 : decode cX10_most 11 = .ok (.iload_n 2, 1) := by decide +kernel
theorem dX10_most_12 : decode cX10_most 12 = .ok (.ireturn, 1) := by decide +kernel
theorem dX10_most_13 : decode cX10_most 13 = .ok (.aload_n 0, 1) := by decide +kernel
theorem dX10_most_14 : decode cX10_most 14 = .ok (.iload_n 1, 1) := by decide +kernel
theorem dX10_most_15 : decode cX10_most 15 = .ok (.invokevirtual 271, 3) := by decide +kernel
theorem dX10_most_18 : decode cX10_most 18 = .ok (.astore_n 3, 1) := by decide +kernel
theorem dX10_most_19 : decode cX10_most 19 = .ok (.aload_n 0, 1) := by decide +kernel
theorem dX10_most_20 : decode cX10_most 20 = .ok (.aload_n 3, 1) := by decide +kernel
theorem dX10_most_21 : decode cX10_most 21 = .ok (.iload_n 1, 1) := by decide +kernel
theorem dX10_most_22 : decode cX10_most 22 = .ok (.invokevirtual 293, 3) := by decide +kernel
theorem dX10_most_25 : decode cX10_most 25 = .ok (.aload_n 3, 1) := by decide +kernel
theorem dX10_most_26 : decode cX10_most 26 = .ok (.getfield 296, 3) := by decide +kernel
theorem dX10_most_29 : decode cX10_most 29 = .ok (.invokevirtual 101, 3) := by decide +kernel
theorem dX10_most_32 : decode cX10_most 32 = .ok (.ireturn, 1) := by decide +kernel
theorem dX10_burnt_0 : decode cX10_burnt 0 = .ok (.iload_n 1, 1) := by decide +kernel
theorem dX10_burnt_1 : decode cX10_burnt 1 = .ok (.iconst 1, 1) := by decide +kernel
theorem dX10_burnt_2 : decode cX10_burnt 2 = .ok (.iconst 1, 1) := by decide +kernel
theorem dX10_burnt_3 : decode cX10_burnt 3 = .ok (.aload_n 0, 1) := by decide +kernel
theorem dX10_burnt_4 : decode cX10_burnt 4 = .ok (.getfield 72, 3) := by decide +kernel
theorem dX10_burnt_7 : decode cX10_burnt 7 = .ok (.getfield 144, 3) := by decide +kernel
theorem dX10_burnt_10 : decode cX10_burnt 10 = .ok (.ishl, 1) := by decide +kernel
theorem dX10_burnt_11 : decode cX10_burnt 11 = .ok (.iconst 1, 1) := by decide +kernel
theorem dX10_burnt_12 : decode cX10_burnt 12 = .ok (.isub, 1) := by decide +kernel
theorem dX10_burnt_13 : decode cX10_burnt 13 = .ok (.invokestatic 86, 3) := by decide +kernel
theorem dX10_burnt_16 : decode cX10_burnt 16 = .ok (.ifCond .eq 13, 3) := by decide +kernel
theorem dX10_burnt_19 : decode cX10_burnt 19 = .ok (.iload_n 2, 1) := by decide +kernel
theorem dX10_burnt_20 : decode cX10_burnt 20 = .ok (.iconst 0, 1) := by decide +kernel
theorem dX10_burnt_21 : decode cX10_burnt 21 = .ok (.bipush 120, 2) := by decide +kernel
theorem dX10_burnt_23 : decode cX10_burnt 23 = .ok (.invokestatic 86, 3) := by decide +kernel
theorem dX10_burnt_26 : decode cX10_burnt 26 = .ok (.ifCond .ne 5, 3) := by decide +kernel
theorem dX10_burnt_29 : decode cX10_burnt 29 = .ok (.iconst (-1), 1) := by decide +kernel
theorem dX10_burnt_30 : decode cX10_burnt 30 = .ok (.ireturn, 1) := by decide +kernel
theorem dX10_burnt_31 : decode cX10_burnt 31 = .ok (.aload_n 0, 1) := by decide +kernel
theorem dX10_burnt_32 : decode cX10_burnt 32 = .ok (.getfield 55, 3) := by decide +kernel
theorem dX10_burnt_35 : decode cX10_burnt 35 = .ok (.getfield 143, 3) := by decide +kernel
theorem dX10_burnt_38 : decode cX10_burnt 38 = .ok (.bipush 8, 2) := by decide +kernel
theorem dX10_burnt_40 : decode cX10_burnt 40 = .ok (.if_icmp .ne 6, 3) := by decide +kernel
theorem dX10_burnt_43 : decode cX10_burnt 43 = .ok (.bipush (-2), 2) := by decide +kernel
theorem dX10_burnt_45 : decode cX10_burnt 45 = .ok (.ireturn, 1) := by decide +kernel
theorem dX10_burnt_46 : decode cX10_burnt 46 = .ok (.aload_n 0, 1) := by decide +kernel
theorem dX10_burnt_47 : decode cX10_burnt 47 = .ok (.getfield 55, 3) := by decide +kernel
theorem dX10_burnt_50 : decode cX10_burnt 50 = .ok (.iload_n 1, 1) := by decide +kernel
theorem dX10_burnt_51 : decode cX10_burnt 51 = .ok (.iload_n 2, 1) := by decide +kernel
theorem dX10_burnt_52 : decode cX10_burnt 52 = .ok (.invokevirtual 297, 3) := by decide +kernel
theorem dX10_burnt_55 : decode cX10_burnt 55 = .ok (.ireturn, 1) := by decide +kernel
theorem dX10_forget_0 : decode cX10_forget 0 = .ok (.iload_n 1, 1) := by decide +kernel
theorem dX10_forget_1 : decode cX10_forget 1 = .ok (.iconst 0, 1) := by decide +kernel
theorem dX10_forget_2 : decode cX10_forget 2 = .ok (.aload_n 0, 1) := by decide +kernel
theorem dX10_forget_3 : decode cX10_forget 3 = .ok (.getfield 55, 3) := by decide +kernel
theorem dX10_forget_6 : decode cX10_forget 6 = .ok (.getfield 143, 3) := by decide +kernel
theorem dX10_forget_9 : decode cX10_forget 9 = .ok (.invokestatic 86, 3) := by decide +kernel
theorem dX10_forget_12 : decode cX10_forget 12 = .ok (.ifCond .ne 5, 3) := by decide +kernel
theorem dX10_forget_15 : decode cX10_forget 15 = .ok (.iconst (-1), 1) := by decide +kernel
theorem dX10_forget_16 : decode cX10_forget 16 = .ok (.ireturn, 1) := by decide +kernel
theorem dX10_forget_17 : decode cX10_forget 17 = .ok (.aload_n 0, 1) := by decide +kernel
theorem dX10_forget_18 : decode cX10_forget 18 = .ok (.getfield 55, 3) := by decide +kernel
theorem dX10_forget_21 : decode cX10_forget 21 = .ok (.getfield 143, 3) := by decide +kernel
theorem dX10_forget_24 : decode cX10_forget 24 = .ok (.iload_n 1, 1) := by decide +kernel
theorem dX10_forget_25 : decode cX10_forget 25 = .ok (.isub, 1) := by decide +kernel
theorem dX10_forget_26 : decode cX10_forget 26 = .ok (.istore_n 2, 1) := by decide +kernel
theorem dX10_forget_27 : decode cX10_forget 27 = .ok (.aload_n 0, 1) := by decide +kernel
theorem dX10_forget_28 : decode cX10_forget 28 = .ok (.getfield 55, 3) := by decide +kernel
theorem dX10_forget_31 : decode cX10_forget 31 = .ok (.iload_n 1, 1) := by decide +kernel
theorem dX10_forget_32 : decode cX10_forget 32 = .ok (.putfield 143, 3) := by decide +kernel
theorem dX10_forget_35 : decode cX10_forget 35 = .ok (.iload_n 2, 1) := by decide +kernel
theorem dX10_forget_36 : decode cX10_forget 36 = .ok (.ireturn, 1) := by decide +kernel
theorem dX10_mixed_0 : decode cX10_mixed 0 = .ok (.aload_n 0, 1) := by decide +kernel
theorem dX10_mixed_1 : decode cX10_mixed 1 = .ok (.getfield 72, 3) := by decide +kernel
theorem dX10_mixed_4 : decode cX10_mixed 4 = .ok (.getfield 144, 3) := by decide +kernel
theorem dX10_mixed_7 : decode cX10_mixed 7 = .ok (.ifCond .ne 6, 3) := by decide +kernel
theorem dX10_mixed_10 : decode cX10_mixed 10 = .ok (.bipush (-4), 2) := by decide +kernel
theorem dX10_mixed_12 : decode cX10_mixed 12 = .ok (.ireturn, 1) := by decide +kernel
theorem dX10_mixed_13 : decode cX10_mixed 13 = .ok (.aload_n 0, 1) := by decide +kernel
theorem dX10_mixed_14 : decode cX10_mixed 14 = .ok (.getfield 55, 3) := by decide +kernel
theorem dX10_mixed_17 : decode cX10_mixed 17 = .ok (.aload_n 0, 1) := by decide +kernel
theorem dX10_mixed_18 : decode cX10_mixed 18 = .ok (.getfield 72, 3) := by decide +kernel
theorem dX10_mixed_21 : decode cX10_mixed 21 = .ok (.invokevirtual 300, 3) := by decide +kernel
theorem dX10_mixed_24 : decode cX10_mixed 24 = .ok (.istore_n 1, 1) := by decide +kernel
theorem dX10_mixed_25 : decode cX10_mixed 25 = .ok (.iload_n 1, 1) := by decide +kernel
theorem dX10_mixed_26 : decode cX10_mixed 26 = .ok (.ifCond .ne 8, 3) := by decide +kernel
theorem dX10_mixed_29 : decode cX10_mixed 29 = .ok (.bipush (-9), 2) := by decide +kernel
theorem dX10_mixed_31 : decode cX10_mixed 31 = .ok (.goto 17, 3) := by decide +kernel
theorem dX10_mixed_34 : decode cX10_mixed 34 = .ok (.aload_n 0, 1) := by decide +kernel
theorem dX10_mixed_35 : decode cX10_mixed 35 = .ok (.iload_n 1, 1) := by decide +kernel
theorem dX10_mixed_36 : decode cX10_mixed 36 = .ok (.aload_n 0, 1) := by decide +kernel
theorem dX10_mixed_37 : decode cX10_mixed 37 = .ok (.getfield 55, 3) := by decide +kernel
theorem dX10_mixed_40 : decode cX10_mixed 40 = .ok (.getfield 304, 3) := by decide +kernel
theorem dX10_mixed_43 : decode cX10_mixed 43 = .ok (.iconst 0, 1) := by decide +kernel
theorem dX10_mixed_44 : decode cX10_mixed 44 = .ok (.iaload, 1) := by decide +kernel
theorem dX10_mixed_45 : decode cX10_mixed 45 = .ok (.invokevirtual 101, 3) := by decide +kernel
theorem dX10_mixed_48 : decode cX10_mixed 48 = .ok (.ireturn, 1) := by decide +kernel
theorem dX10_sure_0 : decode cX10_sure 0 = .ok (.aload_n 0, 1) := by decide +kernel
theorem dX10_sure_1 : decode cX10_sure 1 = .ok (.getfield 72, 3) := by decide +kernel
theorem dX10_sure_4 : decode cX10_sure 4 = .ok (.getfield 144, 3) := by decide +kernel
theorem dX10_sure_7 : decode cX10_sure 7 = .ok (.ifCond .ne 6, 3) := by decide +kernel
theorem dX10_sure_10 : decode cX10_sure 10 = .ok (.bipush (-4), 2) := by decide +kernel
theorem dX10_sure_12 : decode cX10_sure 12 = .ok (.ireturn, 1) := by decide +kernel
theorem dX10_sure_13 : decode cX10_sure 13 = .ok (.aload_n 0, 1) := by decide +kernel
theorem dX10_sure_14 : decode cX10_sure 14 = .ok (.getfield 55, 3) := by decide +kernel
theorem dX10_sure_17 : decode cX10_sure 17 = .ok (.aload_n 0, 1) := by decide +kernel
theorem dX10_sure_18 : decode cX10_sure 18 = .ok (.getfield 72, 3) := by decide +kernel
theorem dX10_sure_21 : decode cX10_sure 21 = .ok (.invokevirtual 300, 3) := by decide +kernel
theorem dX10_sure_24 : decode cX10_sure 24 = .ok (.ifCond .ne 9, 3) := by decide +kernel
theorem dX10_sure_27 : decode cX10_sure 27 = .ok (.aload_n 0, 1) := by decide +kernel
theorem dX10_sure_28 : decode cX10_sure 28 = .ok (.iconst 4, 1) := by decide +kernel
theorem dX10_sure_29 : decode cX10_sure 29 = .ok (.invokevirtual 113, 3) := by decide +kernel
theorem dX10_sure_32 : decode cX10_sure 32 = .ok (.ireturn, 1) := by decide +kernel
theorem dX10_sure_33 : decode cX10_sure 33 = .ok (.aload_n 0, 1) := by decide +kernel
theorem dX10_sure_34 : decode cX10_sure 34 = .ok (.aload_n 0, 1) := by decide +kernel
theorem dX10_sure_35 : decode cX10_sure 35 = .ok (.getfield 55, 3) := by decide +kernel
theorem dX10_sure_38 : decode cX10_sure 38 = .ok (.invokevirtual 307, 3) := by decide +kernel
theorem dX10_sure_41 : decode cX10_sure 41 = .ok (.iconst 1, 1) := by decide +kernel
theorem dX10_sure_42 : decode cX10_sure 42 = .ok (.aload_n 0, 1) := by decide +kernel
theorem dX10_sure_43 : decode cX10_sure 43 = .ok (.getfield 72, 3) := by decide +kernel
theorem dX10_sure_46 : decode cX10_sure 46 = .ok (.getfield 144, 3) := by decide +kernel
theorem dX10_sure_49 : decode cX10_sure 49 = .ok (.ishl, 1) := by decide +kernel
theorem dX10_sure_50 : decode cX10_sure 50 = .ok (.iconst 1, 1) := by decide +kernel
theorem dX10_sure_51 : decode cX10_sure 51 = .ok (.isub, 1) := by decide +kernel
theorem dX10_sure_52 : decode cX10_sure 52 = .ok (.aload_n 0, 1) := by decide +kernel
theorem dX10_sure_53 : decode cX10_sure 53 = .ok (.getfield 55, 3) := by decide +kernel
theorem dX10_sure_56 : decode cX10_sure 56 = .ok (.invokevirtual 310, 3) := by decide +kernel
theorem dX10_sure_59 : decode cX10_sure 59 = .ok (.isub, 1) := by decide +kernel
theorem dX10_sure_60 : decode cX10_sure 60 = .ok (.invokevirtual 101, 3) := by decide +kernel
theorem dX10_sure_63 : decode cX10_sure 63 = .ok (.ireturn, 1) := by decide +kernel
theorem dX10_test_0 : decode cX10_test 0 = .ok (.aload_n 0, 1) := by decide +kernel
theorem dX10_test_1 : decode cX10_test 1 = .ok (.getfield 72, 3) := by decide +kernel
theorem dX10_test_4 : decode cX10_test 4 = .ok (.getfield 144, 3) := by decide +kernel
theorem dX10_test_7 : decode cX10_test 7 = .ok (.ifCond .ne 6, 3) := by decide +kernel
theorem dX10_test_10 : decode cX10_test 10 = .ok (.bipush (-4), 2) := by decide +kernel
theorem dX10_test_12 : decode cX10_test 12 = .ok (.ireturn, 1) := by decide +kernel
theorem dX10_test_13 : decode cX10_test 13 = .ok (.aload_n 0, 1) := by decide +kernel
theorem dX10_test_14 : decode cX10_test 14 = .ok (.getfield 55, 3) := by decide +kernel
theorem dX10_test_17 : decode cX10_test 17 = .ok (.aload_n 0, 1) := by decide +kernel
theorem dX10_test_18 : decode cX10_test 18 = .ok (.getfield 72, 3) := by decide +kernel
theorem dX10_test_21 : decode cX10_test 21 = .ok (.invokevirtual 300, 3) := by decide +kernel
theorem dX10_test_24 : decode cX10_test 24 = .ok (.ifCond .ne 9, 3) := by decide +kernel
theorem dX10_test_27 : decode cX10_test 27 = .ok (.aload_n 0, 1) := by decide +kernel
theorem dX10_test_28 : decode cX10_test 28 = .ok (.iconst 4, 1) := by decide +kernel
theorem dX10_test_29 : decode cX10_test 29 = .ok (.invokevirtual 113, 3) := by decide +kernel
theorem dX10_test_32 : decode cX10_test 32 = .ok (.ireturn, 1) := by decide +kernel
theorem dX10_test_33 : decode cX10_test 33 = .ok (.aload_n 0, 1) := by decide +kernel
theorem dX10_test_34 : decode cX10_test 34 = .ok (.getfield 55, 3) := by decide +kernel
theorem dX10_test_37 : decode cX10_test 37 = .ok (.aload_n 0, 1) := by decide +kernel
theorem dX10_test_38 : decode cX10_test 38 = .ok (.getfield 72, 3) := by decide +kernel
theorem dX10_test_41 : decode cX10_test 41 = .ok (.invokevirtual 313, 3) := by decide +kernel
theorem dX10_test_44 : decode cX10_test 44 = .ok (.istore_n 1, 1) := by decide +kernel
theorem dX10_test_45 : decode cX10_test 45 = .ok (.aload_n 0, 1) := by decide +kernel
theorem dX10_test_46 : decode cX10_test 46 = .ok (.iload_n 1, 1) := by decide +kernel
theorem dX10_test_47 : decode cX10_test 47 = .ok (.aload_n 0, 1) := by decide +kernel
theorem dX10_test_48 : decode cX10_test 48 = .ok (.getfield 55, 3) := by decide +kernel
theorem dX10_test_51 : decode cX10_test 51 = .ok (.iload_n 1, 1) := by decide +kernel
theorem dX10_test_52 : decode cX10_test 52 = .ok (.aload_n 0, 1) := by decide +kernel
theorem dX10_test_53 : decode cX10_test 53 = .ok (.getfield 72, 3) := by decide +kernel
theorem dX10_test_56 : decode cX10_test 56 = .ok (.invokevirtual 316, 3) := by decide +kernel
theorem dX10_test_59 : decode cX10_test 59 = .ok (.invokevirtual 101, 3) := by decide +kernel
theorem dX10_test_62 : decode cX10_test 62 = .ok (.ireturn, 1) := by decide +kernel
theorem dX10_theft_0 : decode cX10_theft 0 = .ok (.iload_n 2, 1) := by decide +kernel
theorem dX10_theft_1 : decode cX10_theft 1 = .ok (.iconst 0, 1) := by decide +kernel
theorem dX10_theft_2 : decode cX10_theft 2 = .ok (.iconst 5, 1) := by decide +kernel
theorem dX10_theft_3 : decode cX10_theft 3 = .ok (.invokestatic 86, 3) := by decide +kernel
theorem dX10_theft_6 : decode cX10_theft 6 = .ok (.ifCond .eq 15, 3) := by decide +kernel
theorem dX10_theft_9 : decode cX10_theft 9 = .ok (.aload_n 0, 1) := by decide +kernel
theorem dX10_theft_10 : decode cX10_theft 10 = .ok (.aload_n 0, 1) := by decide +kernel
theorem dX10_theft_11 : decode cX10_theft 11 = .ok (.getfield 11, 3) := by decide +kernel
theorem dX10_theft_14 : decode cX10_theft 14 = .ok (.iload_n 1, 1) := by decide +kernel
theorem dX10_theft_15 : decode cX10_theft 15 = .ok (.invokevirtual 105, 3) := by decide +kernel
theorem dX10_theft_18 : decode cX10_theft 18 = .ok (.goto 4, 3) := by decide +kernel
theorem dX10_theft_21 : decode cX10_theft 21 = .ok (.iconst (-1), 1) := by decide +kernel
theorem dX10_theft_22 : decode cX10_theft 22 = .ok (.istore_n 3, 1) := by decide +kernel
theorem dX10_theft_23 : decode cX10_theft 23 = .ok (.iload_n 3, 1) := by decide +kernel
theorem dX10_theft_24 : decode cX10_theft 24 = .ok (.ifCond .eq 5, 3) := by decide +kernel
theorem dX10_theft_27 : decode cX10_theft 27 = .ok (.iload_n 3, 1) := by decide +kernel
theorem dX10_theft_28 : decode cX10_theft 28 = .ok (.ireturn, 1) := by decide +kernel
theorem dX10_theft_29 : decode cX10_theft 29 = .ok (.aload_n 0, 1) := by decide +kernel
theorem dX10_theft_30 : decode cX10_theft 30 = .ok (.getfield 11, 3) := by decide +kernel
theorem dX10_theft_33 : decode cX10_theft 33 = .ok (.iload_n 1, 1) := by decide +kernel
theorem dX10_theft_34 : decode cX10_theft 34 = .ok (.aaload, 1) := by decide +kernel
theorem dX10_theft_35 : decode cX10_theft 35 = .ok (.astore 4, 2) := by decide +kernel
theorem dX10_theft_37 : decode cX10_theft 37 = .ok (.aload 4, 2) := by decide +kernel
theorem dX10_theft_39 : decode cX10_theft 39 = .ok (.getfield 109, 3) := by decide +kernel
theorem dX10_theft_42 : decode cX10_theft 42 = .ok (.iconst 2, 1) := by decide +kernel
theorem dX10_theft_43 : decode cX10_theft 43 = .ok (.if_icmp .ge 9, 3) := by decide +kernel
theorem dX10_theft_46 : decode cX10_theft 46 = .ok (.aload_n 0, 1) := by decide +kernel
theorem dX10_theft_47 : decode cX10_theft 47 = .ok (.iconst 5, 1) := by decide +kernel
theorem dX10_theft_48 : decode cX10_theft 48 = .ok (.invokevirtual 113, 3) := by decide +kernel
theorem dX10_theft_51 : decode cX10_theft 51 = .ok (.ireturn, 1) := by decide +kernel
theorem dX10_theft_52 : decode cX10_theft 52 = .ok (.aload 4, 2) := by decide +kernel
theorem dX10_theft_54 : decode cX10_theft 54 = .ok (.iconst 0, 1) := by decide +kernel
theorem dX10_theft_55 : decode cX10_theft 55 = .ok (.bipush 20, 2) := by decide +kernel
theorem dX10_theft_57 : decode cX10_theft 57 = .ok (.invokevirtual 320, 3) := by decide +kernel
theorem dX10_theft_60 : decode cX10_theft 60 = .ok (.ifCond .ne 9, 3) := by decide +kernel
theorem dX10_theft_63 : decode cX10_theft 63 = .ok (.aload_n 0, 1) := by decide +kernel
theorem dX10_theft_64 : decode cX10_theft 64 = .ok (.iconst 3, 1) := by decide +kernel
theorem dX10_theft_65 : decode cX10_theft 65 = .ok (.invokevirtual 113, 3) := by decide +kernel
theorem dX10_theft_68 : decode cX10_theft 68 = .ok (.ireturn, 1) := by decide +kernel
theorem dX10_theft_69 : decode cX10_theft 69 = .ok (.iconst 1, 1) := by decide +kernel
theorem dX10_theft_70 : decode cX10_theft 70 = .ok (.istore 5, 2) := by decide +kernel
theorem dX10_theft_72 : decode cX10_theft 72 = .ok (.iload 5, 2) := by decide +kernel
theorem dX10_theft_74 : decode cX10_theft 74 = .ok (.aload 4, 2) := by decide +kernel
theorem dX10_theft_76 : decode cX10_theft 76 = .ok (.getfield 109, 3) := by decide +kernel
theorem dX10_theft_79 : decode cX10_theft 79 = .ok (.if_icmp .ge 64, 3) := by decide +kernel
theorem dX10_theft_82 : decode cX10_theft 82 = .ok (.aload 4, 2) := by decide +kernel
theorem dX10_theft_84 : decode cX10_theft 84 = .ok (.getfield 98, 3) := by decide +kernel
theorem dX10_theft_87 : decode cX10_theft 87 = .ok (.iload 5, 2) := by decide +kernel
theorem dX10_theft_89 : decode cX10_theft 89 = .ok (.iconst 1, 1) := by decide +kernel
theorem dX10_theft_90 : decode cX10_theft 90 = .ok (.isub, 1) := by decide +kernel
theorem dX10_theft_91 : decode cX10_theft 91 = .ok (.iaload, 1) := by decide +kernel
theorem dX10_theft_92 : decode cX10_theft 92 = .ok (.istore 6, 2) := by decide +kernel
theorem dX10_theft_94 : decode cX10_theft 94 = .ok (.iload 6, 2) := by decide +kernel
theorem dX10_theft_96 : decode cX10_theft 96 = .ok (.iload_n 2, 1) := by decide +kernel
theorem dX10_theft_97 : decode cX10_theft 97 = .ok (.iload 6, 2) := by decide +kernel
theorem dX10_theft_99 : decode cX10_theft 99 = .ok (.iconst 0, 1) := by decide +kernel
theorem dX10_theft_100 : decode cX10_theft 100 = .ok (.invokestatic 165, 3) := by decide +kernel
theorem dX10_theft_103 : decode cX10_theft 103 = .ok (.isub, 1) := by decide +kernel
theorem dX10_theft_104 : decode cX10_theft 104 = .ok (.istore 7, 2) := by decide +kernel
theorem dX10_theft_106 : decode cX10_theft 106 = .ok (.aload 4, 2) := by decide +kernel
theorem dX10_theft_108 : decode cX10_theft 108 = .ok (.getfield 98, 3) := by decide +kernel
theorem dX10_theft_111 : decode cX10_theft 111 = .ok (.iload 5, 2) := by decide +kernel
theorem dX10_theft_113 : decode cX10_theft 113 = .ok (.iaload, 1) := by decide +kernel
theorem dX10_theft_114 : decode cX10_theft 114 = .ok (.iload 7, 2) := by decide +kernel
theorem dX10_theft_116 : decode cX10_theft 116 = .ok (.if_icmp .ge 21, 3) := by decide +kernel
theorem dX10_theft_119 : decode cX10_theft 119 = .ok (.aload_n 0, 1) := by decide +kernel
theorem dX10_theft_120 : decode cX10_theft 120 = .ok (.iload 5, 2) := by decide +kernel
theorem dX10_theft_122 : decode cX10_theft 122 = .ok (.iload 7, 2) := by decide +kernel
theorem dX10_theft_124 : decode cX10_theft 124 = .ok (.aload 4, 2) := by decide +kernel
theorem dX10_theft_126 : decode cX10_theft 126 = .ok (.getfield 98, 3) := by decide +kernel
theorem dX10_theft_129 : decode cX10_theft 129 = .ok (.iload 5, 2) := by decide +kernel
theorem dX10_theft_131 : decode cX10_theft 131 = .ok (.iaload, 1) := by decide +kernel
theorem dX10_theft_132 : decode cX10_theft 132 = .ok (.isub, 1) := by decide +kernel
theorem dX10_theft_133 : decode cX10_theft 133 = .ok (.invokevirtual 101, 3) := by decide +kernel
theorem dX10_theft_136 : decode cX10_theft 136 = .ok (.ireturn, 1) := by decide +kernel
theorem dX10_theft_137 : decode cX10_theft 137 = .ok (.iinc 5 1, 3) := by decide +kernel
theorem dX10_theft_140 : decode cX10_theft 140 = .ok (.goto (-68), 3) := by decide +kernel
theorem dX10_theft_143 : decode cX10_theft 143 = .ok (.bipush (-9), 2) := by decide +kernel
theorem dX10_theft_145 : decode cX10_theft 145 = .ok (.ireturn, 1) := by decide +kernel
theorem dX10_seats_0 : decode cX10_seats 0 = .ok (.iload_n 1, 1) := by decide +kernel
theorem dX10_seats_1 : decode cX10_seats 1 = .ok (.iconst 0, 1) := by decide +kernel
theorem dX10_seats_2 : decode cX10_seats 2 = .ok (.bipush 99, 2) := by decide +kernel
theorem dX10_seats_4 : decode cX10_seats 4 = .ok (.invokestatic 86, 3) := by decide +kernel
theorem dX10_seats_7 : decode cX10_seats 7 = .ok (.ifCond .eq 24, 3) := by decide +kernel
theorem dX10_seats_10 : decode cX10_seats 10 = .ok (.iload_n 3, 1) := by decide +kernel
theorem dX10_seats_11 : decode cX10_seats 11 = .ok (.iconst 0, 1) := by decide +kernel
theorem dX10_seats_12 : decode cX10_seats 12 = .ok (.iconst 5, 1) := by decide +kernel
theorem dX10_seats_13 : decode cX10_seats 13 = .ok (.invokestatic 86, 3) := by decide +kernel
theorem dX10_seats_16 : decode cX10_seats 16 = .ok (.ifCond .eq 15, 3) := by decide +kernel
theorem dX10_seats_19 : decode cX10_seats 19 = .ok (.aload_n 0, 1) := by decide +kernel
theorem dX10_seats_20 : decode cX10_seats 20 = .ok (.aload_n 0, 1) := by decide +kernel
theorem dX10_seats_21 : decode cX10_seats 21 = .ok (.getfield 11, 3) := by decide +kernel
theorem dX10_seats_24 : decode cX10_seats 24 = .ok (.iload_n 2, 1) := by decide +kernel
theorem dX10_seats_25 : decode cX10_seats 25 = .ok (.invokevirtual 105, 3) := by decide +kernel
theorem dX10_seats_28 : decode cX10_seats 28 = .ok (.goto 4, 3) := by decide +kernel
theorem dX10_seats_31 : decode cX10_seats 31 = .ok (.iconst (-1), 1) := by decide +kernel
theorem dX10_seats_32 : decode cX10_seats 32 = .ok (.istore 4, 2) := by decide +kernel
theorem dX10_seats_34 : decode cX10_seats 34 = .ok (.iload 4, 2) := by decide +kernel
theorem dX10_seats_36 : decode cX10_seats 36 = .ok (.ifCond .eq 6, 3) := by decide +kernel
theorem dX10_seats_39 : decode cX10_seats 39 = .ok (.iload 4, 2) := by decide +kernel
theorem dX10_seats_41 : decode cX10_seats 41 = .ok (.ireturn, 1) := by decide +kernel
theorem dX10_seats_42 : decode cX10_seats 42 = .ok (.aload_n 0, 1) := by decide +kernel
theorem dX10_seats_43 : decode cX10_seats 43 = .ok (.getfield 11, 3) := by decide +kernel
theorem dX10_seats_46 : decode cX10_seats 46 = .ok (.iload_n 2, 1) := by decide +kernel
theorem dX10_seats_47 : decode cX10_seats 47 = .ok (.aaload, 1) := by decide +kernel
theorem dX10_seats_48 : decode cX10_seats 48 = .ok (.astore 5, 2) := by decide +kernel
theorem dX10_seats_50 : decode cX10_seats 50 = .ok (.aload 5, 2) := by decide +kernel
theorem dX10_seats_52 : decode cX10_seats 52 = .ok (.getfield 109, 3) := by decide +kernel
theorem dX10_seats_55 : decode cX10_seats 55 = .ok (.iconst 1, 1) := by decide +kernel
theorem dX10_seats_56 : decode cX10_seats 56 = .ok (.bipush 6, 2) := by decide +kernel
theorem dX10_seats_58 : decode cX10_seats 58 = .ok (.invokestatic 86, 3) := by decide +kernel
theorem dX10_seats_61 : decode cX10_seats 61 = .ok (.ifCond .ne 9, 3) := by decide +kernel
theorem dX10_seats_64 : decode cX10_seats 64 = .ok (.aload_n 0, 1) := by decide +kernel
theorem dX10_seats_65 : decode cX10_seats 65 = .ok (.iconst 5, 1) := by decide +kernel
theorem dX10_seats_66 : decode cX10_seats 66 = .ok (.invokevirtual 113, 3) := by decide +kernel
theorem dX10_seats_69 : decode cX10_seats 69 = .ok (.ireturn, 1) := by decide +kernel
theorem dX10_seats_70 : decode cX10_seats 70 = .ok (.aload 5, 2) := by decide +kernel
theorem dX10_seats_72 : decode cX10_seats 72 = .ok (.iconst 0, 1) := by decide +kernel
theorem dX10_seats_73 : decode cX10_seats 73 = .ok (.bipush 99, 2) := by decide +kernel
theorem dX10_seats_75 : decode cX10_seats 75 = .ok (.invokevirtual 320, 3) := by decide +kernel
theorem dX10_seats_78 : decode cX10_seats 78 = .ok (.ifCond .ne 9, 3) := by decide +kernel
theorem dX10_seats_81 : decode cX10_seats 81 = .ok (.aload_n 0, 1) := by decide +kernel
theorem dX10_seats_82 : decode cX10_seats 82 = .ok (.iconst 3, 1) := by decide +kernel
theorem dX10_seats_83 : decode cX10_seats 83 = .ok (.invokevirtual 113, 3) := by decide +kernel
theorem dX10_seats_86 : decode cX10_seats 86 = .ok (.ireturn, 1) := by decide +kernel
theorem dX10_seats_87 : decode cX10_seats 87 = .ok (.aload 5, 2) := by decide +kernel
theorem dX10_seats_89 : decode cX10_seats 89 = .ok (.invokevirtual 131, 3) := by decide +kernel
theorem dX10_seats_92 : decode cX10_seats 92 = .ok (.lconst 0, 1) := by decide +kernel
theorem dX10_seats_93 : decode cX10_seats 93 = .ok (.lcmp, 1) := by decide +kernel
theorem dX10_seats_94 : decode cX10_seats 94 = .ok (.ifCond .ne 9, 3) := by decide +kernel
theorem dX10_seats_97 : decode cX10_seats 97 = .ok (.aload_n 0, 1) := by decide +kernel
theorem dX10_seats_98 : decode cX10_seats 98 = .ok (.iconst 4, 1) := by decide +kernel
theorem dX10_seats_99 : decode cX10_seats 99 = .ok (.invokevirtual 113, 3) := by decide +kernel
theorem dX10_seats_102 : decode cX10_seats 102 = .ok (.ireturn, 1) := by decide +kernel
theorem dX10_seats_103 : decode cX10_seats 103 = .ok (.iload_n 1, 1) := by decide +kernel
theorem dX10_seats_104 : decode cX10_seats 104 = .ok (.aload 5, 2) := by decide +kernel
theorem dX10_seats_106 : decode cX10_seats 106 = .ok (.aload_n 0, 1) := by decide +kernel
theorem dX10_seats_107 : decode cX10_seats 107 = .ok (.getfield 11, 3) := by decide +kernel
theorem dX10_seats_110 : decode cX10_seats 110 = .ok (.iload_n 3, 1) := by decide +kernel
theorem dX10_seats_111 : decode cX10_seats 111 = .ok (.aaload, 1) := by decide +kernel
theorem dX10_seats_112 : decode cX10_seats 112 = .ok (.invokestatic 323, 3) := by decide +kernel
theorem dX10_seats_115 : decode cX10_seats 115 = .ok (.ireturn, 1) := by decide +kernel
theorem dX10_mirror_0 : decode cX10_mirror 0 = .ok (.iload_n 1, 1) := by decide +kernel
theorem dX10_mirror_1 : decode cX10_mirror 1 = .ok (.invokestatic 251, 3) := by decide +kernel
theorem dX10_mirror_4 : decode cX10_mirror 4 = .ok (.ifCond .eq 14, 3) := by decide +kernel
theorem dX10_mirror_7 : decode cX10_mirror 7 = .ok (.iload_n 2, 1) := by decide +kernel
theorem dX10_mirror_8 : decode cX10_mirror 8 = .ok (.iconst 1, 1) := by decide +kernel
theorem dX10_mirror_9 : decode cX10_mirror 9 = .ok (.sipush 999, 3) := by decide +kernel
theorem dX10_mirror_12 : decode cX10_mirror 12 = .ok (.invokestatic 86, 3) := by decide +kernel
theorem dX10_mirror_15 : decode cX10_mirror 15 = .ok (.ifCond .ne 5, 3) := by decide +kernel
theorem dX10_mirror_18 : decode cX10_mirror 18 = .ok (.iconst (-1), 1) := by decide +kernel
theorem dX10_mirror_19 : decode cX10_mirror 19 = .ok (.ireturn, 1) := by decide +kernel
theorem dX10_mirror_20 : decode cX10_mirror 20 = .ok (.aload_n 0, 1) := by decide +kernel
theorem dX10_mirror_21 : decode cX10_mirror 21 = .ok (.getfield 72, 3) := by decide +kernel
theorem dX10_mirror_24 : decode cX10_mirror 24 = .ok (.getfield 262, 3) := by decide +kernel
theorem dX10_mirror_27 : decode cX10_mirror 27 = .ok (.iload_n 1, 1) := by decide +kernel
theorem dX10_mirror_28 : decode cX10_mirror 28 = .ok (.iaload, 1) := by decide +kernel
theorem dX10_mirror_29 : decode cX10_mirror 29 = .ok (.istore_n 3, 1) := by decide +kernel
theorem dX10_mirror_30 : decode cX10_mirror 30 = .ok (.iload_n 3, 1) := by decide +kernel
theorem dX10_mirror_31 : decode cX10_mirror 31 = .ok (.ifCond .ne 6, 3) := by decide +kernel
theorem dX10_mirror_34 : decode cX10_mirror 34 = .ok (.bipush (-9), 2) := by decide +kernel
theorem dX10_mirror_36 : decode cX10_mirror 36 = .ok (.ireturn, 1) := by decide +kernel
theorem dX10_mirror_37 : decode cX10_mirror 37 = .ok (.iconst 0, 1) := by decide +kernel
theorem dX10_mirror_38 : decode cX10_mirror 38 = .ok (.istore 4, 2) := by decide +kernel
theorem dX10_mirror_40 : decode cX10_mirror 40 = .ok (.iconst 0, 1) := by decide +kernel
theorem dX10_mirror_41 : decode cX10_mirror 41 = .ok (.istore 5, 2) := by decide +kernel
theorem dX10_mirror_43 : decode cX10_mirror 43 = .ok (.iload 5, 2) := by decide +kernel
theorem dX10_mirror_45 : decode cX10_mirror 45 = .ok (.sipush 7992, 3) := by decide +kernel
theorem dX10_mirror_48 : decode cX10_mirror 48 = .ok (.if_icmp .ge 43, 3) := by decide +kernel
theorem dX10_mirror_51 : decode cX10_mirror 51 = .ok (.aload_n 0, 1) := by decide +kernel
theorem dX10_mirror_52 : decode cX10_mirror 52 = .ok (.getfield 72, 3) := by decide +kernel
theorem dX10_mirror_55 : decode cX10_mirror 55 = .ok (.iload 5, 2) := by decide +kernel
theorem dX10_mirror_57 : decode cX10_mirror 57 = .ok (.invokevirtual 184, 3) := by decide +kernel
theorem dX10_mirror_60 : decode cX10_mirror 60 = .ok (.ifCond .eq 6, 3) := by decide +kernel
theorem dX10_mirror_63 : decode cX10_mirror 63 = .ok (.iinc 4 1, 3) := by decide +kernel
theorem dX10_mirror_66 : decode cX10_mirror 66 = .ok (.iload 4, 2) := by decide +kernel
theorem dX10_mirror_68 : decode cX10_mirror 68 = .ok (.iload_n 3, 1) := by decide +kernel
theorem dX10_mirror_69 : decode cX10_mirror 69 = .ok (.imul, 1) := by decide +kernel
theorem dX10_mirror_70 : decode cX10_mirror 70 = .ok (.iload_n 2, 1) := by decide +kernel
theorem dX10_mirror_71 : decode cX10_mirror 71 = .ok (.if_icmp .lt 14, 3) := by decide +kernel
theorem dX10_mirror_74 : decode cX10_mirror 74 = .ok (.aload_n 0, 1) := by decide +kernel
theorem dX10_mirror_75 : decode cX10_mirror 75 = .ok (.iload 5, 2) := by decide +kernel
theorem dX10_mirror_77 : decode cX10_mirror 77 = .ok (.iconst 1, 1) := by decide +kernel
theorem dX10_mirror_78 : decode cX10_mirror 78 = .ok (.iadd, 1) := by decide +kernel
theorem dX10_mirror_79 : decode cX10_mirror 79 = .ok (.iload 4, 2) := by decide +kernel
theorem dX10_mirror_81 : decode cX10_mirror 81 = .ok (.invokevirtual 101, 3) := by decide +kernel
theorem dX10_mirror_84 : decode cX10_mirror 84 = .ok (.ireturn, 1) := by decide +kernel
theorem dX10_mirror_85 : decode cX10_mirror 85 = .ok (.iinc 5 1, 3) := by decide +kernel
theorem dX10_mirror_88 : decode cX10_mirror 88 = .ok (.goto (-45), 3) := by decide +kernel
theorem dX10_mirror_91 : decode cX10_mirror 91 = .ok (.bipush (-9), 2) := by decide +kernel
theorem dX10_mirror_93 : decode cX10_mirror 93 = .ok (.ireturn, 1) := by decide +kernel
theorem dX10_lots_0 : decode cX10_lots 0 = .ok (.iload_n 1, 1) := by decide +kernel
theorem dX10_lots_1 : decode cX10_lots 1 = .ok (.iconst 1, 1) := by decide +kernel
theorem dX10_lots_2 : decode cX10_lots 2 = .ok (.bipush 40, 2) := by decide +kernel
theorem dX10_lots_4 : decode cX10_lots 4 = .ok (.invokestatic 86, 3) := by decide +kernel
theorem dX10_lots_7 : decode cX10_lots 7 = .ok (.ifCond .eq 14, 3) := by decide +kernel
theorem dX10_lots_10 : decode cX10_lots 10 = .ok (.iload_n 2, 1) := by decide +kernel
theorem dX10_lots_11 : decode cX10_lots 11 = .ok (.iconst 1, 1) := by decide +kernel
theorem dX10_lots_12 : decode cX10_lots 12 = .ok (.ldc_w 327, 3) := by decide +kernel
theorem dX10_lots_15 : decode cX10_lots 15 = .ok (.invokestatic 86, 3) := by decide +kernel
theorem dX10_lots_18 : decode cX10_lots 18 = .ok (.ifCond .ne 5, 3) := by decide +kernel
theorem dX10_lots_21 : decode cX10_lots 21 = .ok (.iconst (-1), 1) := by decide +kernel
theorem dX10_lots_22 : decode cX10_lots 22 = .ok (.ireturn, 1) := by decide +kernel
theorem dX10_lots_23 : decode cX10_lots 23 = .ok (.aload_n 0, 1) := by decide +kernel
theorem dX10_lots_24 : decode cX10_lots 24 = .ok (.getfield 72, 3) := by decide +kernel
theorem dX10_lots_27 : decode cX10_lots 27 = .ok (.getfield 144, 3) := by decide +kernel
theorem dX10_lots_30 : decode cX10_lots 30 = .ok (.iconst 2, 1) := by decide +kernel
theorem dX10_lots_31 : decode cX10_lots 31 = .ok (.if_icmp .ge 6, 3) := by decide +kernel
theorem dX10_lots_34 : decode cX10_lots 34 = .ok (.bipush (-4), 2) := by decide +kernel
theorem dX10_lots_36 : decode cX10_lots 36 = .ok (.ireturn, 1) := by decide +kernel
theorem dX10_lots_37 : decode cX10_lots 37 = .ok (.iconst 0, 1) := by decide +kernel
theorem dX10_lots_38 : decode cX10_lots 38 = .ok (.istore_n 3, 1) := by decide +kernel
theorem dX10_lots_39 : decode cX10_lots 39 = .ok (.iload_n 2, 1) := by decide +kernel
theorem dX10_lots_40 : decode cX10_lots 40 = .ok (.i2l, 1) := by decide +kernel
theorem dX10_lots_41 : decode cX10_lots 41 = .ok (.lstore 4, 2) := by decide +kernel
theorem dX10_lots_43 : decode cX10_lots 43 = .ok (.iconst 0, 1) := by decide +kernel
theorem dX10_lots_44 : decode cX10_lots 44 = .ok (.istore 6, 2) := by decide +kernel
theorem dX10_lots_46 : decode cX10_lots 46 = .ok (.iload 6, 2) := by decide +kernel
theorem dX10_lots_48 : decode cX10_lots 48 = .ok (.iload_n 1, 1) := by decide +kernel
theorem dX10_lots_49 : decode cX10_lots 49 = .ok (.if_icmp .ge 54, 3) := by decide +kernel
theorem dX10_lots_52 : decode cX10_lots 52 = .ok (.lload 4, 2) := by decide +kernel
theorem dX10_lots_54 : decode cX10_lots 54 = .ok (.ldc2_w 328, 3) := by decide +kernel
theorem dX10_lots_57 : decode cX10_lots 57 = .ok (.lmul, 1) := by decide +kernel
theorem dX10_lots_58 : decode cX10_lots 58 = .ok (.ldc2_w 330, 3) := by decide +kernel
theorem dX10_lots_61 : decode cX10_lots 61 = .ok (.lrem, 1) := by decide +kernel
theorem dX10_lots_62 : decode cX10_lots 62 = .ok (.lstore 4, 2) := by decide +kernel
theorem dX10_lots_64 : decode cX10_lots 64 = .ok (.aload_n 0, 1) := by decide +kernel
theorem dX10_lots_65 : decode cX10_lots 65 = .ok (.lload 4, 2) := by decide +kernel
theorem dX10_lots_67 : decode cX10_lots 67 = .ok (.aload_n 0, 1) := by decide +kernel
theorem dX10_lots_68 : decode cX10_lots 68 = .ok (.getfield 72, 3) := by decide +kernel
theorem dX10_lots_71 : decode cX10_lots 71 = .ok (.getfield 144, 3) := by decide +kernel
theorem dX10_lots_74 : decode cX10_lots 74 = .ok (.i2l, 1) := by decide +kernel
theorem dX10_lots_75 : decode cX10_lots 75 = .ok (.lrem, 1) := by decide +kernel
theorem dX10_lots_76 : decode cX10_lots 76 = .ok (.l2i, 1) := by decide +kernel
theorem dX10_lots_77 : decode cX10_lots 77 = .ok (.lload 4, 2) := by decide +kernel
theorem dX10_lots_79 : decode cX10_lots 79 = .ok (.ldc2_w 332, 3) := by decide +kernel
theorem dX10_lots_82 : decode cX10_lots 82 = .ok (.ldiv, 1) := by decide +kernel
theorem dX10_lots_83 : decode cX10_lots 83 = .ok (.ldc2_w 334, 3) := by decide +kernel
theorem dX10_lots_86 : decode cX10_lots 86 = .ok (.lrem, 1) := by decide +kernel
theorem dX10_lots_87 : decode cX10_lots 87 = .ok (.l2i, 1) := by decide +kernel
theorem dX10_lots_88 : decode cX10_lots 88 = .ok (.invokevirtual 336, 3) := by decide +kernel
theorem dX10_lots_91 : decode cX10_lots 91 = .ok (.ifCond .lt 6, 3) := by decide +kernel
theorem dX10_lots_94 : decode cX10_lots 94 = .ok (.iinc 3 1, 3) := by decide +kernel
theorem dX10_lots_97 : decode cX10_lots 97 = .ok (.iinc 6 1, 3) := by decide +kernel
theorem dX10_lots_100 : decode cX10_lots 100 = .ok (.goto (-54), 3) := by decide +kernel
theorem dX10_lots_103 : decode cX10_lots 103 = .ok (.iload_n 3, 1) := by decide +kernel
theorem dX10_lots_104 : decode cX10_lots 104 = .ok (.ireturn, 1) := by decide +kernel
theorem dX10_asked_0 : decode cX10_asked 0 = .ok (.aload_n 0, 1) := by decide +kernel
theorem dX10_asked_1 : decode cX10_asked 1 = .ok (.getfield 339, 3) := by decide +kernel
theorem dX10_asked_4 : decode cX10_asked 4 = .ok (.ireturn, 1) := by decide +kernel
theorem dX10_upper_0 : decode cX10_upper 0 = .ok (.aload_n 0, 1) := by decide +kernel
theorem dX10_upper_1 : decode cX10_upper 1 = .ok (.getfield 72, 3) := by decide +kernel
theorem dX10_upper_4 : decode cX10_upper 4 = .ok (.getfield 144, 3) := by decide +kernel
theorem dX10_upper_7 : decode cX10_upper 7 = .ok (.ifCond .ne 7, 3) := by decide +kernel
theorem dX10_upper_10 : decode cX10_upper 10 = .ok (.lconst 0, 1) := by decide +kernel
theorem dX10_upper_11 : decode cX10_upper 11 = .ok (.goto 23, 3) := by decide +kernel
theorem dX10_upper_14 : decode cX10_upper 14 = .ok (.aload_n 0, 1) := by decide +kernel
theorem dX10_upper_15 : decode cX10_upper 15 = .ok (.invokevirtual 342, 3) := by decide +kernel
theorem dX10_upper_18 : decode cX10_upper 18 = .ok (.aload_n 0, 1) := by decide +kernel
theorem dX10_upper_19 : decode cX10_upper 19 = .ok (.invokevirtual 342, 3) := by decide +kernel
theorem dX10_upper_22 : decode cX10_upper 22 = .ok (.aload_n 0, 1) := by decide +kernel
theorem dX10_upper_23 : decode cX10_upper 23 = .ok (.getfield 72, 3) := by decide +kernel
theorem dX10_upper_26 : decode cX10_upper 26 = .ok (.invokevirtual 345, 3) := by decide +kernel
theorem dX10_upper_29 : decode cX10_upper 29 = .ok (.invokestatic 348, 3) := by decide +kernel
theorem dX10_upper_32 : decode cX10_upper 32 = .ok (.idiv, 1) := by decide +kernel
theorem dX10_upper_33 : decode cX10_upper 33 = .ok (.i2l, 1) := by decide +kernel
theorem dX10_upper_34 : decode cX10_upper 34 = .ok (.lreturn, 1) := by decide +kernel
theorem dX10_lower_0 : decode cX10_lower 0 = .ok (.aload_n 0, 1) := by decide +kernel
theorem dX10_lower_1 : decode cX10_lower 1 = .ok (.getfield 72, 3) := by decide +kernel
theorem dX10_lower_4 : decode cX10_lower 4 = .ok (.getfield 144, 3) := by decide +kernel
theorem dX10_lower_7 : decode cX10_lower 7 = .ok (.ifCond .ne 7, 3) := by decide +kernel
theorem dX10_lower_10 : decode cX10_lower 10 = .ok (.lconst 1, 1) := by decide +kernel
theorem dX10_lower_11 : decode cX10_lower 11 = .ok (.goto 26, 3) := by decide +kernel
theorem dX10_lower_14 : decode cX10_lower 14 = .ok (.aload_n 0, 1) := by decide +kernel
theorem dX10_lower_15 : decode cX10_lower 15 = .ok (.getfield 72, 3) := by decide +kernel
theorem dX10_lower_18 : decode cX10_lower 18 = .ok (.invokevirtual 345, 3) := by decide +kernel
theorem dX10_lower_21 : decode cX10_lower 21 = .ok (.aload_n 0, 1) := by decide +kernel
theorem dX10_lower_22 : decode cX10_lower 22 = .ok (.invokevirtual 342, 3) := by decide +kernel
theorem dX10_lower_25 : decode cX10_lower 25 = .ok (.aload_n 0, 1) := by decide +kernel
theorem dX10_lower_26 : decode cX10_lower 26 = .ok (.getfield 72, 3) := by decide +kernel
theorem dX10_lower_29 : decode cX10_lower 29 = .ok (.invokevirtual 345, 3) := by decide +kernel
theorem dX10_lower_32 : decode cX10_lower 32 = .ok (.invokestatic 348, 3) := by decide +kernel
theorem dX10_lower_35 : decode cX10_lower 35 = .ok (.idiv, 1) := by decide +kernel
theorem dX10_lower_36 : decode cX10_lower 36 = .ok (.i2l, 1) := by decide +kernel
theorem dX10_lower_37 : decode cX10_lower 37 = .ok (.lreturn, 1) := by decide +kernel
theorem dX10_count_0 : decode cX10_count 0 = .ok (.iload_n 1, 1) := by decide +kernel
theorem dX10_count_1 : decode cX10_count 1 = .ok (.tableswitch 142 0 9 #[55, 63, 68, 76, 92, 101, 110, 118, 126, 134], 55) := by decide +kernel
theorem dX10_count_56 : decode cX10_count 56 = .ok (.aload_n 0, 1) := by decide +kernel
theorem dX10_count_57 : decode cX10_count 57 = .ok (.getfield 72, 3) := by decide +kernel
theorem dX10_count_60 : decode cX10_count 60 = .ok (.getfield 144, 3) := by decide +kernel
theorem dX10_count_63 : decode cX10_count 63 = .ok (.ireturn, 1) := by decide +kernel
theorem dX10_count_64 : decode cX10_count 64 = .ok (.aload_n 0, 1) := by decide +kernel
theorem dX10_count_65 : decode cX10_count 65 = .ok (.invokevirtual 342, 3) := by decide +kernel
theorem dX10_count_68 : decode cX10_count 68 = .ok (.ireturn, 1) := by decide +kernel
theorem dX10_count_69 : decode cX10_count 69 = .ok (.aload_n 0, 1) := by decide +kernel
theorem dX10_count_70 : decode cX10_count 70 = .ok (.getfield 28, 3) := by decide +kernel
theorem dX10_count_73 : decode cX10_count 73 = .ok (.getfield 190, 3) := by decide +kernel
theorem dX10_count_76 : decode cX10_count 76 = .ok (.ireturn, 1) := by decide +kernel
theorem dX10_count_77 : decode cX10_count 77 = .ok (.aload_n 0, 1) := by decide +kernel
theorem dX10_count_78 : decode cX10_count 78 = .ok (.getfield 72, 3) := by decide +kernel
theorem dX10_count_81 : decode cX10_count 81 = .ok (.getfield 203, 3) := by decide +kernel
theorem dX10_count_84 : decode cX10_count 84 = .ok (.aload_n 0, 1) := by decide +kernel
theorem dX10_count_85 : decode cX10_count 85 = .ok (.getfield 28, 3) := by decide +kernel
theorem dX10_count_88 : decode cX10_count 88 = .ok (.getfield 200, 3) := by decide +kernel
theorem dX10_count_91 : decode cX10_count 91 = .ok (.isub, 1) := by decide +kernel
theorem dX10_count_92 : decode cX10_count 92 = .ok (.ireturn, 1) := by decide +kernel
theorem dX10_count_93 : decode cX10_count 93 = .ok (.aload_n 0, 1) := by decide +kernel
theorem dX10_count_94 : decode cX10_count 94 = .ok (.getfield 72, 3) := by decide +kernel
theorem dX10_count_97 : decode cX10_count 97 = .ok (.iconst 2, 1) := by decide +kernel
theorem dX10_count_98 : decode cX10_count 98 = .ok (.invokevirtual 351, 3) := by decide +kernel
theorem dX10_count_101 : decode cX10_count 101 = .ok (.ireturn, 1) := by decide +kernel
theorem dX10_count_102 : decode cX10_count 102 = .ok (.aload_n 0, 1) := by decide +kernel
theorem dX10_count_103 : decode cX10_count 103 = .ok (.getfield 72, 3) := by decide +kernel
theorem dX10_count_106 : decode cX10_count 106 = .ok (.iconst 3, 1) := by decide +kernel
theorem dX10_count_107 : decode cX10_count 107 = .ok (.invokevirtual 351, 3) := by decide +kernel
theorem dX10_count_110 : decode cX10_count 110 = .ok (.ireturn, 1) := by decide +kernel
theorem dX10_count_111 : decode cX10_count 111 = .ok (.aload_n 0, 1) := by decide +kernel
theorem dX10_count_112 : decode cX10_count 112 = .ok (.getfield 11, 3) := by decide +kernel
theorem dX10_count_115 : decode cX10_count 115 = .ok (.invokestatic 354, 3) := by decide +kernel
theorem dX10_count_118 : decode cX10_count 118 = .ok (.ireturn, 1) := by decide +kernel
theorem dX10_count_119 : decode cX10_count 119 = .ok (.aload_n 0, 1) := by decide +kernel
theorem dX10_count_120 : decode cX10_count 120 = .ok (.getfield 15, 3) := by decide +kernel
theorem dX10_count_123 : decode cX10_count 123 = .ok (.invokestatic 354, 3) := by decide +kernel
theorem dX10_count_126 : decode cX10_count 126 = .ok (.ireturn, 1) := by decide +kernel
theorem dX10_count_127 : decode cX10_count 127 = .ok (.aload_n 0, 1) := by decide +kernel
theorem dX10_count_128 : decode cX10_count 128 = .ok (.getfield 35, 3) := by decide +kernel
theorem dX10_count_131 : decode cX10_count 131 = .ok (.getfield 224, 3) := by decide +kernel
theorem dX10_count_134 : decode cX10_count 134 = .ok (.ireturn, 1) := by decide +kernel
theorem dX10_count_135 : decode cX10_count 135 = .ok (.aload_n 0, 1) := by decide +kernel
theorem dX10_count_136 : decode cX10_count 136 = .ok (.getfield 55, 3) := by decide +kernel
theorem dX10_count_139 : decode cX10_count 139 = .ok (.getfield 143, 3) := by decide +kernel
theorem dX10_count_142 : decode cX10_count 142 = .ok (.ireturn, 1) := by decide +kernel
theorem dX10_count_143 : decode cX10_count 143 = .ok (.iconst (-1), 1) := by decide +kernel
theorem dX10_count_144 : decode cX10_count 144 = .ok (.ireturn, 1) := by decide +kernel
theorem dX10_finding_0 : decode cX10_finding 0 = .ok (.aload_n 0, 1) := by decide +kernel
theorem dX10_finding_1 : decode cX10_finding 1 = .ok (.getfield 358, 3) := by decide +kernel
theorem dX10_finding_4 : decode cX10_finding 4 = .ok (.ireturn, 1) := by decide +kernel
theorem dX10_findings_0 : decode cX10_findings 0 = .ok (.iload_n 1, 1) := by decide +kernel
theorem dX10_findings_1 : decode cX10_findings 1 = .ok (.iconst 1, 1) := by decide +kernel
theorem dX10_findings_2 : decode cX10_findings 2 = .ok (.iconst 5, 1) := by decide +kernel
theorem dX10_findings_3 : decode cX10_findings 3 = .ok (.invokestatic 86, 3) := by decide +kernel
theorem dX10_findings_6 : decode cX10_findings 6 = .ok (.ifCond .eq 12, 3) := by decide +kernel
theorem dX10_findings_9 : decode cX10_findings 9 = .ok (.aload_n 0, 1) := by decide +kernel
theorem dX10_findings_10 : decode cX10_findings 10 = .ok (.getfield 66, 3) := by decide +kernel
theorem dX10_findings_13 : decode cX10_findings 13 = .ok (.iload_n 1, 1) := by decide +kernel
theorem dX10_findings_14 : decode cX10_findings 14 = .ok (.iaload, 1) := by decide +kernel
theorem dX10_findings_15 : decode cX10_findings 15 = .ok (.goto 4, 3) := by decide +kernel
theorem dX10_findings_18 : decode cX10_findings 18 = .ok (.iconst (-1), 1) := by decide +kernel
theorem dX10_findings_19 : decode cX10_findings 19 = .ok (.ireturn, 1) := by decide +kernel
theorem dX10_digest_0 : decode cX10_digest 0 = .ok (.ldc2_w 361, 3) := by decide +kernel
theorem dX10_digest_3 : decode cX10_digest 3 = .ok (.lstore_n 1, 1) := by decide +kernel
theorem dX10_digest_4 : decode cX10_digest 4 = .ok (.iconst 0, 1) := by decide +kernel
theorem dX10_digest_5 : decode cX10_digest 5 = .ok (.istore_n 3, 1) := by decide +kernel
theorem dX10_digest_6 : decode cX10_digest 6 = .ok (.iload_n 3, 1) := by decide +kernel
theorem dX10_digest_7 : decode cX10_digest 7 = .ok (.bipush 10, 2) := by decide +kernel
theorem dX10_digest_9 : decode cX10_digest 9 = .ok (.if_icmp .ge 22, 3) := by decide +kernel
theorem dX10_digest_12 : decode cX10_digest 12 = .ok (.ldc2_w 363, 3) := by decide +kernel
theorem dX10_digest_15 : decode cX10_digest 15 = .ok (.lload_n 1, 1) := by decide +kernel
theorem dX10_digest_16 : decode cX10_digest 16 = .ok (.lmul, 1) := by decide +kernel
theorem dX10_digest_17 : decode cX10_digest 17 = .ok (.aload_n 0, 1) := by decide +kernel
theorem dX10_digest_18 : decode cX10_digest 18 = .ok (.iload_n 3, 1) := by decide +kernel
theorem dX10_digest_19 : decode cX10_digest 19 = .ok (.invokevirtual 365, 3) := by decide +kernel
theorem dX10_digest_22 : decode cX10_digest 22 = .ok (.i2l, 1) := by decide +kernel
theorem dX10_digest_23 : decode cX10_digest 23 = .ok (.ladd, 1) := by decide +kernel
theorem dX10_digest_24 : decode cX10_digest 24 = .ok (.lstore_n 1, 1) := by decide +kernel
