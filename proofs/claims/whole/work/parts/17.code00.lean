theorem dX0_init_0 : decode cX0_init 0 = .ok (.aload_n 0, 1) := by decide +kernel
theorem dX0_init_1 : decode cX0_init 1 = .ok (.invokespecial 3, 3) := by decide +kernel
theorem dX0_init_4 : decode cX0_init 4 = .ok (.aload_n 0, 1) := by decide +kernel
theorem dX0_init_5 : decode cX0_init 5 = .ok (.bipush 8, 2) := by decide +kernel
theorem dX0_init_7 : decode cX0_init 7 = .ok (.newarray .int, 2) := by decide +kernel
theorem dX0_init_9 : decode cX0_init 9 = .ok (.putfield 9, 3) := by decide +kernel
theorem dX0_init_12 : decode cX0_init 12 = .ok (.aload_n 0, 1) := by decide +kernel
theorem dX0_init_13 : decode cX0_init 13 = .ok (.bipush 8, 2) := by decide +kernel
theorem dX0_init_15 : decode cX0_init 15 = .ok (.newarray .int, 2) := by decide +kernel
theorem dX0_init_17 : decode cX0_init 17 = .ok (.putfield 15, 3) := by decide +kernel
theorem dX0_init_20 : decode cX0_init 20 = .ok (.aload_n 0, 1) := by decide +kernel
theorem dX0_init_21 : decode cX0_init 21 = .ok (.bipush 64, 2) := by decide +kernel
theorem dX0_init_23 : decode cX0_init 23 = .ok (.newarray .int, 2) := by decide +kernel
theorem dX0_init_25 : decode cX0_init 25 = .ok (.putfield 18, 3) := by decide +kernel
theorem dX0_init_28 : decode cX0_init 28 = .ok (.aload_n 0, 1) := by decide +kernel
theorem dX0_init_29 : decode cX0_init 29 = .ok (.bipush 121, 2) := by decide +kernel
theorem dX0_init_31 : decode cX0_init 31 = .ok (.newarray .int, 2) := by decide +kernel
theorem dX0_init_33 : decode cX0_init 33 = .ok (.putfield 21, 3) := by decide +kernel
theorem dX0_init_36 : decode cX0_init 36 = .ok (.return_, 1) := by decide +kernel
theorem dX0_add_0 : decode cX0_add 0 = .ok (.aload_n 0, 1) := by decide +kernel
theorem dX0_add_1 : decode cX0_add 1 = .ok (.getfield 9, 3) := by decide +kernel
theorem dX0_add_4 : decode cX0_add 4 = .ok (.aload_n 0, 1) := by decide +kernel
theorem dX0_add_5 : decode cX0_add 5 = .ok (.getfield 24, 3) := by decide +kernel
theorem dX0_add_8 : decode cX0_add 8 = .ok (.iload_n 1, 1) := by decide +kernel
theorem dX0_add_9 : decode cX0_add 9 = .ok (.iastore, 1) := by decide +kernel
theorem dX0_add_10 : decode cX0_add 10 = .ok (.aload_n 0, 1) := by decide +kernel
theorem dX0_add_11 : decode cX0_add 11 = .ok (.getfield 15, 3) := by decide +kernel
theorem dX0_add_14 : decode cX0_add 14 = .ok (.aload_n 0, 1) := by decide +kernel
theorem dX0_add_15 : decode cX0_add 15 = .ok (.getfield 24, 3) := by decide +kernel
theorem dX0_add_18 : decode cX0_add 18 = .ok (.iload_n 2, 1) := by decide +kernel
theorem dX0_add_19 : decode cX0_add 19 = .ok (.iastore, 1) := by decide +kernel
theorem dX0_add_20 : decode cX0_add 20 = .ok (.aload_n 0, 1) := by decide +kernel
theorem dX0_add_21 : decode cX0_add 21 = .ok (.dup, 1) := by decide +kernel
theorem dX0_add_22 : decode cX0_add 22 = .ok (.getfield 24, 3) := by decide +kernel
theorem dX0_add_25 : decode cX0_add 25 = .ok (.iconst 1, 1) := by decide +kernel
theorem dX0_add_26 : decode cX0_add 26 = .ok (.iadd, 1) := by decide +kernel
theorem dX0_add_27 : decode cX0_add 27 = .ok (.putfield 24, 3) := by decide +kernel
theorem dX0_add_30 : decode cX0_add 30 = .ok (.aload_n 0, 1) := by decide +kernel
theorem dX0_add_31 : decode cX0_add 31 = .ok (.getfield 24, 3) := by decide +kernel
theorem dX0_add_34 : decode cX0_add 34 = .ok (.iconst 1, 1) := by decide +kernel
theorem dX0_add_35 : decode cX0_add 35 = .ok (.isub, 1) := by decide +kernel
theorem dX0_add_36 : decode cX0_add 36 = .ok (.ireturn, 1) := by decide +kernel
theorem dX0_gather_0 : decode cX0_gather 0 = .ok (.aload_n 0, 1) := by decide +kernel
theorem dX0_gather_1 : decode cX0_gather 1 = .ok (.iconst 0, 1) := by decide +kernel
theorem dX0_gather_2 : decode cX0_gather 2 = .ok (.putfield 28, 3) := by decide +kernel
theorem dX0_gather_5 : decode cX0_gather 5 = .ok (.iconst 0, 1) := by decide +kernel
theorem dX0_gather_6 : decode cX0_gather 6 = .ok (.istore_n 2, 1) := by decide +kernel
theorem dX0_gather_7 : decode cX0_gather 7 = .ok (.iload_n 2, 1) := by decide +kernel
theorem dX0_gather_8 : decode cX0_gather 8 = .ok (.iconst 1, 1) := by decide +kernel
theorem dX0_gather_9 : decode cX0_gather 9 = .ok (.aload_n 1, 1) := by decide +kernel
theorem dX0_gather_10 : decode cX0_gather 10 = .ok (.getfield 31, 3) := by decide +kernel
theorem dX0_gather_13 : decode cX0_gather 13 = .ok (.ishl, 1) := by decide +kernel
theorem dX0_gather_14 : decode cX0_gather 14 = .ok (.if_icmp .ge 38, 3) := by decide +kernel
theorem dX0_gather_17 : decode cX0_gather 17 = .ok (.aload_n 0, 1) := by decide +kernel
theorem dX0_gather_18 : decode cX0_gather 18 = .ok (.iload_n 2, 1) := by decide +kernel
theorem dX0_gather_19 : decode cX0_gather 19 = .ok (.aload_n 1, 1) := by decide +kernel
theorem dX0_gather_20 : decode cX0_gather 20 = .ok (.invokevirtual 36, 3) := by decide +kernel
theorem dX0_gather_23 : decode cX0_gather 23 = .ok (.ifCond .eq 23, 3) := by decide +kernel
theorem dX0_gather_26 : decode cX0_gather 26 = .ok (.aload_n 0, 1) := by decide +kernel
theorem dX0_gather_27 : decode cX0_gather 27 = .ok (.getfield 18, 3) := by decide +kernel
theorem dX0_gather_30 : decode cX0_gather 30 = .ok (.aload_n 0, 1) := by decide +kernel
theorem dX0_gather_31 : decode cX0_gather 31 = .ok (.getfield 28, 3) := by decide +kernel
theorem dX0_gather_34 : decode cX0_gather 34 = .ok (.iload_n 2, 1) := by decide +kernel
theorem dX0_gather_35 : decode cX0_gather 35 = .ok (.iastore, 1) := by decide +kernel
theorem dX0_gather_36 : decode cX0_gather 36 = .ok (.aload_n 0, 1) := by decide +kernel
theorem dX0_gather_37 : decode cX0_gather 37 = .ok (.dup, 1) := by decide +kernel
theorem dX0_gather_38 : decode cX0_gather 38 = .ok (.getfield 28, 3) := by decide +kernel
theorem dX0_gather_41 : decode cX0_gather 41 = .ok (.iconst 1, 1) := by decide +kernel
theorem dX0_gather_42 : decode cX0_gather 42 = .ok (.iadd, 1) := by decide +kernel
theorem dX0_gather_43 : decode cX0_gather 43 = .ok (.putfield 28, 3) := by decide +kernel
theorem dX0_gather_46 : decode cX0_gather 46 = .ok (.iinc 2 1, 3) := by decide +kernel
theorem dX0_gather_49 : decode cX0_gather 49 = .ok (.goto (-42), 3) := by decide +kernel
theorem dX0_gather_52 : decode cX0_gather 52 = .ok (.aload_n 0, 1) := by decide +kernel
theorem dX0_gather_53 : decode cX0_gather 53 = .ok (.getfield 28, 3) := by decide +kernel
theorem dX0_gather_56 : decode cX0_gather 56 = .ok (.ireturn, 1) := by decide +kernel
theorem dX0_inAll_0 : decode cX0_inAll 0 = .ok (.aload_n 0, 1) := by decide +kernel
theorem dX0_inAll_1 : decode cX0_inAll 1 = .ok (.getfield 18, 3) := by decide +kernel
theorem dX0_inAll_4 : decode cX0_inAll 4 = .ok (.iconst 0, 1) := by decide +kernel
theorem dX0_inAll_5 : decode cX0_inAll 5 = .ok (.iaload, 1) := by decide +kernel
theorem dX0_inAll_6 : decode cX0_inAll 6 = .ok (.istore_n 1, 1) := by decide +kernel
theorem dX0_inAll_7 : decode cX0_inAll 7 = .ok (.iconst 1, 1) := by decide +kernel
theorem dX0_inAll_8 : decode cX0_inAll 8 = .ok (.istore_n 2, 1) := by decide +kernel
theorem dX0_inAll_9 : decode cX0_inAll 9 = .ok (.iload_n 2, 1) := by decide +kernel
theorem dX0_inAll_10 : decode cX0_inAll 10 = .ok (.aload_n 0, 1) := by decide +kernel
theorem dX0_inAll_11 : decode cX0_inAll 11 = .ok (.getfield 28, 3) := by decide +kernel
theorem dX0_inAll_14 : decode cX0_inAll 14 = .ok (.if_icmp .ge 18, 3) := by decide +kernel
theorem dX0_inAll_17 : decode cX0_inAll 17 = .ok (.iload_n 1, 1) := by decide +kernel
theorem dX0_inAll_18 : decode cX0_inAll 18 = .ok (.aload_n 0, 1) := by decide +kernel
theorem dX0_inAll_19 : decode cX0_inAll 19 = .ok (.getfield 18, 3) := by decide +kernel
theorem dX0_inAll_22 : decode cX0_inAll 22 = .ok (.iload_n 2, 1) := by decide +kernel
theorem dX0_inAll_23 : decode cX0_inAll 23 = .ok (.iaload, 1) := by decide +kernel
theorem dX0_inAll_24 : decode cX0_inAll 24 = .ok (.iand, 1) := by decide +kernel
theorem dX0_inAll_25 : decode cX0_inAll 25 = .ok (.istore_n 1, 1) := by decide +kernel
theorem dX0_inAll_26 : decode cX0_inAll 26 = .ok (.iinc 2 1, 3) := by decide +kernel
theorem dX0_inAll_29 : decode cX0_inAll 29 = .ok (.goto (-20), 3) := by decide +kernel
theorem dX0_inAll_32 : decode cX0_inAll 32 = .ok (.iload_n 1, 1) := by decide +kernel
theorem dX0_inAll_33 : decode cX0_inAll 33 = .ok (.ireturn, 1) := by decide +kernel
theorem dX0_inAny_0 : decode cX0_inAny 0 = .ok (.iconst 0, 1) := by decide +kernel
theorem dX0_inAny_1 : decode cX0_inAny 1 = .ok (.istore_n 1, 1) := by decide +kernel
theorem dX0_inAny_2 : decode cX0_inAny 2 = .ok (.iconst 0, 1) := by decide +kernel
theorem dX0_inAny_3 : decode cX0_inAny 3 = .ok (.istore_n 2, 1) := by decide +kernel
theorem dX0_inAny_4 : decode cX0_inAny 4 = .ok (.iload_n 2, 1) := by decide +kernel
theorem dX0_inAny_5 : decode cX0_inAny 5 = .ok (.aload_n 0, 1) := by decide +kernel
theorem dX0_inAny_6 : decode cX0_inAny 6 = .ok (.getfield 28, 3) := by decide +kernel
theorem dX0_inAny_9 : decode cX0_inAny 9 = .ok (.if_icmp .ge 18, 3) := by decide +kernel
theorem dX0_inAny_12 : decode cX0_inAny 12 = .ok (.iload_n 1, 1) := by decide +kernel
theorem dX0_inAny_13 : decode cX0_inAny 13 = .ok (.aload_n 0, 1) := by decide +kernel
theorem dX0_inAny_14 : decode cX0_inAny 14 = .ok (.getfield 18, 3) := by decide +kernel
theorem dX0_inAny_17 : decode cX0_inAny 17 = .ok (.iload_n 2, 1) := by decide +kernel
theorem dX0_inAny_18 : decode cX0_inAny 18 = .ok (.iaload, 1) := by decide +kernel
theorem dX0_inAny_19 : decode cX0_inAny 19 = .ok (.ior, 1) := by decide +kernel
theorem dX0_inAny_20 : decode cX0_inAny 20 = .ok (.istore_n 1, 1) := by decide +kernel
theorem dX0_inAny_21 : decode cX0_inAny 21 = .ok (.iinc 2 1, 3) := by decide +kernel
theorem dX0_inAny_24 : decode cX0_inAny 24 = .ok (.goto (-20), 3) := by decide +kernel
theorem dX0_inAny_27 : decode cX0_inAny 27 = .ok (.iload_n 1, 1) := by decide +kernel
theorem dX0_inAny_28 : decode cX0_inAny 28 = .ok (.ireturn, 1) := by decide +kernel
theorem dX0_nextToBurn_0 : decode cX0_nextToBurn 0 = .ok (.iconst 1, 1) := by decide +kernel
theorem dX0_nextToBurn_1 : decode cX0_nextToBurn 1 = .ok (.istore_n 2, 1) := by decide +kernel
theorem dX0_nextToBurn_2 : decode cX0_nextToBurn 2 = .ok (.aload_n 0, 1) := by decide +kernel
theorem dX0_nextToBurn_3 : decode cX0_nextToBurn 3 = .ok (.iload_n 2, 1) := by decide +kernel
theorem dX0_nextToBurn_4 : decode cX0_nextToBurn 4 = .ok (.aload_n 1, 1) := by decide +kernel
theorem dX0_nextToBurn_5 : decode cX0_nextToBurn 5 = .ok (.invokevirtual 40, 3) := by decide +kernel
theorem dX0_nextToBurn_8 : decode cX0_nextToBurn 8 = .ok (.istore_n 3, 1) := by decide +kernel
theorem dX0_nextToBurn_9 : decode cX0_nextToBurn 9 = .ok (.iconst 2, 1) := by decide +kernel
theorem dX0_nextToBurn_10 : decode cX0_nextToBurn 10 = .ok (.istore 4, 2) := by decide +kernel
theorem dX0_nextToBurn_12 : decode cX0_nextToBurn 12 = .ok (.iload 4, 2) := by decide +kernel
theorem dX0_nextToBurn_14 : decode cX0_nextToBurn 14 = .ok (.iconst 1, 1) := by decide +kernel
theorem dX0_nextToBurn_15 : decode cX0_nextToBurn 15 = .ok (.aload_n 1, 1) := by decide +kernel
theorem dX0_nextToBurn_16 : decode cX0_nextToBurn 16 = .ok (.getfield 31, 3) := by decide +kernel
theorem dX0_nextToBurn_19 : decode cX0_nextToBurn 19 = .ok (.ishl, 1) := by decide +kernel
theorem dX0_nextToBurn_20 : decode cX0_nextToBurn 20 = .ok (.if_icmp .ge 60, 3) := by decide +kernel
theorem dX0_nextToBurn_23 : decode cX0_nextToBurn 23 = .ok (.aload_n 0, 1) := by decide +kernel
theorem dX0_nextToBurn_24 : decode cX0_nextToBurn 24 = .ok (.iload 4, 2) := by decide +kernel
theorem dX0_nextToBurn_26 : decode cX0_nextToBurn 26 = .ok (.aload_n 1, 1) := by decide +kernel
theorem dX0_nextToBurn_27 : decode cX0_nextToBurn 27 = .ok (.invokevirtual 40, 3) := by decide +kernel
theorem dX0_nextToBurn_30 : decode cX0_nextToBurn 30 = .ok (.istore 5, 2) := by decide +kernel
theorem dX0_nextToBurn_32 : decode cX0_nextToBurn 32 = .ok (.iload 4, 2) := by decide +kernel
theorem dX0_nextToBurn_34 : decode cX0_nextToBurn 34 = .ok (.invokestatic 44, 3) := by decide +kernel
theorem dX0_nextToBurn_37 : decode cX0_nextToBurn 37 = .ok (.iload_n 2, 1) := by decide +kernel
theorem dX0_nextToBurn_38 : decode cX0_nextToBurn 38 = .ok (.invokestatic 44, 3) := by decide +kernel
theorem dX0_nextToBurn_41 : decode cX0_nextToBurn 41 = .ok (.if_icmp .ge 7, 3) := by decide +kernel
theorem dX0_nextToBurn_44 : decode cX0_nextToBurn 44 = .ok (.iconst 1, 1) := by decide +kernel
theorem dX0_nextToBurn_45 : decode cX0_nextToBurn 45 = .ok (.goto 4, 3) := by decide +kernel
theorem dX0_nextToBurn_48 : decode cX0_nextToBurn 48 = .ok (.iconst 0, 1) := by decide +kernel
theorem dX0_nextToBurn_49 : decode cX0_nextToBurn 49 = .ok (.istore 6, 2) := by decide +kernel
theorem dX0_nextToBurn_51 : decode cX0_nextToBurn 51 = .ok (.iload 5, 2) := by decide +kernel
theorem dX0_nextToBurn_53 : decode cX0_nextToBurn 53 = .ok (.iload_n 3, 1) := by decide +kernel
theorem dX0_nextToBurn_54 : decode cX0_nextToBurn 54 = .ok (.if_icmp .lt 14, 3) := by decide +kernel
theorem dX0_nextToBurn_57 : decode cX0_nextToBurn 57 = .ok (.iload 5, 2) := by decide +kernel
theorem dX0_nextToBurn_59 : decode cX0_nextToBurn 59 = .ok (.iload_n 3, 1) := by decide +kernel
theorem dX0_nextToBurn_60 : decode cX0_nextToBurn 60 = .ok (.if_icmp .ne 14, 3) := by decide +kernel
theorem dX0_nextToBurn_63 : decode cX0_nextToBurn 63 = .ok (.iload 6, 2) := by decide +kernel
theorem dX0_nextToBurn_65 : decode cX0_nextToBurn 65 = .ok (.ifCond .eq 9, 3) := by decide +kernel
theorem dX0_nextToBurn_68 : decode cX0_nextToBurn 68 = .ok (.iload 4, 2) := by decide +kernel
theorem dX0_nextToBurn_70 : decode cX0_nextToBurn 70 = .ok (.istore_n 2, 1) := by decide +kernel
theorem dX0_nextToBurn_71 : decode cX0_nextToBurn 71 = .ok (.iload 5, 2) := by decide +kernel
theorem dX0_nextToBurn_73 : decode cX0_nextToBurn 73 = .ok (.istore_n 3, 1) := by decide +kernel
theorem dX0_nextToBurn_74 : decode cX0_nextToBurn 74 = .ok (.iinc 4 1, 3) := by decide +kernel
theorem dX0_nextToBurn_77 : decode cX0_nextToBurn 77 = .ok (.goto (-65), 3) := by decide +kernel
theorem dX0_nextToBurn_80 : decode cX0_nextToBurn 80 = .ok (.iload_n 2, 1) := by decide +kernel
theorem dX0_nextToBurn_81 : decode cX0_nextToBurn 81 = .ok (.ireturn, 1) := by decide +kernel
theorem dX0_mostLeft_0 : decode cX0_mostLeft 0 = .ok (.aload_n 0, 1) := by decide +kernel
theorem dX0_mostLeft_1 : decode cX0_mostLeft 1 = .ok (.getfield 21, 3) := by decide +kernel
theorem dX0_mostLeft_4 : decode cX0_mostLeft 4 = .ok (.iconst 0, 1) := by decide +kernel
theorem dX0_mostLeft_5 : decode cX0_mostLeft 5 = .ok (.invokestatic 50, 3) := by decide +kernel
theorem dX0_mostLeft_8 : decode cX0_mostLeft 8 = .ok (.iconst 0, 1) := by decide +kernel
theorem dX0_mostLeft_9 : decode cX0_mostLeft 9 = .ok (.istore_n 3, 1) := by decide +kernel
theorem dX0_mostLeft_10 : decode cX0_mostLeft 10 = .ok (.iconst 0, 1) := by decide +kernel
theorem dX0_mostLeft_11 : decode cX0_mostLeft 11 = .ok (.istore 4, 2) := by decide +kernel
theorem dX0_mostLeft_13 : decode cX0_mostLeft 13 = .ok (.iload 4, 2) := by decide +kernel
theorem dX0_mostLeft_15 : decode cX0_mostLeft 15 = .ok (.aload_n 0, 1) := by decide +kernel
theorem dX0_mostLeft_16 : decode cX0_mostLeft 16 = .ok (.getfield 28, 3) := by decide +kernel
theorem dX0_mostLeft_19 : decode cX0_mostLeft 19 = .ok (.if_icmp .ge 46, 3) := by decide +kernel
theorem dX0_mostLeft_22 : decode cX0_mostLeft 22 = .ok (.iload_n 1, 1) := by decide +kernel
theorem dX0_mostLeft_23 : decode cX0_mostLeft 23 = .ok (.aload_n 0, 1) := by decide +kernel
theorem dX0_mostLeft_24 : decode cX0_mostLeft 24 = .ok (.getfield 18, 3) := by decide +kernel
theorem dX0_mostLeft_27 : decode cX0_mostLeft 27 = .ok (.iload 4, 2) := by decide +kernel
theorem dX0_mostLeft_29 : decode cX0_mostLeft 29 = .ok (.iaload, 1) := by decide +kernel
theorem dX0_mostLeft_30 : decode cX0_mostLeft 30 = .ok (.aload_n 2, 1) := by decide +kernel
theorem dX0_mostLeft_31 : decode cX0_mostLeft 31 = .ok (.invokestatic 56, 3) := by decide +kernel
theorem dX0_mostLeft_34 : decode cX0_mostLeft 34 = .ok (.istore 5, 2) := by decide +kernel
theorem dX0_mostLeft_36 : decode cX0_mostLeft 36 = .ok (.aload_n 0, 1) := by decide +kernel
theorem dX0_mostLeft_37 : decode cX0_mostLeft 37 = .ok (.getfield 21, 3) := by decide +kernel
theorem dX0_mostLeft_40 : decode cX0_mostLeft 40 = .ok (.iload 5, 2) := by decide +kernel
theorem dX0_mostLeft_42 : decode cX0_mostLeft 42 = .ok (.dup2, 1) := by decide +kernel
theorem dX0_mostLeft_43 : decode cX0_mostLeft 43 = .ok (.iaload, 1) := by decide +kernel
theorem dX0_mostLeft_44 : decode cX0_mostLeft 44 = .ok (.iconst 1, 1) := by decide +kernel
theorem dX0_mostLeft_45 : decode cX0_mostLeft 45 = .ok (.iadd, 1) := by decide +kernel
theorem dX0_mostLeft_46 : decode cX0_mostLeft 46 = .ok (.iastore, 1) := by decide +kernel
theorem dX0_mostLeft_47 : decode cX0_mostLeft 47 = .ok (.iload_n 3, 1) := by decide +kernel
theorem dX0_mostLeft_48 : decode cX0_mostLeft 48 = .ok (.aload_n 0, 1) := by decide +kernel
theorem dX0_mostLeft_49 : decode cX0_mostLeft 49 = .ok (.getfield 21, 3) := by decide +kernel
theorem dX0_mostLeft_52 : decode cX0_mostLeft 52 = .ok (.iload 5, 2) := by decide +kernel
theorem dX0_mostLeft_54 : decode cX0_mostLeft 54 = .ok (.iaload, 1) := by decide +kernel
theorem dX0_mostLeft_55 : decode cX0_mostLeft 55 = .ok (.invokestatic 60, 3) := by decide +kernel
theorem dX0_mostLeft_58 : decode cX0_mostLeft 58 = .ok (.istore_n 3, 1) := by decide +kernel
theorem dX0_mostLeft_59 : decode cX0_mostLeft 59 = .ok (.iinc 4 1, 3) := by decide +kernel
theorem dX0_mostLeft_62 : decode cX0_mostLeft 62 = .ok (.goto (-49), 3) := by decide +kernel
theorem dX0_mostLeft_65 : decode cX0_mostLeft 65 = .ok (.iload_n 3, 1) := by decide +kernel
theorem dX0_mostLeft_66 : decode cX0_mostLeft 66 = .ok (.ireturn, 1) := by decide +kernel
theorem dX0_canBe_0 : decode cX0_canBe 0 = .ok (.iconst 0, 1) := by decide +kernel
theorem dX0_canBe_1 : decode cX0_canBe 1 = .ok (.istore_n 3, 1) := by decide +kernel
theorem dX0_canBe_2 : decode cX0_canBe 2 = .ok (.iload_n 3, 1) := by decide +kernel
theorem dX0_canBe_3 : decode cX0_canBe 3 = .ok (.aload_n 0, 1) := by decide +kernel
theorem dX0_canBe_4 : decode cX0_canBe 4 = .ok (.getfield 24, 3) := by decide +kernel
theorem dX0_canBe_7 : decode cX0_canBe 7 = .ok (.if_icmp .ge 31, 3) := by decide +kernel
theorem dX0_canBe_10 : decode cX0_canBe 10 = .ok (.aload_n 0, 1) := by decide +kernel
theorem dX0_canBe_11 : decode cX0_canBe 11 = .ok (.getfield 9, 3) := by decide +kernel
theorem dX0_canBe_14 : decode cX0_canBe 14 = .ok (.iload_n 3, 1) := by decide +kernel
theorem dX0_canBe_15 : decode cX0_canBe 15 = .ok (.iaload, 1) := by decide +kernel
theorem dX0_canBe_16 : decode cX0_canBe 16 = .ok (.iload_n 1, 1) := by decide +kernel
theorem dX0_canBe_17 : decode cX0_canBe 17 = .ok (.aload_n 2, 1) := by decide +kernel
theorem dX0_canBe_18 : decode cX0_canBe 18 = .ok (.invokestatic 56, 3) := by decide +kernel
theorem dX0_canBe_21 : decode cX0_canBe 21 = .ok (.aload_n 0, 1) := by decide +kernel
theorem dX0_canBe_22 : decode cX0_canBe 22 = .ok (.getfield 15, 3) := by decide +kernel
theorem dX0_canBe_25 : decode cX0_canBe 25 = .ok (.iload_n 3, 1) := by decide +kernel
theorem dX0_canBe_26 : decode cX0_canBe 26 = .ok (.iaload, 1) := by decide +kernel
theorem dX0_canBe_27 : decode cX0_canBe 27 = .ok (.if_icmp .eq 5, 3) := by decide +kernel
theorem dX0_canBe_30 : decode cX0_canBe 30 = .ok (.iconst 0, 1) := by decide +kernel
theorem dX0_canBe_31 : decode cX0_canBe 31 = .ok (.ireturn, 1) := by decide +kernel
theorem dX0_canBe_32 : decode cX0_canBe 32 = .ok (.iinc 3 1, 3) := by decide +kernel
theorem dX0_canBe_35 : decode cX0_canBe 35 = .ok (.goto (-33), 3) := by decide +kernel
theorem dX0_canBe_38 : decode cX0_canBe 38 = .ok (.iconst 1, 1) := by decide +kernel
theorem dX0_canBe_39 : decode cX0_canBe 39 = .ok (.ireturn, 1) := by decide +kernel
theorem dX0_burningTime_0 : decode cX0_burningTime 0 = .ok (.iconst 0, 1) := by decide +kernel
theorem dX0_burningTime_1 : decode cX0_burningTime 1 = .ok (.istore_n 3, 1) := by decide +kernel
theorem dX0_burningTime_2 : decode cX0_burningTime 2 = .ok (.iconst 0, 1) := by decide +kernel
theorem dX0_burningTime_3 : decode cX0_burningTime 3 = .ok (.istore 4, 2) := by decide +kernel
theorem dX0_burningTime_5 : decode cX0_burningTime 5 = .ok (.iload 4, 2) := by decide +kernel
theorem dX0_burningTime_7 : decode cX0_burningTime 7 = .ok (.aload_n 2, 1) := by decide +kernel
theorem dX0_burningTime_8 : decode cX0_burningTime 8 = .ok (.getfield 31, 3) := by decide +kernel
theorem dX0_burningTime_11 : decode cX0_burningTime 11 = .ok (.if_icmp .ge 51, 3) := by decide +kernel
theorem dX0_burningTime_14 : decode cX0_burningTime 14 = .ok (.iload_n 0, 1) := by decide +kernel
theorem dX0_burningTime_15 : decode cX0_burningTime 15 = .ok (.iload 4, 2) := by decide +kernel
theorem dX0_burningTime_17 : decode cX0_burningTime 17 = .ok (.ishr, 1) := by decide +kernel
theorem dX0_burningTime_18 : decode cX0_burningTime 18 = .ok (.iconst 1, 1) := by decide +kernel
theorem dX0_burningTime_19 : decode cX0_burningTime 19 = .ok (.iand, 1) := by decide +kernel
theorem dX0_burningTime_20 : decode cX0_burningTime 20 = .ok (.iconst 1, 1) := by decide +kernel
theorem dX0_burningTime_21 : decode cX0_burningTime 21 = .ok (.if_icmp .ne 35, 3) := by decide +kernel
theorem dX0_burningTime_24 : decode cX0_burningTime 24 = .ok (.iload_n 3, 1) := by decide +kernel
theorem dX0_burningTime_25 : decode cX0_burningTime 25 = .ok (.iload_n 1, 1) := by decide +kernel
theorem dX0_burningTime_26 : decode cX0_burningTime 26 = .ok (.iload 4, 2) := by decide +kernel
theorem dX0_burningTime_28 : decode cX0_burningTime 28 = .ok (.ishr, 1) := by decide +kernel
theorem dX0_burningTime_29 : decode cX0_burningTime 29 = .ok (.iconst 1, 1) := by decide +kernel
theorem dX0_burningTime_30 : decode cX0_burningTime 30 = .ok (.iand, 1) := by decide +kernel
theorem dX0_burningTime_31 : decode cX0_burningTime 31 = .ok (.iconst 1, 1) := by decide +kernel
theorem dX0_burningTime_32 : decode cX0_burningTime 32 = .ok (.if_icmp .ne 15, 3) := by decide +kernel
theorem dX0_burningTime_35 : decode cX0_burningTime 35 = .ok (.aload_n 2, 1) := by decide +kernel
theorem dX0_burningTime_36 : decode cX0_burningTime 36 = .ok (.getfield 66, 3) := by decide +kernel
theorem dX0_burningTime_39 : decode cX0_burningTime 39 = .ok (.iload 4, 2) := by decide +kernel
theorem dX0_burningTime_41 : decode cX0_burningTime 41 = .ok (.iaload, 1) := by decide +kernel
theorem dX0_burningTime_42 : decode cX0_burningTime 42 = .ok (.iconst 2, 1) := by decide +kernel
theorem dX0_burningTime_43 : decode cX0_burningTime 43 = .ok (.idiv, 1) := by decide +kernel
theorem dX0_burningTime_44 : decode cX0_burningTime 44 = .ok (.goto 10, 3) := by decide +kernel
theorem dX0_burningTime_47 : decode cX0_burningTime 47 = .ok (.aload_n 2, 1) := by decide +kernel
theorem dX0_burningTime_48 : decode cX0_burningTime 48 = .ok (.getfield 66, 3) := by decide +kernel
theorem dX0_burningTime_51 : decode cX0_burningTime 51 = .ok (.iload 4, 2) := by decide +kernel
theorem dX0_burningTime_53 : decode cX0_burningTime 53 = .ok (.iaload, 1) := by decide +kernel
theorem dX0_burningTime_54 : decode cX0_burningTime 54 = .ok (.iadd, 1) := by decide +kernel
theorem dX0_burningTime_55 : decode cX0_burningTime 55 = .ok (.istore_n 3, 1) := by decide +kernel
theorem dX0_burningTime_56 : decode cX0_burningTime 56 = .ok (.iinc 4 1, 3) := by decide +kernel
theorem dX0_burningTime_59 : decode cX0_burningTime 59 = .ok (.goto (-54), 3) := by decide +kernel
theorem dX0_burningTime_62 : decode cX0_burningTime 62 = .ok (.iload_n 3, 1) := by decide +kernel
theorem dX0_burningTime_63 : decode cX0_burningTime 63 = .ok (.ireturn, 1) := by decide +kernel
theorem dX1_init_0 : decode cX1_init 0 = .ok (.aload_n 0, 1) := by decide +kernel
theorem dX1_init_1 : decode cX1_init 1 = .ok (.invokespecial 3, 3) := by decide +kernel
theorem dX1_init_4 : decode cX1_init 4 = .ok (.aload_n 0, 1) := by decide +kernel
theorem dX1_init_5 : decode cX1_init 5 = .ok (.new 9, 3) := by decide +kernel
theorem dX1_init_8 : decode cX1_init 8 = .ok (.dup, 1) := by decide +kernel
theorem dX1_init_9 : decode cX1_init 9 = .ok (.bipush 60, 2) := by decide +kernel
theorem dX1_init_11 : decode cX1_init 11 = .ok (.invokespecial 11, 3) := by decide +kernel
theorem dX1_init_14 : decode cX1_init 14 = .ok (.putfield 14, 3) := by decide +kernel
theorem dX1_init_17 : decode cX1_init 17 = .ok (.aload_n 0, 1) := by decide +kernel
theorem dX1_init_18 : decode cX1_init 18 = .ok (.bipush 60, 2) := by decide +kernel
theorem dX1_init_20 : decode cX1_init 20 = .ok (.newarray .int, 2) := by decide +kernel
theorem dX1_init_22 : decode cX1_init 22 = .ok (.putfield 20, 3) := by decide +kernel
theorem dX1_init_25 : decode cX1_init 25 = .ok (.return_, 1) := by decide +kernel
theorem dX1_clear_0 : decode cX1_clear 0 = .ok (.aload_n 0, 1) := by decide +kernel
theorem dX1_clear_1 : decode cX1_clear 1 = .ok (.iconst 0, 1) := by decide +kernel
theorem dX1_clear_2 : decode cX1_clear 2 = .ok (.putfield 24, 3) := by decide +kernel
theorem dX1_clear_5 : decode cX1_clear 5 = .ok (.return_, 1) := by decide +kernel
theorem dX1_remember_0 : decode cX1_remember 0 = .ok (.aload_n 0, 1) := by decide +kernel
theorem dX1_remember_1 : decode cX1_remember 1 = .ok (.getfield 24, 3) := by decide +kernel
theorem dX1_remember_4 : decode cX1_remember 4 = .ok (.bipush 60, 2) := by decide +kernel
theorem dX1_remember_6 : decode cX1_remember 6 = .ok (.if_icmp .ne 26, 3) := by decide +kernel
theorem dX1_remember_9 : decode cX1_remember 9 = .ok (.aload_n 0, 1) := by decide +kernel
theorem dX1_remember_10 : decode cX1_remember 10 = .ok (.aload_n 0, 1) := by decide +kernel
theorem dX1_remember_11 : decode cX1_remember 11 = .ok (.getfield 28, 3) := by decide +kernel
theorem dX1_remember_14 : decode cX1_remember 14 = .ok (.iconst 1, 1) := by decide +kernel
theorem dX1_remember_15 : decode cX1_remember 15 = .ok (.iadd, 1) := by decide +kernel
theorem dX1_remember_16 : decode cX1_remember 16 = .ok (.bipush 60, 2) := by decide +kernel
theorem dX1_remember_18 : decode cX1_remember 18 = .ok (.irem, 1) := by decide +kernel
theorem dX1_remember_19 : decode cX1_remember 19 = .ok (.putfield 28, 3) := by decide +kernel
theorem dX1_remember_22 : decode cX1_remember 22 = .ok (.aload_n 0, 1) := by decide +kernel
theorem dX1_remember_23 : decode cX1_remember 23 = .ok (.dup, 1) := by decide +kernel
theorem dX1_remember_24 : decode cX1_remember 24 = .ok (.getfield 24, 3) := by decide +kernel
theorem dX1_remember_27 : decode cX1_remember 27 = .ok (.iconst 1, 1) := by decide +kernel
theorem dX1_remember_28 : decode cX1_remember 28 = .ok (.isub, 1) := by decide +kernel
theorem dX1_remember_29 : decode cX1_remember 29 = .ok (.putfield 24, 3) := by decide +kernel
theorem dX1_remember_32 : decode cX1_remember 32 = .ok (.aload_n 0, 1) := by decide +kernel
theorem dX1_remember_33 : decode cX1_remember 33 = .ok (.getfield 28, 3) := by decide +kernel
theorem dX1_remember_36 : decode cX1_remember 36 = .ok (.aload_n 0, 1) := by decide +kernel
theorem dX1_remember_37 : decode cX1_remember 37 = .ok (.getfield 24, 3) := by decide +kernel
theorem dX1_remember_40 : decode cX1_remember 40 = .ok (.iadd, 1) := by decide +kernel
theorem dX1_remember_41 : decode cX1_remember 41 = .ok (.bipush 60, 2) := by decide +kernel
theorem dX1_remember_43 : decode cX1_remember 43 = .ok (.irem, 1) := by decide +kernel
theorem dX1_remember_44 : decode cX1_remember 44 = .ok (.istore_n 3, 1) := by decide +kernel
theorem dX1_remember_45 : decode cX1_remember 45 = .ok (.aload_n 0, 1) := by decide +kernel
theorem dX1_remember_46 : decode cX1_remember 46 = .ok (.getfield 20, 3) := by decide +kernel
theorem dX1_remember_49 : decode cX1_remember 49 = .ok (.iload_n 3, 1) := by decide +kernel
theorem dX1_remember_50 : decode cX1_remember 50 = .ok (.iload_n 1, 1) := by decide +kernel
theorem dX1_remember_51 : decode cX1_remember 51 = .ok (.iastore, 1) := by decide +kernel
theorem dX1_remember_52 : decode cX1_remember 52 = .ok (.aload_n 0, 1) := by decide +kernel
theorem dX1_remember_53 : decode cX1_remember 53 = .ok (.getfield 14, 3) := by decide +kernel
theorem dX1_remember_56 : decode cX1_remember 56 = .ok (.iload_n 3, 1) := by decide +kernel
theorem dX1_remember_57 : decode cX1_remember 57 = .ok (.aload_n 2, 1) := by decide +kernel
theorem dX1_remember_58 : decode cX1_remember 58 = .ok (.invokevirtual 31, 3) := by decide +kernel
theorem dX1_remember_61 : decode cX1_remember 61 = .ok (.aload_n 0, 1) := by decide +kernel
theorem dX1_remember_62 : decode cX1_remember 62 = .ok (.dup, 1) := by decide +kernel
theorem dX1_remember_63 : decode cX1_remember 63 = .ok (.getfield 24, 3) := by decide +kernel
theorem dX1_remember_66 : decode cX1_remember 66 = .ok (.iconst 1, 1) := by decide +kernel
theorem dX1_remember_67 : decode cX1_remember 67 = .ok (.iadd, 1) := by decide +kernel
theorem dX1_remember_68 : decode cX1_remember 68 = .ok (.putfield 24, 3) := by decide +kernel
theorem dX1_remember_71 : decode cX1_remember 71 = .ok (.return_, 1) := by decide +kernel
theorem dX1_takeBack_0 : decode cX1_takeBack 0 = .ok (.aload_n 0, 1) := by decide +kernel
theorem dX1_takeBack_1 : decode cX1_takeBack 1 = .ok (.dup, 1) := by decide +kernel
theorem dX1_takeBack_2 : decode cX1_takeBack 2 = .ok (.getfield 24, 3) := by decide +kernel
theorem dX1_takeBack_5 : decode cX1_takeBack 5 = .ok (.iconst 1, 1) := by decide +kernel
theorem dX1_takeBack_6 : decode cX1_takeBack 6 = .ok (.isub, 1) := by decide +kernel
theorem dX1_takeBack_7 : decode cX1_takeBack 7 = .ok (.putfield 24, 3) := by decide +kernel
theorem dX1_takeBack_10 : decode cX1_takeBack 10 = .ok (.aload_n 0, 1) := by decide +kernel
theorem dX1_takeBack_11 : decode cX1_takeBack 11 = .ok (.getfield 28, 3) := by decide +kernel
theorem dX1_takeBack_14 : decode cX1_takeBack 14 = .ok (.aload_n 0, 1) := by decide +kernel
theorem dX1_takeBack_15 : decode cX1_takeBack 15 = .ok (.getfield 24, 3) := by decide +kernel
theorem dX1_takeBack_18 : decode cX1_takeBack 18 = .ok (.iadd, 1) := by decide +kernel
theorem dX1_takeBack_19 : decode cX1_takeBack 19 = .ok (.bipush 60, 2) := by decide +kernel
theorem dX1_takeBack_21 : decode cX1_takeBack 21 = .ok (.irem, 1) := by decide +kernel
theorem dX1_takeBack_22 : decode cX1_takeBack 22 = .ok (.istore_n 2, 1) := by decide +kernel
theorem dX1_takeBack_23 : decode cX1_takeBack 23 = .ok (.aload_n 0, 1) := by decide +kernel
theorem dX1_takeBack_24 : decode cX1_takeBack 24 = .ok (.getfield 14, 3) := by decide +kernel
theorem dX1_takeBack_27 : decode cX1_takeBack 27 = .ok (.iload_n 2, 1) := by decide +kernel
theorem dX1_takeBack_28 : decode cX1_takeBack 28 = .ok (.aload_n 1, 1) := by decide +kernel
theorem dX1_takeBack_29 : decode cX1_takeBack 29 = .ok (.invokevirtual 35, 3) := by decide +kernel
theorem dX1_takeBack_32 : decode cX1_takeBack 32 = .ok (.aload_n 0, 1) := by decide +kernel
theorem dX1_takeBack_33 : decode cX1_takeBack 33 = .ok (.getfield 20, 3) := by decide +kernel
theorem dX1_takeBack_36 : decode cX1_takeBack 36 = .ok (.iload_n 2, 1) := by decide +kernel
theorem dX1_takeBack_37 : decode cX1_takeBack 37 = .ok (.iaload, 1) := by decide +kernel
theorem dX1_takeBack_38 : decode cX1_takeBack 38 = .ok (.ireturn, 1) := by decide +kernel
theorem dX2_byLetter_0 : decode cX2_byLetter 0 = .ok (.iconst 0, 1) := by decide +kernel
theorem dX2_byLetter_1 : decode cX2_byLetter 1 = .ok (.istore_n 1, 1) := by decide +kernel
theorem dX2_byLetter_2 : decode cX2_byLetter 2 = .ok (.iload_n 1, 1) := by decide +kernel
theorem dX2_byLetter_3 : decode cX2_byLetter 3 = .ok (.getstatic 9, 3) := by decide +kernel
theorem dX2_byLetter_6 : decode cX2_byLetter 6 = .ok (.arraylength, 1) := by decide +kernel
theorem dX2_byLetter_7 : decode cX2_byLetter 7 = .ok (.if_icmp .ge 20, 3) := by decide +kernel
theorem dX2_byLetter_10 : decode cX2_byLetter 10 = .ok (.getstatic 9, 3) := by decide +kernel
theorem dX2_byLetter_13 : decode cX2_byLetter 13 = .ok (.iload_n 1, 1) := by decide +kernel
theorem dX2_byLetter_14 : decode cX2_byLetter 14 = .ok (.caload, 1) := by decide +kernel
theorem dX2_byLetter_15 : decode cX2_byLetter 15 = .ok (.iload_n 0, 1) := by decide +kernel
theorem dX2_byLetter_16 : decode cX2_byLetter 16 = .ok (.if_icmp .ne 5, 3) := by decide +kernel
theorem dX2_byLetter_19 : decode cX2_byLetter 19 = .ok (.iload_n 1, 1) := by decide +kernel
theorem dX2_byLetter_20 : decode cX2_byLetter 20 = .ok (.ireturn, 1) := by decide +kernel
theorem dX2_byLetter_21 : decode cX2_byLetter 21 = .ok (.iinc 1 1, 3) := by decide +kernel
theorem dX2_byLetter_24 : decode cX2_byLetter 24 = .ok (.goto (-22), 3) := by decide +kernel
theorem dX2_byLetter_27 : decode cX2_byLetter 27 = .ok (.bipush (-9), 2) := by decide +kernel
theorem dX2_byLetter_29 : decode cX2_byLetter 29 = .ok (.ireturn, 1) := by decide +kernel
theorem dX2_is_0 : decode cX2_is 0 = .ok (.iload_n 0, 1) := by decide +kernel
theorem dX2_is_1 : decode cX2_is 1 = .ok (.iload_n 1, 1) := by decide +kernel
theorem dX2_is_2 : decode cX2_is 2 = .ok (.if_icmp .eq 27, 3) := by decide +kernel
theorem dX2_is_5 : decode cX2_is 5 = .ok (.iload_n 1, 1) := by decide +kernel
theorem dX2_is_6 : decode cX2_is 6 = .ok (.ifCond .eq 23, 3) := by decide +kernel
theorem dX2_is_9 : decode cX2_is 9 = .ok (.iload_n 0, 1) := by decide +kernel
theorem dX2_is_10 : decode cX2_is 10 = .ok (.iconst 4, 1) := by decide +kernel
theorem dX2_is_11 : decode cX2_is 11 = .ok (.if_icmp .ne 8, 3) := by decide +kernel
theorem dX2_is_14 : decode cX2_is 14 = .ok (.iload_n 1, 1) := by decide +kernel
theorem dX2_is_15 : decode cX2_is 15 = .ok (.iconst 2, 1) := by decide +kernel
theorem dX2_is_16 : decode cX2_is 16 = .ok (.if_icmp .eq 13, 3) := by decide +kernel
theorem dX2_is_19 : decode cX2_is 19 = .ok (.iload_n 0, 1) := by decide +kernel
theorem dX2_is_20 : decode cX2_is 20 = .ok (.iconst 5, 1) := by decide +kernel
theorem dX2_is_21 : decode cX2_is 21 = .ok (.if_icmp .ne 12, 3) := by decide +kernel
theorem dX2_is_24 : decode cX2_is 24 = .ok (.iload_n 1, 1) := by decide +kernel
theorem dX2_is_25 : decode cX2_is 25 = .ok (.iconst 3, 1) := by decide +kernel
theorem dX2_is_26 : decode cX2_is 26 = .ok (.if_icmp .ne 7, 3) := by decide +kernel
theorem dX2_is_29 : decode cX2_is 29 = .ok (.iconst 1, 1) := by decide +kernel
theorem dX2_is_30 : decode cX2_is 30 = .ok (.goto 4, 3) := by decide +kernel
theorem dX2_is_33 : decode cX2_is 33 = .ok (.iconst 0, 1) := by decide +kernel
theorem dX2_is_34 : decode cX2_is 34 = .ok (.ireturn, 1) := by decide +kernel
theorem dX2_leaked_0 : decode cX2_leaked 0 = .ok (.iload_n 0, 1) := by decide +kernel
theorem dX2_leaked_1 : decode cX2_leaked 1 = .ok (.iconst 4, 1) := by decide +kernel
theorem dX2_leaked_2 : decode cX2_leaked 2 = .ok (.if_icmp .eq 12, 3) := by decide +kernel
theorem dX2_leaked_5 : decode cX2_leaked 5 = .ok (.iload_n 0, 1) := by decide +kernel
theorem dX2_leaked_6 : decode cX2_leaked 6 = .ok (.iconst 2, 1) := by decide +kernel
theorem dX2_leaked_7 : decode cX2_leaked 7 = .ok (.if_icmp .ne 9, 3) := by decide +kernel
theorem dX2_leaked_10 : decode cX2_leaked 10 = .ok (.iload_n 2, 1) := by decide +kernel
theorem dX2_leaked_11 : decode cX2_leaked 11 = .ok (.ifCond .ne 5, 3) := by decide +kernel
theorem dX2_leaked_14 : decode cX2_leaked 14 = .ok (.iconst 0, 1) := by decide +kernel
theorem dX2_leaked_15 : decode cX2_leaked 15 = .ok (.ireturn, 1) := by decide +kernel
theorem dX2_leaked_16 : decode cX2_leaked 16 = .ok (.iload_n 0, 1) := by decide +kernel
theorem dX2_leaked_17 : decode cX2_leaked 17 = .ok (.iconst 1, 1) := by decide +kernel
theorem dX2_leaked_18 : decode cX2_leaked 18 = .ok (.if_icmp .ne 12, 3) := by decide +kernel
theorem dX2_leaked_21 : decode cX2_leaked 21 = .ok (.iconst 2, 1) := by decide +kernel
theorem dX2_leaked_22 : decode cX2_leaked 22 = .ok (.iload_n 1, 1) := by decide +kernel
theorem dX2_leaked_23 : decode cX2_leaked 23 = .ok (.imul, 1) := by decide +kernel
theorem dX2_leaked_24 : decode cX2_leaked 24 = .ok (.invokestatic 15, 3) := by decide +kernel
theorem dX2_leaked_27 : decode cX2_leaked 27 = .ok (.goto 7, 3) := by decide +kernel
theorem dX2_leaked_30 : decode cX2_leaked 30 = .ok (.iload_n 1, 1) := by decide +kernel
theorem dX2_leaked_31 : decode cX2_leaked 31 = .ok (.invokestatic 15, 3) := by decide +kernel
theorem dX2_leaked_34 : decode cX2_leaked 34 = .ok (.ireturn, 1) := by decide +kernel
theorem dX2_anHour_0 : decode cX2_anHour 0 = .ok (.iload_n 0, 1) := by decide +kernel
theorem dX2_anHour_1 : decode cX2_anHour 1 = .ok (.iconst 5, 1) := by decide +kernel
theorem dX2_anHour_2 : decode cX2_anHour 2 = .ok (.if_icmp .ne 5, 3) := by decide +kernel
theorem dX2_anHour_5 : decode cX2_anHour 5 = .ok (.iconst 3, 1) := by decide +kernel
theorem dX2_anHour_6 : decode cX2_anHour 6 = .ok (.ireturn, 1) := by decide +kernel
theorem dX2_anHour_7 : decode cX2_anHour 7 = .ok (.iload_n 0, 1) := by decide +kernel
theorem dX2_anHour_8 : decode cX2_anHour 8 = .ok (.iconst 3, 1) := by decide +kernel
theorem dX2_anHour_9 : decode cX2_anHour 9 = .ok (.if_icmp .ne 7, 3) := by decide +kernel
theorem dX2_anHour_12 : decode cX2_anHour 12 = .ok (.iconst 2, 1) := by decide +kernel
theorem dX2_anHour_13 : decode cX2_anHour 13 = .ok (.goto 4, 3) := by decide +kernel
theorem dX2_anHour_16 : decode cX2_anHour 16 = .ok (.iconst 1, 1) := by decide +kernel
theorem dX2_anHour_17 : decode cX2_anHour 17 = .ok (.ireturn, 1) := by decide +kernel
theorem dX2_hours_0 : decode cX2_hours 0 = .ok (.iload_n 1, 1) := by decide +kernel
theorem dX2_hours_1 : decode cX2_hours 1 = .ok (.iload_n 0, 1) := by decide +kernel
theorem dX2_hours_2 : decode cX2_hours 2 = .ok (.invokestatic 19, 3) := by decide +kernel
theorem dX2_hours_5 : decode cX2_hours 5 = .ok (.idiv, 1) := by decide +kernel
theorem dX2_hours_6 : decode cX2_hours 6 = .ok (.ireturn, 1) := by decide +kernel
theorem dX2_taken_0 : decode cX2_taken 0 = .ok (.iload_n 0, 1) := by decide +kernel
theorem dX2_taken_1 : decode cX2_taken 1 = .ok (.bipush 10, 2) := by decide +kernel
theorem dX2_taken_3 : decode cX2_taken 3 = .ok (.iload_n 1, 1) := by decide +kernel
theorem dX2_taken_4 : decode cX2_taken 4 = .ok (.imul, 1) := by decide +kernel
theorem dX2_taken_5 : decode cX2_taken 5 = .ok (.bipush 9, 2) := by decide +kernel
theorem dX2_taken_7 : decode cX2_taken 7 = .ok (.iadd, 1) := by decide +kernel
theorem dX2_taken_8 : decode cX2_taken 8 = .ok (.bipush 9, 2) := by decide +kernel
theorem dX2_taken_10 : decode cX2_taken 10 = .ok (.idiv, 1) := by decide +kernel
theorem dX2_taken_11 : decode cX2_taken 11 = .ok (.invokestatic 22, 3) := by decide +kernel
theorem dX2_taken_14 : decode cX2_taken 14 = .ok (.ireturn, 1) := by decide +kernel
theorem dX2_comesOver_0 : decode cX2_comesOver 0 = .ok (.iload_n 0, 1) := by decide +kernel
theorem dX2_comesOver_1 : decode cX2_comesOver 1 = .ok (.iload_n 0, 1) := by decide +kernel
theorem dX2_comesOver_2 : decode cX2_comesOver 2 = .ok (.invokestatic 15, 3) := by decide +kernel
theorem dX2_comesOver_5 : decode cX2_comesOver 5 = .ok (.isub, 1) := by decide +kernel
theorem dX2_comesOver_6 : decode cX2_comesOver 6 = .ok (.ireturn, 1) := by decide +kernel
theorem dX2_leastAheadOfNight_0 : decode cX2_leastAheadOfNight 0 = .ok (.bipush 10, 2) := by decide +kernel
theorem dX2_leastAheadOfNight_2 : decode cX2_leastAheadOfNight 2 = .ok (.iload_n 0, 1) := by decide +kernel
theorem dX2_leastAheadOfNight_3 : decode cX2_leastAheadOfNight 3 = .ok (.imul, 1) := by decide +kernel
theorem dX2_leastAheadOfNight_4 : decode cX2_leastAheadOfNight 4 = .ok (.bipush 8, 2) := by decide +kernel
theorem dX2_leastAheadOfNight_6 : decode cX2_leastAheadOfNight 6 = .ok (.iadd, 1) := by decide +kernel
theorem dX2_leastAheadOfNight_7 : decode cX2_leastAheadOfNight 7 = .ok (.bipush 9, 2) := by decide +kernel
theorem dX2_leastAheadOfNight_9 : decode cX2_leastAheadOfNight 9 = .ok (.idiv, 1) := by decide +kernel
theorem dX2_leastAheadOfNight_10 : decode cX2_leastAheadOfNight 10 = .ok (.ireturn, 1) := by decide +kernel
theorem dX2_tenthsUp_0 : decode cX2_tenthsUp 0 = .ok (.iload_n 0, 1) := by decide +kernel
theorem dX2_tenthsUp_1 : decode cX2_tenthsUp 1 = .ok (.bipush 9, 2) := by decide +kernel
theorem dX2_tenthsUp_3 : decode cX2_tenthsUp 3 = .ok (.iadd, 1) := by decide +kernel
theorem dX2_tenthsUp_4 : decode cX2_tenthsUp 4 = .ok (.bipush 10, 2) := by decide +kernel
theorem dX2_tenthsUp_6 : decode cX2_tenthsUp 6 = .ok (.idiv, 1) := by decide +kernel
theorem dX2_tenthsUp_7 : decode cX2_tenthsUp 7 = .ok (.ireturn, 1) := by decide +kernel
theorem dX3_init_0 : decode cX3_init 0 = .ok (.aload_n 0, 1) := by decide +kernel
theorem dX3_init_1 : decode cX3_init 1 = .ok (.invokespecial 3, 3) := by decide +kernel
theorem dX3_init_4 : decode cX3_init 4 = .ok (.aload_n 0, 1) := by decide +kernel
theorem dX3_init_5 : decode cX3_init 5 = .ok (.bipush 64, 2) := by decide +kernel
theorem dX3_init_7 : decode cX3_init 7 = .ok (.newarray .int, 2) := by decide +kernel
theorem dX3_init_9 : decode cX3_init 9 = .ok (.putfield 9, 3) := by decide +kernel
theorem dX3_init_12 : decode cX3_init 12 = .ok (.aload_n 0, 1) := by decide +kernel
theorem dX3_init_13 : decode cX3_init 13 = .ok (.bipush 64, 2) := by decide +kernel
theorem dX3_init_15 : decode cX3_init 15 = .ok (.newarray .int, 2) := by decide +kernel
theorem dX3_init_17 : decode cX3_init 17 = .ok (.putfield 15, 3) := by decide +kernel
theorem dX3_init_20 : decode cX3_init 20 = .ok (.return_, 1) := by decide +kernel
theorem dX3_choose_0 : decode cX3_choose 0 = .ok (.iconst 1, 1) := by decide +kernel
theorem dX3_choose_1 : decode cX3_choose 1 = .ok (.aload_n 1, 1) := by decide +kernel
theorem dX3_choose_2 : decode cX3_choose 2 = .ok (.getfield 18, 3) := by decide +kernel
theorem dX3_choose_5 : decode cX3_choose 5 = .ok (.ishl, 1) := by decide +kernel
theorem dX3_choose_6 : decode cX3_choose 6 = .ok (.istore_n 2, 1) := by decide +kernel
theorem dX3_choose_7 : decode cX3_choose 7 = .ok (.aload_n 0, 1) := by decide +kernel
theorem dX3_choose_8 : decode cX3_choose 8 = .ok (.getfield 9, 3) := by decide +kernel
theorem dX3_choose_11 : decode cX3_choose 11 = .ok (.ldc 24, 2) := by decide +kernel
theorem dX3_choose_13 : decode cX3_choose 13 = .ok (.invokestatic 25, 3) := by decide +kernel
theorem dX3_choose_16 : decode cX3_choose 16 = .ok (.aload_n 0, 1) := by decide +kernel
theorem dX3_choose_17 : decode cX3_choose 17 = .ok (.getfield 9, 3) := by decide +kernel
theorem dX3_choose_20 : decode cX3_choose 20 = .ok (.iconst 0, 1) := by decide +kernel
theorem dX3_choose_21 : decode cX3_choose 21 = .ok (.iconst 0, 1) := by decide +kernel
theorem dX3_choose_22 : decode cX3_choose 22 = .ok (.iastore, 1) := by decide +kernel
theorem dX3_choose_23 : decode cX3_choose 23 = .ok (.iconst 1, 1) := by decide +kernel
theorem dX3_choose_24 : decode cX3_choose 24 = .ok (.istore_n 3, 1) := by decide +kernel
theorem dX3_choose_25 : decode cX3_choose 25 = .ok (.iload_n 3, 1) := by decide +kernel
theorem dX3_choose_26 : decode cX3_choose 26 = .ok (.iconst 5, 1) := by decide +kernel
theorem dX3_choose_27 : decode cX3_choose 27 = .ok (.if_icmp .ge 30, 3) := by decide +kernel
theorem dX3_choose_30 : decode cX3_choose 30 = .ok (.aload_n 1, 1) := by decide +kernel
theorem dX3_choose_31 : decode cX3_choose 31 = .ok (.getfield 31, 3) := by decide +kernel
theorem dX3_choose_34 : decode cX3_choose 34 = .ok (.iload_n 3, 1) := by decide +kernel
theorem dX3_choose_35 : decode cX3_choose 35 = .ok (.iaload, 1) := by decide +kernel
theorem dX3_choose_36 : decode cX3_choose 36 = .ok (.ifCond .le 15, 3) := by decide +kernel
theorem dX3_choose_39 : decode cX3_choose 39 = .ok (.aload_n 0, 1) := by decide +kernel
theorem dX3_choose_40 : decode cX3_choose 40 = .ok (.aload_n 1, 1) := by decide +kernel
theorem dX3_choose_41 : decode cX3_choose 41 = .ok (.iload_n 3, 1) := by decide +kernel
theorem dX3_choose_42 : decode cX3_choose 42 = .ok (.iload_n 2, 1) := by decide +kernel
theorem dX3_choose_43 : decode cX3_choose 43 = .ok (.invokevirtual 34, 3) := by decide +kernel
theorem dX3_choose_46 : decode cX3_choose 46 = .ok (.aload_n 0, 1) := by decide +kernel
theorem dX3_choose_47 : decode cX3_choose 47 = .ok (.iload_n 2, 1) := by decide +kernel
theorem dX3_choose_48 : decode cX3_choose 48 = .ok (.invokevirtual 38, 3) := by decide +kernel
theorem dX3_choose_51 : decode cX3_choose 51 = .ok (.iinc 3 1, 3) := by decide +kernel
theorem dX3_choose_54 : decode cX3_choose 54 = .ok (.goto (-29), 3) := by decide +kernel
theorem dX3_choose_57 : decode cX3_choose 57 = .ok (.aload_n 0, 1) := by decide +kernel
theorem dX3_choose_58 : decode cX3_choose 58 = .ok (.iconst 0, 1) := by decide +kernel
theorem dX3_choose_59 : decode cX3_choose 59 = .ok (.putfield 42, 3) := by decide +kernel
theorem dX3_choose_62 : decode cX3_choose 62 = .ok (.iconst 0, 1) := by decide +kernel
theorem dX3_choose_63 : decode cX3_choose 63 = .ok (.istore_n 3, 1) := by decide +kernel
theorem dX3_choose_64 : decode cX3_choose 64 = .ok (.iload_n 3, 1) := by decide +kernel
theorem dX3_choose_65 : decode cX3_choose 65 = .ok (.iload_n 2, 1) := by decide +kernel
theorem dX3_choose_66 : decode cX3_choose 66 = .ok (.if_icmp .ge 26, 3) := by decide +kernel
theorem dX3_choose_69 : decode cX3_choose 69 = .ok (.aload_n 0, 1) := by decide +kernel
theorem dX3_choose_70 : decode cX3_choose 70 = .ok (.aload_n 0, 1) := by decide +kernel
theorem dX3_choose_71 : decode cX3_choose 71 = .ok (.getfield 42, 3) := by decide +kernel
theorem dX3_choose_74 : decode cX3_choose 74 = .ok (.aload_n 0, 1) := by decide +kernel
theorem dX3_choose_75 : decode cX3_choose 75 = .ok (.getfield 9, 3) := by decide +kernel
theorem dX3_choose_78 : decode cX3_choose 78 = .ok (.iload_n 3, 1) := by decide +kernel
theorem dX3_choose_79 : decode cX3_choose 79 = .ok (.iaload, 1) := by decide +kernel
theorem dX3_choose_80 : decode cX3_choose 80 = .ok (.invokestatic 45, 3) := by decide +kernel
theorem dX3_choose_83 : decode cX3_choose 83 = .ok (.putfield 42, 3) := by decide +kernel
theorem dX3_choose_86 : decode cX3_choose 86 = .ok (.iinc 3 1, 3) := by decide +kernel
theorem dX3_choose_89 : decode cX3_choose 89 = .ok (.goto (-25), 3) := by decide +kernel
theorem dX3_choose_92 : decode cX3_choose 92 = .ok (.return_, 1) := by decide +kernel
theorem dX3_litValleys_0 : decode cX3_litValleys 0 = .ok (.aload_n 0, 1) := by decide +kernel
theorem dX3_litValleys_1 : decode cX3_litValleys 1 = .ok (.getfield 42, 3) := by decide +kernel
theorem dX3_litValleys_4 : decode cX3_litValleys 4 = .ok (.ldc 51, 2) := by decide +kernel
theorem dX3_litValleys_6 : decode cX3_litValleys 6 = .ok (.invokestatic 52, 3) := by decide +kernel
theorem dX3_litValleys_9 : decode cX3_litValleys 9 = .ok (.ineg, 1) := by decide +kernel
theorem dX3_litValleys_10 : decode cX3_litValleys 10 = .ok (.ireturn, 1) := by decide +kernel
theorem dX3_figures_0 : decode cX3_figures 0 = .ok (.aload_n 0, 1) := by decide +kernel
theorem dX3_figures_1 : decode cX3_figures 1 = .ok (.getfield 42, 3) := by decide +kernel
theorem dX3_figures_4 : decode cX3_figures 4 = .ok (.ldc 51, 2) := by decide +kernel
theorem dX3_figures_6 : decode cX3_figures 6 = .ok (.invokestatic 55, 3) := by decide +kernel
theorem dX3_figures_9 : decode cX3_figures 9 = .ok (.sipush 15625, 3) := by decide +kernel
theorem dX3_figures_12 : decode cX3_figures 12 = .ok (.irem, 1) := by decide +kernel
theorem dX3_figures_13 : decode cX3_figures 13 = .ok (.ireturn, 1) := by decide +kernel
theorem dX3_priceLighting_0 : decode cX3_priceLighting 0 = .ok (.iconst 0, 1) := by decide +kernel
theorem dX3_priceLighting_1 : decode cX3_priceLighting 1 = .ok (.istore 4, 2) := by decide +kernel
theorem dX3_priceLighting_3 : decode cX3_priceLighting 3 = .ok (.iload 4, 2) := by decide +kernel
theorem dX3_priceLighting_5 : decode cX3_priceLighting 5 = .ok (.iload_n 3, 1) := by decide +kernel
theorem dX3_priceLighting_6 : decode cX3_priceLighting 6 = .ok (.if_icmp .ge 73, 3) := by decide +kernel
theorem dX3_priceLighting_9 : decode cX3_priceLighting 9 = .ok (.aload_n 1, 1) := by decide +kernel
theorem dX3_priceLighting_10 : decode cX3_priceLighting 10 = .ok (.iload 4, 2) := by decide +kernel
theorem dX3_priceLighting_12 : decode cX3_priceLighting 12 = .ok (.iload_n 2, 1) := by decide +kernel
theorem dX3_priceLighting_13 : decode cX3_priceLighting 13 = .ok (.invokevirtual 58, 3) := by decide +kernel
theorem dX3_priceLighting_16 : decode cX3_priceLighting 16 = .ok (.aload_n 1, 1) := by decide +kernel
theorem dX3_priceLighting_17 : decode cX3_priceLighting 17 = .ok (.getfield 31, 3) := by decide +kernel
theorem dX3_priceLighting_20 : decode cX3_priceLighting 20 = .ok (.iload_n 2, 1) := by decide +kernel
theorem dX3_priceLighting_21 : decode cX3_priceLighting 21 = .ok (.iaload, 1) := by decide +kernel
theorem dX3_priceLighting_22 : decode cX3_priceLighting 22 = .ok (.if_icmp .lt 7, 3) := by decide +kernel
theorem dX3_priceLighting_25 : decode cX3_priceLighting 25 = .ok (.iconst 1, 1) := by decide +kernel
theorem dX3_priceLighting_26 : decode cX3_priceLighting 26 = .ok (.goto 4, 3) := by decide +kernel
theorem dX3_priceLighting_29 : decode cX3_priceLighting 29 = .ok (.iconst 0, 1) := by decide +kernel
theorem dX3_priceLighting_30 : decode cX3_priceLighting 30 = .ok (.istore 5, 2) := by decide +kernel
theorem dX3_priceLighting_32 : decode cX3_priceLighting 32 = .ok (.iload 4, 2) := by decide +kernel
theorem dX3_priceLighting_34 : decode cX3_priceLighting 34 = .ok (.invokestatic 61, 3) := by decide +kernel
theorem dX3_priceLighting_37 : decode cX3_priceLighting 37 = .ok (.sipush 15625, 3) := by decide +kernel
theorem dX3_priceLighting_40 : decode cX3_priceLighting 40 = .ok (.imul, 1) := by decide +kernel
theorem dX3_priceLighting_41 : decode cX3_priceLighting 41 = .ok (.istore 6, 2) := by decide +kernel
theorem dX3_priceLighting_43 : decode cX3_priceLighting 43 = .ok (.aload_n 0, 1) := by decide +kernel
theorem dX3_priceLighting_44 : decode cX3_priceLighting 44 = .ok (.getfield 15, 3) := by decide +kernel
theorem dX3_priceLighting_47 : decode cX3_priceLighting 47 = .ok (.iload 4, 2) := by decide +kernel
theorem dX3_priceLighting_49 : decode cX3_priceLighting 49 = .ok (.iload 5, 2) := by decide +kernel
theorem dX3_priceLighting_51 : decode cX3_priceLighting 51 = .ok (.ifCond .eq 19, 3) := by decide +kernel
theorem dX3_priceLighting_54 : decode cX3_priceLighting 54 = .ok (.iload 6, 2) := by decide +kernel
theorem dX3_priceLighting_56 : decode cX3_priceLighting 56 = .ok (.aload_n 1, 1) := by decide +kernel
theorem dX3_priceLighting_57 : decode cX3_priceLighting 57 = .ok (.iload 4, 2) := by decide +kernel
theorem dX3_priceLighting_59 : decode cX3_priceLighting 59 = .ok (.iload_n 2, 1) := by decide +kernel
theorem dX3_priceLighting_60 : decode cX3_priceLighting 60 = .ok (.invokestatic 67, 3) := by decide +kernel
theorem dX3_priceLighting_63 : decode cX3_priceLighting 63 = .ok (.iadd, 1) := by decide +kernel
theorem dX3_priceLighting_64 : decode cX3_priceLighting 64 = .ok (.ldc 51, 2) := by decide +kernel
theorem dX3_priceLighting_66 : decode cX3_priceLighting 66 = .ok (.isub, 1) := by decide +kernel
theorem dX3_priceLighting_67 : decode cX3_priceLighting 67 = .ok (.goto 5, 3) := by decide +kernel
theorem dX3_priceLighting_70 : decode cX3_priceLighting 70 = .ok (.ldc 24, 2) := by decide +kernel
theorem dX3_priceLighting_72 : decode cX3_priceLighting 72 = .ok (.iastore, 1) := by decide +kernel
theorem dX3_priceLighting_73 : decode cX3_priceLighting 73 = .ok (.iinc 4 1, 3) := by decide +kernel
theorem dX3_priceLighting_76 : decode cX3_priceLighting 76 = .ok (.goto (-73), 3) := by decide +kernel
theorem dX3_priceLighting_79 : decode cX3_priceLighting 79 = .ok (.return_, 1) := by decide +kernel
theorem dX3_figuresOf_0 : decode cX3_figuresOf 0 = .ok (.iconst 0, 1) := by decide +kernel
theorem dX3_figuresOf_1 : decode cX3_figuresOf 1 = .ok (.istore_n 3, 1) := by decide +kernel
theorem dX3_figuresOf_2 : decode cX3_figuresOf 2 = .ok (.iconst 0, 1) := by decide +kernel
theorem dX3_figuresOf_3 : decode cX3_figuresOf 3 = .ok (.istore 4, 2) := by decide +kernel
theorem dX3_figuresOf_5 : decode cX3_figuresOf 5 = .ok (.iload 4, 2) := by decide +kernel
theorem dX3_figuresOf_7 : decode cX3_figuresOf 7 = .ok (.aload_n 0, 1) := by decide +kernel
theorem dX3_figuresOf_8 : decode cX3_figuresOf 8 = .ok (.getfield 18, 3) := by decide +kernel
theorem dX3_figuresOf_11 : decode cX3_figuresOf 11 = .ok (.if_icmp .ge 29, 3) := by decide +kernel
theorem dX3_figuresOf_14 : decode cX3_figuresOf 14 = .ok (.iconst 5, 1) := by decide +kernel
theorem dX3_figuresOf_15 : decode cX3_figuresOf 15 = .ok (.iload_n 3, 1) := by decide +kernel
theorem dX3_figuresOf_16 : decode cX3_figuresOf 16 = .ok (.imul, 1) := by decide +kernel
theorem dX3_figuresOf_17 : decode cX3_figuresOf 17 = .ok (.iload_n 1, 1) := by decide +kernel
theorem dX3_figuresOf_18 : decode cX3_figuresOf 18 = .ok (.iload 4, 2) := by decide +kernel
theorem dX3_figuresOf_20 : decode cX3_figuresOf 20 = .ok (.ishr, 1) := by decide +kernel
theorem dX3_figuresOf_21 : decode cX3_figuresOf 21 = .ok (.iconst 1, 1) := by decide +kernel
theorem dX3_figuresOf_22 : decode cX3_figuresOf 22 = .ok (.iand, 1) := by decide +kernel
theorem dX3_figuresOf_23 : decode cX3_figuresOf 23 = .ok (.iconst 1, 1) := by decide +kernel
theorem dX3_figuresOf_24 : decode cX3_figuresOf 24 = .ok (.if_icmp .ne 7, 3) := by decide +kernel
theorem dX3_figuresOf_27 : decode cX3_figuresOf 27 = .ok (.iload_n 2, 1) := by decide +kernel
theorem dX3_figuresOf_28 : decode cX3_figuresOf 28 = .ok (.goto 4, 3) := by decide +kernel
theorem dX3_figuresOf_31 : decode cX3_figuresOf 31 = .ok (.iconst 0, 1) := by decide +kernel
theorem dX3_figuresOf_32 : decode cX3_figuresOf 32 = .ok (.iadd, 1) := by decide +kernel
theorem dX3_figuresOf_33 : decode cX3_figuresOf 33 = .ok (.istore_n 3, 1) := by decide +kernel
theorem dX3_figuresOf_34 : decode cX3_figuresOf 34 = .ok (.iinc 4 1, 3) := by decide +kernel
theorem dX3_figuresOf_37 : decode cX3_figuresOf 37 = .ok (.goto (-32), 3) := by decide +kernel
theorem dX3_figuresOf_40 : decode cX3_figuresOf 40 = .ok (.iload_n 3, 1) := by decide +kernel
theorem dX3_figuresOf_41 : decode cX3_figuresOf 41 = .ok (.ireturn, 1) := by decide +kernel
theorem dX3_addValley_0 : decode cX3_addValley 0 = .ok (.iload_n 1, 1) := by decide +kernel
theorem dX3_addValley_1 : decode cX3_addValley 1 = .ok (.iconst 1, 1) := by decide +kernel
theorem dX3_addValley_2 : decode cX3_addValley 2 = .ok (.isub, 1) := by decide +kernel
