theorem dX3_readTests_12 : decode cX3_readTests 12 = .ok (.if_icmp .ge 47, 3) := by decide +kernel
theorem dX3_readTests_15 : decode cX3_readTests 15 = .ok (.iload_n 2, 1) := by decide +kernel
theorem dX3_readTests_16 : decode cX3_readTests 16 = .ok (.ifCond .eq 43, 3) := by decide +kernel
theorem dX3_readTests_19 : decode cX3_readTests 19 = .ok (.aload_n 0, 1) := by decide +kernel
theorem dX3_readTests_20 : decode cX3_readTests 20 = .ok (.invokevirtual 41, 3) := by decide +kernel
theorem dX3_readTests_23 : decode cX3_readTests 23 = .ok (.bipush (-11), 2) := by decide +kernel
theorem dX3_readTests_25 : decode cX3_readTests 25 = .ok (.if_icmp .ne 34, 3) := by decide +kernel
theorem dX3_readTests_28 : decode cX3_readTests 28 = .ok (.aload_n 0, 1) := by decide +kernel
theorem dX3_readTests_29 : decode cX3_readTests 29 = .ok (.dup, 1) := by decide +kernel
theorem dX3_readTests_30 : decode cX3_readTests 30 = .ok (.getfield 34, 3) := by decide +kernel
theorem dX3_readTests_33 : decode cX3_readTests 33 = .ok (.iconst 1, 1) := by decide +kernel
theorem dX3_readTests_34 : decode cX3_readTests 34 = .ok (.iadd, 1) := by decide +kernel
theorem dX3_readTests_35 : decode cX3_readTests 35 = .ok (.putfield 34, 3) := by decide +kernel
theorem dX3_readTests_38 : decode cX3_readTests 38 = .ok (.aload_n 0, 1) := by decide +kernel
theorem dX3_readTests_39 : decode cX3_readTests 39 = .ok (.iload_n 1, 1) := by decide +kernel
theorem dX3_readTests_40 : decode cX3_readTests 40 = .ok (.invokevirtual 73, 3) := by decide +kernel
theorem dX3_readTests_43 : decode cX3_readTests 43 = .ok (.istore_n 2, 1) := by decide +kernel
theorem dX3_readTests_44 : decode cX3_readTests 44 = .ok (.aload_n 0, 1) := by decide +kernel
theorem dX3_readTests_45 : decode cX3_readTests 45 = .ok (.getfield 25, 3) := by decide +kernel
theorem dX3_readTests_48 : decode cX3_readTests 48 = .ok (.bipush (-11), 2) := by decide +kernel
theorem dX3_readTests_50 : decode cX3_readTests 50 = .ok (.invokevirtual 76, 3) := by decide +kernel
theorem dX3_readTests_53 : decode cX3_readTests 53 = .ok (.iinc 3 1, 3) := by decide +kernel
theorem dX3_readTests_56 : decode cX3_readTests 56 = .ok (.goto (-48), 3) := by decide +kernel
theorem dX3_readTests_59 : decode cX3_readTests 59 = .ok (.iload_n 2, 1) := by decide +kernel
theorem dX3_readTests_60 : decode cX3_readTests 60 = .ok (.ireturn, 1) := by decide +kernel
theorem dX3_readTest_0 : decode cX3_readTest 0 = .ok (.aload_n 0, 1) := by decide +kernel
theorem dX3_readTest_1 : decode cX3_readTest 1 = .ok (.iload_n 1, 1) := by decide +kernel
theorem dX3_readTest_2 : decode cX3_readTest 2 = .ok (.invokevirtual 80, 3) := by decide +kernel
theorem dX3_readTest_5 : decode cX3_readTest 5 = .ok (.ifCond .ne 5, 3) := by decide +kernel
theorem dX3_readTest_8 : decode cX3_readTest 8 = .ok (.iconst 0, 1) := by decide +kernel
theorem dX3_readTest_9 : decode cX3_readTest 9 = .ok (.ireturn, 1) := by decide +kernel
theorem dX3_readTest_10 : decode cX3_readTest 10 = .ok (.aload_n 0, 1) := by decide +kernel
theorem dX3_readTest_11 : decode cX3_readTest 11 = .ok (.invokevirtual 41, 3) := by decide +kernel
theorem dX3_readTest_14 : decode cX3_readTest 14 = .ok (.istore_n 2, 1) := by decide +kernel
theorem dX3_readTest_15 : decode cX3_readTest 15 = .ok (.iload_n 2, 1) := by decide +kernel
theorem dX3_readTest_16 : decode cX3_readTest 16 = .ok (.bipush (-9), 2) := by decide +kernel
theorem dX3_readTest_18 : decode cX3_readTest 18 = .ok (.if_icmp .eq 11, 3) := by decide +kernel
theorem dX3_readTest_21 : decode cX3_readTest 21 = .ok (.iload_n 2, 1) := by decide +kernel
theorem dX3_readTest_22 : decode cX3_readTest 22 = .ok (.bipush (-10), 2) := by decide +kernel
theorem dX3_readTest_24 : decode cX3_readTest 24 = .ok (.if_icmp .eq 5, 3) := by decide +kernel
theorem dX3_readTest_27 : decode cX3_readTest 27 = .ok (.iconst 1, 1) := by decide +kernel
theorem dX3_readTest_28 : decode cX3_readTest 28 = .ok (.ireturn, 1) := by decide +kernel
theorem dX3_readTest_29 : decode cX3_readTest 29 = .ok (.aload_n 0, 1) := by decide +kernel
theorem dX3_readTest_30 : decode cX3_readTest 30 = .ok (.dup, 1) := by decide +kernel
theorem dX3_readTest_31 : decode cX3_readTest 31 = .ok (.getfield 34, 3) := by decide +kernel
theorem dX3_readTest_34 : decode cX3_readTest 34 = .ok (.iconst 1, 1) := by decide +kernel
theorem dX3_readTest_35 : decode cX3_readTest 35 = .ok (.iadd, 1) := by decide +kernel
theorem dX3_readTest_36 : decode cX3_readTest 36 = .ok (.putfield 34, 3) := by decide +kernel
theorem dX3_readTest_39 : decode cX3_readTest 39 = .ok (.aload_n 0, 1) := by decide +kernel
theorem dX3_readTest_40 : decode cX3_readTest 40 = .ok (.iload_n 1, 1) := by decide +kernel
theorem dX3_readTest_41 : decode cX3_readTest 41 = .ok (.invokevirtual 80, 3) := by decide +kernel
theorem dX3_readTest_44 : decode cX3_readTest 44 = .ok (.istore_n 3, 1) := by decide +kernel
theorem dX3_readTest_45 : decode cX3_readTest 45 = .ok (.aload_n 0, 1) := by decide +kernel
theorem dX3_readTest_46 : decode cX3_readTest 46 = .ok (.getfield 25, 3) := by decide +kernel
theorem dX3_readTest_49 : decode cX3_readTest 49 = .ok (.iload_n 2, 1) := by decide +kernel
theorem dX3_readTest_50 : decode cX3_readTest 50 = .ok (.invokevirtual 76, 3) := by decide +kernel
theorem dX3_readTest_53 : decode cX3_readTest 53 = .ok (.iload_n 3, 1) := by decide +kernel
theorem dX3_readTest_54 : decode cX3_readTest 54 = .ok (.ireturn, 1) := by decide +kernel
theorem dX3_readSum_0 : decode cX3_readSum 0 = .ok (.aload_n 0, 1) := by decide +kernel
theorem dX3_readSum_1 : decode cX3_readSum 1 = .ok (.iload_n 1, 1) := by decide +kernel
theorem dX3_readSum_2 : decode cX3_readSum 2 = .ok (.invokevirtual 83, 3) := by decide +kernel
theorem dX3_readSum_5 : decode cX3_readSum 5 = .ok (.istore_n 2, 1) := by decide +kernel
theorem dX3_readSum_6 : decode cX3_readSum 6 = .ok (.iconst 0, 1) := by decide +kernel
theorem dX3_readSum_7 : decode cX3_readSum 7 = .ok (.istore_n 3, 1) := by decide +kernel
theorem dX3_readSum_8 : decode cX3_readSum 8 = .ok (.iload_n 3, 1) := by decide +kernel
theorem dX3_readSum_9 : decode cX3_readSum 9 = .ok (.sipush 600, 3) := by decide +kernel
theorem dX3_readSum_12 : decode cX3_readSum 12 = .ok (.if_icmp .ge 62, 3) := by decide +kernel
theorem dX3_readSum_15 : decode cX3_readSum 15 = .ok (.iload_n 2, 1) := by decide +kernel
theorem dX3_readSum_16 : decode cX3_readSum 16 = .ok (.ifCond .eq 58, 3) := by decide +kernel
theorem dX3_readSum_19 : decode cX3_readSum 19 = .ok (.aload_n 0, 1) := by decide +kernel
theorem dX3_readSum_20 : decode cX3_readSum 20 = .ok (.invokevirtual 41, 3) := by decide +kernel
theorem dX3_readSum_23 : decode cX3_readSum 23 = .ok (.bipush (-7), 2) := by decide +kernel
theorem dX3_readSum_25 : decode cX3_readSum 25 = .ok (.if_icmp .eq 12, 3) := by decide +kernel
theorem dX3_readSum_28 : decode cX3_readSum 28 = .ok (.aload_n 0, 1) := by decide +kernel
theorem dX3_readSum_29 : decode cX3_readSum 29 = .ok (.invokevirtual 41, 3) := by decide +kernel
theorem dX3_readSum_32 : decode cX3_readSum 32 = .ok (.bipush (-8), 2) := by decide +kernel
theorem dX3_readSum_34 : decode cX3_readSum 34 = .ok (.if_icmp .ne 40, 3) := by decide +kernel
theorem dX3_readSum_37 : decode cX3_readSum 37 = .ok (.aload_n 0, 1) := by decide +kernel
theorem dX3_readSum_38 : decode cX3_readSum 38 = .ok (.invokevirtual 41, 3) := by decide +kernel
theorem dX3_readSum_41 : decode cX3_readSum 41 = .ok (.istore 4, 2) := by decide +kernel
theorem dX3_readSum_43 : decode cX3_readSum 43 = .ok (.aload_n 0, 1) := by decide +kernel
theorem dX3_readSum_44 : decode cX3_readSum 44 = .ok (.dup, 1) := by decide +kernel
theorem dX3_readSum_45 : decode cX3_readSum 45 = .ok (.getfield 34, 3) := by decide +kernel
theorem dX3_readSum_48 : decode cX3_readSum 48 = .ok (.iconst 1, 1) := by decide +kernel
theorem dX3_readSum_49 : decode cX3_readSum 49 = .ok (.iadd, 1) := by decide +kernel
theorem dX3_readSum_50 : decode cX3_readSum 50 = .ok (.putfield 34, 3) := by decide +kernel
theorem dX3_readSum_53 : decode cX3_readSum 53 = .ok (.aload_n 0, 1) := by decide +kernel
theorem dX3_readSum_54 : decode cX3_readSum 54 = .ok (.iload_n 1, 1) := by decide +kernel
theorem dX3_readSum_55 : decode cX3_readSum 55 = .ok (.invokevirtual 83, 3) := by decide +kernel
theorem dX3_readSum_58 : decode cX3_readSum 58 = .ok (.istore_n 2, 1) := by decide +kernel
theorem dX3_readSum_59 : decode cX3_readSum 59 = .ok (.aload_n 0, 1) := by decide +kernel
theorem dX3_readSum_60 : decode cX3_readSum 60 = .ok (.getfield 25, 3) := by decide +kernel
theorem dX3_readSum_63 : decode cX3_readSum 63 = .ok (.iload 4, 2) := by decide +kernel
theorem dX3_readSum_65 : decode cX3_readSum 65 = .ok (.invokevirtual 76, 3) := by decide +kernel
theorem dX3_readSum_68 : decode cX3_readSum 68 = .ok (.iinc 3 1, 3) := by decide +kernel
theorem dX3_readSum_71 : decode cX3_readSum 71 = .ok (.goto (-63), 3) := by decide +kernel
theorem dX3_readSum_74 : decode cX3_readSum 74 = .ok (.iload_n 2, 1) := by decide +kernel
theorem dX3_readSum_75 : decode cX3_readSum 75 = .ok (.ireturn, 1) := by decide +kernel
theorem dX3_readPart_0 : decode cX3_readPart 0 = .ok (.aload_n 0, 1) := by decide +kernel
theorem dX3_readPart_1 : decode cX3_readPart 1 = .ok (.invokevirtual 41, 3) := by decide +kernel
theorem dX3_readPart_4 : decode cX3_readPart 4 = .ok (.istore_n 2, 1) := by decide +kernel
theorem dX3_readPart_5 : decode cX3_readPart 5 = .ok (.iload_n 2, 1) := by decide +kernel
theorem dX3_readPart_6 : decode cX3_readPart 6 = .ok (.bipush (-6), 2) := by decide +kernel
theorem dX3_readPart_8 : decode cX3_readPart 8 = .ok (.if_icmp .ge 15, 3) := by decide +kernel
theorem dX3_readPart_11 : decode cX3_readPart 11 = .ok (.iload_n 2, 1) := by decide +kernel
theorem dX3_readPart_12 : decode cX3_readPart 12 = .ok (.bipush (-15), 2) := by decide +kernel
theorem dX3_readPart_14 : decode cX3_readPart 14 = .ok (.if_icmp .eq 9, 3) := by decide +kernel
theorem dX3_readPart_17 : decode cX3_readPart 17 = .ok (.aload_n 0, 1) := by decide +kernel
theorem dX3_readPart_18 : decode cX3_readPart 18 = .ok (.iconst 1, 1) := by decide +kernel
theorem dX3_readPart_19 : decode cX3_readPart 19 = .ok (.invokevirtual 56, 3) := by decide +kernel
theorem dX3_readPart_22 : decode cX3_readPart 22 = .ok (.ireturn, 1) := by decide +kernel
theorem dX3_readPart_23 : decode cX3_readPart 23 = .ok (.iload_n 1, 1) := by decide +kernel
theorem dX3_readPart_24 : decode cX3_readPart 24 = .ok (.iconst 5, 1) := by decide +kernel
theorem dX3_readPart_25 : decode cX3_readPart 25 = .ok (.if_icmp .le 9, 3) := by decide +kernel
theorem dX3_readPart_28 : decode cX3_readPart 28 = .ok (.aload_n 0, 1) := by decide +kernel
theorem dX3_readPart_29 : decode cX3_readPart 29 = .ok (.iconst 5, 1) := by decide +kernel
theorem dX3_readPart_30 : decode cX3_readPart 30 = .ok (.invokevirtual 56, 3) := by decide +kernel
theorem dX3_readPart_33 : decode cX3_readPart 33 = .ok (.ireturn, 1) := by decide +kernel
theorem dX3_readPart_34 : decode cX3_readPart 34 = .ok (.aload_n 0, 1) := by decide +kernel
theorem dX3_readPart_35 : decode cX3_readPart 35 = .ok (.dup, 1) := by decide +kernel
theorem dX3_readPart_36 : decode cX3_readPart 36 = .ok (.getfield 34, 3) := by decide +kernel
theorem dX3_readPart_39 : decode cX3_readPart 39 = .ok (.iconst 1, 1) := by decide +kernel
theorem dX3_readPart_40 : decode cX3_readPart 40 = .ok (.iadd, 1) := by decide +kernel
theorem dX3_readPart_41 : decode cX3_readPart 41 = .ok (.putfield 34, 3) := by decide +kernel
theorem dX3_readPart_44 : decode cX3_readPart 44 = .ok (.iload_n 2, 1) := by decide +kernel
theorem dX3_readPart_45 : decode cX3_readPart 45 = .ok (.bipush (-15), 2) := by decide +kernel
theorem dX3_readPart_47 : decode cX3_readPart 47 = .ok (.if_icmp .ne 28, 3) := by decide +kernel
theorem dX3_readPart_50 : decode cX3_readPart 50 = .ok (.aload_n 0, 1) := by decide +kernel
theorem dX3_readPart_51 : decode cX3_readPart 51 = .ok (.iload_n 1, 1) := by decide +kernel
theorem dX3_readPart_52 : decode cX3_readPart 52 = .ok (.iconst 1, 1) := by decide +kernel
theorem dX3_readPart_53 : decode cX3_readPart 53 = .ok (.iadd, 1) := by decide +kernel
theorem dX3_readPart_54 : decode cX3_readPart 54 = .ok (.invokevirtual 70, 3) := by decide +kernel
theorem dX3_readPart_57 : decode cX3_readPart 57 = .ok (.ifCond .eq 16, 3) := by decide +kernel
theorem dX3_readPart_60 : decode cX3_readPart 60 = .ok (.aload_n 0, 1) := by decide +kernel
theorem dX3_readPart_61 : decode cX3_readPart 61 = .ok (.bipush (-16), 2) := by decide +kernel
theorem dX3_readPart_63 : decode cX3_readPart 63 = .ok (.invokevirtual 67, 3) := by decide +kernel
theorem dX3_readPart_66 : decode cX3_readPart 66 = .ok (.ifCond .eq 7, 3) := by decide +kernel
theorem dX3_readPart_69 : decode cX3_readPart 69 = .ok (.iconst 1, 1) := by decide +kernel
theorem dX3_readPart_70 : decode cX3_readPart 70 = .ok (.goto 4, 3) := by decide +kernel
theorem dX3_readPart_73 : decode cX3_readPart 73 = .ok (.iconst 0, 1) := by decide +kernel
theorem dX3_readPart_74 : decode cX3_readPart 74 = .ok (.ireturn, 1) := by decide +kernel
theorem dX3_readPart_75 : decode cX3_readPart 75 = .ok (.aload_n 0, 1) := by decide +kernel
theorem dX3_readPart_76 : decode cX3_readPart 76 = .ok (.getfield 25, 3) := by decide +kernel
theorem dX3_readPart_79 : decode cX3_readPart 79 = .ok (.iload_n 2, 1) := by decide +kernel
theorem dX3_readPart_80 : decode cX3_readPart 80 = .ok (.invokevirtual 76, 3) := by decide +kernel
theorem dX3_readPart_83 : decode cX3_readPart 83 = .ok (.iconst 1, 1) := by decide +kernel
theorem dX3_readPart_84 : decode cX3_readPart 84 = .ok (.ireturn, 1) := by decide +kernel
theorem dX3_take_0 : decode cX3_take 0 = .ok (.aload_n 0, 1) := by decide +kernel
theorem dX3_take_1 : decode cX3_take 1 = .ok (.invokevirtual 41, 3) := by decide +kernel
theorem dX3_take_4 : decode cX3_take 4 = .ok (.iload_n 1, 1) := by decide +kernel
theorem dX3_take_5 : decode cX3_take 5 = .ok (.if_icmp .eq 9, 3) := by decide +kernel
theorem dX3_take_8 : decode cX3_take 8 = .ok (.aload_n 0, 1) := by decide +kernel
theorem dX3_take_9 : decode cX3_take 9 = .ok (.iconst 1, 1) := by decide +kernel
theorem dX3_take_10 : decode cX3_take 10 = .ok (.invokevirtual 56, 3) := by decide +kernel
theorem dX3_take_13 : decode cX3_take 13 = .ok (.ireturn, 1) := by decide +kernel
theorem dX3_take_14 : decode cX3_take 14 = .ok (.aload_n 0, 1) := by decide +kernel
theorem dX3_take_15 : decode cX3_take 15 = .ok (.dup, 1) := by decide +kernel
theorem dX3_take_16 : decode cX3_take 16 = .ok (.getfield 34, 3) := by decide +kernel
theorem dX3_take_19 : decode cX3_take 19 = .ok (.iconst 1, 1) := by decide +kernel
theorem dX3_take_20 : decode cX3_take 20 = .ok (.iadd, 1) := by decide +kernel
theorem dX3_take_21 : decode cX3_take 21 = .ok (.putfield 34, 3) := by decide +kernel
theorem dX3_take_24 : decode cX3_take 24 = .ok (.iconst 1, 1) := by decide +kernel
theorem dX3_take_25 : decode cX3_take 25 = .ok (.ireturn, 1) := by decide +kernel
theorem dX3_wrong_0 : decode cX3_wrong 0 = .ok (.aload_n 0, 1) := by decide +kernel
theorem dX3_wrong_1 : decode cX3_wrong 1 = .ok (.getfield 34, 3) := by decide +kernel
theorem dX3_wrong_4 : decode cX3_wrong 4 = .ok (.aload_n 0, 1) := by decide +kernel
theorem dX3_wrong_5 : decode cX3_wrong 5 = .ok (.getfield 12, 3) := by decide +kernel
theorem dX3_wrong_8 : decode cX3_wrong 8 = .ok (.getfield 49, 3) := by decide +kernel
theorem dX3_wrong_11 : decode cX3_wrong 11 = .ok (.if_icmp .ge 18, 3) := by decide +kernel
theorem dX3_wrong_14 : decode cX3_wrong 14 = .ok (.aload_n 0, 1) := by decide +kernel
theorem dX3_wrong_15 : decode cX3_wrong 15 = .ok (.getfield 12, 3) := by decide +kernel
theorem dX3_wrong_18 : decode cX3_wrong 18 = .ok (.getfield 86, 3) := by decide +kernel
theorem dX3_wrong_21 : decode cX3_wrong 21 = .ok (.aload_n 0, 1) := by decide +kernel
theorem dX3_wrong_22 : decode cX3_wrong 22 = .ok (.getfield 34, 3) := by decide +kernel
theorem dX3_wrong_25 : decode cX3_wrong 25 = .ok (.iaload, 1) := by decide +kernel
theorem dX3_wrong_26 : decode cX3_wrong 26 = .ok (.goto 4, 3) := by decide +kernel
theorem dX3_wrong_29 : decode cX3_wrong 29 = .ok (.iconst 0, 1) := by decide +kernel
theorem dX3_wrong_30 : decode cX3_wrong 30 = .ok (.istore_n 2, 1) := by decide +kernel
theorem dX3_wrong_31 : decode cX3_wrong 31 = .ok (.aload_n 0, 1) := by decide +kernel
theorem dX3_wrong_32 : decode cX3_wrong 32 = .ok (.iload_n 1, 1) := by decide +kernel
theorem dX3_wrong_33 : decode cX3_wrong 33 = .ok (.bipush 16, 2) := by decide +kernel
theorem dX3_wrong_35 : decode cX3_wrong 35 = .ok (.iload_n 2, 1) := by decide +kernel
theorem dX3_wrong_36 : decode cX3_wrong 36 = .ok (.imul, 1) := by decide +kernel
theorem dX3_wrong_37 : decode cX3_wrong 37 = .ok (.iadd, 1) := by decide +kernel
theorem dX3_wrong_38 : decode cX3_wrong 38 = .ok (.putfield 38, 3) := by decide +kernel
theorem dX3_wrong_41 : decode cX3_wrong 41 = .ok (.iconst 0, 1) := by decide +kernel
theorem dX3_wrong_42 : decode cX3_wrong 42 = .ok (.ireturn, 1) := by decide +kernel
theorem dX4_init_0 : decode cX4_init 0 = .ok (.aload_n 0, 1) := by decide +kernel
theorem dX4_init_1 : decode cX4_init 1 = .ok (.invokespecial 3, 3) := by decide +kernel
theorem dX4_init_4 : decode cX4_init 4 = .ok (.aload_n 0, 1) := by decide +kernel
theorem dX4_init_5 : decode cX4_init 5 = .ok (.bipush 12, 2) := by decide +kernel
theorem dX4_init_7 : decode cX4_init 7 = .ok (.newarray .int, 2) := by decide +kernel
theorem dX4_init_9 : decode cX4_init 9 = .ok (.putfield 9, 3) := by decide +kernel
theorem dX4_init_12 : decode cX4_init 12 = .ok (.iconst 0, 1) := by decide +kernel
theorem dX4_init_13 : decode cX4_init 13 = .ok (.istore_n 1, 1) := by decide +kernel
theorem dX4_init_14 : decode cX4_init 14 = .ok (.iload_n 1, 1) := by decide +kernel
theorem dX4_init_15 : decode cX4_init 15 = .ok (.bipush 12, 2) := by decide +kernel
theorem dX4_init_17 : decode cX4_init 17 = .ok (.if_icmp .ge 17, 3) := by decide +kernel
theorem dX4_init_20 : decode cX4_init 20 = .ok (.aload_n 0, 1) := by decide +kernel
theorem dX4_init_21 : decode cX4_init 21 = .ok (.getfield 9, 3) := by decide +kernel
theorem dX4_init_24 : decode cX4_init 24 = .ok (.iload_n 1, 1) := by decide +kernel
theorem dX4_init_25 : decode cX4_init 25 = .ok (.bipush 10, 2) := by decide +kernel
theorem dX4_init_27 : decode cX4_init 27 = .ok (.iastore, 1) := by decide +kernel
theorem dX4_init_28 : decode cX4_init 28 = .ok (.iinc 1 1, 3) := by decide +kernel
theorem dX4_init_31 : decode cX4_init 31 = .ok (.goto (-17), 3) := by decide +kernel
theorem dX4_init_34 : decode cX4_init 34 = .ok (.return_, 1) := by decide +kernel
theorem dX4_run_0 : decode cX4_run 0 = .ok (.aload_n 0, 1) := by decide +kernel
theorem dX4_run_1 : decode cX4_run 1 = .ok (.aload_n 0, 1) := by decide +kernel
theorem dX4_run_2 : decode cX4_run 2 = .ok (.getfield 15, 3) := by decide +kernel
theorem dX4_run_5 : decode cX4_run 5 = .ok (.aload_n 0, 1) := by decide +kernel
theorem dX4_run_6 : decode cX4_run 6 = .ok (.getfield 19, 3) := by decide +kernel
theorem dX4_run_9 : decode cX4_run 9 = .ok (.iadd, 1) := by decide +kernel
theorem dX4_run_10 : decode cX4_run 10 = .ok (.aload_n 0, 1) := by decide +kernel
theorem dX4_run_11 : decode cX4_run 11 = .ok (.getfield 22, 3) := by decide +kernel
theorem dX4_run_14 : decode cX4_run 14 = .ok (.invokestatic 25, 3) := by decide +kernel
theorem dX4_run_17 : decode cX4_run 17 = .ok (.putfield 15, 3) := by decide +kernel
theorem dX4_run_20 : decode cX4_run 20 = .ok (.aload_n 0, 1) := by decide +kernel
theorem dX4_run_21 : decode cX4_run 21 = .ok (.dup, 1) := by decide +kernel
theorem dX4_run_22 : decode cX4_run 22 = .ok (.getfield 19, 3) := by decide +kernel
theorem dX4_run_25 : decode cX4_run 25 = .ok (.aload_n 0, 1) := by decide +kernel
theorem dX4_run_26 : decode cX4_run 26 = .ok (.getfield 19, 3) := by decide +kernel
theorem dX4_run_29 : decode cX4_run 29 = .ok (.aload_n 0, 1) := by decide +kernel
theorem dX4_run_30 : decode cX4_run 30 = .ok (.getfield 31, 3) := by decide +kernel
theorem dX4_run_33 : decode cX4_run 33 = .ok (.imul, 1) := by decide +kernel
theorem dX4_run_34 : decode cX4_run 34 = .ok (.bipush 99, 2) := by decide +kernel
theorem dX4_run_36 : decode cX4_run 36 = .ok (.iadd, 1) := by decide +kernel
theorem dX4_run_37 : decode cX4_run 37 = .ok (.bipush 100, 2) := by decide +kernel
theorem dX4_run_39 : decode cX4_run 39 = .ok (.idiv, 1) := by decide +kernel
theorem dX4_run_40 : decode cX4_run 40 = .ok (.isub, 1) := by decide +kernel
theorem dX4_run_41 : decode cX4_run 41 = .ok (.putfield 19, 3) := by decide +kernel
theorem dX4_run_44 : decode cX4_run 44 = .ok (.return_, 1) := by decide +kernel
theorem dX5_init_0 : decode cX5_init 0 = .ok (.aload_n 0, 1) := by decide +kernel
theorem dX5_init_1 : decode cX5_init 1 = .ok (.invokespecial 1, 3) := by decide +kernel
theorem dX5_init_4 : decode cX5_init 4 = .ok (.return_, 1) := by decide +kernel
theorem dX5_carried_0 : decode cX5_carried 0 = .ok (.aload_n 0, 1) := by decide +kernel
theorem dX5_carried_1 : decode cX5_carried 1 = .ok (.dup, 1) := by decide +kernel
theorem dX5_carried_2 : decode cX5_carried 2 = .ok (.getfield 7, 3) := by decide +kernel
theorem dX5_carried_5 : decode cX5_carried 5 = .ok (.iload_n 1, 1) := by decide +kernel
theorem dX5_carried_6 : decode cX5_carried 6 = .ok (.iadd, 1) := by decide +kernel
theorem dX5_carried_7 : decode cX5_carried 7 = .ok (.putfield 7, 3) := by decide +kernel
theorem dX5_carried_10 : decode cX5_carried 10 = .ok (.aload_n 0, 1) := by decide +kernel
theorem dX5_carried_11 : decode cX5_carried 11 = .ok (.dup, 1) := by decide +kernel
theorem dX5_carried_12 : decode cX5_carried 12 = .ok (.getfield 13, 3) := by decide +kernel
theorem dX5_carried_15 : decode cX5_carried 15 = .ok (.iload_n 2, 1) := by decide +kernel
theorem dX5_carried_16 : decode cX5_carried 16 = .ok (.iadd, 1) := by decide +kernel
theorem dX5_carried_17 : decode cX5_carried 17 = .ok (.putfield 13, 3) := by decide +kernel
theorem dX5_carried_20 : decode cX5_carried 20 = .ok (.aload_n 0, 1) := by decide +kernel
theorem dX5_carried_21 : decode cX5_carried 21 = .ok (.dup, 1) := by decide +kernel
theorem dX5_carried_22 : decode cX5_carried 22 = .ok (.getfield 16, 3) := by decide +kernel
theorem dX5_carried_25 : decode cX5_carried 25 = .ok (.iload_n 2, 1) := by decide +kernel
theorem dX5_carried_26 : decode cX5_carried 26 = .ok (.iadd, 1) := by decide +kernel
theorem dX5_carried_27 : decode cX5_carried 27 = .ok (.putfield 16, 3) := by decide +kernel
theorem dX5_carried_30 : decode cX5_carried 30 = .ok (.return_, 1) := by decide +kernel
theorem dX6_init_0 : decode cX6_init 0 = .ok (.aload_n 0, 1) := by decide +kernel
theorem dX6_init_1 : decode cX6_init 1 = .ok (.invokespecial 3, 3) := by decide +kernel
theorem dX6_init_4 : decode cX6_init 4 = .ok (.aload_n 0, 1) := by decide +kernel
theorem dX6_init_5 : decode cX6_init 5 = .ok (.sipush 600, 3) := by decide +kernel
theorem dX6_init_8 : decode cX6_init 8 = .ok (.newarray .char, 2) := by decide +kernel
theorem dX6_init_10 : decode cX6_init 10 = .ok (.putfield 9, 3) := by decide +kernel
theorem dX6_init_13 : decode cX6_init 13 = .ok (.aload_n 0, 1) := by decide +kernel
theorem dX6_init_14 : decode cX6_init 14 = .ok (.sipush 601, 3) := by decide +kernel
theorem dX6_init_17 : decode cX6_init 17 = .ok (.newarray .int, 2) := by decide +kernel
theorem dX6_init_19 : decode cX6_init 19 = .ok (.putfield 15, 3) := by decide +kernel
theorem dX6_init_22 : decode cX6_init 22 = .ok (.aload_n 0, 1) := by decide +kernel
theorem dX6_init_23 : decode cX6_init 23 = .ok (.sipush 601, 3) := by decide +kernel
theorem dX6_init_26 : decode cX6_init 26 = .ok (.newarray .int, 2) := by decide +kernel
theorem dX6_init_28 : decode cX6_init 28 = .ok (.putfield 19, 3) := by decide +kernel
theorem dX6_init_31 : decode cX6_init 31 = .ok (.return_, 1) := by decide +kernel
theorem dX6_addEight_0 : decode cX6_addEight 0 = .ok (.bipush 56, 2) := by decide +kernel
theorem dX6_addEight_2 : decode cX6_addEight 2 = .ok (.istore_n 3, 1) := by decide +kernel
theorem dX6_addEight_3 : decode cX6_addEight 3 = .ok (.iload_n 3, 1) := by decide +kernel
theorem dX6_addEight_4 : decode cX6_addEight 4 = .ok (.ifCond .lt 21, 3) := by decide +kernel
theorem dX6_addEight_7 : decode cX6_addEight 7 = .ok (.aload_n 0, 1) := by decide +kernel
theorem dX6_addEight_8 : decode cX6_addEight 8 = .ok (.lload_n 1, 1) := by decide +kernel
theorem dX6_addEight_9 : decode cX6_addEight 9 = .ok (.iload_n 3, 1) := by decide +kernel
theorem dX6_addEight_10 : decode cX6_addEight 10 = .ok (.lushr, 1) := by decide +kernel
theorem dX6_addEight_11 : decode cX6_addEight 11 = .ok (.ldc2_w 22, 3) := by decide +kernel
theorem dX6_addEight_14 : decode cX6_addEight 14 = .ok (.land, 1) := by decide +kernel
theorem dX6_addEight_15 : decode cX6_addEight 15 = .ok (.l2i, 1) := by decide +kernel
theorem dX6_addEight_16 : decode cX6_addEight 16 = .ok (.invokevirtual 24, 3) := by decide +kernel
theorem dX6_addEight_19 : decode cX6_addEight 19 = .ok (.iinc 3 (-8), 3) := by decide +kernel
theorem dX6_addEight_22 : decode cX6_addEight 22 = .ok (.goto (-19), 3) := by decide +kernel
theorem dX6_addEight_25 : decode cX6_addEight 25 = .ok (.return_, 1) := by decide +kernel
theorem dX6_addSign_0 : decode cX6_addSign 0 = .ok (.iload_n 1, 1) := by decide +kernel
theorem dX6_addSign_1 : decode cX6_addSign 1 = .ok (.bipush 10, 2) := by decide +kernel
theorem dX6_addSign_3 : decode cX6_addSign 3 = .ok (.if_icmp .eq 14, 3) := by decide +kernel
theorem dX6_addSign_6 : decode cX6_addSign 6 = .ok (.iload_n 1, 1) := by decide +kernel
theorem dX6_addSign_7 : decode cX6_addSign 7 = .ok (.bipush 32, 2) := by decide +kernel
theorem dX6_addSign_9 : decode cX6_addSign 9 = .ok (.bipush 126, 2) := by decide +kernel
theorem dX6_addSign_11 : decode cX6_addSign 11 = .ok (.invokestatic 28, 3) := by decide +kernel
theorem dX6_addSign_14 : decode cX6_addSign 14 = .ok (.ifCond .eq 34, 3) := by decide +kernel
theorem dX6_addSign_17 : decode cX6_addSign 17 = .ok (.aload_n 0, 1) := by decide +kernel
theorem dX6_addSign_18 : decode cX6_addSign 18 = .ok (.getfield 32, 3) := by decide +kernel
theorem dX6_addSign_21 : decode cX6_addSign 21 = .ok (.sipush 600, 3) := by decide +kernel
theorem dX6_addSign_24 : decode cX6_addSign 24 = .ok (.if_icmp .ge 24, 3) := by decide +kernel
theorem dX6_addSign_27 : decode cX6_addSign 27 = .ok (.aload_n 0, 1) := by decide +kernel
theorem dX6_addSign_28 : decode cX6_addSign 28 = .ok (.getfield 9, 3) := by decide +kernel
theorem dX6_addSign_31 : decode cX6_addSign 31 = .ok (.aload_n 0, 1) := by decide +kernel
theorem dX6_addSign_32 : decode cX6_addSign 32 = .ok (.getfield 32, 3) := by decide +kernel
theorem dX6_addSign_35 : decode cX6_addSign 35 = .ok (.iload_n 1, 1) := by decide +kernel
theorem dX6_addSign_36 : decode cX6_addSign 36 = .ok (.i2c, 1) := by decide +kernel
theorem dX6_addSign_37 : decode cX6_addSign 37 = .ok (.castore, 1) := by decide +kernel
theorem dX6_addSign_38 : decode cX6_addSign 38 = .ok (.aload_n 0, 1) := by decide +kernel
theorem dX6_addSign_39 : decode cX6_addSign 39 = .ok (.dup, 1) := by decide +kernel
theorem dX6_addSign_40 : decode cX6_addSign 40 = .ok (.getfield 32, 3) := by decide +kernel
theorem dX6_addSign_43 : decode cX6_addSign 43 = .ok (.iconst 1, 1) := by decide +kernel
theorem dX6_addSign_44 : decode cX6_addSign 44 = .ok (.iadd, 1) := by decide +kernel
theorem dX6_addSign_45 : decode cX6_addSign 45 = .ok (.putfield 32, 3) := by decide +kernel
theorem dX6_addSign_48 : decode cX6_addSign 48 = .ok (.return_, 1) := by decide +kernel
theorem dX6_scan_0 : decode cX6_scan 0 = .ok (.aload_n 0, 1) := by decide +kernel
theorem dX6_scan_1 : decode cX6_scan 1 = .ok (.iconst 0, 1) := by decide +kernel
theorem dX6_scan_2 : decode cX6_scan 2 = .ok (.putfield 36, 3) := by decide +kernel
theorem dX6_scan_5 : decode cX6_scan 5 = .ok (.iconst 0, 1) := by decide +kernel
theorem dX6_scan_6 : decode cX6_scan 6 = .ok (.istore_n 1, 1) := by decide +kernel
theorem dX6_scan_7 : decode cX6_scan 7 = .ok (.iload_n 1, 1) := by decide +kernel
theorem dX6_scan_8 : decode cX6_scan 8 = .ok (.aload_n 0, 1) := by decide +kernel
theorem dX6_scan_9 : decode cX6_scan 9 = .ok (.getfield 32, 3) := by decide +kernel
theorem dX6_scan_12 : decode cX6_scan 12 = .ok (.if_icmp .ge 43, 3) := by decide +kernel
theorem dX6_scan_15 : decode cX6_scan 15 = .ok (.aload_n 0, 1) := by decide +kernel
theorem dX6_scan_16 : decode cX6_scan 16 = .ok (.iload_n 1, 1) := by decide +kernel
theorem dX6_scan_17 : decode cX6_scan 17 = .ok (.invokevirtual 39, 3) := by decide +kernel
theorem dX6_scan_20 : decode cX6_scan 20 = .ok (.istore_n 2, 1) := by decide +kernel
theorem dX6_scan_21 : decode cX6_scan 21 = .ok (.aload_n 0, 1) := by decide +kernel
theorem dX6_scan_22 : decode cX6_scan 22 = .ok (.getfield 9, 3) := by decide +kernel
theorem dX6_scan_25 : decode cX6_scan 25 = .ok (.iload_n 1, 1) := by decide +kernel
theorem dX6_scan_26 : decode cX6_scan 26 = .ok (.caload, 1) := by decide +kernel
theorem dX6_scan_27 : decode cX6_scan 27 = .ok (.invokestatic 43, 3) := by decide +kernel
theorem dX6_scan_30 : decode cX6_scan 30 = .ok (.ifCond .ne 14, 3) := by decide +kernel
theorem dX6_scan_33 : decode cX6_scan 33 = .ok (.aload_n 0, 1) := by decide +kernel
theorem dX6_scan_34 : decode cX6_scan 34 = .ok (.aload_n 0, 1) := by decide +kernel
theorem dX6_scan_35 : decode cX6_scan 35 = .ok (.iload_n 1, 1) := by decide +kernel
theorem dX6_scan_36 : decode cX6_scan 36 = .ok (.iload_n 2, 1) := by decide +kernel
theorem dX6_scan_37 : decode cX6_scan 37 = .ok (.invokevirtual 47, 3) := by decide +kernel
theorem dX6_scan_40 : decode cX6_scan 40 = .ok (.iload_n 1, 1) := by decide +kernel
theorem dX6_scan_41 : decode cX6_scan 41 = .ok (.invokevirtual 51, 3) := by decide +kernel
theorem dX6_scan_44 : decode cX6_scan 44 = .ok (.iload_n 1, 1) := by decide +kernel
theorem dX6_scan_45 : decode cX6_scan 45 = .ok (.iconst 1, 1) := by decide +kernel
theorem dX6_scan_46 : decode cX6_scan 46 = .ok (.iadd, 1) := by decide +kernel
theorem dX6_scan_47 : decode cX6_scan 47 = .ok (.iload_n 2, 1) := by decide +kernel
theorem dX6_scan_48 : decode cX6_scan 48 = .ok (.invokestatic 55, 3) := by decide +kernel
theorem dX6_scan_51 : decode cX6_scan 51 = .ok (.istore_n 1, 1) := by decide +kernel
theorem dX6_scan_52 : decode cX6_scan 52 = .ok (.goto (-45), 3) := by decide +kernel
theorem dX6_scan_55 : decode cX6_scan 55 = .ok (.aload_n 0, 1) := by decide +kernel
theorem dX6_scan_56 : decode cX6_scan 56 = .ok (.bipush (-18), 2) := by decide +kernel
theorem dX6_scan_58 : decode cX6_scan 58 = .ok (.aload_n 0, 1) := by decide +kernel
theorem dX6_scan_59 : decode cX6_scan 59 = .ok (.getfield 32, 3) := by decide +kernel
theorem dX6_scan_62 : decode cX6_scan 62 = .ok (.invokevirtual 51, 3) := by decide +kernel
theorem dX6_scan_65 : decode cX6_scan 65 = .ok (.aload_n 0, 1) := by decide +kernel
theorem dX6_scan_66 : decode cX6_scan 66 = .ok (.iconst 0, 1) := by decide +kernel
theorem dX6_scan_67 : decode cX6_scan 67 = .ok (.putfield 32, 3) := by decide +kernel
theorem dX6_scan_70 : decode cX6_scan 70 = .ok (.return_, 1) := by decide +kernel
theorem dX6_addToken_0 : decode cX6_addToken 0 = .ok (.aload_n 0, 1) := by decide +kernel
theorem dX6_addToken_1 : decode cX6_addToken 1 = .ok (.getfield 36, 3) := by decide +kernel
theorem dX6_addToken_4 : decode cX6_addToken 4 = .ok (.sipush 600, 3) := by decide +kernel
theorem dX6_addToken_7 : decode cX6_addToken 7 = .ok (.if_icmp .gt 33, 3) := by decide +kernel
theorem dX6_addToken_10 : decode cX6_addToken 10 = .ok (.aload_n 0, 1) := by decide +kernel
theorem dX6_addToken_11 : decode cX6_addToken 11 = .ok (.getfield 15, 3) := by decide +kernel
theorem dX6_addToken_14 : decode cX6_addToken 14 = .ok (.aload_n 0, 1) := by decide +kernel
theorem dX6_addToken_15 : decode cX6_addToken 15 = .ok (.getfield 36, 3) := by decide +kernel
theorem dX6_addToken_18 : decode cX6_addToken 18 = .ok (.iload_n 1, 1) := by decide +kernel
theorem dX6_addToken_19 : decode cX6_addToken 19 = .ok (.iastore, 1) := by decide +kernel
theorem dX6_addToken_20 : decode cX6_addToken 20 = .ok (.aload_n 0, 1) := by decide +kernel
theorem dX6_addToken_21 : decode cX6_addToken 21 = .ok (.getfield 19, 3) := by decide +kernel
theorem dX6_addToken_24 : decode cX6_addToken 24 = .ok (.aload_n 0, 1) := by decide +kernel
theorem dX6_addToken_25 : decode cX6_addToken 25 = .ok (.getfield 36, 3) := by decide +kernel
theorem dX6_addToken_28 : decode cX6_addToken 28 = .ok (.iload_n 2, 1) := by decide +kernel
theorem dX6_addToken_29 : decode cX6_addToken 29 = .ok (.iastore, 1) := by decide +kernel
theorem dX6_addToken_30 : decode cX6_addToken 30 = .ok (.aload_n 0, 1) := by decide +kernel
theorem dX6_addToken_31 : decode cX6_addToken 31 = .ok (.dup, 1) := by decide +kernel
theorem dX6_addToken_32 : decode cX6_addToken 32 = .ok (.getfield 36, 3) := by decide +kernel
theorem dX6_addToken_35 : decode cX6_addToken 35 = .ok (.iconst 1, 1) := by decide +kernel
theorem dX6_addToken_36 : decode cX6_addToken 36 = .ok (.iadd, 1) := by decide +kernel
theorem dX6_addToken_37 : decode cX6_addToken 37 = .ok (.putfield 36, 3) := by decide +kernel
theorem dX6_addToken_40 : decode cX6_addToken 40 = .ok (.return_, 1) := by decide +kernel
theorem dX6_endOfRun_0 : decode cX6_endOfRun 0 = .ok (.aload_n 0, 1) := by decide +kernel
theorem dX6_endOfRun_1 : decode cX6_endOfRun 1 = .ok (.getfield 9, 3) := by decide +kernel
theorem dX6_endOfRun_4 : decode cX6_endOfRun 4 = .ok (.iload_n 1, 1) := by decide +kernel
theorem dX6_endOfRun_5 : decode cX6_endOfRun 5 = .ok (.caload, 1) := by decide +kernel
theorem dX6_endOfRun_6 : decode cX6_endOfRun 6 = .ok (.invokestatic 60, 3) := by decide +kernel
theorem dX6_endOfRun_9 : decode cX6_endOfRun 9 = .ok (.istore_n 2, 1) := by decide +kernel
theorem dX6_endOfRun_10 : decode cX6_endOfRun 10 = .ok (.aload_n 0, 1) := by decide +kernel
theorem dX6_endOfRun_11 : decode cX6_endOfRun 11 = .ok (.getfield 9, 3) := by decide +kernel
theorem dX6_endOfRun_14 : decode cX6_endOfRun 14 = .ok (.iload_n 1, 1) := by decide +kernel
theorem dX6_endOfRun_15 : decode cX6_endOfRun 15 = .ok (.caload, 1) := by decide +kernel
theorem dX6_endOfRun_16 : decode cX6_endOfRun 16 = .ok (.invokestatic 63, 3) := by decide +kernel
theorem dX6_endOfRun_19 : decode cX6_endOfRun 19 = .ok (.istore_n 3, 1) := by decide +kernel
theorem dX6_endOfRun_20 : decode cX6_endOfRun 20 = .ok (.iload_n 1, 1) := by decide +kernel
theorem dX6_endOfRun_21 : decode cX6_endOfRun 21 = .ok (.iconst 1, 1) := by decide +kernel
theorem dX6_endOfRun_22 : decode cX6_endOfRun 22 = .ok (.iadd, 1) := by decide +kernel
theorem dX6_endOfRun_23 : decode cX6_endOfRun 23 = .ok (.istore 4, 2) := by decide +kernel
theorem dX6_endOfRun_25 : decode cX6_endOfRun 25 = .ok (.iload 4, 2) := by decide +kernel
theorem dX6_endOfRun_27 : decode cX6_endOfRun 27 = .ok (.aload_n 0, 1) := by decide +kernel
theorem dX6_endOfRun_28 : decode cX6_endOfRun 28 = .ok (.getfield 32, 3) := by decide +kernel
theorem dX6_endOfRun_31 : decode cX6_endOfRun 31 = .ok (.if_icmp .ge 43, 3) := by decide +kernel
theorem dX6_endOfRun_34 : decode cX6_endOfRun 34 = .ok (.iload_n 2, 1) := by decide +kernel
theorem dX6_endOfRun_35 : decode cX6_endOfRun 35 = .ok (.ifCond .eq 16, 3) := by decide +kernel
theorem dX6_endOfRun_38 : decode cX6_endOfRun 38 = .ok (.aload_n 0, 1) := by decide +kernel
theorem dX6_endOfRun_39 : decode cX6_endOfRun 39 = .ok (.getfield 9, 3) := by decide +kernel
theorem dX6_endOfRun_42 : decode cX6_endOfRun 42 = .ok (.iload 4, 2) := by decide +kernel
theorem dX6_endOfRun_44 : decode cX6_endOfRun 44 = .ok (.caload, 1) := by decide +kernel
theorem dX6_endOfRun_45 : decode cX6_endOfRun 45 = .ok (.invokestatic 60, 3) := by decide +kernel
theorem dX6_endOfRun_48 : decode cX6_endOfRun 48 = .ok (.ifCond .ne 20, 3) := by decide +kernel
theorem dX6_endOfRun_51 : decode cX6_endOfRun 51 = .ok (.iload_n 3, 1) := by decide +kernel
theorem dX6_endOfRun_52 : decode cX6_endOfRun 52 = .ok (.ifCond .eq 22, 3) := by decide +kernel
theorem dX6_endOfRun_55 : decode cX6_endOfRun 55 = .ok (.aload_n 0, 1) := by decide +kernel
theorem dX6_endOfRun_56 : decode cX6_endOfRun 56 = .ok (.getfield 9, 3) := by decide +kernel
theorem dX6_endOfRun_59 : decode cX6_endOfRun 59 = .ok (.iload 4, 2) := by decide +kernel
theorem dX6_endOfRun_61 : decode cX6_endOfRun 61 = .ok (.caload, 1) := by decide +kernel
theorem dX6_endOfRun_62 : decode cX6_endOfRun 62 = .ok (.invokestatic 63, 3) := by decide +kernel
theorem dX6_endOfRun_65 : decode cX6_endOfRun 65 = .ok (.ifCond .eq 9, 3) := by decide +kernel
theorem dX6_endOfRun_68 : decode cX6_endOfRun 68 = .ok (.iinc 4 1, 3) := by decide +kernel
theorem dX6_endOfRun_71 : decode cX6_endOfRun 71 = .ok (.goto (-46), 3) := by decide +kernel
theorem dX6_endOfRun_74 : decode cX6_endOfRun 74 = .ok (.iload 4, 2) := by decide +kernel
theorem dX6_endOfRun_76 : decode cX6_endOfRun 76 = .ok (.ireturn, 1) := by decide +kernel
theorem dX6_tokenOf_0 : decode cX6_tokenOf 0 = .ok (.aload_n 0, 1) := by decide +kernel
theorem dX6_tokenOf_1 : decode cX6_tokenOf 1 = .ok (.getfield 9, 3) := by decide +kernel
theorem dX6_tokenOf_4 : decode cX6_tokenOf 4 = .ok (.iload_n 1, 1) := by decide +kernel
theorem dX6_tokenOf_5 : decode cX6_tokenOf 5 = .ok (.caload, 1) := by decide +kernel
theorem dX6_tokenOf_6 : decode cX6_tokenOf 6 = .ok (.invokestatic 60, 3) := by decide +kernel
theorem dX6_tokenOf_9 : decode cX6_tokenOf 9 = .ok (.ifCond .eq 10, 3) := by decide +kernel
theorem dX6_tokenOf_12 : decode cX6_tokenOf 12 = .ok (.aload_n 0, 1) := by decide +kernel
theorem dX6_tokenOf_13 : decode cX6_tokenOf 13 = .ok (.iload_n 1, 1) := by decide +kernel
theorem dX6_tokenOf_14 : decode cX6_tokenOf 14 = .ok (.iload_n 2, 1) := by decide +kernel
theorem dX6_tokenOf_15 : decode cX6_tokenOf 15 = .ok (.invokevirtual 66, 3) := by decide +kernel
theorem dX6_tokenOf_18 : decode cX6_tokenOf 18 = .ok (.ireturn, 1) := by decide +kernel
theorem dX6_tokenOf_19 : decode cX6_tokenOf 19 = .ok (.aload_n 0, 1) := by decide +kernel
theorem dX6_tokenOf_20 : decode cX6_tokenOf 20 = .ok (.getfield 9, 3) := by decide +kernel
theorem dX6_tokenOf_23 : decode cX6_tokenOf 23 = .ok (.iload_n 1, 1) := by decide +kernel
theorem dX6_tokenOf_24 : decode cX6_tokenOf 24 = .ok (.caload, 1) := by decide +kernel
theorem dX6_tokenOf_25 : decode cX6_tokenOf 25 = .ok (.invokestatic 63, 3) := by decide +kernel
theorem dX6_tokenOf_28 : decode cX6_tokenOf 28 = .ok (.ifCond .eq 12, 3) := by decide +kernel
theorem dX6_tokenOf_31 : decode cX6_tokenOf 31 = .ok (.aload_n 0, 1) := by decide +kernel
theorem dX6_tokenOf_32 : decode cX6_tokenOf 32 = .ok (.iload_n 1, 1) := by decide +kernel
theorem dX6_tokenOf_33 : decode cX6_tokenOf 33 = .ok (.iload_n 2, 1) := by decide +kernel
theorem dX6_tokenOf_34 : decode cX6_tokenOf 34 = .ok (.invokevirtual 69, 3) := by decide +kernel
theorem dX6_tokenOf_37 : decode cX6_tokenOf 37 = .ok (.goto 12, 3) := by decide +kernel
theorem dX6_tokenOf_40 : decode cX6_tokenOf 40 = .ok (.aload_n 0, 1) := by decide +kernel
theorem dX6_tokenOf_41 : decode cX6_tokenOf 41 = .ok (.getfield 9, 3) := by decide +kernel
theorem dX6_tokenOf_44 : decode cX6_tokenOf 44 = .ok (.iload_n 1, 1) := by decide +kernel
theorem dX6_tokenOf_45 : decode cX6_tokenOf 45 = .ok (.caload, 1) := by decide +kernel
theorem dX6_tokenOf_46 : decode cX6_tokenOf 46 = .ok (.invokestatic 72, 3) := by decide +kernel
theorem dX6_tokenOf_49 : decode cX6_tokenOf 49 = .ok (.ireturn, 1) := by decide +kernel
theorem dX6_numberToken_0 : decode cX6_numberToken 0 = .ok (.iload_n 2, 1) := by decide +kernel
theorem dX6_numberToken_1 : decode cX6_numberToken 1 = .ok (.iload_n 1, 1) := by decide +kernel
theorem dX6_numberToken_2 : decode cX6_numberToken 2 = .ok (.isub, 1) := by decide +kernel
theorem dX6_numberToken_3 : decode cX6_numberToken 3 = .ok (.iconst 4, 1) := by decide +kernel
theorem dX6_numberToken_4 : decode cX6_numberToken 4 = .ok (.if_icmp .le 6, 3) := by decide +kernel
theorem dX6_numberToken_7 : decode cX6_numberToken 7 = .ok (.bipush (-19), 2) := by decide +kernel
theorem dX6_numberToken_9 : decode cX6_numberToken 9 = .ok (.ireturn, 1) := by decide +kernel
theorem dX6_numberToken_10 : decode cX6_numberToken 10 = .ok (.iconst 0, 1) := by decide +kernel
theorem dX6_numberToken_11 : decode cX6_numberToken 11 = .ok (.istore_n 3, 1) := by decide +kernel
theorem dX6_numberToken_12 : decode cX6_numberToken 12 = .ok (.iload_n 1, 1) := by decide +kernel
theorem dX6_numberToken_13 : decode cX6_numberToken 13 = .ok (.istore 4, 2) := by decide +kernel
theorem dX6_numberToken_15 : decode cX6_numberToken 15 = .ok (.iload 4, 2) := by decide +kernel
theorem dX6_numberToken_17 : decode cX6_numberToken 17 = .ok (.iload_n 2, 1) := by decide +kernel
theorem dX6_numberToken_18 : decode cX6_numberToken 18 = .ok (.if_icmp .ge 25, 3) := by decide +kernel
theorem dX6_numberToken_21 : decode cX6_numberToken 21 = .ok (.iload_n 3, 1) := by decide +kernel
theorem dX6_numberToken_22 : decode cX6_numberToken 22 = .ok (.bipush 10, 2) := by decide +kernel
theorem dX6_numberToken_24 : decode cX6_numberToken 24 = .ok (.imul, 1) := by decide +kernel
theorem dX6_numberToken_25 : decode cX6_numberToken 25 = .ok (.aload_n 0, 1) := by decide +kernel
theorem dX6_numberToken_26 : decode cX6_numberToken 26 = .ok (.getfield 9, 3) := by decide +kernel
theorem dX6_numberToken_29 : decode cX6_numberToken 29 = .ok (.iload 4, 2) := by decide +kernel
theorem dX6_numberToken_31 : decode cX6_numberToken 31 = .ok (.caload, 1) := by decide +kernel
theorem dX6_numberToken_32 : decode cX6_numberToken 32 = .ok (.bipush 48, 2) := by decide +kernel
theorem dX6_numberToken_34 : decode cX6_numberToken 34 = .ok (.isub, 1) := by decide +kernel
theorem dX6_numberToken_35 : decode cX6_numberToken 35 = .ok (.iadd, 1) := by decide +kernel
theorem dX6_numberToken_36 : decode cX6_numberToken 36 = .ok (.istore_n 3, 1) := by decide +kernel
theorem dX6_numberToken_37 : decode cX6_numberToken 37 = .ok (.iinc 4 1, 3) := by decide +kernel
theorem dX6_numberToken_40 : decode cX6_numberToken 40 = .ok (.goto (-25), 3) := by decide +kernel
theorem dX6_numberToken_43 : decode cX6_numberToken 43 = .ok (.iload_n 3, 1) := by decide +kernel
theorem dX6_numberToken_44 : decode cX6_numberToken 44 = .ok (.ireturn, 1) := by decide +kernel
theorem dX6_wordToken_0 : decode cX6_wordToken 0 = .ok (.aload_n 0, 1) := by decide +kernel
theorem dX6_wordToken_1 : decode cX6_wordToken 1 = .ok (.ldc 76, 2) := by decide +kernel
theorem dX6_wordToken_3 : decode cX6_wordToken 3 = .ok (.iload_n 1, 1) := by decide +kernel
theorem dX6_wordToken_4 : decode cX6_wordToken 4 = .ok (.iload_n 2, 1) := by decide +kernel
theorem dX6_wordToken_5 : decode cX6_wordToken 5 = .ok (.invokevirtual 78, 3) := by decide +kernel
theorem dX6_wordToken_8 : decode cX6_wordToken 8 = .ok (.ifCond .eq 6, 3) := by decide +kernel
theorem dX6_wordToken_11 : decode cX6_wordToken 11 = .ok (.bipush (-12), 2) := by decide +kernel
theorem dX6_wordToken_13 : decode cX6_wordToken 13 = .ok (.ireturn, 1) := by decide +kernel
theorem dX6_wordToken_14 : decode cX6_wordToken 14 = .ok (.aload_n 0, 1) := by decide +kernel
theorem dX6_wordToken_15 : decode cX6_wordToken 15 = .ok (.ldc 82, 2) := by decide +kernel
theorem dX6_wordToken_17 : decode cX6_wordToken 17 = .ok (.iload_n 1, 1) := by decide +kernel
theorem dX6_wordToken_18 : decode cX6_wordToken 18 = .ok (.iload_n 2, 1) := by decide +kernel
theorem dX6_wordToken_19 : decode cX6_wordToken 19 = .ok (.invokevirtual 78, 3) := by decide +kernel
theorem dX6_wordToken_22 : decode cX6_wordToken 22 = .ok (.ifCond .eq 6, 3) := by decide +kernel
theorem dX6_wordToken_25 : decode cX6_wordToken 25 = .ok (.bipush (-13), 2) := by decide +kernel
theorem dX6_wordToken_27 : decode cX6_wordToken 27 = .ok (.ireturn, 1) := by decide +kernel
theorem dX6_wordToken_28 : decode cX6_wordToken 28 = .ok (.aload_n 0, 1) := by decide +kernel
theorem dX6_wordToken_29 : decode cX6_wordToken 29 = .ok (.ldc 84, 2) := by decide +kernel
theorem dX6_wordToken_31 : decode cX6_wordToken 31 = .ok (.iload_n 1, 1) := by decide +kernel
theorem dX6_wordToken_32 : decode cX6_wordToken 32 = .ok (.iload_n 2, 1) := by decide +kernel
theorem dX6_wordToken_33 : decode cX6_wordToken 33 = .ok (.invokevirtual 78, 3) := by decide +kernel
theorem dX6_wordToken_36 : decode cX6_wordToken 36 = .ok (.ifCond .eq 6, 3) := by decide +kernel
theorem dX6_wordToken_39 : decode cX6_wordToken 39 = .ok (.bipush (-14), 2) := by decide +kernel
theorem dX6_wordToken_41 : decode cX6_wordToken 41 = .ok (.ireturn, 1) := by decide +kernel
theorem dX6_wordToken_42 : decode cX6_wordToken 42 = .ok (.aload_n 0, 1) := by decide +kernel
theorem dX6_wordToken_43 : decode cX6_wordToken 43 = .ok (.ldc 86, 2) := by decide +kernel
theorem dX6_wordToken_45 : decode cX6_wordToken 45 = .ok (.iload_n 1, 1) := by decide +kernel
theorem dX6_wordToken_46 : decode cX6_wordToken 46 = .ok (.iload_n 2, 1) := by decide +kernel
theorem dX6_wordToken_47 : decode cX6_wordToken 47 = .ok (.invokevirtual 78, 3) := by decide +kernel
theorem dX6_wordToken_50 : decode cX6_wordToken 50 = .ok (.ifCond .eq 6, 3) := by decide +kernel
theorem dX6_wordToken_53 : decode cX6_wordToken 53 = .ok (.bipush (-11), 2) := by decide +kernel
theorem dX6_wordToken_55 : decode cX6_wordToken 55 = .ok (.ireturn, 1) := by decide +kernel
theorem dX6_wordToken_56 : decode cX6_wordToken 56 = .ok (.aload_n 0, 1) := by decide +kernel
theorem dX6_wordToken_57 : decode cX6_wordToken 57 = .ok (.ldc 88, 2) := by decide +kernel
theorem dX6_wordToken_59 : decode cX6_wordToken 59 = .ok (.iload_n 1, 1) := by decide +kernel
theorem dX6_wordToken_60 : decode cX6_wordToken 60 = .ok (.iload_n 2, 1) := by decide +kernel
theorem dX6_wordToken_61 : decode cX6_wordToken 61 = .ok (.invokevirtual 78, 3) := by decide +kernel
theorem dX6_wordToken_64 : decode cX6_wordToken 64 = .ok (.ifCond .eq 5, 3) := by decide +kernel
theorem dX6_wordToken_67 : decode cX6_wordToken 67 = .ok (.iconst (-1), 1) := by decide +kernel
theorem dX6_wordToken_68 : decode cX6_wordToken 68 = .ok (.ireturn, 1) := by decide +kernel
theorem dX6_wordToken_69 : decode cX6_wordToken 69 = .ok (.aload_n 0, 1) := by decide +kernel
theorem dX6_wordToken_70 : decode cX6_wordToken 70 = .ok (.ldc 90, 2) := by decide +kernel
theorem dX6_wordToken_72 : decode cX6_wordToken 72 = .ok (.iload_n 1, 1) := by decide +kernel
theorem dX6_wordToken_73 : decode cX6_wordToken 73 = .ok (.iload_n 2, 1) := by decide +kernel
theorem dX6_wordToken_74 : decode cX6_wordToken 74 = .ok (.invokevirtual 78, 3) := by decide +kernel
theorem dX6_wordToken_77 : decode cX6_wordToken 77 = .ok (.ifCond .eq 6, 3) := by decide +kernel
theorem dX6_wordToken_80 : decode cX6_wordToken 80 = .ok (.bipush (-2), 2) := by decide +kernel
theorem dX6_wordToken_82 : decode cX6_wordToken 82 = .ok (.ireturn, 1) := by decide +kernel
theorem dX6_wordToken_83 : decode cX6_wordToken 83 = .ok (.aload_n 0, 1) := by decide +kernel
theorem dX6_wordToken_84 : decode cX6_wordToken 84 = .ok (.ldc 92, 2) := by decide +kernel
theorem dX6_wordToken_86 : decode cX6_wordToken 86 = .ok (.iload_n 1, 1) := by decide +kernel
theorem dX6_wordToken_87 : decode cX6_wordToken 87 = .ok (.iload_n 2, 1) := by decide +kernel
theorem dX6_wordToken_88 : decode cX6_wordToken 88 = .ok (.invokevirtual 78, 3) := by decide +kernel
theorem dX6_wordToken_91 : decode cX6_wordToken 91 = .ok (.ifCond .eq 6, 3) := by decide +kernel
theorem dX6_wordToken_94 : decode cX6_wordToken 94 = .ok (.bipush (-3), 2) := by decide +kernel
theorem dX6_wordToken_96 : decode cX6_wordToken 96 = .ok (.ireturn, 1) := by decide +kernel
theorem dX6_wordToken_97 : decode cX6_wordToken 97 = .ok (.aload_n 0, 1) := by decide +kernel
theorem dX6_wordToken_98 : decode cX6_wordToken 98 = .ok (.ldc 94, 2) := by decide +kernel
theorem dX6_wordToken_100 : decode cX6_wordToken 100 = .ok (.iload_n 1, 1) := by decide +kernel
theorem dX6_wordToken_101 : decode cX6_wordToken 101 = .ok (.iload_n 2, 1) := by decide +kernel
theorem dX6_wordToken_102 : decode cX6_wordToken 102 = .ok (.invokevirtual 78, 3) := by decide +kernel
theorem dX6_wordToken_105 : decode cX6_wordToken 105 = .ok (.ifCond .eq 6, 3) := by decide +kernel
theorem dX6_wordToken_108 : decode cX6_wordToken 108 = .ok (.bipush (-4), 2) := by decide +kernel
theorem dX6_wordToken_110 : decode cX6_wordToken 110 = .ok (.ireturn, 1) := by decide +kernel
theorem dX6_wordToken_111 : decode cX6_wordToken 111 = .ok (.aload_n 0, 1) := by decide +kernel
theorem dX6_wordToken_112 : decode cX6_wordToken 112 = .ok (.ldc 96, 2) := by decide +kernel
theorem dX6_wordToken_114 : decode cX6_wordToken 114 = .ok (.iload_n 1, 1) := by decide +kernel
theorem dX6_wordToken_115 : decode cX6_wordToken 115 = .ok (.iload_n 2, 1) := by decide +kernel
theorem dX6_wordToken_116 : decode cX6_wordToken 116 = .ok (.invokevirtual 78, 3) := by decide +kernel
theorem dX6_wordToken_119 : decode cX6_wordToken 119 = .ok (.ifCond .eq 6, 3) := by decide +kernel
theorem dX6_wordToken_122 : decode cX6_wordToken 122 = .ok (.bipush (-5), 2) := by decide +kernel
theorem dX6_wordToken_124 : decode cX6_wordToken 124 = .ok (.ireturn, 1) := by decide +kernel
theorem dX6_wordToken_125 : decode cX6_wordToken 125 = .ok (.aload_n 0, 1) := by decide +kernel
theorem dX6_wordToken_126 : decode cX6_wordToken 126 = .ok (.ldc 98, 2) := by decide +kernel
theorem dX6_wordToken_128 : decode cX6_wordToken 128 = .ok (.iload_n 1, 1) := by decide +kernel
theorem dX6_wordToken_129 : decode cX6_wordToken 129 = .ok (.iload_n 2, 1) := by decide +kernel
theorem dX6_wordToken_130 : decode cX6_wordToken 130 = .ok (.invokevirtual 78, 3) := by decide +kernel
theorem dX6_wordToken_133 : decode cX6_wordToken 133 = .ok (.ifCond .eq 8, 3) := by decide +kernel
theorem dX6_wordToken_136 : decode cX6_wordToken 136 = .ok (.bipush (-6), 2) := by decide +kernel
theorem dX6_wordToken_138 : decode cX6_wordToken 138 = .ok (.goto 5, 3) := by decide +kernel
theorem dX6_wordToken_141 : decode cX6_wordToken 141 = .ok (.bipush (-19), 2) := by decide +kernel
theorem dX6_wordToken_143 : decode cX6_wordToken 143 = .ok (.ireturn, 1) := by decide +kernel
theorem dX6_reads_0 : decode cX6_reads 0 = .ok (.iload_n 3, 1) := by decide +kernel
theorem dX6_reads_1 : decode cX6_reads 1 = .ok (.iload_n 2, 1) := by decide +kernel
theorem dX6_reads_2 : decode cX6_reads 2 = .ok (.isub, 1) := by decide +kernel
theorem dX6_reads_3 : decode cX6_reads 3 = .ok (.aload_n 1, 1) := by decide +kernel
theorem dX6_reads_4 : decode cX6_reads 4 = .ok (.invokevirtual 100, 3) := by decide +kernel
theorem dX6_reads_7 : decode cX6_reads 7 = .ok (.if_icmp .eq 5, 3) := by decide +kernel
theorem dX6_reads_10 : decode cX6_reads 10 = .ok (.iconst 0, 1) := by decide +kernel
theorem dX6_reads_11 : decode cX6_reads 11 = .ok (.ireturn, 1) := by decide +kernel
theorem dX6_reads_12 : decode cX6_reads 12 = .ok (.iload_n 2, 1) := by decide +kernel
theorem dX6_reads_13 : decode cX6_reads 13 = .ok (.istore 4, 2) := by decide +kernel
theorem dX6_reads_15 : decode cX6_reads 15 = .ok (.iload 4, 2) := by decide +kernel
theorem dX6_reads_17 : decode cX6_reads 17 = .ok (.iload_n 3, 1) := by decide +kernel
theorem dX6_reads_18 : decode cX6_reads 18 = .ok (.if_icmp .ge 29, 3) := by decide +kernel
theorem dX6_reads_21 : decode cX6_reads 21 = .ok (.aload_n 0, 1) := by decide +kernel
theorem dX6_reads_22 : decode cX6_reads 22 = .ok (.getfield 9, 3) := by decide +kernel
theorem dX6_reads_25 : decode cX6_reads 25 = .ok (.iload 4, 2) := by decide +kernel
theorem dX6_reads_27 : decode cX6_reads 27 = .ok (.caload, 1) := by decide +kernel
theorem dX6_reads_28 : decode cX6_reads 28 = .ok (.aload_n 1, 1) := by decide +kernel
theorem dX6_reads_29 : decode cX6_reads 29 = .ok (.iload 4, 2) := by decide +kernel
theorem dX6_reads_31 : decode cX6_reads 31 = .ok (.iload_n 2, 1) := by decide +kernel
theorem dX6_reads_32 : decode cX6_reads 32 = .ok (.isub, 1) := by decide +kernel
theorem dX6_reads_33 : decode cX6_reads 33 = .ok (.invokevirtual 105, 3) := by decide +kernel
theorem dX6_reads_36 : decode cX6_reads 36 = .ok (.if_icmp .eq 5, 3) := by decide +kernel
theorem dX6_reads_39 : decode cX6_reads 39 = .ok (.iconst 0, 1) := by decide +kernel
theorem dX6_reads_40 : decode cX6_reads 40 = .ok (.ireturn, 1) := by decide +kernel
theorem dX6_reads_41 : decode cX6_reads 41 = .ok (.iinc 4 1, 3) := by decide +kernel
theorem dX6_reads_44 : decode cX6_reads 44 = .ok (.goto (-29), 3) := by decide +kernel
theorem dX6_reads_47 : decode cX6_reads 47 = .ok (.iconst 1, 1) := by decide +kernel
theorem dX6_reads_48 : decode cX6_reads 48 = .ok (.ireturn, 1) := by decide +kernel
theorem dX6_isBlank_0 : decode cX6_isBlank 0 = .ok (.iload_n 0, 1) := by decide +kernel
theorem dX6_isBlank_1 : decode cX6_isBlank 1 = .ok (.bipush 10, 2) := by decide +kernel
theorem dX6_isBlank_3 : decode cX6_isBlank 3 = .ok (.if_icmp .eq 9, 3) := by decide +kernel
theorem dX6_isBlank_6 : decode cX6_isBlank 6 = .ok (.iload_n 0, 1) := by decide +kernel
theorem dX6_isBlank_7 : decode cX6_isBlank 7 = .ok (.bipush 32, 2) := by decide +kernel
theorem dX6_isBlank_9 : decode cX6_isBlank 9 = .ok (.if_icmp .ne 7, 3) := by decide +kernel
theorem dX6_isBlank_12 : decode cX6_isBlank 12 = .ok (.iconst 1, 1) := by decide +kernel
theorem dX6_isBlank_13 : decode cX6_isBlank 13 = .ok (.goto 4, 3) := by decide +kernel
theorem dX6_isBlank_16 : decode cX6_isBlank 16 = .ok (.iconst 0, 1) := by decide +kernel
theorem dX6_isBlank_17 : decode cX6_isBlank 17 = .ok (.ireturn, 1) := by decide +kernel
theorem dX6_isLetter_0 : decode cX6_isLetter 0 = .ok (.iload_n 0, 1) := by decide +kernel
theorem dX6_isLetter_1 : decode cX6_isLetter 1 = .ok (.bipush 97, 2) := by decide +kernel
theorem dX6_isLetter_3 : decode cX6_isLetter 3 = .ok (.if_icmp .lt 13, 3) := by decide +kernel
theorem dX6_isLetter_6 : decode cX6_isLetter 6 = .ok (.iload_n 0, 1) := by decide +kernel
theorem dX6_isLetter_7 : decode cX6_isLetter 7 = .ok (.bipush 122, 2) := by decide +kernel
theorem dX6_isLetter_9 : decode cX6_isLetter 9 = .ok (.if_icmp .gt 7, 3) := by decide +kernel
theorem dX6_isLetter_12 : decode cX6_isLetter 12 = .ok (.iconst 1, 1) := by decide +kernel
theorem dX6_isLetter_13 : decode cX6_isLetter 13 = .ok (.goto 4, 3) := by decide +kernel
theorem dX6_isLetter_16 : decode cX6_isLetter 16 = .ok (.iconst 0, 1) := by decide +kernel
theorem dX6_isLetter_17 : decode cX6_isLetter 17 = .ok (.ireturn, 1) := by decide +kernel
theorem dX6_isDigit_0 : decode cX6_isDigit 0 = .ok (.iload_n 0, 1) := by decide +kernel
theorem dX6_isDigit_1 : decode cX6_isDigit 1 = .ok (.bipush 48, 2) := by decide +kernel
theorem dX6_isDigit_3 : decode cX6_isDigit 3 = .ok (.if_icmp .lt 13, 3) := by decide +kernel
theorem dX6_isDigit_6 : decode cX6_isDigit 6 = .ok (.iload_n 0, 1) := by decide +kernel
theorem dX6_isDigit_7 : decode cX6_isDigit 7 = .ok (.bipush 57, 2) := by decide +kernel
theorem dX6_isDigit_9 : decode cX6_isDigit 9 = .ok (.if_icmp .gt 7, 3) := by decide +kernel
theorem dX6_isDigit_12 : decode cX6_isDigit 12 = .ok (.iconst 1, 1) := by decide +kernel
theorem dX6_isDigit_13 : decode cX6_isDigit 13 = .ok (.goto 4, 3) := by decide +kernel
theorem dX6_isDigit_16 : decode cX6_isDigit 16 = .ok (.iconst 0, 1) := by decide +kernel
theorem dX6_isDigit_17 : decode cX6_isDigit 17 = .ok (.ireturn, 1) := by decide +kernel
theorem dX6_signToken_0 : decode cX6_signToken 0 = .ok (.iload_n 0, 1) := by decide +kernel
theorem dX6_signToken_1 : decode cX6_signToken 1 = .ok (.tableswitch 124 40 61 #[103, 106, 124, 115, 124, 118, 124, 124, 124, 124, 124, 124, 124, 124, 124, 124, 124, 124, 124, 121, 109, 112], 103) := by decide +kernel
theorem dX6_signToken_104 : decode cX6_signToken 104 = .ok (.bipush (-15), 2) := by decide +kernel
theorem dX6_signToken_106 : decode cX6_signToken 106 = .ok (.ireturn, 1) := by decide +kernel
theorem dX6_signToken_107 : decode cX6_signToken 107 = .ok (.bipush (-16), 2) := by decide +kernel
theorem dX6_signToken_109 : decode cX6_signToken 109 = .ok (.ireturn, 1) := by decide +kernel
theorem dX6_signToken_110 : decode cX6_signToken 110 = .ok (.bipush (-9), 2) := by decide +kernel
theorem dX6_signToken_112 : decode cX6_signToken 112 = .ok (.ireturn, 1) := by decide +kernel
theorem dX6_signToken_113 : decode cX6_signToken 113 = .ok (.bipush (-10), 2) := by decide +kernel
theorem dX6_signToken_115 : decode cX6_signToken 115 = .ok (.ireturn, 1) := by decide +kernel
theorem dX6_signToken_116 : decode cX6_signToken 116 = .ok (.bipush (-7), 2) := by decide +kernel
theorem dX6_signToken_118 : decode cX6_signToken 118 = .ok (.ireturn, 1) := by decide +kernel
theorem dX6_signToken_119 : decode cX6_signToken 119 = .ok (.bipush (-8), 2) := by decide +kernel
theorem dX6_signToken_121 : decode cX6_signToken 121 = .ok (.ireturn, 1) := by decide +kernel
theorem dX6_signToken_122 : decode cX6_signToken 122 = .ok (.bipush (-17), 2) := by decide +kernel
theorem dX6_signToken_124 : decode cX6_signToken 124 = .ok (.ireturn, 1) := by decide +kernel
theorem dX6_signToken_125 : decode cX6_signToken 125 = .ok (.bipush (-19), 2) := by decide +kernel
theorem dX6_signToken_127 : decode cX6_signToken 127 = .ok (.ireturn, 1) := by decide +kernel
theorem dX7_init_0 : decode cX7_init 0 = .ok (.aload_n 0, 1) := by decide +kernel
theorem dX7_init_1 : decode cX7_init 1 = .ok (.invokespecial 3, 3) := by decide +kernel
theorem dX7_init_4 : decode cX7_init 4 = .ok (.aload_n 0, 1) := by decide +kernel
theorem dX7_init_5 : decode cX7_init 5 = .ok (.bipush 7, 2) := by decide +kernel
theorem dX7_init_7 : decode cX7_init 7 = .ok (.newarray .int, 2) := by decide +kernel
theorem dX7_init_9 : decode cX7_init 9 = .ok (.putfield 9, 3) := by decide +kernel
theorem dX7_init_12 : decode cX7_init 12 = .ok (.return_, 1) := by decide +kernel
theorem dX7_room_0 : decode cX7_room 0 = .ok (.aload_n 0, 1) := by decide +kernel
theorem dX7_room_1 : decode cX7_room 1 = .ok (.getfield 15, 3) := by decide +kernel
theorem dX7_room_4 : decode cX7_room 4 = .ok (.aload_n 0, 1) := by decide +kernel
theorem dX7_room_5 : decode cX7_room 5 = .ok (.getfield 19, 3) := by decide +kernel
theorem dX7_room_8 : decode cX7_room 8 = .ok (.isub, 1) := by decide +kernel
theorem dX7_room_9 : decode cX7_room 9 = .ok (.ireturn, 1) := by decide +kernel
theorem dX7_hundredths_0 : decode cX7_hundredths 0 = .ok (.aload_n 0, 1) := by decide +kernel
theorem dX7_hundredths_1 : decode cX7_hundredths 1 = .ok (.getfield 15, 3) := by decide +kernel
theorem dX7_hundredths_4 : decode cX7_hundredths 4 = .ok (.ifCond .le 18, 3) := by decide +kernel
theorem dX7_hundredths_7 : decode cX7_hundredths 7 = .ok (.aload_n 0, 1) := by decide +kernel
theorem dX7_hundredths_8 : decode cX7_hundredths 8 = .ok (.getfield 19, 3) := by decide +kernel
theorem dX7_hundredths_11 : decode cX7_hundredths 11 = .ok (.bipush 100, 2) := by decide +kernel
theorem dX7_hundredths_13 : decode cX7_hundredths 13 = .ok (.imul, 1) := by decide +kernel
theorem dX7_hundredths_14 : decode cX7_hundredths 14 = .ok (.aload_n 0, 1) := by decide +kernel
theorem dX7_hundredths_15 : decode cX7_hundredths 15 = .ok (.getfield 15, 3) := by decide +kernel
theorem dX7_hundredths_18 : decode cX7_hundredths 18 = .ok (.idiv, 1) := by decide +kernel
theorem dX7_hundredths_19 : decode cX7_hundredths 19 = .ok (.goto 4, 3) := by decide +kernel
theorem dX7_hundredths_22 : decode cX7_hundredths 22 = .ok (.iconst 0, 1) := by decide +kernel
theorem dX7_hundredths_23 : decode cX7_hundredths 23 = .ok (.ireturn, 1) := by decide +kernel
theorem dX7_fill_0 : decode cX7_fill 0 = .ok (.aload_n 0, 1) := by decide +kernel
theorem dX7_fill_1 : decode cX7_fill 1 = .ok (.aload_n 0, 1) := by decide +kernel
theorem dX7_fill_2 : decode cX7_fill 2 = .ok (.getfield 19, 3) := by decide +kernel
theorem dX7_fill_5 : decode cX7_fill 5 = .ok (.iload_n 1, 1) := by decide +kernel
theorem dX7_fill_6 : decode cX7_fill 6 = .ok (.iadd, 1) := by decide +kernel
theorem dX7_fill_7 : decode cX7_fill 7 = .ok (.aload_n 0, 1) := by decide +kernel
theorem dX7_fill_8 : decode cX7_fill 8 = .ok (.getfield 15, 3) := by decide +kernel
theorem dX7_fill_11 : decode cX7_fill 11 = .ok (.invokestatic 22, 3) := by decide +kernel
theorem dX7_fill_14 : decode cX7_fill 14 = .ok (.putfield 19, 3) := by decide +kernel
theorem dX7_fill_17 : decode cX7_fill 17 = .ok (.return_, 1) := by decide +kernel
theorem dX7_give_0 : decode cX7_give 0 = .ok (.aload_n 0, 1) := by decide +kernel
theorem dX7_give_1 : decode cX7_give 1 = .ok (.aload_n 0, 1) := by decide +kernel
theorem dX7_give_2 : decode cX7_give 2 = .ok (.getfield 19, 3) := by decide +kernel
theorem dX7_give_5 : decode cX7_give 5 = .ok (.iload_n 1, 1) := by decide +kernel
theorem dX7_give_6 : decode cX7_give 6 = .ok (.if_icmp .ge 7, 3) := by decide +kernel
theorem dX7_give_9 : decode cX7_give 9 = .ok (.iconst 1, 1) := by decide +kernel
theorem dX7_give_10 : decode cX7_give 10 = .ok (.goto 4, 3) := by decide +kernel
theorem dX7_give_13 : decode cX7_give 13 = .ok (.iconst 0, 1) := by decide +kernel
theorem dX7_give_14 : decode cX7_give 14 = .ok (.putfield 28, 3) := by decide +kernel
theorem dX7_give_17 : decode cX7_give 17 = .ok (.aload_n 0, 1) := by decide +kernel
theorem dX7_give_18 : decode cX7_give 18 = .ok (.aload_n 0, 1) := by decide +kernel
theorem dX7_give_19 : decode cX7_give 19 = .ok (.getfield 19, 3) := by decide +kernel
theorem dX7_give_22 : decode cX7_give 22 = .ok (.iload_n 1, 1) := by decide +kernel
theorem dX7_give_23 : decode cX7_give 23 = .ok (.invokestatic 22, 3) := by decide +kernel
theorem dX7_give_26 : decode cX7_give 26 = .ok (.putfield 32, 3) := by decide +kernel
theorem dX7_give_29 : decode cX7_give 29 = .ok (.aload_n 0, 1) := by decide +kernel
theorem dX7_give_30 : decode cX7_give 30 = .ok (.dup, 1) := by decide +kernel
theorem dX7_give_31 : decode cX7_give 31 = .ok (.getfield 19, 3) := by decide +kernel
theorem dX7_give_34 : decode cX7_give 34 = .ok (.aload_n 0, 1) := by decide +kernel
theorem dX7_give_35 : decode cX7_give 35 = .ok (.getfield 32, 3) := by decide +kernel
theorem dX7_give_38 : decode cX7_give 38 = .ok (.isub, 1) := by decide +kernel
theorem dX7_give_39 : decode cX7_give 39 = .ok (.putfield 19, 3) := by decide +kernel
theorem dX7_give_42 : decode cX7_give 42 = .ok (.aload_n 0, 1) := by decide +kernel
theorem dX7_give_43 : decode cX7_give 43 = .ok (.aload_n 0, 1) := by decide +kernel
theorem dX7_give_44 : decode cX7_give 44 = .ok (.getfield 28, 3) := by decide +kernel
theorem dX7_give_47 : decode cX7_give 47 = .ok (.ifCond .eq 12, 3) := by decide +kernel
theorem dX7_give_50 : decode cX7_give 50 = .ok (.aload_n 0, 1) := by decide +kernel
theorem dX7_give_51 : decode cX7_give 51 = .ok (.getfield 35, 3) := by decide +kernel
theorem dX7_give_54 : decode cX7_give 54 = .ok (.iconst 1, 1) := by decide +kernel
theorem dX7_give_55 : decode cX7_give 55 = .ok (.iadd, 1) := by decide +kernel
theorem dX7_give_56 : decode cX7_give 56 = .ok (.goto 4, 3) := by decide +kernel
theorem dX7_give_59 : decode cX7_give 59 = .ok (.iconst 0, 1) := by decide +kernel
theorem dX7_give_60 : decode cX7_give 60 = .ok (.putfield 35, 3) := by decide +kernel
theorem dX7_give_63 : decode cX7_give 63 = .ok (.aload_n 0, 1) := by decide +kernel
theorem dX7_give_64 : decode cX7_give 64 = .ok (.dup, 1) := by decide +kernel
theorem dX7_give_65 : decode cX7_give 65 = .ok (.getfield 38, 3) := by decide +kernel
theorem dX7_give_68 : decode cX7_give 68 = .ok (.aload_n 0, 1) := by decide +kernel
theorem dX7_give_69 : decode cX7_give 69 = .ok (.getfield 28, 3) := by decide +kernel
theorem dX7_give_72 : decode cX7_give 72 = .ok (.ifCond .eq 7, 3) := by decide +kernel
theorem dX7_give_75 : decode cX7_give 75 = .ok (.iconst 1, 1) := by decide +kernel
theorem dX7_give_76 : decode cX7_give 76 = .ok (.goto 4, 3) := by decide +kernel
theorem dX7_give_79 : decode cX7_give 79 = .ok (.iconst 0, 1) := by decide +kernel
theorem dX7_give_80 : decode cX7_give 80 = .ok (.iadd, 1) := by decide +kernel
theorem dX7_give_81 : decode cX7_give 81 = .ok (.putfield 38, 3) := by decide +kernel
theorem dX7_give_84 : decode cX7_give 84 = .ok (.iload_n 2, 1) := by decide +kernel
theorem dX7_give_85 : decode cX7_give 85 = .ok (.ifCond .lt 19, 3) := by decide +kernel
theorem dX7_give_88 : decode cX7_give 88 = .ok (.iload_n 2, 1) := by decide +kernel
theorem dX7_give_89 : decode cX7_give 89 = .ok (.bipush 7, 2) := by decide +kernel
theorem dX7_give_91 : decode cX7_give 91 = .ok (.if_icmp .ge 13, 3) := by decide +kernel
theorem dX7_give_94 : decode cX7_give 94 = .ok (.aload_n 0, 1) := by decide +kernel
theorem dX7_give_95 : decode cX7_give 95 = .ok (.getfield 9, 3) := by decide +kernel
theorem dX7_give_98 : decode cX7_give 98 = .ok (.iload_n 2, 1) := by decide +kernel
theorem dX7_give_99 : decode cX7_give 99 = .ok (.aload_n 0, 1) := by decide +kernel
theorem dX7_give_100 : decode cX7_give 100 = .ok (.getfield 32, 3) := by decide +kernel
theorem dX7_give_103 : decode cX7_give 103 = .ok (.iastore, 1) := by decide +kernel
theorem dX7_give_104 : decode cX7_give 104 = .ok (.return_, 1) := by decide +kernel
theorem dX7_givenInWeek_0 : decode cX7_givenInWeek 0 = .ok (.iconst 0, 1) := by decide +kernel
theorem dX7_givenInWeek_1 : decode cX7_givenInWeek 1 = .ok (.istore_n 1, 1) := by decide +kernel
theorem dX7_givenInWeek_2 : decode cX7_givenInWeek 2 = .ok (.iconst 0, 1) := by decide +kernel
theorem dX7_givenInWeek_3 : decode cX7_givenInWeek 3 = .ok (.istore_n 2, 1) := by decide +kernel
theorem dX7_givenInWeek_4 : decode cX7_givenInWeek 4 = .ok (.iload_n 2, 1) := by decide +kernel
theorem dX7_givenInWeek_5 : decode cX7_givenInWeek 5 = .ok (.bipush 7, 2) := by decide +kernel
theorem dX7_givenInWeek_7 : decode cX7_givenInWeek 7 = .ok (.if_icmp .ge 18, 3) := by decide +kernel
theorem dX7_givenInWeek_10 : decode cX7_givenInWeek 10 = .ok (.iload_n 1, 1) := by decide +kernel
theorem dX7_givenInWeek_11 : decode cX7_givenInWeek 11 = .ok (.aload_n 0, 1) := by decide +kernel
theorem dX7_givenInWeek_12 : decode cX7_givenInWeek 12 = .ok (.getfield 9, 3) := by decide +kernel
theorem dX7_givenInWeek_15 : decode cX7_givenInWeek 15 = .ok (.iload_n 2, 1) := by decide +kernel
theorem dX7_givenInWeek_16 : decode cX7_givenInWeek 16 = .ok (.iaload, 1) := by decide +kernel
theorem dX7_givenInWeek_17 : decode cX7_givenInWeek 17 = .ok (.iadd, 1) := by decide +kernel
theorem dX7_givenInWeek_18 : decode cX7_givenInWeek 18 = .ok (.istore_n 1, 1) := by decide +kernel
theorem dX7_givenInWeek_19 : decode cX7_givenInWeek 19 = .ok (.iinc 2 1, 3) := by decide +kernel
theorem dX7_givenInWeek_22 : decode cX7_givenInWeek 22 = .ok (.goto (-18), 3) := by decide +kernel
theorem dX7_givenInWeek_25 : decode cX7_givenInWeek 25 = .ok (.iload_n 1, 1) := by decide +kernel
theorem dX7_givenInWeek_26 : decode cX7_givenInWeek 26 = .ok (.ireturn, 1) := by decide +kernel
theorem dX7_told_0 : decode cX7_told 0 = .ok (.iload_n 1, 1) := by decide +kernel
theorem dX7_told_1 : decode cX7_told 1 = .ok (.tableswitch 95 0 7 #[47, 52, 57, 62, 67, 72, 85, 90], 47) := by decide +kernel
theorem dX7_told_48 : decode cX7_told 48 = .ok (.aload_n 0, 1) := by decide +kernel
theorem dX7_told_49 : decode cX7_told 49 = .ok (.getfield 41, 3) := by decide +kernel
theorem dX7_told_52 : decode cX7_told 52 = .ok (.ireturn, 1) := by decide +kernel
theorem dX7_told_53 : decode cX7_told 53 = .ok (.aload_n 0, 1) := by decide +kernel
theorem dX7_told_54 : decode cX7_told 54 = .ok (.getfield 44, 3) := by decide +kernel
theorem dX7_told_57 : decode cX7_told 57 = .ok (.ireturn, 1) := by decide +kernel
theorem dX7_told_58 : decode cX7_told 58 = .ok (.aload_n 0, 1) := by decide +kernel
theorem dX7_told_59 : decode cX7_told 59 = .ok (.getfield 19, 3) := by decide +kernel
theorem dX7_told_62 : decode cX7_told 62 = .ok (.ireturn, 1) := by decide +kernel
theorem dX7_told_63 : decode cX7_told 63 = .ok (.aload_n 0, 1) := by decide +kernel
theorem dX7_told_64 : decode cX7_told 64 = .ok (.getfield 47, 3) := by decide +kernel
theorem dX7_told_67 : decode cX7_told 67 = .ok (.ireturn, 1) := by decide +kernel
theorem dX7_told_68 : decode cX7_told 68 = .ok (.aload_n 0, 1) := by decide +kernel
theorem dX7_told_69 : decode cX7_told 69 = .ok (.getfield 32, 3) := by decide +kernel
theorem dX7_told_72 : decode cX7_told 72 = .ok (.ireturn, 1) := by decide +kernel
theorem dX7_told_73 : decode cX7_told 73 = .ok (.aload_n 0, 1) := by decide +kernel
theorem dX7_told_74 : decode cX7_told 74 = .ok (.getfield 28, 3) := by decide +kernel
theorem dX7_told_77 : decode cX7_told 77 = .ok (.ifCond .eq 7, 3) := by decide +kernel
theorem dX7_told_80 : decode cX7_told 80 = .ok (.iconst 1, 1) := by decide +kernel
theorem dX7_told_81 : decode cX7_told 81 = .ok (.goto 4, 3) := by decide +kernel
theorem dX7_told_84 : decode cX7_told 84 = .ok (.iconst 0, 1) := by decide +kernel
theorem dX7_told_85 : decode cX7_told 85 = .ok (.ireturn, 1) := by decide +kernel
theorem dX7_told_86 : decode cX7_told 86 = .ok (.aload_n 0, 1) := by decide +kernel
theorem dX7_told_87 : decode cX7_told 87 = .ok (.getfield 35, 3) := by decide +kernel
theorem dX7_told_90 : decode cX7_told 90 = .ok (.ireturn, 1) := by decide +kernel
theorem dX7_told_91 : decode cX7_told 91 = .ok (.aload_n 0, 1) := by decide +kernel
theorem dX7_told_92 : decode cX7_told 92 = .ok (.getfield 38, 3) := by decide +kernel
theorem dX7_told_95 : decode cX7_told 95 = .ok (.ireturn, 1) := by decide +kernel
theorem dX7_told_96 : decode cX7_told 96 = .ok (.aload_n 0, 1) := by decide +kernel
theorem dX7_told_97 : decode cX7_told 97 = .ok (.getfield 50, 3) := by decide +kernel
theorem dX7_told_100 : decode cX7_told 100 = .ok (.ireturn, 1) := by decide +kernel
theorem dX8_init_0 : decode cX8_init 0 = .ok (.aload_n 0, 1) := by decide +kernel
theorem dX8_init_1 : decode cX8_init 1 = .ok (.invokespecial 1, 3) := by decide +kernel
theorem dX8_init_4 : decode cX8_init 4 = .ok (.aload_n 0, 1) := by decide +kernel
theorem dX8_init_5 : decode cX8_init 5 = .ok (.bipush 12, 2) := by decide +kernel
theorem dX8_init_7 : decode cX8_init 7 = .ok (.anewarray 9, 3) := by decide +kernel
theorem dX8_init_10 : decode cX8_init 10 = .ok (.putfield 11, 3) := by decide +kernel
theorem dX8_init_13 : decode cX8_init 13 = .ok (.aload_n 0, 1) := by decide +kernel
theorem dX8_init_14 : decode cX8_init 14 = .ok (.iconst 4, 1) := by decide +kernel
theorem dX8_init_15 : decode cX8_init 15 = .ok (.anewarray 15, 3) := by decide +kernel
theorem dX8_init_18 : decode cX8_init 18 = .ok (.putfield 17, 3) := by decide +kernel
theorem dX8_init_21 : decode cX8_init 21 = .ok (.aload_n 0, 1) := by decide +kernel
theorem dX8_init_22 : decode cX8_init 22 = .ok (.iconst 4, 1) := by decide +kernel
theorem dX8_init_23 : decode cX8_init 23 = .ok (.anewarray 21, 3) := by decide +kernel
theorem dX8_init_26 : decode cX8_init 26 = .ok (.putfield 23, 3) := by decide +kernel
theorem dX8_init_29 : decode cX8_init 29 = .ok (.aload_n 0, 1) := by decide +kernel
theorem dX8_init_30 : decode cX8_init 30 = .ok (.bipush 10, 2) := by decide +kernel
theorem dX8_init_32 : decode cX8_init 32 = .ok (.anewarray 27, 3) := by decide +kernel
theorem dX8_init_35 : decode cX8_init 35 = .ok (.putfield 29, 3) := by decide +kernel
theorem dX8_init_38 : decode cX8_init 38 = .ok (.aload_n 0, 1) := by decide +kernel
theorem dX8_init_39 : decode cX8_init 39 = .ok (.bipush 6, 2) := by decide +kernel
theorem dX8_init_41 : decode cX8_init 41 = .ok (.newarray .int, 2) := by decide +kernel
theorem dX8_init_43 : decode cX8_init 43 = .ok (.putfield 33, 3) := by decide +kernel
theorem dX8_init_46 : decode cX8_init 46 = .ok (.aload_n 0, 1) := by decide +kernel
theorem dX8_init_47 : decode cX8_init 47 = .ok (.new 37, 3) := by decide +kernel
theorem dX8_init_50 : decode cX8_init 50 = .ok (.dup, 1) := by decide +kernel
theorem dX8_init_51 : decode cX8_init 51 = .ok (.invokespecial 39, 3) := by decide +kernel
theorem dX8_init_54 : decode cX8_init 54 = .ok (.putfield 40, 3) := by decide +kernel
theorem dX8_init_57 : decode cX8_init 57 = .ok (.aload_n 0, 1) := by decide +kernel
theorem dX8_init_58 : decode cX8_init 58 = .ok (.new 44, 3) := by decide +kernel
theorem dX8_init_61 : decode cX8_init 61 = .ok (.dup, 1) := by decide +kernel
theorem dX8_init_62 : decode cX8_init 62 = .ok (.invokespecial 46, 3) := by decide +kernel
theorem dX8_init_65 : decode cX8_init 65 = .ok (.putfield 47, 3) := by decide +kernel
theorem dX8_init_68 : decode cX8_init 68 = .ok (.iconst 0, 1) := by decide +kernel
theorem dX8_init_69 : decode cX8_init 69 = .ok (.istore_n 1, 1) := by decide +kernel
theorem dX8_init_70 : decode cX8_init 70 = .ok (.iload_n 1, 1) := by decide +kernel
theorem dX8_init_71 : decode cX8_init 71 = .ok (.bipush 12, 2) := by decide +kernel
theorem dX8_init_73 : decode cX8_init 73 = .ok (.if_icmp .ge 22, 3) := by decide +kernel
theorem dX8_init_76 : decode cX8_init 76 = .ok (.aload_n 0, 1) := by decide +kernel
theorem dX8_init_77 : decode cX8_init 77 = .ok (.getfield 11, 3) := by decide +kernel
theorem dX8_init_80 : decode cX8_init 80 = .ok (.iload_n 1, 1) := by decide +kernel
theorem dX8_init_81 : decode cX8_init 81 = .ok (.new 9, 3) := by decide +kernel
theorem dX8_init_84 : decode cX8_init 84 = .ok (.dup, 1) := by decide +kernel
theorem dX8_init_85 : decode cX8_init 85 = .ok (.invokespecial 51, 3) := by decide +kernel
theorem dX8_init_88 : decode cX8_init 88 = .ok (.aastore, 1) := by decide +kernel
theorem dX8_init_89 : decode cX8_init 89 = .ok (.iinc 1 1, 3) := by decide +kernel
theorem dX8_init_92 : decode cX8_init 92 = .ok (.goto (-22), 3) := by decide +kernel
theorem dX8_init_95 : decode cX8_init 95 = .ok (.iconst 0, 1) := by decide +kernel
theorem dX8_init_96 : decode cX8_init 96 = .ok (.istore_n 1, 1) := by decide +kernel
theorem dX8_init_97 : decode cX8_init 97 = .ok (.iload_n 1, 1) := by decide +kernel
theorem dX8_init_98 : decode cX8_init 98 = .ok (.iconst 4, 1) := by decide +kernel
theorem dX8_init_99 : decode cX8_init 99 = .ok (.if_icmp .ge 22, 3) := by decide +kernel
theorem dX8_init_102 : decode cX8_init 102 = .ok (.aload_n 0, 1) := by decide +kernel
theorem dX8_init_103 : decode cX8_init 103 = .ok (.getfield 17, 3) := by decide +kernel
theorem dX8_init_106 : decode cX8_init 106 = .ok (.iload_n 1, 1) := by decide +kernel
theorem dX8_init_107 : decode cX8_init 107 = .ok (.new 15, 3) := by decide +kernel
theorem dX8_init_110 : decode cX8_init 110 = .ok (.dup, 1) := by decide +kernel
theorem dX8_init_111 : decode cX8_init 111 = .ok (.invokespecial 52, 3) := by decide +kernel
theorem dX8_init_114 : decode cX8_init 114 = .ok (.aastore, 1) := by decide +kernel
theorem dX8_init_115 : decode cX8_init 115 = .ok (.iinc 1 1, 3) := by decide +kernel
theorem dX8_init_118 : decode cX8_init 118 = .ok (.goto (-21), 3) := by decide +kernel
theorem dX8_init_121 : decode cX8_init 121 = .ok (.iconst 0, 1) := by decide +kernel
theorem dX8_init_122 : decode cX8_init 122 = .ok (.istore_n 1, 1) := by decide +kernel
theorem dX8_init_123 : decode cX8_init 123 = .ok (.iload_n 1, 1) := by decide +kernel
theorem dX8_init_124 : decode cX8_init 124 = .ok (.iconst 4, 1) := by decide +kernel
theorem dX8_init_125 : decode cX8_init 125 = .ok (.if_icmp .ge 22, 3) := by decide +kernel
theorem dX8_init_128 : decode cX8_init 128 = .ok (.aload_n 0, 1) := by decide +kernel
theorem dX8_init_129 : decode cX8_init 129 = .ok (.getfield 23, 3) := by decide +kernel
theorem dX8_init_132 : decode cX8_init 132 = .ok (.iload_n 1, 1) := by decide +kernel
theorem dX8_init_133 : decode cX8_init 133 = .ok (.new 21, 3) := by decide +kernel
theorem dX8_init_136 : decode cX8_init 136 = .ok (.dup, 1) := by decide +kernel
theorem dX8_init_137 : decode cX8_init 137 = .ok (.invokespecial 53, 3) := by decide +kernel
theorem dX8_init_140 : decode cX8_init 140 = .ok (.aastore, 1) := by decide +kernel
