theorem dX0_init_0 : decode cX0_init 0 = .ok (.aload_n 0, 1) := by decide +kernel
theorem dX0_init_1 : decode cX0_init 1 = .ok (.invokespecial 1, 3) := by decide +kernel
theorem dX0_init_4 : decode cX0_init 4 = .ok (.return_, 1) := by decide +kernel
theorem dX1_init_0 : decode cX1_init 0 = .ok (.aload_n 0, 1) := by decide +kernel
theorem dX1_init_1 : decode cX1_init 1 = .ok (.invokespecial 3, 3) := by decide +kernel
theorem dX1_init_4 : decode cX1_init 4 = .ok (.aload_n 0, 1) := by decide +kernel
theorem dX1_init_5 : decode cX1_init 5 = .ok (.bipush 16, 2) := by decide +kernel
theorem dX1_init_7 : decode cX1_init 7 = .ok (.newarray .int, 2) := by decide +kernel
theorem dX1_init_9 : decode cX1_init 9 = .ok (.putfield 9, 3) := by decide +kernel
theorem dX1_init_12 : decode cX1_init 12 = .ok (.aload_n 0, 1) := by decide +kernel
theorem dX1_init_13 : decode cX1_init 13 = .ok (.bipush 16, 2) := by decide +kernel
theorem dX1_init_15 : decode cX1_init 15 = .ok (.newarray .int, 2) := by decide +kernel
theorem dX1_init_17 : decode cX1_init 17 = .ok (.putfield 15, 3) := by decide +kernel
theorem dX1_init_20 : decode cX1_init 20 = .ok (.aload_n 0, 1) := by decide +kernel
theorem dX1_init_21 : decode cX1_init 21 = .ok (.bipush 16, 2) := by decide +kernel
theorem dX1_init_23 : decode cX1_init 23 = .ok (.newarray .int, 2) := by decide +kernel
theorem dX1_init_25 : decode cX1_init 25 = .ok (.putfield 18, 3) := by decide +kernel
theorem dX1_init_28 : decode cX1_init 28 = .ok (.aload_n 0, 1) := by decide +kernel
theorem dX1_init_29 : decode cX1_init 29 = .ok (.sipush 600, 3) := by decide +kernel
theorem dX1_init_32 : decode cX1_init 32 = .ok (.newarray .int, 2) := by decide +kernel
theorem dX1_init_34 : decode cX1_init 34 = .ok (.putfield 21, 3) := by decide +kernel
theorem dX1_init_37 : decode cX1_init 37 = .ok (.aload_n 0, 1) := by decide +kernel
theorem dX1_init_38 : decode cX1_init 38 = .ok (.bipush 32, 2) := by decide +kernel
theorem dX1_init_40 : decode cX1_init 40 = .ok (.newarray .int, 2) := by decide +kernel
theorem dX1_init_42 : decode cX1_init 42 = .ok (.putfield 24, 3) := by decide +kernel
theorem dX1_init_45 : decode cX1_init 45 = .ok (.return_, 1) := by decide +kernel
theorem dX1_clear_0 : decode cX1_clear 0 = .ok (.aload_n 0, 1) := by decide +kernel
theorem dX1_clear_1 : decode cX1_clear 1 = .ok (.iconst 0, 1) := by decide +kernel
theorem dX1_clear_2 : decode cX1_clear 2 = .ok (.putfield 27, 3) := by decide +kernel
theorem dX1_clear_5 : decode cX1_clear 5 = .ok (.aload_n 0, 1) := by decide +kernel
theorem dX1_clear_6 : decode cX1_clear 6 = .ok (.iconst 0, 1) := by decide +kernel
theorem dX1_clear_7 : decode cX1_clear 7 = .ok (.putfield 31, 3) := by decide +kernel
theorem dX1_clear_10 : decode cX1_clear 10 = .ok (.return_, 1) := by decide +kernel
theorem dX1_addLine_0 : decode cX1_addLine 0 = .ok (.aload_n 0, 1) := by decide +kernel
theorem dX1_addLine_1 : decode cX1_addLine 1 = .ok (.getfield 27, 3) := by decide +kernel
theorem dX1_addLine_4 : decode cX1_addLine 4 = .ok (.bipush 16, 2) := by decide +kernel
theorem dX1_addLine_6 : decode cX1_addLine 6 = .ok (.if_icmp .ge 46, 3) := by decide +kernel
theorem dX1_addLine_9 : decode cX1_addLine 9 = .ok (.aload_n 0, 1) := by decide +kernel
theorem dX1_addLine_10 : decode cX1_addLine 10 = .ok (.getfield 9, 3) := by decide +kernel
theorem dX1_addLine_13 : decode cX1_addLine 13 = .ok (.aload_n 0, 1) := by decide +kernel
theorem dX1_addLine_14 : decode cX1_addLine 14 = .ok (.getfield 27, 3) := by decide +kernel
theorem dX1_addLine_17 : decode cX1_addLine 17 = .ok (.iload_n 1, 1) := by decide +kernel
theorem dX1_addLine_18 : decode cX1_addLine 18 = .ok (.iastore, 1) := by decide +kernel
theorem dX1_addLine_19 : decode cX1_addLine 19 = .ok (.aload_n 0, 1) := by decide +kernel
theorem dX1_addLine_20 : decode cX1_addLine 20 = .ok (.getfield 15, 3) := by decide +kernel
theorem dX1_addLine_23 : decode cX1_addLine 23 = .ok (.aload_n 0, 1) := by decide +kernel
theorem dX1_addLine_24 : decode cX1_addLine 24 = .ok (.getfield 27, 3) := by decide +kernel
theorem dX1_addLine_27 : decode cX1_addLine 27 = .ok (.iload_n 2, 1) := by decide +kernel
theorem dX1_addLine_28 : decode cX1_addLine 28 = .ok (.iastore, 1) := by decide +kernel
theorem dX1_addLine_29 : decode cX1_addLine 29 = .ok (.aload_n 0, 1) := by decide +kernel
theorem dX1_addLine_30 : decode cX1_addLine 30 = .ok (.getfield 18, 3) := by decide +kernel
theorem dX1_addLine_33 : decode cX1_addLine 33 = .ok (.aload_n 0, 1) := by decide +kernel
theorem dX1_addLine_34 : decode cX1_addLine 34 = .ok (.getfield 27, 3) := by decide +kernel
theorem dX1_addLine_37 : decode cX1_addLine 37 = .ok (.aload_n 0, 1) := by decide +kernel
theorem dX1_addLine_38 : decode cX1_addLine 38 = .ok (.getfield 31, 3) := by decide +kernel
theorem dX1_addLine_41 : decode cX1_addLine 41 = .ok (.iastore, 1) := by decide +kernel
theorem dX1_addLine_42 : decode cX1_addLine 42 = .ok (.aload_n 0, 1) := by decide +kernel
theorem dX1_addLine_43 : decode cX1_addLine 43 = .ok (.dup, 1) := by decide +kernel
theorem dX1_addLine_44 : decode cX1_addLine 44 = .ok (.getfield 27, 3) := by decide +kernel
theorem dX1_addLine_47 : decode cX1_addLine 47 = .ok (.iconst 1, 1) := by decide +kernel
theorem dX1_addLine_48 : decode cX1_addLine 48 = .ok (.iadd, 1) := by decide +kernel
theorem dX1_addLine_49 : decode cX1_addLine 49 = .ok (.putfield 27, 3) := by decide +kernel
theorem dX1_addLine_52 : decode cX1_addLine 52 = .ok (.return_, 1) := by decide +kernel
theorem dX1_addStep_0 : decode cX1_addStep 0 = .ok (.aload_n 0, 1) := by decide +kernel
theorem dX1_addStep_1 : decode cX1_addStep 1 = .ok (.getfield 31, 3) := by decide +kernel
theorem dX1_addStep_4 : decode cX1_addStep 4 = .ok (.sipush 600, 3) := by decide +kernel
theorem dX1_addStep_7 : decode cX1_addStep 7 = .ok (.if_icmp .ge 23, 3) := by decide +kernel
theorem dX1_addStep_10 : decode cX1_addStep 10 = .ok (.aload_n 0, 1) := by decide +kernel
theorem dX1_addStep_11 : decode cX1_addStep 11 = .ok (.getfield 21, 3) := by decide +kernel
theorem dX1_addStep_14 : decode cX1_addStep 14 = .ok (.aload_n 0, 1) := by decide +kernel
theorem dX1_addStep_15 : decode cX1_addStep 15 = .ok (.getfield 31, 3) := by decide +kernel
theorem dX1_addStep_18 : decode cX1_addStep 18 = .ok (.iload_n 1, 1) := by decide +kernel
theorem dX1_addStep_19 : decode cX1_addStep 19 = .ok (.iastore, 1) := by decide +kernel
theorem dX1_addStep_20 : decode cX1_addStep 20 = .ok (.aload_n 0, 1) := by decide +kernel
theorem dX1_addStep_21 : decode cX1_addStep 21 = .ok (.dup, 1) := by decide +kernel
theorem dX1_addStep_22 : decode cX1_addStep 22 = .ok (.getfield 31, 3) := by decide +kernel
theorem dX1_addStep_25 : decode cX1_addStep 25 = .ok (.iconst 1, 1) := by decide +kernel
theorem dX1_addStep_26 : decode cX1_addStep 26 = .ok (.iadd, 1) := by decide +kernel
theorem dX1_addStep_27 : decode cX1_addStep 27 = .ok (.putfield 31, 3) := by decide +kernel
theorem dX1_addStep_30 : decode cX1_addStep 30 = .ok (.return_, 1) := by decide +kernel
theorem dX1_litresFor_0 : decode cX1_litresFor 0 = .ok (.iconst 0, 1) := by decide +kernel
theorem dX1_litresFor_1 : decode cX1_litresFor 1 = .ok (.istore 4, 2) := by decide +kernel
theorem dX1_litresFor_3 : decode cX1_litresFor 3 = .ok (.iload 4, 2) := by decide +kernel
theorem dX1_litresFor_5 : decode cX1_litresFor 5 = .ok (.aload_n 0, 1) := by decide +kernel
theorem dX1_litresFor_6 : decode cX1_litresFor 6 = .ok (.getfield 27, 3) := by decide +kernel
theorem dX1_litresFor_9 : decode cX1_litresFor 9 = .ok (.if_icmp .ge 38, 3) := by decide +kernel
theorem dX1_litresFor_12 : decode cX1_litresFor 12 = .ok (.aload_n 0, 1) := by decide +kernel
theorem dX1_litresFor_13 : decode cX1_litresFor 13 = .ok (.getfield 9, 3) := by decide +kernel
theorem dX1_litresFor_16 : decode cX1_litresFor 16 = .ok (.iload 4, 2) := by decide +kernel
theorem dX1_litresFor_18 : decode cX1_litresFor 18 = .ok (.iaload, 1) := by decide +kernel
theorem dX1_litresFor_19 : decode cX1_litresFor 19 = .ok (.iload_n 1, 1) := by decide +kernel
theorem dX1_litresFor_20 : decode cX1_litresFor 20 = .ok (.if_icmp .ne 21, 3) := by decide +kernel
theorem dX1_litresFor_23 : decode cX1_litresFor 23 = .ok (.aload_n 0, 1) := by decide +kernel
theorem dX1_litresFor_24 : decode cX1_litresFor 24 = .ok (.iload 4, 2) := by decide +kernel
theorem dX1_litresFor_26 : decode cX1_litresFor 26 = .ok (.aload_n 2, 1) := by decide +kernel
theorem dX1_litresFor_27 : decode cX1_litresFor 27 = .ok (.invokevirtual 34, 3) := by decide +kernel
theorem dX1_litresFor_30 : decode cX1_litresFor 30 = .ok (.ifCond .eq 11, 3) := by decide +kernel
theorem dX1_litresFor_33 : decode cX1_litresFor 33 = .ok (.aload_n 0, 1) := by decide +kernel
theorem dX1_litresFor_34 : decode cX1_litresFor 34 = .ok (.getfield 15, 3) := by decide +kernel
theorem dX1_litresFor_37 : decode cX1_litresFor 37 = .ok (.iload 4, 2) := by decide +kernel
theorem dX1_litresFor_39 : decode cX1_litresFor 39 = .ok (.iaload, 1) := by decide +kernel
theorem dX1_litresFor_40 : decode cX1_litresFor 40 = .ok (.ireturn, 1) := by decide +kernel
theorem dX1_litresFor_41 : decode cX1_litresFor 41 = .ok (.iinc 4 1, 3) := by decide +kernel
theorem dX1_litresFor_44 : decode cX1_litresFor 44 = .ok (.goto (-41), 3) := by decide +kernel
theorem dX1_litresFor_47 : decode cX1_litresFor 47 = .ok (.iload_n 3, 1) := by decide +kernel
theorem dX1_litresFor_48 : decode cX1_litresFor 48 = .ok (.ireturn, 1) := by decide +kernel
theorem dX1_valueOf_0 : decode cX1_valueOf 0 = .ok (.iload_n 1, 1) := by decide +kernel
theorem dX1_valueOf_1 : decode cX1_valueOf 1 = .ok (.iconst 1, 1) := by decide +kernel
theorem dX1_valueOf_2 : decode cX1_valueOf 2 = .ok (.iadd, 1) := by decide +kernel
theorem dX1_valueOf_3 : decode cX1_valueOf 3 = .ok (.aload_n 0, 1) := by decide +kernel
theorem dX1_valueOf_4 : decode cX1_valueOf 4 = .ok (.getfield 27, 3) := by decide +kernel
theorem dX1_valueOf_7 : decode cX1_valueOf 7 = .ok (.if_icmp .ge 14, 3) := by decide +kernel
theorem dX1_valueOf_10 : decode cX1_valueOf 10 = .ok (.aload_n 0, 1) := by decide +kernel
theorem dX1_valueOf_11 : decode cX1_valueOf 11 = .ok (.getfield 18, 3) := by decide +kernel
theorem dX1_valueOf_14 : decode cX1_valueOf 14 = .ok (.iload_n 1, 1) := by decide +kernel
theorem dX1_valueOf_15 : decode cX1_valueOf 15 = .ok (.iconst 1, 1) := by decide +kernel
theorem dX1_valueOf_16 : decode cX1_valueOf 16 = .ok (.iadd, 1) := by decide +kernel
theorem dX1_valueOf_17 : decode cX1_valueOf 17 = .ok (.iaload, 1) := by decide +kernel
theorem dX1_valueOf_18 : decode cX1_valueOf 18 = .ok (.goto 7, 3) := by decide +kernel
theorem dX1_valueOf_21 : decode cX1_valueOf 21 = .ok (.aload_n 0, 1) := by decide +kernel
theorem dX1_valueOf_22 : decode cX1_valueOf 22 = .ok (.getfield 31, 3) := by decide +kernel
theorem dX1_valueOf_25 : decode cX1_valueOf 25 = .ok (.istore_n 3, 1) := by decide +kernel
theorem dX1_valueOf_26 : decode cX1_valueOf 26 = .ok (.aload_n 0, 1) := by decide +kernel
theorem dX1_valueOf_27 : decode cX1_valueOf 27 = .ok (.iconst 0, 1) := by decide +kernel
theorem dX1_valueOf_28 : decode cX1_valueOf 28 = .ok (.putfield 38, 3) := by decide +kernel
theorem dX1_valueOf_31 : decode cX1_valueOf 31 = .ok (.aload_n 0, 1) := by decide +kernel
theorem dX1_valueOf_32 : decode cX1_valueOf 32 = .ok (.getfield 18, 3) := by decide +kernel
theorem dX1_valueOf_35 : decode cX1_valueOf 35 = .ok (.iload_n 1, 1) := by decide +kernel
theorem dX1_valueOf_36 : decode cX1_valueOf 36 = .ok (.iaload, 1) := by decide +kernel
theorem dX1_valueOf_37 : decode cX1_valueOf 37 = .ok (.istore 4, 2) := by decide +kernel
theorem dX1_valueOf_39 : decode cX1_valueOf 39 = .ok (.iload 4, 2) := by decide +kernel
theorem dX1_valueOf_41 : decode cX1_valueOf 41 = .ok (.iload_n 3, 1) := by decide +kernel
theorem dX1_valueOf_42 : decode cX1_valueOf 42 = .ok (.if_icmp .ge 81, 3) := by decide +kernel
theorem dX1_valueOf_45 : decode cX1_valueOf 45 = .ok (.aload_n 0, 1) := by decide +kernel
theorem dX1_valueOf_46 : decode cX1_valueOf 46 = .ok (.getfield 21, 3) := by decide +kernel
theorem dX1_valueOf_49 : decode cX1_valueOf 49 = .ok (.iload 4, 2) := by decide +kernel
theorem dX1_valueOf_51 : decode cX1_valueOf 51 = .ok (.iaload, 1) := by decide +kernel
theorem dX1_valueOf_52 : decode cX1_valueOf 52 = .ok (.istore 5, 2) := by decide +kernel
theorem dX1_valueOf_54 : decode cX1_valueOf 54 = .ok (.iconst (-1), 1) := by decide +kernel
theorem dX1_valueOf_55 : decode cX1_valueOf 55 = .ok (.iload 5, 2) := by decide +kernel
theorem dX1_valueOf_57 : decode cX1_valueOf 57 = .ok (.isub, 1) := by decide +kernel
theorem dX1_valueOf_58 : decode cX1_valueOf 58 = .ok (.istore 6, 2) := by decide +kernel
theorem dX1_valueOf_60 : decode cX1_valueOf 60 = .ok (.iload 5, 2) := by decide +kernel
theorem dX1_valueOf_62 : decode cX1_valueOf 62 = .ok (.ifCond .lt 12, 3) := by decide +kernel
theorem dX1_valueOf_65 : decode cX1_valueOf 65 = .ok (.aload_n 0, 1) := by decide +kernel
theorem dX1_valueOf_66 : decode cX1_valueOf 66 = .ok (.iload 5, 2) := by decide +kernel
theorem dX1_valueOf_68 : decode cX1_valueOf 68 = .ok (.invokevirtual 41, 3) := by decide +kernel
theorem dX1_valueOf_71 : decode cX1_valueOf 71 = .ok (.goto 46, 3) := by decide +kernel
theorem dX1_valueOf_74 : decode cX1_valueOf 74 = .ok (.iload 6, 2) := by decide +kernel
theorem dX1_valueOf_76 : decode cX1_valueOf 76 = .ok (.bipush 6, 2) := by decide +kernel
theorem dX1_valueOf_78 : decode cX1_valueOf 78 = .ok (.if_icmp .ge 14, 3) := by decide +kernel
theorem dX1_valueOf_81 : decode cX1_valueOf 81 = .ok (.aload_n 0, 1) := by decide +kernel
theorem dX1_valueOf_82 : decode cX1_valueOf 82 = .ok (.aload_n 2, 1) := by decide +kernel
theorem dX1_valueOf_83 : decode cX1_valueOf 83 = .ok (.iload 6, 2) := by decide +kernel
theorem dX1_valueOf_85 : decode cX1_valueOf 85 = .ok (.iaload, 1) := by decide +kernel
theorem dX1_valueOf_86 : decode cX1_valueOf 86 = .ok (.invokevirtual 41, 3) := by decide +kernel
theorem dX1_valueOf_89 : decode cX1_valueOf 89 = .ok (.goto 28, 3) := by decide +kernel
theorem dX1_valueOf_92 : decode cX1_valueOf 92 = .ok (.aload_n 0, 1) := by decide +kernel
theorem dX1_valueOf_93 : decode cX1_valueOf 93 = .ok (.invokevirtual 45, 3) := by decide +kernel
theorem dX1_valueOf_96 : decode cX1_valueOf 96 = .ok (.istore 7, 2) := by decide +kernel
theorem dX1_valueOf_98 : decode cX1_valueOf 98 = .ok (.aload_n 0, 1) := by decide +kernel
theorem dX1_valueOf_99 : decode cX1_valueOf 99 = .ok (.invokevirtual 45, 3) := by decide +kernel
theorem dX1_valueOf_102 : decode cX1_valueOf 102 = .ok (.istore 8, 2) := by decide +kernel
theorem dX1_valueOf_104 : decode cX1_valueOf 104 = .ok (.aload_n 0, 1) := by decide +kernel
theorem dX1_valueOf_105 : decode cX1_valueOf 105 = .ok (.iload 5, 2) := by decide +kernel
theorem dX1_valueOf_107 : decode cX1_valueOf 107 = .ok (.iload 8, 2) := by decide +kernel
theorem dX1_valueOf_109 : decode cX1_valueOf 109 = .ok (.iload 7, 2) := by decide +kernel
theorem dX1_valueOf_111 : decode cX1_valueOf 111 = .ok (.invokestatic 49, 3) := by decide +kernel
theorem dX1_valueOf_114 : decode cX1_valueOf 114 = .ok (.invokevirtual 41, 3) := by decide +kernel
theorem dX1_valueOf_117 : decode cX1_valueOf 117 = .ok (.iinc 4 1, 3) := by decide +kernel
theorem dX1_valueOf_120 : decode cX1_valueOf 120 = .ok (.goto (-81), 3) := by decide +kernel
theorem dX1_valueOf_123 : decode cX1_valueOf 123 = .ok (.aload_n 0, 1) := by decide +kernel
theorem dX1_valueOf_124 : decode cX1_valueOf 124 = .ok (.invokevirtual 45, 3) := by decide +kernel
theorem dX1_valueOf_127 : decode cX1_valueOf 127 = .ok (.ireturn, 1) := by decide +kernel
theorem dX1_joined_0 : decode cX1_joined 0 = .ok (.iload_n 0, 1) := by decide +kernel
theorem dX1_joined_1 : decode cX1_joined 1 = .ok (.tableswitch 61 (-10) (-7) #[50, 39, 35, 31], 31) := by decide +kernel
theorem dX1_joined_32 : decode cX1_joined 32 = .ok (.iload_n 1, 1) := by decide +kernel
theorem dX1_joined_33 : decode cX1_joined 33 = .ok (.iload_n 2, 1) := by decide +kernel
theorem dX1_joined_34 : decode cX1_joined 34 = .ok (.iadd, 1) := by decide +kernel
theorem dX1_joined_35 : decode cX1_joined 35 = .ok (.ireturn, 1) := by decide +kernel
theorem dX1_joined_36 : decode cX1_joined 36 = .ok (.iload_n 1, 1) := by decide +kernel
theorem dX1_joined_37 : decode cX1_joined 37 = .ok (.iload_n 2, 1) := by decide +kernel
theorem dX1_joined_38 : decode cX1_joined 38 = .ok (.isub, 1) := by decide +kernel
theorem dX1_joined_39 : decode cX1_joined 39 = .ok (.ireturn, 1) := by decide +kernel
theorem dX1_joined_40 : decode cX1_joined 40 = .ok (.iload_n 1, 1) := by decide +kernel
theorem dX1_joined_41 : decode cX1_joined 41 = .ok (.iload_n 2, 1) := by decide +kernel
theorem dX1_joined_42 : decode cX1_joined 42 = .ok (.if_icmp .ge 7, 3) := by decide +kernel
theorem dX1_joined_45 : decode cX1_joined 45 = .ok (.iconst 1, 1) := by decide +kernel
theorem dX1_joined_46 : decode cX1_joined 46 = .ok (.goto 4, 3) := by decide +kernel
theorem dX1_joined_49 : decode cX1_joined 49 = .ok (.iconst 0, 1) := by decide +kernel
theorem dX1_joined_50 : decode cX1_joined 50 = .ok (.ireturn, 1) := by decide +kernel
theorem dX1_joined_51 : decode cX1_joined 51 = .ok (.iload_n 1, 1) := by decide +kernel
theorem dX1_joined_52 : decode cX1_joined 52 = .ok (.iload_n 2, 1) := by decide +kernel
theorem dX1_joined_53 : decode cX1_joined 53 = .ok (.if_icmp .ne 7, 3) := by decide +kernel
theorem dX1_joined_56 : decode cX1_joined 56 = .ok (.iconst 1, 1) := by decide +kernel
theorem dX1_joined_57 : decode cX1_joined 57 = .ok (.goto 4, 3) := by decide +kernel
theorem dX1_joined_60 : decode cX1_joined 60 = .ok (.iconst 0, 1) := by decide +kernel
theorem dX1_joined_61 : decode cX1_joined 61 = .ok (.ireturn, 1) := by decide +kernel
theorem dX1_joined_62 : decode cX1_joined 62 = .ok (.iload_n 1, 1) := by decide +kernel
theorem dX1_joined_63 : decode cX1_joined 63 = .ok (.ifCond .eq 11, 3) := by decide +kernel
theorem dX1_joined_66 : decode cX1_joined 66 = .ok (.iload_n 2, 1) := by decide +kernel
theorem dX1_joined_67 : decode cX1_joined 67 = .ok (.ifCond .eq 7, 3) := by decide +kernel
theorem dX1_joined_70 : decode cX1_joined 70 = .ok (.iconst 1, 1) := by decide +kernel
theorem dX1_joined_71 : decode cX1_joined 71 = .ok (.goto 4, 3) := by decide +kernel
theorem dX1_joined_74 : decode cX1_joined 74 = .ok (.iconst 0, 1) := by decide +kernel
theorem dX1_joined_75 : decode cX1_joined 75 = .ok (.ireturn, 1) := by decide +kernel
theorem dX1_push_0 : decode cX1_push 0 = .ok (.aload_n 0, 1) := by decide +kernel
theorem dX1_push_1 : decode cX1_push 1 = .ok (.getfield 38, 3) := by decide +kernel
theorem dX1_push_4 : decode cX1_push 4 = .ok (.bipush 32, 2) := by decide +kernel
theorem dX1_push_6 : decode cX1_push 6 = .ok (.if_icmp .ge 23, 3) := by decide +kernel
theorem dX1_push_9 : decode cX1_push 9 = .ok (.aload_n 0, 1) := by decide +kernel
theorem dX1_push_10 : decode cX1_push 10 = .ok (.getfield 24, 3) := by decide +kernel
theorem dX1_push_13 : decode cX1_push 13 = .ok (.aload_n 0, 1) := by decide +kernel
theorem dX1_push_14 : decode cX1_push 14 = .ok (.getfield 38, 3) := by decide +kernel
theorem dX1_push_17 : decode cX1_push 17 = .ok (.iload_n 1, 1) := by decide +kernel
theorem dX1_push_18 : decode cX1_push 18 = .ok (.iastore, 1) := by decide +kernel
theorem dX1_push_19 : decode cX1_push 19 = .ok (.aload_n 0, 1) := by decide +kernel
theorem dX1_push_20 : decode cX1_push 20 = .ok (.dup, 1) := by decide +kernel
theorem dX1_push_21 : decode cX1_push 21 = .ok (.getfield 38, 3) := by decide +kernel
theorem dX1_push_24 : decode cX1_push 24 = .ok (.iconst 1, 1) := by decide +kernel
theorem dX1_push_25 : decode cX1_push 25 = .ok (.iadd, 1) := by decide +kernel
theorem dX1_push_26 : decode cX1_push 26 = .ok (.putfield 38, 3) := by decide +kernel
theorem dX1_push_29 : decode cX1_push 29 = .ok (.return_, 1) := by decide +kernel
theorem dX1_pop_0 : decode cX1_pop 0 = .ok (.aload_n 0, 1) := by decide +kernel
theorem dX1_pop_1 : decode cX1_pop 1 = .ok (.getfield 38, 3) := by decide +kernel
theorem dX1_pop_4 : decode cX1_pop 4 = .ok (.ifCond .gt 5, 3) := by decide +kernel
theorem dX1_pop_7 : decode cX1_pop 7 = .ok (.iconst 0, 1) := by decide +kernel
theorem dX1_pop_8 : decode cX1_pop 8 = .ok (.ireturn, 1) := by decide +kernel
theorem dX1_pop_9 : decode cX1_pop 9 = .ok (.aload_n 0, 1) := by decide +kernel
theorem dX1_pop_10 : decode cX1_pop 10 = .ok (.dup, 1) := by decide +kernel
theorem dX1_pop_11 : decode cX1_pop 11 = .ok (.getfield 38, 3) := by decide +kernel
theorem dX1_pop_14 : decode cX1_pop 14 = .ok (.iconst 1, 1) := by decide +kernel
theorem dX1_pop_15 : decode cX1_pop 15 = .ok (.isub, 1) := by decide +kernel
theorem dX1_pop_16 : decode cX1_pop 16 = .ok (.putfield 38, 3) := by decide +kernel
theorem dX1_pop_19 : decode cX1_pop 19 = .ok (.aload_n 0, 1) := by decide +kernel
theorem dX1_pop_20 : decode cX1_pop 20 = .ok (.getfield 24, 3) := by decide +kernel
theorem dX1_pop_23 : decode cX1_pop 23 = .ok (.aload_n 0, 1) := by decide +kernel
theorem dX1_pop_24 : decode cX1_pop 24 = .ok (.getfield 38, 3) := by decide +kernel
theorem dX1_pop_27 : decode cX1_pop 27 = .ok (.iaload, 1) := by decide +kernel
theorem dX1_pop_28 : decode cX1_pop 28 = .ok (.ireturn, 1) := by decide +kernel
theorem dX2_init_0 : decode cX2_init 0 = .ok (.aload_n 0, 1) := by decide +kernel
theorem dX2_init_1 : decode cX2_init 1 = .ok (.invokespecial 3, 3) := by decide +kernel
theorem dX2_init_4 : decode cX2_init 4 = .ok (.aload_n 0, 1) := by decide +kernel
theorem dX2_init_5 : decode cX2_init 5 = .ok (.iconst 4, 1) := by decide +kernel
theorem dX2_init_6 : decode cX2_init 6 = .ok (.newarray .int, 2) := by decide +kernel
theorem dX2_init_8 : decode cX2_init 8 = .ok (.putfield 9, 3) := by decide +kernel
theorem dX2_init_11 : decode cX2_init 11 = .ok (.aload_n 0, 1) := by decide +kernel
theorem dX2_init_12 : decode cX2_init 12 = .ok (.iconst 4, 1) := by decide +kernel
theorem dX2_init_13 : decode cX2_init 13 = .ok (.newarray .int, 2) := by decide +kernel
theorem dX2_init_15 : decode cX2_init 15 = .ok (.putfield 15, 3) := by decide +kernel
theorem dX2_init_18 : decode cX2_init 18 = .ok (.aload_n 0, 1) := by decide +kernel
theorem dX2_init_19 : decode cX2_init 19 = .ok (.iconst 4, 1) := by decide +kernel
theorem dX2_init_20 : decode cX2_init 20 = .ok (.newarray .int, 2) := by decide +kernel
theorem dX2_init_22 : decode cX2_init 22 = .ok (.putfield 18, 3) := by decide +kernel
theorem dX2_init_25 : decode cX2_init 25 = .ok (.aload_n 0, 1) := by decide +kernel
theorem dX2_init_26 : decode cX2_init 26 = .ok (.iconst 4, 1) := by decide +kernel
theorem dX2_init_27 : decode cX2_init 27 = .ok (.newarray .int, 2) := by decide +kernel
theorem dX2_init_29 : decode cX2_init 29 = .ok (.putfield 21, 3) := by decide +kernel
theorem dX2_init_32 : decode cX2_init 32 = .ok (.aload_n 0, 1) := by decide +kernel
theorem dX2_init_33 : decode cX2_init 33 = .ok (.bipush 6, 2) := by decide +kernel
theorem dX2_init_35 : decode cX2_init 35 = .ok (.newarray .int, 2) := by decide +kernel
theorem dX2_init_37 : decode cX2_init 37 = .ok (.putfield 24, 3) := by decide +kernel
theorem dX2_init_40 : decode cX2_init 40 = .ok (.aload_n 0, 1) := by decide +kernel
theorem dX2_init_41 : decode cX2_init 41 = .ok (.bipush 6, 2) := by decide +kernel
theorem dX2_init_43 : decode cX2_init 43 = .ok (.newarray .int, 2) := by decide +kernel
theorem dX2_init_45 : decode cX2_init 45 = .ok (.putfield 27, 3) := by decide +kernel
theorem dX2_init_48 : decode cX2_init 48 = .ok (.aload_n 0, 1) := by decide +kernel
theorem dX2_init_49 : decode cX2_init 49 = .ok (.bipush 6, 2) := by decide +kernel
theorem dX2_init_51 : decode cX2_init 51 = .ok (.newarray .int, 2) := by decide +kernel
theorem dX2_init_53 : decode cX2_init 53 = .ok (.putfield 30, 3) := by decide +kernel
theorem dX2_init_56 : decode cX2_init 56 = .ok (.aload_n 0, 1) := by decide +kernel
theorem dX2_init_57 : decode cX2_init 57 = .ok (.bipush 6, 2) := by decide +kernel
theorem dX2_init_59 : decode cX2_init 59 = .ok (.iconst 4, 1) := by decide +kernel
theorem dX2_init_60 : decode cX2_init 60 = .ok (.multianewarray 33 2, 4) := by decide +kernel
theorem dX2_init_64 : decode cX2_init 64 = .ok (.putfield 35, 3) := by decide +kernel
theorem dX2_init_67 : decode cX2_init 67 = .ok (.aload_n 0, 1) := by decide +kernel
theorem dX2_init_68 : decode cX2_init 68 = .ok (.bipush 6, 2) := by decide +kernel
theorem dX2_init_70 : decode cX2_init 70 = .ok (.newarray .int, 2) := by decide +kernel
theorem dX2_init_72 : decode cX2_init 72 = .ok (.putfield 38, 3) := by decide +kernel
theorem dX2_init_75 : decode cX2_init 75 = .ok (.aload_n 0, 1) := by decide +kernel
theorem dX2_init_76 : decode cX2_init 76 = .ok (.bipush 6, 2) := by decide +kernel
theorem dX2_init_78 : decode cX2_init 78 = .ok (.newarray .int, 2) := by decide +kernel
theorem dX2_init_80 : decode cX2_init 80 = .ok (.putfield 41, 3) := by decide +kernel
theorem dX2_init_83 : decode cX2_init 83 = .ok (.aload_n 0, 1) := by decide +kernel
theorem dX2_init_84 : decode cX2_init 84 = .ok (.bipush 7, 2) := by decide +kernel
theorem dX2_init_86 : decode cX2_init 86 = .ok (.newarray .int, 2) := by decide +kernel
theorem dX2_init_88 : decode cX2_init 88 = .ok (.putfield 44, 3) := by decide +kernel
theorem dX2_init_91 : decode cX2_init 91 = .ok (.aload_n 0, 1) := by decide +kernel
theorem dX2_init_92 : decode cX2_init 92 = .ok (.bipush 7, 2) := by decide +kernel
theorem dX2_init_94 : decode cX2_init 94 = .ok (.newarray .int, 2) := by decide +kernel
theorem dX2_init_96 : decode cX2_init 96 = .ok (.putfield 47, 3) := by decide +kernel
theorem dX2_init_99 : decode cX2_init 99 = .ok (.return_, 1) := by decide +kernel
theorem dX2_clear_0 : decode cX2_clear 0 = .ok (.aload_n 0, 1) := by decide +kernel
theorem dX2_clear_1 : decode cX2_clear 1 = .ok (.iconst 0, 1) := by decide +kernel
theorem dX2_clear_2 : decode cX2_clear 2 = .ok (.putfield 50, 3) := by decide +kernel
theorem dX2_clear_5 : decode cX2_clear 5 = .ok (.aload_n 0, 1) := by decide +kernel
theorem dX2_clear_6 : decode cX2_clear 6 = .ok (.iconst 0, 1) := by decide +kernel
theorem dX2_clear_7 : decode cX2_clear 7 = .ok (.putfield 54, 3) := by decide +kernel
theorem dX2_clear_10 : decode cX2_clear 10 = .ok (.aload_n 0, 1) := by decide +kernel
theorem dX2_clear_11 : decode cX2_clear 11 = .ok (.iconst 0, 1) := by decide +kernel
theorem dX2_clear_12 : decode cX2_clear 12 = .ok (.putfield 57, 3) := by decide +kernel
theorem dX2_clear_15 : decode cX2_clear 15 = .ok (.return_, 1) := by decide +kernel
theorem dX2_addTanker_0 : decode cX2_addTanker 0 = .ok (.aload_n 0, 1) := by decide +kernel
theorem dX2_addTanker_1 : decode cX2_addTanker 1 = .ok (.getfield 50, 3) := by decide +kernel
theorem dX2_addTanker_4 : decode cX2_addTanker 4 = .ok (.iconst 4, 1) := by decide +kernel
theorem dX2_addTanker_5 : decode cX2_addTanker 5 = .ok (.if_icmp .ge 52, 3) := by decide +kernel
theorem dX2_addTanker_8 : decode cX2_addTanker 8 = .ok (.iload_n 1, 1) := by decide +kernel
theorem dX2_addTanker_9 : decode cX2_addTanker 9 = .ok (.iconst 0, 1) := by decide +kernel
theorem dX2_addTanker_10 : decode cX2_addTanker 10 = .ok (.iconst 3, 1) := by decide +kernel
theorem dX2_addTanker_11 : decode cX2_addTanker 11 = .ok (.invokestatic 60, 3) := by decide +kernel
theorem dX2_addTanker_14 : decode cX2_addTanker 14 = .ok (.ifCond .eq 43, 3) := by decide +kernel
theorem dX2_addTanker_17 : decode cX2_addTanker 17 = .ok (.aload_n 0, 1) := by decide +kernel
theorem dX2_addTanker_18 : decode cX2_addTanker 18 = .ok (.getfield 15, 3) := by decide +kernel
theorem dX2_addTanker_21 : decode cX2_addTanker 21 = .ok (.aload_n 0, 1) := by decide +kernel
theorem dX2_addTanker_22 : decode cX2_addTanker 22 = .ok (.getfield 50, 3) := by decide +kernel
theorem dX2_addTanker_25 : decode cX2_addTanker 25 = .ok (.iload_n 1, 1) := by decide +kernel
theorem dX2_addTanker_26 : decode cX2_addTanker 26 = .ok (.iastore, 1) := by decide +kernel
theorem dX2_addTanker_27 : decode cX2_addTanker 27 = .ok (.aload_n 0, 1) := by decide +kernel
theorem dX2_addTanker_28 : decode cX2_addTanker 28 = .ok (.getfield 18, 3) := by decide +kernel
theorem dX2_addTanker_31 : decode cX2_addTanker 31 = .ok (.aload_n 0, 1) := by decide +kernel
theorem dX2_addTanker_32 : decode cX2_addTanker 32 = .ok (.getfield 50, 3) := by decide +kernel
theorem dX2_addTanker_35 : decode cX2_addTanker 35 = .ok (.iload_n 2, 1) := by decide +kernel
theorem dX2_addTanker_36 : decode cX2_addTanker 36 = .ok (.iastore, 1) := by decide +kernel
theorem dX2_addTanker_37 : decode cX2_addTanker 37 = .ok (.aload_n 0, 1) := by decide +kernel
theorem dX2_addTanker_38 : decode cX2_addTanker 38 = .ok (.getfield 21, 3) := by decide +kernel
theorem dX2_addTanker_41 : decode cX2_addTanker 41 = .ok (.aload_n 0, 1) := by decide +kernel
theorem dX2_addTanker_42 : decode cX2_addTanker 42 = .ok (.getfield 50, 3) := by decide +kernel
theorem dX2_addTanker_45 : decode cX2_addTanker 45 = .ok (.iload_n 3, 1) := by decide +kernel
theorem dX2_addTanker_46 : decode cX2_addTanker 46 = .ok (.iastore, 1) := by decide +kernel
theorem dX2_addTanker_47 : decode cX2_addTanker 47 = .ok (.aload_n 0, 1) := by decide +kernel
theorem dX2_addTanker_48 : decode cX2_addTanker 48 = .ok (.dup, 1) := by decide +kernel
theorem dX2_addTanker_49 : decode cX2_addTanker 49 = .ok (.getfield 50, 3) := by decide +kernel
theorem dX2_addTanker_52 : decode cX2_addTanker 52 = .ok (.iconst 1, 1) := by decide +kernel
theorem dX2_addTanker_53 : decode cX2_addTanker 53 = .ok (.iadd, 1) := by decide +kernel
theorem dX2_addTanker_54 : decode cX2_addTanker 54 = .ok (.putfield 50, 3) := by decide +kernel
theorem dX2_addTanker_57 : decode cX2_addTanker 57 = .ok (.return_, 1) := by decide +kernel
theorem dX2_addPlace_0 : decode cX2_addPlace 0 = .ok (.aload_n 0, 1) := by decide +kernel
theorem dX2_addPlace_1 : decode cX2_addPlace 1 = .ok (.getfield 57, 3) := by decide +kernel
theorem dX2_addPlace_4 : decode cX2_addPlace 4 = .ok (.bipush 6, 2) := by decide +kernel
theorem dX2_addPlace_6 : decode cX2_addPlace 6 = .ok (.if_icmp .ge 43, 3) := by decide +kernel
theorem dX2_addPlace_9 : decode cX2_addPlace 9 = .ok (.aload_n 0, 1) := by decide +kernel
theorem dX2_addPlace_10 : decode cX2_addPlace 10 = .ok (.getfield 24, 3) := by decide +kernel
theorem dX2_addPlace_13 : decode cX2_addPlace 13 = .ok (.aload_n 0, 1) := by decide +kernel
theorem dX2_addPlace_14 : decode cX2_addPlace 14 = .ok (.getfield 57, 3) := by decide +kernel
theorem dX2_addPlace_17 : decode cX2_addPlace 17 = .ok (.iload_n 1, 1) := by decide +kernel
theorem dX2_addPlace_18 : decode cX2_addPlace 18 = .ok (.iastore, 1) := by decide +kernel
theorem dX2_addPlace_19 : decode cX2_addPlace 19 = .ok (.aload_n 0, 1) := by decide +kernel
theorem dX2_addPlace_20 : decode cX2_addPlace 20 = .ok (.getfield 27, 3) := by decide +kernel
theorem dX2_addPlace_23 : decode cX2_addPlace 23 = .ok (.aload_n 0, 1) := by decide +kernel
theorem dX2_addPlace_24 : decode cX2_addPlace 24 = .ok (.getfield 57, 3) := by decide +kernel
theorem dX2_addPlace_27 : decode cX2_addPlace 27 = .ok (.iload_n 2, 1) := by decide +kernel
theorem dX2_addPlace_28 : decode cX2_addPlace 28 = .ok (.iastore, 1) := by decide +kernel
theorem dX2_addPlace_29 : decode cX2_addPlace 29 = .ok (.aload_n 0, 1) := by decide +kernel
theorem dX2_addPlace_30 : decode cX2_addPlace 30 = .ok (.getfield 30, 3) := by decide +kernel
theorem dX2_addPlace_33 : decode cX2_addPlace 33 = .ok (.aload_n 0, 1) := by decide +kernel
theorem dX2_addPlace_34 : decode cX2_addPlace 34 = .ok (.getfield 57, 3) := by decide +kernel
theorem dX2_addPlace_37 : decode cX2_addPlace 37 = .ok (.iload_n 3, 1) := by decide +kernel
theorem dX2_addPlace_38 : decode cX2_addPlace 38 = .ok (.iastore, 1) := by decide +kernel
theorem dX2_addPlace_39 : decode cX2_addPlace 39 = .ok (.aload_n 0, 1) := by decide +kernel
theorem dX2_addPlace_40 : decode cX2_addPlace 40 = .ok (.dup, 1) := by decide +kernel
theorem dX2_addPlace_41 : decode cX2_addPlace 41 = .ok (.getfield 57, 3) := by decide +kernel
theorem dX2_addPlace_44 : decode cX2_addPlace 44 = .ok (.iconst 1, 1) := by decide +kernel
theorem dX2_addPlace_45 : decode cX2_addPlace 45 = .ok (.iadd, 1) := by decide +kernel
theorem dX2_addPlace_46 : decode cX2_addPlace 46 = .ok (.putfield 57, 3) := by decide +kernel
theorem dX2_addPlace_49 : decode cX2_addPlace 49 = .ok (.return_, 1) := by decide +kernel
theorem dX2_setTrip_0 : decode cX2_setTrip 0 = .ok (.aload_n 0, 1) := by decide +kernel
theorem dX2_setTrip_1 : decode cX2_setTrip 1 = .ok (.getfield 57, 3) := by decide +kernel
theorem dX2_setTrip_4 : decode cX2_setTrip 4 = .ok (.ifCond .le 26, 3) := by decide +kernel
theorem dX2_setTrip_7 : decode cX2_setTrip 7 = .ok (.iload_n 1, 1) := by decide +kernel
theorem dX2_setTrip_8 : decode cX2_setTrip 8 = .ok (.iconst 0, 1) := by decide +kernel
theorem dX2_setTrip_9 : decode cX2_setTrip 9 = .ok (.iconst 3, 1) := by decide +kernel
theorem dX2_setTrip_10 : decode cX2_setTrip 10 = .ok (.invokestatic 60, 3) := by decide +kernel
theorem dX2_setTrip_13 : decode cX2_setTrip 13 = .ok (.ifCond .eq 17, 3) := by decide +kernel
theorem dX2_setTrip_16 : decode cX2_setTrip 16 = .ok (.aload_n 0, 1) := by decide +kernel
theorem dX2_setTrip_17 : decode cX2_setTrip 17 = .ok (.getfield 35, 3) := by decide +kernel
theorem dX2_setTrip_20 : decode cX2_setTrip 20 = .ok (.aload_n 0, 1) := by decide +kernel
theorem dX2_setTrip_21 : decode cX2_setTrip 21 = .ok (.getfield 57, 3) := by decide +kernel
theorem dX2_setTrip_24 : decode cX2_setTrip 24 = .ok (.iconst 1, 1) := by decide +kernel
theorem dX2_setTrip_25 : decode cX2_setTrip 25 = .ok (.isub, 1) := by decide +kernel
theorem dX2_setTrip_26 : decode cX2_setTrip 26 = .ok (.aaload, 1) := by decide +kernel
theorem dX2_setTrip_27 : decode cX2_setTrip 27 = .ok (.iload_n 1, 1) := by decide +kernel
theorem dX2_setTrip_28 : decode cX2_setTrip 28 = .ok (.iload_n 2, 1) := by decide +kernel
theorem dX2_setTrip_29 : decode cX2_setTrip 29 = .ok (.iastore, 1) := by decide +kernel
theorem dX2_setTrip_30 : decode cX2_setTrip 30 = .ok (.return_, 1) := by decide +kernel
theorem dX2_findBest_0 : decode cX2_findBest 0 = .ok (.aload_n 0, 1) := by decide +kernel
theorem dX2_findBest_1 : decode cX2_findBest 1 = .ok (.getfield 44, 3) := by decide +kernel
theorem dX2_findBest_4 : decode cX2_findBest 4 = .ok (.aload_n 0, 1) := by decide +kernel
theorem dX2_findBest_5 : decode cX2_findBest 5 = .ok (.getfield 57, 3) := by decide +kernel
theorem dX2_findBest_8 : decode cX2_findBest 8 = .ok (.iconst 0, 1) := by decide +kernel
theorem dX2_findBest_9 : decode cX2_findBest 9 = .ok (.iastore, 1) := by decide +kernel
theorem dX2_findBest_10 : decode cX2_findBest 10 = .ok (.aload_n 0, 1) := by decide +kernel
theorem dX2_findBest_11 : decode cX2_findBest 11 = .ok (.getfield 47, 3) := by decide +kernel
theorem dX2_findBest_14 : decode cX2_findBest 14 = .ok (.aload_n 0, 1) := by decide +kernel
theorem dX2_findBest_15 : decode cX2_findBest 15 = .ok (.getfield 57, 3) := by decide +kernel
theorem dX2_findBest_18 : decode cX2_findBest 18 = .ok (.iconst 0, 1) := by decide +kernel
theorem dX2_findBest_19 : decode cX2_findBest 19 = .ok (.iastore, 1) := by decide +kernel
theorem dX2_findBest_20 : decode cX2_findBest 20 = .ok (.aload_n 0, 1) := by decide +kernel
theorem dX2_findBest_21 : decode cX2_findBest 21 = .ok (.getfield 57, 3) := by decide +kernel
theorem dX2_findBest_24 : decode cX2_findBest 24 = .ok (.iconst 1, 1) := by decide +kernel
theorem dX2_findBest_25 : decode cX2_findBest 25 = .ok (.isub, 1) := by decide +kernel
theorem dX2_findBest_26 : decode cX2_findBest 26 = .ok (.istore_n 1, 1) := by decide +kernel
theorem dX2_findBest_27 : decode cX2_findBest 27 = .ok (.iload_n 1, 1) := by decide +kernel
theorem dX2_findBest_28 : decode cX2_findBest 28 = .ok (.ifCond .lt 65, 3) := by decide +kernel
theorem dX2_findBest_31 : decode cX2_findBest 31 = .ok (.aload_n 0, 1) := by decide +kernel
theorem dX2_findBest_32 : decode cX2_findBest 32 = .ok (.iload_n 1, 1) := by decide +kernel
theorem dX2_findBest_33 : decode cX2_findBest 33 = .ok (.invokevirtual 64, 3) := by decide +kernel
theorem dX2_findBest_36 : decode cX2_findBest 36 = .ok (.istore_n 2, 1) := by decide +kernel
theorem dX2_findBest_37 : decode cX2_findBest 37 = .ok (.aload_n 0, 1) := by decide +kernel
theorem dX2_findBest_38 : decode cX2_findBest 38 = .ok (.getfield 44, 3) := by decide +kernel
theorem dX2_findBest_41 : decode cX2_findBest 41 = .ok (.iload_n 1, 1) := by decide +kernel
theorem dX2_findBest_42 : decode cX2_findBest 42 = .ok (.aload_n 0, 1) := by decide +kernel
theorem dX2_findBest_43 : decode cX2_findBest 43 = .ok (.getfield 44, 3) := by decide +kernel
theorem dX2_findBest_46 : decode cX2_findBest 46 = .ok (.iload_n 1, 1) := by decide +kernel
theorem dX2_findBest_47 : decode cX2_findBest 47 = .ok (.iconst 1, 1) := by decide +kernel
theorem dX2_findBest_48 : decode cX2_findBest 48 = .ok (.iadd, 1) := by decide +kernel
theorem dX2_findBest_49 : decode cX2_findBest 49 = .ok (.iaload, 1) := by decide +kernel
theorem dX2_findBest_50 : decode cX2_findBest 50 = .ok (.iload_n 2, 1) := by decide +kernel
theorem dX2_findBest_51 : decode cX2_findBest 51 = .ok (.iconst (-1), 1) := by decide +kernel
theorem dX2_findBest_52 : decode cX2_findBest 52 = .ok (.if_icmp .ne 7, 3) := by decide +kernel
theorem dX2_findBest_55 : decode cX2_findBest 55 = .ok (.iconst 1, 1) := by decide +kernel
theorem dX2_findBest_56 : decode cX2_findBest 56 = .ok (.goto 4, 3) := by decide +kernel
theorem dX2_findBest_59 : decode cX2_findBest 59 = .ok (.iconst 0, 1) := by decide +kernel
theorem dX2_findBest_60 : decode cX2_findBest 60 = .ok (.iadd, 1) := by decide +kernel
theorem dX2_findBest_61 : decode cX2_findBest 61 = .ok (.iastore, 1) := by decide +kernel
theorem dX2_findBest_62 : decode cX2_findBest 62 = .ok (.aload_n 0, 1) := by decide +kernel
theorem dX2_findBest_63 : decode cX2_findBest 63 = .ok (.getfield 47, 3) := by decide +kernel
theorem dX2_findBest_66 : decode cX2_findBest 66 = .ok (.iload_n 1, 1) := by decide +kernel
theorem dX2_findBest_67 : decode cX2_findBest 67 = .ok (.aload_n 0, 1) := by decide +kernel
theorem dX2_findBest_68 : decode cX2_findBest 68 = .ok (.getfield 47, 3) := by decide +kernel
theorem dX2_findBest_71 : decode cX2_findBest 71 = .ok (.iload_n 1, 1) := by decide +kernel
theorem dX2_findBest_72 : decode cX2_findBest 72 = .ok (.iconst 1, 1) := by decide +kernel
theorem dX2_findBest_73 : decode cX2_findBest 73 = .ok (.iadd, 1) := by decide +kernel
theorem dX2_findBest_74 : decode cX2_findBest 74 = .ok (.iaload, 1) := by decide +kernel
theorem dX2_findBest_75 : decode cX2_findBest 75 = .ok (.iload_n 2, 1) := by decide +kernel
theorem dX2_findBest_76 : decode cX2_findBest 76 = .ok (.iconst (-1), 1) := by decide +kernel
theorem dX2_findBest_77 : decode cX2_findBest 77 = .ok (.if_icmp .ne 7, 3) := by decide +kernel
theorem dX2_findBest_80 : decode cX2_findBest 80 = .ok (.iconst 0, 1) := by decide +kernel
theorem dX2_findBest_81 : decode cX2_findBest 81 = .ok (.goto 4, 3) := by decide +kernel
theorem dX2_findBest_84 : decode cX2_findBest 84 = .ok (.iload_n 2, 1) := by decide +kernel
theorem dX2_findBest_85 : decode cX2_findBest 85 = .ok (.iadd, 1) := by decide +kernel
theorem dX2_findBest_86 : decode cX2_findBest 86 = .ok (.iastore, 1) := by decide +kernel
theorem dX2_findBest_87 : decode cX2_findBest 87 = .ok (.iinc 1 (-1), 3) := by decide +kernel
theorem dX2_findBest_90 : decode cX2_findBest 90 = .ok (.goto (-63), 3) := by decide +kernel
theorem dX2_findBest_93 : decode cX2_findBest 93 = .ok (.aload_n 0, 1) := by decide +kernel
theorem dX2_findBest_94 : decode cX2_findBest 94 = .ok (.aload_n 0, 1) := by decide +kernel
theorem dX2_findBest_95 : decode cX2_findBest 95 = .ok (.getfield 57, 3) := by decide +kernel
theorem dX2_findBest_98 : decode cX2_findBest 98 = .ok (.iconst 1, 1) := by decide +kernel
theorem dX2_findBest_99 : decode cX2_findBest 99 = .ok (.iadd, 1) := by decide +kernel
theorem dX2_findBest_100 : decode cX2_findBest 100 = .ok (.putfield 68, 3) := by decide +kernel
theorem dX2_findBest_103 : decode cX2_findBest 103 = .ok (.aload_n 0, 1) := by decide +kernel
theorem dX2_findBest_104 : decode cX2_findBest 104 = .ok (.iconst 0, 1) := by decide +kernel
theorem dX2_findBest_105 : decode cX2_findBest 105 = .ok (.putfield 71, 3) := by decide +kernel
theorem dX2_findBest_108 : decode cX2_findBest 108 = .ok (.aload_n 0, 1) := by decide +kernel
theorem dX2_findBest_109 : decode cX2_findBest 109 = .ok (.iconst 0, 1) := by decide +kernel
theorem dX2_findBest_110 : decode cX2_findBest 110 = .ok (.iconst 0, 1) := by decide +kernel
theorem dX2_findBest_111 : decode cX2_findBest 111 = .ok (.iconst 0, 1) := by decide +kernel
theorem dX2_findBest_112 : decode cX2_findBest 112 = .ok (.invokevirtual 74, 3) := by decide +kernel
theorem dX2_findBest_115 : decode cX2_findBest 115 = .ok (.return_, 1) := by decide +kernel
theorem dX2_leastTrip_0 : decode cX2_leastTrip 0 = .ok (.iconst (-1), 1) := by decide +kernel
theorem dX2_leastTrip_1 : decode cX2_leastTrip 1 = .ok (.istore_n 2, 1) := by decide +kernel
theorem dX2_leastTrip_2 : decode cX2_leastTrip 2 = .ok (.iconst 0, 1) := by decide +kernel
theorem dX2_leastTrip_3 : decode cX2_leastTrip 3 = .ok (.istore_n 3, 1) := by decide +kernel
theorem dX2_leastTrip_4 : decode cX2_leastTrip 4 = .ok (.iload_n 3, 1) := by decide +kernel
theorem dX2_leastTrip_5 : decode cX2_leastTrip 5 = .ok (.aload_n 0, 1) := by decide +kernel
theorem dX2_leastTrip_6 : decode cX2_leastTrip 6 = .ok (.getfield 50, 3) := by decide +kernel
theorem dX2_leastTrip_9 : decode cX2_leastTrip 9 = .ok (.if_icmp .ge 42, 3) := by decide +kernel
theorem dX2_leastTrip_12 : decode cX2_leastTrip 12 = .ok (.aload_n 0, 1) := by decide +kernel
theorem dX2_leastTrip_13 : decode cX2_leastTrip 13 = .ok (.getfield 35, 3) := by decide +kernel
theorem dX2_leastTrip_16 : decode cX2_leastTrip 16 = .ok (.iload_n 1, 1) := by decide +kernel
theorem dX2_leastTrip_17 : decode cX2_leastTrip 17 = .ok (.aaload, 1) := by decide +kernel
theorem dX2_leastTrip_18 : decode cX2_leastTrip 18 = .ok (.iload_n 3, 1) := by decide +kernel
theorem dX2_leastTrip_19 : decode cX2_leastTrip 19 = .ok (.iaload, 1) := by decide +kernel
theorem dX2_leastTrip_20 : decode cX2_leastTrip 20 = .ok (.istore 4, 2) := by decide +kernel
theorem dX2_leastTrip_22 : decode cX2_leastTrip 22 = .ok (.aload_n 0, 1) := by decide +kernel
theorem dX2_leastTrip_23 : decode cX2_leastTrip 23 = .ok (.iload_n 3, 1) := by decide +kernel
theorem dX2_leastTrip_24 : decode cX2_leastTrip 24 = .ok (.iload_n 1, 1) := by decide +kernel
theorem dX2_leastTrip_25 : decode cX2_leastTrip 25 = .ok (.invokevirtual 78, 3) := by decide +kernel
theorem dX2_leastTrip_28 : decode cX2_leastTrip 28 = .ok (.ifCond .eq 17, 3) := by decide +kernel
theorem dX2_leastTrip_31 : decode cX2_leastTrip 31 = .ok (.iload_n 2, 1) := by decide +kernel
theorem dX2_leastTrip_32 : decode cX2_leastTrip 32 = .ok (.iconst (-1), 1) := by decide +kernel
theorem dX2_leastTrip_33 : decode cX2_leastTrip 33 = .ok (.if_icmp .eq 9, 3) := by decide +kernel
theorem dX2_leastTrip_36 : decode cX2_leastTrip 36 = .ok (.iload 4, 2) := by decide +kernel
theorem dX2_leastTrip_38 : decode cX2_leastTrip 38 = .ok (.iload_n 2, 1) := by decide +kernel
theorem dX2_leastTrip_39 : decode cX2_leastTrip 39 = .ok (.if_icmp .ge 6, 3) := by decide +kernel
theorem dX2_leastTrip_42 : decode cX2_leastTrip 42 = .ok (.iload 4, 2) := by decide +kernel
theorem dX2_leastTrip_44 : decode cX2_leastTrip 44 = .ok (.istore_n 2, 1) := by decide +kernel
theorem dX2_leastTrip_45 : decode cX2_leastTrip 45 = .ok (.iinc 3 1, 3) := by decide +kernel
theorem dX2_leastTrip_48 : decode cX2_leastTrip 48 = .ok (.goto (-44), 3) := by decide +kernel
theorem dX2_leastTrip_51 : decode cX2_leastTrip 51 = .ok (.iload_n 2, 1) := by decide +kernel
theorem dX2_leastTrip_52 : decode cX2_leastTrip 52 = .ok (.ireturn, 1) := by decide +kernel
theorem dX2_serves_0 : decode cX2_serves 0 = .ok (.aload_n 0, 1) := by decide +kernel
theorem dX2_serves_1 : decode cX2_serves 1 = .ok (.getfield 35, 3) := by decide +kernel
theorem dX2_serves_4 : decode cX2_serves 4 = .ok (.iload_n 2, 1) := by decide +kernel
theorem dX2_serves_5 : decode cX2_serves 5 = .ok (.aaload, 1) := by decide +kernel
theorem dX2_serves_6 : decode cX2_serves 6 = .ok (.iload_n 1, 1) := by decide +kernel
theorem dX2_serves_7 : decode cX2_serves 7 = .ok (.iaload, 1) := by decide +kernel
theorem dX2_serves_8 : decode cX2_serves 8 = .ok (.aload_n 0, 1) := by decide +kernel
theorem dX2_serves_9 : decode cX2_serves 9 = .ok (.getfield 21, 3) := by decide +kernel
theorem dX2_serves_12 : decode cX2_serves 12 = .ok (.iload_n 1, 1) := by decide +kernel
theorem dX2_serves_13 : decode cX2_serves 13 = .ok (.iaload, 1) := by decide +kernel
theorem dX2_serves_14 : decode cX2_serves 14 = .ok (.if_icmp .gt 22, 3) := by decide +kernel
theorem dX2_serves_17 : decode cX2_serves 17 = .ok (.aload_n 0, 1) := by decide +kernel
theorem dX2_serves_18 : decode cX2_serves 18 = .ok (.iload_n 1, 1) := by decide +kernel
theorem dX2_serves_19 : decode cX2_serves 19 = .ok (.iload_n 2, 1) := by decide +kernel
theorem dX2_serves_20 : decode cX2_serves 20 = .ok (.invokevirtual 82, 3) := by decide +kernel
theorem dX2_serves_23 : decode cX2_serves 23 = .ok (.aload_n 0, 1) := by decide +kernel
theorem dX2_serves_24 : decode cX2_serves 24 = .ok (.getfield 27, 3) := by decide +kernel
theorem dX2_serves_27 : decode cX2_serves 27 = .ok (.iload_n 2, 1) := by decide +kernel
theorem dX2_serves_28 : decode cX2_serves 28 = .ok (.iaload, 1) := by decide +kernel
theorem dX2_serves_29 : decode cX2_serves 29 = .ok (.if_icmp .lt 7, 3) := by decide +kernel
theorem dX2_serves_32 : decode cX2_serves 32 = .ok (.iconst 1, 1) := by decide +kernel
theorem dX2_serves_33 : decode cX2_serves 33 = .ok (.goto 4, 3) := by decide +kernel
theorem dX2_serves_36 : decode cX2_serves 36 = .ok (.iconst 0, 1) := by decide +kernel
theorem dX2_serves_37 : decode cX2_serves 37 = .ok (.ireturn, 1) := by decide +kernel
theorem dX2_load_0 : decode cX2_load 0 = .ok (.aload_n 0, 1) := by decide +kernel
theorem dX2_load_1 : decode cX2_load 1 = .ok (.getfield 18, 3) := by decide +kernel
theorem dX2_load_4 : decode cX2_load 4 = .ok (.iload_n 1, 1) := by decide +kernel
theorem dX2_load_5 : decode cX2_load 5 = .ok (.iaload, 1) := by decide +kernel
theorem dX2_load_6 : decode cX2_load 6 = .ok (.aload_n 0, 1) := by decide +kernel
theorem dX2_load_7 : decode cX2_load 7 = .ok (.getfield 9, 3) := by decide +kernel
theorem dX2_load_10 : decode cX2_load 10 = .ok (.aload_n 0, 1) := by decide +kernel
theorem dX2_load_11 : decode cX2_load 11 = .ok (.getfield 15, 3) := by decide +kernel
theorem dX2_load_14 : decode cX2_load 14 = .ok (.iload_n 1, 1) := by decide +kernel
theorem dX2_load_15 : decode cX2_load 15 = .ok (.iaload, 1) := by decide +kernel
theorem dX2_load_16 : decode cX2_load 16 = .ok (.iaload, 1) := by decide +kernel
theorem dX2_load_17 : decode cX2_load 17 = .ok (.invokestatic 86, 3) := by decide +kernel
theorem dX2_load_20 : decode cX2_load 20 = .ok (.aload_n 0, 1) := by decide +kernel
theorem dX2_load_21 : decode cX2_load 21 = .ok (.getfield 30, 3) := by decide +kernel
theorem dX2_load_24 : decode cX2_load 24 = .ok (.iload_n 2, 1) := by decide +kernel
theorem dX2_load_25 : decode cX2_load 25 = .ok (.iaload, 1) := by decide +kernel
theorem dX2_load_26 : decode cX2_load 26 = .ok (.invokestatic 86, 3) := by decide +kernel
theorem dX2_load_29 : decode cX2_load 29 = .ok (.ireturn, 1) := by decide +kernel
theorem dX2_search_0 : decode cX2_search 0 = .ok (.iload_n 2, 1) := by decide +kernel
theorem dX2_search_1 : decode cX2_search 1 = .ok (.aload_n 0, 1) := by decide +kernel
theorem dX2_search_2 : decode cX2_search 2 = .ok (.getfield 44, 3) := by decide +kernel
theorem dX2_search_5 : decode cX2_search 5 = .ok (.iload_n 1, 1) := by decide +kernel
theorem dX2_search_6 : decode cX2_search 6 = .ok (.iaload, 1) := by decide +kernel
theorem dX2_search_7 : decode cX2_search 7 = .ok (.iadd, 1) := by decide +kernel
theorem dX2_search_8 : decode cX2_search 8 = .ok (.istore 4, 2) := by decide +kernel
theorem dX2_search_10 : decode cX2_search 10 = .ok (.iload 4, 2) := by decide +kernel
theorem dX2_search_12 : decode cX2_search 12 = .ok (.aload_n 0, 1) := by decide +kernel
theorem dX2_search_13 : decode cX2_search 13 = .ok (.getfield 68, 3) := by decide +kernel
theorem dX2_search_16 : decode cX2_search 16 = .ok (.if_icmp .gt 27, 3) := by decide +kernel
theorem dX2_search_19 : decode cX2_search 19 = .ok (.iload 4, 2) := by decide +kernel
theorem dX2_search_21 : decode cX2_search 21 = .ok (.aload_n 0, 1) := by decide +kernel
theorem dX2_search_22 : decode cX2_search 22 = .ok (.getfield 68, 3) := by decide +kernel
theorem dX2_search_25 : decode cX2_search 25 = .ok (.if_icmp .ne 19, 3) := by decide +kernel
theorem dX2_search_28 : decode cX2_search 28 = .ok (.iload_n 3, 1) := by decide +kernel
theorem dX2_search_29 : decode cX2_search 29 = .ok (.aload_n 0, 1) := by decide +kernel
theorem dX2_search_30 : decode cX2_search 30 = .ok (.getfield 47, 3) := by decide +kernel
theorem dX2_search_33 : decode cX2_search 33 = .ok (.iload_n 1, 1) := by decide +kernel
theorem dX2_search_34 : decode cX2_search 34 = .ok (.iaload, 1) := by decide +kernel
theorem dX2_search_35 : decode cX2_search 35 = .ok (.iadd, 1) := by decide +kernel
theorem dX2_search_36 : decode cX2_search 36 = .ok (.aload_n 0, 1) := by decide +kernel
theorem dX2_search_37 : decode cX2_search 37 = .ok (.getfield 71, 3) := by decide +kernel
theorem dX2_search_40 : decode cX2_search 40 = .ok (.if_icmp .lt 4, 3) := by decide +kernel
theorem dX2_search_43 : decode cX2_search 43 = .ok (.return_, 1) := by decide +kernel
theorem dX2_search_44 : decode cX2_search 44 = .ok (.iload_n 1, 1) := by decide +kernel
theorem dX2_search_45 : decode cX2_search 45 = .ok (.aload_n 0, 1) := by decide +kernel
theorem dX2_search_46 : decode cX2_search 46 = .ok (.getfield 57, 3) := by decide +kernel
theorem dX2_search_49 : decode cX2_search 49 = .ok (.if_icmp .lt 10, 3) := by decide +kernel
theorem dX2_search_52 : decode cX2_search 52 = .ok (.aload_n 0, 1) := by decide +kernel
theorem dX2_search_53 : decode cX2_search 53 = .ok (.iload_n 2, 1) := by decide +kernel
theorem dX2_search_54 : decode cX2_search 54 = .ok (.iload_n 3, 1) := by decide +kernel
theorem dX2_search_55 : decode cX2_search 55 = .ok (.invokevirtual 91, 3) := by decide +kernel
theorem dX2_search_58 : decode cX2_search 58 = .ok (.return_, 1) := by decide +kernel
theorem dX2_search_59 : decode cX2_search 59 = .ok (.iconst 0, 1) := by decide +kernel
theorem dX2_search_60 : decode cX2_search 60 = .ok (.istore 5, 2) := by decide +kernel
theorem dX2_search_62 : decode cX2_search 62 = .ok (.iload 5, 2) := by decide +kernel
theorem dX2_search_64 : decode cX2_search 64 = .ok (.aload_n 0, 1) := by decide +kernel
theorem dX2_search_65 : decode cX2_search 65 = .ok (.getfield 50, 3) := by decide +kernel
theorem dX2_search_68 : decode cX2_search 68 = .ok (.if_icmp .ge 28, 3) := by decide +kernel
theorem dX2_search_71 : decode cX2_search 71 = .ok (.aload_n 0, 1) := by decide +kernel
theorem dX2_search_72 : decode cX2_search 72 = .ok (.iload 5, 2) := by decide +kernel
theorem dX2_search_74 : decode cX2_search 74 = .ok (.iload_n 1, 1) := by decide +kernel
theorem dX2_search_75 : decode cX2_search 75 = .ok (.invokevirtual 78, 3) := by decide +kernel
theorem dX2_search_78 : decode cX2_search 78 = .ok (.ifCond .eq 12, 3) := by decide +kernel
theorem dX2_search_81 : decode cX2_search 81 = .ok (.aload_n 0, 1) := by decide +kernel
theorem dX2_search_82 : decode cX2_search 82 = .ok (.iload 5, 2) := by decide +kernel
theorem dX2_search_84 : decode cX2_search 84 = .ok (.iload_n 1, 1) := by decide +kernel
theorem dX2_search_85 : decode cX2_search 85 = .ok (.iload_n 2, 1) := by decide +kernel
theorem dX2_search_86 : decode cX2_search 86 = .ok (.iload_n 3, 1) := by decide +kernel
theorem dX2_search_87 : decode cX2_search 87 = .ok (.invokevirtual 95, 3) := by decide +kernel
theorem dX2_search_90 : decode cX2_search 90 = .ok (.iinc 5 1, 3) := by decide +kernel
theorem dX2_search_93 : decode cX2_search 93 = .ok (.goto (-31), 3) := by decide +kernel
theorem dX2_search_96 : decode cX2_search 96 = .ok (.aload_n 0, 1) := by decide +kernel
theorem dX2_search_97 : decode cX2_search 97 = .ok (.getfield 38, 3) := by decide +kernel
theorem dX2_search_100 : decode cX2_search 100 = .ok (.iload_n 1, 1) := by decide +kernel
theorem dX2_search_101 : decode cX2_search 101 = .ok (.iconst (-1), 1) := by decide +kernel
theorem dX2_search_102 : decode cX2_search 102 = .ok (.iastore, 1) := by decide +kernel
theorem dX2_search_103 : decode cX2_search 103 = .ok (.aload_n 0, 1) := by decide +kernel
theorem dX2_search_104 : decode cX2_search 104 = .ok (.iload_n 1, 1) := by decide +kernel
theorem dX2_search_105 : decode cX2_search 105 = .ok (.iconst 1, 1) := by decide +kernel
theorem dX2_search_106 : decode cX2_search 106 = .ok (.iadd, 1) := by decide +kernel
theorem dX2_search_107 : decode cX2_search 107 = .ok (.iload_n 2, 1) := by decide +kernel
theorem dX2_search_108 : decode cX2_search 108 = .ok (.iconst 1, 1) := by decide +kernel
theorem dX2_search_109 : decode cX2_search 109 = .ok (.iadd, 1) := by decide +kernel
theorem dX2_search_110 : decode cX2_search 110 = .ok (.iload_n 3, 1) := by decide +kernel
theorem dX2_search_111 : decode cX2_search 111 = .ok (.invokevirtual 74, 3) := by decide +kernel
theorem dX2_search_114 : decode cX2_search 114 = .ok (.return_, 1) := by decide +kernel
theorem dX2_tryTrip_0 : decode cX2_tryTrip 0 = .ok (.aload_n 0, 1) := by decide +kernel
theorem dX2_tryTrip_1 : decode cX2_tryTrip 1 = .ok (.getfield 35, 3) := by decide +kernel
theorem dX2_tryTrip_4 : decode cX2_tryTrip 4 = .ok (.iload_n 2, 1) := by decide +kernel
theorem dX2_tryTrip_5 : decode cX2_tryTrip 5 = .ok (.aaload, 1) := by decide +kernel
theorem dX2_tryTrip_6 : decode cX2_tryTrip 6 = .ok (.iload_n 1, 1) := by decide +kernel
theorem dX2_tryTrip_7 : decode cX2_tryTrip 7 = .ok (.iaload, 1) := by decide +kernel
theorem dX2_tryTrip_8 : decode cX2_tryTrip 8 = .ok (.istore 5, 2) := by decide +kernel
theorem dX2_tryTrip_10 : decode cX2_tryTrip 10 = .ok (.aload_n 0, 1) := by decide +kernel
theorem dX2_tryTrip_11 : decode cX2_tryTrip 11 = .ok (.iload_n 1, 1) := by decide +kernel
theorem dX2_tryTrip_12 : decode cX2_tryTrip 12 = .ok (.iload_n 2, 1) := by decide +kernel
theorem dX2_tryTrip_13 : decode cX2_tryTrip 13 = .ok (.invokevirtual 82, 3) := by decide +kernel
theorem dX2_tryTrip_16 : decode cX2_tryTrip 16 = .ok (.istore 6, 2) := by decide +kernel
theorem dX2_tryTrip_18 : decode cX2_tryTrip 18 = .ok (.aload_n 0, 1) := by decide +kernel
theorem dX2_tryTrip_19 : decode cX2_tryTrip 19 = .ok (.getfield 38, 3) := by decide +kernel
theorem dX2_tryTrip_22 : decode cX2_tryTrip 22 = .ok (.iload_n 2, 1) := by decide +kernel
theorem dX2_tryTrip_23 : decode cX2_tryTrip 23 = .ok (.iload_n 1, 1) := by decide +kernel
theorem dX2_tryTrip_24 : decode cX2_tryTrip 24 = .ok (.iastore, 1) := by decide +kernel
theorem dX2_tryTrip_25 : decode cX2_tryTrip 25 = .ok (.aload_n 0, 1) := by decide +kernel
theorem dX2_tryTrip_26 : decode cX2_tryTrip 26 = .ok (.getfield 21, 3) := by decide +kernel
theorem dX2_tryTrip_29 : decode cX2_tryTrip 29 = .ok (.iload_n 1, 1) := by decide +kernel
theorem dX2_tryTrip_30 : decode cX2_tryTrip 30 = .ok (.dup2, 1) := by decide +kernel
theorem dX2_tryTrip_31 : decode cX2_tryTrip 31 = .ok (.iaload, 1) := by decide +kernel
theorem dX2_tryTrip_32 : decode cX2_tryTrip 32 = .ok (.iload 5, 2) := by decide +kernel
theorem dX2_tryTrip_34 : decode cX2_tryTrip 34 = .ok (.isub, 1) := by decide +kernel
theorem dX2_tryTrip_35 : decode cX2_tryTrip 35 = .ok (.iastore, 1) := by decide +kernel
theorem dX2_tryTrip_36 : decode cX2_tryTrip 36 = .ok (.aload_n 0, 1) := by decide +kernel
theorem dX2_tryTrip_37 : decode cX2_tryTrip 37 = .ok (.getfield 9, 3) := by decide +kernel
theorem dX2_tryTrip_40 : decode cX2_tryTrip 40 = .ok (.aload_n 0, 1) := by decide +kernel
theorem dX2_tryTrip_41 : decode cX2_tryTrip 41 = .ok (.getfield 15, 3) := by decide +kernel
theorem dX2_tryTrip_44 : decode cX2_tryTrip 44 = .ok (.iload_n 1, 1) := by decide +kernel
theorem dX2_tryTrip_45 : decode cX2_tryTrip 45 = .ok (.iaload, 1) := by decide +kernel
theorem dX2_tryTrip_46 : decode cX2_tryTrip 46 = .ok (.dup2, 1) := by decide +kernel
theorem dX2_tryTrip_47 : decode cX2_tryTrip 47 = .ok (.iaload, 1) := by decide +kernel
theorem dX2_tryTrip_48 : decode cX2_tryTrip 48 = .ok (.iload 6, 2) := by decide +kernel
theorem dX2_tryTrip_50 : decode cX2_tryTrip 50 = .ok (.isub, 1) := by decide +kernel
theorem dX2_tryTrip_51 : decode cX2_tryTrip 51 = .ok (.iastore, 1) := by decide +kernel
theorem dX2_tryTrip_52 : decode cX2_tryTrip 52 = .ok (.aload_n 0, 1) := by decide +kernel
theorem dX2_tryTrip_53 : decode cX2_tryTrip 53 = .ok (.iload_n 2, 1) := by decide +kernel
theorem dX2_tryTrip_54 : decode cX2_tryTrip 54 = .ok (.iconst 1, 1) := by decide +kernel
theorem dX2_tryTrip_55 : decode cX2_tryTrip 55 = .ok (.iadd, 1) := by decide +kernel
theorem dX2_tryTrip_56 : decode cX2_tryTrip 56 = .ok (.iload_n 3, 1) := by decide +kernel
theorem dX2_tryTrip_57 : decode cX2_tryTrip 57 = .ok (.iload 4, 2) := by decide +kernel
theorem dX2_tryTrip_59 : decode cX2_tryTrip 59 = .ok (.iload 5, 2) := by decide +kernel
theorem dX2_tryTrip_61 : decode cX2_tryTrip 61 = .ok (.iadd, 1) := by decide +kernel
theorem dX2_tryTrip_62 : decode cX2_tryTrip 62 = .ok (.invokevirtual 74, 3) := by decide +kernel
theorem dX2_tryTrip_65 : decode cX2_tryTrip 65 = .ok (.aload_n 0, 1) := by decide +kernel
theorem dX2_tryTrip_66 : decode cX2_tryTrip 66 = .ok (.getfield 21, 3) := by decide +kernel
theorem dX2_tryTrip_69 : decode cX2_tryTrip 69 = .ok (.iload_n 1, 1) := by decide +kernel
theorem dX2_tryTrip_70 : decode cX2_tryTrip 70 = .ok (.dup2, 1) := by decide +kernel
theorem dX2_tryTrip_71 : decode cX2_tryTrip 71 = .ok (.iaload, 1) := by decide +kernel
theorem dX2_tryTrip_72 : decode cX2_tryTrip 72 = .ok (.iload 5, 2) := by decide +kernel
theorem dX2_tryTrip_74 : decode cX2_tryTrip 74 = .ok (.iadd, 1) := by decide +kernel
theorem dX2_tryTrip_75 : decode cX2_tryTrip 75 = .ok (.iastore, 1) := by decide +kernel
theorem dX2_tryTrip_76 : decode cX2_tryTrip 76 = .ok (.aload_n 0, 1) := by decide +kernel
theorem dX2_tryTrip_77 : decode cX2_tryTrip 77 = .ok (.getfield 9, 3) := by decide +kernel
theorem dX2_tryTrip_80 : decode cX2_tryTrip 80 = .ok (.aload_n 0, 1) := by decide +kernel
theorem dX2_tryTrip_81 : decode cX2_tryTrip 81 = .ok (.getfield 15, 3) := by decide +kernel
theorem dX2_tryTrip_84 : decode cX2_tryTrip 84 = .ok (.iload_n 1, 1) := by decide +kernel
theorem dX2_tryTrip_85 : decode cX2_tryTrip 85 = .ok (.iaload, 1) := by decide +kernel
theorem dX2_tryTrip_86 : decode cX2_tryTrip 86 = .ok (.dup2, 1) := by decide +kernel
theorem dX2_tryTrip_87 : decode cX2_tryTrip 87 = .ok (.iaload, 1) := by decide +kernel
theorem dX2_tryTrip_88 : decode cX2_tryTrip 88 = .ok (.iload 6, 2) := by decide +kernel
theorem dX2_tryTrip_90 : decode cX2_tryTrip 90 = .ok (.iadd, 1) := by decide +kernel
theorem dX2_tryTrip_91 : decode cX2_tryTrip 91 = .ok (.iastore, 1) := by decide +kernel
theorem dX2_tryTrip_92 : decode cX2_tryTrip 92 = .ok (.return_, 1) := by decide +kernel
theorem dX2_keep_0 : decode cX2_keep 0 = .ok (.aload_n 0, 1) := by decide +kernel
theorem dX2_keep_1 : decode cX2_keep 1 = .ok (.iload_n 1, 1) := by decide +kernel
theorem dX2_keep_2 : decode cX2_keep 2 = .ok (.putfield 68, 3) := by decide +kernel
theorem dX2_keep_5 : decode cX2_keep 5 = .ok (.aload_n 0, 1) := by decide +kernel
theorem dX2_keep_6 : decode cX2_keep 6 = .ok (.iload_n 2, 1) := by decide +kernel
theorem dX2_keep_7 : decode cX2_keep 7 = .ok (.putfield 71, 3) := by decide +kernel
theorem dX2_keep_10 : decode cX2_keep 10 = .ok (.iconst 0, 1) := by decide +kernel
theorem dX2_keep_11 : decode cX2_keep 11 = .ok (.istore_n 3, 1) := by decide +kernel
theorem dX2_keep_12 : decode cX2_keep 12 = .ok (.iload_n 3, 1) := by decide +kernel
theorem dX2_keep_13 : decode cX2_keep 13 = .ok (.aload_n 0, 1) := by decide +kernel
theorem dX2_keep_14 : decode cX2_keep 14 = .ok (.getfield 57, 3) := by decide +kernel
theorem dX2_keep_17 : decode cX2_keep 17 = .ok (.if_icmp .ge 21, 3) := by decide +kernel
theorem dX2_keep_20 : decode cX2_keep 20 = .ok (.aload_n 0, 1) := by decide +kernel
theorem dX2_keep_21 : decode cX2_keep 21 = .ok (.getfield 41, 3) := by decide +kernel
theorem dX2_keep_24 : decode cX2_keep 24 = .ok (.iload_n 3, 1) := by decide +kernel
theorem dX2_keep_25 : decode cX2_keep 25 = .ok (.aload_n 0, 1) := by decide +kernel
theorem dX2_keep_26 : decode cX2_keep 26 = .ok (.getfield 38, 3) := by decide +kernel
theorem dX2_keep_29 : decode cX2_keep 29 = .ok (.iload_n 3, 1) := by decide +kernel
theorem dX2_keep_30 : decode cX2_keep 30 = .ok (.iaload, 1) := by decide +kernel
theorem dX2_keep_31 : decode cX2_keep 31 = .ok (.iastore, 1) := by decide +kernel
theorem dX2_keep_32 : decode cX2_keep 32 = .ok (.iinc 3 1, 3) := by decide +kernel
theorem dX2_keep_35 : decode cX2_keep 35 = .ok (.goto (-23), 3) := by decide +kernel
theorem dX2_keep_38 : decode cX2_keep 38 = .ok (.return_, 1) := by decide +kernel
theorem dX3_init_0 : decode cX3_init 0 = .ok (.aload_n 0, 1) := by decide +kernel
theorem dX3_init_1 : decode cX3_init 1 = .ok (.invokespecial 3, 3) := by decide +kernel
theorem dX3_init_4 : decode cX3_init 4 = .ok (.aload_n 0, 1) := by decide +kernel
theorem dX3_init_5 : decode cX3_init 5 = .ok (.new 9, 3) := by decide +kernel
theorem dX3_init_8 : decode cX3_init 8 = .ok (.dup, 1) := by decide +kernel
theorem dX3_init_9 : decode cX3_init 9 = .ok (.invokespecial 11, 3) := by decide +kernel
theorem dX3_init_12 : decode cX3_init 12 = .ok (.putfield 12, 3) := by decide +kernel
theorem dX3_init_15 : decode cX3_init 15 = .ok (.aload_n 0, 1) := by decide +kernel
theorem dX3_init_16 : decode cX3_init 16 = .ok (.new 18, 3) := by decide +kernel
theorem dX3_init_19 : decode cX3_init 19 = .ok (.dup, 1) := by decide +kernel
theorem dX3_init_20 : decode cX3_init 20 = .ok (.invokespecial 20, 3) := by decide +kernel
theorem dX3_init_23 : decode cX3_init 23 = .ok (.putfield 21, 3) := by decide +kernel
theorem dX3_init_26 : decode cX3_init 26 = .ok (.aload_n 0, 1) := by decide +kernel
theorem dX3_init_27 : decode cX3_init 27 = .ok (.new 18, 3) := by decide +kernel
theorem dX3_init_30 : decode cX3_init 30 = .ok (.dup, 1) := by decide +kernel
theorem dX3_init_31 : decode cX3_init 31 = .ok (.invokespecial 20, 3) := by decide +kernel
theorem dX3_init_34 : decode cX3_init 34 = .ok (.putfield 25, 3) := by decide +kernel
theorem dX3_init_37 : decode cX3_init 37 = .ok (.return_, 1) := by decide +kernel
theorem dX3_readText_0 : decode cX3_readText 0 = .ok (.aload_n 0, 1) := by decide +kernel
theorem dX3_readText_1 : decode cX3_readText 1 = .ok (.getfield 12, 3) := by decide +kernel
theorem dX3_readText_4 : decode cX3_readText 4 = .ok (.invokevirtual 28, 3) := by decide +kernel
theorem dX3_readText_7 : decode cX3_readText 7 = .ok (.aload_n 0, 1) := by decide +kernel
theorem dX3_readText_8 : decode cX3_readText 8 = .ok (.getfield 25, 3) := by decide +kernel
theorem dX3_readText_11 : decode cX3_readText 11 = .ok (.invokevirtual 31, 3) := by decide +kernel
theorem dX3_readText_14 : decode cX3_readText 14 = .ok (.aload_n 0, 1) := by decide +kernel
theorem dX3_readText_15 : decode cX3_readText 15 = .ok (.iconst 0, 1) := by decide +kernel
theorem dX3_readText_16 : decode cX3_readText 16 = .ok (.putfield 34, 3) := by decide +kernel
theorem dX3_readText_19 : decode cX3_readText 19 = .ok (.aload_n 0, 1) := by decide +kernel
theorem dX3_readText_20 : decode cX3_readText 20 = .ok (.iconst 0, 1) := by decide +kernel
theorem dX3_readText_21 : decode cX3_readText 21 = .ok (.putfield 38, 3) := by decide +kernel
theorem dX3_readText_24 : decode cX3_readText 24 = .ok (.iconst 1, 1) := by decide +kernel
theorem dX3_readText_25 : decode cX3_readText 25 = .ok (.istore_n 1, 1) := by decide +kernel
theorem dX3_readText_26 : decode cX3_readText 26 = .ok (.iconst 0, 1) := by decide +kernel
theorem dX3_readText_27 : decode cX3_readText 27 = .ok (.istore_n 2, 1) := by decide +kernel
theorem dX3_readText_28 : decode cX3_readText 28 = .ok (.iload_n 2, 1) := by decide +kernel
theorem dX3_readText_29 : decode cX3_readText 29 = .ok (.bipush 16, 2) := by decide +kernel
theorem dX3_readText_31 : decode cX3_readText 31 = .ok (.if_icmp .gt 27, 3) := by decide +kernel
theorem dX3_readText_34 : decode cX3_readText 34 = .ok (.iload_n 1, 1) := by decide +kernel
theorem dX3_readText_35 : decode cX3_readText 35 = .ok (.ifCond .eq 23, 3) := by decide +kernel
theorem dX3_readText_38 : decode cX3_readText 38 = .ok (.aload_n 0, 1) := by decide +kernel
theorem dX3_readText_39 : decode cX3_readText 39 = .ok (.invokevirtual 41, 3) := by decide +kernel
theorem dX3_readText_42 : decode cX3_readText 42 = .ok (.bipush (-18), 2) := by decide +kernel
theorem dX3_readText_44 : decode cX3_readText 44 = .ok (.if_icmp .eq 14, 3) := by decide +kernel
theorem dX3_readText_47 : decode cX3_readText 47 = .ok (.aload_n 0, 1) := by decide +kernel
theorem dX3_readText_48 : decode cX3_readText 48 = .ok (.invokevirtual 45, 3) := by decide +kernel
theorem dX3_readText_51 : decode cX3_readText 51 = .ok (.istore_n 1, 1) := by decide +kernel
theorem dX3_readText_52 : decode cX3_readText 52 = .ok (.iinc 2 1, 3) := by decide +kernel
theorem dX3_readText_55 : decode cX3_readText 55 = .ok (.goto (-27), 3) := by decide +kernel
theorem dX3_readText_58 : decode cX3_readText 58 = .ok (.iload_n 1, 1) := by decide +kernel
theorem dX3_readText_59 : decode cX3_readText 59 = .ok (.ifCond .eq 21, 3) := by decide +kernel
theorem dX3_readText_62 : decode cX3_readText 62 = .ok (.aload_n 0, 1) := by decide +kernel
theorem dX3_readText_63 : decode cX3_readText 63 = .ok (.getfield 21, 3) := by decide +kernel
theorem dX3_readText_66 : decode cX3_readText 66 = .ok (.astore_n 2, 1) := by decide +kernel
theorem dX3_readText_67 : decode cX3_readText 67 = .ok (.aload_n 0, 1) := by decide +kernel
theorem dX3_readText_68 : decode cX3_readText 68 = .ok (.aload_n 0, 1) := by decide +kernel
theorem dX3_readText_69 : decode cX3_readText 69 = .ok (.getfield 25, 3) := by decide +kernel
theorem dX3_readText_72 : decode cX3_readText 72 = .ok (.putfield 21, 3) := by decide +kernel
theorem dX3_readText_75 : decode cX3_readText 75 = .ok (.aload_n 0, 1) := by decide +kernel
theorem dX3_readText_76 : decode cX3_readText 76 = .ok (.aload_n 2, 1) := by decide +kernel
theorem dX3_readText_77 : decode cX3_readText 77 = .ok (.putfield 25, 3) := by decide +kernel
theorem dX3_readText_80 : decode cX3_readText 80 = .ok (.aload_n 0, 1) := by decide +kernel
theorem dX3_readText_81 : decode cX3_readText 81 = .ok (.getfield 38, 3) := by decide +kernel
theorem dX3_readText_84 : decode cX3_readText 84 = .ok (.ireturn, 1) := by decide +kernel
theorem dX3_token_0 : decode cX3_token 0 = .ok (.aload_n 0, 1) := by decide +kernel
theorem dX3_token_1 : decode cX3_token 1 = .ok (.getfield 34, 3) := by decide +kernel
theorem dX3_token_4 : decode cX3_token 4 = .ok (.aload_n 0, 1) := by decide +kernel
theorem dX3_token_5 : decode cX3_token 5 = .ok (.getfield 12, 3) := by decide +kernel
theorem dX3_token_8 : decode cX3_token 8 = .ok (.getfield 49, 3) := by decide +kernel
theorem dX3_token_11 : decode cX3_token 11 = .ok (.if_icmp .ge 18, 3) := by decide +kernel
theorem dX3_token_14 : decode cX3_token 14 = .ok (.aload_n 0, 1) := by decide +kernel
theorem dX3_token_15 : decode cX3_token 15 = .ok (.getfield 12, 3) := by decide +kernel
theorem dX3_token_18 : decode cX3_token 18 = .ok (.getfield 52, 3) := by decide +kernel
theorem dX3_token_21 : decode cX3_token 21 = .ok (.aload_n 0, 1) := by decide +kernel
theorem dX3_token_22 : decode cX3_token 22 = .ok (.getfield 34, 3) := by decide +kernel
theorem dX3_token_25 : decode cX3_token 25 = .ok (.iaload, 1) := by decide +kernel
theorem dX3_token_26 : decode cX3_token 26 = .ok (.goto 5, 3) := by decide +kernel
theorem dX3_token_29 : decode cX3_token 29 = .ok (.bipush (-18), 2) := by decide +kernel
theorem dX3_token_31 : decode cX3_token 31 = .ok (.ireturn, 1) := by decide +kernel
theorem dX3_readLine_0 : decode cX3_readLine 0 = .ok (.aload_n 0, 1) := by decide +kernel
theorem dX3_readLine_1 : decode cX3_readLine 1 = .ok (.invokevirtual 41, 3) := by decide +kernel
theorem dX3_readLine_4 : decode cX3_readLine 4 = .ok (.istore_n 1, 1) := by decide +kernel
theorem dX3_readLine_5 : decode cX3_readLine 5 = .ok (.iload_n 1, 1) := by decide +kernel
theorem dX3_readLine_6 : decode cX3_readLine 6 = .ok (.bipush (-12), 2) := by decide +kernel
theorem dX3_readLine_8 : decode cX3_readLine 8 = .ok (.if_icmp .eq 15, 3) := by decide +kernel
theorem dX3_readLine_11 : decode cX3_readLine 11 = .ok (.iload_n 1, 1) := by decide +kernel
theorem dX3_readLine_12 : decode cX3_readLine 12 = .ok (.bipush (-13), 2) := by decide +kernel
theorem dX3_readLine_14 : decode cX3_readLine 14 = .ok (.if_icmp .eq 9, 3) := by decide +kernel
theorem dX3_readLine_17 : decode cX3_readLine 17 = .ok (.aload_n 0, 1) := by decide +kernel
theorem dX3_readLine_18 : decode cX3_readLine 18 = .ok (.iconst 1, 1) := by decide +kernel
theorem dX3_readLine_19 : decode cX3_readLine 19 = .ok (.invokevirtual 56, 3) := by decide +kernel
theorem dX3_readLine_22 : decode cX3_readLine 22 = .ok (.ireturn, 1) := by decide +kernel
theorem dX3_readLine_23 : decode cX3_readLine 23 = .ok (.aload_n 0, 1) := by decide +kernel
theorem dX3_readLine_24 : decode cX3_readLine 24 = .ok (.getfield 25, 3) := by decide +kernel
theorem dX3_readLine_27 : decode cX3_readLine 27 = .ok (.getfield 60, 3) := by decide +kernel
theorem dX3_readLine_30 : decode cX3_readLine 30 = .ok (.bipush 16, 2) := by decide +kernel
theorem dX3_readLine_32 : decode cX3_readLine 32 = .ok (.if_icmp .lt 9, 3) := by decide +kernel
theorem dX3_readLine_35 : decode cX3_readLine 35 = .ok (.aload_n 0, 1) := by decide +kernel
theorem dX3_readLine_36 : decode cX3_readLine 36 = .ok (.iconst 5, 1) := by decide +kernel
theorem dX3_readLine_37 : decode cX3_readLine 37 = .ok (.invokevirtual 56, 3) := by decide +kernel
theorem dX3_readLine_40 : decode cX3_readLine 40 = .ok (.ireturn, 1) := by decide +kernel
theorem dX3_readLine_41 : decode cX3_readLine 41 = .ok (.aload_n 0, 1) := by decide +kernel
theorem dX3_readLine_42 : decode cX3_readLine 42 = .ok (.dup, 1) := by decide +kernel
theorem dX3_readLine_43 : decode cX3_readLine 43 = .ok (.getfield 34, 3) := by decide +kernel
theorem dX3_readLine_46 : decode cX3_readLine 46 = .ok (.iconst 1, 1) := by decide +kernel
theorem dX3_readLine_47 : decode cX3_readLine 47 = .ok (.iadd, 1) := by decide +kernel
theorem dX3_readLine_48 : decode cX3_readLine 48 = .ok (.putfield 34, 3) := by decide +kernel
theorem dX3_readLine_51 : decode cX3_readLine 51 = .ok (.aload_n 0, 1) := by decide +kernel
theorem dX3_readLine_52 : decode cX3_readLine 52 = .ok (.invokevirtual 41, 3) := by decide +kernel
theorem dX3_readLine_55 : decode cX3_readLine 55 = .ok (.istore_n 2, 1) := by decide +kernel
theorem dX3_readLine_56 : decode cX3_readLine 56 = .ok (.iload_n 2, 1) := by decide +kernel
theorem dX3_readLine_57 : decode cX3_readLine 57 = .ok (.ifCond .ge 9, 3) := by decide +kernel
theorem dX3_readLine_60 : decode cX3_readLine 60 = .ok (.aload_n 0, 1) := by decide +kernel
theorem dX3_readLine_61 : decode cX3_readLine 61 = .ok (.iconst 1, 1) := by decide +kernel
theorem dX3_readLine_62 : decode cX3_readLine 62 = .ok (.invokevirtual 56, 3) := by decide +kernel
theorem dX3_readLine_65 : decode cX3_readLine 65 = .ok (.ireturn, 1) := by decide +kernel
theorem dX3_readLine_66 : decode cX3_readLine 66 = .ok (.iload_n 2, 1) := by decide +kernel
theorem dX3_readLine_67 : decode cX3_readLine 67 = .ok (.bipush 99, 2) := by decide +kernel
theorem dX3_readLine_69 : decode cX3_readLine 69 = .ok (.if_icmp .le 9, 3) := by decide +kernel
theorem dX3_readLine_72 : decode cX3_readLine 72 = .ok (.aload_n 0, 1) := by decide +kernel
theorem dX3_readLine_73 : decode cX3_readLine 73 = .ok (.iconst 4, 1) := by decide +kernel
theorem dX3_readLine_74 : decode cX3_readLine 74 = .ok (.invokevirtual 56, 3) := by decide +kernel
theorem dX3_readLine_77 : decode cX3_readLine 77 = .ok (.ireturn, 1) := by decide +kernel
theorem dX3_readLine_78 : decode cX3_readLine 78 = .ok (.aload_n 0, 1) := by decide +kernel
theorem dX3_readLine_79 : decode cX3_readLine 79 = .ok (.dup, 1) := by decide +kernel
theorem dX3_readLine_80 : decode cX3_readLine 80 = .ok (.getfield 34, 3) := by decide +kernel
theorem dX3_readLine_83 : decode cX3_readLine 83 = .ok (.iconst 1, 1) := by decide +kernel
theorem dX3_readLine_84 : decode cX3_readLine 84 = .ok (.iadd, 1) := by decide +kernel
theorem dX3_readLine_85 : decode cX3_readLine 85 = .ok (.putfield 34, 3) := by decide +kernel
theorem dX3_readLine_88 : decode cX3_readLine 88 = .ok (.aload_n 0, 1) := by decide +kernel
theorem dX3_readLine_89 : decode cX3_readLine 89 = .ok (.getfield 25, 3) := by decide +kernel
theorem dX3_readLine_92 : decode cX3_readLine 92 = .ok (.iload_n 1, 1) := by decide +kernel
theorem dX3_readLine_93 : decode cX3_readLine 93 = .ok (.iload_n 2, 1) := by decide +kernel
theorem dX3_readLine_94 : decode cX3_readLine 94 = .ok (.invokevirtual 63, 3) := by decide +kernel
theorem dX3_readLine_97 : decode cX3_readLine 97 = .ok (.aload_n 0, 1) := by decide +kernel
theorem dX3_readLine_98 : decode cX3_readLine 98 = .ok (.bipush (-14), 2) := by decide +kernel
theorem dX3_readLine_100 : decode cX3_readLine 100 = .ok (.invokevirtual 67, 3) := by decide +kernel
theorem dX3_readLine_103 : decode cX3_readLine 103 = .ok (.ifCond .eq 24, 3) := by decide +kernel
theorem dX3_readLine_106 : decode cX3_readLine 106 = .ok (.aload_n 0, 1) := by decide +kernel
theorem dX3_readLine_107 : decode cX3_readLine 107 = .ok (.iconst 1, 1) := by decide +kernel
theorem dX3_readLine_108 : decode cX3_readLine 108 = .ok (.invokevirtual 70, 3) := by decide +kernel
theorem dX3_readLine_111 : decode cX3_readLine 111 = .ok (.ifCond .eq 16, 3) := by decide +kernel
theorem dX3_readLine_114 : decode cX3_readLine 114 = .ok (.aload_n 0, 1) := by decide +kernel
theorem dX3_readLine_115 : decode cX3_readLine 115 = .ok (.bipush (-17), 2) := by decide +kernel
theorem dX3_readLine_117 : decode cX3_readLine 117 = .ok (.invokevirtual 67, 3) := by decide +kernel
theorem dX3_readLine_120 : decode cX3_readLine 120 = .ok (.ifCond .eq 7, 3) := by decide +kernel
theorem dX3_readLine_123 : decode cX3_readLine 123 = .ok (.iconst 1, 1) := by decide +kernel
theorem dX3_readLine_124 : decode cX3_readLine 124 = .ok (.goto 4, 3) := by decide +kernel
theorem dX3_readLine_127 : decode cX3_readLine 127 = .ok (.iconst 0, 1) := by decide +kernel
theorem dX3_readLine_128 : decode cX3_readLine 128 = .ok (.ireturn, 1) := by decide +kernel
theorem dX3_readTests_0 : decode cX3_readTests 0 = .ok (.aload_n 0, 1) := by decide +kernel
theorem dX3_readTests_1 : decode cX3_readTests 1 = .ok (.iload_n 1, 1) := by decide +kernel
theorem dX3_readTests_2 : decode cX3_readTests 2 = .ok (.invokevirtual 73, 3) := by decide +kernel
theorem dX3_readTests_5 : decode cX3_readTests 5 = .ok (.istore_n 2, 1) := by decide +kernel
theorem dX3_readTests_6 : decode cX3_readTests 6 = .ok (.iconst 0, 1) := by decide +kernel
theorem dX3_readTests_7 : decode cX3_readTests 7 = .ok (.istore_n 3, 1) := by decide +kernel
theorem dX3_readTests_8 : decode cX3_readTests 8 = .ok (.iload_n 3, 1) := by decide +kernel
theorem dX3_readTests_9 : decode cX3_readTests 9 = .ok (.sipush 600, 3) := by decide +kernel
