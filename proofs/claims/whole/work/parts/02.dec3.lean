theorem dX8_wantOf_58 : decode cX8_wantOf 58 = .ok (.getfield 228, 3) := by decide +kernel
theorem dX8_wantOf_61 : decode cX8_wantOf 61 = .ok (.iastore, 1) := by decide +kernel
theorem dX8_wantOf_62 : decode cX8_wantOf 62 = .ok (.aload_n 0, 1) := by decide +kernel
theorem dX8_wantOf_63 : decode cX8_wantOf 63 = .ok (.getfield 40, 3) := by decide +kernel
theorem dX8_wantOf_66 : decode cX8_wantOf 66 = .ok (.getfield 234, 3) := by decide +kernel
theorem dX8_wantOf_69 : decode cX8_wantOf 69 = .ok (.astore_n 2, 1) := by decide +kernel
theorem dX8_wantOf_70 : decode cX8_wantOf 70 = .ok (.aload_n 1, 1) := by decide +kernel
theorem dX8_wantOf_71 : decode cX8_wantOf 71 = .ok (.getfield 64, 3) := by decide +kernel
theorem dX8_wantOf_74 : decode cX8_wantOf 74 = .ok (.aload_n 2, 1) := by decide +kernel
theorem dX8_wantOf_75 : decode cX8_wantOf 75 = .ok (.bipush (-12), 2) := by decide +kernel
theorem dX8_wantOf_77 : decode cX8_wantOf 77 = .ok (.aload_n 0, 1) := by decide +kernel
theorem dX8_wantOf_78 : decode cX8_wantOf 78 = .ok (.getfield 33, 3) := by decide +kernel
theorem dX8_wantOf_81 : decode cX8_wantOf 81 = .ok (.bipush 10, 2) := by decide +kernel
theorem dX8_wantOf_83 : decode cX8_wantOf 83 = .ok (.invokevirtual 249, 3) := by decide +kernel
theorem dX8_wantOf_86 : decode cX8_wantOf 86 = .ok (.imul, 1) := by decide +kernel
theorem dX8_wantOf_87 : decode cX8_wantOf 87 = .ok (.aload_n 1, 1) := by decide +kernel
theorem dX8_wantOf_88 : decode cX8_wantOf 88 = .ok (.getfield 67, 3) := by decide +kernel
theorem dX8_wantOf_91 : decode cX8_wantOf 91 = .ok (.aload_n 2, 1) := by decide +kernel
theorem dX8_wantOf_92 : decode cX8_wantOf 92 = .ok (.bipush (-13), 2) := by decide +kernel
theorem dX8_wantOf_94 : decode cX8_wantOf 94 = .ok (.aload_n 0, 1) := by decide +kernel
theorem dX8_wantOf_95 : decode cX8_wantOf 95 = .ok (.getfield 33, 3) := by decide +kernel
theorem dX8_wantOf_98 : decode cX8_wantOf 98 = .ok (.bipush 20, 2) := by decide +kernel
theorem dX8_wantOf_100 : decode cX8_wantOf 100 = .ok (.invokevirtual 249, 3) := by decide +kernel
theorem dX8_wantOf_103 : decode cX8_wantOf 103 = .ok (.imul, 1) := by decide +kernel
theorem dX8_wantOf_104 : decode cX8_wantOf 104 = .ok (.iadd, 1) := by decide +kernel
theorem dX8_wantOf_105 : decode cX8_wantOf 105 = .ok (.ireturn, 1) := by decide +kernel
theorem dX8_makePlan_0 : decode cX8_makePlan 0 = .ok (.aload_n 0, 1) := by decide +kernel
theorem dX8_makePlan_1 : decode cX8_makePlan 1 = .ok (.getfield 47, 3) := by decide +kernel
theorem dX8_makePlan_4 : decode cX8_makePlan 4 = .ok (.invokevirtual 253, 3) := by decide +kernel
theorem dX8_makePlan_7 : decode cX8_makePlan 7 = .ok (.iconst 0, 1) := by decide +kernel
theorem dX8_makePlan_8 : decode cX8_makePlan 8 = .ok (.istore_n 1, 1) := by decide +kernel
theorem dX8_makePlan_9 : decode cX8_makePlan 9 = .ok (.iload_n 1, 1) := by decide +kernel
theorem dX8_makePlan_10 : decode cX8_makePlan 10 = .ok (.aload_n 0, 1) := by decide +kernel
theorem dX8_makePlan_11 : decode cX8_makePlan 11 = .ok (.getfield 77, 3) := by decide +kernel
theorem dX8_makePlan_14 : decode cX8_makePlan 14 = .ok (.if_icmp .ge 27, 3) := by decide +kernel
theorem dX8_makePlan_17 : decode cX8_makePlan 17 = .ok (.aload_n 0, 1) := by decide +kernel
theorem dX8_makePlan_18 : decode cX8_makePlan 18 = .ok (.getfield 47, 3) := by decide +kernel
theorem dX8_makePlan_21 : decode cX8_makePlan 21 = .ok (.getfield 256, 3) := by decide +kernel
theorem dX8_makePlan_24 : decode cX8_makePlan 24 = .ok (.iload_n 1, 1) := by decide +kernel
theorem dX8_makePlan_25 : decode cX8_makePlan 25 = .ok (.aload_n 0, 1) := by decide +kernel
theorem dX8_makePlan_26 : decode cX8_makePlan 26 = .ok (.getfield 17, 3) := by decide +kernel
theorem dX8_makePlan_29 : decode cX8_makePlan 29 = .ok (.iload_n 1, 1) := by decide +kernel
theorem dX8_makePlan_30 : decode cX8_makePlan 30 = .ok (.aaload, 1) := by decide +kernel
theorem dX8_makePlan_31 : decode cX8_makePlan 31 = .ok (.getfield 86, 3) := by decide +kernel
theorem dX8_makePlan_34 : decode cX8_makePlan 34 = .ok (.iastore, 1) := by decide +kernel
theorem dX8_makePlan_35 : decode cX8_makePlan 35 = .ok (.iinc 1 1, 3) := by decide +kernel
theorem dX8_makePlan_38 : decode cX8_makePlan 38 = .ok (.goto (-29), 3) := by decide +kernel
theorem dX8_makePlan_41 : decode cX8_makePlan 41 = .ok (.iconst 0, 1) := by decide +kernel
theorem dX8_makePlan_42 : decode cX8_makePlan 42 = .ok (.istore_n 1, 1) := by decide +kernel
theorem dX8_makePlan_43 : decode cX8_makePlan 43 = .ok (.iload_n 1, 1) := by decide +kernel
theorem dX8_makePlan_44 : decode cX8_makePlan 44 = .ok (.aload_n 0, 1) := by decide +kernel
theorem dX8_makePlan_45 : decode cX8_makePlan 45 = .ok (.getfield 94, 3) := by decide +kernel
theorem dX8_makePlan_48 : decode cX8_makePlan 48 = .ok (.if_icmp .ge 43, 3) := by decide +kernel
theorem dX8_makePlan_51 : decode cX8_makePlan 51 = .ok (.aload_n 0, 1) := by decide +kernel
theorem dX8_makePlan_52 : decode cX8_makePlan 52 = .ok (.getfield 47, 3) := by decide +kernel
theorem dX8_makePlan_55 : decode cX8_makePlan 55 = .ok (.aload_n 0, 1) := by decide +kernel
theorem dX8_makePlan_56 : decode cX8_makePlan 56 = .ok (.getfield 23, 3) := by decide +kernel
theorem dX8_makePlan_59 : decode cX8_makePlan 59 = .ok (.iload_n 1, 1) := by decide +kernel
theorem dX8_makePlan_60 : decode cX8_makePlan 60 = .ok (.aaload, 1) := by decide +kernel
theorem dX8_makePlan_61 : decode cX8_makePlan 61 = .ok (.getfield 97, 3) := by decide +kernel
theorem dX8_makePlan_64 : decode cX8_makePlan 64 = .ok (.aload_n 0, 1) := by decide +kernel
theorem dX8_makePlan_65 : decode cX8_makePlan 65 = .ok (.getfield 23, 3) := by decide +kernel
theorem dX8_makePlan_68 : decode cX8_makePlan 68 = .ok (.iload_n 1, 1) := by decide +kernel
theorem dX8_makePlan_69 : decode cX8_makePlan 69 = .ok (.aaload, 1) := by decide +kernel
theorem dX8_makePlan_70 : decode cX8_makePlan 70 = .ok (.getfield 100, 3) := by decide +kernel
theorem dX8_makePlan_73 : decode cX8_makePlan 73 = .ok (.aload_n 0, 1) := by decide +kernel
theorem dX8_makePlan_74 : decode cX8_makePlan 74 = .ok (.getfield 23, 3) := by decide +kernel
theorem dX8_makePlan_77 : decode cX8_makePlan 77 = .ok (.iload_n 1, 1) := by decide +kernel
theorem dX8_makePlan_78 : decode cX8_makePlan 78 = .ok (.aaload, 1) := by decide +kernel
theorem dX8_makePlan_79 : decode cX8_makePlan 79 = .ok (.getfield 103, 3) := by decide +kernel
theorem dX8_makePlan_82 : decode cX8_makePlan 82 = .ok (.invokevirtual 259, 3) := by decide +kernel
theorem dX8_makePlan_85 : decode cX8_makePlan 85 = .ok (.iinc 1 1, 3) := by decide +kernel
theorem dX8_makePlan_88 : decode cX8_makePlan 88 = .ok (.goto (-45), 3) := by decide +kernel
theorem dX8_makePlan_91 : decode cX8_makePlan 91 = .ok (.iconst 0, 1) := by decide +kernel
theorem dX8_makePlan_92 : decode cX8_makePlan 92 = .ok (.istore_n 1, 1) := by decide +kernel
theorem dX8_makePlan_93 : decode cX8_makePlan 93 = .ok (.iload_n 1, 1) := by decide +kernel
theorem dX8_makePlan_94 : decode cX8_makePlan 94 = .ok (.aload_n 0, 1) := by decide +kernel
theorem dX8_makePlan_95 : decode cX8_makePlan 95 = .ok (.getfield 60, 3) := by decide +kernel
theorem dX8_makePlan_98 : decode cX8_makePlan 98 = .ok (.if_icmp .ge 40, 3) := by decide +kernel
theorem dX8_makePlan_101 : decode cX8_makePlan 101 = .ok (.aload_n 0, 1) := by decide +kernel
theorem dX8_makePlan_102 : decode cX8_makePlan 102 = .ok (.aload_n 0, 1) := by decide +kernel
theorem dX8_makePlan_103 : decode cX8_makePlan 103 = .ok (.getfield 11, 3) := by decide +kernel
theorem dX8_makePlan_106 : decode cX8_makePlan 106 = .ok (.iload_n 1, 1) := by decide +kernel
theorem dX8_makePlan_107 : decode cX8_makePlan 107 = .ok (.aaload, 1) := by decide +kernel
theorem dX8_makePlan_108 : decode cX8_makePlan 108 = .ok (.invokevirtual 129, 3) := by decide +kernel
theorem dX8_makePlan_111 : decode cX8_makePlan 111 = .ok (.aload_n 0, 1) := by decide +kernel
theorem dX8_makePlan_112 : decode cX8_makePlan 112 = .ok (.getfield 11, 3) := by decide +kernel
theorem dX8_makePlan_115 : decode cX8_makePlan 115 = .ok (.iload_n 1, 1) := by decide +kernel
theorem dX8_makePlan_116 : decode cX8_makePlan 116 = .ok (.aaload, 1) := by decide +kernel
theorem dX8_makePlan_117 : decode cX8_makePlan 117 = .ok (.getfield 73, 3) := by decide +kernel
theorem dX8_makePlan_120 : decode cX8_makePlan 120 = .ok (.isub, 1) := by decide +kernel
theorem dX8_makePlan_121 : decode cX8_makePlan 121 = .ok (.istore_n 2, 1) := by decide +kernel
theorem dX8_makePlan_122 : decode cX8_makePlan 122 = .ok (.iload_n 2, 1) := by decide +kernel
theorem dX8_makePlan_123 : decode cX8_makePlan 123 = .ok (.ifCond .le 9, 3) := by decide +kernel
theorem dX8_makePlan_126 : decode cX8_makePlan 126 = .ok (.aload_n 0, 1) := by decide +kernel
theorem dX8_makePlan_127 : decode cX8_makePlan 127 = .ok (.iload_n 1, 1) := by decide +kernel
theorem dX8_makePlan_128 : decode cX8_makePlan 128 = .ok (.iload_n 2, 1) := by decide +kernel
theorem dX8_makePlan_129 : decode cX8_makePlan 129 = .ok (.invokevirtual 263, 3) := by decide +kernel
theorem dX8_makePlan_132 : decode cX8_makePlan 132 = .ok (.iinc 1 1, 3) := by decide +kernel
theorem dX8_makePlan_135 : decode cX8_makePlan 135 = .ok (.goto (-42), 3) := by decide +kernel
theorem dX8_makePlan_138 : decode cX8_makePlan 138 = .ok (.aload_n 0, 1) := by decide +kernel
theorem dX8_makePlan_139 : decode cX8_makePlan 139 = .ok (.getfield 47, 3) := by decide +kernel
theorem dX8_makePlan_142 : decode cX8_makePlan 142 = .ok (.invokevirtual 267, 3) := by decide +kernel
theorem dX8_makePlan_145 : decode cX8_makePlan 145 = .ok (.return_, 1) := by decide +kernel
theorem dX8_addNeedy_0 : decode cX8_addNeedy 0 = .ok (.aload_n 0, 1) := by decide +kernel
theorem dX8_addNeedy_1 : decode cX8_addNeedy 1 = .ok (.getfield 47, 3) := by decide +kernel
theorem dX8_addNeedy_4 : decode cX8_addNeedy 4 = .ok (.dup, 1) := by decide +kernel
theorem dX8_addNeedy_5 : decode cX8_addNeedy 5 = .ok (.getfield 136, 3) := by decide +kernel
theorem dX8_addNeedy_8 : decode cX8_addNeedy 8 = .ok (.iconst 1, 1) := by decide +kernel
theorem dX8_addNeedy_9 : decode cX8_addNeedy 9 = .ok (.iadd, 1) := by decide +kernel
theorem dX8_addNeedy_10 : decode cX8_addNeedy 10 = .ok (.putfield 136, 3) := by decide +kernel
theorem dX8_addNeedy_13 : decode cX8_addNeedy 13 = .ok (.aload_n 0, 1) := by decide +kernel
theorem dX8_addNeedy_14 : decode cX8_addNeedy 14 = .ok (.getfield 47, 3) := by decide +kernel
theorem dX8_addNeedy_17 : decode cX8_addNeedy 17 = .ok (.getfield 136, 3) := by decide +kernel
theorem dX8_addNeedy_20 : decode cX8_addNeedy 20 = .ok (.bipush 6, 2) := by decide +kernel
theorem dX8_addNeedy_22 : decode cX8_addNeedy 22 = .ok (.if_icmp .le 4, 3) := by decide +kernel
theorem dX8_addNeedy_25 : decode cX8_addNeedy 25 = .ok (.return_, 1) := by decide +kernel
theorem dX8_addNeedy_26 : decode cX8_addNeedy 26 = .ok (.aload_n 0, 1) := by decide +kernel
theorem dX8_addNeedy_27 : decode cX8_addNeedy 27 = .ok (.getfield 47, 3) := by decide +kernel
theorem dX8_addNeedy_30 : decode cX8_addNeedy 30 = .ok (.iload_n 1, 1) := by decide +kernel
theorem dX8_addNeedy_31 : decode cX8_addNeedy 31 = .ok (.iload_n 2, 1) := by decide +kernel
theorem dX8_addNeedy_32 : decode cX8_addNeedy 32 = .ok (.aload_n 0, 1) := by decide +kernel
theorem dX8_addNeedy_33 : decode cX8_addNeedy 33 = .ok (.getfield 11, 3) := by decide +kernel
theorem dX8_addNeedy_36 : decode cX8_addNeedy 36 = .ok (.iload_n 1, 1) := by decide +kernel
theorem dX8_addNeedy_37 : decode cX8_addNeedy 37 = .ok (.aaload, 1) := by decide +kernel
theorem dX8_addNeedy_38 : decode cX8_addNeedy 38 = .ok (.invokevirtual 270, 3) := by decide +kernel
theorem dX8_addNeedy_41 : decode cX8_addNeedy 41 = .ok (.invokevirtual 273, 3) := by decide +kernel
theorem dX8_addNeedy_44 : decode cX8_addNeedy 44 = .ok (.iconst 0, 1) := by decide +kernel
theorem dX8_addNeedy_45 : decode cX8_addNeedy 45 = .ok (.istore_n 3, 1) := by decide +kernel
theorem dX8_addNeedy_46 : decode cX8_addNeedy 46 = .ok (.iload_n 3, 1) := by decide +kernel
theorem dX8_addNeedy_47 : decode cX8_addNeedy 47 = .ok (.aload_n 0, 1) := by decide +kernel
theorem dX8_addNeedy_48 : decode cX8_addNeedy 48 = .ok (.getfield 94, 3) := by decide +kernel
theorem dX8_addNeedy_51 : decode cX8_addNeedy 51 = .ok (.if_icmp .ge 54, 3) := by decide +kernel
theorem dX8_addNeedy_54 : decode cX8_addNeedy 54 = .ok (.aload_n 0, 1) := by decide +kernel
theorem dX8_addNeedy_55 : decode cX8_addNeedy 55 = .ok (.aload_n 0, 1) := by decide +kernel
theorem dX8_addNeedy_56 : decode cX8_addNeedy 56 = .ok (.getfield 23, 3) := by decide +kernel
theorem dX8_addNeedy_59 : decode cX8_addNeedy 59 = .ok (.iload_n 3, 1) := by decide +kernel
theorem dX8_addNeedy_60 : decode cX8_addNeedy 60 = .ok (.aaload, 1) := by decide +kernel
theorem dX8_addNeedy_61 : decode cX8_addNeedy 61 = .ok (.getfield 97, 3) := by decide +kernel
theorem dX8_addNeedy_64 : decode cX8_addNeedy 64 = .ok (.invokevirtual 90, 3) := by decide +kernel
theorem dX8_addNeedy_67 : decode cX8_addNeedy 67 = .ok (.ifCond .eq 32, 3) := by decide +kernel
theorem dX8_addNeedy_70 : decode cX8_addNeedy 70 = .ok (.aload_n 0, 1) := by decide +kernel
theorem dX8_addNeedy_71 : decode cX8_addNeedy 71 = .ok (.getfield 47, 3) := by decide +kernel
theorem dX8_addNeedy_74 : decode cX8_addNeedy 74 = .ok (.iload_n 3, 1) := by decide +kernel
theorem dX8_addNeedy_75 : decode cX8_addNeedy 75 = .ok (.iconst 2, 1) := by decide +kernel
theorem dX8_addNeedy_76 : decode cX8_addNeedy 76 = .ok (.aload_n 0, 1) := by decide +kernel
theorem dX8_addNeedy_77 : decode cX8_addNeedy 77 = .ok (.getfield 17, 3) := by decide +kernel
theorem dX8_addNeedy_80 : decode cX8_addNeedy 80 = .ok (.aload_n 0, 1) := by decide +kernel
theorem dX8_addNeedy_81 : decode cX8_addNeedy 81 = .ok (.getfield 23, 3) := by decide +kernel
theorem dX8_addNeedy_84 : decode cX8_addNeedy 84 = .ok (.iload_n 3, 1) := by decide +kernel
theorem dX8_addNeedy_85 : decode cX8_addNeedy 85 = .ok (.aaload, 1) := by decide +kernel
theorem dX8_addNeedy_86 : decode cX8_addNeedy 86 = .ok (.getfield 97, 3) := by decide +kernel
theorem dX8_addNeedy_89 : decode cX8_addNeedy 89 = .ok (.aaload, 1) := by decide +kernel
theorem dX8_addNeedy_90 : decode cX8_addNeedy 90 = .ok (.getfield 109, 3) := by decide +kernel
theorem dX8_addNeedy_93 : decode cX8_addNeedy 93 = .ok (.iload_n 1, 1) := by decide +kernel
theorem dX8_addNeedy_94 : decode cX8_addNeedy 94 = .ok (.iaload, 1) := by decide +kernel
theorem dX8_addNeedy_95 : decode cX8_addNeedy 95 = .ok (.imul, 1) := by decide +kernel
theorem dX8_addNeedy_96 : decode cX8_addNeedy 96 = .ok (.invokevirtual 276, 3) := by decide +kernel
theorem dX8_addNeedy_99 : decode cX8_addNeedy 99 = .ok (.iinc 3 1, 3) := by decide +kernel
theorem dX8_addNeedy_102 : decode cX8_addNeedy 102 = .ok (.goto (-56), 3) := by decide +kernel
theorem dX8_addNeedy_105 : decode cX8_addNeedy 105 = .ok (.return_, 1) := by decide +kernel
theorem dX8_passDay_0 : decode cX8_passDay 0 = .ok (.iconst 0, 1) := by decide +kernel
theorem dX8_passDay_1 : decode cX8_passDay 1 = .ok (.istore_n 1, 1) := by decide +kernel
theorem dX8_passDay_2 : decode cX8_passDay 2 = .ok (.iload_n 1, 1) := by decide +kernel
theorem dX8_passDay_3 : decode cX8_passDay 3 = .ok (.aload_n 0, 1) := by decide +kernel
theorem dX8_passDay_4 : decode cX8_passDay 4 = .ok (.getfield 77, 3) := by decide +kernel
theorem dX8_passDay_7 : decode cX8_passDay 7 = .ok (.if_icmp .ge 18, 3) := by decide +kernel
theorem dX8_passDay_10 : decode cX8_passDay 10 = .ok (.aload_n 0, 1) := by decide +kernel
theorem dX8_passDay_11 : decode cX8_passDay 11 = .ok (.getfield 17, 3) := by decide +kernel
theorem dX8_passDay_14 : decode cX8_passDay 14 = .ok (.iload_n 1, 1) := by decide +kernel
theorem dX8_passDay_15 : decode cX8_passDay 15 = .ok (.aaload, 1) := by decide +kernel
theorem dX8_passDay_16 : decode cX8_passDay 16 = .ok (.invokevirtual 279, 3) := by decide +kernel
theorem dX8_passDay_19 : decode cX8_passDay 19 = .ok (.iinc 1 1, 3) := by decide +kernel
theorem dX8_passDay_22 : decode cX8_passDay 22 = .ok (.goto (-20), 3) := by decide +kernel
theorem dX8_passDay_25 : decode cX8_passDay 25 = .ok (.iconst 0, 1) := by decide +kernel
theorem dX8_passDay_26 : decode cX8_passDay 26 = .ok (.istore_n 1, 1) := by decide +kernel
theorem dX8_passDay_27 : decode cX8_passDay 27 = .ok (.iload_n 1, 1) := by decide +kernel
theorem dX8_passDay_28 : decode cX8_passDay 28 = .ok (.aload_n 0, 1) := by decide +kernel
theorem dX8_passDay_29 : decode cX8_passDay 29 = .ok (.getfield 60, 3) := by decide +kernel
theorem dX8_passDay_32 : decode cX8_passDay 32 = .ok (.if_icmp .ge 27, 3) := by decide +kernel
theorem dX8_passDay_35 : decode cX8_passDay 35 = .ok (.aload_n 0, 1) := by decide +kernel
theorem dX8_passDay_36 : decode cX8_passDay 36 = .ok (.getfield 11, 3) := by decide +kernel
theorem dX8_passDay_39 : decode cX8_passDay 39 = .ok (.iload_n 1, 1) := by decide +kernel
theorem dX8_passDay_40 : decode cX8_passDay 40 = .ok (.aaload, 1) := by decide +kernel
theorem dX8_passDay_41 : decode cX8_passDay 41 = .ok (.aload_n 0, 1) := by decide +kernel
theorem dX8_passDay_42 : decode cX8_passDay 42 = .ok (.getfield 11, 3) := by decide +kernel
theorem dX8_passDay_45 : decode cX8_passDay 45 = .ok (.iload_n 1, 1) := by decide +kernel
theorem dX8_passDay_46 : decode cX8_passDay 46 = .ok (.aaload, 1) := by decide +kernel
theorem dX8_passDay_47 : decode cX8_passDay 47 = .ok (.getfield 160, 3) := by decide +kernel
theorem dX8_passDay_50 : decode cX8_passDay 50 = .ok (.invokevirtual 282, 3) := by decide +kernel
theorem dX8_passDay_53 : decode cX8_passDay 53 = .ok (.iinc 1 1, 3) := by decide +kernel
theorem dX8_passDay_56 : decode cX8_passDay 56 = .ok (.goto (-29), 3) := by decide +kernel
theorem dX8_passDay_59 : decode cX8_passDay 59 = .ok (.iconst 0, 1) := by decide +kernel
theorem dX8_passDay_60 : decode cX8_passDay 60 = .ok (.istore_n 1, 1) := by decide +kernel
theorem dX8_passDay_61 : decode cX8_passDay 61 = .ok (.iload_n 1, 1) := by decide +kernel
theorem dX8_passDay_62 : decode cX8_passDay 62 = .ok (.aload_n 0, 1) := by decide +kernel
theorem dX8_passDay_63 : decode cX8_passDay 63 = .ok (.getfield 94, 3) := by decide +kernel
theorem dX8_passDay_66 : decode cX8_passDay 66 = .ok (.if_icmp .ge 19, 3) := by decide +kernel
theorem dX8_passDay_69 : decode cX8_passDay 69 = .ok (.aload_n 0, 1) := by decide +kernel
theorem dX8_passDay_70 : decode cX8_passDay 70 = .ok (.getfield 23, 3) := by decide +kernel
theorem dX8_passDay_73 : decode cX8_passDay 73 = .ok (.iload_n 1, 1) := by decide +kernel
theorem dX8_passDay_74 : decode cX8_passDay 74 = .ok (.aaload, 1) := by decide +kernel
theorem dX8_passDay_75 : decode cX8_passDay 75 = .ok (.iconst 0, 1) := by decide +kernel
theorem dX8_passDay_76 : decode cX8_passDay 76 = .ok (.putfield 219, 3) := by decide +kernel
theorem dX8_passDay_79 : decode cX8_passDay 79 = .ok (.iinc 1 1, 3) := by decide +kernel
theorem dX8_passDay_82 : decode cX8_passDay 82 = .ok (.goto (-21), 3) := by decide +kernel
theorem dX8_passDay_85 : decode cX8_passDay 85 = .ok (.aload_n 0, 1) := by decide +kernel
theorem dX8_passDay_86 : decode cX8_passDay 86 = .ok (.invokevirtual 133, 3) := by decide +kernel
theorem dX8_passDay_89 : decode cX8_passDay 89 = .ok (.iconst 0, 1) := by decide +kernel
theorem dX8_passDay_90 : decode cX8_passDay 90 = .ok (.istore_n 1, 1) := by decide +kernel
theorem dX8_passDay_91 : decode cX8_passDay 91 = .ok (.iload_n 1, 1) := by decide +kernel
theorem dX8_passDay_92 : decode cX8_passDay 92 = .ok (.aload_n 0, 1) := by decide +kernel
theorem dX8_passDay_93 : decode cX8_passDay 93 = .ok (.getfield 47, 3) := by decide +kernel
theorem dX8_passDay_96 : decode cX8_passDay 96 = .ok (.getfield 145, 3) := by decide +kernel
theorem dX8_passDay_99 : decode cX8_passDay 99 = .ok (.if_icmp .ge 31, 3) := by decide +kernel
theorem dX8_passDay_102 : decode cX8_passDay 102 = .ok (.aload_n 0, 1) := by decide +kernel
theorem dX8_passDay_103 : decode cX8_passDay 103 = .ok (.aload_n 0, 1) := by decide +kernel
theorem dX8_passDay_104 : decode cX8_passDay 104 = .ok (.getfield 47, 3) := by decide +kernel
theorem dX8_passDay_107 : decode cX8_passDay 107 = .ok (.getfield 151, 3) := by decide +kernel
theorem dX8_passDay_110 : decode cX8_passDay 110 = .ok (.iload_n 1, 1) := by decide +kernel
theorem dX8_passDay_111 : decode cX8_passDay 111 = .ok (.iaload, 1) := by decide +kernel
theorem dX8_passDay_112 : decode cX8_passDay 112 = .ok (.aload_n 0, 1) := by decide +kernel
theorem dX8_passDay_113 : decode cX8_passDay 113 = .ok (.getfield 47, 3) := by decide +kernel
theorem dX8_passDay_116 : decode cX8_passDay 116 = .ok (.getfield 148, 3) := by decide +kernel
theorem dX8_passDay_119 : decode cX8_passDay 119 = .ok (.iload_n 1, 1) := by decide +kernel
theorem dX8_passDay_120 : decode cX8_passDay 120 = .ok (.iaload, 1) := by decide +kernel
theorem dX8_passDay_121 : decode cX8_passDay 121 = .ok (.invokevirtual 286, 3) := by decide +kernel
theorem dX8_passDay_124 : decode cX8_passDay 124 = .ok (.iinc 1 1, 3) := by decide +kernel
theorem dX8_passDay_127 : decode cX8_passDay 127 = .ok (.goto (-36), 3) := by decide +kernel
theorem dX8_passDay_130 : decode cX8_passDay 130 = .ok (.aload_n 0, 1) := by decide +kernel
theorem dX8_passDay_131 : decode cX8_passDay 131 = .ok (.invokevirtual 289, 3) := by decide +kernel
theorem dX8_passDay_134 : decode cX8_passDay 134 = .ok (.aload_n 0, 1) := by decide +kernel
theorem dX8_passDay_135 : decode cX8_passDay 135 = .ok (.dup, 1) := by decide +kernel
theorem dX8_passDay_136 : decode cX8_passDay 136 = .ok (.getfield 154, 3) := by decide +kernel
theorem dX8_passDay_139 : decode cX8_passDay 139 = .ok (.iconst 1, 1) := by decide +kernel
theorem dX8_passDay_140 : decode cX8_passDay 140 = .ok (.iadd, 1) := by decide +kernel
theorem dX8_passDay_141 : decode cX8_passDay 141 = .ok (.putfield 154, 3) := by decide +kernel
theorem dX8_passDay_144 : decode cX8_passDay 144 = .ok (.return_, 1) := by decide +kernel
theorem dX8_drive_0 : decode cX8_drive 0 = .ok (.aload_n 0, 1) := by decide +kernel
theorem dX8_drive_1 : decode cX8_drive 1 = .ok (.iload_n 1, 1) := by decide +kernel
theorem dX8_drive_2 : decode cX8_drive 2 = .ok (.invokevirtual 195, 3) := by decide +kernel
theorem dX8_drive_5 : decode cX8_drive 5 = .ok (.ifCond .eq 27, 3) := by decide +kernel
theorem dX8_drive_8 : decode cX8_drive 8 = .ok (.aload_n 0, 1) := by decide +kernel
theorem dX8_drive_9 : decode cX8_drive 9 = .ok (.iload_n 2, 1) := by decide +kernel
theorem dX8_drive_10 : decode cX8_drive 10 = .ok (.invokevirtual 106, 3) := by decide +kernel
theorem dX8_drive_13 : decode cX8_drive 13 = .ok (.ifCond .eq 19, 3) := by decide +kernel
theorem dX8_drive_16 : decode cX8_drive 16 = .ok (.aload_n 0, 1) := by decide +kernel
theorem dX8_drive_17 : decode cX8_drive 17 = .ok (.aload_n 0, 1) := by decide +kernel
theorem dX8_drive_18 : decode cX8_drive 18 = .ok (.getfield 23, 3) := by decide +kernel
theorem dX8_drive_21 : decode cX8_drive 21 = .ok (.iload_n 1, 1) := by decide +kernel
theorem dX8_drive_22 : decode cX8_drive 22 = .ok (.aaload, 1) := by decide +kernel
theorem dX8_drive_23 : decode cX8_drive 23 = .ok (.getfield 97, 3) := by decide +kernel
theorem dX8_drive_26 : decode cX8_drive 26 = .ok (.invokevirtual 90, 3) := by decide +kernel
theorem dX8_drive_29 : decode cX8_drive 29 = .ok (.ifCond .ne 4, 3) := by decide +kernel
theorem dX8_drive_32 : decode cX8_drive 32 = .ok (.return_, 1) := by decide +kernel
theorem dX8_drive_33 : decode cX8_drive 33 = .ok (.aload_n 0, 1) := by decide +kernel
theorem dX8_drive_34 : decode cX8_drive 34 = .ok (.getfield 23, 3) := by decide +kernel
theorem dX8_drive_37 : decode cX8_drive 37 = .ok (.iload_n 1, 1) := by decide +kernel
theorem dX8_drive_38 : decode cX8_drive 38 = .ok (.aaload, 1) := by decide +kernel
theorem dX8_drive_39 : decode cX8_drive 39 = .ok (.astore_n 3, 1) := by decide +kernel
theorem dX8_drive_40 : decode cX8_drive 40 = .ok (.aload_n 0, 1) := by decide +kernel
theorem dX8_drive_41 : decode cX8_drive 41 = .ok (.getfield 17, 3) := by decide +kernel
theorem dX8_drive_44 : decode cX8_drive 44 = .ok (.aload_n 3, 1) := by decide +kernel
theorem dX8_drive_45 : decode cX8_drive 45 = .ok (.getfield 97, 3) := by decide +kernel
theorem dX8_drive_48 : decode cX8_drive 48 = .ok (.aaload, 1) := by decide +kernel
theorem dX8_drive_49 : decode cX8_drive 49 = .ok (.astore 4, 2) := by decide +kernel
theorem dX8_drive_51 : decode cX8_drive 51 = .ok (.aload_n 0, 1) := by decide +kernel
theorem dX8_drive_52 : decode cX8_drive 52 = .ok (.getfield 11, 3) := by decide +kernel
theorem dX8_drive_55 : decode cX8_drive 55 = .ok (.iload_n 2, 1) := by decide +kernel
theorem dX8_drive_56 : decode cX8_drive 56 = .ok (.aaload, 1) := by decide +kernel
theorem dX8_drive_57 : decode cX8_drive 57 = .ok (.astore 5, 2) := by decide +kernel
theorem dX8_drive_59 : decode cX8_drive 59 = .ok (.aload_n 3, 1) := by decide +kernel
theorem dX8_drive_60 : decode cX8_drive 60 = .ok (.getfield 100, 3) := by decide +kernel
theorem dX8_drive_63 : decode cX8_drive 63 = .ok (.aload 4, 2) := by decide +kernel
theorem dX8_drive_65 : decode cX8_drive 65 = .ok (.getfield 86, 3) := by decide +kernel
theorem dX8_drive_68 : decode cX8_drive 68 = .ok (.invokestatic 163, 3) := by decide +kernel
theorem dX8_drive_71 : decode cX8_drive 71 = .ok (.aload 5, 2) := by decide +kernel
theorem dX8_drive_73 : decode cX8_drive 73 = .ok (.invokevirtual 270, 3) := by decide +kernel
theorem dX8_drive_76 : decode cX8_drive 76 = .ok (.invokestatic 163, 3) := by decide +kernel
theorem dX8_drive_79 : decode cX8_drive 79 = .ok (.istore 6, 2) := by decide +kernel
theorem dX8_drive_81 : decode cX8_drive 81 = .ok (.aload 4, 2) := by decide +kernel
theorem dX8_drive_83 : decode cX8_drive 83 = .ok (.dup, 1) := by decide +kernel
theorem dX8_drive_84 : decode cX8_drive 84 = .ok (.getfield 86, 3) := by decide +kernel
theorem dX8_drive_87 : decode cX8_drive 87 = .ok (.iload 6, 2) := by decide +kernel
theorem dX8_drive_89 : decode cX8_drive 89 = .ok (.isub, 1) := by decide +kernel
theorem dX8_drive_90 : decode cX8_drive 90 = .ok (.putfield 86, 3) := by decide +kernel
theorem dX8_drive_93 : decode cX8_drive 93 = .ok (.aload 5, 2) := by decide +kernel
theorem dX8_drive_95 : decode cX8_drive 95 = .ok (.iload 6, 2) := by decide +kernel
theorem dX8_drive_97 : decode cX8_drive 97 = .ok (.invokevirtual 282, 3) := by decide +kernel
theorem dX8_drive_100 : decode cX8_drive 100 = .ok (.aload 5, 2) := by decide +kernel
theorem dX8_drive_102 : decode cX8_drive 102 = .ok (.dup, 1) := by decide +kernel
theorem dX8_drive_103 : decode cX8_drive 103 = .ok (.getfield 292, 3) := by decide +kernel
theorem dX8_drive_106 : decode cX8_drive 106 = .ok (.iconst 1, 1) := by decide +kernel
theorem dX8_drive_107 : decode cX8_drive 107 = .ok (.iadd, 1) := by decide +kernel
theorem dX8_drive_108 : decode cX8_drive 108 = .ok (.putfield 292, 3) := by decide +kernel
theorem dX8_drive_111 : decode cX8_drive 111 = .ok (.aload_n 3, 1) := by decide +kernel
theorem dX8_drive_112 : decode cX8_drive 112 = .ok (.iload 6, 2) := by decide +kernel
theorem dX8_drive_114 : decode cX8_drive 114 = .ok (.iconst 2, 1) := by decide +kernel
theorem dX8_drive_115 : decode cX8_drive 115 = .ok (.aload 4, 2) := by decide +kernel
theorem dX8_drive_117 : decode cX8_drive 117 = .ok (.getfield 109, 3) := by decide +kernel
theorem dX8_drive_120 : decode cX8_drive 120 = .ok (.iload_n 2, 1) := by decide +kernel
theorem dX8_drive_121 : decode cX8_drive 121 = .ok (.iaload, 1) := by decide +kernel
theorem dX8_drive_122 : decode cX8_drive 122 = .ok (.imul, 1) := by decide +kernel
theorem dX8_drive_123 : decode cX8_drive 123 = .ok (.invokevirtual 295, 3) := by decide +kernel
theorem dX8_drive_126 : decode cX8_drive 126 = .ok (.return_, 1) := by decide +kernel
theorem dX8_giveToAll_0 : decode cX8_giveToAll 0 = .ok (.iconst 0, 1) := by decide +kernel
theorem dX8_giveToAll_1 : decode cX8_giveToAll 1 = .ok (.istore_n 1, 1) := by decide +kernel
theorem dX8_giveToAll_2 : decode cX8_giveToAll 2 = .ok (.aload_n 0, 1) := by decide +kernel
theorem dX8_giveToAll_3 : decode cX8_giveToAll 3 = .ok (.getfield 154, 3) := by decide +kernel
theorem dX8_giveToAll_6 : decode cX8_giveToAll 6 = .ok (.bipush 7, 2) := by decide +kernel
theorem dX8_giveToAll_8 : decode cX8_giveToAll 8 = .ok (.invokestatic 298, 3) := by decide +kernel
theorem dX8_giveToAll_11 : decode cX8_giveToAll 11 = .ok (.istore_n 2, 1) := by decide +kernel
theorem dX8_giveToAll_12 : decode cX8_giveToAll 12 = .ok (.iconst 0, 1) := by decide +kernel
theorem dX8_giveToAll_13 : decode cX8_giveToAll 13 = .ok (.istore_n 3, 1) := by decide +kernel
theorem dX8_giveToAll_14 : decode cX8_giveToAll 14 = .ok (.iload_n 3, 1) := by decide +kernel
theorem dX8_giveToAll_15 : decode cX8_giveToAll 15 = .ok (.aload_n 0, 1) := by decide +kernel
theorem dX8_giveToAll_16 : decode cX8_giveToAll 16 = .ok (.getfield 60, 3) := by decide +kernel
theorem dX8_giveToAll_19 : decode cX8_giveToAll 19 = .ok (.if_icmp .ge 67, 3) := by decide +kernel
theorem dX8_giveToAll_22 : decode cX8_giveToAll 22 = .ok (.aload_n 0, 1) := by decide +kernel
theorem dX8_giveToAll_23 : decode cX8_giveToAll 23 = .ok (.getfield 11, 3) := by decide +kernel
theorem dX8_giveToAll_26 : decode cX8_giveToAll 26 = .ok (.iload_n 3, 1) := by decide +kernel
theorem dX8_giveToAll_27 : decode cX8_giveToAll 27 = .ok (.aaload, 1) := by decide +kernel
theorem dX8_giveToAll_28 : decode cX8_giveToAll 28 = .ok (.aload_n 0, 1) := by decide +kernel
theorem dX8_giveToAll_29 : decode cX8_giveToAll 29 = .ok (.aload_n 0, 1) := by decide +kernel
theorem dX8_giveToAll_30 : decode cX8_giveToAll 30 = .ok (.getfield 11, 3) := by decide +kernel
theorem dX8_giveToAll_33 : decode cX8_giveToAll 33 = .ok (.iload_n 3, 1) := by decide +kernel
theorem dX8_giveToAll_34 : decode cX8_giveToAll 34 = .ok (.aaload, 1) := by decide +kernel
theorem dX8_giveToAll_35 : decode cX8_giveToAll 35 = .ok (.invokevirtual 129, 3) := by decide +kernel
theorem dX8_giveToAll_38 : decode cX8_giveToAll 38 = .ok (.iload_n 2, 1) := by decide +kernel
theorem dX8_giveToAll_39 : decode cX8_giveToAll 39 = .ok (.invokevirtual 301, 3) := by decide +kernel
theorem dX8_giveToAll_42 : decode cX8_giveToAll 42 = .ok (.aload_n 0, 1) := by decide +kernel
theorem dX8_giveToAll_43 : decode cX8_giveToAll 43 = .ok (.dup, 1) := by decide +kernel
theorem dX8_giveToAll_44 : decode cX8_giveToAll 44 = .ok (.getfield 231, 3) := by decide +kernel
theorem dX8_giveToAll_47 : decode cX8_giveToAll 47 = .ok (.aload_n 0, 1) := by decide +kernel
theorem dX8_giveToAll_48 : decode cX8_giveToAll 48 = .ok (.getfield 11, 3) := by decide +kernel
theorem dX8_giveToAll_51 : decode cX8_giveToAll 51 = .ok (.iload_n 3, 1) := by decide +kernel
theorem dX8_giveToAll_52 : decode cX8_giveToAll 52 = .ok (.aaload, 1) := by decide +kernel
theorem dX8_giveToAll_53 : decode cX8_giveToAll 53 = .ok (.getfield 304, 3) := by decide +kernel
theorem dX8_giveToAll_56 : decode cX8_giveToAll 56 = .ok (.iadd, 1) := by decide +kernel
theorem dX8_giveToAll_57 : decode cX8_giveToAll 57 = .ok (.putfield 231, 3) := by decide +kernel
theorem dX8_giveToAll_60 : decode cX8_giveToAll 60 = .ok (.iload_n 1, 1) := by decide +kernel
theorem dX8_giveToAll_61 : decode cX8_giveToAll 61 = .ok (.aload_n 0, 1) := by decide +kernel
theorem dX8_giveToAll_62 : decode cX8_giveToAll 62 = .ok (.getfield 11, 3) := by decide +kernel
theorem dX8_giveToAll_65 : decode cX8_giveToAll 65 = .ok (.iload_n 3, 1) := by decide +kernel
theorem dX8_giveToAll_66 : decode cX8_giveToAll 66 = .ok (.aaload, 1) := by decide +kernel
theorem dX8_giveToAll_67 : decode cX8_giveToAll 67 = .ok (.getfield 307, 3) := by decide +kernel
theorem dX8_giveToAll_70 : decode cX8_giveToAll 70 = .ok (.ifCond .eq 7, 3) := by decide +kernel
theorem dX8_giveToAll_73 : decode cX8_giveToAll 73 = .ok (.iconst 1, 1) := by decide +kernel
theorem dX8_giveToAll_74 : decode cX8_giveToAll 74 = .ok (.goto 4, 3) := by decide +kernel
theorem dX8_giveToAll_77 : decode cX8_giveToAll 77 = .ok (.iconst 0, 1) := by decide +kernel
theorem dX8_giveToAll_78 : decode cX8_giveToAll 78 = .ok (.iadd, 1) := by decide +kernel
theorem dX8_giveToAll_79 : decode cX8_giveToAll 79 = .ok (.istore_n 1, 1) := by decide +kernel
theorem dX8_giveToAll_80 : decode cX8_giveToAll 80 = .ok (.iinc 3 1, 3) := by decide +kernel
theorem dX8_giveToAll_83 : decode cX8_giveToAll 83 = .ok (.goto (-69), 3) := by decide +kernel
theorem dX8_giveToAll_86 : decode cX8_giveToAll 86 = .ok (.aload_n 0, 1) := by decide +kernel
theorem dX8_giveToAll_87 : decode cX8_giveToAll 87 = .ok (.iload_n 1, 1) := by decide +kernel
theorem dX8_giveToAll_88 : decode cX8_giveToAll 88 = .ok (.putfield 228, 3) := by decide +kernel
theorem dX8_giveToAll_91 : decode cX8_giveToAll 91 = .ok (.return_, 1) := by decide +kernel
theorem dX8_costOf_0 : decode cX8_costOf 0 = .ok (.iconst 0, 1) := by decide +kernel
theorem dX8_costOf_1 : decode cX8_costOf 1 = .ok (.istore_n 2, 1) := by decide +kernel
theorem dX8_costOf_2 : decode cX8_costOf 2 = .ok (.iconst 0, 1) := by decide +kernel
theorem dX8_costOf_3 : decode cX8_costOf 3 = .ok (.istore_n 3, 1) := by decide +kernel
theorem dX8_costOf_4 : decode cX8_costOf 4 = .ok (.iload_n 3, 1) := by decide +kernel
theorem dX8_costOf_5 : decode cX8_costOf 5 = .ok (.aload_n 0, 1) := by decide +kernel
theorem dX8_costOf_6 : decode cX8_costOf 6 = .ok (.getfield 169, 3) := by decide +kernel
theorem dX8_costOf_9 : decode cX8_costOf 9 = .ok (.if_icmp .ge 27, 3) := by decide +kernel
theorem dX8_costOf_12 : decode cX8_costOf 12 = .ok (.iload_n 2, 1) := by decide +kernel
theorem dX8_costOf_13 : decode cX8_costOf 13 = .ok (.iload_n 1, 1) := by decide +kernel
theorem dX8_costOf_14 : decode cX8_costOf 14 = .ok (.iload_n 3, 1) := by decide +kernel
theorem dX8_costOf_15 : decode cX8_costOf 15 = .ok (.ishr, 1) := by decide +kernel
theorem dX8_costOf_16 : decode cX8_costOf 16 = .ok (.iconst 1, 1) := by decide +kernel
theorem dX8_costOf_17 : decode cX8_costOf 17 = .ok (.iand, 1) := by decide +kernel
theorem dX8_costOf_18 : decode cX8_costOf 18 = .ok (.aload_n 0, 1) := by decide +kernel
theorem dX8_costOf_19 : decode cX8_costOf 19 = .ok (.getfield 29, 3) := by decide +kernel
theorem dX8_costOf_22 : decode cX8_costOf 22 = .ok (.iload_n 3, 1) := by decide +kernel
theorem dX8_costOf_23 : decode cX8_costOf 23 = .ok (.aaload, 1) := by decide +kernel
theorem dX8_costOf_24 : decode cX8_costOf 24 = .ok (.getfield 175, 3) := by decide +kernel
theorem dX8_costOf_27 : decode cX8_costOf 27 = .ok (.imul, 1) := by decide +kernel
theorem dX8_costOf_28 : decode cX8_costOf 28 = .ok (.iadd, 1) := by decide +kernel
theorem dX8_costOf_29 : decode cX8_costOf 29 = .ok (.istore_n 2, 1) := by decide +kernel
theorem dX8_costOf_30 : decode cX8_costOf 30 = .ok (.iinc 3 1, 3) := by decide +kernel
theorem dX8_costOf_33 : decode cX8_costOf 33 = .ok (.goto (-29), 3) := by decide +kernel
theorem dX8_costOf_36 : decode cX8_costOf 36 = .ok (.iload_n 2, 1) := by decide +kernel
theorem dX8_costOf_37 : decode cX8_costOf 37 = .ok (.ireturn, 1) := by decide +kernel
theorem dX8_worthOf_0 : decode cX8_worthOf 0 = .ok (.iconst 0, 1) := by decide +kernel
theorem dX8_worthOf_1 : decode cX8_worthOf 1 = .ok (.istore_n 2, 1) := by decide +kernel
theorem dX8_worthOf_2 : decode cX8_worthOf 2 = .ok (.iconst 0, 1) := by decide +kernel
theorem dX8_worthOf_3 : decode cX8_worthOf 3 = .ok (.istore_n 3, 1) := by decide +kernel
theorem dX8_worthOf_4 : decode cX8_worthOf 4 = .ok (.iload_n 3, 1) := by decide +kernel
theorem dX8_worthOf_5 : decode cX8_worthOf 5 = .ok (.aload_n 0, 1) := by decide +kernel
theorem dX8_worthOf_6 : decode cX8_worthOf 6 = .ok (.getfield 169, 3) := by decide +kernel
theorem dX8_worthOf_9 : decode cX8_worthOf 9 = .ok (.if_icmp .ge 27, 3) := by decide +kernel
theorem dX8_worthOf_12 : decode cX8_worthOf 12 = .ok (.iload_n 2, 1) := by decide +kernel
theorem dX8_worthOf_13 : decode cX8_worthOf 13 = .ok (.iload_n 1, 1) := by decide +kernel
theorem dX8_worthOf_14 : decode cX8_worthOf 14 = .ok (.iload_n 3, 1) := by decide +kernel
theorem dX8_worthOf_15 : decode cX8_worthOf 15 = .ok (.ishr, 1) := by decide +kernel
theorem dX8_worthOf_16 : decode cX8_worthOf 16 = .ok (.iconst 1, 1) := by decide +kernel
theorem dX8_worthOf_17 : decode cX8_worthOf 17 = .ok (.iand, 1) := by decide +kernel
theorem dX8_worthOf_18 : decode cX8_worthOf 18 = .ok (.aload_n 0, 1) := by decide +kernel
theorem dX8_worthOf_19 : decode cX8_worthOf 19 = .ok (.getfield 29, 3) := by decide +kernel
theorem dX8_worthOf_22 : decode cX8_worthOf 22 = .ok (.iload_n 3, 1) := by decide +kernel
theorem dX8_worthOf_23 : decode cX8_worthOf 23 = .ok (.aaload, 1) := by decide +kernel
theorem dX8_worthOf_24 : decode cX8_worthOf 24 = .ok (.getfield 178, 3) := by decide +kernel
theorem dX8_worthOf_27 : decode cX8_worthOf 27 = .ok (.imul, 1) := by decide +kernel
theorem dX8_worthOf_28 : decode cX8_worthOf 28 = .ok (.iadd, 1) := by decide +kernel
theorem dX8_worthOf_29 : decode cX8_worthOf 29 = .ok (.istore_n 2, 1) := by decide +kernel
theorem dX8_worthOf_30 : decode cX8_worthOf 30 = .ok (.iinc 3 1, 3) := by decide +kernel
theorem dX8_worthOf_33 : decode cX8_worthOf 33 = .ok (.goto (-29), 3) := by decide +kernel
theorem dX8_worthOf_36 : decode cX8_worthOf 36 = .ok (.iload_n 2, 1) := by decide +kernel
theorem dX8_worthOf_37 : decode cX8_worthOf 37 = .ok (.ireturn, 1) := by decide +kernel
theorem dX8_noneDrilled_0 : decode cX8_noneDrilled 0 = .ok (.iconst 0, 1) := by decide +kernel
theorem dX8_noneDrilled_1 : decode cX8_noneDrilled 1 = .ok (.istore_n 2, 1) := by decide +kernel
theorem dX8_noneDrilled_2 : decode cX8_noneDrilled 2 = .ok (.iload_n 2, 1) := by decide +kernel
theorem dX8_noneDrilled_3 : decode cX8_noneDrilled 3 = .ok (.aload_n 0, 1) := by decide +kernel
theorem dX8_noneDrilled_4 : decode cX8_noneDrilled 4 = .ok (.getfield 169, 3) := by decide +kernel
theorem dX8_noneDrilled_7 : decode cX8_noneDrilled 7 = .ok (.if_icmp .ge 32, 3) := by decide +kernel
theorem dX8_noneDrilled_10 : decode cX8_noneDrilled 10 = .ok (.iload_n 1, 1) := by decide +kernel
theorem dX8_noneDrilled_11 : decode cX8_noneDrilled 11 = .ok (.iload_n 2, 1) := by decide +kernel
theorem dX8_noneDrilled_12 : decode cX8_noneDrilled 12 = .ok (.ishr, 1) := by decide +kernel
theorem dX8_noneDrilled_13 : decode cX8_noneDrilled 13 = .ok (.iconst 1, 1) := by decide +kernel
theorem dX8_noneDrilled_14 : decode cX8_noneDrilled 14 = .ok (.iand, 1) := by decide +kernel
theorem dX8_noneDrilled_15 : decode cX8_noneDrilled 15 = .ok (.iconst 1, 1) := by decide +kernel
theorem dX8_noneDrilled_16 : decode cX8_noneDrilled 16 = .ok (.if_icmp .ne 17, 3) := by decide +kernel
theorem dX8_noneDrilled_19 : decode cX8_noneDrilled 19 = .ok (.aload_n 0, 1) := by decide +kernel
theorem dX8_noneDrilled_20 : decode cX8_noneDrilled 20 = .ok (.getfield 29, 3) := by decide +kernel
theorem dX8_noneDrilled_23 : decode cX8_noneDrilled 23 = .ok (.iload_n 2, 1) := by decide +kernel
theorem dX8_noneDrilled_24 : decode cX8_noneDrilled 24 = .ok (.aaload, 1) := by decide +kernel
theorem dX8_noneDrilled_25 : decode cX8_noneDrilled 25 = .ok (.getfield 191, 3) := by decide +kernel
theorem dX8_noneDrilled_28 : decode cX8_noneDrilled 28 = .ok (.ifCond .eq 5, 3) := by decide +kernel
theorem dX8_noneDrilled_31 : decode cX8_noneDrilled 31 = .ok (.iconst 0, 1) := by decide +kernel
theorem dX8_noneDrilled_32 : decode cX8_noneDrilled 32 = .ok (.ireturn, 1) := by decide +kernel
theorem dX8_noneDrilled_33 : decode cX8_noneDrilled 33 = .ok (.iinc 2 1, 3) := by decide +kernel
theorem dX8_noneDrilled_36 : decode cX8_noneDrilled 36 = .ok (.goto (-34), 3) := by decide +kernel
theorem dX8_noneDrilled_39 : decode cX8_noneDrilled 39 = .ok (.iconst 1, 1) := by decide +kernel
theorem dX8_noneDrilled_40 : decode cX8_noneDrilled 40 = .ok (.ireturn, 1) := by decide +kernel
theorem dX9_thrown_0 : decode cX9_thrown 0 = .ok (.aload_n 0, 1) := by decide +kernel
theorem dX9_thrown_1 : decode cX9_thrown 1 = .ok (.getfield 1, 3) := by decide +kernel
theorem dX9_thrown_4 : decode cX9_thrown 4 = .ok (.ireturn, 1) := by decide +kernel
theorem dX9_feed_0 : decode cX9_feed 0 = .ok (.aload_n 0, 1) := by decide +kernel
theorem dX9_feed_1 : decode cX9_feed 1 = .ok (.iconst 0, 1) := by decide +kernel
theorem dX9_feed_2 : decode cX9_feed 2 = .ok (.putfield 1, 3) := by decide +kernel
theorem dX9_feed_5 : decode cX9_feed 5 = .ok (.aload_n 0, 1) := by decide +kernel
theorem dX9_feed_6 : decode cX9_feed 6 = .ok (.lload_n 1, 1) := by decide +kernel
theorem dX9_feed_7 : decode cX9_feed 7 = .ok (.invokevirtual 7, 3) := by decide +kernel
theorem dX9_feed_10 : decode cX9_feed 10 = .ok (.aload_n 0, 1) := by decide +kernel
theorem dX9_feed_11 : decode cX9_feed 11 = .ok (.lload_n 3, 1) := by decide +kernel
theorem dX9_feed_12 : decode cX9_feed 12 = .ok (.invokevirtual 7, 3) := by decide +kernel
theorem dX9_feed_15 : decode cX9_feed 15 = .ok (.aload_n 0, 1) := by decide +kernel
theorem dX9_feed_16 : decode cX9_feed 16 = .ok (.lload 5, 2) := by decide +kernel
theorem dX9_feed_18 : decode cX9_feed 18 = .ok (.invokevirtual 7, 3) := by decide +kernel
theorem dX9_feed_21 : decode cX9_feed 21 = .ok (.aload_n 0, 1) := by decide +kernel
theorem dX9_feed_22 : decode cX9_feed 22 = .ok (.getfield 11, 3) := by decide +kernel
theorem dX9_feed_25 : decode cX9_feed 25 = .ok (.ireturn, 1) := by decide +kernel
theorem dX9_lay_0 : decode cX9_lay 0 = .ok (.bipush 56, 2) := by decide +kernel
theorem dX9_lay_2 : decode cX9_lay 2 = .ok (.istore_n 3, 1) := by decide +kernel
theorem dX9_lay_3 : decode cX9_lay 3 = .ok (.iload_n 3, 1) := by decide +kernel
theorem dX9_lay_4 : decode cX9_lay 4 = .ok (.ifCond .lt 71, 3) := by decide +kernel
theorem dX9_lay_7 : decode cX9_lay 7 = .ok (.lload_n 1, 1) := by decide +kernel
theorem dX9_lay_8 : decode cX9_lay 8 = .ok (.iload_n 3, 1) := by decide +kernel
theorem dX9_lay_9 : decode cX9_lay 9 = .ok (.lshr, 1) := by decide +kernel
theorem dX9_lay_10 : decode cX9_lay 10 = .ok (.l2i, 1) := by decide +kernel
theorem dX9_lay_11 : decode cX9_lay 11 = .ok (.sipush 255, 3) := by decide +kernel
theorem dX9_lay_14 : decode cX9_lay 14 = .ok (.iand, 1) := by decide +kernel
theorem dX9_lay_15 : decode cX9_lay 15 = .ok (.istore 4, 2) := by decide +kernel
theorem dX9_lay_17 : decode cX9_lay 17 = .ok (.iload 4, 2) := by decide +kernel
theorem dX9_lay_19 : decode cX9_lay 19 = .ok (.bipush 10, 2) := by decide +kernel
theorem dX9_lay_21 : decode cX9_lay 21 = .ok (.if_icmp .eq 17, 3) := by decide +kernel
theorem dX9_lay_24 : decode cX9_lay 24 = .ok (.iload 4, 2) := by decide +kernel
theorem dX9_lay_26 : decode cX9_lay 26 = .ok (.bipush 32, 2) := by decide +kernel
theorem dX9_lay_28 : decode cX9_lay 28 = .ok (.if_icmp .lt 41, 3) := by decide +kernel
theorem dX9_lay_31 : decode cX9_lay 31 = .ok (.iload 4, 2) := by decide +kernel
theorem dX9_lay_33 : decode cX9_lay 33 = .ok (.bipush 126, 2) := by decide +kernel
theorem dX9_lay_35 : decode cX9_lay 35 = .ok (.if_icmp .gt 34, 3) := by decide +kernel
theorem dX9_lay_38 : decode cX9_lay 38 = .ok (.aload_n 0, 1) := by decide +kernel
theorem dX9_lay_39 : decode cX9_lay 39 = .ok (.getfield 11, 3) := by decide +kernel
theorem dX9_lay_42 : decode cX9_lay 42 = .ok (.sipush 600, 3) := by decide +kernel
theorem dX9_lay_45 : decode cX9_lay 45 = .ok (.if_icmp .ge 24, 3) := by decide +kernel
theorem dX9_lay_48 : decode cX9_lay 48 = .ok (.aload_n 0, 1) := by decide +kernel
theorem dX9_lay_49 : decode cX9_lay 49 = .ok (.getfield 14, 3) := by decide +kernel
theorem dX9_lay_52 : decode cX9_lay 52 = .ok (.aload_n 0, 1) := by decide +kernel
theorem dX9_lay_53 : decode cX9_lay 53 = .ok (.getfield 11, 3) := by decide +kernel
theorem dX9_lay_56 : decode cX9_lay 56 = .ok (.iload 4, 2) := by decide +kernel
theorem dX9_lay_58 : decode cX9_lay 58 = .ok (.iastore, 1) := by decide +kernel
theorem dX9_lay_59 : decode cX9_lay 59 = .ok (.aload_n 0, 1) := by decide +kernel
theorem dX9_lay_60 : decode cX9_lay 60 = .ok (.dup, 1) := by decide +kernel
theorem dX9_lay_61 : decode cX9_lay 61 = .ok (.getfield 11, 3) := by decide +kernel
theorem dX9_lay_64 : decode cX9_lay 64 = .ok (.iconst 1, 1) := by decide +kernel
theorem dX9_lay_65 : decode cX9_lay 65 = .ok (.iadd, 1) := by decide +kernel
theorem dX9_lay_66 : decode cX9_lay 66 = .ok (.putfield 11, 3) := by decide +kernel
theorem dX9_lay_69 : decode cX9_lay 69 = .ok (.iinc 3 (-8), 3) := by decide +kernel
theorem dX9_lay_72 : decode cX9_lay 72 = .ok (.goto (-69), 3) := by decide +kernel
theorem dX9_lay_75 : decode cX9_lay 75 = .ok (.return_, 1) := by decide +kernel
theorem dX9_init_0 : decode cX9_init 0 = .ok (.aload_n 0, 1) := by decide +kernel
theorem dX9_init_1 : decode cX9_init 1 = .ok (.invokespecial 18, 3) := by decide +kernel
theorem dX9_init_4 : decode cX9_init 4 = .ok (.aload_n 0, 1) := by decide +kernel
theorem dX9_init_5 : decode cX9_init 5 = .ok (.sipush 600, 3) := by decide +kernel
theorem dX9_init_8 : decode cX9_init 8 = .ok (.newarray .int, 2) := by decide +kernel
theorem dX9_init_10 : decode cX9_init 10 = .ok (.putfield 14, 3) := by decide +kernel
theorem dX9_init_13 : decode cX9_init 13 = .ok (.aload_n 0, 1) := by decide +kernel
theorem dX9_init_14 : decode cX9_init 14 = .ok (.sipush 602, 3) := by decide +kernel
theorem dX9_init_17 : decode cX9_init 17 = .ok (.newarray .int, 2) := by decide +kernel
theorem dX9_init_19 : decode cX9_init 19 = .ok (.putfield 24, 3) := by decide +kernel
theorem dX9_init_22 : decode cX9_init 22 = .ok (.aload_n 0, 1) := by decide +kernel
theorem dX9_init_23 : decode cX9_init 23 = .ok (.sipush 602, 3) := by decide +kernel
theorem dX9_init_26 : decode cX9_init 26 = .ok (.newarray .int, 2) := by decide +kernel
theorem dX9_init_28 : decode cX9_init 28 = .ok (.putfield 27, 3) := by decide +kernel
theorem dX9_init_31 : decode cX9_init 31 = .ok (.aload_n 0, 1) := by decide +kernel
theorem dX9_init_32 : decode cX9_init 32 = .ok (.sipush 602, 3) := by decide +kernel
theorem dX9_init_35 : decode cX9_init 35 = .ok (.newarray .long, 2) := by decide +kernel
theorem dX9_init_37 : decode cX9_init 37 = .ok (.putfield 30, 3) := by decide +kernel
theorem dX9_init_40 : decode cX9_init 40 = .ok (.aload_n 0, 1) := by decide +kernel
theorem dX9_init_41 : decode cX9_init 41 = .ok (.bipush 10, 2) := by decide +kernel
theorem dX9_init_43 : decode cX9_init 43 = .ok (.newarray .long, 2) := by decide +kernel
theorem dX9_init_45 : decode cX9_init 45 = .ok (.dup, 1) := by decide +kernel
theorem dX9_init_46 : decode cX9_init 46 = .ok (.iconst 0, 1) := by decide +kernel
theorem dX9_init_47 : decode cX9_init 47 = .ok (.ldc2_w 34, 3) := by decide +kernel
theorem dX9_init_50 : decode cX9_init 50 = .ok (.lastore, 1) := by decide +kernel
theorem dX9_init_51 : decode cX9_init 51 = .ok (.dup, 1) := by decide +kernel
theorem dX9_init_52 : decode cX9_init 52 = .ok (.iconst 1, 1) := by decide +kernel
theorem dX9_init_53 : decode cX9_init 53 = .ok (.ldc2_w 36, 3) := by decide +kernel
theorem dX9_init_56 : decode cX9_init 56 = .ok (.lastore, 1) := by decide +kernel
theorem dX9_init_57 : decode cX9_init 57 = .ok (.dup, 1) := by decide +kernel
theorem dX9_init_58 : decode cX9_init 58 = .ok (.iconst 2, 1) := by decide +kernel
theorem dX9_init_59 : decode cX9_init 59 = .ok (.ldc2_w 38, 3) := by decide +kernel
theorem dX9_init_62 : decode cX9_init 62 = .ok (.lastore, 1) := by decide +kernel
theorem dX9_init_63 : decode cX9_init 63 = .ok (.dup, 1) := by decide +kernel
theorem dX9_init_64 : decode cX9_init 64 = .ok (.iconst 3, 1) := by decide +kernel
theorem dX9_init_65 : decode cX9_init 65 = .ok (.ldc2_w 40, 3) := by decide +kernel
theorem dX9_init_68 : decode cX9_init 68 = .ok (.lastore, 1) := by decide +kernel
theorem dX9_init_69 : decode cX9_init 69 = .ok (.dup, 1) := by decide +kernel
theorem dX9_init_70 : decode cX9_init 70 = .ok (.iconst 4, 1) := by decide +kernel
theorem dX9_init_71 : decode cX9_init 71 = .ok (.ldc2_w 42, 3) := by decide +kernel
theorem dX9_init_74 : decode cX9_init 74 = .ok (.lastore, 1) := by decide +kernel
theorem dX9_init_75 : decode cX9_init 75 = .ok (.dup, 1) := by decide +kernel
theorem dX9_init_76 : decode cX9_init 76 = .ok (.iconst 5, 1) := by decide +kernel
theorem dX9_init_77 : decode cX9_init 77 = .ok (.ldc2_w 44, 3) := by decide +kernel
theorem dX9_init_80 : decode cX9_init 80 = .ok (.lastore, 1) := by decide +kernel
theorem dX9_init_81 : decode cX9_init 81 = .ok (.dup, 1) := by decide +kernel
theorem dX9_init_82 : decode cX9_init 82 = .ok (.bipush 6, 2) := by decide +kernel
theorem dX9_init_84 : decode cX9_init 84 = .ok (.ldc2_w 46, 3) := by decide +kernel
theorem dX9_init_87 : decode cX9_init 87 = .ok (.lastore, 1) := by decide +kernel
theorem dX9_init_88 : decode cX9_init 88 = .ok (.dup, 1) := by decide +kernel
theorem dX9_init_89 : decode cX9_init 89 = .ok (.bipush 7, 2) := by decide +kernel
theorem dX9_init_91 : decode cX9_init 91 = .ok (.ldc2_w 48, 3) := by decide +kernel
theorem dX9_init_94 : decode cX9_init 94 = .ok (.lastore, 1) := by decide +kernel
theorem dX9_init_95 : decode cX9_init 95 = .ok (.dup, 1) := by decide +kernel
theorem dX9_init_96 : decode cX9_init 96 = .ok (.bipush 8, 2) := by decide +kernel
theorem dX9_init_98 : decode cX9_init 98 = .ok (.ldc2_w 50, 3) := by decide +kernel
theorem dX9_init_101 : decode cX9_init 101 = .ok (.lastore, 1) := by decide +kernel
theorem dX9_init_102 : decode cX9_init 102 = .ok (.dup, 1) := by decide +kernel
theorem dX9_init_103 : decode cX9_init 103 = .ok (.bipush 9, 2) := by decide +kernel
theorem dX9_init_105 : decode cX9_init 105 = .ok (.ldc2_w 52, 3) := by decide +kernel
theorem dX9_init_108 : decode cX9_init 108 = .ok (.lastore, 1) := by decide +kernel
theorem dX9_init_109 : decode cX9_init 109 = .ok (.putfield 54, 3) := by decide +kernel
theorem dX9_init_112 : decode cX9_init 112 = .ok (.aload_n 0, 1) := by decide +kernel
theorem dX9_init_113 : decode cX9_init 113 = .ok (.iconst 2, 1) := by decide +kernel
theorem dX9_init_114 : decode cX9_init 114 = .ok (.newarray .int, 2) := by decide +kernel
theorem dX9_init_116 : decode cX9_init 116 = .ok (.putfield 57, 3) := by decide +kernel
theorem dX9_init_119 : decode cX9_init 119 = .ok (.aload_n 0, 1) := by decide +kernel
theorem dX9_init_120 : decode cX9_init 120 = .ok (.bipush 32, 2) := by decide +kernel
theorem dX9_init_122 : decode cX9_init 122 = .ok (.newarray .boolean, 2) := by decide +kernel
theorem dX9_init_124 : decode cX9_init 124 = .ok (.putfield 60, 3) := by decide +kernel
theorem dX9_init_127 : decode cX9_init 127 = .ok (.aload_n 0, 1) := by decide +kernel
theorem dX9_init_128 : decode cX9_init 128 = .ok (.bipush 32, 2) := by decide +kernel
theorem dX9_init_130 : decode cX9_init 130 = .ok (.newarray .int, 2) := by decide +kernel
theorem dX9_init_132 : decode cX9_init 132 = .ok (.putfield 64, 3) := by decide +kernel
theorem dX9_init_135 : decode cX9_init 135 = .ok (.aload_n 0, 1) := by decide +kernel
theorem dX9_init_136 : decode cX9_init 136 = .ok (.bipush 32, 2) := by decide +kernel
theorem dX9_init_138 : decode cX9_init 138 = .ok (.newarray .int, 2) := by decide +kernel
theorem dX9_init_140 : decode cX9_init 140 = .ok (.putfield 67, 3) := by decide +kernel
theorem dX9_init_143 : decode cX9_init 143 = .ok (.aload_n 0, 1) := by decide +kernel
theorem dX9_init_144 : decode cX9_init 144 = .ok (.sipush 1320, 3) := by decide +kernel
theorem dX9_init_147 : decode cX9_init 147 = .ok (.newarray .int, 2) := by decide +kernel
theorem dX9_init_149 : decode cX9_init 149 = .ok (.putfield 70, 3) := by decide +kernel
theorem dX9_init_152 : decode cX9_init 152 = .ok (.aload_n 0, 1) := by decide +kernel
theorem dX9_init_153 : decode cX9_init 153 = .ok (.sipush 1320, 3) := by decide +kernel
theorem dX9_init_156 : decode cX9_init 156 = .ok (.newarray .int, 2) := by decide +kernel
theorem dX9_init_158 : decode cX9_init 158 = .ok (.putfield 73, 3) := by decide +kernel
theorem dX9_init_161 : decode cX9_init 161 = .ok (.aload_n 0, 1) := by decide +kernel
theorem dX9_init_162 : decode cX9_init 162 = .ok (.bipush 7, 2) := by decide +kernel
theorem dX9_init_164 : decode cX9_init 164 = .ok (.newarray .int, 2) := by decide +kernel
theorem dX9_init_166 : decode cX9_init 166 = .ok (.putfield 76, 3) := by decide +kernel
theorem dX9_init_169 : decode cX9_init 169 = .ok (.aload_n 0, 1) := by decide +kernel
theorem dX9_init_170 : decode cX9_init 170 = .ok (.bipush 7, 2) := by decide +kernel
theorem dX9_init_172 : decode cX9_init 172 = .ok (.newarray .int, 2) := by decide +kernel
theorem dX9_init_174 : decode cX9_init 174 = .ok (.putfield 79, 3) := by decide +kernel
theorem dX9_init_177 : decode cX9_init 177 = .ok (.aload_n 0, 1) := by decide +kernel
theorem dX9_init_178 : decode cX9_init 178 = .ok (.bipush 7, 2) := by decide +kernel
theorem dX9_init_180 : decode cX9_init 180 = .ok (.newarray .int, 2) := by decide +kernel
theorem dX9_init_182 : decode cX9_init 182 = .ok (.putfield 82, 3) := by decide +kernel
theorem dX9_init_185 : decode cX9_init 185 = .ok (.aload_n 0, 1) := by decide +kernel
theorem dX9_init_186 : decode cX9_init 186 = .ok (.bipush 6, 2) := by decide +kernel
theorem dX9_init_188 : decode cX9_init 188 = .ok (.newarray .int, 2) := by decide +kernel
theorem dX9_init_190 : decode cX9_init 190 = .ok (.putfield 85, 3) := by decide +kernel
theorem dX9_init_193 : decode cX9_init 193 = .ok (.aload_n 0, 1) := by decide +kernel
theorem dX9_init_194 : decode cX9_init 194 = .ok (.sipush 660, 3) := by decide +kernel
theorem dX9_init_197 : decode cX9_init 197 = .ok (.newarray .int, 2) := by decide +kernel
theorem dX9_init_199 : decode cX9_init 199 = .ok (.putfield 88, 3) := by decide +kernel
theorem dX9_init_202 : decode cX9_init 202 = .ok (.aload_n 0, 1) := by decide +kernel
theorem dX9_init_203 : decode cX9_init 203 = .ok (.bipush 12, 2) := by decide +kernel
theorem dX9_init_205 : decode cX9_init 205 = .ok (.newarray .int, 2) := by decide +kernel
theorem dX9_init_207 : decode cX9_init 207 = .ok (.putfield 91, 3) := by decide +kernel
theorem dX9_init_210 : decode cX9_init 210 = .ok (.aload_n 0, 1) := by decide +kernel
theorem dX9_init_211 : decode cX9_init 211 = .ok (.bipush 12, 2) := by decide +kernel
theorem dX9_init_213 : decode cX9_init 213 = .ok (.newarray .int, 2) := by decide +kernel
theorem dX9_init_215 : decode cX9_init 215 = .ok (.putfield 94, 3) := by decide +kernel
theorem dX9_init_218 : decode cX9_init 218 = .ok (.aload_n 0, 1) := by decide +kernel
theorem dX9_init_219 : decode cX9_init 219 = .ok (.bipush 12, 2) := by decide +kernel
theorem dX9_init_221 : decode cX9_init 221 = .ok (.newarray .int, 2) := by decide +kernel
theorem dX9_init_223 : decode cX9_init 223 = .ok (.putfield 97, 3) := by decide +kernel
theorem dX9_init_226 : decode cX9_init 226 = .ok (.aload_n 0, 1) := by decide +kernel
theorem dX9_init_227 : decode cX9_init 227 = .ok (.bipush 12, 2) := by decide +kernel
theorem dX9_init_229 : decode cX9_init 229 = .ok (.newarray .int, 2) := by decide +kernel
theorem dX9_init_231 : decode cX9_init 231 = .ok (.putfield 100, 3) := by decide +kernel
theorem dX9_init_234 : decode cX9_init 234 = .ok (.aload_n 0, 1) := by decide +kernel
theorem dX9_init_235 : decode cX9_init 235 = .ok (.bipush 12, 2) := by decide +kernel
theorem dX9_init_237 : decode cX9_init 237 = .ok (.newarray .int, 2) := by decide +kernel
theorem dX9_init_239 : decode cX9_init 239 = .ok (.putfield 103, 3) := by decide +kernel
theorem dX9_init_242 : decode cX9_init 242 = .ok (.aload_n 0, 1) := by decide +kernel
theorem dX9_init_243 : decode cX9_init 243 = .ok (.bipush 12, 2) := by decide +kernel
theorem dX9_init_245 : decode cX9_init 245 = .ok (.newarray .int, 2) := by decide +kernel
theorem dX9_init_247 : decode cX9_init 247 = .ok (.putfield 106, 3) := by decide +kernel
theorem dX9_init_250 : decode cX9_init 250 = .ok (.aload_n 0, 1) := by decide +kernel
theorem dX9_init_251 : decode cX9_init 251 = .ok (.bipush 12, 2) := by decide +kernel
theorem dX9_init_253 : decode cX9_init 253 = .ok (.newarray .int, 2) := by decide +kernel
theorem dX9_init_255 : decode cX9_init 255 = .ok (.putfield 109, 3) := by decide +kernel
theorem dX9_init_258 : decode cX9_init 258 = .ok (.aload_n 0, 1) := by decide +kernel
theorem dX9_init_259 : decode cX9_init 259 = .ok (.bipush 12, 2) := by decide +kernel
theorem dX9_init_261 : decode cX9_init 261 = .ok (.newarray .int, 2) := by decide +kernel
theorem dX9_init_263 : decode cX9_init 263 = .ok (.putfield 112, 3) := by decide +kernel
theorem dX9_init_266 : decode cX9_init 266 = .ok (.aload_n 0, 1) := by decide +kernel
theorem dX9_init_267 : decode cX9_init 267 = .ok (.sipush 4800, 3) := by decide +kernel
theorem dX9_init_270 : decode cX9_init 270 = .ok (.newarray .int, 2) := by decide +kernel
theorem dX9_init_272 : decode cX9_init 272 = .ok (.putfield 115, 3) := by decide +kernel
theorem dX9_init_275 : decode cX9_init 275 = .ok (.aload_n 0, 1) := by decide +kernel
theorem dX9_init_276 : decode cX9_init 276 = .ok (.bipush 12, 2) := by decide +kernel
theorem dX9_init_278 : decode cX9_init 278 = .ok (.newarray .boolean, 2) := by decide +kernel
theorem dX9_init_280 : decode cX9_init 280 = .ok (.putfield 118, 3) := by decide +kernel
theorem dX9_init_283 : decode cX9_init 283 = .ok (.aload_n 0, 1) := by decide +kernel
theorem dX9_init_284 : decode cX9_init 284 = .ok (.iconst 4, 1) := by decide +kernel
theorem dX9_init_285 : decode cX9_init 285 = .ok (.newarray .int, 2) := by decide +kernel
theorem dX9_init_287 : decode cX9_init 287 = .ok (.putfield 121, 3) := by decide +kernel
theorem dX9_init_290 : decode cX9_init 290 = .ok (.aload_n 0, 1) := by decide +kernel
theorem dX9_init_291 : decode cX9_init 291 = .ok (.iconst 4, 1) := by decide +kernel
theorem dX9_init_292 : decode cX9_init 292 = .ok (.newarray .int, 2) := by decide +kernel
theorem dX9_init_294 : decode cX9_init 294 = .ok (.putfield 124, 3) := by decide +kernel
theorem dX9_init_297 : decode cX9_init 297 = .ok (.aload_n 0, 1) := by decide +kernel
theorem dX9_init_298 : decode cX9_init 298 = .ok (.iconst 4, 1) := by decide +kernel
theorem dX9_init_299 : decode cX9_init 299 = .ok (.newarray .int, 2) := by decide +kernel
theorem dX9_init_301 : decode cX9_init 301 = .ok (.putfield 127, 3) := by decide +kernel
theorem dX9_init_304 : decode cX9_init 304 = .ok (.aload_n 0, 1) := by decide +kernel
theorem dX9_init_305 : decode cX9_init 305 = .ok (.iconst 4, 1) := by decide +kernel
theorem dX9_init_306 : decode cX9_init 306 = .ok (.newarray .int, 2) := by decide +kernel
theorem dX9_init_308 : decode cX9_init 308 = .ok (.putfield 130, 3) := by decide +kernel
theorem dX9_init_311 : decode cX9_init 311 = .ok (.aload_n 0, 1) := by decide +kernel
theorem dX9_init_312 : decode cX9_init 312 = .ok (.iconst 4, 1) := by decide +kernel
theorem dX9_init_313 : decode cX9_init 313 = .ok (.newarray .int, 2) := by decide +kernel
theorem dX9_init_315 : decode cX9_init 315 = .ok (.putfield 133, 3) := by decide +kernel
theorem dX9_init_318 : decode cX9_init 318 = .ok (.aload_n 0, 1) := by decide +kernel
theorem dX9_init_319 : decode cX9_init 319 = .ok (.iconst 4, 1) := by decide +kernel
theorem dX9_init_320 : decode cX9_init 320 = .ok (.newarray .int, 2) := by decide +kernel
theorem dX9_init_322 : decode cX9_init 322 = .ok (.putfield 136, 3) := by decide +kernel
theorem dX9_init_325 : decode cX9_init 325 = .ok (.aload_n 0, 1) := by decide +kernel
theorem dX9_init_326 : decode cX9_init 326 = .ok (.iconst 4, 1) := by decide +kernel
theorem dX9_init_327 : decode cX9_init 327 = .ok (.newarray .int, 2) := by decide +kernel
theorem dX9_init_329 : decode cX9_init 329 = .ok (.putfield 139, 3) := by decide +kernel
theorem dX9_init_332 : decode cX9_init 332 = .ok (.aload_n 0, 1) := by decide +kernel
theorem dX9_init_333 : decode cX9_init 333 = .ok (.iconst 4, 1) := by decide +kernel
theorem dX9_init_334 : decode cX9_init 334 = .ok (.newarray .int, 2) := by decide +kernel
theorem dX9_init_336 : decode cX9_init 336 = .ok (.putfield 142, 3) := by decide +kernel
theorem dX9_init_339 : decode cX9_init 339 = .ok (.aload_n 0, 1) := by decide +kernel
theorem dX9_init_340 : decode cX9_init 340 = .ok (.iconst 4, 1) := by decide +kernel
theorem dX9_init_341 : decode cX9_init 341 = .ok (.newarray .int, 2) := by decide +kernel
theorem dX9_init_343 : decode cX9_init 343 = .ok (.putfield 145, 3) := by decide +kernel
theorem dX9_init_346 : decode cX9_init 346 = .ok (.aload_n 0, 1) := by decide +kernel
theorem dX9_init_347 : decode cX9_init 347 = .ok (.iconst 4, 1) := by decide +kernel
theorem dX9_init_348 : decode cX9_init 348 = .ok (.newarray .int, 2) := by decide +kernel
theorem dX9_init_350 : decode cX9_init 350 = .ok (.putfield 148, 3) := by decide +kernel
theorem dX9_init_353 : decode cX9_init 353 = .ok (.aload_n 0, 1) := by decide +kernel
theorem dX9_init_354 : decode cX9_init 354 = .ok (.bipush 48, 2) := by decide +kernel
theorem dX9_init_356 : decode cX9_init 356 = .ok (.newarray .int, 2) := by decide +kernel
theorem dX9_init_358 : decode cX9_init 358 = .ok (.putfield 151, 3) := by decide +kernel
theorem dX9_init_361 : decode cX9_init 361 = .ok (.aload_n 0, 1) := by decide +kernel
theorem dX9_init_362 : decode cX9_init 362 = .ok (.bipush 6, 2) := by decide +kernel
theorem dX9_init_364 : decode cX9_init 364 = .ok (.newarray .int, 2) := by decide +kernel
theorem dX9_init_366 : decode cX9_init 366 = .ok (.putfield 154, 3) := by decide +kernel
theorem dX9_init_369 : decode cX9_init 369 = .ok (.aload_n 0, 1) := by decide +kernel
theorem dX9_init_370 : decode cX9_init 370 = .ok (.bipush 6, 2) := by decide +kernel
theorem dX9_init_372 : decode cX9_init 372 = .ok (.newarray .int, 2) := by decide +kernel
theorem dX9_init_374 : decode cX9_init 374 = .ok (.putfield 157, 3) := by decide +kernel
theorem dX9_init_377 : decode cX9_init 377 = .ok (.aload_n 0, 1) := by decide +kernel
theorem dX9_init_378 : decode cX9_init 378 = .ok (.bipush 6, 2) := by decide +kernel
theorem dX9_init_380 : decode cX9_init 380 = .ok (.newarray .int, 2) := by decide +kernel
theorem dX9_init_382 : decode cX9_init 382 = .ok (.putfield 160, 3) := by decide +kernel
theorem dX9_init_385 : decode cX9_init 385 = .ok (.aload_n 0, 1) := by decide +kernel
theorem dX9_init_386 : decode cX9_init 386 = .ok (.bipush 6, 2) := by decide +kernel
theorem dX9_init_388 : decode cX9_init 388 = .ok (.newarray .int, 2) := by decide +kernel
theorem dX9_init_390 : decode cX9_init 390 = .ok (.putfield 163, 3) := by decide +kernel
theorem dX9_init_393 : decode cX9_init 393 = .ok (.aload_n 0, 1) := by decide +kernel
theorem dX9_init_394 : decode cX9_init 394 = .ok (.iconst 4, 1) := by decide +kernel
theorem dX9_init_395 : decode cX9_init 395 = .ok (.newarray .int, 2) := by decide +kernel
theorem dX9_init_397 : decode cX9_init 397 = .ok (.putfield 166, 3) := by decide +kernel
theorem dX9_init_400 : decode cX9_init 400 = .ok (.aload_n 0, 1) := by decide +kernel
theorem dX9_init_401 : decode cX9_init 401 = .ok (.iconst 4, 1) := by decide +kernel
theorem dX9_init_402 : decode cX9_init 402 = .ok (.newarray .int, 2) := by decide +kernel
theorem dX9_init_404 : decode cX9_init 404 = .ok (.putfield 169, 3) := by decide +kernel
theorem dX9_init_407 : decode cX9_init 407 = .ok (.aload_n 0, 1) := by decide +kernel
theorem dX9_init_408 : decode cX9_init 408 = .ok (.bipush 10, 2) := by decide +kernel
theorem dX9_init_410 : decode cX9_init 410 = .ok (.newarray .int, 2) := by decide +kernel
theorem dX9_init_412 : decode cX9_init 412 = .ok (.putfield 172, 3) := by decide +kernel
theorem dX9_init_415 : decode cX9_init 415 = .ok (.aload_n 0, 1) := by decide +kernel
theorem dX9_init_416 : decode cX9_init 416 = .ok (.bipush 10, 2) := by decide +kernel
theorem dX9_init_418 : decode cX9_init 418 = .ok (.newarray .int, 2) := by decide +kernel
theorem dX9_init_420 : decode cX9_init 420 = .ok (.putfield 175, 3) := by decide +kernel
theorem dX9_init_423 : decode cX9_init 423 = .ok (.aload_n 0, 1) := by decide +kernel
theorem dX9_init_424 : decode cX9_init 424 = .ok (.bipush 10, 2) := by decide +kernel
theorem dX9_init_426 : decode cX9_init 426 = .ok (.newarray .int, 2) := by decide +kernel
theorem dX9_init_428 : decode cX9_init 428 = .ok (.putfield 178, 3) := by decide +kernel
theorem dX9_init_431 : decode cX9_init 431 = .ok (.aload_n 0, 1) := by decide +kernel
theorem dX9_init_432 : decode cX9_init 432 = .ok (.bipush 10, 2) := by decide +kernel
theorem dX9_init_434 : decode cX9_init 434 = .ok (.newarray .boolean, 2) := by decide +kernel
theorem dX9_init_436 : decode cX9_init 436 = .ok (.putfield 181, 3) := by decide +kernel
theorem dX9_init_439 : decode cX9_init 439 = .ok (.aload_n 0, 1) := by decide +kernel
theorem dX9_init_440 : decode cX9_init 440 = .ok (.iconst 4, 1) := by decide +kernel
theorem dX9_init_441 : decode cX9_init 441 = .ok (.newarray .int, 2) := by decide +kernel
theorem dX9_init_443 : decode cX9_init 443 = .ok (.putfield 184, 3) := by decide +kernel
theorem dX9_init_446 : decode cX9_init 446 = .ok (.aload_n 0, 1) := by decide +kernel
theorem dX9_init_447 : decode cX9_init 447 = .ok (.iconst 4, 1) := by decide +kernel
theorem dX9_init_448 : decode cX9_init 448 = .ok (.newarray .int, 2) := by decide +kernel
theorem dX9_init_450 : decode cX9_init 450 = .ok (.putfield 187, 3) := by decide +kernel
theorem dX9_init_453 : decode cX9_init 453 = .ok (.aload_n 0, 1) := by decide +kernel
theorem dX9_init_454 : decode cX9_init 454 = .ok (.iconst 4, 1) := by decide +kernel
theorem dX9_init_455 : decode cX9_init 455 = .ok (.newarray .int, 2) := by decide +kernel
theorem dX9_init_457 : decode cX9_init 457 = .ok (.putfield 190, 3) := by decide +kernel
theorem dX9_init_460 : decode cX9_init 460 = .ok (.iconst 0, 1) := by decide +kernel
theorem dX9_init_461 : decode cX9_init 461 = .ok (.istore_n 1, 1) := by decide +kernel
theorem dX9_init_462 : decode cX9_init 462 = .ok (.iload_n 1, 1) := by decide +kernel
theorem dX9_init_463 : decode cX9_init 463 = .ok (.bipush 48, 2) := by decide +kernel
theorem dX9_init_465 : decode cX9_init 465 = .ok (.if_icmp .ge 17, 3) := by decide +kernel
theorem dX9_init_468 : decode cX9_init 468 = .ok (.aload_n 0, 1) := by decide +kernel
theorem dX9_init_469 : decode cX9_init 469 = .ok (.getfield 151, 3) := by decide +kernel
theorem dX9_init_472 : decode cX9_init 472 = .ok (.iload_n 1, 1) := by decide +kernel
theorem dX9_init_473 : decode cX9_init 473 = .ok (.bipush 10, 2) := by decide +kernel
theorem dX9_init_475 : decode cX9_init 475 = .ok (.iastore, 1) := by decide +kernel
theorem dX9_init_476 : decode cX9_init 476 = .ok (.iinc 1 1, 3) := by decide +kernel
theorem dX9_init_479 : decode cX9_init 479 = .ok (.goto (-17), 3) := by decide +kernel
theorem dX9_init_482 : decode cX9_init 482 = .ok (.return_, 1) := by decide +kernel
theorem dX9_isLetter_0 : decode cX9_isLetter 0 = .ok (.iload_n 0, 1) := by decide +kernel
theorem dX9_isLetter_1 : decode cX9_isLetter 1 = .ok (.bipush 97, 2) := by decide +kernel
theorem dX9_isLetter_3 : decode cX9_isLetter 3 = .ok (.if_icmp .lt 13, 3) := by decide +kernel
theorem dX9_isLetter_6 : decode cX9_isLetter 6 = .ok (.iload_n 0, 1) := by decide +kernel
theorem dX9_isLetter_7 : decode cX9_isLetter 7 = .ok (.bipush 122, 2) := by decide +kernel
theorem dX9_isLetter_9 : decode cX9_isLetter 9 = .ok (.if_icmp .gt 7, 3) := by decide +kernel
theorem dX9_isLetter_12 : decode cX9_isLetter 12 = .ok (.iconst 1, 1) := by decide +kernel
theorem dX9_isLetter_13 : decode cX9_isLetter 13 = .ok (.goto 4, 3) := by decide +kernel
theorem dX9_isLetter_16 : decode cX9_isLetter 16 = .ok (.iconst 0, 1) := by decide +kernel
theorem dX9_isLetter_17 : decode cX9_isLetter 17 = .ok (.ireturn, 1) := by decide +kernel
theorem dX9_isDigit_0 : decode cX9_isDigit 0 = .ok (.iload_n 0, 1) := by decide +kernel
theorem dX9_isDigit_1 : decode cX9_isDigit 1 = .ok (.bipush 48, 2) := by decide +kernel
theorem dX9_isDigit_3 : decode cX9_isDigit 3 = .ok (.if_icmp .lt 13, 3) := by decide +kernel
theorem dX9_isDigit_6 : decode cX9_isDigit 6 = .ok (.iload_n 0, 1) := by decide +kernel
theorem dX9_isDigit_7 : decode cX9_isDigit 7 = .ok (.bipush 57, 2) := by decide +kernel
theorem dX9_isDigit_9 : decode cX9_isDigit 9 = .ok (.if_icmp .gt 7, 3) := by decide +kernel
theorem dX9_isDigit_12 : decode cX9_isDigit 12 = .ok (.iconst 1, 1) := by decide +kernel
theorem dX9_isDigit_13 : decode cX9_isDigit 13 = .ok (.goto 4, 3) := by decide +kernel
theorem dX9_isDigit_16 : decode cX9_isDigit 16 = .ok (.iconst 0, 1) := by decide +kernel
theorem dX9_isDigit_17 : decode cX9_isDigit 17 = .ok (.ireturn, 1) := by decide +kernel
theorem dX9_rank_0 : decode cX9_rank 0 = .ok (.iload_n 0, 1) := by decide +kernel
theorem dX9_rank_1 : decode cX9_rank 1 = .ok (.invokestatic 193, 3) := by decide +kernel
theorem dX9_rank_4 : decode cX9_rank 4 = .ok (.ifCond .eq 10, 3) := by decide +kernel
theorem dX9_rank_7 : decode cX9_rank 7 = .ok (.iload_n 0, 1) := by decide +kernel
theorem dX9_rank_8 : decode cX9_rank 8 = .ok (.bipush 96, 2) := by decide +kernel
theorem dX9_rank_10 : decode cX9_rank 10 = .ok (.isub, 1) := by decide +kernel
theorem dX9_rank_11 : decode cX9_rank 11 = .ok (.goto 7, 3) := by decide +kernel
theorem dX9_rank_14 : decode cX9_rank 14 = .ok (.iload_n 0, 1) := by decide +kernel
theorem dX9_rank_15 : decode cX9_rank 15 = .ok (.bipush 21, 2) := by decide +kernel
theorem dX9_rank_17 : decode cX9_rank 17 = .ok (.isub, 1) := by decide +kernel
theorem dX9_rank_18 : decode cX9_rank 18 = .ok (.ireturn, 1) := by decide +kernel
theorem dX9_isSignOf_0 : decode cX9_isSignOf 0 = .ok (.iload_n 0, 1) := by decide +kernel
theorem dX9_isSignOf_1 : decode cX9_isSignOf 1 = .ok (.bipush 40, 2) := by decide +kernel
theorem dX9_isSignOf_3 : decode cX9_isSignOf 3 = .ok (.if_icmp .eq 39, 3) := by decide +kernel
theorem dX9_isSignOf_6 : decode cX9_isSignOf 6 = .ok (.iload_n 0, 1) := by decide +kernel
theorem dX9_isSignOf_7 : decode cX9_isSignOf 7 = .ok (.bipush 41, 2) := by decide +kernel
theorem dX9_isSignOf_9 : decode cX9_isSignOf 9 = .ok (.if_icmp .eq 33, 3) := by decide +kernel
theorem dX9_isSignOf_12 : decode cX9_isSignOf 12 = .ok (.iload_n 0, 1) := by decide +kernel
theorem dX9_isSignOf_13 : decode cX9_isSignOf 13 = .ok (.bipush 59, 2) := by decide +kernel
theorem dX9_isSignOf_15 : decode cX9_isSignOf 15 = .ok (.if_icmp .eq 27, 3) := by decide +kernel
theorem dX9_isSignOf_18 : decode cX9_isSignOf 18 = .ok (.iload_n 0, 1) := by decide +kernel
theorem dX9_isSignOf_19 : decode cX9_isSignOf 19 = .ok (.bipush 61, 2) := by decide +kernel
theorem dX9_isSignOf_21 : decode cX9_isSignOf 21 = .ok (.if_icmp .eq 21, 3) := by decide +kernel
theorem dX9_isSignOf_24 : decode cX9_isSignOf 24 = .ok (.iload_n 0, 1) := by decide +kernel
theorem dX9_isSignOf_25 : decode cX9_isSignOf 25 = .ok (.bipush 60, 2) := by decide +kernel
theorem dX9_isSignOf_27 : decode cX9_isSignOf 27 = .ok (.if_icmp .eq 15, 3) := by decide +kernel
theorem dX9_isSignOf_30 : decode cX9_isSignOf 30 = .ok (.iload_n 0, 1) := by decide +kernel
theorem dX9_isSignOf_31 : decode cX9_isSignOf 31 = .ok (.bipush 43, 2) := by decide +kernel
theorem dX9_isSignOf_33 : decode cX9_isSignOf 33 = .ok (.if_icmp .eq 9, 3) := by decide +kernel
theorem dX9_isSignOf_36 : decode cX9_isSignOf 36 = .ok (.iload_n 0, 1) := by decide +kernel
theorem dX9_isSignOf_37 : decode cX9_isSignOf 37 = .ok (.bipush 45, 2) := by decide +kernel
theorem dX9_isSignOf_39 : decode cX9_isSignOf 39 = .ok (.if_icmp .ne 7, 3) := by decide +kernel
theorem dX9_isSignOf_42 : decode cX9_isSignOf 42 = .ok (.iconst 1, 1) := by decide +kernel
theorem dX9_isSignOf_43 : decode cX9_isSignOf 43 = .ok (.goto 4, 3) := by decide +kernel
theorem dX9_isSignOf_46 : decode cX9_isSignOf 46 = .ok (.iconst 0, 1) := by decide +kernel
theorem dX9_isSignOf_47 : decode cX9_isSignOf 47 = .ok (.ireturn, 1) := by decide +kernel
theorem dX9_cutAll_0 : decode cX9_cutAll 0 = .ok (.aload_n 0, 1) := by decide +kernel
theorem dX9_cutAll_1 : decode cX9_cutAll 1 = .ok (.aload_n 0, 1) := by decide +kernel
theorem dX9_cutAll_2 : decode cX9_cutAll 2 = .ok (.getfield 11, 3) := by decide +kernel
theorem dX9_cutAll_5 : decode cX9_cutAll 5 = .ok (.putfield 197, 3) := by decide +kernel
theorem dX9_cutAll_8 : decode cX9_cutAll 8 = .ok (.aload_n 0, 1) := by decide +kernel
theorem dX9_cutAll_9 : decode cX9_cutAll 9 = .ok (.iconst 0, 1) := by decide +kernel
theorem dX9_cutAll_10 : decode cX9_cutAll 10 = .ok (.putfield 11, 3) := by decide +kernel
theorem dX9_cutAll_13 : decode cX9_cutAll 13 = .ok (.iconst 0, 1) := by decide +kernel
theorem dX9_cutAll_14 : decode cX9_cutAll 14 = .ok (.istore_n 1, 1) := by decide +kernel
theorem dX9_cutAll_15 : decode cX9_cutAll 15 = .ok (.iconst 0, 1) := by decide +kernel
theorem dX9_cutAll_16 : decode cX9_cutAll 16 = .ok (.istore_n 2, 1) := by decide +kernel
theorem dX9_cutAll_17 : decode cX9_cutAll 17 = .ok (.iload_n 2, 1) := by decide +kernel
theorem dX9_cutAll_18 : decode cX9_cutAll 18 = .ok (.aload_n 0, 1) := by decide +kernel
theorem dX9_cutAll_19 : decode cX9_cutAll 19 = .ok (.getfield 197, 3) := by decide +kernel
theorem dX9_cutAll_22 : decode cX9_cutAll 22 = .ok (.if_icmp .ge 257, 3) := by decide +kernel
theorem dX9_cutAll_25 : decode cX9_cutAll 25 = .ok (.aload_n 0, 1) := by decide +kernel
theorem dX9_cutAll_26 : decode cX9_cutAll 26 = .ok (.getfield 14, 3) := by decide +kernel
theorem dX9_cutAll_29 : decode cX9_cutAll 29 = .ok (.iload_n 2, 1) := by decide +kernel
theorem dX9_cutAll_30 : decode cX9_cutAll 30 = .ok (.iaload, 1) := by decide +kernel
theorem dX9_cutAll_31 : decode cX9_cutAll 31 = .ok (.istore_n 3, 1) := by decide +kernel
theorem dX9_cutAll_32 : decode cX9_cutAll 32 = .ok (.iload_n 3, 1) := by decide +kernel
theorem dX9_cutAll_33 : decode cX9_cutAll 33 = .ok (.bipush 10, 2) := by decide +kernel
theorem dX9_cutAll_35 : decode cX9_cutAll 35 = .ok (.if_icmp .eq 9, 3) := by decide +kernel
theorem dX9_cutAll_38 : decode cX9_cutAll 38 = .ok (.iload_n 3, 1) := by decide +kernel
theorem dX9_cutAll_39 : decode cX9_cutAll 39 = .ok (.bipush 32, 2) := by decide +kernel
theorem dX9_cutAll_41 : decode cX9_cutAll 41 = .ok (.if_icmp .ne 9, 3) := by decide +kernel
theorem dX9_cutAll_44 : decode cX9_cutAll 44 = .ok (.iinc 2 1, 3) := by decide +kernel
theorem dX9_cutAll_47 : decode cX9_cutAll 47 = .ok (.goto (-30), 3) := by decide +kernel
theorem dX9_cutAll_50 : decode cX9_cutAll 50 = .ok (.iload_n 2, 1) := by decide +kernel
theorem dX9_cutAll_51 : decode cX9_cutAll 51 = .ok (.istore 4, 2) := by decide +kernel
theorem dX9_cutAll_53 : decode cX9_cutAll 53 = .ok (.lconst 0, 1) := by decide +kernel
theorem dX9_cutAll_54 : decode cX9_cutAll 54 = .ok (.lstore 5, 2) := by decide +kernel
theorem dX9_cutAll_56 : decode cX9_cutAll 56 = .ok (.aload_n 0, 1) := by decide +kernel
theorem dX9_cutAll_57 : decode cX9_cutAll 57 = .ok (.getfield 27, 3) := by decide +kernel
theorem dX9_cutAll_60 : decode cX9_cutAll 60 = .ok (.iload_n 1, 1) := by decide +kernel
theorem dX9_cutAll_61 : decode cX9_cutAll 61 = .ok (.iload_n 2, 1) := by decide +kernel
theorem dX9_cutAll_62 : decode cX9_cutAll 62 = .ok (.iastore, 1) := by decide +kernel
theorem dX9_cutAll_63 : decode cX9_cutAll 63 = .ok (.iload_n 3, 1) := by decide +kernel
theorem dX9_cutAll_64 : decode cX9_cutAll 64 = .ok (.invokestatic 193, 3) := by decide +kernel
theorem dX9_cutAll_67 : decode cX9_cutAll 67 = .ok (.ifCond .eq 85, 3) := by decide +kernel
theorem dX9_cutAll_70 : decode cX9_cutAll 70 = .ok (.iload_n 2, 1) := by decide +kernel
theorem dX9_cutAll_71 : decode cX9_cutAll 71 = .ok (.aload_n 0, 1) := by decide +kernel
