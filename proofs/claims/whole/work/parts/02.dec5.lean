theorem dX9_village_5 : decode cX9_village 5 = .ok (.iload_n 1, 1) := by decide +kernel
theorem dX9_village_6 : decode cX9_village 6 = .ok (.iconst 1, 1) := by decide +kernel
theorem dX9_village_7 : decode cX9_village 7 = .ok (.sipush 2000, 3) := by decide +kernel
theorem dX9_village_10 : decode cX9_village 10 = .ok (.invokestatic 282, 3) := by decide +kernel
theorem dX9_village_13 : decode cX9_village 13 = .ok (.ifCond .eq 44, 3) := by decide +kernel
theorem dX9_village_16 : decode cX9_village 16 = .ok (.iload_n 2, 1) := by decide +kernel
theorem dX9_village_17 : decode cX9_village 17 = .ok (.iconst 0, 1) := by decide +kernel
theorem dX9_village_18 : decode cX9_village 18 = .ok (.sipush 2000, 3) := by decide +kernel
theorem dX9_village_21 : decode cX9_village 21 = .ok (.invokestatic 282, 3) := by decide +kernel
theorem dX9_village_24 : decode cX9_village 24 = .ok (.ifCond .eq 33, 3) := by decide +kernel
theorem dX9_village_27 : decode cX9_village 27 = .ok (.iload_n 3, 1) := by decide +kernel
theorem dX9_village_28 : decode cX9_village 28 = .ok (.iconst 1, 1) := by decide +kernel
theorem dX9_village_29 : decode cX9_village 29 = .ok (.ldc_w 286, 3) := by decide +kernel
theorem dX9_village_32 : decode cX9_village 32 = .ok (.invokestatic 282, 3) := by decide +kernel
theorem dX9_village_35 : decode cX9_village 35 = .ok (.ifCond .eq 22, 3) := by decide +kernel
theorem dX9_village_38 : decode cX9_village 38 = .ok (.iload 4, 2) := by decide +kernel
theorem dX9_village_40 : decode cX9_village 40 = .ok (.iconst 0, 1) := by decide +kernel
theorem dX9_village_41 : decode cX9_village 41 = .ok (.iload_n 3, 1) := by decide +kernel
theorem dX9_village_42 : decode cX9_village 42 = .ok (.invokestatic 282, 3) := by decide +kernel
theorem dX9_village_45 : decode cX9_village 45 = .ok (.ifCond .eq 12, 3) := by decide +kernel
theorem dX9_village_48 : decode cX9_village 48 = .ok (.aload_n 0, 1) := by decide +kernel
theorem dX9_village_49 : decode cX9_village 49 = .ok (.getfield 287, 3) := by decide +kernel
theorem dX9_village_52 : decode cX9_village 52 = .ok (.bipush 12, 2) := by decide +kernel
theorem dX9_village_54 : decode cX9_village 54 = .ok (.if_icmp .ne 5, 3) := by decide +kernel
theorem dX9_village_57 : decode cX9_village 57 = .ok (.iconst (-1), 1) := by decide +kernel
theorem dX9_village_58 : decode cX9_village 58 = .ok (.ireturn, 1) := by decide +kernel
theorem dX9_village_59 : decode cX9_village 59 = .ok (.aload_n 0, 1) := by decide +kernel
theorem dX9_village_60 : decode cX9_village 60 = .ok (.getfield 91, 3) := by decide +kernel
theorem dX9_village_63 : decode cX9_village 63 = .ok (.aload_n 0, 1) := by decide +kernel
theorem dX9_village_64 : decode cX9_village 64 = .ok (.getfield 287, 3) := by decide +kernel
theorem dX9_village_67 : decode cX9_village 67 = .ok (.iload_n 1, 1) := by decide +kernel
theorem dX9_village_68 : decode cX9_village 68 = .ok (.iastore, 1) := by decide +kernel
theorem dX9_village_69 : decode cX9_village 69 = .ok (.aload_n 0, 1) := by decide +kernel
theorem dX9_village_70 : decode cX9_village 70 = .ok (.getfield 94, 3) := by decide +kernel
theorem dX9_village_73 : decode cX9_village 73 = .ok (.aload_n 0, 1) := by decide +kernel
theorem dX9_village_74 : decode cX9_village 74 = .ok (.getfield 287, 3) := by decide +kernel
theorem dX9_village_77 : decode cX9_village 77 = .ok (.iload_n 2, 1) := by decide +kernel
theorem dX9_village_78 : decode cX9_village 78 = .ok (.iastore, 1) := by decide +kernel
theorem dX9_village_79 : decode cX9_village 79 = .ok (.aload_n 0, 1) := by decide +kernel
theorem dX9_village_80 : decode cX9_village 80 = .ok (.getfield 97, 3) := by decide +kernel
theorem dX9_village_83 : decode cX9_village 83 = .ok (.aload_n 0, 1) := by decide +kernel
theorem dX9_village_84 : decode cX9_village 84 = .ok (.getfield 287, 3) := by decide +kernel
theorem dX9_village_87 : decode cX9_village 87 = .ok (.iload_n 3, 1) := by decide +kernel
theorem dX9_village_88 : decode cX9_village 88 = .ok (.iastore, 1) := by decide +kernel
theorem dX9_village_89 : decode cX9_village 89 = .ok (.aload_n 0, 1) := by decide +kernel
theorem dX9_village_90 : decode cX9_village 90 = .ok (.getfield 100, 3) := by decide +kernel
theorem dX9_village_93 : decode cX9_village 93 = .ok (.aload_n 0, 1) := by decide +kernel
theorem dX9_village_94 : decode cX9_village 94 = .ok (.getfield 287, 3) := by decide +kernel
theorem dX9_village_97 : decode cX9_village 97 = .ok (.iload 4, 2) := by decide +kernel
theorem dX9_village_99 : decode cX9_village 99 = .ok (.iastore, 1) := by decide +kernel
theorem dX9_village_100 : decode cX9_village 100 = .ok (.aload_n 0, 1) := by decide +kernel
theorem dX9_village_101 : decode cX9_village 101 = .ok (.dup, 1) := by decide +kernel
theorem dX9_village_102 : decode cX9_village 102 = .ok (.getfield 287, 3) := by decide +kernel
theorem dX9_village_105 : decode cX9_village 105 = .ok (.iconst 1, 1) := by decide +kernel
theorem dX9_village_106 : decode cX9_village 106 = .ok (.iadd, 1) := by decide +kernel
theorem dX9_village_107 : decode cX9_village 107 = .ok (.putfield 287, 3) := by decide +kernel
theorem dX9_village_110 : decode cX9_village 110 = .ok (.aload_n 0, 1) := by decide +kernel
theorem dX9_village_111 : decode cX9_village 111 = .ok (.getfield 287, 3) := by decide +kernel
theorem dX9_village_114 : decode cX9_village 114 = .ok (.iconst 1, 1) := by decide +kernel
theorem dX9_village_115 : decode cX9_village 115 = .ok (.isub, 1) := by decide +kernel
theorem dX9_village_116 : decode cX9_village 116 = .ok (.ireturn, 1) := by decide +kernel
theorem dX9_spring_0 : decode cX9_spring 0 = .ok (.aload_n 0, 1) := by decide +kernel
theorem dX9_spring_1 : decode cX9_spring 1 = .ok (.iconst 0, 1) := by decide +kernel
theorem dX9_spring_2 : decode cX9_spring 2 = .ok (.putfield 1, 3) := by decide +kernel
theorem dX9_spring_5 : decode cX9_spring 5 = .ok (.iload_n 1, 1) := by decide +kernel
theorem dX9_spring_6 : decode cX9_spring 6 = .ok (.iconst 0, 1) := by decide +kernel
theorem dX9_spring_7 : decode cX9_spring 7 = .ok (.ldc_w 286, 3) := by decide +kernel
theorem dX9_spring_10 : decode cX9_spring 10 = .ok (.invokestatic 282, 3) := by decide +kernel
theorem dX9_spring_13 : decode cX9_spring 13 = .ok (.ifCond .eq 32, 3) := by decide +kernel
theorem dX9_spring_16 : decode cX9_spring 16 = .ok (.iload_n 2, 1) := by decide +kernel
theorem dX9_spring_17 : decode cX9_spring 17 = .ok (.iconst 1, 1) := by decide +kernel
theorem dX9_spring_18 : decode cX9_spring 18 = .ok (.ldc_w 290, 3) := by decide +kernel
theorem dX9_spring_21 : decode cX9_spring 21 = .ok (.invokestatic 282, 3) := by decide +kernel
theorem dX9_spring_24 : decode cX9_spring 24 = .ok (.ifCond .eq 21, 3) := by decide +kernel
theorem dX9_spring_27 : decode cX9_spring 27 = .ok (.iload_n 3, 1) := by decide +kernel
theorem dX9_spring_28 : decode cX9_spring 28 = .ok (.iconst 0, 1) := by decide +kernel
theorem dX9_spring_29 : decode cX9_spring 29 = .ok (.bipush 100, 2) := by decide +kernel
theorem dX9_spring_31 : decode cX9_spring 31 = .ok (.invokestatic 282, 3) := by decide +kernel
theorem dX9_spring_34 : decode cX9_spring 34 = .ok (.ifCond .eq 11, 3) := by decide +kernel
theorem dX9_spring_37 : decode cX9_spring 37 = .ok (.aload_n 0, 1) := by decide +kernel
theorem dX9_spring_38 : decode cX9_spring 38 = .ok (.getfield 291, 3) := by decide +kernel
theorem dX9_spring_41 : decode cX9_spring 41 = .ok (.iconst 4, 1) := by decide +kernel
theorem dX9_spring_42 : decode cX9_spring 42 = .ok (.if_icmp .ne 5, 3) := by decide +kernel
theorem dX9_spring_45 : decode cX9_spring 45 = .ok (.iconst (-1), 1) := by decide +kernel
theorem dX9_spring_46 : decode cX9_spring 46 = .ok (.ireturn, 1) := by decide +kernel
theorem dX9_spring_47 : decode cX9_spring 47 = .ok (.aload_n 0, 1) := by decide +kernel
theorem dX9_spring_48 : decode cX9_spring 48 = .ok (.getfield 121, 3) := by decide +kernel
theorem dX9_spring_51 : decode cX9_spring 51 = .ok (.aload_n 0, 1) := by decide +kernel
theorem dX9_spring_52 : decode cX9_spring 52 = .ok (.getfield 291, 3) := by decide +kernel
theorem dX9_spring_55 : decode cX9_spring 55 = .ok (.iload_n 1, 1) := by decide +kernel
theorem dX9_spring_56 : decode cX9_spring 56 = .ok (.iastore, 1) := by decide +kernel
theorem dX9_spring_57 : decode cX9_spring 57 = .ok (.aload_n 0, 1) := by decide +kernel
theorem dX9_spring_58 : decode cX9_spring 58 = .ok (.getfield 124, 3) := by decide +kernel
theorem dX9_spring_61 : decode cX9_spring 61 = .ok (.aload_n 0, 1) := by decide +kernel
theorem dX9_spring_62 : decode cX9_spring 62 = .ok (.getfield 291, 3) := by decide +kernel
theorem dX9_spring_65 : decode cX9_spring 65 = .ok (.iload_n 2, 1) := by decide +kernel
theorem dX9_spring_66 : decode cX9_spring 66 = .ok (.iastore, 1) := by decide +kernel
theorem dX9_spring_67 : decode cX9_spring 67 = .ok (.aload_n 0, 1) := by decide +kernel
theorem dX9_spring_68 : decode cX9_spring 68 = .ok (.getfield 127, 3) := by decide +kernel
theorem dX9_spring_71 : decode cX9_spring 71 = .ok (.aload_n 0, 1) := by decide +kernel
theorem dX9_spring_72 : decode cX9_spring 72 = .ok (.getfield 291, 3) := by decide +kernel
theorem dX9_spring_75 : decode cX9_spring 75 = .ok (.iload_n 2, 1) := by decide +kernel
theorem dX9_spring_76 : decode cX9_spring 76 = .ok (.iastore, 1) := by decide +kernel
theorem dX9_spring_77 : decode cX9_spring 77 = .ok (.aload_n 0, 1) := by decide +kernel
theorem dX9_spring_78 : decode cX9_spring 78 = .ok (.getfield 130, 3) := by decide +kernel
theorem dX9_spring_81 : decode cX9_spring 81 = .ok (.aload_n 0, 1) := by decide +kernel
theorem dX9_spring_82 : decode cX9_spring 82 = .ok (.getfield 291, 3) := by decide +kernel
theorem dX9_spring_85 : decode cX9_spring 85 = .ok (.iload_n 3, 1) := by decide +kernel
theorem dX9_spring_86 : decode cX9_spring 86 = .ok (.iastore, 1) := by decide +kernel
theorem dX9_spring_87 : decode cX9_spring 87 = .ok (.aload_n 0, 1) := by decide +kernel
theorem dX9_spring_88 : decode cX9_spring 88 = .ok (.dup, 1) := by decide +kernel
theorem dX9_spring_89 : decode cX9_spring 89 = .ok (.getfield 291, 3) := by decide +kernel
theorem dX9_spring_92 : decode cX9_spring 92 = .ok (.iconst 1, 1) := by decide +kernel
theorem dX9_spring_93 : decode cX9_spring 93 = .ok (.iadd, 1) := by decide +kernel
theorem dX9_spring_94 : decode cX9_spring 94 = .ok (.putfield 291, 3) := by decide +kernel
theorem dX9_spring_97 : decode cX9_spring 97 = .ok (.aload_n 0, 1) := by decide +kernel
theorem dX9_spring_98 : decode cX9_spring 98 = .ok (.getfield 291, 3) := by decide +kernel
theorem dX9_spring_101 : decode cX9_spring 101 = .ok (.iconst 1, 1) := by decide +kernel
theorem dX9_spring_102 : decode cX9_spring 102 = .ok (.isub, 1) := by decide +kernel
theorem dX9_spring_103 : decode cX9_spring 103 = .ok (.ireturn, 1) := by decide +kernel
theorem dX9_tanker_0 : decode cX9_tanker 0 = .ok (.aload_n 0, 1) := by decide +kernel
theorem dX9_tanker_1 : decode cX9_tanker 1 = .ok (.iconst 0, 1) := by decide +kernel
theorem dX9_tanker_2 : decode cX9_tanker 2 = .ok (.putfield 1, 3) := by decide +kernel
theorem dX9_tanker_5 : decode cX9_tanker 5 = .ok (.iload_n 1, 1) := by decide +kernel
theorem dX9_tanker_6 : decode cX9_tanker 6 = .ok (.ifCond .lt 41, 3) := by decide +kernel
theorem dX9_tanker_9 : decode cX9_tanker 9 = .ok (.iload_n 1, 1) := by decide +kernel
theorem dX9_tanker_10 : decode cX9_tanker 10 = .ok (.aload_n 0, 1) := by decide +kernel
theorem dX9_tanker_11 : decode cX9_tanker 11 = .ok (.getfield 291, 3) := by decide +kernel
theorem dX9_tanker_14 : decode cX9_tanker 14 = .ok (.if_icmp .ge 33, 3) := by decide +kernel
theorem dX9_tanker_17 : decode cX9_tanker 17 = .ok (.iload_n 2, 1) := by decide +kernel
theorem dX9_tanker_18 : decode cX9_tanker 18 = .ok (.iconst 1, 1) := by decide +kernel
theorem dX9_tanker_19 : decode cX9_tanker 19 = .ok (.sipush 20000, 3) := by decide +kernel
theorem dX9_tanker_22 : decode cX9_tanker 22 = .ok (.invokestatic 282, 3) := by decide +kernel
theorem dX9_tanker_25 : decode cX9_tanker 25 = .ok (.ifCond .eq 22, 3) := by decide +kernel
theorem dX9_tanker_28 : decode cX9_tanker 28 = .ok (.iload_n 3, 1) := by decide +kernel
theorem dX9_tanker_29 : decode cX9_tanker 29 = .ok (.iconst 0, 1) := by decide +kernel
theorem dX9_tanker_30 : decode cX9_tanker 30 = .ok (.sipush 999, 3) := by decide +kernel
theorem dX9_tanker_33 : decode cX9_tanker 33 = .ok (.invokestatic 282, 3) := by decide +kernel
theorem dX9_tanker_36 : decode cX9_tanker 36 = .ok (.ifCond .eq 11, 3) := by decide +kernel
theorem dX9_tanker_39 : decode cX9_tanker 39 = .ok (.aload_n 0, 1) := by decide +kernel
theorem dX9_tanker_40 : decode cX9_tanker 40 = .ok (.getfield 294, 3) := by decide +kernel
theorem dX9_tanker_43 : decode cX9_tanker 43 = .ok (.iconst 4, 1) := by decide +kernel
theorem dX9_tanker_44 : decode cX9_tanker 44 = .ok (.if_icmp .ne 5, 3) := by decide +kernel
theorem dX9_tanker_47 : decode cX9_tanker 47 = .ok (.iconst (-1), 1) := by decide +kernel
theorem dX9_tanker_48 : decode cX9_tanker 48 = .ok (.ireturn, 1) := by decide +kernel
theorem dX9_tanker_49 : decode cX9_tanker 49 = .ok (.aload_n 0, 1) := by decide +kernel
theorem dX9_tanker_50 : decode cX9_tanker 50 = .ok (.getfield 133, 3) := by decide +kernel
theorem dX9_tanker_53 : decode cX9_tanker 53 = .ok (.aload_n 0, 1) := by decide +kernel
theorem dX9_tanker_54 : decode cX9_tanker 54 = .ok (.getfield 294, 3) := by decide +kernel
theorem dX9_tanker_57 : decode cX9_tanker 57 = .ok (.iload_n 1, 1) := by decide +kernel
theorem dX9_tanker_58 : decode cX9_tanker 58 = .ok (.iastore, 1) := by decide +kernel
theorem dX9_tanker_59 : decode cX9_tanker 59 = .ok (.aload_n 0, 1) := by decide +kernel
theorem dX9_tanker_60 : decode cX9_tanker 60 = .ok (.getfield 136, 3) := by decide +kernel
theorem dX9_tanker_63 : decode cX9_tanker 63 = .ok (.aload_n 0, 1) := by decide +kernel
theorem dX9_tanker_64 : decode cX9_tanker 64 = .ok (.getfield 294, 3) := by decide +kernel
theorem dX9_tanker_67 : decode cX9_tanker 67 = .ok (.iload_n 2, 1) := by decide +kernel
theorem dX9_tanker_68 : decode cX9_tanker 68 = .ok (.iastore, 1) := by decide +kernel
theorem dX9_tanker_69 : decode cX9_tanker 69 = .ok (.aload_n 0, 1) := by decide +kernel
theorem dX9_tanker_70 : decode cX9_tanker 70 = .ok (.getfield 139, 3) := by decide +kernel
theorem dX9_tanker_73 : decode cX9_tanker 73 = .ok (.aload_n 0, 1) := by decide +kernel
theorem dX9_tanker_74 : decode cX9_tanker 74 = .ok (.getfield 294, 3) := by decide +kernel
theorem dX9_tanker_77 : decode cX9_tanker 77 = .ok (.iload_n 3, 1) := by decide +kernel
theorem dX9_tanker_78 : decode cX9_tanker 78 = .ok (.iastore, 1) := by decide +kernel
theorem dX9_tanker_79 : decode cX9_tanker 79 = .ok (.aload_n 0, 1) := by decide +kernel
theorem dX9_tanker_80 : decode cX9_tanker 80 = .ok (.dup, 1) := by decide +kernel
theorem dX9_tanker_81 : decode cX9_tanker 81 = .ok (.getfield 294, 3) := by decide +kernel
theorem dX9_tanker_84 : decode cX9_tanker 84 = .ok (.iconst 1, 1) := by decide +kernel
theorem dX9_tanker_85 : decode cX9_tanker 85 = .ok (.iadd, 1) := by decide +kernel
theorem dX9_tanker_86 : decode cX9_tanker 86 = .ok (.putfield 294, 3) := by decide +kernel
theorem dX9_tanker_89 : decode cX9_tanker 89 = .ok (.aload_n 0, 1) := by decide +kernel
theorem dX9_tanker_90 : decode cX9_tanker 90 = .ok (.getfield 294, 3) := by decide +kernel
theorem dX9_tanker_93 : decode cX9_tanker 93 = .ok (.iconst 1, 1) := by decide +kernel
theorem dX9_tanker_94 : decode cX9_tanker 94 = .ok (.isub, 1) := by decide +kernel
theorem dX9_tanker_95 : decode cX9_tanker 95 = .ok (.ireturn, 1) := by decide +kernel
theorem dX9_isVillage_0 : decode cX9_isVillage 0 = .ok (.iload_n 1, 1) := by decide +kernel
theorem dX9_isVillage_1 : decode cX9_isVillage 1 = .ok (.ifCond .lt 15, 3) := by decide +kernel
theorem dX9_isVillage_4 : decode cX9_isVillage 4 = .ok (.iload_n 1, 1) := by decide +kernel
theorem dX9_isVillage_5 : decode cX9_isVillage 5 = .ok (.aload_n 0, 1) := by decide +kernel
theorem dX9_isVillage_6 : decode cX9_isVillage 6 = .ok (.getfield 287, 3) := by decide +kernel
theorem dX9_isVillage_9 : decode cX9_isVillage 9 = .ok (.if_icmp .ge 7, 3) := by decide +kernel
theorem dX9_isVillage_12 : decode cX9_isVillage 12 = .ok (.iconst 1, 1) := by decide +kernel
theorem dX9_isVillage_13 : decode cX9_isVillage 13 = .ok (.goto 4, 3) := by decide +kernel
theorem dX9_isVillage_16 : decode cX9_isVillage 16 = .ok (.iconst 0, 1) := by decide +kernel
theorem dX9_isVillage_17 : decode cX9_isVillage 17 = .ok (.ireturn, 1) := by decide +kernel
theorem dX9_way_0 : decode cX9_way 0 = .ok (.aload_n 0, 1) := by decide +kernel
theorem dX9_way_1 : decode cX9_way 1 = .ok (.iconst 0, 1) := by decide +kernel
theorem dX9_way_2 : decode cX9_way 2 = .ok (.putfield 1, 3) := by decide +kernel
theorem dX9_way_5 : decode cX9_way 5 = .ok (.iload_n 1, 1) := by decide +kernel
theorem dX9_way_6 : decode cX9_way 6 = .ok (.ifCond .lt 30, 3) := by decide +kernel
theorem dX9_way_9 : decode cX9_way 9 = .ok (.iload_n 1, 1) := by decide +kernel
theorem dX9_way_10 : decode cX9_way 10 = .ok (.aload_n 0, 1) := by decide +kernel
theorem dX9_way_11 : decode cX9_way 11 = .ok (.getfield 291, 3) := by decide +kernel
theorem dX9_way_14 : decode cX9_way 14 = .ok (.if_icmp .ge 22, 3) := by decide +kernel
theorem dX9_way_17 : decode cX9_way 17 = .ok (.aload_n 0, 1) := by decide +kernel
theorem dX9_way_18 : decode cX9_way 18 = .ok (.iload_n 2, 1) := by decide +kernel
theorem dX9_way_19 : decode cX9_way 19 = .ok (.invokevirtual 297, 3) := by decide +kernel
theorem dX9_way_22 : decode cX9_way 22 = .ok (.ifCond .eq 14, 3) := by decide +kernel
theorem dX9_way_25 : decode cX9_way 25 = .ok (.iload_n 3, 1) := by decide +kernel
theorem dX9_way_26 : decode cX9_way 26 = .ok (.iconst 1, 1) := by decide +kernel
theorem dX9_way_27 : decode cX9_way 27 = .ok (.sipush 200, 3) := by decide +kernel
theorem dX9_way_30 : decode cX9_way 30 = .ok (.invokestatic 282, 3) := by decide +kernel
theorem dX9_way_33 : decode cX9_way 33 = .ok (.ifCond .ne 5, 3) := by decide +kernel
theorem dX9_way_36 : decode cX9_way 36 = .ok (.iconst 0, 1) := by decide +kernel
theorem dX9_way_37 : decode cX9_way 37 = .ok (.ireturn, 1) := by decide +kernel
theorem dX9_way_38 : decode cX9_way 38 = .ok (.aload_n 0, 1) := by decide +kernel
theorem dX9_way_39 : decode cX9_way 39 = .ok (.getfield 151, 3) := by decide +kernel
theorem dX9_way_42 : decode cX9_way 42 = .ok (.bipush 12, 2) := by decide +kernel
theorem dX9_way_44 : decode cX9_way 44 = .ok (.iload_n 1, 1) := by decide +kernel
theorem dX9_way_45 : decode cX9_way 45 = .ok (.imul, 1) := by decide +kernel
theorem dX9_way_46 : decode cX9_way 46 = .ok (.iload_n 2, 1) := by decide +kernel
theorem dX9_way_47 : decode cX9_way 47 = .ok (.iadd, 1) := by decide +kernel
theorem dX9_way_48 : decode cX9_way 48 = .ok (.iload_n 3, 1) := by decide +kernel
theorem dX9_way_49 : decode cX9_way 49 = .ok (.iastore, 1) := by decide +kernel
theorem dX9_way_50 : decode cX9_way 50 = .ok (.iconst 1, 1) := by decide +kernel
theorem dX9_way_51 : decode cX9_way 51 = .ok (.ireturn, 1) := by decide +kernel
theorem dX9_litres_0 : decode cX9_litres 0 = .ok (.bipush 16, 2) := by decide +kernel
theorem dX9_litres_2 : decode cX9_litres 2 = .ok (.aload_n 0, 1) := by decide +kernel
theorem dX9_litres_3 : decode cX9_litres 3 = .ok (.getfield 244, 3) := by decide +kernel
theorem dX9_litres_6 : decode cX9_litres 6 = .ok (.imul, 1) := by decide +kernel
theorem dX9_litres_7 : decode cX9_litres 7 = .ok (.istore_n 3, 1) := by decide +kernel
theorem dX9_litres_8 : decode cX9_litres 8 = .ok (.iload_n 3, 1) := by decide +kernel
theorem dX9_litres_9 : decode cX9_litres 9 = .ok (.bipush 16, 2) := by decide +kernel
theorem dX9_litres_11 : decode cX9_litres 11 = .ok (.aload_n 0, 1) := by decide +kernel
theorem dX9_litres_12 : decode cX9_litres 12 = .ok (.getfield 244, 3) := by decide +kernel
theorem dX9_litres_15 : decode cX9_litres 15 = .ok (.imul, 1) := by decide +kernel
theorem dX9_litres_16 : decode cX9_litres 16 = .ok (.aload_n 0, 1) := by decide +kernel
theorem dX9_litres_17 : decode cX9_litres 17 = .ok (.getfield 57, 3) := by decide +kernel
theorem dX9_litres_20 : decode cX9_litres 20 = .ok (.aload_n 0, 1) := by decide +kernel
theorem dX9_litres_21 : decode cX9_litres 21 = .ok (.getfield 244, 3) := by decide +kernel
theorem dX9_litres_24 : decode cX9_litres 24 = .ok (.iaload, 1) := by decide +kernel
theorem dX9_litres_25 : decode cX9_litres 25 = .ok (.iadd, 1) := by decide +kernel
theorem dX9_litres_26 : decode cX9_litres 26 = .ok (.if_icmp .ge 39, 3) := by decide +kernel
theorem dX9_litres_29 : decode cX9_litres 29 = .ok (.aload_n 0, 1) := by decide +kernel
theorem dX9_litres_30 : decode cX9_litres 30 = .ok (.getfield 60, 3) := by decide +kernel
theorem dX9_litres_33 : decode cX9_litres 33 = .ok (.iload_n 3, 1) := by decide +kernel
theorem dX9_litres_34 : decode cX9_litres 34 = .ok (.baload, 1) := by decide +kernel
theorem dX9_litres_35 : decode cX9_litres 35 = .ok (.iload_n 1, 1) := by decide +kernel
theorem dX9_litres_36 : decode cX9_litres 36 = .ok (.if_icmp .ne 23, 3) := by decide +kernel
theorem dX9_litres_39 : decode cX9_litres 39 = .ok (.aload_n 0, 1) := by decide +kernel
theorem dX9_litres_40 : decode cX9_litres 40 = .ok (.aload_n 0, 1) := by decide +kernel
theorem dX9_litres_41 : decode cX9_litres 41 = .ok (.getfield 67, 3) := by decide +kernel
theorem dX9_litres_44 : decode cX9_litres 44 = .ok (.iload_n 3, 1) := by decide +kernel
theorem dX9_litres_45 : decode cX9_litres 45 = .ok (.iaload, 1) := by decide +kernel
theorem dX9_litres_46 : decode cX9_litres 46 = .ok (.invokevirtual 300, 3) := by decide +kernel
theorem dX9_litres_49 : decode cX9_litres 49 = .ok (.ifCond .eq 10, 3) := by decide +kernel
theorem dX9_litres_52 : decode cX9_litres 52 = .ok (.aload_n 0, 1) := by decide +kernel
theorem dX9_litres_53 : decode cX9_litres 53 = .ok (.getfield 64, 3) := by decide +kernel
theorem dX9_litres_56 : decode cX9_litres 56 = .ok (.iload_n 3, 1) := by decide +kernel
theorem dX9_litres_57 : decode cX9_litres 57 = .ok (.iaload, 1) := by decide +kernel
theorem dX9_litres_58 : decode cX9_litres 58 = .ok (.ireturn, 1) := by decide +kernel
theorem dX9_litres_59 : decode cX9_litres 59 = .ok (.iinc 3 1, 3) := by decide +kernel
theorem dX9_litres_62 : decode cX9_litres 62 = .ok (.goto (-54), 3) := by decide +kernel
theorem dX9_litres_65 : decode cX9_litres 65 = .ok (.iload_n 2, 1) := by decide +kernel
theorem dX9_litres_66 : decode cX9_litres 66 = .ok (.ireturn, 1) := by decide +kernel
theorem dX9_wantOf_0 : decode cX9_wantOf 0 = .ok (.aload_n 0, 1) := by decide +kernel
theorem dX9_wantOf_1 : decode cX9_wantOf 1 = .ok (.getfield 85, 3) := by decide +kernel
theorem dX9_wantOf_4 : decode cX9_wantOf 4 = .ok (.iconst 0, 1) := by decide +kernel
theorem dX9_wantOf_5 : decode cX9_wantOf 5 = .ok (.iload_n 2, 1) := by decide +kernel
theorem dX9_wantOf_6 : decode cX9_wantOf 6 = .ok (.iastore, 1) := by decide +kernel
theorem dX9_wantOf_7 : decode cX9_wantOf 7 = .ok (.aload_n 0, 1) := by decide +kernel
theorem dX9_wantOf_8 : decode cX9_wantOf 8 = .ok (.getfield 85, 3) := by decide +kernel
theorem dX9_wantOf_11 : decode cX9_wantOf 11 = .ok (.iconst 1, 1) := by decide +kernel
theorem dX9_wantOf_12 : decode cX9_wantOf 12 = .ok (.aload_n 0, 1) := by decide +kernel
theorem dX9_wantOf_13 : decode cX9_wantOf 13 = .ok (.getfield 91, 3) := by decide +kernel
theorem dX9_wantOf_16 : decode cX9_wantOf 16 = .ok (.iload_n 1, 1) := by decide +kernel
theorem dX9_wantOf_17 : decode cX9_wantOf 17 = .ok (.iaload, 1) := by decide +kernel
theorem dX9_wantOf_18 : decode cX9_wantOf 18 = .ok (.iastore, 1) := by decide +kernel
theorem dX9_wantOf_19 : decode cX9_wantOf 19 = .ok (.aload_n 0, 1) := by decide +kernel
theorem dX9_wantOf_20 : decode cX9_wantOf 20 = .ok (.getfield 85, 3) := by decide +kernel
theorem dX9_wantOf_23 : decode cX9_wantOf 23 = .ok (.iconst 2, 1) := by decide +kernel
theorem dX9_wantOf_24 : decode cX9_wantOf 24 = .ok (.aload_n 0, 1) := by decide +kernel
theorem dX9_wantOf_25 : decode cX9_wantOf 25 = .ok (.getfield 94, 3) := by decide +kernel
theorem dX9_wantOf_28 : decode cX9_wantOf 28 = .ok (.iload_n 1, 1) := by decide +kernel
theorem dX9_wantOf_29 : decode cX9_wantOf 29 = .ok (.iaload, 1) := by decide +kernel
theorem dX9_wantOf_30 : decode cX9_wantOf 30 = .ok (.iastore, 1) := by decide +kernel
theorem dX9_wantOf_31 : decode cX9_wantOf 31 = .ok (.aload_n 0, 1) := by decide +kernel
theorem dX9_wantOf_32 : decode cX9_wantOf 32 = .ok (.getfield 85, 3) := by decide +kernel
theorem dX9_wantOf_35 : decode cX9_wantOf 35 = .ok (.iconst 3, 1) := by decide +kernel
theorem dX9_wantOf_36 : decode cX9_wantOf 36 = .ok (.aload_n 0, 1) := by decide +kernel
theorem dX9_wantOf_37 : decode cX9_wantOf 37 = .ok (.getfield 106, 3) := by decide +kernel
theorem dX9_wantOf_40 : decode cX9_wantOf 40 = .ok (.iload_n 1, 1) := by decide +kernel
theorem dX9_wantOf_41 : decode cX9_wantOf 41 = .ok (.iaload, 1) := by decide +kernel
theorem dX9_wantOf_42 : decode cX9_wantOf 42 = .ok (.iastore, 1) := by decide +kernel
theorem dX9_wantOf_43 : decode cX9_wantOf 43 = .ok (.aload_n 0, 1) := by decide +kernel
theorem dX9_wantOf_44 : decode cX9_wantOf 44 = .ok (.getfield 85, 3) := by decide +kernel
theorem dX9_wantOf_47 : decode cX9_wantOf 47 = .ok (.iconst 4, 1) := by decide +kernel
theorem dX9_wantOf_48 : decode cX9_wantOf 48 = .ok (.ldc2_w 303, 3) := by decide +kernel
theorem dX9_wantOf_51 : decode cX9_wantOf 51 = .ok (.aload_n 0, 1) := by decide +kernel
theorem dX9_wantOf_52 : decode cX9_wantOf 52 = .ok (.getfield 100, 3) := by decide +kernel
theorem dX9_wantOf_55 : decode cX9_wantOf 55 = .ok (.iload_n 1, 1) := by decide +kernel
theorem dX9_wantOf_56 : decode cX9_wantOf 56 = .ok (.iaload, 1) := by decide +kernel
theorem dX9_wantOf_57 : decode cX9_wantOf 57 = .ok (.i2l, 1) := by decide +kernel
theorem dX9_wantOf_58 : decode cX9_wantOf 58 = .ok (.lmul, 1) := by decide +kernel
theorem dX9_wantOf_59 : decode cX9_wantOf 59 = .ok (.aload_n 0, 1) := by decide +kernel
theorem dX9_wantOf_60 : decode cX9_wantOf 60 = .ok (.getfield 97, 3) := by decide +kernel
theorem dX9_wantOf_63 : decode cX9_wantOf 63 = .ok (.iload_n 1, 1) := by decide +kernel
theorem dX9_wantOf_64 : decode cX9_wantOf 64 = .ok (.iaload, 1) := by decide +kernel
theorem dX9_wantOf_65 : decode cX9_wantOf 65 = .ok (.i2l, 1) := by decide +kernel
theorem dX9_wantOf_66 : decode cX9_wantOf 66 = .ok (.ldiv, 1) := by decide +kernel
theorem dX9_wantOf_67 : decode cX9_wantOf 67 = .ok (.l2i, 1) := by decide +kernel
theorem dX9_wantOf_68 : decode cX9_wantOf 68 = .ok (.iastore, 1) := by decide +kernel
theorem dX9_wantOf_69 : decode cX9_wantOf 69 = .ok (.aload_n 0, 1) := by decide +kernel
theorem dX9_wantOf_70 : decode cX9_wantOf 70 = .ok (.getfield 85, 3) := by decide +kernel
theorem dX9_wantOf_73 : decode cX9_wantOf 73 = .ok (.iconst 5, 1) := by decide +kernel
theorem dX9_wantOf_74 : decode cX9_wantOf 74 = .ok (.aload_n 0, 1) := by decide +kernel
theorem dX9_wantOf_75 : decode cX9_wantOf 75 = .ok (.getfield 305, 3) := by decide +kernel
theorem dX9_wantOf_78 : decode cX9_wantOf 78 = .ok (.iastore, 1) := by decide +kernel
theorem dX9_wantOf_79 : decode cX9_wantOf 79 = .ok (.aload_n 0, 1) := by decide +kernel
theorem dX9_wantOf_80 : decode cX9_wantOf 80 = .ok (.getfield 91, 3) := by decide +kernel
theorem dX9_wantOf_83 : decode cX9_wantOf 83 = .ok (.iload_n 1, 1) := by decide +kernel
theorem dX9_wantOf_84 : decode cX9_wantOf 84 = .ok (.iaload, 1) := by decide +kernel
theorem dX9_wantOf_85 : decode cX9_wantOf 85 = .ok (.aload_n 0, 1) := by decide +kernel
theorem dX9_wantOf_86 : decode cX9_wantOf 86 = .ok (.iconst 0, 1) := by decide +kernel
theorem dX9_wantOf_87 : decode cX9_wantOf 87 = .ok (.bipush 10, 2) := by decide +kernel
theorem dX9_wantOf_89 : decode cX9_wantOf 89 = .ok (.invokevirtual 308, 3) := by decide +kernel
theorem dX9_wantOf_92 : decode cX9_wantOf 92 = .ok (.imul, 1) := by decide +kernel
theorem dX9_wantOf_93 : decode cX9_wantOf 93 = .ok (.aload_n 0, 1) := by decide +kernel
theorem dX9_wantOf_94 : decode cX9_wantOf 94 = .ok (.getfield 94, 3) := by decide +kernel
theorem dX9_wantOf_97 : decode cX9_wantOf 97 = .ok (.iload_n 1, 1) := by decide +kernel
theorem dX9_wantOf_98 : decode cX9_wantOf 98 = .ok (.iaload, 1) := by decide +kernel
theorem dX9_wantOf_99 : decode cX9_wantOf 99 = .ok (.aload_n 0, 1) := by decide +kernel
theorem dX9_wantOf_100 : decode cX9_wantOf 100 = .ok (.iconst 1, 1) := by decide +kernel
theorem dX9_wantOf_101 : decode cX9_wantOf 101 = .ok (.bipush 20, 2) := by decide +kernel
theorem dX9_wantOf_103 : decode cX9_wantOf 103 = .ok (.invokevirtual 308, 3) := by decide +kernel
theorem dX9_wantOf_106 : decode cX9_wantOf 106 = .ok (.imul, 1) := by decide +kernel
theorem dX9_wantOf_107 : decode cX9_wantOf 107 = .ok (.iadd, 1) := by decide +kernel
theorem dX9_wantOf_108 : decode cX9_wantOf 108 = .ok (.ireturn, 1) := by decide +kernel
theorem dX9_want_0 : decode cX9_want 0 = .ok (.aload_n 0, 1) := by decide +kernel
theorem dX9_want_1 : decode cX9_want 1 = .ok (.iconst 0, 1) := by decide +kernel
theorem dX9_want_2 : decode cX9_want 2 = .ok (.putfield 1, 3) := by decide +kernel
theorem dX9_want_5 : decode cX9_want 5 = .ok (.aload_n 0, 1) := by decide +kernel
theorem dX9_want_6 : decode cX9_want 6 = .ok (.iload_n 1, 1) := by decide +kernel
theorem dX9_want_7 : decode cX9_want 7 = .ok (.invokevirtual 297, 3) := by decide +kernel
theorem dX9_want_10 : decode cX9_want 10 = .ok (.ifCond .eq 17, 3) := by decide +kernel
theorem dX9_want_13 : decode cX9_want 13 = .ok (.aload_n 0, 1) := by decide +kernel
theorem dX9_want_14 : decode cX9_want 14 = .ok (.iload_n 1, 1) := by decide +kernel
theorem dX9_want_15 : decode cX9_want 15 = .ok (.aload_n 0, 1) := by decide +kernel
theorem dX9_want_16 : decode cX9_want 16 = .ok (.getfield 312, 3) := by decide +kernel
theorem dX9_want_19 : decode cX9_want 19 = .ok (.iconst 1, 1) := by decide +kernel
theorem dX9_want_20 : decode cX9_want 20 = .ok (.iadd, 1) := by decide +kernel
theorem dX9_want_21 : decode cX9_want 21 = .ok (.invokevirtual 315, 3) := by decide +kernel
theorem dX9_want_24 : decode cX9_want 24 = .ok (.goto 4, 3) := by decide +kernel
theorem dX9_want_27 : decode cX9_want 27 = .ok (.iconst (-1), 1) := by decide +kernel
theorem dX9_want_28 : decode cX9_want 28 = .ok (.ireturn, 1) := by decide +kernel
theorem dX9_findNeedy_0 : decode cX9_findNeedy 0 = .ok (.aload_n 0, 1) := by decide +kernel
theorem dX9_findNeedy_1 : decode cX9_findNeedy 1 = .ok (.iconst 0, 1) := by decide +kernel
theorem dX9_findNeedy_2 : decode cX9_findNeedy 2 = .ok (.putfield 319, 3) := by decide +kernel
theorem dX9_findNeedy_5 : decode cX9_findNeedy 5 = .ok (.aload_n 0, 1) := by decide +kernel
theorem dX9_findNeedy_6 : decode cX9_findNeedy 6 = .ok (.iconst 0, 1) := by decide +kernel
theorem dX9_findNeedy_7 : decode cX9_findNeedy 7 = .ok (.putfield 322, 3) := by decide +kernel
theorem dX9_findNeedy_10 : decode cX9_findNeedy 10 = .ok (.iconst 0, 1) := by decide +kernel
theorem dX9_findNeedy_11 : decode cX9_findNeedy 11 = .ok (.istore_n 2, 1) := by decide +kernel
theorem dX9_findNeedy_12 : decode cX9_findNeedy 12 = .ok (.iload_n 2, 1) := by decide +kernel
theorem dX9_findNeedy_13 : decode cX9_findNeedy 13 = .ok (.aload_n 0, 1) := by decide +kernel
theorem dX9_findNeedy_14 : decode cX9_findNeedy 14 = .ok (.getfield 287, 3) := by decide +kernel
theorem dX9_findNeedy_17 : decode cX9_findNeedy 17 = .ok (.if_icmp .ge 75, 3) := by decide +kernel
theorem dX9_findNeedy_20 : decode cX9_findNeedy 20 = .ok (.aload_n 0, 1) := by decide +kernel
theorem dX9_findNeedy_21 : decode cX9_findNeedy 21 = .ok (.iload_n 2, 1) := by decide +kernel
theorem dX9_findNeedy_22 : decode cX9_findNeedy 22 = .ok (.iload_n 1, 1) := by decide +kernel
theorem dX9_findNeedy_23 : decode cX9_findNeedy 23 = .ok (.invokevirtual 315, 3) := by decide +kernel
theorem dX9_findNeedy_26 : decode cX9_findNeedy 26 = .ok (.istore_n 3, 1) := by decide +kernel
theorem dX9_findNeedy_27 : decode cX9_findNeedy 27 = .ok (.aload_n 0, 1) := by decide +kernel
theorem dX9_findNeedy_28 : decode cX9_findNeedy 28 = .ok (.getfield 100, 3) := by decide +kernel
theorem dX9_findNeedy_31 : decode cX9_findNeedy 31 = .ok (.iload_n 2, 1) := by decide +kernel
theorem dX9_findNeedy_32 : decode cX9_findNeedy 32 = .ok (.iaload, 1) := by decide +kernel
theorem dX9_findNeedy_33 : decode cX9_findNeedy 33 = .ok (.iload_n 3, 1) := by decide +kernel
theorem dX9_findNeedy_34 : decode cX9_findNeedy 34 = .ok (.if_icmp .ge 52, 3) := by decide +kernel
theorem dX9_findNeedy_37 : decode cX9_findNeedy 37 = .ok (.aload_n 0, 1) := by decide +kernel
theorem dX9_findNeedy_38 : decode cX9_findNeedy 38 = .ok (.getfield 322, 3) := by decide +kernel
theorem dX9_findNeedy_41 : decode cX9_findNeedy 41 = .ok (.bipush 6, 2) := by decide +kernel
theorem dX9_findNeedy_43 : decode cX9_findNeedy 43 = .ok (.if_icmp .ge 33, 3) := by decide +kernel
theorem dX9_findNeedy_46 : decode cX9_findNeedy 46 = .ok (.aload_n 0, 1) := by decide +kernel
theorem dX9_findNeedy_47 : decode cX9_findNeedy 47 = .ok (.getfield 154, 3) := by decide +kernel
theorem dX9_findNeedy_50 : decode cX9_findNeedy 50 = .ok (.aload_n 0, 1) := by decide +kernel
theorem dX9_findNeedy_51 : decode cX9_findNeedy 51 = .ok (.getfield 322, 3) := by decide +kernel
theorem dX9_findNeedy_54 : decode cX9_findNeedy 54 = .ok (.iload_n 2, 1) := by decide +kernel
theorem dX9_findNeedy_55 : decode cX9_findNeedy 55 = .ok (.iastore, 1) := by decide +kernel
theorem dX9_findNeedy_56 : decode cX9_findNeedy 56 = .ok (.aload_n 0, 1) := by decide +kernel
theorem dX9_findNeedy_57 : decode cX9_findNeedy 57 = .ok (.getfield 157, 3) := by decide +kernel
theorem dX9_findNeedy_60 : decode cX9_findNeedy 60 = .ok (.aload_n 0, 1) := by decide +kernel
theorem dX9_findNeedy_61 : decode cX9_findNeedy 61 = .ok (.getfield 322, 3) := by decide +kernel
theorem dX9_findNeedy_64 : decode cX9_findNeedy 64 = .ok (.iload_n 3, 1) := by decide +kernel
theorem dX9_findNeedy_65 : decode cX9_findNeedy 65 = .ok (.iastore, 1) := by decide +kernel
theorem dX9_findNeedy_66 : decode cX9_findNeedy 66 = .ok (.aload_n 0, 1) := by decide +kernel
theorem dX9_findNeedy_67 : decode cX9_findNeedy 67 = .ok (.dup, 1) := by decide +kernel
theorem dX9_findNeedy_68 : decode cX9_findNeedy 68 = .ok (.getfield 322, 3) := by decide +kernel
theorem dX9_findNeedy_71 : decode cX9_findNeedy 71 = .ok (.iconst 1, 1) := by decide +kernel
theorem dX9_findNeedy_72 : decode cX9_findNeedy 72 = .ok (.iadd, 1) := by decide +kernel
theorem dX9_findNeedy_73 : decode cX9_findNeedy 73 = .ok (.putfield 322, 3) := by decide +kernel
theorem dX9_findNeedy_76 : decode cX9_findNeedy 76 = .ok (.aload_n 0, 1) := by decide +kernel
theorem dX9_findNeedy_77 : decode cX9_findNeedy 77 = .ok (.dup, 1) := by decide +kernel
theorem dX9_findNeedy_78 : decode cX9_findNeedy 78 = .ok (.getfield 319, 3) := by decide +kernel
theorem dX9_findNeedy_81 : decode cX9_findNeedy 81 = .ok (.iconst 1, 1) := by decide +kernel
theorem dX9_findNeedy_82 : decode cX9_findNeedy 82 = .ok (.iadd, 1) := by decide +kernel
theorem dX9_findNeedy_83 : decode cX9_findNeedy 83 = .ok (.putfield 319, 3) := by decide +kernel
theorem dX9_findNeedy_86 : decode cX9_findNeedy 86 = .ok (.iinc 2 1, 3) := by decide +kernel
theorem dX9_findNeedy_89 : decode cX9_findNeedy 89 = .ok (.goto (-77), 3) := by decide +kernel
theorem dX9_findNeedy_92 : decode cX9_findNeedy 92 = .ok (.return_, 1) := by decide +kernel
theorem dX9_least_0 : decode cX9_least 0 = .ok (.iload_n 0, 1) := by decide +kernel
theorem dX9_least_1 : decode cX9_least 1 = .ok (.iload_n 1, 1) := by decide +kernel
theorem dX9_least_2 : decode cX9_least 2 = .ok (.if_icmp .ge 7, 3) := by decide +kernel
theorem dX9_least_5 : decode cX9_least 5 = .ok (.iload_n 0, 1) := by decide +kernel
theorem dX9_least_6 : decode cX9_least 6 = .ok (.goto 4, 3) := by decide +kernel
theorem dX9_least_9 : decode cX9_least 9 = .ok (.iload_n 1, 1) := by decide +kernel
theorem dX9_least_10 : decode cX9_least 10 = .ok (.ireturn, 1) := by decide +kernel
theorem dX9_tries_0 : decode cX9_tries 0 = .ok (.iconst 0, 1) := by decide +kernel
theorem dX9_tries_1 : decode cX9_tries 1 = .ok (.istore_n 1, 1) := by decide +kernel
theorem dX9_tries_2 : decode cX9_tries 2 = .ok (.iload_n 1, 1) := by decide +kernel
theorem dX9_tries_3 : decode cX9_tries 3 = .ok (.aload_n 0, 1) := by decide +kernel
theorem dX9_tries_4 : decode cX9_tries 4 = .ok (.getfield 294, 3) := by decide +kernel
theorem dX9_tries_7 : decode cX9_tries 7 = .ok (.if_icmp .ge 21, 3) := by decide +kernel
theorem dX9_tries_10 : decode cX9_tries 10 = .ok (.aload_n 0, 1) := by decide +kernel
theorem dX9_tries_11 : decode cX9_tries 11 = .ok (.getfield 166, 3) := by decide +kernel
theorem dX9_tries_14 : decode cX9_tries 14 = .ok (.iload_n 1, 1) := by decide +kernel
theorem dX9_tries_15 : decode cX9_tries 15 = .ok (.aload_n 0, 1) := by decide +kernel
theorem dX9_tries_16 : decode cX9_tries 16 = .ok (.getfield 139, 3) := by decide +kernel
theorem dX9_tries_19 : decode cX9_tries 19 = .ok (.iload_n 1, 1) := by decide +kernel
theorem dX9_tries_20 : decode cX9_tries 20 = .ok (.iaload, 1) := by decide +kernel
theorem dX9_tries_21 : decode cX9_tries 21 = .ok (.iastore, 1) := by decide +kernel
theorem dX9_tries_22 : decode cX9_tries 22 = .ok (.iinc 1 1, 3) := by decide +kernel
theorem dX9_tries_25 : decode cX9_tries 25 = .ok (.goto (-23), 3) := by decide +kernel
theorem dX9_tries_28 : decode cX9_tries 28 = .ok (.iconst 0, 1) := by decide +kernel
theorem dX9_tries_29 : decode cX9_tries 29 = .ok (.istore_n 1, 1) := by decide +kernel
theorem dX9_tries_30 : decode cX9_tries 30 = .ok (.iload_n 1, 1) := by decide +kernel
theorem dX9_tries_31 : decode cX9_tries 31 = .ok (.aload_n 0, 1) := by decide +kernel
theorem dX9_tries_32 : decode cX9_tries 32 = .ok (.getfield 291, 3) := by decide +kernel
theorem dX9_tries_35 : decode cX9_tries 35 = .ok (.if_icmp .ge 21, 3) := by decide +kernel
theorem dX9_tries_38 : decode cX9_tries 38 = .ok (.aload_n 0, 1) := by decide +kernel
theorem dX9_tries_39 : decode cX9_tries 39 = .ok (.getfield 169, 3) := by decide +kernel
theorem dX9_tries_42 : decode cX9_tries 42 = .ok (.iload_n 1, 1) := by decide +kernel
theorem dX9_tries_43 : decode cX9_tries 43 = .ok (.aload_n 0, 1) := by decide +kernel
theorem dX9_tries_44 : decode cX9_tries 44 = .ok (.getfield 127, 3) := by decide +kernel
theorem dX9_tries_47 : decode cX9_tries 47 = .ok (.iload_n 1, 1) := by decide +kernel
theorem dX9_tries_48 : decode cX9_tries 48 = .ok (.iaload, 1) := by decide +kernel
theorem dX9_tries_49 : decode cX9_tries 49 = .ok (.iastore, 1) := by decide +kernel
theorem dX9_tries_50 : decode cX9_tries 50 = .ok (.iinc 1 1, 3) := by decide +kernel
theorem dX9_tries_53 : decode cX9_tries 53 = .ok (.goto (-23), 3) := by decide +kernel
theorem dX9_tries_56 : decode cX9_tries 56 = .ok (.iconst 0, 1) := by decide +kernel
theorem dX9_tries_57 : decode cX9_tries 57 = .ok (.istore_n 1, 1) := by decide +kernel
theorem dX9_tries_58 : decode cX9_tries 58 = .ok (.iconst 0, 1) := by decide +kernel
theorem dX9_tries_59 : decode cX9_tries 59 = .ok (.istore_n 2, 1) := by decide +kernel
theorem dX9_tries_60 : decode cX9_tries 60 = .ok (.iload_n 2, 1) := by decide +kernel
theorem dX9_tries_61 : decode cX9_tries 61 = .ok (.aload_n 0, 1) := by decide +kernel
theorem dX9_tries_62 : decode cX9_tries 62 = .ok (.getfield 322, 3) := by decide +kernel
theorem dX9_tries_65 : decode cX9_tries 65 = .ok (.if_icmp .ge 159, 3) := by decide +kernel
theorem dX9_tries_68 : decode cX9_tries 68 = .ok (.aload_n 0, 1) := by decide +kernel
theorem dX9_tries_69 : decode cX9_tries 69 = .ok (.getfield 154, 3) := by decide +kernel
theorem dX9_tries_72 : decode cX9_tries 72 = .ok (.iload_n 2, 1) := by decide +kernel
theorem dX9_tries_73 : decode cX9_tries 73 = .ok (.iaload, 1) := by decide +kernel
theorem dX9_tries_74 : decode cX9_tries 74 = .ok (.istore_n 3, 1) := by decide +kernel
theorem dX9_tries_75 : decode cX9_tries 75 = .ok (.aload_n 0, 1) := by decide +kernel
theorem dX9_tries_76 : decode cX9_tries 76 = .ok (.getfield 100, 3) := by decide +kernel
theorem dX9_tries_79 : decode cX9_tries 79 = .ok (.iload_n 3, 1) := by decide +kernel
theorem dX9_tries_80 : decode cX9_tries 80 = .ok (.iaload, 1) := by decide +kernel
theorem dX9_tries_81 : decode cX9_tries 81 = .ok (.istore 4, 2) := by decide +kernel
theorem dX9_tries_83 : decode cX9_tries 83 = .ok (.aload_n 0, 1) := by decide +kernel
theorem dX9_tries_84 : decode cX9_tries 84 = .ok (.getfield 160, 3) := by decide +kernel
theorem dX9_tries_87 : decode cX9_tries 87 = .ok (.iload_n 2, 1) := by decide +kernel
theorem dX9_tries_88 : decode cX9_tries 88 = .ok (.iaload, 1) := by decide +kernel
theorem dX9_tries_89 : decode cX9_tries 89 = .ok (.aload_n 0, 1) := by decide +kernel
theorem dX9_tries_90 : decode cX9_tries 90 = .ok (.getfield 294, 3) := by decide +kernel
theorem dX9_tries_93 : decode cX9_tries 93 = .ok (.if_icmp .ge 106, 3) := by decide +kernel
theorem dX9_tries_96 : decode cX9_tries 96 = .ok (.aload_n 0, 1) := by decide +kernel
theorem dX9_tries_97 : decode cX9_tries 97 = .ok (.getfield 160, 3) := by decide +kernel
theorem dX9_tries_100 : decode cX9_tries 100 = .ok (.iload_n 2, 1) := by decide +kernel
theorem dX9_tries_101 : decode cX9_tries 101 = .ok (.iaload, 1) := by decide +kernel
theorem dX9_tries_102 : decode cX9_tries 102 = .ok (.istore 5, 2) := by decide +kernel
theorem dX9_tries_104 : decode cX9_tries 104 = .ok (.aload_n 0, 1) := by decide +kernel
theorem dX9_tries_105 : decode cX9_tries 105 = .ok (.getfield 133, 3) := by decide +kernel
theorem dX9_tries_108 : decode cX9_tries 108 = .ok (.iload 5, 2) := by decide +kernel
theorem dX9_tries_110 : decode cX9_tries 110 = .ok (.iaload, 1) := by decide +kernel
theorem dX9_tries_111 : decode cX9_tries 111 = .ok (.istore 6, 2) := by decide +kernel
theorem dX9_tries_113 : decode cX9_tries 113 = .ok (.aload_n 0, 1) := by decide +kernel
theorem dX9_tries_114 : decode cX9_tries 114 = .ok (.getfield 166, 3) := by decide +kernel
theorem dX9_tries_117 : decode cX9_tries 117 = .ok (.iload 5, 2) := by decide +kernel
theorem dX9_tries_119 : decode cX9_tries 119 = .ok (.dup2, 1) := by decide +kernel
theorem dX9_tries_120 : decode cX9_tries 120 = .ok (.iaload, 1) := by decide +kernel
theorem dX9_tries_121 : decode cX9_tries 121 = .ok (.iconst 2, 1) := by decide +kernel
theorem dX9_tries_122 : decode cX9_tries 122 = .ok (.aload_n 0, 1) := by decide +kernel
theorem dX9_tries_123 : decode cX9_tries 123 = .ok (.getfield 151, 3) := by decide +kernel
theorem dX9_tries_126 : decode cX9_tries 126 = .ok (.bipush 12, 2) := by decide +kernel
theorem dX9_tries_128 : decode cX9_tries 128 = .ok (.iload 6, 2) := by decide +kernel
theorem dX9_tries_130 : decode cX9_tries 130 = .ok (.imul, 1) := by decide +kernel
theorem dX9_tries_131 : decode cX9_tries 131 = .ok (.iload_n 3, 1) := by decide +kernel
theorem dX9_tries_132 : decode cX9_tries 132 = .ok (.iadd, 1) := by decide +kernel
theorem dX9_tries_133 : decode cX9_tries 133 = .ok (.iaload, 1) := by decide +kernel
theorem dX9_tries_134 : decode cX9_tries 134 = .ok (.imul, 1) := by decide +kernel
theorem dX9_tries_135 : decode cX9_tries 135 = .ok (.isub, 1) := by decide +kernel
theorem dX9_tries_136 : decode cX9_tries 136 = .ok (.iastore, 1) := by decide +kernel
theorem dX9_tries_137 : decode cX9_tries 137 = .ok (.aload_n 0, 1) := by decide +kernel
theorem dX9_tries_138 : decode cX9_tries 138 = .ok (.getfield 166, 3) := by decide +kernel
theorem dX9_tries_141 : decode cX9_tries 141 = .ok (.iload 5, 2) := by decide +kernel
theorem dX9_tries_143 : decode cX9_tries 143 = .ok (.iaload, 1) := by decide +kernel
theorem dX9_tries_144 : decode cX9_tries 144 = .ok (.ifCond .ge 5, 3) := by decide +kernel
theorem dX9_tries_147 : decode cX9_tries 147 = .ok (.iconst (-1), 1) := by decide +kernel
theorem dX9_tries_148 : decode cX9_tries 148 = .ok (.ireturn, 1) := by decide +kernel
theorem dX9_tries_149 : decode cX9_tries 149 = .ok (.aload_n 0, 1) := by decide +kernel
theorem dX9_tries_150 : decode cX9_tries 150 = .ok (.getfield 136, 3) := by decide +kernel
theorem dX9_tries_153 : decode cX9_tries 153 = .ok (.iload 5, 2) := by decide +kernel
theorem dX9_tries_155 : decode cX9_tries 155 = .ok (.iaload, 1) := by decide +kernel
theorem dX9_tries_156 : decode cX9_tries 156 = .ok (.aload_n 0, 1) := by decide +kernel
theorem dX9_tries_157 : decode cX9_tries 157 = .ok (.getfield 169, 3) := by decide +kernel
theorem dX9_tries_160 : decode cX9_tries 160 = .ok (.iload 6, 2) := by decide +kernel
theorem dX9_tries_162 : decode cX9_tries 162 = .ok (.iaload, 1) := by decide +kernel
theorem dX9_tries_163 : decode cX9_tries 163 = .ok (.aload_n 0, 1) := by decide +kernel
theorem dX9_tries_164 : decode cX9_tries 164 = .ok (.getfield 97, 3) := by decide +kernel
theorem dX9_tries_167 : decode cX9_tries 167 = .ok (.iload_n 3, 1) := by decide +kernel
theorem dX9_tries_168 : decode cX9_tries 168 = .ok (.iaload, 1) := by decide +kernel
theorem dX9_tries_169 : decode cX9_tries 169 = .ok (.iload 4, 2) := by decide +kernel
theorem dX9_tries_171 : decode cX9_tries 171 = .ok (.isub, 1) := by decide +kernel
theorem dX9_tries_172 : decode cX9_tries 172 = .ok (.invokestatic 325, 3) := by decide +kernel
theorem dX9_tries_175 : decode cX9_tries 175 = .ok (.invokestatic 325, 3) := by decide +kernel
theorem dX9_tries_178 : decode cX9_tries 178 = .ok (.istore 7, 2) := by decide +kernel
theorem dX9_tries_180 : decode cX9_tries 180 = .ok (.aload_n 0, 1) := by decide +kernel
theorem dX9_tries_181 : decode cX9_tries 181 = .ok (.getfield 169, 3) := by decide +kernel
theorem dX9_tries_184 : decode cX9_tries 184 = .ok (.iload 6, 2) := by decide +kernel
theorem dX9_tries_186 : decode cX9_tries 186 = .ok (.dup2, 1) := by decide +kernel
theorem dX9_tries_187 : decode cX9_tries 187 = .ok (.iaload, 1) := by decide +kernel
theorem dX9_tries_188 : decode cX9_tries 188 = .ok (.iload 7, 2) := by decide +kernel
theorem dX9_tries_190 : decode cX9_tries 190 = .ok (.isub, 1) := by decide +kernel
theorem dX9_tries_191 : decode cX9_tries 191 = .ok (.iastore, 1) := by decide +kernel
theorem dX9_tries_192 : decode cX9_tries 192 = .ok (.iload 4, 2) := by decide +kernel
theorem dX9_tries_194 : decode cX9_tries 194 = .ok (.iload 7, 2) := by decide +kernel
theorem dX9_tries_196 : decode cX9_tries 196 = .ok (.iadd, 1) := by decide +kernel
theorem dX9_tries_197 : decode cX9_tries 197 = .ok (.istore 4, 2) := by decide +kernel
theorem dX9_tries_199 : decode cX9_tries 199 = .ok (.iload_n 1, 1) := by decide +kernel
theorem dX9_tries_200 : decode cX9_tries 200 = .ok (.iload 4, 2) := by decide +kernel
theorem dX9_tries_202 : decode cX9_tries 202 = .ok (.aload_n 0, 1) := by decide +kernel
theorem dX9_tries_203 : decode cX9_tries 203 = .ok (.getfield 157, 3) := by decide +kernel
theorem dX9_tries_206 : decode cX9_tries 206 = .ok (.iload_n 2, 1) := by decide +kernel
theorem dX9_tries_207 : decode cX9_tries 207 = .ok (.iaload, 1) := by decide +kernel
theorem dX9_tries_208 : decode cX9_tries 208 = .ok (.if_icmp .ge 7, 3) := by decide +kernel
theorem dX9_tries_211 : decode cX9_tries 211 = .ok (.iconst 1, 1) := by decide +kernel
theorem dX9_tries_212 : decode cX9_tries 212 = .ok (.goto 4, 3) := by decide +kernel
theorem dX9_tries_215 : decode cX9_tries 215 = .ok (.iconst 0, 1) := by decide +kernel
theorem dX9_tries_216 : decode cX9_tries 216 = .ok (.iadd, 1) := by decide +kernel
theorem dX9_tries_217 : decode cX9_tries 217 = .ok (.istore_n 1, 1) := by decide +kernel
theorem dX9_tries_218 : decode cX9_tries 218 = .ok (.iinc 2 1, 3) := by decide +kernel
theorem dX9_tries_221 : decode cX9_tries 221 = .ok (.goto (-161), 3) := by decide +kernel
theorem dX9_tries_224 : decode cX9_tries 224 = .ok (.iload_n 1, 1) := by decide +kernel
theorem dX9_tries_225 : decode cX9_tries 225 = .ok (.ireturn, 1) := by decide +kernel
theorem dX9_milesSent_0 : decode cX9_milesSent 0 = .ok (.iconst 0, 1) := by decide +kernel
theorem dX9_milesSent_1 : decode cX9_milesSent 1 = .ok (.istore_n 1, 1) := by decide +kernel
theorem dX9_milesSent_2 : decode cX9_milesSent 2 = .ok (.iconst 0, 1) := by decide +kernel
theorem dX9_milesSent_3 : decode cX9_milesSent 3 = .ok (.istore_n 2, 1) := by decide +kernel
theorem dX9_milesSent_4 : decode cX9_milesSent 4 = .ok (.iload_n 2, 1) := by decide +kernel
theorem dX9_milesSent_5 : decode cX9_milesSent 5 = .ok (.aload_n 0, 1) := by decide +kernel
theorem dX9_milesSent_6 : decode cX9_milesSent 6 = .ok (.getfield 322, 3) := by decide +kernel
theorem dX9_milesSent_9 : decode cX9_milesSent 9 = .ok (.if_icmp .ge 57, 3) := by decide +kernel
theorem dX9_milesSent_12 : decode cX9_milesSent 12 = .ok (.iload_n 1, 1) := by decide +kernel
theorem dX9_milesSent_13 : decode cX9_milesSent 13 = .ok (.aload_n 0, 1) := by decide +kernel
theorem dX9_milesSent_14 : decode cX9_milesSent 14 = .ok (.getfield 160, 3) := by decide +kernel
theorem dX9_milesSent_17 : decode cX9_milesSent 17 = .ok (.iload_n 2, 1) := by decide +kernel
theorem dX9_milesSent_18 : decode cX9_milesSent 18 = .ok (.iaload, 1) := by decide +kernel
theorem dX9_milesSent_19 : decode cX9_milesSent 19 = .ok (.aload_n 0, 1) := by decide +kernel
theorem dX9_milesSent_20 : decode cX9_milesSent 20 = .ok (.getfield 294, 3) := by decide +kernel
theorem dX9_milesSent_23 : decode cX9_milesSent 23 = .ok (.if_icmp .ge 34, 3) := by decide +kernel
theorem dX9_milesSent_26 : decode cX9_milesSent 26 = .ok (.iconst 2, 1) := by decide +kernel
theorem dX9_milesSent_27 : decode cX9_milesSent 27 = .ok (.aload_n 0, 1) := by decide +kernel
theorem dX9_milesSent_28 : decode cX9_milesSent 28 = .ok (.getfield 151, 3) := by decide +kernel
theorem dX9_milesSent_31 : decode cX9_milesSent 31 = .ok (.bipush 12, 2) := by decide +kernel
theorem dX9_milesSent_33 : decode cX9_milesSent 33 = .ok (.aload_n 0, 1) := by decide +kernel
theorem dX9_milesSent_34 : decode cX9_milesSent 34 = .ok (.getfield 133, 3) := by decide +kernel
theorem dX9_milesSent_37 : decode cX9_milesSent 37 = .ok (.aload_n 0, 1) := by decide +kernel
theorem dX9_milesSent_38 : decode cX9_milesSent 38 = .ok (.getfield 160, 3) := by decide +kernel
theorem dX9_milesSent_41 : decode cX9_milesSent 41 = .ok (.iload_n 2, 1) := by decide +kernel
theorem dX9_milesSent_42 : decode cX9_milesSent 42 = .ok (.iaload, 1) := by decide +kernel
theorem dX9_milesSent_43 : decode cX9_milesSent 43 = .ok (.iaload, 1) := by decide +kernel
theorem dX9_milesSent_44 : decode cX9_milesSent 44 = .ok (.imul, 1) := by decide +kernel
theorem dX9_milesSent_45 : decode cX9_milesSent 45 = .ok (.aload_n 0, 1) := by decide +kernel
theorem dX9_milesSent_46 : decode cX9_milesSent 46 = .ok (.getfield 154, 3) := by decide +kernel
theorem dX9_milesSent_49 : decode cX9_milesSent 49 = .ok (.iload_n 2, 1) := by decide +kernel
theorem dX9_milesSent_50 : decode cX9_milesSent 50 = .ok (.iaload, 1) := by decide +kernel
theorem dX9_milesSent_51 : decode cX9_milesSent 51 = .ok (.iadd, 1) := by decide +kernel
theorem dX9_milesSent_52 : decode cX9_milesSent 52 = .ok (.iaload, 1) := by decide +kernel
theorem dX9_milesSent_53 : decode cX9_milesSent 53 = .ok (.imul, 1) := by decide +kernel
theorem dX9_milesSent_54 : decode cX9_milesSent 54 = .ok (.goto 4, 3) := by decide +kernel
theorem dX9_milesSent_57 : decode cX9_milesSent 57 = .ok (.iconst 0, 1) := by decide +kernel
theorem dX9_milesSent_58 : decode cX9_milesSent 58 = .ok (.iadd, 1) := by decide +kernel
theorem dX9_milesSent_59 : decode cX9_milesSent 59 = .ok (.istore_n 1, 1) := by decide +kernel
theorem dX9_milesSent_60 : decode cX9_milesSent 60 = .ok (.iinc 2 1, 3) := by decide +kernel
theorem dX9_milesSent_63 : decode cX9_milesSent 63 = .ok (.goto (-59), 3) := by decide +kernel
theorem dX9_milesSent_66 : decode cX9_milesSent 66 = .ok (.iload_n 1, 1) := by decide +kernel
theorem dX9_milesSent_67 : decode cX9_milesSent 67 = .ok (.ireturn, 1) := by decide +kernel
theorem dX9_findPlan_0 : decode cX9_findPlan 0 = .ok (.aload_n 0, 1) := by decide +kernel
theorem dX9_findPlan_1 : decode cX9_findPlan 1 = .ok (.iload_n 1, 1) := by decide +kernel
theorem dX9_findPlan_2 : decode cX9_findPlan 2 = .ok (.invokevirtual 328, 3) := by decide +kernel
theorem dX9_findPlan_5 : decode cX9_findPlan 5 = .ok (.iconst 1, 1) := by decide +kernel
theorem dX9_findPlan_6 : decode cX9_findPlan 6 = .ok (.istore_n 2, 1) := by decide +kernel
theorem dX9_findPlan_7 : decode cX9_findPlan 7 = .ok (.iconst 0, 1) := by decide +kernel
theorem dX9_findPlan_8 : decode cX9_findPlan 8 = .ok (.istore_n 3, 1) := by decide +kernel
theorem dX9_findPlan_9 : decode cX9_findPlan 9 = .ok (.iload_n 3, 1) := by decide +kernel
theorem dX9_findPlan_10 : decode cX9_findPlan 10 = .ok (.aload_n 0, 1) := by decide +kernel
theorem dX9_findPlan_11 : decode cX9_findPlan 11 = .ok (.getfield 322, 3) := by decide +kernel
theorem dX9_findPlan_14 : decode cX9_findPlan 14 = .ok (.if_icmp .ge 18, 3) := by decide +kernel
theorem dX9_findPlan_17 : decode cX9_findPlan 17 = .ok (.iload_n 2, 1) := by decide +kernel
theorem dX9_findPlan_18 : decode cX9_findPlan 18 = .ok (.aload_n 0, 1) := by decide +kernel
theorem dX9_findPlan_19 : decode cX9_findPlan 19 = .ok (.getfield 294, 3) := by decide +kernel
theorem dX9_findPlan_22 : decode cX9_findPlan 22 = .ok (.iconst 1, 1) := by decide +kernel
theorem dX9_findPlan_23 : decode cX9_findPlan 23 = .ok (.iadd, 1) := by decide +kernel
theorem dX9_findPlan_24 : decode cX9_findPlan 24 = .ok (.imul, 1) := by decide +kernel
theorem dX9_findPlan_25 : decode cX9_findPlan 25 = .ok (.istore_n 2, 1) := by decide +kernel
theorem dX9_findPlan_26 : decode cX9_findPlan 26 = .ok (.iinc 3 1, 3) := by decide +kernel
theorem dX9_findPlan_29 : decode cX9_findPlan 29 = .ok (.goto (-20), 3) := by decide +kernel
theorem dX9_findPlan_32 : decode cX9_findPlan 32 = .ok (.aload_n 0, 1) := by decide +kernel
theorem dX9_findPlan_33 : decode cX9_findPlan 33 = .ok (.iconst (-1), 1) := by decide +kernel
theorem dX9_findPlan_34 : decode cX9_findPlan 34 = .ok (.putfield 331, 3) := by decide +kernel
theorem dX9_findPlan_37 : decode cX9_findPlan 37 = .ok (.iconst 0, 1) := by decide +kernel
theorem dX9_findPlan_38 : decode cX9_findPlan 38 = .ok (.istore_n 3, 1) := by decide +kernel
theorem dX9_findPlan_39 : decode cX9_findPlan 39 = .ok (.iload_n 3, 1) := by decide +kernel
theorem dX9_findPlan_40 : decode cX9_findPlan 40 = .ok (.iload_n 2, 1) := by decide +kernel
theorem dX9_findPlan_41 : decode cX9_findPlan 41 = .ok (.if_icmp .ge 162, 3) := by decide +kernel
theorem dX9_findPlan_44 : decode cX9_findPlan 44 = .ok (.iload_n 3, 1) := by decide +kernel
theorem dX9_findPlan_45 : decode cX9_findPlan 45 = .ok (.istore 4, 2) := by decide +kernel
theorem dX9_findPlan_47 : decode cX9_findPlan 47 = .ok (.aload_n 0, 1) := by decide +kernel
theorem dX9_findPlan_48 : decode cX9_findPlan 48 = .ok (.getfield 322, 3) := by decide +kernel
theorem dX9_findPlan_51 : decode cX9_findPlan 51 = .ok (.iconst 1, 1) := by decide +kernel
theorem dX9_findPlan_52 : decode cX9_findPlan 52 = .ok (.isub, 1) := by decide +kernel
theorem dX9_findPlan_53 : decode cX9_findPlan 53 = .ok (.istore 5, 2) := by decide +kernel
theorem dX9_findPlan_55 : decode cX9_findPlan 55 = .ok (.iload 5, 2) := by decide +kernel
theorem dX9_findPlan_57 : decode cX9_findPlan 57 = .ok (.ifCond .lt 36, 3) := by decide +kernel
theorem dX9_findPlan_60 : decode cX9_findPlan 60 = .ok (.aload_n 0, 1) := by decide +kernel
theorem dX9_findPlan_61 : decode cX9_findPlan 61 = .ok (.getfield 160, 3) := by decide +kernel
theorem dX9_findPlan_64 : decode cX9_findPlan 64 = .ok (.iload 5, 2) := by decide +kernel
theorem dX9_findPlan_66 : decode cX9_findPlan 66 = .ok (.iload 4, 2) := by decide +kernel
theorem dX9_findPlan_68 : decode cX9_findPlan 68 = .ok (.aload_n 0, 1) := by decide +kernel
theorem dX9_findPlan_69 : decode cX9_findPlan 69 = .ok (.getfield 294, 3) := by decide +kernel
theorem dX9_findPlan_72 : decode cX9_findPlan 72 = .ok (.iconst 1, 1) := by decide +kernel
theorem dX9_findPlan_73 : decode cX9_findPlan 73 = .ok (.iadd, 1) := by decide +kernel
theorem dX9_findPlan_74 : decode cX9_findPlan 74 = .ok (.irem, 1) := by decide +kernel
theorem dX9_findPlan_75 : decode cX9_findPlan 75 = .ok (.iastore, 1) := by decide +kernel
theorem dX9_findPlan_76 : decode cX9_findPlan 76 = .ok (.iload 4, 2) := by decide +kernel
theorem dX9_findPlan_78 : decode cX9_findPlan 78 = .ok (.aload_n 0, 1) := by decide +kernel
theorem dX9_findPlan_79 : decode cX9_findPlan 79 = .ok (.getfield 294, 3) := by decide +kernel
theorem dX9_findPlan_82 : decode cX9_findPlan 82 = .ok (.iconst 1, 1) := by decide +kernel
theorem dX9_findPlan_83 : decode cX9_findPlan 83 = .ok (.iadd, 1) := by decide +kernel
theorem dX9_findPlan_84 : decode cX9_findPlan 84 = .ok (.idiv, 1) := by decide +kernel
theorem dX9_findPlan_85 : decode cX9_findPlan 85 = .ok (.istore 4, 2) := by decide +kernel
theorem dX9_findPlan_87 : decode cX9_findPlan 87 = .ok (.iinc 5 (-1), 3) := by decide +kernel
theorem dX9_findPlan_90 : decode cX9_findPlan 90 = .ok (.goto (-35), 3) := by decide +kernel
theorem dX9_findPlan_93 : decode cX9_findPlan 93 = .ok (.aload_n 0, 1) := by decide +kernel
theorem dX9_findPlan_94 : decode cX9_findPlan 94 = .ok (.invokevirtual 334, 3) := by decide +kernel
theorem dX9_findPlan_97 : decode cX9_findPlan 97 = .ok (.istore 5, 2) := by decide +kernel
theorem dX9_findPlan_99 : decode cX9_findPlan 99 = .ok (.iload 5, 2) := by decide +kernel
theorem dX9_findPlan_101 : decode cX9_findPlan 101 = .ok (.ifCond .ge 7, 3) := by decide +kernel
theorem dX9_findPlan_104 : decode cX9_findPlan 104 = .ok (.iconst 0, 1) := by decide +kernel
theorem dX9_findPlan_105 : decode cX9_findPlan 105 = .ok (.goto 7, 3) := by decide +kernel
theorem dX9_findPlan_108 : decode cX9_findPlan 108 = .ok (.aload_n 0, 1) := by decide +kernel
theorem dX9_findPlan_109 : decode cX9_findPlan 109 = .ok (.invokevirtual 337, 3) := by decide +kernel
theorem dX9_findPlan_112 : decode cX9_findPlan 112 = .ok (.istore 6, 2) := by decide +kernel
theorem dX9_findPlan_114 : decode cX9_findPlan 114 = .ok (.iload 5, 2) := by decide +kernel
theorem dX9_findPlan_116 : decode cX9_findPlan 116 = .ok (.ifCond .lt 81, 3) := by decide +kernel
theorem dX9_findPlan_119 : decode cX9_findPlan 119 = .ok (.aload_n 0, 1) := by decide +kernel
theorem dX9_findPlan_120 : decode cX9_findPlan 120 = .ok (.getfield 331, 3) := by decide +kernel
theorem dX9_findPlan_123 : decode cX9_findPlan 123 = .ok (.ifCond .lt 30, 3) := by decide +kernel
theorem dX9_findPlan_126 : decode cX9_findPlan 126 = .ok (.iload 5, 2) := by decide +kernel
theorem dX9_findPlan_128 : decode cX9_findPlan 128 = .ok (.aload_n 0, 1) := by decide +kernel
theorem dX9_findPlan_129 : decode cX9_findPlan 129 = .ok (.getfield 331, 3) := by decide +kernel
theorem dX9_findPlan_132 : decode cX9_findPlan 132 = .ok (.if_icmp .lt 21, 3) := by decide +kernel
theorem dX9_findPlan_135 : decode cX9_findPlan 135 = .ok (.iload 5, 2) := by decide +kernel
theorem dX9_findPlan_137 : decode cX9_findPlan 137 = .ok (.aload_n 0, 1) := by decide +kernel
theorem dX9_findPlan_138 : decode cX9_findPlan 138 = .ok (.getfield 331, 3) := by decide +kernel
theorem dX9_findPlan_141 : decode cX9_findPlan 141 = .ok (.if_icmp .ne 56, 3) := by decide +kernel
theorem dX9_findPlan_144 : decode cX9_findPlan 144 = .ok (.iload 6, 2) := by decide +kernel
theorem dX9_findPlan_146 : decode cX9_findPlan 146 = .ok (.aload_n 0, 1) := by decide +kernel
theorem dX9_findPlan_147 : decode cX9_findPlan 147 = .ok (.getfield 340, 3) := by decide +kernel
theorem dX9_findPlan_150 : decode cX9_findPlan 150 = .ok (.if_icmp .ge 47, 3) := by decide +kernel
theorem dX9_findPlan_153 : decode cX9_findPlan 153 = .ok (.aload_n 0, 1) := by decide +kernel
theorem dX9_findPlan_154 : decode cX9_findPlan 154 = .ok (.iload 5, 2) := by decide +kernel
theorem dX9_findPlan_156 : decode cX9_findPlan 156 = .ok (.putfield 331, 3) := by decide +kernel
theorem dX9_findPlan_159 : decode cX9_findPlan 159 = .ok (.aload_n 0, 1) := by decide +kernel
theorem dX9_findPlan_160 : decode cX9_findPlan 160 = .ok (.iload 6, 2) := by decide +kernel
theorem dX9_findPlan_162 : decode cX9_findPlan 162 = .ok (.putfield 340, 3) := by decide +kernel
theorem dX9_findPlan_165 : decode cX9_findPlan 165 = .ok (.iconst 0, 1) := by decide +kernel
theorem dX9_findPlan_166 : decode cX9_findPlan 166 = .ok (.istore 7, 2) := by decide +kernel
theorem dX9_findPlan_168 : decode cX9_findPlan 168 = .ok (.iload 7, 2) := by decide +kernel
theorem dX9_findPlan_170 : decode cX9_findPlan 170 = .ok (.aload_n 0, 1) := by decide +kernel
theorem dX9_findPlan_171 : decode cX9_findPlan 171 = .ok (.getfield 322, 3) := by decide +kernel
theorem dX9_findPlan_174 : decode cX9_findPlan 174 = .ok (.if_icmp .ge 23, 3) := by decide +kernel
theorem dX9_findPlan_177 : decode cX9_findPlan 177 = .ok (.aload_n 0, 1) := by decide +kernel
theorem dX9_findPlan_178 : decode cX9_findPlan 178 = .ok (.getfield 163, 3) := by decide +kernel
theorem dX9_findPlan_181 : decode cX9_findPlan 181 = .ok (.iload 7, 2) := by decide +kernel
theorem dX9_findPlan_183 : decode cX9_findPlan 183 = .ok (.aload_n 0, 1) := by decide +kernel
theorem dX9_findPlan_184 : decode cX9_findPlan 184 = .ok (.getfield 160, 3) := by decide +kernel
theorem dX9_findPlan_187 : decode cX9_findPlan 187 = .ok (.iload 7, 2) := by decide +kernel
theorem dX9_findPlan_189 : decode cX9_findPlan 189 = .ok (.iaload, 1) := by decide +kernel
theorem dX9_findPlan_190 : decode cX9_findPlan 190 = .ok (.iastore, 1) := by decide +kernel
theorem dX9_findPlan_191 : decode cX9_findPlan 191 = .ok (.iinc 7 1, 3) := by decide +kernel
theorem dX9_findPlan_194 : decode cX9_findPlan 194 = .ok (.goto (-26), 3) := by decide +kernel
theorem dX9_findPlan_197 : decode cX9_findPlan 197 = .ok (.iinc 3 1, 3) := by decide +kernel
theorem dX9_findPlan_200 : decode cX9_findPlan 200 = .ok (.goto (-161), 3) := by decide +kernel
theorem dX9_findPlan_203 : decode cX9_findPlan 203 = .ok (.return_, 1) := by decide +kernel
theorem dX9_plan_0 : decode cX9_plan 0 = .ok (.aload_n 0, 1) := by decide +kernel
theorem dX9_plan_1 : decode cX9_plan 1 = .ok (.iconst 0, 1) := by decide +kernel
theorem dX9_plan_2 : decode cX9_plan 2 = .ok (.putfield 1, 3) := by decide +kernel
theorem dX9_plan_5 : decode cX9_plan 5 = .ok (.aload_n 0, 1) := by decide +kernel
theorem dX9_plan_6 : decode cX9_plan 6 = .ok (.aload_n 0, 1) := by decide +kernel
theorem dX9_plan_7 : decode cX9_plan 7 = .ok (.getfield 312, 3) := by decide +kernel
theorem dX9_plan_10 : decode cX9_plan 10 = .ok (.iconst 1, 1) := by decide +kernel
theorem dX9_plan_11 : decode cX9_plan 11 = .ok (.iadd, 1) := by decide +kernel
theorem dX9_plan_12 : decode cX9_plan 12 = .ok (.invokevirtual 343, 3) := by decide +kernel
theorem dX9_plan_15 : decode cX9_plan 15 = .ok (.iload_n 1, 1) := by decide +kernel
theorem dX9_plan_16 : decode cX9_plan 16 = .ok (.ifCond .ne 10, 3) := by decide +kernel
theorem dX9_plan_19 : decode cX9_plan 19 = .ok (.aload_n 0, 1) := by decide +kernel
theorem dX9_plan_20 : decode cX9_plan 20 = .ok (.getfield 319, 3) := by decide +kernel
theorem dX9_plan_23 : decode cX9_plan 23 = .ok (.goto 28, 3) := by decide +kernel
theorem dX9_plan_26 : decode cX9_plan 26 = .ok (.iload_n 1, 1) := by decide +kernel
theorem dX9_plan_27 : decode cX9_plan 27 = .ok (.iconst 1, 1) := by decide +kernel
theorem dX9_plan_28 : decode cX9_plan 28 = .ok (.if_icmp .ne 10, 3) := by decide +kernel
theorem dX9_plan_31 : decode cX9_plan 31 = .ok (.aload_n 0, 1) := by decide +kernel
theorem dX9_plan_32 : decode cX9_plan 32 = .ok (.getfield 331, 3) := by decide +kernel
theorem dX9_plan_35 : decode cX9_plan 35 = .ok (.goto 16, 3) := by decide +kernel
theorem dX9_plan_38 : decode cX9_plan 38 = .ok (.iload_n 1, 1) := by decide +kernel
theorem dX9_plan_39 : decode cX9_plan 39 = .ok (.iconst 2, 1) := by decide +kernel
theorem dX9_plan_40 : decode cX9_plan 40 = .ok (.if_icmp .ne 10, 3) := by decide +kernel
theorem dX9_plan_43 : decode cX9_plan 43 = .ok (.aload_n 0, 1) := by decide +kernel
theorem dX9_plan_44 : decode cX9_plan 44 = .ok (.getfield 340, 3) := by decide +kernel
theorem dX9_plan_47 : decode cX9_plan 47 = .ok (.goto 4, 3) := by decide +kernel
theorem dX9_plan_50 : decode cX9_plan 50 = .ok (.iconst (-1), 1) := by decide +kernel
theorem dX9_plan_51 : decode cX9_plan 51 = .ok (.ireturn, 1) := by decide +kernel
theorem dX9_planned_0 : decode cX9_planned 0 = .ok (.aload_n 0, 1) := by decide +kernel
theorem dX9_planned_1 : decode cX9_planned 1 = .ok (.iconst 0, 1) := by decide +kernel
theorem dX9_planned_2 : decode cX9_planned 2 = .ok (.putfield 1, 3) := by decide +kernel
theorem dX9_planned_5 : decode cX9_planned 5 = .ok (.aload_n 0, 1) := by decide +kernel
theorem dX9_planned_6 : decode cX9_planned 6 = .ok (.aload_n 0, 1) := by decide +kernel
theorem dX9_planned_7 : decode cX9_planned 7 = .ok (.getfield 312, 3) := by decide +kernel
theorem dX9_planned_10 : decode cX9_planned 10 = .ok (.iconst 1, 1) := by decide +kernel
theorem dX9_planned_11 : decode cX9_planned 11 = .ok (.iadd, 1) := by decide +kernel
theorem dX9_planned_12 : decode cX9_planned 12 = .ok (.invokevirtual 343, 3) := by decide +kernel
theorem dX9_planned_15 : decode cX9_planned 15 = .ok (.iconst (-1), 1) := by decide +kernel
theorem dX9_planned_16 : decode cX9_planned 16 = .ok (.istore_n 2, 1) := by decide +kernel
theorem dX9_planned_17 : decode cX9_planned 17 = .ok (.iconst 0, 1) := by decide +kernel
theorem dX9_planned_18 : decode cX9_planned 18 = .ok (.istore_n 3, 1) := by decide +kernel
theorem dX9_planned_19 : decode cX9_planned 19 = .ok (.iload_n 3, 1) := by decide +kernel
theorem dX9_planned_20 : decode cX9_planned 20 = .ok (.aload_n 0, 1) := by decide +kernel
theorem dX9_planned_21 : decode cX9_planned 21 = .ok (.getfield 322, 3) := by decide +kernel
theorem dX9_planned_24 : decode cX9_planned 24 = .ok (.if_icmp .ge 43, 3) := by decide +kernel
theorem dX9_planned_27 : decode cX9_planned 27 = .ok (.aload_n 0, 1) := by decide +kernel
theorem dX9_planned_28 : decode cX9_planned 28 = .ok (.getfield 154, 3) := by decide +kernel
theorem dX9_planned_31 : decode cX9_planned 31 = .ok (.iload_n 3, 1) := by decide +kernel
theorem dX9_planned_32 : decode cX9_planned 32 = .ok (.iaload, 1) := by decide +kernel
theorem dX9_planned_33 : decode cX9_planned 33 = .ok (.iload_n 1, 1) := by decide +kernel
theorem dX9_planned_34 : decode cX9_planned 34 = .ok (.if_icmp .ne 25, 3) := by decide +kernel
theorem dX9_planned_37 : decode cX9_planned 37 = .ok (.aload_n 0, 1) := by decide +kernel
theorem dX9_planned_38 : decode cX9_planned 38 = .ok (.getfield 163, 3) := by decide +kernel
theorem dX9_planned_41 : decode cX9_planned 41 = .ok (.iload_n 3, 1) := by decide +kernel
theorem dX9_planned_42 : decode cX9_planned 42 = .ok (.iaload, 1) := by decide +kernel
theorem dX9_planned_43 : decode cX9_planned 43 = .ok (.aload_n 0, 1) := by decide +kernel
theorem dX9_planned_44 : decode cX9_planned 44 = .ok (.getfield 294, 3) := by decide +kernel
theorem dX9_planned_47 : decode cX9_planned 47 = .ok (.if_icmp .ge 12, 3) := by decide +kernel
theorem dX9_planned_50 : decode cX9_planned 50 = .ok (.aload_n 0, 1) := by decide +kernel
theorem dX9_planned_51 : decode cX9_planned 51 = .ok (.getfield 163, 3) := by decide +kernel
theorem dX9_planned_54 : decode cX9_planned 54 = .ok (.iload_n 3, 1) := by decide +kernel
theorem dX9_planned_55 : decode cX9_planned 55 = .ok (.iaload, 1) := by decide +kernel
theorem dX9_planned_56 : decode cX9_planned 56 = .ok (.goto 4, 3) := by decide +kernel
theorem dX9_planned_59 : decode cX9_planned 59 = .ok (.iload_n 2, 1) := by decide +kernel
theorem dX9_planned_60 : decode cX9_planned 60 = .ok (.istore_n 2, 1) := by decide +kernel
theorem dX9_planned_61 : decode cX9_planned 61 = .ok (.iinc 3 1, 3) := by decide +kernel
theorem dX9_planned_64 : decode cX9_planned 64 = .ok (.goto (-45), 3) := by decide +kernel
theorem dX9_planned_67 : decode cX9_planned 67 = .ok (.iload_n 2, 1) := by decide +kernel
theorem dX9_planned_68 : decode cX9_planned 68 = .ok (.ireturn, 1) := by decide +kernel
theorem dX9_springsGrow_0 : decode cX9_springsGrow 0 = .ok (.iconst 0, 1) := by decide +kernel
theorem dX9_springsGrow_1 : decode cX9_springsGrow 1 = .ok (.istore_n 1, 1) := by decide +kernel
theorem dX9_springsGrow_2 : decode cX9_springsGrow 2 = .ok (.iload_n 1, 1) := by decide +kernel
theorem dX9_springsGrow_3 : decode cX9_springsGrow 3 = .ok (.aload_n 0, 1) := by decide +kernel
theorem dX9_springsGrow_4 : decode cX9_springsGrow 4 = .ok (.getfield 291, 3) := by decide +kernel
theorem dX9_springsGrow_7 : decode cX9_springsGrow 7 = .ok (.if_icmp .ge 70, 3) := by decide +kernel
theorem dX9_springsGrow_10 : decode cX9_springsGrow 10 = .ok (.aload_n 0, 1) := by decide +kernel
theorem dX9_springsGrow_11 : decode cX9_springsGrow 11 = .ok (.getfield 127, 3) := by decide +kernel
theorem dX9_springsGrow_14 : decode cX9_springsGrow 14 = .ok (.iload_n 1, 1) := by decide +kernel
theorem dX9_springsGrow_15 : decode cX9_springsGrow 15 = .ok (.aload_n 0, 1) := by decide +kernel
theorem dX9_springsGrow_16 : decode cX9_springsGrow 16 = .ok (.getfield 124, 3) := by decide +kernel
theorem dX9_springsGrow_19 : decode cX9_springsGrow 19 = .ok (.iload_n 1, 1) := by decide +kernel
theorem dX9_springsGrow_20 : decode cX9_springsGrow 20 = .ok (.iaload, 1) := by decide +kernel
theorem dX9_springsGrow_21 : decode cX9_springsGrow 21 = .ok (.aload_n 0, 1) := by decide +kernel
theorem dX9_springsGrow_22 : decode cX9_springsGrow 22 = .ok (.getfield 127, 3) := by decide +kernel
theorem dX9_springsGrow_25 : decode cX9_springsGrow 25 = .ok (.iload_n 1, 1) := by decide +kernel
theorem dX9_springsGrow_26 : decode cX9_springsGrow 26 = .ok (.iaload, 1) := by decide +kernel
theorem dX9_springsGrow_27 : decode cX9_springsGrow 27 = .ok (.aload_n 0, 1) := by decide +kernel
theorem dX9_springsGrow_28 : decode cX9_springsGrow 28 = .ok (.getfield 121, 3) := by decide +kernel
theorem dX9_springsGrow_31 : decode cX9_springsGrow 31 = .ok (.iload_n 1, 1) := by decide +kernel
theorem dX9_springsGrow_32 : decode cX9_springsGrow 32 = .ok (.iaload, 1) := by decide +kernel
theorem dX9_springsGrow_33 : decode cX9_springsGrow 33 = .ok (.iadd, 1) := by decide +kernel
theorem dX9_springsGrow_34 : decode cX9_springsGrow 34 = .ok (.invokestatic 325, 3) := by decide +kernel
theorem dX9_springsGrow_37 : decode cX9_springsGrow 37 = .ok (.iastore, 1) := by decide +kernel
theorem dX9_springsGrow_38 : decode cX9_springsGrow 38 = .ok (.aload_n 0, 1) := by decide +kernel
theorem dX9_springsGrow_39 : decode cX9_springsGrow 39 = .ok (.getfield 121, 3) := by decide +kernel
theorem dX9_springsGrow_42 : decode cX9_springsGrow 42 = .ok (.iload_n 1, 1) := by decide +kernel
theorem dX9_springsGrow_43 : decode cX9_springsGrow 43 = .ok (.dup2, 1) := by decide +kernel
theorem dX9_springsGrow_44 : decode cX9_springsGrow 44 = .ok (.iaload, 1) := by decide +kernel
theorem dX9_springsGrow_45 : decode cX9_springsGrow 45 = .ok (.aload_n 0, 1) := by decide +kernel
theorem dX9_springsGrow_46 : decode cX9_springsGrow 46 = .ok (.getfield 121, 3) := by decide +kernel
theorem dX9_springsGrow_49 : decode cX9_springsGrow 49 = .ok (.iload_n 1, 1) := by decide +kernel
theorem dX9_springsGrow_50 : decode cX9_springsGrow 50 = .ok (.iaload, 1) := by decide +kernel
theorem dX9_springsGrow_51 : decode cX9_springsGrow 51 = .ok (.i2l, 1) := by decide +kernel
theorem dX9_springsGrow_52 : decode cX9_springsGrow 52 = .ok (.aload_n 0, 1) := by decide +kernel
theorem dX9_springsGrow_53 : decode cX9_springsGrow 53 = .ok (.getfield 130, 3) := by decide +kernel
theorem dX9_springsGrow_56 : decode cX9_springsGrow 56 = .ok (.iload_n 1, 1) := by decide +kernel
theorem dX9_springsGrow_57 : decode cX9_springsGrow 57 = .ok (.iaload, 1) := by decide +kernel
theorem dX9_springsGrow_58 : decode cX9_springsGrow 58 = .ok (.i2l, 1) := by decide +kernel
theorem dX9_springsGrow_59 : decode cX9_springsGrow 59 = .ok (.lmul, 1) := by decide +kernel
theorem dX9_springsGrow_60 : decode cX9_springsGrow 60 = .ok (.ldc2_w 250, 3) := by decide +kernel
theorem dX9_springsGrow_63 : decode cX9_springsGrow 63 = .ok (.ladd, 1) := by decide +kernel
theorem dX9_springsGrow_64 : decode cX9_springsGrow 64 = .ok (.ldc2_w 303, 3) := by decide +kernel
theorem dX9_springsGrow_67 : decode cX9_springsGrow 67 = .ok (.ldiv, 1) := by decide +kernel
theorem dX9_springsGrow_68 : decode cX9_springsGrow 68 = .ok (.l2i, 1) := by decide +kernel
theorem dX9_springsGrow_69 : decode cX9_springsGrow 69 = .ok (.isub, 1) := by decide +kernel
theorem dX9_springsGrow_70 : decode cX9_springsGrow 70 = .ok (.iastore, 1) := by decide +kernel
theorem dX9_springsGrow_71 : decode cX9_springsGrow 71 = .ok (.iinc 1 1, 3) := by decide +kernel
theorem dX9_springsGrow_74 : decode cX9_springsGrow 74 = .ok (.goto (-72), 3) := by decide +kernel
theorem dX9_springsGrow_77 : decode cX9_springsGrow 77 = .ok (.iconst 0, 1) := by decide +kernel
theorem dX9_springsGrow_78 : decode cX9_springsGrow 78 = .ok (.istore_n 1, 1) := by decide +kernel
theorem dX9_springsGrow_79 : decode cX9_springsGrow 79 = .ok (.iload_n 1, 1) := by decide +kernel
theorem dX9_springsGrow_80 : decode cX9_springsGrow 80 = .ok (.aload_n 0, 1) := by decide +kernel
theorem dX9_springsGrow_81 : decode cX9_springsGrow 81 = .ok (.getfield 287, 3) := by decide +kernel
theorem dX9_springsGrow_84 : decode cX9_springsGrow 84 = .ok (.if_icmp .ge 37, 3) := by decide +kernel
theorem dX9_springsGrow_87 : decode cX9_springsGrow 87 = .ok (.aload_n 0, 1) := by decide +kernel
theorem dX9_springsGrow_88 : decode cX9_springsGrow 88 = .ok (.getfield 100, 3) := by decide +kernel
theorem dX9_springsGrow_91 : decode cX9_springsGrow 91 = .ok (.iload_n 1, 1) := by decide +kernel
theorem dX9_springsGrow_92 : decode cX9_springsGrow 92 = .ok (.aload_n 0, 1) := by decide +kernel
theorem dX9_springsGrow_93 : decode cX9_springsGrow 93 = .ok (.getfield 97, 3) := by decide +kernel
theorem dX9_springsGrow_96 : decode cX9_springsGrow 96 = .ok (.iload_n 1, 1) := by decide +kernel
theorem dX9_springsGrow_97 : decode cX9_springsGrow 97 = .ok (.iaload, 1) := by decide +kernel
theorem dX9_springsGrow_98 : decode cX9_springsGrow 98 = .ok (.aload_n 0, 1) := by decide +kernel
theorem dX9_springsGrow_99 : decode cX9_springsGrow 99 = .ok (.getfield 100, 3) := by decide +kernel
theorem dX9_springsGrow_102 : decode cX9_springsGrow 102 = .ok (.iload_n 1, 1) := by decide +kernel
theorem dX9_springsGrow_103 : decode cX9_springsGrow 103 = .ok (.iaload, 1) := by decide +kernel
theorem dX9_springsGrow_104 : decode cX9_springsGrow 104 = .ok (.aload_n 0, 1) := by decide +kernel
theorem dX9_springsGrow_105 : decode cX9_springsGrow 105 = .ok (.getfield 103, 3) := by decide +kernel
theorem dX9_springsGrow_108 : decode cX9_springsGrow 108 = .ok (.iload_n 1, 1) := by decide +kernel
theorem dX9_springsGrow_109 : decode cX9_springsGrow 109 = .ok (.iaload, 1) := by decide +kernel
theorem dX9_springsGrow_110 : decode cX9_springsGrow 110 = .ok (.iadd, 1) := by decide +kernel
theorem dX9_springsGrow_111 : decode cX9_springsGrow 111 = .ok (.invokestatic 325, 3) := by decide +kernel
theorem dX9_springsGrow_114 : decode cX9_springsGrow 114 = .ok (.iastore, 1) := by decide +kernel
theorem dX9_springsGrow_115 : decode cX9_springsGrow 115 = .ok (.iinc 1 1, 3) := by decide +kernel
theorem dX9_springsGrow_118 : decode cX9_springsGrow 118 = .ok (.goto (-39), 3) := by decide +kernel
theorem dX9_springsGrow_121 : decode cX9_springsGrow 121 = .ok (.return_, 1) := by decide +kernel
theorem dX9_brings_0 : decode cX9_brings 0 = .ok (.iconst 0, 1) := by decide +kernel
theorem dX9_brings_1 : decode cX9_brings 1 = .ok (.istore_n 1, 1) := by decide +kernel
theorem dX9_brings_2 : decode cX9_brings 2 = .ok (.iload_n 1, 1) := by decide +kernel
theorem dX9_brings_3 : decode cX9_brings 3 = .ok (.aload_n 0, 1) := by decide +kernel
theorem dX9_brings_4 : decode cX9_brings 4 = .ok (.getfield 294, 3) := by decide +kernel
theorem dX9_brings_7 : decode cX9_brings 7 = .ok (.if_icmp .ge 16, 3) := by decide +kernel
theorem dX9_brings_10 : decode cX9_brings 10 = .ok (.aload_n 0, 1) := by decide +kernel
theorem dX9_brings_11 : decode cX9_brings 11 = .ok (.getfield 142, 3) := by decide +kernel
