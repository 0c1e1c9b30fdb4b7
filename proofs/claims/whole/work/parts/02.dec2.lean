theorem dX8_init_141 : decode cX8_init 141 = .ok (.iinc 1 1, 3) := by decide +kernel
theorem dX8_init_144 : decode cX8_init 144 = .ok (.goto (-21), 3) := by decide +kernel
theorem dX8_init_147 : decode cX8_init 147 = .ok (.iconst 0, 1) := by decide +kernel
theorem dX8_init_148 : decode cX8_init 148 = .ok (.istore_n 1, 1) := by decide +kernel
theorem dX8_init_149 : decode cX8_init 149 = .ok (.iload_n 1, 1) := by decide +kernel
theorem dX8_init_150 : decode cX8_init 150 = .ok (.bipush 10, 2) := by decide +kernel
theorem dX8_init_152 : decode cX8_init 152 = .ok (.if_icmp .ge 22, 3) := by decide +kernel
theorem dX8_init_155 : decode cX8_init 155 = .ok (.aload_n 0, 1) := by decide +kernel
theorem dX8_init_156 : decode cX8_init 156 = .ok (.getfield 29, 3) := by decide +kernel
theorem dX8_init_159 : decode cX8_init 159 = .ok (.iload_n 1, 1) := by decide +kernel
theorem dX8_init_160 : decode cX8_init 160 = .ok (.new 27, 3) := by decide +kernel
theorem dX8_init_163 : decode cX8_init 163 = .ok (.dup, 1) := by decide +kernel
theorem dX8_init_164 : decode cX8_init 164 = .ok (.invokespecial 54, 3) := by decide +kernel
theorem dX8_init_167 : decode cX8_init 167 = .ok (.aastore, 1) := by decide +kernel
theorem dX8_init_168 : decode cX8_init 168 = .ok (.iinc 1 1, 3) := by decide +kernel
theorem dX8_init_171 : decode cX8_init 171 = .ok (.goto (-22), 3) := by decide +kernel
theorem dX8_init_174 : decode cX8_init 174 = .ok (.return_, 1) := by decide +kernel
theorem dX8_village_0 : decode cX8_village 0 = .ok (.iload_n 1, 1) := by decide +kernel
theorem dX8_village_1 : decode cX8_village 1 = .ok (.iconst 1, 1) := by decide +kernel
theorem dX8_village_2 : decode cX8_village 2 = .ok (.sipush 2000, 3) := by decide +kernel
theorem dX8_village_5 : decode cX8_village 5 = .ok (.invokestatic 55, 3) := by decide +kernel
theorem dX8_village_8 : decode cX8_village 8 = .ok (.ifCond .eq 38, 3) := by decide +kernel
theorem dX8_village_11 : decode cX8_village 11 = .ok (.iload_n 2, 1) := by decide +kernel
theorem dX8_village_12 : decode cX8_village 12 = .ok (.iconst 0, 1) := by decide +kernel
theorem dX8_village_13 : decode cX8_village 13 = .ok (.sipush 2000, 3) := by decide +kernel
theorem dX8_village_16 : decode cX8_village 16 = .ok (.invokestatic 55, 3) := by decide +kernel
theorem dX8_village_19 : decode cX8_village 19 = .ok (.ifCond .eq 27, 3) := by decide +kernel
theorem dX8_village_22 : decode cX8_village 22 = .ok (.iload_n 3, 1) := by decide +kernel
theorem dX8_village_23 : decode cX8_village 23 = .ok (.iconst 1, 1) := by decide +kernel
theorem dX8_village_24 : decode cX8_village 24 = .ok (.ldc 59, 2) := by decide +kernel
theorem dX8_village_26 : decode cX8_village 26 = .ok (.invokestatic 55, 3) := by decide +kernel
theorem dX8_village_29 : decode cX8_village 29 = .ok (.ifCond .eq 17, 3) := by decide +kernel
theorem dX8_village_32 : decode cX8_village 32 = .ok (.iload 4, 2) := by decide +kernel
theorem dX8_village_34 : decode cX8_village 34 = .ok (.iconst 0, 1) := by decide +kernel
theorem dX8_village_35 : decode cX8_village 35 = .ok (.iload_n 3, 1) := by decide +kernel
theorem dX8_village_36 : decode cX8_village 36 = .ok (.invokestatic 55, 3) := by decide +kernel
theorem dX8_village_39 : decode cX8_village 39 = .ok (.ifCond .eq 7, 3) := by decide +kernel
theorem dX8_village_42 : decode cX8_village 42 = .ok (.iconst 1, 1) := by decide +kernel
theorem dX8_village_43 : decode cX8_village 43 = .ok (.goto 4, 3) := by decide +kernel
theorem dX8_village_46 : decode cX8_village 46 = .ok (.iconst 0, 1) := by decide +kernel
theorem dX8_village_47 : decode cX8_village 47 = .ok (.istore 5, 2) := by decide +kernel
theorem dX8_village_49 : decode cX8_village 49 = .ok (.iload 5, 2) := by decide +kernel
theorem dX8_village_51 : decode cX8_village 51 = .ok (.ifCond .eq 12, 3) := by decide +kernel
theorem dX8_village_54 : decode cX8_village 54 = .ok (.aload_n 0, 1) := by decide +kernel
theorem dX8_village_55 : decode cX8_village 55 = .ok (.getfield 60, 3) := by decide +kernel
theorem dX8_village_58 : decode cX8_village 58 = .ok (.bipush 12, 2) := by decide +kernel
theorem dX8_village_60 : decode cX8_village 60 = .ok (.if_icmp .lt 5, 3) := by decide +kernel
theorem dX8_village_63 : decode cX8_village 63 = .ok (.iconst (-1), 1) := by decide +kernel
theorem dX8_village_64 : decode cX8_village 64 = .ok (.ireturn, 1) := by decide +kernel
theorem dX8_village_65 : decode cX8_village 65 = .ok (.aload_n 0, 1) := by decide +kernel
theorem dX8_village_66 : decode cX8_village 66 = .ok (.getfield 11, 3) := by decide +kernel
theorem dX8_village_69 : decode cX8_village 69 = .ok (.aload_n 0, 1) := by decide +kernel
theorem dX8_village_70 : decode cX8_village 70 = .ok (.getfield 60, 3) := by decide +kernel
theorem dX8_village_73 : decode cX8_village 73 = .ok (.aaload, 1) := by decide +kernel
theorem dX8_village_74 : decode cX8_village 74 = .ok (.astore 6, 2) := by decide +kernel
theorem dX8_village_76 : decode cX8_village 76 = .ok (.aload 6, 2) := by decide +kernel
theorem dX8_village_78 : decode cX8_village 78 = .ok (.iload_n 1, 1) := by decide +kernel
theorem dX8_village_79 : decode cX8_village 79 = .ok (.putfield 64, 3) := by decide +kernel
theorem dX8_village_82 : decode cX8_village 82 = .ok (.aload 6, 2) := by decide +kernel
theorem dX8_village_84 : decode cX8_village 84 = .ok (.iload_n 2, 1) := by decide +kernel
theorem dX8_village_85 : decode cX8_village 85 = .ok (.putfield 67, 3) := by decide +kernel
theorem dX8_village_88 : decode cX8_village 88 = .ok (.aload 6, 2) := by decide +kernel
theorem dX8_village_90 : decode cX8_village 90 = .ok (.iload_n 3, 1) := by decide +kernel
theorem dX8_village_91 : decode cX8_village 91 = .ok (.putfield 70, 3) := by decide +kernel
theorem dX8_village_94 : decode cX8_village 94 = .ok (.aload 6, 2) := by decide +kernel
theorem dX8_village_96 : decode cX8_village 96 = .ok (.iload 4, 2) := by decide +kernel
theorem dX8_village_98 : decode cX8_village 98 = .ok (.putfield 73, 3) := by decide +kernel
theorem dX8_village_101 : decode cX8_village 101 = .ok (.aload_n 0, 1) := by decide +kernel
theorem dX8_village_102 : decode cX8_village 102 = .ok (.dup, 1) := by decide +kernel
theorem dX8_village_103 : decode cX8_village 103 = .ok (.getfield 60, 3) := by decide +kernel
theorem dX8_village_106 : decode cX8_village 106 = .ok (.iconst 1, 1) := by decide +kernel
theorem dX8_village_107 : decode cX8_village 107 = .ok (.iadd, 1) := by decide +kernel
theorem dX8_village_108 : decode cX8_village 108 = .ok (.putfield 60, 3) := by decide +kernel
theorem dX8_village_111 : decode cX8_village 111 = .ok (.aload_n 0, 1) := by decide +kernel
theorem dX8_village_112 : decode cX8_village 112 = .ok (.getfield 60, 3) := by decide +kernel
theorem dX8_village_115 : decode cX8_village 115 = .ok (.iconst 1, 1) := by decide +kernel
theorem dX8_village_116 : decode cX8_village 116 = .ok (.isub, 1) := by decide +kernel
theorem dX8_village_117 : decode cX8_village 117 = .ok (.ireturn, 1) := by decide +kernel
theorem dX8_spring_0 : decode cX8_spring 0 = .ok (.iload_n 1, 1) := by decide +kernel
theorem dX8_spring_1 : decode cX8_spring 1 = .ok (.iconst 0, 1) := by decide +kernel
theorem dX8_spring_2 : decode cX8_spring 2 = .ok (.ldc 59, 2) := by decide +kernel
theorem dX8_spring_4 : decode cX8_spring 4 = .ok (.invokestatic 55, 3) := by decide +kernel
theorem dX8_spring_7 : decode cX8_spring 7 = .ok (.ifCond .eq 27, 3) := by decide +kernel
theorem dX8_spring_10 : decode cX8_spring 10 = .ok (.iload_n 2, 1) := by decide +kernel
theorem dX8_spring_11 : decode cX8_spring 11 = .ok (.iconst 1, 1) := by decide +kernel
theorem dX8_spring_12 : decode cX8_spring 12 = .ok (.ldc 76, 2) := by decide +kernel
theorem dX8_spring_14 : decode cX8_spring 14 = .ok (.invokestatic 55, 3) := by decide +kernel
theorem dX8_spring_17 : decode cX8_spring 17 = .ok (.ifCond .eq 17, 3) := by decide +kernel
theorem dX8_spring_20 : decode cX8_spring 20 = .ok (.iload_n 3, 1) := by decide +kernel
theorem dX8_spring_21 : decode cX8_spring 21 = .ok (.iconst 0, 1) := by decide +kernel
theorem dX8_spring_22 : decode cX8_spring 22 = .ok (.bipush 100, 2) := by decide +kernel
theorem dX8_spring_24 : decode cX8_spring 24 = .ok (.invokestatic 55, 3) := by decide +kernel
theorem dX8_spring_27 : decode cX8_spring 27 = .ok (.ifCond .eq 7, 3) := by decide +kernel
theorem dX8_spring_30 : decode cX8_spring 30 = .ok (.iconst 1, 1) := by decide +kernel
theorem dX8_spring_31 : decode cX8_spring 31 = .ok (.goto 4, 3) := by decide +kernel
theorem dX8_spring_34 : decode cX8_spring 34 = .ok (.iconst 0, 1) := by decide +kernel
theorem dX8_spring_35 : decode cX8_spring 35 = .ok (.istore 4, 2) := by decide +kernel
theorem dX8_spring_37 : decode cX8_spring 37 = .ok (.iload 4, 2) := by decide +kernel
theorem dX8_spring_39 : decode cX8_spring 39 = .ok (.ifCond .eq 11, 3) := by decide +kernel
theorem dX8_spring_42 : decode cX8_spring 42 = .ok (.aload_n 0, 1) := by decide +kernel
theorem dX8_spring_43 : decode cX8_spring 43 = .ok (.getfield 77, 3) := by decide +kernel
theorem dX8_spring_46 : decode cX8_spring 46 = .ok (.iconst 4, 1) := by decide +kernel
theorem dX8_spring_47 : decode cX8_spring 47 = .ok (.if_icmp .lt 5, 3) := by decide +kernel
theorem dX8_spring_50 : decode cX8_spring 50 = .ok (.iconst (-1), 1) := by decide +kernel
theorem dX8_spring_51 : decode cX8_spring 51 = .ok (.ireturn, 1) := by decide +kernel
theorem dX8_spring_52 : decode cX8_spring 52 = .ok (.aload_n 0, 1) := by decide +kernel
theorem dX8_spring_53 : decode cX8_spring 53 = .ok (.getfield 17, 3) := by decide +kernel
theorem dX8_spring_56 : decode cX8_spring 56 = .ok (.aload_n 0, 1) := by decide +kernel
theorem dX8_spring_57 : decode cX8_spring 57 = .ok (.getfield 77, 3) := by decide +kernel
theorem dX8_spring_60 : decode cX8_spring 60 = .ok (.aaload, 1) := by decide +kernel
theorem dX8_spring_61 : decode cX8_spring 61 = .ok (.astore 5, 2) := by decide +kernel
theorem dX8_spring_63 : decode cX8_spring 63 = .ok (.aload 5, 2) := by decide +kernel
theorem dX8_spring_65 : decode cX8_spring 65 = .ok (.iload_n 1, 1) := by decide +kernel
theorem dX8_spring_66 : decode cX8_spring 66 = .ok (.putfield 80, 3) := by decide +kernel
theorem dX8_spring_69 : decode cX8_spring 69 = .ok (.aload 5, 2) := by decide +kernel
theorem dX8_spring_71 : decode cX8_spring 71 = .ok (.iload_n 2, 1) := by decide +kernel
theorem dX8_spring_72 : decode cX8_spring 72 = .ok (.putfield 83, 3) := by decide +kernel
theorem dX8_spring_75 : decode cX8_spring 75 = .ok (.aload 5, 2) := by decide +kernel
theorem dX8_spring_77 : decode cX8_spring 77 = .ok (.iload_n 2, 1) := by decide +kernel
theorem dX8_spring_78 : decode cX8_spring 78 = .ok (.putfield 86, 3) := by decide +kernel
theorem dX8_spring_81 : decode cX8_spring 81 = .ok (.aload 5, 2) := by decide +kernel
theorem dX8_spring_83 : decode cX8_spring 83 = .ok (.iload_n 3, 1) := by decide +kernel
theorem dX8_spring_84 : decode cX8_spring 84 = .ok (.putfield 87, 3) := by decide +kernel
theorem dX8_spring_87 : decode cX8_spring 87 = .ok (.aload_n 0, 1) := by decide +kernel
theorem dX8_spring_88 : decode cX8_spring 88 = .ok (.dup, 1) := by decide +kernel
theorem dX8_spring_89 : decode cX8_spring 89 = .ok (.getfield 77, 3) := by decide +kernel
theorem dX8_spring_92 : decode cX8_spring 92 = .ok (.iconst 1, 1) := by decide +kernel
theorem dX8_spring_93 : decode cX8_spring 93 = .ok (.iadd, 1) := by decide +kernel
theorem dX8_spring_94 : decode cX8_spring 94 = .ok (.putfield 77, 3) := by decide +kernel
theorem dX8_spring_97 : decode cX8_spring 97 = .ok (.aload_n 0, 1) := by decide +kernel
theorem dX8_spring_98 : decode cX8_spring 98 = .ok (.getfield 77, 3) := by decide +kernel
theorem dX8_spring_101 : decode cX8_spring 101 = .ok (.iconst 1, 1) := by decide +kernel
theorem dX8_spring_102 : decode cX8_spring 102 = .ok (.isub, 1) := by decide +kernel
theorem dX8_spring_103 : decode cX8_spring 103 = .ok (.ireturn, 1) := by decide +kernel
theorem dX8_tanker_0 : decode cX8_tanker 0 = .ok (.aload_n 0, 1) := by decide +kernel
theorem dX8_tanker_1 : decode cX8_tanker 1 = .ok (.iload_n 1, 1) := by decide +kernel
theorem dX8_tanker_2 : decode cX8_tanker 2 = .ok (.invokevirtual 90, 3) := by decide +kernel
theorem dX8_tanker_5 : decode cX8_tanker 5 = .ok (.ifCond .eq 29, 3) := by decide +kernel
theorem dX8_tanker_8 : decode cX8_tanker 8 = .ok (.iload_n 2, 1) := by decide +kernel
theorem dX8_tanker_9 : decode cX8_tanker 9 = .ok (.iconst 1, 1) := by decide +kernel
theorem dX8_tanker_10 : decode cX8_tanker 10 = .ok (.sipush 20000, 3) := by decide +kernel
theorem dX8_tanker_13 : decode cX8_tanker 13 = .ok (.invokestatic 55, 3) := by decide +kernel
theorem dX8_tanker_16 : decode cX8_tanker 16 = .ok (.ifCond .eq 18, 3) := by decide +kernel
theorem dX8_tanker_19 : decode cX8_tanker 19 = .ok (.iload_n 3, 1) := by decide +kernel
theorem dX8_tanker_20 : decode cX8_tanker 20 = .ok (.iconst 0, 1) := by decide +kernel
theorem dX8_tanker_21 : decode cX8_tanker 21 = .ok (.sipush 999, 3) := by decide +kernel
theorem dX8_tanker_24 : decode cX8_tanker 24 = .ok (.invokestatic 55, 3) := by decide +kernel
theorem dX8_tanker_27 : decode cX8_tanker 27 = .ok (.ifCond .eq 7, 3) := by decide +kernel
theorem dX8_tanker_30 : decode cX8_tanker 30 = .ok (.iconst 1, 1) := by decide +kernel
theorem dX8_tanker_31 : decode cX8_tanker 31 = .ok (.goto 4, 3) := by decide +kernel
theorem dX8_tanker_34 : decode cX8_tanker 34 = .ok (.iconst 0, 1) := by decide +kernel
theorem dX8_tanker_35 : decode cX8_tanker 35 = .ok (.istore 4, 2) := by decide +kernel
theorem dX8_tanker_37 : decode cX8_tanker 37 = .ok (.iload 4, 2) := by decide +kernel
theorem dX8_tanker_39 : decode cX8_tanker 39 = .ok (.ifCond .eq 11, 3) := by decide +kernel
theorem dX8_tanker_42 : decode cX8_tanker 42 = .ok (.aload_n 0, 1) := by decide +kernel
theorem dX8_tanker_43 : decode cX8_tanker 43 = .ok (.getfield 94, 3) := by decide +kernel
theorem dX8_tanker_46 : decode cX8_tanker 46 = .ok (.iconst 4, 1) := by decide +kernel
theorem dX8_tanker_47 : decode cX8_tanker 47 = .ok (.if_icmp .lt 5, 3) := by decide +kernel
theorem dX8_tanker_50 : decode cX8_tanker 50 = .ok (.iconst (-1), 1) := by decide +kernel
theorem dX8_tanker_51 : decode cX8_tanker 51 = .ok (.ireturn, 1) := by decide +kernel
theorem dX8_tanker_52 : decode cX8_tanker 52 = .ok (.aload_n 0, 1) := by decide +kernel
theorem dX8_tanker_53 : decode cX8_tanker 53 = .ok (.getfield 23, 3) := by decide +kernel
theorem dX8_tanker_56 : decode cX8_tanker 56 = .ok (.aload_n 0, 1) := by decide +kernel
theorem dX8_tanker_57 : decode cX8_tanker 57 = .ok (.getfield 94, 3) := by decide +kernel
theorem dX8_tanker_60 : decode cX8_tanker 60 = .ok (.aaload, 1) := by decide +kernel
theorem dX8_tanker_61 : decode cX8_tanker 61 = .ok (.astore 5, 2) := by decide +kernel
theorem dX8_tanker_63 : decode cX8_tanker 63 = .ok (.aload 5, 2) := by decide +kernel
theorem dX8_tanker_65 : decode cX8_tanker 65 = .ok (.iload_n 1, 1) := by decide +kernel
theorem dX8_tanker_66 : decode cX8_tanker 66 = .ok (.putfield 97, 3) := by decide +kernel
theorem dX8_tanker_69 : decode cX8_tanker 69 = .ok (.aload 5, 2) := by decide +kernel
theorem dX8_tanker_71 : decode cX8_tanker 71 = .ok (.iload_n 2, 1) := by decide +kernel
theorem dX8_tanker_72 : decode cX8_tanker 72 = .ok (.putfield 100, 3) := by decide +kernel
theorem dX8_tanker_75 : decode cX8_tanker 75 = .ok (.aload 5, 2) := by decide +kernel
theorem dX8_tanker_77 : decode cX8_tanker 77 = .ok (.iload_n 3, 1) := by decide +kernel
theorem dX8_tanker_78 : decode cX8_tanker 78 = .ok (.putfield 103, 3) := by decide +kernel
theorem dX8_tanker_81 : decode cX8_tanker 81 = .ok (.aload_n 0, 1) := by decide +kernel
theorem dX8_tanker_82 : decode cX8_tanker 82 = .ok (.dup, 1) := by decide +kernel
theorem dX8_tanker_83 : decode cX8_tanker 83 = .ok (.getfield 94, 3) := by decide +kernel
theorem dX8_tanker_86 : decode cX8_tanker 86 = .ok (.iconst 1, 1) := by decide +kernel
theorem dX8_tanker_87 : decode cX8_tanker 87 = .ok (.iadd, 1) := by decide +kernel
theorem dX8_tanker_88 : decode cX8_tanker 88 = .ok (.putfield 94, 3) := by decide +kernel
theorem dX8_tanker_91 : decode cX8_tanker 91 = .ok (.aload_n 0, 1) := by decide +kernel
theorem dX8_tanker_92 : decode cX8_tanker 92 = .ok (.getfield 94, 3) := by decide +kernel
theorem dX8_tanker_95 : decode cX8_tanker 95 = .ok (.iconst 1, 1) := by decide +kernel
theorem dX8_tanker_96 : decode cX8_tanker 96 = .ok (.isub, 1) := by decide +kernel
theorem dX8_tanker_97 : decode cX8_tanker 97 = .ok (.ireturn, 1) := by decide +kernel
theorem dX8_way_0 : decode cX8_way 0 = .ok (.aload_n 0, 1) := by decide +kernel
theorem dX8_way_1 : decode cX8_way 1 = .ok (.iload_n 1, 1) := by decide +kernel
theorem dX8_way_2 : decode cX8_way 2 = .ok (.invokevirtual 90, 3) := by decide +kernel
theorem dX8_way_5 : decode cX8_way 5 = .ok (.ifCond .eq 22, 3) := by decide +kernel
theorem dX8_way_8 : decode cX8_way 8 = .ok (.aload_n 0, 1) := by decide +kernel
theorem dX8_way_9 : decode cX8_way 9 = .ok (.iload_n 2, 1) := by decide +kernel
theorem dX8_way_10 : decode cX8_way 10 = .ok (.invokevirtual 106, 3) := by decide +kernel
theorem dX8_way_13 : decode cX8_way 13 = .ok (.ifCond .eq 14, 3) := by decide +kernel
theorem dX8_way_16 : decode cX8_way 16 = .ok (.iload_n 3, 1) := by decide +kernel
theorem dX8_way_17 : decode cX8_way 17 = .ok (.iconst 1, 1) := by decide +kernel
theorem dX8_way_18 : decode cX8_way 18 = .ok (.sipush 200, 3) := by decide +kernel
theorem dX8_way_21 : decode cX8_way 21 = .ok (.invokestatic 55, 3) := by decide +kernel
theorem dX8_way_24 : decode cX8_way 24 = .ok (.ifCond .ne 5, 3) := by decide +kernel
theorem dX8_way_27 : decode cX8_way 27 = .ok (.iconst 0, 1) := by decide +kernel
theorem dX8_way_28 : decode cX8_way 28 = .ok (.ireturn, 1) := by decide +kernel
theorem dX8_way_29 : decode cX8_way 29 = .ok (.aload_n 0, 1) := by decide +kernel
theorem dX8_way_30 : decode cX8_way 30 = .ok (.getfield 17, 3) := by decide +kernel
theorem dX8_way_33 : decode cX8_way 33 = .ok (.iload_n 1, 1) := by decide +kernel
theorem dX8_way_34 : decode cX8_way 34 = .ok (.aaload, 1) := by decide +kernel
theorem dX8_way_35 : decode cX8_way 35 = .ok (.getfield 109, 3) := by decide +kernel
theorem dX8_way_38 : decode cX8_way 38 = .ok (.iload_n 2, 1) := by decide +kernel
theorem dX8_way_39 : decode cX8_way 39 = .ok (.iload_n 3, 1) := by decide +kernel
theorem dX8_way_40 : decode cX8_way 40 = .ok (.iastore, 1) := by decide +kernel
theorem dX8_way_41 : decode cX8_way 41 = .ok (.iconst 1, 1) := by decide +kernel
theorem dX8_way_42 : decode cX8_way 42 = .ok (.ireturn, 1) := by decide +kernel
theorem dX8_feed_0 : decode cX8_feed 0 = .ok (.aload_n 0, 1) := by decide +kernel
theorem dX8_feed_1 : decode cX8_feed 1 = .ok (.getfield 40, 3) := by decide +kernel
theorem dX8_feed_4 : decode cX8_feed 4 = .ok (.getfield 112, 3) := by decide +kernel
theorem dX8_feed_7 : decode cX8_feed 7 = .ok (.lload_n 1, 1) := by decide +kernel
theorem dX8_feed_8 : decode cX8_feed 8 = .ok (.invokevirtual 116, 3) := by decide +kernel
theorem dX8_feed_11 : decode cX8_feed 11 = .ok (.aload_n 0, 1) := by decide +kernel
theorem dX8_feed_12 : decode cX8_feed 12 = .ok (.getfield 40, 3) := by decide +kernel
theorem dX8_feed_15 : decode cX8_feed 15 = .ok (.getfield 112, 3) := by decide +kernel
theorem dX8_feed_18 : decode cX8_feed 18 = .ok (.lload_n 3, 1) := by decide +kernel
theorem dX8_feed_19 : decode cX8_feed 19 = .ok (.invokevirtual 116, 3) := by decide +kernel
theorem dX8_feed_22 : decode cX8_feed 22 = .ok (.aload_n 0, 1) := by decide +kernel
theorem dX8_feed_23 : decode cX8_feed 23 = .ok (.getfield 40, 3) := by decide +kernel
theorem dX8_feed_26 : decode cX8_feed 26 = .ok (.getfield 112, 3) := by decide +kernel
theorem dX8_feed_29 : decode cX8_feed 29 = .ok (.lload 5, 2) := by decide +kernel
theorem dX8_feed_31 : decode cX8_feed 31 = .ok (.invokevirtual 116, 3) := by decide +kernel
theorem dX8_feed_34 : decode cX8_feed 34 = .ok (.aload_n 0, 1) := by decide +kernel
theorem dX8_feed_35 : decode cX8_feed 35 = .ok (.getfield 40, 3) := by decide +kernel
theorem dX8_feed_38 : decode cX8_feed 38 = .ok (.getfield 112, 3) := by decide +kernel
theorem dX8_feed_41 : decode cX8_feed 41 = .ok (.getfield 122, 3) := by decide +kernel
theorem dX8_feed_44 : decode cX8_feed 44 = .ok (.ireturn, 1) := by decide +kernel
theorem dX8_text_0 : decode cX8_text 0 = .ok (.aload_n 0, 1) := by decide +kernel
theorem dX8_text_1 : decode cX8_text 1 = .ok (.getfield 40, 3) := by decide +kernel
theorem dX8_text_4 : decode cX8_text 4 = .ok (.invokevirtual 125, 3) := by decide +kernel
theorem dX8_text_7 : decode cX8_text 7 = .ok (.ireturn, 1) := by decide +kernel
theorem dX8_want_0 : decode cX8_want 0 = .ok (.aload_n 0, 1) := by decide +kernel
theorem dX8_want_1 : decode cX8_want 1 = .ok (.iload_n 1, 1) := by decide +kernel
theorem dX8_want_2 : decode cX8_want 2 = .ok (.invokevirtual 106, 3) := by decide +kernel
theorem dX8_want_5 : decode cX8_want 5 = .ok (.ifCond .eq 16, 3) := by decide +kernel
theorem dX8_want_8 : decode cX8_want 8 = .ok (.aload_n 0, 1) := by decide +kernel
theorem dX8_want_9 : decode cX8_want 9 = .ok (.aload_n 0, 1) := by decide +kernel
theorem dX8_want_10 : decode cX8_want 10 = .ok (.getfield 11, 3) := by decide +kernel
theorem dX8_want_13 : decode cX8_want 13 = .ok (.iload_n 1, 1) := by decide +kernel
theorem dX8_want_14 : decode cX8_want 14 = .ok (.aaload, 1) := by decide +kernel
theorem dX8_want_15 : decode cX8_want 15 = .ok (.invokevirtual 129, 3) := by decide +kernel
theorem dX8_want_18 : decode cX8_want 18 = .ok (.goto 4, 3) := by decide +kernel
theorem dX8_want_21 : decode cX8_want 21 = .ok (.iconst (-1), 1) := by decide +kernel
theorem dX8_want_22 : decode cX8_want 22 = .ok (.ireturn, 1) := by decide +kernel
theorem dX8_plan_0 : decode cX8_plan 0 = .ok (.iload_n 1, 1) := by decide +kernel
theorem dX8_plan_1 : decode cX8_plan 1 = .ok (.iconst 0, 1) := by decide +kernel
theorem dX8_plan_2 : decode cX8_plan 2 = .ok (.iconst 2, 1) := by decide +kernel
theorem dX8_plan_3 : decode cX8_plan 3 = .ok (.invokestatic 55, 3) := by decide +kernel
theorem dX8_plan_6 : decode cX8_plan 6 = .ok (.ifCond .ne 5, 3) := by decide +kernel
theorem dX8_plan_9 : decode cX8_plan 9 = .ok (.iconst (-1), 1) := by decide +kernel
theorem dX8_plan_10 : decode cX8_plan 10 = .ok (.ireturn, 1) := by decide +kernel
theorem dX8_plan_11 : decode cX8_plan 11 = .ok (.aload_n 0, 1) := by decide +kernel
theorem dX8_plan_12 : decode cX8_plan 12 = .ok (.invokevirtual 133, 3) := by decide +kernel
theorem dX8_plan_15 : decode cX8_plan 15 = .ok (.iload_n 1, 1) := by decide +kernel
theorem dX8_plan_16 : decode cX8_plan 16 = .ok (.ifCond .ne 11, 3) := by decide +kernel
theorem dX8_plan_19 : decode cX8_plan 19 = .ok (.aload_n 0, 1) := by decide +kernel
theorem dX8_plan_20 : decode cX8_plan 20 = .ok (.getfield 47, 3) := by decide +kernel
theorem dX8_plan_23 : decode cX8_plan 23 = .ok (.getfield 136, 3) := by decide +kernel
theorem dX8_plan_26 : decode cX8_plan 26 = .ok (.ireturn, 1) := by decide +kernel
theorem dX8_plan_27 : decode cX8_plan 27 = .ok (.iload_n 1, 1) := by decide +kernel
theorem dX8_plan_28 : decode cX8_plan 28 = .ok (.iconst 1, 1) := by decide +kernel
theorem dX8_plan_29 : decode cX8_plan 29 = .ok (.if_icmp .ne 13, 3) := by decide +kernel
theorem dX8_plan_32 : decode cX8_plan 32 = .ok (.aload_n 0, 1) := by decide +kernel
theorem dX8_plan_33 : decode cX8_plan 33 = .ok (.getfield 47, 3) := by decide +kernel
theorem dX8_plan_36 : decode cX8_plan 36 = .ok (.getfield 139, 3) := by decide +kernel
theorem dX8_plan_39 : decode cX8_plan 39 = .ok (.goto 10, 3) := by decide +kernel
theorem dX8_plan_42 : decode cX8_plan 42 = .ok (.aload_n 0, 1) := by decide +kernel
theorem dX8_plan_43 : decode cX8_plan 43 = .ok (.getfield 47, 3) := by decide +kernel
theorem dX8_plan_46 : decode cX8_plan 46 = .ok (.getfield 142, 3) := by decide +kernel
theorem dX8_plan_49 : decode cX8_plan 49 = .ok (.ireturn, 1) := by decide +kernel
theorem dX8_planned_0 : decode cX8_planned 0 = .ok (.aload_n 0, 1) := by decide +kernel
theorem dX8_planned_1 : decode cX8_planned 1 = .ok (.iload_n 1, 1) := by decide +kernel
theorem dX8_planned_2 : decode cX8_planned 2 = .ok (.invokevirtual 106, 3) := by decide +kernel
theorem dX8_planned_5 : decode cX8_planned 5 = .ok (.ifCond .ne 5, 3) := by decide +kernel
theorem dX8_planned_8 : decode cX8_planned 8 = .ok (.iconst (-1), 1) := by decide +kernel
theorem dX8_planned_9 : decode cX8_planned 9 = .ok (.ireturn, 1) := by decide +kernel
theorem dX8_planned_10 : decode cX8_planned 10 = .ok (.aload_n 0, 1) := by decide +kernel
theorem dX8_planned_11 : decode cX8_planned 11 = .ok (.invokevirtual 133, 3) := by decide +kernel
theorem dX8_planned_14 : decode cX8_planned 14 = .ok (.iconst 0, 1) := by decide +kernel
theorem dX8_planned_15 : decode cX8_planned 15 = .ok (.istore_n 2, 1) := by decide +kernel
theorem dX8_planned_16 : decode cX8_planned 16 = .ok (.iload_n 2, 1) := by decide +kernel
theorem dX8_planned_17 : decode cX8_planned 17 = .ok (.aload_n 0, 1) := by decide +kernel
theorem dX8_planned_18 : decode cX8_planned 18 = .ok (.getfield 47, 3) := by decide +kernel
theorem dX8_planned_21 : decode cX8_planned 21 = .ok (.getfield 145, 3) := by decide +kernel
theorem dX8_planned_24 : decode cX8_planned 24 = .ok (.if_icmp .ge 32, 3) := by decide +kernel
theorem dX8_planned_27 : decode cX8_planned 27 = .ok (.aload_n 0, 1) := by decide +kernel
theorem dX8_planned_28 : decode cX8_planned 28 = .ok (.getfield 47, 3) := by decide +kernel
theorem dX8_planned_31 : decode cX8_planned 31 = .ok (.getfield 148, 3) := by decide +kernel
theorem dX8_planned_34 : decode cX8_planned 34 = .ok (.iload_n 2, 1) := by decide +kernel
theorem dX8_planned_35 : decode cX8_planned 35 = .ok (.iaload, 1) := by decide +kernel
theorem dX8_planned_36 : decode cX8_planned 36 = .ok (.iload_n 1, 1) := by decide +kernel
theorem dX8_planned_37 : decode cX8_planned 37 = .ok (.if_icmp .ne 13, 3) := by decide +kernel
theorem dX8_planned_40 : decode cX8_planned 40 = .ok (.aload_n 0, 1) := by decide +kernel
theorem dX8_planned_41 : decode cX8_planned 41 = .ok (.getfield 47, 3) := by decide +kernel
theorem dX8_planned_44 : decode cX8_planned 44 = .ok (.getfield 151, 3) := by decide +kernel
theorem dX8_planned_47 : decode cX8_planned 47 = .ok (.iload_n 2, 1) := by decide +kernel
theorem dX8_planned_48 : decode cX8_planned 48 = .ok (.iaload, 1) := by decide +kernel
theorem dX8_planned_49 : decode cX8_planned 49 = .ok (.ireturn, 1) := by decide +kernel
theorem dX8_planned_50 : decode cX8_planned 50 = .ok (.iinc 2 1, 3) := by decide +kernel
theorem dX8_planned_53 : decode cX8_planned 53 = .ok (.goto (-37), 3) := by decide +kernel
theorem dX8_planned_56 : decode cX8_planned 56 = .ok (.iconst (-1), 1) := by decide +kernel
theorem dX8_planned_57 : decode cX8_planned 57 = .ok (.ireturn, 1) := by decide +kernel
theorem dX8_days_0 : decode cX8_days 0 = .ok (.iload_n 1, 1) := by decide +kernel
theorem dX8_days_1 : decode cX8_days 1 = .ok (.iconst 0, 1) := by decide +kernel
theorem dX8_days_2 : decode cX8_days 2 = .ok (.bipush 30, 2) := by decide +kernel
theorem dX8_days_4 : decode cX8_days 4 = .ok (.invokestatic 55, 3) := by decide +kernel
theorem dX8_days_7 : decode cX8_days 7 = .ok (.ifCond .eq 15, 3) := by decide +kernel
theorem dX8_days_10 : decode cX8_days 10 = .ok (.iload_n 1, 1) := by decide +kernel
theorem dX8_days_11 : decode cX8_days 11 = .ok (.sipush 399, 3) := by decide +kernel
theorem dX8_days_14 : decode cX8_days 14 = .ok (.aload_n 0, 1) := by decide +kernel
theorem dX8_days_15 : decode cX8_days 15 = .ok (.getfield 154, 3) := by decide +kernel
theorem dX8_days_18 : decode cX8_days 18 = .ok (.isub, 1) := by decide +kernel
theorem dX8_days_19 : decode cX8_days 19 = .ok (.if_icmp .le 5, 3) := by decide +kernel
theorem dX8_days_22 : decode cX8_days 22 = .ok (.iconst (-1), 1) := by decide +kernel
theorem dX8_days_23 : decode cX8_days 23 = .ok (.ireturn, 1) := by decide +kernel
theorem dX8_days_24 : decode cX8_days 24 = .ok (.iconst 0, 1) := by decide +kernel
theorem dX8_days_25 : decode cX8_days 25 = .ok (.istore_n 2, 1) := by decide +kernel
theorem dX8_days_26 : decode cX8_days 26 = .ok (.iload_n 2, 1) := by decide +kernel
theorem dX8_days_27 : decode cX8_days 27 = .ok (.iload_n 1, 1) := by decide +kernel
theorem dX8_days_28 : decode cX8_days 28 = .ok (.if_icmp .ge 13, 3) := by decide +kernel
theorem dX8_days_31 : decode cX8_days 31 = .ok (.aload_n 0, 1) := by decide +kernel
theorem dX8_days_32 : decode cX8_days 32 = .ok (.invokevirtual 157, 3) := by decide +kernel
theorem dX8_days_35 : decode cX8_days 35 = .ok (.iinc 2 1, 3) := by decide +kernel
theorem dX8_days_38 : decode cX8_days 38 = .ok (.goto (-12), 3) := by decide +kernel
theorem dX8_days_41 : decode cX8_days 41 = .ok (.aload_n 0, 1) := by decide +kernel
theorem dX8_days_42 : decode cX8_days 42 = .ok (.getfield 154, 3) := by decide +kernel
theorem dX8_days_45 : decode cX8_days 45 = .ok (.ireturn, 1) := by decide +kernel
theorem dX8_foretold_0 : decode cX8_foretold 0 = .ok (.aload_n 0, 1) := by decide +kernel
theorem dX8_foretold_1 : decode cX8_foretold 1 = .ok (.iload_n 1, 1) := by decide +kernel
theorem dX8_foretold_2 : decode cX8_foretold 2 = .ok (.invokevirtual 106, 3) := by decide +kernel
theorem dX8_foretold_5 : decode cX8_foretold 5 = .ok (.ifCond .ne 5, 3) := by decide +kernel
theorem dX8_foretold_8 : decode cX8_foretold 8 = .ok (.iconst (-1), 1) := by decide +kernel
theorem dX8_foretold_9 : decode cX8_foretold 9 = .ok (.ireturn, 1) := by decide +kernel
theorem dX8_foretold_10 : decode cX8_foretold 10 = .ok (.aload_n 0, 1) := by decide +kernel
theorem dX8_foretold_11 : decode cX8_foretold 11 = .ok (.getfield 11, 3) := by decide +kernel
theorem dX8_foretold_14 : decode cX8_foretold 14 = .ok (.iload_n 1, 1) := by decide +kernel
theorem dX8_foretold_15 : decode cX8_foretold 15 = .ok (.aaload, 1) := by decide +kernel
theorem dX8_foretold_16 : decode cX8_foretold 16 = .ok (.astore_n 2, 1) := by decide +kernel
theorem dX8_foretold_17 : decode cX8_foretold 17 = .ok (.aload_n 0, 1) := by decide +kernel
theorem dX8_foretold_18 : decode cX8_foretold 18 = .ok (.aload_n 2, 1) := by decide +kernel
theorem dX8_foretold_19 : decode cX8_foretold 19 = .ok (.invokevirtual 129, 3) := by decide +kernel
theorem dX8_foretold_22 : decode cX8_foretold 22 = .ok (.istore_n 3, 1) := by decide +kernel
theorem dX8_foretold_23 : decode cX8_foretold 23 = .ok (.aload_n 2, 1) := by decide +kernel
theorem dX8_foretold_24 : decode cX8_foretold 24 = .ok (.getfield 73, 3) := by decide +kernel
theorem dX8_foretold_27 : decode cX8_foretold 27 = .ok (.istore 4, 2) := by decide +kernel
theorem dX8_foretold_29 : decode cX8_foretold 29 = .ok (.iconst 1, 1) := by decide +kernel
theorem dX8_foretold_30 : decode cX8_foretold 30 = .ok (.istore 5, 2) := by decide +kernel
theorem dX8_foretold_32 : decode cX8_foretold 32 = .ok (.iload 5, 2) := by decide +kernel
theorem dX8_foretold_34 : decode cX8_foretold 34 = .ok (.bipush 60, 2) := by decide +kernel
theorem dX8_foretold_36 : decode cX8_foretold 36 = .ok (.if_icmp .gt 45, 3) := by decide +kernel
theorem dX8_foretold_39 : decode cX8_foretold 39 = .ok (.iload 4, 2) := by decide +kernel
theorem dX8_foretold_41 : decode cX8_foretold 41 = .ok (.aload_n 2, 1) := by decide +kernel
theorem dX8_foretold_42 : decode cX8_foretold 42 = .ok (.getfield 160, 3) := by decide +kernel
theorem dX8_foretold_45 : decode cX8_foretold 45 = .ok (.iadd, 1) := by decide +kernel
theorem dX8_foretold_46 : decode cX8_foretold 46 = .ok (.aload_n 2, 1) := by decide +kernel
theorem dX8_foretold_47 : decode cX8_foretold 47 = .ok (.getfield 70, 3) := by decide +kernel
theorem dX8_foretold_50 : decode cX8_foretold 50 = .ok (.invokestatic 163, 3) := by decide +kernel
theorem dX8_foretold_53 : decode cX8_foretold 53 = .ok (.istore 4, 2) := by decide +kernel
theorem dX8_foretold_55 : decode cX8_foretold 55 = .ok (.iload 4, 2) := by decide +kernel
theorem dX8_foretold_57 : decode cX8_foretold 57 = .ok (.iload_n 3, 1) := by decide +kernel
theorem dX8_foretold_58 : decode cX8_foretold 58 = .ok (.if_icmp .ge 11, 3) := by decide +kernel
theorem dX8_foretold_61 : decode cX8_foretold 61 = .ok (.aload_n 0, 1) := by decide +kernel
theorem dX8_foretold_62 : decode cX8_foretold 62 = .ok (.getfield 154, 3) := by decide +kernel
theorem dX8_foretold_65 : decode cX8_foretold 65 = .ok (.iload 5, 2) := by decide +kernel
theorem dX8_foretold_67 : decode cX8_foretold 67 = .ok (.iadd, 1) := by decide +kernel
theorem dX8_foretold_68 : decode cX8_foretold 68 = .ok (.ireturn, 1) := by decide +kernel
theorem dX8_foretold_69 : decode cX8_foretold 69 = .ok (.iload 4, 2) := by decide +kernel
theorem dX8_foretold_71 : decode cX8_foretold 71 = .ok (.iload_n 3, 1) := by decide +kernel
theorem dX8_foretold_72 : decode cX8_foretold 72 = .ok (.isub, 1) := by decide +kernel
theorem dX8_foretold_73 : decode cX8_foretold 73 = .ok (.istore 4, 2) := by decide +kernel
theorem dX8_foretold_75 : decode cX8_foretold 75 = .ok (.iinc 5 1, 3) := by decide +kernel
theorem dX8_foretold_78 : decode cX8_foretold 78 = .ok (.goto (-46), 3) := by decide +kernel
theorem dX8_foretold_81 : decode cX8_foretold 81 = .ok (.iconst (-1), 1) := by decide +kernel
theorem dX8_foretold_82 : decode cX8_foretold 82 = .ok (.ireturn, 1) := by decide +kernel
theorem dX8_bore_0 : decode cX8_bore 0 = .ok (.aload_n 0, 1) := by decide +kernel
theorem dX8_bore_1 : decode cX8_bore 1 = .ok (.iload_n 1, 1) := by decide +kernel
theorem dX8_bore_2 : decode cX8_bore 2 = .ok (.invokevirtual 106, 3) := by decide +kernel
theorem dX8_bore_5 : decode cX8_bore 5 = .ok (.ifCond .eq 29, 3) := by decide +kernel
theorem dX8_bore_8 : decode cX8_bore 8 = .ok (.iload_n 2, 1) := by decide +kernel
theorem dX8_bore_9 : decode cX8_bore 9 = .ok (.iconst 1, 1) := by decide +kernel
theorem dX8_bore_10 : decode cX8_bore 10 = .ok (.sipush 1000, 3) := by decide +kernel
theorem dX8_bore_13 : decode cX8_bore 13 = .ok (.invokestatic 55, 3) := by decide +kernel
theorem dX8_bore_16 : decode cX8_bore 16 = .ok (.ifCond .eq 18, 3) := by decide +kernel
theorem dX8_bore_19 : decode cX8_bore 19 = .ok (.iload_n 3, 1) := by decide +kernel
theorem dX8_bore_20 : decode cX8_bore 20 = .ok (.iconst 1, 1) := by decide +kernel
theorem dX8_bore_21 : decode cX8_bore 21 = .ok (.sipush 1000, 3) := by decide +kernel
theorem dX8_bore_24 : decode cX8_bore 24 = .ok (.invokestatic 55, 3) := by decide +kernel
theorem dX8_bore_27 : decode cX8_bore 27 = .ok (.ifCond .eq 7, 3) := by decide +kernel
theorem dX8_bore_30 : decode cX8_bore 30 = .ok (.iconst 1, 1) := by decide +kernel
theorem dX8_bore_31 : decode cX8_bore 31 = .ok (.goto 4, 3) := by decide +kernel
theorem dX8_bore_34 : decode cX8_bore 34 = .ok (.iconst 0, 1) := by decide +kernel
theorem dX8_bore_35 : decode cX8_bore 35 = .ok (.istore 4, 2) := by decide +kernel
theorem dX8_bore_37 : decode cX8_bore 37 = .ok (.iload 4, 2) := by decide +kernel
theorem dX8_bore_39 : decode cX8_bore 39 = .ok (.ifCond .eq 12, 3) := by decide +kernel
theorem dX8_bore_42 : decode cX8_bore 42 = .ok (.aload_n 0, 1) := by decide +kernel
theorem dX8_bore_43 : decode cX8_bore 43 = .ok (.getfield 169, 3) := by decide +kernel
theorem dX8_bore_46 : decode cX8_bore 46 = .ok (.bipush 10, 2) := by decide +kernel
theorem dX8_bore_48 : decode cX8_bore 48 = .ok (.if_icmp .lt 5, 3) := by decide +kernel
theorem dX8_bore_51 : decode cX8_bore 51 = .ok (.iconst (-1), 1) := by decide +kernel
theorem dX8_bore_52 : decode cX8_bore 52 = .ok (.ireturn, 1) := by decide +kernel
theorem dX8_bore_53 : decode cX8_bore 53 = .ok (.aload_n 0, 1) := by decide +kernel
theorem dX8_bore_54 : decode cX8_bore 54 = .ok (.getfield 29, 3) := by decide +kernel
theorem dX8_bore_57 : decode cX8_bore 57 = .ok (.aload_n 0, 1) := by decide +kernel
theorem dX8_bore_58 : decode cX8_bore 58 = .ok (.getfield 169, 3) := by decide +kernel
theorem dX8_bore_61 : decode cX8_bore 61 = .ok (.aaload, 1) := by decide +kernel
theorem dX8_bore_62 : decode cX8_bore 62 = .ok (.astore 5, 2) := by decide +kernel
theorem dX8_bore_64 : decode cX8_bore 64 = .ok (.aload 5, 2) := by decide +kernel
theorem dX8_bore_66 : decode cX8_bore 66 = .ok (.iload_n 1, 1) := by decide +kernel
theorem dX8_bore_67 : decode cX8_bore 67 = .ok (.putfield 172, 3) := by decide +kernel
theorem dX8_bore_70 : decode cX8_bore 70 = .ok (.aload 5, 2) := by decide +kernel
theorem dX8_bore_72 : decode cX8_bore 72 = .ok (.iload_n 3, 1) := by decide +kernel
theorem dX8_bore_73 : decode cX8_bore 73 = .ok (.putfield 175, 3) := by decide +kernel
theorem dX8_bore_76 : decode cX8_bore 76 = .ok (.aload 5, 2) := by decide +kernel
theorem dX8_bore_78 : decode cX8_bore 78 = .ok (.iload_n 2, 1) := by decide +kernel
theorem dX8_bore_79 : decode cX8_bore 79 = .ok (.aload_n 0, 1) := by decide +kernel
theorem dX8_bore_80 : decode cX8_bore 80 = .ok (.getfield 11, 3) := by decide +kernel
theorem dX8_bore_83 : decode cX8_bore 83 = .ok (.iload_n 1, 1) := by decide +kernel
theorem dX8_bore_84 : decode cX8_bore 84 = .ok (.aaload, 1) := by decide +kernel
theorem dX8_bore_85 : decode cX8_bore 85 = .ok (.getfield 64, 3) := by decide +kernel
theorem dX8_bore_88 : decode cX8_bore 88 = .ok (.imul, 1) := by decide +kernel
theorem dX8_bore_89 : decode cX8_bore 89 = .ok (.putfield 178, 3) := by decide +kernel
theorem dX8_bore_92 : decode cX8_bore 92 = .ok (.aload_n 0, 1) := by decide +kernel
theorem dX8_bore_93 : decode cX8_bore 93 = .ok (.dup, 1) := by decide +kernel
theorem dX8_bore_94 : decode cX8_bore 94 = .ok (.getfield 169, 3) := by decide +kernel
theorem dX8_bore_97 : decode cX8_bore 97 = .ok (.iconst 1, 1) := by decide +kernel
theorem dX8_bore_98 : decode cX8_bore 98 = .ok (.iadd, 1) := by decide +kernel
theorem dX8_bore_99 : decode cX8_bore 99 = .ok (.putfield 169, 3) := by decide +kernel
theorem dX8_bore_102 : decode cX8_bore 102 = .ok (.aload_n 0, 1) := by decide +kernel
theorem dX8_bore_103 : decode cX8_bore 103 = .ok (.getfield 169, 3) := by decide +kernel
theorem dX8_bore_106 : decode cX8_bore 106 = .ok (.iconst 1, 1) := by decide +kernel
theorem dX8_bore_107 : decode cX8_bore 107 = .ok (.isub, 1) := by decide +kernel
theorem dX8_bore_108 : decode cX8_bore 108 = .ok (.ireturn, 1) := by decide +kernel
theorem dX8_best_0 : decode cX8_best 0 = .ok (.iload_n 1, 1) := by decide +kernel
theorem dX8_best_1 : decode cX8_best 1 = .ok (.iconst 0, 1) := by decide +kernel
theorem dX8_best_2 : decode cX8_best 2 = .ok (.sipush 9999, 3) := by decide +kernel
theorem dX8_best_5 : decode cX8_best 5 = .ok (.invokestatic 55, 3) := by decide +kernel
theorem dX8_best_8 : decode cX8_best 8 = .ok (.ifCond .ne 5, 3) := by decide +kernel
theorem dX8_best_11 : decode cX8_best 11 = .ok (.iconst (-1), 1) := by decide +kernel
theorem dX8_best_12 : decode cX8_best 12 = .ok (.ireturn, 1) := by decide +kernel
theorem dX8_best_13 : decode cX8_best 13 = .ok (.iconst 0, 1) := by decide +kernel
theorem dX8_best_14 : decode cX8_best 14 = .ok (.istore_n 2, 1) := by decide +kernel
theorem dX8_best_15 : decode cX8_best 15 = .ok (.iconst 0, 1) := by decide +kernel
theorem dX8_best_16 : decode cX8_best 16 = .ok (.istore_n 3, 1) := by decide +kernel
theorem dX8_best_17 : decode cX8_best 17 = .ok (.iconst 0, 1) := by decide +kernel
theorem dX8_best_18 : decode cX8_best 18 = .ok (.istore 4, 2) := by decide +kernel
theorem dX8_best_20 : decode cX8_best 20 = .ok (.iconst 1, 1) := by decide +kernel
theorem dX8_best_21 : decode cX8_best 21 = .ok (.istore 5, 2) := by decide +kernel
theorem dX8_best_23 : decode cX8_best 23 = .ok (.iload 5, 2) := by decide +kernel
theorem dX8_best_25 : decode cX8_best 25 = .ok (.iconst 1, 1) := by decide +kernel
theorem dX8_best_26 : decode cX8_best 26 = .ok (.aload_n 0, 1) := by decide +kernel
theorem dX8_best_27 : decode cX8_best 27 = .ok (.getfield 169, 3) := by decide +kernel
theorem dX8_best_30 : decode cX8_best 30 = .ok (.ishl, 1) := by decide +kernel
theorem dX8_best_31 : decode cX8_best 31 = .ok (.if_icmp .ge 81, 3) := by decide +kernel
theorem dX8_best_34 : decode cX8_best 34 = .ok (.aload_n 0, 1) := by decide +kernel
theorem dX8_best_35 : decode cX8_best 35 = .ok (.iload 5, 2) := by decide +kernel
theorem dX8_best_37 : decode cX8_best 37 = .ok (.invokevirtual 181, 3) := by decide +kernel
theorem dX8_best_40 : decode cX8_best 40 = .ok (.istore 6, 2) := by decide +kernel
theorem dX8_best_42 : decode cX8_best 42 = .ok (.aload_n 0, 1) := by decide +kernel
theorem dX8_best_43 : decode cX8_best 43 = .ok (.iload 5, 2) := by decide +kernel
theorem dX8_best_45 : decode cX8_best 45 = .ok (.invokevirtual 185, 3) := by decide +kernel
theorem dX8_best_48 : decode cX8_best 48 = .ok (.istore 7, 2) := by decide +kernel
theorem dX8_best_50 : decode cX8_best 50 = .ok (.iload 7, 2) := by decide +kernel
theorem dX8_best_52 : decode cX8_best 52 = .ok (.iload_n 3, 1) := by decide +kernel
theorem dX8_best_53 : decode cX8_best 53 = .ok (.if_icmp .gt 16, 3) := by decide +kernel
theorem dX8_best_56 : decode cX8_best 56 = .ok (.iload 7, 2) := by decide +kernel
theorem dX8_best_58 : decode cX8_best 58 = .ok (.iload_n 3, 1) := by decide +kernel
theorem dX8_best_59 : decode cX8_best 59 = .ok (.if_icmp .ne 14, 3) := by decide +kernel
theorem dX8_best_62 : decode cX8_best 62 = .ok (.iload 6, 2) := by decide +kernel
theorem dX8_best_64 : decode cX8_best 64 = .ok (.iload 4, 2) := by decide +kernel
theorem dX8_best_66 : decode cX8_best 66 = .ok (.if_icmp .ge 7, 3) := by decide +kernel
theorem dX8_best_69 : decode cX8_best 69 = .ok (.iconst 1, 1) := by decide +kernel
theorem dX8_best_70 : decode cX8_best 70 = .ok (.goto 4, 3) := by decide +kernel
theorem dX8_best_73 : decode cX8_best 73 = .ok (.iconst 0, 1) := by decide +kernel
theorem dX8_best_74 : decode cX8_best 74 = .ok (.istore 8, 2) := by decide +kernel
theorem dX8_best_76 : decode cX8_best 76 = .ok (.iload 8, 2) := by decide +kernel
theorem dX8_best_78 : decode cX8_best 78 = .ok (.ifCond .eq 28, 3) := by decide +kernel
theorem dX8_best_81 : decode cX8_best 81 = .ok (.iload 6, 2) := by decide +kernel
theorem dX8_best_83 : decode cX8_best 83 = .ok (.iload_n 1, 1) := by decide +kernel
theorem dX8_best_84 : decode cX8_best 84 = .ok (.if_icmp .gt 22, 3) := by decide +kernel
theorem dX8_best_87 : decode cX8_best 87 = .ok (.aload_n 0, 1) := by decide +kernel
theorem dX8_best_88 : decode cX8_best 88 = .ok (.iload 5, 2) := by decide +kernel
theorem dX8_best_90 : decode cX8_best 90 = .ok (.invokevirtual 188, 3) := by decide +kernel
theorem dX8_best_93 : decode cX8_best 93 = .ok (.ifCond .eq 13, 3) := by decide +kernel
theorem dX8_best_96 : decode cX8_best 96 = .ok (.iload 5, 2) := by decide +kernel
theorem dX8_best_98 : decode cX8_best 98 = .ok (.istore_n 2, 1) := by decide +kernel
theorem dX8_best_99 : decode cX8_best 99 = .ok (.iload 7, 2) := by decide +kernel
theorem dX8_best_101 : decode cX8_best 101 = .ok (.istore_n 3, 1) := by decide +kernel
theorem dX8_best_102 : decode cX8_best 102 = .ok (.iload 6, 2) := by decide +kernel
theorem dX8_best_104 : decode cX8_best 104 = .ok (.istore 4, 2) := by decide +kernel
theorem dX8_best_106 : decode cX8_best 106 = .ok (.iinc 5 1, 3) := by decide +kernel
theorem dX8_best_109 : decode cX8_best 109 = .ok (.goto (-86), 3) := by decide +kernel
theorem dX8_best_112 : decode cX8_best 112 = .ok (.iload_n 2, 1) := by decide +kernel
theorem dX8_best_113 : decode cX8_best 113 = .ok (.ireturn, 1) := by decide +kernel
theorem dX8_drill_0 : decode cX8_drill 0 = .ok (.iload_n 1, 1) := by decide +kernel
theorem dX8_drill_1 : decode cX8_drill 1 = .ok (.iconst 0, 1) := by decide +kernel
theorem dX8_drill_2 : decode cX8_drill 2 = .ok (.aload_n 0, 1) := by decide +kernel
theorem dX8_drill_3 : decode cX8_drill 3 = .ok (.getfield 169, 3) := by decide +kernel
theorem dX8_drill_6 : decode cX8_drill 6 = .ok (.iconst 1, 1) := by decide +kernel
theorem dX8_drill_7 : decode cX8_drill 7 = .ok (.isub, 1) := by decide +kernel
theorem dX8_drill_8 : decode cX8_drill 8 = .ok (.invokestatic 55, 3) := by decide +kernel
theorem dX8_drill_11 : decode cX8_drill 11 = .ok (.ifCond .eq 26, 3) := by decide +kernel
theorem dX8_drill_14 : decode cX8_drill 14 = .ok (.aload_n 0, 1) := by decide +kernel
theorem dX8_drill_15 : decode cX8_drill 15 = .ok (.getfield 29, 3) := by decide +kernel
theorem dX8_drill_18 : decode cX8_drill 18 = .ok (.iload_n 1, 1) := by decide +kernel
theorem dX8_drill_19 : decode cX8_drill 19 = .ok (.aaload, 1) := by decide +kernel
theorem dX8_drill_20 : decode cX8_drill 20 = .ok (.getfield 191, 3) := by decide +kernel
theorem dX8_drill_23 : decode cX8_drill 23 = .ok (.ifCond .ne 14, 3) := by decide +kernel
theorem dX8_drill_26 : decode cX8_drill 26 = .ok (.iload_n 2, 1) := by decide +kernel
theorem dX8_drill_27 : decode cX8_drill 27 = .ok (.iconst 0, 1) := by decide +kernel
theorem dX8_drill_28 : decode cX8_drill 28 = .ok (.sipush 5000, 3) := by decide +kernel
theorem dX8_drill_31 : decode cX8_drill 31 = .ok (.invokestatic 55, 3) := by decide +kernel
theorem dX8_drill_34 : decode cX8_drill 34 = .ok (.ifCond .ne 5, 3) := by decide +kernel
theorem dX8_drill_37 : decode cX8_drill 37 = .ok (.iconst 0, 1) := by decide +kernel
theorem dX8_drill_38 : decode cX8_drill 38 = .ok (.ireturn, 1) := by decide +kernel
theorem dX8_drill_39 : decode cX8_drill 39 = .ok (.aload_n 0, 1) := by decide +kernel
theorem dX8_drill_40 : decode cX8_drill 40 = .ok (.getfield 29, 3) := by decide +kernel
theorem dX8_drill_43 : decode cX8_drill 43 = .ok (.iload_n 1, 1) := by decide +kernel
theorem dX8_drill_44 : decode cX8_drill 44 = .ok (.aaload, 1) := by decide +kernel
theorem dX8_drill_45 : decode cX8_drill 45 = .ok (.astore_n 3, 1) := by decide +kernel
theorem dX8_drill_46 : decode cX8_drill 46 = .ok (.aload_n 3, 1) := by decide +kernel
theorem dX8_drill_47 : decode cX8_drill 47 = .ok (.iconst 1, 1) := by decide +kernel
theorem dX8_drill_48 : decode cX8_drill 48 = .ok (.putfield 191, 3) := by decide +kernel
theorem dX8_drill_51 : decode cX8_drill 51 = .ok (.aload_n 0, 1) := by decide +kernel
theorem dX8_drill_52 : decode cX8_drill 52 = .ok (.aload_n 3, 1) := by decide +kernel
theorem dX8_drill_53 : decode cX8_drill 53 = .ok (.getfield 172, 3) := by decide +kernel
theorem dX8_drill_56 : decode cX8_drill 56 = .ok (.invokevirtual 106, 3) := by decide +kernel
theorem dX8_drill_59 : decode cX8_drill 59 = .ok (.ifCond .eq 21, 3) := by decide +kernel
theorem dX8_drill_62 : decode cX8_drill 62 = .ok (.aload_n 0, 1) := by decide +kernel
theorem dX8_drill_63 : decode cX8_drill 63 = .ok (.getfield 11, 3) := by decide +kernel
theorem dX8_drill_66 : decode cX8_drill 66 = .ok (.aload_n 3, 1) := by decide +kernel
theorem dX8_drill_67 : decode cX8_drill 67 = .ok (.getfield 172, 3) := by decide +kernel
theorem dX8_drill_70 : decode cX8_drill 70 = .ok (.aaload, 1) := by decide +kernel
theorem dX8_drill_71 : decode cX8_drill 71 = .ok (.dup, 1) := by decide +kernel
theorem dX8_drill_72 : decode cX8_drill 72 = .ok (.getfield 160, 3) := by decide +kernel
theorem dX8_drill_75 : decode cX8_drill 75 = .ok (.iload_n 2, 1) := by decide +kernel
theorem dX8_drill_76 : decode cX8_drill 76 = .ok (.iadd, 1) := by decide +kernel
theorem dX8_drill_77 : decode cX8_drill 77 = .ok (.putfield 160, 3) := by decide +kernel
theorem dX8_drill_80 : decode cX8_drill 80 = .ok (.iconst 1, 1) := by decide +kernel
theorem dX8_drill_81 : decode cX8_drill 81 = .ok (.ireturn, 1) := by decide +kernel
theorem dX8_dip_0 : decode cX8_dip 0 = .ok (.aload_n 0, 1) := by decide +kernel
theorem dX8_dip_1 : decode cX8_dip 1 = .ok (.iload_n 1, 1) := by decide +kernel
theorem dX8_dip_2 : decode cX8_dip 2 = .ok (.invokevirtual 195, 3) := by decide +kernel
theorem dX8_dip_5 : decode cX8_dip 5 = .ok (.ifCond .eq 41, 3) := by decide +kernel
theorem dX8_dip_8 : decode cX8_dip 8 = .ok (.iload_n 2, 1) := by decide +kernel
theorem dX8_dip_9 : decode cX8_dip 9 = .ok (.iconst 0, 1) := by decide +kernel
theorem dX8_dip_10 : decode cX8_dip 10 = .ok (.sipush 20000, 3) := by decide +kernel
theorem dX8_dip_13 : decode cX8_dip 13 = .ok (.invokestatic 55, 3) := by decide +kernel
theorem dX8_dip_16 : decode cX8_dip 16 = .ok (.ifCond .eq 30, 3) := by decide +kernel
theorem dX8_dip_19 : decode cX8_dip 19 = .ok (.iload_n 3, 1) := by decide +kernel
theorem dX8_dip_20 : decode cX8_dip 20 = .ok (.iconst 0, 1) := by decide +kernel
theorem dX8_dip_21 : decode cX8_dip 21 = .ok (.sipush 20000, 3) := by decide +kernel
theorem dX8_dip_24 : decode cX8_dip 24 = .ok (.invokestatic 55, 3) := by decide +kernel
theorem dX8_dip_27 : decode cX8_dip 27 = .ok (.ifCond .eq 19, 3) := by decide +kernel
theorem dX8_dip_30 : decode cX8_dip 30 = .ok (.iload 4, 2) := by decide +kernel
theorem dX8_dip_32 : decode cX8_dip 32 = .ok (.iconst 0, 1) := by decide +kernel
theorem dX8_dip_33 : decode cX8_dip 33 = .ok (.sipush 2000, 3) := by decide +kernel
theorem dX8_dip_36 : decode cX8_dip 36 = .ok (.invokestatic 55, 3) := by decide +kernel
theorem dX8_dip_39 : decode cX8_dip 39 = .ok (.ifCond .eq 7, 3) := by decide +kernel
theorem dX8_dip_42 : decode cX8_dip 42 = .ok (.iconst 1, 1) := by decide +kernel
theorem dX8_dip_43 : decode cX8_dip 43 = .ok (.goto 4, 3) := by decide +kernel
theorem dX8_dip_46 : decode cX8_dip 46 = .ok (.iconst 0, 1) := by decide +kernel
theorem dX8_dip_47 : decode cX8_dip 47 = .ok (.istore 5, 2) := by decide +kernel
theorem dX8_dip_49 : decode cX8_dip 49 = .ok (.iload 5, 2) := by decide +kernel
theorem dX8_dip_51 : decode cX8_dip 51 = .ok (.ifCond .eq 12, 3) := by decide +kernel
theorem dX8_dip_54 : decode cX8_dip 54 = .ok (.aload_n 0, 1) := by decide +kernel
theorem dX8_dip_55 : decode cX8_dip 55 = .ok (.getfield 198, 3) := by decide +kernel
theorem dX8_dip_58 : decode cX8_dip 58 = .ok (.bipush 100, 2) := by decide +kernel
theorem dX8_dip_60 : decode cX8_dip 60 = .ok (.if_icmp .lt 5, 3) := by decide +kernel
theorem dX8_dip_63 : decode cX8_dip 63 = .ok (.iconst (-1), 1) := by decide +kernel
theorem dX8_dip_64 : decode cX8_dip 64 = .ok (.ireturn, 1) := by decide +kernel
theorem dX8_dip_65 : decode cX8_dip 65 = .ok (.aload_n 0, 1) := by decide +kernel
theorem dX8_dip_66 : decode cX8_dip 66 = .ok (.getfield 23, 3) := by decide +kernel
theorem dX8_dip_69 : decode cX8_dip 69 = .ok (.iload_n 1, 1) := by decide +kernel
theorem dX8_dip_70 : decode cX8_dip 70 = .ok (.aaload, 1) := by decide +kernel
theorem dX8_dip_71 : decode cX8_dip 71 = .ok (.astore 6, 2) := by decide +kernel
theorem dX8_dip_73 : decode cX8_dip 73 = .ok (.aload 6, 2) := by decide +kernel
theorem dX8_dip_75 : decode cX8_dip 75 = .ok (.dup, 1) := by decide +kernel
theorem dX8_dip_76 : decode cX8_dip 76 = .ok (.getfield 201, 3) := by decide +kernel
theorem dX8_dip_79 : decode cX8_dip 79 = .ok (.iconst 1, 1) := by decide +kernel
theorem dX8_dip_80 : decode cX8_dip 80 = .ok (.iadd, 1) := by decide +kernel
theorem dX8_dip_81 : decode cX8_dip 81 = .ok (.putfield 201, 3) := by decide +kernel
theorem dX8_dip_84 : decode cX8_dip 84 = .ok (.aload 6, 2) := by decide +kernel
theorem dX8_dip_86 : decode cX8_dip 86 = .ok (.dup, 1) := by decide +kernel
theorem dX8_dip_87 : decode cX8_dip 87 = .ok (.getfield 204, 3) := by decide +kernel
theorem dX8_dip_90 : decode cX8_dip 90 = .ok (.iload_n 2, 1) := by decide +kernel
theorem dX8_dip_91 : decode cX8_dip 91 = .ok (.iload_n 3, 1) := by decide +kernel
theorem dX8_dip_92 : decode cX8_dip 92 = .ok (.isub, 1) := by decide +kernel
theorem dX8_dip_93 : decode cX8_dip 93 = .ok (.iadd, 1) := by decide +kernel
theorem dX8_dip_94 : decode cX8_dip 94 = .ok (.putfield 204, 3) := by decide +kernel
theorem dX8_dip_97 : decode cX8_dip 97 = .ok (.aload 6, 2) := by decide +kernel
theorem dX8_dip_99 : decode cX8_dip 99 = .ok (.dup, 1) := by decide +kernel
theorem dX8_dip_100 : decode cX8_dip 100 = .ok (.getfield 207, 3) := by decide +kernel
theorem dX8_dip_103 : decode cX8_dip 103 = .ok (.iload 4, 2) := by decide +kernel
theorem dX8_dip_105 : decode cX8_dip 105 = .ok (.iadd, 1) := by decide +kernel
theorem dX8_dip_106 : decode cX8_dip 106 = .ok (.putfield 207, 3) := by decide +kernel
theorem dX8_dip_109 : decode cX8_dip 109 = .ok (.aload_n 0, 1) := by decide +kernel
theorem dX8_dip_110 : decode cX8_dip 110 = .ok (.dup, 1) := by decide +kernel
theorem dX8_dip_111 : decode cX8_dip 111 = .ok (.getfield 198, 3) := by decide +kernel
theorem dX8_dip_114 : decode cX8_dip 114 = .ok (.iconst 1, 1) := by decide +kernel
theorem dX8_dip_115 : decode cX8_dip 115 = .ok (.iadd, 1) := by decide +kernel
theorem dX8_dip_116 : decode cX8_dip 116 = .ok (.putfield 198, 3) := by decide +kernel
theorem dX8_dip_119 : decode cX8_dip 119 = .ok (.aload 6, 2) := by decide +kernel
theorem dX8_dip_121 : decode cX8_dip 121 = .ok (.getfield 201, 3) := by decide +kernel
theorem dX8_dip_124 : decode cX8_dip 124 = .ok (.ireturn, 1) := by decide +kernel
theorem dX8_isShort_0 : decode cX8_isShort 0 = .ok (.aload_n 0, 1) := by decide +kernel
theorem dX8_isShort_1 : decode cX8_isShort 1 = .ok (.iload_n 1, 1) := by decide +kernel
theorem dX8_isShort_2 : decode cX8_isShort 2 = .ok (.invokevirtual 195, 3) := by decide +kernel
theorem dX8_isShort_5 : decode cX8_isShort 5 = .ok (.ifCond .ne 5, 3) := by decide +kernel
theorem dX8_isShort_8 : decode cX8_isShort 8 = .ok (.iconst (-1), 1) := by decide +kernel
theorem dX8_isShort_9 : decode cX8_isShort 9 = .ok (.ireturn, 1) := by decide +kernel
theorem dX8_isShort_10 : decode cX8_isShort 10 = .ok (.aload_n 0, 1) := by decide +kernel
theorem dX8_isShort_11 : decode cX8_isShort 11 = .ok (.getfield 23, 3) := by decide +kernel
theorem dX8_isShort_14 : decode cX8_isShort 14 = .ok (.iload_n 1, 1) := by decide +kernel
theorem dX8_isShort_15 : decode cX8_isShort 15 = .ok (.aaload, 1) := by decide +kernel
theorem dX8_isShort_16 : decode cX8_isShort 16 = .ok (.astore_n 2, 1) := by decide +kernel
theorem dX8_isShort_17 : decode cX8_isShort 17 = .ok (.aload_n 2, 1) := by decide +kernel
theorem dX8_isShort_18 : decode cX8_isShort 18 = .ok (.getfield 201, 3) := by decide +kernel
theorem dX8_isShort_21 : decode cX8_isShort 21 = .ok (.iconst 3, 1) := by decide +kernel
theorem dX8_isShort_22 : decode cX8_isShort 22 = .ok (.if_icmp .lt 18, 3) := by decide +kernel
theorem dX8_isShort_25 : decode cX8_isShort 25 = .ok (.aload_n 2, 1) := by decide +kernel
theorem dX8_isShort_26 : decode cX8_isShort 26 = .ok (.getfield 204, 3) := by decide +kernel
theorem dX8_isShort_29 : decode cX8_isShort 29 = .ok (.aload_n 2, 1) := by decide +kernel
theorem dX8_isShort_30 : decode cX8_isShort 30 = .ok (.getfield 207, 3) := by decide +kernel
theorem dX8_isShort_33 : decode cX8_isShort 33 = .ok (.if_icmp .le 7, 3) := by decide +kernel
theorem dX8_isShort_36 : decode cX8_isShort 36 = .ok (.iconst 1, 1) := by decide +kernel
theorem dX8_isShort_37 : decode cX8_isShort 37 = .ok (.goto 4, 3) := by decide +kernel
theorem dX8_isShort_40 : decode cX8_isShort 40 = .ok (.iconst 0, 1) := by decide +kernel
theorem dX8_isShort_41 : decode cX8_isShort 41 = .ok (.ireturn, 1) := by decide +kernel
theorem dX8_share_0 : decode cX8_share 0 = .ok (.aload_n 0, 1) := by decide +kernel
theorem dX8_share_1 : decode cX8_share 1 = .ok (.iload_n 1, 1) := by decide +kernel
theorem dX8_share_2 : decode cX8_share 2 = .ok (.invokevirtual 106, 3) := by decide +kernel
theorem dX8_share_5 : decode cX8_share 5 = .ok (.ifCond .ne 5, 3) := by decide +kernel
theorem dX8_share_8 : decode cX8_share 8 = .ok (.iconst (-1), 1) := by decide +kernel
theorem dX8_share_9 : decode cX8_share 9 = .ok (.ireturn, 1) := by decide +kernel
theorem dX8_share_10 : decode cX8_share 10 = .ok (.aload_n 0, 1) := by decide +kernel
theorem dX8_share_11 : decode cX8_share 11 = .ok (.getfield 11, 3) := by decide +kernel
theorem dX8_share_14 : decode cX8_share 14 = .ok (.iload_n 1, 1) := by decide +kernel
theorem dX8_share_15 : decode cX8_share 15 = .ok (.aaload, 1) := by decide +kernel
theorem dX8_share_16 : decode cX8_share 16 = .ok (.astore_n 2, 1) := by decide +kernel
theorem dX8_share_17 : decode cX8_share 17 = .ok (.aload_n 2, 1) := by decide +kernel
theorem dX8_share_18 : decode cX8_share 18 = .ok (.getfield 64, 3) := by decide +kernel
theorem dX8_share_21 : decode cX8_share 21 = .ok (.bipush 7, 2) := by decide +kernel
theorem dX8_share_23 : decode cX8_share 23 = .ok (.aload_n 0, 1) := by decide +kernel
theorem dX8_share_24 : decode cX8_share 24 = .ok (.getfield 154, 3) := by decide +kernel
theorem dX8_share_27 : decode cX8_share 27 = .ok (.invokestatic 163, 3) := by decide +kernel
theorem dX8_share_30 : decode cX8_share 30 = .ok (.imul, 1) := by decide +kernel
theorem dX8_share_31 : decode cX8_share 31 = .ok (.istore_n 3, 1) := by decide +kernel
theorem dX8_share_32 : decode cX8_share 32 = .ok (.iload_n 3, 1) := by decide +kernel
theorem dX8_share_33 : decode cX8_share 33 = .ok (.ifCond .le 15, 3) := by decide +kernel
theorem dX8_share_36 : decode cX8_share 36 = .ok (.aload_n 2, 1) := by decide +kernel
theorem dX8_share_37 : decode cX8_share 37 = .ok (.invokevirtual 210, 3) := by decide +kernel
theorem dX8_share_40 : decode cX8_share 40 = .ok (.bipush 100, 2) := by decide +kernel
theorem dX8_share_42 : decode cX8_share 42 = .ok (.imul, 1) := by decide +kernel
theorem dX8_share_43 : decode cX8_share 43 = .ok (.iload_n 3, 1) := by decide +kernel
theorem dX8_share_44 : decode cX8_share 44 = .ok (.idiv, 1) := by decide +kernel
theorem dX8_share_45 : decode cX8_share 45 = .ok (.goto 4, 3) := by decide +kernel
theorem dX8_share_48 : decode cX8_share 48 = .ok (.iconst 0, 1) := by decide +kernel
theorem dX8_share_49 : decode cX8_share 49 = .ok (.ireturn, 1) := by decide +kernel
theorem dX8_look_0 : decode cX8_look 0 = .ok (.aload_n 0, 1) := by decide +kernel
theorem dX8_look_1 : decode cX8_look 1 = .ok (.iload_n 1, 1) := by decide +kernel
theorem dX8_look_2 : decode cX8_look 2 = .ok (.invokevirtual 106, 3) := by decide +kernel
theorem dX8_look_5 : decode cX8_look 5 = .ok (.ifCond .eq 13, 3) := by decide +kernel
theorem dX8_look_8 : decode cX8_look 8 = .ok (.iload_n 2, 1) := by decide +kernel
theorem dX8_look_9 : decode cX8_look 9 = .ok (.iconst 0, 1) := by decide +kernel
theorem dX8_look_10 : decode cX8_look 10 = .ok (.bipush 8, 2) := by decide +kernel
theorem dX8_look_12 : decode cX8_look 12 = .ok (.invokestatic 55, 3) := by decide +kernel
theorem dX8_look_15 : decode cX8_look 15 = .ok (.ifCond .ne 11, 3) := by decide +kernel
theorem dX8_look_18 : decode cX8_look 18 = .ok (.new 213, 3) := by decide +kernel
theorem dX8_look_21 : decode cX8_look 21 = .ok (.dup, 1) := by decide +kernel
theorem dX8_look_22 : decode cX8_look 22 = .ok (.invokespecial 215, 3) := by decide +kernel
theorem dX8_look_25 : decode cX8_look 25 = .ok (.athrow, 1) := by decide +kernel
theorem dX8_look_26 : decode cX8_look 26 = .ok (.aload_n 0, 1) := by decide +kernel
theorem dX8_look_27 : decode cX8_look 27 = .ok (.getfield 11, 3) := by decide +kernel
theorem dX8_look_30 : decode cX8_look 30 = .ok (.iload_n 1, 1) := by decide +kernel
theorem dX8_look_31 : decode cX8_look 31 = .ok (.aaload, 1) := by decide +kernel
theorem dX8_look_32 : decode cX8_look 32 = .ok (.iload_n 2, 1) := by decide +kernel
theorem dX8_look_33 : decode cX8_look 33 = .ok (.invokevirtual 216, 3) := by decide +kernel
theorem dX8_look_36 : decode cX8_look 36 = .ok (.ireturn, 1) := by decide +kernel
theorem dX8_flows_0 : decode cX8_flows 0 = .ok (.aload_n 0, 1) := by decide +kernel
theorem dX8_flows_1 : decode cX8_flows 1 = .ok (.iload_n 1, 1) := by decide +kernel
theorem dX8_flows_2 : decode cX8_flows 2 = .ok (.invokevirtual 90, 3) := by decide +kernel
theorem dX8_flows_5 : decode cX8_flows 5 = .ok (.ifCond .eq 12, 3) := by decide +kernel
theorem dX8_flows_8 : decode cX8_flows 8 = .ok (.iload_n 2, 1) := by decide +kernel
theorem dX8_flows_9 : decode cX8_flows 9 = .ok (.iconst 0, 1) := by decide +kernel
theorem dX8_flows_10 : decode cX8_flows 10 = .ok (.iconst 1, 1) := by decide +kernel
theorem dX8_flows_11 : decode cX8_flows 11 = .ok (.invokestatic 55, 3) := by decide +kernel
theorem dX8_flows_14 : decode cX8_flows 14 = .ok (.ifCond .ne 5, 3) := by decide +kernel
theorem dX8_flows_17 : decode cX8_flows 17 = .ok (.iconst (-1), 1) := by decide +kernel
theorem dX8_flows_18 : decode cX8_flows 18 = .ok (.ireturn, 1) := by decide +kernel
theorem dX8_flows_19 : decode cX8_flows 19 = .ok (.iload_n 2, 1) := by decide +kernel
theorem dX8_flows_20 : decode cX8_flows 20 = .ok (.ifCond .ne 15, 3) := by decide +kernel
theorem dX8_flows_23 : decode cX8_flows 23 = .ok (.aload_n 0, 1) := by decide +kernel
theorem dX8_flows_24 : decode cX8_flows 24 = .ok (.getfield 17, 3) := by decide +kernel
theorem dX8_flows_27 : decode cX8_flows 27 = .ok (.iload_n 1, 1) := by decide +kernel
theorem dX8_flows_28 : decode cX8_flows 28 = .ok (.aaload, 1) := by decide +kernel
theorem dX8_flows_29 : decode cX8_flows 29 = .ok (.getfield 80, 3) := by decide +kernel
theorem dX8_flows_32 : decode cX8_flows 32 = .ok (.goto 12, 3) := by decide +kernel
theorem dX8_flows_35 : decode cX8_flows 35 = .ok (.aload_n 0, 1) := by decide +kernel
theorem dX8_flows_36 : decode cX8_flows 36 = .ok (.getfield 17, 3) := by decide +kernel
theorem dX8_flows_39 : decode cX8_flows 39 = .ok (.iload_n 1, 1) := by decide +kernel
theorem dX8_flows_40 : decode cX8_flows 40 = .ok (.aaload, 1) := by decide +kernel
theorem dX8_flows_41 : decode cX8_flows 41 = .ok (.getfield 86, 3) := by decide +kernel
theorem dX8_flows_44 : decode cX8_flows 44 = .ok (.ireturn, 1) := by decide +kernel
theorem dX8_goes_0 : decode cX8_goes 0 = .ok (.aload_n 0, 1) := by decide +kernel
theorem dX8_goes_1 : decode cX8_goes 1 = .ok (.iload_n 1, 1) := by decide +kernel
theorem dX8_goes_2 : decode cX8_goes 2 = .ok (.invokevirtual 195, 3) := by decide +kernel
theorem dX8_goes_5 : decode cX8_goes 5 = .ok (.ifCond .eq 12, 3) := by decide +kernel
theorem dX8_goes_8 : decode cX8_goes 8 = .ok (.iload_n 2, 1) := by decide +kernel
theorem dX8_goes_9 : decode cX8_goes 9 = .ok (.iconst 0, 1) := by decide +kernel
theorem dX8_goes_10 : decode cX8_goes 10 = .ok (.iconst 2, 1) := by decide +kernel
theorem dX8_goes_11 : decode cX8_goes 11 = .ok (.invokestatic 55, 3) := by decide +kernel
theorem dX8_goes_14 : decode cX8_goes 14 = .ok (.ifCond .ne 5, 3) := by decide +kernel
theorem dX8_goes_17 : decode cX8_goes 17 = .ok (.iconst (-1), 1) := by decide +kernel
theorem dX8_goes_18 : decode cX8_goes 18 = .ok (.ireturn, 1) := by decide +kernel
theorem dX8_goes_19 : decode cX8_goes 19 = .ok (.aload_n 0, 1) := by decide +kernel
theorem dX8_goes_20 : decode cX8_goes 20 = .ok (.getfield 23, 3) := by decide +kernel
theorem dX8_goes_23 : decode cX8_goes 23 = .ok (.iload_n 1, 1) := by decide +kernel
theorem dX8_goes_24 : decode cX8_goes 24 = .ok (.aaload, 1) := by decide +kernel
theorem dX8_goes_25 : decode cX8_goes 25 = .ok (.astore_n 3, 1) := by decide +kernel
theorem dX8_goes_26 : decode cX8_goes 26 = .ok (.iload_n 2, 1) := by decide +kernel
theorem dX8_goes_27 : decode cX8_goes 27 = .ok (.ifCond .ne 8, 3) := by decide +kernel
theorem dX8_goes_30 : decode cX8_goes 30 = .ok (.aload_n 3, 1) := by decide +kernel
theorem dX8_goes_31 : decode cX8_goes 31 = .ok (.getfield 219, 3) := by decide +kernel
theorem dX8_goes_34 : decode cX8_goes 34 = .ok (.ireturn, 1) := by decide +kernel
theorem dX8_goes_35 : decode cX8_goes 35 = .ok (.iload_n 2, 1) := by decide +kernel
theorem dX8_goes_36 : decode cX8_goes 36 = .ok (.iconst 1, 1) := by decide +kernel
theorem dX8_goes_37 : decode cX8_goes 37 = .ok (.if_icmp .ne 10, 3) := by decide +kernel
theorem dX8_goes_40 : decode cX8_goes 40 = .ok (.aload_n 3, 1) := by decide +kernel
theorem dX8_goes_41 : decode cX8_goes 41 = .ok (.getfield 222, 3) := by decide +kernel
theorem dX8_goes_44 : decode cX8_goes 44 = .ok (.goto 7, 3) := by decide +kernel
theorem dX8_goes_47 : decode cX8_goes 47 = .ok (.aload_n 3, 1) := by decide +kernel
theorem dX8_goes_48 : decode cX8_goes 48 = .ok (.getfield 225, 3) := by decide +kernel
theorem dX8_goes_51 : decode cX8_goes 51 = .ok (.ireturn, 1) := by decide +kernel
theorem dX8_count_0 : decode cX8_count 0 = .ok (.iload_n 1, 1) := by decide +kernel
theorem dX8_count_1 : decode cX8_count 1 = .ok (.tableswitch 117 0 9 #[55, 60, 65, 70, 75, 80, 85, 90, 95, 106], 55) := by decide +kernel
theorem dX8_count_56 : decode cX8_count 56 = .ok (.aload_n 0, 1) := by decide +kernel
theorem dX8_count_57 : decode cX8_count 57 = .ok (.getfield 60, 3) := by decide +kernel
theorem dX8_count_60 : decode cX8_count 60 = .ok (.ireturn, 1) := by decide +kernel
theorem dX8_count_61 : decode cX8_count 61 = .ok (.aload_n 0, 1) := by decide +kernel
theorem dX8_count_62 : decode cX8_count 62 = .ok (.getfield 77, 3) := by decide +kernel
theorem dX8_count_65 : decode cX8_count 65 = .ok (.ireturn, 1) := by decide +kernel
theorem dX8_count_66 : decode cX8_count 66 = .ok (.aload_n 0, 1) := by decide +kernel
theorem dX8_count_67 : decode cX8_count 67 = .ok (.getfield 94, 3) := by decide +kernel
theorem dX8_count_70 : decode cX8_count 70 = .ok (.ireturn, 1) := by decide +kernel
theorem dX8_count_71 : decode cX8_count 71 = .ok (.aload_n 0, 1) := by decide +kernel
theorem dX8_count_72 : decode cX8_count 72 = .ok (.getfield 154, 3) := by decide +kernel
theorem dX8_count_75 : decode cX8_count 75 = .ok (.ireturn, 1) := by decide +kernel
theorem dX8_count_76 : decode cX8_count 76 = .ok (.aload_n 0, 1) := by decide +kernel
theorem dX8_count_77 : decode cX8_count 77 = .ok (.getfield 228, 3) := by decide +kernel
theorem dX8_count_80 : decode cX8_count 80 = .ok (.ireturn, 1) := by decide +kernel
theorem dX8_count_81 : decode cX8_count 81 = .ok (.aload_n 0, 1) := by decide +kernel
theorem dX8_count_82 : decode cX8_count 82 = .ok (.getfield 231, 3) := by decide +kernel
theorem dX8_count_85 : decode cX8_count 85 = .ok (.ireturn, 1) := by decide +kernel
theorem dX8_count_86 : decode cX8_count 86 = .ok (.aload_n 0, 1) := by decide +kernel
theorem dX8_count_87 : decode cX8_count 87 = .ok (.getfield 169, 3) := by decide +kernel
theorem dX8_count_90 : decode cX8_count 90 = .ok (.ireturn, 1) := by decide +kernel
theorem dX8_count_91 : decode cX8_count 91 = .ok (.aload_n 0, 1) := by decide +kernel
theorem dX8_count_92 : decode cX8_count 92 = .ok (.getfield 198, 3) := by decide +kernel
theorem dX8_count_95 : decode cX8_count 95 = .ok (.ireturn, 1) := by decide +kernel
theorem dX8_count_96 : decode cX8_count 96 = .ok (.aload_n 0, 1) := by decide +kernel
theorem dX8_count_97 : decode cX8_count 97 = .ok (.getfield 40, 3) := by decide +kernel
theorem dX8_count_100 : decode cX8_count 100 = .ok (.getfield 234, 3) := by decide +kernel
theorem dX8_count_103 : decode cX8_count 103 = .ok (.getfield 238, 3) := by decide +kernel
theorem dX8_count_106 : decode cX8_count 106 = .ok (.ireturn, 1) := by decide +kernel
theorem dX8_count_107 : decode cX8_count 107 = .ok (.aload_n 0, 1) := by decide +kernel
theorem dX8_count_108 : decode cX8_count 108 = .ok (.getfield 40, 3) := by decide +kernel
theorem dX8_count_111 : decode cX8_count 111 = .ok (.getfield 112, 3) := by decide +kernel
theorem dX8_count_114 : decode cX8_count 114 = .ok (.getfield 122, 3) := by decide +kernel
theorem dX8_count_117 : decode cX8_count 117 = .ok (.ireturn, 1) := by decide +kernel
theorem dX8_count_118 : decode cX8_count 118 = .ok (.iconst (-1), 1) := by decide +kernel
theorem dX8_count_119 : decode cX8_count 119 = .ok (.ireturn, 1) := by decide +kernel
theorem dX8_within_0 : decode cX8_within 0 = .ok (.iload_n 0, 1) := by decide +kernel
theorem dX8_within_1 : decode cX8_within 1 = .ok (.iload_n 1, 1) := by decide +kernel
theorem dX8_within_2 : decode cX8_within 2 = .ok (.if_icmp .lt 12, 3) := by decide +kernel
theorem dX8_within_5 : decode cX8_within 5 = .ok (.iload_n 0, 1) := by decide +kernel
theorem dX8_within_6 : decode cX8_within 6 = .ok (.iload_n 2, 1) := by decide +kernel
theorem dX8_within_7 : decode cX8_within 7 = .ok (.if_icmp .gt 7, 3) := by decide +kernel
theorem dX8_within_10 : decode cX8_within 10 = .ok (.iconst 1, 1) := by decide +kernel
theorem dX8_within_11 : decode cX8_within 11 = .ok (.goto 4, 3) := by decide +kernel
theorem dX8_within_14 : decode cX8_within 14 = .ok (.iconst 0, 1) := by decide +kernel
theorem dX8_within_15 : decode cX8_within 15 = .ok (.ireturn, 1) := by decide +kernel
theorem dX8_isVillage_0 : decode cX8_isVillage 0 = .ok (.iload_n 1, 1) := by decide +kernel
theorem dX8_isVillage_1 : decode cX8_isVillage 1 = .ok (.iconst 0, 1) := by decide +kernel
theorem dX8_isVillage_2 : decode cX8_isVillage 2 = .ok (.aload_n 0, 1) := by decide +kernel
theorem dX8_isVillage_3 : decode cX8_isVillage 3 = .ok (.getfield 60, 3) := by decide +kernel
theorem dX8_isVillage_6 : decode cX8_isVillage 6 = .ok (.iconst 1, 1) := by decide +kernel
theorem dX8_isVillage_7 : decode cX8_isVillage 7 = .ok (.isub, 1) := by decide +kernel
theorem dX8_isVillage_8 : decode cX8_isVillage 8 = .ok (.invokestatic 55, 3) := by decide +kernel
theorem dX8_isVillage_11 : decode cX8_isVillage 11 = .ok (.ireturn, 1) := by decide +kernel
theorem dX8_isSpring_0 : decode cX8_isSpring 0 = .ok (.iload_n 1, 1) := by decide +kernel
theorem dX8_isSpring_1 : decode cX8_isSpring 1 = .ok (.iconst 0, 1) := by decide +kernel
theorem dX8_isSpring_2 : decode cX8_isSpring 2 = .ok (.aload_n 0, 1) := by decide +kernel
theorem dX8_isSpring_3 : decode cX8_isSpring 3 = .ok (.getfield 77, 3) := by decide +kernel
theorem dX8_isSpring_6 : decode cX8_isSpring 6 = .ok (.iconst 1, 1) := by decide +kernel
theorem dX8_isSpring_7 : decode cX8_isSpring 7 = .ok (.isub, 1) := by decide +kernel
theorem dX8_isSpring_8 : decode cX8_isSpring 8 = .ok (.invokestatic 55, 3) := by decide +kernel
theorem dX8_isSpring_11 : decode cX8_isSpring 11 = .ok (.ireturn, 1) := by decide +kernel
theorem dX8_isTanker_0 : decode cX8_isTanker 0 = .ok (.iload_n 1, 1) := by decide +kernel
theorem dX8_isTanker_1 : decode cX8_isTanker 1 = .ok (.iconst 0, 1) := by decide +kernel
theorem dX8_isTanker_2 : decode cX8_isTanker 2 = .ok (.aload_n 0, 1) := by decide +kernel
theorem dX8_isTanker_3 : decode cX8_isTanker 3 = .ok (.getfield 94, 3) := by decide +kernel
theorem dX8_isTanker_6 : decode cX8_isTanker 6 = .ok (.iconst 1, 1) := by decide +kernel
theorem dX8_isTanker_7 : decode cX8_isTanker 7 = .ok (.isub, 1) := by decide +kernel
theorem dX8_isTanker_8 : decode cX8_isTanker 8 = .ok (.invokestatic 55, 3) := by decide +kernel
theorem dX8_isTanker_11 : decode cX8_isTanker 11 = .ok (.ireturn, 1) := by decide +kernel
theorem dX8_wantOf_0 : decode cX8_wantOf 0 = .ok (.aload_n 0, 1) := by decide +kernel
theorem dX8_wantOf_1 : decode cX8_wantOf 1 = .ok (.getfield 33, 3) := by decide +kernel
theorem dX8_wantOf_4 : decode cX8_wantOf 4 = .ok (.iconst 0, 1) := by decide +kernel
theorem dX8_wantOf_5 : decode cX8_wantOf 5 = .ok (.aload_n 0, 1) := by decide +kernel
theorem dX8_wantOf_6 : decode cX8_wantOf 6 = .ok (.getfield 154, 3) := by decide +kernel
theorem dX8_wantOf_9 : decode cX8_wantOf 9 = .ok (.iconst 1, 1) := by decide +kernel
theorem dX8_wantOf_10 : decode cX8_wantOf 10 = .ok (.iadd, 1) := by decide +kernel
theorem dX8_wantOf_11 : decode cX8_wantOf 11 = .ok (.iastore, 1) := by decide +kernel
theorem dX8_wantOf_12 : decode cX8_wantOf 12 = .ok (.aload_n 0, 1) := by decide +kernel
theorem dX8_wantOf_13 : decode cX8_wantOf 13 = .ok (.getfield 33, 3) := by decide +kernel
theorem dX8_wantOf_16 : decode cX8_wantOf 16 = .ok (.iconst 1, 1) := by decide +kernel
theorem dX8_wantOf_17 : decode cX8_wantOf 17 = .ok (.aload_n 1, 1) := by decide +kernel
theorem dX8_wantOf_18 : decode cX8_wantOf 18 = .ok (.getfield 64, 3) := by decide +kernel
theorem dX8_wantOf_21 : decode cX8_wantOf 21 = .ok (.iastore, 1) := by decide +kernel
theorem dX8_wantOf_22 : decode cX8_wantOf 22 = .ok (.aload_n 0, 1) := by decide +kernel
theorem dX8_wantOf_23 : decode cX8_wantOf 23 = .ok (.getfield 33, 3) := by decide +kernel
theorem dX8_wantOf_26 : decode cX8_wantOf 26 = .ok (.iconst 2, 1) := by decide +kernel
theorem dX8_wantOf_27 : decode cX8_wantOf 27 = .ok (.aload_n 1, 1) := by decide +kernel
theorem dX8_wantOf_28 : decode cX8_wantOf 28 = .ok (.getfield 67, 3) := by decide +kernel
theorem dX8_wantOf_31 : decode cX8_wantOf 31 = .ok (.iastore, 1) := by decide +kernel
theorem dX8_wantOf_32 : decode cX8_wantOf 32 = .ok (.aload_n 0, 1) := by decide +kernel
theorem dX8_wantOf_33 : decode cX8_wantOf 33 = .ok (.getfield 33, 3) := by decide +kernel
theorem dX8_wantOf_36 : decode cX8_wantOf 36 = .ok (.iconst 3, 1) := by decide +kernel
theorem dX8_wantOf_37 : decode cX8_wantOf 37 = .ok (.aload_n 1, 1) := by decide +kernel
theorem dX8_wantOf_38 : decode cX8_wantOf 38 = .ok (.getfield 243, 3) := by decide +kernel
theorem dX8_wantOf_41 : decode cX8_wantOf 41 = .ok (.iastore, 1) := by decide +kernel
theorem dX8_wantOf_42 : decode cX8_wantOf 42 = .ok (.aload_n 0, 1) := by decide +kernel
theorem dX8_wantOf_43 : decode cX8_wantOf 43 = .ok (.getfield 33, 3) := by decide +kernel
theorem dX8_wantOf_46 : decode cX8_wantOf 46 = .ok (.iconst 4, 1) := by decide +kernel
theorem dX8_wantOf_47 : decode cX8_wantOf 47 = .ok (.aload_n 1, 1) := by decide +kernel
theorem dX8_wantOf_48 : decode cX8_wantOf 48 = .ok (.invokevirtual 246, 3) := by decide +kernel
theorem dX8_wantOf_51 : decode cX8_wantOf 51 = .ok (.iastore, 1) := by decide +kernel
theorem dX8_wantOf_52 : decode cX8_wantOf 52 = .ok (.aload_n 0, 1) := by decide +kernel
theorem dX8_wantOf_53 : decode cX8_wantOf 53 = .ok (.getfield 33, 3) := by decide +kernel
theorem dX8_wantOf_56 : decode cX8_wantOf 56 = .ok (.iconst 5, 1) := by decide +kernel
theorem dX8_wantOf_57 : decode cX8_wantOf 57 = .ok (.aload_n 0, 1) := by decide +kernel
