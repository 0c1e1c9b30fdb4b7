theorem obI : Cond.instanceMethod Lib.objectInit ∈ gT := gT_at 26 (by decide +kernel) rfl
theorem obC : Cond.code Lib.objectInit ⟨#[0xb1]⟩ 1 none ∈ gT := gT_at 27 (by decide +kernel) rfl
theorem arr_I : Cond.arrayClass .int ∈ gT := gT_at 68 (by decide +kernel) rfl
theorem arr_C : Cond.arrayClass .char ∈ gT := gT_at 69 (by decide +kernel) rfl
theorem arr_Z : Cond.arrayClass .boolean ∈ gT := gT_at 1072 (by decide +kernel) rfl
theorem arr_J : Cond.arrayClass .long ∈ gT := gT_at 1071 (by decide +kernel) rfl
theorem ob_X8_1 : Cond.methodLink RX8 1 Lib.objectInit ∈ gT := gT_at 25 (by decide +kernel) rfl
theorem ob_X3_3 : Cond.methodLink RX3 3 Lib.objectInit ∈ gT := gT_at 41 (by decide +kernel) rfl
theorem ob_X6_3 : Cond.methodLink RX6 3 Lib.objectInit ∈ gT := gT_at 47 (by decide +kernel) rfl
theorem ob_X1_3 : Cond.methodLink RX1 3 Lib.objectInit ∈ gT := gT_at 75 (by decide +kernel) rfl
theorem ob_X2_3 : Cond.methodLink RX2 3 Lib.objectInit ∈ gT := gT_at 126 (by decide +kernel) rfl
theorem ob_X7_3 : Cond.methodLink RX7 3 Lib.objectInit ∈ gT := gT_at 192 (by decide +kernel) rfl
theorem ob_X4_3 : Cond.methodLink RX4 3 Lib.objectInit ∈ gT := gT_at 240 (by decide +kernel) rfl
theorem ob_X5_1 : Cond.methodLink RX5 1 Lib.objectInit ∈ gT := gT_at 266 (by decide +kernel) rfl
theorem ob_X0_1 : Cond.methodLink RX0 1 Lib.objectInit ∈ gT := gT_at 302 (by decide +kernel) rfl
theorem ob_X9_18 : Cond.methodLink RX9 18 Lib.objectInit ∈ gT := gT_at 846 (by decide +kernel) rfl
theorem nw_L_8 : gNw RL 8 8 := ⟨RX8, TX8, tyX8, rfl, gu8, tyX8_ok, gT_at 20 (by decide +kernel) rfl, gT_at 21 (by decide +kernel) rfl, gT_at 1 (by decide +kernel) rfl, by decide⟩
theorem cl_L_8 : Cond.classLink RL 8 "WaterCarts" ∈ gT := gT_at 20 (by decide +kernel) rfl
theorem nw_X8_9 : gNw RX8 9 7 := ⟨RX7, TX7, tyX7, rfl, gu7, tyX7_ok, gT_at 28 (by decide +kernel) rfl, gT_at 188 (by decide +kernel) rfl, gT_at 6 (by decide +kernel) rfl, by decide⟩
theorem cl_X8_9 : Cond.classLink RX8 9 "WaterCarts$Village" ∈ gT := gT_at 28 (by decide +kernel) rfl
theorem nw_X8_15 : gNw RX8 15 4 := ⟨RX4, TX4, tyX4, rfl, gu4, tyX4_ok, gT_at 30 (by decide +kernel) rfl, gT_at 236 (by decide +kernel) rfl, gT_at 7 (by decide +kernel) rfl, by decide⟩
theorem cl_X8_15 : Cond.classLink RX8 15 "WaterCarts$Spring" ∈ gT := gT_at 30 (by decide +kernel) rfl
theorem nw_X8_21 : gNw RX8 21 5 := ⟨RX5, TX5, tyX5, rfl, gu5, tyX5_ok, gT_at 32 (by decide +kernel) rfl, gT_at 262 (by decide +kernel) rfl, gT_at 8 (by decide +kernel) rfl, by decide⟩
theorem cl_X8_21 : Cond.classLink RX8 21 "WaterCarts$Tanker" ∈ gT := gT_at 32 (by decide +kernel) rfl
theorem nw_X8_27 : gNw RX8 27 0 := ⟨RX0, TX0, tyX0, rfl, gu0, tyX0_ok, gT_at 34 (by decide +kernel) rfl, gT_at 298 (by decide +kernel) rfl, gT_at 9 (by decide +kernel) rfl, by decide⟩
theorem cl_X8_27 : Cond.classLink RX8 27 "WaterCarts$Bore" ∈ gT := gT_at 34 (by decide +kernel) rfl
theorem nw_X8_37 : gNw RX8 37 3 := ⟨RX3, TX3, tyX3, rfl, gu3, tyX3_ok, gT_at 36 (by decide +kernel) rfl, gT_at 37 (by decide +kernel) rfl, gT_at 2 (by decide +kernel) rfl, by decide⟩
theorem cl_X8_37 : Cond.classLink RX8 37 "WaterCarts$Reader" ∈ gT := gT_at 36 (by decide +kernel) rfl
theorem nw_X3_9 : gNw RX3 9 6 := ⟨RX6, TX6, tyX6, rfl, gu6, tyX6_ok, gT_at 42 (by decide +kernel) rfl, gT_at 43 (by decide +kernel) rfl, gT_at 3 (by decide +kernel) rfl, by decide⟩
theorem cl_X3_9 : Cond.classLink RX3 9 "WaterCarts$Tape" ∈ gT := gT_at 42 (by decide +kernel) rfl
theorem nw_X3_18 : gNw RX3 18 1 := ⟨RX1, TX1, tyX1, rfl, gu1, tyX1_ok, gT_at 70 (by decide +kernel) rfl, gT_at 71 (by decide +kernel) rfl, gT_at 4 (by decide +kernel) rfl, by decide⟩
theorem cl_X3_18 : Cond.classLink RX3 18 "WaterCarts$Orders" ∈ gT := gT_at 70 (by decide +kernel) rfl
theorem nw_X8_44 : gNw RX8 44 2 := ⟨RX2, TX2, tyX2, rfl, gu2, tyX2_ok, gT_at 121 (by decide +kernel) rfl, gT_at 122 (by decide +kernel) rfl, gT_at 5 (by decide +kernel) rfl, by decide⟩
theorem cl_X8_44 : Cond.classLink RX8 44 "WaterCarts$Planner" ∈ gT := gT_at 121 (by decide +kernel) rfl
theorem cl_X2_33 : Cond.classLink RX2 33 "[[I" ∈ gT := gT_at 127 (by decide +kernel) rfl
theorem cl_L_13 : Cond.classLink RL 13 "java/util/NoSuchElementException" ∈ gT := gT_at 759 (by decide +kernel) rfl
theorem cl_X8_213 : Cond.classLink RX8 213 "java/util/NoSuchElementException" ∈ gT := gT_at 764 (by decide +kernel) rfl
theorem nw_L_16 : gNw RL 16 9 := ⟨RX9, TX9, tyX9, rfl, gu9, tyX9_ok, gT_at 842 (by decide +kernel) rfl, gT_at 840 (by decide +kernel) rfl, gT_at 10 (by decide +kernel) rfl, by decide⟩
theorem cl_L_16 : Cond.classLink RL 16 "WaterCartsModel" ∈ gT := gT_at 842 (by decide +kernel) rfl
theorem ff_X1_9 : gFf RX1 9 1 0 (.array .int) := ⟨RX1, TX1, tyX1, rfl, by decide, gu1, gT_at 76 (by decide +kernel) rfl, tyX1_ok, nmX1, by decide, by decide, by decide +kernel⟩
theorem ff_X1_15 : gFf RX1 15 1 1 (.array .int) := ⟨RX1, TX1, tyX1, rfl, by decide, gu1, gT_at 77 (by decide +kernel) rfl, tyX1_ok, nmX1, by decide, by decide, by decide +kernel⟩
theorem ff_X1_18 : gFf RX1 18 1 2 (.array .int) := ⟨RX1, TX1, tyX1, rfl, by decide, gu1, gT_at 78 (by decide +kernel) rfl, tyX1_ok, nmX1, by decide, by decide, by decide +kernel⟩
theorem ff_X1_21 : gFf RX1 21 1 3 (.array .int) := ⟨RX1, TX1, tyX1, rfl, by decide, gu1, gT_at 79 (by decide +kernel) rfl, tyX1_ok, nmX1, by decide, by decide, by decide +kernel⟩
theorem ff_X1_24 : gFf RX1 24 1 4 (.array .int) := ⟨RX1, TX1, tyX1, rfl, by decide, gu1, gT_at 80 (by decide +kernel) rfl, tyX1_ok, nmX1, by decide, by decide, by decide +kernel⟩
theorem ff_X2_9 : gFf RX2 9 2 0 (.array .int) := ⟨RX2, TX2, tyX2, rfl, by decide, gu2, gT_at 129 (by decide +kernel) rfl, tyX2_ok, nmX2, by decide, by decide, by decide +kernel⟩
theorem ff_X2_15 : gFf RX2 15 2 1 (.array .int) := ⟨RX2, TX2, tyX2, rfl, by decide, gu2, gT_at 131 (by decide +kernel) rfl, tyX2_ok, nmX2, by decide, by decide, by decide +kernel⟩
theorem ff_X2_18 : gFf RX2 18 2 2 (.array .int) := ⟨RX2, TX2, tyX2, rfl, by decide, gu2, gT_at 132 (by decide +kernel) rfl, tyX2_ok, nmX2, by decide, by decide, by decide +kernel⟩
theorem ff_X2_21 : gFf RX2 21 2 3 (.array .int) := ⟨RX2, TX2, tyX2, rfl, by decide, gu2, gT_at 133 (by decide +kernel) rfl, tyX2_ok, nmX2, by decide, by decide, by decide +kernel⟩
theorem ff_X2_24 : gFf RX2 24 2 4 (.array .int) := ⟨RX2, TX2, tyX2, rfl, by decide, gu2, gT_at 134 (by decide +kernel) rfl, tyX2_ok, nmX2, by decide, by decide, by decide +kernel⟩
theorem ff_X2_27 : gFf RX2 27 2 5 (.array .int) := ⟨RX2, TX2, tyX2, rfl, by decide, gu2, gT_at 136 (by decide +kernel) rfl, tyX2_ok, nmX2, by decide, by decide, by decide +kernel⟩
theorem ff_X2_30 : gFf RX2 30 2 6 (.array .int) := ⟨RX2, TX2, tyX2, rfl, by decide, gu2, gT_at 137 (by decide +kernel) rfl, tyX2_ok, nmX2, by decide, by decide, by decide +kernel⟩
theorem ff_X2_35 : gFf RX2 35 2 7 (.array (.array .int)) := ⟨RX2, TX2, tyX2, rfl, by decide, gu2, gT_at 138 (by decide +kernel) rfl, tyX2_ok, nmX2, by decide, by decide, by decide +kernel⟩
theorem ff_X2_38 : gFf RX2 38 2 8 (.array .int) := ⟨RX2, TX2, tyX2, rfl, by decide, gu2, gT_at 139 (by decide +kernel) rfl, tyX2_ok, nmX2, by decide, by decide, by decide +kernel⟩
theorem ff_X2_41 : gFf RX2 41 2 9 (.array .int) := ⟨RX2, TX2, tyX2, rfl, by decide, gu2, gT_at 140 (by decide +kernel) rfl, tyX2_ok, nmX2, by decide, by decide, by decide +kernel⟩
theorem ff_X2_44 : gFf RX2 44 2 10 (.array .int) := ⟨RX2, TX2, tyX2, rfl, by decide, gu2, gT_at 142 (by decide +kernel) rfl, tyX2_ok, nmX2, by decide, by decide, by decide +kernel⟩
theorem ff_X2_47 : gFf RX2 47 2 11 (.array .int) := ⟨RX2, TX2, tyX2, rfl, by decide, gu2, gT_at 143 (by decide +kernel) rfl, tyX2_ok, nmX2, by decide, by decide, by decide +kernel⟩
theorem ff_X3_12 : gFf RX3 12 3 0 (.object "WaterCarts$Tape") := ⟨RX3, TX3, tyX3, rfl, by decide, gu3, gT_at 103 (by decide +kernel) rfl, tyX3_ok, nmX3, by decide, by decide, by decide +kernel⟩
theorem ff_X4_9 : gFf RX4 9 4 4 (.array .int) := ⟨RX4, TX4, tyX4, rfl, by decide, gu4, gT_at 249 (by decide +kernel) rfl, tyX4_ok, nmX4, by decide, by decide, by decide +kernel⟩
theorem ff_X6_9 : gFf RX6 9 6 0 (.array .char) := ⟨RX6, TX6, tyX6, rfl, by decide, gu6, gT_at 48 (by decide +kernel) rfl, tyX6_ok, nmX6, by decide, by decide, by decide +kernel⟩
theorem ff_X6_15 : gFf RX6 15 6 1 (.array .int) := ⟨RX6, TX6, tyX6, rfl, by decide, gu6, gT_at 49 (by decide +kernel) rfl, tyX6_ok, nmX6, by decide, by decide, by decide +kernel⟩
theorem ff_X6_19 : gFf RX6 19 6 2 (.array .int) := ⟨RX6, TX6, tyX6, rfl, by decide, gu6, gT_at 51 (by decide +kernel) rfl, tyX6_ok, nmX6, by decide, by decide, by decide +kernel⟩
theorem ff_X7_9 : gFf RX7 9 7 10 (.array .int) := ⟨RX7, TX7, tyX7, rfl, by decide, gu7, gT_at 212 (by decide +kernel) rfl, tyX7_ok, nmX7, by decide, by decide, by decide +kernel⟩
theorem ff_X8_11 : gFf RX8 11 8 0 (.array (.object "WaterCarts$Village")) := ⟨RX8, TX8, tyX8, rfl, by decide, gu8, gT_at 316 (by decide +kernel) rfl, tyX8_ok, nmX8, by decide, by decide, by decide +kernel⟩
theorem ff_X8_17 : gFf RX8 17 8 1 (.array (.object "WaterCarts$Spring")) := ⟨RX8, TX8, tyX8, rfl, by decide, gu8, gT_at 317 (by decide +kernel) rfl, tyX8_ok, nmX8, by decide, by decide, by decide +kernel⟩
theorem ff_X8_23 : gFf RX8 23 8 2 (.array (.object "WaterCarts$Tanker")) := ⟨RX8, TX8, tyX8, rfl, by decide, gu8, gT_at 318 (by decide +kernel) rfl, tyX8_ok, nmX8, by decide, by decide, by decide +kernel⟩
theorem ff_X8_29 : gFf RX8 29 8 3 (.array (.object "WaterCarts$Bore")) := ⟨RX8, TX8, tyX8, rfl, by decide, gu8, gT_at 319 (by decide +kernel) rfl, tyX8_ok, nmX8, by decide, by decide, by decide +kernel⟩
theorem ff_X8_33 : gFf RX8 33 8 4 (.array .int) := ⟨RX8, TX8, tyX8, rfl, by decide, gu8, gT_at 320 (by decide +kernel) rfl, tyX8_ok, nmX8, by decide, by decide, by decide +kernel⟩
theorem ff_X8_40 : gFf RX8 40 8 5 (.object "WaterCarts$Reader") := ⟨RX8, TX8, tyX8, rfl, by decide, gu8, gT_at 321 (by decide +kernel) rfl, tyX8_ok, nmX8, by decide, by decide, by decide +kernel⟩
theorem ff_X8_47 : gFf RX8 47 8 6 (.object "WaterCarts$Planner") := ⟨RX8, TX8, tyX8, rfl, by decide, gu8, gT_at 322 (by decide +kernel) rfl, tyX8_ok, nmX8, by decide, by decide, by decide +kernel⟩
theorem ff_X9_14 : gFf RX9 14 9 1 (.array .int) := ⟨RX9, TX9, tyX9, rfl, by decide, gu9, gT_at 858 (by decide +kernel) rfl, tyX9_ok, nmX9, by decide, by decide, by decide +kernel⟩
theorem ff_X9_24 : gFf RX9 24 9 4 (.array .int) := ⟨RX9, TX9, tyX9, rfl, by decide, gu9, gT_at 861 (by decide +kernel) rfl, tyX9_ok, nmX9, by decide, by decide, by decide +kernel⟩
theorem ff_X9_27 : gFf RX9 27 9 5 (.array .int) := ⟨RX9, TX9, tyX9, rfl, by decide, gu9, gT_at 862 (by decide +kernel) rfl, tyX9_ok, nmX9, by decide, by decide, by decide +kernel⟩
theorem ff_X9_30 : gFf RX9 30 9 6 (.array .long) := ⟨RX9, TX9, tyX9, rfl, by decide, gu9, gT_at 863 (by decide +kernel) rfl, tyX9_ok, nmX9, by decide, by decide, by decide +kernel⟩
theorem ff_X9_54 : gFf RX9 54 9 9 (.array .long) := ⟨RX9, TX9, tyX9, rfl, by decide, gu9, gT_at 866 (by decide +kernel) rfl, tyX9_ok, nmX9, by decide, by decide, by decide +kernel⟩
theorem ff_X9_57 : gFf RX9 57 9 10 (.array .int) := ⟨RX9, TX9, tyX9, rfl, by decide, gu9, gT_at 867 (by decide +kernel) rfl, tyX9_ok, nmX9, by decide, by decide, by decide +kernel⟩
theorem ff_X9_60 : gFf RX9 60 9 11 (.array .boolean) := ⟨RX9, TX9, tyX9, rfl, by decide, gu9, gT_at 868 (by decide +kernel) rfl, tyX9_ok, nmX9, by decide, by decide, by decide +kernel⟩
theorem ff_X9_64 : gFf RX9 64 9 12 (.array .int) := ⟨RX9, TX9, tyX9, rfl, by decide, gu9, gT_at 869 (by decide +kernel) rfl, tyX9_ok, nmX9, by decide, by decide, by decide +kernel⟩
theorem ff_X9_67 : gFf RX9 67 9 13 (.array .int) := ⟨RX9, TX9, tyX9, rfl, by decide, gu9, gT_at 870 (by decide +kernel) rfl, tyX9_ok, nmX9, by decide, by decide, by decide +kernel⟩
theorem ff_X9_70 : gFf RX9 70 9 14 (.array .int) := ⟨RX9, TX9, tyX9, rfl, by decide, gu9, gT_at 871 (by decide +kernel) rfl, tyX9_ok, nmX9, by decide, by decide, by decide +kernel⟩
theorem ff_X9_73 : gFf RX9 73 9 15 (.array .int) := ⟨RX9, TX9, tyX9, rfl, by decide, gu9, gT_at 872 (by decide +kernel) rfl, tyX9_ok, nmX9, by decide, by decide, by decide +kernel⟩
theorem ff_X9_76 : gFf RX9 76 9 20 (.array .int) := ⟨RX9, TX9, tyX9, rfl, by decide, gu9, gT_at 877 (by decide +kernel) rfl, tyX9_ok, nmX9, by decide, by decide, by decide +kernel⟩
theorem ff_X9_79 : gFf RX9 79 9 21 (.array .int) := ⟨RX9, TX9, tyX9, rfl, by decide, gu9, gT_at 878 (by decide +kernel) rfl, tyX9_ok, nmX9, by decide, by decide, by decide +kernel⟩
theorem ff_X9_82 : gFf RX9 82 9 22 (.array .int) := ⟨RX9, TX9, tyX9, rfl, by decide, gu9, gT_at 879 (by decide +kernel) rfl, tyX9_ok, nmX9, by decide, by decide, by decide +kernel⟩
theorem ff_X9_85 : gFf RX9 85 9 23 (.array .int) := ⟨RX9, TX9, tyX9, rfl, by decide, gu9, gT_at 880 (by decide +kernel) rfl, tyX9_ok, nmX9, by decide, by decide, by decide +kernel⟩
theorem ff_X9_88 : gFf RX9 88 9 24 (.array .int) := ⟨RX9, TX9, tyX9, rfl, by decide, gu9, gT_at 881 (by decide +kernel) rfl, tyX9_ok, nmX9, by decide, by decide, by decide +kernel⟩
theorem ff_X9_91 : gFf RX9 91 9 27 (.array .int) := ⟨RX9, TX9, tyX9, rfl, by decide, gu9, gT_at 884 (by decide +kernel) rfl, tyX9_ok, nmX9, by decide, by decide, by decide +kernel⟩
theorem ff_X9_94 : gFf RX9 94 9 28 (.array .int) := ⟨RX9, TX9, tyX9, rfl, by decide, gu9, gT_at 885 (by decide +kernel) rfl, tyX9_ok, nmX9, by decide, by decide, by decide +kernel⟩
theorem ff_X9_97 : gFf RX9 97 9 29 (.array .int) := ⟨RX9, TX9, tyX9, rfl, by decide, gu9, gT_at 886 (by decide +kernel) rfl, tyX9_ok, nmX9, by decide, by decide, by decide +kernel⟩
theorem ff_X9_100 : gFf RX9 100 9 30 (.array .int) := ⟨RX9, TX9, tyX9, rfl, by decide, gu9, gT_at 887 (by decide +kernel) rfl, tyX9_ok, nmX9, by decide, by decide, by decide +kernel⟩
theorem ff_X9_103 : gFf RX9 103 9 31 (.array .int) := ⟨RX9, TX9, tyX9, rfl, by decide, gu9, gT_at 888 (by decide +kernel) rfl, tyX9_ok, nmX9, by decide, by decide, by decide +kernel⟩
theorem ff_X9_106 : gFf RX9 106 9 32 (.array .int) := ⟨RX9, TX9, tyX9, rfl, by decide, gu9, gT_at 889 (by decide +kernel) rfl, tyX9_ok, nmX9, by decide, by decide, by decide +kernel⟩
theorem ff_X9_109 : gFf RX9 109 9 33 (.array .int) := ⟨RX9, TX9, tyX9, rfl, by decide, gu9, gT_at 890 (by decide +kernel) rfl, tyX9_ok, nmX9, by decide, by decide, by decide +kernel⟩
theorem ff_X9_112 : gFf RX9 112 9 34 (.array .int) := ⟨RX9, TX9, tyX9, rfl, by decide, gu9, gT_at 891 (by decide +kernel) rfl, tyX9_ok, nmX9, by decide, by decide, by decide +kernel⟩
theorem ff_X9_115 : gFf RX9 115 9 35 (.array .int) := ⟨RX9, TX9, tyX9, rfl, by decide, gu9, gT_at 892 (by decide +kernel) rfl, tyX9_ok, nmX9, by decide, by decide, by decide +kernel⟩
theorem ff_X9_118 : gFf RX9 118 9 36 (.array .boolean) := ⟨RX9, TX9, tyX9, rfl, by decide, gu9, gT_at 893 (by decide +kernel) rfl, tyX9_ok, nmX9, by decide, by decide, by decide +kernel⟩
theorem ff_X9_121 : gFf RX9 121 9 39 (.array .int) := ⟨RX9, TX9, tyX9, rfl, by decide, gu9, gT_at 896 (by decide +kernel) rfl, tyX9_ok, nmX9, by decide, by decide, by decide +kernel⟩
theorem ff_X9_124 : gFf RX9 124 9 40 (.array .int) := ⟨RX9, TX9, tyX9, rfl, by decide, gu9, gT_at 897 (by decide +kernel) rfl, tyX9_ok, nmX9, by decide, by decide, by decide +kernel⟩
theorem ff_X9_127 : gFf RX9 127 9 41 (.array .int) := ⟨RX9, TX9, tyX9, rfl, by decide, gu9, gT_at 898 (by decide +kernel) rfl, tyX9_ok, nmX9, by decide, by decide, by decide +kernel⟩
theorem ff_X9_130 : gFf RX9 130 9 42 (.array .int) := ⟨RX9, TX9, tyX9, rfl, by decide, gu9, gT_at 899 (by decide +kernel) rfl, tyX9_ok, nmX9, by decide, by decide, by decide +kernel⟩
theorem ff_X9_133 : gFf RX9 133 9 44 (.array .int) := ⟨RX9, TX9, tyX9, rfl, by decide, gu9, gT_at 901 (by decide +kernel) rfl, tyX9_ok, nmX9, by decide, by decide, by decide +kernel⟩
theorem ff_X9_136 : gFf RX9 136 9 45 (.array .int) := ⟨RX9, TX9, tyX9, rfl, by decide, gu9, gT_at 902 (by decide +kernel) rfl, tyX9_ok, nmX9, by decide, by decide, by decide +kernel⟩
theorem ff_X9_139 : gFf RX9 139 9 46 (.array .int) := ⟨RX9, TX9, tyX9, rfl, by decide, gu9, gT_at 903 (by decide +kernel) rfl, tyX9_ok, nmX9, by decide, by decide, by decide +kernel⟩
theorem ff_X9_142 : gFf RX9 142 9 47 (.array .int) := ⟨RX9, TX9, tyX9, rfl, by decide, gu9, gT_at 904 (by decide +kernel) rfl, tyX9_ok, nmX9, by decide, by decide, by decide +kernel⟩
theorem ff_X9_145 : gFf RX9 145 9 48 (.array .int) := ⟨RX9, TX9, tyX9, rfl, by decide, gu9, gT_at 905 (by decide +kernel) rfl, tyX9_ok, nmX9, by decide, by decide, by decide +kernel⟩
theorem ff_X9_148 : gFf RX9 148 9 49 (.array .int) := ⟨RX9, TX9, tyX9, rfl, by decide, gu9, gT_at 906 (by decide +kernel) rfl, tyX9_ok, nmX9, by decide, by decide, by decide +kernel⟩
theorem ff_X9_151 : gFf RX9 151 9 50 (.array .int) := ⟨RX9, TX9, tyX9, rfl, by decide, gu9, gT_at 907 (by decide +kernel) rfl, tyX9_ok, nmX9, by decide, by decide, by decide +kernel⟩
theorem ff_X9_154 : gFf RX9 154 9 53 (.array .int) := ⟨RX9, TX9, tyX9, rfl, by decide, gu9, gT_at 910 (by decide +kernel) rfl, tyX9_ok, nmX9, by decide, by decide, by decide +kernel⟩
theorem ff_X9_157 : gFf RX9 157 9 54 (.array .int) := ⟨RX9, TX9, tyX9, rfl, by decide, gu9, gT_at 911 (by decide +kernel) rfl, tyX9_ok, nmX9, by decide, by decide, by decide +kernel⟩
theorem ff_X9_160 : gFf RX9 160 9 55 (.array .int) := ⟨RX9, TX9, tyX9, rfl, by decide, gu9, gT_at 912 (by decide +kernel) rfl, tyX9_ok, nmX9, by decide, by decide, by decide +kernel⟩
theorem ff_X9_163 : gFf RX9 163 9 56 (.array .int) := ⟨RX9, TX9, tyX9, rfl, by decide, gu9, gT_at 913 (by decide +kernel) rfl, tyX9_ok, nmX9, by decide, by decide, by decide +kernel⟩
theorem ff_X9_166 : gFf RX9 166 9 59 (.array .int) := ⟨RX9, TX9, tyX9, rfl, by decide, gu9, gT_at 916 (by decide +kernel) rfl, tyX9_ok, nmX9, by decide, by decide, by decide +kernel⟩
theorem ff_X9_169 : gFf RX9 169 9 60 (.array .int) := ⟨RX9, TX9, tyX9, rfl, by decide, gu9, gT_at 917 (by decide +kernel) rfl, tyX9_ok, nmX9, by decide, by decide, by decide +kernel⟩
theorem ff_X9_172 : gFf RX9 172 9 63 (.array .int) := ⟨RX9, TX9, tyX9, rfl, by decide, gu9, gT_at 920 (by decide +kernel) rfl, tyX9_ok, nmX9, by decide, by decide, by decide +kernel⟩
theorem ff_X9_175 : gFf RX9 175 9 64 (.array .int) := ⟨RX9, TX9, tyX9, rfl, by decide, gu9, gT_at 921 (by decide +kernel) rfl, tyX9_ok, nmX9, by decide, by decide, by decide +kernel⟩
theorem ff_X9_178 : gFf RX9 178 9 65 (.array .int) := ⟨RX9, TX9, tyX9, rfl, by decide, gu9, gT_at 922 (by decide +kernel) rfl, tyX9_ok, nmX9, by decide, by decide, by decide +kernel⟩
theorem ff_X9_181 : gFf RX9 181 9 66 (.array .boolean) := ⟨RX9, TX9, tyX9, rfl, by decide, gu9, gT_at 923 (by decide +kernel) rfl, tyX9_ok, nmX9, by decide, by decide, by decide +kernel⟩
theorem ff_X9_184 : gFf RX9 184 9 68 (.array .int) := ⟨RX9, TX9, tyX9, rfl, by decide, gu9, gT_at 925 (by decide +kernel) rfl, tyX9_ok, nmX9, by decide, by decide, by decide +kernel⟩
theorem ff_X9_187 : gFf RX9 187 9 69 (.array .int) := ⟨RX9, TX9, tyX9, rfl, by decide, gu9, gT_at 926 (by decide +kernel) rfl, tyX9_ok, nmX9, by decide, by decide, by decide +kernel⟩
theorem ff_X9_190 : gFf RX9 190 9 70 (.array .int) := ⟨RX9, TX9, tyX9, rfl, by decide, gu9, gT_at 927 (by decide +kernel) rfl, tyX9_ok, nmX9, by decide, by decide, by decide +kernel⟩
theorem in_L_15 : gIp RL 15 yX8_init cX8_init 2 := ⟨⟨gT_at 22 (by decide +kernel) rfl, gT_at 24 (by decide +kernel) rfl, gT_at 1 (by decide +kernel) rfl, by decide +kernel, by decide⟩, rfl, gT_at 23 (by decide +kernel) rfl⟩
theorem in_L_18 : gIp RL 18 yX9_init cX9_init 2 := ⟨⟨gT_at 843 (by decide +kernel) rfl, gT_at 845 (by decide +kernel) rfl, gT_at 10 (by decide +kernel) rfl, by decide +kernel, by decide⟩, rfl, gT_at 844 (by decide +kernel) rfl⟩
theorem in_X3_11 : gIn RX3 11 yX6_init cX6_init 1 := ⟨"WaterCarts", gNl_in (List.mem_append_right _ (List.mem_of_getElem? (i := 44) (by decide +kernel))) (by decide), gT_at 46 (by decide +kernel) rfl, gT_at 3 (by decide +kernel) rfl, by decide +kernel, by decide, rfl, gT_at 45 (by decide +kernel) rfl⟩
theorem in_X3_20 : gIn RX3 20 yX1_init cX1_init 1 := ⟨"WaterCarts", gNl_in (List.mem_append_right _ (List.mem_of_getElem? (i := 72) (by decide +kernel))) (by decide), gT_at 74 (by decide +kernel) rfl, gT_at 4 (by decide +kernel) rfl, by decide +kernel, by decide, rfl, gT_at 73 (by decide +kernel) rfl⟩
theorem in_X8_39 : gIn RX8 39 yX3_init cX3_init 1 := ⟨"WaterCarts", gNl_in (List.mem_append_right _ (List.mem_of_getElem? (i := 38) (by decide +kernel))) (by decide), gT_at 40 (by decide +kernel) rfl, gT_at 2 (by decide +kernel) rfl, by decide +kernel, by decide, rfl, gT_at 39 (by decide +kernel) rfl⟩
theorem in_X8_46 : gIn RX8 46 yX2_init cX2_init 1 := ⟨"WaterCarts", gNl_in (List.mem_append_right _ (List.mem_of_getElem? (i := 123) (by decide +kernel))) (by decide), gT_at 125 (by decide +kernel) rfl, gT_at 5 (by decide +kernel) rfl, by decide +kernel, by decide, rfl, gT_at 124 (by decide +kernel) rfl⟩
theorem in_X8_51 : gIn RX8 51 yX7_init cX7_init 1 := ⟨"WaterCarts", gNl_in (List.mem_append_right _ (List.mem_of_getElem? (i := 189) (by decide +kernel))) (by decide), gT_at 191 (by decide +kernel) rfl, gT_at 6 (by decide +kernel) rfl, by decide +kernel, by decide, rfl, gT_at 190 (by decide +kernel) rfl⟩
theorem in_X8_52 : gIp RX8 52 yX4_init cX4_init 2 := ⟨⟨gT_at 237 (by decide +kernel) rfl, gT_at 239 (by decide +kernel) rfl, gT_at 7 (by decide +kernel) rfl, by decide +kernel, by decide⟩, rfl, gT_at 238 (by decide +kernel) rfl⟩
theorem in_X8_53 : gIn RX8 53 yX5_init cX5_init 1 := ⟨"WaterCarts", gNl_in (List.mem_append_right _ (List.mem_of_getElem? (i := 263) (by decide +kernel))) (by decide), gT_at 265 (by decide +kernel) rfl, gT_at 8 (by decide +kernel) rfl, by decide +kernel, by decide, rfl, gT_at 264 (by decide +kernel) rfl⟩
theorem in_X8_54 : gIn RX8 54 yX0_init cX0_init 1 := ⟨"WaterCarts", gNl_in (List.mem_append_right _ (List.mem_of_getElem? (i := 299) (by decide +kernel))) (by decide), gT_at 301 (by decide +kernel) rfl, gT_at 9 (by decide +kernel) rfl, by decide +kernel, by decide, rfl, gT_at 300 (by decide +kernel) rfl⟩
theorem r_Z {G : gJ} {Z : Nat × Nat × Nat} {pc : Nat} {L : List (Option Value)} {st : List Value} {M : gM} (Z' : Nat × Nat × Nat) (h : Z = Z') (k : G Z' pc L st M) : G Z pc L st M := h ▸ k
theorem mM_f {n : Nat} {M : gM} (h : fM n M) : fM (n + 7) (mM M n) := by
  refine ⟨fun k j hk => ⟨(h.1 k j (by omega)).1, (h.1 k j (by omega)).2.1, ?_⟩, fun k j k2 e => ?_⟩
  · show (if k = n ∧ j < 6 then some (n + 1 + j) else M.2.2 k j) = none
    rw [if_neg (by omega)]; exact (h.1 k j (by omega)).2.2
  · have e' : (if k = n ∧ j < 6 then some (n + 1 + j) else M.2.2 k j) = some k2 := e
    split at e'
    · rename_i z
      cases e'
      omega
    · have := h.2 k j k2 e'
      omega
def tapeM (M : gM) : gM := (gwR (gwR (gwR M 7 0 (some 8)) 7 1 (some 9)) 7 2 (some 10))
theorem tapeM_f {M : gM} (hM : fM 8 M) : fM 11 (tapeM M) := (((hM.up.R (by omega) (by omega)).up.R (by omega) (by omega)).up.R (by omega) (by omega))
set_option maxRecDepth 100000 in
set_option maxHeartbeats 1000000 in
theorem ct_X6_init {M : gM} (hM : fM 8 M) : gC 1 3 1802 yX6_init cX6_init 1 none 8 11 [.ref 7] M (gV (fun M9 => M9 = tapeM M)) := by
  refine gC_vI rfl rfl (Nat.le_of_ble_eq_true rfl) (fun G hI hG hE => ?_)
  change G (8, 0, 0) 0 [some (.ref 7)] [] M
  refine r_aload_n hG dX6_init_0 rfl ?_
  refine r_obj hG ob_X6_3 obI obC dX6_init_1 (by decide) (Nat.le_of_ble_eq_true rfl) ?_
  refine r_aload_n hG dX6_init_4 rfl ?_
  refine r_sipush hG (600) dX6_init_5 (by decide) ?_
  refine r_newaC hG 600 arr_C dX6_init_8 rfl hM (by decide) rfl (by decide) (by decide) (by decide) (by simp [gRs]) (by simp [gRs]) ?_
  refine r_Z (9, 1, 600) rfl ?_
  refine r_putF hI 0 ff_X6_9 dX6_init_10 rfl (by decide) rfl (fun _ => rfl) (fun _ => rfl) ?_
  refine r_aload_n hG dX6_init_13 rfl ?_
  refine r_sipush hG (601) dX6_init_14 (by decide) ?_
  refine r_newaI hG 601 arr_I dX6_init_17 rfl (hM.up.R (by omega) (by omega)) (by decide) rfl (by decide) (by decide) (by decide) (by simp [gRs]) (by simp [gRs]) ?_
  refine r_Z (10, 2, 1201) rfl ?_
  refine r_putF hI 1 ff_X6_15 dX6_init_19 rfl (by decide) rfl (fun _ => rfl) (fun _ => rfl) ?_
  refine r_aload_n hG dX6_init_22 rfl ?_
  refine r_sipush hG (601) dX6_init_23 (by decide) ?_
  refine r_newaI hG 601 arr_I dX6_init_26 rfl ((hM.up.R (by omega) (by omega)).up.R (by omega) (by omega)) (by decide) rfl (by decide) (by decide) (by decide) (by simp [gRs]) (by simp [gRs]) ?_
  refine r_Z (11, 3, 1802) rfl ?_
  refine r_putF hI 2 ff_X6_19 dX6_init_28 rfl (by decide) rfl (fun _ => rfl) (fun _ => rfl) ?_
  refine hE _ _ _ _ dX6_init_31 rfl (Nat.le_refl _) (Nat.le_refl _) ?_
  rfl

def ordM1 (M : gM) : gM := (gwR (gwR (gwR (gwR (gwR M 11 0 (some 12)) 11 1 (some 13)) 11 2 (some 14)) 11 3 (some 15)) 11 4 (some 16))
theorem ordM1_f {M : gM} (hM : fM 12 M) : fM 17 (ordM1 M) := (((((hM.up.R (by omega) (by omega)).up.R (by omega) (by omega)).up.R (by omega) (by omega)).up.R (by omega) (by omega)).up.R (by omega) (by omega))
set_option maxRecDepth 100000 in
set_option maxHeartbeats 1000000 in
theorem ct_X1_init1 {M : gM} (hM : fM 12 M) : gC 1 5 680 yX1_init cX1_init 1 none 12 17 [.ref 11] M (gV (fun M9 => M9 = ordM1 M)) := by
  refine gC_vI rfl rfl (Nat.le_of_ble_eq_true rfl) (fun G hI hG hE => ?_)
  change G (12, 0, 0) 0 [some (.ref 11)] [] M
  refine r_aload_n hG dX1_init_0 rfl ?_
  refine r_obj hG ob_X1_3 obI obC dX1_init_1 (by decide) (Nat.le_of_ble_eq_true rfl) ?_
  refine r_aload_n hG dX1_init_4 rfl ?_
  refine r_bipush hG (16) dX1_init_5 (by decide) ?_
  refine r_newaI hG 16 arr_I dX1_init_7 rfl hM (by decide) rfl (by decide) (by decide) (by decide) (by simp [gRs]) (by simp [gRs]) ?_
  refine r_Z (13, 1, 16) rfl ?_
  refine r_putF hI 0 ff_X1_9 dX1_init_9 rfl (by decide) rfl (fun _ => rfl) (fun _ => rfl) ?_
  refine r_aload_n hG dX1_init_12 rfl ?_
  refine r_bipush hG (16) dX1_init_13 (by decide) ?_
  refine r_newaI hG 16 arr_I dX1_init_15 rfl (hM.up.R (by omega) (by omega)) (by decide) rfl (by decide) (by decide) (by decide) (by simp [gRs]) (by simp [gRs]) ?_
  refine r_Z (14, 2, 32) rfl ?_
  refine r_putF hI 1 ff_X1_15 dX1_init_17 rfl (by decide) rfl (fun _ => rfl) (fun _ => rfl) ?_
  refine r_aload_n hG dX1_init_20 rfl ?_
  refine r_bipush hG (16) dX1_init_21 (by decide) ?_
  refine r_newaI hG 16 arr_I dX1_init_23 rfl ((hM.up.R (by omega) (by omega)).up.R (by omega) (by omega)) (by decide) rfl (by decide) (by decide) (by decide) (by simp [gRs]) (by simp [gRs]) ?_
  refine r_Z (15, 3, 48) rfl ?_
  refine r_putF hI 2 ff_X1_18 dX1_init_25 rfl (by decide) rfl (fun _ => rfl) (fun _ => rfl) ?_
  refine r_aload_n hG dX1_init_28 rfl ?_
  refine r_sipush hG (600) dX1_init_29 (by decide) ?_
  refine r_newaI hG 600 arr_I dX1_init_32 rfl (((hM.up.R (by omega) (by omega)).up.R (by omega) (by omega)).up.R (by omega) (by omega)) (by decide) rfl (by decide) (by decide) (by decide) (by simp [gRs]) (by simp [gRs]) ?_
  refine r_Z (16, 4, 648) rfl ?_
  refine r_putF hI 3 ff_X1_21 dX1_init_34 rfl (by decide) rfl (fun _ => rfl) (fun _ => rfl) ?_
  refine r_aload_n hG dX1_init_37 rfl ?_
  refine r_bipush hG (32) dX1_init_38 (by decide) ?_
  refine r_newaI hG 32 arr_I dX1_init_40 rfl ((((hM.up.R (by omega) (by omega)).up.R (by omega) (by omega)).up.R (by omega) (by omega)).up.R (by omega) (by omega)) (by decide) rfl (by decide) (by decide) (by decide) (by simp [gRs]) (by simp [gRs]) ?_
  refine r_Z (17, 5, 680) rfl ?_
  refine r_putF hI 4 ff_X1_24 dX1_init_42 rfl (by decide) rfl (fun _ => rfl) (fun _ => rfl) ?_
  refine hE _ _ _ _ dX1_init_45 rfl (Nat.le_refl _) (Nat.le_refl _) ?_
  rfl

def ordM2 (M : gM) : gM := (gwR (gwR (gwR (gwR (gwR M 17 0 (some 18)) 17 1 (some 19)) 17 2 (some 20)) 17 3 (some 21)) 17 4 (some 22))
theorem ordM2_f {M : gM} (hM : fM 18 M) : fM 23 (ordM2 M) := (((((hM.up.R (by omega) (by omega)).up.R (by omega) (by omega)).up.R (by omega) (by omega)).up.R (by omega) (by omega)).up.R (by omega) (by omega))
set_option maxRecDepth 100000 in
set_option maxHeartbeats 1000000 in
theorem ct_X1_init2 {M : gM} (hM : fM 18 M) : gC 1 5 680 yX1_init cX1_init 1 none 18 23 [.ref 17] M (gV (fun M9 => M9 = ordM2 M)) := by
  refine gC_vI rfl rfl (Nat.le_of_ble_eq_true rfl) (fun G hI hG hE => ?_)
  change G (18, 0, 0) 0 [some (.ref 17)] [] M
  refine r_aload_n hG dX1_init_0 rfl ?_
  refine r_obj hG ob_X1_3 obI obC dX1_init_1 (by decide) (Nat.le_of_ble_eq_true rfl) ?_
  refine r_aload_n hG dX1_init_4 rfl ?_
  refine r_bipush hG (16) dX1_init_5 (by decide) ?_
  refine r_newaI hG 16 arr_I dX1_init_7 rfl hM (by decide) rfl (by decide) (by decide) (by decide) (by simp [gRs]) (by simp [gRs]) ?_
  refine r_Z (19, 1, 16) rfl ?_
  refine r_putF hI 0 ff_X1_9 dX1_init_9 rfl (by decide) rfl (fun _ => rfl) (fun _ => rfl) ?_
  refine r_aload_n hG dX1_init_12 rfl ?_
  refine r_bipush hG (16) dX1_init_13 (by decide) ?_
  refine r_newaI hG 16 arr_I dX1_init_15 rfl (hM.up.R (by omega) (by omega)) (by decide) rfl (by decide) (by decide) (by decide) (by simp [gRs]) (by simp [gRs]) ?_
  refine r_Z (20, 2, 32) rfl ?_
  refine r_putF hI 1 ff_X1_15 dX1_init_17 rfl (by decide) rfl (fun _ => rfl) (fun _ => rfl) ?_
  refine r_aload_n hG dX1_init_20 rfl ?_
  refine r_bipush hG (16) dX1_init_21 (by decide) ?_
  refine r_newaI hG 16 arr_I dX1_init_23 rfl ((hM.up.R (by omega) (by omega)).up.R (by omega) (by omega)) (by decide) rfl (by decide) (by decide) (by decide) (by simp [gRs]) (by simp [gRs]) ?_
  refine r_Z (21, 3, 48) rfl ?_
  refine r_putF hI 2 ff_X1_18 dX1_init_25 rfl (by decide) rfl (fun _ => rfl) (fun _ => rfl) ?_
  refine r_aload_n hG dX1_init_28 rfl ?_
  refine r_sipush hG (600) dX1_init_29 (by decide) ?_
  refine r_newaI hG 600 arr_I dX1_init_32 rfl (((hM.up.R (by omega) (by omega)).up.R (by omega) (by omega)).up.R (by omega) (by omega)) (by decide) rfl (by decide) (by decide) (by decide) (by simp [gRs]) (by simp [gRs]) ?_
  refine r_Z (22, 4, 648) rfl ?_
  refine r_putF hI 3 ff_X1_21 dX1_init_34 rfl (by decide) rfl (fun _ => rfl) (fun _ => rfl) ?_
  refine r_aload_n hG dX1_init_37 rfl ?_
  refine r_bipush hG (32) dX1_init_38 (by decide) ?_
  refine r_newaI hG 32 arr_I dX1_init_40 rfl ((((hM.up.R (by omega) (by omega)).up.R (by omega) (by omega)).up.R (by omega) (by omega)).up.R (by omega) (by omega)) (by decide) rfl (by decide) (by decide) (by decide) (by simp [gRs]) (by simp [gRs]) ?_
  refine r_Z (23, 5, 680) rfl ?_
  refine r_putF hI 4 ff_X1_24 dX1_init_42 rfl (by decide) rfl (fun _ => rfl) (fun _ => rfl) ?_
  refine hE _ _ _ _ dX1_init_45 rfl (Nat.le_refl _) (Nat.le_refl _) ?_
  rfl

def readM (M : gM) : gM := (gwR (ordM2 (gwR (ordM1 (gwR (tapeM M) 6 0 (some 7))) 6 1 (some 11))) 6 2 (some 17))
theorem readM_f {M : gM} (hM : fM 7 M) : fM 23 (readM M) := ((ordM2_f ((ordM1_f ((tapeM_f hM.up).R (by omega) (by omega)).up).R (by omega) (by omega)).up).R (by omega) (by omega))
set_option maxRecDepth 100000 in
set_option maxHeartbeats 1000000 in
theorem ct_X3_init {M : gM} (hM : fM 7 M) : gC 2 16 3183 yX3_init cX3_init 1 none 7 23 [.ref 6] M (gV (fun M9 => M9 = readM M)) := by
  refine gC_vI rfl rfl (Nat.le_of_ble_eq_true rfl) (fun G hI hG hE => ?_)
  change G (7, 0, 0) 0 [some (.ref 6)] [] M
  refine r_aload_n hG dX3_init_0 rfl ?_
  refine r_obj hG ob_X3_3 obI obC dX3_init_1 (by decide) (Nat.le_of_ble_eq_true rfl) ?_
  refine r_aload_n hG dX3_init_4 rfl ?_
  refine r_new hG nw_X3_9 dX3_init_5 rfl hM (by decide) (by decide) (by decide) (by simp [gRs]) (by simp [gRs]) ?_
  refine r_Z (8, 1, 5) rfl ?_
  refine r_dup hG dX3_init_8 rfl ?_
  refine r_cIN hG in_X3_11 dX3_init_9 (ct_X6_init hM.up) (by decide) ⟨by decide, by decide⟩ (Nat.le_of_ble_eq_true rfl) (by simp [gRs]) (by simp [gRs]) (fun M9 h9 => ?_)
  rw [h9]
  refine r_Z (11, 4, 1807) rfl ?_
  refine r_putF hI 0 ff_X3_12 dX3_init_12 rfl (by decide) rfl (fun _ => rfl) (fun _ => rfl) ?_
  refine r_aload_n hG dX3_init_15 rfl ?_
  refine r_new hG nw_X3_18 dX3_init_16 rfl ((tapeM_f hM.up).R (by omega) (by omega)) (by decide) (by decide) (by decide) (by simp [gRs]) (by simp [gRs]) ?_
  refine r_Z (12, 5, 1815) rfl ?_
  refine r_dup hG dX3_init_19 rfl ?_
  refine r_cIN hG in_X3_20 dX3_init_20 (ct_X1_init1 ((tapeM_f hM.up).R (by omega) (by omega)).up) (by decide) ⟨by decide, by decide⟩ (Nat.le_of_ble_eq_true rfl) (by simp [gRs]) (by simp [gRs]) (fun M9 h9 => ?_)
  rw [h9]
  refine r_Z (17, 10, 2495) rfl ?_
  refine r_putR hG 1 fp_X3_21 dX3_init_23 rfl (by decide) rfl (fun _ => rfl) (fun _ => rfl) ?_
  refine r_aload_n hG dX3_init_26 rfl ?_
  refine r_new hG nw_X3_18 dX3_init_27 rfl ((ordM1_f ((tapeM_f hM.up).R (by omega) (by omega)).up).R (by omega) (by omega)) (by decide) (by decide) (by decide) (by simp [gRs]) (by simp [gRs]) ?_
  refine r_Z (18, 11, 2503) rfl ?_
  refine r_dup hG dX3_init_30 rfl ?_
  refine r_cIN hG in_X3_20 dX3_init_31 (ct_X1_init2 ((ordM1_f ((tapeM_f hM.up).R (by omega) (by omega)).up).R (by omega) (by omega)).up) (by decide) ⟨by decide, by decide⟩ (Nat.le_of_ble_eq_true rfl) (by simp [gRs]) (by simp [gRs]) (fun M9 h9 => ?_)
  rw [h9]
  refine r_Z (23, 16, 3183) rfl ?_
  refine r_putR hG 2 fp_X3_25 dX3_init_34 rfl (by decide) rfl (fun _ => rfl) (fun _ => rfl) ?_
  refine hE _ _ _ _ dX3_init_37 rfl (Nat.le_refl _) (Nat.le_refl _) ?_
  rfl

def planM (M : gM) : gM := (gwR (gwR (gwR (gwR (gwR (mM (gwR (gwR (gwR (gwR (gwR (gwR (gwR M 23 0 (some 24)) 23 1 (some 25)) 23 2 (some 26)) 23 3 (some 27)) 23 4 (some 28)) 23 5 (some 29)) 23 6 (some 30)) 31) 23 7 (some 31)) 23 8 (some 38)) 23 9 (some 39)) 23 10 (some 40)) 23 11 (some 41))
theorem planM_f {M : gM} (hM : fM 24 M) : fM 42 (planM M) := ((((((mM_f (((((((hM.up.R (by omega) (by omega)).up.R (by omega) (by omega)).up.R (by omega) (by omega)).up.R (by omega) (by omega)).up.R (by omega) (by omega)).up.R (by omega) (by omega)).up.R (by omega) (by omega))).R (by omega) (by omega)).up.R (by omega) (by omega)).up.R (by omega) (by omega)).up.R (by omega) (by omega)).up.R (by omega) (by omega))
set_option maxRecDepth 100000 in
set_option maxHeartbeats 1000000 in
theorem ct_X2_init {M : gM} (hM : fM 24 M) : gC 1 18 90 yX2_init cX2_init 1 none 24 42 [.ref 23] M (gV (fun M9 => M9 = planM M)) := by
  refine gC_vI rfl rfl (Nat.le_of_ble_eq_true rfl) (fun G hI hG hE => ?_)
  change G (24, 0, 0) 0 [some (.ref 23)] [] M
  refine r_aload_n hG dX2_init_0 rfl ?_
  refine r_obj hG ob_X2_3 obI obC dX2_init_1 (by decide) (Nat.le_of_ble_eq_true rfl) ?_
  refine r_aload_n hG dX2_init_4 rfl ?_
  refine r_iconst hG (4) dX2_init_5 (by decide) ?_
  refine r_newaI hG 4 arr_I dX2_init_6 rfl hM (by decide) rfl (by decide) (by decide) (by decide) (by simp [gRs]) (by simp [gRs]) ?_
  refine r_Z (25, 1, 4) rfl ?_
  refine r_putF hI 0 ff_X2_9 dX2_init_8 rfl (by decide) rfl (fun _ => rfl) (fun _ => rfl) ?_
  refine r_aload_n hG dX2_init_11 rfl ?_
  refine r_iconst hG (4) dX2_init_12 (by decide) ?_
  refine r_newaI hG 4 arr_I dX2_init_13 rfl (hM.up.R (by omega) (by omega)) (by decide) rfl (by decide) (by decide) (by decide) (by simp [gRs]) (by simp [gRs]) ?_
  refine r_Z (26, 2, 8) rfl ?_
  refine r_putF hI 1 ff_X2_15 dX2_init_15 rfl (by decide) rfl (fun _ => rfl) (fun _ => rfl) ?_
  refine r_aload_n hG dX2_init_18 rfl ?_
  refine r_iconst hG (4) dX2_init_19 (by decide) ?_
  refine r_newaI hG 4 arr_I dX2_init_20 rfl ((hM.up.R (by omega) (by omega)).up.R (by omega) (by omega)) (by decide) rfl (by decide) (by decide) (by decide) (by simp [gRs]) (by simp [gRs]) ?_
  refine r_Z (27, 3, 12) rfl ?_
  refine r_putF hI 2 ff_X2_18 dX2_init_22 rfl (by decide) rfl (fun _ => rfl) (fun _ => rfl) ?_
  refine r_aload_n hG dX2_init_25 rfl ?_
  refine r_iconst hG (4) dX2_init_26 (by decide) ?_
  refine r_newaI hG 4 arr_I dX2_init_27 rfl (((hM.up.R (by omega) (by omega)).up.R (by omega) (by omega)).up.R (by omega) (by omega)) (by decide) rfl (by decide) (by decide) (by decide) (by simp [gRs]) (by simp [gRs]) ?_
  refine r_Z (28, 4, 16) rfl ?_
  refine r_putF hI 3 ff_X2_21 dX2_init_29 rfl (by decide) rfl (fun _ => rfl) (fun _ => rfl) ?_
  refine r_aload_n hG dX2_init_32 rfl ?_
  refine r_bipush hG (6) dX2_init_33 (by decide) ?_
  refine r_newaI hG 6 arr_I dX2_init_35 rfl ((((hM.up.R (by omega) (by omega)).up.R (by omega) (by omega)).up.R (by omega) (by omega)).up.R (by omega) (by omega)) (by decide) rfl (by decide) (by decide) (by decide) (by simp [gRs]) (by simp [gRs]) ?_
  refine r_Z (29, 5, 22) rfl ?_
  refine r_putF hI 4 ff_X2_24 dX2_init_37 rfl (by decide) rfl (fun _ => rfl) (fun _ => rfl) ?_
  refine r_aload_n hG dX2_init_40 rfl ?_
  refine r_bipush hG (6) dX2_init_41 (by decide) ?_
  refine r_newaI hG 6 arr_I dX2_init_43 rfl (((((hM.up.R (by omega) (by omega)).up.R (by omega) (by omega)).up.R (by omega) (by omega)).up.R (by omega) (by omega)).up.R (by omega) (by omega)) (by decide) rfl (by decide) (by decide) (by decide) (by simp [gRs]) (by simp [gRs]) ?_
  refine r_Z (30, 6, 28) rfl ?_
  refine r_putF hI 5 ff_X2_27 dX2_init_45 rfl (by decide) rfl (fun _ => rfl) (fun _ => rfl) ?_
  refine r_aload_n hG dX2_init_48 rfl ?_
  refine r_bipush hG (6) dX2_init_49 (by decide) ?_
  refine r_newaI hG 6 arr_I dX2_init_51 rfl ((((((hM.up.R (by omega) (by omega)).up.R (by omega) (by omega)).up.R (by omega) (by omega)).up.R (by omega) (by omega)).up.R (by omega) (by omega)).up.R (by omega) (by omega)) (by decide) rfl (by decide) (by decide) (by decide) (by simp [gRs]) (by simp [gRs]) ?_
  refine r_Z (31, 7, 34) rfl ?_
  refine r_putF hI 6 ff_X2_30 dX2_init_53 rfl (by decide) rfl (fun _ => rfl) (fun _ => rfl) ?_
  refine r_aload_n hG dX2_init_56 rfl ?_
  refine r_bipush hG (6) dX2_init_57 (by decide) ?_
  refine r_iconst hG (4) dX2_init_59 (by decide) ?_
  refine r_multi hG cl_X2_33 arr_I dX2_init_60 rfl (by decide) (((((((hM.up.R (by omega) (by omega)).up.R (by omega) (by omega)).up.R (by omega) (by omega)).up.R (by omega) (by omega)).up.R (by omega) (by omega)).up.R (by omega) (by omega)).up.R (by omega) (by omega)) (by decide) (by decide) (by decide) (by simp [gRs]) (by simp [gRs]) ?_
  refine r_Z (38, 14, 64) rfl ?_
  refine r_putF hI 7 ff_X2_35 dX2_init_64 rfl (by decide) rfl (fun _ => rfl) (fun _ => rfl) ?_
  refine r_aload_n hG dX2_init_67 rfl ?_
  refine r_bipush hG (6) dX2_init_68 (by decide) ?_
  refine r_newaI hG 6 arr_I dX2_init_70 rfl ((mM_f (((((((hM.up.R (by omega) (by omega)).up.R (by omega) (by omega)).up.R (by omega) (by omega)).up.R (by omega) (by omega)).up.R (by omega) (by omega)).up.R (by omega) (by omega)).up.R (by omega) (by omega))).R (by omega) (by omega)) (by decide) rfl (by decide) (by decide) (by decide) (by simp [gRs]) (by simp [gRs]) ?_
  refine r_Z (39, 15, 70) rfl ?_
  refine r_putF hI 8 ff_X2_38 dX2_init_72 rfl (by decide) rfl (fun _ => rfl) (fun _ => rfl) ?_
  refine r_aload_n hG dX2_init_75 rfl ?_
  refine r_bipush hG (6) dX2_init_76 (by decide) ?_
  refine r_newaI hG 6 arr_I dX2_init_78 rfl (((mM_f (((((((hM.up.R (by omega) (by omega)).up.R (by omega) (by omega)).up.R (by omega) (by omega)).up.R (by omega) (by omega)).up.R (by omega) (by omega)).up.R (by omega) (by omega)).up.R (by omega) (by omega))).R (by omega) (by omega)).up.R (by omega) (by omega)) (by decide) rfl (by decide) (by decide) (by decide) (by simp [gRs]) (by simp [gRs]) ?_
  refine r_Z (40, 16, 76) rfl ?_
  refine r_putF hI 9 ff_X2_41 dX2_init_80 rfl (by decide) rfl (fun _ => rfl) (fun _ => rfl) ?_
  refine r_aload_n hG dX2_init_83 rfl ?_
  refine r_bipush hG (7) dX2_init_84 (by decide) ?_
  refine r_newaI hG 7 arr_I dX2_init_86 rfl ((((mM_f (((((((hM.up.R (by omega) (by omega)).up.R (by omega) (by omega)).up.R (by omega) (by omega)).up.R (by omega) (by omega)).up.R (by omega) (by omega)).up.R (by omega) (by omega)).up.R (by omega) (by omega))).R (by omega) (by omega)).up.R (by omega) (by omega)).up.R (by omega) (by omega)) (by decide) rfl (by decide) (by decide) (by decide) (by simp [gRs]) (by simp [gRs]) ?_
  refine r_Z (41, 17, 83) rfl ?_
  refine r_putF hI 10 ff_X2_44 dX2_init_88 rfl (by decide) rfl (fun _ => rfl) (fun _ => rfl) ?_
  refine r_aload_n hG dX2_init_91 rfl ?_
  refine r_bipush hG (7) dX2_init_92 (by decide) ?_
  refine r_newaI hG 7 arr_I dX2_init_94 rfl (((((mM_f (((((((hM.up.R (by omega) (by omega)).up.R (by omega) (by omega)).up.R (by omega) (by omega)).up.R (by omega) (by omega)).up.R (by omega) (by omega)).up.R (by omega) (by omega)).up.R (by omega) (by omega))).R (by omega) (by omega)).up.R (by omega) (by omega)).up.R (by omega) (by omega)).up.R (by omega) (by omega)) (by decide) rfl (by decide) (by decide) (by decide) (by simp [gRs]) (by simp [gRs]) ?_
  refine r_Z (42, 18, 90) rfl ?_
  refine r_putF hI 11 ff_X2_47 dX2_init_96 rfl (by decide) rfl (fun _ => rfl) (fun _ => rfl) ?_
  refine hE _ _ _ _ dX2_init_99 rfl (Nat.le_refl _) (Nat.le_refl _) ?_
  rfl

