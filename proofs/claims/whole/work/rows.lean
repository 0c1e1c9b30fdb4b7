section
-- ===== PART A: goes FIRST, ahead of the names: the tables' words, and 'selects' of the private methods out of them =====
/-- a private method of a class that the tables say can be made, by its rows of tables_1 -/
def lw_okq (q : MethodName × Nat) : Prop := (q.1.cls ≠ "java/lang/invoke/MethodHandle" ∧ q.1.cls ≠ "java/lang/invoke/VarHandle") ∧ Cond.instantiable q.1.cls q.2 ∈ tables_1 ∧ Cond.privateMethod q.1 ∈ tables_1 ∧ Cond.instanceMethod q.1 ∈ tables_1
theorem lw_p0 : lw_okq (⟨"WaterCarts", "isSpring", "(I)Z"⟩, 15) := ⟨⟨by decide +kernel, by decide +kernel⟩, List.mem_of_getElem? (i := 21) (by decide +kernel), List.mem_of_getElem? (i := 380) (by decide +kernel), List.mem_of_getElem? (i := 381) (by decide +kernel)⟩
theorem lw_p1 : lw_okq (⟨"WaterCarts", "isVillage", "(I)Z"⟩, 15) := ⟨⟨by decide +kernel, by decide +kernel⟩, List.mem_of_getElem? (i := 21) (by decide +kernel), List.mem_of_getElem? (i := 388) (by decide +kernel), List.mem_of_getElem? (i := 389) (by decide +kernel)⟩
theorem lw_p2 : lw_okq (⟨"WaterCarts$Tape", "addSign", "(I)V"⟩, 5) := ⟨⟨by decide +kernel, by decide +kernel⟩, List.mem_of_getElem? (i := 43) (by decide +kernel), List.mem_of_getElem? (i := 401) (by decide +kernel), List.mem_of_getElem? (i := 402) (by decide +kernel)⟩
theorem lw_p3 : lw_okq (⟨"WaterCarts$Tape", "endOfRun", "(I)I"⟩, 5) := ⟨⟨by decide +kernel, by decide +kernel⟩, List.mem_of_getElem? (i := 43) (by decide +kernel), List.mem_of_getElem? (i := 418) (by decide +kernel), List.mem_of_getElem? (i := 419) (by decide +kernel)⟩
theorem lw_p4 : lw_okq (⟨"WaterCarts$Tape", "tokenOf", "(II)I"⟩, 5) := ⟨⟨by decide +kernel, by decide +kernel⟩, List.mem_of_getElem? (i := 43) (by decide +kernel), List.mem_of_getElem? (i := 431) (by decide +kernel), List.mem_of_getElem? (i := 432) (by decide +kernel)⟩
theorem lw_p5 : lw_okq (⟨"WaterCarts$Tape", "wordToken", "(II)I"⟩, 5) := ⟨⟨by decide +kernel, by decide +kernel⟩, List.mem_of_getElem? (i := 43) (by decide +kernel), List.mem_of_getElem? (i := 435) (by decide +kernel), List.mem_of_getElem? (i := 436) (by decide +kernel)⟩
theorem lw_p6 : lw_okq (⟨"WaterCarts$Tape", "reads", "(Ljava/lang/String;II)Z"⟩, 5) := ⟨⟨by decide +kernel, by decide +kernel⟩, List.mem_of_getElem? (i := 43) (by decide +kernel), List.mem_of_getElem? (i := 440) (by decide +kernel), List.mem_of_getElem? (i := 441) (by decide +kernel)⟩
theorem lw_p7 : lw_okq (⟨"WaterCarts$Tape", "numberToken", "(II)I"⟩, 5) := ⟨⟨by decide +kernel, by decide +kernel⟩, List.mem_of_getElem? (i := 43) (by decide +kernel), List.mem_of_getElem? (i := 501) (by decide +kernel), List.mem_of_getElem? (i := 502) (by decide +kernel)⟩
theorem lw_p8 : lw_okq (⟨"WaterCarts$Tape", "addToken", "(II)V"⟩, 5) := ⟨⟨by decide +kernel, by decide +kernel⟩, List.mem_of_getElem? (i := 43) (by decide +kernel), List.mem_of_getElem? (i := 508) (by decide +kernel), List.mem_of_getElem? (i := 509) (by decide +kernel)⟩
theorem lw_p9 : lw_okq (⟨"WaterCarts$Reader", "token", "()I"⟩, 5) := ⟨⟨by decide +kernel, by decide +kernel⟩, List.mem_of_getElem? (i := 37) (by decide +kernel), List.mem_of_getElem? (i := 519) (by decide +kernel), List.mem_of_getElem? (i := 520) (by decide +kernel)⟩
theorem lw_p10 : lw_okq (⟨"WaterCarts$Reader", "readLine", "()Z"⟩, 5) := ⟨⟨by decide +kernel, by decide +kernel⟩, List.mem_of_getElem? (i := 37) (by decide +kernel), List.mem_of_getElem? (i := 523) (by decide +kernel), List.mem_of_getElem? (i := 524) (by decide +kernel)⟩
theorem lw_p11 : lw_okq (⟨"WaterCarts$Reader", "wrong", "(I)Z"⟩, 5) := ⟨⟨by decide +kernel, by decide +kernel⟩, List.mem_of_getElem? (i := 37) (by decide +kernel), List.mem_of_getElem? (i := 527) (by decide +kernel), List.mem_of_getElem? (i := 528) (by decide +kernel)⟩
theorem lw_p12 : lw_okq (⟨"WaterCarts$Reader", "take", "(I)Z"⟩, 5) := ⟨⟨by decide +kernel, by decide +kernel⟩, List.mem_of_getElem? (i := 37) (by decide +kernel), List.mem_of_getElem? (i := 535) (by decide +kernel), List.mem_of_getElem? (i := 536) (by decide +kernel)⟩
theorem lw_p13 : lw_okq (⟨"WaterCarts$Reader", "readTests", "(I)Z"⟩, 5) := ⟨⟨by decide +kernel, by decide +kernel⟩, List.mem_of_getElem? (i := 37) (by decide +kernel), List.mem_of_getElem? (i := 539) (by decide +kernel), List.mem_of_getElem? (i := 540) (by decide +kernel)⟩
theorem lw_p14 : lw_okq (⟨"WaterCarts$Reader", "readTest", "(I)Z"⟩, 5) := ⟨⟨by decide +kernel, by decide +kernel⟩, List.mem_of_getElem? (i := 37) (by decide +kernel), List.mem_of_getElem? (i := 543) (by decide +kernel), List.mem_of_getElem? (i := 544) (by decide +kernel)⟩
theorem lw_p15 : lw_okq (⟨"WaterCarts$Reader", "readSum", "(I)Z"⟩, 5) := ⟨⟨by decide +kernel, by decide +kernel⟩, List.mem_of_getElem? (i := 37) (by decide +kernel), List.mem_of_getElem? (i := 547) (by decide +kernel), List.mem_of_getElem? (i := 548) (by decide +kernel)⟩
def lw_privs_1 : List (MethodName × Nat) := [(⟨"WaterCarts", "isSpring", "(I)Z"⟩, 15), (⟨"WaterCarts", "isVillage", "(I)Z"⟩, 15), (⟨"WaterCarts$Tape", "addSign", "(I)V"⟩, 5), (⟨"WaterCarts$Tape", "endOfRun", "(I)I"⟩, 5), (⟨"WaterCarts$Tape", "tokenOf", "(II)I"⟩, 5), (⟨"WaterCarts$Tape", "wordToken", "(II)I"⟩, 5), (⟨"WaterCarts$Tape", "reads", "(Ljava/lang/String;II)Z"⟩, 5), (⟨"WaterCarts$Tape", "numberToken", "(II)I"⟩, 5), (⟨"WaterCarts$Tape", "addToken", "(II)V"⟩, 5), (⟨"WaterCarts$Reader", "token", "()I"⟩, 5), (⟨"WaterCarts$Reader", "readLine", "()Z"⟩, 5), (⟨"WaterCarts$Reader", "wrong", "(I)Z"⟩, 5), (⟨"WaterCarts$Reader", "take", "(I)Z"⟩, 5), (⟨"WaterCarts$Reader", "readTests", "(I)Z"⟩, 5), (⟨"WaterCarts$Reader", "readTest", "(I)Z"⟩, 5), (⟨"WaterCarts$Reader", "readSum", "(I)Z"⟩, 5)]
theorem lw_r1 : ∀ q ∈ lw_privs_1, lw_okq q := List.forall_mem_cons.mpr ⟨lw_p0, List.forall_mem_cons.mpr ⟨lw_p1, List.forall_mem_cons.mpr ⟨lw_p2, List.forall_mem_cons.mpr ⟨lw_p3, List.forall_mem_cons.mpr ⟨lw_p4, List.forall_mem_cons.mpr ⟨lw_p5, List.forall_mem_cons.mpr ⟨lw_p6, List.forall_mem_cons.mpr ⟨lw_p7, List.forall_mem_cons.mpr ⟨lw_p8, List.forall_mem_cons.mpr ⟨lw_p9, List.forall_mem_cons.mpr ⟨lw_p10, List.forall_mem_cons.mpr ⟨lw_p11, List.forall_mem_cons.mpr ⟨lw_p12, List.forall_mem_cons.mpr ⟨lw_p13, List.forall_mem_cons.mpr ⟨lw_p14, List.forall_mem_cons.mpr ⟨lw_p15, fun _ h => absurd h List.not_mem_nil⟩⟩⟩⟩⟩⟩⟩⟩⟩⟩⟩⟩⟩⟩⟩⟩
theorem lw_p16 : lw_okq (⟨"WaterCarts$Reader", "readPart", "(I)Z"⟩, 5) := ⟨⟨by decide +kernel, by decide +kernel⟩, List.mem_of_getElem? (i := 37) (by decide +kernel), List.mem_of_getElem? (i := 551) (by decide +kernel), List.mem_of_getElem? (i := 552) (by decide +kernel)⟩
theorem lw_p17 : lw_okq (⟨"WaterCarts", "wantOf", "(LWaterCarts$Village;)I"⟩, 15) := ⟨⟨by decide +kernel, by decide +kernel⟩, List.mem_of_getElem? (i := 21) (by decide +kernel), List.mem_of_getElem? (i := 564) (by decide +kernel), List.mem_of_getElem? (i := 565) (by decide +kernel)⟩
theorem lw_p18 : lw_okq (⟨"WaterCarts$Orders", "valueOf", "(I[I)I"⟩, 8) := ⟨⟨by decide +kernel, by decide +kernel⟩, List.mem_of_getElem? (i := 71) (by decide +kernel), List.mem_of_getElem? (i := 576) (by decide +kernel), List.mem_of_getElem? (i := 577) (by decide +kernel)⟩
theorem lw_p19 : lw_okq (⟨"WaterCarts$Orders", "push", "(I)V"⟩, 8) := ⟨⟨by decide +kernel, by decide +kernel⟩, List.mem_of_getElem? (i := 71) (by decide +kernel), List.mem_of_getElem? (i := 580) (by decide +kernel), List.mem_of_getElem? (i := 581) (by decide +kernel)⟩
theorem lw_p20 : lw_okq (⟨"WaterCarts$Orders", "pop", "()I"⟩, 8) := ⟨⟨by decide +kernel, by decide +kernel⟩, List.mem_of_getElem? (i := 71) (by decide +kernel), List.mem_of_getElem? (i := 584) (by decide +kernel), List.mem_of_getElem? (i := 585) (by decide +kernel)⟩
theorem lw_p21 : lw_okq (⟨"WaterCarts", "makePlan", "()V"⟩, 15) := ⟨⟨by decide +kernel, by decide +kernel⟩, List.mem_of_getElem? (i := 21) (by decide +kernel), List.mem_of_getElem? (i := 595) (by decide +kernel), List.mem_of_getElem? (i := 596) (by decide +kernel)⟩
theorem lw_p22 : lw_okq (⟨"WaterCarts", "addNeedy", "(II)V"⟩, 15) := ⟨⟨by decide +kernel, by decide +kernel⟩, List.mem_of_getElem? (i := 21) (by decide +kernel), List.mem_of_getElem? (i := 608) (by decide +kernel), List.mem_of_getElem? (i := 609) (by decide +kernel)⟩
theorem lw_p23 : lw_okq (⟨"WaterCarts$Planner", "leastTrip", "(I)I"⟩, 17) := ⟨⟨by decide +kernel, by decide +kernel⟩, List.mem_of_getElem? (i := 122) (by decide +kernel), List.mem_of_getElem? (i := 628) (by decide +kernel), List.mem_of_getElem? (i := 629) (by decide +kernel)⟩
theorem lw_p24 : lw_okq (⟨"WaterCarts$Planner", "serves", "(II)Z"⟩, 17) := ⟨⟨by decide +kernel, by decide +kernel⟩, List.mem_of_getElem? (i := 122) (by decide +kernel), List.mem_of_getElem? (i := 632) (by decide +kernel), List.mem_of_getElem? (i := 633) (by decide +kernel)⟩
theorem lw_p25 : lw_okq (⟨"WaterCarts$Planner", "load", "(II)I"⟩, 17) := ⟨⟨by decide +kernel, by decide +kernel⟩, List.mem_of_getElem? (i := 122) (by decide +kernel), List.mem_of_getElem? (i := 636) (by decide +kernel), List.mem_of_getElem? (i := 637) (by decide +kernel)⟩
theorem lw_p26 : lw_okq (⟨"WaterCarts$Planner", "search", "(III)V"⟩, 17) := ⟨⟨by decide +kernel, by decide +kernel⟩, List.mem_of_getElem? (i := 122) (by decide +kernel), List.mem_of_getElem? (i := 643) (by decide +kernel), List.mem_of_getElem? (i := 644) (by decide +kernel)⟩
theorem lw_p27 : lw_okq (⟨"WaterCarts$Planner", "keep", "(II)V"⟩, 17) := ⟨⟨by decide +kernel, by decide +kernel⟩, List.mem_of_getElem? (i := 122) (by decide +kernel), List.mem_of_getElem? (i := 647) (by decide +kernel), List.mem_of_getElem? (i := 648) (by decide +kernel)⟩
theorem lw_p28 : lw_okq (⟨"WaterCarts$Planner", "tryTrip", "(IIII)V"⟩, 17) := ⟨⟨by decide +kernel, by decide +kernel⟩, List.mem_of_getElem? (i := 122) (by decide +kernel), List.mem_of_getElem? (i := 651) (by decide +kernel), List.mem_of_getElem? (i := 652) (by decide +kernel)⟩
theorem lw_p29 : lw_okq (⟨"WaterCarts", "passDay", "()V"⟩, 15) := ⟨⟨by decide +kernel, by decide +kernel⟩, List.mem_of_getElem? (i := 21) (by decide +kernel), List.mem_of_getElem? (i := 663) (by decide +kernel), List.mem_of_getElem? (i := 664) (by decide +kernel)⟩
theorem lw_p30 : lw_okq (⟨"WaterCarts", "drive", "(II)V"⟩, 15) := ⟨⟨by decide +kernel, by decide +kernel⟩, List.mem_of_getElem? (i := 21) (by decide +kernel), List.mem_of_getElem? (i := 677) (by decide +kernel), List.mem_of_getElem? (i := 678) (by decide +kernel)⟩
theorem lw_p31 : lw_okq (⟨"WaterCarts", "isTanker", "(I)Z"⟩, 15) := ⟨⟨by decide +kernel, by decide +kernel⟩, List.mem_of_getElem? (i := 21) (by decide +kernel), List.mem_of_getElem? (i := 681) (by decide +kernel), List.mem_of_getElem? (i := 682) (by decide +kernel)⟩
def lw_privs_2 : List (MethodName × Nat) := [(⟨"WaterCarts$Reader", "readPart", "(I)Z"⟩, 5), (⟨"WaterCarts", "wantOf", "(LWaterCarts$Village;)I"⟩, 15), (⟨"WaterCarts$Orders", "valueOf", "(I[I)I"⟩, 8), (⟨"WaterCarts$Orders", "push", "(I)V"⟩, 8), (⟨"WaterCarts$Orders", "pop", "()I"⟩, 8), (⟨"WaterCarts", "makePlan", "()V"⟩, 15), (⟨"WaterCarts", "addNeedy", "(II)V"⟩, 15), (⟨"WaterCarts$Planner", "leastTrip", "(I)I"⟩, 17), (⟨"WaterCarts$Planner", "serves", "(II)Z"⟩, 17), (⟨"WaterCarts$Planner", "load", "(II)I"⟩, 17), (⟨"WaterCarts$Planner", "search", "(III)V"⟩, 17), (⟨"WaterCarts$Planner", "keep", "(II)V"⟩, 17), (⟨"WaterCarts$Planner", "tryTrip", "(IIII)V"⟩, 17), (⟨"WaterCarts", "passDay", "()V"⟩, 15), (⟨"WaterCarts", "drive", "(II)V"⟩, 15), (⟨"WaterCarts", "isTanker", "(I)Z"⟩, 15)]
theorem lw_r2 : ∀ q ∈ lw_privs_2, lw_okq q := List.forall_mem_cons.mpr ⟨lw_p16, List.forall_mem_cons.mpr ⟨lw_p17, List.forall_mem_cons.mpr ⟨lw_p18, List.forall_mem_cons.mpr ⟨lw_p19, List.forall_mem_cons.mpr ⟨lw_p20, List.forall_mem_cons.mpr ⟨lw_p21, List.forall_mem_cons.mpr ⟨lw_p22, List.forall_mem_cons.mpr ⟨lw_p23, List.forall_mem_cons.mpr ⟨lw_p24, List.forall_mem_cons.mpr ⟨lw_p25, List.forall_mem_cons.mpr ⟨lw_p26, List.forall_mem_cons.mpr ⟨lw_p27, List.forall_mem_cons.mpr ⟨lw_p28, List.forall_mem_cons.mpr ⟨lw_p29, List.forall_mem_cons.mpr ⟨lw_p30, List.forall_mem_cons.mpr ⟨lw_p31, fun _ h => absurd h List.not_mem_nil⟩⟩⟩⟩⟩⟩⟩⟩⟩⟩⟩⟩⟩⟩⟩⟩
theorem lw_p32 : lw_okq (⟨"WaterCarts", "giveToAll", "()V"⟩, 15) := ⟨⟨by decide +kernel, by decide +kernel⟩, List.mem_of_getElem? (i := 21) (by decide +kernel), List.mem_of_getElem? (i := 690) (by decide +kernel), List.mem_of_getElem? (i := 691) (by decide +kernel)⟩
theorem lw_p33 : lw_okq (⟨"WaterCarts", "costOf", "(I)I"⟩, 15) := ⟨⟨by decide +kernel, by decide +kernel⟩, List.mem_of_getElem? (i := 21) (by decide +kernel), List.mem_of_getElem? (i := 713) (by decide +kernel), List.mem_of_getElem? (i := 714) (by decide +kernel)⟩
theorem lw_p34 : lw_okq (⟨"WaterCarts", "worthOf", "(I)I"⟩, 15) := ⟨⟨by decide +kernel, by decide +kernel⟩, List.mem_of_getElem? (i := 21) (by decide +kernel), List.mem_of_getElem? (i := 717) (by decide +kernel), List.mem_of_getElem? (i := 718) (by decide +kernel)⟩
theorem lw_p35 : lw_okq (⟨"WaterCarts", "noneDrilled", "(I)Z"⟩, 15) := ⟨⟨by decide +kernel, by decide +kernel⟩, List.mem_of_getElem? (i := 21) (by decide +kernel), List.mem_of_getElem? (i := 721) (by decide +kernel), List.mem_of_getElem? (i := 722) (by decide +kernel)⟩
theorem lw_p36 : lw_okq (⟨"java/lang/Throwable", "fillInStackTrace", "(I)Ljava/lang/Throwable;"⟩, 6) := ⟨⟨by decide +kernel, by decide +kernel⟩, List.mem_of_getElem? (i := 801) (by decide +kernel), List.mem_of_getElem? (i := 799) (by decide +kernel), List.mem_of_getElem? (i := 800) (by decide +kernel)⟩
theorem lw_p37 : lw_okq (⟨"WaterCartsModel", "lay", "(J)V"⟩, 71) := ⟨⟨by decide +kernel, by decide +kernel⟩, List.mem_of_getElem? (i := 840) (by decide +kernel), List.mem_of_getElem? (i := 838) (by decide +kernel), List.mem_of_getElem? (i := 839) (by decide +kernel)⟩
theorem lw_p38 : lw_okq (⟨"WaterCartsModel", "cutAll", "()V"⟩, 71) := ⟨⟨by decide +kernel, by decide +kernel⟩, List.mem_of_getElem? (i := 840) (by decide +kernel), List.mem_of_getElem? (i := 1078) (by decide +kernel), List.mem_of_getElem? (i := 1079) (by decide +kernel)⟩
theorem lw_p39 : lw_okq (⟨"WaterCartsModel", "line", "()V"⟩, 71) := ⟨⟨by decide +kernel, by decide +kernel⟩, List.mem_of_getElem? (i := 840) (by decide +kernel), List.mem_of_getElem? (i := 1097) (by decide +kernel), List.mem_of_getElem? (i := 1098) (by decide +kernel)⟩
theorem lw_p40 : lw_okq (⟨"WaterCartsModel", "isWord", "(I)Z"⟩, 71) := ⟨⟨by decide +kernel, by decide +kernel⟩, List.mem_of_getElem? (i := 840) (by decide +kernel), List.mem_of_getElem? (i := 1101) (by decide +kernel), List.mem_of_getElem? (i := 1102) (by decide +kernel)⟩
theorem lw_p41 : lw_okq (⟨"WaterCartsModel", "wrong", "(I)V"⟩, 71) := ⟨⟨by decide +kernel, by decide +kernel⟩, List.mem_of_getElem? (i := 840) (by decide +kernel), List.mem_of_getElem? (i := 1105) (by decide +kernel), List.mem_of_getElem? (i := 1106) (by decide +kernel)⟩
theorem lw_p42 : lw_okq (⟨"WaterCartsModel", "takeWord", "(I)V"⟩, 71) := ⟨⟨by decide +kernel, by decide +kernel⟩, List.mem_of_getElem? (i := 840) (by decide +kernel), List.mem_of_getElem? (i := 1110) (by decide +kernel), List.mem_of_getElem? (i := 1111) (by decide +kernel)⟩
theorem lw_p43 : lw_okq (⟨"WaterCartsModel", "hasWord", "(I)Z"⟩, 71) := ⟨⟨by decide +kernel, by decide +kernel⟩, List.mem_of_getElem? (i := 840) (by decide +kernel), List.mem_of_getElem? (i := 1114) (by decide +kernel), List.mem_of_getElem? (i := 1115) (by decide +kernel)⟩
theorem lw_p44 : lw_okq (⟨"WaterCartsModel", "opens", "()V"⟩, 71) := ⟨⟨by decide +kernel, by decide +kernel⟩, List.mem_of_getElem? (i := 840) (by decide +kernel), List.mem_of_getElem? (i := 1118) (by decide +kernel), List.mem_of_getElem? (i := 1119) (by decide +kernel)⟩
theorem lw_p45 : lw_okq (⟨"WaterCartsModel", "part", "()Z"⟩, 71) := ⟨⟨by decide +kernel, by decide +kernel⟩, List.mem_of_getElem? (i := 840) (by decide +kernel), List.mem_of_getElem? (i := 1122) (by decide +kernel), List.mem_of_getElem? (i := 1123) (by decide +kernel)⟩
theorem lw_p46 : lw_okq (⟨"WaterCartsModel", "partWord", "()I"⟩, 71) := ⟨⟨by decide +kernel, by decide +kernel⟩, List.mem_of_getElem? (i := 840) (by decide +kernel), List.mem_of_getElem? (i := 1126) (by decide +kernel), List.mem_of_getElem? (i := 1127) (by decide +kernel)⟩
theorem lw_p47 : lw_okq (⟨"WaterCartsModel", "isSign", "(I)Z"⟩, 71) := ⟨⟨by decide +kernel, by decide +kernel⟩, List.mem_of_getElem? (i := 840) (by decide +kernel), List.mem_of_getElem? (i := 1130) (by decide +kernel), List.mem_of_getElem? (i := 1131) (by decide +kernel)⟩
def lw_privs_3 : List (MethodName × Nat) := [(⟨"WaterCarts", "giveToAll", "()V"⟩, 15), (⟨"WaterCarts", "costOf", "(I)I"⟩, 15), (⟨"WaterCarts", "worthOf", "(I)I"⟩, 15), (⟨"WaterCarts", "noneDrilled", "(I)Z"⟩, 15), (⟨"java/lang/Throwable", "fillInStackTrace", "(I)Ljava/lang/Throwable;"⟩, 6), (⟨"WaterCartsModel", "lay", "(J)V"⟩, 71), (⟨"WaterCartsModel", "cutAll", "()V"⟩, 71), (⟨"WaterCartsModel", "line", "()V"⟩, 71), (⟨"WaterCartsModel", "isWord", "(I)Z"⟩, 71), (⟨"WaterCartsModel", "wrong", "(I)V"⟩, 71), (⟨"WaterCartsModel", "takeWord", "(I)V"⟩, 71), (⟨"WaterCartsModel", "hasWord", "(I)Z"⟩, 71), (⟨"WaterCartsModel", "opens", "()V"⟩, 71), (⟨"WaterCartsModel", "part", "()Z"⟩, 71), (⟨"WaterCartsModel", "partWord", "()I"⟩, 71), (⟨"WaterCartsModel", "isSign", "(I)Z"⟩, 71)]
theorem lw_r3 : ∀ q ∈ lw_privs_3, lw_okq q := List.forall_mem_cons.mpr ⟨lw_p32, List.forall_mem_cons.mpr ⟨lw_p33, List.forall_mem_cons.mpr ⟨lw_p34, List.forall_mem_cons.mpr ⟨lw_p35, List.forall_mem_cons.mpr ⟨lw_p36, List.forall_mem_cons.mpr ⟨lw_p37, List.forall_mem_cons.mpr ⟨lw_p38, List.forall_mem_cons.mpr ⟨lw_p39, List.forall_mem_cons.mpr ⟨lw_p40, List.forall_mem_cons.mpr ⟨lw_p41, List.forall_mem_cons.mpr ⟨lw_p42, List.forall_mem_cons.mpr ⟨lw_p43, List.forall_mem_cons.mpr ⟨lw_p44, List.forall_mem_cons.mpr ⟨lw_p45, List.forall_mem_cons.mpr ⟨lw_p46, List.forall_mem_cons.mpr ⟨lw_p47, fun _ h => absurd h List.not_mem_nil⟩⟩⟩⟩⟩⟩⟩⟩⟩⟩⟩⟩⟩⟩⟩⟩
theorem lw_p48 : lw_okq (⟨"WaterCartsModel", "hasSign", "(I)Z"⟩, 71) := ⟨⟨by decide +kernel, by decide +kernel⟩, List.mem_of_getElem? (i := 840) (by decide +kernel), List.mem_of_getElem? (i := 1134) (by decide +kernel), List.mem_of_getElem? (i := 1135) (by decide +kernel)⟩
theorem lw_p49 : lw_okq (⟨"WaterCartsModel", "emit", "(II)V"⟩, 71) := ⟨⟨by decide +kernel, by decide +kernel⟩, List.mem_of_getElem? (i := 840) (by decide +kernel), List.mem_of_getElem? (i := 1138) (by decide +kernel), List.mem_of_getElem? (i := 1139) (by decide +kernel)⟩
theorem lw_p50 : lw_okq (⟨"WaterCartsModel", "goesOnBehind", "()Z"⟩, 71) := ⟨⟨by decide +kernel, by decide +kernel⟩, List.mem_of_getElem? (i := 840) (by decide +kernel), List.mem_of_getElem? (i := 1142) (by decide +kernel), List.mem_of_getElem? (i := 1143) (by decide +kernel)⟩
theorem lw_p51 : lw_okq (⟨"WaterCartsModel", "takeSign", "(I)V"⟩, 71) := ⟨⟨by decide +kernel, by decide +kernel⟩, List.mem_of_getElem? (i := 840) (by decide +kernel), List.mem_of_getElem? (i := 1146) (by decide +kernel), List.mem_of_getElem? (i := 1147) (by decide +kernel)⟩
theorem lw_p52 : lw_okq (⟨"WaterCartsModel", "isVillage", "(I)Z"⟩, 71) := ⟨⟨by decide +kernel, by decide +kernel⟩, List.mem_of_getElem? (i := 840) (by decide +kernel), List.mem_of_getElem? (i := 1171) (by decide +kernel), List.mem_of_getElem? (i := 1172) (by decide +kernel)⟩
theorem lw_p53 : lw_okq (⟨"WaterCartsModel", "wantOf", "(II)I"⟩, 71) := ⟨⟨by decide +kernel, by decide +kernel⟩, List.mem_of_getElem? (i := 840) (by decide +kernel), List.mem_of_getElem? (i := 1179) (by decide +kernel), List.mem_of_getElem? (i := 1180) (by decide +kernel)⟩
theorem lw_p54 : lw_okq (⟨"WaterCartsModel", "litres", "(ZI)I"⟩, 71) := ⟨⟨by decide +kernel, by decide +kernel⟩, List.mem_of_getElem? (i := 840) (by decide +kernel), List.mem_of_getElem? (i := 1184) (by decide +kernel), List.mem_of_getElem? (i := 1185) (by decide +kernel)⟩
theorem lw_p55 : lw_okq (⟨"WaterCartsModel", "worth", "(I)I"⟩, 71) := ⟨⟨by decide +kernel, by decide +kernel⟩, List.mem_of_getElem? (i := 840) (by decide +kernel), List.mem_of_getElem? (i := 1188) (by decide +kernel), List.mem_of_getElem? (i := 1189) (by decide +kernel)⟩
theorem lw_p56 : lw_okq (⟨"WaterCartsModel", "findPlan", "(I)V"⟩, 71) := ⟨⟨by decide +kernel, by decide +kernel⟩, List.mem_of_getElem? (i := 840) (by decide +kernel), List.mem_of_getElem? (i := 1196) (by decide +kernel), List.mem_of_getElem? (i := 1197) (by decide +kernel)⟩
theorem lw_p57 : lw_okq (⟨"WaterCartsModel", "findNeedy", "(I)V"⟩, 71) := ⟨⟨by decide +kernel, by decide +kernel⟩, List.mem_of_getElem? (i := 840) (by decide +kernel), List.mem_of_getElem? (i := 1200) (by decide +kernel), List.mem_of_getElem? (i := 1201) (by decide +kernel)⟩
theorem lw_p58 : lw_okq (⟨"WaterCartsModel", "tries", "()I"⟩, 71) := ⟨⟨by decide +kernel, by decide +kernel⟩, List.mem_of_getElem? (i := 840) (by decide +kernel), List.mem_of_getElem? (i := 1204) (by decide +kernel), List.mem_of_getElem? (i := 1205) (by decide +kernel)⟩
theorem lw_p59 : lw_okq (⟨"WaterCartsModel", "milesSent", "()I"⟩, 71) := ⟨⟨by decide +kernel, by decide +kernel⟩, List.mem_of_getElem? (i := 840) (by decide +kernel), List.mem_of_getElem? (i := 1211) (by decide +kernel), List.mem_of_getElem? (i := 1212) (by decide +kernel)⟩
theorem lw_p60 : lw_okq (⟨"WaterCartsModel", "springsGrow", "()V"⟩, 71) := ⟨⟨by decide +kernel, by decide +kernel⟩, List.mem_of_getElem? (i := 840) (by decide +kernel), List.mem_of_getElem? (i := 1223) (by decide +kernel), List.mem_of_getElem? (i := 1224) (by decide +kernel)⟩
theorem lw_p61 : lw_okq (⟨"WaterCartsModel", "brings", "()V"⟩, 71) := ⟨⟨by decide +kernel, by decide +kernel⟩, List.mem_of_getElem? (i := 840) (by decide +kernel), List.mem_of_getElem? (i := 1227) (by decide +kernel), List.mem_of_getElem? (i := 1228) (by decide +kernel)⟩
theorem lw_p62 : lw_okq (⟨"WaterCartsModel", "gives", "(I)V"⟩, 71) := ⟨⟨by decide +kernel, by decide +kernel⟩, List.mem_of_getElem? (i := 840) (by decide +kernel), List.mem_of_getElem? (i := 1231) (by decide +kernel), List.mem_of_getElem? (i := 1232) (by decide +kernel)⟩
def lw_privs_4 : List (MethodName × Nat) := [(⟨"WaterCartsModel", "hasSign", "(I)Z"⟩, 71), (⟨"WaterCartsModel", "emit", "(II)V"⟩, 71), (⟨"WaterCartsModel", "goesOnBehind", "()Z"⟩, 71), (⟨"WaterCartsModel", "takeSign", "(I)V"⟩, 71), (⟨"WaterCartsModel", "isVillage", "(I)Z"⟩, 71), (⟨"WaterCartsModel", "wantOf", "(II)I"⟩, 71), (⟨"WaterCartsModel", "litres", "(ZI)I"⟩, 71), (⟨"WaterCartsModel", "worth", "(I)I"⟩, 71), (⟨"WaterCartsModel", "findPlan", "(I)V"⟩, 71), (⟨"WaterCartsModel", "findNeedy", "(I)V"⟩, 71), (⟨"WaterCartsModel", "tries", "()I"⟩, 71), (⟨"WaterCartsModel", "milesSent", "()I"⟩, 71), (⟨"WaterCartsModel", "springsGrow", "()V"⟩, 71), (⟨"WaterCartsModel", "brings", "()V"⟩, 71), (⟨"WaterCartsModel", "gives", "(I)V"⟩, 71)]
theorem lw_r4 : ∀ q ∈ lw_privs_4, lw_okq q := List.forall_mem_cons.mpr ⟨lw_p48, List.forall_mem_cons.mpr ⟨lw_p49, List.forall_mem_cons.mpr ⟨lw_p50, List.forall_mem_cons.mpr ⟨lw_p51, List.forall_mem_cons.mpr ⟨lw_p52, List.forall_mem_cons.mpr ⟨lw_p53, List.forall_mem_cons.mpr ⟨lw_p54, List.forall_mem_cons.mpr ⟨lw_p55, List.forall_mem_cons.mpr ⟨lw_p56, List.forall_mem_cons.mpr ⟨lw_p57, List.forall_mem_cons.mpr ⟨lw_p58, List.forall_mem_cons.mpr ⟨lw_p59, List.forall_mem_cons.mpr ⟨lw_p60, List.forall_mem_cons.mpr ⟨lw_p61, List.forall_mem_cons.mpr ⟨lw_p62, fun _ h => absurd h List.not_mem_nil⟩⟩⟩⟩⟩⟩⟩⟩⟩⟩⟩⟩⟩⟩⟩
def lw_privs : List (MethodName × Nat) := lw_privs_1 ++ (lw_privs_2 ++ (lw_privs_3 ++ (lw_privs_4)))
def lw_tbl : List Cond := k2_sels lw_privs ++ tables_1
theorem lw_privs_ok : ∀ q ∈ lw_privs, lw_okq q := by
  show ∀ q ∈ lw_privs_1 ++ (lw_privs_2 ++ (lw_privs_3 ++ (lw_privs_4))), lw_okq q
  exact List.forall_mem_append.mpr ⟨lw_r1, List.forall_mem_append.mpr ⟨lw_r2, List.forall_mem_append.mpr ⟨lw_r3, lw_r4⟩⟩⟩
-- ===== end of PART A; then your names; then what follows =====
end
section
/-! ===== BEGIN words of one list among another's, by their places ===== -/
theorem goodIn_r {big : List Cond} (ws : List Cond) (ps : List Nat) (hp : ws = ps.filterMap (fun i => big[i]?)) (h : ws.all goodWord = true) : GoodIn big ws := by
  intro w hw
  have h1 := List.all_eq_true.mp h w hw
  rw [hp] at hw
  obtain ⟨i, -, hi⟩ := List.mem_filterMap.mp hw
  have hm : w ∈ big := by first | exact List.mem_of_getElem? hi | exact List.getElem?_mem hi
  exact ⟨hm, good_of_word h1⟩
theorem goodIn_app {big a b : List Cond} (ha : GoodIn big a) (hb : GoodIn big b) : GoodIn big (a ++ b) := fun w h => (List.mem_append.mp h).elim (ha w) (hb w)
theorem goodIn_ca {big a b : List Cond} {c : Cond} (ha : GoodIn big (c :: a)) (hb : GoodIn big b) : GoodIn big (c :: (a ++ b)) := fun w h => (List.mem_cons.mp h).elim (fun e => ha w (List.mem_cons.mpr (Or.inl e))) (fun h => (List.mem_append.mp h).elim (fun h => ha w (List.mem_cons.mpr (Or.inr h))) (hb w))
theorem goodIn_sub {big ws : List Cond} (hm : ∀ w ∈ ws, w ∈ big) (h : ws.all goodWord = true) : GoodIn big ws := fun w hw => ⟨hm w hw, good_of_word (List.all_eq_true.mp h w hw)⟩
/-! ===== END ===== -/

def RX0 : String := "WaterCarts$Bore"
def TX0 : u_T := fun k => match k with
  | 0 => ("WaterCarts$Bore", "village", "I", false)
  | 1 => ("WaterCarts$Bore", "cost", "I", false)
  | 2 => ("WaterCarts$Bore", "worth", "I", false)
  | _ => ("WaterCarts$Bore", "drilled", "Z", false)
def tyX0 : Nat → FieldType := fun k => match k with
  | 0 => .int
  | 1 => .int
  | 2 => .int
  | _ => .boolean
theorem nmX0 : ∀ a, a < 4 → ∀ b, b < 4 → a ≠ b → (TX0 a).2.1 ≠ (TX0 b).2.1 := by decide +kernel
theorem tyX0_ok : ∀ k, k < 4 → parseFieldDescriptor (TX0 k).2.2.1 = some (tyX0 k) := by decide +kernel
abbrev cX0_init : ByteArray := prog_2_method_1_code
def yX0_init : MethodName := ⟨RX0, "<init>", "()V"⟩
def RX1 : String := "WaterCarts$Orders"
def TX1 : u_T := fun k => match k with
  | 0 => ("WaterCarts$Orders", "kinds", "[I", true)
  | 1 => ("WaterCarts$Orders", "litres", "[I", true)
  | 2 => ("WaterCarts$Orders", "starts", "[I", true)
  | 3 => ("WaterCarts$Orders", "steps", "[I", true)
  | 4 => ("WaterCarts$Orders", "stack", "[I", true)
  | 5 => ("WaterCarts$Orders", "lines", "I", false)
  | 6 => ("WaterCarts$Orders", "used", "I", false)
  | _ => ("WaterCarts$Orders", "height", "I", false)
def tyX1 : Nat → FieldType := fun k => match k with
  | 0 => .array .int
  | 1 => .array .int
  | 2 => .array .int
  | 3 => .array .int
  | 4 => .array .int
  | 5 => .int
  | 6 => .int
  | _ => .int
theorem nmX1 : ∀ a, a < 8 → ∀ b, b < 8 → a ≠ b → (TX1 a).2.1 ≠ (TX1 b).2.1 := by decide +kernel
theorem tyX1_ok : ∀ k, k < 8 → parseFieldDescriptor (TX1 k).2.2.1 = some (tyX1 k) := by decide +kernel
abbrev cX1_init : ByteArray := prog_3_method_1_code
def yX1_init : MethodName := ⟨RX1, "<init>", "()V"⟩
abbrev cX1_clear : ByteArray := prog_3_method_2_code
def yX1_clear : MethodName := ⟨RX1, "clear", "()V"⟩
abbrev cX1_addLine : ByteArray := prog_3_method_3_code
def yX1_addLine : MethodName := ⟨RX1, "addLine", "(II)V"⟩
abbrev cX1_addStep : ByteArray := prog_3_method_4_code
def yX1_addStep : MethodName := ⟨RX1, "addStep", "(I)V"⟩
abbrev cX1_litresFor : ByteArray := prog_3_method_5_code
def yX1_litresFor : MethodName := ⟨RX1, "litresFor", "(I[II)I"⟩
abbrev cX1_valueOf : ByteArray := prog_3_method_6_code
def yX1_valueOf : MethodName := ⟨RX1, "valueOf", "(I[I)I"⟩
abbrev cX1_joined : ByteArray := prog_3_method_7_code
def yX1_joined : MethodName := ⟨RX1, "joined", "(III)I"⟩
abbrev cX1_push : ByteArray := prog_3_method_8_code
def yX1_push : MethodName := ⟨RX1, "push", "(I)V"⟩
abbrev cX1_pop : ByteArray := prog_3_method_9_code
def yX1_pop : MethodName := ⟨RX1, "pop", "()I"⟩
def RX2 : String := "WaterCarts$Planner"
def TX2 : u_T := fun k => match k with
  | 0 => ("WaterCarts$Planner", "pools", "[I", true)
  | 1 => ("WaterCarts$Planner", "springOf", "[I", true)
  | 2 => ("WaterCarts$Planner", "holds", "[I", true)
  | 3 => ("WaterCarts$Planner", "milesLeft", "[I", true)
  | 4 => ("WaterCarts$Planner", "needy", "[I", true)
  | 5 => ("WaterCarts$Planner", "lacks", "[I", true)
  | 6 => ("WaterCarts$Planner", "rooms", "[I", true)
  | 7 => ("WaterCarts$Planner", "trips", "[[I", true)
  | 8 => ("WaterCarts$Planner", "chosen", "[I", true)
  | 9 => ("WaterCarts$Planner", "best", "[I", true)
  | 10 => ("WaterCarts$Planner", "lost", "[I", true)
  | 11 => ("WaterCarts$Planner", "leastMiles", "[I", true)
  | 12 => ("WaterCarts$Planner", "tankerCount", "I", false)
  | 13 => ("WaterCarts$Planner", "needyInAll", "I", false)
  | 14 => ("WaterCarts$Planner", "needyCount", "I", false)
  | 15 => ("WaterCarts$Planner", "bestDry", "I", false)
  | _ => ("WaterCarts$Planner", "bestMiles", "I", false)
def tyX2 : Nat → FieldType := fun k => match k with
  | 0 => .array .int
  | 1 => .array .int
  | 2 => .array .int
  | 3 => .array .int
  | 4 => .array .int
  | 5 => .array .int
  | 6 => .array .int
  | 7 => .array (.array .int)
  | 8 => .array .int
  | 9 => .array .int
  | 10 => .array .int
  | 11 => .array .int
  | 12 => .int
  | 13 => .int
  | 14 => .int
  | 15 => .int
  | _ => .int
theorem nmX2 : ∀ a, a < 17 → ∀ b, b < 17 → a ≠ b → (TX2 a).2.1 ≠ (TX2 b).2.1 := by decide +kernel
theorem tyX2_ok : ∀ k, k < 17 → parseFieldDescriptor (TX2 k).2.2.1 = some (tyX2 k) := by decide +kernel
abbrev cX2_init : ByteArray := prog_4_method_1_code
def yX2_init : MethodName := ⟨RX2, "<init>", "()V"⟩
abbrev cX2_clear : ByteArray := prog_4_method_2_code
def yX2_clear : MethodName := ⟨RX2, "clear", "()V"⟩
abbrev cX2_addTanker : ByteArray := prog_4_method_3_code
def yX2_addTanker : MethodName := ⟨RX2, "addTanker", "(III)V"⟩
abbrev cX2_addPlace : ByteArray := prog_4_method_4_code
def yX2_addPlace : MethodName := ⟨RX2, "addPlace", "(III)V"⟩
abbrev cX2_setTrip : ByteArray := prog_4_method_5_code
def yX2_setTrip : MethodName := ⟨RX2, "setTrip", "(II)V"⟩
abbrev cX2_findBest : ByteArray := prog_4_method_6_code
def yX2_findBest : MethodName := ⟨RX2, "findBest", "()V"⟩
abbrev cX2_leastTrip : ByteArray := prog_4_method_7_code
def yX2_leastTrip : MethodName := ⟨RX2, "leastTrip", "(I)I"⟩
abbrev cX2_serves : ByteArray := prog_4_method_8_code
def yX2_serves : MethodName := ⟨RX2, "serves", "(II)Z"⟩
abbrev cX2_load : ByteArray := prog_4_method_9_code
def yX2_load : MethodName := ⟨RX2, "load", "(II)I"⟩
abbrev cX2_search : ByteArray := prog_4_method_10_code
def yX2_search : MethodName := ⟨RX2, "search", "(III)V"⟩
abbrev cX2_tryTrip : ByteArray := prog_4_method_11_code
def yX2_tryTrip : MethodName := ⟨RX2, "tryTrip", "(IIII)V"⟩
abbrev cX2_keep : ByteArray := prog_4_method_12_code
def yX2_keep : MethodName := ⟨RX2, "keep", "(II)V"⟩
def RX3 : String := "WaterCarts$Reader"
def TX3 : u_T := fun k => match k with
  | 0 => ("WaterCarts$Reader", "tape", "LWaterCarts$Tape;", true)
  | 1 => ("WaterCarts$Reader", "standing", "LWaterCarts$Orders;", false)
  | 2 => ("WaterCarts$Reader", "draft", "LWaterCarts$Orders;", false)
  | 3 => ("WaterCarts$Reader", "at", "I", false)
  | _ => ("WaterCarts$Reader", "fault", "I", false)
def tyX3 : Nat → FieldType := fun k => match k with
  | 0 => .object "WaterCarts$Tape"
  | 1 => .object "WaterCarts$Orders"
  | 2 => .object "WaterCarts$Orders"
  | 3 => .int
  | _ => .int
theorem nmX3 : ∀ a, a < 5 → ∀ b, b < 5 → a ≠ b → (TX3 a).2.1 ≠ (TX3 b).2.1 := by decide +kernel
theorem tyX3_ok : ∀ k, k < 5 → parseFieldDescriptor (TX3 k).2.2.1 = some (tyX3 k) := by decide +kernel
abbrev cX3_init : ByteArray := prog_5_method_1_code
def yX3_init : MethodName := ⟨RX3, "<init>", "()V"⟩
abbrev cX3_readText : ByteArray := prog_5_method_2_code
def yX3_readText : MethodName := ⟨RX3, "readText", "()I"⟩
abbrev cX3_token : ByteArray := prog_5_method_3_code
def yX3_token : MethodName := ⟨RX3, "token", "()I"⟩
abbrev cX3_readLine : ByteArray := prog_5_method_4_code
def yX3_readLine : MethodName := ⟨RX3, "readLine", "()Z"⟩
abbrev cX3_readTests : ByteArray := prog_5_method_5_code
def yX3_readTests : MethodName := ⟨RX3, "readTests", "(I)Z"⟩
abbrev cX3_readTest : ByteArray := prog_5_method_6_code
def yX3_readTest : MethodName := ⟨RX3, "readTest", "(I)Z"⟩
abbrev cX3_readSum : ByteArray := prog_5_method_7_code
def yX3_readSum : MethodName := ⟨RX3, "readSum", "(I)Z"⟩
abbrev cX3_readPart : ByteArray := prog_5_method_8_code
def yX3_readPart : MethodName := ⟨RX3, "readPart", "(I)Z"⟩
abbrev cX3_take : ByteArray := prog_5_method_9_code
def yX3_take : MethodName := ⟨RX3, "take", "(I)Z"⟩
abbrev cX3_wrong : ByteArray := prog_5_method_10_code
def yX3_wrong : MethodName := ⟨RX3, "wrong", "(I)Z"⟩
def RX4 : String := "WaterCarts$Spring"
def TX4 : u_T := fun k => match k with
  | 0 => ("WaterCarts$Spring", "flow", "I", false)
  | 1 => ("WaterCarts$Spring", "pool", "I", false)
  | 2 => ("WaterCarts$Spring", "in", "I", false)
  | 3 => ("WaterCarts$Spring", "fall", "I", false)
  | _ => ("WaterCarts$Spring", "ways", "[I", true)
def tyX4 : Nat → FieldType := fun k => match k with
  | 0 => .int
  | 1 => .int
  | 2 => .int
  | 3 => .int
  | _ => .array .int
theorem nmX4 : ∀ a, a < 5 → ∀ b, b < 5 → a ≠ b → (TX4 a).2.1 ≠ (TX4 b).2.1 := by decide +kernel
theorem tyX4_ok : ∀ k, k < 5 → parseFieldDescriptor (TX4 k).2.2.1 = some (tyX4 k) := by decide +kernel
abbrev cX4_init : ByteArray := prog_6_method_1_code
def yX4_init : MethodName := ⟨RX4, "<init>", "()V"⟩
abbrev cX4_run : ByteArray := prog_6_method_2_code
def yX4_run : MethodName := ⟨RX4, "run", "()V"⟩
def RX5 : String := "WaterCarts$Tanker"
def TX5 : u_T := fun k => match k with
  | 0 => ("WaterCarts$Tanker", "spring", "I", false)
  | 1 => ("WaterCarts$Tanker", "holds", "I", false)
  | 2 => ("WaterCarts$Tanker", "miles", "I", false)
  | 3 => ("WaterCarts$Tanker", "milesLatest", "I", false)
  | 4 => ("WaterCarts$Tanker", "milesInAll", "I", false)
  | 5 => ("WaterCarts$Tanker", "brought", "I", false)
  | 6 => ("WaterCarts$Tanker", "dips", "I", false)
  | 7 => ("WaterCarts$Tanker", "lacking", "I", false)
  | _ => ("WaterCarts$Tanker", "doubt", "I", false)
def tyX5 : Nat → FieldType := fun k => match k with
  | 0 => .int
  | 1 => .int
  | 2 => .int
  | 3 => .int
  | 4 => .int
  | 5 => .int
  | 6 => .int
  | 7 => .int
  | _ => .int
theorem nmX5 : ∀ a, a < 9 → ∀ b, b < 9 → a ≠ b → (TX5 a).2.1 ≠ (TX5 b).2.1 := by decide +kernel
theorem tyX5_ok : ∀ k, k < 9 → parseFieldDescriptor (TX5 k).2.2.1 = some (tyX5 k) := by decide +kernel
abbrev cX5_init : ByteArray := prog_7_method_1_code
def yX5_init : MethodName := ⟨RX5, "<init>", "()V"⟩
abbrev cX5_carried : ByteArray := prog_7_method_2_code
def yX5_carried : MethodName := ⟨RX5, "carried", "(II)V"⟩
def RX6 : String := "WaterCarts$Tape"
def TX6 : u_T := fun k => match k with
  | 0 => ("WaterCarts$Tape", "signs", "[C", true)
  | 1 => ("WaterCarts$Tape", "tokens", "[I", true)
  | 2 => ("WaterCarts$Tape", "places", "[I", true)
  | 3 => ("WaterCarts$Tape", "length", "I", false)
  | _ => ("WaterCarts$Tape", "tokenCount", "I", false)
def tyX6 : Nat → FieldType := fun k => match k with
  | 0 => .array .char
  | 1 => .array .int
  | 2 => .array .int
  | 3 => .int
  | _ => .int
theorem nmX6 : ∀ a, a < 5 → ∀ b, b < 5 → a ≠ b → (TX6 a).2.1 ≠ (TX6 b).2.1 := by decide +kernel
theorem tyX6_ok : ∀ k, k < 5 → parseFieldDescriptor (TX6 k).2.2.1 = some (tyX6 k) := by decide +kernel
abbrev cX6_init : ByteArray := prog_8_method_1_code
def yX6_init : MethodName := ⟨RX6, "<init>", "()V"⟩
abbrev cX6_addEight : ByteArray := prog_8_method_2_code
def yX6_addEight : MethodName := ⟨RX6, "addEight", "(J)V"⟩
abbrev cX6_addSign : ByteArray := prog_8_method_3_code
def yX6_addSign : MethodName := ⟨RX6, "addSign", "(I)V"⟩
abbrev cX6_scan : ByteArray := prog_8_method_4_code
def yX6_scan : MethodName := ⟨RX6, "scan", "()V"⟩
abbrev cX6_addToken : ByteArray := prog_8_method_5_code
def yX6_addToken : MethodName := ⟨RX6, "addToken", "(II)V"⟩
abbrev cX6_endOfRun : ByteArray := prog_8_method_6_code
def yX6_endOfRun : MethodName := ⟨RX6, "endOfRun", "(I)I"⟩
abbrev cX6_tokenOf : ByteArray := prog_8_method_7_code
def yX6_tokenOf : MethodName := ⟨RX6, "tokenOf", "(II)I"⟩
abbrev cX6_numberToken : ByteArray := prog_8_method_8_code
def yX6_numberToken : MethodName := ⟨RX6, "numberToken", "(II)I"⟩
abbrev cX6_wordToken : ByteArray := prog_8_method_9_code
def yX6_wordToken : MethodName := ⟨RX6, "wordToken", "(II)I"⟩
abbrev cX6_reads : ByteArray := prog_8_method_10_code
def yX6_reads : MethodName := ⟨RX6, "reads", "(Ljava/lang/String;II)Z"⟩
abbrev cX6_isBlank : ByteArray := prog_8_method_11_code
def yX6_isBlank : MethodName := ⟨RX6, "isBlank", "(C)Z"⟩
abbrev cX6_isLetter : ByteArray := prog_8_method_12_code
def yX6_isLetter : MethodName := ⟨RX6, "isLetter", "(C)Z"⟩
abbrev cX6_isDigit : ByteArray := prog_8_method_13_code
def yX6_isDigit : MethodName := ⟨RX6, "isDigit", "(C)Z"⟩
abbrev cX6_signToken : ByteArray := prog_8_method_14_code
def yX6_signToken : MethodName := ⟨RX6, "signToken", "(C)I"⟩
def RX7 : String := "WaterCarts$Village"
def TX7 : u_T := fun k => match k with
  | 0 => ("WaterCarts$Village", "people", "I", false)
  | 1 => ("WaterCarts$Village", "beasts", "I", false)
  | 2 => ("WaterCarts$Village", "tank", "I", false)
  | 3 => ("WaterCarts$Village", "in", "I", false)
  | 4 => ("WaterCarts$Village", "well", "I", false)
  | 5 => ("WaterCarts$Village", "given", "I", false)
  | 6 => ("WaterCarts$Village", "dry", "Z", false)
  | 7 => ("WaterCarts$Village", "dryInRow", "I", false)
  | 8 => ("WaterCarts$Village", "dryInAll", "I", false)
  | 9 => ("WaterCarts$Village", "trips", "I", false)
  | _ => ("WaterCarts$Village", "week", "[I", true)
def tyX7 : Nat → FieldType := fun k => match k with
  | 0 => .int
  | 1 => .int
  | 2 => .int
  | 3 => .int
  | 4 => .int
  | 5 => .int
  | 6 => .boolean
  | 7 => .int
  | 8 => .int
  | 9 => .int
  | _ => .array .int
theorem nmX7 : ∀ a, a < 11 → ∀ b, b < 11 → a ≠ b → (TX7 a).2.1 ≠ (TX7 b).2.1 := by decide +kernel
theorem tyX7_ok : ∀ k, k < 11 → parseFieldDescriptor (TX7 k).2.2.1 = some (tyX7 k) := by decide +kernel
abbrev cX7_init : ByteArray := prog_9_method_1_code
def yX7_init : MethodName := ⟨RX7, "<init>", "()V"⟩
abbrev cX7_room : ByteArray := prog_9_method_2_code
def yX7_room : MethodName := ⟨RX7, "room", "()I"⟩
abbrev cX7_hundredths : ByteArray := prog_9_method_3_code
def yX7_hundredths : MethodName := ⟨RX7, "hundredths", "()I"⟩
abbrev cX7_fill : ByteArray := prog_9_method_4_code
def yX7_fill : MethodName := ⟨RX7, "fill", "(I)V"⟩
abbrev cX7_give : ByteArray := prog_9_method_5_code
def yX7_give : MethodName := ⟨RX7, "give", "(II)V"⟩
abbrev cX7_givenInWeek : ByteArray := prog_9_method_6_code
def yX7_givenInWeek : MethodName := ⟨RX7, "givenInWeek", "()I"⟩
abbrev cX7_told : ByteArray := prog_9_method_7_code
def yX7_told : MethodName := ⟨RX7, "told", "(I)I"⟩
def RX8 : String := "WaterCarts"
def TX8 : u_T := fun k => match k with
  | 0 => ("WaterCarts", "villages", "[LWaterCarts$Village;", true)
  | 1 => ("WaterCarts", "springs", "[LWaterCarts$Spring;", true)
  | 2 => ("WaterCarts", "tankers", "[LWaterCarts$Tanker;", true)
  | 3 => ("WaterCarts", "bores", "[LWaterCarts$Bore;", true)
  | 4 => ("WaterCarts", "facts", "[I", true)
  | 5 => ("WaterCarts", "reader", "LWaterCarts$Reader;", true)
  | 6 => ("WaterCarts", "planner", "LWaterCarts$Planner;", true)
  | 7 => ("WaterCarts", "villageCount", "I", false)
  | 8 => ("WaterCarts", "springCount", "I", false)
  | 9 => ("WaterCarts", "tankerCount", "I", false)
  | 10 => ("WaterCarts", "boreCount", "I", false)
  | 11 => ("WaterCarts", "dipCount", "I", false)
  | 12 => ("WaterCarts", "now", "I", false)
  | 13 => ("WaterCarts", "dryLatest", "I", false)
  | _ => ("WaterCarts", "givenInAll", "I", false)
def tyX8 : Nat → FieldType := fun k => match k with
  | 0 => .array (.object "WaterCarts$Village")
  | 1 => .array (.object "WaterCarts$Spring")
  | 2 => .array (.object "WaterCarts$Tanker")
  | 3 => .array (.object "WaterCarts$Bore")
  | 4 => .array .int
  | 5 => .object "WaterCarts$Reader"
  | 6 => .object "WaterCarts$Planner"
  | 7 => .int
  | 8 => .int
  | 9 => .int
  | 10 => .int
  | 11 => .int
  | 12 => .int
  | 13 => .int
  | _ => .int
theorem nmX8 : ∀ a, a < 15 → ∀ b, b < 15 → a ≠ b → (TX8 a).2.1 ≠ (TX8 b).2.1 := by decide +kernel
theorem tyX8_ok : ∀ k, k < 15 → parseFieldDescriptor (TX8 k).2.2.1 = some (tyX8 k) := by decide +kernel
abbrev cX8_init : ByteArray := prog_1_method_1_code
def yX8_init : MethodName := ⟨RX8, "<init>", "()V"⟩
abbrev cX8_village : ByteArray := prog_1_method_2_code
def yX8_village : MethodName := ⟨RX8, "village", "(IIII)I"⟩
abbrev cX8_spring : ByteArray := prog_1_method_3_code
def yX8_spring : MethodName := ⟨RX8, "spring", "(III)I"⟩
abbrev cX8_tanker : ByteArray := prog_1_method_4_code
def yX8_tanker : MethodName := ⟨RX8, "tanker", "(III)I"⟩
abbrev cX8_way : ByteArray := prog_1_method_5_code
def yX8_way : MethodName := ⟨RX8, "way", "(III)Z"⟩
abbrev cX8_feed : ByteArray := prog_1_method_6_code
def yX8_feed : MethodName := ⟨RX8, "feed", "(JJJ)I"⟩
abbrev cX8_text : ByteArray := prog_1_method_7_code
def yX8_text : MethodName := ⟨RX8, "text", "()I"⟩
abbrev cX8_want : ByteArray := prog_1_method_8_code
def yX8_want : MethodName := ⟨RX8, "want", "(I)I"⟩
abbrev cX8_plan : ByteArray := prog_1_method_9_code
def yX8_plan : MethodName := ⟨RX8, "plan", "(I)I"⟩
abbrev cX8_planned : ByteArray := prog_1_method_10_code
def yX8_planned : MethodName := ⟨RX8, "planned", "(I)I"⟩
abbrev cX8_days : ByteArray := prog_1_method_11_code
def yX8_days : MethodName := ⟨RX8, "days", "(I)I"⟩
abbrev cX8_foretold : ByteArray := prog_1_method_12_code
def yX8_foretold : MethodName := ⟨RX8, "foretold", "(I)I"⟩
abbrev cX8_bore : ByteArray := prog_1_method_13_code
def yX8_bore : MethodName := ⟨RX8, "bore", "(III)I"⟩
abbrev cX8_best : ByteArray := prog_1_method_14_code
def yX8_best : MethodName := ⟨RX8, "best", "(I)I"⟩
abbrev cX8_drill : ByteArray := prog_1_method_15_code
def yX8_drill : MethodName := ⟨RX8, "drill", "(II)Z"⟩
abbrev cX8_dip : ByteArray := prog_1_method_16_code
def yX8_dip : MethodName := ⟨RX8, "dip", "(IIII)I"⟩
abbrev cX8_isShort : ByteArray := prog_1_method_17_code
def yX8_isShort : MethodName := ⟨RX8, "isShort", "(I)I"⟩
abbrev cX8_share : ByteArray := prog_1_method_18_code
def yX8_share : MethodName := ⟨RX8, "share", "(I)I"⟩
abbrev cX8_look : ByteArray := prog_1_method_19_code
def yX8_look : MethodName := ⟨RX8, "look", "(II)I"⟩
abbrev cX8_flows : ByteArray := prog_1_method_20_code
def yX8_flows : MethodName := ⟨RX8, "flows", "(II)I"⟩
abbrev cX8_goes : ByteArray := prog_1_method_21_code
def yX8_goes : MethodName := ⟨RX8, "goes", "(II)I"⟩
abbrev cX8_count : ByteArray := prog_1_method_22_code
def yX8_count : MethodName := ⟨RX8, "count", "(I)I"⟩
abbrev cX8_within : ByteArray := prog_1_method_23_code
def yX8_within : MethodName := ⟨RX8, "within", "(III)Z"⟩
abbrev cX8_isVillage : ByteArray := prog_1_method_24_code
def yX8_isVillage : MethodName := ⟨RX8, "isVillage", "(I)Z"⟩
abbrev cX8_isSpring : ByteArray := prog_1_method_25_code
def yX8_isSpring : MethodName := ⟨RX8, "isSpring", "(I)Z"⟩
abbrev cX8_isTanker : ByteArray := prog_1_method_26_code
def yX8_isTanker : MethodName := ⟨RX8, "isTanker", "(I)Z"⟩
abbrev cX8_wantOf : ByteArray := prog_1_method_27_code
def yX8_wantOf : MethodName := ⟨RX8, "wantOf", "(LWaterCarts$Village;)I"⟩
abbrev cX8_makePlan : ByteArray := prog_1_method_28_code
def yX8_makePlan : MethodName := ⟨RX8, "makePlan", "()V"⟩
abbrev cX8_addNeedy : ByteArray := prog_1_method_29_code
def yX8_addNeedy : MethodName := ⟨RX8, "addNeedy", "(II)V"⟩
abbrev cX8_passDay : ByteArray := prog_1_method_30_code
def yX8_passDay : MethodName := ⟨RX8, "passDay", "()V"⟩
abbrev cX8_drive : ByteArray := prog_1_method_31_code
def yX8_drive : MethodName := ⟨RX8, "drive", "(II)V"⟩
abbrev cX8_giveToAll : ByteArray := prog_1_method_32_code
def yX8_giveToAll : MethodName := ⟨RX8, "giveToAll", "()V"⟩
abbrev cX8_costOf : ByteArray := prog_1_method_33_code
def yX8_costOf : MethodName := ⟨RX8, "costOf", "(I)I"⟩
abbrev cX8_worthOf : ByteArray := prog_1_method_34_code
def yX8_worthOf : MethodName := ⟨RX8, "worthOf", "(I)I"⟩
abbrev cX8_noneDrilled : ByteArray := prog_1_method_35_code
def yX8_noneDrilled : MethodName := ⟨RX8, "noneDrilled", "(I)Z"⟩
def RX9 : String := "WaterCartsModel"
def TX9 : u_T := fun k => match k with
  | 0 => ("WaterCartsModel", "thrown", "I", false)
  | 1 => ("WaterCartsModel", "tape", "[I", true)
  | 2 => ("WaterCartsModel", "taped", "I", false)
  | 3 => ("WaterCartsModel", "size", "I", false)
  | 4 => ("WaterCartsModel", "sort", "[I", true)
  | 5 => ("WaterCartsModel", "place", "[I", true)
  | 6 => ("WaterCartsModel", "value", "[J", true)
  | 7 => ("WaterCartsModel", "at", "I", false)
  | 8 => ("WaterCartsModel", "fault", "I", false)
  | 9 => ("WaterCartsModel", "words", "[J", true)
  | 10 => ("WaterCartsModel", "lines", "[I", true)
  | 11 => ("WaterCartsModel", "isBeast", "[Z", true)
  | 12 => ("WaterCartsModel", "lineN", "[I", true)
  | 13 => ("WaterCartsModel", "lineAt", "[I", true)
  | 14 => ("WaterCartsModel", "op", "[I", true)
  | 15 => ("WaterCartsModel", "one", "[I", true)
  | 16 => ("WaterCartsModel", "holds", "I", false)
  | 17 => ("WaterCartsModel", "next", "I", false)
  | 18 => ("WaterCartsModel", "codes", "I", false)
  | 19 => ("WaterCartsModel", "deep", "I", false)
  | 20 => ("WaterCartsModel", "sumWaits", "[I", true)
  | 21 => ("WaterCartsModel", "signWaits", "[I", true)
  | 22 => ("WaterCartsModel", "andWaits", "[I", true)
  | 23 => ("WaterCartsModel", "known", "[I", true)
  | 24 => ("WaterCartsModel", "pile", "[I", true)
  | 25 => ("WaterCartsModel", "now", "I", false)
  | 26 => ("WaterCartsModel", "villages", "I", false)
  | 27 => ("WaterCartsModel", "people", "[I", true)
  | 28 => ("WaterCartsModel", "beasts", "[I", true)
  | 29 => ("WaterCartsModel", "tank", "[I", true)
  | 30 => ("WaterCartsModel", "in", "[I", true)
  | 31 => ("WaterCartsModel", "well", "[I", true)
  | 32 => ("WaterCartsModel", "inRow", "[I", true)
  | 33 => ("WaterCartsModel", "dryDays", "[I", true)
  | 34 => ("WaterCartsModel", "trips", "[I", true)
  | 35 => ("WaterCartsModel", "given", "[I", true)
  | 36 => ("WaterCartsModel", "isDry", "[Z", true)
  | 37 => ("WaterCartsModel", "dryNow", "I", false)
  | 38 => ("WaterCartsModel", "springs", "I", false)
  | 39 => ("WaterCartsModel", "flow", "[I", true)
  | 40 => ("WaterCartsModel", "pool", "[I", true)
  | 41 => ("WaterCartsModel", "inPool", "[I", true)
  | 42 => ("WaterCartsModel", "fall", "[I", true)
  | 43 => ("WaterCartsModel", "tankers", "I", false)
  | 44 => ("WaterCartsModel", "springOf", "[I", true)
  | 45 => ("WaterCartsModel", "loads", "[I", true)
  | 46 => ("WaterCartsModel", "miles", "[I", true)
  | 47 => ("WaterCartsModel", "went", "[I", true)
  | 48 => ("WaterCartsModel", "wentAll", "[I", true)
  | 49 => ("WaterCartsModel", "brought", "[I", true)
  | 50 => ("WaterCartsModel", "ways", "[I", true)
  | 51 => ("WaterCartsModel", "needyAll", "I", false)
  | 52 => ("WaterCartsModel", "needy", "I", false)
  | 53 => ("WaterCartsModel", "who", "[I", true)
  | 54 => ("WaterCartsModel", "wants", "[I", true)
  | 55 => ("WaterCartsModel", "sent", "[I", true)
  | 56 => ("WaterCartsModel", "best", "[I", true)
  | 57 => ("WaterCartsModel", "bestDry", "I", false)
  | 58 => ("WaterCartsModel", "bestMiles", "I", false)
  | 59 => ("WaterCartsModel", "leftMiles", "[I", true)
  | 60 => ("WaterCartsModel", "leftPool", "[I", true)
  | 61 => ("WaterCartsModel", "givenAll", "I", false)
  | 62 => ("WaterCartsModel", "bores", "I", false)
  | 63 => ("WaterCartsModel", "boreOf", "[I", true)
  | 64 => ("WaterCartsModel", "chance", "[I", true)
  | 65 => ("WaterCartsModel", "cost", "[I", true)
  | 66 => ("WaterCartsModel", "isDrilled", "[Z", true)
  | 67 => ("WaterCartsModel", "dips", "I", false)
  | 68 => ("WaterCartsModel", "dipsOf", "[I", true)
  | 69 => ("WaterCartsModel", "missing", "[I", true)
  | _ => ("WaterCartsModel", "errs", "[I", true)
def tyX9 : Nat → FieldType := fun k => match k with
  | 0 => .int
  | 1 => .array .int
  | 2 => .int
  | 3 => .int
  | 4 => .array .int
  | 5 => .array .int
  | 6 => .array .long
  | 7 => .int
  | 8 => .int
  | 9 => .array .long
  | 10 => .array .int
  | 11 => .array .boolean
  | 12 => .array .int
  | 13 => .array .int
  | 14 => .array .int
  | 15 => .array .int
  | 16 => .int
  | 17 => .int
  | 18 => .int
  | 19 => .int
  | 20 => .array .int
  | 21 => .array .int
  | 22 => .array .int
  | 23 => .array .int
  | 24 => .array .int
  | 25 => .int
  | 26 => .int
  | 27 => .array .int
  | 28 => .array .int
  | 29 => .array .int
  | 30 => .array .int
  | 31 => .array .int
  | 32 => .array .int
  | 33 => .array .int
  | 34 => .array .int
  | 35 => .array .int
  | 36 => .array .boolean
  | 37 => .int
  | 38 => .int
  | 39 => .array .int
  | 40 => .array .int
  | 41 => .array .int
  | 42 => .array .int
  | 43 => .int
  | 44 => .array .int
  | 45 => .array .int
  | 46 => .array .int
  | 47 => .array .int
  | 48 => .array .int
  | 49 => .array .int
  | 50 => .array .int
  | 51 => .int
  | 52 => .int
  | 53 => .array .int
  | 54 => .array .int
  | 55 => .array .int
  | 56 => .array .int
  | 57 => .int
  | 58 => .int
  | 59 => .array .int
  | 60 => .array .int
  | 61 => .int
  | 62 => .int
  | 63 => .array .int
  | 64 => .array .int
  | 65 => .array .int
  | 66 => .array .boolean
  | 67 => .int
  | 68 => .array .int
  | 69 => .array .int
  | _ => .array .int
theorem nmX9 : ∀ a, a < 71 → ∀ b, b < 71 → a ≠ b → (TX9 a).2.1 ≠ (TX9 b).2.1 := by decide +kernel
theorem tyX9_ok : ∀ k, k < 71 → parseFieldDescriptor (TX9 k).2.2.1 = some (tyX9 k) := by decide +kernel
abbrev cX9_thrown : ByteArray := prog_11_method_1_code
def yX9_thrown : MethodName := ⟨RX9, "thrown", "()I"⟩
abbrev cX9_feed : ByteArray := prog_11_method_2_code
def yX9_feed : MethodName := ⟨RX9, "feed", "(JJJ)I"⟩
abbrev cX9_lay : ByteArray := prog_11_method_3_code
def yX9_lay : MethodName := ⟨RX9, "lay", "(J)V"⟩
abbrev cX9_init : ByteArray := prog_11_method_4_code
def yX9_init : MethodName := ⟨RX9, "<init>", "()V"⟩
abbrev cX9_isLetter : ByteArray := prog_11_method_5_code
def yX9_isLetter : MethodName := ⟨RX9, "isLetter", "(I)Z"⟩
abbrev cX9_isDigit : ByteArray := prog_11_method_6_code
def yX9_isDigit : MethodName := ⟨RX9, "isDigit", "(I)Z"⟩
abbrev cX9_rank : ByteArray := prog_11_method_7_code
def yX9_rank : MethodName := ⟨RX9, "rank", "(I)I"⟩
abbrev cX9_isSignOf : ByteArray := prog_11_method_8_code
def yX9_isSignOf : MethodName := ⟨RX9, "isSignOf", "(I)Z"⟩
abbrev cX9_cutAll : ByteArray := prog_11_method_9_code
def yX9_cutAll : MethodName := ⟨RX9, "cutAll", "()V"⟩
abbrev cX9_wrong : ByteArray := prog_11_method_10_code
def yX9_wrong : MethodName := ⟨RX9, "wrong", "(I)V"⟩
abbrev cX9_isSign : ByteArray := prog_11_method_11_code
def yX9_isSign : MethodName := ⟨RX9, "isSign", "(I)Z"⟩
abbrev cX9_isWord : ByteArray := prog_11_method_12_code
def yX9_isWord : MethodName := ⟨RX9, "isWord", "(I)Z"⟩
abbrev cX9_takeSign : ByteArray := prog_11_method_13_code
def yX9_takeSign : MethodName := ⟨RX9, "takeSign", "(I)V"⟩
abbrev cX9_hasSign : ByteArray := prog_11_method_14_code
def yX9_hasSign : MethodName := ⟨RX9, "hasSign", "(I)Z"⟩
abbrev cX9_hasWord : ByteArray := prog_11_method_15_code
def yX9_hasWord : MethodName := ⟨RX9, "hasWord", "(I)Z"⟩
abbrev cX9_takeWord : ByteArray := prog_11_method_16_code
def yX9_takeWord : MethodName := ⟨RX9, "takeWord", "(I)V"⟩
abbrev cX9_emit : ByteArray := prog_11_method_17_code
def yX9_emit : MethodName := ⟨RX9, "emit", "(II)V"⟩
abbrev cX9_text : ByteArray := prog_11_method_18_code
def yX9_text : MethodName := ⟨RX9, "text", "()I"⟩
abbrev cX9_line : ByteArray := prog_11_method_19_code
def yX9_line : MethodName := ⟨RX9, "line", "()V"⟩
abbrev cX9_opens : ByteArray := prog_11_method_20_code
def yX9_opens : MethodName := ⟨RX9, "opens", "()V"⟩
abbrev cX9_partWord : ByteArray := prog_11_method_21_code
def yX9_partWord : MethodName := ⟨RX9, "partWord", "()I"⟩
abbrev cX9_part : ByteArray := prog_11_method_22_code
def yX9_part : MethodName := ⟨RX9, "part", "()Z"⟩
abbrev cX9_goesOnBehind : ByteArray := prog_11_method_23_code
def yX9_goesOnBehind : MethodName := ⟨RX9, "goesOnBehind", "()Z"⟩
abbrev cX9_worth : ByteArray := prog_11_method_24_code
def yX9_worth : MethodName := ⟨RX9, "worth", "(I)I"⟩
abbrev cX9_within : ByteArray := prog_11_method_25_code
def yX9_within : MethodName := ⟨RX9, "within", "(III)Z"⟩
abbrev cX9_village : ByteArray := prog_11_method_26_code
def yX9_village : MethodName := ⟨RX9, "village", "(IIII)I"⟩
abbrev cX9_spring : ByteArray := prog_11_method_27_code
def yX9_spring : MethodName := ⟨RX9, "spring", "(III)I"⟩
abbrev cX9_tanker : ByteArray := prog_11_method_28_code
def yX9_tanker : MethodName := ⟨RX9, "tanker", "(III)I"⟩
abbrev cX9_isVillage : ByteArray := prog_11_method_29_code
def yX9_isVillage : MethodName := ⟨RX9, "isVillage", "(I)Z"⟩
abbrev cX9_way : ByteArray := prog_11_method_30_code
def yX9_way : MethodName := ⟨RX9, "way", "(III)Z"⟩
abbrev cX9_litres : ByteArray := prog_11_method_31_code
def yX9_litres : MethodName := ⟨RX9, "litres", "(ZI)I"⟩
abbrev cX9_wantOf : ByteArray := prog_11_method_32_code
def yX9_wantOf : MethodName := ⟨RX9, "wantOf", "(II)I"⟩
abbrev cX9_want : ByteArray := prog_11_method_33_code
def yX9_want : MethodName := ⟨RX9, "want", "(I)I"⟩
abbrev cX9_findNeedy : ByteArray := prog_11_method_34_code
def yX9_findNeedy : MethodName := ⟨RX9, "findNeedy", "(I)V"⟩
abbrev cX9_least : ByteArray := prog_11_method_35_code
def yX9_least : MethodName := ⟨RX9, "least", "(II)I"⟩
abbrev cX9_tries : ByteArray := prog_11_method_36_code
def yX9_tries : MethodName := ⟨RX9, "tries", "()I"⟩
abbrev cX9_milesSent : ByteArray := prog_11_method_37_code
def yX9_milesSent : MethodName := ⟨RX9, "milesSent", "()I"⟩
abbrev cX9_findPlan : ByteArray := prog_11_method_38_code
def yX9_findPlan : MethodName := ⟨RX9, "findPlan", "(I)V"⟩
abbrev cX9_plan : ByteArray := prog_11_method_39_code
def yX9_plan : MethodName := ⟨RX9, "plan", "(I)I"⟩
abbrev cX9_planned : ByteArray := prog_11_method_40_code
def yX9_planned : MethodName := ⟨RX9, "planned", "(I)I"⟩
abbrev cX9_springsGrow : ByteArray := prog_11_method_41_code
def yX9_springsGrow : MethodName := ⟨RX9, "springsGrow", "()V"⟩
abbrev cX9_brings : ByteArray := prog_11_method_42_code
def yX9_brings : MethodName := ⟨RX9, "brings", "()V"⟩
abbrev cX9_gives : ByteArray := prog_11_method_43_code
def yX9_gives : MethodName := ⟨RX9, "gives", "(I)V"⟩
abbrev cX9_days : ByteArray := prog_11_method_44_code
def yX9_days : MethodName := ⟨RX9, "days", "(I)I"⟩
abbrev cX9_foretold : ByteArray := prog_11_method_45_code
def yX9_foretold : MethodName := ⟨RX9, "foretold", "(I)I"⟩
abbrev cX9_bore : ByteArray := prog_11_method_46_code
def yX9_bore : MethodName := ⟨RX9, "bore", "(III)I"⟩
abbrev cX9_best : ByteArray := prog_11_method_47_code
def yX9_best : MethodName := ⟨RX9, "best", "(I)I"⟩
abbrev cX9_drill : ByteArray := prog_11_method_48_code
def yX9_drill : MethodName := ⟨RX9, "drill", "(II)Z"⟩
abbrev cX9_dip : ByteArray := prog_11_method_49_code
def yX9_dip : MethodName := ⟨RX9, "dip", "(IIII)I"⟩
abbrev cX9_isShort : ByteArray := prog_11_method_50_code
def yX9_isShort : MethodName := ⟨RX9, "isShort", "(I)I"⟩
abbrev cX9_share : ByteArray := prog_11_method_51_code
def yX9_share : MethodName := ⟨RX9, "share", "(I)I"⟩
abbrev cX9_look : ByteArray := prog_11_method_52_code
def yX9_look : MethodName := ⟨RX9, "look", "(II)I"⟩
abbrev cX9_flows : ByteArray := prog_11_method_53_code
def yX9_flows : MethodName := ⟨RX9, "flows", "(II)I"⟩
abbrev cX9_goes : ByteArray := prog_11_method_54_code
def yX9_goes : MethodName := ⟨RX9, "goes", "(II)I"⟩
abbrev cX9_count : ByteArray := prog_11_method_55_code
def yX9_count : MethodName := ⟨RX9, "count", "(I)I"⟩
def RJ9 : String := "java/lang/Math"
def TJ9 : u_T := fun k => match k with
  | _ => ("", "", "", false)
def tyJ9 : Nat → FieldType := fun k => match k with
  | _ => .int
theorem nmJ9 : ∀ a, a < 0 → ∀ b, b < 0 → a ≠ b → (TJ9 a).2.1 ≠ (TJ9 b).2.1 := by decide +kernel
theorem tyJ9_ok : ∀ k, k < 0 → parseFieldDescriptor (TJ9 k).2.2.1 = some (tyJ9 k) := by decide +kernel
abbrev cJ9_floorMod_7cf53 : ByteArray := prog_13_method_50_code
def yJ9_floorMod_7cf53 : MethodName := ⟨RJ9, "floorMod", "(II)I"⟩
abbrev cJ9_max_7cf53 : ByteArray := prog_13_method_65_code
def yJ9_max_7cf53 : MethodName := ⟨RJ9, "max", "(II)I"⟩
abbrev cJ9_min_7cf53 : ByteArray := prog_13_method_69_code
def yJ9_min_7cf53 : MethodName := ⟨RJ9, "min", "(II)I"⟩
def RJ0 : String := "java/lang/String"
def TJ0 : u_T := fun k => match k with
  | _ => ("", "", "", false)
def tyJ0 : Nat → FieldType := fun k => match k with
  | _ => .int
theorem nmJ0 : ∀ a, a < 0 → ∀ b, b < 0 → a ≠ b → (TJ0 a).2.1 ≠ (TJ0 b).2.1 := by decide +kernel
theorem tyJ0_ok : ∀ k, k < 0 → parseFieldDescriptor (TJ0 k).2.2.1 = some (tyJ0 k) := by decide +kernel
abbrev cJ0_length_8abf5 : ByteArray := prog_15_method_54_code
def yJ0_length_8abf5 : MethodName := ⟨RJ0, "length", "()I"⟩
abbrev cJ0_charAt_5068e : ByteArray := prog_15_method_56_code
def yJ0_charAt_5068e : MethodName := ⟨RJ0, "charAt", "(I)C"⟩
abbrev cJ0_coder_7d493 : ByteArray := prog_15_method_152_code
def yJ0_coder_7d493 : MethodName := ⟨RJ0, "coder", "()B"⟩
abbrev cJ0_isLatin1_aae02 : ByteArray := prog_15_method_154_code
def yJ0_isLatin1_aae02 : MethodName := ⟨RJ0, "isLatin1", "()Z"⟩
abbrev cJ0_checkIndex_df160 : ByteArray := prog_15_method_155_code
def yJ0_checkIndex_df160 : MethodName := ⟨RJ0, "checkIndex", "(II)V"⟩
def RJ1 : String := "java/lang/StringLatin1"
def TJ1 : u_T := fun k => match k with
  | _ => ("", "", "", false)
def tyJ1 : Nat → FieldType := fun k => match k with
  | _ => .int
theorem nmJ1 : ∀ a, a < 0 → ∀ b, b < 0 → a ≠ b → (TJ1 a).2.1 ≠ (TJ1 b).2.1 := by decide +kernel
theorem tyJ1_ok : ∀ k, k < 0 → parseFieldDescriptor (TJ1 k).2.2.1 = some (tyJ1 k) := by decide +kernel
abbrev cJ1_charAt_3b067 : ByteArray := prog_16_method_2_code
def yJ1_charAt_3b067 : MethodName := ⟨RJ1, "charAt", "([BI)C"⟩
def RJ2 : String := "java/lang/StringUTF16"
def TJ2 : u_T := fun k => match k with
  | _ => ("", "", "", false)
def tyJ2 : Nat → FieldType := fun k => match k with
  | _ => .int
theorem nmJ2 : ∀ a, a < 0 → ∀ b, b < 0 → a ≠ b → (TJ2 a).2.1 ≠ (TJ2 b).2.1 := by decide +kernel
theorem tyJ2_ok : ∀ k, k < 0 → parseFieldDescriptor (TJ2 k).2.2.1 = some (tyJ2 k) := by decide +kernel
abbrev cJ2_getChar_3b067 : ByteArray := prog_17_method_5_code
def yJ2_getChar_3b067 : MethodName := ⟨RJ2, "getChar", "([BI)C"⟩
abbrev cJ2_length_9d52b : ByteArray := prog_17_method_6_code
def yJ2_length_9d52b : MethodName := ⟨RJ2, "length", "([B)I"⟩
abbrev cJ2_charAt_3b067 : ByteArray := prog_17_method_83_code
def yJ2_charAt_3b067 : MethodName := ⟨RJ2, "charAt", "([BI)C"⟩
abbrev cJ2_checkIndex_2214a : ByteArray := prog_17_method_91_code
def yJ2_checkIndex_2214a : MethodName := ⟨RJ2, "checkIndex", "(I[B)V"⟩
def RJ3 : String := "jdk/internal/util/Preconditions"
def TJ3 : u_T := fun k => match k with
  | _ => ("", "", "", false)
def tyJ3 : Nat → FieldType := fun k => match k with
  | _ => .int
theorem nmJ3 : ∀ a, a < 0 → ∀ b, b < 0 → a ≠ b → (TJ3 a).2.1 ≠ (TJ3 b).2.1 := by decide +kernel
theorem tyJ3_ok : ∀ k, k < 0 → parseFieldDescriptor (TJ3 k).2.2.1 = some (tyJ3 k) := by decide +kernel
abbrev cJ3_checkIndex_8e157 : ByteArray := prog_20_method_11_code
def yJ3_checkIndex_8e157 : MethodName := ⟨RJ3, "checkIndex", "(IILjava/util/function/BiFunction;)I"⟩
def RL : String := "WaterCartsLaw"
abbrev cL_look : ByteArray := method_3_code
def yL_look : MethodName := ⟨RL, "look", "(LWaterCarts;II[J)I"⟩
abbrev cL_law : ByteArray := code
def yL_law : MethodName := ⟨RL, "law", "([I)Z"⟩
abbrev vwCl : List vw_C := [(RX0, TX0, 4), (RX1, TX1, 8), (RX2, TX2, 17), (RX3, TX3, 5), (RX4, TX4, 5), (RX5, TX5, 9), (RX6, TX6, 5), (RX7, TX7, 11), (RX8, TX8, 15), (RX9, TX9, 71)]
theorem inX0 : ∀ w ∈ u_ws RX0 TX0 4, w ∈ lw_tbl := by decide +kernel
theorem inX1 : ∀ w ∈ u_ws RX1 TX1 8, w ∈ lw_tbl := by decide +kernel
theorem inX2 : ∀ w ∈ u_ws RX2 TX2 17, w ∈ lw_tbl := by decide +kernel
theorem inX3 : ∀ w ∈ u_ws RX3 TX3 5, w ∈ lw_tbl := by decide +kernel
theorem inX4 : ∀ w ∈ u_ws RX4 TX4 5, w ∈ lw_tbl := by decide +kernel
theorem inX5 : ∀ w ∈ u_ws RX5 TX5 9, w ∈ lw_tbl := by decide +kernel
theorem inX6 : ∀ w ∈ u_ws RX6 TX6 5, w ∈ lw_tbl := by decide +kernel
theorem inX7 : ∀ w ∈ u_ws RX7 TX7 11, w ∈ lw_tbl := by decide +kernel
theorem inX8 : ∀ w ∈ u_ws RX8 TX8 15, w ∈ lw_tbl := by decide +kernel
theorem inX9 : ∀ w ∈ u_ws RX9 TX9 71, w ∈ lw_tbl := by decide +kernel
end
section
theorem dX0_init_0 : decode cX0_init 0 = .ok (.aload_n 0, 1) := by decide +kernel
theorem dX0_init_1 : decode cX0_init 1 = .ok (.invokespecial 1, 3) := by decide +kernel
theorem dX0_init_4 : decode cX0_init 4 = .ok (.return_, 1) := by decide +kernel
theorem dX1_init_0 : decode cX1_init 0 = .ok (.aload_n 0, 1) := by decide +kernel
theorem dX1_init_1 : decode cX1_init 1 = .ok (.invokespecial 3, 3) := by decide +kernel
theorem dX1_init_4 : decode cX1_init 4 = .ok (.aload_n 0, 1) := by decide +kernel
theorem dX1_init_5 : decode cX1_init 5 = .ok (.bipush 16, 2) := by decide +kernel
theorem dX1_init_7 : decode cX1_init 7 = .ok (.newarray .int, 2) := by decide +kernel
theorem dX1_init_9 : decode cX1_init 9 = .ok (.putfield 9, 3) := by decide +kernel
theorem dX1_init_12 : decode cX1_init 12 = .ok (.aload_n 0, 1) := by decide +kernel
theorem dX1_init_13 : decode cX1_init 13 = .ok (.bipush 16, 2) := by decide +kernel
theorem dX1_init_15 : decode cX1_init 15 = .ok (.newarray .int, 2) := by decide +kernel
theorem dX1_init_17 : decode cX1_init 17 = .ok (.putfield 15, 3) := by decide +kernel
theorem dX1_init_20 : decode cX1_init 20 = .ok (.aload_n 0, 1) := by decide +kernel
theorem dX1_init_21 : decode cX1_init 21 = .ok (.bipush 16, 2) := by decide +kernel
theorem dX1_init_23 : decode cX1_init 23 = .ok (.newarray .int, 2) := by decide +kernel
theorem dX1_init_25 : decode cX1_init 25 = .ok (.putfield 18, 3) := by decide +kernel
theorem dX1_init_28 : decode cX1_init 28 = .ok (.aload_n 0, 1) := by decide +kernel
theorem dX1_init_29 : decode cX1_init 29 = .ok (.sipush 600, 3) := by decide +kernel
theorem dX1_init_32 : decode cX1_init 32 = .ok (.newarray .int, 2) := by decide +kernel
theorem dX1_init_34 : decode cX1_init 34 = .ok (.putfield 21, 3) := by decide +kernel
theorem dX1_init_37 : decode cX1_init 37 = .ok (.aload_n 0, 1) := by decide +kernel
theorem dX1_init_38 : decode cX1_init 38 = .ok (.bipush 32, 2) := by decide +kernel
theorem dX1_init_40 : decode cX1_init 40 = .ok (.newarray .int, 2) := by decide +kernel
theorem dX1_init_42 : decode cX1_init 42 = .ok (.putfield 24, 3) := by decide +kernel
theorem dX1_init_45 : decode cX1_init 45 = .ok (.return_, 1) := by decide +kernel
theorem dX1_clear_0 : decode cX1_clear 0 = .ok (.aload_n 0, 1) := by decide +kernel
theorem dX1_clear_1 : decode cX1_clear 1 = .ok (.iconst 0, 1) := by decide +kernel
theorem dX1_clear_2 : decode cX1_clear 2 = .ok (.putfield 27, 3) := by decide +kernel
theorem dX1_clear_5 : decode cX1_clear 5 = .ok (.aload_n 0, 1) := by decide +kernel
theorem dX1_clear_6 : decode cX1_clear 6 = .ok (.iconst 0, 1) := by decide +kernel
theorem dX1_clear_7 : decode cX1_clear 7 = .ok (.putfield 31, 3) := by decide +kernel
theorem dX1_clear_10 : decode cX1_clear 10 = .ok (.return_, 1) := by decide +kernel
theorem dX1_addLine_0 : decode cX1_addLine 0 = .ok (.aload_n 0, 1) := by decide +kernel
theorem dX1_addLine_1 : decode cX1_addLine 1 = .ok (.getfield 27, 3) := by decide +kernel
theorem dX1_addLine_4 : decode cX1_addLine 4 = .ok (.bipush 16, 2) := by decide +kernel
theorem dX1_addLine_6 : decode cX1_addLine 6 = .ok (.if_icmp .ge 46, 3) := by decide +kernel
theorem dX1_addLine_9 : decode cX1_addLine 9 = .ok (.aload_n 0, 1) := by decide +kernel
theorem dX1_addLine_10 : decode cX1_addLine 10 = .ok (.getfield 9, 3) := by decide +kernel
theorem dX1_addLine_13 : decode cX1_addLine 13 = .ok (.aload_n 0, 1) := by decide +kernel
theorem dX1_addLine_14 : decode cX1_addLine 14 = .ok (.getfield 27, 3) := by decide +kernel
theorem dX1_addLine_17 : decode cX1_addLine 17 = .ok (.iload_n 1, 1) := by decide +kernel
theorem dX1_addLine_18 : decode cX1_addLine 18 = .ok (.iastore, 1) := by decide +kernel
theorem dX1_addLine_19 : decode cX1_addLine 19 = .ok (.aload_n 0, 1) := by decide +kernel
theorem dX1_addLine_20 : decode cX1_addLine 20 = .ok (.getfield 15, 3) := by decide +kernel
theorem dX1_addLine_23 : decode cX1_addLine 23 = .ok (.aload_n 0, 1) := by decide +kernel
theorem dX1_addLine_24 : decode cX1_addLine 24 = .ok (.getfield 27, 3) := by decide +kernel
theorem dX1_addLine_27 : decode cX1_addLine 27 = .ok (.iload_n 2, 1) := by decide +kernel
theorem dX1_addLine_28 : decode cX1_addLine 28 = .ok (.iastore, 1) := by decide +kernel
theorem dX1_addLine_29 : decode cX1_addLine 29 = .ok (.aload_n 0, 1) := by decide +kernel
theorem dX1_addLine_30 : decode cX1_addLine 30 = .ok (.getfield 18, 3) := by decide +kernel
theorem dX1_addLine_33 : decode cX1_addLine 33 = .ok (.aload_n 0, 1) := by decide +kernel
theorem dX1_addLine_34 : decode cX1_addLine 34 = .ok (.getfield 27, 3) := by decide +kernel
theorem dX1_addLine_37 : decode cX1_addLine 37 = .ok (.aload_n 0, 1) := by decide +kernel
theorem dX1_addLine_38 : decode cX1_addLine 38 = .ok (.getfield 31, 3) := by decide +kernel
theorem dX1_addLine_41 : decode cX1_addLine 41 = .ok (.iastore, 1) := by decide +kernel
theorem dX1_addLine_42 : decode cX1_addLine 42 = .ok (.aload_n 0, 1) := by decide +kernel
theorem dX1_addLine_43 : decode cX1_addLine 43 = .ok (.dup, 1) := by decide +kernel
theorem dX1_addLine_44 : decode cX1_addLine 44 = .ok (.getfield 27, 3) := by decide +kernel
theorem dX1_addLine_47 : decode cX1_addLine 47 = .ok (.iconst 1, 1) := by decide +kernel
theorem dX1_addLine_48 : decode cX1_addLine 48 = .ok (.iadd, 1) := by decide +kernel
theorem dX1_addLine_49 : decode cX1_addLine 49 = .ok (.putfield 27, 3) := by decide +kernel
theorem dX1_addLine_52 : decode cX1_addLine 52 = .ok (.return_, 1) := by decide +kernel
theorem dX1_addStep_0 : decode cX1_addStep 0 = .ok (.aload_n 0, 1) := by decide +kernel
theorem dX1_addStep_1 : decode cX1_addStep 1 = .ok (.getfield 31, 3) := by decide +kernel
theorem dX1_addStep_4 : decode cX1_addStep 4 = .ok (.sipush 600, 3) := by decide +kernel
theorem dX1_addStep_7 : decode cX1_addStep 7 = .ok (.if_icmp .ge 23, 3) := by decide +kernel
theorem dX1_addStep_10 : decode cX1_addStep 10 = .ok (.aload_n 0, 1) := by decide +kernel
theorem dX1_addStep_11 : decode cX1_addStep 11 = .ok (.getfield 21, 3) := by decide +kernel
theorem dX1_addStep_14 : decode cX1_addStep 14 = .ok (.aload_n 0, 1) := by decide +kernel
theorem dX1_addStep_15 : decode cX1_addStep 15 = .ok (.getfield 31, 3) := by decide +kernel
theorem dX1_addStep_18 : decode cX1_addStep 18 = .ok (.iload_n 1, 1) := by decide +kernel
theorem dX1_addStep_19 : decode cX1_addStep 19 = .ok (.iastore, 1) := by decide +kernel
theorem dX1_addStep_20 : decode cX1_addStep 20 = .ok (.aload_n 0, 1) := by decide +kernel
theorem dX1_addStep_21 : decode cX1_addStep 21 = .ok (.dup, 1) := by decide +kernel
theorem dX1_addStep_22 : decode cX1_addStep 22 = .ok (.getfield 31, 3) := by decide +kernel
theorem dX1_addStep_25 : decode cX1_addStep 25 = .ok (.iconst 1, 1) := by decide +kernel
theorem dX1_addStep_26 : decode cX1_addStep 26 = .ok (.iadd, 1) := by decide +kernel
theorem dX1_addStep_27 : decode cX1_addStep 27 = .ok (.putfield 31, 3) := by decide +kernel
theorem dX1_addStep_30 : decode cX1_addStep 30 = .ok (.return_, 1) := by decide +kernel
theorem dX1_litresFor_0 : decode cX1_litresFor 0 = .ok (.iconst 0, 1) := by decide +kernel
theorem dX1_litresFor_1 : decode cX1_litresFor 1 = .ok (.istore 4, 2) := by decide +kernel
theorem dX1_litresFor_3 : decode cX1_litresFor 3 = .ok (.iload 4, 2) := by decide +kernel
theorem dX1_litresFor_5 : decode cX1_litresFor 5 = .ok (.aload_n 0, 1) := by decide +kernel
theorem dX1_litresFor_6 : decode cX1_litresFor 6 = .ok (.getfield 27, 3) := by decide +kernel
theorem dX1_litresFor_9 : decode cX1_litresFor 9 = .ok (.if_icmp .ge 38, 3) := by decide +kernel
theorem dX1_litresFor_12 : decode cX1_litresFor 12 = .ok (.aload_n 0, 1) := by decide +kernel
theorem dX1_litresFor_13 : decode cX1_litresFor 13 = .ok (.getfield 9, 3) := by decide +kernel
theorem dX1_litresFor_16 : decode cX1_litresFor 16 = .ok (.iload 4, 2) := by decide +kernel
theorem dX1_litresFor_18 : decode cX1_litresFor 18 = .ok (.iaload, 1) := by decide +kernel
theorem dX1_litresFor_19 : decode cX1_litresFor 19 = .ok (.iload_n 1, 1) := by decide +kernel
theorem dX1_litresFor_20 : decode cX1_litresFor 20 = .ok (.if_icmp .ne 21, 3) := by decide +kernel
theorem dX1_litresFor_23 : decode cX1_litresFor 23 = .ok (.aload_n 0, 1) := by decide +kernel
theorem dX1_litresFor_24 : decode cX1_litresFor 24 = .ok (.iload 4, 2) := by decide +kernel
theorem dX1_litresFor_26 : decode cX1_litresFor 26 = .ok (.aload_n 2, 1) := by decide +kernel
theorem dX1_litresFor_27 : decode cX1_litresFor 27 = .ok (.invokevirtual 34, 3) := by decide +kernel
theorem dX1_litresFor_30 : decode cX1_litresFor 30 = .ok (.ifCond .eq 11, 3) := by decide +kernel
theorem dX1_litresFor_33 : decode cX1_litresFor 33 = .ok (.aload_n 0, 1) := by decide +kernel
theorem dX1_litresFor_34 : decode cX1_litresFor 34 = .ok (.getfield 15, 3) := by decide +kernel
theorem dX1_litresFor_37 : decode cX1_litresFor 37 = .ok (.iload 4, 2) := by decide +kernel
theorem dX1_litresFor_39 : decode cX1_litresFor 39 = .ok (.iaload, 1) := by decide +kernel
theorem dX1_litresFor_40 : decode cX1_litresFor 40 = .ok (.ireturn, 1) := by decide +kernel
theorem dX1_litresFor_41 : decode cX1_litresFor 41 = .ok (.iinc 4 1, 3) := by decide +kernel
theorem dX1_litresFor_44 : decode cX1_litresFor 44 = .ok (.goto (-41), 3) := by decide +kernel
theorem dX1_litresFor_47 : decode cX1_litresFor 47 = .ok (.iload_n 3, 1) := by decide +kernel
theorem dX1_litresFor_48 : decode cX1_litresFor 48 = .ok (.ireturn, 1) := by decide +kernel
theorem dX1_valueOf_0 : decode cX1_valueOf 0 = .ok (.iload_n 1, 1) := by decide +kernel
theorem dX1_valueOf_1 : decode cX1_valueOf 1 = .ok (.iconst 1, 1) := by decide +kernel
theorem dX1_valueOf_2 : decode cX1_valueOf 2 = .ok (.iadd, 1) := by decide +kernel
theorem dX1_valueOf_3 : decode cX1_valueOf 3 = .ok (.aload_n 0, 1) := by decide +kernel
theorem dX1_valueOf_4 : decode cX1_valueOf 4 = .ok (.getfield 27, 3) := by decide +kernel
theorem dX1_valueOf_7 : decode cX1_valueOf 7 = .ok (.if_icmp .ge 14, 3) := by decide +kernel
theorem dX1_valueOf_10 : decode cX1_valueOf 10 = .ok (.aload_n 0, 1) := by decide +kernel
theorem dX1_valueOf_11 : decode cX1_valueOf 11 = .ok (.getfield 18, 3) := by decide +kernel
theorem dX1_valueOf_14 : decode cX1_valueOf 14 = .ok (.iload_n 1, 1) := by decide +kernel
theorem dX1_valueOf_15 : decode cX1_valueOf 15 = .ok (.iconst 1, 1) := by decide +kernel
theorem dX1_valueOf_16 : decode cX1_valueOf 16 = .ok (.iadd, 1) := by decide +kernel
theorem dX1_valueOf_17 : decode cX1_valueOf 17 = .ok (.iaload, 1) := by decide +kernel
theorem dX1_valueOf_18 : decode cX1_valueOf 18 = .ok (.goto 7, 3) := by decide +kernel
theorem dX1_valueOf_21 : decode cX1_valueOf 21 = .ok (.aload_n 0, 1) := by decide +kernel
theorem dX1_valueOf_22 : decode cX1_valueOf 22 = .ok (.getfield 31, 3) := by decide +kernel
theorem dX1_valueOf_25 : decode cX1_valueOf 25 = .ok (.istore_n 3, 1) := by decide +kernel
theorem dX1_valueOf_26 : decode cX1_valueOf 26 = .ok (.aload_n 0, 1) := by decide +kernel
theorem dX1_valueOf_27 : decode cX1_valueOf 27 = .ok (.iconst 0, 1) := by decide +kernel
theorem dX1_valueOf_28 : decode cX1_valueOf 28 = .ok (.putfield 38, 3) := by decide +kernel
theorem dX1_valueOf_31 : decode cX1_valueOf 31 = .ok (.aload_n 0, 1) := by decide +kernel
theorem dX1_valueOf_32 : decode cX1_valueOf 32 = .ok (.getfield 18, 3) := by decide +kernel
theorem dX1_valueOf_35 : decode cX1_valueOf 35 = .ok (.iload_n 1, 1) := by decide +kernel
theorem dX1_valueOf_36 : decode cX1_valueOf 36 = .ok (.iaload, 1) := by decide +kernel
theorem dX1_valueOf_37 : decode cX1_valueOf 37 = .ok (.istore 4, 2) := by decide +kernel
theorem dX1_valueOf_39 : decode cX1_valueOf 39 = .ok (.iload 4, 2) := by decide +kernel
theorem dX1_valueOf_41 : decode cX1_valueOf 41 = .ok (.iload_n 3, 1) := by decide +kernel
theorem dX1_valueOf_42 : decode cX1_valueOf 42 = .ok (.if_icmp .ge 81, 3) := by decide +kernel
theorem dX1_valueOf_45 : decode cX1_valueOf 45 = .ok (.aload_n 0, 1) := by decide +kernel
theorem dX1_valueOf_46 : decode cX1_valueOf 46 = .ok (.getfield 21, 3) := by decide +kernel
theorem dX1_valueOf_49 : decode cX1_valueOf 49 = .ok (.iload 4, 2) := by decide +kernel
theorem dX1_valueOf_51 : decode cX1_valueOf 51 = .ok (.iaload, 1) := by decide +kernel
theorem dX1_valueOf_52 : decode cX1_valueOf 52 = .ok (.istore 5, 2) := by decide +kernel
theorem dX1_valueOf_54 : decode cX1_valueOf 54 = .ok (.iconst (-1), 1) := by decide +kernel
theorem dX1_valueOf_55 : decode cX1_valueOf 55 = .ok (.iload 5, 2) := by decide +kernel
theorem dX1_valueOf_57 : decode cX1_valueOf 57 = .ok (.isub, 1) := by decide +kernel
theorem dX1_valueOf_58 : decode cX1_valueOf 58 = .ok (.istore 6, 2) := by decide +kernel
theorem dX1_valueOf_60 : decode cX1_valueOf 60 = .ok (.iload 5, 2) := by decide +kernel
theorem dX1_valueOf_62 : decode cX1_valueOf 62 = .ok (.ifCond .lt 12, 3) := by decide +kernel
theorem dX1_valueOf_65 : decode cX1_valueOf 65 = .ok (.aload_n 0, 1) := by decide +kernel
theorem dX1_valueOf_66 : decode cX1_valueOf 66 = .ok (.iload 5, 2) := by decide +kernel
theorem dX1_valueOf_68 : decode cX1_valueOf 68 = .ok (.invokevirtual 41, 3) := by decide +kernel
theorem dX1_valueOf_71 : decode cX1_valueOf 71 = .ok (.goto 46, 3) := by decide +kernel
theorem dX1_valueOf_74 : decode cX1_valueOf 74 = .ok (.iload 6, 2) := by decide +kernel
theorem dX1_valueOf_76 : decode cX1_valueOf 76 = .ok (.bipush 6, 2) := by decide +kernel
theorem dX1_valueOf_78 : decode cX1_valueOf 78 = .ok (.if_icmp .ge 14, 3) := by decide +kernel
theorem dX1_valueOf_81 : decode cX1_valueOf 81 = .ok (.aload_n 0, 1) := by decide +kernel
theorem dX1_valueOf_82 : decode cX1_valueOf 82 = .ok (.aload_n 2, 1) := by decide +kernel
theorem dX1_valueOf_83 : decode cX1_valueOf 83 = .ok (.iload 6, 2) := by decide +kernel
theorem dX1_valueOf_85 : decode cX1_valueOf 85 = .ok (.iaload, 1) := by decide +kernel
theorem dX1_valueOf_86 : decode cX1_valueOf 86 = .ok (.invokevirtual 41, 3) := by decide +kernel
theorem dX1_valueOf_89 : decode cX1_valueOf 89 = .ok (.goto 28, 3) := by decide +kernel
theorem dX1_valueOf_92 : decode cX1_valueOf 92 = .ok (.aload_n 0, 1) := by decide +kernel
theorem dX1_valueOf_93 : decode cX1_valueOf 93 = .ok (.invokevirtual 45, 3) := by decide +kernel
theorem dX1_valueOf_96 : decode cX1_valueOf 96 = .ok (.istore 7, 2) := by decide +kernel
theorem dX1_valueOf_98 : decode cX1_valueOf 98 = .ok (.aload_n 0, 1) := by decide +kernel
theorem dX1_valueOf_99 : decode cX1_valueOf 99 = .ok (.invokevirtual 45, 3) := by decide +kernel
theorem dX1_valueOf_102 : decode cX1_valueOf 102 = .ok (.istore 8, 2) := by decide +kernel
theorem dX1_valueOf_104 : decode cX1_valueOf 104 = .ok (.aload_n 0, 1) := by decide +kernel
theorem dX1_valueOf_105 : decode cX1_valueOf 105 = .ok (.iload 5, 2) := by decide +kernel
theorem dX1_valueOf_107 : decode cX1_valueOf 107 = .ok (.iload 8, 2) := by decide +kernel
theorem dX1_valueOf_109 : decode cX1_valueOf 109 = .ok (.iload 7, 2) := by decide +kernel
theorem dX1_valueOf_111 : decode cX1_valueOf 111 = .ok (.invokestatic 49, 3) := by decide +kernel
theorem dX1_valueOf_114 : decode cX1_valueOf 114 = .ok (.invokevirtual 41, 3) := by decide +kernel
theorem dX1_valueOf_117 : decode cX1_valueOf 117 = .ok (.iinc 4 1, 3) := by decide +kernel
theorem dX1_valueOf_120 : decode cX1_valueOf 120 = .ok (.goto (-81), 3) := by decide +kernel
theorem dX1_valueOf_123 : decode cX1_valueOf 123 = .ok (.aload_n 0, 1) := by decide +kernel
theorem dX1_valueOf_124 : decode cX1_valueOf 124 = .ok (.invokevirtual 45, 3) := by decide +kernel
theorem dX1_valueOf_127 : decode cX1_valueOf 127 = .ok (.ireturn, 1) := by decide +kernel
theorem dX1_joined_0 : decode cX1_joined 0 = .ok (.iload_n 0, 1) := by decide +kernel
theorem dX1_joined_1 : decode cX1_joined 1 = .ok (.tableswitch 61 (-10) (-7) #[50, 39, 35, 31], 31) := by decide +kernel
theorem dX1_joined_32 : decode cX1_joined 32 = .ok (.iload_n 1, 1) := by decide +kernel
theorem dX1_joined_33 : decode cX1_joined 33 = .ok (.iload_n 2, 1) := by decide +kernel
theorem dX1_joined_34 : decode cX1_joined 34 = .ok (.iadd, 1) := by decide +kernel
theorem dX1_joined_35 : decode cX1_joined 35 = .ok (.ireturn, 1) := by decide +kernel
theorem dX1_joined_36 : decode cX1_joined 36 = .ok (.iload_n 1, 1) := by decide +kernel
theorem dX1_joined_37 : decode cX1_joined 37 = .ok (.iload_n 2, 1) := by decide +kernel
theorem dX1_joined_38 : decode cX1_joined 38 = .ok (.isub, 1) := by decide +kernel
theorem dX1_joined_39 : decode cX1_joined 39 = .ok (.ireturn, 1) := by decide +kernel
theorem dX1_joined_40 : decode cX1_joined 40 = .ok (.iload_n 1, 1) := by decide +kernel
theorem dX1_joined_41 : decode cX1_joined 41 = .ok (.iload_n 2, 1) := by decide +kernel
theorem dX1_joined_42 : decode cX1_joined 42 = .ok (.if_icmp .ge 7, 3) := by decide +kernel
theorem dX1_joined_45 : decode cX1_joined 45 = .ok (.iconst 1, 1) := by decide +kernel
theorem dX1_joined_46 : decode cX1_joined 46 = .ok (.goto 4, 3) := by decide +kernel
theorem dX1_joined_49 : decode cX1_joined 49 = .ok (.iconst 0, 1) := by decide +kernel
theorem dX1_joined_50 : decode cX1_joined 50 = .ok (.ireturn, 1) := by decide +kernel
theorem dX1_joined_51 : decode cX1_joined 51 = .ok (.iload_n 1, 1) := by decide +kernel
theorem dX1_joined_52 : decode cX1_joined 52 = .ok (.iload_n 2, 1) := by decide +kernel
theorem dX1_joined_53 : decode cX1_joined 53 = .ok (.if_icmp .ne 7, 3) := by decide +kernel
theorem dX1_joined_56 : decode cX1_joined 56 = .ok (.iconst 1, 1) := by decide +kernel
theorem dX1_joined_57 : decode cX1_joined 57 = .ok (.goto 4, 3) := by decide +kernel
theorem dX1_joined_60 : decode cX1_joined 60 = .ok (.iconst 0, 1) := by decide +kernel
theorem dX1_joined_61 : decode cX1_joined 61 = .ok (.ireturn, 1) := by decide +kernel
theorem dX1_joined_62 : decode cX1_joined 62 = .ok (.iload_n 1, 1) := by decide +kernel
theorem dX1_joined_63 : decode cX1_joined 63 = .ok (.ifCond .eq 11, 3) := by decide +kernel
theorem dX1_joined_66 : decode cX1_joined 66 = .ok (.iload_n 2, 1) := by decide +kernel
theorem dX1_joined_67 : decode cX1_joined 67 = .ok (.ifCond .eq 7, 3) := by decide +kernel
theorem dX1_joined_70 : decode cX1_joined 70 = .ok (.iconst 1, 1) := by decide +kernel
theorem dX1_joined_71 : decode cX1_joined 71 = .ok (.goto 4, 3) := by decide +kernel
theorem dX1_joined_74 : decode cX1_joined 74 = .ok (.iconst 0, 1) := by decide +kernel
theorem dX1_joined_75 : decode cX1_joined 75 = .ok (.ireturn, 1) := by decide +kernel
theorem dX1_push_0 : decode cX1_push 0 = .ok (.aload_n 0, 1) := by decide +kernel
theorem dX1_push_1 : decode cX1_push 1 = .ok (.getfield 38, 3) := by decide +kernel
theorem dX1_push_4 : decode cX1_push 4 = .ok (.bipush 32, 2) := by decide +kernel
theorem dX1_push_6 : decode cX1_push 6 = .ok (.if_icmp .ge 23, 3) := by decide +kernel
theorem dX1_push_9 : decode cX1_push 9 = .ok (.aload_n 0, 1) := by decide +kernel
theorem dX1_push_10 : decode cX1_push 10 = .ok (.getfield 24, 3) := by decide +kernel
theorem dX1_push_13 : decode cX1_push 13 = .ok (.aload_n 0, 1) := by decide +kernel
theorem dX1_push_14 : decode cX1_push 14 = .ok (.getfield 38, 3) := by decide +kernel
theorem dX1_push_17 : decode cX1_push 17 = .ok (.iload_n 1, 1) := by decide +kernel
theorem dX1_push_18 : decode cX1_push 18 = .ok (.iastore, 1) := by decide +kernel
theorem dX1_push_19 : decode cX1_push 19 = .ok (.aload_n 0, 1) := by decide +kernel
theorem dX1_push_20 : decode cX1_push 20 = .ok (.dup, 1) := by decide +kernel
theorem dX1_push_21 : decode cX1_push 21 = .ok (.getfield 38, 3) := by decide +kernel
theorem dX1_push_24 : decode cX1_push 24 = .ok (.iconst 1, 1) := by decide +kernel
theorem dX1_push_25 : decode cX1_push 25 = .ok (.iadd, 1) := by decide +kernel
theorem dX1_push_26 : decode cX1_push 26 = .ok (.putfield 38, 3) := by decide +kernel
theorem dX1_push_29 : decode cX1_push 29 = .ok (.return_, 1) := by decide +kernel
theorem dX1_pop_0 : decode cX1_pop 0 = .ok (.aload_n 0, 1) := by decide +kernel
theorem dX1_pop_1 : decode cX1_pop 1 = .ok (.getfield 38, 3) := by decide +kernel
theorem dX1_pop_4 : decode cX1_pop 4 = .ok (.ifCond .gt 5, 3) := by decide +kernel
theorem dX1_pop_7 : decode cX1_pop 7 = .ok (.iconst 0, 1) := by decide +kernel
theorem dX1_pop_8 : decode cX1_pop 8 = .ok (.ireturn, 1) := by decide +kernel
theorem dX1_pop_9 : decode cX1_pop 9 = .ok (.aload_n 0, 1) := by decide +kernel
theorem dX1_pop_10 : decode cX1_pop 10 = .ok (.dup, 1) := by decide +kernel
theorem dX1_pop_11 : decode cX1_pop 11 = .ok (.getfield 38, 3) := by decide +kernel
theorem dX1_pop_14 : decode cX1_pop 14 = .ok (.iconst 1, 1) := by decide +kernel
theorem dX1_pop_15 : decode cX1_pop 15 = .ok (.isub, 1) := by decide +kernel
theorem dX1_pop_16 : decode cX1_pop 16 = .ok (.putfield 38, 3) := by decide +kernel
theorem dX1_pop_19 : decode cX1_pop 19 = .ok (.aload_n 0, 1) := by decide +kernel
theorem dX1_pop_20 : decode cX1_pop 20 = .ok (.getfield 24, 3) := by decide +kernel
theorem dX1_pop_23 : decode cX1_pop 23 = .ok (.aload_n 0, 1) := by decide +kernel
theorem dX1_pop_24 : decode cX1_pop 24 = .ok (.getfield 38, 3) := by decide +kernel
theorem dX1_pop_27 : decode cX1_pop 27 = .ok (.iaload, 1) := by decide +kernel
theorem dX1_pop_28 : decode cX1_pop 28 = .ok (.ireturn, 1) := by decide +kernel
theorem dX2_init_0 : decode cX2_init 0 = .ok (.aload_n 0, 1) := by decide +kernel
theorem dX2_init_1 : decode cX2_init 1 = .ok (.invokespecial 3, 3) := by decide +kernel
theorem dX2_init_4 : decode cX2_init 4 = .ok (.aload_n 0, 1) := by decide +kernel
theorem dX2_init_5 : decode cX2_init 5 = .ok (.iconst 4, 1) := by decide +kernel
theorem dX2_init_6 : decode cX2_init 6 = .ok (.newarray .int, 2) := by decide +kernel
theorem dX2_init_8 : decode cX2_init 8 = .ok (.putfield 9, 3) := by decide +kernel
theorem dX2_init_11 : decode cX2_init 11 = .ok (.aload_n 0, 1) := by decide +kernel
theorem dX2_init_12 : decode cX2_init 12 = .ok (.iconst 4, 1) := by decide +kernel
theorem dX2_init_13 : decode cX2_init 13 = .ok (.newarray .int, 2) := by decide +kernel
theorem dX2_init_15 : decode cX2_init 15 = .ok (.putfield 15, 3) := by decide +kernel
theorem dX2_init_18 : decode cX2_init 18 = .ok (.aload_n 0, 1) := by decide +kernel
theorem dX2_init_19 : decode cX2_init 19 = .ok (.iconst 4, 1) := by decide +kernel
theorem dX2_init_20 : decode cX2_init 20 = .ok (.newarray .int, 2) := by decide +kernel
theorem dX2_init_22 : decode cX2_init 22 = .ok (.putfield 18, 3) := by decide +kernel
theorem dX2_init_25 : decode cX2_init 25 = .ok (.aload_n 0, 1) := by decide +kernel
theorem dX2_init_26 : decode cX2_init 26 = .ok (.iconst 4, 1) := by decide +kernel
theorem dX2_init_27 : decode cX2_init 27 = .ok (.newarray .int, 2) := by decide +kernel
theorem dX2_init_29 : decode cX2_init 29 = .ok (.putfield 21, 3) := by decide +kernel
theorem dX2_init_32 : decode cX2_init 32 = .ok (.aload_n 0, 1) := by decide +kernel
theorem dX2_init_33 : decode cX2_init 33 = .ok (.bipush 6, 2) := by decide +kernel
theorem dX2_init_35 : decode cX2_init 35 = .ok (.newarray .int, 2) := by decide +kernel
theorem dX2_init_37 : decode cX2_init 37 = .ok (.putfield 24, 3) := by decide +kernel
theorem dX2_init_40 : decode cX2_init 40 = .ok (.aload_n 0, 1) := by decide +kernel
theorem dX2_init_41 : decode cX2_init 41 = .ok (.bipush 6, 2) := by decide +kernel
theorem dX2_init_43 : decode cX2_init 43 = .ok (.newarray .int, 2) := by decide +kernel
theorem dX2_init_45 : decode cX2_init 45 = .ok (.putfield 27, 3) := by decide +kernel
theorem dX2_init_48 : decode cX2_init 48 = .ok (.aload_n 0, 1) := by decide +kernel
theorem dX2_init_49 : decode cX2_init 49 = .ok (.bipush 6, 2) := by decide +kernel
theorem dX2_init_51 : decode cX2_init 51 = .ok (.newarray .int, 2) := by decide +kernel
theorem dX2_init_53 : decode cX2_init 53 = .ok (.putfield 30, 3) := by decide +kernel
theorem dX2_init_56 : decode cX2_init 56 = .ok (.aload_n 0, 1) := by decide +kernel
theorem dX2_init_57 : decode cX2_init 57 = .ok (.bipush 6, 2) := by decide +kernel
theorem dX2_init_59 : decode cX2_init 59 = .ok (.iconst 4, 1) := by decide +kernel
theorem dX2_init_60 : decode cX2_init 60 = .ok (.multianewarray 33 2, 4) := by decide +kernel
theorem dX2_init_64 : decode cX2_init 64 = .ok (.putfield 35, 3) := by decide +kernel
theorem dX2_init_67 : decode cX2_init 67 = .ok (.aload_n 0, 1) := by decide +kernel
theorem dX2_init_68 : decode cX2_init 68 = .ok (.bipush 6, 2) := by decide +kernel
theorem dX2_init_70 : decode cX2_init 70 = .ok (.newarray .int, 2) := by decide +kernel
theorem dX2_init_72 : decode cX2_init 72 = .ok (.putfield 38, 3) := by decide +kernel
theorem dX2_init_75 : decode cX2_init 75 = .ok (.aload_n 0, 1) := by decide +kernel
theorem dX2_init_76 : decode cX2_init 76 = .ok (.bipush 6, 2) := by decide +kernel
theorem dX2_init_78 : decode cX2_init 78 = .ok (.newarray .int, 2) := by decide +kernel
theorem dX2_init_80 : decode cX2_init 80 = .ok (.putfield 41, 3) := by decide +kernel
theorem dX2_init_83 : decode cX2_init 83 = .ok (.aload_n 0, 1) := by decide +kernel
theorem dX2_init_84 : decode cX2_init 84 = .ok (.bipush 7, 2) := by decide +kernel
theorem dX2_init_86 : decode cX2_init 86 = .ok (.newarray .int, 2) := by decide +kernel
theorem dX2_init_88 : decode cX2_init 88 = .ok (.putfield 44, 3) := by decide +kernel
theorem dX2_init_91 : decode cX2_init 91 = .ok (.aload_n 0, 1) := by decide +kernel
theorem dX2_init_92 : decode cX2_init 92 = .ok (.bipush 7, 2) := by decide +kernel
theorem dX2_init_94 : decode cX2_init 94 = .ok (.newarray .int, 2) := by decide +kernel
theorem dX2_init_96 : decode cX2_init 96 = .ok (.putfield 47, 3) := by decide +kernel
theorem dX2_init_99 : decode cX2_init 99 = .ok (.return_, 1) := by decide +kernel
theorem dX2_clear_0 : decode cX2_clear 0 = .ok (.aload_n 0, 1) := by decide +kernel
theorem dX2_clear_1 : decode cX2_clear 1 = .ok (.iconst 0, 1) := by decide +kernel
theorem dX2_clear_2 : decode cX2_clear 2 = .ok (.putfield 50, 3) := by decide +kernel
theorem dX2_clear_5 : decode cX2_clear 5 = .ok (.aload_n 0, 1) := by decide +kernel
theorem dX2_clear_6 : decode cX2_clear 6 = .ok (.iconst 0, 1) := by decide +kernel
theorem dX2_clear_7 : decode cX2_clear 7 = .ok (.putfield 54, 3) := by decide +kernel
theorem dX2_clear_10 : decode cX2_clear 10 = .ok (.aload_n 0, 1) := by decide +kernel
theorem dX2_clear_11 : decode cX2_clear 11 = .ok (.iconst 0, 1) := by decide +kernel
theorem dX2_clear_12 : decode cX2_clear 12 = .ok (.putfield 57, 3) := by decide +kernel
theorem dX2_clear_15 : decode cX2_clear 15 = .ok (.return_, 1) := by decide +kernel
theorem dX2_addTanker_0 : decode cX2_addTanker 0 = .ok (.aload_n 0, 1) := by decide +kernel
theorem dX2_addTanker_1 : decode cX2_addTanker 1 = .ok (.getfield 50, 3) := by decide +kernel
theorem dX2_addTanker_4 : decode cX2_addTanker 4 = .ok (.iconst 4, 1) := by decide +kernel
theorem dX2_addTanker_5 : decode cX2_addTanker 5 = .ok (.if_icmp .ge 52, 3) := by decide +kernel
theorem dX2_addTanker_8 : decode cX2_addTanker 8 = .ok (.iload_n 1, 1) := by decide +kernel
theorem dX2_addTanker_9 : decode cX2_addTanker 9 = .ok (.iconst 0, 1) := by decide +kernel
theorem dX2_addTanker_10 : decode cX2_addTanker 10 = .ok (.iconst 3, 1) := by decide +kernel
theorem dX2_addTanker_11 : decode cX2_addTanker 11 = .ok (.invokestatic 60, 3) := by decide +kernel
theorem dX2_addTanker_14 : decode cX2_addTanker 14 = .ok (.ifCond .eq 43, 3) := by decide +kernel
theorem dX2_addTanker_17 : decode cX2_addTanker 17 = .ok (.aload_n 0, 1) := by decide +kernel
theorem dX2_addTanker_18 : decode cX2_addTanker 18 = .ok (.getfield 15, 3) := by decide +kernel
theorem dX2_addTanker_21 : decode cX2_addTanker 21 = .ok (.aload_n 0, 1) := by decide +kernel
theorem dX2_addTanker_22 : decode cX2_addTanker 22 = .ok (.getfield 50, 3) := by decide +kernel
theorem dX2_addTanker_25 : decode cX2_addTanker 25 = .ok (.iload_n 1, 1) := by decide +kernel
theorem dX2_addTanker_26 : decode cX2_addTanker 26 = .ok (.iastore, 1) := by decide +kernel
theorem dX2_addTanker_27 : decode cX2_addTanker 27 = .ok (.aload_n 0, 1) := by decide +kernel
theorem dX2_addTanker_28 : decode cX2_addTanker 28 = .ok (.getfield 18, 3) := by decide +kernel
theorem dX2_addTanker_31 : decode cX2_addTanker 31 = .ok (.aload_n 0, 1) := by decide +kernel
theorem dX2_addTanker_32 : decode cX2_addTanker 32 = .ok (.getfield 50, 3) := by decide +kernel
theorem dX2_addTanker_35 : decode cX2_addTanker 35 = .ok (.iload_n 2, 1) := by decide +kernel
theorem dX2_addTanker_36 : decode cX2_addTanker 36 = .ok (.iastore, 1) := by decide +kernel
theorem dX2_addTanker_37 : decode cX2_addTanker 37 = .ok (.aload_n 0, 1) := by decide +kernel
theorem dX2_addTanker_38 : decode cX2_addTanker 38 = .ok (.getfield 21, 3) := by decide +kernel
theorem dX2_addTanker_41 : decode cX2_addTanker 41 = .ok (.aload_n 0, 1) := by decide +kernel
theorem dX2_addTanker_42 : decode cX2_addTanker 42 = .ok (.getfield 50, 3) := by decide +kernel
theorem dX2_addTanker_45 : decode cX2_addTanker 45 = .ok (.iload_n 3, 1) := by decide +kernel
theorem dX2_addTanker_46 : decode cX2_addTanker 46 = .ok (.iastore, 1) := by decide +kernel
theorem dX2_addTanker_47 : decode cX2_addTanker 47 = .ok (.aload_n 0, 1) := by decide +kernel
theorem dX2_addTanker_48 : decode cX2_addTanker 48 = .ok (.dup, 1) := by decide +kernel
theorem dX2_addTanker_49 : decode cX2_addTanker 49 = .ok (.getfield 50, 3) := by decide +kernel
theorem dX2_addTanker_52 : decode cX2_addTanker 52 = .ok (.iconst 1, 1) := by decide +kernel
theorem dX2_addTanker_53 : decode cX2_addTanker 53 = .ok (.iadd, 1) := by decide +kernel
theorem dX2_addTanker_54 : decode cX2_addTanker 54 = .ok (.putfield 50, 3) := by decide +kernel
theorem dX2_addTanker_57 : decode cX2_addTanker 57 = .ok (.return_, 1) := by decide +kernel
theorem dX2_addPlace_0 : decode cX2_addPlace 0 = .ok (.aload_n 0, 1) := by decide +kernel
theorem dX2_addPlace_1 : decode cX2_addPlace 1 = .ok (.getfield 57, 3) := by decide +kernel
theorem dX2_addPlace_4 : decode cX2_addPlace 4 = .ok (.bipush 6, 2) := by decide +kernel
theorem dX2_addPlace_6 : decode cX2_addPlace 6 = .ok (.if_icmp .ge 43, 3) := by decide +kernel
theorem dX2_addPlace_9 : decode cX2_addPlace 9 = .ok (.aload_n 0, 1) := by decide +kernel
theorem dX2_addPlace_10 : decode cX2_addPlace 10 = .ok (.getfield 24, 3) := by decide +kernel
theorem dX2_addPlace_13 : decode cX2_addPlace 13 = .ok (.aload_n 0, 1) := by decide +kernel
theorem dX2_addPlace_14 : decode cX2_addPlace 14 = .ok (.getfield 57, 3) := by decide +kernel
theorem dX2_addPlace_17 : decode cX2_addPlace 17 = .ok (.iload_n 1, 1) := by decide +kernel
theorem dX2_addPlace_18 : decode cX2_addPlace 18 = .ok (.iastore, 1) := by decide +kernel
theorem dX2_addPlace_19 : decode cX2_addPlace 19 = .ok (.aload_n 0, 1) := by decide +kernel
theorem dX2_addPlace_20 : decode cX2_addPlace 20 = .ok (.getfield 27, 3) := by decide +kernel
theorem dX2_addPlace_23 : decode cX2_addPlace 23 = .ok (.aload_n 0, 1) := by decide +kernel
theorem dX2_addPlace_24 : decode cX2_addPlace 24 = .ok (.getfield 57, 3) := by decide +kernel
theorem dX2_addPlace_27 : decode cX2_addPlace 27 = .ok (.iload_n 2, 1) := by decide +kernel
theorem dX2_addPlace_28 : decode cX2_addPlace 28 = .ok (.iastore, 1) := by decide +kernel
theorem dX2_addPlace_29 : decode cX2_addPlace 29 = .ok (.aload_n 0, 1) := by decide +kernel
theorem dX2_addPlace_30 : decode cX2_addPlace 30 = .ok (.getfield 30, 3) := by decide +kernel
theorem dX2_addPlace_33 : decode cX2_addPlace 33 = .ok (.aload_n 0, 1) := by decide +kernel
theorem dX2_addPlace_34 : decode cX2_addPlace 34 = .ok (.getfield 57, 3) := by decide +kernel
theorem dX2_addPlace_37 : decode cX2_addPlace 37 = .ok (.iload_n 3, 1) := by decide +kernel
theorem dX2_addPlace_38 : decode cX2_addPlace 38 = .ok (.iastore, 1) := by decide +kernel
theorem dX2_addPlace_39 : decode cX2_addPlace 39 = .ok (.aload_n 0, 1) := by decide +kernel
theorem dX2_addPlace_40 : decode cX2_addPlace 40 = .ok (.dup, 1) := by decide +kernel
theorem dX2_addPlace_41 : decode cX2_addPlace 41 = .ok (.getfield 57, 3) := by decide +kernel
theorem dX2_addPlace_44 : decode cX2_addPlace 44 = .ok (.iconst 1, 1) := by decide +kernel
theorem dX2_addPlace_45 : decode cX2_addPlace 45 = .ok (.iadd, 1) := by decide +kernel
theorem dX2_addPlace_46 : decode cX2_addPlace 46 = .ok (.putfield 57, 3) := by decide +kernel
theorem dX2_addPlace_49 : decode cX2_addPlace 49 = .ok (.return_, 1) := by decide +kernel
theorem dX2_setTrip_0 : decode cX2_setTrip 0 = .ok (.aload_n 0, 1) := by decide +kernel
theorem dX2_setTrip_1 : decode cX2_setTrip 1 = .ok (.getfield 57, 3) := by decide +kernel
theorem dX2_setTrip_4 : decode cX2_setTrip 4 = .ok (.ifCond .le 26, 3) := by decide +kernel
theorem dX2_setTrip_7 : decode cX2_setTrip 7 = .ok (.iload_n 1, 1) := by decide +kernel
theorem dX2_setTrip_8 : decode cX2_setTrip 8 = .ok (.iconst 0, 1) := by decide +kernel
theorem dX2_setTrip_9 : decode cX2_setTrip 9 = .ok (.iconst 3, 1) := by decide +kernel
theorem dX2_setTrip_10 : decode cX2_setTrip 10 = .ok (.invokestatic 60, 3) := by decide +kernel
theorem dX2_setTrip_13 : decode cX2_setTrip 13 = .ok (.ifCond .eq 17, 3) := by decide +kernel
theorem dX2_setTrip_16 : decode cX2_setTrip 16 = .ok (.aload_n 0, 1) := by decide +kernel
theorem dX2_setTrip_17 : decode cX2_setTrip 17 = .ok (.getfield 35, 3) := by decide +kernel
theorem dX2_setTrip_20 : decode cX2_setTrip 20 = .ok (.aload_n 0, 1) := by decide +kernel
theorem dX2_setTrip_21 : decode cX2_setTrip 21 = .ok (.getfield 57, 3) := by decide +kernel
theorem dX2_setTrip_24 : decode cX2_setTrip 24 = .ok (.iconst 1, 1) := by decide +kernel
theorem dX2_setTrip_25 : decode cX2_setTrip 25 = .ok (.isub, 1) := by decide +kernel
theorem dX2_setTrip_26 : decode cX2_setTrip 26 = .ok (.aaload, 1) := by decide +kernel
theorem dX2_setTrip_27 : decode cX2_setTrip 27 = .ok (.iload_n 1, 1) := by decide +kernel
theorem dX2_setTrip_28 : decode cX2_setTrip 28 = .ok (.iload_n 2, 1) := by decide +kernel
theorem dX2_setTrip_29 : decode cX2_setTrip 29 = .ok (.iastore, 1) := by decide +kernel
theorem dX2_setTrip_30 : decode cX2_setTrip 30 = .ok (.return_, 1) := by decide +kernel
theorem dX2_findBest_0 : decode cX2_findBest 0 = .ok (.aload_n 0, 1) := by decide +kernel
theorem dX2_findBest_1 : decode cX2_findBest 1 = .ok (.getfield 44, 3) := by decide +kernel
theorem dX2_findBest_4 : decode cX2_findBest 4 = .ok (.aload_n 0, 1) := by decide +kernel
theorem dX2_findBest_5 : decode cX2_findBest 5 = .ok (.getfield 57, 3) := by decide +kernel
theorem dX2_findBest_8 : decode cX2_findBest 8 = .ok (.iconst 0, 1) := by decide +kernel
theorem dX2_findBest_9 : decode cX2_findBest 9 = .ok (.iastore, 1) := by decide +kernel
theorem dX2_findBest_10 : decode cX2_findBest 10 = .ok (.aload_n 0, 1) := by decide +kernel
theorem dX2_findBest_11 : decode cX2_findBest 11 = .ok (.getfield 47, 3) := by decide +kernel
theorem dX2_findBest_14 : decode cX2_findBest 14 = .ok (.aload_n 0, 1) := by decide +kernel
theorem dX2_findBest_15 : decode cX2_findBest 15 = .ok (.getfield 57, 3) := by decide +kernel
theorem dX2_findBest_18 : decode cX2_findBest 18 = .ok (.iconst 0, 1) := by decide +kernel
theorem dX2_findBest_19 : decode cX2_findBest 19 = .ok (.iastore, 1) := by decide +kernel
theorem dX2_findBest_20 : decode cX2_findBest 20 = .ok (.aload_n 0, 1) := by decide +kernel
theorem dX2_findBest_21 : decode cX2_findBest 21 = .ok (.getfield 57, 3) := by decide +kernel
theorem dX2_findBest_24 : decode cX2_findBest 24 = .ok (.iconst 1, 1) := by decide +kernel
theorem dX2_findBest_25 : decode cX2_findBest 25 = .ok (.isub, 1) := by decide +kernel
theorem dX2_findBest_26 : decode cX2_findBest 26 = .ok (.istore_n 1, 1) := by decide +kernel
theorem dX2_findBest_27 : decode cX2_findBest 27 = .ok (.iload_n 1, 1) := by decide +kernel
theorem dX2_findBest_28 : decode cX2_findBest 28 = .ok (.ifCond .lt 65, 3) := by decide +kernel
theorem dX2_findBest_31 : decode cX2_findBest 31 = .ok (.aload_n 0, 1) := by decide +kernel
theorem dX2_findBest_32 : decode cX2_findBest 32 = .ok (.iload_n 1, 1) := by decide +kernel
theorem dX2_findBest_33 : decode cX2_findBest 33 = .ok (.invokevirtual 64, 3) := by decide +kernel
theorem dX2_findBest_36 : decode cX2_findBest 36 = .ok (.istore_n 2, 1) := by decide +kernel
theorem dX2_findBest_37 : decode cX2_findBest 37 = .ok (.aload_n 0, 1) := by decide +kernel
theorem dX2_findBest_38 : decode cX2_findBest 38 = .ok (.getfield 44, 3) := by decide +kernel
theorem dX2_findBest_41 : decode cX2_findBest 41 = .ok (.iload_n 1, 1) := by decide +kernel
theorem dX2_findBest_42 : decode cX2_findBest 42 = .ok (.aload_n 0, 1) := by decide +kernel
theorem dX2_findBest_43 : decode cX2_findBest 43 = .ok (.getfield 44, 3) := by decide +kernel
theorem dX2_findBest_46 : decode cX2_findBest 46 = .ok (.iload_n 1, 1) := by decide +kernel
theorem dX2_findBest_47 : decode cX2_findBest 47 = .ok (.iconst 1, 1) := by decide +kernel
theorem dX2_findBest_48 : decode cX2_findBest 48 = .ok (.iadd, 1) := by decide +kernel
theorem dX2_findBest_49 : decode cX2_findBest 49 = .ok (.iaload, 1) := by decide +kernel
theorem dX2_findBest_50 : decode cX2_findBest 50 = .ok (.iload_n 2, 1) := by decide +kernel
theorem dX2_findBest_51 : decode cX2_findBest 51 = .ok (.iconst (-1), 1) := by decide +kernel
theorem dX2_findBest_52 : decode cX2_findBest 52 = .ok (.if_icmp .ne 7, 3) := by decide +kernel
theorem dX2_findBest_55 : decode cX2_findBest 55 = .ok (.iconst 1, 1) := by decide +kernel
theorem dX2_findBest_56 : decode cX2_findBest 56 = .ok (.goto 4, 3) := by decide +kernel
theorem dX2_findBest_59 : decode cX2_findBest 59 = .ok (.iconst 0, 1) := by decide +kernel
theorem dX2_findBest_60 : decode cX2_findBest 60 = .ok (.iadd, 1) := by decide +kernel
theorem dX2_findBest_61 : decode cX2_findBest 61 = .ok (.iastore, 1) := by decide +kernel
theorem dX2_findBest_62 : decode cX2_findBest 62 = .ok (.aload_n 0, 1) := by decide +kernel
theorem dX2_findBest_63 : decode cX2_findBest 63 = .ok (.getfield 47, 3) := by decide +kernel
theorem dX2_findBest_66 : decode cX2_findBest 66 = .ok (.iload_n 1, 1) := by decide +kernel
theorem dX2_findBest_67 : decode cX2_findBest 67 = .ok (.aload_n 0, 1) := by decide +kernel
theorem dX2_findBest_68 : decode cX2_findBest 68 = .ok (.getfield 47, 3) := by decide +kernel
theorem dX2_findBest_71 : decode cX2_findBest 71 = .ok (.iload_n 1, 1) := by decide +kernel
theorem dX2_findBest_72 : decode cX2_findBest 72 = .ok (.iconst 1, 1) := by decide +kernel
theorem dX2_findBest_73 : decode cX2_findBest 73 = .ok (.iadd, 1) := by decide +kernel
theorem dX2_findBest_74 : decode cX2_findBest 74 = .ok (.iaload, 1) := by decide +kernel
theorem dX2_findBest_75 : decode cX2_findBest 75 = .ok (.iload_n 2, 1) := by decide +kernel
theorem dX2_findBest_76 : decode cX2_findBest 76 = .ok (.iconst (-1), 1) := by decide +kernel
theorem dX2_findBest_77 : decode cX2_findBest 77 = .ok (.if_icmp .ne 7, 3) := by decide +kernel
theorem dX2_findBest_80 : decode cX2_findBest 80 = .ok (.iconst 0, 1) := by decide +kernel
theorem dX2_findBest_81 : decode cX2_findBest 81 = .ok (.goto 4, 3) := by decide +kernel
theorem dX2_findBest_84 : decode cX2_findBest 84 = .ok (.iload_n 2, 1) := by decide +kernel
theorem dX2_findBest_85 : decode cX2_findBest 85 = .ok (.iadd, 1) := by decide +kernel
theorem dX2_findBest_86 : decode cX2_findBest 86 = .ok (.iastore, 1) := by decide +kernel
theorem dX2_findBest_87 : decode cX2_findBest 87 = .ok (.iinc 1 (-1), 3) := by decide +kernel
theorem dX2_findBest_90 : decode cX2_findBest 90 = .ok (.goto (-63), 3) := by decide +kernel
theorem dX2_findBest_93 : decode cX2_findBest 93 = .ok (.aload_n 0, 1) := by decide +kernel
theorem dX2_findBest_94 : decode cX2_findBest 94 = .ok (.aload_n 0, 1) := by decide +kernel
theorem dX2_findBest_95 : decode cX2_findBest 95 = .ok (.getfield 57, 3) := by decide +kernel
theorem dX2_findBest_98 : decode cX2_findBest 98 = .ok (.iconst 1, 1) := by decide +kernel
theorem dX2_findBest_99 : decode cX2_findBest 99 = .ok (.iadd, 1) := by decide +kernel
theorem dX2_findBest_100 : decode cX2_findBest 100 = .ok (.putfield 68, 3) := by decide +kernel
theorem dX2_findBest_103 : decode cX2_findBest 103 = .ok (.aload_n 0, 1) := by decide +kernel
theorem dX2_findBest_104 : decode cX2_findBest 104 = .ok (.iconst 0, 1) := by decide +kernel
theorem dX2_findBest_105 : decode cX2_findBest 105 = .ok (.putfield 71, 3) := by decide +kernel
theorem dX2_findBest_108 : decode cX2_findBest 108 = .ok (.aload_n 0, 1) := by decide +kernel
theorem dX2_findBest_109 : decode cX2_findBest 109 = .ok (.iconst 0, 1) := by decide +kernel
theorem dX2_findBest_110 : decode cX2_findBest 110 = .ok (.iconst 0, 1) := by decide +kernel
theorem dX2_findBest_111 : decode cX2_findBest 111 = .ok (.iconst 0, 1) := by decide +kernel
theorem dX2_findBest_112 : decode cX2_findBest 112 = .ok (.invokevirtual 74, 3) := by decide +kernel
theorem dX2_findBest_115 : decode cX2_findBest 115 = .ok (.return_, 1) := by decide +kernel
theorem dX2_leastTrip_0 : decode cX2_leastTrip 0 = .ok (.iconst (-1), 1) := by decide +kernel
theorem dX2_leastTrip_1 : decode cX2_leastTrip 1 = .ok (.istore_n 2, 1) := by decide +kernel
theorem dX2_leastTrip_2 : decode cX2_leastTrip 2 = .ok (.iconst 0, 1) := by decide +kernel
theorem dX2_leastTrip_3 : decode cX2_leastTrip 3 = .ok (.istore_n 3, 1) := by decide +kernel
theorem dX2_leastTrip_4 : decode cX2_leastTrip 4 = .ok (.iload_n 3, 1) := by decide +kernel
theorem dX2_leastTrip_5 : decode cX2_leastTrip 5 = .ok (.aload_n 0, 1) := by decide +kernel
theorem dX2_leastTrip_6 : decode cX2_leastTrip 6 = .ok (.getfield 50, 3) := by decide +kernel
theorem dX2_leastTrip_9 : decode cX2_leastTrip 9 = .ok (.if_icmp .ge 42, 3) := by decide +kernel
theorem dX2_leastTrip_12 : decode cX2_leastTrip 12 = .ok (.aload_n 0, 1) := by decide +kernel
theorem dX2_leastTrip_13 : decode cX2_leastTrip 13 = .ok (.getfield 35, 3) := by decide +kernel
theorem dX2_leastTrip_16 : decode cX2_leastTrip 16 = .ok (.iload_n 1, 1) := by decide +kernel
theorem dX2_leastTrip_17 : decode cX2_leastTrip 17 = .ok (.aaload, 1) := by decide +kernel
theorem dX2_leastTrip_18 : decode cX2_leastTrip 18 = .ok (.iload_n 3, 1) := by decide +kernel
theorem dX2_leastTrip_19 : decode cX2_leastTrip 19 = .ok (.iaload, 1) := by decide +kernel
theorem dX2_leastTrip_20 : decode cX2_leastTrip 20 = .ok (.istore 4, 2) := by decide +kernel
theorem dX2_leastTrip_22 : decode cX2_leastTrip 22 = .ok (.aload_n 0, 1) := by decide +kernel
theorem dX2_leastTrip_23 : decode cX2_leastTrip 23 = .ok (.iload_n 3, 1) := by decide +kernel
theorem dX2_leastTrip_24 : decode cX2_leastTrip 24 = .ok (.iload_n 1, 1) := by decide +kernel
theorem dX2_leastTrip_25 : decode cX2_leastTrip 25 = .ok (.invokevirtual 78, 3) := by decide +kernel
theorem dX2_leastTrip_28 : decode cX2_leastTrip 28 = .ok (.ifCond .eq 17, 3) := by decide +kernel
theorem dX2_leastTrip_31 : decode cX2_leastTrip 31 = .ok (.iload_n 2, 1) := by decide +kernel
theorem dX2_leastTrip_32 : decode cX2_leastTrip 32 = .ok (.iconst (-1), 1) := by decide +kernel
theorem dX2_leastTrip_33 : decode cX2_leastTrip 33 = .ok (.if_icmp .eq 9, 3) := by decide +kernel
theorem dX2_leastTrip_36 : decode cX2_leastTrip 36 = .ok (.iload 4, 2) := by decide +kernel
theorem dX2_leastTrip_38 : decode cX2_leastTrip 38 = .ok (.iload_n 2, 1) := by decide +kernel
theorem dX2_leastTrip_39 : decode cX2_leastTrip 39 = .ok (.if_icmp .ge 6, 3) := by decide +kernel
theorem dX2_leastTrip_42 : decode cX2_leastTrip 42 = .ok (.iload 4, 2) := by decide +kernel
theorem dX2_leastTrip_44 : decode cX2_leastTrip 44 = .ok (.istore_n 2, 1) := by decide +kernel
theorem dX2_leastTrip_45 : decode cX2_leastTrip 45 = .ok (.iinc 3 1, 3) := by decide +kernel
theorem dX2_leastTrip_48 : decode cX2_leastTrip 48 = .ok (.goto (-44), 3) := by decide +kernel
theorem dX2_leastTrip_51 : decode cX2_leastTrip 51 = .ok (.iload_n 2, 1) := by decide +kernel
theorem dX2_leastTrip_52 : decode cX2_leastTrip 52 = .ok (.ireturn, 1) := by decide +kernel
theorem dX2_serves_0 : decode cX2_serves 0 = .ok (.aload_n 0, 1) := by decide +kernel
theorem dX2_serves_1 : decode cX2_serves 1 = .ok (.getfield 35, 3) := by decide +kernel
theorem dX2_serves_4 : decode cX2_serves 4 = .ok (.iload_n 2, 1) := by decide +kernel
theorem dX2_serves_5 : decode cX2_serves 5 = .ok (.aaload, 1) := by decide +kernel
theorem dX2_serves_6 : decode cX2_serves 6 = .ok (.iload_n 1, 1) := by decide +kernel
theorem dX2_serves_7 : decode cX2_serves 7 = .ok (.iaload, 1) := by decide +kernel
theorem dX2_serves_8 : decode cX2_serves 8 = .ok (.aload_n 0, 1) := by decide +kernel
theorem dX2_serves_9 : decode cX2_serves 9 = .ok (.getfield 21, 3) := by decide +kernel
theorem dX2_serves_12 : decode cX2_serves 12 = .ok (.iload_n 1, 1) := by decide +kernel
theorem dX2_serves_13 : decode cX2_serves 13 = .ok (.iaload, 1) := by decide +kernel
theorem dX2_serves_14 : decode cX2_serves 14 = .ok (.if_icmp .gt 22, 3) := by decide +kernel
theorem dX2_serves_17 : decode cX2_serves 17 = .ok (.aload_n 0, 1) := by decide +kernel
theorem dX2_serves_18 : decode cX2_serves 18 = .ok (.iload_n 1, 1) := by decide +kernel
theorem dX2_serves_19 : decode cX2_serves 19 = .ok (.iload_n 2, 1) := by decide +kernel
theorem dX2_serves_20 : decode cX2_serves 20 = .ok (.invokevirtual 82, 3) := by decide +kernel
theorem dX2_serves_23 : decode cX2_serves 23 = .ok (.aload_n 0, 1) := by decide +kernel
theorem dX2_serves_24 : decode cX2_serves 24 = .ok (.getfield 27, 3) := by decide +kernel
theorem dX2_serves_27 : decode cX2_serves 27 = .ok (.iload_n 2, 1) := by decide +kernel
theorem dX2_serves_28 : decode cX2_serves 28 = .ok (.iaload, 1) := by decide +kernel
theorem dX2_serves_29 : decode cX2_serves 29 = .ok (.if_icmp .lt 7, 3) := by decide +kernel
theorem dX2_serves_32 : decode cX2_serves 32 = .ok (.iconst 1, 1) := by decide +kernel
theorem dX2_serves_33 : decode cX2_serves 33 = .ok (.goto 4, 3) := by decide +kernel
theorem dX2_serves_36 : decode cX2_serves 36 = .ok (.iconst 0, 1) := by decide +kernel
theorem dX2_serves_37 : decode cX2_serves 37 = .ok (.ireturn, 1) := by decide +kernel
theorem dX2_load_0 : decode cX2_load 0 = .ok (.aload_n 0, 1) := by decide +kernel
theorem dX2_load_1 : decode cX2_load 1 = .ok (.getfield 18, 3) := by decide +kernel
theorem dX2_load_4 : decode cX2_load 4 = .ok (.iload_n 1, 1) := by decide +kernel
theorem dX2_load_5 : decode cX2_load 5 = .ok (.iaload, 1) := by decide +kernel
theorem dX2_load_6 : decode cX2_load 6 = .ok (.aload_n 0, 1) := by decide +kernel
theorem dX2_load_7 : decode cX2_load 7 = .ok (.getfield 9, 3) := by decide +kernel
theorem dX2_load_10 : decode cX2_load 10 = .ok (.aload_n 0, 1) := by decide +kernel
theorem dX2_load_11 : decode cX2_load 11 = .ok (.getfield 15, 3) := by decide +kernel
theorem dX2_load_14 : decode cX2_load 14 = .ok (.iload_n 1, 1) := by decide +kernel
theorem dX2_load_15 : decode cX2_load 15 = .ok (.iaload, 1) := by decide +kernel
theorem dX2_load_16 : decode cX2_load 16 = .ok (.iaload, 1) := by decide +kernel
theorem dX2_load_17 : decode cX2_load 17 = .ok (.invokestatic 86, 3) := by decide +kernel
theorem dX2_load_20 : decode cX2_load 20 = .ok (.aload_n 0, 1) := by decide +kernel
theorem dX2_load_21 : decode cX2_load 21 = .ok (.getfield 30, 3) := by decide +kernel
theorem dX2_load_24 : decode cX2_load 24 = .ok (.iload_n 2, 1) := by decide +kernel
theorem dX2_load_25 : decode cX2_load 25 = .ok (.iaload, 1) := by decide +kernel
theorem dX2_load_26 : decode cX2_load 26 = .ok (.invokestatic 86, 3) := by decide +kernel
theorem dX2_load_29 : decode cX2_load 29 = .ok (.ireturn, 1) := by decide +kernel
theorem dX2_search_0 : decode cX2_search 0 = .ok (.iload_n 2, 1) := by decide +kernel
theorem dX2_search_1 : decode cX2_search 1 = .ok (.aload_n 0, 1) := by decide +kernel
theorem dX2_search_2 : decode cX2_search 2 = .ok (.getfield 44, 3) := by decide +kernel
theorem dX2_search_5 : decode cX2_search 5 = .ok (.iload_n 1, 1) := by decide +kernel
theorem dX2_search_6 : decode cX2_search 6 = .ok (.iaload, 1) := by decide +kernel
theorem dX2_search_7 : decode cX2_search 7 = .ok (.iadd, 1) := by decide +kernel
theorem dX2_search_8 : decode cX2_search 8 = .ok (.istore 4, 2) := by decide +kernel
theorem dX2_search_10 : decode cX2_search 10 = .ok (.iload 4, 2) := by decide +kernel
theorem dX2_search_12 : decode cX2_search 12 = .ok (.aload_n 0, 1) := by decide +kernel
theorem dX2_search_13 : decode cX2_search 13 = .ok (.getfield 68, 3) := by decide +kernel
theorem dX2_search_16 : decode cX2_search 16 = .ok (.if_icmp .gt 27, 3) := by decide +kernel
theorem dX2_search_19 : decode cX2_search 19 = .ok (.iload 4, 2) := by decide +kernel
theorem dX2_search_21 : decode cX2_search 21 = .ok (.aload_n 0, 1) := by decide +kernel
theorem dX2_search_22 : decode cX2_search 22 = .ok (.getfield 68, 3) := by decide +kernel
theorem dX2_search_25 : decode cX2_search 25 = .ok (.if_icmp .ne 19, 3) := by decide +kernel
theorem dX2_search_28 : decode cX2_search 28 = .ok (.iload_n 3, 1) := by decide +kernel
theorem dX2_search_29 : decode cX2_search 29 = .ok (.aload_n 0, 1) := by decide +kernel
theorem dX2_search_30 : decode cX2_search 30 = .ok (.getfield 47, 3) := by decide +kernel
theorem dX2_search_33 : decode cX2_search 33 = .ok (.iload_n 1, 1) := by decide +kernel
theorem dX2_search_34 : decode cX2_search 34 = .ok (.iaload, 1) := by decide +kernel
theorem dX2_search_35 : decode cX2_search 35 = .ok (.iadd, 1) := by decide +kernel
theorem dX2_search_36 : decode cX2_search 36 = .ok (.aload_n 0, 1) := by decide +kernel
theorem dX2_search_37 : decode cX2_search 37 = .ok (.getfield 71, 3) := by decide +kernel
theorem dX2_search_40 : decode cX2_search 40 = .ok (.if_icmp .lt 4, 3) := by decide +kernel
theorem dX2_search_43 : decode cX2_search 43 = .ok (.return_, 1) := by decide +kernel
theorem dX2_search_44 : decode cX2_search 44 = .ok (.iload_n 1, 1) := by decide +kernel
theorem dX2_search_45 : decode cX2_search 45 = .ok (.aload_n 0, 1) := by decide +kernel
theorem dX2_search_46 : decode cX2_search 46 = .ok (.getfield 57, 3) := by decide +kernel
theorem dX2_search_49 : decode cX2_search 49 = .ok (.if_icmp .lt 10, 3) := by decide +kernel
theorem dX2_search_52 : decode cX2_search 52 = .ok (.aload_n 0, 1) := by decide +kernel
theorem dX2_search_53 : decode cX2_search 53 = .ok (.iload_n 2, 1) := by decide +kernel
theorem dX2_search_54 : decode cX2_search 54 = .ok (.iload_n 3, 1) := by decide +kernel
theorem dX2_search_55 : decode cX2_search 55 = .ok (.invokevirtual 91, 3) := by decide +kernel
theorem dX2_search_58 : decode cX2_search 58 = .ok (.return_, 1) := by decide +kernel
theorem dX2_search_59 : decode cX2_search 59 = .ok (.iconst 0, 1) := by decide +kernel
theorem dX2_search_60 : decode cX2_search 60 = .ok (.istore 5, 2) := by decide +kernel
theorem dX2_search_62 : decode cX2_search 62 = .ok (.iload 5, 2) := by decide +kernel
theorem dX2_search_64 : decode cX2_search 64 = .ok (.aload_n 0, 1) := by decide +kernel
theorem dX2_search_65 : decode cX2_search 65 = .ok (.getfield 50, 3) := by decide +kernel
theorem dX2_search_68 : decode cX2_search 68 = .ok (.if_icmp .ge 28, 3) := by decide +kernel
theorem dX2_search_71 : decode cX2_search 71 = .ok (.aload_n 0, 1) := by decide +kernel
theorem dX2_search_72 : decode cX2_search 72 = .ok (.iload 5, 2) := by decide +kernel
theorem dX2_search_74 : decode cX2_search 74 = .ok (.iload_n 1, 1) := by decide +kernel
theorem dX2_search_75 : decode cX2_search 75 = .ok (.invokevirtual 78, 3) := by decide +kernel
theorem dX2_search_78 : decode cX2_search 78 = .ok (.ifCond .eq 12, 3) := by decide +kernel
theorem dX2_search_81 : decode cX2_search 81 = .ok (.aload_n 0, 1) := by decide +kernel
theorem dX2_search_82 : decode cX2_search 82 = .ok (.iload 5, 2) := by decide +kernel
theorem dX2_search_84 : decode cX2_search 84 = .ok (.iload_n 1, 1) := by decide +kernel
theorem dX2_search_85 : decode cX2_search 85 = .ok (.iload_n 2, 1) := by decide +kernel
theorem dX2_search_86 : decode cX2_search 86 = .ok (.iload_n 3, 1) := by decide +kernel
theorem dX2_search_87 : decode cX2_search 87 = .ok (.invokevirtual 95, 3) := by decide +kernel
theorem dX2_search_90 : decode cX2_search 90 = .ok (.iinc 5 1, 3) := by decide +kernel
theorem dX2_search_93 : decode cX2_search 93 = .ok (.goto (-31), 3) := by decide +kernel
theorem dX2_search_96 : decode cX2_search 96 = .ok (.aload_n 0, 1) := by decide +kernel
theorem dX2_search_97 : decode cX2_search 97 = .ok (.getfield 38, 3) := by decide +kernel
theorem dX2_search_100 : decode cX2_search 100 = .ok (.iload_n 1, 1) := by decide +kernel
theorem dX2_search_101 : decode cX2_search 101 = .ok (.iconst (-1), 1) := by decide +kernel
theorem dX2_search_102 : decode cX2_search 102 = .ok (.iastore, 1) := by decide +kernel
theorem dX2_search_103 : decode cX2_search 103 = .ok (.aload_n 0, 1) := by decide +kernel
theorem dX2_search_104 : decode cX2_search 104 = .ok (.iload_n 1, 1) := by decide +kernel
theorem dX2_search_105 : decode cX2_search 105 = .ok (.iconst 1, 1) := by decide +kernel
theorem dX2_search_106 : decode cX2_search 106 = .ok (.iadd, 1) := by decide +kernel
theorem dX2_search_107 : decode cX2_search 107 = .ok (.iload_n 2, 1) := by decide +kernel
theorem dX2_search_108 : decode cX2_search 108 = .ok (.iconst 1, 1) := by decide +kernel
theorem dX2_search_109 : decode cX2_search 109 = .ok (.iadd, 1) := by decide +kernel
theorem dX2_search_110 : decode cX2_search 110 = .ok (.iload_n 3, 1) := by decide +kernel
theorem dX2_search_111 : decode cX2_search 111 = .ok (.invokevirtual 74, 3) := by decide +kernel
theorem dX2_search_114 : decode cX2_search 114 = .ok (.return_, 1) := by decide +kernel
theorem dX2_tryTrip_0 : decode cX2_tryTrip 0 = .ok (.aload_n 0, 1) := by decide +kernel
theorem dX2_tryTrip_1 : decode cX2_tryTrip 1 = .ok (.getfield 35, 3) := by decide +kernel
theorem dX2_tryTrip_4 : decode cX2_tryTrip 4 = .ok (.iload_n 2, 1) := by decide +kernel
theorem dX2_tryTrip_5 : decode cX2_tryTrip 5 = .ok (.aaload, 1) := by decide +kernel
theorem dX2_tryTrip_6 : decode cX2_tryTrip 6 = .ok (.iload_n 1, 1) := by decide +kernel
theorem dX2_tryTrip_7 : decode cX2_tryTrip 7 = .ok (.iaload, 1) := by decide +kernel
theorem dX2_tryTrip_8 : decode cX2_tryTrip 8 = .ok (.istore 5, 2) := by decide +kernel
theorem dX2_tryTrip_10 : decode cX2_tryTrip 10 = .ok (.aload_n 0, 1) := by decide +kernel
theorem dX2_tryTrip_11 : decode cX2_tryTrip 11 = .ok (.iload_n 1, 1) := by decide +kernel
theorem dX2_tryTrip_12 : decode cX2_tryTrip 12 = .ok (.iload_n 2, 1) := by decide +kernel
theorem dX2_tryTrip_13 : decode cX2_tryTrip 13 = .ok (.invokevirtual 82, 3) := by decide +kernel
theorem dX2_tryTrip_16 : decode cX2_tryTrip 16 = .ok (.istore 6, 2) := by decide +kernel
theorem dX2_tryTrip_18 : decode cX2_tryTrip 18 = .ok (.aload_n 0, 1) := by decide +kernel
theorem dX2_tryTrip_19 : decode cX2_tryTrip 19 = .ok (.getfield 38, 3) := by decide +kernel
theorem dX2_tryTrip_22 : decode cX2_tryTrip 22 = .ok (.iload_n 2, 1) := by decide +kernel
theorem dX2_tryTrip_23 : decode cX2_tryTrip 23 = .ok (.iload_n 1, 1) := by decide +kernel
theorem dX2_tryTrip_24 : decode cX2_tryTrip 24 = .ok (.iastore, 1) := by decide +kernel
theorem dX2_tryTrip_25 : decode cX2_tryTrip 25 = .ok (.aload_n 0, 1) := by decide +kernel
theorem dX2_tryTrip_26 : decode cX2_tryTrip 26 = .ok (.getfield 21, 3) := by decide +kernel
theorem dX2_tryTrip_29 : decode cX2_tryTrip 29 = .ok (.iload_n 1, 1) := by decide +kernel
theorem dX2_tryTrip_30 : decode cX2_tryTrip 30 = .ok (.dup2, 1) := by decide +kernel
theorem dX2_tryTrip_31 : decode cX2_tryTrip 31 = .ok (.iaload, 1) := by decide +kernel
theorem dX2_tryTrip_32 : decode cX2_tryTrip 32 = .ok (.iload 5, 2) := by decide +kernel
theorem dX2_tryTrip_34 : decode cX2_tryTrip 34 = .ok (.isub, 1) := by decide +kernel
theorem dX2_tryTrip_35 : decode cX2_tryTrip 35 = .ok (.iastore, 1) := by decide +kernel
theorem dX2_tryTrip_36 : decode cX2_tryTrip 36 = .ok (.aload_n 0, 1) := by decide +kernel
theorem dX2_tryTrip_37 : decode cX2_tryTrip 37 = .ok (.getfield 9, 3) := by decide +kernel
theorem dX2_tryTrip_40 : decode cX2_tryTrip 40 = .ok (.aload_n 0, 1) := by decide +kernel
theorem dX2_tryTrip_41 : decode cX2_tryTrip 41 = .ok (.getfield 15, 3) := by decide +kernel
theorem dX2_tryTrip_44 : decode cX2_tryTrip 44 = .ok (.iload_n 1, 1) := by decide +kernel
theorem dX2_tryTrip_45 : decode cX2_tryTrip 45 = .ok (.iaload, 1) := by decide +kernel
theorem dX2_tryTrip_46 : decode cX2_tryTrip 46 = .ok (.dup2, 1) := by decide +kernel
theorem dX2_tryTrip_47 : decode cX2_tryTrip 47 = .ok (.iaload, 1) := by decide +kernel
theorem dX2_tryTrip_48 : decode cX2_tryTrip 48 = .ok (.iload 6, 2) := by decide +kernel
theorem dX2_tryTrip_50 : decode cX2_tryTrip 50 = .ok (.isub, 1) := by decide +kernel
theorem dX2_tryTrip_51 : decode cX2_tryTrip 51 = .ok (.iastore, 1) := by decide +kernel
theorem dX2_tryTrip_52 : decode cX2_tryTrip 52 = .ok (.aload_n 0, 1) := by decide +kernel
theorem dX2_tryTrip_53 : decode cX2_tryTrip 53 = .ok (.iload_n 2, 1) := by decide +kernel
theorem dX2_tryTrip_54 : decode cX2_tryTrip 54 = .ok (.iconst 1, 1) := by decide +kernel
theorem dX2_tryTrip_55 : decode cX2_tryTrip 55 = .ok (.iadd, 1) := by decide +kernel
theorem dX2_tryTrip_56 : decode cX2_tryTrip 56 = .ok (.iload_n 3, 1) := by decide +kernel
theorem dX2_tryTrip_57 : decode cX2_tryTrip 57 = .ok (.iload 4, 2) := by decide +kernel
theorem dX2_tryTrip_59 : decode cX2_tryTrip 59 = .ok (.iload 5, 2) := by decide +kernel
theorem dX2_tryTrip_61 : decode cX2_tryTrip 61 = .ok (.iadd, 1) := by decide +kernel
theorem dX2_tryTrip_62 : decode cX2_tryTrip 62 = .ok (.invokevirtual 74, 3) := by decide +kernel
theorem dX2_tryTrip_65 : decode cX2_tryTrip 65 = .ok (.aload_n 0, 1) := by decide +kernel
theorem dX2_tryTrip_66 : decode cX2_tryTrip 66 = .ok (.getfield 21, 3) := by decide +kernel
theorem dX2_tryTrip_69 : decode cX2_tryTrip 69 = .ok (.iload_n 1, 1) := by decide +kernel
theorem dX2_tryTrip_70 : decode cX2_tryTrip 70 = .ok (.dup2, 1) := by decide +kernel
theorem dX2_tryTrip_71 : decode cX2_tryTrip 71 = .ok (.iaload, 1) := by decide +kernel
theorem dX2_tryTrip_72 : decode cX2_tryTrip 72 = .ok (.iload 5, 2) := by decide +kernel
theorem dX2_tryTrip_74 : decode cX2_tryTrip 74 = .ok (.iadd, 1) := by decide +kernel
theorem dX2_tryTrip_75 : decode cX2_tryTrip 75 = .ok (.iastore, 1) := by decide +kernel
theorem dX2_tryTrip_76 : decode cX2_tryTrip 76 = .ok (.aload_n 0, 1) := by decide +kernel
theorem dX2_tryTrip_77 : decode cX2_tryTrip 77 = .ok (.getfield 9, 3) := by decide +kernel
theorem dX2_tryTrip_80 : decode cX2_tryTrip 80 = .ok (.aload_n 0, 1) := by decide +kernel
theorem dX2_tryTrip_81 : decode cX2_tryTrip 81 = .ok (.getfield 15, 3) := by decide +kernel
theorem dX2_tryTrip_84 : decode cX2_tryTrip 84 = .ok (.iload_n 1, 1) := by decide +kernel
theorem dX2_tryTrip_85 : decode cX2_tryTrip 85 = .ok (.iaload, 1) := by decide +kernel
theorem dX2_tryTrip_86 : decode cX2_tryTrip 86 = .ok (.dup2, 1) := by decide +kernel
theorem dX2_tryTrip_87 : decode cX2_tryTrip 87 = .ok (.iaload, 1) := by decide +kernel
theorem dX2_tryTrip_88 : decode cX2_tryTrip 88 = .ok (.iload 6, 2) := by decide +kernel
theorem dX2_tryTrip_90 : decode cX2_tryTrip 90 = .ok (.iadd, 1) := by decide +kernel
theorem dX2_tryTrip_91 : decode cX2_tryTrip 91 = .ok (.iastore, 1) := by decide +kernel
theorem dX2_tryTrip_92 : decode cX2_tryTrip 92 = .ok (.return_, 1) := by decide +kernel
theorem dX2_keep_0 : decode cX2_keep 0 = .ok (.aload_n 0, 1) := by decide +kernel
theorem dX2_keep_1 : decode cX2_keep 1 = .ok (.iload_n 1, 1) := by decide +kernel
theorem dX2_keep_2 : decode cX2_keep 2 = .ok (.putfield 68, 3) := by decide +kernel
theorem dX2_keep_5 : decode cX2_keep 5 = .ok (.aload_n 0, 1) := by decide +kernel
theorem dX2_keep_6 : decode cX2_keep 6 = .ok (.iload_n 2, 1) := by decide +kernel
theorem dX2_keep_7 : decode cX2_keep 7 = .ok (.putfield 71, 3) := by decide +kernel
theorem dX2_keep_10 : decode cX2_keep 10 = .ok (.iconst 0, 1) := by decide +kernel
theorem dX2_keep_11 : decode cX2_keep 11 = .ok (.istore_n 3, 1) := by decide +kernel
theorem dX2_keep_12 : decode cX2_keep 12 = .ok (.iload_n 3, 1) := by decide +kernel
theorem dX2_keep_13 : decode cX2_keep 13 = .ok (.aload_n 0, 1) := by decide +kernel
theorem dX2_keep_14 : decode cX2_keep 14 = .ok (.getfield 57, 3) := by decide +kernel
theorem dX2_keep_17 : decode cX2_keep 17 = .ok (.if_icmp .ge 21, 3) := by decide +kernel
theorem dX2_keep_20 : decode cX2_keep 20 = .ok (.aload_n 0, 1) := by decide +kernel
theorem dX2_keep_21 : decode cX2_keep 21 = .ok (.getfield 41, 3) := by decide +kernel
theorem dX2_keep_24 : decode cX2_keep 24 = .ok (.iload_n 3, 1) := by decide +kernel
theorem dX2_keep_25 : decode cX2_keep 25 = .ok (.aload_n 0, 1) := by decide +kernel
theorem dX2_keep_26 : decode cX2_keep 26 = .ok (.getfield 38, 3) := by decide +kernel
theorem dX2_keep_29 : decode cX2_keep 29 = .ok (.iload_n 3, 1) := by decide +kernel
theorem dX2_keep_30 : decode cX2_keep 30 = .ok (.iaload, 1) := by decide +kernel
theorem dX2_keep_31 : decode cX2_keep 31 = .ok (.iastore, 1) := by decide +kernel
theorem dX2_keep_32 : decode cX2_keep 32 = .ok (.iinc 3 1, 3) := by decide +kernel
theorem dX2_keep_35 : decode cX2_keep 35 = .ok (.goto (-23), 3) := by decide +kernel
theorem dX2_keep_38 : decode cX2_keep 38 = .ok (.return_, 1) := by decide +kernel
theorem dX3_init_0 : decode cX3_init 0 = .ok (.aload_n 0, 1) := by decide +kernel
theorem dX3_init_1 : decode cX3_init 1 = .ok (.invokespecial 3, 3) := by decide +kernel
theorem dX3_init_4 : decode cX3_init 4 = .ok (.aload_n 0, 1) := by decide +kernel
theorem dX3_init_5 : decode cX3_init 5 = .ok (.new 9, 3) := by decide +kernel
theorem dX3_init_8 : decode cX3_init 8 = .ok (.dup, 1) := by decide +kernel
theorem dX3_init_9 : decode cX3_init 9 = .ok (.invokespecial 11, 3) := by decide +kernel
theorem dX3_init_12 : decode cX3_init 12 = .ok (.putfield 12, 3) := by decide +kernel
theorem dX3_init_15 : decode cX3_init 15 = .ok (.aload_n 0, 1) := by decide +kernel
theorem dX3_init_16 : decode cX3_init 16 = .ok (.new 18, 3) := by decide +kernel
theorem dX3_init_19 : decode cX3_init 19 = .ok (.dup, 1) := by decide +kernel
theorem dX3_init_20 : decode cX3_init 20 = .ok (.invokespecial 20, 3) := by decide +kernel
theorem dX3_init_23 : decode cX3_init 23 = .ok (.putfield 21, 3) := by decide +kernel
theorem dX3_init_26 : decode cX3_init 26 = .ok (.aload_n 0, 1) := by decide +kernel
theorem dX3_init_27 : decode cX3_init 27 = .ok (.new 18, 3) := by decide +kernel
theorem dX3_init_30 : decode cX3_init 30 = .ok (.dup, 1) := by decide +kernel
theorem dX3_init_31 : decode cX3_init 31 = .ok (.invokespecial 20, 3) := by decide +kernel
theorem dX3_init_34 : decode cX3_init 34 = .ok (.putfield 25, 3) := by decide +kernel
theorem dX3_init_37 : decode cX3_init 37 = .ok (.return_, 1) := by decide +kernel
theorem dX3_readText_0 : decode cX3_readText 0 = .ok (.aload_n 0, 1) := by decide +kernel
theorem dX3_readText_1 : decode cX3_readText 1 = .ok (.getfield 12, 3) := by decide +kernel
theorem dX3_readText_4 : decode cX3_readText 4 = .ok (.invokevirtual 28, 3) := by decide +kernel
theorem dX3_readText_7 : decode cX3_readText 7 = .ok (.aload_n 0, 1) := by decide +kernel
theorem dX3_readText_8 : decode cX3_readText 8 = .ok (.getfield 25, 3) := by decide +kernel
theorem dX3_readText_11 : decode cX3_readText 11 = .ok (.invokevirtual 31, 3) := by decide +kernel
theorem dX3_readText_14 : decode cX3_readText 14 = .ok (.aload_n 0, 1) := by decide +kernel
theorem dX3_readText_15 : decode cX3_readText 15 = .ok (.iconst 0, 1) := by decide +kernel
theorem dX3_readText_16 : decode cX3_readText 16 = .ok (.putfield 34, 3) := by decide +kernel
theorem dX3_readText_19 : decode cX3_readText 19 = .ok (.aload_n 0, 1) := by decide +kernel
theorem dX3_readText_20 : decode cX3_readText 20 = .ok (.iconst 0, 1) := by decide +kernel
theorem dX3_readText_21 : decode cX3_readText 21 = .ok (.putfield 38, 3) := by decide +kernel
theorem dX3_readText_24 : decode cX3_readText 24 = .ok (.iconst 1, 1) := by decide +kernel
theorem dX3_readText_25 : decode cX3_readText 25 = .ok (.istore_n 1, 1) := by decide +kernel
theorem dX3_readText_26 : decode cX3_readText 26 = .ok (.iconst 0, 1) := by decide +kernel
theorem dX3_readText_27 : decode cX3_readText 27 = .ok (.istore_n 2, 1) := by decide +kernel
theorem dX3_readText_28 : decode cX3_readText 28 = .ok (.iload_n 2, 1) := by decide +kernel
theorem dX3_readText_29 : decode cX3_readText 29 = .ok (.bipush 16, 2) := by decide +kernel
theorem dX3_readText_31 : decode cX3_readText 31 = .ok (.if_icmp .gt 27, 3) := by decide +kernel
theorem dX3_readText_34 : decode cX3_readText 34 = .ok (.iload_n 1, 1) := by decide +kernel
theorem dX3_readText_35 : decode cX3_readText 35 = .ok (.ifCond .eq 23, 3) := by decide +kernel
theorem dX3_readText_38 : decode cX3_readText 38 = .ok (.aload_n 0, 1) := by decide +kernel
theorem dX3_readText_39 : decode cX3_readText 39 = .ok (.invokevirtual 41, 3) := by decide +kernel
theorem dX3_readText_42 : decode cX3_readText 42 = .ok (.bipush (-18), 2) := by decide +kernel
theorem dX3_readText_44 : decode cX3_readText 44 = .ok (.if_icmp .eq 14, 3) := by decide +kernel
theorem dX3_readText_47 : decode cX3_readText 47 = .ok (.aload_n 0, 1) := by decide +kernel
theorem dX3_readText_48 : decode cX3_readText 48 = .ok (.invokevirtual 45, 3) := by decide +kernel
theorem dX3_readText_51 : decode cX3_readText 51 = .ok (.istore_n 1, 1) := by decide +kernel
theorem dX3_readText_52 : decode cX3_readText 52 = .ok (.iinc 2 1, 3) := by decide +kernel
theorem dX3_readText_55 : decode cX3_readText 55 = .ok (.goto (-27), 3) := by decide +kernel
theorem dX3_readText_58 : decode cX3_readText 58 = .ok (.iload_n 1, 1) := by decide +kernel
theorem dX3_readText_59 : decode cX3_readText 59 = .ok (.ifCond .eq 21, 3) := by decide +kernel
theorem dX3_readText_62 : decode cX3_readText 62 = .ok (.aload_n 0, 1) := by decide +kernel
theorem dX3_readText_63 : decode cX3_readText 63 = .ok (.getfield 21, 3) := by decide +kernel
theorem dX3_readText_66 : decode cX3_readText 66 = .ok (.astore_n 2, 1) := by decide +kernel
theorem dX3_readText_67 : decode cX3_readText 67 = .ok (.aload_n 0, 1) := by decide +kernel
theorem dX3_readText_68 : decode cX3_readText 68 = .ok (.aload_n 0, 1) := by decide +kernel
theorem dX3_readText_69 : decode cX3_readText 69 = .ok (.getfield 25, 3) := by decide +kernel
theorem dX3_readText_72 : decode cX3_readText 72 = .ok (.putfield 21, 3) := by decide +kernel
theorem dX3_readText_75 : decode cX3_readText 75 = .ok (.aload_n 0, 1) := by decide +kernel
theorem dX3_readText_76 : decode cX3_readText 76 = .ok (.aload_n 2, 1) := by decide +kernel
theorem dX3_readText_77 : decode cX3_readText 77 = .ok (.putfield 25, 3) := by decide +kernel
theorem dX3_readText_80 : decode cX3_readText 80 = .ok (.aload_n 0, 1) := by decide +kernel
theorem dX3_readText_81 : decode cX3_readText 81 = .ok (.getfield 38, 3) := by decide +kernel
theorem dX3_readText_84 : decode cX3_readText 84 = .ok (.ireturn, 1) := by decide +kernel
theorem dX3_token_0 : decode cX3_token 0 = .ok (.aload_n 0, 1) := by decide +kernel
theorem dX3_token_1 : decode cX3_token 1 = .ok (.getfield 34, 3) := by decide +kernel
theorem dX3_token_4 : decode cX3_token 4 = .ok (.aload_n 0, 1) := by decide +kernel
theorem dX3_token_5 : decode cX3_token 5 = .ok (.getfield 12, 3) := by decide +kernel
theorem dX3_token_8 : decode cX3_token 8 = .ok (.getfield 49, 3) := by decide +kernel
theorem dX3_token_11 : decode cX3_token 11 = .ok (.if_icmp .ge 18, 3) := by decide +kernel
theorem dX3_token_14 : decode cX3_token 14 = .ok (.aload_n 0, 1) := by decide +kernel
theorem dX3_token_15 : decode cX3_token 15 = .ok (.getfield 12, 3) := by decide +kernel
theorem dX3_token_18 : decode cX3_token 18 = .ok (.getfield 52, 3) := by decide +kernel
theorem dX3_token_21 : decode cX3_token 21 = .ok (.aload_n 0, 1) := by decide +kernel
theorem dX3_token_22 : decode cX3_token 22 = .ok (.getfield 34, 3) := by decide +kernel
theorem dX3_token_25 : decode cX3_token 25 = .ok (.iaload, 1) := by decide +kernel
theorem dX3_token_26 : decode cX3_token 26 = .ok (.goto 5, 3) := by decide +kernel
theorem dX3_token_29 : decode cX3_token 29 = .ok (.bipush (-18), 2) := by decide +kernel
theorem dX3_token_31 : decode cX3_token 31 = .ok (.ireturn, 1) := by decide +kernel
theorem dX3_readLine_0 : decode cX3_readLine 0 = .ok (.aload_n 0, 1) := by decide +kernel
theorem dX3_readLine_1 : decode cX3_readLine 1 = .ok (.invokevirtual 41, 3) := by decide +kernel
theorem dX3_readLine_4 : decode cX3_readLine 4 = .ok (.istore_n 1, 1) := by decide +kernel
theorem dX3_readLine_5 : decode cX3_readLine 5 = .ok (.iload_n 1, 1) := by decide +kernel
theorem dX3_readLine_6 : decode cX3_readLine 6 = .ok (.bipush (-12), 2) := by decide +kernel
theorem dX3_readLine_8 : decode cX3_readLine 8 = .ok (.if_icmp .eq 15, 3) := by decide +kernel
theorem dX3_readLine_11 : decode cX3_readLine 11 = .ok (.iload_n 1, 1) := by decide +kernel
theorem dX3_readLine_12 : decode cX3_readLine 12 = .ok (.bipush (-13), 2) := by decide +kernel
theorem dX3_readLine_14 : decode cX3_readLine 14 = .ok (.if_icmp .eq 9, 3) := by decide +kernel
theorem dX3_readLine_17 : decode cX3_readLine 17 = .ok (.aload_n 0, 1) := by decide +kernel
theorem dX3_readLine_18 : decode cX3_readLine 18 = .ok (.iconst 1, 1) := by decide +kernel
theorem dX3_readLine_19 : decode cX3_readLine 19 = .ok (.invokevirtual 56, 3) := by decide +kernel
theorem dX3_readLine_22 : decode cX3_readLine 22 = .ok (.ireturn, 1) := by decide +kernel
theorem dX3_readLine_23 : decode cX3_readLine 23 = .ok (.aload_n 0, 1) := by decide +kernel
theorem dX3_readLine_24 : decode cX3_readLine 24 = .ok (.getfield 25, 3) := by decide +kernel
theorem dX3_readLine_27 : decode cX3_readLine 27 = .ok (.getfield 60, 3) := by decide +kernel
theorem dX3_readLine_30 : decode cX3_readLine 30 = .ok (.bipush 16, 2) := by decide +kernel
theorem dX3_readLine_32 : decode cX3_readLine 32 = .ok (.if_icmp .lt 9, 3) := by decide +kernel
theorem dX3_readLine_35 : decode cX3_readLine 35 = .ok (.aload_n 0, 1) := by decide +kernel
theorem dX3_readLine_36 : decode cX3_readLine 36 = .ok (.iconst 5, 1) := by decide +kernel
theorem dX3_readLine_37 : decode cX3_readLine 37 = .ok (.invokevirtual 56, 3) := by decide +kernel
theorem dX3_readLine_40 : decode cX3_readLine 40 = .ok (.ireturn, 1) := by decide +kernel
theorem dX3_readLine_41 : decode cX3_readLine 41 = .ok (.aload_n 0, 1) := by decide +kernel
theorem dX3_readLine_42 : decode cX3_readLine 42 = .ok (.dup, 1) := by decide +kernel
theorem dX3_readLine_43 : decode cX3_readLine 43 = .ok (.getfield 34, 3) := by decide +kernel
theorem dX3_readLine_46 : decode cX3_readLine 46 = .ok (.iconst 1, 1) := by decide +kernel
theorem dX3_readLine_47 : decode cX3_readLine 47 = .ok (.iadd, 1) := by decide +kernel
theorem dX3_readLine_48 : decode cX3_readLine 48 = .ok (.putfield 34, 3) := by decide +kernel
theorem dX3_readLine_51 : decode cX3_readLine 51 = .ok (.aload_n 0, 1) := by decide +kernel
theorem dX3_readLine_52 : decode cX3_readLine 52 = .ok (.invokevirtual 41, 3) := by decide +kernel
theorem dX3_readLine_55 : decode cX3_readLine 55 = .ok (.istore_n 2, 1) := by decide +kernel
theorem dX3_readLine_56 : decode cX3_readLine 56 = .ok (.iload_n 2, 1) := by decide +kernel
theorem dX3_readLine_57 : decode cX3_readLine 57 = .ok (.ifCond .ge 9, 3) := by decide +kernel
theorem dX3_readLine_60 : decode cX3_readLine 60 = .ok (.aload_n 0, 1) := by decide +kernel
theorem dX3_readLine_61 : decode cX3_readLine 61 = .ok (.iconst 1, 1) := by decide +kernel
theorem dX3_readLine_62 : decode cX3_readLine 62 = .ok (.invokevirtual 56, 3) := by decide +kernel
theorem dX3_readLine_65 : decode cX3_readLine 65 = .ok (.ireturn, 1) := by decide +kernel
theorem dX3_readLine_66 : decode cX3_readLine 66 = .ok (.iload_n 2, 1) := by decide +kernel
theorem dX3_readLine_67 : decode cX3_readLine 67 = .ok (.bipush 99, 2) := by decide +kernel
theorem dX3_readLine_69 : decode cX3_readLine 69 = .ok (.if_icmp .le 9, 3) := by decide +kernel
theorem dX3_readLine_72 : decode cX3_readLine 72 = .ok (.aload_n 0, 1) := by decide +kernel
theorem dX3_readLine_73 : decode cX3_readLine 73 = .ok (.iconst 4, 1) := by decide +kernel
theorem dX3_readLine_74 : decode cX3_readLine 74 = .ok (.invokevirtual 56, 3) := by decide +kernel
theorem dX3_readLine_77 : decode cX3_readLine 77 = .ok (.ireturn, 1) := by decide +kernel
theorem dX3_readLine_78 : decode cX3_readLine 78 = .ok (.aload_n 0, 1) := by decide +kernel
theorem dX3_readLine_79 : decode cX3_readLine 79 = .ok (.dup, 1) := by decide +kernel
theorem dX3_readLine_80 : decode cX3_readLine 80 = .ok (.getfield 34, 3) := by decide +kernel
theorem dX3_readLine_83 : decode cX3_readLine 83 = .ok (.iconst 1, 1) := by decide +kernel
theorem dX3_readLine_84 : decode cX3_readLine 84 = .ok (.iadd, 1) := by decide +kernel
theorem dX3_readLine_85 : decode cX3_readLine 85 = .ok (.putfield 34, 3) := by decide +kernel
theorem dX3_readLine_88 : decode cX3_readLine 88 = .ok (.aload_n 0, 1) := by decide +kernel
theorem dX3_readLine_89 : decode cX3_readLine 89 = .ok (.getfield 25, 3) := by decide +kernel
theorem dX3_readLine_92 : decode cX3_readLine 92 = .ok (.iload_n 1, 1) := by decide +kernel
theorem dX3_readLine_93 : decode cX3_readLine 93 = .ok (.iload_n 2, 1) := by decide +kernel
theorem dX3_readLine_94 : decode cX3_readLine 94 = .ok (.invokevirtual 63, 3) := by decide +kernel
theorem dX3_readLine_97 : decode cX3_readLine 97 = .ok (.aload_n 0, 1) := by decide +kernel
theorem dX3_readLine_98 : decode cX3_readLine 98 = .ok (.bipush (-14), 2) := by decide +kernel
theorem dX3_readLine_100 : decode cX3_readLine 100 = .ok (.invokevirtual 67, 3) := by decide +kernel
theorem dX3_readLine_103 : decode cX3_readLine 103 = .ok (.ifCond .eq 24, 3) := by decide +kernel
theorem dX3_readLine_106 : decode cX3_readLine 106 = .ok (.aload_n 0, 1) := by decide +kernel
theorem dX3_readLine_107 : decode cX3_readLine 107 = .ok (.iconst 1, 1) := by decide +kernel
theorem dX3_readLine_108 : decode cX3_readLine 108 = .ok (.invokevirtual 70, 3) := by decide +kernel
theorem dX3_readLine_111 : decode cX3_readLine 111 = .ok (.ifCond .eq 16, 3) := by decide +kernel
theorem dX3_readLine_114 : decode cX3_readLine 114 = .ok (.aload_n 0, 1) := by decide +kernel
theorem dX3_readLine_115 : decode cX3_readLine 115 = .ok (.bipush (-17), 2) := by decide +kernel
theorem dX3_readLine_117 : decode cX3_readLine 117 = .ok (.invokevirtual 67, 3) := by decide +kernel
theorem dX3_readLine_120 : decode cX3_readLine 120 = .ok (.ifCond .eq 7, 3) := by decide +kernel
theorem dX3_readLine_123 : decode cX3_readLine 123 = .ok (.iconst 1, 1) := by decide +kernel
theorem dX3_readLine_124 : decode cX3_readLine 124 = .ok (.goto 4, 3) := by decide +kernel
theorem dX3_readLine_127 : decode cX3_readLine 127 = .ok (.iconst 0, 1) := by decide +kernel
theorem dX3_readLine_128 : decode cX3_readLine 128 = .ok (.ireturn, 1) := by decide +kernel
theorem dX3_readTests_0 : decode cX3_readTests 0 = .ok (.aload_n 0, 1) := by decide +kernel
theorem dX3_readTests_1 : decode cX3_readTests 1 = .ok (.iload_n 1, 1) := by decide +kernel
theorem dX3_readTests_2 : decode cX3_readTests 2 = .ok (.invokevirtual 73, 3) := by decide +kernel
theorem dX3_readTests_5 : decode cX3_readTests 5 = .ok (.istore_n 2, 1) := by decide +kernel
theorem dX3_readTests_6 : decode cX3_readTests 6 = .ok (.iconst 0, 1) := by decide +kernel
theorem dX3_readTests_7 : decode cX3_readTests 7 = .ok (.istore_n 3, 1) := by decide +kernel
theorem dX3_readTests_8 : decode cX3_readTests 8 = .ok (.iload_n 3, 1) := by decide +kernel
theorem dX3_readTests_9 : decode cX3_readTests 9 = .ok (.sipush 600, 3) := by decide +kernel
end
section
theorem dX3_readTests_12 : decode cX3_readTests 12 = .ok (.if_icmp .ge 47, 3) := by decide +kernel
theorem dX3_readTests_15 : decode cX3_readTests 15 = .ok (.iload_n 2, 1) := by decide +kernel
theorem dX3_readTests_16 : decode cX3_readTests 16 = .ok (.ifCond .eq 43, 3) := by decide +kernel
theorem dX3_readTests_19 : decode cX3_readTests 19 = .ok (.aload_n 0, 1) := by decide +kernel
theorem dX3_readTests_20 : decode cX3_readTests 20 = .ok (.invokevirtual 41, 3) := by decide +kernel
theorem dX3_readTests_23 : decode cX3_readTests 23 = .ok (.bipush (-11), 2) := by decide +kernel
theorem dX3_readTests_25 : decode cX3_readTests 25 = .ok (.if_icmp .ne 34, 3) := by decide +kernel
theorem dX3_readTests_28 : decode cX3_readTests 28 = .ok (.aload_n 0, 1) := by decide +kernel
theorem dX3_readTests_29 : decode cX3_readTests 29 = .ok (.dup, 1) := by decide +kernel
theorem dX3_readTests_30 : decode cX3_readTests 30 = .ok (.getfield 34, 3) := by decide +kernel
theorem dX3_readTests_33 : decode cX3_readTests 33 = .ok (.iconst 1, 1) := by decide +kernel
theorem dX3_readTests_34 : decode cX3_readTests 34 = .ok (.iadd, 1) := by decide +kernel
theorem dX3_readTests_35 : decode cX3_readTests 35 = .ok (.putfield 34, 3) := by decide +kernel
theorem dX3_readTests_38 : decode cX3_readTests 38 = .ok (.aload_n 0, 1) := by decide +kernel
theorem dX3_readTests_39 : decode cX3_readTests 39 = .ok (.iload_n 1, 1) := by decide +kernel
theorem dX3_readTests_40 : decode cX3_readTests 40 = .ok (.invokevirtual 73, 3) := by decide +kernel
theorem dX3_readTests_43 : decode cX3_readTests 43 = .ok (.istore_n 2, 1) := by decide +kernel
theorem dX3_readTests_44 : decode cX3_readTests 44 = .ok (.aload_n 0, 1) := by decide +kernel
theorem dX3_readTests_45 : decode cX3_readTests 45 = .ok (.getfield 25, 3) := by decide +kernel
theorem dX3_readTests_48 : decode cX3_readTests 48 = .ok (.bipush (-11), 2) := by decide +kernel
theorem dX3_readTests_50 : decode cX3_readTests 50 = .ok (.invokevirtual 76, 3) := by decide +kernel
theorem dX3_readTests_53 : decode cX3_readTests 53 = .ok (.iinc 3 1, 3) := by decide +kernel
theorem dX3_readTests_56 : decode cX3_readTests 56 = .ok (.goto (-48), 3) := by decide +kernel
theorem dX3_readTests_59 : decode cX3_readTests 59 = .ok (.iload_n 2, 1) := by decide +kernel
theorem dX3_readTests_60 : decode cX3_readTests 60 = .ok (.ireturn, 1) := by decide +kernel
theorem dX3_readTest_0 : decode cX3_readTest 0 = .ok (.aload_n 0, 1) := by decide +kernel
theorem dX3_readTest_1 : decode cX3_readTest 1 = .ok (.iload_n 1, 1) := by decide +kernel
theorem dX3_readTest_2 : decode cX3_readTest 2 = .ok (.invokevirtual 80, 3) := by decide +kernel
theorem dX3_readTest_5 : decode cX3_readTest 5 = .ok (.ifCond .ne 5, 3) := by decide +kernel
theorem dX3_readTest_8 : decode cX3_readTest 8 = .ok (.iconst 0, 1) := by decide +kernel
theorem dX3_readTest_9 : decode cX3_readTest 9 = .ok (.ireturn, 1) := by decide +kernel
theorem dX3_readTest_10 : decode cX3_readTest 10 = .ok (.aload_n 0, 1) := by decide +kernel
theorem dX3_readTest_11 : decode cX3_readTest 11 = .ok (.invokevirtual 41, 3) := by decide +kernel
theorem dX3_readTest_14 : decode cX3_readTest 14 = .ok (.istore_n 2, 1) := by decide +kernel
theorem dX3_readTest_15 : decode cX3_readTest 15 = .ok (.iload_n 2, 1) := by decide +kernel
theorem dX3_readTest_16 : decode cX3_readTest 16 = .ok (.bipush (-9), 2) := by decide +kernel
theorem dX3_readTest_18 : decode cX3_readTest 18 = .ok (.if_icmp .eq 11, 3) := by decide +kernel
theorem dX3_readTest_21 : decode cX3_readTest 21 = .ok (.iload_n 2, 1) := by decide +kernel
theorem dX3_readTest_22 : decode cX3_readTest 22 = .ok (.bipush (-10), 2) := by decide +kernel
theorem dX3_readTest_24 : decode cX3_readTest 24 = .ok (.if_icmp .eq 5, 3) := by decide +kernel
theorem dX3_readTest_27 : decode cX3_readTest 27 = .ok (.iconst 1, 1) := by decide +kernel
theorem dX3_readTest_28 : decode cX3_readTest 28 = .ok (.ireturn, 1) := by decide +kernel
theorem dX3_readTest_29 : decode cX3_readTest 29 = .ok (.aload_n 0, 1) := by decide +kernel
theorem dX3_readTest_30 : decode cX3_readTest 30 = .ok (.dup, 1) := by decide +kernel
theorem dX3_readTest_31 : decode cX3_readTest 31 = .ok (.getfield 34, 3) := by decide +kernel
theorem dX3_readTest_34 : decode cX3_readTest 34 = .ok (.iconst 1, 1) := by decide +kernel
theorem dX3_readTest_35 : decode cX3_readTest 35 = .ok (.iadd, 1) := by decide +kernel
theorem dX3_readTest_36 : decode cX3_readTest 36 = .ok (.putfield 34, 3) := by decide +kernel
theorem dX3_readTest_39 : decode cX3_readTest 39 = .ok (.aload_n 0, 1) := by decide +kernel
theorem dX3_readTest_40 : decode cX3_readTest 40 = .ok (.iload_n 1, 1) := by decide +kernel
theorem dX3_readTest_41 : decode cX3_readTest 41 = .ok (.invokevirtual 80, 3) := by decide +kernel
theorem dX3_readTest_44 : decode cX3_readTest 44 = .ok (.istore_n 3, 1) := by decide +kernel
theorem dX3_readTest_45 : decode cX3_readTest 45 = .ok (.aload_n 0, 1) := by decide +kernel
theorem dX3_readTest_46 : decode cX3_readTest 46 = .ok (.getfield 25, 3) := by decide +kernel
theorem dX3_readTest_49 : decode cX3_readTest 49 = .ok (.iload_n 2, 1) := by decide +kernel
theorem dX3_readTest_50 : decode cX3_readTest 50 = .ok (.invokevirtual 76, 3) := by decide +kernel
theorem dX3_readTest_53 : decode cX3_readTest 53 = .ok (.iload_n 3, 1) := by decide +kernel
theorem dX3_readTest_54 : decode cX3_readTest 54 = .ok (.ireturn, 1) := by decide +kernel
theorem dX3_readSum_0 : decode cX3_readSum 0 = .ok (.aload_n 0, 1) := by decide +kernel
theorem dX3_readSum_1 : decode cX3_readSum 1 = .ok (.iload_n 1, 1) := by decide +kernel
theorem dX3_readSum_2 : decode cX3_readSum 2 = .ok (.invokevirtual 83, 3) := by decide +kernel
theorem dX3_readSum_5 : decode cX3_readSum 5 = .ok (.istore_n 2, 1) := by decide +kernel
theorem dX3_readSum_6 : decode cX3_readSum 6 = .ok (.iconst 0, 1) := by decide +kernel
theorem dX3_readSum_7 : decode cX3_readSum 7 = .ok (.istore_n 3, 1) := by decide +kernel
theorem dX3_readSum_8 : decode cX3_readSum 8 = .ok (.iload_n 3, 1) := by decide +kernel
theorem dX3_readSum_9 : decode cX3_readSum 9 = .ok (.sipush 600, 3) := by decide +kernel
theorem dX3_readSum_12 : decode cX3_readSum 12 = .ok (.if_icmp .ge 62, 3) := by decide +kernel
theorem dX3_readSum_15 : decode cX3_readSum 15 = .ok (.iload_n 2, 1) := by decide +kernel
theorem dX3_readSum_16 : decode cX3_readSum 16 = .ok (.ifCond .eq 58, 3) := by decide +kernel
theorem dX3_readSum_19 : decode cX3_readSum 19 = .ok (.aload_n 0, 1) := by decide +kernel
theorem dX3_readSum_20 : decode cX3_readSum 20 = .ok (.invokevirtual 41, 3) := by decide +kernel
theorem dX3_readSum_23 : decode cX3_readSum 23 = .ok (.bipush (-7), 2) := by decide +kernel
theorem dX3_readSum_25 : decode cX3_readSum 25 = .ok (.if_icmp .eq 12, 3) := by decide +kernel
theorem dX3_readSum_28 : decode cX3_readSum 28 = .ok (.aload_n 0, 1) := by decide +kernel
theorem dX3_readSum_29 : decode cX3_readSum 29 = .ok (.invokevirtual 41, 3) := by decide +kernel
theorem dX3_readSum_32 : decode cX3_readSum 32 = .ok (.bipush (-8), 2) := by decide +kernel
theorem dX3_readSum_34 : decode cX3_readSum 34 = .ok (.if_icmp .ne 40, 3) := by decide +kernel
theorem dX3_readSum_37 : decode cX3_readSum 37 = .ok (.aload_n 0, 1) := by decide +kernel
theorem dX3_readSum_38 : decode cX3_readSum 38 = .ok (.invokevirtual 41, 3) := by decide +kernel
theorem dX3_readSum_41 : decode cX3_readSum 41 = .ok (.istore 4, 2) := by decide +kernel
theorem dX3_readSum_43 : decode cX3_readSum 43 = .ok (.aload_n 0, 1) := by decide +kernel
theorem dX3_readSum_44 : decode cX3_readSum 44 = .ok (.dup, 1) := by decide +kernel
theorem dX3_readSum_45 : decode cX3_readSum 45 = .ok (.getfield 34, 3) := by decide +kernel
theorem dX3_readSum_48 : decode cX3_readSum 48 = .ok (.iconst 1, 1) := by decide +kernel
theorem dX3_readSum_49 : decode cX3_readSum 49 = .ok (.iadd, 1) := by decide +kernel
theorem dX3_readSum_50 : decode cX3_readSum 50 = .ok (.putfield 34, 3) := by decide +kernel
theorem dX3_readSum_53 : decode cX3_readSum 53 = .ok (.aload_n 0, 1) := by decide +kernel
theorem dX3_readSum_54 : decode cX3_readSum 54 = .ok (.iload_n 1, 1) := by decide +kernel
theorem dX3_readSum_55 : decode cX3_readSum 55 = .ok (.invokevirtual 83, 3) := by decide +kernel
theorem dX3_readSum_58 : decode cX3_readSum 58 = .ok (.istore_n 2, 1) := by decide +kernel
theorem dX3_readSum_59 : decode cX3_readSum 59 = .ok (.aload_n 0, 1) := by decide +kernel
theorem dX3_readSum_60 : decode cX3_readSum 60 = .ok (.getfield 25, 3) := by decide +kernel
theorem dX3_readSum_63 : decode cX3_readSum 63 = .ok (.iload 4, 2) := by decide +kernel
theorem dX3_readSum_65 : decode cX3_readSum 65 = .ok (.invokevirtual 76, 3) := by decide +kernel
theorem dX3_readSum_68 : decode cX3_readSum 68 = .ok (.iinc 3 1, 3) := by decide +kernel
theorem dX3_readSum_71 : decode cX3_readSum 71 = .ok (.goto (-63), 3) := by decide +kernel
theorem dX3_readSum_74 : decode cX3_readSum 74 = .ok (.iload_n 2, 1) := by decide +kernel
theorem dX3_readSum_75 : decode cX3_readSum 75 = .ok (.ireturn, 1) := by decide +kernel
theorem dX3_readPart_0 : decode cX3_readPart 0 = .ok (.aload_n 0, 1) := by decide +kernel
theorem dX3_readPart_1 : decode cX3_readPart 1 = .ok (.invokevirtual 41, 3) := by decide +kernel
theorem dX3_readPart_4 : decode cX3_readPart 4 = .ok (.istore_n 2, 1) := by decide +kernel
theorem dX3_readPart_5 : decode cX3_readPart 5 = .ok (.iload_n 2, 1) := by decide +kernel
theorem dX3_readPart_6 : decode cX3_readPart 6 = .ok (.bipush (-6), 2) := by decide +kernel
theorem dX3_readPart_8 : decode cX3_readPart 8 = .ok (.if_icmp .ge 15, 3) := by decide +kernel
theorem dX3_readPart_11 : decode cX3_readPart 11 = .ok (.iload_n 2, 1) := by decide +kernel
theorem dX3_readPart_12 : decode cX3_readPart 12 = .ok (.bipush (-15), 2) := by decide +kernel
theorem dX3_readPart_14 : decode cX3_readPart 14 = .ok (.if_icmp .eq 9, 3) := by decide +kernel
theorem dX3_readPart_17 : decode cX3_readPart 17 = .ok (.aload_n 0, 1) := by decide +kernel
theorem dX3_readPart_18 : decode cX3_readPart 18 = .ok (.iconst 1, 1) := by decide +kernel
theorem dX3_readPart_19 : decode cX3_readPart 19 = .ok (.invokevirtual 56, 3) := by decide +kernel
theorem dX3_readPart_22 : decode cX3_readPart 22 = .ok (.ireturn, 1) := by decide +kernel
theorem dX3_readPart_23 : decode cX3_readPart 23 = .ok (.iload_n 1, 1) := by decide +kernel
theorem dX3_readPart_24 : decode cX3_readPart 24 = .ok (.iconst 5, 1) := by decide +kernel
theorem dX3_readPart_25 : decode cX3_readPart 25 = .ok (.if_icmp .le 9, 3) := by decide +kernel
theorem dX3_readPart_28 : decode cX3_readPart 28 = .ok (.aload_n 0, 1) := by decide +kernel
theorem dX3_readPart_29 : decode cX3_readPart 29 = .ok (.iconst 5, 1) := by decide +kernel
theorem dX3_readPart_30 : decode cX3_readPart 30 = .ok (.invokevirtual 56, 3) := by decide +kernel
theorem dX3_readPart_33 : decode cX3_readPart 33 = .ok (.ireturn, 1) := by decide +kernel
theorem dX3_readPart_34 : decode cX3_readPart 34 = .ok (.aload_n 0, 1) := by decide +kernel
theorem dX3_readPart_35 : decode cX3_readPart 35 = .ok (.dup, 1) := by decide +kernel
theorem dX3_readPart_36 : decode cX3_readPart 36 = .ok (.getfield 34, 3) := by decide +kernel
theorem dX3_readPart_39 : decode cX3_readPart 39 = .ok (.iconst 1, 1) := by decide +kernel
theorem dX3_readPart_40 : decode cX3_readPart 40 = .ok (.iadd, 1) := by decide +kernel
theorem dX3_readPart_41 : decode cX3_readPart 41 = .ok (.putfield 34, 3) := by decide +kernel
theorem dX3_readPart_44 : decode cX3_readPart 44 = .ok (.iload_n 2, 1) := by decide +kernel
theorem dX3_readPart_45 : decode cX3_readPart 45 = .ok (.bipush (-15), 2) := by decide +kernel
theorem dX3_readPart_47 : decode cX3_readPart 47 = .ok (.if_icmp .ne 28, 3) := by decide +kernel
theorem dX3_readPart_50 : decode cX3_readPart 50 = .ok (.aload_n 0, 1) := by decide +kernel
theorem dX3_readPart_51 : decode cX3_readPart 51 = .ok (.iload_n 1, 1) := by decide +kernel
theorem dX3_readPart_52 : decode cX3_readPart 52 = .ok (.iconst 1, 1) := by decide +kernel
theorem dX3_readPart_53 : decode cX3_readPart 53 = .ok (.iadd, 1) := by decide +kernel
theorem dX3_readPart_54 : decode cX3_readPart 54 = .ok (.invokevirtual 70, 3) := by decide +kernel
theorem dX3_readPart_57 : decode cX3_readPart 57 = .ok (.ifCond .eq 16, 3) := by decide +kernel
theorem dX3_readPart_60 : decode cX3_readPart 60 = .ok (.aload_n 0, 1) := by decide +kernel
theorem dX3_readPart_61 : decode cX3_readPart 61 = .ok (.bipush (-16), 2) := by decide +kernel
theorem dX3_readPart_63 : decode cX3_readPart 63 = .ok (.invokevirtual 67, 3) := by decide +kernel
theorem dX3_readPart_66 : decode cX3_readPart 66 = .ok (.ifCond .eq 7, 3) := by decide +kernel
theorem dX3_readPart_69 : decode cX3_readPart 69 = .ok (.iconst 1, 1) := by decide +kernel
theorem dX3_readPart_70 : decode cX3_readPart 70 = .ok (.goto 4, 3) := by decide +kernel
theorem dX3_readPart_73 : decode cX3_readPart 73 = .ok (.iconst 0, 1) := by decide +kernel
theorem dX3_readPart_74 : decode cX3_readPart 74 = .ok (.ireturn, 1) := by decide +kernel
theorem dX3_readPart_75 : decode cX3_readPart 75 = .ok (.aload_n 0, 1) := by decide +kernel
theorem dX3_readPart_76 : decode cX3_readPart 76 = .ok (.getfield 25, 3) := by decide +kernel
theorem dX3_readPart_79 : decode cX3_readPart 79 = .ok (.iload_n 2, 1) := by decide +kernel
theorem dX3_readPart_80 : decode cX3_readPart 80 = .ok (.invokevirtual 76, 3) := by decide +kernel
theorem dX3_readPart_83 : decode cX3_readPart 83 = .ok (.iconst 1, 1) := by decide +kernel
theorem dX3_readPart_84 : decode cX3_readPart 84 = .ok (.ireturn, 1) := by decide +kernel
theorem dX3_take_0 : decode cX3_take 0 = .ok (.aload_n 0, 1) := by decide +kernel
theorem dX3_take_1 : decode cX3_take 1 = .ok (.invokevirtual 41, 3) := by decide +kernel
theorem dX3_take_4 : decode cX3_take 4 = .ok (.iload_n 1, 1) := by decide +kernel
theorem dX3_take_5 : decode cX3_take 5 = .ok (.if_icmp .eq 9, 3) := by decide +kernel
theorem dX3_take_8 : decode cX3_take 8 = .ok (.aload_n 0, 1) := by decide +kernel
theorem dX3_take_9 : decode cX3_take 9 = .ok (.iconst 1, 1) := by decide +kernel
theorem dX3_take_10 : decode cX3_take 10 = .ok (.invokevirtual 56, 3) := by decide +kernel
theorem dX3_take_13 : decode cX3_take 13 = .ok (.ireturn, 1) := by decide +kernel
theorem dX3_take_14 : decode cX3_take 14 = .ok (.aload_n 0, 1) := by decide +kernel
theorem dX3_take_15 : decode cX3_take 15 = .ok (.dup, 1) := by decide +kernel
theorem dX3_take_16 : decode cX3_take 16 = .ok (.getfield 34, 3) := by decide +kernel
theorem dX3_take_19 : decode cX3_take 19 = .ok (.iconst 1, 1) := by decide +kernel
theorem dX3_take_20 : decode cX3_take 20 = .ok (.iadd, 1) := by decide +kernel
theorem dX3_take_21 : decode cX3_take 21 = .ok (.putfield 34, 3) := by decide +kernel
theorem dX3_take_24 : decode cX3_take 24 = .ok (.iconst 1, 1) := by decide +kernel
theorem dX3_take_25 : decode cX3_take 25 = .ok (.ireturn, 1) := by decide +kernel
theorem dX3_wrong_0 : decode cX3_wrong 0 = .ok (.aload_n 0, 1) := by decide +kernel
theorem dX3_wrong_1 : decode cX3_wrong 1 = .ok (.getfield 34, 3) := by decide +kernel
theorem dX3_wrong_4 : decode cX3_wrong 4 = .ok (.aload_n 0, 1) := by decide +kernel
theorem dX3_wrong_5 : decode cX3_wrong 5 = .ok (.getfield 12, 3) := by decide +kernel
theorem dX3_wrong_8 : decode cX3_wrong 8 = .ok (.getfield 49, 3) := by decide +kernel
theorem dX3_wrong_11 : decode cX3_wrong 11 = .ok (.if_icmp .ge 18, 3) := by decide +kernel
theorem dX3_wrong_14 : decode cX3_wrong 14 = .ok (.aload_n 0, 1) := by decide +kernel
theorem dX3_wrong_15 : decode cX3_wrong 15 = .ok (.getfield 12, 3) := by decide +kernel
theorem dX3_wrong_18 : decode cX3_wrong 18 = .ok (.getfield 86, 3) := by decide +kernel
theorem dX3_wrong_21 : decode cX3_wrong 21 = .ok (.aload_n 0, 1) := by decide +kernel
theorem dX3_wrong_22 : decode cX3_wrong 22 = .ok (.getfield 34, 3) := by decide +kernel
theorem dX3_wrong_25 : decode cX3_wrong 25 = .ok (.iaload, 1) := by decide +kernel
theorem dX3_wrong_26 : decode cX3_wrong 26 = .ok (.goto 4, 3) := by decide +kernel
theorem dX3_wrong_29 : decode cX3_wrong 29 = .ok (.iconst 0, 1) := by decide +kernel
theorem dX3_wrong_30 : decode cX3_wrong 30 = .ok (.istore_n 2, 1) := by decide +kernel
theorem dX3_wrong_31 : decode cX3_wrong 31 = .ok (.aload_n 0, 1) := by decide +kernel
theorem dX3_wrong_32 : decode cX3_wrong 32 = .ok (.iload_n 1, 1) := by decide +kernel
theorem dX3_wrong_33 : decode cX3_wrong 33 = .ok (.bipush 16, 2) := by decide +kernel
theorem dX3_wrong_35 : decode cX3_wrong 35 = .ok (.iload_n 2, 1) := by decide +kernel
theorem dX3_wrong_36 : decode cX3_wrong 36 = .ok (.imul, 1) := by decide +kernel
theorem dX3_wrong_37 : decode cX3_wrong 37 = .ok (.iadd, 1) := by decide +kernel
theorem dX3_wrong_38 : decode cX3_wrong 38 = .ok (.putfield 38, 3) := by decide +kernel
theorem dX3_wrong_41 : decode cX3_wrong 41 = .ok (.iconst 0, 1) := by decide +kernel
theorem dX3_wrong_42 : decode cX3_wrong 42 = .ok (.ireturn, 1) := by decide +kernel
theorem dX4_init_0 : decode cX4_init 0 = .ok (.aload_n 0, 1) := by decide +kernel
theorem dX4_init_1 : decode cX4_init 1 = .ok (.invokespecial 3, 3) := by decide +kernel
theorem dX4_init_4 : decode cX4_init 4 = .ok (.aload_n 0, 1) := by decide +kernel
theorem dX4_init_5 : decode cX4_init 5 = .ok (.bipush 12, 2) := by decide +kernel
theorem dX4_init_7 : decode cX4_init 7 = .ok (.newarray .int, 2) := by decide +kernel
theorem dX4_init_9 : decode cX4_init 9 = .ok (.putfield 9, 3) := by decide +kernel
theorem dX4_init_12 : decode cX4_init 12 = .ok (.iconst 0, 1) := by decide +kernel
theorem dX4_init_13 : decode cX4_init 13 = .ok (.istore_n 1, 1) := by decide +kernel
theorem dX4_init_14 : decode cX4_init 14 = .ok (.iload_n 1, 1) := by decide +kernel
theorem dX4_init_15 : decode cX4_init 15 = .ok (.bipush 12, 2) := by decide +kernel
theorem dX4_init_17 : decode cX4_init 17 = .ok (.if_icmp .ge 17, 3) := by decide +kernel
theorem dX4_init_20 : decode cX4_init 20 = .ok (.aload_n 0, 1) := by decide +kernel
theorem dX4_init_21 : decode cX4_init 21 = .ok (.getfield 9, 3) := by decide +kernel
theorem dX4_init_24 : decode cX4_init 24 = .ok (.iload_n 1, 1) := by decide +kernel
theorem dX4_init_25 : decode cX4_init 25 = .ok (.bipush 10, 2) := by decide +kernel
theorem dX4_init_27 : decode cX4_init 27 = .ok (.iastore, 1) := by decide +kernel
theorem dX4_init_28 : decode cX4_init 28 = .ok (.iinc 1 1, 3) := by decide +kernel
theorem dX4_init_31 : decode cX4_init 31 = .ok (.goto (-17), 3) := by decide +kernel
theorem dX4_init_34 : decode cX4_init 34 = .ok (.return_, 1) := by decide +kernel
theorem dX4_run_0 : decode cX4_run 0 = .ok (.aload_n 0, 1) := by decide +kernel
theorem dX4_run_1 : decode cX4_run 1 = .ok (.aload_n 0, 1) := by decide +kernel
theorem dX4_run_2 : decode cX4_run 2 = .ok (.getfield 15, 3) := by decide +kernel
theorem dX4_run_5 : decode cX4_run 5 = .ok (.aload_n 0, 1) := by decide +kernel
theorem dX4_run_6 : decode cX4_run 6 = .ok (.getfield 19, 3) := by decide +kernel
theorem dX4_run_9 : decode cX4_run 9 = .ok (.iadd, 1) := by decide +kernel
theorem dX4_run_10 : decode cX4_run 10 = .ok (.aload_n 0, 1) := by decide +kernel
theorem dX4_run_11 : decode cX4_run 11 = .ok (.getfield 22, 3) := by decide +kernel
theorem dX4_run_14 : decode cX4_run 14 = .ok (.invokestatic 25, 3) := by decide +kernel
theorem dX4_run_17 : decode cX4_run 17 = .ok (.putfield 15, 3) := by decide +kernel
theorem dX4_run_20 : decode cX4_run 20 = .ok (.aload_n 0, 1) := by decide +kernel
theorem dX4_run_21 : decode cX4_run 21 = .ok (.dup, 1) := by decide +kernel
theorem dX4_run_22 : decode cX4_run 22 = .ok (.getfield 19, 3) := by decide +kernel
theorem dX4_run_25 : decode cX4_run 25 = .ok (.aload_n 0, 1) := by decide +kernel
theorem dX4_run_26 : decode cX4_run 26 = .ok (.getfield 19, 3) := by decide +kernel
theorem dX4_run_29 : decode cX4_run 29 = .ok (.aload_n 0, 1) := by decide +kernel
theorem dX4_run_30 : decode cX4_run 30 = .ok (.getfield 31, 3) := by decide +kernel
theorem dX4_run_33 : decode cX4_run 33 = .ok (.imul, 1) := by decide +kernel
theorem dX4_run_34 : decode cX4_run 34 = .ok (.bipush 99, 2) := by decide +kernel
theorem dX4_run_36 : decode cX4_run 36 = .ok (.iadd, 1) := by decide +kernel
theorem dX4_run_37 : decode cX4_run 37 = .ok (.bipush 100, 2) := by decide +kernel
theorem dX4_run_39 : decode cX4_run 39 = .ok (.idiv, 1) := by decide +kernel
theorem dX4_run_40 : decode cX4_run 40 = .ok (.isub, 1) := by decide +kernel
theorem dX4_run_41 : decode cX4_run 41 = .ok (.putfield 19, 3) := by decide +kernel
theorem dX4_run_44 : decode cX4_run 44 = .ok (.return_, 1) := by decide +kernel
theorem dX5_init_0 : decode cX5_init 0 = .ok (.aload_n 0, 1) := by decide +kernel
theorem dX5_init_1 : decode cX5_init 1 = .ok (.invokespecial 1, 3) := by decide +kernel
theorem dX5_init_4 : decode cX5_init 4 = .ok (.return_, 1) := by decide +kernel
theorem dX5_carried_0 : decode cX5_carried 0 = .ok (.aload_n 0, 1) := by decide +kernel
theorem dX5_carried_1 : decode cX5_carried 1 = .ok (.dup, 1) := by decide +kernel
theorem dX5_carried_2 : decode cX5_carried 2 = .ok (.getfield 7, 3) := by decide +kernel
theorem dX5_carried_5 : decode cX5_carried 5 = .ok (.iload_n 1, 1) := by decide +kernel
theorem dX5_carried_6 : decode cX5_carried 6 = .ok (.iadd, 1) := by decide +kernel
theorem dX5_carried_7 : decode cX5_carried 7 = .ok (.putfield 7, 3) := by decide +kernel
theorem dX5_carried_10 : decode cX5_carried 10 = .ok (.aload_n 0, 1) := by decide +kernel
theorem dX5_carried_11 : decode cX5_carried 11 = .ok (.dup, 1) := by decide +kernel
theorem dX5_carried_12 : decode cX5_carried 12 = .ok (.getfield 13, 3) := by decide +kernel
theorem dX5_carried_15 : decode cX5_carried 15 = .ok (.iload_n 2, 1) := by decide +kernel
theorem dX5_carried_16 : decode cX5_carried 16 = .ok (.iadd, 1) := by decide +kernel
theorem dX5_carried_17 : decode cX5_carried 17 = .ok (.putfield 13, 3) := by decide +kernel
theorem dX5_carried_20 : decode cX5_carried 20 = .ok (.aload_n 0, 1) := by decide +kernel
theorem dX5_carried_21 : decode cX5_carried 21 = .ok (.dup, 1) := by decide +kernel
theorem dX5_carried_22 : decode cX5_carried 22 = .ok (.getfield 16, 3) := by decide +kernel
theorem dX5_carried_25 : decode cX5_carried 25 = .ok (.iload_n 2, 1) := by decide +kernel
theorem dX5_carried_26 : decode cX5_carried 26 = .ok (.iadd, 1) := by decide +kernel
theorem dX5_carried_27 : decode cX5_carried 27 = .ok (.putfield 16, 3) := by decide +kernel
theorem dX5_carried_30 : decode cX5_carried 30 = .ok (.return_, 1) := by decide +kernel
theorem dX6_init_0 : decode cX6_init 0 = .ok (.aload_n 0, 1) := by decide +kernel
theorem dX6_init_1 : decode cX6_init 1 = .ok (.invokespecial 3, 3) := by decide +kernel
theorem dX6_init_4 : decode cX6_init 4 = .ok (.aload_n 0, 1) := by decide +kernel
theorem dX6_init_5 : decode cX6_init 5 = .ok (.sipush 600, 3) := by decide +kernel
theorem dX6_init_8 : decode cX6_init 8 = .ok (.newarray .char, 2) := by decide +kernel
theorem dX6_init_10 : decode cX6_init 10 = .ok (.putfield 9, 3) := by decide +kernel
theorem dX6_init_13 : decode cX6_init 13 = .ok (.aload_n 0, 1) := by decide +kernel
theorem dX6_init_14 : decode cX6_init 14 = .ok (.sipush 601, 3) := by decide +kernel
theorem dX6_init_17 : decode cX6_init 17 = .ok (.newarray .int, 2) := by decide +kernel
theorem dX6_init_19 : decode cX6_init 19 = .ok (.putfield 15, 3) := by decide +kernel
theorem dX6_init_22 : decode cX6_init 22 = .ok (.aload_n 0, 1) := by decide +kernel
theorem dX6_init_23 : decode cX6_init 23 = .ok (.sipush 601, 3) := by decide +kernel
theorem dX6_init_26 : decode cX6_init 26 = .ok (.newarray .int, 2) := by decide +kernel
theorem dX6_init_28 : decode cX6_init 28 = .ok (.putfield 19, 3) := by decide +kernel
theorem dX6_init_31 : decode cX6_init 31 = .ok (.return_, 1) := by decide +kernel
theorem dX6_addEight_0 : decode cX6_addEight 0 = .ok (.bipush 56, 2) := by decide +kernel
theorem dX6_addEight_2 : decode cX6_addEight 2 = .ok (.istore_n 3, 1) := by decide +kernel
theorem dX6_addEight_3 : decode cX6_addEight 3 = .ok (.iload_n 3, 1) := by decide +kernel
theorem dX6_addEight_4 : decode cX6_addEight 4 = .ok (.ifCond .lt 21, 3) := by decide +kernel
theorem dX6_addEight_7 : decode cX6_addEight 7 = .ok (.aload_n 0, 1) := by decide +kernel
theorem dX6_addEight_8 : decode cX6_addEight 8 = .ok (.lload_n 1, 1) := by decide +kernel
theorem dX6_addEight_9 : decode cX6_addEight 9 = .ok (.iload_n 3, 1) := by decide +kernel
theorem dX6_addEight_10 : decode cX6_addEight 10 = .ok (.lushr, 1) := by decide +kernel
theorem dX6_addEight_11 : decode cX6_addEight 11 = .ok (.ldc2_w 22, 3) := by decide +kernel
theorem dX6_addEight_14 : decode cX6_addEight 14 = .ok (.land, 1) := by decide +kernel
theorem dX6_addEight_15 : decode cX6_addEight 15 = .ok (.l2i, 1) := by decide +kernel
theorem dX6_addEight_16 : decode cX6_addEight 16 = .ok (.invokevirtual 24, 3) := by decide +kernel
theorem dX6_addEight_19 : decode cX6_addEight 19 = .ok (.iinc 3 (-8), 3) := by decide +kernel
theorem dX6_addEight_22 : decode cX6_addEight 22 = .ok (.goto (-19), 3) := by decide +kernel
theorem dX6_addEight_25 : decode cX6_addEight 25 = .ok (.return_, 1) := by decide +kernel
theorem dX6_addSign_0 : decode cX6_addSign 0 = .ok (.iload_n 1, 1) := by decide +kernel
theorem dX6_addSign_1 : decode cX6_addSign 1 = .ok (.bipush 10, 2) := by decide +kernel
theorem dX6_addSign_3 : decode cX6_addSign 3 = .ok (.if_icmp .eq 14, 3) := by decide +kernel
theorem dX6_addSign_6 : decode cX6_addSign 6 = .ok (.iload_n 1, 1) := by decide +kernel
theorem dX6_addSign_7 : decode cX6_addSign 7 = .ok (.bipush 32, 2) := by decide +kernel
theorem dX6_addSign_9 : decode cX6_addSign 9 = .ok (.bipush 126, 2) := by decide +kernel
theorem dX6_addSign_11 : decode cX6_addSign 11 = .ok (.invokestatic 28, 3) := by decide +kernel
theorem dX6_addSign_14 : decode cX6_addSign 14 = .ok (.ifCond .eq 34, 3) := by decide +kernel
theorem dX6_addSign_17 : decode cX6_addSign 17 = .ok (.aload_n 0, 1) := by decide +kernel
theorem dX6_addSign_18 : decode cX6_addSign 18 = .ok (.getfield 32, 3) := by decide +kernel
theorem dX6_addSign_21 : decode cX6_addSign 21 = .ok (.sipush 600, 3) := by decide +kernel
theorem dX6_addSign_24 : decode cX6_addSign 24 = .ok (.if_icmp .ge 24, 3) := by decide +kernel
theorem dX6_addSign_27 : decode cX6_addSign 27 = .ok (.aload_n 0, 1) := by decide +kernel
theorem dX6_addSign_28 : decode cX6_addSign 28 = .ok (.getfield 9, 3) := by decide +kernel
theorem dX6_addSign_31 : decode cX6_addSign 31 = .ok (.aload_n 0, 1) := by decide +kernel
theorem dX6_addSign_32 : decode cX6_addSign 32 = .ok (.getfield 32, 3) := by decide +kernel
theorem dX6_addSign_35 : decode cX6_addSign 35 = .ok (.iload_n 1, 1) := by decide +kernel
theorem dX6_addSign_36 : decode cX6_addSign 36 = .ok (.i2c, 1) := by decide +kernel
theorem dX6_addSign_37 : decode cX6_addSign 37 = .ok (.castore, 1) := by decide +kernel
theorem dX6_addSign_38 : decode cX6_addSign 38 = .ok (.aload_n 0, 1) := by decide +kernel
theorem dX6_addSign_39 : decode cX6_addSign 39 = .ok (.dup, 1) := by decide +kernel
theorem dX6_addSign_40 : decode cX6_addSign 40 = .ok (.getfield 32, 3) := by decide +kernel
theorem dX6_addSign_43 : decode cX6_addSign 43 = .ok (.iconst 1, 1) := by decide +kernel
theorem dX6_addSign_44 : decode cX6_addSign 44 = .ok (.iadd, 1) := by decide +kernel
theorem dX6_addSign_45 : decode cX6_addSign 45 = .ok (.putfield 32, 3) := by decide +kernel
theorem dX6_addSign_48 : decode cX6_addSign 48 = .ok (.return_, 1) := by decide +kernel
theorem dX6_scan_0 : decode cX6_scan 0 = .ok (.aload_n 0, 1) := by decide +kernel
theorem dX6_scan_1 : decode cX6_scan 1 = .ok (.iconst 0, 1) := by decide +kernel
theorem dX6_scan_2 : decode cX6_scan 2 = .ok (.putfield 36, 3) := by decide +kernel
theorem dX6_scan_5 : decode cX6_scan 5 = .ok (.iconst 0, 1) := by decide +kernel
theorem dX6_scan_6 : decode cX6_scan 6 = .ok (.istore_n 1, 1) := by decide +kernel
theorem dX6_scan_7 : decode cX6_scan 7 = .ok (.iload_n 1, 1) := by decide +kernel
theorem dX6_scan_8 : decode cX6_scan 8 = .ok (.aload_n 0, 1) := by decide +kernel
theorem dX6_scan_9 : decode cX6_scan 9 = .ok (.getfield 32, 3) := by decide +kernel
theorem dX6_scan_12 : decode cX6_scan 12 = .ok (.if_icmp .ge 43, 3) := by decide +kernel
theorem dX6_scan_15 : decode cX6_scan 15 = .ok (.aload_n 0, 1) := by decide +kernel
theorem dX6_scan_16 : decode cX6_scan 16 = .ok (.iload_n 1, 1) := by decide +kernel
theorem dX6_scan_17 : decode cX6_scan 17 = .ok (.invokevirtual 39, 3) := by decide +kernel
theorem dX6_scan_20 : decode cX6_scan 20 = .ok (.istore_n 2, 1) := by decide +kernel
theorem dX6_scan_21 : decode cX6_scan 21 = .ok (.aload_n 0, 1) := by decide +kernel
theorem dX6_scan_22 : decode cX6_scan 22 = .ok (.getfield 9, 3) := by decide +kernel
theorem dX6_scan_25 : decode cX6_scan 25 = .ok (.iload_n 1, 1) := by decide +kernel
theorem dX6_scan_26 : decode cX6_scan 26 = .ok (.caload, 1) := by decide +kernel
theorem dX6_scan_27 : decode cX6_scan 27 = .ok (.invokestatic 43, 3) := by decide +kernel
theorem dX6_scan_30 : decode cX6_scan 30 = .ok (.ifCond .ne 14, 3) := by decide +kernel
theorem dX6_scan_33 : decode cX6_scan 33 = .ok (.aload_n 0, 1) := by decide +kernel
theorem dX6_scan_34 : decode cX6_scan 34 = .ok (.aload_n 0, 1) := by decide +kernel
theorem dX6_scan_35 : decode cX6_scan 35 = .ok (.iload_n 1, 1) := by decide +kernel
theorem dX6_scan_36 : decode cX6_scan 36 = .ok (.iload_n 2, 1) := by decide +kernel
theorem dX6_scan_37 : decode cX6_scan 37 = .ok (.invokevirtual 47, 3) := by decide +kernel
theorem dX6_scan_40 : decode cX6_scan 40 = .ok (.iload_n 1, 1) := by decide +kernel
theorem dX6_scan_41 : decode cX6_scan 41 = .ok (.invokevirtual 51, 3) := by decide +kernel
theorem dX6_scan_44 : decode cX6_scan 44 = .ok (.iload_n 1, 1) := by decide +kernel
theorem dX6_scan_45 : decode cX6_scan 45 = .ok (.iconst 1, 1) := by decide +kernel
theorem dX6_scan_46 : decode cX6_scan 46 = .ok (.iadd, 1) := by decide +kernel
theorem dX6_scan_47 : decode cX6_scan 47 = .ok (.iload_n 2, 1) := by decide +kernel
theorem dX6_scan_48 : decode cX6_scan 48 = .ok (.invokestatic 55, 3) := by decide +kernel
theorem dX6_scan_51 : decode cX6_scan 51 = .ok (.istore_n 1, 1) := by decide +kernel
theorem dX6_scan_52 : decode cX6_scan 52 = .ok (.goto (-45), 3) := by decide +kernel
theorem dX6_scan_55 : decode cX6_scan 55 = .ok (.aload_n 0, 1) := by decide +kernel
theorem dX6_scan_56 : decode cX6_scan 56 = .ok (.bipush (-18), 2) := by decide +kernel
theorem dX6_scan_58 : decode cX6_scan 58 = .ok (.aload_n 0, 1) := by decide +kernel
theorem dX6_scan_59 : decode cX6_scan 59 = .ok (.getfield 32, 3) := by decide +kernel
theorem dX6_scan_62 : decode cX6_scan 62 = .ok (.invokevirtual 51, 3) := by decide +kernel
theorem dX6_scan_65 : decode cX6_scan 65 = .ok (.aload_n 0, 1) := by decide +kernel
theorem dX6_scan_66 : decode cX6_scan 66 = .ok (.iconst 0, 1) := by decide +kernel
theorem dX6_scan_67 : decode cX6_scan 67 = .ok (.putfield 32, 3) := by decide +kernel
theorem dX6_scan_70 : decode cX6_scan 70 = .ok (.return_, 1) := by decide +kernel
theorem dX6_addToken_0 : decode cX6_addToken 0 = .ok (.aload_n 0, 1) := by decide +kernel
theorem dX6_addToken_1 : decode cX6_addToken 1 = .ok (.getfield 36, 3) := by decide +kernel
theorem dX6_addToken_4 : decode cX6_addToken 4 = .ok (.sipush 600, 3) := by decide +kernel
theorem dX6_addToken_7 : decode cX6_addToken 7 = .ok (.if_icmp .gt 33, 3) := by decide +kernel
theorem dX6_addToken_10 : decode cX6_addToken 10 = .ok (.aload_n 0, 1) := by decide +kernel
theorem dX6_addToken_11 : decode cX6_addToken 11 = .ok (.getfield 15, 3) := by decide +kernel
theorem dX6_addToken_14 : decode cX6_addToken 14 = .ok (.aload_n 0, 1) := by decide +kernel
theorem dX6_addToken_15 : decode cX6_addToken 15 = .ok (.getfield 36, 3) := by decide +kernel
theorem dX6_addToken_18 : decode cX6_addToken 18 = .ok (.iload_n 1, 1) := by decide +kernel
theorem dX6_addToken_19 : decode cX6_addToken 19 = .ok (.iastore, 1) := by decide +kernel
theorem dX6_addToken_20 : decode cX6_addToken 20 = .ok (.aload_n 0, 1) := by decide +kernel
theorem dX6_addToken_21 : decode cX6_addToken 21 = .ok (.getfield 19, 3) := by decide +kernel
theorem dX6_addToken_24 : decode cX6_addToken 24 = .ok (.aload_n 0, 1) := by decide +kernel
theorem dX6_addToken_25 : decode cX6_addToken 25 = .ok (.getfield 36, 3) := by decide +kernel
theorem dX6_addToken_28 : decode cX6_addToken 28 = .ok (.iload_n 2, 1) := by decide +kernel
theorem dX6_addToken_29 : decode cX6_addToken 29 = .ok (.iastore, 1) := by decide +kernel
theorem dX6_addToken_30 : decode cX6_addToken 30 = .ok (.aload_n 0, 1) := by decide +kernel
theorem dX6_addToken_31 : decode cX6_addToken 31 = .ok (.dup, 1) := by decide +kernel
theorem dX6_addToken_32 : decode cX6_addToken 32 = .ok (.getfield 36, 3) := by decide +kernel
theorem dX6_addToken_35 : decode cX6_addToken 35 = .ok (.iconst 1, 1) := by decide +kernel
theorem dX6_addToken_36 : decode cX6_addToken 36 = .ok (.iadd, 1) := by decide +kernel
theorem dX6_addToken_37 : decode cX6_addToken 37 = .ok (.putfield 36, 3) := by decide +kernel
theorem dX6_addToken_40 : decode cX6_addToken 40 = .ok (.return_, 1) := by decide +kernel
theorem dX6_endOfRun_0 : decode cX6_endOfRun 0 = .ok (.aload_n 0, 1) := by decide +kernel
theorem dX6_endOfRun_1 : decode cX6_endOfRun 1 = .ok (.getfield 9, 3) := by decide +kernel
theorem dX6_endOfRun_4 : decode cX6_endOfRun 4 = .ok (.iload_n 1, 1) := by decide +kernel
theorem dX6_endOfRun_5 : decode cX6_endOfRun 5 = .ok (.caload, 1) := by decide +kernel
theorem dX6_endOfRun_6 : decode cX6_endOfRun 6 = .ok (.invokestatic 60, 3) := by decide +kernel
theorem dX6_endOfRun_9 : decode cX6_endOfRun 9 = .ok (.istore_n 2, 1) := by decide +kernel
theorem dX6_endOfRun_10 : decode cX6_endOfRun 10 = .ok (.aload_n 0, 1) := by decide +kernel
theorem dX6_endOfRun_11 : decode cX6_endOfRun 11 = .ok (.getfield 9, 3) := by decide +kernel
theorem dX6_endOfRun_14 : decode cX6_endOfRun 14 = .ok (.iload_n 1, 1) := by decide +kernel
theorem dX6_endOfRun_15 : decode cX6_endOfRun 15 = .ok (.caload, 1) := by decide +kernel
theorem dX6_endOfRun_16 : decode cX6_endOfRun 16 = .ok (.invokestatic 63, 3) := by decide +kernel
theorem dX6_endOfRun_19 : decode cX6_endOfRun 19 = .ok (.istore_n 3, 1) := by decide +kernel
theorem dX6_endOfRun_20 : decode cX6_endOfRun 20 = .ok (.iload_n 1, 1) := by decide +kernel
theorem dX6_endOfRun_21 : decode cX6_endOfRun 21 = .ok (.iconst 1, 1) := by decide +kernel
theorem dX6_endOfRun_22 : decode cX6_endOfRun 22 = .ok (.iadd, 1) := by decide +kernel
theorem dX6_endOfRun_23 : decode cX6_endOfRun 23 = .ok (.istore 4, 2) := by decide +kernel
theorem dX6_endOfRun_25 : decode cX6_endOfRun 25 = .ok (.iload 4, 2) := by decide +kernel
theorem dX6_endOfRun_27 : decode cX6_endOfRun 27 = .ok (.aload_n 0, 1) := by decide +kernel
theorem dX6_endOfRun_28 : decode cX6_endOfRun 28 = .ok (.getfield 32, 3) := by decide +kernel
theorem dX6_endOfRun_31 : decode cX6_endOfRun 31 = .ok (.if_icmp .ge 43, 3) := by decide +kernel
theorem dX6_endOfRun_34 : decode cX6_endOfRun 34 = .ok (.iload_n 2, 1) := by decide +kernel
theorem dX6_endOfRun_35 : decode cX6_endOfRun 35 = .ok (.ifCond .eq 16, 3) := by decide +kernel
theorem dX6_endOfRun_38 : decode cX6_endOfRun 38 = .ok (.aload_n 0, 1) := by decide +kernel
theorem dX6_endOfRun_39 : decode cX6_endOfRun 39 = .ok (.getfield 9, 3) := by decide +kernel
theorem dX6_endOfRun_42 : decode cX6_endOfRun 42 = .ok (.iload 4, 2) := by decide +kernel
theorem dX6_endOfRun_44 : decode cX6_endOfRun 44 = .ok (.caload, 1) := by decide +kernel
theorem dX6_endOfRun_45 : decode cX6_endOfRun 45 = .ok (.invokestatic 60, 3) := by decide +kernel
theorem dX6_endOfRun_48 : decode cX6_endOfRun 48 = .ok (.ifCond .ne 20, 3) := by decide +kernel
theorem dX6_endOfRun_51 : decode cX6_endOfRun 51 = .ok (.iload_n 3, 1) := by decide +kernel
theorem dX6_endOfRun_52 : decode cX6_endOfRun 52 = .ok (.ifCond .eq 22, 3) := by decide +kernel
theorem dX6_endOfRun_55 : decode cX6_endOfRun 55 = .ok (.aload_n 0, 1) := by decide +kernel
theorem dX6_endOfRun_56 : decode cX6_endOfRun 56 = .ok (.getfield 9, 3) := by decide +kernel
theorem dX6_endOfRun_59 : decode cX6_endOfRun 59 = .ok (.iload 4, 2) := by decide +kernel
theorem dX6_endOfRun_61 : decode cX6_endOfRun 61 = .ok (.caload, 1) := by decide +kernel
theorem dX6_endOfRun_62 : decode cX6_endOfRun 62 = .ok (.invokestatic 63, 3) := by decide +kernel
theorem dX6_endOfRun_65 : decode cX6_endOfRun 65 = .ok (.ifCond .eq 9, 3) := by decide +kernel
theorem dX6_endOfRun_68 : decode cX6_endOfRun 68 = .ok (.iinc 4 1, 3) := by decide +kernel
theorem dX6_endOfRun_71 : decode cX6_endOfRun 71 = .ok (.goto (-46), 3) := by decide +kernel
theorem dX6_endOfRun_74 : decode cX6_endOfRun 74 = .ok (.iload 4, 2) := by decide +kernel
theorem dX6_endOfRun_76 : decode cX6_endOfRun 76 = .ok (.ireturn, 1) := by decide +kernel
theorem dX6_tokenOf_0 : decode cX6_tokenOf 0 = .ok (.aload_n 0, 1) := by decide +kernel
theorem dX6_tokenOf_1 : decode cX6_tokenOf 1 = .ok (.getfield 9, 3) := by decide +kernel
theorem dX6_tokenOf_4 : decode cX6_tokenOf 4 = .ok (.iload_n 1, 1) := by decide +kernel
theorem dX6_tokenOf_5 : decode cX6_tokenOf 5 = .ok (.caload, 1) := by decide +kernel
theorem dX6_tokenOf_6 : decode cX6_tokenOf 6 = .ok (.invokestatic 60, 3) := by decide +kernel
theorem dX6_tokenOf_9 : decode cX6_tokenOf 9 = .ok (.ifCond .eq 10, 3) := by decide +kernel
theorem dX6_tokenOf_12 : decode cX6_tokenOf 12 = .ok (.aload_n 0, 1) := by decide +kernel
theorem dX6_tokenOf_13 : decode cX6_tokenOf 13 = .ok (.iload_n 1, 1) := by decide +kernel
theorem dX6_tokenOf_14 : decode cX6_tokenOf 14 = .ok (.iload_n 2, 1) := by decide +kernel
theorem dX6_tokenOf_15 : decode cX6_tokenOf 15 = .ok (.invokevirtual 66, 3) := by decide +kernel
theorem dX6_tokenOf_18 : decode cX6_tokenOf 18 = .ok (.ireturn, 1) := by decide +kernel
theorem dX6_tokenOf_19 : decode cX6_tokenOf 19 = .ok (.aload_n 0, 1) := by decide +kernel
theorem dX6_tokenOf_20 : decode cX6_tokenOf 20 = .ok (.getfield 9, 3) := by decide +kernel
theorem dX6_tokenOf_23 : decode cX6_tokenOf 23 = .ok (.iload_n 1, 1) := by decide +kernel
theorem dX6_tokenOf_24 : decode cX6_tokenOf 24 = .ok (.caload, 1) := by decide +kernel
theorem dX6_tokenOf_25 : decode cX6_tokenOf 25 = .ok (.invokestatic 63, 3) := by decide +kernel
theorem dX6_tokenOf_28 : decode cX6_tokenOf 28 = .ok (.ifCond .eq 12, 3) := by decide +kernel
theorem dX6_tokenOf_31 : decode cX6_tokenOf 31 = .ok (.aload_n 0, 1) := by decide +kernel
theorem dX6_tokenOf_32 : decode cX6_tokenOf 32 = .ok (.iload_n 1, 1) := by decide +kernel
theorem dX6_tokenOf_33 : decode cX6_tokenOf 33 = .ok (.iload_n 2, 1) := by decide +kernel
theorem dX6_tokenOf_34 : decode cX6_tokenOf 34 = .ok (.invokevirtual 69, 3) := by decide +kernel
theorem dX6_tokenOf_37 : decode cX6_tokenOf 37 = .ok (.goto 12, 3) := by decide +kernel
theorem dX6_tokenOf_40 : decode cX6_tokenOf 40 = .ok (.aload_n 0, 1) := by decide +kernel
theorem dX6_tokenOf_41 : decode cX6_tokenOf 41 = .ok (.getfield 9, 3) := by decide +kernel
theorem dX6_tokenOf_44 : decode cX6_tokenOf 44 = .ok (.iload_n 1, 1) := by decide +kernel
theorem dX6_tokenOf_45 : decode cX6_tokenOf 45 = .ok (.caload, 1) := by decide +kernel
theorem dX6_tokenOf_46 : decode cX6_tokenOf 46 = .ok (.invokestatic 72, 3) := by decide +kernel
theorem dX6_tokenOf_49 : decode cX6_tokenOf 49 = .ok (.ireturn, 1) := by decide +kernel
theorem dX6_numberToken_0 : decode cX6_numberToken 0 = .ok (.iload_n 2, 1) := by decide +kernel
theorem dX6_numberToken_1 : decode cX6_numberToken 1 = .ok (.iload_n 1, 1) := by decide +kernel
theorem dX6_numberToken_2 : decode cX6_numberToken 2 = .ok (.isub, 1) := by decide +kernel
theorem dX6_numberToken_3 : decode cX6_numberToken 3 = .ok (.iconst 4, 1) := by decide +kernel
theorem dX6_numberToken_4 : decode cX6_numberToken 4 = .ok (.if_icmp .le 6, 3) := by decide +kernel
theorem dX6_numberToken_7 : decode cX6_numberToken 7 = .ok (.bipush (-19), 2) := by decide +kernel
theorem dX6_numberToken_9 : decode cX6_numberToken 9 = .ok (.ireturn, 1) := by decide +kernel
theorem dX6_numberToken_10 : decode cX6_numberToken 10 = .ok (.iconst 0, 1) := by decide +kernel
theorem dX6_numberToken_11 : decode cX6_numberToken 11 = .ok (.istore_n 3, 1) := by decide +kernel
theorem dX6_numberToken_12 : decode cX6_numberToken 12 = .ok (.iload_n 1, 1) := by decide +kernel
theorem dX6_numberToken_13 : decode cX6_numberToken 13 = .ok (.istore 4, 2) := by decide +kernel
theorem dX6_numberToken_15 : decode cX6_numberToken 15 = .ok (.iload 4, 2) := by decide +kernel
theorem dX6_numberToken_17 : decode cX6_numberToken 17 = .ok (.iload_n 2, 1) := by decide +kernel
theorem dX6_numberToken_18 : decode cX6_numberToken 18 = .ok (.if_icmp .ge 25, 3) := by decide +kernel
theorem dX6_numberToken_21 : decode cX6_numberToken 21 = .ok (.iload_n 3, 1) := by decide +kernel
theorem dX6_numberToken_22 : decode cX6_numberToken 22 = .ok (.bipush 10, 2) := by decide +kernel
theorem dX6_numberToken_24 : decode cX6_numberToken 24 = .ok (.imul, 1) := by decide +kernel
theorem dX6_numberToken_25 : decode cX6_numberToken 25 = .ok (.aload_n 0, 1) := by decide +kernel
theorem dX6_numberToken_26 : decode cX6_numberToken 26 = .ok (.getfield 9, 3) := by decide +kernel
theorem dX6_numberToken_29 : decode cX6_numberToken 29 = .ok (.iload 4, 2) := by decide +kernel
theorem dX6_numberToken_31 : decode cX6_numberToken 31 = .ok (.caload, 1) := by decide +kernel
theorem dX6_numberToken_32 : decode cX6_numberToken 32 = .ok (.bipush 48, 2) := by decide +kernel
theorem dX6_numberToken_34 : decode cX6_numberToken 34 = .ok (.isub, 1) := by decide +kernel
theorem dX6_numberToken_35 : decode cX6_numberToken 35 = .ok (.iadd, 1) := by decide +kernel
theorem dX6_numberToken_36 : decode cX6_numberToken 36 = .ok (.istore_n 3, 1) := by decide +kernel
theorem dX6_numberToken_37 : decode cX6_numberToken 37 = .ok (.iinc 4 1, 3) := by decide +kernel
theorem dX6_numberToken_40 : decode cX6_numberToken 40 = .ok (.goto (-25), 3) := by decide +kernel
theorem dX6_numberToken_43 : decode cX6_numberToken 43 = .ok (.iload_n 3, 1) := by decide +kernel
theorem dX6_numberToken_44 : decode cX6_numberToken 44 = .ok (.ireturn, 1) := by decide +kernel
theorem dX6_wordToken_0 : decode cX6_wordToken 0 = .ok (.aload_n 0, 1) := by decide +kernel
theorem dX6_wordToken_1 : decode cX6_wordToken 1 = .ok (.ldc 76, 2) := by decide +kernel
theorem dX6_wordToken_3 : decode cX6_wordToken 3 = .ok (.iload_n 1, 1) := by decide +kernel
theorem dX6_wordToken_4 : decode cX6_wordToken 4 = .ok (.iload_n 2, 1) := by decide +kernel
theorem dX6_wordToken_5 : decode cX6_wordToken 5 = .ok (.invokevirtual 78, 3) := by decide +kernel
theorem dX6_wordToken_8 : decode cX6_wordToken 8 = .ok (.ifCond .eq 6, 3) := by decide +kernel
theorem dX6_wordToken_11 : decode cX6_wordToken 11 = .ok (.bipush (-12), 2) := by decide +kernel
theorem dX6_wordToken_13 : decode cX6_wordToken 13 = .ok (.ireturn, 1) := by decide +kernel
theorem dX6_wordToken_14 : decode cX6_wordToken 14 = .ok (.aload_n 0, 1) := by decide +kernel
theorem dX6_wordToken_15 : decode cX6_wordToken 15 = .ok (.ldc 82, 2) := by decide +kernel
theorem dX6_wordToken_17 : decode cX6_wordToken 17 = .ok (.iload_n 1, 1) := by decide +kernel
theorem dX6_wordToken_18 : decode cX6_wordToken 18 = .ok (.iload_n 2, 1) := by decide +kernel
theorem dX6_wordToken_19 : decode cX6_wordToken 19 = .ok (.invokevirtual 78, 3) := by decide +kernel
theorem dX6_wordToken_22 : decode cX6_wordToken 22 = .ok (.ifCond .eq 6, 3) := by decide +kernel
theorem dX6_wordToken_25 : decode cX6_wordToken 25 = .ok (.bipush (-13), 2) := by decide +kernel
theorem dX6_wordToken_27 : decode cX6_wordToken 27 = .ok (.ireturn, 1) := by decide +kernel
theorem dX6_wordToken_28 : decode cX6_wordToken 28 = .ok (.aload_n 0, 1) := by decide +kernel
theorem dX6_wordToken_29 : decode cX6_wordToken 29 = .ok (.ldc 84, 2) := by decide +kernel
theorem dX6_wordToken_31 : decode cX6_wordToken 31 = .ok (.iload_n 1, 1) := by decide +kernel
theorem dX6_wordToken_32 : decode cX6_wordToken 32 = .ok (.iload_n 2, 1) := by decide +kernel
theorem dX6_wordToken_33 : decode cX6_wordToken 33 = .ok (.invokevirtual 78, 3) := by decide +kernel
theorem dX6_wordToken_36 : decode cX6_wordToken 36 = .ok (.ifCond .eq 6, 3) := by decide +kernel
theorem dX6_wordToken_39 : decode cX6_wordToken 39 = .ok (.bipush (-14), 2) := by decide +kernel
theorem dX6_wordToken_41 : decode cX6_wordToken 41 = .ok (.ireturn, 1) := by decide +kernel
theorem dX6_wordToken_42 : decode cX6_wordToken 42 = .ok (.aload_n 0, 1) := by decide +kernel
theorem dX6_wordToken_43 : decode cX6_wordToken 43 = .ok (.ldc 86, 2) := by decide +kernel
theorem dX6_wordToken_45 : decode cX6_wordToken 45 = .ok (.iload_n 1, 1) := by decide +kernel
theorem dX6_wordToken_46 : decode cX6_wordToken 46 = .ok (.iload_n 2, 1) := by decide +kernel
theorem dX6_wordToken_47 : decode cX6_wordToken 47 = .ok (.invokevirtual 78, 3) := by decide +kernel
theorem dX6_wordToken_50 : decode cX6_wordToken 50 = .ok (.ifCond .eq 6, 3) := by decide +kernel
theorem dX6_wordToken_53 : decode cX6_wordToken 53 = .ok (.bipush (-11), 2) := by decide +kernel
theorem dX6_wordToken_55 : decode cX6_wordToken 55 = .ok (.ireturn, 1) := by decide +kernel
theorem dX6_wordToken_56 : decode cX6_wordToken 56 = .ok (.aload_n 0, 1) := by decide +kernel
theorem dX6_wordToken_57 : decode cX6_wordToken 57 = .ok (.ldc 88, 2) := by decide +kernel
theorem dX6_wordToken_59 : decode cX6_wordToken 59 = .ok (.iload_n 1, 1) := by decide +kernel
theorem dX6_wordToken_60 : decode cX6_wordToken 60 = .ok (.iload_n 2, 1) := by decide +kernel
theorem dX6_wordToken_61 : decode cX6_wordToken 61 = .ok (.invokevirtual 78, 3) := by decide +kernel
theorem dX6_wordToken_64 : decode cX6_wordToken 64 = .ok (.ifCond .eq 5, 3) := by decide +kernel
theorem dX6_wordToken_67 : decode cX6_wordToken 67 = .ok (.iconst (-1), 1) := by decide +kernel
theorem dX6_wordToken_68 : decode cX6_wordToken 68 = .ok (.ireturn, 1) := by decide +kernel
theorem dX6_wordToken_69 : decode cX6_wordToken 69 = .ok (.aload_n 0, 1) := by decide +kernel
theorem dX6_wordToken_70 : decode cX6_wordToken 70 = .ok (.ldc 90, 2) := by decide +kernel
theorem dX6_wordToken_72 : decode cX6_wordToken 72 = .ok (.iload_n 1, 1) := by decide +kernel
theorem dX6_wordToken_73 : decode cX6_wordToken 73 = .ok (.iload_n 2, 1) := by decide +kernel
theorem dX6_wordToken_74 : decode cX6_wordToken 74 = .ok (.invokevirtual 78, 3) := by decide +kernel
theorem dX6_wordToken_77 : decode cX6_wordToken 77 = .ok (.ifCond .eq 6, 3) := by decide +kernel
theorem dX6_wordToken_80 : decode cX6_wordToken 80 = .ok (.bipush (-2), 2) := by decide +kernel
theorem dX6_wordToken_82 : decode cX6_wordToken 82 = .ok (.ireturn, 1) := by decide +kernel
theorem dX6_wordToken_83 : decode cX6_wordToken 83 = .ok (.aload_n 0, 1) := by decide +kernel
theorem dX6_wordToken_84 : decode cX6_wordToken 84 = .ok (.ldc 92, 2) := by decide +kernel
theorem dX6_wordToken_86 : decode cX6_wordToken 86 = .ok (.iload_n 1, 1) := by decide +kernel
theorem dX6_wordToken_87 : decode cX6_wordToken 87 = .ok (.iload_n 2, 1) := by decide +kernel
theorem dX6_wordToken_88 : decode cX6_wordToken 88 = .ok (.invokevirtual 78, 3) := by decide +kernel
theorem dX6_wordToken_91 : decode cX6_wordToken 91 = .ok (.ifCond .eq 6, 3) := by decide +kernel
theorem dX6_wordToken_94 : decode cX6_wordToken 94 = .ok (.bipush (-3), 2) := by decide +kernel
theorem dX6_wordToken_96 : decode cX6_wordToken 96 = .ok (.ireturn, 1) := by decide +kernel
theorem dX6_wordToken_97 : decode cX6_wordToken 97 = .ok (.aload_n 0, 1) := by decide +kernel
theorem dX6_wordToken_98 : decode cX6_wordToken 98 = .ok (.ldc 94, 2) := by decide +kernel
theorem dX6_wordToken_100 : decode cX6_wordToken 100 = .ok (.iload_n 1, 1) := by decide +kernel
theorem dX6_wordToken_101 : decode cX6_wordToken 101 = .ok (.iload_n 2, 1) := by decide +kernel
theorem dX6_wordToken_102 : decode cX6_wordToken 102 = .ok (.invokevirtual 78, 3) := by decide +kernel
theorem dX6_wordToken_105 : decode cX6_wordToken 105 = .ok (.ifCond .eq 6, 3) := by decide +kernel
theorem dX6_wordToken_108 : decode cX6_wordToken 108 = .ok (.bipush (-4), 2) := by decide +kernel
theorem dX6_wordToken_110 : decode cX6_wordToken 110 = .ok (.ireturn, 1) := by decide +kernel
theorem dX6_wordToken_111 : decode cX6_wordToken 111 = .ok (.aload_n 0, 1) := by decide +kernel
theorem dX6_wordToken_112 : decode cX6_wordToken 112 = .ok (.ldc 96, 2) := by decide +kernel
theorem dX6_wordToken_114 : decode cX6_wordToken 114 = .ok (.iload_n 1, 1) := by decide +kernel
theorem dX6_wordToken_115 : decode cX6_wordToken 115 = .ok (.iload_n 2, 1) := by decide +kernel
theorem dX6_wordToken_116 : decode cX6_wordToken 116 = .ok (.invokevirtual 78, 3) := by decide +kernel
theorem dX6_wordToken_119 : decode cX6_wordToken 119 = .ok (.ifCond .eq 6, 3) := by decide +kernel
theorem dX6_wordToken_122 : decode cX6_wordToken 122 = .ok (.bipush (-5), 2) := by decide +kernel
theorem dX6_wordToken_124 : decode cX6_wordToken 124 = .ok (.ireturn, 1) := by decide +kernel
theorem dX6_wordToken_125 : decode cX6_wordToken 125 = .ok (.aload_n 0, 1) := by decide +kernel
theorem dX6_wordToken_126 : decode cX6_wordToken 126 = .ok (.ldc 98, 2) := by decide +kernel
theorem dX6_wordToken_128 : decode cX6_wordToken 128 = .ok (.iload_n 1, 1) := by decide +kernel
theorem dX6_wordToken_129 : decode cX6_wordToken 129 = .ok (.iload_n 2, 1) := by decide +kernel
theorem dX6_wordToken_130 : decode cX6_wordToken 130 = .ok (.invokevirtual 78, 3) := by decide +kernel
theorem dX6_wordToken_133 : decode cX6_wordToken 133 = .ok (.ifCond .eq 8, 3) := by decide +kernel
theorem dX6_wordToken_136 : decode cX6_wordToken 136 = .ok (.bipush (-6), 2) := by decide +kernel
theorem dX6_wordToken_138 : decode cX6_wordToken 138 = .ok (.goto 5, 3) := by decide +kernel
theorem dX6_wordToken_141 : decode cX6_wordToken 141 = .ok (.bipush (-19), 2) := by decide +kernel
theorem dX6_wordToken_143 : decode cX6_wordToken 143 = .ok (.ireturn, 1) := by decide +kernel
theorem dX6_reads_0 : decode cX6_reads 0 = .ok (.iload_n 3, 1) := by decide +kernel
theorem dX6_reads_1 : decode cX6_reads 1 = .ok (.iload_n 2, 1) := by decide +kernel
theorem dX6_reads_2 : decode cX6_reads 2 = .ok (.isub, 1) := by decide +kernel
theorem dX6_reads_3 : decode cX6_reads 3 = .ok (.aload_n 1, 1) := by decide +kernel
theorem dX6_reads_4 : decode cX6_reads 4 = .ok (.invokevirtual 100, 3) := by decide +kernel
theorem dX6_reads_7 : decode cX6_reads 7 = .ok (.if_icmp .eq 5, 3) := by decide +kernel
theorem dX6_reads_10 : decode cX6_reads 10 = .ok (.iconst 0, 1) := by decide +kernel
theorem dX6_reads_11 : decode cX6_reads 11 = .ok (.ireturn, 1) := by decide +kernel
theorem dX6_reads_12 : decode cX6_reads 12 = .ok (.iload_n 2, 1) := by decide +kernel
theorem dX6_reads_13 : decode cX6_reads 13 = .ok (.istore 4, 2) := by decide +kernel
theorem dX6_reads_15 : decode cX6_reads 15 = .ok (.iload 4, 2) := by decide +kernel
theorem dX6_reads_17 : decode cX6_reads 17 = .ok (.iload_n 3, 1) := by decide +kernel
theorem dX6_reads_18 : decode cX6_reads 18 = .ok (.if_icmp .ge 29, 3) := by decide +kernel
theorem dX6_reads_21 : decode cX6_reads 21 = .ok (.aload_n 0, 1) := by decide +kernel
theorem dX6_reads_22 : decode cX6_reads 22 = .ok (.getfield 9, 3) := by decide +kernel
theorem dX6_reads_25 : decode cX6_reads 25 = .ok (.iload 4, 2) := by decide +kernel
theorem dX6_reads_27 : decode cX6_reads 27 = .ok (.caload, 1) := by decide +kernel
theorem dX6_reads_28 : decode cX6_reads 28 = .ok (.aload_n 1, 1) := by decide +kernel
theorem dX6_reads_29 : decode cX6_reads 29 = .ok (.iload 4, 2) := by decide +kernel
theorem dX6_reads_31 : decode cX6_reads 31 = .ok (.iload_n 2, 1) := by decide +kernel
theorem dX6_reads_32 : decode cX6_reads 32 = .ok (.isub, 1) := by decide +kernel
theorem dX6_reads_33 : decode cX6_reads 33 = .ok (.invokevirtual 105, 3) := by decide +kernel
theorem dX6_reads_36 : decode cX6_reads 36 = .ok (.if_icmp .eq 5, 3) := by decide +kernel
theorem dX6_reads_39 : decode cX6_reads 39 = .ok (.iconst 0, 1) := by decide +kernel
theorem dX6_reads_40 : decode cX6_reads 40 = .ok (.ireturn, 1) := by decide +kernel
theorem dX6_reads_41 : decode cX6_reads 41 = .ok (.iinc 4 1, 3) := by decide +kernel
theorem dX6_reads_44 : decode cX6_reads 44 = .ok (.goto (-29), 3) := by decide +kernel
theorem dX6_reads_47 : decode cX6_reads 47 = .ok (.iconst 1, 1) := by decide +kernel
theorem dX6_reads_48 : decode cX6_reads 48 = .ok (.ireturn, 1) := by decide +kernel
theorem dX6_isBlank_0 : decode cX6_isBlank 0 = .ok (.iload_n 0, 1) := by decide +kernel
theorem dX6_isBlank_1 : decode cX6_isBlank 1 = .ok (.bipush 10, 2) := by decide +kernel
theorem dX6_isBlank_3 : decode cX6_isBlank 3 = .ok (.if_icmp .eq 9, 3) := by decide +kernel
theorem dX6_isBlank_6 : decode cX6_isBlank 6 = .ok (.iload_n 0, 1) := by decide +kernel
theorem dX6_isBlank_7 : decode cX6_isBlank 7 = .ok (.bipush 32, 2) := by decide +kernel
theorem dX6_isBlank_9 : decode cX6_isBlank 9 = .ok (.if_icmp .ne 7, 3) := by decide +kernel
theorem dX6_isBlank_12 : decode cX6_isBlank 12 = .ok (.iconst 1, 1) := by decide +kernel
theorem dX6_isBlank_13 : decode cX6_isBlank 13 = .ok (.goto 4, 3) := by decide +kernel
theorem dX6_isBlank_16 : decode cX6_isBlank 16 = .ok (.iconst 0, 1) := by decide +kernel
theorem dX6_isBlank_17 : decode cX6_isBlank 17 = .ok (.ireturn, 1) := by decide +kernel
theorem dX6_isLetter_0 : decode cX6_isLetter 0 = .ok (.iload_n 0, 1) := by decide +kernel
theorem dX6_isLetter_1 : decode cX6_isLetter 1 = .ok (.bipush 97, 2) := by decide +kernel
theorem dX6_isLetter_3 : decode cX6_isLetter 3 = .ok (.if_icmp .lt 13, 3) := by decide +kernel
theorem dX6_isLetter_6 : decode cX6_isLetter 6 = .ok (.iload_n 0, 1) := by decide +kernel
theorem dX6_isLetter_7 : decode cX6_isLetter 7 = .ok (.bipush 122, 2) := by decide +kernel
theorem dX6_isLetter_9 : decode cX6_isLetter 9 = .ok (.if_icmp .gt 7, 3) := by decide +kernel
theorem dX6_isLetter_12 : decode cX6_isLetter 12 = .ok (.iconst 1, 1) := by decide +kernel
theorem dX6_isLetter_13 : decode cX6_isLetter 13 = .ok (.goto 4, 3) := by decide +kernel
theorem dX6_isLetter_16 : decode cX6_isLetter 16 = .ok (.iconst 0, 1) := by decide +kernel
theorem dX6_isLetter_17 : decode cX6_isLetter 17 = .ok (.ireturn, 1) := by decide +kernel
theorem dX6_isDigit_0 : decode cX6_isDigit 0 = .ok (.iload_n 0, 1) := by decide +kernel
theorem dX6_isDigit_1 : decode cX6_isDigit 1 = .ok (.bipush 48, 2) := by decide +kernel
theorem dX6_isDigit_3 : decode cX6_isDigit 3 = .ok (.if_icmp .lt 13, 3) := by decide +kernel
theorem dX6_isDigit_6 : decode cX6_isDigit 6 = .ok (.iload_n 0, 1) := by decide +kernel
theorem dX6_isDigit_7 : decode cX6_isDigit 7 = .ok (.bipush 57, 2) := by decide +kernel
theorem dX6_isDigit_9 : decode cX6_isDigit 9 = .ok (.if_icmp .gt 7, 3) := by decide +kernel
theorem dX6_isDigit_12 : decode cX6_isDigit 12 = .ok (.iconst 1, 1) := by decide +kernel
theorem dX6_isDigit_13 : decode cX6_isDigit 13 = .ok (.goto 4, 3) := by decide +kernel
theorem dX6_isDigit_16 : decode cX6_isDigit 16 = .ok (.iconst 0, 1) := by decide +kernel
theorem dX6_isDigit_17 : decode cX6_isDigit 17 = .ok (.ireturn, 1) := by decide +kernel
theorem dX6_signToken_0 : decode cX6_signToken 0 = .ok (.iload_n 0, 1) := by decide +kernel
theorem dX6_signToken_1 : decode cX6_signToken 1 = .ok (.tableswitch 124 40 61 #[103, 106, 124, 115, 124, 118, 124, 124, 124, 124, 124, 124, 124, 124, 124, 124, 124, 124, 124, 121, 109, 112], 103) := by decide +kernel
theorem dX6_signToken_104 : decode cX6_signToken 104 = .ok (.bipush (-15), 2) := by decide +kernel
theorem dX6_signToken_106 : decode cX6_signToken 106 = .ok (.ireturn, 1) := by decide +kernel
theorem dX6_signToken_107 : decode cX6_signToken 107 = .ok (.bipush (-16), 2) := by decide +kernel
theorem dX6_signToken_109 : decode cX6_signToken 109 = .ok (.ireturn, 1) := by decide +kernel
theorem dX6_signToken_110 : decode cX6_signToken 110 = .ok (.bipush (-9), 2) := by decide +kernel
theorem dX6_signToken_112 : decode cX6_signToken 112 = .ok (.ireturn, 1) := by decide +kernel
theorem dX6_signToken_113 : decode cX6_signToken 113 = .ok (.bipush (-10), 2) := by decide +kernel
theorem dX6_signToken_115 : decode cX6_signToken 115 = .ok (.ireturn, 1) := by decide +kernel
theorem dX6_signToken_116 : decode cX6_signToken 116 = .ok (.bipush (-7), 2) := by decide +kernel
theorem dX6_signToken_118 : decode cX6_signToken 118 = .ok (.ireturn, 1) := by decide +kernel
theorem dX6_signToken_119 : decode cX6_signToken 119 = .ok (.bipush (-8), 2) := by decide +kernel
theorem dX6_signToken_121 : decode cX6_signToken 121 = .ok (.ireturn, 1) := by decide +kernel
theorem dX6_signToken_122 : decode cX6_signToken 122 = .ok (.bipush (-17), 2) := by decide +kernel
theorem dX6_signToken_124 : decode cX6_signToken 124 = .ok (.ireturn, 1) := by decide +kernel
theorem dX6_signToken_125 : decode cX6_signToken 125 = .ok (.bipush (-19), 2) := by decide +kernel
theorem dX6_signToken_127 : decode cX6_signToken 127 = .ok (.ireturn, 1) := by decide +kernel
theorem dX7_init_0 : decode cX7_init 0 = .ok (.aload_n 0, 1) := by decide +kernel
theorem dX7_init_1 : decode cX7_init 1 = .ok (.invokespecial 3, 3) := by decide +kernel
theorem dX7_init_4 : decode cX7_init 4 = .ok (.aload_n 0, 1) := by decide +kernel
theorem dX7_init_5 : decode cX7_init 5 = .ok (.bipush 7, 2) := by decide +kernel
theorem dX7_init_7 : decode cX7_init 7 = .ok (.newarray .int, 2) := by decide +kernel
theorem dX7_init_9 : decode cX7_init 9 = .ok (.putfield 9, 3) := by decide +kernel
theorem dX7_init_12 : decode cX7_init 12 = .ok (.return_, 1) := by decide +kernel
theorem dX7_room_0 : decode cX7_room 0 = .ok (.aload_n 0, 1) := by decide +kernel
theorem dX7_room_1 : decode cX7_room 1 = .ok (.getfield 15, 3) := by decide +kernel
theorem dX7_room_4 : decode cX7_room 4 = .ok (.aload_n 0, 1) := by decide +kernel
theorem dX7_room_5 : decode cX7_room 5 = .ok (.getfield 19, 3) := by decide +kernel
theorem dX7_room_8 : decode cX7_room 8 = .ok (.isub, 1) := by decide +kernel
theorem dX7_room_9 : decode cX7_room 9 = .ok (.ireturn, 1) := by decide +kernel
theorem dX7_hundredths_0 : decode cX7_hundredths 0 = .ok (.aload_n 0, 1) := by decide +kernel
theorem dX7_hundredths_1 : decode cX7_hundredths 1 = .ok (.getfield 15, 3) := by decide +kernel
theorem dX7_hundredths_4 : decode cX7_hundredths 4 = .ok (.ifCond .le 18, 3) := by decide +kernel
theorem dX7_hundredths_7 : decode cX7_hundredths 7 = .ok (.aload_n 0, 1) := by decide +kernel
theorem dX7_hundredths_8 : decode cX7_hundredths 8 = .ok (.getfield 19, 3) := by decide +kernel
theorem dX7_hundredths_11 : decode cX7_hundredths 11 = .ok (.bipush 100, 2) := by decide +kernel
theorem dX7_hundredths_13 : decode cX7_hundredths 13 = .ok (.imul, 1) := by decide +kernel
theorem dX7_hundredths_14 : decode cX7_hundredths 14 = .ok (.aload_n 0, 1) := by decide +kernel
theorem dX7_hundredths_15 : decode cX7_hundredths 15 = .ok (.getfield 15, 3) := by decide +kernel
theorem dX7_hundredths_18 : decode cX7_hundredths 18 = .ok (.idiv, 1) := by decide +kernel
theorem dX7_hundredths_19 : decode cX7_hundredths 19 = .ok (.goto 4, 3) := by decide +kernel
theorem dX7_hundredths_22 : decode cX7_hundredths 22 = .ok (.iconst 0, 1) := by decide +kernel
theorem dX7_hundredths_23 : decode cX7_hundredths 23 = .ok (.ireturn, 1) := by decide +kernel
theorem dX7_fill_0 : decode cX7_fill 0 = .ok (.aload_n 0, 1) := by decide +kernel
theorem dX7_fill_1 : decode cX7_fill 1 = .ok (.aload_n 0, 1) := by decide +kernel
theorem dX7_fill_2 : decode cX7_fill 2 = .ok (.getfield 19, 3) := by decide +kernel
theorem dX7_fill_5 : decode cX7_fill 5 = .ok (.iload_n 1, 1) := by decide +kernel
theorem dX7_fill_6 : decode cX7_fill 6 = .ok (.iadd, 1) := by decide +kernel
theorem dX7_fill_7 : decode cX7_fill 7 = .ok (.aload_n 0, 1) := by decide +kernel
theorem dX7_fill_8 : decode cX7_fill 8 = .ok (.getfield 15, 3) := by decide +kernel
theorem dX7_fill_11 : decode cX7_fill 11 = .ok (.invokestatic 22, 3) := by decide +kernel
theorem dX7_fill_14 : decode cX7_fill 14 = .ok (.putfield 19, 3) := by decide +kernel
theorem dX7_fill_17 : decode cX7_fill 17 = .ok (.return_, 1) := by decide +kernel
theorem dX7_give_0 : decode cX7_give 0 = .ok (.aload_n 0, 1) := by decide +kernel
theorem dX7_give_1 : decode cX7_give 1 = .ok (.aload_n 0, 1) := by decide +kernel
theorem dX7_give_2 : decode cX7_give 2 = .ok (.getfield 19, 3) := by decide +kernel
theorem dX7_give_5 : decode cX7_give 5 = .ok (.iload_n 1, 1) := by decide +kernel
theorem dX7_give_6 : decode cX7_give 6 = .ok (.if_icmp .ge 7, 3) := by decide +kernel
theorem dX7_give_9 : decode cX7_give 9 = .ok (.iconst 1, 1) := by decide +kernel
theorem dX7_give_10 : decode cX7_give 10 = .ok (.goto 4, 3) := by decide +kernel
theorem dX7_give_13 : decode cX7_give 13 = .ok (.iconst 0, 1) := by decide +kernel
theorem dX7_give_14 : decode cX7_give 14 = .ok (.putfield 28, 3) := by decide +kernel
theorem dX7_give_17 : decode cX7_give 17 = .ok (.aload_n 0, 1) := by decide +kernel
theorem dX7_give_18 : decode cX7_give 18 = .ok (.aload_n 0, 1) := by decide +kernel
theorem dX7_give_19 : decode cX7_give 19 = .ok (.getfield 19, 3) := by decide +kernel
theorem dX7_give_22 : decode cX7_give 22 = .ok (.iload_n 1, 1) := by decide +kernel
theorem dX7_give_23 : decode cX7_give 23 = .ok (.invokestatic 22, 3) := by decide +kernel
theorem dX7_give_26 : decode cX7_give 26 = .ok (.putfield 32, 3) := by decide +kernel
theorem dX7_give_29 : decode cX7_give 29 = .ok (.aload_n 0, 1) := by decide +kernel
theorem dX7_give_30 : decode cX7_give 30 = .ok (.dup, 1) := by decide +kernel
theorem dX7_give_31 : decode cX7_give 31 = .ok (.getfield 19, 3) := by decide +kernel
theorem dX7_give_34 : decode cX7_give 34 = .ok (.aload_n 0, 1) := by decide +kernel
theorem dX7_give_35 : decode cX7_give 35 = .ok (.getfield 32, 3) := by decide +kernel
theorem dX7_give_38 : decode cX7_give 38 = .ok (.isub, 1) := by decide +kernel
theorem dX7_give_39 : decode cX7_give 39 = .ok (.putfield 19, 3) := by decide +kernel
theorem dX7_give_42 : decode cX7_give 42 = .ok (.aload_n 0, 1) := by decide +kernel
theorem dX7_give_43 : decode cX7_give 43 = .ok (.aload_n 0, 1) := by decide +kernel
theorem dX7_give_44 : decode cX7_give 44 = .ok (.getfield 28, 3) := by decide +kernel
theorem dX7_give_47 : decode cX7_give 47 = .ok (.ifCond .eq 12, 3) := by decide +kernel
theorem dX7_give_50 : decode cX7_give 50 = .ok (.aload_n 0, 1) := by decide +kernel
theorem dX7_give_51 : decode cX7_give 51 = .ok (.getfield 35, 3) := by decide +kernel
theorem dX7_give_54 : decode cX7_give 54 = .ok (.iconst 1, 1) := by decide +kernel
theorem dX7_give_55 : decode cX7_give 55 = .ok (.iadd, 1) := by decide +kernel
theorem dX7_give_56 : decode cX7_give 56 = .ok (.goto 4, 3) := by decide +kernel
theorem dX7_give_59 : decode cX7_give 59 = .ok (.iconst 0, 1) := by decide +kernel
theorem dX7_give_60 : decode cX7_give 60 = .ok (.putfield 35, 3) := by decide +kernel
theorem dX7_give_63 : decode cX7_give 63 = .ok (.aload_n 0, 1) := by decide +kernel
theorem dX7_give_64 : decode cX7_give 64 = .ok (.dup, 1) := by decide +kernel
theorem dX7_give_65 : decode cX7_give 65 = .ok (.getfield 38, 3) := by decide +kernel
theorem dX7_give_68 : decode cX7_give 68 = .ok (.aload_n 0, 1) := by decide +kernel
theorem dX7_give_69 : decode cX7_give 69 = .ok (.getfield 28, 3) := by decide +kernel
theorem dX7_give_72 : decode cX7_give 72 = .ok (.ifCond .eq 7, 3) := by decide +kernel
theorem dX7_give_75 : decode cX7_give 75 = .ok (.iconst 1, 1) := by decide +kernel
theorem dX7_give_76 : decode cX7_give 76 = .ok (.goto 4, 3) := by decide +kernel
theorem dX7_give_79 : decode cX7_give 79 = .ok (.iconst 0, 1) := by decide +kernel
theorem dX7_give_80 : decode cX7_give 80 = .ok (.iadd, 1) := by decide +kernel
theorem dX7_give_81 : decode cX7_give 81 = .ok (.putfield 38, 3) := by decide +kernel
theorem dX7_give_84 : decode cX7_give 84 = .ok (.iload_n 2, 1) := by decide +kernel
theorem dX7_give_85 : decode cX7_give 85 = .ok (.ifCond .lt 19, 3) := by decide +kernel
theorem dX7_give_88 : decode cX7_give 88 = .ok (.iload_n 2, 1) := by decide +kernel
theorem dX7_give_89 : decode cX7_give 89 = .ok (.bipush 7, 2) := by decide +kernel
theorem dX7_give_91 : decode cX7_give 91 = .ok (.if_icmp .ge 13, 3) := by decide +kernel
theorem dX7_give_94 : decode cX7_give 94 = .ok (.aload_n 0, 1) := by decide +kernel
theorem dX7_give_95 : decode cX7_give 95 = .ok (.getfield 9, 3) := by decide +kernel
theorem dX7_give_98 : decode cX7_give 98 = .ok (.iload_n 2, 1) := by decide +kernel
theorem dX7_give_99 : decode cX7_give 99 = .ok (.aload_n 0, 1) := by decide +kernel
theorem dX7_give_100 : decode cX7_give 100 = .ok (.getfield 32, 3) := by decide +kernel
theorem dX7_give_103 : decode cX7_give 103 = .ok (.iastore, 1) := by decide +kernel
theorem dX7_give_104 : decode cX7_give 104 = .ok (.return_, 1) := by decide +kernel
theorem dX7_givenInWeek_0 : decode cX7_givenInWeek 0 = .ok (.iconst 0, 1) := by decide +kernel
theorem dX7_givenInWeek_1 : decode cX7_givenInWeek 1 = .ok (.istore_n 1, 1) := by decide +kernel
theorem dX7_givenInWeek_2 : decode cX7_givenInWeek 2 = .ok (.iconst 0, 1) := by decide +kernel
theorem dX7_givenInWeek_3 : decode cX7_givenInWeek 3 = .ok (.istore_n 2, 1) := by decide +kernel
theorem dX7_givenInWeek_4 : decode cX7_givenInWeek 4 = .ok (.iload_n 2, 1) := by decide +kernel
theorem dX7_givenInWeek_5 : decode cX7_givenInWeek 5 = .ok (.bipush 7, 2) := by decide +kernel
theorem dX7_givenInWeek_7 : decode cX7_givenInWeek 7 = .ok (.if_icmp .ge 18, 3) := by decide +kernel
theorem dX7_givenInWeek_10 : decode cX7_givenInWeek 10 = .ok (.iload_n 1, 1) := by decide +kernel
theorem dX7_givenInWeek_11 : decode cX7_givenInWeek 11 = .ok (.aload_n 0, 1) := by decide +kernel
theorem dX7_givenInWeek_12 : decode cX7_givenInWeek 12 = .ok (.getfield 9, 3) := by decide +kernel
theorem dX7_givenInWeek_15 : decode cX7_givenInWeek 15 = .ok (.iload_n 2, 1) := by decide +kernel
theorem dX7_givenInWeek_16 : decode cX7_givenInWeek 16 = .ok (.iaload, 1) := by decide +kernel
theorem dX7_givenInWeek_17 : decode cX7_givenInWeek 17 = .ok (.iadd, 1) := by decide +kernel
theorem dX7_givenInWeek_18 : decode cX7_givenInWeek 18 = .ok (.istore_n 1, 1) := by decide +kernel
theorem dX7_givenInWeek_19 : decode cX7_givenInWeek 19 = .ok (.iinc 2 1, 3) := by decide +kernel
theorem dX7_givenInWeek_22 : decode cX7_givenInWeek 22 = .ok (.goto (-18), 3) := by decide +kernel
theorem dX7_givenInWeek_25 : decode cX7_givenInWeek 25 = .ok (.iload_n 1, 1) := by decide +kernel
theorem dX7_givenInWeek_26 : decode cX7_givenInWeek 26 = .ok (.ireturn, 1) := by decide +kernel
theorem dX7_told_0 : decode cX7_told 0 = .ok (.iload_n 1, 1) := by decide +kernel
theorem dX7_told_1 : decode cX7_told 1 = .ok (.tableswitch 95 0 7 #[47, 52, 57, 62, 67, 72, 85, 90], 47) := by decide +kernel
theorem dX7_told_48 : decode cX7_told 48 = .ok (.aload_n 0, 1) := by decide +kernel
theorem dX7_told_49 : decode cX7_told 49 = .ok (.getfield 41, 3) := by decide +kernel
theorem dX7_told_52 : decode cX7_told 52 = .ok (.ireturn, 1) := by decide +kernel
theorem dX7_told_53 : decode cX7_told 53 = .ok (.aload_n 0, 1) := by decide +kernel
theorem dX7_told_54 : decode cX7_told 54 = .ok (.getfield 44, 3) := by decide +kernel
theorem dX7_told_57 : decode cX7_told 57 = .ok (.ireturn, 1) := by decide +kernel
theorem dX7_told_58 : decode cX7_told 58 = .ok (.aload_n 0, 1) := by decide +kernel
theorem dX7_told_59 : decode cX7_told 59 = .ok (.getfield 19, 3) := by decide +kernel
theorem dX7_told_62 : decode cX7_told 62 = .ok (.ireturn, 1) := by decide +kernel
theorem dX7_told_63 : decode cX7_told 63 = .ok (.aload_n 0, 1) := by decide +kernel
theorem dX7_told_64 : decode cX7_told 64 = .ok (.getfield 47, 3) := by decide +kernel
theorem dX7_told_67 : decode cX7_told 67 = .ok (.ireturn, 1) := by decide +kernel
theorem dX7_told_68 : decode cX7_told 68 = .ok (.aload_n 0, 1) := by decide +kernel
theorem dX7_told_69 : decode cX7_told 69 = .ok (.getfield 32, 3) := by decide +kernel
theorem dX7_told_72 : decode cX7_told 72 = .ok (.ireturn, 1) := by decide +kernel
theorem dX7_told_73 : decode cX7_told 73 = .ok (.aload_n 0, 1) := by decide +kernel
theorem dX7_told_74 : decode cX7_told 74 = .ok (.getfield 28, 3) := by decide +kernel
theorem dX7_told_77 : decode cX7_told 77 = .ok (.ifCond .eq 7, 3) := by decide +kernel
theorem dX7_told_80 : decode cX7_told 80 = .ok (.iconst 1, 1) := by decide +kernel
theorem dX7_told_81 : decode cX7_told 81 = .ok (.goto 4, 3) := by decide +kernel
theorem dX7_told_84 : decode cX7_told 84 = .ok (.iconst 0, 1) := by decide +kernel
theorem dX7_told_85 : decode cX7_told 85 = .ok (.ireturn, 1) := by decide +kernel
theorem dX7_told_86 : decode cX7_told 86 = .ok (.aload_n 0, 1) := by decide +kernel
theorem dX7_told_87 : decode cX7_told 87 = .ok (.getfield 35, 3) := by decide +kernel
theorem dX7_told_90 : decode cX7_told 90 = .ok (.ireturn, 1) := by decide +kernel
theorem dX7_told_91 : decode cX7_told 91 = .ok (.aload_n 0, 1) := by decide +kernel
theorem dX7_told_92 : decode cX7_told 92 = .ok (.getfield 38, 3) := by decide +kernel
theorem dX7_told_95 : decode cX7_told 95 = .ok (.ireturn, 1) := by decide +kernel
theorem dX7_told_96 : decode cX7_told 96 = .ok (.aload_n 0, 1) := by decide +kernel
theorem dX7_told_97 : decode cX7_told 97 = .ok (.getfield 50, 3) := by decide +kernel
theorem dX7_told_100 : decode cX7_told 100 = .ok (.ireturn, 1) := by decide +kernel
theorem dX8_init_0 : decode cX8_init 0 = .ok (.aload_n 0, 1) := by decide +kernel
theorem dX8_init_1 : decode cX8_init 1 = .ok (.invokespecial 1, 3) := by decide +kernel
theorem dX8_init_4 : decode cX8_init 4 = .ok (.aload_n 0, 1) := by decide +kernel
theorem dX8_init_5 : decode cX8_init 5 = .ok (.bipush 12, 2) := by decide +kernel
theorem dX8_init_7 : decode cX8_init 7 = .ok (.anewarray 9, 3) := by decide +kernel
theorem dX8_init_10 : decode cX8_init 10 = .ok (.putfield 11, 3) := by decide +kernel
theorem dX8_init_13 : decode cX8_init 13 = .ok (.aload_n 0, 1) := by decide +kernel
theorem dX8_init_14 : decode cX8_init 14 = .ok (.iconst 4, 1) := by decide +kernel
theorem dX8_init_15 : decode cX8_init 15 = .ok (.anewarray 15, 3) := by decide +kernel
theorem dX8_init_18 : decode cX8_init 18 = .ok (.putfield 17, 3) := by decide +kernel
theorem dX8_init_21 : decode cX8_init 21 = .ok (.aload_n 0, 1) := by decide +kernel
theorem dX8_init_22 : decode cX8_init 22 = .ok (.iconst 4, 1) := by decide +kernel
theorem dX8_init_23 : decode cX8_init 23 = .ok (.anewarray 21, 3) := by decide +kernel
theorem dX8_init_26 : decode cX8_init 26 = .ok (.putfield 23, 3) := by decide +kernel
theorem dX8_init_29 : decode cX8_init 29 = .ok (.aload_n 0, 1) := by decide +kernel
theorem dX8_init_30 : decode cX8_init 30 = .ok (.bipush 10, 2) := by decide +kernel
theorem dX8_init_32 : decode cX8_init 32 = .ok (.anewarray 27, 3) := by decide +kernel
theorem dX8_init_35 : decode cX8_init 35 = .ok (.putfield 29, 3) := by decide +kernel
theorem dX8_init_38 : decode cX8_init 38 = .ok (.aload_n 0, 1) := by decide +kernel
theorem dX8_init_39 : decode cX8_init 39 = .ok (.bipush 6, 2) := by decide +kernel
theorem dX8_init_41 : decode cX8_init 41 = .ok (.newarray .int, 2) := by decide +kernel
theorem dX8_init_43 : decode cX8_init 43 = .ok (.putfield 33, 3) := by decide +kernel
theorem dX8_init_46 : decode cX8_init 46 = .ok (.aload_n 0, 1) := by decide +kernel
theorem dX8_init_47 : decode cX8_init 47 = .ok (.new 37, 3) := by decide +kernel
theorem dX8_init_50 : decode cX8_init 50 = .ok (.dup, 1) := by decide +kernel
theorem dX8_init_51 : decode cX8_init 51 = .ok (.invokespecial 39, 3) := by decide +kernel
theorem dX8_init_54 : decode cX8_init 54 = .ok (.putfield 40, 3) := by decide +kernel
theorem dX8_init_57 : decode cX8_init 57 = .ok (.aload_n 0, 1) := by decide +kernel
theorem dX8_init_58 : decode cX8_init 58 = .ok (.new 44, 3) := by decide +kernel
theorem dX8_init_61 : decode cX8_init 61 = .ok (.dup, 1) := by decide +kernel
theorem dX8_init_62 : decode cX8_init 62 = .ok (.invokespecial 46, 3) := by decide +kernel
theorem dX8_init_65 : decode cX8_init 65 = .ok (.putfield 47, 3) := by decide +kernel
theorem dX8_init_68 : decode cX8_init 68 = .ok (.iconst 0, 1) := by decide +kernel
theorem dX8_init_69 : decode cX8_init 69 = .ok (.istore_n 1, 1) := by decide +kernel
theorem dX8_init_70 : decode cX8_init 70 = .ok (.iload_n 1, 1) := by decide +kernel
theorem dX8_init_71 : decode cX8_init 71 = .ok (.bipush 12, 2) := by decide +kernel
theorem dX8_init_73 : decode cX8_init 73 = .ok (.if_icmp .ge 22, 3) := by decide +kernel
theorem dX8_init_76 : decode cX8_init 76 = .ok (.aload_n 0, 1) := by decide +kernel
theorem dX8_init_77 : decode cX8_init 77 = .ok (.getfield 11, 3) := by decide +kernel
theorem dX8_init_80 : decode cX8_init 80 = .ok (.iload_n 1, 1) := by decide +kernel
theorem dX8_init_81 : decode cX8_init 81 = .ok (.new 9, 3) := by decide +kernel
theorem dX8_init_84 : decode cX8_init 84 = .ok (.dup, 1) := by decide +kernel
theorem dX8_init_85 : decode cX8_init 85 = .ok (.invokespecial 51, 3) := by decide +kernel
theorem dX8_init_88 : decode cX8_init 88 = .ok (.aastore, 1) := by decide +kernel
theorem dX8_init_89 : decode cX8_init 89 = .ok (.iinc 1 1, 3) := by decide +kernel
theorem dX8_init_92 : decode cX8_init 92 = .ok (.goto (-22), 3) := by decide +kernel
theorem dX8_init_95 : decode cX8_init 95 = .ok (.iconst 0, 1) := by decide +kernel
theorem dX8_init_96 : decode cX8_init 96 = .ok (.istore_n 1, 1) := by decide +kernel
theorem dX8_init_97 : decode cX8_init 97 = .ok (.iload_n 1, 1) := by decide +kernel
theorem dX8_init_98 : decode cX8_init 98 = .ok (.iconst 4, 1) := by decide +kernel
theorem dX8_init_99 : decode cX8_init 99 = .ok (.if_icmp .ge 22, 3) := by decide +kernel
theorem dX8_init_102 : decode cX8_init 102 = .ok (.aload_n 0, 1) := by decide +kernel
theorem dX8_init_103 : decode cX8_init 103 = .ok (.getfield 17, 3) := by decide +kernel
theorem dX8_init_106 : decode cX8_init 106 = .ok (.iload_n 1, 1) := by decide +kernel
theorem dX8_init_107 : decode cX8_init 107 = .ok (.new 15, 3) := by decide +kernel
theorem dX8_init_110 : decode cX8_init 110 = .ok (.dup, 1) := by decide +kernel
theorem dX8_init_111 : decode cX8_init 111 = .ok (.invokespecial 52, 3) := by decide +kernel
theorem dX8_init_114 : decode cX8_init 114 = .ok (.aastore, 1) := by decide +kernel
theorem dX8_init_115 : decode cX8_init 115 = .ok (.iinc 1 1, 3) := by decide +kernel
theorem dX8_init_118 : decode cX8_init 118 = .ok (.goto (-21), 3) := by decide +kernel
theorem dX8_init_121 : decode cX8_init 121 = .ok (.iconst 0, 1) := by decide +kernel
theorem dX8_init_122 : decode cX8_init 122 = .ok (.istore_n 1, 1) := by decide +kernel
theorem dX8_init_123 : decode cX8_init 123 = .ok (.iload_n 1, 1) := by decide +kernel
theorem dX8_init_124 : decode cX8_init 124 = .ok (.iconst 4, 1) := by decide +kernel
theorem dX8_init_125 : decode cX8_init 125 = .ok (.if_icmp .ge 22, 3) := by decide +kernel
theorem dX8_init_128 : decode cX8_init 128 = .ok (.aload_n 0, 1) := by decide +kernel
theorem dX8_init_129 : decode cX8_init 129 = .ok (.getfield 23, 3) := by decide +kernel
theorem dX8_init_132 : decode cX8_init 132 = .ok (.iload_n 1, 1) := by decide +kernel
theorem dX8_init_133 : decode cX8_init 133 = .ok (.new 21, 3) := by decide +kernel
theorem dX8_init_136 : decode cX8_init 136 = .ok (.dup, 1) := by decide +kernel
theorem dX8_init_137 : decode cX8_init 137 = .ok (.invokespecial 53, 3) := by decide +kernel
theorem dX8_init_140 : decode cX8_init 140 = .ok (.aastore, 1) := by decide +kernel
end
section
theorem dX8_init_141 : decode cX8_init 141 = .ok (.iinc 1 1, 3) := by decide +kernel
theorem dX8_init_144 : decode cX8_init 144 = .ok (.goto (-21), 3) := by decide +kernel
theorem dX8_init_147 : decode cX8_init 147 = .ok (.iconst 0, 1) := by decide +kernel
theorem dX8_init_148 : decode cX8_init 148 = .ok (.istore_n 1, 1) := by decide +kernel
theorem dX8_init_149 : decode cX8_init 149 = .ok (.iload_n 1, 1) := by decide +kernel
theorem dX8_init_150 : decode cX8_init 150 = .ok (.bipush 10, 2) := by decide +kernel
theorem dX8_init_152 : decode cX8_init 152 = .ok (.if_icmp .ge 22, 3) := by decide +kernel
theorem dX8_init_155 : decode cX8_init 155 = .ok (.aload_n 0, 1) := by decide +kernel
theorem dX8_init_156 : decode cX8_init 156 = .ok (.getfield 29, 3) := by decide +kernel
theorem dX8_init_159 : decode cX8_init 159 = .ok (.iload_n 1, 1) := by decide +kernel
theorem dX8_init_160 : decode cX8_init 160 = .ok (.new 27, 3) := by decide +kernel
theorem dX8_init_163 : decode cX8_init 163 = .ok (.dup, 1) := by decide +kernel
theorem dX8_init_164 : decode cX8_init 164 = .ok (.invokespecial 54, 3) := by decide +kernel
theorem dX8_init_167 : decode cX8_init 167 = .ok (.aastore, 1) := by decide +kernel
theorem dX8_init_168 : decode cX8_init 168 = .ok (.iinc 1 1, 3) := by decide +kernel
theorem dX8_init_171 : decode cX8_init 171 = .ok (.goto (-22), 3) := by decide +kernel
theorem dX8_init_174 : decode cX8_init 174 = .ok (.return_, 1) := by decide +kernel
theorem dX8_village_0 : decode cX8_village 0 = .ok (.iload_n 1, 1) := by decide +kernel
theorem dX8_village_1 : decode cX8_village 1 = .ok (.iconst 1, 1) := by decide +kernel
theorem dX8_village_2 : decode cX8_village 2 = .ok (.sipush 2000, 3) := by decide +kernel
theorem dX8_village_5 : decode cX8_village 5 = .ok (.invokestatic 55, 3) := by decide +kernel
theorem dX8_village_8 : decode cX8_village 8 = .ok (.ifCond .eq 38, 3) := by decide +kernel
theorem dX8_village_11 : decode cX8_village 11 = .ok (.iload_n 2, 1) := by decide +kernel
theorem dX8_village_12 : decode cX8_village 12 = .ok (.iconst 0, 1) := by decide +kernel
theorem dX8_village_13 : decode cX8_village 13 = .ok (.sipush 2000, 3) := by decide +kernel
theorem dX8_village_16 : decode cX8_village 16 = .ok (.invokestatic 55, 3) := by decide +kernel
theorem dX8_village_19 : decode cX8_village 19 = .ok (.ifCond .eq 27, 3) := by decide +kernel
theorem dX8_village_22 : decode cX8_village 22 = .ok (.iload_n 3, 1) := by decide +kernel
theorem dX8_village_23 : decode cX8_village 23 = .ok (.iconst 1, 1) := by decide +kernel
theorem dX8_village_24 : decode cX8_village 24 = .ok (.ldc 59, 2) := by decide +kernel
theorem dX8_village_26 : decode cX8_village 26 = .ok (.invokestatic 55, 3) := by decide +kernel
theorem dX8_village_29 : decode cX8_village 29 = .ok (.ifCond .eq 17, 3) := by decide +kernel
theorem dX8_village_32 : decode cX8_village 32 = .ok (.iload 4, 2) := by decide +kernel
theorem dX8_village_34 : decode cX8_village 34 = .ok (.iconst 0, 1) := by decide +kernel
theorem dX8_village_35 : decode cX8_village 35 = .ok (.iload_n 3, 1) := by decide +kernel
theorem dX8_village_36 : decode cX8_village 36 = .ok (.invokestatic 55, 3) := by decide +kernel
theorem dX8_village_39 : decode cX8_village 39 = .ok (.ifCond .eq 7, 3) := by decide +kernel
theorem dX8_village_42 : decode cX8_village 42 = .ok (.iconst 1, 1) := by decide +kernel
theorem dX8_village_43 : decode cX8_village 43 = .ok (.goto 4, 3) := by decide +kernel
theorem dX8_village_46 : decode cX8_village 46 = .ok (.iconst 0, 1) := by decide +kernel
theorem dX8_village_47 : decode cX8_village 47 = .ok (.istore 5, 2) := by decide +kernel
theorem dX8_village_49 : decode cX8_village 49 = .ok (.iload 5, 2) := by decide +kernel
theorem dX8_village_51 : decode cX8_village 51 = .ok (.ifCond .eq 12, 3) := by decide +kernel
theorem dX8_village_54 : decode cX8_village 54 = .ok (.aload_n 0, 1) := by decide +kernel
theorem dX8_village_55 : decode cX8_village 55 = .ok (.getfield 60, 3) := by decide +kernel
theorem dX8_village_58 : decode cX8_village 58 = .ok (.bipush 12, 2) := by decide +kernel
theorem dX8_village_60 : decode cX8_village 60 = .ok (.if_icmp .lt 5, 3) := by decide +kernel
theorem dX8_village_63 : decode cX8_village 63 = .ok (.iconst (-1), 1) := by decide +kernel
theorem dX8_village_64 : decode cX8_village 64 = .ok (.ireturn, 1) := by decide +kernel
theorem dX8_village_65 : decode cX8_village 65 = .ok (.aload_n 0, 1) := by decide +kernel
theorem dX8_village_66 : decode cX8_village 66 = .ok (.getfield 11, 3) := by decide +kernel
theorem dX8_village_69 : decode cX8_village 69 = .ok (.aload_n 0, 1) := by decide +kernel
theorem dX8_village_70 : decode cX8_village 70 = .ok (.getfield 60, 3) := by decide +kernel
theorem dX8_village_73 : decode cX8_village 73 = .ok (.aaload, 1) := by decide +kernel
theorem dX8_village_74 : decode cX8_village 74 = .ok (.astore 6, 2) := by decide +kernel
theorem dX8_village_76 : decode cX8_village 76 = .ok (.aload 6, 2) := by decide +kernel
theorem dX8_village_78 : decode cX8_village 78 = .ok (.iload_n 1, 1) := by decide +kernel
theorem dX8_village_79 : decode cX8_village 79 = .ok (.putfield 64, 3) := by decide +kernel
theorem dX8_village_82 : decode cX8_village 82 = .ok (.aload 6, 2) := by decide +kernel
theorem dX8_village_84 : decode cX8_village 84 = .ok (.iload_n 2, 1) := by decide +kernel
theorem dX8_village_85 : decode cX8_village 85 = .ok (.putfield 67, 3) := by decide +kernel
theorem dX8_village_88 : decode cX8_village 88 = .ok (.aload 6, 2) := by decide +kernel
theorem dX8_village_90 : decode cX8_village 90 = .ok (.iload_n 3, 1) := by decide +kernel
theorem dX8_village_91 : decode cX8_village 91 = .ok (.putfield 70, 3) := by decide +kernel
theorem dX8_village_94 : decode cX8_village 94 = .ok (.aload 6, 2) := by decide +kernel
theorem dX8_village_96 : decode cX8_village 96 = .ok (.iload 4, 2) := by decide +kernel
theorem dX8_village_98 : decode cX8_village 98 = .ok (.putfield 73, 3) := by decide +kernel
theorem dX8_village_101 : decode cX8_village 101 = .ok (.aload_n 0, 1) := by decide +kernel
theorem dX8_village_102 : decode cX8_village 102 = .ok (.dup, 1) := by decide +kernel
theorem dX8_village_103 : decode cX8_village 103 = .ok (.getfield 60, 3) := by decide +kernel
theorem dX8_village_106 : decode cX8_village 106 = .ok (.iconst 1, 1) := by decide +kernel
theorem dX8_village_107 : decode cX8_village 107 = .ok (.iadd, 1) := by decide +kernel
theorem dX8_village_108 : decode cX8_village 108 = .ok (.putfield 60, 3) := by decide +kernel
theorem dX8_village_111 : decode cX8_village 111 = .ok (.aload_n 0, 1) := by decide +kernel
theorem dX8_village_112 : decode cX8_village 112 = .ok (.getfield 60, 3) := by decide +kernel
theorem dX8_village_115 : decode cX8_village 115 = .ok (.iconst 1, 1) := by decide +kernel
theorem dX8_village_116 : decode cX8_village 116 = .ok (.isub, 1) := by decide +kernel
theorem dX8_village_117 : decode cX8_village 117 = .ok (.ireturn, 1) := by decide +kernel
theorem dX8_spring_0 : decode cX8_spring 0 = .ok (.iload_n 1, 1) := by decide +kernel
theorem dX8_spring_1 : decode cX8_spring 1 = .ok (.iconst 0, 1) := by decide +kernel
theorem dX8_spring_2 : decode cX8_spring 2 = .ok (.ldc 59, 2) := by decide +kernel
theorem dX8_spring_4 : decode cX8_spring 4 = .ok (.invokestatic 55, 3) := by decide +kernel
theorem dX8_spring_7 : decode cX8_spring 7 = .ok (.ifCond .eq 27, 3) := by decide +kernel
theorem dX8_spring_10 : decode cX8_spring 10 = .ok (.iload_n 2, 1) := by decide +kernel
theorem dX8_spring_11 : decode cX8_spring 11 = .ok (.iconst 1, 1) := by decide +kernel
theorem dX8_spring_12 : decode cX8_spring 12 = .ok (.ldc 76, 2) := by decide +kernel
theorem dX8_spring_14 : decode cX8_spring 14 = .ok (.invokestatic 55, 3) := by decide +kernel
theorem dX8_spring_17 : decode cX8_spring 17 = .ok (.ifCond .eq 17, 3) := by decide +kernel
theorem dX8_spring_20 : decode cX8_spring 20 = .ok (.iload_n 3, 1) := by decide +kernel
theorem dX8_spring_21 : decode cX8_spring 21 = .ok (.iconst 0, 1) := by decide +kernel
theorem dX8_spring_22 : decode cX8_spring 22 = .ok (.bipush 100, 2) := by decide +kernel
theorem dX8_spring_24 : decode cX8_spring 24 = .ok (.invokestatic 55, 3) := by decide +kernel
theorem dX8_spring_27 : decode cX8_spring 27 = .ok (.ifCond .eq 7, 3) := by decide +kernel
theorem dX8_spring_30 : decode cX8_spring 30 = .ok (.iconst 1, 1) := by decide +kernel
theorem dX8_spring_31 : decode cX8_spring 31 = .ok (.goto 4, 3) := by decide +kernel
theorem dX8_spring_34 : decode cX8_spring 34 = .ok (.iconst 0, 1) := by decide +kernel
theorem dX8_spring_35 : decode cX8_spring 35 = .ok (.istore 4, 2) := by decide +kernel
theorem dX8_spring_37 : decode cX8_spring 37 = .ok (.iload 4, 2) := by decide +kernel
theorem dX8_spring_39 : decode cX8_spring 39 = .ok (.ifCond .eq 11, 3) := by decide +kernel
theorem dX8_spring_42 : decode cX8_spring 42 = .ok (.aload_n 0, 1) := by decide +kernel
theorem dX8_spring_43 : decode cX8_spring 43 = .ok (.getfield 77, 3) := by decide +kernel
theorem dX8_spring_46 : decode cX8_spring 46 = .ok (.iconst 4, 1) := by decide +kernel
theorem dX8_spring_47 : decode cX8_spring 47 = .ok (.if_icmp .lt 5, 3) := by decide +kernel
theorem dX8_spring_50 : decode cX8_spring 50 = .ok (.iconst (-1), 1) := by decide +kernel
theorem dX8_spring_51 : decode cX8_spring 51 = .ok (.ireturn, 1) := by decide +kernel
theorem dX8_spring_52 : decode cX8_spring 52 = .ok (.aload_n 0, 1) := by decide +kernel
theorem dX8_spring_53 : decode cX8_spring 53 = .ok (.getfield 17, 3) := by decide +kernel
theorem dX8_spring_56 : decode cX8_spring 56 = .ok (.aload_n 0, 1) := by decide +kernel
theorem dX8_spring_57 : decode cX8_spring 57 = .ok (.getfield 77, 3) := by decide +kernel
theorem dX8_spring_60 : decode cX8_spring 60 = .ok (.aaload, 1) := by decide +kernel
theorem dX8_spring_61 : decode cX8_spring 61 = .ok (.astore 5, 2) := by decide +kernel
theorem dX8_spring_63 : decode cX8_spring 63 = .ok (.aload 5, 2) := by decide +kernel
theorem dX8_spring_65 : decode cX8_spring 65 = .ok (.iload_n 1, 1) := by decide +kernel
theorem dX8_spring_66 : decode cX8_spring 66 = .ok (.putfield 80, 3) := by decide +kernel
theorem dX8_spring_69 : decode cX8_spring 69 = .ok (.aload 5, 2) := by decide +kernel
theorem dX8_spring_71 : decode cX8_spring 71 = .ok (.iload_n 2, 1) := by decide +kernel
theorem dX8_spring_72 : decode cX8_spring 72 = .ok (.putfield 83, 3) := by decide +kernel
theorem dX8_spring_75 : decode cX8_spring 75 = .ok (.aload 5, 2) := by decide +kernel
theorem dX8_spring_77 : decode cX8_spring 77 = .ok (.iload_n 2, 1) := by decide +kernel
theorem dX8_spring_78 : decode cX8_spring 78 = .ok (.putfield 86, 3) := by decide +kernel
theorem dX8_spring_81 : decode cX8_spring 81 = .ok (.aload 5, 2) := by decide +kernel
theorem dX8_spring_83 : decode cX8_spring 83 = .ok (.iload_n 3, 1) := by decide +kernel
theorem dX8_spring_84 : decode cX8_spring 84 = .ok (.putfield 87, 3) := by decide +kernel
theorem dX8_spring_87 : decode cX8_spring 87 = .ok (.aload_n 0, 1) := by decide +kernel
theorem dX8_spring_88 : decode cX8_spring 88 = .ok (.dup, 1) := by decide +kernel
theorem dX8_spring_89 : decode cX8_spring 89 = .ok (.getfield 77, 3) := by decide +kernel
theorem dX8_spring_92 : decode cX8_spring 92 = .ok (.iconst 1, 1) := by decide +kernel
theorem dX8_spring_93 : decode cX8_spring 93 = .ok (.iadd, 1) := by decide +kernel
theorem dX8_spring_94 : decode cX8_spring 94 = .ok (.putfield 77, 3) := by decide +kernel
theorem dX8_spring_97 : decode cX8_spring 97 = .ok (.aload_n 0, 1) := by decide +kernel
theorem dX8_spring_98 : decode cX8_spring 98 = .ok (.getfield 77, 3) := by decide +kernel
theorem dX8_spring_101 : decode cX8_spring 101 = .ok (.iconst 1, 1) := by decide +kernel
theorem dX8_spring_102 : decode cX8_spring 102 = .ok (.isub, 1) := by decide +kernel
theorem dX8_spring_103 : decode cX8_spring 103 = .ok (.ireturn, 1) := by decide +kernel
theorem dX8_tanker_0 : decode cX8_tanker 0 = .ok (.aload_n 0, 1) := by decide +kernel
theorem dX8_tanker_1 : decode cX8_tanker 1 = .ok (.iload_n 1, 1) := by decide +kernel
theorem dX8_tanker_2 : decode cX8_tanker 2 = .ok (.invokevirtual 90, 3) := by decide +kernel
theorem dX8_tanker_5 : decode cX8_tanker 5 = .ok (.ifCond .eq 29, 3) := by decide +kernel
theorem dX8_tanker_8 : decode cX8_tanker 8 = .ok (.iload_n 2, 1) := by decide +kernel
theorem dX8_tanker_9 : decode cX8_tanker 9 = .ok (.iconst 1, 1) := by decide +kernel
theorem dX8_tanker_10 : decode cX8_tanker 10 = .ok (.sipush 20000, 3) := by decide +kernel
theorem dX8_tanker_13 : decode cX8_tanker 13 = .ok (.invokestatic 55, 3) := by decide +kernel
theorem dX8_tanker_16 : decode cX8_tanker 16 = .ok (.ifCond .eq 18, 3) := by decide +kernel
theorem dX8_tanker_19 : decode cX8_tanker 19 = .ok (.iload_n 3, 1) := by decide +kernel
theorem dX8_tanker_20 : decode cX8_tanker 20 = .ok (.iconst 0, 1) := by decide +kernel
theorem dX8_tanker_21 : decode cX8_tanker 21 = .ok (.sipush 999, 3) := by decide +kernel
theorem dX8_tanker_24 : decode cX8_tanker 24 = .ok (.invokestatic 55, 3) := by decide +kernel
theorem dX8_tanker_27 : decode cX8_tanker 27 = .ok (.ifCond .eq 7, 3) := by decide +kernel
theorem dX8_tanker_30 : decode cX8_tanker 30 = .ok (.iconst 1, 1) := by decide +kernel
theorem dX8_tanker_31 : decode cX8_tanker 31 = .ok (.goto 4, 3) := by decide +kernel
theorem dX8_tanker_34 : decode cX8_tanker 34 = .ok (.iconst 0, 1) := by decide +kernel
theorem dX8_tanker_35 : decode cX8_tanker 35 = .ok (.istore 4, 2) := by decide +kernel
theorem dX8_tanker_37 : decode cX8_tanker 37 = .ok (.iload 4, 2) := by decide +kernel
theorem dX8_tanker_39 : decode cX8_tanker 39 = .ok (.ifCond .eq 11, 3) := by decide +kernel
theorem dX8_tanker_42 : decode cX8_tanker 42 = .ok (.aload_n 0, 1) := by decide +kernel
theorem dX8_tanker_43 : decode cX8_tanker 43 = .ok (.getfield 94, 3) := by decide +kernel
theorem dX8_tanker_46 : decode cX8_tanker 46 = .ok (.iconst 4, 1) := by decide +kernel
theorem dX8_tanker_47 : decode cX8_tanker 47 = .ok (.if_icmp .lt 5, 3) := by decide +kernel
theorem dX8_tanker_50 : decode cX8_tanker 50 = .ok (.iconst (-1), 1) := by decide +kernel
theorem dX8_tanker_51 : decode cX8_tanker 51 = .ok (.ireturn, 1) := by decide +kernel
theorem dX8_tanker_52 : decode cX8_tanker 52 = .ok (.aload_n 0, 1) := by decide +kernel
theorem dX8_tanker_53 : decode cX8_tanker 53 = .ok (.getfield 23, 3) := by decide +kernel
theorem dX8_tanker_56 : decode cX8_tanker 56 = .ok (.aload_n 0, 1) := by decide +kernel
theorem dX8_tanker_57 : decode cX8_tanker 57 = .ok (.getfield 94, 3) := by decide +kernel
theorem dX8_tanker_60 : decode cX8_tanker 60 = .ok (.aaload, 1) := by decide +kernel
theorem dX8_tanker_61 : decode cX8_tanker 61 = .ok (.astore 5, 2) := by decide +kernel
theorem dX8_tanker_63 : decode cX8_tanker 63 = .ok (.aload 5, 2) := by decide +kernel
theorem dX8_tanker_65 : decode cX8_tanker 65 = .ok (.iload_n 1, 1) := by decide +kernel
theorem dX8_tanker_66 : decode cX8_tanker 66 = .ok (.putfield 97, 3) := by decide +kernel
theorem dX8_tanker_69 : decode cX8_tanker 69 = .ok (.aload 5, 2) := by decide +kernel
theorem dX8_tanker_71 : decode cX8_tanker 71 = .ok (.iload_n 2, 1) := by decide +kernel
theorem dX8_tanker_72 : decode cX8_tanker 72 = .ok (.putfield 100, 3) := by decide +kernel
theorem dX8_tanker_75 : decode cX8_tanker 75 = .ok (.aload 5, 2) := by decide +kernel
theorem dX8_tanker_77 : decode cX8_tanker 77 = .ok (.iload_n 3, 1) := by decide +kernel
theorem dX8_tanker_78 : decode cX8_tanker 78 = .ok (.putfield 103, 3) := by decide +kernel
theorem dX8_tanker_81 : decode cX8_tanker 81 = .ok (.aload_n 0, 1) := by decide +kernel
theorem dX8_tanker_82 : decode cX8_tanker 82 = .ok (.dup, 1) := by decide +kernel
theorem dX8_tanker_83 : decode cX8_tanker 83 = .ok (.getfield 94, 3) := by decide +kernel
theorem dX8_tanker_86 : decode cX8_tanker 86 = .ok (.iconst 1, 1) := by decide +kernel
theorem dX8_tanker_87 : decode cX8_tanker 87 = .ok (.iadd, 1) := by decide +kernel
theorem dX8_tanker_88 : decode cX8_tanker 88 = .ok (.putfield 94, 3) := by decide +kernel
theorem dX8_tanker_91 : decode cX8_tanker 91 = .ok (.aload_n 0, 1) := by decide +kernel
theorem dX8_tanker_92 : decode cX8_tanker 92 = .ok (.getfield 94, 3) := by decide +kernel
theorem dX8_tanker_95 : decode cX8_tanker 95 = .ok (.iconst 1, 1) := by decide +kernel
theorem dX8_tanker_96 : decode cX8_tanker 96 = .ok (.isub, 1) := by decide +kernel
theorem dX8_tanker_97 : decode cX8_tanker 97 = .ok (.ireturn, 1) := by decide +kernel
theorem dX8_way_0 : decode cX8_way 0 = .ok (.aload_n 0, 1) := by decide +kernel
theorem dX8_way_1 : decode cX8_way 1 = .ok (.iload_n 1, 1) := by decide +kernel
theorem dX8_way_2 : decode cX8_way 2 = .ok (.invokevirtual 90, 3) := by decide +kernel
theorem dX8_way_5 : decode cX8_way 5 = .ok (.ifCond .eq 22, 3) := by decide +kernel
theorem dX8_way_8 : decode cX8_way 8 = .ok (.aload_n 0, 1) := by decide +kernel
theorem dX8_way_9 : decode cX8_way 9 = .ok (.iload_n 2, 1) := by decide +kernel
theorem dX8_way_10 : decode cX8_way 10 = .ok (.invokevirtual 106, 3) := by decide +kernel
theorem dX8_way_13 : decode cX8_way 13 = .ok (.ifCond .eq 14, 3) := by decide +kernel
theorem dX8_way_16 : decode cX8_way 16 = .ok (.iload_n 3, 1) := by decide +kernel
theorem dX8_way_17 : decode cX8_way 17 = .ok (.iconst 1, 1) := by decide +kernel
theorem dX8_way_18 : decode cX8_way 18 = .ok (.sipush 200, 3) := by decide +kernel
theorem dX8_way_21 : decode cX8_way 21 = .ok (.invokestatic 55, 3) := by decide +kernel
theorem dX8_way_24 : decode cX8_way 24 = .ok (.ifCond .ne 5, 3) := by decide +kernel
theorem dX8_way_27 : decode cX8_way 27 = .ok (.iconst 0, 1) := by decide +kernel
theorem dX8_way_28 : decode cX8_way 28 = .ok (.ireturn, 1) := by decide +kernel
theorem dX8_way_29 : decode cX8_way 29 = .ok (.aload_n 0, 1) := by decide +kernel
theorem dX8_way_30 : decode cX8_way 30 = .ok (.getfield 17, 3) := by decide +kernel
theorem dX8_way_33 : decode cX8_way 33 = .ok (.iload_n 1, 1) := by decide +kernel
theorem dX8_way_34 : decode cX8_way 34 = .ok (.aaload, 1) := by decide +kernel
theorem dX8_way_35 : decode cX8_way 35 = .ok (.getfield 109, 3) := by decide +kernel
theorem dX8_way_38 : decode cX8_way 38 = .ok (.iload_n 2, 1) := by decide +kernel
theorem dX8_way_39 : decode cX8_way 39 = .ok (.iload_n 3, 1) := by decide +kernel
theorem dX8_way_40 : decode cX8_way 40 = .ok (.iastore, 1) := by decide +kernel
theorem dX8_way_41 : decode cX8_way 41 = .ok (.iconst 1, 1) := by decide +kernel
theorem dX8_way_42 : decode cX8_way 42 = .ok (.ireturn, 1) := by decide +kernel
theorem dX8_feed_0 : decode cX8_feed 0 = .ok (.aload_n 0, 1) := by decide +kernel
theorem dX8_feed_1 : decode cX8_feed 1 = .ok (.getfield 40, 3) := by decide +kernel
theorem dX8_feed_4 : decode cX8_feed 4 = .ok (.getfield 112, 3) := by decide +kernel
theorem dX8_feed_7 : decode cX8_feed 7 = .ok (.lload_n 1, 1) := by decide +kernel
theorem dX8_feed_8 : decode cX8_feed 8 = .ok (.invokevirtual 116, 3) := by decide +kernel
theorem dX8_feed_11 : decode cX8_feed 11 = .ok (.aload_n 0, 1) := by decide +kernel
theorem dX8_feed_12 : decode cX8_feed 12 = .ok (.getfield 40, 3) := by decide +kernel
theorem dX8_feed_15 : decode cX8_feed 15 = .ok (.getfield 112, 3) := by decide +kernel
theorem dX8_feed_18 : decode cX8_feed 18 = .ok (.lload_n 3, 1) := by decide +kernel
theorem dX8_feed_19 : decode cX8_feed 19 = .ok (.invokevirtual 116, 3) := by decide +kernel
theorem dX8_feed_22 : decode cX8_feed 22 = .ok (.aload_n 0, 1) := by decide +kernel
theorem dX8_feed_23 : decode cX8_feed 23 = .ok (.getfield 40, 3) := by decide +kernel
theorem dX8_feed_26 : decode cX8_feed 26 = .ok (.getfield 112, 3) := by decide +kernel
theorem dX8_feed_29 : decode cX8_feed 29 = .ok (.lload 5, 2) := by decide +kernel
theorem dX8_feed_31 : decode cX8_feed 31 = .ok (.invokevirtual 116, 3) := by decide +kernel
theorem dX8_feed_34 : decode cX8_feed 34 = .ok (.aload_n 0, 1) := by decide +kernel
theorem dX8_feed_35 : decode cX8_feed 35 = .ok (.getfield 40, 3) := by decide +kernel
theorem dX8_feed_38 : decode cX8_feed 38 = .ok (.getfield 112, 3) := by decide +kernel
theorem dX8_feed_41 : decode cX8_feed 41 = .ok (.getfield 122, 3) := by decide +kernel
theorem dX8_feed_44 : decode cX8_feed 44 = .ok (.ireturn, 1) := by decide +kernel
theorem dX8_text_0 : decode cX8_text 0 = .ok (.aload_n 0, 1) := by decide +kernel
theorem dX8_text_1 : decode cX8_text 1 = .ok (.getfield 40, 3) := by decide +kernel
theorem dX8_text_4 : decode cX8_text 4 = .ok (.invokevirtual 125, 3) := by decide +kernel
theorem dX8_text_7 : decode cX8_text 7 = .ok (.ireturn, 1) := by decide +kernel
theorem dX8_want_0 : decode cX8_want 0 = .ok (.aload_n 0, 1) := by decide +kernel
theorem dX8_want_1 : decode cX8_want 1 = .ok (.iload_n 1, 1) := by decide +kernel
theorem dX8_want_2 : decode cX8_want 2 = .ok (.invokevirtual 106, 3) := by decide +kernel
theorem dX8_want_5 : decode cX8_want 5 = .ok (.ifCond .eq 16, 3) := by decide +kernel
theorem dX8_want_8 : decode cX8_want 8 = .ok (.aload_n 0, 1) := by decide +kernel
theorem dX8_want_9 : decode cX8_want 9 = .ok (.aload_n 0, 1) := by decide +kernel
theorem dX8_want_10 : decode cX8_want 10 = .ok (.getfield 11, 3) := by decide +kernel
theorem dX8_want_13 : decode cX8_want 13 = .ok (.iload_n 1, 1) := by decide +kernel
theorem dX8_want_14 : decode cX8_want 14 = .ok (.aaload, 1) := by decide +kernel
theorem dX8_want_15 : decode cX8_want 15 = .ok (.invokevirtual 129, 3) := by decide +kernel
theorem dX8_want_18 : decode cX8_want 18 = .ok (.goto 4, 3) := by decide +kernel
theorem dX8_want_21 : decode cX8_want 21 = .ok (.iconst (-1), 1) := by decide +kernel
theorem dX8_want_22 : decode cX8_want 22 = .ok (.ireturn, 1) := by decide +kernel
theorem dX8_plan_0 : decode cX8_plan 0 = .ok (.iload_n 1, 1) := by decide +kernel
theorem dX8_plan_1 : decode cX8_plan 1 = .ok (.iconst 0, 1) := by decide +kernel
theorem dX8_plan_2 : decode cX8_plan 2 = .ok (.iconst 2, 1) := by decide +kernel
theorem dX8_plan_3 : decode cX8_plan 3 = .ok (.invokestatic 55, 3) := by decide +kernel
theorem dX8_plan_6 : decode cX8_plan 6 = .ok (.ifCond .ne 5, 3) := by decide +kernel
theorem dX8_plan_9 : decode cX8_plan 9 = .ok (.iconst (-1), 1) := by decide +kernel
theorem dX8_plan_10 : decode cX8_plan 10 = .ok (.ireturn, 1) := by decide +kernel
theorem dX8_plan_11 : decode cX8_plan 11 = .ok (.aload_n 0, 1) := by decide +kernel
theorem dX8_plan_12 : decode cX8_plan 12 = .ok (.invokevirtual 133, 3) := by decide +kernel
theorem dX8_plan_15 : decode cX8_plan 15 = .ok (.iload_n 1, 1) := by decide +kernel
theorem dX8_plan_16 : decode cX8_plan 16 = .ok (.ifCond .ne 11, 3) := by decide +kernel
theorem dX8_plan_19 : decode cX8_plan 19 = .ok (.aload_n 0, 1) := by decide +kernel
theorem dX8_plan_20 : decode cX8_plan 20 = .ok (.getfield 47, 3) := by decide +kernel
theorem dX8_plan_23 : decode cX8_plan 23 = .ok (.getfield 136, 3) := by decide +kernel
theorem dX8_plan_26 : decode cX8_plan 26 = .ok (.ireturn, 1) := by decide +kernel
theorem dX8_plan_27 : decode cX8_plan 27 = .ok (.iload_n 1, 1) := by decide +kernel
theorem dX8_plan_28 : decode cX8_plan 28 = .ok (.iconst 1, 1) := by decide +kernel
theorem dX8_plan_29 : decode cX8_plan 29 = .ok (.if_icmp .ne 13, 3) := by decide +kernel
theorem dX8_plan_32 : decode cX8_plan 32 = .ok (.aload_n 0, 1) := by decide +kernel
theorem dX8_plan_33 : decode cX8_plan 33 = .ok (.getfield 47, 3) := by decide +kernel
theorem dX8_plan_36 : decode cX8_plan 36 = .ok (.getfield 139, 3) := by decide +kernel
theorem dX8_plan_39 : decode cX8_plan 39 = .ok (.goto 10, 3) := by decide +kernel
theorem dX8_plan_42 : decode cX8_plan 42 = .ok (.aload_n 0, 1) := by decide +kernel
theorem dX8_plan_43 : decode cX8_plan 43 = .ok (.getfield 47, 3) := by decide +kernel
theorem dX8_plan_46 : decode cX8_plan 46 = .ok (.getfield 142, 3) := by decide +kernel
theorem dX8_plan_49 : decode cX8_plan 49 = .ok (.ireturn, 1) := by decide +kernel
theorem dX8_planned_0 : decode cX8_planned 0 = .ok (.aload_n 0, 1) := by decide +kernel
theorem dX8_planned_1 : decode cX8_planned 1 = .ok (.iload_n 1, 1) := by decide +kernel
theorem dX8_planned_2 : decode cX8_planned 2 = .ok (.invokevirtual 106, 3) := by decide +kernel
theorem dX8_planned_5 : decode cX8_planned 5 = .ok (.ifCond .ne 5, 3) := by decide +kernel
theorem dX8_planned_8 : decode cX8_planned 8 = .ok (.iconst (-1), 1) := by decide +kernel
theorem dX8_planned_9 : decode cX8_planned 9 = .ok (.ireturn, 1) := by decide +kernel
theorem dX8_planned_10 : decode cX8_planned 10 = .ok (.aload_n 0, 1) := by decide +kernel
theorem dX8_planned_11 : decode cX8_planned 11 = .ok (.invokevirtual 133, 3) := by decide +kernel
theorem dX8_planned_14 : decode cX8_planned 14 = .ok (.iconst 0, 1) := by decide +kernel
theorem dX8_planned_15 : decode cX8_planned 15 = .ok (.istore_n 2, 1) := by decide +kernel
theorem dX8_planned_16 : decode cX8_planned 16 = .ok (.iload_n 2, 1) := by decide +kernel
theorem dX8_planned_17 : decode cX8_planned 17 = .ok (.aload_n 0, 1) := by decide +kernel
theorem dX8_planned_18 : decode cX8_planned 18 = .ok (.getfield 47, 3) := by decide +kernel
theorem dX8_planned_21 : decode cX8_planned 21 = .ok (.getfield 145, 3) := by decide +kernel
theorem dX8_planned_24 : decode cX8_planned 24 = .ok (.if_icmp .ge 32, 3) := by decide +kernel
theorem dX8_planned_27 : decode cX8_planned 27 = .ok (.aload_n 0, 1) := by decide +kernel
theorem dX8_planned_28 : decode cX8_planned 28 = .ok (.getfield 47, 3) := by decide +kernel
theorem dX8_planned_31 : decode cX8_planned 31 = .ok (.getfield 148, 3) := by decide +kernel
theorem dX8_planned_34 : decode cX8_planned 34 = .ok (.iload_n 2, 1) := by decide +kernel
theorem dX8_planned_35 : decode cX8_planned 35 = .ok (.iaload, 1) := by decide +kernel
theorem dX8_planned_36 : decode cX8_planned 36 = .ok (.iload_n 1, 1) := by decide +kernel
theorem dX8_planned_37 : decode cX8_planned 37 = .ok (.if_icmp .ne 13, 3) := by decide +kernel
theorem dX8_planned_40 : decode cX8_planned 40 = .ok (.aload_n 0, 1) := by decide +kernel
theorem dX8_planned_41 : decode cX8_planned 41 = .ok (.getfield 47, 3) := by decide +kernel
theorem dX8_planned_44 : decode cX8_planned 44 = .ok (.getfield 151, 3) := by decide +kernel
theorem dX8_planned_47 : decode cX8_planned 47 = .ok (.iload_n 2, 1) := by decide +kernel
theorem dX8_planned_48 : decode cX8_planned 48 = .ok (.iaload, 1) := by decide +kernel
theorem dX8_planned_49 : decode cX8_planned 49 = .ok (.ireturn, 1) := by decide +kernel
theorem dX8_planned_50 : decode cX8_planned 50 = .ok (.iinc 2 1, 3) := by decide +kernel
theorem dX8_planned_53 : decode cX8_planned 53 = .ok (.goto (-37), 3) := by decide +kernel
theorem dX8_planned_56 : decode cX8_planned 56 = .ok (.iconst (-1), 1) := by decide +kernel
theorem dX8_planned_57 : decode cX8_planned 57 = .ok (.ireturn, 1) := by decide +kernel
theorem dX8_days_0 : decode cX8_days 0 = .ok (.iload_n 1, 1) := by decide +kernel
theorem dX8_days_1 : decode cX8_days 1 = .ok (.iconst 0, 1) := by decide +kernel
theorem dX8_days_2 : decode cX8_days 2 = .ok (.bipush 30, 2) := by decide +kernel
theorem dX8_days_4 : decode cX8_days 4 = .ok (.invokestatic 55, 3) := by decide +kernel
theorem dX8_days_7 : decode cX8_days 7 = .ok (.ifCond .eq 15, 3) := by decide +kernel
theorem dX8_days_10 : decode cX8_days 10 = .ok (.iload_n 1, 1) := by decide +kernel
theorem dX8_days_11 : decode cX8_days 11 = .ok (.sipush 399, 3) := by decide +kernel
theorem dX8_days_14 : decode cX8_days 14 = .ok (.aload_n 0, 1) := by decide +kernel
theorem dX8_days_15 : decode cX8_days 15 = .ok (.getfield 154, 3) := by decide +kernel
theorem dX8_days_18 : decode cX8_days 18 = .ok (.isub, 1) := by decide +kernel
theorem dX8_days_19 : decode cX8_days 19 = .ok (.if_icmp .le 5, 3) := by decide +kernel
theorem dX8_days_22 : decode cX8_days 22 = .ok (.iconst (-1), 1) := by decide +kernel
theorem dX8_days_23 : decode cX8_days 23 = .ok (.ireturn, 1) := by decide +kernel
theorem dX8_days_24 : decode cX8_days 24 = .ok (.iconst 0, 1) := by decide +kernel
theorem dX8_days_25 : decode cX8_days 25 = .ok (.istore_n 2, 1) := by decide +kernel
theorem dX8_days_26 : decode cX8_days 26 = .ok (.iload_n 2, 1) := by decide +kernel
theorem dX8_days_27 : decode cX8_days 27 = .ok (.iload_n 1, 1) := by decide +kernel
theorem dX8_days_28 : decode cX8_days 28 = .ok (.if_icmp .ge 13, 3) := by decide +kernel
theorem dX8_days_31 : decode cX8_days 31 = .ok (.aload_n 0, 1) := by decide +kernel
theorem dX8_days_32 : decode cX8_days 32 = .ok (.invokevirtual 157, 3) := by decide +kernel
theorem dX8_days_35 : decode cX8_days 35 = .ok (.iinc 2 1, 3) := by decide +kernel
theorem dX8_days_38 : decode cX8_days 38 = .ok (.goto (-12), 3) := by decide +kernel
theorem dX8_days_41 : decode cX8_days 41 = .ok (.aload_n 0, 1) := by decide +kernel
theorem dX8_days_42 : decode cX8_days 42 = .ok (.getfield 154, 3) := by decide +kernel
theorem dX8_days_45 : decode cX8_days 45 = .ok (.ireturn, 1) := by decide +kernel
theorem dX8_foretold_0 : decode cX8_foretold 0 = .ok (.aload_n 0, 1) := by decide +kernel
theorem dX8_foretold_1 : decode cX8_foretold 1 = .ok (.iload_n 1, 1) := by decide +kernel
theorem dX8_foretold_2 : decode cX8_foretold 2 = .ok (.invokevirtual 106, 3) := by decide +kernel
theorem dX8_foretold_5 : decode cX8_foretold 5 = .ok (.ifCond .ne 5, 3) := by decide +kernel
theorem dX8_foretold_8 : decode cX8_foretold 8 = .ok (.iconst (-1), 1) := by decide +kernel
theorem dX8_foretold_9 : decode cX8_foretold 9 = .ok (.ireturn, 1) := by decide +kernel
theorem dX8_foretold_10 : decode cX8_foretold 10 = .ok (.aload_n 0, 1) := by decide +kernel
theorem dX8_foretold_11 : decode cX8_foretold 11 = .ok (.getfield 11, 3) := by decide +kernel
theorem dX8_foretold_14 : decode cX8_foretold 14 = .ok (.iload_n 1, 1) := by decide +kernel
theorem dX8_foretold_15 : decode cX8_foretold 15 = .ok (.aaload, 1) := by decide +kernel
theorem dX8_foretold_16 : decode cX8_foretold 16 = .ok (.astore_n 2, 1) := by decide +kernel
theorem dX8_foretold_17 : decode cX8_foretold 17 = .ok (.aload_n 0, 1) := by decide +kernel
theorem dX8_foretold_18 : decode cX8_foretold 18 = .ok (.aload_n 2, 1) := by decide +kernel
theorem dX8_foretold_19 : decode cX8_foretold 19 = .ok (.invokevirtual 129, 3) := by decide +kernel
theorem dX8_foretold_22 : decode cX8_foretold 22 = .ok (.istore_n 3, 1) := by decide +kernel
theorem dX8_foretold_23 : decode cX8_foretold 23 = .ok (.aload_n 2, 1) := by decide +kernel
theorem dX8_foretold_24 : decode cX8_foretold 24 = .ok (.getfield 73, 3) := by decide +kernel
theorem dX8_foretold_27 : decode cX8_foretold 27 = .ok (.istore 4, 2) := by decide +kernel
theorem dX8_foretold_29 : decode cX8_foretold 29 = .ok (.iconst 1, 1) := by decide +kernel
theorem dX8_foretold_30 : decode cX8_foretold 30 = .ok (.istore 5, 2) := by decide +kernel
theorem dX8_foretold_32 : decode cX8_foretold 32 = .ok (.iload 5, 2) := by decide +kernel
theorem dX8_foretold_34 : decode cX8_foretold 34 = .ok (.bipush 60, 2) := by decide +kernel
theorem dX8_foretold_36 : decode cX8_foretold 36 = .ok (.if_icmp .gt 45, 3) := by decide +kernel
theorem dX8_foretold_39 : decode cX8_foretold 39 = .ok (.iload 4, 2) := by decide +kernel
theorem dX8_foretold_41 : decode cX8_foretold 41 = .ok (.aload_n 2, 1) := by decide +kernel
theorem dX8_foretold_42 : decode cX8_foretold 42 = .ok (.getfield 160, 3) := by decide +kernel
theorem dX8_foretold_45 : decode cX8_foretold 45 = .ok (.iadd, 1) := by decide +kernel
theorem dX8_foretold_46 : decode cX8_foretold 46 = .ok (.aload_n 2, 1) := by decide +kernel
theorem dX8_foretold_47 : decode cX8_foretold 47 = .ok (.getfield 70, 3) := by decide +kernel
theorem dX8_foretold_50 : decode cX8_foretold 50 = .ok (.invokestatic 163, 3) := by decide +kernel
theorem dX8_foretold_53 : decode cX8_foretold 53 = .ok (.istore 4, 2) := by decide +kernel
theorem dX8_foretold_55 : decode cX8_foretold 55 = .ok (.iload 4, 2) := by decide +kernel
theorem dX8_foretold_57 : decode cX8_foretold 57 = .ok (.iload_n 3, 1) := by decide +kernel
theorem dX8_foretold_58 : decode cX8_foretold 58 = .ok (.if_icmp .ge 11, 3) := by decide +kernel
theorem dX8_foretold_61 : decode cX8_foretold 61 = .ok (.aload_n 0, 1) := by decide +kernel
theorem dX8_foretold_62 : decode cX8_foretold 62 = .ok (.getfield 154, 3) := by decide +kernel
theorem dX8_foretold_65 : decode cX8_foretold 65 = .ok (.iload 5, 2) := by decide +kernel
theorem dX8_foretold_67 : decode cX8_foretold 67 = .ok (.iadd, 1) := by decide +kernel
theorem dX8_foretold_68 : decode cX8_foretold 68 = .ok (.ireturn, 1) := by decide +kernel
theorem dX8_foretold_69 : decode cX8_foretold 69 = .ok (.iload 4, 2) := by decide +kernel
theorem dX8_foretold_71 : decode cX8_foretold 71 = .ok (.iload_n 3, 1) := by decide +kernel
theorem dX8_foretold_72 : decode cX8_foretold 72 = .ok (.isub, 1) := by decide +kernel
theorem dX8_foretold_73 : decode cX8_foretold 73 = .ok (.istore 4, 2) := by decide +kernel
theorem dX8_foretold_75 : decode cX8_foretold 75 = .ok (.iinc 5 1, 3) := by decide +kernel
theorem dX8_foretold_78 : decode cX8_foretold 78 = .ok (.goto (-46), 3) := by decide +kernel
theorem dX8_foretold_81 : decode cX8_foretold 81 = .ok (.iconst (-1), 1) := by decide +kernel
theorem dX8_foretold_82 : decode cX8_foretold 82 = .ok (.ireturn, 1) := by decide +kernel
theorem dX8_bore_0 : decode cX8_bore 0 = .ok (.aload_n 0, 1) := by decide +kernel
theorem dX8_bore_1 : decode cX8_bore 1 = .ok (.iload_n 1, 1) := by decide +kernel
theorem dX8_bore_2 : decode cX8_bore 2 = .ok (.invokevirtual 106, 3) := by decide +kernel
theorem dX8_bore_5 : decode cX8_bore 5 = .ok (.ifCond .eq 29, 3) := by decide +kernel
theorem dX8_bore_8 : decode cX8_bore 8 = .ok (.iload_n 2, 1) := by decide +kernel
theorem dX8_bore_9 : decode cX8_bore 9 = .ok (.iconst 1, 1) := by decide +kernel
theorem dX8_bore_10 : decode cX8_bore 10 = .ok (.sipush 1000, 3) := by decide +kernel
theorem dX8_bore_13 : decode cX8_bore 13 = .ok (.invokestatic 55, 3) := by decide +kernel
theorem dX8_bore_16 : decode cX8_bore 16 = .ok (.ifCond .eq 18, 3) := by decide +kernel
theorem dX8_bore_19 : decode cX8_bore 19 = .ok (.iload_n 3, 1) := by decide +kernel
theorem dX8_bore_20 : decode cX8_bore 20 = .ok (.iconst 1, 1) := by decide +kernel
theorem dX8_bore_21 : decode cX8_bore 21 = .ok (.sipush 1000, 3) := by decide +kernel
theorem dX8_bore_24 : decode cX8_bore 24 = .ok (.invokestatic 55, 3) := by decide +kernel
theorem dX8_bore_27 : decode cX8_bore 27 = .ok (.ifCond .eq 7, 3) := by decide +kernel
theorem dX8_bore_30 : decode cX8_bore 30 = .ok (.iconst 1, 1) := by decide +kernel
theorem dX8_bore_31 : decode cX8_bore 31 = .ok (.goto 4, 3) := by decide +kernel
theorem dX8_bore_34 : decode cX8_bore 34 = .ok (.iconst 0, 1) := by decide +kernel
theorem dX8_bore_35 : decode cX8_bore 35 = .ok (.istore 4, 2) := by decide +kernel
theorem dX8_bore_37 : decode cX8_bore 37 = .ok (.iload 4, 2) := by decide +kernel
theorem dX8_bore_39 : decode cX8_bore 39 = .ok (.ifCond .eq 12, 3) := by decide +kernel
theorem dX8_bore_42 : decode cX8_bore 42 = .ok (.aload_n 0, 1) := by decide +kernel
theorem dX8_bore_43 : decode cX8_bore 43 = .ok (.getfield 169, 3) := by decide +kernel
theorem dX8_bore_46 : decode cX8_bore 46 = .ok (.bipush 10, 2) := by decide +kernel
theorem dX8_bore_48 : decode cX8_bore 48 = .ok (.if_icmp .lt 5, 3) := by decide +kernel
theorem dX8_bore_51 : decode cX8_bore 51 = .ok (.iconst (-1), 1) := by decide +kernel
theorem dX8_bore_52 : decode cX8_bore 52 = .ok (.ireturn, 1) := by decide +kernel
theorem dX8_bore_53 : decode cX8_bore 53 = .ok (.aload_n 0, 1) := by decide +kernel
theorem dX8_bore_54 : decode cX8_bore 54 = .ok (.getfield 29, 3) := by decide +kernel
theorem dX8_bore_57 : decode cX8_bore 57 = .ok (.aload_n 0, 1) := by decide +kernel
theorem dX8_bore_58 : decode cX8_bore 58 = .ok (.getfield 169, 3) := by decide +kernel
theorem dX8_bore_61 : decode cX8_bore 61 = .ok (.aaload, 1) := by decide +kernel
theorem dX8_bore_62 : decode cX8_bore 62 = .ok (.astore 5, 2) := by decide +kernel
theorem dX8_bore_64 : decode cX8_bore 64 = .ok (.aload 5, 2) := by decide +kernel
theorem dX8_bore_66 : decode cX8_bore 66 = .ok (.iload_n 1, 1) := by decide +kernel
theorem dX8_bore_67 : decode cX8_bore 67 = .ok (.putfield 172, 3) := by decide +kernel
theorem dX8_bore_70 : decode cX8_bore 70 = .ok (.aload 5, 2) := by decide +kernel
theorem dX8_bore_72 : decode cX8_bore 72 = .ok (.iload_n 3, 1) := by decide +kernel
theorem dX8_bore_73 : decode cX8_bore 73 = .ok (.putfield 175, 3) := by decide +kernel
theorem dX8_bore_76 : decode cX8_bore 76 = .ok (.aload 5, 2) := by decide +kernel
theorem dX8_bore_78 : decode cX8_bore 78 = .ok (.iload_n 2, 1) := by decide +kernel
theorem dX8_bore_79 : decode cX8_bore 79 = .ok (.aload_n 0, 1) := by decide +kernel
theorem dX8_bore_80 : decode cX8_bore 80 = .ok (.getfield 11, 3) := by decide +kernel
theorem dX8_bore_83 : decode cX8_bore 83 = .ok (.iload_n 1, 1) := by decide +kernel
theorem dX8_bore_84 : decode cX8_bore 84 = .ok (.aaload, 1) := by decide +kernel
theorem dX8_bore_85 : decode cX8_bore 85 = .ok (.getfield 64, 3) := by decide +kernel
theorem dX8_bore_88 : decode cX8_bore 88 = .ok (.imul, 1) := by decide +kernel
theorem dX8_bore_89 : decode cX8_bore 89 = .ok (.putfield 178, 3) := by decide +kernel
theorem dX8_bore_92 : decode cX8_bore 92 = .ok (.aload_n 0, 1) := by decide +kernel
theorem dX8_bore_93 : decode cX8_bore 93 = .ok (.dup, 1) := by decide +kernel
theorem dX8_bore_94 : decode cX8_bore 94 = .ok (.getfield 169, 3) := by decide +kernel
theorem dX8_bore_97 : decode cX8_bore 97 = .ok (.iconst 1, 1) := by decide +kernel
theorem dX8_bore_98 : decode cX8_bore 98 = .ok (.iadd, 1) := by decide +kernel
theorem dX8_bore_99 : decode cX8_bore 99 = .ok (.putfield 169, 3) := by decide +kernel
theorem dX8_bore_102 : decode cX8_bore 102 = .ok (.aload_n 0, 1) := by decide +kernel
theorem dX8_bore_103 : decode cX8_bore 103 = .ok (.getfield 169, 3) := by decide +kernel
theorem dX8_bore_106 : decode cX8_bore 106 = .ok (.iconst 1, 1) := by decide +kernel
theorem dX8_bore_107 : decode cX8_bore 107 = .ok (.isub, 1) := by decide +kernel
theorem dX8_bore_108 : decode cX8_bore 108 = .ok (.ireturn, 1) := by decide +kernel
theorem dX8_best_0 : decode cX8_best 0 = .ok (.iload_n 1, 1) := by decide +kernel
theorem dX8_best_1 : decode cX8_best 1 = .ok (.iconst 0, 1) := by decide +kernel
theorem dX8_best_2 : decode cX8_best 2 = .ok (.sipush 9999, 3) := by decide +kernel
theorem dX8_best_5 : decode cX8_best 5 = .ok (.invokestatic 55, 3) := by decide +kernel
theorem dX8_best_8 : decode cX8_best 8 = .ok (.ifCond .ne 5, 3) := by decide +kernel
theorem dX8_best_11 : decode cX8_best 11 = .ok (.iconst (-1), 1) := by decide +kernel
theorem dX8_best_12 : decode cX8_best 12 = .ok (.ireturn, 1) := by decide +kernel
theorem dX8_best_13 : decode cX8_best 13 = .ok (.iconst 0, 1) := by decide +kernel
theorem dX8_best_14 : decode cX8_best 14 = .ok (.istore_n 2, 1) := by decide +kernel
theorem dX8_best_15 : decode cX8_best 15 = .ok (.iconst 0, 1) := by decide +kernel
theorem dX8_best_16 : decode cX8_best 16 = .ok (.istore_n 3, 1) := by decide +kernel
theorem dX8_best_17 : decode cX8_best 17 = .ok (.iconst 0, 1) := by decide +kernel
theorem dX8_best_18 : decode cX8_best 18 = .ok (.istore 4, 2) := by decide +kernel
theorem dX8_best_20 : decode cX8_best 20 = .ok (.iconst 1, 1) := by decide +kernel
theorem dX8_best_21 : decode cX8_best 21 = .ok (.istore 5, 2) := by decide +kernel
theorem dX8_best_23 : decode cX8_best 23 = .ok (.iload 5, 2) := by decide +kernel
theorem dX8_best_25 : decode cX8_best 25 = .ok (.iconst 1, 1) := by decide +kernel
theorem dX8_best_26 : decode cX8_best 26 = .ok (.aload_n 0, 1) := by decide +kernel
theorem dX8_best_27 : decode cX8_best 27 = .ok (.getfield 169, 3) := by decide +kernel
theorem dX8_best_30 : decode cX8_best 30 = .ok (.ishl, 1) := by decide +kernel
theorem dX8_best_31 : decode cX8_best 31 = .ok (.if_icmp .ge 81, 3) := by decide +kernel
theorem dX8_best_34 : decode cX8_best 34 = .ok (.aload_n 0, 1) := by decide +kernel
theorem dX8_best_35 : decode cX8_best 35 = .ok (.iload 5, 2) := by decide +kernel
theorem dX8_best_37 : decode cX8_best 37 = .ok (.invokevirtual 181, 3) := by decide +kernel
theorem dX8_best_40 : decode cX8_best 40 = .ok (.istore 6, 2) := by decide +kernel
theorem dX8_best_42 : decode cX8_best 42 = .ok (.aload_n 0, 1) := by decide +kernel
theorem dX8_best_43 : decode cX8_best 43 = .ok (.iload 5, 2) := by decide +kernel
theorem dX8_best_45 : decode cX8_best 45 = .ok (.invokevirtual 185, 3) := by decide +kernel
theorem dX8_best_48 : decode cX8_best 48 = .ok (.istore 7, 2) := by decide +kernel
theorem dX8_best_50 : decode cX8_best 50 = .ok (.iload 7, 2) := by decide +kernel
theorem dX8_best_52 : decode cX8_best 52 = .ok (.iload_n 3, 1) := by decide +kernel
theorem dX8_best_53 : decode cX8_best 53 = .ok (.if_icmp .gt 16, 3) := by decide +kernel
theorem dX8_best_56 : decode cX8_best 56 = .ok (.iload 7, 2) := by decide +kernel
theorem dX8_best_58 : decode cX8_best 58 = .ok (.iload_n 3, 1) := by decide +kernel
theorem dX8_best_59 : decode cX8_best 59 = .ok (.if_icmp .ne 14, 3) := by decide +kernel
theorem dX8_best_62 : decode cX8_best 62 = .ok (.iload 6, 2) := by decide +kernel
theorem dX8_best_64 : decode cX8_best 64 = .ok (.iload 4, 2) := by decide +kernel
theorem dX8_best_66 : decode cX8_best 66 = .ok (.if_icmp .ge 7, 3) := by decide +kernel
theorem dX8_best_69 : decode cX8_best 69 = .ok (.iconst 1, 1) := by decide +kernel
theorem dX8_best_70 : decode cX8_best 70 = .ok (.goto 4, 3) := by decide +kernel
theorem dX8_best_73 : decode cX8_best 73 = .ok (.iconst 0, 1) := by decide +kernel
theorem dX8_best_74 : decode cX8_best 74 = .ok (.istore 8, 2) := by decide +kernel
theorem dX8_best_76 : decode cX8_best 76 = .ok (.iload 8, 2) := by decide +kernel
theorem dX8_best_78 : decode cX8_best 78 = .ok (.ifCond .eq 28, 3) := by decide +kernel
theorem dX8_best_81 : decode cX8_best 81 = .ok (.iload 6, 2) := by decide +kernel
theorem dX8_best_83 : decode cX8_best 83 = .ok (.iload_n 1, 1) := by decide +kernel
theorem dX8_best_84 : decode cX8_best 84 = .ok (.if_icmp .gt 22, 3) := by decide +kernel
theorem dX8_best_87 : decode cX8_best 87 = .ok (.aload_n 0, 1) := by decide +kernel
theorem dX8_best_88 : decode cX8_best 88 = .ok (.iload 5, 2) := by decide +kernel
theorem dX8_best_90 : decode cX8_best 90 = .ok (.invokevirtual 188, 3) := by decide +kernel
theorem dX8_best_93 : decode cX8_best 93 = .ok (.ifCond .eq 13, 3) := by decide +kernel
theorem dX8_best_96 : decode cX8_best 96 = .ok (.iload 5, 2) := by decide +kernel
theorem dX8_best_98 : decode cX8_best 98 = .ok (.istore_n 2, 1) := by decide +kernel
theorem dX8_best_99 : decode cX8_best 99 = .ok (.iload 7, 2) := by decide +kernel
theorem dX8_best_101 : decode cX8_best 101 = .ok (.istore_n 3, 1) := by decide +kernel
theorem dX8_best_102 : decode cX8_best 102 = .ok (.iload 6, 2) := by decide +kernel
theorem dX8_best_104 : decode cX8_best 104 = .ok (.istore 4, 2) := by decide +kernel
theorem dX8_best_106 : decode cX8_best 106 = .ok (.iinc 5 1, 3) := by decide +kernel
theorem dX8_best_109 : decode cX8_best 109 = .ok (.goto (-86), 3) := by decide +kernel
theorem dX8_best_112 : decode cX8_best 112 = .ok (.iload_n 2, 1) := by decide +kernel
theorem dX8_best_113 : decode cX8_best 113 = .ok (.ireturn, 1) := by decide +kernel
theorem dX8_drill_0 : decode cX8_drill 0 = .ok (.iload_n 1, 1) := by decide +kernel
theorem dX8_drill_1 : decode cX8_drill 1 = .ok (.iconst 0, 1) := by decide +kernel
theorem dX8_drill_2 : decode cX8_drill 2 = .ok (.aload_n 0, 1) := by decide +kernel
theorem dX8_drill_3 : decode cX8_drill 3 = .ok (.getfield 169, 3) := by decide +kernel
theorem dX8_drill_6 : decode cX8_drill 6 = .ok (.iconst 1, 1) := by decide +kernel
theorem dX8_drill_7 : decode cX8_drill 7 = .ok (.isub, 1) := by decide +kernel
theorem dX8_drill_8 : decode cX8_drill 8 = .ok (.invokestatic 55, 3) := by decide +kernel
theorem dX8_drill_11 : decode cX8_drill 11 = .ok (.ifCond .eq 26, 3) := by decide +kernel
theorem dX8_drill_14 : decode cX8_drill 14 = .ok (.aload_n 0, 1) := by decide +kernel
theorem dX8_drill_15 : decode cX8_drill 15 = .ok (.getfield 29, 3) := by decide +kernel
theorem dX8_drill_18 : decode cX8_drill 18 = .ok (.iload_n 1, 1) := by decide +kernel
theorem dX8_drill_19 : decode cX8_drill 19 = .ok (.aaload, 1) := by decide +kernel
theorem dX8_drill_20 : decode cX8_drill 20 = .ok (.getfield 191, 3) := by decide +kernel
theorem dX8_drill_23 : decode cX8_drill 23 = .ok (.ifCond .ne 14, 3) := by decide +kernel
theorem dX8_drill_26 : decode cX8_drill 26 = .ok (.iload_n 2, 1) := by decide +kernel
theorem dX8_drill_27 : decode cX8_drill 27 = .ok (.iconst 0, 1) := by decide +kernel
theorem dX8_drill_28 : decode cX8_drill 28 = .ok (.sipush 5000, 3) := by decide +kernel
theorem dX8_drill_31 : decode cX8_drill 31 = .ok (.invokestatic 55, 3) := by decide +kernel
theorem dX8_drill_34 : decode cX8_drill 34 = .ok (.ifCond .ne 5, 3) := by decide +kernel
theorem dX8_drill_37 : decode cX8_drill 37 = .ok (.iconst 0, 1) := by decide +kernel
theorem dX8_drill_38 : decode cX8_drill 38 = .ok (.ireturn, 1) := by decide +kernel
theorem dX8_drill_39 : decode cX8_drill 39 = .ok (.aload_n 0, 1) := by decide +kernel
theorem dX8_drill_40 : decode cX8_drill 40 = .ok (.getfield 29, 3) := by decide +kernel
theorem dX8_drill_43 : decode cX8_drill 43 = .ok (.iload_n 1, 1) := by decide +kernel
theorem dX8_drill_44 : decode cX8_drill 44 = .ok (.aaload, 1) := by decide +kernel
theorem dX8_drill_45 : decode cX8_drill 45 = .ok (.astore_n 3, 1) := by decide +kernel
theorem dX8_drill_46 : decode cX8_drill 46 = .ok (.aload_n 3, 1) := by decide +kernel
theorem dX8_drill_47 : decode cX8_drill 47 = .ok (.iconst 1, 1) := by decide +kernel
theorem dX8_drill_48 : decode cX8_drill 48 = .ok (.putfield 191, 3) := by decide +kernel
theorem dX8_drill_51 : decode cX8_drill 51 = .ok (.aload_n 0, 1) := by decide +kernel
theorem dX8_drill_52 : decode cX8_drill 52 = .ok (.aload_n 3, 1) := by decide +kernel
theorem dX8_drill_53 : decode cX8_drill 53 = .ok (.getfield 172, 3) := by decide +kernel
theorem dX8_drill_56 : decode cX8_drill 56 = .ok (.invokevirtual 106, 3) := by decide +kernel
theorem dX8_drill_59 : decode cX8_drill 59 = .ok (.ifCond .eq 21, 3) := by decide +kernel
theorem dX8_drill_62 : decode cX8_drill 62 = .ok (.aload_n 0, 1) := by decide +kernel
theorem dX8_drill_63 : decode cX8_drill 63 = .ok (.getfield 11, 3) := by decide +kernel
theorem dX8_drill_66 : decode cX8_drill 66 = .ok (.aload_n 3, 1) := by decide +kernel
theorem dX8_drill_67 : decode cX8_drill 67 = .ok (.getfield 172, 3) := by decide +kernel
theorem dX8_drill_70 : decode cX8_drill 70 = .ok (.aaload, 1) := by decide +kernel
theorem dX8_drill_71 : decode cX8_drill 71 = .ok (.dup, 1) := by decide +kernel
theorem dX8_drill_72 : decode cX8_drill 72 = .ok (.getfield 160, 3) := by decide +kernel
theorem dX8_drill_75 : decode cX8_drill 75 = .ok (.iload_n 2, 1) := by decide +kernel
theorem dX8_drill_76 : decode cX8_drill 76 = .ok (.iadd, 1) := by decide +kernel
theorem dX8_drill_77 : decode cX8_drill 77 = .ok (.putfield 160, 3) := by decide +kernel
theorem dX8_drill_80 : decode cX8_drill 80 = .ok (.iconst 1, 1) := by decide +kernel
theorem dX8_drill_81 : decode cX8_drill 81 = .ok (.ireturn, 1) := by decide +kernel
theorem dX8_dip_0 : decode cX8_dip 0 = .ok (.aload_n 0, 1) := by decide +kernel
theorem dX8_dip_1 : decode cX8_dip 1 = .ok (.iload_n 1, 1) := by decide +kernel
theorem dX8_dip_2 : decode cX8_dip 2 = .ok (.invokevirtual 195, 3) := by decide +kernel
theorem dX8_dip_5 : decode cX8_dip 5 = .ok (.ifCond .eq 41, 3) := by decide +kernel
theorem dX8_dip_8 : decode cX8_dip 8 = .ok (.iload_n 2, 1) := by decide +kernel
theorem dX8_dip_9 : decode cX8_dip 9 = .ok (.iconst 0, 1) := by decide +kernel
theorem dX8_dip_10 : decode cX8_dip 10 = .ok (.sipush 20000, 3) := by decide +kernel
theorem dX8_dip_13 : decode cX8_dip 13 = .ok (.invokestatic 55, 3) := by decide +kernel
theorem dX8_dip_16 : decode cX8_dip 16 = .ok (.ifCond .eq 30, 3) := by decide +kernel
theorem dX8_dip_19 : decode cX8_dip 19 = .ok (.iload_n 3, 1) := by decide +kernel
theorem dX8_dip_20 : decode cX8_dip 20 = .ok (.iconst 0, 1) := by decide +kernel
theorem dX8_dip_21 : decode cX8_dip 21 = .ok (.sipush 20000, 3) := by decide +kernel
theorem dX8_dip_24 : decode cX8_dip 24 = .ok (.invokestatic 55, 3) := by decide +kernel
theorem dX8_dip_27 : decode cX8_dip 27 = .ok (.ifCond .eq 19, 3) := by decide +kernel
theorem dX8_dip_30 : decode cX8_dip 30 = .ok (.iload 4, 2) := by decide +kernel
theorem dX8_dip_32 : decode cX8_dip 32 = .ok (.iconst 0, 1) := by decide +kernel
theorem dX8_dip_33 : decode cX8_dip 33 = .ok (.sipush 2000, 3) := by decide +kernel
theorem dX8_dip_36 : decode cX8_dip 36 = .ok (.invokestatic 55, 3) := by decide +kernel
theorem dX8_dip_39 : decode cX8_dip 39 = .ok (.ifCond .eq 7, 3) := by decide +kernel
theorem dX8_dip_42 : decode cX8_dip 42 = .ok (.iconst 1, 1) := by decide +kernel
theorem dX8_dip_43 : decode cX8_dip 43 = .ok (.goto 4, 3) := by decide +kernel
theorem dX8_dip_46 : decode cX8_dip 46 = .ok (.iconst 0, 1) := by decide +kernel
theorem dX8_dip_47 : decode cX8_dip 47 = .ok (.istore 5, 2) := by decide +kernel
theorem dX8_dip_49 : decode cX8_dip 49 = .ok (.iload 5, 2) := by decide +kernel
theorem dX8_dip_51 : decode cX8_dip 51 = .ok (.ifCond .eq 12, 3) := by decide +kernel
theorem dX8_dip_54 : decode cX8_dip 54 = .ok (.aload_n 0, 1) := by decide +kernel
theorem dX8_dip_55 : decode cX8_dip 55 = .ok (.getfield 198, 3) := by decide +kernel
theorem dX8_dip_58 : decode cX8_dip 58 = .ok (.bipush 100, 2) := by decide +kernel
theorem dX8_dip_60 : decode cX8_dip 60 = .ok (.if_icmp .lt 5, 3) := by decide +kernel
theorem dX8_dip_63 : decode cX8_dip 63 = .ok (.iconst (-1), 1) := by decide +kernel
theorem dX8_dip_64 : decode cX8_dip 64 = .ok (.ireturn, 1) := by decide +kernel
theorem dX8_dip_65 : decode cX8_dip 65 = .ok (.aload_n 0, 1) := by decide +kernel
theorem dX8_dip_66 : decode cX8_dip 66 = .ok (.getfield 23, 3) := by decide +kernel
theorem dX8_dip_69 : decode cX8_dip 69 = .ok (.iload_n 1, 1) := by decide +kernel
theorem dX8_dip_70 : decode cX8_dip 70 = .ok (.aaload, 1) := by decide +kernel
theorem dX8_dip_71 : decode cX8_dip 71 = .ok (.astore 6, 2) := by decide +kernel
theorem dX8_dip_73 : decode cX8_dip 73 = .ok (.aload 6, 2) := by decide +kernel
theorem dX8_dip_75 : decode cX8_dip 75 = .ok (.dup, 1) := by decide +kernel
theorem dX8_dip_76 : decode cX8_dip 76 = .ok (.getfield 201, 3) := by decide +kernel
theorem dX8_dip_79 : decode cX8_dip 79 = .ok (.iconst 1, 1) := by decide +kernel
theorem dX8_dip_80 : decode cX8_dip 80 = .ok (.iadd, 1) := by decide +kernel
theorem dX8_dip_81 : decode cX8_dip 81 = .ok (.putfield 201, 3) := by decide +kernel
theorem dX8_dip_84 : decode cX8_dip 84 = .ok (.aload 6, 2) := by decide +kernel
theorem dX8_dip_86 : decode cX8_dip 86 = .ok (.dup, 1) := by decide +kernel
theorem dX8_dip_87 : decode cX8_dip 87 = .ok (.getfield 204, 3) := by decide +kernel
theorem dX8_dip_90 : decode cX8_dip 90 = .ok (.iload_n 2, 1) := by decide +kernel
theorem dX8_dip_91 : decode cX8_dip 91 = .ok (.iload_n 3, 1) := by decide +kernel
theorem dX8_dip_92 : decode cX8_dip 92 = .ok (.isub, 1) := by decide +kernel
theorem dX8_dip_93 : decode cX8_dip 93 = .ok (.iadd, 1) := by decide +kernel
theorem dX8_dip_94 : decode cX8_dip 94 = .ok (.putfield 204, 3) := by decide +kernel
theorem dX8_dip_97 : decode cX8_dip 97 = .ok (.aload 6, 2) := by decide +kernel
theorem dX8_dip_99 : decode cX8_dip 99 = .ok (.dup, 1) := by decide +kernel
theorem dX8_dip_100 : decode cX8_dip 100 = .ok (.getfield 207, 3) := by decide +kernel
theorem dX8_dip_103 : decode cX8_dip 103 = .ok (.iload 4, 2) := by decide +kernel
theorem dX8_dip_105 : decode cX8_dip 105 = .ok (.iadd, 1) := by decide +kernel
theorem dX8_dip_106 : decode cX8_dip 106 = .ok (.putfield 207, 3) := by decide +kernel
theorem dX8_dip_109 : decode cX8_dip 109 = .ok (.aload_n 0, 1) := by decide +kernel
theorem dX8_dip_110 : decode cX8_dip 110 = .ok (.dup, 1) := by decide +kernel
theorem dX8_dip_111 : decode cX8_dip 111 = .ok (.getfield 198, 3) := by decide +kernel
theorem dX8_dip_114 : decode cX8_dip 114 = .ok (.iconst 1, 1) := by decide +kernel
theorem dX8_dip_115 : decode cX8_dip 115 = .ok (.iadd, 1) := by decide +kernel
theorem dX8_dip_116 : decode cX8_dip 116 = .ok (.putfield 198, 3) := by decide +kernel
theorem dX8_dip_119 : decode cX8_dip 119 = .ok (.aload 6, 2) := by decide +kernel
theorem dX8_dip_121 : decode cX8_dip 121 = .ok (.getfield 201, 3) := by decide +kernel
theorem dX8_dip_124 : decode cX8_dip 124 = .ok (.ireturn, 1) := by decide +kernel
theorem dX8_isShort_0 : decode cX8_isShort 0 = .ok (.aload_n 0, 1) := by decide +kernel
theorem dX8_isShort_1 : decode cX8_isShort 1 = .ok (.iload_n 1, 1) := by decide +kernel
theorem dX8_isShort_2 : decode cX8_isShort 2 = .ok (.invokevirtual 195, 3) := by decide +kernel
theorem dX8_isShort_5 : decode cX8_isShort 5 = .ok (.ifCond .ne 5, 3) := by decide +kernel
theorem dX8_isShort_8 : decode cX8_isShort 8 = .ok (.iconst (-1), 1) := by decide +kernel
theorem dX8_isShort_9 : decode cX8_isShort 9 = .ok (.ireturn, 1) := by decide +kernel
theorem dX8_isShort_10 : decode cX8_isShort 10 = .ok (.aload_n 0, 1) := by decide +kernel
theorem dX8_isShort_11 : decode cX8_isShort 11 = .ok (.getfield 23, 3) := by decide +kernel
theorem dX8_isShort_14 : decode cX8_isShort 14 = .ok (.iload_n 1, 1) := by decide +kernel
theorem dX8_isShort_15 : decode cX8_isShort 15 = .ok (.aaload, 1) := by decide +kernel
theorem dX8_isShort_16 : decode cX8_isShort 16 = .ok (.astore_n 2, 1) := by decide +kernel
theorem dX8_isShort_17 : decode cX8_isShort 17 = .ok (.aload_n 2, 1) := by decide +kernel
theorem dX8_isShort_18 : decode cX8_isShort 18 = .ok (.getfield 201, 3) := by decide +kernel
theorem dX8_isShort_21 : decode cX8_isShort 21 = .ok (.iconst 3, 1) := by decide +kernel
theorem dX8_isShort_22 : decode cX8_isShort 22 = .ok (.if_icmp .lt 18, 3) := by decide +kernel
theorem dX8_isShort_25 : decode cX8_isShort 25 = .ok (.aload_n 2, 1) := by decide +kernel
theorem dX8_isShort_26 : decode cX8_isShort 26 = .ok (.getfield 204, 3) := by decide +kernel
theorem dX8_isShort_29 : decode cX8_isShort 29 = .ok (.aload_n 2, 1) := by decide +kernel
theorem dX8_isShort_30 : decode cX8_isShort 30 = .ok (.getfield 207, 3) := by decide +kernel
theorem dX8_isShort_33 : decode cX8_isShort 33 = .ok (.if_icmp .le 7, 3) := by decide +kernel
theorem dX8_isShort_36 : decode cX8_isShort 36 = .ok (.iconst 1, 1) := by decide +kernel
theorem dX8_isShort_37 : decode cX8_isShort 37 = .ok (.goto 4, 3) := by decide +kernel
theorem dX8_isShort_40 : decode cX8_isShort 40 = .ok (.iconst 0, 1) := by decide +kernel
theorem dX8_isShort_41 : decode cX8_isShort 41 = .ok (.ireturn, 1) := by decide +kernel
theorem dX8_share_0 : decode cX8_share 0 = .ok (.aload_n 0, 1) := by decide +kernel
theorem dX8_share_1 : decode cX8_share 1 = .ok (.iload_n 1, 1) := by decide +kernel
theorem dX8_share_2 : decode cX8_share 2 = .ok (.invokevirtual 106, 3) := by decide +kernel
theorem dX8_share_5 : decode cX8_share 5 = .ok (.ifCond .ne 5, 3) := by decide +kernel
theorem dX8_share_8 : decode cX8_share 8 = .ok (.iconst (-1), 1) := by decide +kernel
theorem dX8_share_9 : decode cX8_share 9 = .ok (.ireturn, 1) := by decide +kernel
theorem dX8_share_10 : decode cX8_share 10 = .ok (.aload_n 0, 1) := by decide +kernel
theorem dX8_share_11 : decode cX8_share 11 = .ok (.getfield 11, 3) := by decide +kernel
theorem dX8_share_14 : decode cX8_share 14 = .ok (.iload_n 1, 1) := by decide +kernel
theorem dX8_share_15 : decode cX8_share 15 = .ok (.aaload, 1) := by decide +kernel
theorem dX8_share_16 : decode cX8_share 16 = .ok (.astore_n 2, 1) := by decide +kernel
theorem dX8_share_17 : decode cX8_share 17 = .ok (.aload_n 2, 1) := by decide +kernel
theorem dX8_share_18 : decode cX8_share 18 = .ok (.getfield 64, 3) := by decide +kernel
theorem dX8_share_21 : decode cX8_share 21 = .ok (.bipush 7, 2) := by decide +kernel
theorem dX8_share_23 : decode cX8_share 23 = .ok (.aload_n 0, 1) := by decide +kernel
theorem dX8_share_24 : decode cX8_share 24 = .ok (.getfield 154, 3) := by decide +kernel
theorem dX8_share_27 : decode cX8_share 27 = .ok (.invokestatic 163, 3) := by decide +kernel
theorem dX8_share_30 : decode cX8_share 30 = .ok (.imul, 1) := by decide +kernel
theorem dX8_share_31 : decode cX8_share 31 = .ok (.istore_n 3, 1) := by decide +kernel
theorem dX8_share_32 : decode cX8_share 32 = .ok (.iload_n 3, 1) := by decide +kernel
theorem dX8_share_33 : decode cX8_share 33 = .ok (.ifCond .le 15, 3) := by decide +kernel
theorem dX8_share_36 : decode cX8_share 36 = .ok (.aload_n 2, 1) := by decide +kernel
theorem dX8_share_37 : decode cX8_share 37 = .ok (.invokevirtual 210, 3) := by decide +kernel
theorem dX8_share_40 : decode cX8_share 40 = .ok (.bipush 100, 2) := by decide +kernel
theorem dX8_share_42 : decode cX8_share 42 = .ok (.imul, 1) := by decide +kernel
theorem dX8_share_43 : decode cX8_share 43 = .ok (.iload_n 3, 1) := by decide +kernel
theorem dX8_share_44 : decode cX8_share 44 = .ok (.idiv, 1) := by decide +kernel
theorem dX8_share_45 : decode cX8_share 45 = .ok (.goto 4, 3) := by decide +kernel
theorem dX8_share_48 : decode cX8_share 48 = .ok (.iconst 0, 1) := by decide +kernel
theorem dX8_share_49 : decode cX8_share 49 = .ok (.ireturn, 1) := by decide +kernel
theorem dX8_look_0 : decode cX8_look 0 = .ok (.aload_n 0, 1) := by decide +kernel
theorem dX8_look_1 : decode cX8_look 1 = .ok (.iload_n 1, 1) := by decide +kernel
theorem dX8_look_2 : decode cX8_look 2 = .ok (.invokevirtual 106, 3) := by decide +kernel
theorem dX8_look_5 : decode cX8_look 5 = .ok (.ifCond .eq 13, 3) := by decide +kernel
theorem dX8_look_8 : decode cX8_look 8 = .ok (.iload_n 2, 1) := by decide +kernel
theorem dX8_look_9 : decode cX8_look 9 = .ok (.iconst 0, 1) := by decide +kernel
theorem dX8_look_10 : decode cX8_look 10 = .ok (.bipush 8, 2) := by decide +kernel
theorem dX8_look_12 : decode cX8_look 12 = .ok (.invokestatic 55, 3) := by decide +kernel
theorem dX8_look_15 : decode cX8_look 15 = .ok (.ifCond .ne 11, 3) := by decide +kernel
theorem dX8_look_18 : decode cX8_look 18 = .ok (.new 213, 3) := by decide +kernel
theorem dX8_look_21 : decode cX8_look 21 = .ok (.dup, 1) := by decide +kernel
theorem dX8_look_22 : decode cX8_look 22 = .ok (.invokespecial 215, 3) := by decide +kernel
theorem dX8_look_25 : decode cX8_look 25 = .ok (.athrow, 1) := by decide +kernel
theorem dX8_look_26 : decode cX8_look 26 = .ok (.aload_n 0, 1) := by decide +kernel
theorem dX8_look_27 : decode cX8_look 27 = .ok (.getfield 11, 3) := by decide +kernel
theorem dX8_look_30 : decode cX8_look 30 = .ok (.iload_n 1, 1) := by decide +kernel
theorem dX8_look_31 : decode cX8_look 31 = .ok (.aaload, 1) := by decide +kernel
theorem dX8_look_32 : decode cX8_look 32 = .ok (.iload_n 2, 1) := by decide +kernel
theorem dX8_look_33 : decode cX8_look 33 = .ok (.invokevirtual 216, 3) := by decide +kernel
theorem dX8_look_36 : decode cX8_look 36 = .ok (.ireturn, 1) := by decide +kernel
theorem dX8_flows_0 : decode cX8_flows 0 = .ok (.aload_n 0, 1) := by decide +kernel
theorem dX8_flows_1 : decode cX8_flows 1 = .ok (.iload_n 1, 1) := by decide +kernel
theorem dX8_flows_2 : decode cX8_flows 2 = .ok (.invokevirtual 90, 3) := by decide +kernel
theorem dX8_flows_5 : decode cX8_flows 5 = .ok (.ifCond .eq 12, 3) := by decide +kernel
theorem dX8_flows_8 : decode cX8_flows 8 = .ok (.iload_n 2, 1) := by decide +kernel
theorem dX8_flows_9 : decode cX8_flows 9 = .ok (.iconst 0, 1) := by decide +kernel
theorem dX8_flows_10 : decode cX8_flows 10 = .ok (.iconst 1, 1) := by decide +kernel
theorem dX8_flows_11 : decode cX8_flows 11 = .ok (.invokestatic 55, 3) := by decide +kernel
theorem dX8_flows_14 : decode cX8_flows 14 = .ok (.ifCond .ne 5, 3) := by decide +kernel
theorem dX8_flows_17 : decode cX8_flows 17 = .ok (.iconst (-1), 1) := by decide +kernel
theorem dX8_flows_18 : decode cX8_flows 18 = .ok (.ireturn, 1) := by decide +kernel
theorem dX8_flows_19 : decode cX8_flows 19 = .ok (.iload_n 2, 1) := by decide +kernel
theorem dX8_flows_20 : decode cX8_flows 20 = .ok (.ifCond .ne 15, 3) := by decide +kernel
theorem dX8_flows_23 : decode cX8_flows 23 = .ok (.aload_n 0, 1) := by decide +kernel
theorem dX8_flows_24 : decode cX8_flows 24 = .ok (.getfield 17, 3) := by decide +kernel
theorem dX8_flows_27 : decode cX8_flows 27 = .ok (.iload_n 1, 1) := by decide +kernel
theorem dX8_flows_28 : decode cX8_flows 28 = .ok (.aaload, 1) := by decide +kernel
theorem dX8_flows_29 : decode cX8_flows 29 = .ok (.getfield 80, 3) := by decide +kernel
theorem dX8_flows_32 : decode cX8_flows 32 = .ok (.goto 12, 3) := by decide +kernel
theorem dX8_flows_35 : decode cX8_flows 35 = .ok (.aload_n 0, 1) := by decide +kernel
theorem dX8_flows_36 : decode cX8_flows 36 = .ok (.getfield 17, 3) := by decide +kernel
theorem dX8_flows_39 : decode cX8_flows 39 = .ok (.iload_n 1, 1) := by decide +kernel
theorem dX8_flows_40 : decode cX8_flows 40 = .ok (.aaload, 1) := by decide +kernel
theorem dX8_flows_41 : decode cX8_flows 41 = .ok (.getfield 86, 3) := by decide +kernel
theorem dX8_flows_44 : decode cX8_flows 44 = .ok (.ireturn, 1) := by decide +kernel
theorem dX8_goes_0 : decode cX8_goes 0 = .ok (.aload_n 0, 1) := by decide +kernel
theorem dX8_goes_1 : decode cX8_goes 1 = .ok (.iload_n 1, 1) := by decide +kernel
theorem dX8_goes_2 : decode cX8_goes 2 = .ok (.invokevirtual 195, 3) := by decide +kernel
theorem dX8_goes_5 : decode cX8_goes 5 = .ok (.ifCond .eq 12, 3) := by decide +kernel
theorem dX8_goes_8 : decode cX8_goes 8 = .ok (.iload_n 2, 1) := by decide +kernel
theorem dX8_goes_9 : decode cX8_goes 9 = .ok (.iconst 0, 1) := by decide +kernel
theorem dX8_goes_10 : decode cX8_goes 10 = .ok (.iconst 2, 1) := by decide +kernel
theorem dX8_goes_11 : decode cX8_goes 11 = .ok (.invokestatic 55, 3) := by decide +kernel
theorem dX8_goes_14 : decode cX8_goes 14 = .ok (.ifCond .ne 5, 3) := by decide +kernel
theorem dX8_goes_17 : decode cX8_goes 17 = .ok (.iconst (-1), 1) := by decide +kernel
theorem dX8_goes_18 : decode cX8_goes 18 = .ok (.ireturn, 1) := by decide +kernel
theorem dX8_goes_19 : decode cX8_goes 19 = .ok (.aload_n 0, 1) := by decide +kernel
theorem dX8_goes_20 : decode cX8_goes 20 = .ok (.getfield 23, 3) := by decide +kernel
theorem dX8_goes_23 : decode cX8_goes 23 = .ok (.iload_n 1, 1) := by decide +kernel
theorem dX8_goes_24 : decode cX8_goes 24 = .ok (.aaload, 1) := by decide +kernel
theorem dX8_goes_25 : decode cX8_goes 25 = .ok (.astore_n 3, 1) := by decide +kernel
theorem dX8_goes_26 : decode cX8_goes 26 = .ok (.iload_n 2, 1) := by decide +kernel
theorem dX8_goes_27 : decode cX8_goes 27 = .ok (.ifCond .ne 8, 3) := by decide +kernel
theorem dX8_goes_30 : decode cX8_goes 30 = .ok (.aload_n 3, 1) := by decide +kernel
theorem dX8_goes_31 : decode cX8_goes 31 = .ok (.getfield 219, 3) := by decide +kernel
theorem dX8_goes_34 : decode cX8_goes 34 = .ok (.ireturn, 1) := by decide +kernel
theorem dX8_goes_35 : decode cX8_goes 35 = .ok (.iload_n 2, 1) := by decide +kernel
theorem dX8_goes_36 : decode cX8_goes 36 = .ok (.iconst 1, 1) := by decide +kernel
theorem dX8_goes_37 : decode cX8_goes 37 = .ok (.if_icmp .ne 10, 3) := by decide +kernel
theorem dX8_goes_40 : decode cX8_goes 40 = .ok (.aload_n 3, 1) := by decide +kernel
theorem dX8_goes_41 : decode cX8_goes 41 = .ok (.getfield 222, 3) := by decide +kernel
theorem dX8_goes_44 : decode cX8_goes 44 = .ok (.goto 7, 3) := by decide +kernel
theorem dX8_goes_47 : decode cX8_goes 47 = .ok (.aload_n 3, 1) := by decide +kernel
theorem dX8_goes_48 : decode cX8_goes 48 = .ok (.getfield 225, 3) := by decide +kernel
theorem dX8_goes_51 : decode cX8_goes 51 = .ok (.ireturn, 1) := by decide +kernel
theorem dX8_count_0 : decode cX8_count 0 = .ok (.iload_n 1, 1) := by decide +kernel
theorem dX8_count_1 : decode cX8_count 1 = .ok (.tableswitch 117 0 9 #[55, 60, 65, 70, 75, 80, 85, 90, 95, 106], 55) := by decide +kernel
theorem dX8_count_56 : decode cX8_count 56 = .ok (.aload_n 0, 1) := by decide +kernel
theorem dX8_count_57 : decode cX8_count 57 = .ok (.getfield 60, 3) := by decide +kernel
theorem dX8_count_60 : decode cX8_count 60 = .ok (.ireturn, 1) := by decide +kernel
theorem dX8_count_61 : decode cX8_count 61 = .ok (.aload_n 0, 1) := by decide +kernel
theorem dX8_count_62 : decode cX8_count 62 = .ok (.getfield 77, 3) := by decide +kernel
theorem dX8_count_65 : decode cX8_count 65 = .ok (.ireturn, 1) := by decide +kernel
theorem dX8_count_66 : decode cX8_count 66 = .ok (.aload_n 0, 1) := by decide +kernel
theorem dX8_count_67 : decode cX8_count 67 = .ok (.getfield 94, 3) := by decide +kernel
theorem dX8_count_70 : decode cX8_count 70 = .ok (.ireturn, 1) := by decide +kernel
theorem dX8_count_71 : decode cX8_count 71 = .ok (.aload_n 0, 1) := by decide +kernel
theorem dX8_count_72 : decode cX8_count 72 = .ok (.getfield 154, 3) := by decide +kernel
theorem dX8_count_75 : decode cX8_count 75 = .ok (.ireturn, 1) := by decide +kernel
theorem dX8_count_76 : decode cX8_count 76 = .ok (.aload_n 0, 1) := by decide +kernel
theorem dX8_count_77 : decode cX8_count 77 = .ok (.getfield 228, 3) := by decide +kernel
theorem dX8_count_80 : decode cX8_count 80 = .ok (.ireturn, 1) := by decide +kernel
theorem dX8_count_81 : decode cX8_count 81 = .ok (.aload_n 0, 1) := by decide +kernel
theorem dX8_count_82 : decode cX8_count 82 = .ok (.getfield 231, 3) := by decide +kernel
theorem dX8_count_85 : decode cX8_count 85 = .ok (.ireturn, 1) := by decide +kernel
theorem dX8_count_86 : decode cX8_count 86 = .ok (.aload_n 0, 1) := by decide +kernel
theorem dX8_count_87 : decode cX8_count 87 = .ok (.getfield 169, 3) := by decide +kernel
theorem dX8_count_90 : decode cX8_count 90 = .ok (.ireturn, 1) := by decide +kernel
theorem dX8_count_91 : decode cX8_count 91 = .ok (.aload_n 0, 1) := by decide +kernel
theorem dX8_count_92 : decode cX8_count 92 = .ok (.getfield 198, 3) := by decide +kernel
theorem dX8_count_95 : decode cX8_count 95 = .ok (.ireturn, 1) := by decide +kernel
theorem dX8_count_96 : decode cX8_count 96 = .ok (.aload_n 0, 1) := by decide +kernel
theorem dX8_count_97 : decode cX8_count 97 = .ok (.getfield 40, 3) := by decide +kernel
theorem dX8_count_100 : decode cX8_count 100 = .ok (.getfield 234, 3) := by decide +kernel
theorem dX8_count_103 : decode cX8_count 103 = .ok (.getfield 238, 3) := by decide +kernel
theorem dX8_count_106 : decode cX8_count 106 = .ok (.ireturn, 1) := by decide +kernel
theorem dX8_count_107 : decode cX8_count 107 = .ok (.aload_n 0, 1) := by decide +kernel
theorem dX8_count_108 : decode cX8_count 108 = .ok (.getfield 40, 3) := by decide +kernel
theorem dX8_count_111 : decode cX8_count 111 = .ok (.getfield 112, 3) := by decide +kernel
theorem dX8_count_114 : decode cX8_count 114 = .ok (.getfield 122, 3) := by decide +kernel
theorem dX8_count_117 : decode cX8_count 117 = .ok (.ireturn, 1) := by decide +kernel
theorem dX8_count_118 : decode cX8_count 118 = .ok (.iconst (-1), 1) := by decide +kernel
theorem dX8_count_119 : decode cX8_count 119 = .ok (.ireturn, 1) := by decide +kernel
theorem dX8_within_0 : decode cX8_within 0 = .ok (.iload_n 0, 1) := by decide +kernel
theorem dX8_within_1 : decode cX8_within 1 = .ok (.iload_n 1, 1) := by decide +kernel
theorem dX8_within_2 : decode cX8_within 2 = .ok (.if_icmp .lt 12, 3) := by decide +kernel
theorem dX8_within_5 : decode cX8_within 5 = .ok (.iload_n 0, 1) := by decide +kernel
theorem dX8_within_6 : decode cX8_within 6 = .ok (.iload_n 2, 1) := by decide +kernel
theorem dX8_within_7 : decode cX8_within 7 = .ok (.if_icmp .gt 7, 3) := by decide +kernel
theorem dX8_within_10 : decode cX8_within 10 = .ok (.iconst 1, 1) := by decide +kernel
theorem dX8_within_11 : decode cX8_within 11 = .ok (.goto 4, 3) := by decide +kernel
theorem dX8_within_14 : decode cX8_within 14 = .ok (.iconst 0, 1) := by decide +kernel
theorem dX8_within_15 : decode cX8_within 15 = .ok (.ireturn, 1) := by decide +kernel
theorem dX8_isVillage_0 : decode cX8_isVillage 0 = .ok (.iload_n 1, 1) := by decide +kernel
theorem dX8_isVillage_1 : decode cX8_isVillage 1 = .ok (.iconst 0, 1) := by decide +kernel
theorem dX8_isVillage_2 : decode cX8_isVillage 2 = .ok (.aload_n 0, 1) := by decide +kernel
theorem dX8_isVillage_3 : decode cX8_isVillage 3 = .ok (.getfield 60, 3) := by decide +kernel
theorem dX8_isVillage_6 : decode cX8_isVillage 6 = .ok (.iconst 1, 1) := by decide +kernel
theorem dX8_isVillage_7 : decode cX8_isVillage 7 = .ok (.isub, 1) := by decide +kernel
theorem dX8_isVillage_8 : decode cX8_isVillage 8 = .ok (.invokestatic 55, 3) := by decide +kernel
theorem dX8_isVillage_11 : decode cX8_isVillage 11 = .ok (.ireturn, 1) := by decide +kernel
theorem dX8_isSpring_0 : decode cX8_isSpring 0 = .ok (.iload_n 1, 1) := by decide +kernel
theorem dX8_isSpring_1 : decode cX8_isSpring 1 = .ok (.iconst 0, 1) := by decide +kernel
theorem dX8_isSpring_2 : decode cX8_isSpring 2 = .ok (.aload_n 0, 1) := by decide +kernel
theorem dX8_isSpring_3 : decode cX8_isSpring 3 = .ok (.getfield 77, 3) := by decide +kernel
theorem dX8_isSpring_6 : decode cX8_isSpring 6 = .ok (.iconst 1, 1) := by decide +kernel
theorem dX8_isSpring_7 : decode cX8_isSpring 7 = .ok (.isub, 1) := by decide +kernel
theorem dX8_isSpring_8 : decode cX8_isSpring 8 = .ok (.invokestatic 55, 3) := by decide +kernel
theorem dX8_isSpring_11 : decode cX8_isSpring 11 = .ok (.ireturn, 1) := by decide +kernel
theorem dX8_isTanker_0 : decode cX8_isTanker 0 = .ok (.iload_n 1, 1) := by decide +kernel
theorem dX8_isTanker_1 : decode cX8_isTanker 1 = .ok (.iconst 0, 1) := by decide +kernel
theorem dX8_isTanker_2 : decode cX8_isTanker 2 = .ok (.aload_n 0, 1) := by decide +kernel
theorem dX8_isTanker_3 : decode cX8_isTanker 3 = .ok (.getfield 94, 3) := by decide +kernel
theorem dX8_isTanker_6 : decode cX8_isTanker 6 = .ok (.iconst 1, 1) := by decide +kernel
theorem dX8_isTanker_7 : decode cX8_isTanker 7 = .ok (.isub, 1) := by decide +kernel
theorem dX8_isTanker_8 : decode cX8_isTanker 8 = .ok (.invokestatic 55, 3) := by decide +kernel
theorem dX8_isTanker_11 : decode cX8_isTanker 11 = .ok (.ireturn, 1) := by decide +kernel
theorem dX8_wantOf_0 : decode cX8_wantOf 0 = .ok (.aload_n 0, 1) := by decide +kernel
theorem dX8_wantOf_1 : decode cX8_wantOf 1 = .ok (.getfield 33, 3) := by decide +kernel
theorem dX8_wantOf_4 : decode cX8_wantOf 4 = .ok (.iconst 0, 1) := by decide +kernel
theorem dX8_wantOf_5 : decode cX8_wantOf 5 = .ok (.aload_n 0, 1) := by decide +kernel
theorem dX8_wantOf_6 : decode cX8_wantOf 6 = .ok (.getfield 154, 3) := by decide +kernel
theorem dX8_wantOf_9 : decode cX8_wantOf 9 = .ok (.iconst 1, 1) := by decide +kernel
theorem dX8_wantOf_10 : decode cX8_wantOf 10 = .ok (.iadd, 1) := by decide +kernel
theorem dX8_wantOf_11 : decode cX8_wantOf 11 = .ok (.iastore, 1) := by decide +kernel
theorem dX8_wantOf_12 : decode cX8_wantOf 12 = .ok (.aload_n 0, 1) := by decide +kernel
theorem dX8_wantOf_13 : decode cX8_wantOf 13 = .ok (.getfield 33, 3) := by decide +kernel
theorem dX8_wantOf_16 : decode cX8_wantOf 16 = .ok (.iconst 1, 1) := by decide +kernel
theorem dX8_wantOf_17 : decode cX8_wantOf 17 = .ok (.aload_n 1, 1) := by decide +kernel
theorem dX8_wantOf_18 : decode cX8_wantOf 18 = .ok (.getfield 64, 3) := by decide +kernel
theorem dX8_wantOf_21 : decode cX8_wantOf 21 = .ok (.iastore, 1) := by decide +kernel
theorem dX8_wantOf_22 : decode cX8_wantOf 22 = .ok (.aload_n 0, 1) := by decide +kernel
theorem dX8_wantOf_23 : decode cX8_wantOf 23 = .ok (.getfield 33, 3) := by decide +kernel
theorem dX8_wantOf_26 : decode cX8_wantOf 26 = .ok (.iconst 2, 1) := by decide +kernel
theorem dX8_wantOf_27 : decode cX8_wantOf 27 = .ok (.aload_n 1, 1) := by decide +kernel
theorem dX8_wantOf_28 : decode cX8_wantOf 28 = .ok (.getfield 67, 3) := by decide +kernel
theorem dX8_wantOf_31 : decode cX8_wantOf 31 = .ok (.iastore, 1) := by decide +kernel
theorem dX8_wantOf_32 : decode cX8_wantOf 32 = .ok (.aload_n 0, 1) := by decide +kernel
theorem dX8_wantOf_33 : decode cX8_wantOf 33 = .ok (.getfield 33, 3) := by decide +kernel
theorem dX8_wantOf_36 : decode cX8_wantOf 36 = .ok (.iconst 3, 1) := by decide +kernel
theorem dX8_wantOf_37 : decode cX8_wantOf 37 = .ok (.aload_n 1, 1) := by decide +kernel
theorem dX8_wantOf_38 : decode cX8_wantOf 38 = .ok (.getfield 243, 3) := by decide +kernel
theorem dX8_wantOf_41 : decode cX8_wantOf 41 = .ok (.iastore, 1) := by decide +kernel
theorem dX8_wantOf_42 : decode cX8_wantOf 42 = .ok (.aload_n 0, 1) := by decide +kernel
theorem dX8_wantOf_43 : decode cX8_wantOf 43 = .ok (.getfield 33, 3) := by decide +kernel
theorem dX8_wantOf_46 : decode cX8_wantOf 46 = .ok (.iconst 4, 1) := by decide +kernel
theorem dX8_wantOf_47 : decode cX8_wantOf 47 = .ok (.aload_n 1, 1) := by decide +kernel
theorem dX8_wantOf_48 : decode cX8_wantOf 48 = .ok (.invokevirtual 246, 3) := by decide +kernel
theorem dX8_wantOf_51 : decode cX8_wantOf 51 = .ok (.iastore, 1) := by decide +kernel
theorem dX8_wantOf_52 : decode cX8_wantOf 52 = .ok (.aload_n 0, 1) := by decide +kernel
theorem dX8_wantOf_53 : decode cX8_wantOf 53 = .ok (.getfield 33, 3) := by decide +kernel
theorem dX8_wantOf_56 : decode cX8_wantOf 56 = .ok (.iconst 5, 1) := by decide +kernel
theorem dX8_wantOf_57 : decode cX8_wantOf 57 = .ok (.aload_n 0, 1) := by decide +kernel
end
section
theorem dX8_wantOf_58 : decode cX8_wantOf 58 = .ok (.getfield 228, 3) := by decide +kernel
theorem dX8_wantOf_61 : decode cX8_wantOf 61 = .ok (.iastore, 1) := by decide +kernel
theorem dX8_wantOf_62 : decode cX8_wantOf 62 = .ok (.aload_n 0, 1) := by decide +kernel
theorem dX8_wantOf_63 : decode cX8_wantOf 63 = .ok (.getfield 40, 3) := by decide +kernel
theorem dX8_wantOf_66 : decode cX8_wantOf 66 = .ok (.getfield 234, 3) := by decide +kernel
theorem dX8_wantOf_69 : decode cX8_wantOf 69 = .ok (.astore_n 2, 1) := by decide +kernel
theorem dX8_wantOf_70 : decode cX8_wantOf 70 = .ok (.aload_n 1, 1) := by decide +kernel
theorem dX8_wantOf_71 : decode cX8_wantOf 71 = .ok (.getfield 64, 3) := by decide +kernel
theorem dX8_wantOf_74 : decode cX8_wantOf 74 = .ok (.aload_n 2, 1) := by decide +kernel
theorem dX8_wantOf_75 : decode cX8_wantOf 75 = .ok (.bipush (-12), 2) := by decide +kernel
theorem dX8_wantOf_77 : decode cX8_wantOf 77 = .ok (.aload_n 0, 1) := by decide +kernel
theorem dX8_wantOf_78 : decode cX8_wantOf 78 = .ok (.getfield 33, 3) := by decide +kernel
theorem dX8_wantOf_81 : decode cX8_wantOf 81 = .ok (.bipush 10, 2) := by decide +kernel
theorem dX8_wantOf_83 : decode cX8_wantOf 83 = .ok (.invokevirtual 249, 3) := by decide +kernel
theorem dX8_wantOf_86 : decode cX8_wantOf 86 = .ok (.imul, 1) := by decide +kernel
theorem dX8_wantOf_87 : decode cX8_wantOf 87 = .ok (.aload_n 1, 1) := by decide +kernel
theorem dX8_wantOf_88 : decode cX8_wantOf 88 = .ok (.getfield 67, 3) := by decide +kernel
theorem dX8_wantOf_91 : decode cX8_wantOf 91 = .ok (.aload_n 2, 1) := by decide +kernel
theorem dX8_wantOf_92 : decode cX8_wantOf 92 = .ok (.bipush (-13), 2) := by decide +kernel
theorem dX8_wantOf_94 : decode cX8_wantOf 94 = .ok (.aload_n 0, 1) := by decide +kernel
theorem dX8_wantOf_95 : decode cX8_wantOf 95 = .ok (.getfield 33, 3) := by decide +kernel
theorem dX8_wantOf_98 : decode cX8_wantOf 98 = .ok (.bipush 20, 2) := by decide +kernel
theorem dX8_wantOf_100 : decode cX8_wantOf 100 = .ok (.invokevirtual 249, 3) := by decide +kernel
theorem dX8_wantOf_103 : decode cX8_wantOf 103 = .ok (.imul, 1) := by decide +kernel
theorem dX8_wantOf_104 : decode cX8_wantOf 104 = .ok (.iadd, 1) := by decide +kernel
theorem dX8_wantOf_105 : decode cX8_wantOf 105 = .ok (.ireturn, 1) := by decide +kernel
theorem dX8_makePlan_0 : decode cX8_makePlan 0 = .ok (.aload_n 0, 1) := by decide +kernel
theorem dX8_makePlan_1 : decode cX8_makePlan 1 = .ok (.getfield 47, 3) := by decide +kernel
theorem dX8_makePlan_4 : decode cX8_makePlan 4 = .ok (.invokevirtual 253, 3) := by decide +kernel
theorem dX8_makePlan_7 : decode cX8_makePlan 7 = .ok (.iconst 0, 1) := by decide +kernel
theorem dX8_makePlan_8 : decode cX8_makePlan 8 = .ok (.istore_n 1, 1) := by decide +kernel
theorem dX8_makePlan_9 : decode cX8_makePlan 9 = .ok (.iload_n 1, 1) := by decide +kernel
theorem dX8_makePlan_10 : decode cX8_makePlan 10 = .ok (.aload_n 0, 1) := by decide +kernel
theorem dX8_makePlan_11 : decode cX8_makePlan 11 = .ok (.getfield 77, 3) := by decide +kernel
theorem dX8_makePlan_14 : decode cX8_makePlan 14 = .ok (.if_icmp .ge 27, 3) := by decide +kernel
theorem dX8_makePlan_17 : decode cX8_makePlan 17 = .ok (.aload_n 0, 1) := by decide +kernel
theorem dX8_makePlan_18 : decode cX8_makePlan 18 = .ok (.getfield 47, 3) := by decide +kernel
theorem dX8_makePlan_21 : decode cX8_makePlan 21 = .ok (.getfield 256, 3) := by decide +kernel
theorem dX8_makePlan_24 : decode cX8_makePlan 24 = .ok (.iload_n 1, 1) := by decide +kernel
theorem dX8_makePlan_25 : decode cX8_makePlan 25 = .ok (.aload_n 0, 1) := by decide +kernel
theorem dX8_makePlan_26 : decode cX8_makePlan 26 = .ok (.getfield 17, 3) := by decide +kernel
theorem dX8_makePlan_29 : decode cX8_makePlan 29 = .ok (.iload_n 1, 1) := by decide +kernel
theorem dX8_makePlan_30 : decode cX8_makePlan 30 = .ok (.aaload, 1) := by decide +kernel
theorem dX8_makePlan_31 : decode cX8_makePlan 31 = .ok (.getfield 86, 3) := by decide +kernel
theorem dX8_makePlan_34 : decode cX8_makePlan 34 = .ok (.iastore, 1) := by decide +kernel
theorem dX8_makePlan_35 : decode cX8_makePlan 35 = .ok (.iinc 1 1, 3) := by decide +kernel
theorem dX8_makePlan_38 : decode cX8_makePlan 38 = .ok (.goto (-29), 3) := by decide +kernel
theorem dX8_makePlan_41 : decode cX8_makePlan 41 = .ok (.iconst 0, 1) := by decide +kernel
theorem dX8_makePlan_42 : decode cX8_makePlan 42 = .ok (.istore_n 1, 1) := by decide +kernel
theorem dX8_makePlan_43 : decode cX8_makePlan 43 = .ok (.iload_n 1, 1) := by decide +kernel
theorem dX8_makePlan_44 : decode cX8_makePlan 44 = .ok (.aload_n 0, 1) := by decide +kernel
theorem dX8_makePlan_45 : decode cX8_makePlan 45 = .ok (.getfield 94, 3) := by decide +kernel
theorem dX8_makePlan_48 : decode cX8_makePlan 48 = .ok (.if_icmp .ge 43, 3) := by decide +kernel
theorem dX8_makePlan_51 : decode cX8_makePlan 51 = .ok (.aload_n 0, 1) := by decide +kernel
theorem dX8_makePlan_52 : decode cX8_makePlan 52 = .ok (.getfield 47, 3) := by decide +kernel
theorem dX8_makePlan_55 : decode cX8_makePlan 55 = .ok (.aload_n 0, 1) := by decide +kernel
theorem dX8_makePlan_56 : decode cX8_makePlan 56 = .ok (.getfield 23, 3) := by decide +kernel
theorem dX8_makePlan_59 : decode cX8_makePlan 59 = .ok (.iload_n 1, 1) := by decide +kernel
theorem dX8_makePlan_60 : decode cX8_makePlan 60 = .ok (.aaload, 1) := by decide +kernel
theorem dX8_makePlan_61 : decode cX8_makePlan 61 = .ok (.getfield 97, 3) := by decide +kernel
theorem dX8_makePlan_64 : decode cX8_makePlan 64 = .ok (.aload_n 0, 1) := by decide +kernel
theorem dX8_makePlan_65 : decode cX8_makePlan 65 = .ok (.getfield 23, 3) := by decide +kernel
theorem dX8_makePlan_68 : decode cX8_makePlan 68 = .ok (.iload_n 1, 1) := by decide +kernel
theorem dX8_makePlan_69 : decode cX8_makePlan 69 = .ok (.aaload, 1) := by decide +kernel
theorem dX8_makePlan_70 : decode cX8_makePlan 70 = .ok (.getfield 100, 3) := by decide +kernel
theorem dX8_makePlan_73 : decode cX8_makePlan 73 = .ok (.aload_n 0, 1) := by decide +kernel
theorem dX8_makePlan_74 : decode cX8_makePlan 74 = .ok (.getfield 23, 3) := by decide +kernel
theorem dX8_makePlan_77 : decode cX8_makePlan 77 = .ok (.iload_n 1, 1) := by decide +kernel
theorem dX8_makePlan_78 : decode cX8_makePlan 78 = .ok (.aaload, 1) := by decide +kernel
theorem dX8_makePlan_79 : decode cX8_makePlan 79 = .ok (.getfield 103, 3) := by decide +kernel
theorem dX8_makePlan_82 : decode cX8_makePlan 82 = .ok (.invokevirtual 259, 3) := by decide +kernel
theorem dX8_makePlan_85 : decode cX8_makePlan 85 = .ok (.iinc 1 1, 3) := by decide +kernel
theorem dX8_makePlan_88 : decode cX8_makePlan 88 = .ok (.goto (-45), 3) := by decide +kernel
theorem dX8_makePlan_91 : decode cX8_makePlan 91 = .ok (.iconst 0, 1) := by decide +kernel
theorem dX8_makePlan_92 : decode cX8_makePlan 92 = .ok (.istore_n 1, 1) := by decide +kernel
theorem dX8_makePlan_93 : decode cX8_makePlan 93 = .ok (.iload_n 1, 1) := by decide +kernel
theorem dX8_makePlan_94 : decode cX8_makePlan 94 = .ok (.aload_n 0, 1) := by decide +kernel
theorem dX8_makePlan_95 : decode cX8_makePlan 95 = .ok (.getfield 60, 3) := by decide +kernel
theorem dX8_makePlan_98 : decode cX8_makePlan 98 = .ok (.if_icmp .ge 40, 3) := by decide +kernel
theorem dX8_makePlan_101 : decode cX8_makePlan 101 = .ok (.aload_n 0, 1) := by decide +kernel
theorem dX8_makePlan_102 : decode cX8_makePlan 102 = .ok (.aload_n 0, 1) := by decide +kernel
theorem dX8_makePlan_103 : decode cX8_makePlan 103 = .ok (.getfield 11, 3) := by decide +kernel
theorem dX8_makePlan_106 : decode cX8_makePlan 106 = .ok (.iload_n 1, 1) := by decide +kernel
theorem dX8_makePlan_107 : decode cX8_makePlan 107 = .ok (.aaload, 1) := by decide +kernel
theorem dX8_makePlan_108 : decode cX8_makePlan 108 = .ok (.invokevirtual 129, 3) := by decide +kernel
theorem dX8_makePlan_111 : decode cX8_makePlan 111 = .ok (.aload_n 0, 1) := by decide +kernel
theorem dX8_makePlan_112 : decode cX8_makePlan 112 = .ok (.getfield 11, 3) := by decide +kernel
theorem dX8_makePlan_115 : decode cX8_makePlan 115 = .ok (.iload_n 1, 1) := by decide +kernel
theorem dX8_makePlan_116 : decode cX8_makePlan 116 = .ok (.aaload, 1) := by decide +kernel
theorem dX8_makePlan_117 : decode cX8_makePlan 117 = .ok (.getfield 73, 3) := by decide +kernel
theorem dX8_makePlan_120 : decode cX8_makePlan 120 = .ok (.isub, 1) := by decide +kernel
theorem dX8_makePlan_121 : decode cX8_makePlan 121 = .ok (.istore_n 2, 1) := by decide +kernel
theorem dX8_makePlan_122 : decode cX8_makePlan 122 = .ok (.iload_n 2, 1) := by decide +kernel
theorem dX8_makePlan_123 : decode cX8_makePlan 123 = .ok (.ifCond .le 9, 3) := by decide +kernel
theorem dX8_makePlan_126 : decode cX8_makePlan 126 = .ok (.aload_n 0, 1) := by decide +kernel
theorem dX8_makePlan_127 : decode cX8_makePlan 127 = .ok (.iload_n 1, 1) := by decide +kernel
theorem dX8_makePlan_128 : decode cX8_makePlan 128 = .ok (.iload_n 2, 1) := by decide +kernel
theorem dX8_makePlan_129 : decode cX8_makePlan 129 = .ok (.invokevirtual 263, 3) := by decide +kernel
theorem dX8_makePlan_132 : decode cX8_makePlan 132 = .ok (.iinc 1 1, 3) := by decide +kernel
theorem dX8_makePlan_135 : decode cX8_makePlan 135 = .ok (.goto (-42), 3) := by decide +kernel
theorem dX8_makePlan_138 : decode cX8_makePlan 138 = .ok (.aload_n 0, 1) := by decide +kernel
theorem dX8_makePlan_139 : decode cX8_makePlan 139 = .ok (.getfield 47, 3) := by decide +kernel
theorem dX8_makePlan_142 : decode cX8_makePlan 142 = .ok (.invokevirtual 267, 3) := by decide +kernel
theorem dX8_makePlan_145 : decode cX8_makePlan 145 = .ok (.return_, 1) := by decide +kernel
theorem dX8_addNeedy_0 : decode cX8_addNeedy 0 = .ok (.aload_n 0, 1) := by decide +kernel
theorem dX8_addNeedy_1 : decode cX8_addNeedy 1 = .ok (.getfield 47, 3) := by decide +kernel
theorem dX8_addNeedy_4 : decode cX8_addNeedy 4 = .ok (.dup, 1) := by decide +kernel
theorem dX8_addNeedy_5 : decode cX8_addNeedy 5 = .ok (.getfield 136, 3) := by decide +kernel
theorem dX8_addNeedy_8 : decode cX8_addNeedy 8 = .ok (.iconst 1, 1) := by decide +kernel
theorem dX8_addNeedy_9 : decode cX8_addNeedy 9 = .ok (.iadd, 1) := by decide +kernel
theorem dX8_addNeedy_10 : decode cX8_addNeedy 10 = .ok (.putfield 136, 3) := by decide +kernel
theorem dX8_addNeedy_13 : decode cX8_addNeedy 13 = .ok (.aload_n 0, 1) := by decide +kernel
theorem dX8_addNeedy_14 : decode cX8_addNeedy 14 = .ok (.getfield 47, 3) := by decide +kernel
theorem dX8_addNeedy_17 : decode cX8_addNeedy 17 = .ok (.getfield 136, 3) := by decide +kernel
theorem dX8_addNeedy_20 : decode cX8_addNeedy 20 = .ok (.bipush 6, 2) := by decide +kernel
theorem dX8_addNeedy_22 : decode cX8_addNeedy 22 = .ok (.if_icmp .le 4, 3) := by decide +kernel
theorem dX8_addNeedy_25 : decode cX8_addNeedy 25 = .ok (.return_, 1) := by decide +kernel
theorem dX8_addNeedy_26 : decode cX8_addNeedy 26 = .ok (.aload_n 0, 1) := by decide +kernel
theorem dX8_addNeedy_27 : decode cX8_addNeedy 27 = .ok (.getfield 47, 3) := by decide +kernel
theorem dX8_addNeedy_30 : decode cX8_addNeedy 30 = .ok (.iload_n 1, 1) := by decide +kernel
theorem dX8_addNeedy_31 : decode cX8_addNeedy 31 = .ok (.iload_n 2, 1) := by decide +kernel
theorem dX8_addNeedy_32 : decode cX8_addNeedy 32 = .ok (.aload_n 0, 1) := by decide +kernel
theorem dX8_addNeedy_33 : decode cX8_addNeedy 33 = .ok (.getfield 11, 3) := by decide +kernel
theorem dX8_addNeedy_36 : decode cX8_addNeedy 36 = .ok (.iload_n 1, 1) := by decide +kernel
theorem dX8_addNeedy_37 : decode cX8_addNeedy 37 = .ok (.aaload, 1) := by decide +kernel
theorem dX8_addNeedy_38 : decode cX8_addNeedy 38 = .ok (.invokevirtual 270, 3) := by decide +kernel
theorem dX8_addNeedy_41 : decode cX8_addNeedy 41 = .ok (.invokevirtual 273, 3) := by decide +kernel
theorem dX8_addNeedy_44 : decode cX8_addNeedy 44 = .ok (.iconst 0, 1) := by decide +kernel
theorem dX8_addNeedy_45 : decode cX8_addNeedy 45 = .ok (.istore_n 3, 1) := by decide +kernel
theorem dX8_addNeedy_46 : decode cX8_addNeedy 46 = .ok (.iload_n 3, 1) := by decide +kernel
theorem dX8_addNeedy_47 : decode cX8_addNeedy 47 = .ok (.aload_n 0, 1) := by decide +kernel
theorem dX8_addNeedy_48 : decode cX8_addNeedy 48 = .ok (.getfield 94, 3) := by decide +kernel
theorem dX8_addNeedy_51 : decode cX8_addNeedy 51 = .ok (.if_icmp .ge 54, 3) := by decide +kernel
theorem dX8_addNeedy_54 : decode cX8_addNeedy 54 = .ok (.aload_n 0, 1) := by decide +kernel
theorem dX8_addNeedy_55 : decode cX8_addNeedy 55 = .ok (.aload_n 0, 1) := by decide +kernel
theorem dX8_addNeedy_56 : decode cX8_addNeedy 56 = .ok (.getfield 23, 3) := by decide +kernel
theorem dX8_addNeedy_59 : decode cX8_addNeedy 59 = .ok (.iload_n 3, 1) := by decide +kernel
theorem dX8_addNeedy_60 : decode cX8_addNeedy 60 = .ok (.aaload, 1) := by decide +kernel
theorem dX8_addNeedy_61 : decode cX8_addNeedy 61 = .ok (.getfield 97, 3) := by decide +kernel
theorem dX8_addNeedy_64 : decode cX8_addNeedy 64 = .ok (.invokevirtual 90, 3) := by decide +kernel
theorem dX8_addNeedy_67 : decode cX8_addNeedy 67 = .ok (.ifCond .eq 32, 3) := by decide +kernel
theorem dX8_addNeedy_70 : decode cX8_addNeedy 70 = .ok (.aload_n 0, 1) := by decide +kernel
theorem dX8_addNeedy_71 : decode cX8_addNeedy 71 = .ok (.getfield 47, 3) := by decide +kernel
theorem dX8_addNeedy_74 : decode cX8_addNeedy 74 = .ok (.iload_n 3, 1) := by decide +kernel
theorem dX8_addNeedy_75 : decode cX8_addNeedy 75 = .ok (.iconst 2, 1) := by decide +kernel
theorem dX8_addNeedy_76 : decode cX8_addNeedy 76 = .ok (.aload_n 0, 1) := by decide +kernel
theorem dX8_addNeedy_77 : decode cX8_addNeedy 77 = .ok (.getfield 17, 3) := by decide +kernel
theorem dX8_addNeedy_80 : decode cX8_addNeedy 80 = .ok (.aload_n 0, 1) := by decide +kernel
theorem dX8_addNeedy_81 : decode cX8_addNeedy 81 = .ok (.getfield 23, 3) := by decide +kernel
theorem dX8_addNeedy_84 : decode cX8_addNeedy 84 = .ok (.iload_n 3, 1) := by decide +kernel
theorem dX8_addNeedy_85 : decode cX8_addNeedy 85 = .ok (.aaload, 1) := by decide +kernel
theorem dX8_addNeedy_86 : decode cX8_addNeedy 86 = .ok (.getfield 97, 3) := by decide +kernel
theorem dX8_addNeedy_89 : decode cX8_addNeedy 89 = .ok (.aaload, 1) := by decide +kernel
theorem dX8_addNeedy_90 : decode cX8_addNeedy 90 = .ok (.getfield 109, 3) := by decide +kernel
theorem dX8_addNeedy_93 : decode cX8_addNeedy 93 = .ok (.iload_n 1, 1) := by decide +kernel
theorem dX8_addNeedy_94 : decode cX8_addNeedy 94 = .ok (.iaload, 1) := by decide +kernel
theorem dX8_addNeedy_95 : decode cX8_addNeedy 95 = .ok (.imul, 1) := by decide +kernel
theorem dX8_addNeedy_96 : decode cX8_addNeedy 96 = .ok (.invokevirtual 276, 3) := by decide +kernel
theorem dX8_addNeedy_99 : decode cX8_addNeedy 99 = .ok (.iinc 3 1, 3) := by decide +kernel
theorem dX8_addNeedy_102 : decode cX8_addNeedy 102 = .ok (.goto (-56), 3) := by decide +kernel
theorem dX8_addNeedy_105 : decode cX8_addNeedy 105 = .ok (.return_, 1) := by decide +kernel
theorem dX8_passDay_0 : decode cX8_passDay 0 = .ok (.iconst 0, 1) := by decide +kernel
theorem dX8_passDay_1 : decode cX8_passDay 1 = .ok (.istore_n 1, 1) := by decide +kernel
theorem dX8_passDay_2 : decode cX8_passDay 2 = .ok (.iload_n 1, 1) := by decide +kernel
theorem dX8_passDay_3 : decode cX8_passDay 3 = .ok (.aload_n 0, 1) := by decide +kernel
theorem dX8_passDay_4 : decode cX8_passDay 4 = .ok (.getfield 77, 3) := by decide +kernel
theorem dX8_passDay_7 : decode cX8_passDay 7 = .ok (.if_icmp .ge 18, 3) := by decide +kernel
theorem dX8_passDay_10 : decode cX8_passDay 10 = .ok (.aload_n 0, 1) := by decide +kernel
theorem dX8_passDay_11 : decode cX8_passDay 11 = .ok (.getfield 17, 3) := by decide +kernel
theorem dX8_passDay_14 : decode cX8_passDay 14 = .ok (.iload_n 1, 1) := by decide +kernel
theorem dX8_passDay_15 : decode cX8_passDay 15 = .ok (.aaload, 1) := by decide +kernel
theorem dX8_passDay_16 : decode cX8_passDay 16 = .ok (.invokevirtual 279, 3) := by decide +kernel
theorem dX8_passDay_19 : decode cX8_passDay 19 = .ok (.iinc 1 1, 3) := by decide +kernel
theorem dX8_passDay_22 : decode cX8_passDay 22 = .ok (.goto (-20), 3) := by decide +kernel
theorem dX8_passDay_25 : decode cX8_passDay 25 = .ok (.iconst 0, 1) := by decide +kernel
theorem dX8_passDay_26 : decode cX8_passDay 26 = .ok (.istore_n 1, 1) := by decide +kernel
theorem dX8_passDay_27 : decode cX8_passDay 27 = .ok (.iload_n 1, 1) := by decide +kernel
theorem dX8_passDay_28 : decode cX8_passDay 28 = .ok (.aload_n 0, 1) := by decide +kernel
theorem dX8_passDay_29 : decode cX8_passDay 29 = .ok (.getfield 60, 3) := by decide +kernel
theorem dX8_passDay_32 : decode cX8_passDay 32 = .ok (.if_icmp .ge 27, 3) := by decide +kernel
theorem dX8_passDay_35 : decode cX8_passDay 35 = .ok (.aload_n 0, 1) := by decide +kernel
theorem dX8_passDay_36 : decode cX8_passDay 36 = .ok (.getfield 11, 3) := by decide +kernel
theorem dX8_passDay_39 : decode cX8_passDay 39 = .ok (.iload_n 1, 1) := by decide +kernel
theorem dX8_passDay_40 : decode cX8_passDay 40 = .ok (.aaload, 1) := by decide +kernel
theorem dX8_passDay_41 : decode cX8_passDay 41 = .ok (.aload_n 0, 1) := by decide +kernel
theorem dX8_passDay_42 : decode cX8_passDay 42 = .ok (.getfield 11, 3) := by decide +kernel
theorem dX8_passDay_45 : decode cX8_passDay 45 = .ok (.iload_n 1, 1) := by decide +kernel
theorem dX8_passDay_46 : decode cX8_passDay 46 = .ok (.aaload, 1) := by decide +kernel
theorem dX8_passDay_47 : decode cX8_passDay 47 = .ok (.getfield 160, 3) := by decide +kernel
theorem dX8_passDay_50 : decode cX8_passDay 50 = .ok (.invokevirtual 282, 3) := by decide +kernel
theorem dX8_passDay_53 : decode cX8_passDay 53 = .ok (.iinc 1 1, 3) := by decide +kernel
theorem dX8_passDay_56 : decode cX8_passDay 56 = .ok (.goto (-29), 3) := by decide +kernel
theorem dX8_passDay_59 : decode cX8_passDay 59 = .ok (.iconst 0, 1) := by decide +kernel
theorem dX8_passDay_60 : decode cX8_passDay 60 = .ok (.istore_n 1, 1) := by decide +kernel
theorem dX8_passDay_61 : decode cX8_passDay 61 = .ok (.iload_n 1, 1) := by decide +kernel
theorem dX8_passDay_62 : decode cX8_passDay 62 = .ok (.aload_n 0, 1) := by decide +kernel
theorem dX8_passDay_63 : decode cX8_passDay 63 = .ok (.getfield 94, 3) := by decide +kernel
theorem dX8_passDay_66 : decode cX8_passDay 66 = .ok (.if_icmp .ge 19, 3) := by decide +kernel
theorem dX8_passDay_69 : decode cX8_passDay 69 = .ok (.aload_n 0, 1) := by decide +kernel
theorem dX8_passDay_70 : decode cX8_passDay 70 = .ok (.getfield 23, 3) := by decide +kernel
theorem dX8_passDay_73 : decode cX8_passDay 73 = .ok (.iload_n 1, 1) := by decide +kernel
theorem dX8_passDay_74 : decode cX8_passDay 74 = .ok (.aaload, 1) := by decide +kernel
theorem dX8_passDay_75 : decode cX8_passDay 75 = .ok (.iconst 0, 1) := by decide +kernel
theorem dX8_passDay_76 : decode cX8_passDay 76 = .ok (.putfield 219, 3) := by decide +kernel
theorem dX8_passDay_79 : decode cX8_passDay 79 = .ok (.iinc 1 1, 3) := by decide +kernel
theorem dX8_passDay_82 : decode cX8_passDay 82 = .ok (.goto (-21), 3) := by decide +kernel
theorem dX8_passDay_85 : decode cX8_passDay 85 = .ok (.aload_n 0, 1) := by decide +kernel
theorem dX8_passDay_86 : decode cX8_passDay 86 = .ok (.invokevirtual 133, 3) := by decide +kernel
theorem dX8_passDay_89 : decode cX8_passDay 89 = .ok (.iconst 0, 1) := by decide +kernel
theorem dX8_passDay_90 : decode cX8_passDay 90 = .ok (.istore_n 1, 1) := by decide +kernel
theorem dX8_passDay_91 : decode cX8_passDay 91 = .ok (.iload_n 1, 1) := by decide +kernel
theorem dX8_passDay_92 : decode cX8_passDay 92 = .ok (.aload_n 0, 1) := by decide +kernel
theorem dX8_passDay_93 : decode cX8_passDay 93 = .ok (.getfield 47, 3) := by decide +kernel
theorem dX8_passDay_96 : decode cX8_passDay 96 = .ok (.getfield 145, 3) := by decide +kernel
theorem dX8_passDay_99 : decode cX8_passDay 99 = .ok (.if_icmp .ge 31, 3) := by decide +kernel
theorem dX8_passDay_102 : decode cX8_passDay 102 = .ok (.aload_n 0, 1) := by decide +kernel
theorem dX8_passDay_103 : decode cX8_passDay 103 = .ok (.aload_n 0, 1) := by decide +kernel
theorem dX8_passDay_104 : decode cX8_passDay 104 = .ok (.getfield 47, 3) := by decide +kernel
theorem dX8_passDay_107 : decode cX8_passDay 107 = .ok (.getfield 151, 3) := by decide +kernel
theorem dX8_passDay_110 : decode cX8_passDay 110 = .ok (.iload_n 1, 1) := by decide +kernel
theorem dX8_passDay_111 : decode cX8_passDay 111 = .ok (.iaload, 1) := by decide +kernel
theorem dX8_passDay_112 : decode cX8_passDay 112 = .ok (.aload_n 0, 1) := by decide +kernel
theorem dX8_passDay_113 : decode cX8_passDay 113 = .ok (.getfield 47, 3) := by decide +kernel
theorem dX8_passDay_116 : decode cX8_passDay 116 = .ok (.getfield 148, 3) := by decide +kernel
theorem dX8_passDay_119 : decode cX8_passDay 119 = .ok (.iload_n 1, 1) := by decide +kernel
theorem dX8_passDay_120 : decode cX8_passDay 120 = .ok (.iaload, 1) := by decide +kernel
theorem dX8_passDay_121 : decode cX8_passDay 121 = .ok (.invokevirtual 286, 3) := by decide +kernel
theorem dX8_passDay_124 : decode cX8_passDay 124 = .ok (.iinc 1 1, 3) := by decide +kernel
theorem dX8_passDay_127 : decode cX8_passDay 127 = .ok (.goto (-36), 3) := by decide +kernel
theorem dX8_passDay_130 : decode cX8_passDay 130 = .ok (.aload_n 0, 1) := by decide +kernel
theorem dX8_passDay_131 : decode cX8_passDay 131 = .ok (.invokevirtual 289, 3) := by decide +kernel
theorem dX8_passDay_134 : decode cX8_passDay 134 = .ok (.aload_n 0, 1) := by decide +kernel
theorem dX8_passDay_135 : decode cX8_passDay 135 = .ok (.dup, 1) := by decide +kernel
theorem dX8_passDay_136 : decode cX8_passDay 136 = .ok (.getfield 154, 3) := by decide +kernel
theorem dX8_passDay_139 : decode cX8_passDay 139 = .ok (.iconst 1, 1) := by decide +kernel
theorem dX8_passDay_140 : decode cX8_passDay 140 = .ok (.iadd, 1) := by decide +kernel
theorem dX8_passDay_141 : decode cX8_passDay 141 = .ok (.putfield 154, 3) := by decide +kernel
theorem dX8_passDay_144 : decode cX8_passDay 144 = .ok (.return_, 1) := by decide +kernel
theorem dX8_drive_0 : decode cX8_drive 0 = .ok (.aload_n 0, 1) := by decide +kernel
theorem dX8_drive_1 : decode cX8_drive 1 = .ok (.iload_n 1, 1) := by decide +kernel
theorem dX8_drive_2 : decode cX8_drive 2 = .ok (.invokevirtual 195, 3) := by decide +kernel
theorem dX8_drive_5 : decode cX8_drive 5 = .ok (.ifCond .eq 27, 3) := by decide +kernel
theorem dX8_drive_8 : decode cX8_drive 8 = .ok (.aload_n 0, 1) := by decide +kernel
theorem dX8_drive_9 : decode cX8_drive 9 = .ok (.iload_n 2, 1) := by decide +kernel
theorem dX8_drive_10 : decode cX8_drive 10 = .ok (.invokevirtual 106, 3) := by decide +kernel
theorem dX8_drive_13 : decode cX8_drive 13 = .ok (.ifCond .eq 19, 3) := by decide +kernel
theorem dX8_drive_16 : decode cX8_drive 16 = .ok (.aload_n 0, 1) := by decide +kernel
theorem dX8_drive_17 : decode cX8_drive 17 = .ok (.aload_n 0, 1) := by decide +kernel
theorem dX8_drive_18 : decode cX8_drive 18 = .ok (.getfield 23, 3) := by decide +kernel
theorem dX8_drive_21 : decode cX8_drive 21 = .ok (.iload_n 1, 1) := by decide +kernel
theorem dX8_drive_22 : decode cX8_drive 22 = .ok (.aaload, 1) := by decide +kernel
theorem dX8_drive_23 : decode cX8_drive 23 = .ok (.getfield 97, 3) := by decide +kernel
theorem dX8_drive_26 : decode cX8_drive 26 = .ok (.invokevirtual 90, 3) := by decide +kernel
theorem dX8_drive_29 : decode cX8_drive 29 = .ok (.ifCond .ne 4, 3) := by decide +kernel
theorem dX8_drive_32 : decode cX8_drive 32 = .ok (.return_, 1) := by decide +kernel
theorem dX8_drive_33 : decode cX8_drive 33 = .ok (.aload_n 0, 1) := by decide +kernel
theorem dX8_drive_34 : decode cX8_drive 34 = .ok (.getfield 23, 3) := by decide +kernel
theorem dX8_drive_37 : decode cX8_drive 37 = .ok (.iload_n 1, 1) := by decide +kernel
theorem dX8_drive_38 : decode cX8_drive 38 = .ok (.aaload, 1) := by decide +kernel
theorem dX8_drive_39 : decode cX8_drive 39 = .ok (.astore_n 3, 1) := by decide +kernel
theorem dX8_drive_40 : decode cX8_drive 40 = .ok (.aload_n 0, 1) := by decide +kernel
theorem dX8_drive_41 : decode cX8_drive 41 = .ok (.getfield 17, 3) := by decide +kernel
theorem dX8_drive_44 : decode cX8_drive 44 = .ok (.aload_n 3, 1) := by decide +kernel
theorem dX8_drive_45 : decode cX8_drive 45 = .ok (.getfield 97, 3) := by decide +kernel
theorem dX8_drive_48 : decode cX8_drive 48 = .ok (.aaload, 1) := by decide +kernel
theorem dX8_drive_49 : decode cX8_drive 49 = .ok (.astore 4, 2) := by decide +kernel
theorem dX8_drive_51 : decode cX8_drive 51 = .ok (.aload_n 0, 1) := by decide +kernel
theorem dX8_drive_52 : decode cX8_drive 52 = .ok (.getfield 11, 3) := by decide +kernel
theorem dX8_drive_55 : decode cX8_drive 55 = .ok (.iload_n 2, 1) := by decide +kernel
theorem dX8_drive_56 : decode cX8_drive 56 = .ok (.aaload, 1) := by decide +kernel
theorem dX8_drive_57 : decode cX8_drive 57 = .ok (.astore 5, 2) := by decide +kernel
theorem dX8_drive_59 : decode cX8_drive 59 = .ok (.aload_n 3, 1) := by decide +kernel
theorem dX8_drive_60 : decode cX8_drive 60 = .ok (.getfield 100, 3) := by decide +kernel
theorem dX8_drive_63 : decode cX8_drive 63 = .ok (.aload 4, 2) := by decide +kernel
theorem dX8_drive_65 : decode cX8_drive 65 = .ok (.getfield 86, 3) := by decide +kernel
theorem dX8_drive_68 : decode cX8_drive 68 = .ok (.invokestatic 163, 3) := by decide +kernel
theorem dX8_drive_71 : decode cX8_drive 71 = .ok (.aload 5, 2) := by decide +kernel
theorem dX8_drive_73 : decode cX8_drive 73 = .ok (.invokevirtual 270, 3) := by decide +kernel
theorem dX8_drive_76 : decode cX8_drive 76 = .ok (.invokestatic 163, 3) := by decide +kernel
theorem dX8_drive_79 : decode cX8_drive 79 = .ok (.istore 6, 2) := by decide +kernel
theorem dX8_drive_81 : decode cX8_drive 81 = .ok (.aload 4, 2) := by decide +kernel
theorem dX8_drive_83 : decode cX8_drive 83 = .ok (.dup, 1) := by decide +kernel
theorem dX8_drive_84 : decode cX8_drive 84 = .ok (.getfield 86, 3) := by decide +kernel
theorem dX8_drive_87 : decode cX8_drive 87 = .ok (.iload 6, 2) := by decide +kernel
theorem dX8_drive_89 : decode cX8_drive 89 = .ok (.isub, 1) := by decide +kernel
theorem dX8_drive_90 : decode cX8_drive 90 = .ok (.putfield 86, 3) := by decide +kernel
theorem dX8_drive_93 : decode cX8_drive 93 = .ok (.aload 5, 2) := by decide +kernel
theorem dX8_drive_95 : decode cX8_drive 95 = .ok (.iload 6, 2) := by decide +kernel
theorem dX8_drive_97 : decode cX8_drive 97 = .ok (.invokevirtual 282, 3) := by decide +kernel
theorem dX8_drive_100 : decode cX8_drive 100 = .ok (.aload 5, 2) := by decide +kernel
theorem dX8_drive_102 : decode cX8_drive 102 = .ok (.dup, 1) := by decide +kernel
theorem dX8_drive_103 : decode cX8_drive 103 = .ok (.getfield 292, 3) := by decide +kernel
theorem dX8_drive_106 : decode cX8_drive 106 = .ok (.iconst 1, 1) := by decide +kernel
theorem dX8_drive_107 : decode cX8_drive 107 = .ok (.iadd, 1) := by decide +kernel
theorem dX8_drive_108 : decode cX8_drive 108 = .ok (.putfield 292, 3) := by decide +kernel
theorem dX8_drive_111 : decode cX8_drive 111 = .ok (.aload_n 3, 1) := by decide +kernel
theorem dX8_drive_112 : decode cX8_drive 112 = .ok (.iload 6, 2) := by decide +kernel
theorem dX8_drive_114 : decode cX8_drive 114 = .ok (.iconst 2, 1) := by decide +kernel
theorem dX8_drive_115 : decode cX8_drive 115 = .ok (.aload 4, 2) := by decide +kernel
theorem dX8_drive_117 : decode cX8_drive 117 = .ok (.getfield 109, 3) := by decide +kernel
theorem dX8_drive_120 : decode cX8_drive 120 = .ok (.iload_n 2, 1) := by decide +kernel
theorem dX8_drive_121 : decode cX8_drive 121 = .ok (.iaload, 1) := by decide +kernel
theorem dX8_drive_122 : decode cX8_drive 122 = .ok (.imul, 1) := by decide +kernel
theorem dX8_drive_123 : decode cX8_drive 123 = .ok (.invokevirtual 295, 3) := by decide +kernel
theorem dX8_drive_126 : decode cX8_drive 126 = .ok (.return_, 1) := by decide +kernel
theorem dX8_giveToAll_0 : decode cX8_giveToAll 0 = .ok (.iconst 0, 1) := by decide +kernel
theorem dX8_giveToAll_1 : decode cX8_giveToAll 1 = .ok (.istore_n 1, 1) := by decide +kernel
theorem dX8_giveToAll_2 : decode cX8_giveToAll 2 = .ok (.aload_n 0, 1) := by decide +kernel
theorem dX8_giveToAll_3 : decode cX8_giveToAll 3 = .ok (.getfield 154, 3) := by decide +kernel
theorem dX8_giveToAll_6 : decode cX8_giveToAll 6 = .ok (.bipush 7, 2) := by decide +kernel
theorem dX8_giveToAll_8 : decode cX8_giveToAll 8 = .ok (.invokestatic 298, 3) := by decide +kernel
theorem dX8_giveToAll_11 : decode cX8_giveToAll 11 = .ok (.istore_n 2, 1) := by decide +kernel
theorem dX8_giveToAll_12 : decode cX8_giveToAll 12 = .ok (.iconst 0, 1) := by decide +kernel
theorem dX8_giveToAll_13 : decode cX8_giveToAll 13 = .ok (.istore_n 3, 1) := by decide +kernel
theorem dX8_giveToAll_14 : decode cX8_giveToAll 14 = .ok (.iload_n 3, 1) := by decide +kernel
theorem dX8_giveToAll_15 : decode cX8_giveToAll 15 = .ok (.aload_n 0, 1) := by decide +kernel
theorem dX8_giveToAll_16 : decode cX8_giveToAll 16 = .ok (.getfield 60, 3) := by decide +kernel
theorem dX8_giveToAll_19 : decode cX8_giveToAll 19 = .ok (.if_icmp .ge 67, 3) := by decide +kernel
theorem dX8_giveToAll_22 : decode cX8_giveToAll 22 = .ok (.aload_n 0, 1) := by decide +kernel
theorem dX8_giveToAll_23 : decode cX8_giveToAll 23 = .ok (.getfield 11, 3) := by decide +kernel
theorem dX8_giveToAll_26 : decode cX8_giveToAll 26 = .ok (.iload_n 3, 1) := by decide +kernel
theorem dX8_giveToAll_27 : decode cX8_giveToAll 27 = .ok (.aaload, 1) := by decide +kernel
theorem dX8_giveToAll_28 : decode cX8_giveToAll 28 = .ok (.aload_n 0, 1) := by decide +kernel
theorem dX8_giveToAll_29 : decode cX8_giveToAll 29 = .ok (.aload_n 0, 1) := by decide +kernel
theorem dX8_giveToAll_30 : decode cX8_giveToAll 30 = .ok (.getfield 11, 3) := by decide +kernel
theorem dX8_giveToAll_33 : decode cX8_giveToAll 33 = .ok (.iload_n 3, 1) := by decide +kernel
theorem dX8_giveToAll_34 : decode cX8_giveToAll 34 = .ok (.aaload, 1) := by decide +kernel
theorem dX8_giveToAll_35 : decode cX8_giveToAll 35 = .ok (.invokevirtual 129, 3) := by decide +kernel
theorem dX8_giveToAll_38 : decode cX8_giveToAll 38 = .ok (.iload_n 2, 1) := by decide +kernel
theorem dX8_giveToAll_39 : decode cX8_giveToAll 39 = .ok (.invokevirtual 301, 3) := by decide +kernel
theorem dX8_giveToAll_42 : decode cX8_giveToAll 42 = .ok (.aload_n 0, 1) := by decide +kernel
theorem dX8_giveToAll_43 : decode cX8_giveToAll 43 = .ok (.dup, 1) := by decide +kernel
theorem dX8_giveToAll_44 : decode cX8_giveToAll 44 = .ok (.getfield 231, 3) := by decide +kernel
theorem dX8_giveToAll_47 : decode cX8_giveToAll 47 = .ok (.aload_n 0, 1) := by decide +kernel
theorem dX8_giveToAll_48 : decode cX8_giveToAll 48 = .ok (.getfield 11, 3) := by decide +kernel
theorem dX8_giveToAll_51 : decode cX8_giveToAll 51 = .ok (.iload_n 3, 1) := by decide +kernel
theorem dX8_giveToAll_52 : decode cX8_giveToAll 52 = .ok (.aaload, 1) := by decide +kernel
theorem dX8_giveToAll_53 : decode cX8_giveToAll 53 = .ok (.getfield 304, 3) := by decide +kernel
theorem dX8_giveToAll_56 : decode cX8_giveToAll 56 = .ok (.iadd, 1) := by decide +kernel
theorem dX8_giveToAll_57 : decode cX8_giveToAll 57 = .ok (.putfield 231, 3) := by decide +kernel
theorem dX8_giveToAll_60 : decode cX8_giveToAll 60 = .ok (.iload_n 1, 1) := by decide +kernel
theorem dX8_giveToAll_61 : decode cX8_giveToAll 61 = .ok (.aload_n 0, 1) := by decide +kernel
theorem dX8_giveToAll_62 : decode cX8_giveToAll 62 = .ok (.getfield 11, 3) := by decide +kernel
theorem dX8_giveToAll_65 : decode cX8_giveToAll 65 = .ok (.iload_n 3, 1) := by decide +kernel
theorem dX8_giveToAll_66 : decode cX8_giveToAll 66 = .ok (.aaload, 1) := by decide +kernel
theorem dX8_giveToAll_67 : decode cX8_giveToAll 67 = .ok (.getfield 307, 3) := by decide +kernel
theorem dX8_giveToAll_70 : decode cX8_giveToAll 70 = .ok (.ifCond .eq 7, 3) := by decide +kernel
theorem dX8_giveToAll_73 : decode cX8_giveToAll 73 = .ok (.iconst 1, 1) := by decide +kernel
theorem dX8_giveToAll_74 : decode cX8_giveToAll 74 = .ok (.goto 4, 3) := by decide +kernel
theorem dX8_giveToAll_77 : decode cX8_giveToAll 77 = .ok (.iconst 0, 1) := by decide +kernel
theorem dX8_giveToAll_78 : decode cX8_giveToAll 78 = .ok (.iadd, 1) := by decide +kernel
theorem dX8_giveToAll_79 : decode cX8_giveToAll 79 = .ok (.istore_n 1, 1) := by decide +kernel
theorem dX8_giveToAll_80 : decode cX8_giveToAll 80 = .ok (.iinc 3 1, 3) := by decide +kernel
theorem dX8_giveToAll_83 : decode cX8_giveToAll 83 = .ok (.goto (-69), 3) := by decide +kernel
theorem dX8_giveToAll_86 : decode cX8_giveToAll 86 = .ok (.aload_n 0, 1) := by decide +kernel
theorem dX8_giveToAll_87 : decode cX8_giveToAll 87 = .ok (.iload_n 1, 1) := by decide +kernel
theorem dX8_giveToAll_88 : decode cX8_giveToAll 88 = .ok (.putfield 228, 3) := by decide +kernel
theorem dX8_giveToAll_91 : decode cX8_giveToAll 91 = .ok (.return_, 1) := by decide +kernel
theorem dX8_costOf_0 : decode cX8_costOf 0 = .ok (.iconst 0, 1) := by decide +kernel
theorem dX8_costOf_1 : decode cX8_costOf 1 = .ok (.istore_n 2, 1) := by decide +kernel
theorem dX8_costOf_2 : decode cX8_costOf 2 = .ok (.iconst 0, 1) := by decide +kernel
theorem dX8_costOf_3 : decode cX8_costOf 3 = .ok (.istore_n 3, 1) := by decide +kernel
theorem dX8_costOf_4 : decode cX8_costOf 4 = .ok (.iload_n 3, 1) := by decide +kernel
theorem dX8_costOf_5 : decode cX8_costOf 5 = .ok (.aload_n 0, 1) := by decide +kernel
theorem dX8_costOf_6 : decode cX8_costOf 6 = .ok (.getfield 169, 3) := by decide +kernel
theorem dX8_costOf_9 : decode cX8_costOf 9 = .ok (.if_icmp .ge 27, 3) := by decide +kernel
theorem dX8_costOf_12 : decode cX8_costOf 12 = .ok (.iload_n 2, 1) := by decide +kernel
theorem dX8_costOf_13 : decode cX8_costOf 13 = .ok (.iload_n 1, 1) := by decide +kernel
theorem dX8_costOf_14 : decode cX8_costOf 14 = .ok (.iload_n 3, 1) := by decide +kernel
theorem dX8_costOf_15 : decode cX8_costOf 15 = .ok (.ishr, 1) := by decide +kernel
theorem dX8_costOf_16 : decode cX8_costOf 16 = .ok (.iconst 1, 1) := by decide +kernel
theorem dX8_costOf_17 : decode cX8_costOf 17 = .ok (.iand, 1) := by decide +kernel
theorem dX8_costOf_18 : decode cX8_costOf 18 = .ok (.aload_n 0, 1) := by decide +kernel
theorem dX8_costOf_19 : decode cX8_costOf 19 = .ok (.getfield 29, 3) := by decide +kernel
theorem dX8_costOf_22 : decode cX8_costOf 22 = .ok (.iload_n 3, 1) := by decide +kernel
theorem dX8_costOf_23 : decode cX8_costOf 23 = .ok (.aaload, 1) := by decide +kernel
theorem dX8_costOf_24 : decode cX8_costOf 24 = .ok (.getfield 175, 3) := by decide +kernel
theorem dX8_costOf_27 : decode cX8_costOf 27 = .ok (.imul, 1) := by decide +kernel
theorem dX8_costOf_28 : decode cX8_costOf 28 = .ok (.iadd, 1) := by decide +kernel
theorem dX8_costOf_29 : decode cX8_costOf 29 = .ok (.istore_n 2, 1) := by decide +kernel
theorem dX8_costOf_30 : decode cX8_costOf 30 = .ok (.iinc 3 1, 3) := by decide +kernel
theorem dX8_costOf_33 : decode cX8_costOf 33 = .ok (.goto (-29), 3) := by decide +kernel
theorem dX8_costOf_36 : decode cX8_costOf 36 = .ok (.iload_n 2, 1) := by decide +kernel
theorem dX8_costOf_37 : decode cX8_costOf 37 = .ok (.ireturn, 1) := by decide +kernel
theorem dX8_worthOf_0 : decode cX8_worthOf 0 = .ok (.iconst 0, 1) := by decide +kernel
theorem dX8_worthOf_1 : decode cX8_worthOf 1 = .ok (.istore_n 2, 1) := by decide +kernel
theorem dX8_worthOf_2 : decode cX8_worthOf 2 = .ok (.iconst 0, 1) := by decide +kernel
theorem dX8_worthOf_3 : decode cX8_worthOf 3 = .ok (.istore_n 3, 1) := by decide +kernel
theorem dX8_worthOf_4 : decode cX8_worthOf 4 = .ok (.iload_n 3, 1) := by decide +kernel
theorem dX8_worthOf_5 : decode cX8_worthOf 5 = .ok (.aload_n 0, 1) := by decide +kernel
theorem dX8_worthOf_6 : decode cX8_worthOf 6 = .ok (.getfield 169, 3) := by decide +kernel
theorem dX8_worthOf_9 : decode cX8_worthOf 9 = .ok (.if_icmp .ge 27, 3) := by decide +kernel
theorem dX8_worthOf_12 : decode cX8_worthOf 12 = .ok (.iload_n 2, 1) := by decide +kernel
theorem dX8_worthOf_13 : decode cX8_worthOf 13 = .ok (.iload_n 1, 1) := by decide +kernel
theorem dX8_worthOf_14 : decode cX8_worthOf 14 = .ok (.iload_n 3, 1) := by decide +kernel
theorem dX8_worthOf_15 : decode cX8_worthOf 15 = .ok (.ishr, 1) := by decide +kernel
theorem dX8_worthOf_16 : decode cX8_worthOf 16 = .ok (.iconst 1, 1) := by decide +kernel
theorem dX8_worthOf_17 : decode cX8_worthOf 17 = .ok (.iand, 1) := by decide +kernel
theorem dX8_worthOf_18 : decode cX8_worthOf 18 = .ok (.aload_n 0, 1) := by decide +kernel
theorem dX8_worthOf_19 : decode cX8_worthOf 19 = .ok (.getfield 29, 3) := by decide +kernel
theorem dX8_worthOf_22 : decode cX8_worthOf 22 = .ok (.iload_n 3, 1) := by decide +kernel
theorem dX8_worthOf_23 : decode cX8_worthOf 23 = .ok (.aaload, 1) := by decide +kernel
theorem dX8_worthOf_24 : decode cX8_worthOf 24 = .ok (.getfield 178, 3) := by decide +kernel
theorem dX8_worthOf_27 : decode cX8_worthOf 27 = .ok (.imul, 1) := by decide +kernel
theorem dX8_worthOf_28 : decode cX8_worthOf 28 = .ok (.iadd, 1) := by decide +kernel
theorem dX8_worthOf_29 : decode cX8_worthOf 29 = .ok (.istore_n 2, 1) := by decide +kernel
theorem dX8_worthOf_30 : decode cX8_worthOf 30 = .ok (.iinc 3 1, 3) := by decide +kernel
theorem dX8_worthOf_33 : decode cX8_worthOf 33 = .ok (.goto (-29), 3) := by decide +kernel
theorem dX8_worthOf_36 : decode cX8_worthOf 36 = .ok (.iload_n 2, 1) := by decide +kernel
theorem dX8_worthOf_37 : decode cX8_worthOf 37 = .ok (.ireturn, 1) := by decide +kernel
theorem dX8_noneDrilled_0 : decode cX8_noneDrilled 0 = .ok (.iconst 0, 1) := by decide +kernel
theorem dX8_noneDrilled_1 : decode cX8_noneDrilled 1 = .ok (.istore_n 2, 1) := by decide +kernel
theorem dX8_noneDrilled_2 : decode cX8_noneDrilled 2 = .ok (.iload_n 2, 1) := by decide +kernel
theorem dX8_noneDrilled_3 : decode cX8_noneDrilled 3 = .ok (.aload_n 0, 1) := by decide +kernel
theorem dX8_noneDrilled_4 : decode cX8_noneDrilled 4 = .ok (.getfield 169, 3) := by decide +kernel
theorem dX8_noneDrilled_7 : decode cX8_noneDrilled 7 = .ok (.if_icmp .ge 32, 3) := by decide +kernel
theorem dX8_noneDrilled_10 : decode cX8_noneDrilled 10 = .ok (.iload_n 1, 1) := by decide +kernel
theorem dX8_noneDrilled_11 : decode cX8_noneDrilled 11 = .ok (.iload_n 2, 1) := by decide +kernel
theorem dX8_noneDrilled_12 : decode cX8_noneDrilled 12 = .ok (.ishr, 1) := by decide +kernel
theorem dX8_noneDrilled_13 : decode cX8_noneDrilled 13 = .ok (.iconst 1, 1) := by decide +kernel
theorem dX8_noneDrilled_14 : decode cX8_noneDrilled 14 = .ok (.iand, 1) := by decide +kernel
theorem dX8_noneDrilled_15 : decode cX8_noneDrilled 15 = .ok (.iconst 1, 1) := by decide +kernel
theorem dX8_noneDrilled_16 : decode cX8_noneDrilled 16 = .ok (.if_icmp .ne 17, 3) := by decide +kernel
theorem dX8_noneDrilled_19 : decode cX8_noneDrilled 19 = .ok (.aload_n 0, 1) := by decide +kernel
theorem dX8_noneDrilled_20 : decode cX8_noneDrilled 20 = .ok (.getfield 29, 3) := by decide +kernel
theorem dX8_noneDrilled_23 : decode cX8_noneDrilled 23 = .ok (.iload_n 2, 1) := by decide +kernel
theorem dX8_noneDrilled_24 : decode cX8_noneDrilled 24 = .ok (.aaload, 1) := by decide +kernel
theorem dX8_noneDrilled_25 : decode cX8_noneDrilled 25 = .ok (.getfield 191, 3) := by decide +kernel
theorem dX8_noneDrilled_28 : decode cX8_noneDrilled 28 = .ok (.ifCond .eq 5, 3) := by decide +kernel
theorem dX8_noneDrilled_31 : decode cX8_noneDrilled 31 = .ok (.iconst 0, 1) := by decide +kernel
theorem dX8_noneDrilled_32 : decode cX8_noneDrilled 32 = .ok (.ireturn, 1) := by decide +kernel
theorem dX8_noneDrilled_33 : decode cX8_noneDrilled 33 = .ok (.iinc 2 1, 3) := by decide +kernel
theorem dX8_noneDrilled_36 : decode cX8_noneDrilled 36 = .ok (.goto (-34), 3) := by decide +kernel
theorem dX8_noneDrilled_39 : decode cX8_noneDrilled 39 = .ok (.iconst 1, 1) := by decide +kernel
theorem dX8_noneDrilled_40 : decode cX8_noneDrilled 40 = .ok (.ireturn, 1) := by decide +kernel
theorem dX9_thrown_0 : decode cX9_thrown 0 = .ok (.aload_n 0, 1) := by decide +kernel
theorem dX9_thrown_1 : decode cX9_thrown 1 = .ok (.getfield 1, 3) := by decide +kernel
theorem dX9_thrown_4 : decode cX9_thrown 4 = .ok (.ireturn, 1) := by decide +kernel
theorem dX9_feed_0 : decode cX9_feed 0 = .ok (.aload_n 0, 1) := by decide +kernel
theorem dX9_feed_1 : decode cX9_feed 1 = .ok (.iconst 0, 1) := by decide +kernel
theorem dX9_feed_2 : decode cX9_feed 2 = .ok (.putfield 1, 3) := by decide +kernel
theorem dX9_feed_5 : decode cX9_feed 5 = .ok (.aload_n 0, 1) := by decide +kernel
theorem dX9_feed_6 : decode cX9_feed 6 = .ok (.lload_n 1, 1) := by decide +kernel
theorem dX9_feed_7 : decode cX9_feed 7 = .ok (.invokevirtual 7, 3) := by decide +kernel
theorem dX9_feed_10 : decode cX9_feed 10 = .ok (.aload_n 0, 1) := by decide +kernel
theorem dX9_feed_11 : decode cX9_feed 11 = .ok (.lload_n 3, 1) := by decide +kernel
theorem dX9_feed_12 : decode cX9_feed 12 = .ok (.invokevirtual 7, 3) := by decide +kernel
theorem dX9_feed_15 : decode cX9_feed 15 = .ok (.aload_n 0, 1) := by decide +kernel
theorem dX9_feed_16 : decode cX9_feed 16 = .ok (.lload 5, 2) := by decide +kernel
theorem dX9_feed_18 : decode cX9_feed 18 = .ok (.invokevirtual 7, 3) := by decide +kernel
theorem dX9_feed_21 : decode cX9_feed 21 = .ok (.aload_n 0, 1) := by decide +kernel
theorem dX9_feed_22 : decode cX9_feed 22 = .ok (.getfield 11, 3) := by decide +kernel
theorem dX9_feed_25 : decode cX9_feed 25 = .ok (.ireturn, 1) := by decide +kernel
theorem dX9_lay_0 : decode cX9_lay 0 = .ok (.bipush 56, 2) := by decide +kernel
theorem dX9_lay_2 : decode cX9_lay 2 = .ok (.istore_n 3, 1) := by decide +kernel
theorem dX9_lay_3 : decode cX9_lay 3 = .ok (.iload_n 3, 1) := by decide +kernel
theorem dX9_lay_4 : decode cX9_lay 4 = .ok (.ifCond .lt 71, 3) := by decide +kernel
theorem dX9_lay_7 : decode cX9_lay 7 = .ok (.lload_n 1, 1) := by decide +kernel
theorem dX9_lay_8 : decode cX9_lay 8 = .ok (.iload_n 3, 1) := by decide +kernel
theorem dX9_lay_9 : decode cX9_lay 9 = .ok (.lshr, 1) := by decide +kernel
theorem dX9_lay_10 : decode cX9_lay 10 = .ok (.l2i, 1) := by decide +kernel
theorem dX9_lay_11 : decode cX9_lay 11 = .ok (.sipush 255, 3) := by decide +kernel
theorem dX9_lay_14 : decode cX9_lay 14 = .ok (.iand, 1) := by decide +kernel
theorem dX9_lay_15 : decode cX9_lay 15 = .ok (.istore 4, 2) := by decide +kernel
theorem dX9_lay_17 : decode cX9_lay 17 = .ok (.iload 4, 2) := by decide +kernel
theorem dX9_lay_19 : decode cX9_lay 19 = .ok (.bipush 10, 2) := by decide +kernel
theorem dX9_lay_21 : decode cX9_lay 21 = .ok (.if_icmp .eq 17, 3) := by decide +kernel
theorem dX9_lay_24 : decode cX9_lay 24 = .ok (.iload 4, 2) := by decide +kernel
theorem dX9_lay_26 : decode cX9_lay 26 = .ok (.bipush 32, 2) := by decide +kernel
theorem dX9_lay_28 : decode cX9_lay 28 = .ok (.if_icmp .lt 41, 3) := by decide +kernel
theorem dX9_lay_31 : decode cX9_lay 31 = .ok (.iload 4, 2) := by decide +kernel
theorem dX9_lay_33 : decode cX9_lay 33 = .ok (.bipush 126, 2) := by decide +kernel
theorem dX9_lay_35 : decode cX9_lay 35 = .ok (.if_icmp .gt 34, 3) := by decide +kernel
theorem dX9_lay_38 : decode cX9_lay 38 = .ok (.aload_n 0, 1) := by decide +kernel
theorem dX9_lay_39 : decode cX9_lay 39 = .ok (.getfield 11, 3) := by decide +kernel
theorem dX9_lay_42 : decode cX9_lay 42 = .ok (.sipush 600, 3) := by decide +kernel
theorem dX9_lay_45 : decode cX9_lay 45 = .ok (.if_icmp .ge 24, 3) := by decide +kernel
theorem dX9_lay_48 : decode cX9_lay 48 = .ok (.aload_n 0, 1) := by decide +kernel
theorem dX9_lay_49 : decode cX9_lay 49 = .ok (.getfield 14, 3) := by decide +kernel
theorem dX9_lay_52 : decode cX9_lay 52 = .ok (.aload_n 0, 1) := by decide +kernel
theorem dX9_lay_53 : decode cX9_lay 53 = .ok (.getfield 11, 3) := by decide +kernel
theorem dX9_lay_56 : decode cX9_lay 56 = .ok (.iload 4, 2) := by decide +kernel
theorem dX9_lay_58 : decode cX9_lay 58 = .ok (.iastore, 1) := by decide +kernel
theorem dX9_lay_59 : decode cX9_lay 59 = .ok (.aload_n 0, 1) := by decide +kernel
theorem dX9_lay_60 : decode cX9_lay 60 = .ok (.dup, 1) := by decide +kernel
theorem dX9_lay_61 : decode cX9_lay 61 = .ok (.getfield 11, 3) := by decide +kernel
theorem dX9_lay_64 : decode cX9_lay 64 = .ok (.iconst 1, 1) := by decide +kernel
theorem dX9_lay_65 : decode cX9_lay 65 = .ok (.iadd, 1) := by decide +kernel
theorem dX9_lay_66 : decode cX9_lay 66 = .ok (.putfield 11, 3) := by decide +kernel
theorem dX9_lay_69 : decode cX9_lay 69 = .ok (.iinc 3 (-8), 3) := by decide +kernel
theorem dX9_lay_72 : decode cX9_lay 72 = .ok (.goto (-69), 3) := by decide +kernel
theorem dX9_lay_75 : decode cX9_lay 75 = .ok (.return_, 1) := by decide +kernel
theorem dX9_init_0 : decode cX9_init 0 = .ok (.aload_n 0, 1) := by decide +kernel
theorem dX9_init_1 : decode cX9_init 1 = .ok (.invokespecial 18, 3) := by decide +kernel
theorem dX9_init_4 : decode cX9_init 4 = .ok (.aload_n 0, 1) := by decide +kernel
theorem dX9_init_5 : decode cX9_init 5 = .ok (.sipush 600, 3) := by decide +kernel
theorem dX9_init_8 : decode cX9_init 8 = .ok (.newarray .int, 2) := by decide +kernel
theorem dX9_init_10 : decode cX9_init 10 = .ok (.putfield 14, 3) := by decide +kernel
theorem dX9_init_13 : decode cX9_init 13 = .ok (.aload_n 0, 1) := by decide +kernel
theorem dX9_init_14 : decode cX9_init 14 = .ok (.sipush 602, 3) := by decide +kernel
theorem dX9_init_17 : decode cX9_init 17 = .ok (.newarray .int, 2) := by decide +kernel
theorem dX9_init_19 : decode cX9_init 19 = .ok (.putfield 24, 3) := by decide +kernel
theorem dX9_init_22 : decode cX9_init 22 = .ok (.aload_n 0, 1) := by decide +kernel
theorem dX9_init_23 : decode cX9_init 23 = .ok (.sipush 602, 3) := by decide +kernel
theorem dX9_init_26 : decode cX9_init 26 = .ok (.newarray .int, 2) := by decide +kernel
theorem dX9_init_28 : decode cX9_init 28 = .ok (.putfield 27, 3) := by decide +kernel
theorem dX9_init_31 : decode cX9_init 31 = .ok (.aload_n 0, 1) := by decide +kernel
theorem dX9_init_32 : decode cX9_init 32 = .ok (.sipush 602, 3) := by decide +kernel
theorem dX9_init_35 : decode cX9_init 35 = .ok (.newarray .long, 2) := by decide +kernel
theorem dX9_init_37 : decode cX9_init 37 = .ok (.putfield 30, 3) := by decide +kernel
theorem dX9_init_40 : decode cX9_init 40 = .ok (.aload_n 0, 1) := by decide +kernel
theorem dX9_init_41 : decode cX9_init 41 = .ok (.bipush 10, 2) := by decide +kernel
theorem dX9_init_43 : decode cX9_init 43 = .ok (.newarray .long, 2) := by decide +kernel
theorem dX9_init_45 : decode cX9_init 45 = .ok (.dup, 1) := by decide +kernel
theorem dX9_init_46 : decode cX9_init 46 = .ok (.iconst 0, 1) := by decide +kernel
theorem dX9_init_47 : decode cX9_init 47 = .ok (.ldc2_w 34, 3) := by decide +kernel
theorem dX9_init_50 : decode cX9_init 50 = .ok (.lastore, 1) := by decide +kernel
theorem dX9_init_51 : decode cX9_init 51 = .ok (.dup, 1) := by decide +kernel
theorem dX9_init_52 : decode cX9_init 52 = .ok (.iconst 1, 1) := by decide +kernel
theorem dX9_init_53 : decode cX9_init 53 = .ok (.ldc2_w 36, 3) := by decide +kernel
theorem dX9_init_56 : decode cX9_init 56 = .ok (.lastore, 1) := by decide +kernel
theorem dX9_init_57 : decode cX9_init 57 = .ok (.dup, 1) := by decide +kernel
theorem dX9_init_58 : decode cX9_init 58 = .ok (.iconst 2, 1) := by decide +kernel
theorem dX9_init_59 : decode cX9_init 59 = .ok (.ldc2_w 38, 3) := by decide +kernel
theorem dX9_init_62 : decode cX9_init 62 = .ok (.lastore, 1) := by decide +kernel
theorem dX9_init_63 : decode cX9_init 63 = .ok (.dup, 1) := by decide +kernel
theorem dX9_init_64 : decode cX9_init 64 = .ok (.iconst 3, 1) := by decide +kernel
theorem dX9_init_65 : decode cX9_init 65 = .ok (.ldc2_w 40, 3) := by decide +kernel
theorem dX9_init_68 : decode cX9_init 68 = .ok (.lastore, 1) := by decide +kernel
theorem dX9_init_69 : decode cX9_init 69 = .ok (.dup, 1) := by decide +kernel
theorem dX9_init_70 : decode cX9_init 70 = .ok (.iconst 4, 1) := by decide +kernel
theorem dX9_init_71 : decode cX9_init 71 = .ok (.ldc2_w 42, 3) := by decide +kernel
theorem dX9_init_74 : decode cX9_init 74 = .ok (.lastore, 1) := by decide +kernel
theorem dX9_init_75 : decode cX9_init 75 = .ok (.dup, 1) := by decide +kernel
theorem dX9_init_76 : decode cX9_init 76 = .ok (.iconst 5, 1) := by decide +kernel
theorem dX9_init_77 : decode cX9_init 77 = .ok (.ldc2_w 44, 3) := by decide +kernel
theorem dX9_init_80 : decode cX9_init 80 = .ok (.lastore, 1) := by decide +kernel
theorem dX9_init_81 : decode cX9_init 81 = .ok (.dup, 1) := by decide +kernel
theorem dX9_init_82 : decode cX9_init 82 = .ok (.bipush 6, 2) := by decide +kernel
theorem dX9_init_84 : decode cX9_init 84 = .ok (.ldc2_w 46, 3) := by decide +kernel
theorem dX9_init_87 : decode cX9_init 87 = .ok (.lastore, 1) := by decide +kernel
theorem dX9_init_88 : decode cX9_init 88 = .ok (.dup, 1) := by decide +kernel
theorem dX9_init_89 : decode cX9_init 89 = .ok (.bipush 7, 2) := by decide +kernel
theorem dX9_init_91 : decode cX9_init 91 = .ok (.ldc2_w 48, 3) := by decide +kernel
theorem dX9_init_94 : decode cX9_init 94 = .ok (.lastore, 1) := by decide +kernel
theorem dX9_init_95 : decode cX9_init 95 = .ok (.dup, 1) := by decide +kernel
theorem dX9_init_96 : decode cX9_init 96 = .ok (.bipush 8, 2) := by decide +kernel
theorem dX9_init_98 : decode cX9_init 98 = .ok (.ldc2_w 50, 3) := by decide +kernel
theorem dX9_init_101 : decode cX9_init 101 = .ok (.lastore, 1) := by decide +kernel
theorem dX9_init_102 : decode cX9_init 102 = .ok (.dup, 1) := by decide +kernel
theorem dX9_init_103 : decode cX9_init 103 = .ok (.bipush 9, 2) := by decide +kernel
theorem dX9_init_105 : decode cX9_init 105 = .ok (.ldc2_w 52, 3) := by decide +kernel
theorem dX9_init_108 : decode cX9_init 108 = .ok (.lastore, 1) := by decide +kernel
theorem dX9_init_109 : decode cX9_init 109 = .ok (.putfield 54, 3) := by decide +kernel
theorem dX9_init_112 : decode cX9_init 112 = .ok (.aload_n 0, 1) := by decide +kernel
theorem dX9_init_113 : decode cX9_init 113 = .ok (.iconst 2, 1) := by decide +kernel
theorem dX9_init_114 : decode cX9_init 114 = .ok (.newarray .int, 2) := by decide +kernel
theorem dX9_init_116 : decode cX9_init 116 = .ok (.putfield 57, 3) := by decide +kernel
theorem dX9_init_119 : decode cX9_init 119 = .ok (.aload_n 0, 1) := by decide +kernel
theorem dX9_init_120 : decode cX9_init 120 = .ok (.bipush 32, 2) := by decide +kernel
theorem dX9_init_122 : decode cX9_init 122 = .ok (.newarray .boolean, 2) := by decide +kernel
theorem dX9_init_124 : decode cX9_init 124 = .ok (.putfield 60, 3) := by decide +kernel
theorem dX9_init_127 : decode cX9_init 127 = .ok (.aload_n 0, 1) := by decide +kernel
theorem dX9_init_128 : decode cX9_init 128 = .ok (.bipush 32, 2) := by decide +kernel
theorem dX9_init_130 : decode cX9_init 130 = .ok (.newarray .int, 2) := by decide +kernel
theorem dX9_init_132 : decode cX9_init 132 = .ok (.putfield 64, 3) := by decide +kernel
theorem dX9_init_135 : decode cX9_init 135 = .ok (.aload_n 0, 1) := by decide +kernel
theorem dX9_init_136 : decode cX9_init 136 = .ok (.bipush 32, 2) := by decide +kernel
theorem dX9_init_138 : decode cX9_init 138 = .ok (.newarray .int, 2) := by decide +kernel
theorem dX9_init_140 : decode cX9_init 140 = .ok (.putfield 67, 3) := by decide +kernel
theorem dX9_init_143 : decode cX9_init 143 = .ok (.aload_n 0, 1) := by decide +kernel
theorem dX9_init_144 : decode cX9_init 144 = .ok (.sipush 1320, 3) := by decide +kernel
theorem dX9_init_147 : decode cX9_init 147 = .ok (.newarray .int, 2) := by decide +kernel
theorem dX9_init_149 : decode cX9_init 149 = .ok (.putfield 70, 3) := by decide +kernel
theorem dX9_init_152 : decode cX9_init 152 = .ok (.aload_n 0, 1) := by decide +kernel
theorem dX9_init_153 : decode cX9_init 153 = .ok (.sipush 1320, 3) := by decide +kernel
theorem dX9_init_156 : decode cX9_init 156 = .ok (.newarray .int, 2) := by decide +kernel
theorem dX9_init_158 : decode cX9_init 158 = .ok (.putfield 73, 3) := by decide +kernel
theorem dX9_init_161 : decode cX9_init 161 = .ok (.aload_n 0, 1) := by decide +kernel
theorem dX9_init_162 : decode cX9_init 162 = .ok (.bipush 7, 2) := by decide +kernel
theorem dX9_init_164 : decode cX9_init 164 = .ok (.newarray .int, 2) := by decide +kernel
theorem dX9_init_166 : decode cX9_init 166 = .ok (.putfield 76, 3) := by decide +kernel
theorem dX9_init_169 : decode cX9_init 169 = .ok (.aload_n 0, 1) := by decide +kernel
theorem dX9_init_170 : decode cX9_init 170 = .ok (.bipush 7, 2) := by decide +kernel
theorem dX9_init_172 : decode cX9_init 172 = .ok (.newarray .int, 2) := by decide +kernel
theorem dX9_init_174 : decode cX9_init 174 = .ok (.putfield 79, 3) := by decide +kernel
theorem dX9_init_177 : decode cX9_init 177 = .ok (.aload_n 0, 1) := by decide +kernel
theorem dX9_init_178 : decode cX9_init 178 = .ok (.bipush 7, 2) := by decide +kernel
theorem dX9_init_180 : decode cX9_init 180 = .ok (.newarray .int, 2) := by decide +kernel
theorem dX9_init_182 : decode cX9_init 182 = .ok (.putfield 82, 3) := by decide +kernel
theorem dX9_init_185 : decode cX9_init 185 = .ok (.aload_n 0, 1) := by decide +kernel
theorem dX9_init_186 : decode cX9_init 186 = .ok (.bipush 6, 2) := by decide +kernel
theorem dX9_init_188 : decode cX9_init 188 = .ok (.newarray .int, 2) := by decide +kernel
theorem dX9_init_190 : decode cX9_init 190 = .ok (.putfield 85, 3) := by decide +kernel
theorem dX9_init_193 : decode cX9_init 193 = .ok (.aload_n 0, 1) := by decide +kernel
theorem dX9_init_194 : decode cX9_init 194 = .ok (.sipush 660, 3) := by decide +kernel
theorem dX9_init_197 : decode cX9_init 197 = .ok (.newarray .int, 2) := by decide +kernel
theorem dX9_init_199 : decode cX9_init 199 = .ok (.putfield 88, 3) := by decide +kernel
theorem dX9_init_202 : decode cX9_init 202 = .ok (.aload_n 0, 1) := by decide +kernel
theorem dX9_init_203 : decode cX9_init 203 = .ok (.bipush 12, 2) := by decide +kernel
theorem dX9_init_205 : decode cX9_init 205 = .ok (.newarray .int, 2) := by decide +kernel
theorem dX9_init_207 : decode cX9_init 207 = .ok (.putfield 91, 3) := by decide +kernel
theorem dX9_init_210 : decode cX9_init 210 = .ok (.aload_n 0, 1) := by decide +kernel
theorem dX9_init_211 : decode cX9_init 211 = .ok (.bipush 12, 2) := by decide +kernel
theorem dX9_init_213 : decode cX9_init 213 = .ok (.newarray .int, 2) := by decide +kernel
theorem dX9_init_215 : decode cX9_init 215 = .ok (.putfield 94, 3) := by decide +kernel
theorem dX9_init_218 : decode cX9_init 218 = .ok (.aload_n 0, 1) := by decide +kernel
theorem dX9_init_219 : decode cX9_init 219 = .ok (.bipush 12, 2) := by decide +kernel
theorem dX9_init_221 : decode cX9_init 221 = .ok (.newarray .int, 2) := by decide +kernel
theorem dX9_init_223 : decode cX9_init 223 = .ok (.putfield 97, 3) := by decide +kernel
theorem dX9_init_226 : decode cX9_init 226 = .ok (.aload_n 0, 1) := by decide +kernel
theorem dX9_init_227 : decode cX9_init 227 = .ok (.bipush 12, 2) := by decide +kernel
theorem dX9_init_229 : decode cX9_init 229 = .ok (.newarray .int, 2) := by decide +kernel
theorem dX9_init_231 : decode cX9_init 231 = .ok (.putfield 100, 3) := by decide +kernel
theorem dX9_init_234 : decode cX9_init 234 = .ok (.aload_n 0, 1) := by decide +kernel
theorem dX9_init_235 : decode cX9_init 235 = .ok (.bipush 12, 2) := by decide +kernel
theorem dX9_init_237 : decode cX9_init 237 = .ok (.newarray .int, 2) := by decide +kernel
theorem dX9_init_239 : decode cX9_init 239 = .ok (.putfield 103, 3) := by decide +kernel
theorem dX9_init_242 : decode cX9_init 242 = .ok (.aload_n 0, 1) := by decide +kernel
theorem dX9_init_243 : decode cX9_init 243 = .ok (.bipush 12, 2) := by decide +kernel
theorem dX9_init_245 : decode cX9_init 245 = .ok (.newarray .int, 2) := by decide +kernel
theorem dX9_init_247 : decode cX9_init 247 = .ok (.putfield 106, 3) := by decide +kernel
theorem dX9_init_250 : decode cX9_init 250 = .ok (.aload_n 0, 1) := by decide +kernel
theorem dX9_init_251 : decode cX9_init 251 = .ok (.bipush 12, 2) := by decide +kernel
theorem dX9_init_253 : decode cX9_init 253 = .ok (.newarray .int, 2) := by decide +kernel
theorem dX9_init_255 : decode cX9_init 255 = .ok (.putfield 109, 3) := by decide +kernel
theorem dX9_init_258 : decode cX9_init 258 = .ok (.aload_n 0, 1) := by decide +kernel
theorem dX9_init_259 : decode cX9_init 259 = .ok (.bipush 12, 2) := by decide +kernel
theorem dX9_init_261 : decode cX9_init 261 = .ok (.newarray .int, 2) := by decide +kernel
theorem dX9_init_263 : decode cX9_init 263 = .ok (.putfield 112, 3) := by decide +kernel
theorem dX9_init_266 : decode cX9_init 266 = .ok (.aload_n 0, 1) := by decide +kernel
theorem dX9_init_267 : decode cX9_init 267 = .ok (.sipush 4800, 3) := by decide +kernel
theorem dX9_init_270 : decode cX9_init 270 = .ok (.newarray .int, 2) := by decide +kernel
theorem dX9_init_272 : decode cX9_init 272 = .ok (.putfield 115, 3) := by decide +kernel
theorem dX9_init_275 : decode cX9_init 275 = .ok (.aload_n 0, 1) := by decide +kernel
theorem dX9_init_276 : decode cX9_init 276 = .ok (.bipush 12, 2) := by decide +kernel
theorem dX9_init_278 : decode cX9_init 278 = .ok (.newarray .boolean, 2) := by decide +kernel
theorem dX9_init_280 : decode cX9_init 280 = .ok (.putfield 118, 3) := by decide +kernel
theorem dX9_init_283 : decode cX9_init 283 = .ok (.aload_n 0, 1) := by decide +kernel
theorem dX9_init_284 : decode cX9_init 284 = .ok (.iconst 4, 1) := by decide +kernel
theorem dX9_init_285 : decode cX9_init 285 = .ok (.newarray .int, 2) := by decide +kernel
theorem dX9_init_287 : decode cX9_init 287 = .ok (.putfield 121, 3) := by decide +kernel
theorem dX9_init_290 : decode cX9_init 290 = .ok (.aload_n 0, 1) := by decide +kernel
theorem dX9_init_291 : decode cX9_init 291 = .ok (.iconst 4, 1) := by decide +kernel
theorem dX9_init_292 : decode cX9_init 292 = .ok (.newarray .int, 2) := by decide +kernel
theorem dX9_init_294 : decode cX9_init 294 = .ok (.putfield 124, 3) := by decide +kernel
theorem dX9_init_297 : decode cX9_init 297 = .ok (.aload_n 0, 1) := by decide +kernel
theorem dX9_init_298 : decode cX9_init 298 = .ok (.iconst 4, 1) := by decide +kernel
theorem dX9_init_299 : decode cX9_init 299 = .ok (.newarray .int, 2) := by decide +kernel
theorem dX9_init_301 : decode cX9_init 301 = .ok (.putfield 127, 3) := by decide +kernel
theorem dX9_init_304 : decode cX9_init 304 = .ok (.aload_n 0, 1) := by decide +kernel
theorem dX9_init_305 : decode cX9_init 305 = .ok (.iconst 4, 1) := by decide +kernel
theorem dX9_init_306 : decode cX9_init 306 = .ok (.newarray .int, 2) := by decide +kernel
theorem dX9_init_308 : decode cX9_init 308 = .ok (.putfield 130, 3) := by decide +kernel
theorem dX9_init_311 : decode cX9_init 311 = .ok (.aload_n 0, 1) := by decide +kernel
theorem dX9_init_312 : decode cX9_init 312 = .ok (.iconst 4, 1) := by decide +kernel
theorem dX9_init_313 : decode cX9_init 313 = .ok (.newarray .int, 2) := by decide +kernel
theorem dX9_init_315 : decode cX9_init 315 = .ok (.putfield 133, 3) := by decide +kernel
theorem dX9_init_318 : decode cX9_init 318 = .ok (.aload_n 0, 1) := by decide +kernel
theorem dX9_init_319 : decode cX9_init 319 = .ok (.iconst 4, 1) := by decide +kernel
theorem dX9_init_320 : decode cX9_init 320 = .ok (.newarray .int, 2) := by decide +kernel
theorem dX9_init_322 : decode cX9_init 322 = .ok (.putfield 136, 3) := by decide +kernel
theorem dX9_init_325 : decode cX9_init 325 = .ok (.aload_n 0, 1) := by decide +kernel
theorem dX9_init_326 : decode cX9_init 326 = .ok (.iconst 4, 1) := by decide +kernel
theorem dX9_init_327 : decode cX9_init 327 = .ok (.newarray .int, 2) := by decide +kernel
theorem dX9_init_329 : decode cX9_init 329 = .ok (.putfield 139, 3) := by decide +kernel
theorem dX9_init_332 : decode cX9_init 332 = .ok (.aload_n 0, 1) := by decide +kernel
theorem dX9_init_333 : decode cX9_init 333 = .ok (.iconst 4, 1) := by decide +kernel
theorem dX9_init_334 : decode cX9_init 334 = .ok (.newarray .int, 2) := by decide +kernel
theorem dX9_init_336 : decode cX9_init 336 = .ok (.putfield 142, 3) := by decide +kernel
theorem dX9_init_339 : decode cX9_init 339 = .ok (.aload_n 0, 1) := by decide +kernel
theorem dX9_init_340 : decode cX9_init 340 = .ok (.iconst 4, 1) := by decide +kernel
theorem dX9_init_341 : decode cX9_init 341 = .ok (.newarray .int, 2) := by decide +kernel
theorem dX9_init_343 : decode cX9_init 343 = .ok (.putfield 145, 3) := by decide +kernel
theorem dX9_init_346 : decode cX9_init 346 = .ok (.aload_n 0, 1) := by decide +kernel
theorem dX9_init_347 : decode cX9_init 347 = .ok (.iconst 4, 1) := by decide +kernel
theorem dX9_init_348 : decode cX9_init 348 = .ok (.newarray .int, 2) := by decide +kernel
theorem dX9_init_350 : decode cX9_init 350 = .ok (.putfield 148, 3) := by decide +kernel
theorem dX9_init_353 : decode cX9_init 353 = .ok (.aload_n 0, 1) := by decide +kernel
theorem dX9_init_354 : decode cX9_init 354 = .ok (.bipush 48, 2) := by decide +kernel
theorem dX9_init_356 : decode cX9_init 356 = .ok (.newarray .int, 2) := by decide +kernel
theorem dX9_init_358 : decode cX9_init 358 = .ok (.putfield 151, 3) := by decide +kernel
theorem dX9_init_361 : decode cX9_init 361 = .ok (.aload_n 0, 1) := by decide +kernel
theorem dX9_init_362 : decode cX9_init 362 = .ok (.bipush 6, 2) := by decide +kernel
theorem dX9_init_364 : decode cX9_init 364 = .ok (.newarray .int, 2) := by decide +kernel
theorem dX9_init_366 : decode cX9_init 366 = .ok (.putfield 154, 3) := by decide +kernel
theorem dX9_init_369 : decode cX9_init 369 = .ok (.aload_n 0, 1) := by decide +kernel
theorem dX9_init_370 : decode cX9_init 370 = .ok (.bipush 6, 2) := by decide +kernel
theorem dX9_init_372 : decode cX9_init 372 = .ok (.newarray .int, 2) := by decide +kernel
theorem dX9_init_374 : decode cX9_init 374 = .ok (.putfield 157, 3) := by decide +kernel
theorem dX9_init_377 : decode cX9_init 377 = .ok (.aload_n 0, 1) := by decide +kernel
theorem dX9_init_378 : decode cX9_init 378 = .ok (.bipush 6, 2) := by decide +kernel
theorem dX9_init_380 : decode cX9_init 380 = .ok (.newarray .int, 2) := by decide +kernel
theorem dX9_init_382 : decode cX9_init 382 = .ok (.putfield 160, 3) := by decide +kernel
theorem dX9_init_385 : decode cX9_init 385 = .ok (.aload_n 0, 1) := by decide +kernel
theorem dX9_init_386 : decode cX9_init 386 = .ok (.bipush 6, 2) := by decide +kernel
theorem dX9_init_388 : decode cX9_init 388 = .ok (.newarray .int, 2) := by decide +kernel
theorem dX9_init_390 : decode cX9_init 390 = .ok (.putfield 163, 3) := by decide +kernel
theorem dX9_init_393 : decode cX9_init 393 = .ok (.aload_n 0, 1) := by decide +kernel
theorem dX9_init_394 : decode cX9_init 394 = .ok (.iconst 4, 1) := by decide +kernel
theorem dX9_init_395 : decode cX9_init 395 = .ok (.newarray .int, 2) := by decide +kernel
theorem dX9_init_397 : decode cX9_init 397 = .ok (.putfield 166, 3) := by decide +kernel
theorem dX9_init_400 : decode cX9_init 400 = .ok (.aload_n 0, 1) := by decide +kernel
theorem dX9_init_401 : decode cX9_init 401 = .ok (.iconst 4, 1) := by decide +kernel
theorem dX9_init_402 : decode cX9_init 402 = .ok (.newarray .int, 2) := by decide +kernel
theorem dX9_init_404 : decode cX9_init 404 = .ok (.putfield 169, 3) := by decide +kernel
theorem dX9_init_407 : decode cX9_init 407 = .ok (.aload_n 0, 1) := by decide +kernel
theorem dX9_init_408 : decode cX9_init 408 = .ok (.bipush 10, 2) := by decide +kernel
theorem dX9_init_410 : decode cX9_init 410 = .ok (.newarray .int, 2) := by decide +kernel
theorem dX9_init_412 : decode cX9_init 412 = .ok (.putfield 172, 3) := by decide +kernel
theorem dX9_init_415 : decode cX9_init 415 = .ok (.aload_n 0, 1) := by decide +kernel
theorem dX9_init_416 : decode cX9_init 416 = .ok (.bipush 10, 2) := by decide +kernel
theorem dX9_init_418 : decode cX9_init 418 = .ok (.newarray .int, 2) := by decide +kernel
theorem dX9_init_420 : decode cX9_init 420 = .ok (.putfield 175, 3) := by decide +kernel
theorem dX9_init_423 : decode cX9_init 423 = .ok (.aload_n 0, 1) := by decide +kernel
theorem dX9_init_424 : decode cX9_init 424 = .ok (.bipush 10, 2) := by decide +kernel
theorem dX9_init_426 : decode cX9_init 426 = .ok (.newarray .int, 2) := by decide +kernel
theorem dX9_init_428 : decode cX9_init 428 = .ok (.putfield 178, 3) := by decide +kernel
theorem dX9_init_431 : decode cX9_init 431 = .ok (.aload_n 0, 1) := by decide +kernel
theorem dX9_init_432 : decode cX9_init 432 = .ok (.bipush 10, 2) := by decide +kernel
theorem dX9_init_434 : decode cX9_init 434 = .ok (.newarray .boolean, 2) := by decide +kernel
theorem dX9_init_436 : decode cX9_init 436 = .ok (.putfield 181, 3) := by decide +kernel
theorem dX9_init_439 : decode cX9_init 439 = .ok (.aload_n 0, 1) := by decide +kernel
theorem dX9_init_440 : decode cX9_init 440 = .ok (.iconst 4, 1) := by decide +kernel
theorem dX9_init_441 : decode cX9_init 441 = .ok (.newarray .int, 2) := by decide +kernel
theorem dX9_init_443 : decode cX9_init 443 = .ok (.putfield 184, 3) := by decide +kernel
theorem dX9_init_446 : decode cX9_init 446 = .ok (.aload_n 0, 1) := by decide +kernel
theorem dX9_init_447 : decode cX9_init 447 = .ok (.iconst 4, 1) := by decide +kernel
theorem dX9_init_448 : decode cX9_init 448 = .ok (.newarray .int, 2) := by decide +kernel
theorem dX9_init_450 : decode cX9_init 450 = .ok (.putfield 187, 3) := by decide +kernel
theorem dX9_init_453 : decode cX9_init 453 = .ok (.aload_n 0, 1) := by decide +kernel
theorem dX9_init_454 : decode cX9_init 454 = .ok (.iconst 4, 1) := by decide +kernel
theorem dX9_init_455 : decode cX9_init 455 = .ok (.newarray .int, 2) := by decide +kernel
theorem dX9_init_457 : decode cX9_init 457 = .ok (.putfield 190, 3) := by decide +kernel
theorem dX9_init_460 : decode cX9_init 460 = .ok (.iconst 0, 1) := by decide +kernel
theorem dX9_init_461 : decode cX9_init 461 = .ok (.istore_n 1, 1) := by decide +kernel
theorem dX9_init_462 : decode cX9_init 462 = .ok (.iload_n 1, 1) := by decide +kernel
theorem dX9_init_463 : decode cX9_init 463 = .ok (.bipush 48, 2) := by decide +kernel
theorem dX9_init_465 : decode cX9_init 465 = .ok (.if_icmp .ge 17, 3) := by decide +kernel
theorem dX9_init_468 : decode cX9_init 468 = .ok (.aload_n 0, 1) := by decide +kernel
theorem dX9_init_469 : decode cX9_init 469 = .ok (.getfield 151, 3) := by decide +kernel
theorem dX9_init_472 : decode cX9_init 472 = .ok (.iload_n 1, 1) := by decide +kernel
theorem dX9_init_473 : decode cX9_init 473 = .ok (.bipush 10, 2) := by decide +kernel
theorem dX9_init_475 : decode cX9_init 475 = .ok (.iastore, 1) := by decide +kernel
theorem dX9_init_476 : decode cX9_init 476 = .ok (.iinc 1 1, 3) := by decide +kernel
theorem dX9_init_479 : decode cX9_init 479 = .ok (.goto (-17), 3) := by decide +kernel
theorem dX9_init_482 : decode cX9_init 482 = .ok (.return_, 1) := by decide +kernel
theorem dX9_isLetter_0 : decode cX9_isLetter 0 = .ok (.iload_n 0, 1) := by decide +kernel
theorem dX9_isLetter_1 : decode cX9_isLetter 1 = .ok (.bipush 97, 2) := by decide +kernel
theorem dX9_isLetter_3 : decode cX9_isLetter 3 = .ok (.if_icmp .lt 13, 3) := by decide +kernel
theorem dX9_isLetter_6 : decode cX9_isLetter 6 = .ok (.iload_n 0, 1) := by decide +kernel
theorem dX9_isLetter_7 : decode cX9_isLetter 7 = .ok (.bipush 122, 2) := by decide +kernel
theorem dX9_isLetter_9 : decode cX9_isLetter 9 = .ok (.if_icmp .gt 7, 3) := by decide +kernel
theorem dX9_isLetter_12 : decode cX9_isLetter 12 = .ok (.iconst 1, 1) := by decide +kernel
theorem dX9_isLetter_13 : decode cX9_isLetter 13 = .ok (.goto 4, 3) := by decide +kernel
theorem dX9_isLetter_16 : decode cX9_isLetter 16 = .ok (.iconst 0, 1) := by decide +kernel
theorem dX9_isLetter_17 : decode cX9_isLetter 17 = .ok (.ireturn, 1) := by decide +kernel
theorem dX9_isDigit_0 : decode cX9_isDigit 0 = .ok (.iload_n 0, 1) := by decide +kernel
theorem dX9_isDigit_1 : decode cX9_isDigit 1 = .ok (.bipush 48, 2) := by decide +kernel
theorem dX9_isDigit_3 : decode cX9_isDigit 3 = .ok (.if_icmp .lt 13, 3) := by decide +kernel
theorem dX9_isDigit_6 : decode cX9_isDigit 6 = .ok (.iload_n 0, 1) := by decide +kernel
theorem dX9_isDigit_7 : decode cX9_isDigit 7 = .ok (.bipush 57, 2) := by decide +kernel
theorem dX9_isDigit_9 : decode cX9_isDigit 9 = .ok (.if_icmp .gt 7, 3) := by decide +kernel
theorem dX9_isDigit_12 : decode cX9_isDigit 12 = .ok (.iconst 1, 1) := by decide +kernel
theorem dX9_isDigit_13 : decode cX9_isDigit 13 = .ok (.goto 4, 3) := by decide +kernel
theorem dX9_isDigit_16 : decode cX9_isDigit 16 = .ok (.iconst 0, 1) := by decide +kernel
theorem dX9_isDigit_17 : decode cX9_isDigit 17 = .ok (.ireturn, 1) := by decide +kernel
theorem dX9_rank_0 : decode cX9_rank 0 = .ok (.iload_n 0, 1) := by decide +kernel
theorem dX9_rank_1 : decode cX9_rank 1 = .ok (.invokestatic 193, 3) := by decide +kernel
theorem dX9_rank_4 : decode cX9_rank 4 = .ok (.ifCond .eq 10, 3) := by decide +kernel
theorem dX9_rank_7 : decode cX9_rank 7 = .ok (.iload_n 0, 1) := by decide +kernel
theorem dX9_rank_8 : decode cX9_rank 8 = .ok (.bipush 96, 2) := by decide +kernel
theorem dX9_rank_10 : decode cX9_rank 10 = .ok (.isub, 1) := by decide +kernel
theorem dX9_rank_11 : decode cX9_rank 11 = .ok (.goto 7, 3) := by decide +kernel
theorem dX9_rank_14 : decode cX9_rank 14 = .ok (.iload_n 0, 1) := by decide +kernel
theorem dX9_rank_15 : decode cX9_rank 15 = .ok (.bipush 21, 2) := by decide +kernel
theorem dX9_rank_17 : decode cX9_rank 17 = .ok (.isub, 1) := by decide +kernel
theorem dX9_rank_18 : decode cX9_rank 18 = .ok (.ireturn, 1) := by decide +kernel
theorem dX9_isSignOf_0 : decode cX9_isSignOf 0 = .ok (.iload_n 0, 1) := by decide +kernel
theorem dX9_isSignOf_1 : decode cX9_isSignOf 1 = .ok (.bipush 40, 2) := by decide +kernel
theorem dX9_isSignOf_3 : decode cX9_isSignOf 3 = .ok (.if_icmp .eq 39, 3) := by decide +kernel
theorem dX9_isSignOf_6 : decode cX9_isSignOf 6 = .ok (.iload_n 0, 1) := by decide +kernel
theorem dX9_isSignOf_7 : decode cX9_isSignOf 7 = .ok (.bipush 41, 2) := by decide +kernel
theorem dX9_isSignOf_9 : decode cX9_isSignOf 9 = .ok (.if_icmp .eq 33, 3) := by decide +kernel
theorem dX9_isSignOf_12 : decode cX9_isSignOf 12 = .ok (.iload_n 0, 1) := by decide +kernel
theorem dX9_isSignOf_13 : decode cX9_isSignOf 13 = .ok (.bipush 59, 2) := by decide +kernel
theorem dX9_isSignOf_15 : decode cX9_isSignOf 15 = .ok (.if_icmp .eq 27, 3) := by decide +kernel
theorem dX9_isSignOf_18 : decode cX9_isSignOf 18 = .ok (.iload_n 0, 1) := by decide +kernel
theorem dX9_isSignOf_19 : decode cX9_isSignOf 19 = .ok (.bipush 61, 2) := by decide +kernel
theorem dX9_isSignOf_21 : decode cX9_isSignOf 21 = .ok (.if_icmp .eq 21, 3) := by decide +kernel
theorem dX9_isSignOf_24 : decode cX9_isSignOf 24 = .ok (.iload_n 0, 1) := by decide +kernel
theorem dX9_isSignOf_25 : decode cX9_isSignOf 25 = .ok (.bipush 60, 2) := by decide +kernel
theorem dX9_isSignOf_27 : decode cX9_isSignOf 27 = .ok (.if_icmp .eq 15, 3) := by decide +kernel
theorem dX9_isSignOf_30 : decode cX9_isSignOf 30 = .ok (.iload_n 0, 1) := by decide +kernel
theorem dX9_isSignOf_31 : decode cX9_isSignOf 31 = .ok (.bipush 43, 2) := by decide +kernel
theorem dX9_isSignOf_33 : decode cX9_isSignOf 33 = .ok (.if_icmp .eq 9, 3) := by decide +kernel
theorem dX9_isSignOf_36 : decode cX9_isSignOf 36 = .ok (.iload_n 0, 1) := by decide +kernel
theorem dX9_isSignOf_37 : decode cX9_isSignOf 37 = .ok (.bipush 45, 2) := by decide +kernel
theorem dX9_isSignOf_39 : decode cX9_isSignOf 39 = .ok (.if_icmp .ne 7, 3) := by decide +kernel
theorem dX9_isSignOf_42 : decode cX9_isSignOf 42 = .ok (.iconst 1, 1) := by decide +kernel
theorem dX9_isSignOf_43 : decode cX9_isSignOf 43 = .ok (.goto 4, 3) := by decide +kernel
theorem dX9_isSignOf_46 : decode cX9_isSignOf 46 = .ok (.iconst 0, 1) := by decide +kernel
theorem dX9_isSignOf_47 : decode cX9_isSignOf 47 = .ok (.ireturn, 1) := by decide +kernel
theorem dX9_cutAll_0 : decode cX9_cutAll 0 = .ok (.aload_n 0, 1) := by decide +kernel
theorem dX9_cutAll_1 : decode cX9_cutAll 1 = .ok (.aload_n 0, 1) := by decide +kernel
theorem dX9_cutAll_2 : decode cX9_cutAll 2 = .ok (.getfield 11, 3) := by decide +kernel
theorem dX9_cutAll_5 : decode cX9_cutAll 5 = .ok (.putfield 197, 3) := by decide +kernel
theorem dX9_cutAll_8 : decode cX9_cutAll 8 = .ok (.aload_n 0, 1) := by decide +kernel
theorem dX9_cutAll_9 : decode cX9_cutAll 9 = .ok (.iconst 0, 1) := by decide +kernel
theorem dX9_cutAll_10 : decode cX9_cutAll 10 = .ok (.putfield 11, 3) := by decide +kernel
theorem dX9_cutAll_13 : decode cX9_cutAll 13 = .ok (.iconst 0, 1) := by decide +kernel
theorem dX9_cutAll_14 : decode cX9_cutAll 14 = .ok (.istore_n 1, 1) := by decide +kernel
theorem dX9_cutAll_15 : decode cX9_cutAll 15 = .ok (.iconst 0, 1) := by decide +kernel
theorem dX9_cutAll_16 : decode cX9_cutAll 16 = .ok (.istore_n 2, 1) := by decide +kernel
theorem dX9_cutAll_17 : decode cX9_cutAll 17 = .ok (.iload_n 2, 1) := by decide +kernel
theorem dX9_cutAll_18 : decode cX9_cutAll 18 = .ok (.aload_n 0, 1) := by decide +kernel
theorem dX9_cutAll_19 : decode cX9_cutAll 19 = .ok (.getfield 197, 3) := by decide +kernel
theorem dX9_cutAll_22 : decode cX9_cutAll 22 = .ok (.if_icmp .ge 257, 3) := by decide +kernel
theorem dX9_cutAll_25 : decode cX9_cutAll 25 = .ok (.aload_n 0, 1) := by decide +kernel
theorem dX9_cutAll_26 : decode cX9_cutAll 26 = .ok (.getfield 14, 3) := by decide +kernel
theorem dX9_cutAll_29 : decode cX9_cutAll 29 = .ok (.iload_n 2, 1) := by decide +kernel
theorem dX9_cutAll_30 : decode cX9_cutAll 30 = .ok (.iaload, 1) := by decide +kernel
theorem dX9_cutAll_31 : decode cX9_cutAll 31 = .ok (.istore_n 3, 1) := by decide +kernel
theorem dX9_cutAll_32 : decode cX9_cutAll 32 = .ok (.iload_n 3, 1) := by decide +kernel
theorem dX9_cutAll_33 : decode cX9_cutAll 33 = .ok (.bipush 10, 2) := by decide +kernel
theorem dX9_cutAll_35 : decode cX9_cutAll 35 = .ok (.if_icmp .eq 9, 3) := by decide +kernel
theorem dX9_cutAll_38 : decode cX9_cutAll 38 = .ok (.iload_n 3, 1) := by decide +kernel
theorem dX9_cutAll_39 : decode cX9_cutAll 39 = .ok (.bipush 32, 2) := by decide +kernel
theorem dX9_cutAll_41 : decode cX9_cutAll 41 = .ok (.if_icmp .ne 9, 3) := by decide +kernel
theorem dX9_cutAll_44 : decode cX9_cutAll 44 = .ok (.iinc 2 1, 3) := by decide +kernel
theorem dX9_cutAll_47 : decode cX9_cutAll 47 = .ok (.goto (-30), 3) := by decide +kernel
theorem dX9_cutAll_50 : decode cX9_cutAll 50 = .ok (.iload_n 2, 1) := by decide +kernel
theorem dX9_cutAll_51 : decode cX9_cutAll 51 = .ok (.istore 4, 2) := by decide +kernel
theorem dX9_cutAll_53 : decode cX9_cutAll 53 = .ok (.lconst 0, 1) := by decide +kernel
theorem dX9_cutAll_54 : decode cX9_cutAll 54 = .ok (.lstore 5, 2) := by decide +kernel
theorem dX9_cutAll_56 : decode cX9_cutAll 56 = .ok (.aload_n 0, 1) := by decide +kernel
theorem dX9_cutAll_57 : decode cX9_cutAll 57 = .ok (.getfield 27, 3) := by decide +kernel
theorem dX9_cutAll_60 : decode cX9_cutAll 60 = .ok (.iload_n 1, 1) := by decide +kernel
theorem dX9_cutAll_61 : decode cX9_cutAll 61 = .ok (.iload_n 2, 1) := by decide +kernel
theorem dX9_cutAll_62 : decode cX9_cutAll 62 = .ok (.iastore, 1) := by decide +kernel
theorem dX9_cutAll_63 : decode cX9_cutAll 63 = .ok (.iload_n 3, 1) := by decide +kernel
theorem dX9_cutAll_64 : decode cX9_cutAll 64 = .ok (.invokestatic 193, 3) := by decide +kernel
theorem dX9_cutAll_67 : decode cX9_cutAll 67 = .ok (.ifCond .eq 85, 3) := by decide +kernel
theorem dX9_cutAll_70 : decode cX9_cutAll 70 = .ok (.iload_n 2, 1) := by decide +kernel
theorem dX9_cutAll_71 : decode cX9_cutAll 71 = .ok (.aload_n 0, 1) := by decide +kernel
end
section
theorem dX9_cutAll_72 : decode cX9_cutAll 72 = .ok (.getfield 197, 3) := by decide +kernel
theorem dX9_cutAll_75 : decode cX9_cutAll 75 = .ok (.if_icmp .ge 54, 3) := by decide +kernel
theorem dX9_cutAll_78 : decode cX9_cutAll 78 = .ok (.aload_n 0, 1) := by decide +kernel
theorem dX9_cutAll_79 : decode cX9_cutAll 79 = .ok (.getfield 14, 3) := by decide +kernel
theorem dX9_cutAll_82 : decode cX9_cutAll 82 = .ok (.iload_n 2, 1) := by decide +kernel
theorem dX9_cutAll_83 : decode cX9_cutAll 83 = .ok (.iaload, 1) := by decide +kernel
theorem dX9_cutAll_84 : decode cX9_cutAll 84 = .ok (.invokestatic 193, 3) := by decide +kernel
theorem dX9_cutAll_87 : decode cX9_cutAll 87 = .ok (.ifCond .eq 42, 3) := by decide +kernel
theorem dX9_cutAll_90 : decode cX9_cutAll 90 = .ok (.iload_n 2, 1) := by decide +kernel
theorem dX9_cutAll_91 : decode cX9_cutAll 91 = .ok (.iload 4, 2) := by decide +kernel
theorem dX9_cutAll_93 : decode cX9_cutAll 93 = .ok (.isub, 1) := by decide +kernel
theorem dX9_cutAll_94 : decode cX9_cutAll 94 = .ok (.bipush 8, 2) := by decide +kernel
theorem dX9_cutAll_96 : decode cX9_cutAll 96 = .ok (.if_icmp .ge 23, 3) := by decide +kernel
theorem dX9_cutAll_99 : decode cX9_cutAll 99 = .ok (.ldc2_w 200, 3) := by decide +kernel
theorem dX9_cutAll_102 : decode cX9_cutAll 102 = .ok (.lload 5, 2) := by decide +kernel
theorem dX9_cutAll_104 : decode cX9_cutAll 104 = .ok (.lmul, 1) := by decide +kernel
theorem dX9_cutAll_105 : decode cX9_cutAll 105 = .ok (.aload_n 0, 1) := by decide +kernel
theorem dX9_cutAll_106 : decode cX9_cutAll 106 = .ok (.getfield 14, 3) := by decide +kernel
theorem dX9_cutAll_109 : decode cX9_cutAll 109 = .ok (.iload_n 2, 1) := by decide +kernel
theorem dX9_cutAll_110 : decode cX9_cutAll 110 = .ok (.iaload, 1) := by decide +kernel
theorem dX9_cutAll_111 : decode cX9_cutAll 111 = .ok (.invokestatic 202, 3) := by decide +kernel
theorem dX9_cutAll_114 : decode cX9_cutAll 114 = .ok (.i2l, 1) := by decide +kernel
theorem dX9_cutAll_115 : decode cX9_cutAll 115 = .ok (.ladd, 1) := by decide +kernel
theorem dX9_cutAll_116 : decode cX9_cutAll 116 = .ok (.goto 5, 3) := by decide +kernel
theorem dX9_cutAll_119 : decode cX9_cutAll 119 = .ok (.lload 5, 2) := by decide +kernel
theorem dX9_cutAll_121 : decode cX9_cutAll 121 = .ok (.lstore 5, 2) := by decide +kernel
theorem dX9_cutAll_123 : decode cX9_cutAll 123 = .ok (.iinc 2 1, 3) := by decide +kernel
theorem dX9_cutAll_126 : decode cX9_cutAll 126 = .ok (.goto (-56), 3) := by decide +kernel
theorem dX9_cutAll_129 : decode cX9_cutAll 129 = .ok (.aload_n 0, 1) := by decide +kernel
theorem dX9_cutAll_130 : decode cX9_cutAll 130 = .ok (.getfield 24, 3) := by decide +kernel
theorem dX9_cutAll_133 : decode cX9_cutAll 133 = .ok (.iload_n 1, 1) := by decide +kernel
theorem dX9_cutAll_134 : decode cX9_cutAll 134 = .ok (.iload_n 2, 1) := by decide +kernel
theorem dX9_cutAll_135 : decode cX9_cutAll 135 = .ok (.iload 4, 2) := by decide +kernel
theorem dX9_cutAll_137 : decode cX9_cutAll 137 = .ok (.isub, 1) := by decide +kernel
theorem dX9_cutAll_138 : decode cX9_cutAll 138 = .ok (.bipush 8, 2) := by decide +kernel
theorem dX9_cutAll_140 : decode cX9_cutAll 140 = .ok (.if_icmp .le 7, 3) := by decide +kernel
theorem dX9_cutAll_143 : decode cX9_cutAll 143 = .ok (.iconst 4, 1) := by decide +kernel
theorem dX9_cutAll_144 : decode cX9_cutAll 144 = .ok (.goto 4, 3) := by decide +kernel
theorem dX9_cutAll_147 : decode cX9_cutAll 147 = .ok (.iconst 1, 1) := by decide +kernel
theorem dX9_cutAll_148 : decode cX9_cutAll 148 = .ok (.iastore, 1) := by decide +kernel
theorem dX9_cutAll_149 : decode cX9_cutAll 149 = .ok (.goto 116, 3) := by decide +kernel
theorem dX9_cutAll_152 : decode cX9_cutAll 152 = .ok (.iload_n 3, 1) := by decide +kernel
theorem dX9_cutAll_153 : decode cX9_cutAll 153 = .ok (.invokestatic 206, 3) := by decide +kernel
theorem dX9_cutAll_156 : decode cX9_cutAll 156 = .ok (.ifCond .eq 84, 3) := by decide +kernel
theorem dX9_cutAll_159 : decode cX9_cutAll 159 = .ok (.iload_n 2, 1) := by decide +kernel
theorem dX9_cutAll_160 : decode cX9_cutAll 160 = .ok (.aload_n 0, 1) := by decide +kernel
theorem dX9_cutAll_161 : decode cX9_cutAll 161 = .ok (.getfield 197, 3) := by decide +kernel
theorem dX9_cutAll_164 : decode cX9_cutAll 164 = .ok (.if_icmp .ge 54, 3) := by decide +kernel
theorem dX9_cutAll_167 : decode cX9_cutAll 167 = .ok (.aload_n 0, 1) := by decide +kernel
theorem dX9_cutAll_168 : decode cX9_cutAll 168 = .ok (.getfield 14, 3) := by decide +kernel
theorem dX9_cutAll_171 : decode cX9_cutAll 171 = .ok (.iload_n 2, 1) := by decide +kernel
theorem dX9_cutAll_172 : decode cX9_cutAll 172 = .ok (.iaload, 1) := by decide +kernel
theorem dX9_cutAll_173 : decode cX9_cutAll 173 = .ok (.invokestatic 206, 3) := by decide +kernel
theorem dX9_cutAll_176 : decode cX9_cutAll 176 = .ok (.ifCond .eq 42, 3) := by decide +kernel
theorem dX9_cutAll_179 : decode cX9_cutAll 179 = .ok (.iload_n 2, 1) := by decide +kernel
theorem dX9_cutAll_180 : decode cX9_cutAll 180 = .ok (.iload 4, 2) := by decide +kernel
theorem dX9_cutAll_182 : decode cX9_cutAll 182 = .ok (.isub, 1) := by decide +kernel
theorem dX9_cutAll_183 : decode cX9_cutAll 183 = .ok (.iconst 4, 1) := by decide +kernel
theorem dX9_cutAll_184 : decode cX9_cutAll 184 = .ok (.if_icmp .ge 24, 3) := by decide +kernel
theorem dX9_cutAll_187 : decode cX9_cutAll 187 = .ok (.ldc2_w 209, 3) := by decide +kernel
theorem dX9_cutAll_190 : decode cX9_cutAll 190 = .ok (.lload 5, 2) := by decide +kernel
theorem dX9_cutAll_192 : decode cX9_cutAll 192 = .ok (.lmul, 1) := by decide +kernel
theorem dX9_cutAll_193 : decode cX9_cutAll 193 = .ok (.aload_n 0, 1) := by decide +kernel
theorem dX9_cutAll_194 : decode cX9_cutAll 194 = .ok (.getfield 14, 3) := by decide +kernel
theorem dX9_cutAll_197 : decode cX9_cutAll 197 = .ok (.iload_n 2, 1) := by decide +kernel
theorem dX9_cutAll_198 : decode cX9_cutAll 198 = .ok (.iaload, 1) := by decide +kernel
theorem dX9_cutAll_199 : decode cX9_cutAll 199 = .ok (.i2l, 1) := by decide +kernel
theorem dX9_cutAll_200 : decode cX9_cutAll 200 = .ok (.ladd, 1) := by decide +kernel
theorem dX9_cutAll_201 : decode cX9_cutAll 201 = .ok (.ldc2_w 211, 3) := by decide +kernel
theorem dX9_cutAll_204 : decode cX9_cutAll 204 = .ok (.lsub, 1) := by decide +kernel
theorem dX9_cutAll_205 : decode cX9_cutAll 205 = .ok (.goto 5, 3) := by decide +kernel
theorem dX9_cutAll_208 : decode cX9_cutAll 208 = .ok (.lload 5, 2) := by decide +kernel
theorem dX9_cutAll_210 : decode cX9_cutAll 210 = .ok (.lstore 5, 2) := by decide +kernel
theorem dX9_cutAll_212 : decode cX9_cutAll 212 = .ok (.iinc 2 1, 3) := by decide +kernel
theorem dX9_cutAll_215 : decode cX9_cutAll 215 = .ok (.goto (-56), 3) := by decide +kernel
theorem dX9_cutAll_218 : decode cX9_cutAll 218 = .ok (.aload_n 0, 1) := by decide +kernel
theorem dX9_cutAll_219 : decode cX9_cutAll 219 = .ok (.getfield 24, 3) := by decide +kernel
theorem dX9_cutAll_222 : decode cX9_cutAll 222 = .ok (.iload_n 1, 1) := by decide +kernel
theorem dX9_cutAll_223 : decode cX9_cutAll 223 = .ok (.iload_n 2, 1) := by decide +kernel
theorem dX9_cutAll_224 : decode cX9_cutAll 224 = .ok (.iload 4, 2) := by decide +kernel
theorem dX9_cutAll_226 : decode cX9_cutAll 226 = .ok (.isub, 1) := by decide +kernel
theorem dX9_cutAll_227 : decode cX9_cutAll 227 = .ok (.iconst 4, 1) := by decide +kernel
theorem dX9_cutAll_228 : decode cX9_cutAll 228 = .ok (.if_icmp .le 7, 3) := by decide +kernel
theorem dX9_cutAll_231 : decode cX9_cutAll 231 = .ok (.iconst 4, 1) := by decide +kernel
theorem dX9_cutAll_232 : decode cX9_cutAll 232 = .ok (.goto 4, 3) := by decide +kernel
theorem dX9_cutAll_235 : decode cX9_cutAll 235 = .ok (.iconst 2, 1) := by decide +kernel
theorem dX9_cutAll_236 : decode cX9_cutAll 236 = .ok (.iastore, 1) := by decide +kernel
theorem dX9_cutAll_237 : decode cX9_cutAll 237 = .ok (.goto 28, 3) := by decide +kernel
theorem dX9_cutAll_240 : decode cX9_cutAll 240 = .ok (.iload_n 3, 1) := by decide +kernel
theorem dX9_cutAll_241 : decode cX9_cutAll 241 = .ok (.i2l, 1) := by decide +kernel
theorem dX9_cutAll_242 : decode cX9_cutAll 242 = .ok (.lstore 5, 2) := by decide +kernel
theorem dX9_cutAll_244 : decode cX9_cutAll 244 = .ok (.aload_n 0, 1) := by decide +kernel
theorem dX9_cutAll_245 : decode cX9_cutAll 245 = .ok (.getfield 24, 3) := by decide +kernel
theorem dX9_cutAll_248 : decode cX9_cutAll 248 = .ok (.iload_n 1, 1) := by decide +kernel
theorem dX9_cutAll_249 : decode cX9_cutAll 249 = .ok (.iload_n 3, 1) := by decide +kernel
theorem dX9_cutAll_250 : decode cX9_cutAll 250 = .ok (.invokestatic 213, 3) := by decide +kernel
theorem dX9_cutAll_253 : decode cX9_cutAll 253 = .ok (.ifCond .eq 7, 3) := by decide +kernel
theorem dX9_cutAll_256 : decode cX9_cutAll 256 = .ok (.iconst 3, 1) := by decide +kernel
theorem dX9_cutAll_257 : decode cX9_cutAll 257 = .ok (.goto 4, 3) := by decide +kernel
theorem dX9_cutAll_260 : decode cX9_cutAll 260 = .ok (.iconst 4, 1) := by decide +kernel
theorem dX9_cutAll_261 : decode cX9_cutAll 261 = .ok (.iastore, 1) := by decide +kernel
theorem dX9_cutAll_262 : decode cX9_cutAll 262 = .ok (.iinc 2 1, 3) := by decide +kernel
theorem dX9_cutAll_265 : decode cX9_cutAll 265 = .ok (.aload_n 0, 1) := by decide +kernel
theorem dX9_cutAll_266 : decode cX9_cutAll 266 = .ok (.getfield 30, 3) := by decide +kernel
theorem dX9_cutAll_269 : decode cX9_cutAll 269 = .ok (.iload_n 1, 1) := by decide +kernel
theorem dX9_cutAll_270 : decode cX9_cutAll 270 = .ok (.lload 5, 2) := by decide +kernel
theorem dX9_cutAll_272 : decode cX9_cutAll 272 = .ok (.lastore, 1) := by decide +kernel
theorem dX9_cutAll_273 : decode cX9_cutAll 273 = .ok (.iinc 1 1, 3) := by decide +kernel
theorem dX9_cutAll_276 : decode cX9_cutAll 276 = .ok (.goto (-259), 3) := by decide +kernel
theorem dX9_cutAll_279 : decode cX9_cutAll 279 = .ok (.aload_n 0, 1) := by decide +kernel
theorem dX9_cutAll_280 : decode cX9_cutAll 280 = .ok (.getfield 24, 3) := by decide +kernel
theorem dX9_cutAll_283 : decode cX9_cutAll 283 = .ok (.iload_n 1, 1) := by decide +kernel
theorem dX9_cutAll_284 : decode cX9_cutAll 284 = .ok (.iconst 0, 1) := by decide +kernel
theorem dX9_cutAll_285 : decode cX9_cutAll 285 = .ok (.iastore, 1) := by decide +kernel
theorem dX9_cutAll_286 : decode cX9_cutAll 286 = .ok (.aload_n 0, 1) := by decide +kernel
theorem dX9_cutAll_287 : decode cX9_cutAll 287 = .ok (.getfield 27, 3) := by decide +kernel
theorem dX9_cutAll_290 : decode cX9_cutAll 290 = .ok (.iload_n 1, 1) := by decide +kernel
theorem dX9_cutAll_291 : decode cX9_cutAll 291 = .ok (.aload_n 0, 1) := by decide +kernel
theorem dX9_cutAll_292 : decode cX9_cutAll 292 = .ok (.getfield 197, 3) := by decide +kernel
theorem dX9_cutAll_295 : decode cX9_cutAll 295 = .ok (.iastore, 1) := by decide +kernel
theorem dX9_cutAll_296 : decode cX9_cutAll 296 = .ok (.aload_n 0, 1) := by decide +kernel
theorem dX9_cutAll_297 : decode cX9_cutAll 297 = .ok (.iconst 0, 1) := by decide +kernel
theorem dX9_cutAll_298 : decode cX9_cutAll 298 = .ok (.putfield 216, 3) := by decide +kernel
theorem dX9_cutAll_301 : decode cX9_cutAll 301 = .ok (.aload_n 0, 1) := by decide +kernel
theorem dX9_cutAll_302 : decode cX9_cutAll 302 = .ok (.iconst 0, 1) := by decide +kernel
theorem dX9_cutAll_303 : decode cX9_cutAll 303 = .ok (.putfield 219, 3) := by decide +kernel
theorem dX9_cutAll_306 : decode cX9_cutAll 306 = .ok (.return_, 1) := by decide +kernel
theorem dX9_wrong_0 : decode cX9_wrong 0 = .ok (.aload_n 0, 1) := by decide +kernel
theorem dX9_wrong_1 : decode cX9_wrong 1 = .ok (.getfield 219, 3) := by decide +kernel
theorem dX9_wrong_4 : decode cX9_wrong 4 = .ok (.ifCond .ne 21, 3) := by decide +kernel
theorem dX9_wrong_7 : decode cX9_wrong 7 = .ok (.aload_n 0, 1) := by decide +kernel
theorem dX9_wrong_8 : decode cX9_wrong 8 = .ok (.iload_n 1, 1) := by decide +kernel
theorem dX9_wrong_9 : decode cX9_wrong 9 = .ok (.bipush 16, 2) := by decide +kernel
theorem dX9_wrong_11 : decode cX9_wrong 11 = .ok (.aload_n 0, 1) := by decide +kernel
theorem dX9_wrong_12 : decode cX9_wrong 12 = .ok (.getfield 27, 3) := by decide +kernel
theorem dX9_wrong_15 : decode cX9_wrong 15 = .ok (.aload_n 0, 1) := by decide +kernel
theorem dX9_wrong_16 : decode cX9_wrong 16 = .ok (.getfield 216, 3) := by decide +kernel
theorem dX9_wrong_19 : decode cX9_wrong 19 = .ok (.iaload, 1) := by decide +kernel
theorem dX9_wrong_20 : decode cX9_wrong 20 = .ok (.imul, 1) := by decide +kernel
theorem dX9_wrong_21 : decode cX9_wrong 21 = .ok (.iadd, 1) := by decide +kernel
theorem dX9_wrong_22 : decode cX9_wrong 22 = .ok (.putfield 219, 3) := by decide +kernel
theorem dX9_wrong_25 : decode cX9_wrong 25 = .ok (.return_, 1) := by decide +kernel
theorem dX9_isSign_0 : decode cX9_isSign 0 = .ok (.aload_n 0, 1) := by decide +kernel
theorem dX9_isSign_1 : decode cX9_isSign 1 = .ok (.getfield 219, 3) := by decide +kernel
theorem dX9_isSign_4 : decode cX9_isSign 4 = .ok (.ifCond .ne 35, 3) := by decide +kernel
theorem dX9_isSign_7 : decode cX9_isSign 7 = .ok (.aload_n 0, 1) := by decide +kernel
theorem dX9_isSign_8 : decode cX9_isSign 8 = .ok (.getfield 24, 3) := by decide +kernel
theorem dX9_isSign_11 : decode cX9_isSign 11 = .ok (.aload_n 0, 1) := by decide +kernel
theorem dX9_isSign_12 : decode cX9_isSign 12 = .ok (.getfield 216, 3) := by decide +kernel
theorem dX9_isSign_15 : decode cX9_isSign 15 = .ok (.iaload, 1) := by decide +kernel
theorem dX9_isSign_16 : decode cX9_isSign 16 = .ok (.iconst 3, 1) := by decide +kernel
theorem dX9_isSign_17 : decode cX9_isSign 17 = .ok (.if_icmp .ne 22, 3) := by decide +kernel
theorem dX9_isSign_20 : decode cX9_isSign 20 = .ok (.aload_n 0, 1) := by decide +kernel
theorem dX9_isSign_21 : decode cX9_isSign 21 = .ok (.getfield 30, 3) := by decide +kernel
theorem dX9_isSign_24 : decode cX9_isSign 24 = .ok (.aload_n 0, 1) := by decide +kernel
theorem dX9_isSign_25 : decode cX9_isSign 25 = .ok (.getfield 216, 3) := by decide +kernel
theorem dX9_isSign_28 : decode cX9_isSign 28 = .ok (.laload, 1) := by decide +kernel
theorem dX9_isSign_29 : decode cX9_isSign 29 = .ok (.iload_n 1, 1) := by decide +kernel
theorem dX9_isSign_30 : decode cX9_isSign 30 = .ok (.i2l, 1) := by decide +kernel
theorem dX9_isSign_31 : decode cX9_isSign 31 = .ok (.lcmp, 1) := by decide +kernel
theorem dX9_isSign_32 : decode cX9_isSign 32 = .ok (.ifCond .ne 7, 3) := by decide +kernel
theorem dX9_isSign_35 : decode cX9_isSign 35 = .ok (.iconst 1, 1) := by decide +kernel
theorem dX9_isSign_36 : decode cX9_isSign 36 = .ok (.goto 4, 3) := by decide +kernel
theorem dX9_isSign_39 : decode cX9_isSign 39 = .ok (.iconst 0, 1) := by decide +kernel
theorem dX9_isSign_40 : decode cX9_isSign 40 = .ok (.ireturn, 1) := by decide +kernel
theorem dX9_isWord_0 : decode cX9_isWord 0 = .ok (.aload_n 0, 1) := by decide +kernel
theorem dX9_isWord_1 : decode cX9_isWord 1 = .ok (.getfield 219, 3) := by decide +kernel
theorem dX9_isWord_4 : decode cX9_isWord 4 = .ok (.ifCond .ne 39, 3) := by decide +kernel
theorem dX9_isWord_7 : decode cX9_isWord 7 = .ok (.aload_n 0, 1) := by decide +kernel
theorem dX9_isWord_8 : decode cX9_isWord 8 = .ok (.getfield 24, 3) := by decide +kernel
theorem dX9_isWord_11 : decode cX9_isWord 11 = .ok (.aload_n 0, 1) := by decide +kernel
theorem dX9_isWord_12 : decode cX9_isWord 12 = .ok (.getfield 216, 3) := by decide +kernel
theorem dX9_isWord_15 : decode cX9_isWord 15 = .ok (.iaload, 1) := by decide +kernel
theorem dX9_isWord_16 : decode cX9_isWord 16 = .ok (.iconst 1, 1) := by decide +kernel
theorem dX9_isWord_17 : decode cX9_isWord 17 = .ok (.if_icmp .ne 26, 3) := by decide +kernel
theorem dX9_isWord_20 : decode cX9_isWord 20 = .ok (.aload_n 0, 1) := by decide +kernel
theorem dX9_isWord_21 : decode cX9_isWord 21 = .ok (.getfield 30, 3) := by decide +kernel
theorem dX9_isWord_24 : decode cX9_isWord 24 = .ok (.aload_n 0, 1) := by decide +kernel
theorem dX9_isWord_25 : decode cX9_isWord 25 = .ok (.getfield 216, 3) := by decide +kernel
theorem dX9_isWord_28 : decode cX9_isWord 28 = .ok (.laload, 1) := by decide +kernel
theorem dX9_isWord_29 : decode cX9_isWord 29 = .ok (.aload_n 0, 1) := by decide +kernel
theorem dX9_isWord_30 : decode cX9_isWord 30 = .ok (.getfield 54, 3) := by decide +kernel
theorem dX9_isWord_33 : decode cX9_isWord 33 = .ok (.iload_n 1, 1) := by decide +kernel
theorem dX9_isWord_34 : decode cX9_isWord 34 = .ok (.laload, 1) := by decide +kernel
theorem dX9_isWord_35 : decode cX9_isWord 35 = .ok (.lcmp, 1) := by decide +kernel
theorem dX9_isWord_36 : decode cX9_isWord 36 = .ok (.ifCond .ne 7, 3) := by decide +kernel
theorem dX9_isWord_39 : decode cX9_isWord 39 = .ok (.iconst 1, 1) := by decide +kernel
theorem dX9_isWord_40 : decode cX9_isWord 40 = .ok (.goto 4, 3) := by decide +kernel
theorem dX9_isWord_43 : decode cX9_isWord 43 = .ok (.iconst 0, 1) := by decide +kernel
theorem dX9_isWord_44 : decode cX9_isWord 44 = .ok (.ireturn, 1) := by decide +kernel
theorem dX9_takeSign_0 : decode cX9_takeSign 0 = .ok (.aload_n 0, 1) := by decide +kernel
theorem dX9_takeSign_1 : decode cX9_takeSign 1 = .ok (.iload_n 1, 1) := by decide +kernel
theorem dX9_takeSign_2 : decode cX9_takeSign 2 = .ok (.invokevirtual 222, 3) := by decide +kernel
theorem dX9_takeSign_5 : decode cX9_takeSign 5 = .ok (.ifCond .eq 16, 3) := by decide +kernel
theorem dX9_takeSign_8 : decode cX9_takeSign 8 = .ok (.aload_n 0, 1) := by decide +kernel
theorem dX9_takeSign_9 : decode cX9_takeSign 9 = .ok (.dup, 1) := by decide +kernel
theorem dX9_takeSign_10 : decode cX9_takeSign 10 = .ok (.getfield 216, 3) := by decide +kernel
theorem dX9_takeSign_13 : decode cX9_takeSign 13 = .ok (.iconst 1, 1) := by decide +kernel
theorem dX9_takeSign_14 : decode cX9_takeSign 14 = .ok (.iadd, 1) := by decide +kernel
theorem dX9_takeSign_15 : decode cX9_takeSign 15 = .ok (.putfield 216, 3) := by decide +kernel
theorem dX9_takeSign_18 : decode cX9_takeSign 18 = .ok (.goto 8, 3) := by decide +kernel
theorem dX9_takeSign_21 : decode cX9_takeSign 21 = .ok (.aload_n 0, 1) := by decide +kernel
theorem dX9_takeSign_22 : decode cX9_takeSign 22 = .ok (.iconst 1, 1) := by decide +kernel
theorem dX9_takeSign_23 : decode cX9_takeSign 23 = .ok (.invokevirtual 225, 3) := by decide +kernel
theorem dX9_takeSign_26 : decode cX9_takeSign 26 = .ok (.return_, 1) := by decide +kernel
theorem dX9_hasSign_0 : decode cX9_hasSign 0 = .ok (.aload_n 0, 1) := by decide +kernel
theorem dX9_hasSign_1 : decode cX9_hasSign 1 = .ok (.iload_n 1, 1) := by decide +kernel
theorem dX9_hasSign_2 : decode cX9_hasSign 2 = .ok (.invokevirtual 222, 3) := by decide +kernel
theorem dX9_hasSign_5 : decode cX9_hasSign 5 = .ok (.istore_n 2, 1) := by decide +kernel
theorem dX9_hasSign_6 : decode cX9_hasSign 6 = .ok (.aload_n 0, 1) := by decide +kernel
theorem dX9_hasSign_7 : decode cX9_hasSign 7 = .ok (.dup, 1) := by decide +kernel
theorem dX9_hasSign_8 : decode cX9_hasSign 8 = .ok (.getfield 216, 3) := by decide +kernel
theorem dX9_hasSign_11 : decode cX9_hasSign 11 = .ok (.iload_n 2, 1) := by decide +kernel
theorem dX9_hasSign_12 : decode cX9_hasSign 12 = .ok (.ifCond .eq 7, 3) := by decide +kernel
theorem dX9_hasSign_15 : decode cX9_hasSign 15 = .ok (.iconst 1, 1) := by decide +kernel
theorem dX9_hasSign_16 : decode cX9_hasSign 16 = .ok (.goto 4, 3) := by decide +kernel
theorem dX9_hasSign_19 : decode cX9_hasSign 19 = .ok (.iconst 0, 1) := by decide +kernel
theorem dX9_hasSign_20 : decode cX9_hasSign 20 = .ok (.iadd, 1) := by decide +kernel
theorem dX9_hasSign_21 : decode cX9_hasSign 21 = .ok (.putfield 216, 3) := by decide +kernel
theorem dX9_hasSign_24 : decode cX9_hasSign 24 = .ok (.iload_n 2, 1) := by decide +kernel
theorem dX9_hasSign_25 : decode cX9_hasSign 25 = .ok (.ireturn, 1) := by decide +kernel
theorem dX9_hasWord_0 : decode cX9_hasWord 0 = .ok (.aload_n 0, 1) := by decide +kernel
theorem dX9_hasWord_1 : decode cX9_hasWord 1 = .ok (.iload_n 1, 1) := by decide +kernel
theorem dX9_hasWord_2 : decode cX9_hasWord 2 = .ok (.invokevirtual 229, 3) := by decide +kernel
theorem dX9_hasWord_5 : decode cX9_hasWord 5 = .ok (.istore_n 2, 1) := by decide +kernel
theorem dX9_hasWord_6 : decode cX9_hasWord 6 = .ok (.aload_n 0, 1) := by decide +kernel
theorem dX9_hasWord_7 : decode cX9_hasWord 7 = .ok (.dup, 1) := by decide +kernel
theorem dX9_hasWord_8 : decode cX9_hasWord 8 = .ok (.getfield 216, 3) := by decide +kernel
theorem dX9_hasWord_11 : decode cX9_hasWord 11 = .ok (.iload_n 2, 1) := by decide +kernel
theorem dX9_hasWord_12 : decode cX9_hasWord 12 = .ok (.ifCond .eq 7, 3) := by decide +kernel
theorem dX9_hasWord_15 : decode cX9_hasWord 15 = .ok (.iconst 1, 1) := by decide +kernel
theorem dX9_hasWord_16 : decode cX9_hasWord 16 = .ok (.goto 4, 3) := by decide +kernel
theorem dX9_hasWord_19 : decode cX9_hasWord 19 = .ok (.iconst 0, 1) := by decide +kernel
theorem dX9_hasWord_20 : decode cX9_hasWord 20 = .ok (.iadd, 1) := by decide +kernel
theorem dX9_hasWord_21 : decode cX9_hasWord 21 = .ok (.putfield 216, 3) := by decide +kernel
theorem dX9_hasWord_24 : decode cX9_hasWord 24 = .ok (.iload_n 2, 1) := by decide +kernel
theorem dX9_hasWord_25 : decode cX9_hasWord 25 = .ok (.ireturn, 1) := by decide +kernel
theorem dX9_takeWord_0 : decode cX9_takeWord 0 = .ok (.aload_n 0, 1) := by decide +kernel
theorem dX9_takeWord_1 : decode cX9_takeWord 1 = .ok (.iload_n 1, 1) := by decide +kernel
theorem dX9_takeWord_2 : decode cX9_takeWord 2 = .ok (.invokevirtual 232, 3) := by decide +kernel
theorem dX9_takeWord_5 : decode cX9_takeWord 5 = .ok (.ifCond .ne 8, 3) := by decide +kernel
theorem dX9_takeWord_8 : decode cX9_takeWord 8 = .ok (.aload_n 0, 1) := by decide +kernel
theorem dX9_takeWord_9 : decode cX9_takeWord 9 = .ok (.iconst 1, 1) := by decide +kernel
theorem dX9_takeWord_10 : decode cX9_takeWord 10 = .ok (.invokevirtual 225, 3) := by decide +kernel
theorem dX9_takeWord_13 : decode cX9_takeWord 13 = .ok (.return_, 1) := by decide +kernel
theorem dX9_emit_0 : decode cX9_emit 0 = .ok (.aload_n 0, 1) := by decide +kernel
theorem dX9_emit_1 : decode cX9_emit 1 = .ok (.getfield 70, 3) := by decide +kernel
theorem dX9_emit_4 : decode cX9_emit 4 = .ok (.sipush 660, 3) := by decide +kernel
theorem dX9_emit_7 : decode cX9_emit 7 = .ok (.aload_n 0, 1) := by decide +kernel
theorem dX9_emit_8 : decode cX9_emit 8 = .ok (.getfield 235, 3) := by decide +kernel
theorem dX9_emit_11 : decode cX9_emit 11 = .ok (.imul, 1) := by decide +kernel
theorem dX9_emit_12 : decode cX9_emit 12 = .ok (.aload_n 0, 1) := by decide +kernel
theorem dX9_emit_13 : decode cX9_emit 13 = .ok (.getfield 238, 3) := by decide +kernel
theorem dX9_emit_16 : decode cX9_emit 16 = .ok (.iadd, 1) := by decide +kernel
theorem dX9_emit_17 : decode cX9_emit 17 = .ok (.iload_n 1, 1) := by decide +kernel
theorem dX9_emit_18 : decode cX9_emit 18 = .ok (.iastore, 1) := by decide +kernel
theorem dX9_emit_19 : decode cX9_emit 19 = .ok (.aload_n 0, 1) := by decide +kernel
theorem dX9_emit_20 : decode cX9_emit 20 = .ok (.getfield 73, 3) := by decide +kernel
theorem dX9_emit_23 : decode cX9_emit 23 = .ok (.sipush 660, 3) := by decide +kernel
theorem dX9_emit_26 : decode cX9_emit 26 = .ok (.aload_n 0, 1) := by decide +kernel
theorem dX9_emit_27 : decode cX9_emit 27 = .ok (.getfield 235, 3) := by decide +kernel
theorem dX9_emit_30 : decode cX9_emit 30 = .ok (.imul, 1) := by decide +kernel
theorem dX9_emit_31 : decode cX9_emit 31 = .ok (.aload_n 0, 1) := by decide +kernel
theorem dX9_emit_32 : decode cX9_emit 32 = .ok (.getfield 238, 3) := by decide +kernel
theorem dX9_emit_35 : decode cX9_emit 35 = .ok (.iadd, 1) := by decide +kernel
theorem dX9_emit_36 : decode cX9_emit 36 = .ok (.iload_n 2, 1) := by decide +kernel
theorem dX9_emit_37 : decode cX9_emit 37 = .ok (.iastore, 1) := by decide +kernel
theorem dX9_emit_38 : decode cX9_emit 38 = .ok (.aload_n 0, 1) := by decide +kernel
theorem dX9_emit_39 : decode cX9_emit 39 = .ok (.dup, 1) := by decide +kernel
theorem dX9_emit_40 : decode cX9_emit 40 = .ok (.getfield 238, 3) := by decide +kernel
theorem dX9_emit_43 : decode cX9_emit 43 = .ok (.iconst 1, 1) := by decide +kernel
theorem dX9_emit_44 : decode cX9_emit 44 = .ok (.iadd, 1) := by decide +kernel
theorem dX9_emit_45 : decode cX9_emit 45 = .ok (.putfield 238, 3) := by decide +kernel
theorem dX9_emit_48 : decode cX9_emit 48 = .ok (.return_, 1) := by decide +kernel
theorem dX9_text_0 : decode cX9_text 0 = .ok (.aload_n 0, 1) := by decide +kernel
theorem dX9_text_1 : decode cX9_text 1 = .ok (.iconst 0, 1) := by decide +kernel
theorem dX9_text_2 : decode cX9_text 2 = .ok (.putfield 1, 3) := by decide +kernel
theorem dX9_text_5 : decode cX9_text 5 = .ok (.aload_n 0, 1) := by decide +kernel
theorem dX9_text_6 : decode cX9_text 6 = .ok (.invokevirtual 241, 3) := by decide +kernel
theorem dX9_text_9 : decode cX9_text 9 = .ok (.aload_n 0, 1) := by decide +kernel
theorem dX9_text_10 : decode cX9_text 10 = .ok (.iconst 1, 1) := by decide +kernel
theorem dX9_text_11 : decode cX9_text 11 = .ok (.aload_n 0, 1) := by decide +kernel
theorem dX9_text_12 : decode cX9_text 12 = .ok (.getfield 244, 3) := by decide +kernel
theorem dX9_text_15 : decode cX9_text 15 = .ok (.isub, 1) := by decide +kernel
theorem dX9_text_16 : decode cX9_text 16 = .ok (.putfield 235, 3) := by decide +kernel
theorem dX9_text_19 : decode cX9_text 19 = .ok (.aload_n 0, 1) := by decide +kernel
theorem dX9_text_20 : decode cX9_text 20 = .ok (.getfield 57, 3) := by decide +kernel
theorem dX9_text_23 : decode cX9_text 23 = .ok (.aload_n 0, 1) := by decide +kernel
theorem dX9_text_24 : decode cX9_text 24 = .ok (.getfield 235, 3) := by decide +kernel
theorem dX9_text_27 : decode cX9_text 27 = .ok (.iconst 0, 1) := by decide +kernel
theorem dX9_text_28 : decode cX9_text 28 = .ok (.iastore, 1) := by decide +kernel
theorem dX9_text_29 : decode cX9_text 29 = .ok (.aload_n 0, 1) := by decide +kernel
theorem dX9_text_30 : decode cX9_text 30 = .ok (.iconst 0, 1) := by decide +kernel
theorem dX9_text_31 : decode cX9_text 31 = .ok (.putfield 238, 3) := by decide +kernel
theorem dX9_text_34 : decode cX9_text 34 = .ok (.aload_n 0, 1) := by decide +kernel
theorem dX9_text_35 : decode cX9_text 35 = .ok (.getfield 219, 3) := by decide +kernel
theorem dX9_text_38 : decode cX9_text 38 = .ok (.ifCond .ne 22, 3) := by decide +kernel
theorem dX9_text_41 : decode cX9_text 41 = .ok (.aload_n 0, 1) := by decide +kernel
theorem dX9_text_42 : decode cX9_text 42 = .ok (.getfield 24, 3) := by decide +kernel
theorem dX9_text_45 : decode cX9_text 45 = .ok (.aload_n 0, 1) := by decide +kernel
theorem dX9_text_46 : decode cX9_text 46 = .ok (.getfield 216, 3) := by decide +kernel
theorem dX9_text_49 : decode cX9_text 49 = .ok (.iaload, 1) := by decide +kernel
theorem dX9_text_50 : decode cX9_text 50 = .ok (.ifCond .eq 10, 3) := by decide +kernel
theorem dX9_text_53 : decode cX9_text 53 = .ok (.aload_n 0, 1) := by decide +kernel
theorem dX9_text_54 : decode cX9_text 54 = .ok (.invokevirtual 247, 3) := by decide +kernel
theorem dX9_text_57 : decode cX9_text 57 = .ok (.goto (-23), 3) := by decide +kernel
theorem dX9_text_60 : decode cX9_text 60 = .ok (.aload_n 0, 1) := by decide +kernel
theorem dX9_text_61 : decode cX9_text 61 = .ok (.getfield 219, 3) := by decide +kernel
theorem dX9_text_64 : decode cX9_text 64 = .ok (.ifCond .ne 11, 3) := by decide +kernel
theorem dX9_text_67 : decode cX9_text 67 = .ok (.aload_n 0, 1) := by decide +kernel
theorem dX9_text_68 : decode cX9_text 68 = .ok (.aload_n 0, 1) := by decide +kernel
theorem dX9_text_69 : decode cX9_text 69 = .ok (.getfield 235, 3) := by decide +kernel
theorem dX9_text_72 : decode cX9_text 72 = .ok (.putfield 244, 3) := by decide +kernel
theorem dX9_text_75 : decode cX9_text 75 = .ok (.aload_n 0, 1) := by decide +kernel
theorem dX9_text_76 : decode cX9_text 76 = .ok (.getfield 219, 3) := by decide +kernel
theorem dX9_text_79 : decode cX9_text 79 = .ok (.ireturn, 1) := by decide +kernel
theorem dX9_line_0 : decode cX9_line 0 = .ok (.aload_n 0, 1) := by decide +kernel
theorem dX9_line_1 : decode cX9_line 1 = .ok (.iconst 1, 1) := by decide +kernel
theorem dX9_line_2 : decode cX9_line 2 = .ok (.invokevirtual 229, 3) := by decide +kernel
theorem dX9_line_5 : decode cX9_line 5 = .ok (.istore_n 1, 1) := by decide +kernel
theorem dX9_line_6 : decode cX9_line 6 = .ok (.iload_n 1, 1) := by decide +kernel
theorem dX9_line_7 : decode cX9_line 7 = .ok (.ifCond .ne 19, 3) := by decide +kernel
theorem dX9_line_10 : decode cX9_line 10 = .ok (.aload_n 0, 1) := by decide +kernel
theorem dX9_line_11 : decode cX9_line 11 = .ok (.iconst 0, 1) := by decide +kernel
theorem dX9_line_12 : decode cX9_line 12 = .ok (.invokevirtual 229, 3) := by decide +kernel
theorem dX9_line_15 : decode cX9_line 15 = .ok (.ifCond .ne 11, 3) := by decide +kernel
theorem dX9_line_18 : decode cX9_line 18 = .ok (.aload_n 0, 1) := by decide +kernel
theorem dX9_line_19 : decode cX9_line 19 = .ok (.iconst 1, 1) := by decide +kernel
theorem dX9_line_20 : decode cX9_line 20 = .ok (.invokevirtual 225, 3) := by decide +kernel
theorem dX9_line_23 : decode cX9_line 23 = .ok (.goto 22, 3) := by decide +kernel
theorem dX9_line_26 : decode cX9_line 26 = .ok (.aload_n 0, 1) := by decide +kernel
theorem dX9_line_27 : decode cX9_line 27 = .ok (.getfield 57, 3) := by decide +kernel
theorem dX9_line_30 : decode cX9_line 30 = .ok (.aload_n 0, 1) := by decide +kernel
theorem dX9_line_31 : decode cX9_line 31 = .ok (.getfield 235, 3) := by decide +kernel
theorem dX9_line_34 : decode cX9_line 34 = .ok (.iaload, 1) := by decide +kernel
theorem dX9_line_35 : decode cX9_line 35 = .ok (.bipush 16, 2) := by decide +kernel
theorem dX9_line_37 : decode cX9_line 37 = .ok (.if_icmp .ne 8, 3) := by decide +kernel
theorem dX9_line_40 : decode cX9_line 40 = .ok (.aload_n 0, 1) := by decide +kernel
theorem dX9_line_41 : decode cX9_line 41 = .ok (.iconst 5, 1) := by decide +kernel
theorem dX9_line_42 : decode cX9_line 42 = .ok (.invokevirtual 225, 3) := by decide +kernel
theorem dX9_line_45 : decode cX9_line 45 = .ok (.aload_n 0, 1) := by decide +kernel
theorem dX9_line_46 : decode cX9_line 46 = .ok (.getfield 219, 3) := by decide +kernel
theorem dX9_line_49 : decode cX9_line 49 = .ok (.ifCond .le 4, 3) := by decide +kernel
theorem dX9_line_52 : decode cX9_line 52 = .ok (.return_, 1) := by decide +kernel
theorem dX9_line_53 : decode cX9_line 53 = .ok (.aload_n 0, 1) := by decide +kernel
theorem dX9_line_54 : decode cX9_line 54 = .ok (.dup, 1) := by decide +kernel
theorem dX9_line_55 : decode cX9_line 55 = .ok (.getfield 216, 3) := by decide +kernel
theorem dX9_line_58 : decode cX9_line 58 = .ok (.iconst 1, 1) := by decide +kernel
theorem dX9_line_59 : decode cX9_line 59 = .ok (.iadd, 1) := by decide +kernel
theorem dX9_line_60 : decode cX9_line 60 = .ok (.putfield 216, 3) := by decide +kernel
theorem dX9_line_63 : decode cX9_line 63 = .ok (.bipush 16, 2) := by decide +kernel
theorem dX9_line_65 : decode cX9_line 65 = .ok (.aload_n 0, 1) := by decide +kernel
theorem dX9_line_66 : decode cX9_line 66 = .ok (.getfield 235, 3) := by decide +kernel
theorem dX9_line_69 : decode cX9_line 69 = .ok (.imul, 1) := by decide +kernel
theorem dX9_line_70 : decode cX9_line 70 = .ok (.aload_n 0, 1) := by decide +kernel
theorem dX9_line_71 : decode cX9_line 71 = .ok (.getfield 57, 3) := by decide +kernel
theorem dX9_line_74 : decode cX9_line 74 = .ok (.aload_n 0, 1) := by decide +kernel
theorem dX9_line_75 : decode cX9_line 75 = .ok (.getfield 235, 3) := by decide +kernel
theorem dX9_line_78 : decode cX9_line 78 = .ok (.iaload, 1) := by decide +kernel
theorem dX9_line_79 : decode cX9_line 79 = .ok (.iadd, 1) := by decide +kernel
theorem dX9_line_80 : decode cX9_line 80 = .ok (.istore_n 2, 1) := by decide +kernel
theorem dX9_line_81 : decode cX9_line 81 = .ok (.aload_n 0, 1) := by decide +kernel
theorem dX9_line_82 : decode cX9_line 82 = .ok (.getfield 24, 3) := by decide +kernel
theorem dX9_line_85 : decode cX9_line 85 = .ok (.aload_n 0, 1) := by decide +kernel
theorem dX9_line_86 : decode cX9_line 86 = .ok (.getfield 216, 3) := by decide +kernel
theorem dX9_line_89 : decode cX9_line 89 = .ok (.iaload, 1) := by decide +kernel
theorem dX9_line_90 : decode cX9_line 90 = .ok (.iconst 2, 1) := by decide +kernel
theorem dX9_line_91 : decode cX9_line 91 = .ok (.if_icmp .eq 11, 3) := by decide +kernel
theorem dX9_line_94 : decode cX9_line 94 = .ok (.aload_n 0, 1) := by decide +kernel
theorem dX9_line_95 : decode cX9_line 95 = .ok (.iconst 1, 1) := by decide +kernel
theorem dX9_line_96 : decode cX9_line 96 = .ok (.invokevirtual 225, 3) := by decide +kernel
theorem dX9_line_99 : decode cX9_line 99 = .ok (.goto 24, 3) := by decide +kernel
theorem dX9_line_102 : decode cX9_line 102 = .ok (.aload_n 0, 1) := by decide +kernel
theorem dX9_line_103 : decode cX9_line 103 = .ok (.getfield 30, 3) := by decide +kernel
theorem dX9_line_106 : decode cX9_line 106 = .ok (.aload_n 0, 1) := by decide +kernel
theorem dX9_line_107 : decode cX9_line 107 = .ok (.getfield 216, 3) := by decide +kernel
theorem dX9_line_110 : decode cX9_line 110 = .ok (.laload, 1) := by decide +kernel
theorem dX9_line_111 : decode cX9_line 111 = .ok (.ldc2_w 250, 3) := by decide +kernel
theorem dX9_line_114 : decode cX9_line 114 = .ok (.lcmp, 1) := by decide +kernel
theorem dX9_line_115 : decode cX9_line 115 = .ok (.ifCond .le 8, 3) := by decide +kernel
theorem dX9_line_118 : decode cX9_line 118 = .ok (.aload_n 0, 1) := by decide +kernel
theorem dX9_line_119 : decode cX9_line 119 = .ok (.iconst 4, 1) := by decide +kernel
theorem dX9_line_120 : decode cX9_line 120 = .ok (.invokevirtual 225, 3) := by decide +kernel
theorem dX9_line_123 : decode cX9_line 123 = .ok (.aload_n 0, 1) := by decide +kernel
theorem dX9_line_124 : decode cX9_line 124 = .ok (.getfield 60, 3) := by decide +kernel
theorem dX9_line_127 : decode cX9_line 127 = .ok (.iload_n 2, 1) := by decide +kernel
theorem dX9_line_128 : decode cX9_line 128 = .ok (.iload_n 1, 1) := by decide +kernel
theorem dX9_line_129 : decode cX9_line 129 = .ok (.bastore, 1) := by decide +kernel
theorem dX9_line_130 : decode cX9_line 130 = .ok (.aload_n 0, 1) := by decide +kernel
theorem dX9_line_131 : decode cX9_line 131 = .ok (.getfield 64, 3) := by decide +kernel
theorem dX9_line_134 : decode cX9_line 134 = .ok (.iload_n 2, 1) := by decide +kernel
theorem dX9_line_135 : decode cX9_line 135 = .ok (.aload_n 0, 1) := by decide +kernel
theorem dX9_line_136 : decode cX9_line 136 = .ok (.getfield 219, 3) := by decide +kernel
theorem dX9_line_139 : decode cX9_line 139 = .ok (.ifCond .le 7, 3) := by decide +kernel
theorem dX9_line_142 : decode cX9_line 142 = .ok (.iconst 0, 1) := by decide +kernel
theorem dX9_line_143 : decode cX9_line 143 = .ok (.goto 13, 3) := by decide +kernel
theorem dX9_line_146 : decode cX9_line 146 = .ok (.aload_n 0, 1) := by decide +kernel
theorem dX9_line_147 : decode cX9_line 147 = .ok (.getfield 30, 3) := by decide +kernel
theorem dX9_line_150 : decode cX9_line 150 = .ok (.aload_n 0, 1) := by decide +kernel
theorem dX9_line_151 : decode cX9_line 151 = .ok (.getfield 216, 3) := by decide +kernel
theorem dX9_line_154 : decode cX9_line 154 = .ok (.laload, 1) := by decide +kernel
theorem dX9_line_155 : decode cX9_line 155 = .ok (.l2i, 1) := by decide +kernel
theorem dX9_line_156 : decode cX9_line 156 = .ok (.iastore, 1) := by decide +kernel
theorem dX9_line_157 : decode cX9_line 157 = .ok (.aload_n 0, 1) := by decide +kernel
theorem dX9_line_158 : decode cX9_line 158 = .ok (.dup, 1) := by decide +kernel
theorem dX9_line_159 : decode cX9_line 159 = .ok (.getfield 216, 3) := by decide +kernel
theorem dX9_line_162 : decode cX9_line 162 = .ok (.iconst 1, 1) := by decide +kernel
theorem dX9_line_163 : decode cX9_line 163 = .ok (.iadd, 1) := by decide +kernel
theorem dX9_line_164 : decode cX9_line 164 = .ok (.putfield 216, 3) := by decide +kernel
theorem dX9_line_167 : decode cX9_line 167 = .ok (.aload_n 0, 1) := by decide +kernel
theorem dX9_line_168 : decode cX9_line 168 = .ok (.iconst 2, 1) := by decide +kernel
theorem dX9_line_169 : decode cX9_line 169 = .ok (.invokevirtual 252, 3) := by decide +kernel
theorem dX9_line_172 : decode cX9_line 172 = .ok (.aload_n 0, 1) := by decide +kernel
theorem dX9_line_173 : decode cX9_line 173 = .ok (.getfield 67, 3) := by decide +kernel
theorem dX9_line_176 : decode cX9_line 176 = .ok (.iload_n 2, 1) := by decide +kernel
theorem dX9_line_177 : decode cX9_line 177 = .ok (.sipush 660, 3) := by decide +kernel
theorem dX9_line_180 : decode cX9_line 180 = .ok (.aload_n 0, 1) := by decide +kernel
theorem dX9_line_181 : decode cX9_line 181 = .ok (.getfield 235, 3) := by decide +kernel
theorem dX9_line_184 : decode cX9_line 184 = .ok (.imul, 1) := by decide +kernel
theorem dX9_line_185 : decode cX9_line 185 = .ok (.aload_n 0, 1) := by decide +kernel
theorem dX9_line_186 : decode cX9_line 186 = .ok (.getfield 238, 3) := by decide +kernel
theorem dX9_line_189 : decode cX9_line 189 = .ok (.iadd, 1) := by decide +kernel
theorem dX9_line_190 : decode cX9_line 190 = .ok (.iastore, 1) := by decide +kernel
theorem dX9_line_191 : decode cX9_line 191 = .ok (.aload_n 0, 1) := by decide +kernel
theorem dX9_line_192 : decode cX9_line 192 = .ok (.iconst 0, 1) := by decide +kernel
theorem dX9_line_193 : decode cX9_line 193 = .ok (.putfield 255, 3) := by decide +kernel
theorem dX9_line_196 : decode cX9_line 196 = .ok (.aload_n 0, 1) := by decide +kernel
theorem dX9_line_197 : decode cX9_line 197 = .ok (.invokevirtual 258, 3) := by decide +kernel
theorem dX9_line_200 : decode cX9_line 200 = .ok (.iconst 1, 1) := by decide +kernel
theorem dX9_line_201 : decode cX9_line 201 = .ok (.istore_n 3, 1) := by decide +kernel
theorem dX9_line_202 : decode cX9_line 202 = .ok (.iload_n 3, 1) := by decide +kernel
theorem dX9_line_203 : decode cX9_line 203 = .ok (.ifCond .eq 33, 3) := by decide +kernel
theorem dX9_line_206 : decode cX9_line 206 = .ok (.aload_n 0, 1) := by decide +kernel
theorem dX9_line_207 : decode cX9_line 207 = .ok (.getfield 219, 3) := by decide +kernel
theorem dX9_line_210 : decode cX9_line 210 = .ok (.ifCond .ne 26, 3) := by decide +kernel
theorem dX9_line_213 : decode cX9_line 213 = .ok (.aload_n 0, 1) := by decide +kernel
theorem dX9_line_214 : decode cX9_line 214 = .ok (.invokevirtual 261, 3) := by decide +kernel
theorem dX9_line_217 : decode cX9_line 217 = .ok (.ifCond .ne 10, 3) := by decide +kernel
theorem dX9_line_220 : decode cX9_line 220 = .ok (.aload_n 0, 1) := by decide +kernel
theorem dX9_line_221 : decode cX9_line 221 = .ok (.invokevirtual 265, 3) := by decide +kernel
theorem dX9_line_224 : decode cX9_line 224 = .ok (.ifCond .eq 7, 3) := by decide +kernel
theorem dX9_line_227 : decode cX9_line 227 = .ok (.iconst 1, 1) := by decide +kernel
theorem dX9_line_228 : decode cX9_line 228 = .ok (.goto 4, 3) := by decide +kernel
theorem dX9_line_231 : decode cX9_line 231 = .ok (.iconst 0, 1) := by decide +kernel
theorem dX9_line_232 : decode cX9_line 232 = .ok (.istore_n 3, 1) := by decide +kernel
theorem dX9_line_233 : decode cX9_line 233 = .ok (.goto (-31), 3) := by decide +kernel
theorem dX9_line_236 : decode cX9_line 236 = .ok (.aload_n 0, 1) := by decide +kernel
theorem dX9_line_237 : decode cX9_line 237 = .ok (.iconst 0, 1) := by decide +kernel
theorem dX9_line_238 : decode cX9_line 238 = .ok (.iconst 0, 1) := by decide +kernel
theorem dX9_line_239 : decode cX9_line 239 = .ok (.invokevirtual 268, 3) := by decide +kernel
theorem dX9_line_242 : decode cX9_line 242 = .ok (.aload_n 0, 1) := by decide +kernel
theorem dX9_line_243 : decode cX9_line 243 = .ok (.bipush 59, 2) := by decide +kernel
theorem dX9_line_245 : decode cX9_line 245 = .ok (.invokevirtual 272, 3) := by decide +kernel
theorem dX9_line_248 : decode cX9_line 248 = .ok (.aload_n 0, 1) := by decide +kernel
theorem dX9_line_249 : decode cX9_line 249 = .ok (.getfield 57, 3) := by decide +kernel
theorem dX9_line_252 : decode cX9_line 252 = .ok (.aload_n 0, 1) := by decide +kernel
theorem dX9_line_253 : decode cX9_line 253 = .ok (.getfield 235, 3) := by decide +kernel
theorem dX9_line_256 : decode cX9_line 256 = .ok (.dup2, 1) := by decide +kernel
theorem dX9_line_257 : decode cX9_line 257 = .ok (.iaload, 1) := by decide +kernel
theorem dX9_line_258 : decode cX9_line 258 = .ok (.iconst 1, 1) := by decide +kernel
theorem dX9_line_259 : decode cX9_line 259 = .ok (.iadd, 1) := by decide +kernel
theorem dX9_line_260 : decode cX9_line 260 = .ok (.iastore, 1) := by decide +kernel
theorem dX9_line_261 : decode cX9_line 261 = .ok (.return_, 1) := by decide +kernel
theorem dX9_opens_0 : decode cX9_opens 0 = .ok (.aload_n 0, 1) := by decide +kernel
theorem dX9_opens_1 : decode cX9_opens 1 = .ok (.getfield 76, 3) := by decide +kernel
theorem dX9_opens_4 : decode cX9_opens 4 = .ok (.aload_n 0, 1) := by decide +kernel
theorem dX9_opens_5 : decode cX9_opens 5 = .ok (.getfield 255, 3) := by decide +kernel
theorem dX9_opens_8 : decode cX9_opens 8 = .ok (.iconst 0, 1) := by decide +kernel
theorem dX9_opens_9 : decode cX9_opens 9 = .ok (.iastore, 1) := by decide +kernel
theorem dX9_opens_10 : decode cX9_opens 10 = .ok (.aload_n 0, 1) := by decide +kernel
theorem dX9_opens_11 : decode cX9_opens 11 = .ok (.getfield 79, 3) := by decide +kernel
theorem dX9_opens_14 : decode cX9_opens 14 = .ok (.aload_n 0, 1) := by decide +kernel
theorem dX9_opens_15 : decode cX9_opens 15 = .ok (.getfield 255, 3) := by decide +kernel
theorem dX9_opens_18 : decode cX9_opens 18 = .ok (.iconst 0, 1) := by decide +kernel
theorem dX9_opens_19 : decode cX9_opens 19 = .ok (.iastore, 1) := by decide +kernel
theorem dX9_opens_20 : decode cX9_opens 20 = .ok (.aload_n 0, 1) := by decide +kernel
theorem dX9_opens_21 : decode cX9_opens 21 = .ok (.getfield 82, 3) := by decide +kernel
theorem dX9_opens_24 : decode cX9_opens 24 = .ok (.aload_n 0, 1) := by decide +kernel
theorem dX9_opens_25 : decode cX9_opens 25 = .ok (.getfield 255, 3) := by decide +kernel
theorem dX9_opens_28 : decode cX9_opens 28 = .ok (.iconst 0, 1) := by decide +kernel
theorem dX9_opens_29 : decode cX9_opens 29 = .ok (.iastore, 1) := by decide +kernel
theorem dX9_opens_30 : decode cX9_opens 30 = .ok (.return_, 1) := by decide +kernel
theorem dX9_partWord_0 : decode cX9_partWord 0 = .ok (.iconst 0, 1) := by decide +kernel
theorem dX9_partWord_1 : decode cX9_partWord 1 = .ok (.istore_n 1, 1) := by decide +kernel
theorem dX9_partWord_2 : decode cX9_partWord 2 = .ok (.iload_n 1, 1) := by decide +kernel
theorem dX9_partWord_3 : decode cX9_partWord 3 = .ok (.bipush 6, 2) := by decide +kernel
theorem dX9_partWord_5 : decode cX9_partWord 5 = .ok (.if_icmp .ge 21, 3) := by decide +kernel
theorem dX9_partWord_8 : decode cX9_partWord 8 = .ok (.aload_n 0, 1) := by decide +kernel
theorem dX9_partWord_9 : decode cX9_partWord 9 = .ok (.iconst 4, 1) := by decide +kernel
theorem dX9_partWord_10 : decode cX9_partWord 10 = .ok (.iload_n 1, 1) := by decide +kernel
theorem dX9_partWord_11 : decode cX9_partWord 11 = .ok (.iadd, 1) := by decide +kernel
theorem dX9_partWord_12 : decode cX9_partWord 12 = .ok (.invokevirtual 229, 3) := by decide +kernel
theorem dX9_partWord_15 : decode cX9_partWord 15 = .ok (.ifCond .eq 5, 3) := by decide +kernel
theorem dX9_partWord_18 : decode cX9_partWord 18 = .ok (.iload_n 1, 1) := by decide +kernel
theorem dX9_partWord_19 : decode cX9_partWord 19 = .ok (.ireturn, 1) := by decide +kernel
theorem dX9_partWord_20 : decode cX9_partWord 20 = .ok (.iinc 1 1, 3) := by decide +kernel
theorem dX9_partWord_23 : decode cX9_partWord 23 = .ok (.goto (-21), 3) := by decide +kernel
theorem dX9_partWord_26 : decode cX9_partWord 26 = .ok (.iconst (-1), 1) := by decide +kernel
theorem dX9_partWord_27 : decode cX9_partWord 27 = .ok (.ireturn, 1) := by decide +kernel
theorem dX9_part_0 : decode cX9_part 0 = .ok (.aload_n 0, 1) := by decide +kernel
theorem dX9_part_1 : decode cX9_part 1 = .ok (.invokevirtual 275, 3) := by decide +kernel
theorem dX9_part_4 : decode cX9_part 4 = .ok (.istore_n 1, 1) := by decide +kernel
theorem dX9_part_5 : decode cX9_part 5 = .ok (.aload_n 0, 1) := by decide +kernel
theorem dX9_part_6 : decode cX9_part 6 = .ok (.getfield 219, 3) := by decide +kernel
theorem dX9_part_9 : decode cX9_part 9 = .ok (.ifCond .ne 37, 3) := by decide +kernel
theorem dX9_part_12 : decode cX9_part 12 = .ok (.aload_n 0, 1) := by decide +kernel
theorem dX9_part_13 : decode cX9_part 13 = .ok (.getfield 24, 3) := by decide +kernel
theorem dX9_part_16 : decode cX9_part 16 = .ok (.aload_n 0, 1) := by decide +kernel
theorem dX9_part_17 : decode cX9_part 17 = .ok (.getfield 216, 3) := by decide +kernel
theorem dX9_part_20 : decode cX9_part 20 = .ok (.iaload, 1) := by decide +kernel
theorem dX9_part_21 : decode cX9_part 21 = .ok (.iconst 2, 1) := by decide +kernel
theorem dX9_part_22 : decode cX9_part 22 = .ok (.if_icmp .eq 24, 3) := by decide +kernel
theorem dX9_part_25 : decode cX9_part 25 = .ok (.aload_n 0, 1) := by decide +kernel
theorem dX9_part_26 : decode cX9_part 26 = .ok (.bipush 40, 2) := by decide +kernel
theorem dX9_part_28 : decode cX9_part 28 = .ok (.invokevirtual 222, 3) := by decide +kernel
theorem dX9_part_31 : decode cX9_part 31 = .ok (.ifCond .ne 15, 3) := by decide +kernel
theorem dX9_part_34 : decode cX9_part 34 = .ok (.iload_n 1, 1) := by decide +kernel
theorem dX9_part_35 : decode cX9_part 35 = .ok (.ifCond .ge 11, 3) := by decide +kernel
theorem dX9_part_38 : decode cX9_part 38 = .ok (.aload_n 0, 1) := by decide +kernel
theorem dX9_part_39 : decode cX9_part 39 = .ok (.iconst 1, 1) := by decide +kernel
theorem dX9_part_40 : decode cX9_part 40 = .ok (.invokevirtual 225, 3) := by decide +kernel
theorem dX9_part_43 : decode cX9_part 43 = .ok (.goto 16, 3) := by decide +kernel
theorem dX9_part_46 : decode cX9_part 46 = .ok (.aload_n 0, 1) := by decide +kernel
theorem dX9_part_47 : decode cX9_part 47 = .ok (.getfield 255, 3) := by decide +kernel
theorem dX9_part_50 : decode cX9_part 50 = .ok (.iconst 5, 1) := by decide +kernel
theorem dX9_part_51 : decode cX9_part 51 = .ok (.if_icmp .ne 8, 3) := by decide +kernel
theorem dX9_part_54 : decode cX9_part 54 = .ok (.aload_n 0, 1) := by decide +kernel
theorem dX9_part_55 : decode cX9_part 55 = .ok (.iconst 5, 1) := by decide +kernel
theorem dX9_part_56 : decode cX9_part 56 = .ok (.invokevirtual 225, 3) := by decide +kernel
theorem dX9_part_59 : decode cX9_part 59 = .ok (.aload_n 0, 1) := by decide +kernel
theorem dX9_part_60 : decode cX9_part 60 = .ok (.getfield 219, 3) := by decide +kernel
theorem dX9_part_63 : decode cX9_part 63 = .ok (.ifCond .le 5, 3) := by decide +kernel
theorem dX9_part_66 : decode cX9_part 66 = .ok (.iconst 0, 1) := by decide +kernel
theorem dX9_part_67 : decode cX9_part 67 = .ok (.ireturn, 1) := by decide +kernel
theorem dX9_part_68 : decode cX9_part 68 = .ok (.aload_n 0, 1) := by decide +kernel
theorem dX9_part_69 : decode cX9_part 69 = .ok (.bipush 40, 2) := by decide +kernel
theorem dX9_part_71 : decode cX9_part 71 = .ok (.invokevirtual 279, 3) := by decide +kernel
theorem dX9_part_74 : decode cX9_part 74 = .ok (.ifCond .eq 19, 3) := by decide +kernel
theorem dX9_part_77 : decode cX9_part 77 = .ok (.aload_n 0, 1) := by decide +kernel
theorem dX9_part_78 : decode cX9_part 78 = .ok (.dup, 1) := by decide +kernel
theorem dX9_part_79 : decode cX9_part 79 = .ok (.getfield 255, 3) := by decide +kernel
theorem dX9_part_82 : decode cX9_part 82 = .ok (.iconst 1, 1) := by decide +kernel
theorem dX9_part_83 : decode cX9_part 83 = .ok (.iadd, 1) := by decide +kernel
theorem dX9_part_84 : decode cX9_part 84 = .ok (.putfield 255, 3) := by decide +kernel
theorem dX9_part_87 : decode cX9_part 87 = .ok (.aload_n 0, 1) := by decide +kernel
theorem dX9_part_88 : decode cX9_part 88 = .ok (.invokevirtual 258, 3) := by decide +kernel
theorem dX9_part_91 : decode cX9_part 91 = .ok (.iconst 1, 1) := by decide +kernel
theorem dX9_part_92 : decode cX9_part 92 = .ok (.ireturn, 1) := by decide +kernel
theorem dX9_part_93 : decode cX9_part 93 = .ok (.aload_n 0, 1) := by decide +kernel
theorem dX9_part_94 : decode cX9_part 94 = .ok (.iload_n 1, 1) := by decide +kernel
theorem dX9_part_95 : decode cX9_part 95 = .ok (.ifCond .ge 7, 3) := by decide +kernel
theorem dX9_part_98 : decode cX9_part 98 = .ok (.iconst 1, 1) := by decide +kernel
theorem dX9_part_99 : decode cX9_part 99 = .ok (.goto 4, 3) := by decide +kernel
theorem dX9_part_102 : decode cX9_part 102 = .ok (.iconst 2, 1) := by decide +kernel
theorem dX9_part_103 : decode cX9_part 103 = .ok (.iload_n 1, 1) := by decide +kernel
theorem dX9_part_104 : decode cX9_part 104 = .ok (.ifCond .ge 16, 3) := by decide +kernel
theorem dX9_part_107 : decode cX9_part 107 = .ok (.aload_n 0, 1) := by decide +kernel
theorem dX9_part_108 : decode cX9_part 108 = .ok (.getfield 30, 3) := by decide +kernel
theorem dX9_part_111 : decode cX9_part 111 = .ok (.aload_n 0, 1) := by decide +kernel
theorem dX9_part_112 : decode cX9_part 112 = .ok (.getfield 216, 3) := by decide +kernel
theorem dX9_part_115 : decode cX9_part 115 = .ok (.laload, 1) := by decide +kernel
theorem dX9_part_116 : decode cX9_part 116 = .ok (.l2i, 1) := by decide +kernel
theorem dX9_part_117 : decode cX9_part 117 = .ok (.goto 4, 3) := by decide +kernel
theorem dX9_part_120 : decode cX9_part 120 = .ok (.iload_n 1, 1) := by decide +kernel
theorem dX9_part_121 : decode cX9_part 121 = .ok (.invokevirtual 268, 3) := by decide +kernel
theorem dX9_part_124 : decode cX9_part 124 = .ok (.aload_n 0, 1) := by decide +kernel
theorem dX9_part_125 : decode cX9_part 125 = .ok (.dup, 1) := by decide +kernel
theorem dX9_part_126 : decode cX9_part 126 = .ok (.getfield 216, 3) := by decide +kernel
theorem dX9_part_129 : decode cX9_part 129 = .ok (.iconst 1, 1) := by decide +kernel
theorem dX9_part_130 : decode cX9_part 130 = .ok (.iadd, 1) := by decide +kernel
theorem dX9_part_131 : decode cX9_part 131 = .ok (.putfield 216, 3) := by decide +kernel
theorem dX9_part_134 : decode cX9_part 134 = .ok (.iconst 0, 1) := by decide +kernel
theorem dX9_part_135 : decode cX9_part 135 = .ok (.ireturn, 1) := by decide +kernel
theorem dX9_goesOnBehind_0 : decode cX9_goesOnBehind 0 = .ok (.aload_n 0, 1) := by decide +kernel
theorem dX9_goesOnBehind_1 : decode cX9_goesOnBehind 1 = .ok (.getfield 219, 3) := by decide +kernel
theorem dX9_goesOnBehind_4 : decode cX9_goesOnBehind 4 = .ok (.ifCond .ne 273, 3) := by decide +kernel
theorem dX9_goesOnBehind_7 : decode cX9_goesOnBehind 7 = .ok (.aload_n 0, 1) := by decide +kernel
theorem dX9_goesOnBehind_8 : decode cX9_goesOnBehind 8 = .ok (.getfield 76, 3) := by decide +kernel
theorem dX9_goesOnBehind_11 : decode cX9_goesOnBehind 11 = .ok (.aload_n 0, 1) := by decide +kernel
theorem dX9_goesOnBehind_12 : decode cX9_goesOnBehind 12 = .ok (.getfield 255, 3) := by decide +kernel
theorem dX9_goesOnBehind_15 : decode cX9_goesOnBehind 15 = .ok (.iaload, 1) := by decide +kernel
theorem dX9_goesOnBehind_16 : decode cX9_goesOnBehind 16 = .ok (.ifCond .eq 27, 3) := by decide +kernel
theorem dX9_goesOnBehind_19 : decode cX9_goesOnBehind 19 = .ok (.aload_n 0, 1) := by decide +kernel
theorem dX9_goesOnBehind_20 : decode cX9_goesOnBehind 20 = .ok (.aload_n 0, 1) := by decide +kernel
theorem dX9_goesOnBehind_21 : decode cX9_goesOnBehind 21 = .ok (.getfield 76, 3) := by decide +kernel
theorem dX9_goesOnBehind_24 : decode cX9_goesOnBehind 24 = .ok (.aload_n 0, 1) := by decide +kernel
theorem dX9_goesOnBehind_25 : decode cX9_goesOnBehind 25 = .ok (.getfield 255, 3) := by decide +kernel
theorem dX9_goesOnBehind_28 : decode cX9_goesOnBehind 28 = .ok (.iaload, 1) := by decide +kernel
theorem dX9_goesOnBehind_29 : decode cX9_goesOnBehind 29 = .ok (.iconst 0, 1) := by decide +kernel
theorem dX9_goesOnBehind_30 : decode cX9_goesOnBehind 30 = .ok (.invokevirtual 268, 3) := by decide +kernel
theorem dX9_goesOnBehind_33 : decode cX9_goesOnBehind 33 = .ok (.aload_n 0, 1) := by decide +kernel
theorem dX9_goesOnBehind_34 : decode cX9_goesOnBehind 34 = .ok (.getfield 76, 3) := by decide +kernel
theorem dX9_goesOnBehind_37 : decode cX9_goesOnBehind 37 = .ok (.aload_n 0, 1) := by decide +kernel
theorem dX9_goesOnBehind_38 : decode cX9_goesOnBehind 38 = .ok (.getfield 255, 3) := by decide +kernel
theorem dX9_goesOnBehind_41 : decode cX9_goesOnBehind 41 = .ok (.iconst 0, 1) := by decide +kernel
theorem dX9_goesOnBehind_42 : decode cX9_goesOnBehind 42 = .ok (.iastore, 1) := by decide +kernel
theorem dX9_goesOnBehind_43 : decode cX9_goesOnBehind 43 = .ok (.aload_n 0, 1) := by decide +kernel
theorem dX9_goesOnBehind_44 : decode cX9_goesOnBehind 44 = .ok (.bipush 43, 2) := by decide +kernel
theorem dX9_goesOnBehind_46 : decode cX9_goesOnBehind 46 = .ok (.invokevirtual 222, 3) := by decide +kernel
theorem dX9_goesOnBehind_49 : decode cX9_goesOnBehind 49 = .ok (.ifCond .ne 12, 3) := by decide +kernel
theorem dX9_goesOnBehind_52 : decode cX9_goesOnBehind 52 = .ok (.aload_n 0, 1) := by decide +kernel
theorem dX9_goesOnBehind_53 : decode cX9_goesOnBehind 53 = .ok (.bipush 45, 2) := by decide +kernel
theorem dX9_goesOnBehind_55 : decode cX9_goesOnBehind 55 = .ok (.invokevirtual 222, 3) := by decide +kernel
theorem dX9_goesOnBehind_58 : decode cX9_goesOnBehind 58 = .ok (.ifCond .eq 38, 3) := by decide +kernel
theorem dX9_goesOnBehind_61 : decode cX9_goesOnBehind 61 = .ok (.aload_n 0, 1) := by decide +kernel
theorem dX9_goesOnBehind_62 : decode cX9_goesOnBehind 62 = .ok (.getfield 76, 3) := by decide +kernel
theorem dX9_goesOnBehind_65 : decode cX9_goesOnBehind 65 = .ok (.aload_n 0, 1) := by decide +kernel
theorem dX9_goesOnBehind_66 : decode cX9_goesOnBehind 66 = .ok (.getfield 255, 3) := by decide +kernel
theorem dX9_goesOnBehind_69 : decode cX9_goesOnBehind 69 = .ok (.aload_n 0, 1) := by decide +kernel
theorem dX9_goesOnBehind_70 : decode cX9_goesOnBehind 70 = .ok (.bipush 43, 2) := by decide +kernel
theorem dX9_goesOnBehind_72 : decode cX9_goesOnBehind 72 = .ok (.invokevirtual 222, 3) := by decide +kernel
theorem dX9_goesOnBehind_75 : decode cX9_goesOnBehind 75 = .ok (.ifCond .eq 7, 3) := by decide +kernel
theorem dX9_goesOnBehind_78 : decode cX9_goesOnBehind 78 = .ok (.iconst 3, 1) := by decide +kernel
theorem dX9_goesOnBehind_79 : decode cX9_goesOnBehind 79 = .ok (.goto 4, 3) := by decide +kernel
theorem dX9_goesOnBehind_82 : decode cX9_goesOnBehind 82 = .ok (.iconst 4, 1) := by decide +kernel
theorem dX9_goesOnBehind_83 : decode cX9_goesOnBehind 83 = .ok (.iastore, 1) := by decide +kernel
theorem dX9_goesOnBehind_84 : decode cX9_goesOnBehind 84 = .ok (.aload_n 0, 1) := by decide +kernel
theorem dX9_goesOnBehind_85 : decode cX9_goesOnBehind 85 = .ok (.dup, 1) := by decide +kernel
theorem dX9_goesOnBehind_86 : decode cX9_goesOnBehind 86 = .ok (.getfield 216, 3) := by decide +kernel
theorem dX9_goesOnBehind_89 : decode cX9_goesOnBehind 89 = .ok (.iconst 1, 1) := by decide +kernel
theorem dX9_goesOnBehind_90 : decode cX9_goesOnBehind 90 = .ok (.iadd, 1) := by decide +kernel
theorem dX9_goesOnBehind_91 : decode cX9_goesOnBehind 91 = .ok (.putfield 216, 3) := by decide +kernel
theorem dX9_goesOnBehind_94 : decode cX9_goesOnBehind 94 = .ok (.iconst 1, 1) := by decide +kernel
theorem dX9_goesOnBehind_95 : decode cX9_goesOnBehind 95 = .ok (.ireturn, 1) := by decide +kernel
theorem dX9_goesOnBehind_96 : decode cX9_goesOnBehind 96 = .ok (.aload_n 0, 1) := by decide +kernel
theorem dX9_goesOnBehind_97 : decode cX9_goesOnBehind 97 = .ok (.getfield 79, 3) := by decide +kernel
theorem dX9_goesOnBehind_100 : decode cX9_goesOnBehind 100 = .ok (.aload_n 0, 1) := by decide +kernel
theorem dX9_goesOnBehind_101 : decode cX9_goesOnBehind 101 = .ok (.getfield 255, 3) := by decide +kernel
theorem dX9_goesOnBehind_104 : decode cX9_goesOnBehind 104 = .ok (.iaload, 1) := by decide +kernel
theorem dX9_goesOnBehind_105 : decode cX9_goesOnBehind 105 = .ok (.ifCond .eq 30, 3) := by decide +kernel
theorem dX9_goesOnBehind_108 : decode cX9_goesOnBehind 108 = .ok (.aload_n 0, 1) := by decide +kernel
theorem dX9_goesOnBehind_109 : decode cX9_goesOnBehind 109 = .ok (.aload_n 0, 1) := by decide +kernel
theorem dX9_goesOnBehind_110 : decode cX9_goesOnBehind 110 = .ok (.getfield 79, 3) := by decide +kernel
theorem dX9_goesOnBehind_113 : decode cX9_goesOnBehind 113 = .ok (.aload_n 0, 1) := by decide +kernel
theorem dX9_goesOnBehind_114 : decode cX9_goesOnBehind 114 = .ok (.getfield 255, 3) := by decide +kernel
theorem dX9_goesOnBehind_117 : decode cX9_goesOnBehind 117 = .ok (.iaload, 1) := by decide +kernel
theorem dX9_goesOnBehind_118 : decode cX9_goesOnBehind 118 = .ok (.iconst 0, 1) := by decide +kernel
theorem dX9_goesOnBehind_119 : decode cX9_goesOnBehind 119 = .ok (.invokevirtual 268, 3) := by decide +kernel
theorem dX9_goesOnBehind_122 : decode cX9_goesOnBehind 122 = .ok (.aload_n 0, 1) := by decide +kernel
theorem dX9_goesOnBehind_123 : decode cX9_goesOnBehind 123 = .ok (.getfield 79, 3) := by decide +kernel
theorem dX9_goesOnBehind_126 : decode cX9_goesOnBehind 126 = .ok (.aload_n 0, 1) := by decide +kernel
theorem dX9_goesOnBehind_127 : decode cX9_goesOnBehind 127 = .ok (.getfield 255, 3) := by decide +kernel
theorem dX9_goesOnBehind_130 : decode cX9_goesOnBehind 130 = .ok (.iconst 0, 1) := by decide +kernel
theorem dX9_goesOnBehind_131 : decode cX9_goesOnBehind 131 = .ok (.iastore, 1) := by decide +kernel
theorem dX9_goesOnBehind_132 : decode cX9_goesOnBehind 132 = .ok (.goto 57, 3) := by decide +kernel
theorem dX9_goesOnBehind_135 : decode cX9_goesOnBehind 135 = .ok (.aload_n 0, 1) := by decide +kernel
theorem dX9_goesOnBehind_136 : decode cX9_goesOnBehind 136 = .ok (.bipush 60, 2) := by decide +kernel
theorem dX9_goesOnBehind_138 : decode cX9_goesOnBehind 138 = .ok (.invokevirtual 222, 3) := by decide +kernel
theorem dX9_goesOnBehind_141 : decode cX9_goesOnBehind 141 = .ok (.ifCond .ne 12, 3) := by decide +kernel
theorem dX9_goesOnBehind_144 : decode cX9_goesOnBehind 144 = .ok (.aload_n 0, 1) := by decide +kernel
theorem dX9_goesOnBehind_145 : decode cX9_goesOnBehind 145 = .ok (.bipush 61, 2) := by decide +kernel
theorem dX9_goesOnBehind_147 : decode cX9_goesOnBehind 147 = .ok (.invokevirtual 222, 3) := by decide +kernel
theorem dX9_goesOnBehind_150 : decode cX9_goesOnBehind 150 = .ok (.ifCond .eq 39, 3) := by decide +kernel
theorem dX9_goesOnBehind_153 : decode cX9_goesOnBehind 153 = .ok (.aload_n 0, 1) := by decide +kernel
theorem dX9_goesOnBehind_154 : decode cX9_goesOnBehind 154 = .ok (.getfield 79, 3) := by decide +kernel
theorem dX9_goesOnBehind_157 : decode cX9_goesOnBehind 157 = .ok (.aload_n 0, 1) := by decide +kernel
theorem dX9_goesOnBehind_158 : decode cX9_goesOnBehind 158 = .ok (.getfield 255, 3) := by decide +kernel
theorem dX9_goesOnBehind_161 : decode cX9_goesOnBehind 161 = .ok (.aload_n 0, 1) := by decide +kernel
theorem dX9_goesOnBehind_162 : decode cX9_goesOnBehind 162 = .ok (.bipush 60, 2) := by decide +kernel
theorem dX9_goesOnBehind_164 : decode cX9_goesOnBehind 164 = .ok (.invokevirtual 222, 3) := by decide +kernel
theorem dX9_goesOnBehind_167 : decode cX9_goesOnBehind 167 = .ok (.ifCond .eq 7, 3) := by decide +kernel
theorem dX9_goesOnBehind_170 : decode cX9_goesOnBehind 170 = .ok (.iconst 5, 1) := by decide +kernel
theorem dX9_goesOnBehind_171 : decode cX9_goesOnBehind 171 = .ok (.goto 5, 3) := by decide +kernel
theorem dX9_goesOnBehind_174 : decode cX9_goesOnBehind 174 = .ok (.bipush 6, 2) := by decide +kernel
theorem dX9_goesOnBehind_176 : decode cX9_goesOnBehind 176 = .ok (.iastore, 1) := by decide +kernel
theorem dX9_goesOnBehind_177 : decode cX9_goesOnBehind 177 = .ok (.aload_n 0, 1) := by decide +kernel
theorem dX9_goesOnBehind_178 : decode cX9_goesOnBehind 178 = .ok (.dup, 1) := by decide +kernel
theorem dX9_goesOnBehind_179 : decode cX9_goesOnBehind 179 = .ok (.getfield 216, 3) := by decide +kernel
theorem dX9_goesOnBehind_182 : decode cX9_goesOnBehind 182 = .ok (.iconst 1, 1) := by decide +kernel
theorem dX9_goesOnBehind_183 : decode cX9_goesOnBehind 183 = .ok (.iadd, 1) := by decide +kernel
theorem dX9_goesOnBehind_184 : decode cX9_goesOnBehind 184 = .ok (.putfield 216, 3) := by decide +kernel
theorem dX9_goesOnBehind_187 : decode cX9_goesOnBehind 187 = .ok (.iconst 1, 1) := by decide +kernel
theorem dX9_goesOnBehind_188 : decode cX9_goesOnBehind 188 = .ok (.ireturn, 1) := by decide +kernel
theorem dX9_goesOnBehind_189 : decode cX9_goesOnBehind 189 = .ok (.aload_n 0, 1) := by decide +kernel
theorem dX9_goesOnBehind_190 : decode cX9_goesOnBehind 190 = .ok (.getfield 82, 3) := by decide +kernel
theorem dX9_goesOnBehind_193 : decode cX9_goesOnBehind 193 = .ok (.aload_n 0, 1) := by decide +kernel
theorem dX9_goesOnBehind_194 : decode cX9_goesOnBehind 194 = .ok (.getfield 255, 3) := by decide +kernel
theorem dX9_goesOnBehind_197 : decode cX9_goesOnBehind 197 = .ok (.iaload, 1) := by decide +kernel
theorem dX9_goesOnBehind_198 : decode cX9_goesOnBehind 198 = .ok (.ifCond .eq 20, 3) := by decide +kernel
theorem dX9_goesOnBehind_201 : decode cX9_goesOnBehind 201 = .ok (.aload_n 0, 1) := by decide +kernel
theorem dX9_goesOnBehind_202 : decode cX9_goesOnBehind 202 = .ok (.bipush 7, 2) := by decide +kernel
theorem dX9_goesOnBehind_204 : decode cX9_goesOnBehind 204 = .ok (.iconst 0, 1) := by decide +kernel
theorem dX9_goesOnBehind_205 : decode cX9_goesOnBehind 205 = .ok (.invokevirtual 268, 3) := by decide +kernel
theorem dX9_goesOnBehind_208 : decode cX9_goesOnBehind 208 = .ok (.aload_n 0, 1) := by decide +kernel
theorem dX9_goesOnBehind_209 : decode cX9_goesOnBehind 209 = .ok (.getfield 82, 3) := by decide +kernel
theorem dX9_goesOnBehind_212 : decode cX9_goesOnBehind 212 = .ok (.aload_n 0, 1) := by decide +kernel
theorem dX9_goesOnBehind_213 : decode cX9_goesOnBehind 213 = .ok (.getfield 255, 3) := by decide +kernel
theorem dX9_goesOnBehind_216 : decode cX9_goesOnBehind 216 = .ok (.iconst 0, 1) := by decide +kernel
theorem dX9_goesOnBehind_217 : decode cX9_goesOnBehind 217 = .ok (.iastore, 1) := by decide +kernel
theorem dX9_goesOnBehind_218 : decode cX9_goesOnBehind 218 = .ok (.aload_n 0, 1) := by decide +kernel
theorem dX9_goesOnBehind_219 : decode cX9_goesOnBehind 219 = .ok (.iconst 3, 1) := by decide +kernel
theorem dX9_goesOnBehind_220 : decode cX9_goesOnBehind 220 = .ok (.invokevirtual 229, 3) := by decide +kernel
theorem dX9_goesOnBehind_223 : decode cX9_goesOnBehind 223 = .ok (.ifCond .eq 26, 3) := by decide +kernel
theorem dX9_goesOnBehind_226 : decode cX9_goesOnBehind 226 = .ok (.aload_n 0, 1) := by decide +kernel
theorem dX9_goesOnBehind_227 : decode cX9_goesOnBehind 227 = .ok (.getfield 82, 3) := by decide +kernel
theorem dX9_goesOnBehind_230 : decode cX9_goesOnBehind 230 = .ok (.aload_n 0, 1) := by decide +kernel
theorem dX9_goesOnBehind_231 : decode cX9_goesOnBehind 231 = .ok (.getfield 255, 3) := by decide +kernel
theorem dX9_goesOnBehind_234 : decode cX9_goesOnBehind 234 = .ok (.bipush 7, 2) := by decide +kernel
theorem dX9_goesOnBehind_236 : decode cX9_goesOnBehind 236 = .ok (.iastore, 1) := by decide +kernel
theorem dX9_goesOnBehind_237 : decode cX9_goesOnBehind 237 = .ok (.aload_n 0, 1) := by decide +kernel
theorem dX9_goesOnBehind_238 : decode cX9_goesOnBehind 238 = .ok (.dup, 1) := by decide +kernel
theorem dX9_goesOnBehind_239 : decode cX9_goesOnBehind 239 = .ok (.getfield 216, 3) := by decide +kernel
theorem dX9_goesOnBehind_242 : decode cX9_goesOnBehind 242 = .ok (.iconst 1, 1) := by decide +kernel
theorem dX9_goesOnBehind_243 : decode cX9_goesOnBehind 243 = .ok (.iadd, 1) := by decide +kernel
theorem dX9_goesOnBehind_244 : decode cX9_goesOnBehind 244 = .ok (.putfield 216, 3) := by decide +kernel
theorem dX9_goesOnBehind_247 : decode cX9_goesOnBehind 247 = .ok (.iconst 1, 1) := by decide +kernel
theorem dX9_goesOnBehind_248 : decode cX9_goesOnBehind 248 = .ok (.ireturn, 1) := by decide +kernel
theorem dX9_goesOnBehind_249 : decode cX9_goesOnBehind 249 = .ok (.aload_n 0, 1) := by decide +kernel
theorem dX9_goesOnBehind_250 : decode cX9_goesOnBehind 250 = .ok (.getfield 255, 3) := by decide +kernel
theorem dX9_goesOnBehind_253 : decode cX9_goesOnBehind 253 = .ok (.ifCond .ne 5, 3) := by decide +kernel
theorem dX9_goesOnBehind_256 : decode cX9_goesOnBehind 256 = .ok (.iconst 0, 1) := by decide +kernel
theorem dX9_goesOnBehind_257 : decode cX9_goesOnBehind 257 = .ok (.ireturn, 1) := by decide +kernel
theorem dX9_goesOnBehind_258 : decode cX9_goesOnBehind 258 = .ok (.aload_n 0, 1) := by decide +kernel
theorem dX9_goesOnBehind_259 : decode cX9_goesOnBehind 259 = .ok (.bipush 41, 2) := by decide +kernel
theorem dX9_goesOnBehind_261 : decode cX9_goesOnBehind 261 = .ok (.invokevirtual 272, 3) := by decide +kernel
theorem dX9_goesOnBehind_264 : decode cX9_goesOnBehind 264 = .ok (.aload_n 0, 1) := by decide +kernel
theorem dX9_goesOnBehind_265 : decode cX9_goesOnBehind 265 = .ok (.dup, 1) := by decide +kernel
theorem dX9_goesOnBehind_266 : decode cX9_goesOnBehind 266 = .ok (.getfield 255, 3) := by decide +kernel
theorem dX9_goesOnBehind_269 : decode cX9_goesOnBehind 269 = .ok (.iconst 1, 1) := by decide +kernel
theorem dX9_goesOnBehind_270 : decode cX9_goesOnBehind 270 = .ok (.isub, 1) := by decide +kernel
theorem dX9_goesOnBehind_271 : decode cX9_goesOnBehind 271 = .ok (.putfield 255, 3) := by decide +kernel
theorem dX9_goesOnBehind_274 : decode cX9_goesOnBehind 274 = .ok (.goto (-274), 3) := by decide +kernel
theorem dX9_goesOnBehind_277 : decode cX9_goesOnBehind 277 = .ok (.iconst 0, 1) := by decide +kernel
theorem dX9_goesOnBehind_278 : decode cX9_goesOnBehind 278 = .ok (.ireturn, 1) := by decide +kernel
theorem dX9_worth_0 : decode cX9_worth 0 = .ok (.iload_n 1, 1) := by decide +kernel
theorem dX9_worth_1 : decode cX9_worth 1 = .ok (.istore_n 2, 1) := by decide +kernel
theorem dX9_worth_2 : decode cX9_worth 2 = .ok (.iconst 0, 1) := by decide +kernel
theorem dX9_worth_3 : decode cX9_worth 3 = .ok (.istore_n 3, 1) := by decide +kernel
theorem dX9_worth_4 : decode cX9_worth 4 = .ok (.aload_n 0, 1) := by decide +kernel
theorem dX9_worth_5 : decode cX9_worth 5 = .ok (.getfield 70, 3) := by decide +kernel
theorem dX9_worth_8 : decode cX9_worth 8 = .ok (.iload_n 2, 1) := by decide +kernel
theorem dX9_worth_9 : decode cX9_worth 9 = .ok (.iaload, 1) := by decide +kernel
theorem dX9_worth_10 : decode cX9_worth 10 = .ok (.ifCond .eq 182, 3) := by decide +kernel
theorem dX9_worth_13 : decode cX9_worth 13 = .ok (.aload_n 0, 1) := by decide +kernel
theorem dX9_worth_14 : decode cX9_worth 14 = .ok (.getfield 70, 3) := by decide +kernel
theorem dX9_worth_17 : decode cX9_worth 17 = .ok (.iload_n 2, 1) := by decide +kernel
theorem dX9_worth_18 : decode cX9_worth 18 = .ok (.iaload, 1) := by decide +kernel
theorem dX9_worth_19 : decode cX9_worth 19 = .ok (.istore 4, 2) := by decide +kernel
theorem dX9_worth_21 : decode cX9_worth 21 = .ok (.iload 4, 2) := by decide +kernel
theorem dX9_worth_23 : decode cX9_worth 23 = .ok (.iconst 1, 1) := by decide +kernel
theorem dX9_worth_24 : decode cX9_worth 24 = .ok (.if_icmp .eq 9, 3) := by decide +kernel
theorem dX9_worth_27 : decode cX9_worth 27 = .ok (.iload 4, 2) := by decide +kernel
theorem dX9_worth_29 : decode cX9_worth 29 = .ok (.iconst 2, 1) := by decide +kernel
theorem dX9_worth_30 : decode cX9_worth 30 = .ok (.if_icmp .ne 41, 3) := by decide +kernel
theorem dX9_worth_33 : decode cX9_worth 33 = .ok (.aload_n 0, 1) := by decide +kernel
theorem dX9_worth_34 : decode cX9_worth 34 = .ok (.getfield 88, 3) := by decide +kernel
theorem dX9_worth_37 : decode cX9_worth 37 = .ok (.iload_n 3, 1) := by decide +kernel
theorem dX9_worth_38 : decode cX9_worth 38 = .ok (.iload 4, 2) := by decide +kernel
theorem dX9_worth_40 : decode cX9_worth 40 = .ok (.iconst 1, 1) := by decide +kernel
theorem dX9_worth_41 : decode cX9_worth 41 = .ok (.if_icmp .ne 12, 3) := by decide +kernel
theorem dX9_worth_44 : decode cX9_worth 44 = .ok (.aload_n 0, 1) := by decide +kernel
theorem dX9_worth_45 : decode cX9_worth 45 = .ok (.getfield 73, 3) := by decide +kernel
theorem dX9_worth_48 : decode cX9_worth 48 = .ok (.iload_n 2, 1) := by decide +kernel
theorem dX9_worth_49 : decode cX9_worth 49 = .ok (.iaload, 1) := by decide +kernel
theorem dX9_worth_50 : decode cX9_worth 50 = .ok (.goto 14, 3) := by decide +kernel
theorem dX9_worth_53 : decode cX9_worth 53 = .ok (.aload_n 0, 1) := by decide +kernel
theorem dX9_worth_54 : decode cX9_worth 54 = .ok (.getfield 85, 3) := by decide +kernel
theorem dX9_worth_57 : decode cX9_worth 57 = .ok (.aload_n 0, 1) := by decide +kernel
theorem dX9_worth_58 : decode cX9_worth 58 = .ok (.getfield 73, 3) := by decide +kernel
theorem dX9_worth_61 : decode cX9_worth 61 = .ok (.iload_n 2, 1) := by decide +kernel
theorem dX9_worth_62 : decode cX9_worth 62 = .ok (.iaload, 1) := by decide +kernel
theorem dX9_worth_63 : decode cX9_worth 63 = .ok (.iaload, 1) := by decide +kernel
theorem dX9_worth_64 : decode cX9_worth 64 = .ok (.iastore, 1) := by decide +kernel
theorem dX9_worth_65 : decode cX9_worth 65 = .ok (.iinc 3 1, 3) := by decide +kernel
theorem dX9_worth_68 : decode cX9_worth 68 = .ok (.goto 118, 3) := by decide +kernel
theorem dX9_worth_71 : decode cX9_worth 71 = .ok (.iinc 3 (-1), 3) := by decide +kernel
theorem dX9_worth_74 : decode cX9_worth 74 = .ok (.aload_n 0, 1) := by decide +kernel
theorem dX9_worth_75 : decode cX9_worth 75 = .ok (.getfield 88, 3) := by decide +kernel
theorem dX9_worth_78 : decode cX9_worth 78 = .ok (.iload_n 3, 1) := by decide +kernel
theorem dX9_worth_79 : decode cX9_worth 79 = .ok (.iaload, 1) := by decide +kernel
theorem dX9_worth_80 : decode cX9_worth 80 = .ok (.istore 5, 2) := by decide +kernel
theorem dX9_worth_82 : decode cX9_worth 82 = .ok (.aload_n 0, 1) := by decide +kernel
theorem dX9_worth_83 : decode cX9_worth 83 = .ok (.getfield 88, 3) := by decide +kernel
theorem dX9_worth_86 : decode cX9_worth 86 = .ok (.iload_n 3, 1) := by decide +kernel
theorem dX9_worth_87 : decode cX9_worth 87 = .ok (.iconst 1, 1) := by decide +kernel
theorem dX9_worth_88 : decode cX9_worth 88 = .ok (.isub, 1) := by decide +kernel
theorem dX9_worth_89 : decode cX9_worth 89 = .ok (.iaload, 1) := by decide +kernel
theorem dX9_worth_90 : decode cX9_worth 90 = .ok (.istore 6, 2) := by decide +kernel
theorem dX9_worth_92 : decode cX9_worth 92 = .ok (.aload_n 0, 1) := by decide +kernel
theorem dX9_worth_93 : decode cX9_worth 93 = .ok (.getfield 88, 3) := by decide +kernel
theorem dX9_worth_96 : decode cX9_worth 96 = .ok (.iload_n 3, 1) := by decide +kernel
theorem dX9_worth_97 : decode cX9_worth 97 = .ok (.iconst 1, 1) := by decide +kernel
theorem dX9_worth_98 : decode cX9_worth 98 = .ok (.isub, 1) := by decide +kernel
theorem dX9_worth_99 : decode cX9_worth 99 = .ok (.iload 4, 2) := by decide +kernel
theorem dX9_worth_101 : decode cX9_worth 101 = .ok (.iconst 3, 1) := by decide +kernel
theorem dX9_worth_102 : decode cX9_worth 102 = .ok (.if_icmp .ne 11, 3) := by decide +kernel
theorem dX9_worth_105 : decode cX9_worth 105 = .ok (.iload 6, 2) := by decide +kernel
theorem dX9_worth_107 : decode cX9_worth 107 = .ok (.iload 5, 2) := by decide +kernel
theorem dX9_worth_109 : decode cX9_worth 109 = .ok (.iadd, 1) := by decide +kernel
theorem dX9_worth_110 : decode cX9_worth 110 = .ok (.goto 75, 3) := by decide +kernel
theorem dX9_worth_113 : decode cX9_worth 113 = .ok (.iload 4, 2) := by decide +kernel
theorem dX9_worth_115 : decode cX9_worth 115 = .ok (.iconst 4, 1) := by decide +kernel
theorem dX9_worth_116 : decode cX9_worth 116 = .ok (.if_icmp .ne 11, 3) := by decide +kernel
theorem dX9_worth_119 : decode cX9_worth 119 = .ok (.iload 6, 2) := by decide +kernel
theorem dX9_worth_121 : decode cX9_worth 121 = .ok (.iload 5, 2) := by decide +kernel
theorem dX9_worth_123 : decode cX9_worth 123 = .ok (.isub, 1) := by decide +kernel
theorem dX9_worth_124 : decode cX9_worth 124 = .ok (.goto 61, 3) := by decide +kernel
theorem dX9_worth_127 : decode cX9_worth 127 = .ok (.iload 4, 2) := by decide +kernel
theorem dX9_worth_129 : decode cX9_worth 129 = .ok (.iconst 5, 1) := by decide +kernel
theorem dX9_worth_130 : decode cX9_worth 130 = .ok (.if_icmp .ne 18, 3) := by decide +kernel
theorem dX9_worth_133 : decode cX9_worth 133 = .ok (.iload 6, 2) := by decide +kernel
theorem dX9_worth_135 : decode cX9_worth 135 = .ok (.iload 5, 2) := by decide +kernel
theorem dX9_worth_137 : decode cX9_worth 137 = .ok (.if_icmp .ge 7, 3) := by decide +kernel
theorem dX9_worth_140 : decode cX9_worth 140 = .ok (.iconst 1, 1) := by decide +kernel
theorem dX9_worth_141 : decode cX9_worth 141 = .ok (.goto 44, 3) := by decide +kernel
theorem dX9_worth_144 : decode cX9_worth 144 = .ok (.iconst 0, 1) := by decide +kernel
theorem dX9_worth_145 : decode cX9_worth 145 = .ok (.goto 40, 3) := by decide +kernel
theorem dX9_worth_148 : decode cX9_worth 148 = .ok (.iload 4, 2) := by decide +kernel
theorem dX9_worth_150 : decode cX9_worth 150 = .ok (.bipush 6, 2) := by decide +kernel
theorem dX9_worth_152 : decode cX9_worth 152 = .ok (.if_icmp .ne 18, 3) := by decide +kernel
theorem dX9_worth_155 : decode cX9_worth 155 = .ok (.iload 6, 2) := by decide +kernel
theorem dX9_worth_157 : decode cX9_worth 157 = .ok (.iload 5, 2) := by decide +kernel
theorem dX9_worth_159 : decode cX9_worth 159 = .ok (.if_icmp .ne 7, 3) := by decide +kernel
theorem dX9_worth_162 : decode cX9_worth 162 = .ok (.iconst 1, 1) := by decide +kernel
theorem dX9_worth_163 : decode cX9_worth 163 = .ok (.goto 22, 3) := by decide +kernel
theorem dX9_worth_166 : decode cX9_worth 166 = .ok (.iconst 0, 1) := by decide +kernel
theorem dX9_worth_167 : decode cX9_worth 167 = .ok (.goto 18, 3) := by decide +kernel
theorem dX9_worth_170 : decode cX9_worth 170 = .ok (.iload 6, 2) := by decide +kernel
theorem dX9_worth_172 : decode cX9_worth 172 = .ok (.ifCond .eq 12, 3) := by decide +kernel
theorem dX9_worth_175 : decode cX9_worth 175 = .ok (.iload 5, 2) := by decide +kernel
theorem dX9_worth_177 : decode cX9_worth 177 = .ok (.ifCond .eq 7, 3) := by decide +kernel
theorem dX9_worth_180 : decode cX9_worth 180 = .ok (.iconst 1, 1) := by decide +kernel
theorem dX9_worth_181 : decode cX9_worth 181 = .ok (.goto 4, 3) := by decide +kernel
theorem dX9_worth_184 : decode cX9_worth 184 = .ok (.iconst 0, 1) := by decide +kernel
theorem dX9_worth_185 : decode cX9_worth 185 = .ok (.iastore, 1) := by decide +kernel
theorem dX9_worth_186 : decode cX9_worth 186 = .ok (.iinc 2 1, 3) := by decide +kernel
theorem dX9_worth_189 : decode cX9_worth 189 = .ok (.goto (-185), 3) := by decide +kernel
theorem dX9_worth_192 : decode cX9_worth 192 = .ok (.aload_n 0, 1) := by decide +kernel
theorem dX9_worth_193 : decode cX9_worth 193 = .ok (.getfield 88, 3) := by decide +kernel
theorem dX9_worth_196 : decode cX9_worth 196 = .ok (.iconst 0, 1) := by decide +kernel
theorem dX9_worth_197 : decode cX9_worth 197 = .ok (.iaload, 1) := by decide +kernel
theorem dX9_worth_198 : decode cX9_worth 198 = .ok (.ireturn, 1) := by decide +kernel
theorem dX9_within_0 : decode cX9_within 0 = .ok (.iload_n 0, 1) := by decide +kernel
theorem dX9_within_1 : decode cX9_within 1 = .ok (.iload_n 1, 1) := by decide +kernel
theorem dX9_within_2 : decode cX9_within 2 = .ok (.if_icmp .lt 12, 3) := by decide +kernel
theorem dX9_within_5 : decode cX9_within 5 = .ok (.iload_n 0, 1) := by decide +kernel
theorem dX9_within_6 : decode cX9_within 6 = .ok (.iload_n 2, 1) := by decide +kernel
theorem dX9_within_7 : decode cX9_within 7 = .ok (.if_icmp .gt 7, 3) := by decide +kernel
theorem dX9_within_10 : decode cX9_within 10 = .ok (.iconst 1, 1) := by decide +kernel
theorem dX9_within_11 : decode cX9_within 11 = .ok (.goto 4, 3) := by decide +kernel
theorem dX9_within_14 : decode cX9_within 14 = .ok (.iconst 0, 1) := by decide +kernel
theorem dX9_within_15 : decode cX9_within 15 = .ok (.ireturn, 1) := by decide +kernel
theorem dX9_village_0 : decode cX9_village 0 = .ok (.aload_n 0, 1) := by decide +kernel
theorem dX9_village_1 : decode cX9_village 1 = .ok (.iconst 0, 1) := by decide +kernel
theorem dX9_village_2 : decode cX9_village 2 = .ok (.putfield 1, 3) := by decide +kernel
end
section
theorem dX9_village_5 : decode cX9_village 5 = .ok (.iload_n 1, 1) := by decide +kernel
theorem dX9_village_6 : decode cX9_village 6 = .ok (.iconst 1, 1) := by decide +kernel
theorem dX9_village_7 : decode cX9_village 7 = .ok (.sipush 2000, 3) := by decide +kernel
theorem dX9_village_10 : decode cX9_village 10 = .ok (.invokestatic 282, 3) := by decide +kernel
theorem dX9_village_13 : decode cX9_village 13 = .ok (.ifCond .eq 44, 3) := by decide +kernel
theorem dX9_village_16 : decode cX9_village 16 = .ok (.iload_n 2, 1) := by decide +kernel
theorem dX9_village_17 : decode cX9_village 17 = .ok (.iconst 0, 1) := by decide +kernel
theorem dX9_village_18 : decode cX9_village 18 = .ok (.sipush 2000, 3) := by decide +kernel
theorem dX9_village_21 : decode cX9_village 21 = .ok (.invokestatic 282, 3) := by decide +kernel
theorem dX9_village_24 : decode cX9_village 24 = .ok (.ifCond .eq 33, 3) := by decide +kernel
theorem dX9_village_27 : decode cX9_village 27 = .ok (.iload_n 3, 1) := by decide +kernel
theorem dX9_village_28 : decode cX9_village 28 = .ok (.iconst 1, 1) := by decide +kernel
theorem dX9_village_29 : decode cX9_village 29 = .ok (.ldc_w 286, 3) := by decide +kernel
theorem dX9_village_32 : decode cX9_village 32 = .ok (.invokestatic 282, 3) := by decide +kernel
theorem dX9_village_35 : decode cX9_village 35 = .ok (.ifCond .eq 22, 3) := by decide +kernel
theorem dX9_village_38 : decode cX9_village 38 = .ok (.iload 4, 2) := by decide +kernel
theorem dX9_village_40 : decode cX9_village 40 = .ok (.iconst 0, 1) := by decide +kernel
theorem dX9_village_41 : decode cX9_village 41 = .ok (.iload_n 3, 1) := by decide +kernel
theorem dX9_village_42 : decode cX9_village 42 = .ok (.invokestatic 282, 3) := by decide +kernel
theorem dX9_village_45 : decode cX9_village 45 = .ok (.ifCond .eq 12, 3) := by decide +kernel
theorem dX9_village_48 : decode cX9_village 48 = .ok (.aload_n 0, 1) := by decide +kernel
theorem dX9_village_49 : decode cX9_village 49 = .ok (.getfield 287, 3) := by decide +kernel
theorem dX9_village_52 : decode cX9_village 52 = .ok (.bipush 12, 2) := by decide +kernel
theorem dX9_village_54 : decode cX9_village 54 = .ok (.if_icmp .ne 5, 3) := by decide +kernel
theorem dX9_village_57 : decode cX9_village 57 = .ok (.iconst (-1), 1) := by decide +kernel
theorem dX9_village_58 : decode cX9_village 58 = .ok (.ireturn, 1) := by decide +kernel
theorem dX9_village_59 : decode cX9_village 59 = .ok (.aload_n 0, 1) := by decide +kernel
theorem dX9_village_60 : decode cX9_village 60 = .ok (.getfield 91, 3) := by decide +kernel
theorem dX9_village_63 : decode cX9_village 63 = .ok (.aload_n 0, 1) := by decide +kernel
theorem dX9_village_64 : decode cX9_village 64 = .ok (.getfield 287, 3) := by decide +kernel
theorem dX9_village_67 : decode cX9_village 67 = .ok (.iload_n 1, 1) := by decide +kernel
theorem dX9_village_68 : decode cX9_village 68 = .ok (.iastore, 1) := by decide +kernel
theorem dX9_village_69 : decode cX9_village 69 = .ok (.aload_n 0, 1) := by decide +kernel
theorem dX9_village_70 : decode cX9_village 70 = .ok (.getfield 94, 3) := by decide +kernel
theorem dX9_village_73 : decode cX9_village 73 = .ok (.aload_n 0, 1) := by decide +kernel
theorem dX9_village_74 : decode cX9_village 74 = .ok (.getfield 287, 3) := by decide +kernel
theorem dX9_village_77 : decode cX9_village 77 = .ok (.iload_n 2, 1) := by decide +kernel
theorem dX9_village_78 : decode cX9_village 78 = .ok (.iastore, 1) := by decide +kernel
theorem dX9_village_79 : decode cX9_village 79 = .ok (.aload_n 0, 1) := by decide +kernel
theorem dX9_village_80 : decode cX9_village 80 = .ok (.getfield 97, 3) := by decide +kernel
theorem dX9_village_83 : decode cX9_village 83 = .ok (.aload_n 0, 1) := by decide +kernel
theorem dX9_village_84 : decode cX9_village 84 = .ok (.getfield 287, 3) := by decide +kernel
theorem dX9_village_87 : decode cX9_village 87 = .ok (.iload_n 3, 1) := by decide +kernel
theorem dX9_village_88 : decode cX9_village 88 = .ok (.iastore, 1) := by decide +kernel
theorem dX9_village_89 : decode cX9_village 89 = .ok (.aload_n 0, 1) := by decide +kernel
theorem dX9_village_90 : decode cX9_village 90 = .ok (.getfield 100, 3) := by decide +kernel
theorem dX9_village_93 : decode cX9_village 93 = .ok (.aload_n 0, 1) := by decide +kernel
theorem dX9_village_94 : decode cX9_village 94 = .ok (.getfield 287, 3) := by decide +kernel
theorem dX9_village_97 : decode cX9_village 97 = .ok (.iload 4, 2) := by decide +kernel
theorem dX9_village_99 : decode cX9_village 99 = .ok (.iastore, 1) := by decide +kernel
theorem dX9_village_100 : decode cX9_village 100 = .ok (.aload_n 0, 1) := by decide +kernel
theorem dX9_village_101 : decode cX9_village 101 = .ok (.dup, 1) := by decide +kernel
theorem dX9_village_102 : decode cX9_village 102 = .ok (.getfield 287, 3) := by decide +kernel
theorem dX9_village_105 : decode cX9_village 105 = .ok (.iconst 1, 1) := by decide +kernel
theorem dX9_village_106 : decode cX9_village 106 = .ok (.iadd, 1) := by decide +kernel
theorem dX9_village_107 : decode cX9_village 107 = .ok (.putfield 287, 3) := by decide +kernel
theorem dX9_village_110 : decode cX9_village 110 = .ok (.aload_n 0, 1) := by decide +kernel
theorem dX9_village_111 : decode cX9_village 111 = .ok (.getfield 287, 3) := by decide +kernel
theorem dX9_village_114 : decode cX9_village 114 = .ok (.iconst 1, 1) := by decide +kernel
theorem dX9_village_115 : decode cX9_village 115 = .ok (.isub, 1) := by decide +kernel
theorem dX9_village_116 : decode cX9_village 116 = .ok (.ireturn, 1) := by decide +kernel
theorem dX9_spring_0 : decode cX9_spring 0 = .ok (.aload_n 0, 1) := by decide +kernel
theorem dX9_spring_1 : decode cX9_spring 1 = .ok (.iconst 0, 1) := by decide +kernel
theorem dX9_spring_2 : decode cX9_spring 2 = .ok (.putfield 1, 3) := by decide +kernel
theorem dX9_spring_5 : decode cX9_spring 5 = .ok (.iload_n 1, 1) := by decide +kernel
theorem dX9_spring_6 : decode cX9_spring 6 = .ok (.iconst 0, 1) := by decide +kernel
theorem dX9_spring_7 : decode cX9_spring 7 = .ok (.ldc_w 286, 3) := by decide +kernel
theorem dX9_spring_10 : decode cX9_spring 10 = .ok (.invokestatic 282, 3) := by decide +kernel
theorem dX9_spring_13 : decode cX9_spring 13 = .ok (.ifCond .eq 32, 3) := by decide +kernel
theorem dX9_spring_16 : decode cX9_spring 16 = .ok (.iload_n 2, 1) := by decide +kernel
theorem dX9_spring_17 : decode cX9_spring 17 = .ok (.iconst 1, 1) := by decide +kernel
theorem dX9_spring_18 : decode cX9_spring 18 = .ok (.ldc_w 290, 3) := by decide +kernel
theorem dX9_spring_21 : decode cX9_spring 21 = .ok (.invokestatic 282, 3) := by decide +kernel
theorem dX9_spring_24 : decode cX9_spring 24 = .ok (.ifCond .eq 21, 3) := by decide +kernel
theorem dX9_spring_27 : decode cX9_spring 27 = .ok (.iload_n 3, 1) := by decide +kernel
theorem dX9_spring_28 : decode cX9_spring 28 = .ok (.iconst 0, 1) := by decide +kernel
theorem dX9_spring_29 : decode cX9_spring 29 = .ok (.bipush 100, 2) := by decide +kernel
theorem dX9_spring_31 : decode cX9_spring 31 = .ok (.invokestatic 282, 3) := by decide +kernel
theorem dX9_spring_34 : decode cX9_spring 34 = .ok (.ifCond .eq 11, 3) := by decide +kernel
theorem dX9_spring_37 : decode cX9_spring 37 = .ok (.aload_n 0, 1) := by decide +kernel
theorem dX9_spring_38 : decode cX9_spring 38 = .ok (.getfield 291, 3) := by decide +kernel
theorem dX9_spring_41 : decode cX9_spring 41 = .ok (.iconst 4, 1) := by decide +kernel
theorem dX9_spring_42 : decode cX9_spring 42 = .ok (.if_icmp .ne 5, 3) := by decide +kernel
theorem dX9_spring_45 : decode cX9_spring 45 = .ok (.iconst (-1), 1) := by decide +kernel
theorem dX9_spring_46 : decode cX9_spring 46 = .ok (.ireturn, 1) := by decide +kernel
theorem dX9_spring_47 : decode cX9_spring 47 = .ok (.aload_n 0, 1) := by decide +kernel
theorem dX9_spring_48 : decode cX9_spring 48 = .ok (.getfield 121, 3) := by decide +kernel
theorem dX9_spring_51 : decode cX9_spring 51 = .ok (.aload_n 0, 1) := by decide +kernel
theorem dX9_spring_52 : decode cX9_spring 52 = .ok (.getfield 291, 3) := by decide +kernel
theorem dX9_spring_55 : decode cX9_spring 55 = .ok (.iload_n 1, 1) := by decide +kernel
theorem dX9_spring_56 : decode cX9_spring 56 = .ok (.iastore, 1) := by decide +kernel
theorem dX9_spring_57 : decode cX9_spring 57 = .ok (.aload_n 0, 1) := by decide +kernel
theorem dX9_spring_58 : decode cX9_spring 58 = .ok (.getfield 124, 3) := by decide +kernel
theorem dX9_spring_61 : decode cX9_spring 61 = .ok (.aload_n 0, 1) := by decide +kernel
theorem dX9_spring_62 : decode cX9_spring 62 = .ok (.getfield 291, 3) := by decide +kernel
theorem dX9_spring_65 : decode cX9_spring 65 = .ok (.iload_n 2, 1) := by decide +kernel
theorem dX9_spring_66 : decode cX9_spring 66 = .ok (.iastore, 1) := by decide +kernel
theorem dX9_spring_67 : decode cX9_spring 67 = .ok (.aload_n 0, 1) := by decide +kernel
theorem dX9_spring_68 : decode cX9_spring 68 = .ok (.getfield 127, 3) := by decide +kernel
theorem dX9_spring_71 : decode cX9_spring 71 = .ok (.aload_n 0, 1) := by decide +kernel
theorem dX9_spring_72 : decode cX9_spring 72 = .ok (.getfield 291, 3) := by decide +kernel
theorem dX9_spring_75 : decode cX9_spring 75 = .ok (.iload_n 2, 1) := by decide +kernel
theorem dX9_spring_76 : decode cX9_spring 76 = .ok (.iastore, 1) := by decide +kernel
theorem dX9_spring_77 : decode cX9_spring 77 = .ok (.aload_n 0, 1) := by decide +kernel
theorem dX9_spring_78 : decode cX9_spring 78 = .ok (.getfield 130, 3) := by decide +kernel
theorem dX9_spring_81 : decode cX9_spring 81 = .ok (.aload_n 0, 1) := by decide +kernel
theorem dX9_spring_82 : decode cX9_spring 82 = .ok (.getfield 291, 3) := by decide +kernel
theorem dX9_spring_85 : decode cX9_spring 85 = .ok (.iload_n 3, 1) := by decide +kernel
theorem dX9_spring_86 : decode cX9_spring 86 = .ok (.iastore, 1) := by decide +kernel
theorem dX9_spring_87 : decode cX9_spring 87 = .ok (.aload_n 0, 1) := by decide +kernel
theorem dX9_spring_88 : decode cX9_spring 88 = .ok (.dup, 1) := by decide +kernel
theorem dX9_spring_89 : decode cX9_spring 89 = .ok (.getfield 291, 3) := by decide +kernel
theorem dX9_spring_92 : decode cX9_spring 92 = .ok (.iconst 1, 1) := by decide +kernel
theorem dX9_spring_93 : decode cX9_spring 93 = .ok (.iadd, 1) := by decide +kernel
theorem dX9_spring_94 : decode cX9_spring 94 = .ok (.putfield 291, 3) := by decide +kernel
theorem dX9_spring_97 : decode cX9_spring 97 = .ok (.aload_n 0, 1) := by decide +kernel
theorem dX9_spring_98 : decode cX9_spring 98 = .ok (.getfield 291, 3) := by decide +kernel
theorem dX9_spring_101 : decode cX9_spring 101 = .ok (.iconst 1, 1) := by decide +kernel
theorem dX9_spring_102 : decode cX9_spring 102 = .ok (.isub, 1) := by decide +kernel
theorem dX9_spring_103 : decode cX9_spring 103 = .ok (.ireturn, 1) := by decide +kernel
theorem dX9_tanker_0 : decode cX9_tanker 0 = .ok (.aload_n 0, 1) := by decide +kernel
theorem dX9_tanker_1 : decode cX9_tanker 1 = .ok (.iconst 0, 1) := by decide +kernel
theorem dX9_tanker_2 : decode cX9_tanker 2 = .ok (.putfield 1, 3) := by decide +kernel
theorem dX9_tanker_5 : decode cX9_tanker 5 = .ok (.iload_n 1, 1) := by decide +kernel
theorem dX9_tanker_6 : decode cX9_tanker 6 = .ok (.ifCond .lt 41, 3) := by decide +kernel
theorem dX9_tanker_9 : decode cX9_tanker 9 = .ok (.iload_n 1, 1) := by decide +kernel
theorem dX9_tanker_10 : decode cX9_tanker 10 = .ok (.aload_n 0, 1) := by decide +kernel
theorem dX9_tanker_11 : decode cX9_tanker 11 = .ok (.getfield 291, 3) := by decide +kernel
theorem dX9_tanker_14 : decode cX9_tanker 14 = .ok (.if_icmp .ge 33, 3) := by decide +kernel
theorem dX9_tanker_17 : decode cX9_tanker 17 = .ok (.iload_n 2, 1) := by decide +kernel
theorem dX9_tanker_18 : decode cX9_tanker 18 = .ok (.iconst 1, 1) := by decide +kernel
theorem dX9_tanker_19 : decode cX9_tanker 19 = .ok (.sipush 20000, 3) := by decide +kernel
theorem dX9_tanker_22 : decode cX9_tanker 22 = .ok (.invokestatic 282, 3) := by decide +kernel
theorem dX9_tanker_25 : decode cX9_tanker 25 = .ok (.ifCond .eq 22, 3) := by decide +kernel
theorem dX9_tanker_28 : decode cX9_tanker 28 = .ok (.iload_n 3, 1) := by decide +kernel
theorem dX9_tanker_29 : decode cX9_tanker 29 = .ok (.iconst 0, 1) := by decide +kernel
theorem dX9_tanker_30 : decode cX9_tanker 30 = .ok (.sipush 999, 3) := by decide +kernel
theorem dX9_tanker_33 : decode cX9_tanker 33 = .ok (.invokestatic 282, 3) := by decide +kernel
theorem dX9_tanker_36 : decode cX9_tanker 36 = .ok (.ifCond .eq 11, 3) := by decide +kernel
theorem dX9_tanker_39 : decode cX9_tanker 39 = .ok (.aload_n 0, 1) := by decide +kernel
theorem dX9_tanker_40 : decode cX9_tanker 40 = .ok (.getfield 294, 3) := by decide +kernel
theorem dX9_tanker_43 : decode cX9_tanker 43 = .ok (.iconst 4, 1) := by decide +kernel
theorem dX9_tanker_44 : decode cX9_tanker 44 = .ok (.if_icmp .ne 5, 3) := by decide +kernel
theorem dX9_tanker_47 : decode cX9_tanker 47 = .ok (.iconst (-1), 1) := by decide +kernel
theorem dX9_tanker_48 : decode cX9_tanker 48 = .ok (.ireturn, 1) := by decide +kernel
theorem dX9_tanker_49 : decode cX9_tanker 49 = .ok (.aload_n 0, 1) := by decide +kernel
theorem dX9_tanker_50 : decode cX9_tanker 50 = .ok (.getfield 133, 3) := by decide +kernel
theorem dX9_tanker_53 : decode cX9_tanker 53 = .ok (.aload_n 0, 1) := by decide +kernel
theorem dX9_tanker_54 : decode cX9_tanker 54 = .ok (.getfield 294, 3) := by decide +kernel
theorem dX9_tanker_57 : decode cX9_tanker 57 = .ok (.iload_n 1, 1) := by decide +kernel
theorem dX9_tanker_58 : decode cX9_tanker 58 = .ok (.iastore, 1) := by decide +kernel
theorem dX9_tanker_59 : decode cX9_tanker 59 = .ok (.aload_n 0, 1) := by decide +kernel
theorem dX9_tanker_60 : decode cX9_tanker 60 = .ok (.getfield 136, 3) := by decide +kernel
theorem dX9_tanker_63 : decode cX9_tanker 63 = .ok (.aload_n 0, 1) := by decide +kernel
theorem dX9_tanker_64 : decode cX9_tanker 64 = .ok (.getfield 294, 3) := by decide +kernel
theorem dX9_tanker_67 : decode cX9_tanker 67 = .ok (.iload_n 2, 1) := by decide +kernel
theorem dX9_tanker_68 : decode cX9_tanker 68 = .ok (.iastore, 1) := by decide +kernel
theorem dX9_tanker_69 : decode cX9_tanker 69 = .ok (.aload_n 0, 1) := by decide +kernel
theorem dX9_tanker_70 : decode cX9_tanker 70 = .ok (.getfield 139, 3) := by decide +kernel
theorem dX9_tanker_73 : decode cX9_tanker 73 = .ok (.aload_n 0, 1) := by decide +kernel
theorem dX9_tanker_74 : decode cX9_tanker 74 = .ok (.getfield 294, 3) := by decide +kernel
theorem dX9_tanker_77 : decode cX9_tanker 77 = .ok (.iload_n 3, 1) := by decide +kernel
theorem dX9_tanker_78 : decode cX9_tanker 78 = .ok (.iastore, 1) := by decide +kernel
theorem dX9_tanker_79 : decode cX9_tanker 79 = .ok (.aload_n 0, 1) := by decide +kernel
theorem dX9_tanker_80 : decode cX9_tanker 80 = .ok (.dup, 1) := by decide +kernel
theorem dX9_tanker_81 : decode cX9_tanker 81 = .ok (.getfield 294, 3) := by decide +kernel
theorem dX9_tanker_84 : decode cX9_tanker 84 = .ok (.iconst 1, 1) := by decide +kernel
theorem dX9_tanker_85 : decode cX9_tanker 85 = .ok (.iadd, 1) := by decide +kernel
theorem dX9_tanker_86 : decode cX9_tanker 86 = .ok (.putfield 294, 3) := by decide +kernel
theorem dX9_tanker_89 : decode cX9_tanker 89 = .ok (.aload_n 0, 1) := by decide +kernel
theorem dX9_tanker_90 : decode cX9_tanker 90 = .ok (.getfield 294, 3) := by decide +kernel
theorem dX9_tanker_93 : decode cX9_tanker 93 = .ok (.iconst 1, 1) := by decide +kernel
theorem dX9_tanker_94 : decode cX9_tanker 94 = .ok (.isub, 1) := by decide +kernel
theorem dX9_tanker_95 : decode cX9_tanker 95 = .ok (.ireturn, 1) := by decide +kernel
theorem dX9_isVillage_0 : decode cX9_isVillage 0 = .ok (.iload_n 1, 1) := by decide +kernel
theorem dX9_isVillage_1 : decode cX9_isVillage 1 = .ok (.ifCond .lt 15, 3) := by decide +kernel
theorem dX9_isVillage_4 : decode cX9_isVillage 4 = .ok (.iload_n 1, 1) := by decide +kernel
theorem dX9_isVillage_5 : decode cX9_isVillage 5 = .ok (.aload_n 0, 1) := by decide +kernel
theorem dX9_isVillage_6 : decode cX9_isVillage 6 = .ok (.getfield 287, 3) := by decide +kernel
theorem dX9_isVillage_9 : decode cX9_isVillage 9 = .ok (.if_icmp .ge 7, 3) := by decide +kernel
theorem dX9_isVillage_12 : decode cX9_isVillage 12 = .ok (.iconst 1, 1) := by decide +kernel
theorem dX9_isVillage_13 : decode cX9_isVillage 13 = .ok (.goto 4, 3) := by decide +kernel
theorem dX9_isVillage_16 : decode cX9_isVillage 16 = .ok (.iconst 0, 1) := by decide +kernel
theorem dX9_isVillage_17 : decode cX9_isVillage 17 = .ok (.ireturn, 1) := by decide +kernel
theorem dX9_way_0 : decode cX9_way 0 = .ok (.aload_n 0, 1) := by decide +kernel
theorem dX9_way_1 : decode cX9_way 1 = .ok (.iconst 0, 1) := by decide +kernel
theorem dX9_way_2 : decode cX9_way 2 = .ok (.putfield 1, 3) := by decide +kernel
theorem dX9_way_5 : decode cX9_way 5 = .ok (.iload_n 1, 1) := by decide +kernel
theorem dX9_way_6 : decode cX9_way 6 = .ok (.ifCond .lt 30, 3) := by decide +kernel
theorem dX9_way_9 : decode cX9_way 9 = .ok (.iload_n 1, 1) := by decide +kernel
theorem dX9_way_10 : decode cX9_way 10 = .ok (.aload_n 0, 1) := by decide +kernel
theorem dX9_way_11 : decode cX9_way 11 = .ok (.getfield 291, 3) := by decide +kernel
theorem dX9_way_14 : decode cX9_way 14 = .ok (.if_icmp .ge 22, 3) := by decide +kernel
theorem dX9_way_17 : decode cX9_way 17 = .ok (.aload_n 0, 1) := by decide +kernel
theorem dX9_way_18 : decode cX9_way 18 = .ok (.iload_n 2, 1) := by decide +kernel
theorem dX9_way_19 : decode cX9_way 19 = .ok (.invokevirtual 297, 3) := by decide +kernel
theorem dX9_way_22 : decode cX9_way 22 = .ok (.ifCond .eq 14, 3) := by decide +kernel
theorem dX9_way_25 : decode cX9_way 25 = .ok (.iload_n 3, 1) := by decide +kernel
theorem dX9_way_26 : decode cX9_way 26 = .ok (.iconst 1, 1) := by decide +kernel
theorem dX9_way_27 : decode cX9_way 27 = .ok (.sipush 200, 3) := by decide +kernel
theorem dX9_way_30 : decode cX9_way 30 = .ok (.invokestatic 282, 3) := by decide +kernel
theorem dX9_way_33 : decode cX9_way 33 = .ok (.ifCond .ne 5, 3) := by decide +kernel
theorem dX9_way_36 : decode cX9_way 36 = .ok (.iconst 0, 1) := by decide +kernel
theorem dX9_way_37 : decode cX9_way 37 = .ok (.ireturn, 1) := by decide +kernel
theorem dX9_way_38 : decode cX9_way 38 = .ok (.aload_n 0, 1) := by decide +kernel
theorem dX9_way_39 : decode cX9_way 39 = .ok (.getfield 151, 3) := by decide +kernel
theorem dX9_way_42 : decode cX9_way 42 = .ok (.bipush 12, 2) := by decide +kernel
theorem dX9_way_44 : decode cX9_way 44 = .ok (.iload_n 1, 1) := by decide +kernel
theorem dX9_way_45 : decode cX9_way 45 = .ok (.imul, 1) := by decide +kernel
theorem dX9_way_46 : decode cX9_way 46 = .ok (.iload_n 2, 1) := by decide +kernel
theorem dX9_way_47 : decode cX9_way 47 = .ok (.iadd, 1) := by decide +kernel
theorem dX9_way_48 : decode cX9_way 48 = .ok (.iload_n 3, 1) := by decide +kernel
theorem dX9_way_49 : decode cX9_way 49 = .ok (.iastore, 1) := by decide +kernel
theorem dX9_way_50 : decode cX9_way 50 = .ok (.iconst 1, 1) := by decide +kernel
theorem dX9_way_51 : decode cX9_way 51 = .ok (.ireturn, 1) := by decide +kernel
theorem dX9_litres_0 : decode cX9_litres 0 = .ok (.bipush 16, 2) := by decide +kernel
theorem dX9_litres_2 : decode cX9_litres 2 = .ok (.aload_n 0, 1) := by decide +kernel
theorem dX9_litres_3 : decode cX9_litres 3 = .ok (.getfield 244, 3) := by decide +kernel
theorem dX9_litres_6 : decode cX9_litres 6 = .ok (.imul, 1) := by decide +kernel
theorem dX9_litres_7 : decode cX9_litres 7 = .ok (.istore_n 3, 1) := by decide +kernel
theorem dX9_litres_8 : decode cX9_litres 8 = .ok (.iload_n 3, 1) := by decide +kernel
theorem dX9_litres_9 : decode cX9_litres 9 = .ok (.bipush 16, 2) := by decide +kernel
theorem dX9_litres_11 : decode cX9_litres 11 = .ok (.aload_n 0, 1) := by decide +kernel
theorem dX9_litres_12 : decode cX9_litres 12 = .ok (.getfield 244, 3) := by decide +kernel
theorem dX9_litres_15 : decode cX9_litres 15 = .ok (.imul, 1) := by decide +kernel
theorem dX9_litres_16 : decode cX9_litres 16 = .ok (.aload_n 0, 1) := by decide +kernel
theorem dX9_litres_17 : decode cX9_litres 17 = .ok (.getfield 57, 3) := by decide +kernel
theorem dX9_litres_20 : decode cX9_litres 20 = .ok (.aload_n 0, 1) := by decide +kernel
theorem dX9_litres_21 : decode cX9_litres 21 = .ok (.getfield 244, 3) := by decide +kernel
theorem dX9_litres_24 : decode cX9_litres 24 = .ok (.iaload, 1) := by decide +kernel
theorem dX9_litres_25 : decode cX9_litres 25 = .ok (.iadd, 1) := by decide +kernel
theorem dX9_litres_26 : decode cX9_litres 26 = .ok (.if_icmp .ge 39, 3) := by decide +kernel
theorem dX9_litres_29 : decode cX9_litres 29 = .ok (.aload_n 0, 1) := by decide +kernel
theorem dX9_litres_30 : decode cX9_litres 30 = .ok (.getfield 60, 3) := by decide +kernel
theorem dX9_litres_33 : decode cX9_litres 33 = .ok (.iload_n 3, 1) := by decide +kernel
theorem dX9_litres_34 : decode cX9_litres 34 = .ok (.baload, 1) := by decide +kernel
theorem dX9_litres_35 : decode cX9_litres 35 = .ok (.iload_n 1, 1) := by decide +kernel
theorem dX9_litres_36 : decode cX9_litres 36 = .ok (.if_icmp .ne 23, 3) := by decide +kernel
theorem dX9_litres_39 : decode cX9_litres 39 = .ok (.aload_n 0, 1) := by decide +kernel
theorem dX9_litres_40 : decode cX9_litres 40 = .ok (.aload_n 0, 1) := by decide +kernel
theorem dX9_litres_41 : decode cX9_litres 41 = .ok (.getfield 67, 3) := by decide +kernel
theorem dX9_litres_44 : decode cX9_litres 44 = .ok (.iload_n 3, 1) := by decide +kernel
theorem dX9_litres_45 : decode cX9_litres 45 = .ok (.iaload, 1) := by decide +kernel
theorem dX9_litres_46 : decode cX9_litres 46 = .ok (.invokevirtual 300, 3) := by decide +kernel
theorem dX9_litres_49 : decode cX9_litres 49 = .ok (.ifCond .eq 10, 3) := by decide +kernel
theorem dX9_litres_52 : decode cX9_litres 52 = .ok (.aload_n 0, 1) := by decide +kernel
theorem dX9_litres_53 : decode cX9_litres 53 = .ok (.getfield 64, 3) := by decide +kernel
theorem dX9_litres_56 : decode cX9_litres 56 = .ok (.iload_n 3, 1) := by decide +kernel
theorem dX9_litres_57 : decode cX9_litres 57 = .ok (.iaload, 1) := by decide +kernel
theorem dX9_litres_58 : decode cX9_litres 58 = .ok (.ireturn, 1) := by decide +kernel
theorem dX9_litres_59 : decode cX9_litres 59 = .ok (.iinc 3 1, 3) := by decide +kernel
theorem dX9_litres_62 : decode cX9_litres 62 = .ok (.goto (-54), 3) := by decide +kernel
theorem dX9_litres_65 : decode cX9_litres 65 = .ok (.iload_n 2, 1) := by decide +kernel
theorem dX9_litres_66 : decode cX9_litres 66 = .ok (.ireturn, 1) := by decide +kernel
theorem dX9_wantOf_0 : decode cX9_wantOf 0 = .ok (.aload_n 0, 1) := by decide +kernel
theorem dX9_wantOf_1 : decode cX9_wantOf 1 = .ok (.getfield 85, 3) := by decide +kernel
theorem dX9_wantOf_4 : decode cX9_wantOf 4 = .ok (.iconst 0, 1) := by decide +kernel
theorem dX9_wantOf_5 : decode cX9_wantOf 5 = .ok (.iload_n 2, 1) := by decide +kernel
theorem dX9_wantOf_6 : decode cX9_wantOf 6 = .ok (.iastore, 1) := by decide +kernel
theorem dX9_wantOf_7 : decode cX9_wantOf 7 = .ok (.aload_n 0, 1) := by decide +kernel
theorem dX9_wantOf_8 : decode cX9_wantOf 8 = .ok (.getfield 85, 3) := by decide +kernel
theorem dX9_wantOf_11 : decode cX9_wantOf 11 = .ok (.iconst 1, 1) := by decide +kernel
theorem dX9_wantOf_12 : decode cX9_wantOf 12 = .ok (.aload_n 0, 1) := by decide +kernel
theorem dX9_wantOf_13 : decode cX9_wantOf 13 = .ok (.getfield 91, 3) := by decide +kernel
theorem dX9_wantOf_16 : decode cX9_wantOf 16 = .ok (.iload_n 1, 1) := by decide +kernel
theorem dX9_wantOf_17 : decode cX9_wantOf 17 = .ok (.iaload, 1) := by decide +kernel
theorem dX9_wantOf_18 : decode cX9_wantOf 18 = .ok (.iastore, 1) := by decide +kernel
theorem dX9_wantOf_19 : decode cX9_wantOf 19 = .ok (.aload_n 0, 1) := by decide +kernel
theorem dX9_wantOf_20 : decode cX9_wantOf 20 = .ok (.getfield 85, 3) := by decide +kernel
theorem dX9_wantOf_23 : decode cX9_wantOf 23 = .ok (.iconst 2, 1) := by decide +kernel
theorem dX9_wantOf_24 : decode cX9_wantOf 24 = .ok (.aload_n 0, 1) := by decide +kernel
theorem dX9_wantOf_25 : decode cX9_wantOf 25 = .ok (.getfield 94, 3) := by decide +kernel
theorem dX9_wantOf_28 : decode cX9_wantOf 28 = .ok (.iload_n 1, 1) := by decide +kernel
theorem dX9_wantOf_29 : decode cX9_wantOf 29 = .ok (.iaload, 1) := by decide +kernel
theorem dX9_wantOf_30 : decode cX9_wantOf 30 = .ok (.iastore, 1) := by decide +kernel
theorem dX9_wantOf_31 : decode cX9_wantOf 31 = .ok (.aload_n 0, 1) := by decide +kernel
theorem dX9_wantOf_32 : decode cX9_wantOf 32 = .ok (.getfield 85, 3) := by decide +kernel
theorem dX9_wantOf_35 : decode cX9_wantOf 35 = .ok (.iconst 3, 1) := by decide +kernel
theorem dX9_wantOf_36 : decode cX9_wantOf 36 = .ok (.aload_n 0, 1) := by decide +kernel
theorem dX9_wantOf_37 : decode cX9_wantOf 37 = .ok (.getfield 106, 3) := by decide +kernel
theorem dX9_wantOf_40 : decode cX9_wantOf 40 = .ok (.iload_n 1, 1) := by decide +kernel
theorem dX9_wantOf_41 : decode cX9_wantOf 41 = .ok (.iaload, 1) := by decide +kernel
theorem dX9_wantOf_42 : decode cX9_wantOf 42 = .ok (.iastore, 1) := by decide +kernel
theorem dX9_wantOf_43 : decode cX9_wantOf 43 = .ok (.aload_n 0, 1) := by decide +kernel
theorem dX9_wantOf_44 : decode cX9_wantOf 44 = .ok (.getfield 85, 3) := by decide +kernel
theorem dX9_wantOf_47 : decode cX9_wantOf 47 = .ok (.iconst 4, 1) := by decide +kernel
theorem dX9_wantOf_48 : decode cX9_wantOf 48 = .ok (.ldc2_w 303, 3) := by decide +kernel
theorem dX9_wantOf_51 : decode cX9_wantOf 51 = .ok (.aload_n 0, 1) := by decide +kernel
theorem dX9_wantOf_52 : decode cX9_wantOf 52 = .ok (.getfield 100, 3) := by decide +kernel
theorem dX9_wantOf_55 : decode cX9_wantOf 55 = .ok (.iload_n 1, 1) := by decide +kernel
theorem dX9_wantOf_56 : decode cX9_wantOf 56 = .ok (.iaload, 1) := by decide +kernel
theorem dX9_wantOf_57 : decode cX9_wantOf 57 = .ok (.i2l, 1) := by decide +kernel
theorem dX9_wantOf_58 : decode cX9_wantOf 58 = .ok (.lmul, 1) := by decide +kernel
theorem dX9_wantOf_59 : decode cX9_wantOf 59 = .ok (.aload_n 0, 1) := by decide +kernel
theorem dX9_wantOf_60 : decode cX9_wantOf 60 = .ok (.getfield 97, 3) := by decide +kernel
theorem dX9_wantOf_63 : decode cX9_wantOf 63 = .ok (.iload_n 1, 1) := by decide +kernel
theorem dX9_wantOf_64 : decode cX9_wantOf 64 = .ok (.iaload, 1) := by decide +kernel
theorem dX9_wantOf_65 : decode cX9_wantOf 65 = .ok (.i2l, 1) := by decide +kernel
theorem dX9_wantOf_66 : decode cX9_wantOf 66 = .ok (.ldiv, 1) := by decide +kernel
theorem dX9_wantOf_67 : decode cX9_wantOf 67 = .ok (.l2i, 1) := by decide +kernel
theorem dX9_wantOf_68 : decode cX9_wantOf 68 = .ok (.iastore, 1) := by decide +kernel
theorem dX9_wantOf_69 : decode cX9_wantOf 69 = .ok (.aload_n 0, 1) := by decide +kernel
theorem dX9_wantOf_70 : decode cX9_wantOf 70 = .ok (.getfield 85, 3) := by decide +kernel
theorem dX9_wantOf_73 : decode cX9_wantOf 73 = .ok (.iconst 5, 1) := by decide +kernel
theorem dX9_wantOf_74 : decode cX9_wantOf 74 = .ok (.aload_n 0, 1) := by decide +kernel
theorem dX9_wantOf_75 : decode cX9_wantOf 75 = .ok (.getfield 305, 3) := by decide +kernel
theorem dX9_wantOf_78 : decode cX9_wantOf 78 = .ok (.iastore, 1) := by decide +kernel
theorem dX9_wantOf_79 : decode cX9_wantOf 79 = .ok (.aload_n 0, 1) := by decide +kernel
theorem dX9_wantOf_80 : decode cX9_wantOf 80 = .ok (.getfield 91, 3) := by decide +kernel
theorem dX9_wantOf_83 : decode cX9_wantOf 83 = .ok (.iload_n 1, 1) := by decide +kernel
theorem dX9_wantOf_84 : decode cX9_wantOf 84 = .ok (.iaload, 1) := by decide +kernel
theorem dX9_wantOf_85 : decode cX9_wantOf 85 = .ok (.aload_n 0, 1) := by decide +kernel
theorem dX9_wantOf_86 : decode cX9_wantOf 86 = .ok (.iconst 0, 1) := by decide +kernel
theorem dX9_wantOf_87 : decode cX9_wantOf 87 = .ok (.bipush 10, 2) := by decide +kernel
theorem dX9_wantOf_89 : decode cX9_wantOf 89 = .ok (.invokevirtual 308, 3) := by decide +kernel
theorem dX9_wantOf_92 : decode cX9_wantOf 92 = .ok (.imul, 1) := by decide +kernel
theorem dX9_wantOf_93 : decode cX9_wantOf 93 = .ok (.aload_n 0, 1) := by decide +kernel
theorem dX9_wantOf_94 : decode cX9_wantOf 94 = .ok (.getfield 94, 3) := by decide +kernel
theorem dX9_wantOf_97 : decode cX9_wantOf 97 = .ok (.iload_n 1, 1) := by decide +kernel
theorem dX9_wantOf_98 : decode cX9_wantOf 98 = .ok (.iaload, 1) := by decide +kernel
theorem dX9_wantOf_99 : decode cX9_wantOf 99 = .ok (.aload_n 0, 1) := by decide +kernel
theorem dX9_wantOf_100 : decode cX9_wantOf 100 = .ok (.iconst 1, 1) := by decide +kernel
theorem dX9_wantOf_101 : decode cX9_wantOf 101 = .ok (.bipush 20, 2) := by decide +kernel
theorem dX9_wantOf_103 : decode cX9_wantOf 103 = .ok (.invokevirtual 308, 3) := by decide +kernel
theorem dX9_wantOf_106 : decode cX9_wantOf 106 = .ok (.imul, 1) := by decide +kernel
theorem dX9_wantOf_107 : decode cX9_wantOf 107 = .ok (.iadd, 1) := by decide +kernel
theorem dX9_wantOf_108 : decode cX9_wantOf 108 = .ok (.ireturn, 1) := by decide +kernel
theorem dX9_want_0 : decode cX9_want 0 = .ok (.aload_n 0, 1) := by decide +kernel
theorem dX9_want_1 : decode cX9_want 1 = .ok (.iconst 0, 1) := by decide +kernel
theorem dX9_want_2 : decode cX9_want 2 = .ok (.putfield 1, 3) := by decide +kernel
theorem dX9_want_5 : decode cX9_want 5 = .ok (.aload_n 0, 1) := by decide +kernel
theorem dX9_want_6 : decode cX9_want 6 = .ok (.iload_n 1, 1) := by decide +kernel
theorem dX9_want_7 : decode cX9_want 7 = .ok (.invokevirtual 297, 3) := by decide +kernel
theorem dX9_want_10 : decode cX9_want 10 = .ok (.ifCond .eq 17, 3) := by decide +kernel
theorem dX9_want_13 : decode cX9_want 13 = .ok (.aload_n 0, 1) := by decide +kernel
theorem dX9_want_14 : decode cX9_want 14 = .ok (.iload_n 1, 1) := by decide +kernel
theorem dX9_want_15 : decode cX9_want 15 = .ok (.aload_n 0, 1) := by decide +kernel
theorem dX9_want_16 : decode cX9_want 16 = .ok (.getfield 312, 3) := by decide +kernel
theorem dX9_want_19 : decode cX9_want 19 = .ok (.iconst 1, 1) := by decide +kernel
theorem dX9_want_20 : decode cX9_want 20 = .ok (.iadd, 1) := by decide +kernel
theorem dX9_want_21 : decode cX9_want 21 = .ok (.invokevirtual 315, 3) := by decide +kernel
theorem dX9_want_24 : decode cX9_want 24 = .ok (.goto 4, 3) := by decide +kernel
theorem dX9_want_27 : decode cX9_want 27 = .ok (.iconst (-1), 1) := by decide +kernel
theorem dX9_want_28 : decode cX9_want 28 = .ok (.ireturn, 1) := by decide +kernel
theorem dX9_findNeedy_0 : decode cX9_findNeedy 0 = .ok (.aload_n 0, 1) := by decide +kernel
theorem dX9_findNeedy_1 : decode cX9_findNeedy 1 = .ok (.iconst 0, 1) := by decide +kernel
theorem dX9_findNeedy_2 : decode cX9_findNeedy 2 = .ok (.putfield 319, 3) := by decide +kernel
theorem dX9_findNeedy_5 : decode cX9_findNeedy 5 = .ok (.aload_n 0, 1) := by decide +kernel
theorem dX9_findNeedy_6 : decode cX9_findNeedy 6 = .ok (.iconst 0, 1) := by decide +kernel
theorem dX9_findNeedy_7 : decode cX9_findNeedy 7 = .ok (.putfield 322, 3) := by decide +kernel
theorem dX9_findNeedy_10 : decode cX9_findNeedy 10 = .ok (.iconst 0, 1) := by decide +kernel
theorem dX9_findNeedy_11 : decode cX9_findNeedy 11 = .ok (.istore_n 2, 1) := by decide +kernel
theorem dX9_findNeedy_12 : decode cX9_findNeedy 12 = .ok (.iload_n 2, 1) := by decide +kernel
theorem dX9_findNeedy_13 : decode cX9_findNeedy 13 = .ok (.aload_n 0, 1) := by decide +kernel
theorem dX9_findNeedy_14 : decode cX9_findNeedy 14 = .ok (.getfield 287, 3) := by decide +kernel
theorem dX9_findNeedy_17 : decode cX9_findNeedy 17 = .ok (.if_icmp .ge 75, 3) := by decide +kernel
theorem dX9_findNeedy_20 : decode cX9_findNeedy 20 = .ok (.aload_n 0, 1) := by decide +kernel
theorem dX9_findNeedy_21 : decode cX9_findNeedy 21 = .ok (.iload_n 2, 1) := by decide +kernel
theorem dX9_findNeedy_22 : decode cX9_findNeedy 22 = .ok (.iload_n 1, 1) := by decide +kernel
theorem dX9_findNeedy_23 : decode cX9_findNeedy 23 = .ok (.invokevirtual 315, 3) := by decide +kernel
theorem dX9_findNeedy_26 : decode cX9_findNeedy 26 = .ok (.istore_n 3, 1) := by decide +kernel
theorem dX9_findNeedy_27 : decode cX9_findNeedy 27 = .ok (.aload_n 0, 1) := by decide +kernel
theorem dX9_findNeedy_28 : decode cX9_findNeedy 28 = .ok (.getfield 100, 3) := by decide +kernel
theorem dX9_findNeedy_31 : decode cX9_findNeedy 31 = .ok (.iload_n 2, 1) := by decide +kernel
theorem dX9_findNeedy_32 : decode cX9_findNeedy 32 = .ok (.iaload, 1) := by decide +kernel
theorem dX9_findNeedy_33 : decode cX9_findNeedy 33 = .ok (.iload_n 3, 1) := by decide +kernel
theorem dX9_findNeedy_34 : decode cX9_findNeedy 34 = .ok (.if_icmp .ge 52, 3) := by decide +kernel
theorem dX9_findNeedy_37 : decode cX9_findNeedy 37 = .ok (.aload_n 0, 1) := by decide +kernel
theorem dX9_findNeedy_38 : decode cX9_findNeedy 38 = .ok (.getfield 322, 3) := by decide +kernel
theorem dX9_findNeedy_41 : decode cX9_findNeedy 41 = .ok (.bipush 6, 2) := by decide +kernel
theorem dX9_findNeedy_43 : decode cX9_findNeedy 43 = .ok (.if_icmp .ge 33, 3) := by decide +kernel
theorem dX9_findNeedy_46 : decode cX9_findNeedy 46 = .ok (.aload_n 0, 1) := by decide +kernel
theorem dX9_findNeedy_47 : decode cX9_findNeedy 47 = .ok (.getfield 154, 3) := by decide +kernel
theorem dX9_findNeedy_50 : decode cX9_findNeedy 50 = .ok (.aload_n 0, 1) := by decide +kernel
theorem dX9_findNeedy_51 : decode cX9_findNeedy 51 = .ok (.getfield 322, 3) := by decide +kernel
theorem dX9_findNeedy_54 : decode cX9_findNeedy 54 = .ok (.iload_n 2, 1) := by decide +kernel
theorem dX9_findNeedy_55 : decode cX9_findNeedy 55 = .ok (.iastore, 1) := by decide +kernel
theorem dX9_findNeedy_56 : decode cX9_findNeedy 56 = .ok (.aload_n 0, 1) := by decide +kernel
theorem dX9_findNeedy_57 : decode cX9_findNeedy 57 = .ok (.getfield 157, 3) := by decide +kernel
theorem dX9_findNeedy_60 : decode cX9_findNeedy 60 = .ok (.aload_n 0, 1) := by decide +kernel
theorem dX9_findNeedy_61 : decode cX9_findNeedy 61 = .ok (.getfield 322, 3) := by decide +kernel
theorem dX9_findNeedy_64 : decode cX9_findNeedy 64 = .ok (.iload_n 3, 1) := by decide +kernel
theorem dX9_findNeedy_65 : decode cX9_findNeedy 65 = .ok (.iastore, 1) := by decide +kernel
theorem dX9_findNeedy_66 : decode cX9_findNeedy 66 = .ok (.aload_n 0, 1) := by decide +kernel
theorem dX9_findNeedy_67 : decode cX9_findNeedy 67 = .ok (.dup, 1) := by decide +kernel
theorem dX9_findNeedy_68 : decode cX9_findNeedy 68 = .ok (.getfield 322, 3) := by decide +kernel
theorem dX9_findNeedy_71 : decode cX9_findNeedy 71 = .ok (.iconst 1, 1) := by decide +kernel
theorem dX9_findNeedy_72 : decode cX9_findNeedy 72 = .ok (.iadd, 1) := by decide +kernel
theorem dX9_findNeedy_73 : decode cX9_findNeedy 73 = .ok (.putfield 322, 3) := by decide +kernel
theorem dX9_findNeedy_76 : decode cX9_findNeedy 76 = .ok (.aload_n 0, 1) := by decide +kernel
theorem dX9_findNeedy_77 : decode cX9_findNeedy 77 = .ok (.dup, 1) := by decide +kernel
theorem dX9_findNeedy_78 : decode cX9_findNeedy 78 = .ok (.getfield 319, 3) := by decide +kernel
theorem dX9_findNeedy_81 : decode cX9_findNeedy 81 = .ok (.iconst 1, 1) := by decide +kernel
theorem dX9_findNeedy_82 : decode cX9_findNeedy 82 = .ok (.iadd, 1) := by decide +kernel
theorem dX9_findNeedy_83 : decode cX9_findNeedy 83 = .ok (.putfield 319, 3) := by decide +kernel
theorem dX9_findNeedy_86 : decode cX9_findNeedy 86 = .ok (.iinc 2 1, 3) := by decide +kernel
theorem dX9_findNeedy_89 : decode cX9_findNeedy 89 = .ok (.goto (-77), 3) := by decide +kernel
theorem dX9_findNeedy_92 : decode cX9_findNeedy 92 = .ok (.return_, 1) := by decide +kernel
theorem dX9_least_0 : decode cX9_least 0 = .ok (.iload_n 0, 1) := by decide +kernel
theorem dX9_least_1 : decode cX9_least 1 = .ok (.iload_n 1, 1) := by decide +kernel
theorem dX9_least_2 : decode cX9_least 2 = .ok (.if_icmp .ge 7, 3) := by decide +kernel
theorem dX9_least_5 : decode cX9_least 5 = .ok (.iload_n 0, 1) := by decide +kernel
theorem dX9_least_6 : decode cX9_least 6 = .ok (.goto 4, 3) := by decide +kernel
theorem dX9_least_9 : decode cX9_least 9 = .ok (.iload_n 1, 1) := by decide +kernel
theorem dX9_least_10 : decode cX9_least 10 = .ok (.ireturn, 1) := by decide +kernel
theorem dX9_tries_0 : decode cX9_tries 0 = .ok (.iconst 0, 1) := by decide +kernel
theorem dX9_tries_1 : decode cX9_tries 1 = .ok (.istore_n 1, 1) := by decide +kernel
theorem dX9_tries_2 : decode cX9_tries 2 = .ok (.iload_n 1, 1) := by decide +kernel
theorem dX9_tries_3 : decode cX9_tries 3 = .ok (.aload_n 0, 1) := by decide +kernel
theorem dX9_tries_4 : decode cX9_tries 4 = .ok (.getfield 294, 3) := by decide +kernel
theorem dX9_tries_7 : decode cX9_tries 7 = .ok (.if_icmp .ge 21, 3) := by decide +kernel
theorem dX9_tries_10 : decode cX9_tries 10 = .ok (.aload_n 0, 1) := by decide +kernel
theorem dX9_tries_11 : decode cX9_tries 11 = .ok (.getfield 166, 3) := by decide +kernel
theorem dX9_tries_14 : decode cX9_tries 14 = .ok (.iload_n 1, 1) := by decide +kernel
theorem dX9_tries_15 : decode cX9_tries 15 = .ok (.aload_n 0, 1) := by decide +kernel
theorem dX9_tries_16 : decode cX9_tries 16 = .ok (.getfield 139, 3) := by decide +kernel
theorem dX9_tries_19 : decode cX9_tries 19 = .ok (.iload_n 1, 1) := by decide +kernel
theorem dX9_tries_20 : decode cX9_tries 20 = .ok (.iaload, 1) := by decide +kernel
theorem dX9_tries_21 : decode cX9_tries 21 = .ok (.iastore, 1) := by decide +kernel
theorem dX9_tries_22 : decode cX9_tries 22 = .ok (.iinc 1 1, 3) := by decide +kernel
theorem dX9_tries_25 : decode cX9_tries 25 = .ok (.goto (-23), 3) := by decide +kernel
theorem dX9_tries_28 : decode cX9_tries 28 = .ok (.iconst 0, 1) := by decide +kernel
theorem dX9_tries_29 : decode cX9_tries 29 = .ok (.istore_n 1, 1) := by decide +kernel
theorem dX9_tries_30 : decode cX9_tries 30 = .ok (.iload_n 1, 1) := by decide +kernel
theorem dX9_tries_31 : decode cX9_tries 31 = .ok (.aload_n 0, 1) := by decide +kernel
theorem dX9_tries_32 : decode cX9_tries 32 = .ok (.getfield 291, 3) := by decide +kernel
theorem dX9_tries_35 : decode cX9_tries 35 = .ok (.if_icmp .ge 21, 3) := by decide +kernel
theorem dX9_tries_38 : decode cX9_tries 38 = .ok (.aload_n 0, 1) := by decide +kernel
theorem dX9_tries_39 : decode cX9_tries 39 = .ok (.getfield 169, 3) := by decide +kernel
theorem dX9_tries_42 : decode cX9_tries 42 = .ok (.iload_n 1, 1) := by decide +kernel
theorem dX9_tries_43 : decode cX9_tries 43 = .ok (.aload_n 0, 1) := by decide +kernel
theorem dX9_tries_44 : decode cX9_tries 44 = .ok (.getfield 127, 3) := by decide +kernel
theorem dX9_tries_47 : decode cX9_tries 47 = .ok (.iload_n 1, 1) := by decide +kernel
theorem dX9_tries_48 : decode cX9_tries 48 = .ok (.iaload, 1) := by decide +kernel
theorem dX9_tries_49 : decode cX9_tries 49 = .ok (.iastore, 1) := by decide +kernel
theorem dX9_tries_50 : decode cX9_tries 50 = .ok (.iinc 1 1, 3) := by decide +kernel
theorem dX9_tries_53 : decode cX9_tries 53 = .ok (.goto (-23), 3) := by decide +kernel
theorem dX9_tries_56 : decode cX9_tries 56 = .ok (.iconst 0, 1) := by decide +kernel
theorem dX9_tries_57 : decode cX9_tries 57 = .ok (.istore_n 1, 1) := by decide +kernel
theorem dX9_tries_58 : decode cX9_tries 58 = .ok (.iconst 0, 1) := by decide +kernel
theorem dX9_tries_59 : decode cX9_tries 59 = .ok (.istore_n 2, 1) := by decide +kernel
theorem dX9_tries_60 : decode cX9_tries 60 = .ok (.iload_n 2, 1) := by decide +kernel
theorem dX9_tries_61 : decode cX9_tries 61 = .ok (.aload_n 0, 1) := by decide +kernel
theorem dX9_tries_62 : decode cX9_tries 62 = .ok (.getfield 322, 3) := by decide +kernel
theorem dX9_tries_65 : decode cX9_tries 65 = .ok (.if_icmp .ge 159, 3) := by decide +kernel
theorem dX9_tries_68 : decode cX9_tries 68 = .ok (.aload_n 0, 1) := by decide +kernel
theorem dX9_tries_69 : decode cX9_tries 69 = .ok (.getfield 154, 3) := by decide +kernel
theorem dX9_tries_72 : decode cX9_tries 72 = .ok (.iload_n 2, 1) := by decide +kernel
theorem dX9_tries_73 : decode cX9_tries 73 = .ok (.iaload, 1) := by decide +kernel
theorem dX9_tries_74 : decode cX9_tries 74 = .ok (.istore_n 3, 1) := by decide +kernel
theorem dX9_tries_75 : decode cX9_tries 75 = .ok (.aload_n 0, 1) := by decide +kernel
theorem dX9_tries_76 : decode cX9_tries 76 = .ok (.getfield 100, 3) := by decide +kernel
theorem dX9_tries_79 : decode cX9_tries 79 = .ok (.iload_n 3, 1) := by decide +kernel
theorem dX9_tries_80 : decode cX9_tries 80 = .ok (.iaload, 1) := by decide +kernel
theorem dX9_tries_81 : decode cX9_tries 81 = .ok (.istore 4, 2) := by decide +kernel
theorem dX9_tries_83 : decode cX9_tries 83 = .ok (.aload_n 0, 1) := by decide +kernel
theorem dX9_tries_84 : decode cX9_tries 84 = .ok (.getfield 160, 3) := by decide +kernel
theorem dX9_tries_87 : decode cX9_tries 87 = .ok (.iload_n 2, 1) := by decide +kernel
theorem dX9_tries_88 : decode cX9_tries 88 = .ok (.iaload, 1) := by decide +kernel
theorem dX9_tries_89 : decode cX9_tries 89 = .ok (.aload_n 0, 1) := by decide +kernel
theorem dX9_tries_90 : decode cX9_tries 90 = .ok (.getfield 294, 3) := by decide +kernel
theorem dX9_tries_93 : decode cX9_tries 93 = .ok (.if_icmp .ge 106, 3) := by decide +kernel
theorem dX9_tries_96 : decode cX9_tries 96 = .ok (.aload_n 0, 1) := by decide +kernel
theorem dX9_tries_97 : decode cX9_tries 97 = .ok (.getfield 160, 3) := by decide +kernel
theorem dX9_tries_100 : decode cX9_tries 100 = .ok (.iload_n 2, 1) := by decide +kernel
theorem dX9_tries_101 : decode cX9_tries 101 = .ok (.iaload, 1) := by decide +kernel
theorem dX9_tries_102 : decode cX9_tries 102 = .ok (.istore 5, 2) := by decide +kernel
theorem dX9_tries_104 : decode cX9_tries 104 = .ok (.aload_n 0, 1) := by decide +kernel
theorem dX9_tries_105 : decode cX9_tries 105 = .ok (.getfield 133, 3) := by decide +kernel
theorem dX9_tries_108 : decode cX9_tries 108 = .ok (.iload 5, 2) := by decide +kernel
theorem dX9_tries_110 : decode cX9_tries 110 = .ok (.iaload, 1) := by decide +kernel
theorem dX9_tries_111 : decode cX9_tries 111 = .ok (.istore 6, 2) := by decide +kernel
theorem dX9_tries_113 : decode cX9_tries 113 = .ok (.aload_n 0, 1) := by decide +kernel
theorem dX9_tries_114 : decode cX9_tries 114 = .ok (.getfield 166, 3) := by decide +kernel
theorem dX9_tries_117 : decode cX9_tries 117 = .ok (.iload 5, 2) := by decide +kernel
theorem dX9_tries_119 : decode cX9_tries 119 = .ok (.dup2, 1) := by decide +kernel
theorem dX9_tries_120 : decode cX9_tries 120 = .ok (.iaload, 1) := by decide +kernel
theorem dX9_tries_121 : decode cX9_tries 121 = .ok (.iconst 2, 1) := by decide +kernel
theorem dX9_tries_122 : decode cX9_tries 122 = .ok (.aload_n 0, 1) := by decide +kernel
theorem dX9_tries_123 : decode cX9_tries 123 = .ok (.getfield 151, 3) := by decide +kernel
theorem dX9_tries_126 : decode cX9_tries 126 = .ok (.bipush 12, 2) := by decide +kernel
theorem dX9_tries_128 : decode cX9_tries 128 = .ok (.iload 6, 2) := by decide +kernel
theorem dX9_tries_130 : decode cX9_tries 130 = .ok (.imul, 1) := by decide +kernel
theorem dX9_tries_131 : decode cX9_tries 131 = .ok (.iload_n 3, 1) := by decide +kernel
theorem dX9_tries_132 : decode cX9_tries 132 = .ok (.iadd, 1) := by decide +kernel
theorem dX9_tries_133 : decode cX9_tries 133 = .ok (.iaload, 1) := by decide +kernel
theorem dX9_tries_134 : decode cX9_tries 134 = .ok (.imul, 1) := by decide +kernel
theorem dX9_tries_135 : decode cX9_tries 135 = .ok (.isub, 1) := by decide +kernel
theorem dX9_tries_136 : decode cX9_tries 136 = .ok (.iastore, 1) := by decide +kernel
theorem dX9_tries_137 : decode cX9_tries 137 = .ok (.aload_n 0, 1) := by decide +kernel
theorem dX9_tries_138 : decode cX9_tries 138 = .ok (.getfield 166, 3) := by decide +kernel
theorem dX9_tries_141 : decode cX9_tries 141 = .ok (.iload 5, 2) := by decide +kernel
theorem dX9_tries_143 : decode cX9_tries 143 = .ok (.iaload, 1) := by decide +kernel
theorem dX9_tries_144 : decode cX9_tries 144 = .ok (.ifCond .ge 5, 3) := by decide +kernel
theorem dX9_tries_147 : decode cX9_tries 147 = .ok (.iconst (-1), 1) := by decide +kernel
theorem dX9_tries_148 : decode cX9_tries 148 = .ok (.ireturn, 1) := by decide +kernel
theorem dX9_tries_149 : decode cX9_tries 149 = .ok (.aload_n 0, 1) := by decide +kernel
theorem dX9_tries_150 : decode cX9_tries 150 = .ok (.getfield 136, 3) := by decide +kernel
theorem dX9_tries_153 : decode cX9_tries 153 = .ok (.iload 5, 2) := by decide +kernel
theorem dX9_tries_155 : decode cX9_tries 155 = .ok (.iaload, 1) := by decide +kernel
theorem dX9_tries_156 : decode cX9_tries 156 = .ok (.aload_n 0, 1) := by decide +kernel
theorem dX9_tries_157 : decode cX9_tries 157 = .ok (.getfield 169, 3) := by decide +kernel
theorem dX9_tries_160 : decode cX9_tries 160 = .ok (.iload 6, 2) := by decide +kernel
theorem dX9_tries_162 : decode cX9_tries 162 = .ok (.iaload, 1) := by decide +kernel
theorem dX9_tries_163 : decode cX9_tries 163 = .ok (.aload_n 0, 1) := by decide +kernel
theorem dX9_tries_164 : decode cX9_tries 164 = .ok (.getfield 97, 3) := by decide +kernel
theorem dX9_tries_167 : decode cX9_tries 167 = .ok (.iload_n 3, 1) := by decide +kernel
theorem dX9_tries_168 : decode cX9_tries 168 = .ok (.iaload, 1) := by decide +kernel
theorem dX9_tries_169 : decode cX9_tries 169 = .ok (.iload 4, 2) := by decide +kernel
theorem dX9_tries_171 : decode cX9_tries 171 = .ok (.isub, 1) := by decide +kernel
theorem dX9_tries_172 : decode cX9_tries 172 = .ok (.invokestatic 325, 3) := by decide +kernel
theorem dX9_tries_175 : decode cX9_tries 175 = .ok (.invokestatic 325, 3) := by decide +kernel
theorem dX9_tries_178 : decode cX9_tries 178 = .ok (.istore 7, 2) := by decide +kernel
theorem dX9_tries_180 : decode cX9_tries 180 = .ok (.aload_n 0, 1) := by decide +kernel
theorem dX9_tries_181 : decode cX9_tries 181 = .ok (.getfield 169, 3) := by decide +kernel
theorem dX9_tries_184 : decode cX9_tries 184 = .ok (.iload 6, 2) := by decide +kernel
theorem dX9_tries_186 : decode cX9_tries 186 = .ok (.dup2, 1) := by decide +kernel
theorem dX9_tries_187 : decode cX9_tries 187 = .ok (.iaload, 1) := by decide +kernel
theorem dX9_tries_188 : decode cX9_tries 188 = .ok (.iload 7, 2) := by decide +kernel
theorem dX9_tries_190 : decode cX9_tries 190 = .ok (.isub, 1) := by decide +kernel
theorem dX9_tries_191 : decode cX9_tries 191 = .ok (.iastore, 1) := by decide +kernel
theorem dX9_tries_192 : decode cX9_tries 192 = .ok (.iload 4, 2) := by decide +kernel
theorem dX9_tries_194 : decode cX9_tries 194 = .ok (.iload 7, 2) := by decide +kernel
theorem dX9_tries_196 : decode cX9_tries 196 = .ok (.iadd, 1) := by decide +kernel
theorem dX9_tries_197 : decode cX9_tries 197 = .ok (.istore 4, 2) := by decide +kernel
theorem dX9_tries_199 : decode cX9_tries 199 = .ok (.iload_n 1, 1) := by decide +kernel
theorem dX9_tries_200 : decode cX9_tries 200 = .ok (.iload 4, 2) := by decide +kernel
theorem dX9_tries_202 : decode cX9_tries 202 = .ok (.aload_n 0, 1) := by decide +kernel
theorem dX9_tries_203 : decode cX9_tries 203 = .ok (.getfield 157, 3) := by decide +kernel
theorem dX9_tries_206 : decode cX9_tries 206 = .ok (.iload_n 2, 1) := by decide +kernel
theorem dX9_tries_207 : decode cX9_tries 207 = .ok (.iaload, 1) := by decide +kernel
theorem dX9_tries_208 : decode cX9_tries 208 = .ok (.if_icmp .ge 7, 3) := by decide +kernel
theorem dX9_tries_211 : decode cX9_tries 211 = .ok (.iconst 1, 1) := by decide +kernel
theorem dX9_tries_212 : decode cX9_tries 212 = .ok (.goto 4, 3) := by decide +kernel
theorem dX9_tries_215 : decode cX9_tries 215 = .ok (.iconst 0, 1) := by decide +kernel
theorem dX9_tries_216 : decode cX9_tries 216 = .ok (.iadd, 1) := by decide +kernel
theorem dX9_tries_217 : decode cX9_tries 217 = .ok (.istore_n 1, 1) := by decide +kernel
theorem dX9_tries_218 : decode cX9_tries 218 = .ok (.iinc 2 1, 3) := by decide +kernel
theorem dX9_tries_221 : decode cX9_tries 221 = .ok (.goto (-161), 3) := by decide +kernel
theorem dX9_tries_224 : decode cX9_tries 224 = .ok (.iload_n 1, 1) := by decide +kernel
theorem dX9_tries_225 : decode cX9_tries 225 = .ok (.ireturn, 1) := by decide +kernel
theorem dX9_milesSent_0 : decode cX9_milesSent 0 = .ok (.iconst 0, 1) := by decide +kernel
theorem dX9_milesSent_1 : decode cX9_milesSent 1 = .ok (.istore_n 1, 1) := by decide +kernel
theorem dX9_milesSent_2 : decode cX9_milesSent 2 = .ok (.iconst 0, 1) := by decide +kernel
theorem dX9_milesSent_3 : decode cX9_milesSent 3 = .ok (.istore_n 2, 1) := by decide +kernel
theorem dX9_milesSent_4 : decode cX9_milesSent 4 = .ok (.iload_n 2, 1) := by decide +kernel
theorem dX9_milesSent_5 : decode cX9_milesSent 5 = .ok (.aload_n 0, 1) := by decide +kernel
theorem dX9_milesSent_6 : decode cX9_milesSent 6 = .ok (.getfield 322, 3) := by decide +kernel
theorem dX9_milesSent_9 : decode cX9_milesSent 9 = .ok (.if_icmp .ge 57, 3) := by decide +kernel
theorem dX9_milesSent_12 : decode cX9_milesSent 12 = .ok (.iload_n 1, 1) := by decide +kernel
theorem dX9_milesSent_13 : decode cX9_milesSent 13 = .ok (.aload_n 0, 1) := by decide +kernel
theorem dX9_milesSent_14 : decode cX9_milesSent 14 = .ok (.getfield 160, 3) := by decide +kernel
theorem dX9_milesSent_17 : decode cX9_milesSent 17 = .ok (.iload_n 2, 1) := by decide +kernel
theorem dX9_milesSent_18 : decode cX9_milesSent 18 = .ok (.iaload, 1) := by decide +kernel
theorem dX9_milesSent_19 : decode cX9_milesSent 19 = .ok (.aload_n 0, 1) := by decide +kernel
theorem dX9_milesSent_20 : decode cX9_milesSent 20 = .ok (.getfield 294, 3) := by decide +kernel
theorem dX9_milesSent_23 : decode cX9_milesSent 23 = .ok (.if_icmp .ge 34, 3) := by decide +kernel
theorem dX9_milesSent_26 : decode cX9_milesSent 26 = .ok (.iconst 2, 1) := by decide +kernel
theorem dX9_milesSent_27 : decode cX9_milesSent 27 = .ok (.aload_n 0, 1) := by decide +kernel
theorem dX9_milesSent_28 : decode cX9_milesSent 28 = .ok (.getfield 151, 3) := by decide +kernel
theorem dX9_milesSent_31 : decode cX9_milesSent 31 = .ok (.bipush 12, 2) := by decide +kernel
theorem dX9_milesSent_33 : decode cX9_milesSent 33 = .ok (.aload_n 0, 1) := by decide +kernel
theorem dX9_milesSent_34 : decode cX9_milesSent 34 = .ok (.getfield 133, 3) := by decide +kernel
theorem dX9_milesSent_37 : decode cX9_milesSent 37 = .ok (.aload_n 0, 1) := by decide +kernel
theorem dX9_milesSent_38 : decode cX9_milesSent 38 = .ok (.getfield 160, 3) := by decide +kernel
theorem dX9_milesSent_41 : decode cX9_milesSent 41 = .ok (.iload_n 2, 1) := by decide +kernel
theorem dX9_milesSent_42 : decode cX9_milesSent 42 = .ok (.iaload, 1) := by decide +kernel
theorem dX9_milesSent_43 : decode cX9_milesSent 43 = .ok (.iaload, 1) := by decide +kernel
theorem dX9_milesSent_44 : decode cX9_milesSent 44 = .ok (.imul, 1) := by decide +kernel
theorem dX9_milesSent_45 : decode cX9_milesSent 45 = .ok (.aload_n 0, 1) := by decide +kernel
theorem dX9_milesSent_46 : decode cX9_milesSent 46 = .ok (.getfield 154, 3) := by decide +kernel
theorem dX9_milesSent_49 : decode cX9_milesSent 49 = .ok (.iload_n 2, 1) := by decide +kernel
theorem dX9_milesSent_50 : decode cX9_milesSent 50 = .ok (.iaload, 1) := by decide +kernel
theorem dX9_milesSent_51 : decode cX9_milesSent 51 = .ok (.iadd, 1) := by decide +kernel
theorem dX9_milesSent_52 : decode cX9_milesSent 52 = .ok (.iaload, 1) := by decide +kernel
theorem dX9_milesSent_53 : decode cX9_milesSent 53 = .ok (.imul, 1) := by decide +kernel
theorem dX9_milesSent_54 : decode cX9_milesSent 54 = .ok (.goto 4, 3) := by decide +kernel
theorem dX9_milesSent_57 : decode cX9_milesSent 57 = .ok (.iconst 0, 1) := by decide +kernel
theorem dX9_milesSent_58 : decode cX9_milesSent 58 = .ok (.iadd, 1) := by decide +kernel
theorem dX9_milesSent_59 : decode cX9_milesSent 59 = .ok (.istore_n 1, 1) := by decide +kernel
theorem dX9_milesSent_60 : decode cX9_milesSent 60 = .ok (.iinc 2 1, 3) := by decide +kernel
theorem dX9_milesSent_63 : decode cX9_milesSent 63 = .ok (.goto (-59), 3) := by decide +kernel
theorem dX9_milesSent_66 : decode cX9_milesSent 66 = .ok (.iload_n 1, 1) := by decide +kernel
theorem dX9_milesSent_67 : decode cX9_milesSent 67 = .ok (.ireturn, 1) := by decide +kernel
theorem dX9_findPlan_0 : decode cX9_findPlan 0 = .ok (.aload_n 0, 1) := by decide +kernel
theorem dX9_findPlan_1 : decode cX9_findPlan 1 = .ok (.iload_n 1, 1) := by decide +kernel
theorem dX9_findPlan_2 : decode cX9_findPlan 2 = .ok (.invokevirtual 328, 3) := by decide +kernel
theorem dX9_findPlan_5 : decode cX9_findPlan 5 = .ok (.iconst 1, 1) := by decide +kernel
theorem dX9_findPlan_6 : decode cX9_findPlan 6 = .ok (.istore_n 2, 1) := by decide +kernel
theorem dX9_findPlan_7 : decode cX9_findPlan 7 = .ok (.iconst 0, 1) := by decide +kernel
theorem dX9_findPlan_8 : decode cX9_findPlan 8 = .ok (.istore_n 3, 1) := by decide +kernel
theorem dX9_findPlan_9 : decode cX9_findPlan 9 = .ok (.iload_n 3, 1) := by decide +kernel
theorem dX9_findPlan_10 : decode cX9_findPlan 10 = .ok (.aload_n 0, 1) := by decide +kernel
theorem dX9_findPlan_11 : decode cX9_findPlan 11 = .ok (.getfield 322, 3) := by decide +kernel
theorem dX9_findPlan_14 : decode cX9_findPlan 14 = .ok (.if_icmp .ge 18, 3) := by decide +kernel
theorem dX9_findPlan_17 : decode cX9_findPlan 17 = .ok (.iload_n 2, 1) := by decide +kernel
theorem dX9_findPlan_18 : decode cX9_findPlan 18 = .ok (.aload_n 0, 1) := by decide +kernel
theorem dX9_findPlan_19 : decode cX9_findPlan 19 = .ok (.getfield 294, 3) := by decide +kernel
theorem dX9_findPlan_22 : decode cX9_findPlan 22 = .ok (.iconst 1, 1) := by decide +kernel
theorem dX9_findPlan_23 : decode cX9_findPlan 23 = .ok (.iadd, 1) := by decide +kernel
theorem dX9_findPlan_24 : decode cX9_findPlan 24 = .ok (.imul, 1) := by decide +kernel
theorem dX9_findPlan_25 : decode cX9_findPlan 25 = .ok (.istore_n 2, 1) := by decide +kernel
theorem dX9_findPlan_26 : decode cX9_findPlan 26 = .ok (.iinc 3 1, 3) := by decide +kernel
theorem dX9_findPlan_29 : decode cX9_findPlan 29 = .ok (.goto (-20), 3) := by decide +kernel
theorem dX9_findPlan_32 : decode cX9_findPlan 32 = .ok (.aload_n 0, 1) := by decide +kernel
theorem dX9_findPlan_33 : decode cX9_findPlan 33 = .ok (.iconst (-1), 1) := by decide +kernel
theorem dX9_findPlan_34 : decode cX9_findPlan 34 = .ok (.putfield 331, 3) := by decide +kernel
theorem dX9_findPlan_37 : decode cX9_findPlan 37 = .ok (.iconst 0, 1) := by decide +kernel
theorem dX9_findPlan_38 : decode cX9_findPlan 38 = .ok (.istore_n 3, 1) := by decide +kernel
theorem dX9_findPlan_39 : decode cX9_findPlan 39 = .ok (.iload_n 3, 1) := by decide +kernel
theorem dX9_findPlan_40 : decode cX9_findPlan 40 = .ok (.iload_n 2, 1) := by decide +kernel
theorem dX9_findPlan_41 : decode cX9_findPlan 41 = .ok (.if_icmp .ge 162, 3) := by decide +kernel
theorem dX9_findPlan_44 : decode cX9_findPlan 44 = .ok (.iload_n 3, 1) := by decide +kernel
theorem dX9_findPlan_45 : decode cX9_findPlan 45 = .ok (.istore 4, 2) := by decide +kernel
theorem dX9_findPlan_47 : decode cX9_findPlan 47 = .ok (.aload_n 0, 1) := by decide +kernel
theorem dX9_findPlan_48 : decode cX9_findPlan 48 = .ok (.getfield 322, 3) := by decide +kernel
theorem dX9_findPlan_51 : decode cX9_findPlan 51 = .ok (.iconst 1, 1) := by decide +kernel
theorem dX9_findPlan_52 : decode cX9_findPlan 52 = .ok (.isub, 1) := by decide +kernel
theorem dX9_findPlan_53 : decode cX9_findPlan 53 = .ok (.istore 5, 2) := by decide +kernel
theorem dX9_findPlan_55 : decode cX9_findPlan 55 = .ok (.iload 5, 2) := by decide +kernel
theorem dX9_findPlan_57 : decode cX9_findPlan 57 = .ok (.ifCond .lt 36, 3) := by decide +kernel
theorem dX9_findPlan_60 : decode cX9_findPlan 60 = .ok (.aload_n 0, 1) := by decide +kernel
theorem dX9_findPlan_61 : decode cX9_findPlan 61 = .ok (.getfield 160, 3) := by decide +kernel
theorem dX9_findPlan_64 : decode cX9_findPlan 64 = .ok (.iload 5, 2) := by decide +kernel
theorem dX9_findPlan_66 : decode cX9_findPlan 66 = .ok (.iload 4, 2) := by decide +kernel
theorem dX9_findPlan_68 : decode cX9_findPlan 68 = .ok (.aload_n 0, 1) := by decide +kernel
theorem dX9_findPlan_69 : decode cX9_findPlan 69 = .ok (.getfield 294, 3) := by decide +kernel
theorem dX9_findPlan_72 : decode cX9_findPlan 72 = .ok (.iconst 1, 1) := by decide +kernel
theorem dX9_findPlan_73 : decode cX9_findPlan 73 = .ok (.iadd, 1) := by decide +kernel
theorem dX9_findPlan_74 : decode cX9_findPlan 74 = .ok (.irem, 1) := by decide +kernel
theorem dX9_findPlan_75 : decode cX9_findPlan 75 = .ok (.iastore, 1) := by decide +kernel
theorem dX9_findPlan_76 : decode cX9_findPlan 76 = .ok (.iload 4, 2) := by decide +kernel
theorem dX9_findPlan_78 : decode cX9_findPlan 78 = .ok (.aload_n 0, 1) := by decide +kernel
theorem dX9_findPlan_79 : decode cX9_findPlan 79 = .ok (.getfield 294, 3) := by decide +kernel
theorem dX9_findPlan_82 : decode cX9_findPlan 82 = .ok (.iconst 1, 1) := by decide +kernel
theorem dX9_findPlan_83 : decode cX9_findPlan 83 = .ok (.iadd, 1) := by decide +kernel
theorem dX9_findPlan_84 : decode cX9_findPlan 84 = .ok (.idiv, 1) := by decide +kernel
theorem dX9_findPlan_85 : decode cX9_findPlan 85 = .ok (.istore 4, 2) := by decide +kernel
theorem dX9_findPlan_87 : decode cX9_findPlan 87 = .ok (.iinc 5 (-1), 3) := by decide +kernel
theorem dX9_findPlan_90 : decode cX9_findPlan 90 = .ok (.goto (-35), 3) := by decide +kernel
theorem dX9_findPlan_93 : decode cX9_findPlan 93 = .ok (.aload_n 0, 1) := by decide +kernel
theorem dX9_findPlan_94 : decode cX9_findPlan 94 = .ok (.invokevirtual 334, 3) := by decide +kernel
theorem dX9_findPlan_97 : decode cX9_findPlan 97 = .ok (.istore 5, 2) := by decide +kernel
theorem dX9_findPlan_99 : decode cX9_findPlan 99 = .ok (.iload 5, 2) := by decide +kernel
theorem dX9_findPlan_101 : decode cX9_findPlan 101 = .ok (.ifCond .ge 7, 3) := by decide +kernel
theorem dX9_findPlan_104 : decode cX9_findPlan 104 = .ok (.iconst 0, 1) := by decide +kernel
theorem dX9_findPlan_105 : decode cX9_findPlan 105 = .ok (.goto 7, 3) := by decide +kernel
theorem dX9_findPlan_108 : decode cX9_findPlan 108 = .ok (.aload_n 0, 1) := by decide +kernel
theorem dX9_findPlan_109 : decode cX9_findPlan 109 = .ok (.invokevirtual 337, 3) := by decide +kernel
theorem dX9_findPlan_112 : decode cX9_findPlan 112 = .ok (.istore 6, 2) := by decide +kernel
theorem dX9_findPlan_114 : decode cX9_findPlan 114 = .ok (.iload 5, 2) := by decide +kernel
theorem dX9_findPlan_116 : decode cX9_findPlan 116 = .ok (.ifCond .lt 81, 3) := by decide +kernel
theorem dX9_findPlan_119 : decode cX9_findPlan 119 = .ok (.aload_n 0, 1) := by decide +kernel
theorem dX9_findPlan_120 : decode cX9_findPlan 120 = .ok (.getfield 331, 3) := by decide +kernel
theorem dX9_findPlan_123 : decode cX9_findPlan 123 = .ok (.ifCond .lt 30, 3) := by decide +kernel
theorem dX9_findPlan_126 : decode cX9_findPlan 126 = .ok (.iload 5, 2) := by decide +kernel
theorem dX9_findPlan_128 : decode cX9_findPlan 128 = .ok (.aload_n 0, 1) := by decide +kernel
theorem dX9_findPlan_129 : decode cX9_findPlan 129 = .ok (.getfield 331, 3) := by decide +kernel
theorem dX9_findPlan_132 : decode cX9_findPlan 132 = .ok (.if_icmp .lt 21, 3) := by decide +kernel
theorem dX9_findPlan_135 : decode cX9_findPlan 135 = .ok (.iload 5, 2) := by decide +kernel
theorem dX9_findPlan_137 : decode cX9_findPlan 137 = .ok (.aload_n 0, 1) := by decide +kernel
theorem dX9_findPlan_138 : decode cX9_findPlan 138 = .ok (.getfield 331, 3) := by decide +kernel
theorem dX9_findPlan_141 : decode cX9_findPlan 141 = .ok (.if_icmp .ne 56, 3) := by decide +kernel
theorem dX9_findPlan_144 : decode cX9_findPlan 144 = .ok (.iload 6, 2) := by decide +kernel
theorem dX9_findPlan_146 : decode cX9_findPlan 146 = .ok (.aload_n 0, 1) := by decide +kernel
theorem dX9_findPlan_147 : decode cX9_findPlan 147 = .ok (.getfield 340, 3) := by decide +kernel
theorem dX9_findPlan_150 : decode cX9_findPlan 150 = .ok (.if_icmp .ge 47, 3) := by decide +kernel
theorem dX9_findPlan_153 : decode cX9_findPlan 153 = .ok (.aload_n 0, 1) := by decide +kernel
theorem dX9_findPlan_154 : decode cX9_findPlan 154 = .ok (.iload 5, 2) := by decide +kernel
theorem dX9_findPlan_156 : decode cX9_findPlan 156 = .ok (.putfield 331, 3) := by decide +kernel
theorem dX9_findPlan_159 : decode cX9_findPlan 159 = .ok (.aload_n 0, 1) := by decide +kernel
theorem dX9_findPlan_160 : decode cX9_findPlan 160 = .ok (.iload 6, 2) := by decide +kernel
theorem dX9_findPlan_162 : decode cX9_findPlan 162 = .ok (.putfield 340, 3) := by decide +kernel
theorem dX9_findPlan_165 : decode cX9_findPlan 165 = .ok (.iconst 0, 1) := by decide +kernel
theorem dX9_findPlan_166 : decode cX9_findPlan 166 = .ok (.istore 7, 2) := by decide +kernel
theorem dX9_findPlan_168 : decode cX9_findPlan 168 = .ok (.iload 7, 2) := by decide +kernel
theorem dX9_findPlan_170 : decode cX9_findPlan 170 = .ok (.aload_n 0, 1) := by decide +kernel
theorem dX9_findPlan_171 : decode cX9_findPlan 171 = .ok (.getfield 322, 3) := by decide +kernel
theorem dX9_findPlan_174 : decode cX9_findPlan 174 = .ok (.if_icmp .ge 23, 3) := by decide +kernel
theorem dX9_findPlan_177 : decode cX9_findPlan 177 = .ok (.aload_n 0, 1) := by decide +kernel
theorem dX9_findPlan_178 : decode cX9_findPlan 178 = .ok (.getfield 163, 3) := by decide +kernel
theorem dX9_findPlan_181 : decode cX9_findPlan 181 = .ok (.iload 7, 2) := by decide +kernel
theorem dX9_findPlan_183 : decode cX9_findPlan 183 = .ok (.aload_n 0, 1) := by decide +kernel
theorem dX9_findPlan_184 : decode cX9_findPlan 184 = .ok (.getfield 160, 3) := by decide +kernel
theorem dX9_findPlan_187 : decode cX9_findPlan 187 = .ok (.iload 7, 2) := by decide +kernel
theorem dX9_findPlan_189 : decode cX9_findPlan 189 = .ok (.iaload, 1) := by decide +kernel
theorem dX9_findPlan_190 : decode cX9_findPlan 190 = .ok (.iastore, 1) := by decide +kernel
theorem dX9_findPlan_191 : decode cX9_findPlan 191 = .ok (.iinc 7 1, 3) := by decide +kernel
theorem dX9_findPlan_194 : decode cX9_findPlan 194 = .ok (.goto (-26), 3) := by decide +kernel
theorem dX9_findPlan_197 : decode cX9_findPlan 197 = .ok (.iinc 3 1, 3) := by decide +kernel
theorem dX9_findPlan_200 : decode cX9_findPlan 200 = .ok (.goto (-161), 3) := by decide +kernel
theorem dX9_findPlan_203 : decode cX9_findPlan 203 = .ok (.return_, 1) := by decide +kernel
theorem dX9_plan_0 : decode cX9_plan 0 = .ok (.aload_n 0, 1) := by decide +kernel
theorem dX9_plan_1 : decode cX9_plan 1 = .ok (.iconst 0, 1) := by decide +kernel
theorem dX9_plan_2 : decode cX9_plan 2 = .ok (.putfield 1, 3) := by decide +kernel
theorem dX9_plan_5 : decode cX9_plan 5 = .ok (.aload_n 0, 1) := by decide +kernel
theorem dX9_plan_6 : decode cX9_plan 6 = .ok (.aload_n 0, 1) := by decide +kernel
theorem dX9_plan_7 : decode cX9_plan 7 = .ok (.getfield 312, 3) := by decide +kernel
theorem dX9_plan_10 : decode cX9_plan 10 = .ok (.iconst 1, 1) := by decide +kernel
theorem dX9_plan_11 : decode cX9_plan 11 = .ok (.iadd, 1) := by decide +kernel
theorem dX9_plan_12 : decode cX9_plan 12 = .ok (.invokevirtual 343, 3) := by decide +kernel
theorem dX9_plan_15 : decode cX9_plan 15 = .ok (.iload_n 1, 1) := by decide +kernel
theorem dX9_plan_16 : decode cX9_plan 16 = .ok (.ifCond .ne 10, 3) := by decide +kernel
theorem dX9_plan_19 : decode cX9_plan 19 = .ok (.aload_n 0, 1) := by decide +kernel
theorem dX9_plan_20 : decode cX9_plan 20 = .ok (.getfield 319, 3) := by decide +kernel
theorem dX9_plan_23 : decode cX9_plan 23 = .ok (.goto 28, 3) := by decide +kernel
theorem dX9_plan_26 : decode cX9_plan 26 = .ok (.iload_n 1, 1) := by decide +kernel
theorem dX9_plan_27 : decode cX9_plan 27 = .ok (.iconst 1, 1) := by decide +kernel
theorem dX9_plan_28 : decode cX9_plan 28 = .ok (.if_icmp .ne 10, 3) := by decide +kernel
theorem dX9_plan_31 : decode cX9_plan 31 = .ok (.aload_n 0, 1) := by decide +kernel
theorem dX9_plan_32 : decode cX9_plan 32 = .ok (.getfield 331, 3) := by decide +kernel
theorem dX9_plan_35 : decode cX9_plan 35 = .ok (.goto 16, 3) := by decide +kernel
theorem dX9_plan_38 : decode cX9_plan 38 = .ok (.iload_n 1, 1) := by decide +kernel
theorem dX9_plan_39 : decode cX9_plan 39 = .ok (.iconst 2, 1) := by decide +kernel
theorem dX9_plan_40 : decode cX9_plan 40 = .ok (.if_icmp .ne 10, 3) := by decide +kernel
theorem dX9_plan_43 : decode cX9_plan 43 = .ok (.aload_n 0, 1) := by decide +kernel
theorem dX9_plan_44 : decode cX9_plan 44 = .ok (.getfield 340, 3) := by decide +kernel
theorem dX9_plan_47 : decode cX9_plan 47 = .ok (.goto 4, 3) := by decide +kernel
theorem dX9_plan_50 : decode cX9_plan 50 = .ok (.iconst (-1), 1) := by decide +kernel
theorem dX9_plan_51 : decode cX9_plan 51 = .ok (.ireturn, 1) := by decide +kernel
theorem dX9_planned_0 : decode cX9_planned 0 = .ok (.aload_n 0, 1) := by decide +kernel
theorem dX9_planned_1 : decode cX9_planned 1 = .ok (.iconst 0, 1) := by decide +kernel
theorem dX9_planned_2 : decode cX9_planned 2 = .ok (.putfield 1, 3) := by decide +kernel
theorem dX9_planned_5 : decode cX9_planned 5 = .ok (.aload_n 0, 1) := by decide +kernel
theorem dX9_planned_6 : decode cX9_planned 6 = .ok (.aload_n 0, 1) := by decide +kernel
theorem dX9_planned_7 : decode cX9_planned 7 = .ok (.getfield 312, 3) := by decide +kernel
theorem dX9_planned_10 : decode cX9_planned 10 = .ok (.iconst 1, 1) := by decide +kernel
theorem dX9_planned_11 : decode cX9_planned 11 = .ok (.iadd, 1) := by decide +kernel
theorem dX9_planned_12 : decode cX9_planned 12 = .ok (.invokevirtual 343, 3) := by decide +kernel
theorem dX9_planned_15 : decode cX9_planned 15 = .ok (.iconst (-1), 1) := by decide +kernel
theorem dX9_planned_16 : decode cX9_planned 16 = .ok (.istore_n 2, 1) := by decide +kernel
theorem dX9_planned_17 : decode cX9_planned 17 = .ok (.iconst 0, 1) := by decide +kernel
theorem dX9_planned_18 : decode cX9_planned 18 = .ok (.istore_n 3, 1) := by decide +kernel
theorem dX9_planned_19 : decode cX9_planned 19 = .ok (.iload_n 3, 1) := by decide +kernel
theorem dX9_planned_20 : decode cX9_planned 20 = .ok (.aload_n 0, 1) := by decide +kernel
theorem dX9_planned_21 : decode cX9_planned 21 = .ok (.getfield 322, 3) := by decide +kernel
theorem dX9_planned_24 : decode cX9_planned 24 = .ok (.if_icmp .ge 43, 3) := by decide +kernel
theorem dX9_planned_27 : decode cX9_planned 27 = .ok (.aload_n 0, 1) := by decide +kernel
theorem dX9_planned_28 : decode cX9_planned 28 = .ok (.getfield 154, 3) := by decide +kernel
theorem dX9_planned_31 : decode cX9_planned 31 = .ok (.iload_n 3, 1) := by decide +kernel
theorem dX9_planned_32 : decode cX9_planned 32 = .ok (.iaload, 1) := by decide +kernel
theorem dX9_planned_33 : decode cX9_planned 33 = .ok (.iload_n 1, 1) := by decide +kernel
theorem dX9_planned_34 : decode cX9_planned 34 = .ok (.if_icmp .ne 25, 3) := by decide +kernel
theorem dX9_planned_37 : decode cX9_planned 37 = .ok (.aload_n 0, 1) := by decide +kernel
theorem dX9_planned_38 : decode cX9_planned 38 = .ok (.getfield 163, 3) := by decide +kernel
theorem dX9_planned_41 : decode cX9_planned 41 = .ok (.iload_n 3, 1) := by decide +kernel
theorem dX9_planned_42 : decode cX9_planned 42 = .ok (.iaload, 1) := by decide +kernel
theorem dX9_planned_43 : decode cX9_planned 43 = .ok (.aload_n 0, 1) := by decide +kernel
theorem dX9_planned_44 : decode cX9_planned 44 = .ok (.getfield 294, 3) := by decide +kernel
theorem dX9_planned_47 : decode cX9_planned 47 = .ok (.if_icmp .ge 12, 3) := by decide +kernel
theorem dX9_planned_50 : decode cX9_planned 50 = .ok (.aload_n 0, 1) := by decide +kernel
theorem dX9_planned_51 : decode cX9_planned 51 = .ok (.getfield 163, 3) := by decide +kernel
theorem dX9_planned_54 : decode cX9_planned 54 = .ok (.iload_n 3, 1) := by decide +kernel
theorem dX9_planned_55 : decode cX9_planned 55 = .ok (.iaload, 1) := by decide +kernel
theorem dX9_planned_56 : decode cX9_planned 56 = .ok (.goto 4, 3) := by decide +kernel
theorem dX9_planned_59 : decode cX9_planned 59 = .ok (.iload_n 2, 1) := by decide +kernel
theorem dX9_planned_60 : decode cX9_planned 60 = .ok (.istore_n 2, 1) := by decide +kernel
theorem dX9_planned_61 : decode cX9_planned 61 = .ok (.iinc 3 1, 3) := by decide +kernel
theorem dX9_planned_64 : decode cX9_planned 64 = .ok (.goto (-45), 3) := by decide +kernel
theorem dX9_planned_67 : decode cX9_planned 67 = .ok (.iload_n 2, 1) := by decide +kernel
theorem dX9_planned_68 : decode cX9_planned 68 = .ok (.ireturn, 1) := by decide +kernel
theorem dX9_springsGrow_0 : decode cX9_springsGrow 0 = .ok (.iconst 0, 1) := by decide +kernel
theorem dX9_springsGrow_1 : decode cX9_springsGrow 1 = .ok (.istore_n 1, 1) := by decide +kernel
theorem dX9_springsGrow_2 : decode cX9_springsGrow 2 = .ok (.iload_n 1, 1) := by decide +kernel
theorem dX9_springsGrow_3 : decode cX9_springsGrow 3 = .ok (.aload_n 0, 1) := by decide +kernel
theorem dX9_springsGrow_4 : decode cX9_springsGrow 4 = .ok (.getfield 291, 3) := by decide +kernel
theorem dX9_springsGrow_7 : decode cX9_springsGrow 7 = .ok (.if_icmp .ge 70, 3) := by decide +kernel
theorem dX9_springsGrow_10 : decode cX9_springsGrow 10 = .ok (.aload_n 0, 1) := by decide +kernel
theorem dX9_springsGrow_11 : decode cX9_springsGrow 11 = .ok (.getfield 127, 3) := by decide +kernel
theorem dX9_springsGrow_14 : decode cX9_springsGrow 14 = .ok (.iload_n 1, 1) := by decide +kernel
theorem dX9_springsGrow_15 : decode cX9_springsGrow 15 = .ok (.aload_n 0, 1) := by decide +kernel
theorem dX9_springsGrow_16 : decode cX9_springsGrow 16 = .ok (.getfield 124, 3) := by decide +kernel
theorem dX9_springsGrow_19 : decode cX9_springsGrow 19 = .ok (.iload_n 1, 1) := by decide +kernel
theorem dX9_springsGrow_20 : decode cX9_springsGrow 20 = .ok (.iaload, 1) := by decide +kernel
theorem dX9_springsGrow_21 : decode cX9_springsGrow 21 = .ok (.aload_n 0, 1) := by decide +kernel
theorem dX9_springsGrow_22 : decode cX9_springsGrow 22 = .ok (.getfield 127, 3) := by decide +kernel
theorem dX9_springsGrow_25 : decode cX9_springsGrow 25 = .ok (.iload_n 1, 1) := by decide +kernel
theorem dX9_springsGrow_26 : decode cX9_springsGrow 26 = .ok (.iaload, 1) := by decide +kernel
theorem dX9_springsGrow_27 : decode cX9_springsGrow 27 = .ok (.aload_n 0, 1) := by decide +kernel
theorem dX9_springsGrow_28 : decode cX9_springsGrow 28 = .ok (.getfield 121, 3) := by decide +kernel
theorem dX9_springsGrow_31 : decode cX9_springsGrow 31 = .ok (.iload_n 1, 1) := by decide +kernel
theorem dX9_springsGrow_32 : decode cX9_springsGrow 32 = .ok (.iaload, 1) := by decide +kernel
theorem dX9_springsGrow_33 : decode cX9_springsGrow 33 = .ok (.iadd, 1) := by decide +kernel
theorem dX9_springsGrow_34 : decode cX9_springsGrow 34 = .ok (.invokestatic 325, 3) := by decide +kernel
theorem dX9_springsGrow_37 : decode cX9_springsGrow 37 = .ok (.iastore, 1) := by decide +kernel
theorem dX9_springsGrow_38 : decode cX9_springsGrow 38 = .ok (.aload_n 0, 1) := by decide +kernel
theorem dX9_springsGrow_39 : decode cX9_springsGrow 39 = .ok (.getfield 121, 3) := by decide +kernel
theorem dX9_springsGrow_42 : decode cX9_springsGrow 42 = .ok (.iload_n 1, 1) := by decide +kernel
theorem dX9_springsGrow_43 : decode cX9_springsGrow 43 = .ok (.dup2, 1) := by decide +kernel
theorem dX9_springsGrow_44 : decode cX9_springsGrow 44 = .ok (.iaload, 1) := by decide +kernel
theorem dX9_springsGrow_45 : decode cX9_springsGrow 45 = .ok (.aload_n 0, 1) := by decide +kernel
theorem dX9_springsGrow_46 : decode cX9_springsGrow 46 = .ok (.getfield 121, 3) := by decide +kernel
theorem dX9_springsGrow_49 : decode cX9_springsGrow 49 = .ok (.iload_n 1, 1) := by decide +kernel
theorem dX9_springsGrow_50 : decode cX9_springsGrow 50 = .ok (.iaload, 1) := by decide +kernel
theorem dX9_springsGrow_51 : decode cX9_springsGrow 51 = .ok (.i2l, 1) := by decide +kernel
theorem dX9_springsGrow_52 : decode cX9_springsGrow 52 = .ok (.aload_n 0, 1) := by decide +kernel
theorem dX9_springsGrow_53 : decode cX9_springsGrow 53 = .ok (.getfield 130, 3) := by decide +kernel
theorem dX9_springsGrow_56 : decode cX9_springsGrow 56 = .ok (.iload_n 1, 1) := by decide +kernel
theorem dX9_springsGrow_57 : decode cX9_springsGrow 57 = .ok (.iaload, 1) := by decide +kernel
theorem dX9_springsGrow_58 : decode cX9_springsGrow 58 = .ok (.i2l, 1) := by decide +kernel
theorem dX9_springsGrow_59 : decode cX9_springsGrow 59 = .ok (.lmul, 1) := by decide +kernel
theorem dX9_springsGrow_60 : decode cX9_springsGrow 60 = .ok (.ldc2_w 250, 3) := by decide +kernel
theorem dX9_springsGrow_63 : decode cX9_springsGrow 63 = .ok (.ladd, 1) := by decide +kernel
theorem dX9_springsGrow_64 : decode cX9_springsGrow 64 = .ok (.ldc2_w 303, 3) := by decide +kernel
theorem dX9_springsGrow_67 : decode cX9_springsGrow 67 = .ok (.ldiv, 1) := by decide +kernel
theorem dX9_springsGrow_68 : decode cX9_springsGrow 68 = .ok (.l2i, 1) := by decide +kernel
theorem dX9_springsGrow_69 : decode cX9_springsGrow 69 = .ok (.isub, 1) := by decide +kernel
theorem dX9_springsGrow_70 : decode cX9_springsGrow 70 = .ok (.iastore, 1) := by decide +kernel
theorem dX9_springsGrow_71 : decode cX9_springsGrow 71 = .ok (.iinc 1 1, 3) := by decide +kernel
theorem dX9_springsGrow_74 : decode cX9_springsGrow 74 = .ok (.goto (-72), 3) := by decide +kernel
theorem dX9_springsGrow_77 : decode cX9_springsGrow 77 = .ok (.iconst 0, 1) := by decide +kernel
theorem dX9_springsGrow_78 : decode cX9_springsGrow 78 = .ok (.istore_n 1, 1) := by decide +kernel
theorem dX9_springsGrow_79 : decode cX9_springsGrow 79 = .ok (.iload_n 1, 1) := by decide +kernel
theorem dX9_springsGrow_80 : decode cX9_springsGrow 80 = .ok (.aload_n 0, 1) := by decide +kernel
theorem dX9_springsGrow_81 : decode cX9_springsGrow 81 = .ok (.getfield 287, 3) := by decide +kernel
theorem dX9_springsGrow_84 : decode cX9_springsGrow 84 = .ok (.if_icmp .ge 37, 3) := by decide +kernel
theorem dX9_springsGrow_87 : decode cX9_springsGrow 87 = .ok (.aload_n 0, 1) := by decide +kernel
theorem dX9_springsGrow_88 : decode cX9_springsGrow 88 = .ok (.getfield 100, 3) := by decide +kernel
theorem dX9_springsGrow_91 : decode cX9_springsGrow 91 = .ok (.iload_n 1, 1) := by decide +kernel
theorem dX9_springsGrow_92 : decode cX9_springsGrow 92 = .ok (.aload_n 0, 1) := by decide +kernel
theorem dX9_springsGrow_93 : decode cX9_springsGrow 93 = .ok (.getfield 97, 3) := by decide +kernel
theorem dX9_springsGrow_96 : decode cX9_springsGrow 96 = .ok (.iload_n 1, 1) := by decide +kernel
theorem dX9_springsGrow_97 : decode cX9_springsGrow 97 = .ok (.iaload, 1) := by decide +kernel
theorem dX9_springsGrow_98 : decode cX9_springsGrow 98 = .ok (.aload_n 0, 1) := by decide +kernel
theorem dX9_springsGrow_99 : decode cX9_springsGrow 99 = .ok (.getfield 100, 3) := by decide +kernel
theorem dX9_springsGrow_102 : decode cX9_springsGrow 102 = .ok (.iload_n 1, 1) := by decide +kernel
theorem dX9_springsGrow_103 : decode cX9_springsGrow 103 = .ok (.iaload, 1) := by decide +kernel
theorem dX9_springsGrow_104 : decode cX9_springsGrow 104 = .ok (.aload_n 0, 1) := by decide +kernel
theorem dX9_springsGrow_105 : decode cX9_springsGrow 105 = .ok (.getfield 103, 3) := by decide +kernel
theorem dX9_springsGrow_108 : decode cX9_springsGrow 108 = .ok (.iload_n 1, 1) := by decide +kernel
theorem dX9_springsGrow_109 : decode cX9_springsGrow 109 = .ok (.iaload, 1) := by decide +kernel
theorem dX9_springsGrow_110 : decode cX9_springsGrow 110 = .ok (.iadd, 1) := by decide +kernel
theorem dX9_springsGrow_111 : decode cX9_springsGrow 111 = .ok (.invokestatic 325, 3) := by decide +kernel
theorem dX9_springsGrow_114 : decode cX9_springsGrow 114 = .ok (.iastore, 1) := by decide +kernel
theorem dX9_springsGrow_115 : decode cX9_springsGrow 115 = .ok (.iinc 1 1, 3) := by decide +kernel
theorem dX9_springsGrow_118 : decode cX9_springsGrow 118 = .ok (.goto (-39), 3) := by decide +kernel
theorem dX9_springsGrow_121 : decode cX9_springsGrow 121 = .ok (.return_, 1) := by decide +kernel
theorem dX9_brings_0 : decode cX9_brings 0 = .ok (.iconst 0, 1) := by decide +kernel
theorem dX9_brings_1 : decode cX9_brings 1 = .ok (.istore_n 1, 1) := by decide +kernel
theorem dX9_brings_2 : decode cX9_brings 2 = .ok (.iload_n 1, 1) := by decide +kernel
theorem dX9_brings_3 : decode cX9_brings 3 = .ok (.aload_n 0, 1) := by decide +kernel
theorem dX9_brings_4 : decode cX9_brings 4 = .ok (.getfield 294, 3) := by decide +kernel
theorem dX9_brings_7 : decode cX9_brings 7 = .ok (.if_icmp .ge 16, 3) := by decide +kernel
theorem dX9_brings_10 : decode cX9_brings 10 = .ok (.aload_n 0, 1) := by decide +kernel
theorem dX9_brings_11 : decode cX9_brings 11 = .ok (.getfield 142, 3) := by decide +kernel
end
section
theorem dX9_brings_14 : decode cX9_brings 14 = .ok (.iload_n 1, 1) := by decide +kernel
theorem dX9_brings_15 : decode cX9_brings 15 = .ok (.iconst 0, 1) := by decide +kernel
theorem dX9_brings_16 : decode cX9_brings 16 = .ok (.iastore, 1) := by decide +kernel
theorem dX9_brings_17 : decode cX9_brings 17 = .ok (.iinc 1 1, 3) := by decide +kernel
theorem dX9_brings_20 : decode cX9_brings 20 = .ok (.goto (-18), 3) := by decide +kernel
theorem dX9_brings_23 : decode cX9_brings 23 = .ok (.iconst 0, 1) := by decide +kernel
theorem dX9_brings_24 : decode cX9_brings 24 = .ok (.istore_n 1, 1) := by decide +kernel
theorem dX9_brings_25 : decode cX9_brings 25 = .ok (.iload_n 1, 1) := by decide +kernel
theorem dX9_brings_26 : decode cX9_brings 26 = .ok (.aload_n 0, 1) := by decide +kernel
theorem dX9_brings_27 : decode cX9_brings 27 = .ok (.getfield 322, 3) := by decide +kernel
theorem dX9_brings_30 : decode cX9_brings 30 = .ok (.if_icmp .ge 170, 3) := by decide +kernel
theorem dX9_brings_33 : decode cX9_brings 33 = .ok (.aload_n 0, 1) := by decide +kernel
theorem dX9_brings_34 : decode cX9_brings 34 = .ok (.getfield 163, 3) := by decide +kernel
theorem dX9_brings_37 : decode cX9_brings 37 = .ok (.iload_n 1, 1) := by decide +kernel
theorem dX9_brings_38 : decode cX9_brings 38 = .ok (.iaload, 1) := by decide +kernel
theorem dX9_brings_39 : decode cX9_brings 39 = .ok (.aload_n 0, 1) := by decide +kernel
theorem dX9_brings_40 : decode cX9_brings 40 = .ok (.getfield 294, 3) := by decide +kernel
theorem dX9_brings_43 : decode cX9_brings 43 = .ok (.if_icmp .ge 151, 3) := by decide +kernel
theorem dX9_brings_46 : decode cX9_brings 46 = .ok (.aload_n 0, 1) := by decide +kernel
theorem dX9_brings_47 : decode cX9_brings 47 = .ok (.getfield 163, 3) := by decide +kernel
theorem dX9_brings_50 : decode cX9_brings 50 = .ok (.iload_n 1, 1) := by decide +kernel
theorem dX9_brings_51 : decode cX9_brings 51 = .ok (.iaload, 1) := by decide +kernel
theorem dX9_brings_52 : decode cX9_brings 52 = .ok (.istore_n 2, 1) := by decide +kernel
theorem dX9_brings_53 : decode cX9_brings 53 = .ok (.aload_n 0, 1) := by decide +kernel
theorem dX9_brings_54 : decode cX9_brings 54 = .ok (.getfield 133, 3) := by decide +kernel
theorem dX9_brings_57 : decode cX9_brings 57 = .ok (.iload_n 2, 1) := by decide +kernel
theorem dX9_brings_58 : decode cX9_brings 58 = .ok (.iaload, 1) := by decide +kernel
theorem dX9_brings_59 : decode cX9_brings 59 = .ok (.istore_n 3, 1) := by decide +kernel
theorem dX9_brings_60 : decode cX9_brings 60 = .ok (.aload_n 0, 1) := by decide +kernel
theorem dX9_brings_61 : decode cX9_brings 61 = .ok (.getfield 154, 3) := by decide +kernel
theorem dX9_brings_64 : decode cX9_brings 64 = .ok (.iload_n 1, 1) := by decide +kernel
theorem dX9_brings_65 : decode cX9_brings 65 = .ok (.iaload, 1) := by decide +kernel
theorem dX9_brings_66 : decode cX9_brings 66 = .ok (.istore 4, 2) := by decide +kernel
theorem dX9_brings_68 : decode cX9_brings 68 = .ok (.aload_n 0, 1) := by decide +kernel
theorem dX9_brings_69 : decode cX9_brings 69 = .ok (.getfield 136, 3) := by decide +kernel
theorem dX9_brings_72 : decode cX9_brings 72 = .ok (.iload_n 2, 1) := by decide +kernel
theorem dX9_brings_73 : decode cX9_brings 73 = .ok (.iaload, 1) := by decide +kernel
theorem dX9_brings_74 : decode cX9_brings 74 = .ok (.aload_n 0, 1) := by decide +kernel
theorem dX9_brings_75 : decode cX9_brings 75 = .ok (.getfield 127, 3) := by decide +kernel
theorem dX9_brings_78 : decode cX9_brings 78 = .ok (.iload_n 3, 1) := by decide +kernel
theorem dX9_brings_79 : decode cX9_brings 79 = .ok (.iaload, 1) := by decide +kernel
theorem dX9_brings_80 : decode cX9_brings 80 = .ok (.aload_n 0, 1) := by decide +kernel
theorem dX9_brings_81 : decode cX9_brings 81 = .ok (.getfield 97, 3) := by decide +kernel
theorem dX9_brings_84 : decode cX9_brings 84 = .ok (.iload 4, 2) := by decide +kernel
theorem dX9_brings_86 : decode cX9_brings 86 = .ok (.iaload, 1) := by decide +kernel
theorem dX9_brings_87 : decode cX9_brings 87 = .ok (.aload_n 0, 1) := by decide +kernel
theorem dX9_brings_88 : decode cX9_brings 88 = .ok (.getfield 100, 3) := by decide +kernel
theorem dX9_brings_91 : decode cX9_brings 91 = .ok (.iload 4, 2) := by decide +kernel
theorem dX9_brings_93 : decode cX9_brings 93 = .ok (.iaload, 1) := by decide +kernel
theorem dX9_brings_94 : decode cX9_brings 94 = .ok (.isub, 1) := by decide +kernel
theorem dX9_brings_95 : decode cX9_brings 95 = .ok (.invokestatic 325, 3) := by decide +kernel
theorem dX9_brings_98 : decode cX9_brings 98 = .ok (.invokestatic 325, 3) := by decide +kernel
theorem dX9_brings_101 : decode cX9_brings 101 = .ok (.istore 5, 2) := by decide +kernel
theorem dX9_brings_103 : decode cX9_brings 103 = .ok (.aload_n 0, 1) := by decide +kernel
theorem dX9_brings_104 : decode cX9_brings 104 = .ok (.getfield 127, 3) := by decide +kernel
theorem dX9_brings_107 : decode cX9_brings 107 = .ok (.iload_n 3, 1) := by decide +kernel
theorem dX9_brings_108 : decode cX9_brings 108 = .ok (.dup2, 1) := by decide +kernel
theorem dX9_brings_109 : decode cX9_brings 109 = .ok (.iaload, 1) := by decide +kernel
theorem dX9_brings_110 : decode cX9_brings 110 = .ok (.iload 5, 2) := by decide +kernel
theorem dX9_brings_112 : decode cX9_brings 112 = .ok (.isub, 1) := by decide +kernel
theorem dX9_brings_113 : decode cX9_brings 113 = .ok (.iastore, 1) := by decide +kernel
theorem dX9_brings_114 : decode cX9_brings 114 = .ok (.aload_n 0, 1) := by decide +kernel
theorem dX9_brings_115 : decode cX9_brings 115 = .ok (.getfield 100, 3) := by decide +kernel
theorem dX9_brings_118 : decode cX9_brings 118 = .ok (.iload 4, 2) := by decide +kernel
theorem dX9_brings_120 : decode cX9_brings 120 = .ok (.dup2, 1) := by decide +kernel
theorem dX9_brings_121 : decode cX9_brings 121 = .ok (.iaload, 1) := by decide +kernel
theorem dX9_brings_122 : decode cX9_brings 122 = .ok (.iload 5, 2) := by decide +kernel
theorem dX9_brings_124 : decode cX9_brings 124 = .ok (.iadd, 1) := by decide +kernel
theorem dX9_brings_125 : decode cX9_brings 125 = .ok (.iastore, 1) := by decide +kernel
theorem dX9_brings_126 : decode cX9_brings 126 = .ok (.aload_n 0, 1) := by decide +kernel
theorem dX9_brings_127 : decode cX9_brings 127 = .ok (.getfield 148, 3) := by decide +kernel
theorem dX9_brings_130 : decode cX9_brings 130 = .ok (.iload_n 2, 1) := by decide +kernel
theorem dX9_brings_131 : decode cX9_brings 131 = .ok (.dup2, 1) := by decide +kernel
theorem dX9_brings_132 : decode cX9_brings 132 = .ok (.iaload, 1) := by decide +kernel
theorem dX9_brings_133 : decode cX9_brings 133 = .ok (.iload 5, 2) := by decide +kernel
theorem dX9_brings_135 : decode cX9_brings 135 = .ok (.iadd, 1) := by decide +kernel
theorem dX9_brings_136 : decode cX9_brings 136 = .ok (.iastore, 1) := by decide +kernel
theorem dX9_brings_137 : decode cX9_brings 137 = .ok (.aload_n 0, 1) := by decide +kernel
theorem dX9_brings_138 : decode cX9_brings 138 = .ok (.getfield 142, 3) := by decide +kernel
theorem dX9_brings_141 : decode cX9_brings 141 = .ok (.iload_n 2, 1) := by decide +kernel
theorem dX9_brings_142 : decode cX9_brings 142 = .ok (.dup2, 1) := by decide +kernel
theorem dX9_brings_143 : decode cX9_brings 143 = .ok (.iaload, 1) := by decide +kernel
theorem dX9_brings_144 : decode cX9_brings 144 = .ok (.iconst 2, 1) := by decide +kernel
theorem dX9_brings_145 : decode cX9_brings 145 = .ok (.aload_n 0, 1) := by decide +kernel
theorem dX9_brings_146 : decode cX9_brings 146 = .ok (.getfield 151, 3) := by decide +kernel
theorem dX9_brings_149 : decode cX9_brings 149 = .ok (.bipush 12, 2) := by decide +kernel
theorem dX9_brings_151 : decode cX9_brings 151 = .ok (.iload_n 3, 1) := by decide +kernel
theorem dX9_brings_152 : decode cX9_brings 152 = .ok (.imul, 1) := by decide +kernel
theorem dX9_brings_153 : decode cX9_brings 153 = .ok (.iload 4, 2) := by decide +kernel
theorem dX9_brings_155 : decode cX9_brings 155 = .ok (.iadd, 1) := by decide +kernel
theorem dX9_brings_156 : decode cX9_brings 156 = .ok (.iaload, 1) := by decide +kernel
theorem dX9_brings_157 : decode cX9_brings 157 = .ok (.imul, 1) := by decide +kernel
theorem dX9_brings_158 : decode cX9_brings 158 = .ok (.iadd, 1) := by decide +kernel
theorem dX9_brings_159 : decode cX9_brings 159 = .ok (.iastore, 1) := by decide +kernel
theorem dX9_brings_160 : decode cX9_brings 160 = .ok (.aload_n 0, 1) := by decide +kernel
theorem dX9_brings_161 : decode cX9_brings 161 = .ok (.getfield 145, 3) := by decide +kernel
theorem dX9_brings_164 : decode cX9_brings 164 = .ok (.iload_n 2, 1) := by decide +kernel
theorem dX9_brings_165 : decode cX9_brings 165 = .ok (.dup2, 1) := by decide +kernel
theorem dX9_brings_166 : decode cX9_brings 166 = .ok (.iaload, 1) := by decide +kernel
theorem dX9_brings_167 : decode cX9_brings 167 = .ok (.iconst 2, 1) := by decide +kernel
theorem dX9_brings_168 : decode cX9_brings 168 = .ok (.aload_n 0, 1) := by decide +kernel
theorem dX9_brings_169 : decode cX9_brings 169 = .ok (.getfield 151, 3) := by decide +kernel
theorem dX9_brings_172 : decode cX9_brings 172 = .ok (.bipush 12, 2) := by decide +kernel
theorem dX9_brings_174 : decode cX9_brings 174 = .ok (.iload_n 3, 1) := by decide +kernel
theorem dX9_brings_175 : decode cX9_brings 175 = .ok (.imul, 1) := by decide +kernel
theorem dX9_brings_176 : decode cX9_brings 176 = .ok (.iload 4, 2) := by decide +kernel
theorem dX9_brings_178 : decode cX9_brings 178 = .ok (.iadd, 1) := by decide +kernel
theorem dX9_brings_179 : decode cX9_brings 179 = .ok (.iaload, 1) := by decide +kernel
theorem dX9_brings_180 : decode cX9_brings 180 = .ok (.imul, 1) := by decide +kernel
theorem dX9_brings_181 : decode cX9_brings 181 = .ok (.iadd, 1) := by decide +kernel
theorem dX9_brings_182 : decode cX9_brings 182 = .ok (.iastore, 1) := by decide +kernel
theorem dX9_brings_183 : decode cX9_brings 183 = .ok (.aload_n 0, 1) := by decide +kernel
theorem dX9_brings_184 : decode cX9_brings 184 = .ok (.getfield 112, 3) := by decide +kernel
theorem dX9_brings_187 : decode cX9_brings 187 = .ok (.iload 4, 2) := by decide +kernel
theorem dX9_brings_189 : decode cX9_brings 189 = .ok (.dup2, 1) := by decide +kernel
theorem dX9_brings_190 : decode cX9_brings 190 = .ok (.iaload, 1) := by decide +kernel
theorem dX9_brings_191 : decode cX9_brings 191 = .ok (.iconst 1, 1) := by decide +kernel
theorem dX9_brings_192 : decode cX9_brings 192 = .ok (.iadd, 1) := by decide +kernel
theorem dX9_brings_193 : decode cX9_brings 193 = .ok (.iastore, 1) := by decide +kernel
theorem dX9_brings_194 : decode cX9_brings 194 = .ok (.iinc 1 1, 3) := by decide +kernel
theorem dX9_brings_197 : decode cX9_brings 197 = .ok (.goto (-172), 3) := by decide +kernel
theorem dX9_brings_200 : decode cX9_brings 200 = .ok (.return_, 1) := by decide +kernel
theorem dX9_gives_0 : decode cX9_gives 0 = .ok (.iconst 0, 1) := by decide +kernel
theorem dX9_gives_1 : decode cX9_gives 1 = .ok (.istore_n 2, 1) := by decide +kernel
theorem dX9_gives_2 : decode cX9_gives 2 = .ok (.iconst 0, 1) := by decide +kernel
theorem dX9_gives_3 : decode cX9_gives 3 = .ok (.istore_n 3, 1) := by decide +kernel
theorem dX9_gives_4 : decode cX9_gives 4 = .ok (.iload_n 3, 1) := by decide +kernel
theorem dX9_gives_5 : decode cX9_gives 5 = .ok (.aload_n 0, 1) := by decide +kernel
theorem dX9_gives_6 : decode cX9_gives 6 = .ok (.getfield 287, 3) := by decide +kernel
theorem dX9_gives_9 : decode cX9_gives 9 = .ok (.if_icmp .ge 155, 3) := by decide +kernel
theorem dX9_gives_12 : decode cX9_gives 12 = .ok (.aload_n 0, 1) := by decide +kernel
theorem dX9_gives_13 : decode cX9_gives 13 = .ok (.iload_n 3, 1) := by decide +kernel
theorem dX9_gives_14 : decode cX9_gives 14 = .ok (.iload_n 1, 1) := by decide +kernel
theorem dX9_gives_15 : decode cX9_gives 15 = .ok (.invokevirtual 315, 3) := by decide +kernel
theorem dX9_gives_18 : decode cX9_gives 18 = .ok (.istore 4, 2) := by decide +kernel
theorem dX9_gives_20 : decode cX9_gives 20 = .ok (.aload_n 0, 1) := by decide +kernel
theorem dX9_gives_21 : decode cX9_gives 21 = .ok (.getfield 118, 3) := by decide +kernel
theorem dX9_gives_24 : decode cX9_gives 24 = .ok (.iload_n 3, 1) := by decide +kernel
theorem dX9_gives_25 : decode cX9_gives 25 = .ok (.aload_n 0, 1) := by decide +kernel
theorem dX9_gives_26 : decode cX9_gives 26 = .ok (.getfield 100, 3) := by decide +kernel
theorem dX9_gives_29 : decode cX9_gives 29 = .ok (.iload_n 3, 1) := by decide +kernel
theorem dX9_gives_30 : decode cX9_gives 30 = .ok (.iaload, 1) := by decide +kernel
theorem dX9_gives_31 : decode cX9_gives 31 = .ok (.iload 4, 2) := by decide +kernel
theorem dX9_gives_33 : decode cX9_gives 33 = .ok (.if_icmp .ge 7, 3) := by decide +kernel
theorem dX9_gives_36 : decode cX9_gives 36 = .ok (.iconst 1, 1) := by decide +kernel
theorem dX9_gives_37 : decode cX9_gives 37 = .ok (.goto 4, 3) := by decide +kernel
theorem dX9_gives_40 : decode cX9_gives 40 = .ok (.iconst 0, 1) := by decide +kernel
theorem dX9_gives_41 : decode cX9_gives 41 = .ok (.bastore, 1) := by decide +kernel
theorem dX9_gives_42 : decode cX9_gives 42 = .ok (.iload 4, 2) := by decide +kernel
theorem dX9_gives_44 : decode cX9_gives 44 = .ok (.aload_n 0, 1) := by decide +kernel
theorem dX9_gives_45 : decode cX9_gives 45 = .ok (.getfield 100, 3) := by decide +kernel
theorem dX9_gives_48 : decode cX9_gives 48 = .ok (.iload_n 3, 1) := by decide +kernel
theorem dX9_gives_49 : decode cX9_gives 49 = .ok (.iaload, 1) := by decide +kernel
theorem dX9_gives_50 : decode cX9_gives 50 = .ok (.invokestatic 325, 3) := by decide +kernel
theorem dX9_gives_53 : decode cX9_gives 53 = .ok (.istore 5, 2) := by decide +kernel
theorem dX9_gives_55 : decode cX9_gives 55 = .ok (.aload_n 0, 1) := by decide +kernel
theorem dX9_gives_56 : decode cX9_gives 56 = .ok (.getfield 100, 3) := by decide +kernel
theorem dX9_gives_59 : decode cX9_gives 59 = .ok (.iload_n 3, 1) := by decide +kernel
theorem dX9_gives_60 : decode cX9_gives 60 = .ok (.dup2, 1) := by decide +kernel
theorem dX9_gives_61 : decode cX9_gives 61 = .ok (.iaload, 1) := by decide +kernel
theorem dX9_gives_62 : decode cX9_gives 62 = .ok (.iload 5, 2) := by decide +kernel
theorem dX9_gives_64 : decode cX9_gives 64 = .ok (.isub, 1) := by decide +kernel
theorem dX9_gives_65 : decode cX9_gives 65 = .ok (.iastore, 1) := by decide +kernel
theorem dX9_gives_66 : decode cX9_gives 66 = .ok (.aload_n 0, 1) := by decide +kernel
theorem dX9_gives_67 : decode cX9_gives 67 = .ok (.getfield 115, 3) := by decide +kernel
theorem dX9_gives_70 : decode cX9_gives 70 = .ok (.sipush 400, 3) := by decide +kernel
theorem dX9_gives_73 : decode cX9_gives 73 = .ok (.iload_n 3, 1) := by decide +kernel
theorem dX9_gives_74 : decode cX9_gives 74 = .ok (.imul, 1) := by decide +kernel
theorem dX9_gives_75 : decode cX9_gives 75 = .ok (.iload_n 1, 1) := by decide +kernel
theorem dX9_gives_76 : decode cX9_gives 76 = .ok (.iadd, 1) := by decide +kernel
theorem dX9_gives_77 : decode cX9_gives 77 = .ok (.iload 5, 2) := by decide +kernel
theorem dX9_gives_79 : decode cX9_gives 79 = .ok (.iastore, 1) := by decide +kernel
theorem dX9_gives_80 : decode cX9_gives 80 = .ok (.aload_n 0, 1) := by decide +kernel
theorem dX9_gives_81 : decode cX9_gives 81 = .ok (.dup, 1) := by decide +kernel
theorem dX9_gives_82 : decode cX9_gives 82 = .ok (.getfield 346, 3) := by decide +kernel
theorem dX9_gives_85 : decode cX9_gives 85 = .ok (.iload 5, 2) := by decide +kernel
theorem dX9_gives_87 : decode cX9_gives 87 = .ok (.iadd, 1) := by decide +kernel
theorem dX9_gives_88 : decode cX9_gives 88 = .ok (.putfield 346, 3) := by decide +kernel
theorem dX9_gives_91 : decode cX9_gives 91 = .ok (.aload_n 0, 1) := by decide +kernel
theorem dX9_gives_92 : decode cX9_gives 92 = .ok (.getfield 106, 3) := by decide +kernel
theorem dX9_gives_95 : decode cX9_gives 95 = .ok (.iload_n 3, 1) := by decide +kernel
theorem dX9_gives_96 : decode cX9_gives 96 = .ok (.aload_n 0, 1) := by decide +kernel
theorem dX9_gives_97 : decode cX9_gives 97 = .ok (.getfield 118, 3) := by decide +kernel
theorem dX9_gives_100 : decode cX9_gives 100 = .ok (.iload_n 3, 1) := by decide +kernel
theorem dX9_gives_101 : decode cX9_gives 101 = .ok (.baload, 1) := by decide +kernel
theorem dX9_gives_102 : decode cX9_gives 102 = .ok (.ifCond .eq 14, 3) := by decide +kernel
theorem dX9_gives_105 : decode cX9_gives 105 = .ok (.aload_n 0, 1) := by decide +kernel
theorem dX9_gives_106 : decode cX9_gives 106 = .ok (.getfield 106, 3) := by decide +kernel
theorem dX9_gives_109 : decode cX9_gives 109 = .ok (.iload_n 3, 1) := by decide +kernel
theorem dX9_gives_110 : decode cX9_gives 110 = .ok (.iaload, 1) := by decide +kernel
theorem dX9_gives_111 : decode cX9_gives 111 = .ok (.iconst 1, 1) := by decide +kernel
theorem dX9_gives_112 : decode cX9_gives 112 = .ok (.iadd, 1) := by decide +kernel
theorem dX9_gives_113 : decode cX9_gives 113 = .ok (.goto 4, 3) := by decide +kernel
theorem dX9_gives_116 : decode cX9_gives 116 = .ok (.iconst 0, 1) := by decide +kernel
theorem dX9_gives_117 : decode cX9_gives 117 = .ok (.iastore, 1) := by decide +kernel
theorem dX9_gives_118 : decode cX9_gives 118 = .ok (.aload_n 0, 1) := by decide +kernel
theorem dX9_gives_119 : decode cX9_gives 119 = .ok (.getfield 109, 3) := by decide +kernel
theorem dX9_gives_122 : decode cX9_gives 122 = .ok (.iload_n 3, 1) := by decide +kernel
theorem dX9_gives_123 : decode cX9_gives 123 = .ok (.dup2, 1) := by decide +kernel
theorem dX9_gives_124 : decode cX9_gives 124 = .ok (.iaload, 1) := by decide +kernel
theorem dX9_gives_125 : decode cX9_gives 125 = .ok (.aload_n 0, 1) := by decide +kernel
theorem dX9_gives_126 : decode cX9_gives 126 = .ok (.getfield 118, 3) := by decide +kernel
theorem dX9_gives_129 : decode cX9_gives 129 = .ok (.iload_n 3, 1) := by decide +kernel
theorem dX9_gives_130 : decode cX9_gives 130 = .ok (.baload, 1) := by decide +kernel
theorem dX9_gives_131 : decode cX9_gives 131 = .ok (.ifCond .eq 7, 3) := by decide +kernel
theorem dX9_gives_134 : decode cX9_gives 134 = .ok (.iconst 1, 1) := by decide +kernel
theorem dX9_gives_135 : decode cX9_gives 135 = .ok (.goto 4, 3) := by decide +kernel
theorem dX9_gives_138 : decode cX9_gives 138 = .ok (.iconst 0, 1) := by decide +kernel
theorem dX9_gives_139 : decode cX9_gives 139 = .ok (.iadd, 1) := by decide +kernel
theorem dX9_gives_140 : decode cX9_gives 140 = .ok (.iastore, 1) := by decide +kernel
theorem dX9_gives_141 : decode cX9_gives 141 = .ok (.iload_n 2, 1) := by decide +kernel
theorem dX9_gives_142 : decode cX9_gives 142 = .ok (.aload_n 0, 1) := by decide +kernel
theorem dX9_gives_143 : decode cX9_gives 143 = .ok (.getfield 118, 3) := by decide +kernel
theorem dX9_gives_146 : decode cX9_gives 146 = .ok (.iload_n 3, 1) := by decide +kernel
theorem dX9_gives_147 : decode cX9_gives 147 = .ok (.baload, 1) := by decide +kernel
theorem dX9_gives_148 : decode cX9_gives 148 = .ok (.ifCond .eq 7, 3) := by decide +kernel
theorem dX9_gives_151 : decode cX9_gives 151 = .ok (.iconst 1, 1) := by decide +kernel
theorem dX9_gives_152 : decode cX9_gives 152 = .ok (.goto 4, 3) := by decide +kernel
theorem dX9_gives_155 : decode cX9_gives 155 = .ok (.iconst 0, 1) := by decide +kernel
theorem dX9_gives_156 : decode cX9_gives 156 = .ok (.iadd, 1) := by decide +kernel
theorem dX9_gives_157 : decode cX9_gives 157 = .ok (.istore_n 2, 1) := by decide +kernel
theorem dX9_gives_158 : decode cX9_gives 158 = .ok (.iinc 3 1, 3) := by decide +kernel
theorem dX9_gives_161 : decode cX9_gives 161 = .ok (.goto (-157), 3) := by decide +kernel
theorem dX9_gives_164 : decode cX9_gives 164 = .ok (.aload_n 0, 1) := by decide +kernel
theorem dX9_gives_165 : decode cX9_gives 165 = .ok (.iload_n 2, 1) := by decide +kernel
theorem dX9_gives_166 : decode cX9_gives 166 = .ok (.putfield 305, 3) := by decide +kernel
theorem dX9_gives_169 : decode cX9_gives 169 = .ok (.return_, 1) := by decide +kernel
theorem dX9_days_0 : decode cX9_days 0 = .ok (.aload_n 0, 1) := by decide +kernel
theorem dX9_days_1 : decode cX9_days 1 = .ok (.iconst 0, 1) := by decide +kernel
theorem dX9_days_2 : decode cX9_days 2 = .ok (.putfield 1, 3) := by decide +kernel
theorem dX9_days_5 : decode cX9_days 5 = .ok (.iload_n 1, 1) := by decide +kernel
theorem dX9_days_6 : decode cX9_days 6 = .ok (.ifCond .lt 21, 3) := by decide +kernel
theorem dX9_days_9 : decode cX9_days 9 = .ok (.iload_n 1, 1) := by decide +kernel
theorem dX9_days_10 : decode cX9_days 10 = .ok (.bipush 30, 2) := by decide +kernel
theorem dX9_days_12 : decode cX9_days 12 = .ok (.if_icmp .gt 15, 3) := by decide +kernel
theorem dX9_days_15 : decode cX9_days 15 = .ok (.aload_n 0, 1) := by decide +kernel
theorem dX9_days_16 : decode cX9_days 16 = .ok (.getfield 312, 3) := by decide +kernel
theorem dX9_days_19 : decode cX9_days 19 = .ok (.iload_n 1, 1) := by decide +kernel
theorem dX9_days_20 : decode cX9_days 20 = .ok (.iadd, 1) := by decide +kernel
theorem dX9_days_21 : decode cX9_days 21 = .ok (.sipush 400, 3) := by decide +kernel
theorem dX9_days_24 : decode cX9_days 24 = .ok (.if_icmp .lt 5, 3) := by decide +kernel
theorem dX9_days_27 : decode cX9_days 27 = .ok (.iconst (-1), 1) := by decide +kernel
theorem dX9_days_28 : decode cX9_days 28 = .ok (.ireturn, 1) := by decide +kernel
theorem dX9_days_29 : decode cX9_days 29 = .ok (.iconst 0, 1) := by decide +kernel
theorem dX9_days_30 : decode cX9_days 30 = .ok (.istore_n 2, 1) := by decide +kernel
theorem dX9_days_31 : decode cX9_days 31 = .ok (.iload_n 2, 1) := by decide +kernel
theorem dX9_days_32 : decode cX9_days 32 = .ok (.iload_n 1, 1) := by decide +kernel
theorem dX9_days_33 : decode cX9_days 33 = .ok (.if_icmp .ge 47, 3) := by decide +kernel
theorem dX9_days_36 : decode cX9_days 36 = .ok (.aload_n 0, 1) := by decide +kernel
theorem dX9_days_37 : decode cX9_days 37 = .ok (.invokevirtual 349, 3) := by decide +kernel
theorem dX9_days_40 : decode cX9_days 40 = .ok (.aload_n 0, 1) := by decide +kernel
theorem dX9_days_41 : decode cX9_days 41 = .ok (.aload_n 0, 1) := by decide +kernel
theorem dX9_days_42 : decode cX9_days 42 = .ok (.getfield 312, 3) := by decide +kernel
theorem dX9_days_45 : decode cX9_days 45 = .ok (.iconst 1, 1) := by decide +kernel
theorem dX9_days_46 : decode cX9_days 46 = .ok (.iadd, 1) := by decide +kernel
theorem dX9_days_47 : decode cX9_days 47 = .ok (.invokevirtual 343, 3) := by decide +kernel
theorem dX9_days_50 : decode cX9_days 50 = .ok (.aload_n 0, 1) := by decide +kernel
theorem dX9_days_51 : decode cX9_days 51 = .ok (.invokevirtual 352, 3) := by decide +kernel
theorem dX9_days_54 : decode cX9_days 54 = .ok (.aload_n 0, 1) := by decide +kernel
theorem dX9_days_55 : decode cX9_days 55 = .ok (.aload_n 0, 1) := by decide +kernel
theorem dX9_days_56 : decode cX9_days 56 = .ok (.getfield 312, 3) := by decide +kernel
theorem dX9_days_59 : decode cX9_days 59 = .ok (.iconst 1, 1) := by decide +kernel
theorem dX9_days_60 : decode cX9_days 60 = .ok (.iadd, 1) := by decide +kernel
theorem dX9_days_61 : decode cX9_days 61 = .ok (.invokevirtual 355, 3) := by decide +kernel
theorem dX9_days_64 : decode cX9_days 64 = .ok (.aload_n 0, 1) := by decide +kernel
theorem dX9_days_65 : decode cX9_days 65 = .ok (.dup, 1) := by decide +kernel
theorem dX9_days_66 : decode cX9_days 66 = .ok (.getfield 312, 3) := by decide +kernel
theorem dX9_days_69 : decode cX9_days 69 = .ok (.iconst 1, 1) := by decide +kernel
theorem dX9_days_70 : decode cX9_days 70 = .ok (.iadd, 1) := by decide +kernel
theorem dX9_days_71 : decode cX9_days 71 = .ok (.putfield 312, 3) := by decide +kernel
theorem dX9_days_74 : decode cX9_days 74 = .ok (.iinc 2 1, 3) := by decide +kernel
theorem dX9_days_77 : decode cX9_days 77 = .ok (.goto (-46), 3) := by decide +kernel
theorem dX9_days_80 : decode cX9_days 80 = .ok (.aload_n 0, 1) := by decide +kernel
theorem dX9_days_81 : decode cX9_days 81 = .ok (.getfield 312, 3) := by decide +kernel
theorem dX9_days_84 : decode cX9_days 84 = .ok (.ireturn, 1) := by decide +kernel
theorem dX9_foretold_0 : decode cX9_foretold 0 = .ok (.aload_n 0, 1) := by decide +kernel
theorem dX9_foretold_1 : decode cX9_foretold 1 = .ok (.iconst 0, 1) := by decide +kernel
theorem dX9_foretold_2 : decode cX9_foretold 2 = .ok (.putfield 1, 3) := by decide +kernel
theorem dX9_foretold_5 : decode cX9_foretold 5 = .ok (.aload_n 0, 1) := by decide +kernel
theorem dX9_foretold_6 : decode cX9_foretold 6 = .ok (.iload_n 1, 1) := by decide +kernel
theorem dX9_foretold_7 : decode cX9_foretold 7 = .ok (.invokevirtual 297, 3) := by decide +kernel
theorem dX9_foretold_10 : decode cX9_foretold 10 = .ok (.ifCond .ne 5, 3) := by decide +kernel
theorem dX9_foretold_13 : decode cX9_foretold 13 = .ok (.iconst (-1), 1) := by decide +kernel
theorem dX9_foretold_14 : decode cX9_foretold 14 = .ok (.ireturn, 1) := by decide +kernel
theorem dX9_foretold_15 : decode cX9_foretold 15 = .ok (.aload_n 0, 1) := by decide +kernel
theorem dX9_foretold_16 : decode cX9_foretold 16 = .ok (.iload_n 1, 1) := by decide +kernel
theorem dX9_foretold_17 : decode cX9_foretold 17 = .ok (.aload_n 0, 1) := by decide +kernel
theorem dX9_foretold_18 : decode cX9_foretold 18 = .ok (.getfield 312, 3) := by decide +kernel
theorem dX9_foretold_21 : decode cX9_foretold 21 = .ok (.iconst 1, 1) := by decide +kernel
theorem dX9_foretold_22 : decode cX9_foretold 22 = .ok (.iadd, 1) := by decide +kernel
theorem dX9_foretold_23 : decode cX9_foretold 23 = .ok (.invokevirtual 315, 3) := by decide +kernel
theorem dX9_foretold_26 : decode cX9_foretold 26 = .ok (.istore_n 2, 1) := by decide +kernel
theorem dX9_foretold_27 : decode cX9_foretold 27 = .ok (.aload_n 0, 1) := by decide +kernel
theorem dX9_foretold_28 : decode cX9_foretold 28 = .ok (.getfield 100, 3) := by decide +kernel
theorem dX9_foretold_31 : decode cX9_foretold 31 = .ok (.iload_n 1, 1) := by decide +kernel
theorem dX9_foretold_32 : decode cX9_foretold 32 = .ok (.iaload, 1) := by decide +kernel
theorem dX9_foretold_33 : decode cX9_foretold 33 = .ok (.istore_n 3, 1) := by decide +kernel
theorem dX9_foretold_34 : decode cX9_foretold 34 = .ok (.aload_n 0, 1) := by decide +kernel
theorem dX9_foretold_35 : decode cX9_foretold 35 = .ok (.getfield 312, 3) := by decide +kernel
theorem dX9_foretold_38 : decode cX9_foretold 38 = .ok (.iconst 1, 1) := by decide +kernel
theorem dX9_foretold_39 : decode cX9_foretold 39 = .ok (.iadd, 1) := by decide +kernel
theorem dX9_foretold_40 : decode cX9_foretold 40 = .ok (.istore 4, 2) := by decide +kernel
theorem dX9_foretold_42 : decode cX9_foretold 42 = .ok (.iload 4, 2) := by decide +kernel
theorem dX9_foretold_44 : decode cX9_foretold 44 = .ok (.aload_n 0, 1) := by decide +kernel
theorem dX9_foretold_45 : decode cX9_foretold 45 = .ok (.getfield 312, 3) := by decide +kernel
theorem dX9_foretold_48 : decode cX9_foretold 48 = .ok (.bipush 60, 2) := by decide +kernel
theorem dX9_foretold_50 : decode cX9_foretold 50 = .ok (.iadd, 1) := by decide +kernel
theorem dX9_foretold_51 : decode cX9_foretold 51 = .ok (.if_icmp .gt 39, 3) := by decide +kernel
theorem dX9_foretold_54 : decode cX9_foretold 54 = .ok (.aload_n 0, 1) := by decide +kernel
theorem dX9_foretold_55 : decode cX9_foretold 55 = .ok (.getfield 97, 3) := by decide +kernel
theorem dX9_foretold_58 : decode cX9_foretold 58 = .ok (.iload_n 1, 1) := by decide +kernel
theorem dX9_foretold_59 : decode cX9_foretold 59 = .ok (.iaload, 1) := by decide +kernel
theorem dX9_foretold_60 : decode cX9_foretold 60 = .ok (.iload_n 3, 1) := by decide +kernel
theorem dX9_foretold_61 : decode cX9_foretold 61 = .ok (.aload_n 0, 1) := by decide +kernel
theorem dX9_foretold_62 : decode cX9_foretold 62 = .ok (.getfield 103, 3) := by decide +kernel
theorem dX9_foretold_65 : decode cX9_foretold 65 = .ok (.iload_n 1, 1) := by decide +kernel
theorem dX9_foretold_66 : decode cX9_foretold 66 = .ok (.iaload, 1) := by decide +kernel
theorem dX9_foretold_67 : decode cX9_foretold 67 = .ok (.iadd, 1) := by decide +kernel
theorem dX9_foretold_68 : decode cX9_foretold 68 = .ok (.invokestatic 325, 3) := by decide +kernel
theorem dX9_foretold_71 : decode cX9_foretold 71 = .ok (.istore_n 3, 1) := by decide +kernel
theorem dX9_foretold_72 : decode cX9_foretold 72 = .ok (.iload_n 3, 1) := by decide +kernel
theorem dX9_foretold_73 : decode cX9_foretold 73 = .ok (.iload_n 2, 1) := by decide +kernel
theorem dX9_foretold_74 : decode cX9_foretold 74 = .ok (.if_icmp .ge 6, 3) := by decide +kernel
theorem dX9_foretold_77 : decode cX9_foretold 77 = .ok (.iload 4, 2) := by decide +kernel
theorem dX9_foretold_79 : decode cX9_foretold 79 = .ok (.ireturn, 1) := by decide +kernel
theorem dX9_foretold_80 : decode cX9_foretold 80 = .ok (.iload_n 3, 1) := by decide +kernel
theorem dX9_foretold_81 : decode cX9_foretold 81 = .ok (.iload_n 2, 1) := by decide +kernel
theorem dX9_foretold_82 : decode cX9_foretold 82 = .ok (.isub, 1) := by decide +kernel
theorem dX9_foretold_83 : decode cX9_foretold 83 = .ok (.istore_n 3, 1) := by decide +kernel
theorem dX9_foretold_84 : decode cX9_foretold 84 = .ok (.iinc 4 1, 3) := by decide +kernel
theorem dX9_foretold_87 : decode cX9_foretold 87 = .ok (.goto (-45), 3) := by decide +kernel
theorem dX9_foretold_90 : decode cX9_foretold 90 = .ok (.iconst (-1), 1) := by decide +kernel
theorem dX9_foretold_91 : decode cX9_foretold 91 = .ok (.ireturn, 1) := by decide +kernel
theorem dX9_bore_0 : decode cX9_bore 0 = .ok (.aload_n 0, 1) := by decide +kernel
theorem dX9_bore_1 : decode cX9_bore 1 = .ok (.iconst 0, 1) := by decide +kernel
theorem dX9_bore_2 : decode cX9_bore 2 = .ok (.putfield 1, 3) := by decide +kernel
theorem dX9_bore_5 : decode cX9_bore 5 = .ok (.aload_n 0, 1) := by decide +kernel
theorem dX9_bore_6 : decode cX9_bore 6 = .ok (.iload_n 1, 1) := by decide +kernel
theorem dX9_bore_7 : decode cX9_bore 7 = .ok (.invokevirtual 297, 3) := by decide +kernel
theorem dX9_bore_10 : decode cX9_bore 10 = .ok (.ifCond .eq 34, 3) := by decide +kernel
theorem dX9_bore_13 : decode cX9_bore 13 = .ok (.iload_n 2, 1) := by decide +kernel
theorem dX9_bore_14 : decode cX9_bore 14 = .ok (.iconst 1, 1) := by decide +kernel
theorem dX9_bore_15 : decode cX9_bore 15 = .ok (.sipush 1000, 3) := by decide +kernel
theorem dX9_bore_18 : decode cX9_bore 18 = .ok (.invokestatic 282, 3) := by decide +kernel
theorem dX9_bore_21 : decode cX9_bore 21 = .ok (.ifCond .eq 23, 3) := by decide +kernel
theorem dX9_bore_24 : decode cX9_bore 24 = .ok (.iload_n 3, 1) := by decide +kernel
theorem dX9_bore_25 : decode cX9_bore 25 = .ok (.iconst 1, 1) := by decide +kernel
theorem dX9_bore_26 : decode cX9_bore 26 = .ok (.sipush 1000, 3) := by decide +kernel
theorem dX9_bore_29 : decode cX9_bore 29 = .ok (.invokestatic 282, 3) := by decide +kernel
theorem dX9_bore_32 : decode cX9_bore 32 = .ok (.ifCond .eq 12, 3) := by decide +kernel
theorem dX9_bore_35 : decode cX9_bore 35 = .ok (.aload_n 0, 1) := by decide +kernel
theorem dX9_bore_36 : decode cX9_bore 36 = .ok (.getfield 358, 3) := by decide +kernel
theorem dX9_bore_39 : decode cX9_bore 39 = .ok (.bipush 10, 2) := by decide +kernel
theorem dX9_bore_41 : decode cX9_bore 41 = .ok (.if_icmp .ne 5, 3) := by decide +kernel
theorem dX9_bore_44 : decode cX9_bore 44 = .ok (.iconst (-1), 1) := by decide +kernel
theorem dX9_bore_45 : decode cX9_bore 45 = .ok (.ireturn, 1) := by decide +kernel
theorem dX9_bore_46 : decode cX9_bore 46 = .ok (.aload_n 0, 1) := by decide +kernel
theorem dX9_bore_47 : decode cX9_bore 47 = .ok (.getfield 172, 3) := by decide +kernel
theorem dX9_bore_50 : decode cX9_bore 50 = .ok (.aload_n 0, 1) := by decide +kernel
theorem dX9_bore_51 : decode cX9_bore 51 = .ok (.getfield 358, 3) := by decide +kernel
theorem dX9_bore_54 : decode cX9_bore 54 = .ok (.iload_n 1, 1) := by decide +kernel
theorem dX9_bore_55 : decode cX9_bore 55 = .ok (.iastore, 1) := by decide +kernel
theorem dX9_bore_56 : decode cX9_bore 56 = .ok (.aload_n 0, 1) := by decide +kernel
theorem dX9_bore_57 : decode cX9_bore 57 = .ok (.getfield 175, 3) := by decide +kernel
theorem dX9_bore_60 : decode cX9_bore 60 = .ok (.aload_n 0, 1) := by decide +kernel
theorem dX9_bore_61 : decode cX9_bore 61 = .ok (.getfield 358, 3) := by decide +kernel
theorem dX9_bore_64 : decode cX9_bore 64 = .ok (.iload_n 2, 1) := by decide +kernel
theorem dX9_bore_65 : decode cX9_bore 65 = .ok (.iastore, 1) := by decide +kernel
theorem dX9_bore_66 : decode cX9_bore 66 = .ok (.aload_n 0, 1) := by decide +kernel
theorem dX9_bore_67 : decode cX9_bore 67 = .ok (.getfield 178, 3) := by decide +kernel
theorem dX9_bore_70 : decode cX9_bore 70 = .ok (.aload_n 0, 1) := by decide +kernel
theorem dX9_bore_71 : decode cX9_bore 71 = .ok (.getfield 358, 3) := by decide +kernel
theorem dX9_bore_74 : decode cX9_bore 74 = .ok (.iload_n 3, 1) := by decide +kernel
theorem dX9_bore_75 : decode cX9_bore 75 = .ok (.iastore, 1) := by decide +kernel
theorem dX9_bore_76 : decode cX9_bore 76 = .ok (.aload_n 0, 1) := by decide +kernel
theorem dX9_bore_77 : decode cX9_bore 77 = .ok (.dup, 1) := by decide +kernel
theorem dX9_bore_78 : decode cX9_bore 78 = .ok (.getfield 358, 3) := by decide +kernel
theorem dX9_bore_81 : decode cX9_bore 81 = .ok (.iconst 1, 1) := by decide +kernel
theorem dX9_bore_82 : decode cX9_bore 82 = .ok (.iadd, 1) := by decide +kernel
theorem dX9_bore_83 : decode cX9_bore 83 = .ok (.putfield 358, 3) := by decide +kernel
theorem dX9_bore_86 : decode cX9_bore 86 = .ok (.aload_n 0, 1) := by decide +kernel
theorem dX9_bore_87 : decode cX9_bore 87 = .ok (.getfield 358, 3) := by decide +kernel
theorem dX9_bore_90 : decode cX9_bore 90 = .ok (.iconst 1, 1) := by decide +kernel
theorem dX9_bore_91 : decode cX9_bore 91 = .ok (.isub, 1) := by decide +kernel
theorem dX9_bore_92 : decode cX9_bore 92 = .ok (.ireturn, 1) := by decide +kernel
theorem dX9_best_0 : decode cX9_best 0 = .ok (.aload_n 0, 1) := by decide +kernel
theorem dX9_best_1 : decode cX9_best 1 = .ok (.iconst 0, 1) := by decide +kernel
theorem dX9_best_2 : decode cX9_best 2 = .ok (.putfield 1, 3) := by decide +kernel
theorem dX9_best_5 : decode cX9_best 5 = .ok (.iload_n 1, 1) := by decide +kernel
theorem dX9_best_6 : decode cX9_best 6 = .ok (.iconst 0, 1) := by decide +kernel
theorem dX9_best_7 : decode cX9_best 7 = .ok (.sipush 9999, 3) := by decide +kernel
theorem dX9_best_10 : decode cX9_best 10 = .ok (.invokestatic 282, 3) := by decide +kernel
theorem dX9_best_13 : decode cX9_best 13 = .ok (.ifCond .ne 5, 3) := by decide +kernel
theorem dX9_best_16 : decode cX9_best 16 = .ok (.iconst (-1), 1) := by decide +kernel
theorem dX9_best_17 : decode cX9_best 17 = .ok (.ireturn, 1) := by decide +kernel
theorem dX9_best_18 : decode cX9_best 18 = .ok (.iconst 0, 1) := by decide +kernel
theorem dX9_best_19 : decode cX9_best 19 = .ok (.istore_n 2, 1) := by decide +kernel
theorem dX9_best_20 : decode cX9_best 20 = .ok (.iconst 0, 1) := by decide +kernel
theorem dX9_best_21 : decode cX9_best 21 = .ok (.istore_n 3, 1) := by decide +kernel
theorem dX9_best_22 : decode cX9_best 22 = .ok (.iconst 0, 1) := by decide +kernel
theorem dX9_best_23 : decode cX9_best 23 = .ok (.istore 4, 2) := by decide +kernel
theorem dX9_best_25 : decode cX9_best 25 = .ok (.iconst 1, 1) := by decide +kernel
theorem dX9_best_26 : decode cX9_best 26 = .ok (.istore 5, 2) := by decide +kernel
theorem dX9_best_28 : decode cX9_best 28 = .ok (.iload 5, 2) := by decide +kernel
theorem dX9_best_30 : decode cX9_best 30 = .ok (.iconst 1, 1) := by decide +kernel
theorem dX9_best_31 : decode cX9_best 31 = .ok (.aload_n 0, 1) := by decide +kernel
theorem dX9_best_32 : decode cX9_best 32 = .ok (.getfield 358, 3) := by decide +kernel
theorem dX9_best_35 : decode cX9_best 35 = .ok (.ishl, 1) := by decide +kernel
theorem dX9_best_36 : decode cX9_best 36 = .ok (.if_icmp .ge 146, 3) := by decide +kernel
theorem dX9_best_39 : decode cX9_best 39 = .ok (.iconst 0, 1) := by decide +kernel
theorem dX9_best_40 : decode cX9_best 40 = .ok (.istore 6, 2) := by decide +kernel
theorem dX9_best_42 : decode cX9_best 42 = .ok (.iconst 0, 1) := by decide +kernel
theorem dX9_best_43 : decode cX9_best 43 = .ok (.istore 7, 2) := by decide +kernel
theorem dX9_best_45 : decode cX9_best 45 = .ok (.iconst 1, 1) := by decide +kernel
theorem dX9_best_46 : decode cX9_best 46 = .ok (.istore 8, 2) := by decide +kernel
theorem dX9_best_48 : decode cX9_best 48 = .ok (.iconst 0, 1) := by decide +kernel
theorem dX9_best_49 : decode cX9_best 49 = .ok (.istore 9, 2) := by decide +kernel
theorem dX9_best_51 : decode cX9_best 51 = .ok (.iload 9, 2) := by decide +kernel
theorem dX9_best_53 : decode cX9_best 53 = .ok (.aload_n 0, 1) := by decide +kernel
theorem dX9_best_54 : decode cX9_best 54 = .ok (.getfield 358, 3) := by decide +kernel
theorem dX9_best_57 : decode cX9_best 57 = .ok (.if_icmp .ge 79, 3) := by decide +kernel
theorem dX9_best_60 : decode cX9_best 60 = .ok (.iload 5, 2) := by decide +kernel
theorem dX9_best_62 : decode cX9_best 62 = .ok (.iload 9, 2) := by decide +kernel
theorem dX9_best_64 : decode cX9_best 64 = .ok (.ishr, 1) := by decide +kernel
theorem dX9_best_65 : decode cX9_best 65 = .ok (.iconst 1, 1) := by decide +kernel
theorem dX9_best_66 : decode cX9_best 66 = .ok (.iand, 1) := by decide +kernel
theorem dX9_best_67 : decode cX9_best 67 = .ok (.iconst 1, 1) := by decide +kernel
theorem dX9_best_68 : decode cX9_best 68 = .ok (.if_icmp .ne 62, 3) := by decide +kernel
theorem dX9_best_71 : decode cX9_best 71 = .ok (.iload 6, 2) := by decide +kernel
theorem dX9_best_73 : decode cX9_best 73 = .ok (.aload_n 0, 1) := by decide +kernel
theorem dX9_best_74 : decode cX9_best 74 = .ok (.getfield 175, 3) := by decide +kernel
theorem dX9_best_77 : decode cX9_best 77 = .ok (.iload 9, 2) := by decide +kernel
theorem dX9_best_79 : decode cX9_best 79 = .ok (.iaload, 1) := by decide +kernel
theorem dX9_best_80 : decode cX9_best 80 = .ok (.aload_n 0, 1) := by decide +kernel
theorem dX9_best_81 : decode cX9_best 81 = .ok (.getfield 91, 3) := by decide +kernel
theorem dX9_best_84 : decode cX9_best 84 = .ok (.aload_n 0, 1) := by decide +kernel
theorem dX9_best_85 : decode cX9_best 85 = .ok (.getfield 172, 3) := by decide +kernel
theorem dX9_best_88 : decode cX9_best 88 = .ok (.iload 9, 2) := by decide +kernel
theorem dX9_best_90 : decode cX9_best 90 = .ok (.iaload, 1) := by decide +kernel
theorem dX9_best_91 : decode cX9_best 91 = .ok (.iaload, 1) := by decide +kernel
theorem dX9_best_92 : decode cX9_best 92 = .ok (.imul, 1) := by decide +kernel
theorem dX9_best_93 : decode cX9_best 93 = .ok (.iadd, 1) := by decide +kernel
theorem dX9_best_94 : decode cX9_best 94 = .ok (.istore 6, 2) := by decide +kernel
theorem dX9_best_96 : decode cX9_best 96 = .ok (.iload 7, 2) := by decide +kernel
theorem dX9_best_98 : decode cX9_best 98 = .ok (.aload_n 0, 1) := by decide +kernel
theorem dX9_best_99 : decode cX9_best 99 = .ok (.getfield 178, 3) := by decide +kernel
theorem dX9_best_102 : decode cX9_best 102 = .ok (.iload 9, 2) := by decide +kernel
theorem dX9_best_104 : decode cX9_best 104 = .ok (.iaload, 1) := by decide +kernel
theorem dX9_best_105 : decode cX9_best 105 = .ok (.iadd, 1) := by decide +kernel
theorem dX9_best_106 : decode cX9_best 106 = .ok (.istore 7, 2) := by decide +kernel
theorem dX9_best_108 : decode cX9_best 108 = .ok (.iload 8, 2) := by decide +kernel
theorem dX9_best_110 : decode cX9_best 110 = .ok (.ifCond .eq 17, 3) := by decide +kernel
theorem dX9_best_113 : decode cX9_best 113 = .ok (.aload_n 0, 1) := by decide +kernel
theorem dX9_best_114 : decode cX9_best 114 = .ok (.getfield 181, 3) := by decide +kernel
theorem dX9_best_117 : decode cX9_best 117 = .ok (.iload 9, 2) := by decide +kernel
theorem dX9_best_119 : decode cX9_best 119 = .ok (.baload, 1) := by decide +kernel
theorem dX9_best_120 : decode cX9_best 120 = .ok (.ifCond .ne 7, 3) := by decide +kernel
theorem dX9_best_123 : decode cX9_best 123 = .ok (.iconst 1, 1) := by decide +kernel
theorem dX9_best_124 : decode cX9_best 124 = .ok (.goto 4, 3) := by decide +kernel
theorem dX9_best_127 : decode cX9_best 127 = .ok (.iconst 0, 1) := by decide +kernel
theorem dX9_best_128 : decode cX9_best 128 = .ok (.istore 8, 2) := by decide +kernel
theorem dX9_best_130 : decode cX9_best 130 = .ok (.iinc 9 1, 3) := by decide +kernel
theorem dX9_best_133 : decode cX9_best 133 = .ok (.goto (-82), 3) := by decide +kernel
theorem dX9_best_136 : decode cX9_best 136 = .ok (.iload 8, 2) := by decide +kernel
theorem dX9_best_138 : decode cX9_best 138 = .ok (.ifCond .eq 38, 3) := by decide +kernel
theorem dX9_best_141 : decode cX9_best 141 = .ok (.iload 7, 2) := by decide +kernel
theorem dX9_best_143 : decode cX9_best 143 = .ok (.iload_n 1, 1) := by decide +kernel
theorem dX9_best_144 : decode cX9_best 144 = .ok (.if_icmp .gt 32, 3) := by decide +kernel
theorem dX9_best_147 : decode cX9_best 147 = .ok (.iload 6, 2) := by decide +kernel
theorem dX9_best_149 : decode cX9_best 149 = .ok (.iload_n 3, 1) := by decide +kernel
theorem dX9_best_150 : decode cX9_best 150 = .ok (.if_icmp .gt 16, 3) := by decide +kernel
theorem dX9_best_153 : decode cX9_best 153 = .ok (.iload 6, 2) := by decide +kernel
theorem dX9_best_155 : decode cX9_best 155 = .ok (.iload_n 3, 1) := by decide +kernel
theorem dX9_best_156 : decode cX9_best 156 = .ok (.if_icmp .ne 20, 3) := by decide +kernel
theorem dX9_best_159 : decode cX9_best 159 = .ok (.iload 7, 2) := by decide +kernel
theorem dX9_best_161 : decode cX9_best 161 = .ok (.iload 4, 2) := by decide +kernel
theorem dX9_best_163 : decode cX9_best 163 = .ok (.if_icmp .ge 13, 3) := by decide +kernel
theorem dX9_best_166 : decode cX9_best 166 = .ok (.iload 5, 2) := by decide +kernel
theorem dX9_best_168 : decode cX9_best 168 = .ok (.istore_n 2, 1) := by decide +kernel
theorem dX9_best_169 : decode cX9_best 169 = .ok (.iload 6, 2) := by decide +kernel
theorem dX9_best_171 : decode cX9_best 171 = .ok (.istore_n 3, 1) := by decide +kernel
theorem dX9_best_172 : decode cX9_best 172 = .ok (.iload 7, 2) := by decide +kernel
theorem dX9_best_174 : decode cX9_best 174 = .ok (.istore 4, 2) := by decide +kernel
theorem dX9_best_176 : decode cX9_best 176 = .ok (.iinc 5 1, 3) := by decide +kernel
theorem dX9_best_179 : decode cX9_best 179 = .ok (.goto (-151), 3) := by decide +kernel
theorem dX9_best_182 : decode cX9_best 182 = .ok (.iload_n 2, 1) := by decide +kernel
theorem dX9_best_183 : decode cX9_best 183 = .ok (.ireturn, 1) := by decide +kernel
theorem dX9_drill_0 : decode cX9_drill 0 = .ok (.aload_n 0, 1) := by decide +kernel
theorem dX9_drill_1 : decode cX9_drill 1 = .ok (.iconst 0, 1) := by decide +kernel
theorem dX9_drill_2 : decode cX9_drill 2 = .ok (.putfield 1, 3) := by decide +kernel
theorem dX9_drill_5 : decode cX9_drill 5 = .ok (.iload_n 1, 1) := by decide +kernel
theorem dX9_drill_6 : decode cX9_drill 6 = .ok (.ifCond .lt 31, 3) := by decide +kernel
theorem dX9_drill_9 : decode cX9_drill 9 = .ok (.iload_n 1, 1) := by decide +kernel
theorem dX9_drill_10 : decode cX9_drill 10 = .ok (.aload_n 0, 1) := by decide +kernel
theorem dX9_drill_11 : decode cX9_drill 11 = .ok (.getfield 358, 3) := by decide +kernel
theorem dX9_drill_14 : decode cX9_drill 14 = .ok (.if_icmp .ge 23, 3) := by decide +kernel
theorem dX9_drill_17 : decode cX9_drill 17 = .ok (.aload_n 0, 1) := by decide +kernel
theorem dX9_drill_18 : decode cX9_drill 18 = .ok (.getfield 181, 3) := by decide +kernel
theorem dX9_drill_21 : decode cX9_drill 21 = .ok (.iload_n 1, 1) := by decide +kernel
theorem dX9_drill_22 : decode cX9_drill 22 = .ok (.baload, 1) := by decide +kernel
theorem dX9_drill_23 : decode cX9_drill 23 = .ok (.ifCond .ne 14, 3) := by decide +kernel
theorem dX9_drill_26 : decode cX9_drill 26 = .ok (.iload_n 2, 1) := by decide +kernel
theorem dX9_drill_27 : decode cX9_drill 27 = .ok (.iconst 0, 1) := by decide +kernel
theorem dX9_drill_28 : decode cX9_drill 28 = .ok (.sipush 5000, 3) := by decide +kernel
theorem dX9_drill_31 : decode cX9_drill 31 = .ok (.invokestatic 282, 3) := by decide +kernel
theorem dX9_drill_34 : decode cX9_drill 34 = .ok (.ifCond .ne 5, 3) := by decide +kernel
theorem dX9_drill_37 : decode cX9_drill 37 = .ok (.iconst 0, 1) := by decide +kernel
theorem dX9_drill_38 : decode cX9_drill 38 = .ok (.ireturn, 1) := by decide +kernel
theorem dX9_drill_39 : decode cX9_drill 39 = .ok (.aload_n 0, 1) := by decide +kernel
theorem dX9_drill_40 : decode cX9_drill 40 = .ok (.getfield 181, 3) := by decide +kernel
theorem dX9_drill_43 : decode cX9_drill 43 = .ok (.iload_n 1, 1) := by decide +kernel
theorem dX9_drill_44 : decode cX9_drill 44 = .ok (.iconst 1, 1) := by decide +kernel
theorem dX9_drill_45 : decode cX9_drill 45 = .ok (.bastore, 1) := by decide +kernel
theorem dX9_drill_46 : decode cX9_drill 46 = .ok (.aload_n 0, 1) := by decide +kernel
theorem dX9_drill_47 : decode cX9_drill 47 = .ok (.getfield 103, 3) := by decide +kernel
theorem dX9_drill_50 : decode cX9_drill 50 = .ok (.aload_n 0, 1) := by decide +kernel
theorem dX9_drill_51 : decode cX9_drill 51 = .ok (.getfield 172, 3) := by decide +kernel
theorem dX9_drill_54 : decode cX9_drill 54 = .ok (.iload_n 1, 1) := by decide +kernel
theorem dX9_drill_55 : decode cX9_drill 55 = .ok (.iaload, 1) := by decide +kernel
theorem dX9_drill_56 : decode cX9_drill 56 = .ok (.dup2, 1) := by decide +kernel
theorem dX9_drill_57 : decode cX9_drill 57 = .ok (.iaload, 1) := by decide +kernel
theorem dX9_drill_58 : decode cX9_drill 58 = .ok (.iload_n 2, 1) := by decide +kernel
theorem dX9_drill_59 : decode cX9_drill 59 = .ok (.iadd, 1) := by decide +kernel
theorem dX9_drill_60 : decode cX9_drill 60 = .ok (.iastore, 1) := by decide +kernel
theorem dX9_drill_61 : decode cX9_drill 61 = .ok (.iconst 1, 1) := by decide +kernel
theorem dX9_drill_62 : decode cX9_drill 62 = .ok (.ireturn, 1) := by decide +kernel
theorem dX9_dip_0 : decode cX9_dip 0 = .ok (.aload_n 0, 1) := by decide +kernel
theorem dX9_dip_1 : decode cX9_dip 1 = .ok (.iconst 0, 1) := by decide +kernel
theorem dX9_dip_2 : decode cX9_dip 2 = .ok (.putfield 1, 3) := by decide +kernel
theorem dX9_dip_5 : decode cX9_dip 5 = .ok (.iload_n 1, 1) := by decide +kernel
theorem dX9_dip_6 : decode cX9_dip 6 = .ok (.ifCond .lt 54, 3) := by decide +kernel
theorem dX9_dip_9 : decode cX9_dip 9 = .ok (.iload_n 1, 1) := by decide +kernel
theorem dX9_dip_10 : decode cX9_dip 10 = .ok (.aload_n 0, 1) := by decide +kernel
theorem dX9_dip_11 : decode cX9_dip 11 = .ok (.getfield 294, 3) := by decide +kernel
theorem dX9_dip_14 : decode cX9_dip 14 = .ok (.if_icmp .ge 46, 3) := by decide +kernel
theorem dX9_dip_17 : decode cX9_dip 17 = .ok (.iload_n 2, 1) := by decide +kernel
theorem dX9_dip_18 : decode cX9_dip 18 = .ok (.iconst 0, 1) := by decide +kernel
theorem dX9_dip_19 : decode cX9_dip 19 = .ok (.sipush 20000, 3) := by decide +kernel
theorem dX9_dip_22 : decode cX9_dip 22 = .ok (.invokestatic 282, 3) := by decide +kernel
theorem dX9_dip_25 : decode cX9_dip 25 = .ok (.ifCond .eq 35, 3) := by decide +kernel
theorem dX9_dip_28 : decode cX9_dip 28 = .ok (.iload_n 3, 1) := by decide +kernel
theorem dX9_dip_29 : decode cX9_dip 29 = .ok (.iconst 0, 1) := by decide +kernel
theorem dX9_dip_30 : decode cX9_dip 30 = .ok (.sipush 20000, 3) := by decide +kernel
theorem dX9_dip_33 : decode cX9_dip 33 = .ok (.invokestatic 282, 3) := by decide +kernel
theorem dX9_dip_36 : decode cX9_dip 36 = .ok (.ifCond .eq 24, 3) := by decide +kernel
theorem dX9_dip_39 : decode cX9_dip 39 = .ok (.iload 4, 2) := by decide +kernel
theorem dX9_dip_41 : decode cX9_dip 41 = .ok (.iconst 0, 1) := by decide +kernel
theorem dX9_dip_42 : decode cX9_dip 42 = .ok (.sipush 2000, 3) := by decide +kernel
theorem dX9_dip_45 : decode cX9_dip 45 = .ok (.invokestatic 282, 3) := by decide +kernel
theorem dX9_dip_48 : decode cX9_dip 48 = .ok (.ifCond .eq 12, 3) := by decide +kernel
theorem dX9_dip_51 : decode cX9_dip 51 = .ok (.aload_n 0, 1) := by decide +kernel
theorem dX9_dip_52 : decode cX9_dip 52 = .ok (.getfield 361, 3) := by decide +kernel
theorem dX9_dip_55 : decode cX9_dip 55 = .ok (.bipush 100, 2) := by decide +kernel
theorem dX9_dip_57 : decode cX9_dip 57 = .ok (.if_icmp .ne 5, 3) := by decide +kernel
theorem dX9_dip_60 : decode cX9_dip 60 = .ok (.iconst (-1), 1) := by decide +kernel
theorem dX9_dip_61 : decode cX9_dip 61 = .ok (.ireturn, 1) := by decide +kernel
theorem dX9_dip_62 : decode cX9_dip 62 = .ok (.aload_n 0, 1) := by decide +kernel
theorem dX9_dip_63 : decode cX9_dip 63 = .ok (.getfield 187, 3) := by decide +kernel
theorem dX9_dip_66 : decode cX9_dip 66 = .ok (.iload_n 1, 1) := by decide +kernel
theorem dX9_dip_67 : decode cX9_dip 67 = .ok (.dup2, 1) := by decide +kernel
theorem dX9_dip_68 : decode cX9_dip 68 = .ok (.iaload, 1) := by decide +kernel
theorem dX9_dip_69 : decode cX9_dip 69 = .ok (.iload_n 2, 1) := by decide +kernel
theorem dX9_dip_70 : decode cX9_dip 70 = .ok (.iload_n 3, 1) := by decide +kernel
theorem dX9_dip_71 : decode cX9_dip 71 = .ok (.isub, 1) := by decide +kernel
theorem dX9_dip_72 : decode cX9_dip 72 = .ok (.iadd, 1) := by decide +kernel
theorem dX9_dip_73 : decode cX9_dip 73 = .ok (.iastore, 1) := by decide +kernel
theorem dX9_dip_74 : decode cX9_dip 74 = .ok (.aload_n 0, 1) := by decide +kernel
theorem dX9_dip_75 : decode cX9_dip 75 = .ok (.getfield 190, 3) := by decide +kernel
theorem dX9_dip_78 : decode cX9_dip 78 = .ok (.iload_n 1, 1) := by decide +kernel
theorem dX9_dip_79 : decode cX9_dip 79 = .ok (.dup2, 1) := by decide +kernel
theorem dX9_dip_80 : decode cX9_dip 80 = .ok (.iaload, 1) := by decide +kernel
theorem dX9_dip_81 : decode cX9_dip 81 = .ok (.iload 4, 2) := by decide +kernel
theorem dX9_dip_83 : decode cX9_dip 83 = .ok (.iadd, 1) := by decide +kernel
theorem dX9_dip_84 : decode cX9_dip 84 = .ok (.iastore, 1) := by decide +kernel
theorem dX9_dip_85 : decode cX9_dip 85 = .ok (.aload_n 0, 1) := by decide +kernel
theorem dX9_dip_86 : decode cX9_dip 86 = .ok (.getfield 184, 3) := by decide +kernel
theorem dX9_dip_89 : decode cX9_dip 89 = .ok (.iload_n 1, 1) := by decide +kernel
theorem dX9_dip_90 : decode cX9_dip 90 = .ok (.dup2, 1) := by decide +kernel
theorem dX9_dip_91 : decode cX9_dip 91 = .ok (.iaload, 1) := by decide +kernel
theorem dX9_dip_92 : decode cX9_dip 92 = .ok (.iconst 1, 1) := by decide +kernel
theorem dX9_dip_93 : decode cX9_dip 93 = .ok (.iadd, 1) := by decide +kernel
theorem dX9_dip_94 : decode cX9_dip 94 = .ok (.iastore, 1) := by decide +kernel
theorem dX9_dip_95 : decode cX9_dip 95 = .ok (.aload_n 0, 1) := by decide +kernel
theorem dX9_dip_96 : decode cX9_dip 96 = .ok (.dup, 1) := by decide +kernel
theorem dX9_dip_97 : decode cX9_dip 97 = .ok (.getfield 361, 3) := by decide +kernel
theorem dX9_dip_100 : decode cX9_dip 100 = .ok (.iconst 1, 1) := by decide +kernel
theorem dX9_dip_101 : decode cX9_dip 101 = .ok (.iadd, 1) := by decide +kernel
theorem dX9_dip_102 : decode cX9_dip 102 = .ok (.putfield 361, 3) := by decide +kernel
theorem dX9_dip_105 : decode cX9_dip 105 = .ok (.aload_n 0, 1) := by decide +kernel
theorem dX9_dip_106 : decode cX9_dip 106 = .ok (.getfield 184, 3) := by decide +kernel
theorem dX9_dip_109 : decode cX9_dip 109 = .ok (.iload_n 1, 1) := by decide +kernel
theorem dX9_dip_110 : decode cX9_dip 110 = .ok (.iaload, 1) := by decide +kernel
theorem dX9_dip_111 : decode cX9_dip 111 = .ok (.ireturn, 1) := by decide +kernel
theorem dX9_isShort_0 : decode cX9_isShort 0 = .ok (.aload_n 0, 1) := by decide +kernel
theorem dX9_isShort_1 : decode cX9_isShort 1 = .ok (.iconst 0, 1) := by decide +kernel
theorem dX9_isShort_2 : decode cX9_isShort 2 = .ok (.putfield 1, 3) := by decide +kernel
theorem dX9_isShort_5 : decode cX9_isShort 5 = .ok (.iload_n 1, 1) := by decide +kernel
theorem dX9_isShort_6 : decode cX9_isShort 6 = .ok (.ifCond .lt 11, 3) := by decide +kernel
theorem dX9_isShort_9 : decode cX9_isShort 9 = .ok (.iload_n 1, 1) := by decide +kernel
theorem dX9_isShort_10 : decode cX9_isShort 10 = .ok (.aload_n 0, 1) := by decide +kernel
theorem dX9_isShort_11 : decode cX9_isShort 11 = .ok (.getfield 294, 3) := by decide +kernel
theorem dX9_isShort_14 : decode cX9_isShort 14 = .ok (.if_icmp .lt 7, 3) := by decide +kernel
theorem dX9_isShort_17 : decode cX9_isShort 17 = .ok (.iconst (-1), 1) := by decide +kernel
theorem dX9_isShort_18 : decode cX9_isShort 18 = .ok (.goto 33, 3) := by decide +kernel
theorem dX9_isShort_21 : decode cX9_isShort 21 = .ok (.aload_n 0, 1) := by decide +kernel
theorem dX9_isShort_22 : decode cX9_isShort 22 = .ok (.getfield 184, 3) := by decide +kernel
theorem dX9_isShort_25 : decode cX9_isShort 25 = .ok (.iload_n 1, 1) := by decide +kernel
theorem dX9_isShort_26 : decode cX9_isShort 26 = .ok (.iaload, 1) := by decide +kernel
theorem dX9_isShort_27 : decode cX9_isShort 27 = .ok (.iconst 3, 1) := by decide +kernel
theorem dX9_isShort_28 : decode cX9_isShort 28 = .ok (.if_icmp .lt 22, 3) := by decide +kernel
theorem dX9_isShort_31 : decode cX9_isShort 31 = .ok (.aload_n 0, 1) := by decide +kernel
theorem dX9_isShort_32 : decode cX9_isShort 32 = .ok (.getfield 187, 3) := by decide +kernel
theorem dX9_isShort_35 : decode cX9_isShort 35 = .ok (.iload_n 1, 1) := by decide +kernel
theorem dX9_isShort_36 : decode cX9_isShort 36 = .ok (.iaload, 1) := by decide +kernel
theorem dX9_isShort_37 : decode cX9_isShort 37 = .ok (.aload_n 0, 1) := by decide +kernel
theorem dX9_isShort_38 : decode cX9_isShort 38 = .ok (.getfield 190, 3) := by decide +kernel
theorem dX9_isShort_41 : decode cX9_isShort 41 = .ok (.iload_n 1, 1) := by decide +kernel
theorem dX9_isShort_42 : decode cX9_isShort 42 = .ok (.iaload, 1) := by decide +kernel
theorem dX9_isShort_43 : decode cX9_isShort 43 = .ok (.if_icmp .le 7, 3) := by decide +kernel
theorem dX9_isShort_46 : decode cX9_isShort 46 = .ok (.iconst 1, 1) := by decide +kernel
theorem dX9_isShort_47 : decode cX9_isShort 47 = .ok (.goto 4, 3) := by decide +kernel
theorem dX9_isShort_50 : decode cX9_isShort 50 = .ok (.iconst 0, 1) := by decide +kernel
theorem dX9_isShort_51 : decode cX9_isShort 51 = .ok (.ireturn, 1) := by decide +kernel
theorem dX9_share_0 : decode cX9_share 0 = .ok (.aload_n 0, 1) := by decide +kernel
theorem dX9_share_1 : decode cX9_share 1 = .ok (.iconst 0, 1) := by decide +kernel
theorem dX9_share_2 : decode cX9_share 2 = .ok (.putfield 1, 3) := by decide +kernel
theorem dX9_share_5 : decode cX9_share 5 = .ok (.aload_n 0, 1) := by decide +kernel
theorem dX9_share_6 : decode cX9_share 6 = .ok (.iload_n 1, 1) := by decide +kernel
theorem dX9_share_7 : decode cX9_share 7 = .ok (.invokevirtual 297, 3) := by decide +kernel
theorem dX9_share_10 : decode cX9_share 10 = .ok (.ifCond .ne 5, 3) := by decide +kernel
theorem dX9_share_13 : decode cX9_share 13 = .ok (.iconst (-1), 1) := by decide +kernel
theorem dX9_share_14 : decode cX9_share 14 = .ok (.ireturn, 1) := by decide +kernel
theorem dX9_share_15 : decode cX9_share 15 = .ok (.bipush 7, 2) := by decide +kernel
theorem dX9_share_17 : decode cX9_share 17 = .ok (.aload_n 0, 1) := by decide +kernel
theorem dX9_share_18 : decode cX9_share 18 = .ok (.getfield 312, 3) := by decide +kernel
theorem dX9_share_21 : decode cX9_share 21 = .ok (.invokestatic 325, 3) := by decide +kernel
theorem dX9_share_24 : decode cX9_share 24 = .ok (.istore_n 2, 1) := by decide +kernel
theorem dX9_share_25 : decode cX9_share 25 = .ok (.lconst 0, 1) := by decide +kernel
theorem dX9_share_26 : decode cX9_share 26 = .ok (.lstore_n 3, 1) := by decide +kernel
theorem dX9_share_27 : decode cX9_share 27 = .ok (.aload_n 0, 1) := by decide +kernel
theorem dX9_share_28 : decode cX9_share 28 = .ok (.getfield 312, 3) := by decide +kernel
theorem dX9_share_31 : decode cX9_share 31 = .ok (.iload_n 2, 1) := by decide +kernel
theorem dX9_share_32 : decode cX9_share 32 = .ok (.isub, 1) := by decide +kernel
theorem dX9_share_33 : decode cX9_share 33 = .ok (.iconst 1, 1) := by decide +kernel
theorem dX9_share_34 : decode cX9_share 34 = .ok (.iadd, 1) := by decide +kernel
theorem dX9_share_35 : decode cX9_share 35 = .ok (.istore 5, 2) := by decide +kernel
theorem dX9_share_37 : decode cX9_share 37 = .ok (.iload 5, 2) := by decide +kernel
theorem dX9_share_39 : decode cX9_share 39 = .ok (.aload_n 0, 1) := by decide +kernel
theorem dX9_share_40 : decode cX9_share 40 = .ok (.getfield 312, 3) := by decide +kernel
theorem dX9_share_43 : decode cX9_share 43 = .ok (.if_icmp .gt 26, 3) := by decide +kernel
theorem dX9_share_46 : decode cX9_share 46 = .ok (.lload_n 3, 1) := by decide +kernel
theorem dX9_share_47 : decode cX9_share 47 = .ok (.aload_n 0, 1) := by decide +kernel
theorem dX9_share_48 : decode cX9_share 48 = .ok (.getfield 115, 3) := by decide +kernel
theorem dX9_share_51 : decode cX9_share 51 = .ok (.sipush 400, 3) := by decide +kernel
theorem dX9_share_54 : decode cX9_share 54 = .ok (.iload_n 1, 1) := by decide +kernel
theorem dX9_share_55 : decode cX9_share 55 = .ok (.imul, 1) := by decide +kernel
theorem dX9_share_56 : decode cX9_share 56 = .ok (.iload 5, 2) := by decide +kernel
theorem dX9_share_58 : decode cX9_share 58 = .ok (.iadd, 1) := by decide +kernel
theorem dX9_share_59 : decode cX9_share 59 = .ok (.iaload, 1) := by decide +kernel
theorem dX9_share_60 : decode cX9_share 60 = .ok (.i2l, 1) := by decide +kernel
theorem dX9_share_61 : decode cX9_share 61 = .ok (.ladd, 1) := by decide +kernel
theorem dX9_share_62 : decode cX9_share 62 = .ok (.lstore_n 3, 1) := by decide +kernel
theorem dX9_share_63 : decode cX9_share 63 = .ok (.iinc 5 1, 3) := by decide +kernel
theorem dX9_share_66 : decode cX9_share 66 = .ok (.goto (-29), 3) := by decide +kernel
theorem dX9_share_69 : decode cX9_share 69 = .ok (.iload_n 2, 1) := by decide +kernel
theorem dX9_share_70 : decode cX9_share 70 = .ok (.ifCond .ne 7, 3) := by decide +kernel
theorem dX9_share_73 : decode cX9_share 73 = .ok (.iconst 0, 1) := by decide +kernel
theorem dX9_share_74 : decode cX9_share 74 = .ok (.goto 20, 3) := by decide +kernel
theorem dX9_share_77 : decode cX9_share 77 = .ok (.lload_n 3, 1) := by decide +kernel
theorem dX9_share_78 : decode cX9_share 78 = .ok (.ldc2_w 303, 3) := by decide +kernel
theorem dX9_share_81 : decode cX9_share 81 = .ok (.lmul, 1) := by decide +kernel
theorem dX9_share_82 : decode cX9_share 82 = .ok (.aload_n 0, 1) := by decide +kernel
theorem dX9_share_83 : decode cX9_share 83 = .ok (.getfield 91, 3) := by decide +kernel
theorem dX9_share_86 : decode cX9_share 86 = .ok (.iload_n 1, 1) := by decide +kernel
theorem dX9_share_87 : decode cX9_share 87 = .ok (.iaload, 1) := by decide +kernel
theorem dX9_share_88 : decode cX9_share 88 = .ok (.i2l, 1) := by decide +kernel
theorem dX9_share_89 : decode cX9_share 89 = .ok (.iload_n 2, 1) := by decide +kernel
theorem dX9_share_90 : decode cX9_share 90 = .ok (.i2l, 1) := by decide +kernel
theorem dX9_share_91 : decode cX9_share 91 = .ok (.lmul, 1) := by decide +kernel
theorem dX9_share_92 : decode cX9_share 92 = .ok (.ldiv, 1) := by decide +kernel
theorem dX9_share_93 : decode cX9_share 93 = .ok (.l2i, 1) := by decide +kernel
theorem dX9_share_94 : decode cX9_share 94 = .ok (.ireturn, 1) := by decide +kernel
theorem dX9_look_0 : decode cX9_look 0 = .ok (.aload_n 0, 1) := by decide +kernel
theorem dX9_look_1 : decode cX9_look 1 = .ok (.aload_n 0, 1) := by decide +kernel
theorem dX9_look_2 : decode cX9_look 2 = .ok (.iload_n 1, 1) := by decide +kernel
theorem dX9_look_3 : decode cX9_look 3 = .ok (.invokevirtual 297, 3) := by decide +kernel
theorem dX9_look_6 : decode cX9_look 6 = .ok (.ifCond .eq 17, 3) := by decide +kernel
theorem dX9_look_9 : decode cX9_look 9 = .ok (.iload_n 2, 1) := by decide +kernel
theorem dX9_look_10 : decode cX9_look 10 = .ok (.ifCond .lt 13, 3) := by decide +kernel
theorem dX9_look_13 : decode cX9_look 13 = .ok (.iload_n 2, 1) := by decide +kernel
theorem dX9_look_14 : decode cX9_look 14 = .ok (.bipush 8, 2) := by decide +kernel
theorem dX9_look_16 : decode cX9_look 16 = .ok (.if_icmp .gt 7, 3) := by decide +kernel
theorem dX9_look_19 : decode cX9_look 19 = .ok (.iconst 0, 1) := by decide +kernel
theorem dX9_look_20 : decode cX9_look 20 = .ok (.goto 4, 3) := by decide +kernel
theorem dX9_look_23 : decode cX9_look 23 = .ok (.iconst 1, 1) := by decide +kernel
theorem dX9_look_24 : decode cX9_look 24 = .ok (.putfield 1, 3) := by decide +kernel
theorem dX9_look_27 : decode cX9_look 27 = .ok (.aload_n 0, 1) := by decide +kernel
theorem dX9_look_28 : decode cX9_look 28 = .ok (.getfield 1, 3) := by decide +kernel
theorem dX9_look_31 : decode cX9_look 31 = .ok (.ifCond .le 5, 3) := by decide +kernel
theorem dX9_look_34 : decode cX9_look 34 = .ok (.iconst 0, 1) := by decide +kernel
theorem dX9_look_35 : decode cX9_look 35 = .ok (.ireturn, 1) := by decide +kernel
theorem dX9_look_36 : decode cX9_look 36 = .ok (.iload_n 2, 1) := by decide +kernel
theorem dX9_look_37 : decode cX9_look 37 = .ok (.tableswitch 120 0 7 #[47, 54, 61, 68, 75, 91, 106, 113], 47) := by decide +kernel
theorem dX9_look_84 : decode cX9_look 84 = .ok (.aload_n 0, 1) := by decide +kernel
theorem dX9_look_85 : decode cX9_look 85 = .ok (.getfield 91, 3) := by decide +kernel
theorem dX9_look_88 : decode cX9_look 88 = .ok (.iload_n 1, 1) := by decide +kernel
theorem dX9_look_89 : decode cX9_look 89 = .ok (.iaload, 1) := by decide +kernel
theorem dX9_look_90 : decode cX9_look 90 = .ok (.ireturn, 1) := by decide +kernel
theorem dX9_look_91 : decode cX9_look 91 = .ok (.aload_n 0, 1) := by decide +kernel
theorem dX9_look_92 : decode cX9_look 92 = .ok (.getfield 94, 3) := by decide +kernel
theorem dX9_look_95 : decode cX9_look 95 = .ok (.iload_n 1, 1) := by decide +kernel
theorem dX9_look_96 : decode cX9_look 96 = .ok (.iaload, 1) := by decide +kernel
theorem dX9_look_97 : decode cX9_look 97 = .ok (.ireturn, 1) := by decide +kernel
theorem dX9_look_98 : decode cX9_look 98 = .ok (.aload_n 0, 1) := by decide +kernel
theorem dX9_look_99 : decode cX9_look 99 = .ok (.getfield 100, 3) := by decide +kernel
theorem dX9_look_102 : decode cX9_look 102 = .ok (.iload_n 1, 1) := by decide +kernel
theorem dX9_look_103 : decode cX9_look 103 = .ok (.iaload, 1) := by decide +kernel
theorem dX9_look_104 : decode cX9_look 104 = .ok (.ireturn, 1) := by decide +kernel
theorem dX9_look_105 : decode cX9_look 105 = .ok (.aload_n 0, 1) := by decide +kernel
theorem dX9_look_106 : decode cX9_look 106 = .ok (.getfield 103, 3) := by decide +kernel
theorem dX9_look_109 : decode cX9_look 109 = .ok (.iload_n 1, 1) := by decide +kernel
theorem dX9_look_110 : decode cX9_look 110 = .ok (.iaload, 1) := by decide +kernel
theorem dX9_look_111 : decode cX9_look 111 = .ok (.ireturn, 1) := by decide +kernel
theorem dX9_look_112 : decode cX9_look 112 = .ok (.aload_n 0, 1) := by decide +kernel
theorem dX9_look_113 : decode cX9_look 113 = .ok (.getfield 115, 3) := by decide +kernel
theorem dX9_look_116 : decode cX9_look 116 = .ok (.sipush 400, 3) := by decide +kernel
theorem dX9_look_119 : decode cX9_look 119 = .ok (.iload_n 1, 1) := by decide +kernel
theorem dX9_look_120 : decode cX9_look 120 = .ok (.imul, 1) := by decide +kernel
theorem dX9_look_121 : decode cX9_look 121 = .ok (.aload_n 0, 1) := by decide +kernel
theorem dX9_look_122 : decode cX9_look 122 = .ok (.getfield 312, 3) := by decide +kernel
theorem dX9_look_125 : decode cX9_look 125 = .ok (.iadd, 1) := by decide +kernel
theorem dX9_look_126 : decode cX9_look 126 = .ok (.iaload, 1) := by decide +kernel
theorem dX9_look_127 : decode cX9_look 127 = .ok (.ireturn, 1) := by decide +kernel
theorem dX9_look_128 : decode cX9_look 128 = .ok (.aload_n 0, 1) := by decide +kernel
theorem dX9_look_129 : decode cX9_look 129 = .ok (.getfield 118, 3) := by decide +kernel
theorem dX9_look_132 : decode cX9_look 132 = .ok (.iload_n 1, 1) := by decide +kernel
theorem dX9_look_133 : decode cX9_look 133 = .ok (.baload, 1) := by decide +kernel
theorem dX9_look_134 : decode cX9_look 134 = .ok (.ifCond .eq 7, 3) := by decide +kernel
theorem dX9_look_137 : decode cX9_look 137 = .ok (.iconst 1, 1) := by decide +kernel
theorem dX9_look_138 : decode cX9_look 138 = .ok (.goto 4, 3) := by decide +kernel
theorem dX9_look_141 : decode cX9_look 141 = .ok (.iconst 0, 1) := by decide +kernel
theorem dX9_look_142 : decode cX9_look 142 = .ok (.ireturn, 1) := by decide +kernel
theorem dX9_look_143 : decode cX9_look 143 = .ok (.aload_n 0, 1) := by decide +kernel
theorem dX9_look_144 : decode cX9_look 144 = .ok (.getfield 106, 3) := by decide +kernel
theorem dX9_look_147 : decode cX9_look 147 = .ok (.iload_n 1, 1) := by decide +kernel
theorem dX9_look_148 : decode cX9_look 148 = .ok (.iaload, 1) := by decide +kernel
theorem dX9_look_149 : decode cX9_look 149 = .ok (.ireturn, 1) := by decide +kernel
theorem dX9_look_150 : decode cX9_look 150 = .ok (.aload_n 0, 1) := by decide +kernel
theorem dX9_look_151 : decode cX9_look 151 = .ok (.getfield 109, 3) := by decide +kernel
theorem dX9_look_154 : decode cX9_look 154 = .ok (.iload_n 1, 1) := by decide +kernel
theorem dX9_look_155 : decode cX9_look 155 = .ok (.iaload, 1) := by decide +kernel
theorem dX9_look_156 : decode cX9_look 156 = .ok (.ireturn, 1) := by decide +kernel
theorem dX9_look_157 : decode cX9_look 157 = .ok (.aload_n 0, 1) := by decide +kernel
theorem dX9_look_158 : decode cX9_look 158 = .ok (.getfield 112, 3) := by decide +kernel
theorem dX9_look_161 : decode cX9_look 161 = .ok (.iload_n 1, 1) := by decide +kernel
theorem dX9_look_162 : decode cX9_look 162 = .ok (.iaload, 1) := by decide +kernel
theorem dX9_look_163 : decode cX9_look 163 = .ok (.ireturn, 1) := by decide +kernel
theorem dX9_flows_0 : decode cX9_flows 0 = .ok (.aload_n 0, 1) := by decide +kernel
theorem dX9_flows_1 : decode cX9_flows 1 = .ok (.iconst 0, 1) := by decide +kernel
theorem dX9_flows_2 : decode cX9_flows 2 = .ok (.putfield 1, 3) := by decide +kernel
theorem dX9_flows_5 : decode cX9_flows 5 = .ok (.iload_n 1, 1) := by decide +kernel
theorem dX9_flows_6 : decode cX9_flows 6 = .ok (.ifCond .lt 11, 3) := by decide +kernel
theorem dX9_flows_9 : decode cX9_flows 9 = .ok (.iload_n 1, 1) := by decide +kernel
theorem dX9_flows_10 : decode cX9_flows 10 = .ok (.aload_n 0, 1) := by decide +kernel
theorem dX9_flows_11 : decode cX9_flows 11 = .ok (.getfield 291, 3) := by decide +kernel
theorem dX9_flows_14 : decode cX9_flows 14 = .ok (.if_icmp .lt 7, 3) := by decide +kernel
theorem dX9_flows_17 : decode cX9_flows 17 = .ok (.iconst (-1), 1) := by decide +kernel
theorem dX9_flows_18 : decode cX9_flows 18 = .ok (.goto 31, 3) := by decide +kernel
theorem dX9_flows_21 : decode cX9_flows 21 = .ok (.iload_n 2, 1) := by decide +kernel
theorem dX9_flows_22 : decode cX9_flows 22 = .ok (.ifCond .ne 12, 3) := by decide +kernel
theorem dX9_flows_25 : decode cX9_flows 25 = .ok (.aload_n 0, 1) := by decide +kernel
theorem dX9_flows_26 : decode cX9_flows 26 = .ok (.getfield 121, 3) := by decide +kernel
theorem dX9_flows_29 : decode cX9_flows 29 = .ok (.iload_n 1, 1) := by decide +kernel
theorem dX9_flows_30 : decode cX9_flows 30 = .ok (.iaload, 1) := by decide +kernel
theorem dX9_flows_31 : decode cX9_flows 31 = .ok (.goto 18, 3) := by decide +kernel
theorem dX9_flows_34 : decode cX9_flows 34 = .ok (.iload_n 2, 1) := by decide +kernel
theorem dX9_flows_35 : decode cX9_flows 35 = .ok (.iconst 1, 1) := by decide +kernel
theorem dX9_flows_36 : decode cX9_flows 36 = .ok (.if_icmp .ne 12, 3) := by decide +kernel
theorem dX9_flows_39 : decode cX9_flows 39 = .ok (.aload_n 0, 1) := by decide +kernel
theorem dX9_flows_40 : decode cX9_flows 40 = .ok (.getfield 127, 3) := by decide +kernel
theorem dX9_flows_43 : decode cX9_flows 43 = .ok (.iload_n 1, 1) := by decide +kernel
theorem dX9_flows_44 : decode cX9_flows 44 = .ok (.iaload, 1) := by decide +kernel
theorem dX9_flows_45 : decode cX9_flows 45 = .ok (.goto 4, 3) := by decide +kernel
theorem dX9_flows_48 : decode cX9_flows 48 = .ok (.iconst (-1), 1) := by decide +kernel
theorem dX9_flows_49 : decode cX9_flows 49 = .ok (.ireturn, 1) := by decide +kernel
theorem dX9_goes_0 : decode cX9_goes 0 = .ok (.aload_n 0, 1) := by decide +kernel
theorem dX9_goes_1 : decode cX9_goes 1 = .ok (.iconst 0, 1) := by decide +kernel
theorem dX9_goes_2 : decode cX9_goes 2 = .ok (.putfield 1, 3) := by decide +kernel
theorem dX9_goes_5 : decode cX9_goes 5 = .ok (.iload_n 1, 1) := by decide +kernel
theorem dX9_goes_6 : decode cX9_goes 6 = .ok (.ifCond .lt 11, 3) := by decide +kernel
theorem dX9_goes_9 : decode cX9_goes 9 = .ok (.iload_n 1, 1) := by decide +kernel
theorem dX9_goes_10 : decode cX9_goes 10 = .ok (.aload_n 0, 1) := by decide +kernel
theorem dX9_goes_11 : decode cX9_goes 11 = .ok (.getfield 294, 3) := by decide +kernel
theorem dX9_goes_14 : decode cX9_goes 14 = .ok (.if_icmp .lt 7, 3) := by decide +kernel
theorem dX9_goes_17 : decode cX9_goes 17 = .ok (.iconst (-1), 1) := by decide +kernel
theorem dX9_goes_18 : decode cX9_goes 18 = .ok (.goto 45, 3) := by decide +kernel
theorem dX9_goes_21 : decode cX9_goes 21 = .ok (.iload_n 2, 1) := by decide +kernel
theorem dX9_goes_22 : decode cX9_goes 22 = .ok (.ifCond .ne 12, 3) := by decide +kernel
theorem dX9_goes_25 : decode cX9_goes 25 = .ok (.aload_n 0, 1) := by decide +kernel
theorem dX9_goes_26 : decode cX9_goes 26 = .ok (.getfield 142, 3) := by decide +kernel
theorem dX9_goes_29 : decode cX9_goes 29 = .ok (.iload_n 1, 1) := by decide +kernel
theorem dX9_goes_30 : decode cX9_goes 30 = .ok (.iaload, 1) := by decide +kernel
theorem dX9_goes_31 : decode cX9_goes 31 = .ok (.goto 32, 3) := by decide +kernel
theorem dX9_goes_34 : decode cX9_goes 34 = .ok (.iload_n 2, 1) := by decide +kernel
theorem dX9_goes_35 : decode cX9_goes 35 = .ok (.iconst 1, 1) := by decide +kernel
theorem dX9_goes_36 : decode cX9_goes 36 = .ok (.if_icmp .ne 12, 3) := by decide +kernel
theorem dX9_goes_39 : decode cX9_goes 39 = .ok (.aload_n 0, 1) := by decide +kernel
theorem dX9_goes_40 : decode cX9_goes 40 = .ok (.getfield 145, 3) := by decide +kernel
theorem dX9_goes_43 : decode cX9_goes 43 = .ok (.iload_n 1, 1) := by decide +kernel
theorem dX9_goes_44 : decode cX9_goes 44 = .ok (.iaload, 1) := by decide +kernel
theorem dX9_goes_45 : decode cX9_goes 45 = .ok (.goto 18, 3) := by decide +kernel
theorem dX9_goes_48 : decode cX9_goes 48 = .ok (.iload_n 2, 1) := by decide +kernel
theorem dX9_goes_49 : decode cX9_goes 49 = .ok (.iconst 2, 1) := by decide +kernel
theorem dX9_goes_50 : decode cX9_goes 50 = .ok (.if_icmp .ne 12, 3) := by decide +kernel
theorem dX9_goes_53 : decode cX9_goes 53 = .ok (.aload_n 0, 1) := by decide +kernel
theorem dX9_goes_54 : decode cX9_goes 54 = .ok (.getfield 148, 3) := by decide +kernel
theorem dX9_goes_57 : decode cX9_goes 57 = .ok (.iload_n 1, 1) := by decide +kernel
theorem dX9_goes_58 : decode cX9_goes 58 = .ok (.iaload, 1) := by decide +kernel
theorem dX9_goes_59 : decode cX9_goes 59 = .ok (.goto 4, 3) := by decide +kernel
theorem dX9_goes_62 : decode cX9_goes 62 = .ok (.iconst (-1), 1) := by decide +kernel
theorem dX9_goes_63 : decode cX9_goes 63 = .ok (.ireturn, 1) := by decide +kernel
theorem dX9_count_0 : decode cX9_count 0 = .ok (.aload_n 0, 1) := by decide +kernel
theorem dX9_count_1 : decode cX9_count 1 = .ok (.iconst 0, 1) := by decide +kernel
theorem dX9_count_2 : decode cX9_count 2 = .ok (.putfield 1, 3) := by decide +kernel
theorem dX9_count_5 : decode cX9_count 5 = .ok (.iload_n 1, 1) := by decide +kernel
theorem dX9_count_6 : decode cX9_count 6 = .ok (.tableswitch 109 0 9 #[54, 59, 64, 69, 74, 79, 84, 89, 94, 104], 54) := by decide +kernel
theorem dX9_count_60 : decode cX9_count 60 = .ok (.aload_n 0, 1) := by decide +kernel
theorem dX9_count_61 : decode cX9_count 61 = .ok (.getfield 287, 3) := by decide +kernel
theorem dX9_count_64 : decode cX9_count 64 = .ok (.ireturn, 1) := by decide +kernel
theorem dX9_count_65 : decode cX9_count 65 = .ok (.aload_n 0, 1) := by decide +kernel
theorem dX9_count_66 : decode cX9_count 66 = .ok (.getfield 291, 3) := by decide +kernel
theorem dX9_count_69 : decode cX9_count 69 = .ok (.ireturn, 1) := by decide +kernel
theorem dX9_count_70 : decode cX9_count 70 = .ok (.aload_n 0, 1) := by decide +kernel
theorem dX9_count_71 : decode cX9_count 71 = .ok (.getfield 294, 3) := by decide +kernel
theorem dX9_count_74 : decode cX9_count 74 = .ok (.ireturn, 1) := by decide +kernel
theorem dX9_count_75 : decode cX9_count 75 = .ok (.aload_n 0, 1) := by decide +kernel
theorem dX9_count_76 : decode cX9_count 76 = .ok (.getfield 312, 3) := by decide +kernel
theorem dX9_count_79 : decode cX9_count 79 = .ok (.ireturn, 1) := by decide +kernel
theorem dX9_count_80 : decode cX9_count 80 = .ok (.aload_n 0, 1) := by decide +kernel
theorem dX9_count_81 : decode cX9_count 81 = .ok (.getfield 305, 3) := by decide +kernel
theorem dX9_count_84 : decode cX9_count 84 = .ok (.ireturn, 1) := by decide +kernel
theorem dX9_count_85 : decode cX9_count 85 = .ok (.aload_n 0, 1) := by decide +kernel
theorem dX9_count_86 : decode cX9_count 86 = .ok (.getfield 346, 3) := by decide +kernel
theorem dX9_count_89 : decode cX9_count 89 = .ok (.ireturn, 1) := by decide +kernel
theorem dX9_count_90 : decode cX9_count 90 = .ok (.aload_n 0, 1) := by decide +kernel
end
section
theorem dX9_count_91 : decode cX9_count 91 = .ok (.getfield 358, 3) := by decide +kernel
theorem dX9_count_94 : decode cX9_count 94 = .ok (.ireturn, 1) := by decide +kernel
theorem dX9_count_95 : decode cX9_count 95 = .ok (.aload_n 0, 1) := by decide +kernel
theorem dX9_count_96 : decode cX9_count 96 = .ok (.getfield 361, 3) := by decide +kernel
theorem dX9_count_99 : decode cX9_count 99 = .ok (.ireturn, 1) := by decide +kernel
theorem dX9_count_100 : decode cX9_count 100 = .ok (.aload_n 0, 1) := by decide +kernel
theorem dX9_count_101 : decode cX9_count 101 = .ok (.getfield 57, 3) := by decide +kernel
theorem dX9_count_104 : decode cX9_count 104 = .ok (.aload_n 0, 1) := by decide +kernel
theorem dX9_count_105 : decode cX9_count 105 = .ok (.getfield 244, 3) := by decide +kernel
theorem dX9_count_108 : decode cX9_count 108 = .ok (.iaload, 1) := by decide +kernel
theorem dX9_count_109 : decode cX9_count 109 = .ok (.ireturn, 1) := by decide +kernel
theorem dX9_count_110 : decode cX9_count 110 = .ok (.aload_n 0, 1) := by decide +kernel
theorem dX9_count_111 : decode cX9_count 111 = .ok (.getfield 11, 3) := by decide +kernel
theorem dX9_count_114 : decode cX9_count 114 = .ok (.ireturn, 1) := by decide +kernel
theorem dX9_count_115 : decode cX9_count 115 = .ok (.iconst (-1), 1) := by decide +kernel
theorem dX9_count_116 : decode cX9_count 116 = .ok (.ireturn, 1) := by decide +kernel
theorem dJ9_floorMod_7cf53_0 : decode cJ9_floorMod_7cf53 0 = .ok (.iload_n 0, 1) := by decide +kernel
theorem dJ9_floorMod_7cf53_1 : decode cJ9_floorMod_7cf53 1 = .ok (.iload_n 1, 1) := by decide +kernel
theorem dJ9_floorMod_7cf53_2 : decode cJ9_floorMod_7cf53 2 = .ok (.irem, 1) := by decide +kernel
theorem dJ9_floorMod_7cf53_3 : decode cJ9_floorMod_7cf53 3 = .ok (.istore_n 2, 1) := by decide +kernel
theorem dJ9_floorMod_7cf53_4 : decode cJ9_floorMod_7cf53 4 = .ok (.iload_n 0, 1) := by decide +kernel
theorem dJ9_floorMod_7cf53_5 : decode cJ9_floorMod_7cf53 5 = .ok (.iload_n 1, 1) := by decide +kernel
theorem dJ9_floorMod_7cf53_6 : decode cJ9_floorMod_7cf53 6 = .ok (.ixor, 1) := by decide +kernel
theorem dJ9_floorMod_7cf53_7 : decode cJ9_floorMod_7cf53 7 = .ok (.ifCond .ge 11, 3) := by decide +kernel
theorem dJ9_floorMod_7cf53_10 : decode cJ9_floorMod_7cf53 10 = .ok (.iload_n 2, 1) := by decide +kernel
theorem dJ9_floorMod_7cf53_11 : decode cJ9_floorMod_7cf53 11 = .ok (.ifCond .eq 7, 3) := by decide +kernel
theorem dJ9_floorMod_7cf53_14 : decode cJ9_floorMod_7cf53 14 = .ok (.iload_n 2, 1) := by decide +kernel
theorem dJ9_floorMod_7cf53_15 : decode cJ9_floorMod_7cf53 15 = .ok (.iload_n 1, 1) := by decide +kernel
theorem dJ9_floorMod_7cf53_16 : decode cJ9_floorMod_7cf53 16 = .ok (.iadd, 1) := by decide +kernel
theorem dJ9_floorMod_7cf53_17 : decode cJ9_floorMod_7cf53 17 = .ok (.ireturn, 1) := by decide +kernel
theorem dJ9_floorMod_7cf53_18 : decode cJ9_floorMod_7cf53 18 = .ok (.iload_n 2, 1) := by decide +kernel
theorem dJ9_floorMod_7cf53_19 : decode cJ9_floorMod_7cf53 19 = .ok (.ireturn, 1) := by decide +kernel
theorem dJ9_max_7cf53_0 : decode cJ9_max_7cf53 0 = .ok (.iload_n 0, 1) := by decide +kernel
theorem dJ9_max_7cf53_1 : decode cJ9_max_7cf53 1 = .ok (.iload_n 1, 1) := by decide +kernel
theorem dJ9_max_7cf53_2 : decode cJ9_max_7cf53 2 = .ok (.if_icmp .lt 7, 3) := by decide +kernel
theorem dJ9_max_7cf53_5 : decode cJ9_max_7cf53 5 = .ok (.iload_n 0, 1) := by decide +kernel
theorem dJ9_max_7cf53_6 : decode cJ9_max_7cf53 6 = .ok (.goto 4, 3) := by decide +kernel
theorem dJ9_max_7cf53_9 : decode cJ9_max_7cf53 9 = .ok (.iload_n 1, 1) := by decide +kernel
theorem dJ9_max_7cf53_10 : decode cJ9_max_7cf53 10 = .ok (.ireturn, 1) := by decide +kernel
theorem dJ9_min_7cf53_0 : decode cJ9_min_7cf53 0 = .ok (.iload_n 0, 1) := by decide +kernel
theorem dJ9_min_7cf53_1 : decode cJ9_min_7cf53 1 = .ok (.iload_n 1, 1) := by decide +kernel
theorem dJ9_min_7cf53_2 : decode cJ9_min_7cf53 2 = .ok (.if_icmp .gt 7, 3) := by decide +kernel
theorem dJ9_min_7cf53_5 : decode cJ9_min_7cf53 5 = .ok (.iload_n 0, 1) := by decide +kernel
theorem dJ9_min_7cf53_6 : decode cJ9_min_7cf53 6 = .ok (.goto 4, 3) := by decide +kernel
theorem dJ9_min_7cf53_9 : decode cJ9_min_7cf53 9 = .ok (.iload_n 1, 1) := by decide +kernel
theorem dJ9_min_7cf53_10 : decode cJ9_min_7cf53 10 = .ok (.ireturn, 1) := by decide +kernel
theorem dJ0_length_8abf5_0 : decode cJ0_length_8abf5 0 = .ok (.aload_n 0, 1) := by decide +kernel
theorem dJ0_length_8abf5_1 : decode cJ0_length_8abf5 1 = .ok (.getfield 9, 3) := by decide +kernel
theorem dJ0_length_8abf5_4 : decode cJ0_length_8abf5 4 = .ok (.arraylength, 1) := by decide +kernel
theorem dJ0_length_8abf5_5 : decode cJ0_length_8abf5 5 = .ok (.aload_n 0, 1) := by decide +kernel
theorem dJ0_length_8abf5_6 : decode cJ0_length_8abf5 6 = .ok (.invokevirtual 335, 3) := by decide +kernel
theorem dJ0_length_8abf5_9 : decode cJ0_length_8abf5 9 = .ok (.ishr, 1) := by decide +kernel
theorem dJ0_length_8abf5_10 : decode cJ0_length_8abf5 10 = .ok (.ireturn, 1) := by decide +kernel
theorem dJ0_charAt_5068e_0 : decode cJ0_charAt_5068e 0 = .ok (.aload_n 0, 1) := by decide +kernel
theorem dJ0_charAt_5068e_1 : decode cJ0_charAt_5068e 1 = .ok (.invokevirtual 492, 3) := by decide +kernel
theorem dJ0_charAt_5068e_4 : decode cJ0_charAt_5068e 4 = .ok (.ifCond .eq 12, 3) := by decide +kernel
theorem dJ0_charAt_5068e_7 : decode cJ0_charAt_5068e 7 = .ok (.aload_n 0, 1) := by decide +kernel
theorem dJ0_charAt_5068e_8 : decode cJ0_charAt_5068e 8 = .ok (.getfield 9, 3) := by decide +kernel
theorem dJ0_charAt_5068e_11 : decode cJ0_charAt_5068e 11 = .ok (.iload_n 1, 1) := by decide +kernel
theorem dJ0_charAt_5068e_12 : decode cJ0_charAt_5068e 12 = .ok (.invokestatic 495, 3) := by decide +kernel
theorem dJ0_charAt_5068e_15 : decode cJ0_charAt_5068e 15 = .ok (.ireturn, 1) := by decide +kernel
theorem dJ0_charAt_5068e_16 : decode cJ0_charAt_5068e 16 = .ok (.aload_n 0, 1) := by decide +kernel
theorem dJ0_charAt_5068e_17 : decode cJ0_charAt_5068e 17 = .ok (.getfield 9, 3) := by decide +kernel
theorem dJ0_charAt_5068e_20 : decode cJ0_charAt_5068e 20 = .ok (.iload_n 1, 1) := by decide +kernel
theorem dJ0_charAt_5068e_21 : decode cJ0_charAt_5068e 21 = .ok (.invokestatic 498, 3) := by decide +kernel
theorem dJ0_charAt_5068e_24 : decode cJ0_charAt_5068e 24 = .ok (.ireturn, 1) := by decide +kernel
theorem dJ0_coder_7d493_0 : decode cJ0_coder_7d493 0 = .ok (.getstatic 38, 3) := by decide +kernel
theorem dJ0_coder_7d493_3 : decode cJ0_coder_7d493 3 = .ok (.ifCond .eq 10, 3) := by decide +kernel
theorem dJ0_coder_7d493_6 : decode cJ0_coder_7d493 6 = .ok (.aload_n 0, 1) := by decide +kernel
theorem dJ0_coder_7d493_7 : decode cJ0_coder_7d493 7 = .ok (.getfield 15, 3) := by decide +kernel
theorem dJ0_coder_7d493_10 : decode cJ0_coder_7d493 10 = .ok (.goto 4, 3) := by decide +kernel
theorem dJ0_coder_7d493_13 : decode cJ0_coder_7d493 13 = .ok (.iconst 1, 1) := by decide +kernel
theorem dJ0_coder_7d493_14 : decode cJ0_coder_7d493 14 = .ok (.ireturn, 1) := by decide +kernel
theorem dJ0_isLatin1_aae02_0 : decode cJ0_isLatin1_aae02 0 = .ok (.getstatic 38, 3) := by decide +kernel
theorem dJ0_isLatin1_aae02_3 : decode cJ0_isLatin1_aae02 3 = .ok (.ifCond .eq 14, 3) := by decide +kernel
theorem dJ0_isLatin1_aae02_6 : decode cJ0_isLatin1_aae02 6 = .ok (.aload_n 0, 1) := by decide +kernel
theorem dJ0_isLatin1_aae02_7 : decode cJ0_isLatin1_aae02 7 = .ok (.getfield 15, 3) := by decide +kernel
theorem dJ0_isLatin1_aae02_10 : decode cJ0_isLatin1_aae02 10 = .ok (.ifCond .ne 7, 3) := by decide +kernel
theorem dJ0_isLatin1_aae02_13 : decode cJ0_isLatin1_aae02 13 = .ok (.iconst 1, 1) := by decide +kernel
theorem dJ0_isLatin1_aae02_14 : decode cJ0_isLatin1_aae02 14 = .ok (.goto 4, 3) := by decide +kernel
theorem dJ0_isLatin1_aae02_17 : decode cJ0_isLatin1_aae02 17 = .ok (.iconst 0, 1) := by decide +kernel
theorem dJ0_isLatin1_aae02_18 : decode cJ0_isLatin1_aae02 18 = .ok (.ireturn, 1) := by decide +kernel
theorem dJ0_checkIndex_df160_0 : decode cJ0_checkIndex_df160 0 = .ok (.iload_n 0, 1) := by decide +kernel
theorem dJ0_checkIndex_df160_1 : decode cJ0_checkIndex_df160 1 = .ok (.iload_n 1, 1) := by decide +kernel
theorem dJ0_checkIndex_df160_2 : decode cJ0_checkIndex_df160 2 = .ok (.getstatic 1053, 3) := by decide +kernel
theorem dJ0_checkIndex_df160_5 : decode cJ0_checkIndex_df160 5 = .ok (.invokestatic 1059, 3) := by decide +kernel
theorem dJ0_checkIndex_df160_8 : decode cJ0_checkIndex_df160 8 = .ok (.pop, 1) := by decide +kernel
theorem dJ0_checkIndex_df160_9 : decode cJ0_checkIndex_df160 9 = .ok (.return_, 1) := by decide +kernel
theorem dJ1_charAt_3b067_0 : decode cJ1_charAt_3b067 0 = .ok (.iload_n 1, 1) := by decide +kernel
theorem dJ1_charAt_3b067_1 : decode cJ1_charAt_3b067 1 = .ok (.aload_n 0, 1) := by decide +kernel
theorem dJ1_charAt_3b067_2 : decode cJ1_charAt_3b067 2 = .ok (.arraylength, 1) := by decide +kernel
theorem dJ1_charAt_3b067_3 : decode cJ1_charAt_3b067 3 = .ok (.invokestatic 9, 3) := by decide +kernel
theorem dJ1_charAt_3b067_6 : decode cJ1_charAt_3b067 6 = .ok (.aload_n 0, 1) := by decide +kernel
theorem dJ1_charAt_3b067_7 : decode cJ1_charAt_3b067 7 = .ok (.iload_n 1, 1) := by decide +kernel
theorem dJ1_charAt_3b067_8 : decode cJ1_charAt_3b067 8 = .ok (.baload, 1) := by decide +kernel
theorem dJ1_charAt_3b067_9 : decode cJ1_charAt_3b067 9 = .ok (.sipush 255, 3) := by decide +kernel
theorem dJ1_charAt_3b067_12 : decode cJ1_charAt_3b067 12 = .ok (.iand, 1) := by decide +kernel
theorem dJ1_charAt_3b067_13 : decode cJ1_charAt_3b067 13 = .ok (.i2c, 1) := by decide +kernel
theorem dJ1_charAt_3b067_14 : decode cJ1_charAt_3b067 14 = .ok (.ireturn, 1) := by decide +kernel
theorem dJ2_getChar_3b067_0 : decode cJ2_getChar_3b067 0 = .ok (.getstatic 44, 3) := by decide +kernel
theorem dJ2_getChar_3b067_3 : decode cJ2_getChar_3b067 3 = .ok (.ifCond .ne 25, 3) := by decide +kernel
theorem dJ2_getChar_3b067_6 : decode cJ2_getChar_3b067 6 = .ok (.iload_n 1, 1) := by decide +kernel
theorem dJ2_getChar_3b067_7 : decode cJ2_getChar_3b067 7 = .ok (.ifCond .lt 11, 3) := by decide +kernel
theorem dJ2_getChar_3b067_10 : decode cJ2_getChar_3b067 10 = .ok (.iload_n 1, 1) := by decide +kernel
theorem dJ2_getChar_3b067_11 : decode cJ2_getChar_3b067 11 = .ok (.aload_n 0, 1) := by decide +kernel
theorem dJ2_getChar_3b067_12 : decode cJ2_getChar_3b067 12 = .ok (.invokestatic 48, 3) := by decide +kernel
theorem dJ2_getChar_3b067_15 : decode cJ2_getChar_3b067 15 = .ok (.if_icmp .lt 13, 3) := by decide +kernel
theorem dJ2_getChar_3b067_18 : decode cJ2_getChar_3b067 18 = .ok (.new 52, 3) := by decide +kernel
theorem dJ2_getChar_3b067_21 : decode cJ2_getChar_3b067 21 = .ok (.dup, 1) := by decide +kernel
theorem dJ2_getChar_3b067_22 : decode cJ2_getChar_3b067 22 = .ok (.ldc 54, 2) := by decide +kernel
theorem dJ2_getChar_3b067_24 : decode cJ2_getChar_3b067 24 = .ok (.invokespecial 56, 3) := by decide +kernel
theorem dJ2_getChar_3b067_27 : decode cJ2_getChar_3b067 27 = .ok (.athrow, 1) := by decide +kernel
theorem dJ2_getChar_3b067_28 : decode cJ2_getChar_3b067 28 = .ok (.iload_n 1, 1) := by decide +kernel
theorem dJ2_getChar_3b067_29 : decode cJ2_getChar_3b067 29 = .ok (.iconst 1, 1) := by decide +kernel
theorem dJ2_getChar_3b067_30 : decode cJ2_getChar_3b067 30 = .ok (.ishl, 1) := by decide +kernel
theorem dJ2_getChar_3b067_31 : decode cJ2_getChar_3b067 31 = .ok (.istore_n 1, 1) := by decide +kernel
theorem dJ2_getChar_3b067_32 : decode cJ2_getChar_3b067 32 = .ok (.aload_n 0, 1) := by decide +kernel
theorem dJ2_getChar_3b067_33 : decode cJ2_getChar_3b067 33 = .ok (.iload_n 1, 1) := by decide +kernel
theorem dJ2_getChar_3b067_34 : decode cJ2_getChar_3b067 34 = .ok (.iinc 1 1, 3) := by decide +kernel
theorem dJ2_getChar_3b067_37 : decode cJ2_getChar_3b067 37 = .ok (.baload, 1) := by decide +kernel
theorem dJ2_getChar_3b067_38 : decode cJ2_getChar_3b067 38 = .ok (.sipush 255, 3) := by decide +kernel
theorem dJ2_getChar_3b067_41 : decode cJ2_getChar_3b067 41 = .ok (.iand, 1) := by decide +kernel
theorem dJ2_getChar_3b067_42 : decode cJ2_getChar_3b067 42 = .ok (.getstatic 59, 3) := by decide +kernel
theorem dJ2_getChar_3b067_45 : decode cJ2_getChar_3b067 45 = .ok (.ishl, 1) := by decide +kernel
theorem dJ2_getChar_3b067_46 : decode cJ2_getChar_3b067 46 = .ok (.aload_n 0, 1) := by decide +kernel
theorem dJ2_getChar_3b067_47 : decode cJ2_getChar_3b067 47 = .ok (.iload_n 1, 1) := by decide +kernel
theorem dJ2_getChar_3b067_48 : decode cJ2_getChar_3b067 48 = .ok (.baload, 1) := by decide +kernel
theorem dJ2_getChar_3b067_49 : decode cJ2_getChar_3b067 49 = .ok (.sipush 255, 3) := by decide +kernel
theorem dJ2_getChar_3b067_52 : decode cJ2_getChar_3b067 52 = .ok (.iand, 1) := by decide +kernel
theorem dJ2_getChar_3b067_53 : decode cJ2_getChar_3b067 53 = .ok (.getstatic 63, 3) := by decide +kernel
theorem dJ2_getChar_3b067_56 : decode cJ2_getChar_3b067 56 = .ok (.ishl, 1) := by decide +kernel
theorem dJ2_getChar_3b067_57 : decode cJ2_getChar_3b067 57 = .ok (.ior, 1) := by decide +kernel
theorem dJ2_getChar_3b067_58 : decode cJ2_getChar_3b067 58 = .ok (.i2c, 1) := by decide +kernel
theorem dJ2_getChar_3b067_59 : decode cJ2_getChar_3b067 59 = .ok (.ireturn, 1) := by decide +kernel
theorem dJ2_length_9d52b_0 : decode cJ2_length_9d52b 0 = .ok (.aload_n 0, 1) := by decide +kernel
theorem dJ2_length_9d52b_1 : decode cJ2_length_9d52b 1 = .ok (.arraylength, 1) := by decide +kernel
theorem dJ2_length_9d52b_2 : decode cJ2_length_9d52b 2 = .ok (.iconst 1, 1) := by decide +kernel
theorem dJ2_length_9d52b_3 : decode cJ2_length_9d52b 3 = .ok (.ishr, 1) := by decide +kernel
theorem dJ2_length_9d52b_4 : decode cJ2_length_9d52b 4 = .ok (.ireturn, 1) := by decide +kernel
theorem dJ2_charAt_3b067_0 : decode cJ2_charAt_3b067 0 = .ok (.iload_n 1, 1) := by decide +kernel
theorem dJ2_charAt_3b067_1 : decode cJ2_charAt_3b067 1 = .ok (.aload_n 0, 1) := by decide +kernel
theorem dJ2_charAt_3b067_2 : decode cJ2_charAt_3b067 2 = .ok (.invokestatic 67, 3) := by decide +kernel
theorem dJ2_charAt_3b067_5 : decode cJ2_charAt_3b067 5 = .ok (.aload_n 0, 1) := by decide +kernel
theorem dJ2_charAt_3b067_6 : decode cJ2_charAt_3b067 6 = .ok (.iload_n 1, 1) := by decide +kernel
theorem dJ2_charAt_3b067_7 : decode cJ2_charAt_3b067 7 = .ok (.invokestatic 71, 3) := by decide +kernel
theorem dJ2_charAt_3b067_10 : decode cJ2_charAt_3b067 10 = .ok (.ireturn, 1) := by decide +kernel
theorem dJ2_checkIndex_2214a_0 : decode cJ2_checkIndex_2214a 0 = .ok (.iload_n 0, 1) := by decide +kernel
theorem dJ2_checkIndex_2214a_1 : decode cJ2_checkIndex_2214a 1 = .ok (.aload_n 1, 1) := by decide +kernel
theorem dJ2_checkIndex_2214a_2 : decode cJ2_checkIndex_2214a 2 = .ok (.invokestatic 48, 3) := by decide +kernel
theorem dJ2_checkIndex_2214a_5 : decode cJ2_checkIndex_2214a 5 = .ok (.invokestatic 414, 3) := by decide +kernel
theorem dJ2_checkIndex_2214a_8 : decode cJ2_checkIndex_2214a 8 = .ok (.return_, 1) := by decide +kernel
theorem dJ3_checkIndex_8e157_0 : decode cJ3_checkIndex_8e157 0 = .ok (.iload_n 0, 1) := by decide +kernel
theorem dJ3_checkIndex_8e157_1 : decode cJ3_checkIndex_8e157 1 = .ok (.ifCond .lt 8, 3) := by decide +kernel
theorem dJ3_checkIndex_8e157_4 : decode cJ3_checkIndex_8e157 4 = .ok (.iload_n 0, 1) := by decide +kernel
theorem dJ3_checkIndex_8e157_5 : decode cJ3_checkIndex_8e157 5 = .ok (.iload_n 1, 1) := by decide +kernel
theorem dJ3_checkIndex_8e157_6 : decode cJ3_checkIndex_8e157 6 = .ok (.if_icmp .lt 10, 3) := by decide +kernel
theorem dJ3_checkIndex_8e157_9 : decode cJ3_checkIndex_8e157 9 = .ok (.aload_n 2, 1) := by decide +kernel
theorem dJ3_checkIndex_8e157_10 : decode cJ3_checkIndex_8e157 10 = .ok (.iload_n 0, 1) := by decide +kernel
theorem dJ3_checkIndex_8e157_11 : decode cJ3_checkIndex_8e157 11 = .ok (.iload_n 1, 1) := by decide +kernel
theorem dJ3_checkIndex_8e157_12 : decode cJ3_checkIndex_8e157 12 = .ok (.invokestatic 95, 3) := by decide +kernel
theorem dJ3_checkIndex_8e157_15 : decode cJ3_checkIndex_8e157 15 = .ok (.athrow, 1) := by decide +kernel
theorem dJ3_checkIndex_8e157_16 : decode cJ3_checkIndex_8e157 16 = .ok (.iload_n 0, 1) := by decide +kernel
theorem dJ3_checkIndex_8e157_17 : decode cJ3_checkIndex_8e157 17 = .ok (.ireturn, 1) := by decide +kernel
theorem dL_look_0 : decode cL_look 0 = .ok (.aload_n 3, 1) := by decide +kernel
theorem dL_look_1 : decode cL_look 1 = .ok (.iconst 0, 1) := by decide +kernel
theorem dL_look_2 : decode cL_look 2 = .ok (.aload_n 0, 1) := by decide +kernel
theorem dL_look_3 : decode cL_look 3 = .ok (.iload_n 1, 1) := by decide +kernel
theorem dL_look_4 : decode cL_look 4 = .ok (.iload_n 2, 1) := by decide +kernel
theorem dL_look_5 : decode cL_look 5 = .ok (.invokevirtual 7, 3) := by decide +kernel
theorem dL_look_8 : decode cL_look 8 = .ok (.i2l, 1) := by decide +kernel
theorem dL_look_9 : decode cL_look 9 = .ok (.lastore, 1) := by decide +kernel
theorem dL_look_10 : decode cL_look 10 = .ok (.goto 7, 3) := by decide +kernel
theorem dL_look_13 : decode cL_look 13 = .ok (.astore 4, 2) := by decide +kernel
theorem dL_look_15 : decode cL_look 15 = .ok (.iconst 1, 1) := by decide +kernel
theorem dL_look_16 : decode cL_look 16 = .ok (.ireturn, 1) := by decide +kernel
theorem dL_look_17 : decode cL_look 17 = .ok (.iconst 0, 1) := by decide +kernel
theorem dL_look_18 : decode cL_look 18 = .ok (.ireturn, 1) := by decide +kernel
theorem dL_law_0 : decode cL_law 0 = .ok (.new 8, 3) := by decide +kernel
theorem dL_law_3 : decode cL_law 3 = .ok (.dup, 1) := by decide +kernel
theorem dL_law_4 : decode cL_law 4 = .ok (.invokespecial 15, 3) := by decide +kernel
theorem dL_law_7 : decode cL_law 7 = .ok (.astore_n 1, 1) := by decide +kernel
theorem dL_law_8 : decode cL_law 8 = .ok (.new 16, 3) := by decide +kernel
theorem dL_law_11 : decode cL_law 11 = .ok (.dup, 1) := by decide +kernel
theorem dL_law_12 : decode cL_law 12 = .ok (.invokespecial 18, 3) := by decide +kernel
theorem dL_law_15 : decode cL_law 15 = .ok (.astore_n 2, 1) := by decide +kernel
theorem dL_law_16 : decode cL_law 16 = .ok (.iconst 1, 1) := by decide +kernel
theorem dL_law_17 : decode cL_law 17 = .ok (.newarray .long, 2) := by decide +kernel
theorem dL_law_19 : decode cL_law 19 = .ok (.astore_n 3, 1) := by decide +kernel
theorem dL_law_20 : decode cL_law 20 = .ok (.iconst 0, 1) := by decide +kernel
theorem dL_law_21 : decode cL_law 21 = .ok (.istore 4, 2) := by decide +kernel
theorem dL_law_23 : decode cL_law 23 = .ok (.iload 4, 2) := by decide +kernel
theorem dL_law_25 : decode cL_law 25 = .ok (.aload_n 0, 1) := by decide +kernel
theorem dL_law_26 : decode cL_law 26 = .ok (.arraylength, 1) := by decide +kernel
theorem dL_law_27 : decode cL_law 27 = .ok (.bipush 7, 2) := by decide +kernel
theorem dL_law_29 : decode cL_law 29 = .ok (.isub, 1) := by decide +kernel
theorem dL_law_30 : decode cL_law 30 = .ok (.if_icmp .gt 998, 3) := by decide +kernel
theorem dL_law_33 : decode cL_law 33 = .ok (.aload_n 0, 1) := by decide +kernel
theorem dL_law_34 : decode cL_law 34 = .ok (.iload 4, 2) := by decide +kernel
theorem dL_law_36 : decode cL_law 36 = .ok (.iaload, 1) := by decide +kernel
theorem dL_law_37 : decode cL_law 37 = .ok (.bipush 31, 2) := by decide +kernel
theorem dL_law_39 : decode cL_law 39 = .ok (.iand, 1) := by decide +kernel
theorem dL_law_40 : decode cL_law 40 = .ok (.tableswitch 982 0 20 #[100, 161, 210, 259, 308, 455, 468, 493, 518, 543, 568, 593, 642, 667, 704, 765, 790, 815, 883, 920, 957], 100) := by decide +kernel
theorem dL_law_140 : decode cL_law 140 = .ok (.aload_n 1, 1) := by decide +kernel
theorem dL_law_141 : decode cL_law 141 = .ok (.aload_n 0, 1) := by decide +kernel
theorem dL_law_142 : decode cL_law 142 = .ok (.iload 4, 2) := by decide +kernel
theorem dL_law_144 : decode cL_law 144 = .ok (.iconst 1, 1) := by decide +kernel
theorem dL_law_145 : decode cL_law 145 = .ok (.iadd, 1) := by decide +kernel
theorem dL_law_146 : decode cL_law 146 = .ok (.iaload, 1) := by decide +kernel
theorem dL_law_147 : decode cL_law 147 = .ok (.aload_n 0, 1) := by decide +kernel
theorem dL_law_148 : decode cL_law 148 = .ok (.iload 4, 2) := by decide +kernel
theorem dL_law_150 : decode cL_law 150 = .ok (.iconst 2, 1) := by decide +kernel
theorem dL_law_151 : decode cL_law 151 = .ok (.iadd, 1) := by decide +kernel
theorem dL_law_152 : decode cL_law 152 = .ok (.iaload, 1) := by decide +kernel
theorem dL_law_153 : decode cL_law 153 = .ok (.aload_n 0, 1) := by decide +kernel
theorem dL_law_154 : decode cL_law 154 = .ok (.iload 4, 2) := by decide +kernel
theorem dL_law_156 : decode cL_law 156 = .ok (.iconst 3, 1) := by decide +kernel
theorem dL_law_157 : decode cL_law 157 = .ok (.iadd, 1) := by decide +kernel
theorem dL_law_158 : decode cL_law 158 = .ok (.iaload, 1) := by decide +kernel
theorem dL_law_159 : decode cL_law 159 = .ok (.aload_n 0, 1) := by decide +kernel
theorem dL_law_160 : decode cL_law 160 = .ok (.iload 4, 2) := by decide +kernel
theorem dL_law_162 : decode cL_law 162 = .ok (.iconst 4, 1) := by decide +kernel
theorem dL_law_163 : decode cL_law 163 = .ok (.iadd, 1) := by decide +kernel
theorem dL_law_164 : decode cL_law 164 = .ok (.iaload, 1) := by decide +kernel
theorem dL_law_165 : decode cL_law 165 = .ok (.invokevirtual 19, 3) := by decide +kernel
theorem dL_law_168 : decode cL_law 168 = .ok (.aload_n 2, 1) := by decide +kernel
theorem dL_law_169 : decode cL_law 169 = .ok (.aload_n 0, 1) := by decide +kernel
theorem dL_law_170 : decode cL_law 170 = .ok (.iload 4, 2) := by decide +kernel
theorem dL_law_172 : decode cL_law 172 = .ok (.iconst 1, 1) := by decide +kernel
theorem dL_law_173 : decode cL_law 173 = .ok (.iadd, 1) := by decide +kernel
theorem dL_law_174 : decode cL_law 174 = .ok (.iaload, 1) := by decide +kernel
theorem dL_law_175 : decode cL_law 175 = .ok (.aload_n 0, 1) := by decide +kernel
theorem dL_law_176 : decode cL_law 176 = .ok (.iload 4, 2) := by decide +kernel
theorem dL_law_178 : decode cL_law 178 = .ok (.iconst 2, 1) := by decide +kernel
theorem dL_law_179 : decode cL_law 179 = .ok (.iadd, 1) := by decide +kernel
theorem dL_law_180 : decode cL_law 180 = .ok (.iaload, 1) := by decide +kernel
theorem dL_law_181 : decode cL_law 181 = .ok (.aload_n 0, 1) := by decide +kernel
theorem dL_law_182 : decode cL_law 182 = .ok (.iload 4, 2) := by decide +kernel
theorem dL_law_184 : decode cL_law 184 = .ok (.iconst 3, 1) := by decide +kernel
theorem dL_law_185 : decode cL_law 185 = .ok (.iadd, 1) := by decide +kernel
theorem dL_law_186 : decode cL_law 186 = .ok (.iaload, 1) := by decide +kernel
theorem dL_law_187 : decode cL_law 187 = .ok (.aload_n 0, 1) := by decide +kernel
theorem dL_law_188 : decode cL_law 188 = .ok (.iload 4, 2) := by decide +kernel
theorem dL_law_190 : decode cL_law 190 = .ok (.iconst 4, 1) := by decide +kernel
theorem dL_law_191 : decode cL_law 191 = .ok (.iadd, 1) := by decide +kernel
theorem dL_law_192 : decode cL_law 192 = .ok (.iaload, 1) := by decide +kernel
theorem dL_law_193 : decode cL_law 193 = .ok (.invokevirtual 23, 3) := by decide +kernel
theorem dL_law_196 : decode cL_law 196 = .ok (.if_icmp .eq 826, 3) := by decide +kernel
theorem dL_law_199 : decode cL_law 199 = .ok (.iconst 0, 1) := by decide +kernel
theorem dL_law_200 : decode cL_law 200 = .ok (.ireturn, 1) := by decide +kernel
theorem dL_law_201 : decode cL_law 201 = .ok (.aload_n 1, 1) := by decide +kernel
theorem dL_law_202 : decode cL_law 202 = .ok (.aload_n 0, 1) := by decide +kernel
theorem dL_law_203 : decode cL_law 203 = .ok (.iload 4, 2) := by decide +kernel
theorem dL_law_205 : decode cL_law 205 = .ok (.iconst 1, 1) := by decide +kernel
theorem dL_law_206 : decode cL_law 206 = .ok (.iadd, 1) := by decide +kernel
theorem dL_law_207 : decode cL_law 207 = .ok (.iaload, 1) := by decide +kernel
theorem dL_law_208 : decode cL_law 208 = .ok (.aload_n 0, 1) := by decide +kernel
theorem dL_law_209 : decode cL_law 209 = .ok (.iload 4, 2) := by decide +kernel
theorem dL_law_211 : decode cL_law 211 = .ok (.iconst 2, 1) := by decide +kernel
theorem dL_law_212 : decode cL_law 212 = .ok (.iadd, 1) := by decide +kernel
theorem dL_law_213 : decode cL_law 213 = .ok (.iaload, 1) := by decide +kernel
theorem dL_law_214 : decode cL_law 214 = .ok (.aload_n 0, 1) := by decide +kernel
theorem dL_law_215 : decode cL_law 215 = .ok (.iload 4, 2) := by decide +kernel
theorem dL_law_217 : decode cL_law 217 = .ok (.iconst 3, 1) := by decide +kernel
theorem dL_law_218 : decode cL_law 218 = .ok (.iadd, 1) := by decide +kernel
theorem dL_law_219 : decode cL_law 219 = .ok (.iaload, 1) := by decide +kernel
theorem dL_law_220 : decode cL_law 220 = .ok (.invokevirtual 24, 3) := by decide +kernel
theorem dL_law_223 : decode cL_law 223 = .ok (.aload_n 2, 1) := by decide +kernel
theorem dL_law_224 : decode cL_law 224 = .ok (.aload_n 0, 1) := by decide +kernel
theorem dL_law_225 : decode cL_law 225 = .ok (.iload 4, 2) := by decide +kernel
theorem dL_law_227 : decode cL_law 227 = .ok (.iconst 1, 1) := by decide +kernel
theorem dL_law_228 : decode cL_law 228 = .ok (.iadd, 1) := by decide +kernel
theorem dL_law_229 : decode cL_law 229 = .ok (.iaload, 1) := by decide +kernel
theorem dL_law_230 : decode cL_law 230 = .ok (.aload_n 0, 1) := by decide +kernel
theorem dL_law_231 : decode cL_law 231 = .ok (.iload 4, 2) := by decide +kernel
theorem dL_law_233 : decode cL_law 233 = .ok (.iconst 2, 1) := by decide +kernel
theorem dL_law_234 : decode cL_law 234 = .ok (.iadd, 1) := by decide +kernel
theorem dL_law_235 : decode cL_law 235 = .ok (.iaload, 1) := by decide +kernel
theorem dL_law_236 : decode cL_law 236 = .ok (.aload_n 0, 1) := by decide +kernel
theorem dL_law_237 : decode cL_law 237 = .ok (.iload 4, 2) := by decide +kernel
theorem dL_law_239 : decode cL_law 239 = .ok (.iconst 3, 1) := by decide +kernel
theorem dL_law_240 : decode cL_law 240 = .ok (.iadd, 1) := by decide +kernel
theorem dL_law_241 : decode cL_law 241 = .ok (.iaload, 1) := by decide +kernel
theorem dL_law_242 : decode cL_law 242 = .ok (.invokevirtual 28, 3) := by decide +kernel
theorem dL_law_245 : decode cL_law 245 = .ok (.if_icmp .eq 777, 3) := by decide +kernel
theorem dL_law_248 : decode cL_law 248 = .ok (.iconst 0, 1) := by decide +kernel
theorem dL_law_249 : decode cL_law 249 = .ok (.ireturn, 1) := by decide +kernel
theorem dL_law_250 : decode cL_law 250 = .ok (.aload_n 1, 1) := by decide +kernel
theorem dL_law_251 : decode cL_law 251 = .ok (.aload_n 0, 1) := by decide +kernel
theorem dL_law_252 : decode cL_law 252 = .ok (.iload 4, 2) := by decide +kernel
theorem dL_law_254 : decode cL_law 254 = .ok (.iconst 1, 1) := by decide +kernel
theorem dL_law_255 : decode cL_law 255 = .ok (.iadd, 1) := by decide +kernel
theorem dL_law_256 : decode cL_law 256 = .ok (.iaload, 1) := by decide +kernel
theorem dL_law_257 : decode cL_law 257 = .ok (.aload_n 0, 1) := by decide +kernel
theorem dL_law_258 : decode cL_law 258 = .ok (.iload 4, 2) := by decide +kernel
theorem dL_law_260 : decode cL_law 260 = .ok (.iconst 2, 1) := by decide +kernel
theorem dL_law_261 : decode cL_law 261 = .ok (.iadd, 1) := by decide +kernel
theorem dL_law_262 : decode cL_law 262 = .ok (.iaload, 1) := by decide +kernel
theorem dL_law_263 : decode cL_law 263 = .ok (.aload_n 0, 1) := by decide +kernel
theorem dL_law_264 : decode cL_law 264 = .ok (.iload 4, 2) := by decide +kernel
theorem dL_law_266 : decode cL_law 266 = .ok (.iconst 3, 1) := by decide +kernel
theorem dL_law_267 : decode cL_law 267 = .ok (.iadd, 1) := by decide +kernel
theorem dL_law_268 : decode cL_law 268 = .ok (.iaload, 1) := by decide +kernel
theorem dL_law_269 : decode cL_law 269 = .ok (.invokevirtual 29, 3) := by decide +kernel
theorem dL_law_272 : decode cL_law 272 = .ok (.aload_n 2, 1) := by decide +kernel
theorem dL_law_273 : decode cL_law 273 = .ok (.aload_n 0, 1) := by decide +kernel
theorem dL_law_274 : decode cL_law 274 = .ok (.iload 4, 2) := by decide +kernel
theorem dL_law_276 : decode cL_law 276 = .ok (.iconst 1, 1) := by decide +kernel
theorem dL_law_277 : decode cL_law 277 = .ok (.iadd, 1) := by decide +kernel
theorem dL_law_278 : decode cL_law 278 = .ok (.iaload, 1) := by decide +kernel
theorem dL_law_279 : decode cL_law 279 = .ok (.aload_n 0, 1) := by decide +kernel
theorem dL_law_280 : decode cL_law 280 = .ok (.iload 4, 2) := by decide +kernel
theorem dL_law_282 : decode cL_law 282 = .ok (.iconst 2, 1) := by decide +kernel
theorem dL_law_283 : decode cL_law 283 = .ok (.iadd, 1) := by decide +kernel
theorem dL_law_284 : decode cL_law 284 = .ok (.iaload, 1) := by decide +kernel
theorem dL_law_285 : decode cL_law 285 = .ok (.aload_n 0, 1) := by decide +kernel
theorem dL_law_286 : decode cL_law 286 = .ok (.iload 4, 2) := by decide +kernel
theorem dL_law_288 : decode cL_law 288 = .ok (.iconst 3, 1) := by decide +kernel
theorem dL_law_289 : decode cL_law 289 = .ok (.iadd, 1) := by decide +kernel
theorem dL_law_290 : decode cL_law 290 = .ok (.iaload, 1) := by decide +kernel
theorem dL_law_291 : decode cL_law 291 = .ok (.invokevirtual 32, 3) := by decide +kernel
theorem dL_law_294 : decode cL_law 294 = .ok (.if_icmp .eq 728, 3) := by decide +kernel
theorem dL_law_297 : decode cL_law 297 = .ok (.iconst 0, 1) := by decide +kernel
theorem dL_law_298 : decode cL_law 298 = .ok (.ireturn, 1) := by decide +kernel
theorem dL_law_299 : decode cL_law 299 = .ok (.aload_n 1, 1) := by decide +kernel
theorem dL_law_300 : decode cL_law 300 = .ok (.aload_n 0, 1) := by decide +kernel
theorem dL_law_301 : decode cL_law 301 = .ok (.iload 4, 2) := by decide +kernel
theorem dL_law_303 : decode cL_law 303 = .ok (.iconst 1, 1) := by decide +kernel
theorem dL_law_304 : decode cL_law 304 = .ok (.iadd, 1) := by decide +kernel
theorem dL_law_305 : decode cL_law 305 = .ok (.iaload, 1) := by decide +kernel
theorem dL_law_306 : decode cL_law 306 = .ok (.aload_n 0, 1) := by decide +kernel
theorem dL_law_307 : decode cL_law 307 = .ok (.iload 4, 2) := by decide +kernel
theorem dL_law_309 : decode cL_law 309 = .ok (.iconst 2, 1) := by decide +kernel
theorem dL_law_310 : decode cL_law 310 = .ok (.iadd, 1) := by decide +kernel
theorem dL_law_311 : decode cL_law 311 = .ok (.iaload, 1) := by decide +kernel
theorem dL_law_312 : decode cL_law 312 = .ok (.aload_n 0, 1) := by decide +kernel
theorem dL_law_313 : decode cL_law 313 = .ok (.iload 4, 2) := by decide +kernel
theorem dL_law_315 : decode cL_law 315 = .ok (.iconst 3, 1) := by decide +kernel
theorem dL_law_316 : decode cL_law 316 = .ok (.iadd, 1) := by decide +kernel
theorem dL_law_317 : decode cL_law 317 = .ok (.iaload, 1) := by decide +kernel
theorem dL_law_318 : decode cL_law 318 = .ok (.invokevirtual 33, 3) := by decide +kernel
theorem dL_law_321 : decode cL_law 321 = .ok (.aload_n 2, 1) := by decide +kernel
theorem dL_law_322 : decode cL_law 322 = .ok (.aload_n 0, 1) := by decide +kernel
theorem dL_law_323 : decode cL_law 323 = .ok (.iload 4, 2) := by decide +kernel
theorem dL_law_325 : decode cL_law 325 = .ok (.iconst 1, 1) := by decide +kernel
theorem dL_law_326 : decode cL_law 326 = .ok (.iadd, 1) := by decide +kernel
theorem dL_law_327 : decode cL_law 327 = .ok (.iaload, 1) := by decide +kernel
theorem dL_law_328 : decode cL_law 328 = .ok (.aload_n 0, 1) := by decide +kernel
theorem dL_law_329 : decode cL_law 329 = .ok (.iload 4, 2) := by decide +kernel
theorem dL_law_331 : decode cL_law 331 = .ok (.iconst 2, 1) := by decide +kernel
theorem dL_law_332 : decode cL_law 332 = .ok (.iadd, 1) := by decide +kernel
theorem dL_law_333 : decode cL_law 333 = .ok (.iaload, 1) := by decide +kernel
theorem dL_law_334 : decode cL_law 334 = .ok (.aload_n 0, 1) := by decide +kernel
theorem dL_law_335 : decode cL_law 335 = .ok (.iload 4, 2) := by decide +kernel
theorem dL_law_337 : decode cL_law 337 = .ok (.iconst 3, 1) := by decide +kernel
theorem dL_law_338 : decode cL_law 338 = .ok (.iadd, 1) := by decide +kernel
theorem dL_law_339 : decode cL_law 339 = .ok (.iaload, 1) := by decide +kernel
theorem dL_law_340 : decode cL_law 340 = .ok (.invokevirtual 37, 3) := by decide +kernel
theorem dL_law_343 : decode cL_law 343 = .ok (.if_icmp .eq 679, 3) := by decide +kernel
theorem dL_law_346 : decode cL_law 346 = .ok (.iconst 0, 1) := by decide +kernel
theorem dL_law_347 : decode cL_law 347 = .ok (.ireturn, 1) := by decide +kernel
theorem dL_law_348 : decode cL_law 348 = .ok (.aload_n 1, 1) := by decide +kernel
theorem dL_law_349 : decode cL_law 349 = .ok (.aload_n 0, 1) := by decide +kernel
theorem dL_law_350 : decode cL_law 350 = .ok (.iload 4, 2) := by decide +kernel
theorem dL_law_352 : decode cL_law 352 = .ok (.iconst 1, 1) := by decide +kernel
theorem dL_law_353 : decode cL_law 353 = .ok (.iadd, 1) := by decide +kernel
theorem dL_law_354 : decode cL_law 354 = .ok (.iaload, 1) := by decide +kernel
theorem dL_law_355 : decode cL_law 355 = .ok (.i2l, 1) := by decide +kernel
theorem dL_law_356 : decode cL_law 356 = .ok (.bipush 32, 2) := by decide +kernel
theorem dL_law_358 : decode cL_law 358 = .ok (.lshl, 1) := by decide +kernel
theorem dL_law_359 : decode cL_law 359 = .ok (.aload_n 0, 1) := by decide +kernel
theorem dL_law_360 : decode cL_law 360 = .ok (.iload 4, 2) := by decide +kernel
theorem dL_law_362 : decode cL_law 362 = .ok (.iconst 2, 1) := by decide +kernel
theorem dL_law_363 : decode cL_law 363 = .ok (.iadd, 1) := by decide +kernel
theorem dL_law_364 : decode cL_law 364 = .ok (.iaload, 1) := by decide +kernel
theorem dL_law_365 : decode cL_law 365 = .ok (.i2l, 1) := by decide +kernel
theorem dL_law_366 : decode cL_law 366 = .ok (.ldc2_w 38, 3) := by decide +kernel
theorem dL_law_369 : decode cL_law 369 = .ok (.land, 1) := by decide +kernel
theorem dL_law_370 : decode cL_law 370 = .ok (.lor, 1) := by decide +kernel
theorem dL_law_371 : decode cL_law 371 = .ok (.aload_n 0, 1) := by decide +kernel
theorem dL_law_372 : decode cL_law 372 = .ok (.iload 4, 2) := by decide +kernel
theorem dL_law_374 : decode cL_law 374 = .ok (.iconst 3, 1) := by decide +kernel
theorem dL_law_375 : decode cL_law 375 = .ok (.iadd, 1) := by decide +kernel
theorem dL_law_376 : decode cL_law 376 = .ok (.iaload, 1) := by decide +kernel
theorem dL_law_377 : decode cL_law 377 = .ok (.i2l, 1) := by decide +kernel
theorem dL_law_378 : decode cL_law 378 = .ok (.bipush 32, 2) := by decide +kernel
theorem dL_law_380 : decode cL_law 380 = .ok (.lshl, 1) := by decide +kernel
theorem dL_law_381 : decode cL_law 381 = .ok (.aload_n 0, 1) := by decide +kernel
theorem dL_law_382 : decode cL_law 382 = .ok (.iload 4, 2) := by decide +kernel
theorem dL_law_384 : decode cL_law 384 = .ok (.iconst 4, 1) := by decide +kernel
theorem dL_law_385 : decode cL_law 385 = .ok (.iadd, 1) := by decide +kernel
theorem dL_law_386 : decode cL_law 386 = .ok (.iaload, 1) := by decide +kernel
theorem dL_law_387 : decode cL_law 387 = .ok (.i2l, 1) := by decide +kernel
theorem dL_law_388 : decode cL_law 388 = .ok (.ldc2_w 38, 3) := by decide +kernel
theorem dL_law_391 : decode cL_law 391 = .ok (.land, 1) := by decide +kernel
theorem dL_law_392 : decode cL_law 392 = .ok (.lor, 1) := by decide +kernel
theorem dL_law_393 : decode cL_law 393 = .ok (.aload_n 0, 1) := by decide +kernel
theorem dL_law_394 : decode cL_law 394 = .ok (.iload 4, 2) := by decide +kernel
theorem dL_law_396 : decode cL_law 396 = .ok (.iconst 5, 1) := by decide +kernel
theorem dL_law_397 : decode cL_law 397 = .ok (.iadd, 1) := by decide +kernel
theorem dL_law_398 : decode cL_law 398 = .ok (.iaload, 1) := by decide +kernel
theorem dL_law_399 : decode cL_law 399 = .ok (.i2l, 1) := by decide +kernel
theorem dL_law_400 : decode cL_law 400 = .ok (.bipush 32, 2) := by decide +kernel
theorem dL_law_402 : decode cL_law 402 = .ok (.lshl, 1) := by decide +kernel
theorem dL_law_403 : decode cL_law 403 = .ok (.aload_n 0, 1) := by decide +kernel
theorem dL_law_404 : decode cL_law 404 = .ok (.iload 4, 2) := by decide +kernel
theorem dL_law_406 : decode cL_law 406 = .ok (.bipush 6, 2) := by decide +kernel
theorem dL_law_408 : decode cL_law 408 = .ok (.iadd, 1) := by decide +kernel
theorem dL_law_409 : decode cL_law 409 = .ok (.iaload, 1) := by decide +kernel
theorem dL_law_410 : decode cL_law 410 = .ok (.i2l, 1) := by decide +kernel
theorem dL_law_411 : decode cL_law 411 = .ok (.ldc2_w 38, 3) := by decide +kernel
theorem dL_law_414 : decode cL_law 414 = .ok (.land, 1) := by decide +kernel
theorem dL_law_415 : decode cL_law 415 = .ok (.lor, 1) := by decide +kernel
theorem dL_law_416 : decode cL_law 416 = .ok (.invokevirtual 40, 3) := by decide +kernel
theorem dL_law_419 : decode cL_law 419 = .ok (.aload_n 2, 1) := by decide +kernel
theorem dL_law_420 : decode cL_law 420 = .ok (.aload_n 0, 1) := by decide +kernel
theorem dL_law_421 : decode cL_law 421 = .ok (.iload 4, 2) := by decide +kernel
theorem dL_law_423 : decode cL_law 423 = .ok (.iconst 1, 1) := by decide +kernel
theorem dL_law_424 : decode cL_law 424 = .ok (.iadd, 1) := by decide +kernel
theorem dL_law_425 : decode cL_law 425 = .ok (.iaload, 1) := by decide +kernel
theorem dL_law_426 : decode cL_law 426 = .ok (.i2l, 1) := by decide +kernel
theorem dL_law_427 : decode cL_law 427 = .ok (.bipush 32, 2) := by decide +kernel
theorem dL_law_429 : decode cL_law 429 = .ok (.lshl, 1) := by decide +kernel
theorem dL_law_430 : decode cL_law 430 = .ok (.aload_n 0, 1) := by decide +kernel
theorem dL_law_431 : decode cL_law 431 = .ok (.iload 4, 2) := by decide +kernel
theorem dL_law_433 : decode cL_law 433 = .ok (.iconst 2, 1) := by decide +kernel
theorem dL_law_434 : decode cL_law 434 = .ok (.iadd, 1) := by decide +kernel
theorem dL_law_435 : decode cL_law 435 = .ok (.iaload, 1) := by decide +kernel
theorem dL_law_436 : decode cL_law 436 = .ok (.i2l, 1) := by decide +kernel
theorem dL_law_437 : decode cL_law 437 = .ok (.ldc2_w 38, 3) := by decide +kernel
theorem dL_law_440 : decode cL_law 440 = .ok (.land, 1) := by decide +kernel
theorem dL_law_441 : decode cL_law 441 = .ok (.lor, 1) := by decide +kernel
theorem dL_law_442 : decode cL_law 442 = .ok (.aload_n 0, 1) := by decide +kernel
theorem dL_law_443 : decode cL_law 443 = .ok (.iload 4, 2) := by decide +kernel
theorem dL_law_445 : decode cL_law 445 = .ok (.iconst 3, 1) := by decide +kernel
theorem dL_law_446 : decode cL_law 446 = .ok (.iadd, 1) := by decide +kernel
theorem dL_law_447 : decode cL_law 447 = .ok (.iaload, 1) := by decide +kernel
theorem dL_law_448 : decode cL_law 448 = .ok (.i2l, 1) := by decide +kernel
theorem dL_law_449 : decode cL_law 449 = .ok (.bipush 32, 2) := by decide +kernel
theorem dL_law_451 : decode cL_law 451 = .ok (.lshl, 1) := by decide +kernel
theorem dL_law_452 : decode cL_law 452 = .ok (.aload_n 0, 1) := by decide +kernel
theorem dL_law_453 : decode cL_law 453 = .ok (.iload 4, 2) := by decide +kernel
theorem dL_law_455 : decode cL_law 455 = .ok (.iconst 4, 1) := by decide +kernel
theorem dL_law_456 : decode cL_law 456 = .ok (.iadd, 1) := by decide +kernel
theorem dL_law_457 : decode cL_law 457 = .ok (.iaload, 1) := by decide +kernel
theorem dL_law_458 : decode cL_law 458 = .ok (.i2l, 1) := by decide +kernel
theorem dL_law_459 : decode cL_law 459 = .ok (.ldc2_w 38, 3) := by decide +kernel
theorem dL_law_462 : decode cL_law 462 = .ok (.land, 1) := by decide +kernel
theorem dL_law_463 : decode cL_law 463 = .ok (.lor, 1) := by decide +kernel
theorem dL_law_464 : decode cL_law 464 = .ok (.aload_n 0, 1) := by decide +kernel
theorem dL_law_465 : decode cL_law 465 = .ok (.iload 4, 2) := by decide +kernel
theorem dL_law_467 : decode cL_law 467 = .ok (.iconst 5, 1) := by decide +kernel
theorem dL_law_468 : decode cL_law 468 = .ok (.iadd, 1) := by decide +kernel
theorem dL_law_469 : decode cL_law 469 = .ok (.iaload, 1) := by decide +kernel
theorem dL_law_470 : decode cL_law 470 = .ok (.i2l, 1) := by decide +kernel
theorem dL_law_471 : decode cL_law 471 = .ok (.bipush 32, 2) := by decide +kernel
theorem dL_law_473 : decode cL_law 473 = .ok (.lshl, 1) := by decide +kernel
theorem dL_law_474 : decode cL_law 474 = .ok (.aload_n 0, 1) := by decide +kernel
theorem dL_law_475 : decode cL_law 475 = .ok (.iload 4, 2) := by decide +kernel
theorem dL_law_477 : decode cL_law 477 = .ok (.bipush 6, 2) := by decide +kernel
theorem dL_law_479 : decode cL_law 479 = .ok (.iadd, 1) := by decide +kernel
theorem dL_law_480 : decode cL_law 480 = .ok (.iaload, 1) := by decide +kernel
theorem dL_law_481 : decode cL_law 481 = .ok (.i2l, 1) := by decide +kernel
theorem dL_law_482 : decode cL_law 482 = .ok (.ldc2_w 38, 3) := by decide +kernel
theorem dL_law_485 : decode cL_law 485 = .ok (.land, 1) := by decide +kernel
theorem dL_law_486 : decode cL_law 486 = .ok (.lor, 1) := by decide +kernel
theorem dL_law_487 : decode cL_law 487 = .ok (.invokevirtual 44, 3) := by decide +kernel
theorem dL_law_490 : decode cL_law 490 = .ok (.if_icmp .eq 532, 3) := by decide +kernel
theorem dL_law_493 : decode cL_law 493 = .ok (.iconst 0, 1) := by decide +kernel
theorem dL_law_494 : decode cL_law 494 = .ok (.ireturn, 1) := by decide +kernel
theorem dL_law_495 : decode cL_law 495 = .ok (.aload_n 1, 1) := by decide +kernel
theorem dL_law_496 : decode cL_law 496 = .ok (.invokevirtual 45, 3) := by decide +kernel
theorem dL_law_499 : decode cL_law 499 = .ok (.aload_n 2, 1) := by decide +kernel
theorem dL_law_500 : decode cL_law 500 = .ok (.invokevirtual 49, 3) := by decide +kernel
theorem dL_law_503 : decode cL_law 503 = .ok (.if_icmp .eq 519, 3) := by decide +kernel
theorem dL_law_506 : decode cL_law 506 = .ok (.iconst 0, 1) := by decide +kernel
theorem dL_law_507 : decode cL_law 507 = .ok (.ireturn, 1) := by decide +kernel
theorem dL_law_508 : decode cL_law 508 = .ok (.aload_n 1, 1) := by decide +kernel
theorem dL_law_509 : decode cL_law 509 = .ok (.aload_n 0, 1) := by decide +kernel
theorem dL_law_510 : decode cL_law 510 = .ok (.iload 4, 2) := by decide +kernel
theorem dL_law_512 : decode cL_law 512 = .ok (.iconst 1, 1) := by decide +kernel
theorem dL_law_513 : decode cL_law 513 = .ok (.iadd, 1) := by decide +kernel
theorem dL_law_514 : decode cL_law 514 = .ok (.iaload, 1) := by decide +kernel
theorem dL_law_515 : decode cL_law 515 = .ok (.invokevirtual 50, 3) := by decide +kernel
theorem dL_law_518 : decode cL_law 518 = .ok (.aload_n 2, 1) := by decide +kernel
theorem dL_law_519 : decode cL_law 519 = .ok (.aload_n 0, 1) := by decide +kernel
theorem dL_law_520 : decode cL_law 520 = .ok (.iload 4, 2) := by decide +kernel
theorem dL_law_522 : decode cL_law 522 = .ok (.iconst 1, 1) := by decide +kernel
theorem dL_law_523 : decode cL_law 523 = .ok (.iadd, 1) := by decide +kernel
theorem dL_law_524 : decode cL_law 524 = .ok (.iaload, 1) := by decide +kernel
theorem dL_law_525 : decode cL_law 525 = .ok (.invokevirtual 54, 3) := by decide +kernel
theorem dL_law_528 : decode cL_law 528 = .ok (.if_icmp .eq 494, 3) := by decide +kernel
theorem dL_law_531 : decode cL_law 531 = .ok (.iconst 0, 1) := by decide +kernel
theorem dL_law_532 : decode cL_law 532 = .ok (.ireturn, 1) := by decide +kernel
theorem dL_law_533 : decode cL_law 533 = .ok (.aload_n 1, 1) := by decide +kernel
theorem dL_law_534 : decode cL_law 534 = .ok (.aload_n 0, 1) := by decide +kernel
theorem dL_law_535 : decode cL_law 535 = .ok (.iload 4, 2) := by decide +kernel
theorem dL_law_537 : decode cL_law 537 = .ok (.iconst 1, 1) := by decide +kernel
theorem dL_law_538 : decode cL_law 538 = .ok (.iadd, 1) := by decide +kernel
theorem dL_law_539 : decode cL_law 539 = .ok (.iaload, 1) := by decide +kernel
theorem dL_law_540 : decode cL_law 540 = .ok (.invokevirtual 55, 3) := by decide +kernel
theorem dL_law_543 : decode cL_law 543 = .ok (.aload_n 2, 1) := by decide +kernel
theorem dL_law_544 : decode cL_law 544 = .ok (.aload_n 0, 1) := by decide +kernel
theorem dL_law_545 : decode cL_law 545 = .ok (.iload 4, 2) := by decide +kernel
theorem dL_law_547 : decode cL_law 547 = .ok (.iconst 1, 1) := by decide +kernel
theorem dL_law_548 : decode cL_law 548 = .ok (.iadd, 1) := by decide +kernel
theorem dL_law_549 : decode cL_law 549 = .ok (.iaload, 1) := by decide +kernel
theorem dL_law_550 : decode cL_law 550 = .ok (.invokevirtual 58, 3) := by decide +kernel
theorem dL_law_553 : decode cL_law 553 = .ok (.if_icmp .eq 469, 3) := by decide +kernel
theorem dL_law_556 : decode cL_law 556 = .ok (.iconst 0, 1) := by decide +kernel
theorem dL_law_557 : decode cL_law 557 = .ok (.ireturn, 1) := by decide +kernel
theorem dL_law_558 : decode cL_law 558 = .ok (.aload_n 1, 1) := by decide +kernel
theorem dL_law_559 : decode cL_law 559 = .ok (.aload_n 0, 1) := by decide +kernel
theorem dL_law_560 : decode cL_law 560 = .ok (.iload 4, 2) := by decide +kernel
theorem dL_law_562 : decode cL_law 562 = .ok (.iconst 1, 1) := by decide +kernel
theorem dL_law_563 : decode cL_law 563 = .ok (.iadd, 1) := by decide +kernel
theorem dL_law_564 : decode cL_law 564 = .ok (.iaload, 1) := by decide +kernel
theorem dL_law_565 : decode cL_law 565 = .ok (.invokevirtual 59, 3) := by decide +kernel
theorem dL_law_568 : decode cL_law 568 = .ok (.aload_n 2, 1) := by decide +kernel
theorem dL_law_569 : decode cL_law 569 = .ok (.aload_n 0, 1) := by decide +kernel
theorem dL_law_570 : decode cL_law 570 = .ok (.iload 4, 2) := by decide +kernel
theorem dL_law_572 : decode cL_law 572 = .ok (.iconst 1, 1) := by decide +kernel
theorem dL_law_573 : decode cL_law 573 = .ok (.iadd, 1) := by decide +kernel
theorem dL_law_574 : decode cL_law 574 = .ok (.iaload, 1) := by decide +kernel
theorem dL_law_575 : decode cL_law 575 = .ok (.invokevirtual 62, 3) := by decide +kernel
theorem dL_law_578 : decode cL_law 578 = .ok (.if_icmp .eq 444, 3) := by decide +kernel
theorem dL_law_581 : decode cL_law 581 = .ok (.iconst 0, 1) := by decide +kernel
theorem dL_law_582 : decode cL_law 582 = .ok (.ireturn, 1) := by decide +kernel
theorem dL_law_583 : decode cL_law 583 = .ok (.aload_n 1, 1) := by decide +kernel
theorem dL_law_584 : decode cL_law 584 = .ok (.aload_n 0, 1) := by decide +kernel
theorem dL_law_585 : decode cL_law 585 = .ok (.iload 4, 2) := by decide +kernel
theorem dL_law_587 : decode cL_law 587 = .ok (.iconst 1, 1) := by decide +kernel
theorem dL_law_588 : decode cL_law 588 = .ok (.iadd, 1) := by decide +kernel
theorem dL_law_589 : decode cL_law 589 = .ok (.iaload, 1) := by decide +kernel
theorem dL_law_590 : decode cL_law 590 = .ok (.invokevirtual 63, 3) := by decide +kernel
theorem dL_law_593 : decode cL_law 593 = .ok (.aload_n 2, 1) := by decide +kernel
theorem dL_law_594 : decode cL_law 594 = .ok (.aload_n 0, 1) := by decide +kernel
theorem dL_law_595 : decode cL_law 595 = .ok (.iload 4, 2) := by decide +kernel
theorem dL_law_597 : decode cL_law 597 = .ok (.iconst 1, 1) := by decide +kernel
theorem dL_law_598 : decode cL_law 598 = .ok (.iadd, 1) := by decide +kernel
theorem dL_law_599 : decode cL_law 599 = .ok (.iaload, 1) := by decide +kernel
theorem dL_law_600 : decode cL_law 600 = .ok (.invokevirtual 66, 3) := by decide +kernel
theorem dL_law_603 : decode cL_law 603 = .ok (.if_icmp .eq 419, 3) := by decide +kernel
theorem dL_law_606 : decode cL_law 606 = .ok (.iconst 0, 1) := by decide +kernel
theorem dL_law_607 : decode cL_law 607 = .ok (.ireturn, 1) := by decide +kernel
theorem dL_law_608 : decode cL_law 608 = .ok (.aload_n 1, 1) := by decide +kernel
theorem dL_law_609 : decode cL_law 609 = .ok (.aload_n 0, 1) := by decide +kernel
theorem dL_law_610 : decode cL_law 610 = .ok (.iload 4, 2) := by decide +kernel
theorem dL_law_612 : decode cL_law 612 = .ok (.iconst 1, 1) := by decide +kernel
theorem dL_law_613 : decode cL_law 613 = .ok (.iadd, 1) := by decide +kernel
theorem dL_law_614 : decode cL_law 614 = .ok (.iaload, 1) := by decide +kernel
theorem dL_law_615 : decode cL_law 615 = .ok (.invokevirtual 67, 3) := by decide +kernel
theorem dL_law_618 : decode cL_law 618 = .ok (.aload_n 2, 1) := by decide +kernel
theorem dL_law_619 : decode cL_law 619 = .ok (.aload_n 0, 1) := by decide +kernel
theorem dL_law_620 : decode cL_law 620 = .ok (.iload 4, 2) := by decide +kernel
theorem dL_law_622 : decode cL_law 622 = .ok (.iconst 1, 1) := by decide +kernel
theorem dL_law_623 : decode cL_law 623 = .ok (.iadd, 1) := by decide +kernel
theorem dL_law_624 : decode cL_law 624 = .ok (.iaload, 1) := by decide +kernel
theorem dL_law_625 : decode cL_law 625 = .ok (.invokevirtual 70, 3) := by decide +kernel
theorem dL_law_628 : decode cL_law 628 = .ok (.if_icmp .eq 394, 3) := by decide +kernel
theorem dL_law_631 : decode cL_law 631 = .ok (.iconst 0, 1) := by decide +kernel
theorem dL_law_632 : decode cL_law 632 = .ok (.ireturn, 1) := by decide +kernel
theorem dL_law_633 : decode cL_law 633 = .ok (.aload_n 1, 1) := by decide +kernel
theorem dL_law_634 : decode cL_law 634 = .ok (.aload_n 0, 1) := by decide +kernel
theorem dL_law_635 : decode cL_law 635 = .ok (.iload 4, 2) := by decide +kernel
theorem dL_law_637 : decode cL_law 637 = .ok (.iconst 1, 1) := by decide +kernel
theorem dL_law_638 : decode cL_law 638 = .ok (.iadd, 1) := by decide +kernel
theorem dL_law_639 : decode cL_law 639 = .ok (.iaload, 1) := by decide +kernel
theorem dL_law_640 : decode cL_law 640 = .ok (.aload_n 0, 1) := by decide +kernel
theorem dL_law_641 : decode cL_law 641 = .ok (.iload 4, 2) := by decide +kernel
theorem dL_law_643 : decode cL_law 643 = .ok (.iconst 2, 1) := by decide +kernel
theorem dL_law_644 : decode cL_law 644 = .ok (.iadd, 1) := by decide +kernel
theorem dL_law_645 : decode cL_law 645 = .ok (.iaload, 1) := by decide +kernel
theorem dL_law_646 : decode cL_law 646 = .ok (.aload_n 0, 1) := by decide +kernel
theorem dL_law_647 : decode cL_law 647 = .ok (.iload 4, 2) := by decide +kernel
theorem dL_law_649 : decode cL_law 649 = .ok (.iconst 3, 1) := by decide +kernel
theorem dL_law_650 : decode cL_law 650 = .ok (.iadd, 1) := by decide +kernel
theorem dL_law_651 : decode cL_law 651 = .ok (.iaload, 1) := by decide +kernel
theorem dL_law_652 : decode cL_law 652 = .ok (.invokevirtual 71, 3) := by decide +kernel
theorem dL_law_655 : decode cL_law 655 = .ok (.aload_n 2, 1) := by decide +kernel
theorem dL_law_656 : decode cL_law 656 = .ok (.aload_n 0, 1) := by decide +kernel
theorem dL_law_657 : decode cL_law 657 = .ok (.iload 4, 2) := by decide +kernel
theorem dL_law_659 : decode cL_law 659 = .ok (.iconst 1, 1) := by decide +kernel
theorem dL_law_660 : decode cL_law 660 = .ok (.iadd, 1) := by decide +kernel
theorem dL_law_661 : decode cL_law 661 = .ok (.iaload, 1) := by decide +kernel
theorem dL_law_662 : decode cL_law 662 = .ok (.aload_n 0, 1) := by decide +kernel
theorem dL_law_663 : decode cL_law 663 = .ok (.iload 4, 2) := by decide +kernel
theorem dL_law_665 : decode cL_law 665 = .ok (.iconst 2, 1) := by decide +kernel
theorem dL_law_666 : decode cL_law 666 = .ok (.iadd, 1) := by decide +kernel
theorem dL_law_667 : decode cL_law 667 = .ok (.iaload, 1) := by decide +kernel
theorem dL_law_668 : decode cL_law 668 = .ok (.aload_n 0, 1) := by decide +kernel
theorem dL_law_669 : decode cL_law 669 = .ok (.iload 4, 2) := by decide +kernel
theorem dL_law_671 : decode cL_law 671 = .ok (.iconst 3, 1) := by decide +kernel
theorem dL_law_672 : decode cL_law 672 = .ok (.iadd, 1) := by decide +kernel
theorem dL_law_673 : decode cL_law 673 = .ok (.iaload, 1) := by decide +kernel
theorem dL_law_674 : decode cL_law 674 = .ok (.invokevirtual 74, 3) := by decide +kernel
theorem dL_law_677 : decode cL_law 677 = .ok (.if_icmp .eq 345, 3) := by decide +kernel
theorem dL_law_680 : decode cL_law 680 = .ok (.iconst 0, 1) := by decide +kernel
theorem dL_law_681 : decode cL_law 681 = .ok (.ireturn, 1) := by decide +kernel
theorem dL_law_682 : decode cL_law 682 = .ok (.aload_n 1, 1) := by decide +kernel
theorem dL_law_683 : decode cL_law 683 = .ok (.aload_n 0, 1) := by decide +kernel
theorem dL_law_684 : decode cL_law 684 = .ok (.iload 4, 2) := by decide +kernel
theorem dL_law_686 : decode cL_law 686 = .ok (.iconst 1, 1) := by decide +kernel
theorem dL_law_687 : decode cL_law 687 = .ok (.iadd, 1) := by decide +kernel
theorem dL_law_688 : decode cL_law 688 = .ok (.iaload, 1) := by decide +kernel
theorem dL_law_689 : decode cL_law 689 = .ok (.invokevirtual 75, 3) := by decide +kernel
theorem dL_law_692 : decode cL_law 692 = .ok (.aload_n 2, 1) := by decide +kernel
theorem dL_law_693 : decode cL_law 693 = .ok (.aload_n 0, 1) := by decide +kernel
theorem dL_law_694 : decode cL_law 694 = .ok (.iload 4, 2) := by decide +kernel
theorem dL_law_696 : decode cL_law 696 = .ok (.iconst 1, 1) := by decide +kernel
theorem dL_law_697 : decode cL_law 697 = .ok (.iadd, 1) := by decide +kernel
theorem dL_law_698 : decode cL_law 698 = .ok (.iaload, 1) := by decide +kernel
theorem dL_law_699 : decode cL_law 699 = .ok (.invokevirtual 78, 3) := by decide +kernel
theorem dL_law_702 : decode cL_law 702 = .ok (.if_icmp .eq 320, 3) := by decide +kernel
theorem dL_law_705 : decode cL_law 705 = .ok (.iconst 0, 1) := by decide +kernel
theorem dL_law_706 : decode cL_law 706 = .ok (.ireturn, 1) := by decide +kernel
theorem dL_law_707 : decode cL_law 707 = .ok (.aload_n 1, 1) := by decide +kernel
theorem dL_law_708 : decode cL_law 708 = .ok (.aload_n 0, 1) := by decide +kernel
theorem dL_law_709 : decode cL_law 709 = .ok (.iload 4, 2) := by decide +kernel
theorem dL_law_711 : decode cL_law 711 = .ok (.iconst 1, 1) := by decide +kernel
theorem dL_law_712 : decode cL_law 712 = .ok (.iadd, 1) := by decide +kernel
theorem dL_law_713 : decode cL_law 713 = .ok (.iaload, 1) := by decide +kernel
theorem dL_law_714 : decode cL_law 714 = .ok (.aload_n 0, 1) := by decide +kernel
theorem dL_law_715 : decode cL_law 715 = .ok (.iload 4, 2) := by decide +kernel
theorem dL_law_717 : decode cL_law 717 = .ok (.iconst 2, 1) := by decide +kernel
theorem dL_law_718 : decode cL_law 718 = .ok (.iadd, 1) := by decide +kernel
theorem dL_law_719 : decode cL_law 719 = .ok (.iaload, 1) := by decide +kernel
theorem dL_law_720 : decode cL_law 720 = .ok (.invokevirtual 79, 3) := by decide +kernel
theorem dL_law_723 : decode cL_law 723 = .ok (.aload_n 2, 1) := by decide +kernel
theorem dL_law_724 : decode cL_law 724 = .ok (.aload_n 0, 1) := by decide +kernel
theorem dL_law_725 : decode cL_law 725 = .ok (.iload 4, 2) := by decide +kernel
theorem dL_law_727 : decode cL_law 727 = .ok (.iconst 1, 1) := by decide +kernel
theorem dL_law_728 : decode cL_law 728 = .ok (.iadd, 1) := by decide +kernel
theorem dL_law_729 : decode cL_law 729 = .ok (.iaload, 1) := by decide +kernel
theorem dL_law_730 : decode cL_law 730 = .ok (.aload_n 0, 1) := by decide +kernel
theorem dL_law_731 : decode cL_law 731 = .ok (.iload 4, 2) := by decide +kernel
theorem dL_law_733 : decode cL_law 733 = .ok (.iconst 2, 1) := by decide +kernel
theorem dL_law_734 : decode cL_law 734 = .ok (.iadd, 1) := by decide +kernel
theorem dL_law_735 : decode cL_law 735 = .ok (.iaload, 1) := by decide +kernel
theorem dL_law_736 : decode cL_law 736 = .ok (.invokevirtual 83, 3) := by decide +kernel
theorem dL_law_739 : decode cL_law 739 = .ok (.if_icmp .eq 283, 3) := by decide +kernel
theorem dL_law_742 : decode cL_law 742 = .ok (.iconst 0, 1) := by decide +kernel
theorem dL_law_743 : decode cL_law 743 = .ok (.ireturn, 1) := by decide +kernel
theorem dL_law_744 : decode cL_law 744 = .ok (.aload_n 1, 1) := by decide +kernel
theorem dL_law_745 : decode cL_law 745 = .ok (.aload_n 0, 1) := by decide +kernel
theorem dL_law_746 : decode cL_law 746 = .ok (.iload 4, 2) := by decide +kernel
theorem dL_law_748 : decode cL_law 748 = .ok (.iconst 1, 1) := by decide +kernel
theorem dL_law_749 : decode cL_law 749 = .ok (.iadd, 1) := by decide +kernel
theorem dL_law_750 : decode cL_law 750 = .ok (.iaload, 1) := by decide +kernel
theorem dL_law_751 : decode cL_law 751 = .ok (.aload_n 0, 1) := by decide +kernel
theorem dL_law_752 : decode cL_law 752 = .ok (.iload 4, 2) := by decide +kernel
theorem dL_law_754 : decode cL_law 754 = .ok (.iconst 2, 1) := by decide +kernel
theorem dL_law_755 : decode cL_law 755 = .ok (.iadd, 1) := by decide +kernel
theorem dL_law_756 : decode cL_law 756 = .ok (.iaload, 1) := by decide +kernel
theorem dL_law_757 : decode cL_law 757 = .ok (.aload_n 0, 1) := by decide +kernel
theorem dL_law_758 : decode cL_law 758 = .ok (.iload 4, 2) := by decide +kernel
theorem dL_law_760 : decode cL_law 760 = .ok (.iconst 3, 1) := by decide +kernel
theorem dL_law_761 : decode cL_law 761 = .ok (.iadd, 1) := by decide +kernel
theorem dL_law_762 : decode cL_law 762 = .ok (.iaload, 1) := by decide +kernel
theorem dL_law_763 : decode cL_law 763 = .ok (.aload_n 0, 1) := by decide +kernel
theorem dL_law_764 : decode cL_law 764 = .ok (.iload 4, 2) := by decide +kernel
theorem dL_law_766 : decode cL_law 766 = .ok (.iconst 4, 1) := by decide +kernel
theorem dL_law_767 : decode cL_law 767 = .ok (.iadd, 1) := by decide +kernel
theorem dL_law_768 : decode cL_law 768 = .ok (.iaload, 1) := by decide +kernel
theorem dL_law_769 : decode cL_law 769 = .ok (.invokevirtual 84, 3) := by decide +kernel
theorem dL_law_772 : decode cL_law 772 = .ok (.aload_n 2, 1) := by decide +kernel
theorem dL_law_773 : decode cL_law 773 = .ok (.aload_n 0, 1) := by decide +kernel
theorem dL_law_774 : decode cL_law 774 = .ok (.iload 4, 2) := by decide +kernel
theorem dL_law_776 : decode cL_law 776 = .ok (.iconst 1, 1) := by decide +kernel
theorem dL_law_777 : decode cL_law 777 = .ok (.iadd, 1) := by decide +kernel
theorem dL_law_778 : decode cL_law 778 = .ok (.iaload, 1) := by decide +kernel
theorem dL_law_779 : decode cL_law 779 = .ok (.aload_n 0, 1) := by decide +kernel
theorem dL_law_780 : decode cL_law 780 = .ok (.iload 4, 2) := by decide +kernel
theorem dL_law_782 : decode cL_law 782 = .ok (.iconst 2, 1) := by decide +kernel
theorem dL_law_783 : decode cL_law 783 = .ok (.iadd, 1) := by decide +kernel
theorem dL_law_784 : decode cL_law 784 = .ok (.iaload, 1) := by decide +kernel
theorem dL_law_785 : decode cL_law 785 = .ok (.aload_n 0, 1) := by decide +kernel
theorem dL_law_786 : decode cL_law 786 = .ok (.iload 4, 2) := by decide +kernel
theorem dL_law_788 : decode cL_law 788 = .ok (.iconst 3, 1) := by decide +kernel
theorem dL_law_789 : decode cL_law 789 = .ok (.iadd, 1) := by decide +kernel
theorem dL_law_790 : decode cL_law 790 = .ok (.iaload, 1) := by decide +kernel
theorem dL_law_791 : decode cL_law 791 = .ok (.aload_n 0, 1) := by decide +kernel
theorem dL_law_792 : decode cL_law 792 = .ok (.iload 4, 2) := by decide +kernel
theorem dL_law_794 : decode cL_law 794 = .ok (.iconst 4, 1) := by decide +kernel
theorem dL_law_795 : decode cL_law 795 = .ok (.iadd, 1) := by decide +kernel
theorem dL_law_796 : decode cL_law 796 = .ok (.iaload, 1) := by decide +kernel
theorem dL_law_797 : decode cL_law 797 = .ok (.invokevirtual 87, 3) := by decide +kernel
theorem dL_law_800 : decode cL_law 800 = .ok (.if_icmp .eq 222, 3) := by decide +kernel
theorem dL_law_803 : decode cL_law 803 = .ok (.iconst 0, 1) := by decide +kernel
theorem dL_law_804 : decode cL_law 804 = .ok (.ireturn, 1) := by decide +kernel
theorem dL_law_805 : decode cL_law 805 = .ok (.aload_n 1, 1) := by decide +kernel
theorem dL_law_806 : decode cL_law 806 = .ok (.aload_n 0, 1) := by decide +kernel
theorem dL_law_807 : decode cL_law 807 = .ok (.iload 4, 2) := by decide +kernel
theorem dL_law_809 : decode cL_law 809 = .ok (.iconst 1, 1) := by decide +kernel
theorem dL_law_810 : decode cL_law 810 = .ok (.iadd, 1) := by decide +kernel
theorem dL_law_811 : decode cL_law 811 = .ok (.iaload, 1) := by decide +kernel
theorem dL_law_812 : decode cL_law 812 = .ok (.invokevirtual 88, 3) := by decide +kernel
theorem dL_law_815 : decode cL_law 815 = .ok (.aload_n 2, 1) := by decide +kernel
theorem dL_law_816 : decode cL_law 816 = .ok (.aload_n 0, 1) := by decide +kernel
theorem dL_law_817 : decode cL_law 817 = .ok (.iload 4, 2) := by decide +kernel
theorem dL_law_819 : decode cL_law 819 = .ok (.iconst 1, 1) := by decide +kernel
theorem dL_law_820 : decode cL_law 820 = .ok (.iadd, 1) := by decide +kernel
theorem dL_law_821 : decode cL_law 821 = .ok (.iaload, 1) := by decide +kernel
theorem dL_law_822 : decode cL_law 822 = .ok (.invokevirtual 91, 3) := by decide +kernel
theorem dL_law_825 : decode cL_law 825 = .ok (.if_icmp .eq 197, 3) := by decide +kernel
theorem dL_law_828 : decode cL_law 828 = .ok (.iconst 0, 1) := by decide +kernel
theorem dL_law_829 : decode cL_law 829 = .ok (.ireturn, 1) := by decide +kernel
theorem dL_law_830 : decode cL_law 830 = .ok (.aload_n 1, 1) := by decide +kernel
theorem dL_law_831 : decode cL_law 831 = .ok (.aload_n 0, 1) := by decide +kernel
theorem dL_law_832 : decode cL_law 832 = .ok (.iload 4, 2) := by decide +kernel
theorem dL_law_834 : decode cL_law 834 = .ok (.iconst 1, 1) := by decide +kernel
theorem dL_law_835 : decode cL_law 835 = .ok (.iadd, 1) := by decide +kernel
theorem dL_law_836 : decode cL_law 836 = .ok (.iaload, 1) := by decide +kernel
theorem dL_law_837 : decode cL_law 837 = .ok (.invokevirtual 92, 3) := by decide +kernel
theorem dL_law_840 : decode cL_law 840 = .ok (.aload_n 2, 1) := by decide +kernel
theorem dL_law_841 : decode cL_law 841 = .ok (.aload_n 0, 1) := by decide +kernel
theorem dL_law_842 : decode cL_law 842 = .ok (.iload 4, 2) := by decide +kernel
theorem dL_law_844 : decode cL_law 844 = .ok (.iconst 1, 1) := by decide +kernel
theorem dL_law_845 : decode cL_law 845 = .ok (.iadd, 1) := by decide +kernel
theorem dL_law_846 : decode cL_law 846 = .ok (.iaload, 1) := by decide +kernel
theorem dL_law_847 : decode cL_law 847 = .ok (.invokevirtual 95, 3) := by decide +kernel
theorem dL_law_850 : decode cL_law 850 = .ok (.if_icmp .eq 172, 3) := by decide +kernel
theorem dL_law_853 : decode cL_law 853 = .ok (.iconst 0, 1) := by decide +kernel
theorem dL_law_854 : decode cL_law 854 = .ok (.ireturn, 1) := by decide +kernel
theorem dL_law_855 : decode cL_law 855 = .ok (.aload_n 1, 1) := by decide +kernel
theorem dL_law_856 : decode cL_law 856 = .ok (.aload_n 0, 1) := by decide +kernel
theorem dL_law_857 : decode cL_law 857 = .ok (.iload 4, 2) := by decide +kernel
theorem dL_law_859 : decode cL_law 859 = .ok (.iconst 1, 1) := by decide +kernel
theorem dL_law_860 : decode cL_law 860 = .ok (.iadd, 1) := by decide +kernel
theorem dL_law_861 : decode cL_law 861 = .ok (.iaload, 1) := by decide +kernel
theorem dL_law_862 : decode cL_law 862 = .ok (.aload_n 0, 1) := by decide +kernel
theorem dL_law_863 : decode cL_law 863 = .ok (.iload 4, 2) := by decide +kernel
theorem dL_law_865 : decode cL_law 865 = .ok (.iconst 2, 1) := by decide +kernel
theorem dL_law_866 : decode cL_law 866 = .ok (.iadd, 1) := by decide +kernel
theorem dL_law_867 : decode cL_law 867 = .ok (.iaload, 1) := by decide +kernel
theorem dL_law_868 : decode cL_law 868 = .ok (.aload_n 3, 1) := by decide +kernel
theorem dL_law_869 : decode cL_law 869 = .ok (.invokestatic 96, 3) := by decide +kernel
theorem dL_law_872 : decode cL_law 872 = .ok (.istore 5, 2) := by decide +kernel
theorem dL_law_874 : decode cL_law 874 = .ok (.aload_n 2, 1) := by decide +kernel
theorem dL_law_875 : decode cL_law 875 = .ok (.aload_n 0, 1) := by decide +kernel
theorem dL_law_876 : decode cL_law 876 = .ok (.iload 4, 2) := by decide +kernel
theorem dL_law_878 : decode cL_law 878 = .ok (.iconst 1, 1) := by decide +kernel
theorem dL_law_879 : decode cL_law 879 = .ok (.iadd, 1) := by decide +kernel
theorem dL_law_880 : decode cL_law 880 = .ok (.iaload, 1) := by decide +kernel
theorem dL_law_881 : decode cL_law 881 = .ok (.aload_n 0, 1) := by decide +kernel
theorem dL_law_882 : decode cL_law 882 = .ok (.iload 4, 2) := by decide +kernel
theorem dL_law_884 : decode cL_law 884 = .ok (.iconst 2, 1) := by decide +kernel
theorem dL_law_885 : decode cL_law 885 = .ok (.iadd, 1) := by decide +kernel
theorem dL_law_886 : decode cL_law 886 = .ok (.iaload, 1) := by decide +kernel
theorem dL_law_887 : decode cL_law 887 = .ok (.invokevirtual 101, 3) := by decide +kernel
theorem dL_law_890 : decode cL_law 890 = .ok (.istore 6, 2) := by decide +kernel
theorem dL_law_892 : decode cL_law 892 = .ok (.aload_n 2, 1) := by decide +kernel
theorem dL_law_893 : decode cL_law 893 = .ok (.invokevirtual 102, 3) := by decide +kernel
theorem dL_law_896 : decode cL_law 896 = .ok (.iload 5, 2) := by decide +kernel
theorem dL_law_898 : decode cL_law 898 = .ok (.if_icmp .eq 5, 3) := by decide +kernel
theorem dL_law_901 : decode cL_law 901 = .ok (.iconst 0, 1) := by decide +kernel
theorem dL_law_902 : decode cL_law 902 = .ok (.ireturn, 1) := by decide +kernel
theorem dL_law_903 : decode cL_law 903 = .ok (.iload 5, 2) := by decide +kernel
theorem dL_law_905 : decode cL_law 905 = .ok (.ifCond .ne 15, 3) := by decide +kernel
theorem dL_law_908 : decode cL_law 908 = .ok (.aload_n 3, 1) := by decide +kernel
theorem dL_law_909 : decode cL_law 909 = .ok (.iconst 0, 1) := by decide +kernel
theorem dL_law_910 : decode cL_law 910 = .ok (.laload, 1) := by decide +kernel
theorem dL_law_911 : decode cL_law 911 = .ok (.iload 6, 2) := by decide +kernel
theorem dL_law_913 : decode cL_law 913 = .ok (.i2l, 1) := by decide +kernel
theorem dL_law_914 : decode cL_law 914 = .ok (.lcmp, 1) := by decide +kernel
theorem dL_law_915 : decode cL_law 915 = .ok (.ifCond .eq 5, 3) := by decide +kernel
theorem dL_law_918 : decode cL_law 918 = .ok (.iconst 0, 1) := by decide +kernel
theorem dL_law_919 : decode cL_law 919 = .ok (.ireturn, 1) := by decide +kernel
theorem dL_law_920 : decode cL_law 920 = .ok (.goto 102, 3) := by decide +kernel
theorem dL_law_923 : decode cL_law 923 = .ok (.aload_n 1, 1) := by decide +kernel
theorem dL_law_924 : decode cL_law 924 = .ok (.aload_n 0, 1) := by decide +kernel
theorem dL_law_925 : decode cL_law 925 = .ok (.iload 4, 2) := by decide +kernel
theorem dL_law_927 : decode cL_law 927 = .ok (.iconst 1, 1) := by decide +kernel
theorem dL_law_928 : decode cL_law 928 = .ok (.iadd, 1) := by decide +kernel
theorem dL_law_929 : decode cL_law 929 = .ok (.iaload, 1) := by decide +kernel
theorem dL_law_930 : decode cL_law 930 = .ok (.aload_n 0, 1) := by decide +kernel
theorem dL_law_931 : decode cL_law 931 = .ok (.iload 4, 2) := by decide +kernel
theorem dL_law_933 : decode cL_law 933 = .ok (.iconst 2, 1) := by decide +kernel
theorem dL_law_934 : decode cL_law 934 = .ok (.iadd, 1) := by decide +kernel
theorem dL_law_935 : decode cL_law 935 = .ok (.iaload, 1) := by decide +kernel
theorem dL_law_936 : decode cL_law 936 = .ok (.invokevirtual 105, 3) := by decide +kernel
theorem dL_law_939 : decode cL_law 939 = .ok (.aload_n 2, 1) := by decide +kernel
theorem dL_law_940 : decode cL_law 940 = .ok (.aload_n 0, 1) := by decide +kernel
theorem dL_law_941 : decode cL_law 941 = .ok (.iload 4, 2) := by decide +kernel
theorem dL_law_943 : decode cL_law 943 = .ok (.iconst 1, 1) := by decide +kernel
theorem dL_law_944 : decode cL_law 944 = .ok (.iadd, 1) := by decide +kernel
theorem dL_law_945 : decode cL_law 945 = .ok (.iaload, 1) := by decide +kernel
theorem dL_law_946 : decode cL_law 946 = .ok (.aload_n 0, 1) := by decide +kernel
theorem dL_law_947 : decode cL_law 947 = .ok (.iload 4, 2) := by decide +kernel
theorem dL_law_949 : decode cL_law 949 = .ok (.iconst 2, 1) := by decide +kernel
theorem dL_law_950 : decode cL_law 950 = .ok (.iadd, 1) := by decide +kernel
theorem dL_law_951 : decode cL_law 951 = .ok (.iaload, 1) := by decide +kernel
theorem dL_law_952 : decode cL_law 952 = .ok (.invokevirtual 108, 3) := by decide +kernel
theorem dL_law_955 : decode cL_law 955 = .ok (.if_icmp .eq 67, 3) := by decide +kernel
theorem dL_law_958 : decode cL_law 958 = .ok (.iconst 0, 1) := by decide +kernel
theorem dL_law_959 : decode cL_law 959 = .ok (.ireturn, 1) := by decide +kernel
theorem dL_law_960 : decode cL_law 960 = .ok (.aload_n 1, 1) := by decide +kernel
theorem dL_law_961 : decode cL_law 961 = .ok (.aload_n 0, 1) := by decide +kernel
theorem dL_law_962 : decode cL_law 962 = .ok (.iload 4, 2) := by decide +kernel
theorem dL_law_964 : decode cL_law 964 = .ok (.iconst 1, 1) := by decide +kernel
theorem dL_law_965 : decode cL_law 965 = .ok (.iadd, 1) := by decide +kernel
theorem dL_law_966 : decode cL_law 966 = .ok (.iaload, 1) := by decide +kernel
theorem dL_law_967 : decode cL_law 967 = .ok (.aload_n 0, 1) := by decide +kernel
theorem dL_law_968 : decode cL_law 968 = .ok (.iload 4, 2) := by decide +kernel
theorem dL_law_970 : decode cL_law 970 = .ok (.iconst 2, 1) := by decide +kernel
theorem dL_law_971 : decode cL_law 971 = .ok (.iadd, 1) := by decide +kernel
theorem dL_law_972 : decode cL_law 972 = .ok (.iaload, 1) := by decide +kernel
theorem dL_law_973 : decode cL_law 973 = .ok (.invokevirtual 109, 3) := by decide +kernel
theorem dL_law_976 : decode cL_law 976 = .ok (.aload_n 2, 1) := by decide +kernel
theorem dL_law_977 : decode cL_law 977 = .ok (.aload_n 0, 1) := by decide +kernel
theorem dL_law_978 : decode cL_law 978 = .ok (.iload 4, 2) := by decide +kernel
theorem dL_law_980 : decode cL_law 980 = .ok (.iconst 1, 1) := by decide +kernel
theorem dL_law_981 : decode cL_law 981 = .ok (.iadd, 1) := by decide +kernel
theorem dL_law_982 : decode cL_law 982 = .ok (.iaload, 1) := by decide +kernel
theorem dL_law_983 : decode cL_law 983 = .ok (.aload_n 0, 1) := by decide +kernel
theorem dL_law_984 : decode cL_law 984 = .ok (.iload 4, 2) := by decide +kernel
theorem dL_law_986 : decode cL_law 986 = .ok (.iconst 2, 1) := by decide +kernel
theorem dL_law_987 : decode cL_law 987 = .ok (.iadd, 1) := by decide +kernel
theorem dL_law_988 : decode cL_law 988 = .ok (.iaload, 1) := by decide +kernel
theorem dL_law_989 : decode cL_law 989 = .ok (.invokevirtual 112, 3) := by decide +kernel
theorem dL_law_992 : decode cL_law 992 = .ok (.if_icmp .eq 30, 3) := by decide +kernel
theorem dL_law_995 : decode cL_law 995 = .ok (.iconst 0, 1) := by decide +kernel
theorem dL_law_996 : decode cL_law 996 = .ok (.ireturn, 1) := by decide +kernel
theorem dL_law_997 : decode cL_law 997 = .ok (.aload_n 1, 1) := by decide +kernel
theorem dL_law_998 : decode cL_law 998 = .ok (.aload_n 0, 1) := by decide +kernel
theorem dL_law_999 : decode cL_law 999 = .ok (.iload 4, 2) := by decide +kernel
theorem dL_law_1001 : decode cL_law 1001 = .ok (.iconst 1, 1) := by decide +kernel
theorem dL_law_1002 : decode cL_law 1002 = .ok (.iadd, 1) := by decide +kernel
theorem dL_law_1003 : decode cL_law 1003 = .ok (.iaload, 1) := by decide +kernel
theorem dL_law_1004 : decode cL_law 1004 = .ok (.invokevirtual 113, 3) := by decide +kernel
theorem dL_law_1007 : decode cL_law 1007 = .ok (.aload_n 2, 1) := by decide +kernel
theorem dL_law_1008 : decode cL_law 1008 = .ok (.aload_n 0, 1) := by decide +kernel
theorem dL_law_1009 : decode cL_law 1009 = .ok (.iload 4, 2) := by decide +kernel
theorem dL_law_1011 : decode cL_law 1011 = .ok (.iconst 1, 1) := by decide +kernel
theorem dL_law_1012 : decode cL_law 1012 = .ok (.iadd, 1) := by decide +kernel
theorem dL_law_1013 : decode cL_law 1013 = .ok (.iaload, 1) := by decide +kernel
theorem dL_law_1014 : decode cL_law 1014 = .ok (.invokevirtual 116, 3) := by decide +kernel
theorem dL_law_1017 : decode cL_law 1017 = .ok (.if_icmp .eq 5, 3) := by decide +kernel
theorem dL_law_1020 : decode cL_law 1020 = .ok (.iconst 0, 1) := by decide +kernel
theorem dL_law_1021 : decode cL_law 1021 = .ok (.ireturn, 1) := by decide +kernel
theorem dL_law_1022 : decode cL_law 1022 = .ok (.iinc 4 7, 3) := by decide +kernel
theorem dL_law_1025 : decode cL_law 1025 = .ok (.goto (-1002), 3) := by decide +kernel
theorem dL_law_1028 : decode cL_law 1028 = .ok (.iconst 1, 1) := by decide +kernel
theorem dL_law_1029 : decode cL_law 1029 = .ok (.ireturn, 1) := by decide +kernel
end
section
/-! memory: ints, longs, references; cells by number -/
abbrev gM : Type := (Nat → Nat → Int32) × (Nat → Nat → Int64) × (Nat → Nat → Option Nat)
def gwI (M : gM) (k j : Nat) (v : Int32) : gM := (fun a b => if a = k ∧ b = j then v else M.1 a b, M.2)
def gwL (M : gM) (k j : Nat) (v : Int64) : gM := (M.1, fun a b => if a = k ∧ b = j then v else M.2.1 a b, M.2.2)
def gwR (M : gM) (k j : Nat) (v : Option Nat) : gM := (M.1, M.2.1, fun a b => if a = k ∧ b = j then v else M.2.2 a b)
/-- kinds of the cells: (0, class, _), (1, array class, length) of ints, (2, ..) of longs, (3, ..) of references -/
def gKl : List (Nat × Nat × Nat) := [(0, 8, 0), (3, 4, 12), (3, 5, 4), (3, 6, 4), (3, 7, 10), (1, 0, 6), (0, 3, 0), (0, 6, 0), (1, 2, 600), (1, 0, 601), (1, 0, 601), (0, 1, 0), (1, 0, 16), (1, 0, 16), (1, 0, 16), (1, 0, 600), (1, 0, 32), (0, 1, 0), (1, 0, 16), (1, 0, 16), (1, 0, 16), (1, 0, 600), (1, 0, 32), (0, 2, 0), (1, 0, 4), (1, 0, 4), (1, 0, 4), (1, 0, 4), (1, 0, 6), (1, 0, 6), (1, 0, 6), (3, 8, 6), (1, 0, 4), (1, 0, 4), (1, 0, 4), (1, 0, 4), (1, 0, 4), (1, 0, 4), (1, 0, 6), (1, 0, 6), (1, 0, 7), (1, 0, 7), (0, 7, 0), (1, 0, 7), (0, 7, 0), (1, 0, 7), (0, 7, 0), (1, 0, 7), (0, 7, 0), (1, 0, 7), (0, 7, 0), (1, 0, 7), (0, 7, 0), (1, 0, 7), (0, 7, 0), (1, 0, 7), (0, 7, 0), (1, 0, 7), (0, 7, 0), (1, 0, 7), (0, 7, 0), (1, 0, 7), (0, 7, 0), (1, 0, 7), (0, 7, 0), (1, 0, 7), (0, 4, 0), (1, 0, 12), (0, 4, 0), (1, 0, 12), (0, 4, 0), (1, 0, 12), (0, 4, 0), (1, 0, 12), (0, 5, 0), (0, 5, 0), (0, 5, 0), (0, 5, 0), (0, 0, 0), (0, 0, 0), (0, 0, 0), (0, 0, 0), (0, 0, 0), (0, 0, 0), (0, 0, 0), (0, 0, 0), (0, 0, 0), (0, 0, 0), (0, 9, 0), (1, 0, 600), (1, 0, 602), (1, 0, 602), (2, 1, 602), (2, 1, 10), (1, 0, 2), (1, 3, 32), (1, 0, 32), (1, 0, 32), (1, 0, 1320), (1, 0, 1320), (1, 0, 7), (1, 0, 7), (1, 0, 7), (1, 0, 6), (1, 0, 660), (1, 0, 12), (1, 0, 12), (1, 0, 12), (1, 0, 12), (1, 0, 12), (1, 0, 12), (1, 0, 12), (1, 0, 12), (1, 0, 4800), (1, 3, 12), (1, 0, 4), (1, 0, 4), (1, 0, 4), (1, 0, 4), (1, 0, 4), (1, 0, 4), (1, 0, 4), (1, 0, 4), (1, 0, 4), (1, 0, 4), (1, 0, 48), (1, 0, 6), (1, 0, 6), (1, 0, 6), (1, 0, 6), (1, 0, 4), (1, 0, 4), (1, 0, 10), (1, 0, 10), (1, 0, 10), (1, 3, 10), (1, 0, 4), (1, 0, 4), (1, 0, 4), (2, 1, 1)]
def gK (k : Nat) : Nat × Nat × Nat := gKl.getD k (9, 0, 0)
def gFl : List (List Bool) := [[false, false, false, false], [true, true, true, true, true, false, false, false], [true, true, true, true, true, true, true, true, true, true, true, true, false, false, false, false, false], [true, true, true, false, false], [false, false, false, false, true], [false, false, false, false, false, false, false, false, false], [true, true, true, false, false], [false, false, false, false, false, false, false, false, false, false, true], [true, true, true, true, true, true, true, false, false, false, false, false, false, false, false], [false, true, false, false, true, true, true, false, false, true, true, true, true, true, true, true, false, false, false, false, true, true, true, true, true, false, false, true, true, true, true, true, true, true, true, true, true, false, false, true, true, true, true, false, true, true, true, true, true, true, true, false, false, true, true, true, true, false, false, true, true, false, false, true, true, true, true, false, true, true, true]]
def gfn (ci : Nat) : Nat := (gFl.getD ci []).length
def gfc (ci j : Nat) : Bool := (gFl.getD ci []).getD j false
def gMr : List Nat := [0, 89, 0, 0, 90, 91, 92, 0, 0, 93, 94, 95, 96, 97, 98, 99, 0, 0, 0, 0, 100, 101, 102, 103, 104, 0, 0, 105, 106, 107, 108, 109, 110, 111, 112, 113, 114, 0, 0, 115, 116, 117, 118, 0, 119, 120, 121, 122, 123, 124, 125, 0, 0, 126, 127, 128, 129, 0, 0, 130, 131, 0, 0, 132, 133, 134, 135, 0, 136, 137, 138]
/-- where the references lead, once all is made; b: the two Orders are swapped -/
def stdR (b : Bool) (k j : Nat) : Option Nat :=
  if k = 0 then some (if j < 6 then j + 1 else 23)
  else if k = 1 then some (2 * j + 42)
  else if k = 2 then some (2 * j + 66)
  else if k = 3 then some (j + 74)
  else if k = 4 then some (j + 78)
  else if k = 6 then some (if j = 0 then 7 else if j = 1 then (if b then 17 else 11) else (if b then 11 else 17))
  else if k = 7 then some (j + 8)
  else if k = 11 then some (j + 12)
  else if k = 17 then some (j + 18)
  else if k = 23 then some (if j < 8 then j + 24 else j + 30)
  else if k = 31 then some (j + 32)
  else if k < 74 then some (k + 1)
  else some (gMr.getD j 0)
def gv (ad : Nat → Nat) (M : gM) (k j : Nat) (r : Bool) : Value := match r with
  | true => va_rf ((M.2.2 k j).map ad)
  | false => .int (M.1 k j)
def gfs (ad : Nat → Nat) (M : gM) (k ci : Nat) : List Value := (List.range (gfn ci)).map (fun j => gv ad M k j (gfc ci j))
def ge (dA : Nat → ClassId) (ad : Nat → Nat) (M : gM) (k : Nat) : va_E := match gK k with
  | (0, ci, _) => .inr (ci, gfs ad M k ci)
  | (1, t, n) => .inl (dA t, n, .inl (M.1 k))
  | (2, t, n) => .inl (dA t, n, .inr (.inl (M.2.1 k)))
  | (_, t, n) => .inl (dA t, n, .inr (.inr (.inr (.inr (fun j => (M.2.2 k j).map ad)))))
def gw (dA : Nat → ClassId) (ad : Nat → Nat) (n : Nat) (M : gM) : va_W := (List.range n).map (fun k => (ad k, ge dA ad M k))
theorem gw_at {dA : Nat → ClassId} {ad : Nat → Nat} {n k : Nat} {M : gM} (h : k < n) : (gw dA ad n M)[k]? = some (ad k, ge dA ad M k) := by
  simp [gw, h]
theorem gw_len {dA : Nat → ClassId} {ad : Nat → Nat} {n : Nat} {M : gM} : (gw dA ad n M).length = n := by
  simp [gw]
theorem gw_inv {dA : Nat → ClassId} {ad : Nat → Nat} {n k : Nat} {M : gM} {q : Nat × va_E} (h : (gw dA ad n M)[k]? = some q) : k < n ∧ q = (ad k, ge dA ad M k) := by
  have hk : k < n := by
    have := (List.getElem?_eq_some_iff.mp h).1
    rwa [gw_len] at this
  rw [gw_at hk] at h
  exact ⟨hk, (Option.some.inj h).symm⟩
theorem gw_set {dA : Nat → ClassId} {ad : Nat → Nat} {n k : Nat} {M M' : gM} {e : va_E} (h : k < n) (he : ge dA ad M' k = e) (ho : ∀ q, q ≠ k → ge dA ad M' q = ge dA ad M q) : (gw dA ad n M).set k (ad k, e) = gw dA ad n M' := by
  apply List.ext_getElem?
  intro i
  by_cases hi : i = k
  · subst hi
    rw [List.getElem?_set_self (by rw [gw_len]; exact h), gw_at h, he]
  · rw [List.getElem?_set_ne (Ne.symm hi)]
    by_cases hn : i < n
    · rw [gw_at hn, gw_at hn, ho i hi]
    · rw [List.getElem?_eq_none (by rw [gw_len]; omega), List.getElem?_eq_none (by rw [gw_len]; omega)]
theorem ge_row {dA : Nat → ClassId} {ad : Nat → Nat} {M M' : gM} {q : Nat} (h1 : M'.1 q = M.1 q) (h2 : M'.2.1 q = M.2.1 q) (h3 : M'.2.2 q = M.2.2 q) : ge dA ad M' q = ge dA ad M q := by
  unfold ge gfs gv
  rw [h1, h2, h3]
theorem ge_obj {dA : Nat → ClassId} {ad : Nat → Nat} {M : gM} {k ci z : Nat} (h : gK k = (0, ci, z)) : ge dA ad M k = .inr (ci, gfs ad M k ci) := by
  unfold ge; rw [h]; rfl
theorem ge_int {dA : Nat → ClassId} {ad : Nat → Nat} {M : gM} {k t n : Nat} (h : gK k = (1, t, n)) : ge dA ad M k = .inl (dA t, n, .inl (M.1 k)) := by
  unfold ge; rw [h]; rfl
theorem ge_long {dA : Nat → ClassId} {ad : Nat → Nat} {M : gM} {k t n : Nat} (h : gK k = (2, t, n)) : ge dA ad M k = .inl (dA t, n, .inr (.inl (M.2.1 k))) := by
  unfold ge; rw [h]; rfl
theorem ge_ref {dA : Nat → ClassId} {ad : Nat → Nat} {M : gM} {k t n : Nat} (h : gK k = (3, t, n)) : ge dA ad M k = .inl (dA t, n, .inr (.inr (.inr (.inr (fun j => (M.2.2 k j).map ad))))) := by
  unfold ge; rw [h]; rfl
theorem gfs_at {ad : Nat → Nat} {M : gM} {k ci j : Nat} (h : j < gfn ci) : (gfs ad M k ci)[j]? = some (gv ad M k j (gfc ci j)) := by
  simp [gfs, h]
theorem gfs_len {ad : Nat → Nat} {M : gM} {k ci : Nat} : (gfs ad M k ci).length = gfn ci := by simp [gfs]
theorem gfs_set {ad : Nat → Nat} {M M' : gM} {k ci j : Nat} {v : Value} (h : j < gfn ci) (hv : gv ad M' k j (gfc ci j) = v) (ho : ∀ i, i ≠ j → gv ad M' k i (gfc ci i) = gv ad M k i (gfc ci i)) : (gfs ad M k ci).set j v = gfs ad M' k ci := by
  apply List.ext_getElem?
  intro i
  by_cases hi : i = j
  · subst hi
    rw [List.getElem?_set_self (by rw [gfs_len]; exact h), gfs_at h, hv]
  · rw [List.getElem?_set_ne (Ne.symm hi)]
    by_cases hn : i < gfn ci
    · rw [gfs_at hn, gfs_at hn, ho i hi]
    · rw [List.getElem?_eq_none (by rw [gfs_len]; omega), List.getElem?_eq_none (by rw [gfs_len]; omega)]
theorem gwI_row {M : gM} {k j q : Nat} {v : Int32} (h : q ≠ k) : (gwI M k j v).1 q = M.1 q := by
  funext b
  simp [gwI, h]
theorem gwL_row {M : gM} {k j q : Nat} {v : Int64} (h : q ≠ k) : (gwL M k j v).2.1 q = M.2.1 q := by
  funext b
  simp [gwL, h]
theorem gwR_row {M : gM} {k j q : Nat} {v : Option Nat} (h : q ≠ k) : (gwR M k j v).2.2 q = M.2.2 q := by
  funext b
  simp [gwR, h]
/-- abstract values: a reference is a cell's number -/
def gtr (ad : Nat → Nat) : Value → Value
  | .ref k => .ref (ad k)
  | v => v
theorem gtr_cat (ad : Nat → Nat) (v : Value) : (gtr ad v).category = v.category := by cases v <;> rfl
/-- locals -/
def gl (ad : Nat → Nat) (nL : Nat) (L : List (Option Value)) (ls : Array Slot) : Prop := L.length = nL ∧ ls.size = nL ∧ lv_wf ls ∧ ∀ (i : Nat) (v : Value), L[i]? = some (some v) → ls[i]? = some (.val (gtr ad v))
def glv (ad : Nat → Nat) (L : List (Option Value)) : List (Nat × Value) := (List.range L.length).filterMap (fun i => (L.getD i none).map (fun v => (i, gtr ad v)))
theorem glv_mem {ad : Nat → Nat} {L : List (Option Value)} {q : Nat × Value} : q ∈ glv ad L ↔ ∃ v, L[q.1]? = some (some v) ∧ q.2 = gtr ad v := by
  unfold glv
  rw [List.mem_filterMap]
  constructor
  · rintro ⟨i, hi, h⟩
    have hi' := List.mem_range.mp hi
    cases hL : L.getD i none with
    | none => rw [hL] at h; cases h
    | some v =>
      rw [hL] at h
      cases h
      refine ⟨v, ?_, rfl⟩
      rw [List.getD_eq_getElem?_getD, List.getElem?_eq_getElem hi'] at hL
      rw [List.getElem?_eq_getElem hi']
      exact congrArg some hL
  · rintro ⟨v, h, e⟩
    obtain ⟨i, w⟩ := q
    have hi := (List.getElem?_eq_some_iff.mp h).1
    refine ⟨i, List.mem_range.mpr hi, ?_⟩
    have hh : L[i]? = some (some v) := h
    rw [List.getD_eq_getElem?_getD, hh]
    have e' : w = gtr ad v := e
    rw [e']
    rfl
theorem gl_has {ad : Nat → Nat} {nL : Nat} {L : List (Option Value)} {ls : Array Slot} (h : gl ad nL L ls) : lv_has ls nL (glv ad L) := by
  refine ⟨h.2.1, h.2.2.1, fun q hq => ?_⟩
  obtain ⟨v, h1, h2⟩ := glv_mem.mp hq
  rw [h2]
  exact h.2.2.2 _ _ h1
/-- a long just below is dropped, as the machine does -/
def gkl (L : List (Option Value)) (i : Nat) : List (Option Value) := match i with
  | 0 => L
  | i + 1 => match L.getD i none with
    | some (.long _) => L.set i none
    | some (.double _) => L.set i none
    | _ => L
def gs1 (L : List (Option Value)) (i : Nat) (v : Value) : List (Option Value) := (gkl L i).set i (some v)
def gs2 (L : List (Option Value)) (i : Nat) (v : Value) : List (Option Value) := ((gkl L i).set (i + 1) none).set i (some v)
theorem gkl_len (L : List (Option Value)) (i : Nat) : (gkl L i).length = L.length := by
  unfold gkl
  split
  · rfl
  · split <;> simp
theorem gkl_at {L : List (Option Value)} {i j : Nat} {v : Value} (h : (gkl L i)[j]? = some (some v)) : L[j]? = some (some v) ∧ ¬ (j + 1 = i ∧ v.category = 2) := by
  unfold gkl at h
  split at h
  · exact ⟨h, fun q => by omega⟩
  · rename_i i'
    have key : ∀ w, L.getD i' none = some w → w.category = 2 → (L.set i' none)[j]? = some (some v) → L[j]? = some (some v) ∧ ¬ (j + 1 = i' + 1 ∧ v.category = 2) := by
      intro w hw hc hj
      by_cases e : j = i'
      · subst e
        rw [List.getElem?_set_self'] at hj
        cases hx : L[j]? <;> rw [hx] at hj <;> simp at hj
      · rw [List.getElem?_set_ne (Ne.symm e)] at hj
        exact ⟨hj, fun q => e (by omega)⟩
    split at h
    · rename_i w hw
      exact key _ hw rfl h
    · rename_i w hw
      exact key _ hw rfl h
    · rename_i h1 h2
      refine ⟨h, fun q => ?_⟩
      have e : j = i' := by omega
      subst e
      have hd : L.getD j none = some v := by rw [List.getD_eq_getElem?_getD, h]; rfl
      cases v with
      | long x => exact h1 _ hd
      | double x => exact h2 _ hd
      | int x => exact absurd q.2 (by simp [Value.category])
      | float x => exact absurd q.2 (by simp [Value.category])
      | null => exact absurd q.2 (by simp [Value.category])
      | ref x => exact absurd q.2 (by simp [Value.category])
      | retAddr x => exact absurd q.2 (by simp [Value.category])
theorem gl_s1 {ad : Nat → Nat} {nL i : Nat} {L : List (Option Value)} {ls ls' : Array Slot} {v : Value} (h : gl ad nL L ls) (h' : lv_has ls' nL ((i, gtr ad v) :: (glv ad L).filter (fun q => !(q.1 == i) && !(q.1 + 1 == i && q.2.category == 2)))) : gl ad nL (gs1 L i v) ls' := by
  refine ⟨by simp [gs1, gkl_len, h.1], h'.1, h'.2.1, fun j w hj => ?_⟩
  unfold gs1 at hj
  by_cases e : j = i
  · subst e
    rw [List.getElem?_set_self'] at hj
    have hw : w = v := by
      cases hx : (gkl L j)[j]? <;> rw [hx] at hj <;> simp at hj
      exact hj.symm
    subst hw
    exact h'.2.2 (j, gtr ad w) List.mem_cons_self
  · rw [List.getElem?_set_ne (Ne.symm e)] at hj
    obtain ⟨h1, h2⟩ := gkl_at hj
    refine h'.2.2 (j, gtr ad w) (List.mem_cons_of_mem _ (List.mem_filter.mpr ⟨glv_mem.mpr ⟨w, h1, rfl⟩, ?_⟩))
    simp only [Bool.and_eq_true, Bool.not_eq_true', beq_eq_false_iff_ne, ne_eq, Bool.and_eq_false_iff]
    refine ⟨e, ?_⟩
    by_cases e1 : j + 1 = i
    · exact Or.inr (fun q => h2 ⟨e1, by rw [← gtr_cat ad]; exact q⟩)
    · exact Or.inl e1
theorem gl_s2 {ad : Nat → Nat} {nL i : Nat} {L : List (Option Value)} {ls ls' : Array Slot} {v : Value} (h : gl ad nL L ls) (h' : lv_has ls' nL ((i, gtr ad v) :: (glv ad L).filter (fun q => !(q.1 == i) && (!(q.1 == i + 1) && !(q.1 + 1 == i && q.2.category == 2))))) : gl ad nL (gs2 L i v) ls' := by
  refine ⟨by simp [gs2, gkl_len, h.1], h'.1, h'.2.1, fun j w hj => ?_⟩
  unfold gs2 at hj
  by_cases e : j = i
  · subst e
    rw [List.getElem?_set_self'] at hj
    have hw : w = v := by
      cases hx : ((gkl L j).set (j + 1) none)[j]? <;> rw [hx] at hj <;> simp at hj
      exact hj.symm
    subst hw
    exact h'.2.2 (j, gtr ad w) List.mem_cons_self
  · rw [List.getElem?_set_ne (Ne.symm e)] at hj
    by_cases e2 : j = i + 1
    · subst e2
      rw [List.getElem?_set_self'] at hj
      cases hx : (gkl L i)[i + 1]? <;> rw [hx] at hj <;> simp at hj
    · rw [List.getElem?_set_ne (Ne.symm e2)] at hj
      obtain ⟨h1, h2⟩ := gkl_at hj
      refine h'.2.2 (j, gtr ad w) (List.mem_cons_of_mem _ (List.mem_filter.mpr ⟨glv_mem.mpr ⟨w, h1, rfl⟩, ?_⟩))
      simp only [Bool.and_eq_true, Bool.not_eq_true', beq_eq_false_iff_ne, ne_eq, Bool.and_eq_false_iff]
      refine ⟨e, e2, ?_⟩
      by_cases e1 : j + 1 = i
      · exact Or.inr (fun q => h2 ⟨e1, by rw [← gtr_cat ad]; exact q⟩)
      · exact Or.inl e1
theorem gl_at {ad : Nat → Nat} {nL i : Nat} {L : List (Option Value)} {ls : Array Slot} {v : Value} (h : gl ad nL L ls) (hi : L[i]? = some (some v)) : ls[i]? = some (.val (gtr ad v)) := h.2.2.2 i v hi
theorem gl_ad {ad ad' : Nat → Nat} {nL : Nat} {L : List (Option Value)} {ls : Array Slot} (h : gl ad nL L ls) (he : ∀ (i : Nat) (k : Nat), L[i]? = some (some (.ref k)) → ad' k = ad k) : gl ad' nL L ls := by
  refine ⟨h.1, h.2.1, h.2.2.1, fun i v hi => ?_⟩
  rw [h.2.2.2 i v hi]
  cases v with
  | ref k => show some (Slot.val (.ref (ad k))) = some (Slot.val (.ref (ad' k))); rw [he i k hi]
  | _ => rfl
/-- the locals at a method's entry -/
def gent : List Value → List (Option Value)
  | [] => []
  | .long x :: vs => some (.long x) :: none :: gent vs
  | .double x :: vs => some (.double x) :: none :: gent vs
  | v :: vs => some v :: gent vs
def gpad (n : Nat) (L : List (Option Value)) : List (Option Value) := L ++ List.replicate (n - L.length) none
end
section
/-! the judgement: G Z pc L st M; Z = (cells of the world, cells made, slots made) -/
def gT : List Cond := lw_tbl.filter goodWord
theorem gT_in {w : Cond} (h : w ∈ lw_tbl) (hg : goodWord w = true) : w ∈ gT := List.mem_filter.mpr ⟨h, hg⟩
def gWs (y : MethodName) (cc : ByteArray) (nL : Nat) (ret : Option FieldType) : List Cond := .code y cc nL ret :: gT
theorem gWs_good {y y' : MethodName} {cc cc' : ByteArray} {nL nL' : Nat} {ret ret' : Option FieldType} (h : Cond.code y' cc' nL' ret' ∈ gT) : GoodIn (gWs y cc nL ret) (gWs y' cc' nL' ret') := by
  intro w hw
  have hm : w ∈ gT := by
    rcases List.mem_cons.mp hw with e | e
    · rw [e]; exact h
    · exact e
  exact ⟨List.mem_cons_of_mem _ hm, good_of_word (List.mem_filter.mp hm).2⟩
theorem gT_good {y' : MethodName} {cc' : ByteArray} {nL' : Nat} {ret' : Option FieldType} (h : Cond.code y' cc' nL' ret' ∈ gT) : GoodIn gT (gWs y' cc' nL' ret') := by
  intro w hw
  have hm : w ∈ gT := by
    rcases List.mem_cons.mp hw with e | e
    · rw [e]; exact h
    · exact e
  exact ⟨hm, good_of_word (List.mem_filter.mp hm).2⟩
def gRm (d mc ms : Nat) : Room := { frames := d, cells := mc, slots := ms, locals := 40 * d }
def gtys (dA : Nat → ClassId) : List (ClassId × FieldType) := [(dA 0, .int), (dA 1, .long), (dA 2, .char), (dA 3, .boolean), (dA 4, .object "WaterCarts$Village"), (dA 5, .object "WaterCarts$Spring"), (dA 6, .object "WaterCarts$Tanker"), (dA 7, .object "WaterCarts$Bore"), (dA 8, .array .int)]
/-- which cells may be written: the world's, and what is new -/
def gA (ad : Nat → Nat) (n sz : Nat) : Nat → Prop := fun q => (∃ k, k < n ∧ q = ad k) ∨ sz ≤ q
/-- the addresses go on: what was there stays -/
def gExt (n0 : Nat) (ad0 : Nat → Nat) (n : Nat) (ad : Nat → Nat) : Prop := n0 ≤ n ∧ (∀ k, k < n0 ∨ 1000 ≤ k → ad k = ad0 k) ∧ (n = n0 → ad = ad0)
theorem gExt.rf {n : Nat} {ad : Nat → Nat} : gExt n ad n ad := ⟨Nat.le_refl _, fun _ _ => rfl, fun _ => rfl⟩
theorem gExt.trans {n0 n n' : Nat} {ad0 ad ad' : Nat → Nat} (h : gExt n0 ad0 n ad) (h' : gExt n ad n' ad') : gExt n0 ad0 n' ad' := by
  refine ⟨Nat.le_trans h.1 h'.1, fun k hk => ?_, fun e => ?_⟩
  · rw [h'.2.1 k (hk.imp (fun q => Nat.lt_of_lt_of_le q h.1) id), h.2.1 k hk]
  · have e1 : n = n0 := Nat.le_antisymm (by rw [← e]; exact h'.1) h.1
    have e2 : n' = n := by omega
    rw [h'.2.2 e2, h.2.2 e1]
/-- what stands outside the world, for good: the String constants -/
def glen : List Nat := [4, 5, 4, 3, 3, 6, 6, 4, 4, 3]
def gbyt : List (List Int32) := [[104, 101, 97, 100], [98, 101, 97, 115, 116], [119, 104, 101, 110], [97, 110, 100], [100, 97, 121], [112, 101, 111, 112, 108, 101], [98, 101, 97, 115, 116, 115], [100, 97, 121, 115], [102, 117, 108, 108], [100, 114, 121]]
def gsx : List (Nat × String) := [(76, "head"), (82, "beast"), (84, "when"), (86, "and"), (88, "day"), (90, "people"), (92, "beasts"), (94, "days"), (96, "full"), (98, "dry")]
/-- words that a warming keeps, the nest's among them -/
def gNl : List Cond := lw_tbl.filter (fun w => w.onTables && w.keepsH)
theorem gNl_in {w : Cond} (h : w ∈ lw_tbl) (hg : (w.onTables && w.keepsH) = true) : w ∈ gNl := List.mem_filter.mpr ⟨h, hg⟩
def gOl : List String := ["WaterCarts$Village", "WaterCarts$Spring", "WaterCarts$Tanker", "WaterCarts$Bore"]
def gOA (U : State) : Prop := (Cond.arrayOver (.array .int)).before #[] U = true
theorem gOA_moved {u U : State} (hvm : u.vm.Alike U.vm) (h : gOA u) : gOA U := by
  unfold gOA at h ⊢
  simp only [Cond.before, Cond.holds, Cond.value, beq_iff_eq] at h ⊢
  rw [hvm.findClass]
  cases hc : u.vm.findClass (FieldType.array .int).toString with
  | none => rw [hc] at h; simp at h
  | some comp =>
    rw [hc] at h
    simp only [Option.bind_some, Option.bind_eq_some_iff, Option.map_eq_some_iff] at h ⊢
    obtain ⟨c, hi, k, hk, hb⟩ := h
    obtain ⟨k', hk', he⟩ := hvm.2.2 _ _ hk
    refine ⟨c, ?_, k', hk', ?_⟩
    · have h1 := va_idx_bare U.vm comp
      have h2 := va_idx_bare u.vm comp
      have e := hvm.bare_eq
      first
        | (rw [e] at h1; exact h1.symm.trans (h2.trans hi))
        | (rw [← e] at h1; exact h1.symm.trans (h2.trans hi))
    · rw [he]
      cases hkind : k.kind with
      | array a ty => rw [hkind] at hb; simpa [hvm.findClass] using hb
      | _ => rw [hkind] at hb; simp at hb
def gX (ad : Nat → Nat) (A : Nat → Prop) (U : State) (H : Heap) : Prop :=
  vk_S 10 glen gbyt (fun i => ad (1000 + i)) (fun i => ad (2000 + i)) A U H ∧ (∀ i, i < 10 → vk_R "WaterCarts$Tape" (gsx.getD i (0, "")).1 (gsx.getD i (0, "")).2 (ad (1000 + i)) U) ∧ va_Z "java/lang/String" "COMPACT_STRINGS" "Z" (.int 1) A U H ∧ (∀ w ∈ gNl, w.before #[] U = true) ∧ (∀ C ∈ gOl, va_AO C U) ∧ gOA U
theorem gX.warm {ad : Nat → Nat} {A : Nat → Prop} {s U : State} {H : Heap} (hW : s.WarmedH U.vm) (h : gX ad A s H) : gX ad A U H :=
  ⟨h.1.moved hW.alike, fun i hi => (h.2.1 i hi).warm hW, h.2.2.1.moved hW.alike, fun w hw => by
    have hm := (List.mem_filter.mp hw).2
    simp only [Bool.and_eq_true] at hm
    have h1 := Cond.onTables_warmH (T := U) (args' := #[]) hW hm.1 hm.2 (h.2.2.2.1 w hw)
    rwa [State.setVm_self] at h1, fun C hC => (h.2.2.2.2.1 C hC).moved hW.alike, gOA_moved hW.alike h.2.2.2.2.2⟩
theorem gX.kept {ad : Nat → Nat} {A : Nat → Prop} {U : State} {H H1 : Heap} (h : gX ad A U H) (hq : ∀ a : Nat, a < H.size → ¬ A a → H1[a]? = H[a]?) : gX ad A U H1 := ⟨h.1.kept hq, h.2.1, h.2.2.1.kept hq, h.2.2.2⟩
theorem gX.narrow {ad : Nat → Nat} {A B : Nat → Prop} {U : State} {H : Heap} (h : gX ad A U H) (hAB : ∀ q, B q → A q) : gX ad B U H := ⟨h.1.narrow hAB, h.2.1, h.2.2.1.narrow hAB, h.2.2.2⟩
theorem gX.calling {ad : Nat → Nat} {A : Nat → Prop} {U : State} {H : Heap} {g : JFrame} {mk : MethodId} {a : Array Value} (h : gX ad A U H) : gX ad A (U.calling g mk a) H :=
  ⟨vk_S.moved (u := U) (U := U.calling g mk a) (Vm.Alike.refl U.vm) h.1, fun i hi => vk_R.same (u := U) rfl (h.2.1 i hi), va_Z.moved (u := U) (U := U.calling g mk a) (Vm.Alike.refl U.vm) h.2.2.1, fun w hw => by
    have hm := (List.mem_filter.mp hw).2
    simp only [Bool.and_eq_true] at hm
    exact va_tabs hm.1 (u := U) rfl (h.2.2.2.1 w hw), fun C hC => va_AO.moved (u := U) (U := U.calling g mk a) (Vm.Alike.refl U.vm) (h.2.2.2.2.1 C hC), gOA_moved (u := U) (U := U.calling g mk a) (Vm.Alike.refl U.vm) h.2.2.2.2.2⟩
theorem gX.adr {ad ad' : Nat → Nat} {A : Nat → Prop} {U : State} {H : Heap} (h : gX ad A U H) (e : ∀ k, 1000 ≤ k → ad' k = ad k) : gX ad' A U H := by
  have e1 : (fun i => ad' (1000 + i)) = (fun i => ad (1000 + i)) := funext fun i => e _ (by omega)
  have e2 : (fun i => ad' (2000 + i)) = (fun i => ad (2000 + i)) := funext fun i => e _ (by omega)
  refine ⟨by rw [e1, e2]; exact h.1, fun i hi => ?_, h.2.2⟩
  rw [e _ (by omega)]
  exact h.2.1 i hi
/-- the fixed facts of a walk -/
def gF (p : Program) (l : Launch) (R : Room) (s : State) (m : MethodId) (args : Array Value) (meth : Method) (c : Code) (D : va_G) (dA : Nat → ClassId) (n0 : Nat) (ad0 : Nat → Nat) (d : Nat) (own : String) (cc : ByteArray) (nL : Nat) : Prop :=
  p.tables.exec = Jvm.exec ∧ c.code = cc ∧ c.maxLocals = nL ∧ s.vm.findClass own = some m.cls ∧ (∀ w ∈ gT, w.before args s = true) ∧ va_K D vwCl (gtys dA) s ∧ meth.locks = false ∧ d ≤ R.frames ∧ 40 * d ≤ R.locals ∧ gX ad0 (gA ad0 n0 s.heap.size) s s.heap
def gG (p : Program) (l : Launch) (e : Env) (R : Room) (s : State) (m : MethodId) (args : Array Value) (below : List Frame) (meth : Method) (c : Code) (D : va_G) (dA : Nat → ClassId) (n0 : Nat) (ad0 : Nat → Nat) (nL : Nat) (Q : State → Prop) (Z : Nat × Nat × Nat) (pc : Nat) (L : List (Option Value)) (st : List Value) (M : gM) : Prop :=
  ∀ (ad : Nat → Nat) (H : Heap) (locs : List Loc) (ls : Array Slot), gExt n0 ad0 Z.1 ad → va_P D vwCl (gw dA ad Z.1 M) H → va_D (gA ad0 n0 s.heap.size) (gw dA ad Z.1 M) → va_S (gA ad0 n0 s.heap.size) s.heap H locs → gl ad nL L ls →
    W p l e R s m args below meth c H locs Z.2.1 Z.2.2 Q (F0 m pc ls (st.map (gtr ad)))
abbrev gJ : Type := Nat × Nat × Nat → Nat → List (Option Value) → List Value → gM → Prop
/-- G is the judgement of some walk of this code; mc, ms: the room that is left for cells and slots; d: frames -/
def gS (d mc ms : Nat) (own : String) (cc : ByteArray) (nL : Nat) (G : gJ) : Prop :=
  ∃ (p : Program) (l : Launch) (e : Env) (R : Room) (s : State) (m : MethodId) (args : Array Value) (below : List Frame) (meth : Method) (c : Code) (D : va_G) (dA : Nat → ClassId) (n0 : Nat) (ad0 : Nat → Nat) (Q : State → Prop),
    gF p l R s m args meth c D dA n0 ad0 d own cc nL ∧ R.cells = mc ∧ R.slots = ms ∧ G = gG p l e R s m args below meth c D dA n0 ad0 nL Q
theorem r_iconst {d mc ms : Nat} {own : String} {cc : ByteArray} {nL : Nat} {G : gJ} (hG : gS d mc ms own cc nL G) {Z : Nat × Nat × Nat} {pc : Nat} {L : List (Option Value)} {st : List Value} {M : gM} {n : Int} (v : Int32) (hd : decode cc pc = .ok (.iconst n, 1)) (hv : Int32.ofInt n = v) (k : G Z (pc + 1) L (.int v :: st) M) : G Z pc L (st) M := by
  obtain ⟨p, l, e, R, s, m, args, below, meth, c, D, dA, n0, ad0, Q, ⟨hx, hb, hml, hown, hts, hK, hlk, hfr, hlo, hX⟩, hmc, hms, rfl⟩ := hG
  intro ad H locs ls he hP hD hS hl
  exact lv_iconst hx hb hd hv (k ad H locs ls he hP hD hS hl)
theorem r_bipush {d mc ms : Nat} {own : String} {cc : ByteArray} {nL : Nat} {G : gJ} (hG : gS d mc ms own cc nL G) {Z : Nat × Nat × Nat} {pc : Nat} {L : List (Option Value)} {st : List Value} {M : gM} {n : Int} (v : Int32) (hd : decode cc pc = .ok (.bipush n, 2)) (hv : (Int8.ofInt n).toInt32 = v) (k : G Z (pc + 2) L (.int v :: st) M) : G Z pc L (st) M := by
  obtain ⟨p, l, e, R, s, m, args, below, meth, c, D, dA, n0, ad0, Q, ⟨hx, hb, hml, hown, hts, hK, hlk, hfr, hlo, hX⟩, hmc, hms, rfl⟩ := hG
  intro ad H locs ls he hP hD hS hl
  exact lv_bipush hx hb hd hv (k ad H locs ls he hP hD hS hl)
theorem r_sipush {d mc ms : Nat} {own : String} {cc : ByteArray} {nL : Nat} {G : gJ} (hG : gS d mc ms own cc nL G) {Z : Nat × Nat × Nat} {pc : Nat} {L : List (Option Value)} {st : List Value} {M : gM} {n : Int} (v : Int32) (hd : decode cc pc = .ok (.sipush n, 3)) (hv : (Int16.ofInt n).toInt32 = v) (k : G Z (pc + 3) L (.int v :: st) M) : G Z pc L (st) M := by
  obtain ⟨p, l, e, R, s, m, args, below, meth, c, D, dA, n0, ad0, Q, ⟨hx, hb, hml, hown, hts, hK, hlk, hfr, hlo, hX⟩, hmc, hms, rfl⟩ := hG
  intro ad H locs ls he hP hD hS hl
  exact lv_sipush hx hb hd hv (k ad H locs ls he hP hD hS hl)
theorem r_lconst {d mc ms : Nat} {own : String} {cc : ByteArray} {nL : Nat} {G : gJ} (hG : gS d mc ms own cc nL G) {Z : Nat × Nat × Nat} {pc : Nat} {L : List (Option Value)} {st : List Value} {M : gM} {n : Fin 2} (v : Int64) (hd : decode cc pc = .ok (.lconst n, 1)) (hv : Int64.ofNat (n : Nat) = v) (k : G Z (pc + 1) L (.long v :: st) M) : G Z pc L (st) M := by
  obtain ⟨p, l, e, R, s, m, args, below, meth, c, D, dA, n0, ad0, Q, ⟨hx, hb, hml, hown, hts, hK, hlk, hfr, hlo, hX⟩, hmc, hms, rfl⟩ := hG
  intro ad H locs ls he hP hD hS hl
  exact lv_lconst hx hb hd hv (k ad H locs ls he hP hD hS hl)
theorem r_iload_n {d mc ms : Nat} {own : String} {cc : ByteArray} {nL : Nat} {G : gJ} (hG : gS d mc ms own cc nL G) {Z : Nat × Nat × Nat} {pc : Nat} {L : List (Option Value)} {st : List Value} {M : gM} {i : Fin 4} {x : Int32} (hd : decode cc pc = .ok (.iload_n i, 1)) (hi : L[(i : Nat)]? = some (some (.int x))) (k : G Z (pc + 1) L (.int x :: st) M) : G Z pc L (st) M := by
  obtain ⟨p, l, e, R, s, m, args, below, meth, c, D, dA, n0, ad0, Q, ⟨hx, hb, hml, hown, hts, hK, hlk, hfr, hlo, hX⟩, hmc, hms, rfl⟩ := hG
  intro ad H locs ls he hP hD hS hl
  exact lv_iload_n hx hb hd rfl (gl_at hl hi) (k ad H locs ls he hP hD hS hl)
theorem r_iload {d mc ms : Nat} {own : String} {cc : ByteArray} {nL : Nat} {G : gJ} (hG : gS d mc ms own cc nL G) {Z : Nat × Nat × Nat} {pc : Nat} {L : List (Option Value)} {st : List Value} {M : gM} {i : Nat} {x : Int32} (hd : decode cc pc = .ok (.iload i, 2)) (hi : L[i]? = some (some (.int x))) (k : G Z (pc + 2) L (.int x :: st) M) : G Z pc L (st) M := by
  obtain ⟨p, l, e, R, s, m, args, below, meth, c, D, dA, n0, ad0, Q, ⟨hx, hb, hml, hown, hts, hK, hlk, hfr, hlo, hX⟩, hmc, hms, rfl⟩ := hG
  intro ad H locs ls he hP hD hS hl
  exact lv_iload hx hb hd (gl_at hl hi) (k ad H locs ls he hP hD hS hl)
theorem r_lload_n {d mc ms : Nat} {own : String} {cc : ByteArray} {nL : Nat} {G : gJ} (hG : gS d mc ms own cc nL G) {Z : Nat × Nat × Nat} {pc : Nat} {L : List (Option Value)} {st : List Value} {M : gM} {i : Fin 4} {x : Int64} (hd : decode cc pc = .ok (.lload_n i, 1)) (hi : L[(i : Nat)]? = some (some (.long x))) (k : G Z (pc + 1) L (.long x :: st) M) : G Z pc L (st) M := by
  obtain ⟨p, l, e, R, s, m, args, below, meth, c, D, dA, n0, ad0, Q, ⟨hx, hb, hml, hown, hts, hK, hlk, hfr, hlo, hX⟩, hmc, hms, rfl⟩ := hG
  intro ad H locs ls he hP hD hS hl
  exact lv_lload_n hx hb hd rfl (gl_at hl hi) (k ad H locs ls he hP hD hS hl)
theorem r_lload {d mc ms : Nat} {own : String} {cc : ByteArray} {nL : Nat} {G : gJ} (hG : gS d mc ms own cc nL G) {Z : Nat × Nat × Nat} {pc : Nat} {L : List (Option Value)} {st : List Value} {M : gM} {i : Nat} {x : Int64} (hd : decode cc pc = .ok (.lload i, 2)) (hi : L[i]? = some (some (.long x))) (k : G Z (pc + 2) L (.long x :: st) M) : G Z pc L (st) M := by
  obtain ⟨p, l, e, R, s, m, args, below, meth, c, D, dA, n0, ad0, Q, ⟨hx, hb, hml, hown, hts, hK, hlk, hfr, hlo, hX⟩, hmc, hms, rfl⟩ := hG
  intro ad H locs ls he hP hD hS hl
  exact lv_lload hx hb hd (gl_at hl hi) (k ad H locs ls he hP hD hS hl)
theorem r_aload_n {d mc ms : Nat} {own : String} {cc : ByteArray} {nL : Nat} {G : gJ} (hG : gS d mc ms own cc nL G) {Z : Nat × Nat × Nat} {pc : Nat} {L : List (Option Value)} {st : List Value} {M : gM} {i : Fin 4} {x : Nat} (hd : decode cc pc = .ok (.aload_n i, 1)) (hi : L[(i : Nat)]? = some (some (.ref x))) (k : G Z (pc + 1) L (.ref x :: st) M) : G Z pc L (st) M := by
  obtain ⟨p, l, e, R, s, m, args, below, meth, c, D, dA, n0, ad0, Q, ⟨hx, hb, hml, hown, hts, hK, hlk, hfr, hlo, hX⟩, hmc, hms, rfl⟩ := hG
  intro ad H locs ls he hP hD hS hl
  exact lv_aload_n hx hb hd rfl (gl_at hl hi) (k ad H locs ls he hP hD hS hl)
theorem r_aload {d mc ms : Nat} {own : String} {cc : ByteArray} {nL : Nat} {G : gJ} (hG : gS d mc ms own cc nL G) {Z : Nat × Nat × Nat} {pc : Nat} {L : List (Option Value)} {st : List Value} {M : gM} {i : Nat} {x : Nat} (hd : decode cc pc = .ok (.aload i, 2)) (hi : L[i]? = some (some (.ref x))) (k : G Z (pc + 2) L (.ref x :: st) M) : G Z pc L (st) M := by
  obtain ⟨p, l, e, R, s, m, args, below, meth, c, D, dA, n0, ad0, Q, ⟨hx, hb, hml, hown, hts, hK, hlk, hfr, hlo, hX⟩, hmc, hms, rfl⟩ := hG
  intro ad H locs ls he hP hD hS hl
  exact lv_aload hx hb hd (gl_at hl hi) (k ad H locs ls he hP hD hS hl)
theorem r_iadd {d mc ms : Nat} {own : String} {cc : ByteArray} {nL : Nat} {G : gJ} (hG : gS d mc ms own cc nL G) {Z : Nat × Nat × Nat} {pc : Nat} {L : List (Option Value)} {st : List Value} {M : gM} {x y : Int32} (hd : decode cc pc = .ok (.iadd, 1))  (k : G Z (pc + 1) L (.int (x + y) :: st) M) : G Z pc L (.int y :: .int x :: st) M := by
  obtain ⟨p, l, e, R, s, m, args, below, meth, c, D, dA, n0, ad0, Q, ⟨hx, hb, hml, hown, hts, hK, hlk, hfr, hlo, hX⟩, hmc, hms, rfl⟩ := hG
  intro ad H locs ls he hP hD hS hl
  exact lv_iadd hx hb hd (k ad H locs ls he hP hD hS hl)
theorem r_isub {d mc ms : Nat} {own : String} {cc : ByteArray} {nL : Nat} {G : gJ} (hG : gS d mc ms own cc nL G) {Z : Nat × Nat × Nat} {pc : Nat} {L : List (Option Value)} {st : List Value} {M : gM} {x y : Int32} (hd : decode cc pc = .ok (.isub, 1))  (k : G Z (pc + 1) L (.int (x - y) :: st) M) : G Z pc L (.int y :: .int x :: st) M := by
  obtain ⟨p, l, e, R, s, m, args, below, meth, c, D, dA, n0, ad0, Q, ⟨hx, hb, hml, hown, hts, hK, hlk, hfr, hlo, hX⟩, hmc, hms, rfl⟩ := hG
  intro ad H locs ls he hP hD hS hl
  exact lv_isub hx hb hd (k ad H locs ls he hP hD hS hl)
theorem r_imul {d mc ms : Nat} {own : String} {cc : ByteArray} {nL : Nat} {G : gJ} (hG : gS d mc ms own cc nL G) {Z : Nat × Nat × Nat} {pc : Nat} {L : List (Option Value)} {st : List Value} {M : gM} {x y : Int32} (hd : decode cc pc = .ok (.imul, 1))  (k : G Z (pc + 1) L (.int (x * y) :: st) M) : G Z pc L (.int y :: .int x :: st) M := by
  obtain ⟨p, l, e, R, s, m, args, below, meth, c, D, dA, n0, ad0, Q, ⟨hx, hb, hml, hown, hts, hK, hlk, hfr, hlo, hX⟩, hmc, hms, rfl⟩ := hG
  intro ad H locs ls he hP hD hS hl
  exact lv_imul hx hb hd (k ad H locs ls he hP hD hS hl)
theorem r_iand {d mc ms : Nat} {own : String} {cc : ByteArray} {nL : Nat} {G : gJ} (hG : gS d mc ms own cc nL G) {Z : Nat × Nat × Nat} {pc : Nat} {L : List (Option Value)} {st : List Value} {M : gM} {x y : Int32} (hd : decode cc pc = .ok (.iand, 1))  (k : G Z (pc + 1) L (.int (x &&& y) :: st) M) : G Z pc L (.int y :: .int x :: st) M := by
  obtain ⟨p, l, e, R, s, m, args, below, meth, c, D, dA, n0, ad0, Q, ⟨hx, hb, hml, hown, hts, hK, hlk, hfr, hlo, hX⟩, hmc, hms, rfl⟩ := hG
  intro ad H locs ls he hP hD hS hl
  exact lv_iand hx hb hd (k ad H locs ls he hP hD hS hl)
theorem r_ior {d mc ms : Nat} {own : String} {cc : ByteArray} {nL : Nat} {G : gJ} (hG : gS d mc ms own cc nL G) {Z : Nat × Nat × Nat} {pc : Nat} {L : List (Option Value)} {st : List Value} {M : gM} {x y : Int32} (hd : decode cc pc = .ok (.ior, 1))  (k : G Z (pc + 1) L (.int (x ||| y) :: st) M) : G Z pc L (.int y :: .int x :: st) M := by
  obtain ⟨p, l, e, R, s, m, args, below, meth, c, D, dA, n0, ad0, Q, ⟨hx, hb, hml, hown, hts, hK, hlk, hfr, hlo, hX⟩, hmc, hms, rfl⟩ := hG
  intro ad H locs ls he hP hD hS hl
  exact lv_ior hx hb hd (k ad H locs ls he hP hD hS hl)
theorem r_ixor {d mc ms : Nat} {own : String} {cc : ByteArray} {nL : Nat} {G : gJ} (hG : gS d mc ms own cc nL G) {Z : Nat × Nat × Nat} {pc : Nat} {L : List (Option Value)} {st : List Value} {M : gM} {x y : Int32} (hd : decode cc pc = .ok (.ixor, 1))  (k : G Z (pc + 1) L (.int (x ^^^ y) :: st) M) : G Z pc L (.int y :: .int x :: st) M := by
  obtain ⟨p, l, e, R, s, m, args, below, meth, c, D, dA, n0, ad0, Q, ⟨hx, hb, hml, hown, hts, hK, hlk, hfr, hlo, hX⟩, hmc, hms, rfl⟩ := hG
  intro ad H locs ls he hP hD hS hl
  exact lv_ixor hx hb hd (k ad H locs ls he hP hD hS hl)
theorem r_ishl {d mc ms : Nat} {own : String} {cc : ByteArray} {nL : Nat} {G : gJ} (hG : gS d mc ms own cc nL G) {Z : Nat × Nat × Nat} {pc : Nat} {L : List (Option Value)} {st : List Value} {M : gM} {x y : Int32} (hd : decode cc pc = .ok (.ishl, 1))  (k : G Z (pc + 1) L (.int (x <<< (y &&& 31)) :: st) M) : G Z pc L (.int y :: .int x :: st) M := by
  obtain ⟨p, l, e, R, s, m, args, below, meth, c, D, dA, n0, ad0, Q, ⟨hx, hb, hml, hown, hts, hK, hlk, hfr, hlo, hX⟩, hmc, hms, rfl⟩ := hG
  intro ad H locs ls he hP hD hS hl
  exact lv_ishl hx hb hd (k ad H locs ls he hP hD hS hl)
theorem r_ishr {d mc ms : Nat} {own : String} {cc : ByteArray} {nL : Nat} {G : gJ} (hG : gS d mc ms own cc nL G) {Z : Nat × Nat × Nat} {pc : Nat} {L : List (Option Value)} {st : List Value} {M : gM} {x y : Int32} (hd : decode cc pc = .ok (.ishr, 1))  (k : G Z (pc + 1) L (.int (x >>> (y &&& 31)) :: st) M) : G Z pc L (.int y :: .int x :: st) M := by
  obtain ⟨p, l, e, R, s, m, args, below, meth, c, D, dA, n0, ad0, Q, ⟨hx, hb, hml, hown, hts, hK, hlk, hfr, hlo, hX⟩, hmc, hms, rfl⟩ := hG
  intro ad H locs ls he hP hD hS hl
  exact lv_ishr hx hb hd (k ad H locs ls he hP hD hS hl)
theorem r_idiv {d mc ms : Nat} {own : String} {cc : ByteArray} {nL : Nat} {G : gJ} (hG : gS d mc ms own cc nL G) {Z : Nat × Nat × Nat} {pc : Nat} {L : List (Option Value)} {st : List Value} {M : gM} {x y : Int32} (hd : decode cc pc = .ok (.idiv, 1)) (hne : ¬ y = 0) (k : G Z (pc + 1) L (.int (x / y) :: st) M) : G Z pc L (.int y :: .int x :: st) M := by
  obtain ⟨p, l, e, R, s, m, args, below, meth, c, D, dA, n0, ad0, Q, ⟨hx, hb, hml, hown, hts, hK, hlk, hfr, hlo, hX⟩, hmc, hms, rfl⟩ := hG
  intro ad H locs ls he hP hD hS hl
  exact lv_idiv hx hb hd hne (k ad H locs ls he hP hD hS hl)
theorem r_irem {d mc ms : Nat} {own : String} {cc : ByteArray} {nL : Nat} {G : gJ} (hG : gS d mc ms own cc nL G) {Z : Nat × Nat × Nat} {pc : Nat} {L : List (Option Value)} {st : List Value} {M : gM} {x y : Int32} (hd : decode cc pc = .ok (.irem, 1)) (hne : ¬ y = 0) (k : G Z (pc + 1) L (.int (x - x / y * y) :: st) M) : G Z pc L (.int y :: .int x :: st) M := by
  obtain ⟨p, l, e, R, s, m, args, below, meth, c, D, dA, n0, ad0, Q, ⟨hx, hb, hml, hown, hts, hK, hlk, hfr, hlo, hX⟩, hmc, hms, rfl⟩ := hG
  intro ad H locs ls he hP hD hS hl
  exact lv_irem hx hb hd hne (k ad H locs ls he hP hD hS hl)
theorem r_ladd {d mc ms : Nat} {own : String} {cc : ByteArray} {nL : Nat} {G : gJ} (hG : gS d mc ms own cc nL G) {Z : Nat × Nat × Nat} {pc : Nat} {L : List (Option Value)} {st : List Value} {M : gM} {x y : Int64} (hd : decode cc pc = .ok (.ladd, 1))  (k : G Z (pc + 1) L (.long (x + y) :: st) M) : G Z pc L (.long y :: .long x :: st) M := by
  obtain ⟨p, l, e, R, s, m, args, below, meth, c, D, dA, n0, ad0, Q, ⟨hx, hb, hml, hown, hts, hK, hlk, hfr, hlo, hX⟩, hmc, hms, rfl⟩ := hG
  intro ad H locs ls he hP hD hS hl
  exact lv_ladd hx hb hd (k ad H locs ls he hP hD hS hl)
theorem r_lsub {d mc ms : Nat} {own : String} {cc : ByteArray} {nL : Nat} {G : gJ} (hG : gS d mc ms own cc nL G) {Z : Nat × Nat × Nat} {pc : Nat} {L : List (Option Value)} {st : List Value} {M : gM} {x y : Int64} (hd : decode cc pc = .ok (.lsub, 1))  (k : G Z (pc + 1) L (.long (x - y) :: st) M) : G Z pc L (.long y :: .long x :: st) M := by
  obtain ⟨p, l, e, R, s, m, args, below, meth, c, D, dA, n0, ad0, Q, ⟨hx, hb, hml, hown, hts, hK, hlk, hfr, hlo, hX⟩, hmc, hms, rfl⟩ := hG
  intro ad H locs ls he hP hD hS hl
  exact lv_lsub hx hb hd (k ad H locs ls he hP hD hS hl)
theorem r_lmul {d mc ms : Nat} {own : String} {cc : ByteArray} {nL : Nat} {G : gJ} (hG : gS d mc ms own cc nL G) {Z : Nat × Nat × Nat} {pc : Nat} {L : List (Option Value)} {st : List Value} {M : gM} {x y : Int64} (hd : decode cc pc = .ok (.lmul, 1))  (k : G Z (pc + 1) L (.long (x * y) :: st) M) : G Z pc L (.long y :: .long x :: st) M := by
  obtain ⟨p, l, e, R, s, m, args, below, meth, c, D, dA, n0, ad0, Q, ⟨hx, hb, hml, hown, hts, hK, hlk, hfr, hlo, hX⟩, hmc, hms, rfl⟩ := hG
  intro ad H locs ls he hP hD hS hl
  exact lv_lmul hx hb hd (k ad H locs ls he hP hD hS hl)
theorem r_land {d mc ms : Nat} {own : String} {cc : ByteArray} {nL : Nat} {G : gJ} (hG : gS d mc ms own cc nL G) {Z : Nat × Nat × Nat} {pc : Nat} {L : List (Option Value)} {st : List Value} {M : gM} {x y : Int64} (hd : decode cc pc = .ok (.land, 1))  (k : G Z (pc + 1) L (.long (x &&& y) :: st) M) : G Z pc L (.long y :: .long x :: st) M := by
  obtain ⟨p, l, e, R, s, m, args, below, meth, c, D, dA, n0, ad0, Q, ⟨hx, hb, hml, hown, hts, hK, hlk, hfr, hlo, hX⟩, hmc, hms, rfl⟩ := hG
  intro ad H locs ls he hP hD hS hl
  exact lv_land hx hb hd (k ad H locs ls he hP hD hS hl)
theorem r_lor {d mc ms : Nat} {own : String} {cc : ByteArray} {nL : Nat} {G : gJ} (hG : gS d mc ms own cc nL G) {Z : Nat × Nat × Nat} {pc : Nat} {L : List (Option Value)} {st : List Value} {M : gM} {x y : Int64} (hd : decode cc pc = .ok (.lor, 1))  (k : G Z (pc + 1) L (.long (x ||| y) :: st) M) : G Z pc L (.long y :: .long x :: st) M := by
  obtain ⟨p, l, e, R, s, m, args, below, meth, c, D, dA, n0, ad0, Q, ⟨hx, hb, hml, hown, hts, hK, hlk, hfr, hlo, hX⟩, hmc, hms, rfl⟩ := hG
  intro ad H locs ls he hP hD hS hl
  exact lv_lor hx hb hd (k ad H locs ls he hP hD hS hl)
theorem r_ldiv {d mc ms : Nat} {own : String} {cc : ByteArray} {nL : Nat} {G : gJ} (hG : gS d mc ms own cc nL G) {Z : Nat × Nat × Nat} {pc : Nat} {L : List (Option Value)} {st : List Value} {M : gM} {x y : Int64} (hd : decode cc pc = .ok (.ldiv, 1)) (hne : ¬ y = 0) (k : G Z (pc + 1) L (.long (x / y) :: st) M) : G Z pc L (.long y :: .long x :: st) M := by
  obtain ⟨p, l, e, R, s, m, args, below, meth, c, D, dA, n0, ad0, Q, ⟨hx, hb, hml, hown, hts, hK, hlk, hfr, hlo, hX⟩, hmc, hms, rfl⟩ := hG
  intro ad H locs ls he hP hD hS hl
  exact lv_ldiv hx hb hd hne (k ad H locs ls he hP hD hS hl)
theorem r_lcmp {d mc ms : Nat} {own : String} {cc : ByteArray} {nL : Nat} {G : gJ} (hG : gS d mc ms own cc nL G) {Z : Nat × Nat × Nat} {pc : Nat} {L : List (Option Value)} {st : List Value} {M : gM} {x y : Int64} (hd : decode cc pc = .ok (.lcmp, 1))  (k : G Z (pc + 1) L (.int (lg_cmp x y) :: st) M) : G Z pc L (.long y :: .long x :: st) M := by
  obtain ⟨p, l, e, R, s, m, args, below, meth, c, D, dA, n0, ad0, Q, ⟨hx, hb, hml, hown, hts, hK, hlk, hfr, hlo, hX⟩, hmc, hms, rfl⟩ := hG
  intro ad H locs ls he hP hD hS hl
  exact W.lcmp hx hb hd (k ad H locs ls he hP hD hS hl)
theorem r_lushr {d mc ms : Nat} {own : String} {cc : ByteArray} {nL : Nat} {G : gJ} (hG : gS d mc ms own cc nL G) {Z : Nat × Nat × Nat} {pc : Nat} {L : List (Option Value)} {st : List Value} {M : gM} {x : Int64} {y : Int32} (hd : decode cc pc = .ok (.lushr, 1))  (k : G Z (pc + 1) L (.long ((x.toUInt64 >>> (y.toInt64.toUInt64 &&& Int64.toUInt64 63)).toInt64) :: st) M) : G Z pc L (.int y :: .long x :: st) M := by
  obtain ⟨p, l, e, R, s, m, args, below, meth, c, D, dA, n0, ad0, Q, ⟨hx, hb, hml, hown, hts, hK, hlk, hfr, hlo, hX⟩, hmc, hms, rfl⟩ := hG
  intro ad H locs ls he hP hD hS hl
  exact lv_lushr hx hb hd rfl (k ad H locs ls he hP hD hS hl)
theorem r_lshl {d mc ms : Nat} {own : String} {cc : ByteArray} {nL : Nat} {G : gJ} (hG : gS d mc ms own cc nL G) {Z : Nat × Nat × Nat} {pc : Nat} {L : List (Option Value)} {st : List Value} {M : gM} {x : Int64} {y : Int32} (hd : decode cc pc = .ok (.lshl, 1))  (k : G Z (pc + 1) L (.long (x <<< (y.toInt64 &&& 63)) :: st) M) : G Z pc L (.int y :: .long x :: st) M := by
  obtain ⟨p, l, e, R, s, m, args, below, meth, c, D, dA, n0, ad0, Q, ⟨hx, hb, hml, hown, hts, hK, hlk, hfr, hlo, hX⟩, hmc, hms, rfl⟩ := hG
  intro ad H locs ls he hP hD hS hl
  exact lv_lshl hx hb hd rfl (k ad H locs ls he hP hD hS hl)
theorem r_lshr {d mc ms : Nat} {own : String} {cc : ByteArray} {nL : Nat} {G : gJ} (hG : gS d mc ms own cc nL G) {Z : Nat × Nat × Nat} {pc : Nat} {L : List (Option Value)} {st : List Value} {M : gM} {x : Int64} {y : Int32} (hd : decode cc pc = .ok (.lshr, 1))  (k : G Z (pc + 1) L (.long (x >>> (y.toInt64 &&& 63)) :: st) M) : G Z pc L (.int y :: .long x :: st) M := by
  obtain ⟨p, l, e, R, s, m, args, below, meth, c, D, dA, n0, ad0, Q, ⟨hx, hb, hml, hown, hts, hK, hlk, hfr, hlo, hX⟩, hmc, hms, rfl⟩ := hG
  intro ad H locs ls he hP hD hS hl
  exact lv_lshr hx hb hd rfl (k ad H locs ls he hP hD hS hl)
theorem r_i2l {d mc ms : Nat} {own : String} {cc : ByteArray} {nL : Nat} {G : gJ} (hG : gS d mc ms own cc nL G) {Z : Nat × Nat × Nat} {pc : Nat} {L : List (Option Value)} {st : List Value} {M : gM} {x : Int32} (hd : decode cc pc = .ok (.i2l, 1))  (k : G Z (pc + 1) L (.long x.toInt64 :: st) M) : G Z pc L (.int x :: st) M := by
  obtain ⟨p, l, e, R, s, m, args, below, meth, c, D, dA, n0, ad0, Q, ⟨hx, hb, hml, hown, hts, hK, hlk, hfr, hlo, hX⟩, hmc, hms, rfl⟩ := hG
  intro ad H locs ls he hP hD hS hl
  exact lv_i2l hx hb hd rfl (k ad H locs ls he hP hD hS hl)
theorem r_l2i {d mc ms : Nat} {own : String} {cc : ByteArray} {nL : Nat} {G : gJ} (hG : gS d mc ms own cc nL G) {Z : Nat × Nat × Nat} {pc : Nat} {L : List (Option Value)} {st : List Value} {M : gM} {x : Int64} (hd : decode cc pc = .ok (.l2i, 1))  (k : G Z (pc + 1) L (.int x.toInt32 :: st) M) : G Z pc L (.long x :: st) M := by
  obtain ⟨p, l, e, R, s, m, args, below, meth, c, D, dA, n0, ad0, Q, ⟨hx, hb, hml, hown, hts, hK, hlk, hfr, hlo, hX⟩, hmc, hms, rfl⟩ := hG
  intro ad H locs ls he hP hD hS hl
  exact lv_l2i hx hb hd rfl (k ad H locs ls he hP hD hS hl)
theorem r_i2c {d mc ms : Nat} {own : String} {cc : ByteArray} {nL : Nat} {G : gJ} (hG : gS d mc ms own cc nL G) {Z : Nat × Nat × Nat} {pc : Nat} {L : List (Option Value)} {st : List Value} {M : gM} {x : Int32} (hd : decode cc pc = .ok (.i2c, 1))  (k : G Z (pc + 1) L (.int (x.toUInt32 % 65536).toInt32 :: st) M) : G Z pc L (.int x :: st) M := by
  obtain ⟨p, l, e, R, s, m, args, below, meth, c, D, dA, n0, ad0, Q, ⟨hx, hb, hml, hown, hts, hK, hlk, hfr, hlo, hX⟩, hmc, hms, rfl⟩ := hG
  intro ad H locs ls he hP hD hS hl
  exact lv_i2c hx hb hd rfl (k ad H locs ls he hP hD hS hl)
theorem r_ineg {d mc ms : Nat} {own : String} {cc : ByteArray} {nL : Nat} {G : gJ} (hG : gS d mc ms own cc nL G) {Z : Nat × Nat × Nat} {pc : Nat} {L : List (Option Value)} {st : List Value} {M : gM} {x : Int32} (hd : decode cc pc = .ok (.ineg, 1))  (k : G Z (pc + 1) L (.int (-x) :: st) M) : G Z pc L (.int x :: st) M := by
  obtain ⟨p, l, e, R, s, m, args, below, meth, c, D, dA, n0, ad0, Q, ⟨hx, hb, hml, hown, hts, hK, hlk, hfr, hlo, hX⟩, hmc, hms, rfl⟩ := hG
  intro ad H locs ls he hP hD hS hl
  exact lv_ineg hx hb hd (k ad H locs ls he hP hD hS hl)
theorem r_dup {d mc ms : Nat} {own : String} {cc : ByteArray} {nL : Nat} {G : gJ} (hG : gS d mc ms own cc nL G) {Z : Nat × Nat × Nat} {pc : Nat} {L : List (Option Value)} {st : List Value} {M : gM} {va : Value} (hd : decode cc pc = .ok (.dup, 1)) (ha : va.category = 1) (k : G Z (pc + 1) L (va :: va :: st) M) : G Z pc L (va :: st) M := by
  obtain ⟨p, l, e, R, s, m, args, below, meth, c, D, dA, n0, ad0, Q, ⟨hx, hb, hml, hown, hts, hK, hlk, hfr, hlo, hX⟩, hmc, hms, rfl⟩ := hG
  intro ad H locs ls he hP hD hS hl
  exact lv_dup hx hb hd (by rw [gtr_cat]; exact ha) (k ad H locs ls he hP hD hS hl)
theorem r_pop {d mc ms : Nat} {own : String} {cc : ByteArray} {nL : Nat} {G : gJ} (hG : gS d mc ms own cc nL G) {Z : Nat × Nat × Nat} {pc : Nat} {L : List (Option Value)} {st : List Value} {M : gM} {va : Value} (hd : decode cc pc = .ok (.pop, 1)) (ha : va.category = 1) (k : G Z (pc + 1) L (st) M) : G Z pc L (va :: st) M := by
  obtain ⟨p, l, e, R, s, m, args, below, meth, c, D, dA, n0, ad0, Q, ⟨hx, hb, hml, hown, hts, hK, hlk, hfr, hlo, hX⟩, hmc, hms, rfl⟩ := hG
  intro ad H locs ls he hP hD hS hl
  exact lv_pop hx hb hd (by rw [gtr_cat]; exact ha) (k ad H locs ls he hP hD hS hl)
theorem r_dup_x1 {d mc ms : Nat} {own : String} {cc : ByteArray} {nL : Nat} {G : gJ} (hG : gS d mc ms own cc nL G) {Z : Nat × Nat × Nat} {pc : Nat} {L : List (Option Value)} {st : List Value} {M : gM} {va vb : Value} (hd : decode cc pc = .ok (.dup_x1, 1)) (ha : va.category = 1) (hb9 : vb.category = 1) (k : G Z (pc + 1) L (va :: vb :: va :: st) M) : G Z pc L (va :: vb :: st) M := by
  obtain ⟨p, l, e, R, s, m, args, below, meth, c, D, dA, n0, ad0, Q, ⟨hx, hb, hml, hown, hts, hK, hlk, hfr, hlo, hX⟩, hmc, hms, rfl⟩ := hG
  intro ad H locs ls he hP hD hS hl
  exact lv_dup_x1 hx hb hd (by rw [gtr_cat]; exact ha) (by rw [gtr_cat]; exact hb9) (k ad H locs ls he hP hD hS hl)
theorem r_dup2 {d mc ms : Nat} {own : String} {cc : ByteArray} {nL : Nat} {G : gJ} (hG : gS d mc ms own cc nL G) {Z : Nat × Nat × Nat} {pc : Nat} {L : List (Option Value)} {st : List Value} {M : gM} {va vb : Value} (hd : decode cc pc = .ok (.dup2, 1)) (ha : va.category = 1) (hb9 : vb.category = 1) (k : G Z (pc + 1) L (va :: vb :: va :: vb :: st) M) : G Z pc L (va :: vb :: st) M := by
  obtain ⟨p, l, e, R, s, m, args, below, meth, c, D, dA, n0, ad0, Q, ⟨hx, hb, hml, hown, hts, hK, hlk, hfr, hlo, hX⟩, hmc, hms, rfl⟩ := hG
  intro ad H locs ls he hP hD hS hl
  exact lv_dup2_11 hx hb hd (by rw [gtr_cat]; exact ha) (by rw [gtr_cat]; exact hb9) (k ad H locs ls he hP hD hS hl)
theorem r_istore_n {d mc ms : Nat} {own : String} {cc : ByteArray} {nL : Nat} {G : gJ} (hG : gS d mc ms own cc nL G) {Z : Nat × Nat × Nat} {pc : Nat} {L : List (Option Value)} {st : List Value} {M : gM} {i : Fin 4} {x : Int32} (hd : decode cc pc = .ok (.istore_n i, 1)) (hi : (i : Nat) < nL) (k : G Z (pc + 1) (gs1 L i (.int x)) st M) : G Z pc L (.int x :: st) M := by
  obtain ⟨p, l, e, R, s, m, args, below, meth, c, D, dA, n0, ad0, Q, ⟨hx, hb, hml, hown, hts, hK, hlk, hfr, hlo, hX⟩, hmc, hms, rfl⟩ := hG
  intro ad H locs ls he hP hD hS hl
  exact lv_istore_n hx hb hd rfl (gl_has hl) hi rfl (fun ls9 hl9 => k ad H locs ls9 he hP hD hS (gl_s1 (v := .int x) hl hl9))
theorem r_istore {d mc ms : Nat} {own : String} {cc : ByteArray} {nL : Nat} {G : gJ} (hG : gS d mc ms own cc nL G) {Z : Nat × Nat × Nat} {pc : Nat} {L : List (Option Value)} {st : List Value} {M : gM} {i : Nat} {x : Int32} (hd : decode cc pc = .ok (.istore i, 2)) (hi : i < nL) (k : G Z (pc + 2) (gs1 L i (.int x)) st M) : G Z pc L (.int x :: st) M := by
  obtain ⟨p, l, e, R, s, m, args, below, meth, c, D, dA, n0, ad0, Q, ⟨hx, hb, hml, hown, hts, hK, hlk, hfr, hlo, hX⟩, hmc, hms, rfl⟩ := hG
  intro ad H locs ls he hP hD hS hl
  exact lv_istore hx hb hd (gl_has hl) hi rfl (fun ls9 hl9 => k ad H locs ls9 he hP hD hS (gl_s1 (v := .int x) hl hl9))
theorem r_lstore_n {d mc ms : Nat} {own : String} {cc : ByteArray} {nL : Nat} {G : gJ} (hG : gS d mc ms own cc nL G) {Z : Nat × Nat × Nat} {pc : Nat} {L : List (Option Value)} {st : List Value} {M : gM} {i : Fin 4} {x : Int64} (hd : decode cc pc = .ok (.lstore_n i, 1)) (hi : (i : Nat) + 1 < nL) (k : G Z (pc + 1) (gs2 L i (.long x)) st M) : G Z pc L (.long x :: st) M := by
  obtain ⟨p, l, e, R, s, m, args, below, meth, c, D, dA, n0, ad0, Q, ⟨hx, hb, hml, hown, hts, hK, hlk, hfr, hlo, hX⟩, hmc, hms, rfl⟩ := hG
  intro ad H locs ls he hP hD hS hl
  exact lv_lstore_n hx hb hd rfl (gl_has hl) hi rfl (fun ls9 hl9 => k ad H locs ls9 he hP hD hS (gl_s2 (v := .long x) hl hl9))
theorem r_lstore {d mc ms : Nat} {own : String} {cc : ByteArray} {nL : Nat} {G : gJ} (hG : gS d mc ms own cc nL G) {Z : Nat × Nat × Nat} {pc : Nat} {L : List (Option Value)} {st : List Value} {M : gM} {i : Nat} {x : Int64} (hd : decode cc pc = .ok (.lstore i, 2)) (hi : i + 1 < nL) (k : G Z (pc + 2) (gs2 L i (.long x)) st M) : G Z pc L (.long x :: st) M := by
  obtain ⟨p, l, e, R, s, m, args, below, meth, c, D, dA, n0, ad0, Q, ⟨hx, hb, hml, hown, hts, hK, hlk, hfr, hlo, hX⟩, hmc, hms, rfl⟩ := hG
  intro ad H locs ls he hP hD hS hl
  exact lv_lstore hx hb hd (gl_has hl) hi rfl (fun ls9 hl9 => k ad H locs ls9 he hP hD hS (gl_s2 (v := .long x) hl hl9))
theorem r_astore_n {d mc ms : Nat} {own : String} {cc : ByteArray} {nL : Nat} {G : gJ} (hG : gS d mc ms own cc nL G) {Z : Nat × Nat × Nat} {pc : Nat} {L : List (Option Value)} {st : List Value} {M : gM} {i : Fin 4} {x : Nat} (hd : decode cc pc = .ok (.astore_n i, 1)) (hi : (i : Nat) < nL) (k : G Z (pc + 1) (gs1 L i (.ref x)) st M) : G Z pc L (.ref x :: st) M := by
  obtain ⟨p, l, e, R, s, m, args, below, meth, c, D, dA, n0, ad0, Q, ⟨hx, hb, hml, hown, hts, hK, hlk, hfr, hlo, hX⟩, hmc, hms, rfl⟩ := hG
  intro ad H locs ls he hP hD hS hl
  exact lv_astore_n hx hb hd rfl (gl_has hl) hi rfl (fun ls9 hl9 => k ad H locs ls9 he hP hD hS (gl_s1 (v := .ref x) hl hl9))
theorem r_astore {d mc ms : Nat} {own : String} {cc : ByteArray} {nL : Nat} {G : gJ} (hG : gS d mc ms own cc nL G) {Z : Nat × Nat × Nat} {pc : Nat} {L : List (Option Value)} {st : List Value} {M : gM} {i : Nat} {x : Nat} (hd : decode cc pc = .ok (.astore i, 2)) (hi : i < nL) (k : G Z (pc + 2) (gs1 L i (.ref x)) st M) : G Z pc L (.ref x :: st) M := by
  obtain ⟨p, l, e, R, s, m, args, below, meth, c, D, dA, n0, ad0, Q, ⟨hx, hb, hml, hown, hts, hK, hlk, hfr, hlo, hX⟩, hmc, hms, rfl⟩ := hG
  intro ad H locs ls he hP hD hS hl
  exact lv_astore hx hb hd (gl_has hl) hi rfl (fun ls9 hl9 => k ad H locs ls9 he hP hD hS (gl_s1 (v := .ref x) hl hl9))
theorem r_iinc {d mc ms : Nat} {own : String} {cc : ByteArray} {nL : Nat} {G : gJ} (hG : gS d mc ms own cc nL G) {Z : Nat × Nat × Nat} {pc : Nat} {L : List (Option Value)} {st : List Value} {M : gM} {i : Nat} {n : Int} {x : Int32} (v : Int32) (hd : decode cc pc = .ok (.iinc i n, 3)) (hv : Int32.ofInt n = v) (hi : L[i]? = some (some (.int x))) (k : G Z (pc + 3) (gs1 L i (.int (x + v))) st M) : G Z pc L (st) M := by
  obtain ⟨p, l, e, R, s, m, args, below, meth, c, D, dA, n0, ad0, Q, ⟨hx, hb, hml, hown, hts, hK, hlk, hfr, hlo, hX⟩, hmc, hms, rfl⟩ := hG
  intro ad H locs ls he hP hD hS hl
  obtain ⟨q, hq⟩ := List.getElem?_of_mem (glv_mem.mpr ⟨.int x, hi, rfl⟩ : (i, gtr ad (.int x)) ∈ glv ad L)
  have hin : i < nL := by
    rw [← hl.1]
    exact (List.getElem?_eq_some_iff.mp hi).1
  exact lv_iinc (k := q) (v := x + v) hx hb hd (gl_has hl) hq (by rw [hv]) hin rfl (fun ls9 hl9 => k ad H locs ls9 he hP hD hS (gl_s1 (v := .int (x + v)) hl hl9))
theorem r_if_eq {d mc ms : Nat} {own : String} {cc : ByteArray} {nL : Nat} {G : gJ} (hG : gS d mc ms own cc nL G) {Z : Nat × Nat × Nat} {pc : Nat} {L : List (Option Value)} {st : List Value} {M : gM} {x : Int32} {off : Int} (tgt : Nat) (hd : decode cc pc = .ok (.ifCond .eq off, 3)) (ht : (pc : Int) + off = (tgt : Int)) (kt : x = 0 → G Z tgt L st M) (kf : ¬ x = 0 → G Z (pc + 3) L st M) : G Z pc L (.int x :: st) M := by
  obtain ⟨p, l, e, R, s, m, args, below, meth, c, D, dA, n0, ad0, Q, ⟨hx, hb, hml, hown, hts, hK, hlk, hfr, hlo, hX⟩, hmc, hms, rfl⟩ := hG
  intro ad H locs ls he hP hD hS hl
  exact lv_if_eq hx hb hd ht (fun q => kt q ad H locs ls he hP hD hS hl) (fun q => kf q ad H locs ls he hP hD hS hl)
theorem r_icmp_eq {d mc ms : Nat} {own : String} {cc : ByteArray} {nL : Nat} {G : gJ} (hG : gS d mc ms own cc nL G) {Z : Nat × Nat × Nat} {pc : Nat} {L : List (Option Value)} {st : List Value} {M : gM} {x y : Int32} {off : Int} (tgt : Nat) (hd : decode cc pc = .ok (.if_icmp .eq off, 3)) (ht : (pc : Int) + off = (tgt : Int)) (kt : x = y → G Z tgt L st M) (kf : ¬ x = y → G Z (pc + 3) L st M) : G Z pc L (.int y :: .int x :: st) M := by
  obtain ⟨p, l, e, R, s, m, args, below, meth, c, D, dA, n0, ad0, Q, ⟨hx, hb, hml, hown, hts, hK, hlk, hfr, hlo, hX⟩, hmc, hms, rfl⟩ := hG
  intro ad H locs ls he hP hD hS hl
  exact lv_icmp_eq hx hb hd ht (fun q => kt q ad H locs ls he hP hD hS hl) (fun q => kf q ad H locs ls he hP hD hS hl)
theorem r_if_ne {d mc ms : Nat} {own : String} {cc : ByteArray} {nL : Nat} {G : gJ} (hG : gS d mc ms own cc nL G) {Z : Nat × Nat × Nat} {pc : Nat} {L : List (Option Value)} {st : List Value} {M : gM} {x : Int32} {off : Int} (tgt : Nat) (hd : decode cc pc = .ok (.ifCond .ne off, 3)) (ht : (pc : Int) + off = (tgt : Int)) (kt : ¬ x = 0 → G Z tgt L st M) (kf : x = 0 → G Z (pc + 3) L st M) : G Z pc L (.int x :: st) M := by
  obtain ⟨p, l, e, R, s, m, args, below, meth, c, D, dA, n0, ad0, Q, ⟨hx, hb, hml, hown, hts, hK, hlk, hfr, hlo, hX⟩, hmc, hms, rfl⟩ := hG
  intro ad H locs ls he hP hD hS hl
  exact lv_if_ne hx hb hd ht (fun q => kt q ad H locs ls he hP hD hS hl) (fun q => kf q ad H locs ls he hP hD hS hl)
theorem r_icmp_ne {d mc ms : Nat} {own : String} {cc : ByteArray} {nL : Nat} {G : gJ} (hG : gS d mc ms own cc nL G) {Z : Nat × Nat × Nat} {pc : Nat} {L : List (Option Value)} {st : List Value} {M : gM} {x y : Int32} {off : Int} (tgt : Nat) (hd : decode cc pc = .ok (.if_icmp .ne off, 3)) (ht : (pc : Int) + off = (tgt : Int)) (kt : ¬ x = y → G Z tgt L st M) (kf : x = y → G Z (pc + 3) L st M) : G Z pc L (.int y :: .int x :: st) M := by
  obtain ⟨p, l, e, R, s, m, args, below, meth, c, D, dA, n0, ad0, Q, ⟨hx, hb, hml, hown, hts, hK, hlk, hfr, hlo, hX⟩, hmc, hms, rfl⟩ := hG
  intro ad H locs ls he hP hD hS hl
  exact lv_icmp_ne hx hb hd ht (fun q => kt q ad H locs ls he hP hD hS hl) (fun q => kf q ad H locs ls he hP hD hS hl)
theorem r_if_lt {d mc ms : Nat} {own : String} {cc : ByteArray} {nL : Nat} {G : gJ} (hG : gS d mc ms own cc nL G) {Z : Nat × Nat × Nat} {pc : Nat} {L : List (Option Value)} {st : List Value} {M : gM} {x : Int32} {off : Int} (tgt : Nat) (hd : decode cc pc = .ok (.ifCond .lt off, 3)) (ht : (pc : Int) + off = (tgt : Int)) (kt : x < 0 → G Z tgt L st M) (kf : ¬ x < 0 → G Z (pc + 3) L st M) : G Z pc L (.int x :: st) M := by
  obtain ⟨p, l, e, R, s, m, args, below, meth, c, D, dA, n0, ad0, Q, ⟨hx, hb, hml, hown, hts, hK, hlk, hfr, hlo, hX⟩, hmc, hms, rfl⟩ := hG
  intro ad H locs ls he hP hD hS hl
  exact lv_if_lt hx hb hd ht (fun q => kt q ad H locs ls he hP hD hS hl) (fun q => kf q ad H locs ls he hP hD hS hl)
theorem r_icmp_lt {d mc ms : Nat} {own : String} {cc : ByteArray} {nL : Nat} {G : gJ} (hG : gS d mc ms own cc nL G) {Z : Nat × Nat × Nat} {pc : Nat} {L : List (Option Value)} {st : List Value} {M : gM} {x y : Int32} {off : Int} (tgt : Nat) (hd : decode cc pc = .ok (.if_icmp .lt off, 3)) (ht : (pc : Int) + off = (tgt : Int)) (kt : x < y → G Z tgt L st M) (kf : ¬ x < y → G Z (pc + 3) L st M) : G Z pc L (.int y :: .int x :: st) M := by
  obtain ⟨p, l, e, R, s, m, args, below, meth, c, D, dA, n0, ad0, Q, ⟨hx, hb, hml, hown, hts, hK, hlk, hfr, hlo, hX⟩, hmc, hms, rfl⟩ := hG
  intro ad H locs ls he hP hD hS hl
  exact lv_icmp_lt hx hb hd ht (fun q => kt q ad H locs ls he hP hD hS hl) (fun q => kf q ad H locs ls he hP hD hS hl)
theorem r_if_ge {d mc ms : Nat} {own : String} {cc : ByteArray} {nL : Nat} {G : gJ} (hG : gS d mc ms own cc nL G) {Z : Nat × Nat × Nat} {pc : Nat} {L : List (Option Value)} {st : List Value} {M : gM} {x : Int32} {off : Int} (tgt : Nat) (hd : decode cc pc = .ok (.ifCond .ge off, 3)) (ht : (pc : Int) + off = (tgt : Int)) (kt : 0 ≤ x → G Z tgt L st M) (kf : ¬ 0 ≤ x → G Z (pc + 3) L st M) : G Z pc L (.int x :: st) M := by
  obtain ⟨p, l, e, R, s, m, args, below, meth, c, D, dA, n0, ad0, Q, ⟨hx, hb, hml, hown, hts, hK, hlk, hfr, hlo, hX⟩, hmc, hms, rfl⟩ := hG
  intro ad H locs ls he hP hD hS hl
  exact lv_if_ge hx hb hd ht (fun q => kt q ad H locs ls he hP hD hS hl) (fun q => kf q ad H locs ls he hP hD hS hl)
theorem r_icmp_ge {d mc ms : Nat} {own : String} {cc : ByteArray} {nL : Nat} {G : gJ} (hG : gS d mc ms own cc nL G) {Z : Nat × Nat × Nat} {pc : Nat} {L : List (Option Value)} {st : List Value} {M : gM} {x y : Int32} {off : Int} (tgt : Nat) (hd : decode cc pc = .ok (.if_icmp .ge off, 3)) (ht : (pc : Int) + off = (tgt : Int)) (kt : y ≤ x → G Z tgt L st M) (kf : ¬ y ≤ x → G Z (pc + 3) L st M) : G Z pc L (.int y :: .int x :: st) M := by
  obtain ⟨p, l, e, R, s, m, args, below, meth, c, D, dA, n0, ad0, Q, ⟨hx, hb, hml, hown, hts, hK, hlk, hfr, hlo, hX⟩, hmc, hms, rfl⟩ := hG
  intro ad H locs ls he hP hD hS hl
  exact lv_icmp_ge hx hb hd ht (fun q => kt q ad H locs ls he hP hD hS hl) (fun q => kf q ad H locs ls he hP hD hS hl)
theorem r_if_gt {d mc ms : Nat} {own : String} {cc : ByteArray} {nL : Nat} {G : gJ} (hG : gS d mc ms own cc nL G) {Z : Nat × Nat × Nat} {pc : Nat} {L : List (Option Value)} {st : List Value} {M : gM} {x : Int32} {off : Int} (tgt : Nat) (hd : decode cc pc = .ok (.ifCond .gt off, 3)) (ht : (pc : Int) + off = (tgt : Int)) (kt : 0 < x → G Z tgt L st M) (kf : ¬ 0 < x → G Z (pc + 3) L st M) : G Z pc L (.int x :: st) M := by
  obtain ⟨p, l, e, R, s, m, args, below, meth, c, D, dA, n0, ad0, Q, ⟨hx, hb, hml, hown, hts, hK, hlk, hfr, hlo, hX⟩, hmc, hms, rfl⟩ := hG
  intro ad H locs ls he hP hD hS hl
  exact lv_if_gt hx hb hd ht (fun q => kt q ad H locs ls he hP hD hS hl) (fun q => kf q ad H locs ls he hP hD hS hl)
theorem r_icmp_gt {d mc ms : Nat} {own : String} {cc : ByteArray} {nL : Nat} {G : gJ} (hG : gS d mc ms own cc nL G) {Z : Nat × Nat × Nat} {pc : Nat} {L : List (Option Value)} {st : List Value} {M : gM} {x y : Int32} {off : Int} (tgt : Nat) (hd : decode cc pc = .ok (.if_icmp .gt off, 3)) (ht : (pc : Int) + off = (tgt : Int)) (kt : y < x → G Z tgt L st M) (kf : ¬ y < x → G Z (pc + 3) L st M) : G Z pc L (.int y :: .int x :: st) M := by
  obtain ⟨p, l, e, R, s, m, args, below, meth, c, D, dA, n0, ad0, Q, ⟨hx, hb, hml, hown, hts, hK, hlk, hfr, hlo, hX⟩, hmc, hms, rfl⟩ := hG
  intro ad H locs ls he hP hD hS hl
  exact lv_icmp_gt hx hb hd ht (fun q => kt q ad H locs ls he hP hD hS hl) (fun q => kf q ad H locs ls he hP hD hS hl)
theorem r_if_le {d mc ms : Nat} {own : String} {cc : ByteArray} {nL : Nat} {G : gJ} (hG : gS d mc ms own cc nL G) {Z : Nat × Nat × Nat} {pc : Nat} {L : List (Option Value)} {st : List Value} {M : gM} {x : Int32} {off : Int} (tgt : Nat) (hd : decode cc pc = .ok (.ifCond .le off, 3)) (ht : (pc : Int) + off = (tgt : Int)) (kt : x ≤ 0 → G Z tgt L st M) (kf : ¬ x ≤ 0 → G Z (pc + 3) L st M) : G Z pc L (.int x :: st) M := by
  obtain ⟨p, l, e, R, s, m, args, below, meth, c, D, dA, n0, ad0, Q, ⟨hx, hb, hml, hown, hts, hK, hlk, hfr, hlo, hX⟩, hmc, hms, rfl⟩ := hG
  intro ad H locs ls he hP hD hS hl
  exact lv_if_le hx hb hd ht (fun q => kt q ad H locs ls he hP hD hS hl) (fun q => kf q ad H locs ls he hP hD hS hl)
theorem r_icmp_le {d mc ms : Nat} {own : String} {cc : ByteArray} {nL : Nat} {G : gJ} (hG : gS d mc ms own cc nL G) {Z : Nat × Nat × Nat} {pc : Nat} {L : List (Option Value)} {st : List Value} {M : gM} {x y : Int32} {off : Int} (tgt : Nat) (hd : decode cc pc = .ok (.if_icmp .le off, 3)) (ht : (pc : Int) + off = (tgt : Int)) (kt : x ≤ y → G Z tgt L st M) (kf : ¬ x ≤ y → G Z (pc + 3) L st M) : G Z pc L (.int y :: .int x :: st) M := by
  obtain ⟨p, l, e, R, s, m, args, below, meth, c, D, dA, n0, ad0, Q, ⟨hx, hb, hml, hown, hts, hK, hlk, hfr, hlo, hX⟩, hmc, hms, rfl⟩ := hG
  intro ad H locs ls he hP hD hS hl
  exact lv_icmp_le hx hb hd ht (fun q => kt q ad H locs ls he hP hD hS hl) (fun q => kf q ad H locs ls he hP hD hS hl)
theorem r_goto {d mc ms : Nat} {own : String} {cc : ByteArray} {nL : Nat} {G : gJ} (hG : gS d mc ms own cc nL G) {Z : Nat × Nat × Nat} {pc : Nat} {L : List (Option Value)} {st : List Value} {M : gM} {off : Int} (tgt : Nat) (hd : decode cc pc = .ok (.goto off, 3)) (ht : (pc : Int) + off = (tgt : Int)) (k : G Z tgt L st M) : G Z pc L st M := by
  obtain ⟨p, l, e, R, s, m, args, below, meth, c, D, dA, n0, ad0, Q, ⟨hx, hb, hml, hown, hts, hK, hlk, hfr, hlo, hX⟩, hmc, hms, rfl⟩ := hG
  intro ad H locs ls he hP hD hS hl
  exact lv_goto hx hb hd ht (k ad H locs ls he hP hD hS hl)
theorem r_tableOut {d mc ms : Nat} {own : String} {cc : ByteArray} {nL : Nat} {G : gJ} (hG : gS d mc ms own cc nL G) {Z : Nat × Nat × Nat} {pc : Nat} {L : List (Option Value)} {st : List Value} {M : gM} {x : Int32} {df lo hi : Int} {offs : Array Int} {len : Nat} (tgt : Nat) (hd : decode cc pc = .ok (.tableswitch df lo hi offs, len)) (h : x.toInt < lo ∨ hi < x.toInt) (ht : (pc : Int) + df = (tgt : Int)) (k : G Z tgt L st M) : G Z pc L (.int x :: st) M := by
  obtain ⟨p, l, e, R, s, m, args, below, meth, c, D, dA, n0, ad0, Q, ⟨hx, hb, hml, hown, hts, hK, hlk, hfr, hlo, hX⟩, hmc, hms, rfl⟩ := hG
  intro ad H locs ls he hP hD hS hl
  exact lv_tableOut hx hb hd h ht (k ad H locs ls he hP hD hS hl)
theorem r_tableIn {d mc ms : Nat} {own : String} {cc : ByteArray} {nL : Nat} {G : gJ} (hG : gS d mc ms own cc nL G) {Z : Nat × Nat × Nat} {pc : Nat} {L : List (Option Value)} {st : List Value} {M : gM} {x : Int32} {df lo hi off : Int} {offs : Array Int} {len : Nat} (tgt : Nat) (hd : decode cc pc = .ok (.tableswitch df lo hi offs, len)) (h1 : ¬ x.toInt < lo) (h2 : ¬ hi < x.toInt) (ho : offs[(x.toInt - lo).toNat]? = some off) (ht : (pc : Int) + off = (tgt : Int)) (k : G Z tgt L st M) : G Z pc L (.int x :: st) M := by
  obtain ⟨p, l, e, R, s, m, args, below, meth, c, D, dA, n0, ad0, Q, ⟨hx, hb, hml, hown, hts, hK, hlk, hfr, hlo, hX⟩, hmc, hms, rfl⟩ := hG
  intro ad H locs ls he hP hD hS hl
  exact lv_tableIn hx hb hd h1 h2 ho ht (k ad H locs ls he hP hD hS hl)
theorem r_lookup {d mc ms : Nat} {own : String} {cc : ByteArray} {nL : Nat} {G : gJ} (hG : gS d mc ms own cc nL G) {Z : Nat × Nat × Nat} {pc : Nat} {L : List (Option Value)} {st : List Value} {M : gM} {x : Int32} {df off : Int} {ps : Array (Int × Int)} {len : Nat} (tgt : Nat) (hd : decode cc pc = .ok (.lookupswitch df ps, len)) (hp : (ps.toList.zip (ps.toList.drop 1)).all (fun (a, next) => a.1 < next.1) = true) (ho : Op.lookupswitch.offset ps.toList df x.toInt = off) (ht : (pc : Int) + off = (tgt : Int)) (k : G Z tgt L st M) : G Z pc L (.int x :: st) M := by
  obtain ⟨p, l, e, R, s, m, args, below, meth, c, D, dA, n0, ad0, Q, ⟨hx, hb, hml, hown, hts, hK, hlk, hfr, hlo, hX⟩, hmc, hms, rfl⟩ := hG
  intro ad H locs ls he hP hD hS hl
  exact lv_lookup hx hb hd hp ho ht (k ad H locs ls he hP hD hS hl)
theorem r_ldc {d mc ms : Nat} {own : String} {cc : ByteArray} {nL : Nat} {G : gJ} (hG : gS d mc ms own cc nL G) {Z : Nat × Nat × Nat} {pc : Nat} {L : List (Option Value)} {st : List Value} {M : gM} {index : Nat} (v : Int32) (hd : decode cc pc = .ok (.ldc index, 2)) (hc : Cond.constant own index v ∈ gT) (k : G Z (pc + 2) L (.int v :: st) M) : G Z pc L (st) M := by
  obtain ⟨p, l, e, R, s, m, args, below, meth, c, D, dA, n0, ad0, Q, ⟨hx, hb, hml, hown, hts, hK, hlk, hfr, hlo, hX⟩, hmc, hms, rfl⟩ := hG
  intro ad H locs ls he hP hD hS hl
  exact lv_ldc hx hb hown (hts _ hc) hd (k ad H locs ls he hP hD hS hl)
theorem r_ldc2 {d mc ms : Nat} {own : String} {cc : ByteArray} {nL : Nat} {G : gJ} (hG : gS d mc ms own cc nL G) {Z : Nat × Nat × Nat} {pc : Nat} {L : List (Option Value)} {st : List Value} {M : gM} {index : Nat} (v : Int64) (hd : decode cc pc = .ok (.ldc2_w index, 3)) (hc : Cond.constantLong own index v ∈ gT) (k : G Z (pc + 3) L (.long v :: st) M) : G Z pc L (st) M := by
  obtain ⟨p, l, e, R, s, m, args, below, meth, c, D, dA, n0, ad0, Q, ⟨hx, hb, hml, hown, hts, hK, hlk, hfr, hlo, hX⟩, hmc, hms, rfl⟩ := hG
  intro ad H locs ls he hP hD hS hl
  exact lv_ldc2 hx hb hown (hts _ hc) hd (k ad H locs ls he hP hD hS hl)
end
section
/-- a field by its link: class ci, slot j -/
def gFk (own : String) (index ci j : Nat) : Prop := ∃ (C : String) (T : u_T), vwCl[ci]? = some (C, T, gfn ci) ∧ j < gfn ci ∧ (∀ w ∈ u_ws C T (gfn ci), w ∈ gT) ∧ Cond.fieldLink own index (T j).1 (T j).2.1 (T j).2.2.1 ∈ gT
def gFp (own : String) (index ci j : Nat) (ty : FieldType) : Prop := ∃ (C : String) (T : u_T) (ty0 : Nat → FieldType), vwCl[ci]? = some (C, T, gfn ci) ∧ j < gfn ci ∧ (∀ w ∈ u_ws C T (gfn ci), w ∈ gT) ∧ Cond.fieldLink own index (T j).1 (T j).2.1 (T j).2.2.1 ∈ gT ∧ (∀ k, k < gfn ci → parseFieldDescriptor (T k).2.2.1 = some (ty0 k)) ∧ (∀ a, a < gfn ci → ∀ b, b < gfn ci → a ≠ b → (T a).2.1 ≠ (T b).2.1) ∧ (T j).2.2.2 = false ∧ parseFieldDescriptor (T j).2.2.1 = some ty
theorem r_getI {d mc ms : Nat} {own : String} {cc : ByteArray} {nL : Nat} {G : gJ} (hG : gS d mc ms own cc nL G) {Z : Nat × Nat × Nat} {pc : Nat} {L : List (Option Value)} {st : List Value} {M : gM} {k ci index z : Nat} (j : Nat) (hf : gFk own index ci j) (hd : decode cc pc = .ok (.getfield index, 3)) (hkd : gK k = (0, ci, z)) (hk : k < Z.1) (hc : gfc ci j = false) (kk : G Z (pc + 3) L (.int (M.1 k j) :: st) M) : G Z pc L (.ref k :: st) M := by
  obtain ⟨p, l, e, R, s, m, args, below, meth, c, D, dA, n0, ad0, Q, ⟨hx, hb, hml, hown, hts, hK, hlk, hfr, hlo, hX⟩, hmc, hms, rfl⟩ := hG
  intro ad H locs ls he hP hD hS hl
  obtain ⟨C, T, h1, h2, h3, h4⟩ := hf
  refine va_get (D := D) (ref := (T j).1) (v := .int (M.1 k j)) hx hb hts h3 hown hK hP k (by rw [gw_at hk, ge_obj hkd]) h1 j h2 (hts _ h4) (fun _ h9 => h9) ?_ hd (kk ad H locs ls he hP hD hS hl)
  rw [gfs_at h2, hc]
  rfl
theorem r_getR {d mc ms : Nat} {own : String} {cc : ByteArray} {nL : Nat} {G : gJ} (hG : gS d mc ms own cc nL G) {Z : Nat × Nat × Nat} {pc : Nat} {L : List (Option Value)} {st : List Value} {M : gM} {k ci index z : Nat} (j k2 : Nat) (hf : gFk own index ci j) (hd : decode cc pc = .ok (.getfield index, 3)) (hkd : gK k = (0, ci, z)) (hk : k < Z.1) (hc : gfc ci j = true) (hr : M.2.2 k j = some k2) (kk : G Z (pc + 3) L (.ref k2 :: st) M) : G Z pc L (.ref k :: st) M := by
  obtain ⟨p, l, e, R, s, m, args, below, meth, c, D, dA, n0, ad0, Q, ⟨hx, hb, hml, hown, hts, hK, hlk, hfr, hlo, hX⟩, hmc, hms, rfl⟩ := hG
  intro ad H locs ls he hP hD hS hl
  obtain ⟨C, T, h1, h2, h3, h4⟩ := hf
  refine va_get (D := D) (ref := (T j).1) (v := .ref (ad k2)) hx hb hts h3 hown hK hP k (by rw [gw_at hk, ge_obj hkd]) h1 j h2 (hts _ h4) (fun _ h9 => h9) ?_ hd (kk ad H locs ls he hP hD hS hl)
  rw [gfs_at h2, hc]
  show some (va_rf ((M.2.2 k j).map ad)) = _
  rw [hr]
  rfl
theorem gv_I {ad : Nat → Nat} {M : gM} {k j i : Nat} {v : Int32} {r : Bool} (h : i ≠ j ∨ r = true) : gv ad (gwI M k j v) k i r = gv ad M k i r := by
  cases r with
  | true => rfl
  | false =>
    have h2 : i ≠ j := by simpa using h
    simp [gv, gwI, h2]
theorem gv_R {ad : Nat → Nat} {M : gM} {k j i : Nat} {v : Option Nat} {r : Bool} (h : i ≠ j ∨ r = false) : gv ad (gwR M k j v) k i r = gv ad M k i r := by
  cases r with
  | false => rfl
  | true =>
    have h2 : i ≠ j := by simpa using h
    simp [gv, gwR, h2]
theorem r_putI {d mc ms : Nat} {own : String} {cc : ByteArray} {nL : Nat} {G : gJ} (hG : gS d mc ms own cc nL G) {Z : Nat × Nat × Nat} {pc : Nat} {L : List (Option Value)} {st : List Value} {M : gM} {k ci index z : Nat} {v : Int32} {ty : FieldType} (j : Nat) (hf : gFp own index ci j ty) (hd : decode cc pc = .ok (.putfield index, 3)) (hkd : gK k = (0, ci, z)) (hk : k < Z.1) (hc : gfc ci j = false) (hn : narrow ty (.int v) = .int v) (hfit : fits ty (.int v) = true) (kk : G Z (pc + 3) L st (gwI M k j v)) : G Z pc L (.int v :: .ref k :: st) M := by
  obtain ⟨p, l, e, R, s, m, args, below, meth, c, D, dA, n0, ad0, Q, ⟨hx, hb, hml, hown, hts, hK, hlk, hfr, hlo, hX⟩, hmc, hms, rfl⟩ := hG
  intro ad H locs ls he hP hD hS hl
  obtain ⟨C, T, ty0, h1, h2, h3, h4, h5, h6, h7, h8⟩ := hf
  refine va_put (D := D) (ref := (T j).1) (v := .int v) (ty := ty) hx hb hts h3 ty0 h5 h6 hown hK hP hD hS k (by rw [gw_at hk, ge_obj hkd]) h1 j h2 (hts _ h4) (fun _ h9 => h9) h7 h8 hn hfit (by rw [gfs_len]; exact h2) hd (fun H1 locs1 hP1 hD1 hS1 => ?_)
  have e : (gw dA ad Z.1 M).set k (ad k, .inr (ci, (gfs ad M k ci).set j (.int v))) = gw dA ad Z.1 (gwI M k j v) := by
    refine gw_set hk ?_ (fun q hq => ge_row (gwI_row hq) rfl rfl)
    rw [ge_obj hkd, gfs_set (M' := gwI M k j v) h2 (by rw [hc]; simp [gv, gwI]) (fun i hi => gv_I (Or.inl hi))]
  rw [e] at hP1 hD1
  exact kk ad H1 locs1 ls he hP1 hD1 hS1 hl
theorem r_putR {d mc ms : Nat} {own : String} {cc : ByteArray} {nL : Nat} {G : gJ} (hG : gS d mc ms own cc nL G) {Z : Nat × Nat × Nat} {pc : Nat} {L : List (Option Value)} {st : List Value} {M : gM} {k ci index z k2 : Nat} {ty : FieldType} (j : Nat) (hf : gFp own index ci j ty) (hd : decode cc pc = .ok (.putfield index, 3)) (hkd : gK k = (0, ci, z)) (hk : k < Z.1) (hc : gfc ci j = true) (hn : ∀ a, narrow ty (.ref a) = .ref a) (hfit : ∀ a, fits ty (.ref a) = true) (kk : G Z (pc + 3) L st (gwR M k j (some k2))) : G Z pc L (.ref k2 :: .ref k :: st) M := by
  obtain ⟨p, l, e, R, s, m, args, below, meth, c, D, dA, n0, ad0, Q, ⟨hx, hb, hml, hown, hts, hK, hlk, hfr, hlo, hX⟩, hmc, hms, rfl⟩ := hG
  intro ad H locs ls he hP hD hS hl
  obtain ⟨C, T, ty0, h1, h2, h3, h4, h5, h6, h7, h8⟩ := hf
  refine va_put (D := D) (ref := (T j).1) (v := .ref (ad k2)) (ty := ty) hx hb hts h3 ty0 h5 h6 hown hK hP hD hS k (by rw [gw_at hk, ge_obj hkd]) h1 j h2 (hts _ h4) (fun _ h9 => h9) h7 h8 (hn _) (hfit _) (by rw [gfs_len]; exact h2) hd (fun H1 locs1 hP1 hD1 hS1 => ?_)
  have e : (gw dA ad Z.1 M).set k (ad k, .inr (ci, (gfs ad M k ci).set j (.ref (ad k2)))) = gw dA ad Z.1 (gwR M k j (some k2)) := by
    refine gw_set hk ?_ (fun q hq => ge_row rfl rfl (gwR_row hq))
    rw [ge_obj hkd, gfs_set (M' := gwR M k j (some k2)) h2 (by rw [hc]; simp [gv, gwR, va_rf]) (fun i hi => gv_R (Or.inl hi))]
  rw [e] at hP1 hD1
  exact kk ad H1 locs1 ls he hP1 hD1 hS1 hl
theorem gin {i : Int32} {q n : Nat} (hi : i = nI q) (hq : q < n) (hn : n < 2147483648) : vp_in i n ∧ i.toNatClampNeg = q := by
  subst hi
  exact ⟨vp_in_nI hq hn, nI_clamp (by omega)⟩
theorem r_iald {d mc ms : Nat} {own : String} {cc : ByteArray} {nL : Nat} {G : gJ} (hG : gS d mc ms own cc nL G) {Z : Nat × Nat × Nat} {pc : Nat} {L : List (Option Value)} {st : List Value} {M : gM} {k n : Nat} {i : Int32} (q : Nat) (hd : decode cc pc = .ok (.iaload, 1)) (hkd : gK k = (1, 0, n)) (hk : k < Z.1) (hi : i = nI q) (hq : q < n) (hn : n < 2147483648) (kk : G Z (pc + 1) L (.int (M.1 k q) :: st) M) : G Z pc L (.int i :: .ref k :: st) M := by
  obtain ⟨p, l, e, R, s, m, args, below, meth, c, D, dA, n0, ad0, Q, ⟨hx, hb, hml, hown, hts, hK, hlk, hfr, hlo, hX⟩, hmc, hms, rfl⟩ := hG
  intro ad H locs ls he hP hD hS hl
  obtain ⟨h1, h2⟩ := gin hi hq hn
  refine va_iald (D := D) (n := n) (f := M.1 k) hx hb hK hP k 0 (by rw [gw_at hk, ge_int hkd]) rfl h1 hd ?_
  rw [h2]
  exact kk ad H locs ls he hP hD hS hl
theorem r_cald {d mc ms : Nat} {own : String} {cc : ByteArray} {nL : Nat} {G : gJ} (hG : gS d mc ms own cc nL G) {Z : Nat × Nat × Nat} {pc : Nat} {L : List (Option Value)} {st : List Value} {M : gM} {k n : Nat} {i : Int32} (q : Nat) (hd : decode cc pc = .ok (.caload, 1)) (hkd : gK k = (1, 2, n)) (hk : k < Z.1) (hi : i = nI q) (hq : q < n) (hn : n < 2147483648) (kk : G Z (pc + 1) L (.int (M.1 k q) :: st) M) : G Z pc L (.int i :: .ref k :: st) M := by
  obtain ⟨p, l, e, R, s, m, args, below, meth, c, D, dA, n0, ad0, Q, ⟨hx, hb, hml, hown, hts, hK, hlk, hfr, hlo, hX⟩, hmc, hms, rfl⟩ := hG
  intro ad H locs ls he hP hD hS hl
  obtain ⟨h1, h2⟩ := gin hi hq hn
  refine va_cald (D := D) (n := n) (f := M.1 k) hx hb hK hP k 2 (by rw [gw_at hk, ge_int hkd]) rfl h1 hd ?_
  rw [h2]
  exact kk ad H locs ls he hP hD hS hl
theorem r_zald {d mc ms : Nat} {own : String} {cc : ByteArray} {nL : Nat} {G : gJ} (hG : gS d mc ms own cc nL G) {Z : Nat × Nat × Nat} {pc : Nat} {L : List (Option Value)} {st : List Value} {M : gM} {k n : Nat} {i : Int32} (q : Nat) (hd : decode cc pc = .ok (.baload, 1)) (hkd : gK k = (1, 3, n)) (hk : k < Z.1) (hi : i = nI q) (hq : q < n) (hn : n < 2147483648) (kk : G Z (pc + 1) L (.int (M.1 k q) :: st) M) : G Z pc L (.int i :: .ref k :: st) M := by
  obtain ⟨p, l, e, R, s, m, args, below, meth, c, D, dA, n0, ad0, Q, ⟨hx, hb, hml, hown, hts, hK, hlk, hfr, hlo, hX⟩, hmc, hms, rfl⟩ := hG
  intro ad H locs ls he hP hD hS hl
  obtain ⟨h1, h2⟩ := gin hi hq hn
  refine va_zald (D := D) (n := n) (f := M.1 k) hx hb hK hP k 3 (by rw [gw_at hk, ge_int hkd]) rfl h1 hd ?_
  rw [h2]
  exact kk ad H locs ls he hP hD hS hl
theorem r_lald {d mc ms : Nat} {own : String} {cc : ByteArray} {nL : Nat} {G : gJ} (hG : gS d mc ms own cc nL G) {Z : Nat × Nat × Nat} {pc : Nat} {L : List (Option Value)} {st : List Value} {M : gM} {k n : Nat} {i : Int32} (q : Nat) (hd : decode cc pc = .ok (.laload, 1)) (hkd : gK k = (2, 1, n)) (hk : k < Z.1) (hi : i = nI q) (hq : q < n) (hn : n < 2147483648) (kk : G Z (pc + 1) L (.long (M.2.1 k q) :: st) M) : G Z pc L (.int i :: .ref k :: st) M := by
  obtain ⟨p, l, e, R, s, m, args, below, meth, c, D, dA, n0, ad0, Q, ⟨hx, hb, hml, hown, hts, hK, hlk, hfr, hlo, hX⟩, hmc, hms, rfl⟩ := hG
  intro ad H locs ls he hP hD hS hl
  obtain ⟨h1, h2⟩ := gin hi hq hn
  refine va_lald (D := D) (n := n) (f := M.2.1 k) hx hb hK hP k 1 (by rw [gw_at hk, ge_long hkd]) rfl h1 hd ?_
  rw [h2]
  exact kk ad H locs ls he hP hD hS hl
theorem r_aald4 {d mc ms : Nat} {own : String} {cc : ByteArray} {nL : Nat} {G : gJ} (hG : gS d mc ms own cc nL G) {Z : Nat × Nat × Nat} {pc : Nat} {L : List (Option Value)} {st : List Value} {M : gM} {k n : Nat} {i : Int32} (q k2 : Nat) (hd : decode cc pc = .ok (.aaload, 1)) (hkd : gK k = (3, 4, n)) (hk : k < Z.1) (hi : i = nI q) (hq : q < n) (hn : n < 2147483648) (hr : M.2.2 k q = some k2) (kk : G Z (pc + 1) L (.ref k2 :: st) M) : G Z pc L (.int i :: .ref k :: st) M := by
  obtain ⟨p, l, e, R, s, m, args, below, meth, c, D, dA, n0, ad0, Q, ⟨hx, hb, hml, hown, hts, hK, hlk, hfr, hlo, hX⟩, hmc, hms, rfl⟩ := hG
  intro ad H locs ls he hP hD hS hl
  obtain ⟨h1, h2⟩ := gin hi hq hn
  have hat : (gw dA ad Z.1 M)[k]? = some (ad k, .inl (dA 4, n, .inr (.inr (.inr (.inr (fun j => (M.2.2 k j).map ad)))))) := by rw [gw_at hk, ge_ref hkd]
  have hlt : i.toNatClampNeg < n := by rw [h2]; exact hq
  refine W.aald (v := .ref (ad k2)) (ty := .object "WaterCarts$Village") hx hb (hP k _ hat) ((hK.2 4 _ rfl).1 n (fun j => va_rf ((M.2.2 k j).map ad))) rfl (fun q => by cases q) (by show ¬ (i < 0 ∨ (arrV _ _ _).slots.size ≤ _); rw [arrV_size]; exact h1) (by show (arrV _ _ _).slots[_]? = _; rw [arrV_read _ _ hlt, h2]; show some (va_rf ((M.2.2 k q).map ad)) = _; rw [hr]; rfl) rfl rfl hd (kk ad H locs ls he hP hD hS hl)
theorem r_aald5 {d mc ms : Nat} {own : String} {cc : ByteArray} {nL : Nat} {G : gJ} (hG : gS d mc ms own cc nL G) {Z : Nat × Nat × Nat} {pc : Nat} {L : List (Option Value)} {st : List Value} {M : gM} {k n : Nat} {i : Int32} (q k2 : Nat) (hd : decode cc pc = .ok (.aaload, 1)) (hkd : gK k = (3, 5, n)) (hk : k < Z.1) (hi : i = nI q) (hq : q < n) (hn : n < 2147483648) (hr : M.2.2 k q = some k2) (kk : G Z (pc + 1) L (.ref k2 :: st) M) : G Z pc L (.int i :: .ref k :: st) M := by
  obtain ⟨p, l, e, R, s, m, args, below, meth, c, D, dA, n0, ad0, Q, ⟨hx, hb, hml, hown, hts, hK, hlk, hfr, hlo, hX⟩, hmc, hms, rfl⟩ := hG
  intro ad H locs ls he hP hD hS hl
  obtain ⟨h1, h2⟩ := gin hi hq hn
  have hat : (gw dA ad Z.1 M)[k]? = some (ad k, .inl (dA 5, n, .inr (.inr (.inr (.inr (fun j => (M.2.2 k j).map ad)))))) := by rw [gw_at hk, ge_ref hkd]
  have hlt : i.toNatClampNeg < n := by rw [h2]; exact hq
  refine W.aald (v := .ref (ad k2)) (ty := .object "WaterCarts$Spring") hx hb (hP k _ hat) ((hK.2 5 _ rfl).1 n (fun j => va_rf ((M.2.2 k j).map ad))) rfl (fun q => by cases q) (by show ¬ (i < 0 ∨ (arrV _ _ _).slots.size ≤ _); rw [arrV_size]; exact h1) (by show (arrV _ _ _).slots[_]? = _; rw [arrV_read _ _ hlt, h2]; show some (va_rf ((M.2.2 k q).map ad)) = _; rw [hr]; rfl) rfl rfl hd (kk ad H locs ls he hP hD hS hl)
theorem r_aald6 {d mc ms : Nat} {own : String} {cc : ByteArray} {nL : Nat} {G : gJ} (hG : gS d mc ms own cc nL G) {Z : Nat × Nat × Nat} {pc : Nat} {L : List (Option Value)} {st : List Value} {M : gM} {k n : Nat} {i : Int32} (q k2 : Nat) (hd : decode cc pc = .ok (.aaload, 1)) (hkd : gK k = (3, 6, n)) (hk : k < Z.1) (hi : i = nI q) (hq : q < n) (hn : n < 2147483648) (hr : M.2.2 k q = some k2) (kk : G Z (pc + 1) L (.ref k2 :: st) M) : G Z pc L (.int i :: .ref k :: st) M := by
  obtain ⟨p, l, e, R, s, m, args, below, meth, c, D, dA, n0, ad0, Q, ⟨hx, hb, hml, hown, hts, hK, hlk, hfr, hlo, hX⟩, hmc, hms, rfl⟩ := hG
  intro ad H locs ls he hP hD hS hl
  obtain ⟨h1, h2⟩ := gin hi hq hn
  have hat : (gw dA ad Z.1 M)[k]? = some (ad k, .inl (dA 6, n, .inr (.inr (.inr (.inr (fun j => (M.2.2 k j).map ad)))))) := by rw [gw_at hk, ge_ref hkd]
  have hlt : i.toNatClampNeg < n := by rw [h2]; exact hq
  refine W.aald (v := .ref (ad k2)) (ty := .object "WaterCarts$Tanker") hx hb (hP k _ hat) ((hK.2 6 _ rfl).1 n (fun j => va_rf ((M.2.2 k j).map ad))) rfl (fun q => by cases q) (by show ¬ (i < 0 ∨ (arrV _ _ _).slots.size ≤ _); rw [arrV_size]; exact h1) (by show (arrV _ _ _).slots[_]? = _; rw [arrV_read _ _ hlt, h2]; show some (va_rf ((M.2.2 k q).map ad)) = _; rw [hr]; rfl) rfl rfl hd (kk ad H locs ls he hP hD hS hl)
theorem r_aald7 {d mc ms : Nat} {own : String} {cc : ByteArray} {nL : Nat} {G : gJ} (hG : gS d mc ms own cc nL G) {Z : Nat × Nat × Nat} {pc : Nat} {L : List (Option Value)} {st : List Value} {M : gM} {k n : Nat} {i : Int32} (q k2 : Nat) (hd : decode cc pc = .ok (.aaload, 1)) (hkd : gK k = (3, 7, n)) (hk : k < Z.1) (hi : i = nI q) (hq : q < n) (hn : n < 2147483648) (hr : M.2.2 k q = some k2) (kk : G Z (pc + 1) L (.ref k2 :: st) M) : G Z pc L (.int i :: .ref k :: st) M := by
  obtain ⟨p, l, e, R, s, m, args, below, meth, c, D, dA, n0, ad0, Q, ⟨hx, hb, hml, hown, hts, hK, hlk, hfr, hlo, hX⟩, hmc, hms, rfl⟩ := hG
  intro ad H locs ls he hP hD hS hl
  obtain ⟨h1, h2⟩ := gin hi hq hn
  have hat : (gw dA ad Z.1 M)[k]? = some (ad k, .inl (dA 7, n, .inr (.inr (.inr (.inr (fun j => (M.2.2 k j).map ad)))))) := by rw [gw_at hk, ge_ref hkd]
  have hlt : i.toNatClampNeg < n := by rw [h2]; exact hq
  refine W.aald (v := .ref (ad k2)) (ty := .object "WaterCarts$Bore") hx hb (hP k _ hat) ((hK.2 7 _ rfl).1 n (fun j => va_rf ((M.2.2 k j).map ad))) rfl (fun q => by cases q) (by show ¬ (i < 0 ∨ (arrV _ _ _).slots.size ≤ _); rw [arrV_size]; exact h1) (by show (arrV _ _ _).slots[_]? = _; rw [arrV_read _ _ hlt, h2]; show some (va_rf ((M.2.2 k q).map ad)) = _; rw [hr]; rfl) rfl rfl hd (kk ad H locs ls he hP hD hS hl)
theorem r_aald8 {d mc ms : Nat} {own : String} {cc : ByteArray} {nL : Nat} {G : gJ} (hG : gS d mc ms own cc nL G) {Z : Nat × Nat × Nat} {pc : Nat} {L : List (Option Value)} {st : List Value} {M : gM} {k n : Nat} {i : Int32} (q k2 : Nat) (hd : decode cc pc = .ok (.aaload, 1)) (hkd : gK k = (3, 8, n)) (hk : k < Z.1) (hi : i = nI q) (hq : q < n) (hn : n < 2147483648) (hr : M.2.2 k q = some k2) (kk : G Z (pc + 1) L (.ref k2 :: st) M) : G Z pc L (.int i :: .ref k :: st) M := by
  obtain ⟨p, l, e, R, s, m, args, below, meth, c, D, dA, n0, ad0, Q, ⟨hx, hb, hml, hown, hts, hK, hlk, hfr, hlo, hX⟩, hmc, hms, rfl⟩ := hG
  intro ad H locs ls he hP hD hS hl
  obtain ⟨h1, h2⟩ := gin hi hq hn
  have hat : (gw dA ad Z.1 M)[k]? = some (ad k, .inl (dA 8, n, .inr (.inr (.inr (.inr (fun j => (M.2.2 k j).map ad)))))) := by rw [gw_at hk, ge_ref hkd]
  have hlt : i.toNatClampNeg < n := by rw [h2]; exact hq
  refine W.aald (v := .ref (ad k2)) (ty := .array .int) hx hb (hP k _ hat) ((hK.2 8 _ rfl).1 n (fun j => va_rf ((M.2.2 k j).map ad))) rfl (fun q => by cases q) (by show ¬ (i < 0 ∨ (arrV _ _ _).slots.size ≤ _); rw [arrV_size]; exact h1) (by show (arrV _ _ _).slots[_]? = _; rw [arrV_read _ _ hlt, h2]; show some (va_rf ((M.2.2 k q).map ad)) = _; rw [hr]; rfl) rfl rfl hd (kk ad H locs ls he hP hD hS hl)
theorem r_iast {d mc ms : Nat} {own : String} {cc : ByteArray} {nL : Nat} {G : gJ} (hG : gS d mc ms own cc nL G) {Z : Nat × Nat × Nat} {pc : Nat} {L : List (Option Value)} {st : List Value} {M : gM} {k n : Nat} {i x : Int32} (q : Nat) (hd : decode cc pc = .ok (.iastore, 1)) (hkd : gK k = (1, 0, n)) (hk : k < Z.1) (hi : i = nI q) (hq : q < n) (hn : n < 2147483648) (kk : G Z (pc + 1) L st (gwI M k q x)) : G Z pc L (.int x :: .int i :: .ref k :: st) M := by
  obtain ⟨p, l, e, R, s, m, args, below, meth, c, D, dA, n0, ad0, Q, ⟨hx, hb, hml, hown, hts, hK, hlk, hfr, hlo, hX⟩, hmc, hms, rfl⟩ := hG
  intro ad H locs ls he hP hD hS hl
  obtain ⟨h1, h2⟩ := gin hi hq hn
  refine va_iast (D := D) (n := n) (f := M.1 k) hx hb hK hP hD hS k 0 (by rw [gw_at hk, ge_int hkd]) rfl h1 hd (fun H1 locs1 hP1 hD1 hS1 => ?_)
  rw [h2] at hP1 hD1
  have e : (gw dA ad Z.1 M).set k (ad k, .inl (dA 0, n, .inl (upd (M.1 k) q x))) = gw dA ad Z.1 (gwI M k q x) := by
    refine gw_set hk ?_ (fun q hq => ge_row (gwI_row hq) rfl rfl)
    rw [ge_int hkd]
    have e2 : (gwI M k q x).1 k = upd (M.1 k) q x := by
      funext b
      simp [gwI, upd]
    rw [e2]
  rw [e] at hP1 hD1
  exact kk ad H1 locs1 ls he hP1 hD1 hS1 hl
theorem r_cast {d mc ms : Nat} {own : String} {cc : ByteArray} {nL : Nat} {G : gJ} (hG : gS d mc ms own cc nL G) {Z : Nat × Nat × Nat} {pc : Nat} {L : List (Option Value)} {st : List Value} {M : gM} {k n : Nat} {i x : Int32} (q : Nat) (hd : decode cc pc = .ok (.castore, 1)) (hkd : gK k = (1, 2, n)) (hk : k < Z.1) (hi : i = nI q) (hq : q < n) (hn : n < 2147483648) (hnr : vp_nar .char x = x) (kk : G Z (pc + 1) L st (gwI M k q x)) : G Z pc L (.int x :: .int i :: .ref k :: st) M := by
  obtain ⟨p, l, e, R, s, m, args, below, meth, c, D, dA, n0, ad0, Q, ⟨hx, hb, hml, hown, hts, hK, hlk, hfr, hlo, hX⟩, hmc, hms, rfl⟩ := hG
  intro ad H locs ls he hP hD hS hl
  obtain ⟨h1, h2⟩ := gin hi hq hn
  refine va_cast (D := D) (n := n) (f := M.1 k) hx hb hK hP hD hS k 2 (by rw [gw_at hk, ge_int hkd]) rfl h1 hd (fun H1 locs1 hP1 hD1 hS1 => ?_)
  rw [h2] at hP1 hD1
  rw [hnr] at hP1 hD1
  have e : (gw dA ad Z.1 M).set k (ad k, .inl (dA 2, n, .inl (upd (M.1 k) q x))) = gw dA ad Z.1 (gwI M k q x) := by
    refine gw_set hk ?_ (fun q hq => ge_row (gwI_row hq) rfl rfl)
    rw [ge_int hkd]
    have e2 : (gwI M k q x).1 k = upd (M.1 k) q x := by
      funext b
      simp [gwI, upd]
    rw [e2]
  rw [e] at hP1 hD1
  exact kk ad H1 locs1 ls he hP1 hD1 hS1 hl
theorem r_zast {d mc ms : Nat} {own : String} {cc : ByteArray} {nL : Nat} {G : gJ} (hG : gS d mc ms own cc nL G) {Z : Nat × Nat × Nat} {pc : Nat} {L : List (Option Value)} {st : List Value} {M : gM} {k n : Nat} {i x : Int32} (q : Nat) (hd : decode cc pc = .ok (.bastore, 1)) (hkd : gK k = (1, 3, n)) (hk : k < Z.1) (hi : i = nI q) (hq : q < n) (hn : n < 2147483648) (hnr : vp_nar .boolean x = x) (kk : G Z (pc + 1) L st (gwI M k q x)) : G Z pc L (.int x :: .int i :: .ref k :: st) M := by
  obtain ⟨p, l, e, R, s, m, args, below, meth, c, D, dA, n0, ad0, Q, ⟨hx, hb, hml, hown, hts, hK, hlk, hfr, hlo, hX⟩, hmc, hms, rfl⟩ := hG
  intro ad H locs ls he hP hD hS hl
  obtain ⟨h1, h2⟩ := gin hi hq hn
  refine va_zast (D := D) (n := n) (f := M.1 k) hx hb hK hP hD hS k 3 (by rw [gw_at hk, ge_int hkd]) rfl h1 hd (fun H1 locs1 hP1 hD1 hS1 => ?_)
  rw [h2] at hP1 hD1
  rw [hnr] at hP1 hD1
  have e : (gw dA ad Z.1 M).set k (ad k, .inl (dA 3, n, .inl (upd (M.1 k) q x))) = gw dA ad Z.1 (gwI M k q x) := by
    refine gw_set hk ?_ (fun q hq => ge_row (gwI_row hq) rfl rfl)
    rw [ge_int hkd]
    have e2 : (gwI M k q x).1 k = upd (M.1 k) q x := by
      funext b
      simp [gwI, upd]
    rw [e2]
  rw [e] at hP1 hD1
  exact kk ad H1 locs1 ls he hP1 hD1 hS1 hl
theorem r_last {d mc ms : Nat} {own : String} {cc : ByteArray} {nL : Nat} {G : gJ} (hG : gS d mc ms own cc nL G) {Z : Nat × Nat × Nat} {pc : Nat} {L : List (Option Value)} {st : List Value} {M : gM} {k n : Nat} {i : Int32} {x : Int64} (q : Nat) (hd : decode cc pc = .ok (.lastore, 1)) (hkd : gK k = (2, 1, n)) (hk : k < Z.1) (hi : i = nI q) (hq : q < n) (hn : n < 2147483648) (kk : G Z (pc + 1) L st (gwL M k q x)) : G Z pc L (.long x :: .int i :: .ref k :: st) M := by
  obtain ⟨p, l, e, R, s, m, args, below, meth, c, D, dA, n0, ad0, Q, ⟨hx, hb, hml, hown, hts, hK, hlk, hfr, hlo, hX⟩, hmc, hms, rfl⟩ := hG
  intro ad H locs ls he hP hD hS hl
  obtain ⟨h1, h2⟩ := gin hi hq hn
  refine va_last (D := D) (n := n) (f := M.2.1 k) hx hb hK hP hD hS k 1 (by rw [gw_at hk, ge_long hkd]) rfl h1 hd (fun H1 locs1 hP1 hD1 hS1 => ?_)
  rw [h2] at hP1 hD1
  have e : (gw dA ad Z.1 M).set k (ad k, .inl (dA 1, n, .inr (.inl (vp_updL (M.2.1 k) q x)))) = gw dA ad Z.1 (gwL M k q x) := by
    refine gw_set hk ?_ (fun q hq => ge_row rfl (gwL_row hq) rfl)
    rw [ge_long hkd]
    have e2 : (gwL M k q x).2.1 k = vp_updL (M.2.1 k) q x := by
      funext b
      simp [gwL, vp_updL]
    rw [e2]
  rw [e] at hP1 hD1
  exact kk ad H1 locs1 ls he hP1 hD1 hS1 hl
/-! contracts -/
def gQ (D : va_G) (dA : Nat → ClassId) (n n' : Nat) (ad : Nat → Nat) (sz : Nat) (P : Option Value → gM → Prop) : Array Value → State → Outcome → State → Prop := fun _ st oc t => (∃ (r : Option Value) (ad' : Nat → Nat) (M' : gM), oc = .returned (r.map (gtr ad')) ∧ P r M' ∧ gExt n ad n' ad' ∧ va_P D vwCl (gw dA ad' n' M') t.heap ∧ va_D (gA ad n sz) (gw dA ad' n' M')) ∧ va_F (gA ad n sz) st t
def gPre (D : va_G) (dA : Nat → ClassId) (n : Nat) (ad : Nat → Nat) (sz : Nat) (M : gM) (U : State) : Prop := U.heap.size = sz ∧ va_P D vwCl (gw dA ad n M) U.heap ∧ va_D (fun _ => True) (gw dA ad n M) ∧ va_K D vwCl (gtys dA) U ∧ gX ad (gA ad n sz) U U.heap
def gC (d mc ms : Nat) (y : MethodName) (cc : ByteArray) (nL : Nat) (ret : Option FieldType) (n n' : Nat) (As : List Value) (M : gM) (P : Option Value → gM → Prop) : Prop :=
  ∀ (l : Launch) (D : va_G) (dA : Nat → ClassId) (ad : Nat → Nat) (sz : Nat), Met l y (gWs y cc nL ret) (gRm d mc ms) (va_Pc (As.map (gtr ad)) (gPre D dA n ad sz M)) (gQ D dA n n' ad sz P) mc ms (gA ad n sz)
def gI (P : Int32 → gM → Prop) : Option Value → gM → Prop := fun r M => ∃ x, r = some (.int x) ∧ P x M
def gV (P : gM → Prop) : Option Value → gM → Prop := fun r M => r = none ∧ P M
theorem gD_self {dA : Nat → ClassId} {ad : Nat → Nat} {n sz : Nat} {M : gM} {B : Nat → Prop} (h : va_D B (gw dA ad n M)) : va_D (gA ad n sz) (gw dA ad n M) := ⟨h.1, fun k q hk => by
  obtain ⟨h1, h2⟩ := gw_inv hk
  rw [h2]
  exact Or.inl ⟨k, h1, rfl⟩⟩
theorem gent_sl (ad : Nat → Nat) : ∀ (As : List Value), (lg_sl (As.map (gtr ad))).length = (gent As).length
  | [] => rfl
  | v :: vs => by
    have ih := gent_sl ad vs
    unfold lg_sl at ih ⊢
    rw [List.map_cons, List.flatMap_cons, List.length_append, ih, gtr_cat]
    cases v <;> simp [gent, Value.category] <;> omega
theorem gent_args (ad : Nat → Nat) : ∀ (As : List Value) (b i : Nat) (v : Value), (gent As)[i]? = some (some v) → (b + i, gtr ad v) ∈ lv_args b (As.map (gtr ad))
  | [], b, i, v, h => by simp [gent] at h
  | w :: vs, b, i, v, h => by
    have key1 : w.category = 1 → gent (w :: vs) = some w :: gent vs → (b + i, gtr ad v) ∈ lv_args b ((w :: vs).map (gtr ad)) := by
      intro hc he
      rw [he] at h
      rw [List.map_cons, lv_args, gtr_cat, hc]
      cases i with
      | zero =>
        rw [List.getElem?_cons_zero] at h
        cases h
        exact List.mem_cons_self
      | succ i =>
        rw [List.getElem?_cons_succ] at h
        have := gent_args ad vs (b + 1) i v h
        refine List.mem_cons_of_mem _ ?_
        simp only [show ¬ (1 : Nat) = 2 by decide, if_false]
        rw [show b + (i + 1) = b + 1 + i by omega]
        exact this
    have key2 : w.category = 2 → gent (w :: vs) = some w :: none :: gent vs → (b + i, gtr ad v) ∈ lv_args b ((w :: vs).map (gtr ad)) := by
      intro hc he
      rw [he] at h
      rw [List.map_cons, lv_args, gtr_cat, hc]
      cases i with
      | zero =>
        rw [List.getElem?_cons_zero] at h
        cases h
        exact List.mem_cons_self
      | succ i =>
        rw [List.getElem?_cons_succ] at h
        cases i with
        | zero =>
          rw [List.getElem?_cons_zero] at h
          cases h
        | succ i =>
          rw [List.getElem?_cons_succ] at h
          have := gent_args ad vs (b + 2) i v h
          refine List.mem_cons_of_mem _ ?_
          simp only [if_true]
          rw [show b + (i + 1 + 1) = b + 2 + i by omega]
          exact this
    cases w with
    | long x => exact key2 rfl rfl
    | double x => exact key2 rfl rfl
    | int x => exact key1 rfl rfl
    | float x => exact key1 rfl rfl
    | null => exact key1 rfl rfl
    | ref x => exact key1 rfl rfl
    | retAddr x => exact key1 rfl rfl
theorem gl_entry {ad : Nat → Nat} {nL : Nat} {As : List Value} (h : (gent As).length ≤ nL) : gl ad nL (gpad nL (gent As)) ((lg_sl (As.map (gtr ad)) ++ List.replicate (nL - (lg_sl (As.map (gtr ad))).length) Slot.unset).toArray) := by
  have hl := lv_entry (As.map (gtr ad)) (n := nL) (by rw [gent_sl]; exact h)
  refine ⟨by simp [gpad]; omega, hl.1, hl.2.1, fun i v hi => ?_⟩
  unfold gpad at hi
  by_cases hlt : i < (gent As).length
  · rw [List.getElem?_append_left hlt] at hi
    have := gent_args ad As 0 i v hi
    rw [Nat.zero_add] at this
    exact hl.2.2 _ this
  · rw [List.getElem?_append_right (by omega), List.getElem?_replicate] at hi
    split at hi <;> cases hi
/-- how a walk of a method ends -/
def gEi (n' mc ms : Nat) (cc : ByteArray) (ty : FieldType) (P : Int32 → gM → Prop) (G : gJ) : Prop := ∀ (Z : Nat × Nat × Nat) (pc : Nat) (L : List (Option Value)) (x : Int32) (M' : gM), decode cc pc = .ok (.ireturn, 1) → Z.1 = n' → Z.2.1 ≤ mc → Z.2.2 ≤ ms → narrow ty (.int x) = .int x → P x M' → G Z pc L [.int x] M'
def gEv (n' mc ms : Nat) (cc : ByteArray) (P : gM → Prop) (G : gJ) : Prop := ∀ (Z : Nat × Nat × Nat) (pc : Nat) (L : List (Option Value)) (M' : gM), decode cc pc = .ok (.return_, 1) → Z.1 = n' → Z.2.1 ≤ mc → Z.2.2 ≤ ms → P M' → G Z pc L [] M'
set_option maxHeartbeats 1000000 in
theorem gC_i {d mc ms : Nat} {y : MethodName} {cc : ByteArray} {nL : Nat} {ty : FieldType} {n n' : Nat} {As : List Value} {M : gM} {P : Int32 → gM → Prop} (hy : plainName y.cls = true) (hlen : (gent As).length ≤ nL)
    (body : ∀ G, gS d mc ms y.cls cc nL G → gEi n' mc ms cc ty P G → G (n, 0, 0) 0 (gpad nL (gent As)) [] M) : gC d mc ms y cc nL (some ty) n n' As M (gI P) := by
  intro l D dA ad sz
  refine Met.ofW (cc := cc) (maxL := nL) (ret := some ty) hy rfl ?_
  intro p e s m args below meth c s₁ B hml hv
  obtain ⟨rfl, hsz, hP, hD, hK, hX⟩ := hv
  subst hsz
  have hts := atoms_spec (ws := gWs y cc nL (some ty)) B.pre
  have hown : s.vm.findClass y.cls = some m.cls := findClass_of_methodNamed B.named
  have hlk := B.notSynchronized
  rw [lg_entry_eq]
  refine body (gG p l e (gRm d mc ms) s m (As.map (gtr ad)).toArray below meth c D dA n ad nL (MQ below (gQ D dA n n' ad s.heap.size (gI P)) (As.map (gtr ad)).toArray s mc ms (gA ad n s.heap.size))) ?_ ?_ ad s.heap [] _ gExt.rf hP (gD_self hD) va_S.rf (gl_entry hlen)
  · exact ⟨p, l, e, gRm d mc ms, s, m, _, below, meth, c, D, dA, n, ad, _, ⟨B.exec, B.bytes, hml, hown, fun w hw => hts w (List.mem_cons_of_mem _ hw), hK, hlk, Nat.le_refl _, Nat.le_refl _, hX⟩, rfl, rfl, rfl⟩
  · intro Z pc L x M' hd hz h1 h2 hn hp ad' H locs ls he hP' hD' hS hl
    subst hz
    refine W.widen (k := mc) (n := ms) h1 h2 ?_
    exact W.zret B.exec B.bytes B.returns hn (fun t ht hW => ⟨⟨some (.int x), ad', M', rfl, ⟨x, rfl, hp⟩, he, by rw [ht]; exact hP', hD'⟩, hS.F ht⟩) hS.2.2 hd hlk
set_option maxHeartbeats 1000000 in
theorem gC_v {d mc ms : Nat} {y : MethodName} {cc : ByteArray} {nL : Nat} {n n' : Nat} {As : List Value} {M : gM} {P : gM → Prop} (hy : plainName y.cls = true) (hlen : (gent As).length ≤ nL)
    (body : ∀ G, gS d mc ms y.cls cc nL G → gEv n' mc ms cc P G → G (n, 0, 0) 0 (gpad nL (gent As)) [] M) : gC d mc ms y cc nL none n n' As M (gV P) := by
  intro l D dA ad sz
  refine Met.ofW (cc := cc) (maxL := nL) (ret := none) hy rfl ?_
  intro p e s m args below meth c s₁ B hml hv
  obtain ⟨rfl, hsz, hP, hD, hK, hX⟩ := hv
  subst hsz
  have hts := atoms_spec (ws := gWs y cc nL none) B.pre
  have hown : s.vm.findClass y.cls = some m.cls := findClass_of_methodNamed B.named
  have hlk := B.notSynchronized
  rw [lg_entry_eq]
  refine body (gG p l e (gRm d mc ms) s m (As.map (gtr ad)).toArray below meth c D dA n ad nL (MQ below (gQ D dA n n' ad s.heap.size (gV P)) (As.map (gtr ad)).toArray s mc ms (gA ad n s.heap.size))) ?_ ?_ ad s.heap [] _ gExt.rf hP (gD_self hD) va_S.rf (gl_entry hlen)
  · exact ⟨p, l, e, gRm d mc ms, s, m, _, below, meth, c, D, dA, n, ad, _, ⟨B.exec, B.bytes, hml, hown, fun w hw => hts w (List.mem_cons_of_mem _ hw), hK, hlk, Nat.le_refl _, Nat.le_refl _, hX⟩, rfl, rfl, rfl⟩
  · intro Z pc L M' hd hz h1 h2 hp ad' H locs ls he hP' hD' hS hl
    subst hz
    refine W.widen (k := mc) (n := ms) h1 h2 ?_
    exact W.vret B.exec B.bytes B.returns (fun t ht hW => ⟨⟨none, ad', M', rfl, ⟨rfl, hp⟩, he, by rw [ht]; exact hP', hD'⟩, hS.F ht⟩) hS.2.2 hd hlk
/-! calls -/
theorem gPre_blind {D : va_G} {dA : Nat → ClassId} {n : Nat} {ad : Nat → Nat} {sz : Nat} {M : gM} {As : List Value} : FrameBlind (va_Pc As (gPre D dA n ad sz M)) := by
  intro a U g mk q
  obtain ⟨q0, q1, q2, q3, q4, q5⟩ := q
  exact ⟨q0, q1, q2, q3, va_K.moved (u := U) (U := U.calling g mk a) (Vm.Alike.refl U.vm) q4, gX.calling q5⟩
theorem gA_sub {n0 n : Nat} {ad0 ad : Nat → Nat} {dA : Nat → ClassId} {M : gM} {s : State} {H : Heap} {locs : List Loc} (hD : va_D (gA ad0 n0 s.heap.size) (gw dA ad n M)) (hS : va_S (gA ad0 n0 s.heap.size) s.heap H locs) : ∀ q, gA ad n H.size q → gA ad0 n0 s.heap.size q := by
  intro q h
  rcases h with ⟨k, hk, rfl⟩ | h
  · exact hD.2 k _ (gw_at hk)
  · exact Or.inr (Nat.le_trans hS.1 h)
theorem gX_at {n0 n : Nat} {ad0 ad : Nat → Nat} {dA : Nat → ClassId} {M : gM} {s : State} {H : Heap} {locs : List Loc} (he : gExt n0 ad0 n ad) (hX : gX ad0 (gA ad0 n0 s.heap.size) s s.heap) (hD : va_D (gA ad0 n0 s.heap.size) (gw dA ad n M)) (hS : va_S (gA ad0 n0 s.heap.size) s.heap H locs) : gX ad (gA ad n H.size) s H :=
  ((hX.kept hS.2.1).narrow (gA_sub hD hS)).adr (fun k hk => he.2.1 k (Or.inr hk))
/-- behind a call: the general road -/
theorem g_back {p : Program} {l : Launch} {e : Env} {R : Room} {s : State} {m : MethodId} {args : Array Value} {below : List Frame} {meth : Method} {c : Code} {D : va_G} {dA : Nat → ClassId} {n0 : Nat} {ad0 ad : Nat → Nat} {nL : Nat} {Q : State → Prop} {n n' cells slots mc' ms' pc : Nat} {L : List (Option Value)} {st rest : List Value} {M : gM} {P : Option Value → gM → Prop} {H : Heap} {locs : List Loc} {ls : Array Slot} {a : Array Value}
    (hr : va_Run p l e R s m args below meth c H locs cells slots mc' ms' (F0 m pc ls st) (rest.map (gtr ad)) (gQ D dA n n' ad H.size P a) (gA ad n H.size)) (he : gExt n0 ad0 n ad) (hD : va_D (gA ad0 n0 s.heap.size) (gw dA ad n M)) (hS : va_S (gA ad0 n0 s.heap.size) s.heap H locs) (hl : gl ad nL L ls)
    (hrefL : n' = n ∨ (∀ (i k : Nat), L[i]? = some (some (.ref k)) → k < n ∨ 1000 ≤ k) ∧ (∀ k, Value.ref k ∈ rest → k < n ∨ 1000 ≤ k))
    (kk : ∀ (r : Option Value) (M' : gM), P r M' → gG p l e R s m args below meth c D dA n0 ad0 nL Q (n', cells + mc', slots + ms') (pc + 3) L (r.toList ++ rest) M') : W p l e R s m args below meth c H locs cells slots Q (F0 m pc ls st) := by
  intro T hT X
  obtain ⟨v, st₀, t, T', Lc, h0, X', hL, e1, e2, ⟨⟨r, ad', M', hv, hp, hex, hP1, hD1⟩, hz, hk⟩, stp⟩ := hr T hT X
  have hv' : v = r.map (gtr ad') := Outcome.returned.inj hv
  subst hv'
  rw [h0] at hz hk
  have hsub := gA_sub hD hS
  have e3 : rest.map (gtr ad) = rest.map (gtr ad') := by
    rcases hrefL with hn | ⟨-, hn⟩
    · rw [hex.2.2 hn]
    · refine List.map_congr_left (fun w hw => ?_)
      cases w with
      | ref k => show Value.ref (ad k) = Value.ref (ad' k); rw [hex.2.1 k (hn k hw)]
      | _ => rfl
  have hl' : gl ad' nL L ls := by
    rcases hrefL with hn | ⟨hn, -⟩
    · rw [hex.2.2 hn]; exact hl
    · exact gl_ad hl (fun i k hi => hex.2.1 k (hn i k hi))
  have hS' : va_S (gA ad0 n0 s.heap.size) s.heap T'.heap (locs ++ Lc) := by
    refine ⟨Nat.le_trans hS.1 (by rw [e1]; exact hz), fun q h1 h2 => ?_, fun q hq => ?_⟩
    · rw [e1, hk q (Nat.lt_of_lt_of_le h1 hS.1) (fun z => h2 (hsub q z))]
      exact hS.2.1 q h1 h2
    · rcases List.mem_append.mp hq with h | h
      · exact hS.2.2 q h
      · exact hsub _ (hL q h)
  have hD' : va_D (gA ad0 n0 s.heap.size) (gw dA ad' n' M') := hD1.weaken (fun _ q _ h => hsub q.1 h)
  obtain ⟨t2, a1, b1⟩ := kk r M' hp ad' T'.heap (locs ++ Lc) ls (he.trans hex) (by rw [e1]; exact hP1) hD' hS' hl' T' rfl X'
  refine ⟨t2, stp t2 ?_, b1⟩
  have e4 : (r.toList ++ rest).map (gtr ad') = (r.map (gtr ad')).toList ++ rest.map (gtr ad) := by
    rw [List.map_append, e3]
    cases r <;> rfl
  rw [e4] at a1
  exact a1
/-- what a call's link needs -/
def gLk (own : String) (index : Nat) (y : MethodName) (cy : ByteArray) (nLy : Nat) (ret : Option FieldType) (na : Nat) : Prop := Cond.methodLink own index y ∈ gT ∧ Cond.code y cy nLy ret ∈ gT ∧ Cond.initialized y.cls ∈ gT ∧ (y.cls ≠ "java/lang/invoke/MethodHandle" ∧ y.cls ≠ "java/lang/invoke/VarHandle" ∧ (parseMethodDescriptor y.desc).map (fun d => d.parameters.length) = some na) ∧ nLy ≤ 21
def gVm (own : String) (index : Nat) (y : MethodName) (cy : ByteArray) (nLy : Nat) (ret : Option FieldType) (na ci : Nat) : Prop := gLk own index y cy nLy ret na ∧ Cond.instanceMethod y ∈ gT ∧ Cond.selects y.cls y y ∈ gT ∧ ∃ T : u_T, vwCl[ci]? = some (y.cls, T, gfn ci)
def gSm (own : String) (index : Nat) (y : MethodName) (cy : ByteArray) (nLy : Nat) (ret : Option FieldType) (na : Nat) : Prop := gLk own index y cy nLy ret na ∧ Cond.static y ∈ gT
set_option maxHeartbeats 1000000 in
theorem r_callV {d mc ms : Nat} {own : String} {cc : ByteArray} {nL : Nat} {G : gJ} (hG : gS d mc ms own cc nL G) {Z : Nat × Nat × Nat} {pc : Nat} {L : List (Option Value)} {st : List Value} {M : gM} {index : Nat} {y : MethodName} {cy : ByteArray} {nLy : Nat} {ret : Option FieldType} {na ci d' k z : Nat} {P : Option Value → gM → Prop} (As : List Value) (hm : gVm own index y cy nLy ret na ci) (hd : decode cc pc = .ok (.invokevirtual index, 3)) (hkd : gK k = (0, ci, z)) (hk : k < Z.1) (hna : As.length = na) (hdd : d' + 1 ≤ d) (hc : Z.2.1 ≤ mc ∧ Z.2.2 ≤ ms) (hst : (st.map fun v => v.category).sum ≤ 8)
    (hC : gC d' 0 0 y cy nLy ret Z.1 Z.1 (.ref k :: As) M P) (kk : ∀ (r : Option Value) (M' : gM), P r M' → G Z (pc + 3) L (r.toList ++ st) M') : G Z pc L (As.reverse ++ .ref k :: st) M := by
  obtain ⟨p, l, e, R, s, m, args, below, meth, c, D, dA, n0, ad0, Q, ⟨hx, hb, hml, hown, hts, hK, hlk, hfr, hlo, hX⟩, hmc, hms, rfl⟩ := hG
  intro ad H locs ls he hP hD hS hl
  obtain ⟨⟨h1, h2, h3, h4, h5⟩, h6, h7, T, h8⟩ := hm
  have hcw : CallW R s args own y.cls index y cy nLy ret (gWs y cy nLy ret) (gRm d' 0 0) 0 0 na := ⟨callB_of na hts (gT_good h2) rfl rfl rfl (hts _ h3) (hts _ h1) h4 ⟨Nat.le_trans hdd hfr, by show 8 + (nLy + 11) + 40 * d' ≤ R.locals; omega⟩, hts _ h6, hts _ h7⟩
  have hrecv := va_recv hK hP h8 (by rw [gw_at hk, ge_obj hkd] : (gw dA ad Z.1 M)[k]? = some (ad k, .inr (ci, gfs ad M k ci)))
  have hcat : (st.map (gtr ad)).map (fun v => v.category) = st.map (fun v => v.category) := by
    rw [List.map_map]
    exact List.map_congr_left (fun v _ => gtr_cat ad v)
  refine g_back (n := Z.1) (n' := Z.1) (mc' := 0) (ms' := 0) (rest := st) (a := (Value.ref (ad k) :: As.map (gtr ad)).toArray) (va_runV (As := As.map (gtr ad)) ⟨hx, hb, hml, hown, hts⟩ (hC l D dA ad H.size) hcw ⟨gPre_blind, hrecv, fun U hU hW => ⟨rfl, by rw [hU], by rw [hU]; exact hP, hD.weaken (fun _ _ _ _ => trivial), va_K.moved hW.alike hK, by rw [hU]; exact gX.warm hW (gX_at he hX hD hS)⟩⟩ rfl (by rw [List.length_map]; exact hna) (hl.2.1) ?_ ?_ hd ⟨by rw [hmc]; exact hc.1, by rw [hms]; exact hc.2⟩) he hD hS hl (Or.inl rfl) kk
  · show (As.reverse ++ Value.ref k :: st).map (gtr ad) = _
    rw [List.map_append, List.map_reverse]
    rfl
  · refine lv_room ?_
    rw [hcat]
    exact hst
set_option maxHeartbeats 1000000 in
theorem r_callS {d mc ms : Nat} {own : String} {cc : ByteArray} {nL : Nat} {G : gJ} (hG : gS d mc ms own cc nL G) {Z : Nat × Nat × Nat} {pc : Nat} {L : List (Option Value)} {st : List Value} {M : gM} {index : Nat} {y : MethodName} {cy : ByteArray} {nLy : Nat} {ret : Option FieldType} {na d' : Nat} {P : Option Value → gM → Prop} (As : List Value) (hm : gSm own index y cy nLy ret na) (hd : decode cc pc = .ok (.invokestatic index, 3)) (hna : As.length = na) (hdd : d' + 1 ≤ d) (hc : Z.2.1 ≤ mc ∧ Z.2.2 ≤ ms) (hst : (st.map fun v => v.category).sum ≤ 8)
    (hC : gC d' 0 0 y cy nLy ret Z.1 Z.1 As M P) (kk : ∀ (r : Option Value) (M' : gM), P r M' → G Z (pc + 3) L (r.toList ++ st) M') : G Z pc L (As.reverse ++ st) M := by
  obtain ⟨p, l, e, R, s, m, args, below, meth, c, D, dA, n0, ad0, Q, ⟨hx, hb, hml, hown, hts, hK, hlk, hfr, hlo, hX⟩, hmc, hms, rfl⟩ := hG
  intro ad H locs ls he hP hD hS hl
  obtain ⟨⟨h1, h2, h3, h4, h5⟩, h6⟩ := hm
  have hcw : CallB R s args own index y cy nLy ret (gWs y cy nLy ret) (gRm d' 0 0) 0 0 na := callB_of na hts (gT_good h2) rfl rfl rfl (hts _ h3) (hts _ h1) h4 ⟨Nat.le_trans hdd hfr, by show 8 + (nLy + 11) + 40 * d' ≤ R.locals; omega⟩
  have hcat : (st.map (gtr ad)).map (fun v => v.category) = st.map (fun v => v.category) := by
    rw [List.map_map]
    exact List.map_congr_left (fun v _ => gtr_cat ad v)
  refine g_back (n := Z.1) (n' := Z.1) (mc' := 0) (ms' := 0) (rest := st) (a := (As.map (gtr ad)).toArray) (va_runS (As := As.map (gtr ad)) ⟨hx, hb, hml, hown, hts⟩ (hC l D dA ad H.size) ⟨hcw, hts _ h6⟩ ⟨gPre_blind, fun U hU hW => ⟨rfl, by rw [hU], by rw [hU]; exact hP, hD.weaken (fun _ _ _ _ => trivial), va_K.moved hW.alike hK, by rw [hU]; exact gX.warm hW (gX_at he hX hD hS)⟩⟩ rfl (by rw [List.length_map]; exact hna) (hl.2.1) ?_ ?_ hd ⟨by rw [hmc]; exact hc.1, by rw [hms]; exact hc.2⟩) he hD hS hl (Or.inl rfl) kk
  · show (As.reverse ++ st).map (gtr ad) = _
    rw [List.map_append, List.map_reverse]
  · refine lv_room ?_
    rw [hcat]
    exact hst
/-- a private static method of the nest's host -/
def gNm (own : String) (index : Nat) (y : MethodName) (cy : ByteArray) (nLy : Nat) (ret : Option FieldType) (na : Nat) : Prop := ∃ host : String, Cond.methodLinkNest own index y host ∈ gNl ∧ Cond.code y cy nLy ret ∈ gT ∧ Cond.initialized y.cls ∈ gT ∧ (y.cls ≠ "java/lang/invoke/MethodHandle" ∧ y.cls ≠ "java/lang/invoke/VarHandle" ∧ (parseMethodDescriptor y.desc).map (fun d => d.parameters.length) = some na) ∧ nLy ≤ 21 ∧ Cond.static y ∈ gT
set_option maxHeartbeats 1000000 in
theorem r_callN {d mc ms : Nat} {own : String} {cc : ByteArray} {nL : Nat} {G : gJ} (hG : gS d mc ms own cc nL G) {Z : Nat × Nat × Nat} {pc : Nat} {L : List (Option Value)} {st : List Value} {M : gM} {index : Nat} {y : MethodName} {cy : ByteArray} {nLy : Nat} {ret : Option FieldType} {na d' : Nat} {P : Option Value → gM → Prop} (As : List Value) (hm : gNm own index y cy nLy ret na) (hd : decode cc pc = .ok (.invokestatic index, 3)) (hna : As.length = na) (hdd : d' + 1 ≤ d) (hc : Z.2.1 ≤ mc ∧ Z.2.2 ≤ ms) (hst : (st.map fun v => v.category).sum ≤ 8)
    (hC : gC d' 0 0 y cy nLy ret Z.1 Z.1 As M P) (kk : ∀ (r : Option Value) (M' : gM), P r M' → G Z (pc + 3) L (r.toList ++ st) M') : G Z pc L (As.reverse ++ st) M := by
  obtain ⟨p, l, e, R, s, m, args, below, meth, c, D, dA, n0, ad0, Q, ⟨hx, hb, hml, hown, hts, hK, hlk, hfr, hlo, hX⟩, hmc, hms, rfl⟩ := hG
  intro ad H locs ls he hP hD hS hl
  obtain ⟨host, h1, h2, h3, h4, h5, h6⟩ := hm
  have hcw : va_CN R s args own index y host cy nLy ret (gWs y cy nLy ret) (gRm d' 0 0) 0 0 na := va_cnB na hts (gT_good h2) rfl rfl rfl (hX.2.2.2.1 _ h1) (hts _ h3) h4 ⟨Nat.le_trans hdd hfr, by show 8 + (nLy + 11) + 40 * d' ≤ R.locals; omega⟩
  have hcat : (st.map (gtr ad)).map (fun v => v.category) = st.map (fun v => v.category) := by
    rw [List.map_map]
    exact List.map_congr_left (fun v _ => gtr_cat ad v)
  refine g_back (n := Z.1) (n' := Z.1) (mc' := 0) (ms' := 0) (rest := st) (a := (As.map (gtr ad)).toArray) (va_runSN (As := As.map (gtr ad)) ⟨hx, hb, hml, hown, hts⟩ (hC l D dA ad H.size) ⟨hcw, hts _ h6, trivial⟩ ⟨gPre_blind, fun U hU hW => ⟨rfl, by rw [hU], by rw [hU]; exact hP, hD.weaken (fun _ _ _ _ => trivial), va_K.moved hW.alike hK, by rw [hU]; exact gX.warm hW (gX_at he hX hD hS)⟩⟩ rfl (by rw [List.length_map]; exact hna) (hl.2.1) ?_ ?_ hd ⟨by rw [hmc]; exact hc.1, by rw [hms]; exact hc.2⟩) he hD hS hl (Or.inl rfl) kk
  · show (As.reverse ++ st).map (gtr ad) = _
    rw [List.map_append, List.map_reverse]
  · refine lv_room ?_
    rw [hcat]
    exact hst
theorem r_cNI3 {d mc ms : Nat} {own : String} {cc : ByteArray} {nL : Nat} {G : gJ} (hG : gS d mc ms own cc nL G) {Z : Nat × Nat × Nat} {pc : Nat} {L : List (Option Value)} {st : List Value} {M : gM} {index : Nat} {y : MethodName} {cy : ByteArray} {nLy : Nat} {ty : FieldType} {d' : Nat} {P : Int32 → gM → Prop} {a1 a2 a3 : Value} (hm : gNm own index y cy nLy (some ty) 3) (hd : decode cc pc = .ok (.invokestatic index, 3)) (hC : gC d' 0 0 y cy nLy (some ty) Z.1 Z.1 [a1, a2, a3] M (gI P)) (hdd : d' + 1 ≤ d) (hc : Z.2.1 ≤ mc ∧ Z.2.2 ≤ ms) (hst : (st.map fun v => v.category).sum ≤ 8) (kk : ∀ (x : Int32) (M' : gM), P x M' → G Z (pc + 3) L (.int x :: st) M') : G Z pc L (a3 :: a2 :: a1 :: st) M := r_callN hG [a1, a2, a3] hm hd rfl hdd hc hst hC (fun r M9 h9 => by obtain ⟨x, rfl, h⟩ := h9; exact kk x M9 h)
theorem r_cVI0 {d mc ms : Nat} {own : String} {cc : ByteArray} {nL : Nat} {G : gJ} (hG : gS d mc ms own cc nL G) {Z : Nat × Nat × Nat} {pc : Nat} {L : List (Option Value)} {st : List Value} {M : gM} {index : Nat} {y : MethodName} {cy : ByteArray} {nLy : Nat} {ty : FieldType} {ci d' k z : Nat} {P : Int32 → gM → Prop}  (hm : gVm own index y cy nLy (some ty) 0 ci) (hd : decode cc pc = .ok (.invokevirtual index, 3)) (hkd : gK k = (0, ci, z)) (hk : k < Z.1) (hC : gC d' 0 0 y cy nLy (some ty) Z.1 Z.1 (.ref k :: []) M (gI P)) (hdd : d' + 1 ≤ d) (hc : Z.2.1 ≤ mc ∧ Z.2.2 ≤ ms) (hst : (st.map fun v => v.category).sum ≤ 8) (kk : ∀ (x : Int32) (M' : gM), P x M' → G Z (pc + 3) L (.int x :: st) M') : G Z pc L (.ref k :: st) M := r_callV hG [] hm hd hkd hk rfl hdd hc hst hC (fun r M9 h9 => by obtain ⟨x, rfl, h⟩ := h9; exact kk x M9 h)
theorem r_cVI1 {d mc ms : Nat} {own : String} {cc : ByteArray} {nL : Nat} {G : gJ} (hG : gS d mc ms own cc nL G) {Z : Nat × Nat × Nat} {pc : Nat} {L : List (Option Value)} {st : List Value} {M : gM} {index : Nat} {y : MethodName} {cy : ByteArray} {nLy : Nat} {ty : FieldType} {ci d' k z : Nat} {P : Int32 → gM → Prop} {a1 : Value} (hm : gVm own index y cy nLy (some ty) 1 ci) (hd : decode cc pc = .ok (.invokevirtual index, 3)) (hkd : gK k = (0, ci, z)) (hk : k < Z.1) (hC : gC d' 0 0 y cy nLy (some ty) Z.1 Z.1 (.ref k :: [a1]) M (gI P)) (hdd : d' + 1 ≤ d) (hc : Z.2.1 ≤ mc ∧ Z.2.2 ≤ ms) (hst : (st.map fun v => v.category).sum ≤ 8) (kk : ∀ (x : Int32) (M' : gM), P x M' → G Z (pc + 3) L (.int x :: st) M') : G Z pc L (a1 :: .ref k :: st) M := r_callV hG [a1] hm hd hkd hk rfl hdd hc hst hC (fun r M9 h9 => by obtain ⟨x, rfl, h⟩ := h9; exact kk x M9 h)
theorem r_cVI2 {d mc ms : Nat} {own : String} {cc : ByteArray} {nL : Nat} {G : gJ} (hG : gS d mc ms own cc nL G) {Z : Nat × Nat × Nat} {pc : Nat} {L : List (Option Value)} {st : List Value} {M : gM} {index : Nat} {y : MethodName} {cy : ByteArray} {nLy : Nat} {ty : FieldType} {ci d' k z : Nat} {P : Int32 → gM → Prop} {a1 a2 : Value} (hm : gVm own index y cy nLy (some ty) 2 ci) (hd : decode cc pc = .ok (.invokevirtual index, 3)) (hkd : gK k = (0, ci, z)) (hk : k < Z.1) (hC : gC d' 0 0 y cy nLy (some ty) Z.1 Z.1 (.ref k :: [a1, a2]) M (gI P)) (hdd : d' + 1 ≤ d) (hc : Z.2.1 ≤ mc ∧ Z.2.2 ≤ ms) (hst : (st.map fun v => v.category).sum ≤ 8) (kk : ∀ (x : Int32) (M' : gM), P x M' → G Z (pc + 3) L (.int x :: st) M') : G Z pc L (a2 :: a1 :: .ref k :: st) M := r_callV hG [a1, a2] hm hd hkd hk rfl hdd hc hst hC (fun r M9 h9 => by obtain ⟨x, rfl, h⟩ := h9; exact kk x M9 h)
theorem r_cVI3 {d mc ms : Nat} {own : String} {cc : ByteArray} {nL : Nat} {G : gJ} (hG : gS d mc ms own cc nL G) {Z : Nat × Nat × Nat} {pc : Nat} {L : List (Option Value)} {st : List Value} {M : gM} {index : Nat} {y : MethodName} {cy : ByteArray} {nLy : Nat} {ty : FieldType} {ci d' k z : Nat} {P : Int32 → gM → Prop} {a1 a2 a3 : Value} (hm : gVm own index y cy nLy (some ty) 3 ci) (hd : decode cc pc = .ok (.invokevirtual index, 3)) (hkd : gK k = (0, ci, z)) (hk : k < Z.1) (hC : gC d' 0 0 y cy nLy (some ty) Z.1 Z.1 (.ref k :: [a1, a2, a3]) M (gI P)) (hdd : d' + 1 ≤ d) (hc : Z.2.1 ≤ mc ∧ Z.2.2 ≤ ms) (hst : (st.map fun v => v.category).sum ≤ 8) (kk : ∀ (x : Int32) (M' : gM), P x M' → G Z (pc + 3) L (.int x :: st) M') : G Z pc L (a3 :: a2 :: a1 :: .ref k :: st) M := r_callV hG [a1, a2, a3] hm hd hkd hk rfl hdd hc hst hC (fun r M9 h9 => by obtain ⟨x, rfl, h⟩ := h9; exact kk x M9 h)
theorem r_cVI4 {d mc ms : Nat} {own : String} {cc : ByteArray} {nL : Nat} {G : gJ} (hG : gS d mc ms own cc nL G) {Z : Nat × Nat × Nat} {pc : Nat} {L : List (Option Value)} {st : List Value} {M : gM} {index : Nat} {y : MethodName} {cy : ByteArray} {nLy : Nat} {ty : FieldType} {ci d' k z : Nat} {P : Int32 → gM → Prop} {a1 a2 a3 a4 : Value} (hm : gVm own index y cy nLy (some ty) 4 ci) (hd : decode cc pc = .ok (.invokevirtual index, 3)) (hkd : gK k = (0, ci, z)) (hk : k < Z.1) (hC : gC d' 0 0 y cy nLy (some ty) Z.1 Z.1 (.ref k :: [a1, a2, a3, a4]) M (gI P)) (hdd : d' + 1 ≤ d) (hc : Z.2.1 ≤ mc ∧ Z.2.2 ≤ ms) (hst : (st.map fun v => v.category).sum ≤ 8) (kk : ∀ (x : Int32) (M' : gM), P x M' → G Z (pc + 3) L (.int x :: st) M') : G Z pc L (a4 :: a3 :: a2 :: a1 :: .ref k :: st) M := r_callV hG [a1, a2, a3, a4] hm hd hkd hk rfl hdd hc hst hC (fun r M9 h9 => by obtain ⟨x, rfl, h⟩ := h9; exact kk x M9 h)
theorem r_cVV0 {d mc ms : Nat} {own : String} {cc : ByteArray} {nL : Nat} {G : gJ} (hG : gS d mc ms own cc nL G) {Z : Nat × Nat × Nat} {pc : Nat} {L : List (Option Value)} {st : List Value} {M : gM} {index : Nat} {y : MethodName} {cy : ByteArray} {nLy : Nat}  {ci d' k z : Nat} {P : gM → Prop}  (hm : gVm own index y cy nLy (none) 0 ci) (hd : decode cc pc = .ok (.invokevirtual index, 3)) (hkd : gK k = (0, ci, z)) (hk : k < Z.1) (hC : gC d' 0 0 y cy nLy (none) Z.1 Z.1 (.ref k :: []) M (gV P)) (hdd : d' + 1 ≤ d) (hc : Z.2.1 ≤ mc ∧ Z.2.2 ≤ ms) (hst : (st.map fun v => v.category).sum ≤ 8) (kk : ∀ (M' : gM), P M' → G Z (pc + 3) L st M') : G Z pc L (.ref k :: st) M := r_callV hG [] hm hd hkd hk rfl hdd hc hst hC (fun r M9 h9 => by obtain ⟨rfl, h⟩ := h9; exact kk M9 h)
theorem r_cVV1 {d mc ms : Nat} {own : String} {cc : ByteArray} {nL : Nat} {G : gJ} (hG : gS d mc ms own cc nL G) {Z : Nat × Nat × Nat} {pc : Nat} {L : List (Option Value)} {st : List Value} {M : gM} {index : Nat} {y : MethodName} {cy : ByteArray} {nLy : Nat}  {ci d' k z : Nat} {P : gM → Prop} {a1 : Value} (hm : gVm own index y cy nLy (none) 1 ci) (hd : decode cc pc = .ok (.invokevirtual index, 3)) (hkd : gK k = (0, ci, z)) (hk : k < Z.1) (hC : gC d' 0 0 y cy nLy (none) Z.1 Z.1 (.ref k :: [a1]) M (gV P)) (hdd : d' + 1 ≤ d) (hc : Z.2.1 ≤ mc ∧ Z.2.2 ≤ ms) (hst : (st.map fun v => v.category).sum ≤ 8) (kk : ∀ (M' : gM), P M' → G Z (pc + 3) L st M') : G Z pc L (a1 :: .ref k :: st) M := r_callV hG [a1] hm hd hkd hk rfl hdd hc hst hC (fun r M9 h9 => by obtain ⟨rfl, h⟩ := h9; exact kk M9 h)
theorem r_cVV2 {d mc ms : Nat} {own : String} {cc : ByteArray} {nL : Nat} {G : gJ} (hG : gS d mc ms own cc nL G) {Z : Nat × Nat × Nat} {pc : Nat} {L : List (Option Value)} {st : List Value} {M : gM} {index : Nat} {y : MethodName} {cy : ByteArray} {nLy : Nat}  {ci d' k z : Nat} {P : gM → Prop} {a1 a2 : Value} (hm : gVm own index y cy nLy (none) 2 ci) (hd : decode cc pc = .ok (.invokevirtual index, 3)) (hkd : gK k = (0, ci, z)) (hk : k < Z.1) (hC : gC d' 0 0 y cy nLy (none) Z.1 Z.1 (.ref k :: [a1, a2]) M (gV P)) (hdd : d' + 1 ≤ d) (hc : Z.2.1 ≤ mc ∧ Z.2.2 ≤ ms) (hst : (st.map fun v => v.category).sum ≤ 8) (kk : ∀ (M' : gM), P M' → G Z (pc + 3) L st M') : G Z pc L (a2 :: a1 :: .ref k :: st) M := r_callV hG [a1, a2] hm hd hkd hk rfl hdd hc hst hC (fun r M9 h9 => by obtain ⟨rfl, h⟩ := h9; exact kk M9 h)
theorem r_cVV3 {d mc ms : Nat} {own : String} {cc : ByteArray} {nL : Nat} {G : gJ} (hG : gS d mc ms own cc nL G) {Z : Nat × Nat × Nat} {pc : Nat} {L : List (Option Value)} {st : List Value} {M : gM} {index : Nat} {y : MethodName} {cy : ByteArray} {nLy : Nat}  {ci d' k z : Nat} {P : gM → Prop} {a1 a2 a3 : Value} (hm : gVm own index y cy nLy (none) 3 ci) (hd : decode cc pc = .ok (.invokevirtual index, 3)) (hkd : gK k = (0, ci, z)) (hk : k < Z.1) (hC : gC d' 0 0 y cy nLy (none) Z.1 Z.1 (.ref k :: [a1, a2, a3]) M (gV P)) (hdd : d' + 1 ≤ d) (hc : Z.2.1 ≤ mc ∧ Z.2.2 ≤ ms) (hst : (st.map fun v => v.category).sum ≤ 8) (kk : ∀ (M' : gM), P M' → G Z (pc + 3) L st M') : G Z pc L (a3 :: a2 :: a1 :: .ref k :: st) M := r_callV hG [a1, a2, a3] hm hd hkd hk rfl hdd hc hst hC (fun r M9 h9 => by obtain ⟨rfl, h⟩ := h9; exact kk M9 h)
theorem r_cVV4 {d mc ms : Nat} {own : String} {cc : ByteArray} {nL : Nat} {G : gJ} (hG : gS d mc ms own cc nL G) {Z : Nat × Nat × Nat} {pc : Nat} {L : List (Option Value)} {st : List Value} {M : gM} {index : Nat} {y : MethodName} {cy : ByteArray} {nLy : Nat}  {ci d' k z : Nat} {P : gM → Prop} {a1 a2 a3 a4 : Value} (hm : gVm own index y cy nLy (none) 4 ci) (hd : decode cc pc = .ok (.invokevirtual index, 3)) (hkd : gK k = (0, ci, z)) (hk : k < Z.1) (hC : gC d' 0 0 y cy nLy (none) Z.1 Z.1 (.ref k :: [a1, a2, a3, a4]) M (gV P)) (hdd : d' + 1 ≤ d) (hc : Z.2.1 ≤ mc ∧ Z.2.2 ≤ ms) (hst : (st.map fun v => v.category).sum ≤ 8) (kk : ∀ (M' : gM), P M' → G Z (pc + 3) L st M') : G Z pc L (a4 :: a3 :: a2 :: a1 :: .ref k :: st) M := r_callV hG [a1, a2, a3, a4] hm hd hkd hk rfl hdd hc hst hC (fun r M9 h9 => by obtain ⟨rfl, h⟩ := h9; exact kk M9 h)
theorem r_cSI0 {d mc ms : Nat} {own : String} {cc : ByteArray} {nL : Nat} {G : gJ} (hG : gS d mc ms own cc nL G) {Z : Nat × Nat × Nat} {pc : Nat} {L : List (Option Value)} {st : List Value} {M : gM} {index : Nat} {y : MethodName} {cy : ByteArray} {nLy : Nat} {ty : FieldType} {d' : Nat} {P : Int32 → gM → Prop}  (hm : gSm own index y cy nLy (some ty) 0) (hd : decode cc pc = .ok (.invokestatic index, 3)) (hC : gC d' 0 0 y cy nLy (some ty) Z.1 Z.1 [] M (gI P)) (hdd : d' + 1 ≤ d) (hc : Z.2.1 ≤ mc ∧ Z.2.2 ≤ ms) (hst : (st.map fun v => v.category).sum ≤ 8) (kk : ∀ (x : Int32) (M' : gM), P x M' → G Z (pc + 3) L (.int x :: st) M') : G Z pc L (st) M := r_callS hG [] hm hd rfl hdd hc hst hC (fun r M9 h9 => by obtain ⟨x, rfl, h⟩ := h9; exact kk x M9 h)
theorem r_cSI1 {d mc ms : Nat} {own : String} {cc : ByteArray} {nL : Nat} {G : gJ} (hG : gS d mc ms own cc nL G) {Z : Nat × Nat × Nat} {pc : Nat} {L : List (Option Value)} {st : List Value} {M : gM} {index : Nat} {y : MethodName} {cy : ByteArray} {nLy : Nat} {ty : FieldType} {d' : Nat} {P : Int32 → gM → Prop} {a1 : Value} (hm : gSm own index y cy nLy (some ty) 1) (hd : decode cc pc = .ok (.invokestatic index, 3)) (hC : gC d' 0 0 y cy nLy (some ty) Z.1 Z.1 [a1] M (gI P)) (hdd : d' + 1 ≤ d) (hc : Z.2.1 ≤ mc ∧ Z.2.2 ≤ ms) (hst : (st.map fun v => v.category).sum ≤ 8) (kk : ∀ (x : Int32) (M' : gM), P x M' → G Z (pc + 3) L (.int x :: st) M') : G Z pc L (a1 :: st) M := r_callS hG [a1] hm hd rfl hdd hc hst hC (fun r M9 h9 => by obtain ⟨x, rfl, h⟩ := h9; exact kk x M9 h)
theorem r_cSI2 {d mc ms : Nat} {own : String} {cc : ByteArray} {nL : Nat} {G : gJ} (hG : gS d mc ms own cc nL G) {Z : Nat × Nat × Nat} {pc : Nat} {L : List (Option Value)} {st : List Value} {M : gM} {index : Nat} {y : MethodName} {cy : ByteArray} {nLy : Nat} {ty : FieldType} {d' : Nat} {P : Int32 → gM → Prop} {a1 a2 : Value} (hm : gSm own index y cy nLy (some ty) 2) (hd : decode cc pc = .ok (.invokestatic index, 3)) (hC : gC d' 0 0 y cy nLy (some ty) Z.1 Z.1 [a1, a2] M (gI P)) (hdd : d' + 1 ≤ d) (hc : Z.2.1 ≤ mc ∧ Z.2.2 ≤ ms) (hst : (st.map fun v => v.category).sum ≤ 8) (kk : ∀ (x : Int32) (M' : gM), P x M' → G Z (pc + 3) L (.int x :: st) M') : G Z pc L (a2 :: a1 :: st) M := r_callS hG [a1, a2] hm hd rfl hdd hc hst hC (fun r M9 h9 => by obtain ⟨x, rfl, h⟩ := h9; exact kk x M9 h)
theorem r_cSI3 {d mc ms : Nat} {own : String} {cc : ByteArray} {nL : Nat} {G : gJ} (hG : gS d mc ms own cc nL G) {Z : Nat × Nat × Nat} {pc : Nat} {L : List (Option Value)} {st : List Value} {M : gM} {index : Nat} {y : MethodName} {cy : ByteArray} {nLy : Nat} {ty : FieldType} {d' : Nat} {P : Int32 → gM → Prop} {a1 a2 a3 : Value} (hm : gSm own index y cy nLy (some ty) 3) (hd : decode cc pc = .ok (.invokestatic index, 3)) (hC : gC d' 0 0 y cy nLy (some ty) Z.1 Z.1 [a1, a2, a3] M (gI P)) (hdd : d' + 1 ≤ d) (hc : Z.2.1 ≤ mc ∧ Z.2.2 ≤ ms) (hst : (st.map fun v => v.category).sum ≤ 8) (kk : ∀ (x : Int32) (M' : gM), P x M' → G Z (pc + 3) L (.int x :: st) M') : G Z pc L (a3 :: a2 :: a1 :: st) M := r_callS hG [a1, a2, a3] hm hd rfl hdd hc hst hC (fun r M9 h9 => by obtain ⟨x, rfl, h⟩ := h9; exact kk x M9 h)
theorem r_cSI4 {d mc ms : Nat} {own : String} {cc : ByteArray} {nL : Nat} {G : gJ} (hG : gS d mc ms own cc nL G) {Z : Nat × Nat × Nat} {pc : Nat} {L : List (Option Value)} {st : List Value} {M : gM} {index : Nat} {y : MethodName} {cy : ByteArray} {nLy : Nat} {ty : FieldType} {d' : Nat} {P : Int32 → gM → Prop} {a1 a2 a3 a4 : Value} (hm : gSm own index y cy nLy (some ty) 4) (hd : decode cc pc = .ok (.invokestatic index, 3)) (hC : gC d' 0 0 y cy nLy (some ty) Z.1 Z.1 [a1, a2, a3, a4] M (gI P)) (hdd : d' + 1 ≤ d) (hc : Z.2.1 ≤ mc ∧ Z.2.2 ≤ ms) (hst : (st.map fun v => v.category).sum ≤ 8) (kk : ∀ (x : Int32) (M' : gM), P x M' → G Z (pc + 3) L (.int x :: st) M') : G Z pc L (a4 :: a3 :: a2 :: a1 :: st) M := r_callS hG [a1, a2, a3, a4] hm hd rfl hdd hc hst hC (fun r M9 h9 => by obtain ⟨x, rfl, h⟩ := h9; exact kk x M9 h)
theorem r_cSV0 {d mc ms : Nat} {own : String} {cc : ByteArray} {nL : Nat} {G : gJ} (hG : gS d mc ms own cc nL G) {Z : Nat × Nat × Nat} {pc : Nat} {L : List (Option Value)} {st : List Value} {M : gM} {index : Nat} {y : MethodName} {cy : ByteArray} {nLy : Nat}  {d' : Nat} {P : gM → Prop}  (hm : gSm own index y cy nLy (none) 0) (hd : decode cc pc = .ok (.invokestatic index, 3)) (hC : gC d' 0 0 y cy nLy (none) Z.1 Z.1 [] M (gV P)) (hdd : d' + 1 ≤ d) (hc : Z.2.1 ≤ mc ∧ Z.2.2 ≤ ms) (hst : (st.map fun v => v.category).sum ≤ 8) (kk : ∀ (M' : gM), P M' → G Z (pc + 3) L st M') : G Z pc L (st) M := r_callS hG [] hm hd rfl hdd hc hst hC (fun r M9 h9 => by obtain ⟨rfl, h⟩ := h9; exact kk M9 h)
theorem r_cSV1 {d mc ms : Nat} {own : String} {cc : ByteArray} {nL : Nat} {G : gJ} (hG : gS d mc ms own cc nL G) {Z : Nat × Nat × Nat} {pc : Nat} {L : List (Option Value)} {st : List Value} {M : gM} {index : Nat} {y : MethodName} {cy : ByteArray} {nLy : Nat}  {d' : Nat} {P : gM → Prop} {a1 : Value} (hm : gSm own index y cy nLy (none) 1) (hd : decode cc pc = .ok (.invokestatic index, 3)) (hC : gC d' 0 0 y cy nLy (none) Z.1 Z.1 [a1] M (gV P)) (hdd : d' + 1 ≤ d) (hc : Z.2.1 ≤ mc ∧ Z.2.2 ≤ ms) (hst : (st.map fun v => v.category).sum ≤ 8) (kk : ∀ (M' : gM), P M' → G Z (pc + 3) L st M') : G Z pc L (a1 :: st) M := r_callS hG [a1] hm hd rfl hdd hc hst hC (fun r M9 h9 => by obtain ⟨rfl, h⟩ := h9; exact kk M9 h)
theorem r_cSV2 {d mc ms : Nat} {own : String} {cc : ByteArray} {nL : Nat} {G : gJ} (hG : gS d mc ms own cc nL G) {Z : Nat × Nat × Nat} {pc : Nat} {L : List (Option Value)} {st : List Value} {M : gM} {index : Nat} {y : MethodName} {cy : ByteArray} {nLy : Nat}  {d' : Nat} {P : gM → Prop} {a1 a2 : Value} (hm : gSm own index y cy nLy (none) 2) (hd : decode cc pc = .ok (.invokestatic index, 3)) (hC : gC d' 0 0 y cy nLy (none) Z.1 Z.1 [a1, a2] M (gV P)) (hdd : d' + 1 ≤ d) (hc : Z.2.1 ≤ mc ∧ Z.2.2 ≤ ms) (hst : (st.map fun v => v.category).sum ≤ 8) (kk : ∀ (M' : gM), P M' → G Z (pc + 3) L st M') : G Z pc L (a2 :: a1 :: st) M := r_callS hG [a1, a2] hm hd rfl hdd hc hst hC (fun r M9 h9 => by obtain ⟨rfl, h⟩ := h9; exact kk M9 h)
theorem r_cSV3 {d mc ms : Nat} {own : String} {cc : ByteArray} {nL : Nat} {G : gJ} (hG : gS d mc ms own cc nL G) {Z : Nat × Nat × Nat} {pc : Nat} {L : List (Option Value)} {st : List Value} {M : gM} {index : Nat} {y : MethodName} {cy : ByteArray} {nLy : Nat}  {d' : Nat} {P : gM → Prop} {a1 a2 a3 : Value} (hm : gSm own index y cy nLy (none) 3) (hd : decode cc pc = .ok (.invokestatic index, 3)) (hC : gC d' 0 0 y cy nLy (none) Z.1 Z.1 [a1, a2, a3] M (gV P)) (hdd : d' + 1 ≤ d) (hc : Z.2.1 ≤ mc ∧ Z.2.2 ≤ ms) (hst : (st.map fun v => v.category).sum ≤ 8) (kk : ∀ (M' : gM), P M' → G Z (pc + 3) L st M') : G Z pc L (a3 :: a2 :: a1 :: st) M := r_callS hG [a1, a2, a3] hm hd rfl hdd hc hst hC (fun r M9 h9 => by obtain ⟨rfl, h⟩ := h9; exact kk M9 h)
theorem r_cSV4 {d mc ms : Nat} {own : String} {cc : ByteArray} {nL : Nat} {G : gJ} (hG : gS d mc ms own cc nL G) {Z : Nat × Nat × Nat} {pc : Nat} {L : List (Option Value)} {st : List Value} {M : gM} {index : Nat} {y : MethodName} {cy : ByteArray} {nLy : Nat}  {d' : Nat} {P : gM → Prop} {a1 a2 a3 a4 : Value} (hm : gSm own index y cy nLy (none) 4) (hd : decode cc pc = .ok (.invokestatic index, 3)) (hC : gC d' 0 0 y cy nLy (none) Z.1 Z.1 [a1, a2, a3, a4] M (gV P)) (hdd : d' + 1 ≤ d) (hc : Z.2.1 ≤ mc ∧ Z.2.2 ≤ ms) (hst : (st.map fun v => v.category).sum ≤ 8) (kk : ∀ (M' : gM), P M' → G Z (pc + 3) L st M') : G Z pc L (a4 :: a3 :: a2 :: a1 :: st) M := r_callS hG [a1, a2, a3, a4] hm hd rfl hdd hc hst hC (fun r M9 h9 => by obtain ⟨rfl, h⟩ := h9; exact kk M9 h)
end
section
theorem gT_at {w : Cond} (i : Nat) (h : tables_1[i]? = some w) (hg : goodWord w = true) : w ∈ gT := gT_in (List.mem_append_right _ (List.mem_of_getElem? h)) hg
theorem gT_pr {w : Cond} (i : Nat) (h : (k2_sels lw_privs)[i]? = some w) (hg : goodWord w = true) : w ∈ gT := gT_in (List.mem_append_left _ (List.mem_of_getElem? h)) hg
theorem gu0 : ∀ w ∈ u_ws RX0 TX0 (gfn 0), w ∈ gT := fun w h => gT_in (inX0 w h) (List.all_eq_true.mp (by decide +kernel : (u_ws RX0 TX0 (gfn 0)).all goodWord = true) w h)
theorem gu1 : ∀ w ∈ u_ws RX1 TX1 (gfn 1), w ∈ gT := fun w h => gT_in (inX1 w h) (List.all_eq_true.mp (by decide +kernel : (u_ws RX1 TX1 (gfn 1)).all goodWord = true) w h)
theorem gu2 : ∀ w ∈ u_ws RX2 TX2 (gfn 2), w ∈ gT := fun w h => gT_in (inX2 w h) (List.all_eq_true.mp (by decide +kernel : (u_ws RX2 TX2 (gfn 2)).all goodWord = true) w h)
theorem gu3 : ∀ w ∈ u_ws RX3 TX3 (gfn 3), w ∈ gT := fun w h => gT_in (inX3 w h) (List.all_eq_true.mp (by decide +kernel : (u_ws RX3 TX3 (gfn 3)).all goodWord = true) w h)
theorem gu4 : ∀ w ∈ u_ws RX4 TX4 (gfn 4), w ∈ gT := fun w h => gT_in (inX4 w h) (List.all_eq_true.mp (by decide +kernel : (u_ws RX4 TX4 (gfn 4)).all goodWord = true) w h)
theorem gu5 : ∀ w ∈ u_ws RX5 TX5 (gfn 5), w ∈ gT := fun w h => gT_in (inX5 w h) (List.all_eq_true.mp (by decide +kernel : (u_ws RX5 TX5 (gfn 5)).all goodWord = true) w h)
theorem gu6 : ∀ w ∈ u_ws RX6 TX6 (gfn 6), w ∈ gT := fun w h => gT_in (inX6 w h) (List.all_eq_true.mp (by decide +kernel : (u_ws RX6 TX6 (gfn 6)).all goodWord = true) w h)
theorem gu7 : ∀ w ∈ u_ws RX7 TX7 (gfn 7), w ∈ gT := fun w h => gT_in (inX7 w h) (List.all_eq_true.mp (by decide +kernel : (u_ws RX7 TX7 (gfn 7)).all goodWord = true) w h)
theorem gu8 : ∀ w ∈ u_ws RX8 TX8 (gfn 8), w ∈ gT := fun w h => gT_in (inX8 w h) (List.all_eq_true.mp (by decide +kernel : (u_ws RX8 TX8 (gfn 8)).all goodWord = true) w h)
theorem gu9 : ∀ w ∈ u_ws RX9 TX9 (gfn 9), w ∈ gT := fun w h => gT_in (inX9 w h) (List.all_eq_true.mp (by decide +kernel : (u_ws RX9 TX9 (gfn 9)).all goodWord = true) w h)
theorem fk_X1_9 : gFk RX1 9 1 0 := ⟨RX1, TX1, rfl, by decide, gu1, gT_at 76 (by decide +kernel) rfl⟩
theorem fk_X1_15 : gFk RX1 15 1 1 := ⟨RX1, TX1, rfl, by decide, gu1, gT_at 77 (by decide +kernel) rfl⟩
theorem fk_X1_18 : gFk RX1 18 1 2 := ⟨RX1, TX1, rfl, by decide, gu1, gT_at 78 (by decide +kernel) rfl⟩
theorem fk_X1_21 : gFk RX1 21 1 3 := ⟨RX1, TX1, rfl, by decide, gu1, gT_at 79 (by decide +kernel) rfl⟩
theorem fk_X1_24 : gFk RX1 24 1 4 := ⟨RX1, TX1, rfl, by decide, gu1, gT_at 80 (by decide +kernel) rfl⟩
theorem fk_X1_27 : gFk RX1 27 1 5 := ⟨RX1, TX1, rfl, by decide, gu1, gT_at 81 (by decide +kernel) rfl⟩
theorem fk_X1_31 : gFk RX1 31 1 6 := ⟨RX1, TX1, rfl, by decide, gu1, gT_at 84 (by decide +kernel) rfl⟩
theorem fk_X1_38 : gFk RX1 38 1 7 := ⟨RX1, TX1, rfl, by decide, gu1, gT_at 85 (by decide +kernel) rfl⟩
theorem fk_X2_9 : gFk RX2 9 2 0 := ⟨RX2, TX2, rfl, by decide, gu2, gT_at 129 (by decide +kernel) rfl⟩
theorem fk_X2_15 : gFk RX2 15 2 1 := ⟨RX2, TX2, rfl, by decide, gu2, gT_at 131 (by decide +kernel) rfl⟩
theorem fk_X2_18 : gFk RX2 18 2 2 := ⟨RX2, TX2, rfl, by decide, gu2, gT_at 132 (by decide +kernel) rfl⟩
theorem fk_X2_21 : gFk RX2 21 2 3 := ⟨RX2, TX2, rfl, by decide, gu2, gT_at 133 (by decide +kernel) rfl⟩
theorem fk_X2_24 : gFk RX2 24 2 4 := ⟨RX2, TX2, rfl, by decide, gu2, gT_at 134 (by decide +kernel) rfl⟩
theorem fk_X2_27 : gFk RX2 27 2 5 := ⟨RX2, TX2, rfl, by decide, gu2, gT_at 136 (by decide +kernel) rfl⟩
theorem fk_X2_30 : gFk RX2 30 2 6 := ⟨RX2, TX2, rfl, by decide, gu2, gT_at 137 (by decide +kernel) rfl⟩
theorem fk_X2_35 : gFk RX2 35 2 7 := ⟨RX2, TX2, rfl, by decide, gu2, gT_at 138 (by decide +kernel) rfl⟩
theorem fk_X2_38 : gFk RX2 38 2 8 := ⟨RX2, TX2, rfl, by decide, gu2, gT_at 139 (by decide +kernel) rfl⟩
theorem fk_X2_41 : gFk RX2 41 2 9 := ⟨RX2, TX2, rfl, by decide, gu2, gT_at 140 (by decide +kernel) rfl⟩
theorem fk_X2_44 : gFk RX2 44 2 10 := ⟨RX2, TX2, rfl, by decide, gu2, gT_at 142 (by decide +kernel) rfl⟩
theorem fk_X2_47 : gFk RX2 47 2 11 := ⟨RX2, TX2, rfl, by decide, gu2, gT_at 143 (by decide +kernel) rfl⟩
theorem fk_X2_50 : gFk RX2 50 2 12 := ⟨RX2, TX2, rfl, by decide, gu2, gT_at 144 (by decide +kernel) rfl⟩
theorem fk_X2_54 : gFk RX2 54 2 13 := ⟨RX2, TX2, rfl, by decide, gu2, gT_at 145 (by decide +kernel) rfl⟩
theorem fk_X2_57 : gFk RX2 57 2 14 := ⟨RX2, TX2, rfl, by decide, gu2, gT_at 147 (by decide +kernel) rfl⟩
theorem fk_X2_68 : gFk RX2 68 2 15 := ⟨RX2, TX2, rfl, by decide, gu2, gT_at 149 (by decide +kernel) rfl⟩
theorem fk_X2_71 : gFk RX2 71 2 16 := ⟨RX2, TX2, rfl, by decide, gu2, gT_at 151 (by decide +kernel) rfl⟩
theorem fk_X3_12 : gFk RX3 12 3 0 := ⟨RX3, TX3, rfl, by decide, gu3, gT_at 103 (by decide +kernel) rfl⟩
theorem fk_X3_21 : gFk RX3 21 3 1 := ⟨RX3, TX3, rfl, by decide, gu3, gT_at 105 (by decide +kernel) rfl⟩
theorem fk_X3_25 : gFk RX3 25 3 2 := ⟨RX3, TX3, rfl, by decide, gu3, gT_at 107 (by decide +kernel) rfl⟩
theorem fk_X3_34 : gFk RX3 34 3 3 := ⟨RX3, TX3, rfl, by decide, gu3, gT_at 108 (by decide +kernel) rfl⟩
theorem fk_X3_38 : gFk RX3 38 3 4 := ⟨RX3, TX3, rfl, by decide, gu3, gT_at 109 (by decide +kernel) rfl⟩
theorem fk_X3_49 : gFk RX3 49 6 4 := ⟨RX6, TX6, rfl, by decide, gu6, gT_at 55 (by decide +kernel) rfl⟩
theorem fk_X3_52 : gFk RX3 52 6 1 := ⟨RX6, TX6, rfl, by decide, gu6, gT_at 50 (by decide +kernel) rfl⟩
theorem fk_X3_60 : gFk RX3 60 1 5 := ⟨RX1, TX1, rfl, by decide, gu1, gT_at 82 (by decide +kernel) rfl⟩
theorem fk_X3_86 : gFk RX3 86 6 2 := ⟨RX6, TX6, rfl, by decide, gu6, gT_at 52 (by decide +kernel) rfl⟩
theorem fk_X4_9 : gFk RX4 9 4 4 := ⟨RX4, TX4, rfl, by decide, gu4, gT_at 249 (by decide +kernel) rfl⟩
theorem fk_X4_15 : gFk RX4 15 4 2 := ⟨RX4, TX4, rfl, by decide, gu4, gT_at 245 (by decide +kernel) rfl⟩
theorem fk_X4_19 : gFk RX4 19 4 0 := ⟨RX4, TX4, rfl, by decide, gu4, gT_at 241 (by decide +kernel) rfl⟩
theorem fk_X4_22 : gFk RX4 22 4 1 := ⟨RX4, TX4, rfl, by decide, gu4, gT_at 243 (by decide +kernel) rfl⟩
theorem fk_X4_31 : gFk RX4 31 4 3 := ⟨RX4, TX4, rfl, by decide, gu4, gT_at 247 (by decide +kernel) rfl⟩
theorem fk_X5_7 : gFk RX5 7 5 5 := ⟨RX5, TX5, rfl, by decide, gu5, gT_at 274 (by decide +kernel) rfl⟩
theorem fk_X5_13 : gFk RX5 13 5 3 := ⟨RX5, TX5, rfl, by decide, gu5, gT_at 270 (by decide +kernel) rfl⟩
theorem fk_X5_16 : gFk RX5 16 5 4 := ⟨RX5, TX5, rfl, by decide, gu5, gT_at 272 (by decide +kernel) rfl⟩
theorem fk_X6_9 : gFk RX6 9 6 0 := ⟨RX6, TX6, rfl, by decide, gu6, gT_at 48 (by decide +kernel) rfl⟩
theorem fk_X6_15 : gFk RX6 15 6 1 := ⟨RX6, TX6, rfl, by decide, gu6, gT_at 49 (by decide +kernel) rfl⟩
theorem fk_X6_19 : gFk RX6 19 6 2 := ⟨RX6, TX6, rfl, by decide, gu6, gT_at 51 (by decide +kernel) rfl⟩
theorem fk_X6_32 : gFk RX6 32 6 3 := ⟨RX6, TX6, rfl, by decide, gu6, gT_at 53 (by decide +kernel) rfl⟩
theorem fk_X6_36 : gFk RX6 36 6 4 := ⟨RX6, TX6, rfl, by decide, gu6, gT_at 56 (by decide +kernel) rfl⟩
theorem fk_X7_9 : gFk RX7 9 7 10 := ⟨RX7, TX7, rfl, by decide, gu7, gT_at 212 (by decide +kernel) rfl⟩
theorem fk_X7_15 : gFk RX7 15 7 2 := ⟨RX7, TX7, rfl, by decide, gu7, gT_at 197 (by decide +kernel) rfl⟩
theorem fk_X7_19 : gFk RX7 19 7 3 := ⟨RX7, TX7, rfl, by decide, gu7, gT_at 199 (by decide +kernel) rfl⟩
theorem fk_X7_28 : gFk RX7 28 7 6 := ⟨RX7, TX7, rfl, by decide, gu7, gT_at 205 (by decide +kernel) rfl⟩
theorem fk_X7_32 : gFk RX7 32 7 5 := ⟨RX7, TX7, rfl, by decide, gu7, gT_at 203 (by decide +kernel) rfl⟩
theorem fk_X7_35 : gFk RX7 35 7 7 := ⟨RX7, TX7, rfl, by decide, gu7, gT_at 207 (by decide +kernel) rfl⟩
theorem fk_X7_38 : gFk RX7 38 7 8 := ⟨RX7, TX7, rfl, by decide, gu7, gT_at 209 (by decide +kernel) rfl⟩
theorem fk_X7_41 : gFk RX7 41 7 0 := ⟨RX7, TX7, rfl, by decide, gu7, gT_at 194 (by decide +kernel) rfl⟩
theorem fk_X7_44 : gFk RX7 44 7 1 := ⟨RX7, TX7, rfl, by decide, gu7, gT_at 196 (by decide +kernel) rfl⟩
theorem fk_X7_47 : gFk RX7 47 7 4 := ⟨RX7, TX7, rfl, by decide, gu7, gT_at 201 (by decide +kernel) rfl⟩
theorem fk_X7_50 : gFk RX7 50 7 9 := ⟨RX7, TX7, rfl, by decide, gu7, gT_at 210 (by decide +kernel) rfl⟩
theorem fk_X8_11 : gFk RX8 11 8 0 := ⟨RX8, TX8, rfl, by decide, gu8, gT_at 316 (by decide +kernel) rfl⟩
theorem fk_X8_17 : gFk RX8 17 8 1 := ⟨RX8, TX8, rfl, by decide, gu8, gT_at 317 (by decide +kernel) rfl⟩
theorem fk_X8_23 : gFk RX8 23 8 2 := ⟨RX8, TX8, rfl, by decide, gu8, gT_at 318 (by decide +kernel) rfl⟩
theorem fk_X8_29 : gFk RX8 29 8 3 := ⟨RX8, TX8, rfl, by decide, gu8, gT_at 319 (by decide +kernel) rfl⟩
theorem fk_X8_33 : gFk RX8 33 8 4 := ⟨RX8, TX8, rfl, by decide, gu8, gT_at 320 (by decide +kernel) rfl⟩
theorem fk_X8_40 : gFk RX8 40 8 5 := ⟨RX8, TX8, rfl, by decide, gu8, gT_at 321 (by decide +kernel) rfl⟩
theorem fk_X8_47 : gFk RX8 47 8 6 := ⟨RX8, TX8, rfl, by decide, gu8, gT_at 322 (by decide +kernel) rfl⟩
theorem fk_X8_60 : gFk RX8 60 8 7 := ⟨RX8, TX8, rfl, by decide, gu8, gT_at 323 (by decide +kernel) rfl⟩
theorem fk_X8_64 : gFk RX8 64 7 0 := ⟨RX7, TX7, rfl, by decide, gu7, gT_at 193 (by decide +kernel) rfl⟩
theorem fk_X8_67 : gFk RX8 67 7 1 := ⟨RX7, TX7, rfl, by decide, gu7, gT_at 195 (by decide +kernel) rfl⟩
theorem fk_X8_70 : gFk RX8 70 7 2 := ⟨RX7, TX7, rfl, by decide, gu7, gT_at 198 (by decide +kernel) rfl⟩
theorem fk_X8_73 : gFk RX8 73 7 3 := ⟨RX7, TX7, rfl, by decide, gu7, gT_at 200 (by decide +kernel) rfl⟩
theorem fk_X8_77 : gFk RX8 77 8 8 := ⟨RX8, TX8, rfl, by decide, gu8, gT_at 324 (by decide +kernel) rfl⟩
theorem fk_X8_80 : gFk RX8 80 4 0 := ⟨RX4, TX4, rfl, by decide, gu4, gT_at 242 (by decide +kernel) rfl⟩
theorem fk_X8_83 : gFk RX8 83 4 1 := ⟨RX4, TX4, rfl, by decide, gu4, gT_at 244 (by decide +kernel) rfl⟩
theorem fk_X8_86 : gFk RX8 86 4 2 := ⟨RX4, TX4, rfl, by decide, gu4, gT_at 246 (by decide +kernel) rfl⟩
theorem fk_X8_87 : gFk RX8 87 4 3 := ⟨RX4, TX4, rfl, by decide, gu4, gT_at 248 (by decide +kernel) rfl⟩
theorem fk_X8_94 : gFk RX8 94 8 9 := ⟨RX8, TX8, rfl, by decide, gu8, gT_at 325 (by decide +kernel) rfl⟩
theorem fk_X8_97 : gFk RX8 97 5 0 := ⟨RX5, TX5, rfl, by decide, gu5, gT_at 267 (by decide +kernel) rfl⟩
theorem fk_X8_100 : gFk RX8 100 5 1 := ⟨RX5, TX5, rfl, by decide, gu5, gT_at 268 (by decide +kernel) rfl⟩
theorem fk_X8_103 : gFk RX8 103 5 2 := ⟨RX5, TX5, rfl, by decide, gu5, gT_at 269 (by decide +kernel) rfl⟩
theorem fk_X8_109 : gFk RX8 109 4 4 := ⟨RX4, TX4, rfl, by decide, gu4, gT_at 250 (by decide +kernel) rfl⟩
theorem fk_X8_112 : gFk RX8 112 3 0 := ⟨RX3, TX3, rfl, by decide, gu3, gT_at 104 (by decide +kernel) rfl⟩
theorem fk_X8_122 : gFk RX8 122 6 3 := ⟨RX6, TX6, rfl, by decide, gu6, gT_at 54 (by decide +kernel) rfl⟩
theorem fk_X8_136 : gFk RX8 136 2 13 := ⟨RX2, TX2, rfl, by decide, gu2, gT_at 146 (by decide +kernel) rfl⟩
theorem fk_X8_139 : gFk RX8 139 2 15 := ⟨RX2, TX2, rfl, by decide, gu2, gT_at 150 (by decide +kernel) rfl⟩
theorem fk_X8_142 : gFk RX8 142 2 16 := ⟨RX2, TX2, rfl, by decide, gu2, gT_at 152 (by decide +kernel) rfl⟩
theorem fk_X8_145 : gFk RX8 145 2 14 := ⟨RX2, TX2, rfl, by decide, gu2, gT_at 148 (by decide +kernel) rfl⟩
theorem fk_X8_148 : gFk RX8 148 2 4 := ⟨RX2, TX2, rfl, by decide, gu2, gT_at 135 (by decide +kernel) rfl⟩
theorem fk_X8_151 : gFk RX8 151 2 9 := ⟨RX2, TX2, rfl, by decide, gu2, gT_at 141 (by decide +kernel) rfl⟩
theorem fk_X8_154 : gFk RX8 154 8 12 := ⟨RX8, TX8, rfl, by decide, gu8, gT_at 328 (by decide +kernel) rfl⟩
theorem fk_X8_160 : gFk RX8 160 7 4 := ⟨RX7, TX7, rfl, by decide, gu7, gT_at 202 (by decide +kernel) rfl⟩
theorem fk_X8_169 : gFk RX8 169 8 10 := ⟨RX8, TX8, rfl, by decide, gu8, gT_at 326 (by decide +kernel) rfl⟩
theorem fk_X8_172 : gFk RX8 172 0 0 := ⟨RX0, TX0, rfl, by decide, gu0, gT_at 303 (by decide +kernel) rfl⟩
theorem fk_X8_175 : gFk RX8 175 0 1 := ⟨RX0, TX0, rfl, by decide, gu0, gT_at 304 (by decide +kernel) rfl⟩
theorem fk_X8_178 : gFk RX8 178 0 2 := ⟨RX0, TX0, rfl, by decide, gu0, gT_at 305 (by decide +kernel) rfl⟩
theorem fk_X8_191 : gFk RX8 191 0 3 := ⟨RX0, TX0, rfl, by decide, gu0, gT_at 306 (by decide +kernel) rfl⟩
theorem fk_X8_198 : gFk RX8 198 8 11 := ⟨RX8, TX8, rfl, by decide, gu8, gT_at 327 (by decide +kernel) rfl⟩
theorem fk_X8_201 : gFk RX8 201 5 6 := ⟨RX5, TX5, rfl, by decide, gu5, gT_at 276 (by decide +kernel) rfl⟩
theorem fk_X8_204 : gFk RX8 204 5 7 := ⟨RX5, TX5, rfl, by decide, gu5, gT_at 277 (by decide +kernel) rfl⟩
theorem fk_X8_207 : gFk RX8 207 5 8 := ⟨RX5, TX5, rfl, by decide, gu5, gT_at 278 (by decide +kernel) rfl⟩
theorem fk_X8_219 : gFk RX8 219 5 3 := ⟨RX5, TX5, rfl, by decide, gu5, gT_at 271 (by decide +kernel) rfl⟩
theorem fk_X8_222 : gFk RX8 222 5 4 := ⟨RX5, TX5, rfl, by decide, gu5, gT_at 273 (by decide +kernel) rfl⟩
theorem fk_X8_225 : gFk RX8 225 5 5 := ⟨RX5, TX5, rfl, by decide, gu5, gT_at 275 (by decide +kernel) rfl⟩
theorem fk_X8_228 : gFk RX8 228 8 13 := ⟨RX8, TX8, rfl, by decide, gu8, gT_at 329 (by decide +kernel) rfl⟩
theorem fk_X8_231 : gFk RX8 231 8 14 := ⟨RX8, TX8, rfl, by decide, gu8, gT_at 330 (by decide +kernel) rfl⟩
theorem fk_X8_234 : gFk RX8 234 3 1 := ⟨RX3, TX3, rfl, by decide, gu3, gT_at 106 (by decide +kernel) rfl⟩
theorem fk_X8_238 : gFk RX8 238 1 5 := ⟨RX1, TX1, rfl, by decide, gu1, gT_at 83 (by decide +kernel) rfl⟩
theorem fk_X8_243 : gFk RX8 243 7 7 := ⟨RX7, TX7, rfl, by decide, gu7, gT_at 208 (by decide +kernel) rfl⟩
theorem fk_X8_256 : gFk RX8 256 2 0 := ⟨RX2, TX2, rfl, by decide, gu2, gT_at 130 (by decide +kernel) rfl⟩
theorem fk_X8_292 : gFk RX8 292 7 9 := ⟨RX7, TX7, rfl, by decide, gu7, gT_at 211 (by decide +kernel) rfl⟩
theorem fk_X8_304 : gFk RX8 304 7 5 := ⟨RX7, TX7, rfl, by decide, gu7, gT_at 204 (by decide +kernel) rfl⟩
theorem fk_X8_307 : gFk RX8 307 7 6 := ⟨RX7, TX7, rfl, by decide, gu7, gT_at 206 (by decide +kernel) rfl⟩
theorem fk_X9_1 : gFk RX9 1 9 0 := ⟨RX9, TX9, rfl, by decide, gu9, gT_at 857 (by decide +kernel) rfl⟩
theorem fk_X9_11 : gFk RX9 11 9 2 := ⟨RX9, TX9, rfl, by decide, gu9, gT_at 859 (by decide +kernel) rfl⟩
theorem fk_X9_14 : gFk RX9 14 9 1 := ⟨RX9, TX9, rfl, by decide, gu9, gT_at 858 (by decide +kernel) rfl⟩
theorem fk_X9_24 : gFk RX9 24 9 4 := ⟨RX9, TX9, rfl, by decide, gu9, gT_at 861 (by decide +kernel) rfl⟩
theorem fk_X9_27 : gFk RX9 27 9 5 := ⟨RX9, TX9, rfl, by decide, gu9, gT_at 862 (by decide +kernel) rfl⟩
theorem fk_X9_30 : gFk RX9 30 9 6 := ⟨RX9, TX9, rfl, by decide, gu9, gT_at 863 (by decide +kernel) rfl⟩
theorem fk_X9_54 : gFk RX9 54 9 9 := ⟨RX9, TX9, rfl, by decide, gu9, gT_at 866 (by decide +kernel) rfl⟩
theorem fk_X9_57 : gFk RX9 57 9 10 := ⟨RX9, TX9, rfl, by decide, gu9, gT_at 867 (by decide +kernel) rfl⟩
theorem fk_X9_60 : gFk RX9 60 9 11 := ⟨RX9, TX9, rfl, by decide, gu9, gT_at 868 (by decide +kernel) rfl⟩
theorem fk_X9_64 : gFk RX9 64 9 12 := ⟨RX9, TX9, rfl, by decide, gu9, gT_at 869 (by decide +kernel) rfl⟩
theorem fk_X9_67 : gFk RX9 67 9 13 := ⟨RX9, TX9, rfl, by decide, gu9, gT_at 870 (by decide +kernel) rfl⟩
theorem fk_X9_70 : gFk RX9 70 9 14 := ⟨RX9, TX9, rfl, by decide, gu9, gT_at 871 (by decide +kernel) rfl⟩
theorem fk_X9_73 : gFk RX9 73 9 15 := ⟨RX9, TX9, rfl, by decide, gu9, gT_at 872 (by decide +kernel) rfl⟩
theorem fk_X9_76 : gFk RX9 76 9 20 := ⟨RX9, TX9, rfl, by decide, gu9, gT_at 877 (by decide +kernel) rfl⟩
theorem fk_X9_79 : gFk RX9 79 9 21 := ⟨RX9, TX9, rfl, by decide, gu9, gT_at 878 (by decide +kernel) rfl⟩
theorem fk_X9_82 : gFk RX9 82 9 22 := ⟨RX9, TX9, rfl, by decide, gu9, gT_at 879 (by decide +kernel) rfl⟩
theorem fk_X9_85 : gFk RX9 85 9 23 := ⟨RX9, TX9, rfl, by decide, gu9, gT_at 880 (by decide +kernel) rfl⟩
theorem fk_X9_88 : gFk RX9 88 9 24 := ⟨RX9, TX9, rfl, by decide, gu9, gT_at 881 (by decide +kernel) rfl⟩
theorem fk_X9_91 : gFk RX9 91 9 27 := ⟨RX9, TX9, rfl, by decide, gu9, gT_at 884 (by decide +kernel) rfl⟩
theorem fk_X9_94 : gFk RX9 94 9 28 := ⟨RX9, TX9, rfl, by decide, gu9, gT_at 885 (by decide +kernel) rfl⟩
theorem fk_X9_97 : gFk RX9 97 9 29 := ⟨RX9, TX9, rfl, by decide, gu9, gT_at 886 (by decide +kernel) rfl⟩
theorem fk_X9_100 : gFk RX9 100 9 30 := ⟨RX9, TX9, rfl, by decide, gu9, gT_at 887 (by decide +kernel) rfl⟩
theorem fk_X9_103 : gFk RX9 103 9 31 := ⟨RX9, TX9, rfl, by decide, gu9, gT_at 888 (by decide +kernel) rfl⟩
theorem fk_X9_106 : gFk RX9 106 9 32 := ⟨RX9, TX9, rfl, by decide, gu9, gT_at 889 (by decide +kernel) rfl⟩
theorem fk_X9_109 : gFk RX9 109 9 33 := ⟨RX9, TX9, rfl, by decide, gu9, gT_at 890 (by decide +kernel) rfl⟩
theorem fk_X9_112 : gFk RX9 112 9 34 := ⟨RX9, TX9, rfl, by decide, gu9, gT_at 891 (by decide +kernel) rfl⟩
theorem fk_X9_115 : gFk RX9 115 9 35 := ⟨RX9, TX9, rfl, by decide, gu9, gT_at 892 (by decide +kernel) rfl⟩
theorem fk_X9_118 : gFk RX9 118 9 36 := ⟨RX9, TX9, rfl, by decide, gu9, gT_at 893 (by decide +kernel) rfl⟩
theorem fk_X9_121 : gFk RX9 121 9 39 := ⟨RX9, TX9, rfl, by decide, gu9, gT_at 896 (by decide +kernel) rfl⟩
theorem fk_X9_124 : gFk RX9 124 9 40 := ⟨RX9, TX9, rfl, by decide, gu9, gT_at 897 (by decide +kernel) rfl⟩
theorem fk_X9_127 : gFk RX9 127 9 41 := ⟨RX9, TX9, rfl, by decide, gu9, gT_at 898 (by decide +kernel) rfl⟩
theorem fk_X9_130 : gFk RX9 130 9 42 := ⟨RX9, TX9, rfl, by decide, gu9, gT_at 899 (by decide +kernel) rfl⟩
theorem fk_X9_133 : gFk RX9 133 9 44 := ⟨RX9, TX9, rfl, by decide, gu9, gT_at 901 (by decide +kernel) rfl⟩
theorem fk_X9_136 : gFk RX9 136 9 45 := ⟨RX9, TX9, rfl, by decide, gu9, gT_at 902 (by decide +kernel) rfl⟩
theorem fk_X9_139 : gFk RX9 139 9 46 := ⟨RX9, TX9, rfl, by decide, gu9, gT_at 903 (by decide +kernel) rfl⟩
theorem fk_X9_142 : gFk RX9 142 9 47 := ⟨RX9, TX9, rfl, by decide, gu9, gT_at 904 (by decide +kernel) rfl⟩
theorem fk_X9_145 : gFk RX9 145 9 48 := ⟨RX9, TX9, rfl, by decide, gu9, gT_at 905 (by decide +kernel) rfl⟩
theorem fk_X9_148 : gFk RX9 148 9 49 := ⟨RX9, TX9, rfl, by decide, gu9, gT_at 906 (by decide +kernel) rfl⟩
theorem fk_X9_151 : gFk RX9 151 9 50 := ⟨RX9, TX9, rfl, by decide, gu9, gT_at 907 (by decide +kernel) rfl⟩
theorem fk_X9_154 : gFk RX9 154 9 53 := ⟨RX9, TX9, rfl, by decide, gu9, gT_at 910 (by decide +kernel) rfl⟩
theorem fk_X9_157 : gFk RX9 157 9 54 := ⟨RX9, TX9, rfl, by decide, gu9, gT_at 911 (by decide +kernel) rfl⟩
theorem fk_X9_160 : gFk RX9 160 9 55 := ⟨RX9, TX9, rfl, by decide, gu9, gT_at 912 (by decide +kernel) rfl⟩
theorem fk_X9_163 : gFk RX9 163 9 56 := ⟨RX9, TX9, rfl, by decide, gu9, gT_at 913 (by decide +kernel) rfl⟩
theorem fk_X9_166 : gFk RX9 166 9 59 := ⟨RX9, TX9, rfl, by decide, gu9, gT_at 916 (by decide +kernel) rfl⟩
theorem fk_X9_169 : gFk RX9 169 9 60 := ⟨RX9, TX9, rfl, by decide, gu9, gT_at 917 (by decide +kernel) rfl⟩
theorem fk_X9_172 : gFk RX9 172 9 63 := ⟨RX9, TX9, rfl, by decide, gu9, gT_at 920 (by decide +kernel) rfl⟩
theorem fk_X9_175 : gFk RX9 175 9 64 := ⟨RX9, TX9, rfl, by decide, gu9, gT_at 921 (by decide +kernel) rfl⟩
theorem fk_X9_178 : gFk RX9 178 9 65 := ⟨RX9, TX9, rfl, by decide, gu9, gT_at 922 (by decide +kernel) rfl⟩
theorem fk_X9_181 : gFk RX9 181 9 66 := ⟨RX9, TX9, rfl, by decide, gu9, gT_at 923 (by decide +kernel) rfl⟩
theorem fk_X9_184 : gFk RX9 184 9 68 := ⟨RX9, TX9, rfl, by decide, gu9, gT_at 925 (by decide +kernel) rfl⟩
theorem fk_X9_187 : gFk RX9 187 9 69 := ⟨RX9, TX9, rfl, by decide, gu9, gT_at 926 (by decide +kernel) rfl⟩
theorem fk_X9_190 : gFk RX9 190 9 70 := ⟨RX9, TX9, rfl, by decide, gu9, gT_at 927 (by decide +kernel) rfl⟩
theorem fk_X9_197 : gFk RX9 197 9 3 := ⟨RX9, TX9, rfl, by decide, gu9, gT_at 860 (by decide +kernel) rfl⟩
theorem fk_X9_216 : gFk RX9 216 9 7 := ⟨RX9, TX9, rfl, by decide, gu9, gT_at 864 (by decide +kernel) rfl⟩
theorem fk_X9_219 : gFk RX9 219 9 8 := ⟨RX9, TX9, rfl, by decide, gu9, gT_at 865 (by decide +kernel) rfl⟩
theorem fk_X9_235 : gFk RX9 235 9 17 := ⟨RX9, TX9, rfl, by decide, gu9, gT_at 874 (by decide +kernel) rfl⟩
theorem fk_X9_238 : gFk RX9 238 9 18 := ⟨RX9, TX9, rfl, by decide, gu9, gT_at 875 (by decide +kernel) rfl⟩
theorem fk_X9_244 : gFk RX9 244 9 16 := ⟨RX9, TX9, rfl, by decide, gu9, gT_at 873 (by decide +kernel) rfl⟩
theorem fk_X9_255 : gFk RX9 255 9 19 := ⟨RX9, TX9, rfl, by decide, gu9, gT_at 876 (by decide +kernel) rfl⟩
theorem fk_X9_287 : gFk RX9 287 9 26 := ⟨RX9, TX9, rfl, by decide, gu9, gT_at 883 (by decide +kernel) rfl⟩
theorem fk_X9_291 : gFk RX9 291 9 38 := ⟨RX9, TX9, rfl, by decide, gu9, gT_at 895 (by decide +kernel) rfl⟩
theorem fk_X9_294 : gFk RX9 294 9 43 := ⟨RX9, TX9, rfl, by decide, gu9, gT_at 900 (by decide +kernel) rfl⟩
theorem fk_X9_305 : gFk RX9 305 9 37 := ⟨RX9, TX9, rfl, by decide, gu9, gT_at 894 (by decide +kernel) rfl⟩
theorem fk_X9_312 : gFk RX9 312 9 25 := ⟨RX9, TX9, rfl, by decide, gu9, gT_at 882 (by decide +kernel) rfl⟩
theorem fk_X9_319 : gFk RX9 319 9 51 := ⟨RX9, TX9, rfl, by decide, gu9, gT_at 908 (by decide +kernel) rfl⟩
theorem fk_X9_322 : gFk RX9 322 9 52 := ⟨RX9, TX9, rfl, by decide, gu9, gT_at 909 (by decide +kernel) rfl⟩
theorem fk_X9_331 : gFk RX9 331 9 57 := ⟨RX9, TX9, rfl, by decide, gu9, gT_at 914 (by decide +kernel) rfl⟩
theorem fk_X9_340 : gFk RX9 340 9 58 := ⟨RX9, TX9, rfl, by decide, gu9, gT_at 915 (by decide +kernel) rfl⟩
theorem fk_X9_346 : gFk RX9 346 9 61 := ⟨RX9, TX9, rfl, by decide, gu9, gT_at 918 (by decide +kernel) rfl⟩
theorem fk_X9_358 : gFk RX9 358 9 62 := ⟨RX9, TX9, rfl, by decide, gu9, gT_at 919 (by decide +kernel) rfl⟩
theorem fk_X9_361 : gFk RX9 361 9 67 := ⟨RX9, TX9, rfl, by decide, gu9, gT_at 924 (by decide +kernel) rfl⟩
theorem fp_X1_27 : gFp RX1 27 1 5 (.int) := ⟨RX1, TX1, tyX1, rfl, by decide, gu1, gT_at 81 (by decide +kernel) rfl, tyX1_ok, nmX1, by decide, by decide +kernel⟩
theorem fp_X1_31 : gFp RX1 31 1 6 (.int) := ⟨RX1, TX1, tyX1, rfl, by decide, gu1, gT_at 84 (by decide +kernel) rfl, tyX1_ok, nmX1, by decide, by decide +kernel⟩
theorem fp_X1_38 : gFp RX1 38 1 7 (.int) := ⟨RX1, TX1, tyX1, rfl, by decide, gu1, gT_at 85 (by decide +kernel) rfl, tyX1_ok, nmX1, by decide, by decide +kernel⟩
theorem fp_X2_50 : gFp RX2 50 2 12 (.int) := ⟨RX2, TX2, tyX2, rfl, by decide, gu2, gT_at 144 (by decide +kernel) rfl, tyX2_ok, nmX2, by decide, by decide +kernel⟩
theorem fp_X2_54 : gFp RX2 54 2 13 (.int) := ⟨RX2, TX2, tyX2, rfl, by decide, gu2, gT_at 145 (by decide +kernel) rfl, tyX2_ok, nmX2, by decide, by decide +kernel⟩
theorem fp_X2_57 : gFp RX2 57 2 14 (.int) := ⟨RX2, TX2, tyX2, rfl, by decide, gu2, gT_at 147 (by decide +kernel) rfl, tyX2_ok, nmX2, by decide, by decide +kernel⟩
theorem fp_X2_68 : gFp RX2 68 2 15 (.int) := ⟨RX2, TX2, tyX2, rfl, by decide, gu2, gT_at 149 (by decide +kernel) rfl, tyX2_ok, nmX2, by decide, by decide +kernel⟩
theorem fp_X2_71 : gFp RX2 71 2 16 (.int) := ⟨RX2, TX2, tyX2, rfl, by decide, gu2, gT_at 151 (by decide +kernel) rfl, tyX2_ok, nmX2, by decide, by decide +kernel⟩
theorem fp_X3_21 : gFp RX3 21 3 1 (.object "WaterCarts$Orders") := ⟨RX3, TX3, tyX3, rfl, by decide, gu3, gT_at 105 (by decide +kernel) rfl, tyX3_ok, nmX3, by decide, by decide +kernel⟩
theorem fp_X3_25 : gFp RX3 25 3 2 (.object "WaterCarts$Orders") := ⟨RX3, TX3, tyX3, rfl, by decide, gu3, gT_at 107 (by decide +kernel) rfl, tyX3_ok, nmX3, by decide, by decide +kernel⟩
theorem fp_X3_34 : gFp RX3 34 3 3 (.int) := ⟨RX3, TX3, tyX3, rfl, by decide, gu3, gT_at 108 (by decide +kernel) rfl, tyX3_ok, nmX3, by decide, by decide +kernel⟩
theorem fp_X3_38 : gFp RX3 38 3 4 (.int) := ⟨RX3, TX3, tyX3, rfl, by decide, gu3, gT_at 109 (by decide +kernel) rfl, tyX3_ok, nmX3, by decide, by decide +kernel⟩
theorem fp_X3_49 : gFp RX3 49 6 4 (.int) := ⟨RX6, TX6, tyX6, rfl, by decide, gu6, gT_at 55 (by decide +kernel) rfl, tyX6_ok, nmX6, by decide, by decide +kernel⟩
theorem fp_X3_60 : gFp RX3 60 1 5 (.int) := ⟨RX1, TX1, tyX1, rfl, by decide, gu1, gT_at 82 (by decide +kernel) rfl, tyX1_ok, nmX1, by decide, by decide +kernel⟩
theorem fp_X4_15 : gFp RX4 15 4 2 (.int) := ⟨RX4, TX4, tyX4, rfl, by decide, gu4, gT_at 245 (by decide +kernel) rfl, tyX4_ok, nmX4, by decide, by decide +kernel⟩
theorem fp_X4_19 : gFp RX4 19 4 0 (.int) := ⟨RX4, TX4, tyX4, rfl, by decide, gu4, gT_at 241 (by decide +kernel) rfl, tyX4_ok, nmX4, by decide, by decide +kernel⟩
theorem fp_X4_22 : gFp RX4 22 4 1 (.int) := ⟨RX4, TX4, tyX4, rfl, by decide, gu4, gT_at 243 (by decide +kernel) rfl, tyX4_ok, nmX4, by decide, by decide +kernel⟩
theorem fp_X4_31 : gFp RX4 31 4 3 (.int) := ⟨RX4, TX4, tyX4, rfl, by decide, gu4, gT_at 247 (by decide +kernel) rfl, tyX4_ok, nmX4, by decide, by decide +kernel⟩
theorem fp_X5_7 : gFp RX5 7 5 5 (.int) := ⟨RX5, TX5, tyX5, rfl, by decide, gu5, gT_at 274 (by decide +kernel) rfl, tyX5_ok, nmX5, by decide, by decide +kernel⟩
theorem fp_X5_13 : gFp RX5 13 5 3 (.int) := ⟨RX5, TX5, tyX5, rfl, by decide, gu5, gT_at 270 (by decide +kernel) rfl, tyX5_ok, nmX5, by decide, by decide +kernel⟩
theorem fp_X5_16 : gFp RX5 16 5 4 (.int) := ⟨RX5, TX5, tyX5, rfl, by decide, gu5, gT_at 272 (by decide +kernel) rfl, tyX5_ok, nmX5, by decide, by decide +kernel⟩
theorem fp_X6_32 : gFp RX6 32 6 3 (.int) := ⟨RX6, TX6, tyX6, rfl, by decide, gu6, gT_at 53 (by decide +kernel) rfl, tyX6_ok, nmX6, by decide, by decide +kernel⟩
theorem fp_X6_36 : gFp RX6 36 6 4 (.int) := ⟨RX6, TX6, tyX6, rfl, by decide, gu6, gT_at 56 (by decide +kernel) rfl, tyX6_ok, nmX6, by decide, by decide +kernel⟩
theorem fp_X7_15 : gFp RX7 15 7 2 (.int) := ⟨RX7, TX7, tyX7, rfl, by decide, gu7, gT_at 197 (by decide +kernel) rfl, tyX7_ok, nmX7, by decide, by decide +kernel⟩
theorem fp_X7_19 : gFp RX7 19 7 3 (.int) := ⟨RX7, TX7, tyX7, rfl, by decide, gu7, gT_at 199 (by decide +kernel) rfl, tyX7_ok, nmX7, by decide, by decide +kernel⟩
theorem fp_X7_28 : gFp RX7 28 7 6 (.boolean) := ⟨RX7, TX7, tyX7, rfl, by decide, gu7, gT_at 205 (by decide +kernel) rfl, tyX7_ok, nmX7, by decide, by decide +kernel⟩
theorem fp_X7_32 : gFp RX7 32 7 5 (.int) := ⟨RX7, TX7, tyX7, rfl, by decide, gu7, gT_at 203 (by decide +kernel) rfl, tyX7_ok, nmX7, by decide, by decide +kernel⟩
theorem fp_X7_35 : gFp RX7 35 7 7 (.int) := ⟨RX7, TX7, tyX7, rfl, by decide, gu7, gT_at 207 (by decide +kernel) rfl, tyX7_ok, nmX7, by decide, by decide +kernel⟩
theorem fp_X7_38 : gFp RX7 38 7 8 (.int) := ⟨RX7, TX7, tyX7, rfl, by decide, gu7, gT_at 209 (by decide +kernel) rfl, tyX7_ok, nmX7, by decide, by decide +kernel⟩
theorem fp_X7_41 : gFp RX7 41 7 0 (.int) := ⟨RX7, TX7, tyX7, rfl, by decide, gu7, gT_at 194 (by decide +kernel) rfl, tyX7_ok, nmX7, by decide, by decide +kernel⟩
theorem fp_X7_44 : gFp RX7 44 7 1 (.int) := ⟨RX7, TX7, tyX7, rfl, by decide, gu7, gT_at 196 (by decide +kernel) rfl, tyX7_ok, nmX7, by decide, by decide +kernel⟩
theorem fp_X7_47 : gFp RX7 47 7 4 (.int) := ⟨RX7, TX7, tyX7, rfl, by decide, gu7, gT_at 201 (by decide +kernel) rfl, tyX7_ok, nmX7, by decide, by decide +kernel⟩
theorem fp_X7_50 : gFp RX7 50 7 9 (.int) := ⟨RX7, TX7, tyX7, rfl, by decide, gu7, gT_at 210 (by decide +kernel) rfl, tyX7_ok, nmX7, by decide, by decide +kernel⟩
theorem fp_X8_60 : gFp RX8 60 8 7 (.int) := ⟨RX8, TX8, tyX8, rfl, by decide, gu8, gT_at 323 (by decide +kernel) rfl, tyX8_ok, nmX8, by decide, by decide +kernel⟩
theorem fp_X8_64 : gFp RX8 64 7 0 (.int) := ⟨RX7, TX7, tyX7, rfl, by decide, gu7, gT_at 193 (by decide +kernel) rfl, tyX7_ok, nmX7, by decide, by decide +kernel⟩
theorem fp_X8_67 : gFp RX8 67 7 1 (.int) := ⟨RX7, TX7, tyX7, rfl, by decide, gu7, gT_at 195 (by decide +kernel) rfl, tyX7_ok, nmX7, by decide, by decide +kernel⟩
theorem fp_X8_70 : gFp RX8 70 7 2 (.int) := ⟨RX7, TX7, tyX7, rfl, by decide, gu7, gT_at 198 (by decide +kernel) rfl, tyX7_ok, nmX7, by decide, by decide +kernel⟩
theorem fp_X8_73 : gFp RX8 73 7 3 (.int) := ⟨RX7, TX7, tyX7, rfl, by decide, gu7, gT_at 200 (by decide +kernel) rfl, tyX7_ok, nmX7, by decide, by decide +kernel⟩
theorem fp_X8_77 : gFp RX8 77 8 8 (.int) := ⟨RX8, TX8, tyX8, rfl, by decide, gu8, gT_at 324 (by decide +kernel) rfl, tyX8_ok, nmX8, by decide, by decide +kernel⟩
theorem fp_X8_80 : gFp RX8 80 4 0 (.int) := ⟨RX4, TX4, tyX4, rfl, by decide, gu4, gT_at 242 (by decide +kernel) rfl, tyX4_ok, nmX4, by decide, by decide +kernel⟩
theorem fp_X8_83 : gFp RX8 83 4 1 (.int) := ⟨RX4, TX4, tyX4, rfl, by decide, gu4, gT_at 244 (by decide +kernel) rfl, tyX4_ok, nmX4, by decide, by decide +kernel⟩
theorem fp_X8_86 : gFp RX8 86 4 2 (.int) := ⟨RX4, TX4, tyX4, rfl, by decide, gu4, gT_at 246 (by decide +kernel) rfl, tyX4_ok, nmX4, by decide, by decide +kernel⟩
theorem fp_X8_87 : gFp RX8 87 4 3 (.int) := ⟨RX4, TX4, tyX4, rfl, by decide, gu4, gT_at 248 (by decide +kernel) rfl, tyX4_ok, nmX4, by decide, by decide +kernel⟩
theorem fp_X8_94 : gFp RX8 94 8 9 (.int) := ⟨RX8, TX8, tyX8, rfl, by decide, gu8, gT_at 325 (by decide +kernel) rfl, tyX8_ok, nmX8, by decide, by decide +kernel⟩
theorem fp_X8_97 : gFp RX8 97 5 0 (.int) := ⟨RX5, TX5, tyX5, rfl, by decide, gu5, gT_at 267 (by decide +kernel) rfl, tyX5_ok, nmX5, by decide, by decide +kernel⟩
theorem fp_X8_100 : gFp RX8 100 5 1 (.int) := ⟨RX5, TX5, tyX5, rfl, by decide, gu5, gT_at 268 (by decide +kernel) rfl, tyX5_ok, nmX5, by decide, by decide +kernel⟩
theorem fp_X8_103 : gFp RX8 103 5 2 (.int) := ⟨RX5, TX5, tyX5, rfl, by decide, gu5, gT_at 269 (by decide +kernel) rfl, tyX5_ok, nmX5, by decide, by decide +kernel⟩
theorem fp_X8_122 : gFp RX8 122 6 3 (.int) := ⟨RX6, TX6, tyX6, rfl, by decide, gu6, gT_at 54 (by decide +kernel) rfl, tyX6_ok, nmX6, by decide, by decide +kernel⟩
theorem fp_X8_136 : gFp RX8 136 2 13 (.int) := ⟨RX2, TX2, tyX2, rfl, by decide, gu2, gT_at 146 (by decide +kernel) rfl, tyX2_ok, nmX2, by decide, by decide +kernel⟩
theorem fp_X8_139 : gFp RX8 139 2 15 (.int) := ⟨RX2, TX2, tyX2, rfl, by decide, gu2, gT_at 150 (by decide +kernel) rfl, tyX2_ok, nmX2, by decide, by decide +kernel⟩
theorem fp_X8_142 : gFp RX8 142 2 16 (.int) := ⟨RX2, TX2, tyX2, rfl, by decide, gu2, gT_at 152 (by decide +kernel) rfl, tyX2_ok, nmX2, by decide, by decide +kernel⟩
theorem fp_X8_145 : gFp RX8 145 2 14 (.int) := ⟨RX2, TX2, tyX2, rfl, by decide, gu2, gT_at 148 (by decide +kernel) rfl, tyX2_ok, nmX2, by decide, by decide +kernel⟩
theorem fp_X8_154 : gFp RX8 154 8 12 (.int) := ⟨RX8, TX8, tyX8, rfl, by decide, gu8, gT_at 328 (by decide +kernel) rfl, tyX8_ok, nmX8, by decide, by decide +kernel⟩
theorem fp_X8_160 : gFp RX8 160 7 4 (.int) := ⟨RX7, TX7, tyX7, rfl, by decide, gu7, gT_at 202 (by decide +kernel) rfl, tyX7_ok, nmX7, by decide, by decide +kernel⟩
theorem fp_X8_169 : gFp RX8 169 8 10 (.int) := ⟨RX8, TX8, tyX8, rfl, by decide, gu8, gT_at 326 (by decide +kernel) rfl, tyX8_ok, nmX8, by decide, by decide +kernel⟩
theorem fp_X8_172 : gFp RX8 172 0 0 (.int) := ⟨RX0, TX0, tyX0, rfl, by decide, gu0, gT_at 303 (by decide +kernel) rfl, tyX0_ok, nmX0, by decide, by decide +kernel⟩
theorem fp_X8_175 : gFp RX8 175 0 1 (.int) := ⟨RX0, TX0, tyX0, rfl, by decide, gu0, gT_at 304 (by decide +kernel) rfl, tyX0_ok, nmX0, by decide, by decide +kernel⟩
theorem fp_X8_178 : gFp RX8 178 0 2 (.int) := ⟨RX0, TX0, tyX0, rfl, by decide, gu0, gT_at 305 (by decide +kernel) rfl, tyX0_ok, nmX0, by decide, by decide +kernel⟩
theorem fp_X8_191 : gFp RX8 191 0 3 (.boolean) := ⟨RX0, TX0, tyX0, rfl, by decide, gu0, gT_at 306 (by decide +kernel) rfl, tyX0_ok, nmX0, by decide, by decide +kernel⟩
theorem fp_X8_198 : gFp RX8 198 8 11 (.int) := ⟨RX8, TX8, tyX8, rfl, by decide, gu8, gT_at 327 (by decide +kernel) rfl, tyX8_ok, nmX8, by decide, by decide +kernel⟩
theorem fp_X8_201 : gFp RX8 201 5 6 (.int) := ⟨RX5, TX5, tyX5, rfl, by decide, gu5, gT_at 276 (by decide +kernel) rfl, tyX5_ok, nmX5, by decide, by decide +kernel⟩
theorem fp_X8_204 : gFp RX8 204 5 7 (.int) := ⟨RX5, TX5, tyX5, rfl, by decide, gu5, gT_at 277 (by decide +kernel) rfl, tyX5_ok, nmX5, by decide, by decide +kernel⟩
theorem fp_X8_207 : gFp RX8 207 5 8 (.int) := ⟨RX5, TX5, tyX5, rfl, by decide, gu5, gT_at 278 (by decide +kernel) rfl, tyX5_ok, nmX5, by decide, by decide +kernel⟩
theorem fp_X8_219 : gFp RX8 219 5 3 (.int) := ⟨RX5, TX5, tyX5, rfl, by decide, gu5, gT_at 271 (by decide +kernel) rfl, tyX5_ok, nmX5, by decide, by decide +kernel⟩
theorem fp_X8_222 : gFp RX8 222 5 4 (.int) := ⟨RX5, TX5, tyX5, rfl, by decide, gu5, gT_at 273 (by decide +kernel) rfl, tyX5_ok, nmX5, by decide, by decide +kernel⟩
theorem fp_X8_225 : gFp RX8 225 5 5 (.int) := ⟨RX5, TX5, tyX5, rfl, by decide, gu5, gT_at 275 (by decide +kernel) rfl, tyX5_ok, nmX5, by decide, by decide +kernel⟩
theorem fp_X8_228 : gFp RX8 228 8 13 (.int) := ⟨RX8, TX8, tyX8, rfl, by decide, gu8, gT_at 329 (by decide +kernel) rfl, tyX8_ok, nmX8, by decide, by decide +kernel⟩
theorem fp_X8_231 : gFp RX8 231 8 14 (.int) := ⟨RX8, TX8, tyX8, rfl, by decide, gu8, gT_at 330 (by decide +kernel) rfl, tyX8_ok, nmX8, by decide, by decide +kernel⟩
theorem fp_X8_234 : gFp RX8 234 3 1 (.object "WaterCarts$Orders") := ⟨RX3, TX3, tyX3, rfl, by decide, gu3, gT_at 106 (by decide +kernel) rfl, tyX3_ok, nmX3, by decide, by decide +kernel⟩
theorem fp_X8_238 : gFp RX8 238 1 5 (.int) := ⟨RX1, TX1, tyX1, rfl, by decide, gu1, gT_at 83 (by decide +kernel) rfl, tyX1_ok, nmX1, by decide, by decide +kernel⟩
theorem fp_X8_243 : gFp RX8 243 7 7 (.int) := ⟨RX7, TX7, tyX7, rfl, by decide, gu7, gT_at 208 (by decide +kernel) rfl, tyX7_ok, nmX7, by decide, by decide +kernel⟩
theorem fp_X8_292 : gFp RX8 292 7 9 (.int) := ⟨RX7, TX7, tyX7, rfl, by decide, gu7, gT_at 211 (by decide +kernel) rfl, tyX7_ok, nmX7, by decide, by decide +kernel⟩
theorem fp_X8_304 : gFp RX8 304 7 5 (.int) := ⟨RX7, TX7, tyX7, rfl, by decide, gu7, gT_at 204 (by decide +kernel) rfl, tyX7_ok, nmX7, by decide, by decide +kernel⟩
theorem fp_X8_307 : gFp RX8 307 7 6 (.boolean) := ⟨RX7, TX7, tyX7, rfl, by decide, gu7, gT_at 206 (by decide +kernel) rfl, tyX7_ok, nmX7, by decide, by decide +kernel⟩
theorem fp_X9_1 : gFp RX9 1 9 0 (.int) := ⟨RX9, TX9, tyX9, rfl, by decide, gu9, gT_at 857 (by decide +kernel) rfl, tyX9_ok, nmX9, by decide, by decide +kernel⟩
theorem fp_X9_11 : gFp RX9 11 9 2 (.int) := ⟨RX9, TX9, tyX9, rfl, by decide, gu9, gT_at 859 (by decide +kernel) rfl, tyX9_ok, nmX9, by decide, by decide +kernel⟩
theorem fp_X9_197 : gFp RX9 197 9 3 (.int) := ⟨RX9, TX9, tyX9, rfl, by decide, gu9, gT_at 860 (by decide +kernel) rfl, tyX9_ok, nmX9, by decide, by decide +kernel⟩
theorem fp_X9_216 : gFp RX9 216 9 7 (.int) := ⟨RX9, TX9, tyX9, rfl, by decide, gu9, gT_at 864 (by decide +kernel) rfl, tyX9_ok, nmX9, by decide, by decide +kernel⟩
theorem fp_X9_219 : gFp RX9 219 9 8 (.int) := ⟨RX9, TX9, tyX9, rfl, by decide, gu9, gT_at 865 (by decide +kernel) rfl, tyX9_ok, nmX9, by decide, by decide +kernel⟩
theorem fp_X9_235 : gFp RX9 235 9 17 (.int) := ⟨RX9, TX9, tyX9, rfl, by decide, gu9, gT_at 874 (by decide +kernel) rfl, tyX9_ok, nmX9, by decide, by decide +kernel⟩
theorem fp_X9_238 : gFp RX9 238 9 18 (.int) := ⟨RX9, TX9, tyX9, rfl, by decide, gu9, gT_at 875 (by decide +kernel) rfl, tyX9_ok, nmX9, by decide, by decide +kernel⟩
theorem fp_X9_244 : gFp RX9 244 9 16 (.int) := ⟨RX9, TX9, tyX9, rfl, by decide, gu9, gT_at 873 (by decide +kernel) rfl, tyX9_ok, nmX9, by decide, by decide +kernel⟩
theorem fp_X9_255 : gFp RX9 255 9 19 (.int) := ⟨RX9, TX9, tyX9, rfl, by decide, gu9, gT_at 876 (by decide +kernel) rfl, tyX9_ok, nmX9, by decide, by decide +kernel⟩
theorem fp_X9_287 : gFp RX9 287 9 26 (.int) := ⟨RX9, TX9, tyX9, rfl, by decide, gu9, gT_at 883 (by decide +kernel) rfl, tyX9_ok, nmX9, by decide, by decide +kernel⟩
theorem fp_X9_291 : gFp RX9 291 9 38 (.int) := ⟨RX9, TX9, tyX9, rfl, by decide, gu9, gT_at 895 (by decide +kernel) rfl, tyX9_ok, nmX9, by decide, by decide +kernel⟩
theorem fp_X9_294 : gFp RX9 294 9 43 (.int) := ⟨RX9, TX9, tyX9, rfl, by decide, gu9, gT_at 900 (by decide +kernel) rfl, tyX9_ok, nmX9, by decide, by decide +kernel⟩
theorem fp_X9_305 : gFp RX9 305 9 37 (.int) := ⟨RX9, TX9, tyX9, rfl, by decide, gu9, gT_at 894 (by decide +kernel) rfl, tyX9_ok, nmX9, by decide, by decide +kernel⟩
theorem fp_X9_312 : gFp RX9 312 9 25 (.int) := ⟨RX9, TX9, tyX9, rfl, by decide, gu9, gT_at 882 (by decide +kernel) rfl, tyX9_ok, nmX9, by decide, by decide +kernel⟩
theorem fp_X9_319 : gFp RX9 319 9 51 (.int) := ⟨RX9, TX9, tyX9, rfl, by decide, gu9, gT_at 908 (by decide +kernel) rfl, tyX9_ok, nmX9, by decide, by decide +kernel⟩
theorem fp_X9_322 : gFp RX9 322 9 52 (.int) := ⟨RX9, TX9, tyX9, rfl, by decide, gu9, gT_at 909 (by decide +kernel) rfl, tyX9_ok, nmX9, by decide, by decide +kernel⟩
theorem fp_X9_331 : gFp RX9 331 9 57 (.int) := ⟨RX9, TX9, tyX9, rfl, by decide, gu9, gT_at 914 (by decide +kernel) rfl, tyX9_ok, nmX9, by decide, by decide +kernel⟩
theorem fp_X9_340 : gFp RX9 340 9 58 (.int) := ⟨RX9, TX9, tyX9, rfl, by decide, gu9, gT_at 915 (by decide +kernel) rfl, tyX9_ok, nmX9, by decide, by decide +kernel⟩
theorem fp_X9_346 : gFp RX9 346 9 61 (.int) := ⟨RX9, TX9, tyX9, rfl, by decide, gu9, gT_at 918 (by decide +kernel) rfl, tyX9_ok, nmX9, by decide, by decide +kernel⟩
theorem fp_X9_358 : gFp RX9 358 9 62 (.int) := ⟨RX9, TX9, tyX9, rfl, by decide, gu9, gT_at 919 (by decide +kernel) rfl, tyX9_ok, nmX9, by decide, by decide +kernel⟩
theorem fp_X9_361 : gFp RX9 361 9 67 (.int) := ⟨RX9, TX9, tyX9, rfl, by decide, gu9, gT_at 924 (by decide +kernel) rfl, tyX9_ok, nmX9, by decide, by decide +kernel⟩
theorem mk_J0_495 : gSm RJ0 495 yJ1_charAt_3b067 cJ1_charAt_3b067 2 (some .char) 2 := ⟨⟨gT_at 461 (by decide +kernel) rfl, gT_at 463 (by decide +kernel) rfl, gT_at 12 (by decide +kernel) rfl, by decide +kernel, by decide⟩, gT_at 462 (by decide +kernel) rfl⟩
theorem mk_J0_498 : gSm RJ0 498 yJ2_charAt_3b067 cJ2_charAt_3b067 2 (some .char) 2 := ⟨⟨gT_at 472 (by decide +kernel) rfl, gT_at 474 (by decide +kernel) rfl, gT_at 14 (by decide +kernel) rfl, by decide +kernel, by decide⟩, gT_at 473 (by decide +kernel) rfl⟩
theorem mk_J0_1059 : gSm RJ0 1059 yJ3_checkIndex_8e157 cJ3_checkIndex_8e157 3 (some .int) 3 := ⟨⟨gT_at 469 (by decide +kernel) rfl, gT_at 471 (by decide +kernel) rfl, gT_at 13 (by decide +kernel) rfl, by decide +kernel, by decide⟩, gT_at 470 (by decide +kernel) rfl⟩
theorem mk_J1_9 : gSm RJ1 9 yJ0_checkIndex_df160 cJ0_checkIndex_df160 2 none 2 := ⟨⟨gT_at 464 (by decide +kernel) rfl, gT_at 466 (by decide +kernel) rfl, gT_at 11 (by decide +kernel) rfl, by decide +kernel, by decide⟩, gT_at 465 (by decide +kernel) rfl⟩
theorem mk_J2_48 : gSm RJ2 48 yJ2_length_9d52b cJ2_length_9d52b 1 (some .int) 1 := ⟨⟨gT_at 478 (by decide +kernel) rfl, gT_at 480 (by decide +kernel) rfl, gT_at 14 (by decide +kernel) rfl, by decide +kernel, by decide⟩, gT_at 479 (by decide +kernel) rfl⟩
theorem mk_J2_67 : gSm RJ2 67 yJ2_checkIndex_2214a cJ2_checkIndex_2214a 2 none 2 := ⟨⟨gT_at 475 (by decide +kernel) rfl, gT_at 477 (by decide +kernel) rfl, gT_at 14 (by decide +kernel) rfl, by decide +kernel, by decide⟩, gT_at 476 (by decide +kernel) rfl⟩
theorem mk_J2_71 : gSm RJ2 71 yJ2_getChar_3b067 cJ2_getChar_3b067 2 (some .char) 2 := ⟨⟨gT_at 482 (by decide +kernel) rfl, gT_at 484 (by decide +kernel) rfl, gT_at 14 (by decide +kernel) rfl, by decide +kernel, by decide⟩, gT_at 483 (by decide +kernel) rfl⟩
theorem mk_J2_414 : gSm RJ2 414 yJ0_checkIndex_df160 cJ0_checkIndex_df160 2 none 2 := ⟨⟨gT_at 481 (by decide +kernel) rfl, gT_at 466 (by decide +kernel) rfl, gT_at 11 (by decide +kernel) rfl, by decide +kernel, by decide⟩, gT_at 465 (by decide +kernel) rfl⟩
theorem mk_L_7 : gVm RL 7 yX8_look cX8_look 3 (some .int) 2 8 := ⟨⟨gT_at 760 (by decide +kernel) rfl, gT_at 763 (by decide +kernel) rfl, gT_at 1 (by decide +kernel) rfl, by decide +kernel, by decide⟩, gT_at 761 (by decide +kernel) rfl, gT_at 762 (by decide +kernel) rfl, TX8, rfl⟩
theorem mk_L_19 : gVm RL 19 yX8_village cX8_village 7 (some .int) 4 8 := ⟨⟨gT_at 362 (by decide +kernel) rfl, gT_at 365 (by decide +kernel) rfl, gT_at 1 (by decide +kernel) rfl, by decide +kernel, by decide⟩, gT_at 363 (by decide +kernel) rfl, gT_at 364 (by decide +kernel) rfl, TX8, rfl⟩
theorem mk_L_23 : gVm RL 23 yX9_village cX9_village 5 (some .int) 4 9 := ⟨⟨gT_at 1149 (by decide +kernel) rfl, gT_at 1152 (by decide +kernel) rfl, gT_at 10 (by decide +kernel) rfl, by decide +kernel, by decide⟩, gT_at 1150 (by decide +kernel) rfl, gT_at 1151 (by decide +kernel) rfl, TX9, rfl⟩
theorem mk_L_24 : gVm RL 24 yX8_spring cX8_spring 6 (some .int) 3 8 := ⟨⟨gT_at 370 (by decide +kernel) rfl, gT_at 373 (by decide +kernel) rfl, gT_at 1 (by decide +kernel) rfl, by decide +kernel, by decide⟩, gT_at 371 (by decide +kernel) rfl, gT_at 372 (by decide +kernel) rfl, TX8, rfl⟩
theorem mk_L_28 : gVm RL 28 yX9_spring cX9_spring 4 (some .int) 3 9 := ⟨⟨gT_at 1157 (by decide +kernel) rfl, gT_at 1160 (by decide +kernel) rfl, gT_at 10 (by decide +kernel) rfl, by decide +kernel, by decide⟩, gT_at 1158 (by decide +kernel) rfl, gT_at 1159 (by decide +kernel) rfl, TX9, rfl⟩
theorem mk_L_29 : gVm RL 29 yX8_tanker cX8_tanker 6 (some .int) 3 8 := ⟨⟨gT_at 375 (by decide +kernel) rfl, gT_at 378 (by decide +kernel) rfl, gT_at 1 (by decide +kernel) rfl, by decide +kernel, by decide⟩, gT_at 376 (by decide +kernel) rfl, gT_at 377 (by decide +kernel) rfl, TX8, rfl⟩
theorem mk_L_32 : gVm RL 32 yX9_tanker cX9_tanker 4 (some .int) 3 9 := ⟨⟨gT_at 1162 (by decide +kernel) rfl, gT_at 1165 (by decide +kernel) rfl, gT_at 10 (by decide +kernel) rfl, by decide +kernel, by decide⟩, gT_at 1163 (by decide +kernel) rfl, gT_at 1164 (by decide +kernel) rfl, TX9, rfl⟩
theorem mk_L_33 : gVm RL 33 yX8_way cX8_way 4 (some .boolean) 3 8 := ⟨⟨gT_at 383 (by decide +kernel) rfl, gT_at 386 (by decide +kernel) rfl, gT_at 1 (by decide +kernel) rfl, by decide +kernel, by decide⟩, gT_at 384 (by decide +kernel) rfl, gT_at 385 (by decide +kernel) rfl, TX8, rfl⟩
theorem mk_L_37 : gVm RL 37 yX9_way cX9_way 4 (some .boolean) 3 9 := ⟨⟨gT_at 1166 (by decide +kernel) rfl, gT_at 1169 (by decide +kernel) rfl, gT_at 10 (by decide +kernel) rfl, by decide +kernel, by decide⟩, gT_at 1167 (by decide +kernel) rfl, gT_at 1168 (by decide +kernel) rfl, TX9, rfl⟩
theorem mk_L_40 : gVm RL 40 yX8_feed cX8_feed 7 (some .int) 3 8 := ⟨⟨gT_at 391 (by decide +kernel) rfl, gT_at 394 (by decide +kernel) rfl, gT_at 1 (by decide +kernel) rfl, by decide +kernel, by decide⟩, gT_at 392 (by decide +kernel) rfl, gT_at 393 (by decide +kernel) rfl, TX8, rfl⟩
theorem mk_L_44 : gVm RL 44 yX9_feed cX9_feed 7 (some .int) 3 9 := ⟨⟨gT_at 833 (by decide +kernel) rfl, gT_at 836 (by decide +kernel) rfl, gT_at 10 (by decide +kernel) rfl, by decide +kernel, by decide⟩, gT_at 834 (by decide +kernel) rfl, gT_at 835 (by decide +kernel) rfl, TX9, rfl⟩
theorem mk_L_45 : gVm RL 45 yX8_text cX8_text 1 (some .int) 0 8 := ⟨⟨gT_at 405 (by decide +kernel) rfl, gT_at 408 (by decide +kernel) rfl, gT_at 1 (by decide +kernel) rfl, by decide +kernel, by decide⟩, gT_at 406 (by decide +kernel) rfl, gT_at 407 (by decide +kernel) rfl, TX8, rfl⟩
theorem mk_L_49 : gVm RL 49 yX9_text cX9_text 1 (some .int) 0 9 := ⟨⟨gT_at 1073 (by decide +kernel) rfl, gT_at 1076 (by decide +kernel) rfl, gT_at 10 (by decide +kernel) rfl, by decide +kernel, by decide⟩, gT_at 1074 (by decide +kernel) rfl, gT_at 1075 (by decide +kernel) rfl, TX9, rfl⟩
theorem mk_L_50 : gVm RL 50 yX8_want cX8_want 2 (some .int) 1 8 := ⟨⟨gT_at 559 (by decide +kernel) rfl, gT_at 562 (by decide +kernel) rfl, gT_at 1 (by decide +kernel) rfl, by decide +kernel, by decide⟩, gT_at 560 (by decide +kernel) rfl, gT_at 561 (by decide +kernel) rfl, TX8, rfl⟩
theorem mk_L_54 : gVm RL 54 yX9_want cX9_want 2 (some .int) 1 9 := ⟨⟨gT_at 1174 (by decide +kernel) rfl, gT_at 1177 (by decide +kernel) rfl, gT_at 10 (by decide +kernel) rfl, by decide +kernel, by decide⟩, gT_at 1175 (by decide +kernel) rfl, gT_at 1176 (by decide +kernel) rfl, TX9, rfl⟩
theorem mk_L_55 : gVm RL 55 yX8_plan cX8_plan 2 (some .int) 1 8 := ⟨⟨gT_at 590 (by decide +kernel) rfl, gT_at 593 (by decide +kernel) rfl, gT_at 1 (by decide +kernel) rfl, by decide +kernel, by decide⟩, gT_at 591 (by decide +kernel) rfl, gT_at 592 (by decide +kernel) rfl, TX8, rfl⟩
theorem mk_L_58 : gVm RL 58 yX9_plan cX9_plan 2 (some .int) 1 9 := ⟨⟨gT_at 1191 (by decide +kernel) rfl, gT_at 1194 (by decide +kernel) rfl, gT_at 10 (by decide +kernel) rfl, by decide +kernel, by decide⟩, gT_at 1192 (by decide +kernel) rfl, gT_at 1193 (by decide +kernel) rfl, TX9, rfl⟩
theorem mk_L_59 : gVm RL 59 yX8_planned cX8_planned 3 (some .int) 1 8 := ⟨⟨gT_at 654 (by decide +kernel) rfl, gT_at 657 (by decide +kernel) rfl, gT_at 1 (by decide +kernel) rfl, by decide +kernel, by decide⟩, gT_at 655 (by decide +kernel) rfl, gT_at 656 (by decide +kernel) rfl, TX8, rfl⟩
theorem mk_L_62 : gVm RL 62 yX9_planned cX9_planned 4 (some .int) 1 9 := ⟨⟨gT_at 1214 (by decide +kernel) rfl, gT_at 1217 (by decide +kernel) rfl, gT_at 10 (by decide +kernel) rfl, by decide +kernel, by decide⟩, gT_at 1215 (by decide +kernel) rfl, gT_at 1216 (by decide +kernel) rfl, TX9, rfl⟩
theorem mk_L_63 : gVm RL 63 yX8_days cX8_days 3 (some .int) 1 8 := ⟨⟨gT_at 658 (by decide +kernel) rfl, gT_at 661 (by decide +kernel) rfl, gT_at 1 (by decide +kernel) rfl, by decide +kernel, by decide⟩, gT_at 659 (by decide +kernel) rfl, gT_at 660 (by decide +kernel) rfl, TX8, rfl⟩
theorem mk_L_66 : gVm RL 66 yX9_days cX9_days 3 (some .int) 1 9 := ⟨⟨gT_at 1218 (by decide +kernel) rfl, gT_at 1221 (by decide +kernel) rfl, gT_at 10 (by decide +kernel) rfl, by decide +kernel, by decide⟩, gT_at 1219 (by decide +kernel) rfl, gT_at 1220 (by decide +kernel) rfl, TX9, rfl⟩
theorem mk_L_67 : gVm RL 67 yX8_foretold cX8_foretold 6 (some .int) 1 8 := ⟨⟨gT_at 700 (by decide +kernel) rfl, gT_at 703 (by decide +kernel) rfl, gT_at 1 (by decide +kernel) rfl, by decide +kernel, by decide⟩, gT_at 701 (by decide +kernel) rfl, gT_at 702 (by decide +kernel) rfl, TX8, rfl⟩
theorem mk_L_70 : gVm RL 70 yX9_foretold cX9_foretold 5 (some .int) 1 9 := ⟨⟨gT_at 1234 (by decide +kernel) rfl, gT_at 1237 (by decide +kernel) rfl, gT_at 10 (by decide +kernel) rfl, by decide +kernel, by decide⟩, gT_at 1235 (by decide +kernel) rfl, gT_at 1236 (by decide +kernel) rfl, TX9, rfl⟩
theorem mk_L_71 : gVm RL 71 yX8_bore cX8_bore 6 (some .int) 3 8 := ⟨⟨gT_at 704 (by decide +kernel) rfl, gT_at 707 (by decide +kernel) rfl, gT_at 1 (by decide +kernel) rfl, by decide +kernel, by decide⟩, gT_at 705 (by decide +kernel) rfl, gT_at 706 (by decide +kernel) rfl, TX8, rfl⟩
theorem mk_L_74 : gVm RL 74 yX9_bore cX9_bore 4 (some .int) 3 9 := ⟨⟨gT_at 1238 (by decide +kernel) rfl, gT_at 1241 (by decide +kernel) rfl, gT_at 10 (by decide +kernel) rfl, by decide +kernel, by decide⟩, gT_at 1239 (by decide +kernel) rfl, gT_at 1240 (by decide +kernel) rfl, TX9, rfl⟩
theorem mk_L_75 : gVm RL 75 yX8_best cX8_best 9 (some .int) 1 8 := ⟨⟨gT_at 708 (by decide +kernel) rfl, gT_at 711 (by decide +kernel) rfl, gT_at 1 (by decide +kernel) rfl, by decide +kernel, by decide⟩, gT_at 709 (by decide +kernel) rfl, gT_at 710 (by decide +kernel) rfl, TX8, rfl⟩
theorem mk_L_78 : gVm RL 78 yX9_best cX9_best 10 (some .int) 1 9 := ⟨⟨gT_at 1242 (by decide +kernel) rfl, gT_at 1245 (by decide +kernel) rfl, gT_at 10 (by decide +kernel) rfl, by decide +kernel, by decide⟩, gT_at 1243 (by decide +kernel) rfl, gT_at 1244 (by decide +kernel) rfl, TX9, rfl⟩
theorem mk_L_79 : gVm RL 79 yX8_drill cX8_drill 4 (some .boolean) 2 8 := ⟨⟨gT_at 724 (by decide +kernel) rfl, gT_at 727 (by decide +kernel) rfl, gT_at 1 (by decide +kernel) rfl, by decide +kernel, by decide⟩, gT_at 725 (by decide +kernel) rfl, gT_at 726 (by decide +kernel) rfl, TX8, rfl⟩
theorem mk_L_83 : gVm RL 83 yX9_drill cX9_drill 3 (some .boolean) 2 9 := ⟨⟨gT_at 1246 (by decide +kernel) rfl, gT_at 1249 (by decide +kernel) rfl, gT_at 10 (by decide +kernel) rfl, by decide +kernel, by decide⟩, gT_at 1247 (by decide +kernel) rfl, gT_at 1248 (by decide +kernel) rfl, TX9, rfl⟩
theorem mk_L_84 : gVm RL 84 yX8_dip cX8_dip 7 (some .int) 4 8 := ⟨⟨gT_at 728 (by decide +kernel) rfl, gT_at 731 (by decide +kernel) rfl, gT_at 1 (by decide +kernel) rfl, by decide +kernel, by decide⟩, gT_at 729 (by decide +kernel) rfl, gT_at 730 (by decide +kernel) rfl, TX8, rfl⟩
theorem mk_L_87 : gVm RL 87 yX9_dip cX9_dip 5 (some .int) 4 9 := ⟨⟨gT_at 1250 (by decide +kernel) rfl, gT_at 1253 (by decide +kernel) rfl, gT_at 10 (by decide +kernel) rfl, by decide +kernel, by decide⟩, gT_at 1251 (by decide +kernel) rfl, gT_at 1252 (by decide +kernel) rfl, TX9, rfl⟩
theorem mk_L_88 : gVm RL 88 yX8_isShort cX8_isShort 3 (some .int) 1 8 := ⟨⟨gT_at 732 (by decide +kernel) rfl, gT_at 735 (by decide +kernel) rfl, gT_at 1 (by decide +kernel) rfl, by decide +kernel, by decide⟩, gT_at 733 (by decide +kernel) rfl, gT_at 734 (by decide +kernel) rfl, TX8, rfl⟩
theorem mk_L_91 : gVm RL 91 yX9_isShort cX9_isShort 2 (some .int) 1 9 := ⟨⟨gT_at 1254 (by decide +kernel) rfl, gT_at 1257 (by decide +kernel) rfl, gT_at 10 (by decide +kernel) rfl, by decide +kernel, by decide⟩, gT_at 1255 (by decide +kernel) rfl, gT_at 1256 (by decide +kernel) rfl, TX9, rfl⟩
theorem mk_L_92 : gVm RL 92 yX8_share cX8_share 4 (some .int) 1 8 := ⟨⟨gT_at 736 (by decide +kernel) rfl, gT_at 739 (by decide +kernel) rfl, gT_at 1 (by decide +kernel) rfl, by decide +kernel, by decide⟩, gT_at 737 (by decide +kernel) rfl, gT_at 738 (by decide +kernel) rfl, TX8, rfl⟩
theorem mk_L_95 : gVm RL 95 yX9_share cX9_share 6 (some .int) 1 9 := ⟨⟨gT_at 1258 (by decide +kernel) rfl, gT_at 1261 (by decide +kernel) rfl, gT_at 10 (by decide +kernel) rfl, by decide +kernel, by decide⟩, gT_at 1259 (by decide +kernel) rfl, gT_at 1260 (by decide +kernel) rfl, TX9, rfl⟩
theorem mk_L_101 : gVm RL 101 yX9_look cX9_look 3 (some .int) 2 9 := ⟨⟨gT_at 1262 (by decide +kernel) rfl, gT_at 1265 (by decide +kernel) rfl, gT_at 10 (by decide +kernel) rfl, by decide +kernel, by decide⟩, gT_at 1263 (by decide +kernel) rfl, gT_at 1264 (by decide +kernel) rfl, TX9, rfl⟩
theorem mk_L_102 : gVm RL 102 yX9_thrown cX9_thrown 1 (some .int) 0 9 := ⟨⟨gT_at 829 (by decide +kernel) rfl, gT_at 832 (by decide +kernel) rfl, gT_at 10 (by decide +kernel) rfl, by decide +kernel, by decide⟩, gT_at 830 (by decide +kernel) rfl, gT_at 831 (by decide +kernel) rfl, TX9, rfl⟩
theorem mk_L_105 : gVm RL 105 yX8_flows cX8_flows 3 (some .int) 2 8 := ⟨⟨gT_at 744 (by decide +kernel) rfl, gT_at 747 (by decide +kernel) rfl, gT_at 1 (by decide +kernel) rfl, by decide +kernel, by decide⟩, gT_at 745 (by decide +kernel) rfl, gT_at 746 (by decide +kernel) rfl, TX8, rfl⟩
theorem mk_L_108 : gVm RL 108 yX9_flows cX9_flows 3 (some .int) 2 9 := ⟨⟨gT_at 1266 (by decide +kernel) rfl, gT_at 1269 (by decide +kernel) rfl, gT_at 10 (by decide +kernel) rfl, by decide +kernel, by decide⟩, gT_at 1267 (by decide +kernel) rfl, gT_at 1268 (by decide +kernel) rfl, TX9, rfl⟩
theorem mk_L_109 : gVm RL 109 yX8_goes cX8_goes 4 (some .int) 2 8 := ⟨⟨gT_at 748 (by decide +kernel) rfl, gT_at 751 (by decide +kernel) rfl, gT_at 1 (by decide +kernel) rfl, by decide +kernel, by decide⟩, gT_at 749 (by decide +kernel) rfl, gT_at 750 (by decide +kernel) rfl, TX8, rfl⟩
theorem mk_L_112 : gVm RL 112 yX9_goes cX9_goes 3 (some .int) 2 9 := ⟨⟨gT_at 1270 (by decide +kernel) rfl, gT_at 1273 (by decide +kernel) rfl, gT_at 10 (by decide +kernel) rfl, by decide +kernel, by decide⟩, gT_at 1271 (by decide +kernel) rfl, gT_at 1272 (by decide +kernel) rfl, TX9, rfl⟩
theorem mk_L_113 : gVm RL 113 yX8_count cX8_count 2 (some .int) 1 8 := ⟨⟨gT_at 752 (by decide +kernel) rfl, gT_at 755 (by decide +kernel) rfl, gT_at 1 (by decide +kernel) rfl, by decide +kernel, by decide⟩, gT_at 753 (by decide +kernel) rfl, gT_at 754 (by decide +kernel) rfl, TX8, rfl⟩
theorem mk_L_116 : gVm RL 116 yX9_count cX9_count 2 (some .int) 1 9 := ⟨⟨gT_at 1274 (by decide +kernel) rfl, gT_at 1277 (by decide +kernel) rfl, gT_at 10 (by decide +kernel) rfl, by decide +kernel, by decide⟩, gT_at 1275 (by decide +kernel) rfl, gT_at 1276 (by decide +kernel) rfl, TX9, rfl⟩
theorem mk_X1_34 : gVm RX1 34 yX1_valueOf cX1_valueOf 9 (some .int) 2 1 := ⟨⟨gT_at 575 (by decide +kernel) rfl, gT_at 578 (by decide +kernel) rfl, gT_at 4 (by decide +kernel) rfl, by decide +kernel, by decide⟩, gT_at 577 (by decide +kernel) rfl, gT_pr 18 (by decide +kernel) rfl, TX1, rfl⟩
theorem mk_X1_41 : gVm RX1 41 yX1_push cX1_push 2 none 1 1 := ⟨⟨gT_at 579 (by decide +kernel) rfl, gT_at 582 (by decide +kernel) rfl, gT_at 4 (by decide +kernel) rfl, by decide +kernel, by decide⟩, gT_at 581 (by decide +kernel) rfl, gT_pr 19 (by decide +kernel) rfl, TX1, rfl⟩
theorem mk_X1_45 : gVm RX1 45 yX1_pop cX1_pop 1 (some .int) 0 1 := ⟨⟨gT_at 583 (by decide +kernel) rfl, gT_at 586 (by decide +kernel) rfl, gT_at 4 (by decide +kernel) rfl, by decide +kernel, by decide⟩, gT_at 585 (by decide +kernel) rfl, gT_pr 20 (by decide +kernel) rfl, TX1, rfl⟩
theorem mk_X1_49 : gSm RX1 49 yX1_joined cX1_joined 3 (some .int) 3 := ⟨⟨gT_at 587 (by decide +kernel) rfl, gT_at 589 (by decide +kernel) rfl, gT_at 4 (by decide +kernel) rfl, by decide +kernel, by decide⟩, gT_at 588 (by decide +kernel) rfl⟩
theorem mk_X2_60 : gNm RX2 60 yX8_within cX8_within 3 (some .boolean) 3 := ⟨"WaterCarts", gNl_in (List.mem_append_right _ (List.mem_of_getElem? (i := 606) (by decide +kernel))) (by decide), gT_at 368 (by decide +kernel) rfl, gT_at 1 (by decide +kernel) rfl, by decide +kernel, by decide, gT_at 367 (by decide +kernel) rfl⟩
theorem mk_X2_64 : gVm RX2 64 yX2_leastTrip cX2_leastTrip 5 (some .int) 1 2 := ⟨⟨gT_at 627 (by decide +kernel) rfl, gT_at 630 (by decide +kernel) rfl, gT_at 5 (by decide +kernel) rfl, by decide +kernel, by decide⟩, gT_at 629 (by decide +kernel) rfl, gT_pr 23 (by decide +kernel) rfl, TX2, rfl⟩
theorem mk_X2_74 : gVm RX2 74 yX2_search cX2_search 6 none 3 2 := ⟨⟨gT_at 642 (by decide +kernel) rfl, gT_at 645 (by decide +kernel) rfl, gT_at 5 (by decide +kernel) rfl, by decide +kernel, by decide⟩, gT_at 644 (by decide +kernel) rfl, gT_pr 26 (by decide +kernel) rfl, TX2, rfl⟩
theorem mk_X2_78 : gVm RX2 78 yX2_serves cX2_serves 3 (some .boolean) 2 2 := ⟨⟨gT_at 631 (by decide +kernel) rfl, gT_at 634 (by decide +kernel) rfl, gT_at 5 (by decide +kernel) rfl, by decide +kernel, by decide⟩, gT_at 633 (by decide +kernel) rfl, gT_pr 24 (by decide +kernel) rfl, TX2, rfl⟩
theorem mk_X2_82 : gVm RX2 82 yX2_load cX2_load 3 (some .int) 2 2 := ⟨⟨gT_at 635 (by decide +kernel) rfl, gT_at 638 (by decide +kernel) rfl, gT_at 5 (by decide +kernel) rfl, by decide +kernel, by decide⟩, gT_at 637 (by decide +kernel) rfl, gT_pr 25 (by decide +kernel) rfl, TX2, rfl⟩
theorem mk_X2_86 : gSm RX2 86 yJ9_min_7cf53 cJ9_min_7cf53 2 (some .int) 2 := ⟨⟨gT_at 639 (by decide +kernel) rfl, gT_at 641 (by decide +kernel) rfl, gT_at 15 (by decide +kernel) rfl, by decide +kernel, by decide⟩, gT_at 640 (by decide +kernel) rfl⟩
theorem mk_X2_91 : gVm RX2 91 yX2_keep cX2_keep 4 none 2 2 := ⟨⟨gT_at 646 (by decide +kernel) rfl, gT_at 649 (by decide +kernel) rfl, gT_at 5 (by decide +kernel) rfl, by decide +kernel, by decide⟩, gT_at 648 (by decide +kernel) rfl, gT_pr 27 (by decide +kernel) rfl, TX2, rfl⟩
theorem mk_X2_95 : gVm RX2 95 yX2_tryTrip cX2_tryTrip 7 none 4 2 := ⟨⟨gT_at 650 (by decide +kernel) rfl, gT_at 653 (by decide +kernel) rfl, gT_at 5 (by decide +kernel) rfl, by decide +kernel, by decide⟩, gT_at 652 (by decide +kernel) rfl, gT_pr 28 (by decide +kernel) rfl, TX2, rfl⟩
theorem mk_X3_28 : gVm RX3 28 yX6_scan cX6_scan 3 none 0 6 := ⟨⟨gT_at 413 (by decide +kernel) rfl, gT_at 416 (by decide +kernel) rfl, gT_at 3 (by decide +kernel) rfl, by decide +kernel, by decide⟩, gT_at 414 (by decide +kernel) rfl, gT_at 415 (by decide +kernel) rfl, TX6, rfl⟩
theorem mk_X3_31 : gVm RX3 31 yX1_clear cX1_clear 1 none 0 1 := ⟨⟨gT_at 514 (by decide +kernel) rfl, gT_at 517 (by decide +kernel) rfl, gT_at 4 (by decide +kernel) rfl, by decide +kernel, by decide⟩, gT_at 515 (by decide +kernel) rfl, gT_at 516 (by decide +kernel) rfl, TX1, rfl⟩
theorem mk_X3_41 : gVm RX3 41 yX3_token cX3_token 1 (some .int) 0 3 := ⟨⟨gT_at 518 (by decide +kernel) rfl, gT_at 521 (by decide +kernel) rfl, gT_at 2 (by decide +kernel) rfl, by decide +kernel, by decide⟩, gT_at 520 (by decide +kernel) rfl, gT_pr 9 (by decide +kernel) rfl, TX3, rfl⟩
theorem mk_X3_45 : gVm RX3 45 yX3_readLine cX3_readLine 3 (some .boolean) 0 3 := ⟨⟨gT_at 522 (by decide +kernel) rfl, gT_at 525 (by decide +kernel) rfl, gT_at 2 (by decide +kernel) rfl, by decide +kernel, by decide⟩, gT_at 524 (by decide +kernel) rfl, gT_pr 10 (by decide +kernel) rfl, TX3, rfl⟩
theorem mk_X3_56 : gVm RX3 56 yX3_wrong cX3_wrong 3 (some .boolean) 1 3 := ⟨⟨gT_at 526 (by decide +kernel) rfl, gT_at 529 (by decide +kernel) rfl, gT_at 2 (by decide +kernel) rfl, by decide +kernel, by decide⟩, gT_at 528 (by decide +kernel) rfl, gT_pr 11 (by decide +kernel) rfl, TX3, rfl⟩
theorem mk_X3_63 : gVm RX3 63 yX1_addLine cX1_addLine 3 none 2 1 := ⟨⟨gT_at 530 (by decide +kernel) rfl, gT_at 533 (by decide +kernel) rfl, gT_at 4 (by decide +kernel) rfl, by decide +kernel, by decide⟩, gT_at 531 (by decide +kernel) rfl, gT_at 532 (by decide +kernel) rfl, TX1, rfl⟩
theorem mk_X3_67 : gVm RX3 67 yX3_take cX3_take 2 (some .boolean) 1 3 := ⟨⟨gT_at 534 (by decide +kernel) rfl, gT_at 537 (by decide +kernel) rfl, gT_at 2 (by decide +kernel) rfl, by decide +kernel, by decide⟩, gT_at 536 (by decide +kernel) rfl, gT_pr 12 (by decide +kernel) rfl, TX3, rfl⟩
theorem mk_X3_70 : gVm RX3 70 yX3_readTests cX3_readTests 4 (some .boolean) 1 3 := ⟨⟨gT_at 538 (by decide +kernel) rfl, gT_at 541 (by decide +kernel) rfl, gT_at 2 (by decide +kernel) rfl, by decide +kernel, by decide⟩, gT_at 540 (by decide +kernel) rfl, gT_pr 13 (by decide +kernel) rfl, TX3, rfl⟩
theorem mk_X3_73 : gVm RX3 73 yX3_readTest cX3_readTest 4 (some .boolean) 1 3 := ⟨⟨gT_at 542 (by decide +kernel) rfl, gT_at 545 (by decide +kernel) rfl, gT_at 2 (by decide +kernel) rfl, by decide +kernel, by decide⟩, gT_at 544 (by decide +kernel) rfl, gT_pr 14 (by decide +kernel) rfl, TX3, rfl⟩
theorem mk_X3_76 : gVm RX3 76 yX1_addStep cX1_addStep 2 none 1 1 := ⟨⟨gT_at 554 (by decide +kernel) rfl, gT_at 557 (by decide +kernel) rfl, gT_at 4 (by decide +kernel) rfl, by decide +kernel, by decide⟩, gT_at 555 (by decide +kernel) rfl, gT_at 556 (by decide +kernel) rfl, TX1, rfl⟩
theorem mk_X3_80 : gVm RX3 80 yX3_readSum cX3_readSum 5 (some .boolean) 1 3 := ⟨⟨gT_at 546 (by decide +kernel) rfl, gT_at 549 (by decide +kernel) rfl, gT_at 2 (by decide +kernel) rfl, by decide +kernel, by decide⟩, gT_at 548 (by decide +kernel) rfl, gT_pr 15 (by decide +kernel) rfl, TX3, rfl⟩
theorem mk_X3_83 : gVm RX3 83 yX3_readPart cX3_readPart 3 (some .boolean) 1 3 := ⟨⟨gT_at 550 (by decide +kernel) rfl, gT_at 553 (by decide +kernel) rfl, gT_at 2 (by decide +kernel) rfl, by decide +kernel, by decide⟩, gT_at 552 (by decide +kernel) rfl, gT_pr 16 (by decide +kernel) rfl, TX3, rfl⟩
theorem mk_X4_25 : gSm RX4 25 yJ9_min_7cf53 cJ9_min_7cf53 2 (some .int) 2 := ⟨⟨gT_at 670 (by decide +kernel) rfl, gT_at 641 (by decide +kernel) rfl, gT_at 15 (by decide +kernel) rfl, by decide +kernel, by decide⟩, gT_at 640 (by decide +kernel) rfl⟩
theorem mk_X6_24 : gVm RX6 24 yX6_addSign cX6_addSign 2 none 1 6 := ⟨⟨gT_at 400 (by decide +kernel) rfl, gT_at 403 (by decide +kernel) rfl, gT_at 3 (by decide +kernel) rfl, by decide +kernel, by decide⟩, gT_at 402 (by decide +kernel) rfl, gT_pr 2 (by decide +kernel) rfl, TX6, rfl⟩
theorem mk_X6_28 : gNm RX6 28 yX8_within cX8_within 3 (some .boolean) 3 := ⟨"WaterCarts", gNl_in (List.mem_append_right _ (List.mem_of_getElem? (i := 404) (by decide +kernel))) (by decide), gT_at 368 (by decide +kernel) rfl, gT_at 1 (by decide +kernel) rfl, by decide +kernel, by decide, gT_at 367 (by decide +kernel) rfl⟩
theorem mk_X6_39 : gVm RX6 39 yX6_endOfRun cX6_endOfRun 5 (some .int) 1 6 := ⟨⟨gT_at 417 (by decide +kernel) rfl, gT_at 420 (by decide +kernel) rfl, gT_at 3 (by decide +kernel) rfl, by decide +kernel, by decide⟩, gT_at 419 (by decide +kernel) rfl, gT_pr 3 (by decide +kernel) rfl, TX6, rfl⟩
theorem mk_X6_43 : gSm RX6 43 yX6_isBlank cX6_isBlank 1 (some .boolean) 1 := ⟨⟨gT_at 427 (by decide +kernel) rfl, gT_at 429 (by decide +kernel) rfl, gT_at 3 (by decide +kernel) rfl, by decide +kernel, by decide⟩, gT_at 428 (by decide +kernel) rfl⟩
theorem mk_X6_47 : gVm RX6 47 yX6_tokenOf cX6_tokenOf 3 (some .int) 2 6 := ⟨⟨gT_at 430 (by decide +kernel) rfl, gT_at 433 (by decide +kernel) rfl, gT_at 3 (by decide +kernel) rfl, by decide +kernel, by decide⟩, gT_at 432 (by decide +kernel) rfl, gT_pr 4 (by decide +kernel) rfl, TX6, rfl⟩
theorem mk_X6_51 : gVm RX6 51 yX6_addToken cX6_addToken 3 none 2 6 := ⟨⟨gT_at 507 (by decide +kernel) rfl, gT_at 510 (by decide +kernel) rfl, gT_at 3 (by decide +kernel) rfl, by decide +kernel, by decide⟩, gT_at 509 (by decide +kernel) rfl, gT_pr 8 (by decide +kernel) rfl, TX6, rfl⟩
theorem mk_X6_55 : gSm RX6 55 yJ9_max_7cf53 cJ9_max_7cf53 2 (some .int) 2 := ⟨⟨gT_at 511 (by decide +kernel) rfl, gT_at 513 (by decide +kernel) rfl, gT_at 15 (by decide +kernel) rfl, by decide +kernel, by decide⟩, gT_at 512 (by decide +kernel) rfl⟩
theorem mk_X6_60 : gSm RX6 60 yX6_isLetter cX6_isLetter 1 (some .boolean) 1 := ⟨⟨gT_at 421 (by decide +kernel) rfl, gT_at 423 (by decide +kernel) rfl, gT_at 3 (by decide +kernel) rfl, by decide +kernel, by decide⟩, gT_at 422 (by decide +kernel) rfl⟩
theorem mk_X6_63 : gSm RX6 63 yX6_isDigit cX6_isDigit 1 (some .boolean) 1 := ⟨⟨gT_at 424 (by decide +kernel) rfl, gT_at 426 (by decide +kernel) rfl, gT_at 3 (by decide +kernel) rfl, by decide +kernel, by decide⟩, gT_at 425 (by decide +kernel) rfl⟩
theorem mk_X6_66 : gVm RX6 66 yX6_wordToken cX6_wordToken 3 (some .int) 2 6 := ⟨⟨gT_at 434 (by decide +kernel) rfl, gT_at 437 (by decide +kernel) rfl, gT_at 3 (by decide +kernel) rfl, by decide +kernel, by decide⟩, gT_at 436 (by decide +kernel) rfl, gT_pr 5 (by decide +kernel) rfl, TX6, rfl⟩
theorem mk_X6_69 : gVm RX6 69 yX6_numberToken cX6_numberToken 5 (some .int) 2 6 := ⟨⟨gT_at 500 (by decide +kernel) rfl, gT_at 503 (by decide +kernel) rfl, gT_at 3 (by decide +kernel) rfl, by decide +kernel, by decide⟩, gT_at 502 (by decide +kernel) rfl, gT_pr 7 (by decide +kernel) rfl, TX6, rfl⟩
theorem mk_X6_72 : gSm RX6 72 yX6_signToken cX6_signToken 1 (some .int) 1 := ⟨⟨gT_at 504 (by decide +kernel) rfl, gT_at 506 (by decide +kernel) rfl, gT_at 3 (by decide +kernel) rfl, by decide +kernel, by decide⟩, gT_at 505 (by decide +kernel) rfl⟩
theorem mk_X6_78 : gVm RX6 78 yX6_reads cX6_reads 5 (some .boolean) 3 6 := ⟨⟨gT_at 439 (by decide +kernel) rfl, gT_at 442 (by decide +kernel) rfl, gT_at 3 (by decide +kernel) rfl, by decide +kernel, by decide⟩, gT_at 441 (by decide +kernel) rfl, gT_pr 6 (by decide +kernel) rfl, TX6, rfl⟩
theorem mk_X7_22 : gSm RX7 22 yJ9_min_7cf53 cJ9_min_7cf53 2 (some .int) 2 := ⟨⟨gT_at 675 (by decide +kernel) rfl, gT_at 641 (by decide +kernel) rfl, gT_at 15 (by decide +kernel) rfl, by decide +kernel, by decide⟩, gT_at 640 (by decide +kernel) rfl⟩
theorem mk_X8_55 : gSm RX8 55 yX8_within cX8_within 3 (some .boolean) 3 := ⟨⟨gT_at 366 (by decide +kernel) rfl, gT_at 368 (by decide +kernel) rfl, gT_at 1 (by decide +kernel) rfl, by decide +kernel, by decide⟩, gT_at 367 (by decide +kernel) rfl⟩
theorem mk_X8_90 : gVm RX8 90 yX8_isSpring cX8_isSpring 2 (some .boolean) 1 8 := ⟨⟨gT_at 379 (by decide +kernel) rfl, gT_at 382 (by decide +kernel) rfl, gT_at 1 (by decide +kernel) rfl, by decide +kernel, by decide⟩, gT_at 381 (by decide +kernel) rfl, gT_pr 0 (by decide +kernel) rfl, TX8, rfl⟩
theorem mk_X8_106 : gVm RX8 106 yX8_isVillage cX8_isVillage 2 (some .boolean) 1 8 := ⟨⟨gT_at 387 (by decide +kernel) rfl, gT_at 390 (by decide +kernel) rfl, gT_at 1 (by decide +kernel) rfl, by decide +kernel, by decide⟩, gT_at 389 (by decide +kernel) rfl, gT_pr 1 (by decide +kernel) rfl, TX8, rfl⟩
theorem mk_X8_116 : gVm RX8 116 yX6_addEight cX6_addEight 4 none 1 6 := ⟨⟨gT_at 395 (by decide +kernel) rfl, gT_at 398 (by decide +kernel) rfl, gT_at 3 (by decide +kernel) rfl, by decide +kernel, by decide⟩, gT_at 396 (by decide +kernel) rfl, gT_at 397 (by decide +kernel) rfl, TX6, rfl⟩
theorem mk_X8_125 : gVm RX8 125 yX3_readText cX3_readText 3 (some .int) 0 3 := ⟨⟨gT_at 409 (by decide +kernel) rfl, gT_at 412 (by decide +kernel) rfl, gT_at 2 (by decide +kernel) rfl, by decide +kernel, by decide⟩, gT_at 410 (by decide +kernel) rfl, gT_at 411 (by decide +kernel) rfl, TX3, rfl⟩
theorem mk_X8_129 : gVm RX8 129 yX8_wantOf cX8_wantOf 3 (some .int) 1 8 := ⟨⟨gT_at 563 (by decide +kernel) rfl, gT_at 566 (by decide +kernel) rfl, gT_at 1 (by decide +kernel) rfl, by decide +kernel, by decide⟩, gT_at 565 (by decide +kernel) rfl, gT_pr 17 (by decide +kernel) rfl, TX8, rfl⟩
theorem mk_X8_133 : gVm RX8 133 yX8_makePlan cX8_makePlan 3 none 0 8 := ⟨⟨gT_at 594 (by decide +kernel) rfl, gT_at 597 (by decide +kernel) rfl, gT_at 1 (by decide +kernel) rfl, by decide +kernel, by decide⟩, gT_at 596 (by decide +kernel) rfl, gT_pr 21 (by decide +kernel) rfl, TX8, rfl⟩
theorem mk_X8_157 : gVm RX8 157 yX8_passDay cX8_passDay 2 none 0 8 := ⟨⟨gT_at 662 (by decide +kernel) rfl, gT_at 665 (by decide +kernel) rfl, gT_at 1 (by decide +kernel) rfl, by decide +kernel, by decide⟩, gT_at 664 (by decide +kernel) rfl, gT_pr 29 (by decide +kernel) rfl, TX8, rfl⟩
theorem mk_X8_163 : gSm RX8 163 yJ9_min_7cf53 cJ9_min_7cf53 2 (some .int) 2 := ⟨⟨gT_at 684 (by decide +kernel) rfl, gT_at 641 (by decide +kernel) rfl, gT_at 15 (by decide +kernel) rfl, by decide +kernel, by decide⟩, gT_at 640 (by decide +kernel) rfl⟩
theorem mk_X8_181 : gVm RX8 181 yX8_costOf cX8_costOf 4 (some .int) 1 8 := ⟨⟨gT_at 712 (by decide +kernel) rfl, gT_at 715 (by decide +kernel) rfl, gT_at 1 (by decide +kernel) rfl, by decide +kernel, by decide⟩, gT_at 714 (by decide +kernel) rfl, gT_pr 33 (by decide +kernel) rfl, TX8, rfl⟩
theorem mk_X8_185 : gVm RX8 185 yX8_worthOf cX8_worthOf 4 (some .int) 1 8 := ⟨⟨gT_at 716 (by decide +kernel) rfl, gT_at 719 (by decide +kernel) rfl, gT_at 1 (by decide +kernel) rfl, by decide +kernel, by decide⟩, gT_at 718 (by decide +kernel) rfl, gT_pr 34 (by decide +kernel) rfl, TX8, rfl⟩
theorem mk_X8_188 : gVm RX8 188 yX8_noneDrilled cX8_noneDrilled 3 (some .boolean) 1 8 := ⟨⟨gT_at 720 (by decide +kernel) rfl, gT_at 723 (by decide +kernel) rfl, gT_at 1 (by decide +kernel) rfl, by decide +kernel, by decide⟩, gT_at 722 (by decide +kernel) rfl, gT_pr 35 (by decide +kernel) rfl, TX8, rfl⟩
theorem mk_X8_195 : gVm RX8 195 yX8_isTanker cX8_isTanker 2 (some .boolean) 1 8 := ⟨⟨gT_at 680 (by decide +kernel) rfl, gT_at 683 (by decide +kernel) rfl, gT_at 1 (by decide +kernel) rfl, by decide +kernel, by decide⟩, gT_at 682 (by decide +kernel) rfl, gT_pr 31 (by decide +kernel) rfl, TX8, rfl⟩
theorem mk_X8_210 : gVm RX8 210 yX7_givenInWeek cX7_givenInWeek 3 (some .int) 0 7 := ⟨⟨gT_at 740 (by decide +kernel) rfl, gT_at 743 (by decide +kernel) rfl, gT_at 6 (by decide +kernel) rfl, by decide +kernel, by decide⟩, gT_at 741 (by decide +kernel) rfl, gT_at 742 (by decide +kernel) rfl, TX7, rfl⟩
theorem mk_X8_216 : gVm RX8 216 yX7_told cX7_told 2 (some .int) 1 7 := ⟨⟨gT_at 825 (by decide +kernel) rfl, gT_at 828 (by decide +kernel) rfl, gT_at 6 (by decide +kernel) rfl, by decide +kernel, by decide⟩, gT_at 826 (by decide +kernel) rfl, gT_at 827 (by decide +kernel) rfl, TX7, rfl⟩
theorem mk_X8_246 : gVm RX8 246 yX7_hundredths cX7_hundredths 1 (some .int) 0 7 := ⟨⟨gT_at 567 (by decide +kernel) rfl, gT_at 570 (by decide +kernel) rfl, gT_at 6 (by decide +kernel) rfl, by decide +kernel, by decide⟩, gT_at 568 (by decide +kernel) rfl, gT_at 569 (by decide +kernel) rfl, TX7, rfl⟩
theorem mk_X8_249 : gVm RX8 249 yX1_litresFor cX1_litresFor 5 (some .int) 3 1 := ⟨⟨gT_at 571 (by decide +kernel) rfl, gT_at 574 (by decide +kernel) rfl, gT_at 4 (by decide +kernel) rfl, by decide +kernel, by decide⟩, gT_at 572 (by decide +kernel) rfl, gT_at 573 (by decide +kernel) rfl, TX1, rfl⟩
theorem mk_X8_253 : gVm RX8 253 yX2_clear cX2_clear 1 none 0 2 := ⟨⟨gT_at 598 (by decide +kernel) rfl, gT_at 601 (by decide +kernel) rfl, gT_at 5 (by decide +kernel) rfl, by decide +kernel, by decide⟩, gT_at 599 (by decide +kernel) rfl, gT_at 600 (by decide +kernel) rfl, TX2, rfl⟩
theorem mk_X8_259 : gVm RX8 259 yX2_addTanker cX2_addTanker 4 none 3 2 := ⟨⟨gT_at 602 (by decide +kernel) rfl, gT_at 605 (by decide +kernel) rfl, gT_at 5 (by decide +kernel) rfl, by decide +kernel, by decide⟩, gT_at 603 (by decide +kernel) rfl, gT_at 604 (by decide +kernel) rfl, TX2, rfl⟩
theorem mk_X8_263 : gVm RX8 263 yX8_addNeedy cX8_addNeedy 4 none 2 8 := ⟨⟨gT_at 607 (by decide +kernel) rfl, gT_at 610 (by decide +kernel) rfl, gT_at 1 (by decide +kernel) rfl, by decide +kernel, by decide⟩, gT_at 609 (by decide +kernel) rfl, gT_pr 22 (by decide +kernel) rfl, TX8, rfl⟩
theorem mk_X8_267 : gVm RX8 267 yX2_findBest cX2_findBest 3 none 0 2 := ⟨⟨gT_at 623 (by decide +kernel) rfl, gT_at 626 (by decide +kernel) rfl, gT_at 5 (by decide +kernel) rfl, by decide +kernel, by decide⟩, gT_at 624 (by decide +kernel) rfl, gT_at 625 (by decide +kernel) rfl, TX2, rfl⟩
theorem mk_X8_270 : gVm RX8 270 yX7_room cX7_room 1 (some .int) 0 7 := ⟨⟨gT_at 611 (by decide +kernel) rfl, gT_at 614 (by decide +kernel) rfl, gT_at 6 (by decide +kernel) rfl, by decide +kernel, by decide⟩, gT_at 612 (by decide +kernel) rfl, gT_at 613 (by decide +kernel) rfl, TX7, rfl⟩
theorem mk_X8_273 : gVm RX8 273 yX2_addPlace cX2_addPlace 4 none 3 2 := ⟨⟨gT_at 615 (by decide +kernel) rfl, gT_at 618 (by decide +kernel) rfl, gT_at 5 (by decide +kernel) rfl, by decide +kernel, by decide⟩, gT_at 616 (by decide +kernel) rfl, gT_at 617 (by decide +kernel) rfl, TX2, rfl⟩
theorem mk_X8_276 : gVm RX8 276 yX2_setTrip cX2_setTrip 3 none 2 2 := ⟨⟨gT_at 619 (by decide +kernel) rfl, gT_at 622 (by decide +kernel) rfl, gT_at 5 (by decide +kernel) rfl, by decide +kernel, by decide⟩, gT_at 620 (by decide +kernel) rfl, gT_at 621 (by decide +kernel) rfl, TX2, rfl⟩
theorem mk_X8_279 : gVm RX8 279 yX4_run cX4_run 1 none 0 4 := ⟨⟨gT_at 666 (by decide +kernel) rfl, gT_at 669 (by decide +kernel) rfl, gT_at 7 (by decide +kernel) rfl, by decide +kernel, by decide⟩, gT_at 667 (by decide +kernel) rfl, gT_at 668 (by decide +kernel) rfl, TX4, rfl⟩
theorem mk_X8_282 : gVm RX8 282 yX7_fill cX7_fill 2 none 1 7 := ⟨⟨gT_at 671 (by decide +kernel) rfl, gT_at 674 (by decide +kernel) rfl, gT_at 6 (by decide +kernel) rfl, by decide +kernel, by decide⟩, gT_at 672 (by decide +kernel) rfl, gT_at 673 (by decide +kernel) rfl, TX7, rfl⟩
theorem mk_X8_286 : gVm RX8 286 yX8_drive cX8_drive 7 none 2 8 := ⟨⟨gT_at 676 (by decide +kernel) rfl, gT_at 679 (by decide +kernel) rfl, gT_at 1 (by decide +kernel) rfl, by decide +kernel, by decide⟩, gT_at 678 (by decide +kernel) rfl, gT_pr 30 (by decide +kernel) rfl, TX8, rfl⟩
theorem mk_X8_289 : gVm RX8 289 yX8_giveToAll cX8_giveToAll 4 none 0 8 := ⟨⟨gT_at 689 (by decide +kernel) rfl, gT_at 692 (by decide +kernel) rfl, gT_at 1 (by decide +kernel) rfl, by decide +kernel, by decide⟩, gT_at 691 (by decide +kernel) rfl, gT_pr 32 (by decide +kernel) rfl, TX8, rfl⟩
theorem mk_X8_295 : gVm RX8 295 yX5_carried cX5_carried 3 none 2 5 := ⟨⟨gT_at 685 (by decide +kernel) rfl, gT_at 688 (by decide +kernel) rfl, gT_at 8 (by decide +kernel) rfl, by decide +kernel, by decide⟩, gT_at 686 (by decide +kernel) rfl, gT_at 687 (by decide +kernel) rfl, TX5, rfl⟩
theorem mk_X8_298 : gSm RX8 298 yJ9_floorMod_7cf53 cJ9_floorMod_7cf53 3 (some .int) 2 := ⟨⟨gT_at 693 (by decide +kernel) rfl, gT_at 695 (by decide +kernel) rfl, gT_at 15 (by decide +kernel) rfl, by decide +kernel, by decide⟩, gT_at 694 (by decide +kernel) rfl⟩
theorem mk_X8_301 : gVm RX8 301 yX7_give cX7_give 3 none 2 7 := ⟨⟨gT_at 696 (by decide +kernel) rfl, gT_at 699 (by decide +kernel) rfl, gT_at 6 (by decide +kernel) rfl, by decide +kernel, by decide⟩, gT_at 697 (by decide +kernel) rfl, gT_at 698 (by decide +kernel) rfl, TX7, rfl⟩
theorem mk_X9_7 : gVm RX9 7 yX9_lay cX9_lay 5 none 1 9 := ⟨⟨gT_at 837 (by decide +kernel) rfl, gT_at 841 (by decide +kernel) rfl, gT_at 10 (by decide +kernel) rfl, by decide +kernel, by decide⟩, gT_at 839 (by decide +kernel) rfl, gT_pr 37 (by decide +kernel) rfl, TX9, rfl⟩
theorem mk_X9_193 : gSm RX9 193 yX9_isLetter cX9_isLetter 1 (some .boolean) 1 := ⟨⟨gT_at 1081 (by decide +kernel) rfl, gT_at 1083 (by decide +kernel) rfl, gT_at 10 (by decide +kernel) rfl, by decide +kernel, by decide⟩, gT_at 1082 (by decide +kernel) rfl⟩
theorem mk_X9_202 : gSm RX9 202 yX9_rank cX9_rank 1 (some .int) 1 := ⟨⟨gT_at 1085 (by decide +kernel) rfl, gT_at 1087 (by decide +kernel) rfl, gT_at 10 (by decide +kernel) rfl, by decide +kernel, by decide⟩, gT_at 1086 (by decide +kernel) rfl⟩
theorem mk_X9_206 : gSm RX9 206 yX9_isDigit cX9_isDigit 1 (some .boolean) 1 := ⟨⟨gT_at 1088 (by decide +kernel) rfl, gT_at 1090 (by decide +kernel) rfl, gT_at 10 (by decide +kernel) rfl, by decide +kernel, by decide⟩, gT_at 1089 (by decide +kernel) rfl⟩
theorem mk_X9_213 : gSm RX9 213 yX9_isSignOf cX9_isSignOf 1 (some .boolean) 1 := ⟨⟨gT_at 1093 (by decide +kernel) rfl, gT_at 1095 (by decide +kernel) rfl, gT_at 10 (by decide +kernel) rfl, by decide +kernel, by decide⟩, gT_at 1094 (by decide +kernel) rfl⟩
theorem mk_X9_222 : gVm RX9 222 yX9_isSign cX9_isSign 2 (some .boolean) 1 9 := ⟨⟨gT_at 1129 (by decide +kernel) rfl, gT_at 1132 (by decide +kernel) rfl, gT_at 10 (by decide +kernel) rfl, by decide +kernel, by decide⟩, gT_at 1131 (by decide +kernel) rfl, gT_pr 47 (by decide +kernel) rfl, TX9, rfl⟩
theorem mk_X9_225 : gVm RX9 225 yX9_wrong cX9_wrong 2 none 1 9 := ⟨⟨gT_at 1104 (by decide +kernel) rfl, gT_at 1107 (by decide +kernel) rfl, gT_at 10 (by decide +kernel) rfl, by decide +kernel, by decide⟩, gT_at 1106 (by decide +kernel) rfl, gT_pr 41 (by decide +kernel) rfl, TX9, rfl⟩
theorem mk_X9_229 : gVm RX9 229 yX9_isWord cX9_isWord 2 (some .boolean) 1 9 := ⟨⟨gT_at 1100 (by decide +kernel) rfl, gT_at 1103 (by decide +kernel) rfl, gT_at 10 (by decide +kernel) rfl, by decide +kernel, by decide⟩, gT_at 1102 (by decide +kernel) rfl, gT_pr 40 (by decide +kernel) rfl, TX9, rfl⟩
theorem mk_X9_232 : gVm RX9 232 yX9_hasWord cX9_hasWord 3 (some .boolean) 1 9 := ⟨⟨gT_at 1113 (by decide +kernel) rfl, gT_at 1116 (by decide +kernel) rfl, gT_at 10 (by decide +kernel) rfl, by decide +kernel, by decide⟩, gT_at 1115 (by decide +kernel) rfl, gT_pr 43 (by decide +kernel) rfl, TX9, rfl⟩
theorem mk_X9_241 : gVm RX9 241 yX9_cutAll cX9_cutAll 7 none 0 9 := ⟨⟨gT_at 1077 (by decide +kernel) rfl, gT_at 1080 (by decide +kernel) rfl, gT_at 10 (by decide +kernel) rfl, by decide +kernel, by decide⟩, gT_at 1079 (by decide +kernel) rfl, gT_pr 38 (by decide +kernel) rfl, TX9, rfl⟩
theorem mk_X9_247 : gVm RX9 247 yX9_line cX9_line 4 none 0 9 := ⟨⟨gT_at 1096 (by decide +kernel) rfl, gT_at 1099 (by decide +kernel) rfl, gT_at 10 (by decide +kernel) rfl, by decide +kernel, by decide⟩, gT_at 1098 (by decide +kernel) rfl, gT_pr 39 (by decide +kernel) rfl, TX9, rfl⟩
theorem mk_X9_252 : gVm RX9 252 yX9_takeWord cX9_takeWord 2 none 1 9 := ⟨⟨gT_at 1109 (by decide +kernel) rfl, gT_at 1112 (by decide +kernel) rfl, gT_at 10 (by decide +kernel) rfl, by decide +kernel, by decide⟩, gT_at 1111 (by decide +kernel) rfl, gT_pr 42 (by decide +kernel) rfl, TX9, rfl⟩
theorem mk_X9_258 : gVm RX9 258 yX9_opens cX9_opens 1 none 0 9 := ⟨⟨gT_at 1117 (by decide +kernel) rfl, gT_at 1120 (by decide +kernel) rfl, gT_at 10 (by decide +kernel) rfl, by decide +kernel, by decide⟩, gT_at 1119 (by decide +kernel) rfl, gT_pr 44 (by decide +kernel) rfl, TX9, rfl⟩
theorem mk_X9_261 : gVm RX9 261 yX9_part cX9_part 2 (some .boolean) 0 9 := ⟨⟨gT_at 1121 (by decide +kernel) rfl, gT_at 1124 (by decide +kernel) rfl, gT_at 10 (by decide +kernel) rfl, by decide +kernel, by decide⟩, gT_at 1123 (by decide +kernel) rfl, gT_pr 45 (by decide +kernel) rfl, TX9, rfl⟩
theorem mk_X9_265 : gVm RX9 265 yX9_goesOnBehind cX9_goesOnBehind 1 (some .boolean) 0 9 := ⟨⟨gT_at 1141 (by decide +kernel) rfl, gT_at 1144 (by decide +kernel) rfl, gT_at 10 (by decide +kernel) rfl, by decide +kernel, by decide⟩, gT_at 1143 (by decide +kernel) rfl, gT_pr 50 (by decide +kernel) rfl, TX9, rfl⟩
theorem mk_X9_268 : gVm RX9 268 yX9_emit cX9_emit 3 none 2 9 := ⟨⟨gT_at 1137 (by decide +kernel) rfl, gT_at 1140 (by decide +kernel) rfl, gT_at 10 (by decide +kernel) rfl, by decide +kernel, by decide⟩, gT_at 1139 (by decide +kernel) rfl, gT_pr 49 (by decide +kernel) rfl, TX9, rfl⟩
theorem mk_X9_272 : gVm RX9 272 yX9_takeSign cX9_takeSign 2 none 1 9 := ⟨⟨gT_at 1145 (by decide +kernel) rfl, gT_at 1148 (by decide +kernel) rfl, gT_at 10 (by decide +kernel) rfl, by decide +kernel, by decide⟩, gT_at 1147 (by decide +kernel) rfl, gT_pr 51 (by decide +kernel) rfl, TX9, rfl⟩
theorem mk_X9_275 : gVm RX9 275 yX9_partWord cX9_partWord 2 (some .int) 0 9 := ⟨⟨gT_at 1125 (by decide +kernel) rfl, gT_at 1128 (by decide +kernel) rfl, gT_at 10 (by decide +kernel) rfl, by decide +kernel, by decide⟩, gT_at 1127 (by decide +kernel) rfl, gT_pr 46 (by decide +kernel) rfl, TX9, rfl⟩
theorem mk_X9_279 : gVm RX9 279 yX9_hasSign cX9_hasSign 3 (some .boolean) 1 9 := ⟨⟨gT_at 1133 (by decide +kernel) rfl, gT_at 1136 (by decide +kernel) rfl, gT_at 10 (by decide +kernel) rfl, by decide +kernel, by decide⟩, gT_at 1135 (by decide +kernel) rfl, gT_pr 48 (by decide +kernel) rfl, TX9, rfl⟩
theorem mk_X9_282 : gSm RX9 282 yX9_within cX9_within 3 (some .boolean) 3 := ⟨⟨gT_at 1153 (by decide +kernel) rfl, gT_at 1155 (by decide +kernel) rfl, gT_at 10 (by decide +kernel) rfl, by decide +kernel, by decide⟩, gT_at 1154 (by decide +kernel) rfl⟩
theorem mk_X9_297 : gVm RX9 297 yX9_isVillage cX9_isVillage 2 (some .boolean) 1 9 := ⟨⟨gT_at 1170 (by decide +kernel) rfl, gT_at 1173 (by decide +kernel) rfl, gT_at 10 (by decide +kernel) rfl, by decide +kernel, by decide⟩, gT_at 1172 (by decide +kernel) rfl, gT_pr 52 (by decide +kernel) rfl, TX9, rfl⟩
theorem mk_X9_300 : gVm RX9 300 yX9_worth cX9_worth 7 (some .int) 1 9 := ⟨⟨gT_at 1187 (by decide +kernel) rfl, gT_at 1190 (by decide +kernel) rfl, gT_at 10 (by decide +kernel) rfl, by decide +kernel, by decide⟩, gT_at 1189 (by decide +kernel) rfl, gT_pr 55 (by decide +kernel) rfl, TX9, rfl⟩
theorem mk_X9_308 : gVm RX9 308 yX9_litres cX9_litres 4 (some .int) 2 9 := ⟨⟨gT_at 1183 (by decide +kernel) rfl, gT_at 1186 (by decide +kernel) rfl, gT_at 10 (by decide +kernel) rfl, by decide +kernel, by decide⟩, gT_at 1185 (by decide +kernel) rfl, gT_pr 54 (by decide +kernel) rfl, TX9, rfl⟩
theorem mk_X9_315 : gVm RX9 315 yX9_wantOf cX9_wantOf 3 (some .int) 2 9 := ⟨⟨gT_at 1178 (by decide +kernel) rfl, gT_at 1181 (by decide +kernel) rfl, gT_at 10 (by decide +kernel) rfl, by decide +kernel, by decide⟩, gT_at 1180 (by decide +kernel) rfl, gT_pr 53 (by decide +kernel) rfl, TX9, rfl⟩
theorem mk_X9_325 : gSm RX9 325 yX9_least cX9_least 2 (some .int) 2 := ⟨⟨gT_at 1207 (by decide +kernel) rfl, gT_at 1209 (by decide +kernel) rfl, gT_at 10 (by decide +kernel) rfl, by decide +kernel, by decide⟩, gT_at 1208 (by decide +kernel) rfl⟩
theorem mk_X9_328 : gVm RX9 328 yX9_findNeedy cX9_findNeedy 4 none 1 9 := ⟨⟨gT_at 1199 (by decide +kernel) rfl, gT_at 1202 (by decide +kernel) rfl, gT_at 10 (by decide +kernel) rfl, by decide +kernel, by decide⟩, gT_at 1201 (by decide +kernel) rfl, gT_pr 57 (by decide +kernel) rfl, TX9, rfl⟩
theorem mk_X9_334 : gVm RX9 334 yX9_tries cX9_tries 8 (some .int) 0 9 := ⟨⟨gT_at 1203 (by decide +kernel) rfl, gT_at 1206 (by decide +kernel) rfl, gT_at 10 (by decide +kernel) rfl, by decide +kernel, by decide⟩, gT_at 1205 (by decide +kernel) rfl, gT_pr 58 (by decide +kernel) rfl, TX9, rfl⟩
theorem mk_X9_337 : gVm RX9 337 yX9_milesSent cX9_milesSent 3 (some .int) 0 9 := ⟨⟨gT_at 1210 (by decide +kernel) rfl, gT_at 1213 (by decide +kernel) rfl, gT_at 10 (by decide +kernel) rfl, by decide +kernel, by decide⟩, gT_at 1212 (by decide +kernel) rfl, gT_pr 59 (by decide +kernel) rfl, TX9, rfl⟩
theorem mk_X9_343 : gVm RX9 343 yX9_findPlan cX9_findPlan 8 none 1 9 := ⟨⟨gT_at 1195 (by decide +kernel) rfl, gT_at 1198 (by decide +kernel) rfl, gT_at 10 (by decide +kernel) rfl, by decide +kernel, by decide⟩, gT_at 1197 (by decide +kernel) rfl, gT_pr 56 (by decide +kernel) rfl, TX9, rfl⟩
theorem mk_X9_349 : gVm RX9 349 yX9_springsGrow cX9_springsGrow 2 none 0 9 := ⟨⟨gT_at 1222 (by decide +kernel) rfl, gT_at 1225 (by decide +kernel) rfl, gT_at 10 (by decide +kernel) rfl, by decide +kernel, by decide⟩, gT_at 1224 (by decide +kernel) rfl, gT_pr 60 (by decide +kernel) rfl, TX9, rfl⟩
theorem mk_X9_352 : gVm RX9 352 yX9_brings cX9_brings 6 none 0 9 := ⟨⟨gT_at 1226 (by decide +kernel) rfl, gT_at 1229 (by decide +kernel) rfl, gT_at 10 (by decide +kernel) rfl, by decide +kernel, by decide⟩, gT_at 1228 (by decide +kernel) rfl, gT_pr 61 (by decide +kernel) rfl, TX9, rfl⟩
theorem mk_X9_355 : gVm RX9 355 yX9_gives cX9_gives 6 none 1 9 := ⟨⟨gT_at 1230 (by decide +kernel) rfl, gT_at 1233 (by decide +kernel) rfl, gT_at 10 (by decide +kernel) rfl, by decide +kernel, by decide⟩, gT_at 1232 (by decide +kernel) rfl, gT_pr 62 (by decide +kernel) rfl, TX9, rfl⟩
theorem ck_X8_59 : Cond.constant RX8 59 100000 ∈ gT := gT_at 369 (by decide +kernel) rfl
theorem ck_X8_76 : Cond.constant RX8 76 200000 ∈ gT := gT_at 374 (by decide +kernel) rfl
theorem ck_X6_22 : Cond.constantLong RX6 22 255 ∈ gT := gT_at 399 (by decide +kernel) rfl
theorem ck_X9_34 : Cond.constantLong RX9 34 412110 ∈ gT := gT_at 847 (by decide +kernel) rfl
theorem ck_X9_36 : Cond.constantLong RX9 36 4003679 ∈ gT := gT_at 848 (by decide +kernel) rfl
theorem ck_X9_38 : Cond.constantLong RX9 38 1176170 ∈ gT := gT_at 849 (by decide +kernel) rfl
theorem ck_X9_40 : Cond.constantLong RX9 40 1891 ∈ gT := gT_at 850 (by decide +kernel) rfl
theorem ck_X9_42 : Cond.constantLong RX9 42 5538 ∈ gT := gT_at 851 (by decide +kernel) rfl
theorem ck_X9_44 : Cond.constantLong RX9 44 1119656265 ∈ gT := gT_at 852 (by decide +kernel) rfl
theorem ck_X9_46 : Cond.constantLong RX9 46 148136142 ∈ gT := gT_at 853 (by decide +kernel) rfl
theorem ck_X9_48 : Cond.constantLong RX9 48 204925 ∈ gT := gT_at 854 (by decide +kernel) rfl
theorem ck_X9_50 : Cond.constantLong RX9 50 333123 ∈ gT := gT_at 855 (by decide +kernel) rfl
theorem ck_X9_52 : Cond.constantLong RX9 52 6167 ∈ gT := gT_at 856 (by decide +kernel) rfl
theorem ck_X9_200 : Cond.constantLong RX9 200 37 ∈ gT := gT_at 1084 (by decide +kernel) rfl
theorem ck_X9_209 : Cond.constantLong RX9 209 10 ∈ gT := gT_at 1091 (by decide +kernel) rfl
theorem ck_X9_211 : Cond.constantLong RX9 211 48 ∈ gT := gT_at 1092 (by decide +kernel) rfl
theorem ck_X9_250 : Cond.constantLong RX9 250 99 ∈ gT := gT_at 1108 (by decide +kernel) rfl
theorem ck_X9_286 : Cond.constant RX9 286 100000 ∈ gT := gT_at 1156 (by decide +kernel) rfl
theorem ck_X9_290 : Cond.constant RX9 290 200000 ∈ gT := gT_at 1161 (by decide +kernel) rfl
theorem ck_X9_303 : Cond.constantLong RX9 303 100 ∈ gT := gT_at 1182 (by decide +kernel) rfl
theorem ck_L_38 : Cond.constantLong RL 38 4294967295 ∈ gT := gT_at 1278 (by decide +kernel) rfl
end
section
theorem r_getIv {d mc ms : Nat} {own : String} {cc : ByteArray} {nL : Nat} {G : gJ} (hG : gS d mc ms own cc nL G) {Z : Nat × Nat × Nat} {pc : Nat} {L : List (Option Value)} {st : List Value} {M : gM} {k ci index z : Nat} (j : Nat) (x : Int32) (hf : gFk own index ci j) (hd : decode cc pc = .ok (.getfield index, 3)) (hkd : gK k = (0, ci, z)) (hk : k < Z.1) (hc : gfc ci j = false) (hv : M.1 k j = x) (kk : G Z (pc + 3) L (.int x :: st) M) : G Z pc L (.ref k :: st) M := r_getI hG j hf hd hkd hk hc (by rw [hv]; exact kk)
theorem r_ialdv {d mc ms : Nat} {own : String} {cc : ByteArray} {nL : Nat} {G : gJ} (hG : gS d mc ms own cc nL G) {Z : Nat × Nat × Nat} {pc : Nat} {L : List (Option Value)} {st : List Value} {M : gM} {k n : Nat} {i : Int32} (q : Nat) (x : Int32) (hd : decode cc pc = .ok (.iaload, 1)) (hkd : gK k = (1, 0, n)) (hk : k < Z.1) (hi : i = nI q) (hq : q < n) (hn : n < 2147483648) (hv : M.1 k q = x) (kk : G Z (pc + 1) L (.int x :: st) M) : G Z pc L (.int i :: .ref k :: st) M := r_iald hG q hd hkd hk hi hq hn (by rw [hv]; exact kk)
theorem r_caldv {d mc ms : Nat} {own : String} {cc : ByteArray} {nL : Nat} {G : gJ} (hG : gS d mc ms own cc nL G) {Z : Nat × Nat × Nat} {pc : Nat} {L : List (Option Value)} {st : List Value} {M : gM} {k n : Nat} {i : Int32} (q : Nat) (x : Int32) (hd : decode cc pc = .ok (.caload, 1)) (hkd : gK k = (1, 2, n)) (hk : k < Z.1) (hi : i = nI q) (hq : q < n) (hn : n < 2147483648) (hv : M.1 k q = x) (kk : G Z (pc + 1) L (.int x :: st) M) : G Z pc L (.int i :: .ref k :: st) M := r_cald hG q hd hkd hk hi hq hn (by rw [hv]; exact kk)
theorem r_zaldv {d mc ms : Nat} {own : String} {cc : ByteArray} {nL : Nat} {G : gJ} (hG : gS d mc ms own cc nL G) {Z : Nat × Nat × Nat} {pc : Nat} {L : List (Option Value)} {st : List Value} {M : gM} {k n : Nat} {i : Int32} (q : Nat) (x : Int32) (hd : decode cc pc = .ok (.baload, 1)) (hkd : gK k = (1, 3, n)) (hk : k < Z.1) (hi : i = nI q) (hq : q < n) (hn : n < 2147483648) (hv : M.1 k q = x) (kk : G Z (pc + 1) L (.int x :: st) M) : G Z pc L (.int i :: .ref k :: st) M := r_zald hG q hd hkd hk hi hq hn (by rw [hv]; exact kk)
theorem r_laldv {d mc ms : Nat} {own : String} {cc : ByteArray} {nL : Nat} {G : gJ} (hG : gS d mc ms own cc nL G) {Z : Nat × Nat × Nat} {pc : Nat} {L : List (Option Value)} {st : List Value} {M : gM} {k n : Nat} {i : Int32} (q : Nat) (x : Int64) (hd : decode cc pc = .ok (.laload, 1)) (hkd : gK k = (2, 1, n)) (hk : k < Z.1) (hi : i = nI q) (hq : q < n) (hn : n < 2147483648) (hv : M.2.1 k q = x) (kk : G Z (pc + 1) L (.long x :: st) M) : G Z pc L (.int i :: .ref k :: st) M := r_lald hG q hd hkd hk hi hq hn (by rw [hv]; exact kk)
theorem gwL_s {M : gM} {k j : Nat} {v : Int64} : (gwL M k j v).2.1 k j = v := by simp [gwL]
theorem gwL_n {M : gM} {k j a b : Nat} {v : Int64} (h : ¬ (a = k ∧ b = j)) : (gwL M k j v).2.1 a b = M.2.1 a b := by simp [gwL, h]
theorem gwI_rd {M : gM} {k j a b : Nat} {v : Int32} : (gwI M k j v).1 a b = if a = k ∧ b = j then v else M.1 a b := rfl
def mmin (x y : Int32) : Int32 := if y < x then y else x
def mmax (x y : Int32) : Int32 := if x < y then y else x
/-- a boolean answer -/
def bI (A : Prop) (x : Int32) : Prop := (x = 1 ∧ A) ∨ (x = 0 ∧ ¬ A)
theorem nlt_t {a b : Nat} (ha : a < 2147483648) (hb : b < 2147483648) (h : nI a < nI b) : a < b := (nI_ltI ha hb).mp h
theorem nlt_f {a b : Nat} (ha : a < 2147483648) (hb : b < 2147483648) (h : ¬ nI a < nI b) : b ≤ a := Nat.not_lt.mp fun q => h ((nI_ltI ha hb).mpr q)
theorem nle_t {a b : Nat} (ha : a < 2147483648) (hb : b < 2147483648) (h : nI a ≤ nI b) : a ≤ b := (nI_leI ha hb).mp h
theorem nle_f {a b : Nat} (ha : a < 2147483648) (hb : b < 2147483648) (h : ¬ nI a ≤ nI b) : b < a := Nat.not_le.mp fun q => h ((nI_leI ha hb).mpr q)
theorem neq_t {a b : Nat} (ha : a < 2147483648) (hb : b < 2147483648) (h : nI a = nI b) : a = b := (nI_eq ha hb).mp h
theorem neq_f {a b : Nat} (ha : a < 2147483648) (hb : b < 2147483648) (h : ¬ nI a = nI b) : a ≠ b := fun q => h ((nI_eq ha hb).mpr q)
/-- a value on the stack under another name -/
theorem r_top {G : gJ} {Z : Nat × Nat × Nat} {pc : Nat} {L : List (Option Value)} {st : List Value} {M : gM} {x : Int32} (y : Int32) (h : x = y) (kk : G Z pc L (.int y :: st) M) : G Z pc L (.int x :: st) M := h ▸ kk
theorem r_mem {G : gJ} {Z : Nat × Nat × Nat} {pc : Nat} {L : List (Option Value)} {st : List Value} {M : gM} (M2 : gM) (h : M = M2) (kk : G Z pc L st M2) : G Z pc L st M := h ▸ kk
theorem r_loc {G : gJ} {Z : Nat × Nat × Nat} {pc : Nat} {L : List (Option Value)} {st : List Value} {M : gM} (L2 : List (Option Value)) (h : L = L2) (kk : G Z pc L2 st M) : G Z pc L st M := h ▸ kk
theorem gkV {i : Nat} (h : i < 12) : gK (2 * i + 42) = (0, 7, 0) := (by decide : ∀ i, i < 12 → gK (2 * i + 42) = (0, 7, 0)) i h
theorem gkW {i : Nat} (h : i < 12) : gK (2 * i + 43) = (1, 0, 7) := (by decide : ∀ i, i < 12 → gK (2 * i + 43) = (1, 0, 7)) i h
theorem gkS {i : Nat} (h : i < 4) : gK (2 * i + 66) = (0, 4, 0) := (by decide : ∀ i, i < 4 → gK (2 * i + 66) = (0, 4, 0)) i h
theorem gkY {i : Nat} (h : i < 4) : gK (2 * i + 67) = (1, 0, 12) := (by decide : ∀ i, i < 4 → gK (2 * i + 67) = (1, 0, 12)) i h
theorem gkT {i : Nat} (h : i < 4) : gK (i + 74) = (0, 5, 0) := (by decide : ∀ i, i < 4 → gK (i + 74) = (0, 5, 0)) i h
theorem gkB {i : Nat} (h : i < 10) : gK (i + 78) = (0, 0, 0) := (by decide : ∀ i, i < 10 → gK (i + 78) = (0, 0, 0)) i h
theorem gkR {i : Nat} (h : i < 6) : gK (i + 32) = (1, 0, 4) := (by decide : ∀ i, i < 6 → gK (i + 32) = (1, 0, 4)) i h
theorem gkO {o : Nat} (h : o = 11 ∨ o = 17) : gK o = (0, 1, 0) := by rcases h with rfl | rfl <;> rfl
theorem gkO1 {o : Nat} (h : o = 11 ∨ o = 17) : gK (o + 1) = (1, 0, 16) := by rcases h with rfl | rfl <;> rfl
theorem gkO2 {o : Nat} (h : o = 11 ∨ o = 17) : gK (o + 2) = (1, 0, 16) := by rcases h with rfl | rfl <;> rfl
theorem gkO3 {o : Nat} (h : o = 11 ∨ o = 17) : gK (o + 3) = (1, 0, 16) := by rcases h with rfl | rfl <;> rfl
theorem gkO4 {o : Nat} (h : o = 11 ∨ o = 17) : gK (o + 4) = (1, 0, 600) := by rcases h with rfl | rfl <;> rfl
theorem gkO5 {o : Nat} (h : o = 11 ∨ o = 17) : gK (o + 5) = (1, 0, 32) := by rcases h with rfl | rfl <;> rfl
theorem sr {M : gM} {b : Bool} {k j k2 : Nat} (hR : M.2.2 = stdR b) (h : stdR b k j = some k2) : M.2.2 k j = some k2 := by rw [hR]; exact h
theorem sRw {b : Bool} {i : Nat} (h : i < 12) : stdR b (2 * i + 42) 10 = some (2 * i + 43) := (by decide : ∀ b, ∀ i, i < 12 → stdR b (2 * i + 42) 10 = some (2 * i + 43)) b i h
theorem sRy {b : Bool} {i : Nat} (h : i < 4) : stdR b (2 * i + 66) 4 = some (2 * i + 67) := (by decide : ∀ b, ∀ i, i < 4 → stdR b (2 * i + 66) 4 = some (2 * i + 67)) b i h
theorem sRo {b : Bool} {o j : Nat} (h : o = 11 ∨ o = 17) : stdR b o j = some (o + (j + 1)) := by
  rcases h with rfl | rfl <;> simp [stdR] <;> omega
theorem gwI_s {M : gM} {k j : Nat} {v : Int32} : (gwI M k j v).1 k j = v := by simp [gwI]
theorem gwI_n {M : gM} {k j a b : Nat} {v : Int32} (h : ¬ (a = k ∧ b = j)) : (gwI M k j v).1 a b = M.1 a b := by simp [gwI, h]
end
section
set_option maxHeartbeats 1000000 in
theorem gC_iF {d mc ms : Nat} {y : MethodName} {cc : ByteArray} {nL : Nat} {ty : FieldType} {n n' : Nat} {As : List Value} {M : gM} {P : Int32 → gM → Prop} (hy : plainFor y = true) (hlen : (gent As).length ≤ nL)
    (body : ∀ G, gS d mc ms y.cls cc nL G → gEi n' mc ms cc ty P G → G (n, 0, 0) 0 (gpad nL (gent As)) [] M) : gC d mc ms y cc nL (some ty) n n' As M (gI P) := by
  intro l D dA ad sz
  refine va_MetF (cc := cc) (maxL := nL) (ret := some ty) hy rfl ?_
  intro p e s m args below meth c s₁ B hml hv
  obtain ⟨rfl, hsz, hP, hD, hK, hX⟩ := hv
  subst hsz
  have hts := atoms_spec (ws := gWs y cc nL (some ty)) B.pre
  have hown : s.vm.findClass y.cls = some m.cls := findClass_of_methodNamed B.named
  have hlk := B.notSynchronized
  rw [lg_entry_eq]
  refine body (gG p l e (gRm d mc ms) s m (As.map (gtr ad)).toArray below meth c D dA n ad nL (MQ below (gQ D dA n n' ad s.heap.size (gI P)) (As.map (gtr ad)).toArray s mc ms (gA ad n s.heap.size))) ?_ ?_ ad s.heap [] _ gExt.rf hP (gD_self hD) va_S.rf (gl_entry hlen)
  · exact ⟨p, l, e, gRm d mc ms, s, m, _, below, meth, c, D, dA, n, ad, _, ⟨B.exec, B.bytes, hml, hown, fun w hw => hts w (List.mem_cons_of_mem _ hw), hK, hlk, Nat.le_refl _, Nat.le_refl _, hX⟩, rfl, rfl, rfl⟩
  · intro Z pc L x M' hd hz h1 h2 hn hp ad' H locs ls he hP' hD' hS hl
    subst hz
    refine W.widen (k := mc) (n := ms) h1 h2 ?_
    exact W.zret B.exec B.bytes B.returns hn (fun t ht hW => ⟨⟨some (.int x), ad', M', rfl, ⟨x, rfl, hp⟩, he, by rw [ht]; exact hP', hD'⟩, hS.F ht⟩) hS.2.2 hd hlk

def vIn (v : Int32) (n : Nat) : Prop := ∃ q : Nat, q < n ∧ v = nI q
theorem wi_iff {v : Int32} {n : Nat} (hn : n < 1000000) : (0 ≤ v ∧ v ≤ nI n - 1) ↔ vIn v n := by
  have h1 : (nI n - 1).toInt = (n : Int) - 1 := by
    have := pk_sub_toInt (a := n) (b := 1) (by omega) (by omega)
    exact this
  constructor
  · rintro ⟨h, h2⟩
    have h3 : ¬ v < 0 := Int32.not_lt.mpr h
    obtain ⟨j, hj, rfl⟩ := nI_of h3
    refine ⟨j, ?_, rfl⟩
    rw [Int32.le_iff_toInt_le, h1, nI_toInt hj] at h2
    omega
  · rintro ⟨q, hq, rfl⟩
    refine ⟨nI_pos' (by omega), ?_⟩
    rw [Int32.le_iff_toInt_le, h1, nI_toInt (by omega)]
    omega
def sumI (f : Nat → Int32) : Nat → Int32
  | 0 => 0
  | n + 1 => sumI f n + f n
theorem bI_iff {A B : Prop} {x : Int32} (h : A ↔ B) (hb : bI A x) : bI B x := hb.imp (fun q => ⟨q.1, h.mp q.2⟩) (fun q => ⟨q.1, fun z => q.2 (h.mpr z)⟩)
theorem nI_self {x : Int32} (h : ¬ x < 0) : x = nI x.toNatClampNeg := by
  obtain ⟨j, hj, rfl⟩ := nI_of h
  rw [nI_clamp hj]
theorem nI_ltn {x : Int32} {n : Nat} (hn : n < 2147483648) (h : ¬ x < 0) (h2 : ¬ nI n ≤ x) : x.toNatClampNeg < n := by
  obtain ⟨j, hj, rfl⟩ := nI_of h
  rw [nI_clamp hj]
  exact Nat.not_le.mp fun q => h2 (nI_le q hj)
theorem nI_lt7 {x : Int32} (h : ¬ x < 0) (h2 : ¬ 7 ≤ x) : x.toNatClampNeg < 7 := nI_ltn (by decide) h h2
theorem bI_nar {A : Prop} {x : Int32} (hb : bI A x) : narrow .boolean (.int x) = .int x := by
  rcases hb with ⟨rfl, -⟩ | ⟨rfl, -⟩ <;> rfl
theorem bI_fit {A : Prop} {x : Int32} (hb : bI A x) : fits .boolean (.int x) = true := by
  rcases hb with ⟨rfl, -⟩ | ⟨rfl, -⟩ <;> rfl
set_option maxRecDepth 100000 in
set_option maxHeartbeats 4000000 in
theorem ct_J9_min_7cf53 {M : gM} (x y : Int32) : gC 0 0 0 yJ9_min_7cf53 cJ9_min_7cf53 2 (some .int) 140 140 [.int x, .int y] M (gI (fun r M9 => r = mmin x y ∧ M9 = M)) := by
  refine gC_iF (by decide +kernel) (Nat.le_of_ble_eq_true rfl) (fun G hG hE => ?_)
  change G (140, 0, 0) 0 [some (.int x), some (.int y)] [] M
  refine r_iload_n hG dJ9_min_7cf53_0 rfl ?_
  refine r_iload_n hG dJ9_min_7cf53_1 rfl ?_
  refine r_icmp_gt hG 9 dJ9_min_7cf53_2 (by decide) (fun hc2 => ?_) (fun hc2 => ?_)
  · refine r_iload_n hG dJ9_min_7cf53_9 rfl ?_
    refine hE _ _ _ _ _ dJ9_min_7cf53_10 rfl (Nat.le_refl _) (Nat.le_refl _) rfl ?_
    exact ⟨by simp [mmin, hc2], rfl⟩
  · refine r_iload_n hG dJ9_min_7cf53_5 rfl ?_
    refine r_goto hG 10 dJ9_min_7cf53_6 (by decide) ?_
    refine hE _ _ _ _ _ dJ9_min_7cf53_10 rfl (Nat.le_refl _) (Nat.le_refl _) rfl ?_
    exact ⟨by simp [mmin, hc2], rfl⟩

set_option maxRecDepth 100000 in
set_option maxHeartbeats 4000000 in
theorem ct_J9_max_7cf53 {M : gM} (x y : Int32) : gC 0 0 0 yJ9_max_7cf53 cJ9_max_7cf53 2 (some .int) 140 140 [.int x, .int y] M (gI (fun r M9 => r = mmax x y ∧ M9 = M)) := by
  refine gC_iF (by decide +kernel) (Nat.le_of_ble_eq_true rfl) (fun G hG hE => ?_)
  change G (140, 0, 0) 0 [some (.int x), some (.int y)] [] M
  refine r_iload_n hG dJ9_max_7cf53_0 rfl ?_
  refine r_iload_n hG dJ9_max_7cf53_1 rfl ?_
  refine r_icmp_lt hG 9 dJ9_max_7cf53_2 (by decide) (fun hc2 => ?_) (fun hc2 => ?_)
  · refine r_iload_n hG dJ9_max_7cf53_9 rfl ?_
    refine hE _ _ _ _ _ dJ9_max_7cf53_10 rfl (Nat.le_refl _) (Nat.le_refl _) rfl ?_
    exact ⟨by simp [mmax, hc2], rfl⟩
  · refine r_iload_n hG dJ9_max_7cf53_5 rfl ?_
    refine r_goto hG 10 dJ9_max_7cf53_6 (by decide) ?_
    refine hE _ _ _ _ _ dJ9_max_7cf53_10 rfl (Nat.le_refl _) (Nat.le_refl _) rfl ?_
    exact ⟨by simp [mmax, hc2], rfl⟩

set_option maxRecDepth 100000 in
set_option maxHeartbeats 4000000 in
theorem ct_X8_within {M : gM} (n lo hi : Int32) : gC 0 0 0 yX8_within cX8_within 3 (some .boolean) 140 140 [.int n, .int lo, .int hi] M (gI (fun r M9 => bI (lo ≤ n ∧ n ≤ hi) r ∧ M9 = M)) := by
  refine gC_i rfl (Nat.le_of_ble_eq_true rfl) (fun G hG hE => ?_)
  change G (140, 0, 0) 0 [some (.int n), some (.int lo), some (.int hi)] [] M
  refine r_iload_n hG dX8_within_0 rfl ?_
  refine r_iload_n hG dX8_within_1 rfl ?_
  refine r_icmp_lt hG 14 dX8_within_2 (by decide) (fun hc2 => ?_) (fun hc2 => ?_)
  · refine r_iconst hG (0) dX8_within_14 (by decide) ?_
    refine hE _ _ _ _ _ dX8_within_15 rfl (Nat.le_refl _) (Nat.le_refl _) rfl ?_
    exact ⟨Or.inr ⟨rfl, fun q => absurd q.1 (Int32.not_le.mpr hc2)⟩, rfl⟩
  · refine r_iload_n hG dX8_within_5 rfl ?_
    refine r_iload_n hG dX8_within_6 rfl ?_
    refine r_icmp_gt hG 14 dX8_within_7 (by decide) (fun hc7 => ?_) (fun hc7 => ?_)
    · refine r_iconst hG (0) dX8_within_14 (by decide) ?_
      refine hE _ _ _ _ _ dX8_within_15 rfl (Nat.le_refl _) (Nat.le_refl _) rfl ?_
      exact ⟨Or.inr ⟨rfl, fun q => absurd q.2 (Int32.not_le.mpr hc7)⟩, rfl⟩
    · refine r_iconst hG (1) dX8_within_10 (by decide) ?_
      refine r_goto hG 15 dX8_within_11 (by decide) ?_
      refine hE _ _ _ _ _ dX8_within_15 rfl (Nat.le_refl _) (Nat.le_refl _) rfl ?_
      exact ⟨Or.inl ⟨rfl, Int32.not_lt.mp hc2, Int32.not_lt.mp hc7⟩, rfl⟩

set_option maxRecDepth 100000 in
set_option maxHeartbeats 4000000 in
theorem ct_X9_within {M : gM} (n lo hi : Int32) : gC 0 0 0 yX9_within cX9_within 3 (some .boolean) 140 140 [.int n, .int lo, .int hi] M (gI (fun r M9 => bI (lo ≤ n ∧ n ≤ hi) r ∧ M9 = M)) := by
  refine gC_i rfl (Nat.le_of_ble_eq_true rfl) (fun G hG hE => ?_)
  change G (140, 0, 0) 0 [some (.int n), some (.int lo), some (.int hi)] [] M
  refine r_iload_n hG dX9_within_0 rfl ?_
  refine r_iload_n hG dX9_within_1 rfl ?_
  refine r_icmp_lt hG 14 dX9_within_2 (by decide) (fun hc2 => ?_) (fun hc2 => ?_)
  · refine r_iconst hG (0) dX9_within_14 (by decide) ?_
    refine hE _ _ _ _ _ dX9_within_15 rfl (Nat.le_refl _) (Nat.le_refl _) rfl ?_
    exact ⟨Or.inr ⟨rfl, fun q => absurd q.1 (Int32.not_le.mpr hc2)⟩, rfl⟩
  · refine r_iload_n hG dX9_within_5 rfl ?_
    refine r_iload_n hG dX9_within_6 rfl ?_
    refine r_icmp_gt hG 14 dX9_within_7 (by decide) (fun hc7 => ?_) (fun hc7 => ?_)
    · refine r_iconst hG (0) dX9_within_14 (by decide) ?_
      refine hE _ _ _ _ _ dX9_within_15 rfl (Nat.le_refl _) (Nat.le_refl _) rfl ?_
      exact ⟨Or.inr ⟨rfl, fun q => absurd q.2 (Int32.not_le.mpr hc7)⟩, rfl⟩
    · refine r_iconst hG (1) dX9_within_10 (by decide) ?_
      refine r_goto hG 15 dX9_within_11 (by decide) ?_
      refine hE _ _ _ _ _ dX9_within_15 rfl (Nat.le_refl _) (Nat.le_refl _) rfl ?_
      exact ⟨Or.inl ⟨rfl, Int32.not_lt.mp hc2, Int32.not_lt.mp hc7⟩, rfl⟩

set_option maxRecDepth 100000 in
set_option maxHeartbeats 4000000 in
theorem ct_X8_isVillage {M : gM} {b : Bool} (hR : M.2.2 = stdR b) {c : Nat} (hc : M.1 0 7 = nI c) (hl : c < 1000) (v : Int32) : gC 1 0 0 yX8_isVillage cX8_isVillage 2 (some .boolean) 140 140 [.ref 0, .int v] M (gI (fun r M9 => bI (vIn v c) r ∧ M9 = M)) := by
  refine gC_i rfl (Nat.le_of_ble_eq_true rfl) (fun G hG hE => ?_)
  change G (140, 0, 0) 0 [some (.ref 0), some (.int v)] [] M
  refine r_iload_n hG dX8_isVillage_0 rfl ?_
  refine r_iconst hG (0) dX8_isVillage_1 (by decide) ?_
  refine r_aload_n hG dX8_isVillage_2 rfl ?_
  refine r_getIv hG 7 (nI c) fk_X8_60 dX8_isVillage_3 rfl (by decide) rfl hc ?_
  refine r_iconst hG (1) dX8_isVillage_6 (by decide) ?_
  refine r_isub hG dX8_isVillage_7 ?_
  refine r_cSI3 hG mk_X8_55 dX8_isVillage_8 (ct_X8_within _ _ _) (by decide) ⟨Nat.le_refl _, Nat.le_refl _⟩ (Nat.le_of_ble_eq_true rfl) (fun x9 M9 h9 => ?_)
  obtain ⟨h8, e9⟩ := h9
  rw [e9]
  refine hE _ _ _ _ _ dX8_isVillage_11 rfl (Nat.le_refl _) (Nat.le_refl _) (bI_nar h8) ?_
  exact ⟨bI_iff (wi_iff (by omega)) h8, rfl⟩

set_option maxRecDepth 100000 in
set_option maxHeartbeats 4000000 in
theorem ct_X8_isSpring {M : gM} {b : Bool} (hR : M.2.2 = stdR b) {c : Nat} (hc : M.1 0 8 = nI c) (hl : c < 1000) (v : Int32) : gC 1 0 0 yX8_isSpring cX8_isSpring 2 (some .boolean) 140 140 [.ref 0, .int v] M (gI (fun r M9 => bI (vIn v c) r ∧ M9 = M)) := by
  refine gC_i rfl (Nat.le_of_ble_eq_true rfl) (fun G hG hE => ?_)
  change G (140, 0, 0) 0 [some (.ref 0), some (.int v)] [] M
  refine r_iload_n hG dX8_isSpring_0 rfl ?_
  refine r_iconst hG (0) dX8_isSpring_1 (by decide) ?_
  refine r_aload_n hG dX8_isSpring_2 rfl ?_
  refine r_getIv hG 8 (nI c) fk_X8_77 dX8_isSpring_3 rfl (by decide) rfl hc ?_
  refine r_iconst hG (1) dX8_isSpring_6 (by decide) ?_
  refine r_isub hG dX8_isSpring_7 ?_
  refine r_cSI3 hG mk_X8_55 dX8_isSpring_8 (ct_X8_within _ _ _) (by decide) ⟨Nat.le_refl _, Nat.le_refl _⟩ (Nat.le_of_ble_eq_true rfl) (fun x9 M9 h9 => ?_)
  obtain ⟨h8, e9⟩ := h9
  rw [e9]
  refine hE _ _ _ _ _ dX8_isSpring_11 rfl (Nat.le_refl _) (Nat.le_refl _) (bI_nar h8) ?_
  exact ⟨bI_iff (wi_iff (by omega)) h8, rfl⟩

set_option maxRecDepth 100000 in
set_option maxHeartbeats 4000000 in
theorem ct_X8_isTanker {M : gM} {b : Bool} (hR : M.2.2 = stdR b) {c : Nat} (hc : M.1 0 9 = nI c) (hl : c < 1000) (v : Int32) : gC 1 0 0 yX8_isTanker cX8_isTanker 2 (some .boolean) 140 140 [.ref 0, .int v] M (gI (fun r M9 => bI (vIn v c) r ∧ M9 = M)) := by
  refine gC_i rfl (Nat.le_of_ble_eq_true rfl) (fun G hG hE => ?_)
  change G (140, 0, 0) 0 [some (.ref 0), some (.int v)] [] M
  refine r_iload_n hG dX8_isTanker_0 rfl ?_
  refine r_iconst hG (0) dX8_isTanker_1 (by decide) ?_
  refine r_aload_n hG dX8_isTanker_2 rfl ?_
  refine r_getIv hG 9 (nI c) fk_X8_94 dX8_isTanker_3 rfl (by decide) rfl hc ?_
  refine r_iconst hG (1) dX8_isTanker_6 (by decide) ?_
  refine r_isub hG dX8_isTanker_7 ?_
  refine r_cSI3 hG mk_X8_55 dX8_isTanker_8 (ct_X8_within _ _ _) (by decide) ⟨Nat.le_refl _, Nat.le_refl _⟩ (Nat.le_of_ble_eq_true rfl) (fun x9 M9 h9 => ?_)
  obtain ⟨h8, e9⟩ := h9
  rw [e9]
  refine hE _ _ _ _ _ dX8_isTanker_11 rfl (Nat.le_refl _) (Nat.le_refl _) (bI_nar h8) ?_
  exact ⟨bI_iff (wi_iff (by omega)) h8, rfl⟩

set_option maxRecDepth 100000 in
set_option maxHeartbeats 4000000 in
theorem ct_X7_room {M : gM} {b : Bool} (hR : M.2.2 = stdR b) {i : Nat} (hi : i < 12) : gC 0 0 0 yX7_room cX7_room 1 (some .int) 140 140 [.ref (2 * i + 42)] M (gI (fun r M9 => r = M.1 (2 * i + 42) 2 - M.1 (2 * i + 42) 3 ∧ M9 = M)) := by
  refine gC_i rfl (Nat.le_of_ble_eq_true rfl) (fun G hG hE => ?_)
  change G (140, 0, 0) 0 [some (.ref (2 * i + 42))] [] M
  refine r_aload_n hG dX7_room_0 rfl ?_
  refine r_getI hG 2 fk_X7_15 dX7_room_1 (gkV (by omega)) (show (2 * i + 42) < 140 by omega) rfl ?_
  refine r_aload_n hG dX7_room_4 rfl ?_
  refine r_getI hG 3 fk_X7_19 dX7_room_5 (gkV (by omega)) (show (2 * i + 42) < 140 by omega) rfl ?_
  refine r_isub hG dX7_room_8 ?_
  refine hE _ _ _ _ _ dX7_room_9 rfl (Nat.le_refl _) (Nat.le_refl _) rfl ?_
  exact ⟨rfl, rfl⟩

def hund (M : gM) (k : Nat) : Int32 := if M.1 k 2 ≤ 0 then 0 else M.1 k 3 * 100 / M.1 k 2
set_option maxRecDepth 100000 in
set_option maxHeartbeats 4000000 in
theorem ct_X7_hundredths {M : gM} {b : Bool} (hR : M.2.2 = stdR b) {i : Nat} (hi : i < 12) : gC 0 0 0 yX7_hundredths cX7_hundredths 1 (some .int) 140 140 [.ref (2 * i + 42)] M (gI (fun r M9 => r = hund M (2 * i + 42) ∧ M9 = M)) := by
  refine gC_i rfl (Nat.le_of_ble_eq_true rfl) (fun G hG hE => ?_)
  change G (140, 0, 0) 0 [some (.ref (2 * i + 42))] [] M
  refine r_aload_n hG dX7_hundredths_0 rfl ?_
  refine r_getI hG 2 fk_X7_15 dX7_hundredths_1 (gkV (by omega)) (show (2 * i + 42) < 140 by omega) rfl ?_
  refine r_if_le hG 22 dX7_hundredths_4 (by decide) (fun hc4 => ?_) (fun hc4 => ?_)
  · refine r_iconst hG (0) dX7_hundredths_22 (by decide) ?_
    refine hE _ _ _ _ _ dX7_hundredths_23 rfl (Nat.le_refl _) (Nat.le_refl _) rfl ?_
    exact ⟨by simp [hund, hc4], rfl⟩
  · refine r_aload_n hG dX7_hundredths_7 rfl ?_
    refine r_getI hG 3 fk_X7_19 dX7_hundredths_8 (gkV (by omega)) (show (2 * i + 42) < 140 by omega) rfl ?_
    refine r_bipush hG (100) dX7_hundredths_11 (by decide) ?_
    refine r_imul hG dX7_hundredths_13 ?_
    refine r_aload_n hG dX7_hundredths_14 rfl ?_
    refine r_getI hG 2 fk_X7_15 dX7_hundredths_15 (gkV (by omega)) (show (2 * i + 42) < 140 by omega) rfl ?_
    refine r_idiv hG dX7_hundredths_18 (fun q => hc4 (by rw [q]; decide)) ?_
    refine r_goto hG 23 dX7_hundredths_19 (by decide) ?_
    refine hE _ _ _ _ _ dX7_hundredths_23 rfl (Nat.le_refl _) (Nat.le_refl _) rfl ?_
    exact ⟨by simp [hund, hc4], rfl⟩

set_option maxRecDepth 100000 in
set_option maxHeartbeats 4000000 in
theorem ct_X7_fill {M : gM} {b : Bool} (hR : M.2.2 = stdR b) {i : Nat} (hi : i < 12) (x : Int32) : gC 1 0 0 yX7_fill cX7_fill 2 none 140 140 [.ref (2 * i + 42), .int x] M (gV (fun M9 => M9 = gwI M (2 * i + 42) 3 (mmin (M.1 (2 * i + 42) 3 + x) (M.1 (2 * i + 42) 2)))) := by
  refine gC_v rfl (Nat.le_of_ble_eq_true rfl) (fun G hG hE => ?_)
  change G (140, 0, 0) 0 [some (.ref (2 * i + 42)), some (.int x)] [] M
  refine r_aload_n hG dX7_fill_0 rfl ?_
  refine r_aload_n hG dX7_fill_1 rfl ?_
  refine r_getI hG 3 fk_X7_19 dX7_fill_2 (gkV (by omega)) (show (2 * i + 42) < 140 by omega) rfl ?_
  refine r_iload_n hG dX7_fill_5 rfl ?_
  refine r_iadd hG dX7_fill_6 ?_
  refine r_aload_n hG dX7_fill_7 rfl ?_
  refine r_getI hG 2 fk_X7_15 dX7_fill_8 (gkV (by omega)) (show (2 * i + 42) < 140 by omega) rfl ?_
  refine r_cSI2 hG mk_X7_22 dX7_fill_11 (ct_J9_min_7cf53 _ _) (by decide) ⟨Nat.le_refl _, Nat.le_refl _⟩ (Nat.le_of_ble_eq_true rfl) (fun x9 M9 h9 => ?_)
  obtain ⟨e8, e9⟩ := h9
  rw [e8, e9]
  refine r_putI hG 3 fp_X7_19 dX7_fill_14 (gkV (by omega)) (show (2 * i + 42) < 140 by omega) rfl rfl rfl ?_
  refine hE _ _ _ _ dX7_fill_17 rfl (Nat.le_refl _) (Nat.le_refl _) ?_
  rfl

/-- a day's giving: cell k, its week w -/
def fGive (M : gM) (k w : Nat) (x sl : Int32) : gM :=
  let dr : Int32 := if x ≤ M.1 k 3 then 0 else 1
  let g := mmin (M.1 k 3) x
  let M5 := gwI (gwI (gwI (gwI (gwI M k 6 dr) k 5 g) k 3 (M.1 k 3 - g)) k 7 (if x ≤ M.1 k 3 then 0 else M.1 k 7 + 1)) k 8 (M.1 k 8 + dr)
  if 0 ≤ sl ∧ ¬ 7 ≤ sl then gwI M5 w sl.toNatClampNeg g else M5
set_option maxRecDepth 100000 in
set_option maxHeartbeats 4000000 in
theorem ct_X7_give {M : gM} {b : Bool} (hR : M.2.2 = stdR b) {i : Nat} (hi : i < 12) (x sl : Int32) : gC 1 0 0 yX7_give cX7_give 3 none 140 140 [.ref (2 * i + 42), .int x, .int sl] M (gV (fun M9 => M9 = fGive M (2 * i + 42) (2 * i + 43) x sl)) := by
  refine gC_v rfl (Nat.le_of_ble_eq_true rfl) (fun G hG hE => ?_)
  change G (140, 0, 0) 0 [some (.ref (2 * i + 42)), some (.int x), some (.int sl)] [] M
  refine r_aload_n hG dX7_give_0 rfl ?_
  refine r_aload_n hG dX7_give_1 rfl ?_
  refine r_getI hG 3 fk_X7_19 dX7_give_2 (gkV (by omega)) (show (2 * i + 42) < 140 by omega) rfl ?_
  refine r_iload_n hG dX7_give_5 rfl ?_
  refine r_icmp_ge hG 13 dX7_give_6 (by decide) (fun hc6 => ?_) (fun hc6 => ?_)
  · refine r_iconst hG (0) dX7_give_13 (by decide) ?_
    refine r_putI hG 6 fp_X7_28 dX7_give_14 (gkV (by omega)) (show (2 * i + 42) < 140 by omega) rfl rfl rfl ?_
    refine r_aload_n hG dX7_give_17 rfl ?_
    refine r_aload_n hG dX7_give_18 rfl ?_
    refine r_getIv hG 3 (M.1 (2 * i + 42) 3) fk_X7_19 dX7_give_19 (gkV (by omega)) (show (2 * i + 42) < 140 by omega) rfl (gwI_n (by omega)) ?_
    refine r_iload_n hG dX7_give_22 rfl ?_
    refine r_cSI2 hG mk_X7_22 dX7_give_23 (ct_J9_min_7cf53 _ _) (by decide) ⟨Nat.le_refl _, Nat.le_refl _⟩ (Nat.le_of_ble_eq_true rfl) (fun x9 M9 h9 => ?_)
    obtain ⟨e8, e9⟩ := h9
    rw [e8, e9]
    refine r_putI hG 5 fp_X7_32 dX7_give_26 (gkV (by omega)) (show (2 * i + 42) < 140 by omega) rfl rfl rfl ?_
    refine r_aload_n hG dX7_give_29 rfl ?_
    refine r_dup hG dX7_give_30 rfl ?_
    refine r_getIv hG 3 (M.1 (2 * i + 42) 3) fk_X7_19 dX7_give_31 (gkV (by omega)) (show (2 * i + 42) < 140 by omega) rfl ((gwI_n (by omega)).trans (gwI_n (by omega))) ?_
    refine r_aload_n hG dX7_give_34 rfl ?_
    refine r_getIv hG 5 (mmin (M.1 (2 * i + 42) 3) x) fk_X7_32 dX7_give_35 (gkV (by omega)) (show (2 * i + 42) < 140 by omega) rfl gwI_s ?_
    refine r_isub hG dX7_give_38 ?_
    refine r_putI hG 3 fp_X7_19 dX7_give_39 (gkV (by omega)) (show (2 * i + 42) < 140 by omega) rfl rfl rfl ?_
    refine r_aload_n hG dX7_give_42 rfl ?_
    refine r_aload_n hG dX7_give_43 rfl ?_
    refine r_getIv hG 6 (0) fk_X7_28 dX7_give_44 (gkV (by omega)) (show (2 * i + 42) < 140 by omega) rfl ((gwI_n (by omega)).trans ((gwI_n (by omega)).trans gwI_s)) ?_
    refine r_if_eq hG 59 dX7_give_47 (by decide) (fun hc47 => ?_) (fun hc47 => absurd hc47 (by decide))
    refine r_iconst hG (0) dX7_give_59 (by decide) ?_
    refine r_putI hG 7 fp_X7_35 dX7_give_60 (gkV (by omega)) (show (2 * i + 42) < 140 by omega) rfl rfl rfl ?_
    refine r_aload_n hG dX7_give_63 rfl ?_
    refine r_dup hG dX7_give_64 rfl ?_
    refine r_getIv hG 8 (M.1 (2 * i + 42) 8) fk_X7_38 dX7_give_65 (gkV (by omega)) (show (2 * i + 42) < 140 by omega) rfl ((gwI_n (by omega)).trans ((gwI_n (by omega)).trans ((gwI_n (by omega)).trans (gwI_n (by omega))))) ?_
    refine r_aload_n hG dX7_give_68 rfl ?_
    refine r_getIv hG 6 (0) fk_X7_28 dX7_give_69 (gkV (by omega)) (show (2 * i + 42) < 140 by omega) rfl ((gwI_n (by omega)).trans ((gwI_n (by omega)).trans ((gwI_n (by omega)).trans gwI_s))) ?_
    refine r_if_eq hG 79 dX7_give_72 (by decide) (fun hc72 => ?_) (fun hc72 => absurd hc72 (by decide))
    refine r_iconst hG (0) dX7_give_79 (by decide) ?_
    refine r_iadd hG dX7_give_80 ?_
    refine r_putI hG 8 fp_X7_38 dX7_give_81 (gkV (by omega)) (show (2 * i + 42) < 140 by omega) rfl rfl rfl ?_
    refine r_iload_n hG dX7_give_84 rfl ?_
    refine r_if_lt hG 104 dX7_give_85 (by decide) (fun hc85 => ?_) (fun hc85 => ?_)
    · refine hE _ _ _ _ dX7_give_104 rfl (Nat.le_refl _) (Nat.le_refl _) ?_
      simp [fGive, hc6, Int32.not_le.mpr hc85]
    · refine r_iload_n hG dX7_give_88 rfl ?_
      refine r_bipush hG (7) dX7_give_89 (by decide) ?_
      refine r_icmp_ge hG 104 dX7_give_91 (by decide) (fun hc91 => ?_) (fun hc91 => ?_)
      · refine hE _ _ _ _ dX7_give_104 rfl (Nat.le_refl _) (Nat.le_refl _) ?_
        simp [fGive, hc6, hc91]
      · refine r_aload_n hG dX7_give_94 rfl ?_
        refine r_getR hG 10 (2 * i + 43) fk_X7_9 dX7_give_95 (gkV (by omega)) (show (2 * i + 42) < 140 by omega) rfl (sr hR (sRw (by omega))) ?_
        refine r_iload_n hG dX7_give_98 rfl ?_
        refine r_aload_n hG dX7_give_99 rfl ?_
        refine r_getIv hG 5 (mmin (M.1 (2 * i + 42) 3) x) fk_X7_32 dX7_give_100 (gkV (by omega)) (show (2 * i + 42) < 140 by omega) rfl ((gwI_n (by omega)).trans ((gwI_n (by omega)).trans ((gwI_n (by omega)).trans gwI_s))) ?_
        refine r_iast hG sl.toNatClampNeg dX7_give_103 (gkW (by omega)) (show (2 * i + 43) < 140 by omega) (nI_self hc85) (nI_lt7 hc85 hc91) (by decide) ?_
        refine hE _ _ _ _ dX7_give_104 rfl (Nat.le_refl _) (Nat.le_refl _) ?_
        simp [fGive, hc6, hc85, hc91, Int32.not_lt.mp hc85]
  · refine r_iconst hG (1) dX7_give_9 (by decide) ?_
    refine r_goto hG 14 dX7_give_10 (by decide) ?_
    refine r_putI hG 6 fp_X7_28 dX7_give_14 (gkV (by omega)) (show (2 * i + 42) < 140 by omega) rfl rfl rfl ?_
    refine r_aload_n hG dX7_give_17 rfl ?_
    refine r_aload_n hG dX7_give_18 rfl ?_
    refine r_getIv hG 3 (M.1 (2 * i + 42) 3) fk_X7_19 dX7_give_19 (gkV (by omega)) (show (2 * i + 42) < 140 by omega) rfl (gwI_n (by omega)) ?_
    refine r_iload_n hG dX7_give_22 rfl ?_
    refine r_cSI2 hG mk_X7_22 dX7_give_23 (ct_J9_min_7cf53 _ _) (by decide) ⟨Nat.le_refl _, Nat.le_refl _⟩ (Nat.le_of_ble_eq_true rfl) (fun x9 M9 h9 => ?_)
    obtain ⟨e8, e9⟩ := h9
    rw [e8, e9]
    refine r_putI hG 5 fp_X7_32 dX7_give_26 (gkV (by omega)) (show (2 * i + 42) < 140 by omega) rfl rfl rfl ?_
    refine r_aload_n hG dX7_give_29 rfl ?_
    refine r_dup hG dX7_give_30 rfl ?_
    refine r_getIv hG 3 (M.1 (2 * i + 42) 3) fk_X7_19 dX7_give_31 (gkV (by omega)) (show (2 * i + 42) < 140 by omega) rfl ((gwI_n (by omega)).trans (gwI_n (by omega))) ?_
    refine r_aload_n hG dX7_give_34 rfl ?_
    refine r_getIv hG 5 (mmin (M.1 (2 * i + 42) 3) x) fk_X7_32 dX7_give_35 (gkV (by omega)) (show (2 * i + 42) < 140 by omega) rfl gwI_s ?_
    refine r_isub hG dX7_give_38 ?_
    refine r_putI hG 3 fp_X7_19 dX7_give_39 (gkV (by omega)) (show (2 * i + 42) < 140 by omega) rfl rfl rfl ?_
    refine r_aload_n hG dX7_give_42 rfl ?_
    refine r_aload_n hG dX7_give_43 rfl ?_
    refine r_getIv hG 6 (1) fk_X7_28 dX7_give_44 (gkV (by omega)) (show (2 * i + 42) < 140 by omega) rfl ((gwI_n (by omega)).trans ((gwI_n (by omega)).trans gwI_s)) ?_
    refine r_if_eq hG 59 dX7_give_47 (by decide) (fun hc47 => absurd hc47 (by decide)) (fun hc47 => ?_)
    refine r_aload_n hG dX7_give_50 rfl ?_
    refine r_getIv hG 7 (M.1 (2 * i + 42) 7) fk_X7_35 dX7_give_51 (gkV (by omega)) (show (2 * i + 42) < 140 by omega) rfl ((gwI_n (by omega)).trans ((gwI_n (by omega)).trans (gwI_n (by omega)))) ?_
    refine r_iconst hG (1) dX7_give_54 (by decide) ?_
    refine r_iadd hG dX7_give_55 ?_
    refine r_goto hG 60 dX7_give_56 (by decide) ?_
    refine r_putI hG 7 fp_X7_35 dX7_give_60 (gkV (by omega)) (show (2 * i + 42) < 140 by omega) rfl rfl rfl ?_
    refine r_aload_n hG dX7_give_63 rfl ?_
    refine r_dup hG dX7_give_64 rfl ?_
    refine r_getIv hG 8 (M.1 (2 * i + 42) 8) fk_X7_38 dX7_give_65 (gkV (by omega)) (show (2 * i + 42) < 140 by omega) rfl ((gwI_n (by omega)).trans ((gwI_n (by omega)).trans ((gwI_n (by omega)).trans (gwI_n (by omega))))) ?_
    refine r_aload_n hG dX7_give_68 rfl ?_
    refine r_getIv hG 6 (1) fk_X7_28 dX7_give_69 (gkV (by omega)) (show (2 * i + 42) < 140 by omega) rfl ((gwI_n (by omega)).trans ((gwI_n (by omega)).trans ((gwI_n (by omega)).trans gwI_s))) ?_
    refine r_if_eq hG 79 dX7_give_72 (by decide) (fun hc72 => absurd hc72 (by decide)) (fun hc72 => ?_)
    refine r_iconst hG (1) dX7_give_75 (by decide) ?_
    refine r_goto hG 80 dX7_give_76 (by decide) ?_
    refine r_iadd hG dX7_give_80 ?_
    refine r_putI hG 8 fp_X7_38 dX7_give_81 (gkV (by omega)) (show (2 * i + 42) < 140 by omega) rfl rfl rfl ?_
    refine r_iload_n hG dX7_give_84 rfl ?_
    refine r_if_lt hG 104 dX7_give_85 (by decide) (fun hc85 => ?_) (fun hc85 => ?_)
    · refine hE _ _ _ _ dX7_give_104 rfl (Nat.le_refl _) (Nat.le_refl _) ?_
      simp [fGive, hc6, Int32.not_le.mpr hc85]
    · refine r_iload_n hG dX7_give_88 rfl ?_
      refine r_bipush hG (7) dX7_give_89 (by decide) ?_
      refine r_icmp_ge hG 104 dX7_give_91 (by decide) (fun hc91 => ?_) (fun hc91 => ?_)
      · refine hE _ _ _ _ dX7_give_104 rfl (Nat.le_refl _) (Nat.le_refl _) ?_
        simp [fGive, hc6, hc91]
      · refine r_aload_n hG dX7_give_94 rfl ?_
        refine r_getR hG 10 (2 * i + 43) fk_X7_9 dX7_give_95 (gkV (by omega)) (show (2 * i + 42) < 140 by omega) rfl (sr hR (sRw (by omega))) ?_
        refine r_iload_n hG dX7_give_98 rfl ?_
        refine r_aload_n hG dX7_give_99 rfl ?_
        refine r_getIv hG 5 (mmin (M.1 (2 * i + 42) 3) x) fk_X7_32 dX7_give_100 (gkV (by omega)) (show (2 * i + 42) < 140 by omega) rfl ((gwI_n (by omega)).trans ((gwI_n (by omega)).trans ((gwI_n (by omega)).trans gwI_s))) ?_
        refine r_iast hG sl.toNatClampNeg dX7_give_103 (gkW (by omega)) (show (2 * i + 43) < 140 by omega) (nI_self hc85) (nI_lt7 hc85 hc91) (by decide) ?_
        refine hE _ _ _ _ dX7_give_104 rfl (Nat.le_refl _) (Nat.le_refl _) ?_
        simp [fGive, hc6, hc85, hc91, Int32.not_lt.mp hc85]
end
section
def fX8_village (M : gM) (nv : Nat) (p be t x : Int32) : gM := (gwI (gwI (gwI (gwI (gwI M (2 * nv + 42) 0 p) (2 * nv + 42) 1 be) (2 * nv + 42) 2 t) (2 * nv + 42) 3 x) 0 7 ((nI nv) + (1)))
set_option maxRecDepth 100000 in
set_option maxHeartbeats 4000000 in
theorem ct_X8_village {M : gM} {b : Bool} (hR : M.2.2 = stdR b) {nv ns nt nb : Nat} (hnv : M.1 0 7 = nI nv) (lv : nv ≤ 12) (hns : M.1 0 8 = nI ns) (ls : ns ≤ 4) (hnt : M.1 0 9 = nI nt) (lt : nt ≤ 4) (hnb : M.1 0 10 = nI nb) (lb : nb ≤ 10) (p be t x : Int32) : gC 1 0 0 yX8_village cX8_village 7 (some .int) 140 140 [.ref 0, .int p, .int be, .int t, .int x] M (gI (fun r M9 => (((1 ≤ p ∧ p ≤ 2000) ∧ (0 ≤ be ∧ be ≤ 2000) ∧ (1 ≤ t ∧ t ≤ 100000) ∧ (0 ≤ x ∧ x ≤ t)) ∧ nv < 12 ∧ r = nI nv ∧ M9 = fX8_village M nv p be t x) ∨ (¬ (((1 ≤ p ∧ p ≤ 2000) ∧ (0 ≤ be ∧ be ≤ 2000) ∧ (1 ≤ t ∧ t ≤ 100000) ∧ (0 ≤ x ∧ x ≤ t)) ∧ nv < 12) ∧ r = (-1) ∧ M9 = M))) := by
  refine gC_i rfl (Nat.le_of_ble_eq_true rfl) (fun G hG hE => ?_)
  change G (140, 0, 0) 0 [some (.ref 0), some (.int p), some (.int be), some (.int t), some (.int x), none, none] [] M
  refine r_iload_n hG dX8_village_0 rfl ?_
  refine r_iconst hG (1) dX8_village_1 (by decide) ?_
  refine r_sipush hG (2000) dX8_village_2 (by decide) ?_
  refine r_cSI3 hG mk_X8_55 dX8_village_5 (ct_X8_within _ _ _) (by decide) ⟨Nat.le_refl _, Nat.le_refl _⟩ (Nat.le_of_ble_eq_true rfl) (fun x9 M9 h9 => ?_)
  obtain ⟨h8, e9⟩ := h9; rw [e9]; rcases h8 with ⟨e8, hw5⟩ | ⟨e8, hw5⟩
  · rw [e8]
    refine r_if_eq hG 46 dX8_village_8 (by decide) (fun hc8 => absurd hc8 (by decide)) (fun hc8 => ?_)
    refine r_iload_n hG dX8_village_11 rfl ?_
    refine r_iconst hG (0) dX8_village_12 (by decide) ?_
    refine r_sipush hG (2000) dX8_village_13 (by decide) ?_
    refine r_cSI3 hG mk_X8_55 dX8_village_16 (ct_X8_within _ _ _) (by decide) ⟨Nat.le_refl _, Nat.le_refl _⟩ (Nat.le_of_ble_eq_true rfl) (fun x9 M9 h9 => ?_)
    obtain ⟨h8, e9⟩ := h9; rw [e9]; rcases h8 with ⟨e8, hw16⟩ | ⟨e8, hw16⟩
    · rw [e8]
      refine r_if_eq hG 46 dX8_village_19 (by decide) (fun hc19 => absurd hc19 (by decide)) (fun hc19 => ?_)
      refine r_iload_n hG dX8_village_22 rfl ?_
      refine r_iconst hG (1) dX8_village_23 (by decide) ?_
      refine r_ldc hG (100000) dX8_village_24 ck_X8_59 ?_
      refine r_cSI3 hG mk_X8_55 dX8_village_26 (ct_X8_within _ _ _) (by decide) ⟨Nat.le_refl _, Nat.le_refl _⟩ (Nat.le_of_ble_eq_true rfl) (fun x9 M9 h9 => ?_)
      obtain ⟨h8, e9⟩ := h9; rw [e9]; rcases h8 with ⟨e8, hw26⟩ | ⟨e8, hw26⟩
      · rw [e8]
        refine r_if_eq hG 46 dX8_village_29 (by decide) (fun hc29 => absurd hc29 (by decide)) (fun hc29 => ?_)
        refine r_iload hG dX8_village_32 rfl ?_
        refine r_iconst hG (0) dX8_village_34 (by decide) ?_
        refine r_iload_n hG dX8_village_35 rfl ?_
        refine r_cSI3 hG mk_X8_55 dX8_village_36 (ct_X8_within _ _ _) (by decide) ⟨Nat.le_refl _, Nat.le_refl _⟩ (Nat.le_of_ble_eq_true rfl) (fun x9 M9 h9 => ?_)
        obtain ⟨h8, e9⟩ := h9; rw [e9]; rcases h8 with ⟨e8, hw36⟩ | ⟨e8, hw36⟩
        · rw [e8]
          refine r_if_eq hG 46 dX8_village_39 (by decide) (fun hc39 => absurd hc39 (by decide)) (fun hc39 => ?_)
          refine r_iconst hG (1) dX8_village_42 (by decide) ?_
          refine r_goto hG 47 dX8_village_43 (by decide) ?_
          refine r_istore hG dX8_village_47 (by decide) ?_
          refine r_iload hG dX8_village_49 rfl ?_
          refine r_if_eq hG 63 dX8_village_51 (by decide) (fun hc51 => absurd hc51 (by decide)) (fun hc51 => ?_)
          refine r_aload_n hG dX8_village_54 rfl ?_
          refine r_getIv hG 7 (nI nv) fk_X8_60 dX8_village_55 rfl (by decide) rfl hnv ?_
          refine r_bipush hG (12) dX8_village_58 (by decide) ?_
          refine r_icmp_lt hG 65 dX8_village_60 (by decide) (fun hc60 => ?_) (fun hc60 => ?_)
          · have hn60 := nlt_t (a := nv) (b := 12) (by omega) (by omega) hc60
            refine r_aload_n hG dX8_village_65 rfl ?_
            refine r_getR hG 0 1 fk_X8_11 dX8_village_66 rfl (by decide) rfl (sr hR rfl) ?_
            refine r_aload_n hG dX8_village_69 rfl ?_
            refine r_getIv hG 7 (nI nv) fk_X8_60 dX8_village_70 rfl (by decide) rfl hnv ?_
            refine r_aald4 hG nv (2 * nv + 42) dX8_village_73 rfl (by decide) rfl (by omega) (by decide) (sr hR rfl) ?_
            refine r_astore hG dX8_village_74 (by decide) ?_
            refine r_aload hG dX8_village_76 rfl ?_
            refine r_iload_n hG dX8_village_78 rfl ?_
            refine r_putI hG 0 fp_X8_64 dX8_village_79 (gkV (by omega)) (show (2 * nv + 42) < 140 by omega) rfl rfl rfl ?_
            refine r_aload hG dX8_village_82 rfl ?_
            refine r_iload_n hG dX8_village_84 rfl ?_
            refine r_putI hG 1 fp_X8_67 dX8_village_85 (gkV (by omega)) (show (2 * nv + 42) < 140 by omega) rfl rfl rfl ?_
            refine r_aload hG dX8_village_88 rfl ?_
            refine r_iload_n hG dX8_village_90 rfl ?_
            refine r_putI hG 2 fp_X8_70 dX8_village_91 (gkV (by omega)) (show (2 * nv + 42) < 140 by omega) rfl rfl rfl ?_
            refine r_aload hG dX8_village_94 rfl ?_
            refine r_iload hG dX8_village_96 rfl ?_
            refine r_putI hG 3 fp_X8_73 dX8_village_98 (gkV (by omega)) (show (2 * nv + 42) < 140 by omega) rfl rfl rfl ?_
            refine r_aload_n hG dX8_village_101 rfl ?_
            refine r_dup hG dX8_village_102 rfl ?_
            refine r_getIv hG 7 (nI nv) fk_X8_60 dX8_village_103 rfl (by decide) rfl (((gwI_n (by omega)).trans ((gwI_n (by omega)).trans ((gwI_n (by omega)).trans (gwI_n (by omega))))).trans hnv) ?_
            refine r_iconst hG (1) dX8_village_106 (by decide) ?_
            refine r_iadd hG dX8_village_107 ?_
            refine r_putI hG 7 fp_X8_60 dX8_village_108 rfl (by decide) rfl rfl rfl ?_
            refine r_aload_n hG dX8_village_111 rfl ?_
            refine r_getIv hG 7 ((nI nv) + (1)) fk_X8_60 dX8_village_112 rfl (by decide) rfl gwI_s ?_
            refine r_iconst hG (1) dX8_village_115 (by decide) ?_
            refine r_isub hG dX8_village_116 ?_
            refine hE _ _ _ _ _ dX8_village_117 rfl (Nat.le_refl _) (Nat.le_refl _) rfl ?_
            exact Or.inl ⟨⟨hw5, hw16, hw26, hw36⟩, by omega, by rw [nI_1, nI_pred], rfl⟩
          · have hn60 := nlt_f (a := nv) (b := 12) (by omega) (by omega) hc60
            refine r_iconst hG (-1) dX8_village_63 (by decide) ?_
            refine hE _ _ _ _ _ dX8_village_64 rfl (Nat.le_refl _) (Nat.le_refl _) rfl ?_
            refine Or.inr ⟨?_, rfl, rfl⟩
            rintro ⟨⟨q1, q2, q3, q4⟩, q0⟩
            first | exact hw5 q1 | exact hw16 q2 | exact hw26 q3 | exact hw36 q4 | omega
        · rw [e8]
          refine r_if_eq hG 46 dX8_village_39 (by decide) (fun hc39 => ?_) (fun hc39 => absurd hc39 (by decide))
          refine r_iconst hG (0) dX8_village_46 (by decide) ?_
          refine r_istore hG dX8_village_47 (by decide) ?_
          refine r_iload hG dX8_village_49 rfl ?_
          refine r_if_eq hG 63 dX8_village_51 (by decide) (fun hc51 => ?_) (fun hc51 => absurd hc51 (by decide))
          refine r_iconst hG (-1) dX8_village_63 (by decide) ?_
          refine hE _ _ _ _ _ dX8_village_64 rfl (Nat.le_refl _) (Nat.le_refl _) rfl ?_
          refine Or.inr ⟨?_, rfl, rfl⟩
          rintro ⟨⟨q1, q2, q3, q4⟩, q0⟩
          first | exact hw5 q1 | exact hw16 q2 | exact hw26 q3 | exact hw36 q4 | omega
      · rw [e8]
        refine r_if_eq hG 46 dX8_village_29 (by decide) (fun hc29 => ?_) (fun hc29 => absurd hc29 (by decide))
        refine r_iconst hG (0) dX8_village_46 (by decide) ?_
        refine r_istore hG dX8_village_47 (by decide) ?_
        refine r_iload hG dX8_village_49 rfl ?_
        refine r_if_eq hG 63 dX8_village_51 (by decide) (fun hc51 => ?_) (fun hc51 => absurd hc51 (by decide))
        refine r_iconst hG (-1) dX8_village_63 (by decide) ?_
        refine hE _ _ _ _ _ dX8_village_64 rfl (Nat.le_refl _) (Nat.le_refl _) rfl ?_
        refine Or.inr ⟨?_, rfl, rfl⟩
        rintro ⟨⟨q1, q2, q3, q4⟩, q0⟩
        first | exact hw5 q1 | exact hw16 q2 | exact hw26 q3 | exact hw36 q4 | omega
    · rw [e8]
      refine r_if_eq hG 46 dX8_village_19 (by decide) (fun hc19 => ?_) (fun hc19 => absurd hc19 (by decide))
      refine r_iconst hG (0) dX8_village_46 (by decide) ?_
      refine r_istore hG dX8_village_47 (by decide) ?_
      refine r_iload hG dX8_village_49 rfl ?_
      refine r_if_eq hG 63 dX8_village_51 (by decide) (fun hc51 => ?_) (fun hc51 => absurd hc51 (by decide))
      refine r_iconst hG (-1) dX8_village_63 (by decide) ?_
      refine hE _ _ _ _ _ dX8_village_64 rfl (Nat.le_refl _) (Nat.le_refl _) rfl ?_
      refine Or.inr ⟨?_, rfl, rfl⟩
      rintro ⟨⟨q1, q2, q3, q4⟩, q0⟩
      first | exact hw5 q1 | exact hw16 q2 | exact hw26 q3 | exact hw36 q4 | omega
  · rw [e8]
    refine r_if_eq hG 46 dX8_village_8 (by decide) (fun hc8 => ?_) (fun hc8 => absurd hc8 (by decide))
    refine r_iconst hG (0) dX8_village_46 (by decide) ?_
    refine r_istore hG dX8_village_47 (by decide) ?_
    refine r_iload hG dX8_village_49 rfl ?_
    refine r_if_eq hG 63 dX8_village_51 (by decide) (fun hc51 => ?_) (fun hc51 => absurd hc51 (by decide))
    refine r_iconst hG (-1) dX8_village_63 (by decide) ?_
    refine hE _ _ _ _ _ dX8_village_64 rfl (Nat.le_refl _) (Nat.le_refl _) rfl ?_
    refine Or.inr ⟨?_, rfl, rfl⟩
    rintro ⟨⟨q1, q2, q3, q4⟩, q0⟩
    first | exact hw5 q1 | exact hw16 q2 | exact hw26 q3 | exact hw36 q4 | omega

def fX8_spring (M : gM) (ns : Nat) (f p fa : Int32) : gM := (gwI (gwI (gwI (gwI (gwI M (2 * ns + 66) 0 f) (2 * ns + 66) 1 p) (2 * ns + 66) 2 p) (2 * ns + 66) 3 fa) 0 8 ((nI ns) + (1)))
set_option maxRecDepth 100000 in
set_option maxHeartbeats 4000000 in
theorem ct_X8_spring {M : gM} {b : Bool} (hR : M.2.2 = stdR b) {nv ns nt nb : Nat} (hnv : M.1 0 7 = nI nv) (lv : nv ≤ 12) (hns : M.1 0 8 = nI ns) (ls : ns ≤ 4) (hnt : M.1 0 9 = nI nt) (lt : nt ≤ 4) (hnb : M.1 0 10 = nI nb) (lb : nb ≤ 10) (f p fa : Int32) : gC 1 0 0 yX8_spring cX8_spring 6 (some .int) 140 140 [.ref 0, .int f, .int p, .int fa] M (gI (fun r M9 => (((0 ≤ f ∧ f ≤ 100000) ∧ (1 ≤ p ∧ p ≤ 200000) ∧ (0 ≤ fa ∧ fa ≤ 100)) ∧ ns < 4 ∧ r = nI ns ∧ M9 = fX8_spring M ns f p fa) ∨ (¬ (((0 ≤ f ∧ f ≤ 100000) ∧ (1 ≤ p ∧ p ≤ 200000) ∧ (0 ≤ fa ∧ fa ≤ 100)) ∧ ns < 4) ∧ r = (-1) ∧ M9 = M))) := by
  refine gC_i rfl (Nat.le_of_ble_eq_true rfl) (fun G hG hE => ?_)
  change G (140, 0, 0) 0 [some (.ref 0), some (.int f), some (.int p), some (.int fa), none, none] [] M
  refine r_iload_n hG dX8_spring_0 rfl ?_
  refine r_iconst hG (0) dX8_spring_1 (by decide) ?_
  refine r_ldc hG (100000) dX8_spring_2 ck_X8_59 ?_
  refine r_cSI3 hG mk_X8_55 dX8_spring_4 (ct_X8_within _ _ _) (by decide) ⟨Nat.le_refl _, Nat.le_refl _⟩ (Nat.le_of_ble_eq_true rfl) (fun x9 M9 h9 => ?_)
  obtain ⟨h8, e9⟩ := h9; rw [e9]; rcases h8 with ⟨e8, hw4⟩ | ⟨e8, hw4⟩
  · rw [e8]
    refine r_if_eq hG 34 dX8_spring_7 (by decide) (fun hc7 => absurd hc7 (by decide)) (fun hc7 => ?_)
    refine r_iload_n hG dX8_spring_10 rfl ?_
    refine r_iconst hG (1) dX8_spring_11 (by decide) ?_
    refine r_ldc hG (200000) dX8_spring_12 ck_X8_76 ?_
    refine r_cSI3 hG mk_X8_55 dX8_spring_14 (ct_X8_within _ _ _) (by decide) ⟨Nat.le_refl _, Nat.le_refl _⟩ (Nat.le_of_ble_eq_true rfl) (fun x9 M9 h9 => ?_)
    obtain ⟨h8, e9⟩ := h9; rw [e9]; rcases h8 with ⟨e8, hw14⟩ | ⟨e8, hw14⟩
    · rw [e8]
      refine r_if_eq hG 34 dX8_spring_17 (by decide) (fun hc17 => absurd hc17 (by decide)) (fun hc17 => ?_)
      refine r_iload_n hG dX8_spring_20 rfl ?_
      refine r_iconst hG (0) dX8_spring_21 (by decide) ?_
      refine r_bipush hG (100) dX8_spring_22 (by decide) ?_
      refine r_cSI3 hG mk_X8_55 dX8_spring_24 (ct_X8_within _ _ _) (by decide) ⟨Nat.le_refl _, Nat.le_refl _⟩ (Nat.le_of_ble_eq_true rfl) (fun x9 M9 h9 => ?_)
      obtain ⟨h8, e9⟩ := h9; rw [e9]; rcases h8 with ⟨e8, hw24⟩ | ⟨e8, hw24⟩
      · rw [e8]
        refine r_if_eq hG 34 dX8_spring_27 (by decide) (fun hc27 => absurd hc27 (by decide)) (fun hc27 => ?_)
        refine r_iconst hG (1) dX8_spring_30 (by decide) ?_
        refine r_goto hG 35 dX8_spring_31 (by decide) ?_
        refine r_istore hG dX8_spring_35 (by decide) ?_
        refine r_iload hG dX8_spring_37 rfl ?_
        refine r_if_eq hG 50 dX8_spring_39 (by decide) (fun hc39 => absurd hc39 (by decide)) (fun hc39 => ?_)
        refine r_aload_n hG dX8_spring_42 rfl ?_
        refine r_getIv hG 8 (nI ns) fk_X8_77 dX8_spring_43 rfl (by decide) rfl hns ?_
        refine r_iconst hG (4) dX8_spring_46 (by decide) ?_
        refine r_icmp_lt hG 52 dX8_spring_47 (by decide) (fun hc47 => ?_) (fun hc47 => ?_)
        · have hn47 := nlt_t (a := ns) (b := 4) (by omega) (by omega) hc47
          refine r_aload_n hG dX8_spring_52 rfl ?_
          refine r_getR hG 1 2 fk_X8_17 dX8_spring_53 rfl (by decide) rfl (sr hR rfl) ?_
          refine r_aload_n hG dX8_spring_56 rfl ?_
          refine r_getIv hG 8 (nI ns) fk_X8_77 dX8_spring_57 rfl (by decide) rfl hns ?_
          refine r_aald5 hG ns (2 * ns + 66) dX8_spring_60 rfl (by decide) rfl (by omega) (by decide) (sr hR rfl) ?_
          refine r_astore hG dX8_spring_61 (by decide) ?_
          refine r_aload hG dX8_spring_63 rfl ?_
          refine r_iload_n hG dX8_spring_65 rfl ?_
          refine r_putI hG 0 fp_X8_80 dX8_spring_66 (gkS (by omega)) (show (2 * ns + 66) < 140 by omega) rfl rfl rfl ?_
          refine r_aload hG dX8_spring_69 rfl ?_
          refine r_iload_n hG dX8_spring_71 rfl ?_
          refine r_putI hG 1 fp_X8_83 dX8_spring_72 (gkS (by omega)) (show (2 * ns + 66) < 140 by omega) rfl rfl rfl ?_
          refine r_aload hG dX8_spring_75 rfl ?_
          refine r_iload_n hG dX8_spring_77 rfl ?_
          refine r_putI hG 2 fp_X8_86 dX8_spring_78 (gkS (by omega)) (show (2 * ns + 66) < 140 by omega) rfl rfl rfl ?_
          refine r_aload hG dX8_spring_81 rfl ?_
          refine r_iload_n hG dX8_spring_83 rfl ?_
          refine r_putI hG 3 fp_X8_87 dX8_spring_84 (gkS (by omega)) (show (2 * ns + 66) < 140 by omega) rfl rfl rfl ?_
          refine r_aload_n hG dX8_spring_87 rfl ?_
          refine r_dup hG dX8_spring_88 rfl ?_
          refine r_getIv hG 8 (nI ns) fk_X8_77 dX8_spring_89 rfl (by decide) rfl (((gwI_n (by omega)).trans ((gwI_n (by omega)).trans ((gwI_n (by omega)).trans (gwI_n (by omega))))).trans hns) ?_
          refine r_iconst hG (1) dX8_spring_92 (by decide) ?_
          refine r_iadd hG dX8_spring_93 ?_
          refine r_putI hG 8 fp_X8_77 dX8_spring_94 rfl (by decide) rfl rfl rfl ?_
          refine r_aload_n hG dX8_spring_97 rfl ?_
          refine r_getIv hG 8 ((nI ns) + (1)) fk_X8_77 dX8_spring_98 rfl (by decide) rfl gwI_s ?_
          refine r_iconst hG (1) dX8_spring_101 (by decide) ?_
          refine r_isub hG dX8_spring_102 ?_
          refine hE _ _ _ _ _ dX8_spring_103 rfl (Nat.le_refl _) (Nat.le_refl _) rfl ?_
          exact Or.inl ⟨⟨hw4, hw14, hw24⟩, by omega, by rw [nI_1, nI_pred], rfl⟩
        · have hn47 := nlt_f (a := ns) (b := 4) (by omega) (by omega) hc47
          refine r_iconst hG (-1) dX8_spring_50 (by decide) ?_
          refine hE _ _ _ _ _ dX8_spring_51 rfl (Nat.le_refl _) (Nat.le_refl _) rfl ?_
          refine Or.inr ⟨?_, rfl, rfl⟩
          rintro ⟨⟨q1, q2, q3⟩, q0⟩
          first | exact hw4 q1 | exact hw14 q2 | exact hw24 q3 | omega
      · rw [e8]
        refine r_if_eq hG 34 dX8_spring_27 (by decide) (fun hc27 => ?_) (fun hc27 => absurd hc27 (by decide))
        refine r_iconst hG (0) dX8_spring_34 (by decide) ?_
        refine r_istore hG dX8_spring_35 (by decide) ?_
        refine r_iload hG dX8_spring_37 rfl ?_
        refine r_if_eq hG 50 dX8_spring_39 (by decide) (fun hc39 => ?_) (fun hc39 => absurd hc39 (by decide))
        refine r_iconst hG (-1) dX8_spring_50 (by decide) ?_
        refine hE _ _ _ _ _ dX8_spring_51 rfl (Nat.le_refl _) (Nat.le_refl _) rfl ?_
        refine Or.inr ⟨?_, rfl, rfl⟩
        rintro ⟨⟨q1, q2, q3⟩, q0⟩
        first | exact hw4 q1 | exact hw14 q2 | exact hw24 q3 | omega
    · rw [e8]
      refine r_if_eq hG 34 dX8_spring_17 (by decide) (fun hc17 => ?_) (fun hc17 => absurd hc17 (by decide))
      refine r_iconst hG (0) dX8_spring_34 (by decide) ?_
      refine r_istore hG dX8_spring_35 (by decide) ?_
      refine r_iload hG dX8_spring_37 rfl ?_
      refine r_if_eq hG 50 dX8_spring_39 (by decide) (fun hc39 => ?_) (fun hc39 => absurd hc39 (by decide))
      refine r_iconst hG (-1) dX8_spring_50 (by decide) ?_
      refine hE _ _ _ _ _ dX8_spring_51 rfl (Nat.le_refl _) (Nat.le_refl _) rfl ?_
      refine Or.inr ⟨?_, rfl, rfl⟩
      rintro ⟨⟨q1, q2, q3⟩, q0⟩
      first | exact hw4 q1 | exact hw14 q2 | exact hw24 q3 | omega
  · rw [e8]
    refine r_if_eq hG 34 dX8_spring_7 (by decide) (fun hc7 => ?_) (fun hc7 => absurd hc7 (by decide))
    refine r_iconst hG (0) dX8_spring_34 (by decide) ?_
    refine r_istore hG dX8_spring_35 (by decide) ?_
    refine r_iload hG dX8_spring_37 rfl ?_
    refine r_if_eq hG 50 dX8_spring_39 (by decide) (fun hc39 => ?_) (fun hc39 => absurd hc39 (by decide))
    refine r_iconst hG (-1) dX8_spring_50 (by decide) ?_
    refine hE _ _ _ _ _ dX8_spring_51 rfl (Nat.le_refl _) (Nat.le_refl _) rfl ?_
    refine Or.inr ⟨?_, rfl, rfl⟩
    rintro ⟨⟨q1, q2, q3⟩, q0⟩
    first | exact hw4 q1 | exact hw14 q2 | exact hw24 q3 | omega

def fX8_tanker (M : gM) (nt : Nat) (sp h mi : Int32) : gM := (gwI (gwI (gwI (gwI M (nt + 74) 0 sp) (nt + 74) 1 h) (nt + 74) 2 mi) 0 9 ((nI nt) + (1)))
set_option maxRecDepth 100000 in
set_option maxHeartbeats 4000000 in
theorem ct_X8_tanker {M : gM} {b : Bool} (hR : M.2.2 = stdR b) {nv ns nt nb : Nat} (hnv : M.1 0 7 = nI nv) (lv : nv ≤ 12) (hns : M.1 0 8 = nI ns) (ls : ns ≤ 4) (hnt : M.1 0 9 = nI nt) (lt : nt ≤ 4) (hnb : M.1 0 10 = nI nb) (lb : nb ≤ 10) (sp h mi : Int32) : gC 2 0 0 yX8_tanker cX8_tanker 6 (some .int) 140 140 [.ref 0, .int sp, .int h, .int mi] M (gI (fun r M9 => (((vIn sp ns) ∧ (1 ≤ h ∧ h ≤ 20000) ∧ (0 ≤ mi ∧ mi ≤ 999)) ∧ nt < 4 ∧ r = nI nt ∧ M9 = fX8_tanker M nt sp h mi) ∨ (¬ (((vIn sp ns) ∧ (1 ≤ h ∧ h ≤ 20000) ∧ (0 ≤ mi ∧ mi ≤ 999)) ∧ nt < 4) ∧ r = (-1) ∧ M9 = M))) := by
  refine gC_i rfl (Nat.le_of_ble_eq_true rfl) (fun G hG hE => ?_)
  change G (140, 0, 0) 0 [some (.ref 0), some (.int sp), some (.int h), some (.int mi), none, none] [] M
  refine r_aload_n hG dX8_tanker_0 rfl ?_
  refine r_iload_n hG dX8_tanker_1 rfl ?_
  refine r_cVI1 hG mk_X8_90 dX8_tanker_2 rfl (by decide) (ct_X8_isSpring hR (c := ns) hns (by omega) _) (by decide) ⟨Nat.le_refl _, Nat.le_refl _⟩ (Nat.le_of_ble_eq_true rfl) (fun x9 M9 h9 => ?_)
  obtain ⟨h8, e9⟩ := h9; rw [e9]; rcases h8 with ⟨e8, hw2⟩ | ⟨e8, hw2⟩
  · rw [e8]
    obtain ⟨q2, hq2, hv2⟩ := hw2
    subst hv2
    refine r_if_eq hG 34 dX8_tanker_5 (by decide) (fun hc5 => absurd hc5 (by decide)) (fun hc5 => ?_)
    refine r_iload_n hG dX8_tanker_8 rfl ?_
    refine r_iconst hG (1) dX8_tanker_9 (by decide) ?_
    refine r_sipush hG (20000) dX8_tanker_10 (by decide) ?_
    refine r_cSI3 hG mk_X8_55 dX8_tanker_13 (ct_X8_within _ _ _) (by decide) ⟨Nat.le_refl _, Nat.le_refl _⟩ (Nat.le_of_ble_eq_true rfl) (fun x9 M9 h9 => ?_)
    obtain ⟨h8, e9⟩ := h9; rw [e9]; rcases h8 with ⟨e8, hw13⟩ | ⟨e8, hw13⟩
    · rw [e8]
      refine r_if_eq hG 34 dX8_tanker_16 (by decide) (fun hc16 => absurd hc16 (by decide)) (fun hc16 => ?_)
      refine r_iload_n hG dX8_tanker_19 rfl ?_
      refine r_iconst hG (0) dX8_tanker_20 (by decide) ?_
      refine r_sipush hG (999) dX8_tanker_21 (by decide) ?_
      refine r_cSI3 hG mk_X8_55 dX8_tanker_24 (ct_X8_within _ _ _) (by decide) ⟨Nat.le_refl _, Nat.le_refl _⟩ (Nat.le_of_ble_eq_true rfl) (fun x9 M9 h9 => ?_)
      obtain ⟨h8, e9⟩ := h9; rw [e9]; rcases h8 with ⟨e8, hw24⟩ | ⟨e8, hw24⟩
      · rw [e8]
        refine r_if_eq hG 34 dX8_tanker_27 (by decide) (fun hc27 => absurd hc27 (by decide)) (fun hc27 => ?_)
        refine r_iconst hG (1) dX8_tanker_30 (by decide) ?_
        refine r_goto hG 35 dX8_tanker_31 (by decide) ?_
        refine r_istore hG dX8_tanker_35 (by decide) ?_
        refine r_iload hG dX8_tanker_37 rfl ?_
        refine r_if_eq hG 50 dX8_tanker_39 (by decide) (fun hc39 => absurd hc39 (by decide)) (fun hc39 => ?_)
        refine r_aload_n hG dX8_tanker_42 rfl ?_
        refine r_getIv hG 9 (nI nt) fk_X8_94 dX8_tanker_43 rfl (by decide) rfl hnt ?_
        refine r_iconst hG (4) dX8_tanker_46 (by decide) ?_
        refine r_icmp_lt hG 52 dX8_tanker_47 (by decide) (fun hc47 => ?_) (fun hc47 => ?_)
        · have hn47 := nlt_t (a := nt) (b := 4) (by omega) (by omega) hc47
          refine r_aload_n hG dX8_tanker_52 rfl ?_
          refine r_getR hG 2 3 fk_X8_23 dX8_tanker_53 rfl (by decide) rfl (sr hR rfl) ?_
          refine r_aload_n hG dX8_tanker_56 rfl ?_
          refine r_getIv hG 9 (nI nt) fk_X8_94 dX8_tanker_57 rfl (by decide) rfl hnt ?_
          refine r_aald6 hG nt (nt + 74) dX8_tanker_60 rfl (by decide) rfl (by omega) (by decide) (sr hR rfl) ?_
          refine r_astore hG dX8_tanker_61 (by decide) ?_
          refine r_aload hG dX8_tanker_63 rfl ?_
          refine r_iload_n hG dX8_tanker_65 rfl ?_
          refine r_putI hG 0 fp_X8_97 dX8_tanker_66 (gkT (by omega)) (show (nt + 74) < 140 by omega) rfl rfl rfl ?_
          refine r_aload hG dX8_tanker_69 rfl ?_
          refine r_iload_n hG dX8_tanker_71 rfl ?_
          refine r_putI hG 1 fp_X8_100 dX8_tanker_72 (gkT (by omega)) (show (nt + 74) < 140 by omega) rfl rfl rfl ?_
          refine r_aload hG dX8_tanker_75 rfl ?_
          refine r_iload_n hG dX8_tanker_77 rfl ?_
          refine r_putI hG 2 fp_X8_103 dX8_tanker_78 (gkT (by omega)) (show (nt + 74) < 140 by omega) rfl rfl rfl ?_
          refine r_aload_n hG dX8_tanker_81 rfl ?_
          refine r_dup hG dX8_tanker_82 rfl ?_
          refine r_getIv hG 9 (nI nt) fk_X8_94 dX8_tanker_83 rfl (by decide) rfl (((gwI_n (by omega)).trans ((gwI_n (by omega)).trans (gwI_n (by omega)))).trans hnt) ?_
          refine r_iconst hG (1) dX8_tanker_86 (by decide) ?_
          refine r_iadd hG dX8_tanker_87 ?_
          refine r_putI hG 9 fp_X8_94 dX8_tanker_88 rfl (by decide) rfl rfl rfl ?_
          refine r_aload_n hG dX8_tanker_91 rfl ?_
          refine r_getIv hG 9 ((nI nt) + (1)) fk_X8_94 dX8_tanker_92 rfl (by decide) rfl gwI_s ?_
          refine r_iconst hG (1) dX8_tanker_95 (by decide) ?_
          refine r_isub hG dX8_tanker_96 ?_
          refine hE _ _ _ _ _ dX8_tanker_97 rfl (Nat.le_refl _) (Nat.le_refl _) rfl ?_
          exact Or.inl ⟨⟨⟨_, hq2, rfl⟩, hw13, hw24⟩, by omega, by rw [nI_1, nI_pred], rfl⟩
        · have hn47 := nlt_f (a := nt) (b := 4) (by omega) (by omega) hc47
          refine r_iconst hG (-1) dX8_tanker_50 (by decide) ?_
          refine hE _ _ _ _ _ dX8_tanker_51 rfl (Nat.le_refl _) (Nat.le_refl _) rfl ?_
          refine Or.inr ⟨?_, rfl, rfl⟩
          rintro ⟨⟨q1, q2, q3⟩, q0⟩
          first | exact hw2 q1 | exact hw13 q2 | exact hw24 q3 | omega
      · rw [e8]
        refine r_if_eq hG 34 dX8_tanker_27 (by decide) (fun hc27 => ?_) (fun hc27 => absurd hc27 (by decide))
        refine r_iconst hG (0) dX8_tanker_34 (by decide) ?_
        refine r_istore hG dX8_tanker_35 (by decide) ?_
        refine r_iload hG dX8_tanker_37 rfl ?_
        refine r_if_eq hG 50 dX8_tanker_39 (by decide) (fun hc39 => ?_) (fun hc39 => absurd hc39 (by decide))
        refine r_iconst hG (-1) dX8_tanker_50 (by decide) ?_
        refine hE _ _ _ _ _ dX8_tanker_51 rfl (Nat.le_refl _) (Nat.le_refl _) rfl ?_
        refine Or.inr ⟨?_, rfl, rfl⟩
        rintro ⟨⟨q1, q2, q3⟩, q0⟩
        first | exact hw2 q1 | exact hw13 q2 | exact hw24 q3 | omega
    · rw [e8]
      refine r_if_eq hG 34 dX8_tanker_16 (by decide) (fun hc16 => ?_) (fun hc16 => absurd hc16 (by decide))
      refine r_iconst hG (0) dX8_tanker_34 (by decide) ?_
      refine r_istore hG dX8_tanker_35 (by decide) ?_
      refine r_iload hG dX8_tanker_37 rfl ?_
      refine r_if_eq hG 50 dX8_tanker_39 (by decide) (fun hc39 => ?_) (fun hc39 => absurd hc39 (by decide))
      refine r_iconst hG (-1) dX8_tanker_50 (by decide) ?_
      refine hE _ _ _ _ _ dX8_tanker_51 rfl (Nat.le_refl _) (Nat.le_refl _) rfl ?_
      refine Or.inr ⟨?_, rfl, rfl⟩
      rintro ⟨⟨q1, q2, q3⟩, q0⟩
      first | exact hw2 q1 | exact hw13 q2 | exact hw24 q3 | omega
  · rw [e8]
    refine r_if_eq hG 34 dX8_tanker_5 (by decide) (fun hc5 => ?_) (fun hc5 => absurd hc5 (by decide))
    refine r_iconst hG (0) dX8_tanker_34 (by decide) ?_
    refine r_istore hG dX8_tanker_35 (by decide) ?_
    refine r_iload hG dX8_tanker_37 rfl ?_
    refine r_if_eq hG 50 dX8_tanker_39 (by decide) (fun hc39 => ?_) (fun hc39 => absurd hc39 (by decide))
    refine r_iconst hG (-1) dX8_tanker_50 (by decide) ?_
    refine hE _ _ _ _ _ dX8_tanker_51 rfl (Nat.le_refl _) (Nat.le_refl _) rfl ?_
    refine Or.inr ⟨?_, rfl, rfl⟩
    rintro ⟨⟨q1, q2, q3⟩, q0⟩
    first | exact hw2 q1 | exact hw13 q2 | exact hw24 q3 | omega

def fX8_way (M : gM) (spq vq : Nat) (sp v mi : Int32) : gM := (gwI M (2 * spq + 67) vq mi)
set_option maxRecDepth 100000 in
set_option maxHeartbeats 4000000 in
theorem ct_X8_way {M : gM} {b : Bool} (hR : M.2.2 = stdR b) {nv ns nt nb : Nat} (hnv : M.1 0 7 = nI nv) (lv : nv ≤ 12) (hns : M.1 0 8 = nI ns) (ls : ns ≤ 4) (hnt : M.1 0 9 = nI nt) (lt : nt ≤ 4) (hnb : M.1 0 10 = nI nb) (lb : nb ≤ 10) (sp v mi : Int32) : gC 2 0 0 yX8_way cX8_way 4 (some .boolean) 140 140 [.ref 0, .int sp, .int v, .int mi] M (gI (fun r M9 => (∃ spq vq : Nat, sp = nI spq ∧ v = nI vq ∧ spq < ns ∧ vq < nv ∧ ((vIn sp ns) ∧ (vIn v nv) ∧ (1 ≤ mi ∧ mi ≤ 200)) ∧ r = 1 ∧ M9 = fX8_way M spq vq sp v mi) ∨ (¬ (((vIn sp ns) ∧ (vIn v nv) ∧ (1 ≤ mi ∧ mi ≤ 200))) ∧ r = (0) ∧ M9 = M))) := by
  refine gC_i rfl (Nat.le_of_ble_eq_true rfl) (fun G hG hE => ?_)
  change G (140, 0, 0) 0 [some (.ref 0), some (.int sp), some (.int v), some (.int mi)] [] M
  refine r_aload_n hG dX8_way_0 rfl ?_
  refine r_iload_n hG dX8_way_1 rfl ?_
  refine r_cVI1 hG mk_X8_90 dX8_way_2 rfl (by decide) (ct_X8_isSpring hR (c := ns) hns (by omega) _) (by decide) ⟨Nat.le_refl _, Nat.le_refl _⟩ (Nat.le_of_ble_eq_true rfl) (fun x9 M9 h9 => ?_)
  obtain ⟨h8, e9⟩ := h9; rw [e9]; rcases h8 with ⟨e8, hw2⟩ | ⟨e8, hw2⟩
  · rw [e8]
    obtain ⟨q2, hq2, hv2⟩ := hw2
    subst hv2
    refine r_if_eq hG 27 dX8_way_5 (by decide) (fun hc5 => absurd hc5 (by decide)) (fun hc5 => ?_)
    refine r_aload_n hG dX8_way_8 rfl ?_
    refine r_iload_n hG dX8_way_9 rfl ?_
    refine r_cVI1 hG mk_X8_106 dX8_way_10 rfl (by decide) (ct_X8_isVillage hR (c := nv) hnv (by omega) _) (by decide) ⟨Nat.le_refl _, Nat.le_refl _⟩ (Nat.le_of_ble_eq_true rfl) (fun x9 M9 h9 => ?_)
    obtain ⟨h8, e9⟩ := h9; rw [e9]; rcases h8 with ⟨e8, hw10⟩ | ⟨e8, hw10⟩
    · rw [e8]
      obtain ⟨q10, hq10, hv10⟩ := hw10
      subst hv10
      refine r_if_eq hG 27 dX8_way_13 (by decide) (fun hc13 => absurd hc13 (by decide)) (fun hc13 => ?_)
      refine r_iload_n hG dX8_way_16 rfl ?_
      refine r_iconst hG (1) dX8_way_17 (by decide) ?_
      refine r_sipush hG (200) dX8_way_18 (by decide) ?_
      refine r_cSI3 hG mk_X8_55 dX8_way_21 (ct_X8_within _ _ _) (by decide) ⟨Nat.le_refl _, Nat.le_refl _⟩ (Nat.le_of_ble_eq_true rfl) (fun x9 M9 h9 => ?_)
      obtain ⟨h8, e9⟩ := h9; rw [e9]; rcases h8 with ⟨e8, hw21⟩ | ⟨e8, hw21⟩
      · rw [e8]
        refine r_if_ne hG 29 dX8_way_24 (by decide) (fun hc24 => ?_) (fun hc24 => absurd hc24 (by decide))
        refine r_aload_n hG dX8_way_29 rfl ?_
        refine r_getR hG 1 2 fk_X8_17 dX8_way_30 rfl (by decide) rfl (sr hR rfl) ?_
        refine r_iload_n hG dX8_way_33 rfl ?_
        refine r_aald5 hG q2 (2 * q2 + 66) dX8_way_34 rfl (by decide) rfl (by omega) (by decide) (sr hR rfl) ?_
        refine r_getR hG 4 (2 * q2 + 67) fk_X8_109 dX8_way_35 (gkS (by omega)) (show (2 * q2 + 66) < 140 by omega) rfl (sr hR (sRy (by omega))) ?_
        refine r_iload_n hG dX8_way_38 rfl ?_
        refine r_iload_n hG dX8_way_39 rfl ?_
        refine r_iast hG q10 dX8_way_40 (gkY (by omega)) (show (2 * q2 + 67) < 140 by omega) rfl (by omega) (by decide) ?_
        refine r_iconst hG (1) dX8_way_41 (by decide) ?_
        refine hE _ _ _ _ _ dX8_way_42 rfl (Nat.le_refl _) (Nat.le_refl _) rfl ?_
        exact Or.inl ⟨_, _, rfl, rfl, hq2, hq10, ⟨⟨_, hq2, rfl⟩, ⟨_, hq10, rfl⟩, hw21⟩, rfl, rfl⟩
      · rw [e8]
        refine r_if_ne hG 29 dX8_way_24 (by decide) (fun hc24 => absurd hc24 (by decide)) (fun hc24 => ?_)
        refine r_iconst hG (0) dX8_way_27 (by decide) ?_
        refine hE _ _ _ _ _ dX8_way_28 rfl (Nat.le_refl _) (Nat.le_refl _) rfl ?_
        refine Or.inr ⟨?_, rfl, rfl⟩
        rintro ⟨q1, q2, q3⟩
        first | exact hw2 q1 | exact hw10 q2 | exact hw21 q3 | omega
    · rw [e8]
      refine r_if_eq hG 27 dX8_way_13 (by decide) (fun hc13 => ?_) (fun hc13 => absurd hc13 (by decide))
      refine r_iconst hG (0) dX8_way_27 (by decide) ?_
      refine hE _ _ _ _ _ dX8_way_28 rfl (Nat.le_refl _) (Nat.le_refl _) rfl ?_
      refine Or.inr ⟨?_, rfl, rfl⟩
      rintro ⟨q1, q2, q3⟩
      first | exact hw2 q1 | exact hw10 q2 | exact hw21 q3 | omega
  · rw [e8]
    refine r_if_eq hG 27 dX8_way_5 (by decide) (fun hc5 => ?_) (fun hc5 => absurd hc5 (by decide))
    refine r_iconst hG (0) dX8_way_27 (by decide) ?_
    refine hE _ _ _ _ _ dX8_way_28 rfl (Nat.le_refl _) (Nat.le_refl _) rfl ?_
    refine Or.inr ⟨?_, rfl, rfl⟩
    rintro ⟨q1, q2, q3⟩
    first | exact hw2 q1 | exact hw10 q2 | exact hw21 q3 | omega

def fX8_bore (M : gM) (nb : Nat) (vq : Nat) (v ch co : Int32) : gM := (gwI (gwI (gwI (gwI M (nb + 78) 0 v) (nb + 78) 1 co) (nb + 78) 2 (ch * (M.1 (2 * vq + 42) 0))) 0 10 ((nI nb) + (1)))
set_option maxRecDepth 100000 in
set_option maxHeartbeats 4000000 in
theorem ct_X8_bore {M : gM} {b : Bool} (hR : M.2.2 = stdR b) {nv ns nt nb : Nat} (hnv : M.1 0 7 = nI nv) (lv : nv ≤ 12) (hns : M.1 0 8 = nI ns) (ls : ns ≤ 4) (hnt : M.1 0 9 = nI nt) (lt : nt ≤ 4) (hnb : M.1 0 10 = nI nb) (lb : nb ≤ 10) (v ch co : Int32) : gC 2 0 0 yX8_bore cX8_bore 6 (some .int) 140 140 [.ref 0, .int v, .int ch, .int co] M (gI (fun r M9 => (∃ vq : Nat, v = nI vq ∧ vq < nv ∧ ((vIn v nv) ∧ (1 ≤ ch ∧ ch ≤ 1000) ∧ (1 ≤ co ∧ co ≤ 1000)) ∧ nb < 10 ∧ r = nI nb ∧ M9 = fX8_bore M nb vq v ch co) ∨ (¬ (((vIn v nv) ∧ (1 ≤ ch ∧ ch ≤ 1000) ∧ (1 ≤ co ∧ co ≤ 1000)) ∧ nb < 10) ∧ r = (-1) ∧ M9 = M))) := by
  refine gC_i rfl (Nat.le_of_ble_eq_true rfl) (fun G hG hE => ?_)
  change G (140, 0, 0) 0 [some (.ref 0), some (.int v), some (.int ch), some (.int co), none, none] [] M
  refine r_aload_n hG dX8_bore_0 rfl ?_
  refine r_iload_n hG dX8_bore_1 rfl ?_
  refine r_cVI1 hG mk_X8_106 dX8_bore_2 rfl (by decide) (ct_X8_isVillage hR (c := nv) hnv (by omega) _) (by decide) ⟨Nat.le_refl _, Nat.le_refl _⟩ (Nat.le_of_ble_eq_true rfl) (fun x9 M9 h9 => ?_)
  obtain ⟨h8, e9⟩ := h9; rw [e9]; rcases h8 with ⟨e8, hw2⟩ | ⟨e8, hw2⟩
  · rw [e8]
    obtain ⟨q2, hq2, hv2⟩ := hw2
    subst hv2
    refine r_if_eq hG 34 dX8_bore_5 (by decide) (fun hc5 => absurd hc5 (by decide)) (fun hc5 => ?_)
    refine r_iload_n hG dX8_bore_8 rfl ?_
    refine r_iconst hG (1) dX8_bore_9 (by decide) ?_
    refine r_sipush hG (1000) dX8_bore_10 (by decide) ?_
    refine r_cSI3 hG mk_X8_55 dX8_bore_13 (ct_X8_within _ _ _) (by decide) ⟨Nat.le_refl _, Nat.le_refl _⟩ (Nat.le_of_ble_eq_true rfl) (fun x9 M9 h9 => ?_)
    obtain ⟨h8, e9⟩ := h9; rw [e9]; rcases h8 with ⟨e8, hw13⟩ | ⟨e8, hw13⟩
    · rw [e8]
      refine r_if_eq hG 34 dX8_bore_16 (by decide) (fun hc16 => absurd hc16 (by decide)) (fun hc16 => ?_)
      refine r_iload_n hG dX8_bore_19 rfl ?_
      refine r_iconst hG (1) dX8_bore_20 (by decide) ?_
      refine r_sipush hG (1000) dX8_bore_21 (by decide) ?_
      refine r_cSI3 hG mk_X8_55 dX8_bore_24 (ct_X8_within _ _ _) (by decide) ⟨Nat.le_refl _, Nat.le_refl _⟩ (Nat.le_of_ble_eq_true rfl) (fun x9 M9 h9 => ?_)
      obtain ⟨h8, e9⟩ := h9; rw [e9]; rcases h8 with ⟨e8, hw24⟩ | ⟨e8, hw24⟩
      · rw [e8]
        refine r_if_eq hG 34 dX8_bore_27 (by decide) (fun hc27 => absurd hc27 (by decide)) (fun hc27 => ?_)
        refine r_iconst hG (1) dX8_bore_30 (by decide) ?_
        refine r_goto hG 35 dX8_bore_31 (by decide) ?_
        refine r_istore hG dX8_bore_35 (by decide) ?_
        refine r_iload hG dX8_bore_37 rfl ?_
        refine r_if_eq hG 51 dX8_bore_39 (by decide) (fun hc39 => absurd hc39 (by decide)) (fun hc39 => ?_)
        refine r_aload_n hG dX8_bore_42 rfl ?_
        refine r_getIv hG 10 (nI nb) fk_X8_169 dX8_bore_43 rfl (by decide) rfl hnb ?_
        refine r_bipush hG (10) dX8_bore_46 (by decide) ?_
        refine r_icmp_lt hG 53 dX8_bore_48 (by decide) (fun hc48 => ?_) (fun hc48 => ?_)
        · have hn48 := nlt_t (a := nb) (b := 10) (by omega) (by omega) hc48
          refine r_aload_n hG dX8_bore_53 rfl ?_
          refine r_getR hG 3 4 fk_X8_29 dX8_bore_54 rfl (by decide) rfl (sr hR rfl) ?_
          refine r_aload_n hG dX8_bore_57 rfl ?_
          refine r_getIv hG 10 (nI nb) fk_X8_169 dX8_bore_58 rfl (by decide) rfl hnb ?_
          refine r_aald7 hG nb (nb + 78) dX8_bore_61 rfl (by decide) rfl (by omega) (by decide) (sr hR rfl) ?_
          refine r_astore hG dX8_bore_62 (by decide) ?_
          refine r_aload hG dX8_bore_64 rfl ?_
          refine r_iload_n hG dX8_bore_66 rfl ?_
          refine r_putI hG 0 fp_X8_172 dX8_bore_67 (gkB (by omega)) (show (nb + 78) < 140 by omega) rfl rfl rfl ?_
          refine r_aload hG dX8_bore_70 rfl ?_
          refine r_iload_n hG dX8_bore_72 rfl ?_
          refine r_putI hG 1 fp_X8_175 dX8_bore_73 (gkB (by omega)) (show (nb + 78) < 140 by omega) rfl rfl rfl ?_
          refine r_aload hG dX8_bore_76 rfl ?_
          refine r_iload_n hG dX8_bore_78 rfl ?_
          refine r_aload_n hG dX8_bore_79 rfl ?_
          refine r_getR hG 0 1 fk_X8_11 dX8_bore_80 rfl (by decide) rfl (sr hR rfl) ?_
          refine r_iload_n hG dX8_bore_83 rfl ?_
          refine r_aald4 hG q2 (2 * q2 + 42) dX8_bore_84 rfl (by decide) rfl (by omega) (by decide) (sr hR rfl) ?_
          refine r_getIv hG 0 (M.1 (2 * q2 + 42) 0) fk_X8_64 dX8_bore_85 (gkV (by omega)) (show (2 * q2 + 42) < 140 by omega) rfl ((gwI_n (by omega)).trans (gwI_n (by omega))) ?_
          refine r_imul hG dX8_bore_88 ?_
          refine r_putI hG 2 fp_X8_178 dX8_bore_89 (gkB (by omega)) (show (nb + 78) < 140 by omega) rfl rfl rfl ?_
          refine r_aload_n hG dX8_bore_92 rfl ?_
          refine r_dup hG dX8_bore_93 rfl ?_
          refine r_getIv hG 10 (nI nb) fk_X8_169 dX8_bore_94 rfl (by decide) rfl (((gwI_n (by omega)).trans ((gwI_n (by omega)).trans (gwI_n (by omega)))).trans hnb) ?_
          refine r_iconst hG (1) dX8_bore_97 (by decide) ?_
          refine r_iadd hG dX8_bore_98 ?_
          refine r_putI hG 10 fp_X8_169 dX8_bore_99 rfl (by decide) rfl rfl rfl ?_
          refine r_aload_n hG dX8_bore_102 rfl ?_
          refine r_getIv hG 10 ((nI nb) + (1)) fk_X8_169 dX8_bore_103 rfl (by decide) rfl gwI_s ?_
          refine r_iconst hG (1) dX8_bore_106 (by decide) ?_
          refine r_isub hG dX8_bore_107 ?_
          refine hE _ _ _ _ _ dX8_bore_108 rfl (Nat.le_refl _) (Nat.le_refl _) rfl ?_
          exact Or.inl ⟨_, rfl, hq2, ⟨⟨_, hq2, rfl⟩, hw13, hw24⟩, by omega, by rw [nI_1, nI_pred], rfl⟩
        · have hn48 := nlt_f (a := nb) (b := 10) (by omega) (by omega) hc48
          refine r_iconst hG (-1) dX8_bore_51 (by decide) ?_
          refine hE _ _ _ _ _ dX8_bore_52 rfl (Nat.le_refl _) (Nat.le_refl _) rfl ?_
          refine Or.inr ⟨?_, rfl, rfl⟩
          rintro ⟨⟨q1, q2, q3⟩, q0⟩
          first | exact hw2 q1 | exact hw13 q2 | exact hw24 q3 | omega
      · rw [e8]
        refine r_if_eq hG 34 dX8_bore_27 (by decide) (fun hc27 => ?_) (fun hc27 => absurd hc27 (by decide))
        refine r_iconst hG (0) dX8_bore_34 (by decide) ?_
        refine r_istore hG dX8_bore_35 (by decide) ?_
        refine r_iload hG dX8_bore_37 rfl ?_
        refine r_if_eq hG 51 dX8_bore_39 (by decide) (fun hc39 => ?_) (fun hc39 => absurd hc39 (by decide))
        refine r_iconst hG (-1) dX8_bore_51 (by decide) ?_
        refine hE _ _ _ _ _ dX8_bore_52 rfl (Nat.le_refl _) (Nat.le_refl _) rfl ?_
        refine Or.inr ⟨?_, rfl, rfl⟩
        rintro ⟨⟨q1, q2, q3⟩, q0⟩
        first | exact hw2 q1 | exact hw13 q2 | exact hw24 q3 | omega
    · rw [e8]
      refine r_if_eq hG 34 dX8_bore_16 (by decide) (fun hc16 => ?_) (fun hc16 => absurd hc16 (by decide))
      refine r_iconst hG (0) dX8_bore_34 (by decide) ?_
      refine r_istore hG dX8_bore_35 (by decide) ?_
      refine r_iload hG dX8_bore_37 rfl ?_
      refine r_if_eq hG 51 dX8_bore_39 (by decide) (fun hc39 => ?_) (fun hc39 => absurd hc39 (by decide))
      refine r_iconst hG (-1) dX8_bore_51 (by decide) ?_
      refine hE _ _ _ _ _ dX8_bore_52 rfl (Nat.le_refl _) (Nat.le_refl _) rfl ?_
      refine Or.inr ⟨?_, rfl, rfl⟩
      rintro ⟨⟨q1, q2, q3⟩, q0⟩
      first | exact hw2 q1 | exact hw13 q2 | exact hw24 q3 | omega
  · rw [e8]
    refine r_if_eq hG 34 dX8_bore_5 (by decide) (fun hc5 => ?_) (fun hc5 => absurd hc5 (by decide))
    refine r_iconst hG (0) dX8_bore_34 (by decide) ?_
    refine r_istore hG dX8_bore_35 (by decide) ?_
    refine r_iload hG dX8_bore_37 rfl ?_
    refine r_if_eq hG 51 dX8_bore_39 (by decide) (fun hc39 => ?_) (fun hc39 => absurd hc39 (by decide))
    refine r_iconst hG (-1) dX8_bore_51 (by decide) ?_
    refine hE _ _ _ _ _ dX8_bore_52 rfl (Nat.le_refl _) (Nat.le_refl _) rfl ?_
    refine Or.inr ⟨?_, rfl, rfl⟩
    rintro ⟨⟨q1, q2, q3⟩, q0⟩
    first | exact hw2 q1 | exact hw13 q2 | exact hw24 q3 | omega

def fX8_dip (M : gM) (nd : Nat) (tq : Nat) (t tl di er : Int32) : gM := (gwI (gwI (gwI (gwI M (tq + 74) 6 ((M.1 (tq + 74) 6) + (1))) (tq + 74) 7 ((M.1 (tq + 74) 7) + (tl - di))) (tq + 74) 8 ((M.1 (tq + 74) 8) + er)) 0 11 ((nI nd) + (1)))
set_option maxRecDepth 100000 in
set_option maxHeartbeats 4000000 in
theorem ct_X8_dip {M : gM} {b : Bool} (hR : M.2.2 = stdR b) {nv ns nt nb : Nat} (hnv : M.1 0 7 = nI nv) (lv : nv ≤ 12) (hns : M.1 0 8 = nI ns) (ls : ns ≤ 4) (hnt : M.1 0 9 = nI nt) (lt : nt ≤ 4) (hnb : M.1 0 10 = nI nb) (lb : nb ≤ 10) {nd : Nat} (hnd : M.1 0 11 = nI nd) (ld : nd ≤ 100) (t tl di er : Int32) : gC 2 0 0 yX8_dip cX8_dip 7 (some .int) 140 140 [.ref 0, .int t, .int tl, .int di, .int er] M (gI (fun r M9 => (∃ tq : Nat, t = nI tq ∧ tq < nt ∧ ((vIn t nt) ∧ (0 ≤ tl ∧ tl ≤ 20000) ∧ (0 ≤ di ∧ di ≤ 20000) ∧ (0 ≤ er ∧ er ≤ 2000)) ∧ nd < 100 ∧ r = M.1 (tq + 74) 6 + 1 ∧ M9 = fX8_dip M nd tq t tl di er) ∨ (¬ (((vIn t nt) ∧ (0 ≤ tl ∧ tl ≤ 20000) ∧ (0 ≤ di ∧ di ≤ 20000) ∧ (0 ≤ er ∧ er ≤ 2000)) ∧ nd < 100) ∧ r = (-1) ∧ M9 = M))) := by
  refine gC_i rfl (Nat.le_of_ble_eq_true rfl) (fun G hG hE => ?_)
  change G (140, 0, 0) 0 [some (.ref 0), some (.int t), some (.int tl), some (.int di), some (.int er), none, none] [] M
  refine r_aload_n hG dX8_dip_0 rfl ?_
  refine r_iload_n hG dX8_dip_1 rfl ?_
  refine r_cVI1 hG mk_X8_195 dX8_dip_2 rfl (by decide) (ct_X8_isTanker hR (c := nt) hnt (by omega) _) (by decide) ⟨Nat.le_refl _, Nat.le_refl _⟩ (Nat.le_of_ble_eq_true rfl) (fun x9 M9 h9 => ?_)
  obtain ⟨h8, e9⟩ := h9; rw [e9]; rcases h8 with ⟨e8, hw2⟩ | ⟨e8, hw2⟩
  · rw [e8]
    obtain ⟨q2, hq2, hv2⟩ := hw2
    subst hv2
    refine r_if_eq hG 46 dX8_dip_5 (by decide) (fun hc5 => absurd hc5 (by decide)) (fun hc5 => ?_)
    refine r_iload_n hG dX8_dip_8 rfl ?_
    refine r_iconst hG (0) dX8_dip_9 (by decide) ?_
    refine r_sipush hG (20000) dX8_dip_10 (by decide) ?_
    refine r_cSI3 hG mk_X8_55 dX8_dip_13 (ct_X8_within _ _ _) (by decide) ⟨Nat.le_refl _, Nat.le_refl _⟩ (Nat.le_of_ble_eq_true rfl) (fun x9 M9 h9 => ?_)
    obtain ⟨h8, e9⟩ := h9; rw [e9]; rcases h8 with ⟨e8, hw13⟩ | ⟨e8, hw13⟩
    · rw [e8]
      refine r_if_eq hG 46 dX8_dip_16 (by decide) (fun hc16 => absurd hc16 (by decide)) (fun hc16 => ?_)
      refine r_iload_n hG dX8_dip_19 rfl ?_
      refine r_iconst hG (0) dX8_dip_20 (by decide) ?_
      refine r_sipush hG (20000) dX8_dip_21 (by decide) ?_
      refine r_cSI3 hG mk_X8_55 dX8_dip_24 (ct_X8_within _ _ _) (by decide) ⟨Nat.le_refl _, Nat.le_refl _⟩ (Nat.le_of_ble_eq_true rfl) (fun x9 M9 h9 => ?_)
      obtain ⟨h8, e9⟩ := h9; rw [e9]; rcases h8 with ⟨e8, hw24⟩ | ⟨e8, hw24⟩
      · rw [e8]
        refine r_if_eq hG 46 dX8_dip_27 (by decide) (fun hc27 => absurd hc27 (by decide)) (fun hc27 => ?_)
        refine r_iload hG dX8_dip_30 rfl ?_
        refine r_iconst hG (0) dX8_dip_32 (by decide) ?_
        refine r_sipush hG (2000) dX8_dip_33 (by decide) ?_
        refine r_cSI3 hG mk_X8_55 dX8_dip_36 (ct_X8_within _ _ _) (by decide) ⟨Nat.le_refl _, Nat.le_refl _⟩ (Nat.le_of_ble_eq_true rfl) (fun x9 M9 h9 => ?_)
        obtain ⟨h8, e9⟩ := h9; rw [e9]; rcases h8 with ⟨e8, hw36⟩ | ⟨e8, hw36⟩
        · rw [e8]
          refine r_if_eq hG 46 dX8_dip_39 (by decide) (fun hc39 => absurd hc39 (by decide)) (fun hc39 => ?_)
          refine r_iconst hG (1) dX8_dip_42 (by decide) ?_
          refine r_goto hG 47 dX8_dip_43 (by decide) ?_
          refine r_istore hG dX8_dip_47 (by decide) ?_
          refine r_iload hG dX8_dip_49 rfl ?_
          refine r_if_eq hG 63 dX8_dip_51 (by decide) (fun hc51 => absurd hc51 (by decide)) (fun hc51 => ?_)
          refine r_aload_n hG dX8_dip_54 rfl ?_
          refine r_getIv hG 11 (nI nd) fk_X8_198 dX8_dip_55 rfl (by decide) rfl hnd ?_
          refine r_bipush hG (100) dX8_dip_58 (by decide) ?_
          refine r_icmp_lt hG 65 dX8_dip_60 (by decide) (fun hc60 => ?_) (fun hc60 => ?_)
          · have hn60 := nlt_t (a := nd) (b := 100) (by omega) (by omega) hc60
            refine r_aload_n hG dX8_dip_65 rfl ?_
            refine r_getR hG 2 3 fk_X8_23 dX8_dip_66 rfl (by decide) rfl (sr hR rfl) ?_
            refine r_iload_n hG dX8_dip_69 rfl ?_
            refine r_aald6 hG q2 (q2 + 74) dX8_dip_70 rfl (by decide) rfl (by omega) (by decide) (sr hR rfl) ?_
            refine r_astore hG dX8_dip_71 (by decide) ?_
            refine r_aload hG dX8_dip_73 rfl ?_
            refine r_dup hG dX8_dip_75 rfl ?_
            refine r_getI hG 6 fk_X8_201 dX8_dip_76 (gkT (by omega)) (show (q2 + 74) < 140 by omega) rfl ?_
            refine r_iconst hG (1) dX8_dip_79 (by decide) ?_
            refine r_iadd hG dX8_dip_80 ?_
            refine r_putI hG 6 fp_X8_201 dX8_dip_81 (gkT (by omega)) (show (q2 + 74) < 140 by omega) rfl rfl rfl ?_
            refine r_aload hG dX8_dip_84 rfl ?_
            refine r_dup hG dX8_dip_86 rfl ?_
            refine r_getIv hG 7 (M.1 (q2 + 74) 7) fk_X8_204 dX8_dip_87 (gkT (by omega)) (show (q2 + 74) < 140 by omega) rfl (gwI_n (by omega)) ?_
            refine r_iload_n hG dX8_dip_90 rfl ?_
            refine r_iload_n hG dX8_dip_91 rfl ?_
            refine r_isub hG dX8_dip_92 ?_
            refine r_iadd hG dX8_dip_93 ?_
            refine r_putI hG 7 fp_X8_204 dX8_dip_94 (gkT (by omega)) (show (q2 + 74) < 140 by omega) rfl rfl rfl ?_
            refine r_aload hG dX8_dip_97 rfl ?_
            refine r_dup hG dX8_dip_99 rfl ?_
            refine r_getIv hG 8 (M.1 (q2 + 74) 8) fk_X8_207 dX8_dip_100 (gkT (by omega)) (show (q2 + 74) < 140 by omega) rfl ((gwI_n (by omega)).trans (gwI_n (by omega))) ?_
            refine r_iload hG dX8_dip_103 rfl ?_
            refine r_iadd hG dX8_dip_105 ?_
            refine r_putI hG 8 fp_X8_207 dX8_dip_106 (gkT (by omega)) (show (q2 + 74) < 140 by omega) rfl rfl rfl ?_
            refine r_aload_n hG dX8_dip_109 rfl ?_
            refine r_dup hG dX8_dip_110 rfl ?_
            refine r_getIv hG 11 (nI nd) fk_X8_198 dX8_dip_111 rfl (by decide) rfl (((gwI_n (by omega)).trans ((gwI_n (by omega)).trans (gwI_n (by omega)))).trans hnd) ?_
            refine r_iconst hG (1) dX8_dip_114 (by decide) ?_
            refine r_iadd hG dX8_dip_115 ?_
            refine r_putI hG 11 fp_X8_198 dX8_dip_116 rfl (by decide) rfl rfl rfl ?_
            refine r_aload hG dX8_dip_119 rfl ?_
            refine r_getIv hG 6 ((M.1 (q2 + 74) 6) + (1)) fk_X8_201 dX8_dip_121 (gkT (by omega)) (show (q2 + 74) < 140 by omega) rfl ((gwI_n (by omega)).trans ((gwI_n (by omega)).trans ((gwI_n (by omega)).trans gwI_s))) ?_
            refine hE _ _ _ _ _ dX8_dip_124 rfl (Nat.le_refl _) (Nat.le_refl _) rfl ?_
            exact Or.inl ⟨_, rfl, hq2, ⟨⟨_, hq2, rfl⟩, hw13, hw24, hw36⟩, by omega, rfl, rfl⟩
          · have hn60 := nlt_f (a := nd) (b := 100) (by omega) (by omega) hc60
            refine r_iconst hG (-1) dX8_dip_63 (by decide) ?_
            refine hE _ _ _ _ _ dX8_dip_64 rfl (Nat.le_refl _) (Nat.le_refl _) rfl ?_
            refine Or.inr ⟨?_, rfl, rfl⟩
            rintro ⟨⟨q1, q2, q3, q4⟩, q0⟩
            first | exact hw2 q1 | exact hw13 q2 | exact hw24 q3 | exact hw36 q4 | omega
        · rw [e8]
          refine r_if_eq hG 46 dX8_dip_39 (by decide) (fun hc39 => ?_) (fun hc39 => absurd hc39 (by decide))
          refine r_iconst hG (0) dX8_dip_46 (by decide) ?_
          refine r_istore hG dX8_dip_47 (by decide) ?_
          refine r_iload hG dX8_dip_49 rfl ?_
          refine r_if_eq hG 63 dX8_dip_51 (by decide) (fun hc51 => ?_) (fun hc51 => absurd hc51 (by decide))
          refine r_iconst hG (-1) dX8_dip_63 (by decide) ?_
          refine hE _ _ _ _ _ dX8_dip_64 rfl (Nat.le_refl _) (Nat.le_refl _) rfl ?_
          refine Or.inr ⟨?_, rfl, rfl⟩
          rintro ⟨⟨q1, q2, q3, q4⟩, q0⟩
          first | exact hw2 q1 | exact hw13 q2 | exact hw24 q3 | exact hw36 q4 | omega
      · rw [e8]
        refine r_if_eq hG 46 dX8_dip_27 (by decide) (fun hc27 => ?_) (fun hc27 => absurd hc27 (by decide))
        refine r_iconst hG (0) dX8_dip_46 (by decide) ?_
        refine r_istore hG dX8_dip_47 (by decide) ?_
        refine r_iload hG dX8_dip_49 rfl ?_
        refine r_if_eq hG 63 dX8_dip_51 (by decide) (fun hc51 => ?_) (fun hc51 => absurd hc51 (by decide))
        refine r_iconst hG (-1) dX8_dip_63 (by decide) ?_
        refine hE _ _ _ _ _ dX8_dip_64 rfl (Nat.le_refl _) (Nat.le_refl _) rfl ?_
        refine Or.inr ⟨?_, rfl, rfl⟩
        rintro ⟨⟨q1, q2, q3, q4⟩, q0⟩
        first | exact hw2 q1 | exact hw13 q2 | exact hw24 q3 | exact hw36 q4 | omega
    · rw [e8]
      refine r_if_eq hG 46 dX8_dip_16 (by decide) (fun hc16 => ?_) (fun hc16 => absurd hc16 (by decide))
      refine r_iconst hG (0) dX8_dip_46 (by decide) ?_
      refine r_istore hG dX8_dip_47 (by decide) ?_
      refine r_iload hG dX8_dip_49 rfl ?_
      refine r_if_eq hG 63 dX8_dip_51 (by decide) (fun hc51 => ?_) (fun hc51 => absurd hc51 (by decide))
      refine r_iconst hG (-1) dX8_dip_63 (by decide) ?_
      refine hE _ _ _ _ _ dX8_dip_64 rfl (Nat.le_refl _) (Nat.le_refl _) rfl ?_
      refine Or.inr ⟨?_, rfl, rfl⟩
      rintro ⟨⟨q1, q2, q3, q4⟩, q0⟩
      first | exact hw2 q1 | exact hw13 q2 | exact hw24 q3 | exact hw36 q4 | omega
  · rw [e8]
    refine r_if_eq hG 46 dX8_dip_5 (by decide) (fun hc5 => ?_) (fun hc5 => absurd hc5 (by decide))
    refine r_iconst hG (0) dX8_dip_46 (by decide) ?_
    refine r_istore hG dX8_dip_47 (by decide) ?_
    refine r_iload hG dX8_dip_49 rfl ?_
    refine r_if_eq hG 63 dX8_dip_51 (by decide) (fun hc51 => ?_) (fun hc51 => absurd hc51 (by decide))
    refine r_iconst hG (-1) dX8_dip_63 (by decide) ?_
    refine hE _ _ _ _ _ dX8_dip_64 rfl (Nat.le_refl _) (Nat.le_refl _) rfl ?_
    refine Or.inr ⟨?_, rfl, rfl⟩
    rintro ⟨⟨q1, q2, q3, q4⟩, q0⟩
    first | exact hw2 q1 | exact hw13 q2 | exact hw24 q3 | exact hw36 q4 | omega

def fShort (M : gM) (k : Nat) : Int32 := if M.1 k 6 < 3 then 0 else if M.1 k 7 ≤ M.1 k 8 then 0 else 1
set_option maxRecDepth 100000 in
set_option maxHeartbeats 4000000 in
theorem ct_X8_isShort {M : gM} {b : Bool} (hR : M.2.2 = stdR b) {nv ns nt nb : Nat} (hnv : M.1 0 7 = nI nv) (lv : nv ≤ 12) (hns : M.1 0 8 = nI ns) (ls : ns ≤ 4) (hnt : M.1 0 9 = nI nt) (lt : nt ≤ 4) (hnb : M.1 0 10 = nI nb) (lb : nb ≤ 10) (t : Int32) : gC 2 0 0 yX8_isShort cX8_isShort 3 (some .int) 140 140 [.ref 0, .int t] M (gI (fun r M9 => ((∃ q, q < nt ∧ t = nI q ∧ r = fShort M (q + 74)) ∨ (¬ vIn t nt ∧ r = -1)) ∧ M9 = M)) := by
  refine gC_i rfl (Nat.le_of_ble_eq_true rfl) (fun G hG hE => ?_)
  change G (140, 0, 0) 0 [some (.ref 0), some (.int t), none] [] M
  refine r_aload_n hG dX8_isShort_0 rfl ?_
  refine r_iload_n hG dX8_isShort_1 rfl ?_
  refine r_cVI1 hG mk_X8_195 dX8_isShort_2 rfl (by decide) (ct_X8_isTanker hR (c := nt) hnt (by omega) _) (by decide) ⟨Nat.le_refl _, Nat.le_refl _⟩ (Nat.le_of_ble_eq_true rfl) (fun x9 M9 h9 => ?_)
  obtain ⟨h8, e9⟩ := h9; rw [e9]; rcases h8 with ⟨e8, hw2⟩ | ⟨e8, hw2⟩
  · rw [e8]
    obtain ⟨q2, hq2, hv2⟩ := hw2
    subst hv2
    refine r_if_ne hG 10 dX8_isShort_5 (by decide) (fun hc5 => ?_) (fun hc5 => absurd hc5 (by decide))
    refine r_aload_n hG dX8_isShort_10 rfl ?_
    refine r_getR hG 2 3 fk_X8_23 dX8_isShort_11 rfl (by decide) rfl (sr hR rfl) ?_
    refine r_iload_n hG dX8_isShort_14 rfl ?_
    refine r_aald6 hG q2 (q2 + 74) dX8_isShort_15 rfl (by decide) rfl (by omega) (by decide) (sr hR rfl) ?_
    refine r_astore_n hG dX8_isShort_16 (by decide) ?_
    refine r_aload_n hG dX8_isShort_17 rfl ?_
    refine r_getI hG 6 fk_X8_201 dX8_isShort_18 (gkT (by omega)) (show (q2 + 74) < 140 by omega) rfl ?_
    refine r_iconst hG (3) dX8_isShort_21 (by decide) ?_
    refine r_icmp_lt hG 40 dX8_isShort_22 (by decide) (fun hc22 => ?_) (fun hc22 => ?_)
    · refine r_iconst hG (0) dX8_isShort_40 (by decide) ?_
      refine hE _ _ _ _ _ dX8_isShort_41 rfl (Nat.le_refl _) (Nat.le_refl _) rfl ?_
      exact ⟨Or.inl ⟨_, hq2, rfl, by simp [fShort, hc22]⟩, rfl⟩
    · refine r_aload_n hG dX8_isShort_25 rfl ?_
      refine r_getI hG 7 fk_X8_204 dX8_isShort_26 (gkT (by omega)) (show (q2 + 74) < 140 by omega) rfl ?_
      refine r_aload_n hG dX8_isShort_29 rfl ?_
      refine r_getI hG 8 fk_X8_207 dX8_isShort_30 (gkT (by omega)) (show (q2 + 74) < 140 by omega) rfl ?_
      refine r_icmp_le hG 40 dX8_isShort_33 (by decide) (fun hc33 => ?_) (fun hc33 => ?_)
      · refine r_iconst hG (0) dX8_isShort_40 (by decide) ?_
        refine hE _ _ _ _ _ dX8_isShort_41 rfl (Nat.le_refl _) (Nat.le_refl _) rfl ?_
        exact ⟨Or.inl ⟨_, hq2, rfl, by simp [fShort, hc22, hc33]⟩, rfl⟩
      · refine r_iconst hG (1) dX8_isShort_36 (by decide) ?_
        refine r_goto hG 41 dX8_isShort_37 (by decide) ?_
        refine hE _ _ _ _ _ dX8_isShort_41 rfl (Nat.le_refl _) (Nat.le_refl _) rfl ?_
        exact ⟨Or.inl ⟨_, hq2, rfl, by simp [fShort, hc22, hc33]⟩, rfl⟩
  · rw [e8]
    refine r_if_ne hG 10 dX8_isShort_5 (by decide) (fun hc5 => absurd hc5 (by decide)) (fun hc5 => ?_)
    refine r_iconst hG (-1) dX8_isShort_8 (by decide) ?_
    refine hE _ _ _ _ _ dX8_isShort_9 rfl (Nat.le_refl _) (Nat.le_refl _) rfl ?_
    exact ⟨Or.inr ⟨hw2, rfl⟩, rfl⟩

set_option maxRecDepth 100000 in
set_option maxHeartbeats 4000000 in
theorem ct_X8_flows {M : gM} {b : Bool} (hR : M.2.2 = stdR b) {nv ns nt nb : Nat} (hnv : M.1 0 7 = nI nv) (lv : nv ≤ 12) (hns : M.1 0 8 = nI ns) (ls : ns ≤ 4) (hnt : M.1 0 9 = nI nt) (lt : nt ≤ 4) (hnb : M.1 0 10 = nI nb) (lb : nb ≤ 10) (s w : Int32) : gC 2 0 0 yX8_flows cX8_flows 3 (some .int) 140 140 [.ref 0, .int s, .int w] M (gI (fun r M9 => ((∃ q, q < ns ∧ s = nI q ∧ (0 ≤ w ∧ w ≤ 1) ∧ r = if w = 0 then M.1 (2 * q + 66) 0 else M.1 (2 * q + 66) 2) ∨ (¬ (vIn s ns ∧ (0 ≤ w ∧ w ≤ 1)) ∧ r = -1)) ∧ M9 = M)) := by
  refine gC_i rfl (Nat.le_of_ble_eq_true rfl) (fun G hG hE => ?_)
  change G (140, 0, 0) 0 [some (.ref 0), some (.int s), some (.int w)] [] M
  refine r_aload_n hG dX8_flows_0 rfl ?_
  refine r_iload_n hG dX8_flows_1 rfl ?_
  refine r_cVI1 hG mk_X8_90 dX8_flows_2 rfl (by decide) (ct_X8_isSpring hR (c := ns) hns (by omega) _) (by decide) ⟨Nat.le_refl _, Nat.le_refl _⟩ (Nat.le_of_ble_eq_true rfl) (fun x9 M9 h9 => ?_)
  obtain ⟨h8, e9⟩ := h9; rw [e9]; rcases h8 with ⟨e8, hw2⟩ | ⟨e8, hw2⟩
  · rw [e8]
    obtain ⟨q2, hq2, hv2⟩ := hw2
    subst hv2
    refine r_if_eq hG 17 dX8_flows_5 (by decide) (fun hc5 => absurd hc5 (by decide)) (fun hc5 => ?_)
    refine r_iload_n hG dX8_flows_8 rfl ?_
    refine r_iconst hG (0) dX8_flows_9 (by decide) ?_
    refine r_iconst hG (1) dX8_flows_10 (by decide) ?_
    refine r_cSI3 hG mk_X8_55 dX8_flows_11 (ct_X8_within _ _ _) (by decide) ⟨Nat.le_refl _, Nat.le_refl _⟩ (Nat.le_of_ble_eq_true rfl) (fun x9 M9 h9 => ?_)
    obtain ⟨h8, e9⟩ := h9; rw [e9]; rcases h8 with ⟨e8, hw11⟩ | ⟨e8, hw11⟩
    · rw [e8]
      refine r_if_ne hG 19 dX8_flows_14 (by decide) (fun hc14 => ?_) (fun hc14 => absurd hc14 (by decide))
      refine r_iload_n hG dX8_flows_19 rfl ?_
      refine r_if_ne hG 35 dX8_flows_20 (by decide) (fun hc20 => ?_) (fun hc20 => ?_)
      · refine r_aload_n hG dX8_flows_35 rfl ?_
        refine r_getR hG 1 2 fk_X8_17 dX8_flows_36 rfl (by decide) rfl (sr hR rfl) ?_
        refine r_iload_n hG dX8_flows_39 rfl ?_
        refine r_aald5 hG q2 (2 * q2 + 66) dX8_flows_40 rfl (by decide) rfl (by omega) (by decide) (sr hR rfl) ?_
        refine r_getI hG 2 fk_X8_86 dX8_flows_41 (gkS (by omega)) (show (2 * q2 + 66) < 140 by omega) rfl ?_
        refine hE _ _ _ _ _ dX8_flows_44 rfl (Nat.le_refl _) (Nat.le_refl _) rfl ?_
        exact ⟨Or.inl ⟨_, hq2, rfl, hw11, by simp [hc20]⟩, rfl⟩
      · refine r_aload_n hG dX8_flows_23 rfl ?_
        refine r_getR hG 1 2 fk_X8_17 dX8_flows_24 rfl (by decide) rfl (sr hR rfl) ?_
        refine r_iload_n hG dX8_flows_27 rfl ?_
        refine r_aald5 hG q2 (2 * q2 + 66) dX8_flows_28 rfl (by decide) rfl (by omega) (by decide) (sr hR rfl) ?_
        refine r_getI hG 0 fk_X8_80 dX8_flows_29 (gkS (by omega)) (show (2 * q2 + 66) < 140 by omega) rfl ?_
        refine r_goto hG 44 dX8_flows_32 (by decide) ?_
        refine hE _ _ _ _ _ dX8_flows_44 rfl (Nat.le_refl _) (Nat.le_refl _) rfl ?_
        exact ⟨Or.inl ⟨_, hq2, rfl, hw11, by simp [hc20]⟩, rfl⟩
    · rw [e8]
      refine r_if_ne hG 19 dX8_flows_14 (by decide) (fun hc14 => absurd hc14 (by decide)) (fun hc14 => ?_)
      refine r_iconst hG (-1) dX8_flows_17 (by decide) ?_
      refine hE _ _ _ _ _ dX8_flows_18 rfl (Nat.le_refl _) (Nat.le_refl _) rfl ?_
      refine ⟨Or.inr ⟨?_, rfl⟩, rfl⟩
      rintro ⟨q1, q2⟩
      first | exact hw2 q1 | exact hw11 q2
  · rw [e8]
    refine r_if_eq hG 17 dX8_flows_5 (by decide) (fun hc5 => ?_) (fun hc5 => absurd hc5 (by decide))
    refine r_iconst hG (-1) dX8_flows_17 (by decide) ?_
    refine hE _ _ _ _ _ dX8_flows_18 rfl (Nat.le_refl _) (Nat.le_refl _) rfl ?_
    refine ⟨Or.inr ⟨?_, rfl⟩, rfl⟩
    rintro ⟨q1, q2⟩
    first | exact hw2 q1 | exact hw11 q2

set_option maxRecDepth 100000 in
set_option maxHeartbeats 4000000 in
theorem ct_X8_goes {M : gM} {b : Bool} (hR : M.2.2 = stdR b) {nv ns nt nb : Nat} (hnv : M.1 0 7 = nI nv) (lv : nv ≤ 12) (hns : M.1 0 8 = nI ns) (ls : ns ≤ 4) (hnt : M.1 0 9 = nI nt) (lt : nt ≤ 4) (hnb : M.1 0 10 = nI nb) (lb : nb ≤ 10) (t w : Int32) : gC 2 0 0 yX8_goes cX8_goes 4 (some .int) 140 140 [.ref 0, .int t, .int w] M (gI (fun r M9 => ((∃ q, q < nt ∧ t = nI q ∧ (0 ≤ w ∧ w ≤ 2) ∧ r = if w = 0 then M.1 (q + 74) 3 else if w = 1 then M.1 (q + 74) 4 else M.1 (q + 74) 5) ∨ (¬ (vIn t nt ∧ (0 ≤ w ∧ w ≤ 2)) ∧ r = -1)) ∧ M9 = M)) := by
  refine gC_i rfl (Nat.le_of_ble_eq_true rfl) (fun G hG hE => ?_)
  change G (140, 0, 0) 0 [some (.ref 0), some (.int t), some (.int w), none] [] M
  refine r_aload_n hG dX8_goes_0 rfl ?_
  refine r_iload_n hG dX8_goes_1 rfl ?_
  refine r_cVI1 hG mk_X8_195 dX8_goes_2 rfl (by decide) (ct_X8_isTanker hR (c := nt) hnt (by omega) _) (by decide) ⟨Nat.le_refl _, Nat.le_refl _⟩ (Nat.le_of_ble_eq_true rfl) (fun x9 M9 h9 => ?_)
  obtain ⟨h8, e9⟩ := h9; rw [e9]; rcases h8 with ⟨e8, hw2⟩ | ⟨e8, hw2⟩
  · rw [e8]
    obtain ⟨q2, hq2, hv2⟩ := hw2
    subst hv2
    refine r_if_eq hG 17 dX8_goes_5 (by decide) (fun hc5 => absurd hc5 (by decide)) (fun hc5 => ?_)
    refine r_iload_n hG dX8_goes_8 rfl ?_
    refine r_iconst hG (0) dX8_goes_9 (by decide) ?_
    refine r_iconst hG (2) dX8_goes_10 (by decide) ?_
    refine r_cSI3 hG mk_X8_55 dX8_goes_11 (ct_X8_within _ _ _) (by decide) ⟨Nat.le_refl _, Nat.le_refl _⟩ (Nat.le_of_ble_eq_true rfl) (fun x9 M9 h9 => ?_)
    obtain ⟨h8, e9⟩ := h9; rw [e9]; rcases h8 with ⟨e8, hw11⟩ | ⟨e8, hw11⟩
    · rw [e8]
      refine r_if_ne hG 19 dX8_goes_14 (by decide) (fun hc14 => ?_) (fun hc14 => absurd hc14 (by decide))
      refine r_aload_n hG dX8_goes_19 rfl ?_
      refine r_getR hG 2 3 fk_X8_23 dX8_goes_20 rfl (by decide) rfl (sr hR rfl) ?_
      refine r_iload_n hG dX8_goes_23 rfl ?_
      refine r_aald6 hG q2 (q2 + 74) dX8_goes_24 rfl (by decide) rfl (by omega) (by decide) (sr hR rfl) ?_
      refine r_astore_n hG dX8_goes_25 (by decide) ?_
      refine r_iload_n hG dX8_goes_26 rfl ?_
      refine r_if_ne hG 35 dX8_goes_27 (by decide) (fun hc27 => ?_) (fun hc27 => ?_)
      · refine r_iload_n hG dX8_goes_35 rfl ?_
        refine r_iconst hG (1) dX8_goes_36 (by decide) ?_
        refine r_icmp_ne hG 47 dX8_goes_37 (by decide) (fun hc37 => ?_) (fun hc37 => ?_)
        · refine r_aload_n hG dX8_goes_47 rfl ?_
          refine r_getI hG 5 fk_X8_225 dX8_goes_48 (gkT (by omega)) (show (q2 + 74) < 140 by omega) rfl ?_
          refine hE _ _ _ _ _ dX8_goes_51 rfl (Nat.le_refl _) (Nat.le_refl _) rfl ?_
          exact ⟨Or.inl ⟨_, hq2, rfl, hw11, by simp [hc27, hc37]⟩, rfl⟩
        · refine r_aload_n hG dX8_goes_40 rfl ?_
          refine r_getI hG 4 fk_X8_222 dX8_goes_41 (gkT (by omega)) (show (q2 + 74) < 140 by omega) rfl ?_
          refine r_goto hG 51 dX8_goes_44 (by decide) ?_
          refine hE _ _ _ _ _ dX8_goes_51 rfl (Nat.le_refl _) (Nat.le_refl _) rfl ?_
          exact ⟨Or.inl ⟨_, hq2, rfl, hw11, by simp [hc27, hc37]⟩, rfl⟩
      · refine r_aload_n hG dX8_goes_30 rfl ?_
        refine r_getI hG 3 fk_X8_219 dX8_goes_31 (gkT (by omega)) (show (q2 + 74) < 140 by omega) rfl ?_
        refine hE _ _ _ _ _ dX8_goes_34 rfl (Nat.le_refl _) (Nat.le_refl _) rfl ?_
        exact ⟨Or.inl ⟨_, hq2, rfl, hw11, by simp [hc27]⟩, rfl⟩
    · rw [e8]
      refine r_if_ne hG 19 dX8_goes_14 (by decide) (fun hc14 => absurd hc14 (by decide)) (fun hc14 => ?_)
      refine r_iconst hG (-1) dX8_goes_17 (by decide) ?_
      refine hE _ _ _ _ _ dX8_goes_18 rfl (Nat.le_refl _) (Nat.le_refl _) rfl ?_
      refine ⟨Or.inr ⟨?_, rfl⟩, rfl⟩
      rintro ⟨q1, q2⟩
      first | exact hw2 q1 | exact hw11 q2
  · rw [e8]
    refine r_if_eq hG 17 dX8_goes_5 (by decide) (fun hc5 => ?_) (fun hc5 => absurd hc5 (by decide))
    refine r_iconst hG (-1) dX8_goes_17 (by decide) ?_
    refine hE _ _ _ _ _ dX8_goes_18 rfl (Nat.le_refl _) (Nat.le_refl _) rfl ?_
    refine ⟨Or.inr ⟨?_, rfl⟩, rfl⟩
    rintro ⟨q1, q2⟩
    first | exact hw2 q1 | exact hw11 q2
end
section
/-- tokens and steps below 0 -/
def tk (n : Nat) : Int32 := -1 - nI n
/-- what a step of two does: 0 plus, 1 minus, 2 less, 3 equal, else and -/
def fJoin (c : Nat) (l r : Int32) : Int32 := match c with
  | 0 => l + r
  | 1 => l - r
  | 2 => if l < r then 1 else 0
  | 3 => if l = r then 1 else 0
  | _ => if l = 0 then 0 else if r = 0 then 0 else 1
/-- scratch of the class: facts, stacks and their heights, the planner -/
def Sc (k j : Nat) : Prop := k = 5 ∨ k = 16 ∨ k = 22 ∨ ((k = 11 ∨ k = 17) ∧ j = 7)
def gEq (S : Nat → Nat → Prop) (M M' : gM) : Prop := M'.2 = M.2 ∧ ∀ k j, ¬ S k j → M'.1 k j = M.1 k j
theorem gEq.rf {S : Nat → Nat → Prop} {M : gM} : gEq S M M := ⟨rfl, fun _ _ _ => rfl⟩
theorem gEq.trans {S : Nat → Nat → Prop} {M M1 M2 : gM} (h : gEq S M M1) (h' : gEq S M1 M2) : gEq S M M2 := ⟨h'.1.trans h.1, fun k j hs => (h'.2 k j hs).trans (h.2 k j hs)⟩
theorem gEq.put {S : Nat → Nat → Prop} {M M1 : gM} {k j : Nat} {v : Int32} (h : gEq S M M1) (hs : S k j) : gEq S M (gwI M1 k j v) := ⟨h.1, fun a b hn => by
  rw [gwI_n (fun q => hn (by rw [q.1, q.2]; exact hs))]
  exact h.2 a b hn⟩
theorem gEq.mono {S S' : Nat → Nat → Prop} {M M1 : gM} (h : gEq S M M1) (hs : ∀ k j, S k j → S' k j) : gEq S' M M1 := ⟨h.1, fun k j hn => h.2 k j (fun q => hn (hs k j q))⟩
set_option maxRecDepth 100000 in
set_option maxHeartbeats 4000000 in
theorem ct_X1_clear {M : gM} {b : Bool} (hR : M.2.2 = stdR b) {o : Nat} (ho : o = 11 ∨ o = 17) : gC 0 0 0 yX1_clear cX1_clear 1 none 140 140 [.ref o] M (gV (fun M9 => M9 = gwI (gwI M o 5 0) o 6 0)) := by
  refine gC_v rfl (Nat.le_of_ble_eq_true rfl) (fun G hG hE => ?_)
  change G (140, 0, 0) 0 [some (.ref o)] [] M
  refine r_aload_n hG dX1_clear_0 rfl ?_
  refine r_iconst hG (0) dX1_clear_1 (by decide) ?_
  refine r_putI hG 5 fp_X1_27 dX1_clear_2 (gkO ho) (show o < 140 by omega) rfl rfl rfl ?_
  refine r_aload_n hG dX1_clear_5 rfl ?_
  refine r_iconst hG (0) dX1_clear_6 (by decide) ?_
  refine r_putI hG 6 fp_X1_31 dX1_clear_7 (gkO ho) (show o < 140 by omega) rfl rfl rfl ?_
  refine hE _ _ _ _ dX1_clear_10 rfl (Nat.le_refl _) (Nat.le_refl _) ?_
  rfl

set_option maxRecDepth 100000 in
set_option maxHeartbeats 4000000 in
theorem ct_X1_addLine {M : gM} {b : Bool} (hR : M.2.2 = stdR b) {o : Nat} (ho : o = 11 ∨ o = 17) {nl u : Nat} (hnl : M.1 o 5 = nI nl) (hu : M.1 o 6 = nI u) (l16 : nl < 16) (ki am : Int32) : gC 0 0 0 yX1_addLine cX1_addLine 3 none 140 140 [.ref o, .int ki, .int am] M (gV (fun M9 => M9 = gwI (gwI (gwI (gwI M (o + 1) nl ki) (o + 2) nl am) (o + 3) nl (nI u)) o 5 (nI nl + 1))) := by
  refine gC_v rfl (Nat.le_of_ble_eq_true rfl) (fun G hG hE => ?_)
  change G (140, 0, 0) 0 [some (.ref o), some (.int ki), some (.int am)] [] M
  refine r_aload_n hG dX1_addLine_0 rfl ?_
  refine r_getIv hG 5 (nI nl) fk_X1_27 dX1_addLine_1 (gkO ho) (show o < 140 by omega) rfl hnl ?_
  refine r_bipush hG (16) dX1_addLine_4 (by decide) ?_
  refine r_icmp_ge hG 52 dX1_addLine_6 (by decide) (fun hc6 => absurd (nle_t (a := 16) (b := nl) (by omega) (by omega) hc6) (by omega)) (fun hc6 => ?_)
  refine r_aload_n hG dX1_addLine_9 rfl ?_
  refine r_getR hG 0 (o + 1) fk_X1_9 dX1_addLine_10 (gkO ho) (show o < 140 by omega) rfl (sr hR (sRo ho)) ?_
  refine r_aload_n hG dX1_addLine_13 rfl ?_
  refine r_getIv hG 5 (nI nl) fk_X1_27 dX1_addLine_14 (gkO ho) (show o < 140 by omega) rfl hnl ?_
  refine r_iload_n hG dX1_addLine_17 rfl ?_
  refine r_iast hG nl dX1_addLine_18 (gkO1 ho) (show (o + 1) < 140 by omega) rfl (by omega) (by decide) ?_
  refine r_aload_n hG dX1_addLine_19 rfl ?_
  refine r_getR hG 1 (o + 2) fk_X1_15 dX1_addLine_20 (gkO ho) (show o < 140 by omega) rfl (sr hR (sRo ho)) ?_
  refine r_aload_n hG dX1_addLine_23 rfl ?_
  refine r_getIv hG 5 (nI nl) fk_X1_27 dX1_addLine_24 (gkO ho) (show o < 140 by omega) rfl ((gwI_n (by omega)).trans hnl) ?_
  refine r_iload_n hG dX1_addLine_27 rfl ?_
  refine r_iast hG nl dX1_addLine_28 (gkO2 ho) (show (o + 2) < 140 by omega) rfl (by omega) (by decide) ?_
  refine r_aload_n hG dX1_addLine_29 rfl ?_
  refine r_getR hG 2 (o + 3) fk_X1_18 dX1_addLine_30 (gkO ho) (show o < 140 by omega) rfl (sr hR (sRo ho)) ?_
  refine r_aload_n hG dX1_addLine_33 rfl ?_
  refine r_getIv hG 5 (nI nl) fk_X1_27 dX1_addLine_34 (gkO ho) (show o < 140 by omega) rfl (((gwI_n (by omega)).trans (gwI_n (by omega))).trans hnl) ?_
  refine r_aload_n hG dX1_addLine_37 rfl ?_
  refine r_getIv hG 6 (nI u) fk_X1_31 dX1_addLine_38 (gkO ho) (show o < 140 by omega) rfl (((gwI_n (by omega)).trans (gwI_n (by omega))).trans hu) ?_
  refine r_iast hG nl dX1_addLine_41 (gkO3 ho) (show (o + 3) < 140 by omega) rfl (by omega) (by decide) ?_
  refine r_aload_n hG dX1_addLine_42 rfl ?_
  refine r_dup hG dX1_addLine_43 rfl ?_
  refine r_getIv hG 5 (nI nl) fk_X1_27 dX1_addLine_44 (gkO ho) (show o < 140 by omega) rfl (((gwI_n (by omega)).trans ((gwI_n (by omega)).trans (gwI_n (by omega)))).trans hnl) ?_
  refine r_iconst hG (1) dX1_addLine_47 (by decide) ?_
  refine r_iadd hG dX1_addLine_48 ?_
  refine r_putI hG 5 fp_X1_27 dX1_addLine_49 (gkO ho) (show o < 140 by omega) rfl rfl rfl ?_
  refine hE _ _ _ _ dX1_addLine_52 rfl (Nat.le_refl _) (Nat.le_refl _) ?_
  rfl

set_option maxRecDepth 100000 in
set_option maxHeartbeats 4000000 in
theorem ct_X1_addStep {M : gM} {b : Bool} (hR : M.2.2 = stdR b) {o : Nat} (ho : o = 11 ∨ o = 17) {u : Nat} (hu : M.1 o 6 = nI u) (lu : u < 600) (sx : Int32) : gC 0 0 0 yX1_addStep cX1_addStep 2 none 140 140 [.ref o, .int sx] M (gV (fun M9 => M9 = gwI (gwI M (o + 4) u sx) o 6 (nI u + 1))) := by
  refine gC_v rfl (Nat.le_of_ble_eq_true rfl) (fun G hG hE => ?_)
  change G (140, 0, 0) 0 [some (.ref o), some (.int sx)] [] M
  refine r_aload_n hG dX1_addStep_0 rfl ?_
  refine r_getIv hG 6 (nI u) fk_X1_31 dX1_addStep_1 (gkO ho) (show o < 140 by omega) rfl hu ?_
  refine r_sipush hG (600) dX1_addStep_4 (by decide) ?_
  refine r_icmp_ge hG 30 dX1_addStep_7 (by decide) (fun hc7 => absurd (nle_t (a := 600) (b := u) (by omega) (by omega) hc7) (by omega)) (fun hc7 => ?_)
  refine r_aload_n hG dX1_addStep_10 rfl ?_
  refine r_getR hG 3 (o + 4) fk_X1_21 dX1_addStep_11 (gkO ho) (show o < 140 by omega) rfl (sr hR (sRo ho)) ?_
  refine r_aload_n hG dX1_addStep_14 rfl ?_
  refine r_getIv hG 6 (nI u) fk_X1_31 dX1_addStep_15 (gkO ho) (show o < 140 by omega) rfl hu ?_
  refine r_iload_n hG dX1_addStep_18 rfl ?_
  refine r_iast hG u dX1_addStep_19 (gkO4 ho) (show (o + 4) < 140 by omega) rfl (by omega) (by decide) ?_
  refine r_aload_n hG dX1_addStep_20 rfl ?_
  refine r_dup hG dX1_addStep_21 rfl ?_
  refine r_getIv hG 6 (nI u) fk_X1_31 dX1_addStep_22 (gkO ho) (show o < 140 by omega) rfl ((gwI_n (by omega)).trans hu) ?_
  refine r_iconst hG (1) dX1_addStep_25 (by decide) ?_
  refine r_iadd hG dX1_addStep_26 ?_
  refine r_putI hG 6 fp_X1_31 dX1_addStep_27 (gkO ho) (show o < 140 by omega) rfl rfl rfl ?_
  refine hE _ _ _ _ dX1_addStep_30 rfl (Nat.le_refl _) (Nat.le_refl _) ?_
  rfl

set_option maxRecDepth 100000 in
set_option maxHeartbeats 4000000 in
theorem ct_X1_push {M : gM} {b : Bool} (hR : M.2.2 = stdR b) {o : Nat} (ho : o = 11 ∨ o = 17) {h : Nat} (hh : M.1 o 7 = nI h) (lh : h < 32) (x : Int32) : gC 0 0 0 yX1_push cX1_push 2 none 140 140 [.ref o, .int x] M (gV (fun M9 => M9 = gwI (gwI M (o + 5) h x) o 7 (nI h + 1))) := by
  refine gC_v rfl (Nat.le_of_ble_eq_true rfl) (fun G hG hE => ?_)
  change G (140, 0, 0) 0 [some (.ref o), some (.int x)] [] M
  refine r_aload_n hG dX1_push_0 rfl ?_
  refine r_getIv hG 7 (nI h) fk_X1_38 dX1_push_1 (gkO ho) (show o < 140 by omega) rfl hh ?_
  refine r_bipush hG (32) dX1_push_4 (by decide) ?_
  refine r_icmp_ge hG 29 dX1_push_6 (by decide) (fun hc6 => absurd (nle_t (a := 32) (b := h) (by omega) (by omega) hc6) (by omega)) (fun hc6 => ?_)
  refine r_aload_n hG dX1_push_9 rfl ?_
  refine r_getR hG 4 (o + 5) fk_X1_24 dX1_push_10 (gkO ho) (show o < 140 by omega) rfl (sr hR (sRo ho)) ?_
  refine r_aload_n hG dX1_push_13 rfl ?_
  refine r_getIv hG 7 (nI h) fk_X1_38 dX1_push_14 (gkO ho) (show o < 140 by omega) rfl hh ?_
  refine r_iload_n hG dX1_push_17 rfl ?_
  refine r_iast hG h dX1_push_18 (gkO5 ho) (show (o + 5) < 140 by omega) rfl (by omega) (by decide) ?_
  refine r_aload_n hG dX1_push_19 rfl ?_
  refine r_dup hG dX1_push_20 rfl ?_
  refine r_getIv hG 7 (nI h) fk_X1_38 dX1_push_21 (gkO ho) (show o < 140 by omega) rfl ((gwI_n (by omega)).trans hh) ?_
  refine r_iconst hG (1) dX1_push_24 (by decide) ?_
  refine r_iadd hG dX1_push_25 ?_
  refine r_putI hG 7 fp_X1_38 dX1_push_26 (gkO ho) (show o < 140 by omega) rfl rfl rfl ?_
  refine hE _ _ _ _ dX1_push_29 rfl (Nat.le_refl _) (Nat.le_refl _) ?_
  rfl

set_option maxRecDepth 100000 in
set_option maxHeartbeats 4000000 in
theorem ct_X1_pop {M : gM} {b : Bool} (hR : M.2.2 = stdR b) {o : Nat} (ho : o = 11 ∨ o = 17) {h : Nat} (hh : M.1 o 7 = nI (h + 1)) (lh : h < 32) : gC 0 0 0 yX1_pop cX1_pop 1 (some .int) 140 140 [.ref o] M (gI (fun r M9 => r = M.1 (o + 5) h ∧ M9 = gwI M o 7 (nI h))) := by
  refine gC_i rfl (Nat.le_of_ble_eq_true rfl) (fun G hG hE => ?_)
  change G (140, 0, 0) 0 [some (.ref o)] [] M
  refine r_aload_n hG dX1_pop_0 rfl ?_
  refine r_getIv hG 7 (nI (h + 1)) fk_X1_38 dX1_pop_1 (gkO ho) (show o < 140 by omega) rfl hh ?_
  refine r_if_gt hG 9 dX1_pop_4 (by decide) (fun hc4 => ?_) (fun hc4 => absurd (nlt_f (a := 0) (b := (h + 1)) (by omega) (by omega) hc4) (by omega))
  refine r_aload_n hG dX1_pop_9 rfl ?_
  refine r_dup hG dX1_pop_10 rfl ?_
  refine r_getIv hG 7 (nI (h + 1)) fk_X1_38 dX1_pop_11 (gkO ho) (show o < 140 by omega) rfl hh ?_
  refine r_iconst hG (1) dX1_pop_14 (by decide) ?_
  refine r_isub hG dX1_pop_15 ?_
  refine r_top (nI h) (nI_pred h) ?_
  refine r_putI hG 7 fp_X1_38 dX1_pop_16 (gkO ho) (show o < 140 by omega) rfl rfl rfl ?_
  refine r_aload_n hG dX1_pop_19 rfl ?_
  refine r_getR hG 4 (o + 5) fk_X1_24 dX1_pop_20 (gkO ho) (show o < 140 by omega) rfl (sr hR (sRo ho)) ?_
  refine r_aload_n hG dX1_pop_23 rfl ?_
  refine r_getIv hG 7 (nI h) fk_X1_38 dX1_pop_24 (gkO ho) (show o < 140 by omega) rfl gwI_s ?_
  refine r_ialdv hG h (M.1 (o + 5) h) dX1_pop_27 (gkO5 ho) (show (o + 5) < 140 by omega) rfl (by omega) (by decide) (gwI_n (by omega)) ?_
  refine hE _ _ _ _ _ dX1_pop_28 rfl (Nat.le_refl _) (Nat.le_refl _) rfl ?_
  exact ⟨rfl, rfl⟩

set_option maxRecDepth 100000 in
set_option maxHeartbeats 4000000 in
theorem ct_X1_joined {M : gM} (c : Nat) (hc : c < 5) (l r : Int32) : gC 0 0 0 yX1_joined cX1_joined 3 (some .int) 140 140 [.int (tk (6 + c)), .int l, .int r] M (gI (fun z M9 => z = fJoin c l r ∧ M9 = M)) := by
  refine gC_i rfl (Nat.le_of_ble_eq_true rfl) (fun G hG hE => ?_)
  change G (140, 0, 0) 0 [some (.int (tk (6 + c))), some (.int l), some (.int r)] [] M
  refine r_iload_n hG dX1_joined_0 rfl ?_
  rcases (show c = 0 ∨ c = 1 ∨ c = 2 ∨ c = 3 ∨ c = 4 by omega) with rfl | rfl | rfl | rfl | rfl
  · show G _ _ _ _ _
    refine r_tableIn hG (off := 31) 32 dX1_joined_1 (by decide) (by decide) (by decide) (by decide) ?_
    refine r_iload_n hG dX1_joined_32 rfl ?_
    refine r_iload_n hG dX1_joined_33 rfl ?_
    refine r_iadd hG dX1_joined_34 ?_
    refine hE _ _ _ _ _ dX1_joined_35 rfl (Nat.le_refl _) (Nat.le_refl _) rfl ?_
    exact ⟨rfl, rfl⟩
  · show G _ _ _ _ _
    refine r_tableIn hG (off := 35) 36 dX1_joined_1 (by decide) (by decide) (by decide) (by decide) ?_
    refine r_iload_n hG dX1_joined_36 rfl ?_
    refine r_iload_n hG dX1_joined_37 rfl ?_
    refine r_isub hG dX1_joined_38 ?_
    refine hE _ _ _ _ _ dX1_joined_39 rfl (Nat.le_refl _) (Nat.le_refl _) rfl ?_
    exact ⟨rfl, rfl⟩
  · show G _ _ _ _ _
    refine r_tableIn hG (off := 39) 40 dX1_joined_1 (by decide) (by decide) (by decide) (by decide) ?_
    refine r_iload_n hG dX1_joined_40 rfl ?_
    refine r_iload_n hG dX1_joined_41 rfl ?_
    refine r_icmp_ge hG 49 dX1_joined_42 (by decide) (fun hc42 => ?_) (fun hc42 => ?_)
    · refine r_iconst hG (0) dX1_joined_49 (by decide) ?_
      refine hE _ _ _ _ _ dX1_joined_50 rfl (Nat.le_refl _) (Nat.le_refl _) rfl ?_
      exact ⟨by simp [fJoin, Int32.not_lt.mpr hc42], rfl⟩
    · refine r_iconst hG (1) dX1_joined_45 (by decide) ?_
      refine r_goto hG 50 dX1_joined_46 (by decide) ?_
      refine hE _ _ _ _ _ dX1_joined_50 rfl (Nat.le_refl _) (Nat.le_refl _) rfl ?_
      exact ⟨by simp [fJoin, Int32.not_le.mp hc42], rfl⟩
  · show G _ _ _ _ _
    refine r_tableIn hG (off := 50) 51 dX1_joined_1 (by decide) (by decide) (by decide) (by decide) ?_
    refine r_iload_n hG dX1_joined_51 rfl ?_
    refine r_iload_n hG dX1_joined_52 rfl ?_
    refine r_icmp_ne hG 60 dX1_joined_53 (by decide) (fun hc53 => ?_) (fun hc53 => ?_)
    · refine r_iconst hG (0) dX1_joined_60 (by decide) ?_
      refine hE _ _ _ _ _ dX1_joined_61 rfl (Nat.le_refl _) (Nat.le_refl _) rfl ?_
      exact ⟨by simp [fJoin, hc53], rfl⟩
    · refine r_iconst hG (1) dX1_joined_56 (by decide) ?_
      refine r_goto hG 61 dX1_joined_57 (by decide) ?_
      refine hE _ _ _ _ _ dX1_joined_61 rfl (Nat.le_refl _) (Nat.le_refl _) rfl ?_
      exact ⟨by simp [fJoin, hc53], rfl⟩
  · show G _ _ _ _ _
    refine r_tableOut hG 62 dX1_joined_1 (by decide) (by decide) ?_
    refine r_iload_n hG dX1_joined_62 rfl ?_
    refine r_if_eq hG 74 dX1_joined_63 (by decide) (fun hc63 => ?_) (fun hc63 => ?_)
    · refine r_iconst hG (0) dX1_joined_74 (by decide) ?_
      refine hE _ _ _ _ _ dX1_joined_75 rfl (Nat.le_refl _) (Nat.le_refl _) rfl ?_
      exact ⟨by simp [fJoin, hc63], rfl⟩
    · refine r_iload_n hG dX1_joined_66 rfl ?_
      refine r_if_eq hG 74 dX1_joined_67 (by decide) (fun hc67 => ?_) (fun hc67 => ?_)
      · refine r_iconst hG (0) dX1_joined_74 (by decide) ?_
        refine hE _ _ _ _ _ dX1_joined_75 rfl (Nat.le_refl _) (Nat.le_refl _) rfl ?_
        exact ⟨by simp [fJoin, hc63, hc67], rfl⟩
      · refine r_iconst hG (1) dX1_joined_70 (by decide) ?_
        refine r_goto hG 75 dX1_joined_71 (by decide) ?_
        refine hE _ _ _ _ _ dX1_joined_75 rfl (Nat.le_refl _) (Nat.le_refl _) rfl ?_
        exact ⟨by simp [fJoin, hc63, hc67], rfl⟩
end
section
/-- a step of a test's code: (0, v) the number v; (w + 1, _) fact w, w < 6; (c + 7, _) sign c, c < 5 -/
def stv (e : Nat × Int32) : Int32 := match e.1 with
  | 0 => e.2
  | n + 1 => tk n
def sst (F : Nat → Int32) (e : Nat × Int32) (q : Nat × (Nat → Int32)) : Nat × (Nat → Int32) := match e.1 with
  | 0 => (q.1 + 1, upd q.2 q.1 e.2)
  | n + 1 => if n < 6 then (q.1 + 1, upd q.2 q.1 (F n)) else (q.1 - 1, upd q.2 (q.1 - 2) (fJoin (n - 6) (q.2 (q.1 - 2)) (q.2 (q.1 - 1))))
def evs (F : Nat → Int32) (C : Nat → Nat × Int32) : Nat → Nat → Nat × (Nat → Int32) → Nat × (Nat → Int32)
  | _, 0, q => q
  | i, n + 1, q => evs F C (i + 1) n (sst F (C i) q)
/-- the stack's height goes well -/
def hchk (C : Nat → Nat × Int32) : Nat → Nat → Nat → Prop
  | _, 0, h => h = 1
  | i, n + 1, h => if (C i).1 < 7 then h < 20 ∧ hchk C (i + 1) n (h + 1) else (C i).1 < 12 ∧ 2 ≤ h ∧ hchk C (i + 1) n (h - 1)
def evv (F : Nat → Int32) (C : Nat → Nat × Int32) (a e : Nat) : Int32 := (evs F C a (e - a) (0, fun _ => 0)).2 0
/-- the orders in the cell o, as a text: nl lines, B beast?, A litres, ST starts, C code -/
def ordC (M : gM) (o nl : Nat) (B : Nat → Bool) (A : Nat → Int32) (ST : Nat → Nat) (C : Nat → Nat × Int32) : Prop :=
  nl ≤ 16 ∧ M.1 o 5 = nI nl ∧ M.1 o 6 = nI (ST nl) ∧ ST nl ≤ 600 ∧ (∀ i, i < nl → ST i ≤ ST (i + 1) ∧ M.1 (o + 1) i = (if B i then tk 12 else tk 11) ∧ M.1 (o + 2) i = A i ∧ M.1 (o + 3) i = nI (ST i) ∧ hchk C (ST i) (ST (i + 1) - ST i) 0) ∧ (∀ j, j < ST nl → M.1 (o + 4) j = stv (C j) ∧ ((C j).1 = 0 → 0 ≤ (C j).2))
theorem ST_le {nl : Nat} {ST : Nat → Nat} (h : ∀ i, i < nl → ST i ≤ ST (i + 1)) : ∀ i, i ≤ nl → ST i ≤ ST nl := by
  intro i hi
  induction nl with
  | zero => rw [show i = 0 by omega]; exact Nat.le_refl _
  | succ n ih =>
    by_cases e : i = n + 1
    · rw [e]; exact Nat.le_refl _
    · exact Nat.le_trans (ih (fun k hk => h k (by omega)) (by omega)) (h n (by omega))
theorem tk_idx : ∀ w, w < 20 → -1 - tk w = nI w := by decide
theorem tk_neg : ∀ w, w < 20 → tk w < 0 := by decide
theorem ordC.same {M M' : gM} {o nl : Nat} {B : Nat → Bool} {A : Nat → Int32} {ST : Nat → Nat} {C : Nat → Nat × Int32} (ho : o = 11 ∨ o = 17) (h : ordC M o nl B A ST C) (hq : gEq Sc M M') : ordC M' o nl B A ST C := by
  obtain ⟨h1, h2, h3, h4, h5, h6⟩ := h
  refine ⟨h1, ?_, ?_, h4, fun i hi => ?_, fun j hj => ?_⟩
  · rw [hq.2 o 5 (by unfold Sc; omega)]; exact h2
  · rw [hq.2 o 6 (by unfold Sc; omega)]; exact h3
  · obtain ⟨g1, g2, g3, g4, g5⟩ := h5 i hi
    refine ⟨g1, ?_, ?_, ?_, g5⟩
    · rw [hq.2 (o + 1) i (by unfold Sc; omega)]; exact g2
    · rw [hq.2 (o + 2) i (by unfold Sc; omega)]; exact g3
    · rw [hq.2 (o + 3) i (by unfold Sc; omega)]; exact g4
  · rw [hq.2 (o + 4) j (by unfold Sc; omega)]; exact h6 j hj
set_option maxRecDepth 100000 in
set_option maxHeartbeats 4000000 in
theorem lp_X1_valueOf {G : gJ} {P : Int32 → gM → Prop} (hG : gS 1 0 0 yX1_valueOf.cls cX1_valueOf 9 G) (hE : gEi 140 0 0 cX1_valueOf .int P G) {M0 : gM} {b : Bool} (hR0 : M0.2.2 = stdR b) {o : Nat} (ho : o = 11 ∨ o = 17) {F : Nat → Int32} {C : Nat → Nat × Int32} {i e : Nat} (le : e ≤ 600) (hS : ∀ j, j < e → M0.1 (o + 4) j = stv (C j) ∧ ((C j).1 = 0 → 0 ≤ (C j).2)) (hF0 : ∀ M, gEq (fun k j => k = 16 ∨ k = 22 ∨ ((k = 11 ∨ k = 17) ∧ j = 7)) M0 M → ∀ w, w < 6 → M.1 5 w = F w) :
    ∀ (n j h : Nat) (f : Nat → Int32) (M : gM), j + n = e → h ≤ 20 → hchk C j n h → gEq (fun k j => k = 16 ∨ k = 22 ∨ ((k = 11 ∨ k = 17) ∧ j = 7)) M0 M → M.1 o 7 = nI h → (∀ t, t < h → M.1 (o + 5) t = f t) → (∀ M9, gEq (fun k j => k = 16 ∨ k = 22 ∨ ((k = 11 ∨ k = 17) ∧ j = 7)) M0 M9 → P ((evs F C j n (h, f)).2 0) M9) →
      ∀ x5 x6 x7 x8, G (140, 0, 0) 39 [some (.ref o), some (.int (nI i)), some (.ref 5), some (.int (nI e)), some (.int (nI j)), x5, x6, x7, x8] [] M := by
  intro n
  induction n with
  | zero =>
    intro j h f M hj hl20 hk hq hh hf hP x5 x6 x7 x8
    have hR : M.2.2 = stdR b := by rw [hq.1]; exact hR0
    have hk1 : h = 1 := hk
    subst hk1
    have hj2 : j = e := by omega
    refine r_iload hG dX1_valueOf_39 rfl ?_
    refine r_iload_n hG dX1_valueOf_41 rfl ?_
    refine r_icmp_ge hG 123 dX1_valueOf_42 (by decide) (fun hc42 => ?_) (fun hc42 => absurd (nle_f (a := e) (b := j) (by omega) (by omega) hc42) (by omega))
    refine r_aload_n hG dX1_valueOf_123 rfl ?_
    refine r_cVI0 hG mk_X1_45 dX1_valueOf_124 (gkO ho) (show o < 140 by omega) (ct_X1_pop hR ho (h := 0) hh (by omega)) (by decide) ⟨Nat.le_refl _, Nat.le_refl _⟩ (Nat.le_of_ble_eq_true rfl) (fun x9 M9 h9 => ?_)
    obtain ⟨e8, e9⟩ := h9
    rw [e8, e9]
    refine hE _ _ _ _ _ dX1_valueOf_127 rfl (Nat.le_refl _) (Nat.le_refl _) rfl ?_
    rw [hf 0 (by omega)]
    exact hP _ (hq.put (by omega))
  | succ n ih =>
    intro j h f M hj hl20 hk hq hh hf hP x5 x6 x7 x8
    have hR : M.2.2 = stdR b := by rw [hq.1]; exact hR0
    have hF : ∀ w, w < 6 → M.1 5 w = F w := hF0 M hq
    obtain ⟨hs, hv0⟩ := hS j (by omega)
    rw [← hq.2 (o + 4) j (by omega)] at hs
    unfold hchk at hk
    rcases hC : C j with ⟨t, v⟩
    rw [hC] at hs hk hv0
    have hcs : t = 0 ∨ (∃ w, w < 6 ∧ t = w + 1) ∨ (∃ c, c < 5 ∧ t = c + 7) := by
      by_cases q1 : t < 7
      · by_cases q2 : t = 0
        · exact Or.inl q2
        · exact Or.inr (Or.inl ⟨t - 1, by omega, by omega⟩)
      · rw [if_neg q1] at hk
        exact Or.inr (Or.inr ⟨t - 7, by have := hk.1; omega, by omega⟩)
    rcases hcs with rfl | ⟨w, hw, rfl⟩ | ⟨c, hc, rfl⟩
    · have hv : 0 ≤ v := hv0 rfl
      have hs : M.1 (o + 4) j = v := hs
      rw [if_pos (show (0 : Nat) < 7 by decide)] at hk
      obtain ⟨hk1, hk2⟩ := hk
      refine r_iload hG dX1_valueOf_39 rfl ?_
      refine r_iload_n hG dX1_valueOf_41 rfl ?_
      refine r_icmp_ge hG 123 dX1_valueOf_42 (by decide) (fun hc42 => absurd (nle_t (a := e) (b := j) (by omega) (by omega) hc42) (by omega)) (fun hc42 => ?_)
      refine r_aload_n hG dX1_valueOf_45 rfl ?_
      refine r_getR hG 3 (o + 4) fk_X1_21 dX1_valueOf_46 (gkO ho) (show o < 140 by omega) rfl (sr hR (sRo ho)) ?_
      refine r_iload hG dX1_valueOf_49 rfl ?_
      refine r_ialdv hG j (v) dX1_valueOf_51 (gkO4 ho) (show (o + 4) < 140 by omega) rfl (by omega) (by decide) hs ?_
      refine r_istore hG dX1_valueOf_52 (by decide) ?_
      refine r_iconst hG (-1) dX1_valueOf_54 (by decide) ?_
      refine r_iload hG dX1_valueOf_55 rfl ?_
      refine r_isub hG dX1_valueOf_57 ?_
      refine r_istore hG dX1_valueOf_58 (by decide) ?_
      refine r_iload hG dX1_valueOf_60 rfl ?_
      refine r_if_lt hG 74 dX1_valueOf_62 (by decide) (fun hc62 => absurd hc62 (Int32.not_lt.mpr hv)) (fun hc62 => ?_)
      refine r_aload_n hG dX1_valueOf_65 rfl ?_
      refine r_iload hG dX1_valueOf_66 rfl ?_
      refine r_cVV1 hG mk_X1_41 dX1_valueOf_68 (gkO ho) (show o < 140 by omega) (ct_X1_push hR ho hh (by omega) _) (by decide) ⟨Nat.le_refl _, Nat.le_refl _⟩ (Nat.le_of_ble_eq_true rfl) (fun M9 h9 => ?_)
      rw [h9]
      refine r_goto hG 117 dX1_valueOf_71 (by decide) ?_
      refine r_iinc hG (1) dX1_valueOf_117 (by decide) rfl ?_
      refine r_goto hG 39 dX1_valueOf_120 (by decide) ?_
      rw [nI_1, nI_1]
      refine ih (j + 1) (h + 1) (upd f h v) _ (by omega) (by omega) hk2 ((hq.put (by omega)).put (by omega)) gwI_s ?_ ?_ _ _ _ _
      · intro t ht
        rw [gwI_n (by omega)]
        by_cases e2 : t = h
        · subst e2
          rw [gwI_s]
          simp [upd]
        · rw [gwI_n (by omega), hf t (by omega)]
          simp [upd, e2]
      · have e3 : evs F C j (n + 1) (h, f) = evs F C (j + 1) n (h + 1, upd f h v) := by
          simp only [evs, sst, hC]
        rw [← e3]
        exact hP
    · have hs : M.1 (o + 4) j = tk w := hs
      rw [if_pos (show w + 1 < 7 by omega)] at hk
      obtain ⟨hk1, hk2⟩ := hk
      refine r_iload hG dX1_valueOf_39 rfl ?_
      refine r_iload_n hG dX1_valueOf_41 rfl ?_
      refine r_icmp_ge hG 123 dX1_valueOf_42 (by decide) (fun hc42 => absurd (nle_t (a := e) (b := j) (by omega) (by omega) hc42) (by omega)) (fun hc42 => ?_)
      refine r_aload_n hG dX1_valueOf_45 rfl ?_
      refine r_getR hG 3 (o + 4) fk_X1_21 dX1_valueOf_46 (gkO ho) (show o < 140 by omega) rfl (sr hR (sRo ho)) ?_
      refine r_iload hG dX1_valueOf_49 rfl ?_
      refine r_ialdv hG j (tk w) dX1_valueOf_51 (gkO4 ho) (show (o + 4) < 140 by omega) rfl (by omega) (by decide) hs ?_
      refine r_istore hG dX1_valueOf_52 (by decide) ?_
      refine r_iconst hG (-1) dX1_valueOf_54 (by decide) ?_
      refine r_iload hG dX1_valueOf_55 rfl ?_
      refine r_isub hG dX1_valueOf_57 ?_
      refine r_top (nI w) (tk_idx w (by omega)) ?_
      refine r_istore hG dX1_valueOf_58 (by decide) ?_
      refine r_iload hG dX1_valueOf_60 rfl ?_
      refine r_if_lt hG 74 dX1_valueOf_62 (by decide) (fun hc62 => ?_) (fun hc62 => absurd (tk_neg w (by omega)) hc62)
      refine r_iload hG dX1_valueOf_74 rfl ?_
      refine r_bipush hG (6) dX1_valueOf_76 (by decide) ?_
      refine r_icmp_ge hG 92 dX1_valueOf_78 (by decide) (fun hc78 => absurd (nle_t (a := 6) (b := w) (by omega) (by omega) hc78) (by omega)) (fun hc78 => ?_)
      refine r_aload_n hG dX1_valueOf_81 rfl ?_
      refine r_aload_n hG dX1_valueOf_82 rfl ?_
      refine r_iload hG dX1_valueOf_83 rfl ?_
      refine r_ialdv hG w (F w) dX1_valueOf_85 rfl (by decide) rfl (by omega) (by decide) (hF w hw) ?_
      refine r_cVV1 hG mk_X1_41 dX1_valueOf_86 (gkO ho) (show o < 140 by omega) (ct_X1_push hR ho hh (by omega) _) (by decide) ⟨Nat.le_refl _, Nat.le_refl _⟩ (Nat.le_of_ble_eq_true rfl) (fun M9 h9 => ?_)
      rw [h9]
      refine r_goto hG 117 dX1_valueOf_89 (by decide) ?_
      refine r_iinc hG (1) dX1_valueOf_117 (by decide) rfl ?_
      refine r_goto hG 39 dX1_valueOf_120 (by decide) ?_
      rw [nI_1, nI_1]
      refine ih (j + 1) (h + 1) (upd f h (F w)) _ (by omega) (by omega) hk2 ((hq.put (by omega)).put (by omega)) gwI_s ?_ ?_ _ _ _ _
      · intro t ht
        rw [gwI_n (by omega)]
        by_cases e2 : t = h
        · subst e2
          rw [gwI_s]
          simp [upd]
        · rw [gwI_n (by omega), hf t (by omega)]
          simp [upd, e2]
      · have e3 : evs F C j (n + 1) (h, f) = evs F C (j + 1) n (h + 1, upd f h (F w)) := by
          simp only [evs, sst, hC, hw, if_true]
        rw [← e3]
        exact hP
    · have hs : M.1 (o + 4) j = tk (6 + c) := by rw [hs, Nat.add_comm 6 c]; rfl
      rw [if_neg (show ¬ c + 7 < 7 by omega)] at hk
      obtain ⟨-, hk1, hk2⟩ := hk
      obtain ⟨h, rfl⟩ : ∃ h', h = h' + 2 := ⟨h - 2, by omega⟩
      refine r_iload hG dX1_valueOf_39 rfl ?_
      refine r_iload_n hG dX1_valueOf_41 rfl ?_
      refine r_icmp_ge hG 123 dX1_valueOf_42 (by decide) (fun hc42 => absurd (nle_t (a := e) (b := j) (by omega) (by omega) hc42) (by omega)) (fun hc42 => ?_)
      refine r_aload_n hG dX1_valueOf_45 rfl ?_
      refine r_getR hG 3 (o + 4) fk_X1_21 dX1_valueOf_46 (gkO ho) (show o < 140 by omega) rfl (sr hR (sRo ho)) ?_
      refine r_iload hG dX1_valueOf_49 rfl ?_
      refine r_ialdv hG j (tk (6 + c)) dX1_valueOf_51 (gkO4 ho) (show (o + 4) < 140 by omega) rfl (by omega) (by decide) hs ?_
      refine r_istore hG dX1_valueOf_52 (by decide) ?_
      refine r_iconst hG (-1) dX1_valueOf_54 (by decide) ?_
      refine r_iload hG dX1_valueOf_55 rfl ?_
      refine r_isub hG dX1_valueOf_57 ?_
      refine r_top (nI (6 + c)) (tk_idx (6 + c) (by omega)) ?_
      refine r_istore hG dX1_valueOf_58 (by decide) ?_
      refine r_iload hG dX1_valueOf_60 rfl ?_
      refine r_if_lt hG 74 dX1_valueOf_62 (by decide) (fun hc62 => ?_) (fun hc62 => absurd (tk_neg (6 + c) (by omega)) hc62)
      refine r_iload hG dX1_valueOf_74 rfl ?_
      refine r_bipush hG (6) dX1_valueOf_76 (by decide) ?_
      refine r_icmp_ge hG 92 dX1_valueOf_78 (by decide) (fun hc78 => ?_) (fun hc78 => absurd (nle_f (a := 6) (b := (6 + c)) (by omega) (by omega) hc78) (by omega))
      refine r_aload_n hG dX1_valueOf_92 rfl ?_
      refine r_cVI0 hG mk_X1_45 dX1_valueOf_93 (gkO ho) (show o < 140 by omega) (ct_X1_pop hR ho (h := h + 1) hh (by omega)) (by decide) ⟨Nat.le_refl _, Nat.le_refl _⟩ (Nat.le_of_ble_eq_true rfl) (fun x9 M9 h9 => ?_)
      obtain ⟨e8, e9⟩ := h9
      rw [e8, e9]
      refine r_istore hG dX1_valueOf_96 (by decide) ?_
      refine r_aload_n hG dX1_valueOf_98 rfl ?_
      refine r_cVI0 hG mk_X1_45 dX1_valueOf_99 (gkO ho) (show o < 140 by omega) (ct_X1_pop (M := gwI M o 7 (nI (h + 1))) hR ho (h := h) gwI_s (by omega)) (by decide) ⟨Nat.le_refl _, Nat.le_refl _⟩ (Nat.le_of_ble_eq_true rfl) (fun x9 M9 h9 => ?_)
      obtain ⟨e8, e9⟩ := h9
      rw [e8, e9, gwI_n (by omega)]
      refine r_istore hG dX1_valueOf_102 (by decide) ?_
      refine r_aload_n hG dX1_valueOf_104 rfl ?_
      refine r_iload hG dX1_valueOf_105 rfl ?_
      refine r_iload hG dX1_valueOf_107 rfl ?_
      refine r_iload hG dX1_valueOf_109 rfl ?_
      refine r_cSI3 hG mk_X1_49 dX1_valueOf_111 (ct_X1_joined c hc _ _) (by decide) ⟨Nat.le_refl _, Nat.le_refl _⟩ (Nat.le_of_ble_eq_true rfl) (fun x9 M9 h9 => ?_)
      obtain ⟨e8, e9⟩ := h9
      rw [e8, e9]
      refine r_cVV1 hG mk_X1_41 dX1_valueOf_114 (gkO ho) (show o < 140 by omega) (ct_X1_push (M := gwI (gwI M o 7 (nI (h + 1))) o 7 (nI h)) hR ho (h := h) gwI_s (by omega) _) (by decide) ⟨Nat.le_refl _, Nat.le_refl _⟩ (Nat.le_of_ble_eq_true rfl) (fun M9 h9 => ?_)
      rw [h9]
      refine r_iinc hG (1) dX1_valueOf_117 (by decide) rfl ?_
      refine r_goto hG 39 dX1_valueOf_120 (by decide) ?_
      rw [nI_1, nI_1]
      refine ih (j + 1) (h + 1) (upd f h (fJoin c (f h) (f (h + 1)))) _ (by omega) (by omega) hk2 (((((hq.put (by omega)).put (by omega)).put (by omega))).put (by omega)) gwI_s ?_ ?_ _ _ _ _
      · intro t ht
        rw [gwI_n (by omega)]
        by_cases e2 : t = h
        · subst e2
          rw [gwI_s]
          simp [upd, hf t (by omega), hf (t + 1) (by omega)]
        · rw [gwI_n (by omega), gwI_n (by omega), gwI_n (by omega), hf t (by omega)]
          simp [upd, e2]
      · have e3 : evs F C j (n + 1) (h + 2, f) = evs F C (j + 1) n (h + 1, upd f h (fJoin c (f h) (f (h + 1)))) := by
          simp only [evs, sst, hC]
          rw [if_neg (by omega)]
          simp
        rw [← e3]
        exact hP
end
section
/-- scratch of a test's evaluation -/
def Sv (k j : Nat) : Prop := k = 16 ∨ k = 22 ∨ ((k = 11 ∨ k = 17) ∧ j = 7)
def kdv (be : Bool) : Int32 := if be then tk 12 else tk 11
theorem kd_ne {x y : Bool} (h : ¬ x = y) : ¬ kdv x = kdv y := by
  cases x <;> cases y <;> first | exact absurd rfl h | decide
/-- litres by the first line that holds -/
def litr (F : Nat → Int32) (B : Nat → Bool) (A : Nat → Int32) (ST : Nat → Nat) (C : Nat → Nat × Int32) (be : Bool) (us : Int32) : Nat → Nat → Int32
  | 0, _ => us
  | n + 1, i => if B i = be ∧ ¬ evv F C (ST i) (ST (i + 1)) = 0 then A i else litr F B A ST C be us n (i + 1)
theorem ordC.sv {M M' : gM} {o nl : Nat} {B : Nat → Bool} {A : Nat → Int32} {ST : Nat → Nat} {C : Nat → Nat × Int32} (ho : o = 11 ∨ o = 17) (h : ordC M o nl B A ST C) (hq : gEq Sv M M') : ordC M' o nl B A ST C :=
  h.same ho (hq.mono (fun k j h => by unfold Sv at h; unfold Sc; omega))
set_option maxRecDepth 100000 in
set_option maxHeartbeats 4000000 in
theorem ct_X1_valueOf {M : gM} {b : Bool} (hR : M.2.2 = stdR b) {o : Nat} (ho : o = 11 ∨ o = 17) {nl : Nat} {B : Nat → Bool} {A : Nat → Int32} {ST : Nat → Nat} {C : Nat → Nat × Int32} (hO : ordC M o nl B A ST C) {F : Nat → Int32} (hF : ∀ w, w < 6 → M.1 5 w = F w) {i : Nat} (hi : i < nl) : gC 1 0 0 yX1_valueOf cX1_valueOf 9 (some .int) 140 140 [.ref o, .int (nI i), .ref 5] M (gI (fun r M9 => r = evv F C (ST i) (ST (i + 1)) ∧ gEq Sv M M9)) := by
  refine gC_i rfl (Nat.le_of_ble_eq_true rfl) (fun G hG hE => ?_)
  change G (140, 0, 0) 0 [some (.ref o), some (.int (nI i)), some (.ref 5), none, none, none, none, none, none] [] M
  obtain ⟨l16, hnl, hu, lu, hl, hS⟩ := hO
  obtain ⟨g1, g2, g3, g4, g5⟩ := hl i hi
  have hst : ∀ k, k < nl → M.1 (o + 3) k = nI (ST k) := fun k hk => (hl k hk).2.2.2.1
  have hle := ST_le (fun k hk => (hl k hk).1)
  have b1 := hle i (by omega)
  have b2 := hle (i + 1) (by omega)
  refine r_iload_n hG dX1_valueOf_0 rfl ?_
  refine r_iconst hG (1) dX1_valueOf_1 (by decide) ?_
  refine r_iadd hG dX1_valueOf_2 ?_
  refine r_top (nI (i + 1)) (nI_1 i) ?_
  refine r_aload_n hG dX1_valueOf_3 rfl ?_
  refine r_getIv hG 5 (nI nl) fk_X1_27 dX1_valueOf_4 (gkO ho) (show o < 140 by omega) rfl hnl ?_
  refine r_icmp_ge hG 21 dX1_valueOf_7 (by decide) (fun hc7 => ?_) (fun hc7 => ?_)
  · have hn7 := nle_t (a := nl) (b := (i + 1)) (by omega) (by omega) hc7
    refine r_aload_n hG dX1_valueOf_21 rfl ?_
    refine r_getIv hG 6 (nI (ST (i + 1))) fk_X1_31 dX1_valueOf_22 (gkO ho) (show o < 140 by omega) rfl (by rw [hu, show nl = i + 1 by omega]) ?_
    refine r_istore_n hG dX1_valueOf_25 (by decide) ?_
    refine r_aload_n hG dX1_valueOf_26 rfl ?_
    refine r_iconst hG (0) dX1_valueOf_27 (by decide) ?_
    refine r_putI hG 7 fp_X1_38 dX1_valueOf_28 (gkO ho) (show o < 140 by omega) rfl rfl rfl ?_
    refine r_aload_n hG dX1_valueOf_31 rfl ?_
    refine r_getR hG 2 (o + 3) fk_X1_18 dX1_valueOf_32 (gkO ho) (show o < 140 by omega) rfl (sr hR (sRo ho)) ?_
    refine r_iload_n hG dX1_valueOf_35 rfl ?_
    refine r_ialdv hG i (nI (ST i)) dX1_valueOf_36 (gkO3 ho) (show (o + 3) < 140 by omega) rfl (by omega) (by decide) ((gwI_n (by omega)).trans (hst i (by omega))) ?_
    refine r_istore hG dX1_valueOf_37 (by decide) ?_
    exact lp_X1_valueOf hG hE hR ho (e := ST (i + 1)) (by omega) (fun j hj => hS j (by omega)) (fun M9 hq w hw => (hq.2 5 w (by omega)).trans (hF w hw)) (ST (i + 1) - ST i) (ST i) 0 (fun _ => 0) _ (by omega) (by omega) g5 (gEq.rf.put (by omega)) gwI_s (fun t ht => absurd ht (by omega)) (fun M9 h9 => ⟨rfl, h9⟩) _ _ _ _
  · have hn7 := nle_f (a := nl) (b := (i + 1)) (by omega) (by omega) hc7
    refine r_aload_n hG dX1_valueOf_10 rfl ?_
    refine r_getR hG 2 (o + 3) fk_X1_18 dX1_valueOf_11 (gkO ho) (show o < 140 by omega) rfl (sr hR (sRo ho)) ?_
    refine r_iload_n hG dX1_valueOf_14 rfl ?_
    refine r_iconst hG (1) dX1_valueOf_15 (by decide) ?_
    refine r_iadd hG dX1_valueOf_16 ?_
    refine r_top (nI (i + 1)) (nI_1 i) ?_
    refine r_ialdv hG (i + 1) (nI (ST (i + 1))) dX1_valueOf_17 (gkO3 ho) (show (o + 3) < 140 by omega) rfl (by omega) (by decide) (hst (i + 1) (by omega)) ?_
    refine r_goto hG 25 dX1_valueOf_18 (by decide) ?_
    refine r_istore_n hG dX1_valueOf_25 (by decide) ?_
    refine r_aload_n hG dX1_valueOf_26 rfl ?_
    refine r_iconst hG (0) dX1_valueOf_27 (by decide) ?_
    refine r_putI hG 7 fp_X1_38 dX1_valueOf_28 (gkO ho) (show o < 140 by omega) rfl rfl rfl ?_
    refine r_aload_n hG dX1_valueOf_31 rfl ?_
    refine r_getR hG 2 (o + 3) fk_X1_18 dX1_valueOf_32 (gkO ho) (show o < 140 by omega) rfl (sr hR (sRo ho)) ?_
    refine r_iload_n hG dX1_valueOf_35 rfl ?_
    refine r_ialdv hG i (nI (ST i)) dX1_valueOf_36 (gkO3 ho) (show (o + 3) < 140 by omega) rfl (by omega) (by decide) ((gwI_n (by omega)).trans (hst i (by omega))) ?_
    refine r_istore hG dX1_valueOf_37 (by decide) ?_
    exact lp_X1_valueOf hG hE hR ho (e := ST (i + 1)) (by omega) (fun j hj => hS j (by omega)) (fun M9 hq w hw => (hq.2 5 w (by omega)).trans (hF w hw)) (ST (i + 1) - ST i) (ST i) 0 (fun _ => 0) _ (by omega) (by omega) g5 (gEq.rf.put (by omega)) gwI_s (fun t ht => absurd ht (by omega)) (fun M9 h9 => ⟨rfl, h9⟩) _ _ _ _

set_option maxRecDepth 100000 in
set_option maxHeartbeats 4000000 in
theorem lp_X1_litresFor {G : gJ} {P : Int32 → gM → Prop} (hG : gS 2 0 0 yX1_litresFor.cls cX1_litresFor 5 G) (hE : gEi 140 0 0 cX1_litresFor .int P G) {M0 : gM} {b : Bool} (hR0 : M0.2.2 = stdR b) {o : Nat} (ho : o = 11 ∨ o = 17) {nl : Nat} {B : Nat → Bool} {A : Nat → Int32} {ST : Nat → Nat} {C : Nat → Nat × Int32} (hO : ordC M0 o nl B A ST C) {F : Nat → Int32} (hF0 : ∀ w, w < 6 → M0.1 5 w = F w) (be : Bool) (us : Int32) :
    ∀ (n i : Nat) (M : gM), i + n = nl → gEq Sv M0 M → (∀ M9, gEq Sv M0 M9 → P (litr F B A ST C be us n i) M9) → G (140, 0, 0) 3 [some (.ref o), some (.int (kdv be)), some (.ref 5), some (.int us), some (.int (nI i))] [] M := by
  intro n
  induction n with
  | zero =>
    intro i M hi hq hP
    have hR : M.2.2 = stdR b := by rw [hq.1]; exact hR0
    obtain ⟨l16, hnl, hu, lu, hl, hS⟩ := hO.sv ho hq
    refine r_iload hG dX1_litresFor_3 rfl ?_
    refine r_aload_n hG dX1_litresFor_5 rfl ?_
    refine r_getIv hG 5 (nI nl) fk_X1_27 dX1_litresFor_6 (gkO ho) (show o < 140 by omega) rfl hnl ?_
    refine r_icmp_ge hG 47 dX1_litresFor_9 (by decide) (fun hc9 => ?_) (fun hc9 => absurd (nle_f (a := nl) (b := i) (by omega) (by omega) hc9) (by omega))
    refine r_iload_n hG dX1_litresFor_47 rfl ?_
    refine hE _ _ _ _ _ dX1_litresFor_48 rfl (Nat.le_refl _) (Nat.le_refl _) rfl ?_
    exact hP _ hq
  | succ n ih =>
    intro i M hi hq hP
    have hR : M.2.2 = stdR b := by rw [hq.1]; exact hR0
    have hOM := hO.sv ho hq
    have hF : ∀ w, w < 6 → M.1 5 w = F w := fun w hw => (hq.2 5 w (by unfold Sv; omega)).trans (hF0 w hw)
    obtain ⟨l16, hnl, hu, lu, hl, hS⟩ := id hOM
    obtain ⟨g1, g2, g3, g4, g5⟩ := hl i (by omega)
    by_cases hB : B i = be
    · skip
      refine r_iload hG dX1_litresFor_3 rfl ?_
      refine r_aload_n hG dX1_litresFor_5 rfl ?_
      refine r_getIv hG 5 (nI nl) fk_X1_27 dX1_litresFor_6 (gkO ho) (show o < 140 by omega) rfl hnl ?_
      refine r_icmp_ge hG 47 dX1_litresFor_9 (by decide) (fun hc9 => absurd (nle_t (a := nl) (b := i) (by omega) (by omega) hc9) (by omega)) (fun hc9 => ?_)
      refine r_aload_n hG dX1_litresFor_12 rfl ?_
      refine r_getR hG 0 (o + 1) fk_X1_9 dX1_litresFor_13 (gkO ho) (show o < 140 by omega) rfl (sr hR (sRo ho)) ?_
      refine r_iload hG dX1_litresFor_16 rfl ?_
      refine r_ialdv hG i (kdv be) dX1_litresFor_18 (gkO1 ho) (show (o + 1) < 140 by omega) rfl (by omega) (by decide) (by rw [g2, hB]; rfl) ?_
      refine r_iload_n hG dX1_litresFor_19 rfl ?_
      refine r_icmp_ne hG 41 dX1_litresFor_20 (by decide) (fun hc20 => absurd rfl hc20) (fun hc20 => ?_)
      refine r_aload_n hG dX1_litresFor_23 rfl ?_
      refine r_iload hG dX1_litresFor_24 rfl ?_
      refine r_aload_n hG dX1_litresFor_26 rfl ?_
      refine r_cVI2 hG mk_X1_34 dX1_litresFor_27 (gkO ho) (show o < 140 by omega) (ct_X1_valueOf hR ho hOM hF (i := i) (by omega)) (by decide) ⟨Nat.le_refl _, Nat.le_refl _⟩ (Nat.le_of_ble_eq_true rfl) (fun x9 M27 h9 => ?_)
      obtain ⟨e8, hq27⟩ := h9
      rw [e8]
      have hR : M27.2.2 = stdR b := by rw [hq27.1]; exact hR
      refine r_if_eq hG 41 dX1_litresFor_30 (by decide) (fun hc30 => ?_) (fun hc30 => ?_)
      · refine r_iinc hG (1) dX1_litresFor_41 (by decide) rfl ?_
        refine r_goto hG 3 dX1_litresFor_44 (by decide) ?_
        rw [nI_1]
        refine ih (i + 1) _ (by omega) (hq.trans hq27) (fun M9 h9 => ?_)
        have e3 : litr F B A ST C be us (n + 1) i = litr F B A ST C be us n (i + 1) := by
          unfold litr
          rw [if_neg (fun q => q.2 hc30)]
          cases n <;> rfl
        rw [← e3]
        exact hP M9 h9
      · refine r_aload_n hG dX1_litresFor_33 rfl ?_
        refine r_getR hG 1 (o + 2) fk_X1_15 dX1_litresFor_34 (gkO ho) (show o < 140 by omega) rfl (sr hR (sRo ho)) ?_
        refine r_iload hG dX1_litresFor_37 rfl ?_
        refine r_ialdv hG i (A i) dX1_litresFor_39 (gkO2 ho) (show (o + 2) < 140 by omega) rfl (by omega) (by decide) ((hq27.2 (o + 2) i (by unfold Sv; omega)).trans g3) ?_
        refine hE _ _ _ _ _ dX1_litresFor_40 rfl (Nat.le_refl _) (Nat.le_refl _) rfl ?_
        have e3 : litr F B A ST C be us (n + 1) i = A i := by
          unfold litr
          rw [if_pos ⟨hB, hc30⟩]
        rw [← e3]
        exact hP _ (hq.trans hq27)
    · skip
      refine r_iload hG dX1_litresFor_3 rfl ?_
      refine r_aload_n hG dX1_litresFor_5 rfl ?_
      refine r_getIv hG 5 (nI nl) fk_X1_27 dX1_litresFor_6 (gkO ho) (show o < 140 by omega) rfl hnl ?_
      refine r_icmp_ge hG 47 dX1_litresFor_9 (by decide) (fun hc9 => absurd (nle_t (a := nl) (b := i) (by omega) (by omega) hc9) (by omega)) (fun hc9 => ?_)
      refine r_aload_n hG dX1_litresFor_12 rfl ?_
      refine r_getR hG 0 (o + 1) fk_X1_9 dX1_litresFor_13 (gkO ho) (show o < 140 by omega) rfl (sr hR (sRo ho)) ?_
      refine r_iload hG dX1_litresFor_16 rfl ?_
      refine r_ialdv hG i (kdv (B i)) dX1_litresFor_18 (gkO1 ho) (show (o + 1) < 140 by omega) rfl (by omega) (by decide) g2 ?_
      refine r_iload_n hG dX1_litresFor_19 rfl ?_
      refine r_icmp_ne hG 41 dX1_litresFor_20 (by decide) (fun hc20 => ?_) (fun hc20 => absurd hc20 (kd_ne hB))
      refine r_iinc hG (1) dX1_litresFor_41 (by decide) rfl ?_
      refine r_goto hG 3 dX1_litresFor_44 (by decide) ?_
      rw [nI_1]
      refine ih (i + 1) _ (by omega) hq (fun M9 h9 => ?_)
      have e3 : litr F B A ST C be us (n + 1) i = litr F B A ST C be us n (i + 1) := by
        unfold litr
        rw [if_neg (fun q => hB q.1)]
        cases n <;> rfl
      rw [← e3]
      exact hP M9 h9

set_option maxRecDepth 100000 in
set_option maxHeartbeats 4000000 in
theorem ct_X1_litresFor {M : gM} {b : Bool} (hR : M.2.2 = stdR b) {o : Nat} (ho : o = 11 ∨ o = 17) {nl : Nat} {B : Nat → Bool} {A : Nat → Int32} {ST : Nat → Nat} {C : Nat → Nat × Int32} (hO : ordC M o nl B A ST C) {F : Nat → Int32} (hF : ∀ w, w < 6 → M.1 5 w = F w) (be : Bool) (us : Int32) : gC 2 0 0 yX1_litresFor cX1_litresFor 5 (some .int) 140 140 [.ref o, .int (kdv be), .ref 5, .int us] M (gI (fun r M9 => r = litr F B A ST C be us nl 0 ∧ gEq Sv M M9)) := by
  refine gC_i rfl (Nat.le_of_ble_eq_true rfl) (fun G hG hE => ?_)
  change G (140, 0, 0) 0 [some (.ref o), some (.int (kdv be)), some (.ref 5), some (.int us), none] [] M
  refine r_iconst hG (0) dX1_litresFor_0 (by decide) ?_
  refine r_istore hG dX1_litresFor_1 (by decide) ?_
  exact lp_X1_litresFor hG hE hR ho hO hF be us nl 0 M (by omega) gEq.rf (fun M9 h9 => ⟨rfl, h9⟩)

def fct (M : gM) (k : Nat) : Nat → Int32
  | 0 => M.1 0 12 + 1
  | 1 => M.1 k 0
  | 2 => M.1 k 1
  | 3 => M.1 k 7
  | 4 => hund M k
  | _ => M.1 0 13
def wantV (M : gM) (k nl : Nat) (B : Nat → Bool) (A : Nat → Int32) (ST : Nat → Nat) (C : Nat → Nat × Int32) : Int32 :=
  M.1 k 0 * litr (fct M k) B A ST C false 10 nl 0 + M.1 k 1 * litr (fct M k) B A ST C true 20 nl 0
theorem fct6 {M : gM} {k : Nat} (hk : 41 < k) : ∀ w, w < 6 → (gwI (gwI (gwI (gwI (gwI (gwI M 5 0 (M.1 0 12 + 1)) 5 1 (M.1 k 0)) 5 2 (M.1 k 1)) 5 3 (M.1 k 7)) 5 4 (hund M k)) 5 5 (M.1 0 13)).1 5 w = fct M k w := by
  intro w hw
  rcases (show w = 0 ∨ w = 1 ∨ w = 2 ∨ w = 3 ∨ w = 4 ∨ w = 5 by omega) with rfl | rfl | rfl | rfl | rfl | rfl <;> simp [gwI_rd, fct]
theorem sc5 {M : gM} {v0 v1 v2 v3 v4 v5 : Int32} : gEq Sc M (gwI (gwI (gwI (gwI (gwI (gwI M 5 0 v0) 5 1 v1) 5 2 v2) 5 3 v3) 5 4 v4) 5 5 v5) :=
  (((((gEq.rf.put (Or.inl rfl)).put (Or.inl rfl)).put (Or.inl rfl)).put (Or.inl rfl)).put (Or.inl rfl)).put (Or.inl rfl)
theorem svc {k j : Nat} (h : Sv k j) : Sc k j := by unfold Sv at h; unfold Sc; omega
set_option maxRecDepth 100000 in
set_option maxHeartbeats 4000000 in
theorem ct_X8_wantOf {M : gM} {b : Bool} (hR : M.2.2 = stdR b) {o : Nat} (hob : o = if b then 17 else 11) {nl : Nat} {B : Nat → Bool} {A : Nat → Int32} {ST : Nat → Nat} {C : Nat → Nat × Int32} (hO : ordC M o nl B A ST C) {i : Nat} (hi : i < 12) : gC 3 0 0 yX8_wantOf cX8_wantOf 3 (some .int) 140 140 [.ref 0, .ref (2 * i + 42)] M (gI (fun r M9 => r = wantV M (2 * i + 42) nl B A ST C ∧ gEq Sc M M9)) := by
  refine gC_i rfl (Nat.le_of_ble_eq_true rfl) (fun G hG hE => ?_)
  change G (140, 0, 0) 0 [some (.ref 0), some (.ref (2 * i + 42)), none] [] M
  have ho : o = 11 ∨ o = 17 := by cases b <;> simp at hob <;> omega
  refine r_aload_n hG dX8_wantOf_0 rfl ?_
  refine r_getR hG 4 5 fk_X8_33 dX8_wantOf_1 rfl (by decide) rfl (sr hR rfl) ?_
  refine r_iconst hG (0) dX8_wantOf_4 (by decide) ?_
  refine r_aload_n hG dX8_wantOf_5 rfl ?_
  refine r_getI hG 12 fk_X8_154 dX8_wantOf_6 rfl (by decide) rfl ?_
  refine r_iconst hG (1) dX8_wantOf_9 (by decide) ?_
  refine r_iadd hG dX8_wantOf_10 ?_
  refine r_iast hG 0 dX8_wantOf_11 rfl (by decide) rfl (by decide) (by decide) ?_
  refine r_aload_n hG dX8_wantOf_12 rfl ?_
  refine r_getR hG 4 5 fk_X8_33 dX8_wantOf_13 rfl (by decide) rfl (sr hR rfl) ?_
  refine r_iconst hG (1) dX8_wantOf_16 (by decide) ?_
  refine r_aload_n hG dX8_wantOf_17 rfl ?_
  refine r_getIv hG 0 (M.1 (2 * i + 42) 0) fk_X8_64 dX8_wantOf_18 (gkV (by omega)) (show (2 * i + 42) < 140 by omega) rfl (gwI_n (by omega)) ?_
  refine r_iast hG 1 dX8_wantOf_21 rfl (by decide) rfl (by decide) (by decide) ?_
  refine r_aload_n hG dX8_wantOf_22 rfl ?_
  refine r_getR hG 4 5 fk_X8_33 dX8_wantOf_23 rfl (by decide) rfl (sr hR rfl) ?_
  refine r_iconst hG (2) dX8_wantOf_26 (by decide) ?_
  refine r_aload_n hG dX8_wantOf_27 rfl ?_
  refine r_getIv hG 1 (M.1 (2 * i + 42) 1) fk_X8_67 dX8_wantOf_28 (gkV (by omega)) (show (2 * i + 42) < 140 by omega) rfl ((gwI_n (by omega)).trans (gwI_n (by omega))) ?_
  refine r_iast hG 2 dX8_wantOf_31 rfl (by decide) rfl (by decide) (by decide) ?_
  refine r_aload_n hG dX8_wantOf_32 rfl ?_
  refine r_getR hG 4 5 fk_X8_33 dX8_wantOf_33 rfl (by decide) rfl (sr hR rfl) ?_
  refine r_iconst hG (3) dX8_wantOf_36 (by decide) ?_
  refine r_aload_n hG dX8_wantOf_37 rfl ?_
  refine r_getIv hG 7 (M.1 (2 * i + 42) 7) fk_X8_243 dX8_wantOf_38 (gkV (by omega)) (show (2 * i + 42) < 140 by omega) rfl ((gwI_n (by omega)).trans ((gwI_n (by omega)).trans (gwI_n (by omega)))) ?_
  refine r_iast hG 3 dX8_wantOf_41 rfl (by decide) rfl (by decide) (by decide) ?_
  refine r_aload_n hG dX8_wantOf_42 rfl ?_
  refine r_getR hG 4 5 fk_X8_33 dX8_wantOf_43 rfl (by decide) rfl (sr hR rfl) ?_
  refine r_iconst hG (4) dX8_wantOf_46 (by decide) ?_
  refine r_aload_n hG dX8_wantOf_47 rfl ?_
  refine r_cVI0 hG mk_X8_246 dX8_wantOf_48 (gkV (by omega)) (show (2 * i + 42) < 140 by omega) (ct_X7_hundredths (by exact hR) hi) (by decide) ⟨Nat.le_refl _, Nat.le_refl _⟩ (Nat.le_of_ble_eq_true rfl) (fun x9 M9 h9 => ?_)
  obtain ⟨e8, e9⟩ := h9
  rw [e8, e9]
  refine r_top (hund M (2 * i + 42)) (by simp [hund, gwI_rd]) ?_
  refine r_iast hG 4 dX8_wantOf_51 rfl (by decide) rfl (by decide) (by decide) ?_
  refine r_aload_n hG dX8_wantOf_52 rfl ?_
  refine r_getR hG 4 5 fk_X8_33 dX8_wantOf_53 rfl (by decide) rfl (sr hR rfl) ?_
  refine r_iconst hG (5) dX8_wantOf_56 (by decide) ?_
  refine r_aload_n hG dX8_wantOf_57 rfl ?_
  refine r_getIv hG 13 (M.1 0 13) fk_X8_228 dX8_wantOf_58 rfl (by decide) rfl ((gwI_n (by omega)).trans ((gwI_n (by omega)).trans ((gwI_n (by omega)).trans ((gwI_n (by omega)).trans (gwI_n (by omega)))))) ?_
  refine r_iast hG 5 dX8_wantOf_61 rfl (by decide) rfl (by decide) (by decide) ?_
  refine r_aload_n hG dX8_wantOf_62 rfl ?_
  refine r_getR hG 5 6 fk_X8_40 dX8_wantOf_63 rfl (by decide) rfl (sr hR rfl) ?_
  refine r_getR hG 1 o fk_X8_234 dX8_wantOf_66 rfl (by decide) rfl (sr hR (by rw [hob]; rfl)) ?_
  refine r_astore_n hG dX8_wantOf_69 (by decide) ?_
  refine r_aload_n hG dX8_wantOf_70 rfl ?_
  refine r_getIv hG 0 (M.1 (2 * i + 42) 0) fk_X8_64 dX8_wantOf_71 (gkV (by omega)) (show (2 * i + 42) < 140 by omega) rfl ((gwI_n (by omega)).trans ((gwI_n (by omega)).trans ((gwI_n (by omega)).trans ((gwI_n (by omega)).trans ((gwI_n (by omega)).trans (gwI_n (by omega))))))) ?_
  refine r_aload_n hG dX8_wantOf_74 rfl ?_
  refine r_bipush hG (-12) dX8_wantOf_75 (by decide) ?_
  refine r_aload_n hG dX8_wantOf_77 rfl ?_
  refine r_getR hG 4 5 fk_X8_33 dX8_wantOf_78 rfl (by decide) rfl (sr hR rfl) ?_
  refine r_bipush hG (10) dX8_wantOf_81 (by decide) ?_
  refine r_cVI3 hG mk_X8_249 dX8_wantOf_83 (gkO ho) (show o < 140 by omega) (ct_X1_litresFor (F := fct M (2 * i + 42)) (by exact hR) ho (hO.same ho sc5) (fct6 (by omega)) false 10) (by decide) ⟨Nat.le_refl _, Nat.le_refl _⟩ (Nat.le_of_ble_eq_true rfl) (fun x9 M83 h9 => ?_)
  obtain ⟨e8, hq83⟩ := h9
  rw [e8]
  have hR : M83.2.2 = stdR b := by rw [hq83.1]; exact hR
  refine r_imul hG dX8_wantOf_86 ?_
  refine r_aload_n hG dX8_wantOf_87 rfl ?_
  refine r_getIv hG 1 (M.1 (2 * i + 42) 1) fk_X8_67 dX8_wantOf_88 (gkV (by omega)) (show (2 * i + 42) < 140 by omega) rfl ((hq83.2 (2 * i + 42) 1 (by first | (unfold Sv; omega) | (unfold Sc; omega) | (unfold Sp; omega) | omega)).trans ((gwI_n (by omega)).trans ((gwI_n (by omega)).trans ((gwI_n (by omega)).trans ((gwI_n (by omega)).trans ((gwI_n (by omega)).trans (gwI_n (by omega)))))))) ?_
  refine r_aload_n hG dX8_wantOf_91 rfl ?_
  refine r_bipush hG (-13) dX8_wantOf_92 (by decide) ?_
  refine r_aload_n hG dX8_wantOf_94 rfl ?_
  refine r_getR hG 4 5 fk_X8_33 dX8_wantOf_95 rfl (by decide) rfl (sr hR rfl) ?_
  refine r_bipush hG (20) dX8_wantOf_98 (by decide) ?_
  refine r_cVI3 hG mk_X8_249 dX8_wantOf_100 (gkO ho) (show o < 140 by omega) (ct_X1_litresFor (F := fct M (2 * i + 42)) (M := M83) (by exact hR) ho ((hO.same ho sc5).sv ho hq83) (fun w hw => (hq83.2 5 w (by unfold Sv; omega)).trans (fct6 (by omega) w hw)) true 20) (by decide) ⟨Nat.le_refl _, Nat.le_refl _⟩ (Nat.le_of_ble_eq_true rfl) (fun x9 M100 h9 => ?_)
  obtain ⟨e8, hq100⟩ := h9
  rw [e8]
  refine r_imul hG dX8_wantOf_103 ?_
  refine r_iadd hG dX8_wantOf_104 ?_
  refine hE _ _ _ _ _ dX8_wantOf_105 rfl (Nat.le_refl _) (Nat.le_refl _) rfl ?_
  exact ⟨rfl, sc5.trans ((hq83.trans hq100).mono (fun _ _ => svc))⟩
end
