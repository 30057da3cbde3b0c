section
-- ===== PART A: goes FIRST, ahead of the names: the tables' words, and 'selects' of the private methods out of them =====
/-- a private method of a class that the tables say can be made, by its rows of tables_1 -/
def lw_okq (q : MethodName × Nat) : Prop := (q.1.cls ≠ "java/lang/invoke/MethodHandle" ∧ q.1.cls ≠ "java/lang/invoke/VarHandle") ∧ Cond.instantiable q.1.cls q.2 ∈ tables_1 ∧ Cond.privateMethod q.1 ∈ tables_1 ∧ Cond.instanceMethod q.1 ∈ tables_1
theorem lw_p0 : lw_okq (⟨"SpoonRace", "found", "(I)I"⟩, 11) := ⟨⟨by decide +kernel, by decide +kernel⟩, List.mem_of_getElem? (i := 20) (by decide +kernel), List.mem_of_getElem? (i := 266) (by decide +kernel), List.mem_of_getElem? (i := 267) (by decide +kernel)⟩
theorem lw_p1 : lw_okq (⟨"SpoonRace", "isRunner", "(I)Z"⟩, 11) := ⟨⟨by decide +kernel, by decide +kernel⟩, List.mem_of_getElem? (i := 20) (by decide +kernel), List.mem_of_getElem? (i := 296) (by decide +kernel), List.mem_of_getElem? (i := 297) (by decide +kernel)⟩
theorem lw_p2 : lw_okq (⟨"SpoonRace", "runAllHome", "()V"⟩, 11) := ⟨⟨by decide +kernel, by decide +kernel⟩, List.mem_of_getElem? (i := 20) (by decide +kernel), List.mem_of_getElem? (i := 468) (by decide +kernel), List.mem_of_getElem? (i := 469) (by decide +kernel)⟩
theorem lw_p3 : lw_okq (⟨"SpoonRace", "isStretch", "(III)Z"⟩, 11) := ⟨⟨by decide +kernel, by decide +kernel⟩, List.mem_of_getElem? (i := 20) (by decide +kernel), List.mem_of_getElem? (i := 492) (by decide +kernel), List.mem_of_getElem? (i := 493) (by decide +kernel)⟩
theorem lw_p4 : lw_okq (⟨"SpoonRace$Chances", "spread", "(III)V"⟩, 2) := ⟨⟨by decide +kernel, by decide +kernel⟩, List.mem_of_getElem? (i := 132) (by decide +kernel), List.mem_of_getElem? (i := 509) (by decide +kernel), List.mem_of_getElem? (i := 510) (by decide +kernel)⟩
theorem lw_p5 : lw_okq (⟨"SpoonRace$Means", "through", "(LSpoonRace$Meet;LSpoonRace$Runner;III)I"⟩, 3) := ⟨⟨by decide +kernel, by decide +kernel⟩, List.mem_of_getElem? (i := 116) (by decide +kernel), List.mem_of_getElem? (i := 523) (by decide +kernel), List.mem_of_getElem? (i := 524) (by decide +kernel)⟩
theorem lw_p6 : lw_okq (⟨"SpoonRace$Means", "goBack", "()V"⟩, 3) := ⟨⟨by decide +kernel, by decide +kernel⟩, List.mem_of_getElem? (i := 116) (by decide +kernel), List.mem_of_getElem? (i := 530) (by decide +kernel), List.mem_of_getElem? (i := 531) (by decide +kernel)⟩
theorem lw_p7 : lw_okq (⟨"SpoonRace$Means", "bestPace", "(LSpoonRace$Meet;LSpoonRace$Runner;II)I"⟩, 3) := ⟨⟨by decide +kernel, by decide +kernel⟩, List.mem_of_getElem? (i := 116) (by decide +kernel), List.mem_of_getElem? (i := 543) (by decide +kernel), List.mem_of_getElem? (i := 544) (by decide +kernel)⟩
theorem lw_p8 : lw_okq (⟨"SpoonRace", "wholeMean", "(LSpoonRace$Meet;I)I"⟩, 11) := ⟨⟨by decide +kernel, by decide +kernel⟩, List.mem_of_getElem? (i := 20) (by decide +kernel), List.mem_of_getElem? (i := 566) (by decide +kernel), List.mem_of_getElem? (i := 567) (by decide +kernel)⟩
theorem lw_p9 : lw_okq (⟨"SpoonRace", "isTeamSet", "(I)Z"⟩, 11) := ⟨⟨by decide +kernel, by decide +kernel⟩, List.mem_of_getElem? (i := 20) (by decide +kernel), List.mem_of_getElem? (i := 596) (by decide +kernel), List.mem_of_getElem? (i := 597) (by decide +kernel)⟩
theorem lw_p10 : lw_okq (⟨"SpoonRace$Team", "weigh", "(III)V"⟩, 3) := ⟨⟨by decide +kernel, by decide +kernel⟩, List.mem_of_getElem? (i := 146) (by decide +kernel), List.mem_of_getElem? (i := 611) (by decide +kernel), List.mem_of_getElem? (i := 612) (by decide +kernel)⟩
theorem lw_p11 : lw_okq (⟨"SpoonRace", "tryGum", "(I)V"⟩, 11) := ⟨⟨by decide +kernel, by decide +kernel⟩, List.mem_of_getElem? (i := 20) (by decide +kernel), List.mem_of_getElem? (i := 623) (by decide +kernel), List.mem_of_getElem? (i := 624) (by decide +kernel)⟩
theorem lw_p12 : lw_okq (⟨"SpoonRace$Reader", "readItem", "(LSpoonRace$Meet;)Z"⟩, 1) := ⟨⟨by decide +kernel, by decide +kernel⟩, List.mem_of_getElem? (i := 163) (by decide +kernel), List.mem_of_getElem? (i := 678) (by decide +kernel), List.mem_of_getElem? (i := 679) (by decide +kernel)⟩
theorem lw_p13 : lw_okq (⟨"SpoonRace$Reader", "groundTold", "()I"⟩, 1) := ⟨⟨by decide +kernel, by decide +kernel⟩, List.mem_of_getElem? (i := 163) (by decide +kernel), List.mem_of_getElem? (i := 682) (by decide +kernel), List.mem_of_getElem? (i := 683) (by decide +kernel)⟩
theorem lw_p14 : lw_okq (⟨"SpoonRace$Reader", "readGround", "(LSpoonRace$Meet;I)Z"⟩, 1) := ⟨⟨by decide +kernel, by decide +kernel⟩, List.mem_of_getElem? (i := 163) (by decide +kernel), List.mem_of_getElem? (i := 743) (by decide +kernel), List.mem_of_getElem? (i := 744) (by decide +kernel)⟩
theorem lw_p15 : lw_okq (⟨"SpoonRace$Reader", "numberBehind", "(II)I"⟩, 1) := ⟨⟨by decide +kernel, by decide +kernel⟩, List.mem_of_getElem? (i := 163) (by decide +kernel), List.mem_of_getElem? (i := 747) (by decide +kernel), List.mem_of_getElem? (i := 748) (by decide +kernel)⟩
def lw_privs_1 : List (MethodName × Nat) := [(⟨"SpoonRace", "found", "(I)I"⟩, 11), (⟨"SpoonRace", "isRunner", "(I)Z"⟩, 11), (⟨"SpoonRace", "runAllHome", "()V"⟩, 11), (⟨"SpoonRace", "isStretch", "(III)Z"⟩, 11), (⟨"SpoonRace$Chances", "spread", "(III)V"⟩, 2), (⟨"SpoonRace$Means", "through", "(LSpoonRace$Meet;LSpoonRace$Runner;III)I"⟩, 3), (⟨"SpoonRace$Means", "goBack", "()V"⟩, 3), (⟨"SpoonRace$Means", "bestPace", "(LSpoonRace$Meet;LSpoonRace$Runner;II)I"⟩, 3), (⟨"SpoonRace", "wholeMean", "(LSpoonRace$Meet;I)I"⟩, 11), (⟨"SpoonRace", "isTeamSet", "(I)Z"⟩, 11), (⟨"SpoonRace$Team", "weigh", "(III)V"⟩, 3), (⟨"SpoonRace", "tryGum", "(I)V"⟩, 11), (⟨"SpoonRace$Reader", "readItem", "(LSpoonRace$Meet;)Z"⟩, 1), (⟨"SpoonRace$Reader", "groundTold", "()I"⟩, 1), (⟨"SpoonRace$Reader", "readGround", "(LSpoonRace$Meet;I)Z"⟩, 1), (⟨"SpoonRace$Reader", "numberBehind", "(II)I"⟩, 1)]
theorem lw_r1 : ∀ q ∈ lw_privs_1, lw_okq q := List.forall_mem_cons.mpr ⟨lw_p0, List.forall_mem_cons.mpr ⟨lw_p1, List.forall_mem_cons.mpr ⟨lw_p2, List.forall_mem_cons.mpr ⟨lw_p3, List.forall_mem_cons.mpr ⟨lw_p4, List.forall_mem_cons.mpr ⟨lw_p5, List.forall_mem_cons.mpr ⟨lw_p6, List.forall_mem_cons.mpr ⟨lw_p7, List.forall_mem_cons.mpr ⟨lw_p8, List.forall_mem_cons.mpr ⟨lw_p9, List.forall_mem_cons.mpr ⟨lw_p10, List.forall_mem_cons.mpr ⟨lw_p11, List.forall_mem_cons.mpr ⟨lw_p12, List.forall_mem_cons.mpr ⟨lw_p13, List.forall_mem_cons.mpr ⟨lw_p14, List.forall_mem_cons.mpr ⟨lw_p15, fun _ h => absurd h List.not_mem_nil⟩⟩⟩⟩⟩⟩⟩⟩⟩⟩⟩⟩⟩⟩⟩⟩
theorem lw_p16 : lw_okq (⟨"SpoonRace$Reader", "perhaps", "(Ljava/lang/String;III)I"⟩, 1) := ⟨⟨by decide +kernel, by decide +kernel⟩, List.mem_of_getElem? (i := 163) (by decide +kernel), List.mem_of_getElem? (i := 758) (by decide +kernel), List.mem_of_getElem? (i := 759) (by decide +kernel)⟩
theorem lw_p17 : lw_okq (⟨"SpoonRace$Reader", "readPick", "(LSpoonRace$Meet;)Z"⟩, 1) := ⟨⟨by decide +kernel, by decide +kernel⟩, List.mem_of_getElem? (i := 163) (by decide +kernel), List.mem_of_getElem? (i := 763) (by decide +kernel), List.mem_of_getElem? (i := 764) (by decide +kernel)⟩
theorem lw_p18 : lw_okq (⟨"SpoonRace$Reader", "kindTold", "()I"⟩, 1) := ⟨⟨by decide +kernel, by decide +kernel⟩, List.mem_of_getElem? (i := 163) (by decide +kernel), List.mem_of_getElem? (i := 767) (by decide +kernel), List.mem_of_getElem? (i := 768) (by decide +kernel)⟩
theorem lw_p19 : lw_okq (⟨"SpoonRace$Reader", "readRunner", "(LSpoonRace$Meet;I)Z"⟩, 1) := ⟨⟨by decide +kernel, by decide +kernel⟩, List.mem_of_getElem? (i := 163) (by decide +kernel), List.mem_of_getElem? (i := 778) (by decide +kernel), List.mem_of_getElem? (i := 779) (by decide +kernel)⟩
theorem lw_p20 : lw_okq (⟨"SpoonRaceModel", "becomes", "(II)I"⟩, 19) := ⟨⟨by decide +kernel, by decide +kernel⟩, List.mem_of_getElem? (i := 876) (by decide +kernel), List.mem_of_getElem? (i := 952) (by decide +kernel), List.mem_of_getElem? (i := 953) (by decide +kernel)⟩
theorem lw_p21 : lw_okq (⟨"SpoonRaceModel", "finds", "(I)I"⟩, 19) := ⟨⟨by decide +kernel, by decide +kernel⟩, List.mem_of_getElem? (i := 876) (by decide +kernel), List.mem_of_getElem? (i := 957) (by decide +kernel), List.mem_of_getElem? (i := 958) (by decide +kernel)⟩
theorem lw_p22 : lw_okq (⟨"SpoonRaceModel", "comes", "(IIII)I"⟩, 19) := ⟨⟨by decide +kernel, by decide +kernel⟩, List.mem_of_getElem? (i := 876) (by decide +kernel), List.mem_of_getElem? (i := 977) (by decide +kernel), List.mem_of_getElem? (i := 978) (by decide +kernel)⟩
theorem lw_p23 : lw_okq (⟨"SpoonRaceModel", "makes", "(III)V"⟩, 19) := ⟨⟨by decide +kernel, by decide +kernel⟩, List.mem_of_getElem? (i := 876) (by decide +kernel), List.mem_of_getElem? (i := 981) (by decide +kernel), List.mem_of_getElem? (i := 982) (by decide +kernel)⟩
theorem lw_p24 : lw_okq (⟨"SpoonRaceModel", "isRunner", "(I)Z"⟩, 19) := ⟨⟨by decide +kernel, by decide +kernel⟩, List.mem_of_getElem? (i := 876) (by decide +kernel), List.mem_of_getElem? (i := 989) (by decide +kernel), List.mem_of_getElem? (i := 990) (by decide +kernel)⟩
theorem lw_p25 : lw_okq (⟨"SpoonRaceModel", "is", "(II)I"⟩, 19) := ⟨⟨by decide +kernel, by decide +kernel⟩, List.mem_of_getElem? (i := 876) (by decide +kernel), List.mem_of_getElem? (i := 994) (by decide +kernel), List.mem_of_getElem? (i := 995) (by decide +kernel)⟩
theorem lw_p26 : lw_okq (⟨"SpoonRaceModel", "holds", "(I)I"⟩, 19) := ⟨⟨by decide +kernel, by decide +kernel⟩, List.mem_of_getElem? (i := 876) (by decide +kernel), List.mem_of_getElem? (i := 998) (by decide +kernel), List.mem_of_getElem? (i := 999) (by decide +kernel)⟩
theorem lw_p27 : lw_okq (⟨"SpoonRaceModel", "paceAt", "(II)I"⟩, 19) := ⟨⟨by decide +kernel, by decide +kernel⟩, List.mem_of_getElem? (i := 876) (by decide +kernel), List.mem_of_getElem? (i := 1022) (by decide +kernel), List.mem_of_getElem? (i := 1023) (by decide +kernel)⟩
theorem lw_p28 : lw_okq (⟨"SpoonRaceModel", "takes", "(II)I"⟩, 19) := ⟨⟨by decide +kernel, by decide +kernel⟩, List.mem_of_getElem? (i := 876) (by decide +kernel), List.mem_of_getElem? (i := 1030) (by decide +kernel), List.mem_of_getElem? (i := 1031) (by decide +kernel)⟩
theorem lw_p29 : lw_okq (⟨"SpoonRaceModel", "rocks", "(II)I"⟩, 19) := ⟨⟨by decide +kernel, by decide +kernel⟩, List.mem_of_getElem? (i := 876) (by decide +kernel), List.mem_of_getElem? (i := 1034) (by decide +kernel), List.mem_of_getElem? (i := 1035) (by decide +kernel)⟩
theorem lw_p30 : lw_okq (⟨"SpoonRaceModel", "oddsBy", "(IIIZI)I"⟩, 19) := ⟨⟨by decide +kernel, by decide +kernel⟩, List.mem_of_getElem? (i := 876) (by decide +kernel), List.mem_of_getElem? (i := 1042) (by decide +kernel), List.mem_of_getElem? (i := 1043) (by decide +kernel)⟩
theorem lw_p31 : lw_okq (⟨"SpoonRaceModel", "hurts", "(II)I"⟩, 19) := ⟨⟨by decide +kernel, by decide +kernel⟩, List.mem_of_getElem? (i := 876) (by decide +kernel), List.mem_of_getElem? (i := 1046) (by decide +kernel), List.mem_of_getElem? (i := 1047) (by decide +kernel)⟩
def lw_privs_2 : List (MethodName × Nat) := [(⟨"SpoonRace$Reader", "perhaps", "(Ljava/lang/String;III)I"⟩, 1), (⟨"SpoonRace$Reader", "readPick", "(LSpoonRace$Meet;)Z"⟩, 1), (⟨"SpoonRace$Reader", "kindTold", "()I"⟩, 1), (⟨"SpoonRace$Reader", "readRunner", "(LSpoonRace$Meet;I)Z"⟩, 1), (⟨"SpoonRaceModel", "becomes", "(II)I"⟩, 19), (⟨"SpoonRaceModel", "finds", "(I)I"⟩, 19), (⟨"SpoonRaceModel", "comes", "(IIII)I"⟩, 19), (⟨"SpoonRaceModel", "makes", "(III)V"⟩, 19), (⟨"SpoonRaceModel", "isRunner", "(I)Z"⟩, 19), (⟨"SpoonRaceModel", "is", "(II)I"⟩, 19), (⟨"SpoonRaceModel", "holds", "(I)I"⟩, 19), (⟨"SpoonRaceModel", "paceAt", "(II)I"⟩, 19), (⟨"SpoonRaceModel", "takes", "(II)I"⟩, 19), (⟨"SpoonRaceModel", "rocks", "(II)I"⟩, 19), (⟨"SpoonRaceModel", "oddsBy", "(IIIZI)I"⟩, 19), (⟨"SpoonRaceModel", "hurts", "(II)I"⟩, 19)]
theorem lw_r2 : ∀ q ∈ lw_privs_2, lw_okq q := List.forall_mem_cons.mpr ⟨lw_p16, List.forall_mem_cons.mpr ⟨lw_p17, List.forall_mem_cons.mpr ⟨lw_p18, List.forall_mem_cons.mpr ⟨lw_p19, List.forall_mem_cons.mpr ⟨lw_p20, List.forall_mem_cons.mpr ⟨lw_p21, List.forall_mem_cons.mpr ⟨lw_p22, List.forall_mem_cons.mpr ⟨lw_p23, List.forall_mem_cons.mpr ⟨lw_p24, List.forall_mem_cons.mpr ⟨lw_p25, List.forall_mem_cons.mpr ⟨lw_p26, List.forall_mem_cons.mpr ⟨lw_p27, List.forall_mem_cons.mpr ⟨lw_p28, List.forall_mem_cons.mpr ⟨lw_p29, List.forall_mem_cons.mpr ⟨lw_p30, List.forall_mem_cons.mpr ⟨lw_p31, fun _ h => absurd h List.not_mem_nil⟩⟩⟩⟩⟩⟩⟩⟩⟩⟩⟩⟩⟩⟩⟩⟩
theorem lw_p32 : lw_okq (⟨"SpoonRaceModel", "isHome", "(I)Z"⟩, 19) := ⟨⟨by decide +kernel, by decide +kernel⟩, List.mem_of_getElem? (i := 876) (by decide +kernel), List.mem_of_getElem? (i := 1054) (by decide +kernel), List.mem_of_getElem? (i := 1055) (by decide +kernel)⟩
theorem lw_p33 : lw_okq (⟨"SpoonRaceModel", "oddsNow", "(I)I"⟩, 19) := ⟨⟨by decide +kernel, by decide +kernel⟩, List.mem_of_getElem? (i := 876) (by decide +kernel), List.mem_of_getElem? (i := 1059) (by decide +kernel), List.mem_of_getElem? (i := 1060) (by decide +kernel)⟩
theorem lw_p34 : lw_okq (⟨"SpoonRaceModel", "nervesOf", "(I)I"⟩, 19) := ⟨⟨by decide +kernel, by decide +kernel⟩, List.mem_of_getElem? (i := 876) (by decide +kernel), List.mem_of_getElem? (i := 1063) (by decide +kernel), List.mem_of_getElem? (i := 1064) (by decide +kernel)⟩
theorem lw_p35 : lw_okq (⟨"SpoonRaceModel", "runsNext", "()I"⟩, 19) := ⟨⟨by decide +kernel, by decide +kernel⟩, List.mem_of_getElem? (i := 876) (by decide +kernel), List.mem_of_getElem? (i := 1076) (by decide +kernel), List.mem_of_getElem? (i := 1077) (by decide +kernel)⟩
theorem lw_p36 : lw_okq (⟨"SpoonRaceModel", "orNone", "(I)I"⟩, 19) := ⟨⟨by decide +kernel, by decide +kernel⟩, List.mem_of_getElem? (i := 876) (by decide +kernel), List.mem_of_getElem? (i := 1080) (by decide +kernel), List.mem_of_getElem? (i := 1081) (by decide +kernel)⟩
theorem lw_p37 : lw_okq (⟨"SpoonRaceModel", "stepsGo", "(I)I"⟩, 19) := ⟨⟨by decide +kernel, by decide +kernel⟩, List.mem_of_getElem? (i := 876) (by decide +kernel), List.mem_of_getElem? (i := 1090) (by decide +kernel), List.mem_of_getElem? (i := 1091) (by decide +kernel)⟩
theorem lw_p38 : lw_okq (⟨"SpoonRaceModel", "step", "(I)I"⟩, 19) := ⟨⟨by decide +kernel, by decide +kernel⟩, List.mem_of_getElem? (i := 876) (by decide +kernel), List.mem_of_getElem? (i := 1094) (by decide +kernel), List.mem_of_getElem? (i := 1095) (by decide +kernel)⟩
theorem lw_p39 : lw_okq (⟨"SpoonRaceModel", "draw", "()I"⟩, 19) := ⟨⟨by decide +kernel, by decide +kernel⟩, List.mem_of_getElem? (i := 876) (by decide +kernel), List.mem_of_getElem? (i := 1098) (by decide +kernel), List.mem_of_getElem? (i := 1099) (by decide +kernel)⟩
theorem lw_p40 : lw_okq (⟨"SpoonRaceModel", "home", "()I"⟩, 19) := ⟨⟨by decide +kernel, by decide +kernel⟩, List.mem_of_getElem? (i := 876) (by decide +kernel), List.mem_of_getElem? (i := 1107) (by decide +kernel), List.mem_of_getElem? (i := 1108) (by decide +kernel)⟩
theorem lw_p41 : lw_okq (⟨"SpoonRaceModel", "starts", "()V"⟩, 19) := ⟨⟨by decide +kernel, by decide +kernel⟩, List.mem_of_getElem? (i := 876) (by decide +kernel), List.mem_of_getElem? (i := 1114) (by decide +kernel), List.mem_of_getElem? (i := 1115) (by decide +kernel)⟩
theorem lw_p42 : lw_okq (⟨"SpoonRaceModel", "allGoHome", "()V"⟩, 19) := ⟨⟨by decide +kernel, by decide +kernel⟩, List.mem_of_getElem? (i := 876) (by decide +kernel), List.mem_of_getElem? (i := 1129) (by decide +kernel), List.mem_of_getElem? (i := 1130) (by decide +kernel)⟩
theorem lw_p43 : lw_okq (⟨"SpoonRaceModel", "firstHome", "()I"⟩, 19) := ⟨⟨by decide +kernel, by decide +kernel⟩, List.mem_of_getElem? (i := 876) (by decide +kernel), List.mem_of_getElem? (i := 1133) (by decide +kernel), List.mem_of_getElem? (i := 1134) (by decide +kernel)⟩
theorem lw_p44 : lw_okq (⟨"SpoonRaceModel", "isAhead", "(II)Z"⟩, 19) := ⟨⟨by decide +kernel, by decide +kernel⟩, List.mem_of_getElem? (i := 876) (by decide +kernel), List.mem_of_getElem? (i := 1137) (by decide +kernel), List.mem_of_getElem? (i := 1138) (by decide +kernel)⟩
theorem lw_p45 : lw_okq (⟨"SpoonRaceModel", "isStretch", "(IIII)Z"⟩, 19) := ⟨⟨by decide +kernel, by decide +kernel⟩, List.mem_of_getElem? (i := 876) (by decide +kernel), List.mem_of_getElem? (i := 1154) (by decide +kernel), List.mem_of_getElem? (i := 1155) (by decide +kernel)⟩
theorem lw_p46 : lw_okq (⟨"SpoonRaceModel", "oddsAt", "(IIZ)I"⟩, 19) := ⟨⟨by decide +kernel, by decide +kernel⟩, List.mem_of_getElem? (i := 876) (by decide +kernel), List.mem_of_getElem? (i := 1158) (by decide +kernel), List.mem_of_getElem? (i := 1159) (by decide +kernel)⟩
theorem lw_p47 : lw_okq (⟨"SpoonRaceModel", "dropping", "(IIIII)J"⟩, 19) := ⟨⟨by decide +kernel, by decide +kernel⟩, List.mem_of_getElem? (i := 876) (by decide +kernel), List.mem_of_getElem? (i := 1166) (by decide +kernel), List.mem_of_getElem? (i := 1167) (by decide +kernel)⟩
def lw_privs_3 : List (MethodName × Nat) := [(⟨"SpoonRaceModel", "isHome", "(I)Z"⟩, 19), (⟨"SpoonRaceModel", "oddsNow", "(I)I"⟩, 19), (⟨"SpoonRaceModel", "nervesOf", "(I)I"⟩, 19), (⟨"SpoonRaceModel", "runsNext", "()I"⟩, 19), (⟨"SpoonRaceModel", "orNone", "(I)I"⟩, 19), (⟨"SpoonRaceModel", "stepsGo", "(I)I"⟩, 19), (⟨"SpoonRaceModel", "step", "(I)I"⟩, 19), (⟨"SpoonRaceModel", "draw", "()I"⟩, 19), (⟨"SpoonRaceModel", "home", "()I"⟩, 19), (⟨"SpoonRaceModel", "starts", "()V"⟩, 19), (⟨"SpoonRaceModel", "allGoHome", "()V"⟩, 19), (⟨"SpoonRaceModel", "firstHome", "()I"⟩, 19), (⟨"SpoonRaceModel", "isAhead", "(II)Z"⟩, 19), (⟨"SpoonRaceModel", "isStretch", "(IIII)Z"⟩, 19), (⟨"SpoonRaceModel", "oddsAt", "(IIZ)I"⟩, 19), (⟨"SpoonRaceModel", "dropping", "(IIIII)J"⟩, 19)]
theorem lw_r3 : ∀ q ∈ lw_privs_3, lw_okq q := List.forall_mem_cons.mpr ⟨lw_p32, List.forall_mem_cons.mpr ⟨lw_p33, List.forall_mem_cons.mpr ⟨lw_p34, List.forall_mem_cons.mpr ⟨lw_p35, List.forall_mem_cons.mpr ⟨lw_p36, List.forall_mem_cons.mpr ⟨lw_p37, List.forall_mem_cons.mpr ⟨lw_p38, List.forall_mem_cons.mpr ⟨lw_p39, List.forall_mem_cons.mpr ⟨lw_p40, List.forall_mem_cons.mpr ⟨lw_p41, List.forall_mem_cons.mpr ⟨lw_p42, List.forall_mem_cons.mpr ⟨lw_p43, List.forall_mem_cons.mpr ⟨lw_p44, List.forall_mem_cons.mpr ⟨lw_p45, List.forall_mem_cons.mpr ⟨lw_p46, List.forall_mem_cons.mpr ⟨lw_p47, fun _ h => absurd h List.not_mem_nil⟩⟩⟩⟩⟩⟩⟩⟩⟩⟩⟩⟩⟩⟩⟩⟩
theorem lw_p48 : lw_okq (⟨"SpoonRaceModel", "isMean", "(IIII)Z"⟩, 19) := ⟨⟨by decide +kernel, by decide +kernel⟩, List.mem_of_getElem? (i := 876) (by decide +kernel), List.mem_of_getElem? (i := 1174) (by decide +kernel), List.mem_of_getElem? (i := 1175) (by decide +kernel)⟩
theorem lw_p49 : lw_okq (⟨"SpoonRaceModel", "means", "(IIZ)V"⟩, 19) := ⟨⟨by decide +kernel, by decide +kernel⟩, List.mem_of_getElem? (i := 876) (by decide +kernel), List.mem_of_getElem? (i := 1178) (by decide +kernel), List.mem_of_getElem? (i := 1179) (by decide +kernel)⟩
theorem lw_p50 : lw_okq (⟨"SpoonRaceModel", "behind", "(IIII)I"⟩, 19) := ⟨⟨by decide +kernel, by decide +kernel⟩, List.mem_of_getElem? (i := 876) (by decide +kernel), List.mem_of_getElem? (i := 1182) (by decide +kernel), List.mem_of_getElem? (i := 1183) (by decide +kernel)⟩
theorem lw_p51 : lw_okq (⟨"SpoonRaceModel", "meanOf", "(I)I"⟩, 19) := ⟨⟨by decide +kernel, by decide +kernel⟩, List.mem_of_getElem? (i := 876) (by decide +kernel), List.mem_of_getElem? (i := 1202) (by decide +kernel), List.mem_of_getElem? (i := 1203) (by decide +kernel)⟩
theorem lw_p52 : lw_okq (⟨"SpoonRaceModel", "isTeam", "(I)Z"⟩, 19) := ⟨⟨by decide +kernel, by decide +kernel⟩, List.mem_of_getElem? (i := 876) (by decide +kernel), List.mem_of_getElem? (i := 1231) (by decide +kernel), List.mem_of_getElem? (i := 1232) (by decide +kernel)⟩
theorem lw_p53 : lw_okq (⟨"SpoonRaceModel", "bestTeam", "(I)I"⟩, 19) := ⟨⟨by decide +kernel, by decide +kernel⟩, List.mem_of_getElem? (i := 876) (by decide +kernel), List.mem_of_getElem? (i := 1235) (by decide +kernel), List.mem_of_getElem? (i := 1236) (by decide +kernel)⟩
theorem lw_p54 : lw_okq (⟨"SpoonRaceModel", "droppingAs", "(IIIII)J"⟩, 19) := ⟨⟨by decide +kernel, by decide +kernel⟩, List.mem_of_getElem? (i := 876) (by decide +kernel), List.mem_of_getElem? (i := 1248) (by decide +kernel), List.mem_of_getElem? (i := 1249) (by decide +kernel)⟩
theorem lw_p55 : lw_okq (⟨"SpoonRaceModel", "grass", "()I"⟩, 19) := ⟨⟨by decide +kernel, by decide +kernel⟩, List.mem_of_getElem? (i := 876) (by decide +kernel), List.mem_of_getElem? (i := 1261) (by decide +kernel), List.mem_of_getElem? (i := 1262) (by decide +kernel)⟩
theorem lw_p56 : lw_okq (⟨"SpoonRaceModel", "token", "()V"⟩, 19) := ⟨⟨by decide +kernel, by decide +kernel⟩, List.mem_of_getElem? (i := 876) (by decide +kernel), List.mem_of_getElem? (i := 1281) (by decide +kernel), List.mem_of_getElem? (i := 1282) (by decide +kernel)⟩
theorem lw_p57 : lw_okq (⟨"SpoonRaceModel", "isByte", "(III)Z"⟩, 19) := ⟨⟨by decide +kernel, by decide +kernel⟩, List.mem_of_getElem? (i := 876) (by decide +kernel), List.mem_of_getElem? (i := 1285) (by decide +kernel), List.mem_of_getElem? (i := 1286) (by decide +kernel)⟩
theorem lw_p58 : lw_okq (⟨"SpoonRaceModel", "item", "()V"⟩, 19) := ⟨⟨by decide +kernel, by decide +kernel⟩, List.mem_of_getElem? (i := 876) (by decide +kernel), List.mem_of_getElem? (i := 1289) (by decide +kernel), List.mem_of_getElem? (i := 1290) (by decide +kernel)⟩
theorem lw_p59 : lw_okq (⟨"SpoonRaceModel", "groundHere", "()I"⟩, 19) := ⟨⟨by decide +kernel, by decide +kernel⟩, List.mem_of_getElem? (i := 876) (by decide +kernel), List.mem_of_getElem? (i := 1293) (by decide +kernel), List.mem_of_getElem? (i := 1294) (by decide +kernel)⟩
theorem lw_p60 : lw_okq (⟨"SpoonRaceModel", "isWord", "(Ljava/lang/String;)Z"⟩, 19) := ⟨⟨by decide +kernel, by decide +kernel⟩, List.mem_of_getElem? (i := 876) (by decide +kernel), List.mem_of_getElem? (i := 1298) (by decide +kernel), List.mem_of_getElem? (i := 1299) (by decide +kernel)⟩
theorem lw_p61 : lw_okq (⟨"SpoonRaceModel", "groundItem", "(I)V"⟩, 19) := ⟨⟨by decide +kernel, by decide +kernel⟩, List.mem_of_getElem? (i := 876) (by decide +kernel), List.mem_of_getElem? (i := 1308) (by decide +kernel), List.mem_of_getElem? (i := 1309) (by decide +kernel)⟩
theorem lw_p62 : lw_okq (⟨"SpoonRaceModel", "number", "(II)I"⟩, 19) := ⟨⟨by decide +kernel, by decide +kernel⟩, List.mem_of_getElem? (i := 876) (by decide +kernel), List.mem_of_getElem? (i := 1312) (by decide +kernel), List.mem_of_getElem? (i := 1313) (by decide +kernel)⟩
theorem lw_p63 : lw_okq (⟨"SpoonRaceModel", "takes", "(Ljava/lang/String;)Z"⟩, 19) := ⟨⟨by decide +kernel, by decide +kernel⟩, List.mem_of_getElem? (i := 876) (by decide +kernel), List.mem_of_getElem? (i := 1317) (by decide +kernel), List.mem_of_getElem? (i := 1318) (by decide +kernel)⟩
def lw_privs_4 : List (MethodName × Nat) := [(⟨"SpoonRaceModel", "isMean", "(IIII)Z"⟩, 19), (⟨"SpoonRaceModel", "means", "(IIZ)V"⟩, 19), (⟨"SpoonRaceModel", "behind", "(IIII)I"⟩, 19), (⟨"SpoonRaceModel", "meanOf", "(I)I"⟩, 19), (⟨"SpoonRaceModel", "isTeam", "(I)Z"⟩, 19), (⟨"SpoonRaceModel", "bestTeam", "(I)I"⟩, 19), (⟨"SpoonRaceModel", "droppingAs", "(IIIII)J"⟩, 19), (⟨"SpoonRaceModel", "grass", "()I"⟩, 19), (⟨"SpoonRaceModel", "token", "()V"⟩, 19), (⟨"SpoonRaceModel", "isByte", "(III)Z"⟩, 19), (⟨"SpoonRaceModel", "item", "()V"⟩, 19), (⟨"SpoonRaceModel", "groundHere", "()I"⟩, 19), (⟨"SpoonRaceModel", "isWord", "(Ljava/lang/String;)Z"⟩, 19), (⟨"SpoonRaceModel", "groundItem", "(I)V"⟩, 19), (⟨"SpoonRaceModel", "number", "(II)I"⟩, 19), (⟨"SpoonRaceModel", "takes", "(Ljava/lang/String;)Z"⟩, 19)]
theorem lw_r4 : ∀ q ∈ lw_privs_4, lw_okq q := List.forall_mem_cons.mpr ⟨lw_p48, List.forall_mem_cons.mpr ⟨lw_p49, List.forall_mem_cons.mpr ⟨lw_p50, List.forall_mem_cons.mpr ⟨lw_p51, List.forall_mem_cons.mpr ⟨lw_p52, List.forall_mem_cons.mpr ⟨lw_p53, List.forall_mem_cons.mpr ⟨lw_p54, List.forall_mem_cons.mpr ⟨lw_p55, List.forall_mem_cons.mpr ⟨lw_p56, List.forall_mem_cons.mpr ⟨lw_p57, List.forall_mem_cons.mpr ⟨lw_p58, List.forall_mem_cons.mpr ⟨lw_p59, List.forall_mem_cons.mpr ⟨lw_p60, List.forall_mem_cons.mpr ⟨lw_p61, List.forall_mem_cons.mpr ⟨lw_p62, List.forall_mem_cons.mpr ⟨lw_p63, fun _ h => absurd h List.not_mem_nil⟩⟩⟩⟩⟩⟩⟩⟩⟩⟩⟩⟩⟩⟩⟩⟩
theorem lw_p64 : lw_okq (⟨"SpoonRaceModel", "kindHere", "()I"⟩, 19) := ⟨⟨by decide +kernel, by decide +kernel⟩, List.mem_of_getElem? (i := 876) (by decide +kernel), List.mem_of_getElem? (i := 1322) (by decide +kernel), List.mem_of_getElem? (i := 1323) (by decide +kernel)⟩
theorem lw_p65 : lw_okq (⟨"SpoonRaceModel", "runnerItem", "(I)V"⟩, 19) := ⟨⟨by decide +kernel, by decide +kernel⟩, List.mem_of_getElem? (i := 876) (by decide +kernel), List.mem_of_getElem? (i := 1333) (by decide +kernel), List.mem_of_getElem? (i := 1334) (by decide +kernel)⟩
theorem lw_p66 : lw_okq (⟨"SpoonRaceModel", "isSign", "(I)Z"⟩, 19) := ⟨⟨by decide +kernel, by decide +kernel⟩, List.mem_of_getElem? (i := 876) (by decide +kernel), List.mem_of_getElem? (i := 1340) (by decide +kernel), List.mem_of_getElem? (i := 1341) (by decide +kernel)⟩
theorem lw_p67 : lw_okq (⟨"SpoonRaceModel", "allDrops", "()I"⟩, 19) := ⟨⟨by decide +kernel, by decide +kernel⟩, List.mem_of_getElem? (i := 876) (by decide +kernel), List.mem_of_getElem? (i := 1397) (by decide +kernel), List.mem_of_getElem? (i := 1398) (by decide +kernel)⟩
theorem lw_p68 : lw_okq (⟨"SpoonRaceModel", "holding", "()I"⟩, 19) := ⟨⟨by decide +kernel, by decide +kernel⟩, List.mem_of_getElem? (i := 876) (by decide +kernel), List.mem_of_getElem? (i := 1401) (by decide +kernel), List.mem_of_getElem? (i := 1402) (by decide +kernel)⟩
def lw_privs_5 : List (MethodName × Nat) := [(⟨"SpoonRaceModel", "kindHere", "()I"⟩, 19), (⟨"SpoonRaceModel", "runnerItem", "(I)V"⟩, 19), (⟨"SpoonRaceModel", "isSign", "(I)Z"⟩, 19), (⟨"SpoonRaceModel", "allDrops", "()I"⟩, 19), (⟨"SpoonRaceModel", "holding", "()I"⟩, 19)]
theorem lw_r5 : ∀ q ∈ lw_privs_5, lw_okq q := List.forall_mem_cons.mpr ⟨lw_p64, List.forall_mem_cons.mpr ⟨lw_p65, List.forall_mem_cons.mpr ⟨lw_p66, List.forall_mem_cons.mpr ⟨lw_p67, List.forall_mem_cons.mpr ⟨lw_p68, fun _ h => absurd h List.not_mem_nil⟩⟩⟩⟩⟩
def lw_privs : List (MethodName × Nat) := lw_privs_1 ++ (lw_privs_2 ++ (lw_privs_3 ++ (lw_privs_4 ++ (lw_privs_5))))
def lw_tbl : List Cond := k2_sels lw_privs ++ tables_1
theorem lw_privs_ok : ∀ q ∈ lw_privs, lw_okq q := by
  show ∀ q ∈ lw_privs_1 ++ (lw_privs_2 ++ (lw_privs_3 ++ (lw_privs_4 ++ (lw_privs_5)))), lw_okq q
  exact List.forall_mem_append.mpr ⟨lw_r1, List.forall_mem_append.mpr ⟨lw_r2, List.forall_mem_append.mpr ⟨lw_r3, List.forall_mem_append.mpr ⟨lw_r4, lw_r5⟩⟩⟩⟩
end
section
/-! ===== BEGIN words of one list among another's, by their places ===== -/
theorem goodIn_r {big : List Cond} (ws : List Cond) (ps : List Nat) (hp : ws = ps.filterMap (fun i => big[i]?)) (h : ws.all goodWord = true) : GoodIn big ws := by
  intro w hw
  have h1 := List.all_eq_true.mp h w hw
  rw [hp] at hw
  obtain ⟨i, -, hi⟩ := List.mem_filterMap.mp hw
  have hm : w ∈ big := by first | exact List.mem_of_getElem? hi | exact List.getElem?_mem hi
  exact ⟨hm, good_of_word h1⟩
theorem goodIn_app {big a b : List Cond} (ha : GoodIn big a) (hb : GoodIn big b) : GoodIn big (a ++ b) := fun w h => (List.mem_append.mp h).elim (ha w) (hb w)
theorem goodIn_ca {big a b : List Cond} {c : Cond} (ha : GoodIn big (c :: a)) (hb : GoodIn big b) : GoodIn big (c :: (a ++ b)) := fun w h => (List.mem_cons.mp h).elim (fun e => ha w (List.mem_cons.mpr (Or.inl e))) (fun h => (List.mem_append.mp h).elim (fun h => ha w (List.mem_cons.mpr (Or.inr h))) (hb w))
theorem goodIn_sub {big ws : List Cond} (hm : ∀ w ∈ ws, w ∈ big) (h : ws.all goodWord = true) : GoodIn big ws := fun w hw => ⟨hm w hw, good_of_word (List.all_eq_true.mp h w hw)⟩
/-! ===== END ===== -/

/-! ===== BEGIN printed: names, fields, word lists, decode rows ===== -/
def RX0 : String := "SpoonRace$Chances"
def TX0 : u_T := fun k => match k with
  | 0 => ("SpoonRace$Chances", "parts", "[J", true)
  | _ => ("SpoonRace$Chances", "ahead", "[J", true)
def tyX0 : Nat → FieldType := fun k => match k with
  | 0 => .array .long
  | _ => .array .long
abbrev wsX00 : List Cond := u_ws RX0 TX0 2
theorem nmX0 : ∀ a, a < 2 → ∀ b, b < 2 → a ≠ b → (TX0 a).2.1 ≠ (TX0 b).2.1 := by decide +kernel
theorem tyX0_ok : ∀ k, k < 2 → parseFieldDescriptor (TX0 k).2.2.1 = some (tyX0 k) := by decide +kernel
abbrev cX0_init : ByteArray := prog_2_method_1_code
def yX0_init : MethodName := ⟨RX0, "<init>", "()V"⟩
abbrev cX0_ofDrops : ByteArray := prog_2_method_2_code
def yX0_ofDrops : MethodName := ⟨RX0, "ofDrops", "(LSpoonRace$Meet;IIII)J"⟩
abbrev cX0_spread : ByteArray := prog_2_method_3_code
def yX0_spread : MethodName := ⟨RX0, "spread", "(III)V"⟩
def RX1 : String := "SpoonRace$Means"
def TX1 : u_T := fun k => match k with
  | 0 => ("SpoonRace$Means", "behind", "[I", true)
  | 1 => ("SpoonRace$Means", "here", "[I", true)
  | _ => ("SpoonRace$Means", "chosen", "[I", true)
def tyX1 : Nat → FieldType := fun k => match k with
  | 0 => .array .int
  | 1 => .array .int
  | _ => .array .int
abbrev wsX10 : List Cond := u_ws RX1 TX1 3
theorem nmX1 : ∀ a, a < 3 → ∀ b, b < 3 → a ≠ b → (TX1 a).2.1 ≠ (TX1 b).2.1 := by decide +kernel
theorem tyX1_ok : ∀ k, k < 3 → parseFieldDescriptor (TX1 k).2.2.1 = some (tyX1 k) := by decide +kernel
abbrev cX1_init : ByteArray := prog_3_method_1_code
def yX1_init : MethodName := ⟨RX1, "<init>", "()V"⟩
abbrev cX1_atPaces : ByteArray := prog_3_method_2_code
def yX1_atPaces : MethodName := ⟨RX1, "atPaces", "(LSpoonRace$Meet;IIII)I"⟩
abbrev cX1_atBest : ByteArray := prog_3_method_3_code
def yX1_atBest : MethodName := ⟨RX1, "atBest", "(LSpoonRace$Meet;III)I"⟩
abbrev cX1_chosenPace : ByteArray := prog_3_method_4_code
def yX1_chosenPace : MethodName := ⟨RX1, "chosenPace", "(II)I"⟩
abbrev cX1_bestPace : ByteArray := prog_3_method_5_code
def yX1_bestPace : MethodName := ⟨RX1, "bestPace", "(LSpoonRace$Meet;LSpoonRace$Runner;II)I"⟩
abbrev cX1_through : ByteArray := prog_3_method_6_code
def yX1_through : MethodName := ⟨RX1, "through", "(LSpoonRace$Meet;LSpoonRace$Runner;III)I"⟩
abbrev cX1_goBack : ByteArray := prog_3_method_7_code
def yX1_goBack : MethodName := ⟨RX1, "goBack", "()V"⟩
def RX2 : String := "SpoonRace$Meet"
def TX2 : u_T := fun k => match k with
  | 0 => ("SpoonRace$Meet", "grounds", "[I", true)
  | 1 => ("SpoonRace$Meet", "runners", "[LSpoonRace$Runner;", true)
  | 2 => ("SpoonRace$Meet", "spots", "[I", true)
  | 3 => ("SpoonRace$Meet", "size", "I", false)
  | 4 => ("SpoonRace$Meet", "pickTenths", "I", false)
  | _ => ("SpoonRace$Meet", "z", "I", false)
def tyX2 : Nat → FieldType := fun k => match k with
  | 0 => .array .int
  | 1 => .array (.object "SpoonRace$Runner")
  | 2 => .array .int
  | 3 => .int
  | 4 => .int
  | _ => .int
abbrev wsX20 : List Cond := u_ws RX2 TX2 6
theorem nmX2 : ∀ a, a < 6 → ∀ b, b < 6 → a ≠ b → (TX2 a).2.1 ≠ (TX2 b).2.1 := by decide +kernel
theorem tyX2_ok : ∀ k, k < 6 → parseFieldDescriptor (TX2 k).2.2.1 = some (tyX2 k) := by decide +kernel
abbrev cX2_init : ByteArray := prog_4_method_1_code
def yX2_init : MethodName := ⟨RX2, "<init>", "()V"⟩
abbrev cX2_become : ByteArray := prog_4_method_2_code
def yX2_become : MethodName := ⟨RX2, "become", "(LSpoonRace$Meet;)V"⟩
abbrev cX2_add : ByteArray := prog_4_method_3_code
def yX2_add : MethodName := ⟨RX2, "add", "(III)I"⟩
abbrev cX2_draw : ByteArray := prog_4_method_4_code
def yX2_draw : MethodName := ⟨RX2, "draw", "()I"⟩
abbrev cX2_nervesOf : ByteArray := prog_4_method_5_code
def yX2_nervesOf : MethodName := ⟨RX2, "nervesOf", "(I)I"⟩
abbrev cX2_oddsOf : ByteArray := prog_4_method_6_code
def yX2_oddsOf : MethodName := ⟨RX2, "oddsOf", "(LSpoonRace$Runner;IIII)I"⟩
abbrev cX2_oddsInStep : ByteArray := prog_4_method_7_code
def yX2_oddsInStep : MethodName := ⟨RX2, "oddsInStep", "(I)I"⟩
abbrev cX2_whoRuns : ByteArray := prog_4_method_8_code
def yX2_whoRuns : MethodName := ⟨RX2, "whoRuns", "()I"⟩
abbrev cX2_step : ByteArray := prog_4_method_9_code
def yX2_step : MethodName := ⟨RX2, "step", "(I)I"⟩
abbrev cX2_go : ByteArray := prog_4_method_10_code
def yX2_go : MethodName := ⟨RX2, "go", "(I)I"⟩
abbrev cX2_restart : ByteArray := prog_4_method_11_code
def yX2_restart : MethodName := ⟨RX2, "restart", "()I"⟩
abbrev cX2_homeSet : ByteArray := prog_4_method_12_code
def yX2_homeSet : MethodName := ⟨RX2, "homeSet", "()I"⟩
abbrev cX2_leastInTime : ByteArray := prog_4_method_13_code
def yX2_leastInTime : MethodName := ⟨RX2, "leastInTime", "()I"⟩
abbrev cX2_placeOf : ByteArray := prog_4_method_14_code
def yX2_placeOf : MethodName := ⟨RX2, "placeOf", "(I)I"⟩
abbrev cX2_countDrops : ByteArray := prog_4_method_15_code
def yX2_countDrops : MethodName := ⟨RX2, "countDrops", "()I"⟩
abbrev cX2_countGrass : ByteArray := prog_4_method_16_code
def yX2_countGrass : MethodName := ⟨RX2, "countGrass", "()I"⟩
abbrev cX2_countHolding : ByteArray := prog_4_method_17_code
def yX2_countHolding : MethodName := ⟨RX2, "countHolding", "()I"⟩
def RX3 : String := "SpoonRace$Reader"
def TX3 : u_T := fun k => match k with
  | _ => ("SpoonRace$Reader", "tape", "LSpoonRace$Tape;", true)
def tyX3 : Nat → FieldType := fun k => match k with
  | _ => .object "SpoonRace$Tape"
abbrev wsX30 : List Cond := u_ws RX3 TX3 1
theorem nmX3 : ∀ a, a < 1 → ∀ b, b < 1 → a ≠ b → (TX3 a).2.1 ≠ (TX3 b).2.1 := by decide +kernel
theorem tyX3_ok : ∀ k, k < 1 → parseFieldDescriptor (TX3 k).2.2.1 = some (tyX3 k) := by decide +kernel
abbrev cX3_init : ByteArray := prog_5_method_1_code
def yX3_init : MethodName := ⟨RX3, "<init>", "()V"⟩
abbrev cX3_readInto : ByteArray := prog_5_method_2_code
def yX3_readInto : MethodName := ⟨RX3, "readInto", "(LSpoonRace$Meet;)I"⟩
abbrev cX3_readItem : ByteArray := prog_5_method_3_code
def yX3_readItem : MethodName := ⟨RX3, "readItem", "(LSpoonRace$Meet;)Z"⟩
abbrev cX3_readGround : ByteArray := prog_5_method_4_code
def yX3_readGround : MethodName := ⟨RX3, "readGround", "(LSpoonRace$Meet;I)Z"⟩
abbrev cX3_readPick : ByteArray := prog_5_method_5_code
def yX3_readPick : MethodName := ⟨RX3, "readPick", "(LSpoonRace$Meet;)Z"⟩
abbrev cX3_readRunner : ByteArray := prog_5_method_6_code
def yX3_readRunner : MethodName := ⟨RX3, "readRunner", "(LSpoonRace$Meet;I)Z"⟩
abbrev cX3_perhaps : ByteArray := prog_5_method_7_code
def yX3_perhaps : MethodName := ⟨RX3, "perhaps", "(Ljava/lang/String;III)I"⟩
abbrev cX3_numberBehind : ByteArray := prog_5_method_8_code
def yX3_numberBehind : MethodName := ⟨RX3, "numberBehind", "(II)I"⟩
abbrev cX3_groundTold : ByteArray := prog_5_method_9_code
def yX3_groundTold : MethodName := ⟨RX3, "groundTold", "()I"⟩
abbrev cX3_kindTold : ByteArray := prog_5_method_10_code
def yX3_kindTold : MethodName := ⟨RX3, "kindTold", "()I"⟩
def RX4 : String := "SpoonRace$Runner"
def TX4 : u_T := fun k => match k with
  | 0 => ("SpoonRace$Runner", "paces", "[I", true)
  | 1 => ("SpoonRace$Runner", "kind", "I", false)
  | 2 => ("SpoonRace$Runner", "arm", "I", false)
  | 3 => ("SpoonRace$Runner", "spoon", "I", false)
  | 4 => ("SpoonRace$Runner", "yard", "I", false)
  | 5 => ("SpoonRace$Runner", "time", "I", false)
  | 6 => ("SpoonRace$Runner", "shaken", "I", false)
  | _ => ("SpoonRace$Runner", "dropped", "I", false)
def tyX4 : Nat → FieldType := fun k => match k with
  | 0 => .array .int
  | 1 => .int
  | 2 => .int
  | 3 => .int
  | 4 => .int
  | 5 => .int
  | 6 => .int
  | _ => .int
abbrev wsX40 : List Cond := u_ws RX4 TX4 8
theorem nmX4 : ∀ a, a < 8 → ∀ b, b < 8 → a ≠ b → (TX4 a).2.1 ≠ (TX4 b).2.1 := by decide +kernel
theorem tyX4_ok : ∀ k, k < 8 → parseFieldDescriptor (TX4 k).2.2.1 = some (tyX4 k) := by decide +kernel
abbrev cX4_init : ByteArray := prog_6_method_1_code
def yX4_init : MethodName := ⟨RX4, "<init>", "()V"⟩
abbrev cX4_become : ByteArray := prog_6_method_2_code
def yX4_become : MethodName := ⟨RX4, "become", "(LSpoonRace$Runner;)V"⟩
abbrev cX4_beNew : ByteArray := prog_6_method_3_code
def yX4_beNew : MethodName := ⟨RX4, "beNew", "(III)V"⟩
abbrev cX4_restart : ByteArray := prog_6_method_4_code
def yX4_restart : MethodName := ⟨RX4, "restart", "()V"⟩
abbrev cX4_isHome : ByteArray := prog_6_method_5_code
def yX4_isHome : MethodName := ⟨RX4, "isHome", "()Z"⟩
abbrev cX4_isOfKind : ByteArray := prog_6_method_6_code
def yX4_isOfKind : MethodName := ⟨RX4, "isOfKind", "(I)Z"⟩
abbrev cX4_takes : ByteArray := prog_6_method_7_code
def yX4_takes : MethodName := ⟨RX4, "takes", "(I)I"⟩
abbrev cX4_rocks : ByteArray := prog_6_method_8_code
def yX4_rocks : MethodName := ⟨RX4, "rocks", "(I)I"⟩
abbrev cX4_hurts : ByteArray := prog_6_method_9_code
def yX4_hurts : MethodName := ⟨RX4, "hurts", "(I)I"⟩
abbrev cX4_holds : ByteArray := prog_6_method_10_code
def yX4_holds : MethodName := ⟨RX4, "holds", "()I"⟩
abbrev cX4_tell : ByteArray := prog_6_method_11_code
def yX4_tell : MethodName := ⟨RX4, "tell", "(I)I"⟩
abbrev cX4_put : ByteArray := prog_6_method_12_code
def yX4_put : MethodName := ⟨RX4, "put", "(II)V"⟩
abbrev cX4_mostOf : ByteArray := prog_6_method_13_code
def yX4_mostOf : MethodName := ⟨RX4, "mostOf", "(I)I"⟩
def RX5 : String := "SpoonRace$Sheet"
def TX5 : u_T := fun k => match k with
  | 0 => ("SpoonRace$Sheet", "numbers", "[I", true)
  | 1 => ("SpoonRace$Sheet", "bits", "I", false)
  | _ => ("SpoonRace$Sheet", "size", "I", false)
def tyX5 : Nat → FieldType := fun k => match k with
  | 0 => .array .int
  | 1 => .int
  | _ => .int
abbrev wsX50 : List Cond := u_ws RX5 TX5 3
theorem nmX5 : ∀ a, a < 3 → ∀ b, b < 3 → a ≠ b → (TX5 a).2.1 ≠ (TX5 b).2.1 := by decide +kernel
theorem tyX5_ok : ∀ k, k < 3 → parseFieldDescriptor (TX5 k).2.2.1 = some (tyX5 k) := by decide +kernel
abbrev cX5_init : ByteArray := prog_7_method_1_code
def yX5_init : MethodName := ⟨RX5, "<init>", "()V"⟩
abbrev cX5_isMissing : ByteArray := prog_7_method_2_code
def yX5_isMissing : MethodName := ⟨RX5, "isMissing", "()Z"⟩
abbrev cX5_lay : ByteArray := prog_7_method_3_code
def yX5_lay : MethodName := ⟨RX5, "lay", "(II)V"⟩
abbrev cX5_put : ByteArray := prog_7_method_4_code
def yX5_put : MethodName := ⟨RX5, "put", "(II)V"⟩
abbrev cX5_hasRow : ByteArray := prog_7_method_5_code
def yX5_hasRow : MethodName := ⟨RX5, "hasRow", "(II)Z"⟩
def RX6 : String := "SpoonRace$Tape"
def TX6 : u_T := fun k => match k with
  | 0 => ("SpoonRace$Tape", "bytes", "[I", true)
  | 1 => ("SpoonRace$Tape", "tokens", "[I", true)
  | 2 => ("SpoonRace$Tape", "size", "I", false)
  | 3 => ("SpoonRace$Tape", "token", "I", false)
  | 4 => ("SpoonRace$Tape", "begin", "I", false)
  | _ => ("SpoonRace$Tape", "end", "I", false)
def tyX6 : Nat → FieldType := fun k => match k with
  | 0 => .array .int
  | 1 => .array .int
  | 2 => .int
  | 3 => .int
  | 4 => .int
  | _ => .int
abbrev wsX60 : List Cond := u_ws RX6 TX6 6
theorem nmX6 : ∀ a, a < 6 → ∀ b, b < 6 → a ≠ b → (TX6 a).2.1 ≠ (TX6 b).2.1 := by decide +kernel
theorem tyX6_ok : ∀ k, k < 6 → parseFieldDescriptor (TX6 k).2.2.1 = some (tyX6 k) := by decide +kernel
abbrev cX6_init : ByteArray := prog_8_method_1_code
def yX6_init : MethodName := ⟨RX6, "<init>", "()V"⟩
abbrev cX6_put : ByteArray := prog_8_method_2_code
def yX6_put : MethodName := ⟨RX6, "put", "(I)V"⟩
abbrev cX6_tokenBegunBy : ByteArray := prog_8_method_3_code
def yX6_tokenBegunBy : MethodName := ⟨RX6, "tokenBegunBy", "(I)I"⟩
abbrev cX6_rewind : ByteArray := prog_8_method_4_code
def yX6_rewind : MethodName := ⟨RX6, "rewind", "()V"⟩
abbrev cX6_advance : ByteArray := prog_8_method_5_code
def yX6_advance : MethodName := ⟨RX6, "advance", "()V"⟩
abbrev cX6_value : ByteArray := prog_8_method_6_code
def yX6_value : MethodName := ⟨RX6, "value", "()I"⟩
abbrev cX6_isWord : ByteArray := prog_8_method_7_code
def yX6_isWord : MethodName := ⟨RX6, "isWord", "(Ljava/lang/String;)Z"⟩
def RX7 : String := "SpoonRace$Team"
def TX7 : u_T := fun k => match k with
  | 0 => ("SpoonRace$Team", "legs", "[I", true)
  | 1 => ("SpoonRace$Team", "legMeans", "[I", true)
  | _ => ("SpoonRace$Team", "least", "I", false)
def tyX7 : Nat → FieldType := fun k => match k with
  | 0 => .array .int
  | 1 => .array .int
  | _ => .int
abbrev wsX70 : List Cond := u_ws RX7 TX7 3
theorem nmX7 : ∀ a, a < 3 → ∀ b, b < 3 → a ≠ b → (TX7 a).2.1 ≠ (TX7 b).2.1 := by decide +kernel
theorem tyX7_ok : ∀ k, k < 3 → parseFieldDescriptor (TX7 k).2.2.1 = some (tyX7 k) := by decide +kernel
abbrev cX7_init : ByteArray := prog_9_method_1_code
def yX7_init : MethodName := ⟨RX7, "<init>", "()V"⟩
abbrev cX7_choose : ByteArray := prog_9_method_2_code
def yX7_choose : MethodName := ⟨RX7, "choose", "(LSpoonRace$Meet;LSpoonRace$Means;I)I"⟩
abbrev cX7_areUnlikeOf : ByteArray := prog_9_method_3_code
def yX7_areUnlikeOf : MethodName := ⟨RX7, "areUnlikeOf", "(IIII)Z"⟩
abbrev cX7_weigh : ByteArray := prog_9_method_4_code
def yX7_weigh : MethodName := ⟨RX7, "weigh", "(III)V"⟩
def RX8 : String := "SpoonRace"
def TX8 : u_T := fun k => match k with
  | 0 => ("SpoonRace", "findings", "[I", true)
  | 1 => ("SpoonRace", "meet", "LSpoonRace$Meet;", true)
  | 2 => ("SpoonRace", "kept", "LSpoonRace$Meet;", true)
  | 3 => ("SpoonRace", "trial", "LSpoonRace$Meet;", true)
  | 4 => ("SpoonRace", "means", "LSpoonRace$Means;", true)
  | 5 => ("SpoonRace", "chances", "LSpoonRace$Chances;", true)
  | 6 => ("SpoonRace", "quickest", "LSpoonRace$Team;", true)
  | 7 => ("SpoonRace", "reader", "LSpoonRace$Reader;", true)
  | 8 => ("SpoonRace", "tape", "LSpoonRace$Tape;", true)
  | 9 => ("SpoonRace", "sheets", "[LSpoonRace$Sheet;", true)
  | _ => ("SpoonRace", "isKept", "Z", false)
def tyX8 : Nat → FieldType := fun k => match k with
  | 0 => .array .int
  | 1 => .object "SpoonRace$Meet"
  | 2 => .object "SpoonRace$Meet"
  | 3 => .object "SpoonRace$Meet"
  | 4 => .object "SpoonRace$Means"
  | 5 => .object "SpoonRace$Chances"
  | 6 => .object "SpoonRace$Team"
  | 7 => .object "SpoonRace$Reader"
  | 8 => .object "SpoonRace$Tape"
  | 9 => .array (.object "SpoonRace$Sheet")
  | _ => .boolean
abbrev wsX80 : List Cond := u_ws RX8 TX8 11
theorem nmX8 : ∀ a, a < 11 → ∀ b, b < 11 → a ≠ b → (TX8 a).2.1 ≠ (TX8 b).2.1 := by decide +kernel
theorem tyX8_ok : ∀ k, k < 11 → parseFieldDescriptor (TX8 k).2.2.1 = some (tyX8 k) := by decide +kernel
abbrev cX8_init : ByteArray := prog_1_method_1_code
def yX8_init : MethodName := ⟨RX8, "<init>", "()V"⟩
abbrev cX8_ground : ByteArray := prog_1_method_2_code
def yX8_ground : MethodName := ⟨RX8, "ground", "(II)I"⟩
abbrev cX8_pick : ByteArray := prog_1_method_3_code
def yX8_pick : MethodName := ⟨RX8, "pick", "(I)I"⟩
abbrev cX8_runner : ByteArray := prog_1_method_4_code
def yX8_runner : MethodName := ⟨RX8, "runner", "(III)I"⟩
abbrev cX8_of : ByteArray := prog_1_method_5_code
def yX8_of : MethodName := ⟨RX8, "of", "(II)I"⟩
abbrev cX8_change : ByteArray := prog_1_method_6_code
def yX8_change : MethodName := ⟨RX8, "change", "(III)I"⟩
abbrev cX8_pace : ByteArray := prog_1_method_7_code
def yX8_pace : MethodName := ⟨RX8, "pace", "(IIII)I"⟩
abbrev cX8_paceOf : ByteArray := prog_1_method_8_code
def yX8_paceOf : MethodName := ⟨RX8, "paceOf", "(II)I"⟩
abbrev cX8_told : ByteArray := prog_1_method_9_code
def yX8_told : MethodName := ⟨RX8, "told", "(III)I"⟩
abbrev cX8_odds : ByteArray := prog_1_method_10_code
def yX8_odds : MethodName := ⟨RX8, "odds", "(IIII)I"⟩
abbrev cX8_now : ByteArray := prog_1_method_11_code
def yX8_now : MethodName := ⟨RX8, "now", "(I)I"⟩
abbrev cX8_nerves : ByteArray := prog_1_method_12_code
def yX8_nerves : MethodName := ⟨RX8, "nerves", "(I)I"⟩
abbrev cX8_next : ByteArray := prog_1_method_13_code
def yX8_next : MethodName := ⟨RX8, "next", "()I"⟩
abbrev cX8_steps : ByteArray := prog_1_method_14_code
def yX8_steps : MethodName := ⟨RX8, "steps", "(I)I"⟩
abbrev cX8_start : ByteArray := prog_1_method_15_code
def yX8_start : MethodName := ⟨RX8, "start", "()I"⟩
abbrev cX8_ahead : ByteArray := prog_1_method_16_code
def yX8_ahead : MethodName := ⟨RX8, "ahead", "(II)I"⟩
abbrev cX8_winner : ByteArray := prog_1_method_17_code
def yX8_winner : MethodName := ⟨RX8, "winner", "()I"⟩
abbrev cX8_place : ByteArray := prog_1_method_18_code
def yX8_place : MethodName := ⟨RX8, "place", "(I)I"⟩
abbrev cX8_wins : ByteArray := prog_1_method_19_code
def yX8_wins : MethodName := ⟨RX8, "wins", "(II)I"⟩
abbrev cX8_clean : ByteArray := prog_1_method_20_code
def yX8_clean : MethodName := ⟨RX8, "clean", "(III)J"⟩
abbrev cX8_drops : ByteArray := prog_1_method_21_code
def yX8_drops : MethodName := ⟨RX8, "drops", "(IIII)J"⟩
abbrev cX8_mean : ByteArray := prog_1_method_22_code
def yX8_mean : MethodName := ⟨RX8, "mean", "(III)I"⟩
abbrev cX8_least : ByteArray := prog_1_method_23_code
def yX8_least : MethodName := ⟨RX8, "least", "(III)I"⟩
abbrev cX8_best : ByteArray := prog_1_method_24_code
def yX8_best : MethodName := ⟨RX8, "best", "(III)I"⟩
abbrev cX8_train : ByteArray := prog_1_method_25_code
def yX8_train : MethodName := ⟨RX8, "train", "(I)I"⟩
abbrev cX8_even : ByteArray := prog_1_method_26_code
def yX8_even : MethodName := ⟨RX8, "even", "(I)I"⟩
abbrev cX8_costs : ByteArray := prog_1_method_27_code
def yX8_costs : MethodName := ⟨RX8, "costs", "(II)I"⟩
abbrev cX8_worst : ByteArray := prog_1_method_28_code
def yX8_worst : MethodName := ⟨RX8, "worst", "(I)I"⟩
abbrev cX8_spoon : ByteArray := prog_1_method_29_code
def yX8_spoon : MethodName := ⟨RX8, "spoon", "(I)I"⟩
abbrev cX8_armFor : ByteArray := prog_1_method_30_code
def yX8_armFor : MethodName := ⟨RX8, "armFor", "(II)I"⟩
abbrev cX8_later : ByteArray := prog_1_method_31_code
def yX8_later : MethodName := ⟨RX8, "later", "(I)I"⟩
abbrev cX8_team : ByteArray := prog_1_method_32_code
def yX8_team : MethodName := ⟨RX8, "team", "(I)I"⟩
abbrev cX8_leg : ByteArray := prog_1_method_33_code
def yX8_leg : MethodName := ⟨RX8, "leg", "(II)I"⟩
abbrev cX8_gum : ByteArray := prog_1_method_34_code
def yX8_gum : MethodName := ⟨RX8, "gum", "(IIIII)J"⟩
abbrev cX8_suspect : ByteArray := prog_1_method_35_code
def yX8_suspect : MethodName := ⟨RX8, "suspect", "(III)I"⟩
abbrev cX8_rain : ByteArray := prog_1_method_36_code
def yX8_rain : MethodName := ⟨RX8, "rain", "(I)I"⟩
abbrev cX8_seed : ByteArray := prog_1_method_37_code
def yX8_seed : MethodName := ⟨RX8, "seed", "(I)I"⟩
abbrev cX8_feed : ByteArray := prog_1_method_38_code
def yX8_feed : MethodName := ⟨RX8, "feed", "(II)I"⟩
abbrev cX8_wipe : ByteArray := prog_1_method_39_code
def yX8_wipe : MethodName := ⟨RX8, "wipe", "()I"⟩
abbrev cX8_text : ByteArray := prog_1_method_40_code
def yX8_text : MethodName := ⟨RX8, "text", "()I"⟩
abbrev cX8_hold : ByteArray := prog_1_method_41_code
def yX8_hold : MethodName := ⟨RX8, "hold", "(II)I"⟩
abbrev cX8_as : ByteArray := prog_1_method_42_code
def yX8_as : MethodName := ⟨RX8, "as", "(II)I"⟩
abbrev cX8_sheet : ByteArray := prog_1_method_43_code
def yX8_sheet : MethodName := ⟨RX8, "sheet", "(III)I"⟩
abbrev cX8_write : ByteArray := prog_1_method_44_code
def yX8_write : MethodName := ⟨RX8, "write", "(III)I"⟩
abbrev cX8_copy : ByteArray := prog_1_method_45_code
def yX8_copy : MethodName := ⟨RX8, "copy", "(IIIII)I"⟩
abbrev cX8_load : ByteArray := prog_1_method_46_code
def yX8_load : MethodName := ⟨RX8, "load", "(II)I"⟩
abbrev cX8_judge : ByteArray := prog_1_method_47_code
def yX8_judge : MethodName := ⟨RX8, "judge", "(I)I"⟩
abbrev cX8_image : ByteArray := prog_1_method_48_code
def yX8_image : MethodName := ⟨RX8, "image", "()I"⟩
abbrev cX8_undo : ByteArray := prog_1_method_49_code
def yX8_undo : MethodName := ⟨RX8, "undo", "()I"⟩
abbrev cX8_tear : ByteArray := prog_1_method_50_code
def yX8_tear : MethodName := ⟨RX8, "tear", "()I"⟩
abbrev cX8_count : ByteArray := prog_1_method_51_code
def yX8_count : MethodName := ⟨RX8, "count", "(I)I"⟩
abbrev cX8_status : ByteArray := prog_1_method_52_code
def yX8_status : MethodName := ⟨RX8, "status", "(I)I"⟩
abbrev cX8_found : ByteArray := prog_1_method_53_code
def yX8_found : MethodName := ⟨RX8, "found", "(I)I"⟩
abbrev cX8_within : ByteArray := prog_1_method_54_code
def yX8_within : MethodName := ⟨RX8, "within", "(III)Z"⟩
abbrev cX8_isYard : ByteArray := prog_1_method_55_code
def yX8_isYard : MethodName := ⟨RX8, "isYard", "(I)Z"⟩
abbrev cX8_isPace : ByteArray := prog_1_method_56_code
def yX8_isPace : MethodName := ⟨RX8, "isPace", "(I)Z"⟩
abbrev cX8_isSpot : ByteArray := prog_1_method_57_code
def yX8_isSpot : MethodName := ⟨RX8, "isSpot", "(I)Z"⟩
abbrev cX8_isSheet : ByteArray := prog_1_method_58_code
def yX8_isSheet : MethodName := ⟨RX8, "isSheet", "(I)Z"⟩
abbrev cX8_isRunner : ByteArray := prog_1_method_59_code
def yX8_isRunner : MethodName := ⟨RX8, "isRunner", "(I)Z"⟩
abbrev cX8_isStretch : ByteArray := prog_1_method_60_code
def yX8_isStretch : MethodName := ⟨RX8, "isStretch", "(III)Z"⟩
abbrev cX8_isTeamSet : ByteArray := prog_1_method_61_code
def yX8_isTeamSet : MethodName := ⟨RX8, "isTeamSet", "(I)Z"⟩
abbrev cX8_runAllHome : ByteArray := prog_1_method_62_code
def yX8_runAllHome : MethodName := ⟨RX8, "runAllHome", "()V"⟩
abbrev cX8_tryGum : ByteArray := prog_1_method_63_code
def yX8_tryGum : MethodName := ⟨RX8, "tryGum", "(I)V"⟩
abbrev cX8_wholeMean : ByteArray := prog_1_method_64_code
def yX8_wholeMean : MethodName := ⟨RX8, "wholeMean", "(LSpoonRace$Meet;I)I"⟩
def RX9 : String := "SpoonRaceModel"
def TX9 : u_T := fun k => match k with
  | 0 => ("SpoonRaceModel", "m", "[I", true)
  | 1 => ("SpoonRaceModel", "kept", "[I", true)
  | 2 => ("SpoonRaceModel", "was", "[I", true)
  | 3 => ("SpoonRaceModel", "isKept", "Z", false)
  | 4 => ("SpoonRaceModel", "found", "[I", true)
  | 5 => ("SpoonRaceModel", "mean", "[I", true)
  | 6 => ("SpoonRaceModel", "bestPace", "[I", true)
  | 7 => ("SpoonRaceModel", "legs", "[I", true)
  | 8 => ("SpoonRaceModel", "team", "[I", true)
  | 9 => ("SpoonRaceModel", "tape", "[I", true)
  | 10 => ("SpoonRaceModel", "taped", "I", false)
  | 11 => ("SpoonRaceModel", "sort", "I", false)
  | 12 => ("SpoonRaceModel", "from", "I", false)
  | 13 => ("SpoonRaceModel", "to", "I", false)
  | 14 => ("SpoonRaceModel", "value", "I", false)
  | 15 => ("SpoonRaceModel", "bad", "Z", false)
  | 16 => ("SpoonRaceModel", "bits", "[I", true)
  | 17 => ("SpoonRaceModel", "size", "[I", true)
  | _ => ("SpoonRaceModel", "number", "[I", true)
def tyX9 : Nat → FieldType := fun k => match k with
  | 0 => .array .int
  | 1 => .array .int
  | 2 => .array .int
  | 3 => .boolean
  | 4 => .array .int
  | 5 => .array .int
  | 6 => .array .int
  | 7 => .array .int
  | 8 => .array .int
  | 9 => .array .int
  | 10 => .int
  | 11 => .int
  | 12 => .int
  | 13 => .int
  | 14 => .int
  | 15 => .boolean
  | 16 => .array .int
  | 17 => .array .int
  | _ => .array .int
abbrev wsX90 : List Cond := u_ws RX9 TX9 19
theorem nmX9 : ∀ a, a < 19 → ∀ b, b < 19 → a ≠ b → (TX9 a).2.1 ≠ (TX9 b).2.1 := by decide +kernel
theorem tyX9_ok : ∀ k, k < 19 → parseFieldDescriptor (TX9 k).2.2.1 = some (tyX9 k) := by decide +kernel
abbrev cX9_init : ByteArray := prog_11_method_1_code
def yX9_init : MethodName := ⟨RX9, "<init>", "()V"⟩
abbrev cX9_finds : ByteArray := prog_11_method_2_code
def yX9_finds : MethodName := ⟨RX9, "finds", "(I)I"⟩
abbrev cX9_orNone : ByteArray := prog_11_method_3_code
def yX9_orNone : MethodName := ⟨RX9, "orNone", "(I)I"⟩
abbrev cX9_in : ByteArray := prog_11_method_4_code
def yX9_in : MethodName := ⟨RX9, "in", "(JJJ)Z"⟩
abbrev cX9_row : ByteArray := prog_11_method_5_code
def yX9_row : MethodName := ⟨RX9, "row", "([I[I)V"⟩
abbrev cX9_becomes : ByteArray := prog_11_method_6_code
def yX9_becomes : MethodName := ⟨RX9, "becomes", "(II)I"⟩
abbrev cX9_isYard : ByteArray := prog_11_method_7_code
def yX9_isYard : MethodName := ⟨RX9, "isYard", "(I)Z"⟩
abbrev cX9_isPace : ByteArray := prog_11_method_8_code
def yX9_isPace : MethodName := ⟨RX9, "isPace", "(I)Z"⟩
abbrev cX9_isKind : ByteArray := prog_11_method_9_code
def yX9_isKind : MethodName := ⟨RX9, "isKind", "(I)Z"⟩
abbrev cX9_isRunner : ByteArray := prog_11_method_10_code
def yX9_isRunner : MethodName := ⟨RX9, "isRunner", "(I)Z"⟩
abbrev cX9_is : ByteArray := prog_11_method_11_code
def yX9_is : MethodName := ⟨RX9, "is", "(II)I"⟩
abbrev cX9_makes : ByteArray := prog_11_method_12_code
def yX9_makes : MethodName := ⟨RX9, "makes", "(III)V"⟩
abbrev cX9_isHome : ByteArray := prog_11_method_13_code
def yX9_isHome : MethodName := ⟨RX9, "isHome", "(I)Z"⟩
abbrev cX9_ground : ByteArray := prog_11_method_14_code
def yX9_ground : MethodName := ⟨RX9, "ground", "(II)I"⟩
abbrev cX9_pick : ByteArray := prog_11_method_15_code
def yX9_pick : MethodName := ⟨RX9, "pick", "(I)I"⟩
abbrev cX9_comes : ByteArray := prog_11_method_16_code
def yX9_comes : MethodName := ⟨RX9, "comes", "(IIII)I"⟩
abbrev cX9_runner : ByteArray := prog_11_method_17_code
def yX9_runner : MethodName := ⟨RX9, "runner", "(III)I"⟩
abbrev cX9_holds : ByteArray := prog_11_method_18_code
def yX9_holds : MethodName := ⟨RX9, "holds", "(I)I"⟩
abbrev cX9_of : ByteArray := prog_11_method_19_code
def yX9_of : MethodName := ⟨RX9, "of", "(II)I"⟩
abbrev cX9_isPart : ByteArray := prog_11_method_20_code
def yX9_isPart : MethodName := ⟨RX9, "isPart", "(II)Z"⟩
abbrev cX9_change : ByteArray := prog_11_method_21_code
def yX9_change : MethodName := ⟨RX9, "change", "(III)I"⟩
abbrev cX9_pace : ByteArray := prog_11_method_22_code
def yX9_pace : MethodName := ⟨RX9, "pace", "(IIII)I"⟩
abbrev cX9_paceAt : ByteArray := prog_11_method_23_code
def yX9_paceAt : MethodName := ⟨RX9, "paceAt", "(II)I"⟩
abbrev cX9_paceOf : ByteArray := prog_11_method_24_code
def yX9_paceOf : MethodName := ⟨RX9, "paceOf", "(II)I"⟩
abbrev cX9_takes : ByteArray := prog_11_method_25_code
def yX9_takes : MethodName := ⟨RX9, "takes", "(II)I"⟩
abbrev cX9_rocks : ByteArray := prog_11_method_26_code
def yX9_rocks : MethodName := ⟨RX9, "rocks", "(II)I"⟩
abbrev cX9_hurts : ByteArray := prog_11_method_27_code
def yX9_hurts : MethodName := ⟨RX9, "hurts", "(II)I"⟩
abbrev cX9_oddsBy : ByteArray := prog_11_method_28_code
def yX9_oddsBy : MethodName := ⟨RX9, "oddsBy", "(IIIZI)I"⟩
abbrev cX9_told : ByteArray := prog_11_method_29_code
def yX9_told : MethodName := ⟨RX9, "told", "(III)I"⟩
abbrev cX9_odds : ByteArray := prog_11_method_30_code
def yX9_odds : MethodName := ⟨RX9, "odds", "(IIII)I"⟩
abbrev cX9_nervesOf : ByteArray := prog_11_method_31_code
def yX9_nervesOf : MethodName := ⟨RX9, "nervesOf", "(I)I"⟩
abbrev cX9_oddsNow : ByteArray := prog_11_method_32_code
def yX9_oddsNow : MethodName := ⟨RX9, "oddsNow", "(I)I"⟩
abbrev cX9_now : ByteArray := prog_11_method_33_code
def yX9_now : MethodName := ⟨RX9, "now", "(I)I"⟩
abbrev cX9_nerves : ByteArray := prog_11_method_34_code
def yX9_nerves : MethodName := ⟨RX9, "nerves", "(I)I"⟩
abbrev cX9_draw : ByteArray := prog_11_method_35_code
def yX9_draw : MethodName := ⟨RX9, "draw", "()I"⟩
abbrev cX9_runsNext : ByteArray := prog_11_method_36_code
def yX9_runsNext : MethodName := ⟨RX9, "runsNext", "()I"⟩
abbrev cX9_next : ByteArray := prog_11_method_37_code
def yX9_next : MethodName := ⟨RX9, "next", "()I"⟩
abbrev cX9_step : ByteArray := prog_11_method_38_code
def yX9_step : MethodName := ⟨RX9, "step", "(I)I"⟩
abbrev cX9_stepsGo : ByteArray := prog_11_method_39_code
def yX9_stepsGo : MethodName := ⟨RX9, "stepsGo", "(I)I"⟩
abbrev cX9_steps : ByteArray := prog_11_method_40_code
def yX9_steps : MethodName := ⟨RX9, "steps", "(I)I"⟩
abbrev cX9_home : ByteArray := prog_11_method_41_code
def yX9_home : MethodName := ⟨RX9, "home", "()I"⟩
abbrev cX9_many : ByteArray := prog_11_method_42_code
def yX9_many : MethodName := ⟨RX9, "many", "(I)I"⟩
abbrev cX9_starts : ByteArray := prog_11_method_43_code
def yX9_starts : MethodName := ⟨RX9, "starts", "()V"⟩
abbrev cX9_start : ByteArray := prog_11_method_44_code
def yX9_start : MethodName := ⟨RX9, "start", "()I"⟩
abbrev cX9_ahead : ByteArray := prog_11_method_45_code
def yX9_ahead : MethodName := ⟨RX9, "ahead", "(II)I"⟩
abbrev cX9_isAhead : ByteArray := prog_11_method_46_code
def yX9_isAhead : MethodName := ⟨RX9, "isAhead", "(II)Z"⟩
abbrev cX9_firstHome : ByteArray := prog_11_method_47_code
def yX9_firstHome : MethodName := ⟨RX9, "firstHome", "()I"⟩
abbrev cX9_allGoHome : ByteArray := prog_11_method_48_code
def yX9_allGoHome : MethodName := ⟨RX9, "allGoHome", "()V"⟩
abbrev cX9_winner : ByteArray := prog_11_method_49_code
def yX9_winner : MethodName := ⟨RX9, "winner", "()I"⟩
abbrev cX9_place : ByteArray := prog_11_method_50_code
def yX9_place : MethodName := ⟨RX9, "place", "(I)I"⟩
abbrev cX9_wins : ByteArray := prog_11_method_51_code
def yX9_wins : MethodName := ⟨RX9, "wins", "(II)I"⟩
abbrev cX9_isStretch : ByteArray := prog_11_method_52_code
def yX9_isStretch : MethodName := ⟨RX9, "isStretch", "(IIII)Z"⟩
abbrev cX9_oddsAt : ByteArray := prog_11_method_53_code
def yX9_oddsAt : MethodName := ⟨RX9, "oddsAt", "(IIZ)I"⟩
abbrev cX9_clean : ByteArray := prog_11_method_54_code
def yX9_clean : MethodName := ⟨RX9, "clean", "(III)J"⟩
abbrev cX9_dropping : ByteArray := prog_11_method_55_code
def yX9_dropping : MethodName := ⟨RX9, "dropping", "(IIIII)J"⟩
abbrev cX9_drops : ByteArray := prog_11_method_56_code
def yX9_drops : MethodName := ⟨RX9, "drops", "(IIII)J"⟩
abbrev cX9_behind : ByteArray := prog_11_method_57_code
def yX9_behind : MethodName := ⟨RX9, "behind", "(IIII)I"⟩
abbrev cX9_means : ByteArray := prog_11_method_58_code
def yX9_means : MethodName := ⟨RX9, "means", "(IIZ)V"⟩
abbrev cX9_meanOf : ByteArray := prog_11_method_59_code
def yX9_meanOf : MethodName := ⟨RX9, "meanOf", "(I)I"⟩
abbrev cX9_isMean : ByteArray := prog_11_method_60_code
def yX9_isMean : MethodName := ⟨RX9, "isMean", "(IIII)Z"⟩
abbrev cX9_mean : ByteArray := prog_11_method_61_code
def yX9_mean : MethodName := ⟨RX9, "mean", "(III)I"⟩
abbrev cX9_least : ByteArray := prog_11_method_62_code
def yX9_least : MethodName := ⟨RX9, "least", "(III)I"⟩
abbrev cX9_best : ByteArray := prog_11_method_63_code
def yX9_best : MethodName := ⟨RX9, "best", "(III)I"⟩
abbrev cX9_train : ByteArray := prog_11_method_64_code
def yX9_train : MethodName := ⟨RX9, "train", "(I)I"⟩
abbrev cX9_even : ByteArray := prog_11_method_65_code
def yX9_even : MethodName := ⟨RX9, "even", "(I)I"⟩
abbrev cX9_costs : ByteArray := prog_11_method_66_code
def yX9_costs : MethodName := ⟨RX9, "costs", "(II)I"⟩
abbrev cX9_worst : ByteArray := prog_11_method_67_code
def yX9_worst : MethodName := ⟨RX9, "worst", "(I)I"⟩
abbrev cX9_spoon : ByteArray := prog_11_method_68_code
def yX9_spoon : MethodName := ⟨RX9, "spoon", "(I)I"⟩
abbrev cX9_armFor : ByteArray := prog_11_method_69_code
def yX9_armFor : MethodName := ⟨RX9, "armFor", "(II)I"⟩
abbrev cX9_later : ByteArray := prog_11_method_70_code
def yX9_later : MethodName := ⟨RX9, "later", "(I)I"⟩
abbrev cX9_isTeam : ByteArray := prog_11_method_71_code
def yX9_isTeam : MethodName := ⟨RX9, "isTeam", "(I)Z"⟩
abbrev cX9_bestTeam : ByteArray := prog_11_method_72_code
def yX9_bestTeam : MethodName := ⟨RX9, "bestTeam", "(I)I"⟩
abbrev cX9_team : ByteArray := prog_11_method_73_code
def yX9_team : MethodName := ⟨RX9, "team", "(I)I"⟩
abbrev cX9_leg : ByteArray := prog_11_method_74_code
def yX9_leg : MethodName := ⟨RX9, "leg", "(II)I"⟩
abbrev cX9_droppingAs : ByteArray := prog_11_method_75_code
def yX9_droppingAs : MethodName := ⟨RX9, "droppingAs", "(IIIII)J"⟩
abbrev cX9_gum : ByteArray := prog_11_method_76_code
def yX9_gum : MethodName := ⟨RX9, "gum", "(IIIII)J"⟩
abbrev cX9_suspect : ByteArray := prog_11_method_77_code
def yX9_suspect : MethodName := ⟨RX9, "suspect", "(III)I"⟩
abbrev cX9_grass : ByteArray := prog_11_method_78_code
def yX9_grass : MethodName := ⟨RX9, "grass", "()I"⟩
abbrev cX9_rain : ByteArray := prog_11_method_79_code
def yX9_rain : MethodName := ⟨RX9, "rain", "(I)I"⟩
abbrev cX9_seed : ByteArray := prog_11_method_80_code
def yX9_seed : MethodName := ⟨RX9, "seed", "(I)I"⟩
abbrev cX9_feed : ByteArray := prog_11_method_81_code
def yX9_feed : MethodName := ⟨RX9, "feed", "(II)I"⟩
abbrev cX9_wipe : ByteArray := prog_11_method_82_code
def yX9_wipe : MethodName := ⟨RX9, "wipe", "()I"⟩
abbrev cX9_isByte : ByteArray := prog_11_method_83_code
def yX9_isByte : MethodName := ⟨RX9, "isByte", "(III)Z"⟩
abbrev cX9_token : ByteArray := prog_11_method_84_code
def yX9_token : MethodName := ⟨RX9, "token", "()V"⟩
abbrev cX9_isWord : ByteArray := prog_11_method_85_code
def yX9_isWord : MethodName := ⟨RX9, "isWord", "(Ljava/lang/String;)Z"⟩
abbrev cX9_takes_ : ByteArray := prog_11_method_86_code
def yX9_takes_ : MethodName := ⟨RX9, "takes", "(Ljava/lang/String;)Z"⟩
abbrev cX9_isSign : ByteArray := prog_11_method_87_code
def yX9_isSign : MethodName := ⟨RX9, "isSign", "(I)Z"⟩
abbrev cX9_number : ByteArray := prog_11_method_88_code
def yX9_number : MethodName := ⟨RX9, "number", "(II)I"⟩
abbrev cX9_groundHere : ByteArray := prog_11_method_89_code
def yX9_groundHere : MethodName := ⟨RX9, "groundHere", "()I"⟩
abbrev cX9_kindHere : ByteArray := prog_11_method_90_code
def yX9_kindHere : MethodName := ⟨RX9, "kindHere", "()I"⟩
abbrev cX9_groundItem : ByteArray := prog_11_method_91_code
def yX9_groundItem : MethodName := ⟨RX9, "groundItem", "(I)V"⟩
abbrev cX9_runnerItem : ByteArray := prog_11_method_92_code
def yX9_runnerItem : MethodName := ⟨RX9, "runnerItem", "(I)V"⟩
abbrev cX9_item : ByteArray := prog_11_method_93_code
def yX9_item : MethodName := ⟨RX9, "item", "()V"⟩
abbrev cX9_text : ByteArray := prog_11_method_94_code
def yX9_text : MethodName := ⟨RX9, "text", "()I"⟩
abbrev cX9_hold : ByteArray := prog_11_method_95_code
def yX9_hold : MethodName := ⟨RX9, "hold", "(II)I"⟩
abbrev cX9_above : ByteArray := prog_11_method_96_code
def yX9_above : MethodName := ⟨RX9, "above", "(I)I"⟩
abbrev cX9_as : ByteArray := prog_11_method_97_code
def yX9_as : MethodName := ⟨RX9, "as", "(II)I"⟩
abbrev cX9_isSheet : ByteArray := prog_11_method_98_code
def yX9_isSheet : MethodName := ⟨RX9, "isSheet", "(I)Z"⟩
abbrev cX9_sheet : ByteArray := prog_11_method_99_code
def yX9_sheet : MethodName := ⟨RX9, "sheet", "(III)I"⟩
abbrev cX9_write : ByteArray := prog_11_method_100_code
def yX9_write : MethodName := ⟨RX9, "write", "(III)I"⟩
abbrev cX9_copy : ByteArray := prog_11_method_101_code
def yX9_copy : MethodName := ⟨RX9, "copy", "(IIIII)I"⟩
abbrev cX9_load : ByteArray := prog_11_method_102_code
def yX9_load : MethodName := ⟨RX9, "load", "(II)I"⟩
abbrev cX9_judge : ByteArray := prog_11_method_103_code
def yX9_judge : MethodName := ⟨RX9, "judge", "(I)I"⟩
abbrev cX9_image : ByteArray := prog_11_method_104_code
def yX9_image : MethodName := ⟨RX9, "image", "()I"⟩
abbrev cX9_undo : ByteArray := prog_11_method_105_code
def yX9_undo : MethodName := ⟨RX9, "undo", "()I"⟩
abbrev cX9_tear : ByteArray := prog_11_method_106_code
def yX9_tear : MethodName := ⟨RX9, "tear", "()I"⟩
abbrev cX9_allDrops : ByteArray := prog_11_method_107_code
def yX9_allDrops : MethodName := ⟨RX9, "allDrops", "()I"⟩
abbrev cX9_holding : ByteArray := prog_11_method_108_code
def yX9_holding : MethodName := ⟨RX9, "holding", "()I"⟩
abbrev cX9_count : ByteArray := prog_11_method_109_code
def yX9_count : MethodName := ⟨RX9, "count", "(I)I"⟩
abbrev cX9_status : ByteArray := prog_11_method_110_code
def yX9_status : MethodName := ⟨RX9, "status", "(I)I"⟩
def RJx145de : String := "java/io/Serializable"
def TJx145de : u_T := fun k => match k with
  | _ => ("", "", "", false)
def tyJx145de : Nat → FieldType := fun k => match k with
  | _ => .int
abbrev wsJx145de0 : List Cond := u_ws RJx145de TJx145de 0
theorem nmJx145de : ∀ a, a < 0 → ∀ b, b < 0 → a ≠ b → (TJx145de a).2.1 ≠ (TJx145de b).2.1 := by decide +kernel
theorem tyJx145de_ok : ∀ k, k < 0 → parseFieldDescriptor (TJx145de k).2.2.1 = some (tyJx145de k) := by decide +kernel
def RJx9f9b0 : String := "java/lang/CharSequence"
def TJx9f9b0 : u_T := fun k => match k with
  | _ => ("", "", "", false)
def tyJx9f9b0 : Nat → FieldType := fun k => match k with
  | _ => .int
abbrev wsJx9f9b00 : List Cond := u_ws RJx9f9b0 TJx9f9b0 0
theorem nmJx9f9b0 : ∀ a, a < 0 → ∀ b, b < 0 → a ≠ b → (TJx9f9b0 a).2.1 ≠ (TJx9f9b0 b).2.1 := by decide +kernel
theorem tyJx9f9b0_ok : ∀ k, k < 0 → parseFieldDescriptor (TJx9f9b0 k).2.2.1 = some (tyJx9f9b0 k) := by decide +kernel
def RJxb160c : String := "java/lang/Comparable"
def TJxb160c : u_T := fun k => match k with
  | _ => ("", "", "", false)
def tyJxb160c : Nat → FieldType := fun k => match k with
  | _ => .int
abbrev wsJxb160c0 : List Cond := u_ws RJxb160c TJxb160c 0
theorem nmJxb160c : ∀ a, a < 0 → ∀ b, b < 0 → a ≠ b → (TJxb160c a).2.1 ≠ (TJxb160c b).2.1 := by decide +kernel
theorem tyJxb160c_ok : ∀ k, k < 0 → parseFieldDescriptor (TJxb160c k).2.2.1 = some (tyJxb160c k) := by decide +kernel
def RJ6 : String := "java/lang/Integer"
def TJ6 : u_T := fun k => match k with
  | _ => ("", "", "", false)
def tyJ6 : Nat → FieldType := fun k => match k with
  | _ => .int
abbrev wsJ60 : List Cond := u_ws RJ6 TJ6 0
theorem nmJ6 : ∀ a, a < 0 → ∀ b, b < 0 → a ≠ b → (TJ6 a).2.1 ≠ (TJ6 b).2.1 := by decide +kernel
theorem tyJ6_ok : ∀ k, k < 0 → parseFieldDescriptor (TJ6 k).2.2.1 = some (tyJ6 k) := by decide +kernel
abbrev cJ6_bitCount_0f7a4 : ByteArray := prog_12_method_49_code
def yJ6_bitCount_0f7a4 : MethodName := ⟨RJ6, "bitCount", "(I)I"⟩
def RJ9 : String := "java/lang/Math"
def TJ9 : u_T := fun k => match k with
  | _ => ("", "", "", false)
def tyJ9 : Nat → FieldType := fun k => match k with
  | _ => .int
abbrev wsJ90 : List Cond := u_ws RJ9 TJ9 0
theorem nmJ9 : ∀ a, a < 0 → ∀ b, b < 0 → a ≠ b → (TJ9 a).2.1 ≠ (TJ9 b).2.1 := by decide +kernel
theorem tyJ9_ok : ∀ k, k < 0 → parseFieldDescriptor (TJ9 k).2.2.1 = some (tyJ9 k) := by decide +kernel
abbrev cJ9_abs_0f7a4 : ByteArray := prog_13_method_59_code
def yJ9_abs_0f7a4 : MethodName := ⟨RJ9, "abs", "(I)I"⟩
abbrev cJ9_max_7cf53 : ByteArray := prog_13_method_65_code
def yJ9_max_7cf53 : MethodName := ⟨RJ9, "max", "(II)I"⟩
abbrev cJ9_min_7cf53 : ByteArray := prog_13_method_69_code
def yJ9_min_7cf53 : MethodName := ⟨RJ9, "min", "(II)I"⟩
def RJ0 : String := "java/lang/String"
def TJ0 : u_T := fun k => match k with
  | _ => ("", "", "", false)
def tyJ0 : Nat → FieldType := fun k => match k with
  | _ => .int
abbrev wsJ00 : List Cond := u_ws RJ0 TJ0 0
theorem nmJ0 : ∀ a, a < 0 → ∀ b, b < 0 → a ≠ b → (TJ0 a).2.1 ≠ (TJ0 b).2.1 := by decide +kernel
theorem tyJ0_ok : ∀ k, k < 0 → parseFieldDescriptor (TJ0 k).2.2.1 = some (tyJ0 k) := by decide +kernel
abbrev cJ0_length_8abf5 : ByteArray := prog_14_method_54_code
def yJ0_length_8abf5 : MethodName := ⟨RJ0, "length", "()I"⟩
abbrev cJ0_charAt_5068e : ByteArray := prog_14_method_56_code
def yJ0_charAt_5068e : MethodName := ⟨RJ0, "charAt", "(I)C"⟩
abbrev cJ0_coder_7d493 : ByteArray := prog_14_method_152_code
def yJ0_coder_7d493 : MethodName := ⟨RJ0, "coder", "()B"⟩
abbrev cJ0_isLatin1_aae02 : ByteArray := prog_14_method_154_code
def yJ0_isLatin1_aae02 : MethodName := ⟨RJ0, "isLatin1", "()Z"⟩
abbrev cJ0_checkIndex_df160 : ByteArray := prog_14_method_155_code
def yJ0_checkIndex_df160 : MethodName := ⟨RJ0, "checkIndex", "(II)V"⟩
def RJ1 : String := "java/lang/StringLatin1"
def TJ1 : u_T := fun k => match k with
  | _ => ("", "", "", false)
def tyJ1 : Nat → FieldType := fun k => match k with
  | _ => .int
abbrev wsJ10 : List Cond := u_ws RJ1 TJ1 0
theorem nmJ1 : ∀ a, a < 0 → ∀ b, b < 0 → a ≠ b → (TJ1 a).2.1 ≠ (TJ1 b).2.1 := by decide +kernel
theorem tyJ1_ok : ∀ k, k < 0 → parseFieldDescriptor (TJ1 k).2.2.1 = some (tyJ1 k) := by decide +kernel
abbrev cJ1_charAt_3b067 : ByteArray := prog_15_method_2_code
def yJ1_charAt_3b067 : MethodName := ⟨RJ1, "charAt", "([BI)C"⟩
def RJ2 : String := "java/lang/StringUTF16"
def TJ2 : u_T := fun k => match k with
  | _ => ("", "", "", false)
def tyJ2 : Nat → FieldType := fun k => match k with
  | _ => .int
abbrev wsJ20 : List Cond := u_ws RJ2 TJ2 0
theorem nmJ2 : ∀ a, a < 0 → ∀ b, b < 0 → a ≠ b → (TJ2 a).2.1 ≠ (TJ2 b).2.1 := by decide +kernel
theorem tyJ2_ok : ∀ k, k < 0 → parseFieldDescriptor (TJ2 k).2.2.1 = some (tyJ2 k) := by decide +kernel
abbrev cJ2_getChar_3b067 : ByteArray := prog_16_method_5_code
def yJ2_getChar_3b067 : MethodName := ⟨RJ2, "getChar", "([BI)C"⟩
abbrev cJ2_length_9d52b : ByteArray := prog_16_method_6_code
def yJ2_length_9d52b : MethodName := ⟨RJ2, "length", "([B)I"⟩
abbrev cJ2_charAt_3b067 : ByteArray := prog_16_method_83_code
def yJ2_charAt_3b067 : MethodName := ⟨RJ2, "charAt", "([BI)C"⟩
abbrev cJ2_checkIndex_2214a : ByteArray := prog_16_method_91_code
def yJ2_checkIndex_2214a : MethodName := ⟨RJ2, "checkIndex", "(I[B)V"⟩
def RJ10 : String := "java/lang/System"
def TJ10 : u_T := fun k => match k with
  | _ => ("", "", "", false)
def tyJ10 : Nat → FieldType := fun k => match k with
  | _ => .int
abbrev wsJ100 : List Cond := u_ws RJ10 TJ10 0
theorem nmJ10 : ∀ a, a < 0 → ∀ b, b < 0 → a ≠ b → (TJ10 a).2.1 ≠ (TJ10 b).2.1 := by decide +kernel
theorem tyJ10_ok : ∀ k, k < 0 → parseFieldDescriptor (TJ10 k).2.2.1 = some (tyJ10 k) := by decide +kernel
def RJxfd54e : String := "java/lang/constant/Constable"
def TJxfd54e : u_T := fun k => match k with
  | _ => ("", "", "", false)
def tyJxfd54e : Nat → FieldType := fun k => match k with
  | _ => .int
abbrev wsJxfd54e0 : List Cond := u_ws RJxfd54e TJxfd54e 0
theorem nmJxfd54e : ∀ a, a < 0 → ∀ b, b < 0 → a ≠ b → (TJxfd54e a).2.1 ≠ (TJxfd54e b).2.1 := by decide +kernel
theorem tyJxfd54e_ok : ∀ k, k < 0 → parseFieldDescriptor (TJxfd54e k).2.2.1 = some (tyJxfd54e k) := by decide +kernel
def RJx3cf43 : String := "java/lang/constant/ConstantDesc"
def TJx3cf43 : u_T := fun k => match k with
  | _ => ("", "", "", false)
def tyJx3cf43 : Nat → FieldType := fun k => match k with
  | _ => .int
abbrev wsJx3cf430 : List Cond := u_ws RJx3cf43 TJx3cf43 0
theorem nmJx3cf43 : ∀ a, a < 0 → ∀ b, b < 0 → a ≠ b → (TJx3cf43 a).2.1 ≠ (TJx3cf43 b).2.1 := by decide +kernel
theorem tyJx3cf43_ok : ∀ k, k < 0 → parseFieldDescriptor (TJx3cf43 k).2.2.1 = some (tyJx3cf43 k) := by decide +kernel
def RJ7 : String := "java/util/Arrays"
def TJ7 : u_T := fun k => match k with
  | _ => ("", "", "", false)
def tyJ7 : Nat → FieldType := fun k => match k with
  | _ => .int
abbrev wsJ70 : List Cond := u_ws RJ7 TJ7 0
theorem nmJ7 : ∀ a, a < 0 → ∀ b, b < 0 → a ≠ b → (TJ7 a).2.1 ≠ (TJ7 b).2.1 := by decide +kernel
theorem tyJ7_ok : ∀ k, k < 0 → parseFieldDescriptor (TJ7 k).2.2.1 = some (tyJ7 k) := by decide +kernel
abbrev cJ7_fill_d0a16 : ByteArray := prog_18_method_101_code
def yJ7_fill_d0a16 : MethodName := ⟨RJ7, "fill", "([JJ)V"⟩
abbrev cJ7_fill_53178 : ByteArray := prog_18_method_103_code
def yJ7_fill_53178 : MethodName := ⟨RJ7, "fill", "([II)V"⟩
def RJ3 : String := "jdk/internal/util/Preconditions"
def TJ3 : u_T := fun k => match k with
  | _ => ("", "", "", false)
def tyJ3 : Nat → FieldType := fun k => match k with
  | _ => .int
abbrev wsJ30 : List Cond := u_ws RJ3 TJ3 0
theorem nmJ3 : ∀ a, a < 0 → ∀ b, b < 0 → a ≠ b → (TJ3 a).2.1 ≠ (TJ3 b).2.1 := by decide +kernel
theorem tyJ3_ok : ∀ k, k < 0 → parseFieldDescriptor (TJ3 k).2.2.1 = some (tyJ3 k) := by decide +kernel
abbrev cJ3_checkIndex_8e157 : ByteArray := prog_19_method_11_code
def yJ3_checkIndex_8e157 : MethodName := ⟨RJ3, "checkIndex", "(IILjava/util/function/BiFunction;)I"⟩
def RL : String := "SpoonRaceLaw"
abbrev cL_law : ByteArray := code
def yL_law : MethodName := ⟨RL, "law", "([I)Z"⟩
abbrev vwCl : List vw_C := [(RX0, TX0, 2), (RX1, TX1, 3), (RX2, TX2, 6), (RX3, TX3, 1), (RX4, TX4, 8), (RX5, TX5, 3), (RX6, TX6, 6), (RX7, TX7, 3), (RX8, TX8, 11), (RX9, TX9, 19)]
end
section
/-! THE WORLD: one static shape of 86 cells; what changes are ints (region, place) and longs; a method's contract is a function on that state -/
abbrev St : Type := (Nat → Nat → Int32) × (Nat → Nat → Int64)
def setR (σ : St) (r : Nat) (f : Nat → Int32) : St := (fun q => if q = r then f else σ.1 q, σ.2)
def setL (σ : St) (r : Nat) (f : Nat → Int64) : St := (σ.1, fun q => if q = r then f else σ.2 q)
/-- a cell's shape: an object (its class's number; its slots: a cell, or an int's place), an int row (region, offset, length), a long row, a row of cells (class, length, first cell; every second one) -/
abbrev AE : Type := (Nat × List (Nat ⊕ (Nat × Nat))) ⊕ ((Nat × Nat × Nat) ⊕ ((Nat × Nat) ⊕ (Nat × Nat × Nat)))
def shMeet (j : Nat) : List AE :=
  [.inl (2, [.inl (26 + 16 * j), .inl (27 + 16 * j), .inl (28 + 16 * j), .inr (j, 2), .inr (j, 0), .inr (j, 1)]), .inr (.inl (j, 3, 30)), .inr (.inr (.inr (2, 6, 29 + 16 * j))), .inr (.inl (j, 255, 10))] ++
  (List.range 6).flatMap fun i => [.inl (4, [.inl (30 + 16 * j + 2 * i), .inr (j, 33 + 37 * i), .inr (j, 34 + 37 * i), .inr (j, 35 + 37 * i), .inr (j, 36 + 37 * i), .inr (j, 37 + 37 * i), .inr (j, 38 + 37 * i), .inr (j, 39 + 37 * i)]), .inr (.inl (j, 40 + 37 * i, 30))]
def SH : List AE :=
  [.inl (8, [.inl 1, .inl 25, .inl 41, .inl 57, .inl 2, .inl 6, .inl 9, .inl 12, .inl 13, .inl 16, .inr (4, 0)]),
   .inr (.inl (3, 0, 7)),
   .inl (1, [.inl 3, .inl 4, .inl 5]), .inr (.inl (5, 0, 4)), .inr (.inl (6, 0, 4)), .inr (.inl (7, 0, 120)),
   .inl (0, [.inl 7, .inl 8]), .inr (.inr (.inl (0, 44))), .inr (.inr (.inl (1, 44))),
   .inl (7, [.inl 10, .inl 11, .inr (10, 0)]), .inr (.inl (8, 0, 3)), .inr (.inl (9, 0, 18)),
   .inl (3, [.inl 13]),
   .inl (6, [.inl 14, .inl 15, .inr (13, 0), .inr (13, 1), .inr (13, 2), .inr (13, 3)]), .inr (.inl (11, 0, 120)), .inr (.inl (12, 0, 120)),
   .inr (.inr (.inr (3, 4, 17))),
   .inl (5, [.inl 18, .inr (14, 40), .inr (14, 41)]), .inr (.inl (14, 0, 40)),
   .inl (5, [.inl 20, .inr (15, 40), .inr (15, 41)]), .inr (.inl (15, 0, 40)),
   .inl (5, [.inl 22, .inr (16, 40), .inr (16, 41)]), .inr (.inl (16, 0, 40)),
   .inl (5, [.inl 24, .inr (17, 40), .inr (17, 41)]), .inr (.inl (17, 0, 40))] ++
  (shMeet 0 ++ (shMeet 1 ++ (shMeet 2 ++
  [.inl (9, [.inl 74, .inl 75, .inl 76, .inr (23, 0), .inl 77, .inl 78, .inl 79, .inl 80, .inl 81, .inl 82, .inr (23, 1), .inr (23, 2), .inr (23, 3), .inr (23, 4), .inr (23, 5), .inr (23, 6), .inl 83, .inl 84, .inl 85]),
   .inr (.inl (20, 0, 265)), .inr (.inl (21, 0, 265)), .inr (.inl (22, 0, 265)), .inr (.inl (24, 0, 7)), .inr (.inl (25, 0, 124)), .inr (.inl (26, 0, 120)), .inr (.inl (27, 0, 18)), .inr (.inl (28, 0, 3)), .inr (.inl (29, 0, 120)), .inr (.inl (30, 0, 4)), .inr (.inl (31, 0, 4)), .inr (.inl (32, 0, 160))])))
/-- where things are: the classes' numbers and slots; the address of each cell (0 .. 85), static row (100 ..), text (200 ..), text's bytes (300 ..); the rows' classes -/
abbrev Geo : Type := va_G × (Nat → Nat) × (Nat → ClassId)
def cv (a : Nat → Nat) : Value → Value
  | .ref c => .ref (a c)
  | v => v
def slv (a : Nat → Nat) (σ : St) : Nat ⊕ (Nat × Nat) → Value
  | .inl c => .ref (a c)
  | .inr q => .int (σ.1 q.1 q.2)
def rowI (σ : St) (r o n : Nat) : Nat → Int32 := fun i => if i < n then σ.1 r (i + o) else 0
def rowL (σ : St) (r n : Nat) : Nat → Int64 := fun i => if i < n then σ.2 r i else 0
def entOf (g : Geo) (σ : St) : AE → va_E
  | .inl q => .inr (q.1, q.2.map (slv g.2.1 σ))
  | .inr (.inl q) => .inl (g.2.2 0, q.2.2, .inl (rowI σ q.1 q.2.1 q.2.2))
  | .inr (.inr (.inl q)) => .inl (g.2.2 1, q.2, .inr (.inl (rowL σ q.1 q.2)))
  | .inr (.inr (.inr q)) => .inl (g.2.2 q.1, q.2.1, .inr (.inr (.inr (.inr (fun i => if i < q.2.1 then some (g.2.1 (q.2.2 + 2 * i)) else none)))))
def Pic (g : Geo) (σ : St) (H : Heap) : Prop := ∀ (c : Nat) (a : AE), SH[c]? = some a → va_at g.1 vwCl (g.2.1 c, entOf g σ a) H
def Aof (g : Geo) : Nat → Prop := fun q => ∃ c, c < 86 ∧ q = g.2.1 c
theorem SH_len : SH.length = 86 := by decide +kernel
theorem SH_lt {c : Nat} {a : AE} (h : SH[c]? = some a) : c < 86 := by
  have := (List.getElem?_eq_some_iff.mp h).1
  rw [SH_len] at this
  exact this
/-- the int places of a shape: those of an object, or a range -/
def hasI (r k : Nat) : AE → Bool
  | .inl q => q.2.any fun s => match s with
    | .inl _ => false
    | .inr p => p.1 == r && p.2 == k
  | .inr (.inl q) => q.1 == r && (Nat.ble q.2.1 k && Nat.blt k (q.2.1 + q.2.2))
  | _ => false
def hasL (r : Nat) : AE → Bool
  | .inr (.inr (.inl q)) => q.1 == r
  | _ => false
/-- do two shapes share an int place? (ranges and places as numbers alone) -/
def rngs : AE → List (Nat × Nat × Nat)
  | .inl q => q.2.filterMap fun s => match s with
    | .inl _ => none
    | .inr p => some (p.1, p.2, 1)
  | .inr (.inl q) => [q]
  | _ => []
def apartR (a b : Nat × Nat × Nat) : Bool := !(a.1 == b.1) || (Nat.ble (a.2.1 + a.2.2) b.2.1 || Nat.ble (b.2.1 + b.2.2) a.2.1)
def apartA (a b : AE) : Bool := (rngs a).all fun x => (rngs b).all fun y => apartR x y
def nodupR : List (Nat × Nat × Nat) → Bool
  | [] => true
  | a :: l => l.all (apartR a) && nodupR l
theorem SH_apart : (List.range 86).all (fun c => (List.range 86).all fun d => c == d || match SH[c]?, SH[d]? with
  | some a, some b => apartA a b
  | _, _ => true) = true := by decide +kernel
theorem SH_nodup : SH.all (fun a => nodupR (rngs a)) = true := by decide +kernel
theorem SH_L : (List.range 86).all (fun c => (List.range 86).all fun d => c == d || match SH[c]?, SH[d]? with
  | some (.inr (.inr (.inl q))), some (.inr (.inr (.inl p))) => !(q.1 == p.1)
  | _, _ => true) = true := by decide +kernel
theorem apart_of {c d : Nat} {a b : AE} (hc : SH[c]? = some a) (hd : SH[d]? = some b) (h : c ≠ d) : apartA a b = true := by
  have h1 := List.all_eq_true.mp SH_apart c (List.mem_range.mpr (SH_lt hc))
  have h2 := List.all_eq_true.mp h1 d (List.mem_range.mpr (SH_lt hd))
  rw [hc, hd] at h2
  simpa [h] using h2
theorem apartL_of {c d : Nat} {q p : Nat × Nat} (hc : SH[c]? = some (.inr (.inr (.inl q)))) (hd : SH[d]? = some (.inr (.inr (.inl p)))) (h : c ≠ d) : q.1 ≠ p.1 := by
  have h1 := List.all_eq_true.mp SH_L c (List.mem_range.mpr (SH_lt hc))
  have h2 := List.all_eq_true.mp h1 d (List.mem_range.mpr (SH_lt hd))
  rw [hc, hd] at h2
  simpa [h] using h2
theorem setR_at (σ : St) (r : Nat) (f : Nat → Int32) : (setR σ r f).1 r = f := if_pos rfl
theorem setR_ne (σ : St) {r q : Nat} (f : Nat → Int32) (h : q ≠ r) : (setR σ r f).1 q = σ.1 q := if_neg h
theorem setR_2 (σ : St) (r : Nat) (f : Nat → Int32) : (setR σ r f).2 = σ.2 := rfl
theorem setL_at (σ : St) (r : Nat) (f : Nat → Int64) : (setL σ r f).2 r = f := if_pos rfl
theorem setL_ne (σ : St) {r q : Nat} (f : Nat → Int64) (h : q ≠ r) : (setL σ r f).2 q = σ.2 q := if_neg h
theorem setL_1 (σ : St) (r : Nat) (f : Nat → Int64) : (setL σ r f).1 = σ.1 := rfl
theorem setR_same (σ : St) (r : Nat) : setR σ r (σ.1 r) = σ := by
  refine Prod.ext (funext fun q => ?_) rfl
  by_cases h : q = r
  · subst h; exact if_pos rfl
  · exact if_neg h
theorem setR_twice (σ : St) (r : Nat) (f f' : Nat → Int32) : setR (setR σ r f) r f' = setR σ r f' := by
  refine Prod.ext (funext fun q => ?_) rfl
  by_cases h : q = r
  · simp [setR, h]
  · simp [setR, h]
theorem setL_same (σ : St) (r : Nat) : setL σ r (σ.2 r) = σ := by
  refine Prod.ext rfl (funext fun q => ?_)
  by_cases h : q = r
  · subst h; exact if_pos rfl
  · exact if_neg h
theorem setL_twice (σ : St) (r : Nat) (f f' : Nat → Int64) : setL (setL σ r f) r f' = setL σ r f' := by
  refine Prod.ext rfl (funext fun q => ?_)
  by_cases h : q = r
  · simp [setL, h]
  · simp [setL, h]
theorem setR_comm (σ : St) {r q : Nat} (h : r ≠ q) (f f' : Nat → Int32) : setR (setR σ r f) q f' = setR (setR σ q f') r f := by
  refine Prod.ext (funext fun p => ?_) rfl
  by_cases h1 : p = r
  · subst h1; simp [setR, h]
  · simp [setR, h1]
theorem setRL (σ : St) (r q : Nat) (f : Nat → Int32) (f' : Nat → Int64) : setR (setL σ q f') r f = setL (setR σ r f) q f' := rfl
/-- a write of region r within [lo, hi) leaves a shape that is apart from that range as it was -/
theorem ent_off {g : Geo} {σ : St} {a : AE} {r : Nat} {f : Nat → Int32} (lo n : Nat) (hf : ∀ k, (k < lo ∨ lo + n ≤ k) → f k = σ.1 r k) (h : (rngs a).all (apartR (r, lo, n)) = true) : entOf g (setR σ r f) a = entOf g σ a := by
  have key : ∀ (q k : Nat), (q ≠ r ∨ (k < lo ∨ lo + n ≤ k)) → (setR σ r f).1 q k = σ.1 q k := by
    intro q k hk
    by_cases hq : q = r
    · subst hq
      rw [setR_at]
      exact hf k (hk.resolve_left (fun z => z rfl))
    · rw [setR_ne σ f hq]
  match a with
  | .inl q =>
    show Sum.inr (q.1, q.2.map _) = Sum.inr (q.1, q.2.map _)
    congr 2
    refine List.map_congr_left fun s hs => ?_
    match s with
    | .inl _ => rfl
    | .inr p =>
      show Value.int _ = Value.int _
      have h1 := List.all_eq_true.mp h (p.1, p.2, 1) (List.mem_filterMap.mpr ⟨_, hs, rfl⟩)
      simp only [apartR, Bool.or_eq_true, Bool.not_eq_true', beq_eq_false_iff_ne, Nat.ble_eq] at h1
      rw [key p.1 p.2 (by omega)]
  | .inr (.inl q) =>
    show Sum.inl (g.2.2 0, q.2.2, Sum.inl (rowI _ _ _ _)) = Sum.inl (g.2.2 0, q.2.2, Sum.inl (rowI _ _ _ _))
    have h1 := List.all_eq_true.mp h q (List.mem_singleton.mpr rfl)
    simp only [apartR, Bool.or_eq_true, Bool.not_eq_true', beq_eq_false_iff_ne, Nat.ble_eq] at h1
    have e : rowI (setR σ r f) q.1 q.2.1 q.2.2 = rowI σ q.1 q.2.1 q.2.2 := by
      funext i
      unfold rowI
      by_cases hi : i < q.2.2
      · rw [if_pos hi, if_pos hi]
        exact key _ _ (by omega)
      · rw [if_neg hi, if_neg hi]
    rw [e]
  | .inr (.inr (.inl q)) => rfl
  | .inr (.inr (.inr q)) => rfl
theorem ent_offL {g : Geo} {σ : St} {a : AE} {r : Nat} {f : Nat → Int64} (h : ∀ q, a = .inr (.inr (.inl q)) → q.1 ≠ r) : entOf g (setL σ r f) a = entOf g σ a := by
  match a with
  | .inl q => rfl
  | .inr (.inl q) => rfl
  | .inr (.inr (.inl q)) =>
    show Sum.inl (g.2.2 1, q.2, Sum.inr (Sum.inl (rowL _ _ _))) = Sum.inl (g.2.2 1, q.2, Sum.inr (Sum.inl (rowL _ _ _)))
    have e : rowL (setL σ r f) q.1 q.2 = rowL σ q.1 q.2 := by
      funext i
      unfold rowL
      rw [setL_ne σ f (h q rfl)]
    rw [e]
  | .inr (.inr (.inr q)) => rfl
theorem Pic.other {g : Geo} {σ σ' : St} {H H1 : Heap} {c : Nat} (h : Pic g σ H) (inj : ∀ i j, i < 86 → j < 86 → g.2.1 i = g.2.1 j → i = j) (hc : c < 86) (oq : ∀ q : Nat, q ≠ g.2.1 c → H1[q]? = H[q]?) (he : ∀ d a, SH[d]? = some a → d ≠ c → entOf g σ' a = entOf g σ a) (hs : ∀ a, SH[c]? = some a → va_at g.1 vwCl (g.2.1 c, entOf g σ' a) H1) : Pic g σ' H1 := by
  intro d a hd
  by_cases hdc : d = c
  · subst hdc; exact hs a hd
  · rw [he d a hd hdc]
    exact (h d a hd).kept (oq _ (fun z => hdc (inj d c (SH_lt hd) hc z)))
/-- writes into an int row -/
theorem Pic.rowI {g : Geo} {σ : St} {H H1 : Heap} {c r o n : Nat} {f : Nat → Int32} (h : Pic g σ H) (inj : ∀ i j, i < 86 → j < 86 → g.2.1 i = g.2.1 j → i = j) (hc : SH[c]? = some (.inr (.inl (r, o, n)))) (oq : ∀ q : Nat, q ≠ g.2.1 c → H1[q]? = H[q]?) (hf : ∀ k, (k < o ∨ o + n ≤ k) → f k = σ.1 r k) (hs : H1[g.2.1 c]? = some (vp_cell (g.2.2 0) (n, .inl (rowI (setR σ r f) r o n)))) : Pic g (setR σ r f) H1 := by
  refine h.other inj (SH_lt hc) oq (fun d a hd hne => ?_) (fun a ha => ?_)
  · exact ent_off o n hf (List.all_eq_true.mpr fun x hx => by
      have h1 := List.all_eq_true.mp (apart_of hc hd (Ne.symm hne)) (r, o, n) (List.mem_singleton.mpr rfl)
      exact List.all_eq_true.mp h1 x hx)
  · cases hc.symm.trans ha
    exact hs
theorem Pic.rowL {g : Geo} {σ : St} {H H1 : Heap} {c r n : Nat} {f : Nat → Int64} (h : Pic g σ H) (inj : ∀ i j, i < 86 → j < 86 → g.2.1 i = g.2.1 j → i = j) (hc : SH[c]? = some (.inr (.inr (.inl (r, n))))) (oq : ∀ q : Nat, q ≠ g.2.1 c → H1[q]? = H[q]?) (hs : H1[g.2.1 c]? = some (vp_cell (g.2.2 1) (n, .inr (.inl (rowL (setL σ r f) r n))))) : Pic g (setL σ r f) H1 := by
  refine h.other inj (SH_lt hc) oq (fun d a hd hne => ?_) (fun a ha => ?_)
  · exact ent_offL (fun q hq => by subst hq; exact apartL_of hd hc hne)
  · cases hc.symm.trans ha
    exact hs
theorem nodup_set {l : List (Nat ⊕ (Nat × Nat))} {a : Nat → Nat} {σ : St} {r k : Nat} {v : Int32} : ∀ {i : Nat}, nodupR (l.filterMap fun s => match s with
    | .inl _ => none
    | .inr p => some (p.1, p.2, 1)) = true → l[i]? = some (.inr (r, k)) → l.map (slv a (setR σ r (upd (σ.1 r) k v))) = (l.map (slv a σ)).set i (.int v) := by
  induction l with
  | nil => intro i _ h; simp at h
  | cons s l ih =>
    intro i hn hi
    have off : ∀ p : Nat × Nat, ¬ (p.1 = r ∧ p.2 = k) → slv a (setR σ r (upd (σ.1 r) k v)) (.inr p) = slv a σ (.inr p) := by
      intro p hp
      show Value.int _ = Value.int _
      congr 1
      by_cases hq : p.1 = r
      · rw [hq, setR_at]
        exact pk_un (fun z => hp ⟨hq, z⟩)
      · rw [setR_ne _ _ hq]
    cases i with
    | zero =>
      simp only [List.getElem?_cons_zero, Option.some.injEq] at hi
      subst hi
      simp only [List.filterMap_cons, nodupR, Bool.and_eq_true] at hn
      simp only [List.map_cons, List.set_cons_zero]
      congr 1
      · show Value.int _ = Value.int _
        congr 1
        rw [setR_at]
        exact pk_us
      · refine List.map_congr_left fun s hs => ?_
        match s with
        | .inl _ => rfl
        | .inr p =>
          refine off p (fun z => ?_)
          have h1 := List.all_eq_true.mp hn.1 (p.1, p.2, 1) (List.mem_filterMap.mpr ⟨_, hs, rfl⟩)
          simp only [apartR, Bool.or_eq_true, Bool.not_eq_true', beq_eq_false_iff_ne, Nat.ble_eq] at h1
          omega
    | succ i =>
      simp only [List.getElem?_cons_succ] at hi
      simp only [List.map_cons, List.set_cons_succ]
      match s with
      | .inl _ =>
        congr 1
        exact ih (by simpa [List.filterMap_cons] using hn) hi
      | .inr p =>
        simp only [List.filterMap_cons, nodupR, Bool.and_eq_true] at hn
        congr 1
        · refine off p (fun z => ?_)
          have h1 := List.all_eq_true.mp hn.1 (r, k, 1) (List.mem_filterMap.mpr ⟨_, List.mem_of_getElem? hi, rfl⟩)
          simp only [apartR, Bool.or_eq_true, Bool.not_eq_true', beq_eq_false_iff_ne, Nat.ble_eq] at h1
          omega
        · exact ih hn.2 hi
theorem Pic.slot {g : Geo} {σ : St} {H H1 : Heap} {c ci i r k : Nat} {sl : List (Nat ⊕ (Nat × Nat))} {v : Int32} (h : Pic g σ H) (inj : ∀ i j, i < 86 → j < 86 → g.2.1 i = g.2.1 j → i = j) (hc : SH[c]? = some (.inl (ci, sl))) (hi : sl[i]? = some (.inr (r, k))) (oq : ∀ q : Nat, q ≠ g.2.1 c → H1[q]? = H[q]?) (hs : va_at g.1 vwCl (g.2.1 c, .inr (ci, (sl.map (slv g.2.1 σ)).set i (.int v))) H1) : Pic g (setR σ r (upd (σ.1 r) k v)) H1 := by
  have hnd := List.all_eq_true.mp SH_nodup _ (List.mem_of_getElem? hc)
  refine h.other inj (SH_lt hc) oq (fun d a hd hne => ?_) (fun a ha => ?_)
  · refine ent_off k 1 (fun q hq => pk_un (by omega)) (List.all_eq_true.mpr fun x hx => ?_)
    have h1 := List.all_eq_true.mp (apart_of hc hd (Ne.symm hne)) (r, k, 1) (List.mem_filterMap.mpr ⟨_, List.mem_of_getElem? hi, rfl⟩)
    exact List.all_eq_true.mp h1 x hx
  · cases hc.symm.trans ha
    show va_at g.1 vwCl (g.2.1 c, .inr (ci, sl.map (slv g.2.1 (setR σ r (upd (σ.1 r) k v))))) H1
    rw [nodup_set hnd hi]
    exact hs
end
section
/-! THE MACHINE OVER THE WORLD: AW, one row an instruction; AMet, a method's contract: from state σ and these arguments it answers so, and the state is so -/
def STA : List (String × List Int32) :=
  [("ROCKS_BY_PACE", [0, 1, 1, 2, 2, 3, 6, 5, 3, 3]), ("HURTS_BY_GROUND", [0, 3, 4, 2, 3]), ("KIND_ABOVE", [-1, 0, 0, 0, 1, 1, 2]), ("TAKES_MORE", [0, 0, 0, -1, 0, 0, 3]), ("ROCKS_MORE", [0, 0, 0, 1, 0, 0, 0]), ("HURTS_TIMES", [1, 1, 2, 1, 1, 1, 2]), ("HOLDS_MORE", [0, 2, 3, 0, 2, 11, 3])]
def STW : List (String × List Int32) :=
  [("grass", [103, 114, 97, 115, 115]), ("bump", [98, 117, 109, 112]), ("thistle", [116, 104, 105, 115, 116, 108, 101]), ("turn", [116, 117, 114, 110]), ("slick", [115, 108, 105, 99, 107]), ("to", [116, 111]), ("pick", [112, 105, 99, 107]), ("runner", [114, 117, 110, 110, 101, 114]), ("steady", [115, 116, 101, 97, 100, 121]), ("looker", [108, 111, 111, 107, 101, 114]), ("rusher", [114, 117, 115, 104, 101, 114]), ("dancer", [100, 97, 110, 99, 101, 114]), ("gum", [103, 117, 109]), ("child", [99, 104, 105, 108, 100]), ("arm", [97, 114, 109]), ("spoon", [115, 112, 111, 111, 110]), ("pace", [112, 97, 99, 101])]
/-- the texts: whose, its number in the pool, which word -/
def STR : List (String × Nat × Nat) :=
  [("SpoonRace$Reader", 112, 0), ("SpoonRace$Reader", 114, 1), ("SpoonRace$Reader", 116, 2), ("SpoonRace$Reader", 118, 3), ("SpoonRace$Reader", 120, 4), ("SpoonRace$Reader", 67, 5), ("SpoonRace$Reader", 43, 6), ("SpoonRace$Reader", 122, 7), ("SpoonRace$Reader", 124, 8), ("SpoonRace$Reader", 126, 9), ("SpoonRace$Reader", 128, 10), ("SpoonRace$Reader", 130, 11), ("SpoonRace$Reader", 132, 12), ("SpoonRace$Reader", 134, 13), ("SpoonRace$Reader", 80, 14), ("SpoonRace$Reader", 82, 15), ("SpoonRace$Reader", 84, 16),
   ("SpoonRaceModel", 264, 0), ("SpoonRaceModel", 265, 1), ("SpoonRaceModel", 267, 2), ("SpoonRaceModel", 269, 3), ("SpoonRaceModel", 271, 4), ("SpoonRaceModel", 289, 5), ("SpoonRaceModel", 305, 6), ("SpoonRaceModel", 273, 7), ("SpoonRaceModel", 275, 8), ("SpoonRaceModel", 277, 9), ("SpoonRaceModel", 279, 10), ("SpoonRaceModel", 281, 11), ("SpoonRaceModel", 283, 12), ("SpoonRaceModel", 285, 13), ("SpoonRaceModel", 292, 14), ("SpoonRaceModel", 294, 15), ("SpoonRaceModel", 296, 16)]
def wordT (w : Nat) : String := (STW.getD w ("", [])).1
def wordB (w : Nat) : List Int32 := (STW.getD w ("", [])).2
def tysOf (g : Geo) : List (ClassId × FieldType) := [(g.2.2 0, .int), (g.2.2 1, .long), (g.2.2 2, .object "SpoonRace$Runner"), (g.2.2 3, .object "SpoonRace$Sheet")]
def GKt (g : Geo) (i : Nat) (q : String × List Int32) (U : State) (H : Heap) : Prop := va_Z "SpoonRace" q.1 "[I" (.ref (g.2.1 (100 + i))) (Aof g) U H ∧ va_T .int (g.2.1 (100 + i)) q.2.length (fun j => .int (q.2.getD j 0)) (Aof g) U H
def GKs (g : Geo) (i : Nat) (q : String × Nat × Nat) (U : State) (H : Heap) : Prop := vk_R q.1 q.2.1 (wordT q.2.2) (g.2.1 (200 + i)) U ∧ va_O "java/lang/String" (g.2.1 (200 + i)) (Aof g) U H ∧ va_OF "java/lang/String" "coder" "B" (.int 0) (g.2.1 (200 + i)) (Aof g) U H ∧ va_OF "java/lang/String" "value" "[B" (.ref (g.2.1 (300 + i))) (g.2.1 (200 + i)) (Aof g) U H ∧ va_T .byte (g.2.1 (300 + i)) (wordB q.2.2).length (fun j => .int ((wordB q.2.2).getD j 0)) (Aof g) U H
/-- private static rows of the nest, read by Runner: the pool's number, the name; the nest's private method, called by two -/
def NSF : List (Nat × String) := [(70, "HOLDS_MORE"), (55, "TAKES_MORE"), (58, "ROCKS_BY_PACE"), (61, "ROCKS_MORE"), (64, "HURTS_BY_GROUND"), (67, "HURTS_TIMES"), (52, "KIND_ABOVE")]
def NSM : List (String × Nat) := [("SpoonRace$Tape", 35), ("SpoonRace$Reader", 108)]
def wNSF (q : Nat × String) : Cond := .fieldLinkNest "SpoonRace$Runner" q.1 "SpoonRace" q.2 "[I" "SpoonRace"
def wNSM (q : String × Nat) : Cond := .methodLinkNest q.1 q.2 yX8_within "SpoonRace"
def zFmt (g : Geo) (U : State) (H : Heap) : Prop := va_Z "jdk/internal/util/Preconditions" "SIOOBE_FORMATTER" "Ljava/util/function/BiFunction;" .null (Aof g) U H ∨ va_Z "jdk/internal/util/Preconditions" "SIOOBE_FORMATTER" "Ljava/util/function/BiFunction;" (.ref (g.2.1 400)) (Aof g) U H
/-- what stays true of the machine around the world -/
def GK (g : Geo) (U : State) : Prop :=
  va_K g.1 vwCl (tysOf g) U ∧ (∀ i j, i < 86 → j < 86 → g.2.1 i = g.2.1 j → i = j) ∧ (∀ i q, STA[i]? = some q → GKt g i q U U.heap) ∧ va_Z "java/lang/String" "COMPACT_STRINGS" "Z" (.int 1) (Aof g) U U.heap ∧ (∀ i q, STR[i]? = some q → GKs g i q U U.heap) ∧ (∀ q ∈ NSF, va_Nw (wNSF q) U) ∧ (∀ q ∈ NSM, va_Nw (wNSM q) U) ∧ zFmt g U U.heap
theorem GK.moved {g : Geo} {s U : State} {H : Heap} {locs : List Loc} (h : GK g s) (hS : va_S (Aof g) s.heap H locs) (hU : U.heap = H) (hW : s.WarmedH U.vm) : GK g U := by
  obtain ⟨h1, h2, h3, h4, h5, h6, h7, h8⟩ := h
  have al := hW.alike
  have kp : ∀ a : Nat, a < s.heap.size → ¬ Aof g a → U.heap[a]? = s.heap[a]? := fun a q1 q2 => by rw [hU]; exact hS.2.1 a q1 q2
  exact ⟨va_K.moved al h1, h2, fun i q hq => ⟨((h3 i q hq).1.moved al).kept kp, ((h3 i q hq).2.moved al).kept kp⟩, (h4.moved al).kept kp, fun i q hq => by
    obtain ⟨a1, a2, a3, a4, a5⟩ := h5 i q hq
    exact ⟨a1.warm hW, (va_O.moved al a2).kept kp, (va_OF.moved al a3).kept kp, (va_OF.moved al a4).kept kp, (a5.moved al).kept kp⟩, fun q hq => va_Nw.warmF hW (h6 q hq), fun q hq => va_Nw.warmM hW (h7 q hq), h8.elim (fun z => Or.inl ((z.moved al).kept kp)) (fun z => Or.inr ((z.moved al).kept kp))⟩
theorem GK.calling {g : Geo} {U : State} (h : GK g U) (f : JFrame) (mk : MethodId) (a : Array Value) : GK g (U.calling f mk a) := by
  obtain ⟨h1, h2, h3, h4, h5, h6, h7, h8⟩ := h
  have al : U.vm.Alike (U.calling f mk a).vm := Vm.Alike.refl U.vm
  exact ⟨va_K.moved al h1, h2, fun i q hq => ⟨(h3 i q hq).1.moved al, (h3 i q hq).2.moved al⟩, h4.moved al, fun i q hq => by
    obtain ⟨a1, a2, a3, a4, a5⟩ := h5 i q hq
    exact ⟨a1.same rfl, va_O.moved al a2, va_OF.moved al a3, va_OF.moved al a4, a5.moved al⟩, fun q hq => va_Nw.same rfl rfl (h6 q hq), fun q hq => va_Nw.same rfl rfl (h7 q hq), h8.elim (fun z => Or.inl (z.moved al)) (fun z => Or.inr (z.moved al))⟩
/-- a method: name, code, locals, answer's type, level (how many frames may stand above it) -/
abbrev MI : Type := MethodName × ByteArray × Nat × Option FieldType × Nat
abbrev MI.lvl (Y : MI) : Nat := Y.2.2.2.2
def rmD (d : Nat) : Room := { frames := d, cells := 0, slots := 0, locals := 40 * d }
def WTb : List Cond := lw_tbl.filter goodWord
def WTs (Y : MI) : List Cond := .code Y.1 Y.2.1 Y.2.2.1 Y.2.2.2.1 :: WTb
theorem WT_mem {w : Cond} (h : w ∈ lw_tbl) (hg : goodWord w = true) : w ∈ WTb := List.mem_filter.mpr ⟨h, hg⟩
theorem goodIn_WT {Y : MI} {ws : List Cond} (h : ∀ w ∈ ws, w ∈ WTb) : GoodIn (WTs Y) ws := fun w hw => ⟨List.mem_cons_of_mem _ (h w hw), good_of_word (List.mem_filter.mp (h w hw)).2⟩
abbrev RZ : Type := Option Value × St
def QcOf (g : Geo) (Rz : RZ) : Array Value → State → Outcome → State → Prop := fun _ st oc t => oc = .returned (Rz.1.map (cv g.2.1)) ∧ Pic g Rz.2 t.heap ∧ va_F (Aof g) st t
def AMet (Y : MI) (av : List Value) (σ : St) (Rz : RZ) : Prop := ∀ (l : Launch) (g : Geo), Met l Y.1 (WTs Y) (rmD Y.lvl) (va_Pc (av.map (cv g.2.1)) (fun U => Pic g σ U.heap ∧ GK g U)) (QcOf g Rz) 0 0 (Aof g)
/-- an activation: program, launch, environment, state at the entry, method, arguments, frames below, method's and code's records, geometry -/
abbrev KT : Type := Program × Launch × Env × State × MethodId × Array Value × List Frame × Method × Code × Geo
abbrev KT.p (K : KT) : Program := K.1
abbrev KT.l (K : KT) : Launch := K.2.1
abbrev KT.e (K : KT) : Env := K.2.2.1
abbrev KT.s (K : KT) : State := K.2.2.2.1
abbrev KT.m (K : KT) : MethodId := K.2.2.2.2.1
abbrev KT.a (K : KT) : Array Value := K.2.2.2.2.2.1
abbrev KT.b (K : KT) : List Frame := K.2.2.2.2.2.2.1
abbrev KT.me (K : KT) : Method := K.2.2.2.2.2.2.2.1
abbrev KT.c (K : KT) : Code := K.2.2.2.2.2.2.2.2.1
abbrev KT.g (K : KT) : Geo := K.2.2.2.2.2.2.2.2.2
def Cx (Y : MI) (K : KT) : Prop := K.p.tables.exec = Jvm.exec ∧ K.c.code = Y.2.1 ∧ K.me.sig.returnType = Y.2.2.2.1 ∧ K.c.maxLocals = Y.2.2.1 ∧ K.s.vm.findClass Y.1.cls = some K.m.cls ∧ (∀ w ∈ WTs Y, w.before K.a K.s = true) ∧ K.me.locks = false ∧ GK K.g K.s
abbrev cvl (a : Nat → Nat) (lv : List (Nat × Value)) : List (Nat × Value) := lv.map fun q => (q.1, cv a q.2)
def AW (Y : MI) (K : KT) (Rz : RZ) (σ : St) (pc : Nat) (lv : List (Nat × Value)) (st : List Value) : Prop :=
  ∀ (H : Heap) (locs : List Loc) (ls : Array Slot), Pic K.g σ H → va_S (Aof K.g) K.s.heap H locs → lv_has ls Y.2.2.1 (cvl K.g.2.1 lv) → W K.p K.l K.e (rmD Y.lvl) K.s K.m K.a K.b K.me K.c H locs 0 0 (MQ K.b (QcOf K.g Rz) K.a K.s 0 0 (Aof K.g)) (F0 K.m pc ls (st.map (cv K.g.2.1)))
theorem cv_cat (a : Nat → Nat) (v : Value) : (cv a v).category = v.category := by cases v <;> rfl
theorem cv_args (a : Nat → Nat) : ∀ (vs : List Value) (i : Nat), lv_args i (vs.map (cv a)) = cvl a (lv_args i vs)
  | [], i => rfl
  | v :: vs, i => by
    simp only [List.map_cons, lv_args, cv_cat, cv_args a vs]
theorem cv_sl (a : Nat → Nat) (vs : List Value) : (lg_sl (vs.map (cv a))).length = (lg_sl vs).length := by
  induction vs with
  | nil => rfl
  | cons v vs ih =>
    simp only [lg_sl, List.map_cons, List.flatMap_cons, List.length_append, cv_cat] at ih ⊢
    rw [ih]
    by_cases h : v.category = 2 <;> simp [h]
theorem am_intro {Y : MI} {av : List Value} {σ : St} {Rz : RZ} (hy : plainName Y.1.cls = true) (hn : (lg_sl av).length ≤ Y.2.2.1) (h : ∀ K : KT, Cx Y K → AW Y K Rz σ 0 (lv_args 0 av) []) : AMet Y av σ Rz := by
  intro l g
  refine Met.ofW (cc := Y.2.1) (maxL := Y.2.2.1) (ret := Y.2.2.2.1) hy rfl ?_
  intro p e s m args below meth c s₁ B hml hv
  obtain ⟨rfl, hP, hG⟩ := hv
  have X := h (p, l, e, s, m, (av.map (cv g.2.1)).toArray, below, meth, c, g) ⟨B.exec, B.bytes, B.returns, hml, findClass_of_methodNamed B.named, atoms_spec (ws := WTs Y) B.pre, B.notSynchronized, hG⟩
  rw [lg_entry_eq]
  have hl := lv_entry (av.map (cv g.2.1)) (n := Y.2.2.1) (by rw [cv_sl]; exact hn)
  rw [cv_args] at hl
  exact X s.heap [] _ hP va_S.rf hl
section AWR
variable {Y : MI} {K : KT} {Rz : RZ} {σ : St} {pc : Nat} {lv : List (Nat × Value)} {st : List Value}
theorem aw_conv {σ' : St} {lv' : List (Nat × Value)} {st' : List Value} (h1 : σ = σ') (h2 : lv = lv') (h3 : st = st') (kk : AW Y K Rz σ' pc lv' st') : AW Y K Rz σ pc lv st := by subst h1; subst h2; subst h3; exact kk
theorem aw_iconst (C : Cx Y K) {n : Int} {v : Int32} (hd : decode Y.2.1 pc = .ok (.iconst n, 1)) (hv : Int32.ofInt n = v) (kk : AW Y K Rz σ (pc + 1) lv (.int v :: st)) : AW Y K Rz σ pc lv st := fun H locs ls hP hS hl => lv_iconst C.1 C.2.1 hd hv (kk H locs ls hP hS hl)
theorem aw_bipush (C : Cx Y K) {n : Int} {v : Int32} (hd : decode Y.2.1 pc = .ok (.bipush n, 2)) (hv : (Int8.ofInt n).toInt32 = v) (kk : AW Y K Rz σ (pc + 2) lv (.int v :: st)) : AW Y K Rz σ pc lv st := fun H locs ls hP hS hl => lv_bipush C.1 C.2.1 hd hv (kk H locs ls hP hS hl)
theorem aw_sipush (C : Cx Y K) {n : Int} {v : Int32} (hd : decode Y.2.1 pc = .ok (.sipush n, 3)) (hv : (Int16.ofInt n).toInt32 = v) (kk : AW Y K Rz σ (pc + 3) lv (.int v :: st)) : AW Y K Rz σ pc lv st := fun H locs ls hP hS hl => lv_sipush C.1 C.2.1 hd hv (kk H locs ls hP hS hl)
theorem aw_lconst (C : Cx Y K) {n : Fin 2} {v : Int64} (hd : decode Y.2.1 pc = .ok (.lconst n, 1)) (hv : Int64.ofNat (n : Nat) = v) (kk : AW Y K Rz σ (pc + 1) lv (.long v :: st)) : AW Y K Rz σ pc lv st := fun H locs ls hP hS hl => lv_lconst C.1 C.2.1 hd hv (kk H locs ls hP hS hl)
theorem cvl_at {a : Nat → Nat} {k i : Nat} {v : Value} (h : lv[k]? = some (i, v)) : (cvl a lv)[k]? = some (i, cv a v) := by rw [List.getElem?_map, h]; rfl
theorem aw_iload_n (C : Cx Y K) (k : Nat) {i : Fin 4} {x : Int32} (hd : decode Y.2.1 pc = .ok (.iload_n i, 1)) (hk : lv[k]? = some ((i : Nat), .int x)) (kk : AW Y K Rz σ (pc + 1) lv (.int x :: st)) : AW Y K Rz σ pc lv st := fun H locs ls hP hS hl => lv_iload_n C.1 C.2.1 hd rfl (lv_at hl k (cvl_at hk)) (kk H locs ls hP hS hl)
theorem aw_iload (C : Cx Y K) (k : Nat) {i : Nat} {x : Int32} (hd : decode Y.2.1 pc = .ok (.iload i, 2)) (hk : lv[k]? = some (i, .int x)) (kk : AW Y K Rz σ (pc + 2) lv (.int x :: st)) : AW Y K Rz σ pc lv st := fun H locs ls hP hS hl => lv_iload C.1 C.2.1 hd (lv_at hl k (cvl_at hk)) (kk H locs ls hP hS hl)
theorem aw_lload_n (C : Cx Y K) (k : Nat) {i : Fin 4} {x : Int64} (hd : decode Y.2.1 pc = .ok (.lload_n i, 1)) (hk : lv[k]? = some ((i : Nat), .long x)) (kk : AW Y K Rz σ (pc + 1) lv (.long x :: st)) : AW Y K Rz σ pc lv st := fun H locs ls hP hS hl => lv_lload_n C.1 C.2.1 hd rfl (lv_at hl k (cvl_at hk)) (kk H locs ls hP hS hl)
theorem aw_lload (C : Cx Y K) (k : Nat) {i : Nat} {x : Int64} (hd : decode Y.2.1 pc = .ok (.lload i, 2)) (hk : lv[k]? = some (i, .long x)) (kk : AW Y K Rz σ (pc + 2) lv (.long x :: st)) : AW Y K Rz σ pc lv st := fun H locs ls hP hS hl => lv_lload C.1 C.2.1 hd (lv_at hl k (cvl_at hk)) (kk H locs ls hP hS hl)
theorem aw_aload_n (C : Cx Y K) (k : Nat) {i : Fin 4} {x : Nat} (hd : decode Y.2.1 pc = .ok (.aload_n i, 1)) (hk : lv[k]? = some ((i : Nat), .ref x)) (kk : AW Y K Rz σ (pc + 1) lv (.ref x :: st)) : AW Y K Rz σ pc lv st := fun H locs ls hP hS hl => lv_aload_n C.1 C.2.1 hd rfl (lv_at hl k (cvl_at hk)) (kk H locs ls hP hS hl)
theorem aw_aload (C : Cx Y K) (k : Nat) {i : Nat} {x : Nat} (hd : decode Y.2.1 pc = .ok (.aload i, 2)) (hk : lv[k]? = some (i, .ref x)) (kk : AW Y K Rz σ (pc + 2) lv (.ref x :: st)) : AW Y K Rz σ pc lv st := fun H locs ls hP hS hl => lv_aload C.1 C.2.1 hd (lv_at hl k (cvl_at hk)) (kk H locs ls hP hS hl)
/-- the locals behind a store of one word at i, of two -/
def lvs1 (lv : List (Nat × Value)) (i : Nat) (v : Value) : List (Nat × Value) := (i, v) :: lv.filter (fun q => !(q.1 == i) && !(q.1 + 1 == i && q.2.category == 2))
def lvs2 (lv : List (Nat × Value)) (i : Nat) (v : Value) : List (Nat × Value) := (i, v) :: lv.filter (fun q => !(q.1 == i) && (!(q.1 == i + 1) && !(q.1 + 1 == i && q.2.category == 2)))
theorem cvl_s1 (a : Nat → Nat) (lv : List (Nat × Value)) (i : Nat) (v : Value) : (i, cv a v) :: (cvl a lv).filter (fun q => !(q.1 == i) && !(q.1 + 1 == i && q.2.category == 2)) = cvl a (lvs1 lv i v) := by
  simp only [lvs1, cvl, List.map_cons, List.filter_map]
  congr 2
  exact List.filter_congr (fun q _ => by simp [Function.comp, cv_cat])
theorem cvl_s2 (a : Nat → Nat) (lv : List (Nat × Value)) (i : Nat) (v : Value) : (i, cv a v) :: (cvl a lv).filter (fun q => !(q.1 == i) && (!(q.1 == i + 1) && !(q.1 + 1 == i && q.2.category == 2))) = cvl a (lvs2 lv i v) := by
  simp only [lvs2, cvl, List.map_cons, List.filter_map]
  congr 2
  exact List.filter_congr (fun q _ => by simp [Function.comp, cv_cat])
theorem aw_istore_n (C : Cx Y K) {i : Fin 4} {x : Int32} (lv' : List (Nat × Value)) (hd : decode Y.2.1 pc = .ok (.istore_n i, 1)) (hn : (i : Nat) < Y.2.2.1) (hl' : lvs1 lv i (.int x) = lv') (kk : AW Y K Rz σ (pc + 1) lv' st) : AW Y K Rz σ pc lv (.int x :: st) := fun H locs ls hP hS hl => lv_istore_n C.1 C.2.1 hd rfl hl hn (by rw [← hl']; exact cvl_s1 _ lv i (.int x)) (fun ls' h' => kk H locs ls' hP hS h')
theorem aw_istore (C : Cx Y K) {i : Nat} {x : Int32} (lv' : List (Nat × Value)) (hd : decode Y.2.1 pc = .ok (.istore i, 2)) (hn : i < Y.2.2.1) (hl' : lvs1 lv i (.int x) = lv') (kk : AW Y K Rz σ (pc + 2) lv' st) : AW Y K Rz σ pc lv (.int x :: st) := fun H locs ls hP hS hl => lv_istore C.1 C.2.1 hd hl hn (by rw [← hl']; exact cvl_s1 _ lv i (.int x)) (fun ls' h' => kk H locs ls' hP hS h')
theorem aw_astore_n (C : Cx Y K) {i : Fin 4} {x : Nat} (lv' : List (Nat × Value)) (hd : decode Y.2.1 pc = .ok (.astore_n i, 1)) (hn : (i : Nat) < Y.2.2.1) (hl' : lvs1 lv i (.ref x) = lv') (kk : AW Y K Rz σ (pc + 1) lv' st) : AW Y K Rz σ pc lv (.ref x :: st) := fun H locs ls hP hS hl => lv_astore_n C.1 C.2.1 hd rfl hl hn (by rw [← hl']; exact cvl_s1 _ lv i (.ref x)) (fun ls' h' => kk H locs ls' hP hS h')
theorem aw_astore (C : Cx Y K) {i : Nat} {x : Nat} (lv' : List (Nat × Value)) (hd : decode Y.2.1 pc = .ok (.astore i, 2)) (hn : i < Y.2.2.1) (hl' : lvs1 lv i (.ref x) = lv') (kk : AW Y K Rz σ (pc + 2) lv' st) : AW Y K Rz σ pc lv (.ref x :: st) := fun H locs ls hP hS hl => lv_astore C.1 C.2.1 hd hl hn (by rw [← hl']; exact cvl_s1 _ lv i (.ref x)) (fun ls' h' => kk H locs ls' hP hS h')
theorem aw_lstore (C : Cx Y K) {i : Nat} {x : Int64} (lv' : List (Nat × Value)) (hd : decode Y.2.1 pc = .ok (.lstore i, 2)) (hn : i + 1 < Y.2.2.1) (hl' : lvs2 lv i (.long x) = lv') (kk : AW Y K Rz σ (pc + 2) lv' st) : AW Y K Rz σ pc lv (.long x :: st) := fun H locs ls hP hS hl => lv_lstore C.1 C.2.1 hd hl hn (by rw [← hl']; exact cvl_s2 _ lv i (.long x)) (fun ls' h' => kk H locs ls' hP hS h')
theorem aw_iinc (C : Cx Y K) (k : Nat) {i : Nat} {n : Int} {x : Int32} (v : Int32) (lv' : List (Nat × Value)) (hd : decode Y.2.1 pc = .ok (.iinc i n, 3)) (hk : lv[k]? = some (i, .int x)) (hv : x + Int32.ofInt n = v) (hn : i < Y.2.2.1) (hl' : lvs1 lv i (.int v) = lv') (kk : AW Y K Rz σ (pc + 3) lv' st) : AW Y K Rz σ pc lv st := fun H locs ls hP hS hl => lv_iinc C.1 C.2.1 hd hl (cvl_at hk) hv hn (by rw [← hl']; exact cvl_s1 _ lv i (.int v)) (fun ls' h' => kk H locs ls' hP hS h')
theorem aw_iadd (C : Cx Y K) {x y : Int32} (hd : decode Y.2.1 pc = .ok (.iadd, 1)) (kk : AW Y K Rz σ (pc + 1) lv (.int (x + y) :: st)) : AW Y K Rz σ pc lv (.int y :: .int x :: st) := fun H locs ls hP hS hl => lv_iadd C.1 C.2.1 hd (kk H locs ls hP hS hl)
theorem aw_isub (C : Cx Y K) {x y : Int32} (hd : decode Y.2.1 pc = .ok (.isub, 1)) (kk : AW Y K Rz σ (pc + 1) lv (.int (x - y) :: st)) : AW Y K Rz σ pc lv (.int y :: .int x :: st) := fun H locs ls hP hS hl => lv_isub C.1 C.2.1 hd (kk H locs ls hP hS hl)
theorem aw_imul (C : Cx Y K) {x y : Int32} (hd : decode Y.2.1 pc = .ok (.imul, 1)) (kk : AW Y K Rz σ (pc + 1) lv (.int (x * y) :: st)) : AW Y K Rz σ pc lv (.int y :: .int x :: st) := fun H locs ls hP hS hl => lv_imul C.1 C.2.1 hd (kk H locs ls hP hS hl)
theorem aw_iand (C : Cx Y K) {x y : Int32} (hd : decode Y.2.1 pc = .ok (.iand, 1)) (kk : AW Y K Rz σ (pc + 1) lv (.int (x &&& y) :: st)) : AW Y K Rz σ pc lv (.int y :: .int x :: st) := fun H locs ls hP hS hl => lv_iand C.1 C.2.1 hd (kk H locs ls hP hS hl)
theorem aw_ior (C : Cx Y K) {x y : Int32} (hd : decode Y.2.1 pc = .ok (.ior, 1)) (kk : AW Y K Rz σ (pc + 1) lv (.int (x ||| y) :: st)) : AW Y K Rz σ pc lv (.int y :: .int x :: st) := fun H locs ls hP hS hl => lv_ior C.1 C.2.1 hd (kk H locs ls hP hS hl)
theorem aw_ishl (C : Cx Y K) {x y : Int32} (hd : decode Y.2.1 pc = .ok (.ishl, 1)) (kk : AW Y K Rz σ (pc + 1) lv (.int (x <<< (y &&& 31)) :: st)) : AW Y K Rz σ pc lv (.int y :: .int x :: st) := fun H locs ls hP hS hl => lv_ishl C.1 C.2.1 hd (kk H locs ls hP hS hl)
theorem aw_ishr (C : Cx Y K) {x y : Int32} (hd : decode Y.2.1 pc = .ok (.ishr, 1)) (kk : AW Y K Rz σ (pc + 1) lv (.int (x >>> (y &&& 31)) :: st)) : AW Y K Rz σ pc lv (.int y :: .int x :: st) := fun H locs ls hP hS hl => lv_ishr C.1 C.2.1 hd (kk H locs ls hP hS hl)
theorem aw_idiv (C : Cx Y K) {x y : Int32} (hd : decode Y.2.1 pc = .ok (.idiv, 1)) (hne : ¬ y = 0) (kk : AW Y K Rz σ (pc + 1) lv (.int (x / y) :: st)) : AW Y K Rz σ pc lv (.int y :: .int x :: st) := fun H locs ls hP hS hl => lv_idiv C.1 C.2.1 hd hne (kk H locs ls hP hS hl)
theorem aw_irem (C : Cx Y K) {x y : Int32} (hd : decode Y.2.1 pc = .ok (.irem, 1)) (hne : ¬ y = 0) (kk : AW Y K Rz σ (pc + 1) lv (.int (x - x / y * y) :: st)) : AW Y K Rz σ pc lv (.int y :: .int x :: st) := fun H locs ls hP hS hl => lv_irem C.1 C.2.1 hd hne (kk H locs ls hP hS hl)
theorem aw_ladd (C : Cx Y K) {x y : Int64} (hd : decode Y.2.1 pc = .ok (.ladd, 1)) (kk : AW Y K Rz σ (pc + 1) lv (.long (x + y) :: st)) : AW Y K Rz σ pc lv (.long y :: .long x :: st) := fun H locs ls hP hS hl => lv_ladd C.1 C.2.1 hd (kk H locs ls hP hS hl)
theorem aw_lmul (C : Cx Y K) {x y : Int64} (hd : decode Y.2.1 pc = .ok (.lmul, 1)) (kk : AW Y K Rz σ (pc + 1) lv (.long (x * y) :: st)) : AW Y K Rz σ pc lv (.long y :: .long x :: st) := fun H locs ls hP hS hl => lv_lmul C.1 C.2.1 hd (kk H locs ls hP hS hl)
theorem aw_ineg (C : Cx Y K) {x : Int32} (hd : decode Y.2.1 pc = .ok (.ineg, 1)) (kk : AW Y K Rz σ (pc + 1) lv (.int (-x) :: st)) : AW Y K Rz σ pc lv (.int x :: st) := fun H locs ls hP hS hl => lv_ineg C.1 C.2.1 hd (kk H locs ls hP hS hl)
theorem aw_iushr (C : Cx Y K) {x y : Int32} (hd : decode Y.2.1 pc = .ok (.iushr, 1)) (kk : AW Y K Rz σ (pc + 1) lv (.int ((x.toUInt32 >>> (y.toUInt32 &&& Int32.toUInt32 31)).toInt32) :: st)) : AW Y K Rz σ pc lv (.int y :: .int x :: st) := fun H locs ls hP hS hl => lv_iushr C.1 C.2.1 hd rfl (kk H locs ls hP hS hl)
theorem aw_i2l (C : Cx Y K) {x : Int32} (hd : decode Y.2.1 pc = .ok (.i2l, 1)) (kk : AW Y K Rz σ (pc + 1) lv (.long (x.toInt64) :: st)) : AW Y K Rz σ pc lv (.int x :: st) := fun H locs ls hP hS hl => lv_i2l C.1 C.2.1 hd rfl (kk H locs ls hP hS hl)
theorem aw_i2b (C : Cx Y K) {x : Int32} (hd : decode Y.2.1 pc = .ok (.i2b, 1)) (kk : AW Y K Rz σ (pc + 1) lv (.int (x.toInt8.toInt32) :: st)) : AW Y K Rz σ pc lv (.int x :: st) := fun H locs ls hP hS hl => lv_i2b C.1 C.2.1 hd rfl (kk H locs ls hP hS hl)
theorem aw_i2s (C : Cx Y K) {x : Int32} (hd : decode Y.2.1 pc = .ok (.i2s, 1)) (kk : AW Y K Rz σ (pc + 1) lv (.int (x.toInt16.toInt32) :: st)) : AW Y K Rz σ pc lv (.int x :: st) := fun H locs ls hP hS hl => lv_i2s C.1 C.2.1 hd rfl (kk H locs ls hP hS hl)
theorem aw_i2c (C : Cx Y K) {x : Int32} (hd : decode Y.2.1 pc = .ok (.i2c, 1)) (kk : AW Y K Rz σ (pc + 1) lv (.int ((x.toUInt32 % 65536).toInt32) :: st)) : AW Y K Rz σ pc lv (.int x :: st) := fun H locs ls hP hS hl => lv_i2c C.1 C.2.1 hd rfl (kk H locs ls hP hS hl)
theorem aw_lcmp (C : Cx Y K) {x y : Int64} (hd : decode Y.2.1 pc = .ok (.lcmp, 1)) (kk : AW Y K Rz σ (pc + 1) lv (.int (lg_cmp x y) :: st)) : AW Y K Rz σ pc lv (.long y :: .long x :: st) := fun H locs ls hP hS hl => W.lcmp C.1 C.2.1 hd (kk H locs ls hP hS hl)
theorem aw_dup (C : Cx Y K) {v : Value} (hd : decode Y.2.1 pc = .ok (.dup, 1)) (hv : v.category = 1) (kk : AW Y K Rz σ (pc + 1) lv (v :: v :: st)) : AW Y K Rz σ pc lv (v :: st) := fun H locs ls hP hS hl => lv_dup C.1 C.2.1 hd ((cv_cat _ v).trans hv) (kk H locs ls hP hS hl)
theorem aw_pop (C : Cx Y K) {v : Value} (hd : decode Y.2.1 pc = .ok (.pop, 1)) (hv : v.category = 1) (kk : AW Y K Rz σ (pc + 1) lv st) : AW Y K Rz σ pc lv (v :: st) := fun H locs ls hP hS hl => lv_pop C.1 C.2.1 hd ((cv_cat _ v).trans hv) (kk H locs ls hP hS hl)
theorem aw_dup2 (C : Cx Y K) {v w : Value} (hd : decode Y.2.1 pc = .ok (.dup2, 1)) (hv : v.category = 1) (hw : w.category = 1) (kk : AW Y K Rz σ (pc + 1) lv (v :: w :: v :: w :: st)) : AW Y K Rz σ pc lv (v :: w :: st) := fun H locs ls hP hS hl => lv_dup2_11 C.1 C.2.1 hd ((cv_cat _ v).trans hv) ((cv_cat _ w).trans hw) (kk H locs ls hP hS hl)
theorem aw_goto (C : Cx Y K) {off : Int} (tgt : Nat) (hd : decode Y.2.1 pc = .ok (.goto off, 3)) (ht : (pc : Int) + off = (tgt : Int)) (kk : AW Y K Rz σ tgt lv st) : AW Y K Rz σ pc lv st := fun H locs ls hP hS hl => lv_goto C.1 C.2.1 hd ht (kk H locs ls hP hS hl)
theorem aw_icmp_eq (C : Cx Y K) {x y : Int32} {off : Int} (tgt : Nat) (hd : decode Y.2.1 pc = .ok (.if_icmp .eq off, 3)) (ht : (pc : Int) + off = (tgt : Int)) (kt : x = y → AW Y K Rz σ tgt lv st) (kf : ¬ x = y → AW Y K Rz σ (pc + 3) lv st) : AW Y K Rz σ pc lv (.int y :: .int x :: st) := fun H locs ls hP hS hl => lv_icmp_eq C.1 C.2.1 hd ht (fun h => kt h H locs ls hP hS hl) (fun h => kf h H locs ls hP hS hl)
theorem aw_if_eq (C : Cx Y K) {x : Int32} {off : Int} (tgt : Nat) (hd : decode Y.2.1 pc = .ok (.ifCond .eq off, 3)) (ht : (pc : Int) + off = (tgt : Int)) (kt : x = 0 → AW Y K Rz σ tgt lv st) (kf : ¬ x = 0 → AW Y K Rz σ (pc + 3) lv st) : AW Y K Rz σ pc lv (.int x :: st) := fun H locs ls hP hS hl => lv_if_eq C.1 C.2.1 hd ht (fun h => kt h H locs ls hP hS hl) (fun h => kf h H locs ls hP hS hl)
theorem aw_icmp_ne (C : Cx Y K) {x y : Int32} {off : Int} (tgt : Nat) (hd : decode Y.2.1 pc = .ok (.if_icmp .ne off, 3)) (ht : (pc : Int) + off = (tgt : Int)) (kt : ¬ x = y → AW Y K Rz σ tgt lv st) (kf : x = y → AW Y K Rz σ (pc + 3) lv st) : AW Y K Rz σ pc lv (.int y :: .int x :: st) := fun H locs ls hP hS hl => lv_icmp_ne C.1 C.2.1 hd ht (fun h => kt h H locs ls hP hS hl) (fun h => kf h H locs ls hP hS hl)
theorem aw_if_ne (C : Cx Y K) {x : Int32} {off : Int} (tgt : Nat) (hd : decode Y.2.1 pc = .ok (.ifCond .ne off, 3)) (ht : (pc : Int) + off = (tgt : Int)) (kt : ¬ x = 0 → AW Y K Rz σ tgt lv st) (kf : x = 0 → AW Y K Rz σ (pc + 3) lv st) : AW Y K Rz σ pc lv (.int x :: st) := fun H locs ls hP hS hl => lv_if_ne C.1 C.2.1 hd ht (fun h => kt h H locs ls hP hS hl) (fun h => kf h H locs ls hP hS hl)
theorem aw_icmp_lt (C : Cx Y K) {x y : Int32} {off : Int} (tgt : Nat) (hd : decode Y.2.1 pc = .ok (.if_icmp .lt off, 3)) (ht : (pc : Int) + off = (tgt : Int)) (kt : x < y → AW Y K Rz σ tgt lv st) (kf : ¬ x < y → AW Y K Rz σ (pc + 3) lv st) : AW Y K Rz σ pc lv (.int y :: .int x :: st) := fun H locs ls hP hS hl => lv_icmp_lt C.1 C.2.1 hd ht (fun h => kt h H locs ls hP hS hl) (fun h => kf h H locs ls hP hS hl)
theorem aw_if_lt (C : Cx Y K) {x : Int32} {off : Int} (tgt : Nat) (hd : decode Y.2.1 pc = .ok (.ifCond .lt off, 3)) (ht : (pc : Int) + off = (tgt : Int)) (kt : x < 0 → AW Y K Rz σ tgt lv st) (kf : ¬ x < 0 → AW Y K Rz σ (pc + 3) lv st) : AW Y K Rz σ pc lv (.int x :: st) := fun H locs ls hP hS hl => lv_if_lt C.1 C.2.1 hd ht (fun h => kt h H locs ls hP hS hl) (fun h => kf h H locs ls hP hS hl)
theorem aw_icmp_ge (C : Cx Y K) {x y : Int32} {off : Int} (tgt : Nat) (hd : decode Y.2.1 pc = .ok (.if_icmp .ge off, 3)) (ht : (pc : Int) + off = (tgt : Int)) (kt : y ≤ x → AW Y K Rz σ tgt lv st) (kf : ¬ y ≤ x → AW Y K Rz σ (pc + 3) lv st) : AW Y K Rz σ pc lv (.int y :: .int x :: st) := fun H locs ls hP hS hl => lv_icmp_ge C.1 C.2.1 hd ht (fun h => kt h H locs ls hP hS hl) (fun h => kf h H locs ls hP hS hl)
theorem aw_if_ge (C : Cx Y K) {x : Int32} {off : Int} (tgt : Nat) (hd : decode Y.2.1 pc = .ok (.ifCond .ge off, 3)) (ht : (pc : Int) + off = (tgt : Int)) (kt : 0 ≤ x → AW Y K Rz σ tgt lv st) (kf : ¬ 0 ≤ x → AW Y K Rz σ (pc + 3) lv st) : AW Y K Rz σ pc lv (.int x :: st) := fun H locs ls hP hS hl => lv_if_ge C.1 C.2.1 hd ht (fun h => kt h H locs ls hP hS hl) (fun h => kf h H locs ls hP hS hl)
theorem aw_icmp_gt (C : Cx Y K) {x y : Int32} {off : Int} (tgt : Nat) (hd : decode Y.2.1 pc = .ok (.if_icmp .gt off, 3)) (ht : (pc : Int) + off = (tgt : Int)) (kt : y < x → AW Y K Rz σ tgt lv st) (kf : ¬ y < x → AW Y K Rz σ (pc + 3) lv st) : AW Y K Rz σ pc lv (.int y :: .int x :: st) := fun H locs ls hP hS hl => lv_icmp_gt C.1 C.2.1 hd ht (fun h => kt h H locs ls hP hS hl) (fun h => kf h H locs ls hP hS hl)
theorem aw_if_gt (C : Cx Y K) {x : Int32} {off : Int} (tgt : Nat) (hd : decode Y.2.1 pc = .ok (.ifCond .gt off, 3)) (ht : (pc : Int) + off = (tgt : Int)) (kt : 0 < x → AW Y K Rz σ tgt lv st) (kf : ¬ 0 < x → AW Y K Rz σ (pc + 3) lv st) : AW Y K Rz σ pc lv (.int x :: st) := fun H locs ls hP hS hl => lv_if_gt C.1 C.2.1 hd ht (fun h => kt h H locs ls hP hS hl) (fun h => kf h H locs ls hP hS hl)
theorem aw_icmp_le (C : Cx Y K) {x y : Int32} {off : Int} (tgt : Nat) (hd : decode Y.2.1 pc = .ok (.if_icmp .le off, 3)) (ht : (pc : Int) + off = (tgt : Int)) (kt : x ≤ y → AW Y K Rz σ tgt lv st) (kf : ¬ x ≤ y → AW Y K Rz σ (pc + 3) lv st) : AW Y K Rz σ pc lv (.int y :: .int x :: st) := fun H locs ls hP hS hl => lv_icmp_le C.1 C.2.1 hd ht (fun h => kt h H locs ls hP hS hl) (fun h => kf h H locs ls hP hS hl)
theorem aw_if_le (C : Cx Y K) {x : Int32} {off : Int} (tgt : Nat) (hd : decode Y.2.1 pc = .ok (.ifCond .le off, 3)) (ht : (pc : Int) + off = (tgt : Int)) (kt : x ≤ 0 → AW Y K Rz σ tgt lv st) (kf : ¬ x ≤ 0 → AW Y K Rz σ (pc + 3) lv st) : AW Y K Rz σ pc lv (.int x :: st) := fun H locs ls hP hS hl => lv_if_le C.1 C.2.1 hd ht (fun h => kt h H locs ls hP hS hl) (fun h => kf h H locs ls hP hS hl)
theorem aw_tableIn (C : Cx Y K) {dflt lo hi : Int} {offs : Array Int} {len : Nat} {x : Int32} {off : Int} (tgt : Nat) (hd : decode Y.2.1 pc = .ok (.tableswitch dflt lo hi offs, len)) (h1 : ¬ x.toInt < lo) (h2 : ¬ hi < x.toInt) (ho : offs[(x.toInt - lo).toNat]? = some off) (ht : (pc : Int) + off = (tgt : Int)) (kk : AW Y K Rz σ tgt lv st) : AW Y K Rz σ pc lv (.int x :: st) := fun H locs ls hP hS hl => lv_tableIn C.1 C.2.1 hd h1 h2 ho ht (kk H locs ls hP hS hl)
theorem aw_tableOut (C : Cx Y K) {dflt lo hi : Int} {offs : Array Int} {len : Nat} {x : Int32} (tgt : Nat) (hd : decode Y.2.1 pc = .ok (.tableswitch dflt lo hi offs, len)) (h : x.toInt < lo ∨ hi < x.toInt) (ht : (pc : Int) + dflt = (tgt : Int)) (kk : AW Y K Rz σ tgt lv st) : AW Y K Rz σ pc lv (.int x :: st) := fun H locs ls hP hS hl => lv_tableOut C.1 C.2.1 hd h ht (kk H locs ls hP hS hl)

theorem Cx.w (C : Cx Y K) {w : Cond} (h : w ∈ WTb) : w.before K.a K.s = true := C.2.2.2.2.2.1 w (List.mem_cons_of_mem _ h)
theorem aw_ldc (C : Cx Y K) {idx : Nat} {v : Int32} (hd : decode Y.2.1 pc = .ok (.ldc idx, 2)) (hw : Cond.constant Y.1.cls idx v ∈ WTb) (kk : AW Y K Rz σ (pc + 2) lv (.int v :: st)) : AW Y K Rz σ pc lv st := fun H locs ls hP hS hl => lv_ldc C.1 C.2.1 C.2.2.2.2.1 (C.w hw) hd (kk H locs ls hP hS hl)
theorem aw_ldcw (C : Cx Y K) {idx : Nat} {v : Int32} (hd : decode Y.2.1 pc = .ok (.ldc_w idx, 3)) (hw : Cond.constant Y.1.cls idx v ∈ WTb) (kk : AW Y K Rz σ (pc + 3) lv (.int v :: st)) : AW Y K Rz σ pc lv st := fun H locs ls hP hS hl => lv_ldcw C.1 C.2.1 C.2.2.2.2.1 (C.w hw) hd (kk H locs ls hP hS hl)
theorem aw_ldc2 (C : Cx Y K) {idx : Nat} {v : Int64} (hd : decode Y.2.1 pc = .ok (.ldc2_w idx, 3)) (hw : Cond.constantLong Y.1.cls idx v ∈ WTb) (kk : AW Y K Rz σ (pc + 3) lv (.long v :: st)) : AW Y K Rz σ pc lv st := fun H locs ls hP hS hl => lv_ldc2 C.1 C.2.1 C.2.2.2.2.1 (C.w hw) hd (kk H locs ls hP hS hl)
/-- the answer -/
theorem aw_iret (C : Cx Y K) {x y : Int32} {σ' : St} (hr : Y.2.2.2.1 = some .int) (hd : decode Y.2.1 pc = .ok (.ireturn, 1)) (hv : x = y) (hσ : σ = σ') : AW Y K (some (.int y), σ') σ pc lv [.int x] := by
  subst hv; subst hσ
  intro H locs ls hP hS hl
  exact W.iret C.1 C.2.1 (C.2.2.1.trans hr) (fun t ht hW => ⟨rfl, by rw [ht]; exact hP, hS.F ht⟩) hS.2.2 hd C.2.2.2.2.2.2.1
theorem aw_zret (C : Cx Y K) {x y : Int32} {σ' : St} {ty : FieldType} (hr : Y.2.2.2.1 = some ty) (hn : narrow ty (.int x) = .int x) (hd : decode Y.2.1 pc = .ok (.ireturn, 1)) (hv : x = y) (hσ : σ = σ') : AW Y K (some (.int y), σ') σ pc lv [.int x] := by
  subst hv; subst hσ
  intro H locs ls hP hS hl
  exact W.zret C.1 C.2.1 (C.2.2.1.trans hr) hn (fun t ht hW => ⟨rfl, by rw [ht]; exact hP, hS.F ht⟩) hS.2.2 hd C.2.2.2.2.2.2.1
theorem aw_lret (C : Cx Y K) {x y : Int64} {σ' : St} (hr : Y.2.2.2.1 = some .long) (hd : decode Y.2.1 pc = .ok (.lreturn, 1)) (hv : x = y) (hσ : σ = σ') : AW Y K (some (.long y), σ') σ pc lv [.long x] := by
  subst hv; subst hσ
  intro H locs ls hP hS hl
  exact W.lret C.1 C.2.1 (C.2.2.1.trans hr) (fun t ht hW => ⟨rfl, by rw [ht]; exact hP, hS.F ht⟩) hS.2.2 hd C.2.2.2.2.2.2.1
theorem aw_vret (C : Cx Y K) {σ' : St} (hr : Y.2.2.2.1 = none) (hd : decode Y.2.1 pc = .ok (.return_, 1)) (hσ : σ = σ') : AW Y K (none, σ') σ pc lv [] := by
  subst hσ
  intro H locs ls hP hS hl
  exact W.vret C.1 C.2.1 (C.2.2.1.trans hr) (fun t ht hW => ⟨rfl, by rw [ht]; exact hP, hS.F ht⟩) hS.2.2 hd C.2.2.2.2.2.2.1
theorem Pic.one {g : Geo} {H : Heap} (h : Pic g σ H) {c : Nat} {a : AE} (hc : SH[c]? = some a) : va_P g.1 vwCl [(g.2.1 c, entOf g σ a)] H := by
  intro k q hk
  cases k with
  | zero => cases hk; exact h c a hc
  | succ k => simp at hk
theorem SH_smallI {c r o n : Nat} (h : SH[c]? = some (.inr (.inl (r, o, n)))) : n < 1000 := by
  have h1 : SH.all (fun a => match a with
    | .inr (.inl q) => Nat.blt q.2.2 1000
    | _ => true) = true := by decide +kernel
  have h2 := List.all_eq_true.mp h1 _ (List.mem_of_getElem? h)
  simpa [Nat.blt_eq] using h2
theorem SH_smallL {c r n : Nat} (h : SH[c]? = some (.inr (.inr (.inl (r, n))))) : n < 1000 := by
  have h1 : SH.all (fun a => match a with
    | .inr (.inr (.inl q)) => Nat.blt q.2 1000
    | _ => true) = true := by decide +kernel
  have h2 := List.all_eq_true.mp h1 _ (List.mem_of_getElem? h)
  simpa [Nat.blt_eq] using h2
theorem SH_smallR {c t n b : Nat} (h : SH[c]? = some (.inr (.inr (.inr (t, n, b))))) : n < 1000 ∧ (t = 2 ∨ t = 3) := by
  have h1 : SH.all (fun a => match a with
    | .inr (.inr (.inr q)) => Nat.blt q.2.1 1000 && (q.1 == 2 || q.1 == 3)
    | _ => true) = true := by decide +kernel
  have h2 := List.all_eq_true.mp h1 _ (List.mem_of_getElem? h)
  simpa [Nat.blt_eq] using h2
theorem aw_iald (C : Cx Y K) {c r o n k : Nat} {i : Int32} (hc : SH[c]? = some (.inr (.inl (r, o, n)))) (hd : decode Y.2.1 pc = .ok (.iaload, 1)) (hi : i = nI k) (hk : k < n) (kk : AW Y K Rz σ (pc + 1) lv (.int (σ.1 r (k + o)) :: st)) : AW Y K Rz σ pc lv (.int i :: .ref c :: st) := by
  subst hi
  intro H locs ls hP hS hl
  have hs := SH_smallI hc
  have hin := vp_in_nI hk (show n < 2 ^ 31 by omega)
  have e : rowI σ r o n (nI k).toNatClampNeg = σ.1 r (k + o) := by rw [nI_clamp (by omega)]; exact if_pos hk
  refine va_iald (a := K.g.2.1 c) (f := rowI σ r o n) C.1 C.2.1 C.2.2.2.2.2.2.2.1 (hP.one hc) 0 0 rfl rfl hin hd ?_
  rw [e]
  exact kk H locs ls hP hS hl
theorem aw_lald (C : Cx Y K) {c r n k : Nat} {i : Int32} (hc : SH[c]? = some (.inr (.inr (.inl (r, n))))) (hd : decode Y.2.1 pc = .ok (.laload, 1)) (hi : i = nI k) (hk : k < n) (kk : AW Y K Rz σ (pc + 1) lv (.long (σ.2 r k) :: st)) : AW Y K Rz σ pc lv (.int i :: .ref c :: st) := by
  subst hi
  intro H locs ls hP hS hl
  have hs := SH_smallL hc
  have hin := vp_in_nI hk (show n < 2 ^ 31 by omega)
  have e : rowL σ r n (nI k).toNatClampNeg = σ.2 r k := by rw [nI_clamp (by omega)]; exact if_pos hk
  refine va_lald (a := K.g.2.1 c) (f := rowL σ r n) C.1 C.2.1 C.2.2.2.2.2.2.2.1 (hP.one hc) 0 1 rfl rfl hin hd ?_
  rw [e]
  exact kk H locs ls hP hS hl
theorem aw_aald (C : Cx Y K) {c t n b k : Nat} {i : Int32} (hc : SH[c]? = some (.inr (.inr (.inr (t, n, b))))) (hd : decode Y.2.1 pc = .ok (.aaload, 1)) (hi : i = nI k) (hk : k < n) (kk : AW Y K Rz σ (pc + 1) lv (.ref (b + 2 * k) :: st)) : AW Y K Rz σ pc lv (.int i :: .ref c :: st) := by
  subst hi
  intro H locs ls hP hS hl
  obtain ⟨hs, ht⟩ := SH_smallR hc
  have hin := vp_in_nI hk (show n < 2 ^ 31 by omega)
  have e : va_rf ((fun i => if i < n then some (K.g.2.1 (b + 2 * i)) else none) (nI k).toNatClampNeg) = .ref (K.g.2.1 (b + 2 * k)) := by
    rw [nI_clamp (by omega)]
    show va_rf (if k < n then _ else _) = _
    rw [if_pos hk]; rfl
  rcases ht with rfl | rfl
  · refine va_aldq (a := K.g.2.1 c) (f := fun i => if i < n then some (K.g.2.1 (b + 2 * i)) else none) (C := "SpoonRace$Runner") C.1 C.2.1 C.2.2.2.2.2.2.2.1 (hP.one hc) 0 2 rfl rfl hin hd ?_
    rw [e]
    exact kk H locs ls hP hS hl
  · refine va_aldq (a := K.g.2.1 c) (f := fun i => if i < n then some (K.g.2.1 (b + 2 * i)) else none) (C := "SpoonRace$Sheet") C.1 C.2.1 C.2.2.2.2.2.2.2.1 (hP.one hc) 0 3 rfl rfl hin hd ?_
    rw [e]
    exact kk H locs ls hP hS hl
theorem aw_alenI (C : Cx Y K) {c r o n : Nat} (hc : SH[c]? = some (.inr (.inl (r, o, n)))) (hd : decode Y.2.1 pc = .ok (.arraylength, 1)) (kk : AW Y K Rz σ (pc + 1) lv (.int (nI n) :: st)) : AW Y K Rz σ pc lv (.ref c :: st) := fun H locs ls hP hS hl =>
  va_alen (a := K.g.2.1 c) (ty := .int) C.1 C.2.1 C.2.2.2.2.2.2.2.1 (hP.one hc) 0 0 rfl rfl rfl hd (kk H locs ls hP hS hl)
theorem aw_alenL (C : Cx Y K) {c r n : Nat} (hc : SH[c]? = some (.inr (.inr (.inl (r, n))))) (hd : decode Y.2.1 pc = .ok (.arraylength, 1)) (kk : AW Y K Rz σ (pc + 1) lv (.int (nI n) :: st)) : AW Y K Rz σ pc lv (.ref c :: st) := fun H locs ls hP hS hl =>
  va_alen (a := K.g.2.1 c) (ty := .long) C.1 C.2.1 C.2.2.2.2.2.2.2.1 (hP.one hc) 0 1 rfl rfl rfl hd (kk H locs ls hP hS hl)
theorem Aof_in {g : Geo} {c : Nat} {a : AE} (hc : SH[c]? = some a) : Aof g (g.2.1 c) := ⟨c, SH_lt hc, rfl⟩
theorem aw_iast (C : Cx Y K) {c r o n k : Nat} {i x : Int32} (hc : SH[c]? = some (.inr (.inl (r, o, n)))) (hd : decode Y.2.1 pc = .ok (.iastore, 1)) (hi : i = nI k) (hk : k < n) (kk : AW Y K Rz (setR σ r (upd (σ.1 r) (k + o) x)) (pc + 1) lv st) : AW Y K Rz σ pc lv (.int x :: .int i :: .ref c :: st) := by
  subst hi
  intro H locs ls hP hS hl
  have hs := SH_smallI hc
  have hin := vp_in_nI hk (show n < 2 ^ 31 by omega)
  refine W.iast C.1 C.2.1 (hP c _ hc) ((C.2.2.2.2.2.2.2.1.2 0 _ rfl).1 n (fun j => .int (rowI σ r o n j))) (fun q => by cases q) (by show ¬ (nI k < 0 ∨ (arrV _ _ _).slots.size ≤ _); rw [arrV_size]; exact hin) rfl rfl hd fun H1 e z oq => ?_
  refine kk H1 _ ls (hP.rowI C.2.2.2.2.2.2.2.2.1 hc oq (fun q hq => pk_un (by omega)) ?_) (hS.put z oq (Aof_in hc)) hl
  refine e.trans ?_
  show some ((vp_cell (K.g.2.2 0) (n, .inl (rowI σ r o n))).setSlot (nI k).toNatClampNeg (.int x)) = some (vp_cell (K.g.2.2 0) (n, .inl (rowI (setR σ r (upd (σ.1 r) (k + o) x)) r o n)))
  rw [vp_cell_i, vp_cell_i, arrV_store, nI_clamp (by omega)]
  congr 2
  funext q
  by_cases hq : q = k
  · subst hq
    simp [updV, rowI, hk, setR_at, upd]
  · simp [updV, rowI, setR_at, upd, hq]
theorem aw_last (C : Cx Y K) {c r n k : Nat} {i : Int32} {x : Int64} (hc : SH[c]? = some (.inr (.inr (.inl (r, n))))) (hd : decode Y.2.1 pc = .ok (.lastore, 1)) (hi : i = nI k) (hk : k < n) (kk : AW Y K Rz (setL σ r (vp_updL (σ.2 r) k x)) (pc + 1) lv st) : AW Y K Rz σ pc lv (.long x :: .int i :: .ref c :: st) := by
  subst hi
  intro H locs ls hP hS hl
  have hs := SH_smallL hc
  have hin := vp_in_nI hk (show n < 2 ^ 31 by omega)
  refine W.last C.1 C.2.1 (hP c _ hc) ((C.2.2.2.2.2.2.2.1.2 1 _ rfl).1 n (fun j => .long (rowL σ r n j))) (fun q => by cases q) (by show ¬ (nI k < 0 ∨ (arrV _ _ _).slots.size ≤ _); rw [arrV_size]; exact hin) rfl rfl hd fun H1 e z oq => ?_
  refine kk H1 _ ls (hP.rowL C.2.2.2.2.2.2.2.2.1 hc oq ?_) (hS.put z oq (Aof_in hc)) hl
  refine e.trans ?_
  show some ((vp_cell (K.g.2.2 1) (n, .inr (.inl (rowL σ r n)))).setSlot (nI k).toNatClampNeg (.long x)) = some (vp_cell (K.g.2.2 1) (n, .inr (.inl (rowL (setL σ r (vp_updL (σ.2 r) k x)) r n))))
  rw [vp_cell_l, vp_cell_l, arrV_store, nI_clamp (by omega)]
  congr 2
  funext q
  by_cases hq : q = k
  · subst hq
    simp [updV, rowL, hk, setL_at, vp_updL]
  · simp [updV, rowL, setL_at, vp_updL, hq]
end AWR
end
section
theorem t1_in {w : Cond} (h : w ∈ tables_1_1) : w ∈ lw_tbl := List.mem_append_right _ (List.mem_append_left _ h)
theorem t2_in {w : Cond} (h : w ∈ tables_1_2) : w ∈ lw_tbl := List.mem_append_right _ (List.mem_append_right _ (List.mem_append_left _ h))
theorem t3_in {w : Cond} (h : w ∈ tables_1_3) : w ∈ lw_tbl := List.mem_append_right _ (List.mem_append_right _ (List.mem_append_right _ (List.mem_append_left _ h)))
theorem t4_in {w : Cond} (h : w ∈ tables_1_4) : w ∈ lw_tbl := List.mem_append_right _ (List.mem_append_right _ (List.mem_append_right _ (List.mem_append_right _ (List.mem_append_left _ h))))
theorem t5_in {w : Cond} (h : w ∈ tables_1_5) : w ∈ lw_tbl := List.mem_append_right _ (List.mem_append_right _ (List.mem_append_right _ (List.mem_append_right _ (List.mem_append_right _ (List.mem_append_left _ h)))))
theorem t6_in {w : Cond} (h : w ∈ tables_1_6) : w ∈ lw_tbl := List.mem_append_right _ (List.mem_append_right _ (List.mem_append_right _ (List.mem_append_right _ (List.mem_append_right _ (List.mem_append_right _ h)))))
theorem pv_in {w : Cond} (h : w ∈ k2_sels lw_privs) : w ∈ lw_tbl := List.mem_append_left _ h
theorem ciX0 : ∀ w ∈ u_ws RX0 TX0 2, w ∈ WTb := List.forall_mem_cons.mpr ⟨(WT_mem (t1_in (List.mem_of_getElem? (i := 139) rfl)) rfl), List.forall_mem_cons.mpr ⟨(WT_mem (t1_in (List.mem_of_getElem? (i := 141) rfl)) rfl), fun _ h => absurd h List.not_mem_nil⟩⟩
theorem ciX1 : ∀ w ∈ u_ws RX1 TX1 3, w ∈ WTb := List.forall_mem_cons.mpr ⟨(WT_mem (t1_in (List.mem_of_getElem? (i := 124) rfl)) rfl), List.forall_mem_cons.mpr ⟨(WT_mem (t1_in (List.mem_of_getElem? (i := 126) rfl)) rfl), List.forall_mem_cons.mpr ⟨(WT_mem (t1_in (List.mem_of_getElem? (i := 128) rfl)) rfl), fun _ h => absurd h List.not_mem_nil⟩⟩⟩
theorem ciX2 : ∀ w ∈ u_ws RX2 TX2 6, w ∈ WTb := List.forall_mem_cons.mpr ⟨(WT_mem (t1_in (List.mem_of_getElem? (i := 102) rfl)) rfl), List.forall_mem_cons.mpr ⟨(WT_mem (t1_in (List.mem_of_getElem? (i := 104) rfl)) rfl), List.forall_mem_cons.mpr ⟨(WT_mem (t1_in (List.mem_of_getElem? (i := 106) rfl)) rfl), List.forall_mem_cons.mpr ⟨(WT_mem (t1_in (List.mem_of_getElem? (i := 108) rfl)) rfl), List.forall_mem_cons.mpr ⟨(WT_mem (t1_in (List.mem_of_getElem? (i := 110) rfl)) rfl), List.forall_mem_cons.mpr ⟨(WT_mem (t1_in (List.mem_of_getElem? (i := 112) rfl)) rfl), fun _ h => absurd h List.not_mem_nil⟩⟩⟩⟩⟩⟩
theorem ciX3 : ∀ w ∈ u_ws RX3 TX3 1, w ∈ WTb := List.forall_mem_cons.mpr ⟨(WT_mem (t1_in (List.mem_of_getElem? (i := 198) rfl)) rfl), fun _ h => absurd h List.not_mem_nil⟩
theorem ciX4 : ∀ w ∈ u_ws RX4 TX4 8, w ∈ WTb := List.forall_mem_cons.mpr ⟨(WT_mem (t1_in (List.mem_of_getElem? (i := 61) rfl)) rfl), List.forall_mem_cons.mpr ⟨(WT_mem (t1_in (List.mem_of_getElem? (i := 63) rfl)) rfl), List.forall_mem_cons.mpr ⟨(WT_mem (t1_in (List.mem_of_getElem? (i := 65) rfl)) rfl), List.forall_mem_cons.mpr ⟨(WT_mem (t1_in (List.mem_of_getElem? (i := 67) rfl)) rfl), List.forall_mem_cons.mpr ⟨(WT_mem (t1_in (List.mem_of_getElem? (i := 69) rfl)) rfl), List.forall_mem_cons.mpr ⟨(WT_mem (t1_in (List.mem_of_getElem? (i := 71) rfl)) rfl), List.forall_mem_cons.mpr ⟨(WT_mem (t1_in (List.mem_of_getElem? (i := 73) rfl)) rfl), List.forall_mem_cons.mpr ⟨(WT_mem (t1_in (List.mem_of_getElem? (i := 75) rfl)) rfl), fun _ h => absurd h List.not_mem_nil⟩⟩⟩⟩⟩⟩⟩⟩
theorem ciX5 : ∀ w ∈ u_ws RX5 TX5 3, w ∈ WTb := List.forall_mem_cons.mpr ⟨(WT_mem (t1_in (List.mem_of_getElem? (i := 214) rfl)) rfl), List.forall_mem_cons.mpr ⟨(WT_mem (t1_in (List.mem_of_getElem? (i := 216) rfl)) rfl), List.forall_mem_cons.mpr ⟨(WT_mem (t1_in (List.mem_of_getElem? (i := 218) rfl)) rfl), fun _ h => absurd h List.not_mem_nil⟩⟩⟩
theorem ciX6 : ∀ w ∈ u_ws RX6 TX6 6, w ∈ WTb := List.forall_mem_cons.mpr ⟨(WT_mem (t1_in (List.mem_of_getElem? (i := 183) rfl)) rfl), List.forall_mem_cons.mpr ⟨(WT_mem (t1_in (List.mem_of_getElem? (i := 185) rfl)) rfl), List.forall_mem_cons.mpr ⟨(WT_mem (t1_in (List.mem_of_getElem? (i := 187) rfl)) rfl), List.forall_mem_cons.mpr ⟨(WT_mem (t1_in (List.mem_of_getElem? (i := 189) rfl)) rfl), List.forall_mem_cons.mpr ⟨(WT_mem (t1_in (List.mem_of_getElem? (i := 191) rfl)) rfl), List.forall_mem_cons.mpr ⟨(WT_mem (t1_in (List.mem_of_getElem? (i := 193) rfl)) rfl), fun _ h => absurd h List.not_mem_nil⟩⟩⟩⟩⟩⟩
theorem ciX7 : ∀ w ∈ u_ws RX7 TX7 3, w ∈ WTb := List.forall_mem_cons.mpr ⟨(WT_mem (t1_in (List.mem_of_getElem? (i := 155) rfl)) rfl), List.forall_mem_cons.mpr ⟨(WT_mem (t1_in (List.mem_of_getElem? (i := 157) rfl)) rfl), List.forall_mem_cons.mpr ⟨(WT_mem (t1_in (List.mem_of_getElem? (i := 159) rfl)) rfl), fun _ h => absurd h List.not_mem_nil⟩⟩⟩
theorem ciX8 : ∀ w ∈ u_ws RX8 TX8 11, w ∈ WTb := List.forall_mem_cons.mpr ⟨(WT_mem (t1_in (List.mem_of_getElem? (i := 232) rfl)) rfl), List.forall_mem_cons.mpr ⟨(WT_mem (t1_in (List.mem_of_getElem? (i := 234) rfl)) rfl), List.forall_mem_cons.mpr ⟨(WT_mem (t1_in (List.mem_of_getElem? (i := 236) rfl)) rfl), List.forall_mem_cons.mpr ⟨(WT_mem (t1_in (List.mem_of_getElem? (i := 238) rfl)) rfl), List.forall_mem_cons.mpr ⟨(WT_mem (t2_in (List.mem_of_getElem? (i := 0) rfl)) rfl), List.forall_mem_cons.mpr ⟨(WT_mem (t2_in (List.mem_of_getElem? (i := 2) rfl)) rfl), List.forall_mem_cons.mpr ⟨(WT_mem (t2_in (List.mem_of_getElem? (i := 4) rfl)) rfl), List.forall_mem_cons.mpr ⟨(WT_mem (t2_in (List.mem_of_getElem? (i := 6) rfl)) rfl), List.forall_mem_cons.mpr ⟨(WT_mem (t2_in (List.mem_of_getElem? (i := 8) rfl)) rfl), List.forall_mem_cons.mpr ⟨(WT_mem (t2_in (List.mem_of_getElem? (i := 10) rfl)) rfl), List.forall_mem_cons.mpr ⟨(WT_mem (t2_in (List.mem_of_getElem? (i := 12) rfl)) rfl), fun _ h => absurd h List.not_mem_nil⟩⟩⟩⟩⟩⟩⟩⟩⟩⟩⟩
theorem ciX9 : ∀ w ∈ u_ws RX9 TX9 19, w ∈ WTb := List.forall_mem_cons.mpr ⟨(WT_mem (t4_in (List.mem_of_getElem? (i := 180) rfl)) rfl), List.forall_mem_cons.mpr ⟨(WT_mem (t4_in (List.mem_of_getElem? (i := 182) rfl)) rfl), List.forall_mem_cons.mpr ⟨(WT_mem (t4_in (List.mem_of_getElem? (i := 184) rfl)) rfl), List.forall_mem_cons.mpr ⟨(WT_mem (t4_in (List.mem_of_getElem? (i := 186) rfl)) rfl), List.forall_mem_cons.mpr ⟨(WT_mem (t4_in (List.mem_of_getElem? (i := 188) rfl)) rfl), List.forall_mem_cons.mpr ⟨(WT_mem (t4_in (List.mem_of_getElem? (i := 190) rfl)) rfl), List.forall_mem_cons.mpr ⟨(WT_mem (t4_in (List.mem_of_getElem? (i := 192) rfl)) rfl), List.forall_mem_cons.mpr ⟨(WT_mem (t4_in (List.mem_of_getElem? (i := 194) rfl)) rfl), List.forall_mem_cons.mpr ⟨(WT_mem (t4_in (List.mem_of_getElem? (i := 196) rfl)) rfl), List.forall_mem_cons.mpr ⟨(WT_mem (t4_in (List.mem_of_getElem? (i := 198) rfl)) rfl), List.forall_mem_cons.mpr ⟨(WT_mem (t4_in (List.mem_of_getElem? (i := 200) rfl)) rfl), List.forall_mem_cons.mpr ⟨(WT_mem (t4_in (List.mem_of_getElem? (i := 202) rfl)) rfl), List.forall_mem_cons.mpr ⟨(WT_mem (t4_in (List.mem_of_getElem? (i := 204) rfl)) rfl), List.forall_mem_cons.mpr ⟨(WT_mem (t4_in (List.mem_of_getElem? (i := 206) rfl)) rfl), List.forall_mem_cons.mpr ⟨(WT_mem (t4_in (List.mem_of_getElem? (i := 208) rfl)) rfl), List.forall_mem_cons.mpr ⟨(WT_mem (t4_in (List.mem_of_getElem? (i := 210) rfl)) rfl), List.forall_mem_cons.mpr ⟨(WT_mem (t4_in (List.mem_of_getElem? (i := 212) rfl)) rfl), List.forall_mem_cons.mpr ⟨(WT_mem (t4_in (List.mem_of_getElem? (i := 214) rfl)) rfl), List.forall_mem_cons.mpr ⟨(WT_mem (t4_in (List.mem_of_getElem? (i := 216) rfl)) rfl), fun _ h => absurd h List.not_mem_nil⟩⟩⟩⟩⟩⟩⟩⟩⟩⟩⟩⟩⟩⟩⟩⟩⟩⟩⟩
theorem cls_in {ci : Nat} {C : String} {T : u_T} {N : Nat} (h : vwCl[ci]? = some (C, T, N)) : ∀ w ∈ u_ws C T N, w ∈ WTb := by
  match ci, h with
  | 0, h => cases h; exact ciX0
  | 1, h => cases h; exact ciX1
  | 2, h => cases h; exact ciX2
  | 3, h => cases h; exact ciX3
  | 4, h => cases h; exact ciX4
  | 5, h => cases h; exact ciX5
  | 6, h => cases h; exact ciX6
  | 7, h => cases h; exact ciX7
  | 8, h => cases h; exact ciX8
  | 9, h => cases h; exact ciX9
  | k + 10, h => simp [vwCl] at h
end
section
/-! rows that touch objects, static rows, texts; calls -/
/-- a field's link: class own's pool number idx is field k of class ci -/
def FL (own : String) (idx ci k : Nat) : Prop := ∃ q : vw_C, vwCl[ci]? = some q ∧ k < q.2.2 ∧ Cond.fieldLink own idx (q.2.1 k).1 (q.2.1 k).2.1 (q.2.1 k).2.2.1 ∈ WTb
def FP (own : String) (idx ci k : Nat) (ty : FieldType) : Prop := ∃ q : vw_C, vwCl[ci]? = some q ∧ k < q.2.2 ∧ Cond.fieldLink own idx (q.2.1 k).1 (q.2.1 k).2.1 (q.2.1 k).2.2.1 ∈ WTb ∧ (q.2.1 k).2.2.2 = false ∧ parseFieldDescriptor (q.2.1 k).2.2.1 = some ty
theorem cls_ty {ci : Nat} {q : vw_C} (h : vwCl[ci]? = some q) : ∃ ty0 : Nat → FieldType, (∀ k, k < q.2.2 → parseFieldDescriptor (q.2.1 k).2.2.1 = some (ty0 k)) ∧ ∀ a, a < q.2.2 → ∀ b, b < q.2.2 → a ≠ b → (q.2.1 a).2.1 ≠ (q.2.1 b).2.1 := by
  match ci, h with
  | 0, h => cases h; exact ⟨tyX0, tyX0_ok, nmX0⟩
  | 1, h => cases h; exact ⟨tyX1, tyX1_ok, nmX1⟩
  | 2, h => cases h; exact ⟨tyX2, tyX2_ok, nmX2⟩
  | 3, h => cases h; exact ⟨tyX3, tyX3_ok, nmX3⟩
  | 4, h => cases h; exact ⟨tyX4, tyX4_ok, nmX4⟩
  | 5, h => cases h; exact ⟨tyX5, tyX5_ok, nmX5⟩
  | 6, h => cases h; exact ⟨tyX6, tyX6_ok, nmX6⟩
  | 7, h => cases h; exact ⟨tyX7, tyX7_ok, nmX7⟩
  | 8, h => cases h; exact ⟨tyX8, tyX8_ok, nmX8⟩
  | 9, h => cases h; exact ⟨tyX9, tyX9_ok, nmX9⟩
  | k + 10, h => simp [vwCl] at h
section AWO
variable {Y : MI} {K : KT} {Rz : RZ} {σ : St} {pc : Nat} {lv : List (Nat × Value)} {st : List Value}
theorem Cx.hts (C : Cx Y K) : ∀ w ∈ WTb, w.before K.a K.s = true := fun w h => C.w h
theorem aw_getV (C : Cx Y K) {c ci k idx : Nat} {sl : List (Nat ⊕ (Nat × Nat))} {z : Nat ⊕ (Nat × Nat)} (hf : FL Y.1.cls idx ci k) (hc : SH[c]? = some (.inl (ci, sl))) (hs : sl[k]? = some z) (hd : decode Y.2.1 pc = .ok (.getfield idx, 3)) {v : Value} (hv : ∀ a, slv a σ z = cv a v) (kk : AW Y K Rz σ (pc + 3) lv (v :: st)) : AW Y K Rz σ pc lv (.ref c :: st) := by
  obtain ⟨⟨Cn, T, N⟩, h1, h2, h3⟩ := hf
  intro H locs ls hP hS hl
  refine va_get (D := K.g.1) (cl := vwCl) (a := K.g.2.1 c) (C := Cn) (T := T) (N := N) (ci := ci) (ref := (T k).1) (fs := sl.map (slv K.g.2.1 σ)) (v := cv K.g.2.1 v) (Ts := WTb) C.1 C.2.1 C.hts (cls_in h1) C.2.2.2.2.1 C.2.2.2.2.2.2.2.1 (hP.one hc) 0 rfl h1 k h2 (C.w h3) (fun _ h9 => h9) ?_ hd (kk H locs ls hP hS hl)
  rw [List.getElem?_map, hs]
  exact congrArg some (hv _)
theorem aw_getI (C : Cx Y K) {c ci k idx r i : Nat} {sl : List (Nat ⊕ (Nat × Nat))} (hf : FL Y.1.cls idx ci k) (hc : SH[c]? = some (.inl (ci, sl))) (hs : sl[k]? = some (.inr (r, i))) (hd : decode Y.2.1 pc = .ok (.getfield idx, 3)) (kk : AW Y K Rz σ (pc + 3) lv (.int (σ.1 r i) :: st)) : AW Y K Rz σ pc lv (.ref c :: st) := aw_getV C hf hc hs hd (v := .int (σ.1 r i)) (fun _ => rfl) kk
theorem aw_getR (C : Cx Y K) {c ci k idx b : Nat} {sl : List (Nat ⊕ (Nat × Nat))} (hf : FL Y.1.cls idx ci k) (hc : SH[c]? = some (.inl (ci, sl))) (hs : sl[k]? = some (.inl b)) (hd : decode Y.2.1 pc = .ok (.getfield idx, 3)) (kk : AW Y K Rz σ (pc + 3) lv (.ref b :: st)) : AW Y K Rz σ pc lv (.ref c :: st) := aw_getV C hf hc hs hd (v := .ref b) (fun _ => rfl) kk
theorem aw_putV (C : Cx Y K) {c ci k idx r i : Nat} {sl : List (Nat ⊕ (Nat × Nat))} {ty : FieldType} {v : Int32} (hf : FP Y.1.cls idx ci k ty) (hc : SH[c]? = some (.inl (ci, sl))) (hs : sl[k]? = some (.inr (r, i))) (hn : narrow ty (.int v) = .int v) (hfit : fits ty (.int v) = true) (hd : decode Y.2.1 pc = .ok (.putfield idx, 3)) (kk : AW Y K Rz (setR σ r (upd (σ.1 r) i v)) (pc + 3) lv st) : AW Y K Rz σ pc lv (.int v :: .ref c :: st) := by
  obtain ⟨⟨Cn, T, N⟩, hcl, hk, hlink, hfin, hty⟩ := hf
  intro H locs ls hP hS hl
  obtain ⟨ty0, t1, t2⟩ := cls_ty hcl
  have hG := C.2.2.2.2.2.2.2
  have hap := va_apart (own := Y.1.cls) (s := K.s) (args := K.a) (C := Cn) (T := T) (N := N) (ci := ci) C.hts (cls_in hcl) ty0 t1 t2 hG.1 hcl
  obtain ⟨q, h1, cell, q1, q2, q3, q4⟩ := hP c _ hc
  have hr : q = (Cn, T, N) := Option.some.inj (h1.symm.trans hcl)
  subst hr
  obtain ⟨hSl, hfc, kC, hkC, hkind⟩ := hG.1.1 ci _ hcl
  obtain ⟨cf, kf, fi, f, hi, hsl⟩ := hSl k hk
  have hlay := C.w (cls_in hcl _ (u_in_lay hk))
  unfold u_lay at hlay
  rw [if_neg (by rw [hfin]; decide)] at hlay
  have hst := (u_facts hfc hkC (u_lays C.hts (cls_in hcl) hk) hi).1
  have h6 := u_store hfc hkC hkind hlay hi hty hn hfit
  have hlen : k < (sl.map (slv K.g.2.1 σ)).length := by rw [List.length_map]; exact (List.getElem?_eq_some_iff.mp hs).1
  refine W.putK C.1 C.2.1 (f := f) ⟨C.2.2.2.2.1, C.w hlink, ⟨_, _, _, hi⟩, hst⟩ (by rw [q2]; exact h6) q1 q3 (by rw [hsl]; exact k2_hasslot (q4 k hk)) rfl rfl hd fun H' e1 e2 e3 => ?_
  rw [hsl] at e1 ⊢
  exact kk H' _ ls (hP.slot hG.2.1 hc hs e3 ⟨_, hcl, t_OB.to (V := updV (vp_V (sl.map (slv K.g.2.1 σ))) k (.int v)) ⟨_, e1, q2, q3, t_set q4 hap hk (.int v)⟩ (fun j _ => vp_updV_set hlen (.int v) j)⟩) (hS.put e2 e3 (Aof_in hc)) hl
theorem aw_put (C : Cx Y K) {c ci k idx r i : Nat} {sl : List (Nat ⊕ (Nat × Nat))} {v : Int32} (hf : FP Y.1.cls idx ci k .int) (hc : SH[c]? = some (.inl (ci, sl))) (hs : sl[k]? = some (.inr (r, i))) (hd : decode Y.2.1 pc = .ok (.putfield idx, 3)) (kk : AW Y K Rz (setR σ r (upd (σ.1 r) i v)) (pc + 3) lv st) : AW Y K Rz σ pc lv (.int v :: .ref c :: st) := aw_putV C hf hc hs rfl rfl hd kk
/-- a static row of the nest -/
theorem aw_getst (C : Cx Y K) {i idx : Nat} {q : String × List Int32} (hy : Y.1.cls = "SpoonRace$Runner") (hq : STA[i]? = some q) (hm : (idx, q.1) ∈ NSF) (hd : decode Y.2.1 pc = .ok (.getstatic idx, 3)) (kk : AW Y K Rz σ (pc + 3) lv (.ref (100 + i) :: st)) : AW Y K Rz σ pc lv st := by
  intro H locs ls hP hS hl
  have hG := C.2.2.2.2.2.2.2
  exact va_getsN C.1 C.2.1 (hG.2.2.1 i q hq).1 hS (by have := C.2.2.2.2.1; rw [hy] at this; exact this) (va_Nw.use rfl (hG.2.2.2.2.2.1 _ hm)) (fun _ h => h) hd (kk H locs ls hP hS hl)
theorem aw_ialdT (C : Cx Y K) {i k : Nat} {q : String × List Int32} {x : Int32} (hq : STA[i]? = some q) (hd : decode Y.2.1 pc = .ok (.iaload, 1)) (hx : x = nI k) (hk : k < q.2.length) (kk : AW Y K Rz σ (pc + 1) lv (.int (q.2.getD k 0) :: st)) : AW Y K Rz σ pc lv (.int x :: .ref (100 + i) :: st) := by
  subst hx
  intro H locs ls hP hS hl
  have hG := C.2.2.2.2.2.2.2
  obtain ⟨cell, h1, h2, h3, h4, h5, h6, h7⟩ := ((hG.2.2.1 i q hq).2).kept hS.2.1
  have hL : q.2.length < 100 := by
    have e : STA.all (fun q => Nat.blt q.2.length 100) = true := by decide +kernel
    have := List.all_eq_true.mp e _ (List.mem_of_getElem? hq)
    simpa [Nat.blt_eq] using this
  refine W.iald (v := .int (q.2.getD k 0)) C.1 C.2.1 h1 h2 h3 (fun z => ?_) ?_ rfl rfl hd (kk H locs ls hP hS hl)
  · rcases z with z | z
    · exact nI_pos (by omega) z
    · rw [nI_clamp (by omega)] at z; omega
  · rw [nI_clamp (by omega)]; exact h6 k hk
/-- calls -/
def LnkC (Z : MI) (n : Nat) : Prop := Cond.code Z.1 Z.2.1 Z.2.2.1 Z.2.2.2.1 ∈ WTb ∧ Cond.initialized Z.1.cls ∈ WTb ∧ (Z.1.cls ≠ "java/lang/invoke/MethodHandle" ∧ Z.1.cls ≠ "java/lang/invoke/VarHandle" ∧ (parseMethodDescriptor Z.1.desc).map (fun d => d.parameters.length) = some n) ∧ Z.2.2.1 ≤ 21
def LnkV (own : String) (idx : Nat) (Z : MI) (n : Nat) : Prop := LnkC Z n ∧ Cond.methodLink own idx Z.1 ∈ WTb ∧ Cond.instanceMethod Z.1 ∈ WTb ∧ Cond.selects Z.1.cls Z.1 Z.1 ∈ WTb
def LnkS (own : String) (idx : Nat) (Z : MI) (n : Nat) : Prop := LnkC Z n ∧ Cond.methodLink own idx Z.1 ∈ WTb ∧ Cond.static Z.1 ∈ WTb
theorem mem4 {w a b c d : Cond} {l : List Cond} (h : w ∈ ([a, b, c, d] : List Cond) ++ l) : w = a ∨ w = b ∨ w = c ∨ w = d ∨ w ∈ l := by simpa using h
theorem WTs_sub {Z : MI} (h : Cond.code Z.1 Z.2.1 Z.2.2.1 Z.2.2.2.1 ∈ WTb) : ∀ w ∈ WTs Z, w ∈ WTb := fun w hw => (List.mem_cons.mp hw).elim (fun e => e ▸ h) id
/-- what a call needs and gives, whatever its kind -/
theorem aw_of_run {σ' : St} {v : Option Value} {rest : List Value} {stk : List Value} {ay : Array Value} (hr : ∀ (H : Heap) (locs : List Loc) (ls : Array Slot), Pic K.g σ H → va_S (Aof K.g) K.s.heap H locs → lv_has ls Y.2.2.1 (cvl K.g.2.1 lv) → va_Run K.p K.l K.e (rmD Y.lvl) K.s K.m K.a K.b K.me K.c H locs 0 0 0 0 (F0 K.m pc ls (stk.map (cv K.g.2.1))) (rest.map (cv K.g.2.1)) (QcOf K.g (v, σ') ay) (Aof K.g)) (kk : AW Y K Rz σ' (pc + 3) lv (v.toList ++ rest)) : AW Y K Rz σ pc lv stk := by
  intro H locs ls hP hS hl T hT X
  obtain ⟨w, st₀, t, T', L, h0, X', hL, e1, e2, ⟨hv, hP', hF⟩, go⟩ := hr H locs ls hP hS hl T hT X
  cases Outcome.returned.inj hv
  rw [va_F, h0] at hF
  have hS' : va_S (Aof K.g) K.s.heap t.heap (locs ++ L) := ⟨Nat.le_trans hS.1 hF.1, fun q g1 g2 => by rw [hF.2 q (Nat.lt_of_lt_of_le g1 hS.1) g2]; exact hS.2.1 q g1 g2, fun q hq => by
    rcases List.mem_append.mp hq with h | h
    · exact hS.2.2 q h
    · exact hL q h⟩
  obtain ⟨t2, a1, b1⟩ := kk t.heap (locs ++ L) ls hP' hS' hl T' e1 X'
  refine ⟨t2, go t2 ?_, b1⟩
  have e : ((v.toList ++ rest).map (cv K.g.2.1)) = (v.map (cv K.g.2.1)).toList ++ rest.map (cv K.g.2.1) := by cases v <;> rfl
  rw [e] at a1
  exact a1
theorem room_ok {st' : List Value} {a : Nat → Nat} (h : (st'.map fun v => v.category).sum ≤ 8) : ((st'.map (cv a)).map fun v => v.category).sum ≤ 8 := by
  rw [List.map_map, show (fun v : Value => v.category) ∘ cv a = fun v => v.category from funext fun v => cv_cat a v]
  exact h
theorem pre_blind {g : Geo} {av : List Value} : FrameBlind (va_Pc av (fun U => Pic g σ U.heap ∧ GK g U)) := fun a U f mk q => ⟨q.1, q.2.1, q.2.2.calling f mk a⟩
theorem rm_ok {Z : MI} {d n : Nat} (h : LnkC Z n) (hd : Z.lvl + 1 ≤ d) : (rmD Z.lvl).frames + 1 ≤ (rmD d).frames ∧ 8 + (Z.2.2.1 + 11) + (rmD Z.lvl).locals ≤ (rmD d).locals := ⟨hd, by
  have := h.2.2.2
  show 8 + (Z.2.2.1 + 11) + 40 * Z.lvl ≤ 40 * d
  omega⟩
theorem aw_callV (C : Cx Y K) {Z : MI} {idx n b ci : Nat} {sl : List (Nat ⊕ (Nat × Nat))} {As rest : List Value} {v : Option Value} {σ' : St} (hM : AMet Z (.ref b :: As) σ (v, σ')) (hL : LnkV Y.1.cls idx Z n) (hb : SH[b]? = some (.inl (ci, sl))) (hc : (vwCl[ci]?).map (fun q => q.1) = some Z.1.cls) (hlv : Z.lvl + 1 ≤ Y.lvl) (hn : As.length = n) (hroom : (rest.map fun v => v.category).sum ≤ 8) (hd : decode Y.2.1 pc = .ok (.invokevirtual idx, 3)) {stk : List Value} (hst : stk = As.reverse ++ .ref b :: rest) (kk : AW Y K Rz σ' (pc + 3) lv (v.toList ++ rest)) : AW Y K Rz σ pc lv stk := by
  subst hst
  obtain ⟨hC, w1, w2, w3⟩ := hL
  have hG := C.2.2.2.2.2.2.2
  obtain ⟨q, hq, hq2⟩ : ∃ q, vwCl[ci]? = some q ∧ q.1 = Z.1.cls := by
    cases h : vwCl[ci]? with
    | none => rw [h] at hc; cases hc
    | some q => rw [h] at hc; exact ⟨q, rfl, Option.some.inj hc⟩
  refine aw_of_run (rest := rest) (v := v) (σ' := σ') (ay := (Value.ref (K.g.2.1 b) :: As.map (cv K.g.2.1)).toArray) (fun H locs ls hP hS hl => ?_) kk
  refine va_runV (Ts := WTs Y) (C := Z.1.cls) (As := As.map (cv K.g.2.1)) (b := K.g.2.1 b) (rest := rest.map (cv K.g.2.1)) ⟨C.1, C.2.1, C.2.2.2.1, C.2.2.2.2.1, C.2.2.2.2.2.1⟩ (hM K.l K.g) (cwV n C.2.2.2.2.2.1 (goodIn_WT (fun w hw => ?_)) rfl rfl rfl ⟨rfl, hC.2.2.1⟩ (rm_ok hC hlv)) ⟨pre_blind, ?_, fun U hU hW => ⟨by simp [cv], by rw [hU]; exact hP, hG.moved hS hU hW⟩⟩ rfl (by rw [List.length_map]; exact hn) hl.1 ?_ (lv_room (room_ok hroom)) hd ⟨Nat.zero_le _, Nat.zero_le _⟩
  · rcases mem4 hw with rfl | rfl | rfl | rfl | h
    · exact w1
    · exact w2
    · exact w3
    · exact hC.2.1
    · exact WTs_sub hC.1 w h
  · have := va_recv hG.1 (hP.one hb) (ci := ci) (q0 := 0) hq rfl
    rw [hq2] at this
    exact this
  · simp [cv]
theorem aw_callS (C : Cx Y K) {Z : MI} {idx n : Nat} {As rest : List Value} {v : Option Value} {σ' : St} (hM : AMet Z As σ (v, σ')) (hL : LnkS Y.1.cls idx Z n) (hlv : Z.lvl + 1 ≤ Y.lvl) (hn : As.length = n) (hroom : (rest.map fun v => v.category).sum ≤ 8) (hd : decode Y.2.1 pc = .ok (.invokestatic idx, 3)) {stk : List Value} (hst : stk = As.reverse ++ rest) (kk : AW Y K Rz σ' (pc + 3) lv (v.toList ++ rest)) : AW Y K Rz σ pc lv stk := by
  subst hst
  obtain ⟨hC, w1, w2⟩ := hL
  have hG := C.2.2.2.2.2.2.2
  refine aw_of_run (rest := rest) (v := v) (σ' := σ') (ay := (As.map (cv K.g.2.1)).toArray) (fun H locs ls hP hS hl => ?_) kk
  refine va_runS (Ts := WTs Y) (As := As.map (cv K.g.2.1)) (rest := rest.map (cv K.g.2.1)) ⟨C.1, C.2.1, C.2.2.2.1, C.2.2.2.2.1, C.2.2.2.2.2.1⟩ (hM K.l K.g) (va_cwS n C.2.2.2.2.2.1 (goodIn_WT (fun w hw => ?_)) rfl rfl rfl hC.2.2.1 (rm_ok hC hlv)) ⟨pre_blind, fun U hU hW => ⟨rfl, by rw [hU]; exact hP, hG.moved hS hU hW⟩⟩ rfl (by rw [List.length_map]; exact hn) hl.1 ?_ (lv_room (room_ok hroom)) hd ⟨Nat.zero_le _, Nat.zero_le _⟩
  · rcases List.mem_append.mp hw with h | h
    · simp only [List.mem_cons, List.not_mem_nil, or_false] at h
      rcases h with rfl | rfl | rfl
      · exact w1
      · exact w2
      · exact hC.2.1
    · exact WTs_sub hC.1 w h
  · simp
/-- a nest mate's private static method -/
theorem aw_callN (C : Cx Y K) {d : Nat} {idx : Nat} {As rest : List Value} {v : Option Value} {σ' : St} (hM : AMet (yX8_within, cX8_within, 3, some .boolean, d) As σ (v, σ')) (hm : (Y.1.cls, idx) ∈ NSM) (hC : LnkC (yX8_within, cX8_within, 3, some .boolean, d) 3) (hs : Cond.static yX8_within ∈ WTb) (hlv : d + 1 ≤ Y.lvl) (hn : As.length = 3) (hroom : (rest.map fun v => v.category).sum ≤ 8) (hd : decode Y.2.1 pc = .ok (.invokestatic idx, 3)) {stk : List Value} (hst : stk = As.reverse ++ rest) (kk : AW Y K Rz σ' (pc + 3) lv (v.toList ++ rest)) : AW Y K Rz σ pc lv stk := by
  subst hst
  have hG := C.2.2.2.2.2.2.2
  refine aw_of_run (rest := rest) (v := v) (σ' := σ') (ay := (As.map (cv K.g.2.1)).toArray) (fun H locs ls hP hS hl => ?_) kk
  refine va_runSN (Ts := WTs Y) (host := "SpoonRace") (As := As.map (cv K.g.2.1)) (rest := rest.map (cv K.g.2.1)) ⟨C.1, C.2.1, C.2.2.2.1, C.2.2.2.2.1, C.2.2.2.2.2.1⟩ (hM K.l K.g) ⟨va_cnB 3 C.2.2.2.2.2.1 (goodIn_WT (WTs_sub hC.1)) rfl rfl rfl (hG.2.2.2.2.2.2.1 _ hm) (C.w hC.2.1) hC.2.2.1 (rm_ok hC hlv), C.w hs, trivial⟩ ⟨pre_blind, fun U hU hW => ⟨rfl, by rw [hU]; exact hP, hG.moved hS hU hW⟩⟩ rfl (by rw [List.length_map]; exact hn) hl.1 (by simp) (lv_room (room_ok hroom)) hd ⟨Nat.zero_le _, Nat.zero_le _⟩
end AWO
end
section
abbrev Y_J0_charAt_5068e : MI := (yJ0_charAt_5068e, cJ0_charAt_5068e, 2, (some .char), 4)
abbrev Y_J0_checkIndex_df160 : MI := (yJ0_checkIndex_df160, cJ0_checkIndex_df160, 2, none, 1)
abbrev Y_J0_coder_7d493 : MI := (yJ0_coder_7d493, cJ0_coder_7d493, 1, (some .byte), 0)
abbrev Y_J0_isLatin1_aae02 : MI := (yJ0_isLatin1_aae02, cJ0_isLatin1_aae02, 1, (some .boolean), 0)
abbrev Y_J0_length_8abf5 : MI := (yJ0_length_8abf5, cJ0_length_8abf5, 1, (some .int), 1)
abbrev Y_J1_charAt_3b067 : MI := (yJ1_charAt_3b067, cJ1_charAt_3b067, 2, (some .char), 2)
abbrev Y_J2_charAt_3b067 : MI := (yJ2_charAt_3b067, cJ2_charAt_3b067, 2, (some .char), 3)
abbrev Y_J2_checkIndex_2214a : MI := (yJ2_checkIndex_2214a, cJ2_checkIndex_2214a, 2, none, 2)
abbrev Y_J2_getChar_3b067 : MI := (yJ2_getChar_3b067, cJ2_getChar_3b067, 2, (some .char), 1)
abbrev Y_J2_length_9d52b : MI := (yJ2_length_9d52b, cJ2_length_9d52b, 1, (some .int), 0)
abbrev Y_J3_checkIndex_8e157 : MI := (yJ3_checkIndex_8e157, cJ3_checkIndex_8e157, 3, (some .int), 0)
abbrev Y_J6_bitCount_0f7a4 : MI := (yJ6_bitCount_0f7a4, cJ6_bitCount_0f7a4, 1, (some .int), 0)
abbrev Y_J7_fill_53178 : MI := (yJ7_fill_53178, cJ7_fill_53178, 4, none, 0)
abbrev Y_J7_fill_d0a16 : MI := (yJ7_fill_d0a16, cJ7_fill_d0a16, 5, none, 0)
abbrev Y_J9_abs_0f7a4 : MI := (yJ9_abs_0f7a4, cJ9_abs_0f7a4, 1, (some .int), 0)
abbrev Y_J9_max_7cf53 : MI := (yJ9_max_7cf53, cJ9_max_7cf53, 2, (some .int), 0)
abbrev Y_J9_min_7cf53 : MI := (yJ9_min_7cf53, cJ9_min_7cf53, 2, (some .int), 0)
abbrev Y_X0_init : MI := (yX0_init, cX0_init, 1, none, 1)
abbrev Y_X0_ofDrops : MI := (yX0_ofDrops, cX0_ofDrops, 10, (some .long), 2)
abbrev Y_X0_spread : MI := (yX0_spread, cX0_spread, 8, none, 1)
abbrev Y_X1_atBest : MI := (yX1_atBest, cX1_atBest, 9, (some .int), 4)
abbrev Y_X1_atPaces : MI := (yX1_atPaces, cX1_atPaces, 9, (some .int), 3)
abbrev Y_X1_bestPace : MI := (yX1_bestPace, cX1_bestPace, 9, (some .int), 3)
abbrev Y_X1_chosenPace : MI := (yX1_chosenPace, cX1_chosenPace, 3, (some .int), 0)
abbrev Y_X1_goBack : MI := (yX1_goBack, cX1_goBack, 1, none, 1)
abbrev Y_X1_init : MI := (yX1_init, cX1_init, 1, none, 1)
abbrev Y_X1_through : MI := (yX1_through, cX1_through, 9, (some .int), 2)
abbrev Y_X2_add : MI := (yX2_add, cX2_add, 4, (some .int), 2)
abbrev Y_X2_become : MI := (yX2_become, cX2_become, 3, none, 2)
abbrev Y_X2_countDrops : MI := (yX2_countDrops, cX2_countDrops, 3, (some .int), 0)
abbrev Y_X2_countGrass : MI := (yX2_countGrass, cX2_countGrass, 3, (some .int), 0)
abbrev Y_X2_countHolding : MI := (yX2_countHolding, cX2_countHolding, 3, (some .int), 0)
abbrev Y_X2_draw : MI := (yX2_draw, cX2_draw, 1, (some .int), 0)
abbrev Y_X2_go : MI := (yX2_go, cX2_go, 5, (some .int), 4)
abbrev Y_X2_homeSet : MI := (yX2_homeSet, cX2_homeSet, 3, (some .int), 1)
abbrev Y_X2_init : MI := (yX2_init, cX2_init, 2, none, 2)
abbrev Y_X2_leastInTime : MI := (yX2_leastInTime, cX2_leastInTime, 3, (some .int), 0)
abbrev Y_X2_nervesOf : MI := (yX2_nervesOf, cX2_nervesOf, 5, (some .int), 1)
abbrev Y_X2_oddsInStep : MI := (yX2_oddsInStep, cX2_oddsInStep, 3, (some .int), 2)
abbrev Y_X2_oddsOf : MI := (yX2_oddsOf, cX2_oddsOf, 7, (some .int), 1)
abbrev Y_X2_placeOf : MI := (yX2_placeOf, cX2_placeOf, 6, (some .int), 0)
abbrev Y_X2_restart : MI := (yX2_restart, cX2_restart, 3, (some .int), 2)
abbrev Y_X2_step : MI := (yX2_step, cX2_step, 5, (some .int), 3)
abbrev Y_X2_whoRuns : MI := (yX2_whoRuns, cX2_whoRuns, 3, (some .int), 1)
abbrev Y_X3_groundTold : MI := (yX3_groundTold, cX3_groundTold, 1, (some .int), 6)
abbrev Y_X3_init : MI := (yX3_init, cX3_init, 1, none, 2)
abbrev Y_X3_kindTold : MI := (yX3_kindTold, cX3_kindTold, 1, (some .int), 6)
abbrev Y_X3_numberBehind : MI := (yX3_numberBehind, cX3_numberBehind, 4, (some .int), 2)
abbrev Y_X3_perhaps : MI := (yX3_perhaps, cX3_perhaps, 5, (some .int), 6)
abbrev Y_X3_readGround : MI := (yX3_readGround, cX3_readGround, 6, (some .boolean), 7)
abbrev Y_X3_readInto : MI := (yX3_readInto, cX3_readInto, 3, (some .int), 9)
abbrev Y_X3_readItem : MI := (yX3_readItem, cX3_readItem, 4, (some .boolean), 8)
abbrev Y_X3_readPick : MI := (yX3_readPick, cX3_readPick, 3, (some .boolean), 3)
abbrev Y_X3_readRunner : MI := (yX3_readRunner, cX3_readRunner, 7, (some .boolean), 7)
abbrev Y_X4_beNew : MI := (yX4_beNew, cX4_beNew, 4, none, 1)
abbrev Y_X4_become : MI := (yX4_become, cX4_become, 2, none, 1)
abbrev Y_X4_holds : MI := (yX4_holds, cX4_holds, 1, (some .int), 0)
abbrev Y_X4_hurts : MI := (yX4_hurts, cX4_hurts, 2, (some .int), 0)
abbrev Y_X4_init : MI := (yX4_init, cX4_init, 1, none, 1)
abbrev Y_X4_isHome : MI := (yX4_isHome, cX4_isHome, 1, (some .boolean), 0)
abbrev Y_X4_isOfKind : MI := (yX4_isOfKind, cX4_isOfKind, 4, (some .boolean), 0)
abbrev Y_X4_mostOf : MI := (yX4_mostOf, cX4_mostOf, 1, (some .int), 0)
abbrev Y_X4_put : MI := (yX4_put, cX4_put, 3, none, 0)
abbrev Y_X4_restart : MI := (yX4_restart, cX4_restart, 1, none, 0)
abbrev Y_X4_rocks : MI := (yX4_rocks, cX4_rocks, 2, (some .int), 0)
abbrev Y_X4_takes : MI := (yX4_takes, cX4_takes, 2, (some .int), 0)
abbrev Y_X4_tell : MI := (yX4_tell, cX4_tell, 2, (some .int), 1)
abbrev Y_X5_hasRow : MI := (yX5_hasRow, cX5_hasRow, 3, (some .boolean), 0)
abbrev Y_X5_init : MI := (yX5_init, cX5_init, 1, none, 1)
abbrev Y_X5_isMissing : MI := (yX5_isMissing, cX5_isMissing, 1, (some .boolean), 0)
abbrev Y_X5_lay : MI := (yX5_lay, cX5_lay, 3, none, 1)
abbrev Y_X5_put : MI := (yX5_put, cX5_put, 3, none, 0)
abbrev Y_X6_advance : MI := (yX6_advance, cX6_advance, 2, none, 1)
abbrev Y_X6_init : MI := (yX6_init, cX6_init, 1, none, 1)
abbrev Y_X6_isWord : MI := (yX6_isWord, cX6_isWord, 3, (some .boolean), 5)
abbrev Y_X6_put : MI := (yX6_put, cX6_put, 2, none, 2)
abbrev Y_X6_rewind : MI := (yX6_rewind, cX6_rewind, 1, none, 2)
abbrev Y_X6_tokenBegunBy : MI := (yX6_tokenBegunBy, cX6_tokenBegunBy, 1, (some .int), 1)
abbrev Y_X6_value : MI := (yX6_value, cX6_value, 3, (some .int), 1)
abbrev Y_X7_areUnlikeOf : MI := (yX7_areUnlikeOf, cX7_areUnlikeOf, 5, (some .boolean), 1)
abbrev Y_X7_choose : MI := (yX7_choose, cX7_choose, 7, (some .int), 4)
abbrev Y_X7_init : MI := (yX7_init, cX7_init, 1, none, 1)
abbrev Y_X7_weigh : MI := (yX7_weigh, cX7_weigh, 5, none, 0)
abbrev Y_X8_ahead : MI := (yX8_ahead, cX8_ahead, 4, (some .int), 5)
abbrev Y_X8_armFor : MI := (yX8_armFor, cX8_armFor, 4, (some .int), 5)
abbrev Y_X8_as : MI := (yX8_as, cX8_as, 4, (some .int), 2)
abbrev Y_X8_best : MI := (yX8_best, cX8_best, 4, (some .int), 5)
abbrev Y_X8_change : MI := (yX8_change, cX8_change, 5, (some .int), 2)
abbrev Y_X8_clean : MI := (yX8_clean, cX8_clean, 8, (some .long), 3)
abbrev Y_X8_copy : MI := (yX8_copy, cX8_copy, 8, (some .int), 2)
abbrev Y_X8_costs : MI := (yX8_costs, cX8_costs, 5, (some .int), 4)
abbrev Y_X8_count : MI := (yX8_count, cX8_count, 2, (some .int), 2)
abbrev Y_X8_drops : MI := (yX8_drops, cX8_drops, 5, (some .long), 3)
abbrev Y_X8_even : MI := (yX8_even, cX8_even, 6, (some .int), 5)
abbrev Y_X8_feed : MI := (yX8_feed, cX8_feed, 4, (some .int), 3)
abbrev Y_X8_found : MI := (yX8_found, cX8_found, 2, (some .int), 0)
abbrev Y_X8_ground : MI := (yX8_ground, cX8_ground, 4, (some .int), 2)
abbrev Y_X8_gum : MI := (yX8_gum, cX8_gum, 6, (some .long), 4)
abbrev Y_X8_hold : MI := (yX8_hold, cX8_hold, 3, (some .int), 2)
abbrev Y_X8_image : MI := (yX8_image, cX8_image, 1, (some .int), 3)
abbrev Y_X8_init : MI := (yX8_init, cX8_init, 2, none, 3)
abbrev Y_X8_isPace : MI := (yX8_isPace, cX8_isPace, 1, (some .boolean), 1)
abbrev Y_X8_isRunner : MI := (yX8_isRunner, cX8_isRunner, 2, (some .boolean), 1)
abbrev Y_X8_isSheet : MI := (yX8_isSheet, cX8_isSheet, 1, (some .boolean), 1)
abbrev Y_X8_isSpot : MI := (yX8_isSpot, cX8_isSpot, 1, (some .boolean), 1)
abbrev Y_X8_isStretch : MI := (yX8_isStretch, cX8_isStretch, 4, (some .boolean), 2)
abbrev Y_X8_isTeamSet : MI := (yX8_isTeamSet, cX8_isTeamSet, 2, (some .boolean), 1)
abbrev Y_X8_isYard : MI := (yX8_isYard, cX8_isYard, 1, (some .boolean), 1)
abbrev Y_X8_judge : MI := (yX8_judge, cX8_judge, 5, (some .int), 4)
abbrev Y_X8_later : MI := (yX8_later, cX8_later, 4, (some .int), 5)
abbrev Y_X8_least : MI := (yX8_least, cX8_least, 4, (some .int), 5)
abbrev Y_X8_leg : MI := (yX8_leg, cX8_leg, 3, (some .int), 5)
abbrev Y_X8_load : MI := (yX8_load, cX8_load, 6, (some .int), 2)
abbrev Y_X8_mean : MI := (yX8_mean, cX8_mean, 4, (some .int), 4)
abbrev Y_X8_nerves : MI := (yX8_nerves, cX8_nerves, 2, (some .int), 2)
abbrev Y_X8_next : MI := (yX8_next, cX8_next, 2, (some .int), 2)
abbrev Y_X8_now : MI := (yX8_now, cX8_now, 2, (some .int), 3)
abbrev Y_X8_odds : MI := (yX8_odds, cX8_odds, 5, (some .int), 2)
abbrev Y_X8_of : MI := (yX8_of, cX8_of, 3, (some .int), 2)
abbrev Y_X8_pace : MI := (yX8_pace, cX8_pace, 8, (some .int), 2)
abbrev Y_X8_paceOf : MI := (yX8_paceOf, cX8_paceOf, 3, (some .int), 2)
abbrev Y_X8_pick : MI := (yX8_pick, cX8_pick, 3, (some .int), 1)
abbrev Y_X8_place : MI := (yX8_place, cX8_place, 2, (some .int), 6)
abbrev Y_X8_rain : MI := (yX8_rain, cX8_rain, 4, (some .int), 1)
abbrev Y_X8_runAllHome : MI := (yX8_runAllHome, cX8_runAllHome, 1, none, 5)
abbrev Y_X8_runner : MI := (yX8_runner, cX8_runner, 4, (some .int), 3)
abbrev Y_X8_seed : MI := (yX8_seed, cX8_seed, 3, (some .int), 0)
abbrev Y_X8_sheet : MI := (yX8_sheet, cX8_sheet, 4, (some .int), 2)
abbrev Y_X8_spoon : MI := (yX8_spoon, cX8_spoon, 6, (some .int), 5)
abbrev Y_X8_start : MI := (yX8_start, cX8_start, 1, (some .int), 3)
abbrev Y_X8_status : MI := (yX8_status, cX8_status, 4, (some .int), 1)
abbrev Y_X8_steps : MI := (yX8_steps, cX8_steps, 2, (some .int), 5)
abbrev Y_X8_suspect : MI := (yX8_suspect, cX8_suspect, 9, (some .int), 4)
abbrev Y_X8_team : MI := (yX8_team, cX8_team, 2, (some .int), 5)
abbrev Y_X8_tear : MI := (yX8_tear, cX8_tear, 2, (some .int), 0)
abbrev Y_X8_text : MI := (yX8_text, cX8_text, 2, (some .int), 10)
abbrev Y_X8_told : MI := (yX8_told, cX8_told, 5, (some .int), 2)
abbrev Y_X8_train : MI := (yX8_train, cX8_train, 6, (some .int), 5)
abbrev Y_X8_tryGum : MI := (yX8_tryGum, cX8_tryGum, 2, none, 3)
abbrev Y_X8_undo : MI := (yX8_undo, cX8_undo, 1, (some .int), 3)
abbrev Y_X8_wholeMean : MI := (yX8_wholeMean, cX8_wholeMean, 3, (some .int), 4)
abbrev Y_X8_winner : MI := (yX8_winner, cX8_winner, 1, (some .int), 6)
abbrev Y_X8_wins : MI := (yX8_wins, cX8_wins, 5, (some .int), 5)
abbrev Y_X8_wipe : MI := (yX8_wipe, cX8_wipe, 2, (some .int), 0)
abbrev Y_X8_within : MI := (yX8_within, cX8_within, 3, (some .boolean), 0)
abbrev Y_X8_worst : MI := (yX8_worst, cX8_worst, 6, (some .int), 5)
abbrev Y_X8_write : MI := (yX8_write, cX8_write, 4, (some .int), 2)
abbrev Y_X9_above : MI := (yX9_above, cX9_above, 1, (some .int), 0)
abbrev Y_X9_ahead : MI := (yX9_ahead, cX9_ahead, 5, (some .int), 6)
abbrev Y_X9_allDrops : MI := (yX9_allDrops, cX9_allDrops, 3, (some .int), 1)
abbrev Y_X9_allGoHome : MI := (yX9_allGoHome, cX9_allGoHome, 1, none, 6)
abbrev Y_X9_armFor : MI := (yX9_armFor, cX9_armFor, 6, (some .int), 6)
abbrev Y_X9_as : MI := (yX9_as, cX9_as, 5, (some .int), 2)
abbrev Y_X9_becomes : MI := (yX9_becomes, cX9_becomes, 4, (some .int), 0)
abbrev Y_X9_behind : MI := (yX9_behind, cX9_behind, 8, (some .int), 3)
abbrev Y_X9_best : MI := (yX9_best, cX9_best, 4, (some .int), 5)
abbrev Y_X9_bestTeam : MI := (yX9_bestTeam, cX9_bestTeam, 8, (some .int), 5)
abbrev Y_X9_change : MI := (yX9_change, cX9_change, 4, (some .int), 3)
abbrev Y_X9_clean : MI := (yX9_clean, cX9_clean, 7, (some .long), 4)
abbrev Y_X9_comes : MI := (yX9_comes, cX9_comes, 7, (some .int), 1)
abbrev Y_X9_copy : MI := (yX9_copy, cX9_copy, 9, (some .int), 2)
abbrev Y_X9_costs : MI := (yX9_costs, cX9_costs, 3, (some .int), 5)
abbrev Y_X9_count : MI := (yX9_count, cX9_count, 2, (some .int), 3)
abbrev Y_X9_draw : MI := (yX9_draw, cX9_draw, 1, (some .int), 0)
abbrev Y_X9_dropping (n : Nat) : MI := (yX9_dropping, cX9_dropping, 9, (some .long), 4 + n)
abbrev Y_X9_droppingAs : MI := (yX9_droppingAs, cX9_droppingAs, 9, (some .long), 17)
abbrev Y_X9_drops : MI := (yX9_drops, cX9_drops, 5, (some .long), 17)
abbrev Y_X9_even : MI := (yX9_even, cX9_even, 6, (some .int), 6)
abbrev Y_X9_feed : MI := (yX9_feed, cX9_feed, 4, (some .int), 1)
abbrev Y_X9_finds : MI := (yX9_finds, cX9_finds, 2, (some .int), 0)
abbrev Y_X9_firstHome : MI := (yX9_firstHome, cX9_firstHome, 3, (some .int), 2)
abbrev Y_X9_grass : MI := (yX9_grass, cX9_grass, 3, (some .int), 0)
abbrev Y_X9_ground : MI := (yX9_ground, cX9_ground, 3, (some .int), 2)
abbrev Y_X9_groundHere : MI := (yX9_groundHere, cX9_groundHere, 1, (some .int), 6)
abbrev Y_X9_groundItem : MI := (yX9_groundItem, cX9_groundItem, 5, none, 7)
abbrev Y_X9_gum : MI := (yX9_gum, cX9_gum, 6, (some .long), 18)
abbrev Y_X9_hold : MI := (yX9_hold, cX9_hold, 3, (some .int), 2)
abbrev Y_X9_holding : MI := (yX9_holding, cX9_holding, 3, (some .int), 0)
abbrev Y_X9_holds : MI := (yX9_holds, cX9_holds, 3, (some .int), 1)
abbrev Y_X9_home : MI := (yX9_home, cX9_home, 3, (some .int), 2)
abbrev Y_X9_hurts : MI := (yX9_hurts, cX9_hurts, 5, (some .int), 1)
abbrev Y_X9_image : MI := (yX9_image, cX9_image, 1, (some .int), 1)
abbrev Y_X9_in : MI := (yX9_in, cX9_in, 6, (some .boolean), 0)
abbrev Y_X9_init : MI := (yX9_init, cX9_init, 2, none, 1)
abbrev Y_X9_is : MI := (yX9_is, cX9_is, 3, (some .int), 0)
abbrev Y_X9_isAhead : MI := (yX9_isAhead, cX9_isAhead, 3, (some .boolean), 1)
abbrev Y_X9_isByte : MI := (yX9_isByte, cX9_isByte, 4, (some .boolean), 1)
abbrev Y_X9_isHome : MI := (yX9_isHome, cX9_isHome, 2, (some .boolean), 1)
abbrev Y_X9_isKind : MI := (yX9_isKind, cX9_isKind, 1, (some .boolean), 1)
abbrev Y_X9_isMean : MI := (yX9_isMean, cX9_isMean, 5, (some .boolean), 2)
abbrev Y_X9_isPace : MI := (yX9_isPace, cX9_isPace, 1, (some .boolean), 1)
abbrev Y_X9_isPart : MI := (yX9_isPart, cX9_isPart, 2, (some .boolean), 2)
abbrev Y_X9_isRunner : MI := (yX9_isRunner, cX9_isRunner, 2, (some .boolean), 1)
abbrev Y_X9_isSheet : MI := (yX9_isSheet, cX9_isSheet, 1, (some .boolean), 1)
abbrev Y_X9_isSign : MI := (yX9_isSign, cX9_isSign, 2, (some .boolean), 0)
abbrev Y_X9_isStretch : MI := (yX9_isStretch, cX9_isStretch, 5, (some .boolean), 2)
abbrev Y_X9_isTeam : MI := (yX9_isTeam, cX9_isTeam, 2, (some .boolean), 1)
abbrev Y_X9_isWord : MI := (yX9_isWord, cX9_isWord, 4, (some .boolean), 5)
abbrev Y_X9_isYard : MI := (yX9_isYard, cX9_isYard, 1, (some .boolean), 1)
abbrev Y_X9_item : MI := (yX9_item, cX9_item, 3, none, 8)
abbrev Y_X9_judge : MI := (yX9_judge, cX9_judge, 4, (some .int), 5)
abbrev Y_X9_kindHere : MI := (yX9_kindHere, cX9_kindHere, 1, (some .int), 6)
abbrev Y_X9_later : MI := (yX9_later, cX9_later, 5, (some .int), 6)
abbrev Y_X9_least : MI := (yX9_least, cX9_least, 4, (some .int), 5)
abbrev Y_X9_leg : MI := (yX9_leg, cX9_leg, 3, (some .int), 6)
abbrev Y_X9_load : MI := (yX9_load, cX9_load, 4, (some .int), 2)
abbrev Y_X9_makes : MI := (yX9_makes, cX9_makes, 4, none, 0)
abbrev Y_X9_many : MI := (yX9_many, cX9_many, 3, (some .int), 0)
abbrev Y_X9_mean : MI := (yX9_mean, cX9_mean, 4, (some .int), 5)
abbrev Y_X9_meanOf : MI := (yX9_meanOf, cX9_meanOf, 2, (some .int), 5)
abbrev Y_X9_means : MI := (yX9_means, cX9_means, 8, none, 4)
abbrev Y_X9_nerves : MI := (yX9_nerves, cX9_nerves, 2, (some .int), 3)
abbrev Y_X9_nervesOf : MI := (yX9_nervesOf, cX9_nervesOf, 4, (some .int), 2)
abbrev Y_X9_next : MI := (yX9_next, cX9_next, 1, (some .int), 3)
abbrev Y_X9_now : MI := (yX9_now, cX9_now, 2, (some .int), 4)
abbrev Y_X9_number : MI := (yX9_number, cX9_number, 4, (some .int), 3)
abbrev Y_X9_odds : MI := (yX9_odds, cX9_odds, 5, (some .int), 3)
abbrev Y_X9_oddsAt : MI := (yX9_oddsAt, cX9_oddsAt, 4, (some .int), 3)
abbrev Y_X9_oddsBy : MI := (yX9_oddsBy, cX9_oddsBy, 7, (some .int), 2)
abbrev Y_X9_oddsNow : MI := (yX9_oddsNow, cX9_oddsNow, 2, (some .int), 3)
abbrev Y_X9_of : MI := (yX9_of, cX9_of, 3, (some .int), 2)
abbrev Y_X9_orNone : MI := (yX9_orNone, cX9_orNone, 2, (some .int), 1)
abbrev Y_X9_pace : MI := (yX9_pace, cX9_pace, 7, (some .int), 2)
abbrev Y_X9_paceAt : MI := (yX9_paceAt, cX9_paceAt, 3, (some .int), 1)
abbrev Y_X9_paceOf : MI := (yX9_paceOf, cX9_paceOf, 3, (some .int), 2)
abbrev Y_X9_pick : MI := (yX9_pick, cX9_pick, 2, (some .int), 1)
abbrev Y_X9_place : MI := (yX9_place, cX9_place, 4, (some .int), 7)
abbrev Y_X9_rain : MI := (yX9_rain, cX9_rain, 4, (some .int), 1)
abbrev Y_X9_rocks : MI := (yX9_rocks, cX9_rocks, 5, (some .int), 1)
abbrev Y_X9_row : MI := (yX9_row, cX9_row, 3, none, 0)
abbrev Y_X9_runner : MI := (yX9_runner, cX9_runner, 4, (some .int), 2)
abbrev Y_X9_runnerItem : MI := (yX9_runnerItem, cX9_runnerItem, 5, none, 7)
abbrev Y_X9_runsNext : MI := (yX9_runsNext, cX9_runsNext, 3, (some .int), 2)
abbrev Y_X9_seed : MI := (yX9_seed, cX9_seed, 2, (some .int), 1)
abbrev Y_X9_sheet : MI := (yX9_sheet, cX9_sheet, 5, (some .int), 2)
abbrev Y_X9_spoon : MI := (yX9_spoon, cX9_spoon, 7, (some .int), 6)
abbrev Y_X9_start : MI := (yX9_start, cX9_start, 2, (some .int), 3)
abbrev Y_X9_starts : MI := (yX9_starts, cX9_starts, 3, none, 1)
abbrev Y_X9_status : MI := (yX9_status, cX9_status, 4, (some .int), 1)
abbrev Y_X9_step : MI := (yX9_step, cX9_step, 6, (some .int), 4)
abbrev Y_X9_steps : MI := (yX9_steps, cX9_steps, 2, (some .int), 6)
abbrev Y_X9_stepsGo : MI := (yX9_stepsGo, cX9_stepsGo, 4, (some .int), 5)
abbrev Y_X9_suspect : MI := (yX9_suspect, cX9_suspect, 7, (some .int), 18)
abbrev Y_X9_takes : MI := (yX9_takes, cX9_takes, 4, (some .int), 1)
abbrev Y_X9_takes_ : MI := (yX9_takes_, cX9_takes_, 2, (some .boolean), 6)
abbrev Y_X9_team : MI := (yX9_team, cX9_team, 2, (some .int), 6)
abbrev Y_X9_tear : MI := (yX9_tear, cX9_tear, 2, (some .int), 0)
abbrev Y_X9_text : MI := (yX9_text, cX9_text, 4, (some .int), 9)
abbrev Y_X9_token : MI := (yX9_token, cX9_token, 1, none, 2)
abbrev Y_X9_told : MI := (yX9_told, cX9_told, 4, (some .int), 2)
abbrev Y_X9_train : MI := (yX9_train, cX9_train, 4, (some .int), 5)
abbrev Y_X9_undo : MI := (yX9_undo, cX9_undo, 1, (some .int), 1)
abbrev Y_X9_winner : MI := (yX9_winner, cX9_winner, 2, (some .int), 7)
abbrev Y_X9_wins : MI := (yX9_wins, cX9_wins, 5, (some .int), 7)
abbrev Y_X9_wipe : MI := (yX9_wipe, cX9_wipe, 2, (some .int), 0)
abbrev Y_X9_worst : MI := (yX9_worst, cX9_worst, 7, (some .int), 6)
abbrev Y_X9_write : MI := (yX9_write, cX9_write, 4, (some .int), 2)
theorem lc_J0_charAt_5068e : LnkC Y_J0_charAt_5068e 1 := ⟨(WT_mem (t3_in (List.mem_of_getElem? (i := 223) rfl)) rfl), (WT_mem (t1_in (List.mem_of_getElem? (i := 15) rfl)) rfl), ⟨by decide +kernel, by decide +kernel, by decide +kernel⟩, by decide⟩
theorem lc_J0_checkIndex_df160 : LnkC Y_J0_checkIndex_df160 2 := ⟨(WT_mem (t3_in (List.mem_of_getElem? (i := 233) rfl)) rfl), (WT_mem (t1_in (List.mem_of_getElem? (i := 15) rfl)) rfl), ⟨by decide +kernel, by decide +kernel, by decide +kernel⟩, by decide⟩
theorem lc_J0_coder_7d493 : LnkC Y_J0_coder_7d493 0 := ⟨(WT_mem (t3_in (List.mem_of_getElem? (i := 217) rfl)) rfl), (WT_mem (t1_in (List.mem_of_getElem? (i := 15) rfl)) rfl), ⟨by decide +kernel, by decide +kernel, by decide +kernel⟩, by decide⟩
theorem lc_J0_isLatin1_aae02 : LnkC Y_J0_isLatin1_aae02 0 := ⟨(WT_mem (t3_in (List.mem_of_getElem? (i := 227) rfl)) rfl), (WT_mem (t1_in (List.mem_of_getElem? (i := 15) rfl)) rfl), ⟨by decide +kernel, by decide +kernel, by decide +kernel⟩, by decide⟩
theorem lc_J0_length_8abf5 : LnkC Y_J0_length_8abf5 0 := ⟨(WT_mem (t3_in (List.mem_of_getElem? (i := 213) rfl)) rfl), (WT_mem (t1_in (List.mem_of_getElem? (i := 15) rfl)) rfl), ⟨by decide +kernel, by decide +kernel, by decide +kernel⟩, by decide⟩
theorem lc_J1_charAt_3b067 : LnkC Y_J1_charAt_3b067 2 := ⟨(WT_mem (t3_in (List.mem_of_getElem? (i := 230) rfl)) rfl), (WT_mem (t1_in (List.mem_of_getElem? (i := 16) rfl)) rfl), ⟨by decide +kernel, by decide +kernel, by decide +kernel⟩, by decide⟩
theorem lc_J2_charAt_3b067 : LnkC Y_J2_charAt_3b067 2 := ⟨(WT_mem (t4_in (List.mem_of_getElem? (i := 1) rfl)) rfl), (WT_mem (t1_in (List.mem_of_getElem? (i := 18) rfl)) rfl), ⟨by decide +kernel, by decide +kernel, by decide +kernel⟩, by decide⟩
theorem lc_J2_checkIndex_2214a : LnkC Y_J2_checkIndex_2214a 2 := ⟨(WT_mem (t4_in (List.mem_of_getElem? (i := 4) rfl)) rfl), (WT_mem (t1_in (List.mem_of_getElem? (i := 18) rfl)) rfl), ⟨by decide +kernel, by decide +kernel, by decide +kernel⟩, by decide⟩
theorem lc_J2_getChar_3b067 : LnkC Y_J2_getChar_3b067 2 := ⟨(WT_mem (t4_in (List.mem_of_getElem? (i := 11) rfl)) rfl), (WT_mem (t1_in (List.mem_of_getElem? (i := 18) rfl)) rfl), ⟨by decide +kernel, by decide +kernel, by decide +kernel⟩, by decide⟩
theorem lc_J2_length_9d52b : LnkC Y_J2_length_9d52b 1 := ⟨(WT_mem (t4_in (List.mem_of_getElem? (i := 7) rfl)) rfl), (WT_mem (t1_in (List.mem_of_getElem? (i := 18) rfl)) rfl), ⟨by decide +kernel, by decide +kernel, by decide +kernel⟩, by decide⟩
theorem lc_J3_checkIndex_8e157 : LnkC Y_J3_checkIndex_8e157 3 := ⟨(WT_mem (t3_in (List.mem_of_getElem? (i := 238) rfl)) rfl), (WT_mem (t1_in (List.mem_of_getElem? (i := 17) rfl)) rfl), ⟨by decide +kernel, by decide +kernel, by decide +kernel⟩, by decide⟩
theorem lc_J6_bitCount_0f7a4 : LnkC Y_J6_bitCount_0f7a4 1 := ⟨(WT_mem (t2_in (List.mem_of_getElem? (i := 201) rfl)) rfl), (WT_mem (t1_in (List.mem_of_getElem? (i := 13) rfl)) rfl), ⟨by decide +kernel, by decide +kernel, by decide +kernel⟩, by decide⟩
theorem lc_J7_fill_53178 : LnkC Y_J7_fill_53178 2 := ⟨(WT_mem (t1_in (List.mem_of_getElem? (i := 81) rfl)) rfl), (WT_mem (t1_in (List.mem_of_getElem? (i := 4) rfl)) rfl), ⟨by decide +kernel, by decide +kernel, by decide +kernel⟩, by decide⟩
theorem lc_J7_fill_d0a16 : LnkC Y_J7_fill_d0a16 2 := ⟨(WT_mem (t3_in (List.mem_of_getElem? (i := 25) rfl)) rfl), (WT_mem (t1_in (List.mem_of_getElem? (i := 4) rfl)) rfl), ⟨by decide +kernel, by decide +kernel, by decide +kernel⟩, by decide⟩
theorem lc_J9_abs_0f7a4 : LnkC Y_J9_abs_0f7a4 1 := ⟨(WT_mem (t2_in (List.mem_of_getElem? (i := 152) rfl)) rfl), (WT_mem (t1_in (List.mem_of_getElem? (i := 12) rfl)) rfl), ⟨by decide +kernel, by decide +kernel, by decide +kernel⟩, by decide⟩
theorem lc_J9_max_7cf53 : LnkC Y_J9_max_7cf53 2 := ⟨(WT_mem (t2_in (List.mem_of_getElem? (i := 132) rfl)) rfl), (WT_mem (t1_in (List.mem_of_getElem? (i := 12) rfl)) rfl), ⟨by decide +kernel, by decide +kernel, by decide +kernel⟩, by decide⟩
theorem lc_J9_min_7cf53 : LnkC Y_J9_min_7cf53 2 := ⟨(WT_mem (t2_in (List.mem_of_getElem? (i := 129) rfl)) rfl), (WT_mem (t1_in (List.mem_of_getElem? (i := 12) rfl)) rfl), ⟨by decide +kernel, by decide +kernel, by decide +kernel⟩, by decide⟩
theorem lc_X0_ofDrops : LnkC Y_X0_ofDrops 5 := ⟨(WT_mem (t3_in (List.mem_of_getElem? (i := 22) rfl)) rfl), (WT_mem (t1_in (List.mem_of_getElem? (i := 6) rfl)) rfl), ⟨by decide +kernel, by decide +kernel, by decide +kernel⟩, by decide⟩
theorem lc_X0_spread : LnkC Y_X0_spread 3 := ⟨(WT_mem (t3_in (List.mem_of_getElem? (i := 31) rfl)) rfl), (WT_mem (t1_in (List.mem_of_getElem? (i := 6) rfl)) rfl), ⟨by decide +kernel, by decide +kernel, by decide +kernel⟩, by decide⟩
theorem lc_X1_atBest : LnkC Y_X1_atBest 4 := ⟨(WT_mem (t3_in (List.mem_of_getElem? (i := 61) rfl)) rfl), (WT_mem (t1_in (List.mem_of_getElem? (i := 5) rfl)) rfl), ⟨by decide +kernel, by decide +kernel, by decide +kernel⟩, by decide⟩
theorem lc_X1_atPaces : LnkC Y_X1_atPaces 5 := ⟨(WT_mem (t3_in (List.mem_of_getElem? (i := 40) rfl)) rfl), (WT_mem (t1_in (List.mem_of_getElem? (i := 5) rfl)) rfl), ⟨by decide +kernel, by decide +kernel, by decide +kernel⟩, by decide⟩
theorem lc_X1_bestPace : LnkC Y_X1_bestPace 4 := ⟨(WT_mem (t3_in (List.mem_of_getElem? (i := 65) rfl)) rfl), (WT_mem (t1_in (List.mem_of_getElem? (i := 5) rfl)) rfl), ⟨by decide +kernel, by decide +kernel, by decide +kernel⟩, by decide⟩
theorem lc_X1_chosenPace : LnkC Y_X1_chosenPace 2 := ⟨(WT_mem (t3_in (List.mem_of_getElem? (i := 74) rfl)) rfl), (WT_mem (t1_in (List.mem_of_getElem? (i := 5) rfl)) rfl), ⟨by decide +kernel, by decide +kernel, by decide +kernel⟩, by decide⟩
theorem lc_X1_goBack : LnkC Y_X1_goBack 0 := ⟨(WT_mem (t3_in (List.mem_of_getElem? (i := 52) rfl)) rfl), (WT_mem (t1_in (List.mem_of_getElem? (i := 5) rfl)) rfl), ⟨by decide +kernel, by decide +kernel, by decide +kernel⟩, by decide⟩
theorem lc_X1_through : LnkC Y_X1_through 5 := ⟨(WT_mem (t3_in (List.mem_of_getElem? (i := 45) rfl)) rfl), (WT_mem (t1_in (List.mem_of_getElem? (i := 5) rfl)) rfl), ⟨by decide +kernel, by decide +kernel, by decide +kernel⟩, by decide⟩
theorem lc_X2_add : LnkC Y_X2_add 3 := ⟨(WT_mem (t2_in (List.mem_of_getElem? (i := 41) rfl)) rfl), (WT_mem (t1_in (List.mem_of_getElem? (i := 2) rfl)) rfl), ⟨by decide +kernel, by decide +kernel, by decide +kernel⟩, by decide⟩
theorem lc_X2_become : LnkC Y_X2_become 1 := ⟨(WT_mem (t2_in (List.mem_of_getElem? (i := 213) rfl)) rfl), (WT_mem (t1_in (List.mem_of_getElem? (i := 2) rfl)) rfl), ⟨by decide +kernel, by decide +kernel, by decide +kernel⟩, by decide⟩
theorem lc_X2_countDrops : LnkC Y_X2_countDrops 0 := ⟨(WT_mem (t4_in (List.mem_of_getElem? (i := 146) rfl)) rfl), (WT_mem (t1_in (List.mem_of_getElem? (i := 2) rfl)) rfl), ⟨by decide +kernel, by decide +kernel, by decide +kernel⟩, by decide⟩
theorem lc_X2_countGrass : LnkC Y_X2_countGrass 0 := ⟨(WT_mem (t3_in (List.mem_of_getElem? (i := 159) rfl)) rfl), (WT_mem (t1_in (List.mem_of_getElem? (i := 2) rfl)) rfl), ⟨by decide +kernel, by decide +kernel, by decide +kernel⟩, by decide⟩
theorem lc_X2_countHolding : LnkC Y_X2_countHolding 0 := ⟨(WT_mem (t4_in (List.mem_of_getElem? (i := 150) rfl)) rfl), (WT_mem (t1_in (List.mem_of_getElem? (i := 2) rfl)) rfl), ⟨by decide +kernel, by decide +kernel, by decide +kernel⟩, by decide⟩
theorem lc_X2_draw : LnkC Y_X2_draw 0 := ⟨(WT_mem (t2_in (List.mem_of_getElem? (i := 184) rfl)) rfl), (WT_mem (t1_in (List.mem_of_getElem? (i := 2) rfl)) rfl), ⟨by decide +kernel, by decide +kernel, by decide +kernel⟩, by decide⟩
theorem lc_X2_go : LnkC Y_X2_go 1 := ⟨(WT_mem (t2_in (List.mem_of_getElem? (i := 174) rfl)) rfl), (WT_mem (t1_in (List.mem_of_getElem? (i := 2) rfl)) rfl), ⟨by decide +kernel, by decide +kernel, by decide +kernel⟩, by decide⟩
theorem lc_X2_homeSet : LnkC Y_X2_homeSet 0 := ⟨(WT_mem (t2_in (List.mem_of_getElem? (i := 198) rfl)) rfl), (WT_mem (t1_in (List.mem_of_getElem? (i := 2) rfl)) rfl), ⟨by decide +kernel, by decide +kernel, by decide +kernel⟩, by decide⟩
theorem lc_X2_leastInTime : LnkC Y_X2_leastInTime 0 := ⟨(WT_mem (t2_in (List.mem_of_getElem? (i := 234) rfl)) rfl), (WT_mem (t1_in (List.mem_of_getElem? (i := 2) rfl)) rfl), ⟨by decide +kernel, by decide +kernel, by decide +kernel⟩, by decide⟩
theorem lc_X2_nervesOf : LnkC Y_X2_nervesOf 1 := ⟨(WT_mem (t2_in (List.mem_of_getElem? (i := 148) rfl)) rfl), (WT_mem (t1_in (List.mem_of_getElem? (i := 2) rfl)) rfl), ⟨by decide +kernel, by decide +kernel, by decide +kernel⟩, by decide⟩
theorem lc_X2_oddsInStep : LnkC Y_X2_oddsInStep 1 := ⟨(WT_mem (t2_in (List.mem_of_getElem? (i := 144) rfl)) rfl), (WT_mem (t1_in (List.mem_of_getElem? (i := 2) rfl)) rfl), ⟨by decide +kernel, by decide +kernel, by decide +kernel⟩, by decide⟩
theorem lc_X2_oddsOf : LnkC Y_X2_oddsOf 5 := ⟨(WT_mem (t2_in (List.mem_of_getElem? (i := 116) rfl)) rfl), (WT_mem (t1_in (List.mem_of_getElem? (i := 2) rfl)) rfl), ⟨by decide +kernel, by decide +kernel, by decide +kernel⟩, by decide⟩
theorem lc_X2_placeOf : LnkC Y_X2_placeOf 1 := ⟨(WT_mem (t3_in (List.mem_of_getElem? (i := 2) rfl)) rfl), (WT_mem (t1_in (List.mem_of_getElem? (i := 2) rfl)) rfl), ⟨by decide +kernel, by decide +kernel, by decide +kernel⟩, by decide⟩
theorem lc_X2_restart : LnkC Y_X2_restart 0 := ⟨(WT_mem (t2_in (List.mem_of_getElem? (i := 194) rfl)) rfl), (WT_mem (t1_in (List.mem_of_getElem? (i := 2) rfl)) rfl), ⟨by decide +kernel, by decide +kernel, by decide +kernel⟩, by decide⟩
theorem lc_X2_step : LnkC Y_X2_step 1 := ⟨(WT_mem (t2_in (List.mem_of_getElem? (i := 179) rfl)) rfl), (WT_mem (t1_in (List.mem_of_getElem? (i := 2) rfl)) rfl), ⟨by decide +kernel, by decide +kernel, by decide +kernel⟩, by decide⟩
theorem lc_X2_whoRuns : LnkC Y_X2_whoRuns 0 := ⟨(WT_mem (t2_in (List.mem_of_getElem? (i := 166) rfl)) rfl), (WT_mem (t1_in (List.mem_of_getElem? (i := 2) rfl)) rfl), ⟨by decide +kernel, by decide +kernel, by decide +kernel⟩, by decide⟩
theorem lc_X3_groundTold : LnkC Y_X3_groundTold 0 := ⟨(WT_mem (t3_in (List.mem_of_getElem? (i := 204) rfl)) rfl), (WT_mem (t1_in (List.mem_of_getElem? (i := 8) rfl)) rfl), ⟨by decide +kernel, by decide +kernel, by decide +kernel⟩, by decide⟩
theorem lc_X3_kindTold : LnkC Y_X3_kindTold 0 := ⟨(WT_mem (t4_in (List.mem_of_getElem? (i := 49) rfl)) rfl), (WT_mem (t1_in (List.mem_of_getElem? (i := 8) rfl)) rfl), ⟨by decide +kernel, by decide +kernel, by decide +kernel⟩, by decide⟩
theorem lc_X3_numberBehind : LnkC Y_X3_numberBehind 2 := ⟨(WT_mem (t4_in (List.mem_of_getElem? (i := 29) rfl)) rfl), (WT_mem (t1_in (List.mem_of_getElem? (i := 8) rfl)) rfl), ⟨by decide +kernel, by decide +kernel, by decide +kernel⟩, by decide⟩
theorem lc_X3_perhaps : LnkC Y_X3_perhaps 4 := ⟨(WT_mem (t4_in (List.mem_of_getElem? (i := 40) rfl)) rfl), (WT_mem (t1_in (List.mem_of_getElem? (i := 8) rfl)) rfl), ⟨by decide +kernel, by decide +kernel, by decide +kernel⟩, by decide⟩
theorem lc_X3_readGround : LnkC Y_X3_readGround 2 := ⟨(WT_mem (t4_in (List.mem_of_getElem? (i := 25) rfl)) rfl), (WT_mem (t1_in (List.mem_of_getElem? (i := 8) rfl)) rfl), ⟨by decide +kernel, by decide +kernel, by decide +kernel⟩, by decide⟩
theorem lc_X3_readInto : LnkC Y_X3_readInto 1 := ⟨(WT_mem (t3_in (List.mem_of_getElem? (i := 187) rfl)) rfl), (WT_mem (t1_in (List.mem_of_getElem? (i := 8) rfl)) rfl), ⟨by decide +kernel, by decide +kernel, by decide +kernel⟩, by decide⟩
theorem lc_X3_readItem : LnkC Y_X3_readItem 1 := ⟨(WT_mem (t3_in (List.mem_of_getElem? (i := 200) rfl)) rfl), (WT_mem (t1_in (List.mem_of_getElem? (i := 8) rfl)) rfl), ⟨by decide +kernel, by decide +kernel, by decide +kernel⟩, by decide⟩
theorem lc_X3_readPick : LnkC Y_X3_readPick 1 := ⟨(WT_mem (t4_in (List.mem_of_getElem? (i := 45) rfl)) rfl), (WT_mem (t1_in (List.mem_of_getElem? (i := 8) rfl)) rfl), ⟨by decide +kernel, by decide +kernel, by decide +kernel⟩, by decide⟩
theorem lc_X3_readRunner : LnkC Y_X3_readRunner 2 := ⟨(WT_mem (t4_in (List.mem_of_getElem? (i := 60) rfl)) rfl), (WT_mem (t1_in (List.mem_of_getElem? (i := 8) rfl)) rfl), ⟨by decide +kernel, by decide +kernel, by decide +kernel⟩, by decide⟩
theorem lc_X4_beNew : LnkC Y_X4_beNew 3 := ⟨(WT_mem (t2_in (List.mem_of_getElem? (i := 45) rfl)) rfl), (WT_mem (t1_in (List.mem_of_getElem? (i := 3) rfl)) rfl), ⟨by decide +kernel, by decide +kernel, by decide +kernel⟩, by decide⟩
theorem lc_X4_become : LnkC Y_X4_become 1 := ⟨(WT_mem (t2_in (List.mem_of_getElem? (i := 220) rfl)) rfl), (WT_mem (t1_in (List.mem_of_getElem? (i := 3) rfl)) rfl), ⟨by decide +kernel, by decide +kernel, by decide +kernel⟩, by decide⟩
theorem lc_X4_holds : LnkC Y_X4_holds 0 := ⟨(WT_mem (t2_in (List.mem_of_getElem? (i := 66) rfl)) rfl), (WT_mem (t1_in (List.mem_of_getElem? (i := 3) rfl)) rfl), ⟨by decide +kernel, by decide +kernel, by decide +kernel⟩, by decide⟩
theorem lc_X4_hurts : LnkC Y_X4_hurts 1 := ⟨(WT_mem (t2_in (List.mem_of_getElem? (i := 121) rfl)) rfl), (WT_mem (t1_in (List.mem_of_getElem? (i := 3) rfl)) rfl), ⟨by decide +kernel, by decide +kernel, by decide +kernel⟩, by decide⟩
theorem lc_X4_isHome : LnkC Y_X4_isHome 0 := ⟨(WT_mem (t2_in (List.mem_of_getElem? (i := 140) rfl)) rfl), (WT_mem (t1_in (List.mem_of_getElem? (i := 3) rfl)) rfl), ⟨by decide +kernel, by decide +kernel, by decide +kernel⟩, by decide⟩
theorem lc_X4_isOfKind : LnkC Y_X4_isOfKind 1 := ⟨(WT_mem (t4_in (List.mem_of_getElem? (i := 81) rfl)) rfl), (WT_mem (t1_in (List.mem_of_getElem? (i := 3) rfl)) rfl), ⟨by decide +kernel, by decide +kernel, by decide +kernel⟩, by decide⟩
theorem lc_X4_mostOf : LnkC Y_X4_mostOf 1 := ⟨(WT_mem (t2_in (List.mem_of_getElem? (i := 75) rfl)) rfl), (WT_mem (t1_in (List.mem_of_getElem? (i := 3) rfl)) rfl), ⟨by decide +kernel, by decide +kernel, by decide +kernel⟩, by decide⟩
theorem lc_X4_put : LnkC Y_X4_put 2 := ⟨(WT_mem (t2_in (List.mem_of_getElem? (i := 79) rfl)) rfl), (WT_mem (t1_in (List.mem_of_getElem? (i := 3) rfl)) rfl), ⟨by decide +kernel, by decide +kernel, by decide +kernel⟩, by decide⟩
theorem lc_X4_restart : LnkC Y_X4_restart 0 := ⟨(WT_mem (t2_in (List.mem_of_getElem? (i := 50) rfl)) rfl), (WT_mem (t1_in (List.mem_of_getElem? (i := 3) rfl)) rfl), ⟨by decide +kernel, by decide +kernel, by decide +kernel⟩, by decide⟩
theorem lc_X4_rocks : LnkC Y_X4_rocks 1 := ⟨(WT_mem (t2_in (List.mem_of_getElem? (i := 104) rfl)) rfl), (WT_mem (t1_in (List.mem_of_getElem? (i := 3) rfl)) rfl), ⟨by decide +kernel, by decide +kernel, by decide +kernel⟩, by decide⟩
theorem lc_X4_takes : LnkC Y_X4_takes 1 := ⟨(WT_mem (t2_in (List.mem_of_getElem? (i := 98) rfl)) rfl), (WT_mem (t1_in (List.mem_of_getElem? (i := 3) rfl)) rfl), ⟨by decide +kernel, by decide +kernel, by decide +kernel⟩, by decide⟩
theorem lc_X4_tell : LnkC Y_X4_tell 1 := ⟨(WT_mem (t2_in (List.mem_of_getElem? (i := 62) rfl)) rfl), (WT_mem (t1_in (List.mem_of_getElem? (i := 3) rfl)) rfl), ⟨by decide +kernel, by decide +kernel, by decide +kernel⟩, by decide⟩
theorem lc_X5_hasRow : LnkC Y_X5_hasRow 2 := ⟨(WT_mem (t4_in (List.mem_of_getElem? (i := 115) rfl)) rfl), (WT_mem (t1_in (List.mem_of_getElem? (i := 10) rfl)) rfl), ⟨by decide +kernel, by decide +kernel, by decide +kernel⟩, by decide⟩
theorem lc_X5_isMissing : LnkC Y_X5_isMissing 0 := ⟨(WT_mem (t4_in (List.mem_of_getElem? (i := 103) rfl)) rfl), (WT_mem (t1_in (List.mem_of_getElem? (i := 10) rfl)) rfl), ⟨by decide +kernel, by decide +kernel, by decide +kernel⟩, by decide⟩
theorem lc_X5_lay : LnkC Y_X5_lay 2 := ⟨(WT_mem (t4_in (List.mem_of_getElem? (i := 94) rfl)) rfl), (WT_mem (t1_in (List.mem_of_getElem? (i := 10) rfl)) rfl), ⟨by decide +kernel, by decide +kernel, by decide +kernel⟩, by decide⟩
theorem lc_X5_put : LnkC Y_X5_put 2 := ⟨(WT_mem (t4_in (List.mem_of_getElem? (i := 107) rfl)) rfl), (WT_mem (t1_in (List.mem_of_getElem? (i := 10) rfl)) rfl), ⟨by decide +kernel, by decide +kernel, by decide +kernel⟩, by decide⟩
theorem lc_X6_advance : LnkC Y_X6_advance 0 := ⟨(WT_mem (t3_in (List.mem_of_getElem? (i := 195) rfl)) rfl), (WT_mem (t1_in (List.mem_of_getElem? (i := 9) rfl)) rfl), ⟨by decide +kernel, by decide +kernel, by decide +kernel⟩, by decide⟩
theorem lc_X6_isWord : LnkC Y_X6_isWord 1 := ⟨(WT_mem (t3_in (List.mem_of_getElem? (i := 209) rfl)) rfl), (WT_mem (t1_in (List.mem_of_getElem? (i := 9) rfl)) rfl), ⟨by decide +kernel, by decide +kernel, by decide +kernel⟩, by decide⟩
theorem lc_X6_put : LnkC Y_X6_put 1 := ⟨(WT_mem (t3_in (List.mem_of_getElem? (i := 171) rfl)) rfl), (WT_mem (t1_in (List.mem_of_getElem? (i := 9) rfl)) rfl), ⟨by decide +kernel, by decide +kernel, by decide +kernel⟩, by decide⟩
theorem lc_X6_rewind : LnkC Y_X6_rewind 0 := ⟨(WT_mem (t3_in (List.mem_of_getElem? (i := 191) rfl)) rfl), (WT_mem (t1_in (List.mem_of_getElem? (i := 9) rfl)) rfl), ⟨by decide +kernel, by decide +kernel, by decide +kernel⟩, by decide⟩
theorem lc_X6_tokenBegunBy : LnkC Y_X6_tokenBegunBy 1 := ⟨(WT_mem (t3_in (List.mem_of_getElem? (i := 174) rfl)) rfl), (WT_mem (t1_in (List.mem_of_getElem? (i := 9) rfl)) rfl), ⟨by decide +kernel, by decide +kernel, by decide +kernel⟩, by decide⟩
theorem lc_X6_value : LnkC Y_X6_value 0 := ⟨(WT_mem (t4_in (List.mem_of_getElem? (i := 34) rfl)) rfl), (WT_mem (t1_in (List.mem_of_getElem? (i := 9) rfl)) rfl), ⟨by decide +kernel, by decide +kernel, by decide +kernel⟩, by decide⟩
theorem lc_X7_areUnlikeOf : LnkC Y_X7_areUnlikeOf 4 := ⟨(WT_mem (t3_in (List.mem_of_getElem? (i := 128) rfl)) rfl), (WT_mem (t1_in (List.mem_of_getElem? (i := 7) rfl)) rfl), ⟨by decide +kernel, by decide +kernel, by decide +kernel⟩, by decide⟩
theorem lc_X7_choose : LnkC Y_X7_choose 3 := ⟨(WT_mem (t3_in (List.mem_of_getElem? (i := 123) rfl)) rfl), (WT_mem (t1_in (List.mem_of_getElem? (i := 7) rfl)) rfl), ⟨by decide +kernel, by decide +kernel, by decide +kernel⟩, by decide⟩
theorem lc_X7_weigh : LnkC Y_X7_weigh 3 := ⟨(WT_mem (t3_in (List.mem_of_getElem? (i := 133) rfl)) rfl), (WT_mem (t1_in (List.mem_of_getElem? (i := 7) rfl)) rfl), ⟨by decide +kernel, by decide +kernel, by decide +kernel⟩, by decide⟩
theorem lc_X8_ahead : LnkC Y_X8_ahead 2 := ⟨(WT_mem (t2_in (List.mem_of_getElem? (i := 209) rfl)) rfl), (WT_mem (t1_in (List.mem_of_getElem? (i := 1) rfl)) rfl), ⟨by decide +kernel, by decide +kernel, by decide +kernel⟩, by decide⟩
theorem lc_X8_armFor : LnkC Y_X8_armFor 2 := ⟨(WT_mem (t3_in (List.mem_of_getElem? (i := 104) rfl)) rfl), (WT_mem (t1_in (List.mem_of_getElem? (i := 1) rfl)) rfl), ⟨by decide +kernel, by decide +kernel, by decide +kernel⟩, by decide⟩
theorem lc_X8_as : LnkC Y_X8_as 2 := ⟨(WT_mem (t4_in (List.mem_of_getElem? (i := 77) rfl)) rfl), (WT_mem (t1_in (List.mem_of_getElem? (i := 1) rfl)) rfl), ⟨by decide +kernel, by decide +kernel, by decide +kernel⟩, by decide⟩
theorem lc_X8_best : LnkC Y_X8_best 3 := ⟨(WT_mem (t3_in (List.mem_of_getElem? (i := 70) rfl)) rfl), (WT_mem (t1_in (List.mem_of_getElem? (i := 1) rfl)) rfl), ⟨by decide +kernel, by decide +kernel, by decide +kernel⟩, by decide⟩
theorem lc_X8_change : LnkC Y_X8_change 3 := ⟨(WT_mem (t2_in (List.mem_of_getElem? (i := 72) rfl)) rfl), (WT_mem (t1_in (List.mem_of_getElem? (i := 1) rfl)) rfl), ⟨by decide +kernel, by decide +kernel, by decide +kernel⟩, by decide⟩
theorem lc_X8_clean : LnkC Y_X8_clean 3 := ⟨(WT_mem (t3_in (List.mem_of_getElem? (i := 10) rfl)) rfl), (WT_mem (t1_in (List.mem_of_getElem? (i := 1) rfl)) rfl), ⟨by decide +kernel, by decide +kernel, by decide +kernel⟩, by decide⟩
theorem lc_X8_copy : LnkC Y_X8_copy 5 := ⟨(WT_mem (t4_in (List.mem_of_getElem? (i := 111) rfl)) rfl), (WT_mem (t1_in (List.mem_of_getElem? (i := 1) rfl)) rfl), ⟨by decide +kernel, by decide +kernel, by decide +kernel⟩, by decide⟩
theorem lc_X8_costs : LnkC Y_X8_costs 2 := ⟨(WT_mem (t3_in (List.mem_of_getElem? (i := 92) rfl)) rfl), (WT_mem (t1_in (List.mem_of_getElem? (i := 1) rfl)) rfl), ⟨by decide +kernel, by decide +kernel, by decide +kernel⟩, by decide⟩
theorem lc_X8_count : LnkC Y_X8_count 1 := ⟨(WT_mem (t4_in (List.mem_of_getElem? (i := 142) rfl)) rfl), (WT_mem (t1_in (List.mem_of_getElem? (i := 1) rfl)) rfl), ⟨by decide +kernel, by decide +kernel, by decide +kernel⟩, by decide⟩
theorem lc_X8_drops : LnkC Y_X8_drops 4 := ⟨(WT_mem (t3_in (List.mem_of_getElem? (i := 18) rfl)) rfl), (WT_mem (t1_in (List.mem_of_getElem? (i := 1) rfl)) rfl), ⟨by decide +kernel, by decide +kernel, by decide +kernel⟩, by decide⟩
theorem lc_X8_even : LnkC Y_X8_even 1 := ⟨(WT_mem (t3_in (List.mem_of_getElem? (i := 82) rfl)) rfl), (WT_mem (t1_in (List.mem_of_getElem? (i := 1) rfl)) rfl), ⟨by decide +kernel, by decide +kernel, by decide +kernel⟩, by decide⟩
theorem lc_X8_feed : LnkC Y_X8_feed 2 := ⟨(WT_mem (t3_in (List.mem_of_getElem? (i := 167) rfl)) rfl), (WT_mem (t1_in (List.mem_of_getElem? (i := 1) rfl)) rfl), ⟨by decide +kernel, by decide +kernel, by decide +kernel⟩, by decide⟩
theorem lc_X8_found : LnkC Y_X8_found 1 := ⟨(WT_mem (t2_in (List.mem_of_getElem? (i := 28) rfl)) rfl), (WT_mem (t1_in (List.mem_of_getElem? (i := 1) rfl)) rfl), ⟨by decide +kernel, by decide +kernel, by decide +kernel⟩, by decide⟩
theorem lc_X8_ground : LnkC Y_X8_ground 2 := ⟨(WT_mem (t2_in (List.mem_of_getElem? (i := 18) rfl)) rfl), (WT_mem (t1_in (List.mem_of_getElem? (i := 1) rfl)) rfl), ⟨by decide +kernel, by decide +kernel, by decide +kernel⟩, by decide⟩
theorem lc_X8_gum : LnkC Y_X8_gum 5 := ⟨(WT_mem (t3_in (List.mem_of_getElem? (i := 141) rfl)) rfl), (WT_mem (t1_in (List.mem_of_getElem? (i := 1) rfl)) rfl), ⟨by decide +kernel, by decide +kernel, by decide +kernel⟩, by decide⟩
theorem lc_X8_hold : LnkC Y_X8_hold 2 := ⟨(WT_mem (t4_in (List.mem_of_getElem? (i := 70) rfl)) rfl), (WT_mem (t1_in (List.mem_of_getElem? (i := 1) rfl)) rfl), ⟨by decide +kernel, by decide +kernel, by decide +kernel⟩, by decide⟩
theorem lc_X8_image : LnkC Y_X8_image 0 := ⟨(WT_mem (t4_in (List.mem_of_getElem? (i := 130) rfl)) rfl), (WT_mem (t1_in (List.mem_of_getElem? (i := 1) rfl)) rfl), ⟨by decide +kernel, by decide +kernel, by decide +kernel⟩, by decide⟩
theorem lc_X8_isPace : LnkC Y_X8_isPace 1 := ⟨(WT_mem (t2_in (List.mem_of_getElem? (i := 86) rfl)) rfl), (WT_mem (t1_in (List.mem_of_getElem? (i := 1) rfl)) rfl), ⟨by decide +kernel, by decide +kernel, by decide +kernel⟩, by decide⟩
theorem lc_X8_isRunner : LnkC Y_X8_isRunner 1 := ⟨(WT_mem (t2_in (List.mem_of_getElem? (i := 58) rfl)) rfl), (WT_mem (t1_in (List.mem_of_getElem? (i := 1) rfl)) rfl), ⟨by decide +kernel, by decide +kernel, by decide +kernel⟩, by decide⟩
theorem lc_X8_isSheet : LnkC Y_X8_isSheet 1 := ⟨(WT_mem (t4_in (List.mem_of_getElem? (i := 90) rfl)) rfl), (WT_mem (t1_in (List.mem_of_getElem? (i := 1) rfl)) rfl), ⟨by decide +kernel, by decide +kernel, by decide +kernel⟩, by decide⟩
theorem lc_X8_isSpot : LnkC Y_X8_isSpot 1 := ⟨(WT_mem (t4_in (List.mem_of_getElem? (i := 73) rfl)) rfl), (WT_mem (t1_in (List.mem_of_getElem? (i := 1) rfl)) rfl), ⟨by decide +kernel, by decide +kernel, by decide +kernel⟩, by decide⟩
theorem lc_X8_isStretch : LnkC Y_X8_isStretch 3 := ⟨(WT_mem (t3_in (List.mem_of_getElem? (i := 14) rfl)) rfl), (WT_mem (t1_in (List.mem_of_getElem? (i := 1) rfl)) rfl), ⟨by decide +kernel, by decide +kernel, by decide +kernel⟩, by decide⟩
theorem lc_X8_isTeamSet : LnkC Y_X8_isTeamSet 1 := ⟨(WT_mem (t3_in (List.mem_of_getElem? (i := 118) rfl)) rfl), (WT_mem (t1_in (List.mem_of_getElem? (i := 1) rfl)) rfl), ⟨by decide +kernel, by decide +kernel, by decide +kernel⟩, by decide⟩
theorem lc_X8_isYard : LnkC Y_X8_isYard 1 := ⟨(WT_mem (t2_in (List.mem_of_getElem? (i := 21) rfl)) rfl), (WT_mem (t1_in (List.mem_of_getElem? (i := 1) rfl)) rfl), ⟨by decide +kernel, by decide +kernel, by decide +kernel⟩, by decide⟩
theorem lc_X8_judge : LnkC Y_X8_judge 1 := ⟨(WT_mem (t4_in (List.mem_of_getElem? (i := 125) rfl)) rfl), (WT_mem (t1_in (List.mem_of_getElem? (i := 1) rfl)) rfl), ⟨by decide +kernel, by decide +kernel, by decide +kernel⟩, by decide⟩
theorem lc_X8_later : LnkC Y_X8_later 1 := ⟨(WT_mem (t3_in (List.mem_of_getElem? (i := 109) rfl)) rfl), (WT_mem (t1_in (List.mem_of_getElem? (i := 1) rfl)) rfl), ⟨by decide +kernel, by decide +kernel, by decide +kernel⟩, by decide⟩
theorem lc_X8_least : LnkC Y_X8_least 3 := ⟨(WT_mem (t3_in (List.mem_of_getElem? (i := 57) rfl)) rfl), (WT_mem (t1_in (List.mem_of_getElem? (i := 1) rfl)) rfl), ⟨by decide +kernel, by decide +kernel, by decide +kernel⟩, by decide⟩
theorem lc_X8_leg : LnkC Y_X8_leg 2 := ⟨(WT_mem (t3_in (List.mem_of_getElem? (i := 137) rfl)) rfl), (WT_mem (t1_in (List.mem_of_getElem? (i := 1) rfl)) rfl), ⟨by decide +kernel, by decide +kernel, by decide +kernel⟩, by decide⟩
theorem lc_X8_load : LnkC Y_X8_load 2 := ⟨(WT_mem (t4_in (List.mem_of_getElem? (i := 120) rfl)) rfl), (WT_mem (t1_in (List.mem_of_getElem? (i := 1) rfl)) rfl), ⟨by decide +kernel, by decide +kernel, by decide +kernel⟩, by decide⟩
theorem lc_X8_mean : LnkC Y_X8_mean 3 := ⟨(WT_mem (t3_in (List.mem_of_getElem? (i := 36) rfl)) rfl), (WT_mem (t1_in (List.mem_of_getElem? (i := 1) rfl)) rfl), ⟨by decide +kernel, by decide +kernel, by decide +kernel⟩, by decide⟩
theorem lc_X8_nerves : LnkC Y_X8_nerves 1 := ⟨(WT_mem (t2_in (List.mem_of_getElem? (i := 157) rfl)) rfl), (WT_mem (t1_in (List.mem_of_getElem? (i := 1) rfl)) rfl), ⟨by decide +kernel, by decide +kernel, by decide +kernel⟩, by decide⟩
theorem lc_X8_next : LnkC Y_X8_next 0 := ⟨(WT_mem (t2_in (List.mem_of_getElem? (i := 162) rfl)) rfl), (WT_mem (t1_in (List.mem_of_getElem? (i := 1) rfl)) rfl), ⟨by decide +kernel, by decide +kernel, by decide +kernel⟩, by decide⟩
theorem lc_X8_now : LnkC Y_X8_now 1 := ⟨(WT_mem (t2_in (List.mem_of_getElem? (i := 136) rfl)) rfl), (WT_mem (t1_in (List.mem_of_getElem? (i := 1) rfl)) rfl), ⟨by decide +kernel, by decide +kernel, by decide +kernel⟩, by decide⟩
theorem lc_X8_odds : LnkC Y_X8_odds 4 := ⟨(WT_mem (t2_in (List.mem_of_getElem? (i := 112) rfl)) rfl), (WT_mem (t1_in (List.mem_of_getElem? (i := 1) rfl)) rfl), ⟨by decide +kernel, by decide +kernel, by decide +kernel⟩, by decide⟩
theorem lc_X8_of : LnkC Y_X8_of 2 := ⟨(WT_mem (t2_in (List.mem_of_getElem? (i := 54) rfl)) rfl), (WT_mem (t1_in (List.mem_of_getElem? (i := 1) rfl)) rfl), ⟨by decide +kernel, by decide +kernel, by decide +kernel⟩, by decide⟩
theorem lc_X8_pace : LnkC Y_X8_pace 4 := ⟨(WT_mem (t2_in (List.mem_of_getElem? (i := 83) rfl)) rfl), (WT_mem (t1_in (List.mem_of_getElem? (i := 1) rfl)) rfl), ⟨by decide +kernel, by decide +kernel, by decide +kernel⟩, by decide⟩
theorem lc_X8_paceOf : LnkC Y_X8_paceOf 2 := ⟨(WT_mem (t2_in (List.mem_of_getElem? (i := 90) rfl)) rfl), (WT_mem (t1_in (List.mem_of_getElem? (i := 1) rfl)) rfl), ⟨by decide +kernel, by decide +kernel, by decide +kernel⟩, by decide⟩
theorem lc_X8_pick : LnkC Y_X8_pick 1 := ⟨(WT_mem (t2_in (List.mem_of_getElem? (i := 33) rfl)) rfl), (WT_mem (t1_in (List.mem_of_getElem? (i := 1) rfl)) rfl), ⟨by decide +kernel, by decide +kernel, by decide +kernel⟩, by decide⟩
theorem lc_X8_place : LnkC Y_X8_place 1 := ⟨(WT_mem (t2_in (List.mem_of_getElem? (i := 238) rfl)) rfl), (WT_mem (t1_in (List.mem_of_getElem? (i := 1) rfl)) rfl), ⟨by decide +kernel, by decide +kernel, by decide +kernel⟩, by decide⟩
theorem lc_X8_rain : LnkC Y_X8_rain 1 := ⟨(WT_mem (t3_in (List.mem_of_getElem? (i := 154) rfl)) rfl), (WT_mem (t1_in (List.mem_of_getElem? (i := 1) rfl)) rfl), ⟨by decide +kernel, by decide +kernel, by decide +kernel⟩, by decide⟩
theorem lc_X8_runAllHome : LnkC Y_X8_runAllHome 0 := ⟨(WT_mem (t2_in (List.mem_of_getElem? (i := 230) rfl)) rfl), (WT_mem (t1_in (List.mem_of_getElem? (i := 1) rfl)) rfl), ⟨by decide +kernel, by decide +kernel, by decide +kernel⟩, by decide⟩
theorem lc_X8_runner : LnkC Y_X8_runner 3 := ⟨(WT_mem (t2_in (List.mem_of_getElem? (i := 37) rfl)) rfl), (WT_mem (t1_in (List.mem_of_getElem? (i := 1) rfl)) rfl), ⟨by decide +kernel, by decide +kernel, by decide +kernel⟩, by decide⟩
theorem lc_X8_seed : LnkC Y_X8_seed 1 := ⟨(WT_mem (t3_in (List.mem_of_getElem? (i := 163) rfl)) rfl), (WT_mem (t1_in (List.mem_of_getElem? (i := 1) rfl)) rfl), ⟨by decide +kernel, by decide +kernel, by decide +kernel⟩, by decide⟩
theorem lc_X8_sheet : LnkC Y_X8_sheet 3 := ⟨(WT_mem (t4_in (List.mem_of_getElem? (i := 87) rfl)) rfl), (WT_mem (t1_in (List.mem_of_getElem? (i := 1) rfl)) rfl), ⟨by decide +kernel, by decide +kernel, by decide +kernel⟩, by decide⟩
theorem lc_X8_spoon : LnkC Y_X8_spoon 1 := ⟨(WT_mem (t3_in (List.mem_of_getElem? (i := 100) rfl)) rfl), (WT_mem (t1_in (List.mem_of_getElem? (i := 1) rfl)) rfl), ⟨by decide +kernel, by decide +kernel, by decide +kernel⟩, by decide⟩
theorem lc_X8_start : LnkC Y_X8_start 0 := ⟨(WT_mem (t2_in (List.mem_of_getElem? (i := 190) rfl)) rfl), (WT_mem (t1_in (List.mem_of_getElem? (i := 1) rfl)) rfl), ⟨by decide +kernel, by decide +kernel, by decide +kernel⟩, by decide⟩
theorem lc_X8_status : LnkC Y_X8_status 1 := ⟨(WT_mem (t4_in (List.mem_of_getElem? (i := 154) rfl)) rfl), (WT_mem (t1_in (List.mem_of_getElem? (i := 1) rfl)) rfl), ⟨by decide +kernel, by decide +kernel, by decide +kernel⟩, by decide⟩
theorem lc_X8_steps : LnkC Y_X8_steps 1 := ⟨(WT_mem (t2_in (List.mem_of_getElem? (i := 170) rfl)) rfl), (WT_mem (t1_in (List.mem_of_getElem? (i := 1) rfl)) rfl), ⟨by decide +kernel, by decide +kernel, by decide +kernel⟩, by decide⟩
theorem lc_X8_suspect : LnkC Y_X8_suspect 3 := ⟨(WT_mem (t3_in (List.mem_of_getElem? (i := 149) rfl)) rfl), (WT_mem (t1_in (List.mem_of_getElem? (i := 1) rfl)) rfl), ⟨by decide +kernel, by decide +kernel, by decide +kernel⟩, by decide⟩
theorem lc_X8_team : LnkC Y_X8_team 1 := ⟨(WT_mem (t3_in (List.mem_of_getElem? (i := 114) rfl)) rfl), (WT_mem (t1_in (List.mem_of_getElem? (i := 1) rfl)) rfl), ⟨by decide +kernel, by decide +kernel, by decide +kernel⟩, by decide⟩
theorem lc_X8_tear : LnkC Y_X8_tear 0 := ⟨(WT_mem (t4_in (List.mem_of_getElem? (i := 138) rfl)) rfl), (WT_mem (t1_in (List.mem_of_getElem? (i := 1) rfl)) rfl), ⟨by decide +kernel, by decide +kernel, by decide +kernel⟩, by decide⟩
theorem lc_X8_text : LnkC Y_X8_text 0 := ⟨(WT_mem (t3_in (List.mem_of_getElem? (i := 183) rfl)) rfl), (WT_mem (t1_in (List.mem_of_getElem? (i := 1) rfl)) rfl), ⟨by decide +kernel, by decide +kernel, by decide +kernel⟩, by decide⟩
theorem lc_X8_told : LnkC Y_X8_told 3 := ⟨(WT_mem (t2_in (List.mem_of_getElem? (i := 94) rfl)) rfl), (WT_mem (t1_in (List.mem_of_getElem? (i := 1) rfl)) rfl), ⟨by decide +kernel, by decide +kernel, by decide +kernel⟩, by decide⟩
theorem lc_X8_train : LnkC Y_X8_train 1 := ⟨(WT_mem (t3_in (List.mem_of_getElem? (i := 78) rfl)) rfl), (WT_mem (t1_in (List.mem_of_getElem? (i := 1) rfl)) rfl), ⟨by decide +kernel, by decide +kernel, by decide +kernel⟩, by decide⟩
theorem lc_X8_tryGum : LnkC Y_X8_tryGum 1 := ⟨(WT_mem (t3_in (List.mem_of_getElem? (i := 145) rfl)) rfl), (WT_mem (t1_in (List.mem_of_getElem? (i := 1) rfl)) rfl), ⟨by decide +kernel, by decide +kernel, by decide +kernel⟩, by decide⟩
theorem lc_X8_undo : LnkC Y_X8_undo 0 := ⟨(WT_mem (t4_in (List.mem_of_getElem? (i := 134) rfl)) rfl), (WT_mem (t1_in (List.mem_of_getElem? (i := 1) rfl)) rfl), ⟨by decide +kernel, by decide +kernel, by decide +kernel⟩, by decide⟩
theorem lc_X8_wholeMean : LnkC Y_X8_wholeMean 2 := ⟨(WT_mem (t3_in (List.mem_of_getElem? (i := 88) rfl)) rfl), (WT_mem (t1_in (List.mem_of_getElem? (i := 1) rfl)) rfl), ⟨by decide +kernel, by decide +kernel, by decide +kernel⟩, by decide⟩
theorem lc_X8_winner : LnkC Y_X8_winner 0 := ⟨(WT_mem (t2_in (List.mem_of_getElem? (i := 226) rfl)) rfl), (WT_mem (t1_in (List.mem_of_getElem? (i := 1) rfl)) rfl), ⟨by decide +kernel, by decide +kernel, by decide +kernel⟩, by decide⟩
theorem lc_X8_wins : LnkC Y_X8_wins 2 := ⟨(WT_mem (t3_in (List.mem_of_getElem? (i := 6) rfl)) rfl), (WT_mem (t1_in (List.mem_of_getElem? (i := 1) rfl)) rfl), ⟨by decide +kernel, by decide +kernel, by decide +kernel⟩, by decide⟩
theorem lc_X8_wipe : LnkC Y_X8_wipe 0 := ⟨(WT_mem (t3_in (List.mem_of_getElem? (i := 179) rfl)) rfl), (WT_mem (t1_in (List.mem_of_getElem? (i := 1) rfl)) rfl), ⟨by decide +kernel, by decide +kernel, by decide +kernel⟩, by decide⟩
theorem lc_X8_within : LnkC Y_X8_within 3 := ⟨(WT_mem (t2_in (List.mem_of_getElem? (i := 24) rfl)) rfl), (WT_mem (t1_in (List.mem_of_getElem? (i := 1) rfl)) rfl), ⟨by decide +kernel, by decide +kernel, by decide +kernel⟩, by decide⟩
theorem lc_X8_worst : LnkC Y_X8_worst 1 := ⟨(WT_mem (t3_in (List.mem_of_getElem? (i := 96) rfl)) rfl), (WT_mem (t1_in (List.mem_of_getElem? (i := 1) rfl)) rfl), ⟨by decide +kernel, by decide +kernel, by decide +kernel⟩, by decide⟩
theorem lc_X8_write : LnkC Y_X8_write 3 := ⟨(WT_mem (t4_in (List.mem_of_getElem? (i := 99) rfl)) rfl), (WT_mem (t1_in (List.mem_of_getElem? (i := 1) rfl)) rfl), ⟨by decide +kernel, by decide +kernel, by decide +kernel⟩, by decide⟩
theorem lc_X9_above : LnkC Y_X9_above 1 := ⟨(WT_mem (t6_in (List.mem_of_getElem? (i := 154) rfl)) rfl), (WT_mem (t1_in (List.mem_of_getElem? (i := 11) rfl)) rfl), ⟨by decide +kernel, by decide +kernel, by decide +kernel⟩, by decide⟩
theorem lc_X9_ahead : LnkC Y_X9_ahead 2 := ⟨(WT_mem (t5_in (List.mem_of_getElem? (i := 160) rfl)) rfl), (WT_mem (t1_in (List.mem_of_getElem? (i := 11) rfl)) rfl), ⟨by decide +kernel, by decide +kernel, by decide +kernel⟩, by decide⟩
theorem lc_X9_allDrops : LnkC Y_X9_allDrops 0 := ⟨(WT_mem (t6_in (List.mem_of_getElem? (i := 199) rfl)) rfl), (WT_mem (t1_in (List.mem_of_getElem? (i := 11) rfl)) rfl), ⟨by decide +kernel, by decide +kernel, by decide +kernel⟩, by decide⟩
theorem lc_X9_allGoHome : LnkC Y_X9_allGoHome 0 := ⟨(WT_mem (t5_in (List.mem_of_getElem? (i := 171) rfl)) rfl), (WT_mem (t1_in (List.mem_of_getElem? (i := 11) rfl)) rfl), ⟨by decide +kernel, by decide +kernel, by decide +kernel⟩, by decide⟩
theorem lc_X9_armFor : LnkC Y_X9_armFor 2 := ⟨(WT_mem (t6_in (List.mem_of_getElem? (i := 20) rfl)) rfl), (WT_mem (t1_in (List.mem_of_getElem? (i := 11) rfl)) rfl), ⟨by decide +kernel, by decide +kernel, by decide +kernel⟩, by decide⟩
theorem lc_X9_as : LnkC Y_X9_as 2 := ⟨(WT_mem (t6_in (List.mem_of_getElem? (i := 150) rfl)) rfl), (WT_mem (t1_in (List.mem_of_getElem? (i := 11) rfl)) rfl), ⟨by decide +kernel, by decide +kernel, by decide +kernel⟩, by decide⟩
theorem lc_X9_becomes : LnkC Y_X9_becomes 2 := ⟨(WT_mem (t4_in (List.mem_of_getElem? (i := 234) rfl)) rfl), (WT_mem (t1_in (List.mem_of_getElem? (i := 11) rfl)) rfl), ⟨by decide +kernel, by decide +kernel, by decide +kernel⟩, by decide⟩
theorem lc_X9_behind : LnkC Y_X9_behind 4 := ⟨(WT_mem (t5_in (List.mem_of_getElem? (i := 224) rfl)) rfl), (WT_mem (t1_in (List.mem_of_getElem? (i := 11) rfl)) rfl), ⟨by decide +kernel, by decide +kernel, by decide +kernel⟩, by decide⟩
theorem lc_X9_best : LnkC Y_X9_best 3 := ⟨(WT_mem (t5_in (List.mem_of_getElem? (i := 232) rfl)) rfl), (WT_mem (t1_in (List.mem_of_getElem? (i := 11) rfl)) rfl), ⟨by decide +kernel, by decide +kernel, by decide +kernel⟩, by decide⟩
theorem lc_X9_bestTeam : LnkC Y_X9_bestTeam 1 := ⟨(WT_mem (t6_in (List.mem_of_getElem? (i := 37) rfl)) rfl), (WT_mem (t1_in (List.mem_of_getElem? (i := 11) rfl)) rfl), ⟨by decide +kernel, by decide +kernel, by decide +kernel⟩, by decide⟩
theorem lc_X9_change : LnkC Y_X9_change 3 := ⟨(WT_mem (t5_in (List.mem_of_getElem? (i := 44) rfl)) rfl), (WT_mem (t1_in (List.mem_of_getElem? (i := 11) rfl)) rfl), ⟨by decide +kernel, by decide +kernel, by decide +kernel⟩, by decide⟩
theorem lc_X9_clean : LnkC Y_X9_clean 3 := ⟨(WT_mem (t5_in (List.mem_of_getElem? (i := 192) rfl)) rfl), (WT_mem (t1_in (List.mem_of_getElem? (i := 11) rfl)) rfl), ⟨by decide +kernel, by decide +kernel, by decide +kernel⟩, by decide⟩
theorem lc_X9_comes : LnkC Y_X9_comes 4 := ⟨(WT_mem (t5_in (List.mem_of_getElem? (i := 19) rfl)) rfl), (WT_mem (t1_in (List.mem_of_getElem? (i := 11) rfl)) rfl), ⟨by decide +kernel, by decide +kernel, by decide +kernel⟩, by decide⟩
theorem lc_X9_copy : LnkC Y_X9_copy 5 := ⟨(WT_mem (t6_in (List.mem_of_getElem? (i := 171) rfl)) rfl), (WT_mem (t1_in (List.mem_of_getElem? (i := 11) rfl)) rfl), ⟨by decide +kernel, by decide +kernel, by decide +kernel⟩, by decide⟩
theorem lc_X9_costs : LnkC Y_X9_costs 2 := ⟨(WT_mem (t6_in (List.mem_of_getElem? (i := 8) rfl)) rfl), (WT_mem (t1_in (List.mem_of_getElem? (i := 11) rfl)) rfl), ⟨by decide +kernel, by decide +kernel, by decide +kernel⟩, by decide⟩
theorem lc_X9_count : LnkC Y_X9_count 1 := ⟨(WT_mem (t6_in (List.mem_of_getElem? (i := 195) rfl)) rfl), (WT_mem (t1_in (List.mem_of_getElem? (i := 11) rfl)) rfl), ⟨by decide +kernel, by decide +kernel, by decide +kernel⟩, by decide⟩
theorem lc_X9_draw : LnkC Y_X9_draw 0 := ⟨(WT_mem (t5_in (List.mem_of_getElem? (i := 140) rfl)) rfl), (WT_mem (t1_in (List.mem_of_getElem? (i := 11) rfl)) rfl), ⟨by decide +kernel, by decide +kernel, by decide +kernel⟩, by decide⟩
theorem lc_X9_dropping (k : Nat) : LnkC (Y_X9_dropping k) 5 := ⟨(WT_mem (t5_in (List.mem_of_getElem? (i := 208) rfl)) rfl), (WT_mem (t1_in (List.mem_of_getElem? (i := 11) rfl)) rfl), ⟨(by decide +kernel : yX9_dropping.cls ≠ "java/lang/invoke/MethodHandle"), (by decide +kernel : yX9_dropping.cls ≠ "java/lang/invoke/VarHandle"), (by decide +kernel : (parseMethodDescriptor yX9_dropping.desc).map (fun d => d.parameters.length) = some 5)⟩, (by decide : 9 ≤ 21)⟩
theorem lc_X9_droppingAs : LnkC Y_X9_droppingAs 5 := ⟨(WT_mem (t6_in (List.mem_of_getElem? (i := 50) rfl)) rfl), (WT_mem (t1_in (List.mem_of_getElem? (i := 11) rfl)) rfl), ⟨by decide +kernel, by decide +kernel, by decide +kernel⟩, by decide⟩
theorem lc_X9_drops : LnkC Y_X9_drops 4 := ⟨(WT_mem (t5_in (List.mem_of_getElem? (i := 204) rfl)) rfl), (WT_mem (t1_in (List.mem_of_getElem? (i := 11) rfl)) rfl), ⟨by decide +kernel, by decide +kernel, by decide +kernel⟩, by decide⟩
theorem lc_X9_even : LnkC Y_X9_even 1 := ⟨(WT_mem (t6_in (List.mem_of_getElem? (i := 0) rfl)) rfl), (WT_mem (t1_in (List.mem_of_getElem? (i := 11) rfl)) rfl), ⟨by decide +kernel, by decide +kernel, by decide +kernel⟩, by decide⟩
theorem lc_X9_feed : LnkC Y_X9_feed 2 := ⟨(WT_mem (t6_in (List.mem_of_getElem? (i := 71) rfl)) rfl), (WT_mem (t1_in (List.mem_of_getElem? (i := 11) rfl)) rfl), ⟨by decide +kernel, by decide +kernel, by decide +kernel⟩, by decide⟩
theorem lc_X9_finds : LnkC Y_X9_finds 1 := ⟨(WT_mem (t4_in (List.mem_of_getElem? (i := 239) rfl)) rfl), (WT_mem (t1_in (List.mem_of_getElem? (i := 11) rfl)) rfl), ⟨by decide +kernel, by decide +kernel, by decide +kernel⟩, by decide⟩
theorem lc_X9_firstHome : LnkC Y_X9_firstHome 0 := ⟨(WT_mem (t5_in (List.mem_of_getElem? (i := 175) rfl)) rfl), (WT_mem (t1_in (List.mem_of_getElem? (i := 11) rfl)) rfl), ⟨by decide +kernel, by decide +kernel, by decide +kernel⟩, by decide⟩
theorem lc_X9_grass : LnkC Y_X9_grass 0 := ⟨(WT_mem (t6_in (List.mem_of_getElem? (i := 63) rfl)) rfl), (WT_mem (t1_in (List.mem_of_getElem? (i := 11) rfl)) rfl), ⟨by decide +kernel, by decide +kernel, by decide +kernel⟩, by decide⟩
theorem lc_X9_ground : LnkC Y_X9_ground 2 := ⟨(WT_mem (t4_in (List.mem_of_getElem? (i := 222) rfl)) rfl), (WT_mem (t1_in (List.mem_of_getElem? (i := 11) rfl)) rfl), ⟨by decide +kernel, by decide +kernel, by decide +kernel⟩, by decide⟩
theorem lc_X9_groundHere : LnkC Y_X9_groundHere 0 := ⟨(WT_mem (t6_in (List.mem_of_getElem? (i := 95) rfl)) rfl), (WT_mem (t1_in (List.mem_of_getElem? (i := 11) rfl)) rfl), ⟨by decide +kernel, by decide +kernel, by decide +kernel⟩, by decide⟩
theorem lc_X9_groundItem : LnkC Y_X9_groundItem 1 := ⟨(WT_mem (t6_in (List.mem_of_getElem? (i := 110) rfl)) rfl), (WT_mem (t1_in (List.mem_of_getElem? (i := 11) rfl)) rfl), ⟨by decide +kernel, by decide +kernel, by decide +kernel⟩, by decide⟩
theorem lc_X9_gum : LnkC Y_X9_gum 5 := ⟨(WT_mem (t6_in (List.mem_of_getElem? (i := 46) rfl)) rfl), (WT_mem (t1_in (List.mem_of_getElem? (i := 11) rfl)) rfl), ⟨by decide +kernel, by decide +kernel, by decide +kernel⟩, by decide⟩
theorem lc_X9_hold : LnkC Y_X9_hold 2 := ⟨(WT_mem (t6_in (List.mem_of_getElem? (i := 146) rfl)) rfl), (WT_mem (t1_in (List.mem_of_getElem? (i := 11) rfl)) rfl), ⟨by decide +kernel, by decide +kernel, by decide +kernel⟩, by decide⟩
theorem lc_X9_holding : LnkC Y_X9_holding 0 := ⟨(WT_mem (t6_in (List.mem_of_getElem? (i := 203) rfl)) rfl), (WT_mem (t1_in (List.mem_of_getElem? (i := 11) rfl)) rfl), ⟨by decide +kernel, by decide +kernel, by decide +kernel⟩, by decide⟩
theorem lc_X9_holds : LnkC Y_X9_holds 1 := ⟨(WT_mem (t5_in (List.mem_of_getElem? (i := 40) rfl)) rfl), (WT_mem (t1_in (List.mem_of_getElem? (i := 11) rfl)) rfl), ⟨by decide +kernel, by decide +kernel, by decide +kernel⟩, by decide⟩
theorem lc_X9_home : LnkC Y_X9_home 0 := ⟨(WT_mem (t5_in (List.mem_of_getElem? (i := 149) rfl)) rfl), (WT_mem (t1_in (List.mem_of_getElem? (i := 11) rfl)) rfl), ⟨by decide +kernel, by decide +kernel, by decide +kernel⟩, by decide⟩
theorem lc_X9_hurts : LnkC Y_X9_hurts 2 := ⟨(WT_mem (t5_in (List.mem_of_getElem? (i := 88) rfl)) rfl), (WT_mem (t1_in (List.mem_of_getElem? (i := 11) rfl)) rfl), ⟨by decide +kernel, by decide +kernel, by decide +kernel⟩, by decide⟩
theorem lc_X9_image : LnkC Y_X9_image 0 := ⟨(WT_mem (t6_in (List.mem_of_getElem? (i := 183) rfl)) rfl), (WT_mem (t1_in (List.mem_of_getElem? (i := 11) rfl)) rfl), ⟨by decide +kernel, by decide +kernel, by decide +kernel⟩, by decide⟩
theorem lc_X9_in : LnkC Y_X9_in 3 := ⟨(WT_mem (t4_in (List.mem_of_getElem? (i := 229) rfl)) rfl), (WT_mem (t1_in (List.mem_of_getElem? (i := 11) rfl)) rfl), ⟨by decide +kernel, by decide +kernel, by decide +kernel⟩, by decide⟩
theorem lc_X9_is : LnkC Y_X9_is 2 := ⟨(WT_mem (t5_in (List.mem_of_getElem? (i := 36) rfl)) rfl), (WT_mem (t1_in (List.mem_of_getElem? (i := 11) rfl)) rfl), ⟨by decide +kernel, by decide +kernel, by decide +kernel⟩, by decide⟩
theorem lc_X9_isAhead : LnkC Y_X9_isAhead 2 := ⟨(WT_mem (t5_in (List.mem_of_getElem? (i := 179) rfl)) rfl), (WT_mem (t1_in (List.mem_of_getElem? (i := 11) rfl)) rfl), ⟨by decide +kernel, by decide +kernel, by decide +kernel⟩, by decide⟩
theorem lc_X9_isByte : LnkC Y_X9_isByte 3 := ⟨(WT_mem (t6_in (List.mem_of_getElem? (i := 87) rfl)) rfl), (WT_mem (t1_in (List.mem_of_getElem? (i := 11) rfl)) rfl), ⟨by decide +kernel, by decide +kernel, by decide +kernel⟩, by decide⟩
theorem lc_X9_isHome : LnkC Y_X9_isHome 1 := ⟨(WT_mem (t5_in (List.mem_of_getElem? (i := 96) rfl)) rfl), (WT_mem (t1_in (List.mem_of_getElem? (i := 11) rfl)) rfl), ⟨by decide +kernel, by decide +kernel, by decide +kernel⟩, by decide⟩
theorem lc_X9_isKind : LnkC Y_X9_isKind 1 := ⟨(WT_mem (t5_in (List.mem_of_getElem? (i := 11) rfl)) rfl), (WT_mem (t1_in (List.mem_of_getElem? (i := 11) rfl)) rfl), ⟨by decide +kernel, by decide +kernel, by decide +kernel⟩, by decide⟩
theorem lc_X9_isMean : LnkC Y_X9_isMean 4 := ⟨(WT_mem (t5_in (List.mem_of_getElem? (i := 216) rfl)) rfl), (WT_mem (t1_in (List.mem_of_getElem? (i := 11) rfl)) rfl), ⟨by decide +kernel, by decide +kernel, by decide +kernel⟩, by decide⟩
theorem lc_X9_isPace : LnkC Y_X9_isPace 1 := ⟨(WT_mem (t5_in (List.mem_of_getElem? (i := 56) rfl)) rfl), (WT_mem (t1_in (List.mem_of_getElem? (i := 11) rfl)) rfl), ⟨by decide +kernel, by decide +kernel, by decide +kernel⟩, by decide⟩
theorem lc_X9_isPart : LnkC Y_X9_isPart 2 := ⟨(WT_mem (t5_in (List.mem_of_getElem? (i := 47) rfl)) rfl), (WT_mem (t1_in (List.mem_of_getElem? (i := 11) rfl)) rfl), ⟨by decide +kernel, by decide +kernel, by decide +kernel⟩, by decide⟩
theorem lc_X9_isRunner : LnkC Y_X9_isRunner 1 := ⟨(WT_mem (t5_in (List.mem_of_getElem? (i := 31) rfl)) rfl), (WT_mem (t1_in (List.mem_of_getElem? (i := 11) rfl)) rfl), ⟨by decide +kernel, by decide +kernel, by decide +kernel⟩, by decide⟩
theorem lc_X9_isSheet : LnkC Y_X9_isSheet 1 := ⟨(WT_mem (t6_in (List.mem_of_getElem? (i := 162) rfl)) rfl), (WT_mem (t1_in (List.mem_of_getElem? (i := 11) rfl)) rfl), ⟨by decide +kernel, by decide +kernel, by decide +kernel⟩, by decide⟩
theorem lc_X9_isSign : LnkC Y_X9_isSign 1 := ⟨(WT_mem (t6_in (List.mem_of_getElem? (i := 142) rfl)) rfl), (WT_mem (t1_in (List.mem_of_getElem? (i := 11) rfl)) rfl), ⟨by decide +kernel, by decide +kernel, by decide +kernel⟩, by decide⟩
theorem lc_X9_isStretch : LnkC Y_X9_isStretch 4 := ⟨(WT_mem (t5_in (List.mem_of_getElem? (i := 196) rfl)) rfl), (WT_mem (t1_in (List.mem_of_getElem? (i := 11) rfl)) rfl), ⟨by decide +kernel, by decide +kernel, by decide +kernel⟩, by decide⟩
theorem lc_X9_isTeam : LnkC Y_X9_isTeam 1 := ⟨(WT_mem (t6_in (List.mem_of_getElem? (i := 33) rfl)) rfl), (WT_mem (t1_in (List.mem_of_getElem? (i := 11) rfl)) rfl), ⟨by decide +kernel, by decide +kernel, by decide +kernel⟩, by decide⟩
theorem lc_X9_isWord : LnkC Y_X9_isWord 1 := ⟨(WT_mem (t6_in (List.mem_of_getElem? (i := 100) rfl)) rfl), (WT_mem (t1_in (List.mem_of_getElem? (i := 11) rfl)) rfl), ⟨by decide +kernel, by decide +kernel, by decide +kernel⟩, by decide⟩
theorem lc_X9_isYard : LnkC Y_X9_isYard 1 := ⟨(WT_mem (t4_in (List.mem_of_getElem? (i := 225) rfl)) rfl), (WT_mem (t1_in (List.mem_of_getElem? (i := 11) rfl)) rfl), ⟨by decide +kernel, by decide +kernel, by decide +kernel⟩, by decide⟩
theorem lc_X9_item : LnkC Y_X9_item 0 := ⟨(WT_mem (t6_in (List.mem_of_getElem? (i := 91) rfl)) rfl), (WT_mem (t1_in (List.mem_of_getElem? (i := 11) rfl)) rfl), ⟨by decide +kernel, by decide +kernel, by decide +kernel⟩, by decide⟩
theorem lc_X9_judge : LnkC Y_X9_judge 1 := ⟨(WT_mem (t6_in (List.mem_of_getElem? (i := 179) rfl)) rfl), (WT_mem (t1_in (List.mem_of_getElem? (i := 11) rfl)) rfl), ⟨by decide +kernel, by decide +kernel, by decide +kernel⟩, by decide⟩
theorem lc_X9_kindHere : LnkC Y_X9_kindHere 0 := ⟨(WT_mem (t6_in (List.mem_of_getElem? (i := 124) rfl)) rfl), (WT_mem (t1_in (List.mem_of_getElem? (i := 11) rfl)) rfl), ⟨by decide +kernel, by decide +kernel, by decide +kernel⟩, by decide⟩
theorem lc_X9_later : LnkC Y_X9_later 1 := ⟨(WT_mem (t6_in (List.mem_of_getElem? (i := 25) rfl)) rfl), (WT_mem (t1_in (List.mem_of_getElem? (i := 11) rfl)) rfl), ⟨by decide +kernel, by decide +kernel, by decide +kernel⟩, by decide⟩
theorem lc_X9_least : LnkC Y_X9_least 3 := ⟨(WT_mem (t5_in (List.mem_of_getElem? (i := 228) rfl)) rfl), (WT_mem (t1_in (List.mem_of_getElem? (i := 11) rfl)) rfl), ⟨by decide +kernel, by decide +kernel, by decide +kernel⟩, by decide⟩
theorem lc_X9_leg : LnkC Y_X9_leg 2 := ⟨(WT_mem (t6_in (List.mem_of_getElem? (i := 41) rfl)) rfl), (WT_mem (t1_in (List.mem_of_getElem? (i := 11) rfl)) rfl), ⟨by decide +kernel, by decide +kernel, by decide +kernel⟩, by decide⟩
theorem lc_X9_load : LnkC Y_X9_load 2 := ⟨(WT_mem (t6_in (List.mem_of_getElem? (i := 175) rfl)) rfl), (WT_mem (t1_in (List.mem_of_getElem? (i := 11) rfl)) rfl), ⟨by decide +kernel, by decide +kernel, by decide +kernel⟩, by decide⟩
theorem lc_X9_makes : LnkC Y_X9_makes 3 := ⟨(WT_mem (t5_in (List.mem_of_getElem? (i := 23) rfl)) rfl), (WT_mem (t1_in (List.mem_of_getElem? (i := 11) rfl)) rfl), ⟨by decide +kernel, by decide +kernel, by decide +kernel⟩, by decide⟩
theorem lc_X9_many : LnkC Y_X9_many 1 := ⟨(WT_mem (t5_in (List.mem_of_getElem? (i := 152) rfl)) rfl), (WT_mem (t1_in (List.mem_of_getElem? (i := 11) rfl)) rfl), ⟨by decide +kernel, by decide +kernel, by decide +kernel⟩, by decide⟩
theorem lc_X9_mean : LnkC Y_X9_mean 3 := ⟨(WT_mem (t5_in (List.mem_of_getElem? (i := 212) rfl)) rfl), (WT_mem (t1_in (List.mem_of_getElem? (i := 11) rfl)) rfl), ⟨by decide +kernel, by decide +kernel, by decide +kernel⟩, by decide⟩
theorem lc_X9_meanOf : LnkC Y_X9_meanOf 1 := ⟨(WT_mem (t6_in (List.mem_of_getElem? (i := 4) rfl)) rfl), (WT_mem (t1_in (List.mem_of_getElem? (i := 11) rfl)) rfl), ⟨by decide +kernel, by decide +kernel, by decide +kernel⟩, by decide⟩
theorem lc_X9_means : LnkC Y_X9_means 3 := ⟨(WT_mem (t5_in (List.mem_of_getElem? (i := 220) rfl)) rfl), (WT_mem (t1_in (List.mem_of_getElem? (i := 11) rfl)) rfl), ⟨by decide +kernel, by decide +kernel, by decide +kernel⟩, by decide⟩
theorem lc_X9_nerves : LnkC Y_X9_nerves 1 := ⟨(WT_mem (t5_in (List.mem_of_getElem? (i := 110) rfl)) rfl), (WT_mem (t1_in (List.mem_of_getElem? (i := 11) rfl)) rfl), ⟨by decide +kernel, by decide +kernel, by decide +kernel⟩, by decide⟩
theorem lc_X9_nervesOf : LnkC Y_X9_nervesOf 1 := ⟨(WT_mem (t5_in (List.mem_of_getElem? (i := 105) rfl)) rfl), (WT_mem (t1_in (List.mem_of_getElem? (i := 11) rfl)) rfl), ⟨by decide +kernel, by decide +kernel, by decide +kernel⟩, by decide⟩
theorem lc_X9_next : LnkC Y_X9_next 0 := ⟨(WT_mem (t5_in (List.mem_of_getElem? (i := 114) rfl)) rfl), (WT_mem (t1_in (List.mem_of_getElem? (i := 11) rfl)) rfl), ⟨by decide +kernel, by decide +kernel, by decide +kernel⟩, by decide⟩
theorem lc_X9_now : LnkC Y_X9_now 1 := ⟨(WT_mem (t5_in (List.mem_of_getElem? (i := 92) rfl)) rfl), (WT_mem (t1_in (List.mem_of_getElem? (i := 11) rfl)) rfl), ⟨by decide +kernel, by decide +kernel, by decide +kernel⟩, by decide⟩
theorem lc_X9_number : LnkC Y_X9_number 2 := ⟨(WT_mem (t6_in (List.mem_of_getElem? (i := 114) rfl)) rfl), (WT_mem (t1_in (List.mem_of_getElem? (i := 11) rfl)) rfl), ⟨by decide +kernel, by decide +kernel, by decide +kernel⟩, by decide⟩
theorem lc_X9_odds : LnkC Y_X9_odds 4 := ⟨(WT_mem (t5_in (List.mem_of_getElem? (i := 80) rfl)) rfl), (WT_mem (t1_in (List.mem_of_getElem? (i := 11) rfl)) rfl), ⟨by decide +kernel, by decide +kernel, by decide +kernel⟩, by decide⟩
theorem lc_X9_oddsAt : LnkC Y_X9_oddsAt 3 := ⟨(WT_mem (t5_in (List.mem_of_getElem? (i := 200) rfl)) rfl), (WT_mem (t1_in (List.mem_of_getElem? (i := 11) rfl)) rfl), ⟨by decide +kernel, by decide +kernel, by decide +kernel⟩, by decide⟩
theorem lc_X9_oddsBy : LnkC Y_X9_oddsBy 5 := ⟨(WT_mem (t5_in (List.mem_of_getElem? (i := 84) rfl)) rfl), (WT_mem (t1_in (List.mem_of_getElem? (i := 11) rfl)) rfl), ⟨by decide +kernel, by decide +kernel, by decide +kernel⟩, by decide⟩
theorem lc_X9_oddsNow : LnkC Y_X9_oddsNow 1 := ⟨(WT_mem (t5_in (List.mem_of_getElem? (i := 101) rfl)) rfl), (WT_mem (t1_in (List.mem_of_getElem? (i := 11) rfl)) rfl), ⟨by decide +kernel, by decide +kernel, by decide +kernel⟩, by decide⟩
theorem lc_X9_of : LnkC Y_X9_of 2 := ⟨(WT_mem (t5_in (List.mem_of_getElem? (i := 27) rfl)) rfl), (WT_mem (t1_in (List.mem_of_getElem? (i := 11) rfl)) rfl), ⟨by decide +kernel, by decide +kernel, by decide +kernel⟩, by decide⟩
theorem lc_X9_orNone : LnkC Y_X9_orNone 1 := ⟨(WT_mem (t5_in (List.mem_of_getElem? (i := 122) rfl)) rfl), (WT_mem (t1_in (List.mem_of_getElem? (i := 11) rfl)) rfl), ⟨by decide +kernel, by decide +kernel, by decide +kernel⟩, by decide⟩
theorem lc_X9_pace : LnkC Y_X9_pace 4 := ⟨(WT_mem (t5_in (List.mem_of_getElem? (i := 53) rfl)) rfl), (WT_mem (t1_in (List.mem_of_getElem? (i := 11) rfl)) rfl), ⟨by decide +kernel, by decide +kernel, by decide +kernel⟩, by decide⟩
theorem lc_X9_paceAt : LnkC Y_X9_paceAt 2 := ⟨(WT_mem (t5_in (List.mem_of_getElem? (i := 64) rfl)) rfl), (WT_mem (t1_in (List.mem_of_getElem? (i := 11) rfl)) rfl), ⟨by decide +kernel, by decide +kernel, by decide +kernel⟩, by decide⟩
theorem lc_X9_paceOf : LnkC Y_X9_paceOf 2 := ⟨(WT_mem (t5_in (List.mem_of_getElem? (i := 60) rfl)) rfl), (WT_mem (t1_in (List.mem_of_getElem? (i := 11) rfl)) rfl), ⟨by decide +kernel, by decide +kernel, by decide +kernel⟩, by decide⟩
theorem lc_X9_pick : LnkC Y_X9_pick 1 := ⟨(WT_mem (t5_in (List.mem_of_getElem? (i := 3) rfl)) rfl), (WT_mem (t1_in (List.mem_of_getElem? (i := 11) rfl)) rfl), ⟨by decide +kernel, by decide +kernel, by decide +kernel⟩, by decide⟩
theorem lc_X9_place : LnkC Y_X9_place 1 := ⟨(WT_mem (t5_in (List.mem_of_getElem? (i := 183) rfl)) rfl), (WT_mem (t1_in (List.mem_of_getElem? (i := 11) rfl)) rfl), ⟨by decide +kernel, by decide +kernel, by decide +kernel⟩, by decide⟩
theorem lc_X9_rain : LnkC Y_X9_rain 1 := ⟨(WT_mem (t6_in (List.mem_of_getElem? (i := 58) rfl)) rfl), (WT_mem (t1_in (List.mem_of_getElem? (i := 11) rfl)) rfl), ⟨by decide +kernel, by decide +kernel, by decide +kernel⟩, by decide⟩
theorem lc_X9_rocks : LnkC Y_X9_rocks 2 := ⟨(WT_mem (t5_in (List.mem_of_getElem? (i := 76) rfl)) rfl), (WT_mem (t1_in (List.mem_of_getElem? (i := 11) rfl)) rfl), ⟨by decide +kernel, by decide +kernel, by decide +kernel⟩, by decide⟩
theorem lc_X9_row : LnkC Y_X9_row 2 := ⟨(WT_mem (t5_in (List.mem_of_getElem? (i := 163) rfl)) rfl), (WT_mem (t1_in (List.mem_of_getElem? (i := 11) rfl)) rfl), ⟨by decide +kernel, by decide +kernel, by decide +kernel⟩, by decide⟩
theorem lc_X9_runner : LnkC Y_X9_runner 3 := ⟨(WT_mem (t5_in (List.mem_of_getElem? (i := 8) rfl)) rfl), (WT_mem (t1_in (List.mem_of_getElem? (i := 11) rfl)) rfl), ⟨by decide +kernel, by decide +kernel, by decide +kernel⟩, by decide⟩
theorem lc_X9_runnerItem : LnkC Y_X9_runnerItem 1 := ⟨(WT_mem (t6_in (List.mem_of_getElem? (i := 135) rfl)) rfl), (WT_mem (t1_in (List.mem_of_getElem? (i := 11) rfl)) rfl), ⟨by decide +kernel, by decide +kernel, by decide +kernel⟩, by decide⟩
theorem lc_X9_runsNext : LnkC Y_X9_runsNext 0 := ⟨(WT_mem (t5_in (List.mem_of_getElem? (i := 118) rfl)) rfl), (WT_mem (t1_in (List.mem_of_getElem? (i := 11) rfl)) rfl), ⟨by decide +kernel, by decide +kernel, by decide +kernel⟩, by decide⟩
theorem lc_X9_seed : LnkC Y_X9_seed 1 := ⟨(WT_mem (t6_in (List.mem_of_getElem? (i := 67) rfl)) rfl), (WT_mem (t1_in (List.mem_of_getElem? (i := 11) rfl)) rfl), ⟨by decide +kernel, by decide +kernel, by decide +kernel⟩, by decide⟩
theorem lc_X9_sheet : LnkC Y_X9_sheet 3 := ⟨(WT_mem (t6_in (List.mem_of_getElem? (i := 159) rfl)) rfl), (WT_mem (t1_in (List.mem_of_getElem? (i := 11) rfl)) rfl), ⟨by decide +kernel, by decide +kernel, by decide +kernel⟩, by decide⟩
theorem lc_X9_spoon : LnkC Y_X9_spoon 1 := ⟨(WT_mem (t6_in (List.mem_of_getElem? (i := 16) rfl)) rfl), (WT_mem (t1_in (List.mem_of_getElem? (i := 11) rfl)) rfl), ⟨by decide +kernel, by decide +kernel, by decide +kernel⟩, by decide⟩
theorem lc_X9_start : LnkC Y_X9_start 0 := ⟨(WT_mem (t5_in (List.mem_of_getElem? (i := 145) rfl)) rfl), (WT_mem (t1_in (List.mem_of_getElem? (i := 11) rfl)) rfl), ⟨by decide +kernel, by decide +kernel, by decide +kernel⟩, by decide⟩
theorem lc_X9_starts : LnkC Y_X9_starts 0 := ⟨(WT_mem (t5_in (List.mem_of_getElem? (i := 156) rfl)) rfl), (WT_mem (t1_in (List.mem_of_getElem? (i := 11) rfl)) rfl), ⟨by decide +kernel, by decide +kernel, by decide +kernel⟩, by decide⟩
theorem lc_X9_status : LnkC Y_X9_status 1 := ⟨(WT_mem (t6_in (List.mem_of_getElem? (i := 207) rfl)) rfl), (WT_mem (t1_in (List.mem_of_getElem? (i := 11) rfl)) rfl), ⟨by decide +kernel, by decide +kernel, by decide +kernel⟩, by decide⟩
theorem lc_X9_step : LnkC Y_X9_step 1 := ⟨(WT_mem (t5_in (List.mem_of_getElem? (i := 136) rfl)) rfl), (WT_mem (t1_in (List.mem_of_getElem? (i := 11) rfl)) rfl), ⟨by decide +kernel, by decide +kernel, by decide +kernel⟩, by decide⟩
theorem lc_X9_steps : LnkC Y_X9_steps 1 := ⟨(WT_mem (t5_in (List.mem_of_getElem? (i := 127) rfl)) rfl), (WT_mem (t1_in (List.mem_of_getElem? (i := 11) rfl)) rfl), ⟨by decide +kernel, by decide +kernel, by decide +kernel⟩, by decide⟩
theorem lc_X9_stepsGo : LnkC Y_X9_stepsGo 1 := ⟨(WT_mem (t5_in (List.mem_of_getElem? (i := 132) rfl)) rfl), (WT_mem (t1_in (List.mem_of_getElem? (i := 11) rfl)) rfl), ⟨by decide +kernel, by decide +kernel, by decide +kernel⟩, by decide⟩
theorem lc_X9_suspect : LnkC Y_X9_suspect 3 := ⟨(WT_mem (t6_in (List.mem_of_getElem? (i := 54) rfl)) rfl), (WT_mem (t1_in (List.mem_of_getElem? (i := 11) rfl)) rfl), ⟨by decide +kernel, by decide +kernel, by decide +kernel⟩, by decide⟩
theorem lc_X9_takes : LnkC Y_X9_takes 2 := ⟨(WT_mem (t5_in (List.mem_of_getElem? (i := 72) rfl)) rfl), (WT_mem (t1_in (List.mem_of_getElem? (i := 11) rfl)) rfl), ⟨by decide +kernel, by decide +kernel, by decide +kernel⟩, by decide⟩
theorem lc_X9_takes_ : LnkC Y_X9_takes_ 1 := ⟨(WT_mem (t6_in (List.mem_of_getElem? (i := 119) rfl)) rfl), (WT_mem (t1_in (List.mem_of_getElem? (i := 11) rfl)) rfl), ⟨by decide +kernel, by decide +kernel, by decide +kernel⟩, by decide⟩
theorem lc_X9_team : LnkC Y_X9_team 1 := ⟨(WT_mem (t6_in (List.mem_of_getElem? (i := 29) rfl)) rfl), (WT_mem (t1_in (List.mem_of_getElem? (i := 11) rfl)) rfl), ⟨by decide +kernel, by decide +kernel, by decide +kernel⟩, by decide⟩
theorem lc_X9_tear : LnkC Y_X9_tear 0 := ⟨(WT_mem (t6_in (List.mem_of_getElem? (i := 191) rfl)) rfl), (WT_mem (t1_in (List.mem_of_getElem? (i := 11) rfl)) rfl), ⟨by decide +kernel, by decide +kernel, by decide +kernel⟩, by decide⟩
theorem lc_X9_text : LnkC Y_X9_text 0 := ⟨(WT_mem (t6_in (List.mem_of_getElem? (i := 79) rfl)) rfl), (WT_mem (t1_in (List.mem_of_getElem? (i := 11) rfl)) rfl), ⟨by decide +kernel, by decide +kernel, by decide +kernel⟩, by decide⟩
theorem lc_X9_token : LnkC Y_X9_token 0 := ⟨(WT_mem (t6_in (List.mem_of_getElem? (i := 83) rfl)) rfl), (WT_mem (t1_in (List.mem_of_getElem? (i := 11) rfl)) rfl), ⟨by decide +kernel, by decide +kernel, by decide +kernel⟩, by decide⟩
theorem lc_X9_told : LnkC Y_X9_told 3 := ⟨(WT_mem (t5_in (List.mem_of_getElem? (i := 68) rfl)) rfl), (WT_mem (t1_in (List.mem_of_getElem? (i := 11) rfl)) rfl), ⟨by decide +kernel, by decide +kernel, by decide +kernel⟩, by decide⟩
theorem lc_X9_train : LnkC Y_X9_train 1 := ⟨(WT_mem (t5_in (List.mem_of_getElem? (i := 236) rfl)) rfl), (WT_mem (t1_in (List.mem_of_getElem? (i := 11) rfl)) rfl), ⟨by decide +kernel, by decide +kernel, by decide +kernel⟩, by decide⟩
theorem lc_X9_undo : LnkC Y_X9_undo 0 := ⟨(WT_mem (t6_in (List.mem_of_getElem? (i := 187) rfl)) rfl), (WT_mem (t1_in (List.mem_of_getElem? (i := 11) rfl)) rfl), ⟨by decide +kernel, by decide +kernel, by decide +kernel⟩, by decide⟩
theorem lc_X9_winner : LnkC Y_X9_winner 0 := ⟨(WT_mem (t5_in (List.mem_of_getElem? (i := 167) rfl)) rfl), (WT_mem (t1_in (List.mem_of_getElem? (i := 11) rfl)) rfl), ⟨by decide +kernel, by decide +kernel, by decide +kernel⟩, by decide⟩
theorem lc_X9_wins : LnkC Y_X9_wins 2 := ⟨(WT_mem (t5_in (List.mem_of_getElem? (i := 187) rfl)) rfl), (WT_mem (t1_in (List.mem_of_getElem? (i := 11) rfl)) rfl), ⟨by decide +kernel, by decide +kernel, by decide +kernel⟩, by decide⟩
theorem lc_X9_wipe : LnkC Y_X9_wipe 0 := ⟨(WT_mem (t6_in (List.mem_of_getElem? (i := 75) rfl)) rfl), (WT_mem (t1_in (List.mem_of_getElem? (i := 11) rfl)) rfl), ⟨by decide +kernel, by decide +kernel, by decide +kernel⟩, by decide⟩
theorem lc_X9_worst : LnkC Y_X9_worst 1 := ⟨(WT_mem (t6_in (List.mem_of_getElem? (i := 12) rfl)) rfl), (WT_mem (t1_in (List.mem_of_getElem? (i := 11) rfl)) rfl), ⟨by decide +kernel, by decide +kernel, by decide +kernel⟩, by decide⟩
theorem lc_X9_write : LnkC Y_X9_write 3 := ⟨(WT_mem (t6_in (List.mem_of_getElem? (i := 167) rfl)) rfl), (WT_mem (t1_in (List.mem_of_getElem? (i := 11) rfl)) rfl), ⟨by decide +kernel, by decide +kernel, by decide +kernel⟩, by decide⟩
theorem lk_J0_492 : LnkV RJ0 492 Y_J0_isLatin1_aae02 0 := ⟨lc_J0_isLatin1_aae02, (WT_mem (t3_in (List.mem_of_getElem? (i := 224) rfl)) rfl), (WT_mem (t3_in (List.mem_of_getElem? (i := 225) rfl)) rfl), (WT_mem (t3_in (List.mem_of_getElem? (i := 226) rfl)) rfl)⟩
theorem lk_J0_495 : LnkS RJ0 495 Y_J1_charAt_3b067 2 := ⟨lc_J1_charAt_3b067, (WT_mem (t3_in (List.mem_of_getElem? (i := 228) rfl)) rfl), (WT_mem (t3_in (List.mem_of_getElem? (i := 229) rfl)) rfl)⟩
theorem lk_J0_498 : LnkS RJ0 498 Y_J2_charAt_3b067 2 := ⟨lc_J2_charAt_3b067, (WT_mem (t3_in (List.mem_of_getElem? (i := 239) rfl)) rfl), (WT_mem (t4_in (List.mem_of_getElem? (i := 0) rfl)) rfl)⟩
theorem lk_J0_1059 : LnkS RJ0 1059 Y_J3_checkIndex_8e157 3 := ⟨lc_J3_checkIndex_8e157, (WT_mem (t3_in (List.mem_of_getElem? (i := 236) rfl)) rfl), (WT_mem (t3_in (List.mem_of_getElem? (i := 237) rfl)) rfl)⟩
theorem lk_J0_335 : LnkV RJ0 335 Y_J0_coder_7d493 0 := ⟨lc_J0_coder_7d493, (WT_mem (t3_in (List.mem_of_getElem? (i := 214) rfl)) rfl), (WT_mem (t3_in (List.mem_of_getElem? (i := 215) rfl)) rfl), (WT_mem (t3_in (List.mem_of_getElem? (i := 216) rfl)) rfl)⟩
theorem lk_J1_9 : LnkS RJ1 9 Y_J0_checkIndex_df160 2 := ⟨lc_J0_checkIndex_df160, (WT_mem (t3_in (List.mem_of_getElem? (i := 231) rfl)) rfl), (WT_mem (t3_in (List.mem_of_getElem? (i := 232) rfl)) rfl)⟩
theorem lk_J2_67 : LnkS RJ2 67 Y_J2_checkIndex_2214a 2 := ⟨lc_J2_checkIndex_2214a, (WT_mem (t4_in (List.mem_of_getElem? (i := 2) rfl)) rfl), (WT_mem (t4_in (List.mem_of_getElem? (i := 3) rfl)) rfl)⟩
theorem lk_J2_71 : LnkS RJ2 71 Y_J2_getChar_3b067 2 := ⟨lc_J2_getChar_3b067, (WT_mem (t4_in (List.mem_of_getElem? (i := 9) rfl)) rfl), (WT_mem (t4_in (List.mem_of_getElem? (i := 10) rfl)) rfl)⟩
theorem lk_J2_48 : LnkS RJ2 48 Y_J2_length_9d52b 1 := ⟨lc_J2_length_9d52b, (WT_mem (t4_in (List.mem_of_getElem? (i := 5) rfl)) rfl), (WT_mem (t4_in (List.mem_of_getElem? (i := 6) rfl)) rfl)⟩
theorem lk_J2_414 : LnkS RJ2 414 Y_J0_checkIndex_df160 2 := ⟨lc_J0_checkIndex_df160, (WT_mem (t4_in (List.mem_of_getElem? (i := 8) rfl)) rfl), (WT_mem (t3_in (List.mem_of_getElem? (i := 232) rfl)) rfl)⟩
theorem kc_J6_265 : Cond.constant RJ6 265 (1431655765) ∈ WTb := (WT_mem (t2_in (List.mem_of_getElem? (i := 202) rfl)) rfl)
theorem kc_J6_266 : Cond.constant RJ6 266 (858993459) ∈ WTb := (WT_mem (t2_in (List.mem_of_getElem? (i := 203) rfl)) rfl)
theorem kc_J6_267 : Cond.constant RJ6 267 (252645135) ∈ WTb := (WT_mem (t2_in (List.mem_of_getElem? (i := 204) rfl)) rfl)
theorem lk_L_13 : LnkV RL 13 Y_X8_ground 2 := ⟨lc_X8_ground, (WT_mem (t2_in (List.mem_of_getElem? (i := 15) rfl)) rfl), (WT_mem (t2_in (List.mem_of_getElem? (i := 16) rfl)) rfl), (WT_mem (t2_in (List.mem_of_getElem? (i := 17) rfl)) rfl)⟩
theorem lk_L_17 : LnkV RL 17 Y_X9_ground 2 := ⟨lc_X9_ground, (WT_mem (t4_in (List.mem_of_getElem? (i := 219) rfl)) rfl), (WT_mem (t4_in (List.mem_of_getElem? (i := 220) rfl)) rfl), (WT_mem (t4_in (List.mem_of_getElem? (i := 221) rfl)) rfl)⟩
theorem lk_L_18 : LnkV RL 18 Y_X8_pick 1 := ⟨lc_X8_pick, (WT_mem (t2_in (List.mem_of_getElem? (i := 30) rfl)) rfl), (WT_mem (t2_in (List.mem_of_getElem? (i := 31) rfl)) rfl), (WT_mem (t2_in (List.mem_of_getElem? (i := 32) rfl)) rfl)⟩
theorem lk_L_22 : LnkV RL 22 Y_X9_pick 1 := ⟨lc_X9_pick, (WT_mem (t5_in (List.mem_of_getElem? (i := 0) rfl)) rfl), (WT_mem (t5_in (List.mem_of_getElem? (i := 1) rfl)) rfl), (WT_mem (t5_in (List.mem_of_getElem? (i := 2) rfl)) rfl)⟩
theorem lk_L_23 : LnkV RL 23 Y_X8_runner 3 := ⟨lc_X8_runner, (WT_mem (t2_in (List.mem_of_getElem? (i := 34) rfl)) rfl), (WT_mem (t2_in (List.mem_of_getElem? (i := 35) rfl)) rfl), (WT_mem (t2_in (List.mem_of_getElem? (i := 36) rfl)) rfl)⟩
theorem lk_L_27 : LnkV RL 27 Y_X9_runner 3 := ⟨lc_X9_runner, (WT_mem (t5_in (List.mem_of_getElem? (i := 5) rfl)) rfl), (WT_mem (t5_in (List.mem_of_getElem? (i := 6) rfl)) rfl), (WT_mem (t5_in (List.mem_of_getElem? (i := 7) rfl)) rfl)⟩
theorem lk_L_28 : LnkV RL 28 Y_X8_of 2 := ⟨lc_X8_of, (WT_mem (t2_in (List.mem_of_getElem? (i := 51) rfl)) rfl), (WT_mem (t2_in (List.mem_of_getElem? (i := 52) rfl)) rfl), (WT_mem (t2_in (List.mem_of_getElem? (i := 53) rfl)) rfl)⟩
theorem lk_L_31 : LnkV RL 31 Y_X9_of 2 := ⟨lc_X9_of, (WT_mem (t5_in (List.mem_of_getElem? (i := 24) rfl)) rfl), (WT_mem (t5_in (List.mem_of_getElem? (i := 25) rfl)) rfl), (WT_mem (t5_in (List.mem_of_getElem? (i := 26) rfl)) rfl)⟩
theorem lk_L_32 : LnkV RL 32 Y_X8_change 3 := ⟨lc_X8_change, (WT_mem (t2_in (List.mem_of_getElem? (i := 69) rfl)) rfl), (WT_mem (t2_in (List.mem_of_getElem? (i := 70) rfl)) rfl), (WT_mem (t2_in (List.mem_of_getElem? (i := 71) rfl)) rfl)⟩
theorem lk_L_35 : LnkV RL 35 Y_X9_change 3 := ⟨lc_X9_change, (WT_mem (t5_in (List.mem_of_getElem? (i := 41) rfl)) rfl), (WT_mem (t5_in (List.mem_of_getElem? (i := 42) rfl)) rfl), (WT_mem (t5_in (List.mem_of_getElem? (i := 43) rfl)) rfl)⟩
theorem lk_L_36 : LnkV RL 36 Y_X8_pace 4 := ⟨lc_X8_pace, (WT_mem (t2_in (List.mem_of_getElem? (i := 80) rfl)) rfl), (WT_mem (t2_in (List.mem_of_getElem? (i := 81) rfl)) rfl), (WT_mem (t2_in (List.mem_of_getElem? (i := 82) rfl)) rfl)⟩
theorem lk_L_40 : LnkV RL 40 Y_X9_pace 4 := ⟨lc_X9_pace, (WT_mem (t5_in (List.mem_of_getElem? (i := 50) rfl)) rfl), (WT_mem (t5_in (List.mem_of_getElem? (i := 51) rfl)) rfl), (WT_mem (t5_in (List.mem_of_getElem? (i := 52) rfl)) rfl)⟩
theorem lk_L_41 : LnkV RL 41 Y_X8_paceOf 2 := ⟨lc_X8_paceOf, (WT_mem (t2_in (List.mem_of_getElem? (i := 87) rfl)) rfl), (WT_mem (t2_in (List.mem_of_getElem? (i := 88) rfl)) rfl), (WT_mem (t2_in (List.mem_of_getElem? (i := 89) rfl)) rfl)⟩
theorem lk_L_44 : LnkV RL 44 Y_X9_paceOf 2 := ⟨lc_X9_paceOf, (WT_mem (t5_in (List.mem_of_getElem? (i := 57) rfl)) rfl), (WT_mem (t5_in (List.mem_of_getElem? (i := 58) rfl)) rfl), (WT_mem (t5_in (List.mem_of_getElem? (i := 59) rfl)) rfl)⟩
theorem lk_L_45 : LnkV RL 45 Y_X8_told 3 := ⟨lc_X8_told, (WT_mem (t2_in (List.mem_of_getElem? (i := 91) rfl)) rfl), (WT_mem (t2_in (List.mem_of_getElem? (i := 92) rfl)) rfl), (WT_mem (t2_in (List.mem_of_getElem? (i := 93) rfl)) rfl)⟩
theorem lk_L_48 : LnkV RL 48 Y_X9_told 3 := ⟨lc_X9_told, (WT_mem (t5_in (List.mem_of_getElem? (i := 65) rfl)) rfl), (WT_mem (t5_in (List.mem_of_getElem? (i := 66) rfl)) rfl), (WT_mem (t5_in (List.mem_of_getElem? (i := 67) rfl)) rfl)⟩
theorem lk_L_49 : LnkV RL 49 Y_X8_odds 4 := ⟨lc_X8_odds, (WT_mem (t2_in (List.mem_of_getElem? (i := 109) rfl)) rfl), (WT_mem (t2_in (List.mem_of_getElem? (i := 110) rfl)) rfl), (WT_mem (t2_in (List.mem_of_getElem? (i := 111) rfl)) rfl)⟩
theorem lk_L_52 : LnkV RL 52 Y_X9_odds 4 := ⟨lc_X9_odds, (WT_mem (t5_in (List.mem_of_getElem? (i := 77) rfl)) rfl), (WT_mem (t5_in (List.mem_of_getElem? (i := 78) rfl)) rfl), (WT_mem (t5_in (List.mem_of_getElem? (i := 79) rfl)) rfl)⟩
theorem lk_L_53 : LnkV RL 53 Y_X8_now 1 := ⟨lc_X8_now, (WT_mem (t2_in (List.mem_of_getElem? (i := 133) rfl)) rfl), (WT_mem (t2_in (List.mem_of_getElem? (i := 134) rfl)) rfl), (WT_mem (t2_in (List.mem_of_getElem? (i := 135) rfl)) rfl)⟩
theorem lk_L_56 : LnkV RL 56 Y_X9_now 1 := ⟨lc_X9_now, (WT_mem (t5_in (List.mem_of_getElem? (i := 89) rfl)) rfl), (WT_mem (t5_in (List.mem_of_getElem? (i := 90) rfl)) rfl), (WT_mem (t5_in (List.mem_of_getElem? (i := 91) rfl)) rfl)⟩
theorem lk_L_57 : LnkV RL 57 Y_X8_nerves 1 := ⟨lc_X8_nerves, (WT_mem (t2_in (List.mem_of_getElem? (i := 154) rfl)) rfl), (WT_mem (t2_in (List.mem_of_getElem? (i := 155) rfl)) rfl), (WT_mem (t2_in (List.mem_of_getElem? (i := 156) rfl)) rfl)⟩
theorem lk_L_60 : LnkV RL 60 Y_X9_nerves 1 := ⟨lc_X9_nerves, (WT_mem (t5_in (List.mem_of_getElem? (i := 107) rfl)) rfl), (WT_mem (t5_in (List.mem_of_getElem? (i := 108) rfl)) rfl), (WT_mem (t5_in (List.mem_of_getElem? (i := 109) rfl)) rfl)⟩
theorem lk_L_61 : LnkV RL 61 Y_X8_next 0 := ⟨lc_X8_next, (WT_mem (t2_in (List.mem_of_getElem? (i := 159) rfl)) rfl), (WT_mem (t2_in (List.mem_of_getElem? (i := 160) rfl)) rfl), (WT_mem (t2_in (List.mem_of_getElem? (i := 161) rfl)) rfl)⟩
theorem lk_L_65 : LnkV RL 65 Y_X9_next 0 := ⟨lc_X9_next, (WT_mem (t5_in (List.mem_of_getElem? (i := 111) rfl)) rfl), (WT_mem (t5_in (List.mem_of_getElem? (i := 112) rfl)) rfl), (WT_mem (t5_in (List.mem_of_getElem? (i := 113) rfl)) rfl)⟩
theorem lk_L_66 : LnkV RL 66 Y_X8_steps 1 := ⟨lc_X8_steps, (WT_mem (t2_in (List.mem_of_getElem? (i := 167) rfl)) rfl), (WT_mem (t2_in (List.mem_of_getElem? (i := 168) rfl)) rfl), (WT_mem (t2_in (List.mem_of_getElem? (i := 169) rfl)) rfl)⟩
theorem lk_L_69 : LnkV RL 69 Y_X9_steps 1 := ⟨lc_X9_steps, (WT_mem (t5_in (List.mem_of_getElem? (i := 124) rfl)) rfl), (WT_mem (t5_in (List.mem_of_getElem? (i := 125) rfl)) rfl), (WT_mem (t5_in (List.mem_of_getElem? (i := 126) rfl)) rfl)⟩
theorem lk_L_70 : LnkV RL 70 Y_X8_start 0 := ⟨lc_X8_start, (WT_mem (t2_in (List.mem_of_getElem? (i := 187) rfl)) rfl), (WT_mem (t2_in (List.mem_of_getElem? (i := 188) rfl)) rfl), (WT_mem (t2_in (List.mem_of_getElem? (i := 189) rfl)) rfl)⟩
theorem lk_L_73 : LnkV RL 73 Y_X9_start 0 := ⟨lc_X9_start, (WT_mem (t5_in (List.mem_of_getElem? (i := 142) rfl)) rfl), (WT_mem (t5_in (List.mem_of_getElem? (i := 143) rfl)) rfl), (WT_mem (t5_in (List.mem_of_getElem? (i := 144) rfl)) rfl)⟩
theorem lk_L_74 : LnkV RL 74 Y_X8_ahead 2 := ⟨lc_X8_ahead, (WT_mem (t2_in (List.mem_of_getElem? (i := 206) rfl)) rfl), (WT_mem (t2_in (List.mem_of_getElem? (i := 207) rfl)) rfl), (WT_mem (t2_in (List.mem_of_getElem? (i := 208) rfl)) rfl)⟩
theorem lk_L_77 : LnkV RL 77 Y_X9_ahead 2 := ⟨lc_X9_ahead, (WT_mem (t5_in (List.mem_of_getElem? (i := 157) rfl)) rfl), (WT_mem (t5_in (List.mem_of_getElem? (i := 158) rfl)) rfl), (WT_mem (t5_in (List.mem_of_getElem? (i := 159) rfl)) rfl)⟩
theorem lk_L_78 : LnkV RL 78 Y_X8_winner 0 := ⟨lc_X8_winner, (WT_mem (t2_in (List.mem_of_getElem? (i := 223) rfl)) rfl), (WT_mem (t2_in (List.mem_of_getElem? (i := 224) rfl)) rfl), (WT_mem (t2_in (List.mem_of_getElem? (i := 225) rfl)) rfl)⟩
theorem lk_L_81 : LnkV RL 81 Y_X9_winner 0 := ⟨lc_X9_winner, (WT_mem (t5_in (List.mem_of_getElem? (i := 164) rfl)) rfl), (WT_mem (t5_in (List.mem_of_getElem? (i := 165) rfl)) rfl), (WT_mem (t5_in (List.mem_of_getElem? (i := 166) rfl)) rfl)⟩
theorem lk_L_82 : LnkV RL 82 Y_X8_place 1 := ⟨lc_X8_place, (WT_mem (t2_in (List.mem_of_getElem? (i := 235) rfl)) rfl), (WT_mem (t2_in (List.mem_of_getElem? (i := 236) rfl)) rfl), (WT_mem (t2_in (List.mem_of_getElem? (i := 237) rfl)) rfl)⟩
theorem lk_L_85 : LnkV RL 85 Y_X9_place 1 := ⟨lc_X9_place, (WT_mem (t5_in (List.mem_of_getElem? (i := 180) rfl)) rfl), (WT_mem (t5_in (List.mem_of_getElem? (i := 181) rfl)) rfl), (WT_mem (t5_in (List.mem_of_getElem? (i := 182) rfl)) rfl)⟩
theorem lk_L_86 : LnkV RL 86 Y_X8_wins 2 := ⟨lc_X8_wins, (WT_mem (t3_in (List.mem_of_getElem? (i := 3) rfl)) rfl), (WT_mem (t3_in (List.mem_of_getElem? (i := 4) rfl)) rfl), (WT_mem (t3_in (List.mem_of_getElem? (i := 5) rfl)) rfl)⟩
theorem lk_L_89 : LnkV RL 89 Y_X9_wins 2 := ⟨lc_X9_wins, (WT_mem (t5_in (List.mem_of_getElem? (i := 184) rfl)) rfl), (WT_mem (t5_in (List.mem_of_getElem? (i := 185) rfl)) rfl), (WT_mem (t5_in (List.mem_of_getElem? (i := 186) rfl)) rfl)⟩
theorem lk_L_90 : LnkV RL 90 Y_X8_clean 3 := ⟨lc_X8_clean, (WT_mem (t3_in (List.mem_of_getElem? (i := 7) rfl)) rfl), (WT_mem (t3_in (List.mem_of_getElem? (i := 8) rfl)) rfl), (WT_mem (t3_in (List.mem_of_getElem? (i := 9) rfl)) rfl)⟩
theorem lk_L_94 : LnkV RL 94 Y_X9_clean 3 := ⟨lc_X9_clean, (WT_mem (t5_in (List.mem_of_getElem? (i := 189) rfl)) rfl), (WT_mem (t5_in (List.mem_of_getElem? (i := 190) rfl)) rfl), (WT_mem (t5_in (List.mem_of_getElem? (i := 191) rfl)) rfl)⟩
theorem lk_L_95 : LnkV RL 95 Y_X8_drops 4 := ⟨lc_X8_drops, (WT_mem (t3_in (List.mem_of_getElem? (i := 15) rfl)) rfl), (WT_mem (t3_in (List.mem_of_getElem? (i := 16) rfl)) rfl), (WT_mem (t3_in (List.mem_of_getElem? (i := 17) rfl)) rfl)⟩
theorem lk_L_99 : LnkV RL 99 Y_X9_drops 4 := ⟨lc_X9_drops, (WT_mem (t5_in (List.mem_of_getElem? (i := 201) rfl)) rfl), (WT_mem (t5_in (List.mem_of_getElem? (i := 202) rfl)) rfl), (WT_mem (t5_in (List.mem_of_getElem? (i := 203) rfl)) rfl)⟩
theorem lk_L_100 : LnkV RL 100 Y_X8_mean 3 := ⟨lc_X8_mean, (WT_mem (t3_in (List.mem_of_getElem? (i := 33) rfl)) rfl), (WT_mem (t3_in (List.mem_of_getElem? (i := 34) rfl)) rfl), (WT_mem (t3_in (List.mem_of_getElem? (i := 35) rfl)) rfl)⟩
theorem lk_L_103 : LnkV RL 103 Y_X9_mean 3 := ⟨lc_X9_mean, (WT_mem (t5_in (List.mem_of_getElem? (i := 209) rfl)) rfl), (WT_mem (t5_in (List.mem_of_getElem? (i := 210) rfl)) rfl), (WT_mem (t5_in (List.mem_of_getElem? (i := 211) rfl)) rfl)⟩
theorem lk_L_104 : LnkV RL 104 Y_X8_least 3 := ⟨lc_X8_least, (WT_mem (t3_in (List.mem_of_getElem? (i := 54) rfl)) rfl), (WT_mem (t3_in (List.mem_of_getElem? (i := 55) rfl)) rfl), (WT_mem (t3_in (List.mem_of_getElem? (i := 56) rfl)) rfl)⟩
theorem lk_L_107 : LnkV RL 107 Y_X9_least 3 := ⟨lc_X9_least, (WT_mem (t5_in (List.mem_of_getElem? (i := 225) rfl)) rfl), (WT_mem (t5_in (List.mem_of_getElem? (i := 226) rfl)) rfl), (WT_mem (t5_in (List.mem_of_getElem? (i := 227) rfl)) rfl)⟩
theorem lk_L_108 : LnkV RL 108 Y_X8_best 3 := ⟨lc_X8_best, (WT_mem (t3_in (List.mem_of_getElem? (i := 67) rfl)) rfl), (WT_mem (t3_in (List.mem_of_getElem? (i := 68) rfl)) rfl), (WT_mem (t3_in (List.mem_of_getElem? (i := 69) rfl)) rfl)⟩
theorem lk_L_111 : LnkV RL 111 Y_X9_best 3 := ⟨lc_X9_best, (WT_mem (t5_in (List.mem_of_getElem? (i := 229) rfl)) rfl), (WT_mem (t5_in (List.mem_of_getElem? (i := 230) rfl)) rfl), (WT_mem (t5_in (List.mem_of_getElem? (i := 231) rfl)) rfl)⟩
theorem lk_L_112 : LnkV RL 112 Y_X8_train 1 := ⟨lc_X8_train, (WT_mem (t3_in (List.mem_of_getElem? (i := 75) rfl)) rfl), (WT_mem (t3_in (List.mem_of_getElem? (i := 76) rfl)) rfl), (WT_mem (t3_in (List.mem_of_getElem? (i := 77) rfl)) rfl)⟩
theorem lk_L_115 : LnkV RL 115 Y_X9_train 1 := ⟨lc_X9_train, (WT_mem (t5_in (List.mem_of_getElem? (i := 233) rfl)) rfl), (WT_mem (t5_in (List.mem_of_getElem? (i := 234) rfl)) rfl), (WT_mem (t5_in (List.mem_of_getElem? (i := 235) rfl)) rfl)⟩
theorem lk_L_116 : LnkV RL 116 Y_X8_even 1 := ⟨lc_X8_even, (WT_mem (t3_in (List.mem_of_getElem? (i := 79) rfl)) rfl), (WT_mem (t3_in (List.mem_of_getElem? (i := 80) rfl)) rfl), (WT_mem (t3_in (List.mem_of_getElem? (i := 81) rfl)) rfl)⟩
theorem lk_L_119 : LnkV RL 119 Y_X9_even 1 := ⟨lc_X9_even, (WT_mem (t5_in (List.mem_of_getElem? (i := 237) rfl)) rfl), (WT_mem (t5_in (List.mem_of_getElem? (i := 238) rfl)) rfl), (WT_mem (t5_in (List.mem_of_getElem? (i := 239) rfl)) rfl)⟩
theorem lk_L_120 : LnkV RL 120 Y_X8_costs 2 := ⟨lc_X8_costs, (WT_mem (t3_in (List.mem_of_getElem? (i := 89) rfl)) rfl), (WT_mem (t3_in (List.mem_of_getElem? (i := 90) rfl)) rfl), (WT_mem (t3_in (List.mem_of_getElem? (i := 91) rfl)) rfl)⟩
theorem lk_L_123 : LnkV RL 123 Y_X9_costs 2 := ⟨lc_X9_costs, (WT_mem (t6_in (List.mem_of_getElem? (i := 5) rfl)) rfl), (WT_mem (t6_in (List.mem_of_getElem? (i := 6) rfl)) rfl), (WT_mem (t6_in (List.mem_of_getElem? (i := 7) rfl)) rfl)⟩
theorem lk_L_124 : LnkV RL 124 Y_X8_worst 1 := ⟨lc_X8_worst, (WT_mem (t3_in (List.mem_of_getElem? (i := 93) rfl)) rfl), (WT_mem (t3_in (List.mem_of_getElem? (i := 94) rfl)) rfl), (WT_mem (t3_in (List.mem_of_getElem? (i := 95) rfl)) rfl)⟩
theorem lk_L_127 : LnkV RL 127 Y_X9_worst 1 := ⟨lc_X9_worst, (WT_mem (t6_in (List.mem_of_getElem? (i := 9) rfl)) rfl), (WT_mem (t6_in (List.mem_of_getElem? (i := 10) rfl)) rfl), (WT_mem (t6_in (List.mem_of_getElem? (i := 11) rfl)) rfl)⟩
theorem lk_L_128 : LnkV RL 128 Y_X8_spoon 1 := ⟨lc_X8_spoon, (WT_mem (t3_in (List.mem_of_getElem? (i := 97) rfl)) rfl), (WT_mem (t3_in (List.mem_of_getElem? (i := 98) rfl)) rfl), (WT_mem (t3_in (List.mem_of_getElem? (i := 99) rfl)) rfl)⟩
theorem lk_L_131 : LnkV RL 131 Y_X9_spoon 1 := ⟨lc_X9_spoon, (WT_mem (t6_in (List.mem_of_getElem? (i := 13) rfl)) rfl), (WT_mem (t6_in (List.mem_of_getElem? (i := 14) rfl)) rfl), (WT_mem (t6_in (List.mem_of_getElem? (i := 15) rfl)) rfl)⟩
theorem lk_L_132 : LnkV RL 132 Y_X8_armFor 2 := ⟨lc_X8_armFor, (WT_mem (t3_in (List.mem_of_getElem? (i := 101) rfl)) rfl), (WT_mem (t3_in (List.mem_of_getElem? (i := 102) rfl)) rfl), (WT_mem (t3_in (List.mem_of_getElem? (i := 103) rfl)) rfl)⟩
theorem lk_L_135 : LnkV RL 135 Y_X9_armFor 2 := ⟨lc_X9_armFor, (WT_mem (t6_in (List.mem_of_getElem? (i := 17) rfl)) rfl), (WT_mem (t6_in (List.mem_of_getElem? (i := 18) rfl)) rfl), (WT_mem (t6_in (List.mem_of_getElem? (i := 19) rfl)) rfl)⟩
theorem lk_L_136 : LnkV RL 136 Y_X8_later 1 := ⟨lc_X8_later, (WT_mem (t3_in (List.mem_of_getElem? (i := 106) rfl)) rfl), (WT_mem (t3_in (List.mem_of_getElem? (i := 107) rfl)) rfl), (WT_mem (t3_in (List.mem_of_getElem? (i := 108) rfl)) rfl)⟩
theorem lk_L_139 : LnkV RL 139 Y_X9_later 1 := ⟨lc_X9_later, (WT_mem (t6_in (List.mem_of_getElem? (i := 22) rfl)) rfl), (WT_mem (t6_in (List.mem_of_getElem? (i := 23) rfl)) rfl), (WT_mem (t6_in (List.mem_of_getElem? (i := 24) rfl)) rfl)⟩
theorem lk_L_140 : LnkV RL 140 Y_X8_team 1 := ⟨lc_X8_team, (WT_mem (t3_in (List.mem_of_getElem? (i := 111) rfl)) rfl), (WT_mem (t3_in (List.mem_of_getElem? (i := 112) rfl)) rfl), (WT_mem (t3_in (List.mem_of_getElem? (i := 113) rfl)) rfl)⟩
theorem lk_L_143 : LnkV RL 143 Y_X9_team 1 := ⟨lc_X9_team, (WT_mem (t6_in (List.mem_of_getElem? (i := 26) rfl)) rfl), (WT_mem (t6_in (List.mem_of_getElem? (i := 27) rfl)) rfl), (WT_mem (t6_in (List.mem_of_getElem? (i := 28) rfl)) rfl)⟩
theorem lk_L_144 : LnkV RL 144 Y_X8_leg 2 := ⟨lc_X8_leg, (WT_mem (t3_in (List.mem_of_getElem? (i := 134) rfl)) rfl), (WT_mem (t3_in (List.mem_of_getElem? (i := 135) rfl)) rfl), (WT_mem (t3_in (List.mem_of_getElem? (i := 136) rfl)) rfl)⟩
theorem lk_L_147 : LnkV RL 147 Y_X9_leg 2 := ⟨lc_X9_leg, (WT_mem (t6_in (List.mem_of_getElem? (i := 38) rfl)) rfl), (WT_mem (t6_in (List.mem_of_getElem? (i := 39) rfl)) rfl), (WT_mem (t6_in (List.mem_of_getElem? (i := 40) rfl)) rfl)⟩
theorem lk_L_148 : LnkV RL 148 Y_X8_gum 5 := ⟨lc_X8_gum, (WT_mem (t3_in (List.mem_of_getElem? (i := 138) rfl)) rfl), (WT_mem (t3_in (List.mem_of_getElem? (i := 139) rfl)) rfl), (WT_mem (t3_in (List.mem_of_getElem? (i := 140) rfl)) rfl)⟩
theorem lk_L_152 : LnkV RL 152 Y_X9_gum 5 := ⟨lc_X9_gum, (WT_mem (t6_in (List.mem_of_getElem? (i := 43) rfl)) rfl), (WT_mem (t6_in (List.mem_of_getElem? (i := 44) rfl)) rfl), (WT_mem (t6_in (List.mem_of_getElem? (i := 45) rfl)) rfl)⟩
theorem lk_L_153 : LnkV RL 153 Y_X8_suspect 3 := ⟨lc_X8_suspect, (WT_mem (t3_in (List.mem_of_getElem? (i := 146) rfl)) rfl), (WT_mem (t3_in (List.mem_of_getElem? (i := 147) rfl)) rfl), (WT_mem (t3_in (List.mem_of_getElem? (i := 148) rfl)) rfl)⟩
theorem lk_L_156 : LnkV RL 156 Y_X9_suspect 3 := ⟨lc_X9_suspect, (WT_mem (t6_in (List.mem_of_getElem? (i := 51) rfl)) rfl), (WT_mem (t6_in (List.mem_of_getElem? (i := 52) rfl)) rfl), (WT_mem (t6_in (List.mem_of_getElem? (i := 53) rfl)) rfl)⟩
theorem lk_L_157 : LnkV RL 157 Y_X8_rain 1 := ⟨lc_X8_rain, (WT_mem (t3_in (List.mem_of_getElem? (i := 151) rfl)) rfl), (WT_mem (t3_in (List.mem_of_getElem? (i := 152) rfl)) rfl), (WT_mem (t3_in (List.mem_of_getElem? (i := 153) rfl)) rfl)⟩
theorem lk_L_160 : LnkV RL 160 Y_X9_rain 1 := ⟨lc_X9_rain, (WT_mem (t6_in (List.mem_of_getElem? (i := 55) rfl)) rfl), (WT_mem (t6_in (List.mem_of_getElem? (i := 56) rfl)) rfl), (WT_mem (t6_in (List.mem_of_getElem? (i := 57) rfl)) rfl)⟩
theorem lk_L_161 : LnkV RL 161 Y_X8_seed 1 := ⟨lc_X8_seed, (WT_mem (t3_in (List.mem_of_getElem? (i := 160) rfl)) rfl), (WT_mem (t3_in (List.mem_of_getElem? (i := 161) rfl)) rfl), (WT_mem (t3_in (List.mem_of_getElem? (i := 162) rfl)) rfl)⟩
theorem lk_L_164 : LnkV RL 164 Y_X9_seed 1 := ⟨lc_X9_seed, (WT_mem (t6_in (List.mem_of_getElem? (i := 64) rfl)) rfl), (WT_mem (t6_in (List.mem_of_getElem? (i := 65) rfl)) rfl), (WT_mem (t6_in (List.mem_of_getElem? (i := 66) rfl)) rfl)⟩
theorem lk_L_165 : LnkV RL 165 Y_X8_feed 2 := ⟨lc_X8_feed, (WT_mem (t3_in (List.mem_of_getElem? (i := 164) rfl)) rfl), (WT_mem (t3_in (List.mem_of_getElem? (i := 165) rfl)) rfl), (WT_mem (t3_in (List.mem_of_getElem? (i := 166) rfl)) rfl)⟩
theorem lk_L_168 : LnkV RL 168 Y_X9_feed 2 := ⟨lc_X9_feed, (WT_mem (t6_in (List.mem_of_getElem? (i := 68) rfl)) rfl), (WT_mem (t6_in (List.mem_of_getElem? (i := 69) rfl)) rfl), (WT_mem (t6_in (List.mem_of_getElem? (i := 70) rfl)) rfl)⟩
theorem lk_L_169 : LnkV RL 169 Y_X8_wipe 0 := ⟨lc_X8_wipe, (WT_mem (t3_in (List.mem_of_getElem? (i := 176) rfl)) rfl), (WT_mem (t3_in (List.mem_of_getElem? (i := 177) rfl)) rfl), (WT_mem (t3_in (List.mem_of_getElem? (i := 178) rfl)) rfl)⟩
theorem lk_L_172 : LnkV RL 172 Y_X9_wipe 0 := ⟨lc_X9_wipe, (WT_mem (t6_in (List.mem_of_getElem? (i := 72) rfl)) rfl), (WT_mem (t6_in (List.mem_of_getElem? (i := 73) rfl)) rfl), (WT_mem (t6_in (List.mem_of_getElem? (i := 74) rfl)) rfl)⟩
theorem lk_L_173 : LnkV RL 173 Y_X8_text 0 := ⟨lc_X8_text, (WT_mem (t3_in (List.mem_of_getElem? (i := 180) rfl)) rfl), (WT_mem (t3_in (List.mem_of_getElem? (i := 181) rfl)) rfl), (WT_mem (t3_in (List.mem_of_getElem? (i := 182) rfl)) rfl)⟩
theorem lk_L_176 : LnkV RL 176 Y_X9_text 0 := ⟨lc_X9_text, (WT_mem (t6_in (List.mem_of_getElem? (i := 76) rfl)) rfl), (WT_mem (t6_in (List.mem_of_getElem? (i := 77) rfl)) rfl), (WT_mem (t6_in (List.mem_of_getElem? (i := 78) rfl)) rfl)⟩
theorem lk_L_177 : LnkV RL 177 Y_X8_hold 2 := ⟨lc_X8_hold, (WT_mem (t4_in (List.mem_of_getElem? (i := 67) rfl)) rfl), (WT_mem (t4_in (List.mem_of_getElem? (i := 68) rfl)) rfl), (WT_mem (t4_in (List.mem_of_getElem? (i := 69) rfl)) rfl)⟩
theorem lk_L_180 : LnkV RL 180 Y_X9_hold 2 := ⟨lc_X9_hold, (WT_mem (t6_in (List.mem_of_getElem? (i := 143) rfl)) rfl), (WT_mem (t6_in (List.mem_of_getElem? (i := 144) rfl)) rfl), (WT_mem (t6_in (List.mem_of_getElem? (i := 145) rfl)) rfl)⟩
theorem lk_L_181 : LnkV RL 181 Y_X8_as 2 := ⟨lc_X8_as, (WT_mem (t4_in (List.mem_of_getElem? (i := 74) rfl)) rfl), (WT_mem (t4_in (List.mem_of_getElem? (i := 75) rfl)) rfl), (WT_mem (t4_in (List.mem_of_getElem? (i := 76) rfl)) rfl)⟩
theorem lk_L_184 : LnkV RL 184 Y_X9_as 2 := ⟨lc_X9_as, (WT_mem (t6_in (List.mem_of_getElem? (i := 147) rfl)) rfl), (WT_mem (t6_in (List.mem_of_getElem? (i := 148) rfl)) rfl), (WT_mem (t6_in (List.mem_of_getElem? (i := 149) rfl)) rfl)⟩
theorem lk_L_185 : LnkV RL 185 Y_X8_sheet 3 := ⟨lc_X8_sheet, (WT_mem (t4_in (List.mem_of_getElem? (i := 84) rfl)) rfl), (WT_mem (t4_in (List.mem_of_getElem? (i := 85) rfl)) rfl), (WT_mem (t4_in (List.mem_of_getElem? (i := 86) rfl)) rfl)⟩
theorem lk_L_188 : LnkV RL 188 Y_X9_sheet 3 := ⟨lc_X9_sheet, (WT_mem (t6_in (List.mem_of_getElem? (i := 156) rfl)) rfl), (WT_mem (t6_in (List.mem_of_getElem? (i := 157) rfl)) rfl), (WT_mem (t6_in (List.mem_of_getElem? (i := 158) rfl)) rfl)⟩
theorem lk_L_189 : LnkV RL 189 Y_X8_write 3 := ⟨lc_X8_write, (WT_mem (t4_in (List.mem_of_getElem? (i := 96) rfl)) rfl), (WT_mem (t4_in (List.mem_of_getElem? (i := 97) rfl)) rfl), (WT_mem (t4_in (List.mem_of_getElem? (i := 98) rfl)) rfl)⟩
theorem lk_L_192 : LnkV RL 192 Y_X9_write 3 := ⟨lc_X9_write, (WT_mem (t6_in (List.mem_of_getElem? (i := 164) rfl)) rfl), (WT_mem (t6_in (List.mem_of_getElem? (i := 165) rfl)) rfl), (WT_mem (t6_in (List.mem_of_getElem? (i := 166) rfl)) rfl)⟩
theorem lk_L_193 : LnkV RL 193 Y_X8_copy 5 := ⟨lc_X8_copy, (WT_mem (t4_in (List.mem_of_getElem? (i := 108) rfl)) rfl), (WT_mem (t4_in (List.mem_of_getElem? (i := 109) rfl)) rfl), (WT_mem (t4_in (List.mem_of_getElem? (i := 110) rfl)) rfl)⟩
theorem lk_L_197 : LnkV RL 197 Y_X9_copy 5 := ⟨lc_X9_copy, (WT_mem (t6_in (List.mem_of_getElem? (i := 168) rfl)) rfl), (WT_mem (t6_in (List.mem_of_getElem? (i := 169) rfl)) rfl), (WT_mem (t6_in (List.mem_of_getElem? (i := 170) rfl)) rfl)⟩
theorem lk_L_198 : LnkV RL 198 Y_X8_load 2 := ⟨lc_X8_load, (WT_mem (t4_in (List.mem_of_getElem? (i := 117) rfl)) rfl), (WT_mem (t4_in (List.mem_of_getElem? (i := 118) rfl)) rfl), (WT_mem (t4_in (List.mem_of_getElem? (i := 119) rfl)) rfl)⟩
theorem lk_L_201 : LnkV RL 201 Y_X9_load 2 := ⟨lc_X9_load, (WT_mem (t6_in (List.mem_of_getElem? (i := 172) rfl)) rfl), (WT_mem (t6_in (List.mem_of_getElem? (i := 173) rfl)) rfl), (WT_mem (t6_in (List.mem_of_getElem? (i := 174) rfl)) rfl)⟩
theorem lk_L_202 : LnkV RL 202 Y_X8_judge 1 := ⟨lc_X8_judge, (WT_mem (t4_in (List.mem_of_getElem? (i := 122) rfl)) rfl), (WT_mem (t4_in (List.mem_of_getElem? (i := 123) rfl)) rfl), (WT_mem (t4_in (List.mem_of_getElem? (i := 124) rfl)) rfl)⟩
theorem lk_L_205 : LnkV RL 205 Y_X9_judge 1 := ⟨lc_X9_judge, (WT_mem (t6_in (List.mem_of_getElem? (i := 176) rfl)) rfl), (WT_mem (t6_in (List.mem_of_getElem? (i := 177) rfl)) rfl), (WT_mem (t6_in (List.mem_of_getElem? (i := 178) rfl)) rfl)⟩
theorem lk_L_206 : LnkV RL 206 Y_X8_image 0 := ⟨lc_X8_image, (WT_mem (t4_in (List.mem_of_getElem? (i := 127) rfl)) rfl), (WT_mem (t4_in (List.mem_of_getElem? (i := 128) rfl)) rfl), (WT_mem (t4_in (List.mem_of_getElem? (i := 129) rfl)) rfl)⟩
theorem lk_L_209 : LnkV RL 209 Y_X9_image 0 := ⟨lc_X9_image, (WT_mem (t6_in (List.mem_of_getElem? (i := 180) rfl)) rfl), (WT_mem (t6_in (List.mem_of_getElem? (i := 181) rfl)) rfl), (WT_mem (t6_in (List.mem_of_getElem? (i := 182) rfl)) rfl)⟩
theorem lk_L_210 : LnkV RL 210 Y_X8_undo 0 := ⟨lc_X8_undo, (WT_mem (t4_in (List.mem_of_getElem? (i := 131) rfl)) rfl), (WT_mem (t4_in (List.mem_of_getElem? (i := 132) rfl)) rfl), (WT_mem (t4_in (List.mem_of_getElem? (i := 133) rfl)) rfl)⟩
theorem lk_L_213 : LnkV RL 213 Y_X9_undo 0 := ⟨lc_X9_undo, (WT_mem (t6_in (List.mem_of_getElem? (i := 184) rfl)) rfl), (WT_mem (t6_in (List.mem_of_getElem? (i := 185) rfl)) rfl), (WT_mem (t6_in (List.mem_of_getElem? (i := 186) rfl)) rfl)⟩
theorem lk_L_214 : LnkV RL 214 Y_X8_tear 0 := ⟨lc_X8_tear, (WT_mem (t4_in (List.mem_of_getElem? (i := 135) rfl)) rfl), (WT_mem (t4_in (List.mem_of_getElem? (i := 136) rfl)) rfl), (WT_mem (t4_in (List.mem_of_getElem? (i := 137) rfl)) rfl)⟩
theorem lk_L_217 : LnkV RL 217 Y_X9_tear 0 := ⟨lc_X9_tear, (WT_mem (t6_in (List.mem_of_getElem? (i := 188) rfl)) rfl), (WT_mem (t6_in (List.mem_of_getElem? (i := 189) rfl)) rfl), (WT_mem (t6_in (List.mem_of_getElem? (i := 190) rfl)) rfl)⟩
theorem lk_L_218 : LnkV RL 218 Y_X8_count 1 := ⟨lc_X8_count, (WT_mem (t4_in (List.mem_of_getElem? (i := 139) rfl)) rfl), (WT_mem (t4_in (List.mem_of_getElem? (i := 140) rfl)) rfl), (WT_mem (t4_in (List.mem_of_getElem? (i := 141) rfl)) rfl)⟩
theorem lk_L_221 : LnkV RL 221 Y_X9_count 1 := ⟨lc_X9_count, (WT_mem (t6_in (List.mem_of_getElem? (i := 192) rfl)) rfl), (WT_mem (t6_in (List.mem_of_getElem? (i := 193) rfl)) rfl), (WT_mem (t6_in (List.mem_of_getElem? (i := 194) rfl)) rfl)⟩
theorem lk_L_222 : LnkV RL 222 Y_X8_status 1 := ⟨lc_X8_status, (WT_mem (t4_in (List.mem_of_getElem? (i := 151) rfl)) rfl), (WT_mem (t4_in (List.mem_of_getElem? (i := 152) rfl)) rfl), (WT_mem (t4_in (List.mem_of_getElem? (i := 153) rfl)) rfl)⟩
theorem lk_L_225 : LnkV RL 225 Y_X9_status 1 := ⟨lc_X9_status, (WT_mem (t6_in (List.mem_of_getElem? (i := 204) rfl)) rfl), (WT_mem (t6_in (List.mem_of_getElem? (i := 205) rfl)) rfl), (WT_mem (t6_in (List.mem_of_getElem? (i := 206) rfl)) rfl)⟩
theorem fl_X0_11 : FL RX0 11 0 0 := ⟨_, rfl, by decide, (WT_mem (t1_in (List.mem_of_getElem? (i := 137) rfl)) rfl)⟩
theorem fl_X0_15 : FL RX0 15 0 1 := ⟨_, rfl, by decide, (WT_mem (t1_in (List.mem_of_getElem? (i := 138) rfl)) rfl)⟩
theorem fl_X0_18 : FL RX0 18 2 1 := ⟨_, rfl, by decide, (WT_mem (t1_in (List.mem_of_getElem? (i := 86) rfl)) rfl)⟩
theorem lk_X0_24 : LnkS RX0 24 Y_J7_fill_d0a16 2 := ⟨lc_J7_fill_d0a16, (WT_mem (t3_in (List.mem_of_getElem? (i := 23) rfl)) rfl), (WT_mem (t3_in (List.mem_of_getElem? (i := 24) rfl)) rfl)⟩
theorem fl_X0_36 : FL RX0 36 4 0 := ⟨_, rfl, by decide, (WT_mem (t1_in (List.mem_of_getElem? (i := 42) rfl)) rfl)⟩
theorem lk_X0_42 : LnkV RX0 42 Y_X2_oddsOf 5 := ⟨lc_X2_oddsOf, (WT_mem (t3_in (List.mem_of_getElem? (i := 27) rfl)) rfl), (WT_mem (t2_in (List.mem_of_getElem? (i := 114) rfl)) rfl), (WT_mem (t2_in (List.mem_of_getElem? (i := 115) rfl)) rfl)⟩
theorem lk_X0_46 : LnkV RX0 46 Y_X0_spread 3 := ⟨lc_X0_spread, (WT_mem (t3_in (List.mem_of_getElem? (i := 28) rfl)) rfl), (WT_mem (t3_in (List.mem_of_getElem? (i := 30) rfl)) rfl), (WT_mem (pv_in (List.mem_of_getElem? (i := 4) rfl)) rfl)⟩
theorem lk_X0_50 : LnkS RX0 50 Y_J9_max_7cf53 2 := ⟨lc_J9_max_7cf53, (WT_mem (t3_in (List.mem_of_getElem? (i := 32) rfl)) rfl), (WT_mem (t2_in (List.mem_of_getElem? (i := 131) rfl)) rfl)⟩
theorem fl_X1_21 : FL RX1 21 2 1 := ⟨_, rfl, by decide, (WT_mem (t1_in (List.mem_of_getElem? (i := 87) rfl)) rfl)⟩
theorem fl_X1_9 : FL RX1 9 1 0 := ⟨_, rfl, by decide, (WT_mem (t1_in (List.mem_of_getElem? (i := 121) rfl)) rfl)⟩
theorem lk_X1_27 : LnkS RX1 27 Y_J7_fill_53178 2 := ⟨lc_J7_fill_53178, (WT_mem (t3_in (List.mem_of_getElem? (i := 41) rfl)) rfl), (WT_mem (t1_in (List.mem_of_getElem? (i := 80) rfl)) rfl)⟩
theorem lk_X1_45 : LnkV RX1 45 Y_X1_bestPace 4 := ⟨lc_X1_bestPace, (WT_mem (t3_in (List.mem_of_getElem? (i := 62) rfl)) rfl), (WT_mem (t3_in (List.mem_of_getElem? (i := 64) rfl)) rfl), (WT_mem (pv_in (List.mem_of_getElem? (i := 7) rfl)) rfl)⟩
theorem fl_X1_18 : FL RX1 18 1 2 := ⟨_, rfl, by decide, (WT_mem (t1_in (List.mem_of_getElem? (i := 123) rfl)) rfl)⟩
theorem fl_X1_15 : FL RX1 15 1 1 := ⟨_, rfl, by decide, (WT_mem (t1_in (List.mem_of_getElem? (i := 122) rfl)) rfl)⟩
theorem lk_X1_38 : LnkV RX1 38 Y_X1_through 5 := ⟨lc_X1_through, (WT_mem (t3_in (List.mem_of_getElem? (i := 42) rfl)) rfl), (WT_mem (t3_in (List.mem_of_getElem? (i := 44) rfl)) rfl), (WT_mem (pv_in (List.mem_of_getElem? (i := 5) rfl)) rfl)⟩
theorem lk_X1_42 : LnkV RX1 42 Y_X1_goBack 0 := ⟨lc_X1_goBack, (WT_mem (t3_in (List.mem_of_getElem? (i := 49) rfl)) rfl), (WT_mem (t3_in (List.mem_of_getElem? (i := 51) rfl)) rfl), (WT_mem (pv_in (List.mem_of_getElem? (i := 6) rfl)) rfl)⟩
theorem fl_X1_33 : FL RX1 33 4 0 := ⟨_, rfl, by decide, (WT_mem (t1_in (List.mem_of_getElem? (i := 41) rfl)) rfl)⟩
theorem kc_X1_51 : Cond.constant RX1 51 (2147483647) ∈ WTb := (WT_mem (t3_in (List.mem_of_getElem? (i := 66) rfl)) rfl)
theorem lk_X1_52 : LnkV RX1 52 Y_X2_oddsOf 5 := ⟨lc_X2_oddsOf, (WT_mem (t3_in (List.mem_of_getElem? (i := 46) rfl)) rfl), (WT_mem (t2_in (List.mem_of_getElem? (i := 114) rfl)) rfl), (WT_mem (t2_in (List.mem_of_getElem? (i := 115) rfl)) rfl)⟩
theorem lk_X1_56 : LnkS RX1 56 Y_J9_max_7cf53 2 := ⟨lc_J9_max_7cf53, (WT_mem (t3_in (List.mem_of_getElem? (i := 47) rfl)) rfl), (WT_mem (t2_in (List.mem_of_getElem? (i := 131) rfl)) rfl)⟩
theorem fl_X1_62 : FL RX1 62 2 4 := ⟨_, rfl, by decide, (WT_mem (t1_in (List.mem_of_getElem? (i := 99) rfl)) rfl)⟩
theorem lk_X1_66 : LnkV RX1 66 Y_X4_takes 1 := ⟨lc_X4_takes, (WT_mem (t3_in (List.mem_of_getElem? (i := 48) rfl)) rfl), (WT_mem (t2_in (List.mem_of_getElem? (i := 96) rfl)) rfl), (WT_mem (t2_in (List.mem_of_getElem? (i := 97) rfl)) rfl)⟩
theorem fl_X2_17 : FL RX2 17 2 1 := ⟨_, rfl, by decide, (WT_mem (t1_in (List.mem_of_getElem? (i := 85) rfl)) rfl)⟩
theorem fl_X2_24 : FL RX2 24 2 3 := ⟨_, rfl, by decide, (WT_mem (t1_in (List.mem_of_getElem? (i := 92) rfl)) rfl)⟩
theorem lk_X2_51 : LnkV RX2 51 Y_X4_beNew 3 := ⟨lc_X4_beNew, (WT_mem (t2_in (List.mem_of_getElem? (i := 42) rfl)) rfl), (WT_mem (t2_in (List.mem_of_getElem? (i := 43) rfl)) rfl), (WT_mem (t2_in (List.mem_of_getElem? (i := 44) rfl)) rfl)⟩
theorem fp_X2_24 : FP RX2 24 2 3 .int := ⟨_, rfl, by decide, (WT_mem (t1_in (List.mem_of_getElem? (i := 92) rfl)) rfl), rfl, by decide +kernel⟩
theorem fl_X2_9 : FL RX2 9 2 0 := ⟨_, rfl, by decide, (WT_mem (t1_in (List.mem_of_getElem? (i := 82) rfl)) rfl)⟩
theorem fl_X2_21 : FL RX2 21 2 2 := ⟨_, rfl, by decide, (WT_mem (t1_in (List.mem_of_getElem? (i := 90) rfl)) rfl)⟩
theorem lk_X2_47 : LnkV RX2 47 Y_X4_become 1 := ⟨lc_X4_become, (WT_mem (t2_in (List.mem_of_getElem? (i := 217) rfl)) rfl), (WT_mem (t2_in (List.mem_of_getElem? (i := 218) rfl)) rfl), (WT_mem (t2_in (List.mem_of_getElem? (i := 219) rfl)) rfl)⟩
theorem fl_X2_28 : FL RX2 28 2 4 := ⟨_, rfl, by decide, (WT_mem (t1_in (List.mem_of_getElem? (i := 96) rfl)) rfl)⟩
theorem fp_X2_28 : FP RX2 28 2 4 .int := ⟨_, rfl, by decide, (WT_mem (t1_in (List.mem_of_getElem? (i := 96) rfl)) rfl), rfl, by decide +kernel⟩
theorem fl_X2_31 : FL RX2 31 2 5 := ⟨_, rfl, by decide, (WT_mem (t1_in (List.mem_of_getElem? (i := 100) rfl)) rfl)⟩
theorem fp_X2_31 : FP RX2 31 2 5 .int := ⟨_, rfl, by decide, (WT_mem (t1_in (List.mem_of_getElem? (i := 100) rfl)) rfl), rfl, by decide +kernel⟩
theorem fl_X2_111 : FL RX2 111 4 7 := ⟨_, rfl, by decide, (WT_mem (t1_in (List.mem_of_getElem? (i := 60) rfl)) rfl)⟩
theorem kc_X2_55 : Cond.constant RX2 55 (1103515245) ∈ WTb := (WT_mem (t2_in (List.mem_of_getElem? (i := 185) rfl)) rfl)
theorem lk_X2_114 : LnkV RX2 114 Y_X2_whoRuns 0 := ⟨lc_X2_whoRuns, (WT_mem (t2_in (List.mem_of_getElem? (i := 175) rfl)) rfl), (WT_mem (t2_in (List.mem_of_getElem? (i := 164) rfl)) rfl), (WT_mem (t2_in (List.mem_of_getElem? (i := 165) rfl)) rfl)⟩
theorem lk_X2_117 : LnkV RX2 117 Y_X2_step 1 := ⟨lc_X2_step, (WT_mem (t2_in (List.mem_of_getElem? (i := 176) rfl)) rfl), (WT_mem (t2_in (List.mem_of_getElem? (i := 177) rfl)) rfl), (WT_mem (t2_in (List.mem_of_getElem? (i := 178) rfl)) rfl)⟩
theorem lk_X2_59 : LnkV RX2 59 Y_X4_isHome 0 := ⟨lc_X4_isHome, (WT_mem (t2_in (List.mem_of_getElem? (i := 149) rfl)) rfl), (WT_mem (t2_in (List.mem_of_getElem? (i := 138) rfl)) rfl), (WT_mem (t2_in (List.mem_of_getElem? (i := 139) rfl)) rfl)⟩
theorem lk_X2_35 : LnkS RX2 35 Y_J7_fill_53178 2 := ⟨lc_J7_fill_53178, (WT_mem (t1_in (List.mem_of_getElem? (i := 79) rfl)) rfl), (WT_mem (t1_in (List.mem_of_getElem? (i := 80) rfl)) rfl)⟩
theorem fl_X2_99 : FL RX2 99 4 5 := ⟨_, rfl, by decide, (WT_mem (t1_in (List.mem_of_getElem? (i := 55) rfl)) rfl)⟩
theorem fl_X2_56 : FL RX2 56 4 4 := ⟨_, rfl, by decide, (WT_mem (t1_in (List.mem_of_getElem? (i := 53) rfl)) rfl)⟩
theorem lk_X2_63 : LnkS RX2 63 Y_J9_abs_0f7a4 1 := ⟨lc_J9_abs_0f7a4, (WT_mem (t2_in (List.mem_of_getElem? (i := 150) rfl)) rfl), (WT_mem (t2_in (List.mem_of_getElem? (i := 151) rfl)) rfl)⟩
theorem fl_X2_86 : FL RX2 86 4 0 := ⟨_, rfl, by decide, (WT_mem (t1_in (List.mem_of_getElem? (i := 44) rfl)) rfl)⟩
theorem fl_X2_89 : FL RX2 89 4 6 := ⟨_, rfl, by decide, (WT_mem (t1_in (List.mem_of_getElem? (i := 58) rfl)) rfl)⟩
theorem lk_X2_92 : LnkV RX2 92 Y_X2_nervesOf 1 := ⟨lc_X2_nervesOf, (WT_mem (t2_in (List.mem_of_getElem? (i := 145) rfl)) rfl), (WT_mem (t2_in (List.mem_of_getElem? (i := 146) rfl)) rfl), (WT_mem (t2_in (List.mem_of_getElem? (i := 147) rfl)) rfl)⟩
theorem lk_X2_95 : LnkV RX2 95 Y_X2_oddsOf 5 := ⟨lc_X2_oddsOf, (WT_mem (t2_in (List.mem_of_getElem? (i := 153) rfl)) rfl), (WT_mem (t2_in (List.mem_of_getElem? (i := 114) rfl)) rfl), (WT_mem (t2_in (List.mem_of_getElem? (i := 115) rfl)) rfl)⟩
theorem lk_X2_69 : LnkV RX2 69 Y_X4_rocks 1 := ⟨lc_X4_rocks, (WT_mem (t2_in (List.mem_of_getElem? (i := 117) rfl)) rfl), (WT_mem (t2_in (List.mem_of_getElem? (i := 102) rfl)) rfl), (WT_mem (t2_in (List.mem_of_getElem? (i := 103) rfl)) rfl)⟩
theorem lk_X2_72 : LnkV RX2 72 Y_X4_hurts 1 := ⟨lc_X4_hurts, (WT_mem (t2_in (List.mem_of_getElem? (i := 118) rfl)) rfl), (WT_mem (t2_in (List.mem_of_getElem? (i := 119) rfl)) rfl), (WT_mem (t2_in (List.mem_of_getElem? (i := 120) rfl)) rfl)⟩
theorem lk_X2_75 : LnkV RX2 75 Y_X4_holds 0 := ⟨lc_X4_holds, (WT_mem (t2_in (List.mem_of_getElem? (i := 126) rfl)) rfl), (WT_mem (t2_in (List.mem_of_getElem? (i := 64) rfl)) rfl), (WT_mem (t2_in (List.mem_of_getElem? (i := 65) rfl)) rfl)⟩
theorem lk_X2_79 : LnkS RX2 79 Y_J9_min_7cf53 2 := ⟨lc_J9_min_7cf53, (WT_mem (t2_in (List.mem_of_getElem? (i := 127) rfl)) rfl), (WT_mem (t2_in (List.mem_of_getElem? (i := 128) rfl)) rfl)⟩
theorem lk_X2_83 : LnkS RX2 83 Y_J9_max_7cf53 2 := ⟨lc_J9_max_7cf53, (WT_mem (t2_in (List.mem_of_getElem? (i := 130) rfl)) rfl), (WT_mem (t2_in (List.mem_of_getElem? (i := 131) rfl)) rfl)⟩
theorem lk_X2_120 : LnkV RX2 120 Y_X2_homeSet 0 := ⟨lc_X2_homeSet, (WT_mem (t2_in (List.mem_of_getElem? (i := 195) rfl)) rfl), (WT_mem (t2_in (List.mem_of_getElem? (i := 196) rfl)) rfl), (WT_mem (t2_in (List.mem_of_getElem? (i := 197) rfl)) rfl)⟩
theorem lk_X2_123 : LnkS RX2 123 Y_J6_bitCount_0f7a4 1 := ⟨lc_J6_bitCount_0f7a4, (WT_mem (t2_in (List.mem_of_getElem? (i := 199) rfl)) rfl), (WT_mem (t2_in (List.mem_of_getElem? (i := 200) rfl)) rfl)⟩
theorem lk_X2_128 : LnkV RX2 128 Y_X4_restart 0 := ⟨lc_X4_restart, (WT_mem (t2_in (List.mem_of_getElem? (i := 205) rfl)) rfl), (WT_mem (t2_in (List.mem_of_getElem? (i := 48) rfl)) rfl), (WT_mem (t2_in (List.mem_of_getElem? (i := 49) rfl)) rfl)⟩
theorem lk_X2_102 : LnkV RX2 102 Y_X2_oddsInStep 1 := ⟨lc_X2_oddsInStep, (WT_mem (t2_in (List.mem_of_getElem? (i := 180) rfl)) rfl), (WT_mem (t2_in (List.mem_of_getElem? (i := 142) rfl)) rfl), (WT_mem (t2_in (List.mem_of_getElem? (i := 143) rfl)) rfl)⟩
theorem lk_X2_105 : LnkV RX2 105 Y_X2_draw 0 := ⟨lc_X2_draw, (WT_mem (t2_in (List.mem_of_getElem? (i := 181) rfl)) rfl), (WT_mem (t2_in (List.mem_of_getElem? (i := 182) rfl)) rfl), (WT_mem (t2_in (List.mem_of_getElem? (i := 183) rfl)) rfl)⟩
theorem lk_X2_108 : LnkV RX2 108 Y_X4_takes 1 := ⟨lc_X4_takes, (WT_mem (t2_in (List.mem_of_getElem? (i := 186) rfl)) rfl), (WT_mem (t2_in (List.mem_of_getElem? (i := 96) rfl)) rfl), (WT_mem (t2_in (List.mem_of_getElem? (i := 97) rfl)) rfl)⟩
theorem fp_X2_99 : FP RX2 99 4 5 .int := ⟨_, rfl, by decide, (WT_mem (t1_in (List.mem_of_getElem? (i := 55) rfl)) rfl), rfl, by decide +kernel⟩
theorem fp_X2_56 : FP RX2 56 4 4 .int := ⟨_, rfl, by decide, (WT_mem (t1_in (List.mem_of_getElem? (i := 53) rfl)) rfl), rfl, by decide +kernel⟩
theorem fp_X2_111 : FP RX2 111 4 7 .int := ⟨_, rfl, by decide, (WT_mem (t1_in (List.mem_of_getElem? (i := 60) rfl)) rfl), rfl, by decide +kernel⟩
theorem fp_X2_89 : FP RX2 89 4 6 .int := ⟨_, rfl, by decide, (WT_mem (t1_in (List.mem_of_getElem? (i := 58) rfl)) rfl), rfl, by decide +kernel⟩
theorem fl_X3_12 : FL RX3 12 3 0 := ⟨_, rfl, by decide, (WT_mem (t1_in (List.mem_of_getElem? (i := 196) rfl)) rfl)⟩
theorem lk_X3_45 : LnkV RX3 45 Y_X6_isWord 1 := ⟨lc_X6_isWord, (WT_mem (t3_in (List.mem_of_getElem? (i := 206) rfl)) rfl), (WT_mem (t3_in (List.mem_of_getElem? (i := 207) rfl)) rfl), (WT_mem (t3_in (List.mem_of_getElem? (i := 208) rfl)) rfl)⟩
theorem lk_X3_29 : LnkV RX3 29 Y_X6_advance 0 := ⟨lc_X6_advance, (WT_mem (t4_in (List.mem_of_getElem? (i := 30) rfl)) rfl), (WT_mem (t3_in (List.mem_of_getElem? (i := 193) rfl)) rfl), (WT_mem (t3_in (List.mem_of_getElem? (i := 194) rfl)) rfl)⟩
theorem lk_X3_105 : LnkV RX3 105 Y_X6_value 0 := ⟨lc_X6_value, (WT_mem (t4_in (List.mem_of_getElem? (i := 31) rfl)) rfl), (WT_mem (t4_in (List.mem_of_getElem? (i := 32) rfl)) rfl), (WT_mem (t4_in (List.mem_of_getElem? (i := 33) rfl)) rfl)⟩
theorem lk_X3_63 : LnkV RX3 63 Y_X3_numberBehind 2 := ⟨lc_X3_numberBehind, (WT_mem (t4_in (List.mem_of_getElem? (i := 26) rfl)) rfl), (WT_mem (t4_in (List.mem_of_getElem? (i := 28) rfl)) rfl), (WT_mem (pv_in (List.mem_of_getElem? (i := 15) rfl)) rfl)⟩
theorem lk_X3_69 : LnkV RX3 69 Y_X3_perhaps 4 := ⟨lc_X3_perhaps, (WT_mem (t4_in (List.mem_of_getElem? (i := 37) rfl)) rfl), (WT_mem (t4_in (List.mem_of_getElem? (i := 39) rfl)) rfl), (WT_mem (pv_in (List.mem_of_getElem? (i := 16) rfl)) rfl)⟩
theorem fl_X3_73 : FL RX3 73 2 0 := ⟨_, rfl, by decide, (WT_mem (t1_in (List.mem_of_getElem? (i := 84) rfl)) rfl)⟩
theorem lk_X3_18 : LnkV RX3 18 Y_X6_rewind 0 := ⟨lc_X6_rewind, (WT_mem (t3_in (List.mem_of_getElem? (i := 188) rfl)) rfl), (WT_mem (t3_in (List.mem_of_getElem? (i := 189) rfl)) rfl), (WT_mem (t3_in (List.mem_of_getElem? (i := 190) rfl)) rfl)⟩
theorem lk_X3_21 : LnkV RX3 21 Y_X3_readItem 1 := ⟨lc_X3_readItem, (WT_mem (t3_in (List.mem_of_getElem? (i := 197) rfl)) rfl), (WT_mem (t3_in (List.mem_of_getElem? (i := 199) rfl)) rfl), (WT_mem (pv_in (List.mem_of_getElem? (i := 12) rfl)) rfl)⟩
theorem fl_X3_25 : FL RX3 25 6 3 := ⟨_, rfl, by decide, (WT_mem (t1_in (List.mem_of_getElem? (i := 179) rfl)) rfl)⟩
theorem fl_X3_32 : FL RX3 32 6 4 := ⟨_, rfl, by decide, (WT_mem (t1_in (List.mem_of_getElem? (i := 181) rfl)) rfl)⟩
theorem lk_X3_35 : LnkV RX3 35 Y_X3_groundTold 0 := ⟨lc_X3_groundTold, (WT_mem (t3_in (List.mem_of_getElem? (i := 201) rfl)) rfl), (WT_mem (t3_in (List.mem_of_getElem? (i := 203) rfl)) rfl), (WT_mem (pv_in (List.mem_of_getElem? (i := 13) rfl)) rfl)⟩
theorem lk_X3_39 : LnkV RX3 39 Y_X3_readGround 2 := ⟨lc_X3_readGround, (WT_mem (t4_in (List.mem_of_getElem? (i := 22) rfl)) rfl), (WT_mem (t4_in (List.mem_of_getElem? (i := 24) rfl)) rfl), (WT_mem (pv_in (List.mem_of_getElem? (i := 14) rfl)) rfl)⟩
theorem lk_X3_49 : LnkV RX3 49 Y_X3_readPick 1 := ⟨lc_X3_readPick, (WT_mem (t4_in (List.mem_of_getElem? (i := 42) rfl)) rfl), (WT_mem (t4_in (List.mem_of_getElem? (i := 44) rfl)) rfl), (WT_mem (pv_in (List.mem_of_getElem? (i := 17) rfl)) rfl)⟩
theorem lk_X3_52 : LnkV RX3 52 Y_X3_kindTold 0 := ⟨lc_X3_kindTold, (WT_mem (t4_in (List.mem_of_getElem? (i := 46) rfl)) rfl), (WT_mem (t4_in (List.mem_of_getElem? (i := 48) rfl)) rfl), (WT_mem (pv_in (List.mem_of_getElem? (i := 18) rfl)) rfl)⟩
theorem fl_X3_55 : FL RX3 55 2 3 := ⟨_, rfl, by decide, (WT_mem (t1_in (List.mem_of_getElem? (i := 94) rfl)) rfl)⟩
theorem lk_X3_60 : LnkV RX3 60 Y_X3_readRunner 2 := ⟨lc_X3_readRunner, (WT_mem (t4_in (List.mem_of_getElem? (i := 57) rfl)) rfl), (WT_mem (t4_in (List.mem_of_getElem? (i := 59) rfl)) rfl), (WT_mem (pv_in (List.mem_of_getElem? (i := 19) rfl)) rfl)⟩
theorem fl_X3_77 : FL RX3 77 2 4 := ⟨_, rfl, by decide, (WT_mem (t1_in (List.mem_of_getElem? (i := 98) rfl)) rfl)⟩
theorem fp_X3_77 : FP RX3 77 2 4 .int := ⟨_, rfl, by decide, (WT_mem (t1_in (List.mem_of_getElem? (i := 98) rfl)) rfl), rfl, by decide +kernel⟩
theorem lk_X3_86 : LnkV RX3 86 Y_X2_add 3 := ⟨lc_X2_add, (WT_mem (t4_in (List.mem_of_getElem? (i := 64) rfl)) rfl), (WT_mem (t2_in (List.mem_of_getElem? (i := 39) rfl)) rfl), (WT_mem (t2_in (List.mem_of_getElem? (i := 40) rfl)) rfl)⟩
theorem fl_X3_90 : FL RX3 90 2 1 := ⟨_, rfl, by decide, (WT_mem (t1_in (List.mem_of_getElem? (i := 89) rfl)) rfl)⟩
theorem fl_X3_94 : FL RX3 94 4 0 := ⟨_, rfl, by decide, (WT_mem (t1_in (List.mem_of_getElem? (i := 43) rfl)) rfl)⟩
theorem lk_X3_99 : LnkS RX3 99 Y_J7_fill_53178 2 := ⟨lc_J7_fill_53178, (WT_mem (t4_in (List.mem_of_getElem? (i := 65) rfl)) rfl), (WT_mem (t1_in (List.mem_of_getElem? (i := 80) rfl)) rfl)⟩
theorem fl_X4_9 : FL RX4 9 4 0 := ⟨_, rfl, by decide, (WT_mem (t1_in (List.mem_of_getElem? (i := 40) rfl)) rfl)⟩
theorem lk_X4_43 : LnkS RX4 43 Y_J7_fill_53178 2 := ⟨lc_J7_fill_53178, (WT_mem (t2_in (List.mem_of_getElem? (i := 46) rfl)) rfl), (WT_mem (t1_in (List.mem_of_getElem? (i := 80) rfl)) rfl)⟩
theorem fl_X4_21 : FL RX4 21 4 1 := ⟨_, rfl, by decide, (WT_mem (t1_in (List.mem_of_getElem? (i := 46) rfl)) rfl)⟩
theorem fp_X4_21 : FP RX4 21 4 1 .int := ⟨_, rfl, by decide, (WT_mem (t1_in (List.mem_of_getElem? (i := 46) rfl)) rfl), rfl, by decide +kernel⟩
theorem fl_X4_25 : FL RX4 25 4 2 := ⟨_, rfl, by decide, (WT_mem (t1_in (List.mem_of_getElem? (i := 48) rfl)) rfl)⟩
theorem fp_X4_25 : FP RX4 25 4 2 .int := ⟨_, rfl, by decide, (WT_mem (t1_in (List.mem_of_getElem? (i := 48) rfl)) rfl), rfl, by decide +kernel⟩
theorem fl_X4_28 : FL RX4 28 4 3 := ⟨_, rfl, by decide, (WT_mem (t1_in (List.mem_of_getElem? (i := 50) rfl)) rfl)⟩
theorem fp_X4_28 : FP RX4 28 4 3 .int := ⟨_, rfl, by decide, (WT_mem (t1_in (List.mem_of_getElem? (i := 50) rfl)) rfl), rfl, by decide +kernel⟩
theorem lk_X4_49 : LnkV RX4 49 Y_X4_restart 0 := ⟨lc_X4_restart, (WT_mem (t2_in (List.mem_of_getElem? (i := 47) rfl)) rfl), (WT_mem (t2_in (List.mem_of_getElem? (i := 48) rfl)) rfl), (WT_mem (t2_in (List.mem_of_getElem? (i := 49) rfl)) rfl)⟩
theorem fl_X4_31 : FL RX4 31 4 4 := ⟨_, rfl, by decide, (WT_mem (t1_in (List.mem_of_getElem? (i := 52) rfl)) rfl)⟩
theorem fp_X4_31 : FP RX4 31 4 4 .int := ⟨_, rfl, by decide, (WT_mem (t1_in (List.mem_of_getElem? (i := 52) rfl)) rfl), rfl, by decide +kernel⟩
theorem fl_X4_34 : FL RX4 34 4 5 := ⟨_, rfl, by decide, (WT_mem (t1_in (List.mem_of_getElem? (i := 54) rfl)) rfl)⟩
theorem fp_X4_34 : FP RX4 34 4 5 .int := ⟨_, rfl, by decide, (WT_mem (t1_in (List.mem_of_getElem? (i := 54) rfl)) rfl), rfl, by decide +kernel⟩
theorem fl_X4_37 : FL RX4 37 4 6 := ⟨_, rfl, by decide, (WT_mem (t1_in (List.mem_of_getElem? (i := 57) rfl)) rfl)⟩
theorem fp_X4_37 : FP RX4 37 4 6 .int := ⟨_, rfl, by decide, (WT_mem (t1_in (List.mem_of_getElem? (i := 57) rfl)) rfl), rfl, by decide +kernel⟩
theorem fl_X4_40 : FL RX4 40 4 7 := ⟨_, rfl, by decide, (WT_mem (t1_in (List.mem_of_getElem? (i := 59) rfl)) rfl)⟩
theorem fp_X4_40 : FP RX4 40 4 7 .int := ⟨_, rfl, by decide, (WT_mem (t1_in (List.mem_of_getElem? (i := 59) rfl)) rfl), rfl, by decide +kernel⟩
theorem lk_X4_73 : LnkV RX4 73 Y_X4_holds 0 := ⟨lc_X4_holds, (WT_mem (t2_in (List.mem_of_getElem? (i := 63) rfl)) rfl), (WT_mem (t2_in (List.mem_of_getElem? (i := 64) rfl)) rfl), (WT_mem (t2_in (List.mem_of_getElem? (i := 65) rfl)) rfl)⟩
theorem fl_X5_19 : FL RX5 19 5 2 := ⟨_, rfl, by decide, (WT_mem (t1_in (List.mem_of_getElem? (i := 212) rfl)) rfl)⟩
theorem fl_X5_9 : FL RX5 9 5 0 := ⟨_, rfl, by decide, (WT_mem (t1_in (List.mem_of_getElem? (i := 208) rfl)) rfl)⟩
theorem fl_X5_15 : FL RX5 15 5 1 := ⟨_, rfl, by decide, (WT_mem (t1_in (List.mem_of_getElem? (i := 210) rfl)) rfl)⟩
theorem fp_X5_15 : FP RX5 15 5 1 .int := ⟨_, rfl, by decide, (WT_mem (t1_in (List.mem_of_getElem? (i := 210) rfl)) rfl), rfl, by decide +kernel⟩
theorem fp_X5_19 : FP RX5 19 5 2 .int := ⟨_, rfl, by decide, (WT_mem (t1_in (List.mem_of_getElem? (i := 212) rfl)) rfl), rfl, by decide +kernel⟩
theorem lk_X5_22 : LnkS RX5 22 Y_J7_fill_53178 2 := ⟨lc_J7_fill_53178, (WT_mem (t4_in (List.mem_of_getElem? (i := 95) rfl)) rfl), (WT_mem (t1_in (List.mem_of_getElem? (i := 80) rfl)) rfl)⟩
theorem fl_X6_28 : FL RX6 28 6 5 := ⟨_, rfl, by decide, (WT_mem (t1_in (List.mem_of_getElem? (i := 182) rfl)) rfl)⟩
theorem fl_X6_25 : FL RX6 25 6 4 := ⟨_, rfl, by decide, (WT_mem (t1_in (List.mem_of_getElem? (i := 180) rfl)) rfl)⟩
theorem fp_X6_25 : FP RX6 25 6 4 .int := ⟨_, rfl, by decide, (WT_mem (t1_in (List.mem_of_getElem? (i := 180) rfl)) rfl), rfl, by decide +kernel⟩
theorem fl_X6_18 : FL RX6 18 6 2 := ⟨_, rfl, by decide, (WT_mem (t1_in (List.mem_of_getElem? (i := 176) rfl)) rfl)⟩
theorem fl_X6_15 : FL RX6 15 6 1 := ⟨_, rfl, by decide, (WT_mem (t1_in (List.mem_of_getElem? (i := 175) rfl)) rfl)⟩
theorem fl_X6_22 : FL RX6 22 6 3 := ⟨_, rfl, by decide, (WT_mem (t1_in (List.mem_of_getElem? (i := 178) rfl)) rfl)⟩
theorem fp_X6_22 : FP RX6 22 6 3 .int := ⟨_, rfl, by decide, (WT_mem (t1_in (List.mem_of_getElem? (i := 178) rfl)) rfl), rfl, by decide +kernel⟩
theorem lk_X6_42 : LnkS RX6 42 Y_J9_min_7cf53 2 := ⟨lc_J9_min_7cf53, (WT_mem (t3_in (List.mem_of_getElem? (i := 196) rfl)) rfl), (WT_mem (t2_in (List.mem_of_getElem? (i := 128) rfl)) rfl)⟩
theorem fp_X6_28 : FP RX6 28 6 5 .int := ⟨_, rfl, by decide, (WT_mem (t1_in (List.mem_of_getElem? (i := 182) rfl)) rfl), rfl, by decide +kernel⟩
theorem fl_X6_9 : FL RX6 9 6 0 := ⟨_, rfl, by decide, (WT_mem (t1_in (List.mem_of_getElem? (i := 174) rfl)) rfl)⟩
theorem fp_X6_18 : FP RX6 18 6 2 .int := ⟨_, rfl, by decide, (WT_mem (t1_in (List.mem_of_getElem? (i := 176) rfl)) rfl), rfl, by decide +kernel⟩
theorem lk_X6_48 : LnkV RX6 48 Y_J0_length_8abf5 0 := ⟨lc_J0_length_8abf5, (WT_mem (t3_in (List.mem_of_getElem? (i := 210) rfl)) rfl), (WT_mem (t3_in (List.mem_of_getElem? (i := 211) rfl)) rfl), (WT_mem (t3_in (List.mem_of_getElem? (i := 212) rfl)) rfl)⟩
theorem lk_X6_54 : LnkV RX6 54 Y_J0_charAt_5068e 1 := ⟨lc_J0_charAt_5068e, (WT_mem (t3_in (List.mem_of_getElem? (i := 220) rfl)) rfl), (WT_mem (t3_in (List.mem_of_getElem? (i := 221) rfl)) rfl), (WT_mem (t3_in (List.mem_of_getElem? (i := 222) rfl)) rfl)⟩
theorem lk_X6_31 : LnkS RX6 31 Y_X6_tokenBegunBy 1 := ⟨lc_X6_tokenBegunBy, (WT_mem (t3_in (List.mem_of_getElem? (i := 172) rfl)) rfl), (WT_mem (t3_in (List.mem_of_getElem? (i := 173) rfl)) rfl)⟩
theorem lk_X6_39 : LnkV RX6 39 Y_X6_advance 0 := ⟨lc_X6_advance, (WT_mem (t3_in (List.mem_of_getElem? (i := 192) rfl)) rfl), (WT_mem (t3_in (List.mem_of_getElem? (i := 193) rfl)) rfl), (WT_mem (t3_in (List.mem_of_getElem? (i := 194) rfl)) rfl)⟩
theorem lk_X7_44 : LnkS RX7 44 Y_J6_bitCount_0f7a4 1 := ⟨lc_J6_bitCount_0f7a4, (WT_mem (t3_in (List.mem_of_getElem? (i := 129) rfl)) rfl), (WT_mem (t2_in (List.mem_of_getElem? (i := 200) rfl)) rfl)⟩
theorem fl_X7_18 : FL RX7 18 2 3 := ⟨_, rfl, by decide, (WT_mem (t1_in (List.mem_of_getElem? (i := 93) rfl)) rfl)⟩
theorem fl_X7_15 : FL RX7 15 7 1 := ⟨_, rfl, by decide, (WT_mem (t1_in (List.mem_of_getElem? (i := 153) rfl)) rfl)⟩
theorem lk_X7_24 : LnkV RX7 24 Y_X1_atPaces 5 := ⟨lc_X1_atPaces, (WT_mem (t3_in (List.mem_of_getElem? (i := 124) rfl)) rfl), (WT_mem (t3_in (List.mem_of_getElem? (i := 38) rfl)) rfl), (WT_mem (t3_in (List.mem_of_getElem? (i := 39) rfl)) rfl)⟩
theorem kc_X7_32 : Cond.constant RX7 32 (2147483647) ∈ WTb := (WT_mem (t3_in (List.mem_of_getElem? (i := 125) rfl)) rfl)
theorem fl_X7_33 : FL RX7 33 7 2 := ⟨_, rfl, by decide, (WT_mem (t1_in (List.mem_of_getElem? (i := 154) rfl)) rfl)⟩
theorem fp_X7_33 : FP RX7 33 7 2 .int := ⟨_, rfl, by decide, (WT_mem (t1_in (List.mem_of_getElem? (i := 154) rfl)) rfl), rfl, by decide +kernel⟩
theorem lk_X7_36 : LnkS RX7 36 Y_X7_areUnlikeOf 4 := ⟨lc_X7_areUnlikeOf, (WT_mem (t3_in (List.mem_of_getElem? (i := 126) rfl)) rfl), (WT_mem (t3_in (List.mem_of_getElem? (i := 127) rfl)) rfl)⟩
theorem lk_X7_40 : LnkV RX7 40 Y_X7_weigh 3 := ⟨lc_X7_weigh, (WT_mem (t3_in (List.mem_of_getElem? (i := 130) rfl)) rfl), (WT_mem (t3_in (List.mem_of_getElem? (i := 132) rfl)) rfl), (WT_mem (pv_in (List.mem_of_getElem? (i := 10) rfl)) rfl)⟩
theorem fl_X7_9 : FL RX7 9 7 0 := ⟨_, rfl, by decide, (WT_mem (t1_in (List.mem_of_getElem? (i := 151) rfl)) rfl)⟩
theorem lk_X8_74 : LnkS RX8 74 Y_X8_within 3 := ⟨lc_X8_within, (WT_mem (t2_in (List.mem_of_getElem? (i := 22) rfl)) rfl), (WT_mem (t2_in (List.mem_of_getElem? (i := 23) rfl)) rfl)⟩
theorem fl_X8_16 : FL RX8 16 8 1 := ⟨_, rfl, by decide, (WT_mem (t1_in (List.mem_of_getElem? (i := 222) rfl)) rfl)⟩
theorem fl_X8_89 : FL RX8 89 2 3 := ⟨_, rfl, by decide, (WT_mem (t1_in (List.mem_of_getElem? (i := 95) rfl)) rfl)⟩
theorem lk_X8_78 : LnkV RX8 78 Y_X8_found 1 := ⟨lc_X8_found, (WT_mem (t2_in (List.mem_of_getElem? (i := 25) rfl)) rfl), (WT_mem (t2_in (List.mem_of_getElem? (i := 27) rfl)) rfl), (WT_mem (pv_in (List.mem_of_getElem? (i := 0) rfl)) rfl)⟩
theorem fl_X8_23 : FL RX8 23 8 3 := ⟨_, rfl, by decide, (WT_mem (t1_in (List.mem_of_getElem? (i := 224) rfl)) rfl)⟩
theorem lk_X8_151 : LnkV RX8 151 Y_X2_become 1 := ⟨lc_X2_become, (WT_mem (t2_in (List.mem_of_getElem? (i := 210) rfl)) rfl), (WT_mem (t2_in (List.mem_of_getElem? (i := 211) rfl)) rfl), (WT_mem (t2_in (List.mem_of_getElem? (i := 212) rfl)) rfl)⟩
theorem lk_X8_145 : LnkV RX8 145 Y_X2_go 1 := ⟨lc_X2_go, (WT_mem (t2_in (List.mem_of_getElem? (i := 171) rfl)) rfl), (WT_mem (t2_in (List.mem_of_getElem? (i := 172) rfl)) rfl), (WT_mem (t2_in (List.mem_of_getElem? (i := 173) rfl)) rfl)⟩
theorem lk_X8_155 : LnkV RX8 155 Y_X2_homeSet 0 := ⟨lc_X2_homeSet, (WT_mem (t2_in (List.mem_of_getElem? (i := 222) rfl)) rfl), (WT_mem (t2_in (List.mem_of_getElem? (i := 196) rfl)) rfl), (WT_mem (t2_in (List.mem_of_getElem? (i := 197) rfl)) rfl)⟩
theorem lk_X8_141 : LnkV RX8 141 Y_X2_whoRuns 0 := ⟨lc_X2_whoRuns, (WT_mem (t2_in (List.mem_of_getElem? (i := 163) rfl)) rfl), (WT_mem (t2_in (List.mem_of_getElem? (i := 164) rfl)) rfl), (WT_mem (t2_in (List.mem_of_getElem? (i := 165) rfl)) rfl)⟩
theorem fl_X8_99 : FL RX8 99 2 1 := ⟨_, rfl, by decide, (WT_mem (t1_in (List.mem_of_getElem? (i := 88) rfl)) rfl)⟩
theorem fl_X8_158 : FL RX8 158 4 5 := ⟨_, rfl, by decide, (WT_mem (t1_in (List.mem_of_getElem? (i := 56) rfl)) rfl)⟩
theorem lk_X8_96 : LnkV RX8 96 Y_X8_isRunner 1 := ⟨lc_X8_isRunner, (WT_mem (t2_in (List.mem_of_getElem? (i := 55) rfl)) rfl), (WT_mem (t2_in (List.mem_of_getElem? (i := 57) rfl)) rfl), (WT_mem (pv_in (List.mem_of_getElem? (i := 1) rfl)) rfl)⟩
theorem kc_X8_208 : Cond.constant RX8 208 (9999999) ∈ WTb := (WT_mem (t3_in (List.mem_of_getElem? (i := 105) rfl)) rfl)
theorem fl_X8_209 : FL RX8 209 4 2 := ⟨_, rfl, by decide, (WT_mem (t1_in (List.mem_of_getElem? (i := 49) rfl)) rfl)⟩
theorem fp_X8_209 : FP RX8 209 4 2 .int := ⟨_, rfl, by decide, (WT_mem (t1_in (List.mem_of_getElem? (i := 49) rfl)) rfl), rfl, by decide +kernel⟩
theorem lk_X8_201 : LnkV RX8 201 Y_X8_wholeMean 2 := ⟨lc_X8_wholeMean, (WT_mem (t3_in (List.mem_of_getElem? (i := 85) rfl)) rfl), (WT_mem (t3_in (List.mem_of_getElem? (i := 87) rfl)) rfl), (WT_mem (pv_in (List.mem_of_getElem? (i := 8) rfl)) rfl)⟩
theorem lk_X8_248 : LnkS RX8 248 Y_X8_isSpot 1 := ⟨lc_X8_isSpot, (WT_mem (t4_in (List.mem_of_getElem? (i := 71) rfl)) rfl), (WT_mem (t4_in (List.mem_of_getElem? (i := 72) rfl)) rfl)⟩
theorem fl_X8_251 : FL RX8 251 2 2 := ⟨_, rfl, by decide, (WT_mem (t1_in (List.mem_of_getElem? (i := 91) rfl)) rfl)⟩
theorem lk_X8_254 : LnkV RX8 254 Y_X4_isOfKind 1 := ⟨lc_X4_isOfKind, (WT_mem (t4_in (List.mem_of_getElem? (i := 78) rfl)) rfl), (WT_mem (t4_in (List.mem_of_getElem? (i := 79) rfl)) rfl), (WT_mem (t4_in (List.mem_of_getElem? (i := 80) rfl)) rfl)⟩
theorem lk_X8_70 : LnkS RX8 70 Y_X8_isYard 1 := ⟨lc_X8_isYard, (WT_mem (t2_in (List.mem_of_getElem? (i := 19) rfl)) rfl), (WT_mem (t2_in (List.mem_of_getElem? (i := 20) rfl)) rfl)⟩
theorem fl_X8_29 : FL RX8 29 8 4 := ⟨_, rfl, by decide, (WT_mem (t1_in (List.mem_of_getElem? (i := 225) rfl)) rfl)⟩
theorem lk_X8_184 : LnkV RX8 184 Y_X1_atBest 4 := ⟨lc_X1_atBest, (WT_mem (t3_in (List.mem_of_getElem? (i := 58) rfl)) rfl), (WT_mem (t3_in (List.mem_of_getElem? (i := 59) rfl)) rfl), (WT_mem (t3_in (List.mem_of_getElem? (i := 60) rfl)) rfl)⟩
theorem lk_X8_188 : LnkV RX8 188 Y_X1_chosenPace 2 := ⟨lc_X1_chosenPace, (WT_mem (t3_in (List.mem_of_getElem? (i := 71) rfl)) rfl), (WT_mem (t3_in (List.mem_of_getElem? (i := 72) rfl)) rfl), (WT_mem (t3_in (List.mem_of_getElem? (i := 73) rfl)) rfl)⟩
theorem lk_X8_108 : LnkS RX8 108 Y_X4_mostOf 1 := ⟨lc_X4_mostOf, (WT_mem (t2_in (List.mem_of_getElem? (i := 73) rfl)) rfl), (WT_mem (t2_in (List.mem_of_getElem? (i := 74) rfl)) rfl)⟩
theorem lk_X8_103 : LnkV RX8 103 Y_X4_tell 1 := ⟨lc_X4_tell, (WT_mem (t2_in (List.mem_of_getElem? (i := 59) rfl)) rfl), (WT_mem (t2_in (List.mem_of_getElem? (i := 60) rfl)) rfl), (WT_mem (t2_in (List.mem_of_getElem? (i := 61) rfl)) rfl)⟩
theorem lk_X8_111 : LnkV RX8 111 Y_X4_put 2 := ⟨lc_X4_put, (WT_mem (t2_in (List.mem_of_getElem? (i := 76) rfl)) rfl), (WT_mem (t2_in (List.mem_of_getElem? (i := 77) rfl)) rfl), (WT_mem (t2_in (List.mem_of_getElem? (i := 78) rfl)) rfl)⟩
theorem lk_X8_173 : LnkV RX8 173 Y_X8_isStretch 3 := ⟨lc_X8_isStretch, (WT_mem (t3_in (List.mem_of_getElem? (i := 11) rfl)) rfl), (WT_mem (t3_in (List.mem_of_getElem? (i := 13) rfl)) rfl), (WT_mem (pv_in (List.mem_of_getElem? (i := 3) rfl)) rfl)⟩
theorem fl_X8_118 : FL RX8 118 4 0 := ⟨_, rfl, by decide, (WT_mem (t1_in (List.mem_of_getElem? (i := 45) rfl)) rfl)⟩
theorem lk_X8_127 : LnkV RX8 127 Y_X2_oddsOf 5 := ⟨lc_X2_oddsOf, (WT_mem (t2_in (List.mem_of_getElem? (i := 113) rfl)) rfl), (WT_mem (t2_in (List.mem_of_getElem? (i := 114) rfl)) rfl), (WT_mem (t2_in (List.mem_of_getElem? (i := 115) rfl)) rfl)⟩
theorem lk_X8_257 : LnkS RX8 257 Y_X8_isSheet 1 := ⟨lc_X8_isSheet, (WT_mem (t4_in (List.mem_of_getElem? (i := 88) rfl)) rfl), (WT_mem (t4_in (List.mem_of_getElem? (i := 89) rfl)) rfl)⟩
theorem fl_X8_61 : FL RX8 61 8 9 := ⟨_, rfl, by decide, (WT_mem (t1_in (List.mem_of_getElem? (i := 230) rfl)) rfl)⟩
theorem lk_X8_264 : LnkV RX8 264 Y_X5_isMissing 0 := ⟨lc_X5_isMissing, (WT_mem (t4_in (List.mem_of_getElem? (i := 100) rfl)) rfl), (WT_mem (t4_in (List.mem_of_getElem? (i := 101) rfl)) rfl), (WT_mem (t4_in (List.mem_of_getElem? (i := 102) rfl)) rfl)⟩
theorem fl_X8_268 : FL RX8 268 5 1 := ⟨_, rfl, by decide, (WT_mem (t1_in (List.mem_of_getElem? (i := 211) rfl)) rfl)⟩
theorem lk_X8_271 : LnkV RX8 271 Y_X5_hasRow 2 := ⟨lc_X5_hasRow, (WT_mem (t4_in (List.mem_of_getElem? (i := 112) rfl)) rfl), (WT_mem (t4_in (List.mem_of_getElem? (i := 113) rfl)) rfl), (WT_mem (t4_in (List.mem_of_getElem? (i := 114) rfl)) rfl)⟩
theorem fl_X8_275 : FL RX8 275 5 0 := ⟨_, rfl, by decide, (WT_mem (t1_in (List.mem_of_getElem? (i := 209) rfl)) rfl)⟩
theorem lk_X8_180 : LnkV RX8 180 Y_X1_atPaces 5 := ⟨lc_X1_atPaces, (WT_mem (t3_in (List.mem_of_getElem? (i := 37) rfl)) rfl), (WT_mem (t3_in (List.mem_of_getElem? (i := 38) rfl)) rfl), (WT_mem (t3_in (List.mem_of_getElem? (i := 39) rfl)) rfl)⟩
theorem fl_X8_85 : FL RX8 85 2 4 := ⟨_, rfl, by decide, (WT_mem (t1_in (List.mem_of_getElem? (i := 97) rfl)) rfl)⟩
theorem lk_X8_290 : LnkS RX8 290 Y_J6_bitCount_0f7a4 1 := ⟨lc_J6_bitCount_0f7a4, (WT_mem (t3_in (List.mem_of_getElem? (i := 119) rfl)) rfl), (WT_mem (t2_in (List.mem_of_getElem? (i := 200) rfl)) rfl)⟩
theorem lk_X8_293 : LnkV RX8 293 Y_X2_countDrops 0 := ⟨lc_X2_countDrops, (WT_mem (t4_in (List.mem_of_getElem? (i := 143) rfl)) rfl), (WT_mem (t4_in (List.mem_of_getElem? (i := 144) rfl)) rfl), (WT_mem (t4_in (List.mem_of_getElem? (i := 145) rfl)) rfl)⟩
theorem lk_X8_236 : LnkV RX8 236 Y_X2_countGrass 0 := ⟨lc_X2_countGrass, (WT_mem (t3_in (List.mem_of_getElem? (i := 156) rfl)) rfl), (WT_mem (t3_in (List.mem_of_getElem? (i := 157) rfl)) rfl), (WT_mem (t3_in (List.mem_of_getElem? (i := 158) rfl)) rfl)⟩
theorem fl_X8_58 : FL RX8 58 8 8 := ⟨_, rfl, by decide, (WT_mem (t1_in (List.mem_of_getElem? (i := 229) rfl)) rfl)⟩
theorem fl_X8_239 : FL RX8 239 6 2 := ⟨_, rfl, by decide, (WT_mem (t1_in (List.mem_of_getElem? (i := 177) rfl)) rfl)⟩
theorem fl_X8_170 : FL RX8 170 2 5 := ⟨_, rfl, by decide, (WT_mem (t1_in (List.mem_of_getElem? (i := 101) rfl)) rfl)⟩
theorem lk_X8_296 : LnkV RX8 296 Y_X2_countHolding 0 := ⟨lc_X2_countHolding, (WT_mem (t4_in (List.mem_of_getElem? (i := 147) rfl)) rfl), (WT_mem (t4_in (List.mem_of_getElem? (i := 148) rfl)) rfl), (WT_mem (t4_in (List.mem_of_getElem? (i := 149) rfl)) rfl)⟩
theorem fl_X8_36 : FL RX8 36 8 5 := ⟨_, rfl, by decide, (WT_mem (t1_in (List.mem_of_getElem? (i := 226) rfl)) rfl)⟩
theorem lk_X8_176 : LnkV RX8 176 Y_X0_ofDrops 5 := ⟨lc_X0_ofDrops, (WT_mem (t3_in (List.mem_of_getElem? (i := 19) rfl)) rfl), (WT_mem (t3_in (List.mem_of_getElem? (i := 20) rfl)) rfl), (WT_mem (t3_in (List.mem_of_getElem? (i := 21) rfl)) rfl)⟩
theorem kc_X8_194 : Cond.constant RX8 194 (2147483647) ∈ WTb := (WT_mem (t3_in (List.mem_of_getElem? (i := 83) rfl)) rfl)
theorem lk_X8_195 : LnkS RX8 195 Y_J7_fill_53178 2 := ⟨lc_J7_fill_53178, (WT_mem (t3_in (List.mem_of_getElem? (i := 84) rfl)) rfl), (WT_mem (t1_in (List.mem_of_getElem? (i := 80) rfl)) rfl)⟩
theorem lk_X8_242 : LnkV RX8 242 Y_X6_put 1 := ⟨lc_X6_put, (WT_mem (t3_in (List.mem_of_getElem? (i := 168) rfl)) rfl), (WT_mem (t3_in (List.mem_of_getElem? (i := 169) rfl)) rfl), (WT_mem (t3_in (List.mem_of_getElem? (i := 170) rfl)) rfl)⟩
theorem fl_X8_9 : FL RX8 9 8 0 := ⟨_, rfl, by decide, (WT_mem (t1_in (List.mem_of_getElem? (i := 221) rfl)) rfl)⟩
theorem kc_X8_299 : Cond.constant RX8 299 (-100000001) ∈ WTb := (WT_mem (t2_in (List.mem_of_getElem? (i := 29) rfl)) rfl)
theorem fl_X8_82 : FL RX8 82 2 0 := ⟨_, rfl, by decide, (WT_mem (t1_in (List.mem_of_getElem? (i := 83) rfl)) rfl)⟩
theorem lk_X8_227 : LnkV RX8 227 Y_X8_tryGum 1 := ⟨lc_X8_tryGum, (WT_mem (t3_in (List.mem_of_getElem? (i := 142) rfl)) rfl), (WT_mem (t3_in (List.mem_of_getElem? (i := 144) rfl)) rfl), (WT_mem (pv_in (List.mem_of_getElem? (i := 11) rfl)) rfl)⟩
theorem fl_X8_20 : FL RX8 20 8 2 := ⟨_, rfl, by decide, (WT_mem (t1_in (List.mem_of_getElem? (i := 223) rfl)) rfl)⟩
theorem fl_X8_65 : FL RX8 65 8 10 := ⟨_, rfl, by decide, (WT_mem (t1_in (List.mem_of_getElem? (i := 231) rfl)) rfl)⟩
theorem fp_X8_65 : FP RX8 65 8 10 .boolean := ⟨_, rfl, by decide, (WT_mem (t1_in (List.mem_of_getElem? (i := 231) rfl)) rfl), rfl, by decide +kernel⟩
theorem fl_X8_43 : FL RX8 43 8 6 := ⟨_, rfl, by decide, (WT_mem (t1_in (List.mem_of_getElem? (i := 227) rfl)) rfl)⟩
theorem fl_X8_50 : FL RX8 50 8 7 := ⟨_, rfl, by decide, (WT_mem (t1_in (List.mem_of_getElem? (i := 228) rfl)) rfl)⟩
theorem fl_X8_54 : FL RX8 54 3 0 := ⟨_, rfl, by decide, (WT_mem (t1_in (List.mem_of_getElem? (i := 197) rfl)) rfl)⟩
theorem fl_X8_263 : FL RX8 263 5 2 := ⟨_, rfl, by decide, (WT_mem (t1_in (List.mem_of_getElem? (i := 213) rfl)) rfl)⟩
theorem lk_X8_287 : LnkV RX8 287 Y_X2_step 1 := ⟨lc_X2_step, (WT_mem (t4_in (List.mem_of_getElem? (i := 126) rfl)) rfl), (WT_mem (t2_in (List.mem_of_getElem? (i := 177) rfl)) rfl), (WT_mem (t2_in (List.mem_of_getElem? (i := 178) rfl)) rfl)⟩
theorem lk_X8_212 : LnkS RX8 212 Y_J9_max_7cf53 2 := ⟨lc_J9_max_7cf53, (WT_mem (t3_in (List.mem_of_getElem? (i := 110) rfl)) rfl), (WT_mem (t2_in (List.mem_of_getElem? (i := 131) rfl)) rfl)⟩
theorem lk_X8_217 : LnkV RX8 217 Y_X8_isTeamSet 1 := ⟨lc_X8_isTeamSet, (WT_mem (t3_in (List.mem_of_getElem? (i := 115) rfl)) rfl), (WT_mem (t3_in (List.mem_of_getElem? (i := 117) rfl)) rfl), (WT_mem (pv_in (List.mem_of_getElem? (i := 9) rfl)) rfl)⟩
theorem lk_X8_220 : LnkV RX8 220 Y_X7_choose 3 := ⟨lc_X7_choose, (WT_mem (t3_in (List.mem_of_getElem? (i := 120) rfl)) rfl), (WT_mem (t3_in (List.mem_of_getElem? (i := 121) rfl)) rfl), (WT_mem (t3_in (List.mem_of_getElem? (i := 122) rfl)) rfl)⟩
theorem fl_X8_224 : FL RX8 224 7 0 := ⟨_, rfl, by decide, (WT_mem (t1_in (List.mem_of_getElem? (i := 152) rfl)) rfl)⟩
theorem lk_X8_284 : LnkS RX8 284 Y_J9_min_7cf53 2 := ⟨lc_J9_min_7cf53, (WT_mem (t4_in (List.mem_of_getElem? (i := 121) rfl)) rfl), (WT_mem (t2_in (List.mem_of_getElem? (i := 128) rfl)) rfl)⟩
theorem lk_X8_115 : LnkS RX8 115 Y_X8_isPace 1 := ⟨lc_X8_isPace, (WT_mem (t2_in (List.mem_of_getElem? (i := 84) rfl)) rfl), (WT_mem (t2_in (List.mem_of_getElem? (i := 85) rfl)) rfl)⟩
theorem lk_X8_138 : LnkV RX8 138 Y_X2_nervesOf 1 := ⟨lc_X2_nervesOf, (WT_mem (t2_in (List.mem_of_getElem? (i := 158) rfl)) rfl), (WT_mem (t2_in (List.mem_of_getElem? (i := 146) rfl)) rfl), (WT_mem (t2_in (List.mem_of_getElem? (i := 147) rfl)) rfl)⟩
theorem lk_X8_131 : LnkV RX8 131 Y_X4_isHome 0 := ⟨lc_X4_isHome, (WT_mem (t2_in (List.mem_of_getElem? (i := 137) rfl)) rfl), (WT_mem (t2_in (List.mem_of_getElem? (i := 138) rfl)) rfl), (WT_mem (t2_in (List.mem_of_getElem? (i := 139) rfl)) rfl)⟩
theorem lk_X8_135 : LnkV RX8 135 Y_X2_oddsInStep 1 := ⟨lc_X2_oddsInStep, (WT_mem (t2_in (List.mem_of_getElem? (i := 141) rfl)) rfl), (WT_mem (t2_in (List.mem_of_getElem? (i := 142) rfl)) rfl), (WT_mem (t2_in (List.mem_of_getElem? (i := 143) rfl)) rfl)⟩
theorem fp_X8_85 : FP RX8 85 2 4 .int := ⟨_, rfl, by decide, (WT_mem (t1_in (List.mem_of_getElem? (i := 97) rfl)) rfl), rfl, by decide +kernel⟩
theorem lk_X8_161 : LnkV RX8 161 Y_X8_runAllHome 0 := ⟨lc_X8_runAllHome, (WT_mem (t2_in (List.mem_of_getElem? (i := 227) rfl)) rfl), (WT_mem (t2_in (List.mem_of_getElem? (i := 229) rfl)) rfl), (WT_mem (pv_in (List.mem_of_getElem? (i := 2) rfl)) rfl)⟩
theorem lk_X8_167 : LnkV RX8 167 Y_X2_placeOf 1 := ⟨lc_X2_placeOf, (WT_mem (t2_in (List.mem_of_getElem? (i := 239) rfl)) rfl), (WT_mem (t3_in (List.mem_of_getElem? (i := 0) rfl)) rfl), (WT_mem (t3_in (List.mem_of_getElem? (i := 1) rfl)) rfl)⟩
theorem lk_X8_233 : LnkV RX8 233 Y_X2_draw 0 := ⟨lc_X2_draw, (WT_mem (t3_in (List.mem_of_getElem? (i := 155) rfl)) rfl), (WT_mem (t2_in (List.mem_of_getElem? (i := 182) rfl)) rfl), (WT_mem (t2_in (List.mem_of_getElem? (i := 183) rfl)) rfl)⟩
theorem lk_X8_92 : LnkV RX8 92 Y_X2_add 3 := ⟨lc_X2_add, (WT_mem (t2_in (List.mem_of_getElem? (i := 38) rfl)) rfl), (WT_mem (t2_in (List.mem_of_getElem? (i := 39) rfl)) rfl), (WT_mem (t2_in (List.mem_of_getElem? (i := 40) rfl)) rfl)⟩
theorem fp_X8_170 : FP RX8 170 2 5 .int := ⟨_, rfl, by decide, (WT_mem (t1_in (List.mem_of_getElem? (i := 101) rfl)) rfl), rfl, by decide +kernel⟩
theorem lk_X8_260 : LnkV RX8 260 Y_X5_lay 2 := ⟨lc_X5_lay, (WT_mem (t4_in (List.mem_of_getElem? (i := 91) rfl)) rfl), (WT_mem (t4_in (List.mem_of_getElem? (i := 92) rfl)) rfl), (WT_mem (t4_in (List.mem_of_getElem? (i := 93) rfl)) rfl)⟩
theorem fl_X8_205 : FL RX8 205 4 3 := ⟨_, rfl, by decide, (WT_mem (t1_in (List.mem_of_getElem? (i := 51) rfl)) rfl)⟩
theorem fp_X8_205 : FP RX8 205 4 3 .int := ⟨_, rfl, by decide, (WT_mem (t1_in (List.mem_of_getElem? (i := 51) rfl)) rfl), rfl, by decide +kernel⟩
theorem lk_X8_148 : LnkV RX8 148 Y_X2_restart 0 := ⟨lc_X2_restart, (WT_mem (t2_in (List.mem_of_getElem? (i := 191) rfl)) rfl), (WT_mem (t2_in (List.mem_of_getElem? (i := 192) rfl)) rfl), (WT_mem (t2_in (List.mem_of_getElem? (i := 193) rfl)) rfl)⟩
theorem kc_X8_231 : Cond.constantLong RX8 231 (2) ∈ WTb := (WT_mem (t3_in (List.mem_of_getElem? (i := 150) rfl)) rfl)
theorem lk_X8_244 : LnkV RX8 244 Y_X3_readInto 1 := ⟨lc_X3_readInto, (WT_mem (t3_in (List.mem_of_getElem? (i := 184) rfl)) rfl), (WT_mem (t3_in (List.mem_of_getElem? (i := 185) rfl)) rfl), (WT_mem (t3_in (List.mem_of_getElem? (i := 186) rfl)) rfl)⟩
theorem fp_X8_239 : FP RX8 239 6 2 .int := ⟨_, rfl, by decide, (WT_mem (t1_in (List.mem_of_getElem? (i := 177) rfl)) rfl), rfl, by decide +kernel⟩
theorem lk_X8_121 : LnkV RX8 121 Y_X4_takes 1 := ⟨lc_X4_takes, (WT_mem (t2_in (List.mem_of_getElem? (i := 95) rfl)) rfl), (WT_mem (t2_in (List.mem_of_getElem? (i := 96) rfl)) rfl), (WT_mem (t2_in (List.mem_of_getElem? (i := 97) rfl)) rfl)⟩
theorem lk_X8_124 : LnkV RX8 124 Y_X4_rocks 1 := ⟨lc_X4_rocks, (WT_mem (t2_in (List.mem_of_getElem? (i := 101) rfl)) rfl), (WT_mem (t2_in (List.mem_of_getElem? (i := 102) rfl)) rfl), (WT_mem (t2_in (List.mem_of_getElem? (i := 103) rfl)) rfl)⟩
theorem fl_X8_300 : FL RX8 300 4 1 := ⟨_, rfl, by decide, (WT_mem (t1_in (List.mem_of_getElem? (i := 47) rfl)) rfl)⟩
theorem fp_X8_300 : FP RX8 300 4 1 .int := ⟨_, rfl, by decide, (WT_mem (t1_in (List.mem_of_getElem? (i := 47) rfl)) rfl), rfl, by decide +kernel⟩
theorem lk_X8_164 : LnkV RX8 164 Y_X2_leastInTime 0 := ⟨lc_X2_leastInTime, (WT_mem (t2_in (List.mem_of_getElem? (i := 231) rfl)) rfl), (WT_mem (t2_in (List.mem_of_getElem? (i := 232) rfl)) rfl), (WT_mem (t2_in (List.mem_of_getElem? (i := 233) rfl)) rfl)⟩
theorem lk_X8_267 : LnkV RX8 267 Y_X5_put 2 := ⟨lc_X5_put, (WT_mem (t4_in (List.mem_of_getElem? (i := 104) rfl)) rfl), (WT_mem (t4_in (List.mem_of_getElem? (i := 105) rfl)) rfl), (WT_mem (t4_in (List.mem_of_getElem? (i := 106) rfl)) rfl)⟩
theorem kc_X9_152 : Cond.constantLong RX9 152 (180) ∈ WTb := (WT_mem (t5_in (List.mem_of_getElem? (i := 128) rfl)) rfl)
theorem lk_X9_54 : LnkS RX9 54 Y_X9_in 3 := ⟨lc_X9_in, (WT_mem (t4_in (List.mem_of_getElem? (i := 227) rfl)) rfl), (WT_mem (t4_in (List.mem_of_getElem? (i := 228) rfl)) rfl)⟩
theorem fl_X9_9 : FL RX9 9 9 0 := ⟨_, rfl, by decide, (WT_mem (t4_in (List.mem_of_getElem? (i := 161) rfl)) rfl)⟩
theorem kc_X9_46 : Cond.constant RX9 46 (-100000001) ∈ WTb := (WT_mem (t4_in (List.mem_of_getElem? (i := 235) rfl)) rfl)
theorem lk_X9_48 : LnkV RX9 48 Y_X9_finds 1 := ⟨lc_X9_finds, (WT_mem (t4_in (List.mem_of_getElem? (i := 236) rfl)) rfl), (WT_mem (t4_in (List.mem_of_getElem? (i := 238) rfl)) rfl), (WT_mem (pv_in (List.mem_of_getElem? (i := 21) rfl)) rfl)⟩
theorem fl_X9_16 : FL RX9 16 9 2 := ⟨_, rfl, by decide, (WT_mem (t4_in (List.mem_of_getElem? (i := 163) rfl)) rfl)⟩
theorem lk_X9_166 : LnkS RX9 166 Y_X9_row 2 := ⟨lc_X9_row, (WT_mem (t5_in (List.mem_of_getElem? (i := 161) rfl)) rfl), (WT_mem (t5_in (List.mem_of_getElem? (i := 162) rfl)) rfl)⟩
theorem lk_X9_154 : LnkV RX9 154 Y_X9_stepsGo 1 := ⟨lc_X9_stepsGo, (WT_mem (t5_in (List.mem_of_getElem? (i := 129) rfl)) rfl), (WT_mem (t5_in (List.mem_of_getElem? (i := 131) rfl)) rfl), (WT_mem (pv_in (List.mem_of_getElem? (i := 37) rfl)) rfl)⟩
theorem lk_X9_157 : LnkV RX9 157 Y_X9_home 0 := ⟨lc_X9_home, (WT_mem (t5_in (List.mem_of_getElem? (i := 146) rfl)) rfl), (WT_mem (t5_in (List.mem_of_getElem? (i := 148) rfl)) rfl), (WT_mem (pv_in (List.mem_of_getElem? (i := 40) rfl)) rfl)⟩
theorem lk_X9_139 : LnkV RX9 139 Y_X9_runsNext 0 := ⟨lc_X9_runsNext, (WT_mem (t5_in (List.mem_of_getElem? (i := 115) rfl)) rfl), (WT_mem (t5_in (List.mem_of_getElem? (i := 117) rfl)) rfl), (WT_mem (pv_in (List.mem_of_getElem? (i := 35) rfl)) rfl)⟩
theorem lk_X9_62 : LnkV RX9 62 Y_X9_is 2 := ⟨lc_X9_is, (WT_mem (t5_in (List.mem_of_getElem? (i := 33) rfl)) rfl), (WT_mem (t5_in (List.mem_of_getElem? (i := 35) rfl)) rfl), (WT_mem (pv_in (List.mem_of_getElem? (i := 25) rfl)) rfl)⟩
theorem lk_X9_91 : LnkV RX9 91 Y_X9_isRunner 1 := ⟨lc_X9_isRunner, (WT_mem (t5_in (List.mem_of_getElem? (i := 28) rfl)) rfl), (WT_mem (t5_in (List.mem_of_getElem? (i := 30) rfl)) rfl), (WT_mem (pv_in (List.mem_of_getElem? (i := 24) rfl)) rfl)⟩
theorem kc_X9_206 : Cond.constantLong RX9 206 (9999999) ∈ WTb := (WT_mem (t6_in (List.mem_of_getElem? (i := 21) rfl)) rfl)
theorem lk_X9_77 : LnkV RX9 77 Y_X9_makes 3 := ⟨lc_X9_makes, (WT_mem (t5_in (List.mem_of_getElem? (i := 20) rfl)) rfl), (WT_mem (t5_in (List.mem_of_getElem? (i := 22) rfl)) rfl), (WT_mem (pv_in (List.mem_of_getElem? (i := 23) rfl)) rfl)⟩
theorem lk_X9_203 : LnkV RX9 203 Y_X9_meanOf 1 := ⟨lc_X9_meanOf, (WT_mem (t6_in (List.mem_of_getElem? (i := 1) rfl)) rfl), (WT_mem (t6_in (List.mem_of_getElem? (i := 3) rfl)) rfl), (WT_mem (pv_in (List.mem_of_getElem? (i := 51) rfl)) rfl)⟩
theorem lk_X9_143 : LnkV RX9 143 Y_X9_orNone 1 := ⟨lc_X9_orNone, (WT_mem (t5_in (List.mem_of_getElem? (i := 119) rfl)) rfl), (WT_mem (t5_in (List.mem_of_getElem? (i := 121) rfl)) rfl), (WT_mem (pv_in (List.mem_of_getElem? (i := 36) rfl)) rfl)⟩
theorem kc_X9_58 : Cond.constantLong RX9 58 (9) ∈ WTb := (WT_mem (t5_in (List.mem_of_getElem? (i := 13) rfl)) rfl)
theorem lk_X9_81 : LnkS RX9 81 Y_X9_isKind 1 := ⟨lc_X9_isKind, (WT_mem (t5_in (List.mem_of_getElem? (i := 9) rfl)) rfl), (WT_mem (t5_in (List.mem_of_getElem? (i := 10) rfl)) rfl)⟩
theorem kc_X9_319 : Cond.constant RX9 319 (-100000006) ∈ WTb := (WT_mem (t6_in (List.mem_of_getElem? (i := 151) rfl)) rfl)
theorem lk_X9_320 : LnkS RX9 320 Y_X9_above 1 := ⟨lc_X9_above, (WT_mem (t6_in (List.mem_of_getElem? (i := 152) rfl)) rfl), (WT_mem (t6_in (List.mem_of_getElem? (i := 153) rfl)) rfl)⟩
theorem kc_X9_323 : Cond.constant RX9 323 (-100000003) ∈ WTb := (WT_mem (t6_in (List.mem_of_getElem? (i := 155) rfl)) rfl)
theorem lk_X9_122 : LnkV RX9 122 Y_X9_oddsBy 5 := ⟨lc_X9_oddsBy, (WT_mem (t5_in (List.mem_of_getElem? (i := 81) rfl)) rfl), (WT_mem (t5_in (List.mem_of_getElem? (i := 83) rfl)) rfl), (WT_mem (pv_in (List.mem_of_getElem? (i := 30) rfl)) rfl)⟩
theorem fl_X9_22 : FL RX9 22 9 5 := ⟨_, rfl, by decide, (WT_mem (t4_in (List.mem_of_getElem? (i := 166) rfl)) rfl)⟩
theorem lk_X9_119 : LnkV RX9 119 Y_X9_takes 2 := ⟨lc_X9_takes, (WT_mem (t5_in (List.mem_of_getElem? (i := 69) rfl)) rfl), (WT_mem (t5_in (List.mem_of_getElem? (i := 71) rfl)) rfl), (WT_mem (pv_in (List.mem_of_getElem? (i := 28) rfl)) rfl)⟩
theorem lk_X9_200 : LnkV RX9 200 Y_X9_isMean 4 := ⟨lc_X9_isMean, (WT_mem (t5_in (List.mem_of_getElem? (i := 213) rfl)) rfl), (WT_mem (t5_in (List.mem_of_getElem? (i := 215) rfl)) rfl), (WT_mem (pv_in (List.mem_of_getElem? (i := 48) rfl)) rfl)⟩
theorem lk_X9_196 : LnkV RX9 196 Y_X9_means 3 := ⟨lc_X9_means, (WT_mem (t5_in (List.mem_of_getElem? (i := 217) rfl)) rfl), (WT_mem (t5_in (List.mem_of_getElem? (i := 219) rfl)) rfl), (WT_mem (pv_in (List.mem_of_getElem? (i := 49) rfl)) rfl)⟩
theorem fl_X9_25 : FL RX9 25 9 6 := ⟨_, rfl, by decide, (WT_mem (t4_in (List.mem_of_getElem? (i := 167) rfl)) rfl)⟩
theorem fl_X9_28 : FL RX9 28 9 7 := ⟨_, rfl, by decide, (WT_mem (t4_in (List.mem_of_getElem? (i := 168) rfl)) rfl)⟩
theorem fl_X9_31 : FL RX9 31 9 8 := ⟨_, rfl, by decide, (WT_mem (t4_in (List.mem_of_getElem? (i := 169) rfl)) rfl)⟩
theorem lk_X9_103 : LnkS RX9 103 Y_X9_isPart 2 := ⟨lc_X9_isPart, (WT_mem (t5_in (List.mem_of_getElem? (i := 45) rfl)) rfl), (WT_mem (t5_in (List.mem_of_getElem? (i := 46) rfl)) rfl)⟩
theorem lk_X9_72 : LnkV RX9 72 Y_X9_becomes 2 := ⟨lc_X9_becomes, (WT_mem (t4_in (List.mem_of_getElem? (i := 231) rfl)) rfl), (WT_mem (t4_in (List.mem_of_getElem? (i := 233) rfl)) rfl), (WT_mem (pv_in (List.mem_of_getElem? (i := 20) rfl)) rfl)⟩
theorem lk_X9_181 : LnkV RX9 181 Y_X9_isStretch 4 := ⟨lc_X9_isStretch, (WT_mem (t5_in (List.mem_of_getElem? (i := 193) rfl)) rfl), (WT_mem (t5_in (List.mem_of_getElem? (i := 195) rfl)) rfl), (WT_mem (pv_in (List.mem_of_getElem? (i := 45) rfl)) rfl)⟩
theorem lk_X9_185 : LnkV RX9 185 Y_X9_oddsAt 3 := ⟨lc_X9_oddsAt, (WT_mem (t5_in (List.mem_of_getElem? (i := 197) rfl)) rfl), (WT_mem (t5_in (List.mem_of_getElem? (i := 199) rfl)) rfl), (WT_mem (pv_in (List.mem_of_getElem? (i := 46) rfl)) rfl)⟩
theorem lk_X9_324 : LnkS RX9 324 Y_X9_isSheet 1 := ⟨lc_X9_isSheet, (WT_mem (t6_in (List.mem_of_getElem? (i := 160) rfl)) rfl), (WT_mem (t6_in (List.mem_of_getElem? (i := 161) rfl)) rfl)⟩
theorem fl_X9_37 : FL RX9 37 9 16 := ⟨_, rfl, by decide, (WT_mem (t4_in (List.mem_of_getElem? (i := 177) rfl)) rfl)⟩
theorem fl_X9_40 : FL RX9 40 9 17 := ⟨_, rfl, by decide, (WT_mem (t4_in (List.mem_of_getElem? (i := 178) rfl)) rfl)⟩
theorem fl_X9_43 : FL RX9 43 9 18 := ⟨_, rfl, by decide, (WT_mem (t4_in (List.mem_of_getElem? (i := 179) rfl)) rfl)⟩
theorem lk_X9_66 : LnkS RX9 66 Y_X9_isYard 1 := ⟨lc_X9_isYard, (WT_mem (t4_in (List.mem_of_getElem? (i := 223) rfl)) rfl), (WT_mem (t4_in (List.mem_of_getElem? (i := 224) rfl)) rfl)⟩
theorem lk_X9_160 : LnkS RX9 160 Y_X9_many 1 := ⟨lc_X9_many, (WT_mem (t5_in (List.mem_of_getElem? (i := 150) rfl)) rfl), (WT_mem (t5_in (List.mem_of_getElem? (i := 151) rfl)) rfl)⟩
theorem lk_X9_331 : LnkV RX9 331 Y_X9_allDrops 0 := ⟨lc_X9_allDrops, (WT_mem (t6_in (List.mem_of_getElem? (i := 196) rfl)) rfl), (WT_mem (t6_in (List.mem_of_getElem? (i := 198) rfl)) rfl), (WT_mem (pv_in (List.mem_of_getElem? (i := 67) rfl)) rfl)⟩
theorem lk_X9_221 : LnkV RX9 221 Y_X9_grass 0 := ⟨lc_X9_grass, (WT_mem (t6_in (List.mem_of_getElem? (i := 60) rfl)) rfl), (WT_mem (t6_in (List.mem_of_getElem? (i := 62) rfl)) rfl), (WT_mem (pv_in (List.mem_of_getElem? (i := 55) rfl)) rfl)⟩
theorem fl_X9_224 : FL RX9 224 9 10 := ⟨_, rfl, by decide, (WT_mem (t4_in (List.mem_of_getElem? (i := 171) rfl)) rfl)⟩
theorem lk_X9_334 : LnkV RX9 334 Y_X9_holding 0 := ⟨lc_X9_holding, (WT_mem (t6_in (List.mem_of_getElem? (i := 200) rfl)) rfl), (WT_mem (t6_in (List.mem_of_getElem? (i := 202) rfl)) rfl), (WT_mem (pv_in (List.mem_of_getElem? (i := 68) rfl)) rfl)⟩
theorem kc_X9_138 : Cond.constant RX9 138 (1103515245) ∈ WTb := (WT_mem (t5_in (List.mem_of_getElem? (i := 141) rfl)) rfl)
theorem lk_X9_189 (k : Nat) : LnkV RX9 189 (Y_X9_dropping k) 5 := ⟨lc_X9_dropping k, (WT_mem (t5_in (List.mem_of_getElem? (i := 205) rfl)) rfl), (WT_mem (t5_in (List.mem_of_getElem? (i := 207) rfl)) rfl), (WT_mem (pv_in (List.mem_of_getElem? (i := 47) rfl)) rfl)⟩
theorem kc_X9_70 : Cond.constantLong RX9 70 (4) ∈ WTb := (WT_mem (t4_in (List.mem_of_getElem? (i := 230) rfl)) rfl)
theorem kc_X9_86 : Cond.constant RX9 86 (-100000002) ∈ WTb := (WT_mem (t5_in (List.mem_of_getElem? (i := 15) rfl)) rfl)
theorem fl_X9_34 : FL RX9 34 9 9 := ⟨_, rfl, by decide, (WT_mem (t4_in (List.mem_of_getElem? (i := 170) rfl)) rfl)⟩
theorem fp_X9_224 : FP RX9 224 9 10 .int := ⟨_, rfl, by decide, (WT_mem (t4_in (List.mem_of_getElem? (i := 171) rfl)) rfl), rfl, by decide +kernel⟩
theorem fl_X9_19 : FL RX9 19 9 4 := ⟨_, rfl, by decide, (WT_mem (t4_in (List.mem_of_getElem? (i := 165) rfl)) rfl)⟩
theorem lk_X9_170 : LnkV RX9 170 Y_X9_isAhead 2 := ⟨lc_X9_isAhead, (WT_mem (t5_in (List.mem_of_getElem? (i := 176) rfl)) rfl), (WT_mem (t5_in (List.mem_of_getElem? (i := 178) rfl)) rfl), (WT_mem (pv_in (List.mem_of_getElem? (i := 44) rfl)) rfl)⟩
theorem lk_X9_257 : LnkV RX9 257 Y_X9_isWord 1 := ⟨lc_X9_isWord, (WT_mem (t6_in (List.mem_of_getElem? (i := 97) rfl)) rfl), (WT_mem (t6_in (List.mem_of_getElem? (i := 99) rfl)) rfl), (WT_mem (pv_in (List.mem_of_getElem? (i := 60) rfl)) rfl)⟩
theorem lk_X9_261 : LnkV RX9 261 Y_X9_token 0 := ⟨lc_X9_token, (WT_mem (t6_in (List.mem_of_getElem? (i := 80) rfl)) rfl), (WT_mem (t6_in (List.mem_of_getElem? (i := 82) rfl)) rfl), (WT_mem (pv_in (List.mem_of_getElem? (i := 56) rfl)) rfl)⟩
theorem lk_X9_287 : LnkV RX9 287 Y_X9_number 2 := ⟨lc_X9_number, (WT_mem (t6_in (List.mem_of_getElem? (i := 111) rfl)) rfl), (WT_mem (t6_in (List.mem_of_getElem? (i := 113) rfl)) rfl), (WT_mem (pv_in (List.mem_of_getElem? (i := 62) rfl)) rfl)⟩
theorem lk_X9_290 : LnkV RX9 290 Y_X9_takes_ 1 := ⟨lc_X9_takes_, (WT_mem (t6_in (List.mem_of_getElem? (i := 116) rfl)) rfl), (WT_mem (t6_in (List.mem_of_getElem? (i := 118) rfl)) rfl), (WT_mem (pv_in (List.mem_of_getElem? (i := 63) rfl)) rfl)⟩
theorem fl_X9_244 : FL RX9 244 9 15 := ⟨_, rfl, by decide, (WT_mem (t4_in (List.mem_of_getElem? (i := 176) rfl)) rfl)⟩
theorem lk_X9_216 : LnkV RX9 216 Y_X9_droppingAs 5 := ⟨lc_X9_droppingAs, (WT_mem (t6_in (List.mem_of_getElem? (i := 47) rfl)) rfl), (WT_mem (t6_in (List.mem_of_getElem? (i := 49) rfl)) rfl), (WT_mem (pv_in (List.mem_of_getElem? (i := 54) rfl)) rfl)⟩
theorem lk_X9_126 : LnkV RX9 126 Y_X9_isHome 1 := ⟨lc_X9_isHome, (WT_mem (t5_in (List.mem_of_getElem? (i := 93) rfl)) rfl), (WT_mem (t5_in (List.mem_of_getElem? (i := 95) rfl)) rfl), (WT_mem (pv_in (List.mem_of_getElem? (i := 32) rfl)) rfl)⟩
theorem fl_X9_13 : FL RX9 13 9 1 := ⟨_, rfl, by decide, (WT_mem (t4_in (List.mem_of_getElem? (i := 162) rfl)) rfl)⟩
theorem fl_X9_328 : FL RX9 328 9 3 := ⟨_, rfl, by decide, (WT_mem (t4_in (List.mem_of_getElem? (i := 164) rfl)) rfl)⟩
theorem fp_X9_328 : FP RX9 328 9 3 .boolean := ⟨_, rfl, by decide, (WT_mem (t4_in (List.mem_of_getElem? (i := 164) rfl)) rfl), rfl, by decide +kernel⟩
theorem kc_X9_60 : Cond.constantLong RX9 60 (6) ∈ WTb := (WT_mem (t5_in (List.mem_of_getElem? (i := 12) rfl)) rfl)
theorem kc_X9_101 : Cond.constantLong RX9 101 (3) ∈ WTb := (WT_mem (t5_in (List.mem_of_getElem? (i := 49) rfl)) rfl)
theorem kc_X9_84 : Cond.constantLong RX9 84 (5) ∈ WTb := (WT_mem (t5_in (List.mem_of_getElem? (i := 14) rfl)) rfl)
theorem kc_X9_99 : Cond.constantLong RX9 99 (30) ∈ WTb := (WT_mem (t5_in (List.mem_of_getElem? (i := 48) rfl)) rfl)
theorem fl_X9_241 : FL RX9 241 9 11 := ⟨_, rfl, by decide, (WT_mem (t4_in (List.mem_of_getElem? (i := 172) rfl)) rfl)⟩
theorem fl_X9_231 : FL RX9 231 9 12 := ⟨_, rfl, by decide, (WT_mem (t4_in (List.mem_of_getElem? (i := 173) rfl)) rfl)⟩
theorem fl_X9_228 : FL RX9 228 9 13 := ⟨_, rfl, by decide, (WT_mem (t4_in (List.mem_of_getElem? (i := 174) rfl)) rfl)⟩
theorem lk_X9_248 : LnkV RX9 248 Y_J0_length_8abf5 0 := ⟨lc_J0_length_8abf5, (WT_mem (t6_in (List.mem_of_getElem? (i := 101) rfl)) rfl), (WT_mem (t3_in (List.mem_of_getElem? (i := 211) rfl)) rfl), (WT_mem (t3_in (List.mem_of_getElem? (i := 212) rfl)) rfl)⟩
theorem lk_X9_253 : LnkV RX9 253 Y_J0_charAt_5068e 1 := ⟨lc_J0_charAt_5068e, (WT_mem (t6_in (List.mem_of_getElem? (i := 102) rfl)) rfl), (WT_mem (t3_in (List.mem_of_getElem? (i := 221) rfl)) rfl), (WT_mem (t3_in (List.mem_of_getElem? (i := 222) rfl)) rfl)⟩
theorem kc_X9_52 : Cond.constantLong RX9 52 (29) ∈ WTb := (WT_mem (t4_in (List.mem_of_getElem? (i := 226) rfl)) rfl)
theorem lk_X9_298 : LnkV RX9 298 Y_X9_groundHere 0 := ⟨lc_X9_groundHere, (WT_mem (t6_in (List.mem_of_getElem? (i := 92) rfl)) rfl), (WT_mem (t6_in (List.mem_of_getElem? (i := 94) rfl)) rfl), (WT_mem (pv_in (List.mem_of_getElem? (i := 59) rfl)) rfl)⟩
theorem lk_X9_301 : LnkV RX9 301 Y_X9_groundItem 1 := ⟨lc_X9_groundItem, (WT_mem (t6_in (List.mem_of_getElem? (i := 107) rfl)) rfl), (WT_mem (t6_in (List.mem_of_getElem? (i := 109) rfl)) rfl), (WT_mem (pv_in (List.mem_of_getElem? (i := 61) rfl)) rfl)⟩
theorem lk_X9_307 : LnkV RX9 307 Y_X9_kindHere 0 := ⟨lc_X9_kindHere, (WT_mem (t6_in (List.mem_of_getElem? (i := 121) rfl)) rfl), (WT_mem (t6_in (List.mem_of_getElem? (i := 123) rfl)) rfl), (WT_mem (pv_in (List.mem_of_getElem? (i := 64) rfl)) rfl)⟩
theorem lk_X9_310 : LnkV RX9 310 Y_X9_runnerItem 1 := ⟨lc_X9_runnerItem, (WT_mem (t6_in (List.mem_of_getElem? (i := 132) rfl)) rfl), (WT_mem (t6_in (List.mem_of_getElem? (i := 134) rfl)) rfl), (WT_mem (pv_in (List.mem_of_getElem? (i := 65) rfl)) rfl)⟩
theorem lk_X9_149 : LnkV RX9 149 Y_X9_step 1 := ⟨lc_X9_step, (WT_mem (t5_in (List.mem_of_getElem? (i := 133) rfl)) rfl), (WT_mem (t5_in (List.mem_of_getElem? (i := 135) rfl)) rfl), (WT_mem (pv_in (List.mem_of_getElem? (i := 38) rfl)) rfl)⟩
theorem lk_X9_208 : LnkV RX9 208 Y_X9_isTeam 1 := ⟨lc_X9_isTeam, (WT_mem (t6_in (List.mem_of_getElem? (i := 30) rfl)) rfl), (WT_mem (t6_in (List.mem_of_getElem? (i := 32) rfl)) rfl), (WT_mem (pv_in (List.mem_of_getElem? (i := 52) rfl)) rfl)⟩
theorem kc_X9_214 : Cond.constantLong RX9 214 (2) ∈ WTb := (WT_mem (t6_in (List.mem_of_getElem? (i := 42) rfl)) rfl)
theorem lk_X9_211 : LnkV RX9 211 Y_X9_bestTeam 1 := ⟨lc_X9_bestTeam, (WT_mem (t6_in (List.mem_of_getElem? (i := 34) rfl)) rfl), (WT_mem (t6_in (List.mem_of_getElem? (i := 36) rfl)) rfl), (WT_mem (pv_in (List.mem_of_getElem? (i := 53) rfl)) rfl)⟩
theorem lk_X9_107 : LnkS RX9 107 Y_X9_isPace 1 := ⟨lc_X9_isPace, (WT_mem (t5_in (List.mem_of_getElem? (i := 54) rfl)) rfl), (WT_mem (t5_in (List.mem_of_getElem? (i := 55) rfl)) rfl)⟩
theorem lk_X9_110 : LnkV RX9 110 Y_X9_paceAt 2 := ⟨lc_X9_paceAt, (WT_mem (t5_in (List.mem_of_getElem? (i := 61) rfl)) rfl), (WT_mem (t5_in (List.mem_of_getElem? (i := 63) rfl)) rfl), (WT_mem (pv_in (List.mem_of_getElem? (i := 27) rfl)) rfl)⟩
theorem lk_X9_193 : LnkV RX9 193 Y_X9_behind 4 := ⟨lc_X9_behind, (WT_mem (t5_in (List.mem_of_getElem? (i := 221) rfl)) rfl), (WT_mem (t5_in (List.mem_of_getElem? (i := 223) rfl)) rfl), (WT_mem (pv_in (List.mem_of_getElem? (i := 50) rfl)) rfl)⟩
theorem lk_X9_131 : LnkV RX9 131 Y_X9_nervesOf 1 := ⟨lc_X9_nervesOf, (WT_mem (t5_in (List.mem_of_getElem? (i := 102) rfl)) rfl), (WT_mem (t5_in (List.mem_of_getElem? (i := 104) rfl)) rfl), (WT_mem (pv_in (List.mem_of_getElem? (i := 34) rfl)) rfl)⟩
theorem kc_X9_129 : Cond.constantLong RX9 129 (-1) ∈ WTb := (WT_mem (t5_in (List.mem_of_getElem? (i := 106) rfl)) rfl)
theorem kc_X9_134 : Cond.constant RX9 134 (-100000005) ∈ WTb := (WT_mem (t5_in (List.mem_of_getElem? (i := 97) rfl)) rfl)
theorem lk_X9_135 : LnkV RX9 135 Y_X9_oddsNow 1 := ⟨lc_X9_oddsNow, (WT_mem (t5_in (List.mem_of_getElem? (i := 98) rfl)) rfl), (WT_mem (t5_in (List.mem_of_getElem? (i := 100) rfl)) rfl), (WT_mem (pv_in (List.mem_of_getElem? (i := 33) rfl)) rfl)⟩
theorem fl_X9_238 : FL RX9 238 9 14 := ⟨_, rfl, by decide, (WT_mem (t4_in (List.mem_of_getElem? (i := 175) rfl)) rfl)⟩
theorem fp_X9_244 : FP RX9 244 9 15 .boolean := ⟨_, rfl, by decide, (WT_mem (t4_in (List.mem_of_getElem? (i := 176) rfl)) rfl), rfl, by decide +kernel⟩
theorem lk_X9_113 : LnkV RX9 113 Y_X9_rocks 2 := ⟨lc_X9_rocks, (WT_mem (t5_in (List.mem_of_getElem? (i := 73) rfl)) rfl), (WT_mem (t5_in (List.mem_of_getElem? (i := 75) rfl)) rfl), (WT_mem (pv_in (List.mem_of_getElem? (i := 29) rfl)) rfl)⟩
theorem lk_X9_116 : LnkV RX9 116 Y_X9_hurts 2 := ⟨lc_X9_hurts, (WT_mem (t5_in (List.mem_of_getElem? (i := 85) rfl)) rfl), (WT_mem (t5_in (List.mem_of_getElem? (i := 87) rfl)) rfl), (WT_mem (pv_in (List.mem_of_getElem? (i := 31) rfl)) rfl)⟩
theorem lk_X9_96 : LnkV RX9 96 Y_X9_holds 1 := ⟨lc_X9_holds, (WT_mem (t5_in (List.mem_of_getElem? (i := 37) rfl)) rfl), (WT_mem (t5_in (List.mem_of_getElem? (i := 39) rfl)) rfl), (WT_mem (pv_in (List.mem_of_getElem? (i := 26) rfl)) rfl)⟩
theorem kc_X9_94 : Cond.constantLong RX9 94 (7) ∈ WTb := (WT_mem (t5_in (List.mem_of_getElem? (i := 32) rfl)) rfl)
theorem kc_X9_47 : Cond.constant RX9 47 (-100000004) ∈ WTb := (WT_mem (t5_in (List.mem_of_getElem? (i := 123) rfl)) rfl)
theorem kc_X9_75 : Cond.constantLong RX9 75 (99) ∈ WTb := (WT_mem (t5_in (List.mem_of_getElem? (i := 4) rfl)) rfl)
theorem lk_X9_173 : LnkV RX9 173 Y_X9_allGoHome 0 := ⟨lc_X9_allGoHome, (WT_mem (t5_in (List.mem_of_getElem? (i := 168) rfl)) rfl), (WT_mem (t5_in (List.mem_of_getElem? (i := 170) rfl)) rfl), (WT_mem (pv_in (List.mem_of_getElem? (i := 42) rfl)) rfl)⟩
theorem kc_X9_219 : Cond.constantLong RX9 219 (12) ∈ WTb := (WT_mem (t6_in (List.mem_of_getElem? (i := 59) rfl)) rfl)
theorem lk_X9_146 : LnkV RX9 146 Y_X9_draw 0 := ⟨lc_X9_draw, (WT_mem (t5_in (List.mem_of_getElem? (i := 137) rfl)) rfl), (WT_mem (t5_in (List.mem_of_getElem? (i := 139) rfl)) rfl), (WT_mem (pv_in (List.mem_of_getElem? (i := 39) rfl)) rfl)⟩
theorem lk_X9_87 : LnkV RX9 87 Y_X9_comes 4 := ⟨lc_X9_comes, (WT_mem (t5_in (List.mem_of_getElem? (i := 16) rfl)) rfl), (WT_mem (t5_in (List.mem_of_getElem? (i := 18) rfl)) rfl), (WT_mem (pv_in (List.mem_of_getElem? (i := 22) rfl)) rfl)⟩
theorem kc_X9_327 : Cond.constant RX9 327 (-100000007) ∈ WTb := (WT_mem (t6_in (List.mem_of_getElem? (i := 163) rfl)) rfl)
theorem lk_X9_163 : LnkV RX9 163 Y_X9_starts 0 := ⟨lc_X9_starts, (WT_mem (t5_in (List.mem_of_getElem? (i := 153) rfl)) rfl), (WT_mem (t5_in (List.mem_of_getElem? (i := 155) rfl)) rfl), (WT_mem (pv_in (List.mem_of_getElem? (i := 41) rfl)) rfl)⟩
theorem fp_X9_228 : FP RX9 228 9 13 .int := ⟨_, rfl, by decide, (WT_mem (t4_in (List.mem_of_getElem? (i := 174) rfl)) rfl), rfl, by decide +kernel⟩
theorem lk_X9_313 : LnkV RX9 313 Y_X9_item 0 := ⟨lc_X9_item, (WT_mem (t6_in (List.mem_of_getElem? (i := 88) rfl)) rfl), (WT_mem (t6_in (List.mem_of_getElem? (i := 90) rfl)) rfl), (WT_mem (pv_in (List.mem_of_getElem? (i := 58) rfl)) rfl)⟩
theorem lk_X9_316 : LnkV RX9 316 Y_X9_isSign 1 := ⟨lc_X9_isSign, (WT_mem (t6_in (List.mem_of_getElem? (i := 139) rfl)) rfl), (WT_mem (t6_in (List.mem_of_getElem? (i := 141) rfl)) rfl), (WT_mem (pv_in (List.mem_of_getElem? (i := 66) rfl)) rfl)⟩
theorem fp_X9_231 : FP RX9 231 9 12 .int := ⟨_, rfl, by decide, (WT_mem (t4_in (List.mem_of_getElem? (i := 173) rfl)) rfl), rfl, by decide +kernel⟩
theorem lk_X9_234 : LnkV RX9 234 Y_X9_isByte 3 := ⟨lc_X9_isByte, (WT_mem (t6_in (List.mem_of_getElem? (i := 84) rfl)) rfl), (WT_mem (t6_in (List.mem_of_getElem? (i := 86) rfl)) rfl), (WT_mem (pv_in (List.mem_of_getElem? (i := 57) rfl)) rfl)⟩
theorem fp_X9_238 : FP RX9 238 9 14 .int := ⟨_, rfl, by decide, (WT_mem (t4_in (List.mem_of_getElem? (i := 175) rfl)) rfl), rfl, by decide +kernel⟩
theorem fp_X9_241 : FP RX9 241 9 11 .int := ⟨_, rfl, by decide, (WT_mem (t4_in (List.mem_of_getElem? (i := 172) rfl)) rfl), rfl, by decide +kernel⟩
theorem lk_X9_176 : LnkV RX9 176 Y_X9_firstHome 0 := ⟨lc_X9_firstHome, (WT_mem (t5_in (List.mem_of_getElem? (i := 172) rfl)) rfl), (WT_mem (t5_in (List.mem_of_getElem? (i := 174) rfl)) rfl), (WT_mem (pv_in (List.mem_of_getElem? (i := 43) rfl)) rfl)⟩
theorem kc_X9_179 : Cond.constantLong RX9 179 (10) ∈ WTb := (WT_mem (t5_in (List.mem_of_getElem? (i := 188) rfl)) rfl)
end
section
theorem dX0_init_0 : decode cX0_init 0 = .ok (.aload_n 0, 1) := by decide +kernel
theorem dX0_init_1 : decode cX0_init 1 = .ok (.invokespecial 5, 3) := by decide +kernel
theorem dX0_init_4 : decode cX0_init 4 = .ok (.aload_n 0, 1) := by decide +kernel
theorem dX0_init_5 : decode cX0_init 5 = .ok (.bipush 44, 2) := by decide +kernel
theorem dX0_init_7 : decode cX0_init 7 = .ok (.newarray .long, 2) := by decide +kernel
theorem dX0_init_9 : decode cX0_init 9 = .ok (.putfield 11, 3) := by decide +kernel
theorem dX0_init_12 : decode cX0_init 12 = .ok (.aload_n 0, 1) := by decide +kernel
theorem dX0_init_13 : decode cX0_init 13 = .ok (.bipush 44, 2) := by decide +kernel
theorem dX0_init_15 : decode cX0_init 15 = .ok (.newarray .long, 2) := by decide +kernel
theorem dX0_init_17 : decode cX0_init 17 = .ok (.putfield 15, 3) := by decide +kernel
theorem dX0_init_20 : decode cX0_init 20 = .ok (.return_, 1) := by decide +kernel
theorem dX0_ofDrops_0 : decode cX0_ofDrops 0 = .ok (.aload_n 1, 1) := by decide +kernel
theorem dX0_ofDrops_1 : decode cX0_ofDrops 1 = .ok (.getfield 18, 3) := by decide +kernel
theorem dX0_ofDrops_4 : decode cX0_ofDrops 4 = .ok (.iload_n 2, 1) := by decide +kernel
theorem dX0_ofDrops_5 : decode cX0_ofDrops 5 = .ok (.aaload, 1) := by decide +kernel
theorem dX0_ofDrops_6 : decode cX0_ofDrops 6 = .ok (.astore 6, 2) := by decide +kernel
theorem dX0_ofDrops_8 : decode cX0_ofDrops 8 = .ok (.aload_n 0, 1) := by decide +kernel
theorem dX0_ofDrops_9 : decode cX0_ofDrops 9 = .ok (.getfield 11, 3) := by decide +kernel
theorem dX0_ofDrops_12 : decode cX0_ofDrops 12 = .ok (.lconst 0, 1) := by decide +kernel
theorem dX0_ofDrops_13 : decode cX0_ofDrops 13 = .ok (.invokestatic 24, 3) := by decide +kernel
theorem dX0_ofDrops_16 : decode cX0_ofDrops 16 = .ok (.aload_n 0, 1) := by decide +kernel
theorem dX0_ofDrops_17 : decode cX0_ofDrops 17 = .ok (.getfield 11, 3) := by decide +kernel
theorem dX0_ofDrops_20 : decode cX0_ofDrops 20 = .ok (.iconst 0, 1) := by decide +kernel
theorem dX0_ofDrops_21 : decode cX0_ofDrops 21 = .ok (.lconst 1, 1) := by decide +kernel
theorem dX0_ofDrops_22 : decode cX0_ofDrops 22 = .ok (.lastore, 1) := by decide +kernel
theorem dX0_ofDrops_23 : decode cX0_ofDrops 23 = .ok (.iload_n 3, 1) := by decide +kernel
theorem dX0_ofDrops_24 : decode cX0_ofDrops 24 = .ok (.istore 7, 2) := by decide +kernel
theorem dX0_ofDrops_26 : decode cX0_ofDrops 26 = .ok (.iload 7, 2) := by decide +kernel
theorem dX0_ofDrops_28 : decode cX0_ofDrops 28 = .ok (.iload_n 3, 1) := by decide +kernel
theorem dX0_ofDrops_29 : decode cX0_ofDrops 29 = .ok (.iload 4, 2) := by decide +kernel
theorem dX0_ofDrops_31 : decode cX0_ofDrops 31 = .ok (.iadd, 1) := by decide +kernel
theorem dX0_ofDrops_32 : decode cX0_ofDrops 32 = .ok (.if_icmp .ge 76, 3) := by decide +kernel
theorem dX0_ofDrops_35 : decode cX0_ofDrops 35 = .ok (.aload_n 0, 1) := by decide +kernel
theorem dX0_ofDrops_36 : decode cX0_ofDrops 36 = .ok (.getfield 11, 3) := by decide +kernel
theorem dX0_ofDrops_39 : decode cX0_ofDrops 39 = .ok (.iconst 0, 1) := by decide +kernel
theorem dX0_ofDrops_40 : decode cX0_ofDrops 40 = .ok (.aload_n 0, 1) := by decide +kernel
theorem dX0_ofDrops_41 : decode cX0_ofDrops 41 = .ok (.getfield 15, 3) := by decide +kernel
theorem dX0_ofDrops_44 : decode cX0_ofDrops 44 = .ok (.iconst 0, 1) := by decide +kernel
theorem dX0_ofDrops_45 : decode cX0_ofDrops 45 = .ok (.bipush 44, 2) := by decide +kernel
theorem dX0_ofDrops_47 : decode cX0_ofDrops 47 = .ok (.invokestatic 30, 3) := by decide +kernel
theorem dX0_ofDrops_50 : decode cX0_ofDrops 50 = .ok (.aload_n 0, 1) := by decide +kernel
theorem dX0_ofDrops_51 : decode cX0_ofDrops 51 = .ok (.getfield 11, 3) := by decide +kernel
theorem dX0_ofDrops_54 : decode cX0_ofDrops 54 = .ok (.lconst 0, 1) := by decide +kernel
theorem dX0_ofDrops_55 : decode cX0_ofDrops 55 = .ok (.invokestatic 24, 3) := by decide +kernel
theorem dX0_ofDrops_58 : decode cX0_ofDrops 58 = .ok (.iconst 0, 1) := by decide +kernel
theorem dX0_ofDrops_59 : decode cX0_ofDrops 59 = .ok (.istore 8, 2) := by decide +kernel
theorem dX0_ofDrops_61 : decode cX0_ofDrops 61 = .ok (.iload 8, 2) := by decide +kernel
theorem dX0_ofDrops_63 : decode cX0_ofDrops 63 = .ok (.iconst 3, 1) := by decide +kernel
theorem dX0_ofDrops_64 : decode cX0_ofDrops 64 = .ok (.if_icmp .gt 38, 3) := by decide +kernel
theorem dX0_ofDrops_67 : decode cX0_ofDrops 67 = .ok (.aload_n 0, 1) := by decide +kernel
theorem dX0_ofDrops_68 : decode cX0_ofDrops 68 = .ok (.iload 8, 2) := by decide +kernel
theorem dX0_ofDrops_70 : decode cX0_ofDrops 70 = .ok (.aload_n 1, 1) := by decide +kernel
theorem dX0_ofDrops_71 : decode cX0_ofDrops 71 = .ok (.aload 6, 2) := by decide +kernel
theorem dX0_ofDrops_73 : decode cX0_ofDrops 73 = .ok (.iload 7, 2) := by decide +kernel
theorem dX0_ofDrops_75 : decode cX0_ofDrops 75 = .ok (.aload 6, 2) := by decide +kernel
theorem dX0_ofDrops_77 : decode cX0_ofDrops 77 = .ok (.getfield 36, 3) := by decide +kernel
theorem dX0_ofDrops_80 : decode cX0_ofDrops 80 = .ok (.iload 7, 2) := by decide +kernel
theorem dX0_ofDrops_82 : decode cX0_ofDrops 82 = .ok (.iaload, 1) := by decide +kernel
theorem dX0_ofDrops_83 : decode cX0_ofDrops 83 = .ok (.iload 8, 2) := by decide +kernel
theorem dX0_ofDrops_85 : decode cX0_ofDrops 85 = .ok (.iconst 0, 1) := by decide +kernel
theorem dX0_ofDrops_86 : decode cX0_ofDrops 86 = .ok (.invokevirtual 42, 3) := by decide +kernel
theorem dX0_ofDrops_89 : decode cX0_ofDrops 89 = .ok (.iload 7, 2) := by decide +kernel
theorem dX0_ofDrops_91 : decode cX0_ofDrops 91 = .ok (.iload_n 3, 1) := by decide +kernel
theorem dX0_ofDrops_92 : decode cX0_ofDrops 92 = .ok (.isub, 1) := by decide +kernel
theorem dX0_ofDrops_93 : decode cX0_ofDrops 93 = .ok (.invokevirtual 46, 3) := by decide +kernel
theorem dX0_ofDrops_96 : decode cX0_ofDrops 96 = .ok (.iinc 8 1, 3) := by decide +kernel
theorem dX0_ofDrops_99 : decode cX0_ofDrops 99 = .ok (.goto (-38), 3) := by decide +kernel
theorem dX0_ofDrops_102 : decode cX0_ofDrops 102 = .ok (.iinc 7 1, 3) := by decide +kernel
theorem dX0_ofDrops_105 : decode cX0_ofDrops 105 = .ok (.goto (-79), 3) := by decide +kernel
theorem dX0_ofDrops_108 : decode cX0_ofDrops 108 = .ok (.lconst 0, 1) := by decide +kernel
theorem dX0_ofDrops_109 : decode cX0_ofDrops 109 = .ok (.lstore 7, 2) := by decide +kernel
theorem dX0_ofDrops_111 : decode cX0_ofDrops 111 = .ok (.iconst 0, 1) := by decide +kernel
theorem dX0_ofDrops_112 : decode cX0_ofDrops 112 = .ok (.istore 9, 2) := by decide +kernel
theorem dX0_ofDrops_114 : decode cX0_ofDrops 114 = .ok (.iload 9, 2) := by decide +kernel
theorem dX0_ofDrops_116 : decode cX0_ofDrops 116 = .ok (.iconst 3, 1) := by decide +kernel
theorem dX0_ofDrops_117 : decode cX0_ofDrops 117 = .ok (.if_icmp .gt 27, 3) := by decide +kernel
theorem dX0_ofDrops_120 : decode cX0_ofDrops 120 = .ok (.lload 7, 2) := by decide +kernel
theorem dX0_ofDrops_122 : decode cX0_ofDrops 122 = .ok (.aload_n 0, 1) := by decide +kernel
theorem dX0_ofDrops_123 : decode cX0_ofDrops 123 = .ok (.getfield 11, 3) := by decide +kernel
theorem dX0_ofDrops_126 : decode cX0_ofDrops 126 = .ok (.iload 9, 2) := by decide +kernel
theorem dX0_ofDrops_128 : decode cX0_ofDrops 128 = .ok (.bipush 11, 2) := by decide +kernel
theorem dX0_ofDrops_130 : decode cX0_ofDrops 130 = .ok (.imul, 1) := by decide +kernel
theorem dX0_ofDrops_131 : decode cX0_ofDrops 131 = .ok (.iload 5, 2) := by decide +kernel
theorem dX0_ofDrops_133 : decode cX0_ofDrops 133 = .ok (.iadd, 1) := by decide +kernel
theorem dX0_ofDrops_134 : decode cX0_ofDrops 134 = .ok (.laload, 1) := by decide +kernel
theorem dX0_ofDrops_135 : decode cX0_ofDrops 135 = .ok (.ladd, 1) := by decide +kernel
theorem dX0_ofDrops_136 : decode cX0_ofDrops 136 = .ok (.lstore 7, 2) := by decide +kernel
theorem dX0_ofDrops_138 : decode cX0_ofDrops 138 = .ok (.iinc 9 1, 3) := by decide +kernel
theorem dX0_ofDrops_141 : decode cX0_ofDrops 141 = .ok (.goto (-27), 3) := by decide +kernel
theorem dX0_ofDrops_144 : decode cX0_ofDrops 144 = .ok (.lload 7, 2) := by decide +kernel
theorem dX0_ofDrops_146 : decode cX0_ofDrops 146 = .ok (.lreturn, 1) := by decide +kernel
theorem dX0_spread_0 : decode cX0_spread 0 = .ok (.iconst 0, 1) := by decide +kernel
theorem dX0_spread_1 : decode cX0_spread 1 = .ok (.iload_n 1, 1) := by decide +kernel
theorem dX0_spread_2 : decode cX0_spread 2 = .ok (.iconst 1, 1) := by decide +kernel
theorem dX0_spread_3 : decode cX0_spread 3 = .ok (.isub, 1) := by decide +kernel
theorem dX0_spread_4 : decode cX0_spread 4 = .ok (.invokestatic 50, 3) := by decide +kernel
theorem dX0_spread_7 : decode cX0_spread 7 = .ok (.bipush 11, 2) := by decide +kernel
theorem dX0_spread_9 : decode cX0_spread 9 = .ok (.imul, 1) := by decide +kernel
theorem dX0_spread_10 : decode cX0_spread 10 = .ok (.istore 4, 2) := by decide +kernel
theorem dX0_spread_12 : decode cX0_spread 12 = .ok (.iconst 0, 1) := by decide +kernel
theorem dX0_spread_13 : decode cX0_spread 13 = .ok (.istore 5, 2) := by decide +kernel
theorem dX0_spread_15 : decode cX0_spread 15 = .ok (.iload 5, 2) := by decide +kernel
theorem dX0_spread_17 : decode cX0_spread 17 = .ok (.iload_n 3, 1) := by decide +kernel
theorem dX0_spread_18 : decode cX0_spread 18 = .ok (.if_icmp .gt 64, 3) := by decide +kernel
theorem dX0_spread_21 : decode cX0_spread 21 = .ok (.aload_n 0, 1) := by decide +kernel
theorem dX0_spread_22 : decode cX0_spread 22 = .ok (.getfield 15, 3) := by decide +kernel
theorem dX0_spread_25 : decode cX0_spread 25 = .ok (.iload_n 1, 1) := by decide +kernel
theorem dX0_spread_26 : decode cX0_spread 26 = .ok (.bipush 11, 2) := by decide +kernel
theorem dX0_spread_28 : decode cX0_spread 28 = .ok (.imul, 1) := by decide +kernel
theorem dX0_spread_29 : decode cX0_spread 29 = .ok (.iload 5, 2) := by decide +kernel
theorem dX0_spread_31 : decode cX0_spread 31 = .ok (.iadd, 1) := by decide +kernel
theorem dX0_spread_32 : decode cX0_spread 32 = .ok (.laload, 1) := by decide +kernel
theorem dX0_spread_33 : decode cX0_spread 33 = .ok (.lstore 6, 2) := by decide +kernel
theorem dX0_spread_35 : decode cX0_spread 35 = .ok (.aload_n 0, 1) := by decide +kernel
theorem dX0_spread_36 : decode cX0_spread 36 = .ok (.getfield 11, 3) := by decide +kernel
theorem dX0_spread_39 : decode cX0_spread 39 = .ok (.iload 4, 2) := by decide +kernel
theorem dX0_spread_41 : decode cX0_spread 41 = .ok (.iload 5, 2) := by decide +kernel
theorem dX0_spread_43 : decode cX0_spread 43 = .ok (.iadd, 1) := by decide +kernel
theorem dX0_spread_44 : decode cX0_spread 44 = .ok (.dup2, 1) := by decide +kernel
theorem dX0_spread_45 : decode cX0_spread 45 = .ok (.laload, 1) := by decide +kernel
theorem dX0_spread_46 : decode cX0_spread 46 = .ok (.lload 6, 2) := by decide +kernel
theorem dX0_spread_48 : decode cX0_spread 48 = .ok (.bipush 24, 2) := by decide +kernel
theorem dX0_spread_50 : decode cX0_spread 50 = .ok (.iload_n 2, 1) := by decide +kernel
theorem dX0_spread_51 : decode cX0_spread 51 = .ok (.isub, 1) := by decide +kernel
theorem dX0_spread_52 : decode cX0_spread 52 = .ok (.i2l, 1) := by decide +kernel
theorem dX0_spread_53 : decode cX0_spread 53 = .ok (.lmul, 1) := by decide +kernel
theorem dX0_spread_54 : decode cX0_spread 54 = .ok (.ladd, 1) := by decide +kernel
theorem dX0_spread_55 : decode cX0_spread 55 = .ok (.lastore, 1) := by decide +kernel
theorem dX0_spread_56 : decode cX0_spread 56 = .ok (.aload_n 0, 1) := by decide +kernel
theorem dX0_spread_57 : decode cX0_spread 57 = .ok (.getfield 11, 3) := by decide +kernel
theorem dX0_spread_60 : decode cX0_spread 60 = .ok (.bipush 33, 2) := by decide +kernel
theorem dX0_spread_62 : decode cX0_spread 62 = .ok (.iload 5, 2) := by decide +kernel
theorem dX0_spread_64 : decode cX0_spread 64 = .ok (.iadd, 1) := by decide +kernel
theorem dX0_spread_65 : decode cX0_spread 65 = .ok (.iconst 1, 1) := by decide +kernel
theorem dX0_spread_66 : decode cX0_spread 66 = .ok (.iadd, 1) := by decide +kernel
theorem dX0_spread_67 : decode cX0_spread 67 = .ok (.dup2, 1) := by decide +kernel
theorem dX0_spread_68 : decode cX0_spread 68 = .ok (.laload, 1) := by decide +kernel
theorem dX0_spread_69 : decode cX0_spread 69 = .ok (.lload 6, 2) := by decide +kernel
theorem dX0_spread_71 : decode cX0_spread 71 = .ok (.iload_n 2, 1) := by decide +kernel
theorem dX0_spread_72 : decode cX0_spread 72 = .ok (.i2l, 1) := by decide +kernel
theorem dX0_spread_73 : decode cX0_spread 73 = .ok (.lmul, 1) := by decide +kernel
theorem dX0_spread_74 : decode cX0_spread 74 = .ok (.ladd, 1) := by decide +kernel
theorem dX0_spread_75 : decode cX0_spread 75 = .ok (.lastore, 1) := by decide +kernel
theorem dX0_spread_76 : decode cX0_spread 76 = .ok (.iinc 5 1, 3) := by decide +kernel
theorem dX0_spread_79 : decode cX0_spread 79 = .ok (.goto (-64), 3) := by decide +kernel
theorem dX0_spread_82 : decode cX0_spread 82 = .ok (.return_, 1) := by decide +kernel
theorem dX1_init_0 : decode cX1_init 0 = .ok (.aload_n 0, 1) := by decide +kernel
theorem dX1_init_1 : decode cX1_init 1 = .ok (.invokespecial 3, 3) := by decide +kernel
theorem dX1_init_4 : decode cX1_init 4 = .ok (.aload_n 0, 1) := by decide +kernel
theorem dX1_init_5 : decode cX1_init 5 = .ok (.iconst 4, 1) := by decide +kernel
theorem dX1_init_6 : decode cX1_init 6 = .ok (.newarray .int, 2) := by decide +kernel
theorem dX1_init_8 : decode cX1_init 8 = .ok (.putfield 9, 3) := by decide +kernel
theorem dX1_init_11 : decode cX1_init 11 = .ok (.aload_n 0, 1) := by decide +kernel
theorem dX1_init_12 : decode cX1_init 12 = .ok (.iconst 4, 1) := by decide +kernel
theorem dX1_init_13 : decode cX1_init 13 = .ok (.newarray .int, 2) := by decide +kernel
theorem dX1_init_15 : decode cX1_init 15 = .ok (.putfield 15, 3) := by decide +kernel
theorem dX1_init_18 : decode cX1_init 18 = .ok (.aload_n 0, 1) := by decide +kernel
theorem dX1_init_19 : decode cX1_init 19 = .ok (.bipush 120, 2) := by decide +kernel
theorem dX1_init_21 : decode cX1_init 21 = .ok (.newarray .int, 2) := by decide +kernel
theorem dX1_init_23 : decode cX1_init 23 = .ok (.putfield 18, 3) := by decide +kernel
theorem dX1_init_26 : decode cX1_init 26 = .ok (.return_, 1) := by decide +kernel
theorem dX1_atPaces_0 : decode cX1_atPaces 0 = .ok (.aload_n 1, 1) := by decide +kernel
theorem dX1_atPaces_1 : decode cX1_atPaces 1 = .ok (.getfield 21, 3) := by decide +kernel
theorem dX1_atPaces_4 : decode cX1_atPaces 4 = .ok (.iload_n 2, 1) := by decide +kernel
theorem dX1_atPaces_5 : decode cX1_atPaces 5 = .ok (.aaload, 1) := by decide +kernel
theorem dX1_atPaces_6 : decode cX1_atPaces 6 = .ok (.astore 6, 2) := by decide +kernel
theorem dX1_atPaces_8 : decode cX1_atPaces 8 = .ok (.aload_n 0, 1) := by decide +kernel
theorem dX1_atPaces_9 : decode cX1_atPaces 9 = .ok (.getfield 9, 3) := by decide +kernel
theorem dX1_atPaces_12 : decode cX1_atPaces 12 = .ok (.iconst 0, 1) := by decide +kernel
theorem dX1_atPaces_13 : decode cX1_atPaces 13 = .ok (.invokestatic 27, 3) := by decide +kernel
theorem dX1_atPaces_16 : decode cX1_atPaces 16 = .ok (.iload 4, 2) := by decide +kernel
theorem dX1_atPaces_18 : decode cX1_atPaces 18 = .ok (.iconst 1, 1) := by decide +kernel
theorem dX1_atPaces_19 : decode cX1_atPaces 19 = .ok (.isub, 1) := by decide +kernel
theorem dX1_atPaces_20 : decode cX1_atPaces 20 = .ok (.istore 7, 2) := by decide +kernel
theorem dX1_atPaces_22 : decode cX1_atPaces 22 = .ok (.iload 7, 2) := by decide +kernel
theorem dX1_atPaces_24 : decode cX1_atPaces 24 = .ok (.iload_n 3, 1) := by decide +kernel
theorem dX1_atPaces_25 : decode cX1_atPaces 25 = .ok (.if_icmp .lt 54, 3) := by decide +kernel
theorem dX1_atPaces_28 : decode cX1_atPaces 28 = .ok (.iconst 0, 1) := by decide +kernel
theorem dX1_atPaces_29 : decode cX1_atPaces 29 = .ok (.istore 8, 2) := by decide +kernel
theorem dX1_atPaces_31 : decode cX1_atPaces 31 = .ok (.iload 8, 2) := by decide +kernel
theorem dX1_atPaces_33 : decode cX1_atPaces 33 = .ok (.iconst 3, 1) := by decide +kernel
theorem dX1_atPaces_34 : decode cX1_atPaces 34 = .ok (.if_icmp .gt 35, 3) := by decide +kernel
theorem dX1_atPaces_37 : decode cX1_atPaces 37 = .ok (.aload_n 0, 1) := by decide +kernel
theorem dX1_atPaces_38 : decode cX1_atPaces 38 = .ok (.getfield 15, 3) := by decide +kernel
theorem dX1_atPaces_41 : decode cX1_atPaces 41 = .ok (.iload 8, 2) := by decide +kernel
theorem dX1_atPaces_43 : decode cX1_atPaces 43 = .ok (.aload_n 0, 1) := by decide +kernel
theorem dX1_atPaces_44 : decode cX1_atPaces 44 = .ok (.aload_n 1, 1) := by decide +kernel
theorem dX1_atPaces_45 : decode cX1_atPaces 45 = .ok (.aload 6, 2) := by decide +kernel
theorem dX1_atPaces_47 : decode cX1_atPaces 47 = .ok (.iload 7, 2) := by decide +kernel
theorem dX1_atPaces_49 : decode cX1_atPaces 49 = .ok (.iload 8, 2) := by decide +kernel
theorem dX1_atPaces_51 : decode cX1_atPaces 51 = .ok (.aload 6, 2) := by decide +kernel
theorem dX1_atPaces_53 : decode cX1_atPaces 53 = .ok (.getfield 33, 3) := by decide +kernel
theorem dX1_atPaces_56 : decode cX1_atPaces 56 = .ok (.iload 7, 2) := by decide +kernel
theorem dX1_atPaces_58 : decode cX1_atPaces 58 = .ok (.iaload, 1) := by decide +kernel
theorem dX1_atPaces_59 : decode cX1_atPaces 59 = .ok (.invokevirtual 38, 3) := by decide +kernel
theorem dX1_atPaces_62 : decode cX1_atPaces 62 = .ok (.iastore, 1) := by decide +kernel
theorem dX1_atPaces_63 : decode cX1_atPaces 63 = .ok (.iinc 8 1, 3) := by decide +kernel
theorem dX1_atPaces_66 : decode cX1_atPaces 66 = .ok (.goto (-35), 3) := by decide +kernel
theorem dX1_atPaces_69 : decode cX1_atPaces 69 = .ok (.aload_n 0, 1) := by decide +kernel
theorem dX1_atPaces_70 : decode cX1_atPaces 70 = .ok (.invokevirtual 42, 3) := by decide +kernel
theorem dX1_atPaces_73 : decode cX1_atPaces 73 = .ok (.iinc 7 (-1), 3) := by decide +kernel
theorem dX1_atPaces_76 : decode cX1_atPaces 76 = .ok (.goto (-54), 3) := by decide +kernel
theorem dX1_atPaces_79 : decode cX1_atPaces 79 = .ok (.aload_n 0, 1) := by decide +kernel
theorem dX1_atPaces_80 : decode cX1_atPaces 80 = .ok (.getfield 9, 3) := by decide +kernel
theorem dX1_atPaces_83 : decode cX1_atPaces 83 = .ok (.iload 5, 2) := by decide +kernel
theorem dX1_atPaces_85 : decode cX1_atPaces 85 = .ok (.iaload, 1) := by decide +kernel
theorem dX1_atPaces_86 : decode cX1_atPaces 86 = .ok (.ireturn, 1) := by decide +kernel
theorem dX1_atBest_0 : decode cX1_atBest 0 = .ok (.aload_n 1, 1) := by decide +kernel
theorem dX1_atBest_1 : decode cX1_atBest 1 = .ok (.getfield 21, 3) := by decide +kernel
theorem dX1_atBest_4 : decode cX1_atBest 4 = .ok (.iload_n 2, 1) := by decide +kernel
theorem dX1_atBest_5 : decode cX1_atBest 5 = .ok (.aaload, 1) := by decide +kernel
theorem dX1_atBest_6 : decode cX1_atBest 6 = .ok (.astore 5, 2) := by decide +kernel
theorem dX1_atBest_8 : decode cX1_atBest 8 = .ok (.aload_n 0, 1) := by decide +kernel
theorem dX1_atBest_9 : decode cX1_atBest 9 = .ok (.getfield 9, 3) := by decide +kernel
theorem dX1_atBest_12 : decode cX1_atBest 12 = .ok (.iconst 0, 1) := by decide +kernel
theorem dX1_atBest_13 : decode cX1_atBest 13 = .ok (.invokestatic 27, 3) := by decide +kernel
theorem dX1_atBest_16 : decode cX1_atBest 16 = .ok (.bipush 29, 2) := by decide +kernel
theorem dX1_atBest_18 : decode cX1_atBest 18 = .ok (.istore 6, 2) := by decide +kernel
theorem dX1_atBest_20 : decode cX1_atBest 20 = .ok (.iload 6, 2) := by decide +kernel
theorem dX1_atBest_22 : decode cX1_atBest 22 = .ok (.iload_n 3, 1) := by decide +kernel
theorem dX1_atBest_23 : decode cX1_atBest 23 = .ok (.if_icmp .lt 75, 3) := by decide +kernel
theorem dX1_atBest_26 : decode cX1_atBest 26 = .ok (.iconst 0, 1) := by decide +kernel
theorem dX1_atBest_27 : decode cX1_atBest 27 = .ok (.istore 7, 2) := by decide +kernel
theorem dX1_atBest_29 : decode cX1_atBest 29 = .ok (.iload 7, 2) := by decide +kernel
theorem dX1_atBest_31 : decode cX1_atBest 31 = .ok (.iconst 3, 1) := by decide +kernel
theorem dX1_atBest_32 : decode cX1_atBest 32 = .ok (.if_icmp .gt 56, 3) := by decide +kernel
theorem dX1_atBest_35 : decode cX1_atBest 35 = .ok (.aload_n 0, 1) := by decide +kernel
theorem dX1_atBest_36 : decode cX1_atBest 36 = .ok (.aload_n 1, 1) := by decide +kernel
theorem dX1_atBest_37 : decode cX1_atBest 37 = .ok (.aload 5, 2) := by decide +kernel
theorem dX1_atBest_39 : decode cX1_atBest 39 = .ok (.iload 6, 2) := by decide +kernel
theorem dX1_atBest_41 : decode cX1_atBest 41 = .ok (.iload 7, 2) := by decide +kernel
theorem dX1_atBest_43 : decode cX1_atBest 43 = .ok (.invokevirtual 45, 3) := by decide +kernel
theorem dX1_atBest_46 : decode cX1_atBest 46 = .ok (.istore 8, 2) := by decide +kernel
theorem dX1_atBest_48 : decode cX1_atBest 48 = .ok (.aload_n 0, 1) := by decide +kernel
theorem dX1_atBest_49 : decode cX1_atBest 49 = .ok (.getfield 18, 3) := by decide +kernel
theorem dX1_atBest_52 : decode cX1_atBest 52 = .ok (.iload 6, 2) := by decide +kernel
theorem dX1_atBest_54 : decode cX1_atBest 54 = .ok (.iconst 4, 1) := by decide +kernel
theorem dX1_atBest_55 : decode cX1_atBest 55 = .ok (.imul, 1) := by decide +kernel
theorem dX1_atBest_56 : decode cX1_atBest 56 = .ok (.iload 7, 2) := by decide +kernel
theorem dX1_atBest_58 : decode cX1_atBest 58 = .ok (.iadd, 1) := by decide +kernel
theorem dX1_atBest_59 : decode cX1_atBest 59 = .ok (.iload 8, 2) := by decide +kernel
theorem dX1_atBest_61 : decode cX1_atBest 61 = .ok (.iastore, 1) := by decide +kernel
theorem dX1_atBest_62 : decode cX1_atBest 62 = .ok (.aload_n 0, 1) := by decide +kernel
theorem dX1_atBest_63 : decode cX1_atBest 63 = .ok (.getfield 15, 3) := by decide +kernel
theorem dX1_atBest_66 : decode cX1_atBest 66 = .ok (.iload 7, 2) := by decide +kernel
theorem dX1_atBest_68 : decode cX1_atBest 68 = .ok (.aload_n 0, 1) := by decide +kernel
theorem dX1_atBest_69 : decode cX1_atBest 69 = .ok (.aload_n 1, 1) := by decide +kernel
theorem dX1_atBest_70 : decode cX1_atBest 70 = .ok (.aload 5, 2) := by decide +kernel
theorem dX1_atBest_72 : decode cX1_atBest 72 = .ok (.iload 6, 2) := by decide +kernel
theorem dX1_atBest_74 : decode cX1_atBest 74 = .ok (.iload 7, 2) := by decide +kernel
theorem dX1_atBest_76 : decode cX1_atBest 76 = .ok (.iload 8, 2) := by decide +kernel
theorem dX1_atBest_78 : decode cX1_atBest 78 = .ok (.invokevirtual 38, 3) := by decide +kernel
theorem dX1_atBest_81 : decode cX1_atBest 81 = .ok (.iastore, 1) := by decide +kernel
theorem dX1_atBest_82 : decode cX1_atBest 82 = .ok (.iinc 7 1, 3) := by decide +kernel
theorem dX1_atBest_85 : decode cX1_atBest 85 = .ok (.goto (-56), 3) := by decide +kernel
theorem dX1_atBest_88 : decode cX1_atBest 88 = .ok (.aload_n 0, 1) := by decide +kernel
theorem dX1_atBest_89 : decode cX1_atBest 89 = .ok (.invokevirtual 42, 3) := by decide +kernel
theorem dX1_atBest_92 : decode cX1_atBest 92 = .ok (.iinc 6 (-1), 3) := by decide +kernel
theorem dX1_atBest_95 : decode cX1_atBest 95 = .ok (.goto (-75), 3) := by decide +kernel
theorem dX1_atBest_98 : decode cX1_atBest 98 = .ok (.aload_n 0, 1) := by decide +kernel
theorem dX1_atBest_99 : decode cX1_atBest 99 = .ok (.getfield 9, 3) := by decide +kernel
theorem dX1_atBest_102 : decode cX1_atBest 102 = .ok (.iload 4, 2) := by decide +kernel
theorem dX1_atBest_104 : decode cX1_atBest 104 = .ok (.iaload, 1) := by decide +kernel
theorem dX1_atBest_105 : decode cX1_atBest 105 = .ok (.ireturn, 1) := by decide +kernel
theorem dX1_chosenPace_0 : decode cX1_chosenPace 0 = .ok (.aload_n 0, 1) := by decide +kernel
theorem dX1_chosenPace_1 : decode cX1_chosenPace 1 = .ok (.getfield 18, 3) := by decide +kernel
theorem dX1_chosenPace_4 : decode cX1_chosenPace 4 = .ok (.iload_n 1, 1) := by decide +kernel
theorem dX1_chosenPace_5 : decode cX1_chosenPace 5 = .ok (.iconst 4, 1) := by decide +kernel
theorem dX1_chosenPace_6 : decode cX1_chosenPace 6 = .ok (.imul, 1) := by decide +kernel
theorem dX1_chosenPace_7 : decode cX1_chosenPace 7 = .ok (.iload_n 2, 1) := by decide +kernel
theorem dX1_chosenPace_8 : decode cX1_chosenPace 8 = .ok (.iadd, 1) := by decide +kernel
theorem dX1_chosenPace_9 : decode cX1_chosenPace 9 = .ok (.iaload, 1) := by decide +kernel
theorem dX1_chosenPace_10 : decode cX1_chosenPace 10 = .ok (.ireturn, 1) := by decide +kernel
theorem dX1_bestPace_0 : decode cX1_bestPace 0 = .ok (.ldc 51, 2) := by decide +kernel
theorem dX1_bestPace_2 : decode cX1_bestPace 2 = .ok (.istore 5, 2) := by decide +kernel
theorem dX1_bestPace_4 : decode cX1_bestPace 4 = .ok (.iconst 1, 1) := by decide +kernel
theorem dX1_bestPace_5 : decode cX1_bestPace 5 = .ok (.istore 6, 2) := by decide +kernel
theorem dX1_bestPace_7 : decode cX1_bestPace 7 = .ok (.iconst 1, 1) := by decide +kernel
theorem dX1_bestPace_8 : decode cX1_bestPace 8 = .ok (.istore 7, 2) := by decide +kernel
theorem dX1_bestPace_10 : decode cX1_bestPace 10 = .ok (.iload 7, 2) := by decide +kernel
theorem dX1_bestPace_12 : decode cX1_bestPace 12 = .ok (.bipush 9, 2) := by decide +kernel
theorem dX1_bestPace_14 : decode cX1_bestPace 14 = .ok (.if_icmp .gt 37, 3) := by decide +kernel
theorem dX1_bestPace_17 : decode cX1_bestPace 17 = .ok (.aload_n 0, 1) := by decide +kernel
theorem dX1_bestPace_18 : decode cX1_bestPace 18 = .ok (.aload_n 1, 1) := by decide +kernel
theorem dX1_bestPace_19 : decode cX1_bestPace 19 = .ok (.aload_n 2, 1) := by decide +kernel
theorem dX1_bestPace_20 : decode cX1_bestPace 20 = .ok (.iload_n 3, 1) := by decide +kernel
theorem dX1_bestPace_21 : decode cX1_bestPace 21 = .ok (.iload 4, 2) := by decide +kernel
theorem dX1_bestPace_23 : decode cX1_bestPace 23 = .ok (.iload 7, 2) := by decide +kernel
theorem dX1_bestPace_25 : decode cX1_bestPace 25 = .ok (.invokevirtual 38, 3) := by decide +kernel
theorem dX1_bestPace_28 : decode cX1_bestPace 28 = .ok (.istore 8, 2) := by decide +kernel
theorem dX1_bestPace_30 : decode cX1_bestPace 30 = .ok (.iload 8, 2) := by decide +kernel
theorem dX1_bestPace_32 : decode cX1_bestPace 32 = .ok (.iload 5, 2) := by decide +kernel
theorem dX1_bestPace_34 : decode cX1_bestPace 34 = .ok (.if_icmp .ge 11, 3) := by decide +kernel
theorem dX1_bestPace_37 : decode cX1_bestPace 37 = .ok (.iload 8, 2) := by decide +kernel
theorem dX1_bestPace_39 : decode cX1_bestPace 39 = .ok (.istore 5, 2) := by decide +kernel
theorem dX1_bestPace_41 : decode cX1_bestPace 41 = .ok (.iload 7, 2) := by decide +kernel
theorem dX1_bestPace_43 : decode cX1_bestPace 43 = .ok (.istore 6, 2) := by decide +kernel
theorem dX1_bestPace_45 : decode cX1_bestPace 45 = .ok (.iinc 7 1, 3) := by decide +kernel
theorem dX1_bestPace_48 : decode cX1_bestPace 48 = .ok (.goto (-38), 3) := by decide +kernel
theorem dX1_bestPace_51 : decode cX1_bestPace 51 = .ok (.iload 6, 2) := by decide +kernel
theorem dX1_bestPace_53 : decode cX1_bestPace 53 = .ok (.ireturn, 1) := by decide +kernel
theorem dX1_through_0 : decode cX1_through 0 = .ok (.aload_n 1, 1) := by decide +kernel
theorem dX1_through_1 : decode cX1_through 1 = .ok (.aload_n 2, 1) := by decide +kernel
theorem dX1_through_2 : decode cX1_through 2 = .ok (.iload_n 3, 1) := by decide +kernel
theorem dX1_through_3 : decode cX1_through 3 = .ok (.iload 5, 2) := by decide +kernel
theorem dX1_through_5 : decode cX1_through 5 = .ok (.iload 4, 2) := by decide +kernel
theorem dX1_through_7 : decode cX1_through 7 = .ok (.iconst 0, 1) := by decide +kernel
theorem dX1_through_8 : decode cX1_through 8 = .ok (.invokevirtual 52, 3) := by decide +kernel
theorem dX1_through_11 : decode cX1_through 11 = .ok (.istore 6, 2) := by decide +kernel
theorem dX1_through_13 : decode cX1_through 13 = .ok (.aload_n 0, 1) := by decide +kernel
theorem dX1_through_14 : decode cX1_through 14 = .ok (.getfield 9, 3) := by decide +kernel
theorem dX1_through_17 : decode cX1_through 17 = .ok (.iconst 0, 1) := by decide +kernel
theorem dX1_through_18 : decode cX1_through 18 = .ok (.iload 4, 2) := by decide +kernel
theorem dX1_through_20 : decode cX1_through 20 = .ok (.iconst 1, 1) := by decide +kernel
theorem dX1_through_21 : decode cX1_through 21 = .ok (.isub, 1) := by decide +kernel
theorem dX1_through_22 : decode cX1_through 22 = .ok (.invokestatic 56, 3) := by decide +kernel
theorem dX1_through_25 : decode cX1_through 25 = .ok (.iaload, 1) := by decide +kernel
theorem dX1_through_26 : decode cX1_through 26 = .ok (.istore 7, 2) := by decide +kernel
theorem dX1_through_28 : decode cX1_through 28 = .ok (.sipush 1000, 3) := by decide +kernel
theorem dX1_through_31 : decode cX1_through 31 = .ok (.aload_n 1, 1) := by decide +kernel
theorem dX1_through_32 : decode cX1_through 32 = .ok (.getfield 62, 3) := by decide +kernel
theorem dX1_through_35 : decode cX1_through 35 = .ok (.imul, 1) := by decide +kernel
theorem dX1_through_36 : decode cX1_through 36 = .ok (.aload_n 0, 1) := by decide +kernel
theorem dX1_through_37 : decode cX1_through 37 = .ok (.getfield 9, 3) := by decide +kernel
theorem dX1_through_40 : decode cX1_through 40 = .ok (.iconst 3, 1) := by decide +kernel
theorem dX1_through_41 : decode cX1_through 41 = .ok (.iaload, 1) := by decide +kernel
theorem dX1_through_42 : decode cX1_through 42 = .ok (.iadd, 1) := by decide +kernel
theorem dX1_through_43 : decode cX1_through 43 = .ok (.istore 8, 2) := by decide +kernel
theorem dX1_through_45 : decode cX1_through 45 = .ok (.sipush 1000, 3) := by decide +kernel
theorem dX1_through_48 : decode cX1_through 48 = .ok (.aload_n 2, 1) := by decide +kernel
theorem dX1_through_49 : decode cX1_through 49 = .ok (.iload 5, 2) := by decide +kernel
theorem dX1_through_51 : decode cX1_through 51 = .ok (.invokevirtual 66, 3) := by decide +kernel
theorem dX1_through_54 : decode cX1_through 54 = .ok (.imul, 1) := by decide +kernel
theorem dX1_through_55 : decode cX1_through 55 = .ok (.bipush 24, 2) := by decide +kernel
theorem dX1_through_57 : decode cX1_through 57 = .ok (.iload 6, 2) := by decide +kernel
theorem dX1_through_59 : decode cX1_through 59 = .ok (.isub, 1) := by decide +kernel
theorem dX1_through_60 : decode cX1_through 60 = .ok (.iload 7, 2) := by decide +kernel
theorem dX1_through_62 : decode cX1_through 62 = .ok (.imul, 1) := by decide +kernel
theorem dX1_through_63 : decode cX1_through 63 = .ok (.iload 6, 2) := by decide +kernel
theorem dX1_through_65 : decode cX1_through 65 = .ok (.iload 8, 2) := by decide +kernel
theorem dX1_through_67 : decode cX1_through 67 = .ok (.imul, 1) := by decide +kernel
theorem dX1_through_68 : decode cX1_through 68 = .ok (.iadd, 1) := by decide +kernel
theorem dX1_through_69 : decode cX1_through 69 = .ok (.bipush 24, 2) := by decide +kernel
theorem dX1_through_71 : decode cX1_through 71 = .ok (.idiv, 1) := by decide +kernel
theorem dX1_through_72 : decode cX1_through 72 = .ok (.iadd, 1) := by decide +kernel
theorem dX1_through_73 : decode cX1_through 73 = .ok (.ireturn, 1) := by decide +kernel
theorem dX1_goBack_0 : decode cX1_goBack 0 = .ok (.aload_n 0, 1) := by decide +kernel
theorem dX1_goBack_1 : decode cX1_goBack 1 = .ok (.getfield 15, 3) := by decide +kernel
theorem dX1_goBack_4 : decode cX1_goBack 4 = .ok (.iconst 0, 1) := by decide +kernel
theorem dX1_goBack_5 : decode cX1_goBack 5 = .ok (.aload_n 0, 1) := by decide +kernel
theorem dX1_goBack_6 : decode cX1_goBack 6 = .ok (.getfield 9, 3) := by decide +kernel
theorem dX1_goBack_9 : decode cX1_goBack 9 = .ok (.iconst 0, 1) := by decide +kernel
theorem dX1_goBack_10 : decode cX1_goBack 10 = .ok (.iconst 4, 1) := by decide +kernel
theorem dX1_goBack_11 : decode cX1_goBack 11 = .ok (.invokestatic 70, 3) := by decide +kernel
theorem dX1_goBack_14 : decode cX1_goBack 14 = .ok (.return_, 1) := by decide +kernel
theorem dX2_init_0 : decode cX2_init 0 = .ok (.aload_n 0, 1) := by decide +kernel
theorem dX2_init_1 : decode cX2_init 1 = .ok (.invokespecial 3, 3) := by decide +kernel
theorem dX2_init_4 : decode cX2_init 4 = .ok (.aload_n 0, 1) := by decide +kernel
theorem dX2_init_5 : decode cX2_init 5 = .ok (.bipush 30, 2) := by decide +kernel
theorem dX2_init_7 : decode cX2_init 7 = .ok (.newarray .int, 2) := by decide +kernel
theorem dX2_init_9 : decode cX2_init 9 = .ok (.putfield 9, 3) := by decide +kernel
theorem dX2_init_12 : decode cX2_init 12 = .ok (.aload_n 0, 1) := by decide +kernel
theorem dX2_init_13 : decode cX2_init 13 = .ok (.bipush 6, 2) := by decide +kernel
theorem dX2_init_15 : decode cX2_init 15 = .ok (.anewarray 15, 3) := by decide +kernel
theorem dX2_init_18 : decode cX2_init 18 = .ok (.putfield 17, 3) := by decide +kernel
theorem dX2_init_21 : decode cX2_init 21 = .ok (.aload_n 0, 1) := by decide +kernel
theorem dX2_init_22 : decode cX2_init 22 = .ok (.bipush 10, 2) := by decide +kernel
theorem dX2_init_24 : decode cX2_init 24 = .ok (.newarray .int, 2) := by decide +kernel
theorem dX2_init_26 : decode cX2_init 26 = .ok (.putfield 21, 3) := by decide +kernel
theorem dX2_init_29 : decode cX2_init 29 = .ok (.aload_n 0, 1) := by decide +kernel
theorem dX2_init_30 : decode cX2_init 30 = .ok (.iconst 0, 1) := by decide +kernel
theorem dX2_init_31 : decode cX2_init 31 = .ok (.putfield 24, 3) := by decide +kernel
theorem dX2_init_34 : decode cX2_init 34 = .ok (.aload_n 0, 1) := by decide +kernel
theorem dX2_init_35 : decode cX2_init 35 = .ok (.bipush 25, 2) := by decide +kernel
theorem dX2_init_37 : decode cX2_init 37 = .ok (.putfield 28, 3) := by decide +kernel
theorem dX2_init_40 : decode cX2_init 40 = .ok (.aload_n 0, 1) := by decide +kernel
theorem dX2_init_41 : decode cX2_init 41 = .ok (.iconst 1, 1) := by decide +kernel
theorem dX2_init_42 : decode cX2_init 42 = .ok (.putfield 31, 3) := by decide +kernel
theorem dX2_init_45 : decode cX2_init 45 = .ok (.iconst 0, 1) := by decide +kernel
theorem dX2_init_46 : decode cX2_init 46 = .ok (.istore_n 1, 1) := by decide +kernel
theorem dX2_init_47 : decode cX2_init 47 = .ok (.iload_n 1, 1) := by decide +kernel
theorem dX2_init_48 : decode cX2_init 48 = .ok (.bipush 6, 2) := by decide +kernel
theorem dX2_init_50 : decode cX2_init 50 = .ok (.if_icmp .ge 22, 3) := by decide +kernel
theorem dX2_init_53 : decode cX2_init 53 = .ok (.aload_n 0, 1) := by decide +kernel
theorem dX2_init_54 : decode cX2_init 54 = .ok (.getfield 17, 3) := by decide +kernel
theorem dX2_init_57 : decode cX2_init 57 = .ok (.iload_n 1, 1) := by decide +kernel
theorem dX2_init_58 : decode cX2_init 58 = .ok (.new 15, 3) := by decide +kernel
theorem dX2_init_61 : decode cX2_init 61 = .ok (.dup, 1) := by decide +kernel
theorem dX2_init_62 : decode cX2_init 62 = .ok (.invokespecial 34, 3) := by decide +kernel
theorem dX2_init_65 : decode cX2_init 65 = .ok (.aastore, 1) := by decide +kernel
theorem dX2_init_66 : decode cX2_init 66 = .ok (.iinc 1 1, 3) := by decide +kernel
theorem dX2_init_69 : decode cX2_init 69 = .ok (.goto (-22), 3) := by decide +kernel
theorem dX2_init_72 : decode cX2_init 72 = .ok (.aload_n 0, 1) := by decide +kernel
theorem dX2_init_73 : decode cX2_init 73 = .ok (.getfield 21, 3) := by decide +kernel
theorem dX2_init_76 : decode cX2_init 76 = .ok (.iconst (-1), 1) := by decide +kernel
theorem dX2_init_77 : decode cX2_init 77 = .ok (.invokestatic 35, 3) := by decide +kernel
theorem dX2_init_80 : decode cX2_init 80 = .ok (.return_, 1) := by decide +kernel
theorem dX2_become_0 : decode cX2_become 0 = .ok (.aload_n 1, 1) := by decide +kernel
theorem dX2_become_1 : decode cX2_become 1 = .ok (.getfield 9, 3) := by decide +kernel
theorem dX2_become_4 : decode cX2_become 4 = .ok (.iconst 0, 1) := by decide +kernel
theorem dX2_become_5 : decode cX2_become 5 = .ok (.aload_n 0, 1) := by decide +kernel
theorem dX2_become_6 : decode cX2_become 6 = .ok (.getfield 9, 3) := by decide +kernel
theorem dX2_become_9 : decode cX2_become 9 = .ok (.iconst 0, 1) := by decide +kernel
theorem dX2_become_10 : decode cX2_become 10 = .ok (.bipush 30, 2) := by decide +kernel
theorem dX2_become_12 : decode cX2_become 12 = .ok (.invokestatic 41, 3) := by decide +kernel
theorem dX2_become_15 : decode cX2_become 15 = .ok (.aload_n 1, 1) := by decide +kernel
theorem dX2_become_16 : decode cX2_become 16 = .ok (.getfield 21, 3) := by decide +kernel
theorem dX2_become_19 : decode cX2_become 19 = .ok (.iconst 0, 1) := by decide +kernel
theorem dX2_become_20 : decode cX2_become 20 = .ok (.aload_n 0, 1) := by decide +kernel
theorem dX2_become_21 : decode cX2_become 21 = .ok (.getfield 21, 3) := by decide +kernel
theorem dX2_become_24 : decode cX2_become 24 = .ok (.iconst 0, 1) := by decide +kernel
theorem dX2_become_25 : decode cX2_become 25 = .ok (.bipush 10, 2) := by decide +kernel
theorem dX2_become_27 : decode cX2_become 27 = .ok (.invokestatic 41, 3) := by decide +kernel
theorem dX2_become_30 : decode cX2_become 30 = .ok (.iconst 0, 1) := by decide +kernel
theorem dX2_become_31 : decode cX2_become 31 = .ok (.istore_n 2, 1) := by decide +kernel
theorem dX2_become_32 : decode cX2_become 32 = .ok (.iload_n 2, 1) := by decide +kernel
theorem dX2_become_33 : decode cX2_become 33 = .ok (.aload_n 1, 1) := by decide +kernel
theorem dX2_become_34 : decode cX2_become 34 = .ok (.getfield 24, 3) := by decide +kernel
theorem dX2_become_37 : decode cX2_become 37 = .ok (.if_icmp .ge 24, 3) := by decide +kernel
theorem dX2_become_40 : decode cX2_become 40 = .ok (.aload_n 0, 1) := by decide +kernel
theorem dX2_become_41 : decode cX2_become 41 = .ok (.getfield 17, 3) := by decide +kernel
theorem dX2_become_44 : decode cX2_become 44 = .ok (.iload_n 2, 1) := by decide +kernel
theorem dX2_become_45 : decode cX2_become 45 = .ok (.aaload, 1) := by decide +kernel
theorem dX2_become_46 : decode cX2_become 46 = .ok (.aload_n 1, 1) := by decide +kernel
theorem dX2_become_47 : decode cX2_become 47 = .ok (.getfield 17, 3) := by decide +kernel
theorem dX2_become_50 : decode cX2_become 50 = .ok (.iload_n 2, 1) := by decide +kernel
theorem dX2_become_51 : decode cX2_become 51 = .ok (.aaload, 1) := by decide +kernel
theorem dX2_become_52 : decode cX2_become 52 = .ok (.invokevirtual 47, 3) := by decide +kernel
theorem dX2_become_55 : decode cX2_become 55 = .ok (.iinc 2 1, 3) := by decide +kernel
theorem dX2_become_58 : decode cX2_become 58 = .ok (.goto (-26), 3) := by decide +kernel
theorem dX2_become_61 : decode cX2_become 61 = .ok (.aload_n 0, 1) := by decide +kernel
theorem dX2_become_62 : decode cX2_become 62 = .ok (.aload_n 1, 1) := by decide +kernel
theorem dX2_become_63 : decode cX2_become 63 = .ok (.getfield 24, 3) := by decide +kernel
theorem dX2_become_66 : decode cX2_become 66 = .ok (.putfield 24, 3) := by decide +kernel
theorem dX2_become_69 : decode cX2_become 69 = .ok (.aload_n 0, 1) := by decide +kernel
theorem dX2_become_70 : decode cX2_become 70 = .ok (.aload_n 1, 1) := by decide +kernel
theorem dX2_become_71 : decode cX2_become 71 = .ok (.getfield 28, 3) := by decide +kernel
theorem dX2_become_74 : decode cX2_become 74 = .ok (.putfield 28, 3) := by decide +kernel
theorem dX2_become_77 : decode cX2_become 77 = .ok (.aload_n 0, 1) := by decide +kernel
theorem dX2_become_78 : decode cX2_become 78 = .ok (.aload_n 1, 1) := by decide +kernel
theorem dX2_become_79 : decode cX2_become 79 = .ok (.getfield 31, 3) := by decide +kernel
theorem dX2_become_82 : decode cX2_become 82 = .ok (.putfield 31, 3) := by decide +kernel
theorem dX2_become_85 : decode cX2_become 85 = .ok (.return_, 1) := by decide +kernel
theorem dX2_add_0 : decode cX2_add 0 = .ok (.aload_n 0, 1) := by decide +kernel
theorem dX2_add_1 : decode cX2_add 1 = .ok (.getfield 17, 3) := by decide +kernel
theorem dX2_add_4 : decode cX2_add 4 = .ok (.aload_n 0, 1) := by decide +kernel
theorem dX2_add_5 : decode cX2_add 5 = .ok (.getfield 24, 3) := by decide +kernel
theorem dX2_add_8 : decode cX2_add 8 = .ok (.aaload, 1) := by decide +kernel
theorem dX2_add_9 : decode cX2_add 9 = .ok (.iload_n 1, 1) := by decide +kernel
theorem dX2_add_10 : decode cX2_add 10 = .ok (.iload_n 2, 1) := by decide +kernel
theorem dX2_add_11 : decode cX2_add 11 = .ok (.iload_n 3, 1) := by decide +kernel
theorem dX2_add_12 : decode cX2_add 12 = .ok (.invokevirtual 51, 3) := by decide +kernel
theorem dX2_add_15 : decode cX2_add 15 = .ok (.aload_n 0, 1) := by decide +kernel
theorem dX2_add_16 : decode cX2_add 16 = .ok (.dup, 1) := by decide +kernel
theorem dX2_add_17 : decode cX2_add 17 = .ok (.getfield 24, 3) := by decide +kernel
theorem dX2_add_20 : decode cX2_add 20 = .ok (.iconst 1, 1) := by decide +kernel
theorem dX2_add_21 : decode cX2_add 21 = .ok (.iadd, 1) := by decide +kernel
theorem dX2_add_22 : decode cX2_add 22 = .ok (.putfield 24, 3) := by decide +kernel
theorem dX2_add_25 : decode cX2_add 25 = .ok (.aload_n 0, 1) := by decide +kernel
theorem dX2_add_26 : decode cX2_add 26 = .ok (.getfield 24, 3) := by decide +kernel
theorem dX2_add_29 : decode cX2_add 29 = .ok (.iconst 1, 1) := by decide +kernel
theorem dX2_add_30 : decode cX2_add 30 = .ok (.isub, 1) := by decide +kernel
theorem dX2_add_31 : decode cX2_add 31 = .ok (.ireturn, 1) := by decide +kernel
theorem dX2_draw_0 : decode cX2_draw 0 = .ok (.aload_n 0, 1) := by decide +kernel
theorem dX2_draw_1 : decode cX2_draw 1 = .ok (.aload_n 0, 1) := by decide +kernel
theorem dX2_draw_2 : decode cX2_draw 2 = .ok (.getfield 31, 3) := by decide +kernel
theorem dX2_draw_5 : decode cX2_draw 5 = .ok (.ldc 55, 2) := by decide +kernel
theorem dX2_draw_7 : decode cX2_draw 7 = .ok (.imul, 1) := by decide +kernel
theorem dX2_draw_8 : decode cX2_draw 8 = .ok (.sipush 12345, 3) := by decide +kernel
theorem dX2_draw_11 : decode cX2_draw 11 = .ok (.iadd, 1) := by decide +kernel
theorem dX2_draw_12 : decode cX2_draw 12 = .ok (.putfield 31, 3) := by decide +kernel
theorem dX2_draw_15 : decode cX2_draw 15 = .ok (.aload_n 0, 1) := by decide +kernel
theorem dX2_draw_16 : decode cX2_draw 16 = .ok (.getfield 31, 3) := by decide +kernel
theorem dX2_draw_19 : decode cX2_draw 19 = .ok (.bipush 8, 2) := by decide +kernel
theorem dX2_draw_21 : decode cX2_draw 21 = .ok (.iushr, 1) := by decide +kernel
theorem dX2_draw_22 : decode cX2_draw 22 = .ok (.ireturn, 1) := by decide +kernel
theorem dX2_nervesOf_0 : decode cX2_nervesOf 0 = .ok (.aload_n 0, 1) := by decide +kernel
theorem dX2_nervesOf_1 : decode cX2_nervesOf 1 = .ok (.getfield 17, 3) := by decide +kernel
theorem dX2_nervesOf_4 : decode cX2_nervesOf 4 = .ok (.iload_n 1, 1) := by decide +kernel
theorem dX2_nervesOf_5 : decode cX2_nervesOf 5 = .ok (.aaload, 1) := by decide +kernel
theorem dX2_nervesOf_6 : decode cX2_nervesOf 6 = .ok (.getfield 56, 3) := by decide +kernel
theorem dX2_nervesOf_9 : decode cX2_nervesOf 9 = .ok (.istore_n 2, 1) := by decide +kernel
theorem dX2_nervesOf_10 : decode cX2_nervesOf 10 = .ok (.iconst 0, 1) := by decide +kernel
theorem dX2_nervesOf_11 : decode cX2_nervesOf 11 = .ok (.istore_n 3, 1) := by decide +kernel
theorem dX2_nervesOf_12 : decode cX2_nervesOf 12 = .ok (.iconst 0, 1) := by decide +kernel
theorem dX2_nervesOf_13 : decode cX2_nervesOf 13 = .ok (.istore 4, 2) := by decide +kernel
theorem dX2_nervesOf_15 : decode cX2_nervesOf 15 = .ok (.iload 4, 2) := by decide +kernel
theorem dX2_nervesOf_17 : decode cX2_nervesOf 17 = .ok (.aload_n 0, 1) := by decide +kernel
theorem dX2_nervesOf_18 : decode cX2_nervesOf 18 = .ok (.getfield 24, 3) := by decide +kernel
theorem dX2_nervesOf_21 : decode cX2_nervesOf 21 = .ok (.if_icmp .ge 50, 3) := by decide +kernel
theorem dX2_nervesOf_24 : decode cX2_nervesOf 24 = .ok (.iload 4, 2) := by decide +kernel
theorem dX2_nervesOf_26 : decode cX2_nervesOf 26 = .ok (.iload_n 1, 1) := by decide +kernel
theorem dX2_nervesOf_27 : decode cX2_nervesOf 27 = .ok (.if_icmp .eq 38, 3) := by decide +kernel
theorem dX2_nervesOf_30 : decode cX2_nervesOf 30 = .ok (.aload_n 0, 1) := by decide +kernel
theorem dX2_nervesOf_31 : decode cX2_nervesOf 31 = .ok (.getfield 17, 3) := by decide +kernel
theorem dX2_nervesOf_34 : decode cX2_nervesOf 34 = .ok (.iload 4, 2) := by decide +kernel
theorem dX2_nervesOf_36 : decode cX2_nervesOf 36 = .ok (.aaload, 1) := by decide +kernel
theorem dX2_nervesOf_37 : decode cX2_nervesOf 37 = .ok (.invokevirtual 59, 3) := by decide +kernel
theorem dX2_nervesOf_40 : decode cX2_nervesOf 40 = .ok (.ifCond .ne 25, 3) := by decide +kernel
theorem dX2_nervesOf_43 : decode cX2_nervesOf 43 = .ok (.aload_n 0, 1) := by decide +kernel
theorem dX2_nervesOf_44 : decode cX2_nervesOf 44 = .ok (.getfield 17, 3) := by decide +kernel
theorem dX2_nervesOf_47 : decode cX2_nervesOf 47 = .ok (.iload 4, 2) := by decide +kernel
theorem dX2_nervesOf_49 : decode cX2_nervesOf 49 = .ok (.aaload, 1) := by decide +kernel
theorem dX2_nervesOf_50 : decode cX2_nervesOf 50 = .ok (.getfield 56, 3) := by decide +kernel
theorem dX2_nervesOf_53 : decode cX2_nervesOf 53 = .ok (.iload_n 2, 1) := by decide +kernel
theorem dX2_nervesOf_54 : decode cX2_nervesOf 54 = .ok (.isub, 1) := by decide +kernel
theorem dX2_nervesOf_55 : decode cX2_nervesOf 55 = .ok (.invokestatic 63, 3) := by decide +kernel
theorem dX2_nervesOf_58 : decode cX2_nervesOf 58 = .ok (.iconst 1, 1) := by decide +kernel
theorem dX2_nervesOf_59 : decode cX2_nervesOf 59 = .ok (.if_icmp .gt 6, 3) := by decide +kernel
theorem dX2_nervesOf_62 : decode cX2_nervesOf 62 = .ok (.iinc 3 1, 3) := by decide +kernel
theorem dX2_nervesOf_65 : decode cX2_nervesOf 65 = .ok (.iinc 4 1, 3) := by decide +kernel
theorem dX2_nervesOf_68 : decode cX2_nervesOf 68 = .ok (.goto (-53), 3) := by decide +kernel
theorem dX2_nervesOf_71 : decode cX2_nervesOf 71 = .ok (.iload_n 3, 1) := by decide +kernel
theorem dX2_nervesOf_72 : decode cX2_nervesOf 72 = .ok (.ireturn, 1) := by decide +kernel
theorem dX2_oddsOf_0 : decode cX2_oddsOf 0 = .ok (.aload_n 1, 1) := by decide +kernel
theorem dX2_oddsOf_1 : decode cX2_oddsOf 1 = .ok (.iload_n 3, 1) := by decide +kernel
theorem dX2_oddsOf_2 : decode cX2_oddsOf 2 = .ok (.invokevirtual 69, 3) := by decide +kernel
theorem dX2_oddsOf_5 : decode cX2_oddsOf 5 = .ok (.aload_n 1, 1) := by decide +kernel
theorem dX2_oddsOf_6 : decode cX2_oddsOf 6 = .ok (.aload_n 0, 1) := by decide +kernel
theorem dX2_oddsOf_7 : decode cX2_oddsOf 7 = .ok (.getfield 9, 3) := by decide +kernel
theorem dX2_oddsOf_10 : decode cX2_oddsOf 10 = .ok (.iload_n 2, 1) := by decide +kernel
theorem dX2_oddsOf_11 : decode cX2_oddsOf 11 = .ok (.iaload, 1) := by decide +kernel
theorem dX2_oddsOf_12 : decode cX2_oddsOf 12 = .ok (.invokevirtual 72, 3) := by decide +kernel
theorem dX2_oddsOf_15 : decode cX2_oddsOf 15 = .ok (.iadd, 1) := by decide +kernel
theorem dX2_oddsOf_16 : decode cX2_oddsOf 16 = .ok (.iload 4, 2) := by decide +kernel
theorem dX2_oddsOf_18 : decode cX2_oddsOf 18 = .ok (.ifCond .le 7, 3) := by decide +kernel
theorem dX2_oddsOf_21 : decode cX2_oddsOf 21 = .ok (.iconst 3, 1) := by decide +kernel
theorem dX2_oddsOf_22 : decode cX2_oddsOf 22 = .ok (.goto 4, 3) := by decide +kernel
theorem dX2_oddsOf_25 : decode cX2_oddsOf 25 = .ok (.iconst 0, 1) := by decide +kernel
theorem dX2_oddsOf_26 : decode cX2_oddsOf 26 = .ok (.iadd, 1) := by decide +kernel
theorem dX2_oddsOf_27 : decode cX2_oddsOf 27 = .ok (.iload 5, 2) := by decide +kernel
theorem dX2_oddsOf_29 : decode cX2_oddsOf 29 = .ok (.iadd, 1) := by decide +kernel
theorem dX2_oddsOf_30 : decode cX2_oddsOf 30 = .ok (.istore 6, 2) := by decide +kernel
theorem dX2_oddsOf_32 : decode cX2_oddsOf 32 = .ok (.iconst 0, 1) := by decide +kernel
theorem dX2_oddsOf_33 : decode cX2_oddsOf 33 = .ok (.bipush 23, 2) := by decide +kernel
theorem dX2_oddsOf_35 : decode cX2_oddsOf 35 = .ok (.iload 6, 2) := by decide +kernel
theorem dX2_oddsOf_37 : decode cX2_oddsOf 37 = .ok (.aload_n 1, 1) := by decide +kernel
theorem dX2_oddsOf_38 : decode cX2_oddsOf 38 = .ok (.invokevirtual 75, 3) := by decide +kernel
theorem dX2_oddsOf_41 : decode cX2_oddsOf 41 = .ok (.isub, 1) := by decide +kernel
theorem dX2_oddsOf_42 : decode cX2_oddsOf 42 = .ok (.invokestatic 79, 3) := by decide +kernel
theorem dX2_oddsOf_45 : decode cX2_oddsOf 45 = .ok (.invokestatic 83, 3) := by decide +kernel
theorem dX2_oddsOf_48 : decode cX2_oddsOf 48 = .ok (.ireturn, 1) := by decide +kernel
theorem dX2_oddsInStep_0 : decode cX2_oddsInStep 0 = .ok (.aload_n 0, 1) := by decide +kernel
theorem dX2_oddsInStep_1 : decode cX2_oddsInStep 1 = .ok (.getfield 17, 3) := by decide +kernel
theorem dX2_oddsInStep_4 : decode cX2_oddsInStep 4 = .ok (.iload_n 1, 1) := by decide +kernel
theorem dX2_oddsInStep_5 : decode cX2_oddsInStep 5 = .ok (.aaload, 1) := by decide +kernel
theorem dX2_oddsInStep_6 : decode cX2_oddsInStep 6 = .ok (.astore_n 2, 1) := by decide +kernel
theorem dX2_oddsInStep_7 : decode cX2_oddsInStep 7 = .ok (.aload_n 0, 1) := by decide +kernel
theorem dX2_oddsInStep_8 : decode cX2_oddsInStep 8 = .ok (.aload_n 2, 1) := by decide +kernel
theorem dX2_oddsInStep_9 : decode cX2_oddsInStep 9 = .ok (.aload_n 2, 1) := by decide +kernel
theorem dX2_oddsInStep_10 : decode cX2_oddsInStep 10 = .ok (.getfield 56, 3) := by decide +kernel
theorem dX2_oddsInStep_13 : decode cX2_oddsInStep 13 = .ok (.aload_n 2, 1) := by decide +kernel
theorem dX2_oddsInStep_14 : decode cX2_oddsInStep 14 = .ok (.getfield 86, 3) := by decide +kernel
theorem dX2_oddsInStep_17 : decode cX2_oddsInStep 17 = .ok (.aload_n 2, 1) := by decide +kernel
theorem dX2_oddsInStep_18 : decode cX2_oddsInStep 18 = .ok (.getfield 56, 3) := by decide +kernel
theorem dX2_oddsInStep_21 : decode cX2_oddsInStep 21 = .ok (.iaload, 1) := by decide +kernel
theorem dX2_oddsInStep_22 : decode cX2_oddsInStep 22 = .ok (.aload_n 2, 1) := by decide +kernel
theorem dX2_oddsInStep_23 : decode cX2_oddsInStep 23 = .ok (.getfield 89, 3) := by decide +kernel
theorem dX2_oddsInStep_26 : decode cX2_oddsInStep 26 = .ok (.aload_n 0, 1) := by decide +kernel
theorem dX2_oddsInStep_27 : decode cX2_oddsInStep 27 = .ok (.iload_n 1, 1) := by decide +kernel
theorem dX2_oddsInStep_28 : decode cX2_oddsInStep 28 = .ok (.invokevirtual 92, 3) := by decide +kernel
theorem dX2_oddsInStep_31 : decode cX2_oddsInStep 31 = .ok (.invokevirtual 95, 3) := by decide +kernel
theorem dX2_oddsInStep_34 : decode cX2_oddsInStep 34 = .ok (.ireturn, 1) := by decide +kernel
theorem dX2_whoRuns_0 : decode cX2_whoRuns 0 = .ok (.iconst (-1), 1) := by decide +kernel
theorem dX2_whoRuns_1 : decode cX2_whoRuns 1 = .ok (.istore_n 1, 1) := by decide +kernel
theorem dX2_whoRuns_2 : decode cX2_whoRuns 2 = .ok (.iconst 0, 1) := by decide +kernel
theorem dX2_whoRuns_3 : decode cX2_whoRuns 3 = .ok (.istore_n 2, 1) := by decide +kernel
theorem dX2_whoRuns_4 : decode cX2_whoRuns 4 = .ok (.iload_n 2, 1) := by decide +kernel
theorem dX2_whoRuns_5 : decode cX2_whoRuns 5 = .ok (.aload_n 0, 1) := by decide +kernel
theorem dX2_whoRuns_6 : decode cX2_whoRuns 6 = .ok (.getfield 24, 3) := by decide +kernel
theorem dX2_whoRuns_9 : decode cX2_whoRuns 9 = .ok (.if_icmp .ge 48, 3) := by decide +kernel
theorem dX2_whoRuns_12 : decode cX2_whoRuns 12 = .ok (.aload_n 0, 1) := by decide +kernel
theorem dX2_whoRuns_13 : decode cX2_whoRuns 13 = .ok (.getfield 17, 3) := by decide +kernel
theorem dX2_whoRuns_16 : decode cX2_whoRuns 16 = .ok (.iload_n 2, 1) := by decide +kernel
theorem dX2_whoRuns_17 : decode cX2_whoRuns 17 = .ok (.aaload, 1) := by decide +kernel
theorem dX2_whoRuns_18 : decode cX2_whoRuns 18 = .ok (.invokevirtual 59, 3) := by decide +kernel
theorem dX2_whoRuns_21 : decode cX2_whoRuns 21 = .ok (.ifCond .ne 30, 3) := by decide +kernel
theorem dX2_whoRuns_24 : decode cX2_whoRuns 24 = .ok (.iload_n 1, 1) := by decide +kernel
theorem dX2_whoRuns_25 : decode cX2_whoRuns 25 = .ok (.ifCond .lt 24, 3) := by decide +kernel
theorem dX2_whoRuns_28 : decode cX2_whoRuns 28 = .ok (.aload_n 0, 1) := by decide +kernel
theorem dX2_whoRuns_29 : decode cX2_whoRuns 29 = .ok (.getfield 17, 3) := by decide +kernel
theorem dX2_whoRuns_32 : decode cX2_whoRuns 32 = .ok (.iload_n 2, 1) := by decide +kernel
theorem dX2_whoRuns_33 : decode cX2_whoRuns 33 = .ok (.aaload, 1) := by decide +kernel
theorem dX2_whoRuns_34 : decode cX2_whoRuns 34 = .ok (.getfield 99, 3) := by decide +kernel
theorem dX2_whoRuns_37 : decode cX2_whoRuns 37 = .ok (.aload_n 0, 1) := by decide +kernel
theorem dX2_whoRuns_38 : decode cX2_whoRuns 38 = .ok (.getfield 17, 3) := by decide +kernel
theorem dX2_whoRuns_41 : decode cX2_whoRuns 41 = .ok (.iload_n 1, 1) := by decide +kernel
theorem dX2_whoRuns_42 : decode cX2_whoRuns 42 = .ok (.aaload, 1) := by decide +kernel
theorem dX2_whoRuns_43 : decode cX2_whoRuns 43 = .ok (.getfield 99, 3) := by decide +kernel
theorem dX2_whoRuns_46 : decode cX2_whoRuns 46 = .ok (.if_icmp .ge 5, 3) := by decide +kernel
theorem dX2_whoRuns_49 : decode cX2_whoRuns 49 = .ok (.iload_n 2, 1) := by decide +kernel
theorem dX2_whoRuns_50 : decode cX2_whoRuns 50 = .ok (.istore_n 1, 1) := by decide +kernel
theorem dX2_whoRuns_51 : decode cX2_whoRuns 51 = .ok (.iinc 2 1, 3) := by decide +kernel
theorem dX2_whoRuns_54 : decode cX2_whoRuns 54 = .ok (.goto (-50), 3) := by decide +kernel
theorem dX2_whoRuns_57 : decode cX2_whoRuns 57 = .ok (.iload_n 1, 1) := by decide +kernel
theorem dX2_whoRuns_58 : decode cX2_whoRuns 58 = .ok (.ireturn, 1) := by decide +kernel
theorem dX2_step_0 : decode cX2_step 0 = .ok (.aload_n 0, 1) := by decide +kernel
theorem dX2_step_1 : decode cX2_step 1 = .ok (.getfield 17, 3) := by decide +kernel
theorem dX2_step_4 : decode cX2_step 4 = .ok (.iload_n 1, 1) := by decide +kernel
theorem dX2_step_5 : decode cX2_step 5 = .ok (.aaload, 1) := by decide +kernel
theorem dX2_step_6 : decode cX2_step 6 = .ok (.astore_n 2, 1) := by decide +kernel
theorem dX2_step_7 : decode cX2_step 7 = .ok (.aload_n 0, 1) := by decide +kernel
theorem dX2_step_8 : decode cX2_step 8 = .ok (.iload_n 1, 1) := by decide +kernel
theorem dX2_step_9 : decode cX2_step 9 = .ok (.invokevirtual 102, 3) := by decide +kernel
theorem dX2_step_12 : decode cX2_step 12 = .ok (.istore_n 3, 1) := by decide +kernel
theorem dX2_step_13 : decode cX2_step 13 = .ok (.iload_n 3, 1) := by decide +kernel
theorem dX2_step_14 : decode cX2_step 14 = .ok (.ifCond .le 18, 3) := by decide +kernel
theorem dX2_step_17 : decode cX2_step 17 = .ok (.aload_n 0, 1) := by decide +kernel
theorem dX2_step_18 : decode cX2_step 18 = .ok (.invokevirtual 105, 3) := by decide +kernel
theorem dX2_step_21 : decode cX2_step 21 = .ok (.bipush 24, 2) := by decide +kernel
theorem dX2_step_23 : decode cX2_step 23 = .ok (.irem, 1) := by decide +kernel
theorem dX2_step_24 : decode cX2_step 24 = .ok (.iload_n 3, 1) := by decide +kernel
theorem dX2_step_25 : decode cX2_step 25 = .ok (.if_icmp .ge 7, 3) := by decide +kernel
theorem dX2_step_28 : decode cX2_step 28 = .ok (.iconst 1, 1) := by decide +kernel
theorem dX2_step_29 : decode cX2_step 29 = .ok (.goto 4, 3) := by decide +kernel
theorem dX2_step_32 : decode cX2_step 32 = .ok (.iconst 0, 1) := by decide +kernel
theorem dX2_step_33 : decode cX2_step 33 = .ok (.istore 4, 2) := by decide +kernel
theorem dX2_step_35 : decode cX2_step 35 = .ok (.aload_n 2, 1) := by decide +kernel
theorem dX2_step_36 : decode cX2_step 36 = .ok (.dup, 1) := by decide +kernel
theorem dX2_step_37 : decode cX2_step 37 = .ok (.getfield 99, 3) := by decide +kernel
theorem dX2_step_40 : decode cX2_step 40 = .ok (.aload_n 2, 1) := by decide +kernel
theorem dX2_step_41 : decode cX2_step 41 = .ok (.aload_n 2, 1) := by decide +kernel
theorem dX2_step_42 : decode cX2_step 42 = .ok (.getfield 86, 3) := by decide +kernel
theorem dX2_step_45 : decode cX2_step 45 = .ok (.aload_n 2, 1) := by decide +kernel
theorem dX2_step_46 : decode cX2_step 46 = .ok (.getfield 56, 3) := by decide +kernel
theorem dX2_step_49 : decode cX2_step 49 = .ok (.iaload, 1) := by decide +kernel
theorem dX2_step_50 : decode cX2_step 50 = .ok (.invokevirtual 108, 3) := by decide +kernel
theorem dX2_step_53 : decode cX2_step 53 = .ok (.iadd, 1) := by decide +kernel
theorem dX2_step_54 : decode cX2_step 54 = .ok (.putfield 99, 3) := by decide +kernel
theorem dX2_step_57 : decode cX2_step 57 = .ok (.aload_n 2, 1) := by decide +kernel
theorem dX2_step_58 : decode cX2_step 58 = .ok (.dup, 1) := by decide +kernel
theorem dX2_step_59 : decode cX2_step 59 = .ok (.getfield 56, 3) := by decide +kernel
theorem dX2_step_62 : decode cX2_step 62 = .ok (.iconst 1, 1) := by decide +kernel
theorem dX2_step_63 : decode cX2_step 63 = .ok (.iadd, 1) := by decide +kernel
theorem dX2_step_64 : decode cX2_step 64 = .ok (.putfield 56, 3) := by decide +kernel
theorem dX2_step_67 : decode cX2_step 67 = .ok (.iload 4, 2) := by decide +kernel
theorem dX2_step_69 : decode cX2_step 69 = .ok (.ifCond .eq 33, 3) := by decide +kernel
theorem dX2_step_72 : decode cX2_step 72 = .ok (.aload_n 2, 1) := by decide +kernel
theorem dX2_step_73 : decode cX2_step 73 = .ok (.dup, 1) := by decide +kernel
theorem dX2_step_74 : decode cX2_step 74 = .ok (.getfield 111, 3) := by decide +kernel
theorem dX2_step_77 : decode cX2_step 77 = .ok (.iconst 1, 1) := by decide +kernel
theorem dX2_step_78 : decode cX2_step 78 = .ok (.iadd, 1) := by decide +kernel
theorem dX2_step_79 : decode cX2_step 79 = .ok (.putfield 111, 3) := by decide +kernel
theorem dX2_step_82 : decode cX2_step 82 = .ok (.aload_n 2, 1) := by decide +kernel
theorem dX2_step_83 : decode cX2_step 83 = .ok (.dup, 1) := by decide +kernel
theorem dX2_step_84 : decode cX2_step 84 = .ok (.getfield 99, 3) := by decide +kernel
theorem dX2_step_87 : decode cX2_step 87 = .ok (.aload_n 0, 1) := by decide +kernel
theorem dX2_step_88 : decode cX2_step 88 = .ok (.getfield 28, 3) := by decide +kernel
theorem dX2_step_91 : decode cX2_step 91 = .ok (.iadd, 1) := by decide +kernel
theorem dX2_step_92 : decode cX2_step 92 = .ok (.putfield 99, 3) := by decide +kernel
theorem dX2_step_95 : decode cX2_step 95 = .ok (.aload_n 2, 1) := by decide +kernel
theorem dX2_step_96 : decode cX2_step 96 = .ok (.iconst 3, 1) := by decide +kernel
theorem dX2_step_97 : decode cX2_step 97 = .ok (.putfield 89, 3) := by decide +kernel
theorem dX2_step_100 : decode cX2_step 100 = .ok (.iconst 1, 1) := by decide +kernel
theorem dX2_step_101 : decode cX2_step 101 = .ok (.ireturn, 1) := by decide +kernel
theorem dX2_step_102 : decode cX2_step 102 = .ok (.aload_n 2, 1) := by decide +kernel
theorem dX2_step_103 : decode cX2_step 103 = .ok (.iconst 0, 1) := by decide +kernel
theorem dX2_step_104 : decode cX2_step 104 = .ok (.aload_n 2, 1) := by decide +kernel
theorem dX2_step_105 : decode cX2_step 105 = .ok (.getfield 89, 3) := by decide +kernel
theorem dX2_step_108 : decode cX2_step 108 = .ok (.iconst 1, 1) := by decide +kernel
theorem dX2_step_109 : decode cX2_step 109 = .ok (.isub, 1) := by decide +kernel
theorem dX2_step_110 : decode cX2_step 110 = .ok (.invokestatic 83, 3) := by decide +kernel
theorem dX2_step_113 : decode cX2_step 113 = .ok (.putfield 89, 3) := by decide +kernel
theorem dX2_step_116 : decode cX2_step 116 = .ok (.iconst 0, 1) := by decide +kernel
theorem dX2_step_117 : decode cX2_step 117 = .ok (.ireturn, 1) := by decide +kernel
theorem dX2_go_0 : decode cX2_go 0 = .ok (.iconst 0, 1) := by decide +kernel
theorem dX2_go_1 : decode cX2_go 1 = .ok (.istore_n 2, 1) := by decide +kernel
theorem dX2_go_2 : decode cX2_go 2 = .ok (.iconst 0, 1) := by decide +kernel
theorem dX2_go_3 : decode cX2_go 3 = .ok (.istore_n 3, 1) := by decide +kernel
theorem dX2_go_4 : decode cX2_go 4 = .ok (.iload_n 3, 1) := by decide +kernel
theorem dX2_go_5 : decode cX2_go 5 = .ok (.iload_n 1, 1) := by decide +kernel
theorem dX2_go_6 : decode cX2_go 6 = .ok (.if_icmp .ge 32, 3) := by decide +kernel
theorem dX2_go_9 : decode cX2_go 9 = .ok (.aload_n 0, 1) := by decide +kernel
theorem dX2_go_10 : decode cX2_go 10 = .ok (.invokevirtual 114, 3) := by decide +kernel
theorem dX2_go_13 : decode cX2_go 13 = .ok (.istore 4, 2) := by decide +kernel
theorem dX2_go_15 : decode cX2_go 15 = .ok (.iload 4, 2) := by decide +kernel
theorem dX2_go_17 : decode cX2_go 17 = .ok (.ifCond .ge 6, 3) := by decide +kernel
theorem dX2_go_20 : decode cX2_go 20 = .ok (.goto 18, 3) := by decide +kernel
theorem dX2_go_23 : decode cX2_go 23 = .ok (.iload_n 2, 1) := by decide +kernel
theorem dX2_go_24 : decode cX2_go 24 = .ok (.aload_n 0, 1) := by decide +kernel
theorem dX2_go_25 : decode cX2_go 25 = .ok (.iload 4, 2) := by decide +kernel
theorem dX2_go_27 : decode cX2_go 27 = .ok (.invokevirtual 117, 3) := by decide +kernel
theorem dX2_go_30 : decode cX2_go 30 = .ok (.iadd, 1) := by decide +kernel
theorem dX2_go_31 : decode cX2_go 31 = .ok (.istore_n 2, 1) := by decide +kernel
theorem dX2_go_32 : decode cX2_go 32 = .ok (.iinc 3 1, 3) := by decide +kernel
theorem dX2_go_35 : decode cX2_go 35 = .ok (.goto (-31), 3) := by decide +kernel
theorem dX2_go_38 : decode cX2_go 38 = .ok (.iload_n 2, 1) := by decide +kernel
theorem dX2_go_39 : decode cX2_go 39 = .ok (.ireturn, 1) := by decide +kernel
theorem dX2_restart_0 : decode cX2_restart 0 = .ok (.aload_n 0, 1) := by decide +kernel
theorem dX2_restart_1 : decode cX2_restart 1 = .ok (.invokevirtual 120, 3) := by decide +kernel
theorem dX2_restart_4 : decode cX2_restart 4 = .ok (.invokestatic 123, 3) := by decide +kernel
theorem dX2_restart_7 : decode cX2_restart 7 = .ok (.istore_n 1, 1) := by decide +kernel
theorem dX2_restart_8 : decode cX2_restart 8 = .ok (.iconst 0, 1) := by decide +kernel
theorem dX2_restart_9 : decode cX2_restart 9 = .ok (.istore_n 2, 1) := by decide +kernel
theorem dX2_restart_10 : decode cX2_restart 10 = .ok (.iload_n 2, 1) := by decide +kernel
theorem dX2_restart_11 : decode cX2_restart 11 = .ok (.aload_n 0, 1) := by decide +kernel
theorem dX2_restart_12 : decode cX2_restart 12 = .ok (.getfield 24, 3) := by decide +kernel
theorem dX2_restart_15 : decode cX2_restart 15 = .ok (.if_icmp .ge 18, 3) := by decide +kernel
theorem dX2_restart_18 : decode cX2_restart 18 = .ok (.aload_n 0, 1) := by decide +kernel
theorem dX2_restart_19 : decode cX2_restart 19 = .ok (.getfield 17, 3) := by decide +kernel
theorem dX2_restart_22 : decode cX2_restart 22 = .ok (.iload_n 2, 1) := by decide +kernel
theorem dX2_restart_23 : decode cX2_restart 23 = .ok (.aaload, 1) := by decide +kernel
theorem dX2_restart_24 : decode cX2_restart 24 = .ok (.invokevirtual 128, 3) := by decide +kernel
theorem dX2_restart_27 : decode cX2_restart 27 = .ok (.iinc 2 1, 3) := by decide +kernel
theorem dX2_restart_30 : decode cX2_restart 30 = .ok (.goto (-20), 3) := by decide +kernel
theorem dX2_restart_33 : decode cX2_restart 33 = .ok (.iload_n 1, 1) := by decide +kernel
theorem dX2_restart_34 : decode cX2_restart 34 = .ok (.ireturn, 1) := by decide +kernel
theorem dX2_homeSet_0 : decode cX2_homeSet 0 = .ok (.iconst 0, 1) := by decide +kernel
theorem dX2_homeSet_1 : decode cX2_homeSet 1 = .ok (.istore_n 1, 1) := by decide +kernel
theorem dX2_homeSet_2 : decode cX2_homeSet 2 = .ok (.iconst 0, 1) := by decide +kernel
theorem dX2_homeSet_3 : decode cX2_homeSet 3 = .ok (.istore_n 2, 1) := by decide +kernel
theorem dX2_homeSet_4 : decode cX2_homeSet 4 = .ok (.iload_n 2, 1) := by decide +kernel
theorem dX2_homeSet_5 : decode cX2_homeSet 5 = .ok (.aload_n 0, 1) := by decide +kernel
theorem dX2_homeSet_6 : decode cX2_homeSet 6 = .ok (.getfield 24, 3) := by decide +kernel
theorem dX2_homeSet_9 : decode cX2_homeSet 9 = .ok (.if_icmp .ge 27, 3) := by decide +kernel
theorem dX2_homeSet_12 : decode cX2_homeSet 12 = .ok (.aload_n 0, 1) := by decide +kernel
theorem dX2_homeSet_13 : decode cX2_homeSet 13 = .ok (.getfield 17, 3) := by decide +kernel
theorem dX2_homeSet_16 : decode cX2_homeSet 16 = .ok (.iload_n 2, 1) := by decide +kernel
theorem dX2_homeSet_17 : decode cX2_homeSet 17 = .ok (.aaload, 1) := by decide +kernel
theorem dX2_homeSet_18 : decode cX2_homeSet 18 = .ok (.invokevirtual 59, 3) := by decide +kernel
theorem dX2_homeSet_21 : decode cX2_homeSet 21 = .ok (.ifCond .eq 9, 3) := by decide +kernel
theorem dX2_homeSet_24 : decode cX2_homeSet 24 = .ok (.iload_n 1, 1) := by decide +kernel
theorem dX2_homeSet_25 : decode cX2_homeSet 25 = .ok (.iconst 1, 1) := by decide +kernel
theorem dX2_homeSet_26 : decode cX2_homeSet 26 = .ok (.iload_n 2, 1) := by decide +kernel
theorem dX2_homeSet_27 : decode cX2_homeSet 27 = .ok (.ishl, 1) := by decide +kernel
theorem dX2_homeSet_28 : decode cX2_homeSet 28 = .ok (.ior, 1) := by decide +kernel
theorem dX2_homeSet_29 : decode cX2_homeSet 29 = .ok (.istore_n 1, 1) := by decide +kernel
theorem dX2_homeSet_30 : decode cX2_homeSet 30 = .ok (.iinc 2 1, 3) := by decide +kernel
theorem dX2_homeSet_33 : decode cX2_homeSet 33 = .ok (.goto (-29), 3) := by decide +kernel
theorem dX2_homeSet_36 : decode cX2_homeSet 36 = .ok (.iload_n 1, 1) := by decide +kernel
theorem dX2_homeSet_37 : decode cX2_homeSet 37 = .ok (.ireturn, 1) := by decide +kernel
theorem dX2_leastInTime_0 : decode cX2_leastInTime 0 = .ok (.iconst 0, 1) := by decide +kernel
theorem dX2_leastInTime_1 : decode cX2_leastInTime 1 = .ok (.istore_n 1, 1) := by decide +kernel
theorem dX2_leastInTime_2 : decode cX2_leastInTime 2 = .ok (.iconst 1, 1) := by decide +kernel
theorem dX2_leastInTime_3 : decode cX2_leastInTime 3 = .ok (.istore_n 2, 1) := by decide +kernel
theorem dX2_leastInTime_4 : decode cX2_leastInTime 4 = .ok (.iload_n 2, 1) := by decide +kernel
theorem dX2_leastInTime_5 : decode cX2_leastInTime 5 = .ok (.aload_n 0, 1) := by decide +kernel
theorem dX2_leastInTime_6 : decode cX2_leastInTime 6 = .ok (.getfield 24, 3) := by decide +kernel
theorem dX2_leastInTime_9 : decode cX2_leastInTime 9 = .ok (.if_icmp .ge 32, 3) := by decide +kernel
theorem dX2_leastInTime_12 : decode cX2_leastInTime 12 = .ok (.aload_n 0, 1) := by decide +kernel
theorem dX2_leastInTime_13 : decode cX2_leastInTime 13 = .ok (.getfield 17, 3) := by decide +kernel
theorem dX2_leastInTime_16 : decode cX2_leastInTime 16 = .ok (.iload_n 2, 1) := by decide +kernel
theorem dX2_leastInTime_17 : decode cX2_leastInTime 17 = .ok (.aaload, 1) := by decide +kernel
theorem dX2_leastInTime_18 : decode cX2_leastInTime 18 = .ok (.getfield 99, 3) := by decide +kernel
theorem dX2_leastInTime_21 : decode cX2_leastInTime 21 = .ok (.aload_n 0, 1) := by decide +kernel
theorem dX2_leastInTime_22 : decode cX2_leastInTime 22 = .ok (.getfield 17, 3) := by decide +kernel
theorem dX2_leastInTime_25 : decode cX2_leastInTime 25 = .ok (.iload_n 1, 1) := by decide +kernel
theorem dX2_leastInTime_26 : decode cX2_leastInTime 26 = .ok (.aaload, 1) := by decide +kernel
theorem dX2_leastInTime_27 : decode cX2_leastInTime 27 = .ok (.getfield 99, 3) := by decide +kernel
theorem dX2_leastInTime_30 : decode cX2_leastInTime 30 = .ok (.if_icmp .ge 5, 3) := by decide +kernel
theorem dX2_leastInTime_33 : decode cX2_leastInTime 33 = .ok (.iload_n 2, 1) := by decide +kernel
theorem dX2_leastInTime_34 : decode cX2_leastInTime 34 = .ok (.istore_n 1, 1) := by decide +kernel
theorem dX2_leastInTime_35 : decode cX2_leastInTime 35 = .ok (.iinc 2 1, 3) := by decide +kernel
theorem dX2_leastInTime_38 : decode cX2_leastInTime 38 = .ok (.goto (-34), 3) := by decide +kernel
theorem dX2_leastInTime_41 : decode cX2_leastInTime 41 = .ok (.iload_n 1, 1) := by decide +kernel
theorem dX2_leastInTime_42 : decode cX2_leastInTime 42 = .ok (.ireturn, 1) := by decide +kernel
theorem dX2_placeOf_0 : decode cX2_placeOf 0 = .ok (.aload_n 0, 1) := by decide +kernel
theorem dX2_placeOf_1 : decode cX2_placeOf 1 = .ok (.getfield 17, 3) := by decide +kernel
theorem dX2_placeOf_4 : decode cX2_placeOf 4 = .ok (.iload_n 1, 1) := by decide +kernel
theorem dX2_placeOf_5 : decode cX2_placeOf 5 = .ok (.aaload, 1) := by decide +kernel
theorem dX2_placeOf_6 : decode cX2_placeOf 6 = .ok (.getfield 99, 3) := by decide +kernel
theorem dX2_placeOf_9 : decode cX2_placeOf 9 = .ok (.istore_n 2, 1) := by decide +kernel
theorem dX2_placeOf_10 : decode cX2_placeOf 10 = .ok (.iconst 1, 1) := by decide +kernel
theorem dX2_placeOf_11 : decode cX2_placeOf 11 = .ok (.istore_n 3, 1) := by decide +kernel
theorem dX2_placeOf_12 : decode cX2_placeOf 12 = .ok (.iconst 0, 1) := by decide +kernel
theorem dX2_placeOf_13 : decode cX2_placeOf 13 = .ok (.istore 4, 2) := by decide +kernel
theorem dX2_placeOf_15 : decode cX2_placeOf 15 = .ok (.iload 4, 2) := by decide +kernel
theorem dX2_placeOf_17 : decode cX2_placeOf 17 = .ok (.aload_n 0, 1) := by decide +kernel
theorem dX2_placeOf_18 : decode cX2_placeOf 18 = .ok (.getfield 24, 3) := by decide +kernel
theorem dX2_placeOf_21 : decode cX2_placeOf 21 = .ok (.if_icmp .ge 42, 3) := by decide +kernel
theorem dX2_placeOf_24 : decode cX2_placeOf 24 = .ok (.aload_n 0, 1) := by decide +kernel
theorem dX2_placeOf_25 : decode cX2_placeOf 25 = .ok (.getfield 17, 3) := by decide +kernel
theorem dX2_placeOf_28 : decode cX2_placeOf 28 = .ok (.iload 4, 2) := by decide +kernel
theorem dX2_placeOf_30 : decode cX2_placeOf 30 = .ok (.aaload, 1) := by decide +kernel
theorem dX2_placeOf_31 : decode cX2_placeOf 31 = .ok (.getfield 99, 3) := by decide +kernel
theorem dX2_placeOf_34 : decode cX2_placeOf 34 = .ok (.istore 5, 2) := by decide +kernel
theorem dX2_placeOf_36 : decode cX2_placeOf 36 = .ok (.iload 5, 2) := by decide +kernel
theorem dX2_placeOf_38 : decode cX2_placeOf 38 = .ok (.iload_n 2, 1) := by decide +kernel
theorem dX2_placeOf_39 : decode cX2_placeOf 39 = .ok (.if_icmp .lt 15, 3) := by decide +kernel
theorem dX2_placeOf_42 : decode cX2_placeOf 42 = .ok (.iload 5, 2) := by decide +kernel
theorem dX2_placeOf_44 : decode cX2_placeOf 44 = .ok (.iload_n 2, 1) := by decide +kernel
theorem dX2_placeOf_45 : decode cX2_placeOf 45 = .ok (.if_icmp .ne 12, 3) := by decide +kernel
theorem dX2_placeOf_48 : decode cX2_placeOf 48 = .ok (.iload 4, 2) := by decide +kernel
theorem dX2_placeOf_50 : decode cX2_placeOf 50 = .ok (.iload_n 1, 1) := by decide +kernel
theorem dX2_placeOf_51 : decode cX2_placeOf 51 = .ok (.if_icmp .ge 6, 3) := by decide +kernel
theorem dX2_placeOf_54 : decode cX2_placeOf 54 = .ok (.iinc 3 1, 3) := by decide +kernel
theorem dX2_placeOf_57 : decode cX2_placeOf 57 = .ok (.iinc 4 1, 3) := by decide +kernel
theorem dX2_placeOf_60 : decode cX2_placeOf 60 = .ok (.goto (-45), 3) := by decide +kernel
theorem dX2_placeOf_63 : decode cX2_placeOf 63 = .ok (.iload_n 3, 1) := by decide +kernel
theorem dX2_placeOf_64 : decode cX2_placeOf 64 = .ok (.ireturn, 1) := by decide +kernel
theorem dX2_countDrops_0 : decode cX2_countDrops 0 = .ok (.iconst 0, 1) := by decide +kernel
theorem dX2_countDrops_1 : decode cX2_countDrops 1 = .ok (.istore_n 1, 1) := by decide +kernel
theorem dX2_countDrops_2 : decode cX2_countDrops 2 = .ok (.iconst 0, 1) := by decide +kernel
theorem dX2_countDrops_3 : decode cX2_countDrops 3 = .ok (.istore_n 2, 1) := by decide +kernel
theorem dX2_countDrops_4 : decode cX2_countDrops 4 = .ok (.iload_n 2, 1) := by decide +kernel
theorem dX2_countDrops_5 : decode cX2_countDrops 5 = .ok (.aload_n 0, 1) := by decide +kernel
theorem dX2_countDrops_6 : decode cX2_countDrops 6 = .ok (.getfield 24, 3) := by decide +kernel
theorem dX2_countDrops_9 : decode cX2_countDrops 9 = .ok (.if_icmp .ge 21, 3) := by decide +kernel
theorem dX2_countDrops_12 : decode cX2_countDrops 12 = .ok (.iload_n 1, 1) := by decide +kernel
theorem dX2_countDrops_13 : decode cX2_countDrops 13 = .ok (.aload_n 0, 1) := by decide +kernel
theorem dX2_countDrops_14 : decode cX2_countDrops 14 = .ok (.getfield 17, 3) := by decide +kernel
theorem dX2_countDrops_17 : decode cX2_countDrops 17 = .ok (.iload_n 2, 1) := by decide +kernel
theorem dX2_countDrops_18 : decode cX2_countDrops 18 = .ok (.aaload, 1) := by decide +kernel
theorem dX2_countDrops_19 : decode cX2_countDrops 19 = .ok (.getfield 111, 3) := by decide +kernel
theorem dX2_countDrops_22 : decode cX2_countDrops 22 = .ok (.iadd, 1) := by decide +kernel
theorem dX2_countDrops_23 : decode cX2_countDrops 23 = .ok (.istore_n 1, 1) := by decide +kernel
theorem dX2_countDrops_24 : decode cX2_countDrops 24 = .ok (.iinc 2 1, 3) := by decide +kernel
theorem dX2_countDrops_27 : decode cX2_countDrops 27 = .ok (.goto (-23), 3) := by decide +kernel
theorem dX2_countDrops_30 : decode cX2_countDrops 30 = .ok (.iload_n 1, 1) := by decide +kernel
theorem dX2_countDrops_31 : decode cX2_countDrops 31 = .ok (.ireturn, 1) := by decide +kernel
theorem dX2_countGrass_0 : decode cX2_countGrass 0 = .ok (.iconst 0, 1) := by decide +kernel
theorem dX2_countGrass_1 : decode cX2_countGrass 1 = .ok (.istore_n 1, 1) := by decide +kernel
theorem dX2_countGrass_2 : decode cX2_countGrass 2 = .ok (.iconst 0, 1) := by decide +kernel
theorem dX2_countGrass_3 : decode cX2_countGrass 3 = .ok (.istore_n 2, 1) := by decide +kernel
theorem dX2_countGrass_4 : decode cX2_countGrass 4 = .ok (.iload_n 2, 1) := by decide +kernel
theorem dX2_countGrass_5 : decode cX2_countGrass 5 = .ok (.bipush 30, 2) := by decide +kernel
theorem dX2_countGrass_7 : decode cX2_countGrass 7 = .ok (.if_icmp .ge 26, 3) := by decide +kernel
theorem dX2_countGrass_10 : decode cX2_countGrass 10 = .ok (.iload_n 1, 1) := by decide +kernel
theorem dX2_countGrass_11 : decode cX2_countGrass 11 = .ok (.aload_n 0, 1) := by decide +kernel
theorem dX2_countGrass_12 : decode cX2_countGrass 12 = .ok (.getfield 9, 3) := by decide +kernel
theorem dX2_countGrass_15 : decode cX2_countGrass 15 = .ok (.iload_n 2, 1) := by decide +kernel
theorem dX2_countGrass_16 : decode cX2_countGrass 16 = .ok (.iaload, 1) := by decide +kernel
theorem dX2_countGrass_17 : decode cX2_countGrass 17 = .ok (.ifCond .ne 7, 3) := by decide +kernel
theorem dX2_countGrass_20 : decode cX2_countGrass 20 = .ok (.iconst 1, 1) := by decide +kernel
theorem dX2_countGrass_21 : decode cX2_countGrass 21 = .ok (.goto 4, 3) := by decide +kernel
theorem dX2_countGrass_24 : decode cX2_countGrass 24 = .ok (.iconst 0, 1) := by decide +kernel
theorem dX2_countGrass_25 : decode cX2_countGrass 25 = .ok (.iadd, 1) := by decide +kernel
theorem dX2_countGrass_26 : decode cX2_countGrass 26 = .ok (.istore_n 1, 1) := by decide +kernel
theorem dX2_countGrass_27 : decode cX2_countGrass 27 = .ok (.iinc 2 1, 3) := by decide +kernel
theorem dX2_countGrass_30 : decode cX2_countGrass 30 = .ok (.goto (-26), 3) := by decide +kernel
theorem dX2_countGrass_33 : decode cX2_countGrass 33 = .ok (.iload_n 1, 1) := by decide +kernel
theorem dX2_countGrass_34 : decode cX2_countGrass 34 = .ok (.ireturn, 1) := by decide +kernel
theorem dX2_countHolding_0 : decode cX2_countHolding 0 = .ok (.iconst 0, 1) := by decide +kernel
theorem dX2_countHolding_1 : decode cX2_countHolding 1 = .ok (.istore_n 1, 1) := by decide +kernel
theorem dX2_countHolding_2 : decode cX2_countHolding 2 = .ok (.iconst 0, 1) := by decide +kernel
theorem dX2_countHolding_3 : decode cX2_countHolding 3 = .ok (.istore_n 2, 1) := by decide +kernel
theorem dX2_countHolding_4 : decode cX2_countHolding 4 = .ok (.iload_n 2, 1) := by decide +kernel
theorem dX2_countHolding_5 : decode cX2_countHolding 5 = .ok (.bipush 10, 2) := by decide +kernel
theorem dX2_countHolding_7 : decode cX2_countHolding 7 = .ok (.if_icmp .ge 26, 3) := by decide +kernel
theorem dX2_countHolding_10 : decode cX2_countHolding 10 = .ok (.iload_n 1, 1) := by decide +kernel
theorem dX2_countHolding_11 : decode cX2_countHolding 11 = .ok (.aload_n 0, 1) := by decide +kernel
theorem dX2_countHolding_12 : decode cX2_countHolding 12 = .ok (.getfield 21, 3) := by decide +kernel
theorem dX2_countHolding_15 : decode cX2_countHolding 15 = .ok (.iload_n 2, 1) := by decide +kernel
theorem dX2_countHolding_16 : decode cX2_countHolding 16 = .ok (.iaload, 1) := by decide +kernel
theorem dX2_countHolding_17 : decode cX2_countHolding 17 = .ok (.ifCond .lt 7, 3) := by decide +kernel
theorem dX2_countHolding_20 : decode cX2_countHolding 20 = .ok (.iconst 1, 1) := by decide +kernel
theorem dX2_countHolding_21 : decode cX2_countHolding 21 = .ok (.goto 4, 3) := by decide +kernel
theorem dX2_countHolding_24 : decode cX2_countHolding 24 = .ok (.iconst 0, 1) := by decide +kernel
theorem dX2_countHolding_25 : decode cX2_countHolding 25 = .ok (.iadd, 1) := by decide +kernel
theorem dX2_countHolding_26 : decode cX2_countHolding 26 = .ok (.istore_n 1, 1) := by decide +kernel
theorem dX2_countHolding_27 : decode cX2_countHolding 27 = .ok (.iinc 2 1, 3) := by decide +kernel
theorem dX2_countHolding_30 : decode cX2_countHolding 30 = .ok (.goto (-26), 3) := by decide +kernel
theorem dX2_countHolding_33 : decode cX2_countHolding 33 = .ok (.iload_n 1, 1) := by decide +kernel
theorem dX2_countHolding_34 : decode cX2_countHolding 34 = .ok (.ireturn, 1) := by decide +kernel
theorem dX3_init_0 : decode cX3_init 0 = .ok (.aload_n 0, 1) := by decide +kernel
theorem dX3_init_1 : decode cX3_init 1 = .ok (.invokespecial 3, 3) := by decide +kernel
theorem dX3_init_4 : decode cX3_init 4 = .ok (.aload_n 0, 1) := by decide +kernel
theorem dX3_init_5 : decode cX3_init 5 = .ok (.new 9, 3) := by decide +kernel
theorem dX3_init_8 : decode cX3_init 8 = .ok (.dup, 1) := by decide +kernel
theorem dX3_init_9 : decode cX3_init 9 = .ok (.invokespecial 11, 3) := by decide +kernel
theorem dX3_init_12 : decode cX3_init 12 = .ok (.putfield 12, 3) := by decide +kernel
theorem dX3_init_15 : decode cX3_init 15 = .ok (.return_, 1) := by decide +kernel
theorem dX3_readInto_0 : decode cX3_readInto 0 = .ok (.aload_n 0, 1) := by decide +kernel
theorem dX3_readInto_1 : decode cX3_readInto 1 = .ok (.getfield 12, 3) := by decide +kernel
theorem dX3_readInto_4 : decode cX3_readInto 4 = .ok (.invokevirtual 18, 3) := by decide +kernel
theorem dX3_readInto_7 : decode cX3_readInto 7 = .ok (.iconst 1, 1) := by decide +kernel
theorem dX3_readInto_8 : decode cX3_readInto 8 = .ok (.istore_n 2, 1) := by decide +kernel
theorem dX3_readInto_9 : decode cX3_readInto 9 = .ok (.iload_n 2, 1) := by decide +kernel
theorem dX3_readInto_10 : decode cX3_readInto 10 = .ok (.bipush 120, 2) := by decide +kernel
theorem dX3_readInto_12 : decode cX3_readInto 12 = .ok (.if_icmp .gt 50, 3) := by decide +kernel
theorem dX3_readInto_15 : decode cX3_readInto 15 = .ok (.aload_n 0, 1) := by decide +kernel
theorem dX3_readInto_16 : decode cX3_readInto 16 = .ok (.aload_n 1, 1) := by decide +kernel
theorem dX3_readInto_17 : decode cX3_readInto 17 = .ok (.invokevirtual 21, 3) := by decide +kernel
theorem dX3_readInto_20 : decode cX3_readInto 20 = .ok (.ifCond .eq 42, 3) := by decide +kernel
theorem dX3_readInto_23 : decode cX3_readInto 23 = .ok (.aload_n 0, 1) := by decide +kernel
theorem dX3_readInto_24 : decode cX3_readInto 24 = .ok (.getfield 12, 3) := by decide +kernel
theorem dX3_readInto_27 : decode cX3_readInto 27 = .ok (.getfield 25, 3) := by decide +kernel
theorem dX3_readInto_30 : decode cX3_readInto 30 = .ok (.ifCond .ne 5, 3) := by decide +kernel
theorem dX3_readInto_33 : decode cX3_readInto 33 = .ok (.iload_n 2, 1) := by decide +kernel
theorem dX3_readInto_34 : decode cX3_readInto 34 = .ok (.ireturn, 1) := by decide +kernel
theorem dX3_readInto_35 : decode cX3_readInto 35 = .ok (.aload_n 0, 1) := by decide +kernel
theorem dX3_readInto_36 : decode cX3_readInto 36 = .ok (.getfield 12, 3) := by decide +kernel
theorem dX3_readInto_39 : decode cX3_readInto 39 = .ok (.getfield 25, 3) := by decide +kernel
theorem dX3_readInto_42 : decode cX3_readInto 42 = .ok (.iconst 3, 1) := by decide +kernel
theorem dX3_readInto_43 : decode cX3_readInto 43 = .ok (.if_icmp .eq 6, 3) := by decide +kernel
theorem dX3_readInto_46 : decode cX3_readInto 46 = .ok (.goto 16, 3) := by decide +kernel
theorem dX3_readInto_49 : decode cX3_readInto 49 = .ok (.aload_n 0, 1) := by decide +kernel
theorem dX3_readInto_50 : decode cX3_readInto 50 = .ok (.getfield 12, 3) := by decide +kernel
theorem dX3_readInto_53 : decode cX3_readInto 53 = .ok (.invokevirtual 29, 3) := by decide +kernel
theorem dX3_readInto_56 : decode cX3_readInto 56 = .ok (.iinc 2 1, 3) := by decide +kernel
theorem dX3_readInto_59 : decode cX3_readInto 59 = .ok (.goto (-50), 3) := by decide +kernel
theorem dX3_readInto_62 : decode cX3_readInto 62 = .ok (.iconst (-1), 1) := by decide +kernel
theorem dX3_readInto_63 : decode cX3_readInto 63 = .ok (.aload_n 0, 1) := by decide +kernel
theorem dX3_readInto_64 : decode cX3_readInto 64 = .ok (.getfield 12, 3) := by decide +kernel
theorem dX3_readInto_67 : decode cX3_readInto 67 = .ok (.getfield 32, 3) := by decide +kernel
theorem dX3_readInto_70 : decode cX3_readInto 70 = .ok (.isub, 1) := by decide +kernel
theorem dX3_readInto_71 : decode cX3_readInto 71 = .ok (.ireturn, 1) := by decide +kernel
theorem dX3_readItem_0 : decode cX3_readItem 0 = .ok (.aload_n 0, 1) := by decide +kernel
theorem dX3_readItem_1 : decode cX3_readItem 1 = .ok (.invokevirtual 35, 3) := by decide +kernel
theorem dX3_readItem_4 : decode cX3_readItem 4 = .ok (.istore_n 2, 1) := by decide +kernel
theorem dX3_readItem_5 : decode cX3_readItem 5 = .ok (.iload_n 2, 1) := by decide +kernel
theorem dX3_readItem_6 : decode cX3_readItem 6 = .ok (.ifCond .lt 10, 3) := by decide +kernel
theorem dX3_readItem_9 : decode cX3_readItem 9 = .ok (.aload_n 0, 1) := by decide +kernel
theorem dX3_readItem_10 : decode cX3_readItem 10 = .ok (.aload_n 1, 1) := by decide +kernel
theorem dX3_readItem_11 : decode cX3_readItem 11 = .ok (.iload_n 2, 1) := by decide +kernel
theorem dX3_readItem_12 : decode cX3_readItem 12 = .ok (.invokevirtual 39, 3) := by decide +kernel
theorem dX3_readItem_15 : decode cX3_readItem 15 = .ok (.ireturn, 1) := by decide +kernel
theorem dX3_readItem_16 : decode cX3_readItem 16 = .ok (.aload_n 0, 1) := by decide +kernel
theorem dX3_readItem_17 : decode cX3_readItem 17 = .ok (.getfield 12, 3) := by decide +kernel
theorem dX3_readItem_20 : decode cX3_readItem 20 = .ok (.ldc 43, 2) := by decide +kernel
theorem dX3_readItem_22 : decode cX3_readItem 22 = .ok (.invokevirtual 45, 3) := by decide +kernel
theorem dX3_readItem_25 : decode cX3_readItem 25 = .ok (.ifCond .eq 9, 3) := by decide +kernel
theorem dX3_readItem_28 : decode cX3_readItem 28 = .ok (.aload_n 0, 1) := by decide +kernel
theorem dX3_readItem_29 : decode cX3_readItem 29 = .ok (.aload_n 1, 1) := by decide +kernel
theorem dX3_readItem_30 : decode cX3_readItem 30 = .ok (.invokevirtual 49, 3) := by decide +kernel
theorem dX3_readItem_33 : decode cX3_readItem 33 = .ok (.ireturn, 1) := by decide +kernel
theorem dX3_readItem_34 : decode cX3_readItem 34 = .ok (.aload_n 0, 1) := by decide +kernel
theorem dX3_readItem_35 : decode cX3_readItem 35 = .ok (.invokevirtual 52, 3) := by decide +kernel
theorem dX3_readItem_38 : decode cX3_readItem 38 = .ok (.istore_n 3, 1) := by decide +kernel
theorem dX3_readItem_39 : decode cX3_readItem 39 = .ok (.iload_n 3, 1) := by decide +kernel
theorem dX3_readItem_40 : decode cX3_readItem 40 = .ok (.ifCond .lt 25, 3) := by decide +kernel
theorem dX3_readItem_43 : decode cX3_readItem 43 = .ok (.aload_n 1, 1) := by decide +kernel
theorem dX3_readItem_44 : decode cX3_readItem 44 = .ok (.getfield 55, 3) := by decide +kernel
theorem dX3_readItem_47 : decode cX3_readItem 47 = .ok (.bipush 6, 2) := by decide +kernel
theorem dX3_readItem_49 : decode cX3_readItem 49 = .ok (.if_icmp .ge 16, 3) := by decide +kernel
theorem dX3_readItem_52 : decode cX3_readItem 52 = .ok (.aload_n 0, 1) := by decide +kernel
theorem dX3_readItem_53 : decode cX3_readItem 53 = .ok (.aload_n 1, 1) := by decide +kernel
theorem dX3_readItem_54 : decode cX3_readItem 54 = .ok (.iload_n 3, 1) := by decide +kernel
theorem dX3_readItem_55 : decode cX3_readItem 55 = .ok (.invokevirtual 60, 3) := by decide +kernel
theorem dX3_readItem_58 : decode cX3_readItem 58 = .ok (.ifCond .eq 7, 3) := by decide +kernel
theorem dX3_readItem_61 : decode cX3_readItem 61 = .ok (.iconst 1, 1) := by decide +kernel
theorem dX3_readItem_62 : decode cX3_readItem 62 = .ok (.goto 4, 3) := by decide +kernel
theorem dX3_readItem_65 : decode cX3_readItem 65 = .ok (.iconst 0, 1) := by decide +kernel
theorem dX3_readItem_66 : decode cX3_readItem 66 = .ok (.ireturn, 1) := by decide +kernel
theorem dX3_readGround_0 : decode cX3_readGround 0 = .ok (.aload_n 0, 1) := by decide +kernel
theorem dX3_readGround_1 : decode cX3_readGround 1 = .ok (.iconst 0, 1) := by decide +kernel
theorem dX3_readGround_2 : decode cX3_readGround 2 = .ok (.bipush 29, 2) := by decide +kernel
theorem dX3_readGround_4 : decode cX3_readGround 4 = .ok (.invokevirtual 63, 3) := by decide +kernel
theorem dX3_readGround_7 : decode cX3_readGround 7 = .ok (.istore_n 3, 1) := by decide +kernel
theorem dX3_readGround_8 : decode cX3_readGround 8 = .ok (.iload_n 3, 1) := by decide +kernel
theorem dX3_readGround_9 : decode cX3_readGround 9 = .ok (.iconst (-1), 1) := by decide +kernel
theorem dX3_readGround_10 : decode cX3_readGround 10 = .ok (.if_icmp .ne 5, 3) := by decide +kernel
theorem dX3_readGround_13 : decode cX3_readGround 13 = .ok (.iconst 0, 1) := by decide +kernel
theorem dX3_readGround_14 : decode cX3_readGround 14 = .ok (.ireturn, 1) := by decide +kernel
theorem dX3_readGround_15 : decode cX3_readGround 15 = .ok (.aload_n 0, 1) := by decide +kernel
theorem dX3_readGround_16 : decode cX3_readGround 16 = .ok (.ldc 67, 2) := by decide +kernel
theorem dX3_readGround_18 : decode cX3_readGround 18 = .ok (.iload_n 3, 1) := by decide +kernel
theorem dX3_readGround_19 : decode cX3_readGround 19 = .ok (.iload_n 3, 1) := by decide +kernel
theorem dX3_readGround_20 : decode cX3_readGround 20 = .ok (.bipush 29, 2) := by decide +kernel
theorem dX3_readGround_22 : decode cX3_readGround 22 = .ok (.invokevirtual 69, 3) := by decide +kernel
theorem dX3_readGround_25 : decode cX3_readGround 25 = .ok (.istore 4, 2) := by decide +kernel
theorem dX3_readGround_27 : decode cX3_readGround 27 = .ok (.iload 4, 2) := by decide +kernel
theorem dX3_readGround_29 : decode cX3_readGround 29 = .ok (.iconst (-1), 1) := by decide +kernel
theorem dX3_readGround_30 : decode cX3_readGround 30 = .ok (.if_icmp .ne 5, 3) := by decide +kernel
theorem dX3_readGround_33 : decode cX3_readGround 33 = .ok (.iconst 0, 1) := by decide +kernel
theorem dX3_readGround_34 : decode cX3_readGround 34 = .ok (.ireturn, 1) := by decide +kernel
theorem dX3_readGround_35 : decode cX3_readGround 35 = .ok (.iload_n 3, 1) := by decide +kernel
theorem dX3_readGround_36 : decode cX3_readGround 36 = .ok (.istore 5, 2) := by decide +kernel
theorem dX3_readGround_38 : decode cX3_readGround 38 = .ok (.iload 5, 2) := by decide +kernel
theorem dX3_readGround_40 : decode cX3_readGround 40 = .ok (.iload 4, 2) := by decide +kernel
theorem dX3_readGround_42 : decode cX3_readGround 42 = .ok (.if_icmp .gt 17, 3) := by decide +kernel
theorem dX3_readGround_45 : decode cX3_readGround 45 = .ok (.aload_n 1, 1) := by decide +kernel
theorem dX3_readGround_46 : decode cX3_readGround 46 = .ok (.getfield 73, 3) := by decide +kernel
theorem dX3_readGround_49 : decode cX3_readGround 49 = .ok (.iload 5, 2) := by decide +kernel
theorem dX3_readGround_51 : decode cX3_readGround 51 = .ok (.iload_n 2, 1) := by decide +kernel
theorem dX3_readGround_52 : decode cX3_readGround 52 = .ok (.iastore, 1) := by decide +kernel
theorem dX3_readGround_53 : decode cX3_readGround 53 = .ok (.iinc 5 1, 3) := by decide +kernel
theorem dX3_readGround_56 : decode cX3_readGround 56 = .ok (.goto (-18), 3) := by decide +kernel
theorem dX3_readGround_59 : decode cX3_readGround 59 = .ok (.iconst 1, 1) := by decide +kernel
theorem dX3_readGround_60 : decode cX3_readGround 60 = .ok (.ireturn, 1) := by decide +kernel
theorem dX3_readPick_0 : decode cX3_readPick 0 = .ok (.aload_n 0, 1) := by decide +kernel
theorem dX3_readPick_1 : decode cX3_readPick 1 = .ok (.iconst 0, 1) := by decide +kernel
theorem dX3_readPick_2 : decode cX3_readPick 2 = .ok (.bipush 99, 2) := by decide +kernel
theorem dX3_readPick_4 : decode cX3_readPick 4 = .ok (.invokevirtual 63, 3) := by decide +kernel
theorem dX3_readPick_7 : decode cX3_readPick 7 = .ok (.istore_n 2, 1) := by decide +kernel
theorem dX3_readPick_8 : decode cX3_readPick 8 = .ok (.iload_n 2, 1) := by decide +kernel
theorem dX3_readPick_9 : decode cX3_readPick 9 = .ok (.iconst (-1), 1) := by decide +kernel
theorem dX3_readPick_10 : decode cX3_readPick 10 = .ok (.if_icmp .ne 5, 3) := by decide +kernel
theorem dX3_readPick_13 : decode cX3_readPick 13 = .ok (.iconst 0, 1) := by decide +kernel
theorem dX3_readPick_14 : decode cX3_readPick 14 = .ok (.ireturn, 1) := by decide +kernel
theorem dX3_readPick_15 : decode cX3_readPick 15 = .ok (.aload_n 1, 1) := by decide +kernel
theorem dX3_readPick_16 : decode cX3_readPick 16 = .ok (.iload_n 2, 1) := by decide +kernel
theorem dX3_readPick_17 : decode cX3_readPick 17 = .ok (.putfield 77, 3) := by decide +kernel
theorem dX3_readPick_20 : decode cX3_readPick 20 = .ok (.iconst 1, 1) := by decide +kernel
theorem dX3_readPick_21 : decode cX3_readPick 21 = .ok (.ireturn, 1) := by decide +kernel
theorem dX3_readRunner_0 : decode cX3_readRunner 0 = .ok (.aload_n 0, 1) := by decide +kernel
theorem dX3_readRunner_1 : decode cX3_readRunner 1 = .ok (.getfield 12, 3) := by decide +kernel
theorem dX3_readRunner_4 : decode cX3_readRunner 4 = .ok (.invokevirtual 29, 3) := by decide +kernel
theorem dX3_readRunner_7 : decode cX3_readRunner 7 = .ok (.aload_n 0, 1) := by decide +kernel
theorem dX3_readRunner_8 : decode cX3_readRunner 8 = .ok (.ldc 80, 2) := by decide +kernel
theorem dX3_readRunner_10 : decode cX3_readRunner 10 = .ok (.iconst 4, 1) := by decide +kernel
theorem dX3_readRunner_11 : decode cX3_readRunner 11 = .ok (.iconst 0, 1) := by decide +kernel
theorem dX3_readRunner_12 : decode cX3_readRunner 12 = .ok (.bipush 9, 2) := by decide +kernel
theorem dX3_readRunner_14 : decode cX3_readRunner 14 = .ok (.invokevirtual 69, 3) := by decide +kernel
theorem dX3_readRunner_17 : decode cX3_readRunner 17 = .ok (.istore_n 3, 1) := by decide +kernel
theorem dX3_readRunner_18 : decode cX3_readRunner 18 = .ok (.iload_n 3, 1) := by decide +kernel
theorem dX3_readRunner_19 : decode cX3_readRunner 19 = .ok (.iconst (-1), 1) := by decide +kernel
theorem dX3_readRunner_20 : decode cX3_readRunner 20 = .ok (.if_icmp .ne 5, 3) := by decide +kernel
theorem dX3_readRunner_23 : decode cX3_readRunner 23 = .ok (.iconst 0, 1) := by decide +kernel
theorem dX3_readRunner_24 : decode cX3_readRunner 24 = .ok (.ireturn, 1) := by decide +kernel
theorem dX3_readRunner_25 : decode cX3_readRunner 25 = .ok (.aload_n 0, 1) := by decide +kernel
theorem dX3_readRunner_26 : decode cX3_readRunner 26 = .ok (.ldc 82, 2) := by decide +kernel
theorem dX3_readRunner_28 : decode cX3_readRunner 28 = .ok (.iconst 1, 1) := by decide +kernel
theorem dX3_readRunner_29 : decode cX3_readRunner 29 = .ok (.iconst 0, 1) := by decide +kernel
theorem dX3_readRunner_30 : decode cX3_readRunner 30 = .ok (.iconst 5, 1) := by decide +kernel
theorem dX3_readRunner_31 : decode cX3_readRunner 31 = .ok (.invokevirtual 69, 3) := by decide +kernel
theorem dX3_readRunner_34 : decode cX3_readRunner 34 = .ok (.istore 4, 2) := by decide +kernel
theorem dX3_readRunner_36 : decode cX3_readRunner 36 = .ok (.iload 4, 2) := by decide +kernel
theorem dX3_readRunner_38 : decode cX3_readRunner 38 = .ok (.iconst (-1), 1) := by decide +kernel
theorem dX3_readRunner_39 : decode cX3_readRunner 39 = .ok (.if_icmp .ne 5, 3) := by decide +kernel
theorem dX3_readRunner_42 : decode cX3_readRunner 42 = .ok (.iconst 0, 1) := by decide +kernel
theorem dX3_readRunner_43 : decode cX3_readRunner 43 = .ok (.ireturn, 1) := by decide +kernel
theorem dX3_readRunner_44 : decode cX3_readRunner 44 = .ok (.aload_n 0, 1) := by decide +kernel
theorem dX3_readRunner_45 : decode cX3_readRunner 45 = .ok (.ldc 84, 2) := by decide +kernel
theorem dX3_readRunner_47 : decode cX3_readRunner 47 = .ok (.iconst 4, 1) := by decide +kernel
theorem dX3_readRunner_48 : decode cX3_readRunner 48 = .ok (.iconst 1, 1) := by decide +kernel
theorem dX3_readRunner_49 : decode cX3_readRunner 49 = .ok (.bipush 9, 2) := by decide +kernel
theorem dX3_readRunner_51 : decode cX3_readRunner 51 = .ok (.invokevirtual 69, 3) := by decide +kernel
theorem dX3_readRunner_54 : decode cX3_readRunner 54 = .ok (.istore 5, 2) := by decide +kernel
theorem dX3_readRunner_56 : decode cX3_readRunner 56 = .ok (.iload 5, 2) := by decide +kernel
theorem dX3_readRunner_58 : decode cX3_readRunner 58 = .ok (.iconst (-1), 1) := by decide +kernel
theorem dX3_readRunner_59 : decode cX3_readRunner 59 = .ok (.if_icmp .ne 5, 3) := by decide +kernel
theorem dX3_readRunner_62 : decode cX3_readRunner 62 = .ok (.iconst 0, 1) := by decide +kernel
theorem dX3_readRunner_63 : decode cX3_readRunner 63 = .ok (.ireturn, 1) := by decide +kernel
theorem dX3_readRunner_64 : decode cX3_readRunner 64 = .ok (.aload_n 1, 1) := by decide +kernel
theorem dX3_readRunner_65 : decode cX3_readRunner 65 = .ok (.iload_n 2, 1) := by decide +kernel
theorem dX3_readRunner_66 : decode cX3_readRunner 66 = .ok (.iload_n 3, 1) := by decide +kernel
theorem dX3_readRunner_67 : decode cX3_readRunner 67 = .ok (.iload 4, 2) := by decide +kernel
theorem dX3_readRunner_69 : decode cX3_readRunner 69 = .ok (.invokevirtual 86, 3) := by decide +kernel
theorem dX3_readRunner_72 : decode cX3_readRunner 72 = .ok (.istore 6, 2) := by decide +kernel
theorem dX3_readRunner_74 : decode cX3_readRunner 74 = .ok (.aload_n 1, 1) := by decide +kernel
theorem dX3_readRunner_75 : decode cX3_readRunner 75 = .ok (.getfield 90, 3) := by decide +kernel
theorem dX3_readRunner_78 : decode cX3_readRunner 78 = .ok (.iload 6, 2) := by decide +kernel
theorem dX3_readRunner_80 : decode cX3_readRunner 80 = .ok (.aaload, 1) := by decide +kernel
theorem dX3_readRunner_81 : decode cX3_readRunner 81 = .ok (.getfield 94, 3) := by decide +kernel
theorem dX3_readRunner_84 : decode cX3_readRunner 84 = .ok (.iload 5, 2) := by decide +kernel
theorem dX3_readRunner_86 : decode cX3_readRunner 86 = .ok (.invokestatic 99, 3) := by decide +kernel
theorem dX3_readRunner_89 : decode cX3_readRunner 89 = .ok (.iconst 1, 1) := by decide +kernel
theorem dX3_readRunner_90 : decode cX3_readRunner 90 = .ok (.ireturn, 1) := by decide +kernel
theorem dX3_perhaps_0 : decode cX3_perhaps 0 = .ok (.aload_n 0, 1) := by decide +kernel
theorem dX3_perhaps_1 : decode cX3_perhaps 1 = .ok (.getfield 12, 3) := by decide +kernel
theorem dX3_perhaps_4 : decode cX3_perhaps 4 = .ok (.aload_n 1, 1) := by decide +kernel
theorem dX3_perhaps_5 : decode cX3_perhaps 5 = .ok (.invokevirtual 45, 3) := by decide +kernel
theorem dX3_perhaps_8 : decode cX3_perhaps 8 = .ok (.ifCond .eq 13, 3) := by decide +kernel
theorem dX3_perhaps_11 : decode cX3_perhaps 11 = .ok (.aload_n 0, 1) := by decide +kernel
theorem dX3_perhaps_12 : decode cX3_perhaps 12 = .ok (.iload_n 3, 1) := by decide +kernel
theorem dX3_perhaps_13 : decode cX3_perhaps 13 = .ok (.iload 4, 2) := by decide +kernel
theorem dX3_perhaps_15 : decode cX3_perhaps 15 = .ok (.invokevirtual 63, 3) := by decide +kernel
theorem dX3_perhaps_18 : decode cX3_perhaps 18 = .ok (.goto 4, 3) := by decide +kernel
theorem dX3_perhaps_21 : decode cX3_perhaps 21 = .ok (.iload_n 2, 1) := by decide +kernel
theorem dX3_perhaps_22 : decode cX3_perhaps 22 = .ok (.ireturn, 1) := by decide +kernel
theorem dX3_numberBehind_0 : decode cX3_numberBehind 0 = .ok (.aload_n 0, 1) := by decide +kernel
theorem dX3_numberBehind_1 : decode cX3_numberBehind 1 = .ok (.getfield 12, 3) := by decide +kernel
theorem dX3_numberBehind_4 : decode cX3_numberBehind 4 = .ok (.invokevirtual 29, 3) := by decide +kernel
theorem dX3_numberBehind_7 : decode cX3_numberBehind 7 = .ok (.aload_n 0, 1) := by decide +kernel
theorem dX3_numberBehind_8 : decode cX3_numberBehind 8 = .ok (.getfield 12, 3) := by decide +kernel
theorem dX3_numberBehind_11 : decode cX3_numberBehind 11 = .ok (.invokevirtual 105, 3) := by decide +kernel
theorem dX3_numberBehind_14 : decode cX3_numberBehind 14 = .ok (.istore_n 3, 1) := by decide +kernel
theorem dX3_numberBehind_15 : decode cX3_numberBehind 15 = .ok (.iload_n 3, 1) := by decide +kernel
theorem dX3_numberBehind_16 : decode cX3_numberBehind 16 = .ok (.iload_n 1, 1) := by decide +kernel
theorem dX3_numberBehind_17 : decode cX3_numberBehind 17 = .ok (.iload_n 2, 1) := by decide +kernel
theorem dX3_numberBehind_18 : decode cX3_numberBehind 18 = .ok (.invokestatic 108, 3) := by decide +kernel
theorem dX3_numberBehind_21 : decode cX3_numberBehind 21 = .ok (.ifCond .ne 5, 3) := by decide +kernel
theorem dX3_numberBehind_24 : decode cX3_numberBehind 24 = .ok (.iconst (-1), 1) := by decide +kernel
theorem dX3_numberBehind_25 : decode cX3_numberBehind 25 = .ok (.ireturn, 1) := by decide +kernel
theorem dX3_numberBehind_26 : decode cX3_numberBehind 26 = .ok (.aload_n 0, 1) := by decide +kernel
theorem dX3_numberBehind_27 : decode cX3_numberBehind 27 = .ok (.getfield 12, 3) := by decide +kernel
theorem dX3_numberBehind_30 : decode cX3_numberBehind 30 = .ok (.invokevirtual 29, 3) := by decide +kernel
theorem dX3_numberBehind_33 : decode cX3_numberBehind 33 = .ok (.iload_n 3, 1) := by decide +kernel
theorem dX3_numberBehind_34 : decode cX3_numberBehind 34 = .ok (.ireturn, 1) := by decide +kernel
theorem dX3_groundTold_0 : decode cX3_groundTold 0 = .ok (.aload_n 0, 1) := by decide +kernel
theorem dX3_groundTold_1 : decode cX3_groundTold 1 = .ok (.getfield 12, 3) := by decide +kernel
theorem dX3_groundTold_4 : decode cX3_groundTold 4 = .ok (.ldc 112, 2) := by decide +kernel
theorem dX3_groundTold_6 : decode cX3_groundTold 6 = .ok (.invokevirtual 45, 3) := by decide +kernel
theorem dX3_groundTold_9 : decode cX3_groundTold 9 = .ok (.ifCond .eq 5, 3) := by decide +kernel
theorem dX3_groundTold_12 : decode cX3_groundTold 12 = .ok (.iconst 0, 1) := by decide +kernel
theorem dX3_groundTold_13 : decode cX3_groundTold 13 = .ok (.ireturn, 1) := by decide +kernel
theorem dX3_groundTold_14 : decode cX3_groundTold 14 = .ok (.aload_n 0, 1) := by decide +kernel
theorem dX3_groundTold_15 : decode cX3_groundTold 15 = .ok (.getfield 12, 3) := by decide +kernel
theorem dX3_groundTold_18 : decode cX3_groundTold 18 = .ok (.ldc 114, 2) := by decide +kernel
theorem dX3_groundTold_20 : decode cX3_groundTold 20 = .ok (.invokevirtual 45, 3) := by decide +kernel
theorem dX3_groundTold_23 : decode cX3_groundTold 23 = .ok (.ifCond .eq 5, 3) := by decide +kernel
theorem dX3_groundTold_26 : decode cX3_groundTold 26 = .ok (.iconst 1, 1) := by decide +kernel
theorem dX3_groundTold_27 : decode cX3_groundTold 27 = .ok (.ireturn, 1) := by decide +kernel
theorem dX3_groundTold_28 : decode cX3_groundTold 28 = .ok (.aload_n 0, 1) := by decide +kernel
theorem dX3_groundTold_29 : decode cX3_groundTold 29 = .ok (.getfield 12, 3) := by decide +kernel
theorem dX3_groundTold_32 : decode cX3_groundTold 32 = .ok (.ldc 116, 2) := by decide +kernel
theorem dX3_groundTold_34 : decode cX3_groundTold 34 = .ok (.invokevirtual 45, 3) := by decide +kernel
theorem dX3_groundTold_37 : decode cX3_groundTold 37 = .ok (.ifCond .eq 5, 3) := by decide +kernel
theorem dX3_groundTold_40 : decode cX3_groundTold 40 = .ok (.iconst 2, 1) := by decide +kernel
theorem dX3_groundTold_41 : decode cX3_groundTold 41 = .ok (.ireturn, 1) := by decide +kernel
theorem dX3_groundTold_42 : decode cX3_groundTold 42 = .ok (.aload_n 0, 1) := by decide +kernel
theorem dX3_groundTold_43 : decode cX3_groundTold 43 = .ok (.getfield 12, 3) := by decide +kernel
theorem dX3_groundTold_46 : decode cX3_groundTold 46 = .ok (.ldc 118, 2) := by decide +kernel
theorem dX3_groundTold_48 : decode cX3_groundTold 48 = .ok (.invokevirtual 45, 3) := by decide +kernel
theorem dX3_groundTold_51 : decode cX3_groundTold 51 = .ok (.ifCond .eq 5, 3) := by decide +kernel
theorem dX3_groundTold_54 : decode cX3_groundTold 54 = .ok (.iconst 3, 1) := by decide +kernel
theorem dX3_groundTold_55 : decode cX3_groundTold 55 = .ok (.ireturn, 1) := by decide +kernel
theorem dX3_groundTold_56 : decode cX3_groundTold 56 = .ok (.aload_n 0, 1) := by decide +kernel
theorem dX3_groundTold_57 : decode cX3_groundTold 57 = .ok (.getfield 12, 3) := by decide +kernel
theorem dX3_groundTold_60 : decode cX3_groundTold 60 = .ok (.ldc 120, 2) := by decide +kernel
theorem dX3_groundTold_62 : decode cX3_groundTold 62 = .ok (.invokevirtual 45, 3) := by decide +kernel
theorem dX3_groundTold_65 : decode cX3_groundTold 65 = .ok (.ifCond .eq 7, 3) := by decide +kernel
theorem dX3_groundTold_68 : decode cX3_groundTold 68 = .ok (.iconst 4, 1) := by decide +kernel
theorem dX3_groundTold_69 : decode cX3_groundTold 69 = .ok (.goto 4, 3) := by decide +kernel
theorem dX3_groundTold_72 : decode cX3_groundTold 72 = .ok (.iconst (-1), 1) := by decide +kernel
theorem dX3_groundTold_73 : decode cX3_groundTold 73 = .ok (.ireturn, 1) := by decide +kernel
theorem dX3_kindTold_0 : decode cX3_kindTold 0 = .ok (.aload_n 0, 1) := by decide +kernel
theorem dX3_kindTold_1 : decode cX3_kindTold 1 = .ok (.getfield 12, 3) := by decide +kernel
theorem dX3_kindTold_4 : decode cX3_kindTold 4 = .ok (.ldc 122, 2) := by decide +kernel
theorem dX3_kindTold_6 : decode cX3_kindTold 6 = .ok (.invokevirtual 45, 3) := by decide +kernel
theorem dX3_kindTold_9 : decode cX3_kindTold 9 = .ok (.ifCond .eq 5, 3) := by decide +kernel
theorem dX3_kindTold_12 : decode cX3_kindTold 12 = .ok (.iconst 0, 1) := by decide +kernel
theorem dX3_kindTold_13 : decode cX3_kindTold 13 = .ok (.ireturn, 1) := by decide +kernel
theorem dX3_kindTold_14 : decode cX3_kindTold 14 = .ok (.aload_n 0, 1) := by decide +kernel
theorem dX3_kindTold_15 : decode cX3_kindTold 15 = .ok (.getfield 12, 3) := by decide +kernel
theorem dX3_kindTold_18 : decode cX3_kindTold 18 = .ok (.ldc 124, 2) := by decide +kernel
theorem dX3_kindTold_20 : decode cX3_kindTold 20 = .ok (.invokevirtual 45, 3) := by decide +kernel
theorem dX3_kindTold_23 : decode cX3_kindTold 23 = .ok (.ifCond .eq 5, 3) := by decide +kernel
theorem dX3_kindTold_26 : decode cX3_kindTold 26 = .ok (.iconst 1, 1) := by decide +kernel
theorem dX3_kindTold_27 : decode cX3_kindTold 27 = .ok (.ireturn, 1) := by decide +kernel
theorem dX3_kindTold_28 : decode cX3_kindTold 28 = .ok (.aload_n 0, 1) := by decide +kernel
theorem dX3_kindTold_29 : decode cX3_kindTold 29 = .ok (.getfield 12, 3) := by decide +kernel
theorem dX3_kindTold_32 : decode cX3_kindTold 32 = .ok (.ldc 126, 2) := by decide +kernel
theorem dX3_kindTold_34 : decode cX3_kindTold 34 = .ok (.invokevirtual 45, 3) := by decide +kernel
theorem dX3_kindTold_37 : decode cX3_kindTold 37 = .ok (.ifCond .eq 5, 3) := by decide +kernel
theorem dX3_kindTold_40 : decode cX3_kindTold 40 = .ok (.iconst 2, 1) := by decide +kernel
theorem dX3_kindTold_41 : decode cX3_kindTold 41 = .ok (.ireturn, 1) := by decide +kernel
theorem dX3_kindTold_42 : decode cX3_kindTold 42 = .ok (.aload_n 0, 1) := by decide +kernel
theorem dX3_kindTold_43 : decode cX3_kindTold 43 = .ok (.getfield 12, 3) := by decide +kernel
theorem dX3_kindTold_46 : decode cX3_kindTold 46 = .ok (.ldc 128, 2) := by decide +kernel
theorem dX3_kindTold_48 : decode cX3_kindTold 48 = .ok (.invokevirtual 45, 3) := by decide +kernel
theorem dX3_kindTold_51 : decode cX3_kindTold 51 = .ok (.ifCond .eq 5, 3) := by decide +kernel
theorem dX3_kindTold_54 : decode cX3_kindTold 54 = .ok (.iconst 3, 1) := by decide +kernel
theorem dX3_kindTold_55 : decode cX3_kindTold 55 = .ok (.ireturn, 1) := by decide +kernel
theorem dX3_kindTold_56 : decode cX3_kindTold 56 = .ok (.aload_n 0, 1) := by decide +kernel
theorem dX3_kindTold_57 : decode cX3_kindTold 57 = .ok (.getfield 12, 3) := by decide +kernel
theorem dX3_kindTold_60 : decode cX3_kindTold 60 = .ok (.ldc 130, 2) := by decide +kernel
theorem dX3_kindTold_62 : decode cX3_kindTold 62 = .ok (.invokevirtual 45, 3) := by decide +kernel
theorem dX3_kindTold_65 : decode cX3_kindTold 65 = .ok (.ifCond .eq 5, 3) := by decide +kernel
theorem dX3_kindTold_68 : decode cX3_kindTold 68 = .ok (.iconst 4, 1) := by decide +kernel
theorem dX3_kindTold_69 : decode cX3_kindTold 69 = .ok (.ireturn, 1) := by decide +kernel
theorem dX3_kindTold_70 : decode cX3_kindTold 70 = .ok (.aload_n 0, 1) := by decide +kernel
theorem dX3_kindTold_71 : decode cX3_kindTold 71 = .ok (.getfield 12, 3) := by decide +kernel
theorem dX3_kindTold_74 : decode cX3_kindTold 74 = .ok (.ldc 132, 2) := by decide +kernel
theorem dX3_kindTold_76 : decode cX3_kindTold 76 = .ok (.invokevirtual 45, 3) := by decide +kernel
theorem dX3_kindTold_79 : decode cX3_kindTold 79 = .ok (.ifCond .eq 5, 3) := by decide +kernel
theorem dX3_kindTold_82 : decode cX3_kindTold 82 = .ok (.iconst 5, 1) := by decide +kernel
theorem dX3_kindTold_83 : decode cX3_kindTold 83 = .ok (.ireturn, 1) := by decide +kernel
theorem dX3_kindTold_84 : decode cX3_kindTold 84 = .ok (.aload_n 0, 1) := by decide +kernel
theorem dX3_kindTold_85 : decode cX3_kindTold 85 = .ok (.getfield 12, 3) := by decide +kernel
theorem dX3_kindTold_88 : decode cX3_kindTold 88 = .ok (.ldc 134, 2) := by decide +kernel
theorem dX3_kindTold_90 : decode cX3_kindTold 90 = .ok (.invokevirtual 45, 3) := by decide +kernel
theorem dX3_kindTold_93 : decode cX3_kindTold 93 = .ok (.ifCond .eq 8, 3) := by decide +kernel
theorem dX3_kindTold_96 : decode cX3_kindTold 96 = .ok (.bipush 6, 2) := by decide +kernel
theorem dX3_kindTold_98 : decode cX3_kindTold 98 = .ok (.goto 4, 3) := by decide +kernel
theorem dX3_kindTold_101 : decode cX3_kindTold 101 = .ok (.iconst (-1), 1) := by decide +kernel
theorem dX3_kindTold_102 : decode cX3_kindTold 102 = .ok (.ireturn, 1) := by decide +kernel
theorem dX4_init_0 : decode cX4_init 0 = .ok (.aload_n 0, 1) := by decide +kernel
theorem dX4_init_1 : decode cX4_init 1 = .ok (.invokespecial 3, 3) := by decide +kernel
theorem dX4_init_4 : decode cX4_init 4 = .ok (.aload_n 0, 1) := by decide +kernel
theorem dX4_init_5 : decode cX4_init 5 = .ok (.bipush 30, 2) := by decide +kernel
theorem dX4_init_7 : decode cX4_init 7 = .ok (.newarray .int, 2) := by decide +kernel
theorem dX4_init_9 : decode cX4_init 9 = .ok (.putfield 9, 3) := by decide +kernel
theorem dX4_init_12 : decode cX4_init 12 = .ok (.return_, 1) := by decide +kernel
theorem dX4_become_0 : decode cX4_become 0 = .ok (.aload_n 1, 1) := by decide +kernel
theorem dX4_become_1 : decode cX4_become 1 = .ok (.getfield 9, 3) := by decide +kernel
theorem dX4_become_4 : decode cX4_become 4 = .ok (.iconst 0, 1) := by decide +kernel
theorem dX4_become_5 : decode cX4_become 5 = .ok (.aload_n 0, 1) := by decide +kernel
theorem dX4_become_6 : decode cX4_become 6 = .ok (.getfield 9, 3) := by decide +kernel
theorem dX4_become_9 : decode cX4_become 9 = .ok (.iconst 0, 1) := by decide +kernel
theorem dX4_become_10 : decode cX4_become 10 = .ok (.bipush 30, 2) := by decide +kernel
theorem dX4_become_12 : decode cX4_become 12 = .ok (.invokestatic 15, 3) := by decide +kernel
theorem dX4_become_15 : decode cX4_become 15 = .ok (.aload_n 0, 1) := by decide +kernel
theorem dX4_become_16 : decode cX4_become 16 = .ok (.aload_n 1, 1) := by decide +kernel
theorem dX4_become_17 : decode cX4_become 17 = .ok (.getfield 21, 3) := by decide +kernel
theorem dX4_become_20 : decode cX4_become 20 = .ok (.putfield 21, 3) := by decide +kernel
theorem dX4_become_23 : decode cX4_become 23 = .ok (.aload_n 0, 1) := by decide +kernel
theorem dX4_become_24 : decode cX4_become 24 = .ok (.aload_n 1, 1) := by decide +kernel
theorem dX4_become_25 : decode cX4_become 25 = .ok (.getfield 25, 3) := by decide +kernel
theorem dX4_become_28 : decode cX4_become 28 = .ok (.putfield 25, 3) := by decide +kernel
theorem dX4_become_31 : decode cX4_become 31 = .ok (.aload_n 0, 1) := by decide +kernel
theorem dX4_become_32 : decode cX4_become 32 = .ok (.aload_n 1, 1) := by decide +kernel
theorem dX4_become_33 : decode cX4_become 33 = .ok (.getfield 28, 3) := by decide +kernel
theorem dX4_become_36 : decode cX4_become 36 = .ok (.putfield 28, 3) := by decide +kernel
theorem dX4_become_39 : decode cX4_become 39 = .ok (.aload_n 0, 1) := by decide +kernel
theorem dX4_become_40 : decode cX4_become 40 = .ok (.aload_n 1, 1) := by decide +kernel
theorem dX4_become_41 : decode cX4_become 41 = .ok (.getfield 31, 3) := by decide +kernel
theorem dX4_become_44 : decode cX4_become 44 = .ok (.putfield 31, 3) := by decide +kernel
theorem dX4_become_47 : decode cX4_become 47 = .ok (.aload_n 0, 1) := by decide +kernel
theorem dX4_become_48 : decode cX4_become 48 = .ok (.aload_n 1, 1) := by decide +kernel
theorem dX4_become_49 : decode cX4_become 49 = .ok (.getfield 34, 3) := by decide +kernel
theorem dX4_become_52 : decode cX4_become 52 = .ok (.putfield 34, 3) := by decide +kernel
theorem dX4_become_55 : decode cX4_become 55 = .ok (.aload_n 0, 1) := by decide +kernel
theorem dX4_become_56 : decode cX4_become 56 = .ok (.aload_n 1, 1) := by decide +kernel
theorem dX4_become_57 : decode cX4_become 57 = .ok (.getfield 37, 3) := by decide +kernel
theorem dX4_become_60 : decode cX4_become 60 = .ok (.putfield 37, 3) := by decide +kernel
theorem dX4_become_63 : decode cX4_become 63 = .ok (.aload_n 0, 1) := by decide +kernel
theorem dX4_become_64 : decode cX4_become 64 = .ok (.aload_n 1, 1) := by decide +kernel
theorem dX4_become_65 : decode cX4_become 65 = .ok (.getfield 40, 3) := by decide +kernel
theorem dX4_become_68 : decode cX4_become 68 = .ok (.putfield 40, 3) := by decide +kernel
theorem dX4_become_71 : decode cX4_become 71 = .ok (.return_, 1) := by decide +kernel
theorem dX4_beNew_0 : decode cX4_beNew 0 = .ok (.aload_n 0, 1) := by decide +kernel
theorem dX4_beNew_1 : decode cX4_beNew 1 = .ok (.getfield 9, 3) := by decide +kernel
theorem dX4_beNew_4 : decode cX4_beNew 4 = .ok (.iconst 4, 1) := by decide +kernel
theorem dX4_beNew_5 : decode cX4_beNew 5 = .ok (.invokestatic 43, 3) := by decide +kernel
theorem dX4_beNew_8 : decode cX4_beNew 8 = .ok (.aload_n 0, 1) := by decide +kernel
theorem dX4_beNew_9 : decode cX4_beNew 9 = .ok (.iload_n 1, 1) := by decide +kernel
theorem dX4_beNew_10 : decode cX4_beNew 10 = .ok (.putfield 21, 3) := by decide +kernel
theorem dX4_beNew_13 : decode cX4_beNew 13 = .ok (.aload_n 0, 1) := by decide +kernel
theorem dX4_beNew_14 : decode cX4_beNew 14 = .ok (.iload_n 2, 1) := by decide +kernel
theorem dX4_beNew_15 : decode cX4_beNew 15 = .ok (.putfield 25, 3) := by decide +kernel
theorem dX4_beNew_18 : decode cX4_beNew 18 = .ok (.aload_n 0, 1) := by decide +kernel
theorem dX4_beNew_19 : decode cX4_beNew 19 = .ok (.iload_n 3, 1) := by decide +kernel
theorem dX4_beNew_20 : decode cX4_beNew 20 = .ok (.putfield 28, 3) := by decide +kernel
theorem dX4_beNew_23 : decode cX4_beNew 23 = .ok (.aload_n 0, 1) := by decide +kernel
theorem dX4_beNew_24 : decode cX4_beNew 24 = .ok (.invokevirtual 49, 3) := by decide +kernel
theorem dX4_beNew_27 : decode cX4_beNew 27 = .ok (.return_, 1) := by decide +kernel
theorem dX4_restart_0 : decode cX4_restart 0 = .ok (.aload_n 0, 1) := by decide +kernel
theorem dX4_restart_1 : decode cX4_restart 1 = .ok (.iconst 0, 1) := by decide +kernel
theorem dX4_restart_2 : decode cX4_restart 2 = .ok (.putfield 31, 3) := by decide +kernel
theorem dX4_restart_5 : decode cX4_restart 5 = .ok (.aload_n 0, 1) := by decide +kernel
theorem dX4_restart_6 : decode cX4_restart 6 = .ok (.iconst 0, 1) := by decide +kernel
theorem dX4_restart_7 : decode cX4_restart 7 = .ok (.putfield 34, 3) := by decide +kernel
theorem dX4_restart_10 : decode cX4_restart 10 = .ok (.aload_n 0, 1) := by decide +kernel
theorem dX4_restart_11 : decode cX4_restart 11 = .ok (.iconst 0, 1) := by decide +kernel
theorem dX4_restart_12 : decode cX4_restart 12 = .ok (.putfield 37, 3) := by decide +kernel
theorem dX4_restart_15 : decode cX4_restart 15 = .ok (.aload_n 0, 1) := by decide +kernel
theorem dX4_restart_16 : decode cX4_restart 16 = .ok (.iconst 0, 1) := by decide +kernel
theorem dX4_restart_17 : decode cX4_restart 17 = .ok (.putfield 40, 3) := by decide +kernel
theorem dX4_restart_20 : decode cX4_restart 20 = .ok (.return_, 1) := by decide +kernel
theorem dX4_isHome_0 : decode cX4_isHome 0 = .ok (.aload_n 0, 1) := by decide +kernel
theorem dX4_isHome_1 : decode cX4_isHome 1 = .ok (.getfield 31, 3) := by decide +kernel
theorem dX4_isHome_4 : decode cX4_isHome 4 = .ok (.bipush 30, 2) := by decide +kernel
theorem dX4_isHome_6 : decode cX4_isHome 6 = .ok (.if_icmp .lt 7, 3) := by decide +kernel
theorem dX4_isHome_9 : decode cX4_isHome 9 = .ok (.iconst 1, 1) := by decide +kernel
theorem dX4_isHome_10 : decode cX4_isHome 10 = .ok (.goto 4, 3) := by decide +kernel
theorem dX4_isHome_13 : decode cX4_isHome 13 = .ok (.iconst 0, 1) := by decide +kernel
theorem dX4_isHome_14 : decode cX4_isHome 14 = .ok (.ireturn, 1) := by decide +kernel
theorem dX4_isOfKind_0 : decode cX4_isOfKind 0 = .ok (.aload_n 0, 1) := by decide +kernel
theorem dX4_isOfKind_1 : decode cX4_isOfKind 1 = .ok (.getfield 21, 3) := by decide +kernel
theorem dX4_isOfKind_4 : decode cX4_isOfKind 4 = .ok (.istore_n 2, 1) := by decide +kernel
theorem dX4_isOfKind_5 : decode cX4_isOfKind 5 = .ok (.iconst 0, 1) := by decide +kernel
theorem dX4_isOfKind_6 : decode cX4_isOfKind 6 = .ok (.istore_n 3, 1) := by decide +kernel
theorem dX4_isOfKind_7 : decode cX4_isOfKind 7 = .ok (.iload_n 3, 1) := by decide +kernel
theorem dX4_isOfKind_8 : decode cX4_isOfKind 8 = .ok (.bipush 6, 2) := by decide +kernel
theorem dX4_isOfKind_10 : decode cX4_isOfKind 10 = .ok (.if_icmp .gt 26, 3) := by decide +kernel
theorem dX4_isOfKind_13 : decode cX4_isOfKind 13 = .ok (.iload_n 2, 1) := by decide +kernel
theorem dX4_isOfKind_14 : decode cX4_isOfKind 14 = .ok (.ifCond .lt 22, 3) := by decide +kernel
theorem dX4_isOfKind_17 : decode cX4_isOfKind 17 = .ok (.iload_n 2, 1) := by decide +kernel
theorem dX4_isOfKind_18 : decode cX4_isOfKind 18 = .ok (.iload_n 1, 1) := by decide +kernel
theorem dX4_isOfKind_19 : decode cX4_isOfKind 19 = .ok (.if_icmp .ne 5, 3) := by decide +kernel
theorem dX4_isOfKind_22 : decode cX4_isOfKind 22 = .ok (.iconst 1, 1) := by decide +kernel
theorem dX4_isOfKind_23 : decode cX4_isOfKind 23 = .ok (.ireturn, 1) := by decide +kernel
theorem dX4_isOfKind_24 : decode cX4_isOfKind 24 = .ok (.getstatic 52, 3) := by decide +kernel
theorem dX4_isOfKind_27 : decode cX4_isOfKind 27 = .ok (.iload_n 2, 1) := by decide +kernel
theorem dX4_isOfKind_28 : decode cX4_isOfKind 28 = .ok (.iaload, 1) := by decide +kernel
theorem dX4_isOfKind_29 : decode cX4_isOfKind 29 = .ok (.istore_n 2, 1) := by decide +kernel
theorem dX4_isOfKind_30 : decode cX4_isOfKind 30 = .ok (.iinc 3 1, 3) := by decide +kernel
theorem dX4_isOfKind_33 : decode cX4_isOfKind 33 = .ok (.goto (-26), 3) := by decide +kernel
theorem dX4_isOfKind_36 : decode cX4_isOfKind 36 = .ok (.iconst 0, 1) := by decide +kernel
theorem dX4_isOfKind_37 : decode cX4_isOfKind 37 = .ok (.ireturn, 1) := by decide +kernel
theorem dX4_takes_0 : decode cX4_takes 0 = .ok (.bipush 12, 2) := by decide +kernel
theorem dX4_takes_2 : decode cX4_takes 2 = .ok (.iload_n 1, 1) := by decide +kernel
theorem dX4_takes_3 : decode cX4_takes 3 = .ok (.isub, 1) := by decide +kernel
theorem dX4_takes_4 : decode cX4_takes 4 = .ok (.getstatic 55, 3) := by decide +kernel
theorem dX4_takes_7 : decode cX4_takes 7 = .ok (.aload_n 0, 1) := by decide +kernel
theorem dX4_takes_8 : decode cX4_takes 8 = .ok (.getfield 21, 3) := by decide +kernel
theorem dX4_takes_11 : decode cX4_takes 11 = .ok (.iaload, 1) := by decide +kernel
theorem dX4_takes_12 : decode cX4_takes 12 = .ok (.iadd, 1) := by decide +kernel
theorem dX4_takes_13 : decode cX4_takes 13 = .ok (.ireturn, 1) := by decide +kernel
theorem dX4_rocks_0 : decode cX4_rocks 0 = .ok (.aload_n 0, 1) := by decide +kernel
theorem dX4_rocks_1 : decode cX4_rocks 1 = .ok (.getfield 21, 3) := by decide +kernel
theorem dX4_rocks_4 : decode cX4_rocks 4 = .ok (.iconst 4, 1) := by decide +kernel
theorem dX4_rocks_5 : decode cX4_rocks 5 = .ok (.if_icmp .ne 11, 3) := by decide +kernel
theorem dX4_rocks_8 : decode cX4_rocks 8 = .ok (.iload_n 1, 1) := by decide +kernel
theorem dX4_rocks_9 : decode cX4_rocks 9 = .ok (.bipush 6, 2) := by decide +kernel
theorem dX4_rocks_11 : decode cX4_rocks 11 = .ok (.if_icmp .ne 5, 3) := by decide +kernel
theorem dX4_rocks_14 : decode cX4_rocks 14 = .ok (.iconst 2, 1) := by decide +kernel
theorem dX4_rocks_15 : decode cX4_rocks 15 = .ok (.ireturn, 1) := by decide +kernel
theorem dX4_rocks_16 : decode cX4_rocks 16 = .ok (.getstatic 58, 3) := by decide +kernel
theorem dX4_rocks_19 : decode cX4_rocks 19 = .ok (.iload_n 1, 1) := by decide +kernel
theorem dX4_rocks_20 : decode cX4_rocks 20 = .ok (.iaload, 1) := by decide +kernel
theorem dX4_rocks_21 : decode cX4_rocks 21 = .ok (.getstatic 61, 3) := by decide +kernel
theorem dX4_rocks_24 : decode cX4_rocks 24 = .ok (.aload_n 0, 1) := by decide +kernel
theorem dX4_rocks_25 : decode cX4_rocks 25 = .ok (.getfield 21, 3) := by decide +kernel
theorem dX4_rocks_28 : decode cX4_rocks 28 = .ok (.iaload, 1) := by decide +kernel
theorem dX4_rocks_29 : decode cX4_rocks 29 = .ok (.iadd, 1) := by decide +kernel
theorem dX4_rocks_30 : decode cX4_rocks 30 = .ok (.ireturn, 1) := by decide +kernel
theorem dX4_hurts_0 : decode cX4_hurts 0 = .ok (.getstatic 64, 3) := by decide +kernel
theorem dX4_hurts_3 : decode cX4_hurts 3 = .ok (.iload_n 1, 1) := by decide +kernel
theorem dX4_hurts_4 : decode cX4_hurts 4 = .ok (.iaload, 1) := by decide +kernel
theorem dX4_hurts_5 : decode cX4_hurts 5 = .ok (.getstatic 67, 3) := by decide +kernel
theorem dX4_hurts_8 : decode cX4_hurts 8 = .ok (.aload_n 0, 1) := by decide +kernel
theorem dX4_hurts_9 : decode cX4_hurts 9 = .ok (.getfield 21, 3) := by decide +kernel
theorem dX4_hurts_12 : decode cX4_hurts 12 = .ok (.iaload, 1) := by decide +kernel
theorem dX4_hurts_13 : decode cX4_hurts 13 = .ok (.imul, 1) := by decide +kernel
theorem dX4_hurts_14 : decode cX4_hurts 14 = .ok (.ireturn, 1) := by decide +kernel
theorem dX4_holds_0 : decode cX4_holds 0 = .ok (.aload_n 0, 1) := by decide +kernel
theorem dX4_holds_1 : decode cX4_holds 1 = .ok (.getfield 25, 3) := by decide +kernel
theorem dX4_holds_4 : decode cX4_holds 4 = .ok (.iconst 2, 1) := by decide +kernel
theorem dX4_holds_5 : decode cX4_holds 5 = .ok (.idiv, 1) := by decide +kernel
theorem dX4_holds_6 : decode cX4_holds 6 = .ok (.aload_n 0, 1) := by decide +kernel
theorem dX4_holds_7 : decode cX4_holds 7 = .ok (.getfield 28, 3) := by decide +kernel
theorem dX4_holds_10 : decode cX4_holds 10 = .ok (.iadd, 1) := by decide +kernel
theorem dX4_holds_11 : decode cX4_holds 11 = .ok (.getstatic 70, 3) := by decide +kernel
theorem dX4_holds_14 : decode cX4_holds 14 = .ok (.aload_n 0, 1) := by decide +kernel
theorem dX4_holds_15 : decode cX4_holds 15 = .ok (.getfield 21, 3) := by decide +kernel
theorem dX4_holds_18 : decode cX4_holds 18 = .ok (.iaload, 1) := by decide +kernel
theorem dX4_holds_19 : decode cX4_holds 19 = .ok (.iadd, 1) := by decide +kernel
theorem dX4_holds_20 : decode cX4_holds 20 = .ok (.ireturn, 1) := by decide +kernel
theorem dX4_tell_0 : decode cX4_tell 0 = .ok (.iload_n 1, 1) := by decide +kernel
theorem dX4_tell_1 : decode cX4_tell 1 = .ok (.tableswitch 78 0 6 #[43, 48, 53, 58, 63, 68, 73], 43) := by decide +kernel
theorem dX4_tell_44 : decode cX4_tell 44 = .ok (.aload_n 0, 1) := by decide +kernel
theorem dX4_tell_45 : decode cX4_tell 45 = .ok (.getfield 21, 3) := by decide +kernel
theorem dX4_tell_48 : decode cX4_tell 48 = .ok (.ireturn, 1) := by decide +kernel
theorem dX4_tell_49 : decode cX4_tell 49 = .ok (.aload_n 0, 1) := by decide +kernel
theorem dX4_tell_50 : decode cX4_tell 50 = .ok (.getfield 25, 3) := by decide +kernel
theorem dX4_tell_53 : decode cX4_tell 53 = .ok (.ireturn, 1) := by decide +kernel
theorem dX4_tell_54 : decode cX4_tell 54 = .ok (.aload_n 0, 1) := by decide +kernel
theorem dX4_tell_55 : decode cX4_tell 55 = .ok (.getfield 28, 3) := by decide +kernel
theorem dX4_tell_58 : decode cX4_tell 58 = .ok (.ireturn, 1) := by decide +kernel
theorem dX4_tell_59 : decode cX4_tell 59 = .ok (.aload_n 0, 1) := by decide +kernel
theorem dX4_tell_60 : decode cX4_tell 60 = .ok (.getfield 31, 3) := by decide +kernel
theorem dX4_tell_63 : decode cX4_tell 63 = .ok (.ireturn, 1) := by decide +kernel
theorem dX4_tell_64 : decode cX4_tell 64 = .ok (.aload_n 0, 1) := by decide +kernel
theorem dX4_tell_65 : decode cX4_tell 65 = .ok (.getfield 34, 3) := by decide +kernel
theorem dX4_tell_68 : decode cX4_tell 68 = .ok (.ireturn, 1) := by decide +kernel
theorem dX4_tell_69 : decode cX4_tell 69 = .ok (.aload_n 0, 1) := by decide +kernel
theorem dX4_tell_70 : decode cX4_tell 70 = .ok (.getfield 37, 3) := by decide +kernel
theorem dX4_tell_73 : decode cX4_tell 73 = .ok (.ireturn, 1) := by decide +kernel
theorem dX4_tell_74 : decode cX4_tell 74 = .ok (.aload_n 0, 1) := by decide +kernel
theorem dX4_tell_75 : decode cX4_tell 75 = .ok (.getfield 40, 3) := by decide +kernel
theorem dX4_tell_78 : decode cX4_tell 78 = .ok (.ireturn, 1) := by decide +kernel
theorem dX4_tell_79 : decode cX4_tell 79 = .ok (.aload_n 0, 1) := by decide +kernel
theorem dX4_tell_80 : decode cX4_tell 80 = .ok (.invokevirtual 73, 3) := by decide +kernel
theorem dX4_tell_83 : decode cX4_tell 83 = .ok (.ireturn, 1) := by decide +kernel
theorem dX4_put_0 : decode cX4_put 0 = .ok (.iload_n 1, 1) := by decide +kernel
theorem dX4_put_1 : decode cX4_put 1 = .ok (.tableswitch 79 0 5 #[39, 47, 55, 63, 79, 71], 39) := by decide +kernel
theorem dX4_put_40 : decode cX4_put 40 = .ok (.aload_n 0, 1) := by decide +kernel
theorem dX4_put_41 : decode cX4_put 41 = .ok (.iload_n 2, 1) := by decide +kernel
theorem dX4_put_42 : decode cX4_put 42 = .ok (.putfield 21, 3) := by decide +kernel
theorem dX4_put_45 : decode cX4_put 45 = .ok (.goto 35, 3) := by decide +kernel
theorem dX4_put_48 : decode cX4_put 48 = .ok (.aload_n 0, 1) := by decide +kernel
theorem dX4_put_49 : decode cX4_put 49 = .ok (.iload_n 2, 1) := by decide +kernel
theorem dX4_put_50 : decode cX4_put 50 = .ok (.putfield 25, 3) := by decide +kernel
theorem dX4_put_53 : decode cX4_put 53 = .ok (.goto 27, 3) := by decide +kernel
theorem dX4_put_56 : decode cX4_put 56 = .ok (.aload_n 0, 1) := by decide +kernel
theorem dX4_put_57 : decode cX4_put 57 = .ok (.iload_n 2, 1) := by decide +kernel
theorem dX4_put_58 : decode cX4_put 58 = .ok (.putfield 28, 3) := by decide +kernel
theorem dX4_put_61 : decode cX4_put 61 = .ok (.goto 19, 3) := by decide +kernel
theorem dX4_put_64 : decode cX4_put 64 = .ok (.aload_n 0, 1) := by decide +kernel
theorem dX4_put_65 : decode cX4_put 65 = .ok (.iload_n 2, 1) := by decide +kernel
theorem dX4_put_66 : decode cX4_put 66 = .ok (.putfield 31, 3) := by decide +kernel
theorem dX4_put_69 : decode cX4_put 69 = .ok (.goto 11, 3) := by decide +kernel
theorem dX4_put_72 : decode cX4_put 72 = .ok (.aload_n 0, 1) := by decide +kernel
theorem dX4_put_73 : decode cX4_put 73 = .ok (.iload_n 2, 1) := by decide +kernel
theorem dX4_put_74 : decode cX4_put 74 = .ok (.putfield 37, 3) := by decide +kernel
theorem dX4_put_77 : decode cX4_put 77 = .ok (.goto 3, 3) := by decide +kernel
theorem dX4_put_80 : decode cX4_put 80 = .ok (.return_, 1) := by decide +kernel
theorem dX4_mostOf_0 : decode cX4_mostOf 0 = .ok (.iload_n 0, 1) := by decide +kernel
theorem dX4_mostOf_1 : decode cX4_mostOf 1 = .ok (.tableswitch 52 0 5 #[39, 42, 45, 47, 52, 50], 39) := by decide +kernel
theorem dX4_mostOf_40 : decode cX4_mostOf 40 = .ok (.bipush 6, 2) := by decide +kernel
theorem dX4_mostOf_42 : decode cX4_mostOf 42 = .ok (.ireturn, 1) := by decide +kernel
theorem dX4_mostOf_43 : decode cX4_mostOf 43 = .ok (.bipush 9, 2) := by decide +kernel
theorem dX4_mostOf_45 : decode cX4_mostOf 45 = .ok (.ireturn, 1) := by decide +kernel
theorem dX4_mostOf_46 : decode cX4_mostOf 46 = .ok (.iconst 5, 1) := by decide +kernel
theorem dX4_mostOf_47 : decode cX4_mostOf 47 = .ok (.ireturn, 1) := by decide +kernel
theorem dX4_mostOf_48 : decode cX4_mostOf 48 = .ok (.bipush 30, 2) := by decide +kernel
theorem dX4_mostOf_50 : decode cX4_mostOf 50 = .ok (.ireturn, 1) := by decide +kernel
theorem dX4_mostOf_51 : decode cX4_mostOf 51 = .ok (.iconst 3, 1) := by decide +kernel
theorem dX4_mostOf_52 : decode cX4_mostOf 52 = .ok (.ireturn, 1) := by decide +kernel
theorem dX4_mostOf_53 : decode cX4_mostOf 53 = .ok (.iconst (-1), 1) := by decide +kernel
theorem dX4_mostOf_54 : decode cX4_mostOf 54 = .ok (.ireturn, 1) := by decide +kernel
theorem dX5_init_0 : decode cX5_init 0 = .ok (.aload_n 0, 1) := by decide +kernel
theorem dX5_init_1 : decode cX5_init 1 = .ok (.invokespecial 3, 3) := by decide +kernel
theorem dX5_init_4 : decode cX5_init 4 = .ok (.aload_n 0, 1) := by decide +kernel
theorem dX5_init_5 : decode cX5_init 5 = .ok (.bipush 40, 2) := by decide +kernel
theorem dX5_init_7 : decode cX5_init 7 = .ok (.newarray .int, 2) := by decide +kernel
theorem dX5_init_9 : decode cX5_init 9 = .ok (.putfield 9, 3) := by decide +kernel
theorem dX5_init_12 : decode cX5_init 12 = .ok (.aload_n 0, 1) := by decide +kernel
theorem dX5_init_13 : decode cX5_init 13 = .ok (.iconst 0, 1) := by decide +kernel
theorem dX5_init_14 : decode cX5_init 14 = .ok (.putfield 15, 3) := by decide +kernel
theorem dX5_init_17 : decode cX5_init 17 = .ok (.aload_n 0, 1) := by decide +kernel
theorem dX5_init_18 : decode cX5_init 18 = .ok (.iconst 0, 1) := by decide +kernel
theorem dX5_init_19 : decode cX5_init 19 = .ok (.putfield 19, 3) := by decide +kernel
theorem dX5_init_22 : decode cX5_init 22 = .ok (.return_, 1) := by decide +kernel
theorem dX5_isMissing_0 : decode cX5_isMissing 0 = .ok (.aload_n 0, 1) := by decide +kernel
theorem dX5_isMissing_1 : decode cX5_isMissing 1 = .ok (.getfield 15, 3) := by decide +kernel
theorem dX5_isMissing_4 : decode cX5_isMissing 4 = .ok (.ifCond .ne 7, 3) := by decide +kernel
theorem dX5_isMissing_7 : decode cX5_isMissing 7 = .ok (.iconst 1, 1) := by decide +kernel
theorem dX5_isMissing_8 : decode cX5_isMissing 8 = .ok (.goto 4, 3) := by decide +kernel
theorem dX5_isMissing_11 : decode cX5_isMissing 11 = .ok (.iconst 0, 1) := by decide +kernel
theorem dX5_isMissing_12 : decode cX5_isMissing 12 = .ok (.ireturn, 1) := by decide +kernel
theorem dX5_lay_0 : decode cX5_lay 0 = .ok (.aload_n 0, 1) := by decide +kernel
theorem dX5_lay_1 : decode cX5_lay 1 = .ok (.iload_n 1, 1) := by decide +kernel
theorem dX5_lay_2 : decode cX5_lay 2 = .ok (.putfield 15, 3) := by decide +kernel
theorem dX5_lay_5 : decode cX5_lay 5 = .ok (.aload_n 0, 1) := by decide +kernel
theorem dX5_lay_6 : decode cX5_lay 6 = .ok (.iload_n 1, 1) := by decide +kernel
theorem dX5_lay_7 : decode cX5_lay 7 = .ok (.ifCond .ne 7, 3) := by decide +kernel
theorem dX5_lay_10 : decode cX5_lay 10 = .ok (.iconst 0, 1) := by decide +kernel
theorem dX5_lay_11 : decode cX5_lay 11 = .ok (.goto 4, 3) := by decide +kernel
theorem dX5_lay_14 : decode cX5_lay 14 = .ok (.iload_n 2, 1) := by decide +kernel
theorem dX5_lay_15 : decode cX5_lay 15 = .ok (.putfield 19, 3) := by decide +kernel
theorem dX5_lay_18 : decode cX5_lay 18 = .ok (.aload_n 0, 1) := by decide +kernel
theorem dX5_lay_19 : decode cX5_lay 19 = .ok (.getfield 9, 3) := by decide +kernel
theorem dX5_lay_22 : decode cX5_lay 22 = .ok (.iconst 0, 1) := by decide +kernel
theorem dX5_lay_23 : decode cX5_lay 23 = .ok (.invokestatic 22, 3) := by decide +kernel
theorem dX5_lay_26 : decode cX5_lay 26 = .ok (.return_, 1) := by decide +kernel
theorem dX5_put_0 : decode cX5_put 0 = .ok (.aload_n 0, 1) := by decide +kernel
theorem dX5_put_1 : decode cX5_put 1 = .ok (.getfield 15, 3) := by decide +kernel
theorem dX5_put_4 : decode cX5_put 4 = .ok (.bipush 8, 2) := by decide +kernel
theorem dX5_put_6 : decode cX5_put 6 = .ok (.if_icmp .ne 14, 3) := by decide +kernel
theorem dX5_put_9 : decode cX5_put 9 = .ok (.aload_n 0, 1) := by decide +kernel
theorem dX5_put_10 : decode cX5_put 10 = .ok (.getfield 9, 3) := by decide +kernel
theorem dX5_put_13 : decode cX5_put 13 = .ok (.iload_n 1, 1) := by decide +kernel
theorem dX5_put_14 : decode cX5_put 14 = .ok (.iload_n 2, 1) := by decide +kernel
theorem dX5_put_15 : decode cX5_put 15 = .ok (.i2b, 1) := by decide +kernel
theorem dX5_put_16 : decode cX5_put 16 = .ok (.iastore, 1) := by decide +kernel
theorem dX5_put_17 : decode cX5_put 17 = .ok (.goto 30, 3) := by decide +kernel
theorem dX5_put_20 : decode cX5_put 20 = .ok (.aload_n 0, 1) := by decide +kernel
theorem dX5_put_21 : decode cX5_put 21 = .ok (.getfield 15, 3) := by decide +kernel
theorem dX5_put_24 : decode cX5_put 24 = .ok (.bipush 16, 2) := by decide +kernel
theorem dX5_put_26 : decode cX5_put 26 = .ok (.if_icmp .ne 14, 3) := by decide +kernel
theorem dX5_put_29 : decode cX5_put 29 = .ok (.aload_n 0, 1) := by decide +kernel
theorem dX5_put_30 : decode cX5_put 30 = .ok (.getfield 9, 3) := by decide +kernel
theorem dX5_put_33 : decode cX5_put 33 = .ok (.iload_n 1, 1) := by decide +kernel
theorem dX5_put_34 : decode cX5_put 34 = .ok (.iload_n 2, 1) := by decide +kernel
theorem dX5_put_35 : decode cX5_put 35 = .ok (.i2s, 1) := by decide +kernel
theorem dX5_put_36 : decode cX5_put 36 = .ok (.iastore, 1) := by decide +kernel
theorem dX5_put_37 : decode cX5_put 37 = .ok (.goto 10, 3) := by decide +kernel
theorem dX5_put_40 : decode cX5_put 40 = .ok (.aload_n 0, 1) := by decide +kernel
theorem dX5_put_41 : decode cX5_put 41 = .ok (.getfield 9, 3) := by decide +kernel
theorem dX5_put_44 : decode cX5_put 44 = .ok (.iload_n 1, 1) := by decide +kernel
theorem dX5_put_45 : decode cX5_put 45 = .ok (.iload_n 2, 1) := by decide +kernel
theorem dX5_put_46 : decode cX5_put 46 = .ok (.iastore, 1) := by decide +kernel
theorem dX5_put_47 : decode cX5_put 47 = .ok (.return_, 1) := by decide +kernel
theorem dX5_hasRow_0 : decode cX5_hasRow 0 = .ok (.iload_n 2, 1) := by decide +kernel
theorem dX5_hasRow_1 : decode cX5_hasRow 1 = .ok (.ifCond .lt 29, 3) := by decide +kernel
theorem dX5_hasRow_4 : decode cX5_hasRow 4 = .ok (.iload_n 1, 1) := by decide +kernel
theorem dX5_hasRow_5 : decode cX5_hasRow 5 = .ok (.ifCond .lt 25, 3) := by decide +kernel
theorem dX5_hasRow_8 : decode cX5_hasRow 8 = .ok (.iload_n 2, 1) := by decide +kernel
theorem dX5_hasRow_9 : decode cX5_hasRow 9 = .ok (.aload_n 0, 1) := by decide +kernel
theorem dX5_hasRow_10 : decode cX5_hasRow 10 = .ok (.getfield 19, 3) := by decide +kernel
theorem dX5_hasRow_13 : decode cX5_hasRow 13 = .ok (.if_icmp .gt 17, 3) := by decide +kernel
theorem dX5_hasRow_16 : decode cX5_hasRow 16 = .ok (.iload_n 1, 1) := by decide +kernel
theorem dX5_hasRow_17 : decode cX5_hasRow 17 = .ok (.aload_n 0, 1) := by decide +kernel
theorem dX5_hasRow_18 : decode cX5_hasRow 18 = .ok (.getfield 19, 3) := by decide +kernel
theorem dX5_hasRow_21 : decode cX5_hasRow 21 = .ok (.iload_n 2, 1) := by decide +kernel
theorem dX5_hasRow_22 : decode cX5_hasRow 22 = .ok (.isub, 1) := by decide +kernel
theorem dX5_hasRow_23 : decode cX5_hasRow 23 = .ok (.if_icmp .gt 7, 3) := by decide +kernel
theorem dX5_hasRow_26 : decode cX5_hasRow 26 = .ok (.iconst 1, 1) := by decide +kernel
theorem dX5_hasRow_27 : decode cX5_hasRow 27 = .ok (.goto 4, 3) := by decide +kernel
theorem dX5_hasRow_30 : decode cX5_hasRow 30 = .ok (.iconst 0, 1) := by decide +kernel
theorem dX5_hasRow_31 : decode cX5_hasRow 31 = .ok (.ireturn, 1) := by decide +kernel
theorem dX6_init_0 : decode cX6_init 0 = .ok (.aload_n 0, 1) := by decide +kernel
theorem dX6_init_1 : decode cX6_init 1 = .ok (.invokespecial 3, 3) := by decide +kernel
theorem dX6_init_4 : decode cX6_init 4 = .ok (.aload_n 0, 1) := by decide +kernel
theorem dX6_init_5 : decode cX6_init 5 = .ok (.bipush 120, 2) := by decide +kernel
theorem dX6_init_7 : decode cX6_init 7 = .ok (.newarray .int, 2) := by decide +kernel
theorem dX6_init_9 : decode cX6_init 9 = .ok (.putfield 9, 3) := by decide +kernel
theorem dX6_init_12 : decode cX6_init 12 = .ok (.aload_n 0, 1) := by decide +kernel
theorem dX6_init_13 : decode cX6_init 13 = .ok (.bipush 120, 2) := by decide +kernel
theorem dX6_init_15 : decode cX6_init 15 = .ok (.newarray .int, 2) := by decide +kernel
theorem dX6_init_17 : decode cX6_init 17 = .ok (.putfield 15, 3) := by decide +kernel
theorem dX6_init_20 : decode cX6_init 20 = .ok (.aload_n 0, 1) := by decide +kernel
theorem dX6_init_21 : decode cX6_init 21 = .ok (.iconst 0, 1) := by decide +kernel
theorem dX6_init_22 : decode cX6_init 22 = .ok (.putfield 18, 3) := by decide +kernel
theorem dX6_init_25 : decode cX6_init 25 = .ok (.aload_n 0, 1) := by decide +kernel
theorem dX6_init_26 : decode cX6_init 26 = .ok (.iconst 0, 1) := by decide +kernel
theorem dX6_init_27 : decode cX6_init 27 = .ok (.putfield 22, 3) := by decide +kernel
theorem dX6_init_30 : decode cX6_init 30 = .ok (.aload_n 0, 1) := by decide +kernel
theorem dX6_init_31 : decode cX6_init 31 = .ok (.iconst 0, 1) := by decide +kernel
theorem dX6_init_32 : decode cX6_init 32 = .ok (.putfield 25, 3) := by decide +kernel
theorem dX6_init_35 : decode cX6_init 35 = .ok (.aload_n 0, 1) := by decide +kernel
theorem dX6_init_36 : decode cX6_init 36 = .ok (.iconst 0, 1) := by decide +kernel
theorem dX6_init_37 : decode cX6_init 37 = .ok (.putfield 28, 3) := by decide +kernel
theorem dX6_init_40 : decode cX6_init 40 = .ok (.return_, 1) := by decide +kernel
theorem dX6_put_0 : decode cX6_put 0 = .ok (.aload_n 0, 1) := by decide +kernel
theorem dX6_put_1 : decode cX6_put 1 = .ok (.getfield 9, 3) := by decide +kernel
theorem dX6_put_4 : decode cX6_put 4 = .ok (.aload_n 0, 1) := by decide +kernel
theorem dX6_put_5 : decode cX6_put 5 = .ok (.getfield 18, 3) := by decide +kernel
theorem dX6_put_8 : decode cX6_put 8 = .ok (.iload_n 1, 1) := by decide +kernel
theorem dX6_put_9 : decode cX6_put 9 = .ok (.iastore, 1) := by decide +kernel
theorem dX6_put_10 : decode cX6_put 10 = .ok (.aload_n 0, 1) := by decide +kernel
theorem dX6_put_11 : decode cX6_put 11 = .ok (.getfield 15, 3) := by decide +kernel
theorem dX6_put_14 : decode cX6_put 14 = .ok (.aload_n 0, 1) := by decide +kernel
theorem dX6_put_15 : decode cX6_put 15 = .ok (.getfield 18, 3) := by decide +kernel
theorem dX6_put_18 : decode cX6_put 18 = .ok (.iload_n 1, 1) := by decide +kernel
theorem dX6_put_19 : decode cX6_put 19 = .ok (.invokestatic 31, 3) := by decide +kernel
theorem dX6_put_22 : decode cX6_put 22 = .ok (.iastore, 1) := by decide +kernel
theorem dX6_put_23 : decode cX6_put 23 = .ok (.aload_n 0, 1) := by decide +kernel
theorem dX6_put_24 : decode cX6_put 24 = .ok (.dup, 1) := by decide +kernel
theorem dX6_put_25 : decode cX6_put 25 = .ok (.getfield 18, 3) := by decide +kernel
theorem dX6_put_28 : decode cX6_put 28 = .ok (.iconst 1, 1) := by decide +kernel
theorem dX6_put_29 : decode cX6_put 29 = .ok (.iadd, 1) := by decide +kernel
theorem dX6_put_30 : decode cX6_put 30 = .ok (.putfield 18, 3) := by decide +kernel
theorem dX6_put_33 : decode cX6_put 33 = .ok (.return_, 1) := by decide +kernel
theorem dX6_tokenBegunBy_0 : decode cX6_tokenBegunBy 0 = .ok (.iload_n 0, 1) := by decide +kernel
theorem dX6_tokenBegunBy_1 : decode cX6_tokenBegunBy 1 = .ok (.bipush 97, 2) := by decide +kernel
theorem dX6_tokenBegunBy_3 : decode cX6_tokenBegunBy 3 = .ok (.bipush 122, 2) := by decide +kernel
theorem dX6_tokenBegunBy_5 : decode cX6_tokenBegunBy 5 = .ok (.invokestatic 35, 3) := by decide +kernel
theorem dX6_tokenBegunBy_8 : decode cX6_tokenBegunBy 8 = .ok (.ifCond .eq 5, 3) := by decide +kernel
theorem dX6_tokenBegunBy_11 : decode cX6_tokenBegunBy 11 = .ok (.iconst 1, 1) := by decide +kernel
theorem dX6_tokenBegunBy_12 : decode cX6_tokenBegunBy 12 = .ok (.ireturn, 1) := by decide +kernel
theorem dX6_tokenBegunBy_13 : decode cX6_tokenBegunBy 13 = .ok (.iload_n 0, 1) := by decide +kernel
theorem dX6_tokenBegunBy_14 : decode cX6_tokenBegunBy 14 = .ok (.bipush 48, 2) := by decide +kernel
theorem dX6_tokenBegunBy_16 : decode cX6_tokenBegunBy 16 = .ok (.bipush 57, 2) := by decide +kernel
theorem dX6_tokenBegunBy_18 : decode cX6_tokenBegunBy 18 = .ok (.invokestatic 35, 3) := by decide +kernel
theorem dX6_tokenBegunBy_21 : decode cX6_tokenBegunBy 21 = .ok (.ifCond .eq 5, 3) := by decide +kernel
theorem dX6_tokenBegunBy_24 : decode cX6_tokenBegunBy 24 = .ok (.iconst 2, 1) := by decide +kernel
theorem dX6_tokenBegunBy_25 : decode cX6_tokenBegunBy 25 = .ok (.ireturn, 1) := by decide +kernel
theorem dX6_tokenBegunBy_26 : decode cX6_tokenBegunBy 26 = .ok (.iload_n 0, 1) := by decide +kernel
theorem dX6_tokenBegunBy_27 : decode cX6_tokenBegunBy 27 = .ok (.bipush 32, 2) := by decide +kernel
theorem dX6_tokenBegunBy_29 : decode cX6_tokenBegunBy 29 = .ok (.if_icmp .ne 5, 3) := by decide +kernel
theorem dX6_tokenBegunBy_32 : decode cX6_tokenBegunBy 32 = .ok (.iconst 4, 1) := by decide +kernel
theorem dX6_tokenBegunBy_33 : decode cX6_tokenBegunBy 33 = .ok (.ireturn, 1) := by decide +kernel
theorem dX6_tokenBegunBy_34 : decode cX6_tokenBegunBy 34 = .ok (.iload_n 0, 1) := by decide +kernel
theorem dX6_tokenBegunBy_35 : decode cX6_tokenBegunBy 35 = .ok (.bipush 59, 2) := by decide +kernel
theorem dX6_tokenBegunBy_37 : decode cX6_tokenBegunBy 37 = .ok (.if_icmp .ne 7, 3) := by decide +kernel
theorem dX6_tokenBegunBy_40 : decode cX6_tokenBegunBy 40 = .ok (.iconst 3, 1) := by decide +kernel
theorem dX6_tokenBegunBy_41 : decode cX6_tokenBegunBy 41 = .ok (.goto 4, 3) := by decide +kernel
theorem dX6_tokenBegunBy_44 : decode cX6_tokenBegunBy 44 = .ok (.iconst 5, 1) := by decide +kernel
theorem dX6_tokenBegunBy_45 : decode cX6_tokenBegunBy 45 = .ok (.ireturn, 1) := by decide +kernel
theorem dX6_rewind_0 : decode cX6_rewind 0 = .ok (.aload_n 0, 1) := by decide +kernel
theorem dX6_rewind_1 : decode cX6_rewind 1 = .ok (.iconst 0, 1) := by decide +kernel
theorem dX6_rewind_2 : decode cX6_rewind 2 = .ok (.putfield 28, 3) := by decide +kernel
theorem dX6_rewind_5 : decode cX6_rewind 5 = .ok (.aload_n 0, 1) := by decide +kernel
theorem dX6_rewind_6 : decode cX6_rewind 6 = .ok (.invokevirtual 39, 3) := by decide +kernel
theorem dX6_rewind_9 : decode cX6_rewind 9 = .ok (.return_, 1) := by decide +kernel
theorem dX6_advance_0 : decode cX6_advance 0 = .ok (.aload_n 0, 1) := by decide +kernel
theorem dX6_advance_1 : decode cX6_advance 1 = .ok (.aload_n 0, 1) := by decide +kernel
theorem dX6_advance_2 : decode cX6_advance 2 = .ok (.getfield 28, 3) := by decide +kernel
theorem dX6_advance_5 : decode cX6_advance 5 = .ok (.putfield 25, 3) := by decide +kernel
theorem dX6_advance_8 : decode cX6_advance 8 = .ok (.aload_n 0, 1) := by decide +kernel
theorem dX6_advance_9 : decode cX6_advance 9 = .ok (.getfield 25, 3) := by decide +kernel
theorem dX6_advance_12 : decode cX6_advance 12 = .ok (.aload_n 0, 1) := by decide +kernel
theorem dX6_advance_13 : decode cX6_advance 13 = .ok (.getfield 18, 3) := by decide +kernel
theorem dX6_advance_16 : decode cX6_advance 16 = .ok (.if_icmp .ge 29, 3) := by decide +kernel
theorem dX6_advance_19 : decode cX6_advance 19 = .ok (.aload_n 0, 1) := by decide +kernel
theorem dX6_advance_20 : decode cX6_advance 20 = .ok (.getfield 15, 3) := by decide +kernel
theorem dX6_advance_23 : decode cX6_advance 23 = .ok (.aload_n 0, 1) := by decide +kernel
theorem dX6_advance_24 : decode cX6_advance 24 = .ok (.getfield 25, 3) := by decide +kernel
theorem dX6_advance_27 : decode cX6_advance 27 = .ok (.iaload, 1) := by decide +kernel
theorem dX6_advance_28 : decode cX6_advance 28 = .ok (.iconst 4, 1) := by decide +kernel
theorem dX6_advance_29 : decode cX6_advance 29 = .ok (.if_icmp .ne 16, 3) := by decide +kernel
theorem dX6_advance_32 : decode cX6_advance 32 = .ok (.aload_n 0, 1) := by decide +kernel
theorem dX6_advance_33 : decode cX6_advance 33 = .ok (.dup, 1) := by decide +kernel
theorem dX6_advance_34 : decode cX6_advance 34 = .ok (.getfield 25, 3) := by decide +kernel
theorem dX6_advance_37 : decode cX6_advance 37 = .ok (.iconst 1, 1) := by decide +kernel
theorem dX6_advance_38 : decode cX6_advance 38 = .ok (.iadd, 1) := by decide +kernel
theorem dX6_advance_39 : decode cX6_advance 39 = .ok (.putfield 25, 3) := by decide +kernel
theorem dX6_advance_42 : decode cX6_advance 42 = .ok (.goto (-34), 3) := by decide +kernel
theorem dX6_advance_45 : decode cX6_advance 45 = .ok (.aload_n 0, 1) := by decide +kernel
theorem dX6_advance_46 : decode cX6_advance 46 = .ok (.aload_n 0, 1) := by decide +kernel
theorem dX6_advance_47 : decode cX6_advance 47 = .ok (.getfield 25, 3) := by decide +kernel
theorem dX6_advance_50 : decode cX6_advance 50 = .ok (.aload_n 0, 1) := by decide +kernel
theorem dX6_advance_51 : decode cX6_advance 51 = .ok (.getfield 18, 3) := by decide +kernel
theorem dX6_advance_54 : decode cX6_advance 54 = .ok (.if_icmp .ge 15, 3) := by decide +kernel
theorem dX6_advance_57 : decode cX6_advance 57 = .ok (.aload_n 0, 1) := by decide +kernel
theorem dX6_advance_58 : decode cX6_advance 58 = .ok (.getfield 15, 3) := by decide +kernel
theorem dX6_advance_61 : decode cX6_advance 61 = .ok (.aload_n 0, 1) := by decide +kernel
theorem dX6_advance_62 : decode cX6_advance 62 = .ok (.getfield 25, 3) := by decide +kernel
theorem dX6_advance_65 : decode cX6_advance 65 = .ok (.iaload, 1) := by decide +kernel
theorem dX6_advance_66 : decode cX6_advance 66 = .ok (.goto 4, 3) := by decide +kernel
theorem dX6_advance_69 : decode cX6_advance 69 = .ok (.iconst 0, 1) := by decide +kernel
theorem dX6_advance_70 : decode cX6_advance 70 = .ok (.putfield 22, 3) := by decide +kernel
theorem dX6_advance_73 : decode cX6_advance 73 = .ok (.aload_n 0, 1) := by decide +kernel
theorem dX6_advance_74 : decode cX6_advance 74 = .ok (.aload_n 0, 1) := by decide +kernel
theorem dX6_advance_75 : decode cX6_advance 75 = .ok (.getfield 25, 3) := by decide +kernel
theorem dX6_advance_78 : decode cX6_advance 78 = .ok (.iconst 1, 1) := by decide +kernel
theorem dX6_advance_79 : decode cX6_advance 79 = .ok (.iadd, 1) := by decide +kernel
theorem dX6_advance_80 : decode cX6_advance 80 = .ok (.aload_n 0, 1) := by decide +kernel
theorem dX6_advance_81 : decode cX6_advance 81 = .ok (.getfield 18, 3) := by decide +kernel
theorem dX6_advance_84 : decode cX6_advance 84 = .ok (.invokestatic 42, 3) := by decide +kernel
theorem dX6_advance_87 : decode cX6_advance 87 = .ok (.putfield 28, 3) := by decide +kernel
theorem dX6_advance_90 : decode cX6_advance 90 = .ok (.aload_n 0, 1) := by decide +kernel
theorem dX6_advance_91 : decode cX6_advance 91 = .ok (.getfield 22, 3) := by decide +kernel
theorem dX6_advance_94 : decode cX6_advance 94 = .ok (.iconst 1, 1) := by decide +kernel
theorem dX6_advance_95 : decode cX6_advance 95 = .ok (.if_icmp .eq 11, 3) := by decide +kernel
theorem dX6_advance_98 : decode cX6_advance 98 = .ok (.aload_n 0, 1) := by decide +kernel
theorem dX6_advance_99 : decode cX6_advance 99 = .ok (.getfield 22, 3) := by decide +kernel
theorem dX6_advance_102 : decode cX6_advance 102 = .ok (.iconst 2, 1) := by decide +kernel
theorem dX6_advance_103 : decode cX6_advance 103 = .ok (.if_icmp .ne 7, 3) := by decide +kernel
theorem dX6_advance_106 : decode cX6_advance 106 = .ok (.iconst 1, 1) := by decide +kernel
theorem dX6_advance_107 : decode cX6_advance 107 = .ok (.goto 4, 3) := by decide +kernel
theorem dX6_advance_110 : decode cX6_advance 110 = .ok (.iconst 0, 1) := by decide +kernel
theorem dX6_advance_111 : decode cX6_advance 111 = .ok (.istore_n 1, 1) := by decide +kernel
theorem dX6_advance_112 : decode cX6_advance 112 = .ok (.iload_n 1, 1) := by decide +kernel
theorem dX6_advance_113 : decode cX6_advance 113 = .ok (.ifCond .eq 43, 3) := by decide +kernel
theorem dX6_advance_116 : decode cX6_advance 116 = .ok (.aload_n 0, 1) := by decide +kernel
theorem dX6_advance_117 : decode cX6_advance 117 = .ok (.getfield 28, 3) := by decide +kernel
theorem dX6_advance_120 : decode cX6_advance 120 = .ok (.aload_n 0, 1) := by decide +kernel
theorem dX6_advance_121 : decode cX6_advance 121 = .ok (.getfield 18, 3) := by decide +kernel
theorem dX6_advance_124 : decode cX6_advance 124 = .ok (.if_icmp .ge 32, 3) := by decide +kernel
theorem dX6_advance_127 : decode cX6_advance 127 = .ok (.aload_n 0, 1) := by decide +kernel
theorem dX6_advance_128 : decode cX6_advance 128 = .ok (.getfield 15, 3) := by decide +kernel
theorem dX6_advance_131 : decode cX6_advance 131 = .ok (.aload_n 0, 1) := by decide +kernel
theorem dX6_advance_132 : decode cX6_advance 132 = .ok (.getfield 28, 3) := by decide +kernel
theorem dX6_advance_135 : decode cX6_advance 135 = .ok (.iaload, 1) := by decide +kernel
theorem dX6_advance_136 : decode cX6_advance 136 = .ok (.aload_n 0, 1) := by decide +kernel
theorem dX6_advance_137 : decode cX6_advance 137 = .ok (.getfield 22, 3) := by decide +kernel
theorem dX6_advance_140 : decode cX6_advance 140 = .ok (.if_icmp .ne 16, 3) := by decide +kernel
theorem dX6_advance_143 : decode cX6_advance 143 = .ok (.aload_n 0, 1) := by decide +kernel
theorem dX6_advance_144 : decode cX6_advance 144 = .ok (.dup, 1) := by decide +kernel
theorem dX6_advance_145 : decode cX6_advance 145 = .ok (.getfield 28, 3) := by decide +kernel
theorem dX6_advance_148 : decode cX6_advance 148 = .ok (.iconst 1, 1) := by decide +kernel
theorem dX6_advance_149 : decode cX6_advance 149 = .ok (.iadd, 1) := by decide +kernel
theorem dX6_advance_150 : decode cX6_advance 150 = .ok (.putfield 28, 3) := by decide +kernel
theorem dX6_advance_153 : decode cX6_advance 153 = .ok (.goto (-41), 3) := by decide +kernel
theorem dX6_advance_156 : decode cX6_advance 156 = .ok (.return_, 1) := by decide +kernel
theorem dX6_value_0 : decode cX6_value 0 = .ok (.aload_n 0, 1) := by decide +kernel
theorem dX6_value_1 : decode cX6_value 1 = .ok (.getfield 22, 3) := by decide +kernel
theorem dX6_value_4 : decode cX6_value 4 = .ok (.iconst 2, 1) := by decide +kernel
theorem dX6_value_5 : decode cX6_value 5 = .ok (.if_icmp .eq 5, 3) := by decide +kernel
theorem dX6_value_8 : decode cX6_value 8 = .ok (.iconst (-1), 1) := by decide +kernel
theorem dX6_value_9 : decode cX6_value 9 = .ok (.ireturn, 1) := by decide +kernel
theorem dX6_value_10 : decode cX6_value 10 = .ok (.iconst 0, 1) := by decide +kernel
theorem dX6_value_11 : decode cX6_value 11 = .ok (.istore_n 1, 1) := by decide +kernel
theorem dX6_value_12 : decode cX6_value 12 = .ok (.aload_n 0, 1) := by decide +kernel
theorem dX6_value_13 : decode cX6_value 13 = .ok (.getfield 25, 3) := by decide +kernel
theorem dX6_value_16 : decode cX6_value 16 = .ok (.istore_n 2, 1) := by decide +kernel
theorem dX6_value_17 : decode cX6_value 17 = .ok (.iload_n 2, 1) := by decide +kernel
theorem dX6_value_18 : decode cX6_value 18 = .ok (.aload_n 0, 1) := by decide +kernel
theorem dX6_value_19 : decode cX6_value 19 = .ok (.getfield 28, 3) := by decide +kernel
theorem dX6_value_22 : decode cX6_value 22 = .ok (.if_icmp .ge 30, 3) := by decide +kernel
theorem dX6_value_25 : decode cX6_value 25 = .ok (.sipush 1000, 3) := by decide +kernel
theorem dX6_value_28 : decode cX6_value 28 = .ok (.iload_n 1, 1) := by decide +kernel
theorem dX6_value_29 : decode cX6_value 29 = .ok (.bipush 10, 2) := by decide +kernel
theorem dX6_value_31 : decode cX6_value 31 = .ok (.imul, 1) := by decide +kernel
theorem dX6_value_32 : decode cX6_value 32 = .ok (.aload_n 0, 1) := by decide +kernel
theorem dX6_value_33 : decode cX6_value 33 = .ok (.getfield 9, 3) := by decide +kernel
theorem dX6_value_36 : decode cX6_value 36 = .ok (.iload_n 2, 1) := by decide +kernel
theorem dX6_value_37 : decode cX6_value 37 = .ok (.iaload, 1) := by decide +kernel
theorem dX6_value_38 : decode cX6_value 38 = .ok (.iadd, 1) := by decide +kernel
theorem dX6_value_39 : decode cX6_value 39 = .ok (.bipush 48, 2) := by decide +kernel
theorem dX6_value_41 : decode cX6_value 41 = .ok (.isub, 1) := by decide +kernel
theorem dX6_value_42 : decode cX6_value 42 = .ok (.invokestatic 42, 3) := by decide +kernel
theorem dX6_value_45 : decode cX6_value 45 = .ok (.istore_n 1, 1) := by decide +kernel
theorem dX6_value_46 : decode cX6_value 46 = .ok (.iinc 2 1, 3) := by decide +kernel
theorem dX6_value_49 : decode cX6_value 49 = .ok (.goto (-32), 3) := by decide +kernel
theorem dX6_value_52 : decode cX6_value 52 = .ok (.iload_n 1, 1) := by decide +kernel
theorem dX6_value_53 : decode cX6_value 53 = .ok (.ireturn, 1) := by decide +kernel
theorem dX6_isWord_0 : decode cX6_isWord 0 = .ok (.aload_n 0, 1) := by decide +kernel
theorem dX6_isWord_1 : decode cX6_isWord 1 = .ok (.getfield 22, 3) := by decide +kernel
theorem dX6_isWord_4 : decode cX6_isWord 4 = .ok (.iconst 1, 1) := by decide +kernel
theorem dX6_isWord_5 : decode cX6_isWord 5 = .ok (.if_icmp .ne 19, 3) := by decide +kernel
theorem dX6_isWord_8 : decode cX6_isWord 8 = .ok (.aload_n 0, 1) := by decide +kernel
theorem dX6_isWord_9 : decode cX6_isWord 9 = .ok (.getfield 28, 3) := by decide +kernel
theorem dX6_isWord_12 : decode cX6_isWord 12 = .ok (.aload_n 0, 1) := by decide +kernel
theorem dX6_isWord_13 : decode cX6_isWord 13 = .ok (.getfield 25, 3) := by decide +kernel
theorem dX6_isWord_16 : decode cX6_isWord 16 = .ok (.isub, 1) := by decide +kernel
theorem dX6_isWord_17 : decode cX6_isWord 17 = .ok (.aload_n 1, 1) := by decide +kernel
theorem dX6_isWord_18 : decode cX6_isWord 18 = .ok (.invokevirtual 48, 3) := by decide +kernel
theorem dX6_isWord_21 : decode cX6_isWord 21 = .ok (.if_icmp .eq 5, 3) := by decide +kernel
theorem dX6_isWord_24 : decode cX6_isWord 24 = .ok (.iconst 0, 1) := by decide +kernel
theorem dX6_isWord_25 : decode cX6_isWord 25 = .ok (.ireturn, 1) := by decide +kernel
theorem dX6_isWord_26 : decode cX6_isWord 26 = .ok (.iconst 0, 1) := by decide +kernel
theorem dX6_isWord_27 : decode cX6_isWord 27 = .ok (.istore_n 2, 1) := by decide +kernel
theorem dX6_isWord_28 : decode cX6_isWord 28 = .ok (.iload_n 2, 1) := by decide +kernel
theorem dX6_isWord_29 : decode cX6_isWord 29 = .ok (.aload_n 1, 1) := by decide +kernel
theorem dX6_isWord_30 : decode cX6_isWord 30 = .ok (.invokevirtual 48, 3) := by decide +kernel
theorem dX6_isWord_33 : decode cX6_isWord 33 = .ok (.if_icmp .ge 30, 3) := by decide +kernel
theorem dX6_isWord_36 : decode cX6_isWord 36 = .ok (.aload_n 0, 1) := by decide +kernel
theorem dX6_isWord_37 : decode cX6_isWord 37 = .ok (.getfield 9, 3) := by decide +kernel
theorem dX6_isWord_40 : decode cX6_isWord 40 = .ok (.aload_n 0, 1) := by decide +kernel
theorem dX6_isWord_41 : decode cX6_isWord 41 = .ok (.getfield 25, 3) := by decide +kernel
theorem dX6_isWord_44 : decode cX6_isWord 44 = .ok (.iload_n 2, 1) := by decide +kernel
theorem dX6_isWord_45 : decode cX6_isWord 45 = .ok (.iadd, 1) := by decide +kernel
theorem dX6_isWord_46 : decode cX6_isWord 46 = .ok (.iaload, 1) := by decide +kernel
theorem dX6_isWord_47 : decode cX6_isWord 47 = .ok (.aload_n 1, 1) := by decide +kernel
theorem dX6_isWord_48 : decode cX6_isWord 48 = .ok (.iload_n 2, 1) := by decide +kernel
theorem dX6_isWord_49 : decode cX6_isWord 49 = .ok (.invokevirtual 54, 3) := by decide +kernel
theorem dX6_isWord_52 : decode cX6_isWord 52 = .ok (.if_icmp .eq 5, 3) := by decide +kernel
theorem dX6_isWord_55 : decode cX6_isWord 55 = .ok (.iconst 0, 1) := by decide +kernel
theorem dX6_isWord_56 : decode cX6_isWord 56 = .ok (.ireturn, 1) := by decide +kernel
theorem dX6_isWord_57 : decode cX6_isWord 57 = .ok (.iinc 2 1, 3) := by decide +kernel
theorem dX6_isWord_60 : decode cX6_isWord 60 = .ok (.goto (-32), 3) := by decide +kernel
theorem dX6_isWord_63 : decode cX6_isWord 63 = .ok (.iconst 1, 1) := by decide +kernel
theorem dX6_isWord_64 : decode cX6_isWord 64 = .ok (.ireturn, 1) := by decide +kernel
theorem dX7_init_0 : decode cX7_init 0 = .ok (.aload_n 0, 1) := by decide +kernel
theorem dX7_init_1 : decode cX7_init 1 = .ok (.invokespecial 3, 3) := by decide +kernel
theorem dX7_init_4 : decode cX7_init 4 = .ok (.aload_n 0, 1) := by decide +kernel
theorem dX7_init_5 : decode cX7_init 5 = .ok (.iconst 3, 1) := by decide +kernel
theorem dX7_init_6 : decode cX7_init 6 = .ok (.newarray .int, 2) := by decide +kernel
theorem dX7_init_8 : decode cX7_init 8 = .ok (.putfield 9, 3) := by decide +kernel
theorem dX7_init_11 : decode cX7_init 11 = .ok (.aload_n 0, 1) := by decide +kernel
theorem dX7_init_12 : decode cX7_init 12 = .ok (.bipush 18, 2) := by decide +kernel
theorem dX7_init_14 : decode cX7_init 14 = .ok (.newarray .int, 2) := by decide +kernel
theorem dX7_init_16 : decode cX7_init 16 = .ok (.putfield 15, 3) := by decide +kernel
theorem dX7_init_19 : decode cX7_init 19 = .ok (.return_, 1) := by decide +kernel
theorem dX7_choose_0 : decode cX7_choose 0 = .ok (.iconst 0, 1) := by decide +kernel
theorem dX7_choose_1 : decode cX7_choose 1 = .ok (.istore 4, 2) := by decide +kernel
theorem dX7_choose_3 : decode cX7_choose 3 = .ok (.iload 4, 2) := by decide +kernel
theorem dX7_choose_5 : decode cX7_choose 5 = .ok (.aload_n 1, 1) := by decide +kernel
theorem dX7_choose_6 : decode cX7_choose 6 = .ok (.getfield 18, 3) := by decide +kernel
theorem dX7_choose_9 : decode cX7_choose 9 = .ok (.if_icmp .ge 57, 3) := by decide +kernel
theorem dX7_choose_12 : decode cX7_choose 12 = .ok (.iconst 0, 1) := by decide +kernel
theorem dX7_choose_13 : decode cX7_choose 13 = .ok (.istore 5, 2) := by decide +kernel
theorem dX7_choose_15 : decode cX7_choose 15 = .ok (.iload 5, 2) := by decide +kernel
end
section
theorem dX7_choose_17 : decode cX7_choose 17 = .ok (.iconst 3, 1) := by decide +kernel
theorem dX7_choose_18 : decode cX7_choose 18 = .ok (.if_icmp .ge 42, 3) := by decide +kernel
theorem dX7_choose_21 : decode cX7_choose 21 = .ok (.aload_n 0, 1) := by decide +kernel
theorem dX7_choose_22 : decode cX7_choose 22 = .ok (.getfield 15, 3) := by decide +kernel
theorem dX7_choose_25 : decode cX7_choose 25 = .ok (.iload 5, 2) := by decide +kernel
theorem dX7_choose_27 : decode cX7_choose 27 = .ok (.bipush 6, 2) := by decide +kernel
theorem dX7_choose_29 : decode cX7_choose 29 = .ok (.imul, 1) := by decide +kernel
theorem dX7_choose_30 : decode cX7_choose 30 = .ok (.iload 4, 2) := by decide +kernel
theorem dX7_choose_32 : decode cX7_choose 32 = .ok (.iadd, 1) := by decide +kernel
theorem dX7_choose_33 : decode cX7_choose 33 = .ok (.aload_n 2, 1) := by decide +kernel
theorem dX7_choose_34 : decode cX7_choose 34 = .ok (.aload_n 1, 1) := by decide +kernel
theorem dX7_choose_35 : decode cX7_choose 35 = .ok (.iload 4, 2) := by decide +kernel
theorem dX7_choose_37 : decode cX7_choose 37 = .ok (.iload 5, 2) := by decide +kernel
theorem dX7_choose_39 : decode cX7_choose 39 = .ok (.bipush 10, 2) := by decide +kernel
theorem dX7_choose_41 : decode cX7_choose 41 = .ok (.imul, 1) := by decide +kernel
theorem dX7_choose_42 : decode cX7_choose 42 = .ok (.iload 5, 2) := by decide +kernel
theorem dX7_choose_44 : decode cX7_choose 44 = .ok (.iconst 1, 1) := by decide +kernel
theorem dX7_choose_45 : decode cX7_choose 45 = .ok (.iadd, 1) := by decide +kernel
theorem dX7_choose_46 : decode cX7_choose 46 = .ok (.bipush 10, 2) := by decide +kernel
theorem dX7_choose_48 : decode cX7_choose 48 = .ok (.imul, 1) := by decide +kernel
theorem dX7_choose_49 : decode cX7_choose 49 = .ok (.iconst 0, 1) := by decide +kernel
theorem dX7_choose_50 : decode cX7_choose 50 = .ok (.invokevirtual 24, 3) := by decide +kernel
theorem dX7_choose_53 : decode cX7_choose 53 = .ok (.iastore, 1) := by decide +kernel
theorem dX7_choose_54 : decode cX7_choose 54 = .ok (.iinc 5 1, 3) := by decide +kernel
theorem dX7_choose_57 : decode cX7_choose 57 = .ok (.goto (-42), 3) := by decide +kernel
theorem dX7_choose_60 : decode cX7_choose 60 = .ok (.iinc 4 1, 3) := by decide +kernel
theorem dX7_choose_63 : decode cX7_choose 63 = .ok (.goto (-60), 3) := by decide +kernel
theorem dX7_choose_66 : decode cX7_choose 66 = .ok (.aload_n 0, 1) := by decide +kernel
theorem dX7_choose_67 : decode cX7_choose 67 = .ok (.ldc 32, 2) := by decide +kernel
theorem dX7_choose_69 : decode cX7_choose 69 = .ok (.putfield 33, 3) := by decide +kernel
theorem dX7_choose_72 : decode cX7_choose 72 = .ok (.iconst 0, 1) := by decide +kernel
theorem dX7_choose_73 : decode cX7_choose 73 = .ok (.istore 4, 2) := by decide +kernel
theorem dX7_choose_75 : decode cX7_choose 75 = .ok (.iload 4, 2) := by decide +kernel
theorem dX7_choose_77 : decode cX7_choose 77 = .ok (.aload_n 1, 1) := by decide +kernel
theorem dX7_choose_78 : decode cX7_choose 78 = .ok (.getfield 18, 3) := by decide +kernel
theorem dX7_choose_81 : decode cX7_choose 81 = .ok (.if_icmp .ge 68, 3) := by decide +kernel
theorem dX7_choose_84 : decode cX7_choose 84 = .ok (.iconst 0, 1) := by decide +kernel
theorem dX7_choose_85 : decode cX7_choose 85 = .ok (.istore 5, 2) := by decide +kernel
theorem dX7_choose_87 : decode cX7_choose 87 = .ok (.iload 5, 2) := by decide +kernel
theorem dX7_choose_89 : decode cX7_choose 89 = .ok (.aload_n 1, 1) := by decide +kernel
theorem dX7_choose_90 : decode cX7_choose 90 = .ok (.getfield 18, 3) := by decide +kernel
theorem dX7_choose_93 : decode cX7_choose 93 = .ok (.if_icmp .ge 50, 3) := by decide +kernel
theorem dX7_choose_96 : decode cX7_choose 96 = .ok (.iconst 0, 1) := by decide +kernel
theorem dX7_choose_97 : decode cX7_choose 97 = .ok (.istore 6, 2) := by decide +kernel
theorem dX7_choose_99 : decode cX7_choose 99 = .ok (.iload 6, 2) := by decide +kernel
theorem dX7_choose_101 : decode cX7_choose 101 = .ok (.aload_n 1, 1) := by decide +kernel
theorem dX7_choose_102 : decode cX7_choose 102 = .ok (.getfield 18, 3) := by decide +kernel
theorem dX7_choose_105 : decode cX7_choose 105 = .ok (.if_icmp .ge 32, 3) := by decide +kernel
theorem dX7_choose_108 : decode cX7_choose 108 = .ok (.iload_n 3, 1) := by decide +kernel
theorem dX7_choose_109 : decode cX7_choose 109 = .ok (.iload 4, 2) := by decide +kernel
theorem dX7_choose_111 : decode cX7_choose 111 = .ok (.iload 5, 2) := by decide +kernel
theorem dX7_choose_113 : decode cX7_choose 113 = .ok (.iload 6, 2) := by decide +kernel
theorem dX7_choose_115 : decode cX7_choose 115 = .ok (.invokestatic 36, 3) := by decide +kernel
theorem dX7_choose_118 : decode cX7_choose 118 = .ok (.ifCond .eq 13, 3) := by decide +kernel
theorem dX7_choose_121 : decode cX7_choose 121 = .ok (.aload_n 0, 1) := by decide +kernel
theorem dX7_choose_122 : decode cX7_choose 122 = .ok (.iload 4, 2) := by decide +kernel
theorem dX7_choose_124 : decode cX7_choose 124 = .ok (.iload 5, 2) := by decide +kernel
theorem dX7_choose_126 : decode cX7_choose 126 = .ok (.iload 6, 2) := by decide +kernel
theorem dX7_choose_128 : decode cX7_choose 128 = .ok (.invokevirtual 40, 3) := by decide +kernel
theorem dX7_choose_131 : decode cX7_choose 131 = .ok (.iinc 6 1, 3) := by decide +kernel
theorem dX7_choose_134 : decode cX7_choose 134 = .ok (.goto (-35), 3) := by decide +kernel
theorem dX7_choose_137 : decode cX7_choose 137 = .ok (.iinc 5 1, 3) := by decide +kernel
theorem dX7_choose_140 : decode cX7_choose 140 = .ok (.goto (-53), 3) := by decide +kernel
theorem dX7_choose_143 : decode cX7_choose 143 = .ok (.iinc 4 1, 3) := by decide +kernel
theorem dX7_choose_146 : decode cX7_choose 146 = .ok (.goto (-71), 3) := by decide +kernel
theorem dX7_choose_149 : decode cX7_choose 149 = .ok (.aload_n 0, 1) := by decide +kernel
theorem dX7_choose_150 : decode cX7_choose 150 = .ok (.getfield 33, 3) := by decide +kernel
theorem dX7_choose_153 : decode cX7_choose 153 = .ok (.ireturn, 1) := by decide +kernel
theorem dX7_areUnlikeOf_0 : decode cX7_areUnlikeOf 0 = .ok (.iconst 1, 1) := by decide +kernel
theorem dX7_areUnlikeOf_1 : decode cX7_areUnlikeOf 1 = .ok (.iload_n 1, 1) := by decide +kernel
theorem dX7_areUnlikeOf_2 : decode cX7_areUnlikeOf 2 = .ok (.ishl, 1) := by decide +kernel
theorem dX7_areUnlikeOf_3 : decode cX7_areUnlikeOf 3 = .ok (.iconst 1, 1) := by decide +kernel
theorem dX7_areUnlikeOf_4 : decode cX7_areUnlikeOf 4 = .ok (.iload_n 2, 1) := by decide +kernel
theorem dX7_areUnlikeOf_5 : decode cX7_areUnlikeOf 5 = .ok (.ishl, 1) := by decide +kernel
theorem dX7_areUnlikeOf_6 : decode cX7_areUnlikeOf 6 = .ok (.ior, 1) := by decide +kernel
theorem dX7_areUnlikeOf_7 : decode cX7_areUnlikeOf 7 = .ok (.iconst 1, 1) := by decide +kernel
theorem dX7_areUnlikeOf_8 : decode cX7_areUnlikeOf 8 = .ok (.iload_n 3, 1) := by decide +kernel
theorem dX7_areUnlikeOf_9 : decode cX7_areUnlikeOf 9 = .ok (.ishl, 1) := by decide +kernel
theorem dX7_areUnlikeOf_10 : decode cX7_areUnlikeOf 10 = .ok (.ior, 1) := by decide +kernel
theorem dX7_areUnlikeOf_11 : decode cX7_areUnlikeOf 11 = .ok (.istore 4, 2) := by decide +kernel
theorem dX7_areUnlikeOf_13 : decode cX7_areUnlikeOf 13 = .ok (.iload 4, 2) := by decide +kernel
theorem dX7_areUnlikeOf_15 : decode cX7_areUnlikeOf 15 = .ok (.invokestatic 44, 3) := by decide +kernel
theorem dX7_areUnlikeOf_18 : decode cX7_areUnlikeOf 18 = .ok (.iconst 3, 1) := by decide +kernel
theorem dX7_areUnlikeOf_19 : decode cX7_areUnlikeOf 19 = .ok (.if_icmp .ne 16, 3) := by decide +kernel
theorem dX7_areUnlikeOf_22 : decode cX7_areUnlikeOf 22 = .ok (.iload_n 0, 1) := by decide +kernel
theorem dX7_areUnlikeOf_23 : decode cX7_areUnlikeOf 23 = .ok (.iload 4, 2) := by decide +kernel
theorem dX7_areUnlikeOf_25 : decode cX7_areUnlikeOf 25 = .ok (.iand, 1) := by decide +kernel
theorem dX7_areUnlikeOf_26 : decode cX7_areUnlikeOf 26 = .ok (.iload 4, 2) := by decide +kernel
theorem dX7_areUnlikeOf_28 : decode cX7_areUnlikeOf 28 = .ok (.if_icmp .ne 7, 3) := by decide +kernel
theorem dX7_areUnlikeOf_31 : decode cX7_areUnlikeOf 31 = .ok (.iconst 1, 1) := by decide +kernel
theorem dX7_areUnlikeOf_32 : decode cX7_areUnlikeOf 32 = .ok (.goto 4, 3) := by decide +kernel
theorem dX7_areUnlikeOf_35 : decode cX7_areUnlikeOf 35 = .ok (.iconst 0, 1) := by decide +kernel
theorem dX7_areUnlikeOf_36 : decode cX7_areUnlikeOf 36 = .ok (.ireturn, 1) := by decide +kernel
theorem dX7_weigh_0 : decode cX7_weigh 0 = .ok (.aload_n 0, 1) := by decide +kernel
theorem dX7_weigh_1 : decode cX7_weigh 1 = .ok (.getfield 15, 3) := by decide +kernel
theorem dX7_weigh_4 : decode cX7_weigh 4 = .ok (.iload_n 1, 1) := by decide +kernel
theorem dX7_weigh_5 : decode cX7_weigh 5 = .ok (.iaload, 1) := by decide +kernel
theorem dX7_weigh_6 : decode cX7_weigh 6 = .ok (.aload_n 0, 1) := by decide +kernel
theorem dX7_weigh_7 : decode cX7_weigh 7 = .ok (.getfield 15, 3) := by decide +kernel
theorem dX7_weigh_10 : decode cX7_weigh 10 = .ok (.bipush 6, 2) := by decide +kernel
theorem dX7_weigh_12 : decode cX7_weigh 12 = .ok (.iload_n 2, 1) := by decide +kernel
theorem dX7_weigh_13 : decode cX7_weigh 13 = .ok (.iadd, 1) := by decide +kernel
theorem dX7_weigh_14 : decode cX7_weigh 14 = .ok (.iaload, 1) := by decide +kernel
theorem dX7_weigh_15 : decode cX7_weigh 15 = .ok (.iadd, 1) := by decide +kernel
theorem dX7_weigh_16 : decode cX7_weigh 16 = .ok (.aload_n 0, 1) := by decide +kernel
theorem dX7_weigh_17 : decode cX7_weigh 17 = .ok (.getfield 15, 3) := by decide +kernel
theorem dX7_weigh_20 : decode cX7_weigh 20 = .ok (.bipush 12, 2) := by decide +kernel
theorem dX7_weigh_22 : decode cX7_weigh 22 = .ok (.iload_n 3, 1) := by decide +kernel
theorem dX7_weigh_23 : decode cX7_weigh 23 = .ok (.iadd, 1) := by decide +kernel
theorem dX7_weigh_24 : decode cX7_weigh 24 = .ok (.iaload, 1) := by decide +kernel
theorem dX7_weigh_25 : decode cX7_weigh 25 = .ok (.iadd, 1) := by decide +kernel
theorem dX7_weigh_26 : decode cX7_weigh 26 = .ok (.istore 4, 2) := by decide +kernel
theorem dX7_weigh_28 : decode cX7_weigh 28 = .ok (.iload 4, 2) := by decide +kernel
theorem dX7_weigh_30 : decode cX7_weigh 30 = .ok (.aload_n 0, 1) := by decide +kernel
theorem dX7_weigh_31 : decode cX7_weigh 31 = .ok (.getfield 33, 3) := by decide +kernel
theorem dX7_weigh_34 : decode cX7_weigh 34 = .ok (.if_icmp .ge 30, 3) := by decide +kernel
theorem dX7_weigh_37 : decode cX7_weigh 37 = .ok (.aload_n 0, 1) := by decide +kernel
theorem dX7_weigh_38 : decode cX7_weigh 38 = .ok (.iload 4, 2) := by decide +kernel
theorem dX7_weigh_40 : decode cX7_weigh 40 = .ok (.putfield 33, 3) := by decide +kernel
theorem dX7_weigh_43 : decode cX7_weigh 43 = .ok (.aload_n 0, 1) := by decide +kernel
theorem dX7_weigh_44 : decode cX7_weigh 44 = .ok (.getfield 9, 3) := by decide +kernel
theorem dX7_weigh_47 : decode cX7_weigh 47 = .ok (.iconst 0, 1) := by decide +kernel
theorem dX7_weigh_48 : decode cX7_weigh 48 = .ok (.iload_n 1, 1) := by decide +kernel
theorem dX7_weigh_49 : decode cX7_weigh 49 = .ok (.iastore, 1) := by decide +kernel
theorem dX7_weigh_50 : decode cX7_weigh 50 = .ok (.aload_n 0, 1) := by decide +kernel
theorem dX7_weigh_51 : decode cX7_weigh 51 = .ok (.getfield 9, 3) := by decide +kernel
theorem dX7_weigh_54 : decode cX7_weigh 54 = .ok (.iconst 1, 1) := by decide +kernel
theorem dX7_weigh_55 : decode cX7_weigh 55 = .ok (.iload_n 2, 1) := by decide +kernel
theorem dX7_weigh_56 : decode cX7_weigh 56 = .ok (.iastore, 1) := by decide +kernel
theorem dX7_weigh_57 : decode cX7_weigh 57 = .ok (.aload_n 0, 1) := by decide +kernel
theorem dX7_weigh_58 : decode cX7_weigh 58 = .ok (.getfield 9, 3) := by decide +kernel
theorem dX7_weigh_61 : decode cX7_weigh 61 = .ok (.iconst 2, 1) := by decide +kernel
theorem dX7_weigh_62 : decode cX7_weigh 62 = .ok (.iload_n 3, 1) := by decide +kernel
theorem dX7_weigh_63 : decode cX7_weigh 63 = .ok (.iastore, 1) := by decide +kernel
theorem dX7_weigh_64 : decode cX7_weigh 64 = .ok (.return_, 1) := by decide +kernel
theorem dX8_init_0 : decode cX8_init 0 = .ok (.aload_n 0, 1) := by decide +kernel
theorem dX8_init_1 : decode cX8_init 1 = .ok (.invokespecial 3, 3) := by decide +kernel
theorem dX8_init_4 : decode cX8_init 4 = .ok (.aload_n 0, 1) := by decide +kernel
theorem dX8_init_5 : decode cX8_init 5 = .ok (.bipush 7, 2) := by decide +kernel
theorem dX8_init_7 : decode cX8_init 7 = .ok (.newarray .int, 2) := by decide +kernel
theorem dX8_init_9 : decode cX8_init 9 = .ok (.putfield 9, 3) := by decide +kernel
theorem dX8_init_12 : decode cX8_init 12 = .ok (.aload_n 0, 1) := by decide +kernel
theorem dX8_init_13 : decode cX8_init 13 = .ok (.new 13, 3) := by decide +kernel
theorem dX8_init_16 : decode cX8_init 16 = .ok (.dup, 1) := by decide +kernel
theorem dX8_init_17 : decode cX8_init 17 = .ok (.invokespecial 15, 3) := by decide +kernel
theorem dX8_init_20 : decode cX8_init 20 = .ok (.putfield 16, 3) := by decide +kernel
theorem dX8_init_23 : decode cX8_init 23 = .ok (.aload_n 0, 1) := by decide +kernel
theorem dX8_init_24 : decode cX8_init 24 = .ok (.new 13, 3) := by decide +kernel
theorem dX8_init_27 : decode cX8_init 27 = .ok (.dup, 1) := by decide +kernel
theorem dX8_init_28 : decode cX8_init 28 = .ok (.invokespecial 15, 3) := by decide +kernel
theorem dX8_init_31 : decode cX8_init 31 = .ok (.putfield 20, 3) := by decide +kernel
theorem dX8_init_34 : decode cX8_init 34 = .ok (.aload_n 0, 1) := by decide +kernel
theorem dX8_init_35 : decode cX8_init 35 = .ok (.new 13, 3) := by decide +kernel
theorem dX8_init_38 : decode cX8_init 38 = .ok (.dup, 1) := by decide +kernel
theorem dX8_init_39 : decode cX8_init 39 = .ok (.invokespecial 15, 3) := by decide +kernel
theorem dX8_init_42 : decode cX8_init 42 = .ok (.putfield 23, 3) := by decide +kernel
theorem dX8_init_45 : decode cX8_init 45 = .ok (.aload_n 0, 1) := by decide +kernel
theorem dX8_init_46 : decode cX8_init 46 = .ok (.new 26, 3) := by decide +kernel
theorem dX8_init_49 : decode cX8_init 49 = .ok (.dup, 1) := by decide +kernel
theorem dX8_init_50 : decode cX8_init 50 = .ok (.invokespecial 28, 3) := by decide +kernel
theorem dX8_init_53 : decode cX8_init 53 = .ok (.putfield 29, 3) := by decide +kernel
theorem dX8_init_56 : decode cX8_init 56 = .ok (.aload_n 0, 1) := by decide +kernel
theorem dX8_init_57 : decode cX8_init 57 = .ok (.new 33, 3) := by decide +kernel
theorem dX8_init_60 : decode cX8_init 60 = .ok (.dup, 1) := by decide +kernel
theorem dX8_init_61 : decode cX8_init 61 = .ok (.invokespecial 35, 3) := by decide +kernel
theorem dX8_init_64 : decode cX8_init 64 = .ok (.putfield 36, 3) := by decide +kernel
theorem dX8_init_67 : decode cX8_init 67 = .ok (.aload_n 0, 1) := by decide +kernel
theorem dX8_init_68 : decode cX8_init 68 = .ok (.new 40, 3) := by decide +kernel
theorem dX8_init_71 : decode cX8_init 71 = .ok (.dup, 1) := by decide +kernel
theorem dX8_init_72 : decode cX8_init 72 = .ok (.invokespecial 42, 3) := by decide +kernel
theorem dX8_init_75 : decode cX8_init 75 = .ok (.putfield 43, 3) := by decide +kernel
theorem dX8_init_78 : decode cX8_init 78 = .ok (.aload_n 0, 1) := by decide +kernel
theorem dX8_init_79 : decode cX8_init 79 = .ok (.new 47, 3) := by decide +kernel
theorem dX8_init_82 : decode cX8_init 82 = .ok (.dup, 1) := by decide +kernel
theorem dX8_init_83 : decode cX8_init 83 = .ok (.invokespecial 49, 3) := by decide +kernel
theorem dX8_init_86 : decode cX8_init 86 = .ok (.putfield 50, 3) := by decide +kernel
theorem dX8_init_89 : decode cX8_init 89 = .ok (.aload_n 0, 1) := by decide +kernel
theorem dX8_init_90 : decode cX8_init 90 = .ok (.aload_n 0, 1) := by decide +kernel
theorem dX8_init_91 : decode cX8_init 91 = .ok (.getfield 50, 3) := by decide +kernel
theorem dX8_init_94 : decode cX8_init 94 = .ok (.getfield 54, 3) := by decide +kernel
theorem dX8_init_97 : decode cX8_init 97 = .ok (.putfield 58, 3) := by decide +kernel
theorem dX8_init_100 : decode cX8_init 100 = .ok (.aload_n 0, 1) := by decide +kernel
theorem dX8_init_101 : decode cX8_init 101 = .ok (.iconst 4, 1) := by decide +kernel
theorem dX8_init_102 : decode cX8_init 102 = .ok (.anewarray 59, 3) := by decide +kernel
theorem dX8_init_105 : decode cX8_init 105 = .ok (.putfield 61, 3) := by decide +kernel
theorem dX8_init_108 : decode cX8_init 108 = .ok (.aload_n 0, 1) := by decide +kernel
theorem dX8_init_109 : decode cX8_init 109 = .ok (.iconst 0, 1) := by decide +kernel
theorem dX8_init_110 : decode cX8_init 110 = .ok (.putfield 65, 3) := by decide +kernel
theorem dX8_init_113 : decode cX8_init 113 = .ok (.iconst 0, 1) := by decide +kernel
theorem dX8_init_114 : decode cX8_init 114 = .ok (.istore_n 1, 1) := by decide +kernel
theorem dX8_init_115 : decode cX8_init 115 = .ok (.iload_n 1, 1) := by decide +kernel
theorem dX8_init_116 : decode cX8_init 116 = .ok (.iconst 4, 1) := by decide +kernel
theorem dX8_init_117 : decode cX8_init 117 = .ok (.if_icmp .ge 22, 3) := by decide +kernel
theorem dX8_init_120 : decode cX8_init 120 = .ok (.aload_n 0, 1) := by decide +kernel
theorem dX8_init_121 : decode cX8_init 121 = .ok (.getfield 61, 3) := by decide +kernel
theorem dX8_init_124 : decode cX8_init 124 = .ok (.iload_n 1, 1) := by decide +kernel
theorem dX8_init_125 : decode cX8_init 125 = .ok (.new 59, 3) := by decide +kernel
theorem dX8_init_128 : decode cX8_init 128 = .ok (.dup, 1) := by decide +kernel
theorem dX8_init_129 : decode cX8_init 129 = .ok (.invokespecial 69, 3) := by decide +kernel
theorem dX8_init_132 : decode cX8_init 132 = .ok (.aastore, 1) := by decide +kernel
theorem dX8_init_133 : decode cX8_init 133 = .ok (.iinc 1 1, 3) := by decide +kernel
theorem dX8_init_136 : decode cX8_init 136 = .ok (.goto (-21), 3) := by decide +kernel
theorem dX8_init_139 : decode cX8_init 139 = .ok (.return_, 1) := by decide +kernel
theorem dX8_ground_0 : decode cX8_ground 0 = .ok (.iload_n 1, 1) := by decide +kernel
theorem dX8_ground_1 : decode cX8_ground 1 = .ok (.invokestatic 70, 3) := by decide +kernel
theorem dX8_ground_4 : decode cX8_ground 4 = .ok (.ifCond .eq 12, 3) := by decide +kernel
theorem dX8_ground_7 : decode cX8_ground 7 = .ok (.iload_n 2, 1) := by decide +kernel
theorem dX8_ground_8 : decode cX8_ground 8 = .ok (.iconst 0, 1) := by decide +kernel
theorem dX8_ground_9 : decode cX8_ground 9 = .ok (.iconst 4, 1) := by decide +kernel
theorem dX8_ground_10 : decode cX8_ground 10 = .ok (.invokestatic 74, 3) := by decide +kernel
theorem dX8_ground_13 : decode cX8_ground 13 = .ok (.ifCond .ne 9, 3) := by decide +kernel
theorem dX8_ground_16 : decode cX8_ground 16 = .ok (.aload_n 0, 1) := by decide +kernel
theorem dX8_ground_17 : decode cX8_ground 17 = .ok (.iconst 0, 1) := by decide +kernel
theorem dX8_ground_18 : decode cX8_ground 18 = .ok (.invokevirtual 78, 3) := by decide +kernel
theorem dX8_ground_21 : decode cX8_ground 21 = .ok (.ireturn, 1) := by decide +kernel
theorem dX8_ground_22 : decode cX8_ground 22 = .ok (.aload_n 0, 1) := by decide +kernel
theorem dX8_ground_23 : decode cX8_ground 23 = .ok (.getfield 16, 3) := by decide +kernel
theorem dX8_ground_26 : decode cX8_ground 26 = .ok (.getfield 82, 3) := by decide +kernel
theorem dX8_ground_29 : decode cX8_ground 29 = .ok (.iload_n 1, 1) := by decide +kernel
theorem dX8_ground_30 : decode cX8_ground 30 = .ok (.iaload, 1) := by decide +kernel
theorem dX8_ground_31 : decode cX8_ground 31 = .ok (.istore_n 3, 1) := by decide +kernel
theorem dX8_ground_32 : decode cX8_ground 32 = .ok (.aload_n 0, 1) := by decide +kernel
theorem dX8_ground_33 : decode cX8_ground 33 = .ok (.getfield 16, 3) := by decide +kernel
theorem dX8_ground_36 : decode cX8_ground 36 = .ok (.getfield 82, 3) := by decide +kernel
theorem dX8_ground_39 : decode cX8_ground 39 = .ok (.iload_n 1, 1) := by decide +kernel
theorem dX8_ground_40 : decode cX8_ground 40 = .ok (.iload_n 2, 1) := by decide +kernel
theorem dX8_ground_41 : decode cX8_ground 41 = .ok (.iastore, 1) := by decide +kernel
theorem dX8_ground_42 : decode cX8_ground 42 = .ok (.iload_n 3, 1) := by decide +kernel
theorem dX8_ground_43 : decode cX8_ground 43 = .ok (.ireturn, 1) := by decide +kernel
theorem dX8_pick_0 : decode cX8_pick 0 = .ok (.iload_n 1, 1) := by decide +kernel
theorem dX8_pick_1 : decode cX8_pick 1 = .ok (.iconst 0, 1) := by decide +kernel
theorem dX8_pick_2 : decode cX8_pick 2 = .ok (.bipush 99, 2) := by decide +kernel
theorem dX8_pick_4 : decode cX8_pick 4 = .ok (.invokestatic 74, 3) := by decide +kernel
theorem dX8_pick_7 : decode cX8_pick 7 = .ok (.ifCond .ne 9, 3) := by decide +kernel
theorem dX8_pick_10 : decode cX8_pick 10 = .ok (.aload_n 0, 1) := by decide +kernel
theorem dX8_pick_11 : decode cX8_pick 11 = .ok (.iconst 0, 1) := by decide +kernel
theorem dX8_pick_12 : decode cX8_pick 12 = .ok (.invokevirtual 78, 3) := by decide +kernel
theorem dX8_pick_15 : decode cX8_pick 15 = .ok (.ireturn, 1) := by decide +kernel
theorem dX8_pick_16 : decode cX8_pick 16 = .ok (.aload_n 0, 1) := by decide +kernel
theorem dX8_pick_17 : decode cX8_pick 17 = .ok (.getfield 16, 3) := by decide +kernel
theorem dX8_pick_20 : decode cX8_pick 20 = .ok (.getfield 85, 3) := by decide +kernel
theorem dX8_pick_23 : decode cX8_pick 23 = .ok (.istore_n 2, 1) := by decide +kernel
theorem dX8_pick_24 : decode cX8_pick 24 = .ok (.aload_n 0, 1) := by decide +kernel
theorem dX8_pick_25 : decode cX8_pick 25 = .ok (.getfield 16, 3) := by decide +kernel
theorem dX8_pick_28 : decode cX8_pick 28 = .ok (.iload_n 1, 1) := by decide +kernel
theorem dX8_pick_29 : decode cX8_pick 29 = .ok (.putfield 85, 3) := by decide +kernel
theorem dX8_pick_32 : decode cX8_pick 32 = .ok (.iload_n 2, 1) := by decide +kernel
theorem dX8_pick_33 : decode cX8_pick 33 = .ok (.ireturn, 1) := by decide +kernel
theorem dX8_runner_0 : decode cX8_runner 0 = .ok (.iload_n 1, 1) := by decide +kernel
theorem dX8_runner_1 : decode cX8_runner 1 = .ok (.iconst 0, 1) := by decide +kernel
theorem dX8_runner_2 : decode cX8_runner 2 = .ok (.bipush 6, 2) := by decide +kernel
theorem dX8_runner_4 : decode cX8_runner 4 = .ok (.invokestatic 74, 3) := by decide +kernel
theorem dX8_runner_7 : decode cX8_runner 7 = .ok (.ifCond .eq 22, 3) := by decide +kernel
theorem dX8_runner_10 : decode cX8_runner 10 = .ok (.iload_n 2, 1) := by decide +kernel
theorem dX8_runner_11 : decode cX8_runner 11 = .ok (.iconst 0, 1) := by decide +kernel
theorem dX8_runner_12 : decode cX8_runner 12 = .ok (.bipush 9, 2) := by decide +kernel
theorem dX8_runner_14 : decode cX8_runner 14 = .ok (.invokestatic 74, 3) := by decide +kernel
theorem dX8_runner_17 : decode cX8_runner 17 = .ok (.ifCond .eq 12, 3) := by decide +kernel
theorem dX8_runner_20 : decode cX8_runner 20 = .ok (.iload_n 3, 1) := by decide +kernel
theorem dX8_runner_21 : decode cX8_runner 21 = .ok (.iconst 0, 1) := by decide +kernel
theorem dX8_runner_22 : decode cX8_runner 22 = .ok (.iconst 5, 1) := by decide +kernel
theorem dX8_runner_23 : decode cX8_runner 23 = .ok (.invokestatic 74, 3) := by decide +kernel
theorem dX8_runner_26 : decode cX8_runner 26 = .ok (.ifCond .ne 9, 3) := by decide +kernel
theorem dX8_runner_29 : decode cX8_runner 29 = .ok (.aload_n 0, 1) := by decide +kernel
theorem dX8_runner_30 : decode cX8_runner 30 = .ok (.iconst 0, 1) := by decide +kernel
theorem dX8_runner_31 : decode cX8_runner 31 = .ok (.invokevirtual 78, 3) := by decide +kernel
theorem dX8_runner_34 : decode cX8_runner 34 = .ok (.ireturn, 1) := by decide +kernel
theorem dX8_runner_35 : decode cX8_runner 35 = .ok (.aload_n 0, 1) := by decide +kernel
theorem dX8_runner_36 : decode cX8_runner 36 = .ok (.getfield 16, 3) := by decide +kernel
theorem dX8_runner_39 : decode cX8_runner 39 = .ok (.getfield 89, 3) := by decide +kernel
theorem dX8_runner_42 : decode cX8_runner 42 = .ok (.bipush 6, 2) := by decide +kernel
theorem dX8_runner_44 : decode cX8_runner 44 = .ok (.if_icmp .lt 9, 3) := by decide +kernel
theorem dX8_runner_47 : decode cX8_runner 47 = .ok (.aload_n 0, 1) := by decide +kernel
theorem dX8_runner_48 : decode cX8_runner 48 = .ok (.iconst 1, 1) := by decide +kernel
theorem dX8_runner_49 : decode cX8_runner 49 = .ok (.invokevirtual 78, 3) := by decide +kernel
theorem dX8_runner_52 : decode cX8_runner 52 = .ok (.ireturn, 1) := by decide +kernel
theorem dX8_runner_53 : decode cX8_runner 53 = .ok (.aload_n 0, 1) := by decide +kernel
theorem dX8_runner_54 : decode cX8_runner 54 = .ok (.getfield 16, 3) := by decide +kernel
theorem dX8_runner_57 : decode cX8_runner 57 = .ok (.iload_n 1, 1) := by decide +kernel
theorem dX8_runner_58 : decode cX8_runner 58 = .ok (.iload_n 2, 1) := by decide +kernel
theorem dX8_runner_59 : decode cX8_runner 59 = .ok (.iload_n 3, 1) := by decide +kernel
theorem dX8_runner_60 : decode cX8_runner 60 = .ok (.invokevirtual 92, 3) := by decide +kernel
theorem dX8_runner_63 : decode cX8_runner 63 = .ok (.ireturn, 1) := by decide +kernel
theorem dX8_of_0 : decode cX8_of 0 = .ok (.aload_n 0, 1) := by decide +kernel
theorem dX8_of_1 : decode cX8_of 1 = .ok (.iload_n 1, 1) := by decide +kernel
theorem dX8_of_2 : decode cX8_of 2 = .ok (.invokevirtual 96, 3) := by decide +kernel
theorem dX8_of_5 : decode cX8_of 5 = .ok (.ifCond .eq 13, 3) := by decide +kernel
theorem dX8_of_8 : decode cX8_of 8 = .ok (.iload_n 2, 1) := by decide +kernel
theorem dX8_of_9 : decode cX8_of 9 = .ok (.iconst 0, 1) := by decide +kernel
theorem dX8_of_10 : decode cX8_of 10 = .ok (.bipush 7, 2) := by decide +kernel
theorem dX8_of_12 : decode cX8_of 12 = .ok (.invokestatic 74, 3) := by decide +kernel
theorem dX8_of_15 : decode cX8_of 15 = .ok (.ifCond .ne 9, 3) := by decide +kernel
theorem dX8_of_18 : decode cX8_of 18 = .ok (.aload_n 0, 1) := by decide +kernel
theorem dX8_of_19 : decode cX8_of 19 = .ok (.iconst 0, 1) := by decide +kernel
theorem dX8_of_20 : decode cX8_of 20 = .ok (.invokevirtual 78, 3) := by decide +kernel
theorem dX8_of_23 : decode cX8_of 23 = .ok (.ireturn, 1) := by decide +kernel
theorem dX8_of_24 : decode cX8_of 24 = .ok (.aload_n 0, 1) := by decide +kernel
theorem dX8_of_25 : decode cX8_of 25 = .ok (.getfield 16, 3) := by decide +kernel
theorem dX8_of_28 : decode cX8_of 28 = .ok (.getfield 99, 3) := by decide +kernel
theorem dX8_of_31 : decode cX8_of 31 = .ok (.iload_n 1, 1) := by decide +kernel
theorem dX8_of_32 : decode cX8_of 32 = .ok (.aaload, 1) := by decide +kernel
theorem dX8_of_33 : decode cX8_of 33 = .ok (.iload_n 2, 1) := by decide +kernel
theorem dX8_of_34 : decode cX8_of 34 = .ok (.invokevirtual 103, 3) := by decide +kernel
theorem dX8_of_37 : decode cX8_of 37 = .ok (.ireturn, 1) := by decide +kernel
theorem dX8_change_0 : decode cX8_change 0 = .ok (.aload_n 0, 1) := by decide +kernel
theorem dX8_change_1 : decode cX8_change 1 = .ok (.iload_n 1, 1) := by decide +kernel
theorem dX8_change_2 : decode cX8_change 2 = .ok (.invokevirtual 96, 3) := by decide +kernel
theorem dX8_change_5 : decode cX8_change 5 = .ok (.ifCond .eq 15, 3) := by decide +kernel
theorem dX8_change_8 : decode cX8_change 8 = .ok (.iload_n 3, 1) := by decide +kernel
theorem dX8_change_9 : decode cX8_change 9 = .ok (.iconst 0, 1) := by decide +kernel
theorem dX8_change_10 : decode cX8_change 10 = .ok (.iload_n 2, 1) := by decide +kernel
theorem dX8_change_11 : decode cX8_change 11 = .ok (.invokestatic 108, 3) := by decide +kernel
theorem dX8_change_14 : decode cX8_change 14 = .ok (.invokestatic 74, 3) := by decide +kernel
theorem dX8_change_17 : decode cX8_change 17 = .ok (.ifCond .ne 9, 3) := by decide +kernel
theorem dX8_change_20 : decode cX8_change 20 = .ok (.aload_n 0, 1) := by decide +kernel
theorem dX8_change_21 : decode cX8_change 21 = .ok (.iconst 0, 1) := by decide +kernel
theorem dX8_change_22 : decode cX8_change 22 = .ok (.invokevirtual 78, 3) := by decide +kernel
theorem dX8_change_25 : decode cX8_change 25 = .ok (.ireturn, 1) := by decide +kernel
theorem dX8_change_26 : decode cX8_change 26 = .ok (.aload_n 0, 1) := by decide +kernel
theorem dX8_change_27 : decode cX8_change 27 = .ok (.getfield 16, 3) := by decide +kernel
theorem dX8_change_30 : decode cX8_change 30 = .ok (.getfield 99, 3) := by decide +kernel
theorem dX8_change_33 : decode cX8_change 33 = .ok (.iload_n 1, 1) := by decide +kernel
theorem dX8_change_34 : decode cX8_change 34 = .ok (.aaload, 1) := by decide +kernel
theorem dX8_change_35 : decode cX8_change 35 = .ok (.iload_n 2, 1) := by decide +kernel
theorem dX8_change_36 : decode cX8_change 36 = .ok (.invokevirtual 103, 3) := by decide +kernel
theorem dX8_change_39 : decode cX8_change 39 = .ok (.istore 4, 2) := by decide +kernel
theorem dX8_change_41 : decode cX8_change 41 = .ok (.aload_n 0, 1) := by decide +kernel
theorem dX8_change_42 : decode cX8_change 42 = .ok (.getfield 16, 3) := by decide +kernel
theorem dX8_change_45 : decode cX8_change 45 = .ok (.getfield 99, 3) := by decide +kernel
theorem dX8_change_48 : decode cX8_change 48 = .ok (.iload_n 1, 1) := by decide +kernel
theorem dX8_change_49 : decode cX8_change 49 = .ok (.aaload, 1) := by decide +kernel
theorem dX8_change_50 : decode cX8_change 50 = .ok (.iload_n 2, 1) := by decide +kernel
theorem dX8_change_51 : decode cX8_change 51 = .ok (.iload_n 3, 1) := by decide +kernel
theorem dX8_change_52 : decode cX8_change 52 = .ok (.invokevirtual 111, 3) := by decide +kernel
theorem dX8_change_55 : decode cX8_change 55 = .ok (.iload 4, 2) := by decide +kernel
theorem dX8_change_57 : decode cX8_change 57 = .ok (.ireturn, 1) := by decide +kernel
theorem dX8_pace_0 : decode cX8_pace 0 = .ok (.aload_n 0, 1) := by decide +kernel
theorem dX8_pace_1 : decode cX8_pace 1 = .ok (.iload_n 1, 1) := by decide +kernel
theorem dX8_pace_2 : decode cX8_pace 2 = .ok (.invokevirtual 96, 3) := by decide +kernel
theorem dX8_pace_5 : decode cX8_pace 5 = .ok (.ifCond .eq 30, 3) := by decide +kernel
theorem dX8_pace_8 : decode cX8_pace 8 = .ok (.iload_n 2, 1) := by decide +kernel
theorem dX8_pace_9 : decode cX8_pace 9 = .ok (.invokestatic 70, 3) := by decide +kernel
theorem dX8_pace_12 : decode cX8_pace 12 = .ok (.ifCond .eq 23, 3) := by decide +kernel
theorem dX8_pace_15 : decode cX8_pace 15 = .ok (.iload_n 3, 1) := by decide +kernel
theorem dX8_pace_16 : decode cX8_pace 16 = .ok (.invokestatic 70, 3) := by decide +kernel
theorem dX8_pace_19 : decode cX8_pace 19 = .ok (.ifCond .eq 16, 3) := by decide +kernel
theorem dX8_pace_22 : decode cX8_pace 22 = .ok (.iload_n 3, 1) := by decide +kernel
theorem dX8_pace_23 : decode cX8_pace 23 = .ok (.iload_n 2, 1) := by decide +kernel
theorem dX8_pace_24 : decode cX8_pace 24 = .ok (.if_icmp .lt 11, 3) := by decide +kernel
theorem dX8_pace_27 : decode cX8_pace 27 = .ok (.iload 4, 2) := by decide +kernel
theorem dX8_pace_29 : decode cX8_pace 29 = .ok (.invokestatic 115, 3) := by decide +kernel
theorem dX8_pace_32 : decode cX8_pace 32 = .ok (.ifCond .ne 9, 3) := by decide +kernel
theorem dX8_pace_35 : decode cX8_pace 35 = .ok (.aload_n 0, 1) := by decide +kernel
theorem dX8_pace_36 : decode cX8_pace 36 = .ok (.iconst 0, 1) := by decide +kernel
theorem dX8_pace_37 : decode cX8_pace 37 = .ok (.invokevirtual 78, 3) := by decide +kernel
theorem dX8_pace_40 : decode cX8_pace 40 = .ok (.ireturn, 1) := by decide +kernel
theorem dX8_pace_41 : decode cX8_pace 41 = .ok (.aload_n 0, 1) := by decide +kernel
theorem dX8_pace_42 : decode cX8_pace 42 = .ok (.getfield 16, 3) := by decide +kernel
theorem dX8_pace_45 : decode cX8_pace 45 = .ok (.getfield 99, 3) := by decide +kernel
theorem dX8_pace_48 : decode cX8_pace 48 = .ok (.iload_n 1, 1) := by decide +kernel
theorem dX8_pace_49 : decode cX8_pace 49 = .ok (.aaload, 1) := by decide +kernel
theorem dX8_pace_50 : decode cX8_pace 50 = .ok (.getfield 118, 3) := by decide +kernel
theorem dX8_pace_53 : decode cX8_pace 53 = .ok (.astore 5, 2) := by decide +kernel
theorem dX8_pace_55 : decode cX8_pace 55 = .ok (.iconst 0, 1) := by decide +kernel
theorem dX8_pace_56 : decode cX8_pace 56 = .ok (.istore 6, 2) := by decide +kernel
theorem dX8_pace_58 : decode cX8_pace 58 = .ok (.iload_n 2, 1) := by decide +kernel
theorem dX8_pace_59 : decode cX8_pace 59 = .ok (.istore 7, 2) := by decide +kernel
theorem dX8_pace_61 : decode cX8_pace 61 = .ok (.iload 7, 2) := by decide +kernel
theorem dX8_pace_63 : decode cX8_pace 63 = .ok (.iload_n 3, 1) := by decide +kernel
theorem dX8_pace_64 : decode cX8_pace 64 = .ok (.if_icmp .gt 36, 3) := by decide +kernel
theorem dX8_pace_67 : decode cX8_pace 67 = .ok (.iload 6, 2) := by decide +kernel
theorem dX8_pace_69 : decode cX8_pace 69 = .ok (.aload 5, 2) := by decide +kernel
theorem dX8_pace_71 : decode cX8_pace 71 = .ok (.iload 7, 2) := by decide +kernel
theorem dX8_pace_73 : decode cX8_pace 73 = .ok (.iaload, 1) := by decide +kernel
theorem dX8_pace_74 : decode cX8_pace 74 = .ok (.iload 4, 2) := by decide +kernel
theorem dX8_pace_76 : decode cX8_pace 76 = .ok (.if_icmp .ne 7, 3) := by decide +kernel
theorem dX8_pace_79 : decode cX8_pace 79 = .ok (.iconst 0, 1) := by decide +kernel
theorem dX8_pace_80 : decode cX8_pace 80 = .ok (.goto 4, 3) := by decide +kernel
theorem dX8_pace_83 : decode cX8_pace 83 = .ok (.iconst 1, 1) := by decide +kernel
theorem dX8_pace_84 : decode cX8_pace 84 = .ok (.iadd, 1) := by decide +kernel
theorem dX8_pace_85 : decode cX8_pace 85 = .ok (.istore 6, 2) := by decide +kernel
theorem dX8_pace_87 : decode cX8_pace 87 = .ok (.aload 5, 2) := by decide +kernel
theorem dX8_pace_89 : decode cX8_pace 89 = .ok (.iload 7, 2) := by decide +kernel
theorem dX8_pace_91 : decode cX8_pace 91 = .ok (.iload 4, 2) := by decide +kernel
theorem dX8_pace_93 : decode cX8_pace 93 = .ok (.iastore, 1) := by decide +kernel
theorem dX8_pace_94 : decode cX8_pace 94 = .ok (.iinc 7 1, 3) := by decide +kernel
theorem dX8_pace_97 : decode cX8_pace 97 = .ok (.goto (-36), 3) := by decide +kernel
theorem dX8_pace_100 : decode cX8_pace 100 = .ok (.iload 6, 2) := by decide +kernel
theorem dX8_pace_102 : decode cX8_pace 102 = .ok (.ireturn, 1) := by decide +kernel
theorem dX8_paceOf_0 : decode cX8_paceOf 0 = .ok (.aload_n 0, 1) := by decide +kernel
theorem dX8_paceOf_1 : decode cX8_paceOf 1 = .ok (.iload_n 1, 1) := by decide +kernel
theorem dX8_paceOf_2 : decode cX8_paceOf 2 = .ok (.invokevirtual 96, 3) := by decide +kernel
theorem dX8_paceOf_5 : decode cX8_paceOf 5 = .ok (.ifCond .eq 10, 3) := by decide +kernel
theorem dX8_paceOf_8 : decode cX8_paceOf 8 = .ok (.iload_n 2, 1) := by decide +kernel
theorem dX8_paceOf_9 : decode cX8_paceOf 9 = .ok (.invokestatic 70, 3) := by decide +kernel
theorem dX8_paceOf_12 : decode cX8_paceOf 12 = .ok (.ifCond .ne 9, 3) := by decide +kernel
theorem dX8_paceOf_15 : decode cX8_paceOf 15 = .ok (.aload_n 0, 1) := by decide +kernel
theorem dX8_paceOf_16 : decode cX8_paceOf 16 = .ok (.iconst 0, 1) := by decide +kernel
theorem dX8_paceOf_17 : decode cX8_paceOf 17 = .ok (.invokevirtual 78, 3) := by decide +kernel
theorem dX8_paceOf_20 : decode cX8_paceOf 20 = .ok (.ireturn, 1) := by decide +kernel
theorem dX8_paceOf_21 : decode cX8_paceOf 21 = .ok (.aload_n 0, 1) := by decide +kernel
theorem dX8_paceOf_22 : decode cX8_paceOf 22 = .ok (.getfield 16, 3) := by decide +kernel
theorem dX8_paceOf_25 : decode cX8_paceOf 25 = .ok (.getfield 99, 3) := by decide +kernel
theorem dX8_paceOf_28 : decode cX8_paceOf 28 = .ok (.iload_n 1, 1) := by decide +kernel
theorem dX8_paceOf_29 : decode cX8_paceOf 29 = .ok (.aaload, 1) := by decide +kernel
theorem dX8_paceOf_30 : decode cX8_paceOf 30 = .ok (.getfield 118, 3) := by decide +kernel
theorem dX8_paceOf_33 : decode cX8_paceOf 33 = .ok (.iload_n 2, 1) := by decide +kernel
theorem dX8_paceOf_34 : decode cX8_paceOf 34 = .ok (.iaload, 1) := by decide +kernel
theorem dX8_paceOf_35 : decode cX8_paceOf 35 = .ok (.ireturn, 1) := by decide +kernel
theorem dX8_told_0 : decode cX8_told 0 = .ok (.aload_n 0, 1) := by decide +kernel
theorem dX8_told_1 : decode cX8_told 1 = .ok (.iload_n 1, 1) := by decide +kernel
theorem dX8_told_2 : decode cX8_told 2 = .ok (.invokevirtual 96, 3) := by decide +kernel
theorem dX8_told_5 : decode cX8_told 5 = .ok (.ifCond .eq 19, 3) := by decide +kernel
theorem dX8_told_8 : decode cX8_told 8 = .ok (.iload_n 2, 1) := by decide +kernel
theorem dX8_told_9 : decode cX8_told 9 = .ok (.iconst 0, 1) := by decide +kernel
theorem dX8_told_10 : decode cX8_told 10 = .ok (.iconst 1, 1) := by decide +kernel
theorem dX8_told_11 : decode cX8_told 11 = .ok (.invokestatic 74, 3) := by decide +kernel
theorem dX8_told_14 : decode cX8_told 14 = .ok (.ifCond .eq 10, 3) := by decide +kernel
theorem dX8_told_17 : decode cX8_told 17 = .ok (.iload_n 3, 1) := by decide +kernel
theorem dX8_told_18 : decode cX8_told 18 = .ok (.invokestatic 115, 3) := by decide +kernel
theorem dX8_told_21 : decode cX8_told 21 = .ok (.ifCond .ne 9, 3) := by decide +kernel
theorem dX8_told_24 : decode cX8_told 24 = .ok (.aload_n 0, 1) := by decide +kernel
theorem dX8_told_25 : decode cX8_told 25 = .ok (.iconst 0, 1) := by decide +kernel
theorem dX8_told_26 : decode cX8_told 26 = .ok (.invokevirtual 78, 3) := by decide +kernel
theorem dX8_told_29 : decode cX8_told 29 = .ok (.ireturn, 1) := by decide +kernel
theorem dX8_told_30 : decode cX8_told 30 = .ok (.aload_n 0, 1) := by decide +kernel
theorem dX8_told_31 : decode cX8_told 31 = .ok (.getfield 16, 3) := by decide +kernel
theorem dX8_told_34 : decode cX8_told 34 = .ok (.getfield 99, 3) := by decide +kernel
theorem dX8_told_37 : decode cX8_told 37 = .ok (.iload_n 1, 1) := by decide +kernel
theorem dX8_told_38 : decode cX8_told 38 = .ok (.aaload, 1) := by decide +kernel
theorem dX8_told_39 : decode cX8_told 39 = .ok (.astore 4, 2) := by decide +kernel
theorem dX8_told_41 : decode cX8_told 41 = .ok (.iload_n 2, 1) := by decide +kernel
theorem dX8_told_42 : decode cX8_told 42 = .ok (.ifCond .ne 12, 3) := by decide +kernel
theorem dX8_told_45 : decode cX8_told 45 = .ok (.aload 4, 2) := by decide +kernel
theorem dX8_told_47 : decode cX8_told 47 = .ok (.iload_n 3, 1) := by decide +kernel
theorem dX8_told_48 : decode cX8_told 48 = .ok (.invokevirtual 121, 3) := by decide +kernel
theorem dX8_told_51 : decode cX8_told 51 = .ok (.goto 9, 3) := by decide +kernel
theorem dX8_told_54 : decode cX8_told 54 = .ok (.aload 4, 2) := by decide +kernel
theorem dX8_told_56 : decode cX8_told 56 = .ok (.iload_n 3, 1) := by decide +kernel
theorem dX8_told_57 : decode cX8_told 57 = .ok (.invokevirtual 124, 3) := by decide +kernel
theorem dX8_told_60 : decode cX8_told 60 = .ok (.ireturn, 1) := by decide +kernel
theorem dX8_odds_0 : decode cX8_odds 0 = .ok (.aload_n 0, 1) := by decide +kernel
theorem dX8_odds_1 : decode cX8_odds 1 = .ok (.iload_n 1, 1) := by decide +kernel
theorem dX8_odds_2 : decode cX8_odds 2 = .ok (.invokevirtual 96, 3) := by decide +kernel
theorem dX8_odds_5 : decode cX8_odds 5 = .ok (.ifCond .eq 27, 3) := by decide +kernel
theorem dX8_odds_8 : decode cX8_odds 8 = .ok (.iload_n 2, 1) := by decide +kernel
theorem dX8_odds_9 : decode cX8_odds 9 = .ok (.invokestatic 70, 3) := by decide +kernel
theorem dX8_odds_12 : decode cX8_odds 12 = .ok (.ifCond .eq 20, 3) := by decide +kernel
theorem dX8_odds_15 : decode cX8_odds 15 = .ok (.iload_n 3, 1) := by decide +kernel
theorem dX8_odds_16 : decode cX8_odds 16 = .ok (.invokestatic 115, 3) := by decide +kernel
theorem dX8_odds_19 : decode cX8_odds 19 = .ok (.ifCond .eq 13, 3) := by decide +kernel
theorem dX8_odds_22 : decode cX8_odds 22 = .ok (.iload 4, 2) := by decide +kernel
theorem dX8_odds_24 : decode cX8_odds 24 = .ok (.iconst 0, 1) := by decide +kernel
theorem dX8_odds_25 : decode cX8_odds 25 = .ok (.iconst 1, 1) := by decide +kernel
theorem dX8_odds_26 : decode cX8_odds 26 = .ok (.invokestatic 74, 3) := by decide +kernel
theorem dX8_odds_29 : decode cX8_odds 29 = .ok (.ifCond .ne 9, 3) := by decide +kernel
theorem dX8_odds_32 : decode cX8_odds 32 = .ok (.aload_n 0, 1) := by decide +kernel
theorem dX8_odds_33 : decode cX8_odds 33 = .ok (.iconst 0, 1) := by decide +kernel
theorem dX8_odds_34 : decode cX8_odds 34 = .ok (.invokevirtual 78, 3) := by decide +kernel
theorem dX8_odds_37 : decode cX8_odds 37 = .ok (.ireturn, 1) := by decide +kernel
theorem dX8_odds_38 : decode cX8_odds 38 = .ok (.aload_n 0, 1) := by decide +kernel
theorem dX8_odds_39 : decode cX8_odds 39 = .ok (.getfield 16, 3) := by decide +kernel
theorem dX8_odds_42 : decode cX8_odds 42 = .ok (.aload_n 0, 1) := by decide +kernel
theorem dX8_odds_43 : decode cX8_odds 43 = .ok (.getfield 16, 3) := by decide +kernel
theorem dX8_odds_46 : decode cX8_odds 46 = .ok (.getfield 99, 3) := by decide +kernel
theorem dX8_odds_49 : decode cX8_odds 49 = .ok (.iload_n 1, 1) := by decide +kernel
theorem dX8_odds_50 : decode cX8_odds 50 = .ok (.aaload, 1) := by decide +kernel
theorem dX8_odds_51 : decode cX8_odds 51 = .ok (.iload_n 2, 1) := by decide +kernel
theorem dX8_odds_52 : decode cX8_odds 52 = .ok (.iload_n 3, 1) := by decide +kernel
theorem dX8_odds_53 : decode cX8_odds 53 = .ok (.iload 4, 2) := by decide +kernel
theorem dX8_odds_55 : decode cX8_odds 55 = .ok (.iconst 0, 1) := by decide +kernel
theorem dX8_odds_56 : decode cX8_odds 56 = .ok (.invokevirtual 127, 3) := by decide +kernel
theorem dX8_odds_59 : decode cX8_odds 59 = .ok (.ireturn, 1) := by decide +kernel
theorem dX8_now_0 : decode cX8_now 0 = .ok (.aload_n 0, 1) := by decide +kernel
theorem dX8_now_1 : decode cX8_now 1 = .ok (.iload_n 1, 1) := by decide +kernel
theorem dX8_now_2 : decode cX8_now 2 = .ok (.invokevirtual 96, 3) := by decide +kernel
theorem dX8_now_5 : decode cX8_now 5 = .ok (.ifCond .ne 9, 3) := by decide +kernel
theorem dX8_now_8 : decode cX8_now 8 = .ok (.aload_n 0, 1) := by decide +kernel
theorem dX8_now_9 : decode cX8_now 9 = .ok (.iconst 0, 1) := by decide +kernel
theorem dX8_now_10 : decode cX8_now 10 = .ok (.invokevirtual 78, 3) := by decide +kernel
theorem dX8_now_13 : decode cX8_now 13 = .ok (.ireturn, 1) := by decide +kernel
theorem dX8_now_14 : decode cX8_now 14 = .ok (.aload_n 0, 1) := by decide +kernel
theorem dX8_now_15 : decode cX8_now 15 = .ok (.getfield 16, 3) := by decide +kernel
theorem dX8_now_18 : decode cX8_now 18 = .ok (.getfield 99, 3) := by decide +kernel
theorem dX8_now_21 : decode cX8_now 21 = .ok (.iload_n 1, 1) := by decide +kernel
theorem dX8_now_22 : decode cX8_now 22 = .ok (.aaload, 1) := by decide +kernel
theorem dX8_now_23 : decode cX8_now 23 = .ok (.invokevirtual 131, 3) := by decide +kernel
theorem dX8_now_26 : decode cX8_now 26 = .ok (.ifCond .eq 9, 3) := by decide +kernel
theorem dX8_now_29 : decode cX8_now 29 = .ok (.aload_n 0, 1) := by decide +kernel
theorem dX8_now_30 : decode cX8_now 30 = .ok (.iconst 4, 1) := by decide +kernel
theorem dX8_now_31 : decode cX8_now 31 = .ok (.invokevirtual 78, 3) := by decide +kernel
theorem dX8_now_34 : decode cX8_now 34 = .ok (.ireturn, 1) := by decide +kernel
theorem dX8_now_35 : decode cX8_now 35 = .ok (.aload_n 0, 1) := by decide +kernel
theorem dX8_now_36 : decode cX8_now 36 = .ok (.getfield 16, 3) := by decide +kernel
theorem dX8_now_39 : decode cX8_now 39 = .ok (.iload_n 1, 1) := by decide +kernel
theorem dX8_now_40 : decode cX8_now 40 = .ok (.invokevirtual 135, 3) := by decide +kernel
theorem dX8_now_43 : decode cX8_now 43 = .ok (.ireturn, 1) := by decide +kernel
theorem dX8_nerves_0 : decode cX8_nerves 0 = .ok (.aload_n 0, 1) := by decide +kernel
theorem dX8_nerves_1 : decode cX8_nerves 1 = .ok (.iload_n 1, 1) := by decide +kernel
theorem dX8_nerves_2 : decode cX8_nerves 2 = .ok (.invokevirtual 96, 3) := by decide +kernel
theorem dX8_nerves_5 : decode cX8_nerves 5 = .ok (.ifCond .ne 9, 3) := by decide +kernel
theorem dX8_nerves_8 : decode cX8_nerves 8 = .ok (.aload_n 0, 1) := by decide +kernel
theorem dX8_nerves_9 : decode cX8_nerves 9 = .ok (.iconst 0, 1) := by decide +kernel
theorem dX8_nerves_10 : decode cX8_nerves 10 = .ok (.invokevirtual 78, 3) := by decide +kernel
theorem dX8_nerves_13 : decode cX8_nerves 13 = .ok (.ireturn, 1) := by decide +kernel
theorem dX8_nerves_14 : decode cX8_nerves 14 = .ok (.aload_n 0, 1) := by decide +kernel
theorem dX8_nerves_15 : decode cX8_nerves 15 = .ok (.getfield 16, 3) := by decide +kernel
theorem dX8_nerves_18 : decode cX8_nerves 18 = .ok (.iload_n 1, 1) := by decide +kernel
theorem dX8_nerves_19 : decode cX8_nerves 19 = .ok (.invokevirtual 138, 3) := by decide +kernel
theorem dX8_nerves_22 : decode cX8_nerves 22 = .ok (.ireturn, 1) := by decide +kernel
theorem dX8_next_0 : decode cX8_next 0 = .ok (.aload_n 0, 1) := by decide +kernel
theorem dX8_next_1 : decode cX8_next 1 = .ok (.getfield 16, 3) := by decide +kernel
theorem dX8_next_4 : decode cX8_next 4 = .ok (.invokevirtual 141, 3) := by decide +kernel
theorem dX8_next_7 : decode cX8_next 7 = .ok (.istore_n 1, 1) := by decide +kernel
theorem dX8_next_8 : decode cX8_next 8 = .ok (.iload_n 1, 1) := by decide +kernel
theorem dX8_next_9 : decode cX8_next 9 = .ok (.ifCond .ge 11, 3) := by decide +kernel
theorem dX8_next_12 : decode cX8_next 12 = .ok (.aload_n 0, 1) := by decide +kernel
theorem dX8_next_13 : decode cX8_next 13 = .ok (.iconst 3, 1) := by decide +kernel
theorem dX8_next_14 : decode cX8_next 14 = .ok (.invokevirtual 78, 3) := by decide +kernel
theorem dX8_next_17 : decode cX8_next 17 = .ok (.goto 4, 3) := by decide +kernel
theorem dX8_next_20 : decode cX8_next 20 = .ok (.iload_n 1, 1) := by decide +kernel
theorem dX8_next_21 : decode cX8_next 21 = .ok (.ireturn, 1) := by decide +kernel
theorem dX8_steps_0 : decode cX8_steps 0 = .ok (.iload_n 1, 1) := by decide +kernel
theorem dX8_steps_1 : decode cX8_steps 1 = .ok (.iconst 1, 1) := by decide +kernel
theorem dX8_steps_2 : decode cX8_steps 2 = .ok (.sipush 180, 3) := by decide +kernel
theorem dX8_steps_5 : decode cX8_steps 5 = .ok (.invokestatic 74, 3) := by decide +kernel
theorem dX8_steps_8 : decode cX8_steps 8 = .ok (.ifCond .ne 9, 3) := by decide +kernel
theorem dX8_steps_11 : decode cX8_steps 11 = .ok (.aload_n 0, 1) := by decide +kernel
theorem dX8_steps_12 : decode cX8_steps 12 = .ok (.iconst 0, 1) := by decide +kernel
theorem dX8_steps_13 : decode cX8_steps 13 = .ok (.invokevirtual 78, 3) := by decide +kernel
theorem dX8_steps_16 : decode cX8_steps 16 = .ok (.ireturn, 1) := by decide +kernel
theorem dX8_steps_17 : decode cX8_steps 17 = .ok (.aload_n 0, 1) := by decide +kernel
theorem dX8_steps_18 : decode cX8_steps 18 = .ok (.getfield 16, 3) := by decide +kernel
theorem dX8_steps_21 : decode cX8_steps 21 = .ok (.iload_n 1, 1) := by decide +kernel
theorem dX8_steps_22 : decode cX8_steps 22 = .ok (.invokevirtual 145, 3) := by decide +kernel
theorem dX8_steps_25 : decode cX8_steps 25 = .ok (.ireturn, 1) := by decide +kernel
theorem dX8_start_0 : decode cX8_start 0 = .ok (.aload_n 0, 1) := by decide +kernel
theorem dX8_start_1 : decode cX8_start 1 = .ok (.getfield 16, 3) := by decide +kernel
theorem dX8_start_4 : decode cX8_start 4 = .ok (.invokevirtual 148, 3) := by decide +kernel
theorem dX8_start_7 : decode cX8_start 7 = .ok (.ireturn, 1) := by decide +kernel
theorem dX8_ahead_0 : decode cX8_ahead 0 = .ok (.iload_n 1, 1) := by decide +kernel
theorem dX8_ahead_1 : decode cX8_ahead 1 = .ok (.iconst 0, 1) := by decide +kernel
theorem dX8_ahead_2 : decode cX8_ahead 2 = .ok (.sipush 180, 3) := by decide +kernel
theorem dX8_ahead_5 : decode cX8_ahead 5 = .ok (.invokestatic 74, 3) := by decide +kernel
theorem dX8_ahead_8 : decode cX8_ahead 8 = .ok (.ifCond .eq 20, 3) := by decide +kernel
theorem dX8_ahead_11 : decode cX8_ahead 11 = .ok (.iload_n 2, 1) := by decide +kernel
theorem dX8_ahead_12 : decode cX8_ahead 12 = .ok (.iconst 0, 1) := by decide +kernel
theorem dX8_ahead_13 : decode cX8_ahead 13 = .ok (.iconst 2, 1) := by decide +kernel
theorem dX8_ahead_14 : decode cX8_ahead 14 = .ok (.aload_n 0, 1) := by decide +kernel
theorem dX8_ahead_15 : decode cX8_ahead 15 = .ok (.getfield 16, 3) := by decide +kernel
theorem dX8_ahead_18 : decode cX8_ahead 18 = .ok (.getfield 89, 3) := by decide +kernel
theorem dX8_ahead_21 : decode cX8_ahead 21 = .ok (.iadd, 1) := by decide +kernel
theorem dX8_ahead_22 : decode cX8_ahead 22 = .ok (.invokestatic 74, 3) := by decide +kernel
theorem dX8_ahead_25 : decode cX8_ahead 25 = .ok (.ifCond .ne 9, 3) := by decide +kernel
theorem dX8_ahead_28 : decode cX8_ahead 28 = .ok (.aload_n 0, 1) := by decide +kernel
theorem dX8_ahead_29 : decode cX8_ahead 29 = .ok (.iconst 0, 1) := by decide +kernel
theorem dX8_ahead_30 : decode cX8_ahead 30 = .ok (.invokevirtual 78, 3) := by decide +kernel
theorem dX8_ahead_33 : decode cX8_ahead 33 = .ok (.ireturn, 1) := by decide +kernel
theorem dX8_ahead_34 : decode cX8_ahead 34 = .ok (.aload_n 0, 1) := by decide +kernel
theorem dX8_ahead_35 : decode cX8_ahead 35 = .ok (.getfield 23, 3) := by decide +kernel
theorem dX8_ahead_38 : decode cX8_ahead 38 = .ok (.aload_n 0, 1) := by decide +kernel
theorem dX8_ahead_39 : decode cX8_ahead 39 = .ok (.getfield 16, 3) := by decide +kernel
theorem dX8_ahead_42 : decode cX8_ahead 42 = .ok (.invokevirtual 151, 3) := by decide +kernel
theorem dX8_ahead_45 : decode cX8_ahead 45 = .ok (.aload_n 0, 1) := by decide +kernel
theorem dX8_ahead_46 : decode cX8_ahead 46 = .ok (.getfield 23, 3) := by decide +kernel
theorem dX8_ahead_49 : decode cX8_ahead 49 = .ok (.iload_n 1, 1) := by decide +kernel
theorem dX8_ahead_50 : decode cX8_ahead 50 = .ok (.invokevirtual 145, 3) := by decide +kernel
theorem dX8_ahead_53 : decode cX8_ahead 53 = .ok (.istore_n 3, 1) := by decide +kernel
theorem dX8_ahead_54 : decode cX8_ahead 54 = .ok (.iload_n 2, 1) := by decide +kernel
theorem dX8_ahead_55 : decode cX8_ahead 55 = .ok (.tableswitch 43 0 2 #[25, 33, 35], 25) := by decide +kernel
theorem dX8_ahead_80 : decode cX8_ahead 80 = .ok (.aload_n 0, 1) := by decide +kernel
theorem dX8_ahead_81 : decode cX8_ahead 81 = .ok (.getfield 23, 3) := by decide +kernel
theorem dX8_ahead_84 : decode cX8_ahead 84 = .ok (.invokevirtual 155, 3) := by decide +kernel
theorem dX8_ahead_87 : decode cX8_ahead 87 = .ok (.ireturn, 1) := by decide +kernel
theorem dX8_ahead_88 : decode cX8_ahead 88 = .ok (.iload_n 3, 1) := by decide +kernel
theorem dX8_ahead_89 : decode cX8_ahead 89 = .ok (.ireturn, 1) := by decide +kernel
theorem dX8_ahead_90 : decode cX8_ahead 90 = .ok (.aload_n 0, 1) := by decide +kernel
theorem dX8_ahead_91 : decode cX8_ahead 91 = .ok (.getfield 23, 3) := by decide +kernel
theorem dX8_ahead_94 : decode cX8_ahead 94 = .ok (.invokevirtual 141, 3) := by decide +kernel
theorem dX8_ahead_97 : decode cX8_ahead 97 = .ok (.ireturn, 1) := by decide +kernel
theorem dX8_ahead_98 : decode cX8_ahead 98 = .ok (.aload_n 0, 1) := by decide +kernel
theorem dX8_ahead_99 : decode cX8_ahead 99 = .ok (.getfield 23, 3) := by decide +kernel
theorem dX8_ahead_102 : decode cX8_ahead 102 = .ok (.getfield 99, 3) := by decide +kernel
theorem dX8_ahead_105 : decode cX8_ahead 105 = .ok (.iload_n 2, 1) := by decide +kernel
theorem dX8_ahead_106 : decode cX8_ahead 106 = .ok (.iconst 3, 1) := by decide +kernel
theorem dX8_ahead_107 : decode cX8_ahead 107 = .ok (.isub, 1) := by decide +kernel
theorem dX8_ahead_108 : decode cX8_ahead 108 = .ok (.aaload, 1) := by decide +kernel
theorem dX8_ahead_109 : decode cX8_ahead 109 = .ok (.getfield 158, 3) := by decide +kernel
theorem dX8_ahead_112 : decode cX8_ahead 112 = .ok (.ireturn, 1) := by decide +kernel
theorem dX8_winner_0 : decode cX8_winner 0 = .ok (.aload_n 0, 1) := by decide +kernel
theorem dX8_winner_1 : decode cX8_winner 1 = .ok (.getfield 16, 3) := by decide +kernel
theorem dX8_winner_4 : decode cX8_winner 4 = .ok (.getfield 89, 3) := by decide +kernel
theorem dX8_winner_7 : decode cX8_winner 7 = .ok (.ifCond .ne 9, 3) := by decide +kernel
theorem dX8_winner_10 : decode cX8_winner 10 = .ok (.aload_n 0, 1) := by decide +kernel
theorem dX8_winner_11 : decode cX8_winner 11 = .ok (.iconst 3, 1) := by decide +kernel
theorem dX8_winner_12 : decode cX8_winner 12 = .ok (.invokevirtual 78, 3) := by decide +kernel
theorem dX8_winner_15 : decode cX8_winner 15 = .ok (.ireturn, 1) := by decide +kernel
theorem dX8_winner_16 : decode cX8_winner 16 = .ok (.aload_n 0, 1) := by decide +kernel
theorem dX8_winner_17 : decode cX8_winner 17 = .ok (.invokevirtual 161, 3) := by decide +kernel
theorem dX8_winner_20 : decode cX8_winner 20 = .ok (.aload_n 0, 1) := by decide +kernel
theorem dX8_winner_21 : decode cX8_winner 21 = .ok (.getfield 23, 3) := by decide +kernel
theorem dX8_winner_24 : decode cX8_winner 24 = .ok (.invokevirtual 164, 3) := by decide +kernel
theorem dX8_winner_27 : decode cX8_winner 27 = .ok (.ireturn, 1) := by decide +kernel
theorem dX8_place_0 : decode cX8_place 0 = .ok (.aload_n 0, 1) := by decide +kernel
theorem dX8_place_1 : decode cX8_place 1 = .ok (.iload_n 1, 1) := by decide +kernel
theorem dX8_place_2 : decode cX8_place 2 = .ok (.invokevirtual 96, 3) := by decide +kernel
theorem dX8_place_5 : decode cX8_place 5 = .ok (.ifCond .ne 9, 3) := by decide +kernel
theorem dX8_place_8 : decode cX8_place 8 = .ok (.aload_n 0, 1) := by decide +kernel
theorem dX8_place_9 : decode cX8_place 9 = .ok (.iconst 0, 1) := by decide +kernel
theorem dX8_place_10 : decode cX8_place 10 = .ok (.invokevirtual 78, 3) := by decide +kernel
theorem dX8_place_13 : decode cX8_place 13 = .ok (.ireturn, 1) := by decide +kernel
theorem dX8_place_14 : decode cX8_place 14 = .ok (.aload_n 0, 1) := by decide +kernel
theorem dX8_place_15 : decode cX8_place 15 = .ok (.invokevirtual 161, 3) := by decide +kernel
theorem dX8_place_18 : decode cX8_place 18 = .ok (.aload_n 0, 1) := by decide +kernel
theorem dX8_place_19 : decode cX8_place 19 = .ok (.getfield 23, 3) := by decide +kernel
theorem dX8_place_22 : decode cX8_place 22 = .ok (.iload_n 1, 1) := by decide +kernel
theorem dX8_place_23 : decode cX8_place 23 = .ok (.invokevirtual 167, 3) := by decide +kernel
theorem dX8_place_26 : decode cX8_place 26 = .ok (.ireturn, 1) := by decide +kernel
theorem dX8_wins_0 : decode cX8_wins 0 = .ok (.aload_n 0, 1) := by decide +kernel
theorem dX8_wins_1 : decode cX8_wins 1 = .ok (.iload_n 1, 1) := by decide +kernel
theorem dX8_wins_2 : decode cX8_wins 2 = .ok (.invokevirtual 96, 3) := by decide +kernel
theorem dX8_wins_5 : decode cX8_wins 5 = .ok (.ifCond .eq 13, 3) := by decide +kernel
theorem dX8_wins_8 : decode cX8_wins 8 = .ok (.iload_n 2, 1) := by decide +kernel
theorem dX8_wins_9 : decode cX8_wins 9 = .ok (.iconst 1, 1) := by decide +kernel
theorem dX8_wins_10 : decode cX8_wins 10 = .ok (.bipush 10, 2) := by decide +kernel
theorem dX8_wins_12 : decode cX8_wins 12 = .ok (.invokestatic 74, 3) := by decide +kernel
theorem dX8_wins_15 : decode cX8_wins 15 = .ok (.ifCond .ne 9, 3) := by decide +kernel
theorem dX8_wins_18 : decode cX8_wins 18 = .ok (.aload_n 0, 1) := by decide +kernel
theorem dX8_wins_19 : decode cX8_wins 19 = .ok (.iconst 0, 1) := by decide +kernel
theorem dX8_wins_20 : decode cX8_wins 20 = .ok (.invokevirtual 78, 3) := by decide +kernel
theorem dX8_wins_23 : decode cX8_wins 23 = .ok (.ireturn, 1) := by decide +kernel
theorem dX8_wins_24 : decode cX8_wins 24 = .ok (.aload_n 0, 1) := by decide +kernel
theorem dX8_wins_25 : decode cX8_wins 25 = .ok (.getfield 23, 3) := by decide +kernel
theorem dX8_wins_28 : decode cX8_wins 28 = .ok (.aload_n 0, 1) := by decide +kernel
theorem dX8_wins_29 : decode cX8_wins 29 = .ok (.getfield 16, 3) := by decide +kernel
theorem dX8_wins_32 : decode cX8_wins 32 = .ok (.invokevirtual 151, 3) := by decide +kernel
theorem dX8_wins_35 : decode cX8_wins 35 = .ok (.iconst 0, 1) := by decide +kernel
theorem dX8_wins_36 : decode cX8_wins 36 = .ok (.istore_n 3, 1) := by decide +kernel
theorem dX8_wins_37 : decode cX8_wins 37 = .ok (.iconst 0, 1) := by decide +kernel
theorem dX8_wins_38 : decode cX8_wins 38 = .ok (.istore 4, 2) := by decide +kernel
theorem dX8_wins_40 : decode cX8_wins 40 = .ok (.iload 4, 2) := by decide +kernel
theorem dX8_wins_42 : decode cX8_wins 42 = .ok (.iload_n 2, 1) := by decide +kernel
theorem dX8_wins_43 : decode cX8_wins 43 = .ok (.if_icmp .ge 47, 3) := by decide +kernel
theorem dX8_wins_46 : decode cX8_wins 46 = .ok (.aload_n 0, 1) := by decide +kernel
theorem dX8_wins_47 : decode cX8_wins 47 = .ok (.getfield 23, 3) := by decide +kernel
theorem dX8_wins_50 : decode cX8_wins 50 = .ok (.invokevirtual 148, 3) := by decide +kernel
theorem dX8_wins_53 : decode cX8_wins 53 = .ok (.pop, 1) := by decide +kernel
theorem dX8_wins_54 : decode cX8_wins 54 = .ok (.aload_n 0, 1) := by decide +kernel
theorem dX8_wins_55 : decode cX8_wins 55 = .ok (.getfield 23, 3) := by decide +kernel
theorem dX8_wins_58 : decode cX8_wins 58 = .ok (.sipush 180, 3) := by decide +kernel
theorem dX8_wins_61 : decode cX8_wins 61 = .ok (.invokevirtual 145, 3) := by decide +kernel
theorem dX8_wins_64 : decode cX8_wins 64 = .ok (.pop, 1) := by decide +kernel
theorem dX8_wins_65 : decode cX8_wins 65 = .ok (.iload_n 3, 1) := by decide +kernel
theorem dX8_wins_66 : decode cX8_wins 66 = .ok (.aload_n 0, 1) := by decide +kernel
theorem dX8_wins_67 : decode cX8_wins 67 = .ok (.getfield 23, 3) := by decide +kernel
theorem dX8_wins_70 : decode cX8_wins 70 = .ok (.invokevirtual 164, 3) := by decide +kernel
theorem dX8_wins_73 : decode cX8_wins 73 = .ok (.iload_n 1, 1) := by decide +kernel
theorem dX8_wins_74 : decode cX8_wins 74 = .ok (.if_icmp .ne 7, 3) := by decide +kernel
theorem dX8_wins_77 : decode cX8_wins 77 = .ok (.iconst 1, 1) := by decide +kernel
theorem dX8_wins_78 : decode cX8_wins 78 = .ok (.goto 4, 3) := by decide +kernel
theorem dX8_wins_81 : decode cX8_wins 81 = .ok (.iconst 0, 1) := by decide +kernel
theorem dX8_wins_82 : decode cX8_wins 82 = .ok (.iadd, 1) := by decide +kernel
theorem dX8_wins_83 : decode cX8_wins 83 = .ok (.istore_n 3, 1) := by decide +kernel
theorem dX8_wins_84 : decode cX8_wins 84 = .ok (.iinc 4 1, 3) := by decide +kernel
theorem dX8_wins_87 : decode cX8_wins 87 = .ok (.goto (-47), 3) := by decide +kernel
theorem dX8_wins_90 : decode cX8_wins 90 = .ok (.aload_n 0, 1) := by decide +kernel
theorem dX8_wins_91 : decode cX8_wins 91 = .ok (.getfield 16, 3) := by decide +kernel
theorem dX8_wins_94 : decode cX8_wins 94 = .ok (.aload_n 0, 1) := by decide +kernel
theorem dX8_wins_95 : decode cX8_wins 95 = .ok (.getfield 23, 3) := by decide +kernel
theorem dX8_wins_98 : decode cX8_wins 98 = .ok (.getfield 170, 3) := by decide +kernel
theorem dX8_wins_101 : decode cX8_wins 101 = .ok (.putfield 170, 3) := by decide +kernel
theorem dX8_wins_104 : decode cX8_wins 104 = .ok (.iload_n 3, 1) := by decide +kernel
theorem dX8_wins_105 : decode cX8_wins 105 = .ok (.ireturn, 1) := by decide +kernel
theorem dX8_clean_0 : decode cX8_clean 0 = .ok (.aload_n 0, 1) := by decide +kernel
theorem dX8_clean_1 : decode cX8_clean 1 = .ok (.iload_n 1, 1) := by decide +kernel
theorem dX8_clean_2 : decode cX8_clean 2 = .ok (.iload_n 2, 1) := by decide +kernel
theorem dX8_clean_3 : decode cX8_clean 3 = .ok (.iload_n 3, 1) := by decide +kernel
theorem dX8_clean_4 : decode cX8_clean 4 = .ok (.invokevirtual 173, 3) := by decide +kernel
theorem dX8_clean_7 : decode cX8_clean 7 = .ok (.ifCond .eq 13, 3) := by decide +kernel
theorem dX8_clean_10 : decode cX8_clean 10 = .ok (.iload_n 3, 1) := by decide +kernel
theorem dX8_clean_11 : decode cX8_clean 11 = .ok (.iconst 0, 1) := by decide +kernel
theorem dX8_clean_12 : decode cX8_clean 12 = .ok (.bipush 12, 2) := by decide +kernel
theorem dX8_clean_14 : decode cX8_clean 14 = .ok (.invokestatic 74, 3) := by decide +kernel
theorem dX8_clean_17 : decode cX8_clean 17 = .ok (.ifCond .ne 10, 3) := by decide +kernel
theorem dX8_clean_20 : decode cX8_clean 20 = .ok (.aload_n 0, 1) := by decide +kernel
theorem dX8_clean_21 : decode cX8_clean 21 = .ok (.iconst 0, 1) := by decide +kernel
theorem dX8_clean_22 : decode cX8_clean 22 = .ok (.invokevirtual 78, 3) := by decide +kernel
theorem dX8_clean_25 : decode cX8_clean 25 = .ok (.i2l, 1) := by decide +kernel
theorem dX8_clean_26 : decode cX8_clean 26 = .ok (.lreturn, 1) := by decide +kernel
theorem dX8_clean_27 : decode cX8_clean 27 = .ok (.aload_n 0, 1) := by decide +kernel
theorem dX8_clean_28 : decode cX8_clean 28 = .ok (.getfield 16, 3) := by decide +kernel
theorem dX8_clean_31 : decode cX8_clean 31 = .ok (.getfield 99, 3) := by decide +kernel
theorem dX8_clean_34 : decode cX8_clean 34 = .ok (.iload_n 1, 1) := by decide +kernel
theorem dX8_clean_35 : decode cX8_clean 35 = .ok (.aaload, 1) := by decide +kernel
theorem dX8_clean_36 : decode cX8_clean 36 = .ok (.astore 4, 2) := by decide +kernel
theorem dX8_clean_38 : decode cX8_clean 38 = .ok (.lconst 1, 1) := by decide +kernel
theorem dX8_clean_39 : decode cX8_clean 39 = .ok (.lstore 5, 2) := by decide +kernel
theorem dX8_clean_41 : decode cX8_clean 41 = .ok (.iload_n 2, 1) := by decide +kernel
theorem dX8_clean_42 : decode cX8_clean 42 = .ok (.istore 7, 2) := by decide +kernel
theorem dX8_clean_44 : decode cX8_clean 44 = .ok (.iload 7, 2) := by decide +kernel
theorem dX8_clean_46 : decode cX8_clean 46 = .ok (.iload_n 2, 1) := by decide +kernel
theorem dX8_clean_47 : decode cX8_clean 47 = .ok (.iload_n 3, 1) := by decide +kernel
theorem dX8_clean_48 : decode cX8_clean 48 = .ok (.iadd, 1) := by decide +kernel
theorem dX8_clean_49 : decode cX8_clean 49 = .ok (.if_icmp .ge 39, 3) := by decide +kernel
theorem dX8_clean_52 : decode cX8_clean 52 = .ok (.lload 5, 2) := by decide +kernel
theorem dX8_clean_54 : decode cX8_clean 54 = .ok (.bipush 24, 2) := by decide +kernel
theorem dX8_clean_56 : decode cX8_clean 56 = .ok (.aload_n 0, 1) := by decide +kernel
theorem dX8_clean_57 : decode cX8_clean 57 = .ok (.getfield 16, 3) := by decide +kernel
theorem dX8_clean_60 : decode cX8_clean 60 = .ok (.aload 4, 2) := by decide +kernel
theorem dX8_clean_62 : decode cX8_clean 62 = .ok (.iload 7, 2) := by decide +kernel
theorem dX8_clean_64 : decode cX8_clean 64 = .ok (.aload 4, 2) := by decide +kernel
theorem dX8_clean_66 : decode cX8_clean 66 = .ok (.getfield 118, 3) := by decide +kernel
theorem dX8_clean_69 : decode cX8_clean 69 = .ok (.iload 7, 2) := by decide +kernel
theorem dX8_clean_71 : decode cX8_clean 71 = .ok (.iaload, 1) := by decide +kernel
theorem dX8_clean_72 : decode cX8_clean 72 = .ok (.iconst 0, 1) := by decide +kernel
theorem dX8_clean_73 : decode cX8_clean 73 = .ok (.iconst 0, 1) := by decide +kernel
theorem dX8_clean_74 : decode cX8_clean 74 = .ok (.invokevirtual 127, 3) := by decide +kernel
theorem dX8_clean_77 : decode cX8_clean 77 = .ok (.isub, 1) := by decide +kernel
theorem dX8_clean_78 : decode cX8_clean 78 = .ok (.i2l, 1) := by decide +kernel
theorem dX8_clean_79 : decode cX8_clean 79 = .ok (.lmul, 1) := by decide +kernel
theorem dX8_clean_80 : decode cX8_clean 80 = .ok (.lstore 5, 2) := by decide +kernel
theorem dX8_clean_82 : decode cX8_clean 82 = .ok (.iinc 7 1, 3) := by decide +kernel
theorem dX8_clean_85 : decode cX8_clean 85 = .ok (.goto (-41), 3) := by decide +kernel
theorem dX8_clean_88 : decode cX8_clean 88 = .ok (.lload 5, 2) := by decide +kernel
theorem dX8_clean_90 : decode cX8_clean 90 = .ok (.lreturn, 1) := by decide +kernel
theorem dX8_drops_0 : decode cX8_drops 0 = .ok (.aload_n 0, 1) := by decide +kernel
theorem dX8_drops_1 : decode cX8_drops 1 = .ok (.iload_n 1, 1) := by decide +kernel
theorem dX8_drops_2 : decode cX8_drops 2 = .ok (.iload_n 2, 1) := by decide +kernel
theorem dX8_drops_3 : decode cX8_drops 3 = .ok (.iload_n 3, 1) := by decide +kernel
theorem dX8_drops_4 : decode cX8_drops 4 = .ok (.invokevirtual 173, 3) := by decide +kernel
theorem dX8_drops_7 : decode cX8_drops 7 = .ok (.ifCond .eq 23, 3) := by decide +kernel
theorem dX8_drops_10 : decode cX8_drops 10 = .ok (.iload_n 3, 1) := by decide +kernel
theorem dX8_drops_11 : decode cX8_drops 11 = .ok (.iconst 0, 1) := by decide +kernel
theorem dX8_drops_12 : decode cX8_drops 12 = .ok (.bipush 10, 2) := by decide +kernel
theorem dX8_drops_14 : decode cX8_drops 14 = .ok (.invokestatic 74, 3) := by decide +kernel
theorem dX8_drops_17 : decode cX8_drops 17 = .ok (.ifCond .eq 13, 3) := by decide +kernel
theorem dX8_drops_20 : decode cX8_drops 20 = .ok (.iload 4, 2) := by decide +kernel
theorem dX8_drops_22 : decode cX8_drops 22 = .ok (.iconst 0, 1) := by decide +kernel
theorem dX8_drops_23 : decode cX8_drops 23 = .ok (.iload_n 3, 1) := by decide +kernel
theorem dX8_drops_24 : decode cX8_drops 24 = .ok (.invokestatic 74, 3) := by decide +kernel
theorem dX8_drops_27 : decode cX8_drops 27 = .ok (.ifCond .ne 10, 3) := by decide +kernel
theorem dX8_drops_30 : decode cX8_drops 30 = .ok (.aload_n 0, 1) := by decide +kernel
theorem dX8_drops_31 : decode cX8_drops 31 = .ok (.iconst 0, 1) := by decide +kernel
theorem dX8_drops_32 : decode cX8_drops 32 = .ok (.invokevirtual 78, 3) := by decide +kernel
theorem dX8_drops_35 : decode cX8_drops 35 = .ok (.i2l, 1) := by decide +kernel
theorem dX8_drops_36 : decode cX8_drops 36 = .ok (.lreturn, 1) := by decide +kernel
theorem dX8_drops_37 : decode cX8_drops 37 = .ok (.aload_n 0, 1) := by decide +kernel
theorem dX8_drops_38 : decode cX8_drops 38 = .ok (.getfield 36, 3) := by decide +kernel
theorem dX8_drops_41 : decode cX8_drops 41 = .ok (.aload_n 0, 1) := by decide +kernel
theorem dX8_drops_42 : decode cX8_drops 42 = .ok (.getfield 16, 3) := by decide +kernel
theorem dX8_drops_45 : decode cX8_drops 45 = .ok (.iload_n 1, 1) := by decide +kernel
theorem dX8_drops_46 : decode cX8_drops 46 = .ok (.iload_n 2, 1) := by decide +kernel
theorem dX8_drops_47 : decode cX8_drops 47 = .ok (.iload_n 3, 1) := by decide +kernel
theorem dX8_drops_48 : decode cX8_drops 48 = .ok (.iload 4, 2) := by decide +kernel
theorem dX8_drops_50 : decode cX8_drops 50 = .ok (.invokevirtual 176, 3) := by decide +kernel
theorem dX8_drops_53 : decode cX8_drops 53 = .ok (.lreturn, 1) := by decide +kernel
theorem dX8_mean_0 : decode cX8_mean 0 = .ok (.aload_n 0, 1) := by decide +kernel
theorem dX8_mean_1 : decode cX8_mean 1 = .ok (.iload_n 1, 1) := by decide +kernel
theorem dX8_mean_2 : decode cX8_mean 2 = .ok (.invokevirtual 96, 3) := by decide +kernel
theorem dX8_mean_5 : decode cX8_mean 5 = .ok (.ifCond .eq 22, 3) := by decide +kernel
theorem dX8_mean_8 : decode cX8_mean 8 = .ok (.iload_n 2, 1) := by decide +kernel
theorem dX8_mean_9 : decode cX8_mean 9 = .ok (.iconst 0, 1) := by decide +kernel
theorem dX8_mean_10 : decode cX8_mean 10 = .ok (.bipush 30, 2) := by decide +kernel
theorem dX8_mean_12 : decode cX8_mean 12 = .ok (.invokestatic 74, 3) := by decide +kernel
theorem dX8_mean_15 : decode cX8_mean 15 = .ok (.ifCond .eq 12, 3) := by decide +kernel
theorem dX8_mean_18 : decode cX8_mean 18 = .ok (.iload_n 3, 1) := by decide +kernel
theorem dX8_mean_19 : decode cX8_mean 19 = .ok (.iconst 0, 1) := by decide +kernel
theorem dX8_mean_20 : decode cX8_mean 20 = .ok (.iconst 3, 1) := by decide +kernel
theorem dX8_mean_21 : decode cX8_mean 21 = .ok (.invokestatic 74, 3) := by decide +kernel
theorem dX8_mean_24 : decode cX8_mean 24 = .ok (.ifCond .ne 9, 3) := by decide +kernel
theorem dX8_mean_27 : decode cX8_mean 27 = .ok (.aload_n 0, 1) := by decide +kernel
theorem dX8_mean_28 : decode cX8_mean 28 = .ok (.iconst 0, 1) := by decide +kernel
theorem dX8_mean_29 : decode cX8_mean 29 = .ok (.invokevirtual 78, 3) := by decide +kernel
theorem dX8_mean_32 : decode cX8_mean 32 = .ok (.ireturn, 1) := by decide +kernel
theorem dX8_mean_33 : decode cX8_mean 33 = .ok (.aload_n 0, 1) := by decide +kernel
theorem dX8_mean_34 : decode cX8_mean 34 = .ok (.getfield 29, 3) := by decide +kernel
theorem dX8_mean_37 : decode cX8_mean 37 = .ok (.aload_n 0, 1) := by decide +kernel
theorem dX8_mean_38 : decode cX8_mean 38 = .ok (.getfield 16, 3) := by decide +kernel
theorem dX8_mean_41 : decode cX8_mean 41 = .ok (.iload_n 1, 1) := by decide +kernel
theorem dX8_mean_42 : decode cX8_mean 42 = .ok (.iload_n 2, 1) := by decide +kernel
theorem dX8_mean_43 : decode cX8_mean 43 = .ok (.bipush 30, 2) := by decide +kernel
theorem dX8_mean_45 : decode cX8_mean 45 = .ok (.iload_n 3, 1) := by decide +kernel
theorem dX8_mean_46 : decode cX8_mean 46 = .ok (.invokevirtual 180, 3) := by decide +kernel
theorem dX8_mean_49 : decode cX8_mean 49 = .ok (.ireturn, 1) := by decide +kernel
theorem dX8_least_0 : decode cX8_least 0 = .ok (.aload_n 0, 1) := by decide +kernel
theorem dX8_least_1 : decode cX8_least 1 = .ok (.iload_n 1, 1) := by decide +kernel
theorem dX8_least_2 : decode cX8_least 2 = .ok (.invokevirtual 96, 3) := by decide +kernel
theorem dX8_least_5 : decode cX8_least 5 = .ok (.ifCond .eq 22, 3) := by decide +kernel
theorem dX8_least_8 : decode cX8_least 8 = .ok (.iload_n 2, 1) := by decide +kernel
theorem dX8_least_9 : decode cX8_least 9 = .ok (.iconst 0, 1) := by decide +kernel
theorem dX8_least_10 : decode cX8_least 10 = .ok (.bipush 30, 2) := by decide +kernel
theorem dX8_least_12 : decode cX8_least 12 = .ok (.invokestatic 74, 3) := by decide +kernel
theorem dX8_least_15 : decode cX8_least 15 = .ok (.ifCond .eq 12, 3) := by decide +kernel
theorem dX8_least_18 : decode cX8_least 18 = .ok (.iload_n 3, 1) := by decide +kernel
theorem dX8_least_19 : decode cX8_least 19 = .ok (.iconst 0, 1) := by decide +kernel
theorem dX8_least_20 : decode cX8_least 20 = .ok (.iconst 3, 1) := by decide +kernel
theorem dX8_least_21 : decode cX8_least 21 = .ok (.invokestatic 74, 3) := by decide +kernel
theorem dX8_least_24 : decode cX8_least 24 = .ok (.ifCond .ne 9, 3) := by decide +kernel
theorem dX8_least_27 : decode cX8_least 27 = .ok (.aload_n 0, 1) := by decide +kernel
theorem dX8_least_28 : decode cX8_least 28 = .ok (.iconst 0, 1) := by decide +kernel
theorem dX8_least_29 : decode cX8_least 29 = .ok (.invokevirtual 78, 3) := by decide +kernel
theorem dX8_least_32 : decode cX8_least 32 = .ok (.ireturn, 1) := by decide +kernel
theorem dX8_least_33 : decode cX8_least 33 = .ok (.aload_n 0, 1) := by decide +kernel
theorem dX8_least_34 : decode cX8_least 34 = .ok (.getfield 29, 3) := by decide +kernel
theorem dX8_least_37 : decode cX8_least 37 = .ok (.aload_n 0, 1) := by decide +kernel
theorem dX8_least_38 : decode cX8_least 38 = .ok (.getfield 16, 3) := by decide +kernel
theorem dX8_least_41 : decode cX8_least 41 = .ok (.iload_n 1, 1) := by decide +kernel
theorem dX8_least_42 : decode cX8_least 42 = .ok (.iload_n 2, 1) := by decide +kernel
theorem dX8_least_43 : decode cX8_least 43 = .ok (.iload_n 3, 1) := by decide +kernel
theorem dX8_least_44 : decode cX8_least 44 = .ok (.invokevirtual 184, 3) := by decide +kernel
theorem dX8_least_47 : decode cX8_least 47 = .ok (.ireturn, 1) := by decide +kernel
theorem dX8_best_0 : decode cX8_best 0 = .ok (.aload_n 0, 1) := by decide +kernel
theorem dX8_best_1 : decode cX8_best 1 = .ok (.iload_n 1, 1) := by decide +kernel
theorem dX8_best_2 : decode cX8_best 2 = .ok (.invokevirtual 96, 3) := by decide +kernel
theorem dX8_best_5 : decode cX8_best 5 = .ok (.ifCond .eq 19, 3) := by decide +kernel
theorem dX8_best_8 : decode cX8_best 8 = .ok (.iload_n 2, 1) := by decide +kernel
theorem dX8_best_9 : decode cX8_best 9 = .ok (.invokestatic 70, 3) := by decide +kernel
theorem dX8_best_12 : decode cX8_best 12 = .ok (.ifCond .eq 12, 3) := by decide +kernel
theorem dX8_best_15 : decode cX8_best 15 = .ok (.iload_n 3, 1) := by decide +kernel
theorem dX8_best_16 : decode cX8_best 16 = .ok (.iconst 0, 1) := by decide +kernel
theorem dX8_best_17 : decode cX8_best 17 = .ok (.iconst 3, 1) := by decide +kernel
theorem dX8_best_18 : decode cX8_best 18 = .ok (.invokestatic 74, 3) := by decide +kernel
theorem dX8_best_21 : decode cX8_best 21 = .ok (.ifCond .ne 9, 3) := by decide +kernel
theorem dX8_best_24 : decode cX8_best 24 = .ok (.aload_n 0, 1) := by decide +kernel
theorem dX8_best_25 : decode cX8_best 25 = .ok (.iconst 0, 1) := by decide +kernel
theorem dX8_best_26 : decode cX8_best 26 = .ok (.invokevirtual 78, 3) := by decide +kernel
theorem dX8_best_29 : decode cX8_best 29 = .ok (.ireturn, 1) := by decide +kernel
theorem dX8_best_30 : decode cX8_best 30 = .ok (.aload_n 0, 1) := by decide +kernel
theorem dX8_best_31 : decode cX8_best 31 = .ok (.getfield 29, 3) := by decide +kernel
theorem dX8_best_34 : decode cX8_best 34 = .ok (.aload_n 0, 1) := by decide +kernel
theorem dX8_best_35 : decode cX8_best 35 = .ok (.getfield 16, 3) := by decide +kernel
theorem dX8_best_38 : decode cX8_best 38 = .ok (.iload_n 1, 1) := by decide +kernel
theorem dX8_best_39 : decode cX8_best 39 = .ok (.iload_n 2, 1) := by decide +kernel
theorem dX8_best_40 : decode cX8_best 40 = .ok (.iload_n 3, 1) := by decide +kernel
theorem dX8_best_41 : decode cX8_best 41 = .ok (.invokevirtual 184, 3) := by decide +kernel
theorem dX8_best_44 : decode cX8_best 44 = .ok (.pop, 1) := by decide +kernel
theorem dX8_best_45 : decode cX8_best 45 = .ok (.aload_n 0, 1) := by decide +kernel
theorem dX8_best_46 : decode cX8_best 46 = .ok (.getfield 29, 3) := by decide +kernel
theorem dX8_best_49 : decode cX8_best 49 = .ok (.iload_n 2, 1) := by decide +kernel
theorem dX8_best_50 : decode cX8_best 50 = .ok (.iload_n 3, 1) := by decide +kernel
theorem dX8_best_51 : decode cX8_best 51 = .ok (.invokevirtual 188, 3) := by decide +kernel
theorem dX8_best_54 : decode cX8_best 54 = .ok (.ireturn, 1) := by decide +kernel
theorem dX8_train_0 : decode cX8_train 0 = .ok (.aload_n 0, 1) := by decide +kernel
theorem dX8_train_1 : decode cX8_train 1 = .ok (.iload_n 1, 1) := by decide +kernel
theorem dX8_train_2 : decode cX8_train 2 = .ok (.invokevirtual 96, 3) := by decide +kernel
theorem dX8_train_5 : decode cX8_train 5 = .ok (.ifCond .ne 9, 3) := by decide +kernel
theorem dX8_train_8 : decode cX8_train 8 = .ok (.aload_n 0, 1) := by decide +kernel
theorem dX8_train_9 : decode cX8_train 9 = .ok (.iconst 0, 1) := by decide +kernel
theorem dX8_train_10 : decode cX8_train 10 = .ok (.invokevirtual 78, 3) := by decide +kernel
theorem dX8_train_13 : decode cX8_train 13 = .ok (.ireturn, 1) := by decide +kernel
theorem dX8_train_14 : decode cX8_train 14 = .ok (.aload_n 0, 1) := by decide +kernel
theorem dX8_train_15 : decode cX8_train 15 = .ok (.getfield 29, 3) := by decide +kernel
theorem dX8_train_18 : decode cX8_train 18 = .ok (.aload_n 0, 1) := by decide +kernel
theorem dX8_train_19 : decode cX8_train 19 = .ok (.getfield 16, 3) := by decide +kernel
theorem dX8_train_22 : decode cX8_train 22 = .ok (.iload_n 1, 1) := by decide +kernel
theorem dX8_train_23 : decode cX8_train 23 = .ok (.iconst 0, 1) := by decide +kernel
theorem dX8_train_24 : decode cX8_train 24 = .ok (.iconst 0, 1) := by decide +kernel
theorem dX8_train_25 : decode cX8_train 25 = .ok (.invokevirtual 184, 3) := by decide +kernel
theorem dX8_train_28 : decode cX8_train 28 = .ok (.pop, 1) := by decide +kernel
theorem dX8_train_29 : decode cX8_train 29 = .ok (.aload_n 0, 1) := by decide +kernel
theorem dX8_train_30 : decode cX8_train 30 = .ok (.getfield 16, 3) := by decide +kernel
theorem dX8_train_33 : decode cX8_train 33 = .ok (.getfield 99, 3) := by decide +kernel
theorem dX8_train_36 : decode cX8_train 36 = .ok (.iload_n 1, 1) := by decide +kernel
theorem dX8_train_37 : decode cX8_train 37 = .ok (.aaload, 1) := by decide +kernel
theorem dX8_train_38 : decode cX8_train 38 = .ok (.getfield 118, 3) := by decide +kernel
theorem dX8_train_41 : decode cX8_train 41 = .ok (.astore_n 2, 1) := by decide +kernel
theorem dX8_train_42 : decode cX8_train 42 = .ok (.iconst 0, 1) := by decide +kernel
theorem dX8_train_43 : decode cX8_train 43 = .ok (.istore_n 3, 1) := by decide +kernel
theorem dX8_train_44 : decode cX8_train 44 = .ok (.iconst 0, 1) := by decide +kernel
theorem dX8_train_45 : decode cX8_train 45 = .ok (.istore 4, 2) := by decide +kernel
theorem dX8_train_47 : decode cX8_train 47 = .ok (.iload 4, 2) := by decide +kernel
theorem dX8_train_49 : decode cX8_train 49 = .ok (.bipush 30, 2) := by decide +kernel
theorem dX8_train_51 : decode cX8_train 51 = .ok (.if_icmp .ge 44, 3) := by decide +kernel
theorem dX8_train_54 : decode cX8_train 54 = .ok (.aload_n 0, 1) := by decide +kernel
theorem dX8_train_55 : decode cX8_train 55 = .ok (.getfield 29, 3) := by decide +kernel
theorem dX8_train_58 : decode cX8_train 58 = .ok (.iload 4, 2) := by decide +kernel
theorem dX8_train_60 : decode cX8_train 60 = .ok (.iconst 0, 1) := by decide +kernel
theorem dX8_train_61 : decode cX8_train 61 = .ok (.invokevirtual 188, 3) := by decide +kernel
theorem dX8_train_64 : decode cX8_train 64 = .ok (.istore 5, 2) := by decide +kernel
theorem dX8_train_66 : decode cX8_train 66 = .ok (.iload_n 3, 1) := by decide +kernel
theorem dX8_train_67 : decode cX8_train 67 = .ok (.aload_n 2, 1) := by decide +kernel
theorem dX8_train_68 : decode cX8_train 68 = .ok (.iload 4, 2) := by decide +kernel
theorem dX8_train_70 : decode cX8_train 70 = .ok (.iaload, 1) := by decide +kernel
theorem dX8_train_71 : decode cX8_train 71 = .ok (.iload 5, 2) := by decide +kernel
theorem dX8_train_73 : decode cX8_train 73 = .ok (.if_icmp .ne 7, 3) := by decide +kernel
theorem dX8_train_76 : decode cX8_train 76 = .ok (.iconst 0, 1) := by decide +kernel
theorem dX8_train_77 : decode cX8_train 77 = .ok (.goto 4, 3) := by decide +kernel
theorem dX8_train_80 : decode cX8_train 80 = .ok (.iconst 1, 1) := by decide +kernel
theorem dX8_train_81 : decode cX8_train 81 = .ok (.iadd, 1) := by decide +kernel
theorem dX8_train_82 : decode cX8_train 82 = .ok (.istore_n 3, 1) := by decide +kernel
theorem dX8_train_83 : decode cX8_train 83 = .ok (.aload_n 2, 1) := by decide +kernel
theorem dX8_train_84 : decode cX8_train 84 = .ok (.iload 4, 2) := by decide +kernel
theorem dX8_train_86 : decode cX8_train 86 = .ok (.iload 5, 2) := by decide +kernel
theorem dX8_train_88 : decode cX8_train 88 = .ok (.iastore, 1) := by decide +kernel
theorem dX8_train_89 : decode cX8_train 89 = .ok (.iinc 4 1, 3) := by decide +kernel
theorem dX8_train_92 : decode cX8_train 92 = .ok (.goto (-45), 3) := by decide +kernel
theorem dX8_train_95 : decode cX8_train 95 = .ok (.iload_n 3, 1) := by decide +kernel
theorem dX8_train_96 : decode cX8_train 96 = .ok (.ireturn, 1) := by decide +kernel
theorem dX8_even_0 : decode cX8_even 0 = .ok (.aload_n 0, 1) := by decide +kernel
theorem dX8_even_1 : decode cX8_even 1 = .ok (.iload_n 1, 1) := by decide +kernel
theorem dX8_even_2 : decode cX8_even 2 = .ok (.invokevirtual 96, 3) := by decide +kernel
theorem dX8_even_5 : decode cX8_even 5 = .ok (.ifCond .ne 9, 3) := by decide +kernel
theorem dX8_even_8 : decode cX8_even 8 = .ok (.aload_n 0, 1) := by decide +kernel
theorem dX8_even_9 : decode cX8_even 9 = .ok (.iconst 0, 1) := by decide +kernel
theorem dX8_even_10 : decode cX8_even 10 = .ok (.invokevirtual 78, 3) := by decide +kernel
theorem dX8_even_13 : decode cX8_even 13 = .ok (.ireturn, 1) := by decide +kernel
theorem dX8_even_14 : decode cX8_even 14 = .ok (.aload_n 0, 1) := by decide +kernel
theorem dX8_even_15 : decode cX8_even 15 = .ok (.getfield 23, 3) := by decide +kernel
theorem dX8_even_18 : decode cX8_even 18 = .ok (.aload_n 0, 1) := by decide +kernel
theorem dX8_even_19 : decode cX8_even 19 = .ok (.getfield 16, 3) := by decide +kernel
theorem dX8_even_22 : decode cX8_even 22 = .ok (.invokevirtual 151, 3) := by decide +kernel
theorem dX8_even_25 : decode cX8_even 25 = .ok (.ldc 194, 2) := by decide +kernel
theorem dX8_even_27 : decode cX8_even 27 = .ok (.istore_n 2, 1) := by decide +kernel
theorem dX8_even_28 : decode cX8_even 28 = .ok (.iconst 1, 1) := by decide +kernel
theorem dX8_even_29 : decode cX8_even 29 = .ok (.istore_n 3, 1) := by decide +kernel
theorem dX8_even_30 : decode cX8_even 30 = .ok (.iconst 1, 1) := by decide +kernel
theorem dX8_even_31 : decode cX8_even 31 = .ok (.istore 4, 2) := by decide +kernel
theorem dX8_even_33 : decode cX8_even 33 = .ok (.iload 4, 2) := by decide +kernel
theorem dX8_even_35 : decode cX8_even 35 = .ok (.bipush 9, 2) := by decide +kernel
theorem dX8_even_37 : decode cX8_even 37 = .ok (.if_icmp .gt 49, 3) := by decide +kernel
theorem dX8_even_40 : decode cX8_even 40 = .ok (.aload_n 0, 1) := by decide +kernel
theorem dX8_even_41 : decode cX8_even 41 = .ok (.getfield 23, 3) := by decide +kernel
theorem dX8_even_44 : decode cX8_even 44 = .ok (.getfield 99, 3) := by decide +kernel
theorem dX8_even_47 : decode cX8_even 47 = .ok (.iload_n 1, 1) := by decide +kernel
theorem dX8_even_48 : decode cX8_even 48 = .ok (.aaload, 1) := by decide +kernel
theorem dX8_even_49 : decode cX8_even 49 = .ok (.getfield 118, 3) := by decide +kernel
theorem dX8_even_52 : decode cX8_even 52 = .ok (.iload 4, 2) := by decide +kernel
theorem dX8_even_54 : decode cX8_even 54 = .ok (.invokestatic 195, 3) := by decide +kernel
theorem dX8_even_57 : decode cX8_even 57 = .ok (.aload_n 0, 1) := by decide +kernel
theorem dX8_even_58 : decode cX8_even 58 = .ok (.aload_n 0, 1) := by decide +kernel
theorem dX8_even_59 : decode cX8_even 59 = .ok (.getfield 23, 3) := by decide +kernel
theorem dX8_even_62 : decode cX8_even 62 = .ok (.iload_n 1, 1) := by decide +kernel
theorem dX8_even_63 : decode cX8_even 63 = .ok (.invokevirtual 201, 3) := by decide +kernel
theorem dX8_even_66 : decode cX8_even 66 = .ok (.istore 5, 2) := by decide +kernel
theorem dX8_even_68 : decode cX8_even 68 = .ok (.iload 5, 2) := by decide +kernel
theorem dX8_even_70 : decode cX8_even 70 = .ok (.iload_n 2, 1) := by decide +kernel
theorem dX8_even_71 : decode cX8_even 71 = .ok (.if_icmp .ge 9, 3) := by decide +kernel
theorem dX8_even_74 : decode cX8_even 74 = .ok (.iload 5, 2) := by decide +kernel
theorem dX8_even_76 : decode cX8_even 76 = .ok (.istore_n 2, 1) := by decide +kernel
theorem dX8_even_77 : decode cX8_even 77 = .ok (.iload 4, 2) := by decide +kernel
theorem dX8_even_79 : decode cX8_even 79 = .ok (.istore_n 3, 1) := by decide +kernel
theorem dX8_even_80 : decode cX8_even 80 = .ok (.iinc 4 1, 3) := by decide +kernel
theorem dX8_even_83 : decode cX8_even 83 = .ok (.goto (-50), 3) := by decide +kernel
theorem dX8_even_86 : decode cX8_even 86 = .ok (.iload_n 3, 1) := by decide +kernel
theorem dX8_even_87 : decode cX8_even 87 = .ok (.ireturn, 1) := by decide +kernel
theorem dX8_costs_0 : decode cX8_costs 0 = .ok (.aload_n 0, 1) := by decide +kernel
theorem dX8_costs_1 : decode cX8_costs 1 = .ok (.iload_n 1, 1) := by decide +kernel
theorem dX8_costs_2 : decode cX8_costs 2 = .ok (.invokevirtual 96, 3) := by decide +kernel
theorem dX8_costs_5 : decode cX8_costs 5 = .ok (.ifCond .eq 10, 3) := by decide +kernel
theorem dX8_costs_8 : decode cX8_costs 8 = .ok (.iload_n 2, 1) := by decide +kernel
theorem dX8_costs_9 : decode cX8_costs 9 = .ok (.invokestatic 70, 3) := by decide +kernel
theorem dX8_costs_12 : decode cX8_costs 12 = .ok (.ifCond .ne 9, 3) := by decide +kernel
theorem dX8_costs_15 : decode cX8_costs 15 = .ok (.aload_n 0, 1) := by decide +kernel
theorem dX8_costs_16 : decode cX8_costs 16 = .ok (.iconst 0, 1) := by decide +kernel
theorem dX8_costs_17 : decode cX8_costs 17 = .ok (.invokevirtual 78, 3) := by decide +kernel
theorem dX8_costs_20 : decode cX8_costs 20 = .ok (.ireturn, 1) := by decide +kernel
theorem dX8_costs_21 : decode cX8_costs 21 = .ok (.aload_n 0, 1) := by decide +kernel
theorem dX8_costs_22 : decode cX8_costs 22 = .ok (.getfield 29, 3) := by decide +kernel
theorem dX8_costs_25 : decode cX8_costs 25 = .ok (.aload_n 0, 1) := by decide +kernel
theorem dX8_costs_26 : decode cX8_costs 26 = .ok (.getfield 16, 3) := by decide +kernel
theorem dX8_costs_29 : decode cX8_costs 29 = .ok (.iload_n 1, 1) := by decide +kernel
theorem dX8_costs_30 : decode cX8_costs 30 = .ok (.iload_n 2, 1) := by decide +kernel
theorem dX8_costs_31 : decode cX8_costs 31 = .ok (.iconst 1, 1) := by decide +kernel
theorem dX8_costs_32 : decode cX8_costs 32 = .ok (.iadd, 1) := by decide +kernel
theorem dX8_costs_33 : decode cX8_costs 33 = .ok (.bipush 30, 2) := by decide +kernel
theorem dX8_costs_35 : decode cX8_costs 35 = .ok (.iconst 3, 1) := by decide +kernel
theorem dX8_costs_36 : decode cX8_costs 36 = .ok (.invokevirtual 180, 3) := by decide +kernel
theorem dX8_costs_39 : decode cX8_costs 39 = .ok (.istore_n 3, 1) := by decide +kernel
theorem dX8_costs_40 : decode cX8_costs 40 = .ok (.aload_n 0, 1) := by decide +kernel
theorem dX8_costs_41 : decode cX8_costs 41 = .ok (.getfield 29, 3) := by decide +kernel
theorem dX8_costs_44 : decode cX8_costs 44 = .ok (.aload_n 0, 1) := by decide +kernel
theorem dX8_costs_45 : decode cX8_costs 45 = .ok (.getfield 16, 3) := by decide +kernel
theorem dX8_costs_48 : decode cX8_costs 48 = .ok (.iload_n 1, 1) := by decide +kernel
theorem dX8_costs_49 : decode cX8_costs 49 = .ok (.iload_n 2, 1) := by decide +kernel
theorem dX8_costs_50 : decode cX8_costs 50 = .ok (.iconst 1, 1) := by decide +kernel
theorem dX8_costs_51 : decode cX8_costs 51 = .ok (.iadd, 1) := by decide +kernel
theorem dX8_costs_52 : decode cX8_costs 52 = .ok (.bipush 30, 2) := by decide +kernel
theorem dX8_costs_54 : decode cX8_costs 54 = .ok (.iconst 0, 1) := by decide +kernel
theorem dX8_costs_55 : decode cX8_costs 55 = .ok (.invokevirtual 180, 3) := by decide +kernel
theorem dX8_costs_58 : decode cX8_costs 58 = .ok (.istore 4, 2) := by decide +kernel
theorem dX8_costs_60 : decode cX8_costs 60 = .ok (.sipush 1000, 3) := by decide +kernel
theorem dX8_costs_63 : decode cX8_costs 63 = .ok (.aload_n 0, 1) := by decide +kernel
theorem dX8_costs_64 : decode cX8_costs 64 = .ok (.getfield 16, 3) := by decide +kernel
theorem dX8_costs_67 : decode cX8_costs 67 = .ok (.getfield 85, 3) := by decide +kernel
theorem dX8_costs_70 : decode cX8_costs 70 = .ok (.imul, 1) := by decide +kernel
theorem dX8_costs_71 : decode cX8_costs 71 = .ok (.iload_n 3, 1) := by decide +kernel
theorem dX8_costs_72 : decode cX8_costs 72 = .ok (.iadd, 1) := by decide +kernel
theorem dX8_costs_73 : decode cX8_costs 73 = .ok (.iload 4, 2) := by decide +kernel
theorem dX8_costs_75 : decode cX8_costs 75 = .ok (.isub, 1) := by decide +kernel
theorem dX8_costs_76 : decode cX8_costs 76 = .ok (.ireturn, 1) := by decide +kernel
theorem dX8_worst_0 : decode cX8_worst 0 = .ok (.aload_n 0, 1) := by decide +kernel
theorem dX8_worst_1 : decode cX8_worst 1 = .ok (.iload_n 1, 1) := by decide +kernel
theorem dX8_worst_2 : decode cX8_worst 2 = .ok (.invokevirtual 96, 3) := by decide +kernel
theorem dX8_worst_5 : decode cX8_worst 5 = .ok (.ifCond .ne 9, 3) := by decide +kernel
theorem dX8_worst_8 : decode cX8_worst 8 = .ok (.aload_n 0, 1) := by decide +kernel
theorem dX8_worst_9 : decode cX8_worst 9 = .ok (.iconst 0, 1) := by decide +kernel
theorem dX8_worst_10 : decode cX8_worst 10 = .ok (.invokevirtual 78, 3) := by decide +kernel
theorem dX8_worst_13 : decode cX8_worst 13 = .ok (.ireturn, 1) := by decide +kernel
theorem dX8_worst_14 : decode cX8_worst 14 = .ok (.aload_n 0, 1) := by decide +kernel
theorem dX8_worst_15 : decode cX8_worst 15 = .ok (.getfield 23, 3) := by decide +kernel
theorem dX8_worst_18 : decode cX8_worst 18 = .ok (.aload_n 0, 1) := by decide +kernel
theorem dX8_worst_19 : decode cX8_worst 19 = .ok (.getfield 16, 3) := by decide +kernel
theorem dX8_worst_22 : decode cX8_worst 22 = .ok (.invokevirtual 151, 3) := by decide +kernel
theorem dX8_worst_25 : decode cX8_worst 25 = .ok (.ldc 194, 2) := by decide +kernel
theorem dX8_worst_27 : decode cX8_worst 27 = .ok (.istore_n 2, 1) := by decide +kernel
theorem dX8_worst_28 : decode cX8_worst 28 = .ok (.iconst 0, 1) := by decide +kernel
theorem dX8_worst_29 : decode cX8_worst 29 = .ok (.istore_n 3, 1) := by decide +kernel
theorem dX8_worst_30 : decode cX8_worst 30 = .ok (.iconst 0, 1) := by decide +kernel
theorem dX8_worst_31 : decode cX8_worst 31 = .ok (.istore 4, 2) := by decide +kernel
theorem dX8_worst_33 : decode cX8_worst 33 = .ok (.iload 4, 2) := by decide +kernel
theorem dX8_worst_35 : decode cX8_worst 35 = .ok (.bipush 30, 2) := by decide +kernel
theorem dX8_worst_37 : decode cX8_worst 37 = .ok (.if_icmp .ge 63, 3) := by decide +kernel
theorem dX8_worst_40 : decode cX8_worst 40 = .ok (.aload_n 0, 1) := by decide +kernel
theorem dX8_worst_41 : decode cX8_worst 41 = .ok (.getfield 23, 3) := by decide +kernel
theorem dX8_worst_44 : decode cX8_worst 44 = .ok (.getfield 82, 3) := by decide +kernel
theorem dX8_worst_47 : decode cX8_worst 47 = .ok (.iload 4, 2) := by decide +kernel
theorem dX8_worst_49 : decode cX8_worst 49 = .ok (.iconst 0, 1) := by decide +kernel
theorem dX8_worst_50 : decode cX8_worst 50 = .ok (.iastore, 1) := by decide +kernel
theorem dX8_worst_51 : decode cX8_worst 51 = .ok (.aload_n 0, 1) := by decide +kernel
theorem dX8_worst_52 : decode cX8_worst 52 = .ok (.aload_n 0, 1) := by decide +kernel
theorem dX8_worst_53 : decode cX8_worst 53 = .ok (.getfield 23, 3) := by decide +kernel
theorem dX8_worst_56 : decode cX8_worst 56 = .ok (.iload_n 1, 1) := by decide +kernel
theorem dX8_worst_57 : decode cX8_worst 57 = .ok (.invokevirtual 201, 3) := by decide +kernel
theorem dX8_worst_60 : decode cX8_worst 60 = .ok (.istore 5, 2) := by decide +kernel
theorem dX8_worst_62 : decode cX8_worst 62 = .ok (.aload_n 0, 1) := by decide +kernel
theorem dX8_worst_63 : decode cX8_worst 63 = .ok (.getfield 23, 3) := by decide +kernel
theorem dX8_worst_66 : decode cX8_worst 66 = .ok (.getfield 82, 3) := by decide +kernel
theorem dX8_worst_69 : decode cX8_worst 69 = .ok (.iload 4, 2) := by decide +kernel
theorem dX8_worst_71 : decode cX8_worst 71 = .ok (.aload_n 0, 1) := by decide +kernel
theorem dX8_worst_72 : decode cX8_worst 72 = .ok (.getfield 16, 3) := by decide +kernel
theorem dX8_worst_75 : decode cX8_worst 75 = .ok (.getfield 82, 3) := by decide +kernel
theorem dX8_worst_78 : decode cX8_worst 78 = .ok (.iload 4, 2) := by decide +kernel
theorem dX8_worst_80 : decode cX8_worst 80 = .ok (.iaload, 1) := by decide +kernel
theorem dX8_worst_81 : decode cX8_worst 81 = .ok (.iastore, 1) := by decide +kernel
theorem dX8_worst_82 : decode cX8_worst 82 = .ok (.iload 5, 2) := by decide +kernel
theorem dX8_worst_84 : decode cX8_worst 84 = .ok (.iload_n 2, 1) := by decide +kernel
theorem dX8_worst_85 : decode cX8_worst 85 = .ok (.if_icmp .ge 9, 3) := by decide +kernel
theorem dX8_worst_88 : decode cX8_worst 88 = .ok (.iload 5, 2) := by decide +kernel
theorem dX8_worst_90 : decode cX8_worst 90 = .ok (.istore_n 2, 1) := by decide +kernel
theorem dX8_worst_91 : decode cX8_worst 91 = .ok (.iload 4, 2) := by decide +kernel
theorem dX8_worst_93 : decode cX8_worst 93 = .ok (.istore_n 3, 1) := by decide +kernel
theorem dX8_worst_94 : decode cX8_worst 94 = .ok (.iinc 4 1, 3) := by decide +kernel
theorem dX8_worst_97 : decode cX8_worst 97 = .ok (.goto (-64), 3) := by decide +kernel
theorem dX8_worst_100 : decode cX8_worst 100 = .ok (.iload_n 3, 1) := by decide +kernel
theorem dX8_worst_101 : decode cX8_worst 101 = .ok (.ireturn, 1) := by decide +kernel
theorem dX8_spoon_0 : decode cX8_spoon 0 = .ok (.aload_n 0, 1) := by decide +kernel
theorem dX8_spoon_1 : decode cX8_spoon 1 = .ok (.iload_n 1, 1) := by decide +kernel
theorem dX8_spoon_2 : decode cX8_spoon 2 = .ok (.invokevirtual 96, 3) := by decide +kernel
theorem dX8_spoon_5 : decode cX8_spoon 5 = .ok (.ifCond .ne 9, 3) := by decide +kernel
theorem dX8_spoon_8 : decode cX8_spoon 8 = .ok (.aload_n 0, 1) := by decide +kernel
theorem dX8_spoon_9 : decode cX8_spoon 9 = .ok (.iconst 0, 1) := by decide +kernel
theorem dX8_spoon_10 : decode cX8_spoon 10 = .ok (.invokevirtual 78, 3) := by decide +kernel
theorem dX8_spoon_13 : decode cX8_spoon 13 = .ok (.ireturn, 1) := by decide +kernel
theorem dX8_spoon_14 : decode cX8_spoon 14 = .ok (.aload_n 0, 1) := by decide +kernel
theorem dX8_spoon_15 : decode cX8_spoon 15 = .ok (.getfield 23, 3) := by decide +kernel
theorem dX8_spoon_18 : decode cX8_spoon 18 = .ok (.aload_n 0, 1) := by decide +kernel
theorem dX8_spoon_19 : decode cX8_spoon 19 = .ok (.getfield 16, 3) := by decide +kernel
theorem dX8_spoon_22 : decode cX8_spoon 22 = .ok (.invokevirtual 151, 3) := by decide +kernel
theorem dX8_spoon_25 : decode cX8_spoon 25 = .ok (.ldc 194, 2) := by decide +kernel
theorem dX8_spoon_27 : decode cX8_spoon 27 = .ok (.istore_n 2, 1) := by decide +kernel
theorem dX8_spoon_28 : decode cX8_spoon 28 = .ok (.iconst 0, 1) := by decide +kernel
theorem dX8_spoon_29 : decode cX8_spoon 29 = .ok (.istore_n 3, 1) := by decide +kernel
theorem dX8_spoon_30 : decode cX8_spoon 30 = .ok (.iconst 0, 1) := by decide +kernel
theorem dX8_spoon_31 : decode cX8_spoon 31 = .ok (.istore 4, 2) := by decide +kernel
theorem dX8_spoon_33 : decode cX8_spoon 33 = .ok (.iload 4, 2) := by decide +kernel
theorem dX8_spoon_35 : decode cX8_spoon 35 = .ok (.iconst 5, 1) := by decide +kernel
theorem dX8_spoon_36 : decode cX8_spoon 36 = .ok (.if_icmp .gt 53, 3) := by decide +kernel
theorem dX8_spoon_39 : decode cX8_spoon 39 = .ok (.aload_n 0, 1) := by decide +kernel
theorem dX8_spoon_40 : decode cX8_spoon 40 = .ok (.getfield 23, 3) := by decide +kernel
theorem dX8_spoon_43 : decode cX8_spoon 43 = .ok (.getfield 99, 3) := by decide +kernel
theorem dX8_spoon_46 : decode cX8_spoon 46 = .ok (.iload_n 1, 1) := by decide +kernel
theorem dX8_spoon_47 : decode cX8_spoon 47 = .ok (.aaload, 1) := by decide +kernel
theorem dX8_spoon_48 : decode cX8_spoon 48 = .ok (.iload 4, 2) := by decide +kernel
theorem dX8_spoon_50 : decode cX8_spoon 50 = .ok (.putfield 205, 3) := by decide +kernel
theorem dX8_spoon_53 : decode cX8_spoon 53 = .ok (.aload_n 0, 1) := by decide +kernel
theorem dX8_spoon_54 : decode cX8_spoon 54 = .ok (.aload_n 0, 1) := by decide +kernel
theorem dX8_spoon_55 : decode cX8_spoon 55 = .ok (.getfield 23, 3) := by decide +kernel
theorem dX8_spoon_58 : decode cX8_spoon 58 = .ok (.iload_n 1, 1) := by decide +kernel
theorem dX8_spoon_59 : decode cX8_spoon 59 = .ok (.invokevirtual 201, 3) := by decide +kernel
theorem dX8_spoon_62 : decode cX8_spoon 62 = .ok (.sipush 15000, 3) := by decide +kernel
theorem dX8_spoon_65 : decode cX8_spoon 65 = .ok (.iload 4, 2) := by decide +kernel
theorem dX8_spoon_67 : decode cX8_spoon 67 = .ok (.imul, 1) := by decide +kernel
theorem dX8_spoon_68 : decode cX8_spoon 68 = .ok (.iadd, 1) := by decide +kernel
theorem dX8_spoon_69 : decode cX8_spoon 69 = .ok (.istore 5, 2) := by decide +kernel
theorem dX8_spoon_71 : decode cX8_spoon 71 = .ok (.iload 5, 2) := by decide +kernel
theorem dX8_spoon_73 : decode cX8_spoon 73 = .ok (.iload_n 2, 1) := by decide +kernel
theorem dX8_spoon_74 : decode cX8_spoon 74 = .ok (.if_icmp .ge 9, 3) := by decide +kernel
theorem dX8_spoon_77 : decode cX8_spoon 77 = .ok (.iload 5, 2) := by decide +kernel
theorem dX8_spoon_79 : decode cX8_spoon 79 = .ok (.istore_n 2, 1) := by decide +kernel
theorem dX8_spoon_80 : decode cX8_spoon 80 = .ok (.iload 4, 2) := by decide +kernel
theorem dX8_spoon_82 : decode cX8_spoon 82 = .ok (.istore_n 3, 1) := by decide +kernel
theorem dX8_spoon_83 : decode cX8_spoon 83 = .ok (.iinc 4 1, 3) := by decide +kernel
theorem dX8_spoon_86 : decode cX8_spoon 86 = .ok (.goto (-53), 3) := by decide +kernel
theorem dX8_spoon_89 : decode cX8_spoon 89 = .ok (.iload_n 3, 1) := by decide +kernel
theorem dX8_spoon_90 : decode cX8_spoon 90 = .ok (.ireturn, 1) := by decide +kernel
theorem dX8_armFor_0 : decode cX8_armFor 0 = .ok (.aload_n 0, 1) := by decide +kernel
theorem dX8_armFor_1 : decode cX8_armFor 1 = .ok (.iload_n 1, 1) := by decide +kernel
theorem dX8_armFor_2 : decode cX8_armFor 2 = .ok (.invokevirtual 96, 3) := by decide +kernel
theorem dX8_armFor_5 : decode cX8_armFor 5 = .ok (.ifCond .eq 13, 3) := by decide +kernel
theorem dX8_armFor_8 : decode cX8_armFor 8 = .ok (.iload_n 2, 1) := by decide +kernel
theorem dX8_armFor_9 : decode cX8_armFor 9 = .ok (.iconst 0, 1) := by decide +kernel
theorem dX8_armFor_10 : decode cX8_armFor 10 = .ok (.ldc 208, 2) := by decide +kernel
theorem dX8_armFor_12 : decode cX8_armFor 12 = .ok (.invokestatic 74, 3) := by decide +kernel
theorem dX8_armFor_15 : decode cX8_armFor 15 = .ok (.ifCond .ne 9, 3) := by decide +kernel
theorem dX8_armFor_18 : decode cX8_armFor 18 = .ok (.aload_n 0, 1) := by decide +kernel
theorem dX8_armFor_19 : decode cX8_armFor 19 = .ok (.iconst 0, 1) := by decide +kernel
theorem dX8_armFor_20 : decode cX8_armFor 20 = .ok (.invokevirtual 78, 3) := by decide +kernel
theorem dX8_armFor_23 : decode cX8_armFor 23 = .ok (.ireturn, 1) := by decide +kernel
theorem dX8_armFor_24 : decode cX8_armFor 24 = .ok (.aload_n 0, 1) := by decide +kernel
theorem dX8_armFor_25 : decode cX8_armFor 25 = .ok (.getfield 23, 3) := by decide +kernel
theorem dX8_armFor_28 : decode cX8_armFor 28 = .ok (.aload_n 0, 1) := by decide +kernel
theorem dX8_armFor_29 : decode cX8_armFor 29 = .ok (.getfield 16, 3) := by decide +kernel
theorem dX8_armFor_32 : decode cX8_armFor 32 = .ok (.invokevirtual 151, 3) := by decide +kernel
theorem dX8_armFor_35 : decode cX8_armFor 35 = .ok (.iconst 0, 1) := by decide +kernel
theorem dX8_armFor_36 : decode cX8_armFor 36 = .ok (.istore_n 3, 1) := by decide +kernel
theorem dX8_armFor_37 : decode cX8_armFor 37 = .ok (.iload_n 3, 1) := by decide +kernel
theorem dX8_armFor_38 : decode cX8_armFor 38 = .ok (.bipush 9, 2) := by decide +kernel
theorem dX8_armFor_40 : decode cX8_armFor 40 = .ok (.if_icmp .gt 37, 3) := by decide +kernel
theorem dX8_armFor_43 : decode cX8_armFor 43 = .ok (.aload_n 0, 1) := by decide +kernel
theorem dX8_armFor_44 : decode cX8_armFor 44 = .ok (.getfield 23, 3) := by decide +kernel
theorem dX8_armFor_47 : decode cX8_armFor 47 = .ok (.getfield 99, 3) := by decide +kernel
theorem dX8_armFor_50 : decode cX8_armFor 50 = .ok (.iload_n 1, 1) := by decide +kernel
theorem dX8_armFor_51 : decode cX8_armFor 51 = .ok (.aaload, 1) := by decide +kernel
theorem dX8_armFor_52 : decode cX8_armFor 52 = .ok (.iload_n 3, 1) := by decide +kernel
theorem dX8_armFor_53 : decode cX8_armFor 53 = .ok (.putfield 209, 3) := by decide +kernel
theorem dX8_armFor_56 : decode cX8_armFor 56 = .ok (.aload_n 0, 1) := by decide +kernel
theorem dX8_armFor_57 : decode cX8_armFor 57 = .ok (.aload_n 0, 1) := by decide +kernel
theorem dX8_armFor_58 : decode cX8_armFor 58 = .ok (.getfield 23, 3) := by decide +kernel
theorem dX8_armFor_61 : decode cX8_armFor 61 = .ok (.iload_n 1, 1) := by decide +kernel
theorem dX8_armFor_62 : decode cX8_armFor 62 = .ok (.invokevirtual 201, 3) := by decide +kernel
theorem dX8_armFor_65 : decode cX8_armFor 65 = .ok (.iload_n 2, 1) := by decide +kernel
theorem dX8_armFor_66 : decode cX8_armFor 66 = .ok (.if_icmp .gt 5, 3) := by decide +kernel
theorem dX8_armFor_69 : decode cX8_armFor 69 = .ok (.iload_n 3, 1) := by decide +kernel
theorem dX8_armFor_70 : decode cX8_armFor 70 = .ok (.ireturn, 1) := by decide +kernel
theorem dX8_armFor_71 : decode cX8_armFor 71 = .ok (.iinc 3 1, 3) := by decide +kernel
theorem dX8_armFor_74 : decode cX8_armFor 74 = .ok (.goto (-37), 3) := by decide +kernel
theorem dX8_armFor_77 : decode cX8_armFor 77 = .ok (.aload_n 0, 1) := by decide +kernel
theorem dX8_armFor_78 : decode cX8_armFor 78 = .ok (.iconst 3, 1) := by decide +kernel
theorem dX8_armFor_79 : decode cX8_armFor 79 = .ok (.invokevirtual 78, 3) := by decide +kernel
theorem dX8_armFor_82 : decode cX8_armFor 82 = .ok (.ireturn, 1) := by decide +kernel
theorem dX8_later_0 : decode cX8_later 0 = .ok (.aload_n 0, 1) := by decide +kernel
theorem dX8_later_1 : decode cX8_later 1 = .ok (.iload_n 1, 1) := by decide +kernel
theorem dX8_later_2 : decode cX8_later 2 = .ok (.invokevirtual 96, 3) := by decide +kernel
theorem dX8_later_5 : decode cX8_later 5 = .ok (.ifCond .ne 9, 3) := by decide +kernel
theorem dX8_later_8 : decode cX8_later 8 = .ok (.aload_n 0, 1) := by decide +kernel
theorem dX8_later_9 : decode cX8_later 9 = .ok (.iconst 0, 1) := by decide +kernel
theorem dX8_later_10 : decode cX8_later 10 = .ok (.invokevirtual 78, 3) := by decide +kernel
theorem dX8_later_13 : decode cX8_later 13 = .ok (.ireturn, 1) := by decide +kernel
theorem dX8_later_14 : decode cX8_later 14 = .ok (.iconst 0, 1) := by decide +kernel
theorem dX8_later_15 : decode cX8_later 15 = .ok (.istore_n 2, 1) := by decide +kernel
theorem dX8_later_16 : decode cX8_later 16 = .ok (.iconst 0, 1) := by decide +kernel
theorem dX8_later_17 : decode cX8_later 17 = .ok (.istore_n 3, 1) := by decide +kernel
theorem dX8_later_18 : decode cX8_later 18 = .ok (.iload_n 3, 1) := by decide +kernel
theorem dX8_later_19 : decode cX8_later 19 = .ok (.aload_n 0, 1) := by decide +kernel
theorem dX8_later_20 : decode cX8_later 20 = .ok (.getfield 16, 3) := by decide +kernel
theorem dX8_later_23 : decode cX8_later 23 = .ok (.getfield 89, 3) := by decide +kernel
theorem dX8_later_26 : decode cX8_later 26 = .ok (.if_icmp .ge 23, 3) := by decide +kernel
theorem dX8_later_29 : decode cX8_later 29 = .ok (.iload_n 2, 1) := by decide +kernel
theorem dX8_later_30 : decode cX8_later 30 = .ok (.aload_n 0, 1) := by decide +kernel
theorem dX8_later_31 : decode cX8_later 31 = .ok (.aload_n 0, 1) := by decide +kernel
theorem dX8_later_32 : decode cX8_later 32 = .ok (.getfield 16, 3) := by decide +kernel
theorem dX8_later_35 : decode cX8_later 35 = .ok (.iload_n 3, 1) := by decide +kernel
theorem dX8_later_36 : decode cX8_later 36 = .ok (.invokevirtual 201, 3) := by decide +kernel
theorem dX8_later_39 : decode cX8_later 39 = .ok (.invokestatic 212, 3) := by decide +kernel
theorem dX8_later_42 : decode cX8_later 42 = .ok (.istore_n 2, 1) := by decide +kernel
theorem dX8_later_43 : decode cX8_later 43 = .ok (.iinc 3 1, 3) := by decide +kernel
theorem dX8_later_46 : decode cX8_later 46 = .ok (.goto (-28), 3) := by decide +kernel
theorem dX8_later_49 : decode cX8_later 49 = .ok (.iload_n 2, 1) := by decide +kernel
theorem dX8_later_50 : decode cX8_later 50 = .ok (.aload_n 0, 1) := by decide +kernel
theorem dX8_later_51 : decode cX8_later 51 = .ok (.aload_n 0, 1) := by decide +kernel
theorem dX8_later_52 : decode cX8_later 52 = .ok (.getfield 16, 3) := by decide +kernel
theorem dX8_later_55 : decode cX8_later 55 = .ok (.iload_n 1, 1) := by decide +kernel
theorem dX8_later_56 : decode cX8_later 56 = .ok (.invokevirtual 201, 3) := by decide +kernel
theorem dX8_later_59 : decode cX8_later 59 = .ok (.isub, 1) := by decide +kernel
theorem dX8_later_60 : decode cX8_later 60 = .ok (.sipush 1000, 3) := by decide +kernel
theorem dX8_later_63 : decode cX8_later 63 = .ok (.idiv, 1) := by decide +kernel
theorem dX8_later_64 : decode cX8_later 64 = .ok (.ireturn, 1) := by decide +kernel
theorem dX8_team_0 : decode cX8_team 0 = .ok (.aload_n 0, 1) := by decide +kernel
theorem dX8_team_1 : decode cX8_team 1 = .ok (.iload_n 1, 1) := by decide +kernel
theorem dX8_team_2 : decode cX8_team 2 = .ok (.invokevirtual 217, 3) := by decide +kernel
theorem dX8_team_5 : decode cX8_team 5 = .ok (.ifCond .ne 9, 3) := by decide +kernel
theorem dX8_team_8 : decode cX8_team 8 = .ok (.aload_n 0, 1) := by decide +kernel
theorem dX8_team_9 : decode cX8_team 9 = .ok (.iconst 0, 1) := by decide +kernel
theorem dX8_team_10 : decode cX8_team 10 = .ok (.invokevirtual 78, 3) := by decide +kernel
theorem dX8_team_13 : decode cX8_team 13 = .ok (.ireturn, 1) := by decide +kernel
theorem dX8_team_14 : decode cX8_team 14 = .ok (.aload_n 0, 1) := by decide +kernel
theorem dX8_team_15 : decode cX8_team 15 = .ok (.getfield 43, 3) := by decide +kernel
theorem dX8_team_18 : decode cX8_team 18 = .ok (.aload_n 0, 1) := by decide +kernel
theorem dX8_team_19 : decode cX8_team 19 = .ok (.getfield 16, 3) := by decide +kernel
theorem dX8_team_22 : decode cX8_team 22 = .ok (.aload_n 0, 1) := by decide +kernel
theorem dX8_team_23 : decode cX8_team 23 = .ok (.getfield 29, 3) := by decide +kernel
theorem dX8_team_26 : decode cX8_team 26 = .ok (.iload_n 1, 1) := by decide +kernel
theorem dX8_team_27 : decode cX8_team 27 = .ok (.invokevirtual 220, 3) := by decide +kernel
theorem dX8_team_30 : decode cX8_team 30 = .ok (.ireturn, 1) := by decide +kernel
theorem dX8_leg_0 : decode cX8_leg 0 = .ok (.aload_n 0, 1) := by decide +kernel
theorem dX8_leg_1 : decode cX8_leg 1 = .ok (.iload_n 1, 1) := by decide +kernel
theorem dX8_leg_2 : decode cX8_leg 2 = .ok (.invokevirtual 217, 3) := by decide +kernel
theorem dX8_leg_5 : decode cX8_leg 5 = .ok (.ifCond .eq 12, 3) := by decide +kernel
theorem dX8_leg_8 : decode cX8_leg 8 = .ok (.iload_n 2, 1) := by decide +kernel
theorem dX8_leg_9 : decode cX8_leg 9 = .ok (.iconst 0, 1) := by decide +kernel
theorem dX8_leg_10 : decode cX8_leg 10 = .ok (.iconst 2, 1) := by decide +kernel
theorem dX8_leg_11 : decode cX8_leg 11 = .ok (.invokestatic 74, 3) := by decide +kernel
theorem dX8_leg_14 : decode cX8_leg 14 = .ok (.ifCond .ne 9, 3) := by decide +kernel
theorem dX8_leg_17 : decode cX8_leg 17 = .ok (.aload_n 0, 1) := by decide +kernel
theorem dX8_leg_18 : decode cX8_leg 18 = .ok (.iconst 0, 1) := by decide +kernel
theorem dX8_leg_19 : decode cX8_leg 19 = .ok (.invokevirtual 78, 3) := by decide +kernel
theorem dX8_leg_22 : decode cX8_leg 22 = .ok (.ireturn, 1) := by decide +kernel
theorem dX8_leg_23 : decode cX8_leg 23 = .ok (.aload_n 0, 1) := by decide +kernel
theorem dX8_leg_24 : decode cX8_leg 24 = .ok (.getfield 43, 3) := by decide +kernel
theorem dX8_leg_27 : decode cX8_leg 27 = .ok (.aload_n 0, 1) := by decide +kernel
theorem dX8_leg_28 : decode cX8_leg 28 = .ok (.getfield 16, 3) := by decide +kernel
theorem dX8_leg_31 : decode cX8_leg 31 = .ok (.aload_n 0, 1) := by decide +kernel
theorem dX8_leg_32 : decode cX8_leg 32 = .ok (.getfield 29, 3) := by decide +kernel
theorem dX8_leg_35 : decode cX8_leg 35 = .ok (.iload_n 1, 1) := by decide +kernel
theorem dX8_leg_36 : decode cX8_leg 36 = .ok (.invokevirtual 220, 3) := by decide +kernel
theorem dX8_leg_39 : decode cX8_leg 39 = .ok (.pop, 1) := by decide +kernel
theorem dX8_leg_40 : decode cX8_leg 40 = .ok (.aload_n 0, 1) := by decide +kernel
theorem dX8_leg_41 : decode cX8_leg 41 = .ok (.getfield 43, 3) := by decide +kernel
theorem dX8_leg_44 : decode cX8_leg 44 = .ok (.getfield 224, 3) := by decide +kernel
theorem dX8_leg_47 : decode cX8_leg 47 = .ok (.iload_n 2, 1) := by decide +kernel
theorem dX8_leg_48 : decode cX8_leg 48 = .ok (.iaload, 1) := by decide +kernel
theorem dX8_leg_49 : decode cX8_leg 49 = .ok (.ireturn, 1) := by decide +kernel
theorem dX8_gum_0 : decode cX8_gum 0 = .ok (.aload_n 0, 1) := by decide +kernel
theorem dX8_gum_1 : decode cX8_gum 1 = .ok (.iload_n 1, 1) := by decide +kernel
theorem dX8_gum_2 : decode cX8_gum 2 = .ok (.iload_n 2, 1) := by decide +kernel
theorem dX8_gum_3 : decode cX8_gum 3 = .ok (.iload_n 3, 1) := by decide +kernel
theorem dX8_gum_4 : decode cX8_gum 4 = .ok (.invokevirtual 173, 3) := by decide +kernel
theorem dX8_gum_7 : decode cX8_gum 7 = .ok (.ifCond .eq 33, 3) := by decide +kernel
theorem dX8_gum_10 : decode cX8_gum 10 = .ok (.iload_n 3, 1) := by decide +kernel
theorem dX8_gum_11 : decode cX8_gum 11 = .ok (.iconst 1, 1) := by decide +kernel
theorem dX8_gum_12 : decode cX8_gum 12 = .ok (.bipush 8, 2) := by decide +kernel
theorem dX8_gum_14 : decode cX8_gum 14 = .ok (.invokestatic 74, 3) := by decide +kernel
theorem dX8_gum_17 : decode cX8_gum 17 = .ok (.ifCond .eq 23, 3) := by decide +kernel
theorem dX8_gum_20 : decode cX8_gum 20 = .ok (.iload 4, 2) := by decide +kernel
theorem dX8_gum_22 : decode cX8_gum 22 = .ok (.iconst 0, 1) := by decide +kernel
theorem dX8_gum_23 : decode cX8_gum 23 = .ok (.iload_n 3, 1) := by decide +kernel
theorem dX8_gum_24 : decode cX8_gum 24 = .ok (.invokestatic 74, 3) := by decide +kernel
theorem dX8_gum_27 : decode cX8_gum 27 = .ok (.ifCond .eq 13, 3) := by decide +kernel
theorem dX8_gum_30 : decode cX8_gum 30 = .ok (.iload 5, 2) := by decide +kernel
theorem dX8_gum_32 : decode cX8_gum 32 = .ok (.iconst 0, 1) := by decide +kernel
theorem dX8_gum_33 : decode cX8_gum 33 = .ok (.iconst 1, 1) := by decide +kernel
theorem dX8_gum_34 : decode cX8_gum 34 = .ok (.invokestatic 74, 3) := by decide +kernel
theorem dX8_gum_37 : decode cX8_gum 37 = .ok (.ifCond .ne 10, 3) := by decide +kernel
theorem dX8_gum_40 : decode cX8_gum 40 = .ok (.aload_n 0, 1) := by decide +kernel
theorem dX8_gum_41 : decode cX8_gum 41 = .ok (.iconst 0, 1) := by decide +kernel
theorem dX8_gum_42 : decode cX8_gum 42 = .ok (.invokevirtual 78, 3) := by decide +kernel
theorem dX8_gum_45 : decode cX8_gum 45 = .ok (.i2l, 1) := by decide +kernel
theorem dX8_gum_46 : decode cX8_gum 46 = .ok (.lreturn, 1) := by decide +kernel
theorem dX8_gum_47 : decode cX8_gum 47 = .ok (.iload 5, 2) := by decide +kernel
theorem dX8_gum_49 : decode cX8_gum 49 = .ok (.iconst 1, 1) := by decide +kernel
theorem dX8_gum_50 : decode cX8_gum 50 = .ok (.if_icmp .ne 20, 3) := by decide +kernel
theorem dX8_gum_53 : decode cX8_gum 53 = .ok (.aload_n 0, 1) := by decide +kernel
theorem dX8_gum_54 : decode cX8_gum 54 = .ok (.getfield 36, 3) := by decide +kernel
theorem dX8_gum_57 : decode cX8_gum 57 = .ok (.aload_n 0, 1) := by decide +kernel
theorem dX8_gum_58 : decode cX8_gum 58 = .ok (.getfield 16, 3) := by decide +kernel
theorem dX8_gum_61 : decode cX8_gum 61 = .ok (.iload_n 1, 1) := by decide +kernel
theorem dX8_gum_62 : decode cX8_gum 62 = .ok (.iload_n 2, 1) := by decide +kernel
theorem dX8_gum_63 : decode cX8_gum 63 = .ok (.iload_n 3, 1) := by decide +kernel
theorem dX8_gum_64 : decode cX8_gum 64 = .ok (.iload 4, 2) := by decide +kernel
theorem dX8_gum_66 : decode cX8_gum 66 = .ok (.invokevirtual 176, 3) := by decide +kernel
theorem dX8_gum_69 : decode cX8_gum 69 = .ok (.lreturn, 1) := by decide +kernel
theorem dX8_gum_70 : decode cX8_gum 70 = .ok (.aload_n 0, 1) := by decide +kernel
theorem dX8_gum_71 : decode cX8_gum 71 = .ok (.iload_n 1, 1) := by decide +kernel
theorem dX8_gum_72 : decode cX8_gum 72 = .ok (.invokevirtual 227, 3) := by decide +kernel
theorem dX8_gum_75 : decode cX8_gum 75 = .ok (.aload_n 0, 1) := by decide +kernel
theorem dX8_gum_76 : decode cX8_gum 76 = .ok (.getfield 36, 3) := by decide +kernel
theorem dX8_gum_79 : decode cX8_gum 79 = .ok (.aload_n 0, 1) := by decide +kernel
theorem dX8_gum_80 : decode cX8_gum 80 = .ok (.getfield 23, 3) := by decide +kernel
theorem dX8_gum_83 : decode cX8_gum 83 = .ok (.iload_n 1, 1) := by decide +kernel
theorem dX8_gum_84 : decode cX8_gum 84 = .ok (.iload_n 2, 1) := by decide +kernel
theorem dX8_gum_85 : decode cX8_gum 85 = .ok (.iload_n 3, 1) := by decide +kernel
theorem dX8_gum_86 : decode cX8_gum 86 = .ok (.iload 4, 2) := by decide +kernel
theorem dX8_gum_88 : decode cX8_gum 88 = .ok (.invokevirtual 176, 3) := by decide +kernel
theorem dX8_gum_91 : decode cX8_gum 91 = .ok (.lreturn, 1) := by decide +kernel
theorem dX8_suspect_0 : decode cX8_suspect 0 = .ok (.aload_n 0, 1) := by decide +kernel
theorem dX8_suspect_1 : decode cX8_suspect 1 = .ok (.iload_n 1, 1) := by decide +kernel
theorem dX8_suspect_2 : decode cX8_suspect 2 = .ok (.iload_n 2, 1) := by decide +kernel
theorem dX8_suspect_3 : decode cX8_suspect 3 = .ok (.iload_n 3, 1) := by decide +kernel
theorem dX8_suspect_4 : decode cX8_suspect 4 = .ok (.invokevirtual 173, 3) := by decide +kernel
theorem dX8_suspect_7 : decode cX8_suspect 7 = .ok (.ifCond .eq 13, 3) := by decide +kernel
theorem dX8_suspect_10 : decode cX8_suspect 10 = .ok (.iload_n 3, 1) := by decide +kernel
theorem dX8_suspect_11 : decode cX8_suspect 11 = .ok (.iconst 1, 1) := by decide +kernel
theorem dX8_suspect_12 : decode cX8_suspect 12 = .ok (.bipush 8, 2) := by decide +kernel
theorem dX8_suspect_14 : decode cX8_suspect 14 = .ok (.invokestatic 74, 3) := by decide +kernel
theorem dX8_suspect_17 : decode cX8_suspect 17 = .ok (.ifCond .ne 9, 3) := by decide +kernel
theorem dX8_suspect_20 : decode cX8_suspect 20 = .ok (.aload_n 0, 1) := by decide +kernel
theorem dX8_suspect_21 : decode cX8_suspect 21 = .ok (.iconst 0, 1) := by decide +kernel
theorem dX8_suspect_22 : decode cX8_suspect 22 = .ok (.invokevirtual 78, 3) := by decide +kernel
theorem dX8_suspect_25 : decode cX8_suspect 25 = .ok (.ireturn, 1) := by decide +kernel
theorem dX8_suspect_26 : decode cX8_suspect 26 = .ok (.aload_n 0, 1) := by decide +kernel
theorem dX8_suspect_27 : decode cX8_suspect 27 = .ok (.iload_n 1, 1) := by decide +kernel
theorem dX8_suspect_28 : decode cX8_suspect 28 = .ok (.invokevirtual 227, 3) := by decide +kernel
theorem dX8_suspect_31 : decode cX8_suspect 31 = .ok (.iload_n 3, 1) := by decide +kernel
theorem dX8_suspect_32 : decode cX8_suspect 32 = .ok (.istore 4, 2) := by decide +kernel
theorem dX8_suspect_34 : decode cX8_suspect 34 = .ok (.iload 4, 2) := by decide +kernel
theorem dX8_suspect_36 : decode cX8_suspect 36 = .ok (.ifCond .lt 67, 3) := by decide +kernel
theorem dX8_suspect_39 : decode cX8_suspect 39 = .ok (.aload_n 0, 1) := by decide +kernel
theorem dX8_suspect_40 : decode cX8_suspect 40 = .ok (.getfield 36, 3) := by decide +kernel
theorem dX8_suspect_43 : decode cX8_suspect 43 = .ok (.aload_n 0, 1) := by decide +kernel
theorem dX8_suspect_44 : decode cX8_suspect 44 = .ok (.getfield 23, 3) := by decide +kernel
theorem dX8_suspect_47 : decode cX8_suspect 47 = .ok (.iload_n 1, 1) := by decide +kernel
theorem dX8_suspect_48 : decode cX8_suspect 48 = .ok (.iload_n 2, 1) := by decide +kernel
theorem dX8_suspect_49 : decode cX8_suspect 49 = .ok (.iload_n 3, 1) := by decide +kernel
theorem dX8_suspect_50 : decode cX8_suspect 50 = .ok (.iload 4, 2) := by decide +kernel
theorem dX8_suspect_52 : decode cX8_suspect 52 = .ok (.invokevirtual 176, 3) := by decide +kernel
theorem dX8_suspect_55 : decode cX8_suspect 55 = .ok (.lstore 5, 2) := by decide +kernel
theorem dX8_suspect_57 : decode cX8_suspect 57 = .ok (.aload_n 0, 1) := by decide +kernel
theorem dX8_suspect_58 : decode cX8_suspect 58 = .ok (.getfield 36, 3) := by decide +kernel
theorem dX8_suspect_61 : decode cX8_suspect 61 = .ok (.aload_n 0, 1) := by decide +kernel
theorem dX8_suspect_62 : decode cX8_suspect 62 = .ok (.getfield 16, 3) := by decide +kernel
theorem dX8_suspect_65 : decode cX8_suspect 65 = .ok (.iload_n 1, 1) := by decide +kernel
theorem dX8_suspect_66 : decode cX8_suspect 66 = .ok (.iload_n 2, 1) := by decide +kernel
theorem dX8_suspect_67 : decode cX8_suspect 67 = .ok (.iload_n 3, 1) := by decide +kernel
theorem dX8_suspect_68 : decode cX8_suspect 68 = .ok (.iload 4, 2) := by decide +kernel
theorem dX8_suspect_70 : decode cX8_suspect 70 = .ok (.invokevirtual 176, 3) := by decide +kernel
theorem dX8_suspect_73 : decode cX8_suspect 73 = .ok (.lstore 7, 2) := by decide +kernel
theorem dX8_suspect_75 : decode cX8_suspect 75 = .ok (.lload 5, 2) := by decide +kernel
theorem dX8_suspect_77 : decode cX8_suspect 77 = .ok (.lconst 0, 1) := by decide +kernel
theorem dX8_suspect_78 : decode cX8_suspect 78 = .ok (.lcmp, 1) := by decide +kernel
theorem dX8_suspect_79 : decode cX8_suspect 79 = .ok (.ifCond .le 18, 3) := by decide +kernel
theorem dX8_suspect_82 : decode cX8_suspect 82 = .ok (.lload 5, 2) := by decide +kernel
theorem dX8_suspect_84 : decode cX8_suspect 84 = .ok (.ldc2_w 231, 3) := by decide +kernel
theorem dX8_suspect_87 : decode cX8_suspect 87 = .ok (.lload 7, 2) := by decide +kernel
theorem dX8_suspect_89 : decode cX8_suspect 89 = .ok (.lmul, 1) := by decide +kernel
theorem dX8_suspect_90 : decode cX8_suspect 90 = .ok (.lcmp, 1) := by decide +kernel
theorem dX8_suspect_91 : decode cX8_suspect 91 = .ok (.ifCond .lt 6, 3) := by decide +kernel
theorem dX8_suspect_94 : decode cX8_suspect 94 = .ok (.iload 4, 2) := by decide +kernel
theorem dX8_suspect_96 : decode cX8_suspect 96 = .ok (.ireturn, 1) := by decide +kernel
theorem dX8_suspect_97 : decode cX8_suspect 97 = .ok (.iinc 4 (-1), 3) := by decide +kernel
theorem dX8_suspect_100 : decode cX8_suspect 100 = .ok (.goto (-66), 3) := by decide +kernel
theorem dX8_suspect_103 : decode cX8_suspect 103 = .ok (.aload_n 0, 1) := by decide +kernel
theorem dX8_suspect_104 : decode cX8_suspect 104 = .ok (.iconst 3, 1) := by decide +kernel
theorem dX8_suspect_105 : decode cX8_suspect 105 = .ok (.invokevirtual 78, 3) := by decide +kernel
theorem dX8_suspect_108 : decode cX8_suspect 108 = .ok (.ireturn, 1) := by decide +kernel
theorem dX8_rain_0 : decode cX8_rain 0 = .ok (.iload_n 1, 1) := by decide +kernel
theorem dX8_rain_1 : decode cX8_rain 1 = .ok (.iconst 1, 1) := by decide +kernel
theorem dX8_rain_2 : decode cX8_rain 2 = .ok (.bipush 12, 2) := by decide +kernel
theorem dX8_rain_4 : decode cX8_rain 4 = .ok (.invokestatic 74, 3) := by decide +kernel
theorem dX8_rain_7 : decode cX8_rain 7 = .ok (.ifCond .ne 9, 3) := by decide +kernel
theorem dX8_rain_10 : decode cX8_rain 10 = .ok (.aload_n 0, 1) := by decide +kernel
theorem dX8_rain_11 : decode cX8_rain 11 = .ok (.iconst 0, 1) := by decide +kernel
theorem dX8_rain_12 : decode cX8_rain 12 = .ok (.invokevirtual 78, 3) := by decide +kernel
theorem dX8_rain_15 : decode cX8_rain 15 = .ok (.ireturn, 1) := by decide +kernel
theorem dX8_rain_16 : decode cX8_rain 16 = .ok (.iconst 0, 1) := by decide +kernel
theorem dX8_rain_17 : decode cX8_rain 17 = .ok (.istore_n 2, 1) := by decide +kernel
theorem dX8_rain_18 : decode cX8_rain 18 = .ok (.iload_n 2, 1) := by decide +kernel
theorem dX8_rain_19 : decode cX8_rain 19 = .ok (.iload_n 1, 1) := by decide +kernel
theorem dX8_rain_20 : decode cX8_rain 20 = .ok (.if_icmp .ge 38, 3) := by decide +kernel
theorem dX8_rain_23 : decode cX8_rain 23 = .ok (.aload_n 0, 1) := by decide +kernel
theorem dX8_rain_24 : decode cX8_rain 24 = .ok (.getfield 16, 3) := by decide +kernel
theorem dX8_rain_27 : decode cX8_rain 27 = .ok (.invokevirtual 233, 3) := by decide +kernel
theorem dX8_rain_30 : decode cX8_rain 30 = .ok (.bipush 30, 2) := by decide +kernel
theorem dX8_rain_32 : decode cX8_rain 32 = .ok (.irem, 1) := by decide +kernel
theorem dX8_rain_33 : decode cX8_rain 33 = .ok (.istore_n 3, 1) := by decide +kernel
theorem dX8_rain_34 : decode cX8_rain 34 = .ok (.aload_n 0, 1) := by decide +kernel
theorem dX8_rain_35 : decode cX8_rain 35 = .ok (.getfield 16, 3) := by decide +kernel
theorem dX8_rain_38 : decode cX8_rain 38 = .ok (.getfield 82, 3) := by decide +kernel
theorem dX8_rain_41 : decode cX8_rain 41 = .ok (.iload_n 3, 1) := by decide +kernel
theorem dX8_rain_42 : decode cX8_rain 42 = .ok (.aload_n 0, 1) := by decide +kernel
theorem dX8_rain_43 : decode cX8_rain 43 = .ok (.getfield 16, 3) := by decide +kernel
theorem dX8_rain_46 : decode cX8_rain 46 = .ok (.invokevirtual 233, 3) := by decide +kernel
theorem dX8_rain_49 : decode cX8_rain 49 = .ok (.iconst 5, 1) := by decide +kernel
theorem dX8_rain_50 : decode cX8_rain 50 = .ok (.irem, 1) := by decide +kernel
theorem dX8_rain_51 : decode cX8_rain 51 = .ok (.iastore, 1) := by decide +kernel
theorem dX8_rain_52 : decode cX8_rain 52 = .ok (.iinc 2 1, 3) := by decide +kernel
theorem dX8_rain_55 : decode cX8_rain 55 = .ok (.goto (-37), 3) := by decide +kernel
theorem dX8_rain_58 : decode cX8_rain 58 = .ok (.aload_n 0, 1) := by decide +kernel
theorem dX8_rain_59 : decode cX8_rain 59 = .ok (.getfield 16, 3) := by decide +kernel
theorem dX8_rain_62 : decode cX8_rain 62 = .ok (.invokevirtual 236, 3) := by decide +kernel
theorem dX8_rain_65 : decode cX8_rain 65 = .ok (.ireturn, 1) := by decide +kernel
theorem dX8_seed_0 : decode cX8_seed 0 = .ok (.aload_n 0, 1) := by decide +kernel
theorem dX8_seed_1 : decode cX8_seed 1 = .ok (.getfield 16, 3) := by decide +kernel
theorem dX8_seed_4 : decode cX8_seed 4 = .ok (.getfield 170, 3) := by decide +kernel
theorem dX8_seed_7 : decode cX8_seed 7 = .ok (.istore_n 2, 1) := by decide +kernel
theorem dX8_seed_8 : decode cX8_seed 8 = .ok (.aload_n 0, 1) := by decide +kernel
theorem dX8_seed_9 : decode cX8_seed 9 = .ok (.getfield 16, 3) := by decide +kernel
theorem dX8_seed_12 : decode cX8_seed 12 = .ok (.iload_n 1, 1) := by decide +kernel
theorem dX8_seed_13 : decode cX8_seed 13 = .ok (.putfield 170, 3) := by decide +kernel
theorem dX8_seed_16 : decode cX8_seed 16 = .ok (.iload_n 2, 1) := by decide +kernel
theorem dX8_seed_17 : decode cX8_seed 17 = .ok (.ireturn, 1) := by decide +kernel
theorem dX8_feed_0 : decode cX8_feed 0 = .ok (.iload_n 2, 1) := by decide +kernel
theorem dX8_feed_1 : decode cX8_feed 1 = .ok (.iconst 1, 1) := by decide +kernel
theorem dX8_feed_2 : decode cX8_feed 2 = .ok (.iconst 4, 1) := by decide +kernel
theorem dX8_feed_3 : decode cX8_feed 3 = .ok (.invokestatic 74, 3) := by decide +kernel
theorem dX8_feed_6 : decode cX8_feed 6 = .ok (.ifCond .ne 9, 3) := by decide +kernel
theorem dX8_feed_9 : decode cX8_feed 9 = .ok (.aload_n 0, 1) := by decide +kernel
theorem dX8_feed_10 : decode cX8_feed 10 = .ok (.iconst 0, 1) := by decide +kernel
theorem dX8_feed_11 : decode cX8_feed 11 = .ok (.invokevirtual 78, 3) := by decide +kernel
theorem dX8_feed_14 : decode cX8_feed 14 = .ok (.ireturn, 1) := by decide +kernel
theorem dX8_feed_15 : decode cX8_feed 15 = .ok (.aload_n 0, 1) := by decide +kernel
theorem dX8_feed_16 : decode cX8_feed 16 = .ok (.getfield 58, 3) := by decide +kernel
theorem dX8_feed_19 : decode cX8_feed 19 = .ok (.getfield 239, 3) := by decide +kernel
theorem dX8_feed_22 : decode cX8_feed 22 = .ok (.iload_n 2, 1) := by decide +kernel
theorem dX8_feed_23 : decode cX8_feed 23 = .ok (.iadd, 1) := by decide +kernel
theorem dX8_feed_24 : decode cX8_feed 24 = .ok (.bipush 120, 2) := by decide +kernel
theorem dX8_feed_26 : decode cX8_feed 26 = .ok (.if_icmp .le 9, 3) := by decide +kernel
theorem dX8_feed_29 : decode cX8_feed 29 = .ok (.aload_n 0, 1) := by decide +kernel
theorem dX8_feed_30 : decode cX8_feed 30 = .ok (.iconst 1, 1) := by decide +kernel
theorem dX8_feed_31 : decode cX8_feed 31 = .ok (.invokevirtual 78, 3) := by decide +kernel
theorem dX8_feed_34 : decode cX8_feed 34 = .ok (.ireturn, 1) := by decide +kernel
theorem dX8_feed_35 : decode cX8_feed 35 = .ok (.iload_n 2, 1) := by decide +kernel
theorem dX8_feed_36 : decode cX8_feed 36 = .ok (.iconst 1, 1) := by decide +kernel
theorem dX8_feed_37 : decode cX8_feed 37 = .ok (.isub, 1) := by decide +kernel
theorem dX8_feed_38 : decode cX8_feed 38 = .ok (.istore_n 3, 1) := by decide +kernel
theorem dX8_feed_39 : decode cX8_feed 39 = .ok (.iload_n 3, 1) := by decide +kernel
theorem dX8_feed_40 : decode cX8_feed 40 = .ok (.ifCond .lt 26, 3) := by decide +kernel
theorem dX8_feed_43 : decode cX8_feed 43 = .ok (.aload_n 0, 1) := by decide +kernel
theorem dX8_feed_44 : decode cX8_feed 44 = .ok (.getfield 58, 3) := by decide +kernel
theorem dX8_feed_47 : decode cX8_feed 47 = .ok (.iload_n 1, 1) := by decide +kernel
theorem dX8_feed_48 : decode cX8_feed 48 = .ok (.bipush 8, 2) := by decide +kernel
theorem dX8_feed_50 : decode cX8_feed 50 = .ok (.iload_n 3, 1) := by decide +kernel
theorem dX8_feed_51 : decode cX8_feed 51 = .ok (.imul, 1) := by decide +kernel
theorem dX8_feed_52 : decode cX8_feed 52 = .ok (.iushr, 1) := by decide +kernel
theorem dX8_feed_53 : decode cX8_feed 53 = .ok (.sipush 255, 3) := by decide +kernel
theorem dX8_feed_56 : decode cX8_feed 56 = .ok (.iand, 1) := by decide +kernel
theorem dX8_feed_57 : decode cX8_feed 57 = .ok (.invokevirtual 242, 3) := by decide +kernel
theorem dX8_feed_60 : decode cX8_feed 60 = .ok (.iinc 3 (-1), 3) := by decide +kernel
theorem dX8_feed_63 : decode cX8_feed 63 = .ok (.goto (-24), 3) := by decide +kernel
theorem dX8_feed_66 : decode cX8_feed 66 = .ok (.aload_n 0, 1) := by decide +kernel
theorem dX8_feed_67 : decode cX8_feed 67 = .ok (.getfield 58, 3) := by decide +kernel
theorem dX8_feed_70 : decode cX8_feed 70 = .ok (.getfield 239, 3) := by decide +kernel
theorem dX8_feed_73 : decode cX8_feed 73 = .ok (.ireturn, 1) := by decide +kernel
theorem dX8_wipe_0 : decode cX8_wipe 0 = .ok (.aload_n 0, 1) := by decide +kernel
theorem dX8_wipe_1 : decode cX8_wipe 1 = .ok (.getfield 58, 3) := by decide +kernel
theorem dX8_wipe_4 : decode cX8_wipe 4 = .ok (.getfield 239, 3) := by decide +kernel
theorem dX8_wipe_7 : decode cX8_wipe 7 = .ok (.istore_n 1, 1) := by decide +kernel
theorem dX8_wipe_8 : decode cX8_wipe 8 = .ok (.aload_n 0, 1) := by decide +kernel
theorem dX8_wipe_9 : decode cX8_wipe 9 = .ok (.getfield 58, 3) := by decide +kernel
theorem dX8_wipe_12 : decode cX8_wipe 12 = .ok (.iconst 0, 1) := by decide +kernel
theorem dX8_wipe_13 : decode cX8_wipe 13 = .ok (.putfield 239, 3) := by decide +kernel
theorem dX8_wipe_16 : decode cX8_wipe 16 = .ok (.iload_n 1, 1) := by decide +kernel
theorem dX8_wipe_17 : decode cX8_wipe 17 = .ok (.ireturn, 1) := by decide +kernel
theorem dX8_text_0 : decode cX8_text 0 = .ok (.aload_n 0, 1) := by decide +kernel
theorem dX8_text_1 : decode cX8_text 1 = .ok (.getfield 23, 3) := by decide +kernel
theorem dX8_text_4 : decode cX8_text 4 = .ok (.aload_n 0, 1) := by decide +kernel
theorem dX8_text_5 : decode cX8_text 5 = .ok (.getfield 16, 3) := by decide +kernel
theorem dX8_text_8 : decode cX8_text 8 = .ok (.invokevirtual 151, 3) := by decide +kernel
theorem dX8_text_11 : decode cX8_text 11 = .ok (.aload_n 0, 1) := by decide +kernel
theorem dX8_text_12 : decode cX8_text 12 = .ok (.getfield 50, 3) := by decide +kernel
theorem dX8_text_15 : decode cX8_text 15 = .ok (.aload_n 0, 1) := by decide +kernel
theorem dX8_text_16 : decode cX8_text 16 = .ok (.getfield 23, 3) := by decide +kernel
theorem dX8_text_19 : decode cX8_text 19 = .ok (.invokevirtual 244, 3) := by decide +kernel
theorem dX8_text_22 : decode cX8_text 22 = .ok (.istore_n 1, 1) := by decide +kernel
theorem dX8_text_23 : decode cX8_text 23 = .ok (.iload_n 1, 1) := by decide +kernel
theorem dX8_text_24 : decode cX8_text 24 = .ok (.ifCond .lt 14, 3) := by decide +kernel
theorem dX8_text_27 : decode cX8_text 27 = .ok (.aload_n 0, 1) := by decide +kernel
theorem dX8_text_28 : decode cX8_text 28 = .ok (.getfield 16, 3) := by decide +kernel
theorem dX8_text_31 : decode cX8_text 31 = .ok (.aload_n 0, 1) := by decide +kernel
theorem dX8_text_32 : decode cX8_text 32 = .ok (.getfield 23, 3) := by decide +kernel
theorem dX8_text_35 : decode cX8_text 35 = .ok (.invokevirtual 151, 3) := by decide +kernel
theorem dX8_text_38 : decode cX8_text 38 = .ok (.aload_n 0, 1) := by decide +kernel
theorem dX8_text_39 : decode cX8_text 39 = .ok (.getfield 58, 3) := by decide +kernel
theorem dX8_text_42 : decode cX8_text 42 = .ok (.iconst 0, 1) := by decide +kernel
theorem dX8_text_43 : decode cX8_text 43 = .ok (.putfield 239, 3) := by decide +kernel
theorem dX8_text_46 : decode cX8_text 46 = .ok (.iload_n 1, 1) := by decide +kernel
theorem dX8_text_47 : decode cX8_text 47 = .ok (.ireturn, 1) := by decide +kernel
theorem dX8_hold_0 : decode cX8_hold 0 = .ok (.iload_n 1, 1) := by decide +kernel
theorem dX8_hold_1 : decode cX8_hold 1 = .ok (.invokestatic 248, 3) := by decide +kernel
theorem dX8_hold_4 : decode cX8_hold 4 = .ok (.ifCond .eq 16, 3) := by decide +kernel
theorem dX8_hold_7 : decode cX8_hold 7 = .ok (.iload_n 2, 1) := by decide +kernel
theorem dX8_hold_8 : decode cX8_hold 8 = .ok (.iconst (-1), 1) := by decide +kernel
theorem dX8_hold_9 : decode cX8_hold 9 = .ok (.if_icmp .eq 17, 3) := by decide +kernel
theorem dX8_hold_12 : decode cX8_hold 12 = .ok (.aload_n 0, 1) := by decide +kernel
theorem dX8_hold_13 : decode cX8_hold 13 = .ok (.iload_n 2, 1) := by decide +kernel
theorem dX8_hold_14 : decode cX8_hold 14 = .ok (.invokevirtual 96, 3) := by decide +kernel
theorem dX8_hold_17 : decode cX8_hold 17 = .ok (.ifCond .ne 9, 3) := by decide +kernel
theorem dX8_hold_20 : decode cX8_hold 20 = .ok (.aload_n 0, 1) := by decide +kernel
theorem dX8_hold_21 : decode cX8_hold 21 = .ok (.iconst 0, 1) := by decide +kernel
theorem dX8_hold_22 : decode cX8_hold 22 = .ok (.invokevirtual 78, 3) := by decide +kernel
theorem dX8_hold_25 : decode cX8_hold 25 = .ok (.ireturn, 1) := by decide +kernel
theorem dX8_hold_26 : decode cX8_hold 26 = .ok (.aload_n 0, 1) := by decide +kernel
theorem dX8_hold_27 : decode cX8_hold 27 = .ok (.getfield 16, 3) := by decide +kernel
theorem dX8_hold_30 : decode cX8_hold 30 = .ok (.getfield 251, 3) := by decide +kernel
theorem dX8_hold_33 : decode cX8_hold 33 = .ok (.iload_n 1, 1) := by decide +kernel
theorem dX8_hold_34 : decode cX8_hold 34 = .ok (.iload_n 2, 1) := by decide +kernel
theorem dX8_hold_35 : decode cX8_hold 35 = .ok (.iastore, 1) := by decide +kernel
theorem dX8_hold_36 : decode cX8_hold 36 = .ok (.iconst 1, 1) := by decide +kernel
theorem dX8_hold_37 : decode cX8_hold 37 = .ok (.ireturn, 1) := by decide +kernel
theorem dX8_as_0 : decode cX8_as 0 = .ok (.iload_n 1, 1) := by decide +kernel
theorem dX8_as_1 : decode cX8_as 1 = .ok (.invokestatic 248, 3) := by decide +kernel
theorem dX8_as_4 : decode cX8_as 4 = .ok (.ifCond .eq 13, 3) := by decide +kernel
theorem dX8_as_7 : decode cX8_as 7 = .ok (.iload_n 2, 1) := by decide +kernel
theorem dX8_as_8 : decode cX8_as 8 = .ok (.iconst 0, 1) := by decide +kernel
theorem dX8_as_9 : decode cX8_as 9 = .ok (.bipush 6, 2) := by decide +kernel
theorem dX8_as_11 : decode cX8_as 11 = .ok (.invokestatic 74, 3) := by decide +kernel
theorem dX8_as_14 : decode cX8_as 14 = .ok (.ifCond .ne 9, 3) := by decide +kernel
theorem dX8_as_17 : decode cX8_as 17 = .ok (.aload_n 0, 1) := by decide +kernel
theorem dX8_as_18 : decode cX8_as 18 = .ok (.iconst 0, 1) := by decide +kernel
theorem dX8_as_19 : decode cX8_as 19 = .ok (.invokevirtual 78, 3) := by decide +kernel
theorem dX8_as_22 : decode cX8_as 22 = .ok (.ireturn, 1) := by decide +kernel
theorem dX8_as_23 : decode cX8_as 23 = .ok (.aload_n 0, 1) := by decide +kernel
theorem dX8_as_24 : decode cX8_as 24 = .ok (.getfield 16, 3) := by decide +kernel
theorem dX8_as_27 : decode cX8_as 27 = .ok (.getfield 251, 3) := by decide +kernel
theorem dX8_as_30 : decode cX8_as 30 = .ok (.iload_n 1, 1) := by decide +kernel
theorem dX8_as_31 : decode cX8_as 31 = .ok (.iaload, 1) := by decide +kernel
theorem dX8_as_32 : decode cX8_as 32 = .ok (.istore_n 3, 1) := by decide +kernel
theorem dX8_as_33 : decode cX8_as 33 = .ok (.aload_n 0, 1) := by decide +kernel
theorem dX8_as_34 : decode cX8_as 34 = .ok (.iload_n 3, 1) := by decide +kernel
theorem dX8_as_35 : decode cX8_as 35 = .ok (.invokevirtual 96, 3) := by decide +kernel
theorem dX8_as_38 : decode cX8_as 38 = .ok (.ifCond .ne 9, 3) := by decide +kernel
theorem dX8_as_41 : decode cX8_as 41 = .ok (.aload_n 0, 1) := by decide +kernel
theorem dX8_as_42 : decode cX8_as 42 = .ok (.iconst 5, 1) := by decide +kernel
theorem dX8_as_43 : decode cX8_as 43 = .ok (.invokevirtual 78, 3) := by decide +kernel
theorem dX8_as_46 : decode cX8_as 46 = .ok (.ireturn, 1) := by decide +kernel
theorem dX8_as_47 : decode cX8_as 47 = .ok (.aload_n 0, 1) := by decide +kernel
theorem dX8_as_48 : decode cX8_as 48 = .ok (.getfield 16, 3) := by decide +kernel
theorem dX8_as_51 : decode cX8_as 51 = .ok (.getfield 99, 3) := by decide +kernel
theorem dX8_as_54 : decode cX8_as 54 = .ok (.iload_n 3, 1) := by decide +kernel
theorem dX8_as_55 : decode cX8_as 55 = .ok (.aaload, 1) := by decide +kernel
theorem dX8_as_56 : decode cX8_as 56 = .ok (.iload_n 2, 1) := by decide +kernel
theorem dX8_as_57 : decode cX8_as 57 = .ok (.invokevirtual 254, 3) := by decide +kernel
theorem dX8_as_60 : decode cX8_as 60 = .ok (.ifCond .eq 7, 3) := by decide +kernel
theorem dX8_as_63 : decode cX8_as 63 = .ok (.iload_n 3, 1) := by decide +kernel
theorem dX8_as_64 : decode cX8_as 64 = .ok (.goto 8, 3) := by decide +kernel
theorem dX8_as_67 : decode cX8_as 67 = .ok (.aload_n 0, 1) := by decide +kernel
theorem dX8_as_68 : decode cX8_as 68 = .ok (.iconst 2, 1) := by decide +kernel
theorem dX8_as_69 : decode cX8_as 69 = .ok (.invokevirtual 78, 3) := by decide +kernel
theorem dX8_as_72 : decode cX8_as 72 = .ok (.ireturn, 1) := by decide +kernel
theorem dX8_sheet_0 : decode cX8_sheet 0 = .ok (.iload_n 1, 1) := by decide +kernel
theorem dX8_sheet_1 : decode cX8_sheet 1 = .ok (.invokestatic 257, 3) := by decide +kernel
theorem dX8_sheet_4 : decode cX8_sheet 4 = .ok (.ifCond .eq 25, 3) := by decide +kernel
theorem dX8_sheet_7 : decode cX8_sheet 7 = .ok (.iload_n 2, 1) := by decide +kernel
theorem dX8_sheet_8 : decode cX8_sheet 8 = .ok (.ifCond .eq 27, 3) := by decide +kernel
theorem dX8_sheet_11 : decode cX8_sheet 11 = .ok (.iload_n 2, 1) := by decide +kernel
theorem dX8_sheet_12 : decode cX8_sheet 12 = .ok (.bipush 8, 2) := by decide +kernel
theorem dX8_sheet_14 : decode cX8_sheet 14 = .ok (.if_icmp .eq 21, 3) := by decide +kernel
theorem dX8_sheet_17 : decode cX8_sheet 17 = .ok (.iload_n 2, 1) := by decide +kernel
theorem dX8_sheet_18 : decode cX8_sheet 18 = .ok (.bipush 16, 2) := by decide +kernel
theorem dX8_sheet_20 : decode cX8_sheet 20 = .ok (.if_icmp .eq 15, 3) := by decide +kernel
theorem dX8_sheet_23 : decode cX8_sheet 23 = .ok (.iload_n 2, 1) := by decide +kernel
theorem dX8_sheet_24 : decode cX8_sheet 24 = .ok (.bipush 32, 2) := by decide +kernel
theorem dX8_sheet_26 : decode cX8_sheet 26 = .ok (.if_icmp .eq 9, 3) := by decide +kernel
theorem dX8_sheet_29 : decode cX8_sheet 29 = .ok (.aload_n 0, 1) := by decide +kernel
theorem dX8_sheet_30 : decode cX8_sheet 30 = .ok (.iconst 0, 1) := by decide +kernel
theorem dX8_sheet_31 : decode cX8_sheet 31 = .ok (.invokevirtual 78, 3) := by decide +kernel
theorem dX8_sheet_34 : decode cX8_sheet 34 = .ok (.ireturn, 1) := by decide +kernel
theorem dX8_sheet_35 : decode cX8_sheet 35 = .ok (.iload_n 3, 1) := by decide +kernel
theorem dX8_sheet_36 : decode cX8_sheet 36 = .ok (.ifCond .ge 10, 3) := by decide +kernel
theorem dX8_sheet_39 : decode cX8_sheet 39 = .ok (.aload_n 0, 1) := by decide +kernel
theorem dX8_sheet_40 : decode cX8_sheet 40 = .ok (.bipush 6, 2) := by decide +kernel
theorem dX8_sheet_42 : decode cX8_sheet 42 = .ok (.invokevirtual 78, 3) := by decide +kernel
theorem dX8_sheet_45 : decode cX8_sheet 45 = .ok (.ireturn, 1) := by decide +kernel
theorem dX8_sheet_46 : decode cX8_sheet 46 = .ok (.iload_n 3, 1) := by decide +kernel
theorem dX8_sheet_47 : decode cX8_sheet 47 = .ok (.bipush 40, 2) := by decide +kernel
theorem dX8_sheet_49 : decode cX8_sheet 49 = .ok (.if_icmp .le 9, 3) := by decide +kernel
theorem dX8_sheet_52 : decode cX8_sheet 52 = .ok (.aload_n 0, 1) := by decide +kernel
theorem dX8_sheet_53 : decode cX8_sheet 53 = .ok (.iconst 0, 1) := by decide +kernel
theorem dX8_sheet_54 : decode cX8_sheet 54 = .ok (.invokevirtual 78, 3) := by decide +kernel
theorem dX8_sheet_57 : decode cX8_sheet 57 = .ok (.ireturn, 1) := by decide +kernel
theorem dX8_sheet_58 : decode cX8_sheet 58 = .ok (.aload_n 0, 1) := by decide +kernel
theorem dX8_sheet_59 : decode cX8_sheet 59 = .ok (.getfield 61, 3) := by decide +kernel
theorem dX8_sheet_62 : decode cX8_sheet 62 = .ok (.iload_n 1, 1) := by decide +kernel
theorem dX8_sheet_63 : decode cX8_sheet 63 = .ok (.aaload, 1) := by decide +kernel
theorem dX8_sheet_64 : decode cX8_sheet 64 = .ok (.iload_n 2, 1) := by decide +kernel
theorem dX8_sheet_65 : decode cX8_sheet 65 = .ok (.iload_n 3, 1) := by decide +kernel
theorem dX8_sheet_66 : decode cX8_sheet 66 = .ok (.invokevirtual 260, 3) := by decide +kernel
theorem dX8_sheet_69 : decode cX8_sheet 69 = .ok (.aload_n 0, 1) := by decide +kernel
theorem dX8_sheet_70 : decode cX8_sheet 70 = .ok (.getfield 61, 3) := by decide +kernel
theorem dX8_sheet_73 : decode cX8_sheet 73 = .ok (.iload_n 1, 1) := by decide +kernel
theorem dX8_sheet_74 : decode cX8_sheet 74 = .ok (.aaload, 1) := by decide +kernel
theorem dX8_sheet_75 : decode cX8_sheet 75 = .ok (.getfield 263, 3) := by decide +kernel
theorem dX8_sheet_78 : decode cX8_sheet 78 = .ok (.ireturn, 1) := by decide +kernel
theorem dX8_write_0 : decode cX8_write 0 = .ok (.iload_n 1, 1) := by decide +kernel
theorem dX8_write_1 : decode cX8_write 1 = .ok (.invokestatic 257, 3) := by decide +kernel
theorem dX8_write_4 : decode cX8_write 4 = .ok (.ifCond .ne 9, 3) := by decide +kernel
theorem dX8_write_7 : decode cX8_write 7 = .ok (.aload_n 0, 1) := by decide +kernel
theorem dX8_write_8 : decode cX8_write 8 = .ok (.iconst 0, 1) := by decide +kernel
theorem dX8_write_9 : decode cX8_write 9 = .ok (.invokevirtual 78, 3) := by decide +kernel
theorem dX8_write_12 : decode cX8_write 12 = .ok (.ireturn, 1) := by decide +kernel
theorem dX8_write_13 : decode cX8_write 13 = .ok (.aload_n 0, 1) := by decide +kernel
theorem dX8_write_14 : decode cX8_write 14 = .ok (.getfield 61, 3) := by decide +kernel
theorem dX8_write_17 : decode cX8_write 17 = .ok (.iload_n 1, 1) := by decide +kernel
theorem dX8_write_18 : decode cX8_write 18 = .ok (.aaload, 1) := by decide +kernel
theorem dX8_write_19 : decode cX8_write 19 = .ok (.invokevirtual 264, 3) := by decide +kernel
theorem dX8_write_22 : decode cX8_write 22 = .ok (.ifCond .eq 9, 3) := by decide +kernel
theorem dX8_write_25 : decode cX8_write 25 = .ok (.aload_n 0, 1) := by decide +kernel
theorem dX8_write_26 : decode cX8_write 26 = .ok (.iconst 5, 1) := by decide +kernel
theorem dX8_write_27 : decode cX8_write 27 = .ok (.invokevirtual 78, 3) := by decide +kernel
theorem dX8_write_30 : decode cX8_write 30 = .ok (.ireturn, 1) := by decide +kernel
theorem dX8_write_31 : decode cX8_write 31 = .ok (.iload_n 2, 1) := by decide +kernel
theorem dX8_write_32 : decode cX8_write 32 = .ok (.iconst 0, 1) := by decide +kernel
theorem dX8_write_33 : decode cX8_write 33 = .ok (.aload_n 0, 1) := by decide +kernel
theorem dX8_write_34 : decode cX8_write 34 = .ok (.getfield 61, 3) := by decide +kernel
theorem dX8_write_37 : decode cX8_write 37 = .ok (.iload_n 1, 1) := by decide +kernel
theorem dX8_write_38 : decode cX8_write 38 = .ok (.aaload, 1) := by decide +kernel
theorem dX8_write_39 : decode cX8_write 39 = .ok (.getfield 263, 3) := by decide +kernel
theorem dX8_write_42 : decode cX8_write 42 = .ok (.iconst 1, 1) := by decide +kernel
theorem dX8_write_43 : decode cX8_write 43 = .ok (.isub, 1) := by decide +kernel
theorem dX8_write_44 : decode cX8_write 44 = .ok (.invokestatic 74, 3) := by decide +kernel
theorem dX8_write_47 : decode cX8_write 47 = .ok (.ifCond .ne 9, 3) := by decide +kernel
theorem dX8_write_50 : decode cX8_write 50 = .ok (.aload_n 0, 1) := by decide +kernel
theorem dX8_write_51 : decode cX8_write 51 = .ok (.iconst 0, 1) := by decide +kernel
theorem dX8_write_52 : decode cX8_write 52 = .ok (.invokevirtual 78, 3) := by decide +kernel
theorem dX8_write_55 : decode cX8_write 55 = .ok (.ireturn, 1) := by decide +kernel
theorem dX8_write_56 : decode cX8_write 56 = .ok (.aload_n 0, 1) := by decide +kernel
theorem dX8_write_57 : decode cX8_write 57 = .ok (.getfield 61, 3) := by decide +kernel
theorem dX8_write_60 : decode cX8_write 60 = .ok (.iload_n 1, 1) := by decide +kernel
theorem dX8_write_61 : decode cX8_write 61 = .ok (.aaload, 1) := by decide +kernel
theorem dX8_write_62 : decode cX8_write 62 = .ok (.iload_n 2, 1) := by decide +kernel
theorem dX8_write_63 : decode cX8_write 63 = .ok (.iload_n 3, 1) := by decide +kernel
theorem dX8_write_64 : decode cX8_write 64 = .ok (.invokevirtual 267, 3) := by decide +kernel
theorem dX8_write_67 : decode cX8_write 67 = .ok (.iconst 1, 1) := by decide +kernel
theorem dX8_write_68 : decode cX8_write 68 = .ok (.ireturn, 1) := by decide +kernel
theorem dX8_copy_0 : decode cX8_copy 0 = .ok (.iload_n 1, 1) := by decide +kernel
theorem dX8_copy_1 : decode cX8_copy 1 = .ok (.invokestatic 257, 3) := by decide +kernel
theorem dX8_copy_4 : decode cX8_copy 4 = .ok (.ifCond .eq 10, 3) := by decide +kernel
theorem dX8_copy_7 : decode cX8_copy 7 = .ok (.iload_n 3, 1) := by decide +kernel
theorem dX8_copy_8 : decode cX8_copy 8 = .ok (.invokestatic 257, 3) := by decide +kernel
theorem dX8_copy_11 : decode cX8_copy 11 = .ok (.ifCond .ne 9, 3) := by decide +kernel
theorem dX8_copy_14 : decode cX8_copy 14 = .ok (.aload_n 0, 1) := by decide +kernel
theorem dX8_copy_15 : decode cX8_copy 15 = .ok (.iconst 0, 1) := by decide +kernel
theorem dX8_copy_16 : decode cX8_copy 16 = .ok (.invokevirtual 78, 3) := by decide +kernel
theorem dX8_copy_19 : decode cX8_copy 19 = .ok (.ireturn, 1) := by decide +kernel
theorem dX8_copy_20 : decode cX8_copy 20 = .ok (.aload_n 0, 1) := by decide +kernel
theorem dX8_copy_21 : decode cX8_copy 21 = .ok (.getfield 61, 3) := by decide +kernel
theorem dX8_copy_24 : decode cX8_copy 24 = .ok (.iload_n 1, 1) := by decide +kernel
theorem dX8_copy_25 : decode cX8_copy 25 = .ok (.aaload, 1) := by decide +kernel
theorem dX8_copy_26 : decode cX8_copy 26 = .ok (.astore 6, 2) := by decide +kernel
theorem dX8_copy_28 : decode cX8_copy 28 = .ok (.aload_n 0, 1) := by decide +kernel
theorem dX8_copy_29 : decode cX8_copy 29 = .ok (.getfield 61, 3) := by decide +kernel
theorem dX8_copy_32 : decode cX8_copy 32 = .ok (.iload_n 3, 1) := by decide +kernel
theorem dX8_copy_33 : decode cX8_copy 33 = .ok (.aaload, 1) := by decide +kernel
theorem dX8_copy_34 : decode cX8_copy 34 = .ok (.astore 7, 2) := by decide +kernel
theorem dX8_copy_36 : decode cX8_copy 36 = .ok (.aload 6, 2) := by decide +kernel
theorem dX8_copy_38 : decode cX8_copy 38 = .ok (.invokevirtual 264, 3) := by decide +kernel
theorem dX8_copy_41 : decode cX8_copy 41 = .ok (.ifCond .ne 11, 3) := by decide +kernel
theorem dX8_copy_44 : decode cX8_copy 44 = .ok (.aload 7, 2) := by decide +kernel
theorem dX8_copy_46 : decode cX8_copy 46 = .ok (.invokevirtual 264, 3) := by decide +kernel
theorem dX8_copy_49 : decode cX8_copy 49 = .ok (.ifCond .eq 9, 3) := by decide +kernel
theorem dX8_copy_52 : decode cX8_copy 52 = .ok (.aload_n 0, 1) := by decide +kernel
theorem dX8_copy_53 : decode cX8_copy 53 = .ok (.iconst 5, 1) := by decide +kernel
theorem dX8_copy_54 : decode cX8_copy 54 = .ok (.invokevirtual 78, 3) := by decide +kernel
theorem dX8_copy_57 : decode cX8_copy 57 = .ok (.ireturn, 1) := by decide +kernel
theorem dX8_copy_58 : decode cX8_copy 58 = .ok (.aload 6, 2) := by decide +kernel
theorem dX8_copy_60 : decode cX8_copy 60 = .ok (.getfield 268, 3) := by decide +kernel
theorem dX8_copy_63 : decode cX8_copy 63 = .ok (.aload 7, 2) := by decide +kernel
theorem dX8_copy_65 : decode cX8_copy 65 = .ok (.getfield 268, 3) := by decide +kernel
theorem dX8_copy_68 : decode cX8_copy 68 = .ok (.if_icmp .eq 9, 3) := by decide +kernel
theorem dX8_copy_71 : decode cX8_copy 71 = .ok (.aload_n 0, 1) := by decide +kernel
theorem dX8_copy_72 : decode cX8_copy 72 = .ok (.iconst 2, 1) := by decide +kernel
theorem dX8_copy_73 : decode cX8_copy 73 = .ok (.invokevirtual 78, 3) := by decide +kernel
theorem dX8_copy_76 : decode cX8_copy 76 = .ok (.ireturn, 1) := by decide +kernel
theorem dX8_copy_77 : decode cX8_copy 77 = .ok (.aload 6, 2) := by decide +kernel
theorem dX8_copy_79 : decode cX8_copy 79 = .ok (.iload_n 2, 1) := by decide +kernel
theorem dX8_copy_80 : decode cX8_copy 80 = .ok (.iload 5, 2) := by decide +kernel
theorem dX8_copy_82 : decode cX8_copy 82 = .ok (.invokevirtual 271, 3) := by decide +kernel
theorem dX8_copy_85 : decode cX8_copy 85 = .ok (.ifCond .eq 15, 3) := by decide +kernel
theorem dX8_copy_88 : decode cX8_copy 88 = .ok (.aload 7, 2) := by decide +kernel
theorem dX8_copy_90 : decode cX8_copy 90 = .ok (.iload 4, 2) := by decide +kernel
theorem dX8_copy_92 : decode cX8_copy 92 = .ok (.iload 5, 2) := by decide +kernel
theorem dX8_copy_94 : decode cX8_copy 94 = .ok (.invokevirtual 271, 3) := by decide +kernel
theorem dX8_copy_97 : decode cX8_copy 97 = .ok (.ifCond .ne 9, 3) := by decide +kernel
theorem dX8_copy_100 : decode cX8_copy 100 = .ok (.aload_n 0, 1) := by decide +kernel
theorem dX8_copy_101 : decode cX8_copy 101 = .ok (.iconst 0, 1) := by decide +kernel
theorem dX8_copy_102 : decode cX8_copy 102 = .ok (.invokevirtual 78, 3) := by decide +kernel
theorem dX8_copy_105 : decode cX8_copy 105 = .ok (.ireturn, 1) := by decide +kernel
theorem dX8_copy_106 : decode cX8_copy 106 = .ok (.aload 6, 2) := by decide +kernel
theorem dX8_copy_108 : decode cX8_copy 108 = .ok (.getfield 275, 3) := by decide +kernel
theorem dX8_copy_111 : decode cX8_copy 111 = .ok (.iload_n 2, 1) := by decide +kernel
theorem dX8_copy_112 : decode cX8_copy 112 = .ok (.aload 7, 2) := by decide +kernel
theorem dX8_copy_114 : decode cX8_copy 114 = .ok (.getfield 275, 3) := by decide +kernel
theorem dX8_copy_117 : decode cX8_copy 117 = .ok (.iload 4, 2) := by decide +kernel
theorem dX8_copy_119 : decode cX8_copy 119 = .ok (.iload 5, 2) := by decide +kernel
theorem dX8_copy_121 : decode cX8_copy 121 = .ok (.invokestatic 278, 3) := by decide +kernel
theorem dX8_copy_124 : decode cX8_copy 124 = .ok (.iload 5, 2) := by decide +kernel
theorem dX8_copy_126 : decode cX8_copy 126 = .ok (.ireturn, 1) := by decide +kernel
theorem dX8_load_0 : decode cX8_load 0 = .ok (.iload_n 1, 1) := by decide +kernel
theorem dX8_load_1 : decode cX8_load 1 = .ok (.invokestatic 257, 3) := by decide +kernel
theorem dX8_load_4 : decode cX8_load 4 = .ok (.ifCond .ne 9, 3) := by decide +kernel
theorem dX8_load_7 : decode cX8_load 7 = .ok (.aload_n 0, 1) := by decide +kernel
theorem dX8_load_8 : decode cX8_load 8 = .ok (.iconst 0, 1) := by decide +kernel
theorem dX8_load_9 : decode cX8_load 9 = .ok (.invokevirtual 78, 3) := by decide +kernel
theorem dX8_load_12 : decode cX8_load 12 = .ok (.ireturn, 1) := by decide +kernel
theorem dX8_load_13 : decode cX8_load 13 = .ok (.aload_n 0, 1) := by decide +kernel
theorem dX8_load_14 : decode cX8_load 14 = .ok (.getfield 61, 3) := by decide +kernel
theorem dX8_load_17 : decode cX8_load 17 = .ok (.iload_n 1, 1) := by decide +kernel
theorem dX8_load_18 : decode cX8_load 18 = .ok (.aaload, 1) := by decide +kernel
theorem dX8_load_19 : decode cX8_load 19 = .ok (.astore_n 3, 1) := by decide +kernel
theorem dX8_load_20 : decode cX8_load 20 = .ok (.aload_n 3, 1) := by decide +kernel
theorem dX8_load_21 : decode cX8_load 21 = .ok (.invokevirtual 264, 3) := by decide +kernel
theorem dX8_load_24 : decode cX8_load 24 = .ok (.ifCond .eq 9, 3) := by decide +kernel
theorem dX8_load_27 : decode cX8_load 27 = .ok (.aload_n 0, 1) := by decide +kernel
theorem dX8_load_28 : decode cX8_load 28 = .ok (.iconst 5, 1) := by decide +kernel
theorem dX8_load_29 : decode cX8_load 29 = .ok (.invokevirtual 78, 3) := by decide +kernel
theorem dX8_load_32 : decode cX8_load 32 = .ok (.ireturn, 1) := by decide +kernel
theorem dX8_load_33 : decode cX8_load 33 = .ok (.aload_n 0, 1) := by decide +kernel
theorem dX8_load_34 : decode cX8_load 34 = .ok (.iload_n 2, 1) := by decide +kernel
theorem dX8_load_35 : decode cX8_load 35 = .ok (.invokevirtual 96, 3) := by decide +kernel
theorem dX8_load_38 : decode cX8_load 38 = .ok (.ifCond .ne 9, 3) := by decide +kernel
theorem dX8_load_41 : decode cX8_load 41 = .ok (.aload_n 0, 1) := by decide +kernel
theorem dX8_load_42 : decode cX8_load 42 = .ok (.iconst 0, 1) := by decide +kernel
theorem dX8_load_43 : decode cX8_load 43 = .ok (.invokevirtual 78, 3) := by decide +kernel
theorem dX8_load_46 : decode cX8_load 46 = .ok (.ireturn, 1) := by decide +kernel
theorem dX8_load_47 : decode cX8_load 47 = .ok (.aload_n 3, 1) := by decide +kernel
theorem dX8_load_48 : decode cX8_load 48 = .ok (.getfield 263, 3) := by decide +kernel
theorem dX8_load_51 : decode cX8_load 51 = .ok (.bipush 30, 2) := by decide +kernel
theorem dX8_load_53 : decode cX8_load 53 = .ok (.invokestatic 284, 3) := by decide +kernel
theorem dX8_load_56 : decode cX8_load 56 = .ok (.istore 4, 2) := by decide +kernel
theorem dX8_load_58 : decode cX8_load 58 = .ok (.iconst 0, 1) := by decide +kernel
theorem dX8_load_59 : decode cX8_load 59 = .ok (.istore 5, 2) := by decide +kernel
end
section
theorem dX8_load_61 : decode cX8_load 61 = .ok (.iload 5, 2) := by decide +kernel
theorem dX8_load_63 : decode cX8_load 63 = .ok (.iload 4, 2) := by decide +kernel
theorem dX8_load_65 : decode cX8_load 65 = .ok (.if_icmp .ge 44, 3) := by decide +kernel
theorem dX8_load_68 : decode cX8_load 68 = .ok (.aload_n 3, 1) := by decide +kernel
theorem dX8_load_69 : decode cX8_load 69 = .ok (.getfield 275, 3) := by decide +kernel
theorem dX8_load_72 : decode cX8_load 72 = .ok (.iload 5, 2) := by decide +kernel
theorem dX8_load_74 : decode cX8_load 74 = .ok (.iaload, 1) := by decide +kernel
theorem dX8_load_75 : decode cX8_load 75 = .ok (.invokestatic 115, 3) := by decide +kernel
theorem dX8_load_78 : decode cX8_load 78 = .ok (.ifCond .eq 31, 3) := by decide +kernel
theorem dX8_load_81 : decode cX8_load 81 = .ok (.aload_n 0, 1) := by decide +kernel
theorem dX8_load_82 : decode cX8_load 82 = .ok (.getfield 16, 3) := by decide +kernel
theorem dX8_load_85 : decode cX8_load 85 = .ok (.getfield 99, 3) := by decide +kernel
theorem dX8_load_88 : decode cX8_load 88 = .ok (.iload_n 2, 1) := by decide +kernel
theorem dX8_load_89 : decode cX8_load 89 = .ok (.aaload, 1) := by decide +kernel
theorem dX8_load_90 : decode cX8_load 90 = .ok (.getfield 118, 3) := by decide +kernel
theorem dX8_load_93 : decode cX8_load 93 = .ok (.iload 5, 2) := by decide +kernel
theorem dX8_load_95 : decode cX8_load 95 = .ok (.aload_n 3, 1) := by decide +kernel
theorem dX8_load_96 : decode cX8_load 96 = .ok (.getfield 275, 3) := by decide +kernel
theorem dX8_load_99 : decode cX8_load 99 = .ok (.iload 5, 2) := by decide +kernel
theorem dX8_load_101 : decode cX8_load 101 = .ok (.iaload, 1) := by decide +kernel
theorem dX8_load_102 : decode cX8_load 102 = .ok (.iastore, 1) := by decide +kernel
theorem dX8_load_103 : decode cX8_load 103 = .ok (.iinc 5 1, 3) := by decide +kernel
theorem dX8_load_106 : decode cX8_load 106 = .ok (.goto (-45), 3) := by decide +kernel
theorem dX8_load_109 : decode cX8_load 109 = .ok (.iload 5, 2) := by decide +kernel
theorem dX8_load_111 : decode cX8_load 111 = .ok (.ireturn, 1) := by decide +kernel
theorem dX8_judge_0 : decode cX8_judge 0 = .ok (.iload_n 1, 1) := by decide +kernel
theorem dX8_judge_1 : decode cX8_judge 1 = .ok (.invokestatic 257, 3) := by decide +kernel
theorem dX8_judge_4 : decode cX8_judge 4 = .ok (.ifCond .ne 9, 3) := by decide +kernel
theorem dX8_judge_7 : decode cX8_judge 7 = .ok (.aload_n 0, 1) := by decide +kernel
theorem dX8_judge_8 : decode cX8_judge 8 = .ok (.iconst 0, 1) := by decide +kernel
theorem dX8_judge_9 : decode cX8_judge 9 = .ok (.invokevirtual 78, 3) := by decide +kernel
theorem dX8_judge_12 : decode cX8_judge 12 = .ok (.ireturn, 1) := by decide +kernel
theorem dX8_judge_13 : decode cX8_judge 13 = .ok (.aload_n 0, 1) := by decide +kernel
theorem dX8_judge_14 : decode cX8_judge 14 = .ok (.getfield 61, 3) := by decide +kernel
theorem dX8_judge_17 : decode cX8_judge 17 = .ok (.iload_n 1, 1) := by decide +kernel
theorem dX8_judge_18 : decode cX8_judge 18 = .ok (.aaload, 1) := by decide +kernel
theorem dX8_judge_19 : decode cX8_judge 19 = .ok (.astore_n 2, 1) := by decide +kernel
theorem dX8_judge_20 : decode cX8_judge 20 = .ok (.aload_n 2, 1) := by decide +kernel
theorem dX8_judge_21 : decode cX8_judge 21 = .ok (.invokevirtual 264, 3) := by decide +kernel
theorem dX8_judge_24 : decode cX8_judge 24 = .ok (.ifCond .eq 9, 3) := by decide +kernel
theorem dX8_judge_27 : decode cX8_judge 27 = .ok (.aload_n 0, 1) := by decide +kernel
theorem dX8_judge_28 : decode cX8_judge 28 = .ok (.iconst 5, 1) := by decide +kernel
theorem dX8_judge_29 : decode cX8_judge 29 = .ok (.invokevirtual 78, 3) := by decide +kernel
theorem dX8_judge_32 : decode cX8_judge 32 = .ok (.ireturn, 1) := by decide +kernel
theorem dX8_judge_33 : decode cX8_judge 33 = .ok (.aload_n 0, 1) := by decide +kernel
theorem dX8_judge_34 : decode cX8_judge 34 = .ok (.getfield 23, 3) := by decide +kernel
theorem dX8_judge_37 : decode cX8_judge 37 = .ok (.aload_n 0, 1) := by decide +kernel
theorem dX8_judge_38 : decode cX8_judge 38 = .ok (.getfield 16, 3) := by decide +kernel
theorem dX8_judge_41 : decode cX8_judge 41 = .ok (.invokevirtual 151, 3) := by decide +kernel
theorem dX8_judge_44 : decode cX8_judge 44 = .ok (.iconst 0, 1) := by decide +kernel
theorem dX8_judge_45 : decode cX8_judge 45 = .ok (.istore_n 3, 1) := by decide +kernel
theorem dX8_judge_46 : decode cX8_judge 46 = .ok (.iload_n 3, 1) := by decide +kernel
theorem dX8_judge_47 : decode cX8_judge 47 = .ok (.aload_n 2, 1) := by decide +kernel
theorem dX8_judge_48 : decode cX8_judge 48 = .ok (.getfield 263, 3) := by decide +kernel
theorem dX8_judge_51 : decode cX8_judge 51 = .ok (.if_icmp .ge 48, 3) := by decide +kernel
theorem dX8_judge_54 : decode cX8_judge 54 = .ok (.aload_n 0, 1) := by decide +kernel
theorem dX8_judge_55 : decode cX8_judge 55 = .ok (.getfield 23, 3) := by decide +kernel
theorem dX8_judge_58 : decode cX8_judge 58 = .ok (.invokevirtual 141, 3) := by decide +kernel
theorem dX8_judge_61 : decode cX8_judge 61 = .ok (.istore 4, 2) := by decide +kernel
theorem dX8_judge_63 : decode cX8_judge 63 = .ok (.iload 4, 2) := by decide +kernel
theorem dX8_judge_65 : decode cX8_judge 65 = .ok (.ifCond .lt 14, 3) := by decide +kernel
theorem dX8_judge_68 : decode cX8_judge 68 = .ok (.iload 4, 2) := by decide +kernel
theorem dX8_judge_70 : decode cX8_judge 70 = .ok (.aload_n 2, 1) := by decide +kernel
theorem dX8_judge_71 : decode cX8_judge 71 = .ok (.getfield 275, 3) := by decide +kernel
theorem dX8_judge_74 : decode cX8_judge 74 = .ok (.iload_n 3, 1) := by decide +kernel
theorem dX8_judge_75 : decode cX8_judge 75 = .ok (.iaload, 1) := by decide +kernel
theorem dX8_judge_76 : decode cX8_judge 76 = .ok (.if_icmp .eq 7, 3) := by decide +kernel
theorem dX8_judge_79 : decode cX8_judge 79 = .ok (.iconst 1, 1) := by decide +kernel
theorem dX8_judge_80 : decode cX8_judge 80 = .ok (.iload_n 3, 1) := by decide +kernel
theorem dX8_judge_81 : decode cX8_judge 81 = .ok (.iadd, 1) := by decide +kernel
theorem dX8_judge_82 : decode cX8_judge 82 = .ok (.ireturn, 1) := by decide +kernel
theorem dX8_judge_83 : decode cX8_judge 83 = .ok (.aload_n 0, 1) := by decide +kernel
theorem dX8_judge_84 : decode cX8_judge 84 = .ok (.getfield 23, 3) := by decide +kernel
theorem dX8_judge_87 : decode cX8_judge 87 = .ok (.iload 4, 2) := by decide +kernel
theorem dX8_judge_89 : decode cX8_judge 89 = .ok (.invokevirtual 287, 3) := by decide +kernel
theorem dX8_judge_92 : decode cX8_judge 92 = .ok (.pop, 1) := by decide +kernel
theorem dX8_judge_93 : decode cX8_judge 93 = .ok (.iinc 3 1, 3) := by decide +kernel
theorem dX8_judge_96 : decode cX8_judge 96 = .ok (.goto (-50), 3) := by decide +kernel
theorem dX8_judge_99 : decode cX8_judge 99 = .ok (.iconst 0, 1) := by decide +kernel
theorem dX8_judge_100 : decode cX8_judge 100 = .ok (.ireturn, 1) := by decide +kernel
theorem dX8_image_0 : decode cX8_image 0 = .ok (.aload_n 0, 1) := by decide +kernel
theorem dX8_image_1 : decode cX8_image 1 = .ok (.getfield 20, 3) := by decide +kernel
theorem dX8_image_4 : decode cX8_image 4 = .ok (.aload_n 0, 1) := by decide +kernel
theorem dX8_image_5 : decode cX8_image 5 = .ok (.getfield 16, 3) := by decide +kernel
theorem dX8_image_8 : decode cX8_image 8 = .ok (.invokevirtual 151, 3) := by decide +kernel
theorem dX8_image_11 : decode cX8_image 11 = .ok (.aload_n 0, 1) := by decide +kernel
theorem dX8_image_12 : decode cX8_image 12 = .ok (.iconst 1, 1) := by decide +kernel
theorem dX8_image_13 : decode cX8_image 13 = .ok (.putfield 65, 3) := by decide +kernel
theorem dX8_image_16 : decode cX8_image 16 = .ok (.iconst 1, 1) := by decide +kernel
theorem dX8_image_17 : decode cX8_image 17 = .ok (.ireturn, 1) := by decide +kernel
theorem dX8_undo_0 : decode cX8_undo 0 = .ok (.aload_n 0, 1) := by decide +kernel
theorem dX8_undo_1 : decode cX8_undo 1 = .ok (.getfield 65, 3) := by decide +kernel
theorem dX8_undo_4 : decode cX8_undo 4 = .ok (.ifCond .ne 9, 3) := by decide +kernel
theorem dX8_undo_7 : decode cX8_undo 7 = .ok (.aload_n 0, 1) := by decide +kernel
theorem dX8_undo_8 : decode cX8_undo 8 = .ok (.iconst 3, 1) := by decide +kernel
theorem dX8_undo_9 : decode cX8_undo 9 = .ok (.invokevirtual 78, 3) := by decide +kernel
theorem dX8_undo_12 : decode cX8_undo 12 = .ok (.ireturn, 1) := by decide +kernel
theorem dX8_undo_13 : decode cX8_undo 13 = .ok (.aload_n 0, 1) := by decide +kernel
theorem dX8_undo_14 : decode cX8_undo 14 = .ok (.getfield 16, 3) := by decide +kernel
theorem dX8_undo_17 : decode cX8_undo 17 = .ok (.aload_n 0, 1) := by decide +kernel
theorem dX8_undo_18 : decode cX8_undo 18 = .ok (.getfield 20, 3) := by decide +kernel
theorem dX8_undo_21 : decode cX8_undo 21 = .ok (.invokevirtual 151, 3) := by decide +kernel
theorem dX8_undo_24 : decode cX8_undo 24 = .ok (.aload_n 0, 1) := by decide +kernel
theorem dX8_undo_25 : decode cX8_undo 25 = .ok (.getfield 16, 3) := by decide +kernel
theorem dX8_undo_28 : decode cX8_undo 28 = .ok (.getfield 89, 3) := by decide +kernel
theorem dX8_undo_31 : decode cX8_undo 31 = .ok (.ireturn, 1) := by decide +kernel
theorem dX8_tear_0 : decode cX8_tear 0 = .ok (.aload_n 0, 1) := by decide +kernel
theorem dX8_tear_1 : decode cX8_tear 1 = .ok (.getfield 65, 3) := by decide +kernel
theorem dX8_tear_4 : decode cX8_tear 4 = .ok (.ifCond .eq 7, 3) := by decide +kernel
theorem dX8_tear_7 : decode cX8_tear 7 = .ok (.iconst 1, 1) := by decide +kernel
theorem dX8_tear_8 : decode cX8_tear 8 = .ok (.goto 4, 3) := by decide +kernel
theorem dX8_tear_11 : decode cX8_tear 11 = .ok (.iconst 0, 1) := by decide +kernel
theorem dX8_tear_12 : decode cX8_tear 12 = .ok (.istore_n 1, 1) := by decide +kernel
theorem dX8_tear_13 : decode cX8_tear 13 = .ok (.aload_n 0, 1) := by decide +kernel
theorem dX8_tear_14 : decode cX8_tear 14 = .ok (.iconst 0, 1) := by decide +kernel
theorem dX8_tear_15 : decode cX8_tear 15 = .ok (.putfield 65, 3) := by decide +kernel
theorem dX8_tear_18 : decode cX8_tear 18 = .ok (.iload_n 1, 1) := by decide +kernel
theorem dX8_tear_19 : decode cX8_tear 19 = .ok (.ireturn, 1) := by decide +kernel
theorem dX8_count_0 : decode cX8_count 0 = .ok (.iload_n 1, 1) := by decide +kernel
theorem dX8_count_1 : decode cX8_count 1 = .ok (.tableswitch 114 0 7 #[47, 55, 66, 74, 82, 90, 98, 106], 47) := by decide +kernel
theorem dX8_count_48 : decode cX8_count 48 = .ok (.aload_n 0, 1) := by decide +kernel
theorem dX8_count_49 : decode cX8_count 49 = .ok (.getfield 16, 3) := by decide +kernel
theorem dX8_count_52 : decode cX8_count 52 = .ok (.getfield 89, 3) := by decide +kernel
theorem dX8_count_55 : decode cX8_count 55 = .ok (.ireturn, 1) := by decide +kernel
theorem dX8_count_56 : decode cX8_count 56 = .ok (.aload_n 0, 1) := by decide +kernel
theorem dX8_count_57 : decode cX8_count 57 = .ok (.getfield 16, 3) := by decide +kernel
theorem dX8_count_60 : decode cX8_count 60 = .ok (.invokevirtual 155, 3) := by decide +kernel
theorem dX8_count_63 : decode cX8_count 63 = .ok (.invokestatic 290, 3) := by decide +kernel
theorem dX8_count_66 : decode cX8_count 66 = .ok (.ireturn, 1) := by decide +kernel
theorem dX8_count_67 : decode cX8_count 67 = .ok (.aload_n 0, 1) := by decide +kernel
theorem dX8_count_68 : decode cX8_count 68 = .ok (.getfield 16, 3) := by decide +kernel
theorem dX8_count_71 : decode cX8_count 71 = .ok (.invokevirtual 293, 3) := by decide +kernel
theorem dX8_count_74 : decode cX8_count 74 = .ok (.ireturn, 1) := by decide +kernel
theorem dX8_count_75 : decode cX8_count 75 = .ok (.aload_n 0, 1) := by decide +kernel
theorem dX8_count_76 : decode cX8_count 76 = .ok (.getfield 16, 3) := by decide +kernel
theorem dX8_count_79 : decode cX8_count 79 = .ok (.invokevirtual 236, 3) := by decide +kernel
theorem dX8_count_82 : decode cX8_count 82 = .ok (.ireturn, 1) := by decide +kernel
theorem dX8_count_83 : decode cX8_count 83 = .ok (.aload_n 0, 1) := by decide +kernel
theorem dX8_count_84 : decode cX8_count 84 = .ok (.getfield 16, 3) := by decide +kernel
theorem dX8_count_87 : decode cX8_count 87 = .ok (.getfield 85, 3) := by decide +kernel
theorem dX8_count_90 : decode cX8_count 90 = .ok (.ireturn, 1) := by decide +kernel
theorem dX8_count_91 : decode cX8_count 91 = .ok (.aload_n 0, 1) := by decide +kernel
theorem dX8_count_92 : decode cX8_count 92 = .ok (.getfield 58, 3) := by decide +kernel
theorem dX8_count_95 : decode cX8_count 95 = .ok (.getfield 239, 3) := by decide +kernel
theorem dX8_count_98 : decode cX8_count 98 = .ok (.ireturn, 1) := by decide +kernel
theorem dX8_count_99 : decode cX8_count 99 = .ok (.aload_n 0, 1) := by decide +kernel
theorem dX8_count_100 : decode cX8_count 100 = .ok (.getfield 16, 3) := by decide +kernel
theorem dX8_count_103 : decode cX8_count 103 = .ok (.getfield 170, 3) := by decide +kernel
theorem dX8_count_106 : decode cX8_count 106 = .ok (.ireturn, 1) := by decide +kernel
theorem dX8_count_107 : decode cX8_count 107 = .ok (.aload_n 0, 1) := by decide +kernel
theorem dX8_count_108 : decode cX8_count 108 = .ok (.getfield 16, 3) := by decide +kernel
theorem dX8_count_111 : decode cX8_count 111 = .ok (.invokevirtual 296, 3) := by decide +kernel
theorem dX8_count_114 : decode cX8_count 114 = .ok (.ireturn, 1) := by decide +kernel
theorem dX8_count_115 : decode cX8_count 115 = .ok (.aload_n 0, 1) := by decide +kernel
theorem dX8_count_116 : decode cX8_count 116 = .ok (.iconst 0, 1) := by decide +kernel
theorem dX8_count_117 : decode cX8_count 117 = .ok (.invokevirtual 78, 3) := by decide +kernel
theorem dX8_count_120 : decode cX8_count 120 = .ok (.ireturn, 1) := by decide +kernel
theorem dX8_status_0 : decode cX8_status 0 = .ok (.iload_n 1, 1) := by decide +kernel
theorem dX8_status_1 : decode cX8_status 1 = .ok (.iconst (-1), 1) := by decide +kernel
theorem dX8_status_2 : decode cX8_status 2 = .ok (.bipush 6, 2) := by decide +kernel
theorem dX8_status_4 : decode cX8_status 4 = .ok (.invokestatic 74, 3) := by decide +kernel
theorem dX8_status_7 : decode cX8_status 7 = .ok (.ifCond .ne 9, 3) := by decide +kernel
theorem dX8_status_10 : decode cX8_status 10 = .ok (.aload_n 0, 1) := by decide +kernel
theorem dX8_status_11 : decode cX8_status 11 = .ok (.iconst 0, 1) := by decide +kernel
theorem dX8_status_12 : decode cX8_status 12 = .ok (.invokevirtual 78, 3) := by decide +kernel
theorem dX8_status_15 : decode cX8_status 15 = .ok (.ireturn, 1) := by decide +kernel
theorem dX8_status_16 : decode cX8_status 16 = .ok (.iload_n 1, 1) := by decide +kernel
theorem dX8_status_17 : decode cX8_status 17 = .ok (.ifCond .lt 10, 3) := by decide +kernel
theorem dX8_status_20 : decode cX8_status 20 = .ok (.aload_n 0, 1) := by decide +kernel
theorem dX8_status_21 : decode cX8_status 21 = .ok (.getfield 9, 3) := by decide +kernel
theorem dX8_status_24 : decode cX8_status 24 = .ok (.iload_n 1, 1) := by decide +kernel
theorem dX8_status_25 : decode cX8_status 25 = .ok (.iaload, 1) := by decide +kernel
theorem dX8_status_26 : decode cX8_status 26 = .ok (.ireturn, 1) := by decide +kernel
theorem dX8_status_27 : decode cX8_status 27 = .ok (.iconst 0, 1) := by decide +kernel
theorem dX8_status_28 : decode cX8_status 28 = .ok (.istore_n 2, 1) := by decide +kernel
theorem dX8_status_29 : decode cX8_status 29 = .ok (.iconst 0, 1) := by decide +kernel
theorem dX8_status_30 : decode cX8_status 30 = .ok (.istore_n 3, 1) := by decide +kernel
theorem dX8_status_31 : decode cX8_status 31 = .ok (.iload_n 3, 1) := by decide +kernel
theorem dX8_status_32 : decode cX8_status 32 = .ok (.bipush 7, 2) := by decide +kernel
theorem dX8_status_34 : decode cX8_status 34 = .ok (.if_icmp .ge 18, 3) := by decide +kernel
theorem dX8_status_37 : decode cX8_status 37 = .ok (.iload_n 2, 1) := by decide +kernel
theorem dX8_status_38 : decode cX8_status 38 = .ok (.aload_n 0, 1) := by decide +kernel
theorem dX8_status_39 : decode cX8_status 39 = .ok (.getfield 9, 3) := by decide +kernel
theorem dX8_status_42 : decode cX8_status 42 = .ok (.iload_n 3, 1) := by decide +kernel
theorem dX8_status_43 : decode cX8_status 43 = .ok (.iaload, 1) := by decide +kernel
theorem dX8_status_44 : decode cX8_status 44 = .ok (.iadd, 1) := by decide +kernel
theorem dX8_status_45 : decode cX8_status 45 = .ok (.istore_n 2, 1) := by decide +kernel
theorem dX8_status_46 : decode cX8_status 46 = .ok (.iinc 3 1, 3) := by decide +kernel
theorem dX8_status_49 : decode cX8_status 49 = .ok (.goto (-18), 3) := by decide +kernel
theorem dX8_status_52 : decode cX8_status 52 = .ok (.iload_n 2, 1) := by decide +kernel
theorem dX8_status_53 : decode cX8_status 53 = .ok (.ireturn, 1) := by decide +kernel
theorem dX8_found_0 : decode cX8_found 0 = .ok (.aload_n 0, 1) := by decide +kernel
theorem dX8_found_1 : decode cX8_found 1 = .ok (.getfield 9, 3) := by decide +kernel
theorem dX8_found_4 : decode cX8_found 4 = .ok (.iload_n 1, 1) := by decide +kernel
theorem dX8_found_5 : decode cX8_found 5 = .ok (.dup2, 1) := by decide +kernel
theorem dX8_found_6 : decode cX8_found 6 = .ok (.iaload, 1) := by decide +kernel
theorem dX8_found_7 : decode cX8_found 7 = .ok (.iconst 1, 1) := by decide +kernel
theorem dX8_found_8 : decode cX8_found 8 = .ok (.iadd, 1) := by decide +kernel
theorem dX8_found_9 : decode cX8_found 9 = .ok (.iastore, 1) := by decide +kernel
theorem dX8_found_10 : decode cX8_found 10 = .ok (.ldc_w 299, 3) := by decide +kernel
theorem dX8_found_13 : decode cX8_found 13 = .ok (.iload_n 1, 1) := by decide +kernel
theorem dX8_found_14 : decode cX8_found 14 = .ok (.isub, 1) := by decide +kernel
theorem dX8_found_15 : decode cX8_found 15 = .ok (.ireturn, 1) := by decide +kernel
theorem dX8_within_0 : decode cX8_within 0 = .ok (.iload_n 0, 1) := by decide +kernel
theorem dX8_within_1 : decode cX8_within 1 = .ok (.iload_n 1, 1) := by decide +kernel
theorem dX8_within_2 : decode cX8_within 2 = .ok (.if_icmp .lt 12, 3) := by decide +kernel
theorem dX8_within_5 : decode cX8_within 5 = .ok (.iload_n 0, 1) := by decide +kernel
theorem dX8_within_6 : decode cX8_within 6 = .ok (.iload_n 2, 1) := by decide +kernel
theorem dX8_within_7 : decode cX8_within 7 = .ok (.if_icmp .gt 7, 3) := by decide +kernel
theorem dX8_within_10 : decode cX8_within 10 = .ok (.iconst 1, 1) := by decide +kernel
theorem dX8_within_11 : decode cX8_within 11 = .ok (.goto 4, 3) := by decide +kernel
theorem dX8_within_14 : decode cX8_within 14 = .ok (.iconst 0, 1) := by decide +kernel
theorem dX8_within_15 : decode cX8_within 15 = .ok (.ireturn, 1) := by decide +kernel
theorem dX8_isYard_0 : decode cX8_isYard 0 = .ok (.iload_n 0, 1) := by decide +kernel
theorem dX8_isYard_1 : decode cX8_isYard 1 = .ok (.iconst 0, 1) := by decide +kernel
theorem dX8_isYard_2 : decode cX8_isYard 2 = .ok (.bipush 29, 2) := by decide +kernel
theorem dX8_isYard_4 : decode cX8_isYard 4 = .ok (.invokestatic 74, 3) := by decide +kernel
theorem dX8_isYard_7 : decode cX8_isYard 7 = .ok (.ireturn, 1) := by decide +kernel
theorem dX8_isPace_0 : decode cX8_isPace 0 = .ok (.iload_n 0, 1) := by decide +kernel
theorem dX8_isPace_1 : decode cX8_isPace 1 = .ok (.iconst 1, 1) := by decide +kernel
theorem dX8_isPace_2 : decode cX8_isPace 2 = .ok (.bipush 9, 2) := by decide +kernel
theorem dX8_isPace_4 : decode cX8_isPace 4 = .ok (.invokestatic 74, 3) := by decide +kernel
theorem dX8_isPace_7 : decode cX8_isPace 7 = .ok (.ireturn, 1) := by decide +kernel
theorem dX8_isSpot_0 : decode cX8_isSpot 0 = .ok (.iload_n 0, 1) := by decide +kernel
theorem dX8_isSpot_1 : decode cX8_isSpot 1 = .ok (.iconst 0, 1) := by decide +kernel
theorem dX8_isSpot_2 : decode cX8_isSpot 2 = .ok (.bipush 9, 2) := by decide +kernel
theorem dX8_isSpot_4 : decode cX8_isSpot 4 = .ok (.invokestatic 74, 3) := by decide +kernel
theorem dX8_isSpot_7 : decode cX8_isSpot 7 = .ok (.ireturn, 1) := by decide +kernel
theorem dX8_isSheet_0 : decode cX8_isSheet 0 = .ok (.iload_n 0, 1) := by decide +kernel
theorem dX8_isSheet_1 : decode cX8_isSheet 1 = .ok (.iconst 0, 1) := by decide +kernel
theorem dX8_isSheet_2 : decode cX8_isSheet 2 = .ok (.iconst 3, 1) := by decide +kernel
theorem dX8_isSheet_3 : decode cX8_isSheet 3 = .ok (.invokestatic 74, 3) := by decide +kernel
theorem dX8_isSheet_6 : decode cX8_isSheet 6 = .ok (.ireturn, 1) := by decide +kernel
theorem dX8_isRunner_0 : decode cX8_isRunner 0 = .ok (.iload_n 1, 1) := by decide +kernel
theorem dX8_isRunner_1 : decode cX8_isRunner 1 = .ok (.iconst 0, 1) := by decide +kernel
theorem dX8_isRunner_2 : decode cX8_isRunner 2 = .ok (.aload_n 0, 1) := by decide +kernel
theorem dX8_isRunner_3 : decode cX8_isRunner 3 = .ok (.getfield 16, 3) := by decide +kernel
theorem dX8_isRunner_6 : decode cX8_isRunner 6 = .ok (.getfield 89, 3) := by decide +kernel
theorem dX8_isRunner_9 : decode cX8_isRunner 9 = .ok (.iconst 1, 1) := by decide +kernel
theorem dX8_isRunner_10 : decode cX8_isRunner 10 = .ok (.isub, 1) := by decide +kernel
theorem dX8_isRunner_11 : decode cX8_isRunner 11 = .ok (.invokestatic 74, 3) := by decide +kernel
theorem dX8_isRunner_14 : decode cX8_isRunner 14 = .ok (.ireturn, 1) := by decide +kernel
theorem dX8_isStretch_0 : decode cX8_isStretch 0 = .ok (.aload_n 0, 1) := by decide +kernel
theorem dX8_isStretch_1 : decode cX8_isStretch 1 = .ok (.iload_n 1, 1) := by decide +kernel
theorem dX8_isStretch_2 : decode cX8_isStretch 2 = .ok (.invokevirtual 96, 3) := by decide +kernel
theorem dX8_isStretch_5 : decode cX8_isStretch 5 = .ok (.ifCond .eq 26, 3) := by decide +kernel
theorem dX8_isStretch_8 : decode cX8_isStretch 8 = .ok (.iload_n 2, 1) := by decide +kernel
theorem dX8_isStretch_9 : decode cX8_isStretch 9 = .ok (.invokestatic 70, 3) := by decide +kernel
theorem dX8_isStretch_12 : decode cX8_isStretch 12 = .ok (.ifCond .eq 19, 3) := by decide +kernel
theorem dX8_isStretch_15 : decode cX8_isStretch 15 = .ok (.iload_n 3, 1) := by decide +kernel
theorem dX8_isStretch_16 : decode cX8_isStretch 16 = .ok (.iconst 0, 1) := by decide +kernel
theorem dX8_isStretch_17 : decode cX8_isStretch 17 = .ok (.bipush 30, 2) := by decide +kernel
theorem dX8_isStretch_19 : decode cX8_isStretch 19 = .ok (.iload_n 2, 1) := by decide +kernel
theorem dX8_isStretch_20 : decode cX8_isStretch 20 = .ok (.isub, 1) := by decide +kernel
theorem dX8_isStretch_21 : decode cX8_isStretch 21 = .ok (.invokestatic 74, 3) := by decide +kernel
theorem dX8_isStretch_24 : decode cX8_isStretch 24 = .ok (.ifCond .eq 7, 3) := by decide +kernel
theorem dX8_isStretch_27 : decode cX8_isStretch 27 = .ok (.iconst 1, 1) := by decide +kernel
theorem dX8_isStretch_28 : decode cX8_isStretch 28 = .ok (.goto 4, 3) := by decide +kernel
theorem dX8_isStretch_31 : decode cX8_isStretch 31 = .ok (.iconst 0, 1) := by decide +kernel
theorem dX8_isStretch_32 : decode cX8_isStretch 32 = .ok (.ireturn, 1) := by decide +kernel
theorem dX8_isTeamSet_0 : decode cX8_isTeamSet 0 = .ok (.iload_n 1, 1) := by decide +kernel
theorem dX8_isTeamSet_1 : decode cX8_isTeamSet 1 = .ok (.ifCond .lt 27, 3) := by decide +kernel
theorem dX8_isTeamSet_4 : decode cX8_isTeamSet 4 = .ok (.iload_n 1, 1) := by decide +kernel
theorem dX8_isTeamSet_5 : decode cX8_isTeamSet 5 = .ok (.aload_n 0, 1) := by decide +kernel
theorem dX8_isTeamSet_6 : decode cX8_isTeamSet 6 = .ok (.getfield 16, 3) := by decide +kernel
theorem dX8_isTeamSet_9 : decode cX8_isTeamSet 9 = .ok (.getfield 89, 3) := by decide +kernel
theorem dX8_isTeamSet_12 : decode cX8_isTeamSet 12 = .ok (.ishr, 1) := by decide +kernel
theorem dX8_isTeamSet_13 : decode cX8_isTeamSet 13 = .ok (.ifCond .ne 15, 3) := by decide +kernel
theorem dX8_isTeamSet_16 : decode cX8_isTeamSet 16 = .ok (.iload_n 1, 1) := by decide +kernel
theorem dX8_isTeamSet_17 : decode cX8_isTeamSet 17 = .ok (.invokestatic 290, 3) := by decide +kernel
theorem dX8_isTeamSet_20 : decode cX8_isTeamSet 20 = .ok (.iconst 3, 1) := by decide +kernel
theorem dX8_isTeamSet_21 : decode cX8_isTeamSet 21 = .ok (.if_icmp .lt 7, 3) := by decide +kernel
theorem dX8_isTeamSet_24 : decode cX8_isTeamSet 24 = .ok (.iconst 1, 1) := by decide +kernel
theorem dX8_isTeamSet_25 : decode cX8_isTeamSet 25 = .ok (.goto 4, 3) := by decide +kernel
theorem dX8_isTeamSet_28 : decode cX8_isTeamSet 28 = .ok (.iconst 0, 1) := by decide +kernel
theorem dX8_isTeamSet_29 : decode cX8_isTeamSet 29 = .ok (.ireturn, 1) := by decide +kernel
theorem dX8_runAllHome_0 : decode cX8_runAllHome 0 = .ok (.aload_n 0, 1) := by decide +kernel
theorem dX8_runAllHome_1 : decode cX8_runAllHome 1 = .ok (.getfield 23, 3) := by decide +kernel
theorem dX8_runAllHome_4 : decode cX8_runAllHome 4 = .ok (.aload_n 0, 1) := by decide +kernel
theorem dX8_runAllHome_5 : decode cX8_runAllHome 5 = .ok (.getfield 16, 3) := by decide +kernel
theorem dX8_runAllHome_8 : decode cX8_runAllHome 8 = .ok (.invokevirtual 151, 3) := by decide +kernel
theorem dX8_runAllHome_11 : decode cX8_runAllHome 11 = .ok (.aload_n 0, 1) := by decide +kernel
theorem dX8_runAllHome_12 : decode cX8_runAllHome 12 = .ok (.getfield 23, 3) := by decide +kernel
theorem dX8_runAllHome_15 : decode cX8_runAllHome 15 = .ok (.sipush 180, 3) := by decide +kernel
theorem dX8_runAllHome_18 : decode cX8_runAllHome 18 = .ok (.invokevirtual 145, 3) := by decide +kernel
theorem dX8_runAllHome_21 : decode cX8_runAllHome 21 = .ok (.pop, 1) := by decide +kernel
theorem dX8_runAllHome_22 : decode cX8_runAllHome 22 = .ok (.return_, 1) := by decide +kernel
theorem dX8_tryGum_0 : decode cX8_tryGum 0 = .ok (.aload_n 0, 1) := by decide +kernel
theorem dX8_tryGum_1 : decode cX8_tryGum 1 = .ok (.getfield 23, 3) := by decide +kernel
theorem dX8_tryGum_4 : decode cX8_tryGum 4 = .ok (.aload_n 0, 1) := by decide +kernel
theorem dX8_tryGum_5 : decode cX8_tryGum 5 = .ok (.getfield 16, 3) := by decide +kernel
theorem dX8_tryGum_8 : decode cX8_tryGum 8 = .ok (.invokevirtual 151, 3) := by decide +kernel
theorem dX8_tryGum_11 : decode cX8_tryGum 11 = .ok (.aload_n 0, 1) := by decide +kernel
theorem dX8_tryGum_12 : decode cX8_tryGum 12 = .ok (.getfield 23, 3) := by decide +kernel
theorem dX8_tryGum_15 : decode cX8_tryGum 15 = .ok (.getfield 99, 3) := by decide +kernel
theorem dX8_tryGum_18 : decode cX8_tryGum 18 = .ok (.iload_n 1, 1) := by decide +kernel
theorem dX8_tryGum_19 : decode cX8_tryGum 19 = .ok (.aaload, 1) := by decide +kernel
theorem dX8_tryGum_20 : decode cX8_tryGum 20 = .ok (.iconst 5, 1) := by decide +kernel
theorem dX8_tryGum_21 : decode cX8_tryGum 21 = .ok (.putfield 300, 3) := by decide +kernel
theorem dX8_tryGum_24 : decode cX8_tryGum 24 = .ok (.return_, 1) := by decide +kernel
theorem dX8_wholeMean_0 : decode cX8_wholeMean 0 = .ok (.aload_n 0, 1) := by decide +kernel
theorem dX8_wholeMean_1 : decode cX8_wholeMean 1 = .ok (.getfield 29, 3) := by decide +kernel
theorem dX8_wholeMean_4 : decode cX8_wholeMean 4 = .ok (.aload_n 1, 1) := by decide +kernel
theorem dX8_wholeMean_5 : decode cX8_wholeMean 5 = .ok (.iload_n 2, 1) := by decide +kernel
theorem dX8_wholeMean_6 : decode cX8_wholeMean 6 = .ok (.iconst 0, 1) := by decide +kernel
theorem dX8_wholeMean_7 : decode cX8_wholeMean 7 = .ok (.bipush 30, 2) := by decide +kernel
theorem dX8_wholeMean_9 : decode cX8_wholeMean 9 = .ok (.iconst 0, 1) := by decide +kernel
theorem dX8_wholeMean_10 : decode cX8_wholeMean 10 = .ok (.invokevirtual 180, 3) := by decide +kernel
theorem dX8_wholeMean_13 : decode cX8_wholeMean 13 = .ok (.ireturn, 1) := by decide +kernel
theorem dX9_init_0 : decode cX9_init 0 = .ok (.aload_n 0, 1) := by decide +kernel
theorem dX9_init_1 : decode cX9_init 1 = .ok (.invokespecial 3, 3) := by decide +kernel
theorem dX9_init_4 : decode cX9_init 4 = .ok (.aload_n 0, 1) := by decide +kernel
theorem dX9_init_5 : decode cX9_init 5 = .ok (.sipush 265, 3) := by decide +kernel
theorem dX9_init_8 : decode cX9_init 8 = .ok (.newarray .int, 2) := by decide +kernel
theorem dX9_init_10 : decode cX9_init 10 = .ok (.putfield 9, 3) := by decide +kernel
theorem dX9_init_13 : decode cX9_init 13 = .ok (.aload_n 0, 1) := by decide +kernel
theorem dX9_init_14 : decode cX9_init 14 = .ok (.sipush 265, 3) := by decide +kernel
theorem dX9_init_17 : decode cX9_init 17 = .ok (.newarray .int, 2) := by decide +kernel
theorem dX9_init_19 : decode cX9_init 19 = .ok (.putfield 13, 3) := by decide +kernel
theorem dX9_init_22 : decode cX9_init 22 = .ok (.aload_n 0, 1) := by decide +kernel
theorem dX9_init_23 : decode cX9_init 23 = .ok (.sipush 265, 3) := by decide +kernel
theorem dX9_init_26 : decode cX9_init 26 = .ok (.newarray .int, 2) := by decide +kernel
theorem dX9_init_28 : decode cX9_init 28 = .ok (.putfield 16, 3) := by decide +kernel
theorem dX9_init_31 : decode cX9_init 31 = .ok (.aload_n 0, 1) := by decide +kernel
theorem dX9_init_32 : decode cX9_init 32 = .ok (.bipush 7, 2) := by decide +kernel
theorem dX9_init_34 : decode cX9_init 34 = .ok (.newarray .int, 2) := by decide +kernel
theorem dX9_init_36 : decode cX9_init 36 = .ok (.putfield 19, 3) := by decide +kernel
theorem dX9_init_39 : decode cX9_init 39 = .ok (.aload_n 0, 1) := by decide +kernel
theorem dX9_init_40 : decode cX9_init 40 = .ok (.bipush 124, 2) := by decide +kernel
theorem dX9_init_42 : decode cX9_init 42 = .ok (.newarray .int, 2) := by decide +kernel
theorem dX9_init_44 : decode cX9_init 44 = .ok (.putfield 22, 3) := by decide +kernel
theorem dX9_init_47 : decode cX9_init 47 = .ok (.aload_n 0, 1) := by decide +kernel
theorem dX9_init_48 : decode cX9_init 48 = .ok (.bipush 120, 2) := by decide +kernel
theorem dX9_init_50 : decode cX9_init 50 = .ok (.newarray .int, 2) := by decide +kernel
theorem dX9_init_52 : decode cX9_init 52 = .ok (.putfield 25, 3) := by decide +kernel
theorem dX9_init_55 : decode cX9_init 55 = .ok (.aload_n 0, 1) := by decide +kernel
theorem dX9_init_56 : decode cX9_init 56 = .ok (.bipush 18, 2) := by decide +kernel
theorem dX9_init_58 : decode cX9_init 58 = .ok (.newarray .int, 2) := by decide +kernel
theorem dX9_init_60 : decode cX9_init 60 = .ok (.putfield 28, 3) := by decide +kernel
theorem dX9_init_63 : decode cX9_init 63 = .ok (.aload_n 0, 1) := by decide +kernel
theorem dX9_init_64 : decode cX9_init 64 = .ok (.iconst 3, 1) := by decide +kernel
theorem dX9_init_65 : decode cX9_init 65 = .ok (.newarray .int, 2) := by decide +kernel
theorem dX9_init_67 : decode cX9_init 67 = .ok (.putfield 31, 3) := by decide +kernel
theorem dX9_init_70 : decode cX9_init 70 = .ok (.aload_n 0, 1) := by decide +kernel
theorem dX9_init_71 : decode cX9_init 71 = .ok (.bipush 120, 2) := by decide +kernel
theorem dX9_init_73 : decode cX9_init 73 = .ok (.newarray .int, 2) := by decide +kernel
theorem dX9_init_75 : decode cX9_init 75 = .ok (.putfield 34, 3) := by decide +kernel
theorem dX9_init_78 : decode cX9_init 78 = .ok (.aload_n 0, 1) := by decide +kernel
theorem dX9_init_79 : decode cX9_init 79 = .ok (.iconst 4, 1) := by decide +kernel
theorem dX9_init_80 : decode cX9_init 80 = .ok (.newarray .int, 2) := by decide +kernel
theorem dX9_init_82 : decode cX9_init 82 = .ok (.putfield 37, 3) := by decide +kernel
theorem dX9_init_85 : decode cX9_init 85 = .ok (.aload_n 0, 1) := by decide +kernel
theorem dX9_init_86 : decode cX9_init 86 = .ok (.iconst 4, 1) := by decide +kernel
theorem dX9_init_87 : decode cX9_init 87 = .ok (.newarray .int, 2) := by decide +kernel
theorem dX9_init_89 : decode cX9_init 89 = .ok (.putfield 40, 3) := by decide +kernel
theorem dX9_init_92 : decode cX9_init 92 = .ok (.aload_n 0, 1) := by decide +kernel
theorem dX9_init_93 : decode cX9_init 93 = .ok (.sipush 160, 3) := by decide +kernel
theorem dX9_init_96 : decode cX9_init 96 = .ok (.newarray .int, 2) := by decide +kernel
theorem dX9_init_98 : decode cX9_init 98 = .ok (.putfield 43, 3) := by decide +kernel
theorem dX9_init_101 : decode cX9_init 101 = .ok (.aload_n 0, 1) := by decide +kernel
theorem dX9_init_102 : decode cX9_init 102 = .ok (.getfield 9, 3) := by decide +kernel
theorem dX9_init_105 : decode cX9_init 105 = .ok (.iconst 0, 1) := by decide +kernel
theorem dX9_init_106 : decode cX9_init 106 = .ok (.bipush 25, 2) := by decide +kernel
theorem dX9_init_108 : decode cX9_init 108 = .ok (.iastore, 1) := by decide +kernel
theorem dX9_init_109 : decode cX9_init 109 = .ok (.aload_n 0, 1) := by decide +kernel
theorem dX9_init_110 : decode cX9_init 110 = .ok (.getfield 9, 3) := by decide +kernel
theorem dX9_init_113 : decode cX9_init 113 = .ok (.iconst 1, 1) := by decide +kernel
theorem dX9_init_114 : decode cX9_init 114 = .ok (.iconst 1, 1) := by decide +kernel
theorem dX9_init_115 : decode cX9_init 115 = .ok (.iastore, 1) := by decide +kernel
theorem dX9_init_116 : decode cX9_init 116 = .ok (.iconst 0, 1) := by decide +kernel
theorem dX9_init_117 : decode cX9_init 117 = .ok (.istore_n 1, 1) := by decide +kernel
theorem dX9_init_118 : decode cX9_init 118 = .ok (.iload_n 1, 1) := by decide +kernel
theorem dX9_init_119 : decode cX9_init 119 = .ok (.bipush 10, 2) := by decide +kernel
theorem dX9_init_121 : decode cX9_init 121 = .ok (.if_icmp .ge 20, 3) := by decide +kernel
theorem dX9_init_124 : decode cX9_init 124 = .ok (.aload_n 0, 1) := by decide +kernel
theorem dX9_init_125 : decode cX9_init 125 = .ok (.getfield 9, 3) := by decide +kernel
theorem dX9_init_128 : decode cX9_init 128 = .ok (.sipush 255, 3) := by decide +kernel
theorem dX9_init_131 : decode cX9_init 131 = .ok (.iload_n 1, 1) := by decide +kernel
theorem dX9_init_132 : decode cX9_init 132 = .ok (.iadd, 1) := by decide +kernel
theorem dX9_init_133 : decode cX9_init 133 = .ok (.iconst (-1), 1) := by decide +kernel
theorem dX9_init_134 : decode cX9_init 134 = .ok (.iastore, 1) := by decide +kernel
theorem dX9_init_135 : decode cX9_init 135 = .ok (.iinc 1 1, 3) := by decide +kernel
theorem dX9_init_138 : decode cX9_init 138 = .ok (.goto (-20), 3) := by decide +kernel
theorem dX9_init_141 : decode cX9_init 141 = .ok (.return_, 1) := by decide +kernel
theorem dX9_finds_0 : decode cX9_finds 0 = .ok (.aload_n 0, 1) := by decide +kernel
theorem dX9_finds_1 : decode cX9_finds 1 = .ok (.getfield 19, 3) := by decide +kernel
theorem dX9_finds_4 : decode cX9_finds 4 = .ok (.ldc 46, 2) := by decide +kernel
theorem dX9_finds_6 : decode cX9_finds 6 = .ok (.iload_n 1, 1) := by decide +kernel
theorem dX9_finds_7 : decode cX9_finds 7 = .ok (.isub, 1) := by decide +kernel
theorem dX9_finds_8 : decode cX9_finds 8 = .ok (.dup2, 1) := by decide +kernel
theorem dX9_finds_9 : decode cX9_finds 9 = .ok (.iaload, 1) := by decide +kernel
theorem dX9_finds_10 : decode cX9_finds 10 = .ok (.iconst 1, 1) := by decide +kernel
theorem dX9_finds_11 : decode cX9_finds 11 = .ok (.iadd, 1) := by decide +kernel
theorem dX9_finds_12 : decode cX9_finds 12 = .ok (.iastore, 1) := by decide +kernel
theorem dX9_finds_13 : decode cX9_finds 13 = .ok (.iload_n 1, 1) := by decide +kernel
theorem dX9_finds_14 : decode cX9_finds 14 = .ok (.ireturn, 1) := by decide +kernel
theorem dX9_orNone_0 : decode cX9_orNone 0 = .ok (.iload_n 1, 1) := by decide +kernel
theorem dX9_orNone_1 : decode cX9_orNone 1 = .ok (.ifCond .ge 12, 3) := by decide +kernel
theorem dX9_orNone_4 : decode cX9_orNone 4 = .ok (.aload_n 0, 1) := by decide +kernel
theorem dX9_orNone_5 : decode cX9_orNone 5 = .ok (.ldc 47, 2) := by decide +kernel
theorem dX9_orNone_7 : decode cX9_orNone 7 = .ok (.invokevirtual 48, 3) := by decide +kernel
theorem dX9_orNone_10 : decode cX9_orNone 10 = .ok (.goto 4, 3) := by decide +kernel
theorem dX9_orNone_13 : decode cX9_orNone 13 = .ok (.iload_n 1, 1) := by decide +kernel
theorem dX9_orNone_14 : decode cX9_orNone 14 = .ok (.ireturn, 1) := by decide +kernel
theorem dX9_in_0 : decode cX9_in 0 = .ok (.lload_n 0, 1) := by decide +kernel
theorem dX9_in_1 : decode cX9_in 1 = .ok (.lload_n 2, 1) := by decide +kernel
theorem dX9_in_2 : decode cX9_in 2 = .ok (.lcmp, 1) := by decide +kernel
theorem dX9_in_3 : decode cX9_in 3 = .ok (.ifCond .lt 14, 3) := by decide +kernel
theorem dX9_in_6 : decode cX9_in 6 = .ok (.lload_n 0, 1) := by decide +kernel
theorem dX9_in_7 : decode cX9_in 7 = .ok (.lload 4, 2) := by decide +kernel
theorem dX9_in_9 : decode cX9_in 9 = .ok (.lcmp, 1) := by decide +kernel
theorem dX9_in_10 : decode cX9_in 10 = .ok (.ifCond .gt 7, 3) := by decide +kernel
theorem dX9_in_13 : decode cX9_in 13 = .ok (.iconst 1, 1) := by decide +kernel
theorem dX9_in_14 : decode cX9_in 14 = .ok (.goto 4, 3) := by decide +kernel
theorem dX9_in_17 : decode cX9_in 17 = .ok (.iconst 0, 1) := by decide +kernel
theorem dX9_in_18 : decode cX9_in 18 = .ok (.ireturn, 1) := by decide +kernel
theorem dX9_row_0 : decode cX9_row 0 = .ok (.iconst 0, 1) := by decide +kernel
theorem dX9_row_1 : decode cX9_row 1 = .ok (.istore_n 2, 1) := by decide +kernel
theorem dX9_row_2 : decode cX9_row 2 = .ok (.iload_n 2, 1) := by decide +kernel
theorem dX9_row_3 : decode cX9_row 3 = .ok (.sipush 265, 3) := by decide +kernel
theorem dX9_row_6 : decode cX9_row 6 = .ok (.if_icmp .ge 15, 3) := by decide +kernel
theorem dX9_row_9 : decode cX9_row 9 = .ok (.aload_n 1, 1) := by decide +kernel
theorem dX9_row_10 : decode cX9_row 10 = .ok (.iload_n 2, 1) := by decide +kernel
theorem dX9_row_11 : decode cX9_row 11 = .ok (.aload_n 0, 1) := by decide +kernel
theorem dX9_row_12 : decode cX9_row 12 = .ok (.iload_n 2, 1) := by decide +kernel
theorem dX9_row_13 : decode cX9_row 13 = .ok (.iaload, 1) := by decide +kernel
theorem dX9_row_14 : decode cX9_row 14 = .ok (.iastore, 1) := by decide +kernel
theorem dX9_row_15 : decode cX9_row 15 = .ok (.iinc 2 1, 3) := by decide +kernel
theorem dX9_row_18 : decode cX9_row 18 = .ok (.goto (-16), 3) := by decide +kernel
theorem dX9_row_21 : decode cX9_row 21 = .ok (.return_, 1) := by decide +kernel
theorem dX9_becomes_0 : decode cX9_becomes 0 = .ok (.aload_n 0, 1) := by decide +kernel
theorem dX9_becomes_1 : decode cX9_becomes 1 = .ok (.getfield 9, 3) := by decide +kernel
theorem dX9_becomes_4 : decode cX9_becomes 4 = .ok (.iload_n 1, 1) := by decide +kernel
theorem dX9_becomes_5 : decode cX9_becomes 5 = .ok (.iaload, 1) := by decide +kernel
theorem dX9_becomes_6 : decode cX9_becomes 6 = .ok (.istore_n 3, 1) := by decide +kernel
theorem dX9_becomes_7 : decode cX9_becomes 7 = .ok (.aload_n 0, 1) := by decide +kernel
theorem dX9_becomes_8 : decode cX9_becomes 8 = .ok (.getfield 9, 3) := by decide +kernel
theorem dX9_becomes_11 : decode cX9_becomes 11 = .ok (.iload_n 1, 1) := by decide +kernel
theorem dX9_becomes_12 : decode cX9_becomes 12 = .ok (.iload_n 2, 1) := by decide +kernel
theorem dX9_becomes_13 : decode cX9_becomes 13 = .ok (.iastore, 1) := by decide +kernel
theorem dX9_becomes_14 : decode cX9_becomes 14 = .ok (.iload_n 3, 1) := by decide +kernel
theorem dX9_becomes_15 : decode cX9_becomes 15 = .ok (.ireturn, 1) := by decide +kernel
theorem dX9_isYard_0 : decode cX9_isYard 0 = .ok (.iload_n 0, 1) := by decide +kernel
theorem dX9_isYard_1 : decode cX9_isYard 1 = .ok (.i2l, 1) := by decide +kernel
theorem dX9_isYard_2 : decode cX9_isYard 2 = .ok (.lconst 0, 1) := by decide +kernel
theorem dX9_isYard_3 : decode cX9_isYard 3 = .ok (.ldc2_w 52, 3) := by decide +kernel
theorem dX9_isYard_6 : decode cX9_isYard 6 = .ok (.invokestatic 54, 3) := by decide +kernel
theorem dX9_isYard_9 : decode cX9_isYard 9 = .ok (.ireturn, 1) := by decide +kernel
theorem dX9_isPace_0 : decode cX9_isPace 0 = .ok (.iload_n 0, 1) := by decide +kernel
theorem dX9_isPace_1 : decode cX9_isPace 1 = .ok (.i2l, 1) := by decide +kernel
theorem dX9_isPace_2 : decode cX9_isPace 2 = .ok (.lconst 1, 1) := by decide +kernel
theorem dX9_isPace_3 : decode cX9_isPace 3 = .ok (.ldc2_w 58, 3) := by decide +kernel
theorem dX9_isPace_6 : decode cX9_isPace 6 = .ok (.invokestatic 54, 3) := by decide +kernel
theorem dX9_isPace_9 : decode cX9_isPace 9 = .ok (.ireturn, 1) := by decide +kernel
theorem dX9_isKind_0 : decode cX9_isKind 0 = .ok (.iload_n 0, 1) := by decide +kernel
theorem dX9_isKind_1 : decode cX9_isKind 1 = .ok (.i2l, 1) := by decide +kernel
theorem dX9_isKind_2 : decode cX9_isKind 2 = .ok (.lconst 0, 1) := by decide +kernel
theorem dX9_isKind_3 : decode cX9_isKind 3 = .ok (.ldc2_w 60, 3) := by decide +kernel
theorem dX9_isKind_6 : decode cX9_isKind 6 = .ok (.invokestatic 54, 3) := by decide +kernel
theorem dX9_isKind_9 : decode cX9_isKind 9 = .ok (.ireturn, 1) := by decide +kernel
theorem dX9_isRunner_0 : decode cX9_isRunner 0 = .ok (.iload_n 1, 1) := by decide +kernel
theorem dX9_isRunner_1 : decode cX9_isRunner 1 = .ok (.i2l, 1) := by decide +kernel
theorem dX9_isRunner_2 : decode cX9_isRunner 2 = .ok (.lconst 0, 1) := by decide +kernel
theorem dX9_isRunner_3 : decode cX9_isRunner 3 = .ok (.aload_n 0, 1) := by decide +kernel
theorem dX9_isRunner_4 : decode cX9_isRunner 4 = .ok (.getfield 9, 3) := by decide +kernel
theorem dX9_isRunner_7 : decode cX9_isRunner 7 = .ok (.iconst 2, 1) := by decide +kernel
theorem dX9_isRunner_8 : decode cX9_isRunner 8 = .ok (.iaload, 1) := by decide +kernel
theorem dX9_isRunner_9 : decode cX9_isRunner 9 = .ok (.iconst 1, 1) := by decide +kernel
theorem dX9_isRunner_10 : decode cX9_isRunner 10 = .ok (.isub, 1) := by decide +kernel
theorem dX9_isRunner_11 : decode cX9_isRunner 11 = .ok (.i2l, 1) := by decide +kernel
theorem dX9_isRunner_12 : decode cX9_isRunner 12 = .ok (.invokestatic 54, 3) := by decide +kernel
theorem dX9_isRunner_15 : decode cX9_isRunner 15 = .ok (.ireturn, 1) := by decide +kernel
theorem dX9_is_0 : decode cX9_is 0 = .ok (.aload_n 0, 1) := by decide +kernel
theorem dX9_is_1 : decode cX9_is 1 = .ok (.getfield 9, 3) := by decide +kernel
theorem dX9_is_4 : decode cX9_is 4 = .ok (.bipush 33, 2) := by decide +kernel
theorem dX9_is_6 : decode cX9_is 6 = .ok (.bipush 37, 2) := by decide +kernel
theorem dX9_is_8 : decode cX9_is 8 = .ok (.iload_n 1, 1) := by decide +kernel
theorem dX9_is_9 : decode cX9_is 9 = .ok (.imul, 1) := by decide +kernel
theorem dX9_is_10 : decode cX9_is 10 = .ok (.iadd, 1) := by decide +kernel
theorem dX9_is_11 : decode cX9_is 11 = .ok (.iload_n 2, 1) := by decide +kernel
theorem dX9_is_12 : decode cX9_is 12 = .ok (.iadd, 1) := by decide +kernel
theorem dX9_is_13 : decode cX9_is 13 = .ok (.iaload, 1) := by decide +kernel
theorem dX9_is_14 : decode cX9_is 14 = .ok (.ireturn, 1) := by decide +kernel
theorem dX9_makes_0 : decode cX9_makes 0 = .ok (.aload_n 0, 1) := by decide +kernel
theorem dX9_makes_1 : decode cX9_makes 1 = .ok (.getfield 9, 3) := by decide +kernel
theorem dX9_makes_4 : decode cX9_makes 4 = .ok (.bipush 33, 2) := by decide +kernel
theorem dX9_makes_6 : decode cX9_makes 6 = .ok (.bipush 37, 2) := by decide +kernel
theorem dX9_makes_8 : decode cX9_makes 8 = .ok (.iload_n 1, 1) := by decide +kernel
theorem dX9_makes_9 : decode cX9_makes 9 = .ok (.imul, 1) := by decide +kernel
theorem dX9_makes_10 : decode cX9_makes 10 = .ok (.iadd, 1) := by decide +kernel
theorem dX9_makes_11 : decode cX9_makes 11 = .ok (.iload_n 2, 1) := by decide +kernel
theorem dX9_makes_12 : decode cX9_makes 12 = .ok (.iadd, 1) := by decide +kernel
theorem dX9_makes_13 : decode cX9_makes 13 = .ok (.iload_n 3, 1) := by decide +kernel
theorem dX9_makes_14 : decode cX9_makes 14 = .ok (.iastore, 1) := by decide +kernel
theorem dX9_makes_15 : decode cX9_makes 15 = .ok (.return_, 1) := by decide +kernel
theorem dX9_isHome_0 : decode cX9_isHome 0 = .ok (.aload_n 0, 1) := by decide +kernel
theorem dX9_isHome_1 : decode cX9_isHome 1 = .ok (.iload_n 1, 1) := by decide +kernel
theorem dX9_isHome_2 : decode cX9_isHome 2 = .ok (.iconst 3, 1) := by decide +kernel
theorem dX9_isHome_3 : decode cX9_isHome 3 = .ok (.invokevirtual 62, 3) := by decide +kernel
theorem dX9_isHome_6 : decode cX9_isHome 6 = .ok (.bipush 30, 2) := by decide +kernel
theorem dX9_isHome_8 : decode cX9_isHome 8 = .ok (.if_icmp .ne 7, 3) := by decide +kernel
theorem dX9_isHome_11 : decode cX9_isHome 11 = .ok (.iconst 1, 1) := by decide +kernel
theorem dX9_isHome_12 : decode cX9_isHome 12 = .ok (.goto 4, 3) := by decide +kernel
theorem dX9_isHome_15 : decode cX9_isHome 15 = .ok (.iconst 0, 1) := by decide +kernel
theorem dX9_isHome_16 : decode cX9_isHome 16 = .ok (.ireturn, 1) := by decide +kernel
theorem dX9_ground_0 : decode cX9_ground 0 = .ok (.iload_n 1, 1) := by decide +kernel
theorem dX9_ground_1 : decode cX9_ground 1 = .ok (.invokestatic 66, 3) := by decide +kernel
theorem dX9_ground_4 : decode cX9_ground 4 = .ok (.ifCond .eq 26, 3) := by decide +kernel
theorem dX9_ground_7 : decode cX9_ground 7 = .ok (.iload_n 2, 1) := by decide +kernel
theorem dX9_ground_8 : decode cX9_ground 8 = .ok (.i2l, 1) := by decide +kernel
theorem dX9_ground_9 : decode cX9_ground 9 = .ok (.lconst 0, 1) := by decide +kernel
theorem dX9_ground_10 : decode cX9_ground 10 = .ok (.ldc2_w 70, 3) := by decide +kernel
theorem dX9_ground_13 : decode cX9_ground 13 = .ok (.invokestatic 54, 3) := by decide +kernel
theorem dX9_ground_16 : decode cX9_ground 16 = .ok (.ifCond .eq 14, 3) := by decide +kernel
theorem dX9_ground_19 : decode cX9_ground 19 = .ok (.aload_n 0, 1) := by decide +kernel
theorem dX9_ground_20 : decode cX9_ground 20 = .ok (.iconst 3, 1) := by decide +kernel
theorem dX9_ground_21 : decode cX9_ground 21 = .ok (.iload_n 1, 1) := by decide +kernel
theorem dX9_ground_22 : decode cX9_ground 22 = .ok (.iadd, 1) := by decide +kernel
theorem dX9_ground_23 : decode cX9_ground 23 = .ok (.iload_n 2, 1) := by decide +kernel
theorem dX9_ground_24 : decode cX9_ground 24 = .ok (.invokevirtual 72, 3) := by decide +kernel
theorem dX9_ground_27 : decode cX9_ground 27 = .ok (.goto 9, 3) := by decide +kernel
theorem dX9_ground_30 : decode cX9_ground 30 = .ok (.aload_n 0, 1) := by decide +kernel
theorem dX9_ground_31 : decode cX9_ground 31 = .ok (.ldc 46, 2) := by decide +kernel
theorem dX9_ground_33 : decode cX9_ground 33 = .ok (.invokevirtual 48, 3) := by decide +kernel
theorem dX9_ground_36 : decode cX9_ground 36 = .ok (.ireturn, 1) := by decide +kernel
theorem dX9_pick_0 : decode cX9_pick 0 = .ok (.iload_n 1, 1) := by decide +kernel
theorem dX9_pick_1 : decode cX9_pick 1 = .ok (.i2l, 1) := by decide +kernel
theorem dX9_pick_2 : decode cX9_pick 2 = .ok (.lconst 0, 1) := by decide +kernel
theorem dX9_pick_3 : decode cX9_pick 3 = .ok (.ldc2_w 75, 3) := by decide +kernel
theorem dX9_pick_6 : decode cX9_pick 6 = .ok (.invokestatic 54, 3) := by decide +kernel
theorem dX9_pick_9 : decode cX9_pick 9 = .ok (.ifCond .eq 12, 3) := by decide +kernel
theorem dX9_pick_12 : decode cX9_pick 12 = .ok (.aload_n 0, 1) := by decide +kernel
theorem dX9_pick_13 : decode cX9_pick 13 = .ok (.iconst 0, 1) := by decide +kernel
theorem dX9_pick_14 : decode cX9_pick 14 = .ok (.iload_n 1, 1) := by decide +kernel
theorem dX9_pick_15 : decode cX9_pick 15 = .ok (.invokevirtual 72, 3) := by decide +kernel
theorem dX9_pick_18 : decode cX9_pick 18 = .ok (.goto 9, 3) := by decide +kernel
theorem dX9_pick_21 : decode cX9_pick 21 = .ok (.aload_n 0, 1) := by decide +kernel
theorem dX9_pick_22 : decode cX9_pick 22 = .ok (.ldc 46, 2) := by decide +kernel
theorem dX9_pick_24 : decode cX9_pick 24 = .ok (.invokevirtual 48, 3) := by decide +kernel
theorem dX9_pick_27 : decode cX9_pick 27 = .ok (.ireturn, 1) := by decide +kernel
theorem dX9_comes_0 : decode cX9_comes 0 = .ok (.aload_n 0, 1) := by decide +kernel
theorem dX9_comes_1 : decode cX9_comes 1 = .ok (.getfield 9, 3) := by decide +kernel
theorem dX9_comes_4 : decode cX9_comes 4 = .ok (.iconst 2, 1) := by decide +kernel
theorem dX9_comes_5 : decode cX9_comes 5 = .ok (.iaload, 1) := by decide +kernel
theorem dX9_comes_6 : decode cX9_comes 6 = .ok (.istore 5, 2) := by decide +kernel
theorem dX9_comes_8 : decode cX9_comes 8 = .ok (.aload_n 0, 1) := by decide +kernel
theorem dX9_comes_9 : decode cX9_comes 9 = .ok (.getfield 9, 3) := by decide +kernel
theorem dX9_comes_12 : decode cX9_comes 12 = .ok (.iconst 2, 1) := by decide +kernel
theorem dX9_comes_13 : decode cX9_comes 13 = .ok (.dup2, 1) := by decide +kernel
theorem dX9_comes_14 : decode cX9_comes 14 = .ok (.iaload, 1) := by decide +kernel
theorem dX9_comes_15 : decode cX9_comes 15 = .ok (.iconst 1, 1) := by decide +kernel
theorem dX9_comes_16 : decode cX9_comes 16 = .ok (.iadd, 1) := by decide +kernel
theorem dX9_comes_17 : decode cX9_comes 17 = .ok (.iastore, 1) := by decide +kernel
theorem dX9_comes_18 : decode cX9_comes 18 = .ok (.iconst 0, 1) := by decide +kernel
theorem dX9_comes_19 : decode cX9_comes 19 = .ok (.istore 6, 2) := by decide +kernel
theorem dX9_comes_21 : decode cX9_comes 21 = .ok (.iload 6, 2) := by decide +kernel
theorem dX9_comes_23 : decode cX9_comes 23 = .ok (.bipush 37, 2) := by decide +kernel
theorem dX9_comes_25 : decode cX9_comes 25 = .ok (.if_icmp .ge 30, 3) := by decide +kernel
theorem dX9_comes_28 : decode cX9_comes 28 = .ok (.aload_n 0, 1) := by decide +kernel
theorem dX9_comes_29 : decode cX9_comes 29 = .ok (.iload 5, 2) := by decide +kernel
theorem dX9_comes_31 : decode cX9_comes 31 = .ok (.iload 6, 2) := by decide +kernel
theorem dX9_comes_33 : decode cX9_comes 33 = .ok (.iload 6, 2) := by decide +kernel
theorem dX9_comes_35 : decode cX9_comes 35 = .ok (.bipush 7, 2) := by decide +kernel
theorem dX9_comes_37 : decode cX9_comes 37 = .ok (.if_icmp .ge 7, 3) := by decide +kernel
theorem dX9_comes_40 : decode cX9_comes 40 = .ok (.iconst 0, 1) := by decide +kernel
theorem dX9_comes_41 : decode cX9_comes 41 = .ok (.goto 5, 3) := by decide +kernel
theorem dX9_comes_44 : decode cX9_comes 44 = .ok (.iload 4, 2) := by decide +kernel
theorem dX9_comes_46 : decode cX9_comes 46 = .ok (.invokevirtual 77, 3) := by decide +kernel
theorem dX9_comes_49 : decode cX9_comes 49 = .ok (.iinc 6 1, 3) := by decide +kernel
theorem dX9_comes_52 : decode cX9_comes 52 = .ok (.goto (-31), 3) := by decide +kernel
theorem dX9_comes_55 : decode cX9_comes 55 = .ok (.aload_n 0, 1) := by decide +kernel
theorem dX9_comes_56 : decode cX9_comes 56 = .ok (.iload 5, 2) := by decide +kernel
theorem dX9_comes_58 : decode cX9_comes 58 = .ok (.iconst 0, 1) := by decide +kernel
theorem dX9_comes_59 : decode cX9_comes 59 = .ok (.iload_n 1, 1) := by decide +kernel
theorem dX9_comes_60 : decode cX9_comes 60 = .ok (.invokevirtual 77, 3) := by decide +kernel
theorem dX9_comes_63 : decode cX9_comes 63 = .ok (.aload_n 0, 1) := by decide +kernel
theorem dX9_comes_64 : decode cX9_comes 64 = .ok (.iload 5, 2) := by decide +kernel
theorem dX9_comes_66 : decode cX9_comes 66 = .ok (.iconst 1, 1) := by decide +kernel
theorem dX9_comes_67 : decode cX9_comes 67 = .ok (.iload_n 2, 1) := by decide +kernel
theorem dX9_comes_68 : decode cX9_comes 68 = .ok (.invokevirtual 77, 3) := by decide +kernel
theorem dX9_comes_71 : decode cX9_comes 71 = .ok (.aload_n 0, 1) := by decide +kernel
theorem dX9_comes_72 : decode cX9_comes 72 = .ok (.iload 5, 2) := by decide +kernel
theorem dX9_comes_74 : decode cX9_comes 74 = .ok (.iconst 2, 1) := by decide +kernel
theorem dX9_comes_75 : decode cX9_comes 75 = .ok (.iload_n 3, 1) := by decide +kernel
theorem dX9_comes_76 : decode cX9_comes 76 = .ok (.invokevirtual 77, 3) := by decide +kernel
theorem dX9_comes_79 : decode cX9_comes 79 = .ok (.iload 5, 2) := by decide +kernel
theorem dX9_comes_81 : decode cX9_comes 81 = .ok (.ireturn, 1) := by decide +kernel
theorem dX9_runner_0 : decode cX9_runner 0 = .ok (.iload_n 1, 1) := by decide +kernel
theorem dX9_runner_1 : decode cX9_runner 1 = .ok (.invokestatic 81, 3) := by decide +kernel
theorem dX9_runner_4 : decode cX9_runner 4 = .ok (.ifCond .eq 27, 3) := by decide +kernel
theorem dX9_runner_7 : decode cX9_runner 7 = .ok (.iload_n 2, 1) := by decide +kernel
theorem dX9_runner_8 : decode cX9_runner 8 = .ok (.i2l, 1) := by decide +kernel
theorem dX9_runner_9 : decode cX9_runner 9 = .ok (.lconst 0, 1) := by decide +kernel
theorem dX9_runner_10 : decode cX9_runner 10 = .ok (.ldc2_w 58, 3) := by decide +kernel
theorem dX9_runner_13 : decode cX9_runner 13 = .ok (.invokestatic 54, 3) := by decide +kernel
theorem dX9_runner_16 : decode cX9_runner 16 = .ok (.ifCond .eq 15, 3) := by decide +kernel
theorem dX9_runner_19 : decode cX9_runner 19 = .ok (.iload_n 3, 1) := by decide +kernel
theorem dX9_runner_20 : decode cX9_runner 20 = .ok (.i2l, 1) := by decide +kernel
theorem dX9_runner_21 : decode cX9_runner 21 = .ok (.lconst 0, 1) := by decide +kernel
theorem dX9_runner_22 : decode cX9_runner 22 = .ok (.ldc2_w 84, 3) := by decide +kernel
theorem dX9_runner_25 : decode cX9_runner 25 = .ok (.invokestatic 54, 3) := by decide +kernel
theorem dX9_runner_28 : decode cX9_runner 28 = .ok (.ifCond .ne 10, 3) := by decide +kernel
theorem dX9_runner_31 : decode cX9_runner 31 = .ok (.aload_n 0, 1) := by decide +kernel
theorem dX9_runner_32 : decode cX9_runner 32 = .ok (.ldc 46, 2) := by decide +kernel
theorem dX9_runner_34 : decode cX9_runner 34 = .ok (.invokevirtual 48, 3) := by decide +kernel
theorem dX9_runner_37 : decode cX9_runner 37 = .ok (.ireturn, 1) := by decide +kernel
theorem dX9_runner_38 : decode cX9_runner 38 = .ok (.aload_n 0, 1) := by decide +kernel
theorem dX9_runner_39 : decode cX9_runner 39 = .ok (.getfield 9, 3) := by decide +kernel
theorem dX9_runner_42 : decode cX9_runner 42 = .ok (.iconst 2, 1) := by decide +kernel
theorem dX9_runner_43 : decode cX9_runner 43 = .ok (.iaload, 1) := by decide +kernel
theorem dX9_runner_44 : decode cX9_runner 44 = .ok (.bipush 6, 2) := by decide +kernel
theorem dX9_runner_46 : decode cX9_runner 46 = .ok (.if_icmp .ne 12, 3) := by decide +kernel
theorem dX9_runner_49 : decode cX9_runner 49 = .ok (.aload_n 0, 1) := by decide +kernel
theorem dX9_runner_50 : decode cX9_runner 50 = .ok (.ldc 86, 2) := by decide +kernel
theorem dX9_runner_52 : decode cX9_runner 52 = .ok (.invokevirtual 48, 3) := by decide +kernel
theorem dX9_runner_55 : decode cX9_runner 55 = .ok (.goto 11, 3) := by decide +kernel
theorem dX9_runner_58 : decode cX9_runner 58 = .ok (.aload_n 0, 1) := by decide +kernel
theorem dX9_runner_59 : decode cX9_runner 59 = .ok (.iload_n 1, 1) := by decide +kernel
theorem dX9_runner_60 : decode cX9_runner 60 = .ok (.iload_n 2, 1) := by decide +kernel
theorem dX9_runner_61 : decode cX9_runner 61 = .ok (.iload_n 3, 1) := by decide +kernel
theorem dX9_runner_62 : decode cX9_runner 62 = .ok (.iconst 4, 1) := by decide +kernel
theorem dX9_runner_63 : decode cX9_runner 63 = .ok (.invokevirtual 87, 3) := by decide +kernel
theorem dX9_runner_66 : decode cX9_runner 66 = .ok (.ireturn, 1) := by decide +kernel
theorem dX9_holds_0 : decode cX9_holds 0 = .ok (.aload_n 0, 1) := by decide +kernel
theorem dX9_holds_1 : decode cX9_holds 1 = .ok (.iload_n 1, 1) := by decide +kernel
theorem dX9_holds_2 : decode cX9_holds 2 = .ok (.iconst 1, 1) := by decide +kernel
theorem dX9_holds_3 : decode cX9_holds 3 = .ok (.invokevirtual 62, 3) := by decide +kernel
theorem dX9_holds_6 : decode cX9_holds 6 = .ok (.iconst 2, 1) := by decide +kernel
theorem dX9_holds_7 : decode cX9_holds 7 = .ok (.idiv, 1) := by decide +kernel
theorem dX9_holds_8 : decode cX9_holds 8 = .ok (.aload_n 0, 1) := by decide +kernel
theorem dX9_holds_9 : decode cX9_holds 9 = .ok (.iload_n 1, 1) := by decide +kernel
theorem dX9_holds_10 : decode cX9_holds 10 = .ok (.iconst 2, 1) := by decide +kernel
theorem dX9_holds_11 : decode cX9_holds 11 = .ok (.invokevirtual 62, 3) := by decide +kernel
theorem dX9_holds_14 : decode cX9_holds 14 = .ok (.iadd, 1) := by decide +kernel
theorem dX9_holds_15 : decode cX9_holds 15 = .ok (.istore_n 2, 1) := by decide +kernel
theorem dX9_holds_16 : decode cX9_holds 16 = .ok (.aload_n 0, 1) := by decide +kernel
theorem dX9_holds_17 : decode cX9_holds 17 = .ok (.iload_n 1, 1) := by decide +kernel
theorem dX9_holds_18 : decode cX9_holds 18 = .ok (.iconst 0, 1) := by decide +kernel
theorem dX9_holds_19 : decode cX9_holds 19 = .ok (.invokevirtual 62, 3) := by decide +kernel
theorem dX9_holds_22 : decode cX9_holds 22 = .ok (.tableswitch 51 1 6 #[38, 47, 51, 38, 42, 47], 38) := by decide +kernel
theorem dX9_holds_60 : decode cX9_holds 60 = .ok (.iload_n 2, 1) := by decide +kernel
theorem dX9_holds_61 : decode cX9_holds 61 = .ok (.iconst 2, 1) := by decide +kernel
theorem dX9_holds_62 : decode cX9_holds 62 = .ok (.iadd, 1) := by decide +kernel
theorem dX9_holds_63 : decode cX9_holds 63 = .ok (.ireturn, 1) := by decide +kernel
theorem dX9_holds_64 : decode cX9_holds 64 = .ok (.iload_n 2, 1) := by decide +kernel
theorem dX9_holds_65 : decode cX9_holds 65 = .ok (.bipush 11, 2) := by decide +kernel
theorem dX9_holds_67 : decode cX9_holds 67 = .ok (.iadd, 1) := by decide +kernel
theorem dX9_holds_68 : decode cX9_holds 68 = .ok (.ireturn, 1) := by decide +kernel
theorem dX9_holds_69 : decode cX9_holds 69 = .ok (.iload_n 2, 1) := by decide +kernel
theorem dX9_holds_70 : decode cX9_holds 70 = .ok (.iconst 3, 1) := by decide +kernel
theorem dX9_holds_71 : decode cX9_holds 71 = .ok (.iadd, 1) := by decide +kernel
theorem dX9_holds_72 : decode cX9_holds 72 = .ok (.ireturn, 1) := by decide +kernel
theorem dX9_holds_73 : decode cX9_holds 73 = .ok (.iload_n 2, 1) := by decide +kernel
theorem dX9_holds_74 : decode cX9_holds 74 = .ok (.ireturn, 1) := by decide +kernel
theorem dX9_of_0 : decode cX9_of 0 = .ok (.aload_n 0, 1) := by decide +kernel
theorem dX9_of_1 : decode cX9_of 1 = .ok (.iload_n 1, 1) := by decide +kernel
theorem dX9_of_2 : decode cX9_of 2 = .ok (.invokevirtual 91, 3) := by decide +kernel
theorem dX9_of_5 : decode cX9_of 5 = .ok (.ifCond .eq 15, 3) := by decide +kernel
theorem dX9_of_8 : decode cX9_of 8 = .ok (.iload_n 2, 1) := by decide +kernel
theorem dX9_of_9 : decode cX9_of 9 = .ok (.i2l, 1) := by decide +kernel
theorem dX9_of_10 : decode cX9_of 10 = .ok (.lconst 0, 1) := by decide +kernel
theorem dX9_of_11 : decode cX9_of 11 = .ok (.ldc2_w 94, 3) := by decide +kernel
theorem dX9_of_14 : decode cX9_of 14 = .ok (.invokestatic 54, 3) := by decide +kernel
theorem dX9_of_17 : decode cX9_of 17 = .ok (.ifCond .ne 10, 3) := by decide +kernel
theorem dX9_of_20 : decode cX9_of 20 = .ok (.aload_n 0, 1) := by decide +kernel
theorem dX9_of_21 : decode cX9_of 21 = .ok (.ldc 46, 2) := by decide +kernel
theorem dX9_of_23 : decode cX9_of 23 = .ok (.invokevirtual 48, 3) := by decide +kernel
theorem dX9_of_26 : decode cX9_of 26 = .ok (.ireturn, 1) := by decide +kernel
theorem dX9_of_27 : decode cX9_of 27 = .ok (.iload_n 2, 1) := by decide +kernel
theorem dX9_of_28 : decode cX9_of 28 = .ok (.bipush 7, 2) := by decide +kernel
theorem dX9_of_30 : decode cX9_of 30 = .ok (.if_icmp .ge 12, 3) := by decide +kernel
theorem dX9_of_33 : decode cX9_of 33 = .ok (.aload_n 0, 1) := by decide +kernel
theorem dX9_of_34 : decode cX9_of 34 = .ok (.iload_n 1, 1) := by decide +kernel
theorem dX9_of_35 : decode cX9_of 35 = .ok (.iload_n 2, 1) := by decide +kernel
theorem dX9_of_36 : decode cX9_of 36 = .ok (.invokevirtual 62, 3) := by decide +kernel
theorem dX9_of_39 : decode cX9_of 39 = .ok (.goto 8, 3) := by decide +kernel
theorem dX9_of_42 : decode cX9_of 42 = .ok (.aload_n 0, 1) := by decide +kernel
theorem dX9_of_43 : decode cX9_of 43 = .ok (.iload_n 1, 1) := by decide +kernel
theorem dX9_of_44 : decode cX9_of 44 = .ok (.invokevirtual 96, 3) := by decide +kernel
theorem dX9_of_47 : decode cX9_of 47 = .ok (.ireturn, 1) := by decide +kernel
theorem dX9_isPart_0 : decode cX9_isPart 0 = .ok (.iload_n 0, 1) := by decide +kernel
theorem dX9_isPart_1 : decode cX9_isPart 1 = .ok (.tableswitch 66 0 3 #[31, 36, 46, 56], 31) := by decide +kernel
theorem dX9_isPart_32 : decode cX9_isPart 32 = .ok (.iload_n 1, 1) := by decide +kernel
theorem dX9_isPart_33 : decode cX9_isPart 33 = .ok (.invokestatic 81, 3) := by decide +kernel
theorem dX9_isPart_36 : decode cX9_isPart 36 = .ok (.ireturn, 1) := by decide +kernel
theorem dX9_isPart_37 : decode cX9_isPart 37 = .ok (.iload_n 1, 1) := by decide +kernel
theorem dX9_isPart_38 : decode cX9_isPart 38 = .ok (.i2l, 1) := by decide +kernel
theorem dX9_isPart_39 : decode cX9_isPart 39 = .ok (.lconst 0, 1) := by decide +kernel
theorem dX9_isPart_40 : decode cX9_isPart 40 = .ok (.ldc2_w 58, 3) := by decide +kernel
theorem dX9_isPart_43 : decode cX9_isPart 43 = .ok (.invokestatic 54, 3) := by decide +kernel
theorem dX9_isPart_46 : decode cX9_isPart 46 = .ok (.ireturn, 1) := by decide +kernel
theorem dX9_isPart_47 : decode cX9_isPart 47 = .ok (.iload_n 1, 1) := by decide +kernel
theorem dX9_isPart_48 : decode cX9_isPart 48 = .ok (.i2l, 1) := by decide +kernel
theorem dX9_isPart_49 : decode cX9_isPart 49 = .ok (.lconst 0, 1) := by decide +kernel
theorem dX9_isPart_50 : decode cX9_isPart 50 = .ok (.ldc2_w 84, 3) := by decide +kernel
theorem dX9_isPart_53 : decode cX9_isPart 53 = .ok (.invokestatic 54, 3) := by decide +kernel
theorem dX9_isPart_56 : decode cX9_isPart 56 = .ok (.ireturn, 1) := by decide +kernel
theorem dX9_isPart_57 : decode cX9_isPart 57 = .ok (.iload_n 1, 1) := by decide +kernel
theorem dX9_isPart_58 : decode cX9_isPart 58 = .ok (.i2l, 1) := by decide +kernel
theorem dX9_isPart_59 : decode cX9_isPart 59 = .ok (.lconst 0, 1) := by decide +kernel
theorem dX9_isPart_60 : decode cX9_isPart 60 = .ok (.ldc2_w 99, 3) := by decide +kernel
theorem dX9_isPart_63 : decode cX9_isPart 63 = .ok (.invokestatic 54, 3) := by decide +kernel
theorem dX9_isPart_66 : decode cX9_isPart 66 = .ok (.ireturn, 1) := by decide +kernel
theorem dX9_isPart_67 : decode cX9_isPart 67 = .ok (.iload_n 0, 1) := by decide +kernel
theorem dX9_isPart_68 : decode cX9_isPart 68 = .ok (.iconst 5, 1) := by decide +kernel
theorem dX9_isPart_69 : decode cX9_isPart 69 = .ok (.if_icmp .ne 19, 3) := by decide +kernel
theorem dX9_isPart_72 : decode cX9_isPart 72 = .ok (.iload_n 1, 1) := by decide +kernel
theorem dX9_isPart_73 : decode cX9_isPart 73 = .ok (.i2l, 1) := by decide +kernel
theorem dX9_isPart_74 : decode cX9_isPart 74 = .ok (.lconst 0, 1) := by decide +kernel
theorem dX9_isPart_75 : decode cX9_isPart 75 = .ok (.ldc2_w 101, 3) := by decide +kernel
theorem dX9_isPart_78 : decode cX9_isPart 78 = .ok (.invokestatic 54, 3) := by decide +kernel
theorem dX9_isPart_81 : decode cX9_isPart 81 = .ok (.ifCond .eq 7, 3) := by decide +kernel
theorem dX9_isPart_84 : decode cX9_isPart 84 = .ok (.iconst 1, 1) := by decide +kernel
theorem dX9_isPart_85 : decode cX9_isPart 85 = .ok (.goto 4, 3) := by decide +kernel
theorem dX9_isPart_88 : decode cX9_isPart 88 = .ok (.iconst 0, 1) := by decide +kernel
theorem dX9_isPart_89 : decode cX9_isPart 89 = .ok (.ireturn, 1) := by decide +kernel
theorem dX9_change_0 : decode cX9_change 0 = .ok (.aload_n 0, 1) := by decide +kernel
theorem dX9_change_1 : decode cX9_change 1 = .ok (.iload_n 1, 1) := by decide +kernel
theorem dX9_change_2 : decode cX9_change 2 = .ok (.invokevirtual 91, 3) := by decide +kernel
theorem dX9_change_5 : decode cX9_change 5 = .ok (.ifCond .eq 28, 3) := by decide +kernel
theorem dX9_change_8 : decode cX9_change 8 = .ok (.iload_n 2, 1) := by decide +kernel
theorem dX9_change_9 : decode cX9_change 9 = .ok (.iload_n 3, 1) := by decide +kernel
theorem dX9_change_10 : decode cX9_change 10 = .ok (.invokestatic 103, 3) := by decide +kernel
theorem dX9_change_13 : decode cX9_change 13 = .ok (.ifCond .eq 20, 3) := by decide +kernel
theorem dX9_change_16 : decode cX9_change 16 = .ok (.aload_n 0, 1) := by decide +kernel
theorem dX9_change_17 : decode cX9_change 17 = .ok (.bipush 33, 2) := by decide +kernel
theorem dX9_change_19 : decode cX9_change 19 = .ok (.bipush 37, 2) := by decide +kernel
theorem dX9_change_21 : decode cX9_change 21 = .ok (.iload_n 1, 1) := by decide +kernel
theorem dX9_change_22 : decode cX9_change 22 = .ok (.imul, 1) := by decide +kernel
theorem dX9_change_23 : decode cX9_change 23 = .ok (.iadd, 1) := by decide +kernel
theorem dX9_change_24 : decode cX9_change 24 = .ok (.iload_n 2, 1) := by decide +kernel
theorem dX9_change_25 : decode cX9_change 25 = .ok (.iadd, 1) := by decide +kernel
theorem dX9_change_26 : decode cX9_change 26 = .ok (.iload_n 3, 1) := by decide +kernel
theorem dX9_change_27 : decode cX9_change 27 = .ok (.invokevirtual 72, 3) := by decide +kernel
theorem dX9_change_30 : decode cX9_change 30 = .ok (.goto 9, 3) := by decide +kernel
theorem dX9_change_33 : decode cX9_change 33 = .ok (.aload_n 0, 1) := by decide +kernel
theorem dX9_change_34 : decode cX9_change 34 = .ok (.ldc 46, 2) := by decide +kernel
theorem dX9_change_36 : decode cX9_change 36 = .ok (.invokevirtual 48, 3) := by decide +kernel
theorem dX9_change_39 : decode cX9_change 39 = .ok (.ireturn, 1) := by decide +kernel
theorem dX9_pace_0 : decode cX9_pace 0 = .ok (.aload_n 0, 1) := by decide +kernel
theorem dX9_pace_1 : decode cX9_pace 1 = .ok (.iload_n 1, 1) := by decide +kernel
theorem dX9_pace_2 : decode cX9_pace 2 = .ok (.invokevirtual 91, 3) := by decide +kernel
theorem dX9_pace_5 : decode cX9_pace 5 = .ok (.ifCond .eq 30, 3) := by decide +kernel
theorem dX9_pace_8 : decode cX9_pace 8 = .ok (.iload_n 2, 1) := by decide +kernel
theorem dX9_pace_9 : decode cX9_pace 9 = .ok (.invokestatic 66, 3) := by decide +kernel
theorem dX9_pace_12 : decode cX9_pace 12 = .ok (.ifCond .eq 23, 3) := by decide +kernel
theorem dX9_pace_15 : decode cX9_pace 15 = .ok (.iload_n 3, 1) := by decide +kernel
theorem dX9_pace_16 : decode cX9_pace 16 = .ok (.invokestatic 66, 3) := by decide +kernel
theorem dX9_pace_19 : decode cX9_pace 19 = .ok (.ifCond .eq 16, 3) := by decide +kernel
theorem dX9_pace_22 : decode cX9_pace 22 = .ok (.iload_n 2, 1) := by decide +kernel
theorem dX9_pace_23 : decode cX9_pace 23 = .ok (.iload_n 3, 1) := by decide +kernel
theorem dX9_pace_24 : decode cX9_pace 24 = .ok (.if_icmp .gt 11, 3) := by decide +kernel
theorem dX9_pace_27 : decode cX9_pace 27 = .ok (.iload 4, 2) := by decide +kernel
theorem dX9_pace_29 : decode cX9_pace 29 = .ok (.invokestatic 107, 3) := by decide +kernel
theorem dX9_pace_32 : decode cX9_pace 32 = .ok (.ifCond .ne 10, 3) := by decide +kernel
theorem dX9_pace_35 : decode cX9_pace 35 = .ok (.aload_n 0, 1) := by decide +kernel
theorem dX9_pace_36 : decode cX9_pace 36 = .ok (.ldc 46, 2) := by decide +kernel
theorem dX9_pace_38 : decode cX9_pace 38 = .ok (.invokevirtual 48, 3) := by decide +kernel
theorem dX9_pace_41 : decode cX9_pace 41 = .ok (.ireturn, 1) := by decide +kernel
theorem dX9_pace_42 : decode cX9_pace 42 = .ok (.iconst 0, 1) := by decide +kernel
theorem dX9_pace_43 : decode cX9_pace 43 = .ok (.istore 5, 2) := by decide +kernel
theorem dX9_pace_45 : decode cX9_pace 45 = .ok (.iload_n 2, 1) := by decide +kernel
theorem dX9_pace_46 : decode cX9_pace 46 = .ok (.istore 6, 2) := by decide +kernel
theorem dX9_pace_48 : decode cX9_pace 48 = .ok (.iload 6, 2) := by decide +kernel
theorem dX9_pace_50 : decode cX9_pace 50 = .ok (.iload_n 3, 1) := by decide +kernel
theorem dX9_pace_51 : decode cX9_pace 51 = .ok (.if_icmp .gt 43, 3) := by decide +kernel
theorem dX9_pace_54 : decode cX9_pace 54 = .ok (.iload 5, 2) := by decide +kernel
theorem dX9_pace_56 : decode cX9_pace 56 = .ok (.aload_n 0, 1) := by decide +kernel
theorem dX9_pace_57 : decode cX9_pace 57 = .ok (.bipush 33, 2) := by decide +kernel
theorem dX9_pace_59 : decode cX9_pace 59 = .ok (.bipush 37, 2) := by decide +kernel
theorem dX9_pace_61 : decode cX9_pace 61 = .ok (.iload_n 1, 1) := by decide +kernel
theorem dX9_pace_62 : decode cX9_pace 62 = .ok (.imul, 1) := by decide +kernel
theorem dX9_pace_63 : decode cX9_pace 63 = .ok (.iadd, 1) := by decide +kernel
theorem dX9_pace_64 : decode cX9_pace 64 = .ok (.bipush 7, 2) := by decide +kernel
theorem dX9_pace_66 : decode cX9_pace 66 = .ok (.iadd, 1) := by decide +kernel
theorem dX9_pace_67 : decode cX9_pace 67 = .ok (.iload 6, 2) := by decide +kernel
theorem dX9_pace_69 : decode cX9_pace 69 = .ok (.iadd, 1) := by decide +kernel
theorem dX9_pace_70 : decode cX9_pace 70 = .ok (.iload 4, 2) := by decide +kernel
theorem dX9_pace_72 : decode cX9_pace 72 = .ok (.invokevirtual 72, 3) := by decide +kernel
theorem dX9_pace_75 : decode cX9_pace 75 = .ok (.iload 4, 2) := by decide +kernel
theorem dX9_pace_77 : decode cX9_pace 77 = .ok (.if_icmp .ne 7, 3) := by decide +kernel
theorem dX9_pace_80 : decode cX9_pace 80 = .ok (.iconst 0, 1) := by decide +kernel
theorem dX9_pace_81 : decode cX9_pace 81 = .ok (.goto 4, 3) := by decide +kernel
theorem dX9_pace_84 : decode cX9_pace 84 = .ok (.iconst 1, 1) := by decide +kernel
theorem dX9_pace_85 : decode cX9_pace 85 = .ok (.iadd, 1) := by decide +kernel
theorem dX9_pace_86 : decode cX9_pace 86 = .ok (.istore 5, 2) := by decide +kernel
theorem dX9_pace_88 : decode cX9_pace 88 = .ok (.iinc 6 1, 3) := by decide +kernel
theorem dX9_pace_91 : decode cX9_pace 91 = .ok (.goto (-43), 3) := by decide +kernel
theorem dX9_pace_94 : decode cX9_pace 94 = .ok (.iload 5, 2) := by decide +kernel
theorem dX9_pace_96 : decode cX9_pace 96 = .ok (.ireturn, 1) := by decide +kernel
theorem dX9_paceAt_0 : decode cX9_paceAt 0 = .ok (.aload_n 0, 1) := by decide +kernel
theorem dX9_paceAt_1 : decode cX9_paceAt 1 = .ok (.iload_n 1, 1) := by decide +kernel
theorem dX9_paceAt_2 : decode cX9_paceAt 2 = .ok (.bipush 7, 2) := by decide +kernel
theorem dX9_paceAt_4 : decode cX9_paceAt 4 = .ok (.iload_n 2, 1) := by decide +kernel
theorem dX9_paceAt_5 : decode cX9_paceAt 5 = .ok (.iadd, 1) := by decide +kernel
theorem dX9_paceAt_6 : decode cX9_paceAt 6 = .ok (.invokevirtual 62, 3) := by decide +kernel
theorem dX9_paceAt_9 : decode cX9_paceAt 9 = .ok (.ireturn, 1) := by decide +kernel
theorem dX9_paceOf_0 : decode cX9_paceOf 0 = .ok (.aload_n 0, 1) := by decide +kernel
theorem dX9_paceOf_1 : decode cX9_paceOf 1 = .ok (.iload_n 1, 1) := by decide +kernel
theorem dX9_paceOf_2 : decode cX9_paceOf 2 = .ok (.invokevirtual 91, 3) := by decide +kernel
theorem dX9_paceOf_5 : decode cX9_paceOf 5 = .ok (.ifCond .eq 19, 3) := by decide +kernel
theorem dX9_paceOf_8 : decode cX9_paceOf 8 = .ok (.iload_n 2, 1) := by decide +kernel
theorem dX9_paceOf_9 : decode cX9_paceOf 9 = .ok (.invokestatic 66, 3) := by decide +kernel
theorem dX9_paceOf_12 : decode cX9_paceOf 12 = .ok (.ifCond .eq 12, 3) := by decide +kernel
theorem dX9_paceOf_15 : decode cX9_paceOf 15 = .ok (.aload_n 0, 1) := by decide +kernel
theorem dX9_paceOf_16 : decode cX9_paceOf 16 = .ok (.iload_n 1, 1) := by decide +kernel
theorem dX9_paceOf_17 : decode cX9_paceOf 17 = .ok (.iload_n 2, 1) := by decide +kernel
theorem dX9_paceOf_18 : decode cX9_paceOf 18 = .ok (.invokevirtual 110, 3) := by decide +kernel
theorem dX9_paceOf_21 : decode cX9_paceOf 21 = .ok (.goto 9, 3) := by decide +kernel
theorem dX9_paceOf_24 : decode cX9_paceOf 24 = .ok (.aload_n 0, 1) := by decide +kernel
theorem dX9_paceOf_25 : decode cX9_paceOf 25 = .ok (.ldc 46, 2) := by decide +kernel
theorem dX9_paceOf_27 : decode cX9_paceOf 27 = .ok (.invokevirtual 48, 3) := by decide +kernel
theorem dX9_paceOf_30 : decode cX9_paceOf 30 = .ok (.ireturn, 1) := by decide +kernel
theorem dX9_takes_0 : decode cX9_takes 0 = .ok (.aload_n 0, 1) := by decide +kernel
theorem dX9_takes_1 : decode cX9_takes 1 = .ok (.iload_n 1, 1) := by decide +kernel
theorem dX9_takes_2 : decode cX9_takes 2 = .ok (.iconst 0, 1) := by decide +kernel
theorem dX9_takes_3 : decode cX9_takes 3 = .ok (.invokevirtual 62, 3) := by decide +kernel
theorem dX9_takes_6 : decode cX9_takes 6 = .ok (.istore_n 3, 1) := by decide +kernel
theorem dX9_takes_7 : decode cX9_takes 7 = .ok (.iload_n 3, 1) := by decide +kernel
theorem dX9_takes_8 : decode cX9_takes 8 = .ok (.iconst 3, 1) := by decide +kernel
theorem dX9_takes_9 : decode cX9_takes 9 = .ok (.if_icmp .ne 8, 3) := by decide +kernel
theorem dX9_takes_12 : decode cX9_takes 12 = .ok (.bipush 11, 2) := by decide +kernel
theorem dX9_takes_14 : decode cX9_takes 14 = .ok (.goto 16, 3) := by decide +kernel
theorem dX9_takes_17 : decode cX9_takes 17 = .ok (.iload_n 3, 1) := by decide +kernel
theorem dX9_takes_18 : decode cX9_takes 18 = .ok (.bipush 6, 2) := by decide +kernel
theorem dX9_takes_20 : decode cX9_takes 20 = .ok (.if_icmp .ne 8, 3) := by decide +kernel
theorem dX9_takes_23 : decode cX9_takes 23 = .ok (.bipush 15, 2) := by decide +kernel
theorem dX9_takes_25 : decode cX9_takes 25 = .ok (.goto 5, 3) := by decide +kernel
theorem dX9_takes_28 : decode cX9_takes 28 = .ok (.bipush 12, 2) := by decide +kernel
theorem dX9_takes_30 : decode cX9_takes 30 = .ok (.iload_n 2, 1) := by decide +kernel
theorem dX9_takes_31 : decode cX9_takes 31 = .ok (.isub, 1) := by decide +kernel
theorem dX9_takes_32 : decode cX9_takes 32 = .ok (.ireturn, 1) := by decide +kernel
theorem dX9_rocks_0 : decode cX9_rocks 0 = .ok (.aload_n 0, 1) := by decide +kernel
theorem dX9_rocks_1 : decode cX9_rocks 1 = .ok (.iload_n 1, 1) := by decide +kernel
theorem dX9_rocks_2 : decode cX9_rocks 2 = .ok (.iconst 0, 1) := by decide +kernel
theorem dX9_rocks_3 : decode cX9_rocks 3 = .ok (.invokevirtual 62, 3) := by decide +kernel
theorem dX9_rocks_6 : decode cX9_rocks 6 = .ok (.istore_n 3, 1) := by decide +kernel
theorem dX9_rocks_7 : decode cX9_rocks 7 = .ok (.iload_n 2, 1) := by decide +kernel
theorem dX9_rocks_8 : decode cX9_rocks 8 = .ok (.tableswitch 78 1 7 #[44, 44, 50, 50, 78, 56, 72], 44) := by decide +kernel
theorem dX9_rocks_52 : decode cX9_rocks 52 = .ok (.iconst 1, 1) := by decide +kernel
theorem dX9_rocks_53 : decode cX9_rocks 53 = .ok (.istore 4, 2) := by decide +kernel
theorem dX9_rocks_55 : decode cX9_rocks 55 = .ok (.goto 34, 3) := by decide +kernel
theorem dX9_rocks_58 : decode cX9_rocks 58 = .ok (.iconst 2, 1) := by decide +kernel
theorem dX9_rocks_59 : decode cX9_rocks 59 = .ok (.istore 4, 2) := by decide +kernel
theorem dX9_rocks_61 : decode cX9_rocks 61 = .ok (.goto 28, 3) := by decide +kernel
theorem dX9_rocks_64 : decode cX9_rocks 64 = .ok (.iload_n 3, 1) := by decide +kernel
theorem dX9_rocks_65 : decode cX9_rocks 65 = .ok (.iconst 4, 1) := by decide +kernel
theorem dX9_rocks_66 : decode cX9_rocks 66 = .ok (.if_icmp .ne 7, 3) := by decide +kernel
theorem dX9_rocks_69 : decode cX9_rocks 69 = .ok (.iconst 2, 1) := by decide +kernel
theorem dX9_rocks_70 : decode cX9_rocks 70 = .ok (.goto 5, 3) := by decide +kernel
theorem dX9_rocks_73 : decode cX9_rocks 73 = .ok (.bipush 6, 2) := by decide +kernel
theorem dX9_rocks_75 : decode cX9_rocks 75 = .ok (.istore 4, 2) := by decide +kernel
theorem dX9_rocks_77 : decode cX9_rocks 77 = .ok (.goto 12, 3) := by decide +kernel
theorem dX9_rocks_80 : decode cX9_rocks 80 = .ok (.iconst 5, 1) := by decide +kernel
theorem dX9_rocks_81 : decode cX9_rocks 81 = .ok (.istore 4, 2) := by decide +kernel
theorem dX9_rocks_83 : decode cX9_rocks 83 = .ok (.goto 6, 3) := by decide +kernel
theorem dX9_rocks_86 : decode cX9_rocks 86 = .ok (.iconst 3, 1) := by decide +kernel
theorem dX9_rocks_87 : decode cX9_rocks 87 = .ok (.istore 4, 2) := by decide +kernel
theorem dX9_rocks_89 : decode cX9_rocks 89 = .ok (.iload_n 3, 1) := by decide +kernel
theorem dX9_rocks_90 : decode cX9_rocks 90 = .ok (.iconst 3, 1) := by decide +kernel
theorem dX9_rocks_91 : decode cX9_rocks 91 = .ok (.if_icmp .ne 10, 3) := by decide +kernel
theorem dX9_rocks_94 : decode cX9_rocks 94 = .ok (.iload 4, 2) := by decide +kernel
theorem dX9_rocks_96 : decode cX9_rocks 96 = .ok (.iconst 1, 1) := by decide +kernel
theorem dX9_rocks_97 : decode cX9_rocks 97 = .ok (.iadd, 1) := by decide +kernel
theorem dX9_rocks_98 : decode cX9_rocks 98 = .ok (.goto 5, 3) := by decide +kernel
theorem dX9_rocks_101 : decode cX9_rocks 101 = .ok (.iload 4, 2) := by decide +kernel
theorem dX9_rocks_103 : decode cX9_rocks 103 = .ok (.ireturn, 1) := by decide +kernel
theorem dX9_hurts_0 : decode cX9_hurts 0 = .ok (.aload_n 0, 1) := by decide +kernel
theorem dX9_hurts_1 : decode cX9_hurts 1 = .ok (.getfield 9, 3) := by decide +kernel
theorem dX9_hurts_4 : decode cX9_hurts 4 = .ok (.iconst 3, 1) := by decide +kernel
theorem dX9_hurts_5 : decode cX9_hurts 5 = .ok (.iload_n 2, 1) := by decide +kernel
theorem dX9_hurts_6 : decode cX9_hurts 6 = .ok (.iadd, 1) := by decide +kernel
theorem dX9_hurts_7 : decode cX9_hurts 7 = .ok (.iaload, 1) := by decide +kernel
theorem dX9_hurts_8 : decode cX9_hurts 8 = .ok (.istore_n 3, 1) := by decide +kernel
theorem dX9_hurts_9 : decode cX9_hurts 9 = .ok (.iload_n 3, 1) := by decide +kernel
theorem dX9_hurts_10 : decode cX9_hurts 10 = .ok (.ifCond .ne 7, 3) := by decide +kernel
theorem dX9_hurts_13 : decode cX9_hurts 13 = .ok (.iconst 0, 1) := by decide +kernel
theorem dX9_hurts_14 : decode cX9_hurts 14 = .ok (.goto 22, 3) := by decide +kernel
theorem dX9_hurts_17 : decode cX9_hurts 17 = .ok (.iload_n 3, 1) := by decide +kernel
theorem dX9_hurts_18 : decode cX9_hurts 18 = .ok (.iconst 2, 1) := by decide +kernel
theorem dX9_hurts_19 : decode cX9_hurts 19 = .ok (.if_icmp .ne 7, 3) := by decide +kernel
theorem dX9_hurts_22 : decode cX9_hurts 22 = .ok (.iconst 4, 1) := by decide +kernel
theorem dX9_hurts_23 : decode cX9_hurts 23 = .ok (.goto 13, 3) := by decide +kernel
theorem dX9_hurts_26 : decode cX9_hurts 26 = .ok (.iload_n 3, 1) := by decide +kernel
theorem dX9_hurts_27 : decode cX9_hurts 27 = .ok (.iconst 3, 1) := by decide +kernel
theorem dX9_hurts_28 : decode cX9_hurts 28 = .ok (.if_icmp .ne 7, 3) := by decide +kernel
theorem dX9_hurts_31 : decode cX9_hurts 31 = .ok (.iconst 2, 1) := by decide +kernel
theorem dX9_hurts_32 : decode cX9_hurts 32 = .ok (.goto 4, 3) := by decide +kernel
theorem dX9_hurts_35 : decode cX9_hurts 35 = .ok (.iconst 3, 1) := by decide +kernel
theorem dX9_hurts_36 : decode cX9_hurts 36 = .ok (.istore 4, 2) := by decide +kernel
theorem dX9_hurts_38 : decode cX9_hurts 38 = .ok (.aload_n 0, 1) := by decide +kernel
theorem dX9_hurts_39 : decode cX9_hurts 39 = .ok (.iload_n 1, 1) := by decide +kernel
theorem dX9_hurts_40 : decode cX9_hurts 40 = .ok (.iconst 0, 1) := by decide +kernel
theorem dX9_hurts_41 : decode cX9_hurts 41 = .ok (.invokevirtual 62, 3) := by decide +kernel
theorem dX9_hurts_44 : decode cX9_hurts 44 = .ok (.iconst 2, 1) := by decide +kernel
theorem dX9_hurts_45 : decode cX9_hurts 45 = .ok (.if_icmp .eq 14, 3) := by decide +kernel
theorem dX9_hurts_48 : decode cX9_hurts 48 = .ok (.aload_n 0, 1) := by decide +kernel
theorem dX9_hurts_49 : decode cX9_hurts 49 = .ok (.iload_n 1, 1) := by decide +kernel
theorem dX9_hurts_50 : decode cX9_hurts 50 = .ok (.iconst 0, 1) := by decide +kernel
theorem dX9_hurts_51 : decode cX9_hurts 51 = .ok (.invokevirtual 62, 3) := by decide +kernel
theorem dX9_hurts_54 : decode cX9_hurts 54 = .ok (.bipush 6, 2) := by decide +kernel
theorem dX9_hurts_56 : decode cX9_hurts 56 = .ok (.if_icmp .ne 10, 3) := by decide +kernel
theorem dX9_hurts_59 : decode cX9_hurts 59 = .ok (.iconst 2, 1) := by decide +kernel
theorem dX9_hurts_60 : decode cX9_hurts 60 = .ok (.iload 4, 2) := by decide +kernel
theorem dX9_hurts_62 : decode cX9_hurts 62 = .ok (.imul, 1) := by decide +kernel
theorem dX9_hurts_63 : decode cX9_hurts 63 = .ok (.goto 5, 3) := by decide +kernel
theorem dX9_hurts_66 : decode cX9_hurts 66 = .ok (.iload 4, 2) := by decide +kernel
theorem dX9_hurts_68 : decode cX9_hurts 68 = .ok (.ireturn, 1) := by decide +kernel
theorem dX9_oddsBy_0 : decode cX9_oddsBy 0 = .ok (.aload_n 0, 1) := by decide +kernel
theorem dX9_oddsBy_1 : decode cX9_oddsBy 1 = .ok (.iload_n 1, 1) := by decide +kernel
theorem dX9_oddsBy_2 : decode cX9_oddsBy 2 = .ok (.iload_n 3, 1) := by decide +kernel
theorem dX9_oddsBy_3 : decode cX9_oddsBy 3 = .ok (.invokevirtual 113, 3) := by decide +kernel
theorem dX9_oddsBy_6 : decode cX9_oddsBy 6 = .ok (.aload_n 0, 1) := by decide +kernel
theorem dX9_oddsBy_7 : decode cX9_oddsBy 7 = .ok (.iload_n 1, 1) := by decide +kernel
theorem dX9_oddsBy_8 : decode cX9_oddsBy 8 = .ok (.iload_n 2, 1) := by decide +kernel
theorem dX9_oddsBy_9 : decode cX9_oddsBy 9 = .ok (.invokevirtual 116, 3) := by decide +kernel
theorem dX9_oddsBy_12 : decode cX9_oddsBy 12 = .ok (.iadd, 1) := by decide +kernel
theorem dX9_oddsBy_13 : decode cX9_oddsBy 13 = .ok (.iload 4, 2) := by decide +kernel
theorem dX9_oddsBy_15 : decode cX9_oddsBy 15 = .ok (.ifCond .eq 7, 3) := by decide +kernel
theorem dX9_oddsBy_18 : decode cX9_oddsBy 18 = .ok (.iconst 3, 1) := by decide +kernel
theorem dX9_oddsBy_19 : decode cX9_oddsBy 19 = .ok (.goto 4, 3) := by decide +kernel
theorem dX9_oddsBy_22 : decode cX9_oddsBy 22 = .ok (.iconst 0, 1) := by decide +kernel
theorem dX9_oddsBy_23 : decode cX9_oddsBy 23 = .ok (.iadd, 1) := by decide +kernel
theorem dX9_oddsBy_24 : decode cX9_oddsBy 24 = .ok (.iload 5, 2) := by decide +kernel
theorem dX9_oddsBy_26 : decode cX9_oddsBy 26 = .ok (.iadd, 1) := by decide +kernel
theorem dX9_oddsBy_27 : decode cX9_oddsBy 27 = .ok (.aload_n 0, 1) := by decide +kernel
theorem dX9_oddsBy_28 : decode cX9_oddsBy 28 = .ok (.iload_n 1, 1) := by decide +kernel
theorem dX9_oddsBy_29 : decode cX9_oddsBy 29 = .ok (.invokevirtual 96, 3) := by decide +kernel
theorem dX9_oddsBy_32 : decode cX9_oddsBy 32 = .ok (.isub, 1) := by decide +kernel
theorem dX9_oddsBy_33 : decode cX9_oddsBy 33 = .ok (.istore 6, 2) := by decide +kernel
theorem dX9_oddsBy_35 : decode cX9_oddsBy 35 = .ok (.iload 6, 2) := by decide +kernel
theorem dX9_oddsBy_37 : decode cX9_oddsBy 37 = .ok (.ifCond .ge 7, 3) := by decide +kernel
theorem dX9_oddsBy_40 : decode cX9_oddsBy 40 = .ok (.iconst 0, 1) := by decide +kernel
theorem dX9_oddsBy_41 : decode cX9_oddsBy 41 = .ok (.goto 17, 3) := by decide +kernel
theorem dX9_oddsBy_44 : decode cX9_oddsBy 44 = .ok (.iload 6, 2) := by decide +kernel
theorem dX9_oddsBy_46 : decode cX9_oddsBy 46 = .ok (.bipush 23, 2) := by decide +kernel
theorem dX9_oddsBy_48 : decode cX9_oddsBy 48 = .ok (.if_icmp .le 8, 3) := by decide +kernel
theorem dX9_oddsBy_51 : decode cX9_oddsBy 51 = .ok (.bipush 23, 2) := by decide +kernel
theorem dX9_oddsBy_53 : decode cX9_oddsBy 53 = .ok (.goto 5, 3) := by decide +kernel
theorem dX9_oddsBy_56 : decode cX9_oddsBy 56 = .ok (.iload 6, 2) := by decide +kernel
theorem dX9_oddsBy_58 : decode cX9_oddsBy 58 = .ok (.ireturn, 1) := by decide +kernel
theorem dX9_told_0 : decode cX9_told 0 = .ok (.aload_n 0, 1) := by decide +kernel
theorem dX9_told_1 : decode cX9_told 1 = .ok (.iload_n 1, 1) := by decide +kernel
theorem dX9_told_2 : decode cX9_told 2 = .ok (.invokevirtual 91, 3) := by decide +kernel
theorem dX9_told_5 : decode cX9_told 5 = .ok (.ifCond .eq 20, 3) := by decide +kernel
theorem dX9_told_8 : decode cX9_told 8 = .ok (.iload_n 2, 1) := by decide +kernel
theorem dX9_told_9 : decode cX9_told 9 = .ok (.i2l, 1) := by decide +kernel
theorem dX9_told_10 : decode cX9_told 10 = .ok (.lconst 0, 1) := by decide +kernel
theorem dX9_told_11 : decode cX9_told 11 = .ok (.lconst 1, 1) := by decide +kernel
theorem dX9_told_12 : decode cX9_told 12 = .ok (.invokestatic 54, 3) := by decide +kernel
theorem dX9_told_15 : decode cX9_told 15 = .ok (.ifCond .eq 10, 3) := by decide +kernel
theorem dX9_told_18 : decode cX9_told 18 = .ok (.iload_n 3, 1) := by decide +kernel
theorem dX9_told_19 : decode cX9_told 19 = .ok (.invokestatic 107, 3) := by decide +kernel
theorem dX9_told_22 : decode cX9_told 22 = .ok (.ifCond .ne 10, 3) := by decide +kernel
theorem dX9_told_25 : decode cX9_told 25 = .ok (.aload_n 0, 1) := by decide +kernel
theorem dX9_told_26 : decode cX9_told 26 = .ok (.ldc 46, 2) := by decide +kernel
theorem dX9_told_28 : decode cX9_told 28 = .ok (.invokevirtual 48, 3) := by decide +kernel
theorem dX9_told_31 : decode cX9_told 31 = .ok (.ireturn, 1) := by decide +kernel
theorem dX9_told_32 : decode cX9_told 32 = .ok (.iload_n 2, 1) := by decide +kernel
theorem dX9_told_33 : decode cX9_told 33 = .ok (.ifCond .ne 12, 3) := by decide +kernel
theorem dX9_told_36 : decode cX9_told 36 = .ok (.aload_n 0, 1) := by decide +kernel
theorem dX9_told_37 : decode cX9_told 37 = .ok (.iload_n 1, 1) := by decide +kernel
theorem dX9_told_38 : decode cX9_told 38 = .ok (.iload_n 3, 1) := by decide +kernel
theorem dX9_told_39 : decode cX9_told 39 = .ok (.invokevirtual 119, 3) := by decide +kernel
theorem dX9_told_42 : decode cX9_told 42 = .ok (.goto 9, 3) := by decide +kernel
theorem dX9_told_45 : decode cX9_told 45 = .ok (.aload_n 0, 1) := by decide +kernel
theorem dX9_told_46 : decode cX9_told 46 = .ok (.iload_n 1, 1) := by decide +kernel
theorem dX9_told_47 : decode cX9_told 47 = .ok (.iload_n 3, 1) := by decide +kernel
theorem dX9_told_48 : decode cX9_told 48 = .ok (.invokevirtual 113, 3) := by decide +kernel
theorem dX9_told_51 : decode cX9_told 51 = .ok (.ireturn, 1) := by decide +kernel
theorem dX9_odds_0 : decode cX9_odds 0 = .ok (.aload_n 0, 1) := by decide +kernel
theorem dX9_odds_1 : decode cX9_odds 1 = .ok (.iload_n 1, 1) := by decide +kernel
theorem dX9_odds_2 : decode cX9_odds 2 = .ok (.invokevirtual 91, 3) := by decide +kernel
theorem dX9_odds_5 : decode cX9_odds 5 = .ok (.ifCond .eq 28, 3) := by decide +kernel
theorem dX9_odds_8 : decode cX9_odds 8 = .ok (.iload_n 2, 1) := by decide +kernel
theorem dX9_odds_9 : decode cX9_odds 9 = .ok (.invokestatic 66, 3) := by decide +kernel
theorem dX9_odds_12 : decode cX9_odds 12 = .ok (.ifCond .eq 21, 3) := by decide +kernel
theorem dX9_odds_15 : decode cX9_odds 15 = .ok (.iload_n 3, 1) := by decide +kernel
theorem dX9_odds_16 : decode cX9_odds 16 = .ok (.invokestatic 107, 3) := by decide +kernel
theorem dX9_odds_19 : decode cX9_odds 19 = .ok (.ifCond .eq 14, 3) := by decide +kernel
theorem dX9_odds_22 : decode cX9_odds 22 = .ok (.iload 4, 2) := by decide +kernel
theorem dX9_odds_24 : decode cX9_odds 24 = .ok (.i2l, 1) := by decide +kernel
theorem dX9_odds_25 : decode cX9_odds 25 = .ok (.lconst 0, 1) := by decide +kernel
theorem dX9_odds_26 : decode cX9_odds 26 = .ok (.lconst 1, 1) := by decide +kernel
theorem dX9_odds_27 : decode cX9_odds 27 = .ok (.invokestatic 54, 3) := by decide +kernel
theorem dX9_odds_30 : decode cX9_odds 30 = .ok (.ifCond .ne 10, 3) := by decide +kernel
theorem dX9_odds_33 : decode cX9_odds 33 = .ok (.aload_n 0, 1) := by decide +kernel
theorem dX9_odds_34 : decode cX9_odds 34 = .ok (.ldc 46, 2) := by decide +kernel
theorem dX9_odds_36 : decode cX9_odds 36 = .ok (.invokevirtual 48, 3) := by decide +kernel
theorem dX9_odds_39 : decode cX9_odds 39 = .ok (.ireturn, 1) := by decide +kernel
theorem dX9_odds_40 : decode cX9_odds 40 = .ok (.aload_n 0, 1) := by decide +kernel
theorem dX9_odds_41 : decode cX9_odds 41 = .ok (.iload_n 1, 1) := by decide +kernel
theorem dX9_odds_42 : decode cX9_odds 42 = .ok (.iload_n 2, 1) := by decide +kernel
theorem dX9_odds_43 : decode cX9_odds 43 = .ok (.iload_n 3, 1) := by decide +kernel
theorem dX9_odds_44 : decode cX9_odds 44 = .ok (.iload 4, 2) := by decide +kernel
theorem dX9_odds_46 : decode cX9_odds 46 = .ok (.iconst 1, 1) := by decide +kernel
theorem dX9_odds_47 : decode cX9_odds 47 = .ok (.if_icmp .ne 7, 3) := by decide +kernel
theorem dX9_odds_50 : decode cX9_odds 50 = .ok (.iconst 1, 1) := by decide +kernel
theorem dX9_odds_51 : decode cX9_odds 51 = .ok (.goto 4, 3) := by decide +kernel
theorem dX9_odds_54 : decode cX9_odds 54 = .ok (.iconst 0, 1) := by decide +kernel
theorem dX9_odds_55 : decode cX9_odds 55 = .ok (.iconst 0, 1) := by decide +kernel
theorem dX9_odds_56 : decode cX9_odds 56 = .ok (.invokevirtual 122, 3) := by decide +kernel
theorem dX9_odds_59 : decode cX9_odds 59 = .ok (.ireturn, 1) := by decide +kernel
theorem dX9_nervesOf_0 : decode cX9_nervesOf 0 = .ok (.iconst 0, 1) := by decide +kernel
theorem dX9_nervesOf_1 : decode cX9_nervesOf 1 = .ok (.istore_n 2, 1) := by decide +kernel
theorem dX9_nervesOf_2 : decode cX9_nervesOf 2 = .ok (.iconst 0, 1) := by decide +kernel
theorem dX9_nervesOf_3 : decode cX9_nervesOf 3 = .ok (.istore_n 3, 1) := by decide +kernel
theorem dX9_nervesOf_4 : decode cX9_nervesOf 4 = .ok (.iload_n 3, 1) := by decide +kernel
theorem dX9_nervesOf_5 : decode cX9_nervesOf 5 = .ok (.aload_n 0, 1) := by decide +kernel
theorem dX9_nervesOf_6 : decode cX9_nervesOf 6 = .ok (.getfield 9, 3) := by decide +kernel
theorem dX9_nervesOf_9 : decode cX9_nervesOf 9 = .ok (.iconst 2, 1) := by decide +kernel
theorem dX9_nervesOf_10 : decode cX9_nervesOf 10 = .ok (.iaload, 1) := by decide +kernel
theorem dX9_nervesOf_11 : decode cX9_nervesOf 11 = .ok (.if_icmp .ge 54, 3) := by decide +kernel
theorem dX9_nervesOf_14 : decode cX9_nervesOf 14 = .ok (.iload_n 2, 1) := by decide +kernel
theorem dX9_nervesOf_15 : decode cX9_nervesOf 15 = .ok (.iload_n 3, 1) := by decide +kernel
theorem dX9_nervesOf_16 : decode cX9_nervesOf 16 = .ok (.iload_n 1, 1) := by decide +kernel
theorem dX9_nervesOf_17 : decode cX9_nervesOf 17 = .ok (.if_icmp .eq 39, 3) := by decide +kernel
theorem dX9_nervesOf_20 : decode cX9_nervesOf 20 = .ok (.aload_n 0, 1) := by decide +kernel
theorem dX9_nervesOf_21 : decode cX9_nervesOf 21 = .ok (.iload_n 3, 1) := by decide +kernel
theorem dX9_nervesOf_22 : decode cX9_nervesOf 22 = .ok (.invokevirtual 126, 3) := by decide +kernel
theorem dX9_nervesOf_25 : decode cX9_nervesOf 25 = .ok (.ifCond .ne 31, 3) := by decide +kernel
theorem dX9_nervesOf_28 : decode cX9_nervesOf 28 = .ok (.aload_n 0, 1) := by decide +kernel
theorem dX9_nervesOf_29 : decode cX9_nervesOf 29 = .ok (.iload_n 3, 1) := by decide +kernel
theorem dX9_nervesOf_30 : decode cX9_nervesOf 30 = .ok (.iconst 3, 1) := by decide +kernel
theorem dX9_nervesOf_31 : decode cX9_nervesOf 31 = .ok (.invokevirtual 62, 3) := by decide +kernel
theorem dX9_nervesOf_34 : decode cX9_nervesOf 34 = .ok (.aload_n 0, 1) := by decide +kernel
theorem dX9_nervesOf_35 : decode cX9_nervesOf 35 = .ok (.iload_n 1, 1) := by decide +kernel
theorem dX9_nervesOf_36 : decode cX9_nervesOf 36 = .ok (.iconst 3, 1) := by decide +kernel
theorem dX9_nervesOf_37 : decode cX9_nervesOf 37 = .ok (.invokevirtual 62, 3) := by decide +kernel
theorem dX9_nervesOf_40 : decode cX9_nervesOf 40 = .ok (.isub, 1) := by decide +kernel
theorem dX9_nervesOf_41 : decode cX9_nervesOf 41 = .ok (.i2l, 1) := by decide +kernel
theorem dX9_nervesOf_42 : decode cX9_nervesOf 42 = .ok (.ldc2_w 129, 3) := by decide +kernel
theorem dX9_nervesOf_45 : decode cX9_nervesOf 45 = .ok (.lconst 1, 1) := by decide +kernel
theorem dX9_nervesOf_46 : decode cX9_nervesOf 46 = .ok (.invokestatic 54, 3) := by decide +kernel
theorem dX9_nervesOf_49 : decode cX9_nervesOf 49 = .ok (.ifCond .eq 7, 3) := by decide +kernel
theorem dX9_nervesOf_52 : decode cX9_nervesOf 52 = .ok (.iconst 1, 1) := by decide +kernel
theorem dX9_nervesOf_53 : decode cX9_nervesOf 53 = .ok (.goto 4, 3) := by decide +kernel
theorem dX9_nervesOf_56 : decode cX9_nervesOf 56 = .ok (.iconst 0, 1) := by decide +kernel
theorem dX9_nervesOf_57 : decode cX9_nervesOf 57 = .ok (.iadd, 1) := by decide +kernel
theorem dX9_nervesOf_58 : decode cX9_nervesOf 58 = .ok (.istore_n 2, 1) := by decide +kernel
theorem dX9_nervesOf_59 : decode cX9_nervesOf 59 = .ok (.iinc 3 1, 3) := by decide +kernel
theorem dX9_nervesOf_62 : decode cX9_nervesOf 62 = .ok (.goto (-58), 3) := by decide +kernel
theorem dX9_nervesOf_65 : decode cX9_nervesOf 65 = .ok (.iload_n 2, 1) := by decide +kernel
theorem dX9_nervesOf_66 : decode cX9_nervesOf 66 = .ok (.ireturn, 1) := by decide +kernel
theorem dX9_oddsNow_0 : decode cX9_oddsNow 0 = .ok (.aload_n 0, 1) := by decide +kernel
theorem dX9_oddsNow_1 : decode cX9_oddsNow 1 = .ok (.iload_n 1, 1) := by decide +kernel
theorem dX9_oddsNow_2 : decode cX9_oddsNow 2 = .ok (.aload_n 0, 1) := by decide +kernel
theorem dX9_oddsNow_3 : decode cX9_oddsNow 3 = .ok (.iload_n 1, 1) := by decide +kernel
theorem dX9_oddsNow_4 : decode cX9_oddsNow 4 = .ok (.iconst 3, 1) := by decide +kernel
theorem dX9_oddsNow_5 : decode cX9_oddsNow 5 = .ok (.invokevirtual 62, 3) := by decide +kernel
theorem dX9_oddsNow_8 : decode cX9_oddsNow 8 = .ok (.aload_n 0, 1) := by decide +kernel
theorem dX9_oddsNow_9 : decode cX9_oddsNow 9 = .ok (.iload_n 1, 1) := by decide +kernel
theorem dX9_oddsNow_10 : decode cX9_oddsNow 10 = .ok (.aload_n 0, 1) := by decide +kernel
theorem dX9_oddsNow_11 : decode cX9_oddsNow 11 = .ok (.iload_n 1, 1) := by decide +kernel
theorem dX9_oddsNow_12 : decode cX9_oddsNow 12 = .ok (.iconst 3, 1) := by decide +kernel
theorem dX9_oddsNow_13 : decode cX9_oddsNow 13 = .ok (.invokevirtual 62, 3) := by decide +kernel
theorem dX9_oddsNow_16 : decode cX9_oddsNow 16 = .ok (.invokevirtual 110, 3) := by decide +kernel
theorem dX9_oddsNow_19 : decode cX9_oddsNow 19 = .ok (.aload_n 0, 1) := by decide +kernel
theorem dX9_oddsNow_20 : decode cX9_oddsNow 20 = .ok (.iload_n 1, 1) := by decide +kernel
theorem dX9_oddsNow_21 : decode cX9_oddsNow 21 = .ok (.iconst 5, 1) := by decide +kernel
theorem dX9_oddsNow_22 : decode cX9_oddsNow 22 = .ok (.invokevirtual 62, 3) := by decide +kernel
theorem dX9_oddsNow_25 : decode cX9_oddsNow 25 = .ok (.ifCond .le 7, 3) := by decide +kernel
theorem dX9_oddsNow_28 : decode cX9_oddsNow 28 = .ok (.iconst 1, 1) := by decide +kernel
theorem dX9_oddsNow_29 : decode cX9_oddsNow 29 = .ok (.goto 4, 3) := by decide +kernel
theorem dX9_oddsNow_32 : decode cX9_oddsNow 32 = .ok (.iconst 0, 1) := by decide +kernel
theorem dX9_oddsNow_33 : decode cX9_oddsNow 33 = .ok (.aload_n 0, 1) := by decide +kernel
theorem dX9_oddsNow_34 : decode cX9_oddsNow 34 = .ok (.iload_n 1, 1) := by decide +kernel
theorem dX9_oddsNow_35 : decode cX9_oddsNow 35 = .ok (.invokevirtual 131, 3) := by decide +kernel
theorem dX9_oddsNow_38 : decode cX9_oddsNow 38 = .ok (.invokevirtual 122, 3) := by decide +kernel
theorem dX9_oddsNow_41 : decode cX9_oddsNow 41 = .ok (.ireturn, 1) := by decide +kernel
theorem dX9_now_0 : decode cX9_now 0 = .ok (.aload_n 0, 1) := by decide +kernel
theorem dX9_now_1 : decode cX9_now 1 = .ok (.iload_n 1, 1) := by decide +kernel
theorem dX9_now_2 : decode cX9_now 2 = .ok (.invokevirtual 91, 3) := by decide +kernel
theorem dX9_now_5 : decode cX9_now 5 = .ok (.ifCond .ne 10, 3) := by decide +kernel
theorem dX9_now_8 : decode cX9_now 8 = .ok (.aload_n 0, 1) := by decide +kernel
theorem dX9_now_9 : decode cX9_now 9 = .ok (.ldc 46, 2) := by decide +kernel
theorem dX9_now_11 : decode cX9_now 11 = .ok (.invokevirtual 48, 3) := by decide +kernel
theorem dX9_now_14 : decode cX9_now 14 = .ok (.ireturn, 1) := by decide +kernel
theorem dX9_now_15 : decode cX9_now 15 = .ok (.aload_n 0, 1) := by decide +kernel
theorem dX9_now_16 : decode cX9_now 16 = .ok (.iload_n 1, 1) := by decide +kernel
theorem dX9_now_17 : decode cX9_now 17 = .ok (.invokevirtual 126, 3) := by decide +kernel
theorem dX9_now_20 : decode cX9_now 20 = .ok (.ifCond .eq 12, 3) := by decide +kernel
theorem dX9_now_23 : decode cX9_now 23 = .ok (.aload_n 0, 1) := by decide +kernel
theorem dX9_now_24 : decode cX9_now 24 = .ok (.ldc 134, 2) := by decide +kernel
theorem dX9_now_26 : decode cX9_now 26 = .ok (.invokevirtual 48, 3) := by decide +kernel
theorem dX9_now_29 : decode cX9_now 29 = .ok (.goto 8, 3) := by decide +kernel
theorem dX9_now_32 : decode cX9_now 32 = .ok (.aload_n 0, 1) := by decide +kernel
theorem dX9_now_33 : decode cX9_now 33 = .ok (.iload_n 1, 1) := by decide +kernel
theorem dX9_now_34 : decode cX9_now 34 = .ok (.invokevirtual 135, 3) := by decide +kernel
theorem dX9_now_37 : decode cX9_now 37 = .ok (.ireturn, 1) := by decide +kernel
theorem dX9_nerves_0 : decode cX9_nerves 0 = .ok (.aload_n 0, 1) := by decide +kernel
theorem dX9_nerves_1 : decode cX9_nerves 1 = .ok (.iload_n 1, 1) := by decide +kernel
theorem dX9_nerves_2 : decode cX9_nerves 2 = .ok (.invokevirtual 91, 3) := by decide +kernel
theorem dX9_nerves_5 : decode cX9_nerves 5 = .ok (.ifCond .eq 11, 3) := by decide +kernel
theorem dX9_nerves_8 : decode cX9_nerves 8 = .ok (.aload_n 0, 1) := by decide +kernel
theorem dX9_nerves_9 : decode cX9_nerves 9 = .ok (.iload_n 1, 1) := by decide +kernel
theorem dX9_nerves_10 : decode cX9_nerves 10 = .ok (.invokevirtual 131, 3) := by decide +kernel
theorem dX9_nerves_13 : decode cX9_nerves 13 = .ok (.goto 9, 3) := by decide +kernel
theorem dX9_nerves_16 : decode cX9_nerves 16 = .ok (.aload_n 0, 1) := by decide +kernel
theorem dX9_nerves_17 : decode cX9_nerves 17 = .ok (.ldc 46, 2) := by decide +kernel
theorem dX9_nerves_19 : decode cX9_nerves 19 = .ok (.invokevirtual 48, 3) := by decide +kernel
theorem dX9_nerves_22 : decode cX9_nerves 22 = .ok (.ireturn, 1) := by decide +kernel
theorem dX9_draw_0 : decode cX9_draw 0 = .ok (.aload_n 0, 1) := by decide +kernel
theorem dX9_draw_1 : decode cX9_draw 1 = .ok (.getfield 9, 3) := by decide +kernel
theorem dX9_draw_4 : decode cX9_draw 4 = .ok (.iconst 1, 1) := by decide +kernel
theorem dX9_draw_5 : decode cX9_draw 5 = .ok (.aload_n 0, 1) := by decide +kernel
theorem dX9_draw_6 : decode cX9_draw 6 = .ok (.getfield 9, 3) := by decide +kernel
theorem dX9_draw_9 : decode cX9_draw 9 = .ok (.iconst 1, 1) := by decide +kernel
theorem dX9_draw_10 : decode cX9_draw 10 = .ok (.iaload, 1) := by decide +kernel
theorem dX9_draw_11 : decode cX9_draw 11 = .ok (.ldc 138, 2) := by decide +kernel
theorem dX9_draw_13 : decode cX9_draw 13 = .ok (.imul, 1) := by decide +kernel
theorem dX9_draw_14 : decode cX9_draw 14 = .ok (.sipush 12345, 3) := by decide +kernel
theorem dX9_draw_17 : decode cX9_draw 17 = .ok (.iadd, 1) := by decide +kernel
theorem dX9_draw_18 : decode cX9_draw 18 = .ok (.iastore, 1) := by decide +kernel
theorem dX9_draw_19 : decode cX9_draw 19 = .ok (.aload_n 0, 1) := by decide +kernel
theorem dX9_draw_20 : decode cX9_draw 20 = .ok (.getfield 9, 3) := by decide +kernel
theorem dX9_draw_23 : decode cX9_draw 23 = .ok (.iconst 1, 1) := by decide +kernel
theorem dX9_draw_24 : decode cX9_draw 24 = .ok (.iaload, 1) := by decide +kernel
theorem dX9_draw_25 : decode cX9_draw 25 = .ok (.bipush 8, 2) := by decide +kernel
theorem dX9_draw_27 : decode cX9_draw 27 = .ok (.iushr, 1) := by decide +kernel
theorem dX9_draw_28 : decode cX9_draw 28 = .ok (.ireturn, 1) := by decide +kernel
theorem dX9_runsNext_0 : decode cX9_runsNext 0 = .ok (.iconst (-1), 1) := by decide +kernel
theorem dX9_runsNext_1 : decode cX9_runsNext 1 = .ok (.istore_n 1, 1) := by decide +kernel
theorem dX9_runsNext_2 : decode cX9_runsNext 2 = .ok (.iconst 0, 1) := by decide +kernel
theorem dX9_runsNext_3 : decode cX9_runsNext 3 = .ok (.istore_n 2, 1) := by decide +kernel
theorem dX9_runsNext_4 : decode cX9_runsNext 4 = .ok (.iload_n 2, 1) := by decide +kernel
theorem dX9_runsNext_5 : decode cX9_runsNext 5 = .ok (.aload_n 0, 1) := by decide +kernel
theorem dX9_runsNext_6 : decode cX9_runsNext 6 = .ok (.getfield 9, 3) := by decide +kernel
theorem dX9_runsNext_9 : decode cX9_runsNext 9 = .ok (.iconst 2, 1) := by decide +kernel
theorem dX9_runsNext_10 : decode cX9_runsNext 10 = .ok (.iaload, 1) := by decide +kernel
theorem dX9_runsNext_11 : decode cX9_runsNext 11 = .ok (.if_icmp .ge 38, 3) := by decide +kernel
theorem dX9_runsNext_14 : decode cX9_runsNext 14 = .ok (.aload_n 0, 1) := by decide +kernel
theorem dX9_runsNext_15 : decode cX9_runsNext 15 = .ok (.iload_n 2, 1) := by decide +kernel
theorem dX9_runsNext_16 : decode cX9_runsNext 16 = .ok (.invokevirtual 126, 3) := by decide +kernel
theorem dX9_runsNext_19 : decode cX9_runsNext 19 = .ok (.ifCond .ne 24, 3) := by decide +kernel
theorem dX9_runsNext_22 : decode cX9_runsNext 22 = .ok (.iload_n 1, 1) := by decide +kernel
theorem dX9_runsNext_23 : decode cX9_runsNext 23 = .ok (.ifCond .lt 18, 3) := by decide +kernel
theorem dX9_runsNext_26 : decode cX9_runsNext 26 = .ok (.aload_n 0, 1) := by decide +kernel
theorem dX9_runsNext_27 : decode cX9_runsNext 27 = .ok (.iload_n 2, 1) := by decide +kernel
theorem dX9_runsNext_28 : decode cX9_runsNext 28 = .ok (.iconst 4, 1) := by decide +kernel
theorem dX9_runsNext_29 : decode cX9_runsNext 29 = .ok (.invokevirtual 62, 3) := by decide +kernel
theorem dX9_runsNext_32 : decode cX9_runsNext 32 = .ok (.aload_n 0, 1) := by decide +kernel
theorem dX9_runsNext_33 : decode cX9_runsNext 33 = .ok (.iload_n 1, 1) := by decide +kernel
theorem dX9_runsNext_34 : decode cX9_runsNext 34 = .ok (.iconst 4, 1) := by decide +kernel
theorem dX9_runsNext_35 : decode cX9_runsNext 35 = .ok (.invokevirtual 62, 3) := by decide +kernel
theorem dX9_runsNext_38 : decode cX9_runsNext 38 = .ok (.if_icmp .ge 5, 3) := by decide +kernel
theorem dX9_runsNext_41 : decode cX9_runsNext 41 = .ok (.iload_n 2, 1) := by decide +kernel
theorem dX9_runsNext_42 : decode cX9_runsNext 42 = .ok (.istore_n 1, 1) := by decide +kernel
theorem dX9_runsNext_43 : decode cX9_runsNext 43 = .ok (.iinc 2 1, 3) := by decide +kernel
theorem dX9_runsNext_46 : decode cX9_runsNext 46 = .ok (.goto (-42), 3) := by decide +kernel
theorem dX9_runsNext_49 : decode cX9_runsNext 49 = .ok (.iload_n 1, 1) := by decide +kernel
theorem dX9_runsNext_50 : decode cX9_runsNext 50 = .ok (.ireturn, 1) := by decide +kernel
theorem dX9_next_0 : decode cX9_next 0 = .ok (.aload_n 0, 1) := by decide +kernel
theorem dX9_next_1 : decode cX9_next 1 = .ok (.aload_n 0, 1) := by decide +kernel
theorem dX9_next_2 : decode cX9_next 2 = .ok (.invokevirtual 139, 3) := by decide +kernel
theorem dX9_next_5 : decode cX9_next 5 = .ok (.invokevirtual 143, 3) := by decide +kernel
theorem dX9_next_8 : decode cX9_next 8 = .ok (.ireturn, 1) := by decide +kernel
theorem dX9_step_0 : decode cX9_step 0 = .ok (.aload_n 0, 1) := by decide +kernel
theorem dX9_step_1 : decode cX9_step 1 = .ok (.iload_n 1, 1) := by decide +kernel
theorem dX9_step_2 : decode cX9_step 2 = .ok (.iconst 3, 1) := by decide +kernel
theorem dX9_step_3 : decode cX9_step 3 = .ok (.invokevirtual 62, 3) := by decide +kernel
theorem dX9_step_6 : decode cX9_step 6 = .ok (.istore_n 2, 1) := by decide +kernel
theorem dX9_step_7 : decode cX9_step 7 = .ok (.aload_n 0, 1) := by decide +kernel
theorem dX9_step_8 : decode cX9_step 8 = .ok (.iload_n 1, 1) := by decide +kernel
theorem dX9_step_9 : decode cX9_step 9 = .ok (.invokevirtual 135, 3) := by decide +kernel
theorem dX9_step_12 : decode cX9_step 12 = .ok (.istore_n 3, 1) := by decide +kernel
theorem dX9_step_13 : decode cX9_step 13 = .ok (.iload_n 3, 1) := by decide +kernel
theorem dX9_step_14 : decode cX9_step 14 = .ok (.ifCond .le 18, 3) := by decide +kernel
theorem dX9_step_17 : decode cX9_step 17 = .ok (.aload_n 0, 1) := by decide +kernel
theorem dX9_step_18 : decode cX9_step 18 = .ok (.invokevirtual 146, 3) := by decide +kernel
theorem dX9_step_21 : decode cX9_step 21 = .ok (.bipush 24, 2) := by decide +kernel
theorem dX9_step_23 : decode cX9_step 23 = .ok (.irem, 1) := by decide +kernel
theorem dX9_step_24 : decode cX9_step 24 = .ok (.iload_n 3, 1) := by decide +kernel
theorem dX9_step_25 : decode cX9_step 25 = .ok (.if_icmp .ge 7, 3) := by decide +kernel
theorem dX9_step_28 : decode cX9_step 28 = .ok (.iconst 1, 1) := by decide +kernel
theorem dX9_step_29 : decode cX9_step 29 = .ok (.goto 4, 3) := by decide +kernel
theorem dX9_step_32 : decode cX9_step 32 = .ok (.iconst 0, 1) := by decide +kernel
theorem dX9_step_33 : decode cX9_step 33 = .ok (.istore 4, 2) := by decide +kernel
theorem dX9_step_35 : decode cX9_step 35 = .ok (.aload_n 0, 1) := by decide +kernel
theorem dX9_step_36 : decode cX9_step 36 = .ok (.iload_n 1, 1) := by decide +kernel
theorem dX9_step_37 : decode cX9_step 37 = .ok (.iconst 5, 1) := by decide +kernel
theorem dX9_step_38 : decode cX9_step 38 = .ok (.invokevirtual 62, 3) := by decide +kernel
theorem dX9_step_41 : decode cX9_step 41 = .ok (.istore 5, 2) := by decide +kernel
theorem dX9_step_43 : decode cX9_step 43 = .ok (.aload_n 0, 1) := by decide +kernel
theorem dX9_step_44 : decode cX9_step 44 = .ok (.iload_n 1, 1) := by decide +kernel
theorem dX9_step_45 : decode cX9_step 45 = .ok (.iconst 4, 1) := by decide +kernel
theorem dX9_step_46 : decode cX9_step 46 = .ok (.aload_n 0, 1) := by decide +kernel
theorem dX9_step_47 : decode cX9_step 47 = .ok (.iload_n 1, 1) := by decide +kernel
theorem dX9_step_48 : decode cX9_step 48 = .ok (.iconst 4, 1) := by decide +kernel
theorem dX9_step_49 : decode cX9_step 49 = .ok (.invokevirtual 62, 3) := by decide +kernel
theorem dX9_step_52 : decode cX9_step 52 = .ok (.aload_n 0, 1) := by decide +kernel
theorem dX9_step_53 : decode cX9_step 53 = .ok (.iload_n 1, 1) := by decide +kernel
theorem dX9_step_54 : decode cX9_step 54 = .ok (.aload_n 0, 1) := by decide +kernel
theorem dX9_step_55 : decode cX9_step 55 = .ok (.iload_n 1, 1) := by decide +kernel
theorem dX9_step_56 : decode cX9_step 56 = .ok (.iload_n 2, 1) := by decide +kernel
theorem dX9_step_57 : decode cX9_step 57 = .ok (.invokevirtual 110, 3) := by decide +kernel
theorem dX9_step_60 : decode cX9_step 60 = .ok (.invokevirtual 119, 3) := by decide +kernel
theorem dX9_step_63 : decode cX9_step 63 = .ok (.iadd, 1) := by decide +kernel
theorem dX9_step_64 : decode cX9_step 64 = .ok (.iload 4, 2) := by decide +kernel
theorem dX9_step_66 : decode cX9_step 66 = .ok (.ifCond .eq 12, 3) := by decide +kernel
theorem dX9_step_69 : decode cX9_step 69 = .ok (.aload_n 0, 1) := by decide +kernel
theorem dX9_step_70 : decode cX9_step 70 = .ok (.getfield 9, 3) := by decide +kernel
theorem dX9_step_73 : decode cX9_step 73 = .ok (.iconst 0, 1) := by decide +kernel
theorem dX9_step_74 : decode cX9_step 74 = .ok (.iaload, 1) := by decide +kernel
theorem dX9_step_75 : decode cX9_step 75 = .ok (.goto 4, 3) := by decide +kernel
theorem dX9_step_78 : decode cX9_step 78 = .ok (.iconst 0, 1) := by decide +kernel
theorem dX9_step_79 : decode cX9_step 79 = .ok (.iadd, 1) := by decide +kernel
theorem dX9_step_80 : decode cX9_step 80 = .ok (.invokevirtual 77, 3) := by decide +kernel
theorem dX9_step_83 : decode cX9_step 83 = .ok (.aload_n 0, 1) := by decide +kernel
theorem dX9_step_84 : decode cX9_step 84 = .ok (.iload_n 1, 1) := by decide +kernel
theorem dX9_step_85 : decode cX9_step 85 = .ok (.iconst 5, 1) := by decide +kernel
theorem dX9_step_86 : decode cX9_step 86 = .ok (.iload 4, 2) := by decide +kernel
theorem dX9_step_88 : decode cX9_step 88 = .ok (.ifCond .eq 7, 3) := by decide +kernel
theorem dX9_step_91 : decode cX9_step 91 = .ok (.iconst 3, 1) := by decide +kernel
theorem dX9_step_92 : decode cX9_step 92 = .ok (.goto 16, 3) := by decide +kernel
theorem dX9_step_95 : decode cX9_step 95 = .ok (.iload 5, 2) := by decide +kernel
theorem dX9_step_97 : decode cX9_step 97 = .ok (.ifCond .le 10, 3) := by decide +kernel
theorem dX9_step_100 : decode cX9_step 100 = .ok (.iload 5, 2) := by decide +kernel
theorem dX9_step_102 : decode cX9_step 102 = .ok (.iconst 1, 1) := by decide +kernel
theorem dX9_step_103 : decode cX9_step 103 = .ok (.isub, 1) := by decide +kernel
theorem dX9_step_104 : decode cX9_step 104 = .ok (.goto 4, 3) := by decide +kernel
theorem dX9_step_107 : decode cX9_step 107 = .ok (.iconst 0, 1) := by decide +kernel
theorem dX9_step_108 : decode cX9_step 108 = .ok (.invokevirtual 77, 3) := by decide +kernel
theorem dX9_step_111 : decode cX9_step 111 = .ok (.aload_n 0, 1) := by decide +kernel
theorem dX9_step_112 : decode cX9_step 112 = .ok (.iload_n 1, 1) := by decide +kernel
theorem dX9_step_113 : decode cX9_step 113 = .ok (.bipush 6, 2) := by decide +kernel
theorem dX9_step_115 : decode cX9_step 115 = .ok (.aload_n 0, 1) := by decide +kernel
theorem dX9_step_116 : decode cX9_step 116 = .ok (.iload_n 1, 1) := by decide +kernel
theorem dX9_step_117 : decode cX9_step 117 = .ok (.bipush 6, 2) := by decide +kernel
theorem dX9_step_119 : decode cX9_step 119 = .ok (.invokevirtual 62, 3) := by decide +kernel
theorem dX9_step_122 : decode cX9_step 122 = .ok (.iload 4, 2) := by decide +kernel
theorem dX9_step_124 : decode cX9_step 124 = .ok (.ifCond .eq 7, 3) := by decide +kernel
theorem dX9_step_127 : decode cX9_step 127 = .ok (.iconst 1, 1) := by decide +kernel
theorem dX9_step_128 : decode cX9_step 128 = .ok (.goto 4, 3) := by decide +kernel
theorem dX9_step_131 : decode cX9_step 131 = .ok (.iconst 0, 1) := by decide +kernel
theorem dX9_step_132 : decode cX9_step 132 = .ok (.iadd, 1) := by decide +kernel
theorem dX9_step_133 : decode cX9_step 133 = .ok (.invokevirtual 77, 3) := by decide +kernel
theorem dX9_step_136 : decode cX9_step 136 = .ok (.aload_n 0, 1) := by decide +kernel
theorem dX9_step_137 : decode cX9_step 137 = .ok (.iload_n 1, 1) := by decide +kernel
theorem dX9_step_138 : decode cX9_step 138 = .ok (.iconst 3, 1) := by decide +kernel
theorem dX9_step_139 : decode cX9_step 139 = .ok (.iload_n 2, 1) := by decide +kernel
theorem dX9_step_140 : decode cX9_step 140 = .ok (.iconst 1, 1) := by decide +kernel
theorem dX9_step_141 : decode cX9_step 141 = .ok (.iadd, 1) := by decide +kernel
theorem dX9_step_142 : decode cX9_step 142 = .ok (.invokevirtual 77, 3) := by decide +kernel
theorem dX9_step_145 : decode cX9_step 145 = .ok (.iload 4, 2) := by decide +kernel
theorem dX9_step_147 : decode cX9_step 147 = .ok (.ifCond .eq 7, 3) := by decide +kernel
theorem dX9_step_150 : decode cX9_step 150 = .ok (.iconst 1, 1) := by decide +kernel
theorem dX9_step_151 : decode cX9_step 151 = .ok (.goto 4, 3) := by decide +kernel
theorem dX9_step_154 : decode cX9_step 154 = .ok (.iconst 0, 1) := by decide +kernel
theorem dX9_step_155 : decode cX9_step 155 = .ok (.ireturn, 1) := by decide +kernel
theorem dX9_stepsGo_0 : decode cX9_stepsGo 0 = .ok (.iconst 0, 1) := by decide +kernel
theorem dX9_stepsGo_1 : decode cX9_stepsGo 1 = .ok (.istore_n 2, 1) := by decide +kernel
theorem dX9_stepsGo_2 : decode cX9_stepsGo 2 = .ok (.iconst 0, 1) := by decide +kernel
theorem dX9_stepsGo_3 : decode cX9_stepsGo 3 = .ok (.istore_n 3, 1) := by decide +kernel
theorem dX9_stepsGo_4 : decode cX9_stepsGo 4 = .ok (.iload_n 3, 1) := by decide +kernel
theorem dX9_stepsGo_5 : decode cX9_stepsGo 5 = .ok (.iload_n 1, 1) := by decide +kernel
theorem dX9_stepsGo_6 : decode cX9_stepsGo 6 = .ok (.if_icmp .ge 27, 3) := by decide +kernel
theorem dX9_stepsGo_9 : decode cX9_stepsGo 9 = .ok (.aload_n 0, 1) := by decide +kernel
theorem dX9_stepsGo_10 : decode cX9_stepsGo 10 = .ok (.invokevirtual 139, 3) := by decide +kernel
theorem dX9_stepsGo_13 : decode cX9_stepsGo 13 = .ok (.ifCond .lt 20, 3) := by decide +kernel
theorem dX9_stepsGo_16 : decode cX9_stepsGo 16 = .ok (.iload_n 2, 1) := by decide +kernel
theorem dX9_stepsGo_17 : decode cX9_stepsGo 17 = .ok (.aload_n 0, 1) := by decide +kernel
theorem dX9_stepsGo_18 : decode cX9_stepsGo 18 = .ok (.aload_n 0, 1) := by decide +kernel
theorem dX9_stepsGo_19 : decode cX9_stepsGo 19 = .ok (.invokevirtual 139, 3) := by decide +kernel
theorem dX9_stepsGo_22 : decode cX9_stepsGo 22 = .ok (.invokevirtual 149, 3) := by decide +kernel
theorem dX9_stepsGo_25 : decode cX9_stepsGo 25 = .ok (.iadd, 1) := by decide +kernel
theorem dX9_stepsGo_26 : decode cX9_stepsGo 26 = .ok (.istore_n 2, 1) := by decide +kernel
theorem dX9_stepsGo_27 : decode cX9_stepsGo 27 = .ok (.iinc 3 1, 3) := by decide +kernel
theorem dX9_stepsGo_30 : decode cX9_stepsGo 30 = .ok (.goto (-26), 3) := by decide +kernel
theorem dX9_stepsGo_33 : decode cX9_stepsGo 33 = .ok (.iload_n 2, 1) := by decide +kernel
theorem dX9_stepsGo_34 : decode cX9_stepsGo 34 = .ok (.ireturn, 1) := by decide +kernel
theorem dX9_steps_0 : decode cX9_steps 0 = .ok (.iload_n 1, 1) := by decide +kernel
theorem dX9_steps_1 : decode cX9_steps 1 = .ok (.i2l, 1) := by decide +kernel
theorem dX9_steps_2 : decode cX9_steps 2 = .ok (.lconst 1, 1) := by decide +kernel
theorem dX9_steps_3 : decode cX9_steps 3 = .ok (.ldc2_w 152, 3) := by decide +kernel
theorem dX9_steps_6 : decode cX9_steps 6 = .ok (.invokestatic 54, 3) := by decide +kernel
theorem dX9_steps_9 : decode cX9_steps 9 = .ok (.ifCond .eq 11, 3) := by decide +kernel
theorem dX9_steps_12 : decode cX9_steps 12 = .ok (.aload_n 0, 1) := by decide +kernel
theorem dX9_steps_13 : decode cX9_steps 13 = .ok (.iload_n 1, 1) := by decide +kernel
theorem dX9_steps_14 : decode cX9_steps 14 = .ok (.invokevirtual 154, 3) := by decide +kernel
theorem dX9_steps_17 : decode cX9_steps 17 = .ok (.goto 9, 3) := by decide +kernel
theorem dX9_steps_20 : decode cX9_steps 20 = .ok (.aload_n 0, 1) := by decide +kernel
theorem dX9_steps_21 : decode cX9_steps 21 = .ok (.ldc 46, 2) := by decide +kernel
theorem dX9_steps_23 : decode cX9_steps 23 = .ok (.invokevirtual 48, 3) := by decide +kernel
theorem dX9_steps_26 : decode cX9_steps 26 = .ok (.ireturn, 1) := by decide +kernel
theorem dX9_home_0 : decode cX9_home 0 = .ok (.iconst 0, 1) := by decide +kernel
theorem dX9_home_1 : decode cX9_home 1 = .ok (.istore_n 1, 1) := by decide +kernel
theorem dX9_home_2 : decode cX9_home 2 = .ok (.iconst 0, 1) := by decide +kernel
theorem dX9_home_3 : decode cX9_home 3 = .ok (.istore_n 2, 1) := by decide +kernel
theorem dX9_home_4 : decode cX9_home 4 = .ok (.iload_n 2, 1) := by decide +kernel
theorem dX9_home_5 : decode cX9_home 5 = .ok (.aload_n 0, 1) := by decide +kernel
theorem dX9_home_6 : decode cX9_home 6 = .ok (.getfield 9, 3) := by decide +kernel
theorem dX9_home_9 : decode cX9_home 9 = .ok (.iconst 2, 1) := by decide +kernel
theorem dX9_home_10 : decode cX9_home 10 = .ok (.iaload, 1) := by decide +kernel
theorem dX9_home_11 : decode cX9_home 11 = .ok (.if_icmp .ge 27, 3) := by decide +kernel
theorem dX9_home_14 : decode cX9_home 14 = .ok (.iload_n 1, 1) := by decide +kernel
theorem dX9_home_15 : decode cX9_home 15 = .ok (.aload_n 0, 1) := by decide +kernel
theorem dX9_home_16 : decode cX9_home 16 = .ok (.iload_n 2, 1) := by decide +kernel
theorem dX9_home_17 : decode cX9_home 17 = .ok (.invokevirtual 126, 3) := by decide +kernel
theorem dX9_home_20 : decode cX9_home 20 = .ok (.ifCond .eq 9, 3) := by decide +kernel
theorem dX9_home_23 : decode cX9_home 23 = .ok (.iconst 1, 1) := by decide +kernel
theorem dX9_home_24 : decode cX9_home 24 = .ok (.iload_n 2, 1) := by decide +kernel
theorem dX9_home_25 : decode cX9_home 25 = .ok (.ishl, 1) := by decide +kernel
theorem dX9_home_26 : decode cX9_home 26 = .ok (.goto 4, 3) := by decide +kernel
theorem dX9_home_29 : decode cX9_home 29 = .ok (.iconst 0, 1) := by decide +kernel
theorem dX9_home_30 : decode cX9_home 30 = .ok (.ior, 1) := by decide +kernel
theorem dX9_home_31 : decode cX9_home 31 = .ok (.istore_n 1, 1) := by decide +kernel
theorem dX9_home_32 : decode cX9_home 32 = .ok (.iinc 2 1, 3) := by decide +kernel
theorem dX9_home_35 : decode cX9_home 35 = .ok (.goto (-31), 3) := by decide +kernel
theorem dX9_home_38 : decode cX9_home 38 = .ok (.iload_n 1, 1) := by decide +kernel
theorem dX9_home_39 : decode cX9_home 39 = .ok (.ireturn, 1) := by decide +kernel
theorem dX9_many_0 : decode cX9_many 0 = .ok (.iconst 0, 1) := by decide +kernel
theorem dX9_many_1 : decode cX9_many 1 = .ok (.istore_n 1, 1) := by decide +kernel
theorem dX9_many_2 : decode cX9_many 2 = .ok (.iconst 0, 1) := by decide +kernel
theorem dX9_many_3 : decode cX9_many 3 = .ok (.istore_n 2, 1) := by decide +kernel
theorem dX9_many_4 : decode cX9_many 4 = .ok (.iload_n 2, 1) := by decide +kernel
theorem dX9_many_5 : decode cX9_many 5 = .ok (.bipush 6, 2) := by decide +kernel
theorem dX9_many_7 : decode cX9_many 7 = .ok (.if_icmp .ge 17, 3) := by decide +kernel
theorem dX9_many_10 : decode cX9_many 10 = .ok (.iload_n 1, 1) := by decide +kernel
theorem dX9_many_11 : decode cX9_many 11 = .ok (.iload_n 0, 1) := by decide +kernel
theorem dX9_many_12 : decode cX9_many 12 = .ok (.iload_n 2, 1) := by decide +kernel
theorem dX9_many_13 : decode cX9_many 13 = .ok (.ishr, 1) := by decide +kernel
theorem dX9_many_14 : decode cX9_many 14 = .ok (.iconst 1, 1) := by decide +kernel
theorem dX9_many_15 : decode cX9_many 15 = .ok (.iand, 1) := by decide +kernel
theorem dX9_many_16 : decode cX9_many 16 = .ok (.iadd, 1) := by decide +kernel
theorem dX9_many_17 : decode cX9_many 17 = .ok (.istore_n 1, 1) := by decide +kernel
theorem dX9_many_18 : decode cX9_many 18 = .ok (.iinc 2 1, 3) := by decide +kernel
theorem dX9_many_21 : decode cX9_many 21 = .ok (.goto (-17), 3) := by decide +kernel
theorem dX9_many_24 : decode cX9_many 24 = .ok (.iload_n 1, 1) := by decide +kernel
theorem dX9_many_25 : decode cX9_many 25 = .ok (.ireturn, 1) := by decide +kernel
theorem dX9_starts_0 : decode cX9_starts 0 = .ok (.iconst 0, 1) := by decide +kernel
theorem dX9_starts_1 : decode cX9_starts 1 = .ok (.istore_n 1, 1) := by decide +kernel
theorem dX9_starts_2 : decode cX9_starts 2 = .ok (.iload_n 1, 1) := by decide +kernel
theorem dX9_starts_3 : decode cX9_starts 3 = .ok (.aload_n 0, 1) := by decide +kernel
theorem dX9_starts_4 : decode cX9_starts 4 = .ok (.getfield 9, 3) := by decide +kernel
theorem dX9_starts_7 : decode cX9_starts 7 = .ok (.iconst 2, 1) := by decide +kernel
theorem dX9_starts_8 : decode cX9_starts 8 = .ok (.iaload, 1) := by decide +kernel
theorem dX9_starts_9 : decode cX9_starts 9 = .ok (.if_icmp .ge 30, 3) := by decide +kernel
theorem dX9_starts_12 : decode cX9_starts 12 = .ok (.iconst 3, 1) := by decide +kernel
theorem dX9_starts_13 : decode cX9_starts 13 = .ok (.istore_n 2, 1) := by decide +kernel
theorem dX9_starts_14 : decode cX9_starts 14 = .ok (.iload_n 2, 1) := by decide +kernel
theorem dX9_starts_15 : decode cX9_starts 15 = .ok (.bipush 6, 2) := by decide +kernel
theorem dX9_starts_17 : decode cX9_starts 17 = .ok (.if_icmp .gt 16, 3) := by decide +kernel
theorem dX9_starts_20 : decode cX9_starts 20 = .ok (.aload_n 0, 1) := by decide +kernel
theorem dX9_starts_21 : decode cX9_starts 21 = .ok (.iload_n 1, 1) := by decide +kernel
theorem dX9_starts_22 : decode cX9_starts 22 = .ok (.iload_n 2, 1) := by decide +kernel
theorem dX9_starts_23 : decode cX9_starts 23 = .ok (.iconst 0, 1) := by decide +kernel
theorem dX9_starts_24 : decode cX9_starts 24 = .ok (.invokevirtual 77, 3) := by decide +kernel
theorem dX9_starts_27 : decode cX9_starts 27 = .ok (.iinc 2 1, 3) := by decide +kernel
theorem dX9_starts_30 : decode cX9_starts 30 = .ok (.goto (-16), 3) := by decide +kernel
theorem dX9_starts_33 : decode cX9_starts 33 = .ok (.iinc 1 1, 3) := by decide +kernel
theorem dX9_starts_36 : decode cX9_starts 36 = .ok (.goto (-34), 3) := by decide +kernel
theorem dX9_starts_39 : decode cX9_starts 39 = .ok (.return_, 1) := by decide +kernel
theorem dX9_start_0 : decode cX9_start 0 = .ok (.aload_n 0, 1) := by decide +kernel
theorem dX9_start_1 : decode cX9_start 1 = .ok (.invokevirtual 157, 3) := by decide +kernel
theorem dX9_start_4 : decode cX9_start 4 = .ok (.invokestatic 160, 3) := by decide +kernel
theorem dX9_start_7 : decode cX9_start 7 = .ok (.istore_n 1, 1) := by decide +kernel
theorem dX9_start_8 : decode cX9_start 8 = .ok (.aload_n 0, 1) := by decide +kernel
theorem dX9_start_9 : decode cX9_start 9 = .ok (.invokevirtual 163, 3) := by decide +kernel
theorem dX9_start_12 : decode cX9_start 12 = .ok (.iload_n 1, 1) := by decide +kernel
theorem dX9_start_13 : decode cX9_start 13 = .ok (.ireturn, 1) := by decide +kernel
theorem dX9_ahead_0 : decode cX9_ahead 0 = .ok (.iload_n 1, 1) := by decide +kernel
theorem dX9_ahead_1 : decode cX9_ahead 1 = .ok (.i2l, 1) := by decide +kernel
theorem dX9_ahead_2 : decode cX9_ahead 2 = .ok (.lconst 0, 1) := by decide +kernel
theorem dX9_ahead_3 : decode cX9_ahead 3 = .ok (.ldc2_w 152, 3) := by decide +kernel
theorem dX9_ahead_6 : decode cX9_ahead 6 = .ok (.invokestatic 54, 3) := by decide +kernel
theorem dX9_ahead_9 : decode cX9_ahead 9 = .ok (.ifCond .eq 21, 3) := by decide +kernel
theorem dX9_ahead_12 : decode cX9_ahead 12 = .ok (.iload_n 2, 1) := by decide +kernel
theorem dX9_ahead_13 : decode cX9_ahead 13 = .ok (.i2l, 1) := by decide +kernel
theorem dX9_ahead_14 : decode cX9_ahead 14 = .ok (.lconst 0, 1) := by decide +kernel
theorem dX9_ahead_15 : decode cX9_ahead 15 = .ok (.iconst 2, 1) := by decide +kernel
theorem dX9_ahead_16 : decode cX9_ahead 16 = .ok (.aload_n 0, 1) := by decide +kernel
theorem dX9_ahead_17 : decode cX9_ahead 17 = .ok (.getfield 9, 3) := by decide +kernel
theorem dX9_ahead_20 : decode cX9_ahead 20 = .ok (.iconst 2, 1) := by decide +kernel
theorem dX9_ahead_21 : decode cX9_ahead 21 = .ok (.iaload, 1) := by decide +kernel
theorem dX9_ahead_22 : decode cX9_ahead 22 = .ok (.iadd, 1) := by decide +kernel
theorem dX9_ahead_23 : decode cX9_ahead 23 = .ok (.i2l, 1) := by decide +kernel
theorem dX9_ahead_24 : decode cX9_ahead 24 = .ok (.invokestatic 54, 3) := by decide +kernel
theorem dX9_ahead_27 : decode cX9_ahead 27 = .ok (.ifCond .ne 10, 3) := by decide +kernel
theorem dX9_ahead_30 : decode cX9_ahead 30 = .ok (.aload_n 0, 1) := by decide +kernel
theorem dX9_ahead_31 : decode cX9_ahead 31 = .ok (.ldc 46, 2) := by decide +kernel
theorem dX9_ahead_33 : decode cX9_ahead 33 = .ok (.invokevirtual 48, 3) := by decide +kernel
theorem dX9_ahead_36 : decode cX9_ahead 36 = .ok (.ireturn, 1) := by decide +kernel
theorem dX9_ahead_37 : decode cX9_ahead 37 = .ok (.aload_n 0, 1) := by decide +kernel
theorem dX9_ahead_38 : decode cX9_ahead 38 = .ok (.getfield 9, 3) := by decide +kernel
theorem dX9_ahead_41 : decode cX9_ahead 41 = .ok (.aload_n 0, 1) := by decide +kernel
theorem dX9_ahead_42 : decode cX9_ahead 42 = .ok (.getfield 16, 3) := by decide +kernel
theorem dX9_ahead_45 : decode cX9_ahead 45 = .ok (.invokestatic 166, 3) := by decide +kernel
theorem dX9_ahead_48 : decode cX9_ahead 48 = .ok (.aload_n 0, 1) := by decide +kernel
theorem dX9_ahead_49 : decode cX9_ahead 49 = .ok (.iload_n 1, 1) := by decide +kernel
theorem dX9_ahead_50 : decode cX9_ahead 50 = .ok (.invokevirtual 154, 3) := by decide +kernel
theorem dX9_ahead_53 : decode cX9_ahead 53 = .ok (.istore_n 3, 1) := by decide +kernel
theorem dX9_ahead_54 : decode cX9_ahead 54 = .ok (.iload_n 2, 1) := by decide +kernel
theorem dX9_ahead_55 : decode cX9_ahead 55 = .ok (.ifCond .ne 10, 3) := by decide +kernel
theorem dX9_ahead_58 : decode cX9_ahead 58 = .ok (.aload_n 0, 1) := by decide +kernel
theorem dX9_ahead_59 : decode cX9_ahead 59 = .ok (.invokevirtual 157, 3) := by decide +kernel
theorem dX9_ahead_62 : decode cX9_ahead 62 = .ok (.goto 32, 3) := by decide +kernel
theorem dX9_ahead_65 : decode cX9_ahead 65 = .ok (.iload_n 2, 1) := by decide +kernel
theorem dX9_ahead_66 : decode cX9_ahead 66 = .ok (.iconst 1, 1) := by decide +kernel
theorem dX9_ahead_67 : decode cX9_ahead 67 = .ok (.if_icmp .ne 7, 3) := by decide +kernel
theorem dX9_ahead_70 : decode cX9_ahead 70 = .ok (.iload_n 3, 1) := by decide +kernel
theorem dX9_ahead_71 : decode cX9_ahead 71 = .ok (.goto 23, 3) := by decide +kernel
theorem dX9_ahead_74 : decode cX9_ahead 74 = .ok (.iload_n 2, 1) := by decide +kernel
theorem dX9_ahead_75 : decode cX9_ahead 75 = .ok (.iconst 2, 1) := by decide +kernel
theorem dX9_ahead_76 : decode cX9_ahead 76 = .ok (.if_icmp .ne 10, 3) := by decide +kernel
theorem dX9_ahead_79 : decode cX9_ahead 79 = .ok (.aload_n 0, 1) := by decide +kernel
theorem dX9_ahead_80 : decode cX9_ahead 80 = .ok (.invokevirtual 139, 3) := by decide +kernel
theorem dX9_ahead_83 : decode cX9_ahead 83 = .ok (.goto 11, 3) := by decide +kernel
theorem dX9_ahead_86 : decode cX9_ahead 86 = .ok (.aload_n 0, 1) := by decide +kernel
theorem dX9_ahead_87 : decode cX9_ahead 87 = .ok (.iload_n 2, 1) := by decide +kernel
theorem dX9_ahead_88 : decode cX9_ahead 88 = .ok (.iconst 3, 1) := by decide +kernel
theorem dX9_ahead_89 : decode cX9_ahead 89 = .ok (.isub, 1) := by decide +kernel
theorem dX9_ahead_90 : decode cX9_ahead 90 = .ok (.iconst 4, 1) := by decide +kernel
theorem dX9_ahead_91 : decode cX9_ahead 91 = .ok (.invokevirtual 62, 3) := by decide +kernel
theorem dX9_ahead_94 : decode cX9_ahead 94 = .ok (.istore 4, 2) := by decide +kernel
theorem dX9_ahead_96 : decode cX9_ahead 96 = .ok (.aload_n 0, 1) := by decide +kernel
theorem dX9_ahead_97 : decode cX9_ahead 97 = .ok (.getfield 16, 3) := by decide +kernel
theorem dX9_ahead_100 : decode cX9_ahead 100 = .ok (.aload_n 0, 1) := by decide +kernel
theorem dX9_ahead_101 : decode cX9_ahead 101 = .ok (.getfield 9, 3) := by decide +kernel
theorem dX9_ahead_104 : decode cX9_ahead 104 = .ok (.invokestatic 166, 3) := by decide +kernel
theorem dX9_ahead_107 : decode cX9_ahead 107 = .ok (.iload 4, 2) := by decide +kernel
theorem dX9_ahead_109 : decode cX9_ahead 109 = .ok (.ireturn, 1) := by decide +kernel
theorem dX9_isAhead_0 : decode cX9_isAhead 0 = .ok (.aload_n 0, 1) := by decide +kernel
theorem dX9_isAhead_1 : decode cX9_isAhead 1 = .ok (.iload_n 1, 1) := by decide +kernel
theorem dX9_isAhead_2 : decode cX9_isAhead 2 = .ok (.iconst 4, 1) := by decide +kernel
theorem dX9_isAhead_3 : decode cX9_isAhead 3 = .ok (.invokevirtual 62, 3) := by decide +kernel
theorem dX9_isAhead_6 : decode cX9_isAhead 6 = .ok (.aload_n 0, 1) := by decide +kernel
theorem dX9_isAhead_7 : decode cX9_isAhead 7 = .ok (.iload_n 2, 1) := by decide +kernel
theorem dX9_isAhead_8 : decode cX9_isAhead 8 = .ok (.iconst 4, 1) := by decide +kernel
theorem dX9_isAhead_9 : decode cX9_isAhead 9 = .ok (.invokevirtual 62, 3) := by decide +kernel
theorem dX9_isAhead_12 : decode cX9_isAhead 12 = .ok (.if_icmp .lt 23, 3) := by decide +kernel
theorem dX9_isAhead_15 : decode cX9_isAhead 15 = .ok (.aload_n 0, 1) := by decide +kernel
theorem dX9_isAhead_16 : decode cX9_isAhead 16 = .ok (.iload_n 1, 1) := by decide +kernel
theorem dX9_isAhead_17 : decode cX9_isAhead 17 = .ok (.iconst 4, 1) := by decide +kernel
theorem dX9_isAhead_18 : decode cX9_isAhead 18 = .ok (.invokevirtual 62, 3) := by decide +kernel
theorem dX9_isAhead_21 : decode cX9_isAhead 21 = .ok (.aload_n 0, 1) := by decide +kernel
theorem dX9_isAhead_22 : decode cX9_isAhead 22 = .ok (.iload_n 2, 1) := by decide +kernel
theorem dX9_isAhead_23 : decode cX9_isAhead 23 = .ok (.iconst 4, 1) := by decide +kernel
theorem dX9_isAhead_24 : decode cX9_isAhead 24 = .ok (.invokevirtual 62, 3) := by decide +kernel
theorem dX9_isAhead_27 : decode cX9_isAhead 27 = .ok (.if_icmp .ne 12, 3) := by decide +kernel
theorem dX9_isAhead_30 : decode cX9_isAhead 30 = .ok (.iload_n 1, 1) := by decide +kernel
theorem dX9_isAhead_31 : decode cX9_isAhead 31 = .ok (.iload_n 2, 1) := by decide +kernel
theorem dX9_isAhead_32 : decode cX9_isAhead 32 = .ok (.if_icmp .ge 7, 3) := by decide +kernel
theorem dX9_isAhead_35 : decode cX9_isAhead 35 = .ok (.iconst 1, 1) := by decide +kernel
theorem dX9_isAhead_36 : decode cX9_isAhead 36 = .ok (.goto 4, 3) := by decide +kernel
theorem dX9_isAhead_39 : decode cX9_isAhead 39 = .ok (.iconst 0, 1) := by decide +kernel
theorem dX9_isAhead_40 : decode cX9_isAhead 40 = .ok (.ireturn, 1) := by decide +kernel
theorem dX9_firstHome_0 : decode cX9_firstHome 0 = .ok (.iconst (-1), 1) := by decide +kernel
theorem dX9_firstHome_1 : decode cX9_firstHome 1 = .ok (.istore_n 1, 1) := by decide +kernel
theorem dX9_firstHome_2 : decode cX9_firstHome 2 = .ok (.iconst 0, 1) := by decide +kernel
theorem dX9_firstHome_3 : decode cX9_firstHome 3 = .ok (.istore_n 2, 1) := by decide +kernel
theorem dX9_firstHome_4 : decode cX9_firstHome 4 = .ok (.iload_n 2, 1) := by decide +kernel
theorem dX9_firstHome_5 : decode cX9_firstHome 5 = .ok (.aload_n 0, 1) := by decide +kernel
theorem dX9_firstHome_6 : decode cX9_firstHome 6 = .ok (.getfield 9, 3) := by decide +kernel
theorem dX9_firstHome_9 : decode cX9_firstHome 9 = .ok (.iconst 2, 1) := by decide +kernel
theorem dX9_firstHome_10 : decode cX9_firstHome 10 = .ok (.iaload, 1) := by decide +kernel
theorem dX9_firstHome_11 : decode cX9_firstHome 11 = .ok (.if_icmp .ge 24, 3) := by decide +kernel
theorem dX9_firstHome_14 : decode cX9_firstHome 14 = .ok (.iload_n 1, 1) := by decide +kernel
theorem dX9_firstHome_15 : decode cX9_firstHome 15 = .ok (.ifCond .lt 12, 3) := by decide +kernel
theorem dX9_firstHome_18 : decode cX9_firstHome 18 = .ok (.aload_n 0, 1) := by decide +kernel
theorem dX9_firstHome_19 : decode cX9_firstHome 19 = .ok (.iload_n 2, 1) := by decide +kernel
theorem dX9_firstHome_20 : decode cX9_firstHome 20 = .ok (.iload_n 1, 1) := by decide +kernel
theorem dX9_firstHome_21 : decode cX9_firstHome 21 = .ok (.invokevirtual 170, 3) := by decide +kernel
theorem dX9_firstHome_24 : decode cX9_firstHome 24 = .ok (.ifCond .eq 5, 3) := by decide +kernel
theorem dX9_firstHome_27 : decode cX9_firstHome 27 = .ok (.iload_n 2, 1) := by decide +kernel
theorem dX9_firstHome_28 : decode cX9_firstHome 28 = .ok (.istore_n 1, 1) := by decide +kernel
theorem dX9_firstHome_29 : decode cX9_firstHome 29 = .ok (.iinc 2 1, 3) := by decide +kernel
theorem dX9_firstHome_32 : decode cX9_firstHome 32 = .ok (.goto (-28), 3) := by decide +kernel
theorem dX9_firstHome_35 : decode cX9_firstHome 35 = .ok (.iload_n 1, 1) := by decide +kernel
theorem dX9_firstHome_36 : decode cX9_firstHome 36 = .ok (.ireturn, 1) := by decide +kernel
theorem dX9_allGoHome_0 : decode cX9_allGoHome 0 = .ok (.aload_n 0, 1) := by decide +kernel
theorem dX9_allGoHome_1 : decode cX9_allGoHome 1 = .ok (.sipush 180, 3) := by decide +kernel
theorem dX9_allGoHome_4 : decode cX9_allGoHome 4 = .ok (.invokevirtual 154, 3) := by decide +kernel
theorem dX9_allGoHome_7 : decode cX9_allGoHome 7 = .ok (.pop, 1) := by decide +kernel
theorem dX9_allGoHome_8 : decode cX9_allGoHome 8 = .ok (.return_, 1) := by decide +kernel
theorem dX9_winner_0 : decode cX9_winner 0 = .ok (.aload_n 0, 1) := by decide +kernel
theorem dX9_winner_1 : decode cX9_winner 1 = .ok (.getfield 9, 3) := by decide +kernel
theorem dX9_winner_4 : decode cX9_winner 4 = .ok (.aload_n 0, 1) := by decide +kernel
theorem dX9_winner_5 : decode cX9_winner 5 = .ok (.getfield 16, 3) := by decide +kernel
theorem dX9_winner_8 : decode cX9_winner 8 = .ok (.invokestatic 166, 3) := by decide +kernel
theorem dX9_winner_11 : decode cX9_winner 11 = .ok (.aload_n 0, 1) := by decide +kernel
theorem dX9_winner_12 : decode cX9_winner 12 = .ok (.invokevirtual 173, 3) := by decide +kernel
theorem dX9_winner_15 : decode cX9_winner 15 = .ok (.aload_n 0, 1) := by decide +kernel
theorem dX9_winner_16 : decode cX9_winner 16 = .ok (.invokevirtual 176, 3) := by decide +kernel
theorem dX9_winner_19 : decode cX9_winner 19 = .ok (.istore_n 1, 1) := by decide +kernel
theorem dX9_winner_20 : decode cX9_winner 20 = .ok (.aload_n 0, 1) := by decide +kernel
theorem dX9_winner_21 : decode cX9_winner 21 = .ok (.getfield 16, 3) := by decide +kernel
theorem dX9_winner_24 : decode cX9_winner 24 = .ok (.aload_n 0, 1) := by decide +kernel
theorem dX9_winner_25 : decode cX9_winner 25 = .ok (.getfield 9, 3) := by decide +kernel
theorem dX9_winner_28 : decode cX9_winner 28 = .ok (.invokestatic 166, 3) := by decide +kernel
theorem dX9_winner_31 : decode cX9_winner 31 = .ok (.aload_n 0, 1) := by decide +kernel
theorem dX9_winner_32 : decode cX9_winner 32 = .ok (.iload_n 1, 1) := by decide +kernel
theorem dX9_winner_33 : decode cX9_winner 33 = .ok (.invokevirtual 143, 3) := by decide +kernel
theorem dX9_winner_36 : decode cX9_winner 36 = .ok (.ireturn, 1) := by decide +kernel
theorem dX9_place_0 : decode cX9_place 0 = .ok (.aload_n 0, 1) := by decide +kernel
theorem dX9_place_1 : decode cX9_place 1 = .ok (.iload_n 1, 1) := by decide +kernel
theorem dX9_place_2 : decode cX9_place 2 = .ok (.invokevirtual 91, 3) := by decide +kernel
theorem dX9_place_5 : decode cX9_place 5 = .ok (.ifCond .ne 10, 3) := by decide +kernel
theorem dX9_place_8 : decode cX9_place 8 = .ok (.aload_n 0, 1) := by decide +kernel
theorem dX9_place_9 : decode cX9_place 9 = .ok (.ldc 46, 2) := by decide +kernel
theorem dX9_place_11 : decode cX9_place 11 = .ok (.invokevirtual 48, 3) := by decide +kernel
theorem dX9_place_14 : decode cX9_place 14 = .ok (.ireturn, 1) := by decide +kernel
theorem dX9_place_15 : decode cX9_place 15 = .ok (.aload_n 0, 1) := by decide +kernel
theorem dX9_place_16 : decode cX9_place 16 = .ok (.getfield 9, 3) := by decide +kernel
theorem dX9_place_19 : decode cX9_place 19 = .ok (.aload_n 0, 1) := by decide +kernel
theorem dX9_place_20 : decode cX9_place 20 = .ok (.getfield 16, 3) := by decide +kernel
theorem dX9_place_23 : decode cX9_place 23 = .ok (.invokestatic 166, 3) := by decide +kernel
theorem dX9_place_26 : decode cX9_place 26 = .ok (.aload_n 0, 1) := by decide +kernel
theorem dX9_place_27 : decode cX9_place 27 = .ok (.invokevirtual 173, 3) := by decide +kernel
theorem dX9_place_30 : decode cX9_place 30 = .ok (.iconst 1, 1) := by decide +kernel
theorem dX9_place_31 : decode cX9_place 31 = .ok (.istore_n 2, 1) := by decide +kernel
theorem dX9_place_32 : decode cX9_place 32 = .ok (.iconst 0, 1) := by decide +kernel
theorem dX9_place_33 : decode cX9_place 33 = .ok (.istore_n 3, 1) := by decide +kernel
theorem dX9_place_34 : decode cX9_place 34 = .ok (.iload_n 3, 1) := by decide +kernel
theorem dX9_place_35 : decode cX9_place 35 = .ok (.aload_n 0, 1) := by decide +kernel
theorem dX9_place_36 : decode cX9_place 36 = .ok (.getfield 9, 3) := by decide +kernel
theorem dX9_place_39 : decode cX9_place 39 = .ok (.iconst 2, 1) := by decide +kernel
theorem dX9_place_40 : decode cX9_place 40 = .ok (.iaload, 1) := by decide +kernel
theorem dX9_place_41 : decode cX9_place 41 = .ok (.if_icmp .ge 31, 3) := by decide +kernel
theorem dX9_place_44 : decode cX9_place 44 = .ok (.iload_n 2, 1) := by decide +kernel
theorem dX9_place_45 : decode cX9_place 45 = .ok (.iload_n 3, 1) := by decide +kernel
theorem dX9_place_46 : decode cX9_place 46 = .ok (.iload_n 1, 1) := by decide +kernel
theorem dX9_place_47 : decode cX9_place 47 = .ok (.if_icmp .eq 16, 3) := by decide +kernel
theorem dX9_place_50 : decode cX9_place 50 = .ok (.aload_n 0, 1) := by decide +kernel
theorem dX9_place_51 : decode cX9_place 51 = .ok (.iload_n 3, 1) := by decide +kernel
theorem dX9_place_52 : decode cX9_place 52 = .ok (.iload_n 1, 1) := by decide +kernel
theorem dX9_place_53 : decode cX9_place 53 = .ok (.invokevirtual 170, 3) := by decide +kernel
theorem dX9_place_56 : decode cX9_place 56 = .ok (.ifCond .eq 7, 3) := by decide +kernel
theorem dX9_place_59 : decode cX9_place 59 = .ok (.iconst 1, 1) := by decide +kernel
theorem dX9_place_60 : decode cX9_place 60 = .ok (.goto 4, 3) := by decide +kernel
theorem dX9_place_63 : decode cX9_place 63 = .ok (.iconst 0, 1) := by decide +kernel
theorem dX9_place_64 : decode cX9_place 64 = .ok (.iadd, 1) := by decide +kernel
theorem dX9_place_65 : decode cX9_place 65 = .ok (.istore_n 2, 1) := by decide +kernel
theorem dX9_place_66 : decode cX9_place 66 = .ok (.iinc 3 1, 3) := by decide +kernel
theorem dX9_place_69 : decode cX9_place 69 = .ok (.goto (-35), 3) := by decide +kernel
theorem dX9_place_72 : decode cX9_place 72 = .ok (.aload_n 0, 1) := by decide +kernel
theorem dX9_place_73 : decode cX9_place 73 = .ok (.getfield 16, 3) := by decide +kernel
theorem dX9_place_76 : decode cX9_place 76 = .ok (.aload_n 0, 1) := by decide +kernel
theorem dX9_place_77 : decode cX9_place 77 = .ok (.getfield 9, 3) := by decide +kernel
theorem dX9_place_80 : decode cX9_place 80 = .ok (.invokestatic 166, 3) := by decide +kernel
theorem dX9_place_83 : decode cX9_place 83 = .ok (.iload_n 2, 1) := by decide +kernel
theorem dX9_place_84 : decode cX9_place 84 = .ok (.ireturn, 1) := by decide +kernel
theorem dX9_wins_0 : decode cX9_wins 0 = .ok (.aload_n 0, 1) := by decide +kernel
theorem dX9_wins_1 : decode cX9_wins 1 = .ok (.iload_n 1, 1) := by decide +kernel
theorem dX9_wins_2 : decode cX9_wins 2 = .ok (.invokevirtual 91, 3) := by decide +kernel
theorem dX9_wins_5 : decode cX9_wins 5 = .ok (.ifCond .eq 15, 3) := by decide +kernel
theorem dX9_wins_8 : decode cX9_wins 8 = .ok (.iload_n 2, 1) := by decide +kernel
theorem dX9_wins_9 : decode cX9_wins 9 = .ok (.i2l, 1) := by decide +kernel
theorem dX9_wins_10 : decode cX9_wins 10 = .ok (.lconst 1, 1) := by decide +kernel
theorem dX9_wins_11 : decode cX9_wins 11 = .ok (.ldc2_w 179, 3) := by decide +kernel
theorem dX9_wins_14 : decode cX9_wins 14 = .ok (.invokestatic 54, 3) := by decide +kernel
theorem dX9_wins_17 : decode cX9_wins 17 = .ok (.ifCond .ne 10, 3) := by decide +kernel
theorem dX9_wins_20 : decode cX9_wins 20 = .ok (.aload_n 0, 1) := by decide +kernel
theorem dX9_wins_21 : decode cX9_wins 21 = .ok (.ldc 46, 2) := by decide +kernel
theorem dX9_wins_23 : decode cX9_wins 23 = .ok (.invokevirtual 48, 3) := by decide +kernel
theorem dX9_wins_26 : decode cX9_wins 26 = .ok (.ireturn, 1) := by decide +kernel
theorem dX9_wins_27 : decode cX9_wins 27 = .ok (.aload_n 0, 1) := by decide +kernel
theorem dX9_wins_28 : decode cX9_wins 28 = .ok (.getfield 9, 3) := by decide +kernel
theorem dX9_wins_31 : decode cX9_wins 31 = .ok (.aload_n 0, 1) := by decide +kernel
theorem dX9_wins_32 : decode cX9_wins 32 = .ok (.getfield 16, 3) := by decide +kernel
theorem dX9_wins_35 : decode cX9_wins 35 = .ok (.invokestatic 166, 3) := by decide +kernel
theorem dX9_wins_38 : decode cX9_wins 38 = .ok (.iconst 0, 1) := by decide +kernel
theorem dX9_wins_39 : decode cX9_wins 39 = .ok (.istore_n 3, 1) := by decide +kernel
theorem dX9_wins_40 : decode cX9_wins 40 = .ok (.iconst 0, 1) := by decide +kernel
theorem dX9_wins_41 : decode cX9_wins 41 = .ok (.istore 4, 2) := by decide +kernel
theorem dX9_wins_43 : decode cX9_wins 43 = .ok (.iload 4, 2) := by decide +kernel
theorem dX9_wins_45 : decode cX9_wins 45 = .ok (.iload_n 2, 1) := by decide +kernel
theorem dX9_wins_46 : decode cX9_wins 46 = .ok (.if_icmp .ge 33, 3) := by decide +kernel
theorem dX9_wins_49 : decode cX9_wins 49 = .ok (.aload_n 0, 1) := by decide +kernel
theorem dX9_wins_50 : decode cX9_wins 50 = .ok (.invokevirtual 163, 3) := by decide +kernel
theorem dX9_wins_53 : decode cX9_wins 53 = .ok (.aload_n 0, 1) := by decide +kernel
theorem dX9_wins_54 : decode cX9_wins 54 = .ok (.invokevirtual 173, 3) := by decide +kernel
theorem dX9_wins_57 : decode cX9_wins 57 = .ok (.iload_n 3, 1) := by decide +kernel
theorem dX9_wins_58 : decode cX9_wins 58 = .ok (.aload_n 0, 1) := by decide +kernel
theorem dX9_wins_59 : decode cX9_wins 59 = .ok (.invokevirtual 176, 3) := by decide +kernel
theorem dX9_wins_62 : decode cX9_wins 62 = .ok (.iload_n 1, 1) := by decide +kernel
theorem dX9_wins_63 : decode cX9_wins 63 = .ok (.if_icmp .ne 7, 3) := by decide +kernel
theorem dX9_wins_66 : decode cX9_wins 66 = .ok (.iconst 1, 1) := by decide +kernel
theorem dX9_wins_67 : decode cX9_wins 67 = .ok (.goto 4, 3) := by decide +kernel
theorem dX9_wins_70 : decode cX9_wins 70 = .ok (.iconst 0, 1) := by decide +kernel
theorem dX9_wins_71 : decode cX9_wins 71 = .ok (.iadd, 1) := by decide +kernel
theorem dX9_wins_72 : decode cX9_wins 72 = .ok (.istore_n 3, 1) := by decide +kernel
theorem dX9_wins_73 : decode cX9_wins 73 = .ok (.iinc 4 1, 3) := by decide +kernel
theorem dX9_wins_76 : decode cX9_wins 76 = .ok (.goto (-33), 3) := by decide +kernel
theorem dX9_wins_79 : decode cX9_wins 79 = .ok (.aload_n 0, 1) := by decide +kernel
theorem dX9_wins_80 : decode cX9_wins 80 = .ok (.getfield 9, 3) := by decide +kernel
theorem dX9_wins_83 : decode cX9_wins 83 = .ok (.iconst 1, 1) := by decide +kernel
theorem dX9_wins_84 : decode cX9_wins 84 = .ok (.iaload, 1) := by decide +kernel
theorem dX9_wins_85 : decode cX9_wins 85 = .ok (.istore 4, 2) := by decide +kernel
theorem dX9_wins_87 : decode cX9_wins 87 = .ok (.aload_n 0, 1) := by decide +kernel
theorem dX9_wins_88 : decode cX9_wins 88 = .ok (.getfield 16, 3) := by decide +kernel
theorem dX9_wins_91 : decode cX9_wins 91 = .ok (.aload_n 0, 1) := by decide +kernel
theorem dX9_wins_92 : decode cX9_wins 92 = .ok (.getfield 9, 3) := by decide +kernel
theorem dX9_wins_95 : decode cX9_wins 95 = .ok (.invokestatic 166, 3) := by decide +kernel
theorem dX9_wins_98 : decode cX9_wins 98 = .ok (.aload_n 0, 1) := by decide +kernel
theorem dX9_wins_99 : decode cX9_wins 99 = .ok (.getfield 9, 3) := by decide +kernel
theorem dX9_wins_102 : decode cX9_wins 102 = .ok (.iconst 1, 1) := by decide +kernel
theorem dX9_wins_103 : decode cX9_wins 103 = .ok (.iload 4, 2) := by decide +kernel
theorem dX9_wins_105 : decode cX9_wins 105 = .ok (.iastore, 1) := by decide +kernel
theorem dX9_wins_106 : decode cX9_wins 106 = .ok (.iload_n 3, 1) := by decide +kernel
theorem dX9_wins_107 : decode cX9_wins 107 = .ok (.ireturn, 1) := by decide +kernel
theorem dX9_isStretch_0 : decode cX9_isStretch 0 = .ok (.aload_n 0, 1) := by decide +kernel
theorem dX9_isStretch_1 : decode cX9_isStretch 1 = .ok (.iload_n 1, 1) := by decide +kernel
theorem dX9_isStretch_2 : decode cX9_isStretch 2 = .ok (.invokevirtual 91, 3) := by decide +kernel
theorem dX9_isStretch_5 : decode cX9_isStretch 5 = .ok (.ifCond .eq 34, 3) := by decide +kernel
theorem dX9_isStretch_8 : decode cX9_isStretch 8 = .ok (.iload_n 2, 1) := by decide +kernel
theorem dX9_isStretch_9 : decode cX9_isStretch 9 = .ok (.invokestatic 66, 3) := by decide +kernel
theorem dX9_isStretch_12 : decode cX9_isStretch 12 = .ok (.ifCond .eq 27, 3) := by decide +kernel
theorem dX9_isStretch_15 : decode cX9_isStretch 15 = .ok (.iload_n 3, 1) := by decide +kernel
theorem dX9_isStretch_16 : decode cX9_isStretch 16 = .ok (.i2l, 1) := by decide +kernel
theorem dX9_isStretch_17 : decode cX9_isStretch 17 = .ok (.lconst 0, 1) := by decide +kernel
theorem dX9_isStretch_18 : decode cX9_isStretch 18 = .ok (.iload 4, 2) := by decide +kernel
theorem dX9_isStretch_20 : decode cX9_isStretch 20 = .ok (.i2l, 1) := by decide +kernel
theorem dX9_isStretch_21 : decode cX9_isStretch 21 = .ok (.invokestatic 54, 3) := by decide +kernel
theorem dX9_isStretch_24 : decode cX9_isStretch 24 = .ok (.ifCond .eq 15, 3) := by decide +kernel
theorem dX9_isStretch_27 : decode cX9_isStretch 27 = .ok (.iload_n 2, 1) := by decide +kernel
theorem dX9_isStretch_28 : decode cX9_isStretch 28 = .ok (.iload_n 3, 1) := by decide +kernel
theorem dX9_isStretch_29 : decode cX9_isStretch 29 = .ok (.iadd, 1) := by decide +kernel
theorem dX9_isStretch_30 : decode cX9_isStretch 30 = .ok (.bipush 30, 2) := by decide +kernel
theorem dX9_isStretch_32 : decode cX9_isStretch 32 = .ok (.if_icmp .gt 7, 3) := by decide +kernel
theorem dX9_isStretch_35 : decode cX9_isStretch 35 = .ok (.iconst 1, 1) := by decide +kernel
theorem dX9_isStretch_36 : decode cX9_isStretch 36 = .ok (.goto 4, 3) := by decide +kernel
theorem dX9_isStretch_39 : decode cX9_isStretch 39 = .ok (.iconst 0, 1) := by decide +kernel
theorem dX9_isStretch_40 : decode cX9_isStretch 40 = .ok (.ireturn, 1) := by decide +kernel
theorem dX9_oddsAt_0 : decode cX9_oddsAt 0 = .ok (.aload_n 0, 1) := by decide +kernel
theorem dX9_oddsAt_1 : decode cX9_oddsAt 1 = .ok (.iload_n 1, 1) := by decide +kernel
theorem dX9_oddsAt_2 : decode cX9_oddsAt 2 = .ok (.iload_n 2, 1) := by decide +kernel
theorem dX9_oddsAt_3 : decode cX9_oddsAt 3 = .ok (.aload_n 0, 1) := by decide +kernel
theorem dX9_oddsAt_4 : decode cX9_oddsAt 4 = .ok (.iload_n 1, 1) := by decide +kernel
theorem dX9_oddsAt_5 : decode cX9_oddsAt 5 = .ok (.iload_n 2, 1) := by decide +kernel
theorem dX9_oddsAt_6 : decode cX9_oddsAt 6 = .ok (.invokevirtual 110, 3) := by decide +kernel
theorem dX9_oddsAt_9 : decode cX9_oddsAt 9 = .ok (.iload_n 3, 1) := by decide +kernel
theorem dX9_oddsAt_10 : decode cX9_oddsAt 10 = .ok (.iconst 0, 1) := by decide +kernel
theorem dX9_oddsAt_11 : decode cX9_oddsAt 11 = .ok (.invokevirtual 122, 3) := by decide +kernel
theorem dX9_oddsAt_14 : decode cX9_oddsAt 14 = .ok (.ireturn, 1) := by decide +kernel
theorem dX9_clean_0 : decode cX9_clean 0 = .ok (.aload_n 0, 1) := by decide +kernel
theorem dX9_clean_1 : decode cX9_clean 1 = .ok (.iload_n 1, 1) := by decide +kernel
theorem dX9_clean_2 : decode cX9_clean 2 = .ok (.iload_n 2, 1) := by decide +kernel
theorem dX9_clean_3 : decode cX9_clean 3 = .ok (.iload_n 3, 1) := by decide +kernel
theorem dX9_clean_4 : decode cX9_clean 4 = .ok (.bipush 12, 2) := by decide +kernel
theorem dX9_clean_6 : decode cX9_clean 6 = .ok (.invokevirtual 181, 3) := by decide +kernel
theorem dX9_clean_9 : decode cX9_clean 9 = .ok (.ifCond .ne 11, 3) := by decide +kernel
theorem dX9_clean_12 : decode cX9_clean 12 = .ok (.aload_n 0, 1) := by decide +kernel
theorem dX9_clean_13 : decode cX9_clean 13 = .ok (.ldc 46, 2) := by decide +kernel
theorem dX9_clean_15 : decode cX9_clean 15 = .ok (.invokevirtual 48, 3) := by decide +kernel
theorem dX9_clean_18 : decode cX9_clean 18 = .ok (.i2l, 1) := by decide +kernel
theorem dX9_clean_19 : decode cX9_clean 19 = .ok (.lreturn, 1) := by decide +kernel
theorem dX9_clean_20 : decode cX9_clean 20 = .ok (.lconst 1, 1) := by decide +kernel
theorem dX9_clean_21 : decode cX9_clean 21 = .ok (.lstore 4, 2) := by decide +kernel
theorem dX9_clean_23 : decode cX9_clean 23 = .ok (.iconst 0, 1) := by decide +kernel
theorem dX9_clean_24 : decode cX9_clean 24 = .ok (.istore 6, 2) := by decide +kernel
theorem dX9_clean_26 : decode cX9_clean 26 = .ok (.iload 6, 2) := by decide +kernel
theorem dX9_clean_28 : decode cX9_clean 28 = .ok (.iload_n 3, 1) := by decide +kernel
theorem dX9_clean_29 : decode cX9_clean 29 = .ok (.if_icmp .ge 28, 3) := by decide +kernel
theorem dX9_clean_32 : decode cX9_clean 32 = .ok (.lload 4, 2) := by decide +kernel
theorem dX9_clean_34 : decode cX9_clean 34 = .ok (.bipush 24, 2) := by decide +kernel
theorem dX9_clean_36 : decode cX9_clean 36 = .ok (.aload_n 0, 1) := by decide +kernel
theorem dX9_clean_37 : decode cX9_clean 37 = .ok (.iload_n 1, 1) := by decide +kernel
theorem dX9_clean_38 : decode cX9_clean 38 = .ok (.iload_n 2, 1) := by decide +kernel
theorem dX9_clean_39 : decode cX9_clean 39 = .ok (.iload 6, 2) := by decide +kernel
theorem dX9_clean_41 : decode cX9_clean 41 = .ok (.iadd, 1) := by decide +kernel
theorem dX9_clean_42 : decode cX9_clean 42 = .ok (.iconst 0, 1) := by decide +kernel
theorem dX9_clean_43 : decode cX9_clean 43 = .ok (.invokevirtual 185, 3) := by decide +kernel
theorem dX9_clean_46 : decode cX9_clean 46 = .ok (.isub, 1) := by decide +kernel
theorem dX9_clean_47 : decode cX9_clean 47 = .ok (.i2l, 1) := by decide +kernel
theorem dX9_clean_48 : decode cX9_clean 48 = .ok (.lmul, 1) := by decide +kernel
theorem dX9_clean_49 : decode cX9_clean 49 = .ok (.lstore 4, 2) := by decide +kernel
theorem dX9_clean_51 : decode cX9_clean 51 = .ok (.iinc 6 1, 3) := by decide +kernel
theorem dX9_clean_54 : decode cX9_clean 54 = .ok (.goto (-28), 3) := by decide +kernel
theorem dX9_clean_57 : decode cX9_clean 57 = .ok (.lload 4, 2) := by decide +kernel
theorem dX9_clean_59 : decode cX9_clean 59 = .ok (.lreturn, 1) := by decide +kernel
theorem dX9_dropping_0 : decode cX9_dropping 0 = .ok (.iload 4, 2) := by decide +kernel
theorem dX9_dropping_2 : decode cX9_dropping 2 = .ok (.ifCond .lt 9, 3) := by decide +kernel
theorem dX9_dropping_5 : decode cX9_dropping 5 = .ok (.iload 4, 2) := by decide +kernel
theorem dX9_dropping_7 : decode cX9_dropping 7 = .ok (.iload_n 3, 1) := by decide +kernel
theorem dX9_dropping_8 : decode cX9_dropping 8 = .ok (.if_icmp .le 5, 3) := by decide +kernel
theorem dX9_dropping_11 : decode cX9_dropping 11 = .ok (.lconst 0, 1) := by decide +kernel
theorem dX9_dropping_12 : decode cX9_dropping 12 = .ok (.lreturn, 1) := by decide +kernel
theorem dX9_dropping_13 : decode cX9_dropping 13 = .ok (.iload_n 3, 1) := by decide +kernel
theorem dX9_dropping_14 : decode cX9_dropping 14 = .ok (.ifCond .ne 5, 3) := by decide +kernel
theorem dX9_dropping_17 : decode cX9_dropping 17 = .ok (.lconst 1, 1) := by decide +kernel
theorem dX9_dropping_18 : decode cX9_dropping 18 = .ok (.lreturn, 1) := by decide +kernel
theorem dX9_dropping_19 : decode cX9_dropping 19 = .ok (.aload_n 0, 1) := by decide +kernel
theorem dX9_dropping_20 : decode cX9_dropping 20 = .ok (.iload_n 1, 1) := by decide +kernel
theorem dX9_dropping_21 : decode cX9_dropping 21 = .ok (.iload_n 2, 1) := by decide +kernel
theorem dX9_dropping_22 : decode cX9_dropping 22 = .ok (.iload 5, 2) := by decide +kernel
theorem dX9_dropping_24 : decode cX9_dropping 24 = .ok (.ifCond .le 7, 3) := by decide +kernel
theorem dX9_dropping_27 : decode cX9_dropping 27 = .ok (.iconst 1, 1) := by decide +kernel
theorem dX9_dropping_28 : decode cX9_dropping 28 = .ok (.goto 4, 3) := by decide +kernel
theorem dX9_dropping_31 : decode cX9_dropping 31 = .ok (.iconst 0, 1) := by decide +kernel
theorem dX9_dropping_32 : decode cX9_dropping 32 = .ok (.invokevirtual 185, 3) := by decide +kernel
theorem dX9_dropping_35 : decode cX9_dropping 35 = .ok (.istore 6, 2) := by decide +kernel
theorem dX9_dropping_37 : decode cX9_dropping 37 = .ok (.bipush 24, 2) := by decide +kernel
theorem dX9_dropping_39 : decode cX9_dropping 39 = .ok (.iload 6, 2) := by decide +kernel
theorem dX9_dropping_41 : decode cX9_dropping 41 = .ok (.isub, 1) := by decide +kernel
theorem dX9_dropping_42 : decode cX9_dropping 42 = .ok (.i2l, 1) := by decide +kernel
theorem dX9_dropping_43 : decode cX9_dropping 43 = .ok (.aload_n 0, 1) := by decide +kernel
theorem dX9_dropping_44 : decode cX9_dropping 44 = .ok (.iload_n 1, 1) := by decide +kernel
theorem dX9_dropping_45 : decode cX9_dropping 45 = .ok (.iload_n 2, 1) := by decide +kernel
theorem dX9_dropping_46 : decode cX9_dropping 46 = .ok (.iconst 1, 1) := by decide +kernel
end
section
theorem dX9_dropping_47 : decode cX9_dropping 47 = .ok (.iadd, 1) := by decide +kernel
theorem dX9_dropping_48 : decode cX9_dropping 48 = .ok (.iload_n 3, 1) := by decide +kernel
theorem dX9_dropping_49 : decode cX9_dropping 49 = .ok (.iconst 1, 1) := by decide +kernel
theorem dX9_dropping_50 : decode cX9_dropping 50 = .ok (.isub, 1) := by decide +kernel
theorem dX9_dropping_51 : decode cX9_dropping 51 = .ok (.iload 4, 2) := by decide +kernel
theorem dX9_dropping_53 : decode cX9_dropping 53 = .ok (.iload 5, 2) := by decide +kernel
theorem dX9_dropping_55 : decode cX9_dropping 55 = .ok (.ifCond .le 10, 3) := by decide +kernel
theorem dX9_dropping_58 : decode cX9_dropping 58 = .ok (.iload 5, 2) := by decide +kernel
theorem dX9_dropping_60 : decode cX9_dropping 60 = .ok (.iconst 1, 1) := by decide +kernel
theorem dX9_dropping_61 : decode cX9_dropping 61 = .ok (.isub, 1) := by decide +kernel
theorem dX9_dropping_62 : decode cX9_dropping 62 = .ok (.goto 4, 3) := by decide +kernel
theorem dX9_dropping_65 : decode cX9_dropping 65 = .ok (.iconst 0, 1) := by decide +kernel
theorem dX9_dropping_66 : decode cX9_dropping 66 = .ok (.invokevirtual 189, 3) := by decide +kernel
theorem dX9_dropping_69 : decode cX9_dropping 69 = .ok (.lmul, 1) := by decide +kernel
theorem dX9_dropping_70 : decode cX9_dropping 70 = .ok (.lstore 7, 2) := by decide +kernel
theorem dX9_dropping_72 : decode cX9_dropping 72 = .ok (.iload 6, 2) := by decide +kernel
theorem dX9_dropping_74 : decode cX9_dropping 74 = .ok (.ifCond .ne 8, 3) := by decide +kernel
theorem dX9_dropping_77 : decode cX9_dropping 77 = .ok (.lload 7, 2) := by decide +kernel
theorem dX9_dropping_79 : decode cX9_dropping 79 = .ok (.goto 26, 3) := by decide +kernel
theorem dX9_dropping_82 : decode cX9_dropping 82 = .ok (.lload 7, 2) := by decide +kernel
theorem dX9_dropping_84 : decode cX9_dropping 84 = .ok (.iload 6, 2) := by decide +kernel
theorem dX9_dropping_86 : decode cX9_dropping 86 = .ok (.i2l, 1) := by decide +kernel
theorem dX9_dropping_87 : decode cX9_dropping 87 = .ok (.aload_n 0, 1) := by decide +kernel
theorem dX9_dropping_88 : decode cX9_dropping 88 = .ok (.iload_n 1, 1) := by decide +kernel
theorem dX9_dropping_89 : decode cX9_dropping 89 = .ok (.iload_n 2, 1) := by decide +kernel
theorem dX9_dropping_90 : decode cX9_dropping 90 = .ok (.iconst 1, 1) := by decide +kernel
theorem dX9_dropping_91 : decode cX9_dropping 91 = .ok (.iadd, 1) := by decide +kernel
theorem dX9_dropping_92 : decode cX9_dropping 92 = .ok (.iload_n 3, 1) := by decide +kernel
theorem dX9_dropping_93 : decode cX9_dropping 93 = .ok (.iconst 1, 1) := by decide +kernel
theorem dX9_dropping_94 : decode cX9_dropping 94 = .ok (.isub, 1) := by decide +kernel
theorem dX9_dropping_95 : decode cX9_dropping 95 = .ok (.iload 4, 2) := by decide +kernel
theorem dX9_dropping_97 : decode cX9_dropping 97 = .ok (.iconst 1, 1) := by decide +kernel
theorem dX9_dropping_98 : decode cX9_dropping 98 = .ok (.isub, 1) := by decide +kernel
theorem dX9_dropping_99 : decode cX9_dropping 99 = .ok (.iconst 3, 1) := by decide +kernel
theorem dX9_dropping_100 : decode cX9_dropping 100 = .ok (.invokevirtual 189, 3) := by decide +kernel
theorem dX9_dropping_103 : decode cX9_dropping 103 = .ok (.lmul, 1) := by decide +kernel
theorem dX9_dropping_104 : decode cX9_dropping 104 = .ok (.ladd, 1) := by decide +kernel
theorem dX9_dropping_105 : decode cX9_dropping 105 = .ok (.lreturn, 1) := by decide +kernel
theorem dX9_drops_0 : decode cX9_drops 0 = .ok (.aload_n 0, 1) := by decide +kernel
theorem dX9_drops_1 : decode cX9_drops 1 = .ok (.iload_n 1, 1) := by decide +kernel
theorem dX9_drops_2 : decode cX9_drops 2 = .ok (.iload_n 2, 1) := by decide +kernel
theorem dX9_drops_3 : decode cX9_drops 3 = .ok (.iload_n 3, 1) := by decide +kernel
theorem dX9_drops_4 : decode cX9_drops 4 = .ok (.bipush 10, 2) := by decide +kernel
theorem dX9_drops_6 : decode cX9_drops 6 = .ok (.invokevirtual 181, 3) := by decide +kernel
theorem dX9_drops_9 : decode cX9_drops 9 = .ok (.ifCond .eq 28, 3) := by decide +kernel
theorem dX9_drops_12 : decode cX9_drops 12 = .ok (.iload 4, 2) := by decide +kernel
theorem dX9_drops_14 : decode cX9_drops 14 = .ok (.i2l, 1) := by decide +kernel
theorem dX9_drops_15 : decode cX9_drops 15 = .ok (.lconst 0, 1) := by decide +kernel
theorem dX9_drops_16 : decode cX9_drops 16 = .ok (.iload_n 3, 1) := by decide +kernel
theorem dX9_drops_17 : decode cX9_drops 17 = .ok (.i2l, 1) := by decide +kernel
theorem dX9_drops_18 : decode cX9_drops 18 = .ok (.invokestatic 54, 3) := by decide +kernel
theorem dX9_drops_21 : decode cX9_drops 21 = .ok (.ifCond .eq 16, 3) := by decide +kernel
theorem dX9_drops_24 : decode cX9_drops 24 = .ok (.aload_n 0, 1) := by decide +kernel
theorem dX9_drops_25 : decode cX9_drops 25 = .ok (.iload_n 1, 1) := by decide +kernel
theorem dX9_drops_26 : decode cX9_drops 26 = .ok (.iload_n 2, 1) := by decide +kernel
theorem dX9_drops_27 : decode cX9_drops 27 = .ok (.iload_n 3, 1) := by decide +kernel
theorem dX9_drops_28 : decode cX9_drops 28 = .ok (.iload 4, 2) := by decide +kernel
theorem dX9_drops_30 : decode cX9_drops 30 = .ok (.iconst 0, 1) := by decide +kernel
theorem dX9_drops_31 : decode cX9_drops 31 = .ok (.invokevirtual 189, 3) := by decide +kernel
theorem dX9_drops_34 : decode cX9_drops 34 = .ok (.goto 10, 3) := by decide +kernel
theorem dX9_drops_37 : decode cX9_drops 37 = .ok (.aload_n 0, 1) := by decide +kernel
theorem dX9_drops_38 : decode cX9_drops 38 = .ok (.ldc 46, 2) := by decide +kernel
theorem dX9_drops_40 : decode cX9_drops 40 = .ok (.invokevirtual 48, 3) := by decide +kernel
theorem dX9_drops_43 : decode cX9_drops 43 = .ok (.i2l, 1) := by decide +kernel
theorem dX9_drops_44 : decode cX9_drops 44 = .ok (.lreturn, 1) := by decide +kernel
theorem dX9_behind_0 : decode cX9_behind 0 = .ok (.aload_n 0, 1) := by decide +kernel
theorem dX9_behind_1 : decode cX9_behind 1 = .ok (.iload_n 1, 1) := by decide +kernel
theorem dX9_behind_2 : decode cX9_behind 2 = .ok (.iload_n 2, 1) := by decide +kernel
theorem dX9_behind_3 : decode cX9_behind 3 = .ok (.iload 4, 2) := by decide +kernel
theorem dX9_behind_5 : decode cX9_behind 5 = .ok (.iload_n 3, 1) := by decide +kernel
theorem dX9_behind_6 : decode cX9_behind 6 = .ok (.ifCond .le 7, 3) := by decide +kernel
theorem dX9_behind_9 : decode cX9_behind 9 = .ok (.iconst 1, 1) := by decide +kernel
theorem dX9_behind_10 : decode cX9_behind 10 = .ok (.goto 4, 3) := by decide +kernel
theorem dX9_behind_13 : decode cX9_behind 13 = .ok (.iconst 0, 1) := by decide +kernel
theorem dX9_behind_14 : decode cX9_behind 14 = .ok (.iconst 0, 1) := by decide +kernel
theorem dX9_behind_15 : decode cX9_behind 15 = .ok (.invokevirtual 122, 3) := by decide +kernel
theorem dX9_behind_18 : decode cX9_behind 18 = .ok (.istore 5, 2) := by decide +kernel
theorem dX9_behind_20 : decode cX9_behind 20 = .ok (.iconst 4, 1) := by decide +kernel
theorem dX9_behind_21 : decode cX9_behind 21 = .ok (.iload_n 2, 1) := by decide +kernel
theorem dX9_behind_22 : decode cX9_behind 22 = .ok (.iconst 1, 1) := by decide +kernel
theorem dX9_behind_23 : decode cX9_behind 23 = .ok (.iadd, 1) := by decide +kernel
theorem dX9_behind_24 : decode cX9_behind 24 = .ok (.imul, 1) := by decide +kernel
theorem dX9_behind_25 : decode cX9_behind 25 = .ok (.istore 6, 2) := by decide +kernel
theorem dX9_behind_27 : decode cX9_behind 27 = .ok (.aload_n 0, 1) := by decide +kernel
theorem dX9_behind_28 : decode cX9_behind 28 = .ok (.getfield 22, 3) := by decide +kernel
theorem dX9_behind_31 : decode cX9_behind 31 = .ok (.iload 6, 2) := by decide +kernel
theorem dX9_behind_33 : decode cX9_behind 33 = .ok (.iload_n 3, 1) := by decide +kernel
theorem dX9_behind_34 : decode cX9_behind 34 = .ok (.ifCond .le 9, 3) := by decide +kernel
theorem dX9_behind_37 : decode cX9_behind 37 = .ok (.iload_n 3, 1) := by decide +kernel
theorem dX9_behind_38 : decode cX9_behind 38 = .ok (.iconst 1, 1) := by decide +kernel
theorem dX9_behind_39 : decode cX9_behind 39 = .ok (.isub, 1) := by decide +kernel
theorem dX9_behind_40 : decode cX9_behind 40 = .ok (.goto 4, 3) := by decide +kernel
theorem dX9_behind_43 : decode cX9_behind 43 = .ok (.iconst 0, 1) := by decide +kernel
theorem dX9_behind_44 : decode cX9_behind 44 = .ok (.iadd, 1) := by decide +kernel
theorem dX9_behind_45 : decode cX9_behind 45 = .ok (.iaload, 1) := by decide +kernel
theorem dX9_behind_46 : decode cX9_behind 46 = .ok (.istore 7, 2) := by decide +kernel
theorem dX9_behind_48 : decode cX9_behind 48 = .ok (.sipush 1000, 3) := by decide +kernel
theorem dX9_behind_51 : decode cX9_behind 51 = .ok (.aload_n 0, 1) := by decide +kernel
theorem dX9_behind_52 : decode cX9_behind 52 = .ok (.iload_n 1, 1) := by decide +kernel
theorem dX9_behind_53 : decode cX9_behind 53 = .ok (.iload 4, 2) := by decide +kernel
theorem dX9_behind_55 : decode cX9_behind 55 = .ok (.invokevirtual 119, 3) := by decide +kernel
theorem dX9_behind_58 : decode cX9_behind 58 = .ok (.imul, 1) := by decide +kernel
theorem dX9_behind_59 : decode cX9_behind 59 = .ok (.bipush 24, 2) := by decide +kernel
theorem dX9_behind_61 : decode cX9_behind 61 = .ok (.iload 5, 2) := by decide +kernel
theorem dX9_behind_63 : decode cX9_behind 63 = .ok (.isub, 1) := by decide +kernel
theorem dX9_behind_64 : decode cX9_behind 64 = .ok (.iload 7, 2) := by decide +kernel
theorem dX9_behind_66 : decode cX9_behind 66 = .ok (.imul, 1) := by decide +kernel
theorem dX9_behind_67 : decode cX9_behind 67 = .ok (.iload 5, 2) := by decide +kernel
theorem dX9_behind_69 : decode cX9_behind 69 = .ok (.sipush 1000, 3) := by decide +kernel
theorem dX9_behind_72 : decode cX9_behind 72 = .ok (.aload_n 0, 1) := by decide +kernel
theorem dX9_behind_73 : decode cX9_behind 73 = .ok (.getfield 9, 3) := by decide +kernel
theorem dX9_behind_76 : decode cX9_behind 76 = .ok (.iconst 0, 1) := by decide +kernel
theorem dX9_behind_77 : decode cX9_behind 77 = .ok (.iaload, 1) := by decide +kernel
theorem dX9_behind_78 : decode cX9_behind 78 = .ok (.imul, 1) := by decide +kernel
theorem dX9_behind_79 : decode cX9_behind 79 = .ok (.aload_n 0, 1) := by decide +kernel
theorem dX9_behind_80 : decode cX9_behind 80 = .ok (.getfield 22, 3) := by decide +kernel
theorem dX9_behind_83 : decode cX9_behind 83 = .ok (.iload 6, 2) := by decide +kernel
theorem dX9_behind_85 : decode cX9_behind 85 = .ok (.iconst 3, 1) := by decide +kernel
theorem dX9_behind_86 : decode cX9_behind 86 = .ok (.iadd, 1) := by decide +kernel
theorem dX9_behind_87 : decode cX9_behind 87 = .ok (.iaload, 1) := by decide +kernel
theorem dX9_behind_88 : decode cX9_behind 88 = .ok (.iadd, 1) := by decide +kernel
theorem dX9_behind_89 : decode cX9_behind 89 = .ok (.imul, 1) := by decide +kernel
theorem dX9_behind_90 : decode cX9_behind 90 = .ok (.iadd, 1) := by decide +kernel
theorem dX9_behind_91 : decode cX9_behind 91 = .ok (.bipush 24, 2) := by decide +kernel
theorem dX9_behind_93 : decode cX9_behind 93 = .ok (.idiv, 1) := by decide +kernel
theorem dX9_behind_94 : decode cX9_behind 94 = .ok (.iadd, 1) := by decide +kernel
theorem dX9_behind_95 : decode cX9_behind 95 = .ok (.ireturn, 1) := by decide +kernel
theorem dX9_means_0 : decode cX9_means 0 = .ok (.iconst 0, 1) := by decide +kernel
theorem dX9_means_1 : decode cX9_means 1 = .ok (.istore 4, 2) := by decide +kernel
theorem dX9_means_3 : decode cX9_means 3 = .ok (.iload 4, 2) := by decide +kernel
theorem dX9_means_5 : decode cX9_means 5 = .ok (.iconst 4, 1) := by decide +kernel
theorem dX9_means_6 : decode cX9_means 6 = .ok (.if_icmp .ge 21, 3) := by decide +kernel
theorem dX9_means_9 : decode cX9_means 9 = .ok (.aload_n 0, 1) := by decide +kernel
theorem dX9_means_10 : decode cX9_means 10 = .ok (.getfield 22, 3) := by decide +kernel
theorem dX9_means_13 : decode cX9_means 13 = .ok (.iconst 4, 1) := by decide +kernel
theorem dX9_means_14 : decode cX9_means 14 = .ok (.iload_n 2, 1) := by decide +kernel
theorem dX9_means_15 : decode cX9_means 15 = .ok (.imul, 1) := by decide +kernel
theorem dX9_means_16 : decode cX9_means 16 = .ok (.iload 4, 2) := by decide +kernel
theorem dX9_means_18 : decode cX9_means 18 = .ok (.iadd, 1) := by decide +kernel
theorem dX9_means_19 : decode cX9_means 19 = .ok (.iconst 0, 1) := by decide +kernel
theorem dX9_means_20 : decode cX9_means 20 = .ok (.iastore, 1) := by decide +kernel
theorem dX9_means_21 : decode cX9_means 21 = .ok (.iinc 4 1, 3) := by decide +kernel
theorem dX9_means_24 : decode cX9_means 24 = .ok (.goto (-21), 3) := by decide +kernel
theorem dX9_means_27 : decode cX9_means 27 = .ok (.iload_n 2, 1) := by decide +kernel
theorem dX9_means_28 : decode cX9_means 28 = .ok (.iconst 1, 1) := by decide +kernel
theorem dX9_means_29 : decode cX9_means 29 = .ok (.isub, 1) := by decide +kernel
theorem dX9_means_30 : decode cX9_means 30 = .ok (.istore 4, 2) := by decide +kernel
theorem dX9_means_32 : decode cX9_means 32 = .ok (.iload 4, 2) := by decide +kernel
theorem dX9_means_34 : decode cX9_means 34 = .ok (.ifCond .lt 130, 3) := by decide +kernel
theorem dX9_means_37 : decode cX9_means 37 = .ok (.iconst 0, 1) := by decide +kernel
theorem dX9_means_38 : decode cX9_means 38 = .ok (.istore 5, 2) := by decide +kernel
theorem dX9_means_40 : decode cX9_means 40 = .ok (.iload 5, 2) := by decide +kernel
theorem dX9_means_42 : decode cX9_means 42 = .ok (.iconst 4, 1) := by decide +kernel
theorem dX9_means_43 : decode cX9_means 43 = .ok (.if_icmp .ge 115, 3) := by decide +kernel
theorem dX9_means_46 : decode cX9_means 46 = .ok (.aload_n 0, 1) := by decide +kernel
theorem dX9_means_47 : decode cX9_means 47 = .ok (.iload_n 1, 1) := by decide +kernel
theorem dX9_means_48 : decode cX9_means 48 = .ok (.iload 4, 2) := by decide +kernel
theorem dX9_means_50 : decode cX9_means 50 = .ok (.invokevirtual 110, 3) := by decide +kernel
theorem dX9_means_53 : decode cX9_means 53 = .ok (.istore 6, 2) := by decide +kernel
theorem dX9_means_55 : decode cX9_means 55 = .ok (.iconst 1, 1) := by decide +kernel
theorem dX9_means_56 : decode cX9_means 56 = .ok (.istore 7, 2) := by decide +kernel
theorem dX9_means_58 : decode cX9_means 58 = .ok (.iload 7, 2) := by decide +kernel
theorem dX9_means_60 : decode cX9_means 60 = .ok (.bipush 9, 2) := by decide +kernel
theorem dX9_means_62 : decode cX9_means 62 = .ok (.if_icmp .gt 53, 3) := by decide +kernel
theorem dX9_means_65 : decode cX9_means 65 = .ok (.iload_n 3, 1) := by decide +kernel
theorem dX9_means_66 : decode cX9_means 66 = .ok (.ifCond .eq 49, 3) := by decide +kernel
theorem dX9_means_69 : decode cX9_means 69 = .ok (.iload 7, 2) := by decide +kernel
theorem dX9_means_71 : decode cX9_means 71 = .ok (.iconst 1, 1) := by decide +kernel
theorem dX9_means_72 : decode cX9_means 72 = .ok (.if_icmp .eq 28, 3) := by decide +kernel
theorem dX9_means_75 : decode cX9_means 75 = .ok (.aload_n 0, 1) := by decide +kernel
theorem dX9_means_76 : decode cX9_means 76 = .ok (.iload_n 1, 1) := by decide +kernel
theorem dX9_means_77 : decode cX9_means 77 = .ok (.iload 4, 2) := by decide +kernel
theorem dX9_means_79 : decode cX9_means 79 = .ok (.iload 5, 2) := by decide +kernel
theorem dX9_means_81 : decode cX9_means 81 = .ok (.iload 7, 2) := by decide +kernel
theorem dX9_means_83 : decode cX9_means 83 = .ok (.invokevirtual 193, 3) := by decide +kernel
theorem dX9_means_86 : decode cX9_means 86 = .ok (.aload_n 0, 1) := by decide +kernel
theorem dX9_means_87 : decode cX9_means 87 = .ok (.iload_n 1, 1) := by decide +kernel
theorem dX9_means_88 : decode cX9_means 88 = .ok (.iload 4, 2) := by decide +kernel
theorem dX9_means_90 : decode cX9_means 90 = .ok (.iload 5, 2) := by decide +kernel
theorem dX9_means_92 : decode cX9_means 92 = .ok (.iload 6, 2) := by decide +kernel
theorem dX9_means_94 : decode cX9_means 94 = .ok (.invokevirtual 193, 3) := by decide +kernel
theorem dX9_means_97 : decode cX9_means 97 = .ok (.if_icmp .ge 8, 3) := by decide +kernel
theorem dX9_means_100 : decode cX9_means 100 = .ok (.iload 7, 2) := by decide +kernel
theorem dX9_means_102 : decode cX9_means 102 = .ok (.goto 5, 3) := by decide +kernel
theorem dX9_means_105 : decode cX9_means 105 = .ok (.iload 6, 2) := by decide +kernel
theorem dX9_means_107 : decode cX9_means 107 = .ok (.istore 6, 2) := by decide +kernel
theorem dX9_means_109 : decode cX9_means 109 = .ok (.iinc 7 1, 3) := by decide +kernel
theorem dX9_means_112 : decode cX9_means 112 = .ok (.goto (-54), 3) := by decide +kernel
theorem dX9_means_115 : decode cX9_means 115 = .ok (.aload_n 0, 1) := by decide +kernel
theorem dX9_means_116 : decode cX9_means 116 = .ok (.getfield 22, 3) := by decide +kernel
theorem dX9_means_119 : decode cX9_means 119 = .ok (.iconst 4, 1) := by decide +kernel
theorem dX9_means_120 : decode cX9_means 120 = .ok (.iload 4, 2) := by decide +kernel
theorem dX9_means_122 : decode cX9_means 122 = .ok (.imul, 1) := by decide +kernel
theorem dX9_means_123 : decode cX9_means 123 = .ok (.iload 5, 2) := by decide +kernel
theorem dX9_means_125 : decode cX9_means 125 = .ok (.iadd, 1) := by decide +kernel
theorem dX9_means_126 : decode cX9_means 126 = .ok (.aload_n 0, 1) := by decide +kernel
theorem dX9_means_127 : decode cX9_means 127 = .ok (.iload_n 1, 1) := by decide +kernel
theorem dX9_means_128 : decode cX9_means 128 = .ok (.iload 4, 2) := by decide +kernel
theorem dX9_means_130 : decode cX9_means 130 = .ok (.iload 5, 2) := by decide +kernel
theorem dX9_means_132 : decode cX9_means 132 = .ok (.iload 6, 2) := by decide +kernel
theorem dX9_means_134 : decode cX9_means 134 = .ok (.invokevirtual 193, 3) := by decide +kernel
theorem dX9_means_137 : decode cX9_means 137 = .ok (.iastore, 1) := by decide +kernel
theorem dX9_means_138 : decode cX9_means 138 = .ok (.aload_n 0, 1) := by decide +kernel
theorem dX9_means_139 : decode cX9_means 139 = .ok (.getfield 25, 3) := by decide +kernel
theorem dX9_means_142 : decode cX9_means 142 = .ok (.iconst 4, 1) := by decide +kernel
theorem dX9_means_143 : decode cX9_means 143 = .ok (.iload 4, 2) := by decide +kernel
theorem dX9_means_145 : decode cX9_means 145 = .ok (.imul, 1) := by decide +kernel
theorem dX9_means_146 : decode cX9_means 146 = .ok (.iload 5, 2) := by decide +kernel
theorem dX9_means_148 : decode cX9_means 148 = .ok (.iadd, 1) := by decide +kernel
theorem dX9_means_149 : decode cX9_means 149 = .ok (.iload 6, 2) := by decide +kernel
theorem dX9_means_151 : decode cX9_means 151 = .ok (.iastore, 1) := by decide +kernel
theorem dX9_means_152 : decode cX9_means 152 = .ok (.iinc 5 1, 3) := by decide +kernel
theorem dX9_means_155 : decode cX9_means 155 = .ok (.goto (-115), 3) := by decide +kernel
theorem dX9_means_158 : decode cX9_means 158 = .ok (.iinc 4 (-1), 3) := by decide +kernel
theorem dX9_means_161 : decode cX9_means 161 = .ok (.goto (-129), 3) := by decide +kernel
theorem dX9_means_164 : decode cX9_means 164 = .ok (.return_, 1) := by decide +kernel
theorem dX9_meanOf_0 : decode cX9_meanOf 0 = .ok (.aload_n 0, 1) := by decide +kernel
theorem dX9_meanOf_1 : decode cX9_meanOf 1 = .ok (.iload_n 1, 1) := by decide +kernel
theorem dX9_meanOf_2 : decode cX9_meanOf 2 = .ok (.bipush 30, 2) := by decide +kernel
theorem dX9_meanOf_4 : decode cX9_meanOf 4 = .ok (.iconst 0, 1) := by decide +kernel
theorem dX9_meanOf_5 : decode cX9_meanOf 5 = .ok (.invokevirtual 196, 3) := by decide +kernel
theorem dX9_meanOf_8 : decode cX9_meanOf 8 = .ok (.aload_n 0, 1) := by decide +kernel
theorem dX9_meanOf_9 : decode cX9_meanOf 9 = .ok (.getfield 22, 3) := by decide +kernel
theorem dX9_meanOf_12 : decode cX9_meanOf 12 = .ok (.iconst 0, 1) := by decide +kernel
theorem dX9_meanOf_13 : decode cX9_meanOf 13 = .ok (.iaload, 1) := by decide +kernel
theorem dX9_meanOf_14 : decode cX9_meanOf 14 = .ok (.ireturn, 1) := by decide +kernel
theorem dX9_isMean_0 : decode cX9_isMean 0 = .ok (.aload_n 0, 1) := by decide +kernel
theorem dX9_isMean_1 : decode cX9_isMean 1 = .ok (.iload_n 1, 1) := by decide +kernel
theorem dX9_isMean_2 : decode cX9_isMean 2 = .ok (.invokevirtual 91, 3) := by decide +kernel
theorem dX9_isMean_5 : decode cX9_isMean 5 = .ok (.ifCond .eq 31, 3) := by decide +kernel
theorem dX9_isMean_8 : decode cX9_isMean 8 = .ok (.iload_n 2, 1) := by decide +kernel
theorem dX9_isMean_9 : decode cX9_isMean 9 = .ok (.i2l, 1) := by decide +kernel
theorem dX9_isMean_10 : decode cX9_isMean 10 = .ok (.lconst 0, 1) := by decide +kernel
theorem dX9_isMean_11 : decode cX9_isMean 11 = .ok (.iload 4, 2) := by decide +kernel
theorem dX9_isMean_13 : decode cX9_isMean 13 = .ok (.i2l, 1) := by decide +kernel
theorem dX9_isMean_14 : decode cX9_isMean 14 = .ok (.invokestatic 54, 3) := by decide +kernel
theorem dX9_isMean_17 : decode cX9_isMean 17 = .ok (.ifCond .eq 19, 3) := by decide +kernel
theorem dX9_isMean_20 : decode cX9_isMean 20 = .ok (.iload_n 3, 1) := by decide +kernel
theorem dX9_isMean_21 : decode cX9_isMean 21 = .ok (.i2l, 1) := by decide +kernel
theorem dX9_isMean_22 : decode cX9_isMean 22 = .ok (.lconst 0, 1) := by decide +kernel
theorem dX9_isMean_23 : decode cX9_isMean 23 = .ok (.ldc2_w 101, 3) := by decide +kernel
theorem dX9_isMean_26 : decode cX9_isMean 26 = .ok (.invokestatic 54, 3) := by decide +kernel
theorem dX9_isMean_29 : decode cX9_isMean 29 = .ok (.ifCond .eq 7, 3) := by decide +kernel
theorem dX9_isMean_32 : decode cX9_isMean 32 = .ok (.iconst 1, 1) := by decide +kernel
theorem dX9_isMean_33 : decode cX9_isMean 33 = .ok (.goto 4, 3) := by decide +kernel
theorem dX9_isMean_36 : decode cX9_isMean 36 = .ok (.iconst 0, 1) := by decide +kernel
theorem dX9_isMean_37 : decode cX9_isMean 37 = .ok (.ireturn, 1) := by decide +kernel
theorem dX9_mean_0 : decode cX9_mean 0 = .ok (.aload_n 0, 1) := by decide +kernel
theorem dX9_mean_1 : decode cX9_mean 1 = .ok (.iload_n 1, 1) := by decide +kernel
theorem dX9_mean_2 : decode cX9_mean 2 = .ok (.iload_n 2, 1) := by decide +kernel
theorem dX9_mean_3 : decode cX9_mean 3 = .ok (.iload_n 3, 1) := by decide +kernel
theorem dX9_mean_4 : decode cX9_mean 4 = .ok (.bipush 30, 2) := by decide +kernel
theorem dX9_mean_6 : decode cX9_mean 6 = .ok (.invokevirtual 200, 3) := by decide +kernel
theorem dX9_mean_9 : decode cX9_mean 9 = .ok (.ifCond .ne 10, 3) := by decide +kernel
theorem dX9_mean_12 : decode cX9_mean 12 = .ok (.aload_n 0, 1) := by decide +kernel
theorem dX9_mean_13 : decode cX9_mean 13 = .ok (.ldc 46, 2) := by decide +kernel
theorem dX9_mean_15 : decode cX9_mean 15 = .ok (.invokevirtual 48, 3) := by decide +kernel
theorem dX9_mean_18 : decode cX9_mean 18 = .ok (.ireturn, 1) := by decide +kernel
theorem dX9_mean_19 : decode cX9_mean 19 = .ok (.aload_n 0, 1) := by decide +kernel
theorem dX9_mean_20 : decode cX9_mean 20 = .ok (.iload_n 1, 1) := by decide +kernel
theorem dX9_mean_21 : decode cX9_mean 21 = .ok (.bipush 30, 2) := by decide +kernel
theorem dX9_mean_23 : decode cX9_mean 23 = .ok (.iconst 0, 1) := by decide +kernel
theorem dX9_mean_24 : decode cX9_mean 24 = .ok (.invokevirtual 196, 3) := by decide +kernel
theorem dX9_mean_27 : decode cX9_mean 27 = .ok (.aload_n 0, 1) := by decide +kernel
theorem dX9_mean_28 : decode cX9_mean 28 = .ok (.getfield 22, 3) := by decide +kernel
theorem dX9_mean_31 : decode cX9_mean 31 = .ok (.iconst 4, 1) := by decide +kernel
theorem dX9_mean_32 : decode cX9_mean 32 = .ok (.iload_n 2, 1) := by decide +kernel
theorem dX9_mean_33 : decode cX9_mean 33 = .ok (.imul, 1) := by decide +kernel
theorem dX9_mean_34 : decode cX9_mean 34 = .ok (.iload_n 3, 1) := by decide +kernel
theorem dX9_mean_35 : decode cX9_mean 35 = .ok (.iadd, 1) := by decide +kernel
theorem dX9_mean_36 : decode cX9_mean 36 = .ok (.iaload, 1) := by decide +kernel
theorem dX9_mean_37 : decode cX9_mean 37 = .ok (.ireturn, 1) := by decide +kernel
theorem dX9_least_0 : decode cX9_least 0 = .ok (.aload_n 0, 1) := by decide +kernel
theorem dX9_least_1 : decode cX9_least 1 = .ok (.iload_n 1, 1) := by decide +kernel
theorem dX9_least_2 : decode cX9_least 2 = .ok (.iload_n 2, 1) := by decide +kernel
theorem dX9_least_3 : decode cX9_least 3 = .ok (.iload_n 3, 1) := by decide +kernel
theorem dX9_least_4 : decode cX9_least 4 = .ok (.bipush 30, 2) := by decide +kernel
theorem dX9_least_6 : decode cX9_least 6 = .ok (.invokevirtual 200, 3) := by decide +kernel
theorem dX9_least_9 : decode cX9_least 9 = .ok (.ifCond .ne 10, 3) := by decide +kernel
theorem dX9_least_12 : decode cX9_least 12 = .ok (.aload_n 0, 1) := by decide +kernel
theorem dX9_least_13 : decode cX9_least 13 = .ok (.ldc 46, 2) := by decide +kernel
theorem dX9_least_15 : decode cX9_least 15 = .ok (.invokevirtual 48, 3) := by decide +kernel
theorem dX9_least_18 : decode cX9_least 18 = .ok (.ireturn, 1) := by decide +kernel
theorem dX9_least_19 : decode cX9_least 19 = .ok (.aload_n 0, 1) := by decide +kernel
theorem dX9_least_20 : decode cX9_least 20 = .ok (.iload_n 1, 1) := by decide +kernel
theorem dX9_least_21 : decode cX9_least 21 = .ok (.bipush 30, 2) := by decide +kernel
theorem dX9_least_23 : decode cX9_least 23 = .ok (.iconst 1, 1) := by decide +kernel
theorem dX9_least_24 : decode cX9_least 24 = .ok (.invokevirtual 196, 3) := by decide +kernel
theorem dX9_least_27 : decode cX9_least 27 = .ok (.aload_n 0, 1) := by decide +kernel
theorem dX9_least_28 : decode cX9_least 28 = .ok (.getfield 22, 3) := by decide +kernel
theorem dX9_least_31 : decode cX9_least 31 = .ok (.iconst 4, 1) := by decide +kernel
theorem dX9_least_32 : decode cX9_least 32 = .ok (.iload_n 2, 1) := by decide +kernel
theorem dX9_least_33 : decode cX9_least 33 = .ok (.imul, 1) := by decide +kernel
theorem dX9_least_34 : decode cX9_least 34 = .ok (.iload_n 3, 1) := by decide +kernel
theorem dX9_least_35 : decode cX9_least 35 = .ok (.iadd, 1) := by decide +kernel
theorem dX9_least_36 : decode cX9_least 36 = .ok (.iaload, 1) := by decide +kernel
theorem dX9_least_37 : decode cX9_least 37 = .ok (.ireturn, 1) := by decide +kernel
theorem dX9_best_0 : decode cX9_best 0 = .ok (.aload_n 0, 1) := by decide +kernel
theorem dX9_best_1 : decode cX9_best 1 = .ok (.iload_n 1, 1) := by decide +kernel
theorem dX9_best_2 : decode cX9_best 2 = .ok (.iload_n 2, 1) := by decide +kernel
theorem dX9_best_3 : decode cX9_best 3 = .ok (.iload_n 3, 1) := by decide +kernel
theorem dX9_best_4 : decode cX9_best 4 = .ok (.bipush 29, 2) := by decide +kernel
theorem dX9_best_6 : decode cX9_best 6 = .ok (.invokevirtual 200, 3) := by decide +kernel
theorem dX9_best_9 : decode cX9_best 9 = .ok (.ifCond .ne 10, 3) := by decide +kernel
theorem dX9_best_12 : decode cX9_best 12 = .ok (.aload_n 0, 1) := by decide +kernel
theorem dX9_best_13 : decode cX9_best 13 = .ok (.ldc 46, 2) := by decide +kernel
theorem dX9_best_15 : decode cX9_best 15 = .ok (.invokevirtual 48, 3) := by decide +kernel
theorem dX9_best_18 : decode cX9_best 18 = .ok (.ireturn, 1) := by decide +kernel
theorem dX9_best_19 : decode cX9_best 19 = .ok (.aload_n 0, 1) := by decide +kernel
theorem dX9_best_20 : decode cX9_best 20 = .ok (.iload_n 1, 1) := by decide +kernel
theorem dX9_best_21 : decode cX9_best 21 = .ok (.bipush 30, 2) := by decide +kernel
theorem dX9_best_23 : decode cX9_best 23 = .ok (.iconst 1, 1) := by decide +kernel
theorem dX9_best_24 : decode cX9_best 24 = .ok (.invokevirtual 196, 3) := by decide +kernel
theorem dX9_best_27 : decode cX9_best 27 = .ok (.aload_n 0, 1) := by decide +kernel
theorem dX9_best_28 : decode cX9_best 28 = .ok (.getfield 25, 3) := by decide +kernel
theorem dX9_best_31 : decode cX9_best 31 = .ok (.iconst 4, 1) := by decide +kernel
theorem dX9_best_32 : decode cX9_best 32 = .ok (.iload_n 2, 1) := by decide +kernel
theorem dX9_best_33 : decode cX9_best 33 = .ok (.imul, 1) := by decide +kernel
theorem dX9_best_34 : decode cX9_best 34 = .ok (.iload_n 3, 1) := by decide +kernel
theorem dX9_best_35 : decode cX9_best 35 = .ok (.iadd, 1) := by decide +kernel
theorem dX9_best_36 : decode cX9_best 36 = .ok (.iaload, 1) := by decide +kernel
theorem dX9_best_37 : decode cX9_best 37 = .ok (.ireturn, 1) := by decide +kernel
theorem dX9_train_0 : decode cX9_train 0 = .ok (.aload_n 0, 1) := by decide +kernel
theorem dX9_train_1 : decode cX9_train 1 = .ok (.iload_n 1, 1) := by decide +kernel
theorem dX9_train_2 : decode cX9_train 2 = .ok (.invokevirtual 91, 3) := by decide +kernel
theorem dX9_train_5 : decode cX9_train 5 = .ok (.ifCond .ne 10, 3) := by decide +kernel
theorem dX9_train_8 : decode cX9_train 8 = .ok (.aload_n 0, 1) := by decide +kernel
theorem dX9_train_9 : decode cX9_train 9 = .ok (.ldc 46, 2) := by decide +kernel
theorem dX9_train_11 : decode cX9_train 11 = .ok (.invokevirtual 48, 3) := by decide +kernel
theorem dX9_train_14 : decode cX9_train 14 = .ok (.ireturn, 1) := by decide +kernel
theorem dX9_train_15 : decode cX9_train 15 = .ok (.aload_n 0, 1) := by decide +kernel
theorem dX9_train_16 : decode cX9_train 16 = .ok (.iload_n 1, 1) := by decide +kernel
theorem dX9_train_17 : decode cX9_train 17 = .ok (.bipush 30, 2) := by decide +kernel
theorem dX9_train_19 : decode cX9_train 19 = .ok (.iconst 1, 1) := by decide +kernel
theorem dX9_train_20 : decode cX9_train 20 = .ok (.invokevirtual 196, 3) := by decide +kernel
theorem dX9_train_23 : decode cX9_train 23 = .ok (.iconst 0, 1) := by decide +kernel
theorem dX9_train_24 : decode cX9_train 24 = .ok (.istore_n 2, 1) := by decide +kernel
theorem dX9_train_25 : decode cX9_train 25 = .ok (.iconst 0, 1) := by decide +kernel
theorem dX9_train_26 : decode cX9_train 26 = .ok (.istore_n 3, 1) := by decide +kernel
theorem dX9_train_27 : decode cX9_train 27 = .ok (.iload_n 3, 1) := by decide +kernel
theorem dX9_train_28 : decode cX9_train 28 = .ok (.bipush 30, 2) := by decide +kernel
theorem dX9_train_30 : decode cX9_train 30 = .ok (.if_icmp .ge 52, 3) := by decide +kernel
theorem dX9_train_33 : decode cX9_train 33 = .ok (.iload_n 2, 1) := by decide +kernel
theorem dX9_train_34 : decode cX9_train 34 = .ok (.aload_n 0, 1) := by decide +kernel
theorem dX9_train_35 : decode cX9_train 35 = .ok (.bipush 33, 2) := by decide +kernel
theorem dX9_train_37 : decode cX9_train 37 = .ok (.bipush 37, 2) := by decide +kernel
theorem dX9_train_39 : decode cX9_train 39 = .ok (.iload_n 1, 1) := by decide +kernel
theorem dX9_train_40 : decode cX9_train 40 = .ok (.imul, 1) := by decide +kernel
theorem dX9_train_41 : decode cX9_train 41 = .ok (.iadd, 1) := by decide +kernel
theorem dX9_train_42 : decode cX9_train 42 = .ok (.bipush 7, 2) := by decide +kernel
theorem dX9_train_44 : decode cX9_train 44 = .ok (.iadd, 1) := by decide +kernel
theorem dX9_train_45 : decode cX9_train 45 = .ok (.iload_n 3, 1) := by decide +kernel
theorem dX9_train_46 : decode cX9_train 46 = .ok (.iadd, 1) := by decide +kernel
theorem dX9_train_47 : decode cX9_train 47 = .ok (.aload_n 0, 1) := by decide +kernel
theorem dX9_train_48 : decode cX9_train 48 = .ok (.getfield 25, 3) := by decide +kernel
theorem dX9_train_51 : decode cX9_train 51 = .ok (.iconst 4, 1) := by decide +kernel
theorem dX9_train_52 : decode cX9_train 52 = .ok (.iload_n 3, 1) := by decide +kernel
theorem dX9_train_53 : decode cX9_train 53 = .ok (.imul, 1) := by decide +kernel
theorem dX9_train_54 : decode cX9_train 54 = .ok (.iaload, 1) := by decide +kernel
theorem dX9_train_55 : decode cX9_train 55 = .ok (.invokevirtual 72, 3) := by decide +kernel
theorem dX9_train_58 : decode cX9_train 58 = .ok (.aload_n 0, 1) := by decide +kernel
theorem dX9_train_59 : decode cX9_train 59 = .ok (.getfield 25, 3) := by decide +kernel
theorem dX9_train_62 : decode cX9_train 62 = .ok (.iconst 4, 1) := by decide +kernel
theorem dX9_train_63 : decode cX9_train 63 = .ok (.iload_n 3, 1) := by decide +kernel
theorem dX9_train_64 : decode cX9_train 64 = .ok (.imul, 1) := by decide +kernel
theorem dX9_train_65 : decode cX9_train 65 = .ok (.iaload, 1) := by decide +kernel
theorem dX9_train_66 : decode cX9_train 66 = .ok (.if_icmp .ne 7, 3) := by decide +kernel
theorem dX9_train_69 : decode cX9_train 69 = .ok (.iconst 0, 1) := by decide +kernel
theorem dX9_train_70 : decode cX9_train 70 = .ok (.goto 4, 3) := by decide +kernel
theorem dX9_train_73 : decode cX9_train 73 = .ok (.iconst 1, 1) := by decide +kernel
theorem dX9_train_74 : decode cX9_train 74 = .ok (.iadd, 1) := by decide +kernel
theorem dX9_train_75 : decode cX9_train 75 = .ok (.istore_n 2, 1) := by decide +kernel
theorem dX9_train_76 : decode cX9_train 76 = .ok (.iinc 3 1, 3) := by decide +kernel
theorem dX9_train_79 : decode cX9_train 79 = .ok (.goto (-52), 3) := by decide +kernel
theorem dX9_train_82 : decode cX9_train 82 = .ok (.iload_n 2, 1) := by decide +kernel
theorem dX9_train_83 : decode cX9_train 83 = .ok (.ireturn, 1) := by decide +kernel
theorem dX9_even_0 : decode cX9_even 0 = .ok (.aload_n 0, 1) := by decide +kernel
theorem dX9_even_1 : decode cX9_even 1 = .ok (.iload_n 1, 1) := by decide +kernel
theorem dX9_even_2 : decode cX9_even 2 = .ok (.invokevirtual 91, 3) := by decide +kernel
theorem dX9_even_5 : decode cX9_even 5 = .ok (.ifCond .ne 10, 3) := by decide +kernel
theorem dX9_even_8 : decode cX9_even 8 = .ok (.aload_n 0, 1) := by decide +kernel
theorem dX9_even_9 : decode cX9_even 9 = .ok (.ldc 46, 2) := by decide +kernel
theorem dX9_even_11 : decode cX9_even 11 = .ok (.invokevirtual 48, 3) := by decide +kernel
theorem dX9_even_14 : decode cX9_even 14 = .ok (.ireturn, 1) := by decide +kernel
theorem dX9_even_15 : decode cX9_even 15 = .ok (.aload_n 0, 1) := by decide +kernel
theorem dX9_even_16 : decode cX9_even 16 = .ok (.getfield 9, 3) := by decide +kernel
theorem dX9_even_19 : decode cX9_even 19 = .ok (.aload_n 0, 1) := by decide +kernel
theorem dX9_even_20 : decode cX9_even 20 = .ok (.getfield 16, 3) := by decide +kernel
theorem dX9_even_23 : decode cX9_even 23 = .ok (.invokestatic 166, 3) := by decide +kernel
theorem dX9_even_26 : decode cX9_even 26 = .ok (.iconst 0, 1) := by decide +kernel
theorem dX9_even_27 : decode cX9_even 27 = .ok (.istore_n 2, 1) := by decide +kernel
theorem dX9_even_28 : decode cX9_even 28 = .ok (.iconst 0, 1) := by decide +kernel
theorem dX9_even_29 : decode cX9_even 29 = .ok (.istore_n 3, 1) := by decide +kernel
theorem dX9_even_30 : decode cX9_even 30 = .ok (.iconst 1, 1) := by decide +kernel
theorem dX9_even_31 : decode cX9_even 31 = .ok (.istore 4, 2) := by decide +kernel
theorem dX9_even_33 : decode cX9_even 33 = .ok (.iload 4, 2) := by decide +kernel
theorem dX9_even_35 : decode cX9_even 35 = .ok (.bipush 9, 2) := by decide +kernel
theorem dX9_even_37 : decode cX9_even 37 = .ok (.if_icmp .gt 63, 3) := by decide +kernel
theorem dX9_even_40 : decode cX9_even 40 = .ok (.iconst 0, 1) := by decide +kernel
theorem dX9_even_41 : decode cX9_even 41 = .ok (.istore 5, 2) := by decide +kernel
theorem dX9_even_43 : decode cX9_even 43 = .ok (.iload 5, 2) := by decide +kernel
theorem dX9_even_45 : decode cX9_even 45 = .ok (.bipush 30, 2) := by decide +kernel
theorem dX9_even_47 : decode cX9_even 47 = .ok (.if_icmp .ge 21, 3) := by decide +kernel
theorem dX9_even_50 : decode cX9_even 50 = .ok (.aload_n 0, 1) := by decide +kernel
theorem dX9_even_51 : decode cX9_even 51 = .ok (.iload_n 1, 1) := by decide +kernel
theorem dX9_even_52 : decode cX9_even 52 = .ok (.bipush 7, 2) := by decide +kernel
theorem dX9_even_54 : decode cX9_even 54 = .ok (.iload 5, 2) := by decide +kernel
theorem dX9_even_56 : decode cX9_even 56 = .ok (.iadd, 1) := by decide +kernel
theorem dX9_even_57 : decode cX9_even 57 = .ok (.iload 4, 2) := by decide +kernel
theorem dX9_even_59 : decode cX9_even 59 = .ok (.invokevirtual 77, 3) := by decide +kernel
theorem dX9_even_62 : decode cX9_even 62 = .ok (.iinc 5 1, 3) := by decide +kernel
theorem dX9_even_65 : decode cX9_even 65 = .ok (.goto (-22), 3) := by decide +kernel
theorem dX9_even_68 : decode cX9_even 68 = .ok (.aload_n 0, 1) := by decide +kernel
theorem dX9_even_69 : decode cX9_even 69 = .ok (.iload_n 1, 1) := by decide +kernel
theorem dX9_even_70 : decode cX9_even 70 = .ok (.invokevirtual 203, 3) := by decide +kernel
theorem dX9_even_73 : decode cX9_even 73 = .ok (.istore 5, 2) := by decide +kernel
theorem dX9_even_75 : decode cX9_even 75 = .ok (.iload_n 2, 1) := by decide +kernel
theorem dX9_even_76 : decode cX9_even 76 = .ok (.ifCond .le 12, 3) := by decide +kernel
theorem dX9_even_79 : decode cX9_even 79 = .ok (.iload 5, 2) := by decide +kernel
theorem dX9_even_81 : decode cX9_even 81 = .ok (.iload_n 3, 1) := by decide +kernel
theorem dX9_even_82 : decode cX9_even 82 = .ok (.if_icmp .lt 6, 3) := by decide +kernel
theorem dX9_even_85 : decode cX9_even 85 = .ok (.goto 9, 3) := by decide +kernel
theorem dX9_even_88 : decode cX9_even 88 = .ok (.iload 4, 2) := by decide +kernel
theorem dX9_even_90 : decode cX9_even 90 = .ok (.istore_n 2, 1) := by decide +kernel
theorem dX9_even_91 : decode cX9_even 91 = .ok (.iload 5, 2) := by decide +kernel
theorem dX9_even_93 : decode cX9_even 93 = .ok (.istore_n 3, 1) := by decide +kernel
theorem dX9_even_94 : decode cX9_even 94 = .ok (.iinc 4 1, 3) := by decide +kernel
theorem dX9_even_97 : decode cX9_even 97 = .ok (.goto (-64), 3) := by decide +kernel
theorem dX9_even_100 : decode cX9_even 100 = .ok (.aload_n 0, 1) := by decide +kernel
theorem dX9_even_101 : decode cX9_even 101 = .ok (.getfield 16, 3) := by decide +kernel
theorem dX9_even_104 : decode cX9_even 104 = .ok (.aload_n 0, 1) := by decide +kernel
theorem dX9_even_105 : decode cX9_even 105 = .ok (.getfield 9, 3) := by decide +kernel
theorem dX9_even_108 : decode cX9_even 108 = .ok (.invokestatic 166, 3) := by decide +kernel
theorem dX9_even_111 : decode cX9_even 111 = .ok (.iload_n 2, 1) := by decide +kernel
theorem dX9_even_112 : decode cX9_even 112 = .ok (.ireturn, 1) := by decide +kernel
theorem dX9_costs_0 : decode cX9_costs 0 = .ok (.aload_n 0, 1) := by decide +kernel
theorem dX9_costs_1 : decode cX9_costs 1 = .ok (.iload_n 1, 1) := by decide +kernel
theorem dX9_costs_2 : decode cX9_costs 2 = .ok (.invokevirtual 91, 3) := by decide +kernel
theorem dX9_costs_5 : decode cX9_costs 5 = .ok (.ifCond .eq 10, 3) := by decide +kernel
theorem dX9_costs_8 : decode cX9_costs 8 = .ok (.iload_n 2, 1) := by decide +kernel
theorem dX9_costs_9 : decode cX9_costs 9 = .ok (.invokestatic 66, 3) := by decide +kernel
theorem dX9_costs_12 : decode cX9_costs 12 = .ok (.ifCond .ne 10, 3) := by decide +kernel
theorem dX9_costs_15 : decode cX9_costs 15 = .ok (.aload_n 0, 1) := by decide +kernel
theorem dX9_costs_16 : decode cX9_costs 16 = .ok (.ldc 46, 2) := by decide +kernel
theorem dX9_costs_18 : decode cX9_costs 18 = .ok (.invokevirtual 48, 3) := by decide +kernel
theorem dX9_costs_21 : decode cX9_costs 21 = .ok (.ireturn, 1) := by decide +kernel
theorem dX9_costs_22 : decode cX9_costs 22 = .ok (.aload_n 0, 1) := by decide +kernel
theorem dX9_costs_23 : decode cX9_costs 23 = .ok (.iload_n 1, 1) := by decide +kernel
theorem dX9_costs_24 : decode cX9_costs 24 = .ok (.bipush 30, 2) := by decide +kernel
theorem dX9_costs_26 : decode cX9_costs 26 = .ok (.iconst 0, 1) := by decide +kernel
theorem dX9_costs_27 : decode cX9_costs 27 = .ok (.invokevirtual 196, 3) := by decide +kernel
theorem dX9_costs_30 : decode cX9_costs 30 = .ok (.sipush 1000, 3) := by decide +kernel
theorem dX9_costs_33 : decode cX9_costs 33 = .ok (.aload_n 0, 1) := by decide +kernel
theorem dX9_costs_34 : decode cX9_costs 34 = .ok (.getfield 9, 3) := by decide +kernel
theorem dX9_costs_37 : decode cX9_costs 37 = .ok (.iconst 0, 1) := by decide +kernel
theorem dX9_costs_38 : decode cX9_costs 38 = .ok (.iaload, 1) := by decide +kernel
theorem dX9_costs_39 : decode cX9_costs 39 = .ok (.imul, 1) := by decide +kernel
theorem dX9_costs_40 : decode cX9_costs 40 = .ok (.aload_n 0, 1) := by decide +kernel
theorem dX9_costs_41 : decode cX9_costs 41 = .ok (.getfield 22, 3) := by decide +kernel
theorem dX9_costs_44 : decode cX9_costs 44 = .ok (.iconst 4, 1) := by decide +kernel
theorem dX9_costs_45 : decode cX9_costs 45 = .ok (.iload_n 2, 1) := by decide +kernel
theorem dX9_costs_46 : decode cX9_costs 46 = .ok (.imul, 1) := by decide +kernel
theorem dX9_costs_47 : decode cX9_costs 47 = .ok (.bipush 7, 2) := by decide +kernel
theorem dX9_costs_49 : decode cX9_costs 49 = .ok (.iadd, 1) := by decide +kernel
theorem dX9_costs_50 : decode cX9_costs 50 = .ok (.iaload, 1) := by decide +kernel
theorem dX9_costs_51 : decode cX9_costs 51 = .ok (.iadd, 1) := by decide +kernel
theorem dX9_costs_52 : decode cX9_costs 52 = .ok (.aload_n 0, 1) := by decide +kernel
theorem dX9_costs_53 : decode cX9_costs 53 = .ok (.getfield 22, 3) := by decide +kernel
theorem dX9_costs_56 : decode cX9_costs 56 = .ok (.iconst 4, 1) := by decide +kernel
theorem dX9_costs_57 : decode cX9_costs 57 = .ok (.iload_n 2, 1) := by decide +kernel
theorem dX9_costs_58 : decode cX9_costs 58 = .ok (.imul, 1) := by decide +kernel
theorem dX9_costs_59 : decode cX9_costs 59 = .ok (.iconst 4, 1) := by decide +kernel
theorem dX9_costs_60 : decode cX9_costs 60 = .ok (.iadd, 1) := by decide +kernel
theorem dX9_costs_61 : decode cX9_costs 61 = .ok (.iaload, 1) := by decide +kernel
theorem dX9_costs_62 : decode cX9_costs 62 = .ok (.isub, 1) := by decide +kernel
theorem dX9_costs_63 : decode cX9_costs 63 = .ok (.ireturn, 1) := by decide +kernel
theorem dX9_worst_0 : decode cX9_worst 0 = .ok (.aload_n 0, 1) := by decide +kernel
theorem dX9_worst_1 : decode cX9_worst 1 = .ok (.iload_n 1, 1) := by decide +kernel
theorem dX9_worst_2 : decode cX9_worst 2 = .ok (.invokevirtual 91, 3) := by decide +kernel
theorem dX9_worst_5 : decode cX9_worst 5 = .ok (.ifCond .ne 10, 3) := by decide +kernel
theorem dX9_worst_8 : decode cX9_worst 8 = .ok (.aload_n 0, 1) := by decide +kernel
theorem dX9_worst_9 : decode cX9_worst 9 = .ok (.ldc 46, 2) := by decide +kernel
theorem dX9_worst_11 : decode cX9_worst 11 = .ok (.invokevirtual 48, 3) := by decide +kernel
theorem dX9_worst_14 : decode cX9_worst 14 = .ok (.ireturn, 1) := by decide +kernel
theorem dX9_worst_15 : decode cX9_worst 15 = .ok (.iconst (-1), 1) := by decide +kernel
theorem dX9_worst_16 : decode cX9_worst 16 = .ok (.istore_n 2, 1) := by decide +kernel
theorem dX9_worst_17 : decode cX9_worst 17 = .ok (.iconst 0, 1) := by decide +kernel
theorem dX9_worst_18 : decode cX9_worst 18 = .ok (.istore_n 3, 1) := by decide +kernel
theorem dX9_worst_19 : decode cX9_worst 19 = .ok (.iconst 0, 1) := by decide +kernel
theorem dX9_worst_20 : decode cX9_worst 20 = .ok (.istore 4, 2) := by decide +kernel
theorem dX9_worst_22 : decode cX9_worst 22 = .ok (.iload 4, 2) := by decide +kernel
theorem dX9_worst_24 : decode cX9_worst 24 = .ok (.bipush 30, 2) := by decide +kernel
theorem dX9_worst_26 : decode cX9_worst 26 = .ok (.if_icmp .ge 57, 3) := by decide +kernel
theorem dX9_worst_29 : decode cX9_worst 29 = .ok (.aload_n 0, 1) := by decide +kernel
theorem dX9_worst_30 : decode cX9_worst 30 = .ok (.iconst 3, 1) := by decide +kernel
theorem dX9_worst_31 : decode cX9_worst 31 = .ok (.iload 4, 2) := by decide +kernel
theorem dX9_worst_33 : decode cX9_worst 33 = .ok (.iadd, 1) := by decide +kernel
theorem dX9_worst_34 : decode cX9_worst 34 = .ok (.iconst 0, 1) := by decide +kernel
theorem dX9_worst_35 : decode cX9_worst 35 = .ok (.invokevirtual 72, 3) := by decide +kernel
theorem dX9_worst_38 : decode cX9_worst 38 = .ok (.istore 5, 2) := by decide +kernel
theorem dX9_worst_40 : decode cX9_worst 40 = .ok (.aload_n 0, 1) := by decide +kernel
theorem dX9_worst_41 : decode cX9_worst 41 = .ok (.iload_n 1, 1) := by decide +kernel
theorem dX9_worst_42 : decode cX9_worst 42 = .ok (.invokevirtual 203, 3) := by decide +kernel
theorem dX9_worst_45 : decode cX9_worst 45 = .ok (.istore 6, 2) := by decide +kernel
theorem dX9_worst_47 : decode cX9_worst 47 = .ok (.aload_n 0, 1) := by decide +kernel
theorem dX9_worst_48 : decode cX9_worst 48 = .ok (.getfield 9, 3) := by decide +kernel
theorem dX9_worst_51 : decode cX9_worst 51 = .ok (.iconst 3, 1) := by decide +kernel
theorem dX9_worst_52 : decode cX9_worst 52 = .ok (.iload 4, 2) := by decide +kernel
theorem dX9_worst_54 : decode cX9_worst 54 = .ok (.iadd, 1) := by decide +kernel
theorem dX9_worst_55 : decode cX9_worst 55 = .ok (.iload 5, 2) := by decide +kernel
theorem dX9_worst_57 : decode cX9_worst 57 = .ok (.iastore, 1) := by decide +kernel
theorem dX9_worst_58 : decode cX9_worst 58 = .ok (.iload_n 2, 1) := by decide +kernel
theorem dX9_worst_59 : decode cX9_worst 59 = .ok (.ifCond .lt 12, 3) := by decide +kernel
theorem dX9_worst_62 : decode cX9_worst 62 = .ok (.iload 6, 2) := by decide +kernel
theorem dX9_worst_64 : decode cX9_worst 64 = .ok (.iload_n 3, 1) := by decide +kernel
theorem dX9_worst_65 : decode cX9_worst 65 = .ok (.if_icmp .lt 6, 3) := by decide +kernel
theorem dX9_worst_68 : decode cX9_worst 68 = .ok (.goto 9, 3) := by decide +kernel
theorem dX9_worst_71 : decode cX9_worst 71 = .ok (.iload 4, 2) := by decide +kernel
theorem dX9_worst_73 : decode cX9_worst 73 = .ok (.istore_n 2, 1) := by decide +kernel
theorem dX9_worst_74 : decode cX9_worst 74 = .ok (.iload 6, 2) := by decide +kernel
theorem dX9_worst_76 : decode cX9_worst 76 = .ok (.istore_n 3, 1) := by decide +kernel
theorem dX9_worst_77 : decode cX9_worst 77 = .ok (.iinc 4 1, 3) := by decide +kernel
theorem dX9_worst_80 : decode cX9_worst 80 = .ok (.goto (-58), 3) := by decide +kernel
theorem dX9_worst_83 : decode cX9_worst 83 = .ok (.iload_n 2, 1) := by decide +kernel
theorem dX9_worst_84 : decode cX9_worst 84 = .ok (.ireturn, 1) := by decide +kernel
theorem dX9_spoon_0 : decode cX9_spoon 0 = .ok (.aload_n 0, 1) := by decide +kernel
theorem dX9_spoon_1 : decode cX9_spoon 1 = .ok (.iload_n 1, 1) := by decide +kernel
theorem dX9_spoon_2 : decode cX9_spoon 2 = .ok (.invokevirtual 91, 3) := by decide +kernel
theorem dX9_spoon_5 : decode cX9_spoon 5 = .ok (.ifCond .ne 10, 3) := by decide +kernel
theorem dX9_spoon_8 : decode cX9_spoon 8 = .ok (.aload_n 0, 1) := by decide +kernel
theorem dX9_spoon_9 : decode cX9_spoon 9 = .ok (.ldc 46, 2) := by decide +kernel
theorem dX9_spoon_11 : decode cX9_spoon 11 = .ok (.invokevirtual 48, 3) := by decide +kernel
theorem dX9_spoon_14 : decode cX9_spoon 14 = .ok (.ireturn, 1) := by decide +kernel
theorem dX9_spoon_15 : decode cX9_spoon 15 = .ok (.aload_n 0, 1) := by decide +kernel
theorem dX9_spoon_16 : decode cX9_spoon 16 = .ok (.iload_n 1, 1) := by decide +kernel
theorem dX9_spoon_17 : decode cX9_spoon 17 = .ok (.iconst 2, 1) := by decide +kernel
theorem dX9_spoon_18 : decode cX9_spoon 18 = .ok (.invokevirtual 62, 3) := by decide +kernel
theorem dX9_spoon_21 : decode cX9_spoon 21 = .ok (.istore_n 2, 1) := by decide +kernel
theorem dX9_spoon_22 : decode cX9_spoon 22 = .ok (.iconst (-1), 1) := by decide +kernel
theorem dX9_spoon_23 : decode cX9_spoon 23 = .ok (.istore_n 3, 1) := by decide +kernel
theorem dX9_spoon_24 : decode cX9_spoon 24 = .ok (.iconst 0, 1) := by decide +kernel
theorem dX9_spoon_25 : decode cX9_spoon 25 = .ok (.istore 4, 2) := by decide +kernel
theorem dX9_spoon_27 : decode cX9_spoon 27 = .ok (.iconst 0, 1) := by decide +kernel
theorem dX9_spoon_28 : decode cX9_spoon 28 = .ok (.istore 5, 2) := by decide +kernel
theorem dX9_spoon_30 : decode cX9_spoon 30 = .ok (.iload 5, 2) := by decide +kernel
theorem dX9_spoon_32 : decode cX9_spoon 32 = .ok (.iconst 5, 1) := by decide +kernel
theorem dX9_spoon_33 : decode cX9_spoon 33 = .ok (.if_icmp .gt 52, 3) := by decide +kernel
theorem dX9_spoon_36 : decode cX9_spoon 36 = .ok (.aload_n 0, 1) := by decide +kernel
theorem dX9_spoon_37 : decode cX9_spoon 37 = .ok (.iload_n 1, 1) := by decide +kernel
theorem dX9_spoon_38 : decode cX9_spoon 38 = .ok (.iconst 2, 1) := by decide +kernel
theorem dX9_spoon_39 : decode cX9_spoon 39 = .ok (.iload 5, 2) := by decide +kernel
theorem dX9_spoon_41 : decode cX9_spoon 41 = .ok (.invokevirtual 77, 3) := by decide +kernel
theorem dX9_spoon_44 : decode cX9_spoon 44 = .ok (.aload_n 0, 1) := by decide +kernel
theorem dX9_spoon_45 : decode cX9_spoon 45 = .ok (.iload_n 1, 1) := by decide +kernel
theorem dX9_spoon_46 : decode cX9_spoon 46 = .ok (.invokevirtual 203, 3) := by decide +kernel
theorem dX9_spoon_49 : decode cX9_spoon 49 = .ok (.sipush 15000, 3) := by decide +kernel
theorem dX9_spoon_52 : decode cX9_spoon 52 = .ok (.iload 5, 2) := by decide +kernel
theorem dX9_spoon_54 : decode cX9_spoon 54 = .ok (.imul, 1) := by decide +kernel
theorem dX9_spoon_55 : decode cX9_spoon 55 = .ok (.iadd, 1) := by decide +kernel
theorem dX9_spoon_56 : decode cX9_spoon 56 = .ok (.istore 6, 2) := by decide +kernel
theorem dX9_spoon_58 : decode cX9_spoon 58 = .ok (.iload_n 3, 1) := by decide +kernel
theorem dX9_spoon_59 : decode cX9_spoon 59 = .ok (.ifCond .lt 13, 3) := by decide +kernel
theorem dX9_spoon_62 : decode cX9_spoon 62 = .ok (.iload 6, 2) := by decide +kernel
theorem dX9_spoon_64 : decode cX9_spoon 64 = .ok (.iload 4, 2) := by decide +kernel
theorem dX9_spoon_66 : decode cX9_spoon 66 = .ok (.if_icmp .lt 6, 3) := by decide +kernel
theorem dX9_spoon_69 : decode cX9_spoon 69 = .ok (.goto 10, 3) := by decide +kernel
theorem dX9_spoon_72 : decode cX9_spoon 72 = .ok (.iload 5, 2) := by decide +kernel
theorem dX9_spoon_74 : decode cX9_spoon 74 = .ok (.istore_n 3, 1) := by decide +kernel
theorem dX9_spoon_75 : decode cX9_spoon 75 = .ok (.iload 6, 2) := by decide +kernel
theorem dX9_spoon_77 : decode cX9_spoon 77 = .ok (.istore 4, 2) := by decide +kernel
theorem dX9_spoon_79 : decode cX9_spoon 79 = .ok (.iinc 5 1, 3) := by decide +kernel
theorem dX9_spoon_82 : decode cX9_spoon 82 = .ok (.goto (-52), 3) := by decide +kernel
theorem dX9_spoon_85 : decode cX9_spoon 85 = .ok (.aload_n 0, 1) := by decide +kernel
theorem dX9_spoon_86 : decode cX9_spoon 86 = .ok (.iload_n 1, 1) := by decide +kernel
theorem dX9_spoon_87 : decode cX9_spoon 87 = .ok (.iconst 2, 1) := by decide +kernel
theorem dX9_spoon_88 : decode cX9_spoon 88 = .ok (.iload_n 2, 1) := by decide +kernel
theorem dX9_spoon_89 : decode cX9_spoon 89 = .ok (.invokevirtual 77, 3) := by decide +kernel
theorem dX9_spoon_92 : decode cX9_spoon 92 = .ok (.iload_n 3, 1) := by decide +kernel
theorem dX9_spoon_93 : decode cX9_spoon 93 = .ok (.ireturn, 1) := by decide +kernel
theorem dX9_armFor_0 : decode cX9_armFor 0 = .ok (.aload_n 0, 1) := by decide +kernel
theorem dX9_armFor_1 : decode cX9_armFor 1 = .ok (.iload_n 1, 1) := by decide +kernel
theorem dX9_armFor_2 : decode cX9_armFor 2 = .ok (.invokevirtual 91, 3) := by decide +kernel
theorem dX9_armFor_5 : decode cX9_armFor 5 = .ok (.ifCond .eq 15, 3) := by decide +kernel
theorem dX9_armFor_8 : decode cX9_armFor 8 = .ok (.iload_n 2, 1) := by decide +kernel
theorem dX9_armFor_9 : decode cX9_armFor 9 = .ok (.i2l, 1) := by decide +kernel
theorem dX9_armFor_10 : decode cX9_armFor 10 = .ok (.lconst 0, 1) := by decide +kernel
theorem dX9_armFor_11 : decode cX9_armFor 11 = .ok (.ldc2_w 206, 3) := by decide +kernel
theorem dX9_armFor_14 : decode cX9_armFor 14 = .ok (.invokestatic 54, 3) := by decide +kernel
theorem dX9_armFor_17 : decode cX9_armFor 17 = .ok (.ifCond .ne 10, 3) := by decide +kernel
theorem dX9_armFor_20 : decode cX9_armFor 20 = .ok (.aload_n 0, 1) := by decide +kernel
theorem dX9_armFor_21 : decode cX9_armFor 21 = .ok (.ldc 46, 2) := by decide +kernel
theorem dX9_armFor_23 : decode cX9_armFor 23 = .ok (.invokevirtual 48, 3) := by decide +kernel
theorem dX9_armFor_26 : decode cX9_armFor 26 = .ok (.ireturn, 1) := by decide +kernel
theorem dX9_armFor_27 : decode cX9_armFor 27 = .ok (.aload_n 0, 1) := by decide +kernel
theorem dX9_armFor_28 : decode cX9_armFor 28 = .ok (.iload_n 1, 1) := by decide +kernel
theorem dX9_armFor_29 : decode cX9_armFor 29 = .ok (.iconst 1, 1) := by decide +kernel
theorem dX9_armFor_30 : decode cX9_armFor 30 = .ok (.invokevirtual 62, 3) := by decide +kernel
theorem dX9_armFor_33 : decode cX9_armFor 33 = .ok (.istore_n 3, 1) := by decide +kernel
theorem dX9_armFor_34 : decode cX9_armFor 34 = .ok (.iconst (-1), 1) := by decide +kernel
theorem dX9_armFor_35 : decode cX9_armFor 35 = .ok (.istore 4, 2) := by decide +kernel
theorem dX9_armFor_37 : decode cX9_armFor 37 = .ok (.bipush 9, 2) := by decide +kernel
theorem dX9_armFor_39 : decode cX9_armFor 39 = .ok (.istore 5, 2) := by decide +kernel
theorem dX9_armFor_41 : decode cX9_armFor 41 = .ok (.iload 5, 2) := by decide +kernel
theorem dX9_armFor_43 : decode cX9_armFor 43 = .ok (.ifCond .lt 35, 3) := by decide +kernel
theorem dX9_armFor_46 : decode cX9_armFor 46 = .ok (.aload_n 0, 1) := by decide +kernel
theorem dX9_armFor_47 : decode cX9_armFor 47 = .ok (.iload_n 1, 1) := by decide +kernel
theorem dX9_armFor_48 : decode cX9_armFor 48 = .ok (.iconst 1, 1) := by decide +kernel
theorem dX9_armFor_49 : decode cX9_armFor 49 = .ok (.iload 5, 2) := by decide +kernel
theorem dX9_armFor_51 : decode cX9_armFor 51 = .ok (.invokevirtual 77, 3) := by decide +kernel
theorem dX9_armFor_54 : decode cX9_armFor 54 = .ok (.aload_n 0, 1) := by decide +kernel
theorem dX9_armFor_55 : decode cX9_armFor 55 = .ok (.iload_n 1, 1) := by decide +kernel
theorem dX9_armFor_56 : decode cX9_armFor 56 = .ok (.invokevirtual 203, 3) := by decide +kernel
theorem dX9_armFor_59 : decode cX9_armFor 59 = .ok (.iload_n 2, 1) := by decide +kernel
theorem dX9_armFor_60 : decode cX9_armFor 60 = .ok (.if_icmp .gt 8, 3) := by decide +kernel
theorem dX9_armFor_63 : decode cX9_armFor 63 = .ok (.iload 5, 2) := by decide +kernel
theorem dX9_armFor_65 : decode cX9_armFor 65 = .ok (.goto 5, 3) := by decide +kernel
theorem dX9_armFor_68 : decode cX9_armFor 68 = .ok (.iload 4, 2) := by decide +kernel
theorem dX9_armFor_70 : decode cX9_armFor 70 = .ok (.istore 4, 2) := by decide +kernel
theorem dX9_armFor_72 : decode cX9_armFor 72 = .ok (.iinc 5 (-1), 3) := by decide +kernel
theorem dX9_armFor_75 : decode cX9_armFor 75 = .ok (.goto (-34), 3) := by decide +kernel
theorem dX9_armFor_78 : decode cX9_armFor 78 = .ok (.aload_n 0, 1) := by decide +kernel
theorem dX9_armFor_79 : decode cX9_armFor 79 = .ok (.iload_n 1, 1) := by decide +kernel
theorem dX9_armFor_80 : decode cX9_armFor 80 = .ok (.iconst 1, 1) := by decide +kernel
theorem dX9_armFor_81 : decode cX9_armFor 81 = .ok (.iload_n 3, 1) := by decide +kernel
theorem dX9_armFor_82 : decode cX9_armFor 82 = .ok (.invokevirtual 77, 3) := by decide +kernel
theorem dX9_armFor_85 : decode cX9_armFor 85 = .ok (.aload_n 0, 1) := by decide +kernel
theorem dX9_armFor_86 : decode cX9_armFor 86 = .ok (.iload 4, 2) := by decide +kernel
theorem dX9_armFor_88 : decode cX9_armFor 88 = .ok (.invokevirtual 143, 3) := by decide +kernel
theorem dX9_armFor_91 : decode cX9_armFor 91 = .ok (.ireturn, 1) := by decide +kernel
theorem dX9_later_0 : decode cX9_later 0 = .ok (.aload_n 0, 1) := by decide +kernel
theorem dX9_later_1 : decode cX9_later 1 = .ok (.iload_n 1, 1) := by decide +kernel
theorem dX9_later_2 : decode cX9_later 2 = .ok (.invokevirtual 91, 3) := by decide +kernel
theorem dX9_later_5 : decode cX9_later 5 = .ok (.ifCond .ne 10, 3) := by decide +kernel
theorem dX9_later_8 : decode cX9_later 8 = .ok (.aload_n 0, 1) := by decide +kernel
theorem dX9_later_9 : decode cX9_later 9 = .ok (.ldc 46, 2) := by decide +kernel
theorem dX9_later_11 : decode cX9_later 11 = .ok (.invokevirtual 48, 3) := by decide +kernel
theorem dX9_later_14 : decode cX9_later 14 = .ok (.ireturn, 1) := by decide +kernel
theorem dX9_later_15 : decode cX9_later 15 = .ok (.iconst 0, 1) := by decide +kernel
theorem dX9_later_16 : decode cX9_later 16 = .ok (.istore_n 2, 1) := by decide +kernel
theorem dX9_later_17 : decode cX9_later 17 = .ok (.iconst 0, 1) := by decide +kernel
theorem dX9_later_18 : decode cX9_later 18 = .ok (.istore_n 3, 1) := by decide +kernel
theorem dX9_later_19 : decode cX9_later 19 = .ok (.iload_n 3, 1) := by decide +kernel
theorem dX9_later_20 : decode cX9_later 20 = .ok (.aload_n 0, 1) := by decide +kernel
theorem dX9_later_21 : decode cX9_later 21 = .ok (.getfield 9, 3) := by decide +kernel
theorem dX9_later_24 : decode cX9_later 24 = .ok (.iconst 2, 1) := by decide +kernel
theorem dX9_later_25 : decode cX9_later 25 = .ok (.iaload, 1) := by decide +kernel
theorem dX9_later_26 : decode cX9_later 26 = .ok (.if_icmp .ge 29, 3) := by decide +kernel
theorem dX9_later_29 : decode cX9_later 29 = .ok (.aload_n 0, 1) := by decide +kernel
theorem dX9_later_30 : decode cX9_later 30 = .ok (.iload_n 3, 1) := by decide +kernel
theorem dX9_later_31 : decode cX9_later 31 = .ok (.invokevirtual 203, 3) := by decide +kernel
theorem dX9_later_34 : decode cX9_later 34 = .ok (.istore 4, 2) := by decide +kernel
theorem dX9_later_36 : decode cX9_later 36 = .ok (.iload 4, 2) := by decide +kernel
theorem dX9_later_38 : decode cX9_later 38 = .ok (.iload_n 2, 1) := by decide +kernel
theorem dX9_later_39 : decode cX9_later 39 = .ok (.if_icmp .le 8, 3) := by decide +kernel
theorem dX9_later_42 : decode cX9_later 42 = .ok (.iload 4, 2) := by decide +kernel
theorem dX9_later_44 : decode cX9_later 44 = .ok (.goto 4, 3) := by decide +kernel
theorem dX9_later_47 : decode cX9_later 47 = .ok (.iload_n 2, 1) := by decide +kernel
theorem dX9_later_48 : decode cX9_later 48 = .ok (.istore_n 2, 1) := by decide +kernel
theorem dX9_later_49 : decode cX9_later 49 = .ok (.iinc 3 1, 3) := by decide +kernel
theorem dX9_later_52 : decode cX9_later 52 = .ok (.goto (-33), 3) := by decide +kernel
theorem dX9_later_55 : decode cX9_later 55 = .ok (.iload_n 2, 1) := by decide +kernel
theorem dX9_later_56 : decode cX9_later 56 = .ok (.aload_n 0, 1) := by decide +kernel
theorem dX9_later_57 : decode cX9_later 57 = .ok (.iload_n 1, 1) := by decide +kernel
theorem dX9_later_58 : decode cX9_later 58 = .ok (.invokevirtual 203, 3) := by decide +kernel
theorem dX9_later_61 : decode cX9_later 61 = .ok (.isub, 1) := by decide +kernel
theorem dX9_later_62 : decode cX9_later 62 = .ok (.sipush 1000, 3) := by decide +kernel
theorem dX9_later_65 : decode cX9_later 65 = .ok (.idiv, 1) := by decide +kernel
theorem dX9_later_66 : decode cX9_later 66 = .ok (.ireturn, 1) := by decide +kernel
theorem dX9_isTeam_0 : decode cX9_isTeam 0 = .ok (.iload_n 1, 1) := by decide +kernel
theorem dX9_isTeam_1 : decode cX9_isTeam 1 = .ok (.i2l, 1) := by decide +kernel
theorem dX9_isTeam_2 : decode cX9_isTeam 2 = .ok (.lconst 0, 1) := by decide +kernel
theorem dX9_isTeam_3 : decode cX9_isTeam 3 = .ok (.iconst 1, 1) := by decide +kernel
theorem dX9_isTeam_4 : decode cX9_isTeam 4 = .ok (.aload_n 0, 1) := by decide +kernel
theorem dX9_isTeam_5 : decode cX9_isTeam 5 = .ok (.getfield 9, 3) := by decide +kernel
theorem dX9_isTeam_8 : decode cX9_isTeam 8 = .ok (.iconst 2, 1) := by decide +kernel
theorem dX9_isTeam_9 : decode cX9_isTeam 9 = .ok (.iaload, 1) := by decide +kernel
theorem dX9_isTeam_10 : decode cX9_isTeam 10 = .ok (.ishl, 1) := by decide +kernel
theorem dX9_isTeam_11 : decode cX9_isTeam 11 = .ok (.iconst 1, 1) := by decide +kernel
theorem dX9_isTeam_12 : decode cX9_isTeam 12 = .ok (.isub, 1) := by decide +kernel
theorem dX9_isTeam_13 : decode cX9_isTeam 13 = .ok (.i2l, 1) := by decide +kernel
theorem dX9_isTeam_14 : decode cX9_isTeam 14 = .ok (.invokestatic 54, 3) := by decide +kernel
theorem dX9_isTeam_17 : decode cX9_isTeam 17 = .ok (.ifCond .eq 15, 3) := by decide +kernel
theorem dX9_isTeam_20 : decode cX9_isTeam 20 = .ok (.iload_n 1, 1) := by decide +kernel
theorem dX9_isTeam_21 : decode cX9_isTeam 21 = .ok (.invokestatic 160, 3) := by decide +kernel
theorem dX9_isTeam_24 : decode cX9_isTeam 24 = .ok (.iconst 3, 1) := by decide +kernel
theorem dX9_isTeam_25 : decode cX9_isTeam 25 = .ok (.if_icmp .lt 7, 3) := by decide +kernel
theorem dX9_isTeam_28 : decode cX9_isTeam 28 = .ok (.iconst 1, 1) := by decide +kernel
theorem dX9_isTeam_29 : decode cX9_isTeam 29 = .ok (.goto 4, 3) := by decide +kernel
theorem dX9_isTeam_32 : decode cX9_isTeam 32 = .ok (.iconst 0, 1) := by decide +kernel
theorem dX9_isTeam_33 : decode cX9_isTeam 33 = .ok (.ireturn, 1) := by decide +kernel
theorem dX9_bestTeam_0 : decode cX9_bestTeam 0 = .ok (.iconst 0, 1) := by decide +kernel
theorem dX9_bestTeam_1 : decode cX9_bestTeam 1 = .ok (.istore_n 2, 1) := by decide +kernel
theorem dX9_bestTeam_2 : decode cX9_bestTeam 2 = .ok (.iload_n 2, 1) := by decide +kernel
theorem dX9_bestTeam_3 : decode cX9_bestTeam 3 = .ok (.aload_n 0, 1) := by decide +kernel
theorem dX9_bestTeam_4 : decode cX9_bestTeam 4 = .ok (.getfield 9, 3) := by decide +kernel
theorem dX9_bestTeam_7 : decode cX9_bestTeam 7 = .ok (.iconst 2, 1) := by decide +kernel
theorem dX9_bestTeam_8 : decode cX9_bestTeam 8 = .ok (.iaload, 1) := by decide +kernel
theorem dX9_bestTeam_9 : decode cX9_bestTeam 9 = .ok (.if_icmp .ge 53, 3) := by decide +kernel
theorem dX9_bestTeam_12 : decode cX9_bestTeam 12 = .ok (.iconst 0, 1) := by decide +kernel
theorem dX9_bestTeam_13 : decode cX9_bestTeam 13 = .ok (.istore_n 3, 1) := by decide +kernel
theorem dX9_bestTeam_14 : decode cX9_bestTeam 14 = .ok (.iload_n 3, 1) := by decide +kernel
theorem dX9_bestTeam_15 : decode cX9_bestTeam 15 = .ok (.iconst 3, 1) := by decide +kernel
theorem dX9_bestTeam_16 : decode cX9_bestTeam 16 = .ok (.if_icmp .ge 40, 3) := by decide +kernel
theorem dX9_bestTeam_19 : decode cX9_bestTeam 19 = .ok (.aload_n 0, 1) := by decide +kernel
theorem dX9_bestTeam_20 : decode cX9_bestTeam 20 = .ok (.iload_n 2, 1) := by decide +kernel
theorem dX9_bestTeam_21 : decode cX9_bestTeam 21 = .ok (.bipush 10, 2) := by decide +kernel
theorem dX9_bestTeam_23 : decode cX9_bestTeam 23 = .ok (.iload_n 3, 1) := by decide +kernel
theorem dX9_bestTeam_24 : decode cX9_bestTeam 24 = .ok (.iconst 1, 1) := by decide +kernel
theorem dX9_bestTeam_25 : decode cX9_bestTeam 25 = .ok (.iadd, 1) := by decide +kernel
theorem dX9_bestTeam_26 : decode cX9_bestTeam 26 = .ok (.imul, 1) := by decide +kernel
theorem dX9_bestTeam_27 : decode cX9_bestTeam 27 = .ok (.iconst 0, 1) := by decide +kernel
theorem dX9_bestTeam_28 : decode cX9_bestTeam 28 = .ok (.invokevirtual 196, 3) := by decide +kernel
theorem dX9_bestTeam_31 : decode cX9_bestTeam 31 = .ok (.aload_n 0, 1) := by decide +kernel
theorem dX9_bestTeam_32 : decode cX9_bestTeam 32 = .ok (.getfield 28, 3) := by decide +kernel
theorem dX9_bestTeam_35 : decode cX9_bestTeam 35 = .ok (.iconst 3, 1) := by decide +kernel
theorem dX9_bestTeam_36 : decode cX9_bestTeam 36 = .ok (.iload_n 2, 1) := by decide +kernel
theorem dX9_bestTeam_37 : decode cX9_bestTeam 37 = .ok (.imul, 1) := by decide +kernel
theorem dX9_bestTeam_38 : decode cX9_bestTeam 38 = .ok (.iload_n 3, 1) := by decide +kernel
theorem dX9_bestTeam_39 : decode cX9_bestTeam 39 = .ok (.iadd, 1) := by decide +kernel
theorem dX9_bestTeam_40 : decode cX9_bestTeam 40 = .ok (.aload_n 0, 1) := by decide +kernel
theorem dX9_bestTeam_41 : decode cX9_bestTeam 41 = .ok (.getfield 22, 3) := by decide +kernel
theorem dX9_bestTeam_44 : decode cX9_bestTeam 44 = .ok (.bipush 40, 2) := by decide +kernel
theorem dX9_bestTeam_46 : decode cX9_bestTeam 46 = .ok (.iload_n 3, 1) := by decide +kernel
theorem dX9_bestTeam_47 : decode cX9_bestTeam 47 = .ok (.imul, 1) := by decide +kernel
theorem dX9_bestTeam_48 : decode cX9_bestTeam 48 = .ok (.iaload, 1) := by decide +kernel
theorem dX9_bestTeam_49 : decode cX9_bestTeam 49 = .ok (.iastore, 1) := by decide +kernel
theorem dX9_bestTeam_50 : decode cX9_bestTeam 50 = .ok (.iinc 3 1, 3) := by decide +kernel
theorem dX9_bestTeam_53 : decode cX9_bestTeam 53 = .ok (.goto (-39), 3) := by decide +kernel
theorem dX9_bestTeam_56 : decode cX9_bestTeam 56 = .ok (.iinc 2 1, 3) := by decide +kernel
theorem dX9_bestTeam_59 : decode cX9_bestTeam 59 = .ok (.goto (-57), 3) := by decide +kernel
theorem dX9_bestTeam_62 : decode cX9_bestTeam 62 = .ok (.iconst (-1), 1) := by decide +kernel
theorem dX9_bestTeam_63 : decode cX9_bestTeam 63 = .ok (.istore_n 2, 1) := by decide +kernel
theorem dX9_bestTeam_64 : decode cX9_bestTeam 64 = .ok (.iconst 0, 1) := by decide +kernel
theorem dX9_bestTeam_65 : decode cX9_bestTeam 65 = .ok (.istore_n 3, 1) := by decide +kernel
theorem dX9_bestTeam_66 : decode cX9_bestTeam 66 = .ok (.iload_n 3, 1) := by decide +kernel
theorem dX9_bestTeam_67 : decode cX9_bestTeam 67 = .ok (.sipush 216, 3) := by decide +kernel
theorem dX9_bestTeam_70 : decode cX9_bestTeam 70 = .ok (.if_icmp .ge 151, 3) := by decide +kernel
theorem dX9_bestTeam_73 : decode cX9_bestTeam 73 = .ok (.iload_n 3, 1) := by decide +kernel
theorem dX9_bestTeam_74 : decode cX9_bestTeam 74 = .ok (.bipush 6, 2) := by decide +kernel
theorem dX9_bestTeam_76 : decode cX9_bestTeam 76 = .ok (.idiv, 1) := by decide +kernel
theorem dX9_bestTeam_77 : decode cX9_bestTeam 77 = .ok (.bipush 6, 2) := by decide +kernel
theorem dX9_bestTeam_79 : decode cX9_bestTeam 79 = .ok (.idiv, 1) := by decide +kernel
theorem dX9_bestTeam_80 : decode cX9_bestTeam 80 = .ok (.istore 4, 2) := by decide +kernel
theorem dX9_bestTeam_82 : decode cX9_bestTeam 82 = .ok (.iload_n 3, 1) := by decide +kernel
theorem dX9_bestTeam_83 : decode cX9_bestTeam 83 = .ok (.bipush 6, 2) := by decide +kernel
theorem dX9_bestTeam_85 : decode cX9_bestTeam 85 = .ok (.idiv, 1) := by decide +kernel
theorem dX9_bestTeam_86 : decode cX9_bestTeam 86 = .ok (.bipush 6, 2) := by decide +kernel
theorem dX9_bestTeam_88 : decode cX9_bestTeam 88 = .ok (.irem, 1) := by decide +kernel
theorem dX9_bestTeam_89 : decode cX9_bestTeam 89 = .ok (.istore 5, 2) := by decide +kernel
theorem dX9_bestTeam_91 : decode cX9_bestTeam 91 = .ok (.iload_n 3, 1) := by decide +kernel
theorem dX9_bestTeam_92 : decode cX9_bestTeam 92 = .ok (.bipush 6, 2) := by decide +kernel
theorem dX9_bestTeam_94 : decode cX9_bestTeam 94 = .ok (.irem, 1) := by decide +kernel
theorem dX9_bestTeam_95 : decode cX9_bestTeam 95 = .ok (.istore 6, 2) := by decide +kernel
theorem dX9_bestTeam_97 : decode cX9_bestTeam 97 = .ok (.iload 4, 2) := by decide +kernel
theorem dX9_bestTeam_99 : decode cX9_bestTeam 99 = .ok (.iload 5, 2) := by decide +kernel
theorem dX9_bestTeam_101 : decode cX9_bestTeam 101 = .ok (.if_icmp .eq 114, 3) := by decide +kernel
theorem dX9_bestTeam_104 : decode cX9_bestTeam 104 = .ok (.iload 4, 2) := by decide +kernel
theorem dX9_bestTeam_106 : decode cX9_bestTeam 106 = .ok (.iload 6, 2) := by decide +kernel
theorem dX9_bestTeam_108 : decode cX9_bestTeam 108 = .ok (.if_icmp .eq 107, 3) := by decide +kernel
theorem dX9_bestTeam_111 : decode cX9_bestTeam 111 = .ok (.iload 5, 2) := by decide +kernel
theorem dX9_bestTeam_113 : decode cX9_bestTeam 113 = .ok (.iload 6, 2) := by decide +kernel
theorem dX9_bestTeam_115 : decode cX9_bestTeam 115 = .ok (.if_icmp .eq 100, 3) := by decide +kernel
theorem dX9_bestTeam_118 : decode cX9_bestTeam 118 = .ok (.iload_n 1, 1) := by decide +kernel
theorem dX9_bestTeam_119 : decode cX9_bestTeam 119 = .ok (.iload 4, 2) := by decide +kernel
theorem dX9_bestTeam_121 : decode cX9_bestTeam 121 = .ok (.ishr, 1) := by decide +kernel
theorem dX9_bestTeam_122 : decode cX9_bestTeam 122 = .ok (.iload_n 1, 1) := by decide +kernel
theorem dX9_bestTeam_123 : decode cX9_bestTeam 123 = .ok (.iload 5, 2) := by decide +kernel
theorem dX9_bestTeam_125 : decode cX9_bestTeam 125 = .ok (.ishr, 1) := by decide +kernel
theorem dX9_bestTeam_126 : decode cX9_bestTeam 126 = .ok (.iand, 1) := by decide +kernel
theorem dX9_bestTeam_127 : decode cX9_bestTeam 127 = .ok (.iload_n 1, 1) := by decide +kernel
theorem dX9_bestTeam_128 : decode cX9_bestTeam 128 = .ok (.iload 6, 2) := by decide +kernel
theorem dX9_bestTeam_130 : decode cX9_bestTeam 130 = .ok (.ishr, 1) := by decide +kernel
theorem dX9_bestTeam_131 : decode cX9_bestTeam 131 = .ok (.iand, 1) := by decide +kernel
theorem dX9_bestTeam_132 : decode cX9_bestTeam 132 = .ok (.iconst 1, 1) := by decide +kernel
theorem dX9_bestTeam_133 : decode cX9_bestTeam 133 = .ok (.iand, 1) := by decide +kernel
theorem dX9_bestTeam_134 : decode cX9_bestTeam 134 = .ok (.ifCond .ne 6, 3) := by decide +kernel
theorem dX9_bestTeam_137 : decode cX9_bestTeam 137 = .ok (.goto 78, 3) := by decide +kernel
theorem dX9_bestTeam_140 : decode cX9_bestTeam 140 = .ok (.aload_n 0, 1) := by decide +kernel
theorem dX9_bestTeam_141 : decode cX9_bestTeam 141 = .ok (.getfield 28, 3) := by decide +kernel
theorem dX9_bestTeam_144 : decode cX9_bestTeam 144 = .ok (.iconst 3, 1) := by decide +kernel
theorem dX9_bestTeam_145 : decode cX9_bestTeam 145 = .ok (.iload 4, 2) := by decide +kernel
theorem dX9_bestTeam_147 : decode cX9_bestTeam 147 = .ok (.imul, 1) := by decide +kernel
theorem dX9_bestTeam_148 : decode cX9_bestTeam 148 = .ok (.iaload, 1) := by decide +kernel
theorem dX9_bestTeam_149 : decode cX9_bestTeam 149 = .ok (.aload_n 0, 1) := by decide +kernel
theorem dX9_bestTeam_150 : decode cX9_bestTeam 150 = .ok (.getfield 28, 3) := by decide +kernel
theorem dX9_bestTeam_153 : decode cX9_bestTeam 153 = .ok (.iconst 3, 1) := by decide +kernel
theorem dX9_bestTeam_154 : decode cX9_bestTeam 154 = .ok (.iload 5, 2) := by decide +kernel
theorem dX9_bestTeam_156 : decode cX9_bestTeam 156 = .ok (.imul, 1) := by decide +kernel
theorem dX9_bestTeam_157 : decode cX9_bestTeam 157 = .ok (.iconst 1, 1) := by decide +kernel
theorem dX9_bestTeam_158 : decode cX9_bestTeam 158 = .ok (.iadd, 1) := by decide +kernel
theorem dX9_bestTeam_159 : decode cX9_bestTeam 159 = .ok (.iaload, 1) := by decide +kernel
theorem dX9_bestTeam_160 : decode cX9_bestTeam 160 = .ok (.iadd, 1) := by decide +kernel
theorem dX9_bestTeam_161 : decode cX9_bestTeam 161 = .ok (.aload_n 0, 1) := by decide +kernel
theorem dX9_bestTeam_162 : decode cX9_bestTeam 162 = .ok (.getfield 28, 3) := by decide +kernel
theorem dX9_bestTeam_165 : decode cX9_bestTeam 165 = .ok (.iconst 3, 1) := by decide +kernel
theorem dX9_bestTeam_166 : decode cX9_bestTeam 166 = .ok (.iload 6, 2) := by decide +kernel
theorem dX9_bestTeam_168 : decode cX9_bestTeam 168 = .ok (.imul, 1) := by decide +kernel
theorem dX9_bestTeam_169 : decode cX9_bestTeam 169 = .ok (.iconst 2, 1) := by decide +kernel
theorem dX9_bestTeam_170 : decode cX9_bestTeam 170 = .ok (.iadd, 1) := by decide +kernel
theorem dX9_bestTeam_171 : decode cX9_bestTeam 171 = .ok (.iaload, 1) := by decide +kernel
theorem dX9_bestTeam_172 : decode cX9_bestTeam 172 = .ok (.iadd, 1) := by decide +kernel
theorem dX9_bestTeam_173 : decode cX9_bestTeam 173 = .ok (.istore 7, 2) := by decide +kernel
theorem dX9_bestTeam_175 : decode cX9_bestTeam 175 = .ok (.iload_n 2, 1) := by decide +kernel
theorem dX9_bestTeam_176 : decode cX9_bestTeam 176 = .ok (.ifCond .lt 12, 3) := by decide +kernel
theorem dX9_bestTeam_179 : decode cX9_bestTeam 179 = .ok (.iload 7, 2) := by decide +kernel
theorem dX9_bestTeam_181 : decode cX9_bestTeam 181 = .ok (.iload_n 2, 1) := by decide +kernel
theorem dX9_bestTeam_182 : decode cX9_bestTeam 182 = .ok (.if_icmp .lt 6, 3) := by decide +kernel
theorem dX9_bestTeam_185 : decode cX9_bestTeam 185 = .ok (.goto 30, 3) := by decide +kernel
theorem dX9_bestTeam_188 : decode cX9_bestTeam 188 = .ok (.iload 7, 2) := by decide +kernel
theorem dX9_bestTeam_190 : decode cX9_bestTeam 190 = .ok (.istore_n 2, 1) := by decide +kernel
theorem dX9_bestTeam_191 : decode cX9_bestTeam 191 = .ok (.aload_n 0, 1) := by decide +kernel
theorem dX9_bestTeam_192 : decode cX9_bestTeam 192 = .ok (.getfield 31, 3) := by decide +kernel
theorem dX9_bestTeam_195 : decode cX9_bestTeam 195 = .ok (.iconst 0, 1) := by decide +kernel
theorem dX9_bestTeam_196 : decode cX9_bestTeam 196 = .ok (.iload 4, 2) := by decide +kernel
theorem dX9_bestTeam_198 : decode cX9_bestTeam 198 = .ok (.iastore, 1) := by decide +kernel
theorem dX9_bestTeam_199 : decode cX9_bestTeam 199 = .ok (.aload_n 0, 1) := by decide +kernel
theorem dX9_bestTeam_200 : decode cX9_bestTeam 200 = .ok (.getfield 31, 3) := by decide +kernel
theorem dX9_bestTeam_203 : decode cX9_bestTeam 203 = .ok (.iconst 1, 1) := by decide +kernel
theorem dX9_bestTeam_204 : decode cX9_bestTeam 204 = .ok (.iload 5, 2) := by decide +kernel
theorem dX9_bestTeam_206 : decode cX9_bestTeam 206 = .ok (.iastore, 1) := by decide +kernel
theorem dX9_bestTeam_207 : decode cX9_bestTeam 207 = .ok (.aload_n 0, 1) := by decide +kernel
theorem dX9_bestTeam_208 : decode cX9_bestTeam 208 = .ok (.getfield 31, 3) := by decide +kernel
theorem dX9_bestTeam_211 : decode cX9_bestTeam 211 = .ok (.iconst 2, 1) := by decide +kernel
theorem dX9_bestTeam_212 : decode cX9_bestTeam 212 = .ok (.iload 6, 2) := by decide +kernel
theorem dX9_bestTeam_214 : decode cX9_bestTeam 214 = .ok (.iastore, 1) := by decide +kernel
theorem dX9_bestTeam_215 : decode cX9_bestTeam 215 = .ok (.iinc 3 1, 3) := by decide +kernel
theorem dX9_bestTeam_218 : decode cX9_bestTeam 218 = .ok (.goto (-152), 3) := by decide +kernel
theorem dX9_bestTeam_221 : decode cX9_bestTeam 221 = .ok (.iload_n 2, 1) := by decide +kernel
theorem dX9_bestTeam_222 : decode cX9_bestTeam 222 = .ok (.ireturn, 1) := by decide +kernel
theorem dX9_team_0 : decode cX9_team 0 = .ok (.aload_n 0, 1) := by decide +kernel
theorem dX9_team_1 : decode cX9_team 1 = .ok (.iload_n 1, 1) := by decide +kernel
theorem dX9_team_2 : decode cX9_team 2 = .ok (.invokevirtual 208, 3) := by decide +kernel
theorem dX9_team_5 : decode cX9_team 5 = .ok (.ifCond .eq 11, 3) := by decide +kernel
theorem dX9_team_8 : decode cX9_team 8 = .ok (.aload_n 0, 1) := by decide +kernel
theorem dX9_team_9 : decode cX9_team 9 = .ok (.iload_n 1, 1) := by decide +kernel
theorem dX9_team_10 : decode cX9_team 10 = .ok (.invokevirtual 211, 3) := by decide +kernel
theorem dX9_team_13 : decode cX9_team 13 = .ok (.goto 9, 3) := by decide +kernel
theorem dX9_team_16 : decode cX9_team 16 = .ok (.aload_n 0, 1) := by decide +kernel
theorem dX9_team_17 : decode cX9_team 17 = .ok (.ldc 46, 2) := by decide +kernel
theorem dX9_team_19 : decode cX9_team 19 = .ok (.invokevirtual 48, 3) := by decide +kernel
theorem dX9_team_22 : decode cX9_team 22 = .ok (.ireturn, 1) := by decide +kernel
theorem dX9_leg_0 : decode cX9_leg 0 = .ok (.aload_n 0, 1) := by decide +kernel
theorem dX9_leg_1 : decode cX9_leg 1 = .ok (.iload_n 1, 1) := by decide +kernel
theorem dX9_leg_2 : decode cX9_leg 2 = .ok (.invokevirtual 208, 3) := by decide +kernel
theorem dX9_leg_5 : decode cX9_leg 5 = .ok (.ifCond .eq 15, 3) := by decide +kernel
theorem dX9_leg_8 : decode cX9_leg 8 = .ok (.iload_n 2, 1) := by decide +kernel
theorem dX9_leg_9 : decode cX9_leg 9 = .ok (.i2l, 1) := by decide +kernel
theorem dX9_leg_10 : decode cX9_leg 10 = .ok (.lconst 0, 1) := by decide +kernel
theorem dX9_leg_11 : decode cX9_leg 11 = .ok (.ldc2_w 214, 3) := by decide +kernel
theorem dX9_leg_14 : decode cX9_leg 14 = .ok (.invokestatic 54, 3) := by decide +kernel
theorem dX9_leg_17 : decode cX9_leg 17 = .ok (.ifCond .ne 10, 3) := by decide +kernel
theorem dX9_leg_20 : decode cX9_leg 20 = .ok (.aload_n 0, 1) := by decide +kernel
theorem dX9_leg_21 : decode cX9_leg 21 = .ok (.ldc 46, 2) := by decide +kernel
theorem dX9_leg_23 : decode cX9_leg 23 = .ok (.invokevirtual 48, 3) := by decide +kernel
theorem dX9_leg_26 : decode cX9_leg 26 = .ok (.ireturn, 1) := by decide +kernel
theorem dX9_leg_27 : decode cX9_leg 27 = .ok (.aload_n 0, 1) := by decide +kernel
theorem dX9_leg_28 : decode cX9_leg 28 = .ok (.iload_n 1, 1) := by decide +kernel
theorem dX9_leg_29 : decode cX9_leg 29 = .ok (.invokevirtual 211, 3) := by decide +kernel
theorem dX9_leg_32 : decode cX9_leg 32 = .ok (.pop, 1) := by decide +kernel
theorem dX9_leg_33 : decode cX9_leg 33 = .ok (.aload_n 0, 1) := by decide +kernel
theorem dX9_leg_34 : decode cX9_leg 34 = .ok (.getfield 31, 3) := by decide +kernel
theorem dX9_leg_37 : decode cX9_leg 37 = .ok (.iload_n 2, 1) := by decide +kernel
theorem dX9_leg_38 : decode cX9_leg 38 = .ok (.iaload, 1) := by decide +kernel
theorem dX9_leg_39 : decode cX9_leg 39 = .ok (.ireturn, 1) := by decide +kernel
theorem dX9_droppingAs_0 : decode cX9_droppingAs 0 = .ok (.aload_n 0, 1) := by decide +kernel
theorem dX9_droppingAs_1 : decode cX9_droppingAs 1 = .ok (.iload_n 2, 1) := by decide +kernel
theorem dX9_droppingAs_2 : decode cX9_droppingAs 2 = .ok (.iconst 0, 1) := by decide +kernel
theorem dX9_droppingAs_3 : decode cX9_droppingAs 3 = .ok (.invokevirtual 62, 3) := by decide +kernel
theorem dX9_droppingAs_6 : decode cX9_droppingAs 6 = .ok (.istore 6, 2) := by decide +kernel
theorem dX9_droppingAs_8 : decode cX9_droppingAs 8 = .ok (.aload_n 0, 1) := by decide +kernel
theorem dX9_droppingAs_9 : decode cX9_droppingAs 9 = .ok (.iload_n 2, 1) := by decide +kernel
theorem dX9_droppingAs_10 : decode cX9_droppingAs 10 = .ok (.iconst 0, 1) := by decide +kernel
theorem dX9_droppingAs_11 : decode cX9_droppingAs 11 = .ok (.iload_n 1, 1) := by decide +kernel
theorem dX9_droppingAs_12 : decode cX9_droppingAs 12 = .ok (.invokevirtual 77, 3) := by decide +kernel
theorem dX9_droppingAs_15 : decode cX9_droppingAs 15 = .ok (.aload_n 0, 1) := by decide +kernel
theorem dX9_droppingAs_16 : decode cX9_droppingAs 16 = .ok (.iload_n 2, 1) := by decide +kernel
theorem dX9_droppingAs_17 : decode cX9_droppingAs 17 = .ok (.iload_n 3, 1) := by decide +kernel
theorem dX9_droppingAs_18 : decode cX9_droppingAs 18 = .ok (.iload 4, 2) := by decide +kernel
theorem dX9_droppingAs_20 : decode cX9_droppingAs 20 = .ok (.iload 5, 2) := by decide +kernel
theorem dX9_droppingAs_22 : decode cX9_droppingAs 22 = .ok (.iconst 0, 1) := by decide +kernel
theorem dX9_droppingAs_23 : decode cX9_droppingAs 23 = .ok (.invokevirtual 189, 3) := by decide +kernel
theorem dX9_droppingAs_26 : decode cX9_droppingAs 26 = .ok (.lstore 7, 2) := by decide +kernel
theorem dX9_droppingAs_28 : decode cX9_droppingAs 28 = .ok (.aload_n 0, 1) := by decide +kernel
theorem dX9_droppingAs_29 : decode cX9_droppingAs 29 = .ok (.iload_n 2, 1) := by decide +kernel
theorem dX9_droppingAs_30 : decode cX9_droppingAs 30 = .ok (.iconst 0, 1) := by decide +kernel
theorem dX9_droppingAs_31 : decode cX9_droppingAs 31 = .ok (.iload 6, 2) := by decide +kernel
theorem dX9_droppingAs_33 : decode cX9_droppingAs 33 = .ok (.invokevirtual 77, 3) := by decide +kernel
theorem dX9_droppingAs_36 : decode cX9_droppingAs 36 = .ok (.lload 7, 2) := by decide +kernel
theorem dX9_droppingAs_38 : decode cX9_droppingAs 38 = .ok (.lreturn, 1) := by decide +kernel
theorem dX9_gum_0 : decode cX9_gum 0 = .ok (.aload_n 0, 1) := by decide +kernel
theorem dX9_gum_1 : decode cX9_gum 1 = .ok (.iload_n 1, 1) := by decide +kernel
theorem dX9_gum_2 : decode cX9_gum 2 = .ok (.iload_n 2, 1) := by decide +kernel
theorem dX9_gum_3 : decode cX9_gum 3 = .ok (.iload_n 3, 1) := by decide +kernel
theorem dX9_gum_4 : decode cX9_gum 4 = .ok (.bipush 8, 2) := by decide +kernel
theorem dX9_gum_6 : decode cX9_gum 6 = .ok (.invokevirtual 181, 3) := by decide +kernel
theorem dX9_gum_9 : decode cX9_gum 9 = .ok (.ifCond .eq 30, 3) := by decide +kernel
theorem dX9_gum_12 : decode cX9_gum 12 = .ok (.iload_n 3, 1) := by decide +kernel
theorem dX9_gum_13 : decode cX9_gum 13 = .ok (.ifCond .eq 26, 3) := by decide +kernel
theorem dX9_gum_16 : decode cX9_gum 16 = .ok (.iload 4, 2) := by decide +kernel
theorem dX9_gum_18 : decode cX9_gum 18 = .ok (.i2l, 1) := by decide +kernel
theorem dX9_gum_19 : decode cX9_gum 19 = .ok (.lconst 0, 1) := by decide +kernel
theorem dX9_gum_20 : decode cX9_gum 20 = .ok (.iload_n 3, 1) := by decide +kernel
theorem dX9_gum_21 : decode cX9_gum 21 = .ok (.i2l, 1) := by decide +kernel
theorem dX9_gum_22 : decode cX9_gum 22 = .ok (.invokestatic 54, 3) := by decide +kernel
theorem dX9_gum_25 : decode cX9_gum 25 = .ok (.ifCond .eq 14, 3) := by decide +kernel
theorem dX9_gum_28 : decode cX9_gum 28 = .ok (.iload 5, 2) := by decide +kernel
theorem dX9_gum_30 : decode cX9_gum 30 = .ok (.i2l, 1) := by decide +kernel
theorem dX9_gum_31 : decode cX9_gum 31 = .ok (.lconst 0, 1) := by decide +kernel
theorem dX9_gum_32 : decode cX9_gum 32 = .ok (.lconst 1, 1) := by decide +kernel
theorem dX9_gum_33 : decode cX9_gum 33 = .ok (.invokestatic 54, 3) := by decide +kernel
theorem dX9_gum_36 : decode cX9_gum 36 = .ok (.ifCond .ne 11, 3) := by decide +kernel
theorem dX9_gum_39 : decode cX9_gum 39 = .ok (.aload_n 0, 1) := by decide +kernel
theorem dX9_gum_40 : decode cX9_gum 40 = .ok (.ldc 46, 2) := by decide +kernel
theorem dX9_gum_42 : decode cX9_gum 42 = .ok (.invokevirtual 48, 3) := by decide +kernel
theorem dX9_gum_45 : decode cX9_gum 45 = .ok (.i2l, 1) := by decide +kernel
theorem dX9_gum_46 : decode cX9_gum 46 = .ok (.lreturn, 1) := by decide +kernel
theorem dX9_gum_47 : decode cX9_gum 47 = .ok (.aload_n 0, 1) := by decide +kernel
theorem dX9_gum_48 : decode cX9_gum 48 = .ok (.iload 5, 2) := by decide +kernel
theorem dX9_gum_50 : decode cX9_gum 50 = .ok (.ifCond .ne 7, 3) := by decide +kernel
theorem dX9_gum_53 : decode cX9_gum 53 = .ok (.iconst 5, 1) := by decide +kernel
theorem dX9_gum_54 : decode cX9_gum 54 = .ok (.goto 9, 3) := by decide +kernel
theorem dX9_gum_57 : decode cX9_gum 57 = .ok (.aload_n 0, 1) := by decide +kernel
theorem dX9_gum_58 : decode cX9_gum 58 = .ok (.iload_n 1, 1) := by decide +kernel
theorem dX9_gum_59 : decode cX9_gum 59 = .ok (.iconst 0, 1) := by decide +kernel
theorem dX9_gum_60 : decode cX9_gum 60 = .ok (.invokevirtual 62, 3) := by decide +kernel
theorem dX9_gum_63 : decode cX9_gum 63 = .ok (.iload_n 1, 1) := by decide +kernel
theorem dX9_gum_64 : decode cX9_gum 64 = .ok (.iload_n 2, 1) := by decide +kernel
theorem dX9_gum_65 : decode cX9_gum 65 = .ok (.iload_n 3, 1) := by decide +kernel
theorem dX9_gum_66 : decode cX9_gum 66 = .ok (.iload 4, 2) := by decide +kernel
theorem dX9_gum_68 : decode cX9_gum 68 = .ok (.invokevirtual 216, 3) := by decide +kernel
theorem dX9_gum_71 : decode cX9_gum 71 = .ok (.lreturn, 1) := by decide +kernel
theorem dX9_suspect_0 : decode cX9_suspect 0 = .ok (.aload_n 0, 1) := by decide +kernel
theorem dX9_suspect_1 : decode cX9_suspect 1 = .ok (.iload_n 1, 1) := by decide +kernel
theorem dX9_suspect_2 : decode cX9_suspect 2 = .ok (.iload_n 2, 1) := by decide +kernel
theorem dX9_suspect_3 : decode cX9_suspect 3 = .ok (.iload_n 3, 1) := by decide +kernel
theorem dX9_suspect_4 : decode cX9_suspect 4 = .ok (.bipush 8, 2) := by decide +kernel
theorem dX9_suspect_6 : decode cX9_suspect 6 = .ok (.invokevirtual 181, 3) := by decide +kernel
theorem dX9_suspect_9 : decode cX9_suspect 9 = .ok (.ifCond .eq 7, 3) := by decide +kernel
theorem dX9_suspect_12 : decode cX9_suspect 12 = .ok (.iload_n 3, 1) := by decide +kernel
theorem dX9_suspect_13 : decode cX9_suspect 13 = .ok (.ifCond .ne 10, 3) := by decide +kernel
theorem dX9_suspect_16 : decode cX9_suspect 16 = .ok (.aload_n 0, 1) := by decide +kernel
theorem dX9_suspect_17 : decode cX9_suspect 17 = .ok (.ldc 46, 2) := by decide +kernel
theorem dX9_suspect_19 : decode cX9_suspect 19 = .ok (.invokevirtual 48, 3) := by decide +kernel
theorem dX9_suspect_22 : decode cX9_suspect 22 = .ok (.ireturn, 1) := by decide +kernel
theorem dX9_suspect_23 : decode cX9_suspect 23 = .ok (.iload_n 3, 1) := by decide +kernel
theorem dX9_suspect_24 : decode cX9_suspect 24 = .ok (.istore 4, 2) := by decide +kernel
theorem dX9_suspect_26 : decode cX9_suspect 26 = .ok (.iload 4, 2) := by decide +kernel
theorem dX9_suspect_28 : decode cX9_suspect 28 = .ok (.ifCond .lt 51, 3) := by decide +kernel
theorem dX9_suspect_31 : decode cX9_suspect 31 = .ok (.aload_n 0, 1) := by decide +kernel
theorem dX9_suspect_32 : decode cX9_suspect 32 = .ok (.iconst 5, 1) := by decide +kernel
theorem dX9_suspect_33 : decode cX9_suspect 33 = .ok (.iload_n 1, 1) := by decide +kernel
theorem dX9_suspect_34 : decode cX9_suspect 34 = .ok (.iload_n 2, 1) := by decide +kernel
theorem dX9_suspect_35 : decode cX9_suspect 35 = .ok (.iload_n 3, 1) := by decide +kernel
theorem dX9_suspect_36 : decode cX9_suspect 36 = .ok (.iload 4, 2) := by decide +kernel
theorem dX9_suspect_38 : decode cX9_suspect 38 = .ok (.invokevirtual 216, 3) := by decide +kernel
theorem dX9_suspect_41 : decode cX9_suspect 41 = .ok (.lstore 5, 2) := by decide +kernel
theorem dX9_suspect_43 : decode cX9_suspect 43 = .ok (.lload 5, 2) := by decide +kernel
theorem dX9_suspect_45 : decode cX9_suspect 45 = .ok (.lconst 0, 1) := by decide +kernel
theorem dX9_suspect_46 : decode cX9_suspect 46 = .ok (.lcmp, 1) := by decide +kernel
theorem dX9_suspect_47 : decode cX9_suspect 47 = .ok (.ifCond .le 26, 3) := by decide +kernel
theorem dX9_suspect_50 : decode cX9_suspect 50 = .ok (.lload 5, 2) := by decide +kernel
theorem dX9_suspect_52 : decode cX9_suspect 52 = .ok (.ldc2_w 214, 3) := by decide +kernel
theorem dX9_suspect_55 : decode cX9_suspect 55 = .ok (.aload_n 0, 1) := by decide +kernel
theorem dX9_suspect_56 : decode cX9_suspect 56 = .ok (.iload_n 1, 1) := by decide +kernel
theorem dX9_suspect_57 : decode cX9_suspect 57 = .ok (.iload_n 2, 1) := by decide +kernel
theorem dX9_suspect_58 : decode cX9_suspect 58 = .ok (.iload_n 3, 1) := by decide +kernel
theorem dX9_suspect_59 : decode cX9_suspect 59 = .ok (.iload 4, 2) := by decide +kernel
theorem dX9_suspect_61 : decode cX9_suspect 61 = .ok (.iconst 0, 1) := by decide +kernel
theorem dX9_suspect_62 : decode cX9_suspect 62 = .ok (.invokevirtual 189, 3) := by decide +kernel
theorem dX9_suspect_65 : decode cX9_suspect 65 = .ok (.lmul, 1) := by decide +kernel
theorem dX9_suspect_66 : decode cX9_suspect 66 = .ok (.lcmp, 1) := by decide +kernel
theorem dX9_suspect_67 : decode cX9_suspect 67 = .ok (.ifCond .lt 6, 3) := by decide +kernel
theorem dX9_suspect_70 : decode cX9_suspect 70 = .ok (.iload 4, 2) := by decide +kernel
theorem dX9_suspect_72 : decode cX9_suspect 72 = .ok (.ireturn, 1) := by decide +kernel
theorem dX9_suspect_73 : decode cX9_suspect 73 = .ok (.iinc 4 (-1), 3) := by decide +kernel
theorem dX9_suspect_76 : decode cX9_suspect 76 = .ok (.goto (-50), 3) := by decide +kernel
theorem dX9_suspect_79 : decode cX9_suspect 79 = .ok (.aload_n 0, 1) := by decide +kernel
theorem dX9_suspect_80 : decode cX9_suspect 80 = .ok (.ldc 47, 2) := by decide +kernel
theorem dX9_suspect_82 : decode cX9_suspect 82 = .ok (.invokevirtual 48, 3) := by decide +kernel
theorem dX9_suspect_85 : decode cX9_suspect 85 = .ok (.ireturn, 1) := by decide +kernel
theorem dX9_grass_0 : decode cX9_grass 0 = .ok (.iconst 0, 1) := by decide +kernel
theorem dX9_grass_1 : decode cX9_grass 1 = .ok (.istore_n 1, 1) := by decide +kernel
theorem dX9_grass_2 : decode cX9_grass 2 = .ok (.iconst 0, 1) := by decide +kernel
theorem dX9_grass_3 : decode cX9_grass 3 = .ok (.istore_n 2, 1) := by decide +kernel
theorem dX9_grass_4 : decode cX9_grass 4 = .ok (.iload_n 2, 1) := by decide +kernel
theorem dX9_grass_5 : decode cX9_grass 5 = .ok (.bipush 30, 2) := by decide +kernel
theorem dX9_grass_7 : decode cX9_grass 7 = .ok (.if_icmp .ge 28, 3) := by decide +kernel
theorem dX9_grass_10 : decode cX9_grass 10 = .ok (.iload_n 1, 1) := by decide +kernel
theorem dX9_grass_11 : decode cX9_grass 11 = .ok (.aload_n 0, 1) := by decide +kernel
theorem dX9_grass_12 : decode cX9_grass 12 = .ok (.getfield 9, 3) := by decide +kernel
theorem dX9_grass_15 : decode cX9_grass 15 = .ok (.iconst 3, 1) := by decide +kernel
theorem dX9_grass_16 : decode cX9_grass 16 = .ok (.iload_n 2, 1) := by decide +kernel
theorem dX9_grass_17 : decode cX9_grass 17 = .ok (.iadd, 1) := by decide +kernel
theorem dX9_grass_18 : decode cX9_grass 18 = .ok (.iaload, 1) := by decide +kernel
theorem dX9_grass_19 : decode cX9_grass 19 = .ok (.ifCond .ne 7, 3) := by decide +kernel
theorem dX9_grass_22 : decode cX9_grass 22 = .ok (.iconst 1, 1) := by decide +kernel
theorem dX9_grass_23 : decode cX9_grass 23 = .ok (.goto 4, 3) := by decide +kernel
theorem dX9_grass_26 : decode cX9_grass 26 = .ok (.iconst 0, 1) := by decide +kernel
theorem dX9_grass_27 : decode cX9_grass 27 = .ok (.iadd, 1) := by decide +kernel
theorem dX9_grass_28 : decode cX9_grass 28 = .ok (.istore_n 1, 1) := by decide +kernel
theorem dX9_grass_29 : decode cX9_grass 29 = .ok (.iinc 2 1, 3) := by decide +kernel
theorem dX9_grass_32 : decode cX9_grass 32 = .ok (.goto (-28), 3) := by decide +kernel
theorem dX9_grass_35 : decode cX9_grass 35 = .ok (.iload_n 1, 1) := by decide +kernel
theorem dX9_grass_36 : decode cX9_grass 36 = .ok (.ireturn, 1) := by decide +kernel
theorem dX9_rain_0 : decode cX9_rain 0 = .ok (.iload_n 1, 1) := by decide +kernel
theorem dX9_rain_1 : decode cX9_rain 1 = .ok (.i2l, 1) := by decide +kernel
theorem dX9_rain_2 : decode cX9_rain 2 = .ok (.lconst 1, 1) := by decide +kernel
theorem dX9_rain_3 : decode cX9_rain 3 = .ok (.ldc2_w 219, 3) := by decide +kernel
theorem dX9_rain_6 : decode cX9_rain 6 = .ok (.invokestatic 54, 3) := by decide +kernel
theorem dX9_rain_9 : decode cX9_rain 9 = .ok (.ifCond .ne 10, 3) := by decide +kernel
theorem dX9_rain_12 : decode cX9_rain 12 = .ok (.aload_n 0, 1) := by decide +kernel
theorem dX9_rain_13 : decode cX9_rain 13 = .ok (.ldc 46, 2) := by decide +kernel
theorem dX9_rain_15 : decode cX9_rain 15 = .ok (.invokevirtual 48, 3) := by decide +kernel
theorem dX9_rain_18 : decode cX9_rain 18 = .ok (.ireturn, 1) := by decide +kernel
theorem dX9_rain_19 : decode cX9_rain 19 = .ok (.iconst 0, 1) := by decide +kernel
theorem dX9_rain_20 : decode cX9_rain 20 = .ok (.istore_n 2, 1) := by decide +kernel
theorem dX9_rain_21 : decode cX9_rain 21 = .ok (.iload_n 2, 1) := by decide +kernel
theorem dX9_rain_22 : decode cX9_rain 22 = .ok (.iload_n 1, 1) := by decide +kernel
theorem dX9_rain_23 : decode cX9_rain 23 = .ok (.if_icmp .ge 31, 3) := by decide +kernel
theorem dX9_rain_26 : decode cX9_rain 26 = .ok (.aload_n 0, 1) := by decide +kernel
theorem dX9_rain_27 : decode cX9_rain 27 = .ok (.invokevirtual 146, 3) := by decide +kernel
theorem dX9_rain_30 : decode cX9_rain 30 = .ok (.bipush 30, 2) := by decide +kernel
theorem dX9_rain_32 : decode cX9_rain 32 = .ok (.irem, 1) := by decide +kernel
theorem dX9_rain_33 : decode cX9_rain 33 = .ok (.istore_n 3, 1) := by decide +kernel
theorem dX9_rain_34 : decode cX9_rain 34 = .ok (.aload_n 0, 1) := by decide +kernel
theorem dX9_rain_35 : decode cX9_rain 35 = .ok (.getfield 9, 3) := by decide +kernel
theorem dX9_rain_38 : decode cX9_rain 38 = .ok (.iconst 3, 1) := by decide +kernel
theorem dX9_rain_39 : decode cX9_rain 39 = .ok (.iload_n 3, 1) := by decide +kernel
theorem dX9_rain_40 : decode cX9_rain 40 = .ok (.iadd, 1) := by decide +kernel
theorem dX9_rain_41 : decode cX9_rain 41 = .ok (.aload_n 0, 1) := by decide +kernel
theorem dX9_rain_42 : decode cX9_rain 42 = .ok (.invokevirtual 146, 3) := by decide +kernel
theorem dX9_rain_45 : decode cX9_rain 45 = .ok (.iconst 5, 1) := by decide +kernel
theorem dX9_rain_46 : decode cX9_rain 46 = .ok (.irem, 1) := by decide +kernel
theorem dX9_rain_47 : decode cX9_rain 47 = .ok (.iastore, 1) := by decide +kernel
theorem dX9_rain_48 : decode cX9_rain 48 = .ok (.iinc 2 1, 3) := by decide +kernel
theorem dX9_rain_51 : decode cX9_rain 51 = .ok (.goto (-30), 3) := by decide +kernel
theorem dX9_rain_54 : decode cX9_rain 54 = .ok (.aload_n 0, 1) := by decide +kernel
theorem dX9_rain_55 : decode cX9_rain 55 = .ok (.invokevirtual 221, 3) := by decide +kernel
theorem dX9_rain_58 : decode cX9_rain 58 = .ok (.ireturn, 1) := by decide +kernel
theorem dX9_seed_0 : decode cX9_seed 0 = .ok (.aload_n 0, 1) := by decide +kernel
theorem dX9_seed_1 : decode cX9_seed 1 = .ok (.iconst 1, 1) := by decide +kernel
theorem dX9_seed_2 : decode cX9_seed 2 = .ok (.iload_n 1, 1) := by decide +kernel
theorem dX9_seed_3 : decode cX9_seed 3 = .ok (.invokevirtual 72, 3) := by decide +kernel
theorem dX9_seed_6 : decode cX9_seed 6 = .ok (.ireturn, 1) := by decide +kernel
theorem dX9_feed_0 : decode cX9_feed 0 = .ok (.iload_n 2, 1) := by decide +kernel
theorem dX9_feed_1 : decode cX9_feed 1 = .ok (.i2l, 1) := by decide +kernel
theorem dX9_feed_2 : decode cX9_feed 2 = .ok (.lconst 1, 1) := by decide +kernel
theorem dX9_feed_3 : decode cX9_feed 3 = .ok (.ldc2_w 70, 3) := by decide +kernel
theorem dX9_feed_6 : decode cX9_feed 6 = .ok (.invokestatic 54, 3) := by decide +kernel
theorem dX9_feed_9 : decode cX9_feed 9 = .ok (.ifCond .ne 10, 3) := by decide +kernel
theorem dX9_feed_12 : decode cX9_feed 12 = .ok (.aload_n 0, 1) := by decide +kernel
theorem dX9_feed_13 : decode cX9_feed 13 = .ok (.ldc 46, 2) := by decide +kernel
theorem dX9_feed_15 : decode cX9_feed 15 = .ok (.invokevirtual 48, 3) := by decide +kernel
theorem dX9_feed_18 : decode cX9_feed 18 = .ok (.ireturn, 1) := by decide +kernel
theorem dX9_feed_19 : decode cX9_feed 19 = .ok (.aload_n 0, 1) := by decide +kernel
theorem dX9_feed_20 : decode cX9_feed 20 = .ok (.getfield 224, 3) := by decide +kernel
theorem dX9_feed_23 : decode cX9_feed 23 = .ok (.iload_n 2, 1) := by decide +kernel
theorem dX9_feed_24 : decode cX9_feed 24 = .ok (.iadd, 1) := by decide +kernel
theorem dX9_feed_25 : decode cX9_feed 25 = .ok (.bipush 120, 2) := by decide +kernel
theorem dX9_feed_27 : decode cX9_feed 27 = .ok (.if_icmp .le 10, 3) := by decide +kernel
theorem dX9_feed_30 : decode cX9_feed 30 = .ok (.aload_n 0, 1) := by decide +kernel
theorem dX9_feed_31 : decode cX9_feed 31 = .ok (.ldc 86, 2) := by decide +kernel
theorem dX9_feed_33 : decode cX9_feed 33 = .ok (.invokevirtual 48, 3) := by decide +kernel
theorem dX9_feed_36 : decode cX9_feed 36 = .ok (.ireturn, 1) := by decide +kernel
theorem dX9_feed_37 : decode cX9_feed 37 = .ok (.iload_n 2, 1) := by decide +kernel
theorem dX9_feed_38 : decode cX9_feed 38 = .ok (.iconst 1, 1) := by decide +kernel
theorem dX9_feed_39 : decode cX9_feed 39 = .ok (.isub, 1) := by decide +kernel
theorem dX9_feed_40 : decode cX9_feed 40 = .ok (.istore_n 3, 1) := by decide +kernel
theorem dX9_feed_41 : decode cX9_feed 41 = .ok (.iload_n 3, 1) := by decide +kernel
theorem dX9_feed_42 : decode cX9_feed 42 = .ok (.ifCond .lt 38, 3) := by decide +kernel
theorem dX9_feed_45 : decode cX9_feed 45 = .ok (.aload_n 0, 1) := by decide +kernel
theorem dX9_feed_46 : decode cX9_feed 46 = .ok (.getfield 34, 3) := by decide +kernel
theorem dX9_feed_49 : decode cX9_feed 49 = .ok (.aload_n 0, 1) := by decide +kernel
theorem dX9_feed_50 : decode cX9_feed 50 = .ok (.getfield 224, 3) := by decide +kernel
theorem dX9_feed_53 : decode cX9_feed 53 = .ok (.iload_n 1, 1) := by decide +kernel
theorem dX9_feed_54 : decode cX9_feed 54 = .ok (.bipush 8, 2) := by decide +kernel
theorem dX9_feed_56 : decode cX9_feed 56 = .ok (.iload_n 3, 1) := by decide +kernel
theorem dX9_feed_57 : decode cX9_feed 57 = .ok (.imul, 1) := by decide +kernel
theorem dX9_feed_58 : decode cX9_feed 58 = .ok (.ishr, 1) := by decide +kernel
theorem dX9_feed_59 : decode cX9_feed 59 = .ok (.sipush 255, 3) := by decide +kernel
theorem dX9_feed_62 : decode cX9_feed 62 = .ok (.iand, 1) := by decide +kernel
theorem dX9_feed_63 : decode cX9_feed 63 = .ok (.iastore, 1) := by decide +kernel
theorem dX9_feed_64 : decode cX9_feed 64 = .ok (.aload_n 0, 1) := by decide +kernel
theorem dX9_feed_65 : decode cX9_feed 65 = .ok (.dup, 1) := by decide +kernel
theorem dX9_feed_66 : decode cX9_feed 66 = .ok (.getfield 224, 3) := by decide +kernel
theorem dX9_feed_69 : decode cX9_feed 69 = .ok (.iconst 1, 1) := by decide +kernel
theorem dX9_feed_70 : decode cX9_feed 70 = .ok (.iadd, 1) := by decide +kernel
theorem dX9_feed_71 : decode cX9_feed 71 = .ok (.putfield 224, 3) := by decide +kernel
theorem dX9_feed_74 : decode cX9_feed 74 = .ok (.iinc 3 (-1), 3) := by decide +kernel
theorem dX9_feed_77 : decode cX9_feed 77 = .ok (.goto (-36), 3) := by decide +kernel
theorem dX9_feed_80 : decode cX9_feed 80 = .ok (.aload_n 0, 1) := by decide +kernel
theorem dX9_feed_81 : decode cX9_feed 81 = .ok (.getfield 224, 3) := by decide +kernel
theorem dX9_feed_84 : decode cX9_feed 84 = .ok (.ireturn, 1) := by decide +kernel
theorem dX9_wipe_0 : decode cX9_wipe 0 = .ok (.aload_n 0, 1) := by decide +kernel
theorem dX9_wipe_1 : decode cX9_wipe 1 = .ok (.getfield 224, 3) := by decide +kernel
theorem dX9_wipe_4 : decode cX9_wipe 4 = .ok (.istore_n 1, 1) := by decide +kernel
theorem dX9_wipe_5 : decode cX9_wipe 5 = .ok (.aload_n 0, 1) := by decide +kernel
theorem dX9_wipe_6 : decode cX9_wipe 6 = .ok (.iconst 0, 1) := by decide +kernel
theorem dX9_wipe_7 : decode cX9_wipe 7 = .ok (.putfield 224, 3) := by decide +kernel
theorem dX9_wipe_10 : decode cX9_wipe 10 = .ok (.iload_n 1, 1) := by decide +kernel
theorem dX9_wipe_11 : decode cX9_wipe 11 = .ok (.ireturn, 1) := by decide +kernel
theorem dX9_isByte_0 : decode cX9_isByte 0 = .ok (.iload_n 1, 1) := by decide +kernel
theorem dX9_isByte_1 : decode cX9_isByte 1 = .ok (.aload_n 0, 1) := by decide +kernel
theorem dX9_isByte_2 : decode cX9_isByte 2 = .ok (.getfield 224, 3) := by decide +kernel
theorem dX9_isByte_5 : decode cX9_isByte 5 = .ok (.if_icmp .ge 24, 3) := by decide +kernel
theorem dX9_isByte_8 : decode cX9_isByte 8 = .ok (.aload_n 0, 1) := by decide +kernel
theorem dX9_isByte_9 : decode cX9_isByte 9 = .ok (.getfield 34, 3) := by decide +kernel
theorem dX9_isByte_12 : decode cX9_isByte 12 = .ok (.iload_n 1, 1) := by decide +kernel
theorem dX9_isByte_13 : decode cX9_isByte 13 = .ok (.iaload, 1) := by decide +kernel
theorem dX9_isByte_14 : decode cX9_isByte 14 = .ok (.i2l, 1) := by decide +kernel
theorem dX9_isByte_15 : decode cX9_isByte 15 = .ok (.iload_n 2, 1) := by decide +kernel
theorem dX9_isByte_16 : decode cX9_isByte 16 = .ok (.i2l, 1) := by decide +kernel
theorem dX9_isByte_17 : decode cX9_isByte 17 = .ok (.iload_n 3, 1) := by decide +kernel
theorem dX9_isByte_18 : decode cX9_isByte 18 = .ok (.i2l, 1) := by decide +kernel
theorem dX9_isByte_19 : decode cX9_isByte 19 = .ok (.invokestatic 54, 3) := by decide +kernel
theorem dX9_isByte_22 : decode cX9_isByte 22 = .ok (.ifCond .eq 7, 3) := by decide +kernel
theorem dX9_isByte_25 : decode cX9_isByte 25 = .ok (.iconst 1, 1) := by decide +kernel
theorem dX9_isByte_26 : decode cX9_isByte 26 = .ok (.goto 4, 3) := by decide +kernel
theorem dX9_isByte_29 : decode cX9_isByte 29 = .ok (.iconst 0, 1) := by decide +kernel
theorem dX9_isByte_30 : decode cX9_isByte 30 = .ok (.ireturn, 1) := by decide +kernel
theorem dX9_token_0 : decode cX9_token 0 = .ok (.aload_n 0, 1) := by decide +kernel
theorem dX9_token_1 : decode cX9_token 1 = .ok (.aload_n 0, 1) := by decide +kernel
theorem dX9_token_2 : decode cX9_token 2 = .ok (.getfield 228, 3) := by decide +kernel
theorem dX9_token_5 : decode cX9_token 5 = .ok (.putfield 231, 3) := by decide +kernel
theorem dX9_token_8 : decode cX9_token 8 = .ok (.aload_n 0, 1) := by decide +kernel
theorem dX9_token_9 : decode cX9_token 9 = .ok (.aload_n 0, 1) := by decide +kernel
theorem dX9_token_10 : decode cX9_token 10 = .ok (.getfield 231, 3) := by decide +kernel
theorem dX9_token_13 : decode cX9_token 13 = .ok (.bipush 32, 2) := by decide +kernel
theorem dX9_token_15 : decode cX9_token 15 = .ok (.bipush 32, 2) := by decide +kernel
theorem dX9_token_17 : decode cX9_token 17 = .ok (.invokevirtual 234, 3) := by decide +kernel
theorem dX9_token_20 : decode cX9_token 20 = .ok (.ifCond .eq 16, 3) := by decide +kernel
theorem dX9_token_23 : decode cX9_token 23 = .ok (.aload_n 0, 1) := by decide +kernel
theorem dX9_token_24 : decode cX9_token 24 = .ok (.dup, 1) := by decide +kernel
theorem dX9_token_25 : decode cX9_token 25 = .ok (.getfield 231, 3) := by decide +kernel
theorem dX9_token_28 : decode cX9_token 28 = .ok (.iconst 1, 1) := by decide +kernel
theorem dX9_token_29 : decode cX9_token 29 = .ok (.iadd, 1) := by decide +kernel
theorem dX9_token_30 : decode cX9_token 30 = .ok (.putfield 231, 3) := by decide +kernel
theorem dX9_token_33 : decode cX9_token 33 = .ok (.goto (-25), 3) := by decide +kernel
theorem dX9_token_36 : decode cX9_token 36 = .ok (.aload_n 0, 1) := by decide +kernel
theorem dX9_token_37 : decode cX9_token 37 = .ok (.aload_n 0, 1) := by decide +kernel
theorem dX9_token_38 : decode cX9_token 38 = .ok (.getfield 231, 3) := by decide +kernel
theorem dX9_token_41 : decode cX9_token 41 = .ok (.putfield 228, 3) := by decide +kernel
theorem dX9_token_44 : decode cX9_token 44 = .ok (.aload_n 0, 1) := by decide +kernel
theorem dX9_token_45 : decode cX9_token 45 = .ok (.iconst 0, 1) := by decide +kernel
theorem dX9_token_46 : decode cX9_token 46 = .ok (.putfield 238, 3) := by decide +kernel
theorem dX9_token_49 : decode cX9_token 49 = .ok (.aload_n 0, 1) := by decide +kernel
theorem dX9_token_50 : decode cX9_token 50 = .ok (.aload_n 0, 1) := by decide +kernel
theorem dX9_token_51 : decode cX9_token 51 = .ok (.getfield 231, 3) := by decide +kernel
theorem dX9_token_54 : decode cX9_token 54 = .ok (.aload_n 0, 1) := by decide +kernel
theorem dX9_token_55 : decode cX9_token 55 = .ok (.getfield 224, 3) := by decide +kernel
theorem dX9_token_58 : decode cX9_token 58 = .ok (.if_icmp .ne 7, 3) := by decide +kernel
theorem dX9_token_61 : decode cX9_token 61 = .ok (.iconst 0, 1) := by decide +kernel
theorem dX9_token_62 : decode cX9_token 62 = .ok (.goto 42, 3) := by decide +kernel
theorem dX9_token_65 : decode cX9_token 65 = .ok (.aload_n 0, 1) := by decide +kernel
theorem dX9_token_66 : decode cX9_token 66 = .ok (.aload_n 0, 1) := by decide +kernel
theorem dX9_token_67 : decode cX9_token 67 = .ok (.getfield 231, 3) := by decide +kernel
theorem dX9_token_70 : decode cX9_token 70 = .ok (.bipush 97, 2) := by decide +kernel
theorem dX9_token_72 : decode cX9_token 72 = .ok (.bipush 122, 2) := by decide +kernel
theorem dX9_token_74 : decode cX9_token 74 = .ok (.invokevirtual 234, 3) := by decide +kernel
theorem dX9_token_77 : decode cX9_token 77 = .ok (.ifCond .eq 7, 3) := by decide +kernel
theorem dX9_token_80 : decode cX9_token 80 = .ok (.iconst 1, 1) := by decide +kernel
theorem dX9_token_81 : decode cX9_token 81 = .ok (.goto 23, 3) := by decide +kernel
theorem dX9_token_84 : decode cX9_token 84 = .ok (.aload_n 0, 1) := by decide +kernel
theorem dX9_token_85 : decode cX9_token 85 = .ok (.aload_n 0, 1) := by decide +kernel
theorem dX9_token_86 : decode cX9_token 86 = .ok (.getfield 231, 3) := by decide +kernel
theorem dX9_token_89 : decode cX9_token 89 = .ok (.bipush 48, 2) := by decide +kernel
theorem dX9_token_91 : decode cX9_token 91 = .ok (.bipush 57, 2) := by decide +kernel
theorem dX9_token_93 : decode cX9_token 93 = .ok (.invokevirtual 234, 3) := by decide +kernel
theorem dX9_token_96 : decode cX9_token 96 = .ok (.ifCond .eq 7, 3) := by decide +kernel
theorem dX9_token_99 : decode cX9_token 99 = .ok (.iconst 2, 1) := by decide +kernel
theorem dX9_token_100 : decode cX9_token 100 = .ok (.goto 4, 3) := by decide +kernel
theorem dX9_token_103 : decode cX9_token 103 = .ok (.iconst 3, 1) := by decide +kernel
theorem dX9_token_104 : decode cX9_token 104 = .ok (.putfield 241, 3) := by decide +kernel
theorem dX9_token_107 : decode cX9_token 107 = .ok (.aload_n 0, 1) := by decide +kernel
theorem dX9_token_108 : decode cX9_token 108 = .ok (.getfield 241, 3) := by decide +kernel
theorem dX9_token_111 : decode cX9_token 111 = .ok (.iconst 3, 1) := by decide +kernel
theorem dX9_token_112 : decode cX9_token 112 = .ok (.if_icmp .ne 13, 3) := by decide +kernel
theorem dX9_token_115 : decode cX9_token 115 = .ok (.aload_n 0, 1) := by decide +kernel
theorem dX9_token_116 : decode cX9_token 116 = .ok (.dup, 1) := by decide +kernel
theorem dX9_token_117 : decode cX9_token 117 = .ok (.getfield 228, 3) := by decide +kernel
theorem dX9_token_120 : decode cX9_token 120 = .ok (.iconst 1, 1) := by decide +kernel
theorem dX9_token_121 : decode cX9_token 121 = .ok (.iadd, 1) := by decide +kernel
theorem dX9_token_122 : decode cX9_token 122 = .ok (.putfield 228, 3) := by decide +kernel
theorem dX9_token_125 : decode cX9_token 125 = .ok (.aload_n 0, 1) := by decide +kernel
theorem dX9_token_126 : decode cX9_token 126 = .ok (.getfield 241, 3) := by decide +kernel
theorem dX9_token_129 : decode cX9_token 129 = .ok (.iconst 1, 1) := by decide +kernel
theorem dX9_token_130 : decode cX9_token 130 = .ok (.if_icmp .ne 31, 3) := by decide +kernel
theorem dX9_token_133 : decode cX9_token 133 = .ok (.aload_n 0, 1) := by decide +kernel
theorem dX9_token_134 : decode cX9_token 134 = .ok (.aload_n 0, 1) := by decide +kernel
theorem dX9_token_135 : decode cX9_token 135 = .ok (.getfield 228, 3) := by decide +kernel
theorem dX9_token_138 : decode cX9_token 138 = .ok (.bipush 97, 2) := by decide +kernel
theorem dX9_token_140 : decode cX9_token 140 = .ok (.bipush 122, 2) := by decide +kernel
theorem dX9_token_142 : decode cX9_token 142 = .ok (.invokevirtual 234, 3) := by decide +kernel
theorem dX9_token_145 : decode cX9_token 145 = .ok (.ifCond .eq 16, 3) := by decide +kernel
theorem dX9_token_148 : decode cX9_token 148 = .ok (.aload_n 0, 1) := by decide +kernel
theorem dX9_token_149 : decode cX9_token 149 = .ok (.dup, 1) := by decide +kernel
theorem dX9_token_150 : decode cX9_token 150 = .ok (.getfield 228, 3) := by decide +kernel
theorem dX9_token_153 : decode cX9_token 153 = .ok (.iconst 1, 1) := by decide +kernel
theorem dX9_token_154 : decode cX9_token 154 = .ok (.iadd, 1) := by decide +kernel
theorem dX9_token_155 : decode cX9_token 155 = .ok (.putfield 228, 3) := by decide +kernel
theorem dX9_token_158 : decode cX9_token 158 = .ok (.goto (-33), 3) := by decide +kernel
theorem dX9_token_161 : decode cX9_token 161 = .ok (.aload_n 0, 1) := by decide +kernel
theorem dX9_token_162 : decode cX9_token 162 = .ok (.getfield 241, 3) := by decide +kernel
theorem dX9_token_165 : decode cX9_token 165 = .ok (.iconst 2, 1) := by decide +kernel
theorem dX9_token_166 : decode cX9_token 166 = .ok (.if_icmp .ne 72, 3) := by decide +kernel
theorem dX9_token_169 : decode cX9_token 169 = .ok (.aload_n 0, 1) := by decide +kernel
theorem dX9_token_170 : decode cX9_token 170 = .ok (.aload_n 0, 1) := by decide +kernel
theorem dX9_token_171 : decode cX9_token 171 = .ok (.getfield 228, 3) := by decide +kernel
theorem dX9_token_174 : decode cX9_token 174 = .ok (.bipush 48, 2) := by decide +kernel
theorem dX9_token_176 : decode cX9_token 176 = .ok (.bipush 57, 2) := by decide +kernel
theorem dX9_token_178 : decode cX9_token 178 = .ok (.invokevirtual 234, 3) := by decide +kernel
theorem dX9_token_181 : decode cX9_token 181 = .ok (.ifCond .eq 57, 3) := by decide +kernel
theorem dX9_token_184 : decode cX9_token 184 = .ok (.aload_n 0, 1) := by decide +kernel
theorem dX9_token_185 : decode cX9_token 185 = .ok (.aload_n 0, 1) := by decide +kernel
theorem dX9_token_186 : decode cX9_token 186 = .ok (.getfield 238, 3) := by decide +kernel
theorem dX9_token_189 : decode cX9_token 189 = .ok (.sipush 999, 3) := by decide +kernel
theorem dX9_token_192 : decode cX9_token 192 = .ok (.if_icmp .le 10, 3) := by decide +kernel
theorem dX9_token_195 : decode cX9_token 195 = .ok (.aload_n 0, 1) := by decide +kernel
theorem dX9_token_196 : decode cX9_token 196 = .ok (.getfield 238, 3) := by decide +kernel
theorem dX9_token_199 : decode cX9_token 199 = .ok (.goto 23, 3) := by decide +kernel
theorem dX9_token_202 : decode cX9_token 202 = .ok (.bipush 10, 2) := by decide +kernel
theorem dX9_token_204 : decode cX9_token 204 = .ok (.aload_n 0, 1) := by decide +kernel
theorem dX9_token_205 : decode cX9_token 205 = .ok (.getfield 238, 3) := by decide +kernel
theorem dX9_token_208 : decode cX9_token 208 = .ok (.imul, 1) := by decide +kernel
theorem dX9_token_209 : decode cX9_token 209 = .ok (.aload_n 0, 1) := by decide +kernel
theorem dX9_token_210 : decode cX9_token 210 = .ok (.getfield 34, 3) := by decide +kernel
theorem dX9_token_213 : decode cX9_token 213 = .ok (.aload_n 0, 1) := by decide +kernel
theorem dX9_token_214 : decode cX9_token 214 = .ok (.getfield 228, 3) := by decide +kernel
theorem dX9_token_217 : decode cX9_token 217 = .ok (.iaload, 1) := by decide +kernel
theorem dX9_token_218 : decode cX9_token 218 = .ok (.iadd, 1) := by decide +kernel
theorem dX9_token_219 : decode cX9_token 219 = .ok (.bipush 48, 2) := by decide +kernel
theorem dX9_token_221 : decode cX9_token 221 = .ok (.isub, 1) := by decide +kernel
theorem dX9_token_222 : decode cX9_token 222 = .ok (.putfield 238, 3) := by decide +kernel
theorem dX9_token_225 : decode cX9_token 225 = .ok (.aload_n 0, 1) := by decide +kernel
theorem dX9_token_226 : decode cX9_token 226 = .ok (.dup, 1) := by decide +kernel
theorem dX9_token_227 : decode cX9_token 227 = .ok (.getfield 228, 3) := by decide +kernel
theorem dX9_token_230 : decode cX9_token 230 = .ok (.iconst 1, 1) := by decide +kernel
theorem dX9_token_231 : decode cX9_token 231 = .ok (.iadd, 1) := by decide +kernel
theorem dX9_token_232 : decode cX9_token 232 = .ok (.putfield 228, 3) := by decide +kernel
theorem dX9_token_235 : decode cX9_token 235 = .ok (.goto (-74), 3) := by decide +kernel
theorem dX9_token_238 : decode cX9_token 238 = .ok (.return_, 1) := by decide +kernel
theorem dX9_isWord_0 : decode cX9_isWord 0 = .ok (.aload_n 0, 1) := by decide +kernel
theorem dX9_isWord_1 : decode cX9_isWord 1 = .ok (.getfield 244, 3) := by decide +kernel
theorem dX9_isWord_4 : decode cX9_isWord 4 = .ok (.ifCond .ne 31, 3) := by decide +kernel
theorem dX9_isWord_7 : decode cX9_isWord 7 = .ok (.aload_n 0, 1) := by decide +kernel
theorem dX9_isWord_8 : decode cX9_isWord 8 = .ok (.getfield 241, 3) := by decide +kernel
theorem dX9_isWord_11 : decode cX9_isWord 11 = .ok (.iconst 1, 1) := by decide +kernel
theorem dX9_isWord_12 : decode cX9_isWord 12 = .ok (.if_icmp .ne 23, 3) := by decide +kernel
theorem dX9_isWord_15 : decode cX9_isWord 15 = .ok (.aload_n 0, 1) := by decide +kernel
theorem dX9_isWord_16 : decode cX9_isWord 16 = .ok (.getfield 228, 3) := by decide +kernel
theorem dX9_isWord_19 : decode cX9_isWord 19 = .ok (.aload_n 0, 1) := by decide +kernel
theorem dX9_isWord_20 : decode cX9_isWord 20 = .ok (.getfield 231, 3) := by decide +kernel
theorem dX9_isWord_23 : decode cX9_isWord 23 = .ok (.isub, 1) := by decide +kernel
theorem dX9_isWord_24 : decode cX9_isWord 24 = .ok (.aload_n 1, 1) := by decide +kernel
theorem dX9_isWord_25 : decode cX9_isWord 25 = .ok (.invokevirtual 248, 3) := by decide +kernel
theorem dX9_isWord_28 : decode cX9_isWord 28 = .ok (.if_icmp .ne 7, 3) := by decide +kernel
theorem dX9_isWord_31 : decode cX9_isWord 31 = .ok (.iconst 1, 1) := by decide +kernel
theorem dX9_isWord_32 : decode cX9_isWord 32 = .ok (.goto 4, 3) := by decide +kernel
theorem dX9_isWord_35 : decode cX9_isWord 35 = .ok (.iconst 0, 1) := by decide +kernel
theorem dX9_isWord_36 : decode cX9_isWord 36 = .ok (.istore_n 2, 1) := by decide +kernel
theorem dX9_isWord_37 : decode cX9_isWord 37 = .ok (.iconst 0, 1) := by decide +kernel
theorem dX9_isWord_38 : decode cX9_isWord 38 = .ok (.istore_n 3, 1) := by decide +kernel
theorem dX9_isWord_39 : decode cX9_isWord 39 = .ok (.iload_n 2, 1) := by decide +kernel
theorem dX9_isWord_40 : decode cX9_isWord 40 = .ok (.ifCond .eq 42, 3) := by decide +kernel
theorem dX9_isWord_43 : decode cX9_isWord 43 = .ok (.iload_n 3, 1) := by decide +kernel
theorem dX9_isWord_44 : decode cX9_isWord 44 = .ok (.aload_n 1, 1) := by decide +kernel
theorem dX9_isWord_45 : decode cX9_isWord 45 = .ok (.invokevirtual 248, 3) := by decide +kernel
theorem dX9_isWord_48 : decode cX9_isWord 48 = .ok (.if_icmp .ge 34, 3) := by decide +kernel
theorem dX9_isWord_51 : decode cX9_isWord 51 = .ok (.aload_n 0, 1) := by decide +kernel
theorem dX9_isWord_52 : decode cX9_isWord 52 = .ok (.getfield 34, 3) := by decide +kernel
theorem dX9_isWord_55 : decode cX9_isWord 55 = .ok (.aload_n 0, 1) := by decide +kernel
theorem dX9_isWord_56 : decode cX9_isWord 56 = .ok (.getfield 231, 3) := by decide +kernel
theorem dX9_isWord_59 : decode cX9_isWord 59 = .ok (.iload_n 3, 1) := by decide +kernel
theorem dX9_isWord_60 : decode cX9_isWord 60 = .ok (.iadd, 1) := by decide +kernel
theorem dX9_isWord_61 : decode cX9_isWord 61 = .ok (.iaload, 1) := by decide +kernel
theorem dX9_isWord_62 : decode cX9_isWord 62 = .ok (.aload_n 1, 1) := by decide +kernel
theorem dX9_isWord_63 : decode cX9_isWord 63 = .ok (.iload_n 3, 1) := by decide +kernel
theorem dX9_isWord_64 : decode cX9_isWord 64 = .ok (.invokevirtual 253, 3) := by decide +kernel
theorem dX9_isWord_67 : decode cX9_isWord 67 = .ok (.if_icmp .ne 7, 3) := by decide +kernel
theorem dX9_isWord_70 : decode cX9_isWord 70 = .ok (.iconst 1, 1) := by decide +kernel
theorem dX9_isWord_71 : decode cX9_isWord 71 = .ok (.goto 4, 3) := by decide +kernel
theorem dX9_isWord_74 : decode cX9_isWord 74 = .ok (.iconst 0, 1) := by decide +kernel
theorem dX9_isWord_75 : decode cX9_isWord 75 = .ok (.istore_n 2, 1) := by decide +kernel
theorem dX9_isWord_76 : decode cX9_isWord 76 = .ok (.iinc 3 1, 3) := by decide +kernel
theorem dX9_isWord_79 : decode cX9_isWord 79 = .ok (.goto (-40), 3) := by decide +kernel
theorem dX9_isWord_82 : decode cX9_isWord 82 = .ok (.iload_n 2, 1) := by decide +kernel
theorem dX9_isWord_83 : decode cX9_isWord 83 = .ok (.ireturn, 1) := by decide +kernel
theorem dX9_takes__0 : decode cX9_takes_ 0 = .ok (.aload_n 0, 1) := by decide +kernel
theorem dX9_takes__1 : decode cX9_takes_ 1 = .ok (.aload_n 1, 1) := by decide +kernel
theorem dX9_takes__2 : decode cX9_takes_ 2 = .ok (.invokevirtual 257, 3) := by decide +kernel
theorem dX9_takes__5 : decode cX9_takes_ 5 = .ok (.ifCond .ne 5, 3) := by decide +kernel
theorem dX9_takes__8 : decode cX9_takes_ 8 = .ok (.iconst 0, 1) := by decide +kernel
theorem dX9_takes__9 : decode cX9_takes_ 9 = .ok (.ireturn, 1) := by decide +kernel
theorem dX9_takes__10 : decode cX9_takes_ 10 = .ok (.aload_n 0, 1) := by decide +kernel
theorem dX9_takes__11 : decode cX9_takes_ 11 = .ok (.invokevirtual 261, 3) := by decide +kernel
theorem dX9_takes__14 : decode cX9_takes_ 14 = .ok (.iconst 1, 1) := by decide +kernel
theorem dX9_takes__15 : decode cX9_takes_ 15 = .ok (.ireturn, 1) := by decide +kernel
theorem dX9_isSign_0 : decode cX9_isSign 0 = .ok (.aload_n 0, 1) := by decide +kernel
theorem dX9_isSign_1 : decode cX9_isSign 1 = .ok (.getfield 244, 3) := by decide +kernel
theorem dX9_isSign_4 : decode cX9_isSign 4 = .ok (.ifCond .ne 28, 3) := by decide +kernel
theorem dX9_isSign_7 : decode cX9_isSign 7 = .ok (.aload_n 0, 1) := by decide +kernel
theorem dX9_isSign_8 : decode cX9_isSign 8 = .ok (.getfield 241, 3) := by decide +kernel
theorem dX9_isSign_11 : decode cX9_isSign 11 = .ok (.iconst 3, 1) := by decide +kernel
theorem dX9_isSign_12 : decode cX9_isSign 12 = .ok (.if_icmp .ne 20, 3) := by decide +kernel
theorem dX9_isSign_15 : decode cX9_isSign 15 = .ok (.aload_n 0, 1) := by decide +kernel
theorem dX9_isSign_16 : decode cX9_isSign 16 = .ok (.getfield 34, 3) := by decide +kernel
theorem dX9_isSign_19 : decode cX9_isSign 19 = .ok (.aload_n 0, 1) := by decide +kernel
theorem dX9_isSign_20 : decode cX9_isSign 20 = .ok (.getfield 231, 3) := by decide +kernel
theorem dX9_isSign_23 : decode cX9_isSign 23 = .ok (.iaload, 1) := by decide +kernel
theorem dX9_isSign_24 : decode cX9_isSign 24 = .ok (.iload_n 1, 1) := by decide +kernel
theorem dX9_isSign_25 : decode cX9_isSign 25 = .ok (.if_icmp .ne 7, 3) := by decide +kernel
theorem dX9_isSign_28 : decode cX9_isSign 28 = .ok (.iconst 1, 1) := by decide +kernel
theorem dX9_isSign_29 : decode cX9_isSign 29 = .ok (.goto 4, 3) := by decide +kernel
theorem dX9_isSign_32 : decode cX9_isSign 32 = .ok (.iconst 0, 1) := by decide +kernel
theorem dX9_isSign_33 : decode cX9_isSign 33 = .ok (.ireturn, 1) := by decide +kernel
theorem dX9_number_0 : decode cX9_number 0 = .ok (.aload_n 0, 1) := by decide +kernel
theorem dX9_number_1 : decode cX9_number 1 = .ok (.aload_n 0, 1) := by decide +kernel
theorem dX9_number_2 : decode cX9_number 2 = .ok (.getfield 244, 3) := by decide +kernel
theorem dX9_number_5 : decode cX9_number 5 = .ok (.ifCond .ne 26, 3) := by decide +kernel
theorem dX9_number_8 : decode cX9_number 8 = .ok (.aload_n 0, 1) := by decide +kernel
theorem dX9_number_9 : decode cX9_number 9 = .ok (.getfield 241, 3) := by decide +kernel
theorem dX9_number_12 : decode cX9_number 12 = .ok (.iconst 2, 1) := by decide +kernel
theorem dX9_number_13 : decode cX9_number 13 = .ok (.if_icmp .ne 18, 3) := by decide +kernel
theorem dX9_number_16 : decode cX9_number 16 = .ok (.aload_n 0, 1) := by decide +kernel
theorem dX9_number_17 : decode cX9_number 17 = .ok (.getfield 238, 3) := by decide +kernel
theorem dX9_number_20 : decode cX9_number 20 = .ok (.i2l, 1) := by decide +kernel
theorem dX9_number_21 : decode cX9_number 21 = .ok (.iload_n 1, 1) := by decide +kernel
theorem dX9_number_22 : decode cX9_number 22 = .ok (.i2l, 1) := by decide +kernel
theorem dX9_number_23 : decode cX9_number 23 = .ok (.iload_n 2, 1) := by decide +kernel
theorem dX9_number_24 : decode cX9_number 24 = .ok (.i2l, 1) := by decide +kernel
theorem dX9_number_25 : decode cX9_number 25 = .ok (.invokestatic 54, 3) := by decide +kernel
theorem dX9_number_28 : decode cX9_number 28 = .ok (.ifCond .ne 7, 3) := by decide +kernel
theorem dX9_number_31 : decode cX9_number 31 = .ok (.iconst 1, 1) := by decide +kernel
theorem dX9_number_32 : decode cX9_number 32 = .ok (.goto 4, 3) := by decide +kernel
theorem dX9_number_35 : decode cX9_number 35 = .ok (.iconst 0, 1) := by decide +kernel
theorem dX9_number_36 : decode cX9_number 36 = .ok (.putfield 244, 3) := by decide +kernel
theorem dX9_number_39 : decode cX9_number 39 = .ok (.aload_n 0, 1) := by decide +kernel
theorem dX9_number_40 : decode cX9_number 40 = .ok (.getfield 238, 3) := by decide +kernel
theorem dX9_number_43 : decode cX9_number 43 = .ok (.istore_n 3, 1) := by decide +kernel
theorem dX9_number_44 : decode cX9_number 44 = .ok (.aload_n 0, 1) := by decide +kernel
theorem dX9_number_45 : decode cX9_number 45 = .ok (.getfield 244, 3) := by decide +kernel
theorem dX9_number_48 : decode cX9_number 48 = .ok (.ifCond .ne 7, 3) := by decide +kernel
theorem dX9_number_51 : decode cX9_number 51 = .ok (.aload_n 0, 1) := by decide +kernel
theorem dX9_number_52 : decode cX9_number 52 = .ok (.invokevirtual 261, 3) := by decide +kernel
theorem dX9_number_55 : decode cX9_number 55 = .ok (.iload_n 3, 1) := by decide +kernel
theorem dX9_number_56 : decode cX9_number 56 = .ok (.ireturn, 1) := by decide +kernel
theorem dX9_groundHere_0 : decode cX9_groundHere 0 = .ok (.aload_n 0, 1) := by decide +kernel
theorem dX9_groundHere_1 : decode cX9_groundHere 1 = .ok (.ldc_w 264, 3) := by decide +kernel
theorem dX9_groundHere_4 : decode cX9_groundHere 4 = .ok (.invokevirtual 257, 3) := by decide +kernel
theorem dX9_groundHere_7 : decode cX9_groundHere 7 = .ok (.ifCond .eq 5, 3) := by decide +kernel
theorem dX9_groundHere_10 : decode cX9_groundHere 10 = .ok (.iconst 0, 1) := by decide +kernel
theorem dX9_groundHere_11 : decode cX9_groundHere 11 = .ok (.ireturn, 1) := by decide +kernel
theorem dX9_groundHere_12 : decode cX9_groundHere 12 = .ok (.aload_n 0, 1) := by decide +kernel
theorem dX9_groundHere_13 : decode cX9_groundHere 13 = .ok (.ldc_w 265, 3) := by decide +kernel
theorem dX9_groundHere_16 : decode cX9_groundHere 16 = .ok (.invokevirtual 257, 3) := by decide +kernel
theorem dX9_groundHere_19 : decode cX9_groundHere 19 = .ok (.ifCond .eq 5, 3) := by decide +kernel
theorem dX9_groundHere_22 : decode cX9_groundHere 22 = .ok (.iconst 1, 1) := by decide +kernel
theorem dX9_groundHere_23 : decode cX9_groundHere 23 = .ok (.ireturn, 1) := by decide +kernel
theorem dX9_groundHere_24 : decode cX9_groundHere 24 = .ok (.aload_n 0, 1) := by decide +kernel
theorem dX9_groundHere_25 : decode cX9_groundHere 25 = .ok (.ldc_w 267, 3) := by decide +kernel
theorem dX9_groundHere_28 : decode cX9_groundHere 28 = .ok (.invokevirtual 257, 3) := by decide +kernel
theorem dX9_groundHere_31 : decode cX9_groundHere 31 = .ok (.ifCond .eq 5, 3) := by decide +kernel
theorem dX9_groundHere_34 : decode cX9_groundHere 34 = .ok (.iconst 2, 1) := by decide +kernel
theorem dX9_groundHere_35 : decode cX9_groundHere 35 = .ok (.ireturn, 1) := by decide +kernel
theorem dX9_groundHere_36 : decode cX9_groundHere 36 = .ok (.aload_n 0, 1) := by decide +kernel
theorem dX9_groundHere_37 : decode cX9_groundHere 37 = .ok (.ldc_w 269, 3) := by decide +kernel
theorem dX9_groundHere_40 : decode cX9_groundHere 40 = .ok (.invokevirtual 257, 3) := by decide +kernel
theorem dX9_groundHere_43 : decode cX9_groundHere 43 = .ok (.ifCond .eq 7, 3) := by decide +kernel
theorem dX9_groundHere_46 : decode cX9_groundHere 46 = .ok (.iconst 3, 1) := by decide +kernel
theorem dX9_groundHere_47 : decode cX9_groundHere 47 = .ok (.goto 18, 3) := by decide +kernel
theorem dX9_groundHere_50 : decode cX9_groundHere 50 = .ok (.aload_n 0, 1) := by decide +kernel
theorem dX9_groundHere_51 : decode cX9_groundHere 51 = .ok (.ldc_w 271, 3) := by decide +kernel
theorem dX9_groundHere_54 : decode cX9_groundHere 54 = .ok (.invokevirtual 257, 3) := by decide +kernel
theorem dX9_groundHere_57 : decode cX9_groundHere 57 = .ok (.ifCond .eq 7, 3) := by decide +kernel
theorem dX9_groundHere_60 : decode cX9_groundHere 60 = .ok (.iconst 4, 1) := by decide +kernel
theorem dX9_groundHere_61 : decode cX9_groundHere 61 = .ok (.goto 4, 3) := by decide +kernel
theorem dX9_groundHere_64 : decode cX9_groundHere 64 = .ok (.iconst (-1), 1) := by decide +kernel
theorem dX9_groundHere_65 : decode cX9_groundHere 65 = .ok (.ireturn, 1) := by decide +kernel
theorem dX9_kindHere_0 : decode cX9_kindHere 0 = .ok (.aload_n 0, 1) := by decide +kernel
theorem dX9_kindHere_1 : decode cX9_kindHere 1 = .ok (.ldc_w 273, 3) := by decide +kernel
theorem dX9_kindHere_4 : decode cX9_kindHere 4 = .ok (.invokevirtual 257, 3) := by decide +kernel
theorem dX9_kindHere_7 : decode cX9_kindHere 7 = .ok (.ifCond .eq 5, 3) := by decide +kernel
theorem dX9_kindHere_10 : decode cX9_kindHere 10 = .ok (.iconst 0, 1) := by decide +kernel
theorem dX9_kindHere_11 : decode cX9_kindHere 11 = .ok (.ireturn, 1) := by decide +kernel
theorem dX9_kindHere_12 : decode cX9_kindHere 12 = .ok (.aload_n 0, 1) := by decide +kernel
theorem dX9_kindHere_13 : decode cX9_kindHere 13 = .ok (.ldc_w 275, 3) := by decide +kernel
theorem dX9_kindHere_16 : decode cX9_kindHere 16 = .ok (.invokevirtual 257, 3) := by decide +kernel
theorem dX9_kindHere_19 : decode cX9_kindHere 19 = .ok (.ifCond .eq 5, 3) := by decide +kernel
theorem dX9_kindHere_22 : decode cX9_kindHere 22 = .ok (.iconst 1, 1) := by decide +kernel
theorem dX9_kindHere_23 : decode cX9_kindHere 23 = .ok (.ireturn, 1) := by decide +kernel
theorem dX9_kindHere_24 : decode cX9_kindHere 24 = .ok (.aload_n 0, 1) := by decide +kernel
theorem dX9_kindHere_25 : decode cX9_kindHere 25 = .ok (.ldc_w 277, 3) := by decide +kernel
theorem dX9_kindHere_28 : decode cX9_kindHere 28 = .ok (.invokevirtual 257, 3) := by decide +kernel
theorem dX9_kindHere_31 : decode cX9_kindHere 31 = .ok (.ifCond .eq 5, 3) := by decide +kernel
theorem dX9_kindHere_34 : decode cX9_kindHere 34 = .ok (.iconst 2, 1) := by decide +kernel
theorem dX9_kindHere_35 : decode cX9_kindHere 35 = .ok (.ireturn, 1) := by decide +kernel
theorem dX9_kindHere_36 : decode cX9_kindHere 36 = .ok (.aload_n 0, 1) := by decide +kernel
theorem dX9_kindHere_37 : decode cX9_kindHere 37 = .ok (.ldc_w 279, 3) := by decide +kernel
theorem dX9_kindHere_40 : decode cX9_kindHere 40 = .ok (.invokevirtual 257, 3) := by decide +kernel
theorem dX9_kindHere_43 : decode cX9_kindHere 43 = .ok (.ifCond .eq 5, 3) := by decide +kernel
theorem dX9_kindHere_46 : decode cX9_kindHere 46 = .ok (.iconst 3, 1) := by decide +kernel
theorem dX9_kindHere_47 : decode cX9_kindHere 47 = .ok (.ireturn, 1) := by decide +kernel
theorem dX9_kindHere_48 : decode cX9_kindHere 48 = .ok (.aload_n 0, 1) := by decide +kernel
theorem dX9_kindHere_49 : decode cX9_kindHere 49 = .ok (.ldc_w 281, 3) := by decide +kernel
theorem dX9_kindHere_52 : decode cX9_kindHere 52 = .ok (.invokevirtual 257, 3) := by decide +kernel
theorem dX9_kindHere_55 : decode cX9_kindHere 55 = .ok (.ifCond .eq 5, 3) := by decide +kernel
theorem dX9_kindHere_58 : decode cX9_kindHere 58 = .ok (.iconst 4, 1) := by decide +kernel
theorem dX9_kindHere_59 : decode cX9_kindHere 59 = .ok (.ireturn, 1) := by decide +kernel
theorem dX9_kindHere_60 : decode cX9_kindHere 60 = .ok (.aload_n 0, 1) := by decide +kernel
theorem dX9_kindHere_61 : decode cX9_kindHere 61 = .ok (.ldc_w 283, 3) := by decide +kernel
theorem dX9_kindHere_64 : decode cX9_kindHere 64 = .ok (.invokevirtual 257, 3) := by decide +kernel
theorem dX9_kindHere_67 : decode cX9_kindHere 67 = .ok (.ifCond .eq 7, 3) := by decide +kernel
theorem dX9_kindHere_70 : decode cX9_kindHere 70 = .ok (.iconst 5, 1) := by decide +kernel
theorem dX9_kindHere_71 : decode cX9_kindHere 71 = .ok (.goto 19, 3) := by decide +kernel
theorem dX9_kindHere_74 : decode cX9_kindHere 74 = .ok (.aload_n 0, 1) := by decide +kernel
theorem dX9_kindHere_75 : decode cX9_kindHere 75 = .ok (.ldc_w 285, 3) := by decide +kernel
theorem dX9_kindHere_78 : decode cX9_kindHere 78 = .ok (.invokevirtual 257, 3) := by decide +kernel
theorem dX9_kindHere_81 : decode cX9_kindHere 81 = .ok (.ifCond .eq 8, 3) := by decide +kernel
theorem dX9_kindHere_84 : decode cX9_kindHere 84 = .ok (.bipush 6, 2) := by decide +kernel
theorem dX9_kindHere_86 : decode cX9_kindHere 86 = .ok (.goto 4, 3) := by decide +kernel
theorem dX9_kindHere_89 : decode cX9_kindHere 89 = .ok (.iconst (-1), 1) := by decide +kernel
theorem dX9_kindHere_90 : decode cX9_kindHere 90 = .ok (.ireturn, 1) := by decide +kernel
theorem dX9_groundItem_0 : decode cX9_groundItem 0 = .ok (.aload_n 0, 1) := by decide +kernel
theorem dX9_groundItem_1 : decode cX9_groundItem 1 = .ok (.invokevirtual 261, 3) := by decide +kernel
theorem dX9_groundItem_4 : decode cX9_groundItem 4 = .ok (.aload_n 0, 1) := by decide +kernel
theorem dX9_groundItem_5 : decode cX9_groundItem 5 = .ok (.iconst 0, 1) := by decide +kernel
theorem dX9_groundItem_6 : decode cX9_groundItem 6 = .ok (.bipush 29, 2) := by decide +kernel
theorem dX9_groundItem_8 : decode cX9_groundItem 8 = .ok (.invokevirtual 287, 3) := by decide +kernel
theorem dX9_groundItem_11 : decode cX9_groundItem 11 = .ok (.istore_n 2, 1) := by decide +kernel
theorem dX9_groundItem_12 : decode cX9_groundItem 12 = .ok (.aload_n 0, 1) := by decide +kernel
theorem dX9_groundItem_13 : decode cX9_groundItem 13 = .ok (.ldc_w 289, 3) := by decide +kernel
theorem dX9_groundItem_16 : decode cX9_groundItem 16 = .ok (.invokevirtual 290, 3) := by decide +kernel
theorem dX9_groundItem_19 : decode cX9_groundItem 19 = .ok (.ifCond .eq 13, 3) := by decide +kernel
theorem dX9_groundItem_22 : decode cX9_groundItem 22 = .ok (.aload_n 0, 1) := by decide +kernel
theorem dX9_groundItem_23 : decode cX9_groundItem 23 = .ok (.iload_n 2, 1) := by decide +kernel
theorem dX9_groundItem_24 : decode cX9_groundItem 24 = .ok (.bipush 29, 2) := by decide +kernel
theorem dX9_groundItem_26 : decode cX9_groundItem 26 = .ok (.invokevirtual 287, 3) := by decide +kernel
theorem dX9_groundItem_29 : decode cX9_groundItem 29 = .ok (.goto 4, 3) := by decide +kernel
theorem dX9_groundItem_32 : decode cX9_groundItem 32 = .ok (.iload_n 2, 1) := by decide +kernel
theorem dX9_groundItem_33 : decode cX9_groundItem 33 = .ok (.istore_n 3, 1) := by decide +kernel
theorem dX9_groundItem_34 : decode cX9_groundItem 34 = .ok (.iload_n 2, 1) := by decide +kernel
theorem dX9_groundItem_35 : decode cX9_groundItem 35 = .ok (.istore 4, 2) := by decide +kernel
theorem dX9_groundItem_37 : decode cX9_groundItem 37 = .ok (.iload 4, 2) := by decide +kernel
theorem dX9_groundItem_39 : decode cX9_groundItem 39 = .ok (.iload_n 3, 1) := by decide +kernel
theorem dX9_groundItem_40 : decode cX9_groundItem 40 = .ok (.if_icmp .gt 26, 3) := by decide +kernel
theorem dX9_groundItem_43 : decode cX9_groundItem 43 = .ok (.aload_n 0, 1) := by decide +kernel
theorem dX9_groundItem_44 : decode cX9_groundItem 44 = .ok (.getfield 244, 3) := by decide +kernel
theorem dX9_groundItem_47 : decode cX9_groundItem 47 = .ok (.ifCond .ne 19, 3) := by decide +kernel
theorem dX9_groundItem_50 : decode cX9_groundItem 50 = .ok (.aload_n 0, 1) := by decide +kernel
theorem dX9_groundItem_51 : decode cX9_groundItem 51 = .ok (.getfield 9, 3) := by decide +kernel
theorem dX9_groundItem_54 : decode cX9_groundItem 54 = .ok (.iconst 3, 1) := by decide +kernel
theorem dX9_groundItem_55 : decode cX9_groundItem 55 = .ok (.iload 4, 2) := by decide +kernel
theorem dX9_groundItem_57 : decode cX9_groundItem 57 = .ok (.iadd, 1) := by decide +kernel
theorem dX9_groundItem_58 : decode cX9_groundItem 58 = .ok (.iload_n 1, 1) := by decide +kernel
theorem dX9_groundItem_59 : decode cX9_groundItem 59 = .ok (.iastore, 1) := by decide +kernel
theorem dX9_groundItem_60 : decode cX9_groundItem 60 = .ok (.iinc 4 1, 3) := by decide +kernel
theorem dX9_groundItem_63 : decode cX9_groundItem 63 = .ok (.goto (-26), 3) := by decide +kernel
theorem dX9_groundItem_66 : decode cX9_groundItem 66 = .ok (.return_, 1) := by decide +kernel
theorem dX9_runnerItem_0 : decode cX9_runnerItem 0 = .ok (.aload_n 0, 1) := by decide +kernel
theorem dX9_runnerItem_1 : decode cX9_runnerItem 1 = .ok (.aload_n 0, 1) := by decide +kernel
theorem dX9_runnerItem_2 : decode cX9_runnerItem 2 = .ok (.getfield 244, 3) := by decide +kernel
theorem dX9_runnerItem_5 : decode cX9_runnerItem 5 = .ok (.ifCond .ne 18, 3) := by decide +kernel
theorem dX9_runnerItem_8 : decode cX9_runnerItem 8 = .ok (.iload_n 1, 1) := by decide +kernel
theorem dX9_runnerItem_9 : decode cX9_runnerItem 9 = .ok (.ifCond .lt 14, 3) := by decide +kernel
theorem dX9_runnerItem_12 : decode cX9_runnerItem 12 = .ok (.aload_n 0, 1) := by decide +kernel
theorem dX9_runnerItem_13 : decode cX9_runnerItem 13 = .ok (.getfield 9, 3) := by decide +kernel
theorem dX9_runnerItem_16 : decode cX9_runnerItem 16 = .ok (.iconst 2, 1) := by decide +kernel
theorem dX9_runnerItem_17 : decode cX9_runnerItem 17 = .ok (.iaload, 1) := by decide +kernel
theorem dX9_runnerItem_18 : decode cX9_runnerItem 18 = .ok (.bipush 6, 2) := by decide +kernel
theorem dX9_runnerItem_20 : decode cX9_runnerItem 20 = .ok (.if_icmp .ne 7, 3) := by decide +kernel
theorem dX9_runnerItem_23 : decode cX9_runnerItem 23 = .ok (.iconst 1, 1) := by decide +kernel
theorem dX9_runnerItem_24 : decode cX9_runnerItem 24 = .ok (.goto 4, 3) := by decide +kernel
theorem dX9_runnerItem_27 : decode cX9_runnerItem 27 = .ok (.iconst 0, 1) := by decide +kernel
theorem dX9_runnerItem_28 : decode cX9_runnerItem 28 = .ok (.putfield 244, 3) := by decide +kernel
theorem dX9_runnerItem_31 : decode cX9_runnerItem 31 = .ok (.aload_n 0, 1) := by decide +kernel
theorem dX9_runnerItem_32 : decode cX9_runnerItem 32 = .ok (.getfield 244, 3) := by decide +kernel
theorem dX9_runnerItem_35 : decode cX9_runnerItem 35 = .ok (.ifCond .eq 4, 3) := by decide +kernel
theorem dX9_runnerItem_38 : decode cX9_runnerItem 38 = .ok (.return_, 1) := by decide +kernel
theorem dX9_runnerItem_39 : decode cX9_runnerItem 39 = .ok (.aload_n 0, 1) := by decide +kernel
theorem dX9_runnerItem_40 : decode cX9_runnerItem 40 = .ok (.invokevirtual 261, 3) := by decide +kernel
theorem dX9_runnerItem_43 : decode cX9_runnerItem 43 = .ok (.aload_n 0, 1) := by decide +kernel
theorem dX9_runnerItem_44 : decode cX9_runnerItem 44 = .ok (.ldc_w 292, 3) := by decide +kernel
theorem dX9_runnerItem_47 : decode cX9_runnerItem 47 = .ok (.invokevirtual 290, 3) := by decide +kernel
theorem dX9_runnerItem_50 : decode cX9_runnerItem 50 = .ok (.ifCond .eq 13, 3) := by decide +kernel
theorem dX9_runnerItem_53 : decode cX9_runnerItem 53 = .ok (.aload_n 0, 1) := by decide +kernel
theorem dX9_runnerItem_54 : decode cX9_runnerItem 54 = .ok (.iconst 0, 1) := by decide +kernel
theorem dX9_runnerItem_55 : decode cX9_runnerItem 55 = .ok (.bipush 9, 2) := by decide +kernel
theorem dX9_runnerItem_57 : decode cX9_runnerItem 57 = .ok (.invokevirtual 287, 3) := by decide +kernel
theorem dX9_runnerItem_60 : decode cX9_runnerItem 60 = .ok (.goto 4, 3) := by decide +kernel
theorem dX9_runnerItem_63 : decode cX9_runnerItem 63 = .ok (.iconst 4, 1) := by decide +kernel
theorem dX9_runnerItem_64 : decode cX9_runnerItem 64 = .ok (.istore_n 2, 1) := by decide +kernel
theorem dX9_runnerItem_65 : decode cX9_runnerItem 65 = .ok (.aload_n 0, 1) := by decide +kernel
theorem dX9_runnerItem_66 : decode cX9_runnerItem 66 = .ok (.ldc_w 294, 3) := by decide +kernel
theorem dX9_runnerItem_69 : decode cX9_runnerItem 69 = .ok (.invokevirtual 290, 3) := by decide +kernel
theorem dX9_runnerItem_72 : decode cX9_runnerItem 72 = .ok (.ifCond .eq 12, 3) := by decide +kernel
theorem dX9_runnerItem_75 : decode cX9_runnerItem 75 = .ok (.aload_n 0, 1) := by decide +kernel
theorem dX9_runnerItem_76 : decode cX9_runnerItem 76 = .ok (.iconst 0, 1) := by decide +kernel
theorem dX9_runnerItem_77 : decode cX9_runnerItem 77 = .ok (.iconst 5, 1) := by decide +kernel
theorem dX9_runnerItem_78 : decode cX9_runnerItem 78 = .ok (.invokevirtual 287, 3) := by decide +kernel
theorem dX9_runnerItem_81 : decode cX9_runnerItem 81 = .ok (.goto 4, 3) := by decide +kernel
theorem dX9_runnerItem_84 : decode cX9_runnerItem 84 = .ok (.iconst 1, 1) := by decide +kernel
theorem dX9_runnerItem_85 : decode cX9_runnerItem 85 = .ok (.istore_n 3, 1) := by decide +kernel
theorem dX9_runnerItem_86 : decode cX9_runnerItem 86 = .ok (.aload_n 0, 1) := by decide +kernel
theorem dX9_runnerItem_87 : decode cX9_runnerItem 87 = .ok (.ldc_w 296, 3) := by decide +kernel
theorem dX9_runnerItem_90 : decode cX9_runnerItem 90 = .ok (.invokevirtual 290, 3) := by decide +kernel
theorem dX9_runnerItem_93 : decode cX9_runnerItem 93 = .ok (.ifCond .eq 13, 3) := by decide +kernel
theorem dX9_runnerItem_96 : decode cX9_runnerItem 96 = .ok (.aload_n 0, 1) := by decide +kernel
theorem dX9_runnerItem_97 : decode cX9_runnerItem 97 = .ok (.iconst 1, 1) := by decide +kernel
theorem dX9_runnerItem_98 : decode cX9_runnerItem 98 = .ok (.bipush 9, 2) := by decide +kernel
theorem dX9_runnerItem_100 : decode cX9_runnerItem 100 = .ok (.invokevirtual 287, 3) := by decide +kernel
theorem dX9_runnerItem_103 : decode cX9_runnerItem 103 = .ok (.goto 4, 3) := by decide +kernel
theorem dX9_runnerItem_106 : decode cX9_runnerItem 106 = .ok (.iconst 4, 1) := by decide +kernel
theorem dX9_runnerItem_107 : decode cX9_runnerItem 107 = .ok (.istore 4, 2) := by decide +kernel
theorem dX9_runnerItem_109 : decode cX9_runnerItem 109 = .ok (.aload_n 0, 1) := by decide +kernel
theorem dX9_runnerItem_110 : decode cX9_runnerItem 110 = .ok (.getfield 244, 3) := by decide +kernel
theorem dX9_runnerItem_113 : decode cX9_runnerItem 113 = .ok (.ifCond .ne 13, 3) := by decide +kernel
theorem dX9_runnerItem_116 : decode cX9_runnerItem 116 = .ok (.aload_n 0, 1) := by decide +kernel
theorem dX9_runnerItem_117 : decode cX9_runnerItem 117 = .ok (.iload_n 1, 1) := by decide +kernel
theorem dX9_runnerItem_118 : decode cX9_runnerItem 118 = .ok (.iload_n 2, 1) := by decide +kernel
theorem dX9_runnerItem_119 : decode cX9_runnerItem 119 = .ok (.iload_n 3, 1) := by decide +kernel
theorem dX9_runnerItem_120 : decode cX9_runnerItem 120 = .ok (.iload 4, 2) := by decide +kernel
theorem dX9_runnerItem_122 : decode cX9_runnerItem 122 = .ok (.invokevirtual 87, 3) := by decide +kernel
theorem dX9_runnerItem_125 : decode cX9_runnerItem 125 = .ok (.pop, 1) := by decide +kernel
theorem dX9_runnerItem_126 : decode cX9_runnerItem 126 = .ok (.return_, 1) := by decide +kernel
theorem dX9_item_0 : decode cX9_item 0 = .ok (.aload_n 0, 1) := by decide +kernel
theorem dX9_item_1 : decode cX9_item 1 = .ok (.invokevirtual 298, 3) := by decide +kernel
theorem dX9_item_4 : decode cX9_item 4 = .ok (.istore_n 1, 1) := by decide +kernel
theorem dX9_item_5 : decode cX9_item 5 = .ok (.iload_n 1, 1) := by decide +kernel
theorem dX9_item_6 : decode cX9_item 6 = .ok (.ifCond .lt 11, 3) := by decide +kernel
theorem dX9_item_9 : decode cX9_item 9 = .ok (.aload_n 0, 1) := by decide +kernel
theorem dX9_item_10 : decode cX9_item 10 = .ok (.iload_n 1, 1) := by decide +kernel
theorem dX9_item_11 : decode cX9_item 11 = .ok (.invokevirtual 301, 3) := by decide +kernel
theorem dX9_item_14 : decode cX9_item 14 = .ok (.goto 55, 3) := by decide +kernel
theorem dX9_item_17 : decode cX9_item 17 = .ok (.aload_n 0, 1) := by decide +kernel
theorem dX9_item_18 : decode cX9_item 18 = .ok (.ldc_w 305, 3) := by decide +kernel
theorem dX9_item_21 : decode cX9_item 21 = .ok (.invokevirtual 290, 3) := by decide +kernel
theorem dX9_item_24 : decode cX9_item 24 = .ok (.ifCond .eq 37, 3) := by decide +kernel
theorem dX9_item_27 : decode cX9_item 27 = .ok (.aload_n 0, 1) := by decide +kernel
theorem dX9_item_28 : decode cX9_item 28 = .ok (.iconst 0, 1) := by decide +kernel
theorem dX9_item_29 : decode cX9_item 29 = .ok (.bipush 99, 2) := by decide +kernel
theorem dX9_item_31 : decode cX9_item 31 = .ok (.invokevirtual 287, 3) := by decide +kernel
theorem dX9_item_34 : decode cX9_item 34 = .ok (.istore_n 2, 1) := by decide +kernel
theorem dX9_item_35 : decode cX9_item 35 = .ok (.aload_n 0, 1) := by decide +kernel
theorem dX9_item_36 : decode cX9_item 36 = .ok (.getfield 9, 3) := by decide +kernel
theorem dX9_item_39 : decode cX9_item 39 = .ok (.iconst 0, 1) := by decide +kernel
theorem dX9_item_40 : decode cX9_item 40 = .ok (.aload_n 0, 1) := by decide +kernel
theorem dX9_item_41 : decode cX9_item 41 = .ok (.getfield 244, 3) := by decide +kernel
theorem dX9_item_44 : decode cX9_item 44 = .ok (.ifCond .eq 12, 3) := by decide +kernel
theorem dX9_item_47 : decode cX9_item 47 = .ok (.aload_n 0, 1) := by decide +kernel
theorem dX9_item_48 : decode cX9_item 48 = .ok (.getfield 9, 3) := by decide +kernel
theorem dX9_item_51 : decode cX9_item 51 = .ok (.iconst 0, 1) := by decide +kernel
theorem dX9_item_52 : decode cX9_item 52 = .ok (.iaload, 1) := by decide +kernel
theorem dX9_item_53 : decode cX9_item 53 = .ok (.goto 4, 3) := by decide +kernel
theorem dX9_item_56 : decode cX9_item 56 = .ok (.iload_n 2, 1) := by decide +kernel
theorem dX9_item_57 : decode cX9_item 57 = .ok (.iastore, 1) := by decide +kernel
theorem dX9_item_58 : decode cX9_item 58 = .ok (.goto 11, 3) := by decide +kernel
theorem dX9_item_61 : decode cX9_item 61 = .ok (.aload_n 0, 1) := by decide +kernel
theorem dX9_item_62 : decode cX9_item 62 = .ok (.aload_n 0, 1) := by decide +kernel
theorem dX9_item_63 : decode cX9_item 63 = .ok (.invokevirtual 307, 3) := by decide +kernel
theorem dX9_item_66 : decode cX9_item 66 = .ok (.invokevirtual 310, 3) := by decide +kernel
theorem dX9_item_69 : decode cX9_item 69 = .ok (.return_, 1) := by decide +kernel
theorem dX9_text_0 : decode cX9_text 0 = .ok (.aload_n 0, 1) := by decide +kernel
theorem dX9_text_1 : decode cX9_text 1 = .ok (.getfield 9, 3) := by decide +kernel
theorem dX9_text_4 : decode cX9_text 4 = .ok (.aload_n 0, 1) := by decide +kernel
theorem dX9_text_5 : decode cX9_text 5 = .ok (.getfield 16, 3) := by decide +kernel
theorem dX9_text_8 : decode cX9_text 8 = .ok (.invokestatic 166, 3) := by decide +kernel
theorem dX9_text_11 : decode cX9_text 11 = .ok (.aload_n 0, 1) := by decide +kernel
theorem dX9_text_12 : decode cX9_text 12 = .ok (.iconst 0, 1) := by decide +kernel
theorem dX9_text_13 : decode cX9_text 13 = .ok (.putfield 228, 3) := by decide +kernel
theorem dX9_text_16 : decode cX9_text 16 = .ok (.aload_n 0, 1) := by decide +kernel
theorem dX9_text_17 : decode cX9_text 17 = .ok (.iconst 0, 1) := by decide +kernel
theorem dX9_text_18 : decode cX9_text 18 = .ok (.putfield 244, 3) := by decide +kernel
theorem dX9_text_21 : decode cX9_text 21 = .ok (.aload_n 0, 1) := by decide +kernel
theorem dX9_text_22 : decode cX9_text 22 = .ok (.invokevirtual 261, 3) := by decide +kernel
theorem dX9_text_25 : decode cX9_text 25 = .ok (.iconst 0, 1) := by decide +kernel
theorem dX9_text_26 : decode cX9_text 26 = .ok (.istore_n 1, 1) := by decide +kernel
theorem dX9_text_27 : decode cX9_text 27 = .ok (.iconst 1, 1) := by decide +kernel
theorem dX9_text_28 : decode cX9_text 28 = .ok (.istore_n 2, 1) := by decide +kernel
theorem dX9_text_29 : decode cX9_text 29 = .ok (.iload_n 2, 1) := by decide +kernel
theorem dX9_text_30 : decode cX9_text 30 = .ok (.ifCond .eq 28, 3) := by decide +kernel
theorem dX9_text_33 : decode cX9_text 33 = .ok (.aload_n 0, 1) := by decide +kernel
theorem dX9_text_34 : decode cX9_text 34 = .ok (.invokevirtual 313, 3) := by decide +kernel
theorem dX9_text_37 : decode cX9_text 37 = .ok (.iinc 1 1, 3) := by decide +kernel
theorem dX9_text_40 : decode cX9_text 40 = .ok (.aload_n 0, 1) := by decide +kernel
theorem dX9_text_41 : decode cX9_text 41 = .ok (.bipush 59, 2) := by decide +kernel
theorem dX9_text_43 : decode cX9_text 43 = .ok (.invokevirtual 316, 3) := by decide +kernel
theorem dX9_text_46 : decode cX9_text 46 = .ok (.istore_n 2, 1) := by decide +kernel
theorem dX9_text_47 : decode cX9_text 47 = .ok (.iload_n 2, 1) := by decide +kernel
theorem dX9_text_48 : decode cX9_text 48 = .ok (.ifCond .eq (-19), 3) := by decide +kernel
theorem dX9_text_51 : decode cX9_text 51 = .ok (.aload_n 0, 1) := by decide +kernel
theorem dX9_text_52 : decode cX9_text 52 = .ok (.invokevirtual 261, 3) := by decide +kernel
theorem dX9_text_55 : decode cX9_text 55 = .ok (.goto (-26), 3) := by decide +kernel
theorem dX9_text_58 : decode cX9_text 58 = .ok (.aload_n 0, 1) := by decide +kernel
theorem dX9_text_59 : decode cX9_text 59 = .ok (.aload_n 0, 1) := by decide +kernel
theorem dX9_text_60 : decode cX9_text 60 = .ok (.getfield 244, 3) := by decide +kernel
theorem dX9_text_63 : decode cX9_text 63 = .ok (.ifCond .ne 10, 3) := by decide +kernel
theorem dX9_text_66 : decode cX9_text 66 = .ok (.aload_n 0, 1) := by decide +kernel
theorem dX9_text_67 : decode cX9_text 67 = .ok (.getfield 241, 3) := by decide +kernel
theorem dX9_text_70 : decode cX9_text 70 = .ok (.ifCond .eq 7, 3) := by decide +kernel
theorem dX9_text_73 : decode cX9_text 73 = .ok (.iconst 1, 1) := by decide +kernel
theorem dX9_text_74 : decode cX9_text 74 = .ok (.goto 4, 3) := by decide +kernel
theorem dX9_text_77 : decode cX9_text 77 = .ok (.iconst 0, 1) := by decide +kernel
theorem dX9_text_78 : decode cX9_text 78 = .ok (.putfield 244, 3) := by decide +kernel
theorem dX9_text_81 : decode cX9_text 81 = .ok (.aload_n 0, 1) := by decide +kernel
theorem dX9_text_82 : decode cX9_text 82 = .ok (.getfield 231, 3) := by decide +kernel
theorem dX9_text_85 : decode cX9_text 85 = .ok (.istore_n 3, 1) := by decide +kernel
theorem dX9_text_86 : decode cX9_text 86 = .ok (.aload_n 0, 1) := by decide +kernel
theorem dX9_text_87 : decode cX9_text 87 = .ok (.iconst 0, 1) := by decide +kernel
theorem dX9_text_88 : decode cX9_text 88 = .ok (.putfield 224, 3) := by decide +kernel
theorem dX9_text_91 : decode cX9_text 91 = .ok (.aload_n 0, 1) := by decide +kernel
theorem dX9_text_92 : decode cX9_text 92 = .ok (.getfield 244, 3) := by decide +kernel
theorem dX9_text_95 : decode cX9_text 95 = .ok (.ifCond .ne 5, 3) := by decide +kernel
theorem dX9_text_98 : decode cX9_text 98 = .ok (.iload_n 1, 1) := by decide +kernel
theorem dX9_text_99 : decode cX9_text 99 = .ok (.ireturn, 1) := by decide +kernel
theorem dX9_text_100 : decode cX9_text 100 = .ok (.aload_n 0, 1) := by decide +kernel
theorem dX9_text_101 : decode cX9_text 101 = .ok (.getfield 16, 3) := by decide +kernel
theorem dX9_text_104 : decode cX9_text 104 = .ok (.aload_n 0, 1) := by decide +kernel
theorem dX9_text_105 : decode cX9_text 105 = .ok (.getfield 9, 3) := by decide +kernel
theorem dX9_text_108 : decode cX9_text 108 = .ok (.invokestatic 166, 3) := by decide +kernel
theorem dX9_text_111 : decode cX9_text 111 = .ok (.iconst (-1), 1) := by decide +kernel
theorem dX9_text_112 : decode cX9_text 112 = .ok (.iload_n 3, 1) := by decide +kernel
theorem dX9_text_113 : decode cX9_text 113 = .ok (.isub, 1) := by decide +kernel
theorem dX9_text_114 : decode cX9_text 114 = .ok (.ireturn, 1) := by decide +kernel
theorem dX9_hold_0 : decode cX9_hold 0 = .ok (.iload_n 1, 1) := by decide +kernel
theorem dX9_hold_1 : decode cX9_hold 1 = .ok (.i2l, 1) := by decide +kernel
theorem dX9_hold_2 : decode cX9_hold 2 = .ok (.lconst 0, 1) := by decide +kernel
theorem dX9_hold_3 : decode cX9_hold 3 = .ok (.ldc2_w 58, 3) := by decide +kernel
theorem dX9_hold_6 : decode cX9_hold 6 = .ok (.invokestatic 54, 3) := by decide +kernel
theorem dX9_hold_9 : decode cX9_hold 9 = .ok (.ifCond .eq 16, 3) := by decide +kernel
theorem dX9_hold_12 : decode cX9_hold 12 = .ok (.iload_n 2, 1) := by decide +kernel
theorem dX9_hold_13 : decode cX9_hold 13 = .ok (.iconst (-1), 1) := by decide +kernel
theorem dX9_hold_14 : decode cX9_hold 14 = .ok (.if_icmp .eq 18, 3) := by decide +kernel
theorem dX9_hold_17 : decode cX9_hold 17 = .ok (.aload_n 0, 1) := by decide +kernel
theorem dX9_hold_18 : decode cX9_hold 18 = .ok (.iload_n 2, 1) := by decide +kernel
theorem dX9_hold_19 : decode cX9_hold 19 = .ok (.invokevirtual 91, 3) := by decide +kernel
theorem dX9_hold_22 : decode cX9_hold 22 = .ok (.ifCond .ne 10, 3) := by decide +kernel
theorem dX9_hold_25 : decode cX9_hold 25 = .ok (.aload_n 0, 1) := by decide +kernel
theorem dX9_hold_26 : decode cX9_hold 26 = .ok (.ldc 46, 2) := by decide +kernel
theorem dX9_hold_28 : decode cX9_hold 28 = .ok (.invokevirtual 48, 3) := by decide +kernel
theorem dX9_hold_31 : decode cX9_hold 31 = .ok (.ireturn, 1) := by decide +kernel
theorem dX9_hold_32 : decode cX9_hold 32 = .ok (.aload_n 0, 1) := by decide +kernel
theorem dX9_hold_33 : decode cX9_hold 33 = .ok (.getfield 9, 3) := by decide +kernel
theorem dX9_hold_36 : decode cX9_hold 36 = .ok (.sipush 255, 3) := by decide +kernel
theorem dX9_hold_39 : decode cX9_hold 39 = .ok (.iload_n 1, 1) := by decide +kernel
theorem dX9_hold_40 : decode cX9_hold 40 = .ok (.iadd, 1) := by decide +kernel
theorem dX9_hold_41 : decode cX9_hold 41 = .ok (.iload_n 2, 1) := by decide +kernel
theorem dX9_hold_42 : decode cX9_hold 42 = .ok (.iastore, 1) := by decide +kernel
theorem dX9_hold_43 : decode cX9_hold 43 = .ok (.iconst 1, 1) := by decide +kernel
theorem dX9_hold_44 : decode cX9_hold 44 = .ok (.ireturn, 1) := by decide +kernel
theorem dX9_above_0 : decode cX9_above 0 = .ok (.iload_n 0, 1) := by decide +kernel
theorem dX9_above_1 : decode cX9_above 1 = .ok (.tableswitch 49 0 6 #[43, 49, 49, 49, 45, 45, 47], 43) := by decide +kernel
theorem dX9_above_44 : decode cX9_above 44 = .ok (.iconst (-1), 1) := by decide +kernel
theorem dX9_above_45 : decode cX9_above 45 = .ok (.ireturn, 1) := by decide +kernel
theorem dX9_above_46 : decode cX9_above 46 = .ok (.iconst 1, 1) := by decide +kernel
theorem dX9_above_47 : decode cX9_above 47 = .ok (.ireturn, 1) := by decide +kernel
theorem dX9_above_48 : decode cX9_above 48 = .ok (.iconst 2, 1) := by decide +kernel
theorem dX9_above_49 : decode cX9_above 49 = .ok (.ireturn, 1) := by decide +kernel
theorem dX9_above_50 : decode cX9_above 50 = .ok (.iconst 0, 1) := by decide +kernel
theorem dX9_above_51 : decode cX9_above 51 = .ok (.ireturn, 1) := by decide +kernel
theorem dX9_as_0 : decode cX9_as 0 = .ok (.iload_n 1, 1) := by decide +kernel
theorem dX9_as_1 : decode cX9_as 1 = .ok (.i2l, 1) := by decide +kernel
theorem dX9_as_2 : decode cX9_as 2 = .ok (.lconst 0, 1) := by decide +kernel
theorem dX9_as_3 : decode cX9_as 3 = .ok (.ldc2_w 58, 3) := by decide +kernel
theorem dX9_as_6 : decode cX9_as 6 = .ok (.invokestatic 54, 3) := by decide +kernel
theorem dX9_as_9 : decode cX9_as 9 = .ok (.ifCond .eq 10, 3) := by decide +kernel
theorem dX9_as_12 : decode cX9_as 12 = .ok (.iload_n 2, 1) := by decide +kernel
theorem dX9_as_13 : decode cX9_as 13 = .ok (.invokestatic 81, 3) := by decide +kernel
theorem dX9_as_16 : decode cX9_as 16 = .ok (.ifCond .ne 10, 3) := by decide +kernel
theorem dX9_as_19 : decode cX9_as 19 = .ok (.aload_n 0, 1) := by decide +kernel
theorem dX9_as_20 : decode cX9_as 20 = .ok (.ldc 46, 2) := by decide +kernel
theorem dX9_as_22 : decode cX9_as 22 = .ok (.invokevirtual 48, 3) := by decide +kernel
theorem dX9_as_25 : decode cX9_as 25 = .ok (.ireturn, 1) := by decide +kernel
theorem dX9_as_26 : decode cX9_as 26 = .ok (.aload_n 0, 1) := by decide +kernel
theorem dX9_as_27 : decode cX9_as 27 = .ok (.getfield 9, 3) := by decide +kernel
theorem dX9_as_30 : decode cX9_as 30 = .ok (.sipush 255, 3) := by decide +kernel
theorem dX9_as_33 : decode cX9_as 33 = .ok (.iload_n 1, 1) := by decide +kernel
theorem dX9_as_34 : decode cX9_as 34 = .ok (.iadd, 1) := by decide +kernel
theorem dX9_as_35 : decode cX9_as 35 = .ok (.iaload, 1) := by decide +kernel
theorem dX9_as_36 : decode cX9_as 36 = .ok (.istore_n 3, 1) := by decide +kernel
theorem dX9_as_37 : decode cX9_as 37 = .ok (.iload_n 3, 1) := by decide +kernel
theorem dX9_as_38 : decode cX9_as 38 = .ok (.ifCond .ge 11, 3) := by decide +kernel
theorem dX9_as_41 : decode cX9_as 41 = .ok (.aload_n 0, 1) := by decide +kernel
theorem dX9_as_42 : decode cX9_as 42 = .ok (.ldc_w 319, 3) := by decide +kernel
theorem dX9_as_45 : decode cX9_as 45 = .ok (.invokevirtual 48, 3) := by decide +kernel
theorem dX9_as_48 : decode cX9_as 48 = .ok (.ireturn, 1) := by decide +kernel
theorem dX9_as_49 : decode cX9_as 49 = .ok (.aload_n 0, 1) := by decide +kernel
theorem dX9_as_50 : decode cX9_as 50 = .ok (.iload_n 3, 1) := by decide +kernel
theorem dX9_as_51 : decode cX9_as 51 = .ok (.iconst 0, 1) := by decide +kernel
theorem dX9_as_52 : decode cX9_as 52 = .ok (.invokevirtual 62, 3) := by decide +kernel
theorem dX9_as_55 : decode cX9_as 55 = .ok (.istore 4, 2) := by decide +kernel
theorem dX9_as_57 : decode cX9_as 57 = .ok (.iload 4, 2) := by decide +kernel
theorem dX9_as_59 : decode cX9_as 59 = .ok (.ifCond .lt 21, 3) := by decide +kernel
theorem dX9_as_62 : decode cX9_as 62 = .ok (.iload 4, 2) := by decide +kernel
theorem dX9_as_64 : decode cX9_as 64 = .ok (.iload_n 2, 1) := by decide +kernel
theorem dX9_as_65 : decode cX9_as 65 = .ok (.if_icmp .ne 5, 3) := by decide +kernel
theorem dX9_as_68 : decode cX9_as 68 = .ok (.iload_n 3, 1) := by decide +kernel
theorem dX9_as_69 : decode cX9_as 69 = .ok (.ireturn, 1) := by decide +kernel
theorem dX9_as_70 : decode cX9_as 70 = .ok (.iload 4, 2) := by decide +kernel
theorem dX9_as_72 : decode cX9_as 72 = .ok (.invokestatic 320, 3) := by decide +kernel
theorem dX9_as_75 : decode cX9_as 75 = .ok (.istore 4, 2) := by decide +kernel
end
section
theorem dX9_as_77 : decode cX9_as 77 = .ok (.goto (-20), 3) := by decide +kernel
theorem dX9_as_80 : decode cX9_as 80 = .ok (.aload_n 0, 1) := by decide +kernel
theorem dX9_as_81 : decode cX9_as 81 = .ok (.ldc_w 323, 3) := by decide +kernel
theorem dX9_as_84 : decode cX9_as 84 = .ok (.invokevirtual 48, 3) := by decide +kernel
theorem dX9_as_87 : decode cX9_as 87 = .ok (.ireturn, 1) := by decide +kernel
theorem dX9_isSheet_0 : decode cX9_isSheet 0 = .ok (.iload_n 0, 1) := by decide +kernel
theorem dX9_isSheet_1 : decode cX9_isSheet 1 = .ok (.i2l, 1) := by decide +kernel
theorem dX9_isSheet_2 : decode cX9_isSheet 2 = .ok (.lconst 0, 1) := by decide +kernel
theorem dX9_isSheet_3 : decode cX9_isSheet 3 = .ok (.ldc2_w 101, 3) := by decide +kernel
theorem dX9_isSheet_6 : decode cX9_isSheet 6 = .ok (.invokestatic 54, 3) := by decide +kernel
theorem dX9_isSheet_9 : decode cX9_isSheet 9 = .ok (.ireturn, 1) := by decide +kernel
theorem dX9_sheet_0 : decode cX9_sheet 0 = .ok (.iload_n 1, 1) := by decide +kernel
theorem dX9_sheet_1 : decode cX9_sheet 1 = .ok (.invokestatic 324, 3) := by decide +kernel
theorem dX9_sheet_4 : decode cX9_sheet 4 = .ok (.ifCond .eq 25, 3) := by decide +kernel
theorem dX9_sheet_7 : decode cX9_sheet 7 = .ok (.iload_n 2, 1) := by decide +kernel
theorem dX9_sheet_8 : decode cX9_sheet 8 = .ok (.ifCond .eq 28, 3) := by decide +kernel
theorem dX9_sheet_11 : decode cX9_sheet 11 = .ok (.iload_n 2, 1) := by decide +kernel
theorem dX9_sheet_12 : decode cX9_sheet 12 = .ok (.bipush 8, 2) := by decide +kernel
theorem dX9_sheet_14 : decode cX9_sheet 14 = .ok (.if_icmp .eq 22, 3) := by decide +kernel
theorem dX9_sheet_17 : decode cX9_sheet 17 = .ok (.iload_n 2, 1) := by decide +kernel
theorem dX9_sheet_18 : decode cX9_sheet 18 = .ok (.bipush 16, 2) := by decide +kernel
theorem dX9_sheet_20 : decode cX9_sheet 20 = .ok (.if_icmp .eq 16, 3) := by decide +kernel
theorem dX9_sheet_23 : decode cX9_sheet 23 = .ok (.iload_n 2, 1) := by decide +kernel
theorem dX9_sheet_24 : decode cX9_sheet 24 = .ok (.bipush 32, 2) := by decide +kernel
theorem dX9_sheet_26 : decode cX9_sheet 26 = .ok (.if_icmp .eq 10, 3) := by decide +kernel
theorem dX9_sheet_29 : decode cX9_sheet 29 = .ok (.aload_n 0, 1) := by decide +kernel
theorem dX9_sheet_30 : decode cX9_sheet 30 = .ok (.ldc 46, 2) := by decide +kernel
theorem dX9_sheet_32 : decode cX9_sheet 32 = .ok (.invokevirtual 48, 3) := by decide +kernel
theorem dX9_sheet_35 : decode cX9_sheet 35 = .ok (.ireturn, 1) := by decide +kernel
theorem dX9_sheet_36 : decode cX9_sheet 36 = .ok (.iload_n 3, 1) := by decide +kernel
theorem dX9_sheet_37 : decode cX9_sheet 37 = .ok (.ifCond .ge 11, 3) := by decide +kernel
theorem dX9_sheet_40 : decode cX9_sheet 40 = .ok (.aload_n 0, 1) := by decide +kernel
theorem dX9_sheet_41 : decode cX9_sheet 41 = .ok (.ldc_w 327, 3) := by decide +kernel
theorem dX9_sheet_44 : decode cX9_sheet 44 = .ok (.invokevirtual 48, 3) := by decide +kernel
theorem dX9_sheet_47 : decode cX9_sheet 47 = .ok (.ireturn, 1) := by decide +kernel
theorem dX9_sheet_48 : decode cX9_sheet 48 = .ok (.iload_n 3, 1) := by decide +kernel
theorem dX9_sheet_49 : decode cX9_sheet 49 = .ok (.bipush 40, 2) := by decide +kernel
theorem dX9_sheet_51 : decode cX9_sheet 51 = .ok (.if_icmp .le 10, 3) := by decide +kernel
theorem dX9_sheet_54 : decode cX9_sheet 54 = .ok (.aload_n 0, 1) := by decide +kernel
theorem dX9_sheet_55 : decode cX9_sheet 55 = .ok (.ldc 46, 2) := by decide +kernel
theorem dX9_sheet_57 : decode cX9_sheet 57 = .ok (.invokevirtual 48, 3) := by decide +kernel
theorem dX9_sheet_60 : decode cX9_sheet 60 = .ok (.ireturn, 1) := by decide +kernel
theorem dX9_sheet_61 : decode cX9_sheet 61 = .ok (.aload_n 0, 1) := by decide +kernel
theorem dX9_sheet_62 : decode cX9_sheet 62 = .ok (.getfield 37, 3) := by decide +kernel
theorem dX9_sheet_65 : decode cX9_sheet 65 = .ok (.iload_n 1, 1) := by decide +kernel
theorem dX9_sheet_66 : decode cX9_sheet 66 = .ok (.iload_n 2, 1) := by decide +kernel
theorem dX9_sheet_67 : decode cX9_sheet 67 = .ok (.iastore, 1) := by decide +kernel
theorem dX9_sheet_68 : decode cX9_sheet 68 = .ok (.aload_n 0, 1) := by decide +kernel
theorem dX9_sheet_69 : decode cX9_sheet 69 = .ok (.getfield 40, 3) := by decide +kernel
theorem dX9_sheet_72 : decode cX9_sheet 72 = .ok (.iload_n 1, 1) := by decide +kernel
theorem dX9_sheet_73 : decode cX9_sheet 73 = .ok (.iload_n 2, 1) := by decide +kernel
theorem dX9_sheet_74 : decode cX9_sheet 74 = .ok (.ifCond .ne 7, 3) := by decide +kernel
theorem dX9_sheet_77 : decode cX9_sheet 77 = .ok (.iconst 0, 1) := by decide +kernel
theorem dX9_sheet_78 : decode cX9_sheet 78 = .ok (.goto 4, 3) := by decide +kernel
theorem dX9_sheet_81 : decode cX9_sheet 81 = .ok (.iload_n 3, 1) := by decide +kernel
theorem dX9_sheet_82 : decode cX9_sheet 82 = .ok (.iastore, 1) := by decide +kernel
theorem dX9_sheet_83 : decode cX9_sheet 83 = .ok (.iconst 0, 1) := by decide +kernel
theorem dX9_sheet_84 : decode cX9_sheet 84 = .ok (.istore 4, 2) := by decide +kernel
theorem dX9_sheet_86 : decode cX9_sheet 86 = .ok (.iload 4, 2) := by decide +kernel
theorem dX9_sheet_88 : decode cX9_sheet 88 = .ok (.bipush 40, 2) := by decide +kernel
theorem dX9_sheet_90 : decode cX9_sheet 90 = .ok (.if_icmp .ge 22, 3) := by decide +kernel
theorem dX9_sheet_93 : decode cX9_sheet 93 = .ok (.aload_n 0, 1) := by decide +kernel
theorem dX9_sheet_94 : decode cX9_sheet 94 = .ok (.getfield 43, 3) := by decide +kernel
theorem dX9_sheet_97 : decode cX9_sheet 97 = .ok (.bipush 40, 2) := by decide +kernel
theorem dX9_sheet_99 : decode cX9_sheet 99 = .ok (.iload_n 1, 1) := by decide +kernel
theorem dX9_sheet_100 : decode cX9_sheet 100 = .ok (.imul, 1) := by decide +kernel
theorem dX9_sheet_101 : decode cX9_sheet 101 = .ok (.iload 4, 2) := by decide +kernel
theorem dX9_sheet_103 : decode cX9_sheet 103 = .ok (.iadd, 1) := by decide +kernel
theorem dX9_sheet_104 : decode cX9_sheet 104 = .ok (.iconst 0, 1) := by decide +kernel
theorem dX9_sheet_105 : decode cX9_sheet 105 = .ok (.iastore, 1) := by decide +kernel
theorem dX9_sheet_106 : decode cX9_sheet 106 = .ok (.iinc 4 1, 3) := by decide +kernel
theorem dX9_sheet_109 : decode cX9_sheet 109 = .ok (.goto (-23), 3) := by decide +kernel
theorem dX9_sheet_112 : decode cX9_sheet 112 = .ok (.aload_n 0, 1) := by decide +kernel
theorem dX9_sheet_113 : decode cX9_sheet 113 = .ok (.getfield 40, 3) := by decide +kernel
theorem dX9_sheet_116 : decode cX9_sheet 116 = .ok (.iload_n 1, 1) := by decide +kernel
theorem dX9_sheet_117 : decode cX9_sheet 117 = .ok (.iaload, 1) := by decide +kernel
theorem dX9_sheet_118 : decode cX9_sheet 118 = .ok (.ireturn, 1) := by decide +kernel
theorem dX9_write_0 : decode cX9_write 0 = .ok (.iload_n 1, 1) := by decide +kernel
theorem dX9_write_1 : decode cX9_write 1 = .ok (.invokestatic 324, 3) := by decide +kernel
theorem dX9_write_4 : decode cX9_write 4 = .ok (.ifCond .ne 10, 3) := by decide +kernel
theorem dX9_write_7 : decode cX9_write 7 = .ok (.aload_n 0, 1) := by decide +kernel
theorem dX9_write_8 : decode cX9_write 8 = .ok (.ldc 46, 2) := by decide +kernel
theorem dX9_write_10 : decode cX9_write 10 = .ok (.invokevirtual 48, 3) := by decide +kernel
theorem dX9_write_13 : decode cX9_write 13 = .ok (.ireturn, 1) := by decide +kernel
theorem dX9_write_14 : decode cX9_write 14 = .ok (.aload_n 0, 1) := by decide +kernel
theorem dX9_write_15 : decode cX9_write 15 = .ok (.getfield 37, 3) := by decide +kernel
theorem dX9_write_18 : decode cX9_write 18 = .ok (.iload_n 1, 1) := by decide +kernel
theorem dX9_write_19 : decode cX9_write 19 = .ok (.iaload, 1) := by decide +kernel
theorem dX9_write_20 : decode cX9_write 20 = .ok (.ifCond .ne 11, 3) := by decide +kernel
theorem dX9_write_23 : decode cX9_write 23 = .ok (.aload_n 0, 1) := by decide +kernel
theorem dX9_write_24 : decode cX9_write 24 = .ok (.ldc_w 319, 3) := by decide +kernel
theorem dX9_write_27 : decode cX9_write 27 = .ok (.invokevirtual 48, 3) := by decide +kernel
theorem dX9_write_30 : decode cX9_write 30 = .ok (.ireturn, 1) := by decide +kernel
theorem dX9_write_31 : decode cX9_write 31 = .ok (.iload_n 2, 1) := by decide +kernel
theorem dX9_write_32 : decode cX9_write 32 = .ok (.i2l, 1) := by decide +kernel
theorem dX9_write_33 : decode cX9_write 33 = .ok (.lconst 0, 1) := by decide +kernel
theorem dX9_write_34 : decode cX9_write 34 = .ok (.aload_n 0, 1) := by decide +kernel
theorem dX9_write_35 : decode cX9_write 35 = .ok (.getfield 40, 3) := by decide +kernel
theorem dX9_write_38 : decode cX9_write 38 = .ok (.iload_n 1, 1) := by decide +kernel
theorem dX9_write_39 : decode cX9_write 39 = .ok (.iaload, 1) := by decide +kernel
theorem dX9_write_40 : decode cX9_write 40 = .ok (.iconst 1, 1) := by decide +kernel
theorem dX9_write_41 : decode cX9_write 41 = .ok (.isub, 1) := by decide +kernel
theorem dX9_write_42 : decode cX9_write 42 = .ok (.i2l, 1) := by decide +kernel
theorem dX9_write_43 : decode cX9_write 43 = .ok (.invokestatic 54, 3) := by decide +kernel
theorem dX9_write_46 : decode cX9_write 46 = .ok (.ifCond .ne 10, 3) := by decide +kernel
theorem dX9_write_49 : decode cX9_write 49 = .ok (.aload_n 0, 1) := by decide +kernel
theorem dX9_write_50 : decode cX9_write 50 = .ok (.ldc 46, 2) := by decide +kernel
theorem dX9_write_52 : decode cX9_write 52 = .ok (.invokevirtual 48, 3) := by decide +kernel
theorem dX9_write_55 : decode cX9_write 55 = .ok (.ireturn, 1) := by decide +kernel
theorem dX9_write_56 : decode cX9_write 56 = .ok (.aload_n 0, 1) := by decide +kernel
theorem dX9_write_57 : decode cX9_write 57 = .ok (.getfield 43, 3) := by decide +kernel
theorem dX9_write_60 : decode cX9_write 60 = .ok (.bipush 40, 2) := by decide +kernel
theorem dX9_write_62 : decode cX9_write 62 = .ok (.iload_n 1, 1) := by decide +kernel
theorem dX9_write_63 : decode cX9_write 63 = .ok (.imul, 1) := by decide +kernel
theorem dX9_write_64 : decode cX9_write 64 = .ok (.iload_n 2, 1) := by decide +kernel
theorem dX9_write_65 : decode cX9_write 65 = .ok (.iadd, 1) := by decide +kernel
theorem dX9_write_66 : decode cX9_write 66 = .ok (.aload_n 0, 1) := by decide +kernel
theorem dX9_write_67 : decode cX9_write 67 = .ok (.getfield 37, 3) := by decide +kernel
theorem dX9_write_70 : decode cX9_write 70 = .ok (.iload_n 1, 1) := by decide +kernel
theorem dX9_write_71 : decode cX9_write 71 = .ok (.iaload, 1) := by decide +kernel
theorem dX9_write_72 : decode cX9_write 72 = .ok (.bipush 8, 2) := by decide +kernel
theorem dX9_write_74 : decode cX9_write 74 = .ok (.if_icmp .ne 8, 3) := by decide +kernel
theorem dX9_write_77 : decode cX9_write 77 = .ok (.iload_n 3, 1) := by decide +kernel
theorem dX9_write_78 : decode cX9_write 78 = .ok (.i2b, 1) := by decide +kernel
theorem dX9_write_79 : decode cX9_write 79 = .ok (.goto 20, 3) := by decide +kernel
theorem dX9_write_82 : decode cX9_write 82 = .ok (.aload_n 0, 1) := by decide +kernel
theorem dX9_write_83 : decode cX9_write 83 = .ok (.getfield 37, 3) := by decide +kernel
theorem dX9_write_86 : decode cX9_write 86 = .ok (.iload_n 1, 1) := by decide +kernel
theorem dX9_write_87 : decode cX9_write 87 = .ok (.iaload, 1) := by decide +kernel
theorem dX9_write_88 : decode cX9_write 88 = .ok (.bipush 16, 2) := by decide +kernel
theorem dX9_write_90 : decode cX9_write 90 = .ok (.if_icmp .ne 8, 3) := by decide +kernel
theorem dX9_write_93 : decode cX9_write 93 = .ok (.iload_n 3, 1) := by decide +kernel
theorem dX9_write_94 : decode cX9_write 94 = .ok (.i2s, 1) := by decide +kernel
theorem dX9_write_95 : decode cX9_write 95 = .ok (.goto 4, 3) := by decide +kernel
theorem dX9_write_98 : decode cX9_write 98 = .ok (.iload_n 3, 1) := by decide +kernel
theorem dX9_write_99 : decode cX9_write 99 = .ok (.iastore, 1) := by decide +kernel
theorem dX9_write_100 : decode cX9_write 100 = .ok (.iconst 1, 1) := by decide +kernel
theorem dX9_write_101 : decode cX9_write 101 = .ok (.ireturn, 1) := by decide +kernel
theorem dX9_copy_0 : decode cX9_copy 0 = .ok (.iload_n 1, 1) := by decide +kernel
theorem dX9_copy_1 : decode cX9_copy 1 = .ok (.invokestatic 324, 3) := by decide +kernel
theorem dX9_copy_4 : decode cX9_copy 4 = .ok (.ifCond .eq 10, 3) := by decide +kernel
theorem dX9_copy_7 : decode cX9_copy 7 = .ok (.iload_n 3, 1) := by decide +kernel
theorem dX9_copy_8 : decode cX9_copy 8 = .ok (.invokestatic 324, 3) := by decide +kernel
theorem dX9_copy_11 : decode cX9_copy 11 = .ok (.ifCond .ne 10, 3) := by decide +kernel
theorem dX9_copy_14 : decode cX9_copy 14 = .ok (.aload_n 0, 1) := by decide +kernel
theorem dX9_copy_15 : decode cX9_copy 15 = .ok (.ldc 46, 2) := by decide +kernel
theorem dX9_copy_17 : decode cX9_copy 17 = .ok (.invokevirtual 48, 3) := by decide +kernel
theorem dX9_copy_20 : decode cX9_copy 20 = .ok (.ireturn, 1) := by decide +kernel
theorem dX9_copy_21 : decode cX9_copy 21 = .ok (.aload_n 0, 1) := by decide +kernel
theorem dX9_copy_22 : decode cX9_copy 22 = .ok (.getfield 37, 3) := by decide +kernel
theorem dX9_copy_25 : decode cX9_copy 25 = .ok (.iload_n 1, 1) := by decide +kernel
theorem dX9_copy_26 : decode cX9_copy 26 = .ok (.iaload, 1) := by decide +kernel
theorem dX9_copy_27 : decode cX9_copy 27 = .ok (.ifCond .eq 12, 3) := by decide +kernel
theorem dX9_copy_30 : decode cX9_copy 30 = .ok (.aload_n 0, 1) := by decide +kernel
theorem dX9_copy_31 : decode cX9_copy 31 = .ok (.getfield 37, 3) := by decide +kernel
theorem dX9_copy_34 : decode cX9_copy 34 = .ok (.iload_n 3, 1) := by decide +kernel
theorem dX9_copy_35 : decode cX9_copy 35 = .ok (.iaload, 1) := by decide +kernel
theorem dX9_copy_36 : decode cX9_copy 36 = .ok (.ifCond .ne 11, 3) := by decide +kernel
theorem dX9_copy_39 : decode cX9_copy 39 = .ok (.aload_n 0, 1) := by decide +kernel
theorem dX9_copy_40 : decode cX9_copy 40 = .ok (.ldc_w 319, 3) := by decide +kernel
theorem dX9_copy_43 : decode cX9_copy 43 = .ok (.invokevirtual 48, 3) := by decide +kernel
theorem dX9_copy_46 : decode cX9_copy 46 = .ok (.ireturn, 1) := by decide +kernel
theorem dX9_copy_47 : decode cX9_copy 47 = .ok (.aload_n 0, 1) := by decide +kernel
theorem dX9_copy_48 : decode cX9_copy 48 = .ok (.getfield 37, 3) := by decide +kernel
theorem dX9_copy_51 : decode cX9_copy 51 = .ok (.iload_n 1, 1) := by decide +kernel
theorem dX9_copy_52 : decode cX9_copy 52 = .ok (.iaload, 1) := by decide +kernel
theorem dX9_copy_53 : decode cX9_copy 53 = .ok (.aload_n 0, 1) := by decide +kernel
theorem dX9_copy_54 : decode cX9_copy 54 = .ok (.getfield 37, 3) := by decide +kernel
theorem dX9_copy_57 : decode cX9_copy 57 = .ok (.iload_n 3, 1) := by decide +kernel
theorem dX9_copy_58 : decode cX9_copy 58 = .ok (.iaload, 1) := by decide +kernel
theorem dX9_copy_59 : decode cX9_copy 59 = .ok (.if_icmp .eq 11, 3) := by decide +kernel
theorem dX9_copy_62 : decode cX9_copy 62 = .ok (.aload_n 0, 1) := by decide +kernel
theorem dX9_copy_63 : decode cX9_copy 63 = .ok (.ldc_w 323, 3) := by decide +kernel
theorem dX9_copy_66 : decode cX9_copy 66 = .ok (.invokevirtual 48, 3) := by decide +kernel
theorem dX9_copy_69 : decode cX9_copy 69 = .ok (.ireturn, 1) := by decide +kernel
theorem dX9_copy_70 : decode cX9_copy 70 = .ok (.iload 5, 2) := by decide +kernel
theorem dX9_copy_72 : decode cX9_copy 72 = .ok (.ifCond .lt 39, 3) := by decide +kernel
theorem dX9_copy_75 : decode cX9_copy 75 = .ok (.iload_n 2, 1) := by decide +kernel
theorem dX9_copy_76 : decode cX9_copy 76 = .ok (.ifCond .lt 35, 3) := by decide +kernel
theorem dX9_copy_79 : decode cX9_copy 79 = .ok (.iload 4, 2) := by decide +kernel
theorem dX9_copy_81 : decode cX9_copy 81 = .ok (.ifCond .lt 30, 3) := by decide +kernel
theorem dX9_copy_84 : decode cX9_copy 84 = .ok (.iload 5, 2) := by decide +kernel
theorem dX9_copy_86 : decode cX9_copy 86 = .ok (.aload_n 0, 1) := by decide +kernel
theorem dX9_copy_87 : decode cX9_copy 87 = .ok (.getfield 40, 3) := by decide +kernel
theorem dX9_copy_90 : decode cX9_copy 90 = .ok (.iload_n 1, 1) := by decide +kernel
theorem dX9_copy_91 : decode cX9_copy 91 = .ok (.iaload, 1) := by decide +kernel
theorem dX9_copy_92 : decode cX9_copy 92 = .ok (.iload_n 2, 1) := by decide +kernel
theorem dX9_copy_93 : decode cX9_copy 93 = .ok (.isub, 1) := by decide +kernel
theorem dX9_copy_94 : decode cX9_copy 94 = .ok (.if_icmp .gt 17, 3) := by decide +kernel
theorem dX9_copy_97 : decode cX9_copy 97 = .ok (.iload 5, 2) := by decide +kernel
theorem dX9_copy_99 : decode cX9_copy 99 = .ok (.aload_n 0, 1) := by decide +kernel
theorem dX9_copy_100 : decode cX9_copy 100 = .ok (.getfield 40, 3) := by decide +kernel
theorem dX9_copy_103 : decode cX9_copy 103 = .ok (.iload_n 3, 1) := by decide +kernel
theorem dX9_copy_104 : decode cX9_copy 104 = .ok (.iaload, 1) := by decide +kernel
theorem dX9_copy_105 : decode cX9_copy 105 = .ok (.iload 4, 2) := by decide +kernel
theorem dX9_copy_107 : decode cX9_copy 107 = .ok (.isub, 1) := by decide +kernel
theorem dX9_copy_108 : decode cX9_copy 108 = .ok (.if_icmp .le 10, 3) := by decide +kernel
theorem dX9_copy_111 : decode cX9_copy 111 = .ok (.aload_n 0, 1) := by decide +kernel
theorem dX9_copy_112 : decode cX9_copy 112 = .ok (.ldc 46, 2) := by decide +kernel
theorem dX9_copy_114 : decode cX9_copy 114 = .ok (.invokevirtual 48, 3) := by decide +kernel
theorem dX9_copy_117 : decode cX9_copy 117 = .ok (.ireturn, 1) := by decide +kernel
theorem dX9_copy_118 : decode cX9_copy 118 = .ok (.iload_n 1, 1) := by decide +kernel
theorem dX9_copy_119 : decode cX9_copy 119 = .ok (.iload_n 3, 1) := by decide +kernel
theorem dX9_copy_120 : decode cX9_copy 120 = .ok (.if_icmp .ne 13, 3) := by decide +kernel
theorem dX9_copy_123 : decode cX9_copy 123 = .ok (.iload_n 2, 1) := by decide +kernel
theorem dX9_copy_124 : decode cX9_copy 124 = .ok (.iload 4, 2) := by decide +kernel
theorem dX9_copy_126 : decode cX9_copy 126 = .ok (.if_icmp .ge 7, 3) := by decide +kernel
theorem dX9_copy_129 : decode cX9_copy 129 = .ok (.iconst 1, 1) := by decide +kernel
theorem dX9_copy_130 : decode cX9_copy 130 = .ok (.goto 4, 3) := by decide +kernel
theorem dX9_copy_133 : decode cX9_copy 133 = .ok (.iconst 0, 1) := by decide +kernel
theorem dX9_copy_134 : decode cX9_copy 134 = .ok (.istore 6, 2) := by decide +kernel
theorem dX9_copy_136 : decode cX9_copy 136 = .ok (.iconst 0, 1) := by decide +kernel
theorem dX9_copy_137 : decode cX9_copy 137 = .ok (.istore 7, 2) := by decide +kernel
theorem dX9_copy_139 : decode cX9_copy 139 = .ok (.iload 7, 2) := by decide +kernel
theorem dX9_copy_141 : decode cX9_copy 141 = .ok (.iload 5, 2) := by decide +kernel
theorem dX9_copy_143 : decode cX9_copy 143 = .ok (.if_icmp .ge 57, 3) := by decide +kernel
theorem dX9_copy_146 : decode cX9_copy 146 = .ok (.iload 6, 2) := by decide +kernel
theorem dX9_copy_148 : decode cX9_copy 148 = .ok (.ifCond .eq 13, 3) := by decide +kernel
theorem dX9_copy_151 : decode cX9_copy 151 = .ok (.iload 5, 2) := by decide +kernel
theorem dX9_copy_153 : decode cX9_copy 153 = .ok (.iconst 1, 1) := by decide +kernel
theorem dX9_copy_154 : decode cX9_copy 154 = .ok (.isub, 1) := by decide +kernel
theorem dX9_copy_155 : decode cX9_copy 155 = .ok (.iload 7, 2) := by decide +kernel
theorem dX9_copy_157 : decode cX9_copy 157 = .ok (.isub, 1) := by decide +kernel
theorem dX9_copy_158 : decode cX9_copy 158 = .ok (.goto 5, 3) := by decide +kernel
theorem dX9_copy_161 : decode cX9_copy 161 = .ok (.iload 7, 2) := by decide +kernel
theorem dX9_copy_163 : decode cX9_copy 163 = .ok (.istore 8, 2) := by decide +kernel
theorem dX9_copy_165 : decode cX9_copy 165 = .ok (.aload_n 0, 1) := by decide +kernel
theorem dX9_copy_166 : decode cX9_copy 166 = .ok (.getfield 43, 3) := by decide +kernel
theorem dX9_copy_169 : decode cX9_copy 169 = .ok (.bipush 40, 2) := by decide +kernel
theorem dX9_copy_171 : decode cX9_copy 171 = .ok (.iload_n 3, 1) := by decide +kernel
theorem dX9_copy_172 : decode cX9_copy 172 = .ok (.imul, 1) := by decide +kernel
theorem dX9_copy_173 : decode cX9_copy 173 = .ok (.iload 4, 2) := by decide +kernel
theorem dX9_copy_175 : decode cX9_copy 175 = .ok (.iadd, 1) := by decide +kernel
theorem dX9_copy_176 : decode cX9_copy 176 = .ok (.iload 8, 2) := by decide +kernel
theorem dX9_copy_178 : decode cX9_copy 178 = .ok (.iadd, 1) := by decide +kernel
theorem dX9_copy_179 : decode cX9_copy 179 = .ok (.aload_n 0, 1) := by decide +kernel
theorem dX9_copy_180 : decode cX9_copy 180 = .ok (.getfield 43, 3) := by decide +kernel
theorem dX9_copy_183 : decode cX9_copy 183 = .ok (.bipush 40, 2) := by decide +kernel
theorem dX9_copy_185 : decode cX9_copy 185 = .ok (.iload_n 1, 1) := by decide +kernel
theorem dX9_copy_186 : decode cX9_copy 186 = .ok (.imul, 1) := by decide +kernel
theorem dX9_copy_187 : decode cX9_copy 187 = .ok (.iload_n 2, 1) := by decide +kernel
theorem dX9_copy_188 : decode cX9_copy 188 = .ok (.iadd, 1) := by decide +kernel
theorem dX9_copy_189 : decode cX9_copy 189 = .ok (.iload 8, 2) := by decide +kernel
theorem dX9_copy_191 : decode cX9_copy 191 = .ok (.iadd, 1) := by decide +kernel
theorem dX9_copy_192 : decode cX9_copy 192 = .ok (.iaload, 1) := by decide +kernel
theorem dX9_copy_193 : decode cX9_copy 193 = .ok (.iastore, 1) := by decide +kernel
theorem dX9_copy_194 : decode cX9_copy 194 = .ok (.iinc 7 1, 3) := by decide +kernel
theorem dX9_copy_197 : decode cX9_copy 197 = .ok (.goto (-58), 3) := by decide +kernel
theorem dX9_copy_200 : decode cX9_copy 200 = .ok (.iload 5, 2) := by decide +kernel
theorem dX9_copy_202 : decode cX9_copy 202 = .ok (.ireturn, 1) := by decide +kernel
theorem dX9_load_0 : decode cX9_load 0 = .ok (.iload_n 1, 1) := by decide +kernel
theorem dX9_load_1 : decode cX9_load 1 = .ok (.invokestatic 324, 3) := by decide +kernel
theorem dX9_load_4 : decode cX9_load 4 = .ok (.ifCond .ne 10, 3) := by decide +kernel
theorem dX9_load_7 : decode cX9_load 7 = .ok (.aload_n 0, 1) := by decide +kernel
theorem dX9_load_8 : decode cX9_load 8 = .ok (.ldc 46, 2) := by decide +kernel
theorem dX9_load_10 : decode cX9_load 10 = .ok (.invokevirtual 48, 3) := by decide +kernel
theorem dX9_load_13 : decode cX9_load 13 = .ok (.ireturn, 1) := by decide +kernel
theorem dX9_load_14 : decode cX9_load 14 = .ok (.aload_n 0, 1) := by decide +kernel
theorem dX9_load_15 : decode cX9_load 15 = .ok (.getfield 37, 3) := by decide +kernel
theorem dX9_load_18 : decode cX9_load 18 = .ok (.iload_n 1, 1) := by decide +kernel
theorem dX9_load_19 : decode cX9_load 19 = .ok (.iaload, 1) := by decide +kernel
theorem dX9_load_20 : decode cX9_load 20 = .ok (.ifCond .ne 11, 3) := by decide +kernel
theorem dX9_load_23 : decode cX9_load 23 = .ok (.aload_n 0, 1) := by decide +kernel
theorem dX9_load_24 : decode cX9_load 24 = .ok (.ldc_w 319, 3) := by decide +kernel
theorem dX9_load_27 : decode cX9_load 27 = .ok (.invokevirtual 48, 3) := by decide +kernel
theorem dX9_load_30 : decode cX9_load 30 = .ok (.ireturn, 1) := by decide +kernel
theorem dX9_load_31 : decode cX9_load 31 = .ok (.aload_n 0, 1) := by decide +kernel
theorem dX9_load_32 : decode cX9_load 32 = .ok (.iload_n 2, 1) := by decide +kernel
theorem dX9_load_33 : decode cX9_load 33 = .ok (.invokevirtual 91, 3) := by decide +kernel
theorem dX9_load_36 : decode cX9_load 36 = .ok (.ifCond .ne 10, 3) := by decide +kernel
theorem dX9_load_39 : decode cX9_load 39 = .ok (.aload_n 0, 1) := by decide +kernel
theorem dX9_load_40 : decode cX9_load 40 = .ok (.ldc 46, 2) := by decide +kernel
theorem dX9_load_42 : decode cX9_load 42 = .ok (.invokevirtual 48, 3) := by decide +kernel
theorem dX9_load_45 : decode cX9_load 45 = .ok (.ireturn, 1) := by decide +kernel
theorem dX9_load_46 : decode cX9_load 46 = .ok (.iconst 0, 1) := by decide +kernel
theorem dX9_load_47 : decode cX9_load 47 = .ok (.istore_n 3, 1) := by decide +kernel
theorem dX9_load_48 : decode cX9_load 48 = .ok (.iload_n 3, 1) := by decide +kernel
theorem dX9_load_49 : decode cX9_load 49 = .ok (.aload_n 0, 1) := by decide +kernel
theorem dX9_load_50 : decode cX9_load 50 = .ok (.getfield 40, 3) := by decide +kernel
theorem dX9_load_53 : decode cX9_load 53 = .ok (.iload_n 1, 1) := by decide +kernel
theorem dX9_load_54 : decode cX9_load 54 = .ok (.iaload, 1) := by decide +kernel
theorem dX9_load_55 : decode cX9_load 55 = .ok (.if_icmp .ge 53, 3) := by decide +kernel
theorem dX9_load_58 : decode cX9_load 58 = .ok (.iload_n 3, 1) := by decide +kernel
theorem dX9_load_59 : decode cX9_load 59 = .ok (.invokestatic 66, 3) := by decide +kernel
theorem dX9_load_62 : decode cX9_load 62 = .ok (.ifCond .eq 46, 3) := by decide +kernel
theorem dX9_load_65 : decode cX9_load 65 = .ok (.aload_n 0, 1) := by decide +kernel
theorem dX9_load_66 : decode cX9_load 66 = .ok (.getfield 43, 3) := by decide +kernel
theorem dX9_load_69 : decode cX9_load 69 = .ok (.bipush 40, 2) := by decide +kernel
theorem dX9_load_71 : decode cX9_load 71 = .ok (.iload_n 1, 1) := by decide +kernel
theorem dX9_load_72 : decode cX9_load 72 = .ok (.imul, 1) := by decide +kernel
theorem dX9_load_73 : decode cX9_load 73 = .ok (.iload_n 3, 1) := by decide +kernel
theorem dX9_load_74 : decode cX9_load 74 = .ok (.iadd, 1) := by decide +kernel
theorem dX9_load_75 : decode cX9_load 75 = .ok (.iaload, 1) := by decide +kernel
theorem dX9_load_76 : decode cX9_load 76 = .ok (.invokestatic 107, 3) := by decide +kernel
theorem dX9_load_79 : decode cX9_load 79 = .ok (.ifCond .eq 29, 3) := by decide +kernel
theorem dX9_load_82 : decode cX9_load 82 = .ok (.aload_n 0, 1) := by decide +kernel
theorem dX9_load_83 : decode cX9_load 83 = .ok (.iload_n 2, 1) := by decide +kernel
theorem dX9_load_84 : decode cX9_load 84 = .ok (.bipush 7, 2) := by decide +kernel
theorem dX9_load_86 : decode cX9_load 86 = .ok (.iload_n 3, 1) := by decide +kernel
theorem dX9_load_87 : decode cX9_load 87 = .ok (.iadd, 1) := by decide +kernel
theorem dX9_load_88 : decode cX9_load 88 = .ok (.aload_n 0, 1) := by decide +kernel
theorem dX9_load_89 : decode cX9_load 89 = .ok (.getfield 43, 3) := by decide +kernel
theorem dX9_load_92 : decode cX9_load 92 = .ok (.bipush 40, 2) := by decide +kernel
theorem dX9_load_94 : decode cX9_load 94 = .ok (.iload_n 1, 1) := by decide +kernel
theorem dX9_load_95 : decode cX9_load 95 = .ok (.imul, 1) := by decide +kernel
theorem dX9_load_96 : decode cX9_load 96 = .ok (.iload_n 3, 1) := by decide +kernel
theorem dX9_load_97 : decode cX9_load 97 = .ok (.iadd, 1) := by decide +kernel
theorem dX9_load_98 : decode cX9_load 98 = .ok (.iaload, 1) := by decide +kernel
theorem dX9_load_99 : decode cX9_load 99 = .ok (.invokevirtual 77, 3) := by decide +kernel
theorem dX9_load_102 : decode cX9_load 102 = .ok (.iinc 3 1, 3) := by decide +kernel
theorem dX9_load_105 : decode cX9_load 105 = .ok (.goto (-57), 3) := by decide +kernel
theorem dX9_load_108 : decode cX9_load 108 = .ok (.iload_n 3, 1) := by decide +kernel
theorem dX9_load_109 : decode cX9_load 109 = .ok (.ireturn, 1) := by decide +kernel
theorem dX9_judge_0 : decode cX9_judge 0 = .ok (.iload_n 1, 1) := by decide +kernel
theorem dX9_judge_1 : decode cX9_judge 1 = .ok (.invokestatic 324, 3) := by decide +kernel
theorem dX9_judge_4 : decode cX9_judge 4 = .ok (.ifCond .ne 10, 3) := by decide +kernel
theorem dX9_judge_7 : decode cX9_judge 7 = .ok (.aload_n 0, 1) := by decide +kernel
theorem dX9_judge_8 : decode cX9_judge 8 = .ok (.ldc 46, 2) := by decide +kernel
theorem dX9_judge_10 : decode cX9_judge 10 = .ok (.invokevirtual 48, 3) := by decide +kernel
theorem dX9_judge_13 : decode cX9_judge 13 = .ok (.ireturn, 1) := by decide +kernel
theorem dX9_judge_14 : decode cX9_judge 14 = .ok (.aload_n 0, 1) := by decide +kernel
theorem dX9_judge_15 : decode cX9_judge 15 = .ok (.getfield 37, 3) := by decide +kernel
theorem dX9_judge_18 : decode cX9_judge 18 = .ok (.iload_n 1, 1) := by decide +kernel
theorem dX9_judge_19 : decode cX9_judge 19 = .ok (.iaload, 1) := by decide +kernel
theorem dX9_judge_20 : decode cX9_judge 20 = .ok (.ifCond .ne 11, 3) := by decide +kernel
theorem dX9_judge_23 : decode cX9_judge 23 = .ok (.aload_n 0, 1) := by decide +kernel
theorem dX9_judge_24 : decode cX9_judge 24 = .ok (.ldc_w 319, 3) := by decide +kernel
theorem dX9_judge_27 : decode cX9_judge 27 = .ok (.invokevirtual 48, 3) := by decide +kernel
theorem dX9_judge_30 : decode cX9_judge 30 = .ok (.ireturn, 1) := by decide +kernel
theorem dX9_judge_31 : decode cX9_judge 31 = .ok (.aload_n 0, 1) := by decide +kernel
theorem dX9_judge_32 : decode cX9_judge 32 = .ok (.getfield 9, 3) := by decide +kernel
theorem dX9_judge_35 : decode cX9_judge 35 = .ok (.aload_n 0, 1) := by decide +kernel
theorem dX9_judge_36 : decode cX9_judge 36 = .ok (.getfield 16, 3) := by decide +kernel
theorem dX9_judge_39 : decode cX9_judge 39 = .ok (.invokestatic 166, 3) := by decide +kernel
theorem dX9_judge_42 : decode cX9_judge 42 = .ok (.iconst 0, 1) := by decide +kernel
theorem dX9_judge_43 : decode cX9_judge 43 = .ok (.istore_n 2, 1) := by decide +kernel
theorem dX9_judge_44 : decode cX9_judge 44 = .ok (.aload_n 0, 1) := by decide +kernel
theorem dX9_judge_45 : decode cX9_judge 45 = .ok (.invokevirtual 139, 3) := by decide +kernel
theorem dX9_judge_48 : decode cX9_judge 48 = .ok (.istore_n 3, 1) := by decide +kernel
theorem dX9_judge_49 : decode cX9_judge 49 = .ok (.iload_n 2, 1) := by decide +kernel
theorem dX9_judge_50 : decode cX9_judge 50 = .ok (.aload_n 0, 1) := by decide +kernel
theorem dX9_judge_51 : decode cX9_judge 51 = .ok (.getfield 40, 3) := by decide +kernel
theorem dX9_judge_54 : decode cX9_judge 54 = .ok (.iload_n 1, 1) := by decide +kernel
theorem dX9_judge_55 : decode cX9_judge 55 = .ok (.iaload, 1) := by decide +kernel
theorem dX9_judge_56 : decode cX9_judge 56 = .ok (.if_icmp .ge 39, 3) := by decide +kernel
theorem dX9_judge_59 : decode cX9_judge 59 = .ok (.iload_n 3, 1) := by decide +kernel
theorem dX9_judge_60 : decode cX9_judge 60 = .ok (.ifCond .lt 35, 3) := by decide +kernel
theorem dX9_judge_63 : decode cX9_judge 63 = .ok (.aload_n 0, 1) := by decide +kernel
theorem dX9_judge_64 : decode cX9_judge 64 = .ok (.getfield 43, 3) := by decide +kernel
theorem dX9_judge_67 : decode cX9_judge 67 = .ok (.bipush 40, 2) := by decide +kernel
theorem dX9_judge_69 : decode cX9_judge 69 = .ok (.iload_n 1, 1) := by decide +kernel
theorem dX9_judge_70 : decode cX9_judge 70 = .ok (.imul, 1) := by decide +kernel
theorem dX9_judge_71 : decode cX9_judge 71 = .ok (.iload_n 2, 1) := by decide +kernel
theorem dX9_judge_72 : decode cX9_judge 72 = .ok (.iadd, 1) := by decide +kernel
theorem dX9_judge_73 : decode cX9_judge 73 = .ok (.iaload, 1) := by decide +kernel
theorem dX9_judge_74 : decode cX9_judge 74 = .ok (.iload_n 3, 1) := by decide +kernel
theorem dX9_judge_75 : decode cX9_judge 75 = .ok (.if_icmp .ne 20, 3) := by decide +kernel
theorem dX9_judge_78 : decode cX9_judge 78 = .ok (.aload_n 0, 1) := by decide +kernel
theorem dX9_judge_79 : decode cX9_judge 79 = .ok (.iload_n 3, 1) := by decide +kernel
theorem dX9_judge_80 : decode cX9_judge 80 = .ok (.invokevirtual 149, 3) := by decide +kernel
theorem dX9_judge_83 : decode cX9_judge 83 = .ok (.pop, 1) := by decide +kernel
theorem dX9_judge_84 : decode cX9_judge 84 = .ok (.aload_n 0, 1) := by decide +kernel
theorem dX9_judge_85 : decode cX9_judge 85 = .ok (.invokevirtual 139, 3) := by decide +kernel
theorem dX9_judge_88 : decode cX9_judge 88 = .ok (.istore_n 3, 1) := by decide +kernel
theorem dX9_judge_89 : decode cX9_judge 89 = .ok (.iinc 2 1, 3) := by decide +kernel
theorem dX9_judge_92 : decode cX9_judge 92 = .ok (.goto (-43), 3) := by decide +kernel
theorem dX9_judge_95 : decode cX9_judge 95 = .ok (.aload_n 0, 1) := by decide +kernel
theorem dX9_judge_96 : decode cX9_judge 96 = .ok (.getfield 16, 3) := by decide +kernel
theorem dX9_judge_99 : decode cX9_judge 99 = .ok (.aload_n 0, 1) := by decide +kernel
theorem dX9_judge_100 : decode cX9_judge 100 = .ok (.getfield 9, 3) := by decide +kernel
theorem dX9_judge_103 : decode cX9_judge 103 = .ok (.invokestatic 166, 3) := by decide +kernel
theorem dX9_judge_106 : decode cX9_judge 106 = .ok (.iload_n 2, 1) := by decide +kernel
theorem dX9_judge_107 : decode cX9_judge 107 = .ok (.aload_n 0, 1) := by decide +kernel
theorem dX9_judge_108 : decode cX9_judge 108 = .ok (.getfield 40, 3) := by decide +kernel
theorem dX9_judge_111 : decode cX9_judge 111 = .ok (.iload_n 1, 1) := by decide +kernel
theorem dX9_judge_112 : decode cX9_judge 112 = .ok (.iaload, 1) := by decide +kernel
theorem dX9_judge_113 : decode cX9_judge 113 = .ok (.if_icmp .ne 7, 3) := by decide +kernel
theorem dX9_judge_116 : decode cX9_judge 116 = .ok (.iconst 0, 1) := by decide +kernel
theorem dX9_judge_117 : decode cX9_judge 117 = .ok (.goto 6, 3) := by decide +kernel
theorem dX9_judge_120 : decode cX9_judge 120 = .ok (.iconst 1, 1) := by decide +kernel
theorem dX9_judge_121 : decode cX9_judge 121 = .ok (.iload_n 2, 1) := by decide +kernel
theorem dX9_judge_122 : decode cX9_judge 122 = .ok (.iadd, 1) := by decide +kernel
theorem dX9_judge_123 : decode cX9_judge 123 = .ok (.ireturn, 1) := by decide +kernel
theorem dX9_image_0 : decode cX9_image 0 = .ok (.aload_n 0, 1) := by decide +kernel
theorem dX9_image_1 : decode cX9_image 1 = .ok (.getfield 9, 3) := by decide +kernel
theorem dX9_image_4 : decode cX9_image 4 = .ok (.aload_n 0, 1) := by decide +kernel
theorem dX9_image_5 : decode cX9_image 5 = .ok (.getfield 13, 3) := by decide +kernel
theorem dX9_image_8 : decode cX9_image 8 = .ok (.invokestatic 166, 3) := by decide +kernel
theorem dX9_image_11 : decode cX9_image 11 = .ok (.aload_n 0, 1) := by decide +kernel
theorem dX9_image_12 : decode cX9_image 12 = .ok (.iconst 1, 1) := by decide +kernel
theorem dX9_image_13 : decode cX9_image 13 = .ok (.putfield 328, 3) := by decide +kernel
theorem dX9_image_16 : decode cX9_image 16 = .ok (.iconst 1, 1) := by decide +kernel
theorem dX9_image_17 : decode cX9_image 17 = .ok (.ireturn, 1) := by decide +kernel
theorem dX9_undo_0 : decode cX9_undo 0 = .ok (.aload_n 0, 1) := by decide +kernel
theorem dX9_undo_1 : decode cX9_undo 1 = .ok (.getfield 328, 3) := by decide +kernel
theorem dX9_undo_4 : decode cX9_undo 4 = .ok (.ifCond .ne 10, 3) := by decide +kernel
theorem dX9_undo_7 : decode cX9_undo 7 = .ok (.aload_n 0, 1) := by decide +kernel
theorem dX9_undo_8 : decode cX9_undo 8 = .ok (.ldc 47, 2) := by decide +kernel
theorem dX9_undo_10 : decode cX9_undo 10 = .ok (.invokevirtual 48, 3) := by decide +kernel
theorem dX9_undo_13 : decode cX9_undo 13 = .ok (.ireturn, 1) := by decide +kernel
theorem dX9_undo_14 : decode cX9_undo 14 = .ok (.aload_n 0, 1) := by decide +kernel
theorem dX9_undo_15 : decode cX9_undo 15 = .ok (.getfield 13, 3) := by decide +kernel
theorem dX9_undo_18 : decode cX9_undo 18 = .ok (.aload_n 0, 1) := by decide +kernel
theorem dX9_undo_19 : decode cX9_undo 19 = .ok (.getfield 9, 3) := by decide +kernel
theorem dX9_undo_22 : decode cX9_undo 22 = .ok (.invokestatic 166, 3) := by decide +kernel
theorem dX9_undo_25 : decode cX9_undo 25 = .ok (.aload_n 0, 1) := by decide +kernel
theorem dX9_undo_26 : decode cX9_undo 26 = .ok (.getfield 9, 3) := by decide +kernel
theorem dX9_undo_29 : decode cX9_undo 29 = .ok (.iconst 2, 1) := by decide +kernel
theorem dX9_undo_30 : decode cX9_undo 30 = .ok (.iaload, 1) := by decide +kernel
theorem dX9_undo_31 : decode cX9_undo 31 = .ok (.ireturn, 1) := by decide +kernel
theorem dX9_tear_0 : decode cX9_tear 0 = .ok (.aload_n 0, 1) := by decide +kernel
theorem dX9_tear_1 : decode cX9_tear 1 = .ok (.getfield 328, 3) := by decide +kernel
theorem dX9_tear_4 : decode cX9_tear 4 = .ok (.ifCond .eq 7, 3) := by decide +kernel
theorem dX9_tear_7 : decode cX9_tear 7 = .ok (.iconst 1, 1) := by decide +kernel
theorem dX9_tear_8 : decode cX9_tear 8 = .ok (.goto 4, 3) := by decide +kernel
theorem dX9_tear_11 : decode cX9_tear 11 = .ok (.iconst 0, 1) := by decide +kernel
theorem dX9_tear_12 : decode cX9_tear 12 = .ok (.istore_n 1, 1) := by decide +kernel
theorem dX9_tear_13 : decode cX9_tear 13 = .ok (.aload_n 0, 1) := by decide +kernel
theorem dX9_tear_14 : decode cX9_tear 14 = .ok (.iconst 0, 1) := by decide +kernel
theorem dX9_tear_15 : decode cX9_tear 15 = .ok (.putfield 328, 3) := by decide +kernel
theorem dX9_tear_18 : decode cX9_tear 18 = .ok (.iload_n 1, 1) := by decide +kernel
theorem dX9_tear_19 : decode cX9_tear 19 = .ok (.ireturn, 1) := by decide +kernel
theorem dX9_allDrops_0 : decode cX9_allDrops 0 = .ok (.iconst 0, 1) := by decide +kernel
theorem dX9_allDrops_1 : decode cX9_allDrops 1 = .ok (.istore_n 1, 1) := by decide +kernel
theorem dX9_allDrops_2 : decode cX9_allDrops 2 = .ok (.iconst 0, 1) := by decide +kernel
theorem dX9_allDrops_3 : decode cX9_allDrops 3 = .ok (.istore_n 2, 1) := by decide +kernel
theorem dX9_allDrops_4 : decode cX9_allDrops 4 = .ok (.iload_n 2, 1) := by decide +kernel
theorem dX9_allDrops_5 : decode cX9_allDrops 5 = .ok (.aload_n 0, 1) := by decide +kernel
theorem dX9_allDrops_6 : decode cX9_allDrops 6 = .ok (.getfield 9, 3) := by decide +kernel
theorem dX9_allDrops_9 : decode cX9_allDrops 9 = .ok (.iconst 2, 1) := by decide +kernel
theorem dX9_allDrops_10 : decode cX9_allDrops 10 = .ok (.iaload, 1) := by decide +kernel
theorem dX9_allDrops_11 : decode cX9_allDrops 11 = .ok (.if_icmp .ge 19, 3) := by decide +kernel
theorem dX9_allDrops_14 : decode cX9_allDrops 14 = .ok (.iload_n 1, 1) := by decide +kernel
theorem dX9_allDrops_15 : decode cX9_allDrops 15 = .ok (.aload_n 0, 1) := by decide +kernel
theorem dX9_allDrops_16 : decode cX9_allDrops 16 = .ok (.iload_n 2, 1) := by decide +kernel
theorem dX9_allDrops_17 : decode cX9_allDrops 17 = .ok (.bipush 6, 2) := by decide +kernel
theorem dX9_allDrops_19 : decode cX9_allDrops 19 = .ok (.invokevirtual 62, 3) := by decide +kernel
theorem dX9_allDrops_22 : decode cX9_allDrops 22 = .ok (.iadd, 1) := by decide +kernel
theorem dX9_allDrops_23 : decode cX9_allDrops 23 = .ok (.istore_n 1, 1) := by decide +kernel
theorem dX9_allDrops_24 : decode cX9_allDrops 24 = .ok (.iinc 2 1, 3) := by decide +kernel
theorem dX9_allDrops_27 : decode cX9_allDrops 27 = .ok (.goto (-23), 3) := by decide +kernel
theorem dX9_allDrops_30 : decode cX9_allDrops 30 = .ok (.iload_n 1, 1) := by decide +kernel
theorem dX9_allDrops_31 : decode cX9_allDrops 31 = .ok (.ireturn, 1) := by decide +kernel
theorem dX9_holding_0 : decode cX9_holding 0 = .ok (.iconst 0, 1) := by decide +kernel
theorem dX9_holding_1 : decode cX9_holding 1 = .ok (.istore_n 1, 1) := by decide +kernel
theorem dX9_holding_2 : decode cX9_holding 2 = .ok (.iconst 0, 1) := by decide +kernel
theorem dX9_holding_3 : decode cX9_holding 3 = .ok (.istore_n 2, 1) := by decide +kernel
theorem dX9_holding_4 : decode cX9_holding 4 = .ok (.iload_n 2, 1) := by decide +kernel
theorem dX9_holding_5 : decode cX9_holding 5 = .ok (.bipush 10, 2) := by decide +kernel
theorem dX9_holding_7 : decode cX9_holding 7 = .ok (.if_icmp .ge 30, 3) := by decide +kernel
theorem dX9_holding_10 : decode cX9_holding 10 = .ok (.iload_n 1, 1) := by decide +kernel
theorem dX9_holding_11 : decode cX9_holding 11 = .ok (.aload_n 0, 1) := by decide +kernel
theorem dX9_holding_12 : decode cX9_holding 12 = .ok (.getfield 9, 3) := by decide +kernel
theorem dX9_holding_15 : decode cX9_holding 15 = .ok (.sipush 255, 3) := by decide +kernel
theorem dX9_holding_18 : decode cX9_holding 18 = .ok (.iload_n 2, 1) := by decide +kernel
theorem dX9_holding_19 : decode cX9_holding 19 = .ok (.iadd, 1) := by decide +kernel
theorem dX9_holding_20 : decode cX9_holding 20 = .ok (.iaload, 1) := by decide +kernel
theorem dX9_holding_21 : decode cX9_holding 21 = .ok (.ifCond .ge 7, 3) := by decide +kernel
theorem dX9_holding_24 : decode cX9_holding 24 = .ok (.iconst 0, 1) := by decide +kernel
theorem dX9_holding_25 : decode cX9_holding 25 = .ok (.goto 4, 3) := by decide +kernel
theorem dX9_holding_28 : decode cX9_holding 28 = .ok (.iconst 1, 1) := by decide +kernel
theorem dX9_holding_29 : decode cX9_holding 29 = .ok (.iadd, 1) := by decide +kernel
theorem dX9_holding_30 : decode cX9_holding 30 = .ok (.istore_n 1, 1) := by decide +kernel
theorem dX9_holding_31 : decode cX9_holding 31 = .ok (.iinc 2 1, 3) := by decide +kernel
theorem dX9_holding_34 : decode cX9_holding 34 = .ok (.goto (-30), 3) := by decide +kernel
theorem dX9_holding_37 : decode cX9_holding 37 = .ok (.iload_n 1, 1) := by decide +kernel
theorem dX9_holding_38 : decode cX9_holding 38 = .ok (.ireturn, 1) := by decide +kernel
theorem dX9_count_0 : decode cX9_count 0 = .ok (.iload_n 1, 1) := by decide +kernel
theorem dX9_count_1 : decode cX9_count 1 = .ok (.tableswitch 96 0 7 #[47, 54, 62, 67, 72, 79, 84, 91], 47) := by decide +kernel
theorem dX9_count_48 : decode cX9_count 48 = .ok (.aload_n 0, 1) := by decide +kernel
theorem dX9_count_49 : decode cX9_count 49 = .ok (.getfield 9, 3) := by decide +kernel
theorem dX9_count_52 : decode cX9_count 52 = .ok (.iconst 2, 1) := by decide +kernel
theorem dX9_count_53 : decode cX9_count 53 = .ok (.iaload, 1) := by decide +kernel
theorem dX9_count_54 : decode cX9_count 54 = .ok (.ireturn, 1) := by decide +kernel
theorem dX9_count_55 : decode cX9_count 55 = .ok (.aload_n 0, 1) := by decide +kernel
theorem dX9_count_56 : decode cX9_count 56 = .ok (.invokevirtual 157, 3) := by decide +kernel
theorem dX9_count_59 : decode cX9_count 59 = .ok (.invokestatic 160, 3) := by decide +kernel
theorem dX9_count_62 : decode cX9_count 62 = .ok (.ireturn, 1) := by decide +kernel
theorem dX9_count_63 : decode cX9_count 63 = .ok (.aload_n 0, 1) := by decide +kernel
theorem dX9_count_64 : decode cX9_count 64 = .ok (.invokevirtual 331, 3) := by decide +kernel
theorem dX9_count_67 : decode cX9_count 67 = .ok (.ireturn, 1) := by decide +kernel
theorem dX9_count_68 : decode cX9_count 68 = .ok (.aload_n 0, 1) := by decide +kernel
theorem dX9_count_69 : decode cX9_count 69 = .ok (.invokevirtual 221, 3) := by decide +kernel
theorem dX9_count_72 : decode cX9_count 72 = .ok (.ireturn, 1) := by decide +kernel
theorem dX9_count_73 : decode cX9_count 73 = .ok (.aload_n 0, 1) := by decide +kernel
theorem dX9_count_74 : decode cX9_count 74 = .ok (.getfield 9, 3) := by decide +kernel
theorem dX9_count_77 : decode cX9_count 77 = .ok (.iconst 0, 1) := by decide +kernel
theorem dX9_count_78 : decode cX9_count 78 = .ok (.iaload, 1) := by decide +kernel
theorem dX9_count_79 : decode cX9_count 79 = .ok (.ireturn, 1) := by decide +kernel
theorem dX9_count_80 : decode cX9_count 80 = .ok (.aload_n 0, 1) := by decide +kernel
theorem dX9_count_81 : decode cX9_count 81 = .ok (.getfield 224, 3) := by decide +kernel
theorem dX9_count_84 : decode cX9_count 84 = .ok (.ireturn, 1) := by decide +kernel
theorem dX9_count_85 : decode cX9_count 85 = .ok (.aload_n 0, 1) := by decide +kernel
theorem dX9_count_86 : decode cX9_count 86 = .ok (.getfield 9, 3) := by decide +kernel
theorem dX9_count_89 : decode cX9_count 89 = .ok (.iconst 1, 1) := by decide +kernel
theorem dX9_count_90 : decode cX9_count 90 = .ok (.iaload, 1) := by decide +kernel
theorem dX9_count_91 : decode cX9_count 91 = .ok (.ireturn, 1) := by decide +kernel
theorem dX9_count_92 : decode cX9_count 92 = .ok (.aload_n 0, 1) := by decide +kernel
theorem dX9_count_93 : decode cX9_count 93 = .ok (.invokevirtual 334, 3) := by decide +kernel
theorem dX9_count_96 : decode cX9_count 96 = .ok (.ireturn, 1) := by decide +kernel
theorem dX9_count_97 : decode cX9_count 97 = .ok (.aload_n 0, 1) := by decide +kernel
theorem dX9_count_98 : decode cX9_count 98 = .ok (.ldc 46, 2) := by decide +kernel
theorem dX9_count_100 : decode cX9_count 100 = .ok (.invokevirtual 48, 3) := by decide +kernel
theorem dX9_count_103 : decode cX9_count 103 = .ok (.ireturn, 1) := by decide +kernel
theorem dX9_status_0 : decode cX9_status 0 = .ok (.iload_n 1, 1) := by decide +kernel
theorem dX9_status_1 : decode cX9_status 1 = .ok (.i2l, 1) := by decide +kernel
theorem dX9_status_2 : decode cX9_status 2 = .ok (.ldc2_w 129, 3) := by decide +kernel
theorem dX9_status_5 : decode cX9_status 5 = .ok (.ldc2_w 60, 3) := by decide +kernel
theorem dX9_status_8 : decode cX9_status 8 = .ok (.invokestatic 54, 3) := by decide +kernel
theorem dX9_status_11 : decode cX9_status 11 = .ok (.ifCond .ne 10, 3) := by decide +kernel
theorem dX9_status_14 : decode cX9_status 14 = .ok (.aload_n 0, 1) := by decide +kernel
theorem dX9_status_15 : decode cX9_status 15 = .ok (.ldc 46, 2) := by decide +kernel
theorem dX9_status_17 : decode cX9_status 17 = .ok (.invokevirtual 48, 3) := by decide +kernel
theorem dX9_status_20 : decode cX9_status 20 = .ok (.ireturn, 1) := by decide +kernel
theorem dX9_status_21 : decode cX9_status 21 = .ok (.iconst 0, 1) := by decide +kernel
theorem dX9_status_22 : decode cX9_status 22 = .ok (.istore_n 2, 1) := by decide +kernel
theorem dX9_status_23 : decode cX9_status 23 = .ok (.iconst 0, 1) := by decide +kernel
theorem dX9_status_24 : decode cX9_status 24 = .ok (.istore_n 3, 1) := by decide +kernel
theorem dX9_status_25 : decode cX9_status 25 = .ok (.iload_n 3, 1) := by decide +kernel
theorem dX9_status_26 : decode cX9_status 26 = .ok (.bipush 7, 2) := by decide +kernel
theorem dX9_status_28 : decode cX9_status 28 = .ok (.if_icmp .ge 31, 3) := by decide +kernel
theorem dX9_status_31 : decode cX9_status 31 = .ok (.iload_n 2, 1) := by decide +kernel
theorem dX9_status_32 : decode cX9_status 32 = .ok (.iload_n 1, 1) := by decide +kernel
theorem dX9_status_33 : decode cX9_status 33 = .ok (.ifCond .lt 8, 3) := by decide +kernel
theorem dX9_status_36 : decode cX9_status 36 = .ok (.iload_n 1, 1) := by decide +kernel
theorem dX9_status_37 : decode cX9_status 37 = .ok (.iload_n 3, 1) := by decide +kernel
theorem dX9_status_38 : decode cX9_status 38 = .ok (.if_icmp .ne 12, 3) := by decide +kernel
theorem dX9_status_41 : decode cX9_status 41 = .ok (.aload_n 0, 1) := by decide +kernel
theorem dX9_status_42 : decode cX9_status 42 = .ok (.getfield 19, 3) := by decide +kernel
theorem dX9_status_45 : decode cX9_status 45 = .ok (.iload_n 3, 1) := by decide +kernel
theorem dX9_status_46 : decode cX9_status 46 = .ok (.iaload, 1) := by decide +kernel
theorem dX9_status_47 : decode cX9_status 47 = .ok (.goto 4, 3) := by decide +kernel
theorem dX9_status_50 : decode cX9_status 50 = .ok (.iconst 0, 1) := by decide +kernel
theorem dX9_status_51 : decode cX9_status 51 = .ok (.iadd, 1) := by decide +kernel
theorem dX9_status_52 : decode cX9_status 52 = .ok (.istore_n 2, 1) := by decide +kernel
theorem dX9_status_53 : decode cX9_status 53 = .ok (.iinc 3 1, 3) := by decide +kernel
theorem dX9_status_56 : decode cX9_status 56 = .ok (.goto (-31), 3) := by decide +kernel
theorem dX9_status_59 : decode cX9_status 59 = .ok (.iload_n 2, 1) := by decide +kernel
theorem dX9_status_60 : decode cX9_status 60 = .ok (.ireturn, 1) := by decide +kernel
theorem dJ6_bitCount_0f7a4_0 : decode cJ6_bitCount_0f7a4 0 = .ok (.iload_n 0, 1) := by decide +kernel
theorem dJ6_bitCount_0f7a4_1 : decode cJ6_bitCount_0f7a4 1 = .ok (.iload_n 0, 1) := by decide +kernel
theorem dJ6_bitCount_0f7a4_2 : decode cJ6_bitCount_0f7a4 2 = .ok (.iconst 1, 1) := by decide +kernel
theorem dJ6_bitCount_0f7a4_3 : decode cJ6_bitCount_0f7a4 3 = .ok (.iushr, 1) := by decide +kernel
theorem dJ6_bitCount_0f7a4_4 : decode cJ6_bitCount_0f7a4 4 = .ok (.ldc_w 265, 3) := by decide +kernel
theorem dJ6_bitCount_0f7a4_7 : decode cJ6_bitCount_0f7a4 7 = .ok (.iand, 1) := by decide +kernel
theorem dJ6_bitCount_0f7a4_8 : decode cJ6_bitCount_0f7a4 8 = .ok (.isub, 1) := by decide +kernel
theorem dJ6_bitCount_0f7a4_9 : decode cJ6_bitCount_0f7a4 9 = .ok (.istore_n 0, 1) := by decide +kernel
theorem dJ6_bitCount_0f7a4_10 : decode cJ6_bitCount_0f7a4 10 = .ok (.iload_n 0, 1) := by decide +kernel
theorem dJ6_bitCount_0f7a4_11 : decode cJ6_bitCount_0f7a4 11 = .ok (.ldc_w 266, 3) := by decide +kernel
theorem dJ6_bitCount_0f7a4_14 : decode cJ6_bitCount_0f7a4 14 = .ok (.iand, 1) := by decide +kernel
theorem dJ6_bitCount_0f7a4_15 : decode cJ6_bitCount_0f7a4 15 = .ok (.iload_n 0, 1) := by decide +kernel
theorem dJ6_bitCount_0f7a4_16 : decode cJ6_bitCount_0f7a4 16 = .ok (.iconst 2, 1) := by decide +kernel
theorem dJ6_bitCount_0f7a4_17 : decode cJ6_bitCount_0f7a4 17 = .ok (.iushr, 1) := by decide +kernel
theorem dJ6_bitCount_0f7a4_18 : decode cJ6_bitCount_0f7a4 18 = .ok (.ldc_w 266, 3) := by decide +kernel
theorem dJ6_bitCount_0f7a4_21 : decode cJ6_bitCount_0f7a4 21 = .ok (.iand, 1) := by decide +kernel
theorem dJ6_bitCount_0f7a4_22 : decode cJ6_bitCount_0f7a4 22 = .ok (.iadd, 1) := by decide +kernel
theorem dJ6_bitCount_0f7a4_23 : decode cJ6_bitCount_0f7a4 23 = .ok (.istore_n 0, 1) := by decide +kernel
theorem dJ6_bitCount_0f7a4_24 : decode cJ6_bitCount_0f7a4 24 = .ok (.iload_n 0, 1) := by decide +kernel
theorem dJ6_bitCount_0f7a4_25 : decode cJ6_bitCount_0f7a4 25 = .ok (.iload_n 0, 1) := by decide +kernel
theorem dJ6_bitCount_0f7a4_26 : decode cJ6_bitCount_0f7a4 26 = .ok (.iconst 4, 1) := by decide +kernel
theorem dJ6_bitCount_0f7a4_27 : decode cJ6_bitCount_0f7a4 27 = .ok (.iushr, 1) := by decide +kernel
theorem dJ6_bitCount_0f7a4_28 : decode cJ6_bitCount_0f7a4 28 = .ok (.iadd, 1) := by decide +kernel
theorem dJ6_bitCount_0f7a4_29 : decode cJ6_bitCount_0f7a4 29 = .ok (.ldc_w 267, 3) := by decide +kernel
theorem dJ6_bitCount_0f7a4_32 : decode cJ6_bitCount_0f7a4 32 = .ok (.iand, 1) := by decide +kernel
theorem dJ6_bitCount_0f7a4_33 : decode cJ6_bitCount_0f7a4 33 = .ok (.istore_n 0, 1) := by decide +kernel
theorem dJ6_bitCount_0f7a4_34 : decode cJ6_bitCount_0f7a4 34 = .ok (.iload_n 0, 1) := by decide +kernel
theorem dJ6_bitCount_0f7a4_35 : decode cJ6_bitCount_0f7a4 35 = .ok (.iload_n 0, 1) := by decide +kernel
theorem dJ6_bitCount_0f7a4_36 : decode cJ6_bitCount_0f7a4 36 = .ok (.bipush 8, 2) := by decide +kernel
theorem dJ6_bitCount_0f7a4_38 : decode cJ6_bitCount_0f7a4 38 = .ok (.iushr, 1) := by decide +kernel
theorem dJ6_bitCount_0f7a4_39 : decode cJ6_bitCount_0f7a4 39 = .ok (.iadd, 1) := by decide +kernel
theorem dJ6_bitCount_0f7a4_40 : decode cJ6_bitCount_0f7a4 40 = .ok (.istore_n 0, 1) := by decide +kernel
theorem dJ6_bitCount_0f7a4_41 : decode cJ6_bitCount_0f7a4 41 = .ok (.iload_n 0, 1) := by decide +kernel
theorem dJ6_bitCount_0f7a4_42 : decode cJ6_bitCount_0f7a4 42 = .ok (.iload_n 0, 1) := by decide +kernel
theorem dJ6_bitCount_0f7a4_43 : decode cJ6_bitCount_0f7a4 43 = .ok (.bipush 16, 2) := by decide +kernel
theorem dJ6_bitCount_0f7a4_45 : decode cJ6_bitCount_0f7a4 45 = .ok (.iushr, 1) := by decide +kernel
theorem dJ6_bitCount_0f7a4_46 : decode cJ6_bitCount_0f7a4 46 = .ok (.iadd, 1) := by decide +kernel
theorem dJ6_bitCount_0f7a4_47 : decode cJ6_bitCount_0f7a4 47 = .ok (.istore_n 0, 1) := by decide +kernel
theorem dJ6_bitCount_0f7a4_48 : decode cJ6_bitCount_0f7a4 48 = .ok (.iload_n 0, 1) := by decide +kernel
theorem dJ6_bitCount_0f7a4_49 : decode cJ6_bitCount_0f7a4 49 = .ok (.bipush 63, 2) := by decide +kernel
theorem dJ6_bitCount_0f7a4_51 : decode cJ6_bitCount_0f7a4 51 = .ok (.iand, 1) := by decide +kernel
theorem dJ6_bitCount_0f7a4_52 : decode cJ6_bitCount_0f7a4 52 = .ok (.ireturn, 1) := by decide +kernel
theorem dJ9_abs_0f7a4_0 : decode cJ9_abs_0f7a4 0 = .ok (.iload_n 0, 1) := by decide +kernel
theorem dJ9_abs_0f7a4_1 : decode cJ9_abs_0f7a4 1 = .ok (.ifCond .ge 8, 3) := by decide +kernel
theorem dJ9_abs_0f7a4_4 : decode cJ9_abs_0f7a4 4 = .ok (.iload_n 0, 1) := by decide +kernel
theorem dJ9_abs_0f7a4_5 : decode cJ9_abs_0f7a4 5 = .ok (.ineg, 1) := by decide +kernel
theorem dJ9_abs_0f7a4_6 : decode cJ9_abs_0f7a4 6 = .ok (.goto 4, 3) := by decide +kernel
theorem dJ9_abs_0f7a4_9 : decode cJ9_abs_0f7a4 9 = .ok (.iload_n 0, 1) := by decide +kernel
theorem dJ9_abs_0f7a4_10 : decode cJ9_abs_0f7a4 10 = .ok (.ireturn, 1) := by decide +kernel
theorem dJ9_max_7cf53_0 : decode cJ9_max_7cf53 0 = .ok (.iload_n 0, 1) := by decide +kernel
theorem dJ9_max_7cf53_1 : decode cJ9_max_7cf53 1 = .ok (.iload_n 1, 1) := by decide +kernel
theorem dJ9_max_7cf53_2 : decode cJ9_max_7cf53 2 = .ok (.if_icmp .lt 7, 3) := by decide +kernel
theorem dJ9_max_7cf53_5 : decode cJ9_max_7cf53 5 = .ok (.iload_n 0, 1) := by decide +kernel
theorem dJ9_max_7cf53_6 : decode cJ9_max_7cf53 6 = .ok (.goto 4, 3) := by decide +kernel
theorem dJ9_max_7cf53_9 : decode cJ9_max_7cf53 9 = .ok (.iload_n 1, 1) := by decide +kernel
theorem dJ9_max_7cf53_10 : decode cJ9_max_7cf53 10 = .ok (.ireturn, 1) := by decide +kernel
theorem dJ9_min_7cf53_0 : decode cJ9_min_7cf53 0 = .ok (.iload_n 0, 1) := by decide +kernel
theorem dJ9_min_7cf53_1 : decode cJ9_min_7cf53 1 = .ok (.iload_n 1, 1) := by decide +kernel
theorem dJ9_min_7cf53_2 : decode cJ9_min_7cf53 2 = .ok (.if_icmp .gt 7, 3) := by decide +kernel
theorem dJ9_min_7cf53_5 : decode cJ9_min_7cf53 5 = .ok (.iload_n 0, 1) := by decide +kernel
theorem dJ9_min_7cf53_6 : decode cJ9_min_7cf53 6 = .ok (.goto 4, 3) := by decide +kernel
theorem dJ9_min_7cf53_9 : decode cJ9_min_7cf53 9 = .ok (.iload_n 1, 1) := by decide +kernel
theorem dJ9_min_7cf53_10 : decode cJ9_min_7cf53 10 = .ok (.ireturn, 1) := by decide +kernel
theorem dJ0_length_8abf5_0 : decode cJ0_length_8abf5 0 = .ok (.aload_n 0, 1) := by decide +kernel
theorem dJ0_length_8abf5_1 : decode cJ0_length_8abf5 1 = .ok (.getfield 9, 3) := by decide +kernel
theorem dJ0_length_8abf5_4 : decode cJ0_length_8abf5 4 = .ok (.arraylength, 1) := by decide +kernel
theorem dJ0_length_8abf5_5 : decode cJ0_length_8abf5 5 = .ok (.aload_n 0, 1) := by decide +kernel
theorem dJ0_length_8abf5_6 : decode cJ0_length_8abf5 6 = .ok (.invokevirtual 335, 3) := by decide +kernel
theorem dJ0_length_8abf5_9 : decode cJ0_length_8abf5 9 = .ok (.ishr, 1) := by decide +kernel
theorem dJ0_length_8abf5_10 : decode cJ0_length_8abf5 10 = .ok (.ireturn, 1) := by decide +kernel
theorem dJ0_charAt_5068e_0 : decode cJ0_charAt_5068e 0 = .ok (.aload_n 0, 1) := by decide +kernel
theorem dJ0_charAt_5068e_1 : decode cJ0_charAt_5068e 1 = .ok (.invokevirtual 492, 3) := by decide +kernel
theorem dJ0_charAt_5068e_4 : decode cJ0_charAt_5068e 4 = .ok (.ifCond .eq 12, 3) := by decide +kernel
theorem dJ0_charAt_5068e_7 : decode cJ0_charAt_5068e 7 = .ok (.aload_n 0, 1) := by decide +kernel
theorem dJ0_charAt_5068e_8 : decode cJ0_charAt_5068e 8 = .ok (.getfield 9, 3) := by decide +kernel
theorem dJ0_charAt_5068e_11 : decode cJ0_charAt_5068e 11 = .ok (.iload_n 1, 1) := by decide +kernel
theorem dJ0_charAt_5068e_12 : decode cJ0_charAt_5068e 12 = .ok (.invokestatic 495, 3) := by decide +kernel
theorem dJ0_charAt_5068e_15 : decode cJ0_charAt_5068e 15 = .ok (.ireturn, 1) := by decide +kernel
theorem dJ0_charAt_5068e_16 : decode cJ0_charAt_5068e 16 = .ok (.aload_n 0, 1) := by decide +kernel
theorem dJ0_charAt_5068e_17 : decode cJ0_charAt_5068e 17 = .ok (.getfield 9, 3) := by decide +kernel
theorem dJ0_charAt_5068e_20 : decode cJ0_charAt_5068e 20 = .ok (.iload_n 1, 1) := by decide +kernel
theorem dJ0_charAt_5068e_21 : decode cJ0_charAt_5068e 21 = .ok (.invokestatic 498, 3) := by decide +kernel
theorem dJ0_charAt_5068e_24 : decode cJ0_charAt_5068e 24 = .ok (.ireturn, 1) := by decide +kernel
theorem dJ0_coder_7d493_0 : decode cJ0_coder_7d493 0 = .ok (.getstatic 38, 3) := by decide +kernel
theorem dJ0_coder_7d493_3 : decode cJ0_coder_7d493 3 = .ok (.ifCond .eq 10, 3) := by decide +kernel
theorem dJ0_coder_7d493_6 : decode cJ0_coder_7d493 6 = .ok (.aload_n 0, 1) := by decide +kernel
theorem dJ0_coder_7d493_7 : decode cJ0_coder_7d493 7 = .ok (.getfield 15, 3) := by decide +kernel
theorem dJ0_coder_7d493_10 : decode cJ0_coder_7d493 10 = .ok (.goto 4, 3) := by decide +kernel
theorem dJ0_coder_7d493_13 : decode cJ0_coder_7d493 13 = .ok (.iconst 1, 1) := by decide +kernel
theorem dJ0_coder_7d493_14 : decode cJ0_coder_7d493 14 = .ok (.ireturn, 1) := by decide +kernel
theorem dJ0_isLatin1_aae02_0 : decode cJ0_isLatin1_aae02 0 = .ok (.getstatic 38, 3) := by decide +kernel
theorem dJ0_isLatin1_aae02_3 : decode cJ0_isLatin1_aae02 3 = .ok (.ifCond .eq 14, 3) := by decide +kernel
theorem dJ0_isLatin1_aae02_6 : decode cJ0_isLatin1_aae02 6 = .ok (.aload_n 0, 1) := by decide +kernel
theorem dJ0_isLatin1_aae02_7 : decode cJ0_isLatin1_aae02 7 = .ok (.getfield 15, 3) := by decide +kernel
theorem dJ0_isLatin1_aae02_10 : decode cJ0_isLatin1_aae02 10 = .ok (.ifCond .ne 7, 3) := by decide +kernel
theorem dJ0_isLatin1_aae02_13 : decode cJ0_isLatin1_aae02 13 = .ok (.iconst 1, 1) := by decide +kernel
theorem dJ0_isLatin1_aae02_14 : decode cJ0_isLatin1_aae02 14 = .ok (.goto 4, 3) := by decide +kernel
theorem dJ0_isLatin1_aae02_17 : decode cJ0_isLatin1_aae02 17 = .ok (.iconst 0, 1) := by decide +kernel
theorem dJ0_isLatin1_aae02_18 : decode cJ0_isLatin1_aae02 18 = .ok (.ireturn, 1) := by decide +kernel
theorem dJ0_checkIndex_df160_0 : decode cJ0_checkIndex_df160 0 = .ok (.iload_n 0, 1) := by decide +kernel
theorem dJ0_checkIndex_df160_1 : decode cJ0_checkIndex_df160 1 = .ok (.iload_n 1, 1) := by decide +kernel
theorem dJ0_checkIndex_df160_2 : decode cJ0_checkIndex_df160 2 = .ok (.getstatic 1053, 3) := by decide +kernel
theorem dJ0_checkIndex_df160_5 : decode cJ0_checkIndex_df160 5 = .ok (.invokestatic 1059, 3) := by decide +kernel
theorem dJ0_checkIndex_df160_8 : decode cJ0_checkIndex_df160 8 = .ok (.pop, 1) := by decide +kernel
theorem dJ0_checkIndex_df160_9 : decode cJ0_checkIndex_df160 9 = .ok (.return_, 1) := by decide +kernel
theorem dJ1_charAt_3b067_0 : decode cJ1_charAt_3b067 0 = .ok (.iload_n 1, 1) := by decide +kernel
theorem dJ1_charAt_3b067_1 : decode cJ1_charAt_3b067 1 = .ok (.aload_n 0, 1) := by decide +kernel
theorem dJ1_charAt_3b067_2 : decode cJ1_charAt_3b067 2 = .ok (.arraylength, 1) := by decide +kernel
theorem dJ1_charAt_3b067_3 : decode cJ1_charAt_3b067 3 = .ok (.invokestatic 9, 3) := by decide +kernel
theorem dJ1_charAt_3b067_6 : decode cJ1_charAt_3b067 6 = .ok (.aload_n 0, 1) := by decide +kernel
theorem dJ1_charAt_3b067_7 : decode cJ1_charAt_3b067 7 = .ok (.iload_n 1, 1) := by decide +kernel
theorem dJ1_charAt_3b067_8 : decode cJ1_charAt_3b067 8 = .ok (.baload, 1) := by decide +kernel
theorem dJ1_charAt_3b067_9 : decode cJ1_charAt_3b067 9 = .ok (.sipush 255, 3) := by decide +kernel
theorem dJ1_charAt_3b067_12 : decode cJ1_charAt_3b067 12 = .ok (.iand, 1) := by decide +kernel
theorem dJ1_charAt_3b067_13 : decode cJ1_charAt_3b067 13 = .ok (.i2c, 1) := by decide +kernel
theorem dJ1_charAt_3b067_14 : decode cJ1_charAt_3b067 14 = .ok (.ireturn, 1) := by decide +kernel
theorem dJ2_getChar_3b067_0 : decode cJ2_getChar_3b067 0 = .ok (.getstatic 44, 3) := by decide +kernel
theorem dJ2_getChar_3b067_3 : decode cJ2_getChar_3b067 3 = .ok (.ifCond .ne 25, 3) := by decide +kernel
theorem dJ2_getChar_3b067_6 : decode cJ2_getChar_3b067 6 = .ok (.iload_n 1, 1) := by decide +kernel
theorem dJ2_getChar_3b067_7 : decode cJ2_getChar_3b067 7 = .ok (.ifCond .lt 11, 3) := by decide +kernel
theorem dJ2_getChar_3b067_10 : decode cJ2_getChar_3b067 10 = .ok (.iload_n 1, 1) := by decide +kernel
theorem dJ2_getChar_3b067_11 : decode cJ2_getChar_3b067 11 = .ok (.aload_n 0, 1) := by decide +kernel
theorem dJ2_getChar_3b067_12 : decode cJ2_getChar_3b067 12 = .ok (.invokestatic 48, 3) := by decide +kernel
theorem dJ2_getChar_3b067_15 : decode cJ2_getChar_3b067 15 = .ok (.if_icmp .lt 13, 3) := by decide +kernel
theorem dJ2_getChar_3b067_18 : decode cJ2_getChar_3b067 18 = .ok (.new 52, 3) := by decide +kernel
theorem dJ2_getChar_3b067_21 : decode cJ2_getChar_3b067 21 = .ok (.dup, 1) := by decide +kernel
theorem dJ2_getChar_3b067_22 : decode cJ2_getChar_3b067 22 = .ok (.ldc 54, 2) := by decide +kernel
theorem dJ2_getChar_3b067_24 : decode cJ2_getChar_3b067 24 = .ok (.invokespecial 56, 3) := by decide +kernel
theorem dJ2_getChar_3b067_27 : decode cJ2_getChar_3b067 27 = .ok (.athrow, 1) := by decide +kernel
theorem dJ2_getChar_3b067_28 : decode cJ2_getChar_3b067 28 = .ok (.iload_n 1, 1) := by decide +kernel
theorem dJ2_getChar_3b067_29 : decode cJ2_getChar_3b067 29 = .ok (.iconst 1, 1) := by decide +kernel
theorem dJ2_getChar_3b067_30 : decode cJ2_getChar_3b067 30 = .ok (.ishl, 1) := by decide +kernel
theorem dJ2_getChar_3b067_31 : decode cJ2_getChar_3b067 31 = .ok (.istore_n 1, 1) := by decide +kernel
theorem dJ2_getChar_3b067_32 : decode cJ2_getChar_3b067 32 = .ok (.aload_n 0, 1) := by decide +kernel
theorem dJ2_getChar_3b067_33 : decode cJ2_getChar_3b067 33 = .ok (.iload_n 1, 1) := by decide +kernel
theorem dJ2_getChar_3b067_34 : decode cJ2_getChar_3b067 34 = .ok (.iinc 1 1, 3) := by decide +kernel
theorem dJ2_getChar_3b067_37 : decode cJ2_getChar_3b067 37 = .ok (.baload, 1) := by decide +kernel
theorem dJ2_getChar_3b067_38 : decode cJ2_getChar_3b067 38 = .ok (.sipush 255, 3) := by decide +kernel
theorem dJ2_getChar_3b067_41 : decode cJ2_getChar_3b067 41 = .ok (.iand, 1) := by decide +kernel
theorem dJ2_getChar_3b067_42 : decode cJ2_getChar_3b067 42 = .ok (.getstatic 59, 3) := by decide +kernel
theorem dJ2_getChar_3b067_45 : decode cJ2_getChar_3b067 45 = .ok (.ishl, 1) := by decide +kernel
theorem dJ2_getChar_3b067_46 : decode cJ2_getChar_3b067 46 = .ok (.aload_n 0, 1) := by decide +kernel
theorem dJ2_getChar_3b067_47 : decode cJ2_getChar_3b067 47 = .ok (.iload_n 1, 1) := by decide +kernel
theorem dJ2_getChar_3b067_48 : decode cJ2_getChar_3b067 48 = .ok (.baload, 1) := by decide +kernel
theorem dJ2_getChar_3b067_49 : decode cJ2_getChar_3b067 49 = .ok (.sipush 255, 3) := by decide +kernel
theorem dJ2_getChar_3b067_52 : decode cJ2_getChar_3b067 52 = .ok (.iand, 1) := by decide +kernel
theorem dJ2_getChar_3b067_53 : decode cJ2_getChar_3b067 53 = .ok (.getstatic 63, 3) := by decide +kernel
theorem dJ2_getChar_3b067_56 : decode cJ2_getChar_3b067 56 = .ok (.ishl, 1) := by decide +kernel
theorem dJ2_getChar_3b067_57 : decode cJ2_getChar_3b067 57 = .ok (.ior, 1) := by decide +kernel
theorem dJ2_getChar_3b067_58 : decode cJ2_getChar_3b067 58 = .ok (.i2c, 1) := by decide +kernel
theorem dJ2_getChar_3b067_59 : decode cJ2_getChar_3b067 59 = .ok (.ireturn, 1) := by decide +kernel
theorem dJ2_length_9d52b_0 : decode cJ2_length_9d52b 0 = .ok (.aload_n 0, 1) := by decide +kernel
theorem dJ2_length_9d52b_1 : decode cJ2_length_9d52b 1 = .ok (.arraylength, 1) := by decide +kernel
theorem dJ2_length_9d52b_2 : decode cJ2_length_9d52b 2 = .ok (.iconst 1, 1) := by decide +kernel
theorem dJ2_length_9d52b_3 : decode cJ2_length_9d52b 3 = .ok (.ishr, 1) := by decide +kernel
theorem dJ2_length_9d52b_4 : decode cJ2_length_9d52b 4 = .ok (.ireturn, 1) := by decide +kernel
theorem dJ2_charAt_3b067_0 : decode cJ2_charAt_3b067 0 = .ok (.iload_n 1, 1) := by decide +kernel
theorem dJ2_charAt_3b067_1 : decode cJ2_charAt_3b067 1 = .ok (.aload_n 0, 1) := by decide +kernel
theorem dJ2_charAt_3b067_2 : decode cJ2_charAt_3b067 2 = .ok (.invokestatic 67, 3) := by decide +kernel
theorem dJ2_charAt_3b067_5 : decode cJ2_charAt_3b067 5 = .ok (.aload_n 0, 1) := by decide +kernel
theorem dJ2_charAt_3b067_6 : decode cJ2_charAt_3b067 6 = .ok (.iload_n 1, 1) := by decide +kernel
theorem dJ2_charAt_3b067_7 : decode cJ2_charAt_3b067 7 = .ok (.invokestatic 71, 3) := by decide +kernel
theorem dJ2_charAt_3b067_10 : decode cJ2_charAt_3b067 10 = .ok (.ireturn, 1) := by decide +kernel
theorem dJ2_checkIndex_2214a_0 : decode cJ2_checkIndex_2214a 0 = .ok (.iload_n 0, 1) := by decide +kernel
theorem dJ2_checkIndex_2214a_1 : decode cJ2_checkIndex_2214a 1 = .ok (.aload_n 1, 1) := by decide +kernel
theorem dJ2_checkIndex_2214a_2 : decode cJ2_checkIndex_2214a 2 = .ok (.invokestatic 48, 3) := by decide +kernel
theorem dJ2_checkIndex_2214a_5 : decode cJ2_checkIndex_2214a 5 = .ok (.invokestatic 414, 3) := by decide +kernel
theorem dJ2_checkIndex_2214a_8 : decode cJ2_checkIndex_2214a 8 = .ok (.return_, 1) := by decide +kernel
theorem dJ7_fill_d0a16_0 : decode cJ7_fill_d0a16 0 = .ok (.iconst 0, 1) := by decide +kernel
theorem dJ7_fill_d0a16_1 : decode cJ7_fill_d0a16 1 = .ok (.istore_n 3, 1) := by decide +kernel
theorem dJ7_fill_d0a16_2 : decode cJ7_fill_d0a16 2 = .ok (.aload_n 0, 1) := by decide +kernel
theorem dJ7_fill_d0a16_3 : decode cJ7_fill_d0a16 3 = .ok (.arraylength, 1) := by decide +kernel
theorem dJ7_fill_d0a16_4 : decode cJ7_fill_d0a16 4 = .ok (.istore 4, 2) := by decide +kernel
theorem dJ7_fill_d0a16_6 : decode cJ7_fill_d0a16 6 = .ok (.iload_n 3, 1) := by decide +kernel
theorem dJ7_fill_d0a16_7 : decode cJ7_fill_d0a16 7 = .ok (.iload 4, 2) := by decide +kernel
theorem dJ7_fill_d0a16_9 : decode cJ7_fill_d0a16 9 = .ok (.if_icmp .ge 13, 3) := by decide +kernel
theorem dJ7_fill_d0a16_12 : decode cJ7_fill_d0a16 12 = .ok (.aload_n 0, 1) := by decide +kernel
theorem dJ7_fill_d0a16_13 : decode cJ7_fill_d0a16 13 = .ok (.iload_n 3, 1) := by decide +kernel
theorem dJ7_fill_d0a16_14 : decode cJ7_fill_d0a16 14 = .ok (.lload_n 1, 1) := by decide +kernel
theorem dJ7_fill_d0a16_15 : decode cJ7_fill_d0a16 15 = .ok (.lastore, 1) := by decide +kernel
theorem dJ7_fill_d0a16_16 : decode cJ7_fill_d0a16 16 = .ok (.iinc 3 1, 3) := by decide +kernel
theorem dJ7_fill_d0a16_19 : decode cJ7_fill_d0a16 19 = .ok (.goto (-13), 3) := by decide +kernel
theorem dJ7_fill_d0a16_22 : decode cJ7_fill_d0a16 22 = .ok (.return_, 1) := by decide +kernel
theorem dJ7_fill_53178_0 : decode cJ7_fill_53178 0 = .ok (.iconst 0, 1) := by decide +kernel
theorem dJ7_fill_53178_1 : decode cJ7_fill_53178 1 = .ok (.istore_n 2, 1) := by decide +kernel
theorem dJ7_fill_53178_2 : decode cJ7_fill_53178 2 = .ok (.aload_n 0, 1) := by decide +kernel
theorem dJ7_fill_53178_3 : decode cJ7_fill_53178 3 = .ok (.arraylength, 1) := by decide +kernel
theorem dJ7_fill_53178_4 : decode cJ7_fill_53178 4 = .ok (.istore_n 3, 1) := by decide +kernel
theorem dJ7_fill_53178_5 : decode cJ7_fill_53178 5 = .ok (.iload_n 2, 1) := by decide +kernel
theorem dJ7_fill_53178_6 : decode cJ7_fill_53178 6 = .ok (.iload_n 3, 1) := by decide +kernel
theorem dJ7_fill_53178_7 : decode cJ7_fill_53178 7 = .ok (.if_icmp .ge 13, 3) := by decide +kernel
theorem dJ7_fill_53178_10 : decode cJ7_fill_53178 10 = .ok (.aload_n 0, 1) := by decide +kernel
theorem dJ7_fill_53178_11 : decode cJ7_fill_53178 11 = .ok (.iload_n 2, 1) := by decide +kernel
theorem dJ7_fill_53178_12 : decode cJ7_fill_53178 12 = .ok (.iload_n 1, 1) := by decide +kernel
theorem dJ7_fill_53178_13 : decode cJ7_fill_53178 13 = .ok (.iastore, 1) := by decide +kernel
theorem dJ7_fill_53178_14 : decode cJ7_fill_53178 14 = .ok (.iinc 2 1, 3) := by decide +kernel
theorem dJ7_fill_53178_17 : decode cJ7_fill_53178 17 = .ok (.goto (-12), 3) := by decide +kernel
theorem dJ7_fill_53178_20 : decode cJ7_fill_53178 20 = .ok (.return_, 1) := by decide +kernel
theorem dJ3_checkIndex_8e157_0 : decode cJ3_checkIndex_8e157 0 = .ok (.iload_n 0, 1) := by decide +kernel
theorem dJ3_checkIndex_8e157_1 : decode cJ3_checkIndex_8e157 1 = .ok (.ifCond .lt 8, 3) := by decide +kernel
theorem dJ3_checkIndex_8e157_4 : decode cJ3_checkIndex_8e157 4 = .ok (.iload_n 0, 1) := by decide +kernel
theorem dJ3_checkIndex_8e157_5 : decode cJ3_checkIndex_8e157 5 = .ok (.iload_n 1, 1) := by decide +kernel
theorem dJ3_checkIndex_8e157_6 : decode cJ3_checkIndex_8e157 6 = .ok (.if_icmp .lt 10, 3) := by decide +kernel
theorem dJ3_checkIndex_8e157_9 : decode cJ3_checkIndex_8e157 9 = .ok (.aload_n 2, 1) := by decide +kernel
theorem dJ3_checkIndex_8e157_10 : decode cJ3_checkIndex_8e157 10 = .ok (.iload_n 0, 1) := by decide +kernel
theorem dJ3_checkIndex_8e157_11 : decode cJ3_checkIndex_8e157 11 = .ok (.iload_n 1, 1) := by decide +kernel
theorem dJ3_checkIndex_8e157_12 : decode cJ3_checkIndex_8e157 12 = .ok (.invokestatic 95, 3) := by decide +kernel
theorem dJ3_checkIndex_8e157_15 : decode cJ3_checkIndex_8e157 15 = .ok (.athrow, 1) := by decide +kernel
theorem dJ3_checkIndex_8e157_16 : decode cJ3_checkIndex_8e157 16 = .ok (.iload_n 0, 1) := by decide +kernel
theorem dJ3_checkIndex_8e157_17 : decode cJ3_checkIndex_8e157 17 = .ok (.ireturn, 1) := by decide +kernel
end
section
theorem zz_last : True := trivial
end
