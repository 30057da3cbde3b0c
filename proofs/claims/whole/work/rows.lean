section
-- ===== PART A: goes FIRST, ahead of the names: the tables' words, and 'selects' of the private methods out of them =====
/-- a private method of a class that the tables say can be made, by its rows of tables_1 -/
def lw_okq (q : MethodName × Nat) : Prop := (q.1.cls ≠ "java/lang/invoke/MethodHandle" ∧ q.1.cls ≠ "java/lang/invoke/VarHandle") ∧ Cond.instantiable q.1.cls q.2 ∈ tables_1 ∧ Cond.privateMethod q.1 ∈ tables_1 ∧ Cond.instanceMethod q.1 ∈ tables_1
theorem lw_p0 : lw_okq (⟨"SpoonRace", "found", "(I)I"⟩, 11) := ⟨⟨by decide +kernel, by decide +kernel⟩, List.mem_of_getElem? (i := 20) (by decide +kernel), List.mem_of_getElem? (i := 266) (by decide +kernel), List.mem_of_getElem? (i := 267) (by decide +kernel)⟩
theorem lw_p1 : lw_okq (⟨"SpoonRace", "isRunner", "(I)Z"⟩, 11) := ⟨⟨by decide +kernel, by decide +kernel⟩, List.mem_of_getElem? (i := 20) (by decide +kernel), List.mem_of_getElem? (i := 296) (by decide +kernel), List.mem_of_getElem? (i := 297) (by decide +kernel)⟩
theorem lw_p2 : lw_okq (⟨"SpoonRace", "runAllHome", "()V"⟩, 11) := ⟨⟨by decide +kernel, by decide +kernel⟩, List.mem_of_getElem? (i := 20) (by decide +kernel), List.mem_of_getElem? (i := 468) (by decide +kernel), List.mem_of_getElem? (i := 469) (by decide +kernel)⟩
theorem lw_p3 : lw_okq (⟨"SpoonRace", "isStretch", "(III)Z"⟩, 11) := ⟨⟨by decide +kernel, by decide +kernel⟩, List.mem_of_getElem? (i := 20) (by decide +kernel), List.mem_of_getElem? (i := 492) (by decide +kernel), List.mem_of_getElem? (i := 493) (by decide +kernel)⟩
theorem lw_p4 : lw_okq (⟨"SpoonRace$Chances", "spread", "(III)V"⟩, 2) := ⟨⟨by decide +kernel, by decide +kernel⟩, List.mem_of_getElem? (i := 132) (by decide +kernel), List.mem_of_getElem? (i := 509) (by decide +kernel), List.mem_of_getElem? (i := 510) (by decide +kernel)⟩
theorem lw_p5 : lw_okq (⟨"SpoonRace$Means", "through", "(LSpoonRace$Meet;LSpoonRace$Runner;III)I"⟩, 3) := ⟨⟨by decide +kernel, by decide +kernel⟩, List.mem_of_getElem? (i := 116) (by decide +kernel), List.mem_of_getElem? (i := 523) (by decide +kernel), List.mem_of_getElem? (i := 524) (by decide +kernel)⟩
theorem lw_p6 : lw_okq (⟨"SpoonRace$Means", "goBack", "()V"⟩, 3) := ⟨⟨by decide +kernel, by decide +kernel⟩, List.mem_of_getElem? (i := 116) (by decide +kernel), List.mem_of_getElem? (i := 530) (by decide +kernel), List.mem_of_getElem? (i := 531) (by decide +kernel)⟩
theorem lw_p7 : lw_okq (⟨"SpoonRace$Means", "bestPace", "(LSpoonRace$Meet;LSpoonRace$Runner;II)I"⟩, 3) := ⟨⟨by decide +kernel, by decide +kernel⟩, List.mem_of_getElem? (i := 116) (by decide +kernel), List.mem_of_getElem? (i := 543) (by decide +kernel), List.mem_of_getElem? (i := 544) (by decide +kernel)⟩
theorem lw_p8 : lw_okq (⟨"SpoonRace", "wholeMean", "(LSpoonRace$Meet;I)I"⟩, 11) := ⟨⟨by decide +kernel, by decide +kernel⟩, List.mem_of_getElem? (i := 20) (by decide +kernel), List.mem_of_getElem? (i := 566) (by decide +kernel), List.mem_of_getElem? (i := 567) (by decide +kernel)⟩
theorem lw_p9 : lw_okq (⟨"SpoonRace", "isTeamSet", "(I)Z"⟩, 11) := ⟨⟨by decide +kernel, by decide +kernel⟩, List.mem_of_getElem? (i := 20) (by decide +kernel), List.mem_of_getElem? (i := 596) (by decide +kernel), List.mem_of_getElem? (i := 597) (by decide +kernel)⟩
theorem lw_p10 : lw_okq (⟨"SpoonRace$Team", "weigh", "(III)V"⟩, 3) := ⟨⟨by decide +kernel, by decide +kernel⟩, List.mem_of_getElem? (i := 146) (by decide +kernel), List.mem_of_getElem? (i := 611) (by decide +kernel), List.mem_of_getElem? (i := 612) (by decide +kernel)⟩
theorem lw_p11 : lw_okq (⟨"SpoonRace", "tryGum", "(I)V"⟩, 11) := ⟨⟨by decide +kernel, by decide +kernel⟩, List.mem_of_getElem? (i := 20) (by decide +kernel), List.mem_of_getElem? (i := 623) (by decide +kernel), List.mem_of_getElem? (i := 624) (by decide +kernel)⟩
theorem lw_p12 : lw_okq (⟨"SpoonRace$Reader", "readItem", "(LSpoonRace$Meet;)Z"⟩, 1) := ⟨⟨by decide +kernel, by decide +kernel⟩, List.mem_of_getElem? (i := 163) (by decide +kernel), List.mem_of_getElem? (i := 678) (by decide +kernel), List.mem_of_getElem? (i := 679) (by decide +kernel)⟩
theorem lw_p13 : lw_okq (⟨"SpoonRace$Reader", "groundTold", "()I"⟩, 1) := ⟨⟨by decide +kernel, by decide +kernel⟩, List.mem_of_getElem? (i := 163) (by decide +kernel), List.mem_of_getElem? (i := 682) (by decide +kernel), List.mem_of_getElem? (i := 683) (by decide +kernel)⟩
theorem lw_p14 : lw_okq (⟨"SpoonRace$Reader", "readGround", "(LSpoonRace$Meet;I)Z"⟩, 1) := ⟨⟨by decide +kernel, by decide +kernel⟩, List.mem_of_getElem? (i := 163) (by decide +kernel), List.mem_of_getElem? (i := 743) (by decide +kernel), List.mem_of_getElem? (i := 744) (by decide +kernel)⟩
theorem lw_p15 : lw_okq (⟨"SpoonRace$Reader", "numberBehind", "(II)I"⟩, 1) := ⟨⟨by decide +kernel, by decide +kernel⟩, List.mem_of_getElem? (i := 163) (by decide +kernel), List.mem_of_getElem? (i := 747) (by decide +kernel), List.mem_of_getElem? (i := 748) (by decide +kernel)⟩
def lw_privs_1 : List (MethodName × Nat) := [(⟨"SpoonRace", "found", "(I)I"⟩, 11), (⟨"SpoonRace", "isRunner", "(I)Z"⟩, 11), (⟨"SpoonRace", "runAllHome", "()V"⟩, 11), (⟨"SpoonRace", "isStretch", "(III)Z"⟩, 11), (⟨"SpoonRace$Chances", "spread", "(III)V"⟩, 2), (⟨"SpoonRace$Means", "through", "(LSpoonRace$Meet;LSpoonRace$Runner;III)I"⟩, 3), (⟨"SpoonRace$Means", "goBack", "()V"⟩, 3), (⟨"SpoonRace$Means", "bestPace", "(LSpoonRace$Meet;LSpoonRace$Runner;II)I"⟩, 3), (⟨"SpoonRace", "wholeMean", "(LSpoonRace$Meet;I)I"⟩, 11), (⟨"SpoonRace", "isTeamSet", "(I)Z"⟩, 11), (⟨"SpoonRace$Team", "weigh", "(III)V"⟩, 3), (⟨"SpoonRace", "tryGum", "(I)V"⟩, 11), (⟨"SpoonRace$Reader", "readItem", "(LSpoonRace$Meet;)Z"⟩, 1), (⟨"SpoonRace$Reader", "groundTold", "()I"⟩, 1), (⟨"SpoonRace$Reader", "readGround", "(LSpoonRace$Meet;I)Z"⟩, 1), (⟨"SpoonRace$Reader", "numberBehind", "(II)I"⟩, 1)]
theorem lw_r1 : ∀ q ∈ lw_privs_1, lw_okq q := List.forall_mem_cons.mpr ⟨lw_p0, List.forall_mem_cons.mpr ⟨lw_p1, List.forall_mem_cons.mpr ⟨lw_p2, List.forall_mem_cons.mpr ⟨lw_p3, List.forall_mem_cons.mpr ⟨lw_p4, List.forall_mem_cons.mpr ⟨lw_p5, List.forall_mem_cons.mpr ⟨lw_p6, List.forall_mem_cons.mpr ⟨lw_p7, List.forall_mem_cons.mpr ⟨lw_p8, List.forall_mem_cons.mpr ⟨lw_p9, List.forall_mem_cons.mpr ⟨lw_p10, List.forall_mem_cons.mpr ⟨lw_p11, List.forall_mem_cons.mpr ⟨lw_p12, List.forall_mem_cons.mpr ⟨lw_p13, List.forall_mem_cons.mpr ⟨lw_p14, List.forall_mem_cons.mpr ⟨lw_p15, fun _ h => absurd h List.not_mem_nil⟩⟩⟩⟩⟩⟩⟩⟩⟩⟩⟩⟩⟩⟩⟩⟩
theorem lw_p16 : lw_okq (⟨"SpoonRace$Reader", "perhaps", "(Ljava/lang/String;III)I"⟩, 1) := ⟨⟨by decide +kernel, by decide +kernel⟩, List.mem_of_getElem? (i := 163) (by decide +kernel), List.mem_of_getElem? (i := 758) (by decide +kernel), List.mem_of_getElem? (i := 759) (by decide +kernel)⟩
theorem lw_p17 : lw_okq (⟨"SpoonRace$Reader", "readPick", "(LSpoonRace$Meet;)Z"⟩, 1) := ⟨⟨by decide +kernel, by decide +kernel⟩, List.mem_of_getElem? (i := 163) (by decide +kernel), List.mem_of_getElem? (i := 763) (by decide +kernel), List.mem_of_getElem? (i := 764) (by decide +kernel)⟩
theorem lw_p18 : lw_okq (⟨"SpoonRace$Reader", "kindTold", "()I"⟩, 1) := ⟨⟨by decide +kernel, by decide +kernel⟩, List.mem_of_getElem? (i := 163) (by decide +kernel), List.mem_of_getElem? (i := 767) (by decide +kernel), List.mem_of_getElem? (i := 768) (by decide +kernel)⟩
theorem lw_p19 : lw_okq (⟨"SpoonRace$Reader", "readRunner", "(LSpoonRace$Meet;I)Z"⟩, 1) := ⟨⟨by decide +kernel, by decide +kernel⟩, List.mem_of_getElem? (i := 163) (by decide +kernel), List.mem_of_getElem? (i := 778) (by decide +kernel), List.mem_of_getElem? (i := 779) (by decide +kernel)⟩
theorem lw_p20 : lw_okq (⟨"SpoonRaceModel", "becomes", "(II)I"⟩, 19) := ⟨⟨by decide +kernel, by decide +kernel⟩, List.mem_of_getElem? (i := 876) (by decide +kernel), List.mem_of_getElem? (i := 952) (by decide +kernel), List.mem_of_getElem? (i := 953) (by decide +kernel)⟩
theorem lw_p21 : lw_okq (⟨"SpoonRaceModel", "finds", "(I)I"⟩, 19) := ⟨⟨by decide +kernel, by decide +kernel⟩, List.mem_of_getElem? (i := 876) (by decide +kernel), List.mem_of_getElem? (i := 957) (by decide +kernel), List.mem_of_getElem? (i := 958) (by decide +kernel)⟩
theorem lw_p22 : lw_okq (⟨"SpoonRaceModel", "comes", "(IIII)I"⟩, 19) := ⟨⟨by decide +kernel, by decide +kernel⟩, List.mem_of_getElem? (i := 876) (by decide +kernel), List.mem_of_getElem? (i := 977) (by decide +kernel), List.mem_of_getElem? (i := 978) (by decide +kernel)⟩
theorem lw_p23 : lw_okq (⟨"SpoonRaceModel", "makes", "(III)V"⟩, 19) := ⟨⟨by decide +kernel, by decide +kernel⟩, List.mem_of_getElem? (i := 876) (by decide +kernel), List.mem_of_getElem? (i := 981) (by decide +kernel), List.mem_of_getElem? (i := 982) (by decide +kernel)⟩
theorem lw_p24 : lw_okq (⟨"SpoonRaceModel", "isRunner", "(I)Z"⟩, 19) := ⟨⟨by decide +kernel, by decide +kernel⟩, List.mem_of_getElem? (i := 876) (by decide +kernel), List.mem_of_getElem? (i := 989) (by decide +kernel), List.mem_of_getElem? (i := 990) (by decide +kernel)⟩
theorem lw_p25 : lw_okq (⟨"SpoonRaceModel", "is", "(II)I"⟩, 19) := ⟨⟨by decide +kernel, by decide +kernel⟩, List.mem_of_getElem? (i := 876) (by decide +kernel), List.mem_of_getElem? (i := 994) (by decide +kernel), List.mem_of_getElem? (i := 995) (by decide +kernel)⟩
theorem lw_p26 : lw_okq (⟨"SpoonRaceModel", "holds", "(I)I"⟩, 19) := ⟨⟨by decide +kernel, by decide +kernel⟩, List.mem_of_getElem? (i := 876) (by decide +kernel), List.mem_of_getElem? (i := 998) (by decide +kernel), List.mem_of_getElem? (i := 999) (by decide +kernel)⟩
theorem lw_p27 : lw_okq (⟨"SpoonRaceModel", "paceAt", "(II)I"⟩, 19) := ⟨⟨by decide +kernel, by decide +kernel⟩, List.mem_of_getElem? (i := 876) (by decide +kernel), List.mem_of_getElem? (i := 1022) (by decide +kernel), List.mem_of_getElem? (i := 1023) (by decide +kernel)⟩
theorem lw_p28 : lw_okq (⟨"SpoonRaceModel", "takes", "(II)I"⟩, 19) := ⟨⟨by decide +kernel, by decide +kernel⟩, List.mem_of_getElem? (i := 876) (by decide +kernel), List.mem_of_getElem? (i := 1030) (by decide +kernel), List.mem_of_getElem? (i := 1031) (by decide +kernel)⟩
theorem lw_p29 : lw_okq (⟨"SpoonRaceModel", "rocks", "(II)I"⟩, 19) := ⟨⟨by decide +kernel, by decide +kernel⟩, List.mem_of_getElem? (i := 876) (by decide +kernel), List.mem_of_getElem? (i := 1034) (by decide +kernel), List.mem_of_getElem? (i := 1035) (by decide +kernel)⟩
theorem lw_p30 : lw_okq (⟨"SpoonRaceModel", "oddsBy", "(IIIZI)I"⟩, 19) := ⟨⟨by decide +kernel, by decide +kernel⟩, List.mem_of_getElem? (i := 876) (by decide +kernel), List.mem_of_getElem? (i := 1042) (by decide +kernel), List.mem_of_getElem? (i := 1043) (by decide +kernel)⟩
theorem lw_p31 : lw_okq (⟨"SpoonRaceModel", "hurts", "(II)I"⟩, 19) := ⟨⟨by decide +kernel, by decide +kernel⟩, List.mem_of_getElem? (i := 876) (by decide +kernel), List.mem_of_getElem? (i := 1046) (by decide +kernel), List.mem_of_getElem? (i := 1047) (by decide +kernel)⟩
def lw_privs_2 : List (MethodName × Nat) := [(⟨"SpoonRace$Reader", "perhaps", "(Ljava/lang/String;III)I"⟩, 1), (⟨"SpoonRace$Reader", "readPick", "(LSpoonRace$Meet;)Z"⟩, 1), (⟨"SpoonRace$Reader", "kindTold", "()I"⟩, 1), (⟨"SpoonRace$Reader", "readRunner", "(LSpoonRace$Meet;I)Z"⟩, 1), (⟨"SpoonRaceModel", "becomes", "(II)I"⟩, 19), (⟨"SpoonRaceModel", "finds", "(I)I"⟩, 19), (⟨"SpoonRaceModel", "comes", "(IIII)I"⟩, 19), (⟨"SpoonRaceModel", "makes", "(III)V"⟩, 19), (⟨"SpoonRaceModel", "isRunner", "(I)Z"⟩, 19), (⟨"SpoonRaceModel", "is", "(II)I"⟩, 19), (⟨"SpoonRaceModel", "holds", "(I)I"⟩, 19), (⟨"SpoonRaceModel", "paceAt", "(II)I"⟩, 19), (⟨"SpoonRaceModel", "takes", "(II)I"⟩, 19), (⟨"SpoonRaceModel", "rocks", "(II)I"⟩, 19), (⟨"SpoonRaceModel", "oddsBy", "(IIIZI)I"⟩, 19), (⟨"SpoonRaceModel", "hurts", "(II)I"⟩, 19)]
theorem lw_r2 : ∀ q ∈ lw_privs_2, lw_okq q := List.forall_mem_cons.mpr ⟨lw_p16, List.forall_mem_cons.mpr ⟨lw_p17, List.forall_mem_cons.mpr ⟨lw_p18, List.forall_mem_cons.mpr ⟨lw_p19, List.forall_mem_cons.mpr ⟨lw_p20, List.forall_mem_cons.mpr ⟨lw_p21, List.forall_mem_cons.mpr ⟨lw_p22, List.forall_mem_cons.mpr ⟨lw_p23, List.forall_mem_cons.mpr ⟨lw_p24, List.forall_mem_cons.mpr ⟨lw_p25, List.forall_mem_cons.mpr ⟨lw_p26, List.forall_mem_cons.mpr ⟨lw_p27, List.forall_mem_cons.mpr ⟨lw_p28, List.forall_mem_cons.mpr ⟨lw_p29, List.forall_mem_cons.mpr ⟨lw_p30, List.forall_mem_cons.mpr ⟨lw_p31, fun _ h => absurd h List.not_mem_nil⟩⟩⟩⟩⟩⟩⟩⟩⟩⟩⟩⟩⟩⟩⟩⟩
theorem lw_p32 : lw_okq (⟨"SpoonRaceModel", "isHome", "(I)Z"⟩, 19) := ⟨⟨by decide +kernel, by decide +kernel⟩, List.mem_of_getElem? (i := 876) (by decide +kernel), List.mem_of_getElem? (i := 1054) (by decide +kernel), List.mem_of_getElem? (i := 1055) (by decide +kernel)⟩
theorem lw_p33 : lw_okq (⟨"SpoonRaceModel", "oddsNow", "(I)I"⟩, 19) := ⟨⟨by decide +kernel, by decide +kernel⟩, List.mem_of_getElem? (i := 876) (by decide +kernel), List.mem_of_getElem? (i := 1059) (by decide +kernel), List.mem_of_getElem? (i := 1060) (by decide +kernel)⟩
theorem lw_p34 : lw_okq (⟨"SpoonRaceModel", "nervesOf", "(I)I"⟩, 19) := ⟨⟨by decide +kernel, by decide +kernel⟩, List.mem_of_getElem? (i := 876) (by decide +kernel), List.mem_of_getElem? (i := 1063) (by decide +kernel), List.mem_of_getElem? (i := 1064) (by decide +kernel)⟩
theorem lw_p35 : lw_okq (⟨"SpoonRaceModel", "runsNext", "()I"⟩, 19) := ⟨⟨by decide +kernel, by decide +kernel⟩, List.mem_of_getElem? (i := 876) (by decide +kernel), List.mem_of_getElem? (i := 1076) (by decide +kernel), List.mem_of_getElem? (i := 1077) (by decide +kernel)⟩
theorem lw_p36 : lw_okq (⟨"SpoonRaceModel", "orNone", "(I)I"⟩, 19) := ⟨⟨by decide +kernel, by decide +kernel⟩, List.mem_of_getElem? (i := 876) (by decide +kernel), List.mem_of_getElem? (i := 1080) (by decide +kernel), List.mem_of_getElem? (i := 1081) (by decide +kernel)⟩
theorem lw_p37 : lw_okq (⟨"SpoonRaceModel", "stepsGo", "(I)I"⟩, 19) := ⟨⟨by decide +kernel, by decide +kernel⟩, List.mem_of_getElem? (i := 876) (by decide +kernel), List.mem_of_getElem? (i := 1090) (by decide +kernel), List.mem_of_getElem? (i := 1091) (by decide +kernel)⟩
theorem lw_p38 : lw_okq (⟨"SpoonRaceModel", "step", "(I)I"⟩, 19) := ⟨⟨by decide +kernel, by decide +kernel⟩, List.mem_of_getElem? (i := 876) (by decide +kernel), List.mem_of_getElem? (i := 1094) (by decide +kernel), List.mem_of_getElem? (i := 1095) (by decide +kernel)⟩
theorem lw_p39 : lw_okq (⟨"SpoonRaceModel", "draw", "()I"⟩, 19) := ⟨⟨by decide +kernel, by decide +kernel⟩, List.mem_of_getElem? (i := 876) (by decide +kernel), List.mem_of_getElem? (i := 1098) (by decide +kernel), List.mem_of_getElem? (i := 1099) (by decide +kernel)⟩
theorem lw_p40 : lw_okq (⟨"SpoonRaceModel", "home", "()I"⟩, 19) := ⟨⟨by decide +kernel, by decide +kernel⟩, List.mem_of_getElem? (i := 876) (by decide +kernel), List.mem_of_getElem? (i := 1107) (by decide +kernel), List.mem_of_getElem? (i := 1108) (by decide +kernel)⟩
theorem lw_p41 : lw_okq (⟨"SpoonRaceModel", "starts", "()V"⟩, 19) := ⟨⟨by decide +kernel, by decide +kernel⟩, List.mem_of_getElem? (i := 876) (by decide +kernel), List.mem_of_getElem? (i := 1114) (by decide +kernel), List.mem_of_getElem? (i := 1115) (by decide +kernel)⟩
theorem lw_p42 : lw_okq (⟨"SpoonRaceModel", "allGoHome", "()V"⟩, 19) := ⟨⟨by decide +kernel, by decide +kernel⟩, List.mem_of_getElem? (i := 876) (by decide +kernel), List.mem_of_getElem? (i := 1129) (by decide +kernel), List.mem_of_getElem? (i := 1130) (by decide +kernel)⟩
theorem lw_p43 : lw_okq (⟨"SpoonRaceModel", "firstHome", "()I"⟩, 19) := ⟨⟨by decide +kernel, by decide +kernel⟩, List.mem_of_getElem? (i := 876) (by decide +kernel), List.mem_of_getElem? (i := 1133) (by decide +kernel), List.mem_of_getElem? (i := 1134) (by decide +kernel)⟩
theorem lw_p44 : lw_okq (⟨"SpoonRaceModel", "isAhead", "(II)Z"⟩, 19) := ⟨⟨by decide +kernel, by decide +kernel⟩, List.mem_of_getElem? (i := 876) (by decide +kernel), List.mem_of_getElem? (i := 1137) (by decide +kernel), List.mem_of_getElem? (i := 1138) (by decide +kernel)⟩
theorem lw_p45 : lw_okq (⟨"SpoonRaceModel", "isStretch", "(IIII)Z"⟩, 19) := ⟨⟨by decide +kernel, by decide +kernel⟩, List.mem_of_getElem? (i := 876) (by decide +kernel), List.mem_of_getElem? (i := 1154) (by decide +kernel), List.mem_of_getElem? (i := 1155) (by decide +kernel)⟩
theorem lw_p46 : lw_okq (⟨"SpoonRaceModel", "oddsAt", "(IIZ)I"⟩, 19) := ⟨⟨by decide +kernel, by decide +kernel⟩, List.mem_of_getElem? (i := 876) (by decide +kernel), List.mem_of_getElem? (i := 1158) (by decide +kernel), List.mem_of_getElem? (i := 1159) (by decide +kernel)⟩
theorem lw_p47 : lw_okq (⟨"SpoonRaceModel", "dropping", "(IIIII)J"⟩, 19) := ⟨⟨by decide +kernel, by decide +kernel⟩, List.mem_of_getElem? (i := 876) (by decide +kernel), List.mem_of_getElem? (i := 1166) (by decide +kernel), List.mem_of_getElem? (i := 1167) (by decide +kernel)⟩
def lw_privs_3 : List (MethodName × Nat) := [(⟨"SpoonRaceModel", "isHome", "(I)Z"⟩, 19), (⟨"SpoonRaceModel", "oddsNow", "(I)I"⟩, 19), (⟨"SpoonRaceModel", "nervesOf", "(I)I"⟩, 19), (⟨"SpoonRaceModel", "runsNext", "()I"⟩, 19), (⟨"SpoonRaceModel", "orNone", "(I)I"⟩, 19), (⟨"SpoonRaceModel", "stepsGo", "(I)I"⟩, 19), (⟨"SpoonRaceModel", "step", "(I)I"⟩, 19), (⟨"SpoonRaceModel", "draw", "()I"⟩, 19), (⟨"SpoonRaceModel", "home", "()I"⟩, 19), (⟨"SpoonRaceModel", "starts", "()V"⟩, 19), (⟨"SpoonRaceModel", "allGoHome", "()V"⟩, 19), (⟨"SpoonRaceModel", "firstHome", "()I"⟩, 19), (⟨"SpoonRaceModel", "isAhead", "(II)Z"⟩, 19), (⟨"SpoonRaceModel", "isStretch", "(IIII)Z"⟩, 19), (⟨"SpoonRaceModel", "oddsAt", "(IIZ)I"⟩, 19), (⟨"SpoonRaceModel", "dropping", "(IIIII)J"⟩, 19)]
theorem lw_r3 : ∀ q ∈ lw_privs_3, lw_okq q := List.forall_mem_cons.mpr ⟨lw_p32, List.forall_mem_cons.mpr ⟨lw_p33, List.forall_mem_cons.mpr ⟨lw_p34, List.forall_mem_cons.mpr ⟨lw_p35, List.forall_mem_cons.mpr ⟨lw_p36, List.forall_mem_cons.mpr ⟨lw_p37, List.forall_mem_cons.mpr ⟨lw_p38, List.forall_mem_cons.mpr ⟨lw_p39, List.forall_mem_cons.mpr ⟨lw_p40, List.forall_mem_cons.mpr ⟨lw_p41, List.forall_mem_cons.mpr ⟨lw_p42, List.forall_mem_cons.mpr ⟨lw_p43, List.forall_mem_cons.mpr ⟨lw_p44, List.forall_mem_cons.mpr ⟨lw_p45, List.forall_mem_cons.mpr ⟨lw_p46, List.forall_mem_cons.mpr ⟨lw_p47, fun _ h => absurd h List.not_mem_nil⟩⟩⟩⟩⟩⟩⟩⟩⟩⟩⟩⟩⟩⟩⟩⟩
theorem lw_p48 : lw_okq (⟨"SpoonRaceModel", "isMean", "(IIII)Z"⟩, 19) := ⟨⟨by decide +kernel, by decide +kernel⟩, List.mem_of_getElem? (i := 876) (by decide +kernel), List.mem_of_getElem? (i := 1174) (by decide +kernel), List.mem_of_getElem? (i := 1175) (by decide +kernel)⟩
theorem lw_p49 : lw_okq (⟨"SpoonRaceModel", "means", "(IIZ)V"⟩, 19) := ⟨⟨by decide +kernel, by decide +kernel⟩, List.mem_of_getElem? (i := 876) (by decide +kernel), List.mem_of_getElem? (i := 1178) (by decide +kernel), List.mem_of_getElem? (i := 1179) (by decide +kernel)⟩
theorem lw_p50 : lw_okq (⟨"SpoonRaceModel", "behind", "(IIII)I"⟩, 19) := ⟨⟨by decide +kernel, by decide +kernel⟩, List.mem_of_getElem? (i := 876) (by decide +kernel), List.mem_of_getElem? (i := 1182) (by decide +kernel), List.mem_of_getElem? (i := 1183) (by decide +kernel)⟩
theorem lw_p51 : lw_okq (⟨"SpoonRaceModel", "meanOf", "(I)I"⟩, 19) := ⟨⟨by decide +kernel, by decide +kernel⟩, List.mem_of_getElem? (i := 876) (by decide +kernel), List.mem_of_getElem? (i := 1202) (by decide +kernel), List.mem_of_getElem? (i := 1203) (by decide +kernel)⟩
theorem lw_p52 : lw_okq (⟨"SpoonRaceModel", "isTeam", "(I)Z"⟩, 19) := ⟨⟨by decide +kernel, by decide +kernel⟩, List.mem_of_getElem? (i := 876) (by decide +kernel), List.mem_of_getElem? (i := 1231) (by decide +kernel), List.mem_of_getElem? (i := 1232) (by decide +kernel)⟩
theorem lw_p53 : lw_okq (⟨"SpoonRaceModel", "bestTeam", "(I)I"⟩, 19) := ⟨⟨by decide +kernel, by decide +kernel⟩, List.mem_of_getElem? (i := 876) (by decide +kernel), List.mem_of_getElem? (i := 1235) (by decide +kernel), List.mem_of_getElem? (i := 1236) (by decide +kernel)⟩
theorem lw_p54 : lw_okq (⟨"SpoonRaceModel", "droppingAs", "(IIIII)J"⟩, 19) := ⟨⟨by decide +kernel, by decide +kernel⟩, List.mem_of_getElem? (i := 876) (by decide +kernel), List.mem_of_getElem? (i := 1248) (by decide +kernel), List.mem_of_getElem? (i := 1249) (by decide +kernel)⟩
theorem lw_p55 : lw_okq (⟨"SpoonRaceModel", "grass", "()I"⟩, 19) := ⟨⟨by decide +kernel, by decide +kernel⟩, List.mem_of_getElem? (i := 876) (by decide +kernel), List.mem_of_getElem? (i := 1261) (by decide +kernel), List.mem_of_getElem? (i := 1262) (by decide +kernel)⟩
theorem lw_p56 : lw_okq (⟨"SpoonRaceModel", "token", "()V"⟩, 19) := ⟨⟨by decide +kernel, by decide +kernel⟩, List.mem_of_getElem? (i := 876) (by decide +kernel), List.mem_of_getElem? (i := 1281) (by decide +kernel), List.mem_of_getElem? (i := 1282) (by decide +kernel)⟩
theorem lw_p57 : lw_okq (⟨"SpoonRaceModel", "isByte", "(III)Z"⟩, 19) := ⟨⟨by decide +kernel, by decide +kernel⟩, List.mem_of_getElem? (i := 876) (by decide +kernel), List.mem_of_getElem? (i := 1285) (by decide +kernel), List.mem_of_getElem? (i := 1286) (by decide +kernel)⟩
theorem lw_p58 : lw_okq (⟨"SpoonRaceModel", "item", "()V"⟩, 19) := ⟨⟨by decide +kernel, by decide +kernel⟩, List.mem_of_getElem? (i := 876) (by decide +kernel), List.mem_of_getElem? (i := 1289) (by decide +kernel), List.mem_of_getElem? (i := 1290) (by decide +kernel)⟩
theorem lw_p59 : lw_okq (⟨"SpoonRaceModel", "groundHere", "()I"⟩, 19) := ⟨⟨by decide +kernel, by decide +kernel⟩, List.mem_of_getElem? (i := 876) (by decide +kernel), List.mem_of_getElem? (i := 1293) (by decide +kernel), List.mem_of_getElem? (i := 1294) (by decide +kernel)⟩
theorem lw_p60 : lw_okq (⟨"SpoonRaceModel", "isWord", "(Ljava/lang/String;)Z"⟩, 19) := ⟨⟨by decide +kernel, by decide +kernel⟩, List.mem_of_getElem? (i := 876) (by decide +kernel), List.mem_of_getElem? (i := 1298) (by decide +kernel), List.mem_of_getElem? (i := 1299) (by decide +kernel)⟩
theorem lw_p61 : lw_okq (⟨"SpoonRaceModel", "groundItem", "(I)V"⟩, 19) := ⟨⟨by decide +kernel, by decide +kernel⟩, List.mem_of_getElem? (i := 876) (by decide +kernel), List.mem_of_getElem? (i := 1308) (by decide +kernel), List.mem_of_getElem? (i := 1309) (by decide +kernel)⟩
theorem lw_p62 : lw_okq (⟨"SpoonRaceModel", "number", "(II)I"⟩, 19) := ⟨⟨by decide +kernel, by decide +kernel⟩, List.mem_of_getElem? (i := 876) (by decide +kernel), List.mem_of_getElem? (i := 1312) (by decide +kernel), List.mem_of_getElem? (i := 1313) (by decide +kernel)⟩
theorem lw_p63 : lw_okq (⟨"SpoonRaceModel", "takes", "(Ljava/lang/String;)Z"⟩, 19) := ⟨⟨by decide +kernel, by decide +kernel⟩, List.mem_of_getElem? (i := 876) (by decide +kernel), List.mem_of_getElem? (i := 1317) (by decide +kernel), List.mem_of_getElem? (i := 1318) (by decide +kernel)⟩
def lw_privs_4 : List (MethodName × Nat) := [(⟨"SpoonRaceModel", "isMean", "(IIII)Z"⟩, 19), (⟨"SpoonRaceModel", "means", "(IIZ)V"⟩, 19), (⟨"SpoonRaceModel", "behind", "(IIII)I"⟩, 19), (⟨"SpoonRaceModel", "meanOf", "(I)I"⟩, 19), (⟨"SpoonRaceModel", "isTeam", "(I)Z"⟩, 19), (⟨"SpoonRaceModel", "bestTeam", "(I)I"⟩, 19), (⟨"SpoonRaceModel", "droppingAs", "(IIIII)J"⟩, 19), (⟨"SpoonRaceModel", "grass", "()I"⟩, 19), (⟨"SpoonRaceModel", "token", "()V"⟩, 19), (⟨"SpoonRaceModel", "isByte", "(III)Z"⟩, 19), (⟨"SpoonRaceModel", "item", "()V"⟩, 19), (⟨"SpoonRaceModel", "groundHere", "()I"⟩, 19), (⟨"SpoonRaceModel", "isWord", "(Ljava/lang/String;)Z"⟩, 19), (⟨"SpoonRaceModel", "groundItem", "(I)V"⟩, 19), (⟨"SpoonRaceModel", "number", "(II)I"⟩, 19), (⟨"SpoonRaceModel", "takes", "(Ljava/lang/String;)Z"⟩, 19)]
theorem lw_r4 : ∀ q ∈ lw_privs_4, lw_okq q := List.forall_mem_cons.mpr ⟨lw_p48, List.forall_mem_cons.mpr ⟨lw_p49, List.forall_mem_cons.mpr ⟨lw_p50, List.forall_mem_cons.mpr ⟨lw_p51, List.forall_mem_cons.mpr ⟨lw_p52, List.forall_mem_cons.mpr ⟨lw_p53, List.forall_mem_cons.mpr ⟨lw_p54, List.forall_mem_cons.mpr ⟨lw_p55, List.forall_mem_cons.mpr ⟨lw_p56, List.forall_mem_cons.mpr ⟨lw_p57, List.forall_mem_cons.mpr ⟨lw_p58, List.forall_mem_cons.mpr ⟨lw_p59, List.forall_mem_cons.mpr ⟨lw_p60, List.forall_mem_cons.mpr ⟨lw_p61, List.forall_mem_cons.mpr ⟨lw_p62, List.forall_mem_cons.mpr ⟨lw_p63, fun _ h => absurd h List.not_mem_nil⟩⟩⟩⟩⟩⟩⟩⟩⟩⟩⟩⟩⟩⟩⟩⟩
theorem lw_p64 : lw_okq (⟨"SpoonRaceModel", "kindHere", "()I"⟩, 19) := ⟨⟨by decide +kernel, by decide +kernel⟩, List.mem_of_getElem? (i := 876) (by decide +kernel), List.mem_of_getElem? (i := 1322) (by decide +kernel), List.mem_of_getElem? (i := 1323) (by decide +kernel)⟩
theorem lw_p65 : lw_okq (⟨"SpoonRaceModel", "runnerItem", "(I)V"⟩, 19) := ⟨⟨by decide +kernel, by decide +kernel⟩, List.mem_of_getElem? (i := 876) (by decide +kernel), List.mem_of_getElem? (i := 1333) (by decide +kernel), List.mem_of_getElem? (i := 1334) (by decide +kernel)⟩
theorem lw_p66 : lw_okq (⟨"SpoonRaceModel", "isSign", "(I)Z"⟩, 19) := ⟨⟨by decide +kernel, by decide +kernel⟩, List.mem_of_getElem? (i := 876) (by decide +kernel), List.mem_of_getElem? (i := 1340) (by decide +kernel), List.mem_of_getElem? (i := 1341) (by decide +kernel)⟩
theorem lw_p67 : lw_okq (⟨"SpoonRaceModel", "allDrops", "()I"⟩, 19) := ⟨⟨by decide +kernel, by decide +kernel⟩, List.mem_of_getElem? (i := 876) (by decide +kernel), List.mem_of_getElem? (i := 1397) (by decide +kernel), List.mem_of_getElem? (i := 1398) (by decide +kernel)⟩
theorem lw_p68 : lw_okq (⟨"SpoonRaceModel", "holding", "()I"⟩, 19) := ⟨⟨by decide +kernel, by decide +kernel⟩, List.mem_of_getElem? (i := 876) (by decide +kernel), List.mem_of_getElem? (i := 1401) (by decide +kernel), List.mem_of_getElem? (i := 1402) (by decide +kernel)⟩
def lw_privs_5 : List (MethodName × Nat) := [(⟨"SpoonRaceModel", "kindHere", "()I"⟩, 19), (⟨"SpoonRaceModel", "runnerItem", "(I)V"⟩, 19), (⟨"SpoonRaceModel", "isSign", "(I)Z"⟩, 19), (⟨"SpoonRaceModel", "allDrops", "()I"⟩, 19), (⟨"SpoonRaceModel", "holding", "()I"⟩, 19)]
theorem lw_r5 : ∀ q ∈ lw_privs_5, lw_okq q := List.forall_mem_cons.mpr ⟨lw_p64, List.forall_mem_cons.mpr ⟨lw_p65, List.forall_mem_cons.mpr ⟨lw_p66, List.forall_mem_cons.mpr ⟨lw_p67, List.forall_mem_cons.mpr ⟨lw_p68, fun _ h => absurd h List.not_mem_nil⟩⟩⟩⟩⟩
def lw_privs : List (MethodName × Nat) := lw_privs_1 ++ (lw_privs_2 ++ (lw_privs_3 ++ (lw_privs_4 ++ (lw_privs_5))))
def lw_tbl : List Cond := k2_sels lw_privs ++ tables_1
theorem lw_privs_ok : ∀ q ∈ lw_privs, lw_okq q := by
  show ∀ q ∈ lw_privs_1 ++ (lw_privs_2 ++ (lw_privs_3 ++ (lw_privs_4 ++ (lw_privs_5)))), lw_okq q
  exact List.forall_mem_append.mpr ⟨lw_r1, List.forall_mem_append.mpr ⟨lw_r2, List.forall_mem_append.mpr ⟨lw_r3, List.forall_mem_append.mpr ⟨lw_r4, lw_r5⟩⟩⟩⟩
end
section
/-! ===== BEGIN words of one list among another's, by their places ===== -/
theorem goodIn_r {big : List Cond} (ws : List Cond) (ps : List Nat) (hp : ws = ps.filterMap (fun i => big[i]?)) (h : ws.all goodWord = true) : GoodIn big ws := by
  intro w hw
  have h1 := List.all_eq_true.mp h w hw
  rw [hp] at hw
  obtain ⟨i, -, hi⟩ := List.mem_filterMap.mp hw
  have hm : w ∈ big := by first | exact List.mem_of_getElem? hi | exact List.getElem?_mem hi
  exact ⟨hm, good_of_word h1⟩
theorem goodIn_app {big a b : List Cond} (ha : GoodIn big a) (hb : GoodIn big b) : GoodIn big (a ++ b) := fun w h => (List.mem_append.mp h).elim (ha w) (hb w)
theorem goodIn_ca {big a b : List Cond} {c : Cond} (ha : GoodIn big (c :: a)) (hb : GoodIn big b) : GoodIn big (c :: (a ++ b)) := fun w h => (List.mem_cons.mp h).elim (fun e => ha w (List.mem_cons.mpr (Or.inl e))) (fun h => (List.mem_append.mp h).elim (fun h => ha w (List.mem_cons.mpr (Or.inr h))) (hb w))
theorem goodIn_sub {big ws : List Cond} (hm : ∀ w ∈ ws, w ∈ big) (h : ws.all goodWord = true) : GoodIn big ws := fun w hw => ⟨hm w hw, good_of_word (List.all_eq_true.mp h w hw)⟩
/-! ===== END ===== -/

/-! ===== BEGIN printed: names, fields, word lists, decode rows ===== -/
def RX0 : String := "SpoonRace$Chances"
def TX0 : u_T := fun k => match k with
  | 0 => ("SpoonRace$Chances", "parts", "[J", true)
  | _ => ("SpoonRace$Chances", "ahead", "[J", true)
def tyX0 : Nat → FieldType := fun k => match k with
  | 0 => .array .long
  | _ => .array .long
abbrev wsX00 : List Cond := u_ws RX0 TX0 2
theorem nmX0 : ∀ a, a < 2 → ∀ b, b < 2 → a ≠ b → (TX0 a).2.1 ≠ (TX0 b).2.1 := by decide +kernel
theorem tyX0_ok : ∀ k, k < 2 → parseFieldDescriptor (TX0 k).2.2.1 = some (tyX0 k) := by decide +kernel
abbrev cX0_init : ByteArray := prog_2_method_1_code
def yX0_init : MethodName := ⟨RX0, "<init>", "()V"⟩
abbrev cX0_ofDrops : ByteArray := prog_2_method_2_code
def yX0_ofDrops : MethodName := ⟨RX0, "ofDrops", "(LSpoonRace$Meet;IIII)J"⟩
abbrev cX0_spread : ByteArray := prog_2_method_3_code
def yX0_spread : MethodName := ⟨RX0, "spread", "(III)V"⟩
def RX1 : String := "SpoonRace$Means"
def TX1 : u_T := fun k => match k with
  | 0 => ("SpoonRace$Means", "behind", "[I", true)
  | 1 => ("SpoonRace$Means", "here", "[I", true)
  | _ => ("SpoonRace$Means", "chosen", "[I", true)
def tyX1 : Nat → FieldType := fun k => match k with
  | 0 => .array .int
  | 1 => .array .int
  | _ => .array .int
abbrev wsX10 : List Cond := u_ws RX1 TX1 3
theorem nmX1 : ∀ a, a < 3 → ∀ b, b < 3 → a ≠ b → (TX1 a).2.1 ≠ (TX1 b).2.1 := by decide +kernel
theorem tyX1_ok : ∀ k, k < 3 → parseFieldDescriptor (TX1 k).2.2.1 = some (tyX1 k) := by decide +kernel
abbrev cX1_init : ByteArray := prog_3_method_1_code
def yX1_init : MethodName := ⟨RX1, "<init>", "()V"⟩
abbrev cX1_atPaces : ByteArray := prog_3_method_2_code
def yX1_atPaces : MethodName := ⟨RX1, "atPaces", "(LSpoonRace$Meet;IIII)I"⟩
abbrev cX1_atBest : ByteArray := prog_3_method_3_code
def yX1_atBest : MethodName := ⟨RX1, "atBest", "(LSpoonRace$Meet;III)I"⟩
abbrev cX1_chosenPace : ByteArray := prog_3_method_4_code
def yX1_chosenPace : MethodName := ⟨RX1, "chosenPace", "(II)I"⟩
abbrev cX1_bestPace : ByteArray := prog_3_method_5_code
def yX1_bestPace : MethodName := ⟨RX1, "bestPace", "(LSpoonRace$Meet;LSpoonRace$Runner;II)I"⟩
abbrev cX1_through : ByteArray := prog_3_method_6_code
def yX1_through : MethodName := ⟨RX1, "through", "(LSpoonRace$Meet;LSpoonRace$Runner;III)I"⟩
abbrev cX1_goBack : ByteArray := prog_3_method_7_code
def yX1_goBack : MethodName := ⟨RX1, "goBack", "()V"⟩
def RX2 : String := "SpoonRace$Meet"
def TX2 : u_T := fun k => match k with
  | 0 => ("SpoonRace$Meet", "grounds", "[I", true)
  | 1 => ("SpoonRace$Meet", "runners", "[LSpoonRace$Runner;", true)
  | 2 => ("SpoonRace$Meet", "spots", "[I", true)
  | 3 => ("SpoonRace$Meet", "size", "I", false)
  | 4 => ("SpoonRace$Meet", "pickTenths", "I", false)
  | _ => ("SpoonRace$Meet", "z", "I", false)
def tyX2 : Nat → FieldType := fun k => match k with
  | 0 => .array .int
  | 1 => .array (.object "SpoonRace$Runner")
  | 2 => .array .int
  | 3 => .int
  | 4 => .int
  | _ => .int
abbrev wsX20 : List Cond := u_ws RX2 TX2 6
theorem nmX2 : ∀ a, a < 6 → ∀ b, b < 6 → a ≠ b → (TX2 a).2.1 ≠ (TX2 b).2.1 := by decide +kernel
theorem tyX2_ok : ∀ k, k < 6 → parseFieldDescriptor (TX2 k).2.2.1 = some (tyX2 k) := by decide +kernel
abbrev cX2_init : ByteArray := prog_4_method_1_code
def yX2_init : MethodName := ⟨RX2, "<init>", "()V"⟩
abbrev cX2_become : ByteArray := prog_4_method_2_code
def yX2_become : MethodName := ⟨RX2, "become", "(LSpoonRace$Meet;)V"⟩
abbrev cX2_add : ByteArray := prog_4_method_3_code
def yX2_add : MethodName := ⟨RX2, "add", "(III)I"⟩
abbrev cX2_draw : ByteArray := prog_4_method_4_code
def yX2_draw : MethodName := ⟨RX2, "draw", "()I"⟩
abbrev cX2_nervesOf : ByteArray := prog_4_method_5_code
def yX2_nervesOf : MethodName := ⟨RX2, "nervesOf", "(I)I"⟩
abbrev cX2_oddsOf : ByteArray := prog_4_method_6_code
def yX2_oddsOf : MethodName := ⟨RX2, "oddsOf", "(LSpoonRace$Runner;IIII)I"⟩
abbrev cX2_oddsInStep : ByteArray := prog_4_method_7_code
def yX2_oddsInStep : MethodName := ⟨RX2, "oddsInStep", "(I)I"⟩
abbrev cX2_whoRuns : ByteArray := prog_4_method_8_code
def yX2_whoRuns : MethodName := ⟨RX2, "whoRuns", "()I"⟩
abbrev cX2_step : ByteArray := prog_4_method_9_code
def yX2_step : MethodName := ⟨RX2, "step", "(I)I"⟩
abbrev cX2_go : ByteArray := prog_4_method_10_code
def yX2_go : MethodName := ⟨RX2, "go", "(I)I"⟩
abbrev cX2_restart : ByteArray := prog_4_method_11_code
def yX2_restart : MethodName := ⟨RX2, "restart", "()I"⟩
abbrev cX2_homeSet : ByteArray := prog_4_method_12_code
def yX2_homeSet : MethodName := ⟨RX2, "homeSet", "()I"⟩
abbrev cX2_leastInTime : ByteArray := prog_4_method_13_code
def yX2_leastInTime : MethodName := ⟨RX2, "leastInTime", "()I"⟩
abbrev cX2_placeOf : ByteArray := prog_4_method_14_code
def yX2_placeOf : MethodName := ⟨RX2, "placeOf", "(I)I"⟩
abbrev cX2_countDrops : ByteArray := prog_4_method_15_code
def yX2_countDrops : MethodName := ⟨RX2, "countDrops", "()I"⟩
abbrev cX2_countGrass : ByteArray := prog_4_method_16_code
def yX2_countGrass : MethodName := ⟨RX2, "countGrass", "()I"⟩
abbrev cX2_countHolding : ByteArray := prog_4_method_17_code
def yX2_countHolding : MethodName := ⟨RX2, "countHolding", "()I"⟩
def RX3 : String := "SpoonRace$Reader"
def TX3 : u_T := fun k => match k with
  | _ => ("SpoonRace$Reader", "tape", "LSpoonRace$Tape;", true)
def tyX3 : Nat → FieldType := fun k => match k with
  | _ => .object "SpoonRace$Tape"
abbrev wsX30 : List Cond := u_ws RX3 TX3 1
theorem nmX3 : ∀ a, a < 1 → ∀ b, b < 1 → a ≠ b → (TX3 a).2.1 ≠ (TX3 b).2.1 := by decide +kernel
theorem tyX3_ok : ∀ k, k < 1 → parseFieldDescriptor (TX3 k).2.2.1 = some (tyX3 k) := by decide +kernel
abbrev cX3_init : ByteArray := prog_5_method_1_code
def yX3_init : MethodName := ⟨RX3, "<init>", "()V"⟩
abbrev cX3_readInto : ByteArray := prog_5_method_2_code
def yX3_readInto : MethodName := ⟨RX3, "readInto", "(LSpoonRace$Meet;)I"⟩
abbrev cX3_readItem : ByteArray := prog_5_method_3_code
def yX3_readItem : MethodName := ⟨RX3, "readItem", "(LSpoonRace$Meet;)Z"⟩
abbrev cX3_readGround : ByteArray := prog_5_method_4_code
def yX3_readGround : MethodName := ⟨RX3, "readGround", "(LSpoonRace$Meet;I)Z"⟩
abbrev cX3_readPick : ByteArray := prog_5_method_5_code
def yX3_readPick : MethodName := ⟨RX3, "readPick", "(LSpoonRace$Meet;)Z"⟩
abbrev cX3_readRunner : ByteArray := prog_5_method_6_code
def yX3_readRunner : MethodName := ⟨RX3, "readRunner", "(LSpoonRace$Meet;I)Z"⟩
abbrev cX3_perhaps : ByteArray := prog_5_method_7_code
def yX3_perhaps : MethodName := ⟨RX3, "perhaps", "(Ljava/lang/String;III)I"⟩
abbrev cX3_numberBehind : ByteArray := prog_5_method_8_code
def yX3_numberBehind : MethodName := ⟨RX3, "numberBehind", "(II)I"⟩
abbrev cX3_groundTold : ByteArray := prog_5_method_9_code
def yX3_groundTold : MethodName := ⟨RX3, "groundTold", "()I"⟩
abbrev cX3_kindTold : ByteArray := prog_5_method_10_code
def yX3_kindTold : MethodName := ⟨RX3, "kindTold", "()I"⟩
def RX4 : String := "SpoonRace$Runner"
def TX4 : u_T := fun k => match k with
  | 0 => ("SpoonRace$Runner", "paces", "[I", true)
  | 1 => ("SpoonRace$Runner", "kind", "I", false)
  | 2 => ("SpoonRace$Runner", "arm", "I", false)
  | 3 => ("SpoonRace$Runner", "spoon", "I", false)
  | 4 => ("SpoonRace$Runner", "yard", "I", false)
  | 5 => ("SpoonRace$Runner", "time", "I", false)
  | 6 => ("SpoonRace$Runner", "shaken", "I", false)
  | _ => ("SpoonRace$Runner", "dropped", "I", false)
def tyX4 : Nat → FieldType := fun k => match k with
  | 0 => .array .int
  | 1 => .int
  | 2 => .int
  | 3 => .int
  | 4 => .int
  | 5 => .int
  | 6 => .int
  | _ => .int
abbrev wsX40 : List Cond := u_ws RX4 TX4 8
theorem nmX4 : ∀ a, a < 8 → ∀ b, b < 8 → a ≠ b → (TX4 a).2.1 ≠ (TX4 b).2.1 := by decide +kernel
theorem tyX4_ok : ∀ k, k < 8 → parseFieldDescriptor (TX4 k).2.2.1 = some (tyX4 k) := by decide +kernel
abbrev cX4_init : ByteArray := prog_6_method_1_code
def yX4_init : MethodName := ⟨RX4, "<init>", "()V"⟩
abbrev cX4_become : ByteArray := prog_6_method_2_code
def yX4_become : MethodName := ⟨RX4, "become", "(LSpoonRace$Runner;)V"⟩
abbrev cX4_beNew : ByteArray := prog_6_method_3_code
def yX4_beNew : MethodName := ⟨RX4, "beNew", "(III)V"⟩
abbrev cX4_restart : ByteArray := prog_6_method_4_code
def yX4_restart : MethodName := ⟨RX4, "restart", "()V"⟩
abbrev cX4_isHome : ByteArray := prog_6_method_5_code
def yX4_isHome : MethodName := ⟨RX4, "isHome", "()Z"⟩
abbrev cX4_isOfKind : ByteArray := prog_6_method_6_code
def yX4_isOfKind : MethodName := ⟨RX4, "isOfKind", "(I)Z"⟩
abbrev cX4_takes : ByteArray := prog_6_method_7_code
def yX4_takes : MethodName := ⟨RX4, "takes", "(I)I"⟩
abbrev cX4_rocks : ByteArray := prog_6_method_8_code
def yX4_rocks : MethodName := ⟨RX4, "rocks", "(I)I"⟩
abbrev cX4_hurts : ByteArray := prog_6_method_9_code
def yX4_hurts : MethodName := ⟨RX4, "hurts", "(I)I"⟩
abbrev cX4_holds : ByteArray := prog_6_method_10_code
def yX4_holds : MethodName := ⟨RX4, "holds", "()I"⟩
abbrev cX4_tell : ByteArray := prog_6_method_11_code
def yX4_tell : MethodName := ⟨RX4, "tell", "(I)I"⟩
abbrev cX4_put : ByteArray := prog_6_method_12_code
def yX4_put : MethodName := ⟨RX4, "put", "(II)V"⟩
abbrev cX4_mostOf : ByteArray := prog_6_method_13_code
def yX4_mostOf : MethodName := ⟨RX4, "mostOf", "(I)I"⟩
def RX5 : String := "SpoonRace$Sheet"
def TX5 : u_T := fun k => match k with
  | 0 => ("SpoonRace$Sheet", "numbers", "[I", true)
  | 1 => ("SpoonRace$Sheet", "bits", "I", false)
  | _ => ("SpoonRace$Sheet", "size", "I", false)
def tyX5 : Nat → FieldType := fun k => match k with
  | 0 => .array .int
  | 1 => .int
  | _ => .int
abbrev wsX50 : List Cond := u_ws RX5 TX5 3
theorem nmX5 : ∀ a, a < 3 → ∀ b, b < 3 → a ≠ b → (TX5 a).2.1 ≠ (TX5 b).2.1 := by decide +kernel
theorem tyX5_ok : ∀ k, k < 3 → parseFieldDescriptor (TX5 k).2.2.1 = some (tyX5 k) := by decide +kernel
abbrev cX5_init : ByteArray := prog_7_method_1_code
def yX5_init : MethodName := ⟨RX5, "<init>", "()V"⟩
abbrev cX5_isMissing : ByteArray := prog_7_method_2_code
def yX5_isMissing : MethodName := ⟨RX5, "isMissing", "()Z"⟩
abbrev cX5_lay : ByteArray := prog_7_method_3_code
def yX5_lay : MethodName := ⟨RX5, "lay", "(II)V"⟩
abbrev cX5_put : ByteArray := prog_7_method_4_code
def yX5_put : MethodName := ⟨RX5, "put", "(II)V"⟩
abbrev cX5_hasRow : ByteArray := prog_7_method_5_code
def yX5_hasRow : MethodName := ⟨RX5, "hasRow", "(II)Z"⟩
def RX6 : String := "SpoonRace$Tape"
def TX6 : u_T := fun k => match k with
  | 0 => ("SpoonRace$Tape", "bytes", "[I", true)
  | 1 => ("SpoonRace$Tape", "tokens", "[I", true)
  | 2 => ("SpoonRace$Tape", "size", "I", false)
  | 3 => ("SpoonRace$Tape", "token", "I", false)
  | 4 => ("SpoonRace$Tape", "begin", "I", false)
  | _ => ("SpoonRace$Tape", "end", "I", false)
def tyX6 : Nat → FieldType := fun k => match k with
  | 0 => .array .int
  | 1 => .array .int
  | 2 => .int
  | 3 => .int
  | 4 => .int
  | _ => .int
abbrev wsX60 : List Cond := u_ws RX6 TX6 6
theorem nmX6 : ∀ a, a < 6 → ∀ b, b < 6 → a ≠ b → (TX6 a).2.1 ≠ (TX6 b).2.1 := by decide +kernel
theorem tyX6_ok : ∀ k, k < 6 → parseFieldDescriptor (TX6 k).2.2.1 = some (tyX6 k) := by decide +kernel
abbrev cX6_init : ByteArray := prog_8_method_1_code
def yX6_init : MethodName := ⟨RX6, "<init>", "()V"⟩
abbrev cX6_put : ByteArray := prog_8_method_2_code
def yX6_put : MethodName := ⟨RX6, "put", "(I)V"⟩
abbrev cX6_tokenBegunBy : ByteArray := prog_8_method_3_code
def yX6_tokenBegunBy : MethodName := ⟨RX6, "tokenBegunBy", "(I)I"⟩
abbrev cX6_rewind : ByteArray := prog_8_method_4_code
def yX6_rewind : MethodName := ⟨RX6, "rewind", "()V"⟩
abbrev cX6_advance : ByteArray := prog_8_method_5_code
def yX6_advance : MethodName := ⟨RX6, "advance", "()V"⟩
abbrev cX6_value : ByteArray := prog_8_method_6_code
def yX6_value : MethodName := ⟨RX6, "value", "()I"⟩
abbrev cX6_isWord : ByteArray := prog_8_method_7_code
def yX6_isWord : MethodName := ⟨RX6, "isWord", "(Ljava/lang/String;)Z"⟩
def RX7 : String := "SpoonRace$Team"
def TX7 : u_T := fun k => match k with
  | 0 => ("SpoonRace$Team", "legs", "[I", true)
  | 1 => ("SpoonRace$Team", "legMeans", "[I", true)
  | _ => ("SpoonRace$Team", "least", "I", false)
def tyX7 : Nat → FieldType := fun k => match k with
  | 0 => .array .int
  | 1 => .array .int
  | _ => .int
abbrev wsX70 : List Cond := u_ws RX7 TX7 3
theorem nmX7 : ∀ a, a < 3 → ∀ b, b < 3 → a ≠ b → (TX7 a).2.1 ≠ (TX7 b).2.1 := by decide +kernel
theorem tyX7_ok : ∀ k, k < 3 → parseFieldDescriptor (TX7 k).2.2.1 = some (tyX7 k) := by decide +kernel
abbrev cX7_init : ByteArray := prog_9_method_1_code
def yX7_init : MethodName := ⟨RX7, "<init>", "()V"⟩
abbrev cX7_choose : ByteArray := prog_9_method_2_code
def yX7_choose : MethodName := ⟨RX7, "choose", "(LSpoonRace$Meet;LSpoonRace$Means;I)I"⟩
abbrev cX7_areUnlikeOf : ByteArray := prog_9_method_3_code
def yX7_areUnlikeOf : MethodName := ⟨RX7, "areUnlikeOf", "(IIII)Z"⟩
abbrev cX7_weigh : ByteArray := prog_9_method_4_code
def yX7_weigh : MethodName := ⟨RX7, "weigh", "(III)V"⟩
def RX8 : String := "SpoonRace"
def TX8 : u_T := fun k => match k with
  | 0 => ("SpoonRace", "findings", "[I", true)
  | 1 => ("SpoonRace", "meet", "LSpoonRace$Meet;", true)
  | 2 => ("SpoonRace", "kept", "LSpoonRace$Meet;", true)
  | 3 => ("SpoonRace", "trial", "LSpoonRace$Meet;", true)
  | 4 => ("SpoonRace", "means", "LSpoonRace$Means;", true)
  | 5 => ("SpoonRace", "chances", "LSpoonRace$Chances;", true)
  | 6 => ("SpoonRace", "quickest", "LSpoonRace$Team;", true)
  | 7 => ("SpoonRace", "reader", "LSpoonRace$Reader;", true)
  | 8 => ("SpoonRace", "tape", "LSpoonRace$Tape;", true)
  | 9 => ("SpoonRace", "sheets", "[LSpoonRace$Sheet;", true)
  | _ => ("SpoonRace", "isKept", "Z", false)
def tyX8 : Nat → FieldType := fun k => match k with
  | 0 => .array .int
  | 1 => .object "SpoonRace$Meet"
  | 2 => .object "SpoonRace$Meet"
  | 3 => .object "SpoonRace$Meet"
  | 4 => .object "SpoonRace$Means"
  | 5 => .object "SpoonRace$Chances"
  | 6 => .object "SpoonRace$Team"
  | 7 => .object "SpoonRace$Reader"
  | 8 => .object "SpoonRace$Tape"
  | 9 => .array (.object "SpoonRace$Sheet")
  | _ => .boolean
abbrev wsX80 : List Cond := u_ws RX8 TX8 11
theorem nmX8 : ∀ a, a < 11 → ∀ b, b < 11 → a ≠ b → (TX8 a).2.1 ≠ (TX8 b).2.1 := by decide +kernel
theorem tyX8_ok : ∀ k, k < 11 → parseFieldDescriptor (TX8 k).2.2.1 = some (tyX8 k) := by decide +kernel
abbrev cX8_init : ByteArray := prog_1_method_1_code
def yX8_init : MethodName := ⟨RX8, "<init>", "()V"⟩
abbrev cX8_ground : ByteArray := prog_1_method_2_code
def yX8_ground : MethodName := ⟨RX8, "ground", "(II)I"⟩
abbrev cX8_pick : ByteArray := prog_1_method_3_code
def yX8_pick : MethodName := ⟨RX8, "pick", "(I)I"⟩
abbrev cX8_runner : ByteArray := prog_1_method_4_code
def yX8_runner : MethodName := ⟨RX8, "runner", "(III)I"⟩
abbrev cX8_of : ByteArray := prog_1_method_5_code
def yX8_of : MethodName := ⟨RX8, "of", "(II)I"⟩
abbrev cX8_change : ByteArray := prog_1_method_6_code
def yX8_change : MethodName := ⟨RX8, "change", "(III)I"⟩
abbrev cX8_pace : ByteArray := prog_1_method_7_code
def yX8_pace : MethodName := ⟨RX8, "pace", "(IIII)I"⟩
abbrev cX8_paceOf : ByteArray := prog_1_method_8_code
def yX8_paceOf : MethodName := ⟨RX8, "paceOf", "(II)I"⟩
abbrev cX8_told : ByteArray := prog_1_method_9_code
def yX8_told : MethodName := ⟨RX8, "told", "(III)I"⟩
abbrev cX8_odds : ByteArray := prog_1_method_10_code
def yX8_odds : MethodName := ⟨RX8, "odds", "(IIII)I"⟩
abbrev cX8_now : ByteArray := prog_1_method_11_code
def yX8_now : MethodName := ⟨RX8, "now", "(I)I"⟩
abbrev cX8_nerves : ByteArray := prog_1_method_12_code
def yX8_nerves : MethodName := ⟨RX8, "nerves", "(I)I"⟩
abbrev cX8_next : ByteArray := prog_1_method_13_code
def yX8_next : MethodName := ⟨RX8, "next", "()I"⟩
abbrev cX8_steps : ByteArray := prog_1_method_14_code
def yX8_steps : MethodName := ⟨RX8, "steps", "(I)I"⟩
abbrev cX8_start : ByteArray := prog_1_method_15_code
def yX8_start : MethodName := ⟨RX8, "start", "()I"⟩
abbrev cX8_ahead : ByteArray := prog_1_method_16_code
def yX8_ahead : MethodName := ⟨RX8, "ahead", "(II)I"⟩
abbrev cX8_winner : ByteArray := prog_1_method_17_code
def yX8_winner : MethodName := ⟨RX8, "winner", "()I"⟩
abbrev cX8_place : ByteArray := prog_1_method_18_code
def yX8_place : MethodName := ⟨RX8, "place", "(I)I"⟩
abbrev cX8_wins : ByteArray := prog_1_method_19_code
def yX8_wins : MethodName := ⟨RX8, "wins", "(II)I"⟩
abbrev cX8_clean : ByteArray := prog_1_method_20_code
def yX8_clean : MethodName := ⟨RX8, "clean", "(III)J"⟩
abbrev cX8_drops : ByteArray := prog_1_method_21_code
def yX8_drops : MethodName := ⟨RX8, "drops", "(IIII)J"⟩
abbrev cX8_mean : ByteArray := prog_1_method_22_code
def yX8_mean : MethodName := ⟨RX8, "mean", "(III)I"⟩
abbrev cX8_least : ByteArray := prog_1_method_23_code
def yX8_least : MethodName := ⟨RX8, "least", "(III)I"⟩
abbrev cX8_best : ByteArray := prog_1_method_24_code
def yX8_best : MethodName := ⟨RX8, "best", "(III)I"⟩
abbrev cX8_train : ByteArray := prog_1_method_25_code
def yX8_train : MethodName := ⟨RX8, "train", "(I)I"⟩
abbrev cX8_even : ByteArray := prog_1_method_26_code
def yX8_even : MethodName := ⟨RX8, "even", "(I)I"⟩
abbrev cX8_costs : ByteArray := prog_1_method_27_code
def yX8_costs : MethodName := ⟨RX8, "costs", "(II)I"⟩
abbrev cX8_worst : ByteArray := prog_1_method_28_code
def yX8_worst : MethodName := ⟨RX8, "worst", "(I)I"⟩
abbrev cX8_spoon : ByteArray := prog_1_method_29_code
def yX8_spoon : MethodName := ⟨RX8, "spoon", "(I)I"⟩
abbrev cX8_armFor : ByteArray := prog_1_method_30_code
def yX8_armFor : MethodName := ⟨RX8, "armFor", "(II)I"⟩
abbrev cX8_later : ByteArray := prog_1_method_31_code
def yX8_later : MethodName := ⟨RX8, "later", "(I)I"⟩
abbrev cX8_team : ByteArray := prog_1_method_32_code
def yX8_team : MethodName := ⟨RX8, "team", "(I)I"⟩
abbrev cX8_leg : ByteArray := prog_1_method_33_code
def yX8_leg : MethodName := ⟨RX8, "leg", "(II)I"⟩
abbrev cX8_gum : ByteArray := prog_1_method_34_code
def yX8_gum : MethodName := ⟨RX8, "gum", "(IIIII)J"⟩
abbrev cX8_suspect : ByteArray := prog_1_method_35_code
def yX8_suspect : MethodName := ⟨RX8, "suspect", "(III)I"⟩
abbrev cX8_rain : ByteArray := prog_1_method_36_code
def yX8_rain : MethodName := ⟨RX8, "rain", "(I)I"⟩
abbrev cX8_seed : ByteArray := prog_1_method_37_code
def yX8_seed : MethodName := ⟨RX8, "seed", "(I)I"⟩
abbrev cX8_feed : ByteArray := prog_1_method_38_code
def yX8_feed : MethodName := ⟨RX8, "feed", "(II)I"⟩
abbrev cX8_wipe : ByteArray := prog_1_method_39_code
def yX8_wipe : MethodName := ⟨RX8, "wipe", "()I"⟩
abbrev cX8_text : ByteArray := prog_1_method_40_code
def yX8_text : MethodName := ⟨RX8, "text", "()I"⟩
abbrev cX8_hold : ByteArray := prog_1_method_41_code
def yX8_hold : MethodName := ⟨RX8, "hold", "(II)I"⟩
abbrev cX8_as : ByteArray := prog_1_method_42_code
def yX8_as : MethodName := ⟨RX8, "as", "(II)I"⟩
abbrev cX8_sheet : ByteArray := prog_1_method_43_code
def yX8_sheet : MethodName := ⟨RX8, "sheet", "(III)I"⟩
abbrev cX8_write : ByteArray := prog_1_method_44_code
def yX8_write : MethodName := ⟨RX8, "write", "(III)I"⟩
abbrev cX8_copy : ByteArray := prog_1_method_45_code
def yX8_copy : MethodName := ⟨RX8, "copy", "(IIIII)I"⟩
abbrev cX8_load : ByteArray := prog_1_method_46_code
def yX8_load : MethodName := ⟨RX8, "load", "(II)I"⟩
abbrev cX8_judge : ByteArray := prog_1_method_47_code
def yX8_judge : MethodName := ⟨RX8, "judge", "(I)I"⟩
abbrev cX8_image : ByteArray := prog_1_method_48_code
def yX8_image : MethodName := ⟨RX8, "image", "()I"⟩
abbrev cX8_undo : ByteArray := prog_1_method_49_code
def yX8_undo : MethodName := ⟨RX8, "undo", "()I"⟩
abbrev cX8_tear : ByteArray := prog_1_method_50_code
def yX8_tear : MethodName := ⟨RX8, "tear", "()I"⟩
abbrev cX8_count : ByteArray := prog_1_method_51_code
def yX8_count : MethodName := ⟨RX8, "count", "(I)I"⟩
abbrev cX8_status : ByteArray := prog_1_method_52_code
def yX8_status : MethodName := ⟨RX8, "status", "(I)I"⟩
abbrev cX8_found : ByteArray := prog_1_method_53_code
def yX8_found : MethodName := ⟨RX8, "found", "(I)I"⟩
abbrev cX8_within : ByteArray := prog_1_method_54_code
def yX8_within : MethodName := ⟨RX8, "within", "(III)Z"⟩
abbrev cX8_isYard : ByteArray := prog_1_method_55_code
def yX8_isYard : MethodName := ⟨RX8, "isYard", "(I)Z"⟩
abbrev cX8_isPace : ByteArray := prog_1_method_56_code
def yX8_isPace : MethodName := ⟨RX8, "isPace", "(I)Z"⟩
abbrev cX8_isSpot : ByteArray := prog_1_method_57_code
def yX8_isSpot : MethodName := ⟨RX8, "isSpot", "(I)Z"⟩
abbrev cX8_isSheet : ByteArray := prog_1_method_58_code
def yX8_isSheet : MethodName := ⟨RX8, "isSheet", "(I)Z"⟩
abbrev cX8_isRunner : ByteArray := prog_1_method_59_code
def yX8_isRunner : MethodName := ⟨RX8, "isRunner", "(I)Z"⟩
abbrev cX8_isStretch : ByteArray := prog_1_method_60_code
def yX8_isStretch : MethodName := ⟨RX8, "isStretch", "(III)Z"⟩
abbrev cX8_isTeamSet : ByteArray := prog_1_method_61_code
def yX8_isTeamSet : MethodName := ⟨RX8, "isTeamSet", "(I)Z"⟩
abbrev cX8_runAllHome : ByteArray := prog_1_method_62_code
def yX8_runAllHome : MethodName := ⟨RX8, "runAllHome", "()V"⟩
abbrev cX8_tryGum : ByteArray := prog_1_method_63_code
def yX8_tryGum : MethodName := ⟨RX8, "tryGum", "(I)V"⟩
abbrev cX8_wholeMean : ByteArray := prog_1_method_64_code
def yX8_wholeMean : MethodName := ⟨RX8, "wholeMean", "(LSpoonRace$Meet;I)I"⟩
def RX9 : String := "SpoonRaceModel"
def TX9 : u_T := fun k => match k with
  | 0 => ("SpoonRaceModel", "m", "[I", true)
  | 1 => ("SpoonRaceModel", "kept", "[I", true)
  | 2 => ("SpoonRaceModel", "was", "[I", true)
  | 3 => ("SpoonRaceModel", "isKept", "Z", false)
  | 4 => ("SpoonRaceModel", "found", "[I", true)
  | 5 => ("SpoonRaceModel", "mean", "[I", true)
  | 6 => ("SpoonRaceModel", "bestPace", "[I", true)
  | 7 => ("SpoonRaceModel", "legs", "[I", true)
  | 8 => ("SpoonRaceModel", "team", "[I", true)
  | 9 => ("SpoonRaceModel", "tape", "[I", true)
  | 10 => ("SpoonRaceModel", "taped", "I", false)
  | 11 => ("SpoonRaceModel", "sort", "I", false)
  | 12 => ("SpoonRaceModel", "from", "I", false)
  | 13 => ("SpoonRaceModel", "to", "I", false)
  | 14 => ("SpoonRaceModel", "value", "I", false)
  | 15 => ("SpoonRaceModel", "bad", "Z", false)
  | 16 => ("SpoonRaceModel", "bits", "[I", true)
  | 17 => ("SpoonRaceModel", "size", "[I", true)
  | _ => ("SpoonRaceModel", "number", "[I", true)
def tyX9 : Nat → FieldType := fun k => match k with
  | 0 => .array .int
  | 1 => .array .int
  | 2 => .array .int
  | 3 => .boolean
  | 4 => .array .int
  | 5 => .array .int
  | 6 => .array .int
  | 7 => .array .int
  | 8 => .array .int
  | 9 => .array .int
  | 10 => .int
  | 11 => .int
  | 12 => .int
  | 13 => .int
  | 14 => .int
  | 15 => .boolean
  | 16 => .array .int
  | 17 => .array .int
  | _ => .array .int
abbrev wsX90 : List Cond := u_ws RX9 TX9 19
theorem nmX9 : ∀ a, a < 19 → ∀ b, b < 19 → a ≠ b → (TX9 a).2.1 ≠ (TX9 b).2.1 := by decide +kernel
theorem tyX9_ok : ∀ k, k < 19 → parseFieldDescriptor (TX9 k).2.2.1 = some (tyX9 k) := by decide +kernel
abbrev cX9_init : ByteArray := prog_11_method_1_code
def yX9_init : MethodName := ⟨RX9, "<init>", "()V"⟩
abbrev cX9_finds : ByteArray := prog_11_method_2_code
def yX9_finds : MethodName := ⟨RX9, "finds", "(I)I"⟩
abbrev cX9_orNone : ByteArray := prog_11_method_3_code
def yX9_orNone : MethodName := ⟨RX9, "orNone", "(I)I"⟩
abbrev cX9_in : ByteArray := prog_11_method_4_code
def yX9_in : MethodName := ⟨RX9, "in", "(JJJ)Z"⟩
abbrev cX9_row : ByteArray := prog_11_method_5_code
def yX9_row : MethodName := ⟨RX9, "row", "([I[I)V"⟩
abbrev cX9_becomes : ByteArray := prog_11_method_6_code
def yX9_becomes : MethodName := ⟨RX9, "becomes", "(II)I"⟩
abbrev cX9_isYard : ByteArray := prog_11_method_7_code
def yX9_isYard : MethodName := ⟨RX9, "isYard", "(I)Z"⟩
abbrev cX9_isPace : ByteArray := prog_11_method_8_code
def yX9_isPace : MethodName := ⟨RX9, "isPace", "(I)Z"⟩
abbrev cX9_isKind : ByteArray := prog_11_method_9_code
def yX9_isKind : MethodName := ⟨RX9, "isKind", "(I)Z"⟩
abbrev cX9_isRunner : ByteArray := prog_11_method_10_code
def yX9_isRunner : MethodName := ⟨RX9, "isRunner", "(I)Z"⟩
abbrev cX9_is : ByteArray := prog_11_method_11_code
def yX9_is : MethodName := ⟨RX9, "is", "(II)I"⟩
abbrev cX9_makes : ByteArray := prog_11_method_12_code
def yX9_makes : MethodName := ⟨RX9, "makes", "(III)V"⟩
abbrev cX9_isHome : ByteArray := prog_11_method_13_code
def yX9_isHome : MethodName := ⟨RX9, "isHome", "(I)Z"⟩
abbrev cX9_ground : ByteArray := prog_11_method_14_code
def yX9_ground : MethodName := ⟨RX9, "ground", "(II)I"⟩
abbrev cX9_pick : ByteArray := prog_11_method_15_code
def yX9_pick : MethodName := ⟨RX9, "pick", "(I)I"⟩
abbrev cX9_comes : ByteArray := prog_11_method_16_code
def yX9_comes : MethodName := ⟨RX9, "comes", "(IIII)I"⟩
abbrev cX9_runner : ByteArray := prog_11_method_17_code
def yX9_runner : MethodName := ⟨RX9, "runner", "(III)I"⟩
abbrev cX9_holds : ByteArray := prog_11_method_18_code
def yX9_holds : MethodName := ⟨RX9, "holds", "(I)I"⟩
abbrev cX9_of : ByteArray := prog_11_method_19_code
def yX9_of : MethodName := ⟨RX9, "of", "(II)I"⟩
abbrev cX9_isPart : ByteArray := prog_11_method_20_code
def yX9_isPart : MethodName := ⟨RX9, "isPart", "(II)Z"⟩
abbrev cX9_change : ByteArray := prog_11_method_21_code
def yX9_change : MethodName := ⟨RX9, "change", "(III)I"⟩
abbrev cX9_pace : ByteArray := prog_11_method_22_code
def yX9_pace : MethodName := ⟨RX9, "pace", "(IIII)I"⟩
abbrev cX9_paceAt : ByteArray := prog_11_method_23_code
def yX9_paceAt : MethodName := ⟨RX9, "paceAt", "(II)I"⟩
abbrev cX9_paceOf : ByteArray := prog_11_method_24_code
def yX9_paceOf : MethodName := ⟨RX9, "paceOf", "(II)I"⟩
abbrev cX9_takes : ByteArray := prog_11_method_25_code
def yX9_takes : MethodName := ⟨RX9, "takes", "(II)I"⟩
abbrev cX9_rocks : ByteArray := prog_11_method_26_code
def yX9_rocks : MethodName := ⟨RX9, "rocks", "(II)I"⟩
abbrev cX9_hurts : ByteArray := prog_11_method_27_code
def yX9_hurts : MethodName := ⟨RX9, "hurts", "(II)I"⟩
abbrev cX9_oddsBy : ByteArray := prog_11_method_28_code
def yX9_oddsBy : MethodName := ⟨RX9, "oddsBy", "(IIIZI)I"⟩
abbrev cX9_told : ByteArray := prog_11_method_29_code
def yX9_told : MethodName := ⟨RX9, "told", "(III)I"⟩
abbrev cX9_odds : ByteArray := prog_11_method_30_code
def yX9_odds : MethodName := ⟨RX9, "odds", "(IIII)I"⟩
abbrev cX9_nervesOf : ByteArray := prog_11_method_31_code
def yX9_nervesOf : MethodName := ⟨RX9, "nervesOf", "(I)I"⟩
abbrev cX9_oddsNow : ByteArray := prog_11_method_32_code
def yX9_oddsNow : MethodName := ⟨RX9, "oddsNow", "(I)I"⟩
abbrev cX9_now : ByteArray := prog_11_method_33_code
def yX9_now : MethodName := ⟨RX9, "now", "(I)I"⟩
abbrev cX9_nerves : ByteArray := prog_11_method_34_code
def yX9_nerves : MethodName := ⟨RX9, "nerves", "(I)I"⟩
abbrev cX9_draw : ByteArray := prog_11_method_35_code
def yX9_draw : MethodName := ⟨RX9, "draw", "()I"⟩
abbrev cX9_runsNext : ByteArray := prog_11_method_36_code
def yX9_runsNext : MethodName := ⟨RX9, "runsNext", "()I"⟩
abbrev cX9_next : ByteArray := prog_11_method_37_code
def yX9_next : MethodName := ⟨RX9, "next", "()I"⟩
abbrev cX9_step : ByteArray := prog_11_method_38_code
def yX9_step : MethodName := ⟨RX9, "step", "(I)I"⟩
abbrev cX9_stepsGo : ByteArray := prog_11_method_39_code
def yX9_stepsGo : MethodName := ⟨RX9, "stepsGo", "(I)I"⟩
abbrev cX9_steps : ByteArray := prog_11_method_40_code
def yX9_steps : MethodName := ⟨RX9, "steps", "(I)I"⟩
abbrev cX9_home : ByteArray := prog_11_method_41_code
def yX9_home : MethodName := ⟨RX9, "home", "()I"⟩
abbrev cX9_many : ByteArray := prog_11_method_42_code
def yX9_many : MethodName := ⟨RX9, "many", "(I)I"⟩
abbrev cX9_starts : ByteArray := prog_11_method_43_code
def yX9_starts : MethodName := ⟨RX9, "starts", "()V"⟩
abbrev cX9_start : ByteArray := prog_11_method_44_code
def yX9_start : MethodName := ⟨RX9, "start", "()I"⟩
abbrev cX9_ahead : ByteArray := prog_11_method_45_code
def yX9_ahead : MethodName := ⟨RX9, "ahead", "(II)I"⟩
abbrev cX9_isAhead : ByteArray := prog_11_method_46_code
def yX9_isAhead : MethodName := ⟨RX9, "isAhead", "(II)Z"⟩
abbrev cX9_firstHome : ByteArray := prog_11_method_47_code
def yX9_firstHome : MethodName := ⟨RX9, "firstHome", "()I"⟩
abbrev cX9_allGoHome : ByteArray := prog_11_method_48_code
def yX9_allGoHome : MethodName := ⟨RX9, "allGoHome", "()V"⟩
abbrev cX9_winner : ByteArray := prog_11_method_49_code
def yX9_winner : MethodName := ⟨RX9, "winner", "()I"⟩
abbrev cX9_place : ByteArray := prog_11_method_50_code
def yX9_place : MethodName := ⟨RX9, "place", "(I)I"⟩
abbrev cX9_wins : ByteArray := prog_11_method_51_code
def yX9_wins : MethodName := ⟨RX9, "wins", "(II)I"⟩
abbrev cX9_isStretch : ByteArray := prog_11_method_52_code
def yX9_isStretch : MethodName := ⟨RX9, "isStretch", "(IIII)Z"⟩
abbrev cX9_oddsAt : ByteArray := prog_11_method_53_code
def yX9_oddsAt : MethodName := ⟨RX9, "oddsAt", "(IIZ)I"⟩
abbrev cX9_clean : ByteArray := prog_11_method_54_code
def yX9_clean : MethodName := ⟨RX9, "clean", "(III)J"⟩
abbrev cX9_dropping : ByteArray := prog_11_method_55_code
def yX9_dropping : MethodName := ⟨RX9, "dropping", "(IIIII)J"⟩
abbrev cX9_drops : ByteArray := prog_11_method_56_code
def yX9_drops : MethodName := ⟨RX9, "drops", "(IIII)J"⟩
abbrev cX9_behind : ByteArray := prog_11_method_57_code
def yX9_behind : MethodName := ⟨RX9, "behind", "(IIII)I"⟩
abbrev cX9_means : ByteArray := prog_11_method_58_code
def yX9_means : MethodName := ⟨RX9, "means", "(IIZ)V"⟩
abbrev cX9_meanOf : ByteArray := prog_11_method_59_code
def yX9_meanOf : MethodName := ⟨RX9, "meanOf", "(I)I"⟩
abbrev cX9_isMean : ByteArray := prog_11_method_60_code
def yX9_isMean : MethodName := ⟨RX9, "isMean", "(IIII)Z"⟩
abbrev cX9_mean : ByteArray := prog_11_method_61_code
def yX9_mean : MethodName := ⟨RX9, "mean", "(III)I"⟩
abbrev cX9_least : ByteArray := prog_11_method_62_code
def yX9_least : MethodName := ⟨RX9, "least", "(III)I"⟩
abbrev cX9_best : ByteArray := prog_11_method_63_code
def yX9_best : MethodName := ⟨RX9, "best", "(III)I"⟩
abbrev cX9_train : ByteArray := prog_11_method_64_code
def yX9_train : MethodName := ⟨RX9, "train", "(I)I"⟩
abbrev cX9_even : ByteArray := prog_11_method_65_code
def yX9_even : MethodName := ⟨RX9, "even", "(I)I"⟩
abbrev cX9_costs : ByteArray := prog_11_method_66_code
def yX9_costs : MethodName := ⟨RX9, "costs", "(II)I"⟩
abbrev cX9_worst : ByteArray := prog_11_method_67_code
def yX9_worst : MethodName := ⟨RX9, "worst", "(I)I"⟩
abbrev cX9_spoon : ByteArray := prog_11_method_68_code
def yX9_spoon : MethodName := ⟨RX9, "spoon", "(I)I"⟩
abbrev cX9_armFor : ByteArray := prog_11_method_69_code
def yX9_armFor : MethodName := ⟨RX9, "armFor", "(II)I"⟩
abbrev cX9_later : ByteArray := prog_11_method_70_code
def yX9_later : MethodName := ⟨RX9, "later", "(I)I"⟩
abbrev cX9_isTeam : ByteArray := prog_11_method_71_code
def yX9_isTeam : MethodName := ⟨RX9, "isTeam", "(I)Z"⟩
abbrev cX9_bestTeam : ByteArray := prog_11_method_72_code
def yX9_bestTeam : MethodName := ⟨RX9, "bestTeam", "(I)I"⟩
abbrev cX9_team : ByteArray := prog_11_method_73_code
def yX9_team : MethodName := ⟨RX9, "team", "(I)I"⟩
abbrev cX9_leg : ByteArray := prog_11_method_74_code
def yX9_leg : MethodName := ⟨RX9, "leg", "(II)I"⟩
abbrev cX9_droppingAs : ByteArray := prog_11_method_75_code
def yX9_droppingAs : MethodName := ⟨RX9, "droppingAs", "(IIIII)J"⟩
abbrev cX9_gum : ByteArray := prog_11_method_76_code
def yX9_gum : MethodName := ⟨RX9, "gum", "(IIIII)J"⟩
abbrev cX9_suspect : ByteArray := prog_11_method_77_code
def yX9_suspect : MethodName := ⟨RX9, "suspect", "(III)I"⟩
abbrev cX9_grass : ByteArray := prog_11_method_78_code
def yX9_grass : MethodName := ⟨RX9, "grass", "()I"⟩
abbrev cX9_rain : ByteArray := prog_11_method_79_code
def yX9_rain : MethodName := ⟨RX9, "rain", "(I)I"⟩
abbrev cX9_seed : ByteArray := prog_11_method_80_code
def yX9_seed : MethodName := ⟨RX9, "seed", "(I)I"⟩
abbrev cX9_feed : ByteArray := prog_11_method_81_code
def yX9_feed : MethodName := ⟨RX9, "feed", "(II)I"⟩
abbrev cX9_wipe : ByteArray := prog_11_method_82_code
def yX9_wipe : MethodName := ⟨RX9, "wipe", "()I"⟩
abbrev cX9_isByte : ByteArray := prog_11_method_83_code
def yX9_isByte : MethodName := ⟨RX9, "isByte", "(III)Z"⟩
abbrev cX9_token : ByteArray := prog_11_method_84_code
def yX9_token : MethodName := ⟨RX9, "token", "()V"⟩
abbrev cX9_isWord : ByteArray := prog_11_method_85_code
def yX9_isWord : MethodName := ⟨RX9, "isWord", "(Ljava/lang/String;)Z"⟩
abbrev cX9_takes_ : ByteArray := prog_11_method_86_code
def yX9_takes_ : MethodName := ⟨RX9, "takes", "(Ljava/lang/String;)Z"⟩
abbrev cX9_isSign : ByteArray := prog_11_method_87_code
def yX9_isSign : MethodName := ⟨RX9, "isSign", "(I)Z"⟩
abbrev cX9_number : ByteArray := prog_11_method_88_code
def yX9_number : MethodName := ⟨RX9, "number", "(II)I"⟩
abbrev cX9_groundHere : ByteArray := prog_11_method_89_code
def yX9_groundHere : MethodName := ⟨RX9, "groundHere", "()I"⟩
abbrev cX9_kindHere : ByteArray := prog_11_method_90_code
def yX9_kindHere : MethodName := ⟨RX9, "kindHere", "()I"⟩
abbrev cX9_groundItem : ByteArray := prog_11_method_91_code
def yX9_groundItem : MethodName := ⟨RX9, "groundItem", "(I)V"⟩
abbrev cX9_runnerItem : ByteArray := prog_11_method_92_code
def yX9_runnerItem : MethodName := ⟨RX9, "runnerItem", "(I)V"⟩
abbrev cX9_item : ByteArray := prog_11_method_93_code
def yX9_item : MethodName := ⟨RX9, "item", "()V"⟩
abbrev cX9_text : ByteArray := prog_11_method_94_code
def yX9_text : MethodName := ⟨RX9, "text", "()I"⟩
abbrev cX9_hold : ByteArray := prog_11_method_95_code
def yX9_hold : MethodName := ⟨RX9, "hold", "(II)I"⟩
abbrev cX9_above : ByteArray := prog_11_method_96_code
def yX9_above : MethodName := ⟨RX9, "above", "(I)I"⟩
abbrev cX9_as : ByteArray := prog_11_method_97_code
def yX9_as : MethodName := ⟨RX9, "as", "(II)I"⟩
abbrev cX9_isSheet : ByteArray := prog_11_method_98_code
def yX9_isSheet : MethodName := ⟨RX9, "isSheet", "(I)Z"⟩
abbrev cX9_sheet : ByteArray := prog_11_method_99_code
def yX9_sheet : MethodName := ⟨RX9, "sheet", "(III)I"⟩
abbrev cX9_write : ByteArray := prog_11_method_100_code
def yX9_write : MethodName := ⟨RX9, "write", "(III)I"⟩
abbrev cX9_copy : ByteArray := prog_11_method_101_code
def yX9_copy : MethodName := ⟨RX9, "copy", "(IIIII)I"⟩
abbrev cX9_load : ByteArray := prog_11_method_102_code
def yX9_load : MethodName := ⟨RX9, "load", "(II)I"⟩
abbrev cX9_judge : ByteArray := prog_11_method_103_code
def yX9_judge : MethodName := ⟨RX9, "judge", "(I)I"⟩
abbrev cX9_image : ByteArray := prog_11_method_104_code
def yX9_image : MethodName := ⟨RX9, "image", "()I"⟩
abbrev cX9_undo : ByteArray := prog_11_method_105_code
def yX9_undo : MethodName := ⟨RX9, "undo", "()I"⟩
abbrev cX9_tear : ByteArray := prog_11_method_106_code
def yX9_tear : MethodName := ⟨RX9, "tear", "()I"⟩
abbrev cX9_allDrops : ByteArray := prog_11_method_107_code
def yX9_allDrops : MethodName := ⟨RX9, "allDrops", "()I"⟩
abbrev cX9_holding : ByteArray := prog_11_method_108_code
def yX9_holding : MethodName := ⟨RX9, "holding", "()I"⟩
abbrev cX9_count : ByteArray := prog_11_method_109_code
def yX9_count : MethodName := ⟨RX9, "count", "(I)I"⟩
abbrev cX9_status : ByteArray := prog_11_method_110_code
def yX9_status : MethodName := ⟨RX9, "status", "(I)I"⟩
def RJx145de : String := "java/io/Serializable"
def TJx145de : u_T := fun k => match k with
  | _ => ("", "", "", false)
def tyJx145de : Nat → FieldType := fun k => match k with
  | _ => .int
abbrev wsJx145de0 : List Cond := u_ws RJx145de TJx145de 0
theorem nmJx145de : ∀ a, a < 0 → ∀ b, b < 0 → a ≠ b → (TJx145de a).2.1 ≠ (TJx145de b).2.1 := by decide +kernel
theorem tyJx145de_ok : ∀ k, k < 0 → parseFieldDescriptor (TJx145de k).2.2.1 = some (tyJx145de k) := by decide +kernel
def RJx9f9b0 : String := "java/lang/CharSequence"
def TJx9f9b0 : u_T := fun k => match k with
  | _ => ("", "", "", false)
def tyJx9f9b0 : Nat → FieldType := fun k => match k with
  | _ => .int
abbrev wsJx9f9b00 : List Cond := u_ws RJx9f9b0 TJx9f9b0 0
theorem nmJx9f9b0 : ∀ a, a < 0 → ∀ b, b < 0 → a ≠ b → (TJx9f9b0 a).2.1 ≠ (TJx9f9b0 b).2.1 := by decide +kernel
theorem tyJx9f9b0_ok : ∀ k, k < 0 → parseFieldDescriptor (TJx9f9b0 k).2.2.1 = some (tyJx9f9b0 k) := by decide +kernel
def RJxb160c : String := "java/lang/Comparable"
def TJxb160c : u_T := fun k => match k with
  | _ => ("", "", "", false)
def tyJxb160c : Nat → FieldType := fun k => match k with
  | _ => .int
abbrev wsJxb160c0 : List Cond := u_ws RJxb160c TJxb160c 0
theorem nmJxb160c : ∀ a, a < 0 → ∀ b, b < 0 → a ≠ b → (TJxb160c a).2.1 ≠ (TJxb160c b).2.1 := by decide +kernel
theorem tyJxb160c_ok : ∀ k, k < 0 → parseFieldDescriptor (TJxb160c k).2.2.1 = some (tyJxb160c k) := by decide +kernel
def RJ6 : String := "java/lang/Integer"
def TJ6 : u_T := fun k => match k with
  | _ => ("", "", "", false)
def tyJ6 : Nat → FieldType := fun k => match k with
  | _ => .int
abbrev wsJ60 : List Cond := u_ws RJ6 TJ6 0
theorem nmJ6 : ∀ a, a < 0 → ∀ b, b < 0 → a ≠ b → (TJ6 a).2.1 ≠ (TJ6 b).2.1 := by decide +kernel
theorem tyJ6_ok : ∀ k, k < 0 → parseFieldDescriptor (TJ6 k).2.2.1 = some (tyJ6 k) := by decide +kernel
abbrev cJ6_bitCount_0f7a4 : ByteArray := prog_12_method_49_code
def yJ6_bitCount_0f7a4 : MethodName := ⟨RJ6, "bitCount", "(I)I"⟩
def RJ9 : String := "java/lang/Math"
def TJ9 : u_T := fun k => match k with
  | _ => ("", "", "", false)
def tyJ9 : Nat → FieldType := fun k => match k with
  | _ => .int
abbrev wsJ90 : List Cond := u_ws RJ9 TJ9 0
theorem nmJ9 : ∀ a, a < 0 → ∀ b, b < 0 → a ≠ b → (TJ9 a).2.1 ≠ (TJ9 b).2.1 := by decide +kernel
theorem tyJ9_ok : ∀ k, k < 0 → parseFieldDescriptor (TJ9 k).2.2.1 = some (tyJ9 k) := by decide +kernel
abbrev cJ9_abs_0f7a4 : ByteArray := prog_13_method_59_code
def yJ9_abs_0f7a4 : MethodName := ⟨RJ9, "abs", "(I)I"⟩
abbrev cJ9_max_7cf53 : ByteArray := prog_13_method_65_code
def yJ9_max_7cf53 : MethodName := ⟨RJ9, "max", "(II)I"⟩
abbrev cJ9_min_7cf53 : ByteArray := prog_13_method_69_code
def yJ9_min_7cf53 : MethodName := ⟨RJ9, "min", "(II)I"⟩
def RJ0 : String := "java/lang/String"
def TJ0 : u_T := fun k => match k with
  | _ => ("", "", "", false)
def tyJ0 : Nat → FieldType := fun k => match k with
  | _ => .int
abbrev wsJ00 : List Cond := u_ws RJ0 TJ0 0
theorem nmJ0 : ∀ a, a < 0 → ∀ b, b < 0 → a ≠ b → (TJ0 a).2.1 ≠ (TJ0 b).2.1 := by decide +kernel
theorem tyJ0_ok : ∀ k, k < 0 → parseFieldDescriptor (TJ0 k).2.2.1 = some (tyJ0 k) := by decide +kernel
abbrev cJ0_length_8abf5 : ByteArray := prog_14_method_54_code
def yJ0_length_8abf5 : MethodName := ⟨RJ0, "length", "()I"⟩
abbrev cJ0_charAt_5068e : ByteArray := prog_14_method_56_code
def yJ0_charAt_5068e : MethodName := ⟨RJ0, "charAt", "(I)C"⟩
abbrev cJ0_coder_7d493 : ByteArray := prog_14_method_152_code
def yJ0_coder_7d493 : MethodName := ⟨RJ0, "coder", "()B"⟩
abbrev cJ0_isLatin1_aae02 : ByteArray := prog_14_method_154_code
def yJ0_isLatin1_aae02 : MethodName := ⟨RJ0, "isLatin1", "()Z"⟩
abbrev cJ0_checkIndex_df160 : ByteArray := prog_14_method_155_code
def yJ0_checkIndex_df160 : MethodName := ⟨RJ0, "checkIndex", "(II)V"⟩
def RJ1 : String := "java/lang/StringLatin1"
def TJ1 : u_T := fun k => match k with
  | _ => ("", "", "", false)
def tyJ1 : Nat → FieldType := fun k => match k with
  | _ => .int
abbrev wsJ10 : List Cond := u_ws RJ1 TJ1 0
theorem nmJ1 : ∀ a, a < 0 → ∀ b, b < 0 → a ≠ b → (TJ1 a).2.1 ≠ (TJ1 b).2.1 := by decide +kernel
theorem tyJ1_ok : ∀ k, k < 0 → parseFieldDescriptor (TJ1 k).2.2.1 = some (tyJ1 k) := by decide +kernel
abbrev cJ1_charAt_3b067 : ByteArray := prog_15_method_2_code
def yJ1_charAt_3b067 : MethodName := ⟨RJ1, "charAt", "([BI)C"⟩
def RJ2 : String := "java/lang/StringUTF16"
def TJ2 : u_T := fun k => match k with
  | _ => ("", "", "", false)
def tyJ2 : Nat → FieldType := fun k => match k with
  | _ => .int
abbrev wsJ20 : List Cond := u_ws RJ2 TJ2 0
theorem nmJ2 : ∀ a, a < 0 → ∀ b, b < 0 → a ≠ b → (TJ2 a).2.1 ≠ (TJ2 b).2.1 := by decide +kernel
theorem tyJ2_ok : ∀ k, k < 0 → parseFieldDescriptor (TJ2 k).2.2.1 = some (tyJ2 k) := by decide +kernel
abbrev cJ2_getChar_3b067 : ByteArray := prog_16_method_5_code
def yJ2_getChar_3b067 : MethodName := ⟨RJ2, "getChar", "([BI)C"⟩
abbrev cJ2_length_9d52b : ByteArray := prog_16_method_6_code
def yJ2_length_9d52b : MethodName := ⟨RJ2, "length", "([B)I"⟩
abbrev cJ2_charAt_3b067 : ByteArray := prog_16_method_83_code
def yJ2_charAt_3b067 : MethodName := ⟨RJ2, "charAt", "([BI)C"⟩
abbrev cJ2_checkIndex_2214a : ByteArray := prog_16_method_91_code
def yJ2_checkIndex_2214a : MethodName := ⟨RJ2, "checkIndex", "(I[B)V"⟩
def RJ10 : String := "java/lang/System"
def TJ10 : u_T := fun k => match k with
  | _ => ("", "", "", false)
def tyJ10 : Nat → FieldType := fun k => match k with
  | _ => .int
abbrev wsJ100 : List Cond := u_ws RJ10 TJ10 0
theorem nmJ10 : ∀ a, a < 0 → ∀ b, b < 0 → a ≠ b → (TJ10 a).2.1 ≠ (TJ10 b).2.1 := by decide +kernel
theorem tyJ10_ok : ∀ k, k < 0 → parseFieldDescriptor (TJ10 k).2.2.1 = some (tyJ10 k) := by decide +kernel
def RJxfd54e : String := "java/lang/constant/Constable"
def TJxfd54e : u_T := fun k => match k with
  | _ => ("", "", "", false)
def tyJxfd54e : Nat → FieldType := fun k => match k with
  | _ => .int
abbrev wsJxfd54e0 : List Cond := u_ws RJxfd54e TJxfd54e 0
theorem nmJxfd54e : ∀ a, a < 0 → ∀ b, b < 0 → a ≠ b → (TJxfd54e a).2.1 ≠ (TJxfd54e b).2.1 := by decide +kernel
theorem tyJxfd54e_ok : ∀ k, k < 0 → parseFieldDescriptor (TJxfd54e k).2.2.1 = some (tyJxfd54e k) := by decide +kernel
def RJx3cf43 : String := "java/lang/constant/ConstantDesc"
def TJx3cf43 : u_T := fun k => match k with
  | _ => ("", "", "", false)
def tyJx3cf43 : Nat → FieldType := fun k => match k with
  | _ => .int
abbrev wsJx3cf430 : List Cond := u_ws RJx3cf43 TJx3cf43 0
theorem nmJx3cf43 : ∀ a, a < 0 → ∀ b, b < 0 → a ≠ b → (TJx3cf43 a).2.1 ≠ (TJx3cf43 b).2.1 := by decide +kernel
theorem tyJx3cf43_ok : ∀ k, k < 0 → parseFieldDescriptor (TJx3cf43 k).2.2.1 = some (tyJx3cf43 k) := by decide +kernel
def RJ7 : String := "java/util/Arrays"
def TJ7 : u_T := fun k => match k with
  | _ => ("", "", "", false)
def tyJ7 : Nat → FieldType := fun k => match k with
  | _ => .int
abbrev wsJ70 : List Cond := u_ws RJ7 TJ7 0
theorem nmJ7 : ∀ a, a < 0 → ∀ b, b < 0 → a ≠ b → (TJ7 a).2.1 ≠ (TJ7 b).2.1 := by decide +kernel
theorem tyJ7_ok : ∀ k, k < 0 → parseFieldDescriptor (TJ7 k).2.2.1 = some (tyJ7 k) := by decide +kernel
abbrev cJ7_fill_d0a16 : ByteArray := prog_18_method_101_code
def yJ7_fill_d0a16 : MethodName := ⟨RJ7, "fill", "([JJ)V"⟩
abbrev cJ7_fill_53178 : ByteArray := prog_18_method_103_code
def yJ7_fill_53178 : MethodName := ⟨RJ7, "fill", "([II)V"⟩
def RJ3 : String := "jdk/internal/util/Preconditions"
def TJ3 : u_T := fun k => match k with
  | _ => ("", "", "", false)
def tyJ3 : Nat → FieldType := fun k => match k with
  | _ => .int
abbrev wsJ30 : List Cond := u_ws RJ3 TJ3 0
theorem nmJ3 : ∀ a, a < 0 → ∀ b, b < 0 → a ≠ b → (TJ3 a).2.1 ≠ (TJ3 b).2.1 := by decide +kernel
theorem tyJ3_ok : ∀ k, k < 0 → parseFieldDescriptor (TJ3 k).2.2.1 = some (tyJ3 k) := by decide +kernel
abbrev cJ3_checkIndex_8e157 : ByteArray := prog_19_method_11_code
def yJ3_checkIndex_8e157 : MethodName := ⟨RJ3, "checkIndex", "(IILjava/util/function/BiFunction;)I"⟩
def RL : String := "SpoonRaceLaw"
abbrev cL_law : ByteArray := code
def yL_law : MethodName := ⟨RL, "law", "([I)Z"⟩
abbrev vwCl : List vw_C := [(RX0, TX0, 2), (RX1, TX1, 3), (RX2, TX2, 6), (RX3, TX3, 1), (RX4, TX4, 8), (RX5, TX5, 3), (RX6, TX6, 6), (RX7, TX7, 3), (RX8, TX8, 11), (RX9, TX9, 19)]
end
section
/-! THE WORLD: one static shape of 86 cells; what changes are ints (region, place) and longs; a method's contract is a function on that state -/
abbrev St : Type := (Nat → Nat → Int32) × (Nat → Nat → Int64)
def setR (σ : St) (r : Nat) (f : Nat → Int32) : St := (fun q => if q = r then f else σ.1 q, σ.2)
def setL (σ : St) (r : Nat) (f : Nat → Int64) : St := (σ.1, fun q => if q = r then f else σ.2 q)
/-- a cell's shape: an object (its class's number; its slots: a cell, or an int's place), an int row (region, offset, length), a long row, a row of cells (class, length, first cell; every second one) -/
abbrev AE : Type := (Nat × List (Nat ⊕ (Nat × Nat))) ⊕ ((Nat × Nat × Nat) ⊕ ((Nat × Nat) ⊕ (Nat × Nat × Nat)))
def shMeet (j : Nat) : List AE :=
  [.inl (2, [.inl (26 + 16 * j), .inl (27 + 16 * j), .inl (28 + 16 * j), .inr (j, 2), .inr (j, 0), .inr (j, 1)]), .inr (.inl (j, 3, 30)), .inr (.inr (.inr (2, 6, 29 + 16 * j))), .inr (.inl (j, 255, 10))] ++
  (List.range 6).flatMap fun i => [.inl (4, [.inl (30 + 16 * j + 2 * i), .inr (j, 33 + 37 * i), .inr (j, 34 + 37 * i), .inr (j, 35 + 37 * i), .inr (j, 36 + 37 * i), .inr (j, 37 + 37 * i), .inr (j, 38 + 37 * i), .inr (j, 39 + 37 * i)]), .inr (.inl (j, 40 + 37 * i, 30))]
def SH : List AE :=
  [.inl (8, [.inl 1, .inl 25, .inl 41, .inl 57, .inl 2, .inl 6, .inl 9, .inl 12, .inl 13, .inl 16, .inr (4, 0)]),
   .inr (.inl (3, 0, 7)),
   .inl (1, [.inl 3, .inl 4, .inl 5]), .inr (.inl (5, 0, 4)), .inr (.inl (6, 0, 4)), .inr (.inl (7, 0, 120)),
   .inl (0, [.inl 7, .inl 8]), .inr (.inr (.inl (0, 44))), .inr (.inr (.inl (1, 44))),
   .inl (7, [.inl 10, .inl 11, .inr (10, 0)]), .inr (.inl (8, 0, 3)), .inr (.inl (9, 0, 18)),
   .inl (3, [.inl 13]),
   .inl (6, [.inl 14, .inl 15, .inr (13, 0), .inr (13, 1), .inr (13, 2), .inr (13, 3)]), .inr (.inl (11, 0, 120)), .inr (.inl (12, 0, 120)),
   .inr (.inr (.inr (3, 4, 17))),
   .inl (5, [.inl 18, .inr (14, 40), .inr (14, 41)]), .inr (.inl (14, 0, 40)),
   .inl (5, [.inl 20, .inr (15, 40), .inr (15, 41)]), .inr (.inl (15, 0, 40)),
   .inl (5, [.inl 22, .inr (16, 40), .inr (16, 41)]), .inr (.inl (16, 0, 40)),
   .inl (5, [.inl 24, .inr (17, 40), .inr (17, 41)]), .inr (.inl (17, 0, 40))] ++
  (shMeet 0 ++ (shMeet 1 ++ (shMeet 2 ++
  [.inl (9, [.inl 74, .inl 75, .inl 76, .inr (23, 0), .inl 77, .inl 78, .inl 79, .inl 80, .inl 81, .inl 82, .inr (23, 1), .inr (23, 2), .inr (23, 3), .inr (23, 4), .inr (23, 5), .inr (23, 6), .inl 83, .inl 84, .inl 85]),
   .inr (.inl (20, 0, 265)), .inr (.inl (21, 0, 265)), .inr (.inl (22, 0, 265)), .inr (.inl (24, 0, 7)), .inr (.inl (25, 0, 124)), .inr (.inl (26, 0, 120)), .inr (.inl (27, 0, 18)), .inr (.inl (28, 0, 3)), .inr (.inl (29, 0, 120)), .inr (.inl (30, 0, 4)), .inr (.inl (31, 0, 4)), .inr (.inl (32, 0, 160))])))
/-- where things are: the classes' numbers and slots; the address of each cell (0 .. 85), static row (100 ..), text (200 ..), text's bytes (300 ..); the rows' classes -/
abbrev Geo : Type := va_G × (Nat → Nat) × (Nat → ClassId)
def cv (a : Nat → Nat) : Value → Value
  | .ref c => .ref (a c)
  | v => v
def slv (a : Nat → Nat) (σ : St) : Nat ⊕ (Nat × Nat) → Value
  | .inl c => .ref (a c)
  | .inr q => .int (σ.1 q.1 q.2)
def rowI (σ : St) (r o n : Nat) : Nat → Int32 := fun i => if i < n then σ.1 r (i + o) else 0
def rowL (σ : St) (r n : Nat) : Nat → Int64 := fun i => if i < n then σ.2 r i else 0
def entOf (g : Geo) (σ : St) : AE → va_E
  | .inl q => .inr (q.1, q.2.map (slv g.2.1 σ))
  | .inr (.inl q) => .inl (g.2.2 0, q.2.2, .inl (rowI σ q.1 q.2.1 q.2.2))
  | .inr (.inr (.inl q)) => .inl (g.2.2 1, q.2, .inr (.inl (rowL σ q.1 q.2)))
  | .inr (.inr (.inr q)) => .inl (g.2.2 q.1, q.2.1, .inr (.inr (.inr (.inr (fun i => if i < q.2.1 then some (g.2.1 (q.2.2 + 2 * i)) else none)))))
def Pic (g : Geo) (σ : St) (H : Heap) : Prop := ∀ (c : Nat) (a : AE), SH[c]? = some a → va_at g.1 vwCl (g.2.1 c, entOf g σ a) H
def Aof (g : Geo) : Nat → Prop := fun q => ∃ c, c < 86 ∧ q = g.2.1 c
theorem SH_len : SH.length = 86 := by decide +kernel
theorem SH_lt {c : Nat} {a : AE} (h : SH[c]? = some a) : c < 86 := by
  have := (List.getElem?_eq_some_iff.mp h).1
  rw [SH_len] at this
  exact this
/-- the int places of a shape: those of an object, or a range -/
def hasI (r k : Nat) : AE → Bool
  | .inl q => q.2.any fun s => match s with
    | .inl _ => false
    | .inr p => p.1 == r && p.2 == k
  | .inr (.inl q) => q.1 == r && (Nat.ble q.2.1 k && Nat.blt k (q.2.1 + q.2.2))
  | _ => false
def hasL (r : Nat) : AE → Bool
  | .inr (.inr (.inl q)) => q.1 == r
  | _ => false
/-- do two shapes share an int place? (ranges and places as numbers alone) -/
def rngs : AE → List (Nat × Nat × Nat)
  | .inl q => q.2.filterMap fun s => match s with
    | .inl _ => none
    | .inr p => some (p.1, p.2, 1)
  | .inr (.inl q) => [q]
  | _ => []
def apartR (a b : Nat × Nat × Nat) : Bool := !(a.1 == b.1) || (Nat.ble (a.2.1 + a.2.2) b.2.1 || Nat.ble (b.2.1 + b.2.2) a.2.1)
def apartA (a b : AE) : Bool := (rngs a).all fun x => (rngs b).all fun y => apartR x y
def nodupR : List (Nat × Nat × Nat) → Bool
  | [] => true
  | a :: l => l.all (apartR a) && nodupR l
theorem SH_apart : (List.range 86).all (fun c => (List.range 86).all fun d => c == d || match SH[c]?, SH[d]? with
  | some a, some b => apartA a b
  | _, _ => true) = true := by decide +kernel
theorem SH_nodup : SH.all (fun a => nodupR (rngs a)) = true := by decide +kernel
theorem SH_L : (List.range 86).all (fun c => (List.range 86).all fun d => c == d || match SH[c]?, SH[d]? with
  | some (.inr (.inr (.inl q))), some (.inr (.inr (.inl p))) => !(q.1 == p.1)
  | _, _ => true) = true := by decide +kernel
theorem apart_of {c d : Nat} {a b : AE} (hc : SH[c]? = some a) (hd : SH[d]? = some b) (h : c ≠ d) : apartA a b = true := by
  have h1 := List.all_eq_true.mp SH_apart c (List.mem_range.mpr (SH_lt hc))
  have h2 := List.all_eq_true.mp h1 d (List.mem_range.mpr (SH_lt hd))
  rw [hc, hd] at h2
  simpa [h] using h2
theorem apartL_of {c d : Nat} {q p : Nat × Nat} (hc : SH[c]? = some (.inr (.inr (.inl q)))) (hd : SH[d]? = some (.inr (.inr (.inl p)))) (h : c ≠ d) : q.1 ≠ p.1 := by
  have h1 := List.all_eq_true.mp SH_L c (List.mem_range.mpr (SH_lt hc))
  have h2 := List.all_eq_true.mp h1 d (List.mem_range.mpr (SH_lt hd))
  rw [hc, hd] at h2
  simpa [h] using h2
theorem setR_at (σ : St) (r : Nat) (f : Nat → Int32) : (setR σ r f).1 r = f := if_pos rfl
theorem setR_ne (σ : St) {r q : Nat} (f : Nat → Int32) (h : q ≠ r) : (setR σ r f).1 q = σ.1 q := if_neg h
theorem setR_2 (σ : St) (r : Nat) (f : Nat → Int32) : (setR σ r f).2 = σ.2 := rfl
theorem setL_at (σ : St) (r : Nat) (f : Nat → Int64) : (setL σ r f).2 r = f := if_pos rfl
theorem setL_ne (σ : St) {r q : Nat} (f : Nat → Int64) (h : q ≠ r) : (setL σ r f).2 q = σ.2 q := if_neg h
theorem setL_1 (σ : St) (r : Nat) (f : Nat → Int64) : (setL σ r f).1 = σ.1 := rfl
theorem setR_same (σ : St) (r : Nat) : setR σ r (σ.1 r) = σ := by
  refine Prod.ext (funext fun q => ?_) rfl
  by_cases h : q = r
  · subst h; exact if_pos rfl
  · exact if_neg h
theorem setR_twice (σ : St) (r : Nat) (f f' : Nat → Int32) : setR (setR σ r f) r f' = setR σ r f' := by
  refine Prod.ext (funext fun q => ?_) rfl
  by_cases h : q = r
  · simp [setR, h]
  · simp [setR, h]
theorem setL_same (σ : St) (r : Nat) : setL σ r (σ.2 r) = σ := by
  refine Prod.ext rfl (funext fun q => ?_)
  by_cases h : q = r
  · subst h; exact if_pos rfl
  · exact if_neg h
theorem setL_twice (σ : St) (r : Nat) (f f' : Nat → Int64) : setL (setL σ r f) r f' = setL σ r f' := by
  refine Prod.ext rfl (funext fun q => ?_)
  by_cases h : q = r
  · simp [setL, h]
  · simp [setL, h]
theorem setR_comm (σ : St) {r q : Nat} (h : r ≠ q) (f f' : Nat → Int32) : setR (setR σ r f) q f' = setR (setR σ q f') r f := by
  refine Prod.ext (funext fun p => ?_) rfl
  by_cases h1 : p = r
  · subst h1; simp [setR, h]
  · simp [setR, h1]
theorem setRL (σ : St) (r q : Nat) (f : Nat → Int32) (f' : Nat → Int64) : setR (setL σ q f') r f = setL (setR σ r f) q f' := rfl
/-- a write of region r within [lo, hi) leaves a shape that is apart from that range as it was -/
theorem ent_off {g : Geo} {σ : St} {a : AE} {r : Nat} {f : Nat → Int32} (lo n : Nat) (hf : ∀ k, (k < lo ∨ lo + n ≤ k) → f k = σ.1 r k) (h : (rngs a).all (apartR (r, lo, n)) = true) : entOf g (setR σ r f) a = entOf g σ a := by
  have key : ∀ (q k : Nat), (q ≠ r ∨ (k < lo ∨ lo + n ≤ k)) → (setR σ r f).1 q k = σ.1 q k := by
    intro q k hk
    by_cases hq : q = r
    · subst hq
      rw [setR_at]
      exact hf k (hk.resolve_left (fun z => z rfl))
    · rw [setR_ne σ f hq]
  match a with
  | .inl q =>
    show Sum.inr (q.1, q.2.map _) = Sum.inr (q.1, q.2.map _)
    congr 2
    refine List.map_congr_left fun s hs => ?_
    match s with
    | .inl _ => rfl
    | .inr p =>
      show Value.int _ = Value.int _
      have h1 := List.all_eq_true.mp h (p.1, p.2, 1) (List.mem_filterMap.mpr ⟨_, hs, rfl⟩)
      simp only [apartR, Bool.or_eq_true, Bool.not_eq_true', beq_eq_false_iff_ne, Nat.ble_eq] at h1
      rw [key p.1 p.2 (by omega)]
  | .inr (.inl q) =>
    show Sum.inl (g.2.2 0, q.2.2, Sum.inl (rowI _ _ _ _)) = Sum.inl (g.2.2 0, q.2.2, Sum.inl (rowI _ _ _ _))
    have h1 := List.all_eq_true.mp h q (List.mem_singleton.mpr rfl)
    simp only [apartR, Bool.or_eq_true, Bool.not_eq_true', beq_eq_false_iff_ne, Nat.ble_eq] at h1
    have e : rowI (setR σ r f) q.1 q.2.1 q.2.2 = rowI σ q.1 q.2.1 q.2.2 := by
      funext i
      unfold rowI
      by_cases hi : i < q.2.2
      · rw [if_pos hi, if_pos hi]
        exact key _ _ (by omega)
      · rw [if_neg hi, if_neg hi]
    rw [e]
  | .inr (.inr (.inl q)) => rfl
  | .inr (.inr (.inr q)) => rfl
theorem ent_offL {g : Geo} {σ : St} {a : AE} {r : Nat} {f : Nat → Int64} (h : ∀ q, a = .inr (.inr (.inl q)) → q.1 ≠ r) : entOf g (setL σ r f) a = entOf g σ a := by
  match a with
  | .inl q => rfl
  | .inr (.inl q) => rfl
  | .inr (.inr (.inl q)) =>
    show Sum.inl (g.2.2 1, q.2, Sum.inr (Sum.inl (rowL _ _ _))) = Sum.inl (g.2.2 1, q.2, Sum.inr (Sum.inl (rowL _ _ _)))
    have e : rowL (setL σ r f) q.1 q.2 = rowL σ q.1 q.2 := by
      funext i
      unfold rowL
      rw [setL_ne σ f (h q rfl)]
    rw [e]
  | .inr (.inr (.inr q)) => rfl
theorem Pic.other {g : Geo} {σ σ' : St} {H H1 : Heap} {c : Nat} (h : Pic g σ H) (inj : ∀ i j, i < 86 → j < 86 → g.2.1 i = g.2.1 j → i = j) (hc : c < 86) (oq : ∀ q : Nat, q ≠ g.2.1 c → H1[q]? = H[q]?) (he : ∀ d a, SH[d]? = some a → d ≠ c → entOf g σ' a = entOf g σ a) (hs : ∀ a, SH[c]? = some a → va_at g.1 vwCl (g.2.1 c, entOf g σ' a) H1) : Pic g σ' H1 := by
  intro d a hd
  by_cases hdc : d = c
  · subst hdc; exact hs a hd
  · rw [he d a hd hdc]
    exact (h d a hd).kept (oq _ (fun z => hdc (inj d c (SH_lt hd) hc z)))
/-- writes into an int row -/
theorem Pic.rowI {g : Geo} {σ : St} {H H1 : Heap} {c r o n : Nat} {f : Nat → Int32} (h : Pic g σ H) (inj : ∀ i j, i < 86 → j < 86 → g.2.1 i = g.2.1 j → i = j) (hc : SH[c]? = some (.inr (.inl (r, o, n)))) (oq : ∀ q : Nat, q ≠ g.2.1 c → H1[q]? = H[q]?) (hf : ∀ k, (k < o ∨ o + n ≤ k) → f k = σ.1 r k) (hs : H1[g.2.1 c]? = some (vp_cell (g.2.2 0) (n, .inl (rowI (setR σ r f) r o n)))) : Pic g (setR σ r f) H1 := by
  refine h.other inj (SH_lt hc) oq (fun d a hd hne => ?_) (fun a ha => ?_)
  · exact ent_off o n hf (List.all_eq_true.mpr fun x hx => by
      have h1 := List.all_eq_true.mp (apart_of hc hd (Ne.symm hne)) (r, o, n) (List.mem_singleton.mpr rfl)
      exact List.all_eq_true.mp h1 x hx)
  · cases hc.symm.trans ha
    exact hs
theorem Pic.rowL {g : Geo} {σ : St} {H H1 : Heap} {c r n : Nat} {f : Nat → Int64} (h : Pic g σ H) (inj : ∀ i j, i < 86 → j < 86 → g.2.1 i = g.2.1 j → i = j) (hc : SH[c]? = some (.inr (.inr (.inl (r, n))))) (oq : ∀ q : Nat, q ≠ g.2.1 c → H1[q]? = H[q]?) (hs : H1[g.2.1 c]? = some (vp_cell (g.2.2 1) (n, .inr (.inl (rowL (setL σ r f) r n))))) : Pic g (setL σ r f) H1 := by
  refine h.other inj (SH_lt hc) oq (fun d a hd hne => ?_) (fun a ha => ?_)
  · exact ent_offL (fun q hq => by subst hq; exact apartL_of hd hc hne)
  · cases hc.symm.trans ha
    exact hs
theorem nodup_set {l : List (Nat ⊕ (Nat × Nat))} {a : Nat → Nat} {σ : St} {r k : Nat} {v : Int32} : ∀ {i : Nat}, nodupR (l.filterMap fun s => match s with
    | .inl _ => none
    | .inr p => some (p.1, p.2, 1)) = true → l[i]? = some (.inr (r, k)) → l.map (slv a (setR σ r (upd (σ.1 r) k v))) = (l.map (slv a σ)).set i (.int v) := by
  induction l with
  | nil => intro i _ h; simp at h
  | cons s l ih =>
    intro i hn hi
    have off : ∀ p : Nat × Nat, ¬ (p.1 = r ∧ p.2 = k) → slv a (setR σ r (upd (σ.1 r) k v)) (.inr p) = slv a σ (.inr p) := by
      intro p hp
      show Value.int _ = Value.int _
      congr 1
      by_cases hq : p.1 = r
      · rw [hq, setR_at]
        exact pk_un (fun z => hp ⟨hq, z⟩)
      · rw [setR_ne _ _ hq]
    cases i with
    | zero =>
      simp only [List.getElem?_cons_zero, Option.some.injEq] at hi
      subst hi
      simp only [List.filterMap_cons, nodupR, Bool.and_eq_true] at hn
      simp only [List.map_cons, List.set_cons_zero]
      congr 1
      · show Value.int _ = Value.int _
        congr 1
        rw [setR_at]
        exact pk_us
      · refine List.map_congr_left fun s hs => ?_
        match s with
        | .inl _ => rfl
        | .inr p =>
          refine off p (fun z => ?_)
          have h1 := List.all_eq_true.mp hn.1 (p.1, p.2, 1) (List.mem_filterMap.mpr ⟨_, hs, rfl⟩)
          simp only [apartR, Bool.or_eq_true, Bool.not_eq_true', beq_eq_false_iff_ne, Nat.ble_eq] at h1
          omega
    | succ i =>
      simp only [List.getElem?_cons_succ] at hi
      simp only [List.map_cons, List.set_cons_succ]
      match s with
      | .inl _ =>
        congr 1
        exact ih (by simpa [List.filterMap_cons] using hn) hi
      | .inr p =>
        simp only [List.filterMap_cons, nodupR, Bool.and_eq_true] at hn
        congr 1
        · refine off p (fun z => ?_)
          have h1 := List.all_eq_true.mp hn.1 (r, k, 1) (List.mem_filterMap.mpr ⟨_, List.mem_of_getElem? hi, rfl⟩)
          simp only [apartR, Bool.or_eq_true, Bool.not_eq_true', beq_eq_false_iff_ne, Nat.ble_eq] at h1
          omega
        · exact ih hn.2 hi
theorem Pic.slot {g : Geo} {σ : St} {H H1 : Heap} {c ci i r k : Nat} {sl : List (Nat ⊕ (Nat × Nat))} {v : Int32} (h : Pic g σ H) (inj : ∀ i j, i < 86 → j < 86 → g.2.1 i = g.2.1 j → i = j) (hc : SH[c]? = some (.inl (ci, sl))) (hi : sl[i]? = some (.inr (r, k))) (oq : ∀ q : Nat, q ≠ g.2.1 c → H1[q]? = H[q]?) (hs : va_at g.1 vwCl (g.2.1 c, .inr (ci, (sl.map (slv g.2.1 σ)).set i (.int v))) H1) : Pic g (setR σ r (upd (σ.1 r) k v)) H1 := by
  have hnd := List.all_eq_true.mp SH_nodup _ (List.mem_of_getElem? hc)
  refine h.other inj (SH_lt hc) oq (fun d a hd hne => ?_) (fun a ha => ?_)
  · refine ent_off k 1 (fun q hq => pk_un (by omega)) (List.all_eq_true.mpr fun x hx => ?_)
    have h1 := List.all_eq_true.mp (apart_of hc hd (Ne.symm hne)) (r, k, 1) (List.mem_filterMap.mpr ⟨_, List.mem_of_getElem? hi, rfl⟩)
    exact List.all_eq_true.mp h1 x hx
  · cases hc.symm.trans ha
    show va_at g.1 vwCl (g.2.1 c, .inr (ci, sl.map (slv g.2.1 (setR σ r (upd (σ.1 r) k v))))) H1
    rw [nodup_set hnd hi]
    exact hs
end
section
/-! THE MACHINE OVER THE WORLD: AW, one row an instruction; AMet, a method's contract: from state σ and these arguments it answers so, and the state is so -/
def STA : List (String × List Int32) :=
  [("ROCKS_BY_PACE", [0, 1, 1, 2, 2, 3, 6, 5, 3, 3]), ("HURTS_BY_GROUND", [0, 3, 4, 2, 3]), ("KIND_ABOVE", [-1, 0, 0, 0, 1, 1, 2]), ("TAKES_MORE", [0, 0, 0, -1, 0, 0, 3]), ("ROCKS_MORE", [0, 0, 0, 1, 0, 0, 0]), ("HURTS_TIMES", [1, 1, 2, 1, 1, 1, 2]), ("HOLDS_MORE", [0, 2, 3, 0, 2, 11, 3])]
def STW : List (String × List Int32) :=
  [("grass", [103, 114, 97, 115, 115]), ("bump", [98, 117, 109, 112]), ("thistle", [116, 104, 105, 115, 116, 108, 101]), ("turn", [116, 117, 114, 110]), ("slick", [115, 108, 105, 99, 107]), ("to", [116, 111]), ("pick", [112, 105, 99, 107]), ("runner", [114, 117, 110, 110, 101, 114]), ("steady", [115, 116, 101, 97, 100, 121]), ("looker", [108, 111, 111, 107, 101, 114]), ("rusher", [114, 117, 115, 104, 101, 114]), ("dancer", [100, 97, 110, 99, 101, 114]), ("gum", [103, 117, 109]), ("child", [99, 104, 105, 108, 100]), ("arm", [97, 114, 109]), ("spoon", [115, 112, 111, 111, 110]), ("pace", [112, 97, 99, 101])]
/-- the texts: whose, its number in the pool, which word -/
def STR : List (String × Nat × Nat) :=
  [("SpoonRace$Reader", 112, 0), ("SpoonRace$Reader", 114, 1), ("SpoonRace$Reader", 116, 2), ("SpoonRace$Reader", 118, 3), ("SpoonRace$Reader", 120, 4), ("SpoonRace$Reader", 67, 5), ("SpoonRace$Reader", 43, 6), ("SpoonRace$Reader", 122, 7), ("SpoonRace$Reader", 124, 8), ("SpoonRace$Reader", 126, 9), ("SpoonRace$Reader", 128, 10), ("SpoonRace$Reader", 130, 11), ("SpoonRace$Reader", 132, 12), ("SpoonRace$Reader", 134, 13), ("SpoonRace$Reader", 80, 14), ("SpoonRace$Reader", 82, 15), ("SpoonRace$Reader", 84, 16),
   ("SpoonRaceModel", 264, 0), ("SpoonRaceModel", 265, 1), ("SpoonRaceModel", 267, 2), ("SpoonRaceModel", 269, 3), ("SpoonRaceModel", 271, 4), ("SpoonRaceModel", 289, 5), ("SpoonRaceModel", 305, 6), ("SpoonRaceModel", 273, 7), ("SpoonRaceModel", 275, 8), ("SpoonRaceModel", 277, 9), ("SpoonRaceModel", 279, 10), ("SpoonRaceModel", 281, 11), ("SpoonRaceModel", 283, 12), ("SpoonRaceModel", 285, 13), ("SpoonRaceModel", 292, 14), ("SpoonRaceModel", 294, 15), ("SpoonRaceModel", 296, 16)]
def wordT (w : Nat) : String := (STW.getD w ("", [])).1
def wordB (w : Nat) : List Int32 := (STW.getD w ("", [])).2
def tysOf (g : Geo) : List (ClassId × FieldType) := [(g.2.2 0, .int), (g.2.2 1, .long), (g.2.2 2, .object "SpoonRace$Runner"), (g.2.2 3, .object "SpoonRace$Sheet")]
def GKt (g : Geo) (i : Nat) (q : String × List Int32) (U : State) (H : Heap) : Prop := va_Z "SpoonRace" q.1 "[I" (.ref (g.2.1 (100 + i))) (Aof g) U H ∧ va_T .int (g.2.1 (100 + i)) q.2.length (fun j => .int (q.2.getD j 0)) (Aof g) U H
def GKs (g : Geo) (i : Nat) (q : String × Nat × Nat) (U : State) (H : Heap) : Prop := vk_R q.1 q.2.1 (wordT q.2.2) (g.2.1 (200 + i)) U ∧ va_O "java/lang/String" (g.2.1 (200 + i)) (Aof g) U H ∧ va_OF "java/lang/String" "coder" "B" (.int 0) (g.2.1 (200 + i)) (Aof g) U H ∧ va_OF "java/lang/String" "value" "[B" (.ref (g.2.1 (300 + i))) (g.2.1 (200 + i)) (Aof g) U H ∧ va_T .byte (g.2.1 (300 + i)) (wordB q.2.2).length (fun j => .int ((wordB q.2.2).getD j 0)) (Aof g) U H
/-- what stays true of the machine around the world -/
def GK (g : Geo) (U : State) : Prop :=
  va_K g.1 vwCl (tysOf g) U ∧ (∀ i j, i < 86 → j < 86 → g.2.1 i = g.2.1 j → i = j) ∧ (∀ i q, STA[i]? = some q → GKt g i q U U.heap) ∧ va_Z "java/lang/String" "COMPACT_STRINGS" "Z" (.int 1) (Aof g) U U.heap ∧ ∀ i q, STR[i]? = some q → GKs g i q U U.heap
theorem GK.moved {g : Geo} {s U : State} {H : Heap} {locs : List Loc} (h : GK g s) (hS : va_S (Aof g) s.heap H locs) (hU : U.heap = H) (hW : s.WarmedH U.vm) : GK g U := by
  obtain ⟨h1, h2, h3, h4, h5⟩ := h
  have al := hW.alike
  have kp : ∀ a : Nat, a < s.heap.size → ¬ Aof g a → U.heap[a]? = s.heap[a]? := fun a q1 q2 => by rw [hU]; exact hS.2.1 a q1 q2
  exact ⟨va_K.moved al h1, h2, fun i q hq => ⟨((h3 i q hq).1.moved al).kept kp, ((h3 i q hq).2.moved al).kept kp⟩, (h4.moved al).kept kp, fun i q hq => by
    obtain ⟨a1, a2, a3, a4, a5⟩ := h5 i q hq
    exact ⟨a1.warm hW, (va_O.moved al a2).kept kp, (va_OF.moved al a3).kept kp, (va_OF.moved al a4).kept kp, (a5.moved al).kept kp⟩⟩
theorem GK.calling {g : Geo} {U : State} (h : GK g U) (f : JFrame) (mk : MethodId) (a : Array Value) : GK g (U.calling f mk a) := by
  obtain ⟨h1, h2, h3, h4, h5⟩ := h
  have al : U.vm.Alike (U.calling f mk a).vm := Vm.Alike.refl U.vm
  exact ⟨va_K.moved al h1, h2, fun i q hq => ⟨(h3 i q hq).1.moved al, (h3 i q hq).2.moved al⟩, h4.moved al, fun i q hq => by
    obtain ⟨a1, a2, a3, a4, a5⟩ := h5 i q hq
    exact ⟨a1.same rfl, va_O.moved al a2, va_OF.moved al a3, va_OF.moved al a4, a5.moved al⟩⟩
/-- a method: name, code, locals, answer's type, level (how many frames may stand above it) -/
abbrev MI : Type := MethodName × ByteArray × Nat × Option FieldType × Nat
abbrev MI.lvl (Y : MI) : Nat := Y.2.2.2.2
def rmD (d : Nat) : Room := { frames := d, cells := 0, slots := 0, locals := 40 * d }
def WTb : List Cond := lw_tbl.filter goodWord
def WTs (Y : MI) : List Cond := .code Y.1 Y.2.1 Y.2.2.1 Y.2.2.2.1 :: WTb
theorem WT_mem {w : Cond} (h : w ∈ lw_tbl) (hg : goodWord w = true) : w ∈ WTb := List.mem_filter.mpr ⟨h, hg⟩
theorem goodIn_WT {Y : MI} {ws : List Cond} (h : ∀ w ∈ ws, w ∈ WTb) : GoodIn (WTs Y) ws := fun w hw => ⟨List.mem_cons_of_mem _ (h w hw), good_of_word (List.mem_filter.mp (h w hw)).2⟩
abbrev RZ : Type := Option Value × St
def QcOf (g : Geo) (Rz : RZ) : Array Value → State → Outcome → State → Prop := fun _ st oc t => oc = .returned (Rz.1.map (cv g.2.1)) ∧ Pic g Rz.2 t.heap ∧ va_F (Aof g) st t
def AMet (Y : MI) (av : List Value) (σ : St) (Rz : RZ) : Prop := ∀ (l : Launch) (g : Geo), Met l Y.1 (WTs Y) (rmD Y.lvl) (va_Pc (av.map (cv g.2.1)) (fun U => Pic g σ U.heap ∧ GK g U)) (QcOf g Rz) 0 0 (Aof g)
/-- an activation: program, launch, environment, state at the entry, method, arguments, frames below, method's and code's records, geometry -/
abbrev KT : Type := Program × Launch × Env × State × MethodId × Array Value × List Frame × Method × Code × Geo
abbrev KT.p (K : KT) : Program := K.1
abbrev KT.l (K : KT) : Launch := K.2.1
abbrev KT.e (K : KT) : Env := K.2.2.1
abbrev KT.s (K : KT) : State := K.2.2.2.1
abbrev KT.m (K : KT) : MethodId := K.2.2.2.2.1
abbrev KT.a (K : KT) : Array Value := K.2.2.2.2.2.1
abbrev KT.b (K : KT) : List Frame := K.2.2.2.2.2.2.1
abbrev KT.me (K : KT) : Method := K.2.2.2.2.2.2.2.1
abbrev KT.c (K : KT) : Code := K.2.2.2.2.2.2.2.2.1
abbrev KT.g (K : KT) : Geo := K.2.2.2.2.2.2.2.2.2
def Cx (Y : MI) (K : KT) : Prop := K.p.tables.exec = Jvm.exec ∧ K.c.code = Y.2.1 ∧ K.me.sig.returnType = Y.2.2.2.1 ∧ K.c.maxLocals = Y.2.2.1 ∧ K.s.vm.findClass Y.1.cls = some K.m.cls ∧ (∀ w ∈ WTs Y, w.before K.a K.s = true) ∧ K.me.locks = false ∧ GK K.g K.s
abbrev cvl (a : Nat → Nat) (lv : List (Nat × Value)) : List (Nat × Value) := lv.map fun q => (q.1, cv a q.2)
def AW (Y : MI) (K : KT) (Rz : RZ) (σ : St) (pc : Nat) (lv : List (Nat × Value)) (st : List Value) : Prop :=
  ∀ (H : Heap) (locs : List Loc) (ls : Array Slot), Pic K.g σ H → va_S (Aof K.g) K.s.heap H locs → lv_has ls Y.2.2.1 (cvl K.g.2.1 lv) → W K.p K.l K.e (rmD Y.lvl) K.s K.m K.a K.b K.me K.c H locs 0 0 (MQ K.b (QcOf K.g Rz) K.a K.s 0 0 (Aof K.g)) (F0 K.m pc ls (st.map (cv K.g.2.1)))
theorem cv_cat (a : Nat → Nat) (v : Value) : (cv a v).category = v.category := by cases v <;> rfl
theorem cv_args (a : Nat → Nat) : ∀ (vs : List Value) (i : Nat), lv_args i (vs.map (cv a)) = cvl a (lv_args i vs)
  | [], i => rfl
  | v :: vs, i => by
    simp only [List.map_cons, lv_args, cv_cat, cv_args a vs]
theorem cv_sl (a : Nat → Nat) (vs : List Value) : (lg_sl (vs.map (cv a))).length = (lg_sl vs).length := by
  induction vs with
  | nil => rfl
  | cons v vs ih =>
    simp only [lg_sl, List.map_cons, List.flatMap_cons, List.length_append, cv_cat] at ih ⊢
    rw [ih]
    by_cases h : v.category = 2 <;> simp [h]
theorem am_intro {Y : MI} {av : List Value} {σ : St} {Rz : RZ} (hy : plainName Y.1.cls = true) (hn : (lg_sl av).length ≤ Y.2.2.1) (h : ∀ K : KT, Cx Y K → AW Y K Rz σ 0 (lv_args 0 av) []) : AMet Y av σ Rz := by
  intro l g
  refine Met.ofW (cc := Y.2.1) (maxL := Y.2.2.1) (ret := Y.2.2.2.1) hy rfl ?_
  intro p e s m args below meth c s₁ B hml hv
  obtain ⟨rfl, hP, hG⟩ := hv
  have X := h (p, l, e, s, m, (av.map (cv g.2.1)).toArray, below, meth, c, g) ⟨B.exec, B.bytes, B.returns, hml, findClass_of_methodNamed B.named, atoms_spec (ws := WTs Y) B.pre, B.notSynchronized, hG⟩
  rw [lg_entry_eq]
  have hl := lv_entry (av.map (cv g.2.1)) (n := Y.2.2.1) (by rw [cv_sl]; exact hn)
  rw [cv_args] at hl
  exact X s.heap [] _ hP va_S.rf hl
section AWR
variable {Y : MI} {K : KT} {Rz : RZ} {σ : St} {pc : Nat} {lv : List (Nat × Value)} {st : List Value}
theorem aw_conv {σ' : St} {lv' : List (Nat × Value)} {st' : List Value} (h1 : σ = σ') (h2 : lv = lv') (h3 : st = st') (kk : AW Y K Rz σ' pc lv' st') : AW Y K Rz σ pc lv st := by subst h1; subst h2; subst h3; exact kk
theorem aw_iconst (C : Cx Y K) {n : Int} {v : Int32} (hd : decode Y.2.1 pc = .ok (.iconst n, 1)) (hv : Int32.ofInt n = v) (kk : AW Y K Rz σ (pc + 1) lv (.int v :: st)) : AW Y K Rz σ pc lv st := fun H locs ls hP hS hl => lv_iconst C.1 C.2.1 hd hv (kk H locs ls hP hS hl)
theorem aw_bipush (C : Cx Y K) {n : Int} {v : Int32} (hd : decode Y.2.1 pc = .ok (.bipush n, 2)) (hv : (Int8.ofInt n).toInt32 = v) (kk : AW Y K Rz σ (pc + 2) lv (.int v :: st)) : AW Y K Rz σ pc lv st := fun H locs ls hP hS hl => lv_bipush C.1 C.2.1 hd hv (kk H locs ls hP hS hl)
theorem aw_sipush (C : Cx Y K) {n : Int} {v : Int32} (hd : decode Y.2.1 pc = .ok (.sipush n, 3)) (hv : (Int16.ofInt n).toInt32 = v) (kk : AW Y K Rz σ (pc + 3) lv (.int v :: st)) : AW Y K Rz σ pc lv st := fun H locs ls hP hS hl => lv_sipush C.1 C.2.1 hd hv (kk H locs ls hP hS hl)
theorem aw_lconst (C : Cx Y K) {n : Fin 2} {v : Int64} (hd : decode Y.2.1 pc = .ok (.lconst n, 1)) (hv : Int64.ofNat (n : Nat) = v) (kk : AW Y K Rz σ (pc + 1) lv (.long v :: st)) : AW Y K Rz σ pc lv st := fun H locs ls hP hS hl => lv_lconst C.1 C.2.1 hd hv (kk H locs ls hP hS hl)
theorem cvl_at {a : Nat → Nat} {k i : Nat} {v : Value} (h : lv[k]? = some (i, v)) : (cvl a lv)[k]? = some (i, cv a v) := by rw [List.getElem?_map, h]; rfl
theorem aw_iload_n (C : Cx Y K) (k : Nat) {i : Fin 4} {x : Int32} (hd : decode Y.2.1 pc = .ok (.iload_n i, 1)) (hk : lv[k]? = some ((i : Nat), .int x)) (kk : AW Y K Rz σ (pc + 1) lv (.int x :: st)) : AW Y K Rz σ pc lv st := fun H locs ls hP hS hl => lv_iload_n C.1 C.2.1 hd rfl (lv_at hl k (cvl_at hk)) (kk H locs ls hP hS hl)
theorem aw_iload (C : Cx Y K) (k : Nat) {i : Nat} {x : Int32} (hd : decode Y.2.1 pc = .ok (.iload i, 2)) (hk : lv[k]? = some (i, .int x)) (kk : AW Y K Rz σ (pc + 2) lv (.int x :: st)) : AW Y K Rz σ pc lv st := fun H locs ls hP hS hl => lv_iload C.1 C.2.1 hd (lv_at hl k (cvl_at hk)) (kk H locs ls hP hS hl)
theorem aw_lload_n (C : Cx Y K) (k : Nat) {i : Fin 4} {x : Int64} (hd : decode Y.2.1 pc = .ok (.lload_n i, 1)) (hk : lv[k]? = some ((i : Nat), .long x)) (kk : AW Y K Rz σ (pc + 1) lv (.long x :: st)) : AW Y K Rz σ pc lv st := fun H locs ls hP hS hl => lv_lload_n C.1 C.2.1 hd rfl (lv_at hl k (cvl_at hk)) (kk H locs ls hP hS hl)
theorem aw_lload (C : Cx Y K) (k : Nat) {i : Nat} {x : Int64} (hd : decode Y.2.1 pc = .ok (.lload i, 2)) (hk : lv[k]? = some (i, .long x)) (kk : AW Y K Rz σ (pc + 2) lv (.long x :: st)) : AW Y K Rz σ pc lv st := fun H locs ls hP hS hl => lv_lload C.1 C.2.1 hd (lv_at hl k (cvl_at hk)) (kk H locs ls hP hS hl)
theorem aw_aload_n (C : Cx Y K) (k : Nat) {i : Fin 4} {x : Nat} (hd : decode Y.2.1 pc = .ok (.aload_n i, 1)) (hk : lv[k]? = some ((i : Nat), .ref x)) (kk : AW Y K Rz σ (pc + 1) lv (.ref x :: st)) : AW Y K Rz σ pc lv st := fun H locs ls hP hS hl => lv_aload_n C.1 C.2.1 hd rfl (lv_at hl k (cvl_at hk)) (kk H locs ls hP hS hl)
theorem aw_aload (C : Cx Y K) (k : Nat) {i : Nat} {x : Nat} (hd : decode Y.2.1 pc = .ok (.aload i, 2)) (hk : lv[k]? = some (i, .ref x)) (kk : AW Y K Rz σ (pc + 2) lv (.ref x :: st)) : AW Y K Rz σ pc lv st := fun H locs ls hP hS hl => lv_aload C.1 C.2.1 hd (lv_at hl k (cvl_at hk)) (kk H locs ls hP hS hl)
/-- the locals behind a store of one word at i, of two -/
def lvs1 (lv : List (Nat × Value)) (i : Nat) (v : Value) : List (Nat × Value) := (i, v) :: lv.filter (fun q => !(q.1 == i) && !(q.1 + 1 == i && q.2.category == 2))
def lvs2 (lv : List (Nat × Value)) (i : Nat) (v : Value) : List (Nat × Value) := (i, v) :: lv.filter (fun q => !(q.1 == i) && (!(q.1 == i + 1) && !(q.1 + 1 == i && q.2.category == 2)))
theorem cvl_s1 (a : Nat → Nat) (lv : List (Nat × Value)) (i : Nat) (v : Value) : (i, cv a v) :: (cvl a lv).filter (fun q => !(q.1 == i) && !(q.1 + 1 == i && q.2.category == 2)) = cvl a (lvs1 lv i v) := by
  simp only [lvs1, cvl, List.map_cons, List.filter_map]
  congr 2
  exact List.filter_congr (fun q _ => by simp [Function.comp, cv_cat])
theorem cvl_s2 (a : Nat → Nat) (lv : List (Nat × Value)) (i : Nat) (v : Value) : (i, cv a v) :: (cvl a lv).filter (fun q => !(q.1 == i) && (!(q.1 == i + 1) && !(q.1 + 1 == i && q.2.category == 2))) = cvl a (lvs2 lv i v) := by
  simp only [lvs2, cvl, List.map_cons, List.filter_map]
  congr 2
  exact List.filter_congr (fun q _ => by simp [Function.comp, cv_cat])
theorem aw_istore_n (C : Cx Y K) {i : Fin 4} {x : Int32} (lv' : List (Nat × Value)) (hd : decode Y.2.1 pc = .ok (.istore_n i, 1)) (hn : (i : Nat) < Y.2.2.1) (hl' : lvs1 lv i (.int x) = lv') (kk : AW Y K Rz σ (pc + 1) lv' st) : AW Y K Rz σ pc lv (.int x :: st) := fun H locs ls hP hS hl => lv_istore_n C.1 C.2.1 hd rfl hl hn (by rw [← hl']; exact cvl_s1 _ lv i (.int x)) (fun ls' h' => kk H locs ls' hP hS h')
theorem aw_istore (C : Cx Y K) {i : Nat} {x : Int32} (lv' : List (Nat × Value)) (hd : decode Y.2.1 pc = .ok (.istore i, 2)) (hn : i < Y.2.2.1) (hl' : lvs1 lv i (.int x) = lv') (kk : AW Y K Rz σ (pc + 2) lv' st) : AW Y K Rz σ pc lv (.int x :: st) := fun H locs ls hP hS hl => lv_istore C.1 C.2.1 hd hl hn (by rw [← hl']; exact cvl_s1 _ lv i (.int x)) (fun ls' h' => kk H locs ls' hP hS h')
theorem aw_astore_n (C : Cx Y K) {i : Fin 4} {x : Nat} (lv' : List (Nat × Value)) (hd : decode Y.2.1 pc = .ok (.astore_n i, 1)) (hn : (i : Nat) < Y.2.2.1) (hl' : lvs1 lv i (.ref x) = lv') (kk : AW Y K Rz σ (pc + 1) lv' st) : AW Y K Rz σ pc lv (.ref x :: st) := fun H locs ls hP hS hl => lv_astore_n C.1 C.2.1 hd rfl hl hn (by rw [← hl']; exact cvl_s1 _ lv i (.ref x)) (fun ls' h' => kk H locs ls' hP hS h')
theorem aw_astore (C : Cx Y K) {i : Nat} {x : Nat} (lv' : List (Nat × Value)) (hd : decode Y.2.1 pc = .ok (.astore i, 2)) (hn : i < Y.2.2.1) (hl' : lvs1 lv i (.ref x) = lv') (kk : AW Y K Rz σ (pc + 2) lv' st) : AW Y K Rz σ pc lv (.ref x :: st) := fun H locs ls hP hS hl => lv_astore C.1 C.2.1 hd hl hn (by rw [← hl']; exact cvl_s1 _ lv i (.ref x)) (fun ls' h' => kk H locs ls' hP hS h')
theorem aw_lstore (C : Cx Y K) {i : Nat} {x : Int64} (lv' : List (Nat × Value)) (hd : decode Y.2.1 pc = .ok (.lstore i, 2)) (hn : i + 1 < Y.2.2.1) (hl' : lvs2 lv i (.long x) = lv') (kk : AW Y K Rz σ (pc + 2) lv' st) : AW Y K Rz σ pc lv (.long x :: st) := fun H locs ls hP hS hl => lv_lstore C.1 C.2.1 hd hl hn (by rw [← hl']; exact cvl_s2 _ lv i (.long x)) (fun ls' h' => kk H locs ls' hP hS h')
theorem aw_iinc (C : Cx Y K) (k : Nat) {i : Nat} {n : Int} {x : Int32} (v : Int32) (lv' : List (Nat × Value)) (hd : decode Y.2.1 pc = .ok (.iinc i n, 3)) (hk : lv[k]? = some (i, .int x)) (hv : x + Int32.ofInt n = v) (hn : i < Y.2.2.1) (hl' : lvs1 lv i (.int v) = lv') (kk : AW Y K Rz σ (pc + 3) lv' st) : AW Y K Rz σ pc lv st := fun H locs ls hP hS hl => lv_iinc C.1 C.2.1 hd hl (cvl_at hk) hv hn (by rw [← hl']; exact cvl_s1 _ lv i (.int v)) (fun ls' h' => kk H locs ls' hP hS h')
theorem aw_iadd (C : Cx Y K) {x y : Int32} (hd : decode Y.2.1 pc = .ok (.iadd, 1)) (kk : AW Y K Rz σ (pc + 1) lv (.int (x + y) :: st)) : AW Y K Rz σ pc lv (.int y :: .int x :: st) := fun H locs ls hP hS hl => lv_iadd C.1 C.2.1 hd (kk H locs ls hP hS hl)
theorem aw_isub (C : Cx Y K) {x y : Int32} (hd : decode Y.2.1 pc = .ok (.isub, 1)) (kk : AW Y K Rz σ (pc + 1) lv (.int (x - y) :: st)) : AW Y K Rz σ pc lv (.int y :: .int x :: st) := fun H locs ls hP hS hl => lv_isub C.1 C.2.1 hd (kk H locs ls hP hS hl)
theorem aw_imul (C : Cx Y K) {x y : Int32} (hd : decode Y.2.1 pc = .ok (.imul, 1)) (kk : AW Y K Rz σ (pc + 1) lv (.int (x * y) :: st)) : AW Y K Rz σ pc lv (.int y :: .int x :: st) := fun H locs ls hP hS hl => lv_imul C.1 C.2.1 hd (kk H locs ls hP hS hl)
theorem aw_iand (C : Cx Y K) {x y : Int32} (hd : decode Y.2.1 pc = .ok (.iand, 1)) (kk : AW Y K Rz σ (pc + 1) lv (.int (x &&& y) :: st)) : AW Y K Rz σ pc lv (.int y :: .int x :: st) := fun H locs ls hP hS hl => lv_iand C.1 C.2.1 hd (kk H locs ls hP hS hl)
theorem aw_ior (C : Cx Y K) {x y : Int32} (hd : decode Y.2.1 pc = .ok (.ior, 1)) (kk : AW Y K Rz σ (pc + 1) lv (.int (x ||| y) :: st)) : AW Y K Rz σ pc lv (.int y :: .int x :: st) := fun H locs ls hP hS hl => lv_ior C.1 C.2.1 hd (kk H locs ls hP hS hl)
theorem aw_ishl (C : Cx Y K) {x y : Int32} (hd : decode Y.2.1 pc = .ok (.ishl, 1)) (kk : AW Y K Rz σ (pc + 1) lv (.int (x <<< (y &&& 31)) :: st)) : AW Y K Rz σ pc lv (.int y :: .int x :: st) := fun H locs ls hP hS hl => lv_ishl C.1 C.2.1 hd (kk H locs ls hP hS hl)
theorem aw_ishr (C : Cx Y K) {x y : Int32} (hd : decode Y.2.1 pc = .ok (.ishr, 1)) (kk : AW Y K Rz σ (pc + 1) lv (.int (x >>> (y &&& 31)) :: st)) : AW Y K Rz σ pc lv (.int y :: .int x :: st) := fun H locs ls hP hS hl => lv_ishr C.1 C.2.1 hd (kk H locs ls hP hS hl)
theorem aw_idiv (C : Cx Y K) {x y : Int32} (hd : decode Y.2.1 pc = .ok (.idiv, 1)) (hne : ¬ y = 0) (kk : AW Y K Rz σ (pc + 1) lv (.int (x / y) :: st)) : AW Y K Rz σ pc lv (.int y :: .int x :: st) := fun H locs ls hP hS hl => lv_idiv C.1 C.2.1 hd hne (kk H locs ls hP hS hl)
theorem aw_irem (C : Cx Y K) {x y : Int32} (hd : decode Y.2.1 pc = .ok (.irem, 1)) (hne : ¬ y = 0) (kk : AW Y K Rz σ (pc + 1) lv (.int (x - x / y * y) :: st)) : AW Y K Rz σ pc lv (.int y :: .int x :: st) := fun H locs ls hP hS hl => lv_irem C.1 C.2.1 hd hne (kk H locs ls hP hS hl)
theorem aw_ladd (C : Cx Y K) {x y : Int64} (hd : decode Y.2.1 pc = .ok (.ladd, 1)) (kk : AW Y K Rz σ (pc + 1) lv (.long (x + y) :: st)) : AW Y K Rz σ pc lv (.long y :: .long x :: st) := fun H locs ls hP hS hl => lv_ladd C.1 C.2.1 hd (kk H locs ls hP hS hl)
theorem aw_lmul (C : Cx Y K) {x y : Int64} (hd : decode Y.2.1 pc = .ok (.lmul, 1)) (kk : AW Y K Rz σ (pc + 1) lv (.long (x * y) :: st)) : AW Y K Rz σ pc lv (.long y :: .long x :: st) := fun H locs ls hP hS hl => lv_lmul C.1 C.2.1 hd (kk H locs ls hP hS hl)
theorem aw_ineg (C : Cx Y K) {x : Int32} (hd : decode Y.2.1 pc = .ok (.ineg, 1)) (kk : AW Y K Rz σ (pc + 1) lv (.int (-x) :: st)) : AW Y K Rz σ pc lv (.int x :: st) := fun H locs ls hP hS hl => lv_ineg C.1 C.2.1 hd (kk H locs ls hP hS hl)
theorem aw_iushr (C : Cx Y K) {x y : Int32} (hd : decode Y.2.1 pc = .ok (.iushr, 1)) (kk : AW Y K Rz σ (pc + 1) lv (.int ((x.toUInt32 >>> (y.toUInt32 &&& Int32.toUInt32 31)).toInt32) :: st)) : AW Y K Rz σ pc lv (.int y :: .int x :: st) := fun H locs ls hP hS hl => lv_iushr C.1 C.2.1 hd rfl (kk H locs ls hP hS hl)
theorem aw_i2l (C : Cx Y K) {x : Int32} (hd : decode Y.2.1 pc = .ok (.i2l, 1)) (kk : AW Y K Rz σ (pc + 1) lv (.long (x.toInt64) :: st)) : AW Y K Rz σ pc lv (.int x :: st) := fun H locs ls hP hS hl => lv_i2l C.1 C.2.1 hd rfl (kk H locs ls hP hS hl)
theorem aw_i2b (C : Cx Y K) {x : Int32} (hd : decode Y.2.1 pc = .ok (.i2b, 1)) (kk : AW Y K Rz σ (pc + 1) lv (.int (x.toInt8.toInt32) :: st)) : AW Y K Rz σ pc lv (.int x :: st) := fun H locs ls hP hS hl => lv_i2b C.1 C.2.1 hd rfl (kk H locs ls hP hS hl)
theorem aw_i2s (C : Cx Y K) {x : Int32} (hd : decode Y.2.1 pc = .ok (.i2s, 1)) (kk : AW Y K Rz σ (pc + 1) lv (.int (x.toInt16.toInt32) :: st)) : AW Y K Rz σ pc lv (.int x :: st) := fun H locs ls hP hS hl => lv_i2s C.1 C.2.1 hd rfl (kk H locs ls hP hS hl)
theorem aw_i2c (C : Cx Y K) {x : Int32} (hd : decode Y.2.1 pc = .ok (.i2c, 1)) (kk : AW Y K Rz σ (pc + 1) lv (.int ((x.toUInt32 % 65536).toInt32) :: st)) : AW Y K Rz σ pc lv (.int x :: st) := fun H locs ls hP hS hl => lv_i2c C.1 C.2.1 hd rfl (kk H locs ls hP hS hl)
theorem aw_lcmp (C : Cx Y K) {x y : Int64} (hd : decode Y.2.1 pc = .ok (.lcmp, 1)) (kk : AW Y K Rz σ (pc + 1) lv (.int (lg_cmp x y) :: st)) : AW Y K Rz σ pc lv (.long y :: .long x :: st) := fun H locs ls hP hS hl => W.lcmp C.1 C.2.1 hd (kk H locs ls hP hS hl)
theorem aw_dup (C : Cx Y K) {v : Value} (hd : decode Y.2.1 pc = .ok (.dup, 1)) (hv : v.category = 1) (kk : AW Y K Rz σ (pc + 1) lv (v :: v :: st)) : AW Y K Rz σ pc lv (v :: st) := fun H locs ls hP hS hl => lv_dup C.1 C.2.1 hd ((cv_cat _ v).trans hv) (kk H locs ls hP hS hl)
theorem aw_pop (C : Cx Y K) {v : Value} (hd : decode Y.2.1 pc = .ok (.pop, 1)) (hv : v.category = 1) (kk : AW Y K Rz σ (pc + 1) lv st) : AW Y K Rz σ pc lv (v :: st) := fun H locs ls hP hS hl => lv_pop C.1 C.2.1 hd ((cv_cat _ v).trans hv) (kk H locs ls hP hS hl)
theorem aw_dup2 (C : Cx Y K) {v w : Value} (hd : decode Y.2.1 pc = .ok (.dup2, 1)) (hv : v.category = 1) (hw : w.category = 1) (kk : AW Y K Rz σ (pc + 1) lv (v :: w :: v :: w :: st)) : AW Y K Rz σ pc lv (v :: w :: st) := fun H locs ls hP hS hl => lv_dup2_11 C.1 C.2.1 hd ((cv_cat _ v).trans hv) ((cv_cat _ w).trans hw) (kk H locs ls hP hS hl)
theorem aw_goto (C : Cx Y K) {off : Int} (tgt : Nat) (hd : decode Y.2.1 pc = .ok (.goto off, 3)) (ht : (pc : Int) + off = (tgt : Int)) (kk : AW Y K Rz σ tgt lv st) : AW Y K Rz σ pc lv st := fun H locs ls hP hS hl => lv_goto C.1 C.2.1 hd ht (kk H locs ls hP hS hl)
theorem aw_icmp_eq (C : Cx Y K) {x y : Int32} {off : Int} (tgt : Nat) (hd : decode Y.2.1 pc = .ok (.if_icmp .eq off, 3)) (ht : (pc : Int) + off = (tgt : Int)) (kt : x = y → AW Y K Rz σ tgt lv st) (kf : ¬ x = y → AW Y K Rz σ (pc + 3) lv st) : AW Y K Rz σ pc lv (.int y :: .int x :: st) := fun H locs ls hP hS hl => lv_icmp_eq C.1 C.2.1 hd ht (fun h => kt h H locs ls hP hS hl) (fun h => kf h H locs ls hP hS hl)
theorem aw_if_eq (C : Cx Y K) {x : Int32} {off : Int} (tgt : Nat) (hd : decode Y.2.1 pc = .ok (.ifCond .eq off, 3)) (ht : (pc : Int) + off = (tgt : Int)) (kt : x = 0 → AW Y K Rz σ tgt lv st) (kf : ¬ x = 0 → AW Y K Rz σ (pc + 3) lv st) : AW Y K Rz σ pc lv (.int x :: st) := fun H locs ls hP hS hl => lv_if_eq C.1 C.2.1 hd ht (fun h => kt h H locs ls hP hS hl) (fun h => kf h H locs ls hP hS hl)
theorem aw_icmp_ne (C : Cx Y K) {x y : Int32} {off : Int} (tgt : Nat) (hd : decode Y.2.1 pc = .ok (.if_icmp .ne off, 3)) (ht : (pc : Int) + off = (tgt : Int)) (kt : ¬ x = y → AW Y K Rz σ tgt lv st) (kf : x = y → AW Y K Rz σ (pc + 3) lv st) : AW Y K Rz σ pc lv (.int y :: .int x :: st) := fun H locs ls hP hS hl => lv_icmp_ne C.1 C.2.1 hd ht (fun h => kt h H locs ls hP hS hl) (fun h => kf h H locs ls hP hS hl)
theorem aw_if_ne (C : Cx Y K) {x : Int32} {off : Int} (tgt : Nat) (hd : decode Y.2.1 pc = .ok (.ifCond .ne off, 3)) (ht : (pc : Int) + off = (tgt : Int)) (kt : ¬ x = 0 → AW Y K Rz σ tgt lv st) (kf : x = 0 → AW Y K Rz σ (pc + 3) lv st) : AW Y K Rz σ pc lv (.int x :: st) := fun H locs ls hP hS hl => lv_if_ne C.1 C.2.1 hd ht (fun h => kt h H locs ls hP hS hl) (fun h => kf h H locs ls hP hS hl)
theorem aw_icmp_lt (C : Cx Y K) {x y : Int32} {off : Int} (tgt : Nat) (hd : decode Y.2.1 pc = .ok (.if_icmp .lt off, 3)) (ht : (pc : Int) + off = (tgt : Int)) (kt : x < y → AW Y K Rz σ tgt lv st) (kf : ¬ x < y → AW Y K Rz σ (pc + 3) lv st) : AW Y K Rz σ pc lv (.int y :: .int x :: st) := fun H locs ls hP hS hl => lv_icmp_lt C.1 C.2.1 hd ht (fun h => kt h H locs ls hP hS hl) (fun h => kf h H locs ls hP hS hl)
theorem aw_if_lt (C : Cx Y K) {x : Int32} {off : Int} (tgt : Nat) (hd : decode Y.2.1 pc = .ok (.ifCond .lt off, 3)) (ht : (pc : Int) + off = (tgt : Int)) (kt : x < 0 → AW Y K Rz σ tgt lv st) (kf : ¬ x < 0 → AW Y K Rz σ (pc + 3) lv st) : AW Y K Rz σ pc lv (.int x :: st) := fun H locs ls hP hS hl => lv_if_lt C.1 C.2.1 hd ht (fun h => kt h H locs ls hP hS hl) (fun h => kf h H locs ls hP hS hl)
theorem aw_icmp_ge (C : Cx Y K) {x y : Int32} {off : Int} (tgt : Nat) (hd : decode Y.2.1 pc = .ok (.if_icmp .ge off, 3)) (ht : (pc : Int) + off = (tgt : Int)) (kt : y ≤ x → AW Y K Rz σ tgt lv st) (kf : ¬ y ≤ x → AW Y K Rz σ (pc + 3) lv st) : AW Y K Rz σ pc lv (.int y :: .int x :: st) := fun H locs ls hP hS hl => lv_icmp_ge C.1 C.2.1 hd ht (fun h => kt h H locs ls hP hS hl) (fun h => kf h H locs ls hP hS hl)
theorem aw_if_ge (C : Cx Y K) {x : Int32} {off : Int} (tgt : Nat) (hd : decode Y.2.1 pc = .ok (.ifCond .ge off, 3)) (ht : (pc : Int) + off = (tgt : Int)) (kt : 0 ≤ x → AW Y K Rz σ tgt lv st) (kf : ¬ 0 ≤ x → AW Y K Rz σ (pc + 3) lv st) : AW Y K Rz σ pc lv (.int x :: st) := fun H locs ls hP hS hl => lv_if_ge C.1 C.2.1 hd ht (fun h => kt h H locs ls hP hS hl) (fun h => kf h H locs ls hP hS hl)
theorem aw_icmp_gt (C : Cx Y K) {x y : Int32} {off : Int} (tgt : Nat) (hd : decode Y.2.1 pc = .ok (.if_icmp .gt off, 3)) (ht : (pc : Int) + off = (tgt : Int)) (kt : y < x → AW Y K Rz σ tgt lv st) (kf : ¬ y < x → AW Y K Rz σ (pc + 3) lv st) : AW Y K Rz σ pc lv (.int y :: .int x :: st) := fun H locs ls hP hS hl => lv_icmp_gt C.1 C.2.1 hd ht (fun h => kt h H locs ls hP hS hl) (fun h => kf h H locs ls hP hS hl)
theorem aw_if_gt (C : Cx Y K) {x : Int32} {off : Int} (tgt : Nat) (hd : decode Y.2.1 pc = .ok (.ifCond .gt off, 3)) (ht : (pc : Int) + off = (tgt : Int)) (kt : 0 < x → AW Y K Rz σ tgt lv st) (kf : ¬ 0 < x → AW Y K Rz σ (pc + 3) lv st) : AW Y K Rz σ pc lv (.int x :: st) := fun H locs ls hP hS hl => lv_if_gt C.1 C.2.1 hd ht (fun h => kt h H locs ls hP hS hl) (fun h => kf h H locs ls hP hS hl)
theorem aw_icmp_le (C : Cx Y K) {x y : Int32} {off : Int} (tgt : Nat) (hd : decode Y.2.1 pc = .ok (.if_icmp .le off, 3)) (ht : (pc : Int) + off = (tgt : Int)) (kt : x ≤ y → AW Y K Rz σ tgt lv st) (kf : ¬ x ≤ y → AW Y K Rz σ (pc + 3) lv st) : AW Y K Rz σ pc lv (.int y :: .int x :: st) := fun H locs ls hP hS hl => lv_icmp_le C.1 C.2.1 hd ht (fun h => kt h H locs ls hP hS hl) (fun h => kf h H locs ls hP hS hl)
theorem aw_if_le (C : Cx Y K) {x : Int32} {off : Int} (tgt : Nat) (hd : decode Y.2.1 pc = .ok (.ifCond .le off, 3)) (ht : (pc : Int) + off = (tgt : Int)) (kt : x ≤ 0 → AW Y K Rz σ tgt lv st) (kf : ¬ x ≤ 0 → AW Y K Rz σ (pc + 3) lv st) : AW Y K Rz σ pc lv (.int x :: st) := fun H locs ls hP hS hl => lv_if_le C.1 C.2.1 hd ht (fun h => kt h H locs ls hP hS hl) (fun h => kf h H locs ls hP hS hl)
theorem aw_tableIn (C : Cx Y K) {dflt lo hi : Int} {offs : Array Int} {len : Nat} {x : Int32} {off : Int} (tgt : Nat) (hd : decode Y.2.1 pc = .ok (.tableswitch dflt lo hi offs, len)) (h1 : ¬ x.toInt < lo) (h2 : ¬ hi < x.toInt) (ho : offs[(x.toInt - lo).toNat]? = some off) (ht : (pc : Int) + off = (tgt : Int)) (kk : AW Y K Rz σ tgt lv st) : AW Y K Rz σ pc lv (.int x :: st) := fun H locs ls hP hS hl => lv_tableIn C.1 C.2.1 hd h1 h2 ho ht (kk H locs ls hP hS hl)
theorem aw_tableOut (C : Cx Y K) {dflt lo hi : Int} {offs : Array Int} {len : Nat} {x : Int32} (tgt : Nat) (hd : decode Y.2.1 pc = .ok (.tableswitch dflt lo hi offs, len)) (h : x.toInt < lo ∨ hi < x.toInt) (ht : (pc : Int) + dflt = (tgt : Int)) (kk : AW Y K Rz σ tgt lv st) : AW Y K Rz σ pc lv (.int x :: st) := fun H locs ls hP hS hl => lv_tableOut C.1 C.2.1 hd h ht (kk H locs ls hP hS hl)

theorem Cx.w (C : Cx Y K) {w : Cond} (h : w ∈ WTb) : w.before K.a K.s = true := C.2.2.2.2.2.1 w (List.mem_cons_of_mem _ h)
theorem aw_ldc (C : Cx Y K) {idx : Nat} {v : Int32} (hd : decode Y.2.1 pc = .ok (.ldc idx, 2)) (hw : Cond.constant Y.1.cls idx v ∈ WTb) (kk : AW Y K Rz σ (pc + 2) lv (.int v :: st)) : AW Y K Rz σ pc lv st := fun H locs ls hP hS hl => lv_ldc C.1 C.2.1 C.2.2.2.2.1 (C.w hw) hd (kk H locs ls hP hS hl)
theorem aw_ldcw (C : Cx Y K) {idx : Nat} {v : Int32} (hd : decode Y.2.1 pc = .ok (.ldc_w idx, 3)) (hw : Cond.constant Y.1.cls idx v ∈ WTb) (kk : AW Y K Rz σ (pc + 3) lv (.int v :: st)) : AW Y K Rz σ pc lv st := fun H locs ls hP hS hl => lv_ldcw C.1 C.2.1 C.2.2.2.2.1 (C.w hw) hd (kk H locs ls hP hS hl)
theorem aw_ldc2 (C : Cx Y K) {idx : Nat} {v : Int64} (hd : decode Y.2.1 pc = .ok (.ldc2_w idx, 3)) (hw : Cond.constantLong Y.1.cls idx v ∈ WTb) (kk : AW Y K Rz σ (pc + 3) lv (.long v :: st)) : AW Y K Rz σ pc lv st := fun H locs ls hP hS hl => lv_ldc2 C.1 C.2.1 C.2.2.2.2.1 (C.w hw) hd (kk H locs ls hP hS hl)
/-- the answer -/
theorem aw_iret (C : Cx Y K) {x y : Int32} {σ' : St} (hr : Y.2.2.2.1 = some .int) (hd : decode Y.2.1 pc = .ok (.ireturn, 1)) (hv : x = y) (hσ : σ = σ') : AW Y K (some (.int y), σ') σ pc lv [.int x] := by
  subst hv; subst hσ
  intro H locs ls hP hS hl
  exact W.iret C.1 C.2.1 (C.2.2.1.trans hr) (fun t ht hW => ⟨rfl, by rw [ht]; exact hP, hS.F ht⟩) hS.2.2 hd C.2.2.2.2.2.2.1
theorem aw_zret (C : Cx Y K) {x y : Int32} {σ' : St} {ty : FieldType} (hr : Y.2.2.2.1 = some ty) (hn : narrow ty (.int x) = .int x) (hd : decode Y.2.1 pc = .ok (.ireturn, 1)) (hv : x = y) (hσ : σ = σ') : AW Y K (some (.int y), σ') σ pc lv [.int x] := by
  subst hv; subst hσ
  intro H locs ls hP hS hl
  exact W.zret C.1 C.2.1 (C.2.2.1.trans hr) hn (fun t ht hW => ⟨rfl, by rw [ht]; exact hP, hS.F ht⟩) hS.2.2 hd C.2.2.2.2.2.2.1
theorem aw_lret (C : Cx Y K) {x y : Int64} {σ' : St} (hr : Y.2.2.2.1 = some .long) (hd : decode Y.2.1 pc = .ok (.lreturn, 1)) (hv : x = y) (hσ : σ = σ') : AW Y K (some (.long y), σ') σ pc lv [.long x] := by
  subst hv; subst hσ
  intro H locs ls hP hS hl
  exact W.lret C.1 C.2.1 (C.2.2.1.trans hr) (fun t ht hW => ⟨rfl, by rw [ht]; exact hP, hS.F ht⟩) hS.2.2 hd C.2.2.2.2.2.2.1
theorem aw_vret (C : Cx Y K) {σ' : St} (hr : Y.2.2.2.1 = none) (hd : decode Y.2.1 pc = .ok (.return_, 1)) (hσ : σ = σ') : AW Y K (none, σ') σ pc lv [] := by
  subst hσ
  intro H locs ls hP hS hl
  exact W.vret C.1 C.2.1 (C.2.2.1.trans hr) (fun t ht hW => ⟨rfl, by rw [ht]; exact hP, hS.F ht⟩) hS.2.2 hd C.2.2.2.2.2.2.1
theorem Pic.one {g : Geo} {H : Heap} (h : Pic g σ H) {c : Nat} {a : AE} (hc : SH[c]? = some a) : va_P g.1 vwCl [(g.2.1 c, entOf g σ a)] H := by
  intro k q hk
  cases k with
  | zero => cases hk; exact h c a hc
  | succ k => simp at hk
theorem SH_smallI {c r o n : Nat} (h : SH[c]? = some (.inr (.inl (r, o, n)))) : n < 1000 := by
  have h1 : SH.all (fun a => match a with
    | .inr (.inl q) => Nat.blt q.2.2 1000
    | _ => true) = true := by decide +kernel
  have h2 := List.all_eq_true.mp h1 _ (List.mem_of_getElem? h)
  simpa [Nat.blt_eq] using h2
theorem SH_smallL {c r n : Nat} (h : SH[c]? = some (.inr (.inr (.inl (r, n))))) : n < 1000 := by
  have h1 : SH.all (fun a => match a with
    | .inr (.inr (.inl q)) => Nat.blt q.2 1000
    | _ => true) = true := by decide +kernel
  have h2 := List.all_eq_true.mp h1 _ (List.mem_of_getElem? h)
  simpa [Nat.blt_eq] using h2
theorem SH_smallR {c t n b : Nat} (h : SH[c]? = some (.inr (.inr (.inr (t, n, b))))) : n < 1000 ∧ (t = 2 ∨ t = 3) := by
  have h1 : SH.all (fun a => match a with
    | .inr (.inr (.inr q)) => Nat.blt q.2.1 1000 && (q.1 == 2 || q.1 == 3)
    | _ => true) = true := by decide +kernel
  have h2 := List.all_eq_true.mp h1 _ (List.mem_of_getElem? h)
  simpa [Nat.blt_eq] using h2
theorem aw_iald (C : Cx Y K) {c r o n k : Nat} {i : Int32} (hc : SH[c]? = some (.inr (.inl (r, o, n)))) (hd : decode Y.2.1 pc = .ok (.iaload, 1)) (hi : i = nI k) (hk : k < n) (kk : AW Y K Rz σ (pc + 1) lv (.int (σ.1 r (k + o)) :: st)) : AW Y K Rz σ pc lv (.int i :: .ref c :: st) := by
  subst hi
  intro H locs ls hP hS hl
  have hs := SH_smallI hc
  have hin := vp_in_nI hk (show n < 2 ^ 31 by omega)
  have e : rowI σ r o n (nI k).toNatClampNeg = σ.1 r (k + o) := by rw [nI_clamp (by omega)]; exact if_pos hk
  refine va_iald (a := K.g.2.1 c) (f := rowI σ r o n) C.1 C.2.1 C.2.2.2.2.2.2.2.1 (hP.one hc) 0 0 rfl rfl hin hd ?_
  rw [e]
  exact kk H locs ls hP hS hl
theorem aw_lald (C : Cx Y K) {c r n k : Nat} {i : Int32} (hc : SH[c]? = some (.inr (.inr (.inl (r, n))))) (hd : decode Y.2.1 pc = .ok (.laload, 1)) (hi : i = nI k) (hk : k < n) (kk : AW Y K Rz σ (pc + 1) lv (.long (σ.2 r k) :: st)) : AW Y K Rz σ pc lv (.int i :: .ref c :: st) := by
  subst hi
  intro H locs ls hP hS hl
  have hs := SH_smallL hc
  have hin := vp_in_nI hk (show n < 2 ^ 31 by omega)
  have e : rowL σ r n (nI k).toNatClampNeg = σ.2 r k := by rw [nI_clamp (by omega)]; exact if_pos hk
  refine va_lald (a := K.g.2.1 c) (f := rowL σ r n) C.1 C.2.1 C.2.2.2.2.2.2.2.1 (hP.one hc) 0 1 rfl rfl hin hd ?_
  rw [e]
  exact kk H locs ls hP hS hl
theorem aw_aald (C : Cx Y K) {c t n b k : Nat} {i : Int32} (hc : SH[c]? = some (.inr (.inr (.inr (t, n, b))))) (hd : decode Y.2.1 pc = .ok (.aaload, 1)) (hi : i = nI k) (hk : k < n) (kk : AW Y K Rz σ (pc + 1) lv (.ref (b + 2 * k) :: st)) : AW Y K Rz σ pc lv (.int i :: .ref c :: st) := by
  subst hi
  intro H locs ls hP hS hl
  obtain ⟨hs, ht⟩ := SH_smallR hc
  have hin := vp_in_nI hk (show n < 2 ^ 31 by omega)
  have e : va_rf ((fun i => if i < n then some (K.g.2.1 (b + 2 * i)) else none) (nI k).toNatClampNeg) = .ref (K.g.2.1 (b + 2 * k)) := by
    rw [nI_clamp (by omega)]
    show va_rf (if k < n then _ else _) = _
    rw [if_pos hk]; rfl
  rcases ht with rfl | rfl
  · refine va_aldq (a := K.g.2.1 c) (f := fun i => if i < n then some (K.g.2.1 (b + 2 * i)) else none) (C := "SpoonRace$Runner") C.1 C.2.1 C.2.2.2.2.2.2.2.1 (hP.one hc) 0 2 rfl rfl hin hd ?_
    rw [e]
    exact kk H locs ls hP hS hl
  · refine va_aldq (a := K.g.2.1 c) (f := fun i => if i < n then some (K.g.2.1 (b + 2 * i)) else none) (C := "SpoonRace$Sheet") C.1 C.2.1 C.2.2.2.2.2.2.2.1 (hP.one hc) 0 3 rfl rfl hin hd ?_
    rw [e]
    exact kk H locs ls hP hS hl
theorem aw_alenI (C : Cx Y K) {c r o n : Nat} (hc : SH[c]? = some (.inr (.inl (r, o, n)))) (hd : decode Y.2.1 pc = .ok (.arraylength, 1)) (kk : AW Y K Rz σ (pc + 1) lv (.int (nI n) :: st)) : AW Y K Rz σ pc lv (.ref c :: st) := fun H locs ls hP hS hl =>
  va_alen (a := K.g.2.1 c) (ty := .int) C.1 C.2.1 C.2.2.2.2.2.2.2.1 (hP.one hc) 0 0 rfl rfl rfl hd (kk H locs ls hP hS hl)
theorem aw_alenL (C : Cx Y K) {c r n : Nat} (hc : SH[c]? = some (.inr (.inr (.inl (r, n))))) (hd : decode Y.2.1 pc = .ok (.arraylength, 1)) (kk : AW Y K Rz σ (pc + 1) lv (.int (nI n) :: st)) : AW Y K Rz σ pc lv (.ref c :: st) := fun H locs ls hP hS hl =>
  va_alen (a := K.g.2.1 c) (ty := .long) C.1 C.2.1 C.2.2.2.2.2.2.2.1 (hP.one hc) 0 1 rfl rfl rfl hd (kk H locs ls hP hS hl)
theorem Aof_in {g : Geo} {c : Nat} {a : AE} (hc : SH[c]? = some a) : Aof g (g.2.1 c) := ⟨c, SH_lt hc, rfl⟩
theorem aw_iast (C : Cx Y K) {c r o n k : Nat} {i x : Int32} (hc : SH[c]? = some (.inr (.inl (r, o, n)))) (hd : decode Y.2.1 pc = .ok (.iastore, 1)) (hi : i = nI k) (hk : k < n) (kk : AW Y K Rz (setR σ r (upd (σ.1 r) (k + o) x)) (pc + 1) lv st) : AW Y K Rz σ pc lv (.int x :: .int i :: .ref c :: st) := by
  subst hi
  intro H locs ls hP hS hl
  have hs := SH_smallI hc
  have hin := vp_in_nI hk (show n < 2 ^ 31 by omega)
  refine W.iast C.1 C.2.1 (hP c _ hc) ((C.2.2.2.2.2.2.2.1.2 0 _ rfl).1 n (fun j => .int (rowI σ r o n j))) (fun q => by cases q) (by show ¬ (nI k < 0 ∨ (arrV _ _ _).slots.size ≤ _); rw [arrV_size]; exact hin) rfl rfl hd fun H1 e z oq => ?_
  refine kk H1 _ ls (hP.rowI C.2.2.2.2.2.2.2.2.1 hc oq (fun q hq => pk_un (by omega)) ?_) (hS.put z oq (Aof_in hc)) hl
  refine e.trans ?_
  show some ((vp_cell (K.g.2.2 0) (n, .inl (rowI σ r o n))).setSlot (nI k).toNatClampNeg (.int x)) = some (vp_cell (K.g.2.2 0) (n, .inl (rowI (setR σ r (upd (σ.1 r) (k + o) x)) r o n)))
  rw [vp_cell_i, vp_cell_i, arrV_store, nI_clamp (by omega)]
  congr 2
  funext q
  by_cases hq : q = k
  · subst hq
    simp [updV, rowI, hk, setR_at, upd]
  · simp [updV, rowI, setR_at, upd, hq]
theorem aw_last (C : Cx Y K) {c r n k : Nat} {i : Int32} {x : Int64} (hc : SH[c]? = some (.inr (.inr (.inl (r, n))))) (hd : decode Y.2.1 pc = .ok (.lastore, 1)) (hi : i = nI k) (hk : k < n) (kk : AW Y K Rz (setL σ r (vp_updL (σ.2 r) k x)) (pc + 1) lv st) : AW Y K Rz σ pc lv (.long x :: .int i :: .ref c :: st) := by
  subst hi
  intro H locs ls hP hS hl
  have hs := SH_smallL hc
  have hin := vp_in_nI hk (show n < 2 ^ 31 by omega)
  refine W.last C.1 C.2.1 (hP c _ hc) ((C.2.2.2.2.2.2.2.1.2 1 _ rfl).1 n (fun j => .long (rowL σ r n j))) (fun q => by cases q) (by show ¬ (nI k < 0 ∨ (arrV _ _ _).slots.size ≤ _); rw [arrV_size]; exact hin) rfl rfl hd fun H1 e z oq => ?_
  refine kk H1 _ ls (hP.rowL C.2.2.2.2.2.2.2.2.1 hc oq ?_) (hS.put z oq (Aof_in hc)) hl
  refine e.trans ?_
  show some ((vp_cell (K.g.2.2 1) (n, .inr (.inl (rowL σ r n)))).setSlot (nI k).toNatClampNeg (.long x)) = some (vp_cell (K.g.2.2 1) (n, .inr (.inl (rowL (setL σ r (vp_updL (σ.2 r) k x)) r n))))
  rw [vp_cell_l, vp_cell_l, arrV_store, nI_clamp (by omega)]
  congr 2
  funext q
  by_cases hq : q = k
  · subst hq
    simp [updV, rowL, hk, setL_at, vp_updL]
  · simp [updV, rowL, setL_at, vp_updL, hq]
end AWR
end
