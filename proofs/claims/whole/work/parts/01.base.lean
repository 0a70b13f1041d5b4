/-! PART A of the skeleton: the tables' words -/
/-- a private method of a class that the tables say can be made, by its rows of tables_1 -/
def lw_okq (q : MethodName × Nat) : Prop := (q.1.cls ≠ "java/lang/invoke/MethodHandle" ∧ q.1.cls ≠ "java/lang/invoke/VarHandle") ∧ Cond.instantiable q.1.cls q.2 ∈ tables_1 ∧ Cond.privateMethod q.1 ∈ tables_1 ∧ Cond.instanceMethod q.1 ∈ tables_1
theorem lw_p0 : lw_okq (⟨"WorkChains$Reader", "step", "()V"⟩, 12) := ⟨⟨by decide +kernel, by decide +kernel⟩, List.mem_of_getElem? (i := 183) (by decide +kernel), List.mem_of_getElem? (i := 502) (by decide +kernel), List.mem_of_getElem? (i := 503) (by decide +kernel)⟩
theorem lw_p1 : lw_okq (⟨"WorkChains$Reader", "readLine", "(I)Z"⟩, 12) := ⟨⟨by decide +kernel, by decide +kernel⟩, List.mem_of_getElem? (i := 183) (by decide +kernel), List.mem_of_getElem? (i := 515) (by decide +kernel), List.mem_of_getElem? (i := 516) (by decide +kernel)⟩
theorem lw_p2 : lw_okq (⟨"WorkChains$Reader", "wordOf", "(I)I"⟩, 12) := ⟨⟨by decide +kernel, by decide +kernel⟩, List.mem_of_getElem? (i := 183) (by decide +kernel), List.mem_of_getElem? (i := 519) (by decide +kernel), List.mem_of_getElem? (i := 520) (by decide +kernel)⟩
theorem lw_p3 : lw_okq (⟨"WorkChains$Reader", "isToken", "(Ljava/lang/String;)Z"⟩, 12) := ⟨⟨by decide +kernel, by decide +kernel⟩, List.mem_of_getElem? (i := 183) (by decide +kernel), List.mem_of_getElem? (i := 540) (by decide +kernel), List.mem_of_getElem? (i := 541) (by decide +kernel)⟩
theorem lw_p4 : lw_okq (⟨"WorkChains$Reader", "noTextGoesOn", "()Z"⟩, 12) := ⟨⟨by decide +kernel, by decide +kernel⟩, List.mem_of_getElem? (i := 183) (by decide +kernel), List.mem_of_getElem? (i := 592) (by decide +kernel), List.mem_of_getElem? (i := 593) (by decide +kernel)⟩
theorem lw_p5 : lw_okq (⟨"WorkChains$Reader", "isTooMany", "(II)Z"⟩, 12) := ⟨⟨by decide +kernel, by decide +kernel⟩, List.mem_of_getElem? (i := 183) (by decide +kernel), List.mem_of_getElem? (i := 596) (by decide +kernel), List.mem_of_getElem? (i := 597) (by decide +kernel)⟩
theorem lw_p6 : lw_okq (⟨"WorkChains$Reader", "note", "(I)V"⟩, 12) := ⟨⟨by decide +kernel, by decide +kernel⟩, List.mem_of_getElem? (i := 183) (by decide +kernel), List.mem_of_getElem? (i := 604) (by decide +kernel), List.mem_of_getElem? (i := 605) (by decide +kernel)⟩
theorem lw_p7 : lw_okq (⟨"WorkChains$Reader", "canBe", "(III)Z"⟩, 12) := ⟨⟨by decide +kernel, by decide +kernel⟩, List.mem_of_getElem? (i := 183) (by decide +kernel), List.mem_of_getElem? (i := 611) (by decide +kernel), List.mem_of_getElem? (i := 612) (by decide +kernel)⟩
theorem lw_p8 : lw_okq (⟨"WorkChains$Reader", "isFrom", "(II)Z"⟩, 12) := ⟨⟨by decide +kernel, by decide +kernel⟩, List.mem_of_getElem? (i := 183) (by decide +kernel), List.mem_of_getElem? (i := 619) (by decide +kernel), List.mem_of_getElem? (i := 620) (by decide +kernel)⟩
theorem lw_p9 : lw_okq (⟨"WorkChains$Reader", "canBeOfBlock", "(I)Z"⟩, 12) := ⟨⟨by decide +kernel, by decide +kernel⟩, List.mem_of_getElem? (i := 183) (by decide +kernel), List.mem_of_getElem? (i := 623) (by decide +kernel), List.mem_of_getElem? (i := 624) (by decide +kernel)⟩
theorem lw_p10 : lw_okq (⟨"WorkChains$Reader", "canBeOfPay", "(I)Z"⟩, 12) := ⟨⟨by decide +kernel, by decide +kernel⟩, List.mem_of_getElem? (i := 183) (by decide +kernel), List.mem_of_getElem? (i := 627) (by decide +kernel), List.mem_of_getElem? (i := 628) (by decide +kernel)⟩
theorem lw_p11 : lw_okq (⟨"WorkChains$Reader", "tellLine", "(II)V"⟩, 12) := ⟨⟨by decide +kernel, by decide +kernel⟩, List.mem_of_getElem? (i := 183) (by decide +kernel), List.mem_of_getElem? (i := 631) (by decide +kernel), List.mem_of_getElem? (i := 632) (by decide +kernel)⟩
theorem lw_p12 : lw_okq (⟨"WorkChains$Rows", "put", "(II)V"⟩, 4) := ⟨⟨by decide +kernel, by decide +kernel⟩, List.mem_of_getElem? (i := 126) (by decide +kernel), List.mem_of_getElem? (i := 652) (by decide +kernel), List.mem_of_getElem? (i := 653) (by decide +kernel)⟩
theorem lw_p13 : lw_okq (⟨"WorkChains", "goAll", "(III)Z"⟩, 9) := ⟨⟨by decide +kernel, by decide +kernel⟩, List.mem_of_getElem? (i := 21) (by decide +kernel), List.mem_of_getElem? (i := 762) (by decide +kernel), List.mem_of_getElem? (i := 763) (by decide +kernel)⟩
theorem lw_p14 : lw_okq (⟨"WorkChains", "weigh", "(II)Z"⟩, 9) := ⟨⟨by decide +kernel, by decide +kernel⟩, List.mem_of_getElem? (i := 21) (by decide +kernel), List.mem_of_getElem? (i := 766) (by decide +kernel), List.mem_of_getElem? (i := 767) (by decide +kernel)⟩
theorem lw_p15 : lw_okq (⟨"WorkChains$Chart", "turned", "(II)J"⟩, 12) := ⟨⟨by decide +kernel, by decide +kernel⟩, List.mem_of_getElem? (i := 238) (by decide +kernel), List.mem_of_getElem? (i := 784) (by decide +kernel), List.mem_of_getElem? (i := 785) (by decide +kernel)⟩
def lw_privs_1 : List (MethodName × Nat) := [(⟨"WorkChains$Reader", "step", "()V"⟩, 12), (⟨"WorkChains$Reader", "readLine", "(I)Z"⟩, 12), (⟨"WorkChains$Reader", "wordOf", "(I)I"⟩, 12), (⟨"WorkChains$Reader", "isToken", "(Ljava/lang/String;)Z"⟩, 12), (⟨"WorkChains$Reader", "noTextGoesOn", "()Z"⟩, 12), (⟨"WorkChains$Reader", "isTooMany", "(II)Z"⟩, 12), (⟨"WorkChains$Reader", "note", "(I)V"⟩, 12), (⟨"WorkChains$Reader", "canBe", "(III)Z"⟩, 12), (⟨"WorkChains$Reader", "isFrom", "(II)Z"⟩, 12), (⟨"WorkChains$Reader", "canBeOfBlock", "(I)Z"⟩, 12), (⟨"WorkChains$Reader", "canBeOfPay", "(I)Z"⟩, 12), (⟨"WorkChains$Reader", "tellLine", "(II)V"⟩, 12), (⟨"WorkChains$Rows", "put", "(II)V"⟩, 4), (⟨"WorkChains", "goAll", "(III)Z"⟩, 9), (⟨"WorkChains", "weigh", "(II)Z"⟩, 9), (⟨"WorkChains$Chart", "turned", "(II)J"⟩, 12)]
theorem lw_r1 : ∀ q ∈ lw_privs_1, lw_okq q := List.forall_mem_cons.mpr ⟨lw_p0, List.forall_mem_cons.mpr ⟨lw_p1, List.forall_mem_cons.mpr ⟨lw_p2, List.forall_mem_cons.mpr ⟨lw_p3, List.forall_mem_cons.mpr ⟨lw_p4, List.forall_mem_cons.mpr ⟨lw_p5, List.forall_mem_cons.mpr ⟨lw_p6, List.forall_mem_cons.mpr ⟨lw_p7, List.forall_mem_cons.mpr ⟨lw_p8, List.forall_mem_cons.mpr ⟨lw_p9, List.forall_mem_cons.mpr ⟨lw_p10, List.forall_mem_cons.mpr ⟨lw_p11, List.forall_mem_cons.mpr ⟨lw_p12, List.forall_mem_cons.mpr ⟨lw_p13, List.forall_mem_cons.mpr ⟨lw_p14, List.forall_mem_cons.mpr ⟨lw_p15, fun _ h => absurd h List.not_mem_nil⟩⟩⟩⟩⟩⟩⟩⟩⟩⟩⟩⟩⟩⟩⟩⟩
theorem lw_p16 : lw_okq (⟨"WorkChains$Course", "may", "(II)Z"⟩, 15) := ⟨⟨by decide +kernel, by decide +kernel⟩, List.mem_of_getElem? (i := 315) (by decide +kernel), List.mem_of_getElem? (i := 842) (by decide +kernel), List.mem_of_getElem? (i := 843) (by decide +kernel)⟩
theorem lw_p17 : lw_okq (⟨"WorkChains$Course", "becomeWhole", "()V"⟩, 15) := ⟨⟨by decide +kernel, by decide +kernel⟩, List.mem_of_getElem? (i := 315) (by decide +kernel), List.mem_of_getElem? (i := 847) (by decide +kernel), List.mem_of_getElem? (i := 848) (by decide +kernel)⟩
theorem lw_p18 : lw_okq (⟨"WorkChains$Chart", "heaviest", "(I[I)I"⟩, 12) := ⟨⟨by decide +kernel, by decide +kernel⟩, List.mem_of_getElem? (i := 238) (by decide +kernel), List.mem_of_getElem? (i := 857) (by decide +kernel), List.mem_of_getElem? (i := 858) (by decide +kernel)⟩
theorem lw_p19 : lw_okq (⟨"WorkChains$Chart", "sumUp", "(I)V"⟩, 12) := ⟨⟨by decide +kernel, by decide +kernel⟩, List.mem_of_getElem? (i := 238) (by decide +kernel), List.mem_of_getElem? (i := 861) (by decide +kernel), List.mem_of_getElem? (i := 862) (by decide +kernel)⟩
theorem lw_p20 : lw_okq (⟨"WorkChains$Chart", "chosenByChildren", "(I[I)I"⟩, 12) := ⟨⟨by decide +kernel, by decide +kernel⟩, List.mem_of_getElem? (i := 238) (by decide +kernel), List.mem_of_getElem? (i := 865) (by decide +kernel), List.mem_of_getElem? (i := 866) (by decide +kernel)⟩
theorem lw_p21 : lw_okq (⟨"WorkChains$Course", "goTo", "(I)V"⟩, 15) := ⟨⟨by decide +kernel, by decide +kernel⟩, List.mem_of_getElem? (i := 315) (by decide +kernel), List.mem_of_getElem? (i := 869) (by decide +kernel), List.mem_of_getElem? (i := 870) (by decide +kernel)⟩
theorem lw_p22 : lw_okq (⟨"WorkChains", "stateOf", "(I)I"⟩, 9) := ⟨⟨by decide +kernel, by decide +kernel⟩, List.mem_of_getElem? (i := 21) (by decide +kernel), List.mem_of_getElem? (i := 884) (by decide +kernel), List.mem_of_getElem? (i := 885) (by decide +kernel)⟩
theorem lw_p23 : lw_okq (⟨"WorkChains$Chart", "heaviestOnes", "()I"⟩, 12) := ⟨⟨by decide +kernel, by decide +kernel⟩, List.mem_of_getElem? (i := 238) (by decide +kernel), List.mem_of_getElem? (i := 941) (by decide +kernel), List.mem_of_getElem? (i := 942) (by decide +kernel)⟩
theorem lw_p24 : lw_okq (⟨"WorkChains", "withheldSize", "()I"⟩, 9) := ⟨⟨by decide +kernel, by decide +kernel⟩, List.mem_of_getElem? (i := 21) (by decide +kernel), List.mem_of_getElem? (i := 945) (by decide +kernel), List.mem_of_getElem? (i := 946) (by decide +kernel)⟩
theorem lw_p25 : lw_okq (⟨"WorkChains", "withheld", "()I"⟩, 9) := ⟨⟨by decide +kernel, by decide +kernel⟩, List.mem_of_getElem? (i := 21) (by decide +kernel), List.mem_of_getElem? (i := 949) (by decide +kernel), List.mem_of_getElem? (i := 950) (by decide +kernel)⟩
theorem lw_p26 : lw_okq (⟨"WorkChains", "weighFor", "(III)Z"⟩, 9) := ⟨⟨by decide +kernel, by decide +kernel⟩, List.mem_of_getElem? (i := 21) (by decide +kernel), List.mem_of_getElem? (i := 962) (by decide +kernel), List.mem_of_getElem? (i := 963) (by decide +kernel)⟩
theorem lw_p27 : lw_okq (⟨"WorkChains$Chart", "soundChildren", "(I)I"⟩, 12) := ⟨⟨by decide +kernel, by decide +kernel⟩, List.mem_of_getElem? (i := 238) (by decide +kernel), List.mem_of_getElem? (i := 986) (by decide +kernel), List.mem_of_getElem? (i := 987) (by decide +kernel)⟩
theorem lw_p28 : lw_okq (⟨"WorkChains", "drawWays", "(III)Z"⟩, 9) := ⟨⟨by decide +kernel, by decide +kernel⟩, List.mem_of_getElem? (i := 21) (by decide +kernel), List.mem_of_getElem? (i := 1057) (by decide +kernel), List.mem_of_getElem? (i := 1058) (by decide +kernel)⟩
theorem lw_p29 : lw_okq (⟨"WorkChains$Filling", "extend", "(III)V"⟩, 6) := ⟨⟨by decide +kernel, by decide +kernel⟩, List.mem_of_getElem? (i := 408) (by decide +kernel), List.mem_of_getElem? (i := 1082) (by decide +kernel), List.mem_of_getElem? (i := 1083) (by decide +kernel)⟩
theorem lw_p30 : lw_okq (⟨"WorkChains", "survey", "(IIII)Z"⟩, 9) := ⟨⟨by decide +kernel, by decide +kernel⟩, List.mem_of_getElem? (i := 21) (by decide +kernel), List.mem_of_getElem? (i := 1115) (by decide +kernel), List.mem_of_getElem? (i := 1116) (by decide +kernel)⟩
theorem lw_p31 : lw_okq (⟨"WorkChains$Laws", "goThrough", "(LWorkChains$Rows;[I)V"⟩, 6) := ⟨⟨by decide +kernel, by decide +kernel⟩, List.mem_of_getElem? (i := 379) (by decide +kernel), List.mem_of_getElem? (i := 1127) (by decide +kernel), List.mem_of_getElem? (i := 1128) (by decide +kernel)⟩
def lw_privs_2 : List (MethodName × Nat) := [(⟨"WorkChains$Course", "may", "(II)Z"⟩, 15), (⟨"WorkChains$Course", "becomeWhole", "()V"⟩, 15), (⟨"WorkChains$Chart", "heaviest", "(I[I)I"⟩, 12), (⟨"WorkChains$Chart", "sumUp", "(I)V"⟩, 12), (⟨"WorkChains$Chart", "chosenByChildren", "(I[I)I"⟩, 12), (⟨"WorkChains$Course", "goTo", "(I)V"⟩, 15), (⟨"WorkChains", "stateOf", "(I)I"⟩, 9), (⟨"WorkChains$Chart", "heaviestOnes", "()I"⟩, 12), (⟨"WorkChains", "withheldSize", "()I"⟩, 9), (⟨"WorkChains", "withheld", "()I"⟩, 9), (⟨"WorkChains", "weighFor", "(III)Z"⟩, 9), (⟨"WorkChains$Chart", "soundChildren", "(I)I"⟩, 12), (⟨"WorkChains", "drawWays", "(III)Z"⟩, 9), (⟨"WorkChains$Filling", "extend", "(III)V"⟩, 6), (⟨"WorkChains", "survey", "(IIII)Z"⟩, 9), (⟨"WorkChains$Laws", "goThrough", "(LWorkChains$Rows;[I)V"⟩, 6)]
theorem lw_r2 : ∀ q ∈ lw_privs_2, lw_okq q := List.forall_mem_cons.mpr ⟨lw_p16, List.forall_mem_cons.mpr ⟨lw_p17, List.forall_mem_cons.mpr ⟨lw_p18, List.forall_mem_cons.mpr ⟨lw_p19, List.forall_mem_cons.mpr ⟨lw_p20, List.forall_mem_cons.mpr ⟨lw_p21, List.forall_mem_cons.mpr ⟨lw_p22, List.forall_mem_cons.mpr ⟨lw_p23, List.forall_mem_cons.mpr ⟨lw_p24, List.forall_mem_cons.mpr ⟨lw_p25, List.forall_mem_cons.mpr ⟨lw_p26, List.forall_mem_cons.mpr ⟨lw_p27, List.forall_mem_cons.mpr ⟨lw_p28, List.forall_mem_cons.mpr ⟨lw_p29, List.forall_mem_cons.mpr ⟨lw_p30, List.forall_mem_cons.mpr ⟨lw_p31, fun _ h => absurd h List.not_mem_nil⟩⟩⟩⟩⟩⟩⟩⟩⟩⟩⟩⟩⟩⟩⟩⟩
theorem lw_p32 : lw_okq (⟨"WorkChains$Laws", "greatestGroup", "(I)I"⟩, 6) := ⟨⟨by decide +kernel, by decide +kernel⟩, List.mem_of_getElem? (i := 379) (by decide +kernel), List.mem_of_getElem? (i := 1144) (by decide +kernel), List.mem_of_getElem? (i := 1145) (by decide +kernel)⟩
theorem lw_p33 : lw_okq (⟨"WorkChainsModel", "four", "(I)V"⟩, 66) := ⟨⟨by decide +kernel, by decide +kernel⟩, List.mem_of_getElem? (i := 1154) (by decide +kernel), List.mem_of_getElem? (i := 1363) (by decide +kernel), List.mem_of_getElem? (i := 1364) (by decide +kernel)⟩
theorem lw_p34 : lw_okq (⟨"WorkChainsModel", "is", "(II)Z"⟩, 66) := ⟨⟨by decide +kernel, by decide +kernel⟩, List.mem_of_getElem? (i := 1154) (by decide +kernel), List.mem_of_getElem? (i := 1378) (by decide +kernel), List.mem_of_getElem? (i := 1379) (by decide +kernel)⟩
theorem lw_p35 : lw_okq (⟨"WorkChainsModel", "readText", "(I)Z"⟩, 66) := ⟨⟨by decide +kernel, by decide +kernel⟩, List.mem_of_getElem? (i := 1154) (by decide +kernel), List.mem_of_getElem? (i := 1382) (by decide +kernel), List.mem_of_getElem? (i := 1383) (by decide +kernel)⟩
theorem lw_p36 : lw_okq (⟨"WorkChainsModel", "token", "()V"⟩, 66) := ⟨⟨by decide +kernel, by decide +kernel⟩, List.mem_of_getElem? (i := 1154) (by decide +kernel), List.mem_of_getElem? (i := 1386) (by decide +kernel), List.mem_of_getElem? (i := 1387) (by decide +kernel)⟩
theorem lw_p37 : lw_okq (⟨"WorkChainsModel", "see", "()I"⟩, 66) := ⟨⟨by decide +kernel, by decide +kernel⟩, List.mem_of_getElem? (i := 1154) (by decide +kernel), List.mem_of_getElem? (i := 1390) (by decide +kernel), List.mem_of_getElem? (i := 1391) (by decide +kernel)⟩
theorem lw_p38 : lw_okq (⟨"WorkChainsModel", "allLines", "(I)Z"⟩, 66) := ⟨⟨by decide +kernel, by decide +kernel⟩, List.mem_of_getElem? (i := 1154) (by decide +kernel), List.mem_of_getElem? (i := 1394) (by decide +kernel), List.mem_of_getElem? (i := 1395) (by decide +kernel)⟩
theorem lw_p39 : lw_okq (⟨"WorkChainsModel", "lineOf", "(IJI)Z"⟩, 66) := ⟨⟨by decide +kernel, by decide +kernel⟩, List.mem_of_getElem? (i := 1154) (by decide +kernel), List.mem_of_getElem? (i := 1398) (by decide +kernel), List.mem_of_getElem? (i := 1399) (by decide +kernel)⟩
theorem lw_p40 : lw_okq (⟨"WorkChainsModel", "netLine", "(JI)Z"⟩, 66) := ⟨⟨by decide +kernel, by decide +kernel⟩, List.mem_of_getElem? (i := 1154) (by decide +kernel), List.mem_of_getElem? (i := 1402) (by decide +kernel), List.mem_of_getElem? (i := 1403) (by decide +kernel)⟩
theorem lw_p41 : lw_okq (⟨"WorkChainsModel", "netWord", "(J)I"⟩, 66) := ⟨⟨by decide +kernel, by decide +kernel⟩, List.mem_of_getElem? (i := 1154) (by decide +kernel), List.mem_of_getElem? (i := 1406) (by decide +kernel), List.mem_of_getElem? (i := 1407) (by decide +kernel)⟩
theorem lw_p42 : lw_okq (⟨"WorkChainsModel", "full", "(III)V"⟩, 66) := ⟨⟨by decide +kernel, by decide +kernel⟩, List.mem_of_getElem? (i := 1154) (by decide +kernel), List.mem_of_getElem? (i := 1417) (by decide +kernel), List.mem_of_getElem? (i := 1418) (by decide +kernel)⟩
theorem lw_p43 : lw_okq (⟨"WorkChainsModel", "addsFault", "(II)V"⟩, 66) := ⟨⟨by decide +kernel, by decide +kernel⟩, List.mem_of_getElem? (i := 1154) (by decide +kernel), List.mem_of_getElem? (i := 1421) (by decide +kernel), List.mem_of_getElem? (i := 1422) (by decide +kernel)⟩
theorem lw_p44 : lw_okq (⟨"WorkChainsModel", "take", "(III)Z"⟩, 66) := ⟨⟨by decide +kernel, by decide +kernel⟩, List.mem_of_getElem? (i := 1154) (by decide +kernel), List.mem_of_getElem? (i := 1425) (by decide +kernel), List.mem_of_getElem? (i := 1426) (by decide +kernel)⟩
theorem lw_p45 : lw_okq (⟨"WorkChainsModel", "takeBut", "(IIII)Z"⟩, 66) := ⟨⟨by decide +kernel, by decide +kernel⟩, List.mem_of_getElem? (i := 1154) (by decide +kernel), List.mem_of_getElem? (i := 1429) (by decide +kernel), List.mem_of_getElem? (i := 1430) (by decide +kernel)⟩
theorem lw_p46 : lw_okq (⟨"WorkChainsModel", "fails", "()Z"⟩, 66) := ⟨⟨by decide +kernel, by decide +kernel⟩, List.mem_of_getElem? (i := 1154) (by decide +kernel), List.mem_of_getElem? (i := 1433) (by decide +kernel), List.mem_of_getElem? (i := 1434) (by decide +kernel)⟩
theorem lw_p47 : lw_okq (⟨"WorkChainsModel", "chainLine", "(JI)Z"⟩, 66) := ⟨⟨by decide +kernel, by decide +kernel⟩, List.mem_of_getElem? (i := 1154) (by decide +kernel), List.mem_of_getElem? (i := 1440) (by decide +kernel), List.mem_of_getElem? (i := 1441) (by decide +kernel)⟩
def lw_privs_3 : List (MethodName × Nat) := [(⟨"WorkChains$Laws", "greatestGroup", "(I)I"⟩, 6), (⟨"WorkChainsModel", "four", "(I)V"⟩, 66), (⟨"WorkChainsModel", "is", "(II)Z"⟩, 66), (⟨"WorkChainsModel", "readText", "(I)Z"⟩, 66), (⟨"WorkChainsModel", "token", "()V"⟩, 66), (⟨"WorkChainsModel", "see", "()I"⟩, 66), (⟨"WorkChainsModel", "allLines", "(I)Z"⟩, 66), (⟨"WorkChainsModel", "lineOf", "(IJI)Z"⟩, 66), (⟨"WorkChainsModel", "netLine", "(JI)Z"⟩, 66), (⟨"WorkChainsModel", "netWord", "(J)I"⟩, 66), (⟨"WorkChainsModel", "full", "(III)V"⟩, 66), (⟨"WorkChainsModel", "addsFault", "(II)V"⟩, 66), (⟨"WorkChainsModel", "take", "(III)Z"⟩, 66), (⟨"WorkChainsModel", "takeBut", "(IIII)Z"⟩, 66), (⟨"WorkChainsModel", "fails", "()Z"⟩, 66), (⟨"WorkChainsModel", "chainLine", "(JI)Z"⟩, 66)]
theorem lw_r3 : ∀ q ∈ lw_privs_3, lw_okq q := List.forall_mem_cons.mpr ⟨lw_p32, List.forall_mem_cons.mpr ⟨lw_p33, List.forall_mem_cons.mpr ⟨lw_p34, List.forall_mem_cons.mpr ⟨lw_p35, List.forall_mem_cons.mpr ⟨lw_p36, List.forall_mem_cons.mpr ⟨lw_p37, List.forall_mem_cons.mpr ⟨lw_p38, List.forall_mem_cons.mpr ⟨lw_p39, List.forall_mem_cons.mpr ⟨lw_p40, List.forall_mem_cons.mpr ⟨lw_p41, List.forall_mem_cons.mpr ⟨lw_p42, List.forall_mem_cons.mpr ⟨lw_p43, List.forall_mem_cons.mpr ⟨lw_p44, List.forall_mem_cons.mpr ⟨lw_p45, List.forall_mem_cons.mpr ⟨lw_p46, List.forall_mem_cons.mpr ⟨lw_p47, fun _ h => absurd h List.not_mem_nil⟩⟩⟩⟩⟩⟩⟩⟩⟩⟩⟩⟩⟩⟩⟩⟩
theorem lw_p48 : lw_okq (⟨"WorkChainsModel", "blockLine", "(I)Z"⟩, 66) := ⟨⟨by decide +kernel, by decide +kernel⟩, List.mem_of_getElem? (i := 1154) (by decide +kernel), List.mem_of_getElem? (i := 1445) (by decide +kernel), List.mem_of_getElem? (i := 1446) (by decide +kernel)⟩
theorem lw_p49 : lw_okq (⟨"WorkChainsModel", "payLine", "(I)Z"⟩, 66) := ⟨⟨by decide +kernel, by decide +kernel⟩, List.mem_of_getElem? (i := 1154) (by decide +kernel), List.mem_of_getElem? (i := 1450) (by decide +kernel), List.mem_of_getElem? (i := 1451) (by decide +kernel)⟩
theorem lw_p50 : lw_okq (⟨"WorkChainsModel", "feedLine", "(JI)Z"⟩, 66) := ⟨⟨by decide +kernel, by decide +kernel⟩, List.mem_of_getElem? (i := 1154) (by decide +kernel), List.mem_of_getElem? (i := 1454) (by decide +kernel), List.mem_of_getElem? (i := 1455) (by decide +kernel)⟩
theorem lw_p51 : lw_okq (⟨"WorkChainsModel", "keepRow", "(II)V"⟩, 66) := ⟨⟨by decide +kernel, by decide +kernel⟩, List.mem_of_getElem? (i := 1154) (by decide +kernel), List.mem_of_getElem? (i := 1461) (by decide +kernel), List.mem_of_getElem? (i := 1462) (by decide +kernel)⟩
theorem lw_p52 : lw_okq (⟨"WorkChainsModel", "logLine", "(JI)Z"⟩, 66) := ⟨⟨by decide +kernel, by decide +kernel⟩, List.mem_of_getElem? (i := 1154) (by decide +kernel), List.mem_of_getElem? (i := 1465) (by decide +kernel), List.mem_of_getElem? (i := 1466) (by decide +kernel)⟩
theorem lw_p53 : lw_okq (⟨"WorkChainsModel", "poolLine", "(JI)Z"⟩, 66) := ⟨⟨by decide +kernel, by decide +kernel⟩, List.mem_of_getElem? (i := 1154) (by decide +kernel), List.mem_of_getElem? (i := 1470) (by decide +kernel), List.mem_of_getElem? (i := 1471) (by decide +kernel)⟩
theorem lw_p54 : lw_okq (⟨"WorkChainsModel", "storeOf", "(II)V"⟩, 66) := ⟨⟨by decide +kernel, by decide +kernel⟩, List.mem_of_getElem? (i := 1154) (by decide +kernel), List.mem_of_getElem? (i := 1474) (by decide +kernel), List.mem_of_getElem? (i := 1475) (by decide +kernel)⟩
theorem lw_p55 : lw_okq (⟨"WorkChainsModel", "store", "([III)V"⟩, 66) := ⟨⟨by decide +kernel, by decide +kernel⟩, List.mem_of_getElem? (i := 1154) (by decide +kernel), List.mem_of_getElem? (i := 1478) (by decide +kernel), List.mem_of_getElem? (i := 1479) (by decide +kernel)⟩
theorem lw_p56 : lw_okq (⟨"WorkChainsModel", "hasNet", "(I)Z"⟩, 66) := ⟨⟨by decide +kernel, by decide +kernel⟩, List.mem_of_getElem? (i := 1154) (by decide +kernel), List.mem_of_getElem? (i := 1490) (by decide +kernel), List.mem_of_getElem? (i := 1491) (by decide +kernel)⟩
theorem lw_p57 : lw_okq (⟨"WorkChainsModel", "ofNet", "(I)I"⟩, 66) := ⟨⟨by decide +kernel, by decide +kernel⟩, List.mem_of_getElem? (i := 1154) (by decide +kernel), List.mem_of_getElem? (i := 1494) (by decide +kernel), List.mem_of_getElem? (i := 1495) (by decide +kernel)⟩
theorem lw_p58 : lw_okq (⟨"WorkChainsModel", "hasChain", "(I)Z"⟩, 66) := ⟨⟨by decide +kernel, by decide +kernel⟩, List.mem_of_getElem? (i := 1154) (by decide +kernel), List.mem_of_getElem? (i := 1502) (by decide +kernel), List.mem_of_getElem? (i := 1503) (by decide +kernel)⟩
theorem lw_p59 : lw_okq (⟨"WorkChainsModel", "isBlock", "(I)Z"⟩, 66) := ⟨⟨by decide +kernel, by decide +kernel⟩, List.mem_of_getElem? (i := 1154) (by decide +kernel), List.mem_of_getElem? (i := 1506) (by decide +kernel), List.mem_of_getElem? (i := 1507) (by decide +kernel)⟩
theorem lw_p60 : lw_okq (⟨"WorkChainsModel", "timeOf", "(I)I"⟩, 66) := ⟨⟨by decide +kernel, by decide +kernel⟩, List.mem_of_getElem? (i := 1154) (by decide +kernel), List.mem_of_getElem? (i := 1510) (by decide +kernel), List.mem_of_getElem? (i := 1511) (by decide +kernel)⟩
theorem lw_p61 : lw_okq (⟨"WorkChainsModel", "ofBlock", "(II)I"⟩, 66) := ⟨⟨by decide +kernel, by decide +kernel⟩, List.mem_of_getElem? (i := 1154) (by decide +kernel), List.mem_of_getElem? (i := 1514) (by decide +kernel), List.mem_of_getElem? (i := 1515) (by decide +kernel)⟩
theorem lw_p62 : lw_okq (⟨"WorkChainsModel", "hasFeed", "(I)Z"⟩, 66) := ⟨⟨by decide +kernel, by decide +kernel⟩, List.mem_of_getElem? (i := 1154) (by decide +kernel), List.mem_of_getElem? (i := 1522) (by decide +kernel), List.mem_of_getElem? (i := 1523) (by decide +kernel)⟩
theorem lw_p63 : lw_okq (⟨"WorkChainsModel", "deeds", "()I"⟩, 66) := ⟨⟨by decide +kernel, by decide +kernel⟩, List.mem_of_getElem? (i := 1154) (by decide +kernel), List.mem_of_getElem? (i := 1526) (by decide +kernel), List.mem_of_getElem? (i := 1527) (by decide +kernel)⟩
def lw_privs_4 : List (MethodName × Nat) := [(⟨"WorkChainsModel", "blockLine", "(I)Z"⟩, 66), (⟨"WorkChainsModel", "payLine", "(I)Z"⟩, 66), (⟨"WorkChainsModel", "feedLine", "(JI)Z"⟩, 66), (⟨"WorkChainsModel", "keepRow", "(II)V"⟩, 66), (⟨"WorkChainsModel", "logLine", "(JI)Z"⟩, 66), (⟨"WorkChainsModel", "poolLine", "(JI)Z"⟩, 66), (⟨"WorkChainsModel", "storeOf", "(II)V"⟩, 66), (⟨"WorkChainsModel", "store", "([III)V"⟩, 66), (⟨"WorkChainsModel", "hasNet", "(I)Z"⟩, 66), (⟨"WorkChainsModel", "ofNet", "(I)I"⟩, 66), (⟨"WorkChainsModel", "hasChain", "(I)Z"⟩, 66), (⟨"WorkChainsModel", "isBlock", "(I)Z"⟩, 66), (⟨"WorkChainsModel", "timeOf", "(I)I"⟩, 66), (⟨"WorkChainsModel", "ofBlock", "(II)I"⟩, 66), (⟨"WorkChainsModel", "hasFeed", "(I)Z"⟩, 66), (⟨"WorkChainsModel", "deeds", "()I"⟩, 66)]
theorem lw_r4 : ∀ q ∈ lw_privs_4, lw_okq q := List.forall_mem_cons.mpr ⟨lw_p48, List.forall_mem_cons.mpr ⟨lw_p49, List.forall_mem_cons.mpr ⟨lw_p50, List.forall_mem_cons.mpr ⟨lw_p51, List.forall_mem_cons.mpr ⟨lw_p52, List.forall_mem_cons.mpr ⟨lw_p53, List.forall_mem_cons.mpr ⟨lw_p54, List.forall_mem_cons.mpr ⟨lw_p55, List.forall_mem_cons.mpr ⟨lw_p56, List.forall_mem_cons.mpr ⟨lw_p57, List.forall_mem_cons.mpr ⟨lw_p58, List.forall_mem_cons.mpr ⟨lw_p59, List.forall_mem_cons.mpr ⟨lw_p60, List.forall_mem_cons.mpr ⟨lw_p61, List.forall_mem_cons.mpr ⟨lw_p62, List.forall_mem_cons.mpr ⟨lw_p63, fun _ h => absurd h List.not_mem_nil⟩⟩⟩⟩⟩⟩⟩⟩⟩⟩⟩⟩⟩⟩⟩⟩
theorem lw_p64 : lw_okq (⟨"WorkChainsModel", "deedOf", "(II)I"⟩, 66) := ⟨⟨by decide +kernel, by decide +kernel⟩, List.mem_of_getElem? (i := 1154) (by decide +kernel), List.mem_of_getElem? (i := 1530) (by decide +kernel), List.mem_of_getElem? (i := 1531) (by decide +kernel)⟩
theorem lw_p65 : lw_okq (⟨"WorkChainsModel", "layAll", "(III)Z"⟩, 66) := ⟨⟨by decide +kernel, by decide +kernel⟩, List.mem_of_getElem? (i := 1154) (by decide +kernel), List.mem_of_getElem? (i := 1538) (by decide +kernel), List.mem_of_getElem? (i := 1539) (by decide +kernel)⟩
theorem lw_p66 : lw_okq (⟨"WorkChainsModel", "hand", "(II)Z"⟩, 66) := ⟨⟨by decide +kernel, by decide +kernel⟩, List.mem_of_getElem? (i := 1154) (by decide +kernel), List.mem_of_getElem? (i := 1542) (by decide +kernel), List.mem_of_getElem? (i := 1543) (by decide +kernel)⟩
theorem lw_p67 : lw_okq (⟨"WorkChainsModel", "layWorks", "()V"⟩, 66) := ⟨⟨by decide +kernel, by decide +kernel⟩, List.mem_of_getElem? (i := 1154) (by decide +kernel), List.mem_of_getElem? (i := 1546) (by decide +kernel), List.mem_of_getElem? (i := 1547) (by decide +kernel)⟩
theorem lw_p68 : lw_okq (⟨"WorkChainsModel", "parentOf", "(I)I"⟩, 66) := ⟨⟨by decide +kernel, by decide +kernel⟩, List.mem_of_getElem? (i := 1154) (by decide +kernel), List.mem_of_getElem? (i := 1550) (by decide +kernel), List.mem_of_getElem? (i := 1551) (by decide +kernel)⟩
theorem lw_p69 : lw_okq (⟨"WorkChainsModel", "workOf", "(I)J"⟩, 66) := ⟨⟨by decide +kernel, by decide +kernel⟩, List.mem_of_getElem? (i := 1154) (by decide +kernel), List.mem_of_getElem? (i := 1554) (by decide +kernel), List.mem_of_getElem? (i := 1555) (by decide +kernel)⟩
theorem lw_p70 : lw_okq (⟨"WorkChainsModel", "aheadOf", "(II)I"⟩, 66) := ⟨⟨by decide +kernel, by decide +kernel⟩, List.mem_of_getElem? (i := 1154) (by decide +kernel), List.mem_of_getElem? (i := 1558) (by decide +kernel), List.mem_of_getElem? (i := 1559) (by decide +kernel)⟩
theorem lw_p71 : lw_okq (⟨"WorkChainsModel", "laySound", "()V"⟩, 66) := ⟨⟨by decide +kernel, by decide +kernel⟩, List.mem_of_getElem? (i := 1154) (by decide +kernel), List.mem_of_getElem? (i := 1566) (by decide +kernel), List.mem_of_getElem? (i := 1567) (by decide +kernel)⟩
theorem lw_p72 : lw_okq (⟨"WorkChainsModel", "becomesSound", "(I)Z"⟩, 66) := ⟨⟨by decide +kernel, by decide +kernel⟩, List.mem_of_getElem? (i := 1154) (by decide +kernel), List.mem_of_getElem? (i := 1570) (by decide +kernel), List.mem_of_getElem? (i := 1571) (by decide +kernel)⟩
theorem lw_p73 : lw_okq (⟨"WorkChainsModel", "isAccount", "(I)Z"⟩, 66) := ⟨⟨by decide +kernel, by decide +kernel⟩, List.mem_of_getElem? (i := 1154) (by decide +kernel), List.mem_of_getElem? (i := 1577) (by decide +kernel), List.mem_of_getElem? (i := 1578) (by decide +kernel)⟩
theorem lw_p74 : lw_okq (⟨"WorkChainsModel", "pays", "(I)Z"⟩, 66) := ⟨⟨by decide +kernel, by decide +kernel⟩, List.mem_of_getElem? (i := 1154) (by decide +kernel), List.mem_of_getElem? (i := 1581) (by decide +kernel), List.mem_of_getElem? (i := 1582) (by decide +kernel)⟩
theorem lw_p75 : lw_okq (⟨"WorkChainsModel", "beginFeed", "()V"⟩, 66) := ⟨⟨by decide +kernel, by decide +kernel⟩, List.mem_of_getElem? (i := 1154) (by decide +kernel), List.mem_of_getElem? (i := 1585) (by decide +kernel), List.mem_of_getElem? (i := 1586) (by decide +kernel)⟩
theorem lw_p76 : lw_okq (⟨"WorkChainsModel", "beginWhole", "()V"⟩, 66) := ⟨⟨by decide +kernel, by decide +kernel⟩, List.mem_of_getElem? (i := 1154) (by decide +kernel), List.mem_of_getElem? (i := 1589) (by decide +kernel), List.mem_of_getElem? (i := 1590) (by decide +kernel)⟩
theorem lw_p77 : lw_okq (⟨"WorkChainsModel", "play", "(I)I"⟩, 66) := ⟨⟨by decide +kernel, by decide +kernel⟩, List.mem_of_getElem? (i := 1154) (by decide +kernel), List.mem_of_getElem? (i := 1593) (by decide +kernel), List.mem_of_getElem? (i := 1594) (by decide +kernel)⟩
theorem lw_p78 : lw_okq (⟨"WorkChainsModel", "does", "(II)Z"⟩, 66) := ⟨⟨by decide +kernel, by decide +kernel⟩, List.mem_of_getElem? (i := 1154) (by decide +kernel), List.mem_of_getElem? (i := 1597) (by decide +kernel), List.mem_of_getElem? (i := 1598) (by decide +kernel)⟩
theorem lw_p79 : lw_okq (⟨"WorkChainsModel", "chooses", "()V"⟩, 66) := ⟨⟨by decide +kernel, by decide +kernel⟩, List.mem_of_getElem? (i := 1154) (by decide +kernel), List.mem_of_getElem? (i := 1601) (by decide +kernel), List.mem_of_getElem? (i := 1602) (by decide +kernel)⟩
def lw_privs_5 : List (MethodName × Nat) := [(⟨"WorkChainsModel", "deedOf", "(II)I"⟩, 66), (⟨"WorkChainsModel", "layAll", "(III)Z"⟩, 66), (⟨"WorkChainsModel", "hand", "(II)Z"⟩, 66), (⟨"WorkChainsModel", "layWorks", "()V"⟩, 66), (⟨"WorkChainsModel", "parentOf", "(I)I"⟩, 66), (⟨"WorkChainsModel", "workOf", "(I)J"⟩, 66), (⟨"WorkChainsModel", "aheadOf", "(II)I"⟩, 66), (⟨"WorkChainsModel", "laySound", "()V"⟩, 66), (⟨"WorkChainsModel", "becomesSound", "(I)Z"⟩, 66), (⟨"WorkChainsModel", "isAccount", "(I)Z"⟩, 66), (⟨"WorkChainsModel", "pays", "(I)Z"⟩, 66), (⟨"WorkChainsModel", "beginFeed", "()V"⟩, 66), (⟨"WorkChainsModel", "beginWhole", "()V"⟩, 66), (⟨"WorkChainsModel", "play", "(I)I"⟩, 66), (⟨"WorkChainsModel", "does", "(II)Z"⟩, 66), (⟨"WorkChainsModel", "chooses", "()V"⟩, 66)]
theorem lw_r5 : ∀ q ∈ lw_privs_5, lw_okq q := List.forall_mem_cons.mpr ⟨lw_p64, List.forall_mem_cons.mpr ⟨lw_p65, List.forall_mem_cons.mpr ⟨lw_p66, List.forall_mem_cons.mpr ⟨lw_p67, List.forall_mem_cons.mpr ⟨lw_p68, List.forall_mem_cons.mpr ⟨lw_p69, List.forall_mem_cons.mpr ⟨lw_p70, List.forall_mem_cons.mpr ⟨lw_p71, List.forall_mem_cons.mpr ⟨lw_p72, List.forall_mem_cons.mpr ⟨lw_p73, List.forall_mem_cons.mpr ⟨lw_p74, List.forall_mem_cons.mpr ⟨lw_p75, List.forall_mem_cons.mpr ⟨lw_p76, List.forall_mem_cons.mpr ⟨lw_p77, List.forall_mem_cons.mpr ⟨lw_p78, List.forall_mem_cons.mpr ⟨lw_p79, fun _ h => absurd h List.not_mem_nil⟩⟩⟩⟩⟩⟩⟩⟩⟩⟩⟩⟩⟩⟩⟩⟩
theorem lw_p80 : lw_okq (⟨"WorkChainsModel", "tipNow", "()I"⟩, 66) := ⟨⟨by decide +kernel, by decide +kernel⟩, List.mem_of_getElem? (i := 1154) (by decide +kernel), List.mem_of_getElem? (i := 1605) (by decide +kernel), List.mem_of_getElem? (i := 1606) (by decide +kernel)⟩
theorem lw_p81 : lw_okq (⟨"WorkChainsModel", "heaviest", "()I"⟩, 66) := ⟨⟨by decide +kernel, by decide +kernel⟩, List.mem_of_getElem? (i := 1154) (by decide +kernel), List.mem_of_getElem? (i := 1609) (by decide +kernel), List.mem_of_getElem? (i := 1610) (by decide +kernel)⟩
theorem lw_p82 : lw_okq (⟨"WorkChainsModel", "isAhead", "(II)Z"⟩, 66) := ⟨⟨by decide +kernel, by decide +kernel⟩, List.mem_of_getElem? (i := 1154) (by decide +kernel), List.mem_of_getElem? (i := 1613) (by decide +kernel), List.mem_of_getElem? (i := 1614) (by decide +kernel)⟩
theorem lw_p83 : lw_okq (⟨"WorkChainsModel", "laySubtrees", "(I)V"⟩, 66) := ⟨⟨by decide +kernel, by decide +kernel⟩, List.mem_of_getElem? (i := 1154) (by decide +kernel), List.mem_of_getElem? (i := 1617) (by decide +kernel), List.mem_of_getElem? (i := 1618) (by decide +kernel)⟩
theorem lw_p84 : lw_okq (⟨"WorkChainsModel", "heavyChild", "(I)I"⟩, 66) := ⟨⟨by decide +kernel, by decide +kernel⟩, List.mem_of_getElem? (i := 1154) (by decide +kernel), List.mem_of_getElem? (i := 1621) (by decide +kernel), List.mem_of_getElem? (i := 1622) (by decide +kernel)⟩
theorem lw_p85 : lw_okq (⟨"WorkChainsModel", "wayTo", "(I)I"⟩, 66) := ⟨⟨by decide +kernel, by decide +kernel⟩, List.mem_of_getElem? (i := 1154) (by decide +kernel), List.mem_of_getElem? (i := 1625) (by decide +kernel), List.mem_of_getElem? (i := 1626) (by decide +kernel)⟩
theorem lw_p86 : lw_okq (⟨"WorkChainsModel", "makesWhole", "()V"⟩, 66) := ⟨⟨by decide +kernel, by decide +kernel⟩, List.mem_of_getElem? (i := 1154) (by decide +kernel), List.mem_of_getElem? (i := 1632) (by decide +kernel), List.mem_of_getElem? (i := 1633) (by decide +kernel)⟩
theorem lw_p87 : lw_okq (⟨"WorkChainsModel", "becomesWhole", "(I)V"⟩, 66) := ⟨⟨by decide +kernel, by decide +kernel⟩, List.mem_of_getElem? (i := 1154) (by decide +kernel), List.mem_of_getElem? (i := 1636) (by decide +kernel), List.mem_of_getElem? (i := 1637) (by decide +kernel)⟩
theorem lw_p88 : lw_okq (⟨"WorkChainsModel", "ofState", "(I)I"⟩, 66) := ⟨⟨by decide +kernel, by decide +kernel⟩, List.mem_of_getElem? (i := 1154) (by decide +kernel), List.mem_of_getElem? (i := 1644) (by decide +kernel), List.mem_of_getElem? (i := 1645) (by decide +kernel)⟩
theorem lw_p89 : lw_okq (⟨"WorkChainsModel", "orphans", "()I"⟩, 66) := ⟨⟨by decide +kernel, by decide +kernel⟩, List.mem_of_getElem? (i := 1154) (by decide +kernel), List.mem_of_getElem? (i := 1648) (by decide +kernel), List.mem_of_getElem? (i := 1649) (by decide +kernel)⟩
theorem lw_p90 : lw_okq (⟨"WorkChainsModel", "headTip", "()I"⟩, 66) := ⟨⟨by decide +kernel, by decide +kernel⟩, List.mem_of_getElem? (i := 1154) (by decide +kernel), List.mem_of_getElem? (i := 1652) (by decide +kernel), List.mem_of_getElem? (i := 1653) (by decide +kernel)⟩
theorem lw_p91 : lw_okq (⟨"WorkChainsModel", "tipWithout", "(I)I"⟩, 66) := ⟨⟨by decide +kernel, by decide +kernel⟩, List.mem_of_getElem? (i := 1154) (by decide +kernel), List.mem_of_getElem? (i := 1665) (by decide +kernel), List.mem_of_getElem? (i := 1666) (by decide +kernel)⟩
theorem lw_p92 : lw_okq (⟨"WorkChainsModel", "canBeTip", "()I"⟩, 66) := ⟨⟨by decide +kernel, by decide +kernel⟩, List.mem_of_getElem? (i := 1154) (by decide +kernel), List.mem_of_getElem? (i := 1669) (by decide +kernel), List.mem_of_getElem? (i := 1670) (by decide +kernel)⟩
theorem lw_p93 : lw_okq (⟨"WorkChainsModel", "withheld", "()I"⟩, 66) := ⟨⟨by decide +kernel, by decide +kernel⟩, List.mem_of_getElem? (i := 1154) (by decide +kernel), List.mem_of_getElem? (i := 1673) (by decide +kernel), List.mem_of_getElem? (i := 1674) (by decide +kernel)⟩
theorem lw_p94 : lw_okq (⟨"WorkChainsModel", "hasPool", "(I)Z"⟩, 66) := ⟨⟨by decide +kernel, by decide +kernel⟩, List.mem_of_getElem? (i := 1154) (by decide +kernel), List.mem_of_getElem? (i := 1681) (by decide +kernel), List.mem_of_getElem? (i := 1682) (by decide +kernel)⟩
theorem lw_p95 : lw_okq (⟨"WorkChainsModel", "allPays", "()I"⟩, 66) := ⟨⟨by decide +kernel, by decide +kernel⟩, List.mem_of_getElem? (i := 1154) (by decide +kernel), List.mem_of_getElem? (i := 1685) (by decide +kernel), List.mem_of_getElem? (i := 1686) (by decide +kernel)⟩
def lw_privs_6 : List (MethodName × Nat) := [(⟨"WorkChainsModel", "tipNow", "()I"⟩, 66), (⟨"WorkChainsModel", "heaviest", "()I"⟩, 66), (⟨"WorkChainsModel", "isAhead", "(II)Z"⟩, 66), (⟨"WorkChainsModel", "laySubtrees", "(I)V"⟩, 66), (⟨"WorkChainsModel", "heavyChild", "(I)I"⟩, 66), (⟨"WorkChainsModel", "wayTo", "(I)I"⟩, 66), (⟨"WorkChainsModel", "makesWhole", "()V"⟩, 66), (⟨"WorkChainsModel", "becomesWhole", "(I)V"⟩, 66), (⟨"WorkChainsModel", "ofState", "(I)I"⟩, 66), (⟨"WorkChainsModel", "orphans", "()I"⟩, 66), (⟨"WorkChainsModel", "headTip", "()I"⟩, 66), (⟨"WorkChainsModel", "tipWithout", "(I)I"⟩, 66), (⟨"WorkChainsModel", "canBeTip", "()I"⟩, 66), (⟨"WorkChainsModel", "withheld", "()I"⟩, 66), (⟨"WorkChainsModel", "hasPool", "(I)Z"⟩, 66), (⟨"WorkChainsModel", "allPays", "()I"⟩, 66)]
theorem lw_r6 : ∀ q ∈ lw_privs_6, lw_okq q := List.forall_mem_cons.mpr ⟨lw_p80, List.forall_mem_cons.mpr ⟨lw_p81, List.forall_mem_cons.mpr ⟨lw_p82, List.forall_mem_cons.mpr ⟨lw_p83, List.forall_mem_cons.mpr ⟨lw_p84, List.forall_mem_cons.mpr ⟨lw_p85, List.forall_mem_cons.mpr ⟨lw_p86, List.forall_mem_cons.mpr ⟨lw_p87, List.forall_mem_cons.mpr ⟨lw_p88, List.forall_mem_cons.mpr ⟨lw_p89, List.forall_mem_cons.mpr ⟨lw_p90, List.forall_mem_cons.mpr ⟨lw_p91, List.forall_mem_cons.mpr ⟨lw_p92, List.forall_mem_cons.mpr ⟨lw_p93, List.forall_mem_cons.mpr ⟨lw_p94, List.forall_mem_cons.mpr ⟨lw_p95, fun _ h => absurd h List.not_mem_nil⟩⟩⟩⟩⟩⟩⟩⟩⟩⟩⟩⟩⟩⟩⟩⟩
theorem lw_p96 : lw_okq (⟨"WorkChainsModel", "payOf", "(II)I"⟩, 66) := ⟨⟨by decide +kernel, by decide +kernel⟩, List.mem_of_getElem? (i := 1154) (by decide +kernel), List.mem_of_getElem? (i := 1689) (by decide +kernel), List.mem_of_getElem? (i := 1690) (by decide +kernel)⟩
theorem lw_p97 : lw_okq (⟨"WorkChainsModel", "fillBest", "(I)I"⟩, 66) := ⟨⟨by decide +kernel, by decide +kernel⟩, List.mem_of_getElem? (i := 1154) (by decide +kernel), List.mem_of_getElem? (i := 1697) (by decide +kernel), List.mem_of_getElem? (i := 1698) (by decide +kernel)⟩
theorem lw_p98 : lw_okq (⟨"WorkChainsModel", "feesOf", "(III)I"⟩, 66) := ⟨⟨by decide +kernel, by decide +kernel⟩, List.mem_of_getElem? (i := 1154) (by decide +kernel), List.mem_of_getElem? (i := 1701) (by decide +kernel), List.mem_of_getElem? (i := 1702) (by decide +kernel)⟩
theorem lw_p99 : lw_okq (⟨"WorkChainsModel", "openPurse", "(I)V"⟩, 66) := ⟨⟨by decide +kernel, by decide +kernel⟩, List.mem_of_getElem? (i := 1154) (by decide +kernel), List.mem_of_getElem? (i := 1705) (by decide +kernel), List.mem_of_getElem? (i := 1706) (by decide +kernel)⟩
theorem lw_p100 : lw_okq (⟨"WorkChainsModel", "moves", "(IIII)Z"⟩, 66) := ⟨⟨by decide +kernel, by decide +kernel⟩, List.mem_of_getElem? (i := 1154) (by decide +kernel), List.mem_of_getElem? (i := 1709) (by decide +kernel), List.mem_of_getElem? (i := 1710) (by decide +kernel)⟩
theorem lw_p101 : lw_okq (⟨"WorkChainsModel", "madeBy", "(I)I"⟩, 66) := ⟨⟨by decide +kernel, by decide +kernel⟩, List.mem_of_getElem? (i := 1154) (by decide +kernel), List.mem_of_getElem? (i := 1726) (by decide +kernel), List.mem_of_getElem? (i := 1727) (by decide +kernel)⟩
theorem lw_p102 : lw_okq (⟨"WorkChainsModel", "workIn", "(I)J"⟩, 66) := ⟨⟨by decide +kernel, by decide +kernel⟩, List.mem_of_getElem? (i := 1154) (by decide +kernel), List.mem_of_getElem? (i := 1730) (by decide +kernel), List.mem_of_getElem? (i := 1731) (by decide +kernel)⟩
theorem lw_p103 : lw_okq (⟨"WorkChainsModel", "caught", "(IIII)J"⟩, 66) := ⟨⟨by decide +kernel, by decide +kernel⟩, List.mem_of_getElem? (i := 1154) (by decide +kernel), List.mem_of_getElem? (i := 1752) (by decide +kernel), List.mem_of_getElem? (i := 1753) (by decide +kernel)⟩
theorem lw_p104 : lw_okq (⟨"WorkChainsModel", "hasLog", "(I)Z"⟩, 66) := ⟨⟨by decide +kernel, by decide +kernel⟩, List.mem_of_getElem? (i := 1154) (by decide +kernel), List.mem_of_getElem? (i := 1764) (by decide +kernel), List.mem_of_getElem? (i := 1765) (by decide +kernel)⟩
theorem lw_p105 : lw_okq (⟨"WorkChainsModel", "facts", "()I"⟩, 66) := ⟨⟨by decide +kernel, by decide +kernel⟩, List.mem_of_getElem? (i := 1154) (by decide +kernel), List.mem_of_getElem? (i := 1768) (by decide +kernel), List.mem_of_getElem? (i := 1769) (by decide +kernel)⟩
theorem lw_p106 : lw_okq (⟨"WorkChainsModel", "factOf", "(II)I"⟩, 66) := ⟨⟨by decide +kernel, by decide +kernel⟩, List.mem_of_getElem? (i := 1154) (by decide +kernel), List.mem_of_getElem? (i := 1772) (by decide +kernel), List.mem_of_getElem? (i := 1773) (by decide +kernel)⟩
theorem lw_p107 : lw_okq (⟨"WorkChainsModel", "layLog", "(IIII)Z"⟩, 66) := ⟨⟨by decide +kernel, by decide +kernel⟩, List.mem_of_getElem? (i := 1154) (by decide +kernel), List.mem_of_getElem? (i := 1780) (by decide +kernel), List.mem_of_getElem? (i := 1781) (by decide +kernel)⟩
theorem lw_p108 : lw_okq (⟨"WorkChainsModel", "findLaws", "(I)V"⟩, 66) := ⟨⟨by decide +kernel, by decide +kernel⟩, List.mem_of_getElem? (i := 1154) (by decide +kernel), List.mem_of_getElem? (i := 1784) (by decide +kernel), List.mem_of_getElem? (i := 1785) (by decide +kernel)⟩
theorem lw_p109 : lw_okq (⟨"WorkChainsModel", "playBy", "(I)V"⟩, 66) := ⟨⟨by decide +kernel, by decide +kernel⟩, List.mem_of_getElem? (i := 1154) (by decide +kernel), List.mem_of_getElem? (i := 1788) (by decide +kernel), List.mem_of_getElem? (i := 1789) (by decide +kernel)⟩
theorem lw_p110 : lw_okq (⟨"WorkChainsModel", "isSo", "()Z"⟩, 66) := ⟨⟨by decide +kernel, by decide +kernel⟩, List.mem_of_getElem? (i := 1154) (by decide +kernel), List.mem_of_getElem? (i := 1792) (by decide +kernel), List.mem_of_getElem? (i := 1793) (by decide +kernel)⟩
theorem lw_p111 : lw_okq (⟨"WorkChainsModel", "noteFit", "(II)V"⟩, 66) := ⟨⟨by decide +kernel, by decide +kernel⟩, List.mem_of_getElem? (i := 1154) (by decide +kernel), List.mem_of_getElem? (i := 1796) (by decide +kernel), List.mem_of_getElem? (i := 1797) (by decide +kernel)⟩
def lw_privs_7 : List (MethodName × Nat) := [(⟨"WorkChainsModel", "payOf", "(II)I"⟩, 66), (⟨"WorkChainsModel", "fillBest", "(I)I"⟩, 66), (⟨"WorkChainsModel", "feesOf", "(III)I"⟩, 66), (⟨"WorkChainsModel", "openPurse", "(I)V"⟩, 66), (⟨"WorkChainsModel", "moves", "(IIII)Z"⟩, 66), (⟨"WorkChainsModel", "madeBy", "(I)I"⟩, 66), (⟨"WorkChainsModel", "workIn", "(I)J"⟩, 66), (⟨"WorkChainsModel", "caught", "(IIII)J"⟩, 66), (⟨"WorkChainsModel", "hasLog", "(I)Z"⟩, 66), (⟨"WorkChainsModel", "facts", "()I"⟩, 66), (⟨"WorkChainsModel", "factOf", "(II)I"⟩, 66), (⟨"WorkChainsModel", "layLog", "(IIII)Z"⟩, 66), (⟨"WorkChainsModel", "findLaws", "(I)V"⟩, 66), (⟨"WorkChainsModel", "playBy", "(I)V"⟩, 66), (⟨"WorkChainsModel", "isSo", "()Z"⟩, 66), (⟨"WorkChainsModel", "noteFit", "(II)V"⟩, 66)]
theorem lw_r7 : ∀ q ∈ lw_privs_7, lw_okq q := List.forall_mem_cons.mpr ⟨lw_p96, List.forall_mem_cons.mpr ⟨lw_p97, List.forall_mem_cons.mpr ⟨lw_p98, List.forall_mem_cons.mpr ⟨lw_p99, List.forall_mem_cons.mpr ⟨lw_p100, List.forall_mem_cons.mpr ⟨lw_p101, List.forall_mem_cons.mpr ⟨lw_p102, List.forall_mem_cons.mpr ⟨lw_p103, List.forall_mem_cons.mpr ⟨lw_p104, List.forall_mem_cons.mpr ⟨lw_p105, List.forall_mem_cons.mpr ⟨lw_p106, List.forall_mem_cons.mpr ⟨lw_p107, List.forall_mem_cons.mpr ⟨lw_p108, List.forall_mem_cons.mpr ⟨lw_p109, List.forall_mem_cons.mpr ⟨lw_p110, List.forall_mem_cons.mpr ⟨lw_p111, fun _ h => absurd h List.not_mem_nil⟩⟩⟩⟩⟩⟩⟩⟩⟩⟩⟩⟩⟩⟩⟩⟩
theorem lw_p112 : lw_okq (⟨"WorkChainsModel", "askWhen", "()I"⟩, 66) := ⟨⟨by decide +kernel, by decide +kernel⟩, List.mem_of_getElem? (i := 1154) (by decide +kernel), List.mem_of_getElem? (i := 1803) (by decide +kernel), List.mem_of_getElem? (i := 1804) (by decide +kernel)⟩
theorem lw_p113 : lw_okq (⟨"WorkChainsModel", "drawDeed", "()V"⟩, 66) := ⟨⟨by decide +kernel, by decide +kernel⟩, List.mem_of_getElem? (i := 1154) (by decide +kernel), List.mem_of_getElem? (i := 1812) (by decide +kernel), List.mem_of_getElem? (i := 1813) (by decide +kernel)⟩
theorem lw_p114 : lw_okq (⟨"WorkChainsModel", "draw", "(I)I"⟩, 66) := ⟨⟨by decide +kernel, by decide +kernel⟩, List.mem_of_getElem? (i := 1154) (by decide +kernel), List.mem_of_getElem? (i := 1816) (by decide +kernel), List.mem_of_getElem? (i := 1817) (by decide +kernel)⟩
theorem lw_p115 : lw_okq (⟨"WorkChainsModel", "leavesOf", "()I"⟩, 66) := ⟨⟨by decide +kernel, by decide +kernel⟩, List.mem_of_getElem? (i := 1154) (by decide +kernel), List.mem_of_getElem? (i := 1825) (by decide +kernel), List.mem_of_getElem? (i := 1826) (by decide +kernel)⟩
theorem lw_p116 : lw_okq (⟨"WorkChainsModel", "soundChildren", "(I)I"⟩, 66) := ⟨⟨by decide +kernel, by decide +kernel⟩, List.mem_of_getElem? (i := 1154) (by decide +kernel), List.mem_of_getElem? (i := 1829) (by decide +kernel), List.mem_of_getElem? (i := 1830) (by decide +kernel)⟩
theorem lw_p117 : lw_okq (⟨"WorkChainsModel", "forks", "()I"⟩, 66) := ⟨⟨by decide +kernel, by decide +kernel⟩, List.mem_of_getElem? (i := 1154) (by decide +kernel), List.mem_of_getElem? (i := 1833) (by decide +kernel), List.mem_of_getElem? (i := 1834) (by decide +kernel)⟩
theorem lw_p118 : lw_okq (⟨"WorkChainsModel", "greatest", "(Z)I"⟩, 66) := ⟨⟨by decide +kernel, by decide +kernel⟩, List.mem_of_getElem? (i := 1154) (by decide +kernel), List.mem_of_getElem? (i := 1837) (by decide +kernel), List.mem_of_getElem? (i := 1838) (by decide +kernel)⟩
theorem lw_p119 : lw_okq (⟨"WorkChainsModel", "flip", "()I"⟩, 66) := ⟨⟨by decide +kernel, by decide +kernel⟩, List.mem_of_getElem? (i := 1154) (by decide +kernel), List.mem_of_getElem? (i := 1841) (by decide +kernel), List.mem_of_getElem? (i := 1842) (by decide +kernel)⟩
theorem lw_p120 : lw_okq (⟨"WorkChainsModel", "late", "()I"⟩, 66) := ⟨⟨by decide +kernel, by decide +kernel⟩, List.mem_of_getElem? (i := 1154) (by decide +kernel), List.mem_of_getElem? (i := 1845) (by decide +kernel), List.mem_of_getElem? (i := 1846) (by decide +kernel)⟩
theorem lw_p121 : lw_okq (⟨"WorkChainsModel", "even", "()I"⟩, 66) := ⟨⟨by decide +kernel, by decide +kernel⟩, List.mem_of_getElem? (i := 1154) (by decide +kernel), List.mem_of_getElem? (i := 1849) (by decide +kernel), List.mem_of_getElem? (i := 1850) (by decide +kernel)⟩
theorem lw_p122 : lw_okq (⟨"WorkChainsModel", "turns", "()I"⟩, 66) := ⟨⟨by decide +kernel, by decide +kernel⟩, List.mem_of_getElem? (i := 1154) (by decide +kernel), List.mem_of_getElem? (i := 1853) (by decide +kernel), List.mem_of_getElem? (i := 1854) (by decide +kernel)⟩
theorem lw_p123 : lw_okq (⟨"WorkChainsModel", "steepest", "()I"⟩, 66) := ⟨⟨by decide +kernel, by decide +kernel⟩, List.mem_of_getElem? (i := 1154) (by decide +kernel), List.mem_of_getElem? (i := 1857) (by decide +kernel), List.mem_of_getElem? (i := 1858) (by decide +kernel)⟩
theorem lw_p124 : lw_okq (⟨"WorkChainsModel", "rootOf", "(I)I"⟩, 66) := ⟨⟨by decide +kernel, by decide +kernel⟩, List.mem_of_getElem? (i := 1154) (by decide +kernel), List.mem_of_getElem? (i := 1865) (by decide +kernel), List.mem_of_getElem? (i := 1866) (by decide +kernel)⟩
theorem lw_p125 : lw_okq (⟨"WorkChainsModel", "uncles", "(I)I"⟩, 66) := ⟨⟨by decide +kernel, by decide +kernel⟩, List.mem_of_getElem? (i := 1154) (by decide +kernel), List.mem_of_getElem? (i := 1869) (by decide +kernel), List.mem_of_getElem? (i := 1870) (by decide +kernel)⟩
theorem lw_p126 : lw_okq (⟨"WorkChainsModel", "rich", "(I)I"⟩, 66) := ⟨⟨by decide +kernel, by decide +kernel⟩, List.mem_of_getElem? (i := 1154) (by decide +kernel), List.mem_of_getElem? (i := 1873) (by decide +kernel), List.mem_of_getElem? (i := 1874) (by decide +kernel)⟩
theorem lw_p127 : lw_okq (⟨"WorkChainsModel", "copyAll", "(II)V"⟩, 66) := ⟨⟨by decide +kernel, by decide +kernel⟩, List.mem_of_getElem? (i := 1154) (by decide +kernel), List.mem_of_getElem? (i := 1905) (by decide +kernel), List.mem_of_getElem? (i := 1906) (by decide +kernel)⟩
def lw_privs_8 : List (MethodName × Nat) := [(⟨"WorkChainsModel", "askWhen", "()I"⟩, 66), (⟨"WorkChainsModel", "drawDeed", "()V"⟩, 66), (⟨"WorkChainsModel", "draw", "(I)I"⟩, 66), (⟨"WorkChainsModel", "leavesOf", "()I"⟩, 66), (⟨"WorkChainsModel", "soundChildren", "(I)I"⟩, 66), (⟨"WorkChainsModel", "forks", "()I"⟩, 66), (⟨"WorkChainsModel", "greatest", "(Z)I"⟩, 66), (⟨"WorkChainsModel", "flip", "()I"⟩, 66), (⟨"WorkChainsModel", "late", "()I"⟩, 66), (⟨"WorkChainsModel", "even", "()I"⟩, 66), (⟨"WorkChainsModel", "turns", "()I"⟩, 66), (⟨"WorkChainsModel", "steepest", "()I"⟩, 66), (⟨"WorkChainsModel", "rootOf", "(I)I"⟩, 66), (⟨"WorkChainsModel", "uncles", "(I)I"⟩, 66), (⟨"WorkChainsModel", "rich", "(I)I"⟩, 66), (⟨"WorkChainsModel", "copyAll", "(II)V"⟩, 66)]
theorem lw_r8 : ∀ q ∈ lw_privs_8, lw_okq q := List.forall_mem_cons.mpr ⟨lw_p112, List.forall_mem_cons.mpr ⟨lw_p113, List.forall_mem_cons.mpr ⟨lw_p114, List.forall_mem_cons.mpr ⟨lw_p115, List.forall_mem_cons.mpr ⟨lw_p116, List.forall_mem_cons.mpr ⟨lw_p117, List.forall_mem_cons.mpr ⟨lw_p118, List.forall_mem_cons.mpr ⟨lw_p119, List.forall_mem_cons.mpr ⟨lw_p120, List.forall_mem_cons.mpr ⟨lw_p121, List.forall_mem_cons.mpr ⟨lw_p122, List.forall_mem_cons.mpr ⟨lw_p123, List.forall_mem_cons.mpr ⟨lw_p124, List.forall_mem_cons.mpr ⟨lw_p125, List.forall_mem_cons.mpr ⟨lw_p126, List.forall_mem_cons.mpr ⟨lw_p127, fun _ h => absurd h List.not_mem_nil⟩⟩⟩⟩⟩⟩⟩⟩⟩⟩⟩⟩⟩⟩⟩⟩
def lw_privs : List (MethodName × Nat) := lw_privs_1 ++ (lw_privs_2 ++ (lw_privs_3 ++ (lw_privs_4 ++ (lw_privs_5 ++ (lw_privs_6 ++ (lw_privs_7 ++ (lw_privs_8)))))))
def lw_tbl : List Cond := k2_sels lw_privs ++ tables_1
theorem lw_privs_ok : ∀ q ∈ lw_privs, lw_okq q := by
  show ∀ q ∈ lw_privs_1 ++ (lw_privs_2 ++ (lw_privs_3 ++ (lw_privs_4 ++ (lw_privs_5 ++ (lw_privs_6 ++ (lw_privs_7 ++ (lw_privs_8))))))), lw_okq q
  exact List.forall_mem_append.mpr ⟨lw_r1, List.forall_mem_append.mpr ⟨lw_r2, List.forall_mem_append.mpr ⟨lw_r3, List.forall_mem_append.mpr ⟨lw_r4, List.forall_mem_append.mpr ⟨lw_r5, List.forall_mem_append.mpr ⟨lw_r6, List.forall_mem_append.mpr ⟨lw_r7, lw_r8⟩⟩⟩⟩⟩⟩⟩
/-! the classes and their fields, as printed -/
def RX0 : String := "WorkChains$Blocks"
def TX0 : u_T := fun k => match k with
  | 0 => ("WorkChains$Blocks", "last", "I", false)
  | 1 => ("WorkChains$Blocks", "parent", "[I", true)
  | 2 => ("WorkChains$Blocks", "time", "[I", true)
  | 3 => ("WorkChains$Blocks", "maker", "[I", true)
  | 4 => ("WorkChains$Blocks", "pays", "[I", true)
  | _ => ("WorkChains$Blocks", "pay", "[I", true)
def tyX0 : Nat → FieldType := fun k => match k with
  | 0 => .int
  | 1 => .array .int
  | 2 => .array .int
  | 3 => .array .int
  | 4 => .array .int
  | _ => .array .int
theorem nmX0 : ∀ a, a < 6 → ∀ b, b < 6 → a ≠ b → (TX0 a).2.1 ≠ (TX0 b).2.1 := by decide +kernel
theorem tyX0_ok : ∀ k, k < 6 → parseFieldDescriptor (TX0 k).2.2.1 = some (tyX0 k) := by decide +kernel
def RX1 : String := "WorkChains$Chart"
def TX1 : u_T := fun k => match k with
  | 0 => ("WorkChains$Chart", "net", "LWorkChains$Net;", false)
  | 1 => ("WorkChains$Chart", "blocks", "LWorkChains$Blocks;", false)
  | 2 => ("WorkChains$Chart", "last", "I", false)
  | 3 => ("WorkChains$Chart", "sound", "I", false)
  | 4 => ("WorkChains$Chart", "parent", "[I", true)
  | 5 => ("WorkChains$Chart", "way", "[I", true)
  | 6 => ("WorkChains$Chart", "height", "[I", true)
  | 7 => ("WorkChains$Chart", "work", "[J", true)
  | 8 => ("WorkChains$Chart", "weight", "[J", true)
  | 9 => ("WorkChains$Chart", "ledgers", "[LWorkChains$Ledger;", true)
  | 10 => ("WorkChains$Chart", "sum", "[J", true)
  | _ => ("WorkChains$Chart", "favourite", "[I", true)
def tyX1 : Nat → FieldType := fun k => match k with
  | 0 => .object "WorkChains$Net"
  | 1 => .object "WorkChains$Blocks"
  | 2 => .int
  | 3 => .int
  | 4 => .array .int
  | 5 => .array .int
  | 6 => .array .int
  | 7 => .array .long
  | 8 => .array .long
  | 9 => .array (.object "WorkChains$Ledger")
  | 10 => .array .long
  | _ => .array .int
theorem nmX1 : ∀ a, a < 12 → ∀ b, b < 12 → a ≠ b → (TX1 a).2.1 ≠ (TX1 b).2.1 := by decide +kernel
theorem tyX1_ok : ∀ k, k < 12 → parseFieldDescriptor (TX1 k).2.2.1 = some (tyX1 k) := by decide +kernel
def RX2 : String := "WorkChains$Course"
def TX2 : u_T := fun k => match k with
  | 0 => ("WorkChains$Course", "chart", "LWorkChains$Chart;", true)
  | 1 => ("WorkChains$Course", "tie", "I", false)
  | 2 => ("WorkChains$Course", "wholes", "I", false)
  | 3 => ("WorkChains$Course", "rank", "[I", true)
  | 4 => ("WorkChains$Course", "rule", "I", false)
  | 5 => ("WorkChains$Course", "heads", "I", false)
  | 6 => ("WorkChains$Course", "bodies", "I", false)
  | 7 => ("WorkChains$Course", "whole", "I", false)
  | 8 => ("WorkChains$Course", "tip", "I", false)
  | 9 => ("WorkChains$Course", "deeds", "I", false)
  | 10 => ("WorkChains$Course", "undone", "I", false)
  | 11 => ("WorkChains$Course", "done", "I", false)
  | 12 => ("WorkChains$Course", "switches", "I", false)
  | 13 => ("WorkChains$Course", "longest", "I", false)
  | _ => ("WorkChains$Course", "first", "I", false)
def tyX2 : Nat → FieldType := fun k => match k with
  | 0 => .object "WorkChains$Chart"
  | 1 => .int
  | 2 => .int
  | 3 => .array .int
  | 4 => .int
  | 5 => .int
  | 6 => .int
  | 7 => .int
  | 8 => .int
  | 9 => .int
  | 10 => .int
  | 11 => .int
  | 12 => .int
  | 13 => .int
  | _ => .int
theorem nmX2 : ∀ a, a < 15 → ∀ b, b < 15 → a ≠ b → (TX2 a).2.1 ≠ (TX2 b).2.1 := by decide +kernel
theorem tyX2_ok : ∀ k, k < 15 → parseFieldDescriptor (TX2 k).2.2.1 = some (tyX2 k) := by decide +kernel
def RX3 : String := "WorkChains$Filling"
def TX3 : u_T := fun k => match k with
  | 0 => ("WorkChains$Filling", "pool", "LWorkChains$Rows;", false)
  | 1 => ("WorkChains$Filling", "ledgers", "[LWorkChains$Ledger;", true)
  | 2 => ("WorkChains$Filling", "row", "[I", true)
  | 3 => ("WorkChains$Filling", "best", "[I", true)
  | 4 => ("WorkChains$Filling", "bestSize", "I", false)
  | _ => ("WorkChains$Filling", "bestFees", "I", false)
def tyX3 : Nat → FieldType := fun k => match k with
  | 0 => .object "WorkChains$Rows"
  | 1 => .array (.object "WorkChains$Ledger")
  | 2 => .array .int
  | 3 => .array .int
  | 4 => .int
  | _ => .int
theorem nmX3 : ∀ a, a < 6 → ∀ b, b < 6 → a ≠ b → (TX3 a).2.1 ≠ (TX3 b).2.1 := by decide +kernel
theorem tyX3_ok : ∀ k, k < 6 → parseFieldDescriptor (TX3 k).2.2.1 = some (tyX3 k) := by decide +kernel
def RX4 : String := "WorkChains$Laws"
def TX4 : u_T := fun k => match k with
  | 0 => ("WorkChains$Laws", "chart", "LWorkChains$Chart;", true)
  | 1 => ("WorkChains$Laws", "course", "LWorkChains$Course;", true)
  | 2 => ("WorkChains$Laws", "tips", "[[I", true)
  | 3 => ("WorkChains$Laws", "groups", "[I", true)
  | 4 => ("WorkChains$Laws", "number", "[I", true)
  | _ => ("WorkChains$Laws", "size", "I", false)
def tyX4 : Nat → FieldType := fun k => match k with
  | 0 => .object "WorkChains$Chart"
  | 1 => .object "WorkChains$Course"
  | 2 => .array (.array .int)
  | 3 => .array .int
  | 4 => .array .int
  | _ => .int
theorem nmX4 : ∀ a, a < 6 → ∀ b, b < 6 → a ≠ b → (TX4 a).2.1 ≠ (TX4 b).2.1 := by decide +kernel
theorem tyX4_ok : ∀ k, k < 6 → parseFieldDescriptor (TX4 k).2.2.1 = some (tyX4 k) := by decide +kernel
def RX5 : String := "WorkChains$Ledger"
def TX5 : u_T := fun k => match k with
  | 0 => ("WorkChains$Ledger", "accounts", "I", false)
  | _ => ("WorkChains$Ledger", "in", "[I", true)
def tyX5 : Nat → FieldType := fun k => match k with
  | 0 => .int
  | _ => .array .int
theorem nmX5 : ∀ a, a < 2 → ∀ b, b < 2 → a ≠ b → (TX5 a).2.1 ≠ (TX5 b).2.1 := by decide +kernel
theorem tyX5_ok : ∀ k, k < 2 → parseFieldDescriptor (TX5 k).2.2.1 = some (tyX5 k) := by decide +kernel
def RX6 : String := "WorkChains$Net"
def TX6 : u_T := fun k => match k with
  | 0 => ("WorkChains$Net", "step", "I", false)
  | 1 => ("WorkChains$Net", "target", "I", false)
  | 2 => ("WorkChains$Net", "start", "I", false)
  | 3 => ("WorkChains$Net", "rule", "I", false)
  | 4 => ("WorkChains$Net", "tie", "I", false)
  | 5 => ("WorkChains$Net", "reward", "I", false)
  | 6 => ("WorkChains$Net", "accounts", "I", false)
  | _ => ("WorkChains$Net", "first", "[I", true)
def tyX6 : Nat → FieldType := fun k => match k with
  | 0 => .int
  | 1 => .int
  | 2 => .int
  | 3 => .int
  | 4 => .int
  | 5 => .int
  | 6 => .int
  | _ => .array .int
theorem nmX6 : ∀ a, a < 8 → ∀ b, b < 8 → a ≠ b → (TX6 a).2.1 ≠ (TX6 b).2.1 := by decide +kernel
theorem tyX6_ok : ∀ k, k < 8 → parseFieldDescriptor (TX6 k).2.2.1 = some (tyX6 k) := by decide +kernel
def RX7 : String := "WorkChains$Reader"
def TX7 : u_T := fun k => match k with
  | 0 => ("WorkChains$Reader", "net", "LWorkChains$Net;", true)
  | 1 => ("WorkChains$Reader", "blocks", "LWorkChains$Blocks;", true)
  | 2 => ("WorkChains$Reader", "rows", "[LWorkChains$Rows;", true)
  | 3 => ("WorkChains$Reader", "fault", "I", false)
  | 4 => ("WorkChains$Reader", "faultPlace", "I", false)
  | 5 => ("WorkChains$Reader", "tape", "[B", false)
  | 6 => ("WorkChains$Reader", "length", "I", false)
  | 7 => ("WorkChains$Reader", "next", "I", false)
  | 8 => ("WorkChains$Reader", "from", "I", false)
  | 9 => ("WorkChains$Reader", "token", "I", false)
  | 10 => ("WorkChains$Reader", "value", "I", false)
  | _ => ("WorkChains$Reader", "line", "[I", true)
def tyX7 : Nat → FieldType := fun k => match k with
  | 0 => .object "WorkChains$Net"
  | 1 => .object "WorkChains$Blocks"
  | 2 => .array (.object "WorkChains$Rows")
  | 3 => .int
  | 4 => .int
  | 5 => .array .byte
  | 6 => .int
  | 7 => .int
  | 8 => .int
  | 9 => .int
  | 10 => .int
  | _ => .array .int
theorem nmX7 : ∀ a, a < 12 → ∀ b, b < 12 → a ≠ b → (TX7 a).2.1 ≠ (TX7 b).2.1 := by decide +kernel
theorem tyX7_ok : ∀ k, k < 12 → parseFieldDescriptor (TX7 k).2.2.1 = some (tyX7 k) := by decide +kernel
def RX8 : String := "WorkChains$Rows"
def TX8 : u_T := fun k => match k with
  | 0 => ("WorkChains$Rows", "width", "I", true)
  | 1 => ("WorkChains$Rows", "most", "I", true)
  | 2 => ("WorkChains$Rows", "size", "I", false)
  | _ => ("WorkChains$Rows", "value", "[I", true)
def tyX8 : Nat → FieldType := fun k => match k with
  | 0 => .int
  | 1 => .int
  | 2 => .int
  | _ => .array .int
theorem nmX8 : ∀ a, a < 4 → ∀ b, b < 4 → a ≠ b → (TX8 a).2.1 ≠ (TX8 b).2.1 := by decide +kernel
theorem tyX8_ok : ∀ k, k < 4 → parseFieldDescriptor (TX8 k).2.2.1 = some (tyX8 k) := by decide +kernel
def RX9 : String := "WorkChains$Told"
def TX9 : u_T := fun k => match k with
  | 0 => ("WorkChains$Told", "tape", "[B", true)
  | 1 => ("WorkChains$Told", "length", "I", false)
  | 2 => ("WorkChains$Told", "fault", "I", false)
  | 3 => ("WorkChains$Told", "faultPlace", "I", false)
  | 4 => ("WorkChains$Told", "counts", "[I", true)
  | 5 => ("WorkChains$Told", "nets", "[LWorkChains$Net;", true)
  | 6 => ("WorkChains$Told", "blocks", "[LWorkChains$Blocks;", true)
  | _ => ("WorkChains$Told", "rows", "[LWorkChains$Rows;", true)
def tyX9 : Nat → FieldType := fun k => match k with
  | 0 => .array .byte
  | 1 => .int
  | 2 => .int
  | 3 => .int
  | 4 => .array .int
  | 5 => .array (.object "WorkChains$Net")
  | 6 => .array (.object "WorkChains$Blocks")
  | _ => .array (.object "WorkChains$Rows")
theorem nmX9 : ∀ a, a < 8 → ∀ b, b < 8 → a ≠ b → (TX9 a).2.1 ≠ (TX9 b).2.1 := by decide +kernel
theorem tyX9_ok : ∀ k, k < 8 → parseFieldDescriptor (TX9 k).2.2.1 = some (tyX9 k) := by decide +kernel
def RX10 : String := "WorkChains"
def TX10 : u_T := fun k => match k with
  | 0 => ("WorkChains", "told", "LWorkChains$Told;", true)
  | 1 => ("WorkChains", "images", "[LWorkChains$Told;", true)
  | 2 => ("WorkChains", "imaged", "[Z", true)
  | 3 => ("WorkChains", "reader", "LWorkChains$Reader;", true)
  | 4 => ("WorkChains", "chart", "LWorkChains$Chart;", true)
  | 5 => ("WorkChains", "course", "LWorkChains$Course;", true)
  | 6 => ("WorkChains", "laws", "LWorkChains$Laws;", true)
  | 7 => ("WorkChains", "filling", "LWorkChains$Filling;", true)
  | _ => ("WorkChains", "spare", "LWorkChains$Ledger;", true)
def tyX10 : Nat → FieldType := fun k => match k with
  | 0 => .object "WorkChains$Told"
  | 1 => .array (.object "WorkChains$Told")
  | 2 => .array .boolean
  | 3 => .object "WorkChains$Reader"
  | 4 => .object "WorkChains$Chart"
  | 5 => .object "WorkChains$Course"
  | 6 => .object "WorkChains$Laws"
  | 7 => .object "WorkChains$Filling"
  | _ => .object "WorkChains$Ledger"
theorem nmX10 : ∀ a, a < 9 → ∀ b, b < 9 → a ≠ b → (TX10 a).2.1 ≠ (TX10 b).2.1 := by decide +kernel
theorem tyX10_ok : ∀ k, k < 9 → parseFieldDescriptor (TX10 k).2.2.1 = some (tyX10 k) := by decide +kernel
def RX11 : String := "WorkChainsModel"
def TX11 : u_T := fun k => match k with
  | 0 => ("WorkChainsModel", "code", "I", false)
  | 1 => ("WorkChainsModel", "tape", "[B", true)
  | 2 => ("WorkChainsModel", "size", "[I", true)
  | 3 => ("WorkChainsModel", "fault", "[I", true)
  | 4 => ("WorkChainsModel", "faultPlace", "[I", true)
  | 5 => ("WorkChainsModel", "many", "[I", true)
  | 6 => ("WorkChainsModel", "nets", "[I", true)
  | 7 => ("WorkChainsModel", "chains", "[I", true)
  | 8 => ("WorkChainsModel", "feeds", "[I", true)
  | 9 => ("WorkChainsModel", "logs", "[I", true)
  | 10 => ("WorkChainsModel", "pools", "[I", true)
  | 11 => ("WorkChainsModel", "reached", "I", false)
  | 12 => ("WorkChainsModel", "length", "I", false)
  | 13 => ("WorkChainsModel", "begins", "I", false)
  | 14 => ("WorkChainsModel", "sort", "I", false)
  | 15 => ("WorkChainsModel", "value", "I", false)
  | 16 => ("WorkChainsModel", "word", "J", false)
  | 17 => ("WorkChainsModel", "wrongAt", "I", false)
  | 18 => ("WorkChainsModel", "laterFault", "I", false)
  | 19 => ("WorkChainsModel", "laterPlace", "I", false)
  | 20 => ("WorkChainsModel", "told", "[I", true)
  | 21 => ("WorkChainsModel", "read", "[I", true)
  | 22 => ("WorkChainsModel", "good", "Z", false)
  | 23 => ("WorkChainsModel", "paysOf", "I", false)
  | 24 => ("WorkChainsModel", "net", "I", false)
  | 25 => ("WorkChainsModel", "chain", "I", false)
  | 26 => ("WorkChainsModel", "accounts", "I", false)
  | 27 => ("WorkChainsModel", "blocks", "I", false)
  | 28 => ("WorkChainsModel", "rule", "I", false)
  | 29 => ("WorkChainsModel", "tie", "I", false)
  | 30 => ("WorkChainsModel", "step", "I", false)
  | 31 => ("WorkChainsModel", "height", "[I", true)
  | 32 => ("WorkChainsModel", "works", "[J", true)
  | 33 => ("WorkChainsModel", "weight", "[J", true)
  | 34 => ("WorkChainsModel", "ledger", "[I", true)
  | 35 => ("WorkChainsModel", "sound", "I", false)
  | 36 => ("WorkChainsModel", "whole", "I", false)
  | 37 => ("WorkChainsModel", "wholeMany", "I", false)
  | 38 => ("WorkChainsModel", "since", "[I", true)
  | 39 => ("WorkChainsModel", "subtree", "[J", true)
  | 40 => ("WorkChainsModel", "feed", "I", false)
  | 41 => ("WorkChainsModel", "heads", "I", false)
  | 42 => ("WorkChainsModel", "bodies", "I", false)
  | 43 => ("WorkChainsModel", "top", "I", false)
  | 44 => ("WorkChainsModel", "undone", "I", false)
  | 45 => ("WorkChainsModel", "done", "I", false)
  | 46 => ("WorkChainsModel", "switches", "I", false)
  | 47 => ("WorkChainsModel", "longest", "I", false)
  | 48 => ("WorkChainsModel", "pool", "I", false)
  | 49 => ("WorkChainsModel", "purse", "[I", true)
  | 50 => ("WorkChainsModel", "row", "[I", true)
  | 51 => ("WorkChainsModel", "bestLong", "I", false)
  | 52 => ("WorkChainsModel", "bestNumber", "I", false)
  | 53 => ("WorkChainsModel", "far", "[J", true)
  | 54 => ("WorkChainsModel", "farNext", "[J", true)
  | 55 => ("WorkChainsModel", "log", "I", false)
  | 56 => ("WorkChainsModel", "found", "I", false)
  | 57 => ("WorkChainsModel", "asked", "I", false)
  | 58 => ("WorkChainsModel", "rules", "I", false)
  | 59 => ("WorkChainsModel", "ties", "I", false)
  | 60 => ("WorkChainsModel", "steps", "I", false)
  | 61 => ("WorkChainsModel", "ruleOnes", "I", false)
  | 62 => ("WorkChainsModel", "tipAt", "[I", true)
  | 63 => ("WorkChainsModel", "seen", "[I", true)
  | 64 => ("WorkChainsModel", "seed", "I", false)
  | _ => ("WorkChainsModel", "saved", "[Z", true)
def tyX11 : Nat → FieldType := fun k => match k with
  | 0 => .int
  | 1 => .array .byte
  | 2 => .array .int
  | 3 => .array .int
  | 4 => .array .int
  | 5 => .array .int
  | 6 => .array .int
  | 7 => .array .int
  | 8 => .array .int
  | 9 => .array .int
  | 10 => .array .int
  | 11 => .int
  | 12 => .int
  | 13 => .int
  | 14 => .int
  | 15 => .int
  | 16 => .long
  | 17 => .int
  | 18 => .int
  | 19 => .int
  | 20 => .array .int
  | 21 => .array .int
  | 22 => .boolean
  | 23 => .int
  | 24 => .int
  | 25 => .int
  | 26 => .int
  | 27 => .int
  | 28 => .int
  | 29 => .int
  | 30 => .int
  | 31 => .array .int
  | 32 => .array .long
  | 33 => .array .long
  | 34 => .array .int
  | 35 => .int
  | 36 => .int
  | 37 => .int
  | 38 => .array .int
  | 39 => .array .long
  | 40 => .int
  | 41 => .int
  | 42 => .int
  | 43 => .int
  | 44 => .int
  | 45 => .int
  | 46 => .int
  | 47 => .int
  | 48 => .int
  | 49 => .array .int
  | 50 => .array .int
  | 51 => .int
  | 52 => .int
  | 53 => .array .long
  | 54 => .array .long
  | 55 => .int
  | 56 => .int
  | 57 => .int
  | 58 => .int
  | 59 => .int
  | 60 => .int
  | 61 => .int
  | 62 => .array .int
  | 63 => .array .int
  | 64 => .int
  | _ => .array .boolean
theorem nmX11 : ∀ a, a < 66 → ∀ b, b < 66 → a ≠ b → (TX11 a).2.1 ≠ (TX11 b).2.1 := by decide +kernel
theorem tyX11_ok : ∀ k, k < 66 → parseFieldDescriptor (TX11 k).2.2.1 = some (tyX11 k) := by decide +kernel
abbrev vwCl : List vw_C := [(RX0, TX0, 6), (RX1, TX1, 12), (RX2, TX2, 15), (RX3, TX3, 6), (RX4, TX4, 6), (RX5, TX5, 2), (RX6, TX6, 8), (RX7, TX7, 12), (RX8, TX8, 4), (RX9, TX9, 8), (RX10, TX10, 9), (RX11, TX11, 66)]
/-- the words that every method is proved over -/
def zTB : List Cond := lw_tbl.filter goodWord
theorem zmem {w : Cond} (i : Nat) (h : lw_tbl[i]? = some w) (g : goodWord w = true) : w ∈ zTB := List.mem_filter.mpr ⟨List.mem_of_getElem? h, g⟩
theorem zTB_hts {args : Array Value} {s : State} (h : ∀ w ∈ lw_tbl, w.before args s = true) : ∀ w ∈ zTB, w.before args s = true := fun w hw => h w (List.mem_filter.mp hw).1
theorem zGood {c0 : Cond} {ws : List Cond} (h : ∀ w ∈ ws, w ∈ zTB) : GoodIn (c0 :: zTB) ws := fun w hw => ⟨List.mem_cons_of_mem _ (h w hw), good_of_word (List.mem_filter.mp (h w hw)).2⟩
theorem zin0 : ∀ w ∈ u_ws RX0 TX0 6, w ∈ zTB := fun w hw => List.mem_filter.mpr ((by decide +kernel : ∀ w ∈ u_ws RX0 TX0 6, w ∈ lw_tbl ∧ goodWord w = true) w hw)
theorem zin1 : ∀ w ∈ u_ws RX1 TX1 12, w ∈ zTB := fun w hw => List.mem_filter.mpr ((by decide +kernel : ∀ w ∈ u_ws RX1 TX1 12, w ∈ lw_tbl ∧ goodWord w = true) w hw)
theorem zin2 : ∀ w ∈ u_ws RX2 TX2 15, w ∈ zTB := fun w hw => List.mem_filter.mpr ((by decide +kernel : ∀ w ∈ u_ws RX2 TX2 15, w ∈ lw_tbl ∧ goodWord w = true) w hw)
theorem zin3 : ∀ w ∈ u_ws RX3 TX3 6, w ∈ zTB := fun w hw => List.mem_filter.mpr ((by decide +kernel : ∀ w ∈ u_ws RX3 TX3 6, w ∈ lw_tbl ∧ goodWord w = true) w hw)
theorem zin4 : ∀ w ∈ u_ws RX4 TX4 6, w ∈ zTB := fun w hw => List.mem_filter.mpr ((by decide +kernel : ∀ w ∈ u_ws RX4 TX4 6, w ∈ lw_tbl ∧ goodWord w = true) w hw)
theorem zin5 : ∀ w ∈ u_ws RX5 TX5 2, w ∈ zTB := fun w hw => List.mem_filter.mpr ((by decide +kernel : ∀ w ∈ u_ws RX5 TX5 2, w ∈ lw_tbl ∧ goodWord w = true) w hw)
theorem zin6 : ∀ w ∈ u_ws RX6 TX6 8, w ∈ zTB := fun w hw => List.mem_filter.mpr ((by decide +kernel : ∀ w ∈ u_ws RX6 TX6 8, w ∈ lw_tbl ∧ goodWord w = true) w hw)
theorem zin7 : ∀ w ∈ u_ws RX7 TX7 12, w ∈ zTB := fun w hw => List.mem_filter.mpr ((by decide +kernel : ∀ w ∈ u_ws RX7 TX7 12, w ∈ lw_tbl ∧ goodWord w = true) w hw)
theorem zin8 : ∀ w ∈ u_ws RX8 TX8 4, w ∈ zTB := fun w hw => List.mem_filter.mpr ((by decide +kernel : ∀ w ∈ u_ws RX8 TX8 4, w ∈ lw_tbl ∧ goodWord w = true) w hw)
theorem zin9 : ∀ w ∈ u_ws RX9 TX9 8, w ∈ zTB := fun w hw => List.mem_filter.mpr ((by decide +kernel : ∀ w ∈ u_ws RX9 TX9 8, w ∈ lw_tbl ∧ goodWord w = true) w hw)
theorem zin10 : ∀ w ∈ u_ws RX10 TX10 9, w ∈ zTB := fun w hw => List.mem_filter.mpr ((by decide +kernel : ∀ w ∈ u_ws RX10 TX10 9, w ∈ lw_tbl ∧ goodWord w = true) w hw)
theorem zin11 : ∀ w ∈ u_ws RX11 TX11 66, w ∈ zTB := fun w hw => List.mem_filter.mpr ((by decide +kernel : ∀ w ∈ u_ws RX11 TX11 66, w ∈ lw_tbl ∧ goodWord w = true) w hw)
