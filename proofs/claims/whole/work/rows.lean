section
-- ===== PART A: goes FIRST, ahead of the names: the tables' words, and 'selects' of the private methods out of them =====
/-- a private method of a class that the tables say can be made, by its rows of tables_1 -/
def lw_okq (q : MethodName × Nat) : Prop := (q.1.cls ≠ "java/lang/invoke/MethodHandle" ∧ q.1.cls ≠ "java/lang/invoke/VarHandle") ∧ Cond.instantiable q.1.cls q.2 ∈ tables_1 ∧ Cond.privateMethod q.1 ∈ tables_1 ∧ Cond.instanceMethod q.1 ∈ tables_1
theorem lw_p0 : lw_okq (⟨"DiverBottle$Reader", "begin", "()V"⟩, 13) := ⟨⟨by decide +kernel, by decide +kernel⟩, List.mem_of_getElem? (i := 24) (by decide +kernel), List.mem_of_getElem? (i := 331) (by decide +kernel), List.mem_of_getElem? (i := 332) (by decide +kernel)⟩
theorem lw_p1 : lw_okq (⟨"DiverBottle$Reader", "nextToken", "()Z"⟩, 13) := ⟨⟨by decide +kernel, by decide +kernel⟩, List.mem_of_getElem? (i := 24) (by decide +kernel), List.mem_of_getElem? (i := 336) (by decide +kernel), List.mem_of_getElem? (i := 337) (by decide +kernel)⟩
theorem lw_p2 : lw_okq (⟨"DiverBottle$Reader", "kindAt", "(I)I"⟩, 13) := ⟨⟨by decide +kernel, by decide +kernel⟩, List.mem_of_getElem? (i := 24) (by decide +kernel), List.mem_of_getElem? (i := 340) (by decide +kernel), List.mem_of_getElem? (i := 341) (by decide +kernel)⟩
theorem lw_p3 : lw_okq (⟨"DiverBottle$Reader", "fail", "(I)Z"⟩, 13) := ⟨⟨by decide +kernel, by decide +kernel⟩, List.mem_of_getElem? (i := 24) (by decide +kernel), List.mem_of_getElem? (i := 344) (by decide +kernel), List.mem_of_getElem? (i := 345) (by decide +kernel)⟩
theorem lw_p4 : lw_okq (⟨"DiverBottle$Reader", "isName", "(Ljava/lang/String;)Z"⟩, 13) := ⟨⟨by decide +kernel, by decide +kernel⟩, List.mem_of_getElem? (i := 24) (by decide +kernel), List.mem_of_getElem? (i := 350) (by decide +kernel), List.mem_of_getElem? (i := 351) (by decide +kernel)⟩
theorem lw_p5 : lw_okq (⟨"DiverBottle$Reader", "takeDiver", "()Z"⟩, 13) := ⟨⟨by decide +kernel, by decide +kernel⟩, List.mem_of_getElem? (i := 24) (by decide +kernel), List.mem_of_getElem? (i := 402) (by decide +kernel), List.mem_of_getElem? (i := 403) (by decide +kernel)⟩
theorem lw_p6 : lw_okq (⟨"DiverBottle$Reader", "takeNumber", "(II)Z"⟩, 13) := ⟨⟨by decide +kernel, by decide +kernel⟩, List.mem_of_getElem? (i := 24) (by decide +kernel), List.mem_of_getElem? (i := 406) (by decide +kernel), List.mem_of_getElem? (i := 407) (by decide +kernel)⟩
theorem lw_p7 : lw_okq (⟨"DiverBottle$Reader", "takeWiths", "(LDiverBottle$Diver;)Z"⟩, 13) := ⟨⟨by decide +kernel, by decide +kernel⟩, List.mem_of_getElem? (i := 24) (by decide +kernel), List.mem_of_getElem? (i := 415) (by decide +kernel), List.mem_of_getElem? (i := 416) (by decide +kernel)⟩
theorem lw_p8 : lw_okq (⟨"DiverBottle$Reader", "takeHour", "()Z"⟩, 13) := ⟨⟨by decide +kernel, by decide +kernel⟩, List.mem_of_getElem? (i := 24) (by decide +kernel), List.mem_of_getElem? (i := 423) (by decide +kernel), List.mem_of_getElem? (i := 424) (by decide +kernel)⟩
theorem lw_p9 : lw_okq (⟨"DiverBottle$Reader", "takeStop", "()Z"⟩, 13) := ⟨⟨by decide +kernel, by decide +kernel⟩, List.mem_of_getElem? (i := 24) (by decide +kernel), List.mem_of_getElem? (i := 431) (by decide +kernel), List.mem_of_getElem? (i := 432) (by decide +kernel)⟩
theorem lw_p10 : lw_okq (⟨"DiverBottle$Reader", "takeRuleLine", "()Z"⟩, 13) := ⟨⟨by decide +kernel, by decide +kernel⟩, List.mem_of_getElem? (i := 24) (by decide +kernel), List.mem_of_getElem? (i := 435) (by decide +kernel), List.mem_of_getElem? (i := 436) (by decide +kernel)⟩
theorem lw_p11 : lw_okq (⟨"DiverBottle$Reader", "ruleNamed", "()I"⟩, 13) := ⟨⟨by decide +kernel, by decide +kernel⟩, List.mem_of_getElem? (i := 24) (by decide +kernel), List.mem_of_getElem? (i := 439) (by decide +kernel), List.mem_of_getElem? (i := 440) (by decide +kernel)⟩
theorem lw_p12 : lw_okq (⟨"DiverBottle$Reader", "takeRule", "(I)Z"⟩, 13) := ⟨⟨by decide +kernel, by decide +kernel⟩, List.mem_of_getElem? (i := 24) (by decide +kernel), List.mem_of_getElem? (i := 449) (by decide +kernel), List.mem_of_getElem? (i := 450) (by decide +kernel)⟩
theorem lw_p13 : lw_okq (⟨"DiverBottle$Scene", "copyDivers", "([LDiverBottle$Diver;I)V"⟩, 8) := ⟨⟨by decide +kernel, by decide +kernel⟩, List.mem_of_getElem? (i := 155) (by decide +kernel), List.mem_of_getElem? (i := 461) (by decide +kernel), List.mem_of_getElem? (i := 462) (by decide +kernel)⟩
theorem lw_p14 : lw_okq (⟨"DiverBottle", "isDiver", "(I)Z"⟩, 11) := ⟨⟨by decide +kernel, by decide +kernel⟩, List.mem_of_getElem? (i := 16) (by decide +kernel), List.mem_of_getElem? (i := 484) (by decide +kernel), List.mem_of_getElem? (i := 485) (by decide +kernel)⟩
theorem lw_p15 : lw_okq (⟨"DiverBottle", "weightOf", "(LDiverBottle$Diver;II)I"⟩, 11) := ⟨⟨by decide +kernel, by decide +kernel⟩, List.mem_of_getElem? (i := 16) (by decide +kernel), List.mem_of_getElem? (i := 499) (by decide +kernel), List.mem_of_getElem? (i := 500) (by decide +kernel)⟩
def lw_privs_1 : List (MethodName × Nat) := [(⟨"DiverBottle$Reader", "begin", "()V"⟩, 13), (⟨"DiverBottle$Reader", "nextToken", "()Z"⟩, 13), (⟨"DiverBottle$Reader", "kindAt", "(I)I"⟩, 13), (⟨"DiverBottle$Reader", "fail", "(I)Z"⟩, 13), (⟨"DiverBottle$Reader", "isName", "(Ljava/lang/String;)Z"⟩, 13), (⟨"DiverBottle$Reader", "takeDiver", "()Z"⟩, 13), (⟨"DiverBottle$Reader", "takeNumber", "(II)Z"⟩, 13), (⟨"DiverBottle$Reader", "takeWiths", "(LDiverBottle$Diver;)Z"⟩, 13), (⟨"DiverBottle$Reader", "takeHour", "()Z"⟩, 13), (⟨"DiverBottle$Reader", "takeStop", "()Z"⟩, 13), (⟨"DiverBottle$Reader", "takeRuleLine", "()Z"⟩, 13), (⟨"DiverBottle$Reader", "ruleNamed", "()I"⟩, 13), (⟨"DiverBottle$Reader", "takeRule", "(I)Z"⟩, 13), (⟨"DiverBottle$Scene", "copyDivers", "([LDiverBottle$Diver;I)V"⟩, 8), (⟨"DiverBottle", "isDiver", "(I)Z"⟩, 11), (⟨"DiverBottle", "weightOf", "(LDiverBottle$Diver;II)I"⟩, 11)]
theorem lw_r1 : ∀ q ∈ lw_privs_1, lw_okq q := List.forall_mem_cons.mpr ⟨lw_p0, List.forall_mem_cons.mpr ⟨lw_p1, List.forall_mem_cons.mpr ⟨lw_p2, List.forall_mem_cons.mpr ⟨lw_p3, List.forall_mem_cons.mpr ⟨lw_p4, List.forall_mem_cons.mpr ⟨lw_p5, List.forall_mem_cons.mpr ⟨lw_p6, List.forall_mem_cons.mpr ⟨lw_p7, List.forall_mem_cons.mpr ⟨lw_p8, List.forall_mem_cons.mpr ⟨lw_p9, List.forall_mem_cons.mpr ⟨lw_p10, List.forall_mem_cons.mpr ⟨lw_p11, List.forall_mem_cons.mpr ⟨lw_p12, List.forall_mem_cons.mpr ⟨lw_p13, List.forall_mem_cons.mpr ⟨lw_p14, List.forall_mem_cons.mpr ⟨lw_p15, fun _ h => absurd h List.not_mem_nil⟩⟩⟩⟩⟩⟩⟩⟩⟩⟩⟩⟩⟩⟩⟩⟩
theorem lw_p16 : lw_okq (⟨"DiverBottle", "moveDiver", "(LDiverBottle$Diver;)V"⟩, 11) := ⟨⟨by decide +kernel, by decide +kernel⟩, List.mem_of_getElem? (i := 16) (by decide +kernel), List.mem_of_getElem? (i := 533) (by decide +kernel), List.mem_of_getElem? (i := 534) (by decide +kernel)⟩
theorem lw_p17 : lw_okq (⟨"DiverBottle$Diver", "stopAt", "(I)V"⟩, 8) := ⟨⟨by decide +kernel, by decide +kernel⟩, List.mem_of_getElem? (i := 61) (by decide +kernel), List.mem_of_getElem? (i := 545) (by decide +kernel), List.mem_of_getElem? (i := 546) (by decide +kernel)⟩
theorem lw_p18 : lw_okq (⟨"DiverBottle", "comeToFloor", "(LDiverBottle$Diver;)V"⟩, 11) := ⟨⟨by decide +kernel, by decide +kernel⟩, List.mem_of_getElem? (i := 16) (by decide +kernel), List.mem_of_getElem? (i := 549) (by decide +kernel), List.mem_of_getElem? (i := 550) (by decide +kernel)⟩
theorem lw_p19 : lw_okq (⟨"DiverBottle", "comeToTop", "(LDiverBottle$Diver;)V"⟩, 11) := ⟨⟨by decide +kernel, by decide +kernel⟩, List.mem_of_getElem? (i := 16) (by decide +kernel), List.mem_of_getElem? (i := 556) (by decide +kernel), List.mem_of_getElem? (i := 557) (by decide +kernel)⟩
theorem lw_p20 : lw_okq (⟨"DiverBottle", "diversAt", "(I)I"⟩, 11) := ⟨⟨by decide +kernel, by decide +kernel⟩, List.mem_of_getElem? (i := 16) (by decide +kernel), List.mem_of_getElem? (i := 560) (by decide +kernel), List.mem_of_getElem? (i := 561) (by decide +kernel)⟩
theorem lw_p21 : lw_okq (⟨"DiverBottle", "isDepth", "(I)Z"⟩, 11) := ⟨⟨by decide +kernel, by decide +kernel⟩, List.mem_of_getElem? (i := 16) (by decide +kernel), List.mem_of_getElem? (i := 568) (by decide +kernel), List.mem_of_getElem? (i := 569) (by decide +kernel)⟩
theorem lw_p22 : lw_okq (⟨"DiverBottle", "thumbOf", "(I)I"⟩, 11) := ⟨⟨by decide +kernel, by decide +kernel⟩, List.mem_of_getElem? (i := 16) (by decide +kernel), List.mem_of_getElem? (i := 605) (by decide +kernel), List.mem_of_getElem? (i := 606) (by decide +kernel)⟩
theorem lw_p23 : lw_okq (⟨"DiverBottle", "diversAhead", "(I)I"⟩, 11) := ⟨⟨by decide +kernel, by decide +kernel⟩, List.mem_of_getElem? (i := 16) (by decide +kernel), List.mem_of_getElem? (i := 615) (by decide +kernel), List.mem_of_getElem? (i := 616) (by decide +kernel)⟩
theorem lw_p24 : lw_okq (⟨"DiverBottle", "isAhead", "(II)Z"⟩, 11) := ⟨⟨by decide +kernel, by decide +kernel⟩, List.mem_of_getElem? (i := 16) (by decide +kernel), List.mem_of_getElem? (i := 619) (by decide +kernel), List.mem_of_getElem? (i := 620) (by decide +kernel)⟩
theorem lw_p25 : lw_okq (⟨"DiverBottle", "comesBackFrom", "(I)I"⟩, 11) := ⟨⟨by decide +kernel, by decide +kernel⟩, List.mem_of_getElem? (i := 16) (by decide +kernel), List.mem_of_getElem? (i := 642) (by decide +kernel), List.mem_of_getElem? (i := 643) (by decide +kernel)⟩
theorem lw_p26 : lw_okq (⟨"DiverBottle", "risesFrom", "(II)I"⟩, 11) := ⟨⟨by decide +kernel, by decide +kernel⟩, List.mem_of_getElem? (i := 16) (by decide +kernel), List.mem_of_getElem? (i := 646) (by decide +kernel), List.mem_of_getElem? (i := 647) (by decide +kernel)⟩
theorem lw_p27 : lw_okq (⟨"DiverBottle", "floatsFrom", "(III)I"⟩, 11) := ⟨⟨by decide +kernel, by decide +kernel⟩, List.mem_of_getElem? (i := 16) (by decide +kernel), List.mem_of_getElem? (i := 650) (by decide +kernel), List.mem_of_getElem? (i := 651) (by decide +kernel)⟩
theorem lw_p28 : lw_okq (⟨"DiverBottle", "leastAtThumb", "(II)I"⟩, 11) := ⟨⟨by decide +kernel, by decide +kernel⟩, List.mem_of_getElem? (i := 16) (by decide +kernel), List.mem_of_getElem? (i := 668) (by decide +kernel), List.mem_of_getElem? (i := 669) (by decide +kernel)⟩
theorem lw_p29 : lw_okq (⟨"DiverBottle", "greatestAtThumb", "(II)I"⟩, 11) := ⟨⟨by decide +kernel, by decide +kernel⟩, List.mem_of_getElem? (i := 16) (by decide +kernel), List.mem_of_getElem? (i := 672) (by decide +kernel), List.mem_of_getElem? (i := 673) (by decide +kernel)⟩
theorem lw_p30 : lw_okq (⟨"DiverBottle", "findGoers", "(I)V"⟩, 11) := ⟨⟨by decide +kernel, by decide +kernel⟩, List.mem_of_getElem? (i := 16) (by decide +kernel), List.mem_of_getElem? (i := 680) (by decide +kernel), List.mem_of_getElem? (i := 681) (by decide +kernel)⟩
theorem lw_p31 : lw_okq (⟨"DiverBottle", "goersApart", "(I)I"⟩, 11) := ⟨⟨by decide +kernel, by decide +kernel⟩, List.mem_of_getElem? (i := 16) (by decide +kernel), List.mem_of_getElem? (i := 684) (by decide +kernel), List.mem_of_getElem? (i := 685) (by decide +kernel)⟩
def lw_privs_2 : List (MethodName × Nat) := [(⟨"DiverBottle", "moveDiver", "(LDiverBottle$Diver;)V"⟩, 11), (⟨"DiverBottle$Diver", "stopAt", "(I)V"⟩, 8), (⟨"DiverBottle", "comeToFloor", "(LDiverBottle$Diver;)V"⟩, 11), (⟨"DiverBottle", "comeToTop", "(LDiverBottle$Diver;)V"⟩, 11), (⟨"DiverBottle", "diversAt", "(I)I"⟩, 11), (⟨"DiverBottle", "isDepth", "(I)Z"⟩, 11), (⟨"DiverBottle", "thumbOf", "(I)I"⟩, 11), (⟨"DiverBottle", "diversAhead", "(I)I"⟩, 11), (⟨"DiverBottle", "isAhead", "(II)Z"⟩, 11), (⟨"DiverBottle", "comesBackFrom", "(I)I"⟩, 11), (⟨"DiverBottle", "risesFrom", "(II)I"⟩, 11), (⟨"DiverBottle", "floatsFrom", "(III)I"⟩, 11), (⟨"DiverBottle", "leastAtThumb", "(II)I"⟩, 11), (⟨"DiverBottle", "greatestAtThumb", "(II)I"⟩, 11), (⟨"DiverBottle", "findGoers", "(I)V"⟩, 11), (⟨"DiverBottle", "goersApart", "(I)I"⟩, 11)]
theorem lw_r2 : ∀ q ∈ lw_privs_2, lw_okq q := List.forall_mem_cons.mpr ⟨lw_p16, List.forall_mem_cons.mpr ⟨lw_p17, List.forall_mem_cons.mpr ⟨lw_p18, List.forall_mem_cons.mpr ⟨lw_p19, List.forall_mem_cons.mpr ⟨lw_p20, List.forall_mem_cons.mpr ⟨lw_p21, List.forall_mem_cons.mpr ⟨lw_p22, List.forall_mem_cons.mpr ⟨lw_p23, List.forall_mem_cons.mpr ⟨lw_p24, List.forall_mem_cons.mpr ⟨lw_p25, List.forall_mem_cons.mpr ⟨lw_p26, List.forall_mem_cons.mpr ⟨lw_p27, List.forall_mem_cons.mpr ⟨lw_p28, List.forall_mem_cons.mpr ⟨lw_p29, List.forall_mem_cons.mpr ⟨lw_p30, List.forall_mem_cons.mpr ⟨lw_p31, fun _ h => absurd h List.not_mem_nil⟩⟩⟩⟩⟩⟩⟩⟩⟩⟩⟩⟩⟩⟩⟩⟩
theorem lw_p32 : lw_okq (⟨"DiverBottle", "firstGoer", "()I"⟩, 11) := ⟨⟨by decide +kernel, by decide +kernel⟩, List.mem_of_getElem? (i := 16) (by decide +kernel), List.mem_of_getElem? (i := 688) (by decide +kernel), List.mem_of_getElem? (i := 689) (by decide +kernel)⟩
theorem lw_p33 : lw_okq (⟨"DiverBottle", "greatestGap", "(I)I"⟩, 11) := ⟨⟨by decide +kernel, by decide +kernel⟩, List.mem_of_getElem? (i := 16) (by decide +kernel), List.mem_of_getElem? (i := 692) (by decide +kernel), List.mem_of_getElem? (i := 693) (by decide +kernel)⟩
theorem lw_p34 : lw_okq (⟨"DiverBottle", "canHold", "(IIII)Z"⟩, 11) := ⟨⟨by decide +kernel, by decide +kernel⟩, List.mem_of_getElem? (i := 16) (by decide +kernel), List.mem_of_getElem? (i := 700) (by decide +kernel), List.mem_of_getElem? (i := 701) (by decide +kernel)⟩
theorem lw_p35 : lw_okq (⟨"DiverBottle", "tryHold", "(IIIIII)V"⟩, 11) := ⟨⟨by decide +kernel, by decide +kernel⟩, List.mem_of_getElem? (i := 16) (by decide +kernel), List.mem_of_getElem? (i := 710) (by decide +kernel), List.mem_of_getElem? (i := 711) (by decide +kernel)⟩
theorem lw_p36 : lw_okq (⟨"DiverBottle", "leavesAt", "(LDiverBottle$Diver;IZ)Z"⟩, 11) := ⟨⟨by decide +kernel, by decide +kernel⟩, List.mem_of_getElem? (i := 16) (by decide +kernel), List.mem_of_getElem? (i := 745) (by decide +kernel), List.mem_of_getElem? (i := 746) (by decide +kernel)⟩
theorem lw_p37 : lw_okq (⟨"DiverBottle", "canBe", "(LDiverBottle$Diver;)Z"⟩, 11) := ⟨⟨by decide +kernel, by decide +kernel⟩, List.mem_of_getElem? (i := 16) (by decide +kernel), List.mem_of_getElem? (i := 782) (by decide +kernel), List.mem_of_getElem? (i := 783) (by decide +kernel)⟩
theorem lw_p38 : lw_okq (⟨"DiverBottle", "hooks", "()I"⟩, 11) := ⟨⟨by decide +kernel, by decide +kernel⟩, List.mem_of_getElem? (i := 16) (by decide +kernel), List.mem_of_getElem? (i := 848) (by decide +kernel), List.mem_of_getElem? (i := 849) (by decide +kernel)⟩
theorem lw_p39 : lw_okq (⟨"DiverBottleModel", "firstDraft", "()V"⟩, 31) := ⟨⟨by decide +kernel, by decide +kernel⟩, List.mem_of_getElem? (i := 852) (by decide +kernel), List.mem_of_getElem? (i := 858) (by decide +kernel), List.mem_of_getElem? (i := 859) (by decide +kernel)⟩
theorem lw_p40 : lw_okq (⟨"DiverBottleModel", "keepDraft", "()V"⟩, 31) := ⟨⟨by decide +kernel, by decide +kernel⟩, List.mem_of_getElem? (i := 852) (by decide +kernel), List.mem_of_getElem? (i := 862) (by decide +kernel), List.mem_of_getElem? (i := 863) (by decide +kernel)⟩
theorem lw_p41 : lw_okq (⟨"DiverBottleModel", "next", "()V"⟩, 31) := ⟨⟨by decide +kernel, by decide +kernel⟩, List.mem_of_getElem? (i := 852) (by decide +kernel), List.mem_of_getElem? (i := 979) (by decide +kernel), List.mem_of_getElem? (i := 980) (by decide +kernel)⟩
theorem lw_p42 : lw_okq (⟨"DiverBottleModel", "look", "(I)I"⟩, 31) := ⟨⟨by decide +kernel, by decide +kernel⟩, List.mem_of_getElem? (i := 852) (by decide +kernel), List.mem_of_getElem? (i := 983) (by decide +kernel), List.mem_of_getElem? (i := 984) (by decide +kernel)⟩
theorem lw_p43 : lw_okq (⟨"DiverBottleModel", "needs", "(ZI)V"⟩, 31) := ⟨⟨by decide +kernel, by decide +kernel⟩, List.mem_of_getElem? (i := 852) (by decide +kernel), List.mem_of_getElem? (i := 991) (by decide +kernel), List.mem_of_getElem? (i := 992) (by decide +kernel)⟩
theorem lw_p44 : lw_okq (⟨"DiverBottleModel", "readLine", "()V"⟩, 31) := ⟨⟨by decide +kernel, by decide +kernel⟩, List.mem_of_getElem? (i := 852) (by decide +kernel), List.mem_of_getElem? (i := 995) (by decide +kernel), List.mem_of_getElem? (i := 996) (by decide +kernel)⟩
theorem lw_p45 : lw_okq (⟨"DiverBottleModel", "nameNow", "()I"⟩, 31) := ⟨⟨by decide +kernel, by decide +kernel⟩, List.mem_of_getElem? (i := 852) (by decide +kernel), List.mem_of_getElem? (i := 999) (by decide +kernel), List.mem_of_getElem? (i := 1000) (by decide +kernel)⟩
theorem lw_p46 : lw_okq (⟨"DiverBottleModel", "is", "(IIIII)Z"⟩, 31) := ⟨⟨by decide +kernel, by decide +kernel⟩, List.mem_of_getElem? (i := 852) (by decide +kernel), List.mem_of_getElem? (i := 1003) (by decide +kernel), List.mem_of_getElem? (i := 1004) (by decide +kernel)⟩
theorem lw_p47 : lw_okq (⟨"DiverBottleModel", "readDiver", "()V"⟩, 31) := ⟨⟨by decide +kernel, by decide +kernel⟩, List.mem_of_getElem? (i := 852) (by decide +kernel), List.mem_of_getElem? (i := 1007) (by decide +kernel), List.mem_of_getElem? (i := 1008) (by decide +kernel)⟩
def lw_privs_3 : List (MethodName × Nat) := [(⟨"DiverBottle", "firstGoer", "()I"⟩, 11), (⟨"DiverBottle", "greatestGap", "(I)I"⟩, 11), (⟨"DiverBottle", "canHold", "(IIII)Z"⟩, 11), (⟨"DiverBottle", "tryHold", "(IIIIII)V"⟩, 11), (⟨"DiverBottle", "leavesAt", "(LDiverBottle$Diver;IZ)Z"⟩, 11), (⟨"DiverBottle", "canBe", "(LDiverBottle$Diver;)Z"⟩, 11), (⟨"DiverBottle", "hooks", "()I"⟩, 11), (⟨"DiverBottleModel", "firstDraft", "()V"⟩, 31), (⟨"DiverBottleModel", "keepDraft", "()V"⟩, 31), (⟨"DiverBottleModel", "next", "()V"⟩, 31), (⟨"DiverBottleModel", "look", "(I)I"⟩, 31), (⟨"DiverBottleModel", "needs", "(ZI)V"⟩, 31), (⟨"DiverBottleModel", "readLine", "()V"⟩, 31), (⟨"DiverBottleModel", "nameNow", "()I"⟩, 31), (⟨"DiverBottleModel", "is", "(IIIII)Z"⟩, 31), (⟨"DiverBottleModel", "readDiver", "()V"⟩, 31)]
theorem lw_r3 : ∀ q ∈ lw_privs_3, lw_okq q := List.forall_mem_cons.mpr ⟨lw_p32, List.forall_mem_cons.mpr ⟨lw_p33, List.forall_mem_cons.mpr ⟨lw_p34, List.forall_mem_cons.mpr ⟨lw_p35, List.forall_mem_cons.mpr ⟨lw_p36, List.forall_mem_cons.mpr ⟨lw_p37, List.forall_mem_cons.mpr ⟨lw_p38, List.forall_mem_cons.mpr ⟨lw_p39, List.forall_mem_cons.mpr ⟨lw_p40, List.forall_mem_cons.mpr ⟨lw_p41, List.forall_mem_cons.mpr ⟨lw_p42, List.forall_mem_cons.mpr ⟨lw_p43, List.forall_mem_cons.mpr ⟨lw_p44, List.forall_mem_cons.mpr ⟨lw_p45, List.forall_mem_cons.mpr ⟨lw_p46, List.forall_mem_cons.mpr ⟨lw_p47, fun _ h => absurd h List.not_mem_nil⟩⟩⟩⟩⟩⟩⟩⟩⟩⟩⟩⟩⟩⟩⟩⟩
theorem lw_p48 : lw_okq (⟨"DiverBottleModel", "readNumber", "(II)I"⟩, 31) := ⟨⟨by decide +kernel, by decide +kernel⟩, List.mem_of_getElem? (i := 852) (by decide +kernel), List.mem_of_getElem? (i := 1011) (by decide +kernel), List.mem_of_getElem? (i := 1012) (by decide +kernel)⟩
theorem lw_p49 : lw_okq (⟨"DiverBottleModel", "isNumber", "(II)V"⟩, 31) := ⟨⟨by decide +kernel, by decide +kernel⟩, List.mem_of_getElem? (i := 852) (by decide +kernel), List.mem_of_getElem? (i := 1015) (by decide +kernel), List.mem_of_getElem? (i := 1016) (by decide +kernel)⟩
theorem lw_p50 : lw_okq (⟨"DiverBottleModel", "withNow", "()I"⟩, 31) := ⟨⟨by decide +kernel, by decide +kernel⟩, List.mem_of_getElem? (i := 852) (by decide +kernel), List.mem_of_getElem? (i := 1019) (by decide +kernel), List.mem_of_getElem? (i := 1020) (by decide +kernel)⟩
theorem lw_p51 : lw_okq (⟨"DiverBottleModel", "readHour", "()V"⟩, 31) := ⟨⟨by decide +kernel, by decide +kernel⟩, List.mem_of_getElem? (i := 852) (by decide +kernel), List.mem_of_getElem? (i := 1023) (by decide +kernel), List.mem_of_getElem? (i := 1024) (by decide +kernel)⟩
theorem lw_p52 : lw_okq (⟨"DiverBottleModel", "readRule", "(I)V"⟩, 31) := ⟨⟨by decide +kernel, by decide +kernel⟩, List.mem_of_getElem? (i := 852) (by decide +kernel), List.mem_of_getElem? (i := 1027) (by decide +kernel), List.mem_of_getElem? (i := 1028) (by decide +kernel)⟩
theorem lw_p53 : lw_okq (⟨"DiverBottleModel", "isDiver", "(I)Z"⟩, 31) := ⟨⟨by decide +kernel, by decide +kernel⟩, List.mem_of_getElem? (i := 852) (by decide +kernel), List.mem_of_getElem? (i := 1046) (by decide +kernel), List.mem_of_getElem? (i := 1047) (by decide +kernel)⟩
theorem lw_p54 : lw_okq (⟨"DiverBottleModel", "of", "(II)I"⟩, 31) := ⟨⟨by decide +kernel, by decide +kernel⟩, List.mem_of_getElem? (i := 852) (by decide +kernel), List.mem_of_getElem? (i := 1052) (by decide +kernel), List.mem_of_getElem? (i := 1053) (by decide +kernel)⟩
theorem lw_p55 : lw_okq (⟨"DiverBottleModel", "weighsAt", "(III)I"⟩, 31) := ⟨⟨by decide +kernel, by decide +kernel⟩, List.mem_of_getElem? (i := 852) (by decide +kernel), List.mem_of_getElem? (i := 1056) (by decide +kernel), List.mem_of_getElem? (i := 1057) (by decide +kernel)⟩
theorem lw_p56 : lw_okq (⟨"DiverBottleModel", "heavy", "(I)I"⟩, 31) := ⟨⟨by decide +kernel, by decide +kernel⟩, List.mem_of_getElem? (i := 852) (by decide +kernel), List.mem_of_getElem? (i := 1060) (by decide +kernel), List.mem_of_getElem? (i := 1061) (by decide +kernel)⟩
theorem lw_p57 : lw_okq (⟨"DiverBottleModel", "weight", "(IIIII)I"⟩, 31) := ⟨⟨by decide +kernel, by decide +kernel⟩, List.mem_of_getElem? (i := 852) (by decide +kernel), List.mem_of_getElem? (i := 1064) (by decide +kernel), List.mem_of_getElem? (i := 1065) (by decide +kernel)⟩
theorem lw_p58 : lw_okq (⟨"DiverBottleModel", "tickOf", "(I)V"⟩, 31) := ⟨⟨by decide +kernel, by decide +kernel⟩, List.mem_of_getElem? (i := 852) (by decide +kernel), List.mem_of_getElem? (i := 1087) (by decide +kernel), List.mem_of_getElem? (i := 1088) (by decide +kernel)⟩
theorem lw_p59 : lw_okq (⟨"DiverBottleModel", "moves", "(III)V"⟩, 31) := ⟨⟨by decide +kernel, by decide +kernel⟩, List.mem_of_getElem? (i := 852) (by decide +kernel), List.mem_of_getElem? (i := 1091) (by decide +kernel), List.mem_of_getElem? (i := 1092) (by decide +kernel)⟩
theorem lw_p60 : lw_okq (⟨"DiverBottleModel", "floor", "()I"⟩, 31) := ⟨⟨by decide +kernel, by decide +kernel⟩, List.mem_of_getElem? (i := 852) (by decide +kernel), List.mem_of_getElem? (i := 1095) (by decide +kernel), List.mem_of_getElem? (i := 1096) (by decide +kernel)⟩
theorem lw_p61 : lw_okq (⟨"DiverBottleModel", "those", "(I)I"⟩, 31) := ⟨⟨by decide +kernel, by decide +kernel⟩, List.mem_of_getElem? (i := 852) (by decide +kernel), List.mem_of_getElem? (i := 1099) (by decide +kernel), List.mem_of_getElem? (i := 1100) (by decide +kernel)⟩
theorem lw_p62 : lw_okq (⟨"DiverBottleModel", "isDepth", "(I)Z"⟩, 31) := ⟨⟨by decide +kernel, by decide +kernel⟩, List.mem_of_getElem? (i := 852) (by decide +kernel), List.mem_of_getElem? (i := 1107) (by decide +kernel), List.mem_of_getElem? (i := 1108) (by decide +kernel)⟩
theorem lw_p63 : lw_okq (⟨"DiverBottleModel", "goesOf", "(I)I"⟩, 31) := ⟨⟨by decide +kernel, by decide +kernel⟩, List.mem_of_getElem? (i := 852) (by decide +kernel), List.mem_of_getElem? (i := 1143) (by decide +kernel), List.mem_of_getElem? (i := 1144) (by decide +kernel)⟩
def lw_privs_4 : List (MethodName × Nat) := [(⟨"DiverBottleModel", "readNumber", "(II)I"⟩, 31), (⟨"DiverBottleModel", "isNumber", "(II)V"⟩, 31), (⟨"DiverBottleModel", "withNow", "()I"⟩, 31), (⟨"DiverBottleModel", "readHour", "()V"⟩, 31), (⟨"DiverBottleModel", "readRule", "(I)V"⟩, 31), (⟨"DiverBottleModel", "isDiver", "(I)Z"⟩, 31), (⟨"DiverBottleModel", "of", "(II)I"⟩, 31), (⟨"DiverBottleModel", "weighsAt", "(III)I"⟩, 31), (⟨"DiverBottleModel", "heavy", "(I)I"⟩, 31), (⟨"DiverBottleModel", "weight", "(IIIII)I"⟩, 31), (⟨"DiverBottleModel", "tickOf", "(I)V"⟩, 31), (⟨"DiverBottleModel", "moves", "(III)V"⟩, 31), (⟨"DiverBottleModel", "floor", "()I"⟩, 31), (⟨"DiverBottleModel", "those", "(I)I"⟩, 31), (⟨"DiverBottleModel", "isDepth", "(I)Z"⟩, 31), (⟨"DiverBottleModel", "goesOf", "(I)I"⟩, 31)]
theorem lw_r4 : ∀ q ∈ lw_privs_4, lw_okq q := List.forall_mem_cons.mpr ⟨lw_p48, List.forall_mem_cons.mpr ⟨lw_p49, List.forall_mem_cons.mpr ⟨lw_p50, List.forall_mem_cons.mpr ⟨lw_p51, List.forall_mem_cons.mpr ⟨lw_p52, List.forall_mem_cons.mpr ⟨lw_p53, List.forall_mem_cons.mpr ⟨lw_p54, List.forall_mem_cons.mpr ⟨lw_p55, List.forall_mem_cons.mpr ⟨lw_p56, List.forall_mem_cons.mpr ⟨lw_p57, List.forall_mem_cons.mpr ⟨lw_p58, List.forall_mem_cons.mpr ⟨lw_p59, List.forall_mem_cons.mpr ⟨lw_p60, List.forall_mem_cons.mpr ⟨lw_p61, List.forall_mem_cons.mpr ⟨lw_p62, List.forall_mem_cons.mpr ⟨lw_p63, fun _ h => absurd h List.not_mem_nil⟩⟩⟩⟩⟩⟩⟩⟩⟩⟩⟩⟩⟩⟩⟩⟩
theorem lw_p64 : lw_okq (⟨"DiverBottleModel", "goesWith", "(II)I"⟩, 31) := ⟨⟨by decide +kernel, by decide +kernel⟩, List.mem_of_getElem? (i := 852) (by decide +kernel), List.mem_of_getElem? (i := 1147) (by decide +kernel), List.mem_of_getElem? (i := 1148) (by decide +kernel)⟩
theorem lw_p65 : lw_okq (⟨"DiverBottleModel", "rankOf", "(I)I"⟩, 31) := ⟨⟨by decide +kernel, by decide +kernel⟩, List.mem_of_getElem? (i := 852) (by decide +kernel), List.mem_of_getElem? (i := 1155) (by decide +kernel), List.mem_of_getElem? (i := 1156) (by decide +kernel)⟩
theorem lw_p66 : lw_okq (⟨"DiverBottleModel", "noBubbles", "()V"⟩, 31) := ⟨⟨by decide +kernel, by decide +kernel⟩, List.mem_of_getElem? (i := 852) (by decide +kernel), List.mem_of_getElem? (i := 1178) (by decide +kernel), List.mem_of_getElem? (i := 1179) (by decide +kernel)⟩
theorem lw_p67 : lw_okq (⟨"DiverBottleModel", "comesBack", "(II)Z"⟩, 31) := ⟨⟨by decide +kernel, by decide +kernel⟩, List.mem_of_getElem? (i := 852) (by decide +kernel), List.mem_of_getElem? (i := 1182) (by decide +kernel), List.mem_of_getElem? (i := 1183) (by decide +kernel)⟩
theorem lw_p68 : lw_okq (⟨"DiverBottleModel", "goesBy", "(III)Z"⟩, 31) := ⟨⟨by decide +kernel, by decide +kernel⟩, List.mem_of_getElem? (i := 852) (by decide +kernel), List.mem_of_getElem? (i := 1186) (by decide +kernel), List.mem_of_getElem? (i := 1187) (by decide +kernel)⟩
theorem lw_p69 : lw_okq (⟨"DiverBottleModel", "aBubble", "(I)V"⟩, 31) := ⟨⟨by decide +kernel, by decide +kernel⟩, List.mem_of_getElem? (i := 852) (by decide +kernel), List.mem_of_getElem? (i := 1190) (by decide +kernel), List.mem_of_getElem? (i := 1191) (by decide +kernel)⟩
theorem lw_p70 : lw_okq (⟨"DiverBottleModel", "told", "(I)I"⟩, 31) := ⟨⟨by decide +kernel, by decide +kernel⟩, List.mem_of_getElem? (i := 852) (by decide +kernel), List.mem_of_getElem? (i := 1194) (by decide +kernel), List.mem_of_getElem? (i := 1195) (by decide +kernel)⟩
theorem lw_p71 : lw_okq (⟨"DiverBottleModel", "layThumbs", "(I)V"⟩, 31) := ⟨⟨by decide +kernel, by decide +kernel⟩, List.mem_of_getElem? (i := 852) (by decide +kernel), List.mem_of_getElem? (i := 1206) (by decide +kernel), List.mem_of_getElem? (i := 1207) (by decide +kernel)⟩
theorem lw_p72 : lw_okq (⟨"DiverBottleModel", "takenBy", "(I)I"⟩, 31) := ⟨⟨by decide +kernel, by decide +kernel⟩, List.mem_of_getElem? (i := 852) (by decide +kernel), List.mem_of_getElem? (i := 1210) (by decide +kernel), List.mem_of_getElem? (i := 1211) (by decide +kernel)⟩
theorem lw_p73 : lw_okq (⟨"DiverBottleModel", "isHold", "(IIII)Z"⟩, 31) := ⟨⟨by decide +kernel, by decide +kernel⟩, List.mem_of_getElem? (i := 852) (by decide +kernel), List.mem_of_getElem? (i := 1218) (by decide +kernel), List.mem_of_getElem? (i := 1219) (by decide +kernel)⟩
theorem lw_p74 : lw_okq (⟨"DiverBottleModel", "holds", "(IIIIII)V"⟩, 31) := ⟨⟨by decide +kernel, by decide +kernel⟩, List.mem_of_getElem? (i := 852) (by decide +kernel), List.mem_of_getElem? (i := 1230) (by decide +kernel), List.mem_of_getElem? (i := 1231) (by decide +kernel)⟩
theorem lw_p75 : lw_okq (⟨"DiverBottleModel", "bladderAt", "(II)I"⟩, 31) := ⟨⟨by decide +kernel, by decide +kernel⟩, List.mem_of_getElem? (i := 852) (by decide +kernel), List.mem_of_getElem? (i := 1254) (by decide +kernel), List.mem_of_getElem? (i := 1255) (by decide +kernel)⟩
theorem lw_p76 : lw_okq (⟨"DiverBottleModel", "canBe", "(II)Z"⟩, 31) := ⟨⟨by decide +kernel, by decide +kernel⟩, List.mem_of_getElem? (i := 852) (by decide +kernel), List.mem_of_getElem? (i := 1276) (by decide +kernel), List.mem_of_getElem? (i := 1277) (by decide +kernel)⟩
theorem lw_p77 : lw_okq (⟨"DiverBottleModel", "copies", "(II)V"⟩, 31) := ⟨⟨by decide +kernel, by decide +kernel⟩, List.mem_of_getElem? (i := 852) (by decide +kernel), List.mem_of_getElem? (i := 1288) (by decide +kernel), List.mem_of_getElem? (i := 1289) (by decide +kernel)⟩
def lw_privs_5 : List (MethodName × Nat) := [(⟨"DiverBottleModel", "goesWith", "(II)I"⟩, 31), (⟨"DiverBottleModel", "rankOf", "(I)I"⟩, 31), (⟨"DiverBottleModel", "noBubbles", "()V"⟩, 31), (⟨"DiverBottleModel", "comesBack", "(II)Z"⟩, 31), (⟨"DiverBottleModel", "goesBy", "(III)Z"⟩, 31), (⟨"DiverBottleModel", "aBubble", "(I)V"⟩, 31), (⟨"DiverBottleModel", "told", "(I)I"⟩, 31), (⟨"DiverBottleModel", "layThumbs", "(I)V"⟩, 31), (⟨"DiverBottleModel", "takenBy", "(I)I"⟩, 31), (⟨"DiverBottleModel", "isHold", "(IIII)Z"⟩, 31), (⟨"DiverBottleModel", "holds", "(IIIIII)V"⟩, 31), (⟨"DiverBottleModel", "bladderAt", "(II)I"⟩, 31), (⟨"DiverBottleModel", "canBe", "(II)Z"⟩, 31), (⟨"DiverBottleModel", "copies", "(II)V"⟩, 31)]
theorem lw_r5 : ∀ q ∈ lw_privs_5, lw_okq q := List.forall_mem_cons.mpr ⟨lw_p64, List.forall_mem_cons.mpr ⟨lw_p65, List.forall_mem_cons.mpr ⟨lw_p66, List.forall_mem_cons.mpr ⟨lw_p67, List.forall_mem_cons.mpr ⟨lw_p68, List.forall_mem_cons.mpr ⟨lw_p69, List.forall_mem_cons.mpr ⟨lw_p70, List.forall_mem_cons.mpr ⟨lw_p71, List.forall_mem_cons.mpr ⟨lw_p72, List.forall_mem_cons.mpr ⟨lw_p73, List.forall_mem_cons.mpr ⟨lw_p74, List.forall_mem_cons.mpr ⟨lw_p75, List.forall_mem_cons.mpr ⟨lw_p76, List.forall_mem_cons.mpr ⟨lw_p77, fun _ h => absurd h List.not_mem_nil⟩⟩⟩⟩⟩⟩⟩⟩⟩⟩⟩⟩⟩⟩
def lw_privs : List (MethodName × Nat) := lw_privs_1 ++ (lw_privs_2 ++ (lw_privs_3 ++ (lw_privs_4 ++ (lw_privs_5))))
def lw_tbl : List Cond := k2_sels lw_privs ++ tables_1
theorem lw_privs_ok : ∀ q ∈ lw_privs, lw_okq q := by
  show ∀ q ∈ lw_privs_1 ++ (lw_privs_2 ++ (lw_privs_3 ++ (lw_privs_4 ++ (lw_privs_5)))), lw_okq q
  exact List.forall_mem_append.mpr ⟨lw_r1, List.forall_mem_append.mpr ⟨lw_r2, List.forall_mem_append.mpr ⟨lw_r3, List.forall_mem_append.mpr ⟨lw_r4, lw_r5⟩⟩⟩⟩
end
section
def RX0 : String := "DiverBottle$Diver"
def TX0 : u_T := fun k => match k with
  | 0 => ("DiverBottle$Diver", "heavy", "I", false)
  | 1 => ("DiverBottle$Diver", "bubble", "I", false)
  | 2 => ("DiverBottle$Diver", "leak", "I", false)
  | 3 => ("DiverBottle$Diver", "rate", "I", false)
  | 4 => ("DiverBottle$Diver", "load", "I", false)
  | 5 => ("DiverBottle$Diver", "fine", "I", false)
  | 6 => ("DiverBottle$Diver", "pace", "I", false)
  | _ => ("DiverBottle$Diver", "hook", "Z", false)
def tyX0 : Nat → FieldType := fun k => match k with
  | 0 => .int
  | 1 => .int
  | 2 => .int
  | 3 => .int
  | 4 => .int
  | 5 => .int
  | 6 => .int
  | _ => .boolean
abbrev wsX00 : List Cond := u_ws RX0 TX0 8
theorem nmX0 : ∀ a, a < 8 → ∀ b, b < 8 → a ≠ b → (TX0 a).2.1 ≠ (TX0 b).2.1 := by decide +kernel
theorem tyX0_ok : ∀ k, k < 8 → parseFieldDescriptor (TX0 k).2.2.1 = some (tyX0 k) := by decide +kernel
abbrev cX0_init : ByteArray := prog_2_method_1_code
def yX0_init : MethodName := ⟨RX0, "<init>", "()V"⟩
abbrev cX0_begin : ByteArray := prog_2_method_2_code
def yX0_begin : MethodName := ⟨RX0, "begin", "(II)V"⟩
abbrev cX0_copyFrom : ByteArray := prog_2_method_3_code
def yX0_copyFrom : MethodName := ⟨RX0, "copyFrom", "(LDiverBottle$Diver;)V"⟩
abbrev cX0_depth : ByteArray := prog_2_method_4_code
def yX0_depth : MethodName := ⟨RX0, "depth", "()I"⟩
abbrev cX0_move : ByteArray := prog_2_method_5_code
def yX0_move : MethodName := ⟨RX0, "move", "(III)V"⟩
abbrev cX0_stopAt : ByteArray := prog_2_method_6_code
def yX0_stopAt : MethodName := ⟨RX0, "stopAt", "(I)V"⟩
def RX1 : String := "DiverBottle$Hand"
def TX1 : u_T := fun k => match k with
  | 0 => ("DiverBottle$Hand", "held", "LDiverBottle$Diver;", true)
  | 1 => ("DiverBottle$Hand", "trail", "[I", true)
  | 2 => ("DiverBottle$Hand", "target", "I", false)
  | 3 => ("DiverBottle$Hand", "thumb", "I", false)
  | 4 => ("DiverBottle$Hand", "lostAt", "I", false)
  | _ => ("DiverBottle$Hand", "farthest", "I", false)
def tyX1 : Nat → FieldType := fun k => match k with
  | 0 => .object "DiverBottle$Diver"
  | 1 => .array .int
  | 2 => .int
  | 3 => .int
  | 4 => .int
  | _ => .int
abbrev wsX10 : List Cond := u_ws RX1 TX1 6
theorem nmX1 : ∀ a, a < 6 → ∀ b, b < 6 → a ≠ b → (TX1 a).2.1 ≠ (TX1 b).2.1 := by decide +kernel
theorem tyX1_ok : ∀ k, k < 6 → parseFieldDescriptor (TX1 k).2.2.1 = some (tyX1 k) := by decide +kernel
abbrev cX1_init : ByteArray := prog_3_method_1_code
def yX1_init : MethodName := ⟨RX1, "<init>", "()V"⟩
abbrev cX1_takeUp : ByteArray := prog_3_method_2_code
def yX1_takeUp : MethodName := ⟨RX1, "takeUp", "(LDiverBottle$Diver;II)V"⟩
abbrev cX1_turnThumb : ByteArray := prog_3_method_3_code
def yX1_turnThumb : MethodName := ⟨RX1, "turnThumb", "(III)V"⟩
abbrev cX1_mark : ByteArray := prog_3_method_4_code
def yX1_mark : MethodName := ⟨RX1, "mark", "(II)V"⟩
def RX2 : String := "DiverBottle$Reader"
def TX2 : u_T := fun k => match k with
  | 0 => ("DiverBottle$Reader", "tape", "[B", true)
  | 1 => ("DiverBottle$Reader", "water", "LDiverBottle$Water;", true)
  | 2 => ("DiverBottle$Reader", "divers", "[LDiverBottle$Diver;", true)
  | 3 => ("DiverBottle$Reader", "told", "[Z", true)
  | 4 => ("DiverBottle$Reader", "length", "I", false)
  | 5 => ("DiverBottle$Reader", "diverCount", "I", false)
  | 6 => ("DiverBottle$Reader", "lines", "I", false)
  | 7 => ("DiverBottle$Reader", "faultKind", "I", false)
  | 8 => ("DiverBottle$Reader", "faultPlace", "I", false)
  | 9 => ("DiverBottle$Reader", "place", "I", false)
  | 10 => ("DiverBottle$Reader", "kind", "I", false)
  | 11 => ("DiverBottle$Reader", "start", "I", false)
  | _ => ("DiverBottle$Reader", "number", "I", false)
def tyX2 : Nat → FieldType := fun k => match k with
  | 0 => .array .byte
  | 1 => .object "DiverBottle$Water"
  | 2 => .array (.object "DiverBottle$Diver")
  | 3 => .array .boolean
  | 4 => .int
  | 5 => .int
  | 6 => .int
  | 7 => .int
  | 8 => .int
  | 9 => .int
  | 10 => .int
  | 11 => .int
  | _ => .int
abbrev wsX20 : List Cond := u_ws RX2 TX2 13
theorem nmX2 : ∀ a, a < 13 → ∀ b, b < 13 → a ≠ b → (TX2 a).2.1 ≠ (TX2 b).2.1 := by decide +kernel
theorem tyX2_ok : ∀ k, k < 13 → parseFieldDescriptor (TX2 k).2.2.1 = some (tyX2 k) := by decide +kernel
abbrev cX2_init : ByteArray := prog_4_method_1_code
def yX2_init : MethodName := ⟨RX2, "<init>", "()V"⟩
abbrev cX2_append : ByteArray := prog_4_method_2_code
def yX2_append : MethodName := ⟨RX2, "append", "(J)Z"⟩
abbrev cX2_takeText : ByteArray := prog_4_method_3_code
def yX2_takeText : MethodName := ⟨RX2, "takeText", "()Z"⟩
abbrev cX2_begin : ByteArray := prog_4_method_4_code
def yX2_begin : MethodName := ⟨RX2, "begin", "()V"⟩
abbrev cX2_fail : ByteArray := prog_4_method_5_code
def yX2_fail : MethodName := ⟨RX2, "fail", "(I)Z"⟩
abbrev cX2_kindAt : ByteArray := prog_4_method_6_code
def yX2_kindAt : MethodName := ⟨RX2, "kindAt", "(I)I"⟩
abbrev cX2_nextToken : ByteArray := prog_4_method_7_code
def yX2_nextToken : MethodName := ⟨RX2, "nextToken", "()Z"⟩
abbrev cX2_isName : ByteArray := prog_4_method_8_code
def yX2_isName : MethodName := ⟨RX2, "isName", "(Ljava/lang/String;)Z"⟩
abbrev cX2_takeNumber : ByteArray := prog_4_method_9_code
def yX2_takeNumber : MethodName := ⟨RX2, "takeNumber", "(II)Z"⟩
abbrev cX2_takeStop : ByteArray := prog_4_method_10_code
def yX2_takeStop : MethodName := ⟨RX2, "takeStop", "()Z"⟩
abbrev cX2_takeRuleLine : ByteArray := prog_4_method_11_code
def yX2_takeRuleLine : MethodName := ⟨RX2, "takeRuleLine", "()Z"⟩
abbrev cX2_ruleNamed : ByteArray := prog_4_method_12_code
def yX2_ruleNamed : MethodName := ⟨RX2, "ruleNamed", "()I"⟩
abbrev cX2_takeRule : ByteArray := prog_4_method_13_code
def yX2_takeRule : MethodName := ⟨RX2, "takeRule", "(I)Z"⟩
abbrev cX2_takeHour : ByteArray := prog_4_method_14_code
def yX2_takeHour : MethodName := ⟨RX2, "takeHour", "()Z"⟩
abbrev cX2_takeDiver : ByteArray := prog_4_method_15_code
def yX2_takeDiver : MethodName := ⟨RX2, "takeDiver", "()Z"⟩
abbrev cX2_takeWiths : ByteArray := prog_4_method_16_code
def yX2_takeWiths : MethodName := ⟨RX2, "takeWiths", "(LDiverBottle$Diver;)Z"⟩
def RX3 : String := "DiverBottle$Scene"
def TX3 : u_T := fun k => match k with
  | 0 => ("DiverBottle$Scene", "divers", "[LDiverBottle$Diver;", true)
  | 1 => ("DiverBottle$Scene", "seen", "LDiverBottle$Seen;", true)
  | 2 => ("DiverBottle$Scene", "diverCount", "I", false)
  | 3 => ("DiverBottle$Scene", "thumb", "I", false)
  | 4 => ("DiverBottle$Scene", "warmth", "I", false)
  | 5 => ("DiverBottle$Scene", "ticks", "I", false)
  | 6 => ("DiverBottle$Scene", "fetched", "I", false)
  | _ => ("DiverBottle$Scene", "ringLies", "Z", false)
def tyX3 : Nat → FieldType := fun k => match k with
  | 0 => .array (.object "DiverBottle$Diver")
  | 1 => .object "DiverBottle$Seen"
  | 2 => .int
  | 3 => .int
  | 4 => .int
  | 5 => .int
  | 6 => .int
  | _ => .boolean
abbrev wsX30 : List Cond := u_ws RX3 TX3 8
theorem nmX3 : ∀ a, a < 8 → ∀ b, b < 8 → a ≠ b → (TX3 a).2.1 ≠ (TX3 b).2.1 := by decide +kernel
theorem tyX3_ok : ∀ k, k < 8 → parseFieldDescriptor (TX3 k).2.2.1 = some (tyX3 k) := by decide +kernel
abbrev cX3_init : ByteArray := prog_5_method_1_code
def yX3_init : MethodName := ⟨RX3, "<init>", "()V"⟩
abbrev cX3_begin : ByteArray := prog_5_method_2_code
def yX3_begin : MethodName := ⟨RX3, "begin", "(LDiverBottle$Water;[LDiverBottle$Diver;I)V"⟩
abbrev cX3_copyFrom : ByteArray := prog_5_method_3_code
def yX3_copyFrom : MethodName := ⟨RX3, "copyFrom", "(LDiverBottle$Scene;)V"⟩
abbrev cX3_copyDivers : ByteArray := prog_5_method_4_code
def yX3_copyDivers : MethodName := ⟨RX3, "copyDivers", "([LDiverBottle$Diver;I)V"⟩
def RX4 : String := "DiverBottle$Seen"
def TX4 : u_T := fun k => match k with
  | 0 => ("DiverBottle$Seen", "thumbs", "[I", true)
  | 1 => ("DiverBottle$Seen", "depths", "[I", true)
  | 2 => ("DiverBottle$Seen", "sank", "[Z", true)
  | _ => ("DiverBottle$Seen", "size", "I", false)
def tyX4 : Nat → FieldType := fun k => match k with
  | 0 => .array .int
  | 1 => .array .int
  | 2 => .array .boolean
  | _ => .int
abbrev wsX40 : List Cond := u_ws RX4 TX4 4
theorem nmX4 : ∀ a, a < 4 → ∀ b, b < 4 → a ≠ b → (TX4 a).2.1 ≠ (TX4 b).2.1 := by decide +kernel
theorem tyX4_ok : ∀ k, k < 4 → parseFieldDescriptor (TX4 k).2.2.1 = some (tyX4 k) := by decide +kernel
abbrev cX4_init : ByteArray := prog_6_method_1_code
def yX4_init : MethodName := ⟨RX4, "<init>", "()V"⟩
abbrev cX4_add : ByteArray := prog_6_method_2_code
def yX4_add : MethodName := ⟨RX4, "add", "(IIZ)Z"⟩
abbrev cX4_copyFrom : ByteArray := prog_6_method_3_code
def yX4_copyFrom : MethodName := ⟨RX4, "copyFrom", "(LDiverBottle$Seen;)V"⟩
def RX5 : String := "DiverBottle$Sheet"
def TX5 : u_T := fun k => match k with
  | 0 => ("DiverBottle$Sheet", "cells", "[I", true)
  | 1 => ("DiverBottle$Sheet", "lane", "I", false)
  | _ => ("DiverBottle$Sheet", "size", "I", false)
def tyX5 : Nat → FieldType := fun k => match k with
  | 0 => .array .int
  | 1 => .int
  | _ => .int
abbrev wsX50 : List Cond := u_ws RX5 TX5 3
theorem nmX5 : ∀ a, a < 3 → ∀ b, b < 3 → a ≠ b → (TX5 a).2.1 ≠ (TX5 b).2.1 := by decide +kernel
theorem tyX5_ok : ∀ k, k < 3 → parseFieldDescriptor (TX5 k).2.2.1 = some (tyX5 k) := by decide +kernel
abbrev cX5_init : ByteArray := prog_7_method_1_code
def yX5_init : MethodName := ⟨RX5, "<init>", "()V"⟩
abbrev cX5_renew : ByteArray := prog_7_method_2_code
def yX5_renew : MethodName := ⟨RX5, "renew", "(II)V"⟩
abbrev cX5_faultAt : ByteArray := prog_7_method_3_code
def yX5_faultAt : MethodName := ⟨RX5, "faultAt", "(I)I"⟩
abbrev cX5_faultOfThree : ByteArray := prog_7_method_4_code
def yX5_faultOfThree : MethodName := ⟨RX5, "faultOfThree", "(II)I"⟩
abbrev cX5_put : ByteArray := prog_7_method_5_code
def yX5_put : MethodName := ⟨RX5, "put", "(II)V"⟩
def RX6 : String := "DiverBottle$Water"
def TX6 : u_T := fun k => match k with
  | 0 => ("DiverBottle$Water", "rules", "[I", true)
  | _ => ("DiverBottle$Water", "warmths", "[I", true)
def tyX6 : Nat → FieldType := fun k => match k with
  | 0 => .array .int
  | _ => .array .int
abbrev wsX60 : List Cond := u_ws RX6 TX6 2
theorem nmX6 : ∀ a, a < 2 → ∀ b, b < 2 → a ≠ b → (TX6 a).2.1 ≠ (TX6 b).2.1 := by decide +kernel
theorem tyX6_ok : ∀ k, k < 2 → parseFieldDescriptor (TX6 k).2.2.1 = some (tyX6 k) := by decide +kernel
abbrev cX6_init : ByteArray := prog_8_method_1_code
def yX6_init : MethodName := ⟨RX6, "<init>", "()V"⟩
abbrev cX6_begin : ByteArray := prog_8_method_2_code
def yX6_begin : MethodName := ⟨RX6, "begin", "()V"⟩
abbrev cX6_fillWarmths : ByteArray := prog_8_method_3_code
def yX6_fillWarmths : MethodName := ⟨RX6, "fillWarmths", "()V"⟩
abbrev cX6_copyFrom : ByteArray := prog_8_method_4_code
def yX6_copyFrom : MethodName := ⟨RX6, "copyFrom", "(LDiverBottle$Water;)V"⟩
abbrev cX6_floor : ByteArray := prog_8_method_5_code
def yX6_floor : MethodName := ⟨RX6, "floor", "()I"⟩
abbrev cX6_pressAt : ByteArray := prog_8_method_6_code
def yX6_pressAt : MethodName := ⟨RX6, "pressAt", "(II)I"⟩
abbrev cX6_lighterAt : ByteArray := prog_8_method_7_code
def yX6_lighterAt : MethodName := ⟨RX6, "lighterAt", "(I)I"⟩
abbrev cX6_weight : ByteArray := prog_8_method_8_code
def yX6_weight : MethodName := ⟨RX6, "weight", "(IIIII)I"⟩
abbrev cX6_leastBubble : ByteArray := prog_8_method_9_code
def yX6_leastBubble : MethodName := ⟨RX6, "leastBubble", "(III)I"⟩
def RX7 : String := "DiverBottle"
def TX7 : u_T := fun k => match k with
  | 0 => ("DiverBottle", "reader", "LDiverBottle$Reader;", true)
  | 1 => ("DiverBottle", "water", "LDiverBottle$Water;", true)
  | 2 => ("DiverBottle", "scene", "LDiverBottle$Scene;", true)
  | 3 => ("DiverBottle", "images", "[LDiverBottle$Scene;", true)
  | 4 => ("DiverBottle", "kept", "[Z", true)
  | 5 => ("DiverBottle", "sheets", "[LDiverBottle$Sheet;", true)
  | 6 => ("DiverBottle", "came", "LDiverBottle$Seen;", true)
  | 7 => ("DiverBottle", "hand", "LDiverBottle$Hand;", true)
  | 8 => ("DiverBottle", "goers", "[Z", true)
  | 9 => ("DiverBottle", "textFault", "I", false)
  | _ => ("DiverBottle", "readFault", "I", false)
def tyX7 : Nat → FieldType := fun k => match k with
  | 0 => .object "DiverBottle$Reader"
  | 1 => .object "DiverBottle$Water"
  | 2 => .object "DiverBottle$Scene"
  | 3 => .array (.object "DiverBottle$Scene")
  | 4 => .array .boolean
  | 5 => .array (.object "DiverBottle$Sheet")
  | 6 => .object "DiverBottle$Seen"
  | 7 => .object "DiverBottle$Hand"
  | 8 => .array .boolean
  | 9 => .int
  | _ => .int
abbrev wsX70 : List Cond := u_ws RX7 TX7 11
theorem nmX7 : ∀ a, a < 11 → ∀ b, b < 11 → a ≠ b → (TX7 a).2.1 ≠ (TX7 b).2.1 := by decide +kernel
theorem tyX7_ok : ∀ k, k < 11 → parseFieldDescriptor (TX7 k).2.2.1 = some (tyX7 k) := by decide +kernel
abbrev cX7_init : ByteArray := prog_1_method_1_code
def yX7_init : MethodName := ⟨RX7, "<init>", "()V"⟩
abbrev cX7_feed : ByteArray := prog_1_method_2_code
def yX7_feed : MethodName := ⟨RX7, "feed", "(J)I"⟩
abbrev cX7_end : ByteArray := prog_1_method_3_code
def yX7_end : MethodName := ⟨RX7, "end", "(I)I"⟩
abbrev cX7_text : ByteArray := prog_1_method_4_code
def yX7_text : MethodName := ⟨RX7, "text", "()I"⟩
abbrev cX7_fault : ByteArray := prog_1_method_5_code
def yX7_fault : MethodName := ⟨RX7, "fault", "()I"⟩
abbrev cX7_rule : ByteArray := prog_1_method_6_code
def yX7_rule : MethodName := ⟨RX7, "rule", "(I)I"⟩
abbrev cX7_diver : ByteArray := prog_1_method_7_code
def yX7_diver : MethodName := ⟨RX7, "diver", "(II)I"⟩
abbrev cX7_thumb : ByteArray := prog_1_method_8_code
def yX7_thumb : MethodName := ⟨RX7, "thumb", "(I)I"⟩
abbrev cX7_warm : ByteArray := prog_1_method_9_code
def yX7_warm : MethodName := ⟨RX7, "warm", "(I)I"⟩
abbrev cX7_go : ByteArray := prog_1_method_10_code
def yX7_go : MethodName := ⟨RX7, "go", "(I)I"⟩
abbrev cX7_set : ByteArray := prog_1_method_11_code
def yX7_set : MethodName := ⟨RX7, "set", "(II)I"⟩
abbrev cX7_now : ByteArray := prog_1_method_12_code
def yX7_now : MethodName := ⟨RX7, "now", "(I)I"⟩
abbrev cX7_drop : ByteArray := prog_1_method_13_code
def yX7_drop : MethodName := ⟨RX7, "drop", "()I"⟩
abbrev cX7_press : ByteArray := prog_1_method_14_code
def yX7_press : MethodName := ⟨RX7, "press", "(I)I"⟩
abbrev cX7_weighs : ByteArray := prog_1_method_15_code
def yX7_weighs : MethodName := ⟨RX7, "weighs", "(III)I"⟩
abbrev cX7_turning : ByteArray := prog_1_method_16_code
def yX7_turning : MethodName := ⟨RX7, "turning", "(II)I"⟩
abbrev cX7_holding : ByteArray := prog_1_method_17_code
def yX7_holding : MethodName := ⟨RX7, "holding", "(II)I"⟩
abbrev cX7_back : ByteArray := prog_1_method_18_code
def yX7_back : MethodName := ⟨RX7, "back", "(I)I"⟩
abbrev cX7_goesAt : ByteArray := prog_1_method_19_code
def yX7_goesAt : MethodName := ⟨RX7, "goesAt", "(I)I"⟩
abbrev cX7_order : ByteArray := prog_1_method_20_code
def yX7_order : MethodName := ⟨RX7, "order", "(I)I"⟩
abbrev cX7_apart : ByteArray := prog_1_method_21_code
def yX7_apart : MethodName := ⟨RX7, "apart", "()I"⟩
abbrev cX7_lifts : ByteArray := prog_1_method_22_code
def yX7_lifts : MethodName := ⟨RX7, "lifts", "(I)I"⟩
abbrev cX7_bubbles : ByteArray := prog_1_method_23_code
def yX7_bubbles : MethodName := ⟨RX7, "bubbles", "(III)I"⟩
abbrev cX7_atThumb : ByteArray := prog_1_method_24_code
def yX7_atThumb : MethodName := ⟨RX7, "atThumb", "(III)I"⟩
abbrev cX7_spread : ByteArray := prog_1_method_25_code
def yX7_spread : MethodName := ⟨RX7, "spread", "(III)I"⟩
abbrev cX7_hold : ByteArray := prog_1_method_26_code
def yX7_hold : MethodName := ⟨RX7, "hold", "(IIIIIII)I"⟩
abbrev cX7_late : ByteArray := prog_1_method_27_code
def yX7_late : MethodName := ⟨RX7, "late", "(IIIII)I"⟩
abbrev cX7_step : ByteArray := prog_1_method_28_code
def yX7_step : MethodName := ⟨RX7, "step", "(IIIIII)I"⟩
abbrev cX7_hours : ByteArray := prog_1_method_29_code
def yX7_hours : MethodName := ⟨RX7, "hours", "(II)I"⟩
abbrev cX7_trips : ByteArray := prog_1_method_30_code
def yX7_trips : MethodName := ⟨RX7, "trips", "(I)I"⟩
abbrev cX7_bladder : ByteArray := prog_1_method_31_code
def yX7_bladder : MethodName := ⟨RX7, "bladder", "(IIII)I"⟩
abbrev cX7_beats : ByteArray := prog_1_method_32_code
def yX7_beats : MethodName := ⟨RX7, "beats", "(IIII)I"⟩
abbrev cX7_saw : ByteArray := prog_1_method_33_code
def yX7_saw : MethodName := ⟨RX7, "saw", "(IIZ)I"⟩
abbrev cX7_forget : ByteArray := prog_1_method_34_code
def yX7_forget : MethodName := ⟨RX7, "forget", "()I"⟩
abbrev cX7_fits : ByteArray := prog_1_method_35_code
def yX7_fits : MethodName := ⟨RX7, "fits", "(II)I"⟩
abbrev cX7_who : ByteArray := prog_1_method_36_code
def yX7_who : MethodName := ⟨RX7, "who", "()I"⟩
abbrev cX7_keep : ByteArray := prog_1_method_37_code
def yX7_keep : MethodName := ⟨RX7, "keep", "(I)I"⟩
abbrev cX7_restore : ByteArray := prog_1_method_38_code
def yX7_restore : MethodName := ⟨RX7, "restore", "(I)I"⟩
abbrev cX7_sheet : ByteArray := prog_1_method_39_code
def yX7_sheet : MethodName := ⟨RX7, "sheet", "(III)I"⟩
abbrev cX7_lay : ByteArray := prog_1_method_40_code
def yX7_lay : MethodName := ⟨RX7, "lay", "(III)I"⟩
abbrev cX7_read : ByteArray := prog_1_method_41_code
def yX7_read : MethodName := ⟨RX7, "read", "(IIII)I"⟩
abbrev cX7_torn : ByteArray := prog_1_method_42_code
def yX7_torn : MethodName := ⟨RX7, "torn", "()I"⟩
abbrev cX7_count : ByteArray := prog_1_method_43_code
def yX7_count : MethodName := ⟨RX7, "count", "(I)I"⟩
abbrev cX7_within : ByteArray := prog_1_method_44_code
def yX7_within : MethodName := ⟨RX7, "within", "(III)Z"⟩
abbrev cX7_isThumb : ByteArray := prog_1_method_45_code
def yX7_isThumb : MethodName := ⟨RX7, "isThumb", "(I)Z"⟩
abbrev cX7_isHeavy : ByteArray := prog_1_method_46_code
def yX7_isHeavy : MethodName := ⟨RX7, "isHeavy", "(I)Z"⟩
abbrev cX7_isLate : ByteArray := prog_1_method_47_code
def yX7_isLate : MethodName := ⟨RX7, "isLate", "(I)Z"⟩
abbrev cX7_isStep : ByteArray := prog_1_method_48_code
def yX7_isStep : MethodName := ⟨RX7, "isStep", "(I)Z"⟩
abbrev cX7_isSheet : ByteArray := prog_1_method_49_code
def yX7_isSheet : MethodName := ⟨RX7, "isSheet", "(I)Z"⟩
abbrev cX7_isLane : ByteArray := prog_1_method_50_code
def yX7_isLane : MethodName := ⟨RX7, "isLane", "(I)Z"⟩
abbrev cX7_isDiver : ByteArray := prog_1_method_51_code
def yX7_isDiver : MethodName := ⟨RX7, "isDiver", "(I)Z"⟩
abbrev cX7_isDepth : ByteArray := prog_1_method_52_code
def yX7_isDepth : MethodName := ⟨RX7, "isDepth", "(I)Z"⟩
abbrev cX7_canHold : ByteArray := prog_1_method_53_code
def yX7_canHold : MethodName := ⟨RX7, "canHold", "(IIII)Z"⟩
abbrev cX7_divideUp : ByteArray := prog_1_method_54_code
def yX7_divideUp : MethodName := ⟨RX7, "divideUp", "(II)I"⟩
abbrev cX7_divideCut : ByteArray := prog_1_method_55_code
def yX7_divideCut : MethodName := ⟨RX7, "divideCut", "(II)I"⟩
abbrev cX7_bit : ByteArray := prog_1_method_56_code
def yX7_bit : MethodName := ⟨RX7, "bit", "(Z)I"⟩
abbrev cX7_weightOf : ByteArray := prog_1_method_57_code
def yX7_weightOf : MethodName := ⟨RX7, "weightOf", "(LDiverBottle$Diver;II)I"⟩
abbrev cX7_diversAt : ByteArray := prog_1_method_58_code
def yX7_diversAt : MethodName := ⟨RX7, "diversAt", "(I)I"⟩
abbrev cX7_hooks : ByteArray := prog_1_method_59_code
def yX7_hooks : MethodName := ⟨RX7, "hooks", "()I"⟩
abbrev cX7_moveDiver : ByteArray := prog_1_method_60_code
def yX7_moveDiver : MethodName := ⟨RX7, "moveDiver", "(LDiverBottle$Diver;)V"⟩
abbrev cX7_comeToFloor : ByteArray := prog_1_method_61_code
def yX7_comeToFloor : MethodName := ⟨RX7, "comeToFloor", "(LDiverBottle$Diver;)V"⟩
abbrev cX7_comeToTop : ByteArray := prog_1_method_62_code
def yX7_comeToTop : MethodName := ⟨RX7, "comeToTop", "(LDiverBottle$Diver;)V"⟩
abbrev cX7_thumbOf : ByteArray := prog_1_method_63_code
def yX7_thumbOf : MethodName := ⟨RX7, "thumbOf", "(I)I"⟩
abbrev cX7_diversAhead : ByteArray := prog_1_method_64_code
def yX7_diversAhead : MethodName := ⟨RX7, "diversAhead", "(I)I"⟩
abbrev cX7_isAhead : ByteArray := prog_1_method_65_code
def yX7_isAhead : MethodName := ⟨RX7, "isAhead", "(II)Z"⟩
abbrev cX7_leavesAt : ByteArray := prog_1_method_66_code
def yX7_leavesAt : MethodName := ⟨RX7, "leavesAt", "(LDiverBottle$Diver;IZ)Z"⟩
abbrev cX7_canBe : ByteArray := prog_1_method_67_code
def yX7_canBe : MethodName := ⟨RX7, "canBe", "(LDiverBottle$Diver;)Z"⟩
abbrev cX7_floatsFrom : ByteArray := prog_1_method_68_code
def yX7_floatsFrom : MethodName := ⟨RX7, "floatsFrom", "(III)I"⟩
abbrev cX7_risesFrom : ByteArray := prog_1_method_69_code
def yX7_risesFrom : MethodName := ⟨RX7, "risesFrom", "(II)I"⟩
abbrev cX7_comesBackFrom : ByteArray := prog_1_method_70_code
def yX7_comesBackFrom : MethodName := ⟨RX7, "comesBackFrom", "(I)I"⟩
abbrev cX7_leastAtThumb : ByteArray := prog_1_method_71_code
def yX7_leastAtThumb : MethodName := ⟨RX7, "leastAtThumb", "(II)I"⟩
abbrev cX7_greatestAtThumb : ByteArray := prog_1_method_72_code
def yX7_greatestAtThumb : MethodName := ⟨RX7, "greatestAtThumb", "(II)I"⟩
abbrev cX7_tellRange : ByteArray := prog_1_method_73_code
def yX7_tellRange : MethodName := ⟨RX7, "tellRange", "(III)I"⟩
abbrev cX7_findGoers : ByteArray := prog_1_method_74_code
def yX7_findGoers : MethodName := ⟨RX7, "findGoers", "(I)V"⟩
abbrev cX7_firstGoer : ByteArray := prog_1_method_75_code
def yX7_firstGoer : MethodName := ⟨RX7, "firstGoer", "()I"⟩
abbrev cX7_goersApart : ByteArray := prog_1_method_76_code
def yX7_goersApart : MethodName := ⟨RX7, "goersApart", "(I)I"⟩
abbrev cX7_greatestGap : ByteArray := prog_1_method_77_code
def yX7_greatestGap : MethodName := ⟨RX7, "greatestGap", "(I)I"⟩
abbrev cX7_tryHold : ByteArray := prog_1_method_78_code
def yX7_tryHold : MethodName := ⟨RX7, "tryHold", "(IIIIII)V"⟩
def RX8 : String := "DiverBottleModel"
def TX8 : u_T := fun k => match k with
  | 0 => ("DiverBottleModel", "st", "[I", true)
  | 1 => ("DiverBottleModel", "isKept", "[Z", true)
  | 2 => ("DiverBottleModel", "rule", "[I", true)
  | 3 => ("DiverBottleModel", "hour", "[I", true)
  | 4 => ("DiverBottleModel", "dRule", "[I", true)
  | 5 => ("DiverBottleModel", "dHour", "[I", true)
  | 6 => ("DiverBottleModel", "dDiver", "[I", true)
  | 7 => ("DiverBottleModel", "dMany", "I", false)
  | 8 => ("DiverBottleModel", "toldLines", "I", false)
  | 9 => ("DiverBottleModel", "tape", "[I", true)
  | 10 => ("DiverBottleModel", "taped", "I", false)
  | 11 => ("DiverBottleModel", "pos", "I", false)
  | 12 => ("DiverBottleModel", "from", "I", false)
  | 13 => ("DiverBottleModel", "sort", "I", false)
  | 14 => ("DiverBottleModel", "value", "I", false)
  | 15 => ("DiverBottleModel", "fault", "I", false)
  | 16 => ("DiverBottleModel", "wrongAt", "I", false)
  | 17 => ("DiverBottleModel", "at", "I", false)
  | 18 => ("DiverBottleModel", "pace", "I", false)
  | 19 => ("DiverBottleModel", "many", "I", false)
  | 20 => ("DiverBottleModel", "lowest", "I", false)
  | 21 => ("DiverBottleModel", "highest", "I", false)
  | 22 => ("DiverBottleModel", "isAt", "[Z", true)
  | 23 => ("DiverBottleModel", "trail", "[I", true)
  | 24 => ("DiverBottleModel", "lostIn", "I", false)
  | 25 => ("DiverBottleModel", "farthest", "I", false)
  | 26 => ("DiverBottleModel", "thumbNow", "I", false)
  | 27 => ("DiverBottleModel", "lanes", "[I", true)
  | 28 => ("DiverBottleModel", "sizes", "[I", true)
  | 29 => ("DiverBottleModel", "cells", "[I", true)
  | _ => ("DiverBottleModel", "torn", "I", false)
def tyX8 : Nat → FieldType := fun k => match k with
  | 0 => .array .int
  | 1 => .array .boolean
  | 2 => .array .int
  | 3 => .array .int
  | 4 => .array .int
  | 5 => .array .int
  | 6 => .array .int
  | 7 => .int
  | 8 => .int
  | 9 => .array .int
  | 10 => .int
  | 11 => .int
  | 12 => .int
  | 13 => .int
  | 14 => .int
  | 15 => .int
  | 16 => .int
  | 17 => .int
  | 18 => .int
  | 19 => .int
  | 20 => .int
  | 21 => .int
  | 22 => .array .boolean
  | 23 => .array .int
  | 24 => .int
  | 25 => .int
  | 26 => .int
  | 27 => .array .int
  | 28 => .array .int
  | 29 => .array .int
  | _ => .int
abbrev wsX80 : List Cond := u_ws RX8 TX8 31
theorem nmX8 : ∀ a, a < 31 → ∀ b, b < 31 → a ≠ b → (TX8 a).2.1 ≠ (TX8 b).2.1 := by decide +kernel
theorem tyX8_ok : ∀ k, k < 31 → parseFieldDescriptor (TX8 k).2.2.1 = some (tyX8 k) := by decide +kernel
abbrev cX8_init : ByteArray := prog_10_method_1_code
def yX8_init : MethodName := ⟨RX8, "<init>", "()V"⟩
abbrev cX8_in : ByteArray := prog_10_method_3_code
def yX8_in : MethodName := ⟨RX8, "in", "(JJJ)Z"⟩
abbrev cX8_flag : ByteArray := prog_10_method_4_code
def yX8_flag : MethodName := ⟨RX8, "flag", "(Z)I"⟩
abbrev cX8_size : ByteArray := prog_10_method_5_code
def yX8_size : MethodName := ⟨RX8, "size", "(I)I"⟩
abbrev cX8_firstDraft : ByteArray := prog_10_method_6_code
def yX8_firstDraft : MethodName := ⟨RX8, "firstDraft", "()V"⟩
abbrev cX8_keepDraft : ByteArray := prog_10_method_7_code
def yX8_keepDraft : MethodName := ⟨RX8, "keepDraft", "()V"⟩
abbrev cX8_feed : ByteArray := prog_10_method_8_code
def yX8_feed : MethodName := ⟨RX8, "feed", "(J)I"⟩
abbrev cX8_end : ByteArray := prog_10_method_9_code
def yX8_end : MethodName := ⟨RX8, "end", "(I)I"⟩
abbrev cX8_needs : ByteArray := prog_10_method_10_code
def yX8_needs : MethodName := ⟨RX8, "needs", "(ZI)V"⟩
abbrev cX8_look : ByteArray := prog_10_method_11_code
def yX8_look : MethodName := ⟨RX8, "look", "(I)I"⟩
abbrev cX8_is : ByteArray := prog_10_method_12_code
def yX8_is : MethodName := ⟨RX8, "is", "(IIIII)Z"⟩
abbrev cX8_withNow : ByteArray := prog_10_method_13_code
def yX8_withNow : MethodName := ⟨RX8, "withNow", "()I"⟩
abbrev cX8_nameNow : ByteArray := prog_10_method_14_code
def yX8_nameNow : MethodName := ⟨RX8, "nameNow", "()I"⟩
abbrev cX8_next : ByteArray := prog_10_method_15_code
def yX8_next : MethodName := ⟨RX8, "next", "()V"⟩
abbrev cX8_isNumber : ByteArray := prog_10_method_16_code
def yX8_isNumber : MethodName := ⟨RX8, "isNumber", "(II)V"⟩
abbrev cX8_readNumber : ByteArray := prog_10_method_17_code
def yX8_readNumber : MethodName := ⟨RX8, "readNumber", "(II)I"⟩
abbrev cX8_readHour : ByteArray := prog_10_method_18_code
def yX8_readHour : MethodName := ⟨RX8, "readHour", "()V"⟩
abbrev cX8_readDiver : ByteArray := prog_10_method_19_code
def yX8_readDiver : MethodName := ⟨RX8, "readDiver", "()V"⟩
abbrev cX8_readRule : ByteArray := prog_10_method_20_code
def yX8_readRule : MethodName := ⟨RX8, "readRule", "(I)V"⟩
abbrev cX8_readLine : ByteArray := prog_10_method_21_code
def yX8_readLine : MethodName := ⟨RX8, "readLine", "()V"⟩
abbrev cX8_text : ByteArray := prog_10_method_22_code
def yX8_text : MethodName := ⟨RX8, "text", "()I"⟩
abbrev cX8_fault : ByteArray := prog_10_method_23_code
def yX8_fault : MethodName := ⟨RX8, "fault", "()I"⟩
abbrev cX8_rule : ByteArray := prog_10_method_24_code
def yX8_rule : MethodName := ⟨RX8, "rule", "(I)I"⟩
abbrev cX8_isDiver : ByteArray := prog_10_method_25_code
def yX8_isDiver : MethodName := ⟨RX8, "isDiver", "(I)Z"⟩
abbrev cX8_isDepth : ByteArray := prog_10_method_26_code
def yX8_isDepth : MethodName := ⟨RX8, "isDepth", "(I)Z"⟩
abbrev cX8_isThumb : ByteArray := prog_10_method_27_code
def yX8_isThumb : MethodName := ⟨RX8, "isThumb", "(I)Z"⟩
abbrev cX8_of : ByteArray := prog_10_method_28_code
def yX8_of : MethodName := ⟨RX8, "of", "(II)I"⟩
abbrev cX8_weight : ByteArray := prog_10_method_29_code
def yX8_weight : MethodName := ⟨RX8, "weight", "(IIIII)I"⟩
abbrev cX8_heavy : ByteArray := prog_10_method_30_code
def yX8_heavy : MethodName := ⟨RX8, "heavy", "(I)I"⟩
abbrev cX8_weighsAt : ByteArray := prog_10_method_31_code
def yX8_weighsAt : MethodName := ⟨RX8, "weighsAt", "(III)I"⟩
abbrev cX8_diver : ByteArray := prog_10_method_32_code
def yX8_diver : MethodName := ⟨RX8, "diver", "(II)I"⟩
abbrev cX8_thumb : ByteArray := prog_10_method_33_code
def yX8_thumb : MethodName := ⟨RX8, "thumb", "(I)I"⟩
abbrev cX8_warm : ByteArray := prog_10_method_34_code
def yX8_warm : MethodName := ⟨RX8, "warm", "(I)I"⟩
abbrev cX8_floor : ByteArray := prog_10_method_35_code
def yX8_floor : MethodName := ⟨RX8, "floor", "()I"⟩
abbrev cX8_moves : ByteArray := prog_10_method_36_code
def yX8_moves : MethodName := ⟨RX8, "moves", "(III)V"⟩
abbrev cX8_tickOf : ByteArray := prog_10_method_37_code
def yX8_tickOf : MethodName := ⟨RX8, "tickOf", "(I)V"⟩
abbrev cX8_those : ByteArray := prog_10_method_38_code
def yX8_those : MethodName := ⟨RX8, "those", "(I)I"⟩
abbrev cX8_go : ByteArray := prog_10_method_39_code
def yX8_go : MethodName := ⟨RX8, "go", "(I)I"⟩
abbrev cX8_set : ByteArray := prog_10_method_40_code
def yX8_set : MethodName := ⟨RX8, "set", "(II)I"⟩
abbrev cX8_now : ByteArray := prog_10_method_41_code
def yX8_now : MethodName := ⟨RX8, "now", "(I)I"⟩
abbrev cX8_drop : ByteArray := prog_10_method_42_code
def yX8_drop : MethodName := ⟨RX8, "drop", "()I"⟩
abbrev cX8_press : ByteArray := prog_10_method_43_code
def yX8_press : MethodName := ⟨RX8, "press", "(I)I"⟩
abbrev cX8_weighs : ByteArray := prog_10_method_44_code
def yX8_weighs : MethodName := ⟨RX8, "weighs", "(III)I"⟩
abbrev cX8_turning : ByteArray := prog_10_method_45_code
def yX8_turning : MethodName := ⟨RX8, "turning", "(II)I"⟩
abbrev cX8_holding : ByteArray := prog_10_method_46_code
def yX8_holding : MethodName := ⟨RX8, "holding", "(II)I"⟩
abbrev cX8_back : ByteArray := prog_10_method_47_code
def yX8_back : MethodName := ⟨RX8, "back", "(I)I"⟩
abbrev cX8_goesWith : ByteArray := prog_10_method_48_code
def yX8_goesWith : MethodName := ⟨RX8, "goesWith", "(II)I"⟩
abbrev cX8_goesOf : ByteArray := prog_10_method_49_code
def yX8_goesOf : MethodName := ⟨RX8, "goesOf", "(I)I"⟩
abbrev cX8_goesAt : ByteArray := prog_10_method_50_code
def yX8_goesAt : MethodName := ⟨RX8, "goesAt", "(I)I"⟩
abbrev cX8_rankOf : ByteArray := prog_10_method_51_code
def yX8_rankOf : MethodName := ⟨RX8, "rankOf", "(I)I"⟩
abbrev cX8_order : ByteArray := prog_10_method_52_code
def yX8_order : MethodName := ⟨RX8, "order", "(I)I"⟩
abbrev cX8_apart : ByteArray := prog_10_method_53_code
def yX8_apart : MethodName := ⟨RX8, "apart", "()I"⟩
abbrev cX8_lifts : ByteArray := prog_10_method_54_code
def yX8_lifts : MethodName := ⟨RX8, "lifts", "(I)I"⟩
abbrev cX8_noBubbles : ByteArray := prog_10_method_55_code
def yX8_noBubbles : MethodName := ⟨RX8, "noBubbles", "()V"⟩
abbrev cX8_aBubble : ByteArray := prog_10_method_56_code
def yX8_aBubble : MethodName := ⟨RX8, "aBubble", "(I)V"⟩
abbrev cX8_told : ByteArray := prog_10_method_57_code
def yX8_told : MethodName := ⟨RX8, "told", "(I)I"⟩
abbrev cX8_comesBack : ByteArray := prog_10_method_58_code
def yX8_comesBack : MethodName := ⟨RX8, "comesBack", "(II)Z"⟩
abbrev cX8_goesBy : ByteArray := prog_10_method_59_code
def yX8_goesBy : MethodName := ⟨RX8, "goesBy", "(III)Z"⟩
abbrev cX8_isHeavy : ByteArray := prog_10_method_60_code
def yX8_isHeavy : MethodName := ⟨RX8, "isHeavy", "(I)Z"⟩
abbrev cX8_bubbles : ByteArray := prog_10_method_61_code
def yX8_bubbles : MethodName := ⟨RX8, "bubbles", "(III)I"⟩
abbrev cX8_atThumb : ByteArray := prog_10_method_62_code
def yX8_atThumb : MethodName := ⟨RX8, "atThumb", "(III)I"⟩
abbrev cX8_layThumbs : ByteArray := prog_10_method_63_code
def yX8_layThumbs : MethodName := ⟨RX8, "layThumbs", "(I)V"⟩
abbrev cX8_takenBy : ByteArray := prog_10_method_64_code
def yX8_takenBy : MethodName := ⟨RX8, "takenBy", "(I)I"⟩
abbrev cX8_spread : ByteArray := prog_10_method_65_code
def yX8_spread : MethodName := ⟨RX8, "spread", "(III)I"⟩
abbrev cX8_holds : ByteArray := prog_10_method_66_code
def yX8_holds : MethodName := ⟨RX8, "holds", "(IIIIII)V"⟩
abbrev cX8_isHold : ByteArray := prog_10_method_67_code
def yX8_isHold : MethodName := ⟨RX8, "isHold", "(IIII)Z"⟩
abbrev cX8_isStep : ByteArray := prog_10_method_68_code
def yX8_isStep : MethodName := ⟨RX8, "isStep", "(I)Z"⟩
abbrev cX8_isLate : ByteArray := prog_10_method_69_code
def yX8_isLate : MethodName := ⟨RX8, "isLate", "(I)Z"⟩
abbrev cX8_hold : ByteArray := prog_10_method_70_code
def yX8_hold : MethodName := ⟨RX8, "hold", "(IIIIIII)I"⟩
abbrev cX8_late : ByteArray := prog_10_method_71_code
def yX8_late : MethodName := ⟨RX8, "late", "(IIIII)I"⟩
abbrev cX8_step : ByteArray := prog_10_method_72_code
def yX8_step : MethodName := ⟨RX8, "step", "(IIIIII)I"⟩
abbrev cX8_hours : ByteArray := prog_10_method_73_code
def yX8_hours : MethodName := ⟨RX8, "hours", "(II)I"⟩
abbrev cX8_trips : ByteArray := prog_10_method_74_code
def yX8_trips : MethodName := ⟨RX8, "trips", "(I)I"⟩
abbrev cX8_bladderAt : ByteArray := prog_10_method_75_code
def yX8_bladderAt : MethodName := ⟨RX8, "bladderAt", "(II)I"⟩
abbrev cX8_bladder : ByteArray := prog_10_method_76_code
def yX8_bladder : MethodName := ⟨RX8, "bladder", "(IIII)I"⟩
abbrev cX8_beats : ByteArray := prog_10_method_77_code
def yX8_beats : MethodName := ⟨RX8, "beats", "(IIII)I"⟩
abbrev cX8_saw : ByteArray := prog_10_method_78_code
def yX8_saw : MethodName := ⟨RX8, "saw", "(IIZ)I"⟩
abbrev cX8_forget : ByteArray := prog_10_method_79_code
def yX8_forget : MethodName := ⟨RX8, "forget", "()I"⟩
abbrev cX8_canBe : ByteArray := prog_10_method_80_code
def yX8_canBe : MethodName := ⟨RX8, "canBe", "(II)Z"⟩
abbrev cX8_fits : ByteArray := prog_10_method_81_code
def yX8_fits : MethodName := ⟨RX8, "fits", "(II)I"⟩
abbrev cX8_who : ByteArray := prog_10_method_82_code
def yX8_who : MethodName := ⟨RX8, "who", "()I"⟩
abbrev cX8_copies : ByteArray := prog_10_method_83_code
def yX8_copies : MethodName := ⟨RX8, "copies", "(II)V"⟩
abbrev cX8_keep : ByteArray := prog_10_method_84_code
def yX8_keep : MethodName := ⟨RX8, "keep", "(I)I"⟩
abbrev cX8_restore : ByteArray := prog_10_method_85_code
def yX8_restore : MethodName := ⟨RX8, "restore", "(I)I"⟩
abbrev cX8_isSheet : ByteArray := prog_10_method_86_code
def yX8_isSheet : MethodName := ⟨RX8, "isSheet", "(II)Z"⟩
abbrev cX8_sheet : ByteArray := prog_10_method_87_code
def yX8_sheet : MethodName := ⟨RX8, "sheet", "(III)I"⟩
abbrev cX8_lay : ByteArray := prog_10_method_88_code
def yX8_lay : MethodName := ⟨RX8, "lay", "(III)I"⟩
abbrev cX8_read : ByteArray := prog_10_method_89_code
def yX8_read : MethodName := ⟨RX8, "read", "(IIII)I"⟩
abbrev cX8_torn : ByteArray := prog_10_method_90_code
def yX8_torn : MethodName := ⟨RX8, "torn", "()I"⟩
abbrev cX8_count : ByteArray := prog_10_method_91_code
def yX8_count : MethodName := ⟨RX8, "count", "(I)I"⟩
def RJ9 : String := "java/lang/Math"
def TJ9 : u_T := fun k => match k with
  | _ => ("", "", "", false)
def tyJ9 : Nat → FieldType := fun k => match k with
  | _ => .int
abbrev wsJ90 : List Cond := u_ws RJ9 TJ9 0
theorem nmJ9 : ∀ a, a < 0 → ∀ b, b < 0 → a ≠ b → (TJ9 a).2.1 ≠ (TJ9 b).2.1 := by decide +kernel
theorem tyJ9_ok : ∀ k, k < 0 → parseFieldDescriptor (TJ9 k).2.2.1 = some (tyJ9 k) := by decide +kernel
abbrev cJ9_floorMod_7cf53 : ByteArray := prog_11_method_50_code
def yJ9_floorMod_7cf53 : MethodName := ⟨RJ9, "floorMod", "(II)I"⟩
abbrev cJ9_abs_0f7a4 : ByteArray := prog_11_method_59_code
def yJ9_abs_0f7a4 : MethodName := ⟨RJ9, "abs", "(I)I"⟩
abbrev cJ9_max_7cf53 : ByteArray := prog_11_method_65_code
def yJ9_max_7cf53 : MethodName := ⟨RJ9, "max", "(II)I"⟩
abbrev cJ9_min_7cf53 : ByteArray := prog_11_method_69_code
def yJ9_min_7cf53 : MethodName := ⟨RJ9, "min", "(II)I"⟩
def RJ0 : String := "java/lang/String"
def TJ0 : u_T := fun k => match k with
  | _ => ("", "", "", false)
def tyJ0 : Nat → FieldType := fun k => match k with
  | _ => .int
abbrev wsJ00 : List Cond := u_ws RJ0 TJ0 0
theorem nmJ0 : ∀ a, a < 0 → ∀ b, b < 0 → a ≠ b → (TJ0 a).2.1 ≠ (TJ0 b).2.1 := by decide +kernel
theorem tyJ0_ok : ∀ k, k < 0 → parseFieldDescriptor (TJ0 k).2.2.1 = some (tyJ0 k) := by decide +kernel
abbrev cJ0_length_8abf5 : ByteArray := prog_12_method_54_code
def yJ0_length_8abf5 : MethodName := ⟨RJ0, "length", "()I"⟩
abbrev cJ0_charAt_5068e : ByteArray := prog_12_method_56_code
def yJ0_charAt_5068e : MethodName := ⟨RJ0, "charAt", "(I)C"⟩
abbrev cJ0_coder_7d493 : ByteArray := prog_12_method_152_code
def yJ0_coder_7d493 : MethodName := ⟨RJ0, "coder", "()B"⟩
abbrev cJ0_isLatin1_aae02 : ByteArray := prog_12_method_154_code
def yJ0_isLatin1_aae02 : MethodName := ⟨RJ0, "isLatin1", "()Z"⟩
abbrev cJ0_checkIndex_df160 : ByteArray := prog_12_method_155_code
def yJ0_checkIndex_df160 : MethodName := ⟨RJ0, "checkIndex", "(II)V"⟩
def RJ1 : String := "java/lang/StringLatin1"
def TJ1 : u_T := fun k => match k with
  | _ => ("", "", "", false)
def tyJ1 : Nat → FieldType := fun k => match k with
  | _ => .int
abbrev wsJ10 : List Cond := u_ws RJ1 TJ1 0
theorem nmJ1 : ∀ a, a < 0 → ∀ b, b < 0 → a ≠ b → (TJ1 a).2.1 ≠ (TJ1 b).2.1 := by decide +kernel
theorem tyJ1_ok : ∀ k, k < 0 → parseFieldDescriptor (TJ1 k).2.2.1 = some (tyJ1 k) := by decide +kernel
abbrev cJ1_charAt_3b067 : ByteArray := prog_13_method_2_code
def yJ1_charAt_3b067 : MethodName := ⟨RJ1, "charAt", "([BI)C"⟩
def RJ2 : String := "java/lang/StringUTF16"
def TJ2 : u_T := fun k => match k with
  | _ => ("", "", "", false)
def tyJ2 : Nat → FieldType := fun k => match k with
  | _ => .int
abbrev wsJ20 : List Cond := u_ws RJ2 TJ2 0
theorem nmJ2 : ∀ a, a < 0 → ∀ b, b < 0 → a ≠ b → (TJ2 a).2.1 ≠ (TJ2 b).2.1 := by decide +kernel
theorem tyJ2_ok : ∀ k, k < 0 → parseFieldDescriptor (TJ2 k).2.2.1 = some (tyJ2 k) := by decide +kernel
abbrev cJ2_getChar_3b067 : ByteArray := prog_14_method_5_code
def yJ2_getChar_3b067 : MethodName := ⟨RJ2, "getChar", "([BI)C"⟩
abbrev cJ2_length_9d52b : ByteArray := prog_14_method_6_code
def yJ2_length_9d52b : MethodName := ⟨RJ2, "length", "([B)I"⟩
abbrev cJ2_charAt_3b067 : ByteArray := prog_14_method_83_code
def yJ2_charAt_3b067 : MethodName := ⟨RJ2, "charAt", "([BI)C"⟩
abbrev cJ2_checkIndex_2214a : ByteArray := prog_14_method_91_code
def yJ2_checkIndex_2214a : MethodName := ⟨RJ2, "checkIndex", "(I[B)V"⟩
def RJ3 : String := "jdk/internal/util/Preconditions"
def TJ3 : u_T := fun k => match k with
  | _ => ("", "", "", false)
def tyJ3 : Nat → FieldType := fun k => match k with
  | _ => .int
abbrev wsJ30 : List Cond := u_ws RJ3 TJ3 0
theorem nmJ3 : ∀ a, a < 0 → ∀ b, b < 0 → a ≠ b → (TJ3 a).2.1 ≠ (TJ3 b).2.1 := by decide +kernel
theorem tyJ3_ok : ∀ k, k < 0 → parseFieldDescriptor (TJ3 k).2.2.1 = some (tyJ3 k) := by decide +kernel
abbrev cJ3_checkIndex_8e157 : ByteArray := prog_15_method_11_code
def yJ3_checkIndex_8e157 : MethodName := ⟨RJ3, "checkIndex", "(IILjava/util/function/BiFunction;)I"⟩
def RL : String := "DiverBottleLaw"
abbrev cL_law : ByteArray := code
def yL_law : MethodName := ⟨RL, "law", "([I)Z"⟩
abbrev q_cls : List vw_C := [(RX0, TX0, 8), (RX1, TX1, 6), (RX2, TX2, 13), (RX3, TX3, 8), (RX4, TX4, 4), (RX5, TX5, 3), (RX6, TX6, 2), (RX7, TX7, 11), (RX8, TX8, 31)]
end
section
theorem dX0_init_0 : decode cX0_init 0 = .ok (.aload_n 0, 1) := by decide +kernel
theorem dX0_init_1 : decode cX0_init 1 = .ok (.invokespecial 3, 3) := by decide +kernel
theorem dX0_init_4 : decode cX0_init 4 = .ok (.return_, 1) := by decide +kernel
theorem dX0_begin_0 : decode cX0_begin 0 = .ok (.aload_n 0, 1) := by decide +kernel
theorem dX0_begin_1 : decode cX0_begin 1 = .ok (.iload_n 1, 1) := by decide +kernel
theorem dX0_begin_2 : decode cX0_begin 2 = .ok (.putfield 9, 3) := by decide +kernel
theorem dX0_begin_5 : decode cX0_begin 5 = .ok (.aload_n 0, 1) := by decide +kernel
theorem dX0_begin_6 : decode cX0_begin 6 = .ok (.iload_n 2, 1) := by decide +kernel
theorem dX0_begin_7 : decode cX0_begin 7 = .ok (.putfield 15, 3) := by decide +kernel
theorem dX0_begin_10 : decode cX0_begin 10 = .ok (.aload_n 0, 1) := by decide +kernel
theorem dX0_begin_11 : decode cX0_begin 11 = .ok (.iconst 0, 1) := by decide +kernel
theorem dX0_begin_12 : decode cX0_begin 12 = .ok (.putfield 18, 3) := by decide +kernel
theorem dX0_begin_15 : decode cX0_begin 15 = .ok (.aload_n 0, 1) := by decide +kernel
theorem dX0_begin_16 : decode cX0_begin 16 = .ok (.iconst 0, 1) := by decide +kernel
theorem dX0_begin_17 : decode cX0_begin 17 = .ok (.putfield 21, 3) := by decide +kernel
theorem dX0_begin_20 : decode cX0_begin 20 = .ok (.aload_n 0, 1) := by decide +kernel
theorem dX0_begin_21 : decode cX0_begin 21 = .ok (.iconst 0, 1) := by decide +kernel
theorem dX0_begin_22 : decode cX0_begin 22 = .ok (.putfield 24, 3) := by decide +kernel
theorem dX0_begin_25 : decode cX0_begin 25 = .ok (.aload_n 0, 1) := by decide +kernel
theorem dX0_begin_26 : decode cX0_begin 26 = .ok (.iconst 0, 1) := by decide +kernel
theorem dX0_begin_27 : decode cX0_begin 27 = .ok (.putfield 28, 3) := by decide +kernel
theorem dX0_begin_30 : decode cX0_begin 30 = .ok (.aload_n 0, 1) := by decide +kernel
theorem dX0_begin_31 : decode cX0_begin 31 = .ok (.iconst 0, 1) := by decide +kernel
theorem dX0_begin_32 : decode cX0_begin 32 = .ok (.putfield 31, 3) := by decide +kernel
theorem dX0_begin_35 : decode cX0_begin 35 = .ok (.aload_n 0, 1) := by decide +kernel
theorem dX0_begin_36 : decode cX0_begin 36 = .ok (.iconst 0, 1) := by decide +kernel
theorem dX0_begin_37 : decode cX0_begin 37 = .ok (.putfield 34, 3) := by decide +kernel
theorem dX0_begin_40 : decode cX0_begin 40 = .ok (.return_, 1) := by decide +kernel
theorem dX0_copyFrom_0 : decode cX0_copyFrom 0 = .ok (.aload_n 0, 1) := by decide +kernel
theorem dX0_copyFrom_1 : decode cX0_copyFrom 1 = .ok (.aload_n 1, 1) := by decide +kernel
theorem dX0_copyFrom_2 : decode cX0_copyFrom 2 = .ok (.getfield 9, 3) := by decide +kernel
theorem dX0_copyFrom_5 : decode cX0_copyFrom 5 = .ok (.putfield 9, 3) := by decide +kernel
theorem dX0_copyFrom_8 : decode cX0_copyFrom 8 = .ok (.aload_n 0, 1) := by decide +kernel
theorem dX0_copyFrom_9 : decode cX0_copyFrom 9 = .ok (.aload_n 1, 1) := by decide +kernel
theorem dX0_copyFrom_10 : decode cX0_copyFrom 10 = .ok (.getfield 15, 3) := by decide +kernel
theorem dX0_copyFrom_13 : decode cX0_copyFrom 13 = .ok (.putfield 15, 3) := by decide +kernel
theorem dX0_copyFrom_16 : decode cX0_copyFrom 16 = .ok (.aload_n 0, 1) := by decide +kernel
theorem dX0_copyFrom_17 : decode cX0_copyFrom 17 = .ok (.aload_n 1, 1) := by decide +kernel
theorem dX0_copyFrom_18 : decode cX0_copyFrom 18 = .ok (.getfield 18, 3) := by decide +kernel
theorem dX0_copyFrom_21 : decode cX0_copyFrom 21 = .ok (.putfield 18, 3) := by decide +kernel
theorem dX0_copyFrom_24 : decode cX0_copyFrom 24 = .ok (.aload_n 0, 1) := by decide +kernel
theorem dX0_copyFrom_25 : decode cX0_copyFrom 25 = .ok (.aload_n 1, 1) := by decide +kernel
theorem dX0_copyFrom_26 : decode cX0_copyFrom 26 = .ok (.getfield 21, 3) := by decide +kernel
theorem dX0_copyFrom_29 : decode cX0_copyFrom 29 = .ok (.putfield 21, 3) := by decide +kernel
theorem dX0_copyFrom_32 : decode cX0_copyFrom 32 = .ok (.aload_n 0, 1) := by decide +kernel
theorem dX0_copyFrom_33 : decode cX0_copyFrom 33 = .ok (.aload_n 1, 1) := by decide +kernel
theorem dX0_copyFrom_34 : decode cX0_copyFrom 34 = .ok (.getfield 24, 3) := by decide +kernel
theorem dX0_copyFrom_37 : decode cX0_copyFrom 37 = .ok (.putfield 24, 3) := by decide +kernel
theorem dX0_copyFrom_40 : decode cX0_copyFrom 40 = .ok (.aload_n 0, 1) := by decide +kernel
theorem dX0_copyFrom_41 : decode cX0_copyFrom 41 = .ok (.aload_n 1, 1) := by decide +kernel
theorem dX0_copyFrom_42 : decode cX0_copyFrom 42 = .ok (.getfield 28, 3) := by decide +kernel
theorem dX0_copyFrom_45 : decode cX0_copyFrom 45 = .ok (.putfield 28, 3) := by decide +kernel
theorem dX0_copyFrom_48 : decode cX0_copyFrom 48 = .ok (.aload_n 0, 1) := by decide +kernel
theorem dX0_copyFrom_49 : decode cX0_copyFrom 49 = .ok (.aload_n 1, 1) := by decide +kernel
theorem dX0_copyFrom_50 : decode cX0_copyFrom 50 = .ok (.getfield 31, 3) := by decide +kernel
theorem dX0_copyFrom_53 : decode cX0_copyFrom 53 = .ok (.putfield 31, 3) := by decide +kernel
theorem dX0_copyFrom_56 : decode cX0_copyFrom 56 = .ok (.aload_n 0, 1) := by decide +kernel
theorem dX0_copyFrom_57 : decode cX0_copyFrom 57 = .ok (.aload_n 1, 1) := by decide +kernel
theorem dX0_copyFrom_58 : decode cX0_copyFrom 58 = .ok (.getfield 34, 3) := by decide +kernel
theorem dX0_copyFrom_61 : decode cX0_copyFrom 61 = .ok (.putfield 34, 3) := by decide +kernel
theorem dX0_copyFrom_64 : decode cX0_copyFrom 64 = .ok (.return_, 1) := by decide +kernel
theorem dX0_depth_0 : decode cX0_depth 0 = .ok (.aload_n 0, 1) := by decide +kernel
theorem dX0_depth_1 : decode cX0_depth 1 = .ok (.getfield 31, 3) := by decide +kernel
theorem dX0_depth_4 : decode cX0_depth 4 = .ok (.bipush 64, 2) := by decide +kernel
theorem dX0_depth_6 : decode cX0_depth 6 = .ok (.invokestatic 37, 3) := by decide +kernel
theorem dX0_depth_9 : decode cX0_depth 9 = .ok (.ireturn, 1) := by decide +kernel
theorem dX0_move_0 : decode cX0_move 0 = .ok (.aload_n 0, 1) := by decide +kernel
theorem dX0_move_1 : decode cX0_move 1 = .ok (.dup, 1) := by decide +kernel
theorem dX0_move_2 : decode cX0_move 2 = .ok (.getfield 34, 3) := by decide +kernel
theorem dX0_move_5 : decode cX0_move 5 = .ok (.iload_n 1, 1) := by decide +kernel
theorem dX0_move_6 : decode cX0_move 6 = .ok (.iadd, 1) := by decide +kernel
theorem dX0_move_7 : decode cX0_move 7 = .ok (.putfield 34, 3) := by decide +kernel
theorem dX0_move_10 : decode cX0_move 10 = .ok (.aload_n 0, 1) := by decide +kernel
theorem dX0_move_11 : decode cX0_move 11 = .ok (.dup, 1) := by decide +kernel
theorem dX0_move_12 : decode cX0_move 12 = .ok (.getfield 34, 3) := by decide +kernel
theorem dX0_move_15 : decode cX0_move 15 = .ok (.aload_n 0, 1) := by decide +kernel
theorem dX0_move_16 : decode cX0_move 16 = .ok (.getfield 34, 3) := by decide +kernel
theorem dX0_move_19 : decode cX0_move 19 = .ok (.iload_n 2, 1) := by decide +kernel
theorem dX0_move_20 : decode cX0_move 20 = .ok (.invokestatic 37, 3) := by decide +kernel
theorem dX0_move_23 : decode cX0_move 23 = .ok (.isub, 1) := by decide +kernel
theorem dX0_move_24 : decode cX0_move 24 = .ok (.putfield 34, 3) := by decide +kernel
theorem dX0_move_27 : decode cX0_move 27 = .ok (.aload_n 0, 1) := by decide +kernel
theorem dX0_move_28 : decode cX0_move 28 = .ok (.dup, 1) := by decide +kernel
theorem dX0_move_29 : decode cX0_move 29 = .ok (.getfield 31, 3) := by decide +kernel
theorem dX0_move_32 : decode cX0_move 32 = .ok (.aload_n 0, 1) := by decide +kernel
theorem dX0_move_33 : decode cX0_move 33 = .ok (.getfield 34, 3) := by decide +kernel
theorem dX0_move_36 : decode cX0_move 36 = .ok (.iadd, 1) := by decide +kernel
theorem dX0_move_37 : decode cX0_move 37 = .ok (.putfield 31, 3) := by decide +kernel
theorem dX0_move_40 : decode cX0_move 40 = .ok (.aload_n 0, 1) := by decide +kernel
theorem dX0_move_41 : decode cX0_move 41 = .ok (.getfield 31, 3) := by decide +kernel
theorem dX0_move_44 : decode cX0_move 44 = .ok (.ifCond .gt 15, 3) := by decide +kernel
theorem dX0_move_47 : decode cX0_move 47 = .ok (.aload_n 0, 1) := by decide +kernel
theorem dX0_move_48 : decode cX0_move 48 = .ok (.getfield 34, 3) := by decide +kernel
theorem dX0_move_51 : decode cX0_move 51 = .ok (.ifCond .ge 8, 3) := by decide +kernel
theorem dX0_move_54 : decode cX0_move 54 = .ok (.aload_n 0, 1) := by decide +kernel
theorem dX0_move_55 : decode cX0_move 55 = .ok (.iconst 0, 1) := by decide +kernel
theorem dX0_move_56 : decode cX0_move 56 = .ok (.invokevirtual 41, 3) := by decide +kernel
theorem dX0_move_59 : decode cX0_move 59 = .ok (.aload_n 0, 1) := by decide +kernel
theorem dX0_move_60 : decode cX0_move 60 = .ok (.getfield 31, 3) := by decide +kernel
theorem dX0_move_63 : decode cX0_move 63 = .ok (.iload_n 3, 1) := by decide +kernel
theorem dX0_move_64 : decode cX0_move 64 = .ok (.if_icmp .lt 15, 3) := by decide +kernel
theorem dX0_move_67 : decode cX0_move 67 = .ok (.aload_n 0, 1) := by decide +kernel
theorem dX0_move_68 : decode cX0_move 68 = .ok (.getfield 34, 3) := by decide +kernel
theorem dX0_move_71 : decode cX0_move 71 = .ok (.ifCond .le 8, 3) := by decide +kernel
theorem dX0_move_74 : decode cX0_move 74 = .ok (.aload_n 0, 1) := by decide +kernel
theorem dX0_move_75 : decode cX0_move 75 = .ok (.iload_n 3, 1) := by decide +kernel
theorem dX0_move_76 : decode cX0_move 76 = .ok (.invokevirtual 41, 3) := by decide +kernel
theorem dX0_move_79 : decode cX0_move 79 = .ok (.return_, 1) := by decide +kernel
theorem dX0_stopAt_0 : decode cX0_stopAt 0 = .ok (.aload_n 0, 1) := by decide +kernel
theorem dX0_stopAt_1 : decode cX0_stopAt 1 = .ok (.iload_n 1, 1) := by decide +kernel
theorem dX0_stopAt_2 : decode cX0_stopAt 2 = .ok (.putfield 31, 3) := by decide +kernel
theorem dX0_stopAt_5 : decode cX0_stopAt 5 = .ok (.aload_n 0, 1) := by decide +kernel
theorem dX0_stopAt_6 : decode cX0_stopAt 6 = .ok (.iconst 0, 1) := by decide +kernel
theorem dX0_stopAt_7 : decode cX0_stopAt 7 = .ok (.putfield 34, 3) := by decide +kernel
theorem dX0_stopAt_10 : decode cX0_stopAt 10 = .ok (.return_, 1) := by decide +kernel
theorem dX1_init_0 : decode cX1_init 0 = .ok (.aload_n 0, 1) := by decide +kernel
theorem dX1_init_1 : decode cX1_init 1 = .ok (.invokespecial 3, 3) := by decide +kernel
theorem dX1_init_4 : decode cX1_init 4 = .ok (.aload_n 0, 1) := by decide +kernel
theorem dX1_init_5 : decode cX1_init 5 = .ok (.new 9, 3) := by decide +kernel
theorem dX1_init_8 : decode cX1_init 8 = .ok (.dup, 1) := by decide +kernel
theorem dX1_init_9 : decode cX1_init 9 = .ok (.invokespecial 11, 3) := by decide +kernel
theorem dX1_init_12 : decode cX1_init 12 = .ok (.putfield 12, 3) := by decide +kernel
theorem dX1_init_15 : decode cX1_init 15 = .ok (.aload_n 0, 1) := by decide +kernel
theorem dX1_init_16 : decode cX1_init 16 = .ok (.bipush 51, 2) := by decide +kernel
theorem dX1_init_18 : decode cX1_init 18 = .ok (.newarray .int, 2) := by decide +kernel
theorem dX1_init_20 : decode cX1_init 20 = .ok (.putfield 18, 3) := by decide +kernel
theorem dX1_init_23 : decode cX1_init 23 = .ok (.return_, 1) := by decide +kernel
theorem dX1_takeUp_0 : decode cX1_takeUp 0 = .ok (.aload_n 0, 1) := by decide +kernel
theorem dX1_takeUp_1 : decode cX1_takeUp 1 = .ok (.getfield 12, 3) := by decide +kernel
theorem dX1_takeUp_4 : decode cX1_takeUp 4 = .ok (.aload_n 1, 1) := by decide +kernel
theorem dX1_takeUp_5 : decode cX1_takeUp 5 = .ok (.invokevirtual 22, 3) := by decide +kernel
theorem dX1_takeUp_8 : decode cX1_takeUp 8 = .ok (.aload_n 0, 1) := by decide +kernel
theorem dX1_takeUp_9 : decode cX1_takeUp 9 = .ok (.iload_n 2, 1) := by decide +kernel
theorem dX1_takeUp_10 : decode cX1_takeUp 10 = .ok (.bipush 64, 2) := by decide +kernel
theorem dX1_takeUp_12 : decode cX1_takeUp 12 = .ok (.imul, 1) := by decide +kernel
theorem dX1_takeUp_13 : decode cX1_takeUp 13 = .ok (.putfield 26, 3) := by decide +kernel
theorem dX1_takeUp_16 : decode cX1_takeUp 16 = .ok (.aload_n 0, 1) := by decide +kernel
theorem dX1_takeUp_17 : decode cX1_takeUp 17 = .ok (.getfield 12, 3) := by decide +kernel
theorem dX1_takeUp_20 : decode cX1_takeUp 20 = .ok (.aload_n 0, 1) := by decide +kernel
theorem dX1_takeUp_21 : decode cX1_takeUp 21 = .ok (.getfield 26, 3) := by decide +kernel
theorem dX1_takeUp_24 : decode cX1_takeUp 24 = .ok (.putfield 30, 3) := by decide +kernel
theorem dX1_takeUp_27 : decode cX1_takeUp 27 = .ok (.aload_n 0, 1) := by decide +kernel
theorem dX1_takeUp_28 : decode cX1_takeUp 28 = .ok (.getfield 12, 3) := by decide +kernel
theorem dX1_takeUp_31 : decode cX1_takeUp 31 = .ok (.iconst 0, 1) := by decide +kernel
theorem dX1_takeUp_32 : decode cX1_takeUp 32 = .ok (.putfield 33, 3) := by decide +kernel
theorem dX1_takeUp_35 : decode cX1_takeUp 35 = .ok (.aload_n 0, 1) := by decide +kernel
theorem dX1_takeUp_36 : decode cX1_takeUp 36 = .ok (.iload_n 3, 1) := by decide +kernel
theorem dX1_takeUp_37 : decode cX1_takeUp 37 = .ok (.putfield 36, 3) := by decide +kernel
theorem dX1_takeUp_40 : decode cX1_takeUp 40 = .ok (.aload_n 0, 1) := by decide +kernel
theorem dX1_takeUp_41 : decode cX1_takeUp 41 = .ok (.bipush (-4), 2) := by decide +kernel
theorem dX1_takeUp_43 : decode cX1_takeUp 43 = .ok (.putfield 39, 3) := by decide +kernel
theorem dX1_takeUp_46 : decode cX1_takeUp 46 = .ok (.aload_n 0, 1) := by decide +kernel
theorem dX1_takeUp_47 : decode cX1_takeUp 47 = .ok (.iconst 0, 1) := by decide +kernel
theorem dX1_takeUp_48 : decode cX1_takeUp 48 = .ok (.putfield 42, 3) := by decide +kernel
theorem dX1_takeUp_51 : decode cX1_takeUp 51 = .ok (.return_, 1) := by decide +kernel
theorem dX1_turnThumb_0 : decode cX1_turnThumb 0 = .ok (.aload_n 0, 1) := by decide +kernel
theorem dX1_turnThumb_1 : decode cX1_turnThumb 1 = .ok (.getfield 18, 3) := by decide +kernel
theorem dX1_turnThumb_4 : decode cX1_turnThumb 4 = .ok (.iload_n 1, 1) := by decide +kernel
theorem dX1_turnThumb_5 : decode cX1_turnThumb 5 = .ok (.aload_n 0, 1) := by decide +kernel
theorem dX1_turnThumb_6 : decode cX1_turnThumb 6 = .ok (.getfield 18, 3) := by decide +kernel
theorem dX1_turnThumb_9 : decode cX1_turnThumb 9 = .ok (.arraylength, 1) := by decide +kernel
theorem dX1_turnThumb_10 : decode cX1_turnThumb 10 = .ok (.invokestatic 45, 3) := by decide +kernel
theorem dX1_turnThumb_13 : decode cX1_turnThumb 13 = .ok (.aload_n 0, 1) := by decide +kernel
theorem dX1_turnThumb_14 : decode cX1_turnThumb 14 = .ok (.getfield 12, 3) := by decide +kernel
theorem dX1_turnThumb_17 : decode cX1_turnThumb 17 = .ok (.getfield 30, 3) := by decide +kernel
theorem dX1_turnThumb_20 : decode cX1_turnThumb 20 = .ok (.iastore, 1) := by decide +kernel
theorem dX1_turnThumb_21 : decode cX1_turnThumb 21 = .ok (.iload_n 1, 1) := by decide +kernel
theorem dX1_turnThumb_22 : decode cX1_turnThumb 22 = .ok (.iload_n 2, 1) := by decide +kernel
theorem dX1_turnThumb_23 : decode cX1_turnThumb 23 = .ok (.if_icmp .ge 10, 3) := by decide +kernel
theorem dX1_turnThumb_26 : decode cX1_turnThumb 26 = .ok (.aload_n 0, 1) := by decide +kernel
theorem dX1_turnThumb_27 : decode cX1_turnThumb 27 = .ok (.getfield 26, 3) := by decide +kernel
theorem dX1_turnThumb_30 : decode cX1_turnThumb 30 = .ok (.goto 19, 3) := by decide +kernel
theorem dX1_turnThumb_33 : decode cX1_turnThumb 33 = .ok (.aload_n 0, 1) := by decide +kernel
theorem dX1_turnThumb_34 : decode cX1_turnThumb 34 = .ok (.getfield 18, 3) := by decide +kernel
theorem dX1_turnThumb_37 : decode cX1_turnThumb 37 = .ok (.iload_n 1, 1) := by decide +kernel
theorem dX1_turnThumb_38 : decode cX1_turnThumb 38 = .ok (.iload_n 2, 1) := by decide +kernel
theorem dX1_turnThumb_39 : decode cX1_turnThumb 39 = .ok (.isub, 1) := by decide +kernel
theorem dX1_turnThumb_40 : decode cX1_turnThumb 40 = .ok (.aload_n 0, 1) := by decide +kernel
theorem dX1_turnThumb_41 : decode cX1_turnThumb 41 = .ok (.getfield 18, 3) := by decide +kernel
theorem dX1_turnThumb_44 : decode cX1_turnThumb 44 = .ok (.arraylength, 1) := by decide +kernel
theorem dX1_turnThumb_45 : decode cX1_turnThumb 45 = .ok (.invokestatic 45, 3) := by decide +kernel
theorem dX1_turnThumb_48 : decode cX1_turnThumb 48 = .ok (.iaload, 1) := by decide +kernel
theorem dX1_turnThumb_49 : decode cX1_turnThumb 49 = .ok (.istore 4, 2) := by decide +kernel
theorem dX1_turnThumb_51 : decode cX1_turnThumb 51 = .ok (.iload 4, 2) := by decide +kernel
theorem dX1_turnThumb_53 : decode cX1_turnThumb 53 = .ok (.aload_n 0, 1) := by decide +kernel
theorem dX1_turnThumb_54 : decode cX1_turnThumb 54 = .ok (.getfield 26, 3) := by decide +kernel
theorem dX1_turnThumb_57 : decode cX1_turnThumb 57 = .ok (.if_icmp .ge 19, 3) := by decide +kernel
theorem dX1_turnThumb_60 : decode cX1_turnThumb 60 = .ok (.aload_n 0, 1) := by decide +kernel
theorem dX1_turnThumb_61 : decode cX1_turnThumb 61 = .ok (.sipush 500, 3) := by decide +kernel
theorem dX1_turnThumb_64 : decode cX1_turnThumb 64 = .ok (.aload_n 0, 1) := by decide +kernel
theorem dX1_turnThumb_65 : decode cX1_turnThumb 65 = .ok (.getfield 36, 3) := by decide +kernel
theorem dX1_turnThumb_68 : decode cX1_turnThumb 68 = .ok (.iload_n 3, 1) := by decide +kernel
theorem dX1_turnThumb_69 : decode cX1_turnThumb 69 = .ok (.iadd, 1) := by decide +kernel
theorem dX1_turnThumb_70 : decode cX1_turnThumb 70 = .ok (.invokestatic 51, 3) := by decide +kernel
theorem dX1_turnThumb_73 : decode cX1_turnThumb 73 = .ok (.putfield 36, 3) := by decide +kernel
theorem dX1_turnThumb_76 : decode cX1_turnThumb 76 = .ok (.iload 4, 2) := by decide +kernel
theorem dX1_turnThumb_78 : decode cX1_turnThumb 78 = .ok (.aload_n 0, 1) := by decide +kernel
theorem dX1_turnThumb_79 : decode cX1_turnThumb 79 = .ok (.getfield 26, 3) := by decide +kernel
theorem dX1_turnThumb_82 : decode cX1_turnThumb 82 = .ok (.if_icmp .le 17, 3) := by decide +kernel
theorem dX1_turnThumb_85 : decode cX1_turnThumb 85 = .ok (.aload_n 0, 1) := by decide +kernel
theorem dX1_turnThumb_86 : decode cX1_turnThumb 86 = .ok (.iconst 0, 1) := by decide +kernel
theorem dX1_turnThumb_87 : decode cX1_turnThumb 87 = .ok (.aload_n 0, 1) := by decide +kernel
theorem dX1_turnThumb_88 : decode cX1_turnThumb 88 = .ok (.getfield 36, 3) := by decide +kernel
theorem dX1_turnThumb_91 : decode cX1_turnThumb 91 = .ok (.iload_n 3, 1) := by decide +kernel
theorem dX1_turnThumb_92 : decode cX1_turnThumb 92 = .ok (.isub, 1) := by decide +kernel
theorem dX1_turnThumb_93 : decode cX1_turnThumb 93 = .ok (.invokestatic 54, 3) := by decide +kernel
theorem dX1_turnThumb_96 : decode cX1_turnThumb 96 = .ok (.putfield 36, 3) := by decide +kernel
theorem dX1_turnThumb_99 : decode cX1_turnThumb 99 = .ok (.return_, 1) := by decide +kernel
theorem dX1_mark_0 : decode cX1_mark 0 = .ok (.aload_n 0, 1) := by decide +kernel
theorem dX1_mark_1 : decode cX1_mark 1 = .ok (.aload_n 0, 1) := by decide +kernel
theorem dX1_mark_2 : decode cX1_mark 2 = .ok (.getfield 42, 3) := by decide +kernel
theorem dX1_mark_5 : decode cX1_mark 5 = .ok (.aload_n 0, 1) := by decide +kernel
theorem dX1_mark_6 : decode cX1_mark 6 = .ok (.getfield 12, 3) := by decide +kernel
theorem dX1_mark_9 : decode cX1_mark 9 = .ok (.getfield 30, 3) := by decide +kernel
theorem dX1_mark_12 : decode cX1_mark 12 = .ok (.aload_n 0, 1) := by decide +kernel
theorem dX1_mark_13 : decode cX1_mark 13 = .ok (.getfield 26, 3) := by decide +kernel
theorem dX1_mark_16 : decode cX1_mark 16 = .ok (.isub, 1) := by decide +kernel
theorem dX1_mark_17 : decode cX1_mark 17 = .ok (.invokestatic 57, 3) := by decide +kernel
theorem dX1_mark_20 : decode cX1_mark 20 = .ok (.invokestatic 54, 3) := by decide +kernel
theorem dX1_mark_23 : decode cX1_mark 23 = .ok (.putfield 42, 3) := by decide +kernel
theorem dX1_mark_26 : decode cX1_mark 26 = .ok (.aload_n 0, 1) := by decide +kernel
theorem dX1_mark_27 : decode cX1_mark 27 = .ok (.getfield 12, 3) := by decide +kernel
theorem dX1_mark_30 : decode cX1_mark 30 = .ok (.getfield 30, 3) := by decide +kernel
theorem dX1_mark_33 : decode cX1_mark 33 = .ok (.ifCond .eq 14, 3) := by decide +kernel
theorem dX1_mark_36 : decode cX1_mark 36 = .ok (.aload_n 0, 1) := by decide +kernel
theorem dX1_mark_37 : decode cX1_mark 37 = .ok (.getfield 12, 3) := by decide +kernel
theorem dX1_mark_40 : decode cX1_mark 40 = .ok (.getfield 30, 3) := by decide +kernel
theorem dX1_mark_43 : decode cX1_mark 43 = .ok (.iload_n 2, 1) := by decide +kernel
theorem dX1_mark_44 : decode cX1_mark 44 = .ok (.if_icmp .ne 8, 3) := by decide +kernel
theorem dX1_mark_47 : decode cX1_mark 47 = .ok (.aload_n 0, 1) := by decide +kernel
theorem dX1_mark_48 : decode cX1_mark 48 = .ok (.iload_n 1, 1) := by decide +kernel
theorem dX1_mark_49 : decode cX1_mark 49 = .ok (.putfield 39, 3) := by decide +kernel
theorem dX1_mark_52 : decode cX1_mark 52 = .ok (.return_, 1) := by decide +kernel
theorem dX2_init_0 : decode cX2_init 0 = .ok (.aload_n 0, 1) := by decide +kernel
theorem dX2_init_1 : decode cX2_init 1 = .ok (.invokespecial 3, 3) := by decide +kernel
theorem dX2_init_4 : decode cX2_init 4 = .ok (.aload_n 0, 1) := by decide +kernel
theorem dX2_init_5 : decode cX2_init 5 = .ok (.sipush 320, 3) := by decide +kernel
theorem dX2_init_8 : decode cX2_init 8 = .ok (.newarray .byte, 2) := by decide +kernel
theorem dX2_init_10 : decode cX2_init 10 = .ok (.putfield 9, 3) := by decide +kernel
theorem dX2_init_13 : decode cX2_init 13 = .ok (.aload_n 0, 1) := by decide +kernel
theorem dX2_init_14 : decode cX2_init 14 = .ok (.new 15, 3) := by decide +kernel
theorem dX2_init_17 : decode cX2_init 17 = .ok (.dup, 1) := by decide +kernel
theorem dX2_init_18 : decode cX2_init 18 = .ok (.invokespecial 17, 3) := by decide +kernel
theorem dX2_init_21 : decode cX2_init 21 = .ok (.putfield 18, 3) := by decide +kernel
theorem dX2_init_24 : decode cX2_init 24 = .ok (.aload_n 0, 1) := by decide +kernel
theorem dX2_init_25 : decode cX2_init 25 = .ok (.bipush 6, 2) := by decide +kernel
theorem dX2_init_27 : decode cX2_init 27 = .ok (.anewarray 22, 3) := by decide +kernel
theorem dX2_init_30 : decode cX2_init 30 = .ok (.putfield 24, 3) := by decide +kernel
theorem dX2_init_33 : decode cX2_init 33 = .ok (.aload_n 0, 1) := by decide +kernel
theorem dX2_init_34 : decode cX2_init 34 = .ok (.bipush 7, 2) := by decide +kernel
theorem dX2_init_36 : decode cX2_init 36 = .ok (.newarray .boolean, 2) := by decide +kernel
theorem dX2_init_38 : decode cX2_init 38 = .ok (.putfield 28, 3) := by decide +kernel
theorem dX2_init_41 : decode cX2_init 41 = .ok (.iconst 0, 1) := by decide +kernel
theorem dX2_init_42 : decode cX2_init 42 = .ok (.istore_n 1, 1) := by decide +kernel
theorem dX2_init_43 : decode cX2_init 43 = .ok (.iload_n 1, 1) := by decide +kernel
theorem dX2_init_44 : decode cX2_init 44 = .ok (.bipush 6, 2) := by decide +kernel
theorem dX2_init_46 : decode cX2_init 46 = .ok (.if_icmp .ge 22, 3) := by decide +kernel
theorem dX2_init_49 : decode cX2_init 49 = .ok (.aload_n 0, 1) := by decide +kernel
theorem dX2_init_50 : decode cX2_init 50 = .ok (.getfield 24, 3) := by decide +kernel
theorem dX2_init_53 : decode cX2_init 53 = .ok (.iload_n 1, 1) := by decide +kernel
theorem dX2_init_54 : decode cX2_init 54 = .ok (.new 22, 3) := by decide +kernel
theorem dX2_init_57 : decode cX2_init 57 = .ok (.dup, 1) := by decide +kernel
theorem dX2_init_58 : decode cX2_init 58 = .ok (.invokespecial 32, 3) := by decide +kernel
theorem dX2_init_61 : decode cX2_init 61 = .ok (.aastore, 1) := by decide +kernel
theorem dX2_init_62 : decode cX2_init 62 = .ok (.iinc 1 1, 3) := by decide +kernel
theorem dX2_init_65 : decode cX2_init 65 = .ok (.goto (-22), 3) := by decide +kernel
theorem dX2_init_68 : decode cX2_init 68 = .ok (.return_, 1) := by decide +kernel
theorem dX2_append_0 : decode cX2_append 0 = .ok (.aload_n 0, 1) := by decide +kernel
theorem dX2_append_1 : decode cX2_append 1 = .ok (.getfield 33, 3) := by decide +kernel
theorem dX2_append_4 : decode cX2_append 4 = .ok (.bipush 8, 2) := by decide +kernel
theorem dX2_append_6 : decode cX2_append 6 = .ok (.iadd, 1) := by decide +kernel
theorem dX2_append_7 : decode cX2_append 7 = .ok (.sipush 320, 3) := by decide +kernel
theorem dX2_append_10 : decode cX2_append 10 = .ok (.if_icmp .le 5, 3) := by decide +kernel
theorem dX2_append_13 : decode cX2_append 13 = .ok (.iconst 0, 1) := by decide +kernel
theorem dX2_append_14 : decode cX2_append 14 = .ok (.ireturn, 1) := by decide +kernel
theorem dX2_append_15 : decode cX2_append 15 = .ok (.bipush 56, 2) := by decide +kernel
theorem dX2_append_17 : decode cX2_append 17 = .ok (.istore_n 3, 1) := by decide +kernel
theorem dX2_append_18 : decode cX2_append 18 = .ok (.iload_n 3, 1) := by decide +kernel
theorem dX2_append_19 : decode cX2_append 19 = .ok (.ifCond .lt 33, 3) := by decide +kernel
theorem dX2_append_22 : decode cX2_append 22 = .ok (.aload_n 0, 1) := by decide +kernel
theorem dX2_append_23 : decode cX2_append 23 = .ok (.getfield 9, 3) := by decide +kernel
theorem dX2_append_26 : decode cX2_append 26 = .ok (.aload_n 0, 1) := by decide +kernel
theorem dX2_append_27 : decode cX2_append 27 = .ok (.getfield 33, 3) := by decide +kernel
theorem dX2_append_30 : decode cX2_append 30 = .ok (.lload_n 1, 1) := by decide +kernel
theorem dX2_append_31 : decode cX2_append 31 = .ok (.iload_n 3, 1) := by decide +kernel
theorem dX2_append_32 : decode cX2_append 32 = .ok (.lshr, 1) := by decide +kernel
theorem dX2_append_33 : decode cX2_append 33 = .ok (.l2i, 1) := by decide +kernel
theorem dX2_append_34 : decode cX2_append 34 = .ok (.i2b, 1) := by decide +kernel
theorem dX2_append_35 : decode cX2_append 35 = .ok (.bastore, 1) := by decide +kernel
theorem dX2_append_36 : decode cX2_append 36 = .ok (.aload_n 0, 1) := by decide +kernel
theorem dX2_append_37 : decode cX2_append 37 = .ok (.dup, 1) := by decide +kernel
theorem dX2_append_38 : decode cX2_append 38 = .ok (.getfield 33, 3) := by decide +kernel
theorem dX2_append_41 : decode cX2_append 41 = .ok (.iconst 1, 1) := by decide +kernel
theorem dX2_append_42 : decode cX2_append 42 = .ok (.iadd, 1) := by decide +kernel
theorem dX2_append_43 : decode cX2_append 43 = .ok (.putfield 33, 3) := by decide +kernel
theorem dX2_append_46 : decode cX2_append 46 = .ok (.iinc 3 (-8), 3) := by decide +kernel
theorem dX2_append_49 : decode cX2_append 49 = .ok (.goto (-31), 3) := by decide +kernel
theorem dX2_append_52 : decode cX2_append 52 = .ok (.iconst 1, 1) := by decide +kernel
theorem dX2_append_53 : decode cX2_append 53 = .ok (.ireturn, 1) := by decide +kernel
theorem dX2_takeText_0 : decode cX2_takeText 0 = .ok (.aload_n 0, 1) := by decide +kernel
theorem dX2_takeText_1 : decode cX2_takeText 1 = .ok (.invokevirtual 37, 3) := by decide +kernel
theorem dX2_takeText_4 : decode cX2_takeText 4 = .ok (.iconst 0, 1) := by decide +kernel
theorem dX2_takeText_5 : decode cX2_takeText 5 = .ok (.istore_n 1, 1) := by decide +kernel
theorem dX2_takeText_6 : decode cX2_takeText 6 = .ok (.iload_n 1, 1) := by decide +kernel
theorem dX2_takeText_7 : decode cX2_takeText 7 = .ok (.sipush 320, 3) := by decide +kernel
theorem dX2_takeText_10 : decode cX2_takeText 10 = .ok (.if_icmp .gt 87, 3) := by decide +kernel
theorem dX2_takeText_13 : decode cX2_takeText 13 = .ok (.aload_n 0, 1) := by decide +kernel
theorem dX2_takeText_14 : decode cX2_takeText 14 = .ok (.invokevirtual 40, 3) := by decide +kernel
theorem dX2_takeText_17 : decode cX2_takeText 17 = .ok (.ifCond .ne 5, 3) := by decide +kernel
theorem dX2_takeText_20 : decode cX2_takeText 20 = .ok (.iconst 0, 1) := by decide +kernel
theorem dX2_takeText_21 : decode cX2_takeText 21 = .ok (.ireturn, 1) := by decide +kernel
theorem dX2_takeText_22 : decode cX2_takeText 22 = .ok (.aload_n 0, 1) := by decide +kernel
theorem dX2_takeText_23 : decode cX2_takeText 23 = .ok (.getfield 44, 3) := by decide +kernel
theorem dX2_takeText_26 : decode cX2_takeText 26 = .ok (.ifCond .ne 12, 3) := by decide +kernel
theorem dX2_takeText_29 : decode cX2_takeText 29 = .ok (.aload_n 0, 1) := by decide +kernel
theorem dX2_takeText_30 : decode cX2_takeText 30 = .ok (.getfield 18, 3) := by decide +kernel
theorem dX2_takeText_33 : decode cX2_takeText 33 = .ok (.invokevirtual 47, 3) := by decide +kernel
theorem dX2_takeText_36 : decode cX2_takeText 36 = .ok (.iconst 1, 1) := by decide +kernel
theorem dX2_takeText_37 : decode cX2_takeText 37 = .ok (.ireturn, 1) := by decide +kernel
theorem dX2_takeText_38 : decode cX2_takeText 38 = .ok (.aload_n 0, 1) := by decide +kernel
theorem dX2_takeText_39 : decode cX2_takeText 39 = .ok (.ldc 50, 2) := by decide +kernel
theorem dX2_takeText_41 : decode cX2_takeText 41 = .ok (.invokevirtual 52, 3) := by decide +kernel
theorem dX2_takeText_44 : decode cX2_takeText 44 = .ok (.ifCond .eq 10, 3) := by decide +kernel
theorem dX2_takeText_47 : decode cX2_takeText 47 = .ok (.aload_n 0, 1) := by decide +kernel
theorem dX2_takeText_48 : decode cX2_takeText 48 = .ok (.invokevirtual 56, 3) := by decide +kernel
theorem dX2_takeText_51 : decode cX2_takeText 51 = .ok (.goto 23, 3) := by decide +kernel
theorem dX2_takeText_54 : decode cX2_takeText 54 = .ok (.aload_n 0, 1) := by decide +kernel
theorem dX2_takeText_55 : decode cX2_takeText 55 = .ok (.ldc 59, 2) := by decide +kernel
theorem dX2_takeText_57 : decode cX2_takeText 57 = .ok (.invokevirtual 52, 3) := by decide +kernel
theorem dX2_takeText_60 : decode cX2_takeText 60 = .ok (.ifCond .eq 10, 3) := by decide +kernel
theorem dX2_takeText_63 : decode cX2_takeText 63 = .ok (.aload_n 0, 1) := by decide +kernel
theorem dX2_takeText_64 : decode cX2_takeText 64 = .ok (.invokevirtual 61, 3) := by decide +kernel
theorem dX2_takeText_67 : decode cX2_takeText 67 = .ok (.goto 7, 3) := by decide +kernel
theorem dX2_takeText_70 : decode cX2_takeText 70 = .ok (.aload_n 0, 1) := by decide +kernel
theorem dX2_takeText_71 : decode cX2_takeText 71 = .ok (.invokevirtual 64, 3) := by decide +kernel
theorem dX2_takeText_74 : decode cX2_takeText 74 = .ok (.istore_n 2, 1) := by decide +kernel
theorem dX2_takeText_75 : decode cX2_takeText 75 = .ok (.iload_n 2, 1) := by decide +kernel
theorem dX2_takeText_76 : decode cX2_takeText 76 = .ok (.ifCond .ne 5, 3) := by decide +kernel
theorem dX2_takeText_79 : decode cX2_takeText 79 = .ok (.iconst 0, 1) := by decide +kernel
theorem dX2_takeText_80 : decode cX2_takeText 80 = .ok (.ireturn, 1) := by decide +kernel
theorem dX2_takeText_81 : decode cX2_takeText 81 = .ok (.aload_n 0, 1) := by decide +kernel
theorem dX2_takeText_82 : decode cX2_takeText 82 = .ok (.dup, 1) := by decide +kernel
theorem dX2_takeText_83 : decode cX2_takeText 83 = .ok (.getfield 67, 3) := by decide +kernel
theorem dX2_takeText_86 : decode cX2_takeText 86 = .ok (.iconst 1, 1) := by decide +kernel
theorem dX2_takeText_87 : decode cX2_takeText 87 = .ok (.iadd, 1) := by decide +kernel
theorem dX2_takeText_88 : decode cX2_takeText 88 = .ok (.putfield 67, 3) := by decide +kernel
theorem dX2_takeText_91 : decode cX2_takeText 91 = .ok (.iinc 1 1, 3) := by decide +kernel
theorem dX2_takeText_94 : decode cX2_takeText 94 = .ok (.goto (-88), 3) := by decide +kernel
theorem dX2_takeText_97 : decode cX2_takeText 97 = .ok (.aload_n 0, 1) := by decide +kernel
theorem dX2_takeText_98 : decode cX2_takeText 98 = .ok (.iconst 2, 1) := by decide +kernel
theorem dX2_takeText_99 : decode cX2_takeText 99 = .ok (.invokevirtual 70, 3) := by decide +kernel
theorem dX2_takeText_102 : decode cX2_takeText 102 = .ok (.ireturn, 1) := by decide +kernel
theorem dX2_begin_0 : decode cX2_begin 0 = .ok (.aload_n 0, 1) := by decide +kernel
theorem dX2_begin_1 : decode cX2_begin 1 = .ok (.getfield 18, 3) := by decide +kernel
theorem dX2_begin_4 : decode cX2_begin 4 = .ok (.invokevirtual 74, 3) := by decide +kernel
theorem dX2_begin_7 : decode cX2_begin 7 = .ok (.iconst 0, 1) := by decide +kernel
theorem dX2_begin_8 : decode cX2_begin 8 = .ok (.istore_n 1, 1) := by decide +kernel
theorem dX2_begin_9 : decode cX2_begin 9 = .ok (.iload_n 1, 1) := by decide +kernel
theorem dX2_begin_10 : decode cX2_begin 10 = .ok (.bipush 7, 2) := by decide +kernel
theorem dX2_begin_12 : decode cX2_begin 12 = .ok (.if_icmp .ge 16, 3) := by decide +kernel
theorem dX2_begin_15 : decode cX2_begin 15 = .ok (.aload_n 0, 1) := by decide +kernel
theorem dX2_begin_16 : decode cX2_begin 16 = .ok (.getfield 28, 3) := by decide +kernel
theorem dX2_begin_19 : decode cX2_begin 19 = .ok (.iload_n 1, 1) := by decide +kernel
theorem dX2_begin_20 : decode cX2_begin 20 = .ok (.iconst 0, 1) := by decide +kernel
theorem dX2_begin_21 : decode cX2_begin 21 = .ok (.bastore, 1) := by decide +kernel
theorem dX2_begin_22 : decode cX2_begin 22 = .ok (.iinc 1 1, 3) := by decide +kernel
theorem dX2_begin_25 : decode cX2_begin 25 = .ok (.goto (-16), 3) := by decide +kernel
theorem dX2_begin_28 : decode cX2_begin 28 = .ok (.aload_n 0, 1) := by decide +kernel
theorem dX2_begin_29 : decode cX2_begin 29 = .ok (.iconst 0, 1) := by decide +kernel
theorem dX2_begin_30 : decode cX2_begin 30 = .ok (.putfield 75, 3) := by decide +kernel
theorem dX2_begin_33 : decode cX2_begin 33 = .ok (.aload_n 0, 1) := by decide +kernel
theorem dX2_begin_34 : decode cX2_begin 34 = .ok (.iconst 0, 1) := by decide +kernel
theorem dX2_begin_35 : decode cX2_begin 35 = .ok (.putfield 67, 3) := by decide +kernel
theorem dX2_begin_38 : decode cX2_begin 38 = .ok (.aload_n 0, 1) := by decide +kernel
theorem dX2_begin_39 : decode cX2_begin 39 = .ok (.iconst 0, 1) := by decide +kernel
theorem dX2_begin_40 : decode cX2_begin 40 = .ok (.putfield 78, 3) := by decide +kernel
theorem dX2_begin_43 : decode cX2_begin 43 = .ok (.aload_n 0, 1) := by decide +kernel
theorem dX2_begin_44 : decode cX2_begin 44 = .ok (.iconst 0, 1) := by decide +kernel
theorem dX2_begin_45 : decode cX2_begin 45 = .ok (.putfield 81, 3) := by decide +kernel
theorem dX2_begin_48 : decode cX2_begin 48 = .ok (.aload_n 0, 1) := by decide +kernel
theorem dX2_begin_49 : decode cX2_begin 49 = .ok (.iconst 0, 1) := by decide +kernel
theorem dX2_begin_50 : decode cX2_begin 50 = .ok (.putfield 84, 3) := by decide +kernel
theorem dX2_begin_53 : decode cX2_begin 53 = .ok (.return_, 1) := by decide +kernel
theorem dX2_fail_0 : decode cX2_fail 0 = .ok (.aload_n 0, 1) := by decide +kernel
theorem dX2_fail_1 : decode cX2_fail 1 = .ok (.iload_n 1, 1) := by decide +kernel
theorem dX2_fail_2 : decode cX2_fail 2 = .ok (.putfield 81, 3) := by decide +kernel
theorem dX2_fail_5 : decode cX2_fail 5 = .ok (.aload_n 0, 1) := by decide +kernel
theorem dX2_fail_6 : decode cX2_fail 6 = .ok (.aload_n 0, 1) := by decide +kernel
theorem dX2_fail_7 : decode cX2_fail 7 = .ok (.getfield 87, 3) := by decide +kernel
theorem dX2_fail_10 : decode cX2_fail 10 = .ok (.putfield 84, 3) := by decide +kernel
theorem dX2_fail_13 : decode cX2_fail 13 = .ok (.iconst 0, 1) := by decide +kernel
theorem dX2_fail_14 : decode cX2_fail 14 = .ok (.ireturn, 1) := by decide +kernel
theorem dX2_kindAt_0 : decode cX2_kindAt 0 = .ok (.iload_n 1, 1) := by decide +kernel
theorem dX2_kindAt_1 : decode cX2_kindAt 1 = .ok (.ifCond .lt 18, 3) := by decide +kernel
theorem dX2_kindAt_4 : decode cX2_kindAt 4 = .ok (.iload_n 1, 1) := by decide +kernel
theorem dX2_kindAt_5 : decode cX2_kindAt 5 = .ok (.aload_n 0, 1) := by decide +kernel
theorem dX2_kindAt_6 : decode cX2_kindAt 6 = .ok (.getfield 33, 3) := by decide +kernel
theorem dX2_kindAt_9 : decode cX2_kindAt 9 = .ok (.if_icmp .ge 10, 3) := by decide +kernel
theorem dX2_kindAt_12 : decode cX2_kindAt 12 = .ok (.iload_n 1, 1) := by decide +kernel
theorem dX2_kindAt_13 : decode cX2_kindAt 13 = .ok (.sipush 320, 3) := by decide +kernel
theorem dX2_kindAt_16 : decode cX2_kindAt 16 = .ok (.if_icmp .lt 5, 3) := by decide +kernel
theorem dX2_kindAt_19 : decode cX2_kindAt 19 = .ok (.iconst 0, 1) := by decide +kernel
theorem dX2_kindAt_20 : decode cX2_kindAt 20 = .ok (.ireturn, 1) := by decide +kernel
theorem dX2_kindAt_21 : decode cX2_kindAt 21 = .ok (.aload_n 0, 1) := by decide +kernel
theorem dX2_kindAt_22 : decode cX2_kindAt 22 = .ok (.getfield 9, 3) := by decide +kernel
theorem dX2_kindAt_25 : decode cX2_kindAt 25 = .ok (.iload_n 1, 1) := by decide +kernel
theorem dX2_kindAt_26 : decode cX2_kindAt 26 = .ok (.baload, 1) := by decide +kernel
theorem dX2_kindAt_27 : decode cX2_kindAt 27 = .ok (.istore_n 2, 1) := by decide +kernel
theorem dX2_kindAt_28 : decode cX2_kindAt 28 = .ok (.iload_n 2, 1) := by decide +kernel
theorem dX2_kindAt_29 : decode cX2_kindAt 29 = .ok (.bipush 32, 2) := by decide +kernel
theorem dX2_kindAt_31 : decode cX2_kindAt 31 = .ok (.if_icmp .ne 5, 3) := by decide +kernel
theorem dX2_kindAt_34 : decode cX2_kindAt 34 = .ok (.iconst 4, 1) := by decide +kernel
theorem dX2_kindAt_35 : decode cX2_kindAt 35 = .ok (.ireturn, 1) := by decide +kernel
theorem dX2_kindAt_36 : decode cX2_kindAt 36 = .ok (.iload_n 2, 1) := by decide +kernel
theorem dX2_kindAt_37 : decode cX2_kindAt 37 = .ok (.bipush 59, 2) := by decide +kernel
theorem dX2_kindAt_39 : decode cX2_kindAt 39 = .ok (.if_icmp .ne 5, 3) := by decide +kernel
theorem dX2_kindAt_42 : decode cX2_kindAt 42 = .ok (.iconst 3, 1) := by decide +kernel
theorem dX2_kindAt_43 : decode cX2_kindAt 43 = .ok (.ireturn, 1) := by decide +kernel
theorem dX2_kindAt_44 : decode cX2_kindAt 44 = .ok (.iload_n 2, 1) := by decide +kernel
theorem dX2_kindAt_45 : decode cX2_kindAt 45 = .ok (.bipush 97, 2) := by decide +kernel
theorem dX2_kindAt_47 : decode cX2_kindAt 47 = .ok (.if_icmp .lt 11, 3) := by decide +kernel
theorem dX2_kindAt_50 : decode cX2_kindAt 50 = .ok (.iload_n 2, 1) := by decide +kernel
theorem dX2_kindAt_51 : decode cX2_kindAt 51 = .ok (.bipush 122, 2) := by decide +kernel
theorem dX2_kindAt_53 : decode cX2_kindAt 53 = .ok (.if_icmp .gt 5, 3) := by decide +kernel
theorem dX2_kindAt_56 : decode cX2_kindAt 56 = .ok (.iconst 1, 1) := by decide +kernel
theorem dX2_kindAt_57 : decode cX2_kindAt 57 = .ok (.ireturn, 1) := by decide +kernel
theorem dX2_kindAt_58 : decode cX2_kindAt 58 = .ok (.iload_n 2, 1) := by decide +kernel
theorem dX2_kindAt_59 : decode cX2_kindAt 59 = .ok (.bipush 48, 2) := by decide +kernel
theorem dX2_kindAt_61 : decode cX2_kindAt 61 = .ok (.if_icmp .lt 13, 3) := by decide +kernel
theorem dX2_kindAt_64 : decode cX2_kindAt 64 = .ok (.iload_n 2, 1) := by decide +kernel
theorem dX2_kindAt_65 : decode cX2_kindAt 65 = .ok (.bipush 57, 2) := by decide +kernel
theorem dX2_kindAt_67 : decode cX2_kindAt 67 = .ok (.if_icmp .gt 7, 3) := by decide +kernel
theorem dX2_kindAt_70 : decode cX2_kindAt 70 = .ok (.iconst 2, 1) := by decide +kernel
theorem dX2_kindAt_71 : decode cX2_kindAt 71 = .ok (.goto 4, 3) := by decide +kernel
theorem dX2_kindAt_74 : decode cX2_kindAt 74 = .ok (.iconst 5, 1) := by decide +kernel
theorem dX2_kindAt_75 : decode cX2_kindAt 75 = .ok (.ireturn, 1) := by decide +kernel
theorem dX2_nextToken_0 : decode cX2_nextToken 0 = .ok (.aload_n 0, 1) := by decide +kernel
theorem dX2_nextToken_1 : decode cX2_nextToken 1 = .ok (.getfield 78, 3) := by decide +kernel
theorem dX2_nextToken_4 : decode cX2_nextToken 4 = .ok (.aload_n 0, 1) := by decide +kernel
theorem dX2_nextToken_5 : decode cX2_nextToken 5 = .ok (.getfield 33, 3) := by decide +kernel
theorem dX2_nextToken_8 : decode cX2_nextToken 8 = .ok (.if_icmp .ge 28, 3) := by decide +kernel
theorem dX2_nextToken_11 : decode cX2_nextToken 11 = .ok (.aload_n 0, 1) := by decide +kernel
theorem dX2_nextToken_12 : decode cX2_nextToken 12 = .ok (.aload_n 0, 1) := by decide +kernel
theorem dX2_nextToken_13 : decode cX2_nextToken 13 = .ok (.getfield 78, 3) := by decide +kernel
theorem dX2_nextToken_16 : decode cX2_nextToken 16 = .ok (.invokevirtual 90, 3) := by decide +kernel
theorem dX2_nextToken_19 : decode cX2_nextToken 19 = .ok (.iconst 4, 1) := by decide +kernel
theorem dX2_nextToken_20 : decode cX2_nextToken 20 = .ok (.if_icmp .ne 16, 3) := by decide +kernel
theorem dX2_nextToken_23 : decode cX2_nextToken 23 = .ok (.aload_n 0, 1) := by decide +kernel
theorem dX2_nextToken_24 : decode cX2_nextToken 24 = .ok (.dup, 1) := by decide +kernel
theorem dX2_nextToken_25 : decode cX2_nextToken 25 = .ok (.getfield 78, 3) := by decide +kernel
theorem dX2_nextToken_28 : decode cX2_nextToken 28 = .ok (.iconst 1, 1) := by decide +kernel
theorem dX2_nextToken_29 : decode cX2_nextToken 29 = .ok (.iadd, 1) := by decide +kernel
theorem dX2_nextToken_30 : decode cX2_nextToken 30 = .ok (.putfield 78, 3) := by decide +kernel
theorem dX2_nextToken_33 : decode cX2_nextToken 33 = .ok (.goto (-33), 3) := by decide +kernel
theorem dX2_nextToken_36 : decode cX2_nextToken 36 = .ok (.aload_n 0, 1) := by decide +kernel
theorem dX2_nextToken_37 : decode cX2_nextToken 37 = .ok (.aload_n 0, 1) := by decide +kernel
theorem dX2_nextToken_38 : decode cX2_nextToken 38 = .ok (.getfield 78, 3) := by decide +kernel
theorem dX2_nextToken_41 : decode cX2_nextToken 41 = .ok (.putfield 87, 3) := by decide +kernel
theorem dX2_nextToken_44 : decode cX2_nextToken 44 = .ok (.aload_n 0, 1) := by decide +kernel
theorem dX2_nextToken_45 : decode cX2_nextToken 45 = .ok (.aload_n 0, 1) := by decide +kernel
theorem dX2_nextToken_46 : decode cX2_nextToken 46 = .ok (.aload_n 0, 1) := by decide +kernel
theorem dX2_nextToken_47 : decode cX2_nextToken 47 = .ok (.getfield 78, 3) := by decide +kernel
theorem dX2_nextToken_50 : decode cX2_nextToken 50 = .ok (.invokevirtual 90, 3) := by decide +kernel
theorem dX2_nextToken_53 : decode cX2_nextToken 53 = .ok (.putfield 44, 3) := by decide +kernel
theorem dX2_nextToken_56 : decode cX2_nextToken 56 = .ok (.aload_n 0, 1) := by decide +kernel
theorem dX2_nextToken_57 : decode cX2_nextToken 57 = .ok (.getfield 44, 3) := by decide +kernel
theorem dX2_nextToken_60 : decode cX2_nextToken 60 = .ok (.iconst 5, 1) := by decide +kernel
theorem dX2_nextToken_61 : decode cX2_nextToken 61 = .ok (.if_icmp .ne 9, 3) := by decide +kernel
theorem dX2_nextToken_64 : decode cX2_nextToken 64 = .ok (.aload_n 0, 1) := by decide +kernel
theorem dX2_nextToken_65 : decode cX2_nextToken 65 = .ok (.iconst 1, 1) := by decide +kernel
theorem dX2_nextToken_66 : decode cX2_nextToken 66 = .ok (.invokevirtual 70, 3) := by decide +kernel
theorem dX2_nextToken_69 : decode cX2_nextToken 69 = .ok (.ireturn, 1) := by decide +kernel
theorem dX2_nextToken_70 : decode cX2_nextToken 70 = .ok (.aload_n 0, 1) := by decide +kernel
theorem dX2_nextToken_71 : decode cX2_nextToken 71 = .ok (.getfield 44, 3) := by decide +kernel
theorem dX2_nextToken_74 : decode cX2_nextToken 74 = .ok (.iconst 3, 1) := by decide +kernel
theorem dX2_nextToken_75 : decode cX2_nextToken 75 = .ok (.if_icmp .ne 13, 3) := by decide +kernel
theorem dX2_nextToken_78 : decode cX2_nextToken 78 = .ok (.aload_n 0, 1) := by decide +kernel
theorem dX2_nextToken_79 : decode cX2_nextToken 79 = .ok (.dup, 1) := by decide +kernel
theorem dX2_nextToken_80 : decode cX2_nextToken 80 = .ok (.getfield 78, 3) := by decide +kernel
theorem dX2_nextToken_83 : decode cX2_nextToken 83 = .ok (.iconst 1, 1) := by decide +kernel
theorem dX2_nextToken_84 : decode cX2_nextToken 84 = .ok (.iadd, 1) := by decide +kernel
theorem dX2_nextToken_85 : decode cX2_nextToken 85 = .ok (.putfield 78, 3) := by decide +kernel
theorem dX2_nextToken_88 : decode cX2_nextToken 88 = .ok (.aload_n 0, 1) := by decide +kernel
theorem dX2_nextToken_89 : decode cX2_nextToken 89 = .ok (.getfield 44, 3) := by decide +kernel
theorem dX2_nextToken_92 : decode cX2_nextToken 92 = .ok (.iconst 1, 1) := by decide +kernel
theorem dX2_nextToken_93 : decode cX2_nextToken 93 = .ok (.if_icmp .eq 11, 3) := by decide +kernel
theorem dX2_nextToken_96 : decode cX2_nextToken 96 = .ok (.aload_n 0, 1) := by decide +kernel
theorem dX2_nextToken_97 : decode cX2_nextToken 97 = .ok (.getfield 44, 3) := by decide +kernel
theorem dX2_nextToken_100 : decode cX2_nextToken 100 = .ok (.iconst 2, 1) := by decide +kernel
theorem dX2_nextToken_101 : decode cX2_nextToken 101 = .ok (.if_icmp .ne 42, 3) := by decide +kernel
theorem dX2_nextToken_104 : decode cX2_nextToken 104 = .ok (.aload_n 0, 1) := by decide +kernel
theorem dX2_nextToken_105 : decode cX2_nextToken 105 = .ok (.getfield 78, 3) := by decide +kernel
theorem dX2_nextToken_108 : decode cX2_nextToken 108 = .ok (.aload_n 0, 1) := by decide +kernel
theorem dX2_nextToken_109 : decode cX2_nextToken 109 = .ok (.getfield 33, 3) := by decide +kernel
theorem dX2_nextToken_112 : decode cX2_nextToken 112 = .ok (.if_icmp .ge 31, 3) := by decide +kernel
theorem dX2_nextToken_115 : decode cX2_nextToken 115 = .ok (.aload_n 0, 1) := by decide +kernel
theorem dX2_nextToken_116 : decode cX2_nextToken 116 = .ok (.aload_n 0, 1) := by decide +kernel
theorem dX2_nextToken_117 : decode cX2_nextToken 117 = .ok (.getfield 78, 3) := by decide +kernel
theorem dX2_nextToken_120 : decode cX2_nextToken 120 = .ok (.invokevirtual 90, 3) := by decide +kernel
theorem dX2_nextToken_123 : decode cX2_nextToken 123 = .ok (.aload_n 0, 1) := by decide +kernel
theorem dX2_nextToken_124 : decode cX2_nextToken 124 = .ok (.getfield 44, 3) := by decide +kernel
theorem dX2_nextToken_127 : decode cX2_nextToken 127 = .ok (.if_icmp .ne 16, 3) := by decide +kernel
theorem dX2_nextToken_130 : decode cX2_nextToken 130 = .ok (.aload_n 0, 1) := by decide +kernel
theorem dX2_nextToken_131 : decode cX2_nextToken 131 = .ok (.dup, 1) := by decide +kernel
theorem dX2_nextToken_132 : decode cX2_nextToken 132 = .ok (.getfield 78, 3) := by decide +kernel
theorem dX2_nextToken_135 : decode cX2_nextToken 135 = .ok (.iconst 1, 1) := by decide +kernel
theorem dX2_nextToken_136 : decode cX2_nextToken 136 = .ok (.iadd, 1) := by decide +kernel
theorem dX2_nextToken_137 : decode cX2_nextToken 137 = .ok (.putfield 78, 3) := by decide +kernel
theorem dX2_nextToken_140 : decode cX2_nextToken 140 = .ok (.goto (-36), 3) := by decide +kernel
theorem dX2_nextToken_143 : decode cX2_nextToken 143 = .ok (.aload_n 0, 1) := by decide +kernel
theorem dX2_nextToken_144 : decode cX2_nextToken 144 = .ok (.getfield 44, 3) := by decide +kernel
theorem dX2_nextToken_147 : decode cX2_nextToken 147 = .ok (.iconst 2, 1) := by decide +kernel
theorem dX2_nextToken_148 : decode cX2_nextToken 148 = .ok (.if_icmp .ne 24, 3) := by decide +kernel
theorem dX2_nextToken_151 : decode cX2_nextToken 151 = .ok (.aload_n 0, 1) := by decide +kernel
theorem dX2_nextToken_152 : decode cX2_nextToken 152 = .ok (.getfield 78, 3) := by decide +kernel
theorem dX2_nextToken_155 : decode cX2_nextToken 155 = .ok (.aload_n 0, 1) := by decide +kernel
theorem dX2_nextToken_156 : decode cX2_nextToken 156 = .ok (.getfield 87, 3) := by decide +kernel
theorem dX2_nextToken_159 : decode cX2_nextToken 159 = .ok (.isub, 1) := by decide +kernel
theorem dX2_nextToken_160 : decode cX2_nextToken 160 = .ok (.iconst 4, 1) := by decide +kernel
theorem dX2_nextToken_161 : decode cX2_nextToken 161 = .ok (.if_icmp .le 11, 3) := by decide +kernel
theorem dX2_nextToken_164 : decode cX2_nextToken 164 = .ok (.aload_n 0, 1) := by decide +kernel
theorem dX2_nextToken_165 : decode cX2_nextToken 165 = .ok (.iconst 1, 1) := by decide +kernel
theorem dX2_nextToken_166 : decode cX2_nextToken 166 = .ok (.invokevirtual 70, 3) := by decide +kernel
theorem dX2_nextToken_169 : decode cX2_nextToken 169 = .ok (.ifCond .eq 7, 3) := by decide +kernel
theorem dX2_nextToken_172 : decode cX2_nextToken 172 = .ok (.iconst 1, 1) := by decide +kernel
theorem dX2_nextToken_173 : decode cX2_nextToken 173 = .ok (.goto 4, 3) := by decide +kernel
theorem dX2_nextToken_176 : decode cX2_nextToken 176 = .ok (.iconst 0, 1) := by decide +kernel
theorem dX2_nextToken_177 : decode cX2_nextToken 177 = .ok (.ireturn, 1) := by decide +kernel
theorem dX2_isName_0 : decode cX2_isName 0 = .ok (.aload_n 0, 1) := by decide +kernel
theorem dX2_isName_1 : decode cX2_isName 1 = .ok (.getfield 44, 3) := by decide +kernel
theorem dX2_isName_4 : decode cX2_isName 4 = .ok (.iconst 1, 1) := by decide +kernel
theorem dX2_isName_5 : decode cX2_isName 5 = .ok (.if_icmp .ne 29, 3) := by decide +kernel
theorem dX2_isName_8 : decode cX2_isName 8 = .ok (.aload_n 0, 1) := by decide +kernel
theorem dX2_isName_9 : decode cX2_isName 9 = .ok (.getfield 78, 3) := by decide +kernel
theorem dX2_isName_12 : decode cX2_isName 12 = .ok (.aload_n 0, 1) := by decide +kernel
theorem dX2_isName_13 : decode cX2_isName 13 = .ok (.getfield 87, 3) := by decide +kernel
theorem dX2_isName_16 : decode cX2_isName 16 = .ok (.isub, 1) := by decide +kernel
theorem dX2_isName_17 : decode cX2_isName 17 = .ok (.aload_n 1, 1) := by decide +kernel
theorem dX2_isName_18 : decode cX2_isName 18 = .ok (.invokevirtual 94, 3) := by decide +kernel
theorem dX2_isName_21 : decode cX2_isName 21 = .ok (.if_icmp .ne 13, 3) := by decide +kernel
theorem dX2_isName_24 : decode cX2_isName 24 = .ok (.aload_n 0, 1) := by decide +kernel
theorem dX2_isName_25 : decode cX2_isName 25 = .ok (.getfield 78, 3) := by decide +kernel
theorem dX2_isName_28 : decode cX2_isName 28 = .ok (.sipush 320, 3) := by decide +kernel
theorem dX2_isName_31 : decode cX2_isName 31 = .ok (.if_icmp .le 5, 3) := by decide +kernel
theorem dX2_isName_34 : decode cX2_isName 34 = .ok (.iconst 0, 1) := by decide +kernel
theorem dX2_isName_35 : decode cX2_isName 35 = .ok (.ireturn, 1) := by decide +kernel
theorem dX2_isName_36 : decode cX2_isName 36 = .ok (.iconst 0, 1) := by decide +kernel
theorem dX2_isName_37 : decode cX2_isName 37 = .ok (.istore_n 2, 1) := by decide +kernel
theorem dX2_isName_38 : decode cX2_isName 38 = .ok (.iload_n 2, 1) := by decide +kernel
theorem dX2_isName_39 : decode cX2_isName 39 = .ok (.aload_n 1, 1) := by decide +kernel
theorem dX2_isName_40 : decode cX2_isName 40 = .ok (.invokevirtual 94, 3) := by decide +kernel
theorem dX2_isName_43 : decode cX2_isName 43 = .ok (.if_icmp .ge 30, 3) := by decide +kernel
theorem dX2_isName_46 : decode cX2_isName 46 = .ok (.aload_n 0, 1) := by decide +kernel
theorem dX2_isName_47 : decode cX2_isName 47 = .ok (.getfield 9, 3) := by decide +kernel
theorem dX2_isName_50 : decode cX2_isName 50 = .ok (.aload_n 0, 1) := by decide +kernel
theorem dX2_isName_51 : decode cX2_isName 51 = .ok (.getfield 87, 3) := by decide +kernel
theorem dX2_isName_54 : decode cX2_isName 54 = .ok (.iload_n 2, 1) := by decide +kernel
theorem dX2_isName_55 : decode cX2_isName 55 = .ok (.iadd, 1) := by decide +kernel
theorem dX2_isName_56 : decode cX2_isName 56 = .ok (.baload, 1) := by decide +kernel
theorem dX2_isName_57 : decode cX2_isName 57 = .ok (.aload_n 1, 1) := by decide +kernel
theorem dX2_isName_58 : decode cX2_isName 58 = .ok (.iload_n 2, 1) := by decide +kernel
theorem dX2_isName_59 : decode cX2_isName 59 = .ok (.invokevirtual 99, 3) := by decide +kernel
theorem dX2_isName_62 : decode cX2_isName 62 = .ok (.if_icmp .eq 5, 3) := by decide +kernel
theorem dX2_isName_65 : decode cX2_isName 65 = .ok (.iconst 0, 1) := by decide +kernel
theorem dX2_isName_66 : decode cX2_isName 66 = .ok (.ireturn, 1) := by decide +kernel
theorem dX2_isName_67 : decode cX2_isName 67 = .ok (.iinc 2 1, 3) := by decide +kernel
theorem dX2_isName_70 : decode cX2_isName 70 = .ok (.goto (-32), 3) := by decide +kernel
theorem dX2_isName_73 : decode cX2_isName 73 = .ok (.iconst 1, 1) := by decide +kernel
theorem dX2_isName_74 : decode cX2_isName 74 = .ok (.ireturn, 1) := by decide +kernel
theorem dX2_takeNumber_0 : decode cX2_takeNumber 0 = .ok (.aload_n 0, 1) := by decide +kernel
theorem dX2_takeNumber_1 : decode cX2_takeNumber 1 = .ok (.invokevirtual 40, 3) := by decide +kernel
theorem dX2_takeNumber_4 : decode cX2_takeNumber 4 = .ok (.ifCond .ne 5, 3) := by decide +kernel
theorem dX2_takeNumber_7 : decode cX2_takeNumber 7 = .ok (.iconst 0, 1) := by decide +kernel
theorem dX2_takeNumber_8 : decode cX2_takeNumber 8 = .ok (.ireturn, 1) := by decide +kernel
theorem dX2_takeNumber_9 : decode cX2_takeNumber 9 = .ok (.aload_n 0, 1) := by decide +kernel
theorem dX2_takeNumber_10 : decode cX2_takeNumber 10 = .ok (.getfield 44, 3) := by decide +kernel
theorem dX2_takeNumber_13 : decode cX2_takeNumber 13 = .ok (.iconst 2, 1) := by decide +kernel
theorem dX2_takeNumber_14 : decode cX2_takeNumber 14 = .ok (.if_icmp .eq 9, 3) := by decide +kernel
theorem dX2_takeNumber_17 : decode cX2_takeNumber 17 = .ok (.aload_n 0, 1) := by decide +kernel
theorem dX2_takeNumber_18 : decode cX2_takeNumber 18 = .ok (.iconst 2, 1) := by decide +kernel
theorem dX2_takeNumber_19 : decode cX2_takeNumber 19 = .ok (.invokevirtual 70, 3) := by decide +kernel
theorem dX2_takeNumber_22 : decode cX2_takeNumber 22 = .ok (.ireturn, 1) := by decide +kernel
theorem dX2_takeNumber_23 : decode cX2_takeNumber 23 = .ok (.aload_n 0, 1) := by decide +kernel
theorem dX2_takeNumber_24 : decode cX2_takeNumber 24 = .ok (.iconst 0, 1) := by decide +kernel
theorem dX2_takeNumber_25 : decode cX2_takeNumber 25 = .ok (.putfield 103, 3) := by decide +kernel
theorem dX2_takeNumber_28 : decode cX2_takeNumber 28 = .ok (.aload_n 0, 1) := by decide +kernel
theorem dX2_takeNumber_29 : decode cX2_takeNumber 29 = .ok (.getfield 87, 3) := by decide +kernel
theorem dX2_takeNumber_32 : decode cX2_takeNumber 32 = .ok (.istore_n 3, 1) := by decide +kernel
theorem dX2_takeNumber_33 : decode cX2_takeNumber 33 = .ok (.iload_n 3, 1) := by decide +kernel
theorem dX2_takeNumber_34 : decode cX2_takeNumber 34 = .ok (.aload_n 0, 1) := by decide +kernel
theorem dX2_takeNumber_35 : decode cX2_takeNumber 35 = .ok (.getfield 78, 3) := by decide +kernel
theorem dX2_takeNumber_38 : decode cX2_takeNumber 38 = .ok (.if_icmp .ge 37, 3) := by decide +kernel
theorem dX2_takeNumber_41 : decode cX2_takeNumber 41 = .ok (.iload_n 3, 1) := by decide +kernel
theorem dX2_takeNumber_42 : decode cX2_takeNumber 42 = .ok (.sipush 320, 3) := by decide +kernel
theorem dX2_takeNumber_45 : decode cX2_takeNumber 45 = .ok (.if_icmp .ge 30, 3) := by decide +kernel
theorem dX2_takeNumber_48 : decode cX2_takeNumber 48 = .ok (.aload_n 0, 1) := by decide +kernel
theorem dX2_takeNumber_49 : decode cX2_takeNumber 49 = .ok (.aload_n 0, 1) := by decide +kernel
theorem dX2_takeNumber_50 : decode cX2_takeNumber 50 = .ok (.getfield 103, 3) := by decide +kernel
theorem dX2_takeNumber_53 : decode cX2_takeNumber 53 = .ok (.bipush 10, 2) := by decide +kernel
theorem dX2_takeNumber_55 : decode cX2_takeNumber 55 = .ok (.imul, 1) := by decide +kernel
theorem dX2_takeNumber_56 : decode cX2_takeNumber 56 = .ok (.aload_n 0, 1) := by decide +kernel
theorem dX2_takeNumber_57 : decode cX2_takeNumber 57 = .ok (.getfield 9, 3) := by decide +kernel
theorem dX2_takeNumber_60 : decode cX2_takeNumber 60 = .ok (.iload_n 3, 1) := by decide +kernel
theorem dX2_takeNumber_61 : decode cX2_takeNumber 61 = .ok (.baload, 1) := by decide +kernel
theorem dX2_takeNumber_62 : decode cX2_takeNumber 62 = .ok (.iadd, 1) := by decide +kernel
theorem dX2_takeNumber_63 : decode cX2_takeNumber 63 = .ok (.bipush 48, 2) := by decide +kernel
theorem dX2_takeNumber_65 : decode cX2_takeNumber 65 = .ok (.isub, 1) := by decide +kernel
theorem dX2_takeNumber_66 : decode cX2_takeNumber 66 = .ok (.putfield 103, 3) := by decide +kernel
theorem dX2_takeNumber_69 : decode cX2_takeNumber 69 = .ok (.iinc 3 1, 3) := by decide +kernel
theorem dX2_takeNumber_72 : decode cX2_takeNumber 72 = .ok (.goto (-39), 3) := by decide +kernel
theorem dX2_takeNumber_75 : decode cX2_takeNumber 75 = .ok (.aload_n 0, 1) := by decide +kernel
theorem dX2_takeNumber_76 : decode cX2_takeNumber 76 = .ok (.getfield 103, 3) := by decide +kernel
theorem dX2_takeNumber_79 : decode cX2_takeNumber 79 = .ok (.iload_n 1, 1) := by decide +kernel
theorem dX2_takeNumber_80 : decode cX2_takeNumber 80 = .ok (.iload_n 2, 1) := by decide +kernel
theorem dX2_takeNumber_81 : decode cX2_takeNumber 81 = .ok (.invokestatic 106, 3) := by decide +kernel
theorem dX2_takeNumber_84 : decode cX2_takeNumber 84 = .ok (.ifCond .ne 11, 3) := by decide +kernel
theorem dX2_takeNumber_87 : decode cX2_takeNumber 87 = .ok (.aload_n 0, 1) := by decide +kernel
theorem dX2_takeNumber_88 : decode cX2_takeNumber 88 = .ok (.iconst 3, 1) := by decide +kernel
theorem dX2_takeNumber_89 : decode cX2_takeNumber 89 = .ok (.invokevirtual 70, 3) := by decide +kernel
theorem dX2_takeNumber_92 : decode cX2_takeNumber 92 = .ok (.ifCond .eq 7, 3) := by decide +kernel
theorem dX2_takeNumber_95 : decode cX2_takeNumber 95 = .ok (.iconst 1, 1) := by decide +kernel
theorem dX2_takeNumber_96 : decode cX2_takeNumber 96 = .ok (.goto 4, 3) := by decide +kernel
theorem dX2_takeNumber_99 : decode cX2_takeNumber 99 = .ok (.iconst 0, 1) := by decide +kernel
theorem dX2_takeNumber_100 : decode cX2_takeNumber 100 = .ok (.ireturn, 1) := by decide +kernel
theorem dX2_takeStop_0 : decode cX2_takeStop 0 = .ok (.aload_n 0, 1) := by decide +kernel
theorem dX2_takeStop_1 : decode cX2_takeStop 1 = .ok (.invokevirtual 40, 3) := by decide +kernel
theorem dX2_takeStop_4 : decode cX2_takeStop 4 = .ok (.ifCond .ne 5, 3) := by decide +kernel
theorem dX2_takeStop_7 : decode cX2_takeStop 7 = .ok (.iconst 0, 1) := by decide +kernel
theorem dX2_takeStop_8 : decode cX2_takeStop 8 = .ok (.ireturn, 1) := by decide +kernel
theorem dX2_takeStop_9 : decode cX2_takeStop 9 = .ok (.aload_n 0, 1) := by decide +kernel
theorem dX2_takeStop_10 : decode cX2_takeStop 10 = .ok (.getfield 44, 3) := by decide +kernel
theorem dX2_takeStop_13 : decode cX2_takeStop 13 = .ok (.iconst 3, 1) := by decide +kernel
theorem dX2_takeStop_14 : decode cX2_takeStop 14 = .ok (.if_icmp .eq 11, 3) := by decide +kernel
theorem dX2_takeStop_17 : decode cX2_takeStop 17 = .ok (.aload_n 0, 1) := by decide +kernel
theorem dX2_takeStop_18 : decode cX2_takeStop 18 = .ok (.iconst 2, 1) := by decide +kernel
theorem dX2_takeStop_19 : decode cX2_takeStop 19 = .ok (.invokevirtual 70, 3) := by decide +kernel
theorem dX2_takeStop_22 : decode cX2_takeStop 22 = .ok (.ifCond .eq 7, 3) := by decide +kernel
theorem dX2_takeStop_25 : decode cX2_takeStop 25 = .ok (.iconst 1, 1) := by decide +kernel
theorem dX2_takeStop_26 : decode cX2_takeStop 26 = .ok (.goto 4, 3) := by decide +kernel
theorem dX2_takeStop_29 : decode cX2_takeStop 29 = .ok (.iconst 0, 1) := by decide +kernel
theorem dX2_takeStop_30 : decode cX2_takeStop 30 = .ok (.ireturn, 1) := by decide +kernel
theorem dX2_takeRuleLine_0 : decode cX2_takeRuleLine 0 = .ok (.aload_n 0, 1) := by decide +kernel
theorem dX2_takeRuleLine_1 : decode cX2_takeRuleLine 1 = .ok (.invokevirtual 110, 3) := by decide +kernel
theorem dX2_takeRuleLine_4 : decode cX2_takeRuleLine 4 = .ok (.istore_n 1, 1) := by decide +kernel
theorem dX2_takeRuleLine_5 : decode cX2_takeRuleLine 5 = .ok (.iload_n 1, 1) := by decide +kernel
theorem dX2_takeRuleLine_6 : decode cX2_takeRuleLine 6 = .ok (.bipush (-4), 2) := by decide +kernel
theorem dX2_takeRuleLine_8 : decode cX2_takeRuleLine 8 = .ok (.if_icmp .ne 9, 3) := by decide +kernel
theorem dX2_takeRuleLine_11 : decode cX2_takeRuleLine 11 = .ok (.aload_n 0, 1) := by decide +kernel
theorem dX2_takeRuleLine_12 : decode cX2_takeRuleLine 12 = .ok (.iconst 2, 1) := by decide +kernel
theorem dX2_takeRuleLine_13 : decode cX2_takeRuleLine 13 = .ok (.invokevirtual 70, 3) := by decide +kernel
theorem dX2_takeRuleLine_16 : decode cX2_takeRuleLine 16 = .ok (.ireturn, 1) := by decide +kernel
theorem dX2_takeRuleLine_17 : decode cX2_takeRuleLine 17 = .ok (.aload_n 0, 1) := by decide +kernel
theorem dX2_takeRuleLine_18 : decode cX2_takeRuleLine 18 = .ok (.getfield 28, 3) := by decide +kernel
theorem dX2_takeRuleLine_21 : decode cX2_takeRuleLine 21 = .ok (.iload_n 1, 1) := by decide +kernel
theorem dX2_takeRuleLine_22 : decode cX2_takeRuleLine 22 = .ok (.baload, 1) := by decide +kernel
theorem dX2_takeRuleLine_23 : decode cX2_takeRuleLine 23 = .ok (.ifCond .eq 9, 3) := by decide +kernel
theorem dX2_takeRuleLine_26 : decode cX2_takeRuleLine 26 = .ok (.aload_n 0, 1) := by decide +kernel
theorem dX2_takeRuleLine_27 : decode cX2_takeRuleLine 27 = .ok (.iconst 4, 1) := by decide +kernel
theorem dX2_takeRuleLine_28 : decode cX2_takeRuleLine 28 = .ok (.invokevirtual 70, 3) := by decide +kernel
theorem dX2_takeRuleLine_31 : decode cX2_takeRuleLine 31 = .ok (.ireturn, 1) := by decide +kernel
theorem dX2_takeRuleLine_32 : decode cX2_takeRuleLine 32 = .ok (.aload_n 0, 1) := by decide +kernel
theorem dX2_takeRuleLine_33 : decode cX2_takeRuleLine 33 = .ok (.getfield 28, 3) := by decide +kernel
theorem dX2_takeRuleLine_36 : decode cX2_takeRuleLine 36 = .ok (.iload_n 1, 1) := by decide +kernel
theorem dX2_takeRuleLine_37 : decode cX2_takeRuleLine 37 = .ok (.iconst 1, 1) := by decide +kernel
theorem dX2_takeRuleLine_38 : decode cX2_takeRuleLine 38 = .ok (.bastore, 1) := by decide +kernel
theorem dX2_takeRuleLine_39 : decode cX2_takeRuleLine 39 = .ok (.aload_n 0, 1) := by decide +kernel
theorem dX2_takeRuleLine_40 : decode cX2_takeRuleLine 40 = .ok (.iload_n 1, 1) := by decide +kernel
theorem dX2_takeRuleLine_41 : decode cX2_takeRuleLine 41 = .ok (.invokevirtual 113, 3) := by decide +kernel
theorem dX2_takeRuleLine_44 : decode cX2_takeRuleLine 44 = .ok (.ifCond .ne 5, 3) := by decide +kernel
theorem dX2_takeRuleLine_47 : decode cX2_takeRuleLine 47 = .ok (.iconst 0, 1) := by decide +kernel
theorem dX2_takeRuleLine_48 : decode cX2_takeRuleLine 48 = .ok (.ireturn, 1) := by decide +kernel
theorem dX2_takeRuleLine_49 : decode cX2_takeRuleLine 49 = .ok (.iload_n 1, 1) := by decide +kernel
theorem dX2_takeRuleLine_50 : decode cX2_takeRuleLine 50 = .ok (.iconst 4, 1) := by decide +kernel
theorem dX2_takeRuleLine_51 : decode cX2_takeRuleLine 51 = .ok (.if_icmp .ne 13, 3) := by decide +kernel
theorem dX2_takeRuleLine_54 : decode cX2_takeRuleLine 54 = .ok (.aload_n 0, 1) := by decide +kernel
theorem dX2_takeRuleLine_55 : decode cX2_takeRuleLine 55 = .ok (.iconst 5, 1) := by decide +kernel
theorem dX2_takeRuleLine_56 : decode cX2_takeRuleLine 56 = .ok (.invokevirtual 113, 3) := by decide +kernel
theorem dX2_takeRuleLine_59 : decode cX2_takeRuleLine 59 = .ok (.ifCond .ne 5, 3) := by decide +kernel
theorem dX2_takeRuleLine_62 : decode cX2_takeRuleLine 62 = .ok (.iconst 0, 1) := by decide +kernel
theorem dX2_takeRuleLine_63 : decode cX2_takeRuleLine 63 = .ok (.ireturn, 1) := by decide +kernel
theorem dX2_takeRuleLine_64 : decode cX2_takeRuleLine 64 = .ok (.aload_n 0, 1) := by decide +kernel
theorem dX2_takeRuleLine_65 : decode cX2_takeRuleLine 65 = .ok (.invokevirtual 116, 3) := by decide +kernel
theorem dX2_takeRuleLine_68 : decode cX2_takeRuleLine 68 = .ok (.ireturn, 1) := by decide +kernel
theorem dX2_ruleNamed_0 : decode cX2_ruleNamed 0 = .ok (.aload_n 0, 1) := by decide +kernel
theorem dX2_ruleNamed_1 : decode cX2_ruleNamed 1 = .ok (.ldc 119, 2) := by decide +kernel
theorem dX2_ruleNamed_3 : decode cX2_ruleNamed 3 = .ok (.invokevirtual 52, 3) := by decide +kernel
theorem dX2_ruleNamed_6 : decode cX2_ruleNamed 6 = .ok (.ifCond .eq 5, 3) := by decide +kernel
theorem dX2_ruleNamed_9 : decode cX2_ruleNamed 9 = .ok (.iconst 0, 1) := by decide +kernel
theorem dX2_ruleNamed_10 : decode cX2_ruleNamed 10 = .ok (.ireturn, 1) := by decide +kernel
theorem dX2_ruleNamed_11 : decode cX2_ruleNamed 11 = .ok (.aload_n 0, 1) := by decide +kernel
theorem dX2_ruleNamed_12 : decode cX2_ruleNamed 12 = .ok (.ldc 121, 2) := by decide +kernel
theorem dX2_ruleNamed_14 : decode cX2_ruleNamed 14 = .ok (.invokevirtual 52, 3) := by decide +kernel
theorem dX2_ruleNamed_17 : decode cX2_ruleNamed 17 = .ok (.ifCond .eq 5, 3) := by decide +kernel
theorem dX2_ruleNamed_20 : decode cX2_ruleNamed 20 = .ok (.iconst 1, 1) := by decide +kernel
theorem dX2_ruleNamed_21 : decode cX2_ruleNamed 21 = .ok (.ireturn, 1) := by decide +kernel
theorem dX2_ruleNamed_22 : decode cX2_ruleNamed 22 = .ok (.aload_n 0, 1) := by decide +kernel
theorem dX2_ruleNamed_23 : decode cX2_ruleNamed 23 = .ok (.ldc 123, 2) := by decide +kernel
theorem dX2_ruleNamed_25 : decode cX2_ruleNamed 25 = .ok (.invokevirtual 52, 3) := by decide +kernel
theorem dX2_ruleNamed_28 : decode cX2_ruleNamed 28 = .ok (.ifCond .eq 5, 3) := by decide +kernel
theorem dX2_ruleNamed_31 : decode cX2_ruleNamed 31 = .ok (.iconst 2, 1) := by decide +kernel
theorem dX2_ruleNamed_32 : decode cX2_ruleNamed 32 = .ok (.ireturn, 1) := by decide +kernel
theorem dX2_ruleNamed_33 : decode cX2_ruleNamed 33 = .ok (.aload_n 0, 1) := by decide +kernel
theorem dX2_ruleNamed_34 : decode cX2_ruleNamed 34 = .ok (.ldc 125, 2) := by decide +kernel
theorem dX2_ruleNamed_36 : decode cX2_ruleNamed 36 = .ok (.invokevirtual 52, 3) := by decide +kernel
theorem dX2_ruleNamed_39 : decode cX2_ruleNamed 39 = .ok (.ifCond .eq 5, 3) := by decide +kernel
theorem dX2_ruleNamed_42 : decode cX2_ruleNamed 42 = .ok (.iconst 3, 1) := by decide +kernel
theorem dX2_ruleNamed_43 : decode cX2_ruleNamed 43 = .ok (.ireturn, 1) := by decide +kernel
theorem dX2_ruleNamed_44 : decode cX2_ruleNamed 44 = .ok (.aload_n 0, 1) := by decide +kernel
theorem dX2_ruleNamed_45 : decode cX2_ruleNamed 45 = .ok (.ldc 127, 2) := by decide +kernel
theorem dX2_ruleNamed_47 : decode cX2_ruleNamed 47 = .ok (.invokevirtual 52, 3) := by decide +kernel
theorem dX2_ruleNamed_50 : decode cX2_ruleNamed 50 = .ok (.ifCond .eq 5, 3) := by decide +kernel
theorem dX2_ruleNamed_53 : decode cX2_ruleNamed 53 = .ok (.iconst 4, 1) := by decide +kernel
theorem dX2_ruleNamed_54 : decode cX2_ruleNamed 54 = .ok (.ireturn, 1) := by decide +kernel
theorem dX2_ruleNamed_55 : decode cX2_ruleNamed 55 = .ok (.aload_n 0, 1) := by decide +kernel
theorem dX2_ruleNamed_56 : decode cX2_ruleNamed 56 = .ok (.ldc 129, 2) := by decide +kernel
theorem dX2_ruleNamed_58 : decode cX2_ruleNamed 58 = .ok (.invokevirtual 52, 3) := by decide +kernel
theorem dX2_ruleNamed_61 : decode cX2_ruleNamed 61 = .ok (.ifCond .eq 8, 3) := by decide +kernel
theorem dX2_ruleNamed_64 : decode cX2_ruleNamed 64 = .ok (.bipush 6, 2) := by decide +kernel
theorem dX2_ruleNamed_66 : decode cX2_ruleNamed 66 = .ok (.goto 5, 3) := by decide +kernel
theorem dX2_ruleNamed_69 : decode cX2_ruleNamed 69 = .ok (.bipush (-4), 2) := by decide +kernel
theorem dX2_ruleNamed_71 : decode cX2_ruleNamed 71 = .ok (.ireturn, 1) := by decide +kernel
theorem dX2_takeRule_0 : decode cX2_takeRule 0 = .ok (.aload_n 0, 1) := by decide +kernel
theorem dX2_takeRule_1 : decode cX2_takeRule 1 = .ok (.getstatic 131, 3) := by decide +kernel
theorem dX2_takeRule_4 : decode cX2_takeRule 4 = .ok (.iload_n 1, 1) := by decide +kernel
theorem dX2_takeRule_5 : decode cX2_takeRule 5 = .ok (.iaload, 1) := by decide +kernel
theorem dX2_takeRule_6 : decode cX2_takeRule 6 = .ok (.getstatic 135, 3) := by decide +kernel
theorem dX2_takeRule_9 : decode cX2_takeRule 9 = .ok (.iload_n 1, 1) := by decide +kernel
theorem dX2_takeRule_10 : decode cX2_takeRule 10 = .ok (.iaload, 1) := by decide +kernel
theorem dX2_takeRule_11 : decode cX2_takeRule 11 = .ok (.invokevirtual 138, 3) := by decide +kernel
theorem dX2_takeRule_14 : decode cX2_takeRule 14 = .ok (.ifCond .ne 5, 3) := by decide +kernel
theorem dX2_takeRule_17 : decode cX2_takeRule 17 = .ok (.iconst 0, 1) := by decide +kernel
theorem dX2_takeRule_18 : decode cX2_takeRule 18 = .ok (.ireturn, 1) := by decide +kernel
theorem dX2_takeRule_19 : decode cX2_takeRule 19 = .ok (.aload_n 0, 1) := by decide +kernel
theorem dX2_takeRule_20 : decode cX2_takeRule 20 = .ok (.getfield 18, 3) := by decide +kernel
theorem dX2_takeRule_23 : decode cX2_takeRule 23 = .ok (.getfield 142, 3) := by decide +kernel
theorem dX2_takeRule_26 : decode cX2_takeRule 26 = .ok (.iload_n 1, 1) := by decide +kernel
theorem dX2_takeRule_27 : decode cX2_takeRule 27 = .ok (.aload_n 0, 1) := by decide +kernel
theorem dX2_takeRule_28 : decode cX2_takeRule 28 = .ok (.getfield 103, 3) := by decide +kernel
theorem dX2_takeRule_31 : decode cX2_takeRule 31 = .ok (.iastore, 1) := by decide +kernel
theorem dX2_takeRule_32 : decode cX2_takeRule 32 = .ok (.iconst 1, 1) := by decide +kernel
theorem dX2_takeRule_33 : decode cX2_takeRule 33 = .ok (.ireturn, 1) := by decide +kernel
theorem dX2_takeHour_0 : decode cX2_takeHour 0 = .ok (.aload_n 0, 1) := by decide +kernel
theorem dX2_takeHour_1 : decode cX2_takeHour 1 = .ok (.iconst 0, 1) := by decide +kernel
theorem dX2_takeHour_2 : decode cX2_takeHour 2 = .ok (.bipush 23, 2) := by decide +kernel
theorem dX2_takeHour_4 : decode cX2_takeHour 4 = .ok (.invokevirtual 138, 3) := by decide +kernel
theorem dX2_takeHour_7 : decode cX2_takeHour 7 = .ok (.ifCond .ne 5, 3) := by decide +kernel
theorem dX2_takeHour_10 : decode cX2_takeHour 10 = .ok (.iconst 0, 1) := by decide +kernel
theorem dX2_takeHour_11 : decode cX2_takeHour 11 = .ok (.ireturn, 1) := by decide +kernel
theorem dX2_takeHour_12 : decode cX2_takeHour 12 = .ok (.aload_n 0, 1) := by decide +kernel
theorem dX2_takeHour_13 : decode cX2_takeHour 13 = .ok (.getfield 103, 3) := by decide +kernel
theorem dX2_takeHour_16 : decode cX2_takeHour 16 = .ok (.istore_n 1, 1) := by decide +kernel
theorem dX2_takeHour_17 : decode cX2_takeHour 17 = .ok (.aload_n 0, 1) := by decide +kernel
theorem dX2_takeHour_18 : decode cX2_takeHour 18 = .ok (.getfield 18, 3) := by decide +kernel
theorem dX2_takeHour_21 : decode cX2_takeHour 21 = .ok (.getfield 145, 3) := by decide +kernel
theorem dX2_takeHour_24 : decode cX2_takeHour 24 = .ok (.iload_n 1, 1) := by decide +kernel
theorem dX2_takeHour_25 : decode cX2_takeHour 25 = .ok (.iaload, 1) := by decide +kernel
theorem dX2_takeHour_26 : decode cX2_takeHour 26 = .ok (.ifCond .eq 9, 3) := by decide +kernel
theorem dX2_takeHour_29 : decode cX2_takeHour 29 = .ok (.aload_n 0, 1) := by decide +kernel
theorem dX2_takeHour_30 : decode cX2_takeHour 30 = .ok (.iconst 4, 1) := by decide +kernel
theorem dX2_takeHour_31 : decode cX2_takeHour 31 = .ok (.invokevirtual 70, 3) := by decide +kernel
theorem dX2_takeHour_34 : decode cX2_takeHour 34 = .ok (.ireturn, 1) := by decide +kernel
theorem dX2_takeHour_35 : decode cX2_takeHour 35 = .ok (.aload_n 0, 1) := by decide +kernel
theorem dX2_takeHour_36 : decode cX2_takeHour 36 = .ok (.getstatic 131, 3) := by decide +kernel
theorem dX2_takeHour_39 : decode cX2_takeHour 39 = .ok (.iconst 2, 1) := by decide +kernel
theorem dX2_takeHour_40 : decode cX2_takeHour 40 = .ok (.iaload, 1) := by decide +kernel
theorem dX2_takeHour_41 : decode cX2_takeHour 41 = .ok (.getstatic 135, 3) := by decide +kernel
theorem dX2_takeHour_44 : decode cX2_takeHour 44 = .ok (.iconst 2, 1) := by decide +kernel
theorem dX2_takeHour_45 : decode cX2_takeHour 45 = .ok (.iaload, 1) := by decide +kernel
theorem dX2_takeHour_46 : decode cX2_takeHour 46 = .ok (.invokevirtual 138, 3) := by decide +kernel
theorem dX2_takeHour_49 : decode cX2_takeHour 49 = .ok (.ifCond .ne 5, 3) := by decide +kernel
theorem dX2_takeHour_52 : decode cX2_takeHour 52 = .ok (.iconst 0, 1) := by decide +kernel
theorem dX2_takeHour_53 : decode cX2_takeHour 53 = .ok (.ireturn, 1) := by decide +kernel
theorem dX2_takeHour_54 : decode cX2_takeHour 54 = .ok (.aload_n 0, 1) := by decide +kernel
theorem dX2_takeHour_55 : decode cX2_takeHour 55 = .ok (.getfield 18, 3) := by decide +kernel
theorem dX2_takeHour_58 : decode cX2_takeHour 58 = .ok (.getfield 145, 3) := by decide +kernel
theorem dX2_takeHour_61 : decode cX2_takeHour 61 = .ok (.iload_n 1, 1) := by decide +kernel
theorem dX2_takeHour_62 : decode cX2_takeHour 62 = .ok (.aload_n 0, 1) := by decide +kernel
theorem dX2_takeHour_63 : decode cX2_takeHour 63 = .ok (.getfield 103, 3) := by decide +kernel
theorem dX2_takeHour_66 : decode cX2_takeHour 66 = .ok (.iastore, 1) := by decide +kernel
theorem dX2_takeHour_67 : decode cX2_takeHour 67 = .ok (.aload_n 0, 1) := by decide +kernel
theorem dX2_takeHour_68 : decode cX2_takeHour 68 = .ok (.invokevirtual 116, 3) := by decide +kernel
theorem dX2_takeHour_71 : decode cX2_takeHour 71 = .ok (.ireturn, 1) := by decide +kernel
theorem dX2_takeDiver_0 : decode cX2_takeDiver 0 = .ok (.aload_n 0, 1) := by decide +kernel
theorem dX2_takeDiver_1 : decode cX2_takeDiver 1 = .ok (.getfield 75, 3) := by decide +kernel
theorem dX2_takeDiver_4 : decode cX2_takeDiver 4 = .ok (.bipush 6, 2) := by decide +kernel
theorem dX2_takeDiver_6 : decode cX2_takeDiver 6 = .ok (.if_icmp .lt 9, 3) := by decide +kernel
theorem dX2_takeDiver_9 : decode cX2_takeDiver 9 = .ok (.aload_n 0, 1) := by decide +kernel
theorem dX2_takeDiver_10 : decode cX2_takeDiver 10 = .ok (.iconst 5, 1) := by decide +kernel
theorem dX2_takeDiver_11 : decode cX2_takeDiver 11 = .ok (.invokevirtual 70, 3) := by decide +kernel
theorem dX2_takeDiver_14 : decode cX2_takeDiver 14 = .ok (.ireturn, 1) := by decide +kernel
theorem dX2_takeDiver_15 : decode cX2_takeDiver 15 = .ok (.aload_n 0, 1) := by decide +kernel
theorem dX2_takeDiver_16 : decode cX2_takeDiver 16 = .ok (.getfield 24, 3) := by decide +kernel
theorem dX2_takeDiver_19 : decode cX2_takeDiver 19 = .ok (.aload_n 0, 1) := by decide +kernel
theorem dX2_takeDiver_20 : decode cX2_takeDiver 20 = .ok (.getfield 75, 3) := by decide +kernel
theorem dX2_takeDiver_23 : decode cX2_takeDiver 23 = .ok (.aaload, 1) := by decide +kernel
theorem dX2_takeDiver_24 : decode cX2_takeDiver 24 = .ok (.astore_n 1, 1) := by decide +kernel
theorem dX2_takeDiver_25 : decode cX2_takeDiver 25 = .ok (.aload_n 0, 1) := by decide +kernel
theorem dX2_takeDiver_26 : decode cX2_takeDiver 26 = .ok (.dup, 1) := by decide +kernel
theorem dX2_takeDiver_27 : decode cX2_takeDiver 27 = .ok (.getfield 75, 3) := by decide +kernel
theorem dX2_takeDiver_30 : decode cX2_takeDiver 30 = .ok (.iconst 1, 1) := by decide +kernel
theorem dX2_takeDiver_31 : decode cX2_takeDiver 31 = .ok (.iadd, 1) := by decide +kernel
theorem dX2_takeDiver_32 : decode cX2_takeDiver 32 = .ok (.putfield 75, 3) := by decide +kernel
theorem dX2_takeDiver_35 : decode cX2_takeDiver 35 = .ok (.aload_n 0, 1) := by decide +kernel
theorem dX2_takeDiver_36 : decode cX2_takeDiver 36 = .ok (.iconst 1, 1) := by decide +kernel
theorem dX2_takeDiver_37 : decode cX2_takeDiver 37 = .ok (.sipush 999, 3) := by decide +kernel
theorem dX2_takeDiver_40 : decode cX2_takeDiver 40 = .ok (.invokevirtual 138, 3) := by decide +kernel
theorem dX2_takeDiver_43 : decode cX2_takeDiver 43 = .ok (.ifCond .ne 5, 3) := by decide +kernel
theorem dX2_takeDiver_46 : decode cX2_takeDiver 46 = .ok (.iconst 0, 1) := by decide +kernel
theorem dX2_takeDiver_47 : decode cX2_takeDiver 47 = .ok (.ireturn, 1) := by decide +kernel
theorem dX2_takeDiver_48 : decode cX2_takeDiver 48 = .ok (.aload_n 0, 1) := by decide +kernel
theorem dX2_takeDiver_49 : decode cX2_takeDiver 49 = .ok (.getfield 103, 3) := by decide +kernel
theorem dX2_takeDiver_52 : decode cX2_takeDiver 52 = .ok (.istore_n 2, 1) := by decide +kernel
theorem dX2_takeDiver_53 : decode cX2_takeDiver 53 = .ok (.aload_n 0, 1) := by decide +kernel
theorem dX2_takeDiver_54 : decode cX2_takeDiver 54 = .ok (.iconst 0, 1) := by decide +kernel
theorem dX2_takeDiver_55 : decode cX2_takeDiver 55 = .ok (.sipush 9999, 3) := by decide +kernel
theorem dX2_takeDiver_58 : decode cX2_takeDiver 58 = .ok (.invokevirtual 138, 3) := by decide +kernel
theorem dX2_takeDiver_61 : decode cX2_takeDiver 61 = .ok (.ifCond .ne 5, 3) := by decide +kernel
theorem dX2_takeDiver_64 : decode cX2_takeDiver 64 = .ok (.iconst 0, 1) := by decide +kernel
theorem dX2_takeDiver_65 : decode cX2_takeDiver 65 = .ok (.ireturn, 1) := by decide +kernel
theorem dX2_takeDiver_66 : decode cX2_takeDiver 66 = .ok (.aload_n 1, 1) := by decide +kernel
theorem dX2_takeDiver_67 : decode cX2_takeDiver 67 = .ok (.iload_n 2, 1) := by decide +kernel
theorem dX2_takeDiver_68 : decode cX2_takeDiver 68 = .ok (.aload_n 0, 1) := by decide +kernel
theorem dX2_takeDiver_69 : decode cX2_takeDiver 69 = .ok (.getfield 103, 3) := by decide +kernel
theorem dX2_takeDiver_72 : decode cX2_takeDiver 72 = .ok (.invokevirtual 148, 3) := by decide +kernel
theorem dX2_takeDiver_75 : decode cX2_takeDiver 75 = .ok (.aload_n 0, 1) := by decide +kernel
theorem dX2_takeDiver_76 : decode cX2_takeDiver 76 = .ok (.aload_n 1, 1) := by decide +kernel
theorem dX2_takeDiver_77 : decode cX2_takeDiver 77 = .ok (.invokevirtual 151, 3) := by decide +kernel
theorem dX2_takeDiver_80 : decode cX2_takeDiver 80 = .ok (.ireturn, 1) := by decide +kernel
theorem dX2_takeWiths_0 : decode cX2_takeWiths 0 = .ok (.iconst 0, 1) := by decide +kernel
theorem dX2_takeWiths_1 : decode cX2_takeWiths 1 = .ok (.istore_n 2, 1) := by decide +kernel
theorem dX2_takeWiths_2 : decode cX2_takeWiths 2 = .ok (.iconst 0, 1) := by decide +kernel
theorem dX2_takeWiths_3 : decode cX2_takeWiths 3 = .ok (.istore_n 3, 1) := by decide +kernel
theorem dX2_takeWiths_4 : decode cX2_takeWiths 4 = .ok (.iconst 0, 1) := by decide +kernel
theorem dX2_takeWiths_5 : decode cX2_takeWiths 5 = .ok (.istore 4, 2) := by decide +kernel
theorem dX2_takeWiths_7 : decode cX2_takeWiths 7 = .ok (.iload 4, 2) := by decide +kernel
theorem dX2_takeWiths_9 : decode cX2_takeWiths 9 = .ok (.iconst 3, 1) := by decide +kernel
theorem dX2_takeWiths_10 : decode cX2_takeWiths 10 = .ok (.if_icmp .gt 152, 3) := by decide +kernel
theorem dX2_takeWiths_13 : decode cX2_takeWiths 13 = .ok (.aload_n 0, 1) := by decide +kernel
theorem dX2_takeWiths_14 : decode cX2_takeWiths 14 = .ok (.invokevirtual 40, 3) := by decide +kernel
theorem dX2_takeWiths_17 : decode cX2_takeWiths 17 = .ok (.ifCond .ne 5, 3) := by decide +kernel
theorem dX2_takeWiths_20 : decode cX2_takeWiths 20 = .ok (.iconst 0, 1) := by decide +kernel
theorem dX2_takeWiths_21 : decode cX2_takeWiths 21 = .ok (.ireturn, 1) := by decide +kernel
theorem dX2_takeWiths_22 : decode cX2_takeWiths 22 = .ok (.aload_n 0, 1) := by decide +kernel
theorem dX2_takeWiths_23 : decode cX2_takeWiths 23 = .ok (.getfield 44, 3) := by decide +kernel
theorem dX2_takeWiths_26 : decode cX2_takeWiths 26 = .ok (.iconst 3, 1) := by decide +kernel
theorem dX2_takeWiths_27 : decode cX2_takeWiths 27 = .ok (.if_icmp .ne 5, 3) := by decide +kernel
theorem dX2_takeWiths_30 : decode cX2_takeWiths 30 = .ok (.iconst 1, 1) := by decide +kernel
theorem dX2_takeWiths_31 : decode cX2_takeWiths 31 = .ok (.ireturn, 1) := by decide +kernel
theorem dX2_takeWiths_32 : decode cX2_takeWiths 32 = .ok (.aload_n 0, 1) := by decide +kernel
theorem dX2_takeWiths_33 : decode cX2_takeWiths 33 = .ok (.ldc 155, 2) := by decide +kernel
theorem dX2_takeWiths_35 : decode cX2_takeWiths 35 = .ok (.invokevirtual 52, 3) := by decide +kernel
theorem dX2_takeWiths_38 : decode cX2_takeWiths 38 = .ok (.ifCond .eq 38, 3) := by decide +kernel
theorem dX2_takeWiths_41 : decode cX2_takeWiths 41 = .ok (.iload_n 2, 1) := by decide +kernel
theorem dX2_takeWiths_42 : decode cX2_takeWiths 42 = .ok (.ifCond .eq 9, 3) := by decide +kernel
theorem dX2_takeWiths_45 : decode cX2_takeWiths 45 = .ok (.aload_n 0, 1) := by decide +kernel
theorem dX2_takeWiths_46 : decode cX2_takeWiths 46 = .ok (.iconst 4, 1) := by decide +kernel
theorem dX2_takeWiths_47 : decode cX2_takeWiths 47 = .ok (.invokevirtual 70, 3) := by decide +kernel
theorem dX2_takeWiths_50 : decode cX2_takeWiths 50 = .ok (.ireturn, 1) := by decide +kernel
theorem dX2_takeWiths_51 : decode cX2_takeWiths 51 = .ok (.iconst 1, 1) := by decide +kernel
theorem dX2_takeWiths_52 : decode cX2_takeWiths 52 = .ok (.istore_n 2, 1) := by decide +kernel
theorem dX2_takeWiths_53 : decode cX2_takeWiths 53 = .ok (.aload_n 0, 1) := by decide +kernel
theorem dX2_takeWiths_54 : decode cX2_takeWiths 54 = .ok (.iconst 0, 1) := by decide +kernel
theorem dX2_takeWiths_55 : decode cX2_takeWiths 55 = .ok (.bipush 99, 2) := by decide +kernel
theorem dX2_takeWiths_57 : decode cX2_takeWiths 57 = .ok (.invokevirtual 138, 3) := by decide +kernel
theorem dX2_takeWiths_60 : decode cX2_takeWiths 60 = .ok (.ifCond .ne 5, 3) := by decide +kernel
theorem dX2_takeWiths_63 : decode cX2_takeWiths 63 = .ok (.iconst 0, 1) := by decide +kernel
theorem dX2_takeWiths_64 : decode cX2_takeWiths 64 = .ok (.ireturn, 1) := by decide +kernel
theorem dX2_takeWiths_65 : decode cX2_takeWiths 65 = .ok (.aload_n 1, 1) := by decide +kernel
theorem dX2_takeWiths_66 : decode cX2_takeWiths 66 = .ok (.aload_n 0, 1) := by decide +kernel
theorem dX2_takeWiths_67 : decode cX2_takeWiths 67 = .ok (.getfield 103, 3) := by decide +kernel
theorem dX2_takeWiths_70 : decode cX2_takeWiths 70 = .ok (.putfield 157, 3) := by decide +kernel
theorem dX2_takeWiths_73 : decode cX2_takeWiths 73 = .ok (.goto 83, 3) := by decide +kernel
theorem dX2_takeWiths_76 : decode cX2_takeWiths 76 = .ok (.aload_n 0, 1) := by decide +kernel
theorem dX2_takeWiths_77 : decode cX2_takeWiths 77 = .ok (.ldc 159, 2) := by decide +kernel
theorem dX2_takeWiths_79 : decode cX2_takeWiths 79 = .ok (.invokevirtual 52, 3) := by decide +kernel
theorem dX2_takeWiths_82 : decode cX2_takeWiths 82 = .ok (.ifCond .eq 38, 3) := by decide +kernel
theorem dX2_takeWiths_85 : decode cX2_takeWiths 85 = .ok (.iload_n 3, 1) := by decide +kernel
theorem dX2_takeWiths_86 : decode cX2_takeWiths 86 = .ok (.ifCond .eq 9, 3) := by decide +kernel
theorem dX2_takeWiths_89 : decode cX2_takeWiths 89 = .ok (.aload_n 0, 1) := by decide +kernel
theorem dX2_takeWiths_90 : decode cX2_takeWiths 90 = .ok (.iconst 4, 1) := by decide +kernel
theorem dX2_takeWiths_91 : decode cX2_takeWiths 91 = .ok (.invokevirtual 70, 3) := by decide +kernel
theorem dX2_takeWiths_94 : decode cX2_takeWiths 94 = .ok (.ireturn, 1) := by decide +kernel
theorem dX2_takeWiths_95 : decode cX2_takeWiths 95 = .ok (.iconst 1, 1) := by decide +kernel
theorem dX2_takeWiths_96 : decode cX2_takeWiths 96 = .ok (.istore_n 3, 1) := by decide +kernel
theorem dX2_takeWiths_97 : decode cX2_takeWiths 97 = .ok (.aload_n 0, 1) := by decide +kernel
theorem dX2_takeWiths_98 : decode cX2_takeWiths 98 = .ok (.iconst 0, 1) := by decide +kernel
theorem dX2_takeWiths_99 : decode cX2_takeWiths 99 = .ok (.bipush 99, 2) := by decide +kernel
theorem dX2_takeWiths_101 : decode cX2_takeWiths 101 = .ok (.invokevirtual 138, 3) := by decide +kernel
theorem dX2_takeWiths_104 : decode cX2_takeWiths 104 = .ok (.ifCond .ne 5, 3) := by decide +kernel
theorem dX2_takeWiths_107 : decode cX2_takeWiths 107 = .ok (.iconst 0, 1) := by decide +kernel
theorem dX2_takeWiths_108 : decode cX2_takeWiths 108 = .ok (.ireturn, 1) := by decide +kernel
theorem dX2_takeWiths_109 : decode cX2_takeWiths 109 = .ok (.aload_n 1, 1) := by decide +kernel
theorem dX2_takeWiths_110 : decode cX2_takeWiths 110 = .ok (.aload_n 0, 1) := by decide +kernel
theorem dX2_takeWiths_111 : decode cX2_takeWiths 111 = .ok (.getfield 103, 3) := by decide +kernel
theorem dX2_takeWiths_114 : decode cX2_takeWiths 114 = .ok (.putfield 161, 3) := by decide +kernel
theorem dX2_takeWiths_117 : decode cX2_takeWiths 117 = .ok (.goto 39, 3) := by decide +kernel
theorem dX2_takeWiths_120 : decode cX2_takeWiths 120 = .ok (.aload_n 0, 1) := by decide +kernel
theorem dX2_takeWiths_121 : decode cX2_takeWiths 121 = .ok (.ldc 163, 2) := by decide +kernel
theorem dX2_takeWiths_123 : decode cX2_takeWiths 123 = .ok (.invokevirtual 52, 3) := by decide +kernel
theorem dX2_takeWiths_126 : decode cX2_takeWiths 126 = .ok (.ifCond .eq 24, 3) := by decide +kernel
theorem dX2_takeWiths_129 : decode cX2_takeWiths 129 = .ok (.aload_n 1, 1) := by decide +kernel
theorem dX2_takeWiths_130 : decode cX2_takeWiths 130 = .ok (.getfield 165, 3) := by decide +kernel
theorem dX2_takeWiths_133 : decode cX2_takeWiths 133 = .ok (.ifCond .eq 9, 3) := by decide +kernel
theorem dX2_takeWiths_136 : decode cX2_takeWiths 136 = .ok (.aload_n 0, 1) := by decide +kernel
theorem dX2_takeWiths_137 : decode cX2_takeWiths 137 = .ok (.iconst 4, 1) := by decide +kernel
theorem dX2_takeWiths_138 : decode cX2_takeWiths 138 = .ok (.invokevirtual 70, 3) := by decide +kernel
theorem dX2_takeWiths_141 : decode cX2_takeWiths 141 = .ok (.ireturn, 1) := by decide +kernel
theorem dX2_takeWiths_142 : decode cX2_takeWiths 142 = .ok (.aload_n 1, 1) := by decide +kernel
theorem dX2_takeWiths_143 : decode cX2_takeWiths 143 = .ok (.iconst 1, 1) := by decide +kernel
theorem dX2_takeWiths_144 : decode cX2_takeWiths 144 = .ok (.putfield 165, 3) := by decide +kernel
theorem dX2_takeWiths_147 : decode cX2_takeWiths 147 = .ok (.goto 9, 3) := by decide +kernel
theorem dX2_takeWiths_150 : decode cX2_takeWiths 150 = .ok (.aload_n 0, 1) := by decide +kernel
theorem dX2_takeWiths_151 : decode cX2_takeWiths 151 = .ok (.iconst 2, 1) := by decide +kernel
theorem dX2_takeWiths_152 : decode cX2_takeWiths 152 = .ok (.invokevirtual 70, 3) := by decide +kernel
theorem dX2_takeWiths_155 : decode cX2_takeWiths 155 = .ok (.ireturn, 1) := by decide +kernel
theorem dX2_takeWiths_156 : decode cX2_takeWiths 156 = .ok (.iinc 4 1, 3) := by decide +kernel
theorem dX2_takeWiths_159 : decode cX2_takeWiths 159 = .ok (.goto (-152), 3) := by decide +kernel
theorem dX2_takeWiths_162 : decode cX2_takeWiths 162 = .ok (.aload_n 0, 1) := by decide +kernel
theorem dX2_takeWiths_163 : decode cX2_takeWiths 163 = .ok (.iconst 2, 1) := by decide +kernel
theorem dX2_takeWiths_164 : decode cX2_takeWiths 164 = .ok (.invokevirtual 70, 3) := by decide +kernel
theorem dX2_takeWiths_167 : decode cX2_takeWiths 167 = .ok (.ireturn, 1) := by decide +kernel
theorem dX3_init_0 : decode cX3_init 0 = .ok (.aload_n 0, 1) := by decide +kernel
theorem dX3_init_1 : decode cX3_init 1 = .ok (.invokespecial 3, 3) := by decide +kernel
theorem dX3_init_4 : decode cX3_init 4 = .ok (.aload_n 0, 1) := by decide +kernel
theorem dX3_init_5 : decode cX3_init 5 = .ok (.bipush 6, 2) := by decide +kernel
theorem dX3_init_7 : decode cX3_init 7 = .ok (.anewarray 9, 3) := by decide +kernel
theorem dX3_init_10 : decode cX3_init 10 = .ok (.putfield 11, 3) := by decide +kernel
theorem dX3_init_13 : decode cX3_init 13 = .ok (.aload_n 0, 1) := by decide +kernel
theorem dX3_init_14 : decode cX3_init 14 = .ok (.new 17, 3) := by decide +kernel
theorem dX3_init_17 : decode cX3_init 17 = .ok (.dup, 1) := by decide +kernel
theorem dX3_init_18 : decode cX3_init 18 = .ok (.invokespecial 19, 3) := by decide +kernel
theorem dX3_init_21 : decode cX3_init 21 = .ok (.putfield 20, 3) := by decide +kernel
theorem dX3_init_24 : decode cX3_init 24 = .ok (.iconst 0, 1) := by decide +kernel
theorem dX3_init_25 : decode cX3_init 25 = .ok (.istore_n 1, 1) := by decide +kernel
theorem dX3_init_26 : decode cX3_init 26 = .ok (.iload_n 1, 1) := by decide +kernel
theorem dX3_init_27 : decode cX3_init 27 = .ok (.bipush 6, 2) := by decide +kernel
theorem dX3_init_29 : decode cX3_init 29 = .ok (.if_icmp .ge 22, 3) := by decide +kernel
theorem dX3_init_32 : decode cX3_init 32 = .ok (.aload_n 0, 1) := by decide +kernel
theorem dX3_init_33 : decode cX3_init 33 = .ok (.getfield 11, 3) := by decide +kernel
theorem dX3_init_36 : decode cX3_init 36 = .ok (.iload_n 1, 1) := by decide +kernel
theorem dX3_init_37 : decode cX3_init 37 = .ok (.new 9, 3) := by decide +kernel
theorem dX3_init_40 : decode cX3_init 40 = .ok (.dup, 1) := by decide +kernel
theorem dX3_init_41 : decode cX3_init 41 = .ok (.invokespecial 24, 3) := by decide +kernel
theorem dX3_init_44 : decode cX3_init 44 = .ok (.aastore, 1) := by decide +kernel
theorem dX3_init_45 : decode cX3_init 45 = .ok (.iinc 1 1, 3) := by decide +kernel
theorem dX3_init_48 : decode cX3_init 48 = .ok (.goto (-22), 3) := by decide +kernel
theorem dX3_init_51 : decode cX3_init 51 = .ok (.return_, 1) := by decide +kernel
theorem dX3_begin_0 : decode cX3_begin 0 = .ok (.aload_n 0, 1) := by decide +kernel
theorem dX3_begin_1 : decode cX3_begin 1 = .ok (.aload_n 2, 1) := by decide +kernel
theorem dX3_begin_2 : decode cX3_begin 2 = .ok (.iload_n 3, 1) := by decide +kernel
theorem dX3_begin_3 : decode cX3_begin 3 = .ok (.invokevirtual 25, 3) := by decide +kernel
theorem dX3_begin_6 : decode cX3_begin 6 = .ok (.aload_n 0, 1) := by decide +kernel
theorem dX3_begin_7 : decode cX3_begin 7 = .ok (.getfield 20, 3) := by decide +kernel
theorem dX3_begin_10 : decode cX3_begin 10 = .ok (.iconst 0, 1) := by decide +kernel
theorem dX3_begin_11 : decode cX3_begin 11 = .ok (.putfield 29, 3) := by decide +kernel
theorem dX3_begin_14 : decode cX3_begin 14 = .ok (.aload_n 0, 1) := by decide +kernel
theorem dX3_begin_15 : decode cX3_begin 15 = .ok (.iconst 0, 1) := by decide +kernel
theorem dX3_begin_16 : decode cX3_begin 16 = .ok (.putfield 33, 3) := by decide +kernel
theorem dX3_begin_19 : decode cX3_begin 19 = .ok (.aload_n 0, 1) := by decide +kernel
theorem dX3_begin_20 : decode cX3_begin 20 = .ok (.aload_n 1, 1) := by decide +kernel
theorem dX3_begin_21 : decode cX3_begin 21 = .ok (.getfield 36, 3) := by decide +kernel
theorem dX3_begin_24 : decode cX3_begin 24 = .ok (.iconst 2, 1) := by decide +kernel
theorem dX3_begin_25 : decode cX3_begin 25 = .ok (.iaload, 1) := by decide +kernel
theorem dX3_begin_26 : decode cX3_begin 26 = .ok (.putfield 42, 3) := by decide +kernel
theorem dX3_begin_29 : decode cX3_begin 29 = .ok (.aload_n 0, 1) := by decide +kernel
theorem dX3_begin_30 : decode cX3_begin 30 = .ok (.iconst 0, 1) := by decide +kernel
theorem dX3_begin_31 : decode cX3_begin 31 = .ok (.putfield 45, 3) := by decide +kernel
theorem dX3_begin_34 : decode cX3_begin 34 = .ok (.aload_n 0, 1) := by decide +kernel
theorem dX3_begin_35 : decode cX3_begin 35 = .ok (.iconst 0, 1) := by decide +kernel
theorem dX3_begin_36 : decode cX3_begin 36 = .ok (.putfield 48, 3) := by decide +kernel
theorem dX3_begin_39 : decode cX3_begin 39 = .ok (.aload_n 0, 1) := by decide +kernel
theorem dX3_begin_40 : decode cX3_begin 40 = .ok (.aload_n 1, 1) := by decide +kernel
theorem dX3_begin_41 : decode cX3_begin 41 = .ok (.getfield 36, 3) := by decide +kernel
theorem dX3_begin_44 : decode cX3_begin 44 = .ok (.bipush 6, 2) := by decide +kernel
theorem dX3_begin_46 : decode cX3_begin 46 = .ok (.iaload, 1) := by decide +kernel
theorem dX3_begin_47 : decode cX3_begin 47 = .ok (.ifCond .le 7, 3) := by decide +kernel
theorem dX3_begin_50 : decode cX3_begin 50 = .ok (.iconst 1, 1) := by decide +kernel
theorem dX3_begin_51 : decode cX3_begin 51 = .ok (.goto 4, 3) := by decide +kernel
theorem dX3_begin_54 : decode cX3_begin 54 = .ok (.iconst 0, 1) := by decide +kernel
theorem dX3_begin_55 : decode cX3_begin 55 = .ok (.putfield 51, 3) := by decide +kernel
theorem dX3_begin_58 : decode cX3_begin 58 = .ok (.return_, 1) := by decide +kernel
theorem dX3_copyFrom_0 : decode cX3_copyFrom 0 = .ok (.aload_n 0, 1) := by decide +kernel
theorem dX3_copyFrom_1 : decode cX3_copyFrom 1 = .ok (.aload_n 1, 1) := by decide +kernel
theorem dX3_copyFrom_2 : decode cX3_copyFrom 2 = .ok (.getfield 11, 3) := by decide +kernel
theorem dX3_copyFrom_5 : decode cX3_copyFrom 5 = .ok (.aload_n 1, 1) := by decide +kernel
theorem dX3_copyFrom_6 : decode cX3_copyFrom 6 = .ok (.getfield 55, 3) := by decide +kernel
theorem dX3_copyFrom_9 : decode cX3_copyFrom 9 = .ok (.invokevirtual 25, 3) := by decide +kernel
theorem dX3_copyFrom_12 : decode cX3_copyFrom 12 = .ok (.aload_n 0, 1) := by decide +kernel
theorem dX3_copyFrom_13 : decode cX3_copyFrom 13 = .ok (.getfield 20, 3) := by decide +kernel
theorem dX3_copyFrom_16 : decode cX3_copyFrom 16 = .ok (.aload_n 1, 1) := by decide +kernel
theorem dX3_copyFrom_17 : decode cX3_copyFrom 17 = .ok (.getfield 20, 3) := by decide +kernel
theorem dX3_copyFrom_20 : decode cX3_copyFrom 20 = .ok (.invokevirtual 58, 3) := by decide +kernel
theorem dX3_copyFrom_23 : decode cX3_copyFrom 23 = .ok (.aload_n 0, 1) := by decide +kernel
theorem dX3_copyFrom_24 : decode cX3_copyFrom 24 = .ok (.aload_n 1, 1) := by decide +kernel
theorem dX3_copyFrom_25 : decode cX3_copyFrom 25 = .ok (.getfield 33, 3) := by decide +kernel
theorem dX3_copyFrom_28 : decode cX3_copyFrom 28 = .ok (.putfield 33, 3) := by decide +kernel
theorem dX3_copyFrom_31 : decode cX3_copyFrom 31 = .ok (.aload_n 0, 1) := by decide +kernel
theorem dX3_copyFrom_32 : decode cX3_copyFrom 32 = .ok (.aload_n 1, 1) := by decide +kernel
theorem dX3_copyFrom_33 : decode cX3_copyFrom 33 = .ok (.getfield 42, 3) := by decide +kernel
theorem dX3_copyFrom_36 : decode cX3_copyFrom 36 = .ok (.putfield 42, 3) := by decide +kernel
theorem dX3_copyFrom_39 : decode cX3_copyFrom 39 = .ok (.aload_n 0, 1) := by decide +kernel
theorem dX3_copyFrom_40 : decode cX3_copyFrom 40 = .ok (.aload_n 1, 1) := by decide +kernel
theorem dX3_copyFrom_41 : decode cX3_copyFrom 41 = .ok (.getfield 45, 3) := by decide +kernel
theorem dX3_copyFrom_44 : decode cX3_copyFrom 44 = .ok (.putfield 45, 3) := by decide +kernel
theorem dX3_copyFrom_47 : decode cX3_copyFrom 47 = .ok (.aload_n 0, 1) := by decide +kernel
theorem dX3_copyFrom_48 : decode cX3_copyFrom 48 = .ok (.aload_n 1, 1) := by decide +kernel
theorem dX3_copyFrom_49 : decode cX3_copyFrom 49 = .ok (.getfield 48, 3) := by decide +kernel
theorem dX3_copyFrom_52 : decode cX3_copyFrom 52 = .ok (.putfield 48, 3) := by decide +kernel
theorem dX3_copyFrom_55 : decode cX3_copyFrom 55 = .ok (.aload_n 0, 1) := by decide +kernel
theorem dX3_copyFrom_56 : decode cX3_copyFrom 56 = .ok (.aload_n 1, 1) := by decide +kernel
theorem dX3_copyFrom_57 : decode cX3_copyFrom 57 = .ok (.getfield 51, 3) := by decide +kernel
theorem dX3_copyFrom_60 : decode cX3_copyFrom 60 = .ok (.putfield 51, 3) := by decide +kernel
theorem dX3_copyFrom_63 : decode cX3_copyFrom 63 = .ok (.return_, 1) := by decide +kernel
theorem dX3_copyDivers_0 : decode cX3_copyDivers 0 = .ok (.aload_n 0, 1) := by decide +kernel
theorem dX3_copyDivers_1 : decode cX3_copyDivers 1 = .ok (.iload_n 2, 1) := by decide +kernel
theorem dX3_copyDivers_2 : decode cX3_copyDivers 2 = .ok (.bipush 6, 2) := by decide +kernel
theorem dX3_copyDivers_4 : decode cX3_copyDivers 4 = .ok (.invokestatic 62, 3) := by decide +kernel
theorem dX3_copyDivers_7 : decode cX3_copyDivers 7 = .ok (.putfield 55, 3) := by decide +kernel
theorem dX3_copyDivers_10 : decode cX3_copyDivers 10 = .ok (.iconst 0, 1) := by decide +kernel
theorem dX3_copyDivers_11 : decode cX3_copyDivers 11 = .ok (.istore_n 3, 1) := by decide +kernel
theorem dX3_copyDivers_12 : decode cX3_copyDivers 12 = .ok (.iload_n 3, 1) := by decide +kernel
theorem dX3_copyDivers_13 : decode cX3_copyDivers 13 = .ok (.aload_n 0, 1) := by decide +kernel
theorem dX3_copyDivers_14 : decode cX3_copyDivers 14 = .ok (.getfield 55, 3) := by decide +kernel
theorem dX3_copyDivers_17 : decode cX3_copyDivers 17 = .ok (.if_icmp .ge 21, 3) := by decide +kernel
theorem dX3_copyDivers_20 : decode cX3_copyDivers 20 = .ok (.aload_n 0, 1) := by decide +kernel
theorem dX3_copyDivers_21 : decode cX3_copyDivers 21 = .ok (.getfield 11, 3) := by decide +kernel
theorem dX3_copyDivers_24 : decode cX3_copyDivers 24 = .ok (.iload_n 3, 1) := by decide +kernel
theorem dX3_copyDivers_25 : decode cX3_copyDivers 25 = .ok (.aaload, 1) := by decide +kernel
theorem dX3_copyDivers_26 : decode cX3_copyDivers 26 = .ok (.aload_n 1, 1) := by decide +kernel
theorem dX3_copyDivers_27 : decode cX3_copyDivers 27 = .ok (.iload_n 3, 1) := by decide +kernel
theorem dX3_copyDivers_28 : decode cX3_copyDivers 28 = .ok (.aaload, 1) := by decide +kernel
theorem dX3_copyDivers_29 : decode cX3_copyDivers 29 = .ok (.invokevirtual 68, 3) := by decide +kernel
theorem dX3_copyDivers_32 : decode cX3_copyDivers 32 = .ok (.iinc 3 1, 3) := by decide +kernel
theorem dX3_copyDivers_35 : decode cX3_copyDivers 35 = .ok (.goto (-23), 3) := by decide +kernel
theorem dX3_copyDivers_38 : decode cX3_copyDivers 38 = .ok (.return_, 1) := by decide +kernel
theorem dX4_init_0 : decode cX4_init 0 = .ok (.aload_n 0, 1) := by decide +kernel
theorem dX4_init_1 : decode cX4_init 1 = .ok (.invokespecial 3, 3) := by decide +kernel
theorem dX4_init_4 : decode cX4_init 4 = .ok (.aload_n 0, 1) := by decide +kernel
theorem dX4_init_5 : decode cX4_init 5 = .ok (.bipush 12, 2) := by decide +kernel
theorem dX4_init_7 : decode cX4_init 7 = .ok (.newarray .int, 2) := by decide +kernel
theorem dX4_init_9 : decode cX4_init 9 = .ok (.putfield 9, 3) := by decide +kernel
theorem dX4_init_12 : decode cX4_init 12 = .ok (.aload_n 0, 1) := by decide +kernel
theorem dX4_init_13 : decode cX4_init 13 = .ok (.bipush 12, 2) := by decide +kernel
theorem dX4_init_15 : decode cX4_init 15 = .ok (.newarray .int, 2) := by decide +kernel
theorem dX4_init_17 : decode cX4_init 17 = .ok (.putfield 15, 3) := by decide +kernel
theorem dX4_init_20 : decode cX4_init 20 = .ok (.aload_n 0, 1) := by decide +kernel
theorem dX4_init_21 : decode cX4_init 21 = .ok (.bipush 12, 2) := by decide +kernel
theorem dX4_init_23 : decode cX4_init 23 = .ok (.newarray .boolean, 2) := by decide +kernel
theorem dX4_init_25 : decode cX4_init 25 = .ok (.putfield 18, 3) := by decide +kernel
theorem dX4_init_28 : decode cX4_init 28 = .ok (.return_, 1) := by decide +kernel
theorem dX4_add_0 : decode cX4_add 0 = .ok (.aload_n 0, 1) := by decide +kernel
theorem dX4_add_1 : decode cX4_add 1 = .ok (.getfield 22, 3) := by decide +kernel
theorem dX4_add_4 : decode cX4_add 4 = .ok (.bipush 12, 2) := by decide +kernel
theorem dX4_add_6 : decode cX4_add 6 = .ok (.if_icmp .lt 5, 3) := by decide +kernel
theorem dX4_add_9 : decode cX4_add 9 = .ok (.iconst 0, 1) := by decide +kernel
theorem dX4_add_10 : decode cX4_add 10 = .ok (.ireturn, 1) := by decide +kernel
theorem dX4_add_11 : decode cX4_add 11 = .ok (.aload_n 0, 1) := by decide +kernel
theorem dX4_add_12 : decode cX4_add 12 = .ok (.getfield 9, 3) := by decide +kernel
theorem dX4_add_15 : decode cX4_add 15 = .ok (.aload_n 0, 1) := by decide +kernel
theorem dX4_add_16 : decode cX4_add 16 = .ok (.getfield 22, 3) := by decide +kernel
theorem dX4_add_19 : decode cX4_add 19 = .ok (.iload_n 1, 1) := by decide +kernel
theorem dX4_add_20 : decode cX4_add 20 = .ok (.iastore, 1) := by decide +kernel
theorem dX4_add_21 : decode cX4_add 21 = .ok (.aload_n 0, 1) := by decide +kernel
theorem dX4_add_22 : decode cX4_add 22 = .ok (.getfield 15, 3) := by decide +kernel
theorem dX4_add_25 : decode cX4_add 25 = .ok (.aload_n 0, 1) := by decide +kernel
theorem dX4_add_26 : decode cX4_add 26 = .ok (.getfield 22, 3) := by decide +kernel
theorem dX4_add_29 : decode cX4_add 29 = .ok (.iload_n 2, 1) := by decide +kernel
theorem dX4_add_30 : decode cX4_add 30 = .ok (.iastore, 1) := by decide +kernel
theorem dX4_add_31 : decode cX4_add 31 = .ok (.aload_n 0, 1) := by decide +kernel
theorem dX4_add_32 : decode cX4_add 32 = .ok (.getfield 18, 3) := by decide +kernel
theorem dX4_add_35 : decode cX4_add 35 = .ok (.aload_n 0, 1) := by decide +kernel
theorem dX4_add_36 : decode cX4_add 36 = .ok (.getfield 22, 3) := by decide +kernel
theorem dX4_add_39 : decode cX4_add 39 = .ok (.iload_n 3, 1) := by decide +kernel
theorem dX4_add_40 : decode cX4_add 40 = .ok (.bastore, 1) := by decide +kernel
theorem dX4_add_41 : decode cX4_add 41 = .ok (.aload_n 0, 1) := by decide +kernel
theorem dX4_add_42 : decode cX4_add 42 = .ok (.dup, 1) := by decide +kernel
theorem dX4_add_43 : decode cX4_add 43 = .ok (.getfield 22, 3) := by decide +kernel
theorem dX4_add_46 : decode cX4_add 46 = .ok (.iconst 1, 1) := by decide +kernel
theorem dX4_add_47 : decode cX4_add 47 = .ok (.iadd, 1) := by decide +kernel
theorem dX4_add_48 : decode cX4_add 48 = .ok (.putfield 22, 3) := by decide +kernel
theorem dX4_add_51 : decode cX4_add 51 = .ok (.iconst 1, 1) := by decide +kernel
theorem dX4_add_52 : decode cX4_add 52 = .ok (.ireturn, 1) := by decide +kernel
theorem dX4_copyFrom_0 : decode cX4_copyFrom 0 = .ok (.aload_n 0, 1) := by decide +kernel
theorem dX4_copyFrom_1 : decode cX4_copyFrom 1 = .ok (.iconst 0, 1) := by decide +kernel
theorem dX4_copyFrom_2 : decode cX4_copyFrom 2 = .ok (.putfield 22, 3) := by decide +kernel
theorem dX4_copyFrom_5 : decode cX4_copyFrom 5 = .ok (.iconst 0, 1) := by decide +kernel
theorem dX4_copyFrom_6 : decode cX4_copyFrom 6 = .ok (.istore_n 2, 1) := by decide +kernel
theorem dX4_copyFrom_7 : decode cX4_copyFrom 7 = .ok (.iload_n 2, 1) := by decide +kernel
theorem dX4_copyFrom_8 : decode cX4_copyFrom 8 = .ok (.aload_n 1, 1) := by decide +kernel
theorem dX4_copyFrom_9 : decode cX4_copyFrom 9 = .ok (.getfield 22, 3) := by decide +kernel
theorem dX4_copyFrom_12 : decode cX4_copyFrom 12 = .ok (.if_icmp .ge 32, 3) := by decide +kernel
theorem dX4_copyFrom_15 : decode cX4_copyFrom 15 = .ok (.aload_n 0, 1) := by decide +kernel
theorem dX4_copyFrom_16 : decode cX4_copyFrom 16 = .ok (.aload_n 1, 1) := by decide +kernel
theorem dX4_copyFrom_17 : decode cX4_copyFrom 17 = .ok (.getfield 9, 3) := by decide +kernel
theorem dX4_copyFrom_20 : decode cX4_copyFrom 20 = .ok (.iload_n 2, 1) := by decide +kernel
theorem dX4_copyFrom_21 : decode cX4_copyFrom 21 = .ok (.iaload, 1) := by decide +kernel
theorem dX4_copyFrom_22 : decode cX4_copyFrom 22 = .ok (.aload_n 1, 1) := by decide +kernel
theorem dX4_copyFrom_23 : decode cX4_copyFrom 23 = .ok (.getfield 15, 3) := by decide +kernel
theorem dX4_copyFrom_26 : decode cX4_copyFrom 26 = .ok (.iload_n 2, 1) := by decide +kernel
theorem dX4_copyFrom_27 : decode cX4_copyFrom 27 = .ok (.iaload, 1) := by decide +kernel
theorem dX4_copyFrom_28 : decode cX4_copyFrom 28 = .ok (.aload_n 1, 1) := by decide +kernel
theorem dX4_copyFrom_29 : decode cX4_copyFrom 29 = .ok (.getfield 18, 3) := by decide +kernel
theorem dX4_copyFrom_32 : decode cX4_copyFrom 32 = .ok (.iload_n 2, 1) := by decide +kernel
theorem dX4_copyFrom_33 : decode cX4_copyFrom 33 = .ok (.baload, 1) := by decide +kernel
theorem dX4_copyFrom_34 : decode cX4_copyFrom 34 = .ok (.invokevirtual 26, 3) := by decide +kernel
theorem dX4_copyFrom_37 : decode cX4_copyFrom 37 = .ok (.pop, 1) := by decide +kernel
theorem dX4_copyFrom_38 : decode cX4_copyFrom 38 = .ok (.iinc 2 1, 3) := by decide +kernel
theorem dX4_copyFrom_41 : decode cX4_copyFrom 41 = .ok (.goto (-34), 3) := by decide +kernel
theorem dX4_copyFrom_44 : decode cX4_copyFrom 44 = .ok (.return_, 1) := by decide +kernel
theorem dX5_init_0 : decode cX5_init 0 = .ok (.aload_n 0, 1) := by decide +kernel
theorem dX5_init_1 : decode cX5_init 1 = .ok (.invokespecial 3, 3) := by decide +kernel
theorem dX5_init_4 : decode cX5_init 4 = .ok (.aload_n 0, 1) := by decide +kernel
theorem dX5_init_5 : decode cX5_init 5 = .ok (.bipush 40, 2) := by decide +kernel
theorem dX5_init_7 : decode cX5_init 7 = .ok (.newarray .int, 2) := by decide +kernel
theorem dX5_init_9 : decode cX5_init 9 = .ok (.putfield 9, 3) := by decide +kernel
theorem dX5_init_12 : decode cX5_init 12 = .ok (.aload_n 0, 1) := by decide +kernel
theorem dX5_init_13 : decode cX5_init 13 = .ok (.bipush (-4), 2) := by decide +kernel
theorem dX5_init_15 : decode cX5_init 15 = .ok (.putfield 15, 3) := by decide +kernel
theorem dX5_init_18 : decode cX5_init 18 = .ok (.return_, 1) := by decide +kernel
theorem dX5_renew_0 : decode cX5_renew 0 = .ok (.aload_n 0, 1) := by decide +kernel
theorem dX5_renew_1 : decode cX5_renew 1 = .ok (.iload_n 1, 1) := by decide +kernel
theorem dX5_renew_2 : decode cX5_renew 2 = .ok (.putfield 15, 3) := by decide +kernel
theorem dX5_renew_5 : decode cX5_renew 5 = .ok (.aload_n 0, 1) := by decide +kernel
theorem dX5_renew_6 : decode cX5_renew 6 = .ok (.iload_n 2, 1) := by decide +kernel
theorem dX5_renew_7 : decode cX5_renew 7 = .ok (.bipush 40, 2) := by decide +kernel
theorem dX5_renew_9 : decode cX5_renew 9 = .ok (.invokestatic 19, 3) := by decide +kernel
theorem dX5_renew_12 : decode cX5_renew 12 = .ok (.putfield 25, 3) := by decide +kernel
theorem dX5_renew_15 : decode cX5_renew 15 = .ok (.iconst 0, 1) := by decide +kernel
theorem dX5_renew_16 : decode cX5_renew 16 = .ok (.istore_n 3, 1) := by decide +kernel
theorem dX5_renew_17 : decode cX5_renew 17 = .ok (.iload_n 3, 1) := by decide +kernel
theorem dX5_renew_18 : decode cX5_renew 18 = .ok (.bipush 40, 2) := by decide +kernel
theorem dX5_renew_20 : decode cX5_renew 20 = .ok (.if_icmp .ge 16, 3) := by decide +kernel
theorem dX5_renew_23 : decode cX5_renew 23 = .ok (.aload_n 0, 1) := by decide +kernel
theorem dX5_renew_24 : decode cX5_renew 24 = .ok (.getfield 9, 3) := by decide +kernel
theorem dX5_renew_27 : decode cX5_renew 27 = .ok (.iload_n 3, 1) := by decide +kernel
theorem dX5_renew_28 : decode cX5_renew 28 = .ok (.iconst 0, 1) := by decide +kernel
theorem dX5_renew_29 : decode cX5_renew 29 = .ok (.iastore, 1) := by decide +kernel
theorem dX5_renew_30 : decode cX5_renew 30 = .ok (.iinc 3 1, 3) := by decide +kernel
theorem dX5_renew_33 : decode cX5_renew 33 = .ok (.goto (-16), 3) := by decide +kernel
theorem dX5_renew_36 : decode cX5_renew 36 = .ok (.return_, 1) := by decide +kernel
theorem dX5_faultAt_0 : decode cX5_faultAt 0 = .ok (.aload_n 0, 1) := by decide +kernel
theorem dX5_faultAt_1 : decode cX5_faultAt 1 = .ok (.getfield 15, 3) := by decide +kernel
theorem dX5_faultAt_4 : decode cX5_faultAt 4 = .ok (.bipush (-4), 2) := by decide +kernel
theorem dX5_faultAt_6 : decode cX5_faultAt 6 = .ok (.if_icmp .ne 5, 3) := by decide +kernel
theorem dX5_faultAt_9 : decode cX5_faultAt 9 = .ok (.iconst 1, 1) := by decide +kernel
theorem dX5_faultAt_10 : decode cX5_faultAt 10 = .ok (.ireturn, 1) := by decide +kernel
theorem dX5_faultAt_11 : decode cX5_faultAt 11 = .ok (.iload_n 1, 1) := by decide +kernel
theorem dX5_faultAt_12 : decode cX5_faultAt 12 = .ok (.iconst 0, 1) := by decide +kernel
theorem dX5_faultAt_13 : decode cX5_faultAt 13 = .ok (.aload_n 0, 1) := by decide +kernel
theorem dX5_faultAt_14 : decode cX5_faultAt 14 = .ok (.getfield 25, 3) := by decide +kernel
theorem dX5_faultAt_17 : decode cX5_faultAt 17 = .ok (.iconst 1, 1) := by decide +kernel
theorem dX5_faultAt_18 : decode cX5_faultAt 18 = .ok (.isub, 1) := by decide +kernel
theorem dX5_faultAt_19 : decode cX5_faultAt 19 = .ok (.invokestatic 28, 3) := by decide +kernel
theorem dX5_faultAt_22 : decode cX5_faultAt 22 = .ok (.ifCond .eq 7, 3) := by decide +kernel
theorem dX5_faultAt_25 : decode cX5_faultAt 25 = .ok (.iconst 0, 1) := by decide +kernel
theorem dX5_faultAt_26 : decode cX5_faultAt 26 = .ok (.goto 4, 3) := by decide +kernel
theorem dX5_faultAt_29 : decode cX5_faultAt 29 = .ok (.iconst 2, 1) := by decide +kernel
theorem dX5_faultAt_30 : decode cX5_faultAt 30 = .ok (.ireturn, 1) := by decide +kernel
theorem dX5_faultOfThree_0 : decode cX5_faultOfThree 0 = .ok (.aload_n 0, 1) := by decide +kernel
theorem dX5_faultOfThree_1 : decode cX5_faultOfThree 1 = .ok (.getfield 15, 3) := by decide +kernel
theorem dX5_faultOfThree_4 : decode cX5_faultOfThree 4 = .ok (.bipush (-4), 2) := by decide +kernel
theorem dX5_faultOfThree_6 : decode cX5_faultOfThree 6 = .ok (.if_icmp .eq 13, 3) := by decide +kernel
theorem dX5_faultOfThree_9 : decode cX5_faultOfThree 9 = .ok (.aload_n 0, 1) := by decide +kernel
theorem dX5_faultOfThree_10 : decode cX5_faultOfThree 10 = .ok (.getfield 15, 3) := by decide +kernel
theorem dX5_faultOfThree_13 : decode cX5_faultOfThree 13 = .ok (.iload_n 1, 1) := by decide +kernel
theorem dX5_faultOfThree_14 : decode cX5_faultOfThree 14 = .ok (.if_icmp .eq 5, 3) := by decide +kernel
theorem dX5_faultOfThree_17 : decode cX5_faultOfThree 17 = .ok (.iconst 3, 1) := by decide +kernel
theorem dX5_faultOfThree_18 : decode cX5_faultOfThree 18 = .ok (.ireturn, 1) := by decide +kernel
theorem dX5_faultOfThree_19 : decode cX5_faultOfThree 19 = .ok (.aload_n 0, 1) := by decide +kernel
theorem dX5_faultOfThree_20 : decode cX5_faultOfThree 20 = .ok (.iload_n 2, 1) := by decide +kernel
theorem dX5_faultOfThree_21 : decode cX5_faultOfThree 21 = .ok (.invokevirtual 32, 3) := by decide +kernel
theorem dX5_faultOfThree_24 : decode cX5_faultOfThree 24 = .ok (.istore_n 3, 1) := by decide +kernel
theorem dX5_faultOfThree_25 : decode cX5_faultOfThree 25 = .ok (.iload_n 3, 1) := by decide +kernel
theorem dX5_faultOfThree_26 : decode cX5_faultOfThree 26 = .ok (.ifCond .ne 11, 3) := by decide +kernel
theorem dX5_faultOfThree_29 : decode cX5_faultOfThree 29 = .ok (.aload_n 0, 1) := by decide +kernel
theorem dX5_faultOfThree_30 : decode cX5_faultOfThree 30 = .ok (.iload_n 2, 1) := by decide +kernel
theorem dX5_faultOfThree_31 : decode cX5_faultOfThree 31 = .ok (.iconst 1, 1) := by decide +kernel
theorem dX5_faultOfThree_32 : decode cX5_faultOfThree 32 = .ok (.iadd, 1) := by decide +kernel
theorem dX5_faultOfThree_33 : decode cX5_faultOfThree 33 = .ok (.invokevirtual 32, 3) := by decide +kernel
theorem dX5_faultOfThree_36 : decode cX5_faultOfThree 36 = .ok (.istore_n 3, 1) := by decide +kernel
theorem dX5_faultOfThree_37 : decode cX5_faultOfThree 37 = .ok (.iload_n 3, 1) := by decide +kernel
theorem dX5_faultOfThree_38 : decode cX5_faultOfThree 38 = .ok (.ifCond .ne 11, 3) := by decide +kernel
theorem dX5_faultOfThree_41 : decode cX5_faultOfThree 41 = .ok (.aload_n 0, 1) := by decide +kernel
theorem dX5_faultOfThree_42 : decode cX5_faultOfThree 42 = .ok (.iload_n 2, 1) := by decide +kernel
theorem dX5_faultOfThree_43 : decode cX5_faultOfThree 43 = .ok (.iconst 2, 1) := by decide +kernel
theorem dX5_faultOfThree_44 : decode cX5_faultOfThree 44 = .ok (.iadd, 1) := by decide +kernel
theorem dX5_faultOfThree_45 : decode cX5_faultOfThree 45 = .ok (.invokevirtual 32, 3) := by decide +kernel
theorem dX5_faultOfThree_48 : decode cX5_faultOfThree 48 = .ok (.istore_n 3, 1) := by decide +kernel
theorem dX5_faultOfThree_49 : decode cX5_faultOfThree 49 = .ok (.iload_n 3, 1) := by decide +kernel
theorem dX5_faultOfThree_50 : decode cX5_faultOfThree 50 = .ok (.ireturn, 1) := by decide +kernel
theorem dX5_put_0 : decode cX5_put 0 = .ok (.aload_n 0, 1) := by decide +kernel
theorem dX5_put_1 : decode cX5_put 1 = .ok (.iload_n 1, 1) := by decide +kernel
theorem dX5_put_2 : decode cX5_put 2 = .ok (.invokevirtual 32, 3) := by decide +kernel
theorem dX5_put_5 : decode cX5_put 5 = .ok (.ifCond .eq 4, 3) := by decide +kernel
theorem dX5_put_8 : decode cX5_put 8 = .ok (.return_, 1) := by decide +kernel
theorem dX5_put_9 : decode cX5_put 9 = .ok (.aload_n 0, 1) := by decide +kernel
theorem dX5_put_10 : decode cX5_put 10 = .ok (.getfield 15, 3) := by decide +kernel
theorem dX5_put_13 : decode cX5_put 13 = .ok (.ifCond .ne 14, 3) := by decide +kernel
theorem dX5_put_16 : decode cX5_put 16 = .ok (.aload_n 0, 1) := by decide +kernel
theorem dX5_put_17 : decode cX5_put 17 = .ok (.getfield 9, 3) := by decide +kernel
theorem dX5_put_20 : decode cX5_put 20 = .ok (.iload_n 1, 1) := by decide +kernel
theorem dX5_put_21 : decode cX5_put 21 = .ok (.iload_n 2, 1) := by decide +kernel
theorem dX5_put_22 : decode cX5_put 22 = .ok (.i2b, 1) := by decide +kernel
theorem dX5_put_23 : decode cX5_put 23 = .ok (.iastore, 1) := by decide +kernel
theorem dX5_put_24 : decode cX5_put 24 = .ok (.goto 29, 3) := by decide +kernel
theorem dX5_put_27 : decode cX5_put 27 = .ok (.aload_n 0, 1) := by decide +kernel
theorem dX5_put_28 : decode cX5_put 28 = .ok (.getfield 15, 3) := by decide +kernel
theorem dX5_put_31 : decode cX5_put 31 = .ok (.iconst 1, 1) := by decide +kernel
theorem dX5_put_32 : decode cX5_put 32 = .ok (.if_icmp .ne 14, 3) := by decide +kernel
theorem dX5_put_35 : decode cX5_put 35 = .ok (.aload_n 0, 1) := by decide +kernel
theorem dX5_put_36 : decode cX5_put 36 = .ok (.getfield 9, 3) := by decide +kernel
theorem dX5_put_39 : decode cX5_put 39 = .ok (.iload_n 1, 1) := by decide +kernel
theorem dX5_put_40 : decode cX5_put 40 = .ok (.iload_n 2, 1) := by decide +kernel
theorem dX5_put_41 : decode cX5_put 41 = .ok (.i2s, 1) := by decide +kernel
theorem dX5_put_42 : decode cX5_put 42 = .ok (.iastore, 1) := by decide +kernel
theorem dX5_put_43 : decode cX5_put 43 = .ok (.goto 10, 3) := by decide +kernel
theorem dX5_put_46 : decode cX5_put 46 = .ok (.aload_n 0, 1) := by decide +kernel
theorem dX5_put_47 : decode cX5_put 47 = .ok (.getfield 9, 3) := by decide +kernel
theorem dX5_put_50 : decode cX5_put 50 = .ok (.iload_n 1, 1) := by decide +kernel
theorem dX5_put_51 : decode cX5_put 51 = .ok (.iload_n 2, 1) := by decide +kernel
theorem dX5_put_52 : decode cX5_put 52 = .ok (.iastore, 1) := by decide +kernel
theorem dX5_put_53 : decode cX5_put 53 = .ok (.return_, 1) := by decide +kernel
theorem dX6_init_0 : decode cX6_init 0 = .ok (.aload_n 0, 1) := by decide +kernel
theorem dX6_init_1 : decode cX6_init 1 = .ok (.invokespecial 3, 3) := by decide +kernel
theorem dX6_init_4 : decode cX6_init 4 = .ok (.aload_n 0, 1) := by decide +kernel
theorem dX6_init_5 : decode cX6_init 5 = .ok (.bipush 7, 2) := by decide +kernel
theorem dX6_init_7 : decode cX6_init 7 = .ok (.newarray .int, 2) := by decide +kernel
theorem dX6_init_9 : decode cX6_init 9 = .ok (.putfield 9, 3) := by decide +kernel
theorem dX6_init_12 : decode cX6_init 12 = .ok (.aload_n 0, 1) := by decide +kernel
theorem dX6_init_13 : decode cX6_init 13 = .ok (.bipush 24, 2) := by decide +kernel
theorem dX6_init_15 : decode cX6_init 15 = .ok (.newarray .int, 2) := by decide +kernel
theorem dX6_init_17 : decode cX6_init 17 = .ok (.putfield 15, 3) := by decide +kernel
theorem dX6_init_20 : decode cX6_init 20 = .ok (.aload_n 0, 1) := by decide +kernel
theorem dX6_init_21 : decode cX6_init 21 = .ok (.invokevirtual 18, 3) := by decide +kernel
theorem dX6_init_24 : decode cX6_init 24 = .ok (.aload_n 0, 1) := by decide +kernel
theorem dX6_init_25 : decode cX6_init 25 = .ok (.invokevirtual 21, 3) := by decide +kernel
theorem dX6_init_28 : decode cX6_init 28 = .ok (.return_, 1) := by decide +kernel
theorem dX6_begin_0 : decode cX6_begin 0 = .ok (.iconst 0, 1) := by decide +kernel
theorem dX6_begin_1 : decode cX6_begin 1 = .ok (.istore_n 1, 1) := by decide +kernel
theorem dX6_begin_2 : decode cX6_begin 2 = .ok (.iload_n 1, 1) := by decide +kernel
theorem dX6_begin_3 : decode cX6_begin 3 = .ok (.bipush 7, 2) := by decide +kernel
theorem dX6_begin_5 : decode cX6_begin 5 = .ok (.if_icmp .ge 20, 3) := by decide +kernel
theorem dX6_begin_8 : decode cX6_begin 8 = .ok (.aload_n 0, 1) := by decide +kernel
theorem dX6_begin_9 : decode cX6_begin 9 = .ok (.getfield 9, 3) := by decide +kernel
theorem dX6_begin_12 : decode cX6_begin 12 = .ok (.iload_n 1, 1) := by decide +kernel
theorem dX6_begin_13 : decode cX6_begin 13 = .ok (.getstatic 24, 3) := by decide +kernel
theorem dX6_begin_16 : decode cX6_begin 16 = .ok (.iload_n 1, 1) := by decide +kernel
theorem dX6_begin_17 : decode cX6_begin 17 = .ok (.iaload, 1) := by decide +kernel
theorem dX6_begin_18 : decode cX6_begin 18 = .ok (.iastore, 1) := by decide +kernel
theorem dX6_begin_19 : decode cX6_begin 19 = .ok (.iinc 1 1, 3) := by decide +kernel
theorem dX6_begin_22 : decode cX6_begin 22 = .ok (.goto (-20), 3) := by decide +kernel
theorem dX6_begin_25 : decode cX6_begin 25 = .ok (.iconst 0, 1) := by decide +kernel
theorem dX6_begin_26 : decode cX6_begin 26 = .ok (.istore_n 1, 1) := by decide +kernel
theorem dX6_begin_27 : decode cX6_begin 27 = .ok (.iload_n 1, 1) := by decide +kernel
theorem dX6_begin_28 : decode cX6_begin 28 = .ok (.bipush 24, 2) := by decide +kernel
theorem dX6_begin_30 : decode cX6_begin 30 = .ok (.if_icmp .ge 16, 3) := by decide +kernel
theorem dX6_begin_33 : decode cX6_begin 33 = .ok (.aload_n 0, 1) := by decide +kernel
theorem dX6_begin_34 : decode cX6_begin 34 = .ok (.getfield 15, 3) := by decide +kernel
theorem dX6_begin_37 : decode cX6_begin 37 = .ok (.iload_n 1, 1) := by decide +kernel
theorem dX6_begin_38 : decode cX6_begin 38 = .ok (.iconst 0, 1) := by decide +kernel
theorem dX6_begin_39 : decode cX6_begin 39 = .ok (.iastore, 1) := by decide +kernel
theorem dX6_begin_40 : decode cX6_begin 40 = .ok (.iinc 1 1, 3) := by decide +kernel
theorem dX6_begin_43 : decode cX6_begin 43 = .ok (.goto (-16), 3) := by decide +kernel
theorem dX6_begin_46 : decode cX6_begin 46 = .ok (.return_, 1) := by decide +kernel
theorem dX6_fillWarmths_0 : decode cX6_fillWarmths 0 = .ok (.iconst 0, 1) := by decide +kernel
theorem dX6_fillWarmths_1 : decode cX6_fillWarmths 1 = .ok (.istore_n 1, 1) := by decide +kernel
theorem dX6_fillWarmths_2 : decode cX6_fillWarmths 2 = .ok (.iload_n 1, 1) := by decide +kernel
theorem dX6_fillWarmths_3 : decode cX6_fillWarmths 3 = .ok (.bipush 24, 2) := by decide +kernel
theorem dX6_fillWarmths_5 : decode cX6_fillWarmths 5 = .ok (.if_icmp .ge 30, 3) := by decide +kernel
theorem dX6_fillWarmths_8 : decode cX6_fillWarmths 8 = .ok (.aload_n 0, 1) := by decide +kernel
theorem dX6_fillWarmths_9 : decode cX6_fillWarmths 9 = .ok (.getfield 15, 3) := by decide +kernel
theorem dX6_fillWarmths_12 : decode cX6_fillWarmths 12 = .ok (.iload_n 1, 1) := by decide +kernel
theorem dX6_fillWarmths_13 : decode cX6_fillWarmths 13 = .ok (.iaload, 1) := by decide +kernel
theorem dX6_fillWarmths_14 : decode cX6_fillWarmths 14 = .ok (.ifCond .ne 15, 3) := by decide +kernel
theorem dX6_fillWarmths_17 : decode cX6_fillWarmths 17 = .ok (.aload_n 0, 1) := by decide +kernel
theorem dX6_fillWarmths_18 : decode cX6_fillWarmths 18 = .ok (.getfield 15, 3) := by decide +kernel
theorem dX6_fillWarmths_21 : decode cX6_fillWarmths 21 = .ok (.iload_n 1, 1) := by decide +kernel
theorem dX6_fillWarmths_22 : decode cX6_fillWarmths 22 = .ok (.aload_n 0, 1) := by decide +kernel
theorem dX6_fillWarmths_23 : decode cX6_fillWarmths 23 = .ok (.getfield 9, 3) := by decide +kernel
theorem dX6_fillWarmths_26 : decode cX6_fillWarmths 26 = .ok (.iconst 2, 1) := by decide +kernel
theorem dX6_fillWarmths_27 : decode cX6_fillWarmths 27 = .ok (.iaload, 1) := by decide +kernel
theorem dX6_fillWarmths_28 : decode cX6_fillWarmths 28 = .ok (.iastore, 1) := by decide +kernel
theorem dX6_fillWarmths_29 : decode cX6_fillWarmths 29 = .ok (.iinc 1 1, 3) := by decide +kernel
theorem dX6_fillWarmths_32 : decode cX6_fillWarmths 32 = .ok (.goto (-30), 3) := by decide +kernel
theorem dX6_fillWarmths_35 : decode cX6_fillWarmths 35 = .ok (.return_, 1) := by decide +kernel
theorem dX6_copyFrom_0 : decode cX6_copyFrom 0 = .ok (.iconst 0, 1) := by decide +kernel
theorem dX6_copyFrom_1 : decode cX6_copyFrom 1 = .ok (.istore_n 2, 1) := by decide +kernel
theorem dX6_copyFrom_2 : decode cX6_copyFrom 2 = .ok (.iload_n 2, 1) := by decide +kernel
theorem dX6_copyFrom_3 : decode cX6_copyFrom 3 = .ok (.bipush 7, 2) := by decide +kernel
theorem dX6_copyFrom_5 : decode cX6_copyFrom 5 = .ok (.if_icmp .ge 21, 3) := by decide +kernel
theorem dX6_copyFrom_8 : decode cX6_copyFrom 8 = .ok (.aload_n 0, 1) := by decide +kernel
theorem dX6_copyFrom_9 : decode cX6_copyFrom 9 = .ok (.getfield 9, 3) := by decide +kernel
theorem dX6_copyFrom_12 : decode cX6_copyFrom 12 = .ok (.iload_n 2, 1) := by decide +kernel
theorem dX6_copyFrom_13 : decode cX6_copyFrom 13 = .ok (.aload_n 1, 1) := by decide +kernel
theorem dX6_copyFrom_14 : decode cX6_copyFrom 14 = .ok (.getfield 9, 3) := by decide +kernel
theorem dX6_copyFrom_17 : decode cX6_copyFrom 17 = .ok (.iload_n 2, 1) := by decide +kernel
theorem dX6_copyFrom_18 : decode cX6_copyFrom 18 = .ok (.iaload, 1) := by decide +kernel
theorem dX6_copyFrom_19 : decode cX6_copyFrom 19 = .ok (.iastore, 1) := by decide +kernel
theorem dX6_copyFrom_20 : decode cX6_copyFrom 20 = .ok (.iinc 2 1, 3) := by decide +kernel
theorem dX6_copyFrom_23 : decode cX6_copyFrom 23 = .ok (.goto (-21), 3) := by decide +kernel
theorem dX6_copyFrom_26 : decode cX6_copyFrom 26 = .ok (.iconst 0, 1) := by decide +kernel
theorem dX6_copyFrom_27 : decode cX6_copyFrom 27 = .ok (.istore_n 2, 1) := by decide +kernel
theorem dX6_copyFrom_28 : decode cX6_copyFrom 28 = .ok (.iload_n 2, 1) := by decide +kernel
theorem dX6_copyFrom_29 : decode cX6_copyFrom 29 = .ok (.bipush 24, 2) := by decide +kernel
theorem dX6_copyFrom_31 : decode cX6_copyFrom 31 = .ok (.if_icmp .ge 21, 3) := by decide +kernel
theorem dX6_copyFrom_34 : decode cX6_copyFrom 34 = .ok (.aload_n 0, 1) := by decide +kernel
theorem dX6_copyFrom_35 : decode cX6_copyFrom 35 = .ok (.getfield 15, 3) := by decide +kernel
theorem dX6_copyFrom_38 : decode cX6_copyFrom 38 = .ok (.iload_n 2, 1) := by decide +kernel
theorem dX6_copyFrom_39 : decode cX6_copyFrom 39 = .ok (.aload_n 1, 1) := by decide +kernel
theorem dX6_copyFrom_40 : decode cX6_copyFrom 40 = .ok (.getfield 15, 3) := by decide +kernel
theorem dX6_copyFrom_43 : decode cX6_copyFrom 43 = .ok (.iload_n 2, 1) := by decide +kernel
theorem dX6_copyFrom_44 : decode cX6_copyFrom 44 = .ok (.iaload, 1) := by decide +kernel
theorem dX6_copyFrom_45 : decode cX6_copyFrom 45 = .ok (.iastore, 1) := by decide +kernel
theorem dX6_copyFrom_46 : decode cX6_copyFrom 46 = .ok (.iinc 2 1, 3) := by decide +kernel
theorem dX6_copyFrom_49 : decode cX6_copyFrom 49 = .ok (.goto (-21), 3) := by decide +kernel
theorem dX6_copyFrom_52 : decode cX6_copyFrom 52 = .ok (.return_, 1) := by decide +kernel
theorem dX6_floor_0 : decode cX6_floor 0 = .ok (.aload_n 0, 1) := by decide +kernel
theorem dX6_floor_1 : decode cX6_floor 1 = .ok (.getfield 9, 3) := by decide +kernel
theorem dX6_floor_4 : decode cX6_floor 4 = .ok (.iconst 0, 1) := by decide +kernel
theorem dX6_floor_5 : decode cX6_floor 5 = .ok (.iaload, 1) := by decide +kernel
theorem dX6_floor_6 : decode cX6_floor 6 = .ok (.bipush 64, 2) := by decide +kernel
theorem dX6_floor_8 : decode cX6_floor 8 = .ok (.imul, 1) := by decide +kernel
theorem dX6_floor_9 : decode cX6_floor 9 = .ok (.ireturn, 1) := by decide +kernel
theorem dX6_pressAt_0 : decode cX6_pressAt 0 = .ok (.aload_n 0, 1) := by decide +kernel
theorem dX6_pressAt_1 : decode cX6_pressAt 1 = .ok (.getfield 9, 3) := by decide +kernel
theorem dX6_pressAt_4 : decode cX6_pressAt 4 = .ok (.iconst 1, 1) := by decide +kernel
theorem dX6_pressAt_5 : decode cX6_pressAt 5 = .ok (.iaload, 1) := by decide +kernel
theorem dX6_pressAt_6 : decode cX6_pressAt 6 = .ok (.iload_n 2, 1) := by decide +kernel
theorem dX6_pressAt_7 : decode cX6_pressAt 7 = .ok (.iadd, 1) := by decide +kernel
theorem dX6_pressAt_8 : decode cX6_pressAt 8 = .ok (.iload_n 1, 1) := by decide +kernel
theorem dX6_pressAt_9 : decode cX6_pressAt 9 = .ok (.iadd, 1) := by decide +kernel
theorem dX6_pressAt_10 : decode cX6_pressAt 10 = .ok (.ireturn, 1) := by decide +kernel
theorem dX6_lighterAt_0 : decode cX6_lighterAt 0 = .ok (.iload_n 1, 1) := by decide +kernel
theorem dX6_lighterAt_1 : decode cX6_lighterAt 1 = .ok (.aload_n 0, 1) := by decide +kernel
theorem dX6_lighterAt_2 : decode cX6_lighterAt 2 = .ok (.getfield 9, 3) := by decide +kernel
theorem dX6_lighterAt_5 : decode cX6_lighterAt 5 = .ok (.iconst 4, 1) := by decide +kernel
theorem dX6_lighterAt_6 : decode cX6_lighterAt 6 = .ok (.iaload, 1) := by decide +kernel
theorem dX6_lighterAt_7 : decode cX6_lighterAt 7 = .ok (.if_icmp .lt 12, 3) := by decide +kernel
theorem dX6_lighterAt_10 : decode cX6_lighterAt 10 = .ok (.aload_n 0, 1) := by decide +kernel
theorem dX6_lighterAt_11 : decode cX6_lighterAt 11 = .ok (.getfield 9, 3) := by decide +kernel
theorem dX6_lighterAt_14 : decode cX6_lighterAt 14 = .ok (.iconst 5, 1) := by decide +kernel
theorem dX6_lighterAt_15 : decode cX6_lighterAt 15 = .ok (.iaload, 1) := by decide +kernel
theorem dX6_lighterAt_16 : decode cX6_lighterAt 16 = .ok (.goto 4, 3) := by decide +kernel
theorem dX6_lighterAt_19 : decode cX6_lighterAt 19 = .ok (.iconst 0, 1) := by decide +kernel
theorem dX6_lighterAt_20 : decode cX6_lighterAt 20 = .ok (.ireturn, 1) := by decide +kernel
theorem dX6_weight_0 : decode cX6_weight 0 = .ok (.iload_n 2, 1) := by decide +kernel
theorem dX6_weight_1 : decode cX6_weight 1 = .ok (.iload_n 3, 1) := by decide +kernel
theorem dX6_weight_2 : decode cX6_weight 2 = .ok (.imul, 1) := by decide +kernel
theorem dX6_weight_3 : decode cX6_weight 3 = .ok (.aload_n 0, 1) := by decide +kernel
theorem dX6_weight_4 : decode cX6_weight 4 = .ok (.iload 4, 2) := by decide +kernel
theorem dX6_weight_6 : decode cX6_weight 6 = .ok (.iload 5, 2) := by decide +kernel
theorem dX6_weight_8 : decode cX6_weight 8 = .ok (.invokevirtual 27, 3) := by decide +kernel
theorem dX6_weight_11 : decode cX6_weight 11 = .ok (.invokestatic 31, 3) := by decide +kernel
theorem dX6_weight_14 : decode cX6_weight 14 = .ok (.istore 6, 2) := by decide +kernel
theorem dX6_weight_16 : decode cX6_weight 16 = .ok (.iload_n 1, 1) := by decide +kernel
theorem dX6_weight_17 : decode cX6_weight 17 = .ok (.iload 6, 2) := by decide +kernel
theorem dX6_weight_19 : decode cX6_weight 19 = .ok (.isub, 1) := by decide +kernel
theorem dX6_weight_20 : decode cX6_weight 20 = .ok (.aload_n 0, 1) := by decide +kernel
theorem dX6_weight_21 : decode cX6_weight 21 = .ok (.iload 4, 2) := by decide +kernel
theorem dX6_weight_23 : decode cX6_weight 23 = .ok (.invokevirtual 34, 3) := by decide +kernel
theorem dX6_weight_26 : decode cX6_weight 26 = .ok (.isub, 1) := by decide +kernel
theorem dX6_weight_27 : decode cX6_weight 27 = .ok (.ireturn, 1) := by decide +kernel
theorem dX6_leastBubble_0 : decode cX6_leastBubble 0 = .ok (.iload_n 1, 1) := by decide +kernel
theorem dX6_leastBubble_1 : decode cX6_leastBubble 1 = .ok (.ifCond .gt 7, 3) := by decide +kernel
theorem dX6_leastBubble_4 : decode cX6_leastBubble 4 = .ok (.iconst 0, 1) := by decide +kernel
theorem dX6_leastBubble_5 : decode cX6_leastBubble 5 = .ok (.goto 10, 3) := by decide +kernel
theorem dX6_leastBubble_8 : decode cX6_leastBubble 8 = .ok (.iload_n 1, 1) := by decide +kernel
theorem dX6_leastBubble_9 : decode cX6_leastBubble 9 = .ok (.iload_n 3, 1) := by decide +kernel
theorem dX6_leastBubble_10 : decode cX6_leastBubble 10 = .ok (.imul, 1) := by decide +kernel
theorem dX6_leastBubble_11 : decode cX6_leastBubble 11 = .ok (.iload_n 2, 1) := by decide +kernel
theorem dX6_leastBubble_12 : decode cX6_leastBubble 12 = .ok (.invokestatic 38, 3) := by decide +kernel
theorem dX6_leastBubble_15 : decode cX6_leastBubble 15 = .ok (.ireturn, 1) := by decide +kernel
theorem dX7_init_0 : decode cX7_init 0 = .ok (.aload_n 0, 1) := by decide +kernel
theorem dX7_init_1 : decode cX7_init 1 = .ok (.invokespecial 1, 3) := by decide +kernel
theorem dX7_init_4 : decode cX7_init 4 = .ok (.aload_n 0, 1) := by decide +kernel
theorem dX7_init_5 : decode cX7_init 5 = .ok (.new 7, 3) := by decide +kernel
theorem dX7_init_8 : decode cX7_init 8 = .ok (.dup, 1) := by decide +kernel
theorem dX7_init_9 : decode cX7_init 9 = .ok (.invokespecial 9, 3) := by decide +kernel
theorem dX7_init_12 : decode cX7_init 12 = .ok (.putfield 10, 3) := by decide +kernel
theorem dX7_init_15 : decode cX7_init 15 = .ok (.aload_n 0, 1) := by decide +kernel
theorem dX7_init_16 : decode cX7_init 16 = .ok (.new 16, 3) := by decide +kernel
theorem dX7_init_19 : decode cX7_init 19 = .ok (.dup, 1) := by decide +kernel
theorem dX7_init_20 : decode cX7_init 20 = .ok (.invokespecial 18, 3) := by decide +kernel
theorem dX7_init_23 : decode cX7_init 23 = .ok (.putfield 19, 3) := by decide +kernel
theorem dX7_init_26 : decode cX7_init 26 = .ok (.aload_n 0, 1) := by decide +kernel
theorem dX7_init_27 : decode cX7_init 27 = .ok (.new 23, 3) := by decide +kernel
theorem dX7_init_30 : decode cX7_init 30 = .ok (.dup, 1) := by decide +kernel
theorem dX7_init_31 : decode cX7_init 31 = .ok (.invokespecial 25, 3) := by decide +kernel
theorem dX7_init_34 : decode cX7_init 34 = .ok (.putfield 26, 3) := by decide +kernel
theorem dX7_init_37 : decode cX7_init 37 = .ok (.aload_n 0, 1) := by decide +kernel
theorem dX7_init_38 : decode cX7_init 38 = .ok (.iconst 2, 1) := by decide +kernel
theorem dX7_init_39 : decode cX7_init 39 = .ok (.anewarray 23, 3) := by decide +kernel
theorem dX7_init_42 : decode cX7_init 42 = .ok (.putfield 30, 3) := by decide +kernel
theorem dX7_init_45 : decode cX7_init 45 = .ok (.aload_n 0, 1) := by decide +kernel
theorem dX7_init_46 : decode cX7_init 46 = .ok (.iconst 2, 1) := by decide +kernel
theorem dX7_init_47 : decode cX7_init 47 = .ok (.newarray .boolean, 2) := by decide +kernel
theorem dX7_init_49 : decode cX7_init 49 = .ok (.putfield 34, 3) := by decide +kernel
theorem dX7_init_52 : decode cX7_init 52 = .ok (.iconst 0, 1) := by decide +kernel
theorem dX7_init_53 : decode cX7_init 53 = .ok (.istore_n 1, 1) := by decide +kernel
theorem dX7_init_54 : decode cX7_init 54 = .ok (.iload_n 1, 1) := by decide +kernel
theorem dX7_init_55 : decode cX7_init 55 = .ok (.iconst 2, 1) := by decide +kernel
theorem dX7_init_56 : decode cX7_init 56 = .ok (.if_icmp .ge 22, 3) := by decide +kernel
theorem dX7_init_59 : decode cX7_init 59 = .ok (.aload_n 0, 1) := by decide +kernel
theorem dX7_init_60 : decode cX7_init 60 = .ok (.getfield 30, 3) := by decide +kernel
theorem dX7_init_63 : decode cX7_init 63 = .ok (.iload_n 1, 1) := by decide +kernel
theorem dX7_init_64 : decode cX7_init 64 = .ok (.new 23, 3) := by decide +kernel
theorem dX7_init_67 : decode cX7_init 67 = .ok (.dup, 1) := by decide +kernel
theorem dX7_init_68 : decode cX7_init 68 = .ok (.invokespecial 25, 3) := by decide +kernel
theorem dX7_init_71 : decode cX7_init 71 = .ok (.aastore, 1) := by decide +kernel
theorem dX7_init_72 : decode cX7_init 72 = .ok (.iinc 1 1, 3) := by decide +kernel
theorem dX7_init_75 : decode cX7_init 75 = .ok (.goto (-21), 3) := by decide +kernel
theorem dX7_init_78 : decode cX7_init 78 = .ok (.aload_n 0, 1) := by decide +kernel
theorem dX7_init_79 : decode cX7_init 79 = .ok (.iconst 4, 1) := by decide +kernel
theorem dX7_init_80 : decode cX7_init 80 = .ok (.anewarray 38, 3) := by decide +kernel
theorem dX7_init_83 : decode cX7_init 83 = .ok (.putfield 40, 3) := by decide +kernel
theorem dX7_init_86 : decode cX7_init 86 = .ok (.iconst 0, 1) := by decide +kernel
theorem dX7_init_87 : decode cX7_init 87 = .ok (.istore_n 1, 1) := by decide +kernel
theorem dX7_init_88 : decode cX7_init 88 = .ok (.iload_n 1, 1) := by decide +kernel
theorem dX7_init_89 : decode cX7_init 89 = .ok (.iconst 4, 1) := by decide +kernel
theorem dX7_init_90 : decode cX7_init 90 = .ok (.if_icmp .ge 22, 3) := by decide +kernel
theorem dX7_init_93 : decode cX7_init 93 = .ok (.aload_n 0, 1) := by decide +kernel
theorem dX7_init_94 : decode cX7_init 94 = .ok (.getfield 40, 3) := by decide +kernel
theorem dX7_init_97 : decode cX7_init 97 = .ok (.iload_n 1, 1) := by decide +kernel
theorem dX7_init_98 : decode cX7_init 98 = .ok (.new 38, 3) := by decide +kernel
theorem dX7_init_101 : decode cX7_init 101 = .ok (.dup, 1) := by decide +kernel
theorem dX7_init_102 : decode cX7_init 102 = .ok (.invokespecial 44, 3) := by decide +kernel
theorem dX7_init_105 : decode cX7_init 105 = .ok (.aastore, 1) := by decide +kernel
theorem dX7_init_106 : decode cX7_init 106 = .ok (.iinc 1 1, 3) := by decide +kernel
theorem dX7_init_109 : decode cX7_init 109 = .ok (.goto (-21), 3) := by decide +kernel
theorem dX7_init_112 : decode cX7_init 112 = .ok (.aload_n 0, 1) := by decide +kernel
theorem dX7_init_113 : decode cX7_init 113 = .ok (.new 45, 3) := by decide +kernel
theorem dX7_init_116 : decode cX7_init 116 = .ok (.dup, 1) := by decide +kernel
theorem dX7_init_117 : decode cX7_init 117 = .ok (.invokespecial 47, 3) := by decide +kernel
theorem dX7_init_120 : decode cX7_init 120 = .ok (.putfield 48, 3) := by decide +kernel
theorem dX7_init_123 : decode cX7_init 123 = .ok (.aload_n 0, 1) := by decide +kernel
theorem dX7_init_124 : decode cX7_init 124 = .ok (.new 52, 3) := by decide +kernel
theorem dX7_init_127 : decode cX7_init 127 = .ok (.dup, 1) := by decide +kernel
theorem dX7_init_128 : decode cX7_init 128 = .ok (.invokespecial 54, 3) := by decide +kernel
theorem dX7_init_131 : decode cX7_init 131 = .ok (.putfield 55, 3) := by decide +kernel
theorem dX7_init_134 : decode cX7_init 134 = .ok (.aload_n 0, 1) := by decide +kernel
theorem dX7_init_135 : decode cX7_init 135 = .ok (.sipush 501, 3) := by decide +kernel
theorem dX7_init_138 : decode cX7_init 138 = .ok (.newarray .boolean, 2) := by decide +kernel
theorem dX7_init_140 : decode cX7_init 140 = .ok (.putfield 59, 3) := by decide +kernel
theorem dX7_init_143 : decode cX7_init 143 = .ok (.aload_n 0, 1) := by decide +kernel
theorem dX7_init_144 : decode cX7_init 144 = .ok (.getfield 26, 3) := by decide +kernel
theorem dX7_init_147 : decode cX7_init 147 = .ok (.aload_n 0, 1) := by decide +kernel
theorem dX7_init_148 : decode cX7_init 148 = .ok (.getfield 19, 3) := by decide +kernel
theorem dX7_init_151 : decode cX7_init 151 = .ok (.getfield 62, 3) := by decide +kernel
theorem dX7_init_154 : decode cX7_init 154 = .ok (.iconst 2, 1) := by decide +kernel
theorem dX7_init_155 : decode cX7_init 155 = .ok (.iaload, 1) := by decide +kernel
theorem dX7_init_156 : decode cX7_init 156 = .ok (.putfield 66, 3) := by decide +kernel
theorem dX7_init_159 : decode cX7_init 159 = .ok (.return_, 1) := by decide +kernel
theorem dX7_feed_0 : decode cX7_feed 0 = .ok (.aload_n 0, 1) := by decide +kernel
theorem dX7_feed_1 : decode cX7_feed 1 = .ok (.getfield 10, 3) := by decide +kernel
theorem dX7_feed_4 : decode cX7_feed 4 = .ok (.lload_n 1, 1) := by decide +kernel
theorem dX7_feed_5 : decode cX7_feed 5 = .ok (.invokevirtual 70, 3) := by decide +kernel
theorem dX7_feed_8 : decode cX7_feed 8 = .ok (.ifCond .eq 13, 3) := by decide +kernel
theorem dX7_feed_11 : decode cX7_feed 11 = .ok (.aload_n 0, 1) := by decide +kernel
theorem dX7_feed_12 : decode cX7_feed 12 = .ok (.getfield 10, 3) := by decide +kernel
theorem dX7_feed_15 : decode cX7_feed 15 = .ok (.getfield 74, 3) := by decide +kernel
theorem dX7_feed_18 : decode cX7_feed 18 = .ok (.goto 5, 3) := by decide +kernel
theorem dX7_feed_21 : decode cX7_feed 21 = .ok (.bipush (-3), 2) := by decide +kernel
theorem dX7_feed_23 : decode cX7_feed 23 = .ok (.ireturn, 1) := by decide +kernel
theorem dX7_end_0 : decode cX7_end 0 = .ok (.aload_n 0, 1) := by decide +kernel
theorem dX7_end_1 : decode cX7_end 1 = .ok (.getfield 10, 3) := by decide +kernel
theorem dX7_end_4 : decode cX7_end 4 = .ok (.getfield 74, 3) := by decide +kernel
theorem dX7_end_7 : decode cX7_end 7 = .ok (.istore_n 2, 1) := by decide +kernel
theorem dX7_end_8 : decode cX7_end 8 = .ok (.iload_n 1, 1) := by decide +kernel
theorem dX7_end_9 : decode cX7_end 9 = .ok (.iconst 0, 1) := by decide +kernel
theorem dX7_end_10 : decode cX7_end 10 = .ok (.iload_n 2, 1) := by decide +kernel
theorem dX7_end_11 : decode cX7_end 11 = .ok (.invokestatic 77, 3) := by decide +kernel
theorem dX7_end_14 : decode cX7_end 14 = .ok (.ifCond .ne 5, 3) := by decide +kernel
theorem dX7_end_17 : decode cX7_end 17 = .ok (.iconst (-1), 1) := by decide +kernel
theorem dX7_end_18 : decode cX7_end 18 = .ok (.ireturn, 1) := by decide +kernel
theorem dX7_end_19 : decode cX7_end 19 = .ok (.aload_n 0, 1) := by decide +kernel
theorem dX7_end_20 : decode cX7_end 20 = .ok (.getfield 10, 3) := by decide +kernel
theorem dX7_end_23 : decode cX7_end 23 = .ok (.iload_n 1, 1) := by decide +kernel
theorem dX7_end_24 : decode cX7_end 24 = .ok (.putfield 74, 3) := by decide +kernel
theorem dX7_end_27 : decode cX7_end 27 = .ok (.iload_n 2, 1) := by decide +kernel
theorem dX7_end_28 : decode cX7_end 28 = .ok (.ireturn, 1) := by decide +kernel
theorem dX7_text_0 : decode cX7_text 0 = .ok (.aload_n 0, 1) := by decide +kernel
theorem dX7_text_1 : decode cX7_text 1 = .ok (.getfield 10, 3) := by decide +kernel
theorem dX7_text_4 : decode cX7_text 4 = .ok (.invokevirtual 81, 3) := by decide +kernel
theorem dX7_text_7 : decode cX7_text 7 = .ok (.istore_n 1, 1) := by decide +kernel
theorem dX7_text_8 : decode cX7_text 8 = .ok (.aload_n 0, 1) := by decide +kernel
theorem dX7_text_9 : decode cX7_text 9 = .ok (.getfield 10, 3) := by decide +kernel
theorem dX7_text_12 : decode cX7_text 12 = .ok (.iconst 0, 1) := by decide +kernel
theorem dX7_text_13 : decode cX7_text 13 = .ok (.putfield 74, 3) := by decide +kernel
theorem dX7_text_16 : decode cX7_text 16 = .ok (.aload_n 0, 1) := by decide +kernel
theorem dX7_text_17 : decode cX7_text 17 = .ok (.aload_n 0, 1) := by decide +kernel
theorem dX7_text_18 : decode cX7_text 18 = .ok (.getfield 10, 3) := by decide +kernel
theorem dX7_text_21 : decode cX7_text 21 = .ok (.getfield 85, 3) := by decide +kernel
theorem dX7_text_24 : decode cX7_text 24 = .ok (.putfield 88, 3) := by decide +kernel
theorem dX7_text_27 : decode cX7_text 27 = .ok (.iload_n 1, 1) := by decide +kernel
theorem dX7_text_28 : decode cX7_text 28 = .ok (.ifCond .ne 14, 3) := by decide +kernel
theorem dX7_text_31 : decode cX7_text 31 = .ok (.bipush (-10), 2) := by decide +kernel
theorem dX7_text_33 : decode cX7_text 33 = .ok (.aload_n 0, 1) := by decide +kernel
theorem dX7_text_34 : decode cX7_text 34 = .ok (.getfield 10, 3) := by decide +kernel
theorem dX7_text_37 : decode cX7_text 37 = .ok (.getfield 91, 3) := by decide +kernel
theorem dX7_text_40 : decode cX7_text 40 = .ok (.isub, 1) := by decide +kernel
theorem dX7_text_41 : decode cX7_text 41 = .ok (.ireturn, 1) := by decide +kernel
theorem dX7_text_42 : decode cX7_text 42 = .ok (.aload_n 0, 1) := by decide +kernel
theorem dX7_text_43 : decode cX7_text 43 = .ok (.getfield 19, 3) := by decide +kernel
theorem dX7_text_46 : decode cX7_text 46 = .ok (.aload_n 0, 1) := by decide +kernel
theorem dX7_text_47 : decode cX7_text 47 = .ok (.getfield 10, 3) := by decide +kernel
theorem dX7_text_50 : decode cX7_text 50 = .ok (.getfield 94, 3) := by decide +kernel
theorem dX7_text_53 : decode cX7_text 53 = .ok (.invokevirtual 95, 3) := by decide +kernel
theorem dX7_text_56 : decode cX7_text 56 = .ok (.aload_n 0, 1) := by decide +kernel
theorem dX7_text_57 : decode cX7_text 57 = .ok (.getfield 26, 3) := by decide +kernel
theorem dX7_text_60 : decode cX7_text 60 = .ok (.aload_n 0, 1) := by decide +kernel
theorem dX7_text_61 : decode cX7_text 61 = .ok (.getfield 19, 3) := by decide +kernel
theorem dX7_text_64 : decode cX7_text 64 = .ok (.aload_n 0, 1) := by decide +kernel
theorem dX7_text_65 : decode cX7_text 65 = .ok (.getfield 10, 3) := by decide +kernel
theorem dX7_text_68 : decode cX7_text 68 = .ok (.getfield 99, 3) := by decide +kernel
theorem dX7_text_71 : decode cX7_text 71 = .ok (.aload_n 0, 1) := by decide +kernel
theorem dX7_text_72 : decode cX7_text 72 = .ok (.getfield 10, 3) := by decide +kernel
theorem dX7_text_75 : decode cX7_text 75 = .ok (.getfield 103, 3) := by decide +kernel
theorem dX7_text_78 : decode cX7_text 78 = .ok (.invokevirtual 106, 3) := by decide +kernel
theorem dX7_text_81 : decode cX7_text 81 = .ok (.iconst 0, 1) := by decide +kernel
theorem dX7_text_82 : decode cX7_text 82 = .ok (.istore_n 2, 1) := by decide +kernel
theorem dX7_text_83 : decode cX7_text 83 = .ok (.iload_n 2, 1) := by decide +kernel
theorem dX7_text_84 : decode cX7_text 84 = .ok (.iconst 2, 1) := by decide +kernel
theorem dX7_text_85 : decode cX7_text 85 = .ok (.if_icmp .ge 16, 3) := by decide +kernel
theorem dX7_text_88 : decode cX7_text 88 = .ok (.aload_n 0, 1) := by decide +kernel
theorem dX7_text_89 : decode cX7_text 89 = .ok (.getfield 34, 3) := by decide +kernel
theorem dX7_text_92 : decode cX7_text 92 = .ok (.iload_n 2, 1) := by decide +kernel
theorem dX7_text_93 : decode cX7_text 93 = .ok (.iconst 0, 1) := by decide +kernel
theorem dX7_text_94 : decode cX7_text 94 = .ok (.bastore, 1) := by decide +kernel
theorem dX7_text_95 : decode cX7_text 95 = .ok (.iinc 2 1, 3) := by decide +kernel
theorem dX7_text_98 : decode cX7_text 98 = .ok (.goto (-15), 3) := by decide +kernel
theorem dX7_text_101 : decode cX7_text 101 = .ok (.aload_n 0, 1) := by decide +kernel
theorem dX7_text_102 : decode cX7_text 102 = .ok (.getfield 10, 3) := by decide +kernel
theorem dX7_text_105 : decode cX7_text 105 = .ok (.getfield 110, 3) := by decide +kernel
theorem dX7_text_108 : decode cX7_text 108 = .ok (.ireturn, 1) := by decide +kernel
theorem dX7_fault_0 : decode cX7_fault 0 = .ok (.aload_n 0, 1) := by decide +kernel
theorem dX7_fault_1 : decode cX7_fault 1 = .ok (.getfield 88, 3) := by decide +kernel
theorem dX7_fault_4 : decode cX7_fault 4 = .ok (.ireturn, 1) := by decide +kernel
theorem dX7_rule_0 : decode cX7_rule 0 = .ok (.iload_n 1, 1) := by decide +kernel
theorem dX7_rule_1 : decode cX7_rule 1 = .ok (.iconst 2, 1) := by decide +kernel
theorem dX7_rule_2 : decode cX7_rule 2 = .ok (.if_icmp .ne 11, 3) := by decide +kernel
theorem dX7_rule_5 : decode cX7_rule 5 = .ok (.aload_n 0, 1) := by decide +kernel
theorem dX7_rule_6 : decode cX7_rule 6 = .ok (.getfield 26, 3) := by decide +kernel
theorem dX7_rule_9 : decode cX7_rule 9 = .ok (.getfield 66, 3) := by decide +kernel
theorem dX7_rule_12 : decode cX7_rule 12 = .ok (.ireturn, 1) := by decide +kernel
theorem dX7_rule_13 : decode cX7_rule 13 = .ok (.iload_n 1, 1) := by decide +kernel
theorem dX7_rule_14 : decode cX7_rule 14 = .ok (.iconst 0, 1) := by decide +kernel
theorem dX7_rule_15 : decode cX7_rule 15 = .ok (.bipush 6, 2) := by decide +kernel
theorem dX7_rule_17 : decode cX7_rule 17 = .ok (.invokestatic 77, 3) := by decide +kernel
theorem dX7_rule_20 : decode cX7_rule 20 = .ok (.ifCond .eq 13, 3) := by decide +kernel
theorem dX7_rule_23 : decode cX7_rule 23 = .ok (.aload_n 0, 1) := by decide +kernel
theorem dX7_rule_24 : decode cX7_rule 24 = .ok (.getfield 19, 3) := by decide +kernel
theorem dX7_rule_27 : decode cX7_rule 27 = .ok (.getfield 62, 3) := by decide +kernel
theorem dX7_rule_30 : decode cX7_rule 30 = .ok (.iload_n 1, 1) := by decide +kernel
theorem dX7_rule_31 : decode cX7_rule 31 = .ok (.iaload, 1) := by decide +kernel
theorem dX7_rule_32 : decode cX7_rule 32 = .ok (.ireturn, 1) := by decide +kernel
theorem dX7_rule_33 : decode cX7_rule 33 = .ok (.iload_n 1, 1) := by decide +kernel
theorem dX7_rule_34 : decode cX7_rule 34 = .ok (.bipush 10, 2) := by decide +kernel
theorem dX7_rule_36 : decode cX7_rule 36 = .ok (.bipush 33, 2) := by decide +kernel
theorem dX7_rule_38 : decode cX7_rule 38 = .ok (.invokestatic 77, 3) := by decide +kernel
theorem dX7_rule_41 : decode cX7_rule 41 = .ok (.ifCond .eq 16, 3) := by decide +kernel
theorem dX7_rule_44 : decode cX7_rule 44 = .ok (.aload_n 0, 1) := by decide +kernel
theorem dX7_rule_45 : decode cX7_rule 45 = .ok (.getfield 19, 3) := by decide +kernel
theorem dX7_rule_48 : decode cX7_rule 48 = .ok (.getfield 113, 3) := by decide +kernel
theorem dX7_rule_51 : decode cX7_rule 51 = .ok (.iload_n 1, 1) := by decide +kernel
theorem dX7_rule_52 : decode cX7_rule 52 = .ok (.bipush 10, 2) := by decide +kernel
theorem dX7_rule_54 : decode cX7_rule 54 = .ok (.isub, 1) := by decide +kernel
theorem dX7_rule_55 : decode cX7_rule 55 = .ok (.iaload, 1) := by decide +kernel
theorem dX7_rule_56 : decode cX7_rule 56 = .ok (.ireturn, 1) := by decide +kernel
theorem dX7_rule_57 : decode cX7_rule 57 = .ok (.iconst (-1), 1) := by decide +kernel
theorem dX7_rule_58 : decode cX7_rule 58 = .ok (.ireturn, 1) := by decide +kernel
theorem dX7_diver_0 : decode cX7_diver 0 = .ok (.aload_n 0, 1) := by decide +kernel
theorem dX7_diver_1 : decode cX7_diver 1 = .ok (.iload_n 1, 1) := by decide +kernel
theorem dX7_diver_2 : decode cX7_diver 2 = .ok (.invokevirtual 116, 3) := by decide +kernel
theorem dX7_diver_5 : decode cX7_diver 5 = .ok (.ifCond .ne 6, 3) := by decide +kernel
theorem dX7_diver_8 : decode cX7_diver 8 = .ok (.ldc 120, 2) := by decide +kernel
theorem dX7_diver_10 : decode cX7_diver 10 = .ok (.ireturn, 1) := by decide +kernel
theorem dX7_diver_11 : decode cX7_diver 11 = .ok (.aload_n 0, 1) := by decide +kernel
theorem dX7_diver_12 : decode cX7_diver 12 = .ok (.getfield 26, 3) := by decide +kernel
theorem dX7_diver_15 : decode cX7_diver 15 = .ok (.getfield 121, 3) := by decide +kernel
theorem dX7_diver_18 : decode cX7_diver 18 = .ok (.iload_n 1, 1) := by decide +kernel
theorem dX7_diver_19 : decode cX7_diver 19 = .ok (.aaload, 1) := by decide +kernel
theorem dX7_diver_20 : decode cX7_diver 20 = .ok (.astore_n 3, 1) := by decide +kernel
theorem dX7_diver_21 : decode cX7_diver 21 = .ok (.iload_n 2, 1) := by decide +kernel
theorem dX7_diver_22 : decode cX7_diver 22 = .ok (.tableswitch 119 0 9 #[54, 59, 64, 69, 74, 82, 87, 92, 97, 102], 54) := by decide +kernel
theorem dX7_diver_76 : decode cX7_diver 76 = .ok (.aload_n 3, 1) := by decide +kernel
theorem dX7_diver_77 : decode cX7_diver 77 = .ok (.getfield 122, 3) := by decide +kernel
theorem dX7_diver_80 : decode cX7_diver 80 = .ok (.ireturn, 1) := by decide +kernel
theorem dX7_diver_81 : decode cX7_diver 81 = .ok (.aload_n 3, 1) := by decide +kernel
theorem dX7_diver_82 : decode cX7_diver 82 = .ok (.getfield 127, 3) := by decide +kernel
theorem dX7_diver_85 : decode cX7_diver 85 = .ok (.ireturn, 1) := by decide +kernel
theorem dX7_diver_86 : decode cX7_diver 86 = .ok (.aload_n 3, 1) := by decide +kernel
theorem dX7_diver_87 : decode cX7_diver 87 = .ok (.getfield 130, 3) := by decide +kernel
theorem dX7_diver_90 : decode cX7_diver 90 = .ok (.ireturn, 1) := by decide +kernel
theorem dX7_diver_91 : decode cX7_diver 91 = .ok (.aload_n 3, 1) := by decide +kernel
theorem dX7_diver_92 : decode cX7_diver 92 = .ok (.getfield 133, 3) := by decide +kernel
theorem dX7_diver_95 : decode cX7_diver 95 = .ok (.ireturn, 1) := by decide +kernel
theorem dX7_diver_96 : decode cX7_diver 96 = .ok (.aload_n 3, 1) := by decide +kernel
theorem dX7_diver_97 : decode cX7_diver 97 = .ok (.getfield 136, 3) := by decide +kernel
theorem dX7_diver_100 : decode cX7_diver 100 = .ok (.invokestatic 140, 3) := by decide +kernel
theorem dX7_diver_103 : decode cX7_diver 103 = .ok (.ireturn, 1) := by decide +kernel
theorem dX7_diver_104 : decode cX7_diver 104 = .ok (.aload_n 3, 1) := by decide +kernel
theorem dX7_diver_105 : decode cX7_diver 105 = .ok (.getfield 144, 3) := by decide +kernel
theorem dX7_diver_108 : decode cX7_diver 108 = .ok (.ireturn, 1) := by decide +kernel
theorem dX7_diver_109 : decode cX7_diver 109 = .ok (.aload_n 3, 1) := by decide +kernel
theorem dX7_diver_110 : decode cX7_diver 110 = .ok (.invokevirtual 147, 3) := by decide +kernel
theorem dX7_diver_113 : decode cX7_diver 113 = .ok (.ireturn, 1) := by decide +kernel
theorem dX7_diver_114 : decode cX7_diver 114 = .ok (.aload_n 3, 1) := by decide +kernel
theorem dX7_diver_115 : decode cX7_diver 115 = .ok (.getfield 151, 3) := by decide +kernel
theorem dX7_diver_118 : decode cX7_diver 118 = .ok (.ireturn, 1) := by decide +kernel
theorem dX7_diver_119 : decode cX7_diver 119 = .ok (.aload_n 3, 1) := by decide +kernel
theorem dX7_diver_120 : decode cX7_diver 120 = .ok (.getfield 154, 3) := by decide +kernel
theorem dX7_diver_123 : decode cX7_diver 123 = .ok (.ireturn, 1) := by decide +kernel
theorem dX7_diver_124 : decode cX7_diver 124 = .ok (.aload_n 0, 1) := by decide +kernel
theorem dX7_diver_125 : decode cX7_diver 125 = .ok (.aload_n 3, 1) := by decide +kernel
theorem dX7_diver_126 : decode cX7_diver 126 = .ok (.aload_n 3, 1) := by decide +kernel
theorem dX7_diver_127 : decode cX7_diver 127 = .ok (.invokevirtual 147, 3) := by decide +kernel
theorem dX7_diver_130 : decode cX7_diver 130 = .ok (.aload_n 0, 1) := by decide +kernel
theorem dX7_diver_131 : decode cX7_diver 131 = .ok (.getfield 26, 3) := by decide +kernel
theorem dX7_diver_134 : decode cX7_diver 134 = .ok (.getfield 157, 3) := by decide +kernel
theorem dX7_diver_137 : decode cX7_diver 137 = .ok (.invokevirtual 160, 3) := by decide +kernel
theorem dX7_diver_140 : decode cX7_diver 140 = .ok (.ireturn, 1) := by decide +kernel
theorem dX7_diver_141 : decode cX7_diver 141 = .ok (.ldc 120, 2) := by decide +kernel
theorem dX7_diver_143 : decode cX7_diver 143 = .ok (.ireturn, 1) := by decide +kernel
theorem dX7_thumb_0 : decode cX7_thumb 0 = .ok (.iload_n 1, 1) := by decide +kernel
theorem dX7_thumb_1 : decode cX7_thumb 1 = .ok (.invokestatic 164, 3) := by decide +kernel
theorem dX7_thumb_4 : decode cX7_thumb 4 = .ok (.ifCond .ne 5, 3) := by decide +kernel
theorem dX7_thumb_7 : decode cX7_thumb 7 = .ok (.iconst (-1), 1) := by decide +kernel
theorem dX7_thumb_8 : decode cX7_thumb 8 = .ok (.ireturn, 1) := by decide +kernel
theorem dX7_thumb_9 : decode cX7_thumb 9 = .ok (.aload_n 0, 1) := by decide +kernel
theorem dX7_thumb_10 : decode cX7_thumb 10 = .ok (.getfield 26, 3) := by decide +kernel
theorem dX7_thumb_13 : decode cX7_thumb 13 = .ok (.getfield 157, 3) := by decide +kernel
theorem dX7_thumb_16 : decode cX7_thumb 16 = .ok (.istore_n 2, 1) := by decide +kernel
theorem dX7_thumb_17 : decode cX7_thumb 17 = .ok (.aload_n 0, 1) := by decide +kernel
theorem dX7_thumb_18 : decode cX7_thumb 18 = .ok (.getfield 26, 3) := by decide +kernel
theorem dX7_thumb_21 : decode cX7_thumb 21 = .ok (.iload_n 1, 1) := by decide +kernel
theorem dX7_thumb_22 : decode cX7_thumb 22 = .ok (.putfield 157, 3) := by decide +kernel
theorem dX7_thumb_25 : decode cX7_thumb 25 = .ok (.iload_n 2, 1) := by decide +kernel
theorem dX7_thumb_26 : decode cX7_thumb 26 = .ok (.ireturn, 1) := by decide +kernel
theorem dX7_warm_0 : decode cX7_warm 0 = .ok (.iload_n 1, 1) := by decide +kernel
theorem dX7_warm_1 : decode cX7_warm 1 = .ok (.getstatic 167, 3) := by decide +kernel
theorem dX7_warm_4 : decode cX7_warm 4 = .ok (.iconst 2, 1) := by decide +kernel
theorem dX7_warm_5 : decode cX7_warm 5 = .ok (.iaload, 1) := by decide +kernel
theorem dX7_warm_6 : decode cX7_warm 6 = .ok (.getstatic 170, 3) := by decide +kernel
theorem dX7_warm_9 : decode cX7_warm 9 = .ok (.iconst 2, 1) := by decide +kernel
theorem dX7_warm_10 : decode cX7_warm 10 = .ok (.iaload, 1) := by decide +kernel
theorem dX7_warm_11 : decode cX7_warm 11 = .ok (.invokestatic 77, 3) := by decide +kernel
theorem dX7_warm_14 : decode cX7_warm 14 = .ok (.ifCond .ne 5, 3) := by decide +kernel
theorem dX7_warm_17 : decode cX7_warm 17 = .ok (.iconst (-1), 1) := by decide +kernel
theorem dX7_warm_18 : decode cX7_warm 18 = .ok (.ireturn, 1) := by decide +kernel
theorem dX7_warm_19 : decode cX7_warm 19 = .ok (.aload_n 0, 1) := by decide +kernel
theorem dX7_warm_20 : decode cX7_warm 20 = .ok (.getfield 26, 3) := by decide +kernel
theorem dX7_warm_23 : decode cX7_warm 23 = .ok (.getfield 66, 3) := by decide +kernel
theorem dX7_warm_26 : decode cX7_warm 26 = .ok (.istore_n 2, 1) := by decide +kernel
theorem dX7_warm_27 : decode cX7_warm 27 = .ok (.aload_n 0, 1) := by decide +kernel
theorem dX7_warm_28 : decode cX7_warm 28 = .ok (.getfield 26, 3) := by decide +kernel
theorem dX7_warm_31 : decode cX7_warm 31 = .ok (.iload_n 1, 1) := by decide +kernel
theorem dX7_warm_32 : decode cX7_warm 32 = .ok (.putfield 66, 3) := by decide +kernel
theorem dX7_warm_35 : decode cX7_warm 35 = .ok (.iload_n 2, 1) := by decide +kernel
theorem dX7_warm_36 : decode cX7_warm 36 = .ok (.ireturn, 1) := by decide +kernel
theorem dX7_go_0 : decode cX7_go 0 = .ok (.iload_n 1, 1) := by decide +kernel
theorem dX7_go_1 : decode cX7_go 1 = .ok (.iconst 1, 1) := by decide +kernel
theorem dX7_go_2 : decode cX7_go 2 = .ok (.sipush 999, 3) := by decide +kernel
theorem dX7_go_5 : decode cX7_go 5 = .ok (.invokestatic 77, 3) := by decide +kernel
theorem dX7_go_8 : decode cX7_go 8 = .ok (.ifCond .ne 5, 3) := by decide +kernel
theorem dX7_go_11 : decode cX7_go 11 = .ok (.iconst (-1), 1) := by decide +kernel
theorem dX7_go_12 : decode cX7_go 12 = .ok (.ireturn, 1) := by decide +kernel
theorem dX7_go_13 : decode cX7_go 13 = .ok (.iconst 0, 1) := by decide +kernel
theorem dX7_go_14 : decode cX7_go 14 = .ok (.istore_n 2, 1) := by decide +kernel
theorem dX7_go_15 : decode cX7_go 15 = .ok (.iload_n 2, 1) := by decide +kernel
theorem dX7_go_16 : decode cX7_go 16 = .ok (.iload_n 1, 1) := by decide +kernel
theorem dX7_go_17 : decode cX7_go 17 = .ok (.if_icmp .ge 54, 3) := by decide +kernel
theorem dX7_go_20 : decode cX7_go 20 = .ok (.iconst 0, 1) := by decide +kernel
theorem dX7_go_21 : decode cX7_go 21 = .ok (.istore_n 3, 1) := by decide +kernel
theorem dX7_go_22 : decode cX7_go 22 = .ok (.iload_n 3, 1) := by decide +kernel
theorem dX7_go_23 : decode cX7_go 23 = .ok (.aload_n 0, 1) := by decide +kernel
theorem dX7_go_24 : decode cX7_go 24 = .ok (.getfield 26, 3) := by decide +kernel
theorem dX7_go_27 : decode cX7_go 27 = .ok (.getfield 173, 3) := by decide +kernel
theorem dX7_go_30 : decode cX7_go 30 = .ok (.if_icmp .ge 22, 3) := by decide +kernel
theorem dX7_go_33 : decode cX7_go 33 = .ok (.aload_n 0, 1) := by decide +kernel
theorem dX7_go_34 : decode cX7_go 34 = .ok (.aload_n 0, 1) := by decide +kernel
theorem dX7_go_35 : decode cX7_go 35 = .ok (.getfield 26, 3) := by decide +kernel
theorem dX7_go_38 : decode cX7_go 38 = .ok (.getfield 121, 3) := by decide +kernel
theorem dX7_go_41 : decode cX7_go 41 = .ok (.iload_n 3, 1) := by decide +kernel
theorem dX7_go_42 : decode cX7_go 42 = .ok (.aaload, 1) := by decide +kernel
theorem dX7_go_43 : decode cX7_go 43 = .ok (.invokevirtual 174, 3) := by decide +kernel
theorem dX7_go_46 : decode cX7_go 46 = .ok (.iinc 3 1, 3) := by decide +kernel
theorem dX7_go_49 : decode cX7_go 49 = .ok (.goto (-27), 3) := by decide +kernel
theorem dX7_go_52 : decode cX7_go 52 = .ok (.aload_n 0, 1) := by decide +kernel
theorem dX7_go_53 : decode cX7_go 53 = .ok (.getfield 26, 3) := by decide +kernel
theorem dX7_go_56 : decode cX7_go 56 = .ok (.dup, 1) := by decide +kernel
theorem dX7_go_57 : decode cX7_go 57 = .ok (.getfield 178, 3) := by decide +kernel
theorem dX7_go_60 : decode cX7_go 60 = .ok (.iconst 1, 1) := by decide +kernel
theorem dX7_go_61 : decode cX7_go 61 = .ok (.iadd, 1) := by decide +kernel
theorem dX7_go_62 : decode cX7_go 62 = .ok (.putfield 178, 3) := by decide +kernel
theorem dX7_go_65 : decode cX7_go 65 = .ok (.iinc 2 1, 3) := by decide +kernel
theorem dX7_go_68 : decode cX7_go 68 = .ok (.goto (-53), 3) := by decide +kernel
theorem dX7_go_71 : decode cX7_go 71 = .ok (.aload_n 0, 1) := by decide +kernel
theorem dX7_go_72 : decode cX7_go 72 = .ok (.aload_n 0, 1) := by decide +kernel
theorem dX7_go_73 : decode cX7_go 73 = .ok (.getfield 19, 3) := by decide +kernel
theorem dX7_go_76 : decode cX7_go 76 = .ok (.invokevirtual 181, 3) := by decide +kernel
theorem dX7_go_79 : decode cX7_go 79 = .ok (.invokevirtual 184, 3) := by decide +kernel
theorem dX7_go_82 : decode cX7_go 82 = .ok (.ireturn, 1) := by decide +kernel
theorem dX7_set_0 : decode cX7_set 0 = .ok (.aload_n 0, 1) := by decide +kernel
theorem dX7_set_1 : decode cX7_set 1 = .ok (.iload_n 1, 1) := by decide +kernel
theorem dX7_set_2 : decode cX7_set 2 = .ok (.invokevirtual 116, 3) := by decide +kernel
theorem dX7_set_5 : decode cX7_set 5 = .ok (.ifCond .eq 11, 3) := by decide +kernel
theorem dX7_set_8 : decode cX7_set 8 = .ok (.aload_n 0, 1) := by decide +kernel
theorem dX7_set_9 : decode cX7_set 9 = .ok (.iload_n 2, 1) := by decide +kernel
theorem dX7_set_10 : decode cX7_set 10 = .ok (.invokevirtual 188, 3) := by decide +kernel
theorem dX7_set_13 : decode cX7_set 13 = .ok (.ifCond .ne 5, 3) := by decide +kernel
theorem dX7_set_16 : decode cX7_set 16 = .ok (.iconst (-1), 1) := by decide +kernel
theorem dX7_set_17 : decode cX7_set 17 = .ok (.ireturn, 1) := by decide +kernel
theorem dX7_set_18 : decode cX7_set 18 = .ok (.aload_n 0, 1) := by decide +kernel
theorem dX7_set_19 : decode cX7_set 19 = .ok (.getfield 26, 3) := by decide +kernel
theorem dX7_set_22 : decode cX7_set 22 = .ok (.getfield 121, 3) := by decide +kernel
theorem dX7_set_25 : decode cX7_set 25 = .ok (.iload_n 1, 1) := by decide +kernel
theorem dX7_set_26 : decode cX7_set 26 = .ok (.aaload, 1) := by decide +kernel
theorem dX7_set_27 : decode cX7_set 27 = .ok (.astore_n 3, 1) := by decide +kernel
theorem dX7_set_28 : decode cX7_set 28 = .ok (.aload_n 3, 1) := by decide +kernel
theorem dX7_set_29 : decode cX7_set 29 = .ok (.invokevirtual 147, 3) := by decide +kernel
theorem dX7_set_32 : decode cX7_set 32 = .ok (.istore 4, 2) := by decide +kernel
theorem dX7_set_34 : decode cX7_set 34 = .ok (.aload_n 3, 1) := by decide +kernel
theorem dX7_set_35 : decode cX7_set 35 = .ok (.iload_n 2, 1) := by decide +kernel
theorem dX7_set_36 : decode cX7_set 36 = .ok (.bipush 64, 2) := by decide +kernel
theorem dX7_set_38 : decode cX7_set 38 = .ok (.imul, 1) := by decide +kernel
theorem dX7_set_39 : decode cX7_set 39 = .ok (.putfield 151, 3) := by decide +kernel
theorem dX7_set_42 : decode cX7_set 42 = .ok (.aload_n 3, 1) := by decide +kernel
theorem dX7_set_43 : decode cX7_set 43 = .ok (.iconst 0, 1) := by decide +kernel
theorem dX7_set_44 : decode cX7_set 44 = .ok (.putfield 154, 3) := by decide +kernel
theorem dX7_set_47 : decode cX7_set 47 = .ok (.iload 4, 2) := by decide +kernel
theorem dX7_set_49 : decode cX7_set 49 = .ok (.ireturn, 1) := by decide +kernel
theorem dX7_now_0 : decode cX7_now 0 = .ok (.iload_n 1, 1) := by decide +kernel
theorem dX7_now_1 : decode cX7_now 1 = .ok (.tableswitch 92 0 5 #[39, 47, 55, 61, 73, 84], 39) := by decide +kernel
theorem dX7_now_40 : decode cX7_now 40 = .ok (.aload_n 0, 1) := by decide +kernel
theorem dX7_now_41 : decode cX7_now 41 = .ok (.getfield 26, 3) := by decide +kernel
theorem dX7_now_44 : decode cX7_now 44 = .ok (.getfield 178, 3) := by decide +kernel
theorem dX7_now_47 : decode cX7_now 47 = .ok (.ireturn, 1) := by decide +kernel
theorem dX7_now_48 : decode cX7_now 48 = .ok (.aload_n 0, 1) := by decide +kernel
theorem dX7_now_49 : decode cX7_now 49 = .ok (.getfield 26, 3) := by decide +kernel
theorem dX7_now_52 : decode cX7_now 52 = .ok (.getfield 157, 3) := by decide +kernel
theorem dX7_now_55 : decode cX7_now 55 = .ok (.ireturn, 1) := by decide +kernel
theorem dX7_now_56 : decode cX7_now 56 = .ok (.aload_n 0, 1) := by decide +kernel
theorem dX7_now_57 : decode cX7_now 57 = .ok (.iconst 0, 1) := by decide +kernel
theorem dX7_now_58 : decode cX7_now 58 = .ok (.invokevirtual 184, 3) := by decide +kernel
theorem dX7_now_61 : decode cX7_now 61 = .ok (.ireturn, 1) := by decide +kernel
theorem dX7_now_62 : decode cX7_now 62 = .ok (.aload_n 0, 1) := by decide +kernel
theorem dX7_now_63 : decode cX7_now 63 = .ok (.aload_n 0, 1) := by decide +kernel
theorem dX7_now_64 : decode cX7_now 64 = .ok (.getfield 19, 3) := by decide +kernel
theorem dX7_now_67 : decode cX7_now 67 = .ok (.invokevirtual 181, 3) := by decide +kernel
theorem dX7_now_70 : decode cX7_now 70 = .ok (.invokevirtual 184, 3) := by decide +kernel
theorem dX7_now_73 : decode cX7_now 73 = .ok (.ireturn, 1) := by decide +kernel
theorem dX7_now_74 : decode cX7_now 74 = .ok (.aload_n 0, 1) := by decide +kernel
theorem dX7_now_75 : decode cX7_now 75 = .ok (.getfield 26, 3) := by decide +kernel
theorem dX7_now_78 : decode cX7_now 78 = .ok (.getfield 191, 3) := by decide +kernel
theorem dX7_now_81 : decode cX7_now 81 = .ok (.invokestatic 140, 3) := by decide +kernel
theorem dX7_now_84 : decode cX7_now 84 = .ok (.ireturn, 1) := by decide +kernel
theorem dX7_now_85 : decode cX7_now 85 = .ok (.aload_n 0, 1) := by decide +kernel
theorem dX7_now_86 : decode cX7_now 86 = .ok (.getfield 26, 3) := by decide +kernel
theorem dX7_now_89 : decode cX7_now 89 = .ok (.getfield 194, 3) := by decide +kernel
theorem dX7_now_92 : decode cX7_now 92 = .ok (.ireturn, 1) := by decide +kernel
theorem dX7_now_93 : decode cX7_now 93 = .ok (.iconst (-1), 1) := by decide +kernel
theorem dX7_now_94 : decode cX7_now 94 = .ok (.ireturn, 1) := by decide +kernel
theorem dX7_drop_0 : decode cX7_drop 0 = .ok (.aload_n 0, 1) := by decide +kernel
theorem dX7_drop_1 : decode cX7_drop 1 = .ok (.getfield 19, 3) := by decide +kernel
theorem dX7_drop_4 : decode cX7_drop 4 = .ok (.getfield 62, 3) := by decide +kernel
theorem dX7_drop_7 : decode cX7_drop 7 = .ok (.bipush 6, 2) := by decide +kernel
theorem dX7_drop_9 : decode cX7_drop 9 = .ok (.iaload, 1) := by decide +kernel
theorem dX7_drop_10 : decode cX7_drop 10 = .ok (.ifCond .eq 13, 3) := by decide +kernel
theorem dX7_drop_13 : decode cX7_drop 13 = .ok (.aload_n 0, 1) := by decide +kernel
theorem dX7_drop_14 : decode cX7_drop 14 = .ok (.getfield 26, 3) := by decide +kernel
theorem dX7_drop_17 : decode cX7_drop 17 = .ok (.getfield 191, 3) := by decide +kernel
theorem dX7_drop_20 : decode cX7_drop 20 = .ok (.ifCond .eq 5, 3) := by decide +kernel
theorem dX7_drop_23 : decode cX7_drop 23 = .ok (.iconst 0, 1) := by decide +kernel
theorem dX7_drop_24 : decode cX7_drop 24 = .ok (.ireturn, 1) := by decide +kernel
theorem dX7_drop_25 : decode cX7_drop 25 = .ok (.iconst 0, 1) := by decide +kernel
theorem dX7_drop_26 : decode cX7_drop 26 = .ok (.istore_n 1, 1) := by decide +kernel
theorem dX7_drop_27 : decode cX7_drop 27 = .ok (.iload_n 1, 1) := by decide +kernel
theorem dX7_drop_28 : decode cX7_drop 28 = .ok (.aload_n 0, 1) := by decide +kernel
theorem dX7_drop_29 : decode cX7_drop 29 = .ok (.getfield 26, 3) := by decide +kernel
theorem dX7_drop_32 : decode cX7_drop 32 = .ok (.getfield 173, 3) := by decide +kernel
theorem dX7_drop_35 : decode cX7_drop 35 = .ok (.if_icmp .ge 22, 3) := by decide +kernel
theorem dX7_drop_38 : decode cX7_drop 38 = .ok (.aload_n 0, 1) := by decide +kernel
theorem dX7_drop_39 : decode cX7_drop 39 = .ok (.getfield 26, 3) := by decide +kernel
theorem dX7_drop_42 : decode cX7_drop 42 = .ok (.getfield 121, 3) := by decide +kernel
theorem dX7_drop_45 : decode cX7_drop 45 = .ok (.iload_n 1, 1) := by decide +kernel
theorem dX7_drop_46 : decode cX7_drop 46 = .ok (.aaload, 1) := by decide +kernel
theorem dX7_drop_47 : decode cX7_drop 47 = .ok (.iconst 0, 1) := by decide +kernel
theorem dX7_drop_48 : decode cX7_drop 48 = .ok (.putfield 144, 3) := by decide +kernel
theorem dX7_drop_51 : decode cX7_drop 51 = .ok (.iinc 1 1, 3) := by decide +kernel
theorem dX7_drop_54 : decode cX7_drop 54 = .ok (.goto (-27), 3) := by decide +kernel
theorem dX7_drop_57 : decode cX7_drop 57 = .ok (.aload_n 0, 1) := by decide +kernel
theorem dX7_drop_58 : decode cX7_drop 58 = .ok (.getfield 26, 3) := by decide +kernel
theorem dX7_drop_61 : decode cX7_drop 61 = .ok (.iconst 1, 1) := by decide +kernel
theorem dX7_drop_62 : decode cX7_drop 62 = .ok (.putfield 191, 3) := by decide +kernel
theorem dX7_drop_65 : decode cX7_drop 65 = .ok (.iconst 1, 1) := by decide +kernel
theorem dX7_drop_66 : decode cX7_drop 66 = .ok (.ireturn, 1) := by decide +kernel
theorem dX7_press_0 : decode cX7_press 0 = .ok (.aload_n 0, 1) := by decide +kernel
theorem dX7_press_1 : decode cX7_press 1 = .ok (.iload_n 1, 1) := by decide +kernel
theorem dX7_press_2 : decode cX7_press 2 = .ok (.invokevirtual 188, 3) := by decide +kernel
theorem dX7_press_5 : decode cX7_press 5 = .ok (.ifCond .eq 21, 3) := by decide +kernel
theorem dX7_press_8 : decode cX7_press 8 = .ok (.aload_n 0, 1) := by decide +kernel
theorem dX7_press_9 : decode cX7_press 9 = .ok (.getfield 19, 3) := by decide +kernel
theorem dX7_press_12 : decode cX7_press 12 = .ok (.iload_n 1, 1) := by decide +kernel
theorem dX7_press_13 : decode cX7_press 13 = .ok (.aload_n 0, 1) := by decide +kernel
theorem dX7_press_14 : decode cX7_press 14 = .ok (.getfield 26, 3) := by decide +kernel
theorem dX7_press_17 : decode cX7_press 17 = .ok (.getfield 157, 3) := by decide +kernel
theorem dX7_press_20 : decode cX7_press 20 = .ok (.invokevirtual 197, 3) := by decide +kernel
theorem dX7_press_23 : decode cX7_press 23 = .ok (.goto 4, 3) := by decide +kernel
theorem dX7_press_26 : decode cX7_press 26 = .ok (.iconst (-1), 1) := by decide +kernel
theorem dX7_press_27 : decode cX7_press 27 = .ok (.ireturn, 1) := by decide +kernel
theorem dX7_weighs_0 : decode cX7_weighs 0 = .ok (.aload_n 0, 1) := by decide +kernel
theorem dX7_weighs_1 : decode cX7_weighs 1 = .ok (.iload_n 1, 1) := by decide +kernel
theorem dX7_weighs_2 : decode cX7_weighs 2 = .ok (.invokevirtual 116, 3) := by decide +kernel
theorem dX7_weighs_5 : decode cX7_weighs 5 = .ok (.ifCond .eq 18, 3) := by decide +kernel
theorem dX7_weighs_8 : decode cX7_weighs 8 = .ok (.aload_n 0, 1) := by decide +kernel
theorem dX7_weighs_9 : decode cX7_weighs 9 = .ok (.iload_n 2, 1) := by decide +kernel
theorem dX7_weighs_10 : decode cX7_weighs 10 = .ok (.invokevirtual 188, 3) := by decide +kernel
theorem dX7_weighs_13 : decode cX7_weighs 13 = .ok (.ifCond .eq 10, 3) := by decide +kernel
theorem dX7_weighs_16 : decode cX7_weighs 16 = .ok (.iload_n 3, 1) := by decide +kernel
theorem dX7_weighs_17 : decode cX7_weighs 17 = .ok (.invokestatic 164, 3) := by decide +kernel
theorem dX7_weighs_20 : decode cX7_weighs 20 = .ok (.ifCond .ne 6, 3) := by decide +kernel
theorem dX7_weighs_23 : decode cX7_weighs 23 = .ok (.ldc 120, 2) := by decide +kernel
theorem dX7_weighs_25 : decode cX7_weighs 25 = .ok (.ireturn, 1) := by decide +kernel
theorem dX7_weighs_26 : decode cX7_weighs 26 = .ok (.aload_n 0, 1) := by decide +kernel
theorem dX7_weighs_27 : decode cX7_weighs 27 = .ok (.aload_n 0, 1) := by decide +kernel
theorem dX7_weighs_28 : decode cX7_weighs 28 = .ok (.getfield 26, 3) := by decide +kernel
theorem dX7_weighs_31 : decode cX7_weighs 31 = .ok (.getfield 121, 3) := by decide +kernel
theorem dX7_weighs_34 : decode cX7_weighs 34 = .ok (.iload_n 1, 1) := by decide +kernel
theorem dX7_weighs_35 : decode cX7_weighs 35 = .ok (.aaload, 1) := by decide +kernel
theorem dX7_weighs_36 : decode cX7_weighs 36 = .ok (.iload_n 2, 1) := by decide +kernel
theorem dX7_weighs_37 : decode cX7_weighs 37 = .ok (.iload_n 3, 1) := by decide +kernel
theorem dX7_weighs_38 : decode cX7_weighs 38 = .ok (.invokevirtual 160, 3) := by decide +kernel
theorem dX7_weighs_41 : decode cX7_weighs 41 = .ok (.ireturn, 1) := by decide +kernel
theorem dX7_turning_0 : decode cX7_turning 0 = .ok (.aload_n 0, 1) := by decide +kernel
theorem dX7_turning_1 : decode cX7_turning 1 = .ok (.iload_n 1, 1) := by decide +kernel
theorem dX7_turning_2 : decode cX7_turning 2 = .ok (.invokevirtual 116, 3) := by decide +kernel
theorem dX7_turning_5 : decode cX7_turning 5 = .ok (.ifCond .eq 10, 3) := by decide +kernel
theorem dX7_turning_8 : decode cX7_turning 8 = .ok (.iload_n 2, 1) := by decide +kernel
theorem dX7_turning_9 : decode cX7_turning 9 = .ok (.invokestatic 164, 3) := by decide +kernel
theorem dX7_turning_12 : decode cX7_turning 12 = .ok (.ifCond .ne 5, 3) := by decide +kernel
theorem dX7_turning_15 : decode cX7_turning 15 = .ok (.iconst (-1), 1) := by decide +kernel
theorem dX7_turning_16 : decode cX7_turning 16 = .ok (.ireturn, 1) := by decide +kernel
theorem dX7_turning_17 : decode cX7_turning 17 = .ok (.iconst 0, 1) := by decide +kernel
theorem dX7_turning_18 : decode cX7_turning 18 = .ok (.istore_n 3, 1) := by decide +kernel
theorem dX7_turning_19 : decode cX7_turning 19 = .ok (.iload_n 3, 1) := by decide +kernel
theorem dX7_turning_20 : decode cX7_turning 20 = .ok (.aload_n 0, 1) := by decide +kernel
theorem dX7_turning_21 : decode cX7_turning 21 = .ok (.getfield 19, 3) := by decide +kernel
theorem dX7_turning_24 : decode cX7_turning 24 = .ok (.getfield 62, 3) := by decide +kernel
theorem dX7_turning_27 : decode cX7_turning 27 = .ok (.iconst 0, 1) := by decide +kernel
theorem dX7_turning_28 : decode cX7_turning 28 = .ok (.iaload, 1) := by decide +kernel
theorem dX7_turning_29 : decode cX7_turning 29 = .ok (.if_icmp .gt 29, 3) := by decide +kernel
theorem dX7_turning_32 : decode cX7_turning 32 = .ok (.aload_n 0, 1) := by decide +kernel
theorem dX7_turning_33 : decode cX7_turning 33 = .ok (.aload_n 0, 1) := by decide +kernel
theorem dX7_turning_34 : decode cX7_turning 34 = .ok (.getfield 26, 3) := by decide +kernel
theorem dX7_turning_37 : decode cX7_turning 37 = .ok (.getfield 121, 3) := by decide +kernel
theorem dX7_turning_40 : decode cX7_turning 40 = .ok (.iload_n 1, 1) := by decide +kernel
theorem dX7_turning_41 : decode cX7_turning 41 = .ok (.aaload, 1) := by decide +kernel
theorem dX7_turning_42 : decode cX7_turning 42 = .ok (.iload_n 3, 1) := by decide +kernel
theorem dX7_turning_43 : decode cX7_turning 43 = .ok (.iload_n 2, 1) := by decide +kernel
theorem dX7_turning_44 : decode cX7_turning 44 = .ok (.invokevirtual 160, 3) := by decide +kernel
theorem dX7_turning_47 : decode cX7_turning 47 = .ok (.ifCond .lt 5, 3) := by decide +kernel
theorem dX7_turning_50 : decode cX7_turning 50 = .ok (.iload_n 3, 1) := by decide +kernel
theorem dX7_turning_51 : decode cX7_turning 51 = .ok (.ireturn, 1) := by decide +kernel
theorem dX7_turning_52 : decode cX7_turning 52 = .ok (.iinc 3 1, 3) := by decide +kernel
theorem dX7_turning_55 : decode cX7_turning 55 = .ok (.goto (-36), 3) := by decide +kernel
theorem dX7_turning_58 : decode cX7_turning 58 = .ok (.bipush (-4), 2) := by decide +kernel
theorem dX7_turning_60 : decode cX7_turning 60 = .ok (.ireturn, 1) := by decide +kernel
theorem dX7_holding_0 : decode cX7_holding 0 = .ok (.aload_n 0, 1) := by decide +kernel
theorem dX7_holding_1 : decode cX7_holding 1 = .ok (.iload_n 1, 1) := by decide +kernel
theorem dX7_holding_2 : decode cX7_holding 2 = .ok (.invokevirtual 116, 3) := by decide +kernel
theorem dX7_holding_5 : decode cX7_holding 5 = .ok (.ifCond .eq 10, 3) := by decide +kernel
theorem dX7_holding_8 : decode cX7_holding 8 = .ok (.iload_n 2, 1) := by decide +kernel
theorem dX7_holding_9 : decode cX7_holding 9 = .ok (.invokestatic 164, 3) := by decide +kernel
theorem dX7_holding_12 : decode cX7_holding 12 = .ok (.ifCond .ne 5, 3) := by decide +kernel
theorem dX7_holding_15 : decode cX7_holding 15 = .ok (.iconst (-1), 1) := by decide +kernel
theorem dX7_holding_16 : decode cX7_holding 16 = .ok (.ireturn, 1) := by decide +kernel
theorem dX7_holding_17 : decode cX7_holding 17 = .ok (.aload_n 0, 1) := by decide +kernel
theorem dX7_holding_18 : decode cX7_holding 18 = .ok (.aload_n 0, 1) := by decide +kernel
theorem dX7_holding_19 : decode cX7_holding 19 = .ok (.getfield 26, 3) := by decide +kernel
theorem dX7_holding_22 : decode cX7_holding 22 = .ok (.getfield 121, 3) := by decide +kernel
theorem dX7_holding_25 : decode cX7_holding 25 = .ok (.iload_n 1, 1) := by decide +kernel
theorem dX7_holding_26 : decode cX7_holding 26 = .ok (.aaload, 1) := by decide +kernel
theorem dX7_holding_27 : decode cX7_holding 27 = .ok (.iconst 0, 1) := by decide +kernel
theorem dX7_holding_28 : decode cX7_holding 28 = .ok (.iload_n 2, 1) := by decide +kernel
theorem dX7_holding_29 : decode cX7_holding 29 = .ok (.invokevirtual 160, 3) := by decide +kernel
theorem dX7_holding_32 : decode cX7_holding 32 = .ok (.istore_n 3, 1) := by decide +kernel
theorem dX7_holding_33 : decode cX7_holding 33 = .ok (.iconst 1, 1) := by decide +kernel
theorem dX7_holding_34 : decode cX7_holding 34 = .ok (.istore 4, 2) := by decide +kernel
theorem dX7_holding_36 : decode cX7_holding 36 = .ok (.iload 4, 2) := by decide +kernel
theorem dX7_holding_38 : decode cX7_holding 38 = .ok (.aload_n 0, 1) := by decide +kernel
theorem dX7_holding_39 : decode cX7_holding 39 = .ok (.getfield 19, 3) := by decide +kernel
theorem dX7_holding_42 : decode cX7_holding 42 = .ok (.getfield 62, 3) := by decide +kernel
theorem dX7_holding_45 : decode cX7_holding 45 = .ok (.iconst 0, 1) := by decide +kernel
theorem dX7_holding_46 : decode cX7_holding 46 = .ok (.iaload, 1) := by decide +kernel
theorem dX7_holding_47 : decode cX7_holding 47 = .ok (.if_icmp .gt 42, 3) := by decide +kernel
theorem dX7_holding_50 : decode cX7_holding 50 = .ok (.aload_n 0, 1) := by decide +kernel
theorem dX7_holding_51 : decode cX7_holding 51 = .ok (.aload_n 0, 1) := by decide +kernel
theorem dX7_holding_52 : decode cX7_holding 52 = .ok (.getfield 26, 3) := by decide +kernel
theorem dX7_holding_55 : decode cX7_holding 55 = .ok (.getfield 121, 3) := by decide +kernel
theorem dX7_holding_58 : decode cX7_holding 58 = .ok (.iload_n 1, 1) := by decide +kernel
end
section
theorem dX7_holding_59 : decode cX7_holding 59 = .ok (.aaload, 1) := by decide +kernel
theorem dX7_holding_60 : decode cX7_holding 60 = .ok (.iload 4, 2) := by decide +kernel
theorem dX7_holding_62 : decode cX7_holding 62 = .ok (.iload_n 2, 1) := by decide +kernel
theorem dX7_holding_63 : decode cX7_holding 63 = .ok (.invokevirtual 160, 3) := by decide +kernel
theorem dX7_holding_66 : decode cX7_holding 66 = .ok (.istore 5, 2) := by decide +kernel
theorem dX7_holding_68 : decode cX7_holding 68 = .ok (.iload 5, 2) := by decide +kernel
theorem dX7_holding_70 : decode cX7_holding 70 = .ok (.ifCond .gt 10, 3) := by decide +kernel
theorem dX7_holding_73 : decode cX7_holding 73 = .ok (.iload_n 3, 1) := by decide +kernel
theorem dX7_holding_74 : decode cX7_holding 74 = .ok (.ifCond .le 6, 3) := by decide +kernel
theorem dX7_holding_77 : decode cX7_holding 77 = .ok (.iload 4, 2) := by decide +kernel
theorem dX7_holding_79 : decode cX7_holding 79 = .ok (.ireturn, 1) := by decide +kernel
theorem dX7_holding_80 : decode cX7_holding 80 = .ok (.iload 5, 2) := by decide +kernel
theorem dX7_holding_82 : decode cX7_holding 82 = .ok (.istore_n 3, 1) := by decide +kernel
theorem dX7_holding_83 : decode cX7_holding 83 = .ok (.iinc 4 1, 3) := by decide +kernel
theorem dX7_holding_86 : decode cX7_holding 86 = .ok (.goto (-50), 3) := by decide +kernel
theorem dX7_holding_89 : decode cX7_holding 89 = .ok (.bipush (-4), 2) := by decide +kernel
theorem dX7_holding_91 : decode cX7_holding 91 = .ok (.ireturn, 1) := by decide +kernel
theorem dX7_back_0 : decode cX7_back 0 = .ok (.aload_n 0, 1) := by decide +kernel
theorem dX7_back_1 : decode cX7_back 1 = .ok (.iload_n 1, 1) := by decide +kernel
theorem dX7_back_2 : decode cX7_back 2 = .ok (.invokevirtual 116, 3) := by decide +kernel
theorem dX7_back_5 : decode cX7_back 5 = .ok (.ifCond .ne 5, 3) := by decide +kernel
theorem dX7_back_8 : decode cX7_back 8 = .ok (.iconst (-1), 1) := by decide +kernel
theorem dX7_back_9 : decode cX7_back 9 = .ok (.ireturn, 1) := by decide +kernel
theorem dX7_back_10 : decode cX7_back 10 = .ok (.bipush (-4), 2) := by decide +kernel
theorem dX7_back_12 : decode cX7_back 12 = .ok (.istore_n 2, 1) := by decide +kernel
theorem dX7_back_13 : decode cX7_back 13 = .ok (.iconst 0, 1) := by decide +kernel
theorem dX7_back_14 : decode cX7_back 14 = .ok (.istore_n 3, 1) := by decide +kernel
theorem dX7_back_15 : decode cX7_back 15 = .ok (.iload_n 3, 1) := by decide +kernel
theorem dX7_back_16 : decode cX7_back 16 = .ok (.aload_n 0, 1) := by decide +kernel
theorem dX7_back_17 : decode cX7_back 17 = .ok (.getfield 19, 3) := by decide +kernel
theorem dX7_back_20 : decode cX7_back 20 = .ok (.getfield 62, 3) := by decide +kernel
theorem dX7_back_23 : decode cX7_back 23 = .ok (.iconst 0, 1) := by decide +kernel
theorem dX7_back_24 : decode cX7_back 24 = .ok (.iaload, 1) := by decide +kernel
theorem dX7_back_25 : decode cX7_back 25 = .ok (.if_icmp .gt 31, 3) := by decide +kernel
theorem dX7_back_28 : decode cX7_back 28 = .ok (.aload_n 0, 1) := by decide +kernel
theorem dX7_back_29 : decode cX7_back 29 = .ok (.aload_n 0, 1) := by decide +kernel
theorem dX7_back_30 : decode cX7_back 30 = .ok (.getfield 26, 3) := by decide +kernel
theorem dX7_back_33 : decode cX7_back 33 = .ok (.getfield 121, 3) := by decide +kernel
theorem dX7_back_36 : decode cX7_back 36 = .ok (.iload_n 1, 1) := by decide +kernel
theorem dX7_back_37 : decode cX7_back 37 = .ok (.aaload, 1) := by decide +kernel
theorem dX7_back_38 : decode cX7_back 38 = .ok (.iload_n 3, 1) := by decide +kernel
theorem dX7_back_39 : decode cX7_back 39 = .ok (.iconst 0, 1) := by decide +kernel
theorem dX7_back_40 : decode cX7_back 40 = .ok (.invokevirtual 160, 3) := by decide +kernel
theorem dX7_back_43 : decode cX7_back 43 = .ok (.ifCond .lt 5, 3) := by decide +kernel
theorem dX7_back_46 : decode cX7_back 46 = .ok (.iload_n 2, 1) := by decide +kernel
theorem dX7_back_47 : decode cX7_back 47 = .ok (.ireturn, 1) := by decide +kernel
theorem dX7_back_48 : decode cX7_back 48 = .ok (.iload_n 3, 1) := by decide +kernel
theorem dX7_back_49 : decode cX7_back 49 = .ok (.istore_n 2, 1) := by decide +kernel
theorem dX7_back_50 : decode cX7_back 50 = .ok (.iinc 3 1, 3) := by decide +kernel
theorem dX7_back_53 : decode cX7_back 53 = .ok (.goto (-38), 3) := by decide +kernel
theorem dX7_back_56 : decode cX7_back 56 = .ok (.iload_n 2, 1) := by decide +kernel
theorem dX7_back_57 : decode cX7_back 57 = .ok (.ireturn, 1) := by decide +kernel
theorem dX7_goesAt_0 : decode cX7_goesAt 0 = .ok (.aload_n 0, 1) := by decide +kernel
theorem dX7_goesAt_1 : decode cX7_goesAt 1 = .ok (.iload_n 1, 1) := by decide +kernel
theorem dX7_goesAt_2 : decode cX7_goesAt 2 = .ok (.invokevirtual 116, 3) := by decide +kernel
theorem dX7_goesAt_5 : decode cX7_goesAt 5 = .ok (.ifCond .eq 11, 3) := by decide +kernel
theorem dX7_goesAt_8 : decode cX7_goesAt 8 = .ok (.aload_n 0, 1) := by decide +kernel
theorem dX7_goesAt_9 : decode cX7_goesAt 9 = .ok (.iload_n 1, 1) := by decide +kernel
theorem dX7_goesAt_10 : decode cX7_goesAt 10 = .ok (.invokevirtual 201, 3) := by decide +kernel
theorem dX7_goesAt_13 : decode cX7_goesAt 13 = .ok (.goto 4, 3) := by decide +kernel
theorem dX7_goesAt_16 : decode cX7_goesAt 16 = .ok (.iconst (-1), 1) := by decide +kernel
theorem dX7_goesAt_17 : decode cX7_goesAt 17 = .ok (.ireturn, 1) := by decide +kernel
theorem dX7_order_0 : decode cX7_order 0 = .ok (.iconst 0, 1) := by decide +kernel
theorem dX7_order_1 : decode cX7_order 1 = .ok (.istore_n 2, 1) := by decide +kernel
theorem dX7_order_2 : decode cX7_order 2 = .ok (.iload_n 2, 1) := by decide +kernel
theorem dX7_order_3 : decode cX7_order 3 = .ok (.aload_n 0, 1) := by decide +kernel
theorem dX7_order_4 : decode cX7_order 4 = .ok (.getfield 26, 3) := by decide +kernel
theorem dX7_order_7 : decode cX7_order 7 = .ok (.getfield 173, 3) := by decide +kernel
theorem dX7_order_10 : decode cX7_order 10 = .ok (.if_icmp .ge 20, 3) := by decide +kernel
theorem dX7_order_13 : decode cX7_order 13 = .ok (.aload_n 0, 1) := by decide +kernel
theorem dX7_order_14 : decode cX7_order 14 = .ok (.iload_n 2, 1) := by decide +kernel
theorem dX7_order_15 : decode cX7_order 15 = .ok (.invokevirtual 204, 3) := by decide +kernel
theorem dX7_order_18 : decode cX7_order 18 = .ok (.iload_n 1, 1) := by decide +kernel
theorem dX7_order_19 : decode cX7_order 19 = .ok (.if_icmp .ne 5, 3) := by decide +kernel
theorem dX7_order_22 : decode cX7_order 22 = .ok (.iload_n 2, 1) := by decide +kernel
theorem dX7_order_23 : decode cX7_order 23 = .ok (.ireturn, 1) := by decide +kernel
theorem dX7_order_24 : decode cX7_order 24 = .ok (.iinc 2 1, 3) := by decide +kernel
theorem dX7_order_27 : decode cX7_order 27 = .ok (.goto (-25), 3) := by decide +kernel
theorem dX7_order_30 : decode cX7_order 30 = .ok (.iconst (-1), 1) := by decide +kernel
theorem dX7_order_31 : decode cX7_order 31 = .ok (.ireturn, 1) := by decide +kernel
theorem dX7_apart_0 : decode cX7_apart 0 = .ok (.bipush (-4), 2) := by decide +kernel
theorem dX7_apart_2 : decode cX7_apart 2 = .ok (.istore_n 1, 1) := by decide +kernel
theorem dX7_apart_3 : decode cX7_apart 3 = .ok (.iconst 1, 1) := by decide +kernel
theorem dX7_apart_4 : decode cX7_apart 4 = .ok (.istore_n 2, 1) := by decide +kernel
theorem dX7_apart_5 : decode cX7_apart 5 = .ok (.iload_n 2, 1) := by decide +kernel
theorem dX7_apart_6 : decode cX7_apart 6 = .ok (.aload_n 0, 1) := by decide +kernel
theorem dX7_apart_7 : decode cX7_apart 7 = .ok (.getfield 26, 3) := by decide +kernel
theorem dX7_apart_10 : decode cX7_apart 10 = .ok (.getfield 173, 3) := by decide +kernel
theorem dX7_apart_13 : decode cX7_apart 13 = .ok (.if_icmp .ge 76, 3) := by decide +kernel
theorem dX7_apart_16 : decode cX7_apart 16 = .ok (.iconst 0, 1) := by decide +kernel
theorem dX7_apart_17 : decode cX7_apart 17 = .ok (.istore_n 3, 1) := by decide +kernel
theorem dX7_apart_18 : decode cX7_apart 18 = .ok (.iload_n 3, 1) := by decide +kernel
theorem dX7_apart_19 : decode cX7_apart 19 = .ok (.iload_n 2, 1) := by decide +kernel
theorem dX7_apart_20 : decode cX7_apart 20 = .ok (.if_icmp .ge 63, 3) := by decide +kernel
theorem dX7_apart_23 : decode cX7_apart 23 = .ok (.aload_n 0, 1) := by decide +kernel
theorem dX7_apart_24 : decode cX7_apart 24 = .ok (.iload_n 2, 1) := by decide +kernel
theorem dX7_apart_25 : decode cX7_apart 25 = .ok (.invokevirtual 201, 3) := by decide +kernel
theorem dX7_apart_28 : decode cX7_apart 28 = .ok (.bipush (-4), 2) := by decide +kernel
theorem dX7_apart_30 : decode cX7_apart 30 = .ok (.if_icmp .eq 47, 3) := by decide +kernel
theorem dX7_apart_33 : decode cX7_apart 33 = .ok (.aload_n 0, 1) := by decide +kernel
theorem dX7_apart_34 : decode cX7_apart 34 = .ok (.iload_n 3, 1) := by decide +kernel
theorem dX7_apart_35 : decode cX7_apart 35 = .ok (.invokevirtual 201, 3) := by decide +kernel
theorem dX7_apart_38 : decode cX7_apart 38 = .ok (.bipush (-4), 2) := by decide +kernel
theorem dX7_apart_40 : decode cX7_apart 40 = .ok (.if_icmp .ne 6, 3) := by decide +kernel
theorem dX7_apart_43 : decode cX7_apart 43 = .ok (.goto 34, 3) := by decide +kernel
theorem dX7_apart_46 : decode cX7_apart 46 = .ok (.aload_n 0, 1) := by decide +kernel
theorem dX7_apart_47 : decode cX7_apart 47 = .ok (.iload_n 2, 1) := by decide +kernel
theorem dX7_apart_48 : decode cX7_apart 48 = .ok (.invokevirtual 201, 3) := by decide +kernel
theorem dX7_apart_51 : decode cX7_apart 51 = .ok (.aload_n 0, 1) := by decide +kernel
theorem dX7_apart_52 : decode cX7_apart 52 = .ok (.iload_n 3, 1) := by decide +kernel
theorem dX7_apart_53 : decode cX7_apart 53 = .ok (.invokevirtual 201, 3) := by decide +kernel
theorem dX7_apart_56 : decode cX7_apart 56 = .ok (.isub, 1) := by decide +kernel
theorem dX7_apart_57 : decode cX7_apart 57 = .ok (.invokestatic 207, 3) := by decide +kernel
theorem dX7_apart_60 : decode cX7_apart 60 = .ok (.istore 4, 2) := by decide +kernel
theorem dX7_apart_62 : decode cX7_apart 62 = .ok (.iload_n 1, 1) := by decide +kernel
theorem dX7_apart_63 : decode cX7_apart 63 = .ok (.bipush (-4), 2) := by decide +kernel
theorem dX7_apart_65 : decode cX7_apart 65 = .ok (.if_icmp .eq 9, 3) := by decide +kernel
theorem dX7_apart_68 : decode cX7_apart 68 = .ok (.iload 4, 2) := by decide +kernel
theorem dX7_apart_70 : decode cX7_apart 70 = .ok (.iload_n 1, 1) := by decide +kernel
theorem dX7_apart_71 : decode cX7_apart 71 = .ok (.if_icmp .ge 6, 3) := by decide +kernel
theorem dX7_apart_74 : decode cX7_apart 74 = .ok (.iload 4, 2) := by decide +kernel
theorem dX7_apart_76 : decode cX7_apart 76 = .ok (.istore_n 1, 1) := by decide +kernel
theorem dX7_apart_77 : decode cX7_apart 77 = .ok (.iinc 3 1, 3) := by decide +kernel
theorem dX7_apart_80 : decode cX7_apart 80 = .ok (.goto (-62), 3) := by decide +kernel
theorem dX7_apart_83 : decode cX7_apart 83 = .ok (.iinc 2 1, 3) := by decide +kernel
theorem dX7_apart_86 : decode cX7_apart 86 = .ok (.goto (-81), 3) := by decide +kernel
theorem dX7_apart_89 : decode cX7_apart 89 = .ok (.iload_n 1, 1) := by decide +kernel
theorem dX7_apart_90 : decode cX7_apart 90 = .ok (.ireturn, 1) := by decide +kernel
theorem dX7_lifts_0 : decode cX7_lifts 0 = .ok (.aload_n 0, 1) := by decide +kernel
theorem dX7_lifts_1 : decode cX7_lifts 1 = .ok (.iload_n 1, 1) := by decide +kernel
theorem dX7_lifts_2 : decode cX7_lifts 2 = .ok (.invokevirtual 116, 3) := by decide +kernel
theorem dX7_lifts_5 : decode cX7_lifts 5 = .ok (.ifCond .ne 5, 3) := by decide +kernel
theorem dX7_lifts_8 : decode cX7_lifts 8 = .ok (.iconst (-1), 1) := by decide +kernel
theorem dX7_lifts_9 : decode cX7_lifts 9 = .ok (.ireturn, 1) := by decide +kernel
theorem dX7_lifts_10 : decode cX7_lifts 10 = .ok (.aload_n 0, 1) := by decide +kernel
theorem dX7_lifts_11 : decode cX7_lifts 11 = .ok (.getfield 26, 3) := by decide +kernel
theorem dX7_lifts_14 : decode cX7_lifts 14 = .ok (.getfield 121, 3) := by decide +kernel
theorem dX7_lifts_17 : decode cX7_lifts 17 = .ok (.iload_n 1, 1) := by decide +kernel
theorem dX7_lifts_18 : decode cX7_lifts 18 = .ok (.aaload, 1) := by decide +kernel
theorem dX7_lifts_19 : decode cX7_lifts 19 = .ok (.astore_n 2, 1) := by decide +kernel
theorem dX7_lifts_20 : decode cX7_lifts 20 = .ok (.sipush 999, 3) := by decide +kernel
theorem dX7_lifts_23 : decode cX7_lifts 23 = .ok (.istore_n 3, 1) := by decide +kernel
theorem dX7_lifts_24 : decode cX7_lifts 24 = .ok (.iconst 0, 1) := by decide +kernel
theorem dX7_lifts_25 : decode cX7_lifts 25 = .ok (.istore 4, 2) := by decide +kernel
theorem dX7_lifts_27 : decode cX7_lifts 27 = .ok (.iload 4, 2) := by decide +kernel
theorem dX7_lifts_29 : decode cX7_lifts 29 = .ok (.aload_n 0, 1) := by decide +kernel
theorem dX7_lifts_30 : decode cX7_lifts 30 = .ok (.getfield 19, 3) := by decide +kernel
theorem dX7_lifts_33 : decode cX7_lifts 33 = .ok (.getfield 62, 3) := by decide +kernel
theorem dX7_lifts_36 : decode cX7_lifts 36 = .ok (.iconst 0, 1) := by decide +kernel
theorem dX7_lifts_37 : decode cX7_lifts 37 = .ok (.iaload, 1) := by decide +kernel
theorem dX7_lifts_38 : decode cX7_lifts 38 = .ok (.if_icmp .gt 46, 3) := by decide +kernel
theorem dX7_lifts_41 : decode cX7_lifts 41 = .ok (.aload_n 0, 1) := by decide +kernel
theorem dX7_lifts_42 : decode cX7_lifts 42 = .ok (.getfield 19, 3) := by decide +kernel
theorem dX7_lifts_45 : decode cX7_lifts 45 = .ok (.aload_n 2, 1) := by decide +kernel
theorem dX7_lifts_46 : decode cX7_lifts 46 = .ok (.getfield 122, 3) := by decide +kernel
theorem dX7_lifts_49 : decode cX7_lifts 49 = .ok (.aload_n 2, 1) := by decide +kernel
theorem dX7_lifts_50 : decode cX7_lifts 50 = .ok (.getfield 127, 3) := by decide +kernel
theorem dX7_lifts_53 : decode cX7_lifts 53 = .ok (.aload_n 0, 1) := by decide +kernel
theorem dX7_lifts_54 : decode cX7_lifts 54 = .ok (.getfield 26, 3) := by decide +kernel
theorem dX7_lifts_57 : decode cX7_lifts 57 = .ok (.getfield 66, 3) := by decide +kernel
theorem dX7_lifts_60 : decode cX7_lifts 60 = .ok (.iload 4, 2) := by decide +kernel
theorem dX7_lifts_62 : decode cX7_lifts 62 = .ok (.iconst 0, 1) := by decide +kernel
theorem dX7_lifts_63 : decode cX7_lifts 63 = .ok (.invokevirtual 212, 3) := by decide +kernel
theorem dX7_lifts_66 : decode cX7_lifts 66 = .ok (.istore 5, 2) := by decide +kernel
theorem dX7_lifts_68 : decode cX7_lifts 68 = .ok (.iload_n 3, 1) := by decide +kernel
theorem dX7_lifts_69 : decode cX7_lifts 69 = .ok (.iload 5, 2) := by decide +kernel
theorem dX7_lifts_71 : decode cX7_lifts 71 = .ok (.ineg, 1) := by decide +kernel
theorem dX7_lifts_72 : decode cX7_lifts 72 = .ok (.iconst 1, 1) := by decide +kernel
theorem dX7_lifts_73 : decode cX7_lifts 73 = .ok (.isub, 1) := by decide +kernel
theorem dX7_lifts_74 : decode cX7_lifts 74 = .ok (.invokestatic 216, 3) := by decide +kernel
theorem dX7_lifts_77 : decode cX7_lifts 77 = .ok (.istore_n 3, 1) := by decide +kernel
theorem dX7_lifts_78 : decode cX7_lifts 78 = .ok (.iinc 4 1, 3) := by decide +kernel
theorem dX7_lifts_81 : decode cX7_lifts 81 = .ok (.goto (-54), 3) := by decide +kernel
theorem dX7_lifts_84 : decode cX7_lifts 84 = .ok (.iload_n 3, 1) := by decide +kernel
theorem dX7_lifts_85 : decode cX7_lifts 85 = .ok (.ifCond .ge 8, 3) := by decide +kernel
theorem dX7_lifts_88 : decode cX7_lifts 88 = .ok (.bipush (-4), 2) := by decide +kernel
theorem dX7_lifts_90 : decode cX7_lifts 90 = .ok (.goto 4, 3) := by decide +kernel
theorem dX7_lifts_93 : decode cX7_lifts 93 = .ok (.iload_n 3, 1) := by decide +kernel
theorem dX7_lifts_94 : decode cX7_lifts 94 = .ok (.ireturn, 1) := by decide +kernel
theorem dX7_bubbles_0 : decode cX7_bubbles 0 = .ok (.iload_n 1, 1) := by decide +kernel
theorem dX7_bubbles_1 : decode cX7_bubbles 1 = .ok (.invokestatic 219, 3) := by decide +kernel
theorem dX7_bubbles_4 : decode cX7_bubbles 4 = .ok (.ifCond .eq 19, 3) := by decide +kernel
theorem dX7_bubbles_7 : decode cX7_bubbles 7 = .ok (.iload_n 2, 1) := by decide +kernel
theorem dX7_bubbles_8 : decode cX7_bubbles 8 = .ok (.invokestatic 164, 3) := by decide +kernel
theorem dX7_bubbles_11 : decode cX7_bubbles 11 = .ok (.ifCond .eq 12, 3) := by decide +kernel
theorem dX7_bubbles_14 : decode cX7_bubbles 14 = .ok (.iload_n 3, 1) := by decide +kernel
theorem dX7_bubbles_15 : decode cX7_bubbles 15 = .ok (.iconst 0, 1) := by decide +kernel
theorem dX7_bubbles_16 : decode cX7_bubbles 16 = .ok (.iconst 2, 1) := by decide +kernel
theorem dX7_bubbles_17 : decode cX7_bubbles 17 = .ok (.invokestatic 77, 3) := by decide +kernel
theorem dX7_bubbles_20 : decode cX7_bubbles 20 = .ok (.ifCond .ne 5, 3) := by decide +kernel
theorem dX7_bubbles_23 : decode cX7_bubbles 23 = .ok (.iconst (-1), 1) := by decide +kernel
theorem dX7_bubbles_24 : decode cX7_bubbles 24 = .ok (.ireturn, 1) := by decide +kernel
theorem dX7_bubbles_25 : decode cX7_bubbles 25 = .ok (.aload_n 0, 1) := by decide +kernel
theorem dX7_bubbles_26 : decode cX7_bubbles 26 = .ok (.iload_n 1, 1) := by decide +kernel
theorem dX7_bubbles_27 : decode cX7_bubbles 27 = .ok (.invokevirtual 222, 3) := by decide +kernel
theorem dX7_bubbles_30 : decode cX7_bubbles 30 = .ok (.aload_n 0, 1) := by decide +kernel
theorem dX7_bubbles_31 : decode cX7_bubbles 31 = .ok (.iload_n 1, 1) := by decide +kernel
theorem dX7_bubbles_32 : decode cX7_bubbles 32 = .ok (.iconst 0, 1) := by decide +kernel
theorem dX7_bubbles_33 : decode cX7_bubbles 33 = .ok (.iload_n 2, 1) := by decide +kernel
theorem dX7_bubbles_34 : decode cX7_bubbles 34 = .ok (.invokevirtual 225, 3) := by decide +kernel
theorem dX7_bubbles_37 : decode cX7_bubbles 37 = .ok (.iconst 1, 1) := by decide +kernel
theorem dX7_bubbles_38 : decode cX7_bubbles 38 = .ok (.isub, 1) := by decide +kernel
theorem dX7_bubbles_39 : decode cX7_bubbles 39 = .ok (.iload_n 3, 1) := by decide +kernel
theorem dX7_bubbles_40 : decode cX7_bubbles 40 = .ok (.invokestatic 229, 3) := by decide +kernel
theorem dX7_bubbles_43 : decode cX7_bubbles 43 = .ok (.ireturn, 1) := by decide +kernel
theorem dX7_atThumb_0 : decode cX7_atThumb 0 = .ok (.iload_n 1, 1) := by decide +kernel
theorem dX7_atThumb_1 : decode cX7_atThumb 1 = .ok (.invokestatic 219, 3) := by decide +kernel
theorem dX7_atThumb_4 : decode cX7_atThumb 4 = .ok (.ifCond .eq 19, 3) := by decide +kernel
theorem dX7_atThumb_7 : decode cX7_atThumb 7 = .ok (.iload_n 2, 1) := by decide +kernel
theorem dX7_atThumb_8 : decode cX7_atThumb 8 = .ok (.invokestatic 164, 3) := by decide +kernel
theorem dX7_atThumb_11 : decode cX7_atThumb 11 = .ok (.ifCond .eq 12, 3) := by decide +kernel
theorem dX7_atThumb_14 : decode cX7_atThumb 14 = .ok (.iload_n 3, 1) := by decide +kernel
theorem dX7_atThumb_15 : decode cX7_atThumb 15 = .ok (.iconst 0, 1) := by decide +kernel
theorem dX7_atThumb_16 : decode cX7_atThumb 16 = .ok (.iconst 2, 1) := by decide +kernel
theorem dX7_atThumb_17 : decode cX7_atThumb 17 = .ok (.invokestatic 77, 3) := by decide +kernel
theorem dX7_atThumb_20 : decode cX7_atThumb 20 = .ok (.ifCond .ne 5, 3) := by decide +kernel
theorem dX7_atThumb_23 : decode cX7_atThumb 23 = .ok (.iconst (-1), 1) := by decide +kernel
theorem dX7_atThumb_24 : decode cX7_atThumb 24 = .ok (.ireturn, 1) := by decide +kernel
theorem dX7_atThumb_25 : decode cX7_atThumb 25 = .ok (.aload_n 0, 1) := by decide +kernel
theorem dX7_atThumb_26 : decode cX7_atThumb 26 = .ok (.iload_n 1, 1) := by decide +kernel
theorem dX7_atThumb_27 : decode cX7_atThumb 27 = .ok (.iload_n 2, 1) := by decide +kernel
theorem dX7_atThumb_28 : decode cX7_atThumb 28 = .ok (.invokevirtual 232, 3) := by decide +kernel
theorem dX7_atThumb_31 : decode cX7_atThumb 31 = .ok (.aload_n 0, 1) := by decide +kernel
theorem dX7_atThumb_32 : decode cX7_atThumb 32 = .ok (.iload_n 1, 1) := by decide +kernel
theorem dX7_atThumb_33 : decode cX7_atThumb 33 = .ok (.iload_n 2, 1) := by decide +kernel
theorem dX7_atThumb_34 : decode cX7_atThumb 34 = .ok (.invokevirtual 235, 3) := by decide +kernel
theorem dX7_atThumb_37 : decode cX7_atThumb 37 = .ok (.iload_n 3, 1) := by decide +kernel
theorem dX7_atThumb_38 : decode cX7_atThumb 38 = .ok (.invokestatic 229, 3) := by decide +kernel
theorem dX7_atThumb_41 : decode cX7_atThumb 41 = .ok (.ireturn, 1) := by decide +kernel
theorem dX7_spread_0 : decode cX7_spread 0 = .ok (.iload_n 1, 1) := by decide +kernel
theorem dX7_spread_1 : decode cX7_spread 1 = .ok (.invokestatic 219, 3) := by decide +kernel
theorem dX7_spread_4 : decode cX7_spread 4 = .ok (.ifCond .eq 22, 3) := by decide +kernel
theorem dX7_spread_7 : decode cX7_spread 7 = .ok (.iload_n 2, 1) := by decide +kernel
theorem dX7_spread_8 : decode cX7_spread 8 = .ok (.iconst 2, 1) := by decide +kernel
theorem dX7_spread_9 : decode cX7_spread 9 = .ok (.bipush 6, 2) := by decide +kernel
theorem dX7_spread_11 : decode cX7_spread 11 = .ok (.invokestatic 77, 3) := by decide +kernel
theorem dX7_spread_14 : decode cX7_spread 14 = .ok (.ifCond .eq 12, 3) := by decide +kernel
theorem dX7_spread_17 : decode cX7_spread 17 = .ok (.iload_n 3, 1) := by decide +kernel
theorem dX7_spread_18 : decode cX7_spread 18 = .ok (.iconst 0, 1) := by decide +kernel
theorem dX7_spread_19 : decode cX7_spread 19 = .ok (.iconst 1, 1) := by decide +kernel
theorem dX7_spread_20 : decode cX7_spread 20 = .ok (.invokestatic 77, 3) := by decide +kernel
theorem dX7_spread_23 : decode cX7_spread 23 = .ok (.ifCond .ne 5, 3) := by decide +kernel
theorem dX7_spread_26 : decode cX7_spread 26 = .ok (.iconst (-1), 1) := by decide +kernel
theorem dX7_spread_27 : decode cX7_spread 27 = .ok (.ireturn, 1) := by decide +kernel
theorem dX7_spread_28 : decode cX7_spread 28 = .ok (.aload_n 0, 1) := by decide +kernel
theorem dX7_spread_29 : decode cX7_spread 29 = .ok (.iload_n 1, 1) := by decide +kernel
theorem dX7_spread_30 : decode cX7_spread 30 = .ok (.invokevirtual 238, 3) := by decide +kernel
theorem dX7_spread_33 : decode cX7_spread 33 = .ok (.aload_n 0, 1) := by decide +kernel
theorem dX7_spread_34 : decode cX7_spread 34 = .ok (.iconst 1, 1) := by decide +kernel
theorem dX7_spread_35 : decode cX7_spread 35 = .ok (.invokevirtual 242, 3) := by decide +kernel
theorem dX7_spread_38 : decode cX7_spread 38 = .ok (.iload_n 2, 1) := by decide +kernel
theorem dX7_spread_39 : decode cX7_spread 39 = .ok (.if_icmp .ge 6, 3) := by decide +kernel
theorem dX7_spread_42 : decode cX7_spread 42 = .ok (.bipush (-4), 2) := by decide +kernel
theorem dX7_spread_44 : decode cX7_spread 44 = .ok (.ireturn, 1) := by decide +kernel
theorem dX7_spread_45 : decode cX7_spread 45 = .ok (.iload_n 3, 1) := by decide +kernel
theorem dX7_spread_46 : decode cX7_spread 46 = .ok (.iconst 1, 1) := by decide +kernel
theorem dX7_spread_47 : decode cX7_spread 47 = .ok (.if_icmp .ne 10, 3) := by decide +kernel
theorem dX7_spread_50 : decode cX7_spread 50 = .ok (.aload_n 0, 1) := by decide +kernel
theorem dX7_spread_51 : decode cX7_spread 51 = .ok (.invokevirtual 245, 3) := by decide +kernel
theorem dX7_spread_54 : decode cX7_spread 54 = .ok (.goto 8, 3) := by decide +kernel
theorem dX7_spread_57 : decode cX7_spread 57 = .ok (.aload_n 0, 1) := by decide +kernel
theorem dX7_spread_58 : decode cX7_spread 58 = .ok (.iload_n 2, 1) := by decide +kernel
theorem dX7_spread_59 : decode cX7_spread 59 = .ok (.invokevirtual 248, 3) := by decide +kernel
theorem dX7_spread_62 : decode cX7_spread 62 = .ok (.ireturn, 1) := by decide +kernel
theorem dX7_hold_0 : decode cX7_hold 0 = .ok (.aload_n 0, 1) := by decide +kernel
theorem dX7_hold_1 : decode cX7_hold 1 = .ok (.iload_n 1, 1) := by decide +kernel
theorem dX7_hold_2 : decode cX7_hold 2 = .ok (.iload_n 2, 1) := by decide +kernel
theorem dX7_hold_3 : decode cX7_hold 3 = .ok (.iload_n 3, 1) := by decide +kernel
theorem dX7_hold_4 : decode cX7_hold 4 = .ok (.iload 6, 2) := by decide +kernel
theorem dX7_hold_6 : decode cX7_hold 6 = .ok (.invokevirtual 251, 3) := by decide +kernel
theorem dX7_hold_9 : decode cX7_hold 9 = .ok (.ifCond .eq 29, 3) := by decide +kernel
theorem dX7_hold_12 : decode cX7_hold 12 = .ok (.iload 4, 2) := by decide +kernel
theorem dX7_hold_14 : decode cX7_hold 14 = .ok (.invokestatic 255, 3) := by decide +kernel
theorem dX7_hold_17 : decode cX7_hold 17 = .ok (.ifCond .eq 21, 3) := by decide +kernel
theorem dX7_hold_20 : decode cX7_hold 20 = .ok (.iload 5, 2) := by decide +kernel
theorem dX7_hold_22 : decode cX7_hold 22 = .ok (.invokestatic 258, 3) := by decide +kernel
theorem dX7_hold_25 : decode cX7_hold 25 = .ok (.ifCond .eq 13, 3) := by decide +kernel
theorem dX7_hold_28 : decode cX7_hold 28 = .ok (.iload 7, 2) := by decide +kernel
theorem dX7_hold_30 : decode cX7_hold 30 = .ok (.iconst 0, 1) := by decide +kernel
theorem dX7_hold_31 : decode cX7_hold 31 = .ok (.iconst 3, 1) := by decide +kernel
theorem dX7_hold_32 : decode cX7_hold 32 = .ok (.invokestatic 77, 3) := by decide +kernel
theorem dX7_hold_35 : decode cX7_hold 35 = .ok (.ifCond .ne 5, 3) := by decide +kernel
theorem dX7_hold_38 : decode cX7_hold 38 = .ok (.iconst (-1), 1) := by decide +kernel
theorem dX7_hold_39 : decode cX7_hold 39 = .ok (.ireturn, 1) := by decide +kernel
theorem dX7_hold_40 : decode cX7_hold 40 = .ok (.aload_n 0, 1) := by decide +kernel
theorem dX7_hold_41 : decode cX7_hold 41 = .ok (.iload_n 1, 1) := by decide +kernel
theorem dX7_hold_42 : decode cX7_hold 42 = .ok (.iload_n 2, 1) := by decide +kernel
theorem dX7_hold_43 : decode cX7_hold 43 = .ok (.iload_n 3, 1) := by decide +kernel
theorem dX7_hold_44 : decode cX7_hold 44 = .ok (.iload 4, 2) := by decide +kernel
theorem dX7_hold_46 : decode cX7_hold 46 = .ok (.iload 5, 2) := by decide +kernel
theorem dX7_hold_48 : decode cX7_hold 48 = .ok (.iload 6, 2) := by decide +kernel
theorem dX7_hold_50 : decode cX7_hold 50 = .ok (.invokevirtual 261, 3) := by decide +kernel
theorem dX7_hold_53 : decode cX7_hold 53 = .ok (.iload 7, 2) := by decide +kernel
theorem dX7_hold_55 : decode cX7_hold 55 = .ok (.tableswitch 52 0 2 #[25, 33, 44], 25) := by decide +kernel
theorem dX7_hold_80 : decode cX7_hold 80 = .ok (.aload_n 0, 1) := by decide +kernel
theorem dX7_hold_81 : decode cX7_hold 81 = .ok (.getfield 55, 3) := by decide +kernel
theorem dX7_hold_84 : decode cX7_hold 84 = .ok (.getfield 265, 3) := by decide +kernel
theorem dX7_hold_87 : decode cX7_hold 87 = .ok (.ireturn, 1) := by decide +kernel
theorem dX7_hold_88 : decode cX7_hold 88 = .ok (.aload_n 0, 1) := by decide +kernel
theorem dX7_hold_89 : decode cX7_hold 89 = .ok (.getfield 55, 3) := by decide +kernel
theorem dX7_hold_92 : decode cX7_hold 92 = .ok (.getfield 268, 3) := by decide +kernel
theorem dX7_hold_95 : decode cX7_hold 95 = .ok (.getfield 151, 3) := by decide +kernel
theorem dX7_hold_98 : decode cX7_hold 98 = .ok (.ireturn, 1) := by decide +kernel
theorem dX7_hold_99 : decode cX7_hold 99 = .ok (.aload_n 0, 1) := by decide +kernel
theorem dX7_hold_100 : decode cX7_hold 100 = .ok (.getfield 55, 3) := by decide +kernel
theorem dX7_hold_103 : decode cX7_hold 103 = .ok (.getfield 272, 3) := by decide +kernel
theorem dX7_hold_106 : decode cX7_hold 106 = .ok (.ireturn, 1) := by decide +kernel
theorem dX7_hold_107 : decode cX7_hold 107 = .ok (.aload_n 0, 1) := by decide +kernel
theorem dX7_hold_108 : decode cX7_hold 108 = .ok (.getfield 55, 3) := by decide +kernel
theorem dX7_hold_111 : decode cX7_hold 111 = .ok (.getfield 275, 3) := by decide +kernel
theorem dX7_hold_114 : decode cX7_hold 114 = .ok (.ireturn, 1) := by decide +kernel
theorem dX7_late_0 : decode cX7_late 0 = .ok (.aload_n 0, 1) := by decide +kernel
theorem dX7_late_1 : decode cX7_late 1 = .ok (.iload_n 1, 1) := by decide +kernel
theorem dX7_late_2 : decode cX7_late 2 = .ok (.iload_n 2, 1) := by decide +kernel
theorem dX7_late_3 : decode cX7_late 3 = .ok (.iload_n 3, 1) := by decide +kernel
theorem dX7_late_4 : decode cX7_late 4 = .ok (.iload 5, 2) := by decide +kernel
theorem dX7_late_6 : decode cX7_late 6 = .ok (.invokevirtual 251, 3) := by decide +kernel
theorem dX7_late_9 : decode cX7_late 9 = .ok (.ifCond .eq 11, 3) := by decide +kernel
theorem dX7_late_12 : decode cX7_late 12 = .ok (.iload 4, 2) := by decide +kernel
theorem dX7_late_14 : decode cX7_late 14 = .ok (.invokestatic 258, 3) := by decide +kernel
theorem dX7_late_17 : decode cX7_late 17 = .ok (.ifCond .ne 5, 3) := by decide +kernel
theorem dX7_late_20 : decode cX7_late 20 = .ok (.iconst (-1), 1) := by decide +kernel
theorem dX7_late_21 : decode cX7_late 21 = .ok (.ireturn, 1) := by decide +kernel
theorem dX7_late_22 : decode cX7_late 22 = .ok (.bipush (-4), 2) := by decide +kernel
theorem dX7_late_24 : decode cX7_late 24 = .ok (.istore 6, 2) := by decide +kernel
theorem dX7_late_26 : decode cX7_late 26 = .ok (.iconst 0, 1) := by decide +kernel
theorem dX7_late_27 : decode cX7_late 27 = .ok (.istore 7, 2) := by decide +kernel
theorem dX7_late_29 : decode cX7_late 29 = .ok (.iload 7, 2) := by decide +kernel
theorem dX7_late_31 : decode cX7_late 31 = .ok (.bipush 50, 2) := by decide +kernel
theorem dX7_late_33 : decode cX7_late 33 = .ok (.if_icmp .gt 41, 3) := by decide +kernel
theorem dX7_late_36 : decode cX7_late 36 = .ok (.aload_n 0, 1) := by decide +kernel
theorem dX7_late_37 : decode cX7_late 37 = .ok (.iload_n 1, 1) := by decide +kernel
theorem dX7_late_38 : decode cX7_late 38 = .ok (.iload_n 2, 1) := by decide +kernel
theorem dX7_late_39 : decode cX7_late 39 = .ok (.iload_n 3, 1) := by decide +kernel
theorem dX7_late_40 : decode cX7_late 40 = .ok (.iload 7, 2) := by decide +kernel
theorem dX7_late_42 : decode cX7_late 42 = .ok (.iload 4, 2) := by decide +kernel
theorem dX7_late_44 : decode cX7_late 44 = .ok (.iload 5, 2) := by decide +kernel
theorem dX7_late_46 : decode cX7_late 46 = .ok (.invokevirtual 261, 3) := by decide +kernel
theorem dX7_late_49 : decode cX7_late 49 = .ok (.aload_n 0, 1) := by decide +kernel
theorem dX7_late_50 : decode cX7_late 50 = .ok (.getfield 55, 3) := by decide +kernel
theorem dX7_late_53 : decode cX7_late 53 = .ok (.getfield 265, 3) := by decide +kernel
theorem dX7_late_56 : decode cX7_late 56 = .ok (.bipush (-4), 2) := by decide +kernel
theorem dX7_late_58 : decode cX7_late 58 = .ok (.if_icmp .eq 6, 3) := by decide +kernel
theorem dX7_late_61 : decode cX7_late 61 = .ok (.iload 6, 2) := by decide +kernel
theorem dX7_late_63 : decode cX7_late 63 = .ok (.ireturn, 1) := by decide +kernel
theorem dX7_late_64 : decode cX7_late 64 = .ok (.iload 7, 2) := by decide +kernel
theorem dX7_late_66 : decode cX7_late 66 = .ok (.istore 6, 2) := by decide +kernel
theorem dX7_late_68 : decode cX7_late 68 = .ok (.iinc 7 1, 3) := by decide +kernel
theorem dX7_late_71 : decode cX7_late 71 = .ok (.goto (-42), 3) := by decide +kernel
theorem dX7_late_74 : decode cX7_late 74 = .ok (.iload 6, 2) := by decide +kernel
theorem dX7_late_76 : decode cX7_late 76 = .ok (.ireturn, 1) := by decide +kernel
theorem dX7_step_0 : decode cX7_step 0 = .ok (.aload_n 0, 1) := by decide +kernel
theorem dX7_step_1 : decode cX7_step 1 = .ok (.iload_n 1, 1) := by decide +kernel
theorem dX7_step_2 : decode cX7_step 2 = .ok (.iload_n 2, 1) := by decide +kernel
theorem dX7_step_3 : decode cX7_step 3 = .ok (.iload_n 3, 1) := by decide +kernel
theorem dX7_step_4 : decode cX7_step 4 = .ok (.iload 5, 2) := by decide +kernel
theorem dX7_step_6 : decode cX7_step 6 = .ok (.invokevirtual 251, 3) := by decide +kernel
theorem dX7_step_9 : decode cX7_step 9 = .ok (.ifCond .eq 21, 3) := by decide +kernel
theorem dX7_step_12 : decode cX7_step 12 = .ok (.iload 4, 2) := by decide +kernel
theorem dX7_step_14 : decode cX7_step 14 = .ok (.invokestatic 255, 3) := by decide +kernel
theorem dX7_step_17 : decode cX7_step 17 = .ok (.ifCond .eq 13, 3) := by decide +kernel
theorem dX7_step_20 : decode cX7_step 20 = .ok (.iload 6, 2) := by decide +kernel
theorem dX7_step_22 : decode cX7_step 22 = .ok (.iconst 0, 1) := by decide +kernel
theorem dX7_step_23 : decode cX7_step 23 = .ok (.iconst 1, 1) := by decide +kernel
theorem dX7_step_24 : decode cX7_step 24 = .ok (.invokestatic 77, 3) := by decide +kernel
theorem dX7_step_27 : decode cX7_step 27 = .ok (.ifCond .ne 5, 3) := by decide +kernel
theorem dX7_step_30 : decode cX7_step 30 = .ok (.iconst (-1), 1) := by decide +kernel
theorem dX7_step_31 : decode cX7_step 31 = .ok (.ireturn, 1) := by decide +kernel
theorem dX7_step_32 : decode cX7_step 32 = .ok (.iconst 1, 1) := by decide +kernel
theorem dX7_step_33 : decode cX7_step 33 = .ok (.istore 7, 2) := by decide +kernel
theorem dX7_step_35 : decode cX7_step 35 = .ok (.iconst 0, 1) := by decide +kernel
theorem dX7_step_36 : decode cX7_step 36 = .ok (.istore 8, 2) := by decide +kernel
theorem dX7_step_38 : decode cX7_step 38 = .ok (.iconst 1, 1) := by decide +kernel
theorem dX7_step_39 : decode cX7_step 39 = .ok (.istore 9, 2) := by decide +kernel
theorem dX7_step_41 : decode cX7_step 41 = .ok (.iload 9, 2) := by decide +kernel
theorem dX7_step_43 : decode cX7_step 43 = .ok (.bipush 50, 2) := by decide +kernel
theorem dX7_step_45 : decode cX7_step 45 = .ok (.if_icmp .gt 66, 3) := by decide +kernel
theorem dX7_step_48 : decode cX7_step 48 = .ok (.iload 8, 2) := by decide +kernel
theorem dX7_step_50 : decode cX7_step 50 = .ok (.bipush (-4), 2) := by decide +kernel
theorem dX7_step_52 : decode cX7_step 52 = .ok (.if_icmp .eq 59, 3) := by decide +kernel
theorem dX7_step_55 : decode cX7_step 55 = .ok (.aload_n 0, 1) := by decide +kernel
theorem dX7_step_56 : decode cX7_step 56 = .ok (.iload_n 1, 1) := by decide +kernel
theorem dX7_step_57 : decode cX7_step 57 = .ok (.iload_n 2, 1) := by decide +kernel
theorem dX7_step_58 : decode cX7_step 58 = .ok (.iload_n 3, 1) := by decide +kernel
theorem dX7_step_59 : decode cX7_step 59 = .ok (.iload 4, 2) := by decide +kernel
theorem dX7_step_61 : decode cX7_step 61 = .ok (.iload 9, 2) := by decide +kernel
theorem dX7_step_63 : decode cX7_step 63 = .ok (.iload 5, 2) := by decide +kernel
theorem dX7_step_65 : decode cX7_step 65 = .ok (.invokevirtual 261, 3) := by decide +kernel
theorem dX7_step_68 : decode cX7_step 68 = .ok (.aload_n 0, 1) := by decide +kernel
theorem dX7_step_69 : decode cX7_step 69 = .ok (.getfield 55, 3) := by decide +kernel
theorem dX7_step_72 : decode cX7_step 72 = .ok (.getfield 265, 3) := by decide +kernel
theorem dX7_step_75 : decode cX7_step 75 = .ok (.bipush (-4), 2) := by decide +kernel
theorem dX7_step_77 : decode cX7_step 77 = .ok (.if_icmp .eq 15, 3) := by decide +kernel
theorem dX7_step_80 : decode cX7_step 80 = .ok (.aload_n 0, 1) := by decide +kernel
theorem dX7_step_81 : decode cX7_step 81 = .ok (.getfield 55, 3) := by decide +kernel
theorem dX7_step_84 : decode cX7_step 84 = .ok (.getfield 265, 3) := by decide +kernel
theorem dX7_step_87 : decode cX7_step 87 = .ok (.iload 8, 2) := by decide +kernel
theorem dX7_step_89 : decode cX7_step 89 = .ok (.if_icmp .le 16, 3) := by decide +kernel
theorem dX7_step_92 : decode cX7_step 92 = .ok (.iload 9, 2) := by decide +kernel
theorem dX7_step_94 : decode cX7_step 94 = .ok (.istore 7, 2) := by decide +kernel
theorem dX7_step_96 : decode cX7_step 96 = .ok (.aload_n 0, 1) := by decide +kernel
theorem dX7_step_97 : decode cX7_step 97 = .ok (.getfield 55, 3) := by decide +kernel
theorem dX7_step_100 : decode cX7_step 100 = .ok (.getfield 265, 3) := by decide +kernel
theorem dX7_step_103 : decode cX7_step 103 = .ok (.istore 8, 2) := by decide +kernel
theorem dX7_step_105 : decode cX7_step 105 = .ok (.iinc 9 1, 3) := by decide +kernel
theorem dX7_step_108 : decode cX7_step 108 = .ok (.goto (-67), 3) := by decide +kernel
theorem dX7_step_111 : decode cX7_step 111 = .ok (.iload 6, 2) := by decide +kernel
theorem dX7_step_113 : decode cX7_step 113 = .ok (.ifCond .ne 8, 3) := by decide +kernel
theorem dX7_step_116 : decode cX7_step 116 = .ok (.iload 7, 2) := by decide +kernel
theorem dX7_step_118 : decode cX7_step 118 = .ok (.goto 5, 3) := by decide +kernel
theorem dX7_step_121 : decode cX7_step 121 = .ok (.iload 8, 2) := by decide +kernel
theorem dX7_step_123 : decode cX7_step 123 = .ok (.ireturn, 1) := by decide +kernel
theorem dX7_hours_0 : decode cX7_hours 0 = .ok (.aload_n 0, 1) := by decide +kernel
theorem dX7_hours_1 : decode cX7_hours 1 = .ok (.iload_n 1, 1) := by decide +kernel
theorem dX7_hours_2 : decode cX7_hours 2 = .ok (.invokevirtual 116, 3) := by decide +kernel
theorem dX7_hours_5 : decode cX7_hours 5 = .ok (.ifCond .eq 12, 3) := by decide +kernel
theorem dX7_hours_8 : decode cX7_hours 8 = .ok (.iload_n 2, 1) := by decide +kernel
theorem dX7_hours_9 : decode cX7_hours 9 = .ok (.iconst 0, 1) := by decide +kernel
theorem dX7_hours_10 : decode cX7_hours 10 = .ok (.iconst 1, 1) := by decide +kernel
theorem dX7_hours_11 : decode cX7_hours 11 = .ok (.invokestatic 77, 3) := by decide +kernel
theorem dX7_hours_14 : decode cX7_hours 14 = .ok (.ifCond .ne 5, 3) := by decide +kernel
theorem dX7_hours_17 : decode cX7_hours 17 = .ok (.iconst (-1), 1) := by decide +kernel
theorem dX7_hours_18 : decode cX7_hours 18 = .ok (.ireturn, 1) := by decide +kernel
theorem dX7_hours_19 : decode cX7_hours 19 = .ok (.aload_n 0, 1) := by decide +kernel
theorem dX7_hours_20 : decode cX7_hours 20 = .ok (.getfield 26, 3) := by decide +kernel
theorem dX7_hours_23 : decode cX7_hours 23 = .ok (.getfield 121, 3) := by decide +kernel
theorem dX7_hours_26 : decode cX7_hours 26 = .ok (.iload_n 1, 1) := by decide +kernel
theorem dX7_hours_27 : decode cX7_hours 27 = .ok (.aaload, 1) := by decide +kernel
theorem dX7_hours_28 : decode cX7_hours 28 = .ok (.astore_n 3, 1) := by decide +kernel
theorem dX7_hours_29 : decode cX7_hours 29 = .ok (.iconst 0, 1) := by decide +kernel
theorem dX7_hours_30 : decode cX7_hours 30 = .ok (.istore 4, 2) := by decide +kernel
theorem dX7_hours_32 : decode cX7_hours 32 = .ok (.iconst 0, 1) := by decide +kernel
theorem dX7_hours_33 : decode cX7_hours 33 = .ok (.istore 5, 2) := by decide +kernel
theorem dX7_hours_35 : decode cX7_hours 35 = .ok (.iconst 0, 1) := by decide +kernel
theorem dX7_hours_36 : decode cX7_hours 36 = .ok (.istore 6, 2) := by decide +kernel
theorem dX7_hours_38 : decode cX7_hours 38 = .ok (.iconst 0, 1) := by decide +kernel
theorem dX7_hours_39 : decode cX7_hours 39 = .ok (.istore 7, 2) := by decide +kernel
theorem dX7_hours_41 : decode cX7_hours 41 = .ok (.iload 7, 2) := by decide +kernel
theorem dX7_hours_43 : decode cX7_hours 43 = .ok (.bipush 24, 2) := by decide +kernel
theorem dX7_hours_45 : decode cX7_hours 45 = .ok (.if_icmp .ge 58, 3) := by decide +kernel
theorem dX7_hours_48 : decode cX7_hours 48 = .ok (.aload_n 0, 1) := by decide +kernel
theorem dX7_hours_49 : decode cX7_hours 49 = .ok (.aload_n 3, 1) := by decide +kernel
theorem dX7_hours_50 : decode cX7_hours 50 = .ok (.aload_n 0, 1) := by decide +kernel
theorem dX7_hours_51 : decode cX7_hours 51 = .ok (.getfield 19, 3) := by decide +kernel
theorem dX7_hours_54 : decode cX7_hours 54 = .ok (.getfield 113, 3) := by decide +kernel
theorem dX7_hours_57 : decode cX7_hours 57 = .ok (.iload 7, 2) := by decide +kernel
theorem dX7_hours_59 : decode cX7_hours 59 = .ok (.iaload, 1) := by decide +kernel
theorem dX7_hours_60 : decode cX7_hours 60 = .ok (.iload 6, 2) := by decide +kernel
theorem dX7_hours_62 : decode cX7_hours 62 = .ok (.invokevirtual 276, 3) := by decide +kernel
theorem dX7_hours_65 : decode cX7_hours 65 = .ok (.ifCond .eq 18, 3) := by decide +kernel
theorem dX7_hours_68 : decode cX7_hours 68 = .ok (.iload 6, 2) := by decide +kernel
theorem dX7_hours_70 : decode cX7_hours 70 = .ok (.ifCond .ne 7, 3) := by decide +kernel
theorem dX7_hours_73 : decode cX7_hours 73 = .ok (.iconst 1, 1) := by decide +kernel
theorem dX7_hours_74 : decode cX7_hours 74 = .ok (.goto 4, 3) := by decide +kernel
theorem dX7_hours_77 : decode cX7_hours 77 = .ok (.iconst 0, 1) := by decide +kernel
theorem dX7_hours_78 : decode cX7_hours 78 = .ok (.istore 6, 2) := by decide +kernel
theorem dX7_hours_80 : decode cX7_hours 80 = .ok (.iinc 5 1, 3) := by decide +kernel
theorem dX7_hours_83 : decode cX7_hours 83 = .ok (.iload 6, 2) := by decide +kernel
theorem dX7_hours_85 : decode cX7_hours 85 = .ok (.ifCond .eq 12, 3) := by decide +kernel
theorem dX7_hours_88 : decode cX7_hours 88 = .ok (.iload 4, 2) := by decide +kernel
theorem dX7_hours_90 : decode cX7_hours 90 = .ok (.iconst 1, 1) := by decide +kernel
theorem dX7_hours_91 : decode cX7_hours 91 = .ok (.iload 7, 2) := by decide +kernel
theorem dX7_hours_93 : decode cX7_hours 93 = .ok (.ishl, 1) := by decide +kernel
theorem dX7_hours_94 : decode cX7_hours 94 = .ok (.ior, 1) := by decide +kernel
theorem dX7_hours_95 : decode cX7_hours 95 = .ok (.istore 4, 2) := by decide +kernel
theorem dX7_hours_97 : decode cX7_hours 97 = .ok (.iinc 7 1, 3) := by decide +kernel
theorem dX7_hours_100 : decode cX7_hours 100 = .ok (.goto (-59), 3) := by decide +kernel
theorem dX7_hours_103 : decode cX7_hours 103 = .ok (.iload_n 2, 1) := by decide +kernel
theorem dX7_hours_104 : decode cX7_hours 104 = .ok (.ifCond .ne 8, 3) := by decide +kernel
theorem dX7_hours_107 : decode cX7_hours 107 = .ok (.iload 4, 2) := by decide +kernel
theorem dX7_hours_109 : decode cX7_hours 109 = .ok (.goto 5, 3) := by decide +kernel
theorem dX7_hours_112 : decode cX7_hours 112 = .ok (.iload 5, 2) := by decide +kernel
theorem dX7_hours_114 : decode cX7_hours 114 = .ok (.ireturn, 1) := by decide +kernel
theorem dX7_trips_0 : decode cX7_trips 0 = .ok (.aload_n 0, 1) := by decide +kernel
theorem dX7_trips_1 : decode cX7_trips 1 = .ok (.iload_n 1, 1) := by decide +kernel
theorem dX7_trips_2 : decode cX7_trips 2 = .ok (.invokevirtual 116, 3) := by decide +kernel
theorem dX7_trips_5 : decode cX7_trips 5 = .ok (.ifCond .ne 5, 3) := by decide +kernel
theorem dX7_trips_8 : decode cX7_trips 8 = .ok (.iconst (-1), 1) := by decide +kernel
theorem dX7_trips_9 : decode cX7_trips 9 = .ok (.ireturn, 1) := by decide +kernel
theorem dX7_trips_10 : decode cX7_trips 10 = .ok (.aload_n 0, 1) := by decide +kernel
theorem dX7_trips_11 : decode cX7_trips 11 = .ok (.getfield 26, 3) := by decide +kernel
theorem dX7_trips_14 : decode cX7_trips 14 = .ok (.getfield 121, 3) := by decide +kernel
theorem dX7_trips_17 : decode cX7_trips 17 = .ok (.iload_n 1, 1) := by decide +kernel
theorem dX7_trips_18 : decode cX7_trips 18 = .ok (.aaload, 1) := by decide +kernel
theorem dX7_trips_19 : decode cX7_trips 19 = .ok (.astore_n 2, 1) := by decide +kernel
theorem dX7_trips_20 : decode cX7_trips 20 = .ok (.aload_n 2, 1) := by decide +kernel
theorem dX7_trips_21 : decode cX7_trips 21 = .ok (.getfield 127, 3) := by decide +kernel
theorem dX7_trips_24 : decode cX7_trips 24 = .ok (.istore_n 3, 1) := by decide +kernel
theorem dX7_trips_25 : decode cX7_trips 25 = .ok (.iconst 0, 1) := by decide +kernel
theorem dX7_trips_26 : decode cX7_trips 26 = .ok (.istore 4, 2) := by decide +kernel
theorem dX7_trips_28 : decode cX7_trips 28 = .ok (.iload 4, 2) := by decide +kernel
theorem dX7_trips_30 : decode cX7_trips 30 = .ok (.sipush 999, 3) := by decide +kernel
theorem dX7_trips_33 : decode cX7_trips 33 = .ok (.if_icmp .ge 64, 3) := by decide +kernel
theorem dX7_trips_36 : decode cX7_trips 36 = .ok (.iconst 0, 1) := by decide +kernel
theorem dX7_trips_37 : decode cX7_trips 37 = .ok (.iload_n 3, 1) := by decide +kernel
theorem dX7_trips_38 : decode cX7_trips 38 = .ok (.aload_n 2, 1) := by decide +kernel
theorem dX7_trips_39 : decode cX7_trips 39 = .ok (.getfield 130, 3) := by decide +kernel
theorem dX7_trips_42 : decode cX7_trips 42 = .ok (.isub, 1) := by decide +kernel
theorem dX7_trips_43 : decode cX7_trips 43 = .ok (.invokestatic 280, 3) := by decide +kernel
theorem dX7_trips_46 : decode cX7_trips 46 = .ok (.istore_n 3, 1) := by decide +kernel
theorem dX7_trips_47 : decode cX7_trips 47 = .ok (.aload_n 0, 1) := by decide +kernel
theorem dX7_trips_48 : decode cX7_trips 48 = .ok (.getfield 19, 3) := by decide +kernel
theorem dX7_trips_51 : decode cX7_trips 51 = .ok (.aload_n 2, 1) := by decide +kernel
theorem dX7_trips_52 : decode cX7_trips 52 = .ok (.getfield 122, 3) := by decide +kernel
theorem dX7_trips_55 : decode cX7_trips 55 = .ok (.aload_n 2, 1) := by decide +kernel
theorem dX7_trips_56 : decode cX7_trips 56 = .ok (.getfield 144, 3) := by decide +kernel
theorem dX7_trips_59 : decode cX7_trips 59 = .ok (.iadd, 1) := by decide +kernel
theorem dX7_trips_60 : decode cX7_trips 60 = .ok (.iload_n 3, 1) := by decide +kernel
theorem dX7_trips_61 : decode cX7_trips 61 = .ok (.aload_n 0, 1) := by decide +kernel
theorem dX7_trips_62 : decode cX7_trips 62 = .ok (.getfield 26, 3) := by decide +kernel
theorem dX7_trips_65 : decode cX7_trips 65 = .ok (.getfield 66, 3) := by decide +kernel
theorem dX7_trips_68 : decode cX7_trips 68 = .ok (.aload_n 0, 1) := by decide +kernel
theorem dX7_trips_69 : decode cX7_trips 69 = .ok (.getfield 19, 3) := by decide +kernel
theorem dX7_trips_72 : decode cX7_trips 72 = .ok (.getfield 62, 3) := by decide +kernel
theorem dX7_trips_75 : decode cX7_trips 75 = .ok (.iconst 0, 1) := by decide +kernel
theorem dX7_trips_76 : decode cX7_trips 76 = .ok (.iaload, 1) := by decide +kernel
theorem dX7_trips_77 : decode cX7_trips 77 = .ok (.iconst 0, 1) := by decide +kernel
theorem dX7_trips_78 : decode cX7_trips 78 = .ok (.invokevirtual 212, 3) := by decide +kernel
theorem dX7_trips_81 : decode cX7_trips 81 = .ok (.istore 5, 2) := by decide +kernel
theorem dX7_trips_83 : decode cX7_trips 83 = .ok (.iload 5, 2) := by decide +kernel
theorem dX7_trips_85 : decode cX7_trips 85 = .ok (.ifCond .lt 6, 3) := by decide +kernel
theorem dX7_trips_88 : decode cX7_trips 88 = .ok (.iload 4, 2) := by decide +kernel
theorem dX7_trips_90 : decode cX7_trips 90 = .ok (.ireturn, 1) := by decide +kernel
theorem dX7_trips_91 : decode cX7_trips 91 = .ok (.iinc 4 1, 3) := by decide +kernel
theorem dX7_trips_94 : decode cX7_trips 94 = .ok (.goto (-66), 3) := by decide +kernel
theorem dX7_trips_97 : decode cX7_trips 97 = .ok (.sipush 999, 3) := by decide +kernel
theorem dX7_trips_100 : decode cX7_trips 100 = .ok (.ireturn, 1) := by decide +kernel
theorem dX7_bladder_0 : decode cX7_bladder 0 = .ok (.aload_n 0, 1) := by decide +kernel
theorem dX7_bladder_1 : decode cX7_bladder 1 = .ok (.iload_n 1, 1) := by decide +kernel
theorem dX7_bladder_2 : decode cX7_bladder 2 = .ok (.invokevirtual 116, 3) := by decide +kernel
theorem dX7_bladder_5 : decode cX7_bladder 5 = .ok (.ifCond .eq 29, 3) := by decide +kernel
theorem dX7_bladder_8 : decode cX7_bladder 8 = .ok (.aload_n 0, 1) := by decide +kernel
theorem dX7_bladder_9 : decode cX7_bladder 9 = .ok (.iload_n 2, 1) := by decide +kernel
theorem dX7_bladder_10 : decode cX7_bladder 10 = .ok (.invokevirtual 188, 3) := by decide +kernel
theorem dX7_bladder_13 : decode cX7_bladder 13 = .ok (.ifCond .eq 21, 3) := by decide +kernel
theorem dX7_bladder_16 : decode cX7_bladder 16 = .ok (.aload_n 0, 1) := by decide +kernel
theorem dX7_bladder_17 : decode cX7_bladder 17 = .ok (.iload_n 3, 1) := by decide +kernel
theorem dX7_bladder_18 : decode cX7_bladder 18 = .ok (.invokevirtual 188, 3) := by decide +kernel
theorem dX7_bladder_21 : decode cX7_bladder 21 = .ok (.ifCond .eq 13, 3) := by decide +kernel
theorem dX7_bladder_24 : decode cX7_bladder 24 = .ok (.iload 4, 2) := by decide +kernel
theorem dX7_bladder_26 : decode cX7_bladder 26 = .ok (.iconst 0, 1) := by decide +kernel
theorem dX7_bladder_27 : decode cX7_bladder 27 = .ok (.iconst 1, 1) := by decide +kernel
theorem dX7_bladder_28 : decode cX7_bladder 28 = .ok (.invokestatic 77, 3) := by decide +kernel
theorem dX7_bladder_31 : decode cX7_bladder 31 = .ok (.ifCond .ne 5, 3) := by decide +kernel
theorem dX7_bladder_34 : decode cX7_bladder 34 = .ok (.iconst (-1), 1) := by decide +kernel
theorem dX7_bladder_35 : decode cX7_bladder 35 = .ok (.ireturn, 1) := by decide +kernel
theorem dX7_bladder_36 : decode cX7_bladder 36 = .ok (.aload_n 0, 1) := by decide +kernel
theorem dX7_bladder_37 : decode cX7_bladder 37 = .ok (.getfield 26, 3) := by decide +kernel
theorem dX7_bladder_40 : decode cX7_bladder 40 = .ok (.getfield 121, 3) := by decide +kernel
theorem dX7_bladder_43 : decode cX7_bladder 43 = .ok (.iload_n 1, 1) := by decide +kernel
theorem dX7_bladder_44 : decode cX7_bladder 44 = .ok (.aaload, 1) := by decide +kernel
theorem dX7_bladder_45 : decode cX7_bladder 45 = .ok (.astore 5, 2) := by decide +kernel
theorem dX7_bladder_47 : decode cX7_bladder 47 = .ok (.aload_n 0, 1) := by decide +kernel
theorem dX7_bladder_48 : decode cX7_bladder 48 = .ok (.aload 5, 2) := by decide +kernel
theorem dX7_bladder_50 : decode cX7_bladder 50 = .ok (.getfield 122, 3) := by decide +kernel
theorem dX7_bladder_53 : decode cX7_bladder 53 = .ok (.aload 5, 2) := by decide +kernel
theorem dX7_bladder_55 : decode cX7_bladder 55 = .ok (.getfield 144, 3) := by decide +kernel
theorem dX7_bladder_58 : decode cX7_bladder 58 = .ok (.iadd, 1) := by decide +kernel
theorem dX7_bladder_59 : decode cX7_bladder 59 = .ok (.iload_n 2, 1) := by decide +kernel
theorem dX7_bladder_60 : decode cX7_bladder 60 = .ok (.iconst 0, 1) := by decide +kernel
theorem dX7_bladder_61 : decode cX7_bladder 61 = .ok (.invokevirtual 225, 3) := by decide +kernel
theorem dX7_bladder_64 : decode cX7_bladder 64 = .ok (.istore 6, 2) := by decide +kernel
theorem dX7_bladder_66 : decode cX7_bladder 66 = .ok (.aload_n 0, 1) := by decide +kernel
theorem dX7_bladder_67 : decode cX7_bladder 67 = .ok (.aload 5, 2) := by decide +kernel
theorem dX7_bladder_69 : decode cX7_bladder 69 = .ok (.getfield 122, 3) := by decide +kernel
theorem dX7_bladder_72 : decode cX7_bladder 72 = .ok (.aload 5, 2) := by decide +kernel
theorem dX7_bladder_74 : decode cX7_bladder 74 = .ok (.getfield 144, 3) := by decide +kernel
theorem dX7_bladder_77 : decode cX7_bladder 77 = .ok (.iadd, 1) := by decide +kernel
theorem dX7_bladder_78 : decode cX7_bladder 78 = .ok (.iload_n 3, 1) := by decide +kernel
theorem dX7_bladder_79 : decode cX7_bladder 79 = .ok (.iconst 0, 1) := by decide +kernel
theorem dX7_bladder_80 : decode cX7_bladder 80 = .ok (.invokevirtual 225, 3) := by decide +kernel
theorem dX7_bladder_83 : decode cX7_bladder 83 = .ok (.istore 7, 2) := by decide +kernel
theorem dX7_bladder_85 : decode cX7_bladder 85 = .ok (.iload 6, 2) := by decide +kernel
theorem dX7_bladder_87 : decode cX7_bladder 87 = .ok (.sipush 9999, 3) := by decide +kernel
theorem dX7_bladder_90 : decode cX7_bladder 90 = .ok (.if_icmp .gt 11, 3) := by decide +kernel
theorem dX7_bladder_93 : decode cX7_bladder 93 = .ok (.iload 7, 2) := by decide +kernel
theorem dX7_bladder_95 : decode cX7_bladder 95 = .ok (.sipush 9999, 3) := by decide +kernel
theorem dX7_bladder_98 : decode cX7_bladder 98 = .ok (.if_icmp .le 6, 3) := by decide +kernel
theorem dX7_bladder_101 : decode cX7_bladder 101 = .ok (.bipush (-4), 2) := by decide +kernel
theorem dX7_bladder_103 : decode cX7_bladder 103 = .ok (.ireturn, 1) := by decide +kernel
theorem dX7_bladder_104 : decode cX7_bladder 104 = .ok (.iload 4, 2) := by decide +kernel
theorem dX7_bladder_106 : decode cX7_bladder 106 = .ok (.iconst 1, 1) := by decide +kernel
theorem dX7_bladder_107 : decode cX7_bladder 107 = .ok (.if_icmp .ne 6, 3) := by decide +kernel
theorem dX7_bladder_110 : decode cX7_bladder 110 = .ok (.iload 7, 2) := by decide +kernel
theorem dX7_bladder_112 : decode cX7_bladder 112 = .ok (.ireturn, 1) := by decide +kernel
theorem dX7_bladder_113 : decode cX7_bladder 113 = .ok (.iload 6, 2) := by decide +kernel
theorem dX7_bladder_115 : decode cX7_bladder 115 = .ok (.iload 7, 2) := by decide +kernel
theorem dX7_bladder_117 : decode cX7_bladder 117 = .ok (.if_icmp .ne 5, 3) := by decide +kernel
theorem dX7_bladder_120 : decode cX7_bladder 120 = .ok (.iconst 0, 1) := by decide +kernel
theorem dX7_bladder_121 : decode cX7_bladder 121 = .ok (.ireturn, 1) := by decide +kernel
theorem dX7_bladder_122 : decode cX7_bladder 122 = .ok (.aload 5, 2) := by decide +kernel
theorem dX7_bladder_124 : decode cX7_bladder 124 = .ok (.getfield 133, 3) := by decide +kernel
theorem dX7_bladder_127 : decode cX7_bladder 127 = .ok (.ifCond .ne 8, 3) := by decide +kernel
theorem dX7_bladder_130 : decode cX7_bladder 130 = .ok (.bipush (-4), 2) := by decide +kernel
theorem dX7_bladder_132 : decode cX7_bladder 132 = .ok (.goto 19, 3) := by decide +kernel
theorem dX7_bladder_135 : decode cX7_bladder 135 = .ok (.iload 7, 2) := by decide +kernel
theorem dX7_bladder_137 : decode cX7_bladder 137 = .ok (.iload 6, 2) := by decide +kernel
theorem dX7_bladder_139 : decode cX7_bladder 139 = .ok (.isub, 1) := by decide +kernel
theorem dX7_bladder_140 : decode cX7_bladder 140 = .ok (.invokestatic 207, 3) := by decide +kernel
theorem dX7_bladder_143 : decode cX7_bladder 143 = .ok (.aload 5, 2) := by decide +kernel
theorem dX7_bladder_145 : decode cX7_bladder 145 = .ok (.getfield 133, 3) := by decide +kernel
theorem dX7_bladder_148 : decode cX7_bladder 148 = .ok (.invokestatic 283, 3) := by decide +kernel
theorem dX7_bladder_151 : decode cX7_bladder 151 = .ok (.ireturn, 1) := by decide +kernel
theorem dX7_beats_0 : decode cX7_beats 0 = .ok (.aload_n 0, 1) := by decide +kernel
theorem dX7_beats_1 : decode cX7_beats 1 = .ok (.iload_n 1, 1) := by decide +kernel
theorem dX7_beats_2 : decode cX7_beats 2 = .ok (.invokevirtual 116, 3) := by decide +kernel
theorem dX7_beats_5 : decode cX7_beats 5 = .ok (.ifCond .eq 34, 3) := by decide +kernel
theorem dX7_beats_8 : decode cX7_beats 8 = .ok (.iload_n 2, 1) := by decide +kernel
theorem dX7_beats_9 : decode cX7_beats 9 = .ok (.iconst 0, 1) := by decide +kernel
theorem dX7_beats_10 : decode cX7_beats 10 = .ok (.sipush 9999, 3) := by decide +kernel
theorem dX7_beats_13 : decode cX7_beats 13 = .ok (.invokestatic 77, 3) := by decide +kernel
theorem dX7_beats_16 : decode cX7_beats 16 = .ok (.ifCond .eq 23, 3) := by decide +kernel
theorem dX7_beats_19 : decode cX7_beats 19 = .ok (.iload_n 3, 1) := by decide +kernel
theorem dX7_beats_20 : decode cX7_beats 20 = .ok (.iconst 1, 1) := by decide +kernel
theorem dX7_beats_21 : decode cX7_beats 21 = .ok (.bipush 99, 2) := by decide +kernel
theorem dX7_beats_23 : decode cX7_beats 23 = .ok (.invokestatic 77, 3) := by decide +kernel
theorem dX7_beats_26 : decode cX7_beats 26 = .ok (.ifCond .eq 13, 3) := by decide +kernel
theorem dX7_beats_29 : decode cX7_beats 29 = .ok (.iload 4, 2) := by decide +kernel
theorem dX7_beats_31 : decode cX7_beats 31 = .ok (.iconst 0, 1) := by decide +kernel
theorem dX7_beats_32 : decode cX7_beats 32 = .ok (.iconst 1, 1) := by decide +kernel
theorem dX7_beats_33 : decode cX7_beats 33 = .ok (.invokestatic 77, 3) := by decide +kernel
theorem dX7_beats_36 : decode cX7_beats 36 = .ok (.ifCond .ne 5, 3) := by decide +kernel
theorem dX7_beats_39 : decode cX7_beats 39 = .ok (.iconst (-1), 1) := by decide +kernel
theorem dX7_beats_40 : decode cX7_beats 40 = .ok (.ireturn, 1) := by decide +kernel
theorem dX7_beats_41 : decode cX7_beats 41 = .ok (.aload_n 0, 1) := by decide +kernel
theorem dX7_beats_42 : decode cX7_beats 42 = .ok (.getfield 26, 3) := by decide +kernel
theorem dX7_beats_45 : decode cX7_beats 45 = .ok (.getfield 121, 3) := by decide +kernel
theorem dX7_beats_48 : decode cX7_beats 48 = .ok (.iload_n 1, 1) := by decide +kernel
theorem dX7_beats_49 : decode cX7_beats 49 = .ok (.aaload, 1) := by decide +kernel
theorem dX7_beats_50 : decode cX7_beats 50 = .ok (.getfield 122, 3) := by decide +kernel
theorem dX7_beats_53 : decode cX7_beats 53 = .ok (.istore 5, 2) := by decide +kernel
theorem dX7_beats_55 : decode cX7_beats 55 = .ok (.aload_n 0, 1) := by decide +kernel
theorem dX7_beats_56 : decode cX7_beats 56 = .ok (.iload 5, 2) := by decide +kernel
theorem dX7_beats_58 : decode cX7_beats 58 = .ok (.aload_n 0, 1) := by decide +kernel
theorem dX7_beats_59 : decode cX7_beats 59 = .ok (.getfield 19, 3) := by decide +kernel
theorem dX7_beats_62 : decode cX7_beats 62 = .ok (.getfield 62, 3) := by decide +kernel
theorem dX7_beats_65 : decode cX7_beats 65 = .ok (.iconst 0, 1) := by decide +kernel
theorem dX7_beats_66 : decode cX7_beats 66 = .ok (.iaload, 1) := by decide +kernel
theorem dX7_beats_67 : decode cX7_beats 67 = .ok (.invokevirtual 286, 3) := by decide +kernel
theorem dX7_beats_70 : decode cX7_beats 70 = .ok (.istore 6, 2) := by decide +kernel
theorem dX7_beats_72 : decode cX7_beats 72 = .ok (.iload_n 2, 1) := by decide +kernel
theorem dX7_beats_73 : decode cX7_beats 73 = .ok (.aload_n 0, 1) := by decide +kernel
theorem dX7_beats_74 : decode cX7_beats 74 = .ok (.iload 5, 2) := by decide +kernel
theorem dX7_beats_76 : decode cX7_beats 76 = .ok (.iconst 0, 1) := by decide +kernel
theorem dX7_beats_77 : decode cX7_beats 77 = .ok (.iconst 0, 1) := by decide +kernel
theorem dX7_beats_78 : decode cX7_beats 78 = .ok (.invokevirtual 225, 3) := by decide +kernel
theorem dX7_beats_81 : decode cX7_beats 81 = .ok (.if_icmp .ge 11, 3) := by decide +kernel
theorem dX7_beats_84 : decode cX7_beats 84 = .ok (.iload 6, 2) := by decide +kernel
theorem dX7_beats_86 : decode cX7_beats 86 = .ok (.sipush 9999, 3) := by decide +kernel
theorem dX7_beats_89 : decode cX7_beats 89 = .ok (.if_icmp .le 6, 3) := by decide +kernel
theorem dX7_beats_92 : decode cX7_beats 92 = .ok (.bipush (-4), 2) := by decide +kernel
theorem dX7_beats_94 : decode cX7_beats 94 = .ok (.ireturn, 1) := by decide +kernel
theorem dX7_beats_95 : decode cX7_beats 95 = .ok (.iconst 0, 1) := by decide +kernel
theorem dX7_beats_96 : decode cX7_beats 96 = .ok (.iload 6, 2) := by decide +kernel
theorem dX7_beats_98 : decode cX7_beats 98 = .ok (.iload_n 2, 1) := by decide +kernel
theorem dX7_beats_99 : decode cX7_beats 99 = .ok (.isub, 1) := by decide +kernel
theorem dX7_beats_100 : decode cX7_beats 100 = .ok (.invokestatic 280, 3) := by decide +kernel
theorem dX7_beats_103 : decode cX7_beats 103 = .ok (.iload_n 3, 1) := by decide +kernel
theorem dX7_beats_104 : decode cX7_beats 104 = .ok (.invokestatic 283, 3) := by decide +kernel
theorem dX7_beats_107 : decode cX7_beats 107 = .ok (.istore 7, 2) := by decide +kernel
theorem dX7_beats_109 : decode cX7_beats 109 = .ok (.iload 4, 2) := by decide +kernel
theorem dX7_beats_111 : decode cX7_beats 111 = .ok (.ifCond .ne 10, 3) := by decide +kernel
theorem dX7_beats_114 : decode cX7_beats 114 = .ok (.iload 7, 2) := by decide +kernel
theorem dX7_beats_116 : decode cX7_beats 116 = .ok (.iconst 2, 1) := by decide +kernel
theorem dX7_beats_117 : decode cX7_beats 117 = .ok (.iadd, 1) := by decide +kernel
theorem dX7_beats_118 : decode cX7_beats 118 = .ok (.goto 15, 3) := by decide +kernel
theorem dX7_beats_121 : decode cX7_beats 121 = .ok (.sipush 9999, 3) := by decide +kernel
theorem dX7_beats_124 : decode cX7_beats 124 = .ok (.iload_n 2, 1) := by decide +kernel
theorem dX7_beats_125 : decode cX7_beats 125 = .ok (.iload 7, 2) := by decide +kernel
theorem dX7_beats_127 : decode cX7_beats 127 = .ok (.iload_n 3, 1) := by decide +kernel
theorem dX7_beats_128 : decode cX7_beats 128 = .ok (.imul, 1) := by decide +kernel
theorem dX7_beats_129 : decode cX7_beats 129 = .ok (.iadd, 1) := by decide +kernel
theorem dX7_beats_130 : decode cX7_beats 130 = .ok (.invokestatic 216, 3) := by decide +kernel
theorem dX7_beats_133 : decode cX7_beats 133 = .ok (.ireturn, 1) := by decide +kernel
theorem dX7_saw_0 : decode cX7_saw 0 = .ok (.iload_n 1, 1) := by decide +kernel
theorem dX7_saw_1 : decode cX7_saw 1 = .ok (.invokestatic 164, 3) := by decide +kernel
theorem dX7_saw_4 : decode cX7_saw 4 = .ok (.ifCond .eq 11, 3) := by decide +kernel
theorem dX7_saw_7 : decode cX7_saw 7 = .ok (.aload_n 0, 1) := by decide +kernel
theorem dX7_saw_8 : decode cX7_saw 8 = .ok (.iload_n 2, 1) := by decide +kernel
theorem dX7_saw_9 : decode cX7_saw 9 = .ok (.invokevirtual 188, 3) := by decide +kernel
theorem dX7_saw_12 : decode cX7_saw 12 = .ok (.ifCond .ne 5, 3) := by decide +kernel
theorem dX7_saw_15 : decode cX7_saw 15 = .ok (.iconst (-1), 1) := by decide +kernel
theorem dX7_saw_16 : decode cX7_saw 16 = .ok (.ireturn, 1) := by decide +kernel
theorem dX7_saw_17 : decode cX7_saw 17 = .ok (.aload_n 0, 1) := by decide +kernel
theorem dX7_saw_18 : decode cX7_saw 18 = .ok (.getfield 26, 3) := by decide +kernel
theorem dX7_saw_21 : decode cX7_saw 21 = .ok (.getfield 289, 3) := by decide +kernel
theorem dX7_saw_24 : decode cX7_saw 24 = .ok (.iload_n 1, 1) := by decide +kernel
theorem dX7_saw_25 : decode cX7_saw 25 = .ok (.iload_n 2, 1) := by decide +kernel
theorem dX7_saw_26 : decode cX7_saw 26 = .ok (.iload_n 3, 1) := by decide +kernel
theorem dX7_saw_27 : decode cX7_saw 27 = .ok (.invokevirtual 292, 3) := by decide +kernel
theorem dX7_saw_30 : decode cX7_saw 30 = .ok (.ifCond .eq 16, 3) := by decide +kernel
theorem dX7_saw_33 : decode cX7_saw 33 = .ok (.aload_n 0, 1) := by decide +kernel
theorem dX7_saw_34 : decode cX7_saw 34 = .ok (.getfield 26, 3) := by decide +kernel
theorem dX7_saw_37 : decode cX7_saw 37 = .ok (.getfield 289, 3) := by decide +kernel
theorem dX7_saw_40 : decode cX7_saw 40 = .ok (.getfield 296, 3) := by decide +kernel
theorem dX7_saw_43 : decode cX7_saw 43 = .ok (.goto 5, 3) := by decide +kernel
theorem dX7_saw_46 : decode cX7_saw 46 = .ok (.bipush (-3), 2) := by decide +kernel
theorem dX7_saw_48 : decode cX7_saw 48 = .ok (.ireturn, 1) := by decide +kernel
theorem dX7_forget_0 : decode cX7_forget 0 = .ok (.aload_n 0, 1) := by decide +kernel
theorem dX7_forget_1 : decode cX7_forget 1 = .ok (.getfield 26, 3) := by decide +kernel
theorem dX7_forget_4 : decode cX7_forget 4 = .ok (.getfield 289, 3) := by decide +kernel
theorem dX7_forget_7 : decode cX7_forget 7 = .ok (.getfield 296, 3) := by decide +kernel
theorem dX7_forget_10 : decode cX7_forget 10 = .ok (.istore_n 1, 1) := by decide +kernel
theorem dX7_forget_11 : decode cX7_forget 11 = .ok (.aload_n 0, 1) := by decide +kernel
theorem dX7_forget_12 : decode cX7_forget 12 = .ok (.getfield 26, 3) := by decide +kernel
theorem dX7_forget_15 : decode cX7_forget 15 = .ok (.getfield 289, 3) := by decide +kernel
theorem dX7_forget_18 : decode cX7_forget 18 = .ok (.iconst 0, 1) := by decide +kernel
theorem dX7_forget_19 : decode cX7_forget 19 = .ok (.putfield 296, 3) := by decide +kernel
theorem dX7_forget_22 : decode cX7_forget 22 = .ok (.iload_n 1, 1) := by decide +kernel
theorem dX7_forget_23 : decode cX7_forget 23 = .ok (.ireturn, 1) := by decide +kernel
theorem dX7_fits_0 : decode cX7_fits 0 = .ok (.iload_n 1, 1) := by decide +kernel
theorem dX7_fits_1 : decode cX7_fits 1 = .ok (.invokestatic 219, 3) := by decide +kernel
theorem dX7_fits_4 : decode cX7_fits 4 = .ok (.ifCond .eq 12, 3) := by decide +kernel
theorem dX7_fits_7 : decode cX7_fits 7 = .ok (.iload_n 2, 1) := by decide +kernel
theorem dX7_fits_8 : decode cX7_fits 8 = .ok (.iconst 0, 1) := by decide +kernel
theorem dX7_fits_9 : decode cX7_fits 9 = .ok (.iconst 2, 1) := by decide +kernel
theorem dX7_fits_10 : decode cX7_fits 10 = .ok (.invokestatic 77, 3) := by decide +kernel
theorem dX7_fits_13 : decode cX7_fits 13 = .ok (.ifCond .ne 5, 3) := by decide +kernel
theorem dX7_fits_16 : decode cX7_fits 16 = .ok (.iconst (-1), 1) := by decide +kernel
theorem dX7_fits_17 : decode cX7_fits 17 = .ok (.ireturn, 1) := by decide +kernel
theorem dX7_fits_18 : decode cX7_fits 18 = .ok (.aload_n 0, 1) := by decide +kernel
theorem dX7_fits_19 : decode cX7_fits 19 = .ok (.getfield 26, 3) := by decide +kernel
theorem dX7_fits_22 : decode cX7_fits 22 = .ok (.getfield 289, 3) := by decide +kernel
theorem dX7_fits_25 : decode cX7_fits 25 = .ok (.astore_n 3, 1) := by decide +kernel
theorem dX7_fits_26 : decode cX7_fits 26 = .ok (.iconst 0, 1) := by decide +kernel
theorem dX7_fits_27 : decode cX7_fits 27 = .ok (.istore 4, 2) := by decide +kernel
theorem dX7_fits_29 : decode cX7_fits 29 = .ok (.sipush 9999, 3) := by decide +kernel
theorem dX7_fits_32 : decode cX7_fits 32 = .ok (.istore 5, 2) := by decide +kernel
theorem dX7_fits_34 : decode cX7_fits 34 = .ok (.iconst 0, 1) := by decide +kernel
theorem dX7_fits_35 : decode cX7_fits 35 = .ok (.istore 6, 2) := by decide +kernel
theorem dX7_fits_37 : decode cX7_fits 37 = .ok (.iload 6, 2) := by decide +kernel
theorem dX7_fits_39 : decode cX7_fits 39 = .ok (.aload_n 3, 1) := by decide +kernel
theorem dX7_fits_40 : decode cX7_fits 40 = .ok (.getfield 296, 3) := by decide +kernel
theorem dX7_fits_43 : decode cX7_fits 43 = .ok (.if_icmp .ge 63, 3) := by decide +kernel
theorem dX7_fits_46 : decode cX7_fits 46 = .ok (.aload_n 0, 1) := by decide +kernel
theorem dX7_fits_47 : decode cX7_fits 47 = .ok (.iload_n 1, 1) := by decide +kernel
theorem dX7_fits_48 : decode cX7_fits 48 = .ok (.aload_n 3, 1) := by decide +kernel
theorem dX7_fits_49 : decode cX7_fits 49 = .ok (.getfield 299, 3) := by decide +kernel
theorem dX7_fits_52 : decode cX7_fits 52 = .ok (.iload 6, 2) := by decide +kernel
theorem dX7_fits_54 : decode cX7_fits 54 = .ok (.iaload, 1) := by decide +kernel
theorem dX7_fits_55 : decode cX7_fits 55 = .ok (.aload_n 3, 1) := by decide +kernel
theorem dX7_fits_56 : decode cX7_fits 56 = .ok (.getfield 302, 3) := by decide +kernel
theorem dX7_fits_59 : decode cX7_fits 59 = .ok (.iload 6, 2) := by decide +kernel
theorem dX7_fits_61 : decode cX7_fits 61 = .ok (.iaload, 1) := by decide +kernel
theorem dX7_fits_62 : decode cX7_fits 62 = .ok (.invokevirtual 225, 3) := by decide +kernel
theorem dX7_fits_65 : decode cX7_fits 65 = .ok (.istore 7, 2) := by decide +kernel
theorem dX7_fits_67 : decode cX7_fits 67 = .ok (.aload_n 3, 1) := by decide +kernel
theorem dX7_fits_68 : decode cX7_fits 68 = .ok (.getfield 305, 3) := by decide +kernel
theorem dX7_fits_71 : decode cX7_fits 71 = .ok (.iload 6, 2) := by decide +kernel
theorem dX7_fits_73 : decode cX7_fits 73 = .ok (.baload, 1) := by decide +kernel
theorem dX7_fits_74 : decode cX7_fits 74 = .ok (.ifCond .eq 17, 3) := by decide +kernel
theorem dX7_fits_77 : decode cX7_fits 77 = .ok (.iload 5, 2) := by decide +kernel
theorem dX7_fits_79 : decode cX7_fits 79 = .ok (.iload 7, 2) := by decide +kernel
theorem dX7_fits_81 : decode cX7_fits 81 = .ok (.iconst 1, 1) := by decide +kernel
theorem dX7_fits_82 : decode cX7_fits 82 = .ok (.isub, 1) := by decide +kernel
theorem dX7_fits_83 : decode cX7_fits 83 = .ok (.invokestatic 216, 3) := by decide +kernel
theorem dX7_fits_86 : decode cX7_fits 86 = .ok (.istore 5, 2) := by decide +kernel
theorem dX7_fits_88 : decode cX7_fits 88 = .ok (.goto 12, 3) := by decide +kernel
theorem dX7_fits_91 : decode cX7_fits 91 = .ok (.iload 4, 2) := by decide +kernel
theorem dX7_fits_93 : decode cX7_fits 93 = .ok (.iload 7, 2) := by decide +kernel
theorem dX7_fits_95 : decode cX7_fits 95 = .ok (.invokestatic 280, 3) := by decide +kernel
theorem dX7_fits_98 : decode cX7_fits 98 = .ok (.istore 4, 2) := by decide +kernel
theorem dX7_fits_100 : decode cX7_fits 100 = .ok (.iinc 6 1, 3) := by decide +kernel
theorem dX7_fits_103 : decode cX7_fits 103 = .ok (.goto (-66), 3) := by decide +kernel
theorem dX7_fits_106 : decode cX7_fits 106 = .ok (.iload 4, 2) := by decide +kernel
theorem dX7_fits_108 : decode cX7_fits 108 = .ok (.iload 5, 2) := by decide +kernel
theorem dX7_fits_110 : decode cX7_fits 110 = .ok (.iload_n 2, 1) := by decide +kernel
theorem dX7_fits_111 : decode cX7_fits 111 = .ok (.invokestatic 229, 3) := by decide +kernel
theorem dX7_fits_114 : decode cX7_fits 114 = .ok (.ireturn, 1) := by decide +kernel
theorem dX7_who_0 : decode cX7_who 0 = .ok (.iconst 0, 1) := by decide +kernel
theorem dX7_who_1 : decode cX7_who 1 = .ok (.istore_n 1, 1) := by decide +kernel
theorem dX7_who_2 : decode cX7_who 2 = .ok (.iconst 0, 1) := by decide +kernel
theorem dX7_who_3 : decode cX7_who 3 = .ok (.istore_n 2, 1) := by decide +kernel
theorem dX7_who_4 : decode cX7_who 4 = .ok (.iload_n 2, 1) := by decide +kernel
theorem dX7_who_5 : decode cX7_who 5 = .ok (.aload_n 0, 1) := by decide +kernel
theorem dX7_who_6 : decode cX7_who 6 = .ok (.getfield 26, 3) := by decide +kernel
theorem dX7_who_9 : decode cX7_who 9 = .ok (.getfield 173, 3) := by decide +kernel
theorem dX7_who_12 : decode cX7_who 12 = .ok (.if_icmp .ge 31, 3) := by decide +kernel
theorem dX7_who_15 : decode cX7_who 15 = .ok (.aload_n 0, 1) := by decide +kernel
theorem dX7_who_16 : decode cX7_who 16 = .ok (.aload_n 0, 1) := by decide +kernel
theorem dX7_who_17 : decode cX7_who 17 = .ok (.getfield 26, 3) := by decide +kernel
theorem dX7_who_20 : decode cX7_who 20 = .ok (.getfield 121, 3) := by decide +kernel
theorem dX7_who_23 : decode cX7_who 23 = .ok (.iload_n 2, 1) := by decide +kernel
theorem dX7_who_24 : decode cX7_who 24 = .ok (.aaload, 1) := by decide +kernel
theorem dX7_who_25 : decode cX7_who 25 = .ok (.invokevirtual 308, 3) := by decide +kernel
theorem dX7_who_28 : decode cX7_who 28 = .ok (.ifCond .eq 9, 3) := by decide +kernel
theorem dX7_who_31 : decode cX7_who 31 = .ok (.iload_n 1, 1) := by decide +kernel
theorem dX7_who_32 : decode cX7_who 32 = .ok (.iconst 1, 1) := by decide +kernel
theorem dX7_who_33 : decode cX7_who 33 = .ok (.iload_n 2, 1) := by decide +kernel
theorem dX7_who_34 : decode cX7_who 34 = .ok (.ishl, 1) := by decide +kernel
theorem dX7_who_35 : decode cX7_who 35 = .ok (.ior, 1) := by decide +kernel
theorem dX7_who_36 : decode cX7_who 36 = .ok (.istore_n 1, 1) := by decide +kernel
theorem dX7_who_37 : decode cX7_who 37 = .ok (.iinc 2 1, 3) := by decide +kernel
theorem dX7_who_40 : decode cX7_who 40 = .ok (.goto (-36), 3) := by decide +kernel
theorem dX7_who_43 : decode cX7_who 43 = .ok (.iload_n 1, 1) := by decide +kernel
theorem dX7_who_44 : decode cX7_who 44 = .ok (.ireturn, 1) := by decide +kernel
theorem dX7_keep_0 : decode cX7_keep 0 = .ok (.iload_n 1, 1) := by decide +kernel
theorem dX7_keep_1 : decode cX7_keep 1 = .ok (.iconst 0, 1) := by decide +kernel
theorem dX7_keep_2 : decode cX7_keep 2 = .ok (.iconst 1, 1) := by decide +kernel
theorem dX7_keep_3 : decode cX7_keep 3 = .ok (.invokestatic 77, 3) := by decide +kernel
theorem dX7_keep_6 : decode cX7_keep 6 = .ok (.ifCond .ne 5, 3) := by decide +kernel
theorem dX7_keep_9 : decode cX7_keep 9 = .ok (.iconst (-1), 1) := by decide +kernel
theorem dX7_keep_10 : decode cX7_keep 10 = .ok (.ireturn, 1) := by decide +kernel
theorem dX7_keep_11 : decode cX7_keep 11 = .ok (.aload_n 0, 1) := by decide +kernel
theorem dX7_keep_12 : decode cX7_keep 12 = .ok (.getfield 34, 3) := by decide +kernel
theorem dX7_keep_15 : decode cX7_keep 15 = .ok (.iload_n 1, 1) := by decide +kernel
theorem dX7_keep_16 : decode cX7_keep 16 = .ok (.baload, 1) := by decide +kernel
theorem dX7_keep_17 : decode cX7_keep 17 = .ok (.invokestatic 140, 3) := by decide +kernel
theorem dX7_keep_20 : decode cX7_keep 20 = .ok (.istore_n 2, 1) := by decide +kernel
theorem dX7_keep_21 : decode cX7_keep 21 = .ok (.aload_n 0, 1) := by decide +kernel
theorem dX7_keep_22 : decode cX7_keep 22 = .ok (.getfield 30, 3) := by decide +kernel
theorem dX7_keep_25 : decode cX7_keep 25 = .ok (.iload_n 1, 1) := by decide +kernel
theorem dX7_keep_26 : decode cX7_keep 26 = .ok (.aaload, 1) := by decide +kernel
theorem dX7_keep_27 : decode cX7_keep 27 = .ok (.aload_n 0, 1) := by decide +kernel
theorem dX7_keep_28 : decode cX7_keep 28 = .ok (.getfield 26, 3) := by decide +kernel
theorem dX7_keep_31 : decode cX7_keep 31 = .ok (.invokevirtual 312, 3) := by decide +kernel
theorem dX7_keep_34 : decode cX7_keep 34 = .ok (.aload_n 0, 1) := by decide +kernel
theorem dX7_keep_35 : decode cX7_keep 35 = .ok (.getfield 34, 3) := by decide +kernel
theorem dX7_keep_38 : decode cX7_keep 38 = .ok (.iload_n 1, 1) := by decide +kernel
theorem dX7_keep_39 : decode cX7_keep 39 = .ok (.iconst 1, 1) := by decide +kernel
theorem dX7_keep_40 : decode cX7_keep 40 = .ok (.bastore, 1) := by decide +kernel
theorem dX7_keep_41 : decode cX7_keep 41 = .ok (.iload_n 2, 1) := by decide +kernel
theorem dX7_keep_42 : decode cX7_keep 42 = .ok (.ireturn, 1) := by decide +kernel
theorem dX7_restore_0 : decode cX7_restore 0 = .ok (.iload_n 1, 1) := by decide +kernel
theorem dX7_restore_1 : decode cX7_restore 1 = .ok (.iconst 0, 1) := by decide +kernel
theorem dX7_restore_2 : decode cX7_restore 2 = .ok (.iconst 1, 1) := by decide +kernel
theorem dX7_restore_3 : decode cX7_restore 3 = .ok (.invokestatic 77, 3) := by decide +kernel
theorem dX7_restore_6 : decode cX7_restore 6 = .ok (.ifCond .ne 5, 3) := by decide +kernel
theorem dX7_restore_9 : decode cX7_restore 9 = .ok (.iconst (-1), 1) := by decide +kernel
theorem dX7_restore_10 : decode cX7_restore 10 = .ok (.ireturn, 1) := by decide +kernel
theorem dX7_restore_11 : decode cX7_restore 11 = .ok (.aload_n 0, 1) := by decide +kernel
theorem dX7_restore_12 : decode cX7_restore 12 = .ok (.getfield 34, 3) := by decide +kernel
theorem dX7_restore_15 : decode cX7_restore 15 = .ok (.iload_n 1, 1) := by decide +kernel
theorem dX7_restore_16 : decode cX7_restore 16 = .ok (.baload, 1) := by decide +kernel
theorem dX7_restore_17 : decode cX7_restore 17 = .ok (.ifCond .ne 6, 3) := by decide +kernel
theorem dX7_restore_20 : decode cX7_restore 20 = .ok (.bipush (-2), 2) := by decide +kernel
theorem dX7_restore_22 : decode cX7_restore 22 = .ok (.ireturn, 1) := by decide +kernel
theorem dX7_restore_23 : decode cX7_restore 23 = .ok (.aload_n 0, 1) := by decide +kernel
theorem dX7_restore_24 : decode cX7_restore 24 = .ok (.getfield 26, 3) := by decide +kernel
theorem dX7_restore_27 : decode cX7_restore 27 = .ok (.aload_n 0, 1) := by decide +kernel
theorem dX7_restore_28 : decode cX7_restore 28 = .ok (.getfield 30, 3) := by decide +kernel
theorem dX7_restore_31 : decode cX7_restore 31 = .ok (.iload_n 1, 1) := by decide +kernel
theorem dX7_restore_32 : decode cX7_restore 32 = .ok (.aaload, 1) := by decide +kernel
theorem dX7_restore_33 : decode cX7_restore 33 = .ok (.invokevirtual 312, 3) := by decide +kernel
theorem dX7_restore_36 : decode cX7_restore 36 = .ok (.aload_n 0, 1) := by decide +kernel
theorem dX7_restore_37 : decode cX7_restore 37 = .ok (.getfield 26, 3) := by decide +kernel
theorem dX7_restore_40 : decode cX7_restore 40 = .ok (.getfield 178, 3) := by decide +kernel
theorem dX7_restore_43 : decode cX7_restore 43 = .ok (.ireturn, 1) := by decide +kernel
theorem dX7_sheet_0 : decode cX7_sheet 0 = .ok (.iload_n 1, 1) := by decide +kernel
theorem dX7_sheet_1 : decode cX7_sheet 1 = .ok (.invokestatic 315, 3) := by decide +kernel
theorem dX7_sheet_4 : decode cX7_sheet 4 = .ok (.ifCond .eq 16, 3) := by decide +kernel
theorem dX7_sheet_7 : decode cX7_sheet 7 = .ok (.iload_n 2, 1) := by decide +kernel
theorem dX7_sheet_8 : decode cX7_sheet 8 = .ok (.invokestatic 318, 3) := by decide +kernel
theorem dX7_sheet_11 : decode cX7_sheet 11 = .ok (.ifCond .eq 9, 3) := by decide +kernel
theorem dX7_sheet_14 : decode cX7_sheet 14 = .ok (.iload_n 3, 1) := by decide +kernel
theorem dX7_sheet_15 : decode cX7_sheet 15 = .ok (.bipush 40, 2) := by decide +kernel
theorem dX7_sheet_17 : decode cX7_sheet 17 = .ok (.if_icmp .le 5, 3) := by decide +kernel
theorem dX7_sheet_20 : decode cX7_sheet 20 = .ok (.iconst (-1), 1) := by decide +kernel
theorem dX7_sheet_21 : decode cX7_sheet 21 = .ok (.ireturn, 1) := by decide +kernel
theorem dX7_sheet_22 : decode cX7_sheet 22 = .ok (.iload_n 3, 1) := by decide +kernel
theorem dX7_sheet_23 : decode cX7_sheet 23 = .ok (.ifCond .ge 6, 3) := by decide +kernel
theorem dX7_sheet_26 : decode cX7_sheet 26 = .ok (.bipush (-14), 2) := by decide +kernel
theorem dX7_sheet_28 : decode cX7_sheet 28 = .ok (.ireturn, 1) := by decide +kernel
theorem dX7_sheet_29 : decode cX7_sheet 29 = .ok (.aload_n 0, 1) := by decide +kernel
theorem dX7_sheet_30 : decode cX7_sheet 30 = .ok (.getfield 40, 3) := by decide +kernel
theorem dX7_sheet_33 : decode cX7_sheet 33 = .ok (.iload_n 1, 1) := by decide +kernel
theorem dX7_sheet_34 : decode cX7_sheet 34 = .ok (.aaload, 1) := by decide +kernel
theorem dX7_sheet_35 : decode cX7_sheet 35 = .ok (.iload_n 2, 1) := by decide +kernel
theorem dX7_sheet_36 : decode cX7_sheet 36 = .ok (.iload_n 3, 1) := by decide +kernel
theorem dX7_sheet_37 : decode cX7_sheet 37 = .ok (.invokevirtual 321, 3) := by decide +kernel
theorem dX7_sheet_40 : decode cX7_sheet 40 = .ok (.iconst 1, 1) := by decide +kernel
theorem dX7_sheet_41 : decode cX7_sheet 41 = .ok (.ireturn, 1) := by decide +kernel
theorem dX7_lay_0 : decode cX7_lay 0 = .ok (.iload_n 1, 1) := by decide +kernel
theorem dX7_lay_1 : decode cX7_lay 1 = .ok (.invokestatic 315, 3) := by decide +kernel
theorem dX7_lay_4 : decode cX7_lay 4 = .ok (.ifCond .ne 5, 3) := by decide +kernel
theorem dX7_lay_7 : decode cX7_lay 7 = .ok (.iconst (-1), 1) := by decide +kernel
theorem dX7_lay_8 : decode cX7_lay 8 = .ok (.ireturn, 1) := by decide +kernel
theorem dX7_lay_9 : decode cX7_lay 9 = .ok (.aload_n 0, 1) := by decide +kernel
theorem dX7_lay_10 : decode cX7_lay 10 = .ok (.getfield 40, 3) := by decide +kernel
theorem dX7_lay_13 : decode cX7_lay 13 = .ok (.iload_n 1, 1) := by decide +kernel
theorem dX7_lay_14 : decode cX7_lay 14 = .ok (.aaload, 1) := by decide +kernel
theorem dX7_lay_15 : decode cX7_lay 15 = .ok (.iload_n 2, 1) := by decide +kernel
theorem dX7_lay_16 : decode cX7_lay 16 = .ok (.invokevirtual 325, 3) := by decide +kernel
theorem dX7_lay_19 : decode cX7_lay 19 = .ok (.istore 4, 2) := by decide +kernel
theorem dX7_lay_21 : decode cX7_lay 21 = .ok (.iload 4, 2) := by decide +kernel
theorem dX7_lay_23 : decode cX7_lay 23 = .ok (.ifCond .eq 9, 3) := by decide +kernel
theorem dX7_lay_26 : decode cX7_lay 26 = .ok (.bipush (-10), 2) := by decide +kernel
theorem dX7_lay_28 : decode cX7_lay 28 = .ok (.iload 4, 2) := by decide +kernel
theorem dX7_lay_30 : decode cX7_lay 30 = .ok (.isub, 1) := by decide +kernel
theorem dX7_lay_31 : decode cX7_lay 31 = .ok (.ireturn, 1) := by decide +kernel
theorem dX7_lay_32 : decode cX7_lay 32 = .ok (.aload_n 0, 1) := by decide +kernel
theorem dX7_lay_33 : decode cX7_lay 33 = .ok (.getfield 40, 3) := by decide +kernel
theorem dX7_lay_36 : decode cX7_lay 36 = .ok (.iload_n 1, 1) := by decide +kernel
theorem dX7_lay_37 : decode cX7_lay 37 = .ok (.aaload, 1) := by decide +kernel
theorem dX7_lay_38 : decode cX7_lay 38 = .ok (.iload_n 2, 1) := by decide +kernel
theorem dX7_lay_39 : decode cX7_lay 39 = .ok (.iload_n 3, 1) := by decide +kernel
theorem dX7_lay_40 : decode cX7_lay 40 = .ok (.invokevirtual 328, 3) := by decide +kernel
theorem dX7_lay_43 : decode cX7_lay 43 = .ok (.iconst 1, 1) := by decide +kernel
theorem dX7_lay_44 : decode cX7_lay 44 = .ok (.ireturn, 1) := by decide +kernel
theorem dX7_read_0 : decode cX7_read 0 = .ok (.iload_n 1, 1) := by decide +kernel
theorem dX7_read_1 : decode cX7_read 1 = .ok (.invokestatic 315, 3) := by decide +kernel
theorem dX7_read_4 : decode cX7_read 4 = .ok (.ifCond .eq 21, 3) := by decide +kernel
theorem dX7_read_7 : decode cX7_read 7 = .ok (.iload_n 2, 1) := by decide +kernel
theorem dX7_read_8 : decode cX7_read 8 = .ok (.invokestatic 318, 3) := by decide +kernel
theorem dX7_read_11 : decode cX7_read 11 = .ok (.ifCond .eq 14, 3) := by decide +kernel
theorem dX7_read_14 : decode cX7_read 14 = .ok (.iload 4, 2) := by decide +kernel
theorem dX7_read_16 : decode cX7_read 16 = .ok (.iconst 0, 1) := by decide +kernel
theorem dX7_read_17 : decode cX7_read 17 = .ok (.bipush 12, 2) := by decide +kernel
theorem dX7_read_19 : decode cX7_read 19 = .ok (.invokestatic 77, 3) := by decide +kernel
theorem dX7_read_22 : decode cX7_read 22 = .ok (.ifCond .ne 5, 3) := by decide +kernel
theorem dX7_read_25 : decode cX7_read 25 = .ok (.iconst (-1), 1) := by decide +kernel
theorem dX7_read_26 : decode cX7_read 26 = .ok (.ireturn, 1) := by decide +kernel
theorem dX7_read_27 : decode cX7_read 27 = .ok (.aload_n 0, 1) := by decide +kernel
theorem dX7_read_28 : decode cX7_read 28 = .ok (.getfield 40, 3) := by decide +kernel
theorem dX7_read_31 : decode cX7_read 31 = .ok (.iload_n 1, 1) := by decide +kernel
theorem dX7_read_32 : decode cX7_read 32 = .ok (.aaload, 1) := by decide +kernel
theorem dX7_read_33 : decode cX7_read 33 = .ok (.astore 5, 2) := by decide +kernel
theorem dX7_read_35 : decode cX7_read 35 = .ok (.iconst 0, 1) := by decide +kernel
theorem dX7_read_36 : decode cX7_read 36 = .ok (.istore 6, 2) := by decide +kernel
theorem dX7_read_38 : decode cX7_read 38 = .ok (.aload_n 0, 1) := by decide +kernel
theorem dX7_read_39 : decode cX7_read 39 = .ok (.getfield 48, 3) := by decide +kernel
theorem dX7_read_42 : decode cX7_read 42 = .ok (.iconst 0, 1) := by decide +kernel
theorem dX7_read_43 : decode cX7_read 43 = .ok (.putfield 296, 3) := by decide +kernel
theorem dX7_read_46 : decode cX7_read 46 = .ok (.iconst 0, 1) := by decide +kernel
theorem dX7_read_47 : decode cX7_read 47 = .ok (.istore 7, 2) := by decide +kernel
theorem dX7_read_49 : decode cX7_read 49 = .ok (.iload 7, 2) := by decide +kernel
theorem dX7_read_51 : decode cX7_read 51 = .ok (.iload 4, 2) := by decide +kernel
theorem dX7_read_53 : decode cX7_read 53 = .ok (.if_icmp .ge 151, 3) := by decide +kernel
theorem dX7_read_56 : decode cX7_read 56 = .ok (.iload_n 3, 1) := by decide +kernel
theorem dX7_read_57 : decode cX7_read 57 = .ok (.iconst 3, 1) := by decide +kernel
theorem dX7_read_58 : decode cX7_read 58 = .ok (.iload 7, 2) := by decide +kernel
theorem dX7_read_60 : decode cX7_read 60 = .ok (.imul, 1) := by decide +kernel
theorem dX7_read_61 : decode cX7_read 61 = .ok (.iadd, 1) := by decide +kernel
theorem dX7_read_62 : decode cX7_read 62 = .ok (.istore 8, 2) := by decide +kernel
theorem dX7_read_64 : decode cX7_read 64 = .ok (.aload 5, 2) := by decide +kernel
theorem dX7_read_66 : decode cX7_read 66 = .ok (.iload_n 2, 1) := by decide +kernel
theorem dX7_read_67 : decode cX7_read 67 = .ok (.iload 8, 2) := by decide +kernel
theorem dX7_read_69 : decode cX7_read 69 = .ok (.invokevirtual 331, 3) := by decide +kernel
theorem dX7_read_72 : decode cX7_read 72 = .ok (.istore 6, 2) := by decide +kernel
theorem dX7_read_74 : decode cX7_read 74 = .ok (.iload 6, 2) := by decide +kernel
theorem dX7_read_76 : decode cX7_read 76 = .ok (.ifCond .eq 6, 3) := by decide +kernel
theorem dX7_read_79 : decode cX7_read 79 = .ok (.goto 125, 3) := by decide +kernel
theorem dX7_read_82 : decode cX7_read 82 = .ok (.aload 5, 2) := by decide +kernel
theorem dX7_read_84 : decode cX7_read 84 = .ok (.getfield 334, 3) := by decide +kernel
theorem dX7_read_87 : decode cX7_read 87 = .ok (.iload 8, 2) := by decide +kernel
theorem dX7_read_89 : decode cX7_read 89 = .ok (.iaload, 1) := by decide +kernel
theorem dX7_read_90 : decode cX7_read 90 = .ok (.istore 9, 2) := by decide +kernel
theorem dX7_read_92 : decode cX7_read 92 = .ok (.aload 5, 2) := by decide +kernel
theorem dX7_read_94 : decode cX7_read 94 = .ok (.getfield 334, 3) := by decide +kernel
theorem dX7_read_97 : decode cX7_read 97 = .ok (.iload 8, 2) := by decide +kernel
theorem dX7_read_99 : decode cX7_read 99 = .ok (.iconst 1, 1) := by decide +kernel
theorem dX7_read_100 : decode cX7_read 100 = .ok (.iadd, 1) := by decide +kernel
theorem dX7_read_101 : decode cX7_read 101 = .ok (.iaload, 1) := by decide +kernel
theorem dX7_read_102 : decode cX7_read 102 = .ok (.istore 10, 2) := by decide +kernel
theorem dX7_read_104 : decode cX7_read 104 = .ok (.aload 5, 2) := by decide +kernel
theorem dX7_read_106 : decode cX7_read 106 = .ok (.getfield 334, 3) := by decide +kernel
theorem dX7_read_109 : decode cX7_read 109 = .ok (.iload 8, 2) := by decide +kernel
theorem dX7_read_111 : decode cX7_read 111 = .ok (.iconst 2, 1) := by decide +kernel
theorem dX7_read_112 : decode cX7_read 112 = .ok (.iadd, 1) := by decide +kernel
theorem dX7_read_113 : decode cX7_read 113 = .ok (.iaload, 1) := by decide +kernel
theorem dX7_read_114 : decode cX7_read 114 = .ok (.istore 11, 2) := by decide +kernel
theorem dX7_read_116 : decode cX7_read 116 = .ok (.iload 9, 2) := by decide +kernel
theorem dX7_read_118 : decode cX7_read 118 = .ok (.invokestatic 164, 3) := by decide +kernel
theorem dX7_read_121 : decode cX7_read 121 = .ok (.ifCond .eq 22, 3) := by decide +kernel
theorem dX7_read_124 : decode cX7_read 124 = .ok (.aload_n 0, 1) := by decide +kernel
theorem dX7_read_125 : decode cX7_read 125 = .ok (.iload 10, 2) := by decide +kernel
theorem dX7_read_127 : decode cX7_read 127 = .ok (.invokevirtual 188, 3) := by decide +kernel
theorem dX7_read_130 : decode cX7_read 130 = .ok (.ifCond .eq 13, 3) := by decide +kernel
theorem dX7_read_133 : decode cX7_read 133 = .ok (.iload 11, 2) := by decide +kernel
theorem dX7_read_135 : decode cX7_read 135 = .ok (.iconst 0, 1) := by decide +kernel
theorem dX7_read_136 : decode cX7_read 136 = .ok (.iconst 1, 1) := by decide +kernel
theorem dX7_read_137 : decode cX7_read 137 = .ok (.invokestatic 77, 3) := by decide +kernel
theorem dX7_read_140 : decode cX7_read 140 = .ok (.ifCond .ne 9, 3) := by decide +kernel
theorem dX7_read_143 : decode cX7_read 143 = .ok (.bipush (-20), 2) := by decide +kernel
theorem dX7_read_145 : decode cX7_read 145 = .ok (.iload 7, 2) := by decide +kernel
theorem dX7_read_147 : decode cX7_read 147 = .ok (.isub, 1) := by decide +kernel
theorem dX7_read_148 : decode cX7_read 148 = .ok (.ireturn, 1) := by decide +kernel
theorem dX7_read_149 : decode cX7_read 149 = .ok (.aload_n 0, 1) := by decide +kernel
theorem dX7_read_150 : decode cX7_read 150 = .ok (.getfield 26, 3) := by decide +kernel
theorem dX7_read_153 : decode cX7_read 153 = .ok (.getfield 289, 3) := by decide +kernel
theorem dX7_read_156 : decode cX7_read 156 = .ok (.getfield 296, 3) := by decide +kernel
theorem dX7_read_159 : decode cX7_read 159 = .ok (.aload_n 0, 1) := by decide +kernel
theorem dX7_read_160 : decode cX7_read 160 = .ok (.getfield 48, 3) := by decide +kernel
theorem dX7_read_163 : decode cX7_read 163 = .ok (.getfield 296, 3) := by decide +kernel
theorem dX7_read_166 : decode cX7_read 166 = .ok (.iadd, 1) := by decide +kernel
theorem dX7_read_167 : decode cX7_read 167 = .ok (.bipush 12, 2) := by decide +kernel
theorem dX7_read_169 : decode cX7_read 169 = .ok (.if_icmp .lt 6, 3) := by decide +kernel
theorem dX7_read_172 : decode cX7_read 172 = .ok (.bipush (-3), 2) := by decide +kernel
theorem dX7_read_174 : decode cX7_read 174 = .ok (.ireturn, 1) := by decide +kernel
theorem dX7_read_175 : decode cX7_read 175 = .ok (.aload_n 0, 1) := by decide +kernel
theorem dX7_read_176 : decode cX7_read 176 = .ok (.getfield 48, 3) := by decide +kernel
theorem dX7_read_179 : decode cX7_read 179 = .ok (.iload 9, 2) := by decide +kernel
theorem dX7_read_181 : decode cX7_read 181 = .ok (.iload 10, 2) := by decide +kernel
theorem dX7_read_183 : decode cX7_read 183 = .ok (.iload 11, 2) := by decide +kernel
theorem dX7_read_185 : decode cX7_read 185 = .ok (.iconst 1, 1) := by decide +kernel
theorem dX7_read_186 : decode cX7_read 186 = .ok (.if_icmp .ne 7, 3) := by decide +kernel
theorem dX7_read_189 : decode cX7_read 189 = .ok (.iconst 1, 1) := by decide +kernel
theorem dX7_read_190 : decode cX7_read 190 = .ok (.goto 4, 3) := by decide +kernel
theorem dX7_read_193 : decode cX7_read 193 = .ok (.iconst 0, 1) := by decide +kernel
theorem dX7_read_194 : decode cX7_read 194 = .ok (.invokevirtual 292, 3) := by decide +kernel
theorem dX7_read_197 : decode cX7_read 197 = .ok (.pop, 1) := by decide +kernel
theorem dX7_read_198 : decode cX7_read 198 = .ok (.iinc 7 1, 3) := by decide +kernel
theorem dX7_read_201 : decode cX7_read 201 = .ok (.goto (-152), 3) := by decide +kernel
theorem dX7_read_204 : decode cX7_read 204 = .ok (.iconst 0, 1) := by decide +kernel
theorem dX7_read_205 : decode cX7_read 205 = .ok (.istore 7, 2) := by decide +kernel
theorem dX7_read_207 : decode cX7_read 207 = .ok (.iload 7, 2) := by decide +kernel
theorem dX7_read_209 : decode cX7_read 209 = .ok (.aload_n 0, 1) := by decide +kernel
theorem dX7_read_210 : decode cX7_read 210 = .ok (.getfield 48, 3) := by decide +kernel
theorem dX7_read_213 : decode cX7_read 213 = .ok (.getfield 296, 3) := by decide +kernel
theorem dX7_read_216 : decode cX7_read 216 = .ok (.if_icmp .ge 50, 3) := by decide +kernel
theorem dX7_read_219 : decode cX7_read 219 = .ok (.aload_n 0, 1) := by decide +kernel
theorem dX7_read_220 : decode cX7_read 220 = .ok (.getfield 26, 3) := by decide +kernel
theorem dX7_read_223 : decode cX7_read 223 = .ok (.getfield 289, 3) := by decide +kernel
theorem dX7_read_226 : decode cX7_read 226 = .ok (.aload_n 0, 1) := by decide +kernel
theorem dX7_read_227 : decode cX7_read 227 = .ok (.getfield 48, 3) := by decide +kernel
theorem dX7_read_230 : decode cX7_read 230 = .ok (.getfield 302, 3) := by decide +kernel
theorem dX7_read_233 : decode cX7_read 233 = .ok (.iload 7, 2) := by decide +kernel
theorem dX7_read_235 : decode cX7_read 235 = .ok (.iaload, 1) := by decide +kernel
theorem dX7_read_236 : decode cX7_read 236 = .ok (.aload_n 0, 1) := by decide +kernel
theorem dX7_read_237 : decode cX7_read 237 = .ok (.getfield 48, 3) := by decide +kernel
theorem dX7_read_240 : decode cX7_read 240 = .ok (.getfield 299, 3) := by decide +kernel
theorem dX7_read_243 : decode cX7_read 243 = .ok (.iload 7, 2) := by decide +kernel
theorem dX7_read_245 : decode cX7_read 245 = .ok (.iaload, 1) := by decide +kernel
theorem dX7_read_246 : decode cX7_read 246 = .ok (.aload_n 0, 1) := by decide +kernel
theorem dX7_read_247 : decode cX7_read 247 = .ok (.getfield 48, 3) := by decide +kernel
theorem dX7_read_250 : decode cX7_read 250 = .ok (.getfield 305, 3) := by decide +kernel
theorem dX7_read_253 : decode cX7_read 253 = .ok (.iload 7, 2) := by decide +kernel
theorem dX7_read_255 : decode cX7_read 255 = .ok (.baload, 1) := by decide +kernel
theorem dX7_read_256 : decode cX7_read 256 = .ok (.invokevirtual 292, 3) := by decide +kernel
theorem dX7_read_259 : decode cX7_read 259 = .ok (.pop, 1) := by decide +kernel
theorem dX7_read_260 : decode cX7_read 260 = .ok (.iinc 7 1, 3) := by decide +kernel
theorem dX7_read_263 : decode cX7_read 263 = .ok (.goto (-56), 3) := by decide +kernel
theorem dX7_read_266 : decode cX7_read 266 = .ok (.aload_n 0, 1) := by decide +kernel
theorem dX7_read_267 : decode cX7_read 267 = .ok (.iload 6, 2) := by decide +kernel
theorem dX7_read_269 : decode cX7_read 269 = .ok (.putfield 337, 3) := by decide +kernel
theorem dX7_read_272 : decode cX7_read 272 = .ok (.aload_n 0, 1) := by decide +kernel
theorem dX7_read_273 : decode cX7_read 273 = .ok (.getfield 48, 3) := by decide +kernel
theorem dX7_read_276 : decode cX7_read 276 = .ok (.getfield 296, 3) := by decide +kernel
theorem dX7_read_279 : decode cX7_read 279 = .ok (.ireturn, 1) := by decide +kernel
theorem dX7_torn_0 : decode cX7_torn 0 = .ok (.aload_n 0, 1) := by decide +kernel
theorem dX7_torn_1 : decode cX7_torn 1 = .ok (.getfield 337, 3) := by decide +kernel
theorem dX7_torn_4 : decode cX7_torn 4 = .ok (.ireturn, 1) := by decide +kernel
theorem dX7_count_0 : decode cX7_count 0 = .ok (.iload_n 1, 1) := by decide +kernel
theorem dX7_count_1 : decode cX7_count 1 = .ok (.tableswitch 120 0 5 #[39, 47, 52, 63, 83, 91], 39) := by decide +kernel
theorem dX7_count_40 : decode cX7_count 40 = .ok (.aload_n 0, 1) := by decide +kernel
theorem dX7_count_41 : decode cX7_count 41 = .ok (.getfield 26, 3) := by decide +kernel
theorem dX7_count_44 : decode cX7_count 44 = .ok (.getfield 173, 3) := by decide +kernel
theorem dX7_count_47 : decode cX7_count 47 = .ok (.ireturn, 1) := by decide +kernel
theorem dX7_count_48 : decode cX7_count 48 = .ok (.aload_n 0, 1) := by decide +kernel
theorem dX7_count_49 : decode cX7_count 49 = .ok (.invokevirtual 340, 3) := by decide +kernel
theorem dX7_count_52 : decode cX7_count 52 = .ok (.ireturn, 1) := by decide +kernel
theorem dX7_count_53 : decode cX7_count 53 = .ok (.aload_n 0, 1) := by decide +kernel
theorem dX7_count_54 : decode cX7_count 54 = .ok (.getfield 26, 3) := by decide +kernel
theorem dX7_count_57 : decode cX7_count 57 = .ok (.getfield 289, 3) := by decide +kernel
theorem dX7_count_60 : decode cX7_count 60 = .ok (.getfield 296, 3) := by decide +kernel
theorem dX7_count_63 : decode cX7_count 63 = .ok (.ireturn, 1) := by decide +kernel
theorem dX7_count_64 : decode cX7_count 64 = .ok (.aload_n 0, 1) := by decide +kernel
theorem dX7_count_65 : decode cX7_count 65 = .ok (.getfield 34, 3) := by decide +kernel
theorem dX7_count_68 : decode cX7_count 68 = .ok (.iconst 0, 1) := by decide +kernel
theorem dX7_count_69 : decode cX7_count 69 = .ok (.baload, 1) := by decide +kernel
theorem dX7_count_70 : decode cX7_count 70 = .ok (.invokestatic 140, 3) := by decide +kernel
theorem dX7_count_73 : decode cX7_count 73 = .ok (.aload_n 0, 1) := by decide +kernel
theorem dX7_count_74 : decode cX7_count 74 = .ok (.getfield 34, 3) := by decide +kernel
theorem dX7_count_77 : decode cX7_count 77 = .ok (.iconst 1, 1) := by decide +kernel
theorem dX7_count_78 : decode cX7_count 78 = .ok (.baload, 1) := by decide +kernel
theorem dX7_count_79 : decode cX7_count 79 = .ok (.invokestatic 140, 3) := by decide +kernel
theorem dX7_count_82 : decode cX7_count 82 = .ok (.iadd, 1) := by decide +kernel
theorem dX7_count_83 : decode cX7_count 83 = .ok (.ireturn, 1) := by decide +kernel
theorem dX7_count_84 : decode cX7_count 84 = .ok (.aload_n 0, 1) := by decide +kernel
theorem dX7_count_85 : decode cX7_count 85 = .ok (.getfield 10, 3) := by decide +kernel
theorem dX7_count_88 : decode cX7_count 88 = .ok (.getfield 74, 3) := by decide +kernel
theorem dX7_count_91 : decode cX7_count 91 = .ok (.ireturn, 1) := by decide +kernel
theorem dX7_count_92 : decode cX7_count 92 = .ok (.aload_n 0, 1) := by decide +kernel
theorem dX7_count_93 : decode cX7_count 93 = .ok (.getfield 40, 3) := by decide +kernel
theorem dX7_count_96 : decode cX7_count 96 = .ok (.iconst 0, 1) := by decide +kernel
theorem dX7_count_97 : decode cX7_count 97 = .ok (.aaload, 1) := by decide +kernel
theorem dX7_count_98 : decode cX7_count 98 = .ok (.getfield 343, 3) := by decide +kernel
theorem dX7_count_101 : decode cX7_count 101 = .ok (.bipush (-4), 2) := by decide +kernel
theorem dX7_count_103 : decode cX7_count 103 = .ok (.if_icmp .ne 8, 3) := by decide +kernel
theorem dX7_count_106 : decode cX7_count 106 = .ok (.bipush (-4), 2) := by decide +kernel
theorem dX7_count_108 : decode cX7_count 108 = .ok (.goto 12, 3) := by decide +kernel
theorem dX7_count_111 : decode cX7_count 111 = .ok (.aload_n 0, 1) := by decide +kernel
theorem dX7_count_112 : decode cX7_count 112 = .ok (.getfield 40, 3) := by decide +kernel
theorem dX7_count_115 : decode cX7_count 115 = .ok (.iconst 0, 1) := by decide +kernel
theorem dX7_count_116 : decode cX7_count 116 = .ok (.aaload, 1) := by decide +kernel
theorem dX7_count_117 : decode cX7_count 117 = .ok (.getfield 346, 3) := by decide +kernel
theorem dX7_count_120 : decode cX7_count 120 = .ok (.ireturn, 1) := by decide +kernel
theorem dX7_count_121 : decode cX7_count 121 = .ok (.iconst (-1), 1) := by decide +kernel
theorem dX7_count_122 : decode cX7_count 122 = .ok (.ireturn, 1) := by decide +kernel
theorem dX7_within_0 : decode cX7_within 0 = .ok (.iload_n 0, 1) := by decide +kernel
theorem dX7_within_1 : decode cX7_within 1 = .ok (.iload_n 1, 1) := by decide +kernel
theorem dX7_within_2 : decode cX7_within 2 = .ok (.if_icmp .lt 12, 3) := by decide +kernel
theorem dX7_within_5 : decode cX7_within 5 = .ok (.iload_n 0, 1) := by decide +kernel
theorem dX7_within_6 : decode cX7_within 6 = .ok (.iload_n 2, 1) := by decide +kernel
theorem dX7_within_7 : decode cX7_within 7 = .ok (.if_icmp .gt 7, 3) := by decide +kernel
theorem dX7_within_10 : decode cX7_within 10 = .ok (.iconst 1, 1) := by decide +kernel
theorem dX7_within_11 : decode cX7_within 11 = .ok (.goto 4, 3) := by decide +kernel
theorem dX7_within_14 : decode cX7_within 14 = .ok (.iconst 0, 1) := by decide +kernel
theorem dX7_within_15 : decode cX7_within 15 = .ok (.ireturn, 1) := by decide +kernel
theorem dX7_isThumb_0 : decode cX7_isThumb 0 = .ok (.iload_n 0, 1) := by decide +kernel
theorem dX7_isThumb_1 : decode cX7_isThumb 1 = .ok (.iconst 0, 1) := by decide +kernel
theorem dX7_isThumb_2 : decode cX7_isThumb 2 = .ok (.sipush 500, 3) := by decide +kernel
theorem dX7_isThumb_5 : decode cX7_isThumb 5 = .ok (.invokestatic 77, 3) := by decide +kernel
theorem dX7_isThumb_8 : decode cX7_isThumb 8 = .ok (.ireturn, 1) := by decide +kernel
theorem dX7_isHeavy_0 : decode cX7_isHeavy 0 = .ok (.iload_n 0, 1) := by decide +kernel
theorem dX7_isHeavy_1 : decode cX7_isHeavy 1 = .ok (.iconst 1, 1) := by decide +kernel
theorem dX7_isHeavy_2 : decode cX7_isHeavy 2 = .ok (.sipush 999, 3) := by decide +kernel
theorem dX7_isHeavy_5 : decode cX7_isHeavy 5 = .ok (.invokestatic 77, 3) := by decide +kernel
theorem dX7_isHeavy_8 : decode cX7_isHeavy 8 = .ok (.ireturn, 1) := by decide +kernel
theorem dX7_isLate_0 : decode cX7_isLate 0 = .ok (.iload_n 0, 1) := by decide +kernel
theorem dX7_isLate_1 : decode cX7_isLate 1 = .ok (.iconst 0, 1) := by decide +kernel
theorem dX7_isLate_2 : decode cX7_isLate 2 = .ok (.bipush 50, 2) := by decide +kernel
theorem dX7_isLate_4 : decode cX7_isLate 4 = .ok (.invokestatic 77, 3) := by decide +kernel
theorem dX7_isLate_7 : decode cX7_isLate 7 = .ok (.ireturn, 1) := by decide +kernel
theorem dX7_isStep_0 : decode cX7_isStep 0 = .ok (.iload_n 0, 1) := by decide +kernel
theorem dX7_isStep_1 : decode cX7_isStep 1 = .ok (.iconst 1, 1) := by decide +kernel
theorem dX7_isStep_2 : decode cX7_isStep 2 = .ok (.bipush 50, 2) := by decide +kernel
theorem dX7_isStep_4 : decode cX7_isStep 4 = .ok (.invokestatic 77, 3) := by decide +kernel
theorem dX7_isStep_7 : decode cX7_isStep 7 = .ok (.ireturn, 1) := by decide +kernel
theorem dX7_isSheet_0 : decode cX7_isSheet 0 = .ok (.iload_n 0, 1) := by decide +kernel
theorem dX7_isSheet_1 : decode cX7_isSheet 1 = .ok (.iconst 0, 1) := by decide +kernel
theorem dX7_isSheet_2 : decode cX7_isSheet 2 = .ok (.iconst 3, 1) := by decide +kernel
theorem dX7_isSheet_3 : decode cX7_isSheet 3 = .ok (.invokestatic 77, 3) := by decide +kernel
theorem dX7_isSheet_6 : decode cX7_isSheet 6 = .ok (.ireturn, 1) := by decide +kernel
theorem dX7_isLane_0 : decode cX7_isLane 0 = .ok (.iload_n 0, 1) := by decide +kernel
theorem dX7_isLane_1 : decode cX7_isLane 1 = .ok (.iconst 0, 1) := by decide +kernel
theorem dX7_isLane_2 : decode cX7_isLane 2 = .ok (.iconst 2, 1) := by decide +kernel
theorem dX7_isLane_3 : decode cX7_isLane 3 = .ok (.invokestatic 77, 3) := by decide +kernel
theorem dX7_isLane_6 : decode cX7_isLane 6 = .ok (.ireturn, 1) := by decide +kernel
theorem dX7_isDiver_0 : decode cX7_isDiver 0 = .ok (.iload_n 1, 1) := by decide +kernel
theorem dX7_isDiver_1 : decode cX7_isDiver 1 = .ok (.iconst 0, 1) := by decide +kernel
theorem dX7_isDiver_2 : decode cX7_isDiver 2 = .ok (.aload_n 0, 1) := by decide +kernel
theorem dX7_isDiver_3 : decode cX7_isDiver 3 = .ok (.getfield 26, 3) := by decide +kernel
theorem dX7_isDiver_6 : decode cX7_isDiver 6 = .ok (.getfield 173, 3) := by decide +kernel
theorem dX7_isDiver_9 : decode cX7_isDiver 9 = .ok (.iconst 1, 1) := by decide +kernel
theorem dX7_isDiver_10 : decode cX7_isDiver 10 = .ok (.isub, 1) := by decide +kernel
theorem dX7_isDiver_11 : decode cX7_isDiver 11 = .ok (.invokestatic 77, 3) := by decide +kernel
theorem dX7_isDiver_14 : decode cX7_isDiver 14 = .ok (.ireturn, 1) := by decide +kernel
theorem dX7_isDepth_0 : decode cX7_isDepth 0 = .ok (.iload_n 1, 1) := by decide +kernel
theorem dX7_isDepth_1 : decode cX7_isDepth 1 = .ok (.iconst 0, 1) := by decide +kernel
theorem dX7_isDepth_2 : decode cX7_isDepth 2 = .ok (.aload_n 0, 1) := by decide +kernel
theorem dX7_isDepth_3 : decode cX7_isDepth 3 = .ok (.getfield 19, 3) := by decide +kernel
theorem dX7_isDepth_6 : decode cX7_isDepth 6 = .ok (.getfield 62, 3) := by decide +kernel
theorem dX7_isDepth_9 : decode cX7_isDepth 9 = .ok (.iconst 0, 1) := by decide +kernel
theorem dX7_isDepth_10 : decode cX7_isDepth 10 = .ok (.iaload, 1) := by decide +kernel
theorem dX7_isDepth_11 : decode cX7_isDepth 11 = .ok (.invokestatic 77, 3) := by decide +kernel
theorem dX7_isDepth_14 : decode cX7_isDepth 14 = .ok (.ireturn, 1) := by decide +kernel
theorem dX7_canHold_0 : decode cX7_canHold 0 = .ok (.aload_n 0, 1) := by decide +kernel
theorem dX7_canHold_1 : decode cX7_canHold 1 = .ok (.iload_n 1, 1) := by decide +kernel
theorem dX7_canHold_2 : decode cX7_canHold 2 = .ok (.invokevirtual 116, 3) := by decide +kernel
theorem dX7_canHold_5 : decode cX7_canHold 5 = .ok (.ifCond .eq 45, 3) := by decide +kernel
theorem dX7_canHold_8 : decode cX7_canHold 8 = .ok (.iload_n 2, 1) := by decide +kernel
theorem dX7_canHold_9 : decode cX7_canHold 9 = .ok (.iconst 1, 1) := by decide +kernel
theorem dX7_canHold_10 : decode cX7_canHold 10 = .ok (.aload_n 0, 1) := by decide +kernel
theorem dX7_canHold_11 : decode cX7_canHold 11 = .ok (.getfield 19, 3) := by decide +kernel
theorem dX7_canHold_14 : decode cX7_canHold 14 = .ok (.getfield 62, 3) := by decide +kernel
theorem dX7_canHold_17 : decode cX7_canHold 17 = .ok (.iconst 0, 1) := by decide +kernel
theorem dX7_canHold_18 : decode cX7_canHold 18 = .ok (.iaload, 1) := by decide +kernel
theorem dX7_canHold_19 : decode cX7_canHold 19 = .ok (.iconst 1, 1) := by decide +kernel
theorem dX7_canHold_20 : decode cX7_canHold 20 = .ok (.isub, 1) := by decide +kernel
theorem dX7_canHold_21 : decode cX7_canHold 21 = .ok (.invokestatic 77, 3) := by decide +kernel
theorem dX7_canHold_24 : decode cX7_canHold 24 = .ok (.ifCond .eq 26, 3) := by decide +kernel
theorem dX7_canHold_27 : decode cX7_canHold 27 = .ok (.iload_n 3, 1) := by decide +kernel
theorem dX7_canHold_28 : decode cX7_canHold 28 = .ok (.invokestatic 164, 3) := by decide +kernel
theorem dX7_canHold_31 : decode cX7_canHold 31 = .ok (.ifCond .eq 19, 3) := by decide +kernel
theorem dX7_canHold_34 : decode cX7_canHold 34 = .ok (.iload 4, 2) := by decide +kernel
theorem dX7_canHold_36 : decode cX7_canHold 36 = .ok (.iconst 1, 1) := by decide +kernel
theorem dX7_canHold_37 : decode cX7_canHold 37 = .ok (.sipush 999, 3) := by decide +kernel
theorem dX7_canHold_40 : decode cX7_canHold 40 = .ok (.invokestatic 77, 3) := by decide +kernel
theorem dX7_canHold_43 : decode cX7_canHold 43 = .ok (.ifCond .eq 7, 3) := by decide +kernel
theorem dX7_canHold_46 : decode cX7_canHold 46 = .ok (.iconst 1, 1) := by decide +kernel
theorem dX7_canHold_47 : decode cX7_canHold 47 = .ok (.goto 4, 3) := by decide +kernel
theorem dX7_canHold_50 : decode cX7_canHold 50 = .ok (.iconst 0, 1) := by decide +kernel
theorem dX7_canHold_51 : decode cX7_canHold 51 = .ok (.ireturn, 1) := by decide +kernel
theorem dX7_divideUp_0 : decode cX7_divideUp 0 = .ok (.iload_n 1, 1) := by decide +kernel
theorem dX7_divideUp_1 : decode cX7_divideUp 1 = .ok (.ifCond .gt 7, 3) := by decide +kernel
theorem dX7_divideUp_4 : decode cX7_divideUp 4 = .ok (.iconst 0, 1) := by decide +kernel
theorem dX7_divideUp_5 : decode cX7_divideUp 5 = .ok (.goto 10, 3) := by decide +kernel
theorem dX7_divideUp_8 : decode cX7_divideUp 8 = .ok (.iload_n 0, 1) := by decide +kernel
theorem dX7_divideUp_9 : decode cX7_divideUp 9 = .ok (.iload_n 1, 1) := by decide +kernel
theorem dX7_divideUp_10 : decode cX7_divideUp 10 = .ok (.iadd, 1) := by decide +kernel
theorem dX7_divideUp_11 : decode cX7_divideUp 11 = .ok (.iconst 1, 1) := by decide +kernel
theorem dX7_divideUp_12 : decode cX7_divideUp 12 = .ok (.isub, 1) := by decide +kernel
theorem dX7_divideUp_13 : decode cX7_divideUp 13 = .ok (.iload_n 1, 1) := by decide +kernel
theorem dX7_divideUp_14 : decode cX7_divideUp 14 = .ok (.idiv, 1) := by decide +kernel
theorem dX7_divideUp_15 : decode cX7_divideUp 15 = .ok (.ireturn, 1) := by decide +kernel
theorem dX7_divideCut_0 : decode cX7_divideCut 0 = .ok (.iload_n 1, 1) := by decide +kernel
theorem dX7_divideCut_1 : decode cX7_divideCut 1 = .ok (.ifCond .gt 7, 3) := by decide +kernel
theorem dX7_divideCut_4 : decode cX7_divideCut 4 = .ok (.iconst 0, 1) := by decide +kernel
theorem dX7_divideCut_5 : decode cX7_divideCut 5 = .ok (.goto 6, 3) := by decide +kernel
theorem dX7_divideCut_8 : decode cX7_divideCut 8 = .ok (.iload_n 0, 1) := by decide +kernel
theorem dX7_divideCut_9 : decode cX7_divideCut 9 = .ok (.iload_n 1, 1) := by decide +kernel
theorem dX7_divideCut_10 : decode cX7_divideCut 10 = .ok (.idiv, 1) := by decide +kernel
theorem dX7_divideCut_11 : decode cX7_divideCut 11 = .ok (.ireturn, 1) := by decide +kernel
theorem dX7_bit_0 : decode cX7_bit 0 = .ok (.iload_n 0, 1) := by decide +kernel
theorem dX7_bit_1 : decode cX7_bit 1 = .ok (.ifCond .eq 7, 3) := by decide +kernel
theorem dX7_bit_4 : decode cX7_bit 4 = .ok (.iconst 1, 1) := by decide +kernel
theorem dX7_bit_5 : decode cX7_bit 5 = .ok (.goto 4, 3) := by decide +kernel
theorem dX7_bit_8 : decode cX7_bit 8 = .ok (.iconst 0, 1) := by decide +kernel
theorem dX7_bit_9 : decode cX7_bit 9 = .ok (.ireturn, 1) := by decide +kernel
theorem dX7_weightOf_0 : decode cX7_weightOf 0 = .ok (.aload_n 0, 1) := by decide +kernel
theorem dX7_weightOf_1 : decode cX7_weightOf 1 = .ok (.getfield 19, 3) := by decide +kernel
theorem dX7_weightOf_4 : decode cX7_weightOf 4 = .ok (.aload_n 1, 1) := by decide +kernel
theorem dX7_weightOf_5 : decode cX7_weightOf 5 = .ok (.getfield 122, 3) := by decide +kernel
theorem dX7_weightOf_8 : decode cX7_weightOf 8 = .ok (.aload_n 1, 1) := by decide +kernel
theorem dX7_weightOf_9 : decode cX7_weightOf 9 = .ok (.getfield 144, 3) := by decide +kernel
theorem dX7_weightOf_12 : decode cX7_weightOf 12 = .ok (.iadd, 1) := by decide +kernel
theorem dX7_weightOf_13 : decode cX7_weightOf 13 = .ok (.aload_n 1, 1) := by decide +kernel
theorem dX7_weightOf_14 : decode cX7_weightOf 14 = .ok (.getfield 127, 3) := by decide +kernel
theorem dX7_weightOf_17 : decode cX7_weightOf 17 = .ok (.aload_n 0, 1) := by decide +kernel
theorem dX7_weightOf_18 : decode cX7_weightOf 18 = .ok (.getfield 26, 3) := by decide +kernel
theorem dX7_weightOf_21 : decode cX7_weightOf 21 = .ok (.getfield 66, 3) := by decide +kernel
theorem dX7_weightOf_24 : decode cX7_weightOf 24 = .ok (.iload_n 2, 1) := by decide +kernel
theorem dX7_weightOf_25 : decode cX7_weightOf 25 = .ok (.iload_n 3, 1) := by decide +kernel
theorem dX7_weightOf_26 : decode cX7_weightOf 26 = .ok (.invokevirtual 212, 3) := by decide +kernel
theorem dX7_weightOf_29 : decode cX7_weightOf 29 = .ok (.ireturn, 1) := by decide +kernel
theorem dX7_diversAt_0 : decode cX7_diversAt 0 = .ok (.iconst 0, 1) := by decide +kernel
theorem dX7_diversAt_1 : decode cX7_diversAt 1 = .ok (.istore_n 2, 1) := by decide +kernel
theorem dX7_diversAt_2 : decode cX7_diversAt 2 = .ok (.iconst 0, 1) := by decide +kernel
theorem dX7_diversAt_3 : decode cX7_diversAt 3 = .ok (.istore_n 3, 1) := by decide +kernel
theorem dX7_diversAt_4 : decode cX7_diversAt 4 = .ok (.iload_n 3, 1) := by decide +kernel
theorem dX7_diversAt_5 : decode cX7_diversAt 5 = .ok (.aload_n 0, 1) := by decide +kernel
theorem dX7_diversAt_6 : decode cX7_diversAt 6 = .ok (.getfield 26, 3) := by decide +kernel
theorem dX7_diversAt_9 : decode cX7_diversAt 9 = .ok (.getfield 173, 3) := by decide +kernel
theorem dX7_diversAt_12 : decode cX7_diversAt 12 = .ok (.if_icmp .ge 31, 3) := by decide +kernel
theorem dX7_diversAt_15 : decode cX7_diversAt 15 = .ok (.aload_n 0, 1) := by decide +kernel
theorem dX7_diversAt_16 : decode cX7_diversAt 16 = .ok (.getfield 26, 3) := by decide +kernel
theorem dX7_diversAt_19 : decode cX7_diversAt 19 = .ok (.getfield 121, 3) := by decide +kernel
theorem dX7_diversAt_22 : decode cX7_diversAt 22 = .ok (.iload_n 3, 1) := by decide +kernel
theorem dX7_diversAt_23 : decode cX7_diversAt 23 = .ok (.aaload, 1) := by decide +kernel
theorem dX7_diversAt_24 : decode cX7_diversAt 24 = .ok (.getfield 151, 3) := by decide +kernel
theorem dX7_diversAt_27 : decode cX7_diversAt 27 = .ok (.iload_n 1, 1) := by decide +kernel
theorem dX7_diversAt_28 : decode cX7_diversAt 28 = .ok (.if_icmp .ne 9, 3) := by decide +kernel
theorem dX7_diversAt_31 : decode cX7_diversAt 31 = .ok (.iload_n 2, 1) := by decide +kernel
theorem dX7_diversAt_32 : decode cX7_diversAt 32 = .ok (.iconst 1, 1) := by decide +kernel
theorem dX7_diversAt_33 : decode cX7_diversAt 33 = .ok (.iload_n 3, 1) := by decide +kernel
theorem dX7_diversAt_34 : decode cX7_diversAt 34 = .ok (.ishl, 1) := by decide +kernel
theorem dX7_diversAt_35 : decode cX7_diversAt 35 = .ok (.ior, 1) := by decide +kernel
theorem dX7_diversAt_36 : decode cX7_diversAt 36 = .ok (.istore_n 2, 1) := by decide +kernel
theorem dX7_diversAt_37 : decode cX7_diversAt 37 = .ok (.iinc 3 1, 3) := by decide +kernel
theorem dX7_diversAt_40 : decode cX7_diversAt 40 = .ok (.goto (-36), 3) := by decide +kernel
theorem dX7_diversAt_43 : decode cX7_diversAt 43 = .ok (.iload_n 2, 1) := by decide +kernel
theorem dX7_diversAt_44 : decode cX7_diversAt 44 = .ok (.ireturn, 1) := by decide +kernel
theorem dX7_hooks_0 : decode cX7_hooks 0 = .ok (.iconst 0, 1) := by decide +kernel
theorem dX7_hooks_1 : decode cX7_hooks 1 = .ok (.istore_n 1, 1) := by decide +kernel
theorem dX7_hooks_2 : decode cX7_hooks 2 = .ok (.iconst 0, 1) := by decide +kernel
theorem dX7_hooks_3 : decode cX7_hooks 3 = .ok (.istore_n 2, 1) := by decide +kernel
theorem dX7_hooks_4 : decode cX7_hooks 4 = .ok (.iload_n 2, 1) := by decide +kernel
theorem dX7_hooks_5 : decode cX7_hooks 5 = .ok (.aload_n 0, 1) := by decide +kernel
theorem dX7_hooks_6 : decode cX7_hooks 6 = .ok (.getfield 26, 3) := by decide +kernel
theorem dX7_hooks_9 : decode cX7_hooks 9 = .ok (.getfield 173, 3) := by decide +kernel
theorem dX7_hooks_12 : decode cX7_hooks 12 = .ok (.if_icmp .ge 27, 3) := by decide +kernel
theorem dX7_hooks_15 : decode cX7_hooks 15 = .ok (.iload_n 1, 1) := by decide +kernel
theorem dX7_hooks_16 : decode cX7_hooks 16 = .ok (.aload_n 0, 1) := by decide +kernel
theorem dX7_hooks_17 : decode cX7_hooks 17 = .ok (.getfield 26, 3) := by decide +kernel
theorem dX7_hooks_20 : decode cX7_hooks 20 = .ok (.getfield 121, 3) := by decide +kernel
theorem dX7_hooks_23 : decode cX7_hooks 23 = .ok (.iload_n 2, 1) := by decide +kernel
theorem dX7_hooks_24 : decode cX7_hooks 24 = .ok (.aaload, 1) := by decide +kernel
theorem dX7_hooks_25 : decode cX7_hooks 25 = .ok (.getfield 136, 3) := by decide +kernel
theorem dX7_hooks_28 : decode cX7_hooks 28 = .ok (.invokestatic 140, 3) := by decide +kernel
theorem dX7_hooks_31 : decode cX7_hooks 31 = .ok (.iadd, 1) := by decide +kernel
theorem dX7_hooks_32 : decode cX7_hooks 32 = .ok (.istore_n 1, 1) := by decide +kernel
theorem dX7_hooks_33 : decode cX7_hooks 33 = .ok (.iinc 2 1, 3) := by decide +kernel
theorem dX7_hooks_36 : decode cX7_hooks 36 = .ok (.goto (-32), 3) := by decide +kernel
theorem dX7_hooks_39 : decode cX7_hooks 39 = .ok (.iload_n 1, 1) := by decide +kernel
theorem dX7_hooks_40 : decode cX7_hooks 40 = .ok (.ireturn, 1) := by decide +kernel
theorem dX7_moveDiver_0 : decode cX7_moveDiver 0 = .ok (.aload_n 1, 1) := by decide +kernel
theorem dX7_moveDiver_1 : decode cX7_moveDiver 1 = .ok (.getfield 151, 3) := by decide +kernel
theorem dX7_moveDiver_4 : decode cX7_moveDiver 4 = .ok (.istore_n 2, 1) := by decide +kernel
theorem dX7_moveDiver_5 : decode cX7_moveDiver 5 = .ok (.aload_n 1, 1) := by decide +kernel
theorem dX7_moveDiver_6 : decode cX7_moveDiver 6 = .ok (.aload_n 0, 1) := by decide +kernel
theorem dX7_moveDiver_7 : decode cX7_moveDiver 7 = .ok (.aload_n 1, 1) := by decide +kernel
theorem dX7_moveDiver_8 : decode cX7_moveDiver 8 = .ok (.aload_n 1, 1) := by decide +kernel
theorem dX7_moveDiver_9 : decode cX7_moveDiver 9 = .ok (.invokevirtual 147, 3) := by decide +kernel
theorem dX7_moveDiver_12 : decode cX7_moveDiver 12 = .ok (.aload_n 0, 1) := by decide +kernel
theorem dX7_moveDiver_13 : decode cX7_moveDiver 13 = .ok (.getfield 26, 3) := by decide +kernel
theorem dX7_moveDiver_16 : decode cX7_moveDiver 16 = .ok (.getfield 157, 3) := by decide +kernel
theorem dX7_moveDiver_19 : decode cX7_moveDiver 19 = .ok (.invokevirtual 160, 3) := by decide +kernel
theorem dX7_moveDiver_22 : decode cX7_moveDiver 22 = .ok (.aload_n 0, 1) := by decide +kernel
theorem dX7_moveDiver_23 : decode cX7_moveDiver 23 = .ok (.getfield 19, 3) := by decide +kernel
theorem dX7_moveDiver_26 : decode cX7_moveDiver 26 = .ok (.getfield 62, 3) := by decide +kernel
theorem dX7_moveDiver_29 : decode cX7_moveDiver 29 = .ok (.iconst 3, 1) := by decide +kernel
theorem dX7_moveDiver_30 : decode cX7_moveDiver 30 = .ok (.iaload, 1) := by decide +kernel
theorem dX7_moveDiver_31 : decode cX7_moveDiver 31 = .ok (.aload_n 0, 1) := by decide +kernel
theorem dX7_moveDiver_32 : decode cX7_moveDiver 32 = .ok (.getfield 19, 3) := by decide +kernel
theorem dX7_moveDiver_35 : decode cX7_moveDiver 35 = .ok (.invokevirtual 181, 3) := by decide +kernel
theorem dX7_moveDiver_38 : decode cX7_moveDiver 38 = .ok (.invokevirtual 347, 3) := by decide +kernel
theorem dX7_moveDiver_41 : decode cX7_moveDiver 41 = .ok (.aload_n 1, 1) := by decide +kernel
theorem dX7_moveDiver_42 : decode cX7_moveDiver 42 = .ok (.getfield 151, 3) := by decide +kernel
theorem dX7_moveDiver_45 : decode cX7_moveDiver 45 = .ok (.iload_n 2, 1) := by decide +kernel
theorem dX7_moveDiver_46 : decode cX7_moveDiver 46 = .ok (.if_icmp .ne 4, 3) := by decide +kernel
theorem dX7_moveDiver_49 : decode cX7_moveDiver 49 = .ok (.return_, 1) := by decide +kernel
theorem dX7_moveDiver_50 : decode cX7_moveDiver 50 = .ok (.aload_n 1, 1) := by decide +kernel
theorem dX7_moveDiver_51 : decode cX7_moveDiver 51 = .ok (.getfield 151, 3) := by decide +kernel
theorem dX7_moveDiver_54 : decode cX7_moveDiver 54 = .ok (.aload_n 0, 1) := by decide +kernel
theorem dX7_moveDiver_55 : decode cX7_moveDiver 55 = .ok (.getfield 19, 3) := by decide +kernel
theorem dX7_moveDiver_58 : decode cX7_moveDiver 58 = .ok (.invokevirtual 181, 3) := by decide +kernel
theorem dX7_moveDiver_61 : decode cX7_moveDiver 61 = .ok (.if_icmp .ne 8, 3) := by decide +kernel
theorem dX7_moveDiver_64 : decode cX7_moveDiver 64 = .ok (.aload_n 0, 1) := by decide +kernel
theorem dX7_moveDiver_65 : decode cX7_moveDiver 65 = .ok (.aload_n 1, 1) := by decide +kernel
theorem dX7_moveDiver_66 : decode cX7_moveDiver 66 = .ok (.invokevirtual 351, 3) := by decide +kernel
theorem dX7_moveDiver_69 : decode cX7_moveDiver 69 = .ok (.aload_n 1, 1) := by decide +kernel
theorem dX7_moveDiver_70 : decode cX7_moveDiver 70 = .ok (.getfield 151, 3) := by decide +kernel
theorem dX7_moveDiver_73 : decode cX7_moveDiver 73 = .ok (.ifCond .ne 8, 3) := by decide +kernel
theorem dX7_moveDiver_76 : decode cX7_moveDiver 76 = .ok (.aload_n 0, 1) := by decide +kernel
theorem dX7_moveDiver_77 : decode cX7_moveDiver 77 = .ok (.aload_n 1, 1) := by decide +kernel
theorem dX7_moveDiver_78 : decode cX7_moveDiver 78 = .ok (.invokevirtual 354, 3) := by decide +kernel
theorem dX7_moveDiver_81 : decode cX7_moveDiver 81 = .ok (.return_, 1) := by decide +kernel
theorem dX7_comeToFloor_0 : decode cX7_comeToFloor 0 = .ok (.aload_n 1, 1) := by decide +kernel
theorem dX7_comeToFloor_1 : decode cX7_comeToFloor 1 = .ok (.iconst 0, 1) := by decide +kernel
theorem dX7_comeToFloor_2 : decode cX7_comeToFloor 2 = .ok (.aload_n 1, 1) := by decide +kernel
theorem dX7_comeToFloor_3 : decode cX7_comeToFloor 3 = .ok (.getfield 127, 3) := by decide +kernel
theorem dX7_comeToFloor_6 : decode cX7_comeToFloor 6 = .ok (.aload_n 1, 1) := by decide +kernel
theorem dX7_comeToFloor_7 : decode cX7_comeToFloor 7 = .ok (.getfield 130, 3) := by decide +kernel
theorem dX7_comeToFloor_10 : decode cX7_comeToFloor 10 = .ok (.isub, 1) := by decide +kernel
theorem dX7_comeToFloor_11 : decode cX7_comeToFloor 11 = .ok (.invokestatic 280, 3) := by decide +kernel
theorem dX7_comeToFloor_14 : decode cX7_comeToFloor 14 = .ok (.putfield 127, 3) := by decide +kernel
theorem dX7_comeToFloor_17 : decode cX7_comeToFloor 17 = .ok (.aload_n 1, 1) := by decide +kernel
theorem dX7_comeToFloor_18 : decode cX7_comeToFloor 18 = .ok (.getfield 136, 3) := by decide +kernel
theorem dX7_comeToFloor_21 : decode cX7_comeToFloor 21 = .ok (.ifCond .eq 13, 3) := by decide +kernel
theorem dX7_comeToFloor_24 : decode cX7_comeToFloor 24 = .ok (.aload_n 0, 1) := by decide +kernel
theorem dX7_comeToFloor_25 : decode cX7_comeToFloor 25 = .ok (.getfield 26, 3) := by decide +kernel
theorem dX7_comeToFloor_28 : decode cX7_comeToFloor 28 = .ok (.getfield 191, 3) := by decide +kernel
theorem dX7_comeToFloor_31 : decode cX7_comeToFloor 31 = .ok (.ifCond .ne 4, 3) := by decide +kernel
theorem dX7_comeToFloor_34 : decode cX7_comeToFloor 34 = .ok (.return_, 1) := by decide +kernel
theorem dX7_comeToFloor_35 : decode cX7_comeToFloor 35 = .ok (.aload_n 1, 1) := by decide +kernel
theorem dX7_comeToFloor_36 : decode cX7_comeToFloor 36 = .ok (.aload_n 0, 1) := by decide +kernel
theorem dX7_comeToFloor_37 : decode cX7_comeToFloor 37 = .ok (.getfield 19, 3) := by decide +kernel
theorem dX7_comeToFloor_40 : decode cX7_comeToFloor 40 = .ok (.getfield 62, 3) := by decide +kernel
theorem dX7_comeToFloor_43 : decode cX7_comeToFloor 43 = .ok (.bipush 6, 2) := by decide +kernel
theorem dX7_comeToFloor_45 : decode cX7_comeToFloor 45 = .ok (.iaload, 1) := by decide +kernel
theorem dX7_comeToFloor_46 : decode cX7_comeToFloor 46 = .ok (.putfield 144, 3) := by decide +kernel
theorem dX7_comeToFloor_49 : decode cX7_comeToFloor 49 = .ok (.aload_n 0, 1) := by decide +kernel
theorem dX7_comeToFloor_50 : decode cX7_comeToFloor 50 = .ok (.getfield 26, 3) := by decide +kernel
theorem dX7_comeToFloor_53 : decode cX7_comeToFloor 53 = .ok (.iconst 0, 1) := by decide +kernel
theorem dX7_comeToFloor_54 : decode cX7_comeToFloor 54 = .ok (.putfield 191, 3) := by decide +kernel
theorem dX7_comeToFloor_57 : decode cX7_comeToFloor 57 = .ok (.return_, 1) := by decide +kernel
theorem dX7_comeToTop_0 : decode cX7_comeToTop 0 = .ok (.aload_n 1, 1) := by decide +kernel
theorem dX7_comeToTop_1 : decode cX7_comeToTop 1 = .ok (.getfield 144, 3) := by decide +kernel
theorem dX7_comeToTop_4 : decode cX7_comeToTop 4 = .ok (.ifCond .ne 4, 3) := by decide +kernel
theorem dX7_comeToTop_7 : decode cX7_comeToTop 7 = .ok (.return_, 1) := by decide +kernel
theorem dX7_comeToTop_8 : decode cX7_comeToTop 8 = .ok (.aload_n 1, 1) := by decide +kernel
theorem dX7_comeToTop_9 : decode cX7_comeToTop 9 = .ok (.iconst 0, 1) := by decide +kernel
theorem dX7_comeToTop_10 : decode cX7_comeToTop 10 = .ok (.putfield 144, 3) := by decide +kernel
theorem dX7_comeToTop_13 : decode cX7_comeToTop 13 = .ok (.aload_n 0, 1) := by decide +kernel
theorem dX7_comeToTop_14 : decode cX7_comeToTop 14 = .ok (.getfield 26, 3) := by decide +kernel
theorem dX7_comeToTop_17 : decode cX7_comeToTop 17 = .ok (.dup, 1) := by decide +kernel
theorem dX7_comeToTop_18 : decode cX7_comeToTop 18 = .ok (.getfield 194, 3) := by decide +kernel
theorem dX7_comeToTop_21 : decode cX7_comeToTop 21 = .ok (.iconst 1, 1) := by decide +kernel
theorem dX7_comeToTop_22 : decode cX7_comeToTop 22 = .ok (.iadd, 1) := by decide +kernel
theorem dX7_comeToTop_23 : decode cX7_comeToTop 23 = .ok (.putfield 194, 3) := by decide +kernel
theorem dX7_comeToTop_26 : decode cX7_comeToTop 26 = .ok (.return_, 1) := by decide +kernel
theorem dX7_thumbOf_0 : decode cX7_thumbOf 0 = .ok (.aload_n 0, 1) := by decide +kernel
theorem dX7_thumbOf_1 : decode cX7_thumbOf 1 = .ok (.getfield 26, 3) := by decide +kernel
theorem dX7_thumbOf_4 : decode cX7_thumbOf 4 = .ok (.getfield 121, 3) := by decide +kernel
theorem dX7_thumbOf_7 : decode cX7_thumbOf 7 = .ok (.iload_n 1, 1) := by decide +kernel
theorem dX7_thumbOf_8 : decode cX7_thumbOf 8 = .ok (.aaload, 1) := by decide +kernel
theorem dX7_thumbOf_9 : decode cX7_thumbOf 9 = .ok (.astore_n 2, 1) := by decide +kernel
theorem dX7_thumbOf_10 : decode cX7_thumbOf 10 = .ok (.aload_n 2, 1) := by decide +kernel
theorem dX7_thumbOf_11 : decode cX7_thumbOf 11 = .ok (.getfield 122, 3) := by decide +kernel
theorem dX7_thumbOf_14 : decode cX7_thumbOf 14 = .ok (.aload_n 2, 1) := by decide +kernel
theorem dX7_thumbOf_15 : decode cX7_thumbOf 15 = .ok (.getfield 144, 3) := by decide +kernel
theorem dX7_thumbOf_18 : decode cX7_thumbOf 18 = .ok (.iadd, 1) := by decide +kernel
theorem dX7_thumbOf_19 : decode cX7_thumbOf 19 = .ok (.aload_n 0, 1) := by decide +kernel
theorem dX7_thumbOf_20 : decode cX7_thumbOf 20 = .ok (.getfield 19, 3) := by decide +kernel
theorem dX7_thumbOf_23 : decode cX7_thumbOf 23 = .ok (.iconst 0, 1) := by decide +kernel
theorem dX7_thumbOf_24 : decode cX7_thumbOf 24 = .ok (.invokevirtual 357, 3) := by decide +kernel
theorem dX7_thumbOf_27 : decode cX7_thumbOf 27 = .ok (.isub, 1) := by decide +kernel
theorem dX7_thumbOf_28 : decode cX7_thumbOf 28 = .ok (.istore_n 3, 1) := by decide +kernel
theorem dX7_thumbOf_29 : decode cX7_thumbOf 29 = .ok (.iload_n 3, 1) := by decide +kernel
theorem dX7_thumbOf_30 : decode cX7_thumbOf 30 = .ok (.ifCond .gt 6, 3) := by decide +kernel
theorem dX7_thumbOf_33 : decode cX7_thumbOf 33 = .ok (.bipush (-4), 2) := by decide +kernel
theorem dX7_thumbOf_35 : decode cX7_thumbOf 35 = .ok (.ireturn, 1) := by decide +kernel
theorem dX7_thumbOf_36 : decode cX7_thumbOf 36 = .ok (.aload_n 2, 1) := by decide +kernel
theorem dX7_thumbOf_37 : decode cX7_thumbOf 37 = .ok (.getfield 127, 3) := by decide +kernel
theorem dX7_thumbOf_40 : decode cX7_thumbOf 40 = .ok (.aload_n 0, 1) := by decide +kernel
theorem dX7_thumbOf_41 : decode cX7_thumbOf 41 = .ok (.getfield 26, 3) := by decide +kernel
theorem dX7_thumbOf_44 : decode cX7_thumbOf 44 = .ok (.getfield 66, 3) := by decide +kernel
theorem dX7_thumbOf_47 : decode cX7_thumbOf 47 = .ok (.imul, 1) := by decide +kernel
theorem dX7_thumbOf_48 : decode cX7_thumbOf 48 = .ok (.iload_n 3, 1) := by decide +kernel
theorem dX7_thumbOf_49 : decode cX7_thumbOf 49 = .ok (.invokestatic 360, 3) := by decide +kernel
theorem dX7_thumbOf_52 : decode cX7_thumbOf 52 = .ok (.iconst 1, 1) := by decide +kernel
theorem dX7_thumbOf_53 : decode cX7_thumbOf 53 = .ok (.iadd, 1) := by decide +kernel
theorem dX7_thumbOf_54 : decode cX7_thumbOf 54 = .ok (.istore 4, 2) := by decide +kernel
theorem dX7_thumbOf_56 : decode cX7_thumbOf 56 = .ok (.iconst 0, 1) := by decide +kernel
theorem dX7_thumbOf_57 : decode cX7_thumbOf 57 = .ok (.iload 4, 2) := by decide +kernel
theorem dX7_thumbOf_59 : decode cX7_thumbOf 59 = .ok (.aload_n 0, 1) := by decide +kernel
theorem dX7_thumbOf_60 : decode cX7_thumbOf 60 = .ok (.getfield 19, 3) := by decide +kernel
theorem dX7_thumbOf_63 : decode cX7_thumbOf 63 = .ok (.iconst 0, 1) := by decide +kernel
theorem dX7_thumbOf_64 : decode cX7_thumbOf 64 = .ok (.iconst 0, 1) := by decide +kernel
theorem dX7_thumbOf_65 : decode cX7_thumbOf 65 = .ok (.invokevirtual 197, 3) := by decide +kernel
theorem dX7_thumbOf_68 : decode cX7_thumbOf 68 = .ok (.isub, 1) := by decide +kernel
theorem dX7_thumbOf_69 : decode cX7_thumbOf 69 = .ok (.invokestatic 280, 3) := by decide +kernel
theorem dX7_thumbOf_72 : decode cX7_thumbOf 72 = .ok (.istore 5, 2) := by decide +kernel
theorem dX7_thumbOf_74 : decode cX7_thumbOf 74 = .ok (.iload 5, 2) := by decide +kernel
theorem dX7_thumbOf_76 : decode cX7_thumbOf 76 = .ok (.sipush 500, 3) := by decide +kernel
theorem dX7_thumbOf_79 : decode cX7_thumbOf 79 = .ok (.if_icmp .le 8, 3) := by decide +kernel
theorem dX7_thumbOf_82 : decode cX7_thumbOf 82 = .ok (.bipush (-4), 2) := by decide +kernel
theorem dX7_thumbOf_84 : decode cX7_thumbOf 84 = .ok (.goto 5, 3) := by decide +kernel
theorem dX7_thumbOf_87 : decode cX7_thumbOf 87 = .ok (.iload 5, 2) := by decide +kernel
theorem dX7_thumbOf_89 : decode cX7_thumbOf 89 = .ok (.ireturn, 1) := by decide +kernel
theorem dX7_diversAhead_0 : decode cX7_diversAhead 0 = .ok (.iconst 0, 1) := by decide +kernel
theorem dX7_diversAhead_1 : decode cX7_diversAhead 1 = .ok (.istore_n 2, 1) := by decide +kernel
theorem dX7_diversAhead_2 : decode cX7_diversAhead 2 = .ok (.iconst 0, 1) := by decide +kernel
theorem dX7_diversAhead_3 : decode cX7_diversAhead 3 = .ok (.istore_n 3, 1) := by decide +kernel
theorem dX7_diversAhead_4 : decode cX7_diversAhead 4 = .ok (.iload_n 3, 1) := by decide +kernel
theorem dX7_diversAhead_5 : decode cX7_diversAhead 5 = .ok (.aload_n 0, 1) := by decide +kernel
theorem dX7_diversAhead_6 : decode cX7_diversAhead 6 = .ok (.getfield 26, 3) := by decide +kernel
theorem dX7_diversAhead_9 : decode cX7_diversAhead 9 = .ok (.getfield 173, 3) := by decide +kernel
theorem dX7_diversAhead_12 : decode cX7_diversAhead 12 = .ok (.if_icmp .ge 26, 3) := by decide +kernel
theorem dX7_diversAhead_15 : decode cX7_diversAhead 15 = .ok (.iload_n 3, 1) := by decide +kernel
theorem dX7_diversAhead_16 : decode cX7_diversAhead 16 = .ok (.iload_n 1, 1) := by decide +kernel
theorem dX7_diversAhead_17 : decode cX7_diversAhead 17 = .ok (.if_icmp .eq 15, 3) := by decide +kernel
theorem dX7_diversAhead_20 : decode cX7_diversAhead 20 = .ok (.aload_n 0, 1) := by decide +kernel
theorem dX7_diversAhead_21 : decode cX7_diversAhead 21 = .ok (.iload_n 3, 1) := by decide +kernel
theorem dX7_diversAhead_22 : decode cX7_diversAhead 22 = .ok (.iload_n 1, 1) := by decide +kernel
theorem dX7_diversAhead_23 : decode cX7_diversAhead 23 = .ok (.invokevirtual 363, 3) := by decide +kernel
theorem dX7_diversAhead_26 : decode cX7_diversAhead 26 = .ok (.ifCond .eq 6, 3) := by decide +kernel
theorem dX7_diversAhead_29 : decode cX7_diversAhead 29 = .ok (.iinc 2 1, 3) := by decide +kernel
theorem dX7_diversAhead_32 : decode cX7_diversAhead 32 = .ok (.iinc 3 1, 3) := by decide +kernel
theorem dX7_diversAhead_35 : decode cX7_diversAhead 35 = .ok (.goto (-31), 3) := by decide +kernel
theorem dX7_diversAhead_38 : decode cX7_diversAhead 38 = .ok (.iload_n 2, 1) := by decide +kernel
theorem dX7_diversAhead_39 : decode cX7_diversAhead 39 = .ok (.ireturn, 1) := by decide +kernel
theorem dX7_isAhead_0 : decode cX7_isAhead 0 = .ok (.aload_n 0, 1) := by decide +kernel
theorem dX7_isAhead_1 : decode cX7_isAhead 1 = .ok (.iload_n 1, 1) := by decide +kernel
theorem dX7_isAhead_2 : decode cX7_isAhead 2 = .ok (.invokevirtual 201, 3) := by decide +kernel
theorem dX7_isAhead_5 : decode cX7_isAhead 5 = .ok (.istore_n 3, 1) := by decide +kernel
theorem dX7_isAhead_6 : decode cX7_isAhead 6 = .ok (.aload_n 0, 1) := by decide +kernel
theorem dX7_isAhead_7 : decode cX7_isAhead 7 = .ok (.iload_n 2, 1) := by decide +kernel
theorem dX7_isAhead_8 : decode cX7_isAhead 8 = .ok (.invokevirtual 201, 3) := by decide +kernel
theorem dX7_isAhead_11 : decode cX7_isAhead 11 = .ok (.istore 4, 2) := by decide +kernel
theorem dX7_isAhead_13 : decode cX7_isAhead 13 = .ok (.iload_n 3, 1) := by decide +kernel
theorem dX7_isAhead_14 : decode cX7_isAhead 14 = .ok (.iload 4, 2) := by decide +kernel
theorem dX7_isAhead_16 : decode cX7_isAhead 16 = .ok (.if_icmp .ne 14, 3) := by decide +kernel
theorem dX7_isAhead_19 : decode cX7_isAhead 19 = .ok (.iload_n 1, 1) := by decide +kernel
theorem dX7_isAhead_20 : decode cX7_isAhead 20 = .ok (.iload_n 2, 1) := by decide +kernel
theorem dX7_isAhead_21 : decode cX7_isAhead 21 = .ok (.if_icmp .ge 7, 3) := by decide +kernel
theorem dX7_isAhead_24 : decode cX7_isAhead 24 = .ok (.iconst 1, 1) := by decide +kernel
theorem dX7_isAhead_25 : decode cX7_isAhead 25 = .ok (.goto 4, 3) := by decide +kernel
theorem dX7_isAhead_28 : decode cX7_isAhead 28 = .ok (.iconst 0, 1) := by decide +kernel
theorem dX7_isAhead_29 : decode cX7_isAhead 29 = .ok (.ireturn, 1) := by decide +kernel
theorem dX7_isAhead_30 : decode cX7_isAhead 30 = .ok (.iload 4, 2) := by decide +kernel
theorem dX7_isAhead_32 : decode cX7_isAhead 32 = .ok (.bipush (-4), 2) := by decide +kernel
theorem dX7_isAhead_34 : decode cX7_isAhead 34 = .ok (.if_icmp .eq 15, 3) := by decide +kernel
theorem dX7_isAhead_37 : decode cX7_isAhead 37 = .ok (.iload_n 3, 1) := by decide +kernel
theorem dX7_isAhead_38 : decode cX7_isAhead 38 = .ok (.bipush (-4), 2) := by decide +kernel
theorem dX7_isAhead_40 : decode cX7_isAhead 40 = .ok (.if_icmp .eq 13, 3) := by decide +kernel
theorem dX7_isAhead_43 : decode cX7_isAhead 43 = .ok (.iload_n 3, 1) := by decide +kernel
theorem dX7_isAhead_44 : decode cX7_isAhead 44 = .ok (.iload 4, 2) := by decide +kernel
theorem dX7_isAhead_46 : decode cX7_isAhead 46 = .ok (.if_icmp .ge 7, 3) := by decide +kernel
theorem dX7_isAhead_49 : decode cX7_isAhead 49 = .ok (.iconst 1, 1) := by decide +kernel
theorem dX7_isAhead_50 : decode cX7_isAhead 50 = .ok (.goto 4, 3) := by decide +kernel
theorem dX7_isAhead_53 : decode cX7_isAhead 53 = .ok (.iconst 0, 1) := by decide +kernel
theorem dX7_isAhead_54 : decode cX7_isAhead 54 = .ok (.ireturn, 1) := by decide +kernel
theorem dX7_leavesAt_0 : decode cX7_leavesAt 0 = .ok (.aload_n 1, 1) := by decide +kernel
theorem dX7_leavesAt_1 : decode cX7_leavesAt 1 = .ok (.getfield 122, 3) := by decide +kernel
theorem dX7_leavesAt_4 : decode cX7_leavesAt 4 = .ok (.aload_n 1, 1) := by decide +kernel
theorem dX7_leavesAt_5 : decode cX7_leavesAt 5 = .ok (.getfield 144, 3) := by decide +kernel
theorem dX7_leavesAt_8 : decode cX7_leavesAt 8 = .ok (.iadd, 1) := by decide +kernel
theorem dX7_leavesAt_9 : decode cX7_leavesAt 9 = .ok (.istore 4, 2) := by decide +kernel
theorem dX7_leavesAt_11 : decode cX7_leavesAt 11 = .ok (.iload_n 3, 1) := by decide +kernel
theorem dX7_leavesAt_12 : decode cX7_leavesAt 12 = .ok (.ifCond .eq 36, 3) := by decide +kernel
theorem dX7_leavesAt_15 : decode cX7_leavesAt 15 = .ok (.aload_n 0, 1) := by decide +kernel
theorem dX7_leavesAt_16 : decode cX7_leavesAt 16 = .ok (.getfield 19, 3) := by decide +kernel
theorem dX7_leavesAt_19 : decode cX7_leavesAt 19 = .ok (.iload 4, 2) := by decide +kernel
theorem dX7_leavesAt_21 : decode cX7_leavesAt 21 = .ok (.aload_n 1, 1) := by decide +kernel
theorem dX7_leavesAt_22 : decode cX7_leavesAt 22 = .ok (.getfield 127, 3) := by decide +kernel
theorem dX7_leavesAt_25 : decode cX7_leavesAt 25 = .ok (.iload_n 2, 1) := by decide +kernel
theorem dX7_leavesAt_26 : decode cX7_leavesAt 26 = .ok (.aload_n 0, 1) := by decide +kernel
theorem dX7_leavesAt_27 : decode cX7_leavesAt 27 = .ok (.getfield 19, 3) := by decide +kernel
theorem dX7_leavesAt_30 : decode cX7_leavesAt 30 = .ok (.getfield 62, 3) := by decide +kernel
theorem dX7_leavesAt_33 : decode cX7_leavesAt 33 = .ok (.iconst 0, 1) := by decide +kernel
theorem dX7_leavesAt_34 : decode cX7_leavesAt 34 = .ok (.iaload, 1) := by decide +kernel
theorem dX7_leavesAt_35 : decode cX7_leavesAt 35 = .ok (.iconst 0, 1) := by decide +kernel
theorem dX7_leavesAt_36 : decode cX7_leavesAt 36 = .ok (.invokevirtual 212, 3) := by decide +kernel
theorem dX7_leavesAt_39 : decode cX7_leavesAt 39 = .ok (.ifCond .ge 7, 3) := by decide +kernel
theorem dX7_leavesAt_42 : decode cX7_leavesAt 42 = .ok (.iconst 1, 1) := by decide +kernel
theorem dX7_leavesAt_43 : decode cX7_leavesAt 43 = .ok (.goto 4, 3) := by decide +kernel
theorem dX7_leavesAt_46 : decode cX7_leavesAt 46 = .ok (.iconst 0, 1) := by decide +kernel
theorem dX7_leavesAt_47 : decode cX7_leavesAt 47 = .ok (.ireturn, 1) := by decide +kernel
theorem dX7_leavesAt_48 : decode cX7_leavesAt 48 = .ok (.aload_n 0, 1) := by decide +kernel
theorem dX7_leavesAt_49 : decode cX7_leavesAt 49 = .ok (.getfield 19, 3) := by decide +kernel
theorem dX7_leavesAt_52 : decode cX7_leavesAt 52 = .ok (.iload 4, 2) := by decide +kernel
theorem dX7_leavesAt_54 : decode cX7_leavesAt 54 = .ok (.aload_n 1, 1) := by decide +kernel
theorem dX7_leavesAt_55 : decode cX7_leavesAt 55 = .ok (.getfield 127, 3) := by decide +kernel
theorem dX7_leavesAt_58 : decode cX7_leavesAt 58 = .ok (.iload_n 2, 1) := by decide +kernel
theorem dX7_leavesAt_59 : decode cX7_leavesAt 59 = .ok (.iconst 0, 1) := by decide +kernel
theorem dX7_leavesAt_60 : decode cX7_leavesAt 60 = .ok (.iconst 0, 1) := by decide +kernel
theorem dX7_leavesAt_61 : decode cX7_leavesAt 61 = .ok (.invokevirtual 212, 3) := by decide +kernel
theorem dX7_leavesAt_64 : decode cX7_leavesAt 64 = .ok (.ifCond .le 7, 3) := by decide +kernel
theorem dX7_leavesAt_67 : decode cX7_leavesAt 67 = .ok (.iconst 1, 1) := by decide +kernel
theorem dX7_leavesAt_68 : decode cX7_leavesAt 68 = .ok (.goto 4, 3) := by decide +kernel
theorem dX7_leavesAt_71 : decode cX7_leavesAt 71 = .ok (.iconst 0, 1) := by decide +kernel
theorem dX7_leavesAt_72 : decode cX7_leavesAt 72 = .ok (.ireturn, 1) := by decide +kernel
theorem dX7_canBe_0 : decode cX7_canBe 0 = .ok (.aload_n 0, 1) := by decide +kernel
theorem dX7_canBe_1 : decode cX7_canBe 1 = .ok (.getfield 26, 3) := by decide +kernel
theorem dX7_canBe_4 : decode cX7_canBe 4 = .ok (.getfield 289, 3) := by decide +kernel
theorem dX7_canBe_7 : decode cX7_canBe 7 = .ok (.astore_n 2, 1) := by decide +kernel
theorem dX7_canBe_8 : decode cX7_canBe 8 = .ok (.iconst 0, 1) := by decide +kernel
theorem dX7_canBe_9 : decode cX7_canBe 9 = .ok (.istore_n 3, 1) := by decide +kernel
theorem dX7_canBe_10 : decode cX7_canBe 10 = .ok (.iload_n 3, 1) := by decide +kernel
theorem dX7_canBe_11 : decode cX7_canBe 11 = .ok (.aload_n 2, 1) := by decide +kernel
theorem dX7_canBe_12 : decode cX7_canBe 12 = .ok (.getfield 296, 3) := by decide +kernel
theorem dX7_canBe_15 : decode cX7_canBe 15 = .ok (.if_icmp .ge 49, 3) := by decide +kernel
theorem dX7_canBe_18 : decode cX7_canBe 18 = .ok (.aload_n 0, 1) := by decide +kernel
theorem dX7_canBe_19 : decode cX7_canBe 19 = .ok (.aload_n 1, 1) := by decide +kernel
theorem dX7_canBe_20 : decode cX7_canBe 20 = .ok (.aload_n 2, 1) := by decide +kernel
theorem dX7_canBe_21 : decode cX7_canBe 21 = .ok (.getfield 299, 3) := by decide +kernel
theorem dX7_canBe_24 : decode cX7_canBe 24 = .ok (.iload_n 3, 1) := by decide +kernel
theorem dX7_canBe_25 : decode cX7_canBe 25 = .ok (.iaload, 1) := by decide +kernel
theorem dX7_canBe_26 : decode cX7_canBe 26 = .ok (.aload_n 2, 1) := by decide +kernel
theorem dX7_canBe_27 : decode cX7_canBe 27 = .ok (.getfield 302, 3) := by decide +kernel
theorem dX7_canBe_30 : decode cX7_canBe 30 = .ok (.iload_n 3, 1) := by decide +kernel
theorem dX7_canBe_31 : decode cX7_canBe 31 = .ok (.iaload, 1) := by decide +kernel
theorem dX7_canBe_32 : decode cX7_canBe 32 = .ok (.invokevirtual 160, 3) := by decide +kernel
theorem dX7_canBe_35 : decode cX7_canBe 35 = .ok (.ifCond .le 7, 3) := by decide +kernel
theorem dX7_canBe_38 : decode cX7_canBe 38 = .ok (.iconst 1, 1) := by decide +kernel
theorem dX7_canBe_39 : decode cX7_canBe 39 = .ok (.goto 4, 3) := by decide +kernel
theorem dX7_canBe_42 : decode cX7_canBe 42 = .ok (.iconst 0, 1) := by decide +kernel
theorem dX7_canBe_43 : decode cX7_canBe 43 = .ok (.istore 4, 2) := by decide +kernel
theorem dX7_canBe_45 : decode cX7_canBe 45 = .ok (.iload 4, 2) := by decide +kernel
theorem dX7_canBe_47 : decode cX7_canBe 47 = .ok (.aload_n 2, 1) := by decide +kernel
theorem dX7_canBe_48 : decode cX7_canBe 48 = .ok (.getfield 305, 3) := by decide +kernel
theorem dX7_canBe_51 : decode cX7_canBe 51 = .ok (.iload_n 3, 1) := by decide +kernel
theorem dX7_canBe_52 : decode cX7_canBe 52 = .ok (.baload, 1) := by decide +kernel
theorem dX7_canBe_53 : decode cX7_canBe 53 = .ok (.if_icmp .eq 5, 3) := by decide +kernel
theorem dX7_canBe_56 : decode cX7_canBe 56 = .ok (.iconst 0, 1) := by decide +kernel
theorem dX7_canBe_57 : decode cX7_canBe 57 = .ok (.ireturn, 1) := by decide +kernel
theorem dX7_canBe_58 : decode cX7_canBe 58 = .ok (.iinc 3 1, 3) := by decide +kernel
theorem dX7_canBe_61 : decode cX7_canBe 61 = .ok (.goto (-51), 3) := by decide +kernel
theorem dX7_canBe_64 : decode cX7_canBe 64 = .ok (.iconst 1, 1) := by decide +kernel
theorem dX7_canBe_65 : decode cX7_canBe 65 = .ok (.ireturn, 1) := by decide +kernel
theorem dX7_floatsFrom_0 : decode cX7_floatsFrom 0 = .ok (.iload_n 1, 1) := by decide +kernel
theorem dX7_floatsFrom_1 : decode cX7_floatsFrom 1 = .ok (.aload_n 0, 1) := by decide +kernel
theorem dX7_floatsFrom_2 : decode cX7_floatsFrom 2 = .ok (.getfield 19, 3) := by decide +kernel
theorem dX7_floatsFrom_5 : decode cX7_floatsFrom 5 = .ok (.iload_n 2, 1) := by decide +kernel
theorem dX7_floatsFrom_6 : decode cX7_floatsFrom 6 = .ok (.invokevirtual 357, 3) := by decide +kernel
theorem dX7_floatsFrom_9 : decode cX7_floatsFrom 9 = .ok (.isub, 1) := by decide +kernel
theorem dX7_floatsFrom_10 : decode cX7_floatsFrom 10 = .ok (.istore 4, 2) := by decide +kernel
theorem dX7_floatsFrom_12 : decode cX7_floatsFrom 12 = .ok (.aload_n 0, 1) := by decide +kernel
theorem dX7_floatsFrom_13 : decode cX7_floatsFrom 13 = .ok (.getfield 19, 3) := by decide +kernel
theorem dX7_floatsFrom_16 : decode cX7_floatsFrom 16 = .ok (.iload 4, 2) := by decide +kernel
theorem dX7_floatsFrom_18 : decode cX7_floatsFrom 18 = .ok (.aload_n 0, 1) := by decide +kernel
theorem dX7_floatsFrom_19 : decode cX7_floatsFrom 19 = .ok (.getfield 26, 3) := by decide +kernel
theorem dX7_floatsFrom_22 : decode cX7_floatsFrom 22 = .ok (.getfield 66, 3) := by decide +kernel
theorem dX7_floatsFrom_25 : decode cX7_floatsFrom 25 = .ok (.aload_n 0, 1) := by decide +kernel
theorem dX7_floatsFrom_26 : decode cX7_floatsFrom 26 = .ok (.getfield 19, 3) := by decide +kernel
theorem dX7_floatsFrom_29 : decode cX7_floatsFrom 29 = .ok (.iload_n 2, 1) := by decide +kernel
theorem dX7_floatsFrom_30 : decode cX7_floatsFrom 30 = .ok (.iload_n 3, 1) := by decide +kernel
theorem dX7_floatsFrom_31 : decode cX7_floatsFrom 31 = .ok (.invokevirtual 197, 3) := by decide +kernel
theorem dX7_floatsFrom_34 : decode cX7_floatsFrom 34 = .ok (.invokevirtual 367, 3) := by decide +kernel
theorem dX7_floatsFrom_37 : decode cX7_floatsFrom 37 = .ok (.ireturn, 1) := by decide +kernel
theorem dX7_risesFrom_0 : decode cX7_risesFrom 0 = .ok (.aload_n 0, 1) := by decide +kernel
theorem dX7_risesFrom_1 : decode cX7_risesFrom 1 = .ok (.iload_n 1, 1) := by decide +kernel
theorem dX7_risesFrom_2 : decode cX7_risesFrom 2 = .ok (.iconst 1, 1) := by decide +kernel
theorem dX7_risesFrom_3 : decode cX7_risesFrom 3 = .ok (.iadd, 1) := by decide +kernel
theorem dX7_risesFrom_4 : decode cX7_risesFrom 4 = .ok (.iload_n 2, 1) := by decide +kernel
theorem dX7_risesFrom_5 : decode cX7_risesFrom 5 = .ok (.iconst 0, 1) := by decide +kernel
theorem dX7_risesFrom_6 : decode cX7_risesFrom 6 = .ok (.invokevirtual 225, 3) := by decide +kernel
theorem dX7_risesFrom_9 : decode cX7_risesFrom 9 = .ok (.ireturn, 1) := by decide +kernel
theorem dX7_comesBackFrom_0 : decode cX7_comesBackFrom 0 = .ok (.aload_n 0, 1) := by decide +kernel
theorem dX7_comesBackFrom_1 : decode cX7_comesBackFrom 1 = .ok (.iload_n 1, 1) := by decide +kernel
theorem dX7_comesBackFrom_2 : decode cX7_comesBackFrom 2 = .ok (.iconst 0, 1) := by decide +kernel
theorem dX7_comesBackFrom_3 : decode cX7_comesBackFrom 3 = .ok (.invokevirtual 286, 3) := by decide +kernel
theorem dX7_comesBackFrom_6 : decode cX7_comesBackFrom 6 = .ok (.aload_n 0, 1) := by decide +kernel
theorem dX7_comesBackFrom_7 : decode cX7_comesBackFrom 7 = .ok (.iload_n 1, 1) := by decide +kernel
theorem dX7_comesBackFrom_8 : decode cX7_comesBackFrom 8 = .ok (.aload_n 0, 1) := by decide +kernel
theorem dX7_comesBackFrom_9 : decode cX7_comesBackFrom 9 = .ok (.getfield 19, 3) := by decide +kernel
theorem dX7_comesBackFrom_12 : decode cX7_comesBackFrom 12 = .ok (.getfield 62, 3) := by decide +kernel
theorem dX7_comesBackFrom_15 : decode cX7_comesBackFrom 15 = .ok (.iconst 0, 1) := by decide +kernel
theorem dX7_comesBackFrom_16 : decode cX7_comesBackFrom 16 = .ok (.iaload, 1) := by decide +kernel
theorem dX7_comesBackFrom_17 : decode cX7_comesBackFrom 17 = .ok (.invokevirtual 286, 3) := by decide +kernel
theorem dX7_comesBackFrom_20 : decode cX7_comesBackFrom 20 = .ok (.invokestatic 280, 3) := by decide +kernel
theorem dX7_comesBackFrom_23 : decode cX7_comesBackFrom 23 = .ok (.ireturn, 1) := by decide +kernel
theorem dX7_leastAtThumb_0 : decode cX7_leastAtThumb 0 = .ok (.iload_n 2, 1) := by decide +kernel
theorem dX7_leastAtThumb_1 : decode cX7_leastAtThumb 1 = .ok (.ifCond .ne 7, 3) := by decide +kernel
theorem dX7_leastAtThumb_4 : decode cX7_leastAtThumb 4 = .ok (.iconst 0, 1) := by decide +kernel
theorem dX7_leastAtThumb_5 : decode cX7_leastAtThumb 5 = .ok (.goto 12, 3) := by decide +kernel
theorem dX7_leastAtThumb_8 : decode cX7_leastAtThumb 8 = .ok (.aload_n 0, 1) := by decide +kernel
theorem dX7_leastAtThumb_9 : decode cX7_leastAtThumb 9 = .ok (.iload_n 1, 1) := by decide +kernel
theorem dX7_leastAtThumb_10 : decode cX7_leastAtThumb 10 = .ok (.iconst 0, 1) := by decide +kernel
theorem dX7_leastAtThumb_11 : decode cX7_leastAtThumb 11 = .ok (.iload_n 2, 1) := by decide +kernel
theorem dX7_leastAtThumb_12 : decode cX7_leastAtThumb 12 = .ok (.iconst 1, 1) := by decide +kernel
theorem dX7_leastAtThumb_13 : decode cX7_leastAtThumb 13 = .ok (.isub, 1) := by decide +kernel
theorem dX7_leastAtThumb_14 : decode cX7_leastAtThumb 14 = .ok (.invokevirtual 225, 3) := by decide +kernel
theorem dX7_leastAtThumb_17 : decode cX7_leastAtThumb 17 = .ok (.ireturn, 1) := by decide +kernel
theorem dX7_greatestAtThumb_0 : decode cX7_greatestAtThumb 0 = .ok (.aload_n 0, 1) := by decide +kernel
theorem dX7_greatestAtThumb_1 : decode cX7_greatestAtThumb 1 = .ok (.iload_n 1, 1) := by decide +kernel
theorem dX7_greatestAtThumb_2 : decode cX7_greatestAtThumb 2 = .ok (.iconst 0, 1) := by decide +kernel
theorem dX7_greatestAtThumb_3 : decode cX7_greatestAtThumb 3 = .ok (.iload_n 2, 1) := by decide +kernel
theorem dX7_greatestAtThumb_4 : decode cX7_greatestAtThumb 4 = .ok (.invokevirtual 225, 3) := by decide +kernel
theorem dX7_greatestAtThumb_7 : decode cX7_greatestAtThumb 7 = .ok (.iconst 1, 1) := by decide +kernel
theorem dX7_greatestAtThumb_8 : decode cX7_greatestAtThumb 8 = .ok (.isub, 1) := by decide +kernel
theorem dX7_greatestAtThumb_9 : decode cX7_greatestAtThumb 9 = .ok (.ireturn, 1) := by decide +kernel
theorem dX7_tellRange_0 : decode cX7_tellRange 0 = .ok (.iload_n 1, 1) := by decide +kernel
theorem dX7_tellRange_1 : decode cX7_tellRange 1 = .ok (.sipush 9999, 3) := by decide +kernel
theorem dX7_tellRange_4 : decode cX7_tellRange 4 = .ok (.invokestatic 216, 3) := by decide +kernel
theorem dX7_tellRange_7 : decode cX7_tellRange 7 = .ok (.istore_n 3, 1) := by decide +kernel
theorem dX7_tellRange_8 : decode cX7_tellRange 8 = .ok (.iload_n 2, 1) := by decide +kernel
theorem dX7_tellRange_9 : decode cX7_tellRange 9 = .ok (.ifCond .ne 13, 3) := by decide +kernel
theorem dX7_tellRange_12 : decode cX7_tellRange 12 = .ok (.iconst 0, 1) := by decide +kernel
theorem dX7_tellRange_13 : decode cX7_tellRange 13 = .ok (.iload_n 3, 1) := by decide +kernel
theorem dX7_tellRange_14 : decode cX7_tellRange 14 = .ok (.iload_n 0, 1) := by decide +kernel
theorem dX7_tellRange_15 : decode cX7_tellRange 15 = .ok (.isub, 1) := by decide +kernel
theorem dX7_tellRange_16 : decode cX7_tellRange 16 = .ok (.iconst 1, 1) := by decide +kernel
theorem dX7_tellRange_17 : decode cX7_tellRange 17 = .ok (.iadd, 1) := by decide +kernel
theorem dX7_tellRange_18 : decode cX7_tellRange 18 = .ok (.invokestatic 280, 3) := by decide +kernel
theorem dX7_tellRange_21 : decode cX7_tellRange 21 = .ok (.ireturn, 1) := by decide +kernel
theorem dX7_tellRange_22 : decode cX7_tellRange 22 = .ok (.iload_n 3, 1) := by decide +kernel
theorem dX7_tellRange_23 : decode cX7_tellRange 23 = .ok (.iload_n 0, 1) := by decide +kernel
theorem dX7_tellRange_24 : decode cX7_tellRange 24 = .ok (.if_icmp .ge 6, 3) := by decide +kernel
theorem dX7_tellRange_27 : decode cX7_tellRange 27 = .ok (.bipush (-4), 2) := by decide +kernel
theorem dX7_tellRange_29 : decode cX7_tellRange 29 = .ok (.ireturn, 1) := by decide +kernel
theorem dX7_tellRange_30 : decode cX7_tellRange 30 = .ok (.iload_n 2, 1) := by decide +kernel
theorem dX7_tellRange_31 : decode cX7_tellRange 31 = .ok (.iconst 1, 1) := by decide +kernel
theorem dX7_tellRange_32 : decode cX7_tellRange 32 = .ok (.if_icmp .ne 7, 3) := by decide +kernel
theorem dX7_tellRange_35 : decode cX7_tellRange 35 = .ok (.iload_n 0, 1) := by decide +kernel
theorem dX7_tellRange_36 : decode cX7_tellRange 36 = .ok (.goto 4, 3) := by decide +kernel
theorem dX7_tellRange_39 : decode cX7_tellRange 39 = .ok (.iload_n 3, 1) := by decide +kernel
theorem dX7_tellRange_40 : decode cX7_tellRange 40 = .ok (.ireturn, 1) := by decide +kernel
theorem dX7_findGoers_0 : decode cX7_findGoers 0 = .ok (.aload_n 0, 1) := by decide +kernel
theorem dX7_findGoers_1 : decode cX7_findGoers 1 = .ok (.iload_n 1, 1) := by decide +kernel
theorem dX7_findGoers_2 : decode cX7_findGoers 2 = .ok (.invokevirtual 222, 3) := by decide +kernel
theorem dX7_findGoers_5 : decode cX7_findGoers 5 = .ok (.istore_n 2, 1) := by decide +kernel
theorem dX7_findGoers_6 : decode cX7_findGoers 6 = .ok (.iconst 0, 1) := by decide +kernel
theorem dX7_findGoers_7 : decode cX7_findGoers 7 = .ok (.istore_n 3, 1) := by decide +kernel
theorem dX7_findGoers_8 : decode cX7_findGoers 8 = .ok (.iload_n 3, 1) := by decide +kernel
theorem dX7_findGoers_9 : decode cX7_findGoers 9 = .ok (.sipush 500, 3) := by decide +kernel
theorem dX7_findGoers_12 : decode cX7_findGoers 12 = .ok (.if_icmp .gt 47, 3) := by decide +kernel
theorem dX7_findGoers_15 : decode cX7_findGoers 15 = .ok (.iload_n 2, 1) := by decide +kernel
theorem dX7_findGoers_16 : decode cX7_findGoers 16 = .ok (.aload_n 0, 1) := by decide +kernel
theorem dX7_findGoers_17 : decode cX7_findGoers 17 = .ok (.iload_n 1, 1) := by decide +kernel
theorem dX7_findGoers_18 : decode cX7_findGoers 18 = .ok (.iload_n 3, 1) := by decide +kernel
theorem dX7_findGoers_19 : decode cX7_findGoers 19 = .ok (.invokevirtual 232, 3) := by decide +kernel
theorem dX7_findGoers_22 : decode cX7_findGoers 22 = .ok (.invokestatic 280, 3) := by decide +kernel
theorem dX7_findGoers_25 : decode cX7_findGoers 25 = .ok (.istore 4, 2) := by decide +kernel
theorem dX7_findGoers_27 : decode cX7_findGoers 27 = .ok (.aload_n 0, 1) := by decide +kernel
theorem dX7_findGoers_28 : decode cX7_findGoers 28 = .ok (.getfield 59, 3) := by decide +kernel
theorem dX7_findGoers_31 : decode cX7_findGoers 31 = .ok (.iload_n 3, 1) := by decide +kernel
theorem dX7_findGoers_32 : decode cX7_findGoers 32 = .ok (.iload 4, 2) := by decide +kernel
theorem dX7_findGoers_34 : decode cX7_findGoers 34 = .ok (.aload_n 0, 1) := by decide +kernel
theorem dX7_findGoers_35 : decode cX7_findGoers 35 = .ok (.iload_n 1, 1) := by decide +kernel
theorem dX7_findGoers_36 : decode cX7_findGoers 36 = .ok (.iload_n 3, 1) := by decide +kernel
theorem dX7_findGoers_37 : decode cX7_findGoers 37 = .ok (.invokevirtual 235, 3) := by decide +kernel
theorem dX7_findGoers_40 : decode cX7_findGoers 40 = .ok (.iconst 0, 1) := by decide +kernel
theorem dX7_findGoers_41 : decode cX7_findGoers 41 = .ok (.invokestatic 229, 3) := by decide +kernel
theorem dX7_findGoers_44 : decode cX7_findGoers 44 = .ok (.ifCond .le 7, 3) := by decide +kernel
theorem dX7_findGoers_47 : decode cX7_findGoers 47 = .ok (.iconst 1, 1) := by decide +kernel
theorem dX7_findGoers_48 : decode cX7_findGoers 48 = .ok (.goto 4, 3) := by decide +kernel
theorem dX7_findGoers_51 : decode cX7_findGoers 51 = .ok (.iconst 0, 1) := by decide +kernel
theorem dX7_findGoers_52 : decode cX7_findGoers 52 = .ok (.bastore, 1) := by decide +kernel
theorem dX7_findGoers_53 : decode cX7_findGoers 53 = .ok (.iinc 3 1, 3) := by decide +kernel
theorem dX7_findGoers_56 : decode cX7_findGoers 56 = .ok (.goto (-48), 3) := by decide +kernel
theorem dX7_findGoers_59 : decode cX7_findGoers 59 = .ok (.return_, 1) := by decide +kernel
theorem dX7_firstGoer_0 : decode cX7_firstGoer 0 = .ok (.iconst 0, 1) := by decide +kernel
theorem dX7_firstGoer_1 : decode cX7_firstGoer 1 = .ok (.istore_n 1, 1) := by decide +kernel
theorem dX7_firstGoer_2 : decode cX7_firstGoer 2 = .ok (.iload_n 1, 1) := by decide +kernel
theorem dX7_firstGoer_3 : decode cX7_firstGoer 3 = .ok (.sipush 500, 3) := by decide +kernel
theorem dX7_firstGoer_6 : decode cX7_firstGoer 6 = .ok (.if_icmp .gt 20, 3) := by decide +kernel
theorem dX7_firstGoer_9 : decode cX7_firstGoer 9 = .ok (.aload_n 0, 1) := by decide +kernel
theorem dX7_firstGoer_10 : decode cX7_firstGoer 10 = .ok (.getfield 59, 3) := by decide +kernel
theorem dX7_firstGoer_13 : decode cX7_firstGoer 13 = .ok (.iload_n 1, 1) := by decide +kernel
theorem dX7_firstGoer_14 : decode cX7_firstGoer 14 = .ok (.baload, 1) := by decide +kernel
theorem dX7_firstGoer_15 : decode cX7_firstGoer 15 = .ok (.ifCond .eq 5, 3) := by decide +kernel
theorem dX7_firstGoer_18 : decode cX7_firstGoer 18 = .ok (.iload_n 1, 1) := by decide +kernel
theorem dX7_firstGoer_19 : decode cX7_firstGoer 19 = .ok (.ireturn, 1) := by decide +kernel
theorem dX7_firstGoer_20 : decode cX7_firstGoer 20 = .ok (.iinc 1 1, 3) := by decide +kernel
theorem dX7_firstGoer_23 : decode cX7_firstGoer 23 = .ok (.goto (-21), 3) := by decide +kernel
theorem dX7_firstGoer_26 : decode cX7_firstGoer 26 = .ok (.bipush (-4), 2) := by decide +kernel
theorem dX7_firstGoer_28 : decode cX7_firstGoer 28 = .ok (.ireturn, 1) := by decide +kernel
theorem dX7_goersApart_0 : decode cX7_goersApart 0 = .ok (.iconst 0, 1) := by decide +kernel
theorem dX7_goersApart_1 : decode cX7_goersApart 1 = .ok (.istore_n 2, 1) := by decide +kernel
theorem dX7_goersApart_2 : decode cX7_goersApart 2 = .ok (.iconst 0, 1) := by decide +kernel
theorem dX7_goersApart_3 : decode cX7_goersApart 3 = .ok (.istore_n 3, 1) := by decide +kernel
theorem dX7_goersApart_4 : decode cX7_goersApart 4 = .ok (.iconst 0, 1) := by decide +kernel
theorem dX7_goersApart_5 : decode cX7_goersApart 5 = .ok (.istore 4, 2) := by decide +kernel
theorem dX7_goersApart_7 : decode cX7_goersApart 7 = .ok (.iload 4, 2) := by decide +kernel
theorem dX7_goersApart_9 : decode cX7_goersApart 9 = .ok (.sipush 500, 3) := by decide +kernel
theorem dX7_goersApart_12 : decode cX7_goersApart 12 = .ok (.if_icmp .gt 36, 3) := by decide +kernel
theorem dX7_goersApart_15 : decode cX7_goersApart 15 = .ok (.aload_n 0, 1) := by decide +kernel
theorem dX7_goersApart_16 : decode cX7_goersApart 16 = .ok (.getfield 59, 3) := by decide +kernel
theorem dX7_goersApart_19 : decode cX7_goersApart 19 = .ok (.iload 4, 2) := by decide +kernel
theorem dX7_goersApart_21 : decode cX7_goersApart 21 = .ok (.baload, 1) := by decide +kernel
theorem dX7_goersApart_22 : decode cX7_goersApart 22 = .ok (.ifCond .eq 20, 3) := by decide +kernel
theorem dX7_goersApart_25 : decode cX7_goersApart 25 = .ok (.iload 4, 2) := by decide +kernel
theorem dX7_goersApart_27 : decode cX7_goersApart 27 = .ok (.iload_n 3, 1) := by decide +kernel
theorem dX7_goersApart_28 : decode cX7_goersApart 28 = .ok (.if_icmp .ge 6, 3) := by decide +kernel
theorem dX7_goersApart_31 : decode cX7_goersApart 31 = .ok (.goto 11, 3) := by decide +kernel
theorem dX7_goersApart_34 : decode cX7_goersApart 34 = .ok (.iinc 2 1, 3) := by decide +kernel
theorem dX7_goersApart_37 : decode cX7_goersApart 37 = .ok (.iload 4, 2) := by decide +kernel
theorem dX7_goersApart_39 : decode cX7_goersApart 39 = .ok (.iload_n 1, 1) := by decide +kernel
theorem dX7_goersApart_40 : decode cX7_goersApart 40 = .ok (.iadd, 1) := by decide +kernel
theorem dX7_goersApart_41 : decode cX7_goersApart 41 = .ok (.istore_n 3, 1) := by decide +kernel
theorem dX7_goersApart_42 : decode cX7_goersApart 42 = .ok (.iinc 4 1, 3) := by decide +kernel
theorem dX7_goersApart_45 : decode cX7_goersApart 45 = .ok (.goto (-38), 3) := by decide +kernel
theorem dX7_goersApart_48 : decode cX7_goersApart 48 = .ok (.iload_n 2, 1) := by decide +kernel
theorem dX7_goersApart_49 : decode cX7_goersApart 49 = .ok (.ireturn, 1) := by decide +kernel
theorem dX7_greatestGap_0 : decode cX7_greatestGap 0 = .ok (.iconst 1, 1) := by decide +kernel
theorem dX7_greatestGap_1 : decode cX7_greatestGap 1 = .ok (.istore_n 2, 1) := by decide +kernel
theorem dX7_greatestGap_2 : decode cX7_greatestGap 2 = .ok (.sipush 501, 3) := by decide +kernel
theorem dX7_greatestGap_5 : decode cX7_greatestGap 5 = .ok (.istore_n 3, 1) := by decide +kernel
theorem dX7_greatestGap_6 : decode cX7_greatestGap 6 = .ok (.iconst 0, 1) := by decide +kernel
theorem dX7_greatestGap_7 : decode cX7_greatestGap 7 = .ok (.istore 4, 2) := by decide +kernel
theorem dX7_greatestGap_9 : decode cX7_greatestGap 9 = .ok (.iload 4, 2) := by decide +kernel
theorem dX7_greatestGap_11 : decode cX7_greatestGap 11 = .ok (.sipush 500, 3) := by decide +kernel
theorem dX7_greatestGap_14 : decode cX7_greatestGap 14 = .ok (.if_icmp .gt 42, 3) := by decide +kernel
theorem dX7_greatestGap_17 : decode cX7_greatestGap 17 = .ok (.iload_n 3, 1) := by decide +kernel
theorem dX7_greatestGap_18 : decode cX7_greatestGap 18 = .ok (.iload_n 2, 1) := by decide +kernel
theorem dX7_greatestGap_19 : decode cX7_greatestGap 19 = .ok (.isub, 1) := by decide +kernel
theorem dX7_greatestGap_20 : decode cX7_greatestGap 20 = .ok (.iconst 1, 1) := by decide +kernel
theorem dX7_greatestGap_21 : decode cX7_greatestGap 21 = .ok (.if_icmp .le 35, 3) := by decide +kernel
theorem dX7_greatestGap_24 : decode cX7_greatestGap 24 = .ok (.iload_n 2, 1) := by decide +kernel
theorem dX7_greatestGap_25 : decode cX7_greatestGap 25 = .ok (.iload_n 3, 1) := by decide +kernel
theorem dX7_greatestGap_26 : decode cX7_greatestGap 26 = .ok (.iadd, 1) := by decide +kernel
theorem dX7_greatestGap_27 : decode cX7_greatestGap 27 = .ok (.iconst 1, 1) := by decide +kernel
theorem dX7_greatestGap_28 : decode cX7_greatestGap 28 = .ok (.ishr, 1) := by decide +kernel
theorem dX7_greatestGap_29 : decode cX7_greatestGap 29 = .ok (.istore 5, 2) := by decide +kernel
theorem dX7_greatestGap_31 : decode cX7_greatestGap 31 = .ok (.aload_n 0, 1) := by decide +kernel
theorem dX7_greatestGap_32 : decode cX7_greatestGap 32 = .ok (.iload 5, 2) := by decide +kernel
theorem dX7_greatestGap_34 : decode cX7_greatestGap 34 = .ok (.invokevirtual 242, 3) := by decide +kernel
theorem dX7_greatestGap_37 : decode cX7_greatestGap 37 = .ok (.iload_n 1, 1) := by decide +kernel
theorem dX7_greatestGap_38 : decode cX7_greatestGap 38 = .ok (.if_icmp .lt 9, 3) := by decide +kernel
theorem dX7_greatestGap_41 : decode cX7_greatestGap 41 = .ok (.iload 5, 2) := by decide +kernel
theorem dX7_greatestGap_43 : decode cX7_greatestGap 43 = .ok (.istore_n 2, 1) := by decide +kernel
theorem dX7_greatestGap_44 : decode cX7_greatestGap 44 = .ok (.goto 6, 3) := by decide +kernel
theorem dX7_greatestGap_47 : decode cX7_greatestGap 47 = .ok (.iload 5, 2) := by decide +kernel
theorem dX7_greatestGap_49 : decode cX7_greatestGap 49 = .ok (.istore_n 3, 1) := by decide +kernel
theorem dX7_greatestGap_50 : decode cX7_greatestGap 50 = .ok (.iinc 4 1, 3) := by decide +kernel
theorem dX7_greatestGap_53 : decode cX7_greatestGap 53 = .ok (.goto (-44), 3) := by decide +kernel
theorem dX7_greatestGap_56 : decode cX7_greatestGap 56 = .ok (.iload_n 2, 1) := by decide +kernel
theorem dX7_greatestGap_57 : decode cX7_greatestGap 57 = .ok (.ireturn, 1) := by decide +kernel
theorem dX7_tryHold_0 : decode cX7_tryHold 0 = .ok (.aload_n 0, 1) := by decide +kernel
theorem dX7_tryHold_1 : decode cX7_tryHold 1 = .ok (.getfield 55, 3) := by decide +kernel
theorem dX7_tryHold_4 : decode cX7_tryHold 4 = .ok (.aload_n 0, 1) := by decide +kernel
theorem dX7_tryHold_5 : decode cX7_tryHold 5 = .ok (.getfield 26, 3) := by decide +kernel
theorem dX7_tryHold_8 : decode cX7_tryHold 8 = .ok (.getfield 121, 3) := by decide +kernel
theorem dX7_tryHold_11 : decode cX7_tryHold 11 = .ok (.iload_n 1, 1) := by decide +kernel
theorem dX7_tryHold_12 : decode cX7_tryHold 12 = .ok (.aaload, 1) := by decide +kernel
theorem dX7_tryHold_13 : decode cX7_tryHold 13 = .ok (.iload_n 2, 1) := by decide +kernel
theorem dX7_tryHold_14 : decode cX7_tryHold 14 = .ok (.iload_n 3, 1) := by decide +kernel
theorem dX7_tryHold_15 : decode cX7_tryHold 15 = .ok (.invokevirtual 370, 3) := by decide +kernel
theorem dX7_tryHold_18 : decode cX7_tryHold 18 = .ok (.iconst 1, 1) := by decide +kernel
theorem dX7_tryHold_19 : decode cX7_tryHold 19 = .ok (.istore 7, 2) := by decide +kernel
theorem dX7_tryHold_21 : decode cX7_tryHold 21 = .ok (.iload 7, 2) := by decide +kernel
theorem dX7_tryHold_23 : decode cX7_tryHold 23 = .ok (.iload 6, 2) := by decide +kernel
theorem dX7_tryHold_25 : decode cX7_tryHold 25 = .ok (.if_icmp .gt 110, 3) := by decide +kernel
theorem dX7_tryHold_28 : decode cX7_tryHold 28 = .ok (.aload_n 0, 1) := by decide +kernel
theorem dX7_tryHold_29 : decode cX7_tryHold 29 = .ok (.getfield 55, 3) := by decide +kernel
theorem dX7_tryHold_32 : decode cX7_tryHold 32 = .ok (.getfield 265, 3) := by decide +kernel
theorem dX7_tryHold_35 : decode cX7_tryHold 35 = .ok (.bipush (-4), 2) := by decide +kernel
theorem dX7_tryHold_37 : decode cX7_tryHold 37 = .ok (.if_icmp .ne 98, 3) := by decide +kernel
theorem dX7_tryHold_40 : decode cX7_tryHold 40 = .ok (.aload_n 0, 1) := by decide +kernel
theorem dX7_tryHold_41 : decode cX7_tryHold 41 = .ok (.getfield 55, 3) := by decide +kernel
theorem dX7_tryHold_44 : decode cX7_tryHold 44 = .ok (.iload 7, 2) := by decide +kernel
theorem dX7_tryHold_46 : decode cX7_tryHold 46 = .ok (.iconst 1, 1) := by decide +kernel
theorem dX7_tryHold_47 : decode cX7_tryHold 47 = .ok (.isub, 1) := by decide +kernel
theorem dX7_tryHold_48 : decode cX7_tryHold 48 = .ok (.iload 4, 2) := by decide +kernel
theorem dX7_tryHold_50 : decode cX7_tryHold 50 = .ok (.iload 5, 2) := by decide +kernel
theorem dX7_tryHold_52 : decode cX7_tryHold 52 = .ok (.invokevirtual 374, 3) := by decide +kernel
theorem dX7_tryHold_55 : decode cX7_tryHold 55 = .ok (.aload_n 0, 1) := by decide +kernel
theorem dX7_tryHold_56 : decode cX7_tryHold 56 = .ok (.aload_n 0, 1) := by decide +kernel
theorem dX7_tryHold_57 : decode cX7_tryHold 57 = .ok (.getfield 55, 3) := by decide +kernel
theorem dX7_tryHold_60 : decode cX7_tryHold 60 = .ok (.getfield 268, 3) := by decide +kernel
theorem dX7_tryHold_63 : decode cX7_tryHold 63 = .ok (.aload_n 0, 1) := by decide +kernel
theorem dX7_tryHold_64 : decode cX7_tryHold 64 = .ok (.getfield 55, 3) := by decide +kernel
theorem dX7_tryHold_67 : decode cX7_tryHold 67 = .ok (.getfield 268, 3) := by decide +kernel
theorem dX7_tryHold_70 : decode cX7_tryHold 70 = .ok (.invokevirtual 147, 3) := by decide +kernel
theorem dX7_tryHold_73 : decode cX7_tryHold 73 = .ok (.aload_n 0, 1) := by decide +kernel
theorem dX7_tryHold_74 : decode cX7_tryHold 74 = .ok (.getfield 55, 3) := by decide +kernel
theorem dX7_tryHold_77 : decode cX7_tryHold 77 = .ok (.getfield 275, 3) := by decide +kernel
theorem dX7_tryHold_80 : decode cX7_tryHold 80 = .ok (.invokevirtual 160, 3) := by decide +kernel
theorem dX7_tryHold_83 : decode cX7_tryHold 83 = .ok (.istore 8, 2) := by decide +kernel
theorem dX7_tryHold_85 : decode cX7_tryHold 85 = .ok (.aload_n 0, 1) := by decide +kernel
theorem dX7_tryHold_86 : decode cX7_tryHold 86 = .ok (.getfield 55, 3) := by decide +kernel
theorem dX7_tryHold_89 : decode cX7_tryHold 89 = .ok (.getfield 268, 3) := by decide +kernel
theorem dX7_tryHold_92 : decode cX7_tryHold 92 = .ok (.iload 8, 2) := by decide +kernel
theorem dX7_tryHold_94 : decode cX7_tryHold 94 = .ok (.aload_n 0, 1) := by decide +kernel
theorem dX7_tryHold_95 : decode cX7_tryHold 95 = .ok (.getfield 19, 3) := by decide +kernel
theorem dX7_tryHold_98 : decode cX7_tryHold 98 = .ok (.getfield 62, 3) := by decide +kernel
theorem dX7_tryHold_101 : decode cX7_tryHold 101 = .ok (.iconst 3, 1) := by decide +kernel
theorem dX7_tryHold_102 : decode cX7_tryHold 102 = .ok (.iaload, 1) := by decide +kernel
theorem dX7_tryHold_103 : decode cX7_tryHold 103 = .ok (.aload_n 0, 1) := by decide +kernel
theorem dX7_tryHold_104 : decode cX7_tryHold 104 = .ok (.getfield 19, 3) := by decide +kernel
theorem dX7_tryHold_107 : decode cX7_tryHold 107 = .ok (.invokevirtual 181, 3) := by decide +kernel
theorem dX7_tryHold_110 : decode cX7_tryHold 110 = .ok (.invokevirtual 347, 3) := by decide +kernel
theorem dX7_tryHold_113 : decode cX7_tryHold 113 = .ok (.aload_n 0, 1) := by decide +kernel
theorem dX7_tryHold_114 : decode cX7_tryHold 114 = .ok (.getfield 55, 3) := by decide +kernel
theorem dX7_tryHold_117 : decode cX7_tryHold 117 = .ok (.iload 7, 2) := by decide +kernel
theorem dX7_tryHold_119 : decode cX7_tryHold 119 = .ok (.aload_n 0, 1) := by decide +kernel
theorem dX7_tryHold_120 : decode cX7_tryHold 120 = .ok (.getfield 19, 3) := by decide +kernel
theorem dX7_tryHold_123 : decode cX7_tryHold 123 = .ok (.invokevirtual 181, 3) := by decide +kernel
theorem dX7_tryHold_126 : decode cX7_tryHold 126 = .ok (.invokevirtual 377, 3) := by decide +kernel
theorem dX7_tryHold_129 : decode cX7_tryHold 129 = .ok (.iinc 7 1, 3) := by decide +kernel
theorem dX7_tryHold_132 : decode cX7_tryHold 132 = .ok (.goto (-111), 3) := by decide +kernel
theorem dX7_tryHold_135 : decode cX7_tryHold 135 = .ok (.return_, 1) := by decide +kernel
theorem dX8_init_0 : decode cX8_init 0 = .ok (.aload_n 0, 1) := by decide +kernel
theorem dX8_init_1 : decode cX8_init 1 = .ok (.invokespecial 1, 3) := by decide +kernel
theorem dX8_init_4 : decode cX8_init 4 = .ok (.aload_n 0, 1) := by decide +kernel
theorem dX8_init_5 : decode cX8_init 5 = .ok (.sipush 300, 3) := by decide +kernel
theorem dX8_init_8 : decode cX8_init 8 = .ok (.newarray .int, 2) := by decide +kernel
theorem dX8_init_10 : decode cX8_init 10 = .ok (.putfield 7, 3) := by decide +kernel
theorem dX8_init_13 : decode cX8_init 13 = .ok (.aload_n 0, 1) := by decide +kernel
theorem dX8_init_14 : decode cX8_init 14 = .ok (.iconst 2, 1) := by decide +kernel
theorem dX8_init_15 : decode cX8_init 15 = .ok (.newarray .boolean, 2) := by decide +kernel
theorem dX8_init_17 : decode cX8_init 17 = .ok (.putfield 13, 3) := by decide +kernel
theorem dX8_init_20 : decode cX8_init 20 = .ok (.aload_n 0, 1) := by decide +kernel
theorem dX8_init_21 : decode cX8_init 21 = .ok (.bipush 7, 2) := by decide +kernel
theorem dX8_init_23 : decode cX8_init 23 = .ok (.newarray .int, 2) := by decide +kernel
theorem dX8_init_25 : decode cX8_init 25 = .ok (.putfield 17, 3) := by decide +kernel
theorem dX8_init_28 : decode cX8_init 28 = .ok (.aload_n 0, 1) := by decide +kernel
theorem dX8_init_29 : decode cX8_init 29 = .ok (.bipush 24, 2) := by decide +kernel
theorem dX8_init_31 : decode cX8_init 31 = .ok (.newarray .int, 2) := by decide +kernel
theorem dX8_init_33 : decode cX8_init 33 = .ok (.putfield 20, 3) := by decide +kernel
theorem dX8_init_36 : decode cX8_init 36 = .ok (.aload_n 0, 1) := by decide +kernel
theorem dX8_init_37 : decode cX8_init 37 = .ok (.bipush 7, 2) := by decide +kernel
theorem dX8_init_39 : decode cX8_init 39 = .ok (.newarray .int, 2) := by decide +kernel
theorem dX8_init_41 : decode cX8_init 41 = .ok (.putfield 23, 3) := by decide +kernel
theorem dX8_init_44 : decode cX8_init 44 = .ok (.aload_n 0, 1) := by decide +kernel
theorem dX8_init_45 : decode cX8_init 45 = .ok (.bipush 24, 2) := by decide +kernel
theorem dX8_init_47 : decode cX8_init 47 = .ok (.newarray .int, 2) := by decide +kernel
theorem dX8_init_49 : decode cX8_init 49 = .ok (.putfield 26, 3) := by decide +kernel
theorem dX8_init_52 : decode cX8_init 52 = .ok (.aload_n 0, 1) := by decide +kernel
theorem dX8_init_53 : decode cX8_init 53 = .ok (.bipush 48, 2) := by decide +kernel
theorem dX8_init_55 : decode cX8_init 55 = .ok (.newarray .int, 2) := by decide +kernel
theorem dX8_init_57 : decode cX8_init 57 = .ok (.putfield 29, 3) := by decide +kernel
theorem dX8_init_60 : decode cX8_init 60 = .ok (.aload_n 0, 1) := by decide +kernel
theorem dX8_init_61 : decode cX8_init 61 = .ok (.sipush 320, 3) := by decide +kernel
theorem dX8_init_64 : decode cX8_init 64 = .ok (.newarray .int, 2) := by decide +kernel
theorem dX8_init_66 : decode cX8_init 66 = .ok (.putfield 32, 3) := by decide +kernel
theorem dX8_init_69 : decode cX8_init 69 = .ok (.aload_n 0, 1) := by decide +kernel
theorem dX8_init_70 : decode cX8_init 70 = .ok (.sipush 501, 3) := by decide +kernel
theorem dX8_init_73 : decode cX8_init 73 = .ok (.newarray .boolean, 2) := by decide +kernel
theorem dX8_init_75 : decode cX8_init 75 = .ok (.putfield 35, 3) := by decide +kernel
theorem dX8_init_78 : decode cX8_init 78 = .ok (.aload_n 0, 1) := by decide +kernel
theorem dX8_init_79 : decode cX8_init 79 = .ok (.sipush 1000, 3) := by decide +kernel
theorem dX8_init_82 : decode cX8_init 82 = .ok (.newarray .int, 2) := by decide +kernel
theorem dX8_init_84 : decode cX8_init 84 = .ok (.putfield 38, 3) := by decide +kernel
theorem dX8_init_87 : decode cX8_init 87 = .ok (.aload_n 0, 1) := by decide +kernel
theorem dX8_init_88 : decode cX8_init 88 = .ok (.iconst 4, 1) := by decide +kernel
theorem dX8_init_89 : decode cX8_init 89 = .ok (.newarray .int, 2) := by decide +kernel
theorem dX8_init_91 : decode cX8_init 91 = .ok (.putfield 41, 3) := by decide +kernel
theorem dX8_init_94 : decode cX8_init 94 = .ok (.aload_n 0, 1) := by decide +kernel
theorem dX8_init_95 : decode cX8_init 95 = .ok (.iconst 4, 1) := by decide +kernel
theorem dX8_init_96 : decode cX8_init 96 = .ok (.newarray .int, 2) := by decide +kernel
theorem dX8_init_98 : decode cX8_init 98 = .ok (.putfield 44, 3) := by decide +kernel
theorem dX8_init_101 : decode cX8_init 101 = .ok (.aload_n 0, 1) := by decide +kernel
theorem dX8_init_102 : decode cX8_init 102 = .ok (.sipush 160, 3) := by decide +kernel
theorem dX8_init_105 : decode cX8_init 105 = .ok (.newarray .int, 2) := by decide +kernel
theorem dX8_init_107 : decode cX8_init 107 = .ok (.putfield 47, 3) := by decide +kernel
theorem dX8_init_110 : decode cX8_init 110 = .ok (.iconst 0, 1) := by decide +kernel
theorem dX8_init_111 : decode cX8_init 111 = .ok (.istore_n 1, 1) := by decide +kernel
theorem dX8_init_112 : decode cX8_init 112 = .ok (.iload_n 1, 1) := by decide +kernel
theorem dX8_init_113 : decode cX8_init 113 = .ok (.iconst 4, 1) := by decide +kernel
theorem dX8_init_114 : decode cX8_init 114 = .ok (.if_icmp .ge 17, 3) := by decide +kernel
theorem dX8_init_117 : decode cX8_init 117 = .ok (.aload_n 0, 1) := by decide +kernel
theorem dX8_init_118 : decode cX8_init 118 = .ok (.getfield 41, 3) := by decide +kernel
theorem dX8_init_121 : decode cX8_init 121 = .ok (.iload_n 1, 1) := by decide +kernel
theorem dX8_init_122 : decode cX8_init 122 = .ok (.bipush (-4), 2) := by decide +kernel
theorem dX8_init_124 : decode cX8_init 124 = .ok (.iastore, 1) := by decide +kernel
theorem dX8_init_125 : decode cX8_init 125 = .ok (.iinc 1 1, 3) := by decide +kernel
theorem dX8_init_128 : decode cX8_init 128 = .ok (.goto (-16), 3) := by decide +kernel
theorem dX8_init_131 : decode cX8_init 131 = .ok (.aload_n 0, 1) := by decide +kernel
theorem dX8_init_132 : decode cX8_init 132 = .ok (.invokevirtual 50, 3) := by decide +kernel
theorem dX8_init_135 : decode cX8_init 135 = .ok (.aload_n 0, 1) := by decide +kernel
theorem dX8_init_136 : decode cX8_init 136 = .ok (.invokevirtual 53, 3) := by decide +kernel
theorem dX8_init_139 : decode cX8_init 139 = .ok (.return_, 1) := by decide +kernel
theorem dX8_in_0 : decode cX8_in 0 = .ok (.lload_n 0, 1) := by decide +kernel
theorem dX8_in_1 : decode cX8_in 1 = .ok (.lload_n 2, 1) := by decide +kernel
theorem dX8_in_2 : decode cX8_in 2 = .ok (.lcmp, 1) := by decide +kernel
theorem dX8_in_3 : decode cX8_in 3 = .ok (.ifCond .lt 14, 3) := by decide +kernel
theorem dX8_in_6 : decode cX8_in 6 = .ok (.lload_n 0, 1) := by decide +kernel
theorem dX8_in_7 : decode cX8_in 7 = .ok (.lload 4, 2) := by decide +kernel
theorem dX8_in_9 : decode cX8_in 9 = .ok (.lcmp, 1) := by decide +kernel
theorem dX8_in_10 : decode cX8_in 10 = .ok (.ifCond .gt 7, 3) := by decide +kernel
theorem dX8_in_13 : decode cX8_in 13 = .ok (.iconst 1, 1) := by decide +kernel
theorem dX8_in_14 : decode cX8_in 14 = .ok (.goto 4, 3) := by decide +kernel
theorem dX8_in_17 : decode cX8_in 17 = .ok (.iconst 0, 1) := by decide +kernel
theorem dX8_in_18 : decode cX8_in 18 = .ok (.ireturn, 1) := by decide +kernel
theorem dX8_flag_0 : decode cX8_flag 0 = .ok (.iload_n 0, 1) := by decide +kernel
theorem dX8_flag_1 : decode cX8_flag 1 = .ok (.ifCond .eq 7, 3) := by decide +kernel
theorem dX8_flag_4 : decode cX8_flag 4 = .ok (.iconst 1, 1) := by decide +kernel
theorem dX8_flag_5 : decode cX8_flag 5 = .ok (.goto 4, 3) := by decide +kernel
theorem dX8_flag_8 : decode cX8_flag 8 = .ok (.iconst 0, 1) := by decide +kernel
theorem dX8_flag_9 : decode cX8_flag 9 = .ok (.ireturn, 1) := by decide +kernel
theorem dX8_size_0 : decode cX8_size 0 = .ok (.iload_n 0, 1) := by decide +kernel
theorem dX8_size_1 : decode cX8_size 1 = .ok (.ifCond .ge 8, 3) := by decide +kernel
theorem dX8_size_4 : decode cX8_size 4 = .ok (.iload_n 0, 1) := by decide +kernel
theorem dX8_size_5 : decode cX8_size 5 = .ok (.ineg, 1) := by decide +kernel
theorem dX8_size_6 : decode cX8_size 6 = .ok (.goto 4, 3) := by decide +kernel
theorem dX8_size_9 : decode cX8_size 9 = .ok (.iload_n 0, 1) := by decide +kernel
theorem dX8_size_10 : decode cX8_size 10 = .ok (.ireturn, 1) := by decide +kernel
theorem dX8_firstDraft_0 : decode cX8_firstDraft 0 = .ok (.aload_n 0, 1) := by decide +kernel
theorem dX8_firstDraft_1 : decode cX8_firstDraft 1 = .ok (.getfield 23, 3) := by decide +kernel
theorem dX8_firstDraft_4 : decode cX8_firstDraft 4 = .ok (.iconst 0, 1) := by decide +kernel
theorem dX8_firstDraft_5 : decode cX8_firstDraft 5 = .ok (.bipush 100, 2) := by decide +kernel
theorem dX8_firstDraft_7 : decode cX8_firstDraft 7 = .ok (.iastore, 1) := by decide +kernel
theorem dX8_firstDraft_8 : decode cX8_firstDraft 8 = .ok (.aload_n 0, 1) := by decide +kernel
theorem dX8_firstDraft_9 : decode cX8_firstDraft 9 = .ok (.getfield 23, 3) := by decide +kernel
theorem dX8_firstDraft_12 : decode cX8_firstDraft 12 = .ok (.iconst 1, 1) := by decide +kernel
theorem dX8_firstDraft_13 : decode cX8_firstDraft 13 = .ok (.sipush 1000, 3) := by decide +kernel
end
section
theorem dX8_firstDraft_16 : decode cX8_firstDraft 16 = .ok (.iastore, 1) := by decide +kernel
theorem dX8_firstDraft_17 : decode cX8_firstDraft 17 = .ok (.aload_n 0, 1) := by decide +kernel
theorem dX8_firstDraft_18 : decode cX8_firstDraft 18 = .ok (.getfield 23, 3) := by decide +kernel
theorem dX8_firstDraft_21 : decode cX8_firstDraft 21 = .ok (.iconst 2, 1) := by decide +kernel
theorem dX8_firstDraft_22 : decode cX8_firstDraft 22 = .ok (.sipush 293, 3) := by decide +kernel
theorem dX8_firstDraft_25 : decode cX8_firstDraft 25 = .ok (.iastore, 1) := by decide +kernel
theorem dX8_firstDraft_26 : decode cX8_firstDraft 26 = .ok (.aload_n 0, 1) := by decide +kernel
theorem dX8_firstDraft_27 : decode cX8_firstDraft 27 = .ok (.getfield 23, 3) := by decide +kernel
theorem dX8_firstDraft_30 : decode cX8_firstDraft 30 = .ok (.iconst 3, 1) := by decide +kernel
theorem dX8_firstDraft_31 : decode cX8_firstDraft 31 = .ok (.bipush 8, 2) := by decide +kernel
theorem dX8_firstDraft_33 : decode cX8_firstDraft 33 = .ok (.iastore, 1) := by decide +kernel
theorem dX8_firstDraft_34 : decode cX8_firstDraft 34 = .ok (.aload_n 0, 1) := by decide +kernel
theorem dX8_firstDraft_35 : decode cX8_firstDraft 35 = .ok (.getfield 23, 3) := by decide +kernel
theorem dX8_firstDraft_38 : decode cX8_firstDraft 38 = .ok (.iconst 4, 1) := by decide +kernel
theorem dX8_firstDraft_39 : decode cX8_firstDraft 39 = .ok (.sipush 201, 3) := by decide +kernel
theorem dX8_firstDraft_42 : decode cX8_firstDraft 42 = .ok (.iastore, 1) := by decide +kernel
theorem dX8_firstDraft_43 : decode cX8_firstDraft 43 = .ok (.aload_n 0, 1) := by decide +kernel
theorem dX8_firstDraft_44 : decode cX8_firstDraft 44 = .ok (.getfield 23, 3) := by decide +kernel
theorem dX8_firstDraft_47 : decode cX8_firstDraft 47 = .ok (.iconst 5, 1) := by decide +kernel
theorem dX8_firstDraft_48 : decode cX8_firstDraft 48 = .ok (.iconst 0, 1) := by decide +kernel
theorem dX8_firstDraft_49 : decode cX8_firstDraft 49 = .ok (.iastore, 1) := by decide +kernel
theorem dX8_firstDraft_50 : decode cX8_firstDraft 50 = .ok (.aload_n 0, 1) := by decide +kernel
theorem dX8_firstDraft_51 : decode cX8_firstDraft 51 = .ok (.getfield 23, 3) := by decide +kernel
theorem dX8_firstDraft_54 : decode cX8_firstDraft 54 = .ok (.bipush 6, 2) := by decide +kernel
theorem dX8_firstDraft_56 : decode cX8_firstDraft 56 = .ok (.iconst 0, 1) := by decide +kernel
theorem dX8_firstDraft_57 : decode cX8_firstDraft 57 = .ok (.iastore, 1) := by decide +kernel
theorem dX8_firstDraft_58 : decode cX8_firstDraft 58 = .ok (.iconst 0, 1) := by decide +kernel
theorem dX8_firstDraft_59 : decode cX8_firstDraft 59 = .ok (.istore_n 1, 1) := by decide +kernel
theorem dX8_firstDraft_60 : decode cX8_firstDraft 60 = .ok (.iload_n 1, 1) := by decide +kernel
theorem dX8_firstDraft_61 : decode cX8_firstDraft 61 = .ok (.bipush 24, 2) := by decide +kernel
theorem dX8_firstDraft_63 : decode cX8_firstDraft 63 = .ok (.if_icmp .ge 16, 3) := by decide +kernel
theorem dX8_firstDraft_66 : decode cX8_firstDraft 66 = .ok (.aload_n 0, 1) := by decide +kernel
theorem dX8_firstDraft_67 : decode cX8_firstDraft 67 = .ok (.getfield 26, 3) := by decide +kernel
theorem dX8_firstDraft_70 : decode cX8_firstDraft 70 = .ok (.iload_n 1, 1) := by decide +kernel
theorem dX8_firstDraft_71 : decode cX8_firstDraft 71 = .ok (.iconst 0, 1) := by decide +kernel
theorem dX8_firstDraft_72 : decode cX8_firstDraft 72 = .ok (.iastore, 1) := by decide +kernel
theorem dX8_firstDraft_73 : decode cX8_firstDraft 73 = .ok (.iinc 1 1, 3) := by decide +kernel
theorem dX8_firstDraft_76 : decode cX8_firstDraft 76 = .ok (.goto (-16), 3) := by decide +kernel
theorem dX8_firstDraft_79 : decode cX8_firstDraft 79 = .ok (.iconst 0, 1) := by decide +kernel
theorem dX8_firstDraft_80 : decode cX8_firstDraft 80 = .ok (.istore_n 1, 1) := by decide +kernel
theorem dX8_firstDraft_81 : decode cX8_firstDraft 81 = .ok (.iload_n 1, 1) := by decide +kernel
theorem dX8_firstDraft_82 : decode cX8_firstDraft 82 = .ok (.bipush 48, 2) := by decide +kernel
theorem dX8_firstDraft_84 : decode cX8_firstDraft 84 = .ok (.if_icmp .ge 16, 3) := by decide +kernel
theorem dX8_firstDraft_87 : decode cX8_firstDraft 87 = .ok (.aload_n 0, 1) := by decide +kernel
theorem dX8_firstDraft_88 : decode cX8_firstDraft 88 = .ok (.getfield 29, 3) := by decide +kernel
theorem dX8_firstDraft_91 : decode cX8_firstDraft 91 = .ok (.iload_n 1, 1) := by decide +kernel
theorem dX8_firstDraft_92 : decode cX8_firstDraft 92 = .ok (.iconst 0, 1) := by decide +kernel
theorem dX8_firstDraft_93 : decode cX8_firstDraft 93 = .ok (.iastore, 1) := by decide +kernel
theorem dX8_firstDraft_94 : decode cX8_firstDraft 94 = .ok (.iinc 1 1, 3) := by decide +kernel
theorem dX8_firstDraft_97 : decode cX8_firstDraft 97 = .ok (.goto (-16), 3) := by decide +kernel
theorem dX8_firstDraft_100 : decode cX8_firstDraft 100 = .ok (.aload_n 0, 1) := by decide +kernel
theorem dX8_firstDraft_101 : decode cX8_firstDraft 101 = .ok (.iconst 0, 1) := by decide +kernel
theorem dX8_firstDraft_102 : decode cX8_firstDraft 102 = .ok (.putfield 56, 3) := by decide +kernel
theorem dX8_firstDraft_105 : decode cX8_firstDraft 105 = .ok (.aload_n 0, 1) := by decide +kernel
theorem dX8_firstDraft_106 : decode cX8_firstDraft 106 = .ok (.iconst 0, 1) := by decide +kernel
theorem dX8_firstDraft_107 : decode cX8_firstDraft 107 = .ok (.putfield 60, 3) := by decide +kernel
theorem dX8_firstDraft_110 : decode cX8_firstDraft 110 = .ok (.return_, 1) := by decide +kernel
theorem dX8_keepDraft_0 : decode cX8_keepDraft 0 = .ok (.iconst 0, 1) := by decide +kernel
theorem dX8_keepDraft_1 : decode cX8_keepDraft 1 = .ok (.istore_n 1, 1) := by decide +kernel
theorem dX8_keepDraft_2 : decode cX8_keepDraft 2 = .ok (.iload_n 1, 1) := by decide +kernel
theorem dX8_keepDraft_3 : decode cX8_keepDraft 3 = .ok (.bipush 7, 2) := by decide +kernel
theorem dX8_keepDraft_5 : decode cX8_keepDraft 5 = .ok (.if_icmp .ge 21, 3) := by decide +kernel
theorem dX8_keepDraft_8 : decode cX8_keepDraft 8 = .ok (.aload_n 0, 1) := by decide +kernel
theorem dX8_keepDraft_9 : decode cX8_keepDraft 9 = .ok (.getfield 17, 3) := by decide +kernel
theorem dX8_keepDraft_12 : decode cX8_keepDraft 12 = .ok (.iload_n 1, 1) := by decide +kernel
theorem dX8_keepDraft_13 : decode cX8_keepDraft 13 = .ok (.aload_n 0, 1) := by decide +kernel
theorem dX8_keepDraft_14 : decode cX8_keepDraft 14 = .ok (.getfield 23, 3) := by decide +kernel
theorem dX8_keepDraft_17 : decode cX8_keepDraft 17 = .ok (.iload_n 1, 1) := by decide +kernel
theorem dX8_keepDraft_18 : decode cX8_keepDraft 18 = .ok (.iaload, 1) := by decide +kernel
theorem dX8_keepDraft_19 : decode cX8_keepDraft 19 = .ok (.iastore, 1) := by decide +kernel
theorem dX8_keepDraft_20 : decode cX8_keepDraft 20 = .ok (.iinc 1 1, 3) := by decide +kernel
theorem dX8_keepDraft_23 : decode cX8_keepDraft 23 = .ok (.goto (-21), 3) := by decide +kernel
theorem dX8_keepDraft_26 : decode cX8_keepDraft 26 = .ok (.iconst 0, 1) := by decide +kernel
theorem dX8_keepDraft_27 : decode cX8_keepDraft 27 = .ok (.istore_n 1, 1) := by decide +kernel
theorem dX8_keepDraft_28 : decode cX8_keepDraft 28 = .ok (.iload_n 1, 1) := by decide +kernel
theorem dX8_keepDraft_29 : decode cX8_keepDraft 29 = .ok (.bipush 24, 2) := by decide +kernel
theorem dX8_keepDraft_31 : decode cX8_keepDraft 31 = .ok (.if_icmp .ge 39, 3) := by decide +kernel
theorem dX8_keepDraft_34 : decode cX8_keepDraft 34 = .ok (.aload_n 0, 1) := by decide +kernel
theorem dX8_keepDraft_35 : decode cX8_keepDraft 35 = .ok (.getfield 20, 3) := by decide +kernel
theorem dX8_keepDraft_38 : decode cX8_keepDraft 38 = .ok (.iload_n 1, 1) := by decide +kernel
theorem dX8_keepDraft_39 : decode cX8_keepDraft 39 = .ok (.aload_n 0, 1) := by decide +kernel
theorem dX8_keepDraft_40 : decode cX8_keepDraft 40 = .ok (.getfield 26, 3) := by decide +kernel
theorem dX8_keepDraft_43 : decode cX8_keepDraft 43 = .ok (.iload_n 1, 1) := by decide +kernel
theorem dX8_keepDraft_44 : decode cX8_keepDraft 44 = .ok (.iaload, 1) := by decide +kernel
theorem dX8_keepDraft_45 : decode cX8_keepDraft 45 = .ok (.ifCond .ne 12, 3) := by decide +kernel
theorem dX8_keepDraft_48 : decode cX8_keepDraft 48 = .ok (.aload_n 0, 1) := by decide +kernel
theorem dX8_keepDraft_49 : decode cX8_keepDraft 49 = .ok (.getfield 23, 3) := by decide +kernel
theorem dX8_keepDraft_52 : decode cX8_keepDraft 52 = .ok (.iconst 2, 1) := by decide +kernel
theorem dX8_keepDraft_53 : decode cX8_keepDraft 53 = .ok (.iaload, 1) := by decide +kernel
theorem dX8_keepDraft_54 : decode cX8_keepDraft 54 = .ok (.goto 9, 3) := by decide +kernel
theorem dX8_keepDraft_57 : decode cX8_keepDraft 57 = .ok (.aload_n 0, 1) := by decide +kernel
theorem dX8_keepDraft_58 : decode cX8_keepDraft 58 = .ok (.getfield 26, 3) := by decide +kernel
theorem dX8_keepDraft_61 : decode cX8_keepDraft 61 = .ok (.iload_n 1, 1) := by decide +kernel
theorem dX8_keepDraft_62 : decode cX8_keepDraft 62 = .ok (.iaload, 1) := by decide +kernel
theorem dX8_keepDraft_63 : decode cX8_keepDraft 63 = .ok (.iastore, 1) := by decide +kernel
theorem dX8_keepDraft_64 : decode cX8_keepDraft 64 = .ok (.iinc 1 1, 3) := by decide +kernel
theorem dX8_keepDraft_67 : decode cX8_keepDraft 67 = .ok (.goto (-39), 3) := by decide +kernel
theorem dX8_keepDraft_70 : decode cX8_keepDraft 70 = .ok (.iconst 0, 1) := by decide +kernel
theorem dX8_keepDraft_71 : decode cX8_keepDraft 71 = .ok (.istore_n 1, 1) := by decide +kernel
theorem dX8_keepDraft_72 : decode cX8_keepDraft 72 = .ok (.iload_n 1, 1) := by decide +kernel
theorem dX8_keepDraft_73 : decode cX8_keepDraft 73 = .ok (.bipush 100, 2) := by decide +kernel
theorem dX8_keepDraft_75 : decode cX8_keepDraft 75 = .ok (.if_icmp .ge 31, 3) := by decide +kernel
theorem dX8_keepDraft_78 : decode cX8_keepDraft 78 = .ok (.aload_n 0, 1) := by decide +kernel
theorem dX8_keepDraft_79 : decode cX8_keepDraft 79 = .ok (.getfield 7, 3) := by decide +kernel
theorem dX8_keepDraft_82 : decode cX8_keepDraft 82 = .ok (.iload_n 1, 1) := by decide +kernel
theorem dX8_keepDraft_83 : decode cX8_keepDraft 83 = .ok (.iload_n 1, 1) := by decide +kernel
theorem dX8_keepDraft_84 : decode cX8_keepDraft 84 = .ok (.bipush 48, 2) := by decide +kernel
theorem dX8_keepDraft_86 : decode cX8_keepDraft 86 = .ok (.if_icmp .ge 12, 3) := by decide +kernel
theorem dX8_keepDraft_89 : decode cX8_keepDraft 89 = .ok (.aload_n 0, 1) := by decide +kernel
theorem dX8_keepDraft_90 : decode cX8_keepDraft 90 = .ok (.getfield 29, 3) := by decide +kernel
theorem dX8_keepDraft_93 : decode cX8_keepDraft 93 = .ok (.iload_n 1, 1) := by decide +kernel
theorem dX8_keepDraft_94 : decode cX8_keepDraft 94 = .ok (.iaload, 1) := by decide +kernel
theorem dX8_keepDraft_95 : decode cX8_keepDraft 95 = .ok (.goto 4, 3) := by decide +kernel
theorem dX8_keepDraft_98 : decode cX8_keepDraft 98 = .ok (.iconst 0, 1) := by decide +kernel
theorem dX8_keepDraft_99 : decode cX8_keepDraft 99 = .ok (.iastore, 1) := by decide +kernel
theorem dX8_keepDraft_100 : decode cX8_keepDraft 100 = .ok (.iinc 1 1, 3) := by decide +kernel
theorem dX8_keepDraft_103 : decode cX8_keepDraft 103 = .ok (.goto (-31), 3) := by decide +kernel
theorem dX8_keepDraft_106 : decode cX8_keepDraft 106 = .ok (.aload_n 0, 1) := by decide +kernel
theorem dX8_keepDraft_107 : decode cX8_keepDraft 107 = .ok (.getfield 7, 3) := by decide +kernel
theorem dX8_keepDraft_110 : decode cX8_keepDraft 110 = .ok (.bipush 49, 2) := by decide +kernel
theorem dX8_keepDraft_112 : decode cX8_keepDraft 112 = .ok (.aload_n 0, 1) := by decide +kernel
theorem dX8_keepDraft_113 : decode cX8_keepDraft 113 = .ok (.getfield 17, 3) := by decide +kernel
theorem dX8_keepDraft_116 : decode cX8_keepDraft 116 = .ok (.iconst 2, 1) := by decide +kernel
theorem dX8_keepDraft_117 : decode cX8_keepDraft 117 = .ok (.iaload, 1) := by decide +kernel
theorem dX8_keepDraft_118 : decode cX8_keepDraft 118 = .ok (.iastore, 1) := by decide +kernel
theorem dX8_keepDraft_119 : decode cX8_keepDraft 119 = .ok (.aload_n 0, 1) := by decide +kernel
theorem dX8_keepDraft_120 : decode cX8_keepDraft 120 = .ok (.getfield 7, 3) := by decide +kernel
theorem dX8_keepDraft_123 : decode cX8_keepDraft 123 = .ok (.bipush 51, 2) := by decide +kernel
theorem dX8_keepDraft_125 : decode cX8_keepDraft 125 = .ok (.aload_n 0, 1) := by decide +kernel
theorem dX8_keepDraft_126 : decode cX8_keepDraft 126 = .ok (.getfield 17, 3) := by decide +kernel
theorem dX8_keepDraft_129 : decode cX8_keepDraft 129 = .ok (.bipush 6, 2) := by decide +kernel
theorem dX8_keepDraft_131 : decode cX8_keepDraft 131 = .ok (.iaload, 1) := by decide +kernel
theorem dX8_keepDraft_132 : decode cX8_keepDraft 132 = .ok (.ifCond .le 7, 3) := by decide +kernel
theorem dX8_keepDraft_135 : decode cX8_keepDraft 135 = .ok (.iconst 1, 1) := by decide +kernel
theorem dX8_keepDraft_136 : decode cX8_keepDraft 136 = .ok (.goto 4, 3) := by decide +kernel
theorem dX8_keepDraft_139 : decode cX8_keepDraft 139 = .ok (.iconst 0, 1) := by decide +kernel
theorem dX8_keepDraft_140 : decode cX8_keepDraft 140 = .ok (.invokestatic 63, 3) := by decide +kernel
theorem dX8_keepDraft_143 : decode cX8_keepDraft 143 = .ok (.iastore, 1) := by decide +kernel
theorem dX8_keepDraft_144 : decode cX8_keepDraft 144 = .ok (.aload_n 0, 1) := by decide +kernel
theorem dX8_keepDraft_145 : decode cX8_keepDraft 145 = .ok (.getfield 7, 3) := by decide +kernel
theorem dX8_keepDraft_148 : decode cX8_keepDraft 148 = .ok (.bipush 53, 2) := by decide +kernel
theorem dX8_keepDraft_150 : decode cX8_keepDraft 150 = .ok (.aload_n 0, 1) := by decide +kernel
theorem dX8_keepDraft_151 : decode cX8_keepDraft 151 = .ok (.getfield 56, 3) := by decide +kernel
theorem dX8_keepDraft_154 : decode cX8_keepDraft 154 = .ok (.iastore, 1) := by decide +kernel
theorem dX8_keepDraft_155 : decode cX8_keepDraft 155 = .ok (.aload_n 0, 1) := by decide +kernel
theorem dX8_keepDraft_156 : decode cX8_keepDraft 156 = .ok (.getfield 13, 3) := by decide +kernel
theorem dX8_keepDraft_159 : decode cX8_keepDraft 159 = .ok (.iconst 0, 1) := by decide +kernel
theorem dX8_keepDraft_160 : decode cX8_keepDraft 160 = .ok (.iconst 0, 1) := by decide +kernel
theorem dX8_keepDraft_161 : decode cX8_keepDraft 161 = .ok (.bastore, 1) := by decide +kernel
theorem dX8_keepDraft_162 : decode cX8_keepDraft 162 = .ok (.aload_n 0, 1) := by decide +kernel
theorem dX8_keepDraft_163 : decode cX8_keepDraft 163 = .ok (.getfield 13, 3) := by decide +kernel
theorem dX8_keepDraft_166 : decode cX8_keepDraft 166 = .ok (.iconst 1, 1) := by decide +kernel
theorem dX8_keepDraft_167 : decode cX8_keepDraft 167 = .ok (.iconst 0, 1) := by decide +kernel
theorem dX8_keepDraft_168 : decode cX8_keepDraft 168 = .ok (.bastore, 1) := by decide +kernel
theorem dX8_keepDraft_169 : decode cX8_keepDraft 169 = .ok (.return_, 1) := by decide +kernel
theorem dX8_feed_0 : decode cX8_feed 0 = .ok (.aload_n 0, 1) := by decide +kernel
theorem dX8_feed_1 : decode cX8_feed 1 = .ok (.getfield 67, 3) := by decide +kernel
theorem dX8_feed_4 : decode cX8_feed 4 = .ok (.bipush 8, 2) := by decide +kernel
theorem dX8_feed_6 : decode cX8_feed 6 = .ok (.iadd, 1) := by decide +kernel
theorem dX8_feed_7 : decode cX8_feed 7 = .ok (.sipush 320, 3) := by decide +kernel
theorem dX8_feed_10 : decode cX8_feed 10 = .ok (.if_icmp .le 6, 3) := by decide +kernel
theorem dX8_feed_13 : decode cX8_feed 13 = .ok (.bipush (-3), 2) := by decide +kernel
theorem dX8_feed_15 : decode cX8_feed 15 = .ok (.ireturn, 1) := by decide +kernel
theorem dX8_feed_16 : decode cX8_feed 16 = .ok (.bipush 56, 2) := by decide +kernel
theorem dX8_feed_18 : decode cX8_feed 18 = .ok (.istore_n 3, 1) := by decide +kernel
theorem dX8_feed_19 : decode cX8_feed 19 = .ok (.iload_n 3, 1) := by decide +kernel
theorem dX8_feed_20 : decode cX8_feed 20 = .ok (.ifCond .lt 36, 3) := by decide +kernel
theorem dX8_feed_23 : decode cX8_feed 23 = .ok (.aload_n 0, 1) := by decide +kernel
theorem dX8_feed_24 : decode cX8_feed 24 = .ok (.getfield 32, 3) := by decide +kernel
theorem dX8_feed_27 : decode cX8_feed 27 = .ok (.aload_n 0, 1) := by decide +kernel
theorem dX8_feed_28 : decode cX8_feed 28 = .ok (.getfield 67, 3) := by decide +kernel
theorem dX8_feed_31 : decode cX8_feed 31 = .ok (.lload_n 1, 1) := by decide +kernel
theorem dX8_feed_32 : decode cX8_feed 32 = .ok (.iload_n 3, 1) := by decide +kernel
theorem dX8_feed_33 : decode cX8_feed 33 = .ok (.lshr, 1) := by decide +kernel
theorem dX8_feed_34 : decode cX8_feed 34 = .ok (.ldc2_w 70, 3) := by decide +kernel
theorem dX8_feed_37 : decode cX8_feed 37 = .ok (.land, 1) := by decide +kernel
theorem dX8_feed_38 : decode cX8_feed 38 = .ok (.l2i, 1) := by decide +kernel
theorem dX8_feed_39 : decode cX8_feed 39 = .ok (.iastore, 1) := by decide +kernel
theorem dX8_feed_40 : decode cX8_feed 40 = .ok (.aload_n 0, 1) := by decide +kernel
theorem dX8_feed_41 : decode cX8_feed 41 = .ok (.dup, 1) := by decide +kernel
theorem dX8_feed_42 : decode cX8_feed 42 = .ok (.getfield 67, 3) := by decide +kernel
theorem dX8_feed_45 : decode cX8_feed 45 = .ok (.iconst 1, 1) := by decide +kernel
theorem dX8_feed_46 : decode cX8_feed 46 = .ok (.iadd, 1) := by decide +kernel
theorem dX8_feed_47 : decode cX8_feed 47 = .ok (.putfield 67, 3) := by decide +kernel
theorem dX8_feed_50 : decode cX8_feed 50 = .ok (.iinc 3 (-8), 3) := by decide +kernel
theorem dX8_feed_53 : decode cX8_feed 53 = .ok (.goto (-34), 3) := by decide +kernel
theorem dX8_feed_56 : decode cX8_feed 56 = .ok (.aload_n 0, 1) := by decide +kernel
theorem dX8_feed_57 : decode cX8_feed 57 = .ok (.getfield 67, 3) := by decide +kernel
theorem dX8_feed_60 : decode cX8_feed 60 = .ok (.ireturn, 1) := by decide +kernel
theorem dX8_end_0 : decode cX8_end 0 = .ok (.iload_n 1, 1) := by decide +kernel
theorem dX8_end_1 : decode cX8_end 1 = .ok (.i2l, 1) := by decide +kernel
theorem dX8_end_2 : decode cX8_end 2 = .ok (.lconst 0, 1) := by decide +kernel
theorem dX8_end_3 : decode cX8_end 3 = .ok (.aload_n 0, 1) := by decide +kernel
theorem dX8_end_4 : decode cX8_end 4 = .ok (.getfield 67, 3) := by decide +kernel
theorem dX8_end_7 : decode cX8_end 7 = .ok (.i2l, 1) := by decide +kernel
theorem dX8_end_8 : decode cX8_end 8 = .ok (.invokestatic 72, 3) := by decide +kernel
theorem dX8_end_11 : decode cX8_end 11 = .ok (.ifCond .ne 5, 3) := by decide +kernel
theorem dX8_end_14 : decode cX8_end 14 = .ok (.iconst (-1), 1) := by decide +kernel
theorem dX8_end_15 : decode cX8_end 15 = .ok (.ireturn, 1) := by decide +kernel
theorem dX8_end_16 : decode cX8_end 16 = .ok (.aload_n 0, 1) := by decide +kernel
theorem dX8_end_17 : decode cX8_end 17 = .ok (.getfield 67, 3) := by decide +kernel
theorem dX8_end_20 : decode cX8_end 20 = .ok (.istore_n 2, 1) := by decide +kernel
theorem dX8_end_21 : decode cX8_end 21 = .ok (.aload_n 0, 1) := by decide +kernel
theorem dX8_end_22 : decode cX8_end 22 = .ok (.iload_n 1, 1) := by decide +kernel
theorem dX8_end_23 : decode cX8_end 23 = .ok (.putfield 67, 3) := by decide +kernel
theorem dX8_end_26 : decode cX8_end 26 = .ok (.iload_n 2, 1) := by decide +kernel
theorem dX8_end_27 : decode cX8_end 27 = .ok (.ireturn, 1) := by decide +kernel
theorem dX8_needs_0 : decode cX8_needs 0 = .ok (.iload_n 1, 1) := by decide +kernel
theorem dX8_needs_1 : decode cX8_needs 1 = .ok (.ifCond .ne 23, 3) := by decide +kernel
theorem dX8_needs_4 : decode cX8_needs 4 = .ok (.aload_n 0, 1) := by decide +kernel
theorem dX8_needs_5 : decode cX8_needs 5 = .ok (.getfield 76, 3) := by decide +kernel
theorem dX8_needs_8 : decode cX8_needs 8 = .ok (.ifCond .ne 16, 3) := by decide +kernel
theorem dX8_needs_11 : decode cX8_needs 11 = .ok (.aload_n 0, 1) := by decide +kernel
theorem dX8_needs_12 : decode cX8_needs 12 = .ok (.iload_n 2, 1) := by decide +kernel
theorem dX8_needs_13 : decode cX8_needs 13 = .ok (.putfield 76, 3) := by decide +kernel
theorem dX8_needs_16 : decode cX8_needs 16 = .ok (.aload_n 0, 1) := by decide +kernel
theorem dX8_needs_17 : decode cX8_needs 17 = .ok (.aload_n 0, 1) := by decide +kernel
theorem dX8_needs_18 : decode cX8_needs 18 = .ok (.getfield 79, 3) := by decide +kernel
theorem dX8_needs_21 : decode cX8_needs 21 = .ok (.putfield 82, 3) := by decide +kernel
theorem dX8_needs_24 : decode cX8_needs 24 = .ok (.return_, 1) := by decide +kernel
theorem dX8_look_0 : decode cX8_look 0 = .ok (.iload_n 1, 1) := by decide +kernel
theorem dX8_look_1 : decode cX8_look 1 = .ok (.aload_n 0, 1) := by decide +kernel
theorem dX8_look_2 : decode cX8_look 2 = .ok (.getfield 67, 3) := by decide +kernel
theorem dX8_look_5 : decode cX8_look 5 = .ok (.if_icmp .ge 12, 3) := by decide +kernel
theorem dX8_look_8 : decode cX8_look 8 = .ok (.aload_n 0, 1) := by decide +kernel
theorem dX8_look_9 : decode cX8_look 9 = .ok (.getfield 32, 3) := by decide +kernel
theorem dX8_look_12 : decode cX8_look 12 = .ok (.iload_n 1, 1) := by decide +kernel
theorem dX8_look_13 : decode cX8_look 13 = .ok (.iaload, 1) := by decide +kernel
theorem dX8_look_14 : decode cX8_look 14 = .ok (.goto 4, 3) := by decide +kernel
theorem dX8_look_17 : decode cX8_look 17 = .ok (.iconst (-1), 1) := by decide +kernel
theorem dX8_look_18 : decode cX8_look 18 = .ok (.ireturn, 1) := by decide +kernel
theorem dX8_is_0 : decode cX8_is 0 = .ok (.aload_n 0, 1) := by decide +kernel
theorem dX8_is_1 : decode cX8_is 1 = .ok (.getfield 85, 3) := by decide +kernel
theorem dX8_is_4 : decode cX8_is 4 = .ok (.aload_n 0, 1) := by decide +kernel
theorem dX8_is_5 : decode cX8_is 5 = .ok (.getfield 79, 3) := by decide +kernel
theorem dX8_is_8 : decode cX8_is 8 = .ok (.isub, 1) := by decide +kernel
theorem dX8_is_9 : decode cX8_is 9 = .ok (.iload_n 1, 1) := by decide +kernel
theorem dX8_is_10 : decode cX8_is 10 = .ok (.if_icmp .ne 68, 3) := by decide +kernel
theorem dX8_is_13 : decode cX8_is 13 = .ok (.aload_n 0, 1) := by decide +kernel
theorem dX8_is_14 : decode cX8_is 14 = .ok (.aload_n 0, 1) := by decide +kernel
theorem dX8_is_15 : decode cX8_is 15 = .ok (.getfield 79, 3) := by decide +kernel
theorem dX8_is_18 : decode cX8_is 18 = .ok (.invokevirtual 88, 3) := by decide +kernel
theorem dX8_is_21 : decode cX8_is 21 = .ok (.iload_n 2, 1) := by decide +kernel
theorem dX8_is_22 : decode cX8_is 22 = .ok (.if_icmp .ne 56, 3) := by decide +kernel
theorem dX8_is_25 : decode cX8_is 25 = .ok (.aload_n 0, 1) := by decide +kernel
theorem dX8_is_26 : decode cX8_is 26 = .ok (.aload_n 0, 1) := by decide +kernel
theorem dX8_is_27 : decode cX8_is 27 = .ok (.getfield 79, 3) := by decide +kernel
theorem dX8_is_30 : decode cX8_is 30 = .ok (.iconst 1, 1) := by decide +kernel
theorem dX8_is_31 : decode cX8_is 31 = .ok (.iadd, 1) := by decide +kernel
theorem dX8_is_32 : decode cX8_is 32 = .ok (.invokevirtual 88, 3) := by decide +kernel
theorem dX8_is_35 : decode cX8_is 35 = .ok (.iload_n 3, 1) := by decide +kernel
theorem dX8_is_36 : decode cX8_is 36 = .ok (.if_icmp .ne 42, 3) := by decide +kernel
theorem dX8_is_39 : decode cX8_is 39 = .ok (.aload_n 0, 1) := by decide +kernel
theorem dX8_is_40 : decode cX8_is 40 = .ok (.aload_n 0, 1) := by decide +kernel
theorem dX8_is_41 : decode cX8_is 41 = .ok (.getfield 79, 3) := by decide +kernel
theorem dX8_is_44 : decode cX8_is 44 = .ok (.iconst 2, 1) := by decide +kernel
theorem dX8_is_45 : decode cX8_is 45 = .ok (.iadd, 1) := by decide +kernel
theorem dX8_is_46 : decode cX8_is 46 = .ok (.invokevirtual 88, 3) := by decide +kernel
theorem dX8_is_49 : decode cX8_is 49 = .ok (.iload 4, 2) := by decide +kernel
theorem dX8_is_51 : decode cX8_is 51 = .ok (.if_icmp .ne 27, 3) := by decide +kernel
theorem dX8_is_54 : decode cX8_is 54 = .ok (.iload_n 1, 1) := by decide +kernel
theorem dX8_is_55 : decode cX8_is 55 = .ok (.iconst 4, 1) := by decide +kernel
theorem dX8_is_56 : decode cX8_is 56 = .ok (.if_icmp .lt 18, 3) := by decide +kernel
theorem dX8_is_59 : decode cX8_is 59 = .ok (.aload_n 0, 1) := by decide +kernel
theorem dX8_is_60 : decode cX8_is 60 = .ok (.aload_n 0, 1) := by decide +kernel
theorem dX8_is_61 : decode cX8_is 61 = .ok (.getfield 79, 3) := by decide +kernel
theorem dX8_is_64 : decode cX8_is 64 = .ok (.iconst 3, 1) := by decide +kernel
theorem dX8_is_65 : decode cX8_is 65 = .ok (.iadd, 1) := by decide +kernel
theorem dX8_is_66 : decode cX8_is 66 = .ok (.invokevirtual 88, 3) := by decide +kernel
theorem dX8_is_69 : decode cX8_is 69 = .ok (.iload 5, 2) := by decide +kernel
theorem dX8_is_71 : decode cX8_is 71 = .ok (.if_icmp .ne 7, 3) := by decide +kernel
theorem dX8_is_74 : decode cX8_is 74 = .ok (.iconst 1, 1) := by decide +kernel
theorem dX8_is_75 : decode cX8_is 75 = .ok (.goto 4, 3) := by decide +kernel
theorem dX8_is_78 : decode cX8_is 78 = .ok (.iconst 0, 1) := by decide +kernel
theorem dX8_is_79 : decode cX8_is 79 = .ok (.ireturn, 1) := by decide +kernel
theorem dX8_withNow_0 : decode cX8_withNow 0 = .ok (.aload_n 0, 1) := by decide +kernel
theorem dX8_withNow_1 : decode cX8_withNow 1 = .ok (.iconst 4, 1) := by decide +kernel
theorem dX8_withNow_2 : decode cX8_withNow 2 = .ok (.bipush 108, 2) := by decide +kernel
theorem dX8_withNow_4 : decode cX8_withNow 4 = .ok (.bipush 101, 2) := by decide +kernel
theorem dX8_withNow_6 : decode cX8_withNow 6 = .ok (.bipush 97, 2) := by decide +kernel
theorem dX8_withNow_8 : decode cX8_withNow 8 = .ok (.bipush 107, 2) := by decide +kernel
theorem dX8_withNow_10 : decode cX8_withNow 10 = .ok (.invokevirtual 92, 3) := by decide +kernel
theorem dX8_withNow_13 : decode cX8_withNow 13 = .ok (.ifCond .eq 8, 3) := by decide +kernel
theorem dX8_withNow_16 : decode cX8_withNow 16 = .ok (.bipush 10, 2) := by decide +kernel
theorem dX8_withNow_18 : decode cX8_withNow 18 = .ok (.goto 47, 3) := by decide +kernel
theorem dX8_withNow_21 : decode cX8_withNow 21 = .ok (.aload_n 0, 1) := by decide +kernel
theorem dX8_withNow_22 : decode cX8_withNow 22 = .ok (.iconst 4, 1) := by decide +kernel
theorem dX8_withNow_23 : decode cX8_withNow 23 = .ok (.bipush 114, 2) := by decide +kernel
theorem dX8_withNow_25 : decode cX8_withNow 25 = .ok (.bipush 97, 2) := by decide +kernel
theorem dX8_withNow_27 : decode cX8_withNow 27 = .ok (.bipush 116, 2) := by decide +kernel
theorem dX8_withNow_29 : decode cX8_withNow 29 = .ok (.bipush 101, 2) := by decide +kernel
theorem dX8_withNow_31 : decode cX8_withNow 31 = .ok (.invokevirtual 92, 3) := by decide +kernel
theorem dX8_withNow_34 : decode cX8_withNow 34 = .ok (.ifCond .eq 8, 3) := by decide +kernel
theorem dX8_withNow_37 : decode cX8_withNow 37 = .ok (.bipush 11, 2) := by decide +kernel
theorem dX8_withNow_39 : decode cX8_withNow 39 = .ok (.goto 26, 3) := by decide +kernel
theorem dX8_withNow_42 : decode cX8_withNow 42 = .ok (.aload_n 0, 1) := by decide +kernel
theorem dX8_withNow_43 : decode cX8_withNow 43 = .ok (.iconst 4, 1) := by decide +kernel
theorem dX8_withNow_44 : decode cX8_withNow 44 = .ok (.bipush 104, 2) := by decide +kernel
theorem dX8_withNow_46 : decode cX8_withNow 46 = .ok (.bipush 111, 2) := by decide +kernel
theorem dX8_withNow_48 : decode cX8_withNow 48 = .ok (.bipush 111, 2) := by decide +kernel
theorem dX8_withNow_50 : decode cX8_withNow 50 = .ok (.bipush 107, 2) := by decide +kernel
theorem dX8_withNow_52 : decode cX8_withNow 52 = .ok (.invokevirtual 92, 3) := by decide +kernel
theorem dX8_withNow_55 : decode cX8_withNow 55 = .ok (.ifCond .eq 8, 3) := by decide +kernel
theorem dX8_withNow_58 : decode cX8_withNow 58 = .ok (.bipush 12, 2) := by decide +kernel
theorem dX8_withNow_60 : decode cX8_withNow 60 = .ok (.goto 5, 3) := by decide +kernel
theorem dX8_withNow_63 : decode cX8_withNow 63 = .ok (.bipush (-4), 2) := by decide +kernel
theorem dX8_withNow_65 : decode cX8_withNow 65 = .ok (.ireturn, 1) := by decide +kernel
theorem dX8_nameNow_0 : decode cX8_nameNow 0 = .ok (.aload_n 0, 1) := by decide +kernel
theorem dX8_nameNow_1 : decode cX8_nameNow 1 = .ok (.bipush 6, 2) := by decide +kernel
theorem dX8_nameNow_3 : decode cX8_nameNow 3 = .ok (.bipush 104, 2) := by decide +kernel
theorem dX8_nameNow_5 : decode cX8_nameNow 5 = .ok (.bipush 101, 2) := by decide +kernel
theorem dX8_nameNow_7 : decode cX8_nameNow 7 = .ok (.bipush 105, 2) := by decide +kernel
theorem dX8_nameNow_9 : decode cX8_nameNow 9 = .ok (.bipush 103, 2) := by decide +kernel
theorem dX8_nameNow_11 : decode cX8_nameNow 11 = .ok (.invokevirtual 92, 3) := by decide +kernel
theorem dX8_nameNow_14 : decode cX8_nameNow 14 = .ok (.ifCond .eq 35, 3) := by decide +kernel
theorem dX8_nameNow_17 : decode cX8_nameNow 17 = .ok (.aload_n 0, 1) := by decide +kernel
theorem dX8_nameNow_18 : decode cX8_nameNow 18 = .ok (.aload_n 0, 1) := by decide +kernel
theorem dX8_nameNow_19 : decode cX8_nameNow 19 = .ok (.getfield 79, 3) := by decide +kernel
theorem dX8_nameNow_22 : decode cX8_nameNow 22 = .ok (.iconst 4, 1) := by decide +kernel
theorem dX8_nameNow_23 : decode cX8_nameNow 23 = .ok (.iadd, 1) := by decide +kernel
theorem dX8_nameNow_24 : decode cX8_nameNow 24 = .ok (.invokevirtual 88, 3) := by decide +kernel
theorem dX8_nameNow_27 : decode cX8_nameNow 27 = .ok (.bipush 104, 2) := by decide +kernel
theorem dX8_nameNow_29 : decode cX8_nameNow 29 = .ok (.if_icmp .ne 20, 3) := by decide +kernel
theorem dX8_nameNow_32 : decode cX8_nameNow 32 = .ok (.aload_n 0, 1) := by decide +kernel
theorem dX8_nameNow_33 : decode cX8_nameNow 33 = .ok (.aload_n 0, 1) := by decide +kernel
theorem dX8_nameNow_34 : decode cX8_nameNow 34 = .ok (.getfield 79, 3) := by decide +kernel
theorem dX8_nameNow_37 : decode cX8_nameNow 37 = .ok (.iconst 5, 1) := by decide +kernel
theorem dX8_nameNow_38 : decode cX8_nameNow 38 = .ok (.iadd, 1) := by decide +kernel
theorem dX8_nameNow_39 : decode cX8_nameNow 39 = .ok (.invokevirtual 88, 3) := by decide +kernel
theorem dX8_nameNow_42 : decode cX8_nameNow 42 = .ok (.bipush 116, 2) := by decide +kernel
theorem dX8_nameNow_44 : decode cX8_nameNow 44 = .ok (.if_icmp .ne 5, 3) := by decide +kernel
theorem dX8_nameNow_47 : decode cX8_nameNow 47 = .ok (.iconst 0, 1) := by decide +kernel
theorem dX8_nameNow_48 : decode cX8_nameNow 48 = .ok (.ireturn, 1) := by decide +kernel
theorem dX8_nameNow_49 : decode cX8_nameNow 49 = .ok (.aload_n 0, 1) := by decide +kernel
theorem dX8_nameNow_50 : decode cX8_nameNow 50 = .ok (.iconst 3, 1) := by decide +kernel
theorem dX8_nameNow_51 : decode cX8_nameNow 51 = .ok (.bipush 97, 2) := by decide +kernel
theorem dX8_nameNow_53 : decode cX8_nameNow 53 = .ok (.bipush 105, 2) := by decide +kernel
theorem dX8_nameNow_55 : decode cX8_nameNow 55 = .ok (.bipush 114, 2) := by decide +kernel
theorem dX8_nameNow_57 : decode cX8_nameNow 57 = .ok (.iconst 0, 1) := by decide +kernel
theorem dX8_nameNow_58 : decode cX8_nameNow 58 = .ok (.invokevirtual 92, 3) := by decide +kernel
theorem dX8_nameNow_61 : decode cX8_nameNow 61 = .ok (.ifCond .eq 5, 3) := by decide +kernel
theorem dX8_nameNow_64 : decode cX8_nameNow 64 = .ok (.iconst 1, 1) := by decide +kernel
theorem dX8_nameNow_65 : decode cX8_nameNow 65 = .ok (.ireturn, 1) := by decide +kernel
theorem dX8_nameNow_66 : decode cX8_nameNow 66 = .ok (.aload_n 0, 1) := by decide +kernel
theorem dX8_nameNow_67 : decode cX8_nameNow 67 = .ok (.iconst 4, 1) := by decide +kernel
theorem dX8_nameNow_68 : decode cX8_nameNow 68 = .ok (.bipush 119, 2) := by decide +kernel
theorem dX8_nameNow_70 : decode cX8_nameNow 70 = .ok (.bipush 97, 2) := by decide +kernel
theorem dX8_nameNow_72 : decode cX8_nameNow 72 = .ok (.bipush 114, 2) := by decide +kernel
theorem dX8_nameNow_74 : decode cX8_nameNow 74 = .ok (.bipush 109, 2) := by decide +kernel
theorem dX8_nameNow_76 : decode cX8_nameNow 76 = .ok (.invokevirtual 92, 3) := by decide +kernel
theorem dX8_nameNow_79 : decode cX8_nameNow 79 = .ok (.ifCond .eq 5, 3) := by decide +kernel
theorem dX8_nameNow_82 : decode cX8_nameNow 82 = .ok (.iconst 2, 1) := by decide +kernel
theorem dX8_nameNow_83 : decode cX8_nameNow 83 = .ok (.ireturn, 1) := by decide +kernel
theorem dX8_nameNow_84 : decode cX8_nameNow 84 = .ok (.aload_n 0, 1) := by decide +kernel
theorem dX8_nameNow_85 : decode cX8_nameNow 85 = .ok (.iconst 4, 1) := by decide +kernel
theorem dX8_nameNow_86 : decode cX8_nameNow 86 = .ok (.bipush 100, 2) := by decide +kernel
theorem dX8_nameNow_88 : decode cX8_nameNow 88 = .ok (.bipush 114, 2) := by decide +kernel
theorem dX8_nameNow_90 : decode cX8_nameNow 90 = .ok (.bipush 97, 2) := by decide +kernel
theorem dX8_nameNow_92 : decode cX8_nameNow 92 = .ok (.bipush 103, 2) := by decide +kernel
theorem dX8_nameNow_94 : decode cX8_nameNow 94 = .ok (.invokevirtual 92, 3) := by decide +kernel
theorem dX8_nameNow_97 : decode cX8_nameNow 97 = .ok (.ifCond .eq 5, 3) := by decide +kernel
theorem dX8_nameNow_100 : decode cX8_nameNow 100 = .ok (.iconst 3, 1) := by decide +kernel
theorem dX8_nameNow_101 : decode cX8_nameNow 101 = .ok (.ireturn, 1) := by decide +kernel
theorem dX8_nameNow_102 : decode cX8_nameNow 102 = .ok (.aload_n 0, 1) := by decide +kernel
theorem dX8_nameNow_103 : decode cX8_nameNow 103 = .ok (.iconst 4, 1) := by decide +kernel
theorem dX8_nameNow_104 : decode cX8_nameNow 104 = .ok (.bipush 115, 2) := by decide +kernel
theorem dX8_nameNow_106 : decode cX8_nameNow 106 = .ok (.bipush 97, 2) := by decide +kernel
theorem dX8_nameNow_108 : decode cX8_nameNow 108 = .ok (.bipush 108, 2) := by decide +kernel
theorem dX8_nameNow_110 : decode cX8_nameNow 110 = .ok (.bipush 116, 2) := by decide +kernel
theorem dX8_nameNow_112 : decode cX8_nameNow 112 = .ok (.invokevirtual 92, 3) := by decide +kernel
theorem dX8_nameNow_115 : decode cX8_nameNow 115 = .ok (.ifCond .eq 5, 3) := by decide +kernel
theorem dX8_nameNow_118 : decode cX8_nameNow 118 = .ok (.iconst 4, 1) := by decide +kernel
theorem dX8_nameNow_119 : decode cX8_nameNow 119 = .ok (.ireturn, 1) := by decide +kernel
theorem dX8_nameNow_120 : decode cX8_nameNow 120 = .ok (.aload_n 0, 1) := by decide +kernel
theorem dX8_nameNow_121 : decode cX8_nameNow 121 = .ok (.iconst 4, 1) := by decide +kernel
theorem dX8_nameNow_122 : decode cX8_nameNow 122 = .ok (.bipush 114, 2) := by decide +kernel
theorem dX8_nameNow_124 : decode cX8_nameNow 124 = .ok (.bipush 105, 2) := by decide +kernel
theorem dX8_nameNow_126 : decode cX8_nameNow 126 = .ok (.bipush 110, 2) := by decide +kernel
theorem dX8_nameNow_128 : decode cX8_nameNow 128 = .ok (.bipush 103, 2) := by decide +kernel
theorem dX8_nameNow_130 : decode cX8_nameNow 130 = .ok (.invokevirtual 92, 3) := by decide +kernel
theorem dX8_nameNow_133 : decode cX8_nameNow 133 = .ok (.ifCond .eq 5, 3) := by decide +kernel
theorem dX8_nameNow_136 : decode cX8_nameNow 136 = .ok (.iconst 5, 1) := by decide +kernel
theorem dX8_nameNow_137 : decode cX8_nameNow 137 = .ok (.ireturn, 1) := by decide +kernel
theorem dX8_nameNow_138 : decode cX8_nameNow 138 = .ok (.aload_n 0, 1) := by decide +kernel
theorem dX8_nameNow_139 : decode cX8_nameNow 139 = .ok (.iconst 4, 1) := by decide +kernel
theorem dX8_nameNow_140 : decode cX8_nameNow 140 = .ok (.bipush 104, 2) := by decide +kernel
theorem dX8_nameNow_142 : decode cX8_nameNow 142 = .ok (.bipush 111, 2) := by decide +kernel
theorem dX8_nameNow_144 : decode cX8_nameNow 144 = .ok (.bipush 117, 2) := by decide +kernel
theorem dX8_nameNow_146 : decode cX8_nameNow 146 = .ok (.bipush 114, 2) := by decide +kernel
theorem dX8_nameNow_148 : decode cX8_nameNow 148 = .ok (.invokevirtual 92, 3) := by decide +kernel
theorem dX8_nameNow_151 : decode cX8_nameNow 151 = .ok (.ifCond .eq 6, 3) := by decide +kernel
theorem dX8_nameNow_154 : decode cX8_nameNow 154 = .ok (.bipush 6, 2) := by decide +kernel
theorem dX8_nameNow_156 : decode cX8_nameNow 156 = .ok (.ireturn, 1) := by decide +kernel
theorem dX8_nameNow_157 : decode cX8_nameNow 157 = .ok (.aload_n 0, 1) := by decide +kernel
theorem dX8_nameNow_158 : decode cX8_nameNow 158 = .ok (.iconst 5, 1) := by decide +kernel
theorem dX8_nameNow_159 : decode cX8_nameNow 159 = .ok (.bipush 100, 2) := by decide +kernel
theorem dX8_nameNow_161 : decode cX8_nameNow 161 = .ok (.bipush 105, 2) := by decide +kernel
theorem dX8_nameNow_163 : decode cX8_nameNow 163 = .ok (.bipush 118, 2) := by decide +kernel
theorem dX8_nameNow_165 : decode cX8_nameNow 165 = .ok (.bipush 101, 2) := by decide +kernel
theorem dX8_nameNow_167 : decode cX8_nameNow 167 = .ok (.invokevirtual 92, 3) := by decide +kernel
theorem dX8_nameNow_170 : decode cX8_nameNow 170 = .ok (.ifCond .eq 23, 3) := by decide +kernel
theorem dX8_nameNow_173 : decode cX8_nameNow 173 = .ok (.aload_n 0, 1) := by decide +kernel
theorem dX8_nameNow_174 : decode cX8_nameNow 174 = .ok (.aload_n 0, 1) := by decide +kernel
theorem dX8_nameNow_175 : decode cX8_nameNow 175 = .ok (.getfield 79, 3) := by decide +kernel
theorem dX8_nameNow_178 : decode cX8_nameNow 178 = .ok (.iconst 4, 1) := by decide +kernel
theorem dX8_nameNow_179 : decode cX8_nameNow 179 = .ok (.iadd, 1) := by decide +kernel
theorem dX8_nameNow_180 : decode cX8_nameNow 180 = .ok (.invokevirtual 88, 3) := by decide +kernel
theorem dX8_nameNow_183 : decode cX8_nameNow 183 = .ok (.bipush 114, 2) := by decide +kernel
theorem dX8_nameNow_185 : decode cX8_nameNow 185 = .ok (.if_icmp .ne 8, 3) := by decide +kernel
theorem dX8_nameNow_188 : decode cX8_nameNow 188 = .ok (.bipush 7, 2) := by decide +kernel
theorem dX8_nameNow_190 : decode cX8_nameNow 190 = .ok (.goto 5, 3) := by decide +kernel
theorem dX8_nameNow_193 : decode cX8_nameNow 193 = .ok (.bipush (-4), 2) := by decide +kernel
theorem dX8_nameNow_195 : decode cX8_nameNow 195 = .ok (.ireturn, 1) := by decide +kernel
theorem dX8_next_0 : decode cX8_next 0 = .ok (.aload_n 0, 1) := by decide +kernel
theorem dX8_next_1 : decode cX8_next 1 = .ok (.getfield 76, 3) := by decide +kernel
theorem dX8_next_4 : decode cX8_next 4 = .ok (.ifCond .le 4, 3) := by decide +kernel
theorem dX8_next_7 : decode cX8_next 7 = .ok (.return_, 1) := by decide +kernel
theorem dX8_next_8 : decode cX8_next 8 = .ok (.aload_n 0, 1) := by decide +kernel
theorem dX8_next_9 : decode cX8_next 9 = .ok (.aload_n 0, 1) := by decide +kernel
theorem dX8_next_10 : decode cX8_next 10 = .ok (.getfield 85, 3) := by decide +kernel
theorem dX8_next_13 : decode cX8_next 13 = .ok (.invokevirtual 88, 3) := by decide +kernel
theorem dX8_next_16 : decode cX8_next 16 = .ok (.bipush 32, 2) := by decide +kernel
theorem dX8_next_18 : decode cX8_next 18 = .ok (.if_icmp .ne 16, 3) := by decide +kernel
theorem dX8_next_21 : decode cX8_next 21 = .ok (.aload_n 0, 1) := by decide +kernel
theorem dX8_next_22 : decode cX8_next 22 = .ok (.dup, 1) := by decide +kernel
theorem dX8_next_23 : decode cX8_next 23 = .ok (.getfield 85, 3) := by decide +kernel
theorem dX8_next_26 : decode cX8_next 26 = .ok (.iconst 1, 1) := by decide +kernel
theorem dX8_next_27 : decode cX8_next 27 = .ok (.iadd, 1) := by decide +kernel
theorem dX8_next_28 : decode cX8_next 28 = .ok (.putfield 85, 3) := by decide +kernel
theorem dX8_next_31 : decode cX8_next 31 = .ok (.goto (-23), 3) := by decide +kernel
theorem dX8_next_34 : decode cX8_next 34 = .ok (.aload_n 0, 1) := by decide +kernel
theorem dX8_next_35 : decode cX8_next 35 = .ok (.aload_n 0, 1) := by decide +kernel
theorem dX8_next_36 : decode cX8_next 36 = .ok (.getfield 85, 3) := by decide +kernel
theorem dX8_next_39 : decode cX8_next 39 = .ok (.putfield 79, 3) := by decide +kernel
theorem dX8_next_42 : decode cX8_next 42 = .ok (.aload_n 0, 1) := by decide +kernel
theorem dX8_next_43 : decode cX8_next 43 = .ok (.aload_n 0, 1) := by decide +kernel
theorem dX8_next_44 : decode cX8_next 44 = .ok (.getfield 85, 3) := by decide +kernel
theorem dX8_next_47 : decode cX8_next 47 = .ok (.invokevirtual 88, 3) := by decide +kernel
theorem dX8_next_50 : decode cX8_next 50 = .ok (.istore_n 1, 1) := by decide +kernel
theorem dX8_next_51 : decode cX8_next 51 = .ok (.iload_n 1, 1) := by decide +kernel
theorem dX8_next_52 : decode cX8_next 52 = .ok (.ifCond .ge 11, 3) := by decide +kernel
theorem dX8_next_55 : decode cX8_next 55 = .ok (.aload_n 0, 1) := by decide +kernel
theorem dX8_next_56 : decode cX8_next 56 = .ok (.iconst 0, 1) := by decide +kernel
theorem dX8_next_57 : decode cX8_next 57 = .ok (.putfield 96, 3) := by decide +kernel
theorem dX8_next_60 : decode cX8_next 60 = .ok (.goto 214, 3) := by decide +kernel
theorem dX8_next_63 : decode cX8_next 63 = .ok (.iload_n 1, 1) := by decide +kernel
theorem dX8_next_64 : decode cX8_next 64 = .ok (.i2l, 1) := by decide +kernel
theorem dX8_next_65 : decode cX8_next 65 = .ok (.ldc2_w 99, 3) := by decide +kernel
theorem dX8_next_68 : decode cX8_next 68 = .ok (.ldc2_w 101, 3) := by decide +kernel
theorem dX8_next_71 : decode cX8_next 71 = .ok (.invokestatic 72, 3) := by decide +kernel
theorem dX8_next_74 : decode cX8_next 74 = .ok (.ifCond .eq 42, 3) := by decide +kernel
theorem dX8_next_77 : decode cX8_next 77 = .ok (.aload_n 0, 1) := by decide +kernel
theorem dX8_next_78 : decode cX8_next 78 = .ok (.iconst 1, 1) := by decide +kernel
theorem dX8_next_79 : decode cX8_next 79 = .ok (.putfield 96, 3) := by decide +kernel
theorem dX8_next_82 : decode cX8_next 82 = .ok (.aload_n 0, 1) := by decide +kernel
theorem dX8_next_83 : decode cX8_next 83 = .ok (.aload_n 0, 1) := by decide +kernel
theorem dX8_next_84 : decode cX8_next 84 = .ok (.getfield 85, 3) := by decide +kernel
theorem dX8_next_87 : decode cX8_next 87 = .ok (.invokevirtual 88, 3) := by decide +kernel
theorem dX8_next_90 : decode cX8_next 90 = .ok (.i2l, 1) := by decide +kernel
theorem dX8_next_91 : decode cX8_next 91 = .ok (.ldc2_w 99, 3) := by decide +kernel
theorem dX8_next_94 : decode cX8_next 94 = .ok (.ldc2_w 101, 3) := by decide +kernel
theorem dX8_next_97 : decode cX8_next 97 = .ok (.invokestatic 72, 3) := by decide +kernel
theorem dX8_next_100 : decode cX8_next 100 = .ok (.ifCond .eq 174, 3) := by decide +kernel
theorem dX8_next_103 : decode cX8_next 103 = .ok (.aload_n 0, 1) := by decide +kernel
theorem dX8_next_104 : decode cX8_next 104 = .ok (.dup, 1) := by decide +kernel
theorem dX8_next_105 : decode cX8_next 105 = .ok (.getfield 85, 3) := by decide +kernel
theorem dX8_next_108 : decode cX8_next 108 = .ok (.iconst 1, 1) := by decide +kernel
theorem dX8_next_109 : decode cX8_next 109 = .ok (.iadd, 1) := by decide +kernel
theorem dX8_next_110 : decode cX8_next 110 = .ok (.putfield 85, 3) := by decide +kernel
theorem dX8_next_113 : decode cX8_next 113 = .ok (.goto (-31), 3) := by decide +kernel
theorem dX8_next_116 : decode cX8_next 116 = .ok (.iload_n 1, 1) := by decide +kernel
theorem dX8_next_117 : decode cX8_next 117 = .ok (.i2l, 1) := by decide +kernel
theorem dX8_next_118 : decode cX8_next 118 = .ok (.ldc2_w 103, 3) := by decide +kernel
theorem dX8_next_121 : decode cX8_next 121 = .ok (.ldc2_w 105, 3) := by decide +kernel
theorem dX8_next_124 : decode cX8_next 124 = .ok (.invokestatic 72, 3) := by decide +kernel
theorem dX8_next_127 : decode cX8_next 127 = .ok (.ifCond .eq 116, 3) := by decide +kernel
theorem dX8_next_130 : decode cX8_next 130 = .ok (.aload_n 0, 1) := by decide +kernel
theorem dX8_next_131 : decode cX8_next 131 = .ok (.iconst 2, 1) := by decide +kernel
theorem dX8_next_132 : decode cX8_next 132 = .ok (.putfield 96, 3) := by decide +kernel
theorem dX8_next_135 : decode cX8_next 135 = .ok (.aload_n 0, 1) := by decide +kernel
theorem dX8_next_136 : decode cX8_next 136 = .ok (.iconst 0, 1) := by decide +kernel
theorem dX8_next_137 : decode cX8_next 137 = .ok (.putfield 107, 3) := by decide +kernel
theorem dX8_next_140 : decode cX8_next 140 = .ok (.aload_n 0, 1) := by decide +kernel
theorem dX8_next_141 : decode cX8_next 141 = .ok (.aload_n 0, 1) := by decide +kernel
theorem dX8_next_142 : decode cX8_next 142 = .ok (.getfield 85, 3) := by decide +kernel
theorem dX8_next_145 : decode cX8_next 145 = .ok (.invokevirtual 88, 3) := by decide +kernel
theorem dX8_next_148 : decode cX8_next 148 = .ok (.i2l, 1) := by decide +kernel
theorem dX8_next_149 : decode cX8_next 149 = .ok (.ldc2_w 103, 3) := by decide +kernel
theorem dX8_next_152 : decode cX8_next 152 = .ok (.ldc2_w 105, 3) := by decide +kernel
theorem dX8_next_155 : decode cX8_next 155 = .ok (.invokestatic 72, 3) := by decide +kernel
theorem dX8_next_158 : decode cX8_next 158 = .ok (.ifCond .eq 59, 3) := by decide +kernel
theorem dX8_next_161 : decode cX8_next 161 = .ok (.aload_n 0, 1) := by decide +kernel
theorem dX8_next_162 : decode cX8_next 162 = .ok (.aload_n 0, 1) := by decide +kernel
theorem dX8_next_163 : decode cX8_next 163 = .ok (.getfield 85, 3) := by decide +kernel
theorem dX8_next_166 : decode cX8_next 166 = .ok (.aload_n 0, 1) := by decide +kernel
theorem dX8_next_167 : decode cX8_next 167 = .ok (.getfield 79, 3) := by decide +kernel
theorem dX8_next_170 : decode cX8_next 170 = .ok (.isub, 1) := by decide +kernel
theorem dX8_next_171 : decode cX8_next 171 = .ok (.iconst 4, 1) := by decide +kernel
theorem dX8_next_172 : decode cX8_next 172 = .ok (.if_icmp .ge 25, 3) := by decide +kernel
theorem dX8_next_175 : decode cX8_next 175 = .ok (.bipush 10, 2) := by decide +kernel
theorem dX8_next_177 : decode cX8_next 177 = .ok (.aload_n 0, 1) := by decide +kernel
theorem dX8_next_178 : decode cX8_next 178 = .ok (.getfield 107, 3) := by decide +kernel
theorem dX8_next_181 : decode cX8_next 181 = .ok (.imul, 1) := by decide +kernel
theorem dX8_next_182 : decode cX8_next 182 = .ok (.aload_n 0, 1) := by decide +kernel
theorem dX8_next_183 : decode cX8_next 183 = .ok (.aload_n 0, 1) := by decide +kernel
theorem dX8_next_184 : decode cX8_next 184 = .ok (.getfield 85, 3) := by decide +kernel
theorem dX8_next_187 : decode cX8_next 187 = .ok (.invokevirtual 88, 3) := by decide +kernel
theorem dX8_next_190 : decode cX8_next 190 = .ok (.iadd, 1) := by decide +kernel
theorem dX8_next_191 : decode cX8_next 191 = .ok (.bipush 48, 2) := by decide +kernel
theorem dX8_next_193 : decode cX8_next 193 = .ok (.isub, 1) := by decide +kernel
theorem dX8_next_194 : decode cX8_next 194 = .ok (.goto 7, 3) := by decide +kernel
theorem dX8_next_197 : decode cX8_next 197 = .ok (.aload_n 0, 1) := by decide +kernel
theorem dX8_next_198 : decode cX8_next 198 = .ok (.getfield 107, 3) := by decide +kernel
theorem dX8_next_201 : decode cX8_next 201 = .ok (.putfield 107, 3) := by decide +kernel
theorem dX8_next_204 : decode cX8_next 204 = .ok (.aload_n 0, 1) := by decide +kernel
theorem dX8_next_205 : decode cX8_next 205 = .ok (.dup, 1) := by decide +kernel
theorem dX8_next_206 : decode cX8_next 206 = .ok (.getfield 85, 3) := by decide +kernel
theorem dX8_next_209 : decode cX8_next 209 = .ok (.iconst 1, 1) := by decide +kernel
theorem dX8_next_210 : decode cX8_next 210 = .ok (.iadd, 1) := by decide +kernel
theorem dX8_next_211 : decode cX8_next 211 = .ok (.putfield 85, 3) := by decide +kernel
theorem dX8_next_214 : decode cX8_next 214 = .ok (.goto (-74), 3) := by decide +kernel
theorem dX8_next_217 : decode cX8_next 217 = .ok (.aload_n 0, 1) := by decide +kernel
theorem dX8_next_218 : decode cX8_next 218 = .ok (.aload_n 0, 1) := by decide +kernel
theorem dX8_next_219 : decode cX8_next 219 = .ok (.getfield 85, 3) := by decide +kernel
theorem dX8_next_222 : decode cX8_next 222 = .ok (.aload_n 0, 1) := by decide +kernel
theorem dX8_next_223 : decode cX8_next 223 = .ok (.getfield 79, 3) := by decide +kernel
theorem dX8_next_226 : decode cX8_next 226 = .ok (.isub, 1) := by decide +kernel
theorem dX8_next_227 : decode cX8_next 227 = .ok (.iconst 4, 1) := by decide +kernel
theorem dX8_next_228 : decode cX8_next 228 = .ok (.if_icmp .gt 7, 3) := by decide +kernel
theorem dX8_next_231 : decode cX8_next 231 = .ok (.iconst 1, 1) := by decide +kernel
theorem dX8_next_232 : decode cX8_next 232 = .ok (.goto 4, 3) := by decide +kernel
theorem dX8_next_235 : decode cX8_next 235 = .ok (.iconst 0, 1) := by decide +kernel
theorem dX8_next_236 : decode cX8_next 236 = .ok (.iconst 1, 1) := by decide +kernel
theorem dX8_next_237 : decode cX8_next 237 = .ok (.invokevirtual 110, 3) := by decide +kernel
theorem dX8_next_240 : decode cX8_next 240 = .ok (.goto 34, 3) := by decide +kernel
theorem dX8_next_243 : decode cX8_next 243 = .ok (.aload_n 0, 1) := by decide +kernel
theorem dX8_next_244 : decode cX8_next 244 = .ok (.iconst 3, 1) := by decide +kernel
theorem dX8_next_245 : decode cX8_next 245 = .ok (.putfield 96, 3) := by decide +kernel
theorem dX8_next_248 : decode cX8_next 248 = .ok (.aload_n 0, 1) := by decide +kernel
theorem dX8_next_249 : decode cX8_next 249 = .ok (.iload_n 1, 1) := by decide +kernel
theorem dX8_next_250 : decode cX8_next 250 = .ok (.bipush 59, 2) := by decide +kernel
theorem dX8_next_252 : decode cX8_next 252 = .ok (.if_icmp .ne 7, 3) := by decide +kernel
theorem dX8_next_255 : decode cX8_next 255 = .ok (.iconst 1, 1) := by decide +kernel
theorem dX8_next_256 : decode cX8_next 256 = .ok (.goto 4, 3) := by decide +kernel
theorem dX8_next_259 : decode cX8_next 259 = .ok (.iconst 0, 1) := by decide +kernel
theorem dX8_next_260 : decode cX8_next 260 = .ok (.iconst 1, 1) := by decide +kernel
theorem dX8_next_261 : decode cX8_next 261 = .ok (.invokevirtual 110, 3) := by decide +kernel
theorem dX8_next_264 : decode cX8_next 264 = .ok (.aload_n 0, 1) := by decide +kernel
theorem dX8_next_265 : decode cX8_next 265 = .ok (.dup, 1) := by decide +kernel
theorem dX8_next_266 : decode cX8_next 266 = .ok (.getfield 85, 3) := by decide +kernel
theorem dX8_next_269 : decode cX8_next 269 = .ok (.iconst 1, 1) := by decide +kernel
theorem dX8_next_270 : decode cX8_next 270 = .ok (.iadd, 1) := by decide +kernel
theorem dX8_next_271 : decode cX8_next 271 = .ok (.putfield 85, 3) := by decide +kernel
theorem dX8_next_274 : decode cX8_next 274 = .ok (.return_, 1) := by decide +kernel
theorem dX8_isNumber_0 : decode cX8_isNumber 0 = .ok (.aload_n 0, 1) := by decide +kernel
theorem dX8_isNumber_1 : decode cX8_isNumber 1 = .ok (.getfield 76, 3) := by decide +kernel
theorem dX8_isNumber_4 : decode cX8_isNumber 4 = .ok (.ifCond .ne 21, 3) := by decide +kernel
theorem dX8_isNumber_7 : decode cX8_isNumber 7 = .ok (.aload_n 0, 1) := by decide +kernel
theorem dX8_isNumber_8 : decode cX8_isNumber 8 = .ok (.aload_n 0, 1) := by decide +kernel
theorem dX8_isNumber_9 : decode cX8_isNumber 9 = .ok (.getfield 96, 3) := by decide +kernel
theorem dX8_isNumber_12 : decode cX8_isNumber 12 = .ok (.iconst 2, 1) := by decide +kernel
theorem dX8_isNumber_13 : decode cX8_isNumber 13 = .ok (.if_icmp .ne 7, 3) := by decide +kernel
theorem dX8_isNumber_16 : decode cX8_isNumber 16 = .ok (.iconst 1, 1) := by decide +kernel
theorem dX8_isNumber_17 : decode cX8_isNumber 17 = .ok (.goto 4, 3) := by decide +kernel
theorem dX8_isNumber_20 : decode cX8_isNumber 20 = .ok (.iconst 0, 1) := by decide +kernel
theorem dX8_isNumber_21 : decode cX8_isNumber 21 = .ok (.iconst 2, 1) := by decide +kernel
theorem dX8_isNumber_22 : decode cX8_isNumber 22 = .ok (.invokevirtual 110, 3) := by decide +kernel
theorem dX8_isNumber_25 : decode cX8_isNumber 25 = .ok (.aload_n 0, 1) := by decide +kernel
theorem dX8_isNumber_26 : decode cX8_isNumber 26 = .ok (.getfield 76, 3) := by decide +kernel
theorem dX8_isNumber_29 : decode cX8_isNumber 29 = .ok (.ifCond .ne 20, 3) := by decide +kernel
theorem dX8_isNumber_32 : decode cX8_isNumber 32 = .ok (.aload_n 0, 1) := by decide +kernel
theorem dX8_isNumber_33 : decode cX8_isNumber 33 = .ok (.aload_n 0, 1) := by decide +kernel
theorem dX8_isNumber_34 : decode cX8_isNumber 34 = .ok (.getfield 107, 3) := by decide +kernel
theorem dX8_isNumber_37 : decode cX8_isNumber 37 = .ok (.i2l, 1) := by decide +kernel
theorem dX8_isNumber_38 : decode cX8_isNumber 38 = .ok (.iload_n 1, 1) := by decide +kernel
theorem dX8_isNumber_39 : decode cX8_isNumber 39 = .ok (.i2l, 1) := by decide +kernel
theorem dX8_isNumber_40 : decode cX8_isNumber 40 = .ok (.iload_n 2, 1) := by decide +kernel
theorem dX8_isNumber_41 : decode cX8_isNumber 41 = .ok (.i2l, 1) := by decide +kernel
theorem dX8_isNumber_42 : decode cX8_isNumber 42 = .ok (.invokestatic 72, 3) := by decide +kernel
theorem dX8_isNumber_45 : decode cX8_isNumber 45 = .ok (.iconst 3, 1) := by decide +kernel
theorem dX8_isNumber_46 : decode cX8_isNumber 46 = .ok (.invokevirtual 110, 3) := by decide +kernel
theorem dX8_isNumber_49 : decode cX8_isNumber 49 = .ok (.return_, 1) := by decide +kernel
theorem dX8_readNumber_0 : decode cX8_readNumber 0 = .ok (.aload_n 0, 1) := by decide +kernel
theorem dX8_readNumber_1 : decode cX8_readNumber 1 = .ok (.iload_n 1, 1) := by decide +kernel
theorem dX8_readNumber_2 : decode cX8_readNumber 2 = .ok (.iload_n 2, 1) := by decide +kernel
theorem dX8_readNumber_3 : decode cX8_readNumber 3 = .ok (.invokevirtual 114, 3) := by decide +kernel
theorem dX8_readNumber_6 : decode cX8_readNumber 6 = .ok (.aload_n 0, 1) := by decide +kernel
theorem dX8_readNumber_7 : decode cX8_readNumber 7 = .ok (.getfield 107, 3) := by decide +kernel
theorem dX8_readNumber_10 : decode cX8_readNumber 10 = .ok (.istore_n 3, 1) := by decide +kernel
theorem dX8_readNumber_11 : decode cX8_readNumber 11 = .ok (.aload_n 0, 1) := by decide +kernel
theorem dX8_readNumber_12 : decode cX8_readNumber 12 = .ok (.invokevirtual 118, 3) := by decide +kernel
theorem dX8_readNumber_15 : decode cX8_readNumber 15 = .ok (.iload_n 3, 1) := by decide +kernel
theorem dX8_readNumber_16 : decode cX8_readNumber 16 = .ok (.ireturn, 1) := by decide +kernel
theorem dX8_readHour_0 : decode cX8_readHour 0 = .ok (.aload_n 0, 1) := by decide +kernel
theorem dX8_readHour_1 : decode cX8_readHour 1 = .ok (.iconst 0, 1) := by decide +kernel
theorem dX8_readHour_2 : decode cX8_readHour 2 = .ok (.bipush 23, 2) := by decide +kernel
theorem dX8_readHour_4 : decode cX8_readHour 4 = .ok (.invokevirtual 114, 3) := by decide +kernel
theorem dX8_readHour_7 : decode cX8_readHour 7 = .ok (.aload_n 0, 1) := by decide +kernel
theorem dX8_readHour_8 : decode cX8_readHour 8 = .ok (.getfield 76, 3) := by decide +kernel
theorem dX8_readHour_11 : decode cX8_readHour 11 = .ok (.ifCond .ne 10, 3) := by decide +kernel
theorem dX8_readHour_14 : decode cX8_readHour 14 = .ok (.aload_n 0, 1) := by decide +kernel
theorem dX8_readHour_15 : decode cX8_readHour 15 = .ok (.getfield 107, 3) := by decide +kernel
theorem dX8_readHour_18 : decode cX8_readHour 18 = .ok (.goto 4, 3) := by decide +kernel
theorem dX8_readHour_21 : decode cX8_readHour 21 = .ok (.iconst 0, 1) := by decide +kernel
theorem dX8_readHour_22 : decode cX8_readHour 22 = .ok (.istore_n 1, 1) := by decide +kernel
theorem dX8_readHour_23 : decode cX8_readHour 23 = .ok (.aload_n 0, 1) := by decide +kernel
theorem dX8_readHour_24 : decode cX8_readHour 24 = .ok (.getfield 76, 3) := by decide +kernel
theorem dX8_readHour_27 : decode cX8_readHour 27 = .ok (.ifCond .ne 22, 3) := by decide +kernel
theorem dX8_readHour_30 : decode cX8_readHour 30 = .ok (.aload_n 0, 1) := by decide +kernel
theorem dX8_readHour_31 : decode cX8_readHour 31 = .ok (.aload_n 0, 1) := by decide +kernel
theorem dX8_readHour_32 : decode cX8_readHour 32 = .ok (.getfield 26, 3) := by decide +kernel
theorem dX8_readHour_35 : decode cX8_readHour 35 = .ok (.iload_n 1, 1) := by decide +kernel
theorem dX8_readHour_36 : decode cX8_readHour 36 = .ok (.iaload, 1) := by decide +kernel
theorem dX8_readHour_37 : decode cX8_readHour 37 = .ok (.ifCond .ne 7, 3) := by decide +kernel
theorem dX8_readHour_40 : decode cX8_readHour 40 = .ok (.iconst 1, 1) := by decide +kernel
theorem dX8_readHour_41 : decode cX8_readHour 41 = .ok (.goto 4, 3) := by decide +kernel
theorem dX8_readHour_44 : decode cX8_readHour 44 = .ok (.iconst 0, 1) := by decide +kernel
theorem dX8_readHour_45 : decode cX8_readHour 45 = .ok (.iconst 4, 1) := by decide +kernel
theorem dX8_readHour_46 : decode cX8_readHour 46 = .ok (.invokevirtual 110, 3) := by decide +kernel
theorem dX8_readHour_49 : decode cX8_readHour 49 = .ok (.aload_n 0, 1) := by decide +kernel
theorem dX8_readHour_50 : decode cX8_readHour 50 = .ok (.invokevirtual 118, 3) := by decide +kernel
theorem dX8_readHour_53 : decode cX8_readHour 53 = .ok (.aload_n 0, 1) := by decide +kernel
theorem dX8_readHour_54 : decode cX8_readHour 54 = .ok (.sipush 250, 3) := by decide +kernel
theorem dX8_readHour_57 : decode cX8_readHour 57 = .ok (.sipush 350, 3) := by decide +kernel
theorem dX8_readHour_60 : decode cX8_readHour 60 = .ok (.invokevirtual 121, 3) := by decide +kernel
theorem dX8_readHour_63 : decode cX8_readHour 63 = .ok (.istore_n 2, 1) := by decide +kernel
theorem dX8_readHour_64 : decode cX8_readHour 64 = .ok (.aload_n 0, 1) := by decide +kernel
theorem dX8_readHour_65 : decode cX8_readHour 65 = .ok (.getfield 76, 3) := by decide +kernel
theorem dX8_readHour_68 : decode cX8_readHour 68 = .ok (.ifCond .ne 10, 3) := by decide +kernel
theorem dX8_readHour_71 : decode cX8_readHour 71 = .ok (.aload_n 0, 1) := by decide +kernel
theorem dX8_readHour_72 : decode cX8_readHour 72 = .ok (.getfield 26, 3) := by decide +kernel
theorem dX8_readHour_75 : decode cX8_readHour 75 = .ok (.iload_n 1, 1) := by decide +kernel
theorem dX8_readHour_76 : decode cX8_readHour 76 = .ok (.iload_n 2, 1) := by decide +kernel
theorem dX8_readHour_77 : decode cX8_readHour 77 = .ok (.iastore, 1) := by decide +kernel
theorem dX8_readHour_78 : decode cX8_readHour 78 = .ok (.return_, 1) := by decide +kernel
theorem dX8_readDiver_0 : decode cX8_readDiver 0 = .ok (.bipush 8, 2) := by decide +kernel
theorem dX8_readDiver_2 : decode cX8_readDiver 2 = .ok (.aload_n 0, 1) := by decide +kernel
theorem dX8_readDiver_3 : decode cX8_readDiver 3 = .ok (.getfield 56, 3) := by decide +kernel
theorem dX8_readDiver_6 : decode cX8_readDiver 6 = .ok (.imul, 1) := by decide +kernel
theorem dX8_readDiver_7 : decode cX8_readDiver 7 = .ok (.istore_n 1, 1) := by decide +kernel
theorem dX8_readDiver_8 : decode cX8_readDiver 8 = .ok (.aload_n 0, 1) := by decide +kernel
theorem dX8_readDiver_9 : decode cX8_readDiver 9 = .ok (.getfield 29, 3) := by decide +kernel
theorem dX8_readDiver_12 : decode cX8_readDiver 12 = .ok (.iload_n 1, 1) := by decide +kernel
theorem dX8_readDiver_13 : decode cX8_readDiver 13 = .ok (.iconst 0, 1) := by decide +kernel
theorem dX8_readDiver_14 : decode cX8_readDiver 14 = .ok (.iadd, 1) := by decide +kernel
theorem dX8_readDiver_15 : decode cX8_readDiver 15 = .ok (.aload_n 0, 1) := by decide +kernel
theorem dX8_readDiver_16 : decode cX8_readDiver 16 = .ok (.iconst 1, 1) := by decide +kernel
theorem dX8_readDiver_17 : decode cX8_readDiver 17 = .ok (.sipush 999, 3) := by decide +kernel
theorem dX8_readDiver_20 : decode cX8_readDiver 20 = .ok (.invokevirtual 121, 3) := by decide +kernel
theorem dX8_readDiver_23 : decode cX8_readDiver 23 = .ok (.iastore, 1) := by decide +kernel
theorem dX8_readDiver_24 : decode cX8_readDiver 24 = .ok (.aload_n 0, 1) := by decide +kernel
theorem dX8_readDiver_25 : decode cX8_readDiver 25 = .ok (.getfield 29, 3) := by decide +kernel
theorem dX8_readDiver_28 : decode cX8_readDiver 28 = .ok (.iload_n 1, 1) := by decide +kernel
theorem dX8_readDiver_29 : decode cX8_readDiver 29 = .ok (.iconst 1, 1) := by decide +kernel
theorem dX8_readDiver_30 : decode cX8_readDiver 30 = .ok (.iadd, 1) := by decide +kernel
theorem dX8_readDiver_31 : decode cX8_readDiver 31 = .ok (.aload_n 0, 1) := by decide +kernel
theorem dX8_readDiver_32 : decode cX8_readDiver 32 = .ok (.iconst 0, 1) := by decide +kernel
theorem dX8_readDiver_33 : decode cX8_readDiver 33 = .ok (.sipush 9999, 3) := by decide +kernel
theorem dX8_readDiver_36 : decode cX8_readDiver 36 = .ok (.invokevirtual 121, 3) := by decide +kernel
theorem dX8_readDiver_39 : decode cX8_readDiver 39 = .ok (.iastore, 1) := by decide +kernel
theorem dX8_readDiver_40 : decode cX8_readDiver 40 = .ok (.iconst 0, 1) := by decide +kernel
theorem dX8_readDiver_41 : decode cX8_readDiver 41 = .ok (.istore_n 2, 1) := by decide +kernel
theorem dX8_readDiver_42 : decode cX8_readDiver 42 = .ok (.aload_n 0, 1) := by decide +kernel
theorem dX8_readDiver_43 : decode cX8_readDiver 43 = .ok (.getfield 76, 3) := by decide +kernel
theorem dX8_readDiver_46 : decode cX8_readDiver 46 = .ok (.ifCond .ne 130, 3) := by decide +kernel
theorem dX8_readDiver_49 : decode cX8_readDiver 49 = .ok (.aload_n 0, 1) := by decide +kernel
theorem dX8_readDiver_50 : decode cX8_readDiver 50 = .ok (.getfield 96, 3) := by decide +kernel
theorem dX8_readDiver_53 : decode cX8_readDiver 53 = .ok (.iconst 1, 1) := by decide +kernel
theorem dX8_readDiver_54 : decode cX8_readDiver 54 = .ok (.if_icmp .ne 122, 3) := by decide +kernel
theorem dX8_readDiver_57 : decode cX8_readDiver 57 = .ok (.aload_n 0, 1) := by decide +kernel
theorem dX8_readDiver_58 : decode cX8_readDiver 58 = .ok (.invokevirtual 125, 3) := by decide +kernel
theorem dX8_readDiver_61 : decode cX8_readDiver 61 = .ok (.istore_n 3, 1) := by decide +kernel
theorem dX8_readDiver_62 : decode cX8_readDiver 62 = .ok (.aload_n 0, 1) := by decide +kernel
theorem dX8_readDiver_63 : decode cX8_readDiver 63 = .ok (.iload_n 3, 1) := by decide +kernel
theorem dX8_readDiver_64 : decode cX8_readDiver 64 = .ok (.bipush (-4), 2) := by decide +kernel
theorem dX8_readDiver_66 : decode cX8_readDiver 66 = .ok (.if_icmp .eq 7, 3) := by decide +kernel
theorem dX8_readDiver_69 : decode cX8_readDiver 69 = .ok (.iconst 1, 1) := by decide +kernel
theorem dX8_readDiver_70 : decode cX8_readDiver 70 = .ok (.goto 4, 3) := by decide +kernel
theorem dX8_readDiver_73 : decode cX8_readDiver 73 = .ok (.iconst 0, 1) := by decide +kernel
theorem dX8_readDiver_74 : decode cX8_readDiver 74 = .ok (.iconst 2, 1) := by decide +kernel
theorem dX8_readDiver_75 : decode cX8_readDiver 75 = .ok (.invokevirtual 110, 3) := by decide +kernel
theorem dX8_readDiver_78 : decode cX8_readDiver 78 = .ok (.aload_n 0, 1) := by decide +kernel
theorem dX8_readDiver_79 : decode cX8_readDiver 79 = .ok (.iload_n 2, 1) := by decide +kernel
theorem dX8_readDiver_80 : decode cX8_readDiver 80 = .ok (.iload_n 3, 1) := by decide +kernel
theorem dX8_readDiver_81 : decode cX8_readDiver 81 = .ok (.ishr, 1) := by decide +kernel
theorem dX8_readDiver_82 : decode cX8_readDiver 82 = .ok (.iconst 1, 1) := by decide +kernel
theorem dX8_readDiver_83 : decode cX8_readDiver 83 = .ok (.iand, 1) := by decide +kernel
theorem dX8_readDiver_84 : decode cX8_readDiver 84 = .ok (.ifCond .ne 7, 3) := by decide +kernel
theorem dX8_readDiver_87 : decode cX8_readDiver 87 = .ok (.iconst 1, 1) := by decide +kernel
theorem dX8_readDiver_88 : decode cX8_readDiver 88 = .ok (.goto 4, 3) := by decide +kernel
theorem dX8_readDiver_91 : decode cX8_readDiver 91 = .ok (.iconst 0, 1) := by decide +kernel
theorem dX8_readDiver_92 : decode cX8_readDiver 92 = .ok (.iconst 4, 1) := by decide +kernel
theorem dX8_readDiver_93 : decode cX8_readDiver 93 = .ok (.invokevirtual 110, 3) := by decide +kernel
theorem dX8_readDiver_96 : decode cX8_readDiver 96 = .ok (.iload_n 2, 1) := by decide +kernel
theorem dX8_readDiver_97 : decode cX8_readDiver 97 = .ok (.iload_n 3, 1) := by decide +kernel
theorem dX8_readDiver_98 : decode cX8_readDiver 98 = .ok (.bipush (-4), 2) := by decide +kernel
theorem dX8_readDiver_100 : decode cX8_readDiver 100 = .ok (.if_icmp .ne 7, 3) := by decide +kernel
theorem dX8_readDiver_103 : decode cX8_readDiver 103 = .ok (.iconst 0, 1) := by decide +kernel
theorem dX8_readDiver_104 : decode cX8_readDiver 104 = .ok (.goto 6, 3) := by decide +kernel
theorem dX8_readDiver_107 : decode cX8_readDiver 107 = .ok (.iconst 1, 1) := by decide +kernel
theorem dX8_readDiver_108 : decode cX8_readDiver 108 = .ok (.iload_n 3, 1) := by decide +kernel
theorem dX8_readDiver_109 : decode cX8_readDiver 109 = .ok (.ishl, 1) := by decide +kernel
theorem dX8_readDiver_110 : decode cX8_readDiver 110 = .ok (.ior, 1) := by decide +kernel
theorem dX8_readDiver_111 : decode cX8_readDiver 111 = .ok (.istore_n 2, 1) := by decide +kernel
theorem dX8_readDiver_112 : decode cX8_readDiver 112 = .ok (.aload_n 0, 1) := by decide +kernel
theorem dX8_readDiver_113 : decode cX8_readDiver 113 = .ok (.invokevirtual 118, 3) := by decide +kernel
theorem dX8_readDiver_116 : decode cX8_readDiver 116 = .ok (.aload_n 0, 1) := by decide +kernel
theorem dX8_readDiver_117 : decode cX8_readDiver 117 = .ok (.getfield 76, 3) := by decide +kernel
theorem dX8_readDiver_120 : decode cX8_readDiver 120 = .ok (.ifCond .ne 21, 3) := by decide +kernel
theorem dX8_readDiver_123 : decode cX8_readDiver 123 = .ok (.iload_n 3, 1) := by decide +kernel
theorem dX8_readDiver_124 : decode cX8_readDiver 124 = .ok (.bipush 12, 2) := by decide +kernel
theorem dX8_readDiver_126 : decode cX8_readDiver 126 = .ok (.if_icmp .ne 15, 3) := by decide +kernel
theorem dX8_readDiver_129 : decode cX8_readDiver 129 = .ok (.aload_n 0, 1) := by decide +kernel
theorem dX8_readDiver_130 : decode cX8_readDiver 130 = .ok (.getfield 29, 3) := by decide +kernel
theorem dX8_readDiver_133 : decode cX8_readDiver 133 = .ok (.iload_n 1, 1) := by decide +kernel
theorem dX8_readDiver_134 : decode cX8_readDiver 134 = .ok (.iconst 4, 1) := by decide +kernel
theorem dX8_readDiver_135 : decode cX8_readDiver 135 = .ok (.iadd, 1) := by decide +kernel
theorem dX8_readDiver_136 : decode cX8_readDiver 136 = .ok (.iconst 1, 1) := by decide +kernel
theorem dX8_readDiver_137 : decode cX8_readDiver 137 = .ok (.iastore, 1) := by decide +kernel
theorem dX8_readDiver_138 : decode cX8_readDiver 138 = .ok (.goto 35, 3) := by decide +kernel
theorem dX8_readDiver_141 : decode cX8_readDiver 141 = .ok (.aload_n 0, 1) := by decide +kernel
theorem dX8_readDiver_142 : decode cX8_readDiver 142 = .ok (.getfield 76, 3) := by decide +kernel
theorem dX8_readDiver_145 : decode cX8_readDiver 145 = .ok (.ifCond .ne 28, 3) := by decide +kernel
theorem dX8_readDiver_148 : decode cX8_readDiver 148 = .ok (.aload_n 0, 1) := by decide +kernel
theorem dX8_readDiver_149 : decode cX8_readDiver 149 = .ok (.getfield 29, 3) := by decide +kernel
theorem dX8_readDiver_152 : decode cX8_readDiver 152 = .ok (.iload_n 1, 1) := by decide +kernel
theorem dX8_readDiver_153 : decode cX8_readDiver 153 = .ok (.iload_n 3, 1) := by decide +kernel
theorem dX8_readDiver_154 : decode cX8_readDiver 154 = .ok (.bipush 10, 2) := by decide +kernel
theorem dX8_readDiver_156 : decode cX8_readDiver 156 = .ok (.if_icmp .ne 7, 3) := by decide +kernel
theorem dX8_readDiver_159 : decode cX8_readDiver 159 = .ok (.iconst 2, 1) := by decide +kernel
theorem dX8_readDiver_160 : decode cX8_readDiver 160 = .ok (.goto 4, 3) := by decide +kernel
theorem dX8_readDiver_163 : decode cX8_readDiver 163 = .ok (.iconst 3, 1) := by decide +kernel
theorem dX8_readDiver_164 : decode cX8_readDiver 164 = .ok (.iadd, 1) := by decide +kernel
theorem dX8_readDiver_165 : decode cX8_readDiver 165 = .ok (.aload_n 0, 1) := by decide +kernel
theorem dX8_readDiver_166 : decode cX8_readDiver 166 = .ok (.iconst 0, 1) := by decide +kernel
theorem dX8_readDiver_167 : decode cX8_readDiver 167 = .ok (.bipush 99, 2) := by decide +kernel
theorem dX8_readDiver_169 : decode cX8_readDiver 169 = .ok (.invokevirtual 121, 3) := by decide +kernel
theorem dX8_readDiver_172 : decode cX8_readDiver 172 = .ok (.iastore, 1) := by decide +kernel
theorem dX8_readDiver_173 : decode cX8_readDiver 173 = .ok (.goto (-131), 3) := by decide +kernel
theorem dX8_readDiver_176 : decode cX8_readDiver 176 = .ok (.aload_n 0, 1) := by decide +kernel
theorem dX8_readDiver_177 : decode cX8_readDiver 177 = .ok (.dup, 1) := by decide +kernel
theorem dX8_readDiver_178 : decode cX8_readDiver 178 = .ok (.getfield 56, 3) := by decide +kernel
theorem dX8_readDiver_181 : decode cX8_readDiver 181 = .ok (.iconst 1, 1) := by decide +kernel
theorem dX8_readDiver_182 : decode cX8_readDiver 182 = .ok (.iadd, 1) := by decide +kernel
theorem dX8_readDiver_183 : decode cX8_readDiver 183 = .ok (.putfield 56, 3) := by decide +kernel
theorem dX8_readDiver_186 : decode cX8_readDiver 186 = .ok (.return_, 1) := by decide +kernel
theorem dX8_readRule_0 : decode cX8_readRule 0 = .ok (.iload_n 1, 1) := by decide +kernel
theorem dX8_readRule_1 : decode cX8_readRule 1 = .ok (.tableswitch 137 0 4 #[35, 53, 72, 91, 107], 35) := by decide +kernel
theorem dX8_readRule_36 : decode cX8_readRule 36 = .ok (.aload_n 0, 1) := by decide +kernel
theorem dX8_readRule_37 : decode cX8_readRule 37 = .ok (.getfield 23, 3) := by decide +kernel
theorem dX8_readRule_40 : decode cX8_readRule 40 = .ok (.iconst 0, 1) := by decide +kernel
theorem dX8_readRule_41 : decode cX8_readRule 41 = .ok (.aload_n 0, 1) := by decide +kernel
theorem dX8_readRule_42 : decode cX8_readRule 42 = .ok (.bipush 10, 2) := by decide +kernel
theorem dX8_readRule_44 : decode cX8_readRule 44 = .ok (.sipush 200, 3) := by decide +kernel
theorem dX8_readRule_47 : decode cX8_readRule 47 = .ok (.invokevirtual 121, 3) := by decide +kernel
theorem dX8_readRule_50 : decode cX8_readRule 50 = .ok (.iastore, 1) := by decide +kernel
theorem dX8_readRule_51 : decode cX8_readRule 51 = .ok (.goto 102, 3) := by decide +kernel
theorem dX8_readRule_54 : decode cX8_readRule 54 = .ok (.aload_n 0, 1) := by decide +kernel
theorem dX8_readRule_55 : decode cX8_readRule 55 = .ok (.getfield 23, 3) := by decide +kernel
theorem dX8_readRule_58 : decode cX8_readRule 58 = .ok (.iconst 1, 1) := by decide +kernel
theorem dX8_readRule_59 : decode cX8_readRule 59 = .ok (.aload_n 0, 1) := by decide +kernel
theorem dX8_readRule_60 : decode cX8_readRule 60 = .ok (.sipush 800, 3) := by decide +kernel
theorem dX8_readRule_63 : decode cX8_readRule 63 = .ok (.sipush 1200, 3) := by decide +kernel
theorem dX8_readRule_66 : decode cX8_readRule 66 = .ok (.invokevirtual 121, 3) := by decide +kernel
theorem dX8_readRule_69 : decode cX8_readRule 69 = .ok (.iastore, 1) := by decide +kernel
theorem dX8_readRule_70 : decode cX8_readRule 70 = .ok (.goto 83, 3) := by decide +kernel
theorem dX8_readRule_73 : decode cX8_readRule 73 = .ok (.aload_n 0, 1) := by decide +kernel
theorem dX8_readRule_74 : decode cX8_readRule 74 = .ok (.getfield 23, 3) := by decide +kernel
theorem dX8_readRule_77 : decode cX8_readRule 77 = .ok (.iconst 2, 1) := by decide +kernel
theorem dX8_readRule_78 : decode cX8_readRule 78 = .ok (.aload_n 0, 1) := by decide +kernel
theorem dX8_readRule_79 : decode cX8_readRule 79 = .ok (.sipush 250, 3) := by decide +kernel
theorem dX8_readRule_82 : decode cX8_readRule 82 = .ok (.sipush 350, 3) := by decide +kernel
theorem dX8_readRule_85 : decode cX8_readRule 85 = .ok (.invokevirtual 121, 3) := by decide +kernel
theorem dX8_readRule_88 : decode cX8_readRule 88 = .ok (.iastore, 1) := by decide +kernel
theorem dX8_readRule_89 : decode cX8_readRule 89 = .ok (.goto 64, 3) := by decide +kernel
theorem dX8_readRule_92 : decode cX8_readRule 92 = .ok (.aload_n 0, 1) := by decide +kernel
theorem dX8_readRule_93 : decode cX8_readRule 93 = .ok (.getfield 23, 3) := by decide +kernel
theorem dX8_readRule_96 : decode cX8_readRule 96 = .ok (.iconst 3, 1) := by decide +kernel
theorem dX8_readRule_97 : decode cX8_readRule 97 = .ok (.aload_n 0, 1) := by decide +kernel
theorem dX8_readRule_98 : decode cX8_readRule 98 = .ok (.iconst 1, 1) := by decide +kernel
theorem dX8_readRule_99 : decode cX8_readRule 99 = .ok (.bipush 64, 2) := by decide +kernel
theorem dX8_readRule_101 : decode cX8_readRule 101 = .ok (.invokevirtual 121, 3) := by decide +kernel
theorem dX8_readRule_104 : decode cX8_readRule 104 = .ok (.iastore, 1) := by decide +kernel
theorem dX8_readRule_105 : decode cX8_readRule 105 = .ok (.goto 48, 3) := by decide +kernel
theorem dX8_readRule_108 : decode cX8_readRule 108 = .ok (.aload_n 0, 1) := by decide +kernel
theorem dX8_readRule_109 : decode cX8_readRule 109 = .ok (.getfield 23, 3) := by decide +kernel
theorem dX8_readRule_112 : decode cX8_readRule 112 = .ok (.iconst 4, 1) := by decide +kernel
theorem dX8_readRule_113 : decode cX8_readRule 113 = .ok (.aload_n 0, 1) := by decide +kernel
theorem dX8_readRule_114 : decode cX8_readRule 114 = .ok (.iconst 0, 1) := by decide +kernel
theorem dX8_readRule_115 : decode cX8_readRule 115 = .ok (.sipush 201, 3) := by decide +kernel
theorem dX8_readRule_118 : decode cX8_readRule 118 = .ok (.invokevirtual 121, 3) := by decide +kernel
theorem dX8_readRule_121 : decode cX8_readRule 121 = .ok (.iastore, 1) := by decide +kernel
theorem dX8_readRule_122 : decode cX8_readRule 122 = .ok (.aload_n 0, 1) := by decide +kernel
theorem dX8_readRule_123 : decode cX8_readRule 123 = .ok (.getfield 23, 3) := by decide +kernel
theorem dX8_readRule_126 : decode cX8_readRule 126 = .ok (.iconst 5, 1) := by decide +kernel
theorem dX8_readRule_127 : decode cX8_readRule 127 = .ok (.aload_n 0, 1) := by decide +kernel
theorem dX8_readRule_128 : decode cX8_readRule 128 = .ok (.iconst 0, 1) := by decide +kernel
theorem dX8_readRule_129 : decode cX8_readRule 129 = .ok (.bipush 99, 2) := by decide +kernel
theorem dX8_readRule_131 : decode cX8_readRule 131 = .ok (.invokevirtual 121, 3) := by decide +kernel
theorem dX8_readRule_134 : decode cX8_readRule 134 = .ok (.iastore, 1) := by decide +kernel
theorem dX8_readRule_135 : decode cX8_readRule 135 = .ok (.goto 18, 3) := by decide +kernel
theorem dX8_readRule_138 : decode cX8_readRule 138 = .ok (.aload_n 0, 1) := by decide +kernel
theorem dX8_readRule_139 : decode cX8_readRule 139 = .ok (.getfield 23, 3) := by decide +kernel
theorem dX8_readRule_142 : decode cX8_readRule 142 = .ok (.bipush 6, 2) := by decide +kernel
theorem dX8_readRule_144 : decode cX8_readRule 144 = .ok (.aload_n 0, 1) := by decide +kernel
theorem dX8_readRule_145 : decode cX8_readRule 145 = .ok (.iconst 0, 1) := by decide +kernel
theorem dX8_readRule_146 : decode cX8_readRule 146 = .ok (.sipush 999, 3) := by decide +kernel
theorem dX8_readRule_149 : decode cX8_readRule 149 = .ok (.invokevirtual 121, 3) := by decide +kernel
theorem dX8_readRule_152 : decode cX8_readRule 152 = .ok (.iastore, 1) := by decide +kernel
theorem dX8_readRule_153 : decode cX8_readRule 153 = .ok (.return_, 1) := by decide +kernel
theorem dX8_readLine_0 : decode cX8_readLine 0 = .ok (.aload_n 0, 1) := by decide +kernel
theorem dX8_readLine_1 : decode cX8_readLine 1 = .ok (.getfield 96, 3) := by decide +kernel
theorem dX8_readLine_4 : decode cX8_readLine 4 = .ok (.iconst 1, 1) := by decide +kernel
theorem dX8_readLine_5 : decode cX8_readLine 5 = .ok (.if_icmp .ne 10, 3) := by decide +kernel
theorem dX8_readLine_8 : decode cX8_readLine 8 = .ok (.aload_n 0, 1) := by decide +kernel
theorem dX8_readLine_9 : decode cX8_readLine 9 = .ok (.invokevirtual 129, 3) := by decide +kernel
theorem dX8_readLine_12 : decode cX8_readLine 12 = .ok (.goto 5, 3) := by decide +kernel
theorem dX8_readLine_15 : decode cX8_readLine 15 = .ok (.bipush (-4), 2) := by decide +kernel
theorem dX8_readLine_17 : decode cX8_readLine 17 = .ok (.istore_n 1, 1) := by decide +kernel
theorem dX8_readLine_18 : decode cX8_readLine 18 = .ok (.aload_n 0, 1) := by decide +kernel
theorem dX8_readLine_19 : decode cX8_readLine 19 = .ok (.iload_n 1, 1) := by decide +kernel
theorem dX8_readLine_20 : decode cX8_readLine 20 = .ok (.bipush (-4), 2) := by decide +kernel
theorem dX8_readLine_22 : decode cX8_readLine 22 = .ok (.if_icmp .eq 7, 3) := by decide +kernel
theorem dX8_readLine_25 : decode cX8_readLine 25 = .ok (.iconst 1, 1) := by decide +kernel
theorem dX8_readLine_26 : decode cX8_readLine 26 = .ok (.goto 4, 3) := by decide +kernel
theorem dX8_readLine_29 : decode cX8_readLine 29 = .ok (.iconst 0, 1) := by decide +kernel
theorem dX8_readLine_30 : decode cX8_readLine 30 = .ok (.iconst 2, 1) := by decide +kernel
theorem dX8_readLine_31 : decode cX8_readLine 31 = .ok (.invokevirtual 110, 3) := by decide +kernel
theorem dX8_readLine_34 : decode cX8_readLine 34 = .ok (.aload_n 0, 1) := by decide +kernel
theorem dX8_readLine_35 : decode cX8_readLine 35 = .ok (.iload_n 1, 1) := by decide +kernel
theorem dX8_readLine_36 : decode cX8_readLine 36 = .ok (.bipush 7, 2) := by decide +kernel
theorem dX8_readLine_38 : decode cX8_readLine 38 = .ok (.if_icmp .ne 12, 3) := by decide +kernel
theorem dX8_readLine_41 : decode cX8_readLine 41 = .ok (.aload_n 0, 1) := by decide +kernel
theorem dX8_readLine_42 : decode cX8_readLine 42 = .ok (.getfield 56, 3) := by decide +kernel
theorem dX8_readLine_45 : decode cX8_readLine 45 = .ok (.bipush 6, 2) := by decide +kernel
theorem dX8_readLine_47 : decode cX8_readLine 47 = .ok (.if_icmp .ge 7, 3) := by decide +kernel
theorem dX8_readLine_50 : decode cX8_readLine 50 = .ok (.iconst 1, 1) := by decide +kernel
theorem dX8_readLine_51 : decode cX8_readLine 51 = .ok (.goto 4, 3) := by decide +kernel
theorem dX8_readLine_54 : decode cX8_readLine 54 = .ok (.iconst 0, 1) := by decide +kernel
theorem dX8_readLine_55 : decode cX8_readLine 55 = .ok (.iconst 5, 1) := by decide +kernel
theorem dX8_readLine_56 : decode cX8_readLine 56 = .ok (.invokevirtual 110, 3) := by decide +kernel
theorem dX8_readLine_59 : decode cX8_readLine 59 = .ok (.aload_n 0, 1) := by decide +kernel
theorem dX8_readLine_60 : decode cX8_readLine 60 = .ok (.getfield 76, 3) := by decide +kernel
theorem dX8_readLine_63 : decode cX8_readLine 63 = .ok (.ifCond .ne 42, 3) := by decide +kernel
theorem dX8_readLine_66 : decode cX8_readLine 66 = .ok (.iload_n 1, 1) := by decide +kernel
theorem dX8_readLine_67 : decode cX8_readLine 67 = .ok (.bipush 6, 2) := by decide +kernel
theorem dX8_readLine_69 : decode cX8_readLine 69 = .ok (.if_icmp .ge 36, 3) := by decide +kernel
theorem dX8_readLine_72 : decode cX8_readLine 72 = .ok (.aload_n 0, 1) := by decide +kernel
theorem dX8_readLine_73 : decode cX8_readLine 73 = .ok (.aload_n 0, 1) := by decide +kernel
theorem dX8_readLine_74 : decode cX8_readLine 74 = .ok (.getfield 60, 3) := by decide +kernel
theorem dX8_readLine_77 : decode cX8_readLine 77 = .ok (.iload_n 1, 1) := by decide +kernel
theorem dX8_readLine_78 : decode cX8_readLine 78 = .ok (.ishr, 1) := by decide +kernel
theorem dX8_readLine_79 : decode cX8_readLine 79 = .ok (.iconst 1, 1) := by decide +kernel
theorem dX8_readLine_80 : decode cX8_readLine 80 = .ok (.iand, 1) := by decide +kernel
theorem dX8_readLine_81 : decode cX8_readLine 81 = .ok (.ifCond .ne 7, 3) := by decide +kernel
theorem dX8_readLine_84 : decode cX8_readLine 84 = .ok (.iconst 1, 1) := by decide +kernel
theorem dX8_readLine_85 : decode cX8_readLine 85 = .ok (.goto 4, 3) := by decide +kernel
theorem dX8_readLine_88 : decode cX8_readLine 88 = .ok (.iconst 0, 1) := by decide +kernel
theorem dX8_readLine_89 : decode cX8_readLine 89 = .ok (.iconst 4, 1) := by decide +kernel
theorem dX8_readLine_90 : decode cX8_readLine 90 = .ok (.invokevirtual 110, 3) := by decide +kernel
theorem dX8_readLine_93 : decode cX8_readLine 93 = .ok (.aload_n 0, 1) := by decide +kernel
theorem dX8_readLine_94 : decode cX8_readLine 94 = .ok (.dup, 1) := by decide +kernel
theorem dX8_readLine_95 : decode cX8_readLine 95 = .ok (.getfield 60, 3) := by decide +kernel
theorem dX8_readLine_98 : decode cX8_readLine 98 = .ok (.iconst 1, 1) := by decide +kernel
theorem dX8_readLine_99 : decode cX8_readLine 99 = .ok (.iload_n 1, 1) := by decide +kernel
theorem dX8_readLine_100 : decode cX8_readLine 100 = .ok (.ishl, 1) := by decide +kernel
theorem dX8_readLine_101 : decode cX8_readLine 101 = .ok (.ior, 1) := by decide +kernel
theorem dX8_readLine_102 : decode cX8_readLine 102 = .ok (.putfield 60, 3) := by decide +kernel
theorem dX8_readLine_105 : decode cX8_readLine 105 = .ok (.aload_n 0, 1) := by decide +kernel
theorem dX8_readLine_106 : decode cX8_readLine 106 = .ok (.invokevirtual 118, 3) := by decide +kernel
theorem dX8_readLine_109 : decode cX8_readLine 109 = .ok (.aload_n 0, 1) := by decide +kernel
theorem dX8_readLine_110 : decode cX8_readLine 110 = .ok (.getfield 76, 3) := by decide +kernel
theorem dX8_readLine_113 : decode cX8_readLine 113 = .ok (.ifCond .le 4, 3) := by decide +kernel
theorem dX8_readLine_116 : decode cX8_readLine 116 = .ok (.return_, 1) := by decide +kernel
theorem dX8_readLine_117 : decode cX8_readLine 117 = .ok (.iload_n 1, 1) := by decide +kernel
theorem dX8_readLine_118 : decode cX8_readLine 118 = .ok (.bipush 7, 2) := by decide +kernel
theorem dX8_readLine_120 : decode cX8_readLine 120 = .ok (.if_icmp .ne 10, 3) := by decide +kernel
theorem dX8_readLine_123 : decode cX8_readLine 123 = .ok (.aload_n 0, 1) := by decide +kernel
theorem dX8_readLine_124 : decode cX8_readLine 124 = .ok (.invokevirtual 132, 3) := by decide +kernel
theorem dX8_readLine_127 : decode cX8_readLine 127 = .ok (.goto 21, 3) := by decide +kernel
theorem dX8_readLine_130 : decode cX8_readLine 130 = .ok (.iload_n 1, 1) := by decide +kernel
theorem dX8_readLine_131 : decode cX8_readLine 131 = .ok (.bipush 6, 2) := by decide +kernel
theorem dX8_readLine_133 : decode cX8_readLine 133 = .ok (.if_icmp .ne 10, 3) := by decide +kernel
theorem dX8_readLine_136 : decode cX8_readLine 136 = .ok (.aload_n 0, 1) := by decide +kernel
theorem dX8_readLine_137 : decode cX8_readLine 137 = .ok (.invokevirtual 135, 3) := by decide +kernel
theorem dX8_readLine_140 : decode cX8_readLine 140 = .ok (.goto 8, 3) := by decide +kernel
theorem dX8_readLine_143 : decode cX8_readLine 143 = .ok (.aload_n 0, 1) := by decide +kernel
theorem dX8_readLine_144 : decode cX8_readLine 144 = .ok (.iload_n 1, 1) := by decide +kernel
theorem dX8_readLine_145 : decode cX8_readLine 145 = .ok (.invokevirtual 138, 3) := by decide +kernel
theorem dX8_readLine_148 : decode cX8_readLine 148 = .ok (.aload_n 0, 1) := by decide +kernel
theorem dX8_readLine_149 : decode cX8_readLine 149 = .ok (.getfield 76, 3) := by decide +kernel
theorem dX8_readLine_152 : decode cX8_readLine 152 = .ok (.ifCond .ne 21, 3) := by decide +kernel
theorem dX8_readLine_155 : decode cX8_readLine 155 = .ok (.aload_n 0, 1) := by decide +kernel
theorem dX8_readLine_156 : decode cX8_readLine 156 = .ok (.aload_n 0, 1) := by decide +kernel
theorem dX8_readLine_157 : decode cX8_readLine 157 = .ok (.getfield 96, 3) := by decide +kernel
theorem dX8_readLine_160 : decode cX8_readLine 160 = .ok (.iconst 3, 1) := by decide +kernel
theorem dX8_readLine_161 : decode cX8_readLine 161 = .ok (.if_icmp .ne 7, 3) := by decide +kernel
theorem dX8_readLine_164 : decode cX8_readLine 164 = .ok (.iconst 1, 1) := by decide +kernel
theorem dX8_readLine_165 : decode cX8_readLine 165 = .ok (.goto 4, 3) := by decide +kernel
theorem dX8_readLine_168 : decode cX8_readLine 168 = .ok (.iconst 0, 1) := by decide +kernel
theorem dX8_readLine_169 : decode cX8_readLine 169 = .ok (.iconst 2, 1) := by decide +kernel
theorem dX8_readLine_170 : decode cX8_readLine 170 = .ok (.invokevirtual 110, 3) := by decide +kernel
theorem dX8_readLine_173 : decode cX8_readLine 173 = .ok (.aload_n 0, 1) := by decide +kernel
theorem dX8_readLine_174 : decode cX8_readLine 174 = .ok (.invokevirtual 118, 3) := by decide +kernel
theorem dX8_readLine_177 : decode cX8_readLine 177 = .ok (.return_, 1) := by decide +kernel
theorem dX8_text_0 : decode cX8_text 0 = .ok (.iconst 0, 1) := by decide +kernel
theorem dX8_text_1 : decode cX8_text 1 = .ok (.istore_n 1, 1) := by decide +kernel
theorem dX8_text_2 : decode cX8_text 2 = .ok (.aload_n 0, 1) := by decide +kernel
theorem dX8_text_3 : decode cX8_text 3 = .ok (.iconst 0, 1) := by decide +kernel
theorem dX8_text_4 : decode cX8_text 4 = .ok (.putfield 76, 3) := by decide +kernel
theorem dX8_text_7 : decode cX8_text 7 = .ok (.aload_n 0, 1) := by decide +kernel
theorem dX8_text_8 : decode cX8_text 8 = .ok (.iconst 0, 1) := by decide +kernel
theorem dX8_text_9 : decode cX8_text 9 = .ok (.putfield 85, 3) := by decide +kernel
theorem dX8_text_12 : decode cX8_text 12 = .ok (.aload_n 0, 1) := by decide +kernel
theorem dX8_text_13 : decode cX8_text 13 = .ok (.invokevirtual 50, 3) := by decide +kernel
theorem dX8_text_16 : decode cX8_text 16 = .ok (.aload_n 0, 1) := by decide +kernel
theorem dX8_text_17 : decode cX8_text 17 = .ok (.invokevirtual 118, 3) := by decide +kernel
theorem dX8_text_20 : decode cX8_text 20 = .ok (.aload_n 0, 1) := by decide +kernel
theorem dX8_text_21 : decode cX8_text 21 = .ok (.getfield 76, 3) := by decide +kernel
theorem dX8_text_24 : decode cX8_text 24 = .ok (.ifCond .ne 20, 3) := by decide +kernel
theorem dX8_text_27 : decode cX8_text 27 = .ok (.aload_n 0, 1) := by decide +kernel
theorem dX8_text_28 : decode cX8_text 28 = .ok (.getfield 96, 3) := by decide +kernel
theorem dX8_text_31 : decode cX8_text 31 = .ok (.ifCond .eq 13, 3) := by decide +kernel
theorem dX8_text_34 : decode cX8_text 34 = .ok (.aload_n 0, 1) := by decide +kernel
theorem dX8_text_35 : decode cX8_text 35 = .ok (.invokevirtual 142, 3) := by decide +kernel
theorem dX8_text_38 : decode cX8_text 38 = .ok (.iinc 1 1, 3) := by decide +kernel
theorem dX8_text_41 : decode cX8_text 41 = .ok (.goto (-21), 3) := by decide +kernel
theorem dX8_text_44 : decode cX8_text 44 = .ok (.aload_n 0, 1) := by decide +kernel
theorem dX8_text_45 : decode cX8_text 45 = .ok (.iconst 0, 1) := by decide +kernel
theorem dX8_text_46 : decode cX8_text 46 = .ok (.putfield 67, 3) := by decide +kernel
theorem dX8_text_49 : decode cX8_text 49 = .ok (.aload_n 0, 1) := by decide +kernel
theorem dX8_text_50 : decode cX8_text 50 = .ok (.getfield 76, 3) := by decide +kernel
theorem dX8_text_53 : decode cX8_text 53 = .ok (.ifCond .le 11, 3) := by decide +kernel
theorem dX8_text_56 : decode cX8_text 56 = .ok (.bipush (-10), 2) := by decide +kernel
theorem dX8_text_58 : decode cX8_text 58 = .ok (.aload_n 0, 1) := by decide +kernel
theorem dX8_text_59 : decode cX8_text 59 = .ok (.getfield 82, 3) := by decide +kernel
theorem dX8_text_62 : decode cX8_text 62 = .ok (.isub, 1) := by decide +kernel
theorem dX8_text_63 : decode cX8_text 63 = .ok (.ireturn, 1) := by decide +kernel
theorem dX8_text_64 : decode cX8_text 64 = .ok (.aload_n 0, 1) := by decide +kernel
theorem dX8_text_65 : decode cX8_text 65 = .ok (.invokevirtual 53, 3) := by decide +kernel
theorem dX8_text_68 : decode cX8_text 68 = .ok (.iload_n 1, 1) := by decide +kernel
theorem dX8_text_69 : decode cX8_text 69 = .ok (.ireturn, 1) := by decide +kernel
theorem dX8_fault_0 : decode cX8_fault 0 = .ok (.aload_n 0, 1) := by decide +kernel
theorem dX8_fault_1 : decode cX8_fault 1 = .ok (.getfield 76, 3) := by decide +kernel
theorem dX8_fault_4 : decode cX8_fault 4 = .ok (.ireturn, 1) := by decide +kernel
theorem dX8_rule_0 : decode cX8_rule 0 = .ok (.iload_n 1, 1) := by decide +kernel
theorem dX8_rule_1 : decode cX8_rule 1 = .ok (.iconst 2, 1) := by decide +kernel
theorem dX8_rule_2 : decode cX8_rule 2 = .ok (.if_icmp .ne 13, 3) := by decide +kernel
theorem dX8_rule_5 : decode cX8_rule 5 = .ok (.aload_n 0, 1) := by decide +kernel
theorem dX8_rule_6 : decode cX8_rule 6 = .ok (.getfield 7, 3) := by decide +kernel
theorem dX8_rule_9 : decode cX8_rule 9 = .ok (.bipush 49, 2) := by decide +kernel
theorem dX8_rule_11 : decode cX8_rule 11 = .ok (.iaload, 1) := by decide +kernel
theorem dX8_rule_12 : decode cX8_rule 12 = .ok (.goto 51, 3) := by decide +kernel
theorem dX8_rule_15 : decode cX8_rule 15 = .ok (.iload_n 1, 1) := by decide +kernel
theorem dX8_rule_16 : decode cX8_rule 16 = .ok (.i2l, 1) := by decide +kernel
theorem dX8_rule_17 : decode cX8_rule 17 = .ok (.lconst 0, 1) := by decide +kernel
theorem dX8_rule_18 : decode cX8_rule 18 = .ok (.ldc2_w 145, 3) := by decide +kernel
theorem dX8_rule_21 : decode cX8_rule 21 = .ok (.invokestatic 72, 3) := by decide +kernel
theorem dX8_rule_24 : decode cX8_rule 24 = .ok (.ifCond .eq 12, 3) := by decide +kernel
theorem dX8_rule_27 : decode cX8_rule 27 = .ok (.aload_n 0, 1) := by decide +kernel
theorem dX8_rule_28 : decode cX8_rule 28 = .ok (.getfield 17, 3) := by decide +kernel
theorem dX8_rule_31 : decode cX8_rule 31 = .ok (.iload_n 1, 1) := by decide +kernel
theorem dX8_rule_32 : decode cX8_rule 32 = .ok (.iaload, 1) := by decide +kernel
theorem dX8_rule_33 : decode cX8_rule 33 = .ok (.goto 30, 3) := by decide +kernel
theorem dX8_rule_36 : decode cX8_rule 36 = .ok (.iload_n 1, 1) := by decide +kernel
theorem dX8_rule_37 : decode cX8_rule 37 = .ok (.i2l, 1) := by decide +kernel
theorem dX8_rule_38 : decode cX8_rule 38 = .ok (.ldc2_w 147, 3) := by decide +kernel
theorem dX8_rule_41 : decode cX8_rule 41 = .ok (.ldc2_w 149, 3) := by decide +kernel
theorem dX8_rule_44 : decode cX8_rule 44 = .ok (.invokestatic 72, 3) := by decide +kernel
theorem dX8_rule_47 : decode cX8_rule 47 = .ok (.ifCond .eq 15, 3) := by decide +kernel
theorem dX8_rule_50 : decode cX8_rule 50 = .ok (.aload_n 0, 1) := by decide +kernel
theorem dX8_rule_51 : decode cX8_rule 51 = .ok (.getfield 20, 3) := by decide +kernel
theorem dX8_rule_54 : decode cX8_rule 54 = .ok (.iload_n 1, 1) := by decide +kernel
theorem dX8_rule_55 : decode cX8_rule 55 = .ok (.bipush 10, 2) := by decide +kernel
theorem dX8_rule_57 : decode cX8_rule 57 = .ok (.isub, 1) := by decide +kernel
theorem dX8_rule_58 : decode cX8_rule 58 = .ok (.iaload, 1) := by decide +kernel
theorem dX8_rule_59 : decode cX8_rule 59 = .ok (.goto 4, 3) := by decide +kernel
theorem dX8_rule_62 : decode cX8_rule 62 = .ok (.iconst (-1), 1) := by decide +kernel
theorem dX8_rule_63 : decode cX8_rule 63 = .ok (.ireturn, 1) := by decide +kernel
theorem dX8_isDiver_0 : decode cX8_isDiver 0 = .ok (.iload_n 1, 1) := by decide +kernel
theorem dX8_isDiver_1 : decode cX8_isDiver 1 = .ok (.i2l, 1) := by decide +kernel
theorem dX8_isDiver_2 : decode cX8_isDiver 2 = .ok (.lconst 0, 1) := by decide +kernel
theorem dX8_isDiver_3 : decode cX8_isDiver 3 = .ok (.aload_n 0, 1) := by decide +kernel
theorem dX8_isDiver_4 : decode cX8_isDiver 4 = .ok (.getfield 7, 3) := by decide +kernel
theorem dX8_isDiver_7 : decode cX8_isDiver 7 = .ok (.bipush 53, 2) := by decide +kernel
theorem dX8_isDiver_9 : decode cX8_isDiver 9 = .ok (.iaload, 1) := by decide +kernel
theorem dX8_isDiver_10 : decode cX8_isDiver 10 = .ok (.iconst 1, 1) := by decide +kernel
theorem dX8_isDiver_11 : decode cX8_isDiver 11 = .ok (.isub, 1) := by decide +kernel
theorem dX8_isDiver_12 : decode cX8_isDiver 12 = .ok (.i2l, 1) := by decide +kernel
theorem dX8_isDiver_13 : decode cX8_isDiver 13 = .ok (.invokestatic 72, 3) := by decide +kernel
theorem dX8_isDiver_16 : decode cX8_isDiver 16 = .ok (.ireturn, 1) := by decide +kernel
theorem dX8_isDepth_0 : decode cX8_isDepth 0 = .ok (.iload_n 1, 1) := by decide +kernel
theorem dX8_isDepth_1 : decode cX8_isDepth 1 = .ok (.i2l, 1) := by decide +kernel
theorem dX8_isDepth_2 : decode cX8_isDepth 2 = .ok (.lconst 0, 1) := by decide +kernel
theorem dX8_isDepth_3 : decode cX8_isDepth 3 = .ok (.aload_n 0, 1) := by decide +kernel
theorem dX8_isDepth_4 : decode cX8_isDepth 4 = .ok (.getfield 17, 3) := by decide +kernel
theorem dX8_isDepth_7 : decode cX8_isDepth 7 = .ok (.iconst 0, 1) := by decide +kernel
theorem dX8_isDepth_8 : decode cX8_isDepth 8 = .ok (.iaload, 1) := by decide +kernel
theorem dX8_isDepth_9 : decode cX8_isDepth 9 = .ok (.i2l, 1) := by decide +kernel
theorem dX8_isDepth_10 : decode cX8_isDepth 10 = .ok (.invokestatic 72, 3) := by decide +kernel
theorem dX8_isDepth_13 : decode cX8_isDepth 13 = .ok (.ireturn, 1) := by decide +kernel
theorem dX8_isThumb_0 : decode cX8_isThumb 0 = .ok (.iload_n 0, 1) := by decide +kernel
theorem dX8_isThumb_1 : decode cX8_isThumb 1 = .ok (.i2l, 1) := by decide +kernel
theorem dX8_isThumb_2 : decode cX8_isThumb 2 = .ok (.lconst 0, 1) := by decide +kernel
theorem dX8_isThumb_3 : decode cX8_isThumb 3 = .ok (.ldc2_w 151, 3) := by decide +kernel
theorem dX8_isThumb_6 : decode cX8_isThumb 6 = .ok (.invokestatic 72, 3) := by decide +kernel
theorem dX8_isThumb_9 : decode cX8_isThumb 9 = .ok (.ireturn, 1) := by decide +kernel
theorem dX8_of_0 : decode cX8_of 0 = .ok (.aload_n 0, 1) := by decide +kernel
theorem dX8_of_1 : decode cX8_of 1 = .ok (.getfield 7, 3) := by decide +kernel
theorem dX8_of_4 : decode cX8_of 4 = .ok (.bipush 8, 2) := by decide +kernel
theorem dX8_of_6 : decode cX8_of 6 = .ok (.iload_n 1, 1) := by decide +kernel
theorem dX8_of_7 : decode cX8_of 7 = .ok (.imul, 1) := by decide +kernel
theorem dX8_of_8 : decode cX8_of 8 = .ok (.iload_n 2, 1) := by decide +kernel
theorem dX8_of_9 : decode cX8_of 9 = .ok (.iadd, 1) := by decide +kernel
theorem dX8_of_10 : decode cX8_of 10 = .ok (.iaload, 1) := by decide +kernel
theorem dX8_of_11 : decode cX8_of 11 = .ok (.ireturn, 1) := by decide +kernel
theorem dX8_weight_0 : decode cX8_weight 0 = .ok (.aload_n 0, 1) := by decide +kernel
theorem dX8_weight_1 : decode cX8_weight 1 = .ok (.getfield 17, 3) := by decide +kernel
theorem dX8_weight_4 : decode cX8_weight 4 = .ok (.iconst 1, 1) := by decide +kernel
theorem dX8_weight_5 : decode cX8_weight 5 = .ok (.iaload, 1) := by decide +kernel
theorem dX8_weight_6 : decode cX8_weight 6 = .ok (.iload 4, 2) := by decide +kernel
theorem dX8_weight_8 : decode cX8_weight 8 = .ok (.iadd, 1) := by decide +kernel
theorem dX8_weight_9 : decode cX8_weight 9 = .ok (.iload 5, 2) := by decide +kernel
theorem dX8_weight_11 : decode cX8_weight 11 = .ok (.iadd, 1) := by decide +kernel
theorem dX8_weight_12 : decode cX8_weight 12 = .ok (.istore 6, 2) := by decide +kernel
theorem dX8_weight_14 : decode cX8_weight 14 = .ok (.iload_n 1, 1) := by decide +kernel
theorem dX8_weight_15 : decode cX8_weight 15 = .ok (.iload_n 2, 1) := by decide +kernel
theorem dX8_weight_16 : decode cX8_weight 16 = .ok (.iload_n 3, 1) := by decide +kernel
theorem dX8_weight_17 : decode cX8_weight 17 = .ok (.imul, 1) := by decide +kernel
theorem dX8_weight_18 : decode cX8_weight 18 = .ok (.iload 6, 2) := by decide +kernel
theorem dX8_weight_20 : decode cX8_weight 20 = .ok (.idiv, 1) := by decide +kernel
theorem dX8_weight_21 : decode cX8_weight 21 = .ok (.isub, 1) := by decide +kernel
theorem dX8_weight_22 : decode cX8_weight 22 = .ok (.iload 5, 2) := by decide +kernel
theorem dX8_weight_24 : decode cX8_weight 24 = .ok (.aload_n 0, 1) := by decide +kernel
theorem dX8_weight_25 : decode cX8_weight 25 = .ok (.getfield 17, 3) := by decide +kernel
theorem dX8_weight_28 : decode cX8_weight 28 = .ok (.iconst 4, 1) := by decide +kernel
theorem dX8_weight_29 : decode cX8_weight 29 = .ok (.iaload, 1) := by decide +kernel
theorem dX8_weight_30 : decode cX8_weight 30 = .ok (.if_icmp .lt 12, 3) := by decide +kernel
theorem dX8_weight_33 : decode cX8_weight 33 = .ok (.aload_n 0, 1) := by decide +kernel
theorem dX8_weight_34 : decode cX8_weight 34 = .ok (.getfield 17, 3) := by decide +kernel
theorem dX8_weight_37 : decode cX8_weight 37 = .ok (.iconst 5, 1) := by decide +kernel
theorem dX8_weight_38 : decode cX8_weight 38 = .ok (.iaload, 1) := by decide +kernel
theorem dX8_weight_39 : decode cX8_weight 39 = .ok (.goto 4, 3) := by decide +kernel
theorem dX8_weight_42 : decode cX8_weight 42 = .ok (.iconst 0, 1) := by decide +kernel
theorem dX8_weight_43 : decode cX8_weight 43 = .ok (.isub, 1) := by decide +kernel
theorem dX8_weight_44 : decode cX8_weight 44 = .ok (.ireturn, 1) := by decide +kernel
theorem dX8_heavy_0 : decode cX8_heavy 0 = .ok (.aload_n 0, 1) := by decide +kernel
theorem dX8_heavy_1 : decode cX8_heavy 1 = .ok (.iload_n 1, 1) := by decide +kernel
theorem dX8_heavy_2 : decode cX8_heavy 2 = .ok (.iconst 0, 1) := by decide +kernel
theorem dX8_heavy_3 : decode cX8_heavy 3 = .ok (.invokevirtual 153, 3) := by decide +kernel
theorem dX8_heavy_6 : decode cX8_heavy 6 = .ok (.aload_n 0, 1) := by decide +kernel
theorem dX8_heavy_7 : decode cX8_heavy 7 = .ok (.iload_n 1, 1) := by decide +kernel
theorem dX8_heavy_8 : decode cX8_heavy 8 = .ok (.iconst 5, 1) := by decide +kernel
theorem dX8_heavy_9 : decode cX8_heavy 9 = .ok (.invokevirtual 153, 3) := by decide +kernel
theorem dX8_heavy_12 : decode cX8_heavy 12 = .ok (.iadd, 1) := by decide +kernel
theorem dX8_heavy_13 : decode cX8_heavy 13 = .ok (.ireturn, 1) := by decide +kernel
theorem dX8_weighsAt_0 : decode cX8_weighsAt 0 = .ok (.aload_n 0, 1) := by decide +kernel
theorem dX8_weighsAt_1 : decode cX8_weighsAt 1 = .ok (.aload_n 0, 1) := by decide +kernel
theorem dX8_weighsAt_2 : decode cX8_weighsAt 2 = .ok (.iload_n 1, 1) := by decide +kernel
theorem dX8_weighsAt_3 : decode cX8_weighsAt 3 = .ok (.invokevirtual 156, 3) := by decide +kernel
theorem dX8_weighsAt_6 : decode cX8_weighsAt 6 = .ok (.aload_n 0, 1) := by decide +kernel
theorem dX8_weighsAt_7 : decode cX8_weighsAt 7 = .ok (.iload_n 1, 1) := by decide +kernel
theorem dX8_weighsAt_8 : decode cX8_weighsAt 8 = .ok (.iconst 1, 1) := by decide +kernel
theorem dX8_weighsAt_9 : decode cX8_weighsAt 9 = .ok (.invokevirtual 153, 3) := by decide +kernel
theorem dX8_weighsAt_12 : decode cX8_weighsAt 12 = .ok (.aload_n 0, 1) := by decide +kernel
theorem dX8_weighsAt_13 : decode cX8_weighsAt 13 = .ok (.getfield 7, 3) := by decide +kernel
theorem dX8_weighsAt_16 : decode cX8_weighsAt 16 = .ok (.bipush 49, 2) := by decide +kernel
theorem dX8_weighsAt_18 : decode cX8_weighsAt 18 = .ok (.iaload, 1) := by decide +kernel
theorem dX8_weighsAt_19 : decode cX8_weighsAt 19 = .ok (.iload_n 3, 1) := by decide +kernel
theorem dX8_weighsAt_20 : decode cX8_weighsAt 20 = .ok (.iload_n 2, 1) := by decide +kernel
theorem dX8_weighsAt_21 : decode cX8_weighsAt 21 = .ok (.invokevirtual 159, 3) := by decide +kernel
theorem dX8_weighsAt_24 : decode cX8_weighsAt 24 = .ok (.ireturn, 1) := by decide +kernel
theorem dX8_diver_0 : decode cX8_diver 0 = .ok (.aload_n 0, 1) := by decide +kernel
theorem dX8_diver_1 : decode cX8_diver 1 = .ok (.iload_n 1, 1) := by decide +kernel
theorem dX8_diver_2 : decode cX8_diver 2 = .ok (.invokevirtual 163, 3) := by decide +kernel
theorem dX8_diver_5 : decode cX8_diver 5 = .ok (.ifCond .eq 15, 3) := by decide +kernel
theorem dX8_diver_8 : decode cX8_diver 8 = .ok (.iload_n 2, 1) := by decide +kernel
theorem dX8_diver_9 : decode cX8_diver 9 = .ok (.i2l, 1) := by decide +kernel
theorem dX8_diver_10 : decode cX8_diver 10 = .ok (.lconst 0, 1) := by decide +kernel
theorem dX8_diver_11 : decode cX8_diver 11 = .ok (.ldc2_w 167, 3) := by decide +kernel
theorem dX8_diver_14 : decode cX8_diver 14 = .ok (.invokestatic 72, 3) := by decide +kernel
theorem dX8_diver_17 : decode cX8_diver 17 = .ok (.ifCond .ne 6, 3) := by decide +kernel
theorem dX8_diver_20 : decode cX8_diver 20 = .ok (.ldc 169, 2) := by decide +kernel
theorem dX8_diver_22 : decode cX8_diver 22 = .ok (.ireturn, 1) := by decide +kernel
theorem dX8_diver_23 : decode cX8_diver 23 = .ok (.aload_n 0, 1) := by decide +kernel
theorem dX8_diver_24 : decode cX8_diver 24 = .ok (.iload_n 1, 1) := by decide +kernel
theorem dX8_diver_25 : decode cX8_diver 25 = .ok (.bipush 6, 2) := by decide +kernel
theorem dX8_diver_27 : decode cX8_diver 27 = .ok (.invokevirtual 153, 3) := by decide +kernel
theorem dX8_diver_30 : decode cX8_diver 30 = .ok (.bipush 64, 2) := by decide +kernel
theorem dX8_diver_32 : decode cX8_diver 32 = .ok (.idiv, 1) := by decide +kernel
theorem dX8_diver_33 : decode cX8_diver 33 = .ok (.istore_n 3, 1) := by decide +kernel
theorem dX8_diver_34 : decode cX8_diver 34 = .ok (.iload_n 2, 1) := by decide +kernel
theorem dX8_diver_35 : decode cX8_diver 35 = .ok (.bipush 6, 2) := by decide +kernel
theorem dX8_diver_37 : decode cX8_diver 37 = .ok (.if_icmp .ge 12, 3) := by decide +kernel
theorem dX8_diver_40 : decode cX8_diver 40 = .ok (.aload_n 0, 1) := by decide +kernel
theorem dX8_diver_41 : decode cX8_diver 41 = .ok (.iload_n 1, 1) := by decide +kernel
theorem dX8_diver_42 : decode cX8_diver 42 = .ok (.iload_n 2, 1) := by decide +kernel
theorem dX8_diver_43 : decode cX8_diver 43 = .ok (.invokevirtual 153, 3) := by decide +kernel
theorem dX8_diver_46 : decode cX8_diver 46 = .ok (.goto 58, 3) := by decide +kernel
theorem dX8_diver_49 : decode cX8_diver 49 = .ok (.iload_n 2, 1) := by decide +kernel
theorem dX8_diver_50 : decode cX8_diver 50 = .ok (.bipush 6, 2) := by decide +kernel
theorem dX8_diver_52 : decode cX8_diver 52 = .ok (.if_icmp .ne 7, 3) := by decide +kernel
theorem dX8_diver_55 : decode cX8_diver 55 = .ok (.iload_n 3, 1) := by decide +kernel
theorem dX8_diver_56 : decode cX8_diver 56 = .ok (.goto 48, 3) := by decide +kernel
theorem dX8_diver_59 : decode cX8_diver 59 = .ok (.iload_n 2, 1) := by decide +kernel
theorem dX8_diver_60 : decode cX8_diver 60 = .ok (.bipush 7, 2) := by decide +kernel
theorem dX8_diver_62 : decode cX8_diver 62 = .ok (.if_icmp .ne 13, 3) := by decide +kernel
theorem dX8_diver_65 : decode cX8_diver 65 = .ok (.aload_n 0, 1) := by decide +kernel
theorem dX8_diver_66 : decode cX8_diver 66 = .ok (.iload_n 1, 1) := by decide +kernel
theorem dX8_diver_67 : decode cX8_diver 67 = .ok (.bipush 6, 2) := by decide +kernel
theorem dX8_diver_69 : decode cX8_diver 69 = .ok (.invokevirtual 153, 3) := by decide +kernel
theorem dX8_diver_72 : decode cX8_diver 72 = .ok (.goto 32, 3) := by decide +kernel
theorem dX8_diver_75 : decode cX8_diver 75 = .ok (.iload_n 2, 1) := by decide +kernel
theorem dX8_diver_76 : decode cX8_diver 76 = .ok (.bipush 8, 2) := by decide +kernel
theorem dX8_diver_78 : decode cX8_diver 78 = .ok (.if_icmp .ne 13, 3) := by decide +kernel
theorem dX8_diver_81 : decode cX8_diver 81 = .ok (.aload_n 0, 1) := by decide +kernel
theorem dX8_diver_82 : decode cX8_diver 82 = .ok (.iload_n 1, 1) := by decide +kernel
theorem dX8_diver_83 : decode cX8_diver 83 = .ok (.bipush 7, 2) := by decide +kernel
theorem dX8_diver_85 : decode cX8_diver 85 = .ok (.invokevirtual 153, 3) := by decide +kernel
theorem dX8_diver_88 : decode cX8_diver 88 = .ok (.goto 16, 3) := by decide +kernel
theorem dX8_diver_91 : decode cX8_diver 91 = .ok (.aload_n 0, 1) := by decide +kernel
theorem dX8_diver_92 : decode cX8_diver 92 = .ok (.iload_n 1, 1) := by decide +kernel
theorem dX8_diver_93 : decode cX8_diver 93 = .ok (.iload_n 3, 1) := by decide +kernel
theorem dX8_diver_94 : decode cX8_diver 94 = .ok (.aload_n 0, 1) := by decide +kernel
theorem dX8_diver_95 : decode cX8_diver 95 = .ok (.getfield 7, 3) := by decide +kernel
theorem dX8_diver_98 : decode cX8_diver 98 = .ok (.bipush 48, 2) := by decide +kernel
theorem dX8_diver_100 : decode cX8_diver 100 = .ok (.iaload, 1) := by decide +kernel
theorem dX8_diver_101 : decode cX8_diver 101 = .ok (.invokevirtual 170, 3) := by decide +kernel
theorem dX8_diver_104 : decode cX8_diver 104 = .ok (.ireturn, 1) := by decide +kernel
theorem dX8_thumb_0 : decode cX8_thumb 0 = .ok (.iload_n 1, 1) := by decide +kernel
theorem dX8_thumb_1 : decode cX8_thumb 1 = .ok (.invokestatic 174, 3) := by decide +kernel
theorem dX8_thumb_4 : decode cX8_thumb 4 = .ok (.ifCond .ne 5, 3) := by decide +kernel
theorem dX8_thumb_7 : decode cX8_thumb 7 = .ok (.iconst (-1), 1) := by decide +kernel
theorem dX8_thumb_8 : decode cX8_thumb 8 = .ok (.ireturn, 1) := by decide +kernel
theorem dX8_thumb_9 : decode cX8_thumb 9 = .ok (.aload_n 0, 1) := by decide +kernel
theorem dX8_thumb_10 : decode cX8_thumb 10 = .ok (.getfield 7, 3) := by decide +kernel
theorem dX8_thumb_13 : decode cX8_thumb 13 = .ok (.bipush 48, 2) := by decide +kernel
theorem dX8_thumb_15 : decode cX8_thumb 15 = .ok (.iaload, 1) := by decide +kernel
theorem dX8_thumb_16 : decode cX8_thumb 16 = .ok (.istore_n 2, 1) := by decide +kernel
theorem dX8_thumb_17 : decode cX8_thumb 17 = .ok (.aload_n 0, 1) := by decide +kernel
theorem dX8_thumb_18 : decode cX8_thumb 18 = .ok (.getfield 7, 3) := by decide +kernel
theorem dX8_thumb_21 : decode cX8_thumb 21 = .ok (.bipush 48, 2) := by decide +kernel
theorem dX8_thumb_23 : decode cX8_thumb 23 = .ok (.iload_n 1, 1) := by decide +kernel
theorem dX8_thumb_24 : decode cX8_thumb 24 = .ok (.iastore, 1) := by decide +kernel
theorem dX8_thumb_25 : decode cX8_thumb 25 = .ok (.iload_n 2, 1) := by decide +kernel
theorem dX8_thumb_26 : decode cX8_thumb 26 = .ok (.ireturn, 1) := by decide +kernel
theorem dX8_warm_0 : decode cX8_warm 0 = .ok (.iload_n 1, 1) := by decide +kernel
theorem dX8_warm_1 : decode cX8_warm 1 = .ok (.i2l, 1) := by decide +kernel
theorem dX8_warm_2 : decode cX8_warm 2 = .ok (.ldc2_w 177, 3) := by decide +kernel
theorem dX8_warm_5 : decode cX8_warm 5 = .ok (.ldc2_w 179, 3) := by decide +kernel
theorem dX8_warm_8 : decode cX8_warm 8 = .ok (.invokestatic 72, 3) := by decide +kernel
theorem dX8_warm_11 : decode cX8_warm 11 = .ok (.ifCond .ne 5, 3) := by decide +kernel
theorem dX8_warm_14 : decode cX8_warm 14 = .ok (.iconst (-1), 1) := by decide +kernel
theorem dX8_warm_15 : decode cX8_warm 15 = .ok (.ireturn, 1) := by decide +kernel
theorem dX8_warm_16 : decode cX8_warm 16 = .ok (.aload_n 0, 1) := by decide +kernel
theorem dX8_warm_17 : decode cX8_warm 17 = .ok (.getfield 7, 3) := by decide +kernel
theorem dX8_warm_20 : decode cX8_warm 20 = .ok (.bipush 49, 2) := by decide +kernel
theorem dX8_warm_22 : decode cX8_warm 22 = .ok (.iaload, 1) := by decide +kernel
theorem dX8_warm_23 : decode cX8_warm 23 = .ok (.istore_n 2, 1) := by decide +kernel
theorem dX8_warm_24 : decode cX8_warm 24 = .ok (.aload_n 0, 1) := by decide +kernel
theorem dX8_warm_25 : decode cX8_warm 25 = .ok (.getfield 7, 3) := by decide +kernel
theorem dX8_warm_28 : decode cX8_warm 28 = .ok (.bipush 49, 2) := by decide +kernel
theorem dX8_warm_30 : decode cX8_warm 30 = .ok (.iload_n 1, 1) := by decide +kernel
theorem dX8_warm_31 : decode cX8_warm 31 = .ok (.iastore, 1) := by decide +kernel
theorem dX8_warm_32 : decode cX8_warm 32 = .ok (.iload_n 2, 1) := by decide +kernel
theorem dX8_warm_33 : decode cX8_warm 33 = .ok (.ireturn, 1) := by decide +kernel
theorem dX8_floor_0 : decode cX8_floor 0 = .ok (.bipush 64, 2) := by decide +kernel
theorem dX8_floor_2 : decode cX8_floor 2 = .ok (.aload_n 0, 1) := by decide +kernel
theorem dX8_floor_3 : decode cX8_floor 3 = .ok (.getfield 17, 3) := by decide +kernel
theorem dX8_floor_6 : decode cX8_floor 6 = .ok (.iconst 0, 1) := by decide +kernel
theorem dX8_floor_7 : decode cX8_floor 7 = .ok (.iaload, 1) := by decide +kernel
theorem dX8_floor_8 : decode cX8_floor 8 = .ok (.imul, 1) := by decide +kernel
theorem dX8_floor_9 : decode cX8_floor 9 = .ok (.ireturn, 1) := by decide +kernel
theorem dX8_moves_0 : decode cX8_moves 0 = .ok (.aload_n 0, 1) := by decide +kernel
theorem dX8_moves_1 : decode cX8_moves 1 = .ok (.dup, 1) := by decide +kernel
theorem dX8_moves_2 : decode cX8_moves 2 = .ok (.getfield 181, 3) := by decide +kernel
theorem dX8_moves_5 : decode cX8_moves 5 = .ok (.aload_n 0, 1) := by decide +kernel
theorem dX8_moves_6 : decode cX8_moves 6 = .ok (.iload_n 1, 1) := by decide +kernel
theorem dX8_moves_7 : decode cX8_moves 7 = .ok (.iload_n 2, 1) := by decide +kernel
theorem dX8_moves_8 : decode cX8_moves 8 = .ok (.aload_n 0, 1) := by decide +kernel
theorem dX8_moves_9 : decode cX8_moves 9 = .ok (.getfield 7, 3) := by decide +kernel
theorem dX8_moves_12 : decode cX8_moves 12 = .ok (.bipush 49, 2) := by decide +kernel
theorem dX8_moves_14 : decode cX8_moves 14 = .ok (.iaload, 1) := by decide +kernel
theorem dX8_moves_15 : decode cX8_moves 15 = .ok (.iload_n 3, 1) := by decide +kernel
theorem dX8_moves_16 : decode cX8_moves 16 = .ok (.aload_n 0, 1) := by decide +kernel
theorem dX8_moves_17 : decode cX8_moves 17 = .ok (.getfield 184, 3) := by decide +kernel
theorem dX8_moves_20 : decode cX8_moves 20 = .ok (.bipush 64, 2) := by decide +kernel
theorem dX8_moves_22 : decode cX8_moves 22 = .ok (.idiv, 1) := by decide +kernel
theorem dX8_moves_23 : decode cX8_moves 23 = .ok (.invokevirtual 159, 3) := by decide +kernel
theorem dX8_moves_26 : decode cX8_moves 26 = .ok (.iadd, 1) := by decide +kernel
theorem dX8_moves_27 : decode cX8_moves 27 = .ok (.putfield 181, 3) := by decide +kernel
theorem dX8_moves_30 : decode cX8_moves 30 = .ok (.aload_n 0, 1) := by decide +kernel
theorem dX8_moves_31 : decode cX8_moves 31 = .ok (.dup, 1) := by decide +kernel
theorem dX8_moves_32 : decode cX8_moves 32 = .ok (.getfield 181, 3) := by decide +kernel
theorem dX8_moves_35 : decode cX8_moves 35 = .ok (.aload_n 0, 1) := by decide +kernel
theorem dX8_moves_36 : decode cX8_moves 36 = .ok (.getfield 181, 3) := by decide +kernel
theorem dX8_moves_39 : decode cX8_moves 39 = .ok (.aload_n 0, 1) := by decide +kernel
theorem dX8_moves_40 : decode cX8_moves 40 = .ok (.getfield 17, 3) := by decide +kernel
theorem dX8_moves_43 : decode cX8_moves 43 = .ok (.iconst 3, 1) := by decide +kernel
theorem dX8_moves_44 : decode cX8_moves 44 = .ok (.iaload, 1) := by decide +kernel
theorem dX8_moves_45 : decode cX8_moves 45 = .ok (.idiv, 1) := by decide +kernel
theorem dX8_moves_46 : decode cX8_moves 46 = .ok (.isub, 1) := by decide +kernel
theorem dX8_moves_47 : decode cX8_moves 47 = .ok (.putfield 181, 3) := by decide +kernel
theorem dX8_moves_50 : decode cX8_moves 50 = .ok (.aload_n 0, 1) := by decide +kernel
theorem dX8_moves_51 : decode cX8_moves 51 = .ok (.dup, 1) := by decide +kernel
theorem dX8_moves_52 : decode cX8_moves 52 = .ok (.getfield 184, 3) := by decide +kernel
theorem dX8_moves_55 : decode cX8_moves 55 = .ok (.aload_n 0, 1) := by decide +kernel
theorem dX8_moves_56 : decode cX8_moves 56 = .ok (.getfield 181, 3) := by decide +kernel
theorem dX8_moves_59 : decode cX8_moves 59 = .ok (.iadd, 1) := by decide +kernel
theorem dX8_moves_60 : decode cX8_moves 60 = .ok (.putfield 184, 3) := by decide +kernel
theorem dX8_moves_63 : decode cX8_moves 63 = .ok (.aload_n 0, 1) := by decide +kernel
theorem dX8_moves_64 : decode cX8_moves 64 = .ok (.getfield 184, 3) := by decide +kernel
theorem dX8_moves_67 : decode cX8_moves 67 = .ok (.ifCond .gt 20, 3) := by decide +kernel
theorem dX8_moves_70 : decode cX8_moves 70 = .ok (.aload_n 0, 1) := by decide +kernel
theorem dX8_moves_71 : decode cX8_moves 71 = .ok (.getfield 181, 3) := by decide +kernel
theorem dX8_moves_74 : decode cX8_moves 74 = .ok (.ifCond .ge 13, 3) := by decide +kernel
theorem dX8_moves_77 : decode cX8_moves 77 = .ok (.aload_n 0, 1) := by decide +kernel
theorem dX8_moves_78 : decode cX8_moves 78 = .ok (.iconst 0, 1) := by decide +kernel
theorem dX8_moves_79 : decode cX8_moves 79 = .ok (.putfield 184, 3) := by decide +kernel
theorem dX8_moves_82 : decode cX8_moves 82 = .ok (.aload_n 0, 1) := by decide +kernel
theorem dX8_moves_83 : decode cX8_moves 83 = .ok (.iconst 0, 1) := by decide +kernel
theorem dX8_moves_84 : decode cX8_moves 84 = .ok (.putfield 181, 3) := by decide +kernel
theorem dX8_moves_87 : decode cX8_moves 87 = .ok (.aload_n 0, 1) := by decide +kernel
theorem dX8_moves_88 : decode cX8_moves 88 = .ok (.getfield 184, 3) := by decide +kernel
theorem dX8_moves_91 : decode cX8_moves 91 = .ok (.aload_n 0, 1) := by decide +kernel
theorem dX8_moves_92 : decode cX8_moves 92 = .ok (.invokevirtual 187, 3) := by decide +kernel
theorem dX8_moves_95 : decode cX8_moves 95 = .ok (.if_icmp .lt 23, 3) := by decide +kernel
theorem dX8_moves_98 : decode cX8_moves 98 = .ok (.aload_n 0, 1) := by decide +kernel
theorem dX8_moves_99 : decode cX8_moves 99 = .ok (.getfield 181, 3) := by decide +kernel
theorem dX8_moves_102 : decode cX8_moves 102 = .ok (.ifCond .le 16, 3) := by decide +kernel
theorem dX8_moves_105 : decode cX8_moves 105 = .ok (.aload_n 0, 1) := by decide +kernel
theorem dX8_moves_106 : decode cX8_moves 106 = .ok (.aload_n 0, 1) := by decide +kernel
theorem dX8_moves_107 : decode cX8_moves 107 = .ok (.invokevirtual 187, 3) := by decide +kernel
theorem dX8_moves_110 : decode cX8_moves 110 = .ok (.putfield 184, 3) := by decide +kernel
theorem dX8_moves_113 : decode cX8_moves 113 = .ok (.aload_n 0, 1) := by decide +kernel
theorem dX8_moves_114 : decode cX8_moves 114 = .ok (.iconst 0, 1) := by decide +kernel
theorem dX8_moves_115 : decode cX8_moves 115 = .ok (.putfield 181, 3) := by decide +kernel
theorem dX8_moves_118 : decode cX8_moves 118 = .ok (.return_, 1) := by decide +kernel
theorem dX8_tickOf_0 : decode cX8_tickOf 0 = .ok (.bipush 8, 2) := by decide +kernel
theorem dX8_tickOf_2 : decode cX8_tickOf 2 = .ok (.iload_n 1, 1) := by decide +kernel
theorem dX8_tickOf_3 : decode cX8_tickOf 3 = .ok (.imul, 1) := by decide +kernel
theorem dX8_tickOf_4 : decode cX8_tickOf 4 = .ok (.istore_n 2, 1) := by decide +kernel
theorem dX8_tickOf_5 : decode cX8_tickOf 5 = .ok (.aload_n 0, 1) := by decide +kernel
theorem dX8_tickOf_6 : decode cX8_tickOf 6 = .ok (.getfield 7, 3) := by decide +kernel
theorem dX8_tickOf_9 : decode cX8_tickOf 9 = .ok (.iload_n 2, 1) := by decide +kernel
theorem dX8_tickOf_10 : decode cX8_tickOf 10 = .ok (.bipush 6, 2) := by decide +kernel
theorem dX8_tickOf_12 : decode cX8_tickOf 12 = .ok (.iadd, 1) := by decide +kernel
theorem dX8_tickOf_13 : decode cX8_tickOf 13 = .ok (.iaload, 1) := by decide +kernel
theorem dX8_tickOf_14 : decode cX8_tickOf 14 = .ok (.istore_n 3, 1) := by decide +kernel
theorem dX8_tickOf_15 : decode cX8_tickOf 15 = .ok (.aload_n 0, 1) := by decide +kernel
theorem dX8_tickOf_16 : decode cX8_tickOf 16 = .ok (.iload_n 3, 1) := by decide +kernel
theorem dX8_tickOf_17 : decode cX8_tickOf 17 = .ok (.putfield 184, 3) := by decide +kernel
theorem dX8_tickOf_20 : decode cX8_tickOf 20 = .ok (.aload_n 0, 1) := by decide +kernel
theorem dX8_tickOf_21 : decode cX8_tickOf 21 = .ok (.aload_n 0, 1) := by decide +kernel
theorem dX8_tickOf_22 : decode cX8_tickOf 22 = .ok (.getfield 7, 3) := by decide +kernel
theorem dX8_tickOf_25 : decode cX8_tickOf 25 = .ok (.iload_n 2, 1) := by decide +kernel
theorem dX8_tickOf_26 : decode cX8_tickOf 26 = .ok (.bipush 7, 2) := by decide +kernel
theorem dX8_tickOf_28 : decode cX8_tickOf 28 = .ok (.iadd, 1) := by decide +kernel
theorem dX8_tickOf_29 : decode cX8_tickOf 29 = .ok (.iaload, 1) := by decide +kernel
theorem dX8_tickOf_30 : decode cX8_tickOf 30 = .ok (.putfield 181, 3) := by decide +kernel
theorem dX8_tickOf_33 : decode cX8_tickOf 33 = .ok (.aload_n 0, 1) := by decide +kernel
theorem dX8_tickOf_34 : decode cX8_tickOf 34 = .ok (.aload_n 0, 1) := by decide +kernel
theorem dX8_tickOf_35 : decode cX8_tickOf 35 = .ok (.iload_n 1, 1) := by decide +kernel
theorem dX8_tickOf_36 : decode cX8_tickOf 36 = .ok (.invokevirtual 156, 3) := by decide +kernel
theorem dX8_tickOf_39 : decode cX8_tickOf 39 = .ok (.aload_n 0, 1) := by decide +kernel
theorem dX8_tickOf_40 : decode cX8_tickOf 40 = .ok (.iload_n 1, 1) := by decide +kernel
theorem dX8_tickOf_41 : decode cX8_tickOf 41 = .ok (.iconst 1, 1) := by decide +kernel
theorem dX8_tickOf_42 : decode cX8_tickOf 42 = .ok (.invokevirtual 153, 3) := by decide +kernel
theorem dX8_tickOf_45 : decode cX8_tickOf 45 = .ok (.aload_n 0, 1) := by decide +kernel
theorem dX8_tickOf_46 : decode cX8_tickOf 46 = .ok (.getfield 7, 3) := by decide +kernel
theorem dX8_tickOf_49 : decode cX8_tickOf 49 = .ok (.bipush 48, 2) := by decide +kernel
theorem dX8_tickOf_51 : decode cX8_tickOf 51 = .ok (.iaload, 1) := by decide +kernel
theorem dX8_tickOf_52 : decode cX8_tickOf 52 = .ok (.invokevirtual 190, 3) := by decide +kernel
theorem dX8_tickOf_55 : decode cX8_tickOf 55 = .ok (.aload_n 0, 1) := by decide +kernel
theorem dX8_tickOf_56 : decode cX8_tickOf 56 = .ok (.getfield 7, 3) := by decide +kernel
theorem dX8_tickOf_59 : decode cX8_tickOf 59 = .ok (.iload_n 2, 1) := by decide +kernel
theorem dX8_tickOf_60 : decode cX8_tickOf 60 = .ok (.bipush 6, 2) := by decide +kernel
theorem dX8_tickOf_62 : decode cX8_tickOf 62 = .ok (.iadd, 1) := by decide +kernel
theorem dX8_tickOf_63 : decode cX8_tickOf 63 = .ok (.aload_n 0, 1) := by decide +kernel
theorem dX8_tickOf_64 : decode cX8_tickOf 64 = .ok (.getfield 184, 3) := by decide +kernel
theorem dX8_tickOf_67 : decode cX8_tickOf 67 = .ok (.iastore, 1) := by decide +kernel
theorem dX8_tickOf_68 : decode cX8_tickOf 68 = .ok (.aload_n 0, 1) := by decide +kernel
theorem dX8_tickOf_69 : decode cX8_tickOf 69 = .ok (.getfield 7, 3) := by decide +kernel
theorem dX8_tickOf_72 : decode cX8_tickOf 72 = .ok (.iload_n 2, 1) := by decide +kernel
theorem dX8_tickOf_73 : decode cX8_tickOf 73 = .ok (.bipush 7, 2) := by decide +kernel
theorem dX8_tickOf_75 : decode cX8_tickOf 75 = .ok (.iadd, 1) := by decide +kernel
theorem dX8_tickOf_76 : decode cX8_tickOf 76 = .ok (.aload_n 0, 1) := by decide +kernel
theorem dX8_tickOf_77 : decode cX8_tickOf 77 = .ok (.getfield 181, 3) := by decide +kernel
theorem dX8_tickOf_80 : decode cX8_tickOf 80 = .ok (.iastore, 1) := by decide +kernel
theorem dX8_tickOf_81 : decode cX8_tickOf 81 = .ok (.aload_n 0, 1) := by decide +kernel
theorem dX8_tickOf_82 : decode cX8_tickOf 82 = .ok (.getfield 184, 3) := by decide +kernel
theorem dX8_tickOf_85 : decode cX8_tickOf 85 = .ok (.aload_n 0, 1) := by decide +kernel
theorem dX8_tickOf_86 : decode cX8_tickOf 86 = .ok (.invokevirtual 187, 3) := by decide +kernel
theorem dX8_tickOf_89 : decode cX8_tickOf 89 = .ok (.if_icmp .ne 89, 3) := by decide +kernel
theorem dX8_tickOf_92 : decode cX8_tickOf 92 = .ok (.iload_n 3, 1) := by decide +kernel
theorem dX8_tickOf_93 : decode cX8_tickOf 93 = .ok (.aload_n 0, 1) := by decide +kernel
theorem dX8_tickOf_94 : decode cX8_tickOf 94 = .ok (.getfield 184, 3) := by decide +kernel
theorem dX8_tickOf_97 : decode cX8_tickOf 97 = .ok (.if_icmp .eq 81, 3) := by decide +kernel
theorem dX8_tickOf_100 : decode cX8_tickOf 100 = .ok (.aload_n 0, 1) := by decide +kernel
theorem dX8_tickOf_101 : decode cX8_tickOf 101 = .ok (.iload_n 1, 1) := by decide +kernel
theorem dX8_tickOf_102 : decode cX8_tickOf 102 = .ok (.iconst 1, 1) := by decide +kernel
theorem dX8_tickOf_103 : decode cX8_tickOf 103 = .ok (.invokevirtual 153, 3) := by decide +kernel
theorem dX8_tickOf_106 : decode cX8_tickOf 106 = .ok (.aload_n 0, 1) := by decide +kernel
theorem dX8_tickOf_107 : decode cX8_tickOf 107 = .ok (.iload_n 1, 1) := by decide +kernel
theorem dX8_tickOf_108 : decode cX8_tickOf 108 = .ok (.iconst 2, 1) := by decide +kernel
theorem dX8_tickOf_109 : decode cX8_tickOf 109 = .ok (.invokevirtual 153, 3) := by decide +kernel
theorem dX8_tickOf_112 : decode cX8_tickOf 112 = .ok (.isub, 1) := by decide +kernel
theorem dX8_tickOf_113 : decode cX8_tickOf 113 = .ok (.istore 4, 2) := by decide +kernel
theorem dX8_tickOf_115 : decode cX8_tickOf 115 = .ok (.aload_n 0, 1) := by decide +kernel
theorem dX8_tickOf_116 : decode cX8_tickOf 116 = .ok (.getfield 7, 3) := by decide +kernel
theorem dX8_tickOf_119 : decode cX8_tickOf 119 = .ok (.iload_n 2, 1) := by decide +kernel
theorem dX8_tickOf_120 : decode cX8_tickOf 120 = .ok (.iconst 1, 1) := by decide +kernel
theorem dX8_tickOf_121 : decode cX8_tickOf 121 = .ok (.iadd, 1) := by decide +kernel
theorem dX8_tickOf_122 : decode cX8_tickOf 122 = .ok (.iload 4, 2) := by decide +kernel
theorem dX8_tickOf_124 : decode cX8_tickOf 124 = .ok (.ifCond .ge 7, 3) := by decide +kernel
theorem dX8_tickOf_127 : decode cX8_tickOf 127 = .ok (.iconst 0, 1) := by decide +kernel
theorem dX8_tickOf_128 : decode cX8_tickOf 128 = .ok (.goto 5, 3) := by decide +kernel
theorem dX8_tickOf_131 : decode cX8_tickOf 131 = .ok (.iload 4, 2) := by decide +kernel
theorem dX8_tickOf_133 : decode cX8_tickOf 133 = .ok (.iastore, 1) := by decide +kernel
theorem dX8_tickOf_134 : decode cX8_tickOf 134 = .ok (.aload_n 0, 1) := by decide +kernel
theorem dX8_tickOf_135 : decode cX8_tickOf 135 = .ok (.iload_n 1, 1) := by decide +kernel
theorem dX8_tickOf_136 : decode cX8_tickOf 136 = .ok (.iconst 4, 1) := by decide +kernel
theorem dX8_tickOf_137 : decode cX8_tickOf 137 = .ok (.invokevirtual 153, 3) := by decide +kernel
theorem dX8_tickOf_140 : decode cX8_tickOf 140 = .ok (.iconst 1, 1) := by decide +kernel
theorem dX8_tickOf_141 : decode cX8_tickOf 141 = .ok (.if_icmp .ne 37, 3) := by decide +kernel
theorem dX8_tickOf_144 : decode cX8_tickOf 144 = .ok (.aload_n 0, 1) := by decide +kernel
theorem dX8_tickOf_145 : decode cX8_tickOf 145 = .ok (.getfield 7, 3) := by decide +kernel
theorem dX8_tickOf_148 : decode cX8_tickOf 148 = .ok (.bipush 51, 2) := by decide +kernel
theorem dX8_tickOf_150 : decode cX8_tickOf 150 = .ok (.iaload, 1) := by decide +kernel
theorem dX8_tickOf_151 : decode cX8_tickOf 151 = .ok (.iconst 1, 1) := by decide +kernel
theorem dX8_tickOf_152 : decode cX8_tickOf 152 = .ok (.if_icmp .ne 26, 3) := by decide +kernel
theorem dX8_tickOf_155 : decode cX8_tickOf 155 = .ok (.aload_n 0, 1) := by decide +kernel
theorem dX8_tickOf_156 : decode cX8_tickOf 156 = .ok (.getfield 7, 3) := by decide +kernel
theorem dX8_tickOf_159 : decode cX8_tickOf 159 = .ok (.iload_n 2, 1) := by decide +kernel
theorem dX8_tickOf_160 : decode cX8_tickOf 160 = .ok (.iconst 5, 1) := by decide +kernel
theorem dX8_tickOf_161 : decode cX8_tickOf 161 = .ok (.iadd, 1) := by decide +kernel
theorem dX8_tickOf_162 : decode cX8_tickOf 162 = .ok (.aload_n 0, 1) := by decide +kernel
theorem dX8_tickOf_163 : decode cX8_tickOf 163 = .ok (.getfield 17, 3) := by decide +kernel
theorem dX8_tickOf_166 : decode cX8_tickOf 166 = .ok (.bipush 6, 2) := by decide +kernel
theorem dX8_tickOf_168 : decode cX8_tickOf 168 = .ok (.iaload, 1) := by decide +kernel
theorem dX8_tickOf_169 : decode cX8_tickOf 169 = .ok (.iastore, 1) := by decide +kernel
theorem dX8_tickOf_170 : decode cX8_tickOf 170 = .ok (.aload_n 0, 1) := by decide +kernel
theorem dX8_tickOf_171 : decode cX8_tickOf 171 = .ok (.getfield 7, 3) := by decide +kernel
theorem dX8_tickOf_174 : decode cX8_tickOf 174 = .ok (.bipush 51, 2) := by decide +kernel
theorem dX8_tickOf_176 : decode cX8_tickOf 176 = .ok (.iconst 0, 1) := by decide +kernel
theorem dX8_tickOf_177 : decode cX8_tickOf 177 = .ok (.iastore, 1) := by decide +kernel
theorem dX8_tickOf_178 : decode cX8_tickOf 178 = .ok (.aload_n 0, 1) := by decide +kernel
theorem dX8_tickOf_179 : decode cX8_tickOf 179 = .ok (.getfield 184, 3) := by decide +kernel
theorem dX8_tickOf_182 : decode cX8_tickOf 182 = .ok (.ifCond .ne 36, 3) := by decide +kernel
theorem dX8_tickOf_185 : decode cX8_tickOf 185 = .ok (.iload_n 3, 1) := by decide +kernel
theorem dX8_tickOf_186 : decode cX8_tickOf 186 = .ok (.ifCond .eq 32, 3) := by decide +kernel
theorem dX8_tickOf_189 : decode cX8_tickOf 189 = .ok (.aload_n 0, 1) := by decide +kernel
theorem dX8_tickOf_190 : decode cX8_tickOf 190 = .ok (.iload_n 1, 1) := by decide +kernel
theorem dX8_tickOf_191 : decode cX8_tickOf 191 = .ok (.iconst 5, 1) := by decide +kernel
theorem dX8_tickOf_192 : decode cX8_tickOf 192 = .ok (.invokevirtual 153, 3) := by decide +kernel
theorem dX8_tickOf_195 : decode cX8_tickOf 195 = .ok (.ifCond .le 23, 3) := by decide +kernel
theorem dX8_tickOf_198 : decode cX8_tickOf 198 = .ok (.aload_n 0, 1) := by decide +kernel
theorem dX8_tickOf_199 : decode cX8_tickOf 199 = .ok (.getfield 7, 3) := by decide +kernel
theorem dX8_tickOf_202 : decode cX8_tickOf 202 = .ok (.iload_n 2, 1) := by decide +kernel
theorem dX8_tickOf_203 : decode cX8_tickOf 203 = .ok (.iconst 5, 1) := by decide +kernel
theorem dX8_tickOf_204 : decode cX8_tickOf 204 = .ok (.iadd, 1) := by decide +kernel
theorem dX8_tickOf_205 : decode cX8_tickOf 205 = .ok (.iconst 0, 1) := by decide +kernel
theorem dX8_tickOf_206 : decode cX8_tickOf 206 = .ok (.iastore, 1) := by decide +kernel
theorem dX8_tickOf_207 : decode cX8_tickOf 207 = .ok (.aload_n 0, 1) := by decide +kernel
theorem dX8_tickOf_208 : decode cX8_tickOf 208 = .ok (.getfield 7, 3) := by decide +kernel
theorem dX8_tickOf_211 : decode cX8_tickOf 211 = .ok (.bipush 52, 2) := by decide +kernel
theorem dX8_tickOf_213 : decode cX8_tickOf 213 = .ok (.dup2, 1) := by decide +kernel
theorem dX8_tickOf_214 : decode cX8_tickOf 214 = .ok (.iaload, 1) := by decide +kernel
theorem dX8_tickOf_215 : decode cX8_tickOf 215 = .ok (.iconst 1, 1) := by decide +kernel
theorem dX8_tickOf_216 : decode cX8_tickOf 216 = .ok (.iadd, 1) := by decide +kernel
theorem dX8_tickOf_217 : decode cX8_tickOf 217 = .ok (.iastore, 1) := by decide +kernel
theorem dX8_tickOf_218 : decode cX8_tickOf 218 = .ok (.return_, 1) := by decide +kernel
theorem dX8_those_0 : decode cX8_those 0 = .ok (.iconst 0, 1) := by decide +kernel
theorem dX8_those_1 : decode cX8_those 1 = .ok (.istore_n 2, 1) := by decide +kernel
theorem dX8_those_2 : decode cX8_those 2 = .ok (.iconst 0, 1) := by decide +kernel
theorem dX8_those_3 : decode cX8_those 3 = .ok (.istore_n 3, 1) := by decide +kernel
theorem dX8_those_4 : decode cX8_those 4 = .ok (.iload_n 3, 1) := by decide +kernel
theorem dX8_those_5 : decode cX8_those 5 = .ok (.aload_n 0, 1) := by decide +kernel
theorem dX8_those_6 : decode cX8_those 6 = .ok (.getfield 7, 3) := by decide +kernel
theorem dX8_those_9 : decode cX8_those 9 = .ok (.bipush 53, 2) := by decide +kernel
theorem dX8_those_11 : decode cX8_those 11 = .ok (.iaload, 1) := by decide +kernel
theorem dX8_those_12 : decode cX8_those 12 = .ok (.if_icmp .ge 30, 3) := by decide +kernel
theorem dX8_those_15 : decode cX8_those 15 = .ok (.iload_n 2, 1) := by decide +kernel
theorem dX8_those_16 : decode cX8_those 16 = .ok (.aload_n 0, 1) := by decide +kernel
theorem dX8_those_17 : decode cX8_those 17 = .ok (.iload_n 3, 1) := by decide +kernel
theorem dX8_those_18 : decode cX8_those 18 = .ok (.bipush 6, 2) := by decide +kernel
theorem dX8_those_20 : decode cX8_those 20 = .ok (.invokevirtual 153, 3) := by decide +kernel
theorem dX8_those_23 : decode cX8_those 23 = .ok (.iload_n 1, 1) := by decide +kernel
theorem dX8_those_24 : decode cX8_those 24 = .ok (.if_icmp .ne 9, 3) := by decide +kernel
theorem dX8_those_27 : decode cX8_those 27 = .ok (.iconst 1, 1) := by decide +kernel
theorem dX8_those_28 : decode cX8_those 28 = .ok (.iload_n 3, 1) := by decide +kernel
theorem dX8_those_29 : decode cX8_those 29 = .ok (.ishl, 1) := by decide +kernel
theorem dX8_those_30 : decode cX8_those 30 = .ok (.goto 4, 3) := by decide +kernel
theorem dX8_those_33 : decode cX8_those 33 = .ok (.iconst 0, 1) := by decide +kernel
theorem dX8_those_34 : decode cX8_those 34 = .ok (.ior, 1) := by decide +kernel
theorem dX8_those_35 : decode cX8_those 35 = .ok (.istore_n 2, 1) := by decide +kernel
theorem dX8_those_36 : decode cX8_those 36 = .ok (.iinc 3 1, 3) := by decide +kernel
theorem dX8_those_39 : decode cX8_those 39 = .ok (.goto (-35), 3) := by decide +kernel
theorem dX8_those_42 : decode cX8_those 42 = .ok (.iload_n 2, 1) := by decide +kernel
theorem dX8_those_43 : decode cX8_those 43 = .ok (.ireturn, 1) := by decide +kernel
theorem dX8_go_0 : decode cX8_go 0 = .ok (.iload_n 1, 1) := by decide +kernel
theorem dX8_go_1 : decode cX8_go 1 = .ok (.i2l, 1) := by decide +kernel
theorem dX8_go_2 : decode cX8_go 2 = .ok (.lconst 1, 1) := by decide +kernel
theorem dX8_go_3 : decode cX8_go 3 = .ok (.ldc2_w 194, 3) := by decide +kernel
theorem dX8_go_6 : decode cX8_go 6 = .ok (.invokestatic 72, 3) := by decide +kernel
theorem dX8_go_9 : decode cX8_go 9 = .ok (.ifCond .ne 5, 3) := by decide +kernel
theorem dX8_go_12 : decode cX8_go 12 = .ok (.iconst (-1), 1) := by decide +kernel
theorem dX8_go_13 : decode cX8_go 13 = .ok (.ireturn, 1) := by decide +kernel
theorem dX8_go_14 : decode cX8_go 14 = .ok (.iconst 0, 1) := by decide +kernel
theorem dX8_go_15 : decode cX8_go 15 = .ok (.istore_n 2, 1) := by decide +kernel
theorem dX8_go_16 : decode cX8_go 16 = .ok (.iload_n 2, 1) := by decide +kernel
theorem dX8_go_17 : decode cX8_go 17 = .ok (.iload_n 1, 1) := by decide +kernel
theorem dX8_go_18 : decode cX8_go 18 = .ok (.if_icmp .ge 44, 3) := by decide +kernel
theorem dX8_go_21 : decode cX8_go 21 = .ok (.iconst 0, 1) := by decide +kernel
theorem dX8_go_22 : decode cX8_go 22 = .ok (.istore_n 3, 1) := by decide +kernel
theorem dX8_go_23 : decode cX8_go 23 = .ok (.iload_n 3, 1) := by decide +kernel
theorem dX8_go_24 : decode cX8_go 24 = .ok (.aload_n 0, 1) := by decide +kernel
theorem dX8_go_25 : decode cX8_go 25 = .ok (.getfield 7, 3) := by decide +kernel
theorem dX8_go_28 : decode cX8_go 28 = .ok (.bipush 53, 2) := by decide +kernel
theorem dX8_go_30 : decode cX8_go 30 = .ok (.iaload, 1) := by decide +kernel
theorem dX8_go_31 : decode cX8_go 31 = .ok (.if_icmp .ge 14, 3) := by decide +kernel
theorem dX8_go_34 : decode cX8_go 34 = .ok (.aload_n 0, 1) := by decide +kernel
theorem dX8_go_35 : decode cX8_go 35 = .ok (.iload_n 3, 1) := by decide +kernel
theorem dX8_go_36 : decode cX8_go 36 = .ok (.invokevirtual 196, 3) := by decide +kernel
theorem dX8_go_39 : decode cX8_go 39 = .ok (.iinc 3 1, 3) := by decide +kernel
theorem dX8_go_42 : decode cX8_go 42 = .ok (.goto (-19), 3) := by decide +kernel
theorem dX8_go_45 : decode cX8_go 45 = .ok (.aload_n 0, 1) := by decide +kernel
theorem dX8_go_46 : decode cX8_go 46 = .ok (.getfield 7, 3) := by decide +kernel
theorem dX8_go_49 : decode cX8_go 49 = .ok (.bipush 50, 2) := by decide +kernel
theorem dX8_go_51 : decode cX8_go 51 = .ok (.dup2, 1) := by decide +kernel
theorem dX8_go_52 : decode cX8_go 52 = .ok (.iaload, 1) := by decide +kernel
theorem dX8_go_53 : decode cX8_go 53 = .ok (.iconst 1, 1) := by decide +kernel
theorem dX8_go_54 : decode cX8_go 54 = .ok (.iadd, 1) := by decide +kernel
theorem dX8_go_55 : decode cX8_go 55 = .ok (.iastore, 1) := by decide +kernel
theorem dX8_go_56 : decode cX8_go 56 = .ok (.iinc 2 1, 3) := by decide +kernel
theorem dX8_go_59 : decode cX8_go 59 = .ok (.goto (-43), 3) := by decide +kernel
theorem dX8_go_62 : decode cX8_go 62 = .ok (.aload_n 0, 1) := by decide +kernel
theorem dX8_go_63 : decode cX8_go 63 = .ok (.aload_n 0, 1) := by decide +kernel
theorem dX8_go_64 : decode cX8_go 64 = .ok (.invokevirtual 187, 3) := by decide +kernel
theorem dX8_go_67 : decode cX8_go 67 = .ok (.invokevirtual 199, 3) := by decide +kernel
theorem dX8_go_70 : decode cX8_go 70 = .ok (.ireturn, 1) := by decide +kernel
theorem dX8_set_0 : decode cX8_set 0 = .ok (.aload_n 0, 1) := by decide +kernel
theorem dX8_set_1 : decode cX8_set 1 = .ok (.iload_n 1, 1) := by decide +kernel
theorem dX8_set_2 : decode cX8_set 2 = .ok (.invokevirtual 163, 3) := by decide +kernel
theorem dX8_set_5 : decode cX8_set 5 = .ok (.ifCond .eq 11, 3) := by decide +kernel
theorem dX8_set_8 : decode cX8_set 8 = .ok (.aload_n 0, 1) := by decide +kernel
theorem dX8_set_9 : decode cX8_set 9 = .ok (.iload_n 2, 1) := by decide +kernel
theorem dX8_set_10 : decode cX8_set 10 = .ok (.invokevirtual 202, 3) := by decide +kernel
theorem dX8_set_13 : decode cX8_set 13 = .ok (.ifCond .ne 5, 3) := by decide +kernel
theorem dX8_set_16 : decode cX8_set 16 = .ok (.iconst (-1), 1) := by decide +kernel
theorem dX8_set_17 : decode cX8_set 17 = .ok (.ireturn, 1) := by decide +kernel
theorem dX8_set_18 : decode cX8_set 18 = .ok (.aload_n 0, 1) := by decide +kernel
theorem dX8_set_19 : decode cX8_set 19 = .ok (.iload_n 1, 1) := by decide +kernel
theorem dX8_set_20 : decode cX8_set 20 = .ok (.bipush 6, 2) := by decide +kernel
theorem dX8_set_22 : decode cX8_set 22 = .ok (.invokevirtual 153, 3) := by decide +kernel
theorem dX8_set_25 : decode cX8_set 25 = .ok (.bipush 64, 2) := by decide +kernel
theorem dX8_set_27 : decode cX8_set 27 = .ok (.idiv, 1) := by decide +kernel
theorem dX8_set_28 : decode cX8_set 28 = .ok (.istore_n 3, 1) := by decide +kernel
theorem dX8_set_29 : decode cX8_set 29 = .ok (.aload_n 0, 1) := by decide +kernel
theorem dX8_set_30 : decode cX8_set 30 = .ok (.getfield 7, 3) := by decide +kernel
theorem dX8_set_33 : decode cX8_set 33 = .ok (.bipush 8, 2) := by decide +kernel
theorem dX8_set_35 : decode cX8_set 35 = .ok (.iload_n 1, 1) := by decide +kernel
theorem dX8_set_36 : decode cX8_set 36 = .ok (.imul, 1) := by decide +kernel
theorem dX8_set_37 : decode cX8_set 37 = .ok (.bipush 6, 2) := by decide +kernel
theorem dX8_set_39 : decode cX8_set 39 = .ok (.iadd, 1) := by decide +kernel
theorem dX8_set_40 : decode cX8_set 40 = .ok (.bipush 64, 2) := by decide +kernel
theorem dX8_set_42 : decode cX8_set 42 = .ok (.iload_n 2, 1) := by decide +kernel
theorem dX8_set_43 : decode cX8_set 43 = .ok (.imul, 1) := by decide +kernel
theorem dX8_set_44 : decode cX8_set 44 = .ok (.iastore, 1) := by decide +kernel
theorem dX8_set_45 : decode cX8_set 45 = .ok (.aload_n 0, 1) := by decide +kernel
theorem dX8_set_46 : decode cX8_set 46 = .ok (.getfield 7, 3) := by decide +kernel
theorem dX8_set_49 : decode cX8_set 49 = .ok (.bipush 8, 2) := by decide +kernel
theorem dX8_set_51 : decode cX8_set 51 = .ok (.iload_n 1, 1) := by decide +kernel
theorem dX8_set_52 : decode cX8_set 52 = .ok (.imul, 1) := by decide +kernel
theorem dX8_set_53 : decode cX8_set 53 = .ok (.bipush 7, 2) := by decide +kernel
theorem dX8_set_55 : decode cX8_set 55 = .ok (.iadd, 1) := by decide +kernel
theorem dX8_set_56 : decode cX8_set 56 = .ok (.iconst 0, 1) := by decide +kernel
theorem dX8_set_57 : decode cX8_set 57 = .ok (.iastore, 1) := by decide +kernel
theorem dX8_set_58 : decode cX8_set 58 = .ok (.iload_n 3, 1) := by decide +kernel
theorem dX8_set_59 : decode cX8_set 59 = .ok (.ireturn, 1) := by decide +kernel
theorem dX8_now_0 : decode cX8_now 0 = .ok (.iload_n 1, 1) := by decide +kernel
theorem dX8_now_1 : decode cX8_now 1 = .ok (.tableswitch 86 0 5 #[39, 47, 55, 61, 70, 78], 39) := by decide +kernel
theorem dX8_now_40 : decode cX8_now 40 = .ok (.aload_n 0, 1) := by decide +kernel
theorem dX8_now_41 : decode cX8_now 41 = .ok (.getfield 7, 3) := by decide +kernel
theorem dX8_now_44 : decode cX8_now 44 = .ok (.bipush 50, 2) := by decide +kernel
theorem dX8_now_46 : decode cX8_now 46 = .ok (.iaload, 1) := by decide +kernel
theorem dX8_now_47 : decode cX8_now 47 = .ok (.ireturn, 1) := by decide +kernel
theorem dX8_now_48 : decode cX8_now 48 = .ok (.aload_n 0, 1) := by decide +kernel
theorem dX8_now_49 : decode cX8_now 49 = .ok (.getfield 7, 3) := by decide +kernel
theorem dX8_now_52 : decode cX8_now 52 = .ok (.bipush 48, 2) := by decide +kernel
theorem dX8_now_54 : decode cX8_now 54 = .ok (.iaload, 1) := by decide +kernel
theorem dX8_now_55 : decode cX8_now 55 = .ok (.ireturn, 1) := by decide +kernel
theorem dX8_now_56 : decode cX8_now 56 = .ok (.aload_n 0, 1) := by decide +kernel
theorem dX8_now_57 : decode cX8_now 57 = .ok (.iconst 0, 1) := by decide +kernel
theorem dX8_now_58 : decode cX8_now 58 = .ok (.invokevirtual 199, 3) := by decide +kernel
theorem dX8_now_61 : decode cX8_now 61 = .ok (.ireturn, 1) := by decide +kernel
theorem dX8_now_62 : decode cX8_now 62 = .ok (.aload_n 0, 1) := by decide +kernel
theorem dX8_now_63 : decode cX8_now 63 = .ok (.aload_n 0, 1) := by decide +kernel
theorem dX8_now_64 : decode cX8_now 64 = .ok (.invokevirtual 187, 3) := by decide +kernel
theorem dX8_now_67 : decode cX8_now 67 = .ok (.invokevirtual 199, 3) := by decide +kernel
theorem dX8_now_70 : decode cX8_now 70 = .ok (.ireturn, 1) := by decide +kernel
theorem dX8_now_71 : decode cX8_now 71 = .ok (.aload_n 0, 1) := by decide +kernel
theorem dX8_now_72 : decode cX8_now 72 = .ok (.getfield 7, 3) := by decide +kernel
theorem dX8_now_75 : decode cX8_now 75 = .ok (.bipush 51, 2) := by decide +kernel
theorem dX8_now_77 : decode cX8_now 77 = .ok (.iaload, 1) := by decide +kernel
theorem dX8_now_78 : decode cX8_now 78 = .ok (.ireturn, 1) := by decide +kernel
theorem dX8_now_79 : decode cX8_now 79 = .ok (.aload_n 0, 1) := by decide +kernel
theorem dX8_now_80 : decode cX8_now 80 = .ok (.getfield 7, 3) := by decide +kernel
theorem dX8_now_83 : decode cX8_now 83 = .ok (.bipush 52, 2) := by decide +kernel
theorem dX8_now_85 : decode cX8_now 85 = .ok (.iaload, 1) := by decide +kernel
theorem dX8_now_86 : decode cX8_now 86 = .ok (.ireturn, 1) := by decide +kernel
theorem dX8_now_87 : decode cX8_now 87 = .ok (.iconst (-1), 1) := by decide +kernel
theorem dX8_now_88 : decode cX8_now 88 = .ok (.ireturn, 1) := by decide +kernel
theorem dX8_drop_0 : decode cX8_drop 0 = .ok (.aload_n 0, 1) := by decide +kernel
theorem dX8_drop_1 : decode cX8_drop 1 = .ok (.getfield 17, 3) := by decide +kernel
theorem dX8_drop_4 : decode cX8_drop 4 = .ok (.bipush 6, 2) := by decide +kernel
theorem dX8_drop_6 : decode cX8_drop 6 = .ok (.iaload, 1) := by decide +kernel
theorem dX8_drop_7 : decode cX8_drop 7 = .ok (.ifCond .eq 14, 3) := by decide +kernel
theorem dX8_drop_10 : decode cX8_drop 10 = .ok (.aload_n 0, 1) := by decide +kernel
theorem dX8_drop_11 : decode cX8_drop 11 = .ok (.getfield 7, 3) := by decide +kernel
theorem dX8_drop_14 : decode cX8_drop 14 = .ok (.bipush 51, 2) := by decide +kernel
theorem dX8_drop_16 : decode cX8_drop 16 = .ok (.iaload, 1) := by decide +kernel
theorem dX8_drop_17 : decode cX8_drop 17 = .ok (.iconst 1, 1) := by decide +kernel
theorem dX8_drop_18 : decode cX8_drop 18 = .ok (.if_icmp .ne 5, 3) := by decide +kernel
theorem dX8_drop_21 : decode cX8_drop 21 = .ok (.iconst 0, 1) := by decide +kernel
theorem dX8_drop_22 : decode cX8_drop 22 = .ok (.ireturn, 1) := by decide +kernel
theorem dX8_drop_23 : decode cX8_drop 23 = .ok (.iconst 0, 1) := by decide +kernel
theorem dX8_drop_24 : decode cX8_drop 24 = .ok (.istore_n 1, 1) := by decide +kernel
theorem dX8_drop_25 : decode cX8_drop 25 = .ok (.iload_n 1, 1) := by decide +kernel
theorem dX8_drop_26 : decode cX8_drop 26 = .ok (.aload_n 0, 1) := by decide +kernel
theorem dX8_drop_27 : decode cX8_drop 27 = .ok (.getfield 7, 3) := by decide +kernel
theorem dX8_drop_30 : decode cX8_drop 30 = .ok (.bipush 53, 2) := by decide +kernel
theorem dX8_drop_32 : decode cX8_drop 32 = .ok (.iaload, 1) := by decide +kernel
theorem dX8_drop_33 : decode cX8_drop 33 = .ok (.if_icmp .ge 21, 3) := by decide +kernel
theorem dX8_drop_36 : decode cX8_drop 36 = .ok (.aload_n 0, 1) := by decide +kernel
theorem dX8_drop_37 : decode cX8_drop 37 = .ok (.getfield 7, 3) := by decide +kernel
theorem dX8_drop_40 : decode cX8_drop 40 = .ok (.bipush 8, 2) := by decide +kernel
theorem dX8_drop_42 : decode cX8_drop 42 = .ok (.iload_n 1, 1) := by decide +kernel
theorem dX8_drop_43 : decode cX8_drop 43 = .ok (.imul, 1) := by decide +kernel
theorem dX8_drop_44 : decode cX8_drop 44 = .ok (.iconst 5, 1) := by decide +kernel
theorem dX8_drop_45 : decode cX8_drop 45 = .ok (.iadd, 1) := by decide +kernel
theorem dX8_drop_46 : decode cX8_drop 46 = .ok (.iconst 0, 1) := by decide +kernel
theorem dX8_drop_47 : decode cX8_drop 47 = .ok (.iastore, 1) := by decide +kernel
theorem dX8_drop_48 : decode cX8_drop 48 = .ok (.iinc 1 1, 3) := by decide +kernel
theorem dX8_drop_51 : decode cX8_drop 51 = .ok (.goto (-26), 3) := by decide +kernel
theorem dX8_drop_54 : decode cX8_drop 54 = .ok (.aload_n 0, 1) := by decide +kernel
theorem dX8_drop_55 : decode cX8_drop 55 = .ok (.getfield 7, 3) := by decide +kernel
theorem dX8_drop_58 : decode cX8_drop 58 = .ok (.bipush 51, 2) := by decide +kernel
theorem dX8_drop_60 : decode cX8_drop 60 = .ok (.iconst 1, 1) := by decide +kernel
theorem dX8_drop_61 : decode cX8_drop 61 = .ok (.iastore, 1) := by decide +kernel
theorem dX8_drop_62 : decode cX8_drop 62 = .ok (.iconst 1, 1) := by decide +kernel
theorem dX8_drop_63 : decode cX8_drop 63 = .ok (.ireturn, 1) := by decide +kernel
theorem dX8_press_0 : decode cX8_press 0 = .ok (.aload_n 0, 1) := by decide +kernel
theorem dX8_press_1 : decode cX8_press 1 = .ok (.iload_n 1, 1) := by decide +kernel
theorem dX8_press_2 : decode cX8_press 2 = .ok (.invokevirtual 202, 3) := by decide +kernel
theorem dX8_press_5 : decode cX8_press 5 = .ok (.ifCond .eq 22, 3) := by decide +kernel
theorem dX8_press_8 : decode cX8_press 8 = .ok (.aload_n 0, 1) := by decide +kernel
theorem dX8_press_9 : decode cX8_press 9 = .ok (.getfield 17, 3) := by decide +kernel
theorem dX8_press_12 : decode cX8_press 12 = .ok (.iconst 1, 1) := by decide +kernel
theorem dX8_press_13 : decode cX8_press 13 = .ok (.iaload, 1) := by decide +kernel
theorem dX8_press_14 : decode cX8_press 14 = .ok (.aload_n 0, 1) := by decide +kernel
theorem dX8_press_15 : decode cX8_press 15 = .ok (.getfield 7, 3) := by decide +kernel
theorem dX8_press_18 : decode cX8_press 18 = .ok (.bipush 48, 2) := by decide +kernel
theorem dX8_press_20 : decode cX8_press 20 = .ok (.iaload, 1) := by decide +kernel
theorem dX8_press_21 : decode cX8_press 21 = .ok (.iadd, 1) := by decide +kernel
theorem dX8_press_22 : decode cX8_press 22 = .ok (.iload_n 1, 1) := by decide +kernel
theorem dX8_press_23 : decode cX8_press 23 = .ok (.iadd, 1) := by decide +kernel
theorem dX8_press_24 : decode cX8_press 24 = .ok (.goto 4, 3) := by decide +kernel
theorem dX8_press_27 : decode cX8_press 27 = .ok (.iconst (-1), 1) := by decide +kernel
theorem dX8_press_28 : decode cX8_press 28 = .ok (.ireturn, 1) := by decide +kernel
theorem dX8_weighs_0 : decode cX8_weighs 0 = .ok (.aload_n 0, 1) := by decide +kernel
theorem dX8_weighs_1 : decode cX8_weighs 1 = .ok (.iload_n 1, 1) := by decide +kernel
theorem dX8_weighs_2 : decode cX8_weighs 2 = .ok (.invokevirtual 163, 3) := by decide +kernel
theorem dX8_weighs_5 : decode cX8_weighs 5 = .ok (.ifCond .eq 28, 3) := by decide +kernel
theorem dX8_weighs_8 : decode cX8_weighs 8 = .ok (.aload_n 0, 1) := by decide +kernel
theorem dX8_weighs_9 : decode cX8_weighs 9 = .ok (.iload_n 2, 1) := by decide +kernel
theorem dX8_weighs_10 : decode cX8_weighs 10 = .ok (.invokevirtual 202, 3) := by decide +kernel
theorem dX8_weighs_13 : decode cX8_weighs 13 = .ok (.ifCond .eq 20, 3) := by decide +kernel
theorem dX8_weighs_16 : decode cX8_weighs 16 = .ok (.iload_n 3, 1) := by decide +kernel
theorem dX8_weighs_17 : decode cX8_weighs 17 = .ok (.invokestatic 174, 3) := by decide +kernel
theorem dX8_weighs_20 : decode cX8_weighs 20 = .ok (.ifCond .eq 13, 3) := by decide +kernel
theorem dX8_weighs_23 : decode cX8_weighs 23 = .ok (.aload_n 0, 1) := by decide +kernel
theorem dX8_weighs_24 : decode cX8_weighs 24 = .ok (.iload_n 1, 1) := by decide +kernel
theorem dX8_weighs_25 : decode cX8_weighs 25 = .ok (.iload_n 2, 1) := by decide +kernel
theorem dX8_weighs_26 : decode cX8_weighs 26 = .ok (.iload_n 3, 1) := by decide +kernel
theorem dX8_weighs_27 : decode cX8_weighs 27 = .ok (.invokevirtual 170, 3) := by decide +kernel
theorem dX8_weighs_30 : decode cX8_weighs 30 = .ok (.goto 5, 3) := by decide +kernel
theorem dX8_weighs_33 : decode cX8_weighs 33 = .ok (.ldc 169, 2) := by decide +kernel
theorem dX8_weighs_35 : decode cX8_weighs 35 = .ok (.ireturn, 1) := by decide +kernel
theorem dX8_turning_0 : decode cX8_turning 0 = .ok (.aload_n 0, 1) := by decide +kernel
theorem dX8_turning_1 : decode cX8_turning 1 = .ok (.iload_n 1, 1) := by decide +kernel
theorem dX8_turning_2 : decode cX8_turning 2 = .ok (.invokevirtual 163, 3) := by decide +kernel
theorem dX8_turning_5 : decode cX8_turning 5 = .ok (.ifCond .eq 10, 3) := by decide +kernel
theorem dX8_turning_8 : decode cX8_turning 8 = .ok (.iload_n 2, 1) := by decide +kernel
theorem dX8_turning_9 : decode cX8_turning 9 = .ok (.invokestatic 174, 3) := by decide +kernel
theorem dX8_turning_12 : decode cX8_turning 12 = .ok (.ifCond .ne 5, 3) := by decide +kernel
theorem dX8_turning_15 : decode cX8_turning 15 = .ok (.iconst (-1), 1) := by decide +kernel
theorem dX8_turning_16 : decode cX8_turning 16 = .ok (.ireturn, 1) := by decide +kernel
theorem dX8_turning_17 : decode cX8_turning 17 = .ok (.bipush (-4), 2) := by decide +kernel
theorem dX8_turning_19 : decode cX8_turning 19 = .ok (.istore_n 3, 1) := by decide +kernel
theorem dX8_turning_20 : decode cX8_turning 20 = .ok (.aload_n 0, 1) := by decide +kernel
theorem dX8_turning_21 : decode cX8_turning 21 = .ok (.getfield 17, 3) := by decide +kernel
theorem dX8_turning_24 : decode cX8_turning 24 = .ok (.iconst 0, 1) := by decide +kernel
theorem dX8_turning_25 : decode cX8_turning 25 = .ok (.iaload, 1) := by decide +kernel
theorem dX8_turning_26 : decode cX8_turning 26 = .ok (.istore 4, 2) := by decide +kernel
theorem dX8_turning_28 : decode cX8_turning 28 = .ok (.iload 4, 2) := by decide +kernel
theorem dX8_turning_30 : decode cX8_turning 30 = .ok (.ifCond .lt 27, 3) := by decide +kernel
theorem dX8_turning_33 : decode cX8_turning 33 = .ok (.aload_n 0, 1) := by decide +kernel
theorem dX8_turning_34 : decode cX8_turning 34 = .ok (.iload_n 1, 1) := by decide +kernel
theorem dX8_turning_35 : decode cX8_turning 35 = .ok (.iload 4, 2) := by decide +kernel
theorem dX8_turning_37 : decode cX8_turning 37 = .ok (.iload_n 2, 1) := by decide +kernel
theorem dX8_turning_38 : decode cX8_turning 38 = .ok (.invokevirtual 170, 3) := by decide +kernel
theorem dX8_turning_41 : decode cX8_turning 41 = .ok (.ifCond .lt 8, 3) := by decide +kernel
theorem dX8_turning_44 : decode cX8_turning 44 = .ok (.iload 4, 2) := by decide +kernel
theorem dX8_turning_46 : decode cX8_turning 46 = .ok (.goto 4, 3) := by decide +kernel
theorem dX8_turning_49 : decode cX8_turning 49 = .ok (.iload_n 3, 1) := by decide +kernel
theorem dX8_turning_50 : decode cX8_turning 50 = .ok (.istore_n 3, 1) := by decide +kernel
theorem dX8_turning_51 : decode cX8_turning 51 = .ok (.iinc 4 (-1), 3) := by decide +kernel
theorem dX8_turning_54 : decode cX8_turning 54 = .ok (.goto (-26), 3) := by decide +kernel
theorem dX8_turning_57 : decode cX8_turning 57 = .ok (.iload_n 3, 1) := by decide +kernel
theorem dX8_turning_58 : decode cX8_turning 58 = .ok (.ireturn, 1) := by decide +kernel
theorem dX8_holding_0 : decode cX8_holding 0 = .ok (.aload_n 0, 1) := by decide +kernel
theorem dX8_holding_1 : decode cX8_holding 1 = .ok (.iload_n 1, 1) := by decide +kernel
theorem dX8_holding_2 : decode cX8_holding 2 = .ok (.invokevirtual 163, 3) := by decide +kernel
theorem dX8_holding_5 : decode cX8_holding 5 = .ok (.ifCond .eq 10, 3) := by decide +kernel
theorem dX8_holding_8 : decode cX8_holding 8 = .ok (.iload_n 2, 1) := by decide +kernel
theorem dX8_holding_9 : decode cX8_holding 9 = .ok (.invokestatic 174, 3) := by decide +kernel
theorem dX8_holding_12 : decode cX8_holding 12 = .ok (.ifCond .ne 5, 3) := by decide +kernel
theorem dX8_holding_15 : decode cX8_holding 15 = .ok (.iconst (-1), 1) := by decide +kernel
theorem dX8_holding_16 : decode cX8_holding 16 = .ok (.ireturn, 1) := by decide +kernel
theorem dX8_holding_17 : decode cX8_holding 17 = .ok (.bipush (-4), 2) := by decide +kernel
theorem dX8_holding_19 : decode cX8_holding 19 = .ok (.istore_n 3, 1) := by decide +kernel
theorem dX8_holding_20 : decode cX8_holding 20 = .ok (.aload_n 0, 1) := by decide +kernel
theorem dX8_holding_21 : decode cX8_holding 21 = .ok (.getfield 17, 3) := by decide +kernel
theorem dX8_holding_24 : decode cX8_holding 24 = .ok (.iconst 0, 1) := by decide +kernel
theorem dX8_holding_25 : decode cX8_holding 25 = .ok (.iaload, 1) := by decide +kernel
theorem dX8_holding_26 : decode cX8_holding 26 = .ok (.istore 4, 2) := by decide +kernel
theorem dX8_holding_28 : decode cX8_holding 28 = .ok (.iload 4, 2) := by decide +kernel
theorem dX8_holding_30 : decode cX8_holding 30 = .ok (.ifCond .le 40, 3) := by decide +kernel
theorem dX8_holding_33 : decode cX8_holding 33 = .ok (.aload_n 0, 1) := by decide +kernel
theorem dX8_holding_34 : decode cX8_holding 34 = .ok (.iload_n 1, 1) := by decide +kernel
theorem dX8_holding_35 : decode cX8_holding 35 = .ok (.iload 4, 2) := by decide +kernel
theorem dX8_holding_37 : decode cX8_holding 37 = .ok (.iload_n 2, 1) := by decide +kernel
theorem dX8_holding_38 : decode cX8_holding 38 = .ok (.invokevirtual 170, 3) := by decide +kernel
theorem dX8_holding_41 : decode cX8_holding 41 = .ok (.ifCond .gt 21, 3) := by decide +kernel
theorem dX8_holding_44 : decode cX8_holding 44 = .ok (.aload_n 0, 1) := by decide +kernel
theorem dX8_holding_45 : decode cX8_holding 45 = .ok (.iload_n 1, 1) := by decide +kernel
theorem dX8_holding_46 : decode cX8_holding 46 = .ok (.iload 4, 2) := by decide +kernel
theorem dX8_holding_48 : decode cX8_holding 48 = .ok (.iconst 1, 1) := by decide +kernel
theorem dX8_holding_49 : decode cX8_holding 49 = .ok (.isub, 1) := by decide +kernel
theorem dX8_holding_50 : decode cX8_holding 50 = .ok (.iload_n 2, 1) := by decide +kernel
theorem dX8_holding_51 : decode cX8_holding 51 = .ok (.invokevirtual 170, 3) := by decide +kernel
theorem dX8_holding_54 : decode cX8_holding 54 = .ok (.ifCond .le 8, 3) := by decide +kernel
theorem dX8_holding_57 : decode cX8_holding 57 = .ok (.iload 4, 2) := by decide +kernel
theorem dX8_holding_59 : decode cX8_holding 59 = .ok (.goto 4, 3) := by decide +kernel
theorem dX8_holding_62 : decode cX8_holding 62 = .ok (.iload_n 3, 1) := by decide +kernel
theorem dX8_holding_63 : decode cX8_holding 63 = .ok (.istore_n 3, 1) := by decide +kernel
theorem dX8_holding_64 : decode cX8_holding 64 = .ok (.iinc 4 (-1), 3) := by decide +kernel
theorem dX8_holding_67 : decode cX8_holding 67 = .ok (.goto (-39), 3) := by decide +kernel
theorem dX8_holding_70 : decode cX8_holding 70 = .ok (.iload_n 3, 1) := by decide +kernel
theorem dX8_holding_71 : decode cX8_holding 71 = .ok (.ireturn, 1) := by decide +kernel
theorem dX8_back_0 : decode cX8_back 0 = .ok (.aload_n 0, 1) := by decide +kernel
theorem dX8_back_1 : decode cX8_back 1 = .ok (.iload_n 1, 1) := by decide +kernel
theorem dX8_back_2 : decode cX8_back 2 = .ok (.invokevirtual 163, 3) := by decide +kernel
theorem dX8_back_5 : decode cX8_back 5 = .ok (.ifCond .ne 5, 3) := by decide +kernel
theorem dX8_back_8 : decode cX8_back 8 = .ok (.iconst (-1), 1) := by decide +kernel
theorem dX8_back_9 : decode cX8_back 9 = .ok (.ireturn, 1) := by decide +kernel
theorem dX8_back_10 : decode cX8_back 10 = .ok (.iconst 0, 1) := by decide +kernel
theorem dX8_back_11 : decode cX8_back 11 = .ok (.istore_n 2, 1) := by decide +kernel
theorem dX8_back_12 : decode cX8_back 12 = .ok (.iload_n 2, 1) := by decide +kernel
theorem dX8_back_13 : decode cX8_back 13 = .ok (.aload_n 0, 1) := by decide +kernel
theorem dX8_back_14 : decode cX8_back 14 = .ok (.getfield 17, 3) := by decide +kernel
theorem dX8_back_17 : decode cX8_back 17 = .ok (.iconst 0, 1) := by decide +kernel
theorem dX8_back_18 : decode cX8_back 18 = .ok (.iaload, 1) := by decide +kernel
theorem dX8_back_19 : decode cX8_back 19 = .ok (.if_icmp .gt 19, 3) := by decide +kernel
theorem dX8_back_22 : decode cX8_back 22 = .ok (.aload_n 0, 1) := by decide +kernel
theorem dX8_back_23 : decode cX8_back 23 = .ok (.iload_n 1, 1) := by decide +kernel
theorem dX8_back_24 : decode cX8_back 24 = .ok (.iload_n 2, 1) := by decide +kernel
theorem dX8_back_25 : decode cX8_back 25 = .ok (.iconst 0, 1) := by decide +kernel
theorem dX8_back_26 : decode cX8_back 26 = .ok (.invokevirtual 170, 3) := by decide +kernel
theorem dX8_back_29 : decode cX8_back 29 = .ok (.ifCond .ge 9, 3) := by decide +kernel
theorem dX8_back_32 : decode cX8_back 32 = .ok (.iinc 2 1, 3) := by decide +kernel
theorem dX8_back_35 : decode cX8_back 35 = .ok (.goto (-23), 3) := by decide +kernel
theorem dX8_back_38 : decode cX8_back 38 = .ok (.iload_n 2, 1) := by decide +kernel
theorem dX8_back_39 : decode cX8_back 39 = .ok (.ifCond .ne 8, 3) := by decide +kernel
theorem dX8_back_42 : decode cX8_back 42 = .ok (.bipush (-4), 2) := by decide +kernel
theorem dX8_back_44 : decode cX8_back 44 = .ok (.goto 6, 3) := by decide +kernel
theorem dX8_back_47 : decode cX8_back 47 = .ok (.iload_n 2, 1) := by decide +kernel
theorem dX8_back_48 : decode cX8_back 48 = .ok (.iconst 1, 1) := by decide +kernel
theorem dX8_back_49 : decode cX8_back 49 = .ok (.isub, 1) := by decide +kernel
theorem dX8_back_50 : decode cX8_back 50 = .ok (.ireturn, 1) := by decide +kernel
theorem dX8_goesWith_0 : decode cX8_goesWith 0 = .ok (.iconst 0, 1) := by decide +kernel
theorem dX8_goesWith_1 : decode cX8_goesWith 1 = .ok (.istore_n 3, 1) := by decide +kernel
theorem dX8_goesWith_2 : decode cX8_goesWith 2 = .ok (.iload_n 3, 1) := by decide +kernel
theorem dX8_goesWith_3 : decode cX8_goesWith 3 = .ok (.sipush 500, 3) := by decide +kernel
theorem dX8_goesWith_6 : decode cX8_goesWith 6 = .ok (.if_icmp .gt 29, 3) := by decide +kernel
theorem dX8_goesWith_9 : decode cX8_goesWith 9 = .ok (.aload_n 0, 1) := by decide +kernel
theorem dX8_goesWith_10 : decode cX8_goesWith 10 = .ok (.iload_n 1, 1) := by decide +kernel
theorem dX8_goesWith_11 : decode cX8_goesWith 11 = .ok (.iload_n 2, 1) := by decide +kernel
theorem dX8_goesWith_12 : decode cX8_goesWith 12 = .ok (.aload_n 0, 1) := by decide +kernel
theorem dX8_goesWith_13 : decode cX8_goesWith 13 = .ok (.getfield 7, 3) := by decide +kernel
theorem dX8_goesWith_16 : decode cX8_goesWith 16 = .ok (.bipush 49, 2) := by decide +kernel
theorem dX8_goesWith_18 : decode cX8_goesWith 18 = .ok (.iaload, 1) := by decide +kernel
theorem dX8_goesWith_19 : decode cX8_goesWith 19 = .ok (.iload_n 3, 1) := by decide +kernel
theorem dX8_goesWith_20 : decode cX8_goesWith 20 = .ok (.iconst 0, 1) := by decide +kernel
theorem dX8_goesWith_21 : decode cX8_goesWith 21 = .ok (.invokevirtual 159, 3) := by decide +kernel
theorem dX8_goesWith_24 : decode cX8_goesWith 24 = .ok (.ifCond .le 5, 3) := by decide +kernel
theorem dX8_goesWith_27 : decode cX8_goesWith 27 = .ok (.iload_n 3, 1) := by decide +kernel
theorem dX8_goesWith_28 : decode cX8_goesWith 28 = .ok (.ireturn, 1) := by decide +kernel
theorem dX8_goesWith_29 : decode cX8_goesWith 29 = .ok (.iinc 3 1, 3) := by decide +kernel
theorem dX8_goesWith_32 : decode cX8_goesWith 32 = .ok (.goto (-30), 3) := by decide +kernel
theorem dX8_goesWith_35 : decode cX8_goesWith 35 = .ok (.bipush (-4), 2) := by decide +kernel
theorem dX8_goesWith_37 : decode cX8_goesWith 37 = .ok (.ireturn, 1) := by decide +kernel
theorem dX8_goesOf_0 : decode cX8_goesOf 0 = .ok (.aload_n 0, 1) := by decide +kernel
theorem dX8_goesOf_1 : decode cX8_goesOf 1 = .ok (.aload_n 0, 1) := by decide +kernel
theorem dX8_goesOf_2 : decode cX8_goesOf 2 = .ok (.iload_n 1, 1) := by decide +kernel
theorem dX8_goesOf_3 : decode cX8_goesOf 3 = .ok (.invokevirtual 156, 3) := by decide +kernel
theorem dX8_goesOf_6 : decode cX8_goesOf 6 = .ok (.aload_n 0, 1) := by decide +kernel
theorem dX8_goesOf_7 : decode cX8_goesOf 7 = .ok (.iload_n 1, 1) := by decide +kernel
theorem dX8_goesOf_8 : decode cX8_goesOf 8 = .ok (.iconst 1, 1) := by decide +kernel
theorem dX8_goesOf_9 : decode cX8_goesOf 9 = .ok (.invokevirtual 153, 3) := by decide +kernel
theorem dX8_goesOf_12 : decode cX8_goesOf 12 = .ok (.invokevirtual 205, 3) := by decide +kernel
theorem dX8_goesOf_15 : decode cX8_goesOf 15 = .ok (.ireturn, 1) := by decide +kernel
theorem dX8_goesAt_0 : decode cX8_goesAt 0 = .ok (.aload_n 0, 1) := by decide +kernel
theorem dX8_goesAt_1 : decode cX8_goesAt 1 = .ok (.iload_n 1, 1) := by decide +kernel
theorem dX8_goesAt_2 : decode cX8_goesAt 2 = .ok (.invokevirtual 163, 3) := by decide +kernel
theorem dX8_goesAt_5 : decode cX8_goesAt 5 = .ok (.ifCond .eq 11, 3) := by decide +kernel
theorem dX8_goesAt_8 : decode cX8_goesAt 8 = .ok (.aload_n 0, 1) := by decide +kernel
theorem dX8_goesAt_9 : decode cX8_goesAt 9 = .ok (.iload_n 1, 1) := by decide +kernel
theorem dX8_goesAt_10 : decode cX8_goesAt 10 = .ok (.invokevirtual 208, 3) := by decide +kernel
theorem dX8_goesAt_13 : decode cX8_goesAt 13 = .ok (.goto 4, 3) := by decide +kernel
theorem dX8_goesAt_16 : decode cX8_goesAt 16 = .ok (.iconst (-1), 1) := by decide +kernel
theorem dX8_goesAt_17 : decode cX8_goesAt 17 = .ok (.ireturn, 1) := by decide +kernel
theorem dX8_rankOf_0 : decode cX8_rankOf 0 = .ok (.aload_n 0, 1) := by decide +kernel
theorem dX8_rankOf_1 : decode cX8_rankOf 1 = .ok (.iload_n 1, 1) := by decide +kernel
theorem dX8_rankOf_2 : decode cX8_rankOf 2 = .ok (.invokevirtual 208, 3) := by decide +kernel
theorem dX8_rankOf_5 : decode cX8_rankOf 5 = .ok (.istore_n 2, 1) := by decide +kernel
theorem dX8_rankOf_6 : decode cX8_rankOf 6 = .ok (.bipush 8, 2) := by decide +kernel
theorem dX8_rankOf_8 : decode cX8_rankOf 8 = .ok (.iload_n 2, 1) := by decide +kernel
theorem dX8_rankOf_9 : decode cX8_rankOf 9 = .ok (.bipush (-4), 2) := by decide +kernel
theorem dX8_rankOf_11 : decode cX8_rankOf 11 = .ok (.if_icmp .ne 9, 3) := by decide +kernel
theorem dX8_rankOf_14 : decode cX8_rankOf 14 = .ok (.sipush 999, 3) := by decide +kernel
theorem dX8_rankOf_17 : decode cX8_rankOf 17 = .ok (.goto 4, 3) := by decide +kernel
theorem dX8_rankOf_20 : decode cX8_rankOf 20 = .ok (.iload_n 2, 1) := by decide +kernel
theorem dX8_rankOf_21 : decode cX8_rankOf 21 = .ok (.imul, 1) := by decide +kernel
theorem dX8_rankOf_22 : decode cX8_rankOf 22 = .ok (.iload_n 1, 1) := by decide +kernel
theorem dX8_rankOf_23 : decode cX8_rankOf 23 = .ok (.iadd, 1) := by decide +kernel
theorem dX8_rankOf_24 : decode cX8_rankOf 24 = .ok (.ireturn, 1) := by decide +kernel
theorem dX8_order_0 : decode cX8_order 0 = .ok (.iconst (-1), 1) := by decide +kernel
theorem dX8_order_1 : decode cX8_order 1 = .ok (.istore_n 2, 1) := by decide +kernel
theorem dX8_order_2 : decode cX8_order 2 = .ok (.iconst 0, 1) := by decide +kernel
theorem dX8_order_3 : decode cX8_order 3 = .ok (.istore_n 3, 1) := by decide +kernel
theorem dX8_order_4 : decode cX8_order 4 = .ok (.iload_n 3, 1) := by decide +kernel
theorem dX8_order_5 : decode cX8_order 5 = .ok (.aload_n 0, 1) := by decide +kernel
theorem dX8_order_6 : decode cX8_order 6 = .ok (.getfield 7, 3) := by decide +kernel
theorem dX8_order_9 : decode cX8_order 9 = .ok (.bipush 53, 2) := by decide +kernel
theorem dX8_order_11 : decode cX8_order 11 = .ok (.iaload, 1) := by decide +kernel
theorem dX8_order_12 : decode cX8_order 12 = .ok (.if_icmp .ge 72, 3) := by decide +kernel
theorem dX8_order_15 : decode cX8_order 15 = .ok (.iconst 0, 1) := by decide +kernel
theorem dX8_order_16 : decode cX8_order 16 = .ok (.istore 4, 2) := by decide +kernel
theorem dX8_order_18 : decode cX8_order 18 = .ok (.iconst 0, 1) := by decide +kernel
theorem dX8_order_19 : decode cX8_order 19 = .ok (.istore 5, 2) := by decide +kernel
theorem dX8_order_21 : decode cX8_order 21 = .ok (.iload 5, 2) := by decide +kernel
theorem dX8_order_23 : decode cX8_order 23 = .ok (.aload_n 0, 1) := by decide +kernel
theorem dX8_order_24 : decode cX8_order 24 = .ok (.getfield 7, 3) := by decide +kernel
theorem dX8_order_27 : decode cX8_order 27 = .ok (.bipush 53, 2) := by decide +kernel
theorem dX8_order_29 : decode cX8_order 29 = .ok (.iaload, 1) := by decide +kernel
theorem dX8_order_30 : decode cX8_order 30 = .ok (.if_icmp .ge 36, 3) := by decide +kernel
theorem dX8_order_33 : decode cX8_order 33 = .ok (.iload 4, 2) := by decide +kernel
theorem dX8_order_35 : decode cX8_order 35 = .ok (.aload_n 0, 1) := by decide +kernel
theorem dX8_order_36 : decode cX8_order 36 = .ok (.iload 5, 2) := by decide +kernel
theorem dX8_order_38 : decode cX8_order 38 = .ok (.invokevirtual 211, 3) := by decide +kernel
theorem dX8_order_41 : decode cX8_order 41 = .ok (.aload_n 0, 1) := by decide +kernel
theorem dX8_order_42 : decode cX8_order 42 = .ok (.iload_n 3, 1) := by decide +kernel
theorem dX8_order_43 : decode cX8_order 43 = .ok (.invokevirtual 211, 3) := by decide +kernel
theorem dX8_order_46 : decode cX8_order 46 = .ok (.if_icmp .ge 7, 3) := by decide +kernel
theorem dX8_order_49 : decode cX8_order 49 = .ok (.iconst 1, 1) := by decide +kernel
theorem dX8_order_50 : decode cX8_order 50 = .ok (.goto 4, 3) := by decide +kernel
theorem dX8_order_53 : decode cX8_order 53 = .ok (.iconst 0, 1) := by decide +kernel
theorem dX8_order_54 : decode cX8_order 54 = .ok (.invokestatic 63, 3) := by decide +kernel
theorem dX8_order_57 : decode cX8_order 57 = .ok (.iadd, 1) := by decide +kernel
theorem dX8_order_58 : decode cX8_order 58 = .ok (.istore 4, 2) := by decide +kernel
theorem dX8_order_60 : decode cX8_order 60 = .ok (.iinc 5 1, 3) := by decide +kernel
theorem dX8_order_63 : decode cX8_order 63 = .ok (.goto (-42), 3) := by decide +kernel
theorem dX8_order_66 : decode cX8_order 66 = .ok (.iload 4, 2) := by decide +kernel
theorem dX8_order_68 : decode cX8_order 68 = .ok (.iload_n 1, 1) := by decide +kernel
theorem dX8_order_69 : decode cX8_order 69 = .ok (.if_icmp .ne 7, 3) := by decide +kernel
theorem dX8_order_72 : decode cX8_order 72 = .ok (.iload_n 3, 1) := by decide +kernel
theorem dX8_order_73 : decode cX8_order 73 = .ok (.goto 4, 3) := by decide +kernel
theorem dX8_order_76 : decode cX8_order 76 = .ok (.iload_n 2, 1) := by decide +kernel
theorem dX8_order_77 : decode cX8_order 77 = .ok (.istore_n 2, 1) := by decide +kernel
theorem dX8_order_78 : decode cX8_order 78 = .ok (.iinc 3 1, 3) := by decide +kernel
theorem dX8_order_81 : decode cX8_order 81 = .ok (.goto (-77), 3) := by decide +kernel
theorem dX8_order_84 : decode cX8_order 84 = .ok (.iload_n 2, 1) := by decide +kernel
theorem dX8_order_85 : decode cX8_order 85 = .ok (.ireturn, 1) := by decide +kernel
theorem dX8_apart_0 : decode cX8_apart 0 = .ok (.bipush (-4), 2) := by decide +kernel
theorem dX8_apart_2 : decode cX8_apart 2 = .ok (.istore_n 1, 1) := by decide +kernel
theorem dX8_apart_3 : decode cX8_apart 3 = .ok (.iconst 0, 1) := by decide +kernel
theorem dX8_apart_4 : decode cX8_apart 4 = .ok (.istore_n 2, 1) := by decide +kernel
theorem dX8_apart_5 : decode cX8_apart 5 = .ok (.iload_n 2, 1) := by decide +kernel
theorem dX8_apart_6 : decode cX8_apart 6 = .ok (.aload_n 0, 1) := by decide +kernel
theorem dX8_apart_7 : decode cX8_apart 7 = .ok (.getfield 7, 3) := by decide +kernel
theorem dX8_apart_10 : decode cX8_apart 10 = .ok (.bipush 53, 2) := by decide +kernel
theorem dX8_apart_12 : decode cX8_apart 12 = .ok (.iaload, 1) := by decide +kernel
theorem dX8_apart_13 : decode cX8_apart 13 = .ok (.if_icmp .ge 79, 3) := by decide +kernel
theorem dX8_apart_16 : decode cX8_apart 16 = .ok (.iconst 0, 1) := by decide +kernel
theorem dX8_apart_17 : decode cX8_apart 17 = .ok (.istore_n 3, 1) := by decide +kernel
theorem dX8_apart_18 : decode cX8_apart 18 = .ok (.iload_n 3, 1) := by decide +kernel
theorem dX8_apart_19 : decode cX8_apart 19 = .ok (.iload_n 2, 1) := by decide +kernel
theorem dX8_apart_20 : decode cX8_apart 20 = .ok (.if_icmp .ge 66, 3) := by decide +kernel
theorem dX8_apart_23 : decode cX8_apart 23 = .ok (.aload_n 0, 1) := by decide +kernel
theorem dX8_apart_24 : decode cX8_apart 24 = .ok (.iload_n 2, 1) := by decide +kernel
theorem dX8_apart_25 : decode cX8_apart 25 = .ok (.invokevirtual 208, 3) := by decide +kernel
theorem dX8_apart_28 : decode cX8_apart 28 = .ok (.istore 4, 2) := by decide +kernel
theorem dX8_apart_30 : decode cX8_apart 30 = .ok (.aload_n 0, 1) := by decide +kernel
theorem dX8_apart_31 : decode cX8_apart 31 = .ok (.iload_n 3, 1) := by decide +kernel
theorem dX8_apart_32 : decode cX8_apart 32 = .ok (.invokevirtual 208, 3) := by decide +kernel
theorem dX8_apart_35 : decode cX8_apart 35 = .ok (.istore 5, 2) := by decide +kernel
theorem dX8_apart_37 : decode cX8_apart 37 = .ok (.iload 4, 2) := by decide +kernel
theorem dX8_apart_39 : decode cX8_apart 39 = .ok (.iload 5, 2) := by decide +kernel
theorem dX8_apart_41 : decode cX8_apart 41 = .ok (.isub, 1) := by decide +kernel
theorem dX8_apart_42 : decode cX8_apart 42 = .ok (.invokestatic 214, 3) := by decide +kernel
theorem dX8_apart_45 : decode cX8_apart 45 = .ok (.istore 6, 2) := by decide +kernel
theorem dX8_apart_47 : decode cX8_apart 47 = .ok (.iload 4, 2) := by decide +kernel
theorem dX8_apart_49 : decode cX8_apart 49 = .ok (.bipush (-4), 2) := by decide +kernel
theorem dX8_apart_51 : decode cX8_apart 51 = .ok (.if_icmp .eq 27, 3) := by decide +kernel
theorem dX8_apart_54 : decode cX8_apart 54 = .ok (.iload 5, 2) := by decide +kernel
theorem dX8_apart_56 : decode cX8_apart 56 = .ok (.bipush (-4), 2) := by decide +kernel
theorem dX8_apart_58 : decode cX8_apart 58 = .ok (.if_icmp .eq 20, 3) := by decide +kernel
theorem dX8_apart_61 : decode cX8_apart 61 = .ok (.iload_n 1, 1) := by decide +kernel
theorem dX8_apart_62 : decode cX8_apart 62 = .ok (.bipush (-4), 2) := by decide +kernel
theorem dX8_apart_64 : decode cX8_apart 64 = .ok (.if_icmp .eq 9, 3) := by decide +kernel
theorem dX8_apart_67 : decode cX8_apart 67 = .ok (.iload 6, 2) := by decide +kernel
theorem dX8_apart_69 : decode cX8_apart 69 = .ok (.iload_n 1, 1) := by decide +kernel
theorem dX8_apart_70 : decode cX8_apart 70 = .ok (.if_icmp .ge 8, 3) := by decide +kernel
theorem dX8_apart_73 : decode cX8_apart 73 = .ok (.iload 6, 2) := by decide +kernel
theorem dX8_apart_75 : decode cX8_apart 75 = .ok (.goto 4, 3) := by decide +kernel
theorem dX8_apart_78 : decode cX8_apart 78 = .ok (.iload_n 1, 1) := by decide +kernel
theorem dX8_apart_79 : decode cX8_apart 79 = .ok (.istore_n 1, 1) := by decide +kernel
theorem dX8_apart_80 : decode cX8_apart 80 = .ok (.iinc 3 1, 3) := by decide +kernel
theorem dX8_apart_83 : decode cX8_apart 83 = .ok (.goto (-65), 3) := by decide +kernel
theorem dX8_apart_86 : decode cX8_apart 86 = .ok (.iinc 2 1, 3) := by decide +kernel
theorem dX8_apart_89 : decode cX8_apart 89 = .ok (.goto (-84), 3) := by decide +kernel
theorem dX8_apart_92 : decode cX8_apart 92 = .ok (.iload_n 1, 1) := by decide +kernel
theorem dX8_apart_93 : decode cX8_apart 93 = .ok (.ireturn, 1) := by decide +kernel
theorem dX8_lifts_0 : decode cX8_lifts 0 = .ok (.aload_n 0, 1) := by decide +kernel
theorem dX8_lifts_1 : decode cX8_lifts 1 = .ok (.iload_n 1, 1) := by decide +kernel
theorem dX8_lifts_2 : decode cX8_lifts 2 = .ok (.invokevirtual 163, 3) := by decide +kernel
theorem dX8_lifts_5 : decode cX8_lifts 5 = .ok (.ifCond .ne 5, 3) := by decide +kernel
theorem dX8_lifts_8 : decode cX8_lifts 8 = .ok (.iconst (-1), 1) := by decide +kernel
theorem dX8_lifts_9 : decode cX8_lifts 9 = .ok (.ireturn, 1) := by decide +kernel
theorem dX8_lifts_10 : decode cX8_lifts 10 = .ok (.sipush 999, 3) := by decide +kernel
theorem dX8_lifts_13 : decode cX8_lifts 13 = .ok (.istore_n 2, 1) := by decide +kernel
theorem dX8_lifts_14 : decode cX8_lifts 14 = .ok (.iconst 0, 1) := by decide +kernel
theorem dX8_lifts_15 : decode cX8_lifts 15 = .ok (.istore_n 3, 1) := by decide +kernel
theorem dX8_lifts_16 : decode cX8_lifts 16 = .ok (.iload_n 3, 1) := by decide +kernel
theorem dX8_lifts_17 : decode cX8_lifts 17 = .ok (.aload_n 0, 1) := by decide +kernel
theorem dX8_lifts_18 : decode cX8_lifts 18 = .ok (.getfield 17, 3) := by decide +kernel
theorem dX8_lifts_21 : decode cX8_lifts 21 = .ok (.iconst 0, 1) := by decide +kernel
theorem dX8_lifts_22 : decode cX8_lifts 22 = .ok (.iaload, 1) := by decide +kernel
theorem dX8_lifts_23 : decode cX8_lifts 23 = .ok (.if_icmp .gt 51, 3) := by decide +kernel
theorem dX8_lifts_26 : decode cX8_lifts 26 = .ok (.iconst (-1), 1) := by decide +kernel
theorem dX8_lifts_27 : decode cX8_lifts 27 = .ok (.aload_n 0, 1) := by decide +kernel
theorem dX8_lifts_28 : decode cX8_lifts 28 = .ok (.aload_n 0, 1) := by decide +kernel
theorem dX8_lifts_29 : decode cX8_lifts 29 = .ok (.iload_n 1, 1) := by decide +kernel
theorem dX8_lifts_30 : decode cX8_lifts 30 = .ok (.iconst 0, 1) := by decide +kernel
theorem dX8_lifts_31 : decode cX8_lifts 31 = .ok (.invokevirtual 153, 3) := by decide +kernel
theorem dX8_lifts_34 : decode cX8_lifts 34 = .ok (.aload_n 0, 1) := by decide +kernel
theorem dX8_lifts_35 : decode cX8_lifts 35 = .ok (.iload_n 1, 1) := by decide +kernel
theorem dX8_lifts_36 : decode cX8_lifts 36 = .ok (.iconst 1, 1) := by decide +kernel
theorem dX8_lifts_37 : decode cX8_lifts 37 = .ok (.invokevirtual 153, 3) := by decide +kernel
theorem dX8_lifts_40 : decode cX8_lifts 40 = .ok (.aload_n 0, 1) := by decide +kernel
theorem dX8_lifts_41 : decode cX8_lifts 41 = .ok (.getfield 7, 3) := by decide +kernel
theorem dX8_lifts_44 : decode cX8_lifts 44 = .ok (.bipush 49, 2) := by decide +kernel
theorem dX8_lifts_46 : decode cX8_lifts 46 = .ok (.iaload, 1) := by decide +kernel
theorem dX8_lifts_47 : decode cX8_lifts 47 = .ok (.iconst 0, 1) := by decide +kernel
theorem dX8_lifts_48 : decode cX8_lifts 48 = .ok (.iload_n 3, 1) := by decide +kernel
theorem dX8_lifts_49 : decode cX8_lifts 49 = .ok (.invokevirtual 159, 3) := by decide +kernel
theorem dX8_lifts_52 : decode cX8_lifts 52 = .ok (.isub, 1) := by decide +kernel
theorem dX8_lifts_53 : decode cX8_lifts 53 = .ok (.istore 4, 2) := by decide +kernel
theorem dX8_lifts_55 : decode cX8_lifts 55 = .ok (.iload 4, 2) := by decide +kernel
theorem dX8_lifts_57 : decode cX8_lifts 57 = .ok (.iload_n 2, 1) := by decide +kernel
theorem dX8_lifts_58 : decode cX8_lifts 58 = .ok (.if_icmp .ge 8, 3) := by decide +kernel
theorem dX8_lifts_61 : decode cX8_lifts 61 = .ok (.iload 4, 2) := by decide +kernel
theorem dX8_lifts_63 : decode cX8_lifts 63 = .ok (.goto 4, 3) := by decide +kernel
theorem dX8_lifts_66 : decode cX8_lifts 66 = .ok (.iload_n 2, 1) := by decide +kernel
theorem dX8_lifts_67 : decode cX8_lifts 67 = .ok (.istore_n 2, 1) := by decide +kernel
theorem dX8_lifts_68 : decode cX8_lifts 68 = .ok (.iinc 3 1, 3) := by decide +kernel
theorem dX8_lifts_71 : decode cX8_lifts 71 = .ok (.goto (-55), 3) := by decide +kernel
theorem dX8_lifts_74 : decode cX8_lifts 74 = .ok (.iload_n 2, 1) := by decide +kernel
theorem dX8_lifts_75 : decode cX8_lifts 75 = .ok (.ifCond .ge 8, 3) := by decide +kernel
theorem dX8_lifts_78 : decode cX8_lifts 78 = .ok (.bipush (-4), 2) := by decide +kernel
theorem dX8_lifts_80 : decode cX8_lifts 80 = .ok (.goto 4, 3) := by decide +kernel
theorem dX8_lifts_83 : decode cX8_lifts 83 = .ok (.iload_n 2, 1) := by decide +kernel
theorem dX8_lifts_84 : decode cX8_lifts 84 = .ok (.ireturn, 1) := by decide +kernel
theorem dX8_noBubbles_0 : decode cX8_noBubbles 0 = .ok (.aload_n 0, 1) := by decide +kernel
theorem dX8_noBubbles_1 : decode cX8_noBubbles 1 = .ok (.iconst 0, 1) := by decide +kernel
theorem dX8_noBubbles_2 : decode cX8_noBubbles 2 = .ok (.putfield 217, 3) := by decide +kernel
theorem dX8_noBubbles_5 : decode cX8_noBubbles 5 = .ok (.aload_n 0, 1) := by decide +kernel
theorem dX8_noBubbles_6 : decode cX8_noBubbles 6 = .ok (.bipush (-4), 2) := by decide +kernel
end
section
theorem dX8_noBubbles_8 : decode cX8_noBubbles 8 = .ok (.putfield 220, 3) := by decide +kernel
theorem dX8_noBubbles_11 : decode cX8_noBubbles 11 = .ok (.aload_n 0, 1) := by decide +kernel
theorem dX8_noBubbles_12 : decode cX8_noBubbles 12 = .ok (.bipush (-4), 2) := by decide +kernel
theorem dX8_noBubbles_14 : decode cX8_noBubbles 14 = .ok (.putfield 223, 3) := by decide +kernel
theorem dX8_noBubbles_17 : decode cX8_noBubbles 17 = .ok (.return_, 1) := by decide +kernel
theorem dX8_aBubble_0 : decode cX8_aBubble 0 = .ok (.aload_n 0, 1) := by decide +kernel
theorem dX8_aBubble_1 : decode cX8_aBubble 1 = .ok (.dup, 1) := by decide +kernel
theorem dX8_aBubble_2 : decode cX8_aBubble 2 = .ok (.getfield 217, 3) := by decide +kernel
theorem dX8_aBubble_5 : decode cX8_aBubble 5 = .ok (.iconst 1, 1) := by decide +kernel
theorem dX8_aBubble_6 : decode cX8_aBubble 6 = .ok (.iadd, 1) := by decide +kernel
theorem dX8_aBubble_7 : decode cX8_aBubble 7 = .ok (.putfield 217, 3) := by decide +kernel
theorem dX8_aBubble_10 : decode cX8_aBubble 10 = .ok (.aload_n 0, 1) := by decide +kernel
theorem dX8_aBubble_11 : decode cX8_aBubble 11 = .ok (.aload_n 0, 1) := by decide +kernel
theorem dX8_aBubble_12 : decode cX8_aBubble 12 = .ok (.getfield 220, 3) := by decide +kernel
theorem dX8_aBubble_15 : decode cX8_aBubble 15 = .ok (.bipush (-4), 2) := by decide +kernel
theorem dX8_aBubble_17 : decode cX8_aBubble 17 = .ok (.if_icmp .ne 7, 3) := by decide +kernel
theorem dX8_aBubble_20 : decode cX8_aBubble 20 = .ok (.iload_n 1, 1) := by decide +kernel
theorem dX8_aBubble_21 : decode cX8_aBubble 21 = .ok (.goto 7, 3) := by decide +kernel
theorem dX8_aBubble_24 : decode cX8_aBubble 24 = .ok (.aload_n 0, 1) := by decide +kernel
theorem dX8_aBubble_25 : decode cX8_aBubble 25 = .ok (.getfield 220, 3) := by decide +kernel
theorem dX8_aBubble_28 : decode cX8_aBubble 28 = .ok (.putfield 220, 3) := by decide +kernel
theorem dX8_aBubble_31 : decode cX8_aBubble 31 = .ok (.aload_n 0, 1) := by decide +kernel
theorem dX8_aBubble_32 : decode cX8_aBubble 32 = .ok (.iload_n 1, 1) := by decide +kernel
theorem dX8_aBubble_33 : decode cX8_aBubble 33 = .ok (.putfield 223, 3) := by decide +kernel
theorem dX8_aBubble_36 : decode cX8_aBubble 36 = .ok (.return_, 1) := by decide +kernel
theorem dX8_told_0 : decode cX8_told 0 = .ok (.iload_n 1, 1) := by decide +kernel
theorem dX8_told_1 : decode cX8_told 1 = .ok (.ifCond .ne 10, 3) := by decide +kernel
theorem dX8_told_4 : decode cX8_told 4 = .ok (.aload_n 0, 1) := by decide +kernel
theorem dX8_told_5 : decode cX8_told 5 = .ok (.getfield 217, 3) := by decide +kernel
theorem dX8_told_8 : decode cX8_told 8 = .ok (.goto 19, 3) := by decide +kernel
theorem dX8_told_11 : decode cX8_told 11 = .ok (.iload_n 1, 1) := by decide +kernel
theorem dX8_told_12 : decode cX8_told 12 = .ok (.iconst 1, 1) := by decide +kernel
theorem dX8_told_13 : decode cX8_told 13 = .ok (.if_icmp .ne 10, 3) := by decide +kernel
theorem dX8_told_16 : decode cX8_told 16 = .ok (.aload_n 0, 1) := by decide +kernel
theorem dX8_told_17 : decode cX8_told 17 = .ok (.getfield 220, 3) := by decide +kernel
theorem dX8_told_20 : decode cX8_told 20 = .ok (.goto 7, 3) := by decide +kernel
theorem dX8_told_23 : decode cX8_told 23 = .ok (.aload_n 0, 1) := by decide +kernel
theorem dX8_told_24 : decode cX8_told 24 = .ok (.getfield 223, 3) := by decide +kernel
theorem dX8_told_27 : decode cX8_told 27 = .ok (.ireturn, 1) := by decide +kernel
theorem dX8_comesBack_0 : decode cX8_comesBack 0 = .ok (.aload_n 0, 1) := by decide +kernel
theorem dX8_comesBack_1 : decode cX8_comesBack 1 = .ok (.iload_n 1, 1) := by decide +kernel
theorem dX8_comesBack_2 : decode cX8_comesBack 2 = .ok (.iload_n 2, 1) := by decide +kernel
theorem dX8_comesBack_3 : decode cX8_comesBack 3 = .ok (.aload_n 0, 1) := by decide +kernel
theorem dX8_comesBack_4 : decode cX8_comesBack 4 = .ok (.getfield 7, 3) := by decide +kernel
theorem dX8_comesBack_7 : decode cX8_comesBack 7 = .ok (.bipush 49, 2) := by decide +kernel
theorem dX8_comesBack_9 : decode cX8_comesBack 9 = .ok (.iaload, 1) := by decide +kernel
theorem dX8_comesBack_10 : decode cX8_comesBack 10 = .ok (.iconst 0, 1) := by decide +kernel
theorem dX8_comesBack_11 : decode cX8_comesBack 11 = .ok (.iconst 0, 1) := by decide +kernel
theorem dX8_comesBack_12 : decode cX8_comesBack 12 = .ok (.invokevirtual 159, 3) := by decide +kernel
theorem dX8_comesBack_15 : decode cX8_comesBack 15 = .ok (.ifCond .ge 30, 3) := by decide +kernel
theorem dX8_comesBack_18 : decode cX8_comesBack 18 = .ok (.aload_n 0, 1) := by decide +kernel
theorem dX8_comesBack_19 : decode cX8_comesBack 19 = .ok (.iload_n 1, 1) := by decide +kernel
theorem dX8_comesBack_20 : decode cX8_comesBack 20 = .ok (.iload_n 2, 1) := by decide +kernel
theorem dX8_comesBack_21 : decode cX8_comesBack 21 = .ok (.aload_n 0, 1) := by decide +kernel
theorem dX8_comesBack_22 : decode cX8_comesBack 22 = .ok (.getfield 7, 3) := by decide +kernel
theorem dX8_comesBack_25 : decode cX8_comesBack 25 = .ok (.bipush 49, 2) := by decide +kernel
theorem dX8_comesBack_27 : decode cX8_comesBack 27 = .ok (.iaload, 1) := by decide +kernel
theorem dX8_comesBack_28 : decode cX8_comesBack 28 = .ok (.iconst 0, 1) := by decide +kernel
theorem dX8_comesBack_29 : decode cX8_comesBack 29 = .ok (.aload_n 0, 1) := by decide +kernel
theorem dX8_comesBack_30 : decode cX8_comesBack 30 = .ok (.getfield 17, 3) := by decide +kernel
theorem dX8_comesBack_33 : decode cX8_comesBack 33 = .ok (.iconst 0, 1) := by decide +kernel
theorem dX8_comesBack_34 : decode cX8_comesBack 34 = .ok (.iaload, 1) := by decide +kernel
theorem dX8_comesBack_35 : decode cX8_comesBack 35 = .ok (.invokevirtual 159, 3) := by decide +kernel
theorem dX8_comesBack_38 : decode cX8_comesBack 38 = .ok (.ifCond .ge 7, 3) := by decide +kernel
theorem dX8_comesBack_41 : decode cX8_comesBack 41 = .ok (.iconst 1, 1) := by decide +kernel
theorem dX8_comesBack_42 : decode cX8_comesBack 42 = .ok (.goto 4, 3) := by decide +kernel
theorem dX8_comesBack_45 : decode cX8_comesBack 45 = .ok (.iconst 0, 1) := by decide +kernel
theorem dX8_comesBack_46 : decode cX8_comesBack 46 = .ok (.ireturn, 1) := by decide +kernel
theorem dX8_goesBy_0 : decode cX8_goesBy 0 = .ok (.aload_n 0, 1) := by decide +kernel
theorem dX8_goesBy_1 : decode cX8_goesBy 1 = .ok (.iload_n 1, 1) := by decide +kernel
theorem dX8_goesBy_2 : decode cX8_goesBy 2 = .ok (.iload_n 2, 1) := by decide +kernel
theorem dX8_goesBy_3 : decode cX8_goesBy 3 = .ok (.aload_n 0, 1) := by decide +kernel
theorem dX8_goesBy_4 : decode cX8_goesBy 4 = .ok (.getfield 7, 3) := by decide +kernel
theorem dX8_goesBy_7 : decode cX8_goesBy 7 = .ok (.bipush 49, 2) := by decide +kernel
theorem dX8_goesBy_9 : decode cX8_goesBy 9 = .ok (.iaload, 1) := by decide +kernel
theorem dX8_goesBy_10 : decode cX8_goesBy 10 = .ok (.iload_n 3, 1) := by decide +kernel
theorem dX8_goesBy_11 : decode cX8_goesBy 11 = .ok (.iconst 0, 1) := by decide +kernel
theorem dX8_goesBy_12 : decode cX8_goesBy 12 = .ok (.invokevirtual 159, 3) := by decide +kernel
theorem dX8_goesBy_15 : decode cX8_goesBy 15 = .ok (.ifCond .le 7, 3) := by decide +kernel
theorem dX8_goesBy_18 : decode cX8_goesBy 18 = .ok (.iconst 1, 1) := by decide +kernel
theorem dX8_goesBy_19 : decode cX8_goesBy 19 = .ok (.goto 4, 3) := by decide +kernel
theorem dX8_goesBy_22 : decode cX8_goesBy 22 = .ok (.iconst 0, 1) := by decide +kernel
theorem dX8_goesBy_23 : decode cX8_goesBy 23 = .ok (.ireturn, 1) := by decide +kernel
theorem dX8_isHeavy_0 : decode cX8_isHeavy 0 = .ok (.iload_n 0, 1) := by decide +kernel
theorem dX8_isHeavy_1 : decode cX8_isHeavy 1 = .ok (.i2l, 1) := by decide +kernel
theorem dX8_isHeavy_2 : decode cX8_isHeavy 2 = .ok (.lconst 1, 1) := by decide +kernel
theorem dX8_isHeavy_3 : decode cX8_isHeavy 3 = .ok (.ldc2_w 194, 3) := by decide +kernel
theorem dX8_isHeavy_6 : decode cX8_isHeavy 6 = .ok (.invokestatic 72, 3) := by decide +kernel
theorem dX8_isHeavy_9 : decode cX8_isHeavy 9 = .ok (.ireturn, 1) := by decide +kernel
theorem dX8_bubbles_0 : decode cX8_bubbles 0 = .ok (.iload_n 1, 1) := by decide +kernel
theorem dX8_bubbles_1 : decode cX8_bubbles 1 = .ok (.invokestatic 226, 3) := by decide +kernel
theorem dX8_bubbles_4 : decode cX8_bubbles 4 = .ok (.ifCond .eq 22, 3) := by decide +kernel
theorem dX8_bubbles_7 : decode cX8_bubbles 7 = .ok (.iload_n 2, 1) := by decide +kernel
theorem dX8_bubbles_8 : decode cX8_bubbles 8 = .ok (.invokestatic 174, 3) := by decide +kernel
theorem dX8_bubbles_11 : decode cX8_bubbles 11 = .ok (.ifCond .eq 15, 3) := by decide +kernel
theorem dX8_bubbles_14 : decode cX8_bubbles 14 = .ok (.iload_n 3, 1) := by decide +kernel
theorem dX8_bubbles_15 : decode cX8_bubbles 15 = .ok (.i2l, 1) := by decide +kernel
theorem dX8_bubbles_16 : decode cX8_bubbles 16 = .ok (.lconst 0, 1) := by decide +kernel
theorem dX8_bubbles_17 : decode cX8_bubbles 17 = .ok (.ldc2_w 229, 3) := by decide +kernel
theorem dX8_bubbles_20 : decode cX8_bubbles 20 = .ok (.invokestatic 72, 3) := by decide +kernel
theorem dX8_bubbles_23 : decode cX8_bubbles 23 = .ok (.ifCond .ne 5, 3) := by decide +kernel
theorem dX8_bubbles_26 : decode cX8_bubbles 26 = .ok (.iconst (-1), 1) := by decide +kernel
theorem dX8_bubbles_27 : decode cX8_bubbles 27 = .ok (.ireturn, 1) := by decide +kernel
theorem dX8_bubbles_28 : decode cX8_bubbles 28 = .ok (.aload_n 0, 1) := by decide +kernel
theorem dX8_bubbles_29 : decode cX8_bubbles 29 = .ok (.invokevirtual 231, 3) := by decide +kernel
theorem dX8_bubbles_32 : decode cX8_bubbles 32 = .ok (.iconst 0, 1) := by decide +kernel
theorem dX8_bubbles_33 : decode cX8_bubbles 33 = .ok (.istore 4, 2) := by decide +kernel
theorem dX8_bubbles_35 : decode cX8_bubbles 35 = .ok (.iload 4, 2) := by decide +kernel
theorem dX8_bubbles_37 : decode cX8_bubbles 37 = .ok (.sipush 9999, 3) := by decide +kernel
theorem dX8_bubbles_40 : decode cX8_bubbles 40 = .ok (.if_icmp .gt 36, 3) := by decide +kernel
theorem dX8_bubbles_43 : decode cX8_bubbles 43 = .ok (.aload_n 0, 1) := by decide +kernel
theorem dX8_bubbles_44 : decode cX8_bubbles 44 = .ok (.iload_n 1, 1) := by decide +kernel
theorem dX8_bubbles_45 : decode cX8_bubbles 45 = .ok (.iload 4, 2) := by decide +kernel
theorem dX8_bubbles_47 : decode cX8_bubbles 47 = .ok (.invokevirtual 234, 3) := by decide +kernel
theorem dX8_bubbles_50 : decode cX8_bubbles 50 = .ok (.ifCond .eq 20, 3) := by decide +kernel
theorem dX8_bubbles_53 : decode cX8_bubbles 53 = .ok (.aload_n 0, 1) := by decide +kernel
theorem dX8_bubbles_54 : decode cX8_bubbles 54 = .ok (.iload_n 1, 1) := by decide +kernel
theorem dX8_bubbles_55 : decode cX8_bubbles 55 = .ok (.iload 4, 2) := by decide +kernel
theorem dX8_bubbles_57 : decode cX8_bubbles 57 = .ok (.iload_n 2, 1) := by decide +kernel
theorem dX8_bubbles_58 : decode cX8_bubbles 58 = .ok (.invokevirtual 238, 3) := by decide +kernel
theorem dX8_bubbles_61 : decode cX8_bubbles 61 = .ok (.ifCond .eq 9, 3) := by decide +kernel
theorem dX8_bubbles_64 : decode cX8_bubbles 64 = .ok (.aload_n 0, 1) := by decide +kernel
theorem dX8_bubbles_65 : decode cX8_bubbles 65 = .ok (.iload 4, 2) := by decide +kernel
theorem dX8_bubbles_67 : decode cX8_bubbles 67 = .ok (.invokevirtual 242, 3) := by decide +kernel
theorem dX8_bubbles_70 : decode cX8_bubbles 70 = .ok (.iinc 4 1, 3) := by decide +kernel
theorem dX8_bubbles_73 : decode cX8_bubbles 73 = .ok (.goto (-38), 3) := by decide +kernel
theorem dX8_bubbles_76 : decode cX8_bubbles 76 = .ok (.aload_n 0, 1) := by decide +kernel
theorem dX8_bubbles_77 : decode cX8_bubbles 77 = .ok (.iload_n 3, 1) := by decide +kernel
theorem dX8_bubbles_78 : decode cX8_bubbles 78 = .ok (.invokevirtual 245, 3) := by decide +kernel
theorem dX8_bubbles_81 : decode cX8_bubbles 81 = .ok (.ireturn, 1) := by decide +kernel
theorem dX8_atThumb_0 : decode cX8_atThumb 0 = .ok (.iload_n 1, 1) := by decide +kernel
theorem dX8_atThumb_1 : decode cX8_atThumb 1 = .ok (.invokestatic 226, 3) := by decide +kernel
theorem dX8_atThumb_4 : decode cX8_atThumb 4 = .ok (.ifCond .eq 22, 3) := by decide +kernel
theorem dX8_atThumb_7 : decode cX8_atThumb 7 = .ok (.iload_n 2, 1) := by decide +kernel
theorem dX8_atThumb_8 : decode cX8_atThumb 8 = .ok (.invokestatic 174, 3) := by decide +kernel
theorem dX8_atThumb_11 : decode cX8_atThumb 11 = .ok (.ifCond .eq 15, 3) := by decide +kernel
theorem dX8_atThumb_14 : decode cX8_atThumb 14 = .ok (.iload_n 3, 1) := by decide +kernel
theorem dX8_atThumb_15 : decode cX8_atThumb 15 = .ok (.i2l, 1) := by decide +kernel
theorem dX8_atThumb_16 : decode cX8_atThumb 16 = .ok (.lconst 0, 1) := by decide +kernel
theorem dX8_atThumb_17 : decode cX8_atThumb 17 = .ok (.ldc2_w 229, 3) := by decide +kernel
theorem dX8_atThumb_20 : decode cX8_atThumb 20 = .ok (.invokestatic 72, 3) := by decide +kernel
theorem dX8_atThumb_23 : decode cX8_atThumb 23 = .ok (.ifCond .ne 5, 3) := by decide +kernel
theorem dX8_atThumb_26 : decode cX8_atThumb 26 = .ok (.iconst (-1), 1) := by decide +kernel
theorem dX8_atThumb_27 : decode cX8_atThumb 27 = .ok (.ireturn, 1) := by decide +kernel
theorem dX8_atThumb_28 : decode cX8_atThumb 28 = .ok (.aload_n 0, 1) := by decide +kernel
theorem dX8_atThumb_29 : decode cX8_atThumb 29 = .ok (.invokevirtual 231, 3) := by decide +kernel
theorem dX8_atThumb_32 : decode cX8_atThumb 32 = .ok (.iconst 0, 1) := by decide +kernel
theorem dX8_atThumb_33 : decode cX8_atThumb 33 = .ok (.istore 4, 2) := by decide +kernel
theorem dX8_atThumb_35 : decode cX8_atThumb 35 = .ok (.iload 4, 2) := by decide +kernel
theorem dX8_atThumb_37 : decode cX8_atThumb 37 = .ok (.sipush 9999, 3) := by decide +kernel
theorem dX8_atThumb_40 : decode cX8_atThumb 40 = .ok (.if_icmp .gt 43, 3) := by decide +kernel
theorem dX8_atThumb_43 : decode cX8_atThumb 43 = .ok (.aload_n 0, 1) := by decide +kernel
theorem dX8_atThumb_44 : decode cX8_atThumb 44 = .ok (.iload_n 1, 1) := by decide +kernel
theorem dX8_atThumb_45 : decode cX8_atThumb 45 = .ok (.iload 4, 2) := by decide +kernel
theorem dX8_atThumb_47 : decode cX8_atThumb 47 = .ok (.iload_n 2, 1) := by decide +kernel
theorem dX8_atThumb_48 : decode cX8_atThumb 48 = .ok (.invokevirtual 238, 3) := by decide +kernel
theorem dX8_atThumb_51 : decode cX8_atThumb 51 = .ok (.ifCond .eq 26, 3) := by decide +kernel
theorem dX8_atThumb_54 : decode cX8_atThumb 54 = .ok (.iload_n 2, 1) := by decide +kernel
theorem dX8_atThumb_55 : decode cX8_atThumb 55 = .ok (.ifCond .eq 16, 3) := by decide +kernel
theorem dX8_atThumb_58 : decode cX8_atThumb 58 = .ok (.aload_n 0, 1) := by decide +kernel
theorem dX8_atThumb_59 : decode cX8_atThumb 59 = .ok (.iload_n 1, 1) := by decide +kernel
theorem dX8_atThumb_60 : decode cX8_atThumb 60 = .ok (.iload 4, 2) := by decide +kernel
theorem dX8_atThumb_62 : decode cX8_atThumb 62 = .ok (.iload_n 2, 1) := by decide +kernel
theorem dX8_atThumb_63 : decode cX8_atThumb 63 = .ok (.iconst 1, 1) := by decide +kernel
theorem dX8_atThumb_64 : decode cX8_atThumb 64 = .ok (.isub, 1) := by decide +kernel
theorem dX8_atThumb_65 : decode cX8_atThumb 65 = .ok (.invokevirtual 238, 3) := by decide +kernel
theorem dX8_atThumb_68 : decode cX8_atThumb 68 = .ok (.ifCond .ne 9, 3) := by decide +kernel
theorem dX8_atThumb_71 : decode cX8_atThumb 71 = .ok (.aload_n 0, 1) := by decide +kernel
theorem dX8_atThumb_72 : decode cX8_atThumb 72 = .ok (.iload 4, 2) := by decide +kernel
theorem dX8_atThumb_74 : decode cX8_atThumb 74 = .ok (.invokevirtual 242, 3) := by decide +kernel
theorem dX8_atThumb_77 : decode cX8_atThumb 77 = .ok (.iinc 4 1, 3) := by decide +kernel
theorem dX8_atThumb_80 : decode cX8_atThumb 80 = .ok (.goto (-45), 3) := by decide +kernel
theorem dX8_atThumb_83 : decode cX8_atThumb 83 = .ok (.aload_n 0, 1) := by decide +kernel
theorem dX8_atThumb_84 : decode cX8_atThumb 84 = .ok (.iload_n 3, 1) := by decide +kernel
theorem dX8_atThumb_85 : decode cX8_atThumb 85 = .ok (.invokevirtual 245, 3) := by decide +kernel
theorem dX8_atThumb_88 : decode cX8_atThumb 88 = .ok (.ireturn, 1) := by decide +kernel
theorem dX8_layThumbs_0 : decode cX8_layThumbs 0 = .ok (.iconst 0, 1) := by decide +kernel
theorem dX8_layThumbs_1 : decode cX8_layThumbs 1 = .ok (.istore_n 2, 1) := by decide +kernel
theorem dX8_layThumbs_2 : decode cX8_layThumbs 2 = .ok (.iload_n 2, 1) := by decide +kernel
theorem dX8_layThumbs_3 : decode cX8_layThumbs 3 = .ok (.sipush 500, 3) := by decide +kernel
theorem dX8_layThumbs_6 : decode cX8_layThumbs 6 = .ok (.if_icmp .gt 16, 3) := by decide +kernel
theorem dX8_layThumbs_9 : decode cX8_layThumbs 9 = .ok (.aload_n 0, 1) := by decide +kernel
theorem dX8_layThumbs_10 : decode cX8_layThumbs 10 = .ok (.getfield 35, 3) := by decide +kernel
theorem dX8_layThumbs_13 : decode cX8_layThumbs 13 = .ok (.iload_n 2, 1) := by decide +kernel
theorem dX8_layThumbs_14 : decode cX8_layThumbs 14 = .ok (.iconst 0, 1) := by decide +kernel
theorem dX8_layThumbs_15 : decode cX8_layThumbs 15 = .ok (.bastore, 1) := by decide +kernel
theorem dX8_layThumbs_16 : decode cX8_layThumbs 16 = .ok (.iinc 2 1, 3) := by decide +kernel
theorem dX8_layThumbs_19 : decode cX8_layThumbs 19 = .ok (.goto (-17), 3) := by decide +kernel
theorem dX8_layThumbs_22 : decode cX8_layThumbs 22 = .ok (.iconst 0, 1) := by decide +kernel
theorem dX8_layThumbs_23 : decode cX8_layThumbs 23 = .ok (.istore_n 2, 1) := by decide +kernel
theorem dX8_layThumbs_24 : decode cX8_layThumbs 24 = .ok (.iconst 0, 1) := by decide +kernel
theorem dX8_layThumbs_25 : decode cX8_layThumbs 25 = .ok (.istore_n 3, 1) := by decide +kernel
theorem dX8_layThumbs_26 : decode cX8_layThumbs 26 = .ok (.iload_n 3, 1) := by decide +kernel
theorem dX8_layThumbs_27 : decode cX8_layThumbs 27 = .ok (.sipush 9999, 3) := by decide +kernel
theorem dX8_layThumbs_30 : decode cX8_layThumbs 30 = .ok (.if_icmp .gt 62, 3) := by decide +kernel
theorem dX8_layThumbs_33 : decode cX8_layThumbs 33 = .ok (.iload_n 2, 1) := by decide +kernel
theorem dX8_layThumbs_34 : decode cX8_layThumbs 34 = .ok (.sipush 500, 3) := by decide +kernel
theorem dX8_layThumbs_37 : decode cX8_layThumbs 37 = .ok (.if_icmp .gt 55, 3) := by decide +kernel
theorem dX8_layThumbs_40 : decode cX8_layThumbs 40 = .ok (.iload_n 2, 1) := by decide +kernel
theorem dX8_layThumbs_41 : decode cX8_layThumbs 41 = .ok (.sipush 500, 3) := by decide +kernel
theorem dX8_layThumbs_44 : decode cX8_layThumbs 44 = .ok (.if_icmp .gt 19, 3) := by decide +kernel
theorem dX8_layThumbs_47 : decode cX8_layThumbs 47 = .ok (.aload_n 0, 1) := by decide +kernel
theorem dX8_layThumbs_48 : decode cX8_layThumbs 48 = .ok (.iload_n 1, 1) := by decide +kernel
theorem dX8_layThumbs_49 : decode cX8_layThumbs 49 = .ok (.iload_n 3, 1) := by decide +kernel
theorem dX8_layThumbs_50 : decode cX8_layThumbs 50 = .ok (.iload_n 2, 1) := by decide +kernel
theorem dX8_layThumbs_51 : decode cX8_layThumbs 51 = .ok (.invokevirtual 238, 3) := by decide +kernel
theorem dX8_layThumbs_54 : decode cX8_layThumbs 54 = .ok (.ifCond .ne 9, 3) := by decide +kernel
theorem dX8_layThumbs_57 : decode cX8_layThumbs 57 = .ok (.iinc 2 1, 3) := by decide +kernel
theorem dX8_layThumbs_60 : decode cX8_layThumbs 60 = .ok (.goto (-20), 3) := by decide +kernel
theorem dX8_layThumbs_63 : decode cX8_layThumbs 63 = .ok (.iload_n 2, 1) := by decide +kernel
theorem dX8_layThumbs_64 : decode cX8_layThumbs 64 = .ok (.sipush 500, 3) := by decide +kernel
theorem dX8_layThumbs_67 : decode cX8_layThumbs 67 = .ok (.if_icmp .gt 19, 3) := by decide +kernel
theorem dX8_layThumbs_70 : decode cX8_layThumbs 70 = .ok (.aload_n 0, 1) := by decide +kernel
theorem dX8_layThumbs_71 : decode cX8_layThumbs 71 = .ok (.iload_n 1, 1) := by decide +kernel
theorem dX8_layThumbs_72 : decode cX8_layThumbs 72 = .ok (.iload_n 3, 1) := by decide +kernel
theorem dX8_layThumbs_73 : decode cX8_layThumbs 73 = .ok (.invokevirtual 234, 3) := by decide +kernel
theorem dX8_layThumbs_76 : decode cX8_layThumbs 76 = .ok (.ifCond .eq 10, 3) := by decide +kernel
theorem dX8_layThumbs_79 : decode cX8_layThumbs 79 = .ok (.aload_n 0, 1) := by decide +kernel
theorem dX8_layThumbs_80 : decode cX8_layThumbs 80 = .ok (.getfield 35, 3) := by decide +kernel
theorem dX8_layThumbs_83 : decode cX8_layThumbs 83 = .ok (.iload_n 2, 1) := by decide +kernel
theorem dX8_layThumbs_84 : decode cX8_layThumbs 84 = .ok (.iconst 1, 1) := by decide +kernel
theorem dX8_layThumbs_85 : decode cX8_layThumbs 85 = .ok (.bastore, 1) := by decide +kernel
theorem dX8_layThumbs_86 : decode cX8_layThumbs 86 = .ok (.iinc 3 1, 3) := by decide +kernel
theorem dX8_layThumbs_89 : decode cX8_layThumbs 89 = .ok (.goto (-63), 3) := by decide +kernel
theorem dX8_layThumbs_92 : decode cX8_layThumbs 92 = .ok (.return_, 1) := by decide +kernel
theorem dX8_takenBy_0 : decode cX8_takenBy 0 = .ok (.iconst 0, 1) := by decide +kernel
theorem dX8_takenBy_1 : decode cX8_takenBy 1 = .ok (.istore_n 2, 1) := by decide +kernel
theorem dX8_takenBy_2 : decode cX8_takenBy 2 = .ok (.sipush (-500), 3) := by decide +kernel
theorem dX8_takenBy_5 : decode cX8_takenBy 5 = .ok (.istore_n 3, 1) := by decide +kernel
theorem dX8_takenBy_6 : decode cX8_takenBy 6 = .ok (.iconst 0, 1) := by decide +kernel
theorem dX8_takenBy_7 : decode cX8_takenBy 7 = .ok (.istore 4, 2) := by decide +kernel
theorem dX8_takenBy_9 : decode cX8_takenBy 9 = .ok (.iload 4, 2) := by decide +kernel
theorem dX8_takenBy_11 : decode cX8_takenBy 11 = .ok (.sipush 500, 3) := by decide +kernel
theorem dX8_takenBy_14 : decode cX8_takenBy 14 = .ok (.if_icmp .gt 33, 3) := by decide +kernel
theorem dX8_takenBy_17 : decode cX8_takenBy 17 = .ok (.aload_n 0, 1) := by decide +kernel
theorem dX8_takenBy_18 : decode cX8_takenBy 18 = .ok (.getfield 35, 3) := by decide +kernel
theorem dX8_takenBy_21 : decode cX8_takenBy 21 = .ok (.iload 4, 2) := by decide +kernel
theorem dX8_takenBy_23 : decode cX8_takenBy 23 = .ok (.baload, 1) := by decide +kernel
theorem dX8_takenBy_24 : decode cX8_takenBy 24 = .ok (.ifCond .eq 17, 3) := by decide +kernel
theorem dX8_takenBy_27 : decode cX8_takenBy 27 = .ok (.iload 4, 2) := by decide +kernel
theorem dX8_takenBy_29 : decode cX8_takenBy 29 = .ok (.iload_n 3, 1) := by decide +kernel
theorem dX8_takenBy_30 : decode cX8_takenBy 30 = .ok (.isub, 1) := by decide +kernel
theorem dX8_takenBy_31 : decode cX8_takenBy 31 = .ok (.iload_n 1, 1) := by decide +kernel
theorem dX8_takenBy_32 : decode cX8_takenBy 32 = .ok (.if_icmp .lt 9, 3) := by decide +kernel
theorem dX8_takenBy_35 : decode cX8_takenBy 35 = .ok (.iinc 2 1, 3) := by decide +kernel
theorem dX8_takenBy_38 : decode cX8_takenBy 38 = .ok (.iload 4, 2) := by decide +kernel
theorem dX8_takenBy_40 : decode cX8_takenBy 40 = .ok (.istore_n 3, 1) := by decide +kernel
theorem dX8_takenBy_41 : decode cX8_takenBy 41 = .ok (.iinc 4 1, 3) := by decide +kernel
theorem dX8_takenBy_44 : decode cX8_takenBy 44 = .ok (.goto (-35), 3) := by decide +kernel
theorem dX8_takenBy_47 : decode cX8_takenBy 47 = .ok (.iload_n 2, 1) := by decide +kernel
theorem dX8_takenBy_48 : decode cX8_takenBy 48 = .ok (.ireturn, 1) := by decide +kernel
theorem dX8_spread_0 : decode cX8_spread 0 = .ok (.iload_n 1, 1) := by decide +kernel
theorem dX8_spread_1 : decode cX8_spread 1 = .ok (.invokestatic 226, 3) := by decide +kernel
theorem dX8_spread_4 : decode cX8_spread 4 = .ok (.ifCond .eq 27, 3) := by decide +kernel
theorem dX8_spread_7 : decode cX8_spread 7 = .ok (.iload_n 2, 1) := by decide +kernel
theorem dX8_spread_8 : decode cX8_spread 8 = .ok (.i2l, 1) := by decide +kernel
theorem dX8_spread_9 : decode cX8_spread 9 = .ok (.ldc2_w 229, 3) := by decide +kernel
theorem dX8_spread_12 : decode cX8_spread 12 = .ok (.ldc2_w 145, 3) := by decide +kernel
theorem dX8_spread_15 : decode cX8_spread 15 = .ok (.invokestatic 72, 3) := by decide +kernel
theorem dX8_spread_18 : decode cX8_spread 18 = .ok (.ifCond .eq 13, 3) := by decide +kernel
theorem dX8_spread_21 : decode cX8_spread 21 = .ok (.iload_n 3, 1) := by decide +kernel
theorem dX8_spread_22 : decode cX8_spread 22 = .ok (.i2l, 1) := by decide +kernel
theorem dX8_spread_23 : decode cX8_spread 23 = .ok (.lconst 0, 1) := by decide +kernel
theorem dX8_spread_24 : decode cX8_spread 24 = .ok (.lconst 1, 1) := by decide +kernel
theorem dX8_spread_25 : decode cX8_spread 25 = .ok (.invokestatic 72, 3) := by decide +kernel
theorem dX8_spread_28 : decode cX8_spread 28 = .ok (.ifCond .ne 5, 3) := by decide +kernel
theorem dX8_spread_31 : decode cX8_spread 31 = .ok (.iconst (-1), 1) := by decide +kernel
theorem dX8_spread_32 : decode cX8_spread 32 = .ok (.ireturn, 1) := by decide +kernel
theorem dX8_spread_33 : decode cX8_spread 33 = .ok (.aload_n 0, 1) := by decide +kernel
theorem dX8_spread_34 : decode cX8_spread 34 = .ok (.iload_n 1, 1) := by decide +kernel
theorem dX8_spread_35 : decode cX8_spread 35 = .ok (.invokevirtual 248, 3) := by decide +kernel
theorem dX8_spread_38 : decode cX8_spread 38 = .ok (.iconst 0, 1) := by decide +kernel
theorem dX8_spread_39 : decode cX8_spread 39 = .ok (.istore 4, 2) := by decide +kernel
theorem dX8_spread_41 : decode cX8_spread 41 = .ok (.iload 4, 2) := by decide +kernel
theorem dX8_spread_43 : decode cX8_spread 43 = .ok (.sipush 500, 3) := by decide +kernel
theorem dX8_spread_46 : decode cX8_spread 46 = .ok (.if_icmp .ge 21, 3) := by decide +kernel
theorem dX8_spread_49 : decode cX8_spread 49 = .ok (.aload_n 0, 1) := by decide +kernel
theorem dX8_spread_50 : decode cX8_spread 50 = .ok (.iload 4, 2) := by decide +kernel
theorem dX8_spread_52 : decode cX8_spread 52 = .ok (.iconst 1, 1) := by decide +kernel
theorem dX8_spread_53 : decode cX8_spread 53 = .ok (.iadd, 1) := by decide +kernel
theorem dX8_spread_54 : decode cX8_spread 54 = .ok (.invokevirtual 251, 3) := by decide +kernel
theorem dX8_spread_57 : decode cX8_spread 57 = .ok (.iload_n 2, 1) := by decide +kernel
theorem dX8_spread_58 : decode cX8_spread 58 = .ok (.if_icmp .lt 9, 3) := by decide +kernel
theorem dX8_spread_61 : decode cX8_spread 61 = .ok (.iinc 4 1, 3) := by decide +kernel
theorem dX8_spread_64 : decode cX8_spread 64 = .ok (.goto (-23), 3) := by decide +kernel
theorem dX8_spread_67 : decode cX8_spread 67 = .ok (.iconst 0, 1) := by decide +kernel
theorem dX8_spread_68 : decode cX8_spread 68 = .ok (.istore 5, 2) := by decide +kernel
theorem dX8_spread_70 : decode cX8_spread 70 = .ok (.iload 5, 2) := by decide +kernel
theorem dX8_spread_72 : decode cX8_spread 72 = .ok (.sipush 500, 3) := by decide +kernel
theorem dX8_spread_75 : decode cX8_spread 75 = .ok (.if_icmp .ge 19, 3) := by decide +kernel
theorem dX8_spread_78 : decode cX8_spread 78 = .ok (.aload_n 0, 1) := by decide +kernel
theorem dX8_spread_79 : decode cX8_spread 79 = .ok (.getfield 35, 3) := by decide +kernel
theorem dX8_spread_82 : decode cX8_spread 82 = .ok (.iload 5, 2) := by decide +kernel
theorem dX8_spread_84 : decode cX8_spread 84 = .ok (.baload, 1) := by decide +kernel
theorem dX8_spread_85 : decode cX8_spread 85 = .ok (.ifCond .ne 9, 3) := by decide +kernel
theorem dX8_spread_88 : decode cX8_spread 88 = .ok (.iinc 5 1, 3) := by decide +kernel
theorem dX8_spread_91 : decode cX8_spread 91 = .ok (.goto (-21), 3) := by decide +kernel
theorem dX8_spread_94 : decode cX8_spread 94 = .ok (.iload 4, 2) := by decide +kernel
theorem dX8_spread_96 : decode cX8_spread 96 = .ok (.ifCond .ne 8, 3) := by decide +kernel
theorem dX8_spread_99 : decode cX8_spread 99 = .ok (.bipush (-4), 2) := by decide +kernel
theorem dX8_spread_101 : decode cX8_spread 101 = .ok (.goto 14, 3) := by decide +kernel
theorem dX8_spread_104 : decode cX8_spread 104 = .ok (.iload_n 3, 1) := by decide +kernel
theorem dX8_spread_105 : decode cX8_spread 105 = .ok (.ifCond .ne 8, 3) := by decide +kernel
theorem dX8_spread_108 : decode cX8_spread 108 = .ok (.iload 4, 2) := by decide +kernel
theorem dX8_spread_110 : decode cX8_spread 110 = .ok (.goto 5, 3) := by decide +kernel
theorem dX8_spread_113 : decode cX8_spread 113 = .ok (.iload 5, 2) := by decide +kernel
theorem dX8_spread_115 : decode cX8_spread 115 = .ok (.ireturn, 1) := by decide +kernel
theorem dX8_holds_0 : decode cX8_holds 0 = .ok (.bipush 64, 2) := by decide +kernel
theorem dX8_holds_2 : decode cX8_holds 2 = .ok (.iload_n 2, 1) := by decide +kernel
theorem dX8_holds_3 : decode cX8_holds 3 = .ok (.imul, 1) := by decide +kernel
theorem dX8_holds_4 : decode cX8_holds 4 = .ok (.istore 7, 2) := by decide +kernel
theorem dX8_holds_6 : decode cX8_holds 6 = .ok (.aload_n 0, 1) := by decide +kernel
theorem dX8_holds_7 : decode cX8_holds 7 = .ok (.iload 7, 2) := by decide +kernel
theorem dX8_holds_9 : decode cX8_holds 9 = .ok (.putfield 184, 3) := by decide +kernel
theorem dX8_holds_12 : decode cX8_holds 12 = .ok (.aload_n 0, 1) := by decide +kernel
theorem dX8_holds_13 : decode cX8_holds 13 = .ok (.iconst 0, 1) := by decide +kernel
theorem dX8_holds_14 : decode cX8_holds 14 = .ok (.putfield 181, 3) := by decide +kernel
theorem dX8_holds_17 : decode cX8_holds 17 = .ok (.aload_n 0, 1) := by decide +kernel
theorem dX8_holds_18 : decode cX8_holds 18 = .ok (.getfield 38, 3) := by decide +kernel
theorem dX8_holds_21 : decode cX8_holds 21 = .ok (.iconst 0, 1) := by decide +kernel
theorem dX8_holds_22 : decode cX8_holds 22 = .ok (.aload_n 0, 1) := by decide +kernel
theorem dX8_holds_23 : decode cX8_holds 23 = .ok (.getfield 184, 3) := by decide +kernel
theorem dX8_holds_26 : decode cX8_holds 26 = .ok (.iastore, 1) := by decide +kernel
theorem dX8_holds_27 : decode cX8_holds 27 = .ok (.aload_n 0, 1) := by decide +kernel
theorem dX8_holds_28 : decode cX8_holds 28 = .ok (.bipush (-4), 2) := by decide +kernel
theorem dX8_holds_30 : decode cX8_holds 30 = .ok (.putfield 254, 3) := by decide +kernel
theorem dX8_holds_33 : decode cX8_holds 33 = .ok (.aload_n 0, 1) := by decide +kernel
theorem dX8_holds_34 : decode cX8_holds 34 = .ok (.iconst 0, 1) := by decide +kernel
theorem dX8_holds_35 : decode cX8_holds 35 = .ok (.putfield 257, 3) := by decide +kernel
theorem dX8_holds_38 : decode cX8_holds 38 = .ok (.aload_n 0, 1) := by decide +kernel
theorem dX8_holds_39 : decode cX8_holds 39 = .ok (.iload_n 3, 1) := by decide +kernel
theorem dX8_holds_40 : decode cX8_holds 40 = .ok (.putfield 260, 3) := by decide +kernel
theorem dX8_holds_43 : decode cX8_holds 43 = .ok (.iconst 0, 1) := by decide +kernel
theorem dX8_holds_44 : decode cX8_holds 44 = .ok (.istore 8, 2) := by decide +kernel
theorem dX8_holds_46 : decode cX8_holds 46 = .ok (.iload 8, 2) := by decide +kernel
theorem dX8_holds_48 : decode cX8_holds 48 = .ok (.iload 6, 2) := by decide +kernel
theorem dX8_holds_50 : decode cX8_holds 50 = .ok (.if_icmp .ge 212, 3) := by decide +kernel
theorem dX8_holds_53 : decode cX8_holds 53 = .ok (.aload_n 0, 1) := by decide +kernel
theorem dX8_holds_54 : decode cX8_holds 54 = .ok (.getfield 254, 3) := by decide +kernel
theorem dX8_holds_57 : decode cX8_holds 57 = .ok (.bipush (-4), 2) := by decide +kernel
theorem dX8_holds_59 : decode cX8_holds 59 = .ok (.if_icmp .ne 203, 3) := by decide +kernel
theorem dX8_holds_62 : decode cX8_holds 62 = .ok (.aload_n 0, 1) := by decide +kernel
theorem dX8_holds_63 : decode cX8_holds 63 = .ok (.getfield 38, 3) := by decide +kernel
theorem dX8_holds_66 : decode cX8_holds 66 = .ok (.iload 8, 2) := by decide +kernel
theorem dX8_holds_68 : decode cX8_holds 68 = .ok (.iload 4, 2) := by decide +kernel
theorem dX8_holds_70 : decode cX8_holds 70 = .ok (.if_icmp .ge 7, 3) := by decide +kernel
theorem dX8_holds_73 : decode cX8_holds 73 = .ok (.iconst 0, 1) := by decide +kernel
theorem dX8_holds_74 : decode cX8_holds 74 = .ok (.goto 8, 3) := by decide +kernel
theorem dX8_holds_77 : decode cX8_holds 77 = .ok (.iload 8, 2) := by decide +kernel
theorem dX8_holds_79 : decode cX8_holds 79 = .ok (.iload 4, 2) := by decide +kernel
theorem dX8_holds_81 : decode cX8_holds 81 = .ok (.isub, 1) := by decide +kernel
theorem dX8_holds_82 : decode cX8_holds 82 = .ok (.iaload, 1) := by decide +kernel
theorem dX8_holds_83 : decode cX8_holds 83 = .ok (.istore 9, 2) := by decide +kernel
theorem dX8_holds_85 : decode cX8_holds 85 = .ok (.aload_n 0, 1) := by decide +kernel
theorem dX8_holds_86 : decode cX8_holds 86 = .ok (.dup, 1) := by decide +kernel
theorem dX8_holds_87 : decode cX8_holds 87 = .ok (.getfield 260, 3) := by decide +kernel
theorem dX8_holds_90 : decode cX8_holds 90 = .ok (.iload 9, 2) := by decide +kernel
theorem dX8_holds_92 : decode cX8_holds 92 = .ok (.iload 7, 2) := by decide +kernel
theorem dX8_holds_94 : decode cX8_holds 94 = .ok (.if_icmp .ge 8, 3) := by decide +kernel
theorem dX8_holds_97 : decode cX8_holds 97 = .ok (.iload 5, 2) := by decide +kernel
theorem dX8_holds_99 : decode cX8_holds 99 = .ok (.goto 17, 3) := by decide +kernel
theorem dX8_holds_102 : decode cX8_holds 102 = .ok (.iload 9, 2) := by decide +kernel
theorem dX8_holds_104 : decode cX8_holds 104 = .ok (.iload 7, 2) := by decide +kernel
theorem dX8_holds_106 : decode cX8_holds 106 = .ok (.if_icmp .le 9, 3) := by decide +kernel
theorem dX8_holds_109 : decode cX8_holds 109 = .ok (.iload 5, 2) := by decide +kernel
theorem dX8_holds_111 : decode cX8_holds 111 = .ok (.ineg, 1) := by decide +kernel
theorem dX8_holds_112 : decode cX8_holds 112 = .ok (.goto 4, 3) := by decide +kernel
theorem dX8_holds_115 : decode cX8_holds 115 = .ok (.iconst 0, 1) := by decide +kernel
theorem dX8_holds_116 : decode cX8_holds 116 = .ok (.iadd, 1) := by decide +kernel
theorem dX8_holds_117 : decode cX8_holds 117 = .ok (.putfield 260, 3) := by decide +kernel
theorem dX8_holds_120 : decode cX8_holds 120 = .ok (.aload_n 0, 1) := by decide +kernel
theorem dX8_holds_121 : decode cX8_holds 121 = .ok (.aload_n 0, 1) := by decide +kernel
theorem dX8_holds_122 : decode cX8_holds 122 = .ok (.getfield 260, 3) := by decide +kernel
theorem dX8_holds_125 : decode cX8_holds 125 = .ok (.ifCond .ge 7, 3) := by decide +kernel
theorem dX8_holds_128 : decode cX8_holds 128 = .ok (.iconst 0, 1) := by decide +kernel
theorem dX8_holds_129 : decode cX8_holds 129 = .ok (.goto 23, 3) := by decide +kernel
theorem dX8_holds_132 : decode cX8_holds 132 = .ok (.aload_n 0, 1) := by decide +kernel
theorem dX8_holds_133 : decode cX8_holds 133 = .ok (.getfield 260, 3) := by decide +kernel
theorem dX8_holds_136 : decode cX8_holds 136 = .ok (.sipush 500, 3) := by decide +kernel
theorem dX8_holds_139 : decode cX8_holds 139 = .ok (.if_icmp .le 9, 3) := by decide +kernel
theorem dX8_holds_142 : decode cX8_holds 142 = .ok (.sipush 500, 3) := by decide +kernel
theorem dX8_holds_145 : decode cX8_holds 145 = .ok (.goto 7, 3) := by decide +kernel
theorem dX8_holds_148 : decode cX8_holds 148 = .ok (.aload_n 0, 1) := by decide +kernel
theorem dX8_holds_149 : decode cX8_holds 149 = .ok (.getfield 260, 3) := by decide +kernel
theorem dX8_holds_152 : decode cX8_holds 152 = .ok (.putfield 260, 3) := by decide +kernel
theorem dX8_holds_155 : decode cX8_holds 155 = .ok (.aload_n 0, 1) := by decide +kernel
theorem dX8_holds_156 : decode cX8_holds 156 = .ok (.aload_n 0, 1) := by decide +kernel
theorem dX8_holds_157 : decode cX8_holds 157 = .ok (.iload_n 1, 1) := by decide +kernel
theorem dX8_holds_158 : decode cX8_holds 158 = .ok (.invokevirtual 156, 3) := by decide +kernel
theorem dX8_holds_161 : decode cX8_holds 161 = .ok (.aload_n 0, 1) := by decide +kernel
theorem dX8_holds_162 : decode cX8_holds 162 = .ok (.iload_n 1, 1) := by decide +kernel
theorem dX8_holds_163 : decode cX8_holds 163 = .ok (.iconst 1, 1) := by decide +kernel
theorem dX8_holds_164 : decode cX8_holds 164 = .ok (.invokevirtual 153, 3) := by decide +kernel
theorem dX8_holds_167 : decode cX8_holds 167 = .ok (.aload_n 0, 1) := by decide +kernel
theorem dX8_holds_168 : decode cX8_holds 168 = .ok (.getfield 260, 3) := by decide +kernel
theorem dX8_holds_171 : decode cX8_holds 171 = .ok (.invokevirtual 190, 3) := by decide +kernel
theorem dX8_holds_174 : decode cX8_holds 174 = .ok (.aload_n 0, 1) := by decide +kernel
theorem dX8_holds_175 : decode cX8_holds 175 = .ok (.getfield 38, 3) := by decide +kernel
theorem dX8_holds_178 : decode cX8_holds 178 = .ok (.iload 8, 2) := by decide +kernel
theorem dX8_holds_180 : decode cX8_holds 180 = .ok (.iconst 1, 1) := by decide +kernel
theorem dX8_holds_181 : decode cX8_holds 181 = .ok (.iadd, 1) := by decide +kernel
theorem dX8_holds_182 : decode cX8_holds 182 = .ok (.aload_n 0, 1) := by decide +kernel
theorem dX8_holds_183 : decode cX8_holds 183 = .ok (.getfield 184, 3) := by decide +kernel
theorem dX8_holds_186 : decode cX8_holds 186 = .ok (.iastore, 1) := by decide +kernel
theorem dX8_holds_187 : decode cX8_holds 187 = .ok (.aload_n 0, 1) := by decide +kernel
theorem dX8_holds_188 : decode cX8_holds 188 = .ok (.aload_n 0, 1) := by decide +kernel
theorem dX8_holds_189 : decode cX8_holds 189 = .ok (.getfield 184, 3) := by decide +kernel
theorem dX8_holds_192 : decode cX8_holds 192 = .ok (.iload 7, 2) := by decide +kernel
theorem dX8_holds_194 : decode cX8_holds 194 = .ok (.isub, 1) := by decide +kernel
theorem dX8_holds_195 : decode cX8_holds 195 = .ok (.invokestatic 214, 3) := by decide +kernel
theorem dX8_holds_198 : decode cX8_holds 198 = .ok (.aload_n 0, 1) := by decide +kernel
theorem dX8_holds_199 : decode cX8_holds 199 = .ok (.getfield 257, 3) := by decide +kernel
theorem dX8_holds_202 : decode cX8_holds 202 = .ok (.if_icmp .le 16, 3) := by decide +kernel
theorem dX8_holds_205 : decode cX8_holds 205 = .ok (.aload_n 0, 1) := by decide +kernel
theorem dX8_holds_206 : decode cX8_holds 206 = .ok (.getfield 184, 3) := by decide +kernel
theorem dX8_holds_209 : decode cX8_holds 209 = .ok (.iload 7, 2) := by decide +kernel
theorem dX8_holds_211 : decode cX8_holds 211 = .ok (.isub, 1) := by decide +kernel
theorem dX8_holds_212 : decode cX8_holds 212 = .ok (.invokestatic 214, 3) := by decide +kernel
theorem dX8_holds_215 : decode cX8_holds 215 = .ok (.goto 7, 3) := by decide +kernel
theorem dX8_holds_218 : decode cX8_holds 218 = .ok (.aload_n 0, 1) := by decide +kernel
theorem dX8_holds_219 : decode cX8_holds 219 = .ok (.getfield 257, 3) := by decide +kernel
theorem dX8_holds_222 : decode cX8_holds 222 = .ok (.putfield 257, 3) := by decide +kernel
theorem dX8_holds_225 : decode cX8_holds 225 = .ok (.aload_n 0, 1) := by decide +kernel
theorem dX8_holds_226 : decode cX8_holds 226 = .ok (.aload_n 0, 1) := by decide +kernel
theorem dX8_holds_227 : decode cX8_holds 227 = .ok (.getfield 184, 3) := by decide +kernel
theorem dX8_holds_230 : decode cX8_holds 230 = .ok (.ifCond .eq 14, 3) := by decide +kernel
theorem dX8_holds_233 : decode cX8_holds 233 = .ok (.aload_n 0, 1) := by decide +kernel
theorem dX8_holds_234 : decode cX8_holds 234 = .ok (.getfield 184, 3) := by decide +kernel
theorem dX8_holds_237 : decode cX8_holds 237 = .ok (.aload_n 0, 1) := by decide +kernel
theorem dX8_holds_238 : decode cX8_holds 238 = .ok (.invokevirtual 187, 3) := by decide +kernel
theorem dX8_holds_241 : decode cX8_holds 241 = .ok (.if_icmp .ne 10, 3) := by decide +kernel
theorem dX8_holds_244 : decode cX8_holds 244 = .ok (.iload 8, 2) := by decide +kernel
theorem dX8_holds_246 : decode cX8_holds 246 = .ok (.iconst 1, 1) := by decide +kernel
theorem dX8_holds_247 : decode cX8_holds 247 = .ok (.iadd, 1) := by decide +kernel
theorem dX8_holds_248 : decode cX8_holds 248 = .ok (.goto 5, 3) := by decide +kernel
theorem dX8_holds_251 : decode cX8_holds 251 = .ok (.bipush (-4), 2) := by decide +kernel
theorem dX8_holds_253 : decode cX8_holds 253 = .ok (.putfield 254, 3) := by decide +kernel
theorem dX8_holds_256 : decode cX8_holds 256 = .ok (.iinc 8 1, 3) := by decide +kernel
theorem dX8_holds_259 : decode cX8_holds 259 = .ok (.goto (-213), 3) := by decide +kernel
theorem dX8_holds_262 : decode cX8_holds 262 = .ok (.return_, 1) := by decide +kernel
theorem dX8_isHold_0 : decode cX8_isHold 0 = .ok (.aload_n 0, 1) := by decide +kernel
theorem dX8_isHold_1 : decode cX8_isHold 1 = .ok (.iload_n 1, 1) := by decide +kernel
theorem dX8_isHold_2 : decode cX8_isHold 2 = .ok (.invokevirtual 163, 3) := by decide +kernel
theorem dX8_isHold_5 : decode cX8_isHold 5 = .ok (.ifCond .eq 45, 3) := by decide +kernel
theorem dX8_isHold_8 : decode cX8_isHold 8 = .ok (.iload_n 2, 1) := by decide +kernel
theorem dX8_isHold_9 : decode cX8_isHold 9 = .ok (.i2l, 1) := by decide +kernel
theorem dX8_isHold_10 : decode cX8_isHold 10 = .ok (.lconst 1, 1) := by decide +kernel
theorem dX8_isHold_11 : decode cX8_isHold 11 = .ok (.aload_n 0, 1) := by decide +kernel
theorem dX8_isHold_12 : decode cX8_isHold 12 = .ok (.getfield 17, 3) := by decide +kernel
theorem dX8_isHold_15 : decode cX8_isHold 15 = .ok (.iconst 0, 1) := by decide +kernel
theorem dX8_isHold_16 : decode cX8_isHold 16 = .ok (.iaload, 1) := by decide +kernel
theorem dX8_isHold_17 : decode cX8_isHold 17 = .ok (.iconst 1, 1) := by decide +kernel
theorem dX8_isHold_18 : decode cX8_isHold 18 = .ok (.isub, 1) := by decide +kernel
theorem dX8_isHold_19 : decode cX8_isHold 19 = .ok (.i2l, 1) := by decide +kernel
theorem dX8_isHold_20 : decode cX8_isHold 20 = .ok (.invokestatic 72, 3) := by decide +kernel
theorem dX8_isHold_23 : decode cX8_isHold 23 = .ok (.ifCond .eq 27, 3) := by decide +kernel
theorem dX8_isHold_26 : decode cX8_isHold 26 = .ok (.iload_n 3, 1) := by decide +kernel
theorem dX8_isHold_27 : decode cX8_isHold 27 = .ok (.invokestatic 174, 3) := by decide +kernel
theorem dX8_isHold_30 : decode cX8_isHold 30 = .ok (.ifCond .eq 20, 3) := by decide +kernel
theorem dX8_isHold_33 : decode cX8_isHold 33 = .ok (.iload 4, 2) := by decide +kernel
theorem dX8_isHold_35 : decode cX8_isHold 35 = .ok (.i2l, 1) := by decide +kernel
theorem dX8_isHold_36 : decode cX8_isHold 36 = .ok (.lconst 1, 1) := by decide +kernel
theorem dX8_isHold_37 : decode cX8_isHold 37 = .ok (.ldc2_w 194, 3) := by decide +kernel
theorem dX8_isHold_40 : decode cX8_isHold 40 = .ok (.invokestatic 72, 3) := by decide +kernel
theorem dX8_isHold_43 : decode cX8_isHold 43 = .ok (.ifCond .eq 7, 3) := by decide +kernel
theorem dX8_isHold_46 : decode cX8_isHold 46 = .ok (.iconst 1, 1) := by decide +kernel
theorem dX8_isHold_47 : decode cX8_isHold 47 = .ok (.goto 4, 3) := by decide +kernel
theorem dX8_isHold_50 : decode cX8_isHold 50 = .ok (.iconst 0, 1) := by decide +kernel
theorem dX8_isHold_51 : decode cX8_isHold 51 = .ok (.ireturn, 1) := by decide +kernel
theorem dX8_isStep_0 : decode cX8_isStep 0 = .ok (.iload_n 0, 1) := by decide +kernel
theorem dX8_isStep_1 : decode cX8_isStep 1 = .ok (.i2l, 1) := by decide +kernel
theorem dX8_isStep_2 : decode cX8_isStep 2 = .ok (.lconst 1, 1) := by decide +kernel
theorem dX8_isStep_3 : decode cX8_isStep 3 = .ok (.ldc2_w 263, 3) := by decide +kernel
theorem dX8_isStep_6 : decode cX8_isStep 6 = .ok (.invokestatic 72, 3) := by decide +kernel
theorem dX8_isStep_9 : decode cX8_isStep 9 = .ok (.ireturn, 1) := by decide +kernel
theorem dX8_isLate_0 : decode cX8_isLate 0 = .ok (.iload_n 0, 1) := by decide +kernel
theorem dX8_isLate_1 : decode cX8_isLate 1 = .ok (.i2l, 1) := by decide +kernel
theorem dX8_isLate_2 : decode cX8_isLate 2 = .ok (.lconst 0, 1) := by decide +kernel
theorem dX8_isLate_3 : decode cX8_isLate 3 = .ok (.ldc2_w 263, 3) := by decide +kernel
theorem dX8_isLate_6 : decode cX8_isLate 6 = .ok (.invokestatic 72, 3) := by decide +kernel
theorem dX8_isLate_9 : decode cX8_isLate 9 = .ok (.ireturn, 1) := by decide +kernel
theorem dX8_hold_0 : decode cX8_hold 0 = .ok (.aload_n 0, 1) := by decide +kernel
theorem dX8_hold_1 : decode cX8_hold 1 = .ok (.iload_n 1, 1) := by decide +kernel
theorem dX8_hold_2 : decode cX8_hold 2 = .ok (.iload_n 2, 1) := by decide +kernel
theorem dX8_hold_3 : decode cX8_hold 3 = .ok (.iload_n 3, 1) := by decide +kernel
theorem dX8_hold_4 : decode cX8_hold 4 = .ok (.iload 6, 2) := by decide +kernel
theorem dX8_hold_6 : decode cX8_hold 6 = .ok (.invokevirtual 265, 3) := by decide +kernel
theorem dX8_hold_9 : decode cX8_hold 9 = .ok (.ifCond .eq 32, 3) := by decide +kernel
theorem dX8_hold_12 : decode cX8_hold 12 = .ok (.iload 4, 2) := by decide +kernel
theorem dX8_hold_14 : decode cX8_hold 14 = .ok (.invokestatic 269, 3) := by decide +kernel
theorem dX8_hold_17 : decode cX8_hold 17 = .ok (.ifCond .eq 24, 3) := by decide +kernel
theorem dX8_hold_20 : decode cX8_hold 20 = .ok (.iload 5, 2) := by decide +kernel
theorem dX8_hold_22 : decode cX8_hold 22 = .ok (.invokestatic 272, 3) := by decide +kernel
theorem dX8_hold_25 : decode cX8_hold 25 = .ok (.ifCond .eq 16, 3) := by decide +kernel
theorem dX8_hold_28 : decode cX8_hold 28 = .ok (.iload 7, 2) := by decide +kernel
theorem dX8_hold_30 : decode cX8_hold 30 = .ok (.i2l, 1) := by decide +kernel
theorem dX8_hold_31 : decode cX8_hold 31 = .ok (.lconst 0, 1) := by decide +kernel
theorem dX8_hold_32 : decode cX8_hold 32 = .ok (.ldc2_w 275, 3) := by decide +kernel
theorem dX8_hold_35 : decode cX8_hold 35 = .ok (.invokestatic 72, 3) := by decide +kernel
theorem dX8_hold_38 : decode cX8_hold 38 = .ok (.ifCond .ne 5, 3) := by decide +kernel
theorem dX8_hold_41 : decode cX8_hold 41 = .ok (.iconst (-1), 1) := by decide +kernel
theorem dX8_hold_42 : decode cX8_hold 42 = .ok (.ireturn, 1) := by decide +kernel
theorem dX8_hold_43 : decode cX8_hold 43 = .ok (.aload_n 0, 1) := by decide +kernel
theorem dX8_hold_44 : decode cX8_hold 44 = .ok (.iload_n 1, 1) := by decide +kernel
theorem dX8_hold_45 : decode cX8_hold 45 = .ok (.iload_n 2, 1) := by decide +kernel
theorem dX8_hold_46 : decode cX8_hold 46 = .ok (.iload_n 3, 1) := by decide +kernel
theorem dX8_hold_47 : decode cX8_hold 47 = .ok (.iload 4, 2) := by decide +kernel
theorem dX8_hold_49 : decode cX8_hold 49 = .ok (.iload 5, 2) := by decide +kernel
theorem dX8_hold_51 : decode cX8_hold 51 = .ok (.iload 6, 2) := by decide +kernel
theorem dX8_hold_53 : decode cX8_hold 53 = .ok (.invokevirtual 277, 3) := by decide +kernel
theorem dX8_hold_56 : decode cX8_hold 56 = .ok (.iload 7, 2) := by decide +kernel
theorem dX8_hold_58 : decode cX8_hold 58 = .ok (.ifCond .ne 10, 3) := by decide +kernel
theorem dX8_hold_61 : decode cX8_hold 61 = .ok (.aload_n 0, 1) := by decide +kernel
theorem dX8_hold_62 : decode cX8_hold 62 = .ok (.getfield 254, 3) := by decide +kernel
theorem dX8_hold_65 : decode cX8_hold 65 = .ok (.goto 33, 3) := by decide +kernel
theorem dX8_hold_68 : decode cX8_hold 68 = .ok (.iload 7, 2) := by decide +kernel
theorem dX8_hold_70 : decode cX8_hold 70 = .ok (.iconst 1, 1) := by decide +kernel
theorem dX8_hold_71 : decode cX8_hold 71 = .ok (.if_icmp .ne 10, 3) := by decide +kernel
theorem dX8_hold_74 : decode cX8_hold 74 = .ok (.aload_n 0, 1) := by decide +kernel
theorem dX8_hold_75 : decode cX8_hold 75 = .ok (.getfield 184, 3) := by decide +kernel
theorem dX8_hold_78 : decode cX8_hold 78 = .ok (.goto 20, 3) := by decide +kernel
theorem dX8_hold_81 : decode cX8_hold 81 = .ok (.iload 7, 2) := by decide +kernel
theorem dX8_hold_83 : decode cX8_hold 83 = .ok (.iconst 2, 1) := by decide +kernel
theorem dX8_hold_84 : decode cX8_hold 84 = .ok (.if_icmp .ne 10, 3) := by decide +kernel
theorem dX8_hold_87 : decode cX8_hold 87 = .ok (.aload_n 0, 1) := by decide +kernel
theorem dX8_hold_88 : decode cX8_hold 88 = .ok (.getfield 257, 3) := by decide +kernel
theorem dX8_hold_91 : decode cX8_hold 91 = .ok (.goto 7, 3) := by decide +kernel
theorem dX8_hold_94 : decode cX8_hold 94 = .ok (.aload_n 0, 1) := by decide +kernel
theorem dX8_hold_95 : decode cX8_hold 95 = .ok (.getfield 260, 3) := by decide +kernel
theorem dX8_hold_98 : decode cX8_hold 98 = .ok (.ireturn, 1) := by decide +kernel
theorem dX8_late_0 : decode cX8_late 0 = .ok (.aload_n 0, 1) := by decide +kernel
theorem dX8_late_1 : decode cX8_late 1 = .ok (.iload_n 1, 1) := by decide +kernel
theorem dX8_late_2 : decode cX8_late 2 = .ok (.iload_n 2, 1) := by decide +kernel
theorem dX8_late_3 : decode cX8_late 3 = .ok (.iload_n 3, 1) := by decide +kernel
theorem dX8_late_4 : decode cX8_late 4 = .ok (.iload 5, 2) := by decide +kernel
theorem dX8_late_6 : decode cX8_late 6 = .ok (.invokevirtual 265, 3) := by decide +kernel
theorem dX8_late_9 : decode cX8_late 9 = .ok (.ifCond .eq 11, 3) := by decide +kernel
theorem dX8_late_12 : decode cX8_late 12 = .ok (.iload 4, 2) := by decide +kernel
theorem dX8_late_14 : decode cX8_late 14 = .ok (.invokestatic 272, 3) := by decide +kernel
theorem dX8_late_17 : decode cX8_late 17 = .ok (.ifCond .ne 5, 3) := by decide +kernel
theorem dX8_late_20 : decode cX8_late 20 = .ok (.iconst (-1), 1) := by decide +kernel
theorem dX8_late_21 : decode cX8_late 21 = .ok (.ireturn, 1) := by decide +kernel
theorem dX8_late_22 : decode cX8_late 22 = .ok (.iconst 0, 1) := by decide +kernel
theorem dX8_late_23 : decode cX8_late 23 = .ok (.istore 6, 2) := by decide +kernel
theorem dX8_late_25 : decode cX8_late 25 = .ok (.iconst 1, 1) := by decide +kernel
theorem dX8_late_26 : decode cX8_late 26 = .ok (.istore 7, 2) := by decide +kernel
theorem dX8_late_28 : decode cX8_late 28 = .ok (.iload 6, 2) := by decide +kernel
theorem dX8_late_30 : decode cX8_late 30 = .ok (.bipush 50, 2) := by decide +kernel
theorem dX8_late_32 : decode cX8_late 32 = .ok (.if_icmp .gt 50, 3) := by decide +kernel
theorem dX8_late_35 : decode cX8_late 35 = .ok (.iload 7, 2) := by decide +kernel
theorem dX8_late_37 : decode cX8_late 37 = .ok (.ifCond .eq 45, 3) := by decide +kernel
theorem dX8_late_40 : decode cX8_late 40 = .ok (.aload_n 0, 1) := by decide +kernel
theorem dX8_late_41 : decode cX8_late 41 = .ok (.iload_n 1, 1) := by decide +kernel
theorem dX8_late_42 : decode cX8_late 42 = .ok (.iload_n 2, 1) := by decide +kernel
theorem dX8_late_43 : decode cX8_late 43 = .ok (.iload_n 3, 1) := by decide +kernel
theorem dX8_late_44 : decode cX8_late 44 = .ok (.iload 6, 2) := by decide +kernel
theorem dX8_late_46 : decode cX8_late 46 = .ok (.iload 4, 2) := by decide +kernel
theorem dX8_late_48 : decode cX8_late 48 = .ok (.iload 5, 2) := by decide +kernel
theorem dX8_late_50 : decode cX8_late 50 = .ok (.invokevirtual 277, 3) := by decide +kernel
theorem dX8_late_53 : decode cX8_late 53 = .ok (.aload_n 0, 1) := by decide +kernel
theorem dX8_late_54 : decode cX8_late 54 = .ok (.getfield 254, 3) := by decide +kernel
theorem dX8_late_57 : decode cX8_late 57 = .ok (.bipush (-4), 2) := by decide +kernel
theorem dX8_late_59 : decode cX8_late 59 = .ok (.if_icmp .ne 7, 3) := by decide +kernel
theorem dX8_late_62 : decode cX8_late 62 = .ok (.iconst 1, 1) := by decide +kernel
theorem dX8_late_63 : decode cX8_late 63 = .ok (.goto 4, 3) := by decide +kernel
theorem dX8_late_66 : decode cX8_late 66 = .ok (.iconst 0, 1) := by decide +kernel
theorem dX8_late_67 : decode cX8_late 67 = .ok (.istore 7, 2) := by decide +kernel
theorem dX8_late_69 : decode cX8_late 69 = .ok (.iload 6, 2) := by decide +kernel
theorem dX8_late_71 : decode cX8_late 71 = .ok (.iload 7, 2) := by decide +kernel
theorem dX8_late_73 : decode cX8_late 73 = .ok (.invokestatic 63, 3) := by decide +kernel
theorem dX8_late_76 : decode cX8_late 76 = .ok (.iadd, 1) := by decide +kernel
theorem dX8_late_77 : decode cX8_late 77 = .ok (.istore 6, 2) := by decide +kernel
theorem dX8_late_79 : decode cX8_late 79 = .ok (.goto (-51), 3) := by decide +kernel
theorem dX8_late_82 : decode cX8_late 82 = .ok (.iload 6, 2) := by decide +kernel
theorem dX8_late_84 : decode cX8_late 84 = .ok (.ifCond .ne 8, 3) := by decide +kernel
theorem dX8_late_87 : decode cX8_late 87 = .ok (.bipush (-4), 2) := by decide +kernel
theorem dX8_late_89 : decode cX8_late 89 = .ok (.goto 7, 3) := by decide +kernel
theorem dX8_late_92 : decode cX8_late 92 = .ok (.iload 6, 2) := by decide +kernel
theorem dX8_late_94 : decode cX8_late 94 = .ok (.iconst 1, 1) := by decide +kernel
theorem dX8_late_95 : decode cX8_late 95 = .ok (.isub, 1) := by decide +kernel
theorem dX8_late_96 : decode cX8_late 96 = .ok (.ireturn, 1) := by decide +kernel
theorem dX8_step_0 : decode cX8_step 0 = .ok (.aload_n 0, 1) := by decide +kernel
theorem dX8_step_1 : decode cX8_step 1 = .ok (.iload_n 1, 1) := by decide +kernel
theorem dX8_step_2 : decode cX8_step 2 = .ok (.iload_n 2, 1) := by decide +kernel
theorem dX8_step_3 : decode cX8_step 3 = .ok (.iload_n 3, 1) := by decide +kernel
theorem dX8_step_4 : decode cX8_step 4 = .ok (.iload 5, 2) := by decide +kernel
theorem dX8_step_6 : decode cX8_step 6 = .ok (.invokevirtual 265, 3) := by decide +kernel
theorem dX8_step_9 : decode cX8_step 9 = .ok (.ifCond .eq 22, 3) := by decide +kernel
theorem dX8_step_12 : decode cX8_step 12 = .ok (.iload 4, 2) := by decide +kernel
theorem dX8_step_14 : decode cX8_step 14 = .ok (.invokestatic 269, 3) := by decide +kernel
theorem dX8_step_17 : decode cX8_step 17 = .ok (.ifCond .eq 14, 3) := by decide +kernel
theorem dX8_step_20 : decode cX8_step 20 = .ok (.iload 6, 2) := by decide +kernel
theorem dX8_step_22 : decode cX8_step 22 = .ok (.i2l, 1) := by decide +kernel
theorem dX8_step_23 : decode cX8_step 23 = .ok (.lconst 0, 1) := by decide +kernel
theorem dX8_step_24 : decode cX8_step 24 = .ok (.lconst 1, 1) := by decide +kernel
theorem dX8_step_25 : decode cX8_step 25 = .ok (.invokestatic 72, 3) := by decide +kernel
theorem dX8_step_28 : decode cX8_step 28 = .ok (.ifCond .ne 5, 3) := by decide +kernel
theorem dX8_step_31 : decode cX8_step 31 = .ok (.iconst (-1), 1) := by decide +kernel
theorem dX8_step_32 : decode cX8_step 32 = .ok (.ireturn, 1) := by decide +kernel
theorem dX8_step_33 : decode cX8_step 33 = .ok (.iconst 0, 1) := by decide +kernel
theorem dX8_step_34 : decode cX8_step 34 = .ok (.istore 7, 2) := by decide +kernel
theorem dX8_step_36 : decode cX8_step 36 = .ok (.iconst 0, 1) := by decide +kernel
theorem dX8_step_37 : decode cX8_step 37 = .ok (.istore 8, 2) := by decide +kernel
theorem dX8_step_39 : decode cX8_step 39 = .ok (.iconst 1, 1) := by decide +kernel
theorem dX8_step_40 : decode cX8_step 40 = .ok (.istore 9, 2) := by decide +kernel
theorem dX8_step_42 : decode cX8_step 42 = .ok (.iload 9, 2) := by decide +kernel
theorem dX8_step_44 : decode cX8_step 44 = .ok (.bipush 50, 2) := by decide +kernel
theorem dX8_step_46 : decode cX8_step 46 = .ok (.if_icmp .gt 75, 3) := by decide +kernel
theorem dX8_step_49 : decode cX8_step 49 = .ok (.aload_n 0, 1) := by decide +kernel
theorem dX8_step_50 : decode cX8_step 50 = .ok (.iload_n 1, 1) := by decide +kernel
theorem dX8_step_51 : decode cX8_step 51 = .ok (.iload_n 2, 1) := by decide +kernel
theorem dX8_step_52 : decode cX8_step 52 = .ok (.iload_n 3, 1) := by decide +kernel
theorem dX8_step_53 : decode cX8_step 53 = .ok (.iload 4, 2) := by decide +kernel
theorem dX8_step_55 : decode cX8_step 55 = .ok (.iload 9, 2) := by decide +kernel
theorem dX8_step_57 : decode cX8_step 57 = .ok (.iload 5, 2) := by decide +kernel
theorem dX8_step_59 : decode cX8_step 59 = .ok (.invokevirtual 277, 3) := by decide +kernel
theorem dX8_step_62 : decode cX8_step 62 = .ok (.aload_n 0, 1) := by decide +kernel
theorem dX8_step_63 : decode cX8_step 63 = .ok (.getfield 254, 3) := by decide +kernel
theorem dX8_step_66 : decode cX8_step 66 = .ok (.bipush (-4), 2) := by decide +kernel
theorem dX8_step_68 : decode cX8_step 68 = .ok (.if_icmp .ne 9, 3) := by decide +kernel
theorem dX8_step_71 : decode cX8_step 71 = .ok (.sipush 1000, 3) := by decide +kernel
theorem dX8_step_74 : decode cX8_step 74 = .ok (.goto 7, 3) := by decide +kernel
theorem dX8_step_77 : decode cX8_step 77 = .ok (.aload_n 0, 1) := by decide +kernel
theorem dX8_step_78 : decode cX8_step 78 = .ok (.getfield 254, 3) := by decide +kernel
theorem dX8_step_81 : decode cX8_step 81 = .ok (.istore 10, 2) := by decide +kernel
theorem dX8_step_83 : decode cX8_step 83 = .ok (.iload 10, 2) := by decide +kernel
theorem dX8_step_85 : decode cX8_step 85 = .ok (.iload 8, 2) := by decide +kernel
theorem dX8_step_87 : decode cX8_step 87 = .ok (.if_icmp .le 8, 3) := by decide +kernel
theorem dX8_step_90 : decode cX8_step 90 = .ok (.iload 9, 2) := by decide +kernel
theorem dX8_step_92 : decode cX8_step 92 = .ok (.goto 5, 3) := by decide +kernel
theorem dX8_step_95 : decode cX8_step 95 = .ok (.iload 7, 2) := by decide +kernel
theorem dX8_step_97 : decode cX8_step 97 = .ok (.istore 7, 2) := by decide +kernel
theorem dX8_step_99 : decode cX8_step 99 = .ok (.iload 10, 2) := by decide +kernel
theorem dX8_step_101 : decode cX8_step 101 = .ok (.iload 8, 2) := by decide +kernel
theorem dX8_step_103 : decode cX8_step 103 = .ok (.if_icmp .le 8, 3) := by decide +kernel
theorem dX8_step_106 : decode cX8_step 106 = .ok (.iload 10, 2) := by decide +kernel
theorem dX8_step_108 : decode cX8_step 108 = .ok (.goto 5, 3) := by decide +kernel
theorem dX8_step_111 : decode cX8_step 111 = .ok (.iload 8, 2) := by decide +kernel
theorem dX8_step_113 : decode cX8_step 113 = .ok (.istore 8, 2) := by decide +kernel
theorem dX8_step_115 : decode cX8_step 115 = .ok (.iinc 9 1, 3) := by decide +kernel
theorem dX8_step_118 : decode cX8_step 118 = .ok (.goto (-76), 3) := by decide +kernel
theorem dX8_step_121 : decode cX8_step 121 = .ok (.iload 6, 2) := by decide +kernel
theorem dX8_step_123 : decode cX8_step 123 = .ok (.ifCond .ne 8, 3) := by decide +kernel
theorem dX8_step_126 : decode cX8_step 126 = .ok (.iload 7, 2) := by decide +kernel
theorem dX8_step_128 : decode cX8_step 128 = .ok (.goto 18, 3) := by decide +kernel
theorem dX8_step_131 : decode cX8_step 131 = .ok (.iload 8, 2) := by decide +kernel
theorem dX8_step_133 : decode cX8_step 133 = .ok (.sipush 999, 3) := by decide +kernel
theorem dX8_step_136 : decode cX8_step 136 = .ok (.if_icmp .le 8, 3) := by decide +kernel
theorem dX8_step_139 : decode cX8_step 139 = .ok (.bipush (-4), 2) := by decide +kernel
theorem dX8_step_141 : decode cX8_step 141 = .ok (.goto 5, 3) := by decide +kernel
theorem dX8_step_144 : decode cX8_step 144 = .ok (.iload 8, 2) := by decide +kernel
theorem dX8_step_146 : decode cX8_step 146 = .ok (.ireturn, 1) := by decide +kernel
theorem dX8_hours_0 : decode cX8_hours 0 = .ok (.aload_n 0, 1) := by decide +kernel
theorem dX8_hours_1 : decode cX8_hours 1 = .ok (.iload_n 1, 1) := by decide +kernel
theorem dX8_hours_2 : decode cX8_hours 2 = .ok (.invokevirtual 163, 3) := by decide +kernel
theorem dX8_hours_5 : decode cX8_hours 5 = .ok (.ifCond .eq 13, 3) := by decide +kernel
theorem dX8_hours_8 : decode cX8_hours 8 = .ok (.iload_n 2, 1) := by decide +kernel
theorem dX8_hours_9 : decode cX8_hours 9 = .ok (.i2l, 1) := by decide +kernel
theorem dX8_hours_10 : decode cX8_hours 10 = .ok (.lconst 0, 1) := by decide +kernel
theorem dX8_hours_11 : decode cX8_hours 11 = .ok (.lconst 1, 1) := by decide +kernel
theorem dX8_hours_12 : decode cX8_hours 12 = .ok (.invokestatic 72, 3) := by decide +kernel
theorem dX8_hours_15 : decode cX8_hours 15 = .ok (.ifCond .ne 5, 3) := by decide +kernel
theorem dX8_hours_18 : decode cX8_hours 18 = .ok (.iconst (-1), 1) := by decide +kernel
theorem dX8_hours_19 : decode cX8_hours 19 = .ok (.ireturn, 1) := by decide +kernel
theorem dX8_hours_20 : decode cX8_hours 20 = .ok (.iconst 0, 1) := by decide +kernel
theorem dX8_hours_21 : decode cX8_hours 21 = .ok (.istore_n 3, 1) := by decide +kernel
theorem dX8_hours_22 : decode cX8_hours 22 = .ok (.iconst 0, 1) := by decide +kernel
theorem dX8_hours_23 : decode cX8_hours 23 = .ok (.istore 4, 2) := by decide +kernel
theorem dX8_hours_25 : decode cX8_hours 25 = .ok (.iconst 0, 1) := by decide +kernel
theorem dX8_hours_26 : decode cX8_hours 26 = .ok (.istore 5, 2) := by decide +kernel
theorem dX8_hours_28 : decode cX8_hours 28 = .ok (.iconst 0, 1) := by decide +kernel
theorem dX8_hours_29 : decode cX8_hours 29 = .ok (.istore 6, 2) := by decide +kernel
theorem dX8_hours_31 : decode cX8_hours 31 = .ok (.iload 6, 2) := by decide +kernel
theorem dX8_hours_33 : decode cX8_hours 33 = .ok (.bipush 24, 2) := by decide +kernel
theorem dX8_hours_35 : decode cX8_hours 35 = .ok (.if_icmp .ge 90, 3) := by decide +kernel
theorem dX8_hours_38 : decode cX8_hours 38 = .ok (.aload_n 0, 1) := by decide +kernel
theorem dX8_hours_39 : decode cX8_hours 39 = .ok (.aload_n 0, 1) := by decide +kernel
theorem dX8_hours_40 : decode cX8_hours 40 = .ok (.iload_n 1, 1) := by decide +kernel
theorem dX8_hours_41 : decode cX8_hours 41 = .ok (.invokevirtual 156, 3) := by decide +kernel
theorem dX8_hours_44 : decode cX8_hours 44 = .ok (.aload_n 0, 1) := by decide +kernel
theorem dX8_hours_45 : decode cX8_hours 45 = .ok (.iload_n 1, 1) := by decide +kernel
theorem dX8_hours_46 : decode cX8_hours 46 = .ok (.iconst 1, 1) := by decide +kernel
theorem dX8_hours_47 : decode cX8_hours 47 = .ok (.invokevirtual 153, 3) := by decide +kernel
theorem dX8_hours_50 : decode cX8_hours 50 = .ok (.aload_n 0, 1) := by decide +kernel
theorem dX8_hours_51 : decode cX8_hours 51 = .ok (.getfield 20, 3) := by decide +kernel
theorem dX8_hours_54 : decode cX8_hours 54 = .ok (.iload 6, 2) := by decide +kernel
theorem dX8_hours_56 : decode cX8_hours 56 = .ok (.iaload, 1) := by decide +kernel
theorem dX8_hours_57 : decode cX8_hours 57 = .ok (.iconst 0, 1) := by decide +kernel
theorem dX8_hours_58 : decode cX8_hours 58 = .ok (.iload_n 3, 1) := by decide +kernel
theorem dX8_hours_59 : decode cX8_hours 59 = .ok (.ifCond .eq 12, 3) := by decide +kernel
theorem dX8_hours_62 : decode cX8_hours 62 = .ok (.aload_n 0, 1) := by decide +kernel
theorem dX8_hours_63 : decode cX8_hours 63 = .ok (.getfield 17, 3) := by decide +kernel
theorem dX8_hours_66 : decode cX8_hours 66 = .ok (.iconst 0, 1) := by decide +kernel
theorem dX8_hours_67 : decode cX8_hours 67 = .ok (.iaload, 1) := by decide +kernel
theorem dX8_hours_68 : decode cX8_hours 68 = .ok (.goto 4, 3) := by decide +kernel
theorem dX8_hours_71 : decode cX8_hours 71 = .ok (.iconst 0, 1) := by decide +kernel
theorem dX8_hours_72 : decode cX8_hours 72 = .ok (.invokevirtual 159, 3) := by decide +kernel
theorem dX8_hours_75 : decode cX8_hours 75 = .ok (.istore 7, 2) := by decide +kernel
theorem dX8_hours_77 : decode cX8_hours 77 = .ok (.iload_n 3, 1) := by decide +kernel
theorem dX8_hours_78 : decode cX8_hours 78 = .ok (.ifCond .eq 11, 3) := by decide +kernel
theorem dX8_hours_81 : decode cX8_hours 81 = .ok (.iload 7, 2) := by decide +kernel
theorem dX8_hours_83 : decode cX8_hours 83 = .ok (.ifCond .ge 24, 3) := by decide +kernel
theorem dX8_hours_86 : decode cX8_hours 86 = .ok (.goto 8, 3) := by decide +kernel
theorem dX8_hours_89 : decode cX8_hours 89 = .ok (.iload 7, 2) := by decide +kernel
theorem dX8_hours_91 : decode cX8_hours 91 = .ok (.ifCond .le 16, 3) := by decide +kernel
theorem dX8_hours_94 : decode cX8_hours 94 = .ok (.iload_n 3, 1) := by decide +kernel
theorem dX8_hours_95 : decode cX8_hours 95 = .ok (.ifCond .ne 7, 3) := by decide +kernel
theorem dX8_hours_98 : decode cX8_hours 98 = .ok (.iconst 1, 1) := by decide +kernel
theorem dX8_hours_99 : decode cX8_hours 99 = .ok (.goto 4, 3) := by decide +kernel
theorem dX8_hours_102 : decode cX8_hours 102 = .ok (.iconst 0, 1) := by decide +kernel
theorem dX8_hours_103 : decode cX8_hours 103 = .ok (.istore_n 3, 1) := by decide +kernel
theorem dX8_hours_104 : decode cX8_hours 104 = .ok (.iinc 5 1, 3) := by decide +kernel
theorem dX8_hours_107 : decode cX8_hours 107 = .ok (.iload 4, 2) := by decide +kernel
theorem dX8_hours_109 : decode cX8_hours 109 = .ok (.iload_n 3, 1) := by decide +kernel
theorem dX8_hours_110 : decode cX8_hours 110 = .ok (.invokestatic 63, 3) := by decide +kernel
theorem dX8_hours_113 : decode cX8_hours 113 = .ok (.iload 6, 2) := by decide +kernel
theorem dX8_hours_115 : decode cX8_hours 115 = .ok (.ishl, 1) := by decide +kernel
theorem dX8_hours_116 : decode cX8_hours 116 = .ok (.ior, 1) := by decide +kernel
theorem dX8_hours_117 : decode cX8_hours 117 = .ok (.istore 4, 2) := by decide +kernel
theorem dX8_hours_119 : decode cX8_hours 119 = .ok (.iinc 6 1, 3) := by decide +kernel
theorem dX8_hours_122 : decode cX8_hours 122 = .ok (.goto (-91), 3) := by decide +kernel
theorem dX8_hours_125 : decode cX8_hours 125 = .ok (.iload_n 2, 1) := by decide +kernel
theorem dX8_hours_126 : decode cX8_hours 126 = .ok (.ifCond .ne 8, 3) := by decide +kernel
theorem dX8_hours_129 : decode cX8_hours 129 = .ok (.iload 4, 2) := by decide +kernel
theorem dX8_hours_131 : decode cX8_hours 131 = .ok (.goto 5, 3) := by decide +kernel
theorem dX8_hours_134 : decode cX8_hours 134 = .ok (.iload 5, 2) := by decide +kernel
theorem dX8_hours_136 : decode cX8_hours 136 = .ok (.ireturn, 1) := by decide +kernel
theorem dX8_trips_0 : decode cX8_trips 0 = .ok (.aload_n 0, 1) := by decide +kernel
theorem dX8_trips_1 : decode cX8_trips 1 = .ok (.iload_n 1, 1) := by decide +kernel
theorem dX8_trips_2 : decode cX8_trips 2 = .ok (.invokevirtual 163, 3) := by decide +kernel
theorem dX8_trips_5 : decode cX8_trips 5 = .ok (.ifCond .ne 5, 3) := by decide +kernel
theorem dX8_trips_8 : decode cX8_trips 8 = .ok (.iconst (-1), 1) := by decide +kernel
theorem dX8_trips_9 : decode cX8_trips 9 = .ok (.ireturn, 1) := by decide +kernel
theorem dX8_trips_10 : decode cX8_trips 10 = .ok (.aload_n 0, 1) := by decide +kernel
theorem dX8_trips_11 : decode cX8_trips 11 = .ok (.iload_n 1, 1) := by decide +kernel
theorem dX8_trips_12 : decode cX8_trips 12 = .ok (.iconst 1, 1) := by decide +kernel
theorem dX8_trips_13 : decode cX8_trips 13 = .ok (.invokevirtual 153, 3) := by decide +kernel
theorem dX8_trips_16 : decode cX8_trips 16 = .ok (.istore_n 2, 1) := by decide +kernel
theorem dX8_trips_17 : decode cX8_trips 17 = .ok (.iconst 0, 1) := by decide +kernel
theorem dX8_trips_18 : decode cX8_trips 18 = .ok (.istore_n 3, 1) := by decide +kernel
theorem dX8_trips_19 : decode cX8_trips 19 = .ok (.iconst 1, 1) := by decide +kernel
theorem dX8_trips_20 : decode cX8_trips 20 = .ok (.istore 4, 2) := by decide +kernel
theorem dX8_trips_22 : decode cX8_trips 22 = .ok (.iload_n 3, 1) := by decide +kernel
theorem dX8_trips_23 : decode cX8_trips 23 = .ok (.sipush 999, 3) := by decide +kernel
theorem dX8_trips_26 : decode cX8_trips 26 = .ok (.if_icmp .ge 76, 3) := by decide +kernel
theorem dX8_trips_29 : decode cX8_trips 29 = .ok (.iload 4, 2) := by decide +kernel
theorem dX8_trips_31 : decode cX8_trips 31 = .ok (.ifCond .eq 71, 3) := by decide +kernel
theorem dX8_trips_34 : decode cX8_trips 34 = .ok (.iload_n 2, 1) := by decide +kernel
theorem dX8_trips_35 : decode cX8_trips 35 = .ok (.aload_n 0, 1) := by decide +kernel
theorem dX8_trips_36 : decode cX8_trips 36 = .ok (.iload_n 1, 1) := by decide +kernel
theorem dX8_trips_37 : decode cX8_trips 37 = .ok (.iconst 2, 1) := by decide +kernel
theorem dX8_trips_38 : decode cX8_trips 38 = .ok (.invokevirtual 153, 3) := by decide +kernel
theorem dX8_trips_41 : decode cX8_trips 41 = .ok (.if_icmp .ge 7, 3) := by decide +kernel
theorem dX8_trips_44 : decode cX8_trips 44 = .ok (.iconst 0, 1) := by decide +kernel
theorem dX8_trips_45 : decode cX8_trips 45 = .ok (.goto 11, 3) := by decide +kernel
theorem dX8_trips_48 : decode cX8_trips 48 = .ok (.iload_n 2, 1) := by decide +kernel
theorem dX8_trips_49 : decode cX8_trips 49 = .ok (.aload_n 0, 1) := by decide +kernel
theorem dX8_trips_50 : decode cX8_trips 50 = .ok (.iload_n 1, 1) := by decide +kernel
theorem dX8_trips_51 : decode cX8_trips 51 = .ok (.iconst 2, 1) := by decide +kernel
theorem dX8_trips_52 : decode cX8_trips 52 = .ok (.invokevirtual 153, 3) := by decide +kernel
theorem dX8_trips_55 : decode cX8_trips 55 = .ok (.isub, 1) := by decide +kernel
theorem dX8_trips_56 : decode cX8_trips 56 = .ok (.istore_n 2, 1) := by decide +kernel
theorem dX8_trips_57 : decode cX8_trips 57 = .ok (.aload_n 0, 1) := by decide +kernel
theorem dX8_trips_58 : decode cX8_trips 58 = .ok (.aload_n 0, 1) := by decide +kernel
theorem dX8_trips_59 : decode cX8_trips 59 = .ok (.iload_n 1, 1) := by decide +kernel
theorem dX8_trips_60 : decode cX8_trips 60 = .ok (.invokevirtual 156, 3) := by decide +kernel
theorem dX8_trips_63 : decode cX8_trips 63 = .ok (.iload_n 2, 1) := by decide +kernel
theorem dX8_trips_64 : decode cX8_trips 64 = .ok (.aload_n 0, 1) := by decide +kernel
theorem dX8_trips_65 : decode cX8_trips 65 = .ok (.getfield 7, 3) := by decide +kernel
theorem dX8_trips_68 : decode cX8_trips 68 = .ok (.bipush 49, 2) := by decide +kernel
theorem dX8_trips_70 : decode cX8_trips 70 = .ok (.iaload, 1) := by decide +kernel
theorem dX8_trips_71 : decode cX8_trips 71 = .ok (.iconst 0, 1) := by decide +kernel
theorem dX8_trips_72 : decode cX8_trips 72 = .ok (.aload_n 0, 1) := by decide +kernel
theorem dX8_trips_73 : decode cX8_trips 73 = .ok (.getfield 17, 3) := by decide +kernel
theorem dX8_trips_76 : decode cX8_trips 76 = .ok (.iconst 0, 1) := by decide +kernel
theorem dX8_trips_77 : decode cX8_trips 77 = .ok (.iaload, 1) := by decide +kernel
theorem dX8_trips_78 : decode cX8_trips 78 = .ok (.invokevirtual 159, 3) := by decide +kernel
theorem dX8_trips_81 : decode cX8_trips 81 = .ok (.ifCond .ge 7, 3) := by decide +kernel
theorem dX8_trips_84 : decode cX8_trips 84 = .ok (.iconst 1, 1) := by decide +kernel
theorem dX8_trips_85 : decode cX8_trips 85 = .ok (.goto 4, 3) := by decide +kernel
theorem dX8_trips_88 : decode cX8_trips 88 = .ok (.iconst 0, 1) := by decide +kernel
theorem dX8_trips_89 : decode cX8_trips 89 = .ok (.istore 4, 2) := by decide +kernel
theorem dX8_trips_91 : decode cX8_trips 91 = .ok (.iload_n 3, 1) := by decide +kernel
theorem dX8_trips_92 : decode cX8_trips 92 = .ok (.iload 4, 2) := by decide +kernel
theorem dX8_trips_94 : decode cX8_trips 94 = .ok (.invokestatic 63, 3) := by decide +kernel
theorem dX8_trips_97 : decode cX8_trips 97 = .ok (.iadd, 1) := by decide +kernel
theorem dX8_trips_98 : decode cX8_trips 98 = .ok (.istore_n 3, 1) := by decide +kernel
theorem dX8_trips_99 : decode cX8_trips 99 = .ok (.goto (-77), 3) := by decide +kernel
theorem dX8_trips_102 : decode cX8_trips 102 = .ok (.iload_n 3, 1) := by decide +kernel
theorem dX8_trips_103 : decode cX8_trips 103 = .ok (.ireturn, 1) := by decide +kernel
theorem dX8_bladderAt_0 : decode cX8_bladderAt 0 = .ok (.iconst 0, 1) := by decide +kernel
theorem dX8_bladderAt_1 : decode cX8_bladderAt 1 = .ok (.istore_n 3, 1) := by decide +kernel
theorem dX8_bladderAt_2 : decode cX8_bladderAt 2 = .ok (.iload_n 3, 1) := by decide +kernel
theorem dX8_bladderAt_3 : decode cX8_bladderAt 3 = .ok (.sipush 9999, 3) := by decide +kernel
theorem dX8_bladderAt_6 : decode cX8_bladderAt 6 = .ok (.if_icmp .gt 33, 3) := by decide +kernel
theorem dX8_bladderAt_9 : decode cX8_bladderAt 9 = .ok (.aload_n 0, 1) := by decide +kernel
theorem dX8_bladderAt_10 : decode cX8_bladderAt 10 = .ok (.aload_n 0, 1) := by decide +kernel
theorem dX8_bladderAt_11 : decode cX8_bladderAt 11 = .ok (.iload_n 1, 1) := by decide +kernel
theorem dX8_bladderAt_12 : decode cX8_bladderAt 12 = .ok (.invokevirtual 156, 3) := by decide +kernel
theorem dX8_bladderAt_15 : decode cX8_bladderAt 15 = .ok (.iload_n 3, 1) := by decide +kernel
theorem dX8_bladderAt_16 : decode cX8_bladderAt 16 = .ok (.aload_n 0, 1) := by decide +kernel
theorem dX8_bladderAt_17 : decode cX8_bladderAt 17 = .ok (.getfield 7, 3) := by decide +kernel
theorem dX8_bladderAt_20 : decode cX8_bladderAt 20 = .ok (.bipush 49, 2) := by decide +kernel
theorem dX8_bladderAt_22 : decode cX8_bladderAt 22 = .ok (.iaload, 1) := by decide +kernel
theorem dX8_bladderAt_23 : decode cX8_bladderAt 23 = .ok (.iconst 0, 1) := by decide +kernel
theorem dX8_bladderAt_24 : decode cX8_bladderAt 24 = .ok (.iload_n 2, 1) := by decide +kernel
theorem dX8_bladderAt_25 : decode cX8_bladderAt 25 = .ok (.invokevirtual 159, 3) := by decide +kernel
theorem dX8_bladderAt_28 : decode cX8_bladderAt 28 = .ok (.ifCond .gt 5, 3) := by decide +kernel
theorem dX8_bladderAt_31 : decode cX8_bladderAt 31 = .ok (.iload_n 3, 1) := by decide +kernel
theorem dX8_bladderAt_32 : decode cX8_bladderAt 32 = .ok (.ireturn, 1) := by decide +kernel
theorem dX8_bladderAt_33 : decode cX8_bladderAt 33 = .ok (.iinc 3 1, 3) := by decide +kernel
theorem dX8_bladderAt_36 : decode cX8_bladderAt 36 = .ok (.goto (-34), 3) := by decide +kernel
theorem dX8_bladderAt_39 : decode cX8_bladderAt 39 = .ok (.bipush (-4), 2) := by decide +kernel
theorem dX8_bladderAt_41 : decode cX8_bladderAt 41 = .ok (.ireturn, 1) := by decide +kernel
theorem dX8_bladder_0 : decode cX8_bladder 0 = .ok (.aload_n 0, 1) := by decide +kernel
theorem dX8_bladder_1 : decode cX8_bladder 1 = .ok (.iload_n 1, 1) := by decide +kernel
theorem dX8_bladder_2 : decode cX8_bladder 2 = .ok (.invokevirtual 163, 3) := by decide +kernel
theorem dX8_bladder_5 : decode cX8_bladder 5 = .ok (.ifCond .eq 30, 3) := by decide +kernel
theorem dX8_bladder_8 : decode cX8_bladder 8 = .ok (.aload_n 0, 1) := by decide +kernel
theorem dX8_bladder_9 : decode cX8_bladder 9 = .ok (.iload_n 2, 1) := by decide +kernel
theorem dX8_bladder_10 : decode cX8_bladder 10 = .ok (.invokevirtual 202, 3) := by decide +kernel
theorem dX8_bladder_13 : decode cX8_bladder 13 = .ok (.ifCond .eq 22, 3) := by decide +kernel
theorem dX8_bladder_16 : decode cX8_bladder 16 = .ok (.aload_n 0, 1) := by decide +kernel
theorem dX8_bladder_17 : decode cX8_bladder 17 = .ok (.iload_n 3, 1) := by decide +kernel
theorem dX8_bladder_18 : decode cX8_bladder 18 = .ok (.invokevirtual 202, 3) := by decide +kernel
theorem dX8_bladder_21 : decode cX8_bladder 21 = .ok (.ifCond .eq 14, 3) := by decide +kernel
theorem dX8_bladder_24 : decode cX8_bladder 24 = .ok (.iload 4, 2) := by decide +kernel
theorem dX8_bladder_26 : decode cX8_bladder 26 = .ok (.i2l, 1) := by decide +kernel
theorem dX8_bladder_27 : decode cX8_bladder 27 = .ok (.lconst 0, 1) := by decide +kernel
theorem dX8_bladder_28 : decode cX8_bladder 28 = .ok (.lconst 1, 1) := by decide +kernel
theorem dX8_bladder_29 : decode cX8_bladder 29 = .ok (.invokestatic 72, 3) := by decide +kernel
theorem dX8_bladder_32 : decode cX8_bladder 32 = .ok (.ifCond .ne 5, 3) := by decide +kernel
theorem dX8_bladder_35 : decode cX8_bladder 35 = .ok (.iconst (-1), 1) := by decide +kernel
theorem dX8_bladder_36 : decode cX8_bladder 36 = .ok (.ireturn, 1) := by decide +kernel
theorem dX8_bladder_37 : decode cX8_bladder 37 = .ok (.aload_n 0, 1) := by decide +kernel
theorem dX8_bladder_38 : decode cX8_bladder 38 = .ok (.iload_n 1, 1) := by decide +kernel
theorem dX8_bladder_39 : decode cX8_bladder 39 = .ok (.iload_n 2, 1) := by decide +kernel
theorem dX8_bladder_40 : decode cX8_bladder 40 = .ok (.invokevirtual 281, 3) := by decide +kernel
theorem dX8_bladder_43 : decode cX8_bladder 43 = .ok (.istore 5, 2) := by decide +kernel
theorem dX8_bladder_45 : decode cX8_bladder 45 = .ok (.aload_n 0, 1) := by decide +kernel
theorem dX8_bladder_46 : decode cX8_bladder 46 = .ok (.iload_n 1, 1) := by decide +kernel
theorem dX8_bladder_47 : decode cX8_bladder 47 = .ok (.iload_n 3, 1) := by decide +kernel
theorem dX8_bladder_48 : decode cX8_bladder 48 = .ok (.invokevirtual 281, 3) := by decide +kernel
theorem dX8_bladder_51 : decode cX8_bladder 51 = .ok (.istore 6, 2) := by decide +kernel
theorem dX8_bladder_53 : decode cX8_bladder 53 = .ok (.iload 5, 2) := by decide +kernel
theorem dX8_bladder_55 : decode cX8_bladder 55 = .ok (.bipush (-4), 2) := by decide +kernel
theorem dX8_bladder_57 : decode cX8_bladder 57 = .ok (.if_icmp .eq 10, 3) := by decide +kernel
theorem dX8_bladder_60 : decode cX8_bladder 60 = .ok (.iload 6, 2) := by decide +kernel
theorem dX8_bladder_62 : decode cX8_bladder 62 = .ok (.bipush (-4), 2) := by decide +kernel
theorem dX8_bladder_64 : decode cX8_bladder 64 = .ok (.if_icmp .ne 6, 3) := by decide +kernel
theorem dX8_bladder_67 : decode cX8_bladder 67 = .ok (.bipush (-4), 2) := by decide +kernel
theorem dX8_bladder_69 : decode cX8_bladder 69 = .ok (.ireturn, 1) := by decide +kernel
theorem dX8_bladder_70 : decode cX8_bladder 70 = .ok (.aload_n 0, 1) := by decide +kernel
theorem dX8_bladder_71 : decode cX8_bladder 71 = .ok (.iload_n 1, 1) := by decide +kernel
theorem dX8_bladder_72 : decode cX8_bladder 72 = .ok (.iconst 3, 1) := by decide +kernel
theorem dX8_bladder_73 : decode cX8_bladder 73 = .ok (.invokevirtual 153, 3) := by decide +kernel
theorem dX8_bladder_76 : decode cX8_bladder 76 = .ok (.istore 7, 2) := by decide +kernel
theorem dX8_bladder_78 : decode cX8_bladder 78 = .ok (.iload 4, 2) := by decide +kernel
theorem dX8_bladder_80 : decode cX8_bladder 80 = .ok (.iconst 1, 1) := by decide +kernel
theorem dX8_bladder_81 : decode cX8_bladder 81 = .ok (.if_icmp .ne 8, 3) := by decide +kernel
theorem dX8_bladder_84 : decode cX8_bladder 84 = .ok (.iload 6, 2) := by decide +kernel
theorem dX8_bladder_86 : decode cX8_bladder 86 = .ok (.goto 40, 3) := by decide +kernel
theorem dX8_bladder_89 : decode cX8_bladder 89 = .ok (.iload 5, 2) := by decide +kernel
theorem dX8_bladder_91 : decode cX8_bladder 91 = .ok (.iload 6, 2) := by decide +kernel
theorem dX8_bladder_93 : decode cX8_bladder 93 = .ok (.if_icmp .ne 7, 3) := by decide +kernel
theorem dX8_bladder_96 : decode cX8_bladder 96 = .ok (.iconst 0, 1) := by decide +kernel
theorem dX8_bladder_97 : decode cX8_bladder 97 = .ok (.goto 29, 3) := by decide +kernel
theorem dX8_bladder_100 : decode cX8_bladder 100 = .ok (.iload 7, 2) := by decide +kernel
theorem dX8_bladder_102 : decode cX8_bladder 102 = .ok (.ifCond .ne 8, 3) := by decide +kernel
theorem dX8_bladder_105 : decode cX8_bladder 105 = .ok (.bipush (-4), 2) := by decide +kernel
theorem dX8_bladder_107 : decode cX8_bladder 107 = .ok (.goto 19, 3) := by decide +kernel
theorem dX8_bladder_110 : decode cX8_bladder 110 = .ok (.iload 5, 2) := by decide +kernel
theorem dX8_bladder_112 : decode cX8_bladder 112 = .ok (.iload 6, 2) := by decide +kernel
theorem dX8_bladder_114 : decode cX8_bladder 114 = .ok (.isub, 1) := by decide +kernel
theorem dX8_bladder_115 : decode cX8_bladder 115 = .ok (.invokestatic 214, 3) := by decide +kernel
theorem dX8_bladder_118 : decode cX8_bladder 118 = .ok (.iload 7, 2) := by decide +kernel
theorem dX8_bladder_120 : decode cX8_bladder 120 = .ok (.iadd, 1) := by decide +kernel
theorem dX8_bladder_121 : decode cX8_bladder 121 = .ok (.iconst 1, 1) := by decide +kernel
theorem dX8_bladder_122 : decode cX8_bladder 122 = .ok (.isub, 1) := by decide +kernel
theorem dX8_bladder_123 : decode cX8_bladder 123 = .ok (.iload 7, 2) := by decide +kernel
theorem dX8_bladder_125 : decode cX8_bladder 125 = .ok (.idiv, 1) := by decide +kernel
theorem dX8_bladder_126 : decode cX8_bladder 126 = .ok (.ireturn, 1) := by decide +kernel
theorem dX8_beats_0 : decode cX8_beats 0 = .ok (.aload_n 0, 1) := by decide +kernel
theorem dX8_beats_1 : decode cX8_beats 1 = .ok (.iload_n 1, 1) := by decide +kernel
theorem dX8_beats_2 : decode cX8_beats 2 = .ok (.invokevirtual 163, 3) := by decide +kernel
theorem dX8_beats_5 : decode cX8_beats 5 = .ok (.ifCond .eq 38, 3) := by decide +kernel
theorem dX8_beats_8 : decode cX8_beats 8 = .ok (.iload_n 2, 1) := by decide +kernel
theorem dX8_beats_9 : decode cX8_beats 9 = .ok (.i2l, 1) := by decide +kernel
theorem dX8_beats_10 : decode cX8_beats 10 = .ok (.lconst 0, 1) := by decide +kernel
theorem dX8_beats_11 : decode cX8_beats 11 = .ok (.ldc2_w 284, 3) := by decide +kernel
theorem dX8_beats_14 : decode cX8_beats 14 = .ok (.invokestatic 72, 3) := by decide +kernel
theorem dX8_beats_17 : decode cX8_beats 17 = .ok (.ifCond .eq 26, 3) := by decide +kernel
theorem dX8_beats_20 : decode cX8_beats 20 = .ok (.iload_n 3, 1) := by decide +kernel
theorem dX8_beats_21 : decode cX8_beats 21 = .ok (.i2l, 1) := by decide +kernel
theorem dX8_beats_22 : decode cX8_beats 22 = .ok (.lconst 1, 1) := by decide +kernel
theorem dX8_beats_23 : decode cX8_beats 23 = .ok (.ldc2_w 286, 3) := by decide +kernel
theorem dX8_beats_26 : decode cX8_beats 26 = .ok (.invokestatic 72, 3) := by decide +kernel
theorem dX8_beats_29 : decode cX8_beats 29 = .ok (.ifCond .eq 14, 3) := by decide +kernel
theorem dX8_beats_32 : decode cX8_beats 32 = .ok (.iload 4, 2) := by decide +kernel
theorem dX8_beats_34 : decode cX8_beats 34 = .ok (.i2l, 1) := by decide +kernel
theorem dX8_beats_35 : decode cX8_beats 35 = .ok (.lconst 0, 1) := by decide +kernel
theorem dX8_beats_36 : decode cX8_beats 36 = .ok (.lconst 1, 1) := by decide +kernel
theorem dX8_beats_37 : decode cX8_beats 37 = .ok (.invokestatic 72, 3) := by decide +kernel
theorem dX8_beats_40 : decode cX8_beats 40 = .ok (.ifCond .ne 5, 3) := by decide +kernel
theorem dX8_beats_43 : decode cX8_beats 43 = .ok (.iconst (-1), 1) := by decide +kernel
theorem dX8_beats_44 : decode cX8_beats 44 = .ok (.ireturn, 1) := by decide +kernel
theorem dX8_beats_45 : decode cX8_beats 45 = .ok (.aload_n 0, 1) := by decide +kernel
theorem dX8_beats_46 : decode cX8_beats 46 = .ok (.iload_n 1, 1) := by decide +kernel
theorem dX8_beats_47 : decode cX8_beats 47 = .ok (.iconst 0, 1) := by decide +kernel
theorem dX8_beats_48 : decode cX8_beats 48 = .ok (.invokevirtual 153, 3) := by decide +kernel
theorem dX8_beats_51 : decode cX8_beats 51 = .ok (.istore 5, 2) := by decide +kernel
theorem dX8_beats_53 : decode cX8_beats 53 = .ok (.aload_n 0, 1) := by decide +kernel
theorem dX8_beats_54 : decode cX8_beats 54 = .ok (.iload 5, 2) := by decide +kernel
theorem dX8_beats_56 : decode cX8_beats 56 = .ok (.iload_n 2, 1) := by decide +kernel
theorem dX8_beats_57 : decode cX8_beats 57 = .ok (.aload_n 0, 1) := by decide +kernel
theorem dX8_beats_58 : decode cX8_beats 58 = .ok (.getfield 7, 3) := by decide +kernel
theorem dX8_beats_61 : decode cX8_beats 61 = .ok (.bipush 49, 2) := by decide +kernel
theorem dX8_beats_63 : decode cX8_beats 63 = .ok (.iaload, 1) := by decide +kernel
theorem dX8_beats_64 : decode cX8_beats 64 = .ok (.iconst 0, 1) := by decide +kernel
theorem dX8_beats_65 : decode cX8_beats 65 = .ok (.iconst 0, 1) := by decide +kernel
theorem dX8_beats_66 : decode cX8_beats 66 = .ok (.invokevirtual 159, 3) := by decide +kernel
theorem dX8_beats_69 : decode cX8_beats 69 = .ok (.ifCond .le 29, 3) := by decide +kernel
theorem dX8_beats_72 : decode cX8_beats 72 = .ok (.aload_n 0, 1) := by decide +kernel
theorem dX8_beats_73 : decode cX8_beats 73 = .ok (.iload 5, 2) := by decide +kernel
theorem dX8_beats_75 : decode cX8_beats 75 = .ok (.sipush 9999, 3) := by decide +kernel
theorem dX8_beats_78 : decode cX8_beats 78 = .ok (.aload_n 0, 1) := by decide +kernel
theorem dX8_beats_79 : decode cX8_beats 79 = .ok (.getfield 7, 3) := by decide +kernel
theorem dX8_beats_82 : decode cX8_beats 82 = .ok (.bipush 49, 2) := by decide +kernel
theorem dX8_beats_84 : decode cX8_beats 84 = .ok (.iaload, 1) := by decide +kernel
theorem dX8_beats_85 : decode cX8_beats 85 = .ok (.iconst 0, 1) := by decide +kernel
theorem dX8_beats_86 : decode cX8_beats 86 = .ok (.aload_n 0, 1) := by decide +kernel
theorem dX8_beats_87 : decode cX8_beats 87 = .ok (.getfield 17, 3) := by decide +kernel
theorem dX8_beats_90 : decode cX8_beats 90 = .ok (.iconst 0, 1) := by decide +kernel
theorem dX8_beats_91 : decode cX8_beats 91 = .ok (.iaload, 1) := by decide +kernel
theorem dX8_beats_92 : decode cX8_beats 92 = .ok (.invokevirtual 159, 3) := by decide +kernel
theorem dX8_beats_95 : decode cX8_beats 95 = .ok (.ifCond .lt 6, 3) := by decide +kernel
theorem dX8_beats_98 : decode cX8_beats 98 = .ok (.bipush (-4), 2) := by decide +kernel
theorem dX8_beats_100 : decode cX8_beats 100 = .ok (.ireturn, 1) := by decide +kernel
theorem dX8_beats_101 : decode cX8_beats 101 = .ok (.iload_n 2, 1) := by decide +kernel
theorem dX8_beats_102 : decode cX8_beats 102 = .ok (.istore 6, 2) := by decide +kernel
theorem dX8_beats_104 : decode cX8_beats 104 = .ok (.iconst 2, 1) := by decide +kernel
theorem dX8_beats_105 : decode cX8_beats 105 = .ok (.istore 7, 2) := by decide +kernel
theorem dX8_beats_107 : decode cX8_beats 107 = .ok (.aload_n 0, 1) := by decide +kernel
theorem dX8_beats_108 : decode cX8_beats 108 = .ok (.iload 5, 2) := by decide +kernel
theorem dX8_beats_110 : decode cX8_beats 110 = .ok (.iload 6, 2) := by decide +kernel
theorem dX8_beats_112 : decode cX8_beats 112 = .ok (.aload_n 0, 1) := by decide +kernel
theorem dX8_beats_113 : decode cX8_beats 113 = .ok (.getfield 7, 3) := by decide +kernel
theorem dX8_beats_116 : decode cX8_beats 116 = .ok (.bipush 49, 2) := by decide +kernel
theorem dX8_beats_118 : decode cX8_beats 118 = .ok (.iaload, 1) := by decide +kernel
theorem dX8_beats_119 : decode cX8_beats 119 = .ok (.iconst 0, 1) := by decide +kernel
theorem dX8_beats_120 : decode cX8_beats 120 = .ok (.aload_n 0, 1) := by decide +kernel
theorem dX8_beats_121 : decode cX8_beats 121 = .ok (.getfield 17, 3) := by decide +kernel
theorem dX8_beats_124 : decode cX8_beats 124 = .ok (.iconst 0, 1) := by decide +kernel
theorem dX8_beats_125 : decode cX8_beats 125 = .ok (.iaload, 1) := by decide +kernel
theorem dX8_beats_126 : decode cX8_beats 126 = .ok (.invokevirtual 159, 3) := by decide +kernel
theorem dX8_beats_129 : decode cX8_beats 129 = .ok (.ifCond .lt 31, 3) := by decide +kernel
theorem dX8_beats_132 : decode cX8_beats 132 = .ok (.iload 6, 2) := by decide +kernel
theorem dX8_beats_134 : decode cX8_beats 134 = .ok (.iload_n 3, 1) := by decide +kernel
theorem dX8_beats_135 : decode cX8_beats 135 = .ok (.iadd, 1) := by decide +kernel
theorem dX8_beats_136 : decode cX8_beats 136 = .ok (.sipush 9999, 3) := by decide +kernel
theorem dX8_beats_139 : decode cX8_beats 139 = .ok (.if_icmp .le 9, 3) := by decide +kernel
theorem dX8_beats_142 : decode cX8_beats 142 = .ok (.sipush 9999, 3) := by decide +kernel
theorem dX8_beats_145 : decode cX8_beats 145 = .ok (.goto 7, 3) := by decide +kernel
theorem dX8_beats_148 : decode cX8_beats 148 = .ok (.iload 6, 2) := by decide +kernel
theorem dX8_beats_150 : decode cX8_beats 150 = .ok (.iload_n 3, 1) := by decide +kernel
theorem dX8_beats_151 : decode cX8_beats 151 = .ok (.iadd, 1) := by decide +kernel
theorem dX8_beats_152 : decode cX8_beats 152 = .ok (.istore 6, 2) := by decide +kernel
theorem dX8_beats_154 : decode cX8_beats 154 = .ok (.iinc 7 1, 3) := by decide +kernel
theorem dX8_beats_157 : decode cX8_beats 157 = .ok (.goto (-50), 3) := by decide +kernel
theorem dX8_beats_160 : decode cX8_beats 160 = .ok (.iload 4, 2) := by decide +kernel
theorem dX8_beats_162 : decode cX8_beats 162 = .ok (.ifCond .ne 8, 3) := by decide +kernel
theorem dX8_beats_165 : decode cX8_beats 165 = .ok (.iload 7, 2) := by decide +kernel
theorem dX8_beats_167 : decode cX8_beats 167 = .ok (.goto 5, 3) := by decide +kernel
theorem dX8_beats_170 : decode cX8_beats 170 = .ok (.iload 6, 2) := by decide +kernel
theorem dX8_beats_172 : decode cX8_beats 172 = .ok (.ireturn, 1) := by decide +kernel
theorem dX8_saw_0 : decode cX8_saw 0 = .ok (.iload_n 1, 1) := by decide +kernel
theorem dX8_saw_1 : decode cX8_saw 1 = .ok (.invokestatic 174, 3) := by decide +kernel
theorem dX8_saw_4 : decode cX8_saw 4 = .ok (.ifCond .eq 11, 3) := by decide +kernel
theorem dX8_saw_7 : decode cX8_saw 7 = .ok (.aload_n 0, 1) := by decide +kernel
theorem dX8_saw_8 : decode cX8_saw 8 = .ok (.iload_n 2, 1) := by decide +kernel
theorem dX8_saw_9 : decode cX8_saw 9 = .ok (.invokevirtual 202, 3) := by decide +kernel
theorem dX8_saw_12 : decode cX8_saw 12 = .ok (.ifCond .ne 5, 3) := by decide +kernel
theorem dX8_saw_15 : decode cX8_saw 15 = .ok (.iconst (-1), 1) := by decide +kernel
theorem dX8_saw_16 : decode cX8_saw 16 = .ok (.ireturn, 1) := by decide +kernel
theorem dX8_saw_17 : decode cX8_saw 17 = .ok (.aload_n 0, 1) := by decide +kernel
theorem dX8_saw_18 : decode cX8_saw 18 = .ok (.getfield 7, 3) := by decide +kernel
theorem dX8_saw_21 : decode cX8_saw 21 = .ok (.bipush 54, 2) := by decide +kernel
theorem dX8_saw_23 : decode cX8_saw 23 = .ok (.iaload, 1) := by decide +kernel
theorem dX8_saw_24 : decode cX8_saw 24 = .ok (.bipush 12, 2) := by decide +kernel
theorem dX8_saw_26 : decode cX8_saw 26 = .ok (.if_icmp .ne 6, 3) := by decide +kernel
theorem dX8_saw_29 : decode cX8_saw 29 = .ok (.bipush (-3), 2) := by decide +kernel
theorem dX8_saw_31 : decode cX8_saw 31 = .ok (.ireturn, 1) := by decide +kernel
theorem dX8_saw_32 : decode cX8_saw 32 = .ok (.bipush 55, 2) := by decide +kernel
theorem dX8_saw_34 : decode cX8_saw 34 = .ok (.iconst 3, 1) := by decide +kernel
theorem dX8_saw_35 : decode cX8_saw 35 = .ok (.aload_n 0, 1) := by decide +kernel
theorem dX8_saw_36 : decode cX8_saw 36 = .ok (.getfield 7, 3) := by decide +kernel
theorem dX8_saw_39 : decode cX8_saw 39 = .ok (.bipush 54, 2) := by decide +kernel
theorem dX8_saw_41 : decode cX8_saw 41 = .ok (.iaload, 1) := by decide +kernel
theorem dX8_saw_42 : decode cX8_saw 42 = .ok (.imul, 1) := by decide +kernel
theorem dX8_saw_43 : decode cX8_saw 43 = .ok (.iadd, 1) := by decide +kernel
theorem dX8_saw_44 : decode cX8_saw 44 = .ok (.istore 4, 2) := by decide +kernel
theorem dX8_saw_46 : decode cX8_saw 46 = .ok (.aload_n 0, 1) := by decide +kernel
theorem dX8_saw_47 : decode cX8_saw 47 = .ok (.getfield 7, 3) := by decide +kernel
theorem dX8_saw_50 : decode cX8_saw 50 = .ok (.iload 4, 2) := by decide +kernel
theorem dX8_saw_52 : decode cX8_saw 52 = .ok (.iload_n 1, 1) := by decide +kernel
theorem dX8_saw_53 : decode cX8_saw 53 = .ok (.iastore, 1) := by decide +kernel
theorem dX8_saw_54 : decode cX8_saw 54 = .ok (.aload_n 0, 1) := by decide +kernel
theorem dX8_saw_55 : decode cX8_saw 55 = .ok (.getfield 7, 3) := by decide +kernel
theorem dX8_saw_58 : decode cX8_saw 58 = .ok (.iload 4, 2) := by decide +kernel
theorem dX8_saw_60 : decode cX8_saw 60 = .ok (.iconst 1, 1) := by decide +kernel
theorem dX8_saw_61 : decode cX8_saw 61 = .ok (.iadd, 1) := by decide +kernel
theorem dX8_saw_62 : decode cX8_saw 62 = .ok (.iload_n 2, 1) := by decide +kernel
theorem dX8_saw_63 : decode cX8_saw 63 = .ok (.iastore, 1) := by decide +kernel
theorem dX8_saw_64 : decode cX8_saw 64 = .ok (.aload_n 0, 1) := by decide +kernel
theorem dX8_saw_65 : decode cX8_saw 65 = .ok (.getfield 7, 3) := by decide +kernel
theorem dX8_saw_68 : decode cX8_saw 68 = .ok (.iload 4, 2) := by decide +kernel
theorem dX8_saw_70 : decode cX8_saw 70 = .ok (.iconst 2, 1) := by decide +kernel
theorem dX8_saw_71 : decode cX8_saw 71 = .ok (.iadd, 1) := by decide +kernel
theorem dX8_saw_72 : decode cX8_saw 72 = .ok (.iload_n 3, 1) := by decide +kernel
theorem dX8_saw_73 : decode cX8_saw 73 = .ok (.invokestatic 63, 3) := by decide +kernel
theorem dX8_saw_76 : decode cX8_saw 76 = .ok (.iastore, 1) := by decide +kernel
theorem dX8_saw_77 : decode cX8_saw 77 = .ok (.aload_n 0, 1) := by decide +kernel
theorem dX8_saw_78 : decode cX8_saw 78 = .ok (.getfield 7, 3) := by decide +kernel
theorem dX8_saw_81 : decode cX8_saw 81 = .ok (.bipush 54, 2) := by decide +kernel
theorem dX8_saw_83 : decode cX8_saw 83 = .ok (.dup2, 1) := by decide +kernel
theorem dX8_saw_84 : decode cX8_saw 84 = .ok (.iaload, 1) := by decide +kernel
theorem dX8_saw_85 : decode cX8_saw 85 = .ok (.iconst 1, 1) := by decide +kernel
theorem dX8_saw_86 : decode cX8_saw 86 = .ok (.iadd, 1) := by decide +kernel
theorem dX8_saw_87 : decode cX8_saw 87 = .ok (.iastore, 1) := by decide +kernel
theorem dX8_saw_88 : decode cX8_saw 88 = .ok (.aload_n 0, 1) := by decide +kernel
theorem dX8_saw_89 : decode cX8_saw 89 = .ok (.getfield 7, 3) := by decide +kernel
theorem dX8_saw_92 : decode cX8_saw 92 = .ok (.bipush 54, 2) := by decide +kernel
theorem dX8_saw_94 : decode cX8_saw 94 = .ok (.iaload, 1) := by decide +kernel
theorem dX8_saw_95 : decode cX8_saw 95 = .ok (.ireturn, 1) := by decide +kernel
theorem dX8_forget_0 : decode cX8_forget 0 = .ok (.aload_n 0, 1) := by decide +kernel
theorem dX8_forget_1 : decode cX8_forget 1 = .ok (.getfield 7, 3) := by decide +kernel
theorem dX8_forget_4 : decode cX8_forget 4 = .ok (.bipush 54, 2) := by decide +kernel
theorem dX8_forget_6 : decode cX8_forget 6 = .ok (.iaload, 1) := by decide +kernel
theorem dX8_forget_7 : decode cX8_forget 7 = .ok (.istore_n 1, 1) := by decide +kernel
theorem dX8_forget_8 : decode cX8_forget 8 = .ok (.aload_n 0, 1) := by decide +kernel
theorem dX8_forget_9 : decode cX8_forget 9 = .ok (.getfield 7, 3) := by decide +kernel
theorem dX8_forget_12 : decode cX8_forget 12 = .ok (.bipush 54, 2) := by decide +kernel
theorem dX8_forget_14 : decode cX8_forget 14 = .ok (.iconst 0, 1) := by decide +kernel
theorem dX8_forget_15 : decode cX8_forget 15 = .ok (.iastore, 1) := by decide +kernel
theorem dX8_forget_16 : decode cX8_forget 16 = .ok (.iload_n 1, 1) := by decide +kernel
theorem dX8_forget_17 : decode cX8_forget 17 = .ok (.ireturn, 1) := by decide +kernel
theorem dX8_canBe_0 : decode cX8_canBe 0 = .ok (.bipush 55, 2) := by decide +kernel
theorem dX8_canBe_2 : decode cX8_canBe 2 = .ok (.istore_n 3, 1) := by decide +kernel
theorem dX8_canBe_3 : decode cX8_canBe 3 = .ok (.iload_n 3, 1) := by decide +kernel
theorem dX8_canBe_4 : decode cX8_canBe 4 = .ok (.bipush 55, 2) := by decide +kernel
theorem dX8_canBe_6 : decode cX8_canBe 6 = .ok (.iconst 3, 1) := by decide +kernel
theorem dX8_canBe_7 : decode cX8_canBe 7 = .ok (.aload_n 0, 1) := by decide +kernel
theorem dX8_canBe_8 : decode cX8_canBe 8 = .ok (.getfield 7, 3) := by decide +kernel
theorem dX8_canBe_11 : decode cX8_canBe 11 = .ok (.bipush 54, 2) := by decide +kernel
theorem dX8_canBe_13 : decode cX8_canBe 13 = .ok (.iaload, 1) := by decide +kernel
theorem dX8_canBe_14 : decode cX8_canBe 14 = .ok (.imul, 1) := by decide +kernel
theorem dX8_canBe_15 : decode cX8_canBe 15 = .ok (.iadd, 1) := by decide +kernel
theorem dX8_canBe_16 : decode cX8_canBe 16 = .ok (.if_icmp .ge 60, 3) := by decide +kernel
theorem dX8_canBe_19 : decode cX8_canBe 19 = .ok (.aload_n 0, 1) := by decide +kernel
theorem dX8_canBe_20 : decode cX8_canBe 20 = .ok (.iload_n 1, 1) := by decide +kernel
theorem dX8_canBe_21 : decode cX8_canBe 21 = .ok (.iload_n 2, 1) := by decide +kernel
theorem dX8_canBe_22 : decode cX8_canBe 22 = .ok (.aload_n 0, 1) := by decide +kernel
theorem dX8_canBe_23 : decode cX8_canBe 23 = .ok (.getfield 7, 3) := by decide +kernel
theorem dX8_canBe_26 : decode cX8_canBe 26 = .ok (.bipush 49, 2) := by decide +kernel
theorem dX8_canBe_28 : decode cX8_canBe 28 = .ok (.iaload, 1) := by decide +kernel
theorem dX8_canBe_29 : decode cX8_canBe 29 = .ok (.aload_n 0, 1) := by decide +kernel
theorem dX8_canBe_30 : decode cX8_canBe 30 = .ok (.getfield 7, 3) := by decide +kernel
theorem dX8_canBe_33 : decode cX8_canBe 33 = .ok (.iload_n 3, 1) := by decide +kernel
theorem dX8_canBe_34 : decode cX8_canBe 34 = .ok (.iaload, 1) := by decide +kernel
theorem dX8_canBe_35 : decode cX8_canBe 35 = .ok (.aload_n 0, 1) := by decide +kernel
theorem dX8_canBe_36 : decode cX8_canBe 36 = .ok (.getfield 7, 3) := by decide +kernel
theorem dX8_canBe_39 : decode cX8_canBe 39 = .ok (.iload_n 3, 1) := by decide +kernel
theorem dX8_canBe_40 : decode cX8_canBe 40 = .ok (.iconst 1, 1) := by decide +kernel
theorem dX8_canBe_41 : decode cX8_canBe 41 = .ok (.iadd, 1) := by decide +kernel
theorem dX8_canBe_42 : decode cX8_canBe 42 = .ok (.iaload, 1) := by decide +kernel
theorem dX8_canBe_43 : decode cX8_canBe 43 = .ok (.invokevirtual 159, 3) := by decide +kernel
theorem dX8_canBe_46 : decode cX8_canBe 46 = .ok (.ifCond .le 7, 3) := by decide +kernel
theorem dX8_canBe_49 : decode cX8_canBe 49 = .ok (.iconst 1, 1) := by decide +kernel
theorem dX8_canBe_50 : decode cX8_canBe 50 = .ok (.goto 4, 3) := by decide +kernel
theorem dX8_canBe_53 : decode cX8_canBe 53 = .ok (.iconst 0, 1) := by decide +kernel
theorem dX8_canBe_54 : decode cX8_canBe 54 = .ok (.invokestatic 63, 3) := by decide +kernel
theorem dX8_canBe_57 : decode cX8_canBe 57 = .ok (.aload_n 0, 1) := by decide +kernel
theorem dX8_canBe_58 : decode cX8_canBe 58 = .ok (.getfield 7, 3) := by decide +kernel
theorem dX8_canBe_61 : decode cX8_canBe 61 = .ok (.iload_n 3, 1) := by decide +kernel
theorem dX8_canBe_62 : decode cX8_canBe 62 = .ok (.iconst 2, 1) := by decide +kernel
theorem dX8_canBe_63 : decode cX8_canBe 63 = .ok (.iadd, 1) := by decide +kernel
theorem dX8_canBe_64 : decode cX8_canBe 64 = .ok (.iaload, 1) := by decide +kernel
theorem dX8_canBe_65 : decode cX8_canBe 65 = .ok (.if_icmp .eq 5, 3) := by decide +kernel
theorem dX8_canBe_68 : decode cX8_canBe 68 = .ok (.iconst 0, 1) := by decide +kernel
theorem dX8_canBe_69 : decode cX8_canBe 69 = .ok (.ireturn, 1) := by decide +kernel
theorem dX8_canBe_70 : decode cX8_canBe 70 = .ok (.iinc 3 3, 3) := by decide +kernel
theorem dX8_canBe_73 : decode cX8_canBe 73 = .ok (.goto (-70), 3) := by decide +kernel
theorem dX8_canBe_76 : decode cX8_canBe 76 = .ok (.iconst 1, 1) := by decide +kernel
theorem dX8_canBe_77 : decode cX8_canBe 77 = .ok (.ireturn, 1) := by decide +kernel
theorem dX8_fits_0 : decode cX8_fits 0 = .ok (.iload_n 1, 1) := by decide +kernel
theorem dX8_fits_1 : decode cX8_fits 1 = .ok (.invokestatic 226, 3) := by decide +kernel
theorem dX8_fits_4 : decode cX8_fits 4 = .ok (.ifCond .eq 15, 3) := by decide +kernel
theorem dX8_fits_7 : decode cX8_fits 7 = .ok (.iload_n 2, 1) := by decide +kernel
theorem dX8_fits_8 : decode cX8_fits 8 = .ok (.i2l, 1) := by decide +kernel
theorem dX8_fits_9 : decode cX8_fits 9 = .ok (.lconst 0, 1) := by decide +kernel
theorem dX8_fits_10 : decode cX8_fits 10 = .ok (.ldc2_w 229, 3) := by decide +kernel
theorem dX8_fits_13 : decode cX8_fits 13 = .ok (.invokestatic 72, 3) := by decide +kernel
theorem dX8_fits_16 : decode cX8_fits 16 = .ok (.ifCond .ne 5, 3) := by decide +kernel
theorem dX8_fits_19 : decode cX8_fits 19 = .ok (.iconst (-1), 1) := by decide +kernel
theorem dX8_fits_20 : decode cX8_fits 20 = .ok (.ireturn, 1) := by decide +kernel
theorem dX8_fits_21 : decode cX8_fits 21 = .ok (.aload_n 0, 1) := by decide +kernel
theorem dX8_fits_22 : decode cX8_fits 22 = .ok (.invokevirtual 231, 3) := by decide +kernel
theorem dX8_fits_25 : decode cX8_fits 25 = .ok (.iconst 0, 1) := by decide +kernel
theorem dX8_fits_26 : decode cX8_fits 26 = .ok (.istore_n 3, 1) := by decide +kernel
theorem dX8_fits_27 : decode cX8_fits 27 = .ok (.iload_n 3, 1) := by decide +kernel
theorem dX8_fits_28 : decode cX8_fits 28 = .ok (.sipush 9999, 3) := by decide +kernel
theorem dX8_fits_31 : decode cX8_fits 31 = .ok (.if_icmp .gt 23, 3) := by decide +kernel
theorem dX8_fits_34 : decode cX8_fits 34 = .ok (.aload_n 0, 1) := by decide +kernel
theorem dX8_fits_35 : decode cX8_fits 35 = .ok (.iload_n 1, 1) := by decide +kernel
theorem dX8_fits_36 : decode cX8_fits 36 = .ok (.iload_n 3, 1) := by decide +kernel
theorem dX8_fits_37 : decode cX8_fits 37 = .ok (.invokevirtual 288, 3) := by decide +kernel
theorem dX8_fits_40 : decode cX8_fits 40 = .ok (.ifCond .eq 8, 3) := by decide +kernel
theorem dX8_fits_43 : decode cX8_fits 43 = .ok (.aload_n 0, 1) := by decide +kernel
theorem dX8_fits_44 : decode cX8_fits 44 = .ok (.iload_n 3, 1) := by decide +kernel
theorem dX8_fits_45 : decode cX8_fits 45 = .ok (.invokevirtual 242, 3) := by decide +kernel
theorem dX8_fits_48 : decode cX8_fits 48 = .ok (.iinc 3 1, 3) := by decide +kernel
theorem dX8_fits_51 : decode cX8_fits 51 = .ok (.goto (-24), 3) := by decide +kernel
theorem dX8_fits_54 : decode cX8_fits 54 = .ok (.aload_n 0, 1) := by decide +kernel
theorem dX8_fits_55 : decode cX8_fits 55 = .ok (.iload_n 2, 1) := by decide +kernel
theorem dX8_fits_56 : decode cX8_fits 56 = .ok (.invokevirtual 245, 3) := by decide +kernel
theorem dX8_fits_59 : decode cX8_fits 59 = .ok (.ireturn, 1) := by decide +kernel
theorem dX8_who_0 : decode cX8_who 0 = .ok (.iconst 0, 1) := by decide +kernel
theorem dX8_who_1 : decode cX8_who 1 = .ok (.istore_n 1, 1) := by decide +kernel
theorem dX8_who_2 : decode cX8_who 2 = .ok (.iconst 0, 1) := by decide +kernel
theorem dX8_who_3 : decode cX8_who 3 = .ok (.istore_n 2, 1) := by decide +kernel
theorem dX8_who_4 : decode cX8_who 4 = .ok (.iload_n 2, 1) := by decide +kernel
theorem dX8_who_5 : decode cX8_who 5 = .ok (.aload_n 0, 1) := by decide +kernel
theorem dX8_who_6 : decode cX8_who 6 = .ok (.getfield 7, 3) := by decide +kernel
theorem dX8_who_9 : decode cX8_who 9 = .ok (.bipush 53, 2) := by decide +kernel
theorem dX8_who_11 : decode cX8_who 11 = .ok (.iaload, 1) := by decide +kernel
theorem dX8_who_12 : decode cX8_who 12 = .ok (.if_icmp .ge 37, 3) := by decide +kernel
theorem dX8_who_15 : decode cX8_who 15 = .ok (.iload_n 1, 1) := by decide +kernel
theorem dX8_who_16 : decode cX8_who 16 = .ok (.aload_n 0, 1) := by decide +kernel
theorem dX8_who_17 : decode cX8_who 17 = .ok (.aload_n 0, 1) := by decide +kernel
theorem dX8_who_18 : decode cX8_who 18 = .ok (.iload_n 2, 1) := by decide +kernel
theorem dX8_who_19 : decode cX8_who 19 = .ok (.invokevirtual 156, 3) := by decide +kernel
theorem dX8_who_22 : decode cX8_who 22 = .ok (.aload_n 0, 1) := by decide +kernel
theorem dX8_who_23 : decode cX8_who 23 = .ok (.iload_n 2, 1) := by decide +kernel
theorem dX8_who_24 : decode cX8_who 24 = .ok (.iconst 1, 1) := by decide +kernel
theorem dX8_who_25 : decode cX8_who 25 = .ok (.invokevirtual 153, 3) := by decide +kernel
theorem dX8_who_28 : decode cX8_who 28 = .ok (.invokevirtual 288, 3) := by decide +kernel
theorem dX8_who_31 : decode cX8_who 31 = .ok (.ifCond .eq 9, 3) := by decide +kernel
theorem dX8_who_34 : decode cX8_who 34 = .ok (.iconst 1, 1) := by decide +kernel
theorem dX8_who_35 : decode cX8_who 35 = .ok (.iload_n 2, 1) := by decide +kernel
theorem dX8_who_36 : decode cX8_who 36 = .ok (.ishl, 1) := by decide +kernel
theorem dX8_who_37 : decode cX8_who 37 = .ok (.goto 4, 3) := by decide +kernel
theorem dX8_who_40 : decode cX8_who 40 = .ok (.iconst 0, 1) := by decide +kernel
theorem dX8_who_41 : decode cX8_who 41 = .ok (.ior, 1) := by decide +kernel
theorem dX8_who_42 : decode cX8_who 42 = .ok (.istore_n 1, 1) := by decide +kernel
theorem dX8_who_43 : decode cX8_who 43 = .ok (.iinc 2 1, 3) := by decide +kernel
theorem dX8_who_46 : decode cX8_who 46 = .ok (.goto (-42), 3) := by decide +kernel
theorem dX8_who_49 : decode cX8_who 49 = .ok (.iload_n 1, 1) := by decide +kernel
theorem dX8_who_50 : decode cX8_who 50 = .ok (.ireturn, 1) := by decide +kernel
theorem dX8_copies_0 : decode cX8_copies 0 = .ok (.iconst 0, 1) := by decide +kernel
theorem dX8_copies_1 : decode cX8_copies 1 = .ok (.istore_n 3, 1) := by decide +kernel
theorem dX8_copies_2 : decode cX8_copies 2 = .ok (.iload_n 3, 1) := by decide +kernel
theorem dX8_copies_3 : decode cX8_copies 3 = .ok (.bipush 100, 2) := by decide +kernel
theorem dX8_copies_5 : decode cX8_copies 5 = .ok (.if_icmp .ge 25, 3) := by decide +kernel
theorem dX8_copies_8 : decode cX8_copies 8 = .ok (.aload_n 0, 1) := by decide +kernel
theorem dX8_copies_9 : decode cX8_copies 9 = .ok (.getfield 7, 3) := by decide +kernel
theorem dX8_copies_12 : decode cX8_copies 12 = .ok (.iload_n 1, 1) := by decide +kernel
theorem dX8_copies_13 : decode cX8_copies 13 = .ok (.iload_n 3, 1) := by decide +kernel
theorem dX8_copies_14 : decode cX8_copies 14 = .ok (.iadd, 1) := by decide +kernel
theorem dX8_copies_15 : decode cX8_copies 15 = .ok (.aload_n 0, 1) := by decide +kernel
theorem dX8_copies_16 : decode cX8_copies 16 = .ok (.getfield 7, 3) := by decide +kernel
theorem dX8_copies_19 : decode cX8_copies 19 = .ok (.iload_n 2, 1) := by decide +kernel
theorem dX8_copies_20 : decode cX8_copies 20 = .ok (.iload_n 3, 1) := by decide +kernel
theorem dX8_copies_21 : decode cX8_copies 21 = .ok (.iadd, 1) := by decide +kernel
theorem dX8_copies_22 : decode cX8_copies 22 = .ok (.iaload, 1) := by decide +kernel
theorem dX8_copies_23 : decode cX8_copies 23 = .ok (.iastore, 1) := by decide +kernel
theorem dX8_copies_24 : decode cX8_copies 24 = .ok (.iinc 3 1, 3) := by decide +kernel
theorem dX8_copies_27 : decode cX8_copies 27 = .ok (.goto (-25), 3) := by decide +kernel
theorem dX8_copies_30 : decode cX8_copies 30 = .ok (.return_, 1) := by decide +kernel
theorem dX8_keep_0 : decode cX8_keep 0 = .ok (.iload_n 1, 1) := by decide +kernel
theorem dX8_keep_1 : decode cX8_keep 1 = .ok (.i2l, 1) := by decide +kernel
theorem dX8_keep_2 : decode cX8_keep 2 = .ok (.lconst 0, 1) := by decide +kernel
theorem dX8_keep_3 : decode cX8_keep 3 = .ok (.lconst 1, 1) := by decide +kernel
theorem dX8_keep_4 : decode cX8_keep 4 = .ok (.invokestatic 72, 3) := by decide +kernel
theorem dX8_keep_7 : decode cX8_keep 7 = .ok (.ifCond .ne 5, 3) := by decide +kernel
theorem dX8_keep_10 : decode cX8_keep 10 = .ok (.iconst (-1), 1) := by decide +kernel
theorem dX8_keep_11 : decode cX8_keep 11 = .ok (.ireturn, 1) := by decide +kernel
theorem dX8_keep_12 : decode cX8_keep 12 = .ok (.aload_n 0, 1) := by decide +kernel
theorem dX8_keep_13 : decode cX8_keep 13 = .ok (.getfield 13, 3) := by decide +kernel
theorem dX8_keep_16 : decode cX8_keep 16 = .ok (.iload_n 1, 1) := by decide +kernel
theorem dX8_keep_17 : decode cX8_keep 17 = .ok (.baload, 1) := by decide +kernel
theorem dX8_keep_18 : decode cX8_keep 18 = .ok (.invokestatic 63, 3) := by decide +kernel
theorem dX8_keep_21 : decode cX8_keep 21 = .ok (.istore_n 2, 1) := by decide +kernel
theorem dX8_keep_22 : decode cX8_keep 22 = .ok (.aload_n 0, 1) := by decide +kernel
theorem dX8_keep_23 : decode cX8_keep 23 = .ok (.getfield 13, 3) := by decide +kernel
theorem dX8_keep_26 : decode cX8_keep 26 = .ok (.iload_n 1, 1) := by decide +kernel
theorem dX8_keep_27 : decode cX8_keep 27 = .ok (.iconst 1, 1) := by decide +kernel
theorem dX8_keep_28 : decode cX8_keep 28 = .ok (.bastore, 1) := by decide +kernel
theorem dX8_keep_29 : decode cX8_keep 29 = .ok (.aload_n 0, 1) := by decide +kernel
theorem dX8_keep_30 : decode cX8_keep 30 = .ok (.bipush 100, 2) := by decide +kernel
theorem dX8_keep_32 : decode cX8_keep 32 = .ok (.iload_n 1, 1) := by decide +kernel
theorem dX8_keep_33 : decode cX8_keep 33 = .ok (.iconst 1, 1) := by decide +kernel
theorem dX8_keep_34 : decode cX8_keep 34 = .ok (.iadd, 1) := by decide +kernel
theorem dX8_keep_35 : decode cX8_keep 35 = .ok (.imul, 1) := by decide +kernel
theorem dX8_keep_36 : decode cX8_keep 36 = .ok (.iconst 0, 1) := by decide +kernel
theorem dX8_keep_37 : decode cX8_keep 37 = .ok (.invokevirtual 291, 3) := by decide +kernel
theorem dX8_keep_40 : decode cX8_keep 40 = .ok (.iload_n 2, 1) := by decide +kernel
theorem dX8_keep_41 : decode cX8_keep 41 = .ok (.ireturn, 1) := by decide +kernel
theorem dX8_restore_0 : decode cX8_restore 0 = .ok (.iload_n 1, 1) := by decide +kernel
theorem dX8_restore_1 : decode cX8_restore 1 = .ok (.i2l, 1) := by decide +kernel
theorem dX8_restore_2 : decode cX8_restore 2 = .ok (.lconst 0, 1) := by decide +kernel
theorem dX8_restore_3 : decode cX8_restore 3 = .ok (.lconst 1, 1) := by decide +kernel
theorem dX8_restore_4 : decode cX8_restore 4 = .ok (.invokestatic 72, 3) := by decide +kernel
theorem dX8_restore_7 : decode cX8_restore 7 = .ok (.ifCond .ne 5, 3) := by decide +kernel
theorem dX8_restore_10 : decode cX8_restore 10 = .ok (.iconst (-1), 1) := by decide +kernel
theorem dX8_restore_11 : decode cX8_restore 11 = .ok (.ireturn, 1) := by decide +kernel
theorem dX8_restore_12 : decode cX8_restore 12 = .ok (.aload_n 0, 1) := by decide +kernel
theorem dX8_restore_13 : decode cX8_restore 13 = .ok (.getfield 13, 3) := by decide +kernel
theorem dX8_restore_16 : decode cX8_restore 16 = .ok (.iload_n 1, 1) := by decide +kernel
theorem dX8_restore_17 : decode cX8_restore 17 = .ok (.baload, 1) := by decide +kernel
theorem dX8_restore_18 : decode cX8_restore 18 = .ok (.ifCond .ne 6, 3) := by decide +kernel
theorem dX8_restore_21 : decode cX8_restore 21 = .ok (.bipush (-2), 2) := by decide +kernel
theorem dX8_restore_23 : decode cX8_restore 23 = .ok (.ireturn, 1) := by decide +kernel
theorem dX8_restore_24 : decode cX8_restore 24 = .ok (.aload_n 0, 1) := by decide +kernel
theorem dX8_restore_25 : decode cX8_restore 25 = .ok (.iconst 0, 1) := by decide +kernel
theorem dX8_restore_26 : decode cX8_restore 26 = .ok (.bipush 100, 2) := by decide +kernel
theorem dX8_restore_28 : decode cX8_restore 28 = .ok (.iload_n 1, 1) := by decide +kernel
theorem dX8_restore_29 : decode cX8_restore 29 = .ok (.iconst 1, 1) := by decide +kernel
theorem dX8_restore_30 : decode cX8_restore 30 = .ok (.iadd, 1) := by decide +kernel
theorem dX8_restore_31 : decode cX8_restore 31 = .ok (.imul, 1) := by decide +kernel
theorem dX8_restore_32 : decode cX8_restore 32 = .ok (.invokevirtual 291, 3) := by decide +kernel
theorem dX8_restore_35 : decode cX8_restore 35 = .ok (.aload_n 0, 1) := by decide +kernel
theorem dX8_restore_36 : decode cX8_restore 36 = .ok (.getfield 7, 3) := by decide +kernel
theorem dX8_restore_39 : decode cX8_restore 39 = .ok (.bipush 50, 2) := by decide +kernel
theorem dX8_restore_41 : decode cX8_restore 41 = .ok (.iaload, 1) := by decide +kernel
theorem dX8_restore_42 : decode cX8_restore 42 = .ok (.ireturn, 1) := by decide +kernel
theorem dX8_isSheet_0 : decode cX8_isSheet 0 = .ok (.iload_n 0, 1) := by decide +kernel
theorem dX8_isSheet_1 : decode cX8_isSheet 1 = .ok (.i2l, 1) := by decide +kernel
theorem dX8_isSheet_2 : decode cX8_isSheet 2 = .ok (.lconst 0, 1) := by decide +kernel
theorem dX8_isSheet_3 : decode cX8_isSheet 3 = .ok (.ldc2_w 275, 3) := by decide +kernel
theorem dX8_isSheet_6 : decode cX8_isSheet 6 = .ok (.invokestatic 72, 3) := by decide +kernel
theorem dX8_isSheet_9 : decode cX8_isSheet 9 = .ok (.ifCond .eq 19, 3) := by decide +kernel
theorem dX8_isSheet_12 : decode cX8_isSheet 12 = .ok (.iload_n 1, 1) := by decide +kernel
theorem dX8_isSheet_13 : decode cX8_isSheet 13 = .ok (.i2l, 1) := by decide +kernel
theorem dX8_isSheet_14 : decode cX8_isSheet 14 = .ok (.lconst 0, 1) := by decide +kernel
theorem dX8_isSheet_15 : decode cX8_isSheet 15 = .ok (.ldc2_w 229, 3) := by decide +kernel
theorem dX8_isSheet_18 : decode cX8_isSheet 18 = .ok (.invokestatic 72, 3) := by decide +kernel
theorem dX8_isSheet_21 : decode cX8_isSheet 21 = .ok (.ifCond .eq 7, 3) := by decide +kernel
theorem dX8_isSheet_24 : decode cX8_isSheet 24 = .ok (.iconst 1, 1) := by decide +kernel
theorem dX8_isSheet_25 : decode cX8_isSheet 25 = .ok (.goto 4, 3) := by decide +kernel
theorem dX8_isSheet_28 : decode cX8_isSheet 28 = .ok (.iconst 0, 1) := by decide +kernel
theorem dX8_isSheet_29 : decode cX8_isSheet 29 = .ok (.ireturn, 1) := by decide +kernel
theorem dX8_sheet_0 : decode cX8_sheet 0 = .ok (.iload_n 1, 1) := by decide +kernel
theorem dX8_sheet_1 : decode cX8_sheet 1 = .ok (.iload_n 2, 1) := by decide +kernel
theorem dX8_sheet_2 : decode cX8_sheet 2 = .ok (.invokestatic 294, 3) := by decide +kernel
theorem dX8_sheet_5 : decode cX8_sheet 5 = .ok (.ifCond .eq 9, 3) := by decide +kernel
theorem dX8_sheet_8 : decode cX8_sheet 8 = .ok (.iload_n 3, 1) := by decide +kernel
theorem dX8_sheet_9 : decode cX8_sheet 9 = .ok (.bipush 40, 2) := by decide +kernel
theorem dX8_sheet_11 : decode cX8_sheet 11 = .ok (.if_icmp .le 5, 3) := by decide +kernel
theorem dX8_sheet_14 : decode cX8_sheet 14 = .ok (.iconst (-1), 1) := by decide +kernel
theorem dX8_sheet_15 : decode cX8_sheet 15 = .ok (.ireturn, 1) := by decide +kernel
theorem dX8_sheet_16 : decode cX8_sheet 16 = .ok (.iload_n 3, 1) := by decide +kernel
theorem dX8_sheet_17 : decode cX8_sheet 17 = .ok (.ifCond .ge 6, 3) := by decide +kernel
theorem dX8_sheet_20 : decode cX8_sheet 20 = .ok (.bipush (-14), 2) := by decide +kernel
theorem dX8_sheet_22 : decode cX8_sheet 22 = .ok (.ireturn, 1) := by decide +kernel
theorem dX8_sheet_23 : decode cX8_sheet 23 = .ok (.aload_n 0, 1) := by decide +kernel
theorem dX8_sheet_24 : decode cX8_sheet 24 = .ok (.getfield 41, 3) := by decide +kernel
theorem dX8_sheet_27 : decode cX8_sheet 27 = .ok (.iload_n 1, 1) := by decide +kernel
theorem dX8_sheet_28 : decode cX8_sheet 28 = .ok (.iload_n 2, 1) := by decide +kernel
theorem dX8_sheet_29 : decode cX8_sheet 29 = .ok (.iastore, 1) := by decide +kernel
theorem dX8_sheet_30 : decode cX8_sheet 30 = .ok (.aload_n 0, 1) := by decide +kernel
theorem dX8_sheet_31 : decode cX8_sheet 31 = .ok (.getfield 44, 3) := by decide +kernel
theorem dX8_sheet_34 : decode cX8_sheet 34 = .ok (.iload_n 1, 1) := by decide +kernel
theorem dX8_sheet_35 : decode cX8_sheet 35 = .ok (.iload_n 3, 1) := by decide +kernel
theorem dX8_sheet_36 : decode cX8_sheet 36 = .ok (.iastore, 1) := by decide +kernel
theorem dX8_sheet_37 : decode cX8_sheet 37 = .ok (.iconst 0, 1) := by decide +kernel
theorem dX8_sheet_38 : decode cX8_sheet 38 = .ok (.istore 4, 2) := by decide +kernel
theorem dX8_sheet_40 : decode cX8_sheet 40 = .ok (.iload 4, 2) := by decide +kernel
theorem dX8_sheet_42 : decode cX8_sheet 42 = .ok (.bipush 40, 2) := by decide +kernel
theorem dX8_sheet_44 : decode cX8_sheet 44 = .ok (.if_icmp .ge 22, 3) := by decide +kernel
theorem dX8_sheet_47 : decode cX8_sheet 47 = .ok (.aload_n 0, 1) := by decide +kernel
theorem dX8_sheet_48 : decode cX8_sheet 48 = .ok (.getfield 47, 3) := by decide +kernel
theorem dX8_sheet_51 : decode cX8_sheet 51 = .ok (.bipush 40, 2) := by decide +kernel
theorem dX8_sheet_53 : decode cX8_sheet 53 = .ok (.iload_n 1, 1) := by decide +kernel
theorem dX8_sheet_54 : decode cX8_sheet 54 = .ok (.imul, 1) := by decide +kernel
theorem dX8_sheet_55 : decode cX8_sheet 55 = .ok (.iload 4, 2) := by decide +kernel
theorem dX8_sheet_57 : decode cX8_sheet 57 = .ok (.iadd, 1) := by decide +kernel
theorem dX8_sheet_58 : decode cX8_sheet 58 = .ok (.iconst 0, 1) := by decide +kernel
theorem dX8_sheet_59 : decode cX8_sheet 59 = .ok (.iastore, 1) := by decide +kernel
theorem dX8_sheet_60 : decode cX8_sheet 60 = .ok (.iinc 4 1, 3) := by decide +kernel
theorem dX8_sheet_63 : decode cX8_sheet 63 = .ok (.goto (-23), 3) := by decide +kernel
theorem dX8_sheet_66 : decode cX8_sheet 66 = .ok (.iconst 1, 1) := by decide +kernel
theorem dX8_sheet_67 : decode cX8_sheet 67 = .ok (.ireturn, 1) := by decide +kernel
theorem dX8_lay_0 : decode cX8_lay 0 = .ok (.iload_n 1, 1) := by decide +kernel
theorem dX8_lay_1 : decode cX8_lay 1 = .ok (.iconst 0, 1) := by decide +kernel
theorem dX8_lay_2 : decode cX8_lay 2 = .ok (.invokestatic 294, 3) := by decide +kernel
theorem dX8_lay_5 : decode cX8_lay 5 = .ok (.ifCond .ne 5, 3) := by decide +kernel
theorem dX8_lay_8 : decode cX8_lay 8 = .ok (.iconst (-1), 1) := by decide +kernel
theorem dX8_lay_9 : decode cX8_lay 9 = .ok (.ireturn, 1) := by decide +kernel
theorem dX8_lay_10 : decode cX8_lay 10 = .ok (.aload_n 0, 1) := by decide +kernel
theorem dX8_lay_11 : decode cX8_lay 11 = .ok (.getfield 41, 3) := by decide +kernel
theorem dX8_lay_14 : decode cX8_lay 14 = .ok (.iload_n 1, 1) := by decide +kernel
theorem dX8_lay_15 : decode cX8_lay 15 = .ok (.iaload, 1) := by decide +kernel
theorem dX8_lay_16 : decode cX8_lay 16 = .ok (.bipush (-4), 2) := by decide +kernel
theorem dX8_lay_18 : decode cX8_lay 18 = .ok (.if_icmp .ne 6, 3) := by decide +kernel
theorem dX8_lay_21 : decode cX8_lay 21 = .ok (.bipush (-11), 2) := by decide +kernel
theorem dX8_lay_23 : decode cX8_lay 23 = .ok (.ireturn, 1) := by decide +kernel
theorem dX8_lay_24 : decode cX8_lay 24 = .ok (.iload_n 2, 1) := by decide +kernel
theorem dX8_lay_25 : decode cX8_lay 25 = .ok (.i2l, 1) := by decide +kernel
theorem dX8_lay_26 : decode cX8_lay 26 = .ok (.lconst 0, 1) := by decide +kernel
theorem dX8_lay_27 : decode cX8_lay 27 = .ok (.aload_n 0, 1) := by decide +kernel
theorem dX8_lay_28 : decode cX8_lay 28 = .ok (.getfield 44, 3) := by decide +kernel
theorem dX8_lay_31 : decode cX8_lay 31 = .ok (.iload_n 1, 1) := by decide +kernel
theorem dX8_lay_32 : decode cX8_lay 32 = .ok (.iaload, 1) := by decide +kernel
theorem dX8_lay_33 : decode cX8_lay 33 = .ok (.iconst 1, 1) := by decide +kernel
theorem dX8_lay_34 : decode cX8_lay 34 = .ok (.isub, 1) := by decide +kernel
theorem dX8_lay_35 : decode cX8_lay 35 = .ok (.i2l, 1) := by decide +kernel
theorem dX8_lay_36 : decode cX8_lay 36 = .ok (.invokestatic 72, 3) := by decide +kernel
theorem dX8_lay_39 : decode cX8_lay 39 = .ok (.ifCond .ne 6, 3) := by decide +kernel
theorem dX8_lay_42 : decode cX8_lay 42 = .ok (.bipush (-12), 2) := by decide +kernel
theorem dX8_lay_44 : decode cX8_lay 44 = .ok (.ireturn, 1) := by decide +kernel
theorem dX8_lay_45 : decode cX8_lay 45 = .ok (.aload_n 0, 1) := by decide +kernel
theorem dX8_lay_46 : decode cX8_lay 46 = .ok (.getfield 47, 3) := by decide +kernel
theorem dX8_lay_49 : decode cX8_lay 49 = .ok (.bipush 40, 2) := by decide +kernel
theorem dX8_lay_51 : decode cX8_lay 51 = .ok (.iload_n 1, 1) := by decide +kernel
theorem dX8_lay_52 : decode cX8_lay 52 = .ok (.imul, 1) := by decide +kernel
theorem dX8_lay_53 : decode cX8_lay 53 = .ok (.iload_n 2, 1) := by decide +kernel
theorem dX8_lay_54 : decode cX8_lay 54 = .ok (.iadd, 1) := by decide +kernel
theorem dX8_lay_55 : decode cX8_lay 55 = .ok (.aload_n 0, 1) := by decide +kernel
theorem dX8_lay_56 : decode cX8_lay 56 = .ok (.getfield 41, 3) := by decide +kernel
theorem dX8_lay_59 : decode cX8_lay 59 = .ok (.iload_n 1, 1) := by decide +kernel
theorem dX8_lay_60 : decode cX8_lay 60 = .ok (.iaload, 1) := by decide +kernel
theorem dX8_lay_61 : decode cX8_lay 61 = .ok (.ifCond .ne 8, 3) := by decide +kernel
theorem dX8_lay_64 : decode cX8_lay 64 = .ok (.iload_n 3, 1) := by decide +kernel
theorem dX8_lay_65 : decode cX8_lay 65 = .ok (.i2b, 1) := by decide +kernel
theorem dX8_lay_66 : decode cX8_lay 66 = .ok (.goto 19, 3) := by decide +kernel
theorem dX8_lay_69 : decode cX8_lay 69 = .ok (.aload_n 0, 1) := by decide +kernel
theorem dX8_lay_70 : decode cX8_lay 70 = .ok (.getfield 41, 3) := by decide +kernel
theorem dX8_lay_73 : decode cX8_lay 73 = .ok (.iload_n 1, 1) := by decide +kernel
theorem dX8_lay_74 : decode cX8_lay 74 = .ok (.iaload, 1) := by decide +kernel
theorem dX8_lay_75 : decode cX8_lay 75 = .ok (.iconst 1, 1) := by decide +kernel
theorem dX8_lay_76 : decode cX8_lay 76 = .ok (.if_icmp .ne 8, 3) := by decide +kernel
theorem dX8_lay_79 : decode cX8_lay 79 = .ok (.iload_n 3, 1) := by decide +kernel
theorem dX8_lay_80 : decode cX8_lay 80 = .ok (.i2s, 1) := by decide +kernel
theorem dX8_lay_81 : decode cX8_lay 81 = .ok (.goto 4, 3) := by decide +kernel
theorem dX8_lay_84 : decode cX8_lay 84 = .ok (.iload_n 3, 1) := by decide +kernel
theorem dX8_lay_85 : decode cX8_lay 85 = .ok (.iastore, 1) := by decide +kernel
theorem dX8_lay_86 : decode cX8_lay 86 = .ok (.iconst 1, 1) := by decide +kernel
theorem dX8_lay_87 : decode cX8_lay 87 = .ok (.ireturn, 1) := by decide +kernel
theorem dX8_read_0 : decode cX8_read 0 = .ok (.iload_n 1, 1) := by decide +kernel
theorem dX8_read_1 : decode cX8_read 1 = .ok (.iload_n 2, 1) := by decide +kernel
theorem dX8_read_2 : decode cX8_read 2 = .ok (.invokestatic 294, 3) := by decide +kernel
theorem dX8_read_5 : decode cX8_read 5 = .ok (.ifCond .eq 16, 3) := by decide +kernel
theorem dX8_read_8 : decode cX8_read 8 = .ok (.iload 4, 2) := by decide +kernel
theorem dX8_read_10 : decode cX8_read 10 = .ok (.i2l, 1) := by decide +kernel
theorem dX8_read_11 : decode cX8_read 11 = .ok (.lconst 0, 1) := by decide +kernel
theorem dX8_read_12 : decode cX8_read 12 = .ok (.ldc2_w 297, 3) := by decide +kernel
theorem dX8_read_15 : decode cX8_read 15 = .ok (.invokestatic 72, 3) := by decide +kernel
theorem dX8_read_18 : decode cX8_read 18 = .ok (.ifCond .ne 5, 3) := by decide +kernel
theorem dX8_read_21 : decode cX8_read 21 = .ok (.iconst (-1), 1) := by decide +kernel
theorem dX8_read_22 : decode cX8_read 22 = .ok (.ireturn, 1) := by decide +kernel
theorem dX8_read_23 : decode cX8_read 23 = .ok (.iconst 0, 1) := by decide +kernel
theorem dX8_read_24 : decode cX8_read 24 = .ok (.istore 5, 2) := by decide +kernel
theorem dX8_read_26 : decode cX8_read 26 = .ok (.iconst 0, 1) := by decide +kernel
theorem dX8_read_27 : decode cX8_read 27 = .ok (.istore 6, 2) := by decide +kernel
theorem dX8_read_29 : decode cX8_read 29 = .ok (.iconst 0, 1) := by decide +kernel
theorem dX8_read_30 : decode cX8_read 30 = .ok (.istore 7, 2) := by decide +kernel
theorem dX8_read_32 : decode cX8_read 32 = .ok (.iload 7, 2) := by decide +kernel
theorem dX8_read_34 : decode cX8_read 34 = .ok (.iload 4, 2) := by decide +kernel
theorem dX8_read_36 : decode cX8_read 36 = .ok (.if_icmp .ge 196, 3) := by decide +kernel
theorem dX8_read_39 : decode cX8_read 39 = .ok (.iload 5, 2) := by decide +kernel
theorem dX8_read_41 : decode cX8_read 41 = .ok (.ifCond .ne 191, 3) := by decide +kernel
theorem dX8_read_44 : decode cX8_read 44 = .ok (.iconst 0, 1) := by decide +kernel
theorem dX8_read_45 : decode cX8_read 45 = .ok (.istore 8, 2) := by decide +kernel
theorem dX8_read_47 : decode cX8_read 47 = .ok (.iload 8, 2) := by decide +kernel
theorem dX8_read_49 : decode cX8_read 49 = .ok (.iconst 3, 1) := by decide +kernel
theorem dX8_read_50 : decode cX8_read 50 = .ok (.if_icmp .ge 84, 3) := by decide +kernel
theorem dX8_read_53 : decode cX8_read 53 = .ok (.iload 5, 2) := by decide +kernel
theorem dX8_read_55 : decode cX8_read 55 = .ok (.ifCond .ne 79, 3) := by decide +kernel
theorem dX8_read_58 : decode cX8_read 58 = .ok (.iload_n 3, 1) := by decide +kernel
theorem dX8_read_59 : decode cX8_read 59 = .ok (.i2l, 1) := by decide +kernel
theorem dX8_read_60 : decode cX8_read 60 = .ok (.iconst 3, 1) := by decide +kernel
theorem dX8_read_61 : decode cX8_read 61 = .ok (.iload 7, 2) := by decide +kernel
theorem dX8_read_63 : decode cX8_read 63 = .ok (.imul, 1) := by decide +kernel
theorem dX8_read_64 : decode cX8_read 64 = .ok (.i2l, 1) := by decide +kernel
theorem dX8_read_65 : decode cX8_read 65 = .ok (.ladd, 1) := by decide +kernel
theorem dX8_read_66 : decode cX8_read 66 = .ok (.iload 8, 2) := by decide +kernel
theorem dX8_read_68 : decode cX8_read 68 = .ok (.i2l, 1) := by decide +kernel
theorem dX8_read_69 : decode cX8_read 69 = .ok (.ladd, 1) := by decide +kernel
theorem dX8_read_70 : decode cX8_read 70 = .ok (.lstore 9, 2) := by decide +kernel
theorem dX8_read_72 : decode cX8_read 72 = .ok (.aload_n 0, 1) := by decide +kernel
theorem dX8_read_73 : decode cX8_read 73 = .ok (.getfield 41, 3) := by decide +kernel
theorem dX8_read_76 : decode cX8_read 76 = .ok (.iload_n 1, 1) := by decide +kernel
theorem dX8_read_77 : decode cX8_read 77 = .ok (.iaload, 1) := by decide +kernel
theorem dX8_read_78 : decode cX8_read 78 = .ok (.bipush (-4), 2) := by decide +kernel
theorem dX8_read_80 : decode cX8_read 80 = .ok (.if_icmp .ne 7, 3) := by decide +kernel
theorem dX8_read_83 : decode cX8_read 83 = .ok (.iconst 1, 1) := by decide +kernel
theorem dX8_read_84 : decode cX8_read 84 = .ok (.goto 42, 3) := by decide +kernel
theorem dX8_read_87 : decode cX8_read 87 = .ok (.aload_n 0, 1) := by decide +kernel
theorem dX8_read_88 : decode cX8_read 88 = .ok (.getfield 41, 3) := by decide +kernel
theorem dX8_read_91 : decode cX8_read 91 = .ok (.iload_n 1, 1) := by decide +kernel
theorem dX8_read_92 : decode cX8_read 92 = .ok (.iaload, 1) := by decide +kernel
theorem dX8_read_93 : decode cX8_read 93 = .ok (.iload_n 2, 1) := by decide +kernel
theorem dX8_read_94 : decode cX8_read 94 = .ok (.if_icmp .eq 7, 3) := by decide +kernel
theorem dX8_read_97 : decode cX8_read 97 = .ok (.iconst 3, 1) := by decide +kernel
theorem dX8_read_98 : decode cX8_read 98 = .ok (.goto 28, 3) := by decide +kernel
theorem dX8_read_101 : decode cX8_read 101 = .ok (.lload 9, 2) := by decide +kernel
theorem dX8_read_103 : decode cX8_read 103 = .ok (.lconst 0, 1) := by decide +kernel
theorem dX8_read_104 : decode cX8_read 104 = .ok (.lcmp, 1) := by decide +kernel
theorem dX8_read_105 : decode cX8_read 105 = .ok (.ifCond .lt 16, 3) := by decide +kernel
theorem dX8_read_108 : decode cX8_read 108 = .ok (.lload 9, 2) := by decide +kernel
theorem dX8_read_110 : decode cX8_read 110 = .ok (.aload_n 0, 1) := by decide +kernel
theorem dX8_read_111 : decode cX8_read 111 = .ok (.getfield 44, 3) := by decide +kernel
theorem dX8_read_114 : decode cX8_read 114 = .ok (.iload_n 1, 1) := by decide +kernel
theorem dX8_read_115 : decode cX8_read 115 = .ok (.iaload, 1) := by decide +kernel
theorem dX8_read_116 : decode cX8_read 116 = .ok (.i2l, 1) := by decide +kernel
theorem dX8_read_117 : decode cX8_read 117 = .ok (.lcmp, 1) := by decide +kernel
theorem dX8_read_118 : decode cX8_read 118 = .ok (.ifCond .lt 7, 3) := by decide +kernel
theorem dX8_read_121 : decode cX8_read 121 = .ok (.iconst 2, 1) := by decide +kernel
theorem dX8_read_122 : decode cX8_read 122 = .ok (.goto 4, 3) := by decide +kernel
theorem dX8_read_125 : decode cX8_read 125 = .ok (.iconst 0, 1) := by decide +kernel
theorem dX8_read_126 : decode cX8_read 126 = .ok (.istore 5, 2) := by decide +kernel
theorem dX8_read_128 : decode cX8_read 128 = .ok (.iinc 8 1, 3) := by decide +kernel
theorem dX8_read_131 : decode cX8_read 131 = .ok (.goto (-84), 3) := by decide +kernel
theorem dX8_read_134 : decode cX8_read 134 = .ok (.iload 5, 2) := by decide +kernel
theorem dX8_read_136 : decode cX8_read 136 = .ok (.ifCond .ne 90, 3) := by decide +kernel
theorem dX8_read_139 : decode cX8_read 139 = .ok (.bipush 40, 2) := by decide +kernel
theorem dX8_read_141 : decode cX8_read 141 = .ok (.iload_n 1, 1) := by decide +kernel
theorem dX8_read_142 : decode cX8_read 142 = .ok (.imul, 1) := by decide +kernel
theorem dX8_read_143 : decode cX8_read 143 = .ok (.iload_n 3, 1) := by decide +kernel
theorem dX8_read_144 : decode cX8_read 144 = .ok (.iadd, 1) := by decide +kernel
theorem dX8_read_145 : decode cX8_read 145 = .ok (.iconst 3, 1) := by decide +kernel
theorem dX8_read_146 : decode cX8_read 146 = .ok (.iload 7, 2) := by decide +kernel
theorem dX8_read_148 : decode cX8_read 148 = .ok (.imul, 1) := by decide +kernel
theorem dX8_read_149 : decode cX8_read 149 = .ok (.iadd, 1) := by decide +kernel
theorem dX8_read_150 : decode cX8_read 150 = .ok (.istore 8, 2) := by decide +kernel
theorem dX8_read_152 : decode cX8_read 152 = .ok (.aload_n 0, 1) := by decide +kernel
theorem dX8_read_153 : decode cX8_read 153 = .ok (.getfield 47, 3) := by decide +kernel
theorem dX8_read_156 : decode cX8_read 156 = .ok (.iload 8, 2) := by decide +kernel
theorem dX8_read_158 : decode cX8_read 158 = .ok (.iaload, 1) := by decide +kernel
theorem dX8_read_159 : decode cX8_read 159 = .ok (.invokestatic 174, 3) := by decide +kernel
theorem dX8_read_162 : decode cX8_read 162 = .ok (.ifCond .eq 37, 3) := by decide +kernel
theorem dX8_read_165 : decode cX8_read 165 = .ok (.aload_n 0, 1) := by decide +kernel
theorem dX8_read_166 : decode cX8_read 166 = .ok (.aload_n 0, 1) := by decide +kernel
theorem dX8_read_167 : decode cX8_read 167 = .ok (.getfield 47, 3) := by decide +kernel
theorem dX8_read_170 : decode cX8_read 170 = .ok (.iload 8, 2) := by decide +kernel
theorem dX8_read_172 : decode cX8_read 172 = .ok (.iconst 1, 1) := by decide +kernel
theorem dX8_read_173 : decode cX8_read 173 = .ok (.iadd, 1) := by decide +kernel
theorem dX8_read_174 : decode cX8_read 174 = .ok (.iaload, 1) := by decide +kernel
theorem dX8_read_175 : decode cX8_read 175 = .ok (.invokevirtual 202, 3) := by decide +kernel
theorem dX8_read_178 : decode cX8_read 178 = .ok (.ifCond .eq 21, 3) := by decide +kernel
theorem dX8_read_181 : decode cX8_read 181 = .ok (.aload_n 0, 1) := by decide +kernel
theorem dX8_read_182 : decode cX8_read 182 = .ok (.getfield 47, 3) := by decide +kernel
theorem dX8_read_185 : decode cX8_read 185 = .ok (.iload 8, 2) := by decide +kernel
theorem dX8_read_187 : decode cX8_read 187 = .ok (.iconst 2, 1) := by decide +kernel
theorem dX8_read_188 : decode cX8_read 188 = .ok (.iadd, 1) := by decide +kernel
theorem dX8_read_189 : decode cX8_read 189 = .ok (.iaload, 1) := by decide +kernel
theorem dX8_read_190 : decode cX8_read 190 = .ok (.i2l, 1) := by decide +kernel
theorem dX8_read_191 : decode cX8_read 191 = .ok (.lconst 0, 1) := by decide +kernel
theorem dX8_read_192 : decode cX8_read 192 = .ok (.lconst 1, 1) := by decide +kernel
theorem dX8_read_193 : decode cX8_read 193 = .ok (.invokestatic 72, 3) := by decide +kernel
theorem dX8_read_196 : decode cX8_read 196 = .ok (.ifCond .ne 9, 3) := by decide +kernel
theorem dX8_read_199 : decode cX8_read 199 = .ok (.bipush (-20), 2) := by decide +kernel
theorem dX8_read_201 : decode cX8_read 201 = .ok (.iload 7, 2) := by decide +kernel
theorem dX8_read_203 : decode cX8_read 203 = .ok (.isub, 1) := by decide +kernel
theorem dX8_read_204 : decode cX8_read 204 = .ok (.ireturn, 1) := by decide +kernel
theorem dX8_read_205 : decode cX8_read 205 = .ok (.aload_n 0, 1) := by decide +kernel
theorem dX8_read_206 : decode cX8_read 206 = .ok (.getfield 7, 3) := by decide +kernel
theorem dX8_read_209 : decode cX8_read 209 = .ok (.bipush 54, 2) := by decide +kernel
theorem dX8_read_211 : decode cX8_read 211 = .ok (.iaload, 1) := by decide +kernel
theorem dX8_read_212 : decode cX8_read 212 = .ok (.iload 6, 2) := by decide +kernel
theorem dX8_read_214 : decode cX8_read 214 = .ok (.iadd, 1) := by decide +kernel
theorem dX8_read_215 : decode cX8_read 215 = .ok (.bipush 12, 2) := by decide +kernel
theorem dX8_read_217 : decode cX8_read 217 = .ok (.if_icmp .ne 6, 3) := by decide +kernel
theorem dX8_read_220 : decode cX8_read 220 = .ok (.bipush (-3), 2) := by decide +kernel
theorem dX8_read_222 : decode cX8_read 222 = .ok (.ireturn, 1) := by decide +kernel
theorem dX8_read_223 : decode cX8_read 223 = .ok (.iinc 6 1, 3) := by decide +kernel
theorem dX8_read_226 : decode cX8_read 226 = .ok (.iinc 7 1, 3) := by decide +kernel
theorem dX8_read_229 : decode cX8_read 229 = .ok (.goto (-197), 3) := by decide +kernel
theorem dX8_read_232 : decode cX8_read 232 = .ok (.aload_n 0, 1) := by decide +kernel
theorem dX8_read_233 : decode cX8_read 233 = .ok (.iload 5, 2) := by decide +kernel
theorem dX8_read_235 : decode cX8_read 235 = .ok (.putfield 299, 3) := by decide +kernel
theorem dX8_read_238 : decode cX8_read 238 = .ok (.iconst 0, 1) := by decide +kernel
theorem dX8_read_239 : decode cX8_read 239 = .ok (.istore 7, 2) := by decide +kernel
theorem dX8_read_241 : decode cX8_read 241 = .ok (.iload 7, 2) := by decide +kernel
theorem dX8_read_243 : decode cX8_read 243 = .ok (.iload 6, 2) := by decide +kernel
theorem dX8_read_245 : decode cX8_read 245 = .ok (.if_icmp .ge 61, 3) := by decide +kernel
theorem dX8_read_248 : decode cX8_read 248 = .ok (.bipush 40, 2) := by decide +kernel
theorem dX8_read_250 : decode cX8_read 250 = .ok (.iload_n 1, 1) := by decide +kernel
theorem dX8_read_251 : decode cX8_read 251 = .ok (.imul, 1) := by decide +kernel
theorem dX8_read_252 : decode cX8_read 252 = .ok (.iload_n 3, 1) := by decide +kernel
theorem dX8_read_253 : decode cX8_read 253 = .ok (.iadd, 1) := by decide +kernel
theorem dX8_read_254 : decode cX8_read 254 = .ok (.iconst 3, 1) := by decide +kernel
theorem dX8_read_255 : decode cX8_read 255 = .ok (.iload 7, 2) := by decide +kernel
theorem dX8_read_257 : decode cX8_read 257 = .ok (.imul, 1) := by decide +kernel
theorem dX8_read_258 : decode cX8_read 258 = .ok (.iadd, 1) := by decide +kernel
theorem dX8_read_259 : decode cX8_read 259 = .ok (.istore 8, 2) := by decide +kernel
theorem dX8_read_261 : decode cX8_read 261 = .ok (.aload_n 0, 1) := by decide +kernel
theorem dX8_read_262 : decode cX8_read 262 = .ok (.aload_n 0, 1) := by decide +kernel
theorem dX8_read_263 : decode cX8_read 263 = .ok (.getfield 47, 3) := by decide +kernel
theorem dX8_read_266 : decode cX8_read 266 = .ok (.iload 8, 2) := by decide +kernel
theorem dX8_read_268 : decode cX8_read 268 = .ok (.iaload, 1) := by decide +kernel
theorem dX8_read_269 : decode cX8_read 269 = .ok (.aload_n 0, 1) := by decide +kernel
theorem dX8_read_270 : decode cX8_read 270 = .ok (.getfield 47, 3) := by decide +kernel
theorem dX8_read_273 : decode cX8_read 273 = .ok (.iload 8, 2) := by decide +kernel
theorem dX8_read_275 : decode cX8_read 275 = .ok (.iconst 1, 1) := by decide +kernel
theorem dX8_read_276 : decode cX8_read 276 = .ok (.iadd, 1) := by decide +kernel
theorem dX8_read_277 : decode cX8_read 277 = .ok (.iaload, 1) := by decide +kernel
theorem dX8_read_278 : decode cX8_read 278 = .ok (.aload_n 0, 1) := by decide +kernel
theorem dX8_read_279 : decode cX8_read 279 = .ok (.getfield 47, 3) := by decide +kernel
theorem dX8_read_282 : decode cX8_read 282 = .ok (.iload 8, 2) := by decide +kernel
theorem dX8_read_284 : decode cX8_read 284 = .ok (.iconst 2, 1) := by decide +kernel
theorem dX8_read_285 : decode cX8_read 285 = .ok (.iadd, 1) := by decide +kernel
theorem dX8_read_286 : decode cX8_read 286 = .ok (.iaload, 1) := by decide +kernel
theorem dX8_read_287 : decode cX8_read 287 = .ok (.iconst 1, 1) := by decide +kernel
theorem dX8_read_288 : decode cX8_read 288 = .ok (.if_icmp .ne 7, 3) := by decide +kernel
theorem dX8_read_291 : decode cX8_read 291 = .ok (.iconst 1, 1) := by decide +kernel
theorem dX8_read_292 : decode cX8_read 292 = .ok (.goto 4, 3) := by decide +kernel
theorem dX8_read_295 : decode cX8_read 295 = .ok (.iconst 0, 1) := by decide +kernel
theorem dX8_read_296 : decode cX8_read 296 = .ok (.invokevirtual 302, 3) := by decide +kernel
theorem dX8_read_299 : decode cX8_read 299 = .ok (.pop, 1) := by decide +kernel
theorem dX8_read_300 : decode cX8_read 300 = .ok (.iinc 7 1, 3) := by decide +kernel
theorem dX8_read_303 : decode cX8_read 303 = .ok (.goto (-62), 3) := by decide +kernel
theorem dX8_read_306 : decode cX8_read 306 = .ok (.iload 6, 2) := by decide +kernel
theorem dX8_read_308 : decode cX8_read 308 = .ok (.ireturn, 1) := by decide +kernel
theorem dX8_torn_0 : decode cX8_torn 0 = .ok (.aload_n 0, 1) := by decide +kernel
theorem dX8_torn_1 : decode cX8_torn 1 = .ok (.getfield 299, 3) := by decide +kernel
theorem dX8_torn_4 : decode cX8_torn 4 = .ok (.ireturn, 1) := by decide +kernel
theorem dX8_count_0 : decode cX8_count 0 = .ok (.iconst 0, 1) := by decide +kernel
theorem dX8_count_1 : decode cX8_count 1 = .ok (.istore_n 2, 1) := by decide +kernel
theorem dX8_count_2 : decode cX8_count 2 = .ok (.iconst 0, 1) := by decide +kernel
theorem dX8_count_3 : decode cX8_count 3 = .ok (.istore_n 3, 1) := by decide +kernel
theorem dX8_count_4 : decode cX8_count 4 = .ok (.iload_n 3, 1) := by decide +kernel
theorem dX8_count_5 : decode cX8_count 5 = .ok (.aload_n 0, 1) := by decide +kernel
theorem dX8_count_6 : decode cX8_count 6 = .ok (.getfield 7, 3) := by decide +kernel
theorem dX8_count_9 : decode cX8_count 9 = .ok (.bipush 53, 2) := by decide +kernel
theorem dX8_count_11 : decode cX8_count 11 = .ok (.iaload, 1) := by decide +kernel
theorem dX8_count_12 : decode cX8_count 12 = .ok (.if_icmp .ge 18, 3) := by decide +kernel
theorem dX8_count_15 : decode cX8_count 15 = .ok (.iload_n 2, 1) := by decide +kernel
theorem dX8_count_16 : decode cX8_count 16 = .ok (.aload_n 0, 1) := by decide +kernel
theorem dX8_count_17 : decode cX8_count 17 = .ok (.iload_n 3, 1) := by decide +kernel
theorem dX8_count_18 : decode cX8_count 18 = .ok (.iconst 4, 1) := by decide +kernel
theorem dX8_count_19 : decode cX8_count 19 = .ok (.invokevirtual 153, 3) := by decide +kernel
theorem dX8_count_22 : decode cX8_count 22 = .ok (.iadd, 1) := by decide +kernel
theorem dX8_count_23 : decode cX8_count 23 = .ok (.istore_n 2, 1) := by decide +kernel
theorem dX8_count_24 : decode cX8_count 24 = .ok (.iinc 3 1, 3) := by decide +kernel
theorem dX8_count_27 : decode cX8_count 27 = .ok (.goto (-23), 3) := by decide +kernel
theorem dX8_count_30 : decode cX8_count 30 = .ok (.iload_n 1, 1) := by decide +kernel
theorem dX8_count_31 : decode cX8_count 31 = .ok (.tableswitch 103 0 5 #[37, 45, 47, 55, 75, 80], 37) := by decide +kernel
theorem dX8_count_68 : decode cX8_count 68 = .ok (.aload_n 0, 1) := by decide +kernel
theorem dX8_count_69 : decode cX8_count 69 = .ok (.getfield 7, 3) := by decide +kernel
theorem dX8_count_72 : decode cX8_count 72 = .ok (.bipush 53, 2) := by decide +kernel
theorem dX8_count_74 : decode cX8_count 74 = .ok (.iaload, 1) := by decide +kernel
theorem dX8_count_75 : decode cX8_count 75 = .ok (.ireturn, 1) := by decide +kernel
theorem dX8_count_76 : decode cX8_count 76 = .ok (.iload_n 2, 1) := by decide +kernel
theorem dX8_count_77 : decode cX8_count 77 = .ok (.ireturn, 1) := by decide +kernel
theorem dX8_count_78 : decode cX8_count 78 = .ok (.aload_n 0, 1) := by decide +kernel
theorem dX8_count_79 : decode cX8_count 79 = .ok (.getfield 7, 3) := by decide +kernel
theorem dX8_count_82 : decode cX8_count 82 = .ok (.bipush 54, 2) := by decide +kernel
theorem dX8_count_84 : decode cX8_count 84 = .ok (.iaload, 1) := by decide +kernel
theorem dX8_count_85 : decode cX8_count 85 = .ok (.ireturn, 1) := by decide +kernel
theorem dX8_count_86 : decode cX8_count 86 = .ok (.aload_n 0, 1) := by decide +kernel
theorem dX8_count_87 : decode cX8_count 87 = .ok (.getfield 13, 3) := by decide +kernel
theorem dX8_count_90 : decode cX8_count 90 = .ok (.iconst 0, 1) := by decide +kernel
theorem dX8_count_91 : decode cX8_count 91 = .ok (.baload, 1) := by decide +kernel
theorem dX8_count_92 : decode cX8_count 92 = .ok (.invokestatic 63, 3) := by decide +kernel
theorem dX8_count_95 : decode cX8_count 95 = .ok (.aload_n 0, 1) := by decide +kernel
theorem dX8_count_96 : decode cX8_count 96 = .ok (.getfield 13, 3) := by decide +kernel
theorem dX8_count_99 : decode cX8_count 99 = .ok (.iconst 1, 1) := by decide +kernel
theorem dX8_count_100 : decode cX8_count 100 = .ok (.baload, 1) := by decide +kernel
theorem dX8_count_101 : decode cX8_count 101 = .ok (.invokestatic 63, 3) := by decide +kernel
theorem dX8_count_104 : decode cX8_count 104 = .ok (.iadd, 1) := by decide +kernel
theorem dX8_count_105 : decode cX8_count 105 = .ok (.ireturn, 1) := by decide +kernel
theorem dX8_count_106 : decode cX8_count 106 = .ok (.aload_n 0, 1) := by decide +kernel
theorem dX8_count_107 : decode cX8_count 107 = .ok (.getfield 67, 3) := by decide +kernel
theorem dX8_count_110 : decode cX8_count 110 = .ok (.ireturn, 1) := by decide +kernel
theorem dX8_count_111 : decode cX8_count 111 = .ok (.aload_n 0, 1) := by decide +kernel
theorem dX8_count_112 : decode cX8_count 112 = .ok (.getfield 41, 3) := by decide +kernel
theorem dX8_count_115 : decode cX8_count 115 = .ok (.iconst 0, 1) := by decide +kernel
theorem dX8_count_116 : decode cX8_count 116 = .ok (.iaload, 1) := by decide +kernel
theorem dX8_count_117 : decode cX8_count 117 = .ok (.bipush (-4), 2) := by decide +kernel
theorem dX8_count_119 : decode cX8_count 119 = .ok (.if_icmp .ne 8, 3) := by decide +kernel
theorem dX8_count_122 : decode cX8_count 122 = .ok (.bipush (-4), 2) := by decide +kernel
theorem dX8_count_124 : decode cX8_count 124 = .ok (.goto 9, 3) := by decide +kernel
theorem dX8_count_127 : decode cX8_count 127 = .ok (.aload_n 0, 1) := by decide +kernel
theorem dX8_count_128 : decode cX8_count 128 = .ok (.getfield 44, 3) := by decide +kernel
theorem dX8_count_131 : decode cX8_count 131 = .ok (.iconst 0, 1) := by decide +kernel
theorem dX8_count_132 : decode cX8_count 132 = .ok (.iaload, 1) := by decide +kernel
theorem dX8_count_133 : decode cX8_count 133 = .ok (.ireturn, 1) := by decide +kernel
theorem dX8_count_134 : decode cX8_count 134 = .ok (.iconst (-1), 1) := by decide +kernel
theorem dX8_count_135 : decode cX8_count 135 = .ok (.ireturn, 1) := by decide +kernel
end
section
theorem dL_law_0 : decode cL_law 0 = .ok (.new 7, 3) := by decide +kernel
theorem dL_law_3 : decode cL_law 3 = .ok (.dup, 1) := by decide +kernel
theorem dL_law_4 : decode cL_law 4 = .ok (.invokespecial 9, 3) := by decide +kernel
theorem dL_law_7 : decode cL_law 7 = .ok (.astore_n 1, 1) := by decide +kernel
theorem dL_law_8 : decode cL_law 8 = .ok (.new 10, 3) := by decide +kernel
theorem dL_law_11 : decode cL_law 11 = .ok (.dup, 1) := by decide +kernel
theorem dL_law_12 : decode cL_law 12 = .ok (.invokespecial 12, 3) := by decide +kernel
theorem dL_law_15 : decode cL_law 15 = .ok (.astore_n 2, 1) := by decide +kernel
theorem dL_law_16 : decode cL_law 16 = .ok (.iconst 0, 1) := by decide +kernel
theorem dL_law_17 : decode cL_law 17 = .ok (.istore_n 3, 1) := by decide +kernel
theorem dL_law_18 : decode cL_law 18 = .ok (.iload_n 3, 1) := by decide +kernel
theorem dL_law_19 : decode cL_law 19 = .ok (.aload_n 0, 1) := by decide +kernel
theorem dL_law_20 : decode cL_law 20 = .ok (.arraylength, 1) := by decide +kernel
theorem dL_law_21 : decode cL_law 21 = .ok (.bipush 8, 2) := by decide +kernel
theorem dL_law_23 : decode cL_law 23 = .ok (.isub, 1) := by decide +kernel
theorem dL_law_24 : decode cL_law 24 = .ok (.if_icmp .gt 1586, 3) := by decide +kernel
theorem dL_law_27 : decode cL_law 27 = .ok (.aload_n 0, 1) := by decide +kernel
theorem dL_law_28 : decode cL_law 28 = .ok (.iload_n 3, 1) := by decide +kernel
theorem dL_law_29 : decode cL_law 29 = .ok (.iaload, 1) := by decide +kernel
theorem dL_law_30 : decode cL_law 30 = .ok (.bipush 63, 2) := by decide +kernel
theorem dL_law_32 : decode cL_law 32 = .ok (.iand, 1) := by decide +kernel
theorem dL_law_33 : decode cL_law 33 = .ok (.tableswitch 1571 0 41 #[183, 236, 259, 272, 285, 308, 341, 364, 387, 410, 443, 466, 479, 502, 545, 578, 611, 634, 657, 680, 693, 716, 759, 802, 845, 932, 995, 1070, 1103, 1126, 1179, 1232, 1291, 1304, 1337, 1350, 1373, 1396, 1439, 1482, 1535, 1548], 183) := by decide +kernel
theorem dL_law_216 : decode cL_law 216 = .ok (.aload_n 1, 1) := by decide +kernel
theorem dL_law_217 : decode cL_law 217 = .ok (.aload_n 0, 1) := by decide +kernel
theorem dL_law_218 : decode cL_law 218 = .ok (.iload_n 3, 1) := by decide +kernel
theorem dL_law_219 : decode cL_law 219 = .ok (.iconst 1, 1) := by decide +kernel
theorem dL_law_220 : decode cL_law 220 = .ok (.iadd, 1) := by decide +kernel
theorem dL_law_221 : decode cL_law 221 = .ok (.iaload, 1) := by decide +kernel
theorem dL_law_222 : decode cL_law 222 = .ok (.i2l, 1) := by decide +kernel
theorem dL_law_223 : decode cL_law 223 = .ok (.bipush 32, 2) := by decide +kernel
theorem dL_law_225 : decode cL_law 225 = .ok (.lshl, 1) := by decide +kernel
theorem dL_law_226 : decode cL_law 226 = .ok (.aload_n 0, 1) := by decide +kernel
theorem dL_law_227 : decode cL_law 227 = .ok (.iload_n 3, 1) := by decide +kernel
theorem dL_law_228 : decode cL_law 228 = .ok (.iconst 2, 1) := by decide +kernel
theorem dL_law_229 : decode cL_law 229 = .ok (.iadd, 1) := by decide +kernel
theorem dL_law_230 : decode cL_law 230 = .ok (.iaload, 1) := by decide +kernel
theorem dL_law_231 : decode cL_law 231 = .ok (.i2l, 1) := by decide +kernel
theorem dL_law_232 : decode cL_law 232 = .ok (.ldc2_w 13, 3) := by decide +kernel
theorem dL_law_235 : decode cL_law 235 = .ok (.land, 1) := by decide +kernel
theorem dL_law_236 : decode cL_law 236 = .ok (.lor, 1) := by decide +kernel
theorem dL_law_237 : decode cL_law 237 = .ok (.invokevirtual 15, 3) := by decide +kernel
theorem dL_law_240 : decode cL_law 240 = .ok (.aload_n 2, 1) := by decide +kernel
theorem dL_law_241 : decode cL_law 241 = .ok (.aload_n 0, 1) := by decide +kernel
theorem dL_law_242 : decode cL_law 242 = .ok (.iload_n 3, 1) := by decide +kernel
theorem dL_law_243 : decode cL_law 243 = .ok (.iconst 1, 1) := by decide +kernel
theorem dL_law_244 : decode cL_law 244 = .ok (.iadd, 1) := by decide +kernel
theorem dL_law_245 : decode cL_law 245 = .ok (.iaload, 1) := by decide +kernel
theorem dL_law_246 : decode cL_law 246 = .ok (.i2l, 1) := by decide +kernel
theorem dL_law_247 : decode cL_law 247 = .ok (.bipush 32, 2) := by decide +kernel
theorem dL_law_249 : decode cL_law 249 = .ok (.lshl, 1) := by decide +kernel
theorem dL_law_250 : decode cL_law 250 = .ok (.aload_n 0, 1) := by decide +kernel
theorem dL_law_251 : decode cL_law 251 = .ok (.iload_n 3, 1) := by decide +kernel
theorem dL_law_252 : decode cL_law 252 = .ok (.iconst 2, 1) := by decide +kernel
theorem dL_law_253 : decode cL_law 253 = .ok (.iadd, 1) := by decide +kernel
theorem dL_law_254 : decode cL_law 254 = .ok (.iaload, 1) := by decide +kernel
theorem dL_law_255 : decode cL_law 255 = .ok (.i2l, 1) := by decide +kernel
theorem dL_law_256 : decode cL_law 256 = .ok (.ldc2_w 13, 3) := by decide +kernel
theorem dL_law_259 : decode cL_law 259 = .ok (.land, 1) := by decide +kernel
theorem dL_law_260 : decode cL_law 260 = .ok (.lor, 1) := by decide +kernel
theorem dL_law_261 : decode cL_law 261 = .ok (.invokevirtual 19, 3) := by decide +kernel
theorem dL_law_264 : decode cL_law 264 = .ok (.if_icmp .eq 1340, 3) := by decide +kernel
theorem dL_law_267 : decode cL_law 267 = .ok (.iconst 0, 1) := by decide +kernel
theorem dL_law_268 : decode cL_law 268 = .ok (.ireturn, 1) := by decide +kernel
theorem dL_law_269 : decode cL_law 269 = .ok (.aload_n 1, 1) := by decide +kernel
theorem dL_law_270 : decode cL_law 270 = .ok (.aload_n 0, 1) := by decide +kernel
theorem dL_law_271 : decode cL_law 271 = .ok (.iload_n 3, 1) := by decide +kernel
theorem dL_law_272 : decode cL_law 272 = .ok (.iconst 1, 1) := by decide +kernel
theorem dL_law_273 : decode cL_law 273 = .ok (.iadd, 1) := by decide +kernel
theorem dL_law_274 : decode cL_law 274 = .ok (.iaload, 1) := by decide +kernel
theorem dL_law_275 : decode cL_law 275 = .ok (.invokevirtual 20, 3) := by decide +kernel
theorem dL_law_278 : decode cL_law 278 = .ok (.aload_n 2, 1) := by decide +kernel
theorem dL_law_279 : decode cL_law 279 = .ok (.aload_n 0, 1) := by decide +kernel
theorem dL_law_280 : decode cL_law 280 = .ok (.iload_n 3, 1) := by decide +kernel
theorem dL_law_281 : decode cL_law 281 = .ok (.iconst 1, 1) := by decide +kernel
theorem dL_law_282 : decode cL_law 282 = .ok (.iadd, 1) := by decide +kernel
theorem dL_law_283 : decode cL_law 283 = .ok (.iaload, 1) := by decide +kernel
theorem dL_law_284 : decode cL_law 284 = .ok (.invokevirtual 24, 3) := by decide +kernel
theorem dL_law_287 : decode cL_law 287 = .ok (.if_icmp .eq 1317, 3) := by decide +kernel
theorem dL_law_290 : decode cL_law 290 = .ok (.iconst 0, 1) := by decide +kernel
theorem dL_law_291 : decode cL_law 291 = .ok (.ireturn, 1) := by decide +kernel
theorem dL_law_292 : decode cL_law 292 = .ok (.aload_n 1, 1) := by decide +kernel
theorem dL_law_293 : decode cL_law 293 = .ok (.invokevirtual 25, 3) := by decide +kernel
theorem dL_law_296 : decode cL_law 296 = .ok (.aload_n 2, 1) := by decide +kernel
theorem dL_law_297 : decode cL_law 297 = .ok (.invokevirtual 29, 3) := by decide +kernel
theorem dL_law_300 : decode cL_law 300 = .ok (.if_icmp .eq 1304, 3) := by decide +kernel
theorem dL_law_303 : decode cL_law 303 = .ok (.iconst 0, 1) := by decide +kernel
theorem dL_law_304 : decode cL_law 304 = .ok (.ireturn, 1) := by decide +kernel
theorem dL_law_305 : decode cL_law 305 = .ok (.aload_n 1, 1) := by decide +kernel
theorem dL_law_306 : decode cL_law 306 = .ok (.invokevirtual 30, 3) := by decide +kernel
theorem dL_law_309 : decode cL_law 309 = .ok (.aload_n 2, 1) := by decide +kernel
theorem dL_law_310 : decode cL_law 310 = .ok (.invokevirtual 33, 3) := by decide +kernel
theorem dL_law_313 : decode cL_law 313 = .ok (.if_icmp .eq 1291, 3) := by decide +kernel
theorem dL_law_316 : decode cL_law 316 = .ok (.iconst 0, 1) := by decide +kernel
theorem dL_law_317 : decode cL_law 317 = .ok (.ireturn, 1) := by decide +kernel
theorem dL_law_318 : decode cL_law 318 = .ok (.aload_n 1, 1) := by decide +kernel
theorem dL_law_319 : decode cL_law 319 = .ok (.aload_n 0, 1) := by decide +kernel
theorem dL_law_320 : decode cL_law 320 = .ok (.iload_n 3, 1) := by decide +kernel
theorem dL_law_321 : decode cL_law 321 = .ok (.iconst 1, 1) := by decide +kernel
theorem dL_law_322 : decode cL_law 322 = .ok (.iadd, 1) := by decide +kernel
theorem dL_law_323 : decode cL_law 323 = .ok (.iaload, 1) := by decide +kernel
theorem dL_law_324 : decode cL_law 324 = .ok (.invokevirtual 34, 3) := by decide +kernel
theorem dL_law_327 : decode cL_law 327 = .ok (.aload_n 2, 1) := by decide +kernel
theorem dL_law_328 : decode cL_law 328 = .ok (.aload_n 0, 1) := by decide +kernel
theorem dL_law_329 : decode cL_law 329 = .ok (.iload_n 3, 1) := by decide +kernel
theorem dL_law_330 : decode cL_law 330 = .ok (.iconst 1, 1) := by decide +kernel
theorem dL_law_331 : decode cL_law 331 = .ok (.iadd, 1) := by decide +kernel
theorem dL_law_332 : decode cL_law 332 = .ok (.iaload, 1) := by decide +kernel
theorem dL_law_333 : decode cL_law 333 = .ok (.invokevirtual 37, 3) := by decide +kernel
theorem dL_law_336 : decode cL_law 336 = .ok (.if_icmp .eq 1268, 3) := by decide +kernel
theorem dL_law_339 : decode cL_law 339 = .ok (.iconst 0, 1) := by decide +kernel
theorem dL_law_340 : decode cL_law 340 = .ok (.ireturn, 1) := by decide +kernel
theorem dL_law_341 : decode cL_law 341 = .ok (.aload_n 1, 1) := by decide +kernel
theorem dL_law_342 : decode cL_law 342 = .ok (.aload_n 0, 1) := by decide +kernel
theorem dL_law_343 : decode cL_law 343 = .ok (.iload_n 3, 1) := by decide +kernel
theorem dL_law_344 : decode cL_law 344 = .ok (.iconst 1, 1) := by decide +kernel
theorem dL_law_345 : decode cL_law 345 = .ok (.iadd, 1) := by decide +kernel
theorem dL_law_346 : decode cL_law 346 = .ok (.iaload, 1) := by decide +kernel
theorem dL_law_347 : decode cL_law 347 = .ok (.aload_n 0, 1) := by decide +kernel
theorem dL_law_348 : decode cL_law 348 = .ok (.iload_n 3, 1) := by decide +kernel
theorem dL_law_349 : decode cL_law 349 = .ok (.iconst 2, 1) := by decide +kernel
theorem dL_law_350 : decode cL_law 350 = .ok (.iadd, 1) := by decide +kernel
theorem dL_law_351 : decode cL_law 351 = .ok (.iaload, 1) := by decide +kernel
theorem dL_law_352 : decode cL_law 352 = .ok (.invokevirtual 38, 3) := by decide +kernel
theorem dL_law_355 : decode cL_law 355 = .ok (.aload_n 2, 1) := by decide +kernel
theorem dL_law_356 : decode cL_law 356 = .ok (.aload_n 0, 1) := by decide +kernel
theorem dL_law_357 : decode cL_law 357 = .ok (.iload_n 3, 1) := by decide +kernel
theorem dL_law_358 : decode cL_law 358 = .ok (.iconst 1, 1) := by decide +kernel
theorem dL_law_359 : decode cL_law 359 = .ok (.iadd, 1) := by decide +kernel
theorem dL_law_360 : decode cL_law 360 = .ok (.iaload, 1) := by decide +kernel
theorem dL_law_361 : decode cL_law 361 = .ok (.aload_n 0, 1) := by decide +kernel
theorem dL_law_362 : decode cL_law 362 = .ok (.iload_n 3, 1) := by decide +kernel
theorem dL_law_363 : decode cL_law 363 = .ok (.iconst 2, 1) := by decide +kernel
theorem dL_law_364 : decode cL_law 364 = .ok (.iadd, 1) := by decide +kernel
theorem dL_law_365 : decode cL_law 365 = .ok (.iaload, 1) := by decide +kernel
theorem dL_law_366 : decode cL_law 366 = .ok (.invokevirtual 42, 3) := by decide +kernel
theorem dL_law_369 : decode cL_law 369 = .ok (.if_icmp .eq 1235, 3) := by decide +kernel
theorem dL_law_372 : decode cL_law 372 = .ok (.iconst 0, 1) := by decide +kernel
theorem dL_law_373 : decode cL_law 373 = .ok (.ireturn, 1) := by decide +kernel
theorem dL_law_374 : decode cL_law 374 = .ok (.aload_n 1, 1) := by decide +kernel
theorem dL_law_375 : decode cL_law 375 = .ok (.aload_n 0, 1) := by decide +kernel
theorem dL_law_376 : decode cL_law 376 = .ok (.iload_n 3, 1) := by decide +kernel
theorem dL_law_377 : decode cL_law 377 = .ok (.iconst 1, 1) := by decide +kernel
theorem dL_law_378 : decode cL_law 378 = .ok (.iadd, 1) := by decide +kernel
theorem dL_law_379 : decode cL_law 379 = .ok (.iaload, 1) := by decide +kernel
theorem dL_law_380 : decode cL_law 380 = .ok (.invokevirtual 43, 3) := by decide +kernel
theorem dL_law_383 : decode cL_law 383 = .ok (.aload_n 2, 1) := by decide +kernel
theorem dL_law_384 : decode cL_law 384 = .ok (.aload_n 0, 1) := by decide +kernel
theorem dL_law_385 : decode cL_law 385 = .ok (.iload_n 3, 1) := by decide +kernel
theorem dL_law_386 : decode cL_law 386 = .ok (.iconst 1, 1) := by decide +kernel
theorem dL_law_387 : decode cL_law 387 = .ok (.iadd, 1) := by decide +kernel
theorem dL_law_388 : decode cL_law 388 = .ok (.iaload, 1) := by decide +kernel
theorem dL_law_389 : decode cL_law 389 = .ok (.invokevirtual 46, 3) := by decide +kernel
theorem dL_law_392 : decode cL_law 392 = .ok (.if_icmp .eq 1212, 3) := by decide +kernel
theorem dL_law_395 : decode cL_law 395 = .ok (.iconst 0, 1) := by decide +kernel
theorem dL_law_396 : decode cL_law 396 = .ok (.ireturn, 1) := by decide +kernel
theorem dL_law_397 : decode cL_law 397 = .ok (.aload_n 1, 1) := by decide +kernel
theorem dL_law_398 : decode cL_law 398 = .ok (.aload_n 0, 1) := by decide +kernel
theorem dL_law_399 : decode cL_law 399 = .ok (.iload_n 3, 1) := by decide +kernel
theorem dL_law_400 : decode cL_law 400 = .ok (.iconst 1, 1) := by decide +kernel
theorem dL_law_401 : decode cL_law 401 = .ok (.iadd, 1) := by decide +kernel
theorem dL_law_402 : decode cL_law 402 = .ok (.iaload, 1) := by decide +kernel
theorem dL_law_403 : decode cL_law 403 = .ok (.invokevirtual 47, 3) := by decide +kernel
theorem dL_law_406 : decode cL_law 406 = .ok (.aload_n 2, 1) := by decide +kernel
theorem dL_law_407 : decode cL_law 407 = .ok (.aload_n 0, 1) := by decide +kernel
theorem dL_law_408 : decode cL_law 408 = .ok (.iload_n 3, 1) := by decide +kernel
theorem dL_law_409 : decode cL_law 409 = .ok (.iconst 1, 1) := by decide +kernel
theorem dL_law_410 : decode cL_law 410 = .ok (.iadd, 1) := by decide +kernel
theorem dL_law_411 : decode cL_law 411 = .ok (.iaload, 1) := by decide +kernel
theorem dL_law_412 : decode cL_law 412 = .ok (.invokevirtual 50, 3) := by decide +kernel
theorem dL_law_415 : decode cL_law 415 = .ok (.if_icmp .eq 1189, 3) := by decide +kernel
theorem dL_law_418 : decode cL_law 418 = .ok (.iconst 0, 1) := by decide +kernel
theorem dL_law_419 : decode cL_law 419 = .ok (.ireturn, 1) := by decide +kernel
theorem dL_law_420 : decode cL_law 420 = .ok (.aload_n 1, 1) := by decide +kernel
theorem dL_law_421 : decode cL_law 421 = .ok (.aload_n 0, 1) := by decide +kernel
theorem dL_law_422 : decode cL_law 422 = .ok (.iload_n 3, 1) := by decide +kernel
theorem dL_law_423 : decode cL_law 423 = .ok (.iconst 1, 1) := by decide +kernel
theorem dL_law_424 : decode cL_law 424 = .ok (.iadd, 1) := by decide +kernel
theorem dL_law_425 : decode cL_law 425 = .ok (.iaload, 1) := by decide +kernel
theorem dL_law_426 : decode cL_law 426 = .ok (.invokevirtual 51, 3) := by decide +kernel
theorem dL_law_429 : decode cL_law 429 = .ok (.aload_n 2, 1) := by decide +kernel
theorem dL_law_430 : decode cL_law 430 = .ok (.aload_n 0, 1) := by decide +kernel
theorem dL_law_431 : decode cL_law 431 = .ok (.iload_n 3, 1) := by decide +kernel
theorem dL_law_432 : decode cL_law 432 = .ok (.iconst 1, 1) := by decide +kernel
theorem dL_law_433 : decode cL_law 433 = .ok (.iadd, 1) := by decide +kernel
theorem dL_law_434 : decode cL_law 434 = .ok (.iaload, 1) := by decide +kernel
theorem dL_law_435 : decode cL_law 435 = .ok (.invokevirtual 54, 3) := by decide +kernel
theorem dL_law_438 : decode cL_law 438 = .ok (.if_icmp .eq 1166, 3) := by decide +kernel
theorem dL_law_441 : decode cL_law 441 = .ok (.iconst 0, 1) := by decide +kernel
theorem dL_law_442 : decode cL_law 442 = .ok (.ireturn, 1) := by decide +kernel
theorem dL_law_443 : decode cL_law 443 = .ok (.aload_n 1, 1) := by decide +kernel
theorem dL_law_444 : decode cL_law 444 = .ok (.aload_n 0, 1) := by decide +kernel
theorem dL_law_445 : decode cL_law 445 = .ok (.iload_n 3, 1) := by decide +kernel
theorem dL_law_446 : decode cL_law 446 = .ok (.iconst 1, 1) := by decide +kernel
theorem dL_law_447 : decode cL_law 447 = .ok (.iadd, 1) := by decide +kernel
theorem dL_law_448 : decode cL_law 448 = .ok (.iaload, 1) := by decide +kernel
theorem dL_law_449 : decode cL_law 449 = .ok (.aload_n 0, 1) := by decide +kernel
theorem dL_law_450 : decode cL_law 450 = .ok (.iload_n 3, 1) := by decide +kernel
theorem dL_law_451 : decode cL_law 451 = .ok (.iconst 2, 1) := by decide +kernel
theorem dL_law_452 : decode cL_law 452 = .ok (.iadd, 1) := by decide +kernel
theorem dL_law_453 : decode cL_law 453 = .ok (.iaload, 1) := by decide +kernel
theorem dL_law_454 : decode cL_law 454 = .ok (.invokevirtual 55, 3) := by decide +kernel
theorem dL_law_457 : decode cL_law 457 = .ok (.aload_n 2, 1) := by decide +kernel
theorem dL_law_458 : decode cL_law 458 = .ok (.aload_n 0, 1) := by decide +kernel
theorem dL_law_459 : decode cL_law 459 = .ok (.iload_n 3, 1) := by decide +kernel
theorem dL_law_460 : decode cL_law 460 = .ok (.iconst 1, 1) := by decide +kernel
theorem dL_law_461 : decode cL_law 461 = .ok (.iadd, 1) := by decide +kernel
theorem dL_law_462 : decode cL_law 462 = .ok (.iaload, 1) := by decide +kernel
theorem dL_law_463 : decode cL_law 463 = .ok (.aload_n 0, 1) := by decide +kernel
theorem dL_law_464 : decode cL_law 464 = .ok (.iload_n 3, 1) := by decide +kernel
theorem dL_law_465 : decode cL_law 465 = .ok (.iconst 2, 1) := by decide +kernel
theorem dL_law_466 : decode cL_law 466 = .ok (.iadd, 1) := by decide +kernel
theorem dL_law_467 : decode cL_law 467 = .ok (.iaload, 1) := by decide +kernel
theorem dL_law_468 : decode cL_law 468 = .ok (.invokevirtual 58, 3) := by decide +kernel
theorem dL_law_471 : decode cL_law 471 = .ok (.if_icmp .eq 1133, 3) := by decide +kernel
theorem dL_law_474 : decode cL_law 474 = .ok (.iconst 0, 1) := by decide +kernel
theorem dL_law_475 : decode cL_law 475 = .ok (.ireturn, 1) := by decide +kernel
theorem dL_law_476 : decode cL_law 476 = .ok (.aload_n 1, 1) := by decide +kernel
theorem dL_law_477 : decode cL_law 477 = .ok (.aload_n 0, 1) := by decide +kernel
theorem dL_law_478 : decode cL_law 478 = .ok (.iload_n 3, 1) := by decide +kernel
theorem dL_law_479 : decode cL_law 479 = .ok (.iconst 1, 1) := by decide +kernel
theorem dL_law_480 : decode cL_law 480 = .ok (.iadd, 1) := by decide +kernel
theorem dL_law_481 : decode cL_law 481 = .ok (.iaload, 1) := by decide +kernel
theorem dL_law_482 : decode cL_law 482 = .ok (.invokevirtual 59, 3) := by decide +kernel
theorem dL_law_485 : decode cL_law 485 = .ok (.aload_n 2, 1) := by decide +kernel
theorem dL_law_486 : decode cL_law 486 = .ok (.aload_n 0, 1) := by decide +kernel
theorem dL_law_487 : decode cL_law 487 = .ok (.iload_n 3, 1) := by decide +kernel
theorem dL_law_488 : decode cL_law 488 = .ok (.iconst 1, 1) := by decide +kernel
theorem dL_law_489 : decode cL_law 489 = .ok (.iadd, 1) := by decide +kernel
theorem dL_law_490 : decode cL_law 490 = .ok (.iaload, 1) := by decide +kernel
theorem dL_law_491 : decode cL_law 491 = .ok (.invokevirtual 62, 3) := by decide +kernel
theorem dL_law_494 : decode cL_law 494 = .ok (.if_icmp .eq 1110, 3) := by decide +kernel
theorem dL_law_497 : decode cL_law 497 = .ok (.iconst 0, 1) := by decide +kernel
theorem dL_law_498 : decode cL_law 498 = .ok (.ireturn, 1) := by decide +kernel
theorem dL_law_499 : decode cL_law 499 = .ok (.aload_n 1, 1) := by decide +kernel
theorem dL_law_500 : decode cL_law 500 = .ok (.invokevirtual 63, 3) := by decide +kernel
theorem dL_law_503 : decode cL_law 503 = .ok (.aload_n 2, 1) := by decide +kernel
theorem dL_law_504 : decode cL_law 504 = .ok (.invokevirtual 66, 3) := by decide +kernel
theorem dL_law_507 : decode cL_law 507 = .ok (.if_icmp .eq 1097, 3) := by decide +kernel
theorem dL_law_510 : decode cL_law 510 = .ok (.iconst 0, 1) := by decide +kernel
theorem dL_law_511 : decode cL_law 511 = .ok (.ireturn, 1) := by decide +kernel
theorem dL_law_512 : decode cL_law 512 = .ok (.aload_n 1, 1) := by decide +kernel
theorem dL_law_513 : decode cL_law 513 = .ok (.aload_n 0, 1) := by decide +kernel
theorem dL_law_514 : decode cL_law 514 = .ok (.iload_n 3, 1) := by decide +kernel
theorem dL_law_515 : decode cL_law 515 = .ok (.iconst 1, 1) := by decide +kernel
theorem dL_law_516 : decode cL_law 516 = .ok (.iadd, 1) := by decide +kernel
theorem dL_law_517 : decode cL_law 517 = .ok (.iaload, 1) := by decide +kernel
theorem dL_law_518 : decode cL_law 518 = .ok (.invokevirtual 67, 3) := by decide +kernel
theorem dL_law_521 : decode cL_law 521 = .ok (.aload_n 2, 1) := by decide +kernel
theorem dL_law_522 : decode cL_law 522 = .ok (.aload_n 0, 1) := by decide +kernel
theorem dL_law_523 : decode cL_law 523 = .ok (.iload_n 3, 1) := by decide +kernel
theorem dL_law_524 : decode cL_law 524 = .ok (.iconst 1, 1) := by decide +kernel
theorem dL_law_525 : decode cL_law 525 = .ok (.iadd, 1) := by decide +kernel
theorem dL_law_526 : decode cL_law 526 = .ok (.iaload, 1) := by decide +kernel
theorem dL_law_527 : decode cL_law 527 = .ok (.invokevirtual 70, 3) := by decide +kernel
theorem dL_law_530 : decode cL_law 530 = .ok (.if_icmp .eq 1074, 3) := by decide +kernel
theorem dL_law_533 : decode cL_law 533 = .ok (.iconst 0, 1) := by decide +kernel
theorem dL_law_534 : decode cL_law 534 = .ok (.ireturn, 1) := by decide +kernel
theorem dL_law_535 : decode cL_law 535 = .ok (.aload_n 1, 1) := by decide +kernel
theorem dL_law_536 : decode cL_law 536 = .ok (.aload_n 0, 1) := by decide +kernel
theorem dL_law_537 : decode cL_law 537 = .ok (.iload_n 3, 1) := by decide +kernel
theorem dL_law_538 : decode cL_law 538 = .ok (.iconst 1, 1) := by decide +kernel
theorem dL_law_539 : decode cL_law 539 = .ok (.iadd, 1) := by decide +kernel
theorem dL_law_540 : decode cL_law 540 = .ok (.iaload, 1) := by decide +kernel
theorem dL_law_541 : decode cL_law 541 = .ok (.aload_n 0, 1) := by decide +kernel
theorem dL_law_542 : decode cL_law 542 = .ok (.iload_n 3, 1) := by decide +kernel
theorem dL_law_543 : decode cL_law 543 = .ok (.iconst 2, 1) := by decide +kernel
theorem dL_law_544 : decode cL_law 544 = .ok (.iadd, 1) := by decide +kernel
theorem dL_law_545 : decode cL_law 545 = .ok (.iaload, 1) := by decide +kernel
theorem dL_law_546 : decode cL_law 546 = .ok (.aload_n 0, 1) := by decide +kernel
theorem dL_law_547 : decode cL_law 547 = .ok (.iload_n 3, 1) := by decide +kernel
theorem dL_law_548 : decode cL_law 548 = .ok (.iconst 3, 1) := by decide +kernel
theorem dL_law_549 : decode cL_law 549 = .ok (.iadd, 1) := by decide +kernel
theorem dL_law_550 : decode cL_law 550 = .ok (.iaload, 1) := by decide +kernel
theorem dL_law_551 : decode cL_law 551 = .ok (.invokevirtual 71, 3) := by decide +kernel
theorem dL_law_554 : decode cL_law 554 = .ok (.aload_n 2, 1) := by decide +kernel
theorem dL_law_555 : decode cL_law 555 = .ok (.aload_n 0, 1) := by decide +kernel
theorem dL_law_556 : decode cL_law 556 = .ok (.iload_n 3, 1) := by decide +kernel
theorem dL_law_557 : decode cL_law 557 = .ok (.iconst 1, 1) := by decide +kernel
theorem dL_law_558 : decode cL_law 558 = .ok (.iadd, 1) := by decide +kernel
theorem dL_law_559 : decode cL_law 559 = .ok (.iaload, 1) := by decide +kernel
theorem dL_law_560 : decode cL_law 560 = .ok (.aload_n 0, 1) := by decide +kernel
theorem dL_law_561 : decode cL_law 561 = .ok (.iload_n 3, 1) := by decide +kernel
theorem dL_law_562 : decode cL_law 562 = .ok (.iconst 2, 1) := by decide +kernel
theorem dL_law_563 : decode cL_law 563 = .ok (.iadd, 1) := by decide +kernel
theorem dL_law_564 : decode cL_law 564 = .ok (.iaload, 1) := by decide +kernel
theorem dL_law_565 : decode cL_law 565 = .ok (.aload_n 0, 1) := by decide +kernel
theorem dL_law_566 : decode cL_law 566 = .ok (.iload_n 3, 1) := by decide +kernel
theorem dL_law_567 : decode cL_law 567 = .ok (.iconst 3, 1) := by decide +kernel
theorem dL_law_568 : decode cL_law 568 = .ok (.iadd, 1) := by decide +kernel
theorem dL_law_569 : decode cL_law 569 = .ok (.iaload, 1) := by decide +kernel
theorem dL_law_570 : decode cL_law 570 = .ok (.invokevirtual 75, 3) := by decide +kernel
theorem dL_law_573 : decode cL_law 573 = .ok (.if_icmp .eq 1031, 3) := by decide +kernel
theorem dL_law_576 : decode cL_law 576 = .ok (.iconst 0, 1) := by decide +kernel
theorem dL_law_577 : decode cL_law 577 = .ok (.ireturn, 1) := by decide +kernel
theorem dL_law_578 : decode cL_law 578 = .ok (.aload_n 1, 1) := by decide +kernel
theorem dL_law_579 : decode cL_law 579 = .ok (.aload_n 0, 1) := by decide +kernel
theorem dL_law_580 : decode cL_law 580 = .ok (.iload_n 3, 1) := by decide +kernel
theorem dL_law_581 : decode cL_law 581 = .ok (.iconst 1, 1) := by decide +kernel
theorem dL_law_582 : decode cL_law 582 = .ok (.iadd, 1) := by decide +kernel
theorem dL_law_583 : decode cL_law 583 = .ok (.iaload, 1) := by decide +kernel
theorem dL_law_584 : decode cL_law 584 = .ok (.aload_n 0, 1) := by decide +kernel
theorem dL_law_585 : decode cL_law 585 = .ok (.iload_n 3, 1) := by decide +kernel
theorem dL_law_586 : decode cL_law 586 = .ok (.iconst 2, 1) := by decide +kernel
theorem dL_law_587 : decode cL_law 587 = .ok (.iadd, 1) := by decide +kernel
theorem dL_law_588 : decode cL_law 588 = .ok (.iaload, 1) := by decide +kernel
theorem dL_law_589 : decode cL_law 589 = .ok (.invokevirtual 76, 3) := by decide +kernel
theorem dL_law_592 : decode cL_law 592 = .ok (.aload_n 2, 1) := by decide +kernel
theorem dL_law_593 : decode cL_law 593 = .ok (.aload_n 0, 1) := by decide +kernel
theorem dL_law_594 : decode cL_law 594 = .ok (.iload_n 3, 1) := by decide +kernel
theorem dL_law_595 : decode cL_law 595 = .ok (.iconst 1, 1) := by decide +kernel
theorem dL_law_596 : decode cL_law 596 = .ok (.iadd, 1) := by decide +kernel
theorem dL_law_597 : decode cL_law 597 = .ok (.iaload, 1) := by decide +kernel
theorem dL_law_598 : decode cL_law 598 = .ok (.aload_n 0, 1) := by decide +kernel
theorem dL_law_599 : decode cL_law 599 = .ok (.iload_n 3, 1) := by decide +kernel
theorem dL_law_600 : decode cL_law 600 = .ok (.iconst 2, 1) := by decide +kernel
theorem dL_law_601 : decode cL_law 601 = .ok (.iadd, 1) := by decide +kernel
theorem dL_law_602 : decode cL_law 602 = .ok (.iaload, 1) := by decide +kernel
theorem dL_law_603 : decode cL_law 603 = .ok (.invokevirtual 79, 3) := by decide +kernel
theorem dL_law_606 : decode cL_law 606 = .ok (.if_icmp .eq 998, 3) := by decide +kernel
theorem dL_law_609 : decode cL_law 609 = .ok (.iconst 0, 1) := by decide +kernel
theorem dL_law_610 : decode cL_law 610 = .ok (.ireturn, 1) := by decide +kernel
theorem dL_law_611 : decode cL_law 611 = .ok (.aload_n 1, 1) := by decide +kernel
theorem dL_law_612 : decode cL_law 612 = .ok (.aload_n 0, 1) := by decide +kernel
theorem dL_law_613 : decode cL_law 613 = .ok (.iload_n 3, 1) := by decide +kernel
theorem dL_law_614 : decode cL_law 614 = .ok (.iconst 1, 1) := by decide +kernel
theorem dL_law_615 : decode cL_law 615 = .ok (.iadd, 1) := by decide +kernel
theorem dL_law_616 : decode cL_law 616 = .ok (.iaload, 1) := by decide +kernel
theorem dL_law_617 : decode cL_law 617 = .ok (.aload_n 0, 1) := by decide +kernel
theorem dL_law_618 : decode cL_law 618 = .ok (.iload_n 3, 1) := by decide +kernel
theorem dL_law_619 : decode cL_law 619 = .ok (.iconst 2, 1) := by decide +kernel
theorem dL_law_620 : decode cL_law 620 = .ok (.iadd, 1) := by decide +kernel
theorem dL_law_621 : decode cL_law 621 = .ok (.iaload, 1) := by decide +kernel
theorem dL_law_622 : decode cL_law 622 = .ok (.invokevirtual 80, 3) := by decide +kernel
theorem dL_law_625 : decode cL_law 625 = .ok (.aload_n 2, 1) := by decide +kernel
theorem dL_law_626 : decode cL_law 626 = .ok (.aload_n 0, 1) := by decide +kernel
theorem dL_law_627 : decode cL_law 627 = .ok (.iload_n 3, 1) := by decide +kernel
theorem dL_law_628 : decode cL_law 628 = .ok (.iconst 1, 1) := by decide +kernel
theorem dL_law_629 : decode cL_law 629 = .ok (.iadd, 1) := by decide +kernel
theorem dL_law_630 : decode cL_law 630 = .ok (.iaload, 1) := by decide +kernel
theorem dL_law_631 : decode cL_law 631 = .ok (.aload_n 0, 1) := by decide +kernel
theorem dL_law_632 : decode cL_law 632 = .ok (.iload_n 3, 1) := by decide +kernel
theorem dL_law_633 : decode cL_law 633 = .ok (.iconst 2, 1) := by decide +kernel
theorem dL_law_634 : decode cL_law 634 = .ok (.iadd, 1) := by decide +kernel
theorem dL_law_635 : decode cL_law 635 = .ok (.iaload, 1) := by decide +kernel
theorem dL_law_636 : decode cL_law 636 = .ok (.invokevirtual 83, 3) := by decide +kernel
theorem dL_law_639 : decode cL_law 639 = .ok (.if_icmp .eq 965, 3) := by decide +kernel
theorem dL_law_642 : decode cL_law 642 = .ok (.iconst 0, 1) := by decide +kernel
theorem dL_law_643 : decode cL_law 643 = .ok (.ireturn, 1) := by decide +kernel
theorem dL_law_644 : decode cL_law 644 = .ok (.aload_n 1, 1) := by decide +kernel
theorem dL_law_645 : decode cL_law 645 = .ok (.aload_n 0, 1) := by decide +kernel
theorem dL_law_646 : decode cL_law 646 = .ok (.iload_n 3, 1) := by decide +kernel
theorem dL_law_647 : decode cL_law 647 = .ok (.iconst 1, 1) := by decide +kernel
theorem dL_law_648 : decode cL_law 648 = .ok (.iadd, 1) := by decide +kernel
theorem dL_law_649 : decode cL_law 649 = .ok (.iaload, 1) := by decide +kernel
theorem dL_law_650 : decode cL_law 650 = .ok (.invokevirtual 84, 3) := by decide +kernel
theorem dL_law_653 : decode cL_law 653 = .ok (.aload_n 2, 1) := by decide +kernel
theorem dL_law_654 : decode cL_law 654 = .ok (.aload_n 0, 1) := by decide +kernel
theorem dL_law_655 : decode cL_law 655 = .ok (.iload_n 3, 1) := by decide +kernel
theorem dL_law_656 : decode cL_law 656 = .ok (.iconst 1, 1) := by decide +kernel
theorem dL_law_657 : decode cL_law 657 = .ok (.iadd, 1) := by decide +kernel
theorem dL_law_658 : decode cL_law 658 = .ok (.iaload, 1) := by decide +kernel
theorem dL_law_659 : decode cL_law 659 = .ok (.invokevirtual 87, 3) := by decide +kernel
theorem dL_law_662 : decode cL_law 662 = .ok (.if_icmp .eq 942, 3) := by decide +kernel
theorem dL_law_665 : decode cL_law 665 = .ok (.iconst 0, 1) := by decide +kernel
theorem dL_law_666 : decode cL_law 666 = .ok (.ireturn, 1) := by decide +kernel
theorem dL_law_667 : decode cL_law 667 = .ok (.aload_n 1, 1) := by decide +kernel
theorem dL_law_668 : decode cL_law 668 = .ok (.aload_n 0, 1) := by decide +kernel
theorem dL_law_669 : decode cL_law 669 = .ok (.iload_n 3, 1) := by decide +kernel
theorem dL_law_670 : decode cL_law 670 = .ok (.iconst 1, 1) := by decide +kernel
theorem dL_law_671 : decode cL_law 671 = .ok (.iadd, 1) := by decide +kernel
theorem dL_law_672 : decode cL_law 672 = .ok (.iaload, 1) := by decide +kernel
theorem dL_law_673 : decode cL_law 673 = .ok (.invokevirtual 88, 3) := by decide +kernel
theorem dL_law_676 : decode cL_law 676 = .ok (.aload_n 2, 1) := by decide +kernel
theorem dL_law_677 : decode cL_law 677 = .ok (.aload_n 0, 1) := by decide +kernel
theorem dL_law_678 : decode cL_law 678 = .ok (.iload_n 3, 1) := by decide +kernel
theorem dL_law_679 : decode cL_law 679 = .ok (.iconst 1, 1) := by decide +kernel
theorem dL_law_680 : decode cL_law 680 = .ok (.iadd, 1) := by decide +kernel
theorem dL_law_681 : decode cL_law 681 = .ok (.iaload, 1) := by decide +kernel
theorem dL_law_682 : decode cL_law 682 = .ok (.invokevirtual 91, 3) := by decide +kernel
theorem dL_law_685 : decode cL_law 685 = .ok (.if_icmp .eq 919, 3) := by decide +kernel
theorem dL_law_688 : decode cL_law 688 = .ok (.iconst 0, 1) := by decide +kernel
theorem dL_law_689 : decode cL_law 689 = .ok (.ireturn, 1) := by decide +kernel
theorem dL_law_690 : decode cL_law 690 = .ok (.aload_n 1, 1) := by decide +kernel
theorem dL_law_691 : decode cL_law 691 = .ok (.aload_n 0, 1) := by decide +kernel
theorem dL_law_692 : decode cL_law 692 = .ok (.iload_n 3, 1) := by decide +kernel
theorem dL_law_693 : decode cL_law 693 = .ok (.iconst 1, 1) := by decide +kernel
theorem dL_law_694 : decode cL_law 694 = .ok (.iadd, 1) := by decide +kernel
theorem dL_law_695 : decode cL_law 695 = .ok (.iaload, 1) := by decide +kernel
theorem dL_law_696 : decode cL_law 696 = .ok (.invokevirtual 92, 3) := by decide +kernel
theorem dL_law_699 : decode cL_law 699 = .ok (.aload_n 2, 1) := by decide +kernel
theorem dL_law_700 : decode cL_law 700 = .ok (.aload_n 0, 1) := by decide +kernel
theorem dL_law_701 : decode cL_law 701 = .ok (.iload_n 3, 1) := by decide +kernel
theorem dL_law_702 : decode cL_law 702 = .ok (.iconst 1, 1) := by decide +kernel
theorem dL_law_703 : decode cL_law 703 = .ok (.iadd, 1) := by decide +kernel
theorem dL_law_704 : decode cL_law 704 = .ok (.iaload, 1) := by decide +kernel
theorem dL_law_705 : decode cL_law 705 = .ok (.invokevirtual 95, 3) := by decide +kernel
theorem dL_law_708 : decode cL_law 708 = .ok (.if_icmp .eq 896, 3) := by decide +kernel
theorem dL_law_711 : decode cL_law 711 = .ok (.iconst 0, 1) := by decide +kernel
theorem dL_law_712 : decode cL_law 712 = .ok (.ireturn, 1) := by decide +kernel
theorem dL_law_713 : decode cL_law 713 = .ok (.aload_n 1, 1) := by decide +kernel
theorem dL_law_714 : decode cL_law 714 = .ok (.invokevirtual 96, 3) := by decide +kernel
theorem dL_law_717 : decode cL_law 717 = .ok (.aload_n 2, 1) := by decide +kernel
theorem dL_law_718 : decode cL_law 718 = .ok (.invokevirtual 99, 3) := by decide +kernel
theorem dL_law_721 : decode cL_law 721 = .ok (.if_icmp .eq 883, 3) := by decide +kernel
theorem dL_law_724 : decode cL_law 724 = .ok (.iconst 0, 1) := by decide +kernel
theorem dL_law_725 : decode cL_law 725 = .ok (.ireturn, 1) := by decide +kernel
theorem dL_law_726 : decode cL_law 726 = .ok (.aload_n 1, 1) := by decide +kernel
theorem dL_law_727 : decode cL_law 727 = .ok (.aload_n 0, 1) := by decide +kernel
theorem dL_law_728 : decode cL_law 728 = .ok (.iload_n 3, 1) := by decide +kernel
theorem dL_law_729 : decode cL_law 729 = .ok (.iconst 1, 1) := by decide +kernel
theorem dL_law_730 : decode cL_law 730 = .ok (.iadd, 1) := by decide +kernel
theorem dL_law_731 : decode cL_law 731 = .ok (.iaload, 1) := by decide +kernel
theorem dL_law_732 : decode cL_law 732 = .ok (.invokevirtual 100, 3) := by decide +kernel
theorem dL_law_735 : decode cL_law 735 = .ok (.aload_n 2, 1) := by decide +kernel
theorem dL_law_736 : decode cL_law 736 = .ok (.aload_n 0, 1) := by decide +kernel
theorem dL_law_737 : decode cL_law 737 = .ok (.iload_n 3, 1) := by decide +kernel
theorem dL_law_738 : decode cL_law 738 = .ok (.iconst 1, 1) := by decide +kernel
theorem dL_law_739 : decode cL_law 739 = .ok (.iadd, 1) := by decide +kernel
theorem dL_law_740 : decode cL_law 740 = .ok (.iaload, 1) := by decide +kernel
theorem dL_law_741 : decode cL_law 741 = .ok (.invokevirtual 103, 3) := by decide +kernel
theorem dL_law_744 : decode cL_law 744 = .ok (.if_icmp .eq 860, 3) := by decide +kernel
theorem dL_law_747 : decode cL_law 747 = .ok (.iconst 0, 1) := by decide +kernel
theorem dL_law_748 : decode cL_law 748 = .ok (.ireturn, 1) := by decide +kernel
theorem dL_law_749 : decode cL_law 749 = .ok (.aload_n 1, 1) := by decide +kernel
theorem dL_law_750 : decode cL_law 750 = .ok (.aload_n 0, 1) := by decide +kernel
theorem dL_law_751 : decode cL_law 751 = .ok (.iload_n 3, 1) := by decide +kernel
theorem dL_law_752 : decode cL_law 752 = .ok (.iconst 1, 1) := by decide +kernel
theorem dL_law_753 : decode cL_law 753 = .ok (.iadd, 1) := by decide +kernel
theorem dL_law_754 : decode cL_law 754 = .ok (.iaload, 1) := by decide +kernel
theorem dL_law_755 : decode cL_law 755 = .ok (.aload_n 0, 1) := by decide +kernel
theorem dL_law_756 : decode cL_law 756 = .ok (.iload_n 3, 1) := by decide +kernel
theorem dL_law_757 : decode cL_law 757 = .ok (.iconst 2, 1) := by decide +kernel
theorem dL_law_758 : decode cL_law 758 = .ok (.iadd, 1) := by decide +kernel
theorem dL_law_759 : decode cL_law 759 = .ok (.iaload, 1) := by decide +kernel
theorem dL_law_760 : decode cL_law 760 = .ok (.aload_n 0, 1) := by decide +kernel
theorem dL_law_761 : decode cL_law 761 = .ok (.iload_n 3, 1) := by decide +kernel
theorem dL_law_762 : decode cL_law 762 = .ok (.iconst 3, 1) := by decide +kernel
theorem dL_law_763 : decode cL_law 763 = .ok (.iadd, 1) := by decide +kernel
theorem dL_law_764 : decode cL_law 764 = .ok (.iaload, 1) := by decide +kernel
theorem dL_law_765 : decode cL_law 765 = .ok (.invokevirtual 104, 3) := by decide +kernel
theorem dL_law_768 : decode cL_law 768 = .ok (.aload_n 2, 1) := by decide +kernel
theorem dL_law_769 : decode cL_law 769 = .ok (.aload_n 0, 1) := by decide +kernel
theorem dL_law_770 : decode cL_law 770 = .ok (.iload_n 3, 1) := by decide +kernel
theorem dL_law_771 : decode cL_law 771 = .ok (.iconst 1, 1) := by decide +kernel
theorem dL_law_772 : decode cL_law 772 = .ok (.iadd, 1) := by decide +kernel
theorem dL_law_773 : decode cL_law 773 = .ok (.iaload, 1) := by decide +kernel
theorem dL_law_774 : decode cL_law 774 = .ok (.aload_n 0, 1) := by decide +kernel
theorem dL_law_775 : decode cL_law 775 = .ok (.iload_n 3, 1) := by decide +kernel
theorem dL_law_776 : decode cL_law 776 = .ok (.iconst 2, 1) := by decide +kernel
theorem dL_law_777 : decode cL_law 777 = .ok (.iadd, 1) := by decide +kernel
theorem dL_law_778 : decode cL_law 778 = .ok (.iaload, 1) := by decide +kernel
theorem dL_law_779 : decode cL_law 779 = .ok (.aload_n 0, 1) := by decide +kernel
theorem dL_law_780 : decode cL_law 780 = .ok (.iload_n 3, 1) := by decide +kernel
theorem dL_law_781 : decode cL_law 781 = .ok (.iconst 3, 1) := by decide +kernel
theorem dL_law_782 : decode cL_law 782 = .ok (.iadd, 1) := by decide +kernel
theorem dL_law_783 : decode cL_law 783 = .ok (.iaload, 1) := by decide +kernel
theorem dL_law_784 : decode cL_law 784 = .ok (.invokevirtual 107, 3) := by decide +kernel
theorem dL_law_787 : decode cL_law 787 = .ok (.if_icmp .eq 817, 3) := by decide +kernel
theorem dL_law_790 : decode cL_law 790 = .ok (.iconst 0, 1) := by decide +kernel
theorem dL_law_791 : decode cL_law 791 = .ok (.ireturn, 1) := by decide +kernel
theorem dL_law_792 : decode cL_law 792 = .ok (.aload_n 1, 1) := by decide +kernel
theorem dL_law_793 : decode cL_law 793 = .ok (.aload_n 0, 1) := by decide +kernel
theorem dL_law_794 : decode cL_law 794 = .ok (.iload_n 3, 1) := by decide +kernel
theorem dL_law_795 : decode cL_law 795 = .ok (.iconst 1, 1) := by decide +kernel
theorem dL_law_796 : decode cL_law 796 = .ok (.iadd, 1) := by decide +kernel
theorem dL_law_797 : decode cL_law 797 = .ok (.iaload, 1) := by decide +kernel
theorem dL_law_798 : decode cL_law 798 = .ok (.aload_n 0, 1) := by decide +kernel
theorem dL_law_799 : decode cL_law 799 = .ok (.iload_n 3, 1) := by decide +kernel
theorem dL_law_800 : decode cL_law 800 = .ok (.iconst 2, 1) := by decide +kernel
theorem dL_law_801 : decode cL_law 801 = .ok (.iadd, 1) := by decide +kernel
theorem dL_law_802 : decode cL_law 802 = .ok (.iaload, 1) := by decide +kernel
theorem dL_law_803 : decode cL_law 803 = .ok (.aload_n 0, 1) := by decide +kernel
theorem dL_law_804 : decode cL_law 804 = .ok (.iload_n 3, 1) := by decide +kernel
theorem dL_law_805 : decode cL_law 805 = .ok (.iconst 3, 1) := by decide +kernel
theorem dL_law_806 : decode cL_law 806 = .ok (.iadd, 1) := by decide +kernel
theorem dL_law_807 : decode cL_law 807 = .ok (.iaload, 1) := by decide +kernel
theorem dL_law_808 : decode cL_law 808 = .ok (.invokevirtual 108, 3) := by decide +kernel
theorem dL_law_811 : decode cL_law 811 = .ok (.aload_n 2, 1) := by decide +kernel
theorem dL_law_812 : decode cL_law 812 = .ok (.aload_n 0, 1) := by decide +kernel
theorem dL_law_813 : decode cL_law 813 = .ok (.iload_n 3, 1) := by decide +kernel
theorem dL_law_814 : decode cL_law 814 = .ok (.iconst 1, 1) := by decide +kernel
theorem dL_law_815 : decode cL_law 815 = .ok (.iadd, 1) := by decide +kernel
theorem dL_law_816 : decode cL_law 816 = .ok (.iaload, 1) := by decide +kernel
theorem dL_law_817 : decode cL_law 817 = .ok (.aload_n 0, 1) := by decide +kernel
theorem dL_law_818 : decode cL_law 818 = .ok (.iload_n 3, 1) := by decide +kernel
theorem dL_law_819 : decode cL_law 819 = .ok (.iconst 2, 1) := by decide +kernel
theorem dL_law_820 : decode cL_law 820 = .ok (.iadd, 1) := by decide +kernel
theorem dL_law_821 : decode cL_law 821 = .ok (.iaload, 1) := by decide +kernel
theorem dL_law_822 : decode cL_law 822 = .ok (.aload_n 0, 1) := by decide +kernel
theorem dL_law_823 : decode cL_law 823 = .ok (.iload_n 3, 1) := by decide +kernel
theorem dL_law_824 : decode cL_law 824 = .ok (.iconst 3, 1) := by decide +kernel
theorem dL_law_825 : decode cL_law 825 = .ok (.iadd, 1) := by decide +kernel
theorem dL_law_826 : decode cL_law 826 = .ok (.iaload, 1) := by decide +kernel
theorem dL_law_827 : decode cL_law 827 = .ok (.invokevirtual 111, 3) := by decide +kernel
theorem dL_law_830 : decode cL_law 830 = .ok (.if_icmp .eq 774, 3) := by decide +kernel
theorem dL_law_833 : decode cL_law 833 = .ok (.iconst 0, 1) := by decide +kernel
theorem dL_law_834 : decode cL_law 834 = .ok (.ireturn, 1) := by decide +kernel
theorem dL_law_835 : decode cL_law 835 = .ok (.aload_n 1, 1) := by decide +kernel
theorem dL_law_836 : decode cL_law 836 = .ok (.aload_n 0, 1) := by decide +kernel
theorem dL_law_837 : decode cL_law 837 = .ok (.iload_n 3, 1) := by decide +kernel
theorem dL_law_838 : decode cL_law 838 = .ok (.iconst 1, 1) := by decide +kernel
theorem dL_law_839 : decode cL_law 839 = .ok (.iadd, 1) := by decide +kernel
theorem dL_law_840 : decode cL_law 840 = .ok (.iaload, 1) := by decide +kernel
theorem dL_law_841 : decode cL_law 841 = .ok (.aload_n 0, 1) := by decide +kernel
theorem dL_law_842 : decode cL_law 842 = .ok (.iload_n 3, 1) := by decide +kernel
theorem dL_law_843 : decode cL_law 843 = .ok (.iconst 2, 1) := by decide +kernel
theorem dL_law_844 : decode cL_law 844 = .ok (.iadd, 1) := by decide +kernel
theorem dL_law_845 : decode cL_law 845 = .ok (.iaload, 1) := by decide +kernel
theorem dL_law_846 : decode cL_law 846 = .ok (.aload_n 0, 1) := by decide +kernel
theorem dL_law_847 : decode cL_law 847 = .ok (.iload_n 3, 1) := by decide +kernel
theorem dL_law_848 : decode cL_law 848 = .ok (.iconst 3, 1) := by decide +kernel
theorem dL_law_849 : decode cL_law 849 = .ok (.iadd, 1) := by decide +kernel
theorem dL_law_850 : decode cL_law 850 = .ok (.iaload, 1) := by decide +kernel
theorem dL_law_851 : decode cL_law 851 = .ok (.invokevirtual 112, 3) := by decide +kernel
theorem dL_law_854 : decode cL_law 854 = .ok (.aload_n 2, 1) := by decide +kernel
theorem dL_law_855 : decode cL_law 855 = .ok (.aload_n 0, 1) := by decide +kernel
theorem dL_law_856 : decode cL_law 856 = .ok (.iload_n 3, 1) := by decide +kernel
theorem dL_law_857 : decode cL_law 857 = .ok (.iconst 1, 1) := by decide +kernel
theorem dL_law_858 : decode cL_law 858 = .ok (.iadd, 1) := by decide +kernel
theorem dL_law_859 : decode cL_law 859 = .ok (.iaload, 1) := by decide +kernel
theorem dL_law_860 : decode cL_law 860 = .ok (.aload_n 0, 1) := by decide +kernel
theorem dL_law_861 : decode cL_law 861 = .ok (.iload_n 3, 1) := by decide +kernel
theorem dL_law_862 : decode cL_law 862 = .ok (.iconst 2, 1) := by decide +kernel
theorem dL_law_863 : decode cL_law 863 = .ok (.iadd, 1) := by decide +kernel
theorem dL_law_864 : decode cL_law 864 = .ok (.iaload, 1) := by decide +kernel
theorem dL_law_865 : decode cL_law 865 = .ok (.aload_n 0, 1) := by decide +kernel
theorem dL_law_866 : decode cL_law 866 = .ok (.iload_n 3, 1) := by decide +kernel
theorem dL_law_867 : decode cL_law 867 = .ok (.iconst 3, 1) := by decide +kernel
theorem dL_law_868 : decode cL_law 868 = .ok (.iadd, 1) := by decide +kernel
theorem dL_law_869 : decode cL_law 869 = .ok (.iaload, 1) := by decide +kernel
theorem dL_law_870 : decode cL_law 870 = .ok (.invokevirtual 115, 3) := by decide +kernel
theorem dL_law_873 : decode cL_law 873 = .ok (.if_icmp .eq 731, 3) := by decide +kernel
theorem dL_law_876 : decode cL_law 876 = .ok (.iconst 0, 1) := by decide +kernel
theorem dL_law_877 : decode cL_law 877 = .ok (.ireturn, 1) := by decide +kernel
theorem dL_law_878 : decode cL_law 878 = .ok (.aload_n 1, 1) := by decide +kernel
theorem dL_law_879 : decode cL_law 879 = .ok (.aload_n 0, 1) := by decide +kernel
theorem dL_law_880 : decode cL_law 880 = .ok (.iload_n 3, 1) := by decide +kernel
theorem dL_law_881 : decode cL_law 881 = .ok (.iconst 1, 1) := by decide +kernel
theorem dL_law_882 : decode cL_law 882 = .ok (.iadd, 1) := by decide +kernel
theorem dL_law_883 : decode cL_law 883 = .ok (.iaload, 1) := by decide +kernel
theorem dL_law_884 : decode cL_law 884 = .ok (.aload_n 0, 1) := by decide +kernel
theorem dL_law_885 : decode cL_law 885 = .ok (.iload_n 3, 1) := by decide +kernel
theorem dL_law_886 : decode cL_law 886 = .ok (.iconst 2, 1) := by decide +kernel
theorem dL_law_887 : decode cL_law 887 = .ok (.iadd, 1) := by decide +kernel
theorem dL_law_888 : decode cL_law 888 = .ok (.iaload, 1) := by decide +kernel
theorem dL_law_889 : decode cL_law 889 = .ok (.aload_n 0, 1) := by decide +kernel
theorem dL_law_890 : decode cL_law 890 = .ok (.iload_n 3, 1) := by decide +kernel
theorem dL_law_891 : decode cL_law 891 = .ok (.iconst 3, 1) := by decide +kernel
theorem dL_law_892 : decode cL_law 892 = .ok (.iadd, 1) := by decide +kernel
theorem dL_law_893 : decode cL_law 893 = .ok (.iaload, 1) := by decide +kernel
theorem dL_law_894 : decode cL_law 894 = .ok (.aload_n 0, 1) := by decide +kernel
theorem dL_law_895 : decode cL_law 895 = .ok (.iload_n 3, 1) := by decide +kernel
theorem dL_law_896 : decode cL_law 896 = .ok (.iconst 4, 1) := by decide +kernel
theorem dL_law_897 : decode cL_law 897 = .ok (.iadd, 1) := by decide +kernel
theorem dL_law_898 : decode cL_law 898 = .ok (.iaload, 1) := by decide +kernel
theorem dL_law_899 : decode cL_law 899 = .ok (.aload_n 0, 1) := by decide +kernel
theorem dL_law_900 : decode cL_law 900 = .ok (.iload_n 3, 1) := by decide +kernel
theorem dL_law_901 : decode cL_law 901 = .ok (.iconst 5, 1) := by decide +kernel
theorem dL_law_902 : decode cL_law 902 = .ok (.iadd, 1) := by decide +kernel
theorem dL_law_903 : decode cL_law 903 = .ok (.iaload, 1) := by decide +kernel
theorem dL_law_904 : decode cL_law 904 = .ok (.aload_n 0, 1) := by decide +kernel
theorem dL_law_905 : decode cL_law 905 = .ok (.iload_n 3, 1) := by decide +kernel
theorem dL_law_906 : decode cL_law 906 = .ok (.bipush 6, 2) := by decide +kernel
theorem dL_law_908 : decode cL_law 908 = .ok (.iadd, 1) := by decide +kernel
theorem dL_law_909 : decode cL_law 909 = .ok (.iaload, 1) := by decide +kernel
theorem dL_law_910 : decode cL_law 910 = .ok (.aload_n 0, 1) := by decide +kernel
theorem dL_law_911 : decode cL_law 911 = .ok (.iload_n 3, 1) := by decide +kernel
theorem dL_law_912 : decode cL_law 912 = .ok (.bipush 7, 2) := by decide +kernel
theorem dL_law_914 : decode cL_law 914 = .ok (.iadd, 1) := by decide +kernel
theorem dL_law_915 : decode cL_law 915 = .ok (.iaload, 1) := by decide +kernel
theorem dL_law_916 : decode cL_law 916 = .ok (.invokevirtual 116, 3) := by decide +kernel
theorem dL_law_919 : decode cL_law 919 = .ok (.aload_n 2, 1) := by decide +kernel
theorem dL_law_920 : decode cL_law 920 = .ok (.aload_n 0, 1) := by decide +kernel
theorem dL_law_921 : decode cL_law 921 = .ok (.iload_n 3, 1) := by decide +kernel
theorem dL_law_922 : decode cL_law 922 = .ok (.iconst 1, 1) := by decide +kernel
theorem dL_law_923 : decode cL_law 923 = .ok (.iadd, 1) := by decide +kernel
theorem dL_law_924 : decode cL_law 924 = .ok (.iaload, 1) := by decide +kernel
theorem dL_law_925 : decode cL_law 925 = .ok (.aload_n 0, 1) := by decide +kernel
theorem dL_law_926 : decode cL_law 926 = .ok (.iload_n 3, 1) := by decide +kernel
theorem dL_law_927 : decode cL_law 927 = .ok (.iconst 2, 1) := by decide +kernel
theorem dL_law_928 : decode cL_law 928 = .ok (.iadd, 1) := by decide +kernel
theorem dL_law_929 : decode cL_law 929 = .ok (.iaload, 1) := by decide +kernel
theorem dL_law_930 : decode cL_law 930 = .ok (.aload_n 0, 1) := by decide +kernel
theorem dL_law_931 : decode cL_law 931 = .ok (.iload_n 3, 1) := by decide +kernel
theorem dL_law_932 : decode cL_law 932 = .ok (.iconst 3, 1) := by decide +kernel
theorem dL_law_933 : decode cL_law 933 = .ok (.iadd, 1) := by decide +kernel
theorem dL_law_934 : decode cL_law 934 = .ok (.iaload, 1) := by decide +kernel
theorem dL_law_935 : decode cL_law 935 = .ok (.aload_n 0, 1) := by decide +kernel
theorem dL_law_936 : decode cL_law 936 = .ok (.iload_n 3, 1) := by decide +kernel
theorem dL_law_937 : decode cL_law 937 = .ok (.iconst 4, 1) := by decide +kernel
theorem dL_law_938 : decode cL_law 938 = .ok (.iadd, 1) := by decide +kernel
theorem dL_law_939 : decode cL_law 939 = .ok (.iaload, 1) := by decide +kernel
theorem dL_law_940 : decode cL_law 940 = .ok (.aload_n 0, 1) := by decide +kernel
theorem dL_law_941 : decode cL_law 941 = .ok (.iload_n 3, 1) := by decide +kernel
theorem dL_law_942 : decode cL_law 942 = .ok (.iconst 5, 1) := by decide +kernel
theorem dL_law_943 : decode cL_law 943 = .ok (.iadd, 1) := by decide +kernel
theorem dL_law_944 : decode cL_law 944 = .ok (.iaload, 1) := by decide +kernel
theorem dL_law_945 : decode cL_law 945 = .ok (.aload_n 0, 1) := by decide +kernel
theorem dL_law_946 : decode cL_law 946 = .ok (.iload_n 3, 1) := by decide +kernel
theorem dL_law_947 : decode cL_law 947 = .ok (.bipush 6, 2) := by decide +kernel
theorem dL_law_949 : decode cL_law 949 = .ok (.iadd, 1) := by decide +kernel
theorem dL_law_950 : decode cL_law 950 = .ok (.iaload, 1) := by decide +kernel
theorem dL_law_951 : decode cL_law 951 = .ok (.aload_n 0, 1) := by decide +kernel
theorem dL_law_952 : decode cL_law 952 = .ok (.iload_n 3, 1) := by decide +kernel
theorem dL_law_953 : decode cL_law 953 = .ok (.bipush 7, 2) := by decide +kernel
theorem dL_law_955 : decode cL_law 955 = .ok (.iadd, 1) := by decide +kernel
theorem dL_law_956 : decode cL_law 956 = .ok (.iaload, 1) := by decide +kernel
theorem dL_law_957 : decode cL_law 957 = .ok (.invokevirtual 120, 3) := by decide +kernel
theorem dL_law_960 : decode cL_law 960 = .ok (.if_icmp .eq 644, 3) := by decide +kernel
theorem dL_law_963 : decode cL_law 963 = .ok (.iconst 0, 1) := by decide +kernel
theorem dL_law_964 : decode cL_law 964 = .ok (.ireturn, 1) := by decide +kernel
theorem dL_law_965 : decode cL_law 965 = .ok (.aload_n 1, 1) := by decide +kernel
theorem dL_law_966 : decode cL_law 966 = .ok (.aload_n 0, 1) := by decide +kernel
theorem dL_law_967 : decode cL_law 967 = .ok (.iload_n 3, 1) := by decide +kernel
theorem dL_law_968 : decode cL_law 968 = .ok (.iconst 1, 1) := by decide +kernel
theorem dL_law_969 : decode cL_law 969 = .ok (.iadd, 1) := by decide +kernel
theorem dL_law_970 : decode cL_law 970 = .ok (.iaload, 1) := by decide +kernel
theorem dL_law_971 : decode cL_law 971 = .ok (.aload_n 0, 1) := by decide +kernel
theorem dL_law_972 : decode cL_law 972 = .ok (.iload_n 3, 1) := by decide +kernel
theorem dL_law_973 : decode cL_law 973 = .ok (.iconst 2, 1) := by decide +kernel
theorem dL_law_974 : decode cL_law 974 = .ok (.iadd, 1) := by decide +kernel
theorem dL_law_975 : decode cL_law 975 = .ok (.iaload, 1) := by decide +kernel
theorem dL_law_976 : decode cL_law 976 = .ok (.aload_n 0, 1) := by decide +kernel
theorem dL_law_977 : decode cL_law 977 = .ok (.iload_n 3, 1) := by decide +kernel
theorem dL_law_978 : decode cL_law 978 = .ok (.iconst 3, 1) := by decide +kernel
theorem dL_law_979 : decode cL_law 979 = .ok (.iadd, 1) := by decide +kernel
theorem dL_law_980 : decode cL_law 980 = .ok (.iaload, 1) := by decide +kernel
theorem dL_law_981 : decode cL_law 981 = .ok (.aload_n 0, 1) := by decide +kernel
theorem dL_law_982 : decode cL_law 982 = .ok (.iload_n 3, 1) := by decide +kernel
theorem dL_law_983 : decode cL_law 983 = .ok (.iconst 4, 1) := by decide +kernel
theorem dL_law_984 : decode cL_law 984 = .ok (.iadd, 1) := by decide +kernel
theorem dL_law_985 : decode cL_law 985 = .ok (.iaload, 1) := by decide +kernel
theorem dL_law_986 : decode cL_law 986 = .ok (.aload_n 0, 1) := by decide +kernel
theorem dL_law_987 : decode cL_law 987 = .ok (.iload_n 3, 1) := by decide +kernel
theorem dL_law_988 : decode cL_law 988 = .ok (.iconst 5, 1) := by decide +kernel
theorem dL_law_989 : decode cL_law 989 = .ok (.iadd, 1) := by decide +kernel
theorem dL_law_990 : decode cL_law 990 = .ok (.iaload, 1) := by decide +kernel
theorem dL_law_991 : decode cL_law 991 = .ok (.invokevirtual 121, 3) := by decide +kernel
theorem dL_law_994 : decode cL_law 994 = .ok (.aload_n 2, 1) := by decide +kernel
theorem dL_law_995 : decode cL_law 995 = .ok (.aload_n 0, 1) := by decide +kernel
theorem dL_law_996 : decode cL_law 996 = .ok (.iload_n 3, 1) := by decide +kernel
theorem dL_law_997 : decode cL_law 997 = .ok (.iconst 1, 1) := by decide +kernel
theorem dL_law_998 : decode cL_law 998 = .ok (.iadd, 1) := by decide +kernel
theorem dL_law_999 : decode cL_law 999 = .ok (.iaload, 1) := by decide +kernel
theorem dL_law_1000 : decode cL_law 1000 = .ok (.aload_n 0, 1) := by decide +kernel
theorem dL_law_1001 : decode cL_law 1001 = .ok (.iload_n 3, 1) := by decide +kernel
theorem dL_law_1002 : decode cL_law 1002 = .ok (.iconst 2, 1) := by decide +kernel
theorem dL_law_1003 : decode cL_law 1003 = .ok (.iadd, 1) := by decide +kernel
theorem dL_law_1004 : decode cL_law 1004 = .ok (.iaload, 1) := by decide +kernel
theorem dL_law_1005 : decode cL_law 1005 = .ok (.aload_n 0, 1) := by decide +kernel
theorem dL_law_1006 : decode cL_law 1006 = .ok (.iload_n 3, 1) := by decide +kernel
theorem dL_law_1007 : decode cL_law 1007 = .ok (.iconst 3, 1) := by decide +kernel
theorem dL_law_1008 : decode cL_law 1008 = .ok (.iadd, 1) := by decide +kernel
theorem dL_law_1009 : decode cL_law 1009 = .ok (.iaload, 1) := by decide +kernel
theorem dL_law_1010 : decode cL_law 1010 = .ok (.aload_n 0, 1) := by decide +kernel
theorem dL_law_1011 : decode cL_law 1011 = .ok (.iload_n 3, 1) := by decide +kernel
theorem dL_law_1012 : decode cL_law 1012 = .ok (.iconst 4, 1) := by decide +kernel
theorem dL_law_1013 : decode cL_law 1013 = .ok (.iadd, 1) := by decide +kernel
theorem dL_law_1014 : decode cL_law 1014 = .ok (.iaload, 1) := by decide +kernel
theorem dL_law_1015 : decode cL_law 1015 = .ok (.aload_n 0, 1) := by decide +kernel
theorem dL_law_1016 : decode cL_law 1016 = .ok (.iload_n 3, 1) := by decide +kernel
theorem dL_law_1017 : decode cL_law 1017 = .ok (.iconst 5, 1) := by decide +kernel
theorem dL_law_1018 : decode cL_law 1018 = .ok (.iadd, 1) := by decide +kernel
theorem dL_law_1019 : decode cL_law 1019 = .ok (.iaload, 1) := by decide +kernel
theorem dL_law_1020 : decode cL_law 1020 = .ok (.invokevirtual 125, 3) := by decide +kernel
theorem dL_law_1023 : decode cL_law 1023 = .ok (.if_icmp .eq 581, 3) := by decide +kernel
theorem dL_law_1026 : decode cL_law 1026 = .ok (.iconst 0, 1) := by decide +kernel
theorem dL_law_1027 : decode cL_law 1027 = .ok (.ireturn, 1) := by decide +kernel
theorem dL_law_1028 : decode cL_law 1028 = .ok (.aload_n 1, 1) := by decide +kernel
theorem dL_law_1029 : decode cL_law 1029 = .ok (.aload_n 0, 1) := by decide +kernel
theorem dL_law_1030 : decode cL_law 1030 = .ok (.iload_n 3, 1) := by decide +kernel
theorem dL_law_1031 : decode cL_law 1031 = .ok (.iconst 1, 1) := by decide +kernel
theorem dL_law_1032 : decode cL_law 1032 = .ok (.iadd, 1) := by decide +kernel
theorem dL_law_1033 : decode cL_law 1033 = .ok (.iaload, 1) := by decide +kernel
theorem dL_law_1034 : decode cL_law 1034 = .ok (.aload_n 0, 1) := by decide +kernel
theorem dL_law_1035 : decode cL_law 1035 = .ok (.iload_n 3, 1) := by decide +kernel
theorem dL_law_1036 : decode cL_law 1036 = .ok (.iconst 2, 1) := by decide +kernel
theorem dL_law_1037 : decode cL_law 1037 = .ok (.iadd, 1) := by decide +kernel
theorem dL_law_1038 : decode cL_law 1038 = .ok (.iaload, 1) := by decide +kernel
theorem dL_law_1039 : decode cL_law 1039 = .ok (.aload_n 0, 1) := by decide +kernel
theorem dL_law_1040 : decode cL_law 1040 = .ok (.iload_n 3, 1) := by decide +kernel
theorem dL_law_1041 : decode cL_law 1041 = .ok (.iconst 3, 1) := by decide +kernel
theorem dL_law_1042 : decode cL_law 1042 = .ok (.iadd, 1) := by decide +kernel
theorem dL_law_1043 : decode cL_law 1043 = .ok (.iaload, 1) := by decide +kernel
theorem dL_law_1044 : decode cL_law 1044 = .ok (.aload_n 0, 1) := by decide +kernel
theorem dL_law_1045 : decode cL_law 1045 = .ok (.iload_n 3, 1) := by decide +kernel
theorem dL_law_1046 : decode cL_law 1046 = .ok (.iconst 4, 1) := by decide +kernel
theorem dL_law_1047 : decode cL_law 1047 = .ok (.iadd, 1) := by decide +kernel
theorem dL_law_1048 : decode cL_law 1048 = .ok (.iaload, 1) := by decide +kernel
theorem dL_law_1049 : decode cL_law 1049 = .ok (.aload_n 0, 1) := by decide +kernel
theorem dL_law_1050 : decode cL_law 1050 = .ok (.iload_n 3, 1) := by decide +kernel
theorem dL_law_1051 : decode cL_law 1051 = .ok (.iconst 5, 1) := by decide +kernel
theorem dL_law_1052 : decode cL_law 1052 = .ok (.iadd, 1) := by decide +kernel
theorem dL_law_1053 : decode cL_law 1053 = .ok (.iaload, 1) := by decide +kernel
theorem dL_law_1054 : decode cL_law 1054 = .ok (.aload_n 0, 1) := by decide +kernel
theorem dL_law_1055 : decode cL_law 1055 = .ok (.iload_n 3, 1) := by decide +kernel
theorem dL_law_1056 : decode cL_law 1056 = .ok (.bipush 6, 2) := by decide +kernel
theorem dL_law_1058 : decode cL_law 1058 = .ok (.iadd, 1) := by decide +kernel
theorem dL_law_1059 : decode cL_law 1059 = .ok (.iaload, 1) := by decide +kernel
theorem dL_law_1060 : decode cL_law 1060 = .ok (.invokevirtual 126, 3) := by decide +kernel
theorem dL_law_1063 : decode cL_law 1063 = .ok (.aload_n 2, 1) := by decide +kernel
theorem dL_law_1064 : decode cL_law 1064 = .ok (.aload_n 0, 1) := by decide +kernel
theorem dL_law_1065 : decode cL_law 1065 = .ok (.iload_n 3, 1) := by decide +kernel
theorem dL_law_1066 : decode cL_law 1066 = .ok (.iconst 1, 1) := by decide +kernel
theorem dL_law_1067 : decode cL_law 1067 = .ok (.iadd, 1) := by decide +kernel
theorem dL_law_1068 : decode cL_law 1068 = .ok (.iaload, 1) := by decide +kernel
theorem dL_law_1069 : decode cL_law 1069 = .ok (.aload_n 0, 1) := by decide +kernel
theorem dL_law_1070 : decode cL_law 1070 = .ok (.iload_n 3, 1) := by decide +kernel
theorem dL_law_1071 : decode cL_law 1071 = .ok (.iconst 2, 1) := by decide +kernel
theorem dL_law_1072 : decode cL_law 1072 = .ok (.iadd, 1) := by decide +kernel
theorem dL_law_1073 : decode cL_law 1073 = .ok (.iaload, 1) := by decide +kernel
theorem dL_law_1074 : decode cL_law 1074 = .ok (.aload_n 0, 1) := by decide +kernel
theorem dL_law_1075 : decode cL_law 1075 = .ok (.iload_n 3, 1) := by decide +kernel
theorem dL_law_1076 : decode cL_law 1076 = .ok (.iconst 3, 1) := by decide +kernel
theorem dL_law_1077 : decode cL_law 1077 = .ok (.iadd, 1) := by decide +kernel
theorem dL_law_1078 : decode cL_law 1078 = .ok (.iaload, 1) := by decide +kernel
theorem dL_law_1079 : decode cL_law 1079 = .ok (.aload_n 0, 1) := by decide +kernel
theorem dL_law_1080 : decode cL_law 1080 = .ok (.iload_n 3, 1) := by decide +kernel
theorem dL_law_1081 : decode cL_law 1081 = .ok (.iconst 4, 1) := by decide +kernel
theorem dL_law_1082 : decode cL_law 1082 = .ok (.iadd, 1) := by decide +kernel
theorem dL_law_1083 : decode cL_law 1083 = .ok (.iaload, 1) := by decide +kernel
theorem dL_law_1084 : decode cL_law 1084 = .ok (.aload_n 0, 1) := by decide +kernel
theorem dL_law_1085 : decode cL_law 1085 = .ok (.iload_n 3, 1) := by decide +kernel
theorem dL_law_1086 : decode cL_law 1086 = .ok (.iconst 5, 1) := by decide +kernel
theorem dL_law_1087 : decode cL_law 1087 = .ok (.iadd, 1) := by decide +kernel
theorem dL_law_1088 : decode cL_law 1088 = .ok (.iaload, 1) := by decide +kernel
theorem dL_law_1089 : decode cL_law 1089 = .ok (.aload_n 0, 1) := by decide +kernel
theorem dL_law_1090 : decode cL_law 1090 = .ok (.iload_n 3, 1) := by decide +kernel
theorem dL_law_1091 : decode cL_law 1091 = .ok (.bipush 6, 2) := by decide +kernel
theorem dL_law_1093 : decode cL_law 1093 = .ok (.iadd, 1) := by decide +kernel
theorem dL_law_1094 : decode cL_law 1094 = .ok (.iaload, 1) := by decide +kernel
theorem dL_law_1095 : decode cL_law 1095 = .ok (.invokevirtual 130, 3) := by decide +kernel
theorem dL_law_1098 : decode cL_law 1098 = .ok (.if_icmp .eq 506, 3) := by decide +kernel
theorem dL_law_1101 : decode cL_law 1101 = .ok (.iconst 0, 1) := by decide +kernel
theorem dL_law_1102 : decode cL_law 1102 = .ok (.ireturn, 1) := by decide +kernel
theorem dL_law_1103 : decode cL_law 1103 = .ok (.aload_n 1, 1) := by decide +kernel
theorem dL_law_1104 : decode cL_law 1104 = .ok (.aload_n 0, 1) := by decide +kernel
theorem dL_law_1105 : decode cL_law 1105 = .ok (.iload_n 3, 1) := by decide +kernel
theorem dL_law_1106 : decode cL_law 1106 = .ok (.iconst 1, 1) := by decide +kernel
theorem dL_law_1107 : decode cL_law 1107 = .ok (.iadd, 1) := by decide +kernel
theorem dL_law_1108 : decode cL_law 1108 = .ok (.iaload, 1) := by decide +kernel
theorem dL_law_1109 : decode cL_law 1109 = .ok (.aload_n 0, 1) := by decide +kernel
theorem dL_law_1110 : decode cL_law 1110 = .ok (.iload_n 3, 1) := by decide +kernel
theorem dL_law_1111 : decode cL_law 1111 = .ok (.iconst 2, 1) := by decide +kernel
theorem dL_law_1112 : decode cL_law 1112 = .ok (.iadd, 1) := by decide +kernel
theorem dL_law_1113 : decode cL_law 1113 = .ok (.iaload, 1) := by decide +kernel
theorem dL_law_1114 : decode cL_law 1114 = .ok (.invokevirtual 131, 3) := by decide +kernel
theorem dL_law_1117 : decode cL_law 1117 = .ok (.aload_n 2, 1) := by decide +kernel
theorem dL_law_1118 : decode cL_law 1118 = .ok (.aload_n 0, 1) := by decide +kernel
theorem dL_law_1119 : decode cL_law 1119 = .ok (.iload_n 3, 1) := by decide +kernel
theorem dL_law_1120 : decode cL_law 1120 = .ok (.iconst 1, 1) := by decide +kernel
theorem dL_law_1121 : decode cL_law 1121 = .ok (.iadd, 1) := by decide +kernel
theorem dL_law_1122 : decode cL_law 1122 = .ok (.iaload, 1) := by decide +kernel
theorem dL_law_1123 : decode cL_law 1123 = .ok (.aload_n 0, 1) := by decide +kernel
theorem dL_law_1124 : decode cL_law 1124 = .ok (.iload_n 3, 1) := by decide +kernel
theorem dL_law_1125 : decode cL_law 1125 = .ok (.iconst 2, 1) := by decide +kernel
theorem dL_law_1126 : decode cL_law 1126 = .ok (.iadd, 1) := by decide +kernel
theorem dL_law_1127 : decode cL_law 1127 = .ok (.iaload, 1) := by decide +kernel
theorem dL_law_1128 : decode cL_law 1128 = .ok (.invokevirtual 134, 3) := by decide +kernel
theorem dL_law_1131 : decode cL_law 1131 = .ok (.if_icmp .eq 473, 3) := by decide +kernel
theorem dL_law_1134 : decode cL_law 1134 = .ok (.iconst 0, 1) := by decide +kernel
theorem dL_law_1135 : decode cL_law 1135 = .ok (.ireturn, 1) := by decide +kernel
theorem dL_law_1136 : decode cL_law 1136 = .ok (.aload_n 1, 1) := by decide +kernel
theorem dL_law_1137 : decode cL_law 1137 = .ok (.aload_n 0, 1) := by decide +kernel
theorem dL_law_1138 : decode cL_law 1138 = .ok (.iload_n 3, 1) := by decide +kernel
theorem dL_law_1139 : decode cL_law 1139 = .ok (.iconst 1, 1) := by decide +kernel
theorem dL_law_1140 : decode cL_law 1140 = .ok (.iadd, 1) := by decide +kernel
theorem dL_law_1141 : decode cL_law 1141 = .ok (.iaload, 1) := by decide +kernel
theorem dL_law_1142 : decode cL_law 1142 = .ok (.invokevirtual 135, 3) := by decide +kernel
theorem dL_law_1145 : decode cL_law 1145 = .ok (.aload_n 2, 1) := by decide +kernel
theorem dL_law_1146 : decode cL_law 1146 = .ok (.aload_n 0, 1) := by decide +kernel
theorem dL_law_1147 : decode cL_law 1147 = .ok (.iload_n 3, 1) := by decide +kernel
theorem dL_law_1148 : decode cL_law 1148 = .ok (.iconst 1, 1) := by decide +kernel
theorem dL_law_1149 : decode cL_law 1149 = .ok (.iadd, 1) := by decide +kernel
theorem dL_law_1150 : decode cL_law 1150 = .ok (.iaload, 1) := by decide +kernel
theorem dL_law_1151 : decode cL_law 1151 = .ok (.invokevirtual 138, 3) := by decide +kernel
theorem dL_law_1154 : decode cL_law 1154 = .ok (.if_icmp .eq 450, 3) := by decide +kernel
theorem dL_law_1157 : decode cL_law 1157 = .ok (.iconst 0, 1) := by decide +kernel
theorem dL_law_1158 : decode cL_law 1158 = .ok (.ireturn, 1) := by decide +kernel
theorem dL_law_1159 : decode cL_law 1159 = .ok (.aload_n 1, 1) := by decide +kernel
theorem dL_law_1160 : decode cL_law 1160 = .ok (.aload_n 0, 1) := by decide +kernel
theorem dL_law_1161 : decode cL_law 1161 = .ok (.iload_n 3, 1) := by decide +kernel
theorem dL_law_1162 : decode cL_law 1162 = .ok (.iconst 1, 1) := by decide +kernel
theorem dL_law_1163 : decode cL_law 1163 = .ok (.iadd, 1) := by decide +kernel
theorem dL_law_1164 : decode cL_law 1164 = .ok (.iaload, 1) := by decide +kernel
theorem dL_law_1165 : decode cL_law 1165 = .ok (.aload_n 0, 1) := by decide +kernel
theorem dL_law_1166 : decode cL_law 1166 = .ok (.iload_n 3, 1) := by decide +kernel
theorem dL_law_1167 : decode cL_law 1167 = .ok (.iconst 2, 1) := by decide +kernel
theorem dL_law_1168 : decode cL_law 1168 = .ok (.iadd, 1) := by decide +kernel
theorem dL_law_1169 : decode cL_law 1169 = .ok (.iaload, 1) := by decide +kernel
theorem dL_law_1170 : decode cL_law 1170 = .ok (.aload_n 0, 1) := by decide +kernel
theorem dL_law_1171 : decode cL_law 1171 = .ok (.iload_n 3, 1) := by decide +kernel
theorem dL_law_1172 : decode cL_law 1172 = .ok (.iconst 3, 1) := by decide +kernel
theorem dL_law_1173 : decode cL_law 1173 = .ok (.iadd, 1) := by decide +kernel
theorem dL_law_1174 : decode cL_law 1174 = .ok (.iaload, 1) := by decide +kernel
theorem dL_law_1175 : decode cL_law 1175 = .ok (.aload_n 0, 1) := by decide +kernel
theorem dL_law_1176 : decode cL_law 1176 = .ok (.iload_n 3, 1) := by decide +kernel
theorem dL_law_1177 : decode cL_law 1177 = .ok (.iconst 4, 1) := by decide +kernel
theorem dL_law_1178 : decode cL_law 1178 = .ok (.iadd, 1) := by decide +kernel
theorem dL_law_1179 : decode cL_law 1179 = .ok (.iaload, 1) := by decide +kernel
theorem dL_law_1180 : decode cL_law 1180 = .ok (.invokevirtual 139, 3) := by decide +kernel
theorem dL_law_1183 : decode cL_law 1183 = .ok (.aload_n 2, 1) := by decide +kernel
theorem dL_law_1184 : decode cL_law 1184 = .ok (.aload_n 0, 1) := by decide +kernel
theorem dL_law_1185 : decode cL_law 1185 = .ok (.iload_n 3, 1) := by decide +kernel
theorem dL_law_1186 : decode cL_law 1186 = .ok (.iconst 1, 1) := by decide +kernel
theorem dL_law_1187 : decode cL_law 1187 = .ok (.iadd, 1) := by decide +kernel
theorem dL_law_1188 : decode cL_law 1188 = .ok (.iaload, 1) := by decide +kernel
theorem dL_law_1189 : decode cL_law 1189 = .ok (.aload_n 0, 1) := by decide +kernel
theorem dL_law_1190 : decode cL_law 1190 = .ok (.iload_n 3, 1) := by decide +kernel
theorem dL_law_1191 : decode cL_law 1191 = .ok (.iconst 2, 1) := by decide +kernel
theorem dL_law_1192 : decode cL_law 1192 = .ok (.iadd, 1) := by decide +kernel
theorem dL_law_1193 : decode cL_law 1193 = .ok (.iaload, 1) := by decide +kernel
theorem dL_law_1194 : decode cL_law 1194 = .ok (.aload_n 0, 1) := by decide +kernel
theorem dL_law_1195 : decode cL_law 1195 = .ok (.iload_n 3, 1) := by decide +kernel
theorem dL_law_1196 : decode cL_law 1196 = .ok (.iconst 3, 1) := by decide +kernel
theorem dL_law_1197 : decode cL_law 1197 = .ok (.iadd, 1) := by decide +kernel
theorem dL_law_1198 : decode cL_law 1198 = .ok (.iaload, 1) := by decide +kernel
theorem dL_law_1199 : decode cL_law 1199 = .ok (.aload_n 0, 1) := by decide +kernel
theorem dL_law_1200 : decode cL_law 1200 = .ok (.iload_n 3, 1) := by decide +kernel
theorem dL_law_1201 : decode cL_law 1201 = .ok (.iconst 4, 1) := by decide +kernel
theorem dL_law_1202 : decode cL_law 1202 = .ok (.iadd, 1) := by decide +kernel
theorem dL_law_1203 : decode cL_law 1203 = .ok (.iaload, 1) := by decide +kernel
theorem dL_law_1204 : decode cL_law 1204 = .ok (.invokevirtual 143, 3) := by decide +kernel
theorem dL_law_1207 : decode cL_law 1207 = .ok (.if_icmp .eq 397, 3) := by decide +kernel
theorem dL_law_1210 : decode cL_law 1210 = .ok (.iconst 0, 1) := by decide +kernel
theorem dL_law_1211 : decode cL_law 1211 = .ok (.ireturn, 1) := by decide +kernel
theorem dL_law_1212 : decode cL_law 1212 = .ok (.aload_n 1, 1) := by decide +kernel
theorem dL_law_1213 : decode cL_law 1213 = .ok (.aload_n 0, 1) := by decide +kernel
theorem dL_law_1214 : decode cL_law 1214 = .ok (.iload_n 3, 1) := by decide +kernel
theorem dL_law_1215 : decode cL_law 1215 = .ok (.iconst 1, 1) := by decide +kernel
theorem dL_law_1216 : decode cL_law 1216 = .ok (.iadd, 1) := by decide +kernel
theorem dL_law_1217 : decode cL_law 1217 = .ok (.iaload, 1) := by decide +kernel
theorem dL_law_1218 : decode cL_law 1218 = .ok (.aload_n 0, 1) := by decide +kernel
theorem dL_law_1219 : decode cL_law 1219 = .ok (.iload_n 3, 1) := by decide +kernel
theorem dL_law_1220 : decode cL_law 1220 = .ok (.iconst 2, 1) := by decide +kernel
theorem dL_law_1221 : decode cL_law 1221 = .ok (.iadd, 1) := by decide +kernel
theorem dL_law_1222 : decode cL_law 1222 = .ok (.iaload, 1) := by decide +kernel
theorem dL_law_1223 : decode cL_law 1223 = .ok (.aload_n 0, 1) := by decide +kernel
theorem dL_law_1224 : decode cL_law 1224 = .ok (.iload_n 3, 1) := by decide +kernel
theorem dL_law_1225 : decode cL_law 1225 = .ok (.iconst 3, 1) := by decide +kernel
theorem dL_law_1226 : decode cL_law 1226 = .ok (.iadd, 1) := by decide +kernel
theorem dL_law_1227 : decode cL_law 1227 = .ok (.iaload, 1) := by decide +kernel
theorem dL_law_1228 : decode cL_law 1228 = .ok (.aload_n 0, 1) := by decide +kernel
theorem dL_law_1229 : decode cL_law 1229 = .ok (.iload_n 3, 1) := by decide +kernel
theorem dL_law_1230 : decode cL_law 1230 = .ok (.iconst 4, 1) := by decide +kernel
theorem dL_law_1231 : decode cL_law 1231 = .ok (.iadd, 1) := by decide +kernel
theorem dL_law_1232 : decode cL_law 1232 = .ok (.iaload, 1) := by decide +kernel
theorem dL_law_1233 : decode cL_law 1233 = .ok (.invokevirtual 144, 3) := by decide +kernel
theorem dL_law_1236 : decode cL_law 1236 = .ok (.aload_n 2, 1) := by decide +kernel
theorem dL_law_1237 : decode cL_law 1237 = .ok (.aload_n 0, 1) := by decide +kernel
theorem dL_law_1238 : decode cL_law 1238 = .ok (.iload_n 3, 1) := by decide +kernel
theorem dL_law_1239 : decode cL_law 1239 = .ok (.iconst 1, 1) := by decide +kernel
theorem dL_law_1240 : decode cL_law 1240 = .ok (.iadd, 1) := by decide +kernel
theorem dL_law_1241 : decode cL_law 1241 = .ok (.iaload, 1) := by decide +kernel
theorem dL_law_1242 : decode cL_law 1242 = .ok (.aload_n 0, 1) := by decide +kernel
theorem dL_law_1243 : decode cL_law 1243 = .ok (.iload_n 3, 1) := by decide +kernel
theorem dL_law_1244 : decode cL_law 1244 = .ok (.iconst 2, 1) := by decide +kernel
theorem dL_law_1245 : decode cL_law 1245 = .ok (.iadd, 1) := by decide +kernel
theorem dL_law_1246 : decode cL_law 1246 = .ok (.iaload, 1) := by decide +kernel
theorem dL_law_1247 : decode cL_law 1247 = .ok (.aload_n 0, 1) := by decide +kernel
theorem dL_law_1248 : decode cL_law 1248 = .ok (.iload_n 3, 1) := by decide +kernel
theorem dL_law_1249 : decode cL_law 1249 = .ok (.iconst 3, 1) := by decide +kernel
theorem dL_law_1250 : decode cL_law 1250 = .ok (.iadd, 1) := by decide +kernel
theorem dL_law_1251 : decode cL_law 1251 = .ok (.iaload, 1) := by decide +kernel
theorem dL_law_1252 : decode cL_law 1252 = .ok (.aload_n 0, 1) := by decide +kernel
theorem dL_law_1253 : decode cL_law 1253 = .ok (.iload_n 3, 1) := by decide +kernel
theorem dL_law_1254 : decode cL_law 1254 = .ok (.iconst 4, 1) := by decide +kernel
theorem dL_law_1255 : decode cL_law 1255 = .ok (.iadd, 1) := by decide +kernel
theorem dL_law_1256 : decode cL_law 1256 = .ok (.iaload, 1) := by decide +kernel
theorem dL_law_1257 : decode cL_law 1257 = .ok (.invokevirtual 147, 3) := by decide +kernel
theorem dL_law_1260 : decode cL_law 1260 = .ok (.if_icmp .eq 344, 3) := by decide +kernel
theorem dL_law_1263 : decode cL_law 1263 = .ok (.iconst 0, 1) := by decide +kernel
theorem dL_law_1264 : decode cL_law 1264 = .ok (.ireturn, 1) := by decide +kernel
theorem dL_law_1265 : decode cL_law 1265 = .ok (.aload_n 1, 1) := by decide +kernel
theorem dL_law_1266 : decode cL_law 1266 = .ok (.aload_n 0, 1) := by decide +kernel
theorem dL_law_1267 : decode cL_law 1267 = .ok (.iload_n 3, 1) := by decide +kernel
theorem dL_law_1268 : decode cL_law 1268 = .ok (.iconst 1, 1) := by decide +kernel
theorem dL_law_1269 : decode cL_law 1269 = .ok (.iadd, 1) := by decide +kernel
theorem dL_law_1270 : decode cL_law 1270 = .ok (.iaload, 1) := by decide +kernel
theorem dL_law_1271 : decode cL_law 1271 = .ok (.aload_n 0, 1) := by decide +kernel
theorem dL_law_1272 : decode cL_law 1272 = .ok (.iload_n 3, 1) := by decide +kernel
theorem dL_law_1273 : decode cL_law 1273 = .ok (.iconst 2, 1) := by decide +kernel
theorem dL_law_1274 : decode cL_law 1274 = .ok (.iadd, 1) := by decide +kernel
theorem dL_law_1275 : decode cL_law 1275 = .ok (.iaload, 1) := by decide +kernel
theorem dL_law_1276 : decode cL_law 1276 = .ok (.aload_n 0, 1) := by decide +kernel
theorem dL_law_1277 : decode cL_law 1277 = .ok (.iload_n 3, 1) := by decide +kernel
theorem dL_law_1278 : decode cL_law 1278 = .ok (.iconst 3, 1) := by decide +kernel
theorem dL_law_1279 : decode cL_law 1279 = .ok (.iadd, 1) := by decide +kernel
theorem dL_law_1280 : decode cL_law 1280 = .ok (.iaload, 1) := by decide +kernel
theorem dL_law_1281 : decode cL_law 1281 = .ok (.ifCond .eq 7, 3) := by decide +kernel
theorem dL_law_1284 : decode cL_law 1284 = .ok (.iconst 1, 1) := by decide +kernel
theorem dL_law_1285 : decode cL_law 1285 = .ok (.goto 4, 3) := by decide +kernel
theorem dL_law_1288 : decode cL_law 1288 = .ok (.iconst 0, 1) := by decide +kernel
theorem dL_law_1289 : decode cL_law 1289 = .ok (.invokevirtual 148, 3) := by decide +kernel
theorem dL_law_1292 : decode cL_law 1292 = .ok (.aload_n 2, 1) := by decide +kernel
theorem dL_law_1293 : decode cL_law 1293 = .ok (.aload_n 0, 1) := by decide +kernel
theorem dL_law_1294 : decode cL_law 1294 = .ok (.iload_n 3, 1) := by decide +kernel
theorem dL_law_1295 : decode cL_law 1295 = .ok (.iconst 1, 1) := by decide +kernel
theorem dL_law_1296 : decode cL_law 1296 = .ok (.iadd, 1) := by decide +kernel
theorem dL_law_1297 : decode cL_law 1297 = .ok (.iaload, 1) := by decide +kernel
theorem dL_law_1298 : decode cL_law 1298 = .ok (.aload_n 0, 1) := by decide +kernel
theorem dL_law_1299 : decode cL_law 1299 = .ok (.iload_n 3, 1) := by decide +kernel
theorem dL_law_1300 : decode cL_law 1300 = .ok (.iconst 2, 1) := by decide +kernel
theorem dL_law_1301 : decode cL_law 1301 = .ok (.iadd, 1) := by decide +kernel
theorem dL_law_1302 : decode cL_law 1302 = .ok (.iaload, 1) := by decide +kernel
theorem dL_law_1303 : decode cL_law 1303 = .ok (.aload_n 0, 1) := by decide +kernel
theorem dL_law_1304 : decode cL_law 1304 = .ok (.iload_n 3, 1) := by decide +kernel
theorem dL_law_1305 : decode cL_law 1305 = .ok (.iconst 3, 1) := by decide +kernel
theorem dL_law_1306 : decode cL_law 1306 = .ok (.iadd, 1) := by decide +kernel
theorem dL_law_1307 : decode cL_law 1307 = .ok (.iaload, 1) := by decide +kernel
theorem dL_law_1308 : decode cL_law 1308 = .ok (.ifCond .eq 7, 3) := by decide +kernel
theorem dL_law_1311 : decode cL_law 1311 = .ok (.iconst 1, 1) := by decide +kernel
theorem dL_law_1312 : decode cL_law 1312 = .ok (.goto 4, 3) := by decide +kernel
theorem dL_law_1315 : decode cL_law 1315 = .ok (.iconst 0, 1) := by decide +kernel
theorem dL_law_1316 : decode cL_law 1316 = .ok (.invokevirtual 152, 3) := by decide +kernel
theorem dL_law_1319 : decode cL_law 1319 = .ok (.if_icmp .eq 285, 3) := by decide +kernel
theorem dL_law_1322 : decode cL_law 1322 = .ok (.iconst 0, 1) := by decide +kernel
theorem dL_law_1323 : decode cL_law 1323 = .ok (.ireturn, 1) := by decide +kernel
theorem dL_law_1324 : decode cL_law 1324 = .ok (.aload_n 1, 1) := by decide +kernel
theorem dL_law_1325 : decode cL_law 1325 = .ok (.invokevirtual 153, 3) := by decide +kernel
theorem dL_law_1328 : decode cL_law 1328 = .ok (.aload_n 2, 1) := by decide +kernel
theorem dL_law_1329 : decode cL_law 1329 = .ok (.invokevirtual 156, 3) := by decide +kernel
theorem dL_law_1332 : decode cL_law 1332 = .ok (.if_icmp .eq 272, 3) := by decide +kernel
theorem dL_law_1335 : decode cL_law 1335 = .ok (.iconst 0, 1) := by decide +kernel
theorem dL_law_1336 : decode cL_law 1336 = .ok (.ireturn, 1) := by decide +kernel
theorem dL_law_1337 : decode cL_law 1337 = .ok (.aload_n 1, 1) := by decide +kernel
theorem dL_law_1338 : decode cL_law 1338 = .ok (.aload_n 0, 1) := by decide +kernel
theorem dL_law_1339 : decode cL_law 1339 = .ok (.iload_n 3, 1) := by decide +kernel
theorem dL_law_1340 : decode cL_law 1340 = .ok (.iconst 1, 1) := by decide +kernel
theorem dL_law_1341 : decode cL_law 1341 = .ok (.iadd, 1) := by decide +kernel
theorem dL_law_1342 : decode cL_law 1342 = .ok (.iaload, 1) := by decide +kernel
theorem dL_law_1343 : decode cL_law 1343 = .ok (.aload_n 0, 1) := by decide +kernel
theorem dL_law_1344 : decode cL_law 1344 = .ok (.iload_n 3, 1) := by decide +kernel
theorem dL_law_1345 : decode cL_law 1345 = .ok (.iconst 2, 1) := by decide +kernel
theorem dL_law_1346 : decode cL_law 1346 = .ok (.iadd, 1) := by decide +kernel
theorem dL_law_1347 : decode cL_law 1347 = .ok (.iaload, 1) := by decide +kernel
theorem dL_law_1348 : decode cL_law 1348 = .ok (.invokevirtual 157, 3) := by decide +kernel
theorem dL_law_1351 : decode cL_law 1351 = .ok (.aload_n 2, 1) := by decide +kernel
theorem dL_law_1352 : decode cL_law 1352 = .ok (.aload_n 0, 1) := by decide +kernel
theorem dL_law_1353 : decode cL_law 1353 = .ok (.iload_n 3, 1) := by decide +kernel
theorem dL_law_1354 : decode cL_law 1354 = .ok (.iconst 1, 1) := by decide +kernel
theorem dL_law_1355 : decode cL_law 1355 = .ok (.iadd, 1) := by decide +kernel
theorem dL_law_1356 : decode cL_law 1356 = .ok (.iaload, 1) := by decide +kernel
theorem dL_law_1357 : decode cL_law 1357 = .ok (.aload_n 0, 1) := by decide +kernel
theorem dL_law_1358 : decode cL_law 1358 = .ok (.iload_n 3, 1) := by decide +kernel
theorem dL_law_1359 : decode cL_law 1359 = .ok (.iconst 2, 1) := by decide +kernel
theorem dL_law_1360 : decode cL_law 1360 = .ok (.iadd, 1) := by decide +kernel
theorem dL_law_1361 : decode cL_law 1361 = .ok (.iaload, 1) := by decide +kernel
theorem dL_law_1362 : decode cL_law 1362 = .ok (.invokevirtual 160, 3) := by decide +kernel
theorem dL_law_1365 : decode cL_law 1365 = .ok (.if_icmp .eq 239, 3) := by decide +kernel
theorem dL_law_1368 : decode cL_law 1368 = .ok (.iconst 0, 1) := by decide +kernel
theorem dL_law_1369 : decode cL_law 1369 = .ok (.ireturn, 1) := by decide +kernel
theorem dL_law_1370 : decode cL_law 1370 = .ok (.aload_n 1, 1) := by decide +kernel
theorem dL_law_1371 : decode cL_law 1371 = .ok (.invokevirtual 161, 3) := by decide +kernel
theorem dL_law_1374 : decode cL_law 1374 = .ok (.aload_n 2, 1) := by decide +kernel
theorem dL_law_1375 : decode cL_law 1375 = .ok (.invokevirtual 164, 3) := by decide +kernel
theorem dL_law_1378 : decode cL_law 1378 = .ok (.if_icmp .eq 226, 3) := by decide +kernel
theorem dL_law_1381 : decode cL_law 1381 = .ok (.iconst 0, 1) := by decide +kernel
theorem dL_law_1382 : decode cL_law 1382 = .ok (.ireturn, 1) := by decide +kernel
theorem dL_law_1383 : decode cL_law 1383 = .ok (.aload_n 1, 1) := by decide +kernel
theorem dL_law_1384 : decode cL_law 1384 = .ok (.aload_n 0, 1) := by decide +kernel
theorem dL_law_1385 : decode cL_law 1385 = .ok (.iload_n 3, 1) := by decide +kernel
theorem dL_law_1386 : decode cL_law 1386 = .ok (.iconst 1, 1) := by decide +kernel
theorem dL_law_1387 : decode cL_law 1387 = .ok (.iadd, 1) := by decide +kernel
theorem dL_law_1388 : decode cL_law 1388 = .ok (.iaload, 1) := by decide +kernel
theorem dL_law_1389 : decode cL_law 1389 = .ok (.invokevirtual 165, 3) := by decide +kernel
theorem dL_law_1392 : decode cL_law 1392 = .ok (.aload_n 2, 1) := by decide +kernel
theorem dL_law_1393 : decode cL_law 1393 = .ok (.aload_n 0, 1) := by decide +kernel
theorem dL_law_1394 : decode cL_law 1394 = .ok (.iload_n 3, 1) := by decide +kernel
theorem dL_law_1395 : decode cL_law 1395 = .ok (.iconst 1, 1) := by decide +kernel
theorem dL_law_1396 : decode cL_law 1396 = .ok (.iadd, 1) := by decide +kernel
theorem dL_law_1397 : decode cL_law 1397 = .ok (.iaload, 1) := by decide +kernel
theorem dL_law_1398 : decode cL_law 1398 = .ok (.invokevirtual 168, 3) := by decide +kernel
theorem dL_law_1401 : decode cL_law 1401 = .ok (.if_icmp .eq 203, 3) := by decide +kernel
theorem dL_law_1404 : decode cL_law 1404 = .ok (.iconst 0, 1) := by decide +kernel
theorem dL_law_1405 : decode cL_law 1405 = .ok (.ireturn, 1) := by decide +kernel
theorem dL_law_1406 : decode cL_law 1406 = .ok (.aload_n 1, 1) := by decide +kernel
theorem dL_law_1407 : decode cL_law 1407 = .ok (.aload_n 0, 1) := by decide +kernel
theorem dL_law_1408 : decode cL_law 1408 = .ok (.iload_n 3, 1) := by decide +kernel
theorem dL_law_1409 : decode cL_law 1409 = .ok (.iconst 1, 1) := by decide +kernel
theorem dL_law_1410 : decode cL_law 1410 = .ok (.iadd, 1) := by decide +kernel
theorem dL_law_1411 : decode cL_law 1411 = .ok (.iaload, 1) := by decide +kernel
theorem dL_law_1412 : decode cL_law 1412 = .ok (.invokevirtual 169, 3) := by decide +kernel
theorem dL_law_1415 : decode cL_law 1415 = .ok (.aload_n 2, 1) := by decide +kernel
theorem dL_law_1416 : decode cL_law 1416 = .ok (.aload_n 0, 1) := by decide +kernel
theorem dL_law_1417 : decode cL_law 1417 = .ok (.iload_n 3, 1) := by decide +kernel
theorem dL_law_1418 : decode cL_law 1418 = .ok (.iconst 1, 1) := by decide +kernel
theorem dL_law_1419 : decode cL_law 1419 = .ok (.iadd, 1) := by decide +kernel
theorem dL_law_1420 : decode cL_law 1420 = .ok (.iaload, 1) := by decide +kernel
theorem dL_law_1421 : decode cL_law 1421 = .ok (.invokevirtual 172, 3) := by decide +kernel
theorem dL_law_1424 : decode cL_law 1424 = .ok (.if_icmp .eq 180, 3) := by decide +kernel
theorem dL_law_1427 : decode cL_law 1427 = .ok (.iconst 0, 1) := by decide +kernel
theorem dL_law_1428 : decode cL_law 1428 = .ok (.ireturn, 1) := by decide +kernel
theorem dL_law_1429 : decode cL_law 1429 = .ok (.aload_n 1, 1) := by decide +kernel
theorem dL_law_1430 : decode cL_law 1430 = .ok (.aload_n 0, 1) := by decide +kernel
theorem dL_law_1431 : decode cL_law 1431 = .ok (.iload_n 3, 1) := by decide +kernel
theorem dL_law_1432 : decode cL_law 1432 = .ok (.iconst 1, 1) := by decide +kernel
theorem dL_law_1433 : decode cL_law 1433 = .ok (.iadd, 1) := by decide +kernel
theorem dL_law_1434 : decode cL_law 1434 = .ok (.iaload, 1) := by decide +kernel
theorem dL_law_1435 : decode cL_law 1435 = .ok (.aload_n 0, 1) := by decide +kernel
theorem dL_law_1436 : decode cL_law 1436 = .ok (.iload_n 3, 1) := by decide +kernel
theorem dL_law_1437 : decode cL_law 1437 = .ok (.iconst 2, 1) := by decide +kernel
theorem dL_law_1438 : decode cL_law 1438 = .ok (.iadd, 1) := by decide +kernel
theorem dL_law_1439 : decode cL_law 1439 = .ok (.iaload, 1) := by decide +kernel
theorem dL_law_1440 : decode cL_law 1440 = .ok (.aload_n 0, 1) := by decide +kernel
theorem dL_law_1441 : decode cL_law 1441 = .ok (.iload_n 3, 1) := by decide +kernel
theorem dL_law_1442 : decode cL_law 1442 = .ok (.iconst 3, 1) := by decide +kernel
theorem dL_law_1443 : decode cL_law 1443 = .ok (.iadd, 1) := by decide +kernel
theorem dL_law_1444 : decode cL_law 1444 = .ok (.iaload, 1) := by decide +kernel
theorem dL_law_1445 : decode cL_law 1445 = .ok (.invokevirtual 173, 3) := by decide +kernel
theorem dL_law_1448 : decode cL_law 1448 = .ok (.aload_n 2, 1) := by decide +kernel
theorem dL_law_1449 : decode cL_law 1449 = .ok (.aload_n 0, 1) := by decide +kernel
theorem dL_law_1450 : decode cL_law 1450 = .ok (.iload_n 3, 1) := by decide +kernel
theorem dL_law_1451 : decode cL_law 1451 = .ok (.iconst 1, 1) := by decide +kernel
theorem dL_law_1452 : decode cL_law 1452 = .ok (.iadd, 1) := by decide +kernel
theorem dL_law_1453 : decode cL_law 1453 = .ok (.iaload, 1) := by decide +kernel
theorem dL_law_1454 : decode cL_law 1454 = .ok (.aload_n 0, 1) := by decide +kernel
theorem dL_law_1455 : decode cL_law 1455 = .ok (.iload_n 3, 1) := by decide +kernel
theorem dL_law_1456 : decode cL_law 1456 = .ok (.iconst 2, 1) := by decide +kernel
theorem dL_law_1457 : decode cL_law 1457 = .ok (.iadd, 1) := by decide +kernel
theorem dL_law_1458 : decode cL_law 1458 = .ok (.iaload, 1) := by decide +kernel
theorem dL_law_1459 : decode cL_law 1459 = .ok (.aload_n 0, 1) := by decide +kernel
theorem dL_law_1460 : decode cL_law 1460 = .ok (.iload_n 3, 1) := by decide +kernel
theorem dL_law_1461 : decode cL_law 1461 = .ok (.iconst 3, 1) := by decide +kernel
theorem dL_law_1462 : decode cL_law 1462 = .ok (.iadd, 1) := by decide +kernel
theorem dL_law_1463 : decode cL_law 1463 = .ok (.iaload, 1) := by decide +kernel
theorem dL_law_1464 : decode cL_law 1464 = .ok (.invokevirtual 176, 3) := by decide +kernel
theorem dL_law_1467 : decode cL_law 1467 = .ok (.if_icmp .eq 137, 3) := by decide +kernel
theorem dL_law_1470 : decode cL_law 1470 = .ok (.iconst 0, 1) := by decide +kernel
theorem dL_law_1471 : decode cL_law 1471 = .ok (.ireturn, 1) := by decide +kernel
theorem dL_law_1472 : decode cL_law 1472 = .ok (.aload_n 1, 1) := by decide +kernel
theorem dL_law_1473 : decode cL_law 1473 = .ok (.aload_n 0, 1) := by decide +kernel
theorem dL_law_1474 : decode cL_law 1474 = .ok (.iload_n 3, 1) := by decide +kernel
theorem dL_law_1475 : decode cL_law 1475 = .ok (.iconst 1, 1) := by decide +kernel
theorem dL_law_1476 : decode cL_law 1476 = .ok (.iadd, 1) := by decide +kernel
theorem dL_law_1477 : decode cL_law 1477 = .ok (.iaload, 1) := by decide +kernel
theorem dL_law_1478 : decode cL_law 1478 = .ok (.aload_n 0, 1) := by decide +kernel
theorem dL_law_1479 : decode cL_law 1479 = .ok (.iload_n 3, 1) := by decide +kernel
theorem dL_law_1480 : decode cL_law 1480 = .ok (.iconst 2, 1) := by decide +kernel
theorem dL_law_1481 : decode cL_law 1481 = .ok (.iadd, 1) := by decide +kernel
theorem dL_law_1482 : decode cL_law 1482 = .ok (.iaload, 1) := by decide +kernel
theorem dL_law_1483 : decode cL_law 1483 = .ok (.aload_n 0, 1) := by decide +kernel
theorem dL_law_1484 : decode cL_law 1484 = .ok (.iload_n 3, 1) := by decide +kernel
theorem dL_law_1485 : decode cL_law 1485 = .ok (.iconst 3, 1) := by decide +kernel
theorem dL_law_1486 : decode cL_law 1486 = .ok (.iadd, 1) := by decide +kernel
theorem dL_law_1487 : decode cL_law 1487 = .ok (.iaload, 1) := by decide +kernel
theorem dL_law_1488 : decode cL_law 1488 = .ok (.invokevirtual 177, 3) := by decide +kernel
theorem dL_law_1491 : decode cL_law 1491 = .ok (.aload_n 2, 1) := by decide +kernel
theorem dL_law_1492 : decode cL_law 1492 = .ok (.aload_n 0, 1) := by decide +kernel
theorem dL_law_1493 : decode cL_law 1493 = .ok (.iload_n 3, 1) := by decide +kernel
theorem dL_law_1494 : decode cL_law 1494 = .ok (.iconst 1, 1) := by decide +kernel
theorem dL_law_1495 : decode cL_law 1495 = .ok (.iadd, 1) := by decide +kernel
theorem dL_law_1496 : decode cL_law 1496 = .ok (.iaload, 1) := by decide +kernel
theorem dL_law_1497 : decode cL_law 1497 = .ok (.aload_n 0, 1) := by decide +kernel
theorem dL_law_1498 : decode cL_law 1498 = .ok (.iload_n 3, 1) := by decide +kernel
theorem dL_law_1499 : decode cL_law 1499 = .ok (.iconst 2, 1) := by decide +kernel
theorem dL_law_1500 : decode cL_law 1500 = .ok (.iadd, 1) := by decide +kernel
theorem dL_law_1501 : decode cL_law 1501 = .ok (.iaload, 1) := by decide +kernel
theorem dL_law_1502 : decode cL_law 1502 = .ok (.aload_n 0, 1) := by decide +kernel
theorem dL_law_1503 : decode cL_law 1503 = .ok (.iload_n 3, 1) := by decide +kernel
theorem dL_law_1504 : decode cL_law 1504 = .ok (.iconst 3, 1) := by decide +kernel
theorem dL_law_1505 : decode cL_law 1505 = .ok (.iadd, 1) := by decide +kernel
theorem dL_law_1506 : decode cL_law 1506 = .ok (.iaload, 1) := by decide +kernel
theorem dL_law_1507 : decode cL_law 1507 = .ok (.invokevirtual 180, 3) := by decide +kernel
theorem dL_law_1510 : decode cL_law 1510 = .ok (.if_icmp .eq 94, 3) := by decide +kernel
theorem dL_law_1513 : decode cL_law 1513 = .ok (.iconst 0, 1) := by decide +kernel
theorem dL_law_1514 : decode cL_law 1514 = .ok (.ireturn, 1) := by decide +kernel
theorem dL_law_1515 : decode cL_law 1515 = .ok (.aload_n 1, 1) := by decide +kernel
theorem dL_law_1516 : decode cL_law 1516 = .ok (.aload_n 0, 1) := by decide +kernel
theorem dL_law_1517 : decode cL_law 1517 = .ok (.iload_n 3, 1) := by decide +kernel
theorem dL_law_1518 : decode cL_law 1518 = .ok (.iconst 1, 1) := by decide +kernel
theorem dL_law_1519 : decode cL_law 1519 = .ok (.iadd, 1) := by decide +kernel
theorem dL_law_1520 : decode cL_law 1520 = .ok (.iaload, 1) := by decide +kernel
theorem dL_law_1521 : decode cL_law 1521 = .ok (.aload_n 0, 1) := by decide +kernel
theorem dL_law_1522 : decode cL_law 1522 = .ok (.iload_n 3, 1) := by decide +kernel
theorem dL_law_1523 : decode cL_law 1523 = .ok (.iconst 2, 1) := by decide +kernel
theorem dL_law_1524 : decode cL_law 1524 = .ok (.iadd, 1) := by decide +kernel
theorem dL_law_1525 : decode cL_law 1525 = .ok (.iaload, 1) := by decide +kernel
theorem dL_law_1526 : decode cL_law 1526 = .ok (.aload_n 0, 1) := by decide +kernel
theorem dL_law_1527 : decode cL_law 1527 = .ok (.iload_n 3, 1) := by decide +kernel
theorem dL_law_1528 : decode cL_law 1528 = .ok (.iconst 3, 1) := by decide +kernel
theorem dL_law_1529 : decode cL_law 1529 = .ok (.iadd, 1) := by decide +kernel
theorem dL_law_1530 : decode cL_law 1530 = .ok (.iaload, 1) := by decide +kernel
theorem dL_law_1531 : decode cL_law 1531 = .ok (.aload_n 0, 1) := by decide +kernel
theorem dL_law_1532 : decode cL_law 1532 = .ok (.iload_n 3, 1) := by decide +kernel
theorem dL_law_1533 : decode cL_law 1533 = .ok (.iconst 4, 1) := by decide +kernel
theorem dL_law_1534 : decode cL_law 1534 = .ok (.iadd, 1) := by decide +kernel
theorem dL_law_1535 : decode cL_law 1535 = .ok (.iaload, 1) := by decide +kernel
theorem dL_law_1536 : decode cL_law 1536 = .ok (.invokevirtual 181, 3) := by decide +kernel
theorem dL_law_1539 : decode cL_law 1539 = .ok (.aload_n 2, 1) := by decide +kernel
theorem dL_law_1540 : decode cL_law 1540 = .ok (.aload_n 0, 1) := by decide +kernel
theorem dL_law_1541 : decode cL_law 1541 = .ok (.iload_n 3, 1) := by decide +kernel
theorem dL_law_1542 : decode cL_law 1542 = .ok (.iconst 1, 1) := by decide +kernel
theorem dL_law_1543 : decode cL_law 1543 = .ok (.iadd, 1) := by decide +kernel
theorem dL_law_1544 : decode cL_law 1544 = .ok (.iaload, 1) := by decide +kernel
theorem dL_law_1545 : decode cL_law 1545 = .ok (.aload_n 0, 1) := by decide +kernel
theorem dL_law_1546 : decode cL_law 1546 = .ok (.iload_n 3, 1) := by decide +kernel
theorem dL_law_1547 : decode cL_law 1547 = .ok (.iconst 2, 1) := by decide +kernel
theorem dL_law_1548 : decode cL_law 1548 = .ok (.iadd, 1) := by decide +kernel
theorem dL_law_1549 : decode cL_law 1549 = .ok (.iaload, 1) := by decide +kernel
theorem dL_law_1550 : decode cL_law 1550 = .ok (.aload_n 0, 1) := by decide +kernel
theorem dL_law_1551 : decode cL_law 1551 = .ok (.iload_n 3, 1) := by decide +kernel
theorem dL_law_1552 : decode cL_law 1552 = .ok (.iconst 3, 1) := by decide +kernel
theorem dL_law_1553 : decode cL_law 1553 = .ok (.iadd, 1) := by decide +kernel
theorem dL_law_1554 : decode cL_law 1554 = .ok (.iaload, 1) := by decide +kernel
theorem dL_law_1555 : decode cL_law 1555 = .ok (.aload_n 0, 1) := by decide +kernel
theorem dL_law_1556 : decode cL_law 1556 = .ok (.iload_n 3, 1) := by decide +kernel
theorem dL_law_1557 : decode cL_law 1557 = .ok (.iconst 4, 1) := by decide +kernel
theorem dL_law_1558 : decode cL_law 1558 = .ok (.iadd, 1) := by decide +kernel
theorem dL_law_1559 : decode cL_law 1559 = .ok (.iaload, 1) := by decide +kernel
theorem dL_law_1560 : decode cL_law 1560 = .ok (.invokevirtual 184, 3) := by decide +kernel
theorem dL_law_1563 : decode cL_law 1563 = .ok (.if_icmp .eq 41, 3) := by decide +kernel
theorem dL_law_1566 : decode cL_law 1566 = .ok (.iconst 0, 1) := by decide +kernel
theorem dL_law_1567 : decode cL_law 1567 = .ok (.ireturn, 1) := by decide +kernel
theorem dL_law_1568 : decode cL_law 1568 = .ok (.aload_n 1, 1) := by decide +kernel
theorem dL_law_1569 : decode cL_law 1569 = .ok (.invokevirtual 185, 3) := by decide +kernel
theorem dL_law_1572 : decode cL_law 1572 = .ok (.aload_n 2, 1) := by decide +kernel
theorem dL_law_1573 : decode cL_law 1573 = .ok (.invokevirtual 188, 3) := by decide +kernel
theorem dL_law_1576 : decode cL_law 1576 = .ok (.if_icmp .eq 28, 3) := by decide +kernel
theorem dL_law_1579 : decode cL_law 1579 = .ok (.iconst 0, 1) := by decide +kernel
theorem dL_law_1580 : decode cL_law 1580 = .ok (.ireturn, 1) := by decide +kernel
theorem dL_law_1581 : decode cL_law 1581 = .ok (.aload_n 1, 1) := by decide +kernel
theorem dL_law_1582 : decode cL_law 1582 = .ok (.aload_n 0, 1) := by decide +kernel
theorem dL_law_1583 : decode cL_law 1583 = .ok (.iload_n 3, 1) := by decide +kernel
theorem dL_law_1584 : decode cL_law 1584 = .ok (.iconst 1, 1) := by decide +kernel
theorem dL_law_1585 : decode cL_law 1585 = .ok (.iadd, 1) := by decide +kernel
theorem dL_law_1586 : decode cL_law 1586 = .ok (.iaload, 1) := by decide +kernel
theorem dL_law_1587 : decode cL_law 1587 = .ok (.invokevirtual 189, 3) := by decide +kernel
theorem dL_law_1590 : decode cL_law 1590 = .ok (.aload_n 2, 1) := by decide +kernel
theorem dL_law_1591 : decode cL_law 1591 = .ok (.aload_n 0, 1) := by decide +kernel
theorem dL_law_1592 : decode cL_law 1592 = .ok (.iload_n 3, 1) := by decide +kernel
theorem dL_law_1593 : decode cL_law 1593 = .ok (.iconst 1, 1) := by decide +kernel
theorem dL_law_1594 : decode cL_law 1594 = .ok (.iadd, 1) := by decide +kernel
theorem dL_law_1595 : decode cL_law 1595 = .ok (.iaload, 1) := by decide +kernel
theorem dL_law_1596 : decode cL_law 1596 = .ok (.invokevirtual 192, 3) := by decide +kernel
theorem dL_law_1599 : decode cL_law 1599 = .ok (.if_icmp .eq 5, 3) := by decide +kernel
theorem dL_law_1602 : decode cL_law 1602 = .ok (.iconst 0, 1) := by decide +kernel
theorem dL_law_1603 : decode cL_law 1603 = .ok (.ireturn, 1) := by decide +kernel
theorem dL_law_1604 : decode cL_law 1604 = .ok (.iinc 3 8, 3) := by decide +kernel
theorem dL_law_1607 : decode cL_law 1607 = .ok (.goto (-1589), 3) := by decide +kernel
theorem dL_law_1610 : decode cL_law 1610 = .ok (.iconst 1, 1) := by decide +kernel
theorem dL_law_1611 : decode cL_law 1611 = .ok (.ireturn, 1) := by decide +kernel
end
section
theorem dJ9_floorMod_7cf53_0 : decode cJ9_floorMod_7cf53 0 = .ok (.iload_n 0, 1) := by decide +kernel
theorem dJ9_floorMod_7cf53_1 : decode cJ9_floorMod_7cf53 1 = .ok (.iload_n 1, 1) := by decide +kernel
theorem dJ9_floorMod_7cf53_2 : decode cJ9_floorMod_7cf53 2 = .ok (.irem, 1) := by decide +kernel
theorem dJ9_floorMod_7cf53_3 : decode cJ9_floorMod_7cf53 3 = .ok (.istore_n 2, 1) := by decide +kernel
theorem dJ9_floorMod_7cf53_4 : decode cJ9_floorMod_7cf53 4 = .ok (.iload_n 0, 1) := by decide +kernel
theorem dJ9_floorMod_7cf53_5 : decode cJ9_floorMod_7cf53 5 = .ok (.iload_n 1, 1) := by decide +kernel
theorem dJ9_floorMod_7cf53_6 : decode cJ9_floorMod_7cf53 6 = .ok (.ixor, 1) := by decide +kernel
theorem dJ9_floorMod_7cf53_7 : decode cJ9_floorMod_7cf53 7 = .ok (.ifCond .ge 11, 3) := by decide +kernel
theorem dJ9_floorMod_7cf53_10 : decode cJ9_floorMod_7cf53 10 = .ok (.iload_n 2, 1) := by decide +kernel
theorem dJ9_floorMod_7cf53_11 : decode cJ9_floorMod_7cf53 11 = .ok (.ifCond .eq 7, 3) := by decide +kernel
theorem dJ9_floorMod_7cf53_14 : decode cJ9_floorMod_7cf53 14 = .ok (.iload_n 2, 1) := by decide +kernel
theorem dJ9_floorMod_7cf53_15 : decode cJ9_floorMod_7cf53 15 = .ok (.iload_n 1, 1) := by decide +kernel
theorem dJ9_floorMod_7cf53_16 : decode cJ9_floorMod_7cf53 16 = .ok (.iadd, 1) := by decide +kernel
theorem dJ9_floorMod_7cf53_17 : decode cJ9_floorMod_7cf53 17 = .ok (.ireturn, 1) := by decide +kernel
theorem dJ9_floorMod_7cf53_18 : decode cJ9_floorMod_7cf53 18 = .ok (.iload_n 2, 1) := by decide +kernel
theorem dJ9_floorMod_7cf53_19 : decode cJ9_floorMod_7cf53 19 = .ok (.ireturn, 1) := by decide +kernel
theorem dJ9_abs_0f7a4_0 : decode cJ9_abs_0f7a4 0 = .ok (.iload_n 0, 1) := by decide +kernel
theorem dJ9_abs_0f7a4_1 : decode cJ9_abs_0f7a4 1 = .ok (.ifCond .ge 8, 3) := by decide +kernel
theorem dJ9_abs_0f7a4_4 : decode cJ9_abs_0f7a4 4 = .ok (.iload_n 0, 1) := by decide +kernel
theorem dJ9_abs_0f7a4_5 : decode cJ9_abs_0f7a4 5 = .ok (.ineg, 1) := by decide +kernel
theorem dJ9_abs_0f7a4_6 : decode cJ9_abs_0f7a4 6 = .ok (.goto 4, 3) := by decide +kernel
theorem dJ9_abs_0f7a4_9 : decode cJ9_abs_0f7a4 9 = .ok (.iload_n 0, 1) := by decide +kernel
theorem dJ9_abs_0f7a4_10 : decode cJ9_abs_0f7a4 10 = .ok (.ireturn, 1) := by decide +kernel
theorem dJ9_max_7cf53_0 : decode cJ9_max_7cf53 0 = .ok (.iload_n 0, 1) := by decide +kernel
theorem dJ9_max_7cf53_1 : decode cJ9_max_7cf53 1 = .ok (.iload_n 1, 1) := by decide +kernel
theorem dJ9_max_7cf53_2 : decode cJ9_max_7cf53 2 = .ok (.if_icmp .lt 7, 3) := by decide +kernel
theorem dJ9_max_7cf53_5 : decode cJ9_max_7cf53 5 = .ok (.iload_n 0, 1) := by decide +kernel
theorem dJ9_max_7cf53_6 : decode cJ9_max_7cf53 6 = .ok (.goto 4, 3) := by decide +kernel
theorem dJ9_max_7cf53_9 : decode cJ9_max_7cf53 9 = .ok (.iload_n 1, 1) := by decide +kernel
theorem dJ9_max_7cf53_10 : decode cJ9_max_7cf53 10 = .ok (.ireturn, 1) := by decide +kernel
theorem dJ9_min_7cf53_0 : decode cJ9_min_7cf53 0 = .ok (.iload_n 0, 1) := by decide +kernel
theorem dJ9_min_7cf53_1 : decode cJ9_min_7cf53 1 = .ok (.iload_n 1, 1) := by decide +kernel
theorem dJ9_min_7cf53_2 : decode cJ9_min_7cf53 2 = .ok (.if_icmp .gt 7, 3) := by decide +kernel
theorem dJ9_min_7cf53_5 : decode cJ9_min_7cf53 5 = .ok (.iload_n 0, 1) := by decide +kernel
theorem dJ9_min_7cf53_6 : decode cJ9_min_7cf53 6 = .ok (.goto 4, 3) := by decide +kernel
theorem dJ9_min_7cf53_9 : decode cJ9_min_7cf53 9 = .ok (.iload_n 1, 1) := by decide +kernel
theorem dJ9_min_7cf53_10 : decode cJ9_min_7cf53 10 = .ok (.ireturn, 1) := by decide +kernel
theorem dJ0_length_8abf5_0 : decode cJ0_length_8abf5 0 = .ok (.aload_n 0, 1) := by decide +kernel
theorem dJ0_length_8abf5_1 : decode cJ0_length_8abf5 1 = .ok (.getfield 9, 3) := by decide +kernel
theorem dJ0_length_8abf5_4 : decode cJ0_length_8abf5 4 = .ok (.arraylength, 1) := by decide +kernel
theorem dJ0_length_8abf5_5 : decode cJ0_length_8abf5 5 = .ok (.aload_n 0, 1) := by decide +kernel
theorem dJ0_length_8abf5_6 : decode cJ0_length_8abf5 6 = .ok (.invokevirtual 335, 3) := by decide +kernel
theorem dJ0_length_8abf5_9 : decode cJ0_length_8abf5 9 = .ok (.ishr, 1) := by decide +kernel
theorem dJ0_length_8abf5_10 : decode cJ0_length_8abf5 10 = .ok (.ireturn, 1) := by decide +kernel
theorem dJ0_charAt_5068e_0 : decode cJ0_charAt_5068e 0 = .ok (.aload_n 0, 1) := by decide +kernel
theorem dJ0_charAt_5068e_1 : decode cJ0_charAt_5068e 1 = .ok (.invokevirtual 492, 3) := by decide +kernel
theorem dJ0_charAt_5068e_4 : decode cJ0_charAt_5068e 4 = .ok (.ifCond .eq 12, 3) := by decide +kernel
theorem dJ0_charAt_5068e_7 : decode cJ0_charAt_5068e 7 = .ok (.aload_n 0, 1) := by decide +kernel
theorem dJ0_charAt_5068e_8 : decode cJ0_charAt_5068e 8 = .ok (.getfield 9, 3) := by decide +kernel
theorem dJ0_charAt_5068e_11 : decode cJ0_charAt_5068e 11 = .ok (.iload_n 1, 1) := by decide +kernel
theorem dJ0_charAt_5068e_12 : decode cJ0_charAt_5068e 12 = .ok (.invokestatic 495, 3) := by decide +kernel
theorem dJ0_charAt_5068e_15 : decode cJ0_charAt_5068e 15 = .ok (.ireturn, 1) := by decide +kernel
theorem dJ0_charAt_5068e_16 : decode cJ0_charAt_5068e 16 = .ok (.aload_n 0, 1) := by decide +kernel
theorem dJ0_charAt_5068e_17 : decode cJ0_charAt_5068e 17 = .ok (.getfield 9, 3) := by decide +kernel
theorem dJ0_charAt_5068e_20 : decode cJ0_charAt_5068e 20 = .ok (.iload_n 1, 1) := by decide +kernel
theorem dJ0_charAt_5068e_21 : decode cJ0_charAt_5068e 21 = .ok (.invokestatic 498, 3) := by decide +kernel
theorem dJ0_charAt_5068e_24 : decode cJ0_charAt_5068e 24 = .ok (.ireturn, 1) := by decide +kernel
theorem dJ0_coder_7d493_0 : decode cJ0_coder_7d493 0 = .ok (.getstatic 38, 3) := by decide +kernel
theorem dJ0_coder_7d493_3 : decode cJ0_coder_7d493 3 = .ok (.ifCond .eq 10, 3) := by decide +kernel
theorem dJ0_coder_7d493_6 : decode cJ0_coder_7d493 6 = .ok (.aload_n 0, 1) := by decide +kernel
theorem dJ0_coder_7d493_7 : decode cJ0_coder_7d493 7 = .ok (.getfield 15, 3) := by decide +kernel
theorem dJ0_coder_7d493_10 : decode cJ0_coder_7d493 10 = .ok (.goto 4, 3) := by decide +kernel
theorem dJ0_coder_7d493_13 : decode cJ0_coder_7d493 13 = .ok (.iconst 1, 1) := by decide +kernel
theorem dJ0_coder_7d493_14 : decode cJ0_coder_7d493 14 = .ok (.ireturn, 1) := by decide +kernel
theorem dJ0_isLatin1_aae02_0 : decode cJ0_isLatin1_aae02 0 = .ok (.getstatic 38, 3) := by decide +kernel
theorem dJ0_isLatin1_aae02_3 : decode cJ0_isLatin1_aae02 3 = .ok (.ifCond .eq 14, 3) := by decide +kernel
theorem dJ0_isLatin1_aae02_6 : decode cJ0_isLatin1_aae02 6 = .ok (.aload_n 0, 1) := by decide +kernel
theorem dJ0_isLatin1_aae02_7 : decode cJ0_isLatin1_aae02 7 = .ok (.getfield 15, 3) := by decide +kernel
theorem dJ0_isLatin1_aae02_10 : decode cJ0_isLatin1_aae02 10 = .ok (.ifCond .ne 7, 3) := by decide +kernel
theorem dJ0_isLatin1_aae02_13 : decode cJ0_isLatin1_aae02 13 = .ok (.iconst 1, 1) := by decide +kernel
theorem dJ0_isLatin1_aae02_14 : decode cJ0_isLatin1_aae02 14 = .ok (.goto 4, 3) := by decide +kernel
theorem dJ0_isLatin1_aae02_17 : decode cJ0_isLatin1_aae02 17 = .ok (.iconst 0, 1) := by decide +kernel
theorem dJ0_isLatin1_aae02_18 : decode cJ0_isLatin1_aae02 18 = .ok (.ireturn, 1) := by decide +kernel
theorem dJ0_checkIndex_df160_0 : decode cJ0_checkIndex_df160 0 = .ok (.iload_n 0, 1) := by decide +kernel
theorem dJ0_checkIndex_df160_1 : decode cJ0_checkIndex_df160 1 = .ok (.iload_n 1, 1) := by decide +kernel
theorem dJ0_checkIndex_df160_2 : decode cJ0_checkIndex_df160 2 = .ok (.getstatic 1053, 3) := by decide +kernel
theorem dJ0_checkIndex_df160_5 : decode cJ0_checkIndex_df160 5 = .ok (.invokestatic 1059, 3) := by decide +kernel
theorem dJ0_checkIndex_df160_8 : decode cJ0_checkIndex_df160 8 = .ok (.pop, 1) := by decide +kernel
theorem dJ0_checkIndex_df160_9 : decode cJ0_checkIndex_df160 9 = .ok (.return_, 1) := by decide +kernel
theorem dJ1_charAt_3b067_0 : decode cJ1_charAt_3b067 0 = .ok (.iload_n 1, 1) := by decide +kernel
theorem dJ1_charAt_3b067_1 : decode cJ1_charAt_3b067 1 = .ok (.aload_n 0, 1) := by decide +kernel
theorem dJ1_charAt_3b067_2 : decode cJ1_charAt_3b067 2 = .ok (.arraylength, 1) := by decide +kernel
theorem dJ1_charAt_3b067_3 : decode cJ1_charAt_3b067 3 = .ok (.invokestatic 9, 3) := by decide +kernel
theorem dJ1_charAt_3b067_6 : decode cJ1_charAt_3b067 6 = .ok (.aload_n 0, 1) := by decide +kernel
theorem dJ1_charAt_3b067_7 : decode cJ1_charAt_3b067 7 = .ok (.iload_n 1, 1) := by decide +kernel
theorem dJ1_charAt_3b067_8 : decode cJ1_charAt_3b067 8 = .ok (.baload, 1) := by decide +kernel
theorem dJ1_charAt_3b067_9 : decode cJ1_charAt_3b067 9 = .ok (.sipush 255, 3) := by decide +kernel
theorem dJ1_charAt_3b067_12 : decode cJ1_charAt_3b067 12 = .ok (.iand, 1) := by decide +kernel
theorem dJ1_charAt_3b067_13 : decode cJ1_charAt_3b067 13 = .ok (.i2c, 1) := by decide +kernel
theorem dJ1_charAt_3b067_14 : decode cJ1_charAt_3b067 14 = .ok (.ireturn, 1) := by decide +kernel
theorem dJ2_getChar_3b067_0 : decode cJ2_getChar_3b067 0 = .ok (.getstatic 44, 3) := by decide +kernel
theorem dJ2_getChar_3b067_3 : decode cJ2_getChar_3b067 3 = .ok (.ifCond .ne 25, 3) := by decide +kernel
theorem dJ2_getChar_3b067_6 : decode cJ2_getChar_3b067 6 = .ok (.iload_n 1, 1) := by decide +kernel
theorem dJ2_getChar_3b067_7 : decode cJ2_getChar_3b067 7 = .ok (.ifCond .lt 11, 3) := by decide +kernel
theorem dJ2_getChar_3b067_10 : decode cJ2_getChar_3b067 10 = .ok (.iload_n 1, 1) := by decide +kernel
theorem dJ2_getChar_3b067_11 : decode cJ2_getChar_3b067 11 = .ok (.aload_n 0, 1) := by decide +kernel
theorem dJ2_getChar_3b067_12 : decode cJ2_getChar_3b067 12 = .ok (.invokestatic 48, 3) := by decide +kernel
theorem dJ2_getChar_3b067_15 : decode cJ2_getChar_3b067 15 = .ok (.if_icmp .lt 13, 3) := by decide +kernel
theorem dJ2_getChar_3b067_18 : decode cJ2_getChar_3b067 18 = .ok (.new 52, 3) := by decide +kernel
theorem dJ2_getChar_3b067_21 : decode cJ2_getChar_3b067 21 = .ok (.dup, 1) := by decide +kernel
theorem dJ2_getChar_3b067_22 : decode cJ2_getChar_3b067 22 = .ok (.ldc 54, 2) := by decide +kernel
theorem dJ2_getChar_3b067_24 : decode cJ2_getChar_3b067 24 = .ok (.invokespecial 56, 3) := by decide +kernel
theorem dJ2_getChar_3b067_27 : decode cJ2_getChar_3b067 27 = .ok (.athrow, 1) := by decide +kernel
theorem dJ2_getChar_3b067_28 : decode cJ2_getChar_3b067 28 = .ok (.iload_n 1, 1) := by decide +kernel
theorem dJ2_getChar_3b067_29 : decode cJ2_getChar_3b067 29 = .ok (.iconst 1, 1) := by decide +kernel
theorem dJ2_getChar_3b067_30 : decode cJ2_getChar_3b067 30 = .ok (.ishl, 1) := by decide +kernel
theorem dJ2_getChar_3b067_31 : decode cJ2_getChar_3b067 31 = .ok (.istore_n 1, 1) := by decide +kernel
theorem dJ2_getChar_3b067_32 : decode cJ2_getChar_3b067 32 = .ok (.aload_n 0, 1) := by decide +kernel
theorem dJ2_getChar_3b067_33 : decode cJ2_getChar_3b067 33 = .ok (.iload_n 1, 1) := by decide +kernel
theorem dJ2_getChar_3b067_34 : decode cJ2_getChar_3b067 34 = .ok (.iinc 1 1, 3) := by decide +kernel
theorem dJ2_getChar_3b067_37 : decode cJ2_getChar_3b067 37 = .ok (.baload, 1) := by decide +kernel
theorem dJ2_getChar_3b067_38 : decode cJ2_getChar_3b067 38 = .ok (.sipush 255, 3) := by decide +kernel
theorem dJ2_getChar_3b067_41 : decode cJ2_getChar_3b067 41 = .ok (.iand, 1) := by decide +kernel
theorem dJ2_getChar_3b067_42 : decode cJ2_getChar_3b067 42 = .ok (.getstatic 59, 3) := by decide +kernel
theorem dJ2_getChar_3b067_45 : decode cJ2_getChar_3b067 45 = .ok (.ishl, 1) := by decide +kernel
theorem dJ2_getChar_3b067_46 : decode cJ2_getChar_3b067 46 = .ok (.aload_n 0, 1) := by decide +kernel
theorem dJ2_getChar_3b067_47 : decode cJ2_getChar_3b067 47 = .ok (.iload_n 1, 1) := by decide +kernel
theorem dJ2_getChar_3b067_48 : decode cJ2_getChar_3b067 48 = .ok (.baload, 1) := by decide +kernel
theorem dJ2_getChar_3b067_49 : decode cJ2_getChar_3b067 49 = .ok (.sipush 255, 3) := by decide +kernel
theorem dJ2_getChar_3b067_52 : decode cJ2_getChar_3b067 52 = .ok (.iand, 1) := by decide +kernel
theorem dJ2_getChar_3b067_53 : decode cJ2_getChar_3b067 53 = .ok (.getstatic 63, 3) := by decide +kernel
theorem dJ2_getChar_3b067_56 : decode cJ2_getChar_3b067 56 = .ok (.ishl, 1) := by decide +kernel
theorem dJ2_getChar_3b067_57 : decode cJ2_getChar_3b067 57 = .ok (.ior, 1) := by decide +kernel
theorem dJ2_getChar_3b067_58 : decode cJ2_getChar_3b067 58 = .ok (.i2c, 1) := by decide +kernel
theorem dJ2_getChar_3b067_59 : decode cJ2_getChar_3b067 59 = .ok (.ireturn, 1) := by decide +kernel
theorem dJ2_length_9d52b_0 : decode cJ2_length_9d52b 0 = .ok (.aload_n 0, 1) := by decide +kernel
theorem dJ2_length_9d52b_1 : decode cJ2_length_9d52b 1 = .ok (.arraylength, 1) := by decide +kernel
theorem dJ2_length_9d52b_2 : decode cJ2_length_9d52b 2 = .ok (.iconst 1, 1) := by decide +kernel
theorem dJ2_length_9d52b_3 : decode cJ2_length_9d52b 3 = .ok (.ishr, 1) := by decide +kernel
theorem dJ2_length_9d52b_4 : decode cJ2_length_9d52b 4 = .ok (.ireturn, 1) := by decide +kernel
theorem dJ2_charAt_3b067_0 : decode cJ2_charAt_3b067 0 = .ok (.iload_n 1, 1) := by decide +kernel
theorem dJ2_charAt_3b067_1 : decode cJ2_charAt_3b067 1 = .ok (.aload_n 0, 1) := by decide +kernel
theorem dJ2_charAt_3b067_2 : decode cJ2_charAt_3b067 2 = .ok (.invokestatic 67, 3) := by decide +kernel
theorem dJ2_charAt_3b067_5 : decode cJ2_charAt_3b067 5 = .ok (.aload_n 0, 1) := by decide +kernel
theorem dJ2_charAt_3b067_6 : decode cJ2_charAt_3b067 6 = .ok (.iload_n 1, 1) := by decide +kernel
theorem dJ2_charAt_3b067_7 : decode cJ2_charAt_3b067 7 = .ok (.invokestatic 71, 3) := by decide +kernel
theorem dJ2_charAt_3b067_10 : decode cJ2_charAt_3b067 10 = .ok (.ireturn, 1) := by decide +kernel
theorem dJ2_checkIndex_2214a_0 : decode cJ2_checkIndex_2214a 0 = .ok (.iload_n 0, 1) := by decide +kernel
theorem dJ2_checkIndex_2214a_1 : decode cJ2_checkIndex_2214a 1 = .ok (.aload_n 1, 1) := by decide +kernel
theorem dJ2_checkIndex_2214a_2 : decode cJ2_checkIndex_2214a 2 = .ok (.invokestatic 48, 3) := by decide +kernel
theorem dJ2_checkIndex_2214a_5 : decode cJ2_checkIndex_2214a 5 = .ok (.invokestatic 414, 3) := by decide +kernel
theorem dJ2_checkIndex_2214a_8 : decode cJ2_checkIndex_2214a 8 = .ok (.return_, 1) := by decide +kernel
theorem dJ3_checkIndex_8e157_0 : decode cJ3_checkIndex_8e157 0 = .ok (.iload_n 0, 1) := by decide +kernel
theorem dJ3_checkIndex_8e157_1 : decode cJ3_checkIndex_8e157 1 = .ok (.ifCond .lt 8, 3) := by decide +kernel
theorem dJ3_checkIndex_8e157_4 : decode cJ3_checkIndex_8e157 4 = .ok (.iload_n 0, 1) := by decide +kernel
theorem dJ3_checkIndex_8e157_5 : decode cJ3_checkIndex_8e157 5 = .ok (.iload_n 1, 1) := by decide +kernel
theorem dJ3_checkIndex_8e157_6 : decode cJ3_checkIndex_8e157 6 = .ok (.if_icmp .lt 10, 3) := by decide +kernel
theorem dJ3_checkIndex_8e157_9 : decode cJ3_checkIndex_8e157 9 = .ok (.aload_n 2, 1) := by decide +kernel
theorem dJ3_checkIndex_8e157_10 : decode cJ3_checkIndex_8e157 10 = .ok (.iload_n 0, 1) := by decide +kernel
theorem dJ3_checkIndex_8e157_11 : decode cJ3_checkIndex_8e157 11 = .ok (.iload_n 1, 1) := by decide +kernel
theorem dJ3_checkIndex_8e157_12 : decode cJ3_checkIndex_8e157 12 = .ok (.invokestatic 95, 3) := by decide +kernel
theorem dJ3_checkIndex_8e157_15 : decode cJ3_checkIndex_8e157 15 = .ok (.athrow, 1) := by decide +kernel
theorem dJ3_checkIndex_8e157_16 : decode cJ3_checkIndex_8e157 16 = .ok (.iload_n 0, 1) := by decide +kernel
theorem dJ3_checkIndex_8e157_17 : decode cJ3_checkIndex_8e157 17 = .ok (.ireturn, 1) := by decide +kernel
end
section
/-! THE ABSTRACT WORLD: cells by their numbers, a shape that says what each cell is, one memory of ints (cell, place) -/
/-- a cell's shape: an array (number of its type, length, its references if it is a row of references), or an object (number of its class, its fields: an int in the memory, or a reference) -/
abbrev q_S : Type := (Nat × Nat × Option (Nat → Option Nat)) ⊕ (Nat × List (Option (Option Nat)))
abbrev q_M : Type := Nat → Nat → Int32
/-- what a run takes as given: class numbers and slots, array classes, the first cell's address, addresses of constants, the script -/
abbrev q_E : Type := va_G × (Nat → ClassId) × Nat × (Nat → Nat) × Nat × (Nat → Int32)
abbrev q_D (E : q_E) : va_G := E.1
abbrev q_cT (E : q_E) : Nat → ClassId := E.2.1
abbrev q_h0 (E : q_E) : Nat := E.2.2.1
abbrev q_aS (E : q_E) : Nat → Nat := E.2.2.2.1
abbrev q_L (E : q_E) : Nat := E.2.2.2.2.1
abbrev q_xs (E : q_E) : Nat → Int32 := E.2.2.2.2.2
def q_a (E : q_E) (i : Nat) : Nat := if i < 1000000 then q_h0 E + i else q_aS E (i - 1000000)
theorem q_a_lo {E : q_E} {i : Nat} (h : i < 1000000) : q_a E i = q_h0 E + i := if_pos h
def q_v (E : q_E) : Value → Value
  | .ref i => .ref (q_a E i)
  | v => v
theorem q_v_cat (E : q_E) (v : Value) : (q_v E v).category = v.category := by cases v <;> rfl
def q_fl (E : q_E) (f : Nat → Int32) : Nat → List (Option (Option Nat)) → List Value
  | _, [] => []
  | k, none :: r => .int (f k) :: q_fl E f (k + 1) r
  | k, some x :: r => va_rf (x.map (q_a E)) :: q_fl E f (k + 1) r
def q_c (E : q_E) (f : Nat → Int32) : q_S → va_E
  | .inl (t, n, none) => .inl (q_cT E t, n, .inl f)
  | .inl (t, n, some g) => .inl (q_cT E t, n, .inr (.inr (.inr (.inr (fun j => (g j).map (q_a E))))))
  | .inr (ci, ks) => .inr (ci, q_fl E f 0 ks)
def q_w (E : q_E) (sh : List q_S) (σ : q_M) : va_W := sh.mapIdx (fun a x => (q_h0 E + a, q_c E (σ a) x))
theorem q_w_at {E : q_E} {sh : List q_S} {σ : q_M} {a : Nat} {x : q_S} (h : sh[a]? = some x) : (q_w E sh σ)[a]? = some (q_h0 E + a, q_c E (σ a) x) := by
  unfold q_w
  rw [List.getElem?_mapIdx, h]
  rfl
theorem q_w_len {E : q_E} {sh : List q_S} {σ : q_M} : (q_w E sh σ).length = sh.length := by
  unfold q_w
  simp
/-- a field that is an int -/
theorem q_fl_int {E : q_E} {f : Nat → Int32} : ∀ (ks : List (Option (Option Nat))) (i k : Nat), ks[k]? = some none → (q_fl E f i ks)[k]? = some (.int (f (i + k)))
  | [], _, k, h => by simp at h
  | none :: r, i, 0, _ => by simp [q_fl]
  | some _ :: r, i, 0, h => by simp at h
  | none :: r, i, k + 1, h => by
    have := q_fl_int (E := E) (f := f) r (i + 1) k (by simpa using h)
    rw [show i + (k + 1) = i + 1 + k by omega]
    simpa [q_fl] using this
  | some _ :: r, i, k + 1, h => by
    have := q_fl_int (E := E) (f := f) r (i + 1) k (by simpa using h)
    rw [show i + (k + 1) = i + 1 + k by omega]
    simpa [q_fl] using this
theorem q_fl_ref {E : q_E} {f : Nat → Int32} {x : Option Nat} : ∀ (ks : List (Option (Option Nat))) (i k : Nat), ks[k]? = some (some x) → (q_fl E f i ks)[k]? = some (va_rf (x.map (q_a E)))
  | [], _, k, h => by simp at h
  | none :: r, i, 0, h => by simp at h
  | some _ :: r, i, 0, h => by
    have e : some _ = some (some x) := h
    cases e
    simp [q_fl]
  | none :: r, i, k + 1, h => by
    have := q_fl_ref (E := E) (f := f) (x := x) r (i + 1) k (by simpa using h)
    simpa [q_fl] using this
  | some _ :: r, i, k + 1, h => by
    have := q_fl_ref (E := E) (f := f) (x := x) r (i + 1) k (by simpa using h)
    simpa [q_fl] using this
theorem q_fl_len {E : q_E} {f : Nat → Int32} : ∀ (ks : List (Option (Option Nat))) (i : Nat), (q_fl E f i ks).length = ks.length
  | [], _ => rfl
  | none :: r, i => by simp [q_fl, q_fl_len r (i + 1)]
  | some _ :: r, i => by simp [q_fl, q_fl_len r (i + 1)]
theorem q_fl_congr {E : q_E} {f g : Nat → Int32} : ∀ (ks : List (Option (Option Nat))) (i : Nat), (∀ k, i ≤ k → f k = g k) → q_fl E f i ks = q_fl E g i ks
  | [], _, _ => rfl
  | none :: r, i, h => by simp [q_fl, h i (Nat.le_refl i), q_fl_congr r (i + 1) (fun k hk => h k (by omega))]
  | some _ :: r, i, h => by simp [q_fl, q_fl_congr r (i + 1) (fun k hk => h k (by omega))]
theorem q_fl_upd {E : q_E} {f : Nat → Int32} {v : Int32} : ∀ (ks : List (Option (Option Nat))) (i k : Nat), ks[k]? = some none → (q_fl E f i ks).set k (.int v) = q_fl E (upd f (i + k) v) i ks
  | [], _, k, h => by simp at h
  | none :: r, i, 0, _ => by
    have e : q_fl E (upd f i v) (i + 1) r = q_fl E f (i + 1) r := q_fl_congr r (i + 1) (fun k hk => by simp [upd, show k ≠ i by omega])
    simp [q_fl, e]
    simp [upd]
  | some _ :: r, i, 0, h => by simp at h
  | none :: r, i, k + 1, h => by
    have := q_fl_upd (E := E) (f := f) (v := v) r (i + 1) k (by simpa using h)
    rw [show i + (k + 1) = i + 1 + k by omega]
    simp [q_fl, this]
    simp [upd, show i ≠ i + 1 + k by omega]
  | some _ :: r, i, k + 1, h => by
    have := q_fl_upd (E := E) (f := f) (v := v) r (i + 1) k (by simpa using h)
    rw [show i + (k + 1) = i + 1 + k by omega]
    simp [q_fl, this]
theorem q_fl_setr {E : q_E} {f : Nat → Int32} {x y : Option Nat} : ∀ (ks : List (Option (Option Nat))) (i k : Nat), ks[k]? = some (some x) → (q_fl E f i ks).set k (va_rf (y.map (q_a E))) = q_fl E f i (ks.set k (some y))
  | [], _, k, h => by simp at h
  | none :: r, i, 0, h => by simp at h
  | some _ :: r, i, 0, _ => by simp [q_fl]
  | none :: r, i, k + 1, h => by
    have := q_fl_setr (E := E) (f := f) (y := y) r (i + 1) k (by simpa using h)
    simp [q_fl, this]
  | some _ :: r, i, k + 1, h => by
    have := q_fl_setr (E := E) (f := f) (y := y) r (i + 1) k (by simpa using h)
    simp [q_fl, this]
/-- the memory with one place changed -/
def q_up (σ : q_M) (a k : Nat) (v : Int32) : q_M := fun b => if b = a then upd (σ a) k v else σ b
theorem q_up_same (σ : q_M) (a k : Nat) (v : Int32) : q_up σ a k v a = upd (σ a) k v := if_pos rfl
theorem q_up_ne {σ : q_M} {a b k : Nat} {v : Int32} (h : b ≠ a) : q_up σ a k v b = σ b := if_neg h
theorem q_up_at (σ : q_M) (a k : Nat) (v : Int32) : q_up σ a k v a k = v := by simp [q_up, upd]
theorem q_up_off {σ : q_M} {a k b j : Nat} {v : Int32} (h : ¬ (b = a ∧ j = k)) : q_up σ a k v b j = σ b j := by
  unfold q_up
  by_cases hb : b = a
  · subst hb
    rw [if_pos rfl]
    exact if_neg (fun e => h ⟨rfl, e⟩)
  · rw [if_neg hb]
theorem q_w_set {E : q_E} {sh : List q_S} {σ : q_M} {a k : Nat} {v : Int32} {x : q_S} (h : sh[a]? = some x) {c : va_E} (hc : c = q_c E (upd (σ a) k v) x) : (q_w E sh σ).set a (q_h0 E + a, c) = q_w E sh (q_up σ a k v) := by
  subst hc
  apply List.ext_getElem?
  intro j
  rw [List.getElem?_set, q_w_len]
  by_cases hj : a = j
  · subst hj
    have hl : a < sh.length := (List.getElem?_eq_some_iff.mp h).1
    rw [if_pos rfl, if_pos hl, q_w_at h, q_up_same]
  · rw [if_neg hj]
    cases hs : sh[j]? with
    | none =>
      unfold q_w
      rw [List.getElem?_mapIdx, List.getElem?_mapIdx, hs]
      rfl
    | some y => rw [q_w_at hs, q_w_at hs, q_up_ne (fun e => hj e.symm)]
theorem q_w_sets {E : q_E} {sh : List q_S} {σ : q_M} {a : Nat} {x y : q_S} (h : sh[a]? = some x) : (q_w E sh σ).set a (q_h0 E + a, q_c E (σ a) y) = q_w E (sh.set a y) σ := by
  apply List.ext_getElem?
  intro j
  have hl : a < sh.length := (List.getElem?_eq_some_iff.mp h).1
  rw [List.getElem?_set, q_w_len]
  by_cases hj : a = j
  · subst hj
    rw [if_pos rfl, if_pos hl, q_w_at (x := y) (by rw [List.getElem?_set, if_pos rfl, if_pos hl])]
  · rw [if_neg hj]
    have e : (sh.set a y)[j]? = sh[j]? := by rw [List.getElem?_set, if_neg hj]
    unfold q_w
    rw [List.getElem?_mapIdx, List.getElem?_mapIdx, e]
theorem q_w_app {E : q_E} {sh : List q_S} {σ : q_M} {x : q_S} {c : va_E} (hc : c = q_c E (σ sh.length) x) : q_w E sh σ ++ [(q_h0 E + sh.length, c)] = q_w E (sh ++ [x]) σ := by
  subst hc
  unfold q_w
  rw [List.mapIdx_append]
  simp
/-- the memory with a whole cell changed -/
def q_put (σ : q_M) (a : Nat) (f : Nat → Int32) : q_M := fun b => if b = a then f else σ b
theorem q_w_far {E : q_E} {sh : List q_S} {σ : q_M} {f : Nat → Int32} : q_w E sh (q_put σ sh.length f) = q_w E sh σ := by
  apply List.ext_getElem?
  intro j
  cases hs : sh[j]? with
  | none =>
    unfold q_w
    rw [List.getElem?_mapIdx, List.getElem?_mapIdx, hs]
    rfl
  | some y =>
    have hl : j < sh.length := (List.getElem?_eq_some_iff.mp hs).1
    rw [q_w_at hs, q_w_at hs]
    simp [q_put, show j ≠ sh.length by omega]
/-! locals by their places -/
def q_en (E : q_E) : Nat → List (Option Value) → List (Nat × Value)
  | _, [] => []
  | i, none :: r => q_en E (i + 1) r
  | i, some v :: r => (i, q_v E v) :: q_en E (i + 1) r
theorem q_en_mem {E : q_E} : ∀ (l : List (Option Value)) (i : Nat) (q : Nat × Value), q ∈ q_en E i l ↔ ∃ (k : Nat) (v : Value), l[k]? = some (some v) ∧ q = (i + k, q_v E v)
  | [], i, q => by simp [q_en]
  | none :: r, i, q => by
    rw [q_en, q_en_mem r (i + 1) q]
    constructor
    · rintro ⟨k, v, h1, h2⟩
      exact ⟨k + 1, v, by simpa using h1, by rw [h2, show i + 1 + k = i + (k + 1) by omega]⟩
    · rintro ⟨k, v, h1, h2⟩
      cases k with
      | zero => simp at h1
      | succ k => exact ⟨k, v, by simpa using h1, by rw [h2, show i + (k + 1) = i + 1 + k by omega]⟩
  | some w :: r, i, q => by
    rw [q_en, List.mem_cons, q_en_mem r (i + 1) q]
    constructor
    · rintro (h | ⟨k, v, h1, h2⟩)
      · exact ⟨0, w, rfl, h⟩
      · exact ⟨k + 1, v, by simpa using h1, by rw [h2, show i + 1 + k = i + (k + 1) by omega]⟩
    · rintro ⟨k, v, h1, h2⟩
      cases k with
      | zero =>
        have e : some (some w) = some (some v) := h1
        cases e
        exact Or.inl h2
      | succ k => exact Or.inr ⟨k, v, by simpa using h1, by rw [h2, show i + (k + 1) = i + 1 + k by omega]⟩
def q_ls (E : q_E) (a : Array Slot) (n : Nat) (l : List (Option Value)) : Prop := lv_has a n (q_en E 0 l)
theorem q_ls_at {E : q_E} {a : Array Slot} {n : Nat} {l : List (Option Value)} (h : q_ls E a n l) {k : Nat} {v : Value} (hk : l[k]? = some (some v)) : a[k]? = some (.val (q_v E v)) := h.2.2 (k, q_v E v) ((q_en_mem l 0 _).mpr ⟨k, v, hk, by rw [Nat.zero_add]⟩)
theorem q_ls_sub {E : q_E} {a : Array Slot} {n : Nat} {l l' : List (Option Value)} (h : q_ls E a n l) (hs : ∀ (k : Nat) (v : Value), l'[k]? = some (some v) → l[k]? = some (some v)) : q_ls E a n l' := by
  refine ⟨h.1, h.2.1, fun q hq => ?_⟩
  obtain ⟨k, v, h1, rfl⟩ := (q_en_mem l' 0 q).mp hq
  rw [Nat.zero_add]
  exact q_ls_at h (hs k v h1)
/-- a value stored: a long just ahead of it is gone -/
def q_kl (l : List (Option Value)) : Nat → List (Option Value)
  | 0 => l
  | k + 1 => match l[k]? with
    | some (some w) => if w.category = 2 then l.set k none else l
    | _ => l
def q_st (l : List (Option Value)) (i : Nat) (v : Value) : List (Option Value) := (q_kl l i).set i (some v)
def q_st2 (l : List (Option Value)) (i : Nat) (v : Value) : List (Option Value) := ((q_kl l i).set i (some v)).set (i + 1) none
theorem q_kl_get {l : List (Option Value)} {i k : Nat} {w : Value} (h : (q_kl l i)[k]? = some (some w)) : l[k]? = some (some w) ∧ ¬ (k + 1 = i ∧ w.category = 2) := by
  cases i with
  | zero => exact ⟨h, fun e => by omega⟩
  | succ j =>
    have h2 : (match l[j]? with
      | some (some w) => if w.category = 2 then l.set j none else l
      | _ => l)[k]? = some (some w) := h
    clear h
    cases hj : l[j]? with
    | none =>
      rw [hj] at h2
      refine ⟨h2, fun e => ?_⟩
      have hk : k = j := by omega
      subst hk
      exact absurd (hj.symm.trans h2) (by simp)
    | some o =>
      cases o with
      | none =>
        rw [hj] at h2
        refine ⟨h2, fun e => ?_⟩
        have hk : k = j := by omega
        subst hk
        exact absurd (hj.symm.trans h2) (by simp)
      | some w0 =>
        rw [hj] at h2
        dsimp only at h2
        by_cases hc : w0.category = 2
        · rw [if_pos hc, List.getElem?_set] at h2
          by_cases hne : j = k
          · rw [if_pos hne] at h2
            split at h2 <;> simp at h2
          · rw [if_neg hne] at h2
            exact ⟨h2, fun e => hne (by omega)⟩
        · rw [if_neg hc] at h2
          refine ⟨h2, fun e => ?_⟩
          have hk : k = j := by omega
          subst hk
          have e2 := hj.symm.trans h2
          simp at e2
          exact hc (by rw [e2]; exact e.2)
theorem q_ls_st {E : q_E} {a' : Array Slot} {n i : Nat} {l : List (Option Value)} {v : Value} (h : lv_has a' n ((i, q_v E v) :: (q_en E 0 l).filter (fun q => !(q.1 == i) && !(q.1 + 1 == i && q.2.category == 2)))) : q_ls E a' n (q_st l i v) := by
  refine ⟨h.1, h.2.1, fun q hq => ?_⟩
  obtain ⟨k, w, h1, rfl⟩ := (q_en_mem _ 0 q).mp hq
  rw [Nat.zero_add]
  refine h.2.2 (k, q_v E w) ?_
  unfold q_st at h1
  rw [List.getElem?_set] at h1
  split at h1
  · rename_i hik
    split at h1
    · cases h1
      subst hik
      exact List.mem_cons_self
    · simp at h1
  · rename_i hik
    obtain ⟨g1, g2⟩ := q_kl_get h1
    refine List.mem_cons_of_mem _ (List.mem_filter.mpr ⟨(q_en_mem l 0 _).mpr ⟨k, w, g1, by rw [Nat.zero_add]⟩, ?_⟩)
    simp only [q_v_cat, Bool.and_eq_true, Bool.not_eq_true', beq_eq_false_iff_ne, ne_eq]
    refine ⟨fun e => hik e.symm, ?_⟩
    rw [Bool.and_eq_false_iff]
    by_cases hk : k + 1 = i
    · exact Or.inr (by simpa using fun e => g2 ⟨hk, e⟩)
    · exact Or.inl (by simpa using hk)
theorem q_ls_st2 {E : q_E} {a' : Array Slot} {n i : Nat} {l : List (Option Value)} {v : Value} (h : lv_has a' n ((i, q_v E v) :: (q_en E 0 l).filter (fun q => !(q.1 == i) && (!(q.1 == i + 1) && !(q.1 + 1 == i && q.2.category == 2))))) : q_ls E a' n (q_st2 l i v) := by
  refine ⟨h.1, h.2.1, fun q hq => ?_⟩
  obtain ⟨k, w, h1, rfl⟩ := (q_en_mem _ 0 q).mp hq
  rw [Nat.zero_add]
  refine h.2.2 (k, q_v E w) ?_
  unfold q_st2 at h1
  rw [List.getElem?_set] at h1
  split at h1
  · split at h1 <;> simp at h1
  · rename_i hi1
    rw [List.getElem?_set] at h1
    split at h1
    · rename_i hik
      split at h1
      · cases h1
        subst hik
        exact List.mem_cons_self
      · simp at h1
    · rename_i hik
      obtain ⟨g1, g2⟩ := q_kl_get h1
      refine List.mem_cons_of_mem _ (List.mem_filter.mpr ⟨(q_en_mem l 0 _).mpr ⟨k, w, g1, by rw [Nat.zero_add]⟩, ?_⟩)
      simp only [q_v_cat, Bool.and_eq_true, Bool.not_eq_true', beq_eq_false_iff_ne, ne_eq]
      refine ⟨fun e => hik e.symm, fun e => hi1 e.symm, ?_⟩
      rw [Bool.and_eq_false_iff]
      by_cases hk : k + 1 = i
      · exact Or.inr (by simpa using fun e => g2 ⟨hk, e⟩)
      · exact Or.inl (by simpa using hk)
end
section
/-! THE JUDGEMENT: a method at a place, over the abstract world, comes to a return that Q allows -/
abbrev q_Y : Type := MethodName × ByteArray × Nat × Option FieldType × Room
abbrev q_y (Y : q_Y) : MethodName := Y.1
abbrev q_cc (Y : q_Y) : ByteArray := Y.2.1
abbrev q_mx (Y : q_Y) : Nat := Y.2.2.1
abbrev q_rt (Y : q_Y) : Option FieldType := Y.2.2.2.1
abbrev q_rm (Y : q_Y) : Room := Y.2.2.2.2
abbrev q_P : Type := Option Int32 → List q_S → q_M → Prop
def q_T : List Cond := lw_tbl.filter goodWord
theorem q_in (i : Nat) {w : Cond} (h : lw_tbl[i]? = some w) (hg : goodWord w = true) : w ∈ q_T := List.mem_filter.mpr ⟨List.mem_of_getElem? h, hg⟩
theorem q_T_good : ∀ w ∈ q_T, goodWord w = true := fun _ h => (List.mem_filter.mp h).2
def q_ws (Y : q_Y) : List Cond := Cond.code (q_y Y) (q_cc Y) (q_mx Y) (q_rt Y) :: q_T
theorem q_good {Y Y2 : q_Y} (h : Cond.code (q_y Y2) (q_cc Y2) (q_mx Y2) (q_rt Y2) ∈ q_T) : GoodIn (q_ws Y) (q_ws Y2) := by
  intro w hw
  rcases List.mem_cons.mp hw with rfl | hw
  · exact ⟨List.mem_cons_of_mem _ h, good_of_word rfl⟩
  · exact ⟨List.mem_cons_of_mem _ hw, good_of_word (q_T_good w hw)⟩
def q_tys (E : q_E) : List (ClassId × FieldType) := [(q_cT E 0, .int), (q_cT E 1, .byte), (q_cT E 2, .boolean), (q_cT E 3, .object "DiverBottle$Diver"), (q_cT E 4, .object "DiverBottle$Scene"), (q_cT E 5, .object "DiverBottle$Sheet")]
def q_K (E : q_E) (U : State) : Prop := va_K (q_D E) q_cls (q_tys E) U
/-- constants: the three static rows, the script, words of nest mates and of rows of references -/
def q_tab : Nat → Nat → Int32
  | 1, k => [10, 800, 250, 1, 0, 0, 0].getD k 0
  | 2, k => [200, 1200, 350, 64, 201, 99, 999].getD k 0
  | 3, k => [100, 1000, 293, 8, 201, 0, 0].getD k 0
  | _, _ => 0
def q_nm : Nat → String
  | 1 => "RULE_LEAST"
  | 2 => "RULE_MOST"
  | _ => "RULE_FIRST"
def q_nest : Cond → Bool
  | .methodLinkNest .. => true
  | .fieldLinkNest .. => true
  | _ => false
def q_N : List Cond := lw_tbl.filter q_nest
theorem q_inN (i : Nat) {w : Cond} (h : lw_tbl[i]? = some w) (hg : q_nest w = true) : w ∈ q_N := List.mem_filter.mpr ⟨List.mem_of_getElem? h, hg⟩
def q_X (E : q_E) (A : Nat → Prop) (U : State) (H : Heap) : Prop :=
  (∀ j, 1 ≤ j → j ≤ 3 → va_T .int (q_aS E j) 7 (fun k => .int (q_tab j k)) A U H ∧ va_Z "DiverBottle" (q_nm j) "[I" (.ref (q_aS E j)) A U H) ∧
  va_T .int (q_aS E 0) (q_L E) (fun k => .int (q_xs E k)) A U H ∧ (∀ w ∈ q_N, va_Nw w U) ∧
  (va_AO "DiverBottle$Diver" U ∧ va_AO "DiverBottle$Scene" U ∧ va_AO "DiverBottle$Sheet" U)
theorem q_X.kept {E : q_E} {A : Nat → Prop} {U : State} {H H1 : Heap} (h : q_X E A U H) (hq : ∀ a : Nat, a < H.size → ¬ A a → H1[a]? = H[a]?) : q_X E A U H1 :=
  ⟨fun j h1 h2 => ⟨(h.1 j h1 h2).1.kept hq, (h.1 j h1 h2).2.kept hq⟩, h.2.1.kept hq, h.2.2.1, h.2.2.2⟩
theorem q_X.narrow {E : q_E} {A B : Nat → Prop} {U : State} {H : Heap} (h : q_X E A U H) (hAB : ∀ q, B q → A q) : q_X E B U H :=
  ⟨fun j h1 h2 => ⟨(h.1 j h1 h2).1.narrow hAB, (h.1 j h1 h2).2.narrow hAB⟩, h.2.1.narrow hAB, h.2.2.1, h.2.2.2⟩
theorem q_Nw_warm {w : Cond} (hw : q_nest w = true) {s U : State} (hW : s.WarmedH U.vm) (h : va_Nw w s) : va_Nw w U := by
  cases w <;> first | exact va_Nw.warmF hW h | exact va_Nw.warmM hW h | cases hw
theorem q_Nw_same {w : Cond} (hw : q_nest w = true) {s U : State} (hv : s.vm = U.vm) (h : va_Nw w s) : va_Nw w U := by
  cases w <;> first | exact va_Nw.same rfl hv h | cases hw
theorem q_X.warm {E : q_E} {A : Nat → Prop} {s U : State} {H : Heap} (hW : s.WarmedH U.vm) (h : q_X E A s H) : q_X E A U H :=
  ⟨fun j h1 h2 => ⟨(h.1 j h1 h2).1.moved hW.alike, (h.1 j h1 h2).2.moved hW.alike⟩, h.2.1.moved hW.alike, fun w hw => q_Nw_warm (List.mem_filter.mp hw).2 hW (h.2.2.1 w hw), va_AO.moved hW.alike h.2.2.2.1, va_AO.moved hW.alike h.2.2.2.2.1, va_AO.moved hW.alike h.2.2.2.2.2⟩
theorem q_X.same {E : q_E} {A : Nat → Prop} {s U : State} {H : Heap} (hv : s.vm = U.vm) (h : q_X E A s H) : q_X E A U H :=
  ⟨fun j h1 h2 => ⟨(h.1 j h1 h2).1.moved (hv ▸ Vm.Alike.refl s.vm), (h.1 j h1 h2).2.moved (hv ▸ Vm.Alike.refl s.vm)⟩, h.2.1.moved (hv ▸ Vm.Alike.refl s.vm), fun w hw => q_Nw_same (List.mem_filter.mp hw).2 hv (h.2.2.1 w hw), va_AO.moved (hv ▸ Vm.Alike.refl s.vm) h.2.2.2.1, va_AO.moved (hv ▸ Vm.Alike.refl s.vm) h.2.2.2.2.1, va_AO.moved (hv ▸ Vm.Alike.refl s.vm) h.2.2.2.2.2⟩
/-- the machine around a method that runs -/
def q_Cx (Y : q_Y) (E : q_E) (p : Program) (s : State) (m : MethodId) (args : Array Value) (meth : Method) (c : Code) (A : Nat → Prop) : Prop :=
  p.tables.exec = Jvm.exec ∧ c.code = q_cc Y ∧ c.maxLocals = q_mx Y ∧ s.vm.findClass (q_y Y).cls = some m.cls ∧ (∀ w ∈ q_ws Y, w.before args s = true) ∧ q_K E s ∧ q_X E A s s.heap ∧ (∀ q, s.heap.size ≤ q → A q) ∧ (∀ q, A q → q_h0 E ≤ q) ∧ ((q_y Y).name = "<init>" → meth.name = "<init>")
def q_Wd (Y : q_Y) (E : q_E) (u v : Nat) (sh : List q_S) (σ : q_M) (A : Nat → Prop) (s : State) (H : Heap) (locs : List Loc) : Prop :=
  va_P (q_D E) q_cls (q_w E sh σ) H ∧ va_D A (q_w E sh σ) ∧ va_S A s.heap H locs ∧ (s.heap.size + u = q_h0 E + sh.length ∧ q_h0 E ≤ s.heap.size) ∧ sh.length ≤ 1000000 ∧ u ≤ (q_rm Y).cells ∧ v ≤ (q_rm Y).slots
def q_Fn (Y : q_Y) (E : q_E) (p : Program) (l : Launch) (e : Env) (s : State) (m : MethodId) (args : Array Value) (below : List Frame) (meth : Method) (c : Code) (A : Nat → Prop) (Z : State → Prop) (Q : q_P) : Prop :=
  ∀ (r : Option Int32) (u v : Nat) (sh : List q_S) (σ : q_M) (H : Heap) (locs : List Loc) (lsA : Array Slot) (pc : Nat), Q r sh σ → q_Wd Y E u v sh σ A s H locs → (u = (q_rm Y).cells ∨ (q_y Y).cls = "DiverBottleLaw") →
    (match r with
      | none => q_rt Y = none ∧ decode (q_cc Y) pc = .ok (.return_, 1)
      | some x => (∃ ty, q_rt Y = some ty ∧ narrow ty (.int x) = .int x) ∧ decode (q_cc Y) pc = .ok (.ireturn, 1)) →
    W p l e (q_rm Y) s m args below meth c H locs u v Z (F0 m pc lsA (r.toList.map Value.int))
def q_G (Y : q_Y) (E : q_E) (u v : Nat) (pc : Nat) (ls : List (Option Value)) (st : List Value) (sh : List q_S) (σ : q_M) (Q : q_P) : Prop :=
  ∀ (p : Program) (l : Launch) (e : Env) (s : State) (m : MethodId) (args : Array Value) (below : List Frame) (meth : Method) (c : Code) (A : Nat → Prop) (Z : State → Prop) (H : Heap) (locs : List Loc) (lsA : Array Slot),
    q_Cx Y E p s m args meth c A → q_Fn Y E p l e s m args below meth c A Z Q → q_Wd Y E u v sh σ A s H locs → q_ls E lsA (q_mx Y) ls →
    W p l e (q_rm Y) s m args below meth c H locs u v Z (F0 m pc lsA (st.map (q_v E)))
section QG
variable {Y : q_Y} {E : q_E} {u v pc : Nat} {ls : List (Option Value)} {st : List Value} {sh : List q_S} {σ : q_M} {Q : q_P}
theorem q_iret {x : Int32} (hd : decode (q_cc Y) pc = .ok (.ireturn, 1)) (hq : Q (some x) sh σ) (hn : ∃ ty, q_rt Y = some ty ∧ narrow ty (.int x) = .int x) (hu : u = (q_rm Y).cells ∨ (q_y Y).cls = "DiverBottleLaw") : q_G Y E u v pc ls [.int x] sh σ Q :=
  fun _ _ _ _ _ _ _ _ _ _ _ _ _ _ _ hF hW _ => hF (some x) u v sh σ _ _ _ pc hq hW hu ⟨hn, hd⟩
theorem q_vret (hd : decode (q_cc Y) pc = .ok (.return_, 1)) (hq : Q none sh σ) (hn : q_rt Y = none) (hu : u = (q_rm Y).cells) : q_G Y E u v pc ls [] sh σ Q :=
  fun _ _ _ _ _ _ _ _ _ _ _ _ _ _ _ hF hW _ => hF none u v sh σ _ _ _ pc hq hW (Or.inl hu) ⟨hn, hd⟩
theorem q_lsub {ls' : List (Option Value)} (hs : ∀ (k : Nat) (w : Value), ls'[k]? = some (some w) → ls[k]? = some (some w)) (k : q_G Y E u v pc ls' st sh σ Q) : q_G Y E u v pc ls st sh σ Q :=
  fun p l e s m args below meth c A Z H locs lsA hC hF hW hl => k p l e s m args below meth c A Z H locs lsA hC hF hW (q_ls_sub hl hs)
theorem q_weak {Q' : q_P} (hs : ∀ r a b, Q' r a b → Q r a b) (k : q_G Y E u v pc ls st sh σ Q') : q_G Y E u v pc ls st sh σ Q :=
  fun p l e s m args below meth c A Z H locs lsA hC hF hW hl => k p l e s m args below meth c A Z H locs lsA hC (fun r u v sh σ H locs lsA pc hq hW hu hd => hF r u v sh σ H locs lsA pc (hs _ _ _ hq) hW hu hd) hW hl
-- constants
theorem q_iconst {n : Int} {x : Int32} (hd : decode (q_cc Y) pc = .ok (.iconst n, 1)) (hx : Int32.ofInt n = x) (k : q_G Y E u v (pc + 1) ls (.int x :: st) sh σ Q) : q_G Y E u v pc ls st sh σ Q :=
  fun p l e s m args below meth c A Z H locs lsA hC hF hW hl => lv_iconst hC.1 hC.2.1 hd hx (k p l e s m args below meth c A Z H locs lsA hC hF hW hl)
theorem q_bipush {n : Int} {x : Int32} (hd : decode (q_cc Y) pc = .ok (.bipush n, 2)) (hx : (Int8.ofInt n).toInt32 = x) (k : q_G Y E u v (pc + 2) ls (.int x :: st) sh σ Q) : q_G Y E u v pc ls st sh σ Q :=
  fun p l e s m args below meth c A Z H locs lsA hC hF hW hl => lv_bipush hC.1 hC.2.1 hd hx (k p l e s m args below meth c A Z H locs lsA hC hF hW hl)
theorem q_sipush {n : Int} {x : Int32} (hd : decode (q_cc Y) pc = .ok (.sipush n, 3)) (hx : (Int16.ofInt n).toInt32 = x) (k : q_G Y E u v (pc + 3) ls (.int x :: st) sh σ Q) : q_G Y E u v pc ls st sh σ Q :=
  fun p l e s m args below meth c A Z H locs lsA hC hF hW hl => lv_sipush hC.1 hC.2.1 hd hx (k p l e s m args below meth c A Z H locs lsA hC hF hW hl)
theorem q_lconst {n : Fin 2} {x : Int64} (hd : decode (q_cc Y) pc = .ok (.lconst n, 1)) (hx : Int64.ofNat (n : Nat) = x) (k : q_G Y E u v (pc + 1) ls (.long x :: st) sh σ Q) : q_G Y E u v pc ls st sh σ Q :=
  fun p l e s m args below meth c A Z H locs lsA hC hF hW hl => lv_lconst hC.1 hC.2.1 hd hx (k p l e s m args below meth c A Z H locs lsA hC hF hW hl)
theorem q_ldc {i : Nat} {x : Int32} (hw : Cond.constant (q_y Y).cls i x ∈ q_T) (hd : decode (q_cc Y) pc = .ok (.ldc i, 2)) (k : q_G Y E u v (pc + 2) ls (.int x :: st) sh σ Q) : q_G Y E u v pc ls st sh σ Q :=
  fun p l e s m args below meth c A Z H locs lsA hC hF hW hl => lv_ldc hC.1 hC.2.1 hC.2.2.2.1 (hC.2.2.2.2.1 _ (List.mem_cons_of_mem _ hw)) hd (k p l e s m args below meth c A Z H locs lsA hC hF hW hl)
theorem q_ldc2 {i : Nat} {x : Int64} (hw : Cond.constantLong (q_y Y).cls i x ∈ q_T) (hd : decode (q_cc Y) pc = .ok (.ldc2_w i, 3)) (k : q_G Y E u v (pc + 3) ls (.long x :: st) sh σ Q) : q_G Y E u v pc ls st sh σ Q :=
  fun p l e s m args below meth c A Z H locs lsA hC hF hW hl => lv_ldc2 hC.1 hC.2.1 hC.2.2.2.1 (hC.2.2.2.2.1 _ (List.mem_cons_of_mem _ hw)) hd (k p l e s m args below meth c A Z H locs lsA hC hF hW hl)
-- locals
theorem q_iload_n {n : Fin 4} {x : Int32} (hd : decode (q_cc Y) pc = .ok (.iload_n n, 1)) (hl0 : ls[(n : Nat)]? = some (some (.int x))) (k : q_G Y E u v (pc + 1) ls (.int x :: st) sh σ Q) : q_G Y E u v pc ls st sh σ Q :=
  fun p l e s m args below meth c A Z H locs lsA hC hF hW hl => lv_iload_n hC.1 hC.2.1 hd rfl (q_ls_at hl hl0) (k p l e s m args below meth c A Z H locs lsA hC hF hW hl)
theorem q_iload {n : Nat} {x : Int32} (hd : decode (q_cc Y) pc = .ok (.iload n, 2)) (hl0 : ls[n]? = some (some (.int x))) (k : q_G Y E u v (pc + 2) ls (.int x :: st) sh σ Q) : q_G Y E u v pc ls st sh σ Q :=
  fun p l e s m args below meth c A Z H locs lsA hC hF hW hl => lv_iload hC.1 hC.2.1 hd (q_ls_at hl hl0) (k p l e s m args below meth c A Z H locs lsA hC hF hW hl)
theorem q_lload_n {n : Fin 4} {x : Int64} (hd : decode (q_cc Y) pc = .ok (.lload_n n, 1)) (hl0 : ls[(n : Nat)]? = some (some (.long x))) (k : q_G Y E u v (pc + 1) ls (.long x :: st) sh σ Q) : q_G Y E u v pc ls st sh σ Q :=
  fun p l e s m args below meth c A Z H locs lsA hC hF hW hl => lv_lload_n hC.1 hC.2.1 hd rfl (q_ls_at hl hl0) (k p l e s m args below meth c A Z H locs lsA hC hF hW hl)
theorem q_lload {n : Nat} {x : Int64} (hd : decode (q_cc Y) pc = .ok (.lload n, 2)) (hl0 : ls[n]? = some (some (.long x))) (k : q_G Y E u v (pc + 2) ls (.long x :: st) sh σ Q) : q_G Y E u v pc ls st sh σ Q :=
  fun p l e s m args below meth c A Z H locs lsA hC hF hW hl => lv_lload hC.1 hC.2.1 hd (q_ls_at hl hl0) (k p l e s m args below meth c A Z H locs lsA hC hF hW hl)
theorem q_aload_n {n : Fin 4} {x : Nat} (hd : decode (q_cc Y) pc = .ok (.aload_n n, 1)) (hl0 : ls[(n : Nat)]? = some (some (.ref x))) (k : q_G Y E u v (pc + 1) ls (.ref x :: st) sh σ Q) : q_G Y E u v pc ls st sh σ Q :=
  fun p l e s m args below meth c A Z H locs lsA hC hF hW hl => lv_aload_n hC.1 hC.2.1 hd rfl (q_ls_at hl hl0) (k p l e s m args below meth c A Z H locs lsA hC hF hW hl)
theorem q_aload {n : Nat} {x : Nat} (hd : decode (q_cc Y) pc = .ok (.aload n, 2)) (hl0 : ls[n]? = some (some (.ref x))) (k : q_G Y E u v (pc + 2) ls (.ref x :: st) sh σ Q) : q_G Y E u v pc ls st sh σ Q :=
  fun p l e s m args below meth c A Z H locs lsA hC hF hW hl => lv_aload hC.1 hC.2.1 hd (q_ls_at hl hl0) (k p l e s m args below meth c A Z H locs lsA hC hF hW hl)
theorem q_istore_n {n : Fin 4} {x : Int32} {ls' : List (Option Value)} (hd : decode (q_cc Y) pc = .ok (.istore_n n, 1)) (hn : (n : Nat) < q_mx Y) (hs : q_st ls n (.int x) = ls') (k : q_G Y E u v (pc + 1) ls' st sh σ Q) : q_G Y E u v pc ls (.int x :: st) sh σ Q :=
  fun p l e s m args below meth c A Z H locs lsA hC hF hW hl => lv_istore_n hC.1 hC.2.1 hd rfl hl hn rfl (fun lsB hB => k p l e s m args below meth c A Z H locs lsB hC hF hW (hs ▸ q_ls_st (v := .int x) hB))
theorem q_istore {n : Nat} {x : Int32} {ls' : List (Option Value)} (hd : decode (q_cc Y) pc = .ok (.istore n, 2)) (hn : n < q_mx Y) (hs : q_st ls n (.int x) = ls') (k : q_G Y E u v (pc + 2) ls' st sh σ Q) : q_G Y E u v pc ls (.int x :: st) sh σ Q :=
  fun p l e s m args below meth c A Z H locs lsA hC hF hW hl => lv_istore hC.1 hC.2.1 hd hl hn rfl (fun lsB hB => k p l e s m args below meth c A Z H locs lsB hC hF hW (hs ▸ q_ls_st (v := .int x) hB))
theorem q_astore_n {n : Fin 4} {x : Nat} {ls' : List (Option Value)} (hd : decode (q_cc Y) pc = .ok (.astore_n n, 1)) (hn : (n : Nat) < q_mx Y) (hs : q_st ls n (.ref x) = ls') (k : q_G Y E u v (pc + 1) ls' st sh σ Q) : q_G Y E u v pc ls (.ref x :: st) sh σ Q :=
  fun p l e s m args below meth c A Z H locs lsA hC hF hW hl => lv_astore_n hC.1 hC.2.1 hd rfl hl hn rfl (fun lsB hB => k p l e s m args below meth c A Z H locs lsB hC hF hW (hs ▸ q_ls_st (v := .ref x) hB))
theorem q_astore {n : Nat} {x : Nat} {ls' : List (Option Value)} (hd : decode (q_cc Y) pc = .ok (.astore n, 2)) (hn : n < q_mx Y) (hs : q_st ls n (.ref x) = ls') (k : q_G Y E u v (pc + 2) ls' st sh σ Q) : q_G Y E u v pc ls (.ref x :: st) sh σ Q :=
  fun p l e s m args below meth c A Z H locs lsA hC hF hW hl => lv_astore hC.1 hC.2.1 hd hl hn rfl (fun lsB hB => k p l e s m args below meth c A Z H locs lsB hC hF hW (hs ▸ q_ls_st (v := .ref x) hB))
theorem q_lstore {n : Nat} {x : Int64} {ls' : List (Option Value)} (hd : decode (q_cc Y) pc = .ok (.lstore n, 2)) (hn : n + 1 < q_mx Y) (hs : q_st2 ls n (.long x) = ls') (k : q_G Y E u v (pc + 2) ls' st sh σ Q) : q_G Y E u v pc ls (.long x :: st) sh σ Q :=
  fun p l e s m args below meth c A Z H locs lsA hC hF hW hl => lv_lstore hC.1 hC.2.1 hd hl hn rfl (fun lsB hB => k p l e s m args below meth c A Z H locs lsB hC hF hW (hs ▸ q_ls_st2 (v := .long x) hB))
theorem q_iinc {n : Nat} {d : Int} {x y : Int32} {ls' : List (Option Value)} (hd : decode (q_cc Y) pc = .ok (.iinc n d, 3)) (hl0 : ls[n]? = some (some (.int x))) (hy : x + Int32.ofInt d = y) (hn : n < q_mx Y) (hs : q_st ls n (.int y) = ls') (k : q_G Y E u v (pc + 3) ls' st sh σ Q) : q_G Y E u v pc ls st sh σ Q := by
  intro p l e s m args below meth c A Z H locs lsA hC hF hW hl
  have hm : (n, Value.int x) ∈ q_en E 0 ls := (q_en_mem ls 0 _).mpr ⟨n, .int x, hl0, by rw [Nat.zero_add]; rfl⟩
  obtain ⟨j, hj⟩ := List.getElem?_of_mem hm
  exact lv_iinc hC.1 hC.2.1 hd hl hj hy hn rfl (fun lsB hB => k p l e s m args below meth c A Z H locs lsB hC hF hW (hs ▸ q_ls_st (v := .int y) hB))
-- arithmetic
theorem q_iadd {x y : Int32} (hd : decode (q_cc Y) pc = .ok (.iadd, 1)) (k : q_G Y E u v (pc + 1) ls (.int (x + y) :: st) sh σ Q) : q_G Y E u v pc ls (.int y :: .int x :: st) sh σ Q :=
  fun p l e s m args below meth c A Z H locs lsA hC hF hW hl => lv_iadd hC.1 hC.2.1 hd (k p l e s m args below meth c A Z H locs lsA hC hF hW hl)
theorem q_isub {x y : Int32} (hd : decode (q_cc Y) pc = .ok (.isub, 1)) (k : q_G Y E u v (pc + 1) ls (.int (x - y) :: st) sh σ Q) : q_G Y E u v pc ls (.int y :: .int x :: st) sh σ Q :=
  fun p l e s m args below meth c A Z H locs lsA hC hF hW hl => lv_isub hC.1 hC.2.1 hd (k p l e s m args below meth c A Z H locs lsA hC hF hW hl)
theorem q_imul {x y : Int32} (hd : decode (q_cc Y) pc = .ok (.imul, 1)) (k : q_G Y E u v (pc + 1) ls (.int (x * y) :: st) sh σ Q) : q_G Y E u v pc ls (.int y :: .int x :: st) sh σ Q :=
  fun p l e s m args below meth c A Z H locs lsA hC hF hW hl => lv_imul hC.1 hC.2.1 hd (k p l e s m args below meth c A Z H locs lsA hC hF hW hl)
theorem q_iand {x y : Int32} (hd : decode (q_cc Y) pc = .ok (.iand, 1)) (k : q_G Y E u v (pc + 1) ls (.int (x &&& y) :: st) sh σ Q) : q_G Y E u v pc ls (.int y :: .int x :: st) sh σ Q :=
  fun p l e s m args below meth c A Z H locs lsA hC hF hW hl => lv_iand hC.1 hC.2.1 hd (k p l e s m args below meth c A Z H locs lsA hC hF hW hl)
theorem q_ior {x y : Int32} (hd : decode (q_cc Y) pc = .ok (.ior, 1)) (k : q_G Y E u v (pc + 1) ls (.int (x ||| y) :: st) sh σ Q) : q_G Y E u v pc ls (.int y :: .int x :: st) sh σ Q :=
  fun p l e s m args below meth c A Z H locs lsA hC hF hW hl => lv_ior hC.1 hC.2.1 hd (k p l e s m args below meth c A Z H locs lsA hC hF hW hl)
theorem q_idiv {x y : Int32} (hne : ¬ y = 0) (hd : decode (q_cc Y) pc = .ok (.idiv, 1)) (k : q_G Y E u v (pc + 1) ls (.int (x / y) :: st) sh σ Q) : q_G Y E u v pc ls (.int y :: .int x :: st) sh σ Q :=
  fun p l e s m args below meth c A Z H locs lsA hC hF hW hl => lv_idiv hC.1 hC.2.1 hd hne (k p l e s m args below meth c A Z H locs lsA hC hF hW hl)
theorem q_irem {x y : Int32} (hne : ¬ y = 0) (hd : decode (q_cc Y) pc = .ok (.irem, 1)) (k : q_G Y E u v (pc + 1) ls (.int (x - x / y * y) :: st) sh σ Q) : q_G Y E u v pc ls (.int y :: .int x :: st) sh σ Q :=
  fun p l e s m args below meth c A Z H locs lsA hC hF hW hl => lv_irem hC.1 hC.2.1 hd hne (k p l e s m args below meth c A Z H locs lsA hC hF hW hl)
theorem q_ixor {x y : Int32} (hd : decode (q_cc Y) pc = .ok (.ixor, 1)) (k : q_G Y E u v (pc + 1) ls (.int (x ^^^ y) :: st) sh σ Q) : q_G Y E u v pc ls (.int y :: .int x :: st) sh σ Q :=
  fun p l e s m args below meth c A Z H locs lsA hC hF hW hl => lv_ixor hC.1 hC.2.1 hd (k p l e s m args below meth c A Z H locs lsA hC hF hW hl)
theorem q_ineg {x : Int32} (hd : decode (q_cc Y) pc = .ok (.ineg, 1)) (k : q_G Y E u v (pc + 1) ls (.int (-x) :: st) sh σ Q) : q_G Y E u v pc ls (.int x :: st) sh σ Q :=
  fun p l e s m args below meth c A Z H locs lsA hC hF hW hl => lv_ineg hC.1 hC.2.1 hd (k p l e s m args below meth c A Z H locs lsA hC hF hW hl)
theorem q_ishl {x y : Int32} (hd : decode (q_cc Y) pc = .ok (.ishl, 1)) (k : q_G Y E u v (pc + 1) ls (.int (x <<< (y &&& 31)) :: st) sh σ Q) : q_G Y E u v pc ls (.int y :: .int x :: st) sh σ Q :=
  fun p l e s m args below meth c A Z H locs lsA hC hF hW hl => lv_ishl hC.1 hC.2.1 hd (k p l e s m args below meth c A Z H locs lsA hC hF hW hl)
theorem q_ishr {x y : Int32} (hd : decode (q_cc Y) pc = .ok (.ishr, 1)) (k : q_G Y E u v (pc + 1) ls (.int (x >>> (y &&& 31)) :: st) sh σ Q) : q_G Y E u v pc ls (.int y :: .int x :: st) sh σ Q :=
  fun p l e s m args below meth c A Z H locs lsA hC hF hW hl => lv_ishr hC.1 hC.2.1 hd (k p l e s m args below meth c A Z H locs lsA hC hF hW hl)
theorem q_ladd {x y : Int64} (hd : decode (q_cc Y) pc = .ok (.ladd, 1)) (k : q_G Y E u v (pc + 1) ls (.long (x + y) :: st) sh σ Q) : q_G Y E u v pc ls (.long y :: .long x :: st) sh σ Q :=
  fun p l e s m args below meth c A Z H locs lsA hC hF hW hl => lv_ladd hC.1 hC.2.1 hd (k p l e s m args below meth c A Z H locs lsA hC hF hW hl)
theorem q_land {x y : Int64} (hd : decode (q_cc Y) pc = .ok (.land, 1)) (k : q_G Y E u v (pc + 1) ls (.long (x &&& y) :: st) sh σ Q) : q_G Y E u v pc ls (.long y :: .long x :: st) sh σ Q :=
  fun p l e s m args below meth c A Z H locs lsA hC hF hW hl => lv_land hC.1 hC.2.1 hd (k p l e s m args below meth c A Z H locs lsA hC hF hW hl)
theorem q_lor {x y : Int64} (hd : decode (q_cc Y) pc = .ok (.lor, 1)) (k : q_G Y E u v (pc + 1) ls (.long (x ||| y) :: st) sh σ Q) : q_G Y E u v pc ls (.long y :: .long x :: st) sh σ Q :=
  fun p l e s m args below meth c A Z H locs lsA hC hF hW hl => lv_lor hC.1 hC.2.1 hd (k p l e s m args below meth c A Z H locs lsA hC hF hW hl)
theorem q_lshl {x : Int64} {y : Int32} (hd : decode (q_cc Y) pc = .ok (.lshl, 1)) (k : q_G Y E u v (pc + 1) ls (.long (x <<< (y.toInt64 &&& 63)) :: st) sh σ Q) : q_G Y E u v pc ls (.int y :: .long x :: st) sh σ Q :=
  fun p l e s m args below meth c A Z H locs lsA hC hF hW hl => lv_lshl hC.1 hC.2.1 hd rfl (k p l e s m args below meth c A Z H locs lsA hC hF hW hl)
theorem q_lshr {x : Int64} {y : Int32} (hd : decode (q_cc Y) pc = .ok (.lshr, 1)) (k : q_G Y E u v (pc + 1) ls (.long (x >>> (y.toInt64 &&& 63)) :: st) sh σ Q) : q_G Y E u v pc ls (.int y :: .long x :: st) sh σ Q :=
  fun p l e s m args below meth c A Z H locs lsA hC hF hW hl => lv_lshr hC.1 hC.2.1 hd rfl (k p l e s m args below meth c A Z H locs lsA hC hF hW hl)
theorem q_i2l {x : Int32} (hd : decode (q_cc Y) pc = .ok (.i2l, 1)) (k : q_G Y E u v (pc + 1) ls (.long x.toInt64 :: st) sh σ Q) : q_G Y E u v pc ls (.int x :: st) sh σ Q :=
  fun p l e s m args below meth c A Z H locs lsA hC hF hW hl => lv_i2l hC.1 hC.2.1 hd rfl (k p l e s m args below meth c A Z H locs lsA hC hF hW hl)
theorem q_l2i {x : Int64} (hd : decode (q_cc Y) pc = .ok (.l2i, 1)) (k : q_G Y E u v (pc + 1) ls (.int x.toInt32 :: st) sh σ Q) : q_G Y E u v pc ls (.long x :: st) sh σ Q :=
  fun p l e s m args below meth c A Z H locs lsA hC hF hW hl => lv_l2i hC.1 hC.2.1 hd rfl (k p l e s m args below meth c A Z H locs lsA hC hF hW hl)
theorem q_i2b {x : Int32} (hd : decode (q_cc Y) pc = .ok (.i2b, 1)) (k : q_G Y E u v (pc + 1) ls (.int x.toInt8.toInt32 :: st) sh σ Q) : q_G Y E u v pc ls (.int x :: st) sh σ Q :=
  fun p l e s m args below meth c A Z H locs lsA hC hF hW hl => lv_i2b hC.1 hC.2.1 hd rfl (k p l e s m args below meth c A Z H locs lsA hC hF hW hl)
theorem q_i2s {x : Int32} (hd : decode (q_cc Y) pc = .ok (.i2s, 1)) (k : q_G Y E u v (pc + 1) ls (.int x.toInt16.toInt32 :: st) sh σ Q) : q_G Y E u v pc ls (.int x :: st) sh σ Q :=
  fun p l e s m args below meth c A Z H locs lsA hC hF hW hl => lv_i2s hC.1 hC.2.1 hd rfl (k p l e s m args below meth c A Z H locs lsA hC hF hW hl)
theorem q_lcmp {x y : Int64} (hd : decode (q_cc Y) pc = .ok (.lcmp, 1)) (k : q_G Y E u v (pc + 1) ls (.int (lg_cmp x y) :: st) sh σ Q) : q_G Y E u v pc ls (.long y :: .long x :: st) sh σ Q :=
  fun p l e s m args below meth c A Z H locs lsA hC hF hW hl => W.lcmp hC.1 hC.2.1 hd (k p l e s m args below meth c A Z H locs lsA hC hF hW hl)
-- the stack
theorem q_dup {w : Value} (hw : w.category = 1) (hd : decode (q_cc Y) pc = .ok (.dup, 1)) (k : q_G Y E u v (pc + 1) ls (w :: w :: st) sh σ Q) : q_G Y E u v pc ls (w :: st) sh σ Q :=
  fun p l e s m args below meth c A Z H locs lsA hC hF hW hl => lv_dup hC.1 hC.2.1 hd (by rw [q_v_cat]; exact hw) (k p l e s m args below meth c A Z H locs lsA hC hF hW hl)
theorem q_pop {w : Value} (hw : w.category = 1) (hd : decode (q_cc Y) pc = .ok (.pop, 1)) (k : q_G Y E u v (pc + 1) ls st sh σ Q) : q_G Y E u v pc ls (w :: st) sh σ Q :=
  fun p l e s m args below meth c A Z H locs lsA hC hF hW hl => lv_pop hC.1 hC.2.1 hd (by rw [q_v_cat]; exact hw) (k p l e s m args below meth c A Z H locs lsA hC hF hW hl)
theorem q_dup2 {w w2 : Value} (hw : w.category = 1) (hw2 : w2.category = 1) (hd : decode (q_cc Y) pc = .ok (.dup2, 1)) (k : q_G Y E u v (pc + 1) ls (w :: w2 :: w :: w2 :: st) sh σ Q) : q_G Y E u v pc ls (w :: w2 :: st) sh σ Q :=
  fun p l e s m args below meth c A Z H locs lsA hC hF hW hl => lv_dup2_11 hC.1 hC.2.1 hd (by rw [q_v_cat]; exact hw) (by rw [q_v_cat]; exact hw2) (k p l e s m args below meth c A Z H locs lsA hC hF hW hl)
-- jumps
theorem q_goto {off : Int} (tgt : Nat) (hd : decode (q_cc Y) pc = .ok (.goto off, 3)) (ht : (pc : Int) + off = (tgt : Int)) (k : q_G Y E u v tgt ls st sh σ Q) : q_G Y E u v pc ls st sh σ Q :=
  fun p l e s m args below meth c A Z H locs lsA hC hF hW hl => lv_goto hC.1 hC.2.1 hd ht (k p l e s m args below meth c A Z H locs lsA hC hF hW hl)
theorem q_if_eq {x : Int32} {off : Int} (tgt : Nat) (hd : decode (q_cc Y) pc = .ok (.ifCond .eq off, 3)) (ht : (pc : Int) + off = (tgt : Int)) (kt : x = 0 → q_G Y E u v tgt ls st sh σ Q) (kf : ¬ x = 0 → q_G Y E u v (pc + 3) ls st sh σ Q) : q_G Y E u v pc ls (.int x :: st) sh σ Q :=
  fun p l e s m args below meth c A Z H locs lsA hC hF hW hl => lv_if_eq hC.1 hC.2.1 hd ht (fun h => kt h p l e s m args below meth c A Z H locs lsA hC hF hW hl) (fun h => kf h p l e s m args below meth c A Z H locs lsA hC hF hW hl)
theorem q_icmp_eq {x y : Int32} {off : Int} (tgt : Nat) (hd : decode (q_cc Y) pc = .ok (.if_icmp .eq off, 3)) (ht : (pc : Int) + off = (tgt : Int)) (kt : x = y → q_G Y E u v tgt ls st sh σ Q) (kf : ¬ x = y → q_G Y E u v (pc + 3) ls st sh σ Q) : q_G Y E u v pc ls (.int y :: .int x :: st) sh σ Q :=
  fun p l e s m args below meth c A Z H locs lsA hC hF hW hl => lv_icmp_eq hC.1 hC.2.1 hd ht (fun h => kt h p l e s m args below meth c A Z H locs lsA hC hF hW hl) (fun h => kf h p l e s m args below meth c A Z H locs lsA hC hF hW hl)
theorem q_if_ne {x : Int32} {off : Int} (tgt : Nat) (hd : decode (q_cc Y) pc = .ok (.ifCond .ne off, 3)) (ht : (pc : Int) + off = (tgt : Int)) (kt : ¬ x = 0 → q_G Y E u v tgt ls st sh σ Q) (kf : x = 0 → q_G Y E u v (pc + 3) ls st sh σ Q) : q_G Y E u v pc ls (.int x :: st) sh σ Q :=
  fun p l e s m args below meth c A Z H locs lsA hC hF hW hl => lv_if_ne hC.1 hC.2.1 hd ht (fun h => kt h p l e s m args below meth c A Z H locs lsA hC hF hW hl) (fun h => kf h p l e s m args below meth c A Z H locs lsA hC hF hW hl)
theorem q_icmp_ne {x y : Int32} {off : Int} (tgt : Nat) (hd : decode (q_cc Y) pc = .ok (.if_icmp .ne off, 3)) (ht : (pc : Int) + off = (tgt : Int)) (kt : ¬ x = y → q_G Y E u v tgt ls st sh σ Q) (kf : x = y → q_G Y E u v (pc + 3) ls st sh σ Q) : q_G Y E u v pc ls (.int y :: .int x :: st) sh σ Q :=
  fun p l e s m args below meth c A Z H locs lsA hC hF hW hl => lv_icmp_ne hC.1 hC.2.1 hd ht (fun h => kt h p l e s m args below meth c A Z H locs lsA hC hF hW hl) (fun h => kf h p l e s m args below meth c A Z H locs lsA hC hF hW hl)
theorem q_if_lt {x : Int32} {off : Int} (tgt : Nat) (hd : decode (q_cc Y) pc = .ok (.ifCond .lt off, 3)) (ht : (pc : Int) + off = (tgt : Int)) (kt : x < 0 → q_G Y E u v tgt ls st sh σ Q) (kf : ¬ x < 0 → q_G Y E u v (pc + 3) ls st sh σ Q) : q_G Y E u v pc ls (.int x :: st) sh σ Q :=
  fun p l e s m args below meth c A Z H locs lsA hC hF hW hl => lv_if_lt hC.1 hC.2.1 hd ht (fun h => kt h p l e s m args below meth c A Z H locs lsA hC hF hW hl) (fun h => kf h p l e s m args below meth c A Z H locs lsA hC hF hW hl)
theorem q_icmp_lt {x y : Int32} {off : Int} (tgt : Nat) (hd : decode (q_cc Y) pc = .ok (.if_icmp .lt off, 3)) (ht : (pc : Int) + off = (tgt : Int)) (kt : x < y → q_G Y E u v tgt ls st sh σ Q) (kf : ¬ x < y → q_G Y E u v (pc + 3) ls st sh σ Q) : q_G Y E u v pc ls (.int y :: .int x :: st) sh σ Q :=
  fun p l e s m args below meth c A Z H locs lsA hC hF hW hl => lv_icmp_lt hC.1 hC.2.1 hd ht (fun h => kt h p l e s m args below meth c A Z H locs lsA hC hF hW hl) (fun h => kf h p l e s m args below meth c A Z H locs lsA hC hF hW hl)
theorem q_if_ge {x : Int32} {off : Int} (tgt : Nat) (hd : decode (q_cc Y) pc = .ok (.ifCond .ge off, 3)) (ht : (pc : Int) + off = (tgt : Int)) (kt : 0 ≤ x → q_G Y E u v tgt ls st sh σ Q) (kf : ¬ 0 ≤ x → q_G Y E u v (pc + 3) ls st sh σ Q) : q_G Y E u v pc ls (.int x :: st) sh σ Q :=
  fun p l e s m args below meth c A Z H locs lsA hC hF hW hl => lv_if_ge hC.1 hC.2.1 hd ht (fun h => kt h p l e s m args below meth c A Z H locs lsA hC hF hW hl) (fun h => kf h p l e s m args below meth c A Z H locs lsA hC hF hW hl)
theorem q_icmp_ge {x y : Int32} {off : Int} (tgt : Nat) (hd : decode (q_cc Y) pc = .ok (.if_icmp .ge off, 3)) (ht : (pc : Int) + off = (tgt : Int)) (kt : y ≤ x → q_G Y E u v tgt ls st sh σ Q) (kf : ¬ y ≤ x → q_G Y E u v (pc + 3) ls st sh σ Q) : q_G Y E u v pc ls (.int y :: .int x :: st) sh σ Q :=
  fun p l e s m args below meth c A Z H locs lsA hC hF hW hl => lv_icmp_ge hC.1 hC.2.1 hd ht (fun h => kt h p l e s m args below meth c A Z H locs lsA hC hF hW hl) (fun h => kf h p l e s m args below meth c A Z H locs lsA hC hF hW hl)
theorem q_if_gt {x : Int32} {off : Int} (tgt : Nat) (hd : decode (q_cc Y) pc = .ok (.ifCond .gt off, 3)) (ht : (pc : Int) + off = (tgt : Int)) (kt : 0 < x → q_G Y E u v tgt ls st sh σ Q) (kf : ¬ 0 < x → q_G Y E u v (pc + 3) ls st sh σ Q) : q_G Y E u v pc ls (.int x :: st) sh σ Q :=
  fun p l e s m args below meth c A Z H locs lsA hC hF hW hl => lv_if_gt hC.1 hC.2.1 hd ht (fun h => kt h p l e s m args below meth c A Z H locs lsA hC hF hW hl) (fun h => kf h p l e s m args below meth c A Z H locs lsA hC hF hW hl)
theorem q_icmp_gt {x y : Int32} {off : Int} (tgt : Nat) (hd : decode (q_cc Y) pc = .ok (.if_icmp .gt off, 3)) (ht : (pc : Int) + off = (tgt : Int)) (kt : y < x → q_G Y E u v tgt ls st sh σ Q) (kf : ¬ y < x → q_G Y E u v (pc + 3) ls st sh σ Q) : q_G Y E u v pc ls (.int y :: .int x :: st) sh σ Q :=
  fun p l e s m args below meth c A Z H locs lsA hC hF hW hl => lv_icmp_gt hC.1 hC.2.1 hd ht (fun h => kt h p l e s m args below meth c A Z H locs lsA hC hF hW hl) (fun h => kf h p l e s m args below meth c A Z H locs lsA hC hF hW hl)
theorem q_if_le {x : Int32} {off : Int} (tgt : Nat) (hd : decode (q_cc Y) pc = .ok (.ifCond .le off, 3)) (ht : (pc : Int) + off = (tgt : Int)) (kt : x ≤ 0 → q_G Y E u v tgt ls st sh σ Q) (kf : ¬ x ≤ 0 → q_G Y E u v (pc + 3) ls st sh σ Q) : q_G Y E u v pc ls (.int x :: st) sh σ Q :=
  fun p l e s m args below meth c A Z H locs lsA hC hF hW hl => lv_if_le hC.1 hC.2.1 hd ht (fun h => kt h p l e s m args below meth c A Z H locs lsA hC hF hW hl) (fun h => kf h p l e s m args below meth c A Z H locs lsA hC hF hW hl)
theorem q_icmp_le {x y : Int32} {off : Int} (tgt : Nat) (hd : decode (q_cc Y) pc = .ok (.if_icmp .le off, 3)) (ht : (pc : Int) + off = (tgt : Int)) (kt : x ≤ y → q_G Y E u v tgt ls st sh σ Q) (kf : ¬ x ≤ y → q_G Y E u v (pc + 3) ls st sh σ Q) : q_G Y E u v pc ls (.int y :: .int x :: st) sh σ Q :=
  fun p l e s m args below meth c A Z H locs lsA hC hF hW hl => lv_icmp_le hC.1 hC.2.1 hd ht (fun h => kt h p l e s m args below meth c A Z H locs lsA hC hF hW hl) (fun h => kf h p l e s m args below meth c A Z H locs lsA hC hF hW hl)
theorem q_tabIn {dflt lo hi : Int} {offs : Array Int} {len : Nat} {x : Int32} {off : Int} (tgt : Nat) (hd : decode (q_cc Y) pc = .ok (.tableswitch dflt lo hi offs, len)) (h1 : ¬ x.toInt < lo) (h2 : ¬ hi < x.toInt) (ho : offs[(x.toInt - lo).toNat]? = some off) (ht : (pc : Int) + off = (tgt : Int)) (k : q_G Y E u v tgt ls st sh σ Q) : q_G Y E u v pc ls (.int x :: st) sh σ Q :=
  fun p l e s m args below meth c A Z H locs lsA hC hF hW hl => lv_tableIn hC.1 hC.2.1 hd h1 h2 ho ht (k p l e s m args below meth c A Z H locs lsA hC hF hW hl)
theorem q_tabOut {dflt lo hi : Int} {offs : Array Int} {len : Nat} {x : Int32} (tgt : Nat) (hd : decode (q_cc Y) pc = .ok (.tableswitch dflt lo hi offs, len)) (h : x.toInt < lo ∨ hi < x.toInt) (ht : (pc : Int) + dflt = (tgt : Int)) (k : q_G Y E u v tgt ls st sh σ Q) : q_G Y E u v pc ls (.int x :: st) sh σ Q :=
  fun p l e s m args below meth c A Z H locs lsA hC hF hW hl => lv_tableOut hC.1 hC.2.1 hd h ht (k p l e s m args below meth c A Z H locs lsA hC hF hW hl)
end QG
end
section
/-! fields, rows, constants -/
def q_fd (own : String) (idx ci k : Nat) (ty : FieldType) (fin : Bool) : Prop :=
  ∃ (C : String) (T : u_T) (N : Nat) (ty0 : Nat → FieldType), q_cls[ci]? = some (C, T, N) ∧ (∀ w ∈ u_ws C T N, w ∈ q_T) ∧ (∀ k, k < N → parseFieldDescriptor (T k).2.2.1 = some (ty0 k)) ∧ (∀ a, a < N → ∀ b, b < N → a ≠ b → (T a).2.1 ≠ (T b).2.1) ∧ k < N ∧ parseFieldDescriptor (T k).2.2.1 = some ty ∧ (T k).2.2.2 = fin ∧ (fin = true → (T k).1 = own) ∧ Cond.fieldLink own idx (T k).1 (T k).2.1 (T k).2.2.1 ∈ q_T
section QF
variable {Y : q_Y} {E : q_E} {u v pc : Nat} {ls : List (Option Value)} {st : List Value} {sh : List q_S} {σ : q_M} {Q : q_P}
theorem q_lt {a : Nat} {x : q_S} {A : Nat → Prop} {s : State} {H : Heap} {locs : List Loc} (hW : q_Wd Y E u v sh σ A s H locs) (h : sh[a]? = some x) : q_a E a = q_h0 E + a := q_a_lo (Nat.lt_of_lt_of_le (List.getElem?_eq_some_iff.mp h).1 hW.2.2.2.2.1)
theorem q_get {idx ci k a : Nat} {ty : FieldType} {fin : Bool} {ks : List (Option (Option Nat))} (hf : q_fd (q_y Y).cls idx ci k ty fin) (hd : decode (q_cc Y) pc = .ok (.getfield idx, 3)) (hs : sh[a]? = some (.inr (ci, ks))) (hk : ks[k]? = some none) (kk : q_G Y E u v (pc + 3) ls (.int (σ a k) :: st) sh σ Q) : q_G Y E u v pc ls (.ref a :: st) sh σ Q := by
  intro p l e s m args below meth c A Z H locs lsA hC hF hW hl
  obtain ⟨C, T, N, ty0, h1, h2, h3, h4, h5, h6, h7, h8, h9⟩ := hf
  show W p l e (q_rm Y) s m args below meth c H locs u v Z (F0 m pc lsA (.ref (q_a E a) :: st.map (q_v E)))
  rw [q_lt hW hs]
  refine va_get (D := q_D E) (cl := q_cls) (tys := q_tys E) (C := C) (T := T) (N := N) hC.1 hC.2.1 hC.2.2.2.2.1 (fun w hw => List.mem_cons_of_mem _ (h2 w hw)) hC.2.2.2.1 hC.2.2.2.2.2.1 hW.1 a (q_w_at hs) h1 k h5 (hC.2.2.2.2.1 _ (List.mem_cons_of_mem _ h9)) (fun _ h => h) (v := .int (σ a k)) ?_ hd (kk p l e s m args below meth c A Z H locs lsA hC hF hW hl)
  have := q_fl_int (E := E) (f := σ a) ks 0 k hk
  rwa [Nat.zero_add] at this
theorem q_getr {idx ci k a b : Nat} {ty : FieldType} {fin : Bool} {ks : List (Option (Option Nat))} (hf : q_fd (q_y Y).cls idx ci k ty fin) (hd : decode (q_cc Y) pc = .ok (.getfield idx, 3)) (hs : sh[a]? = some (.inr (ci, ks))) (hk : ks[k]? = some (some (some b))) (kk : q_G Y E u v (pc + 3) ls (.ref b :: st) sh σ Q) : q_G Y E u v pc ls (.ref a :: st) sh σ Q := by
  intro p l e s m args below meth c A Z H locs lsA hC hF hW hl
  obtain ⟨C, T, N, ty0, h1, h2, h3, h4, h5, h6, h7, h8, h9⟩ := hf
  show W p l e (q_rm Y) s m args below meth c H locs u v Z (F0 m pc lsA (.ref (q_a E a) :: st.map (q_v E)))
  rw [q_lt hW hs]
  exact va_get (D := q_D E) (cl := q_cls) (tys := q_tys E) (C := C) (T := T) (N := N) hC.1 hC.2.1 hC.2.2.2.2.1 (fun w hw => List.mem_cons_of_mem _ (h2 w hw)) hC.2.2.2.1 hC.2.2.2.2.2.1 hW.1 a (q_w_at hs) h1 k h5 (hC.2.2.2.2.1 _ (List.mem_cons_of_mem _ h9)) (fun _ h => h) (v := .ref (q_a E b)) (q_fl_ref (E := E) (f := σ a) ks 0 k hk) hd (kk p l e s m args below meth c A Z H locs lsA hC hF hW hl)
theorem q_put_i {idx ci k a : Nat} {ty : FieldType} {x : Int32} {ks : List (Option (Option Nat))} (hf : q_fd (q_y Y).cls idx ci k ty false) (hd : decode (q_cc Y) pc = .ok (.putfield idx, 3)) (hs : sh[a]? = some (.inr (ci, ks))) (hk : ks[k]? = some none) (hn : narrow ty (.int x) = .int x) (hfit : fits ty (.int x) = true) (kk : q_G Y E u v (pc + 3) ls st sh (q_up σ a k x) Q) : q_G Y E u v pc ls (.int x :: .ref a :: st) sh σ Q := by
  intro p l e s m args below meth c A Z H locs lsA hC hF hW hl
  obtain ⟨C, T, N, ty0, h1, h2, h3, h4, h5, h6, h7, h8, h9⟩ := hf
  show W p l e (q_rm Y) s m args below meth c H locs u v Z (F0 m pc lsA (.int x :: .ref (q_a E a) :: st.map (q_v E)))
  rw [q_lt hW hs]
  refine va_put (D := q_D E) (cl := q_cls) (tys := q_tys E) (C := C) (T := T) (N := N) hC.1 hC.2.1 hC.2.2.2.2.1 (fun w hw => List.mem_cons_of_mem _ (h2 w hw)) ty0 h3 h4 hC.2.2.2.1 hC.2.2.2.2.2.1 hW.1 hW.2.1 hW.2.2.1 a (q_w_at hs) h1 k h5 (hC.2.2.2.2.1 _ (List.mem_cons_of_mem _ h9)) (fun _ h => h) h7 h6 hn hfit ?_ hd (fun H1 locs1 hP hD hS => ?_)
  · rw [q_fl_len]
    exact (List.getElem?_eq_some_iff.mp hk).1
  · have e0 : (q_w E sh σ).set a (q_h0 E + a, .inr (ci, (q_fl E (σ a) 0 ks).set k (.int x))) = q_w E sh (q_up σ a k x) := q_w_set (k := k) (v := x) hs (by
      show Sum.inr _ = Sum.inr _
      have := q_fl_upd (E := E) (f := σ a) (v := x) ks 0 k hk
      rw [Nat.zero_add] at this
      rw [this])
    exact kk p l e s m args below meth c A Z H1 locs1 lsA hC hF ⟨e0 ▸ hP, e0 ▸ hD, hS, hW.2.2.2⟩ hl
theorem q_tys_at {E : q_E} {t : Nat} (i : Nat) (h : t = i) (hi : i < 6) : (q_tys E)[t]? = some (q_cT E t, [FieldType.int, .byte, .boolean, .object "DiverBottle$Diver", .object "DiverBottle$Scene", .object "DiverBottle$Sheet"].getD i .int) := by
  subst h
  rcases (show t = 0 ∨ t = 1 ∨ t = 2 ∨ t = 3 ∨ t = 4 ∨ t = 5 by omega) with rfl | rfl | rfl | rfl | rfl | rfl <;> rfl
theorem q_iald {a n : Nat} {i : Int32} (hs : sh[a]? = some (.inl (0, n, none))) (hin : vp_in i n) (hd : decode (q_cc Y) pc = .ok (.iaload, 1)) (kk : q_G Y E u v (pc + 1) ls (.int (σ a i.toNatClampNeg) :: st) sh σ Q) : q_G Y E u v pc ls (.int i :: .ref a :: st) sh σ Q := by
  intro p l e s m args below meth c A Z H locs lsA hC hF hW hl
  show W p l e (q_rm Y) s m args below meth c H locs u v Z (F0 m pc lsA (.int i :: .ref (q_a E a) :: st.map (q_v E)))
  rw [q_lt hW hs]
  exact va_iald hC.1 hC.2.1 hC.2.2.2.2.2.1 hW.1 a 0 (q_w_at hs) rfl hin hd (kk p l e s m args below meth c A Z H locs lsA hC hF hW hl)
theorem q_bald {a n : Nat} {i : Int32} (hs : sh[a]? = some (.inl (1, n, none))) (hin : vp_in i n) (hd : decode (q_cc Y) pc = .ok (.baload, 1)) (kk : q_G Y E u v (pc + 1) ls (.int (σ a i.toNatClampNeg) :: st) sh σ Q) : q_G Y E u v pc ls (.int i :: .ref a :: st) sh σ Q := by
  intro p l e s m args below meth c A Z H locs lsA hC hF hW hl
  show W p l e (q_rm Y) s m args below meth c H locs u v Z (F0 m pc lsA (.int i :: .ref (q_a E a) :: st.map (q_v E)))
  rw [q_lt hW hs]
  exact va_bald hC.1 hC.2.1 hC.2.2.2.2.2.1 hW.1 a 1 (q_w_at hs) rfl hin hd (kk p l e s m args below meth c A Z H locs lsA hC hF hW hl)
theorem q_zald {a n : Nat} {i : Int32} (hs : sh[a]? = some (.inl (2, n, none))) (hin : vp_in i n) (hd : decode (q_cc Y) pc = .ok (.baload, 1)) (kk : q_G Y E u v (pc + 1) ls (.int (σ a i.toNatClampNeg) :: st) sh σ Q) : q_G Y E u v pc ls (.int i :: .ref a :: st) sh σ Q := by
  intro p l e s m args below meth c A Z H locs lsA hC hF hW hl
  show W p l e (q_rm Y) s m args below meth c H locs u v Z (F0 m pc lsA (.int i :: .ref (q_a E a) :: st.map (q_v E)))
  rw [q_lt hW hs]
  exact va_zald hC.1 hC.2.1 hC.2.2.2.2.2.1 hW.1 a 2 (q_w_at hs) rfl hin hd (kk p l e s m args below meth c A Z H locs lsA hC hF hW hl)
theorem q_iast {a n : Nat} {i x : Int32} (hs : sh[a]? = some (.inl (0, n, none))) (hin : vp_in i n) (hd : decode (q_cc Y) pc = .ok (.iastore, 1)) (kk : q_G Y E u v (pc + 1) ls st sh (q_up σ a i.toNatClampNeg x) Q) : q_G Y E u v pc ls (.int x :: .int i :: .ref a :: st) sh σ Q := by
  intro p l e s m args below meth c A Z H locs lsA hC hF hW hl
  show W p l e (q_rm Y) s m args below meth c H locs u v Z (F0 m pc lsA (.int x :: .int i :: .ref (q_a E a) :: st.map (q_v E)))
  rw [q_lt hW hs]
  refine va_iast hC.1 hC.2.1 hC.2.2.2.2.2.1 hW.1 hW.2.1 hW.2.2.1 a 0 (q_w_at hs) rfl hin hd (fun H1 locs1 hP hD hS => ?_)
  have e0 : (q_w E sh σ).set a (q_h0 E + a, .inl (q_cT E 0, n, .inl (upd (σ a) i.toNatClampNeg x))) = q_w E sh (q_up σ a i.toNatClampNeg x) := q_w_set hs rfl
  exact kk p l _ s m args below meth c A Z H1 locs1 lsA hC hF ⟨e0 ▸ hP, e0 ▸ hD, hS, hW.2.2.2⟩ hl
theorem q_bast {a n : Nat} {i x : Int32} (hs : sh[a]? = some (.inl (1, n, none))) (hin : vp_in i n) (hd : decode (q_cc Y) pc = .ok (.bastore, 1)) (kk : q_G Y E u v (pc + 1) ls st sh (q_up σ a i.toNatClampNeg (vp_nar .byte x)) Q) : q_G Y E u v pc ls (.int x :: .int i :: .ref a :: st) sh σ Q := by
  intro p l e s m args below meth c A Z H locs lsA hC hF hW hl
  show W p l e (q_rm Y) s m args below meth c H locs u v Z (F0 m pc lsA (.int x :: .int i :: .ref (q_a E a) :: st.map (q_v E)))
  rw [q_lt hW hs]
  refine va_bast hC.1 hC.2.1 hC.2.2.2.2.2.1 hW.1 hW.2.1 hW.2.2.1 a 1 (q_w_at hs) rfl hin hd (fun H1 locs1 hP hD hS => ?_)
  have e0 : (q_w E sh σ).set a (q_h0 E + a, .inl (q_cT E 1, n, .inl (upd (σ a) i.toNatClampNeg (vp_nar .byte x)))) = q_w E sh (q_up σ a i.toNatClampNeg (vp_nar .byte x)) := q_w_set hs rfl
  exact kk p l _ s m args below meth c A Z H1 locs1 lsA hC hF ⟨e0 ▸ hP, e0 ▸ hD, hS, hW.2.2.2⟩ hl
theorem q_zast {a n : Nat} {i x : Int32} (hs : sh[a]? = some (.inl (2, n, none))) (hin : vp_in i n) (hd : decode (q_cc Y) pc = .ok (.bastore, 1)) (kk : q_G Y E u v (pc + 1) ls st sh (q_up σ a i.toNatClampNeg (vp_nar .boolean x)) Q) : q_G Y E u v pc ls (.int x :: .int i :: .ref a :: st) sh σ Q := by
  intro p l e s m args below meth c A Z H locs lsA hC hF hW hl
  show W p l e (q_rm Y) s m args below meth c H locs u v Z (F0 m pc lsA (.int x :: .int i :: .ref (q_a E a) :: st.map (q_v E)))
  rw [q_lt hW hs]
  refine va_zast hC.1 hC.2.1 hC.2.2.2.2.2.1 hW.1 hW.2.1 hW.2.2.1 a 2 (q_w_at hs) rfl hin hd (fun H1 locs1 hP hD hS => ?_)
  have e0 : (q_w E sh σ).set a (q_h0 E + a, .inl (q_cT E 2, n, .inl (upd (σ a) i.toNatClampNeg (vp_nar .boolean x)))) = q_w E sh (q_up σ a i.toNatClampNeg (vp_nar .boolean x)) := q_w_set hs rfl
  exact kk p l _ s m args below meth c A Z H1 locs1 lsA hC hF ⟨e0 ▸ hP, e0 ▸ hD, hS, hW.2.2.2⟩ hl
theorem q_aald {a n t b : Nat} {g : Nat → Option Nat} {i : Int32} (ht : 3 ≤ t ∧ t < 6) (hs : sh[a]? = some (.inl (t, n, some g))) (hin : vp_in i n) (hg : g i.toNatClampNeg = some b) (hd : decode (q_cc Y) pc = .ok (.aaload, 1)) (kk : q_G Y E u v (pc + 1) ls (.ref b :: st) sh σ Q) : q_G Y E u v pc ls (.int i :: .ref a :: st) sh σ Q := by
  intro p l e s m args below meth c A Z H locs lsA hC hF hW hl
  show W p l e (q_rm Y) s m args below meth c H locs u v Z (F0 m pc lsA (.int i :: .ref (q_a E a) :: st.map (q_v E)))
  rw [q_lt hW hs]
  have ht' : ∃ C, (q_tys E)[t]? = some (q_cT E t, .object C) := by
    rcases (show t = 3 ∨ t = 4 ∨ t = 5 by omega) with rfl | rfl | rfl <;> exact ⟨_, rfl⟩
  obtain ⟨C, hC'⟩ := ht'
  refine va_aldq (C := C) hC.1 hC.2.1 hC.2.2.2.2.2.1 hW.1 a t (q_w_at hs) hC' hin hd ?_
  rw [show va_rf ((g i.toNatClampNeg).map (q_a E)) = .ref (q_a E b) by rw [hg]; rfl]
  exact kk p l e s m args below meth c A Z H locs lsA hC hF hW hl
theorem q_alen {a n t : Nat} {g : Option (Nat → Option Nat)} (ht : t < 6) (hs : sh[a]? = some (.inl (t, n, g))) (hd : decode (q_cc Y) pc = .ok (.arraylength, 1)) (kk : q_G Y E u v (pc + 1) ls (.int (Int32.ofNat n) :: st) sh σ Q) : q_G Y E u v pc ls (.ref a :: st) sh σ Q := by
  intro p l e s m args below meth c A Z H locs lsA hC hF hW hl
  show W p l e (q_rm Y) s m args below meth c H locs u v Z (F0 m pc lsA (.ref (q_a E a) :: st.map (q_v E)))
  rw [q_lt hW hs]
  cases g with
  | none => exact va_alen hC.1 hC.2.1 hC.2.2.2.2.2.1 hW.1 a t (q_w_at hs) (q_tys_at t rfl ht) rfl hd (kk p l e s m args below meth c A Z H locs lsA hC hF hW hl)
  | some g => exact va_alen hC.1 hC.2.1 hC.2.2.2.2.2.1 hW.1 a t (q_w_at hs) (q_tys_at t rfl ht) rfl hd (kk p l e s m args below meth c A Z H locs lsA hC hF hW hl)
-- the static rows and the script
theorem q_a_hi {E : q_E} (j : Nat) : q_a E (1000000 + j) = q_aS E j := by
  unfold q_a
  rw [if_neg (by omega), show 1000000 + j - 1000000 = j by omega]
theorem q_gets (j : Nat) {idx : Nat} (hj : 1 ≤ j ∧ j ≤ 3) (hw : Cond.fieldLink (q_y Y).cls idx "DiverBottle" (q_nm j) "[I" ∈ q_T ∨ Cond.fieldLinkNest (q_y Y).cls idx "DiverBottle" (q_nm j) "[I" "DiverBottle" ∈ q_N) (hd : decode (q_cc Y) pc = .ok (.getstatic idx, 3)) (kk : q_G Y E u v (pc + 3) ls (.ref (1000000 + j) :: st) sh σ Q) : q_G Y E u v pc ls st sh σ Q := by
  intro p l e s m args below meth c A Z H locs lsA hC hF hW hl
  have k0 := kk p l e s m args below meth c A Z H locs lsA hC hF hW hl
  have e0 : (Value.ref (1000000 + j) :: st).map (q_v E) = .ref (q_aS E j) :: st.map (q_v E) := by
    show Value.ref (q_a E (1000000 + j)) :: _ = _
    rw [q_a_hi]
  rw [e0] at k0
  have hX := hC.2.2.2.2.2.2.1
  rcases hw with hw | hw
  · exact va_gets hC.1 hC.2.1 (hX.1 j hj.1 hj.2).2 hW.2.2.1 hC.2.2.2.1 (hC.2.2.2.2.1 _ (List.mem_cons_of_mem _ hw)) (fun _ h => h) hd k0
  · exact va_getsN hC.1 hC.2.1 (hX.1 j hj.1 hj.2).2 hW.2.2.1 hC.2.2.2.1 (va_Nw.use rfl (hX.2.2.1 _ hw)) (fun _ h => h) hd k0
theorem q_tald (j : Nat) {i : Int32} (hj : 1 ≤ j ∧ j ≤ 3) (hin : vp_in i 7) (hd : decode (q_cc Y) pc = .ok (.iaload, 1)) (kk : q_G Y E u v (pc + 1) ls (.int (q_tab j i.toNatClampNeg) :: st) sh σ Q) : q_G Y E u v pc ls (.int i :: .ref (1000000 + j) :: st) sh σ Q := by
  intro p l e s m args below meth c A Z H locs lsA hC hF hW hl
  show W p l e (q_rm Y) s m args below meth c H locs u v Z (F0 m pc lsA (.int i :: .ref (q_a E (1000000 + j)) :: st.map (q_v E)))
  rw [q_a_hi]
  exact va_ti hC.1 hC.2.1 (hC.2.2.2.2.2.2.1.1 j hj.1 hj.2).1 hW.2.2.1 hin rfl hd (kk p l e s m args below meth c A Z H locs lsA hC hF hW hl)
theorem q_sald {i : Int32} (hin : vp_in i (q_L E)) (hd : decode (q_cc Y) pc = .ok (.iaload, 1)) (kk : q_G Y E u v (pc + 1) ls (.int (q_xs E i.toNatClampNeg) :: st) sh σ Q) : q_G Y E u v pc ls (.int i :: .ref 1000000 :: st) sh σ Q := by
  intro p l e s m args below meth c A Z H locs lsA hC hF hW hl
  show W p l e (q_rm Y) s m args below meth c H locs u v Z (F0 m pc lsA (.int i :: .ref (q_a E (1000000 + 0)) :: st.map (q_v E)))
  rw [q_a_hi]
  exact va_ti hC.1 hC.2.1 hC.2.2.2.2.2.2.1.2.1 hW.2.2.1 hin rfl hd (kk p l e s m args below meth c A Z H locs lsA hC hF hW hl)
theorem q_slen (hd : decode (q_cc Y) pc = .ok (.arraylength, 1)) (kk : q_G Y E u v (pc + 1) ls (.int (Int32.ofNat (q_L E)) :: st) sh σ Q) : q_G Y E u v pc ls (.ref 1000000 :: st) sh σ Q := by
  intro p l e s m args below meth c A Z H locs lsA hC hF hW hl
  show W p l e (q_rm Y) s m args below meth c H locs u v Z (F0 m pc lsA (.ref (q_a E (1000000 + 0)) :: st.map (q_v E)))
  rw [q_a_hi]
  exact va_tlen hC.1 hC.2.1 hC.2.2.2.2.2.2.1.2.1 hW.2.2.1 rfl hd (kk p l e s m args below meth c A Z H locs lsA hC hF hW hl)
end QF
end
section
/-! CONTRACTS over the abstract world, and calls -/
def q_Pr (E : q_E) (sh : List q_S) (σ : q_M) (U : State) : Prop :=
  U.heap.size = q_h0 E + sh.length ∧ sh.length ≤ 1000000 ∧ va_P (q_D E) q_cls (q_w E sh σ) U.heap ∧ va_D (fun _ => True) (q_w E sh σ) ∧ q_K E U ∧ q_X E (va_A (q_w E sh σ) (q_h0 E + sh.length)) U U.heap
def q_Qc (Y : q_Y) (E : q_E) (sh : List q_S) (Q : q_P) (A : Nat → Prop) : Array Value → State → Outcome → State → Prop := fun _ st oc t =>
  (∃ (r : Option Int32) (sh' : List q_S) (σ' : q_M), oc = .returned (r.map Value.int) ∧ Q r sh' σ' ∧ va_P (q_D E) q_cls (q_w E sh' σ') t.heap ∧ va_D A (q_w E sh' σ') ∧ sh'.length = sh.length + (q_rm Y).cells ∧ sh'.length ≤ 1000000) ∧ va_F A st t
def q_Ct (Y : q_Y) (av : List Value) (sh : List q_S) (σ : q_M) (Q : q_P) : Prop :=
  ∀ (l : Launch) (E : q_E), Met l (q_y Y) (q_ws Y) (q_rm Y) (va_Pc (av.map (q_v E)) (q_Pr E sh σ)) (q_Qc Y E sh Q (va_A (q_w E sh σ) (q_h0 E + sh.length))) (q_rm Y).cells (q_rm Y).slots (va_A (q_w E sh σ) (q_h0 E + sh.length))
theorem q_Pr_blind (av : List Value) (E : q_E) (sh : List q_S) (σ : q_M) : FrameBlind (va_Pc av (q_Pr E sh σ)) := by
  intro a U g mk h
  obtain ⟨h0, h1, h2, h3, h4, h5, h6⟩ := h
  exact ⟨h0, h1, h2, h3, h4, va_K.moved (u := U) (U := U.calling g mk a) (Vm.Alike.refl U.vm) h5, q_X.same (s := U) (U := U.calling g mk a) rfl h6⟩
/-- arguments as locals -/
def q_ar : List Value → List (Option Value)
  | [] => []
  | w :: r => if w.category = 2 then some w :: none :: q_ar r else some w :: q_ar r
theorem q_ar_mem {E : q_E} : ∀ (av : List Value) (i : Nat) (q : Nat × Value), q ∈ q_en E i (q_ar av) → q ∈ lv_args i (av.map (q_v E))
  | [], _, _, h => by simp [q_ar, q_en] at h
  | w :: r, i, q, h => by
    rw [List.map_cons, lv_args, q_v_cat]
    unfold q_ar at h
    by_cases hc : w.category = 2
    · rw [if_pos hc] at h
      rw [if_pos hc]
      simp only [q_en, List.mem_cons] at h
      rcases h with h | h
      · exact List.mem_cons.mpr (Or.inl h)
      · exact List.mem_cons_of_mem _ (q_ar_mem r (i + 2) q h)
    · rw [if_neg hc] at h
      rw [if_neg hc]
      simp only [q_en, List.mem_cons] at h
      rcases h with h | h
      · exact List.mem_cons.mpr (Or.inl h)
      · exact List.mem_cons_of_mem _ (q_ar_mem r (i + 1) q h)
theorem q_en_pad {E : q_E} : ∀ (l : List (Option Value)) (n i : Nat), q_en E i (l ++ List.replicate n none) = q_en E i l
  | [], 0, _ => rfl
  | [], n + 1, i => by
    rw [List.nil_append, List.replicate_succ, q_en]
    exact q_en_pad [] n (i + 1)
  | none :: r, n, i => by
    rw [List.cons_append, q_en, q_en, q_en_pad r n (i + 1)]
  | some w :: r, n, i => by
    rw [List.cons_append, q_en, q_en, q_en_pad r n (i + 1)]
/-- a walk from the entry gives the contract -/
theorem q_ct {Y : q_Y} {av : List Value} {sh : List q_S} {σ : q_M} {Q : q_P} {ls : List (Option Value)} {n : Nat} (hy : plainName (q_y Y).cls = true) (hnl : (q_y Y).cls ≠ "DiverBottleLaw") (hls : q_ar av ++ List.replicate n none = ls) (hlen : ∀ E : q_E, (lg_sl (av.map (q_v E))).length ≤ q_mx Y)
    (k : ∀ E : q_E, q_G Y E 0 0 0 ls [] sh σ Q) : q_Ct Y av sh σ Q := by
  intro l E
  refine Met.ofW (cc := q_cc Y) (maxL := q_mx Y) (ret := q_rt Y) hy rfl ?_
  intro p e s m args below meth c s₁ B hml hv
  obtain ⟨rfl, hsz, hL, hP, hD0, hK, hX⟩ := hv
  have hts := atoms_spec (ws := q_ws Y) B.pre
  have hown : s.vm.findClass (q_y Y).cls = some m.cls := findClass_of_methodNamed B.named
  have hlocks := B.notSynchronized
  have hr := B.returns
  have hD : va_D (va_A (q_w E sh σ) (q_h0 E + sh.length)) (q_w E sh σ) := hD0.self
  have hA : ∀ q : Nat, s.heap.size ≤ q → va_A (q_w E sh σ) (q_h0 E + sh.length) q := fun q h => Or.inr (by rw [← hsz]; exact h)
  have hA2 : ∀ q : Nat, va_A (q_w E sh σ) (q_h0 E + sh.length) q → q_h0 E ≤ q := by
    intro q h
    rcases h with ⟨i, x, h⟩ | h
    · have hl : i < sh.length := by
        have := (List.getElem?_eq_some_iff.mp h).1
        rwa [q_w_len] at this
      have hs : sh[i]? = some sh[i] := List.getElem?_eq_getElem hl
      rw [q_w_at hs] at h
      cases h
      omega
    · omega
  have hl := lv_entry (av.map (q_v E)) (n := q_mx Y) (hlen E)
  rw [lg_entry_eq]
  refine k E p l e s m _ below meth c (va_A (q_w E sh σ) (q_h0 E + sh.length)) _ s.heap [] _ ⟨B.exec, B.bytes, hml, hown, hts, hK, hX, hA, hA2, fun hi => hi ▸ (name_of_methodNamed B.named B.method).1⟩ ?_ ⟨hP, hD, va_S.rf, ⟨by omega, by omega⟩, hL, Nat.zero_le _, Nat.zero_le _⟩ ?_
  · intro r u v sh' σ' H locs lsA pc hQ hW hu hd
    have hu : u = (q_rm Y).cells := by
      rcases hu with hu | hu
      · exact hu
      · exact absurd hu hnl
    obtain ⟨w1, w2, w3, ⟨w4, w4'⟩, w5, w6, w7⟩ := hW
    refine W.widen (k := (q_rm Y).cells) (n := (q_rm Y).slots) w6 w7 ?_
    have hl' : sh'.length = sh.length + (q_rm Y).cells := by omega
    cases r with
    | none => exact W.vret B.exec B.bytes (hr.trans hd.1) (fun t ht hW => ⟨⟨none, sh', σ', rfl, hQ, by rw [ht]; exact w1, w2, hl', w5⟩, w3.F ht⟩) w3.2.2 hd.2
    | some x =>
      obtain ⟨⟨ty, t1, t2⟩, hd⟩ := hd
      exact W.zret B.exec B.bytes (hr.trans t1) t2 (fun t ht hW => ⟨⟨some x, sh', σ', rfl, hQ, by rw [ht]; exact w1, w2, hl', w5⟩, w3.F ht⟩) w3.2.2 hd
  · refine ⟨hl.1, hl.2.1, fun q hq => hl.2.2 q ?_⟩
    rw [← hls, q_en_pad] at hq
    exact q_ar_mem av 0 q hq
section QC
variable {Y : q_Y} {E : q_E} {u v pc : Nat} {ls : List (Option Value)} {st : List Value} {sh : List q_S} {σ : q_M} {Q : q_P}
variable {p : Program} {l : Launch} {e : Env} {s : State} {m : MethodId} {args : Array Value} {below : List Frame} {meth : Method} {c : Code} {A : Nat → Prop} {Z : State → Prop} {H : Heap} {locs : List Loc} {lsA : Array Slot}
theorem q_size {T : State} (hW : q_Wd Y E u v sh σ A s H locs) (hT : T.heap = H) (X : Stand p l e (q_rm Y) s m args below meth c T locs u v) : H.size = q_h0 E + sh.length := by
  have h1 := X.heapSize
  rw [hT] at h1
  obtain ⟨w1, w2, w3, ⟨w4, w4'⟩, -⟩ := hW
  have h2 := w3.1
  rcases Nat.eq_zero_or_pos sh.length with h0 | h0
  · omega
  · have hs : sh[sh.length - 1]? = some sh[sh.length - 1] := List.getElem?_eq_getElem (by omega)
    have h3 : q_h0 E + (sh.length - 1) < H.size := (w1 _ _ (q_w_at hs)).lt
    omega
theorem q_A1 (hC : q_Cx Y E p s m args meth c A) (hW : q_Wd Y E u v sh σ A s H locs) : ∀ q, va_A (q_w E sh σ) (q_h0 E + sh.length) q → A q := by
  intro q h
  obtain ⟨w1, w2, w3, ⟨w4, w4'⟩, -⟩ := hW
  rcases h with ⟨i, x, h⟩ | h
  · exact w2.2 i _ h
  · exact hC.2.2.2.2.2.2.2.1 q (by omega)
/-- what the callee finds -/
theorem q_pre {T U : State} (hC : q_Cx Y E p s m args meth c A) (hW : q_Wd Y E u v sh σ A s H locs) (hT : T.heap = H) (X : Stand p l e (q_rm Y) s m args below meth c T locs u v) (hU : U.heap = H) (hWm : s.WarmedH U.vm) : q_Pr E sh σ U := by
  have hz := q_size hW hT X
  have hA1 := q_A1 hC hW
  refine ⟨by rw [hU]; exact hz, hW.2.2.2.2.1, by rw [hU]; exact hW.1, hW.2.1.weaken (fun _ _ _ _ => trivial), va_K.moved hWm.alike hC.2.2.2.2.2.1, ?_⟩
  rw [hU]
  exact q_X.warm hWm ((hC.2.2.2.2.2.2.1.kept hW.2.2.1.2.1).narrow hA1)
/-- behind the call -/
theorem q_cont {Y2 : q_Y} {Q2 : q_P} {rest st0 : List Value} {a : Array Value} {T : State} (hC : q_Cx Y E p s m args meth c A) (hF : q_Fn Y E p l e s m args below meth c A Z Q) (hW : q_Wd Y E u v sh σ A s H locs) (hl : q_ls E lsA (q_mx Y) ls)
    (hr : va_Run p l e (q_rm Y) s m args below meth c H locs u v (q_rm Y2).cells (q_rm Y2).slots (F0 m pc lsA st0) (rest.map (q_v E)) (q_Qc Y2 E sh Q2 (va_A (q_w E sh σ) (q_h0 E + sh.length)) a) (va_A (q_w E sh σ) (q_h0 E + sh.length)))
    (hu : u + (q_rm Y2).cells ≤ (q_rm Y).cells ∧ v + (q_rm Y2).slots ≤ (q_rm Y).slots)
    (kk : ∀ r sh' σ', Q2 r sh' σ' → q_G Y E (u + (q_rm Y2).cells) (v + (q_rm Y2).slots) (pc + 3) ls (r.toList.map Value.int ++ rest) sh' σ' Q)
    (hT : T.heap = H) (X : Stand p l e (q_rm Y) s m args below meth c T locs u v) : ∃ t, Steps p.tables e below (T.setTop (F0 m pc lsA st0)) t ∧ Z t := by
  have hz0 := q_size hW hT X
  have hA1 := q_A1 hC hW
  obtain ⟨v', st₀, t, T', L, h0, X', hL, e1, e2, ⟨⟨r, sh', σ', hv, hq, hP1, hD1, hl1, hl2⟩, hz, hk⟩, stp⟩ := hr T hT X
  rw [h0] at hz hk
  have hS := hW.2.2.1
  have hS' : va_S A s.heap T'.heap (locs ++ L) := ⟨Nat.le_trans hS.1 (by rw [e1]; exact hz), fun q h1 h2 => by rw [e1, hk q (Nat.lt_of_lt_of_le h1 hS.1) (fun z => h2 (hA1 q z))]; exact hS.2.1 q h1 h2, fun q hq => by
      rcases List.mem_append.mp hq with h | h
      · exact hS.2.2 q h
      · exact hA1 _ (hL q h)⟩
  have hsz := hW.2.2.2.1
  obtain ⟨t2, a1, b1⟩ := kk r sh' σ' hq p l e s m args below meth c A Z T'.heap (locs ++ L) lsA hC hF ⟨by rw [e1]; exact hP1, hD1.weaken (fun _ _ _ h => hA1 _ h), hS', ⟨by omega, hsz.2⟩, hl2, hu.1, hu.2⟩ hl T' rfl X'
  refine ⟨t2, stp t2 ?_, b1⟩
  cases r with
  | none =>
    cases hv
    exact a1
  | some x =>
    cases hv
    exact a1
end QC
def q_lk (own : String) (Y2 : q_Y) (idx n : Nat) (nest : Bool) : Prop :=
  Cond.code (q_y Y2) (q_cc Y2) (q_mx Y2) (q_rt Y2) ∈ q_T ∧ Cond.initialized (q_y Y2).cls ∈ q_T ∧ ((q_y Y2).cls ≠ "java/lang/invoke/MethodHandle" ∧ (q_y Y2).cls ≠ "java/lang/invoke/VarHandle" ∧ (parseMethodDescriptor (q_y Y2).desc).map (fun d => d.parameters.length) = some n) ∧ (nest = false → Cond.methodLink own idx (q_y Y2) ∈ q_T) ∧ (nest = true → Cond.methodLinkNest own idx (q_y Y2) "DiverBottle" ∈ q_N)
abbrev q_rr (Y Y2 : q_Y) (u v : Nat) : Prop := ((q_rm Y2).frames + 1 ≤ (q_rm Y).frames ∧ 8 + (q_mx Y2 + 11) + (q_rm Y2).locals ≤ (q_rm Y).locals) ∧ u + (q_rm Y2).cells ≤ (q_rm Y).cells ∧ v + (q_rm Y2).slots ≤ (q_rm Y).slots
theorem q_catsum (E : q_E) (l : List Value) : ((l.map (q_v E)).map fun w => w.category).sum = (l.map fun w => w.category).sum := by
  rw [List.map_map]
  congr 1
  apply List.map_congr_left
  intro w _
  exact q_v_cat E w
section QD
variable {Y : q_Y} {E : q_E} {u v pc : Nat} {ls : List (Option Value)} {st : List Value} {sh : List q_S} {σ : q_M} {Q : q_P}
theorem q_callS {Y2 : q_Y} {Q2 : q_P} {idx n : Nat} {nest : Bool} {av rest : List Value} (hk : q_lk (q_y Y).cls Y2 idx n nest) (hst2 : Cond.static (q_y Y2) ∈ q_T) (hd : decode (q_cc Y) pc = .ok (.invokestatic idx, 3)) (hc : q_Ct Y2 av sh σ Q2) (hst : av.reverse ++ rest = st) (hn : av.length = n) (hsm : (rest.map fun w => w.category).sum ≤ 8) (hR : q_rr Y Y2 u v)
    (kk : ∀ r sh' σ', Q2 r sh' σ' → q_G Y E (u + (q_rm Y2).cells) (v + (q_rm Y2).slots) (pc + 3) ls (r.toList.map Value.int ++ rest) sh' σ' Q) : q_G Y E u v pc ls st sh σ Q := by
  intro p l e s m args below meth c A Z H locs lsA hC hF hW hl T hT X
  subst hst
  obtain ⟨k1, k2, k3, k4, k5⟩ := hk
  have hts := hC.2.2.2.2.1
  have ok : ∀ w ∈ q_T, w.before args s = true := fun w hw => hts w (List.mem_cons_of_mem _ hw)
  refine q_cont (Y2 := Y2) (rest := rest) (a := (av.map (q_v E)).toArray) hC hF hW hl ?_ hR.2 kk hT X
  have hp : PreS s H (va_Pc (av.map (q_v E)) (q_Pr E sh σ)) (av.map (q_v E)) := ⟨q_Pr_blind _ E sh σ, fun U hU hWm => ⟨rfl, q_pre hC hW hT X hU hWm⟩⟩
  have hstk : (F0 m pc lsA ((av.reverse ++ rest).map (q_v E))).stack = (av.map (q_v E)).reverse ++ rest.map (q_v E) := by
    show (av.reverse ++ rest).map (q_v E) = _
    rw [List.map_append, List.map_reverse]
  have hroom : 2 * (F0 m pc lsA ((av.reverse ++ rest).map (q_v E))).monitorRoom + ((rest.map (q_v E)).map fun w => w.category).sum ≤ 8 := lv_room (by rw [q_catsum]; exact hsm)
  cases nest with
  | false => exact va_runS (As := av.map (q_v E)) (rest := rest.map (q_v E)) ⟨hC.1, hC.2.1, hC.2.2.1, hC.2.2.2.1, hts⟩ (hc l E) ⟨callB_of n hts (q_good k1) rfl rfl rfl (ok _ k2) (ok _ (k4 rfl)) k3 hR.1, ok _ hst2⟩ hp rfl (by rw [List.length_map]; exact hn) hl.1 hstk hroom hd hR.2
  | true => exact va_runSN (As := av.map (q_v E)) (rest := rest.map (q_v E)) ⟨hC.1, hC.2.1, hC.2.2.1, hC.2.2.2.1, hts⟩ (hc l E) ⟨va_cnB n hts (q_good k1) rfl rfl rfl (hC.2.2.2.2.2.2.1.2.2.1 _ (k5 rfl)) (ok _ k2) k3 hR.1, ok _ hst2, trivial⟩ hp rfl (by rw [List.length_map]; exact hn) hl.1 hstk hroom hd hR.2
theorem q_callI {Y2 : q_Y} {Q2 : q_P} {idx n b : Nat} {nest : Bool} {av rest : List Value} (hk : q_lk (q_y Y).cls Y2 idx n nest) (hst2 : Cond.instanceMethod (q_y Y2) ∈ q_T) (hini : (q_y Y2).name = "<init>" ∧ q_rt Y2 = none) (hd : decode (q_cc Y) pc = .ok (.invokespecial idx, 3)) (hc : q_Ct Y2 (.ref b :: av) sh σ Q2) (hst : av.reverse ++ .ref b :: rest = st) (hn : av.length = n) (hsm : (rest.map fun w => w.category).sum ≤ 8) (hR : q_rr Y Y2 u v)
    (kk : ∀ r sh' σ', Q2 r sh' σ' → q_G Y E (u + (q_rm Y2).cells) (v + (q_rm Y2).slots) (pc + 3) ls (r.toList.map Value.int ++ rest) sh' σ' Q) : q_G Y E u v pc ls st sh σ Q := by
  intro p l e s m args below meth c A Z H locs lsA hC hF hW hl T hT X
  subst hst
  obtain ⟨k1, k2, k3, k4, k5⟩ := hk
  obtain ⟨i1, i2⟩ := hini
  have hts := hC.2.2.2.2.1
  have ok : ∀ w ∈ q_T, w.before args s = true := fun w hw => hts w (List.mem_cons_of_mem _ hw)
  refine q_cont (Y2 := Y2) (rest := rest) (a := (Value.ref (q_a E b) :: av.map (q_v E)).toArray) hC hF hW hl ?_ hR.2 kk hT X
  have hp : PreS s H (va_Pc ((Value.ref b :: av).map (q_v E)) (q_Pr E sh σ)) (.ref (q_a E b) :: av.map (q_v E)) := ⟨q_Pr_blind _ E sh σ, fun U hU hWm => ⟨rfl, q_pre hC hW hT X hU hWm⟩⟩
  have hstk : (F0 m pc lsA ((av.reverse ++ .ref b :: rest).map (q_v E))).stack = (av.map (q_v E)).reverse ++ .ref (q_a E b) :: rest.map (q_v E) := by
    show (av.reverse ++ .ref b :: rest).map (q_v E) = _
    rw [List.map_append, List.map_reverse]
    rfl
  have hroom : 2 * (F0 m pc lsA ((av.reverse ++ .ref b :: rest).map (q_v E))).monitorRoom + ((rest.map (q_v E)).map fun w => w.category).sum ≤ 8 := lv_room (by rw [q_catsum]; exact hsm)
  have hwsn : q_ws Y2 = Cond.code (q_y Y2) (q_cc Y2) (q_mx Y2) none :: q_T := by unfold q_ws; rw [i2]
  cases nest with
  | false => exact va_runI (bytes := q_cc Y2) (maxL := q_mx Y2) (As := av.map (q_v E)) (rest := rest.map (q_v E)) ⟨hC.1, hC.2.1, hC.2.2.1, hC.2.2.2.1, hts⟩ (hc l E) ⟨callB_of n hts (q_good k1) hwsn rfl rfl (ok _ k2) (ok _ (k4 rfl)) k3 hR.1, i1, ok _ hst2⟩ hp rfl (by rw [List.length_map]; exact hn) hl.1 hstk hroom hd hR.2
  | true => exact va_runIN (bytes := q_cc Y2) (maxL := q_mx Y2) (As := av.map (q_v E)) (rest := rest.map (q_v E)) ⟨hC.1, hC.2.1, hC.2.2.1, hC.2.2.2.1, hts⟩ (hc l E) ⟨va_cnB n hts (q_good k1) hwsn rfl rfl (hC.2.2.2.2.2.2.1.2.2.1 _ (k5 rfl)) (ok _ k2) k3 hR.1, i1, ok _ hst2⟩ hp rfl (by rw [List.length_map]; exact hn) hl.1 hstk hroom hd hR.2
theorem q_callV {Y2 : q_Y} {Q2 : q_P} {idx n b ci : Nat} {nest : Bool} {av rest : List Value} {ks : List (Option (Option Nat))} (hk : q_lk (q_y Y).cls Y2 idx n nest) (hst2 : Cond.instanceMethod (q_y Y2) ∈ q_T ∧ Cond.selects (q_y Y2).cls (q_y Y2) (q_y Y2) ∈ q_T) (hcl : q_cls[ci]?.map (fun x => x.1) = some (q_y Y2).cls) (hd : decode (q_cc Y) pc = .ok (.invokevirtual idx, 3)) (hc : q_Ct Y2 (.ref b :: av) sh σ Q2) (hb : sh[b]? = some (.inr (ci, ks))) (hst : av.reverse ++ .ref b :: rest = st) (hn : av.length = n) (hsm : (rest.map fun w => w.category).sum ≤ 8) (hR : q_rr Y Y2 u v)
    (kk : ∀ r sh' σ', Q2 r sh' σ' → q_G Y E (u + (q_rm Y2).cells) (v + (q_rm Y2).slots) (pc + 3) ls (r.toList.map Value.int ++ rest) sh' σ' Q) : q_G Y E u v pc ls st sh σ Q := by
  intro p l e s m args below meth c A Z H locs lsA hC hF hW hl T hT X
  subst hst
  obtain ⟨k1, k2, k3, k4, k5⟩ := hk
  have hts := hC.2.2.2.2.1
  have ok : ∀ w ∈ q_T, w.before args s = true := fun w hw => hts w (List.mem_cons_of_mem _ hw)
  refine q_cont (Y2 := Y2) (rest := rest) (a := (Value.ref (q_a E b) :: av.map (q_v E)).toArray) hC hF hW hl ?_ hR.2 kk hT X
  obtain ⟨cq, hcq, hcc⟩ : ∃ cq, q_cls[ci]? = some cq ∧ cq.1 = (q_y Y2).cls := by
    cases hq : q_cls[ci]? with
    | none => rw [hq] at hcl; cases hcl
    | some cq => rw [hq] at hcl; exact ⟨cq, rfl, Option.some.inj hcl⟩
  have hrecv : ∃ cell : Cell, H[q_a E b]? = some cell ∧ cell.vm.isStatics = false ∧ s.vm.findClass (q_y Y2).cls = some cell.cls := by
    rw [q_lt hW hb, ← hcc]
    exact va_recv hC.2.2.2.2.2.1 hW.1 hcq (q_w_at hb)
  have hp : PreV s H (q_y Y2).cls (q_a E b) (va_Pc ((Value.ref b :: av).map (q_v E)) (q_Pr E sh σ)) (av.map (q_v E)) := ⟨q_Pr_blind _ E sh σ, hrecv, fun U hU hWm => ⟨rfl, q_pre hC hW hT X hU hWm⟩⟩
  have hstk : (F0 m pc lsA ((av.reverse ++ .ref b :: rest).map (q_v E))).stack = (av.map (q_v E)).reverse ++ .ref (q_a E b) :: rest.map (q_v E) := by
    show (av.reverse ++ .ref b :: rest).map (q_v E) = _
    rw [List.map_append, List.map_reverse]
    rfl
  have hroom : 2 * (F0 m pc lsA ((av.reverse ++ .ref b :: rest).map (q_v E))).monitorRoom + ((rest.map (q_v E)).map fun w => w.category).sum ≤ 8 := lv_room (by rw [q_catsum]; exact hsm)
  cases nest with
  | false => exact va_runV (As := av.map (q_v E)) (rest := rest.map (q_v E)) ⟨hC.1, hC.2.1, hC.2.2.1, hC.2.2.2.1, hts⟩ (hc l E) ⟨callB_of n hts (q_good k1) rfl rfl rfl (ok _ k2) (ok _ (k4 rfl)) k3 hR.1, ok _ hst2.1, ok _ hst2.2⟩ hp rfl (by rw [List.length_map]; exact hn) hl.1 hstk hroom hd hR.2
  | true => exact va_runVN (As := av.map (q_v E)) (rest := rest.map (q_v E)) ⟨hC.1, hC.2.1, hC.2.2.1, hC.2.2.2.1, hts⟩ (hc l E) ⟨va_cnB n hts (q_good k1) rfl rfl rfl (hC.2.2.2.2.2.2.1.2.2.1 _ (k5 rfl)) (ok _ k2) k3 hR.1, ok _ hst2.1, ok _ hst2.2⟩ hp rfl (by rw [List.length_map]; exact hn) hl.1 hstk hroom hd hR.2
end QD
end
section
/-! new cells -/
section QN
variable {Y : q_Y} {E : q_E} {u v pc : Nat} {ls : List (Option Value)} {st : List Value} {sh : List q_S} {σ : q_M} {Q : q_P}
variable {p : Program} {l : Launch} {e : Env} {s : State} {m : MethodId} {args : Array Value} {below : List Frame} {meth : Method} {c : Code} {A : Nat → Prop} {Z : State → Prop} {H : Heap} {locs : List Loc} {lsA : Array Slot}
/-- the new cell's address -/
theorem q_fresh {q : Nat} {x : va_E} {H1 : Heap} {T1 : State} {v1 : Nat} (hC : q_Cx Y E p s m args meth c A) (hW : q_Wd Y E u v sh σ A s H locs) (hP : va_P (q_D E) q_cls (q_w E sh σ ++ [(q, x)]) H1) (hD : va_D A (q_w E sh σ ++ [(q, x)])) (hT1 : T1.heap = H1) (X1 : Stand p l e (q_rm Y) s m args below meth c T1 locs (u + 1) v1) : q = q_h0 E + sh.length := by
  have hlast : (q_w E sh σ ++ [(q, x)])[sh.length]? = some (q, x) := by
    rw [List.getElem?_append_right (by rw [q_w_len]; exact Nat.le_refl _), q_w_len, Nat.sub_self]
    rfl
  have h1 : q < H1.size := (hP _ _ hlast).lt
  have h2 := X1.heapSize
  rw [hT1] at h2
  have h3 : q_h0 E ≤ q := hC.2.2.2.2.2.2.2.2.1 q (hD.2 _ _ hlast)
  obtain ⟨w4, w4'⟩ := hW.2.2.2.1
  rcases Nat.lt_or_ge q (q_h0 E + sh.length) with h | h
  · have hi : q - q_h0 E < sh.length := by omega
    have hs : sh[q - q_h0 E]? = some sh[q - q_h0 E] := List.getElem?_eq_getElem hi
    have h4 : (q_w E sh σ ++ [(q, x)])[q - q_h0 E]? = some (q_h0 E + (q - q_h0 E), q_c E (σ (q - q_h0 E)) sh[q - q_h0 E]) := by
      rw [List.getElem?_append_left (by rw [q_w_len]; exact hi)]
      exact q_w_at hs
    have := hD.1 _ _ _ _ h4 hlast (by show q_h0 E + (q - q_h0 E) = q; omega)
    omega
  · omega
theorem q_grow {x : q_S} {c0 : va_E} {f : Nat → Int32} (hc : c0 = q_c E f x) : q_w E sh σ ++ [(q_h0 E + sh.length, c0)] = q_w E (sh ++ [x]) (q_put σ sh.length f) := by
  rw [← q_w_app (c := c0) (by rw [hc]; simp [q_put]), q_w_far]
end QN
section QO
variable {Y : q_Y} {E : q_E} {u v pc : Nat} {ls : List (Option Value)} {st : List Value} {sh : List q_S} {σ : q_M} {Q : q_P}
def q_nf (own : String) (idx ci N : Nat) (ks : List (Option (Option Nat))) : Prop :=
  ∃ (C : String) (T : u_T) (ty0 : Nat → FieldType), q_cls[ci]? = some (C, T, N) ∧ (∀ w ∈ u_ws C T N, w ∈ q_T) ∧ (∀ k, k < N → parseFieldDescriptor (T k).2.2.1 = some (ty0 k)) ∧ Cond.classLink own idx C ∈ q_T ∧ Cond.instantiable C N ∈ q_T ∧ Cond.initialized C ∈ q_T ∧ ∀ (E : q_E) (j : Nat), j < N → defaultValue (ty0 j) = vp_V (q_fl E (fun _ => 0) 0 ks) j
theorem q_new {idx ci N : Nat} {ks : List (Option (Option Nat))} (hf : q_nf (q_y Y).cls idx ci N ks) (hd : decode (q_cc Y) pc = .ok (.new idx, 3)) (hr : u + 1 ≤ (q_rm Y).cells ∧ v + N ≤ (q_rm Y).slots ∧ sh.length + 1 ≤ 1000000) (kk : q_G Y E (u + 1) (v + N) (pc + 3) ls (.ref sh.length :: st) (sh ++ [.inr (ci, ks)]) (q_put σ sh.length (fun _ => 0)) Q) : q_G Y E u v pc ls st sh σ Q := by
  intro p l e s m args below meth c A Z H locs lsA hC hF hW hl
  obtain ⟨C, T, ty0, h1, h2, h3, h4, h5, h6, h7⟩ := hf
  have hts := hC.2.2.2.2.1
  have ok : ∀ w ∈ q_T, w.before args s = true := fun w hw => hts w (List.mem_cons_of_mem _ hw)
  refine va_new (ci := ci) (fs := q_fl E (fun _ => 0) 0 ks) (C := C) (T := T) (N := N) hC.1 hC.2.1 hts (fun w hw => List.mem_cons_of_mem _ (h2 w hw)) ty0 h3 hC.2.2.2.1 (ok _ h4) (ok _ h5) (ok _ h6) hC.2.2.2.2.2.1 hW.1 hW.2.1 hW.2.2.1 hC.2.2.2.2.2.2.2.1 h1 (h7 E) hr.1 hr.2.1 hd (fun q H1 hP hD hS => ?_)
  intro T1 hT1 X1
  have hq := q_fresh hC hW hP hD hT1 X1
  subst hq
  have e0 : q_w E sh σ ++ [(q_h0 E + sh.length, .inr (ci, q_fl E (fun _ => 0) 0 ks))] = q_w E (sh ++ [.inr (ci, ks)]) (q_put σ sh.length (fun _ => 0)) := q_grow rfl
  rw [e0] at hP hD
  have k0 := kk p l e s m args below meth c A Z H1 locs lsA hC hF ⟨hP, hD, hS, ⟨by rw [List.length_append]; have := hW.2.2.2.1.1; simp; omega, hW.2.2.2.1.2⟩, by rw [List.length_append]; exact hr.2.2, hr.1, hr.2.1⟩ hl
  have e1 : (Value.ref sh.length :: st).map (q_v E) = .ref (q_h0 E + sh.length) :: st.map (q_v E) := by
    show Value.ref (q_a E sh.length) :: _ = _
    rw [q_a_lo (by omega)]
  rw [e1] at k0
  exact k0 T1 hT1 X1
theorem q_newa {at0 : ArrayType} {n : Int32} {N t : Nat} (ht : t < 3) (hty : newarray.typeOf at0 = [FieldType.int, .byte, .boolean].getD t .int) (hw : Cond.arrayClass (newarray.typeOf at0) ∈ q_T) (hd : decode (q_cc Y) pc = .ok (.newarray at0, 2)) (hn : ¬ n < 0 ∧ n.toNatClampNeg = N ∧ N ≤ 100000) (hr : u + 1 ≤ (q_rm Y).cells ∧ v + N ≤ (q_rm Y).slots ∧ sh.length + 1 ≤ 1000000) (kk : q_G Y E (u + 1) (v + N) (pc + 2) ls (.ref sh.length :: st) (sh ++ [.inl (t, N, none)]) (q_put σ sh.length (fun _ => 0)) Q) : q_G Y E u v pc ls (.int n :: st) sh σ Q := by
  intro p l e s m args below meth c A Z H locs lsA hC hF hW hl
  have hts := hC.2.2.2.2.1
  have ok : ∀ w ∈ q_T, w.before args s = true := fun w hw => hts w (List.mem_cons_of_mem _ hw)
  have hK := hC.2.2.2.2.2.1
  refine va_newa (a0 := (N, .inl (fun _ => 0))) hC.1 hC.2.1 (ok _ hw) hty hK hW.1 hW.2.1 hW.2.2.1 hC.2.2.2.2.2.2.2.1 (fun cA => ?_) hn.1 hn.2.1 ?_ hr.1 hr.2.1 hd (fun q cA H1 hK1 hP hD hS => ?_)
  · rcases (show t = 0 ∨ t = 1 ∨ t = 2 by omega) with rfl | rfl | rfl <;> rfl
  · rcases (show t = 0 ∨ t = 1 ∨ t = 2 by omega) with rfl | rfl | rfl
    · show N * 4 ≤ 536870912
      omega
    · show N * 1 ≤ 536870912
      omega
    · show N * 1 ≤ 536870912
      omega
  · have hcA : cA = q_cT E t := by
      have g1 := (hK1.2 6 _ rfl).2
      rcases (show t = 0 ∨ t = 1 ∨ t = 2 by omega) with rfl | rfl | rfl
      · exact Option.some.inj ((show s.vm.findClass _ = some cA from g1).symm.trans (show s.vm.findClass _ = some _ from (hK.2 0 _ rfl).2))
      · exact Option.some.inj ((show s.vm.findClass _ = some cA from g1).symm.trans (show s.vm.findClass _ = some _ from (hK.2 1 _ rfl).2))
      · exact Option.some.inj ((show s.vm.findClass _ = some cA from g1).symm.trans (show s.vm.findClass _ = some _ from (hK.2 2 _ rfl).2))
    subst hcA
    intro T1 hT1 X1
    have hq := q_fresh hC hW hP hD hT1 X1
    subst hq
    have e0 : q_w E sh σ ++ [(q_h0 E + sh.length, .inl (q_cT E t, N, .inl (fun _ => 0)))] = q_w E (sh ++ [.inl (t, N, none)]) (q_put σ sh.length (fun _ => 0)) := q_grow rfl
    rw [e0] at hP hD
    have k0 := kk p l e s m args below meth c A Z H1 locs lsA hC hF ⟨hP, hD, hS, ⟨by rw [List.length_append]; have := hW.2.2.2.1.1; simp; omega, hW.2.2.2.1.2⟩, by rw [List.length_append]; exact hr.2.2, hr.1, hr.2.1⟩ hl
    have e1 : (Value.ref sh.length :: st).map (q_v E) = .ref (q_h0 E + sh.length) :: st.map (q_v E) := by
      show Value.ref (q_a E sh.length) :: _ = _
      rw [q_a_lo (by omega)]
    rw [e1] at k0
    exact k0 T1 hT1 X1
def q_oc (t : Nat) : String := ["", "", "", "DiverBottle$Diver", "DiverBottle$Scene", "DiverBottle$Sheet"].getD t ""
theorem q_newq {idx : Nat} {n : Int32} {N t : Nat} (ht : 3 ≤ t ∧ t < 6) (hw : Cond.classLink (q_y Y).cls idx (q_oc t) ∈ q_T) (hd : decode (q_cc Y) pc = .ok (.anewarray idx, 3)) (hn : ¬ n < 0 ∧ n.toNatClampNeg = N ∧ N ≤ 100000) (hr : u + 1 ≤ (q_rm Y).cells ∧ v + N ≤ (q_rm Y).slots ∧ sh.length + 1 ≤ 1000000) (kk : q_G Y E (u + 1) (v + N) (pc + 3) ls (.ref sh.length :: st) (sh ++ [.inl (t, N, some (fun _ => none))]) (q_put σ sh.length (fun _ => 0)) Q) : q_G Y E u v pc ls (.int n :: st) sh σ Q := by
  intro p l e s m args below meth c A Z H locs lsA hC hF hW hl
  have hts := hC.2.2.2.2.1
  have ok : ∀ w ∈ q_T, w.before args s = true := fun w hw => hts w (List.mem_cons_of_mem _ hw)
  have hK := hC.2.2.2.2.2.1
  have hov : va_AO (q_oc t) s := by
    have := hC.2.2.2.2.2.2.1.2.2.2
    rcases (show t = 3 ∨ t = 4 ∨ t = 5 by omega) with rfl | rfl | rfl
    · exact this.1
    · exact this.2.1
    · exact this.2.2
  refine va_newq (C := q_oc t) hC.1 hC.2.1 hC.2.2.2.1 (ok _ hw) hov hK hW.1 hW.2.1 hW.2.2.1 hC.2.2.2.2.2.2.2.1 hn.1 hn.2.1 (by omega) hr.1 hr.2.1 hd (fun q cA H1 hK1 hP hD hS => ?_)
  have hcA : cA = q_cT E t := by
    have g1 := (hK1.2 6 _ rfl).2
    obtain ⟨_, _, -, -, -, g1⟩ := g1
    rcases (show t = 3 ∨ t = 4 ∨ t = 5 by omega) with rfl | rfl | rfl
    · obtain ⟨_, _, -, -, -, g2⟩ := (hK.2 3 _ rfl).2
      exact Option.some.inj (g1.symm.trans g2)
    · obtain ⟨_, _, -, -, -, g2⟩ := (hK.2 4 _ rfl).2
      exact Option.some.inj (g1.symm.trans g2)
    · obtain ⟨_, _, -, -, -, g2⟩ := (hK.2 5 _ rfl).2
      exact Option.some.inj (g1.symm.trans g2)
  subst hcA
  intro T1 hT1 X1
  have hq := q_fresh hC hW hP hD hT1 X1
  subst hq
  have e0 : q_w E sh σ ++ [(q_h0 E + sh.length, .inl (q_cT E t, N, .inr (.inr (.inr (.inr (fun _ => none))))))] = q_w E (sh ++ [.inl (t, N, some (fun _ => none))]) (q_put σ sh.length (fun _ => 0)) := q_grow rfl
  rw [e0] at hP hD
  have k0 := kk p l e s m args below meth c A Z H1 locs lsA hC hF ⟨hP, hD, hS, ⟨by rw [List.length_append]; have := hW.2.2.2.1.1; simp; omega, hW.2.2.2.1.2⟩, by rw [List.length_append]; exact hr.2.2, hr.1, hr.2.1⟩ hl
  have e1 : (Value.ref sh.length :: st).map (q_v E) = .ref (q_h0 E + sh.length) :: st.map (q_v E) := by
    show Value.ref (q_a E sh.length) :: _ = _
    rw [q_a_lo (by omega)]
  rw [e1] at k0
  exact k0 T1 hT1 X1
theorem q_aast {a n t b ci : Nat} {g : Nat → Option Nat} {ks : List (Option (Option Nat))} {i : Int32} (ht : 3 ≤ t ∧ t < 6) (hs : sh[a]? = some (.inl (t, n, some g))) (hb : sh[b]? = some (.inr (ci, ks))) (hc : q_cls[ci]?.map (fun x => x.1) = some (q_oc t)) (hin : vp_in i n) (hd : decode (q_cc Y) pc = .ok (.aastore, 1)) (kk : q_G Y E u v (pc + 1) ls st (sh.set a (.inl (t, n, some (va_up g i.toNatClampNeg (some b))))) σ Q) : q_G Y E u v pc ls (.ref b :: .int i :: .ref a :: st) sh σ Q := by
  intro p l e s m args below meth c A Z H locs lsA hC hF hW hl
  show W p l e (q_rm Y) s m args below meth c H locs u v Z (F0 m pc lsA (.ref (q_a E b) :: .int i :: .ref (q_a E a) :: st.map (q_v E)))
  rw [q_lt hW hs, q_lt hW hb]
  obtain ⟨cq, hcq, hcc⟩ : ∃ cq, q_cls[ci]? = some cq ∧ cq.1 = q_oc t := by
    cases hq : q_cls[ci]? with
    | none => rw [hq] at hc; cases hc
    | some cq => rw [hq] at hc; exact ⟨cq, rfl, Option.some.inj hc⟩
  have ht' : (q_tys E)[t]? = some (q_cT E t, .object cq.1) := by
    rw [hcc]
    rcases (show t = 3 ∨ t = 4 ∨ t = 5 by omega) with rfl | rfl | rfl <;> rfl
  refine va_astq hC.1 hC.2.1 hC.2.2.2.2.2.1 hW.1 hW.2.1 hW.2.2.1 a t b ci (q_w_at hs) ht' (q_w_at hb) hcq hin hd (fun H1 locs1 hP hD hS => ?_)
  have e0 : (q_w E sh σ).set a (q_h0 E + a, .inl (q_cT E t, n, .inr (.inr (.inr (.inr (va_up (fun j => (g j).map (q_a E)) i.toNatClampNeg (some (q_h0 E + b)))))))) = q_w E (sh.set a (.inl (t, n, some (va_up g i.toNatClampNeg (some b))))) σ := by
    rw [← q_w_sets hs]
    congr 2
    show Sum.inl _ = Sum.inl _
    congr 5
    show _ = _
    congr 4
    funext j
    unfold va_up
    by_cases hj : j = i.toNatClampNeg
    · rw [if_pos hj, if_pos hj, ← q_lt hW hb]
      rfl
    · rw [if_neg hj, if_neg hj]
  rw [e0] at hP hD
  exact kk p l e s m args below meth c A Z H1 locs1 lsA hC hF ⟨hP, hD, hS, by rw [List.length_set]; exact hW.2.2.2.1, by rw [List.length_set]; exact hW.2.2.2.2.1, hW.2.2.2.2.2⟩ hl
theorem q_putF {idx ci k a b : Nat} {ty : FieldType} {ks : List (Option (Option Nat))} {x : Option Nat} (hf : q_fd (q_y Y).cls idx ci k ty true) (hini : (q_y Y).name = "<init>") (hty : ∀ z : Nat, narrow ty (.ref z) = .ref z ∧ fits ty (.ref z) = true) (hd : decode (q_cc Y) pc = .ok (.putfield idx, 3)) (hs : sh[a]? = some (.inr (ci, ks))) (hk : ks[k]? = some (some x)) (kk : q_G Y E u v (pc + 3) ls st (sh.set a (.inr (ci, ks.set k (some (some b))))) σ Q) : q_G Y E u v pc ls (.ref b :: .ref a :: st) sh σ Q := by
  intro p l e s m args below meth c A Z H locs lsA hC hF hW hl
  obtain ⟨C, T, N, ty0, h1, h2, h3, h4, h5, h6, h7, h8, h9⟩ := hf
  show W p l e (q_rm Y) s m args below meth c H locs u v Z (F0 m pc lsA (.ref (q_a E b) :: .ref (q_a E a) :: st.map (q_v E)))
  rw [q_lt hW hs]
  refine va_putF (D := q_D E) (cl := q_cls) (tys := q_tys E) (C := C) (T := T) (N := N) hC.1 hC.2.1 hC.2.2.2.2.1 (fun w hw => List.mem_cons_of_mem _ (h2 w hw)) ty0 h3 h4 hC.2.2.2.1 hC.2.2.2.2.2.1 hW.1 hW.2.1 hW.2.2.1 a (q_w_at hs) h1 k h5 (hC.2.2.2.2.1 _ (List.mem_cons_of_mem _ h9)) (fun _ h => h) h7 (hC.2.2.2.2.2.2.2.2.2 hini) (h8 rfl) h6 (hty _).1 (hty _).2 ?_ hd (fun H1 locs1 hP hD hS => ?_)
  · rw [q_fl_len]
    exact (List.getElem?_eq_some_iff.mp hk).1
  · have e0 : (q_w E sh σ).set a (q_h0 E + a, .inr (ci, (q_fl E (σ a) 0 ks).set k (.ref (q_a E b)))) = q_w E (sh.set a (.inr (ci, ks.set k (some (some b))))) σ := by
      rw [← q_w_sets hs]
      have := q_fl_setr (E := E) (f := σ a) (y := some b) ks 0 k hk
      show (q_w E sh σ).set a (_, .inr (ci, (q_fl E (σ a) 0 ks).set k (va_rf ((some b).map (q_a E))))) = _
      rw [this]
      rfl
    rw [e0] at hP hD
    exact kk p l e s m args below meth c A Z H1 locs1 lsA hC hF ⟨hP, hD, hS, by rw [List.length_set]; exact hW.2.2.2.1, by rw [List.length_set]; exact hW.2.2.2.2.1, hW.2.2.2.2.2⟩ hl
theorem q_objInit {idx a : Nat} (h1 : Cond.methodLink (q_y Y).cls idx Lib.objectInit ∈ q_T) (h2 : Cond.instanceMethod Lib.objectInit ∈ q_T) (h3 : Cond.code Lib.objectInit ⟨#[0xb1]⟩ 1 none ∈ q_T) (hd : decode (q_cc Y) pc = .ok (.invokespecial idx, 3)) (hr : 1 ≤ (q_rm Y).frames ∧ (st.map fun w => w.category).sum + 12 ≤ (q_rm Y).locals) (kk : q_G Y E u v (pc + 3) ls st sh σ Q) : q_G Y E u v pc ls (.ref a :: st) sh σ Q := by
  intro p l e s m args below meth c A Z H locs lsA hC hF hW hl
  have ok : ∀ w ∈ q_T, w.before args s = true := fun w hw => hC.2.2.2.2.1 w (List.mem_cons_of_mem _ hw)
  refine W.objInit hC.1 hC.2.1 hC.2.2.2.1 (ok _ h1) (ok _ h2) (ok _ h3) rfl (by rw [hC.2.2.1]; exact hl.1) (a := q_a E a) (rest := st.map (q_v E)) rfl hd hr.1 ?_ (kk p l e s m args below meth c A Z H locs lsA hC hF hW hl)
  rw [q_catsum]
  show 2 * 0 + _ + 12 ≤ _
  omega
end QO
end
