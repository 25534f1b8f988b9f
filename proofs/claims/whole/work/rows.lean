section
/-- a private method of a class that the tables say can be made, by its rows of tables_1 -/
def lw_okq (q : MethodName × Nat) : Prop := (q.1.cls ≠ "java/lang/invoke/MethodHandle" ∧ q.1.cls ≠ "java/lang/invoke/VarHandle") ∧ Cond.instantiable q.1.cls q.2 ∈ tables_1 ∧ Cond.privateMethod q.1 ∈ tables_1 ∧ Cond.instanceMethod q.1 ∈ tables_1
theorem lw_p0 : lw_okq (⟨"CrowdLaws", "forgetFindings", "()V"⟩, 4) := ⟨⟨by decide +kernel, by decide +kernel⟩, List.mem_of_getElem? (i := 12) (by decide +kernel), List.mem_of_getElem? (i := 265) (by decide +kernel), List.mem_of_getElem? (i := 266) (by decide +kernel)⟩
theorem lw_p1 : lw_okq (⟨"CrowdLaws", "addRule", "(IIIIII)I"⟩, 4) := ⟨⟨by decide +kernel, by decide +kernel⟩, List.mem_of_getElem? (i := 12) (by decide +kernel), List.mem_of_getElem? (i := 289) (by decide +kernel), List.mem_of_getElem? (i := 290) (by decide +kernel)⟩
theorem lw_p2 : lw_okq (⟨"CrowdLaws$Rule", "setGoals", "()V"⟩, 8) := ⟨⟨by decide +kernel, by decide +kernel⟩, List.mem_of_getElem? (i := 39) (by decide +kernel), List.mem_of_getElem? (i := 297) (by decide +kernel), List.mem_of_getElem? (i := 298) (by decide +kernel)⟩
theorem lw_p3 : lw_okq (⟨"CrowdLaws$Rule", "leavers", "(I)I"⟩, 8) := ⟨⟨by decide +kernel, by decide +kernel⟩, List.mem_of_getElem? (i := 39) (by decide +kernel), List.mem_of_getElem? (i := 371) (by decide +kernel), List.mem_of_getElem? (i := 372) (by decide +kernel)⟩
theorem lw_p4 : lw_okq (⟨"CrowdLaws$Backward", "takeBadOnes", "()V"⟩, 7) := ⟨⟨by decide +kernel, by decide +kernel⟩, List.mem_of_getElem? (i := 118) (by decide +kernel), List.mem_of_getElem? (i := 432) (by decide +kernel), List.mem_of_getElem? (i := 433) (by decide +kernel)⟩
theorem lw_p5 : lw_okq (⟨"CrowdLaws$Backward", "goRound", "()V"⟩, 7) := ⟨⟨by decide +kernel, by decide +kernel⟩, List.mem_of_getElem? (i := 118) (by decide +kernel), List.mem_of_getElem? (i := 454) (by decide +kernel), List.mem_of_getElem? (i := 455) (by decide +kernel)⟩
theorem lw_p6 : lw_okq (⟨"CrowdLaws$Backward", "findSums", "()I"⟩, 7) := ⟨⟨by decide +kernel, by decide +kernel⟩, List.mem_of_getElem? (i := 118) (by decide +kernel), List.mem_of_getElem? (i := 458) (by decide +kernel), List.mem_of_getElem? (i := 459) (by decide +kernel)⟩
theorem lw_p7 : lw_okq (⟨"CrowdLaws$Rule", "comers", "(I)I"⟩, 8) := ⟨⟨by decide +kernel, by decide +kernel⟩, List.mem_of_getElem? (i := 39) (by decide +kernel), List.mem_of_getElem? (i := 469) (by decide +kernel), List.mem_of_getElem? (i := 470) (by decide +kernel)⟩
theorem lw_p8 : lw_okq (⟨"CrowdLaws$Rule", "isGoal", "(II)Z"⟩, 8) := ⟨⟨by decide +kernel, by decide +kernel⟩, List.mem_of_getElem? (i := 39) (by decide +kernel), List.mem_of_getElem? (i := 474) (by decide +kernel), List.mem_of_getElem? (i := 475) (by decide +kernel)⟩
theorem lw_p9 : lw_okq (⟨"CrowdLaws$Backward", "keepOld", "(I)V"⟩, 7) := ⟨⟨by decide +kernel, by decide +kernel⟩, List.mem_of_getElem? (i := 118) (by decide +kernel), List.mem_of_getElem? (i := 488) (by decide +kernel), List.mem_of_getElem? (i := 489) (by decide +kernel)⟩
theorem lw_p10 : lw_okq (⟨"CrowdLaws$Backward", "bringNew", "(I)V"⟩, 7) := ⟨⟨by decide +kernel, by decide +kernel⟩, List.mem_of_getElem? (i := 118) (by decide +kernel), List.mem_of_getElem? (i := 492) (by decide +kernel), List.mem_of_getElem? (i := 493) (by decide +kernel)⟩
theorem lw_p11 : lw_okq (⟨"CrowdLaws$Backward", "setOut", "(LCrowdLaws$Rule;LCrowdLaws$Crowd;)V"⟩, 7) := ⟨⟨by decide +kernel, by decide +kernel⟩, List.mem_of_getElem? (i := 118) (by decide +kernel), List.mem_of_getElem? (i := 500) (by decide +kernel), List.mem_of_getElem? (i := 501) (by decide +kernel)⟩
theorem lw_p12 : lw_okq (⟨"CrowdLaws$Backward", "fillFrom", "(LCrowdLaws$Rule;I)Z"⟩, 7) := ⟨⟨by decide +kernel, by decide +kernel⟩, List.mem_of_getElem? (i := 118) (by decide +kernel), List.mem_of_getElem? (i := 507) (by decide +kernel), List.mem_of_getElem? (i := 508) (by decide +kernel)⟩
theorem lw_p13 : lw_okq (⟨"CrowdLaws$Forward", "listCrowds", "(I)V"⟩, 13) := ⟨⟨by decide +kernel, by decide +kernel⟩, List.mem_of_getElem? (i := 188) (by decide +kernel), List.mem_of_getElem? (i := 549) (by decide +kernel), List.mem_of_getElem? (i := 550) (by decide +kernel)⟩
theorem lw_p14 : lw_okq (⟨"CrowdLaws$Forward", "codeOf", "(LCrowdLaws$Crowd;)I"⟩, 13) := ⟨⟨by decide +kernel, by decide +kernel⟩, List.mem_of_getElem? (i := 188) (by decide +kernel), List.mem_of_getElem? (i := 555) (by decide +kernel), List.mem_of_getElem? (i := 556) (by decide +kernel)⟩
theorem lw_p15 : lw_okq (⟨"CrowdLaws$Forward", "advance", "()Z"⟩, 13) := ⟨⟨by decide +kernel, by decide +kernel⟩, List.mem_of_getElem? (i := 188) (by decide +kernel), List.mem_of_getElem? (i := 560) (by decide +kernel), List.mem_of_getElem? (i := 561) (by decide +kernel)⟩
def lw_privs_1 : List (MethodName × Nat) := [(⟨"CrowdLaws", "forgetFindings", "()V"⟩, 4), (⟨"CrowdLaws", "addRule", "(IIIIII)I"⟩, 4), (⟨"CrowdLaws$Rule", "setGoals", "()V"⟩, 8), (⟨"CrowdLaws$Rule", "leavers", "(I)I"⟩, 8), (⟨"CrowdLaws$Backward", "takeBadOnes", "()V"⟩, 7), (⟨"CrowdLaws$Backward", "goRound", "()V"⟩, 7), (⟨"CrowdLaws$Backward", "findSums", "()I"⟩, 7), (⟨"CrowdLaws$Rule", "comers", "(I)I"⟩, 8), (⟨"CrowdLaws$Rule", "isGoal", "(II)Z"⟩, 8), (⟨"CrowdLaws$Backward", "keepOld", "(I)V"⟩, 7), (⟨"CrowdLaws$Backward", "bringNew", "(I)V"⟩, 7), (⟨"CrowdLaws$Backward", "setOut", "(LCrowdLaws$Rule;LCrowdLaws$Crowd;)V"⟩, 7), (⟨"CrowdLaws$Backward", "fillFrom", "(LCrowdLaws$Rule;I)Z"⟩, 7), (⟨"CrowdLaws$Forward", "listCrowds", "(I)V"⟩, 13), (⟨"CrowdLaws$Forward", "codeOf", "(LCrowdLaws$Crowd;)I"⟩, 13), (⟨"CrowdLaws$Forward", "advance", "()Z"⟩, 13)]
theorem lw_r1 : ∀ q ∈ lw_privs_1, lw_okq q := List.forall_mem_cons.mpr ⟨lw_p0, List.forall_mem_cons.mpr ⟨lw_p1, List.forall_mem_cons.mpr ⟨lw_p2, List.forall_mem_cons.mpr ⟨lw_p3, List.forall_mem_cons.mpr ⟨lw_p4, List.forall_mem_cons.mpr ⟨lw_p5, List.forall_mem_cons.mpr ⟨lw_p6, List.forall_mem_cons.mpr ⟨lw_p7, List.forall_mem_cons.mpr ⟨lw_p8, List.forall_mem_cons.mpr ⟨lw_p9, List.forall_mem_cons.mpr ⟨lw_p10, List.forall_mem_cons.mpr ⟨lw_p11, List.forall_mem_cons.mpr ⟨lw_p12, List.forall_mem_cons.mpr ⟨lw_p13, List.forall_mem_cons.mpr ⟨lw_p14, List.forall_mem_cons.mpr ⟨lw_p15, fun _ h => absurd h List.not_mem_nil⟩⟩⟩⟩⟩⟩⟩⟩⟩⟩⟩⟩⟩⟩⟩⟩
theorem lw_p16 : lw_okq (⟨"CrowdLaws$Forward", "beginAtStart", "()V"⟩, 13) := ⟨⟨by decide +kernel, by decide +kernel⟩, List.mem_of_getElem? (i := 188) (by decide +kernel), List.mem_of_getElem? (i := 565) (by decide +kernel), List.mem_of_getElem? (i := 566) (by decide +kernel)⟩
theorem lw_p17 : lw_okq (⟨"CrowdLaws$Forward", "decode", "(I)V"⟩, 13) := ⟨⟨by decide +kernel, by decide +kernel⟩, List.mem_of_getElem? (i := 188) (by decide +kernel), List.mem_of_getElem? (i := 569) (by decide +kernel), List.mem_of_getElem? (i := 570) (by decide +kernel)⟩
theorem lw_p18 : lw_okq (⟨"CrowdLaws$Forward", "come", "(II)V"⟩, 13) := ⟨⟨by decide +kernel, by decide +kernel⟩, List.mem_of_getElem? (i := 188) (by decide +kernel), List.mem_of_getElem? (i := 574) (by decide +kernel), List.mem_of_getElem? (i := 575) (by decide +kernel)⟩
theorem lw_p19 : lw_okq (⟨"CrowdLaws$Forward", "isPlace", "(I)Z"⟩, 13) := ⟨⟨by decide +kernel, by decide +kernel⟩, List.mem_of_getElem? (i := 188) (by decide +kernel), List.mem_of_getElem? (i := 578) (by decide +kernel), List.mem_of_getElem? (i := 579) (by decide +kernel)⟩
theorem lw_p20 : lw_okq (⟨"CrowdLaws$Forward", "goOn", "()V"⟩, 13) := ⟨⟨by decide +kernel, by decide +kernel⟩, List.mem_of_getElem? (i := 188) (by decide +kernel), List.mem_of_getElem? (i := 582) (by decide +kernel), List.mem_of_getElem? (i := 583) (by decide +kernel)⟩
theorem lw_p21 : lw_okq (⟨"CrowdLaws$Forward", "levelOf", "(I)I"⟩, 13) := ⟨⟨by decide +kernel, by decide +kernel⟩, List.mem_of_getElem? (i := 188) (by decide +kernel), List.mem_of_getElem? (i := 586) (by decide +kernel), List.mem_of_getElem? (i := 587) (by decide +kernel)⟩
theorem lw_p22 : lw_okq (⟨"CrowdLaws$Forward", "codeAt", "(I)I"⟩, 13) := ⟨⟨by decide +kernel, by decide +kernel⟩, List.mem_of_getElem? (i := 188) (by decide +kernel), List.mem_of_getElem? (i := 590) (by decide +kernel), List.mem_of_getElem? (i := 591) (by decide +kernel)⟩
theorem lw_p23 : lw_okq (⟨"CrowdLaws$Forward", "placeOf", "(I)I"⟩, 13) := ⟨⟨by decide +kernel, by decide +kernel⟩, List.mem_of_getElem? (i := 188) (by decide +kernel), List.mem_of_getElem? (i := 596) (by decide +kernel), List.mem_of_getElem? (i := 597) (by decide +kernel)⟩
theorem lw_p24 : lw_okq (⟨"CrowdLaws$Forward", "findFewest", "()V"⟩, 13) := ⟨⟨by decide +kernel, by decide +kernel⟩, List.mem_of_getElem? (i := 188) (by decide +kernel), List.mem_of_getElem? (i := 601) (by decide +kernel), List.mem_of_getElem? (i := 602) (by decide +kernel)⟩
theorem lw_p25 : lw_okq (⟨"CrowdLaws$Forward", "markLeading", "()V"⟩, 13) := ⟨⟨by decide +kernel, by decide +kernel⟩, List.mem_of_getElem? (i := 188) (by decide +kernel), List.mem_of_getElem? (i := 606) (by decide +kernel), List.mem_of_getElem? (i := 607) (by decide +kernel)⟩
theorem lw_p26 : lw_okq (⟨"CrowdLaws$Forward", "firstLeading", "(I)I"⟩, 13) := ⟨⟨by decide +kernel, by decide +kernel⟩, List.mem_of_getElem? (i := 188) (by decide +kernel), List.mem_of_getElem? (i := 610) (by decide +kernel), List.mem_of_getElem? (i := 611) (by decide +kernel)⟩
theorem lw_p27 : lw_okq (⟨"CrowdLaws$Forward", "choosePath", "()V"⟩, 13) := ⟨⟨by decide +kernel, by decide +kernel⟩, List.mem_of_getElem? (i := 188) (by decide +kernel), List.mem_of_getElem? (i := 615) (by decide +kernel), List.mem_of_getElem? (i := 616) (by decide +kernel)⟩
theorem lw_p28 : lw_okq (⟨"CrowdLawsModel", "noState", "(I)Z"⟩, 28) := ⟨⟨by decide +kernel, by decide +kernel⟩, List.mem_of_getElem? (i := 644) (by decide +kernel), List.mem_of_getElem? (i := 752) (by decide +kernel), List.mem_of_getElem? (i := 753) (by decide +kernel)⟩
theorem lw_p29 : lw_okq (⟨"CrowdLawsModel", "newRule", "(IIIIII)I"⟩, 28) := ⟨⟨by decide +kernel, by decide +kernel⟩, List.mem_of_getElem? (i := 644) (by decide +kernel), List.mem_of_getElem? (i := 756) (by decide +kernel), List.mem_of_getElem? (i := 757) (by decide +kernel)⟩
theorem lw_p30 : lw_okq (⟨"CrowdLawsModel", "isShort", "(I)Z"⟩, 28) := ⟨⟨by decide +kernel, by decide +kernel⟩, List.mem_of_getElem? (i := 644) (by decide +kernel), List.mem_of_getElem? (i := 768) (by decide +kernel), List.mem_of_getElem? (i := 769) (by decide +kernel)⟩
theorem lw_p31 : lw_okq (⟨"CrowdLawsModel", "noRule", "(I)Z"⟩, 28) := ⟨⟨by decide +kernel, by decide +kernel⟩, List.mem_of_getElem? (i := 644) (by decide +kernel), List.mem_of_getElem? (i := 776) (by decide +kernel), List.mem_of_getElem? (i := 777) (by decide +kernel)⟩
def lw_privs_2 : List (MethodName × Nat) := [(⟨"CrowdLaws$Forward", "beginAtStart", "()V"⟩, 13), (⟨"CrowdLaws$Forward", "decode", "(I)V"⟩, 13), (⟨"CrowdLaws$Forward", "come", "(II)V"⟩, 13), (⟨"CrowdLaws$Forward", "isPlace", "(I)Z"⟩, 13), (⟨"CrowdLaws$Forward", "goOn", "()V"⟩, 13), (⟨"CrowdLaws$Forward", "levelOf", "(I)I"⟩, 13), (⟨"CrowdLaws$Forward", "codeAt", "(I)I"⟩, 13), (⟨"CrowdLaws$Forward", "placeOf", "(I)I"⟩, 13), (⟨"CrowdLaws$Forward", "findFewest", "()V"⟩, 13), (⟨"CrowdLaws$Forward", "markLeading", "()V"⟩, 13), (⟨"CrowdLaws$Forward", "firstLeading", "(I)I"⟩, 13), (⟨"CrowdLaws$Forward", "choosePath", "()V"⟩, 13), (⟨"CrowdLawsModel", "noState", "(I)Z"⟩, 28), (⟨"CrowdLawsModel", "newRule", "(IIIIII)I"⟩, 28), (⟨"CrowdLawsModel", "isShort", "(I)Z"⟩, 28), (⟨"CrowdLawsModel", "noRule", "(I)Z"⟩, 28)]
theorem lw_r2 : ∀ q ∈ lw_privs_2, lw_okq q := List.forall_mem_cons.mpr ⟨lw_p16, List.forall_mem_cons.mpr ⟨lw_p17, List.forall_mem_cons.mpr ⟨lw_p18, List.forall_mem_cons.mpr ⟨lw_p19, List.forall_mem_cons.mpr ⟨lw_p20, List.forall_mem_cons.mpr ⟨lw_p21, List.forall_mem_cons.mpr ⟨lw_p22, List.forall_mem_cons.mpr ⟨lw_p23, List.forall_mem_cons.mpr ⟨lw_p24, List.forall_mem_cons.mpr ⟨lw_p25, List.forall_mem_cons.mpr ⟨lw_p26, List.forall_mem_cons.mpr ⟨lw_p27, List.forall_mem_cons.mpr ⟨lw_p28, List.forall_mem_cons.mpr ⟨lw_p29, List.forall_mem_cons.mpr ⟨lw_p30, List.forall_mem_cons.mpr ⟨lw_p31, fun _ h => absurd h List.not_mem_nil⟩⟩⟩⟩⟩⟩⟩⟩⟩⟩⟩⟩⟩⟩⟩⟩
theorem lw_p32 : lw_okq (⟨"CrowdLawsModel", "leaves", "([II)Z"⟩, 28) := ⟨⟨by decide +kernel, by decide +kernel⟩, List.mem_of_getElem? (i := 644) (by decide +kernel), List.mem_of_getElem? (i := 804) (by decide +kernel), List.mem_of_getElem? (i := 805) (by decide +kernel)⟩
theorem lw_p33 : lw_okq (⟨"CrowdLawsModel", "goBy", "([II)V"⟩, 28) := ⟨⟨by decide +kernel, by decide +kernel⟩, List.mem_of_getElem? (i := 644) (by decide +kernel), List.mem_of_getElem? (i := 812) (by decide +kernel), List.mem_of_getElem? (i := 813) (by decide +kernel)⟩
theorem lw_p34 : lw_okq (⟨"CrowdLawsModel", "mapped", "(II)I"⟩, 28) := ⟨⟨by decide +kernel, by decide +kernel⟩, List.mem_of_getElem? (i := 644) (by decide +kernel), List.mem_of_getElem? (i := 816) (by decide +kernel), List.mem_of_getElem? (i := 817) (by decide +kernel)⟩
theorem lw_p35 : lw_okq (⟨"CrowdLawsModel", "isBadOne", "([I)Z"⟩, 28) := ⟨⟨by decide +kernel, by decide +kernel⟩, List.mem_of_getElem? (i := 644) (by decide +kernel), List.mem_of_getElem? (i := 824) (by decide +kernel), List.mem_of_getElem? (i := 825) (by decide +kernel)⟩
theorem lw_p36 : lw_okq (⟨"CrowdLawsModel", "noSearch", "()I"⟩, 28) := ⟨⟨by decide +kernel, by decide +kernel⟩, List.mem_of_getElem? (i := 644) (by decide +kernel), List.mem_of_getElem? (i := 832) (by decide +kernel), List.mem_of_getElem? (i := 833) (by decide +kernel)⟩
theorem lw_p37 : lw_okq (⟨"CrowdLawsModel", "isDoomed", "([I)Z"⟩, 28) := ⟨⟨by decide +kernel, by decide +kernel⟩, List.mem_of_getElem? (i := 644) (by decide +kernel), List.mem_of_getElem? (i := 836) (by decide +kernel), List.mem_of_getElem? (i := 837) (by decide +kernel)⟩
theorem lw_p38 : lw_okq (⟨"CrowdLawsModel", "take", "()V"⟩, 28) := ⟨⟨by decide +kernel, by decide +kernel⟩, List.mem_of_getElem? (i := 644) (by decide +kernel), List.mem_of_getElem? (i := 847) (by decide +kernel), List.mem_of_getElem? (i := 848) (by decide +kernel)⟩
theorem lw_p39 : lw_okq (⟨"CrowdLawsModel", "keep", "()V"⟩, 28) := ⟨⟨by decide +kernel, by decide +kernel⟩, List.mem_of_getElem? (i := 644) (by decide +kernel), List.mem_of_getElem? (i := 851) (by decide +kernel), List.mem_of_getElem? (i := 852) (by decide +kernel)⟩
theorem lw_p40 : lw_okq (⟨"CrowdLawsModel", "round", "()Z"⟩, 28) := ⟨⟨by decide +kernel, by decide +kernel⟩, List.mem_of_getElem? (i := 644) (by decide +kernel), List.mem_of_getElem? (i := 855) (by decide +kernel), List.mem_of_getElem? (i := 856) (by decide +kernel)⟩
theorem lw_p41 : lw_okq (⟨"CrowdLawsModel", "shared", "(III)V"⟩, 28) := ⟨⟨by decide +kernel, by decide +kernel⟩, List.mem_of_getElem? (i := 644) (by decide +kernel), List.mem_of_getElem? (i := 859) (by decide +kernel), List.mem_of_getElem? (i := 860) (by decide +kernel)⟩
theorem lw_p42 : lw_okq (⟨"CrowdLawsModel", "wanted", "(III)I"⟩, 28) := ⟨⟨by decide +kernel, by decide +kernel⟩, List.mem_of_getElem? (i := 644) (by decide +kernel), List.mem_of_getElem? (i := 863) (by decide +kernel), List.mem_of_getElem? (i := 864) (by decide +kernel)⟩
theorem lw_p43 : lw_okq (⟨"CrowdLawsModel", "isLast", "(II)Z"⟩, 28) := ⟨⟨by decide +kernel, by decide +kernel⟩, List.mem_of_getElem? (i := 644) (by decide +kernel), List.mem_of_getElem? (i := 867) (by decide +kernel), List.mem_of_getElem? (i := 868) (by decide +kernel)⟩
theorem lw_p44 : lw_okq (⟨"CrowdLawsModel", "left", "(III)I"⟩, 28) := ⟨⟨by decide +kernel, by decide +kernel⟩, List.mem_of_getElem? (i := 644) (by decide +kernel), List.mem_of_getElem? (i := 871) (by decide +kernel), List.mem_of_getElem? (i := 872) (by decide +kernel)⟩
theorem lw_p45 : lw_okq (⟨"CrowdLawsModel", "counted", "(II)Z"⟩, 28) := ⟨⟨by decide +kernel, by decide +kernel⟩, List.mem_of_getElem? (i := 644) (by decide +kernel), List.mem_of_getElem? (i := 875) (by decide +kernel), List.mem_of_getElem? (i := 876) (by decide +kernel)⟩
theorem lw_p46 : lw_okq (⟨"CrowdLawsModel", "plain", "(III)V"⟩, 28) := ⟨⟨by decide +kernel, by decide +kernel⟩, List.mem_of_getElem? (i := 644) (by decide +kernel), List.mem_of_getElem? (i := 879) (by decide +kernel), List.mem_of_getElem? (i := 880) (by decide +kernel)⟩
theorem lw_p47 : lw_okq (⟨"CrowdLawsModel", "order", "()V"⟩, 28) := ⟨⟨by decide +kernel, by decide +kernel⟩, List.mem_of_getElem? (i := 644) (by decide +kernel), List.mem_of_getElem? (i := 883) (by decide +kernel), List.mem_of_getElem? (i := 884) (by decide +kernel)⟩
def lw_privs_3 : List (MethodName × Nat) := [(⟨"CrowdLawsModel", "leaves", "([II)Z"⟩, 28), (⟨"CrowdLawsModel", "goBy", "([II)V"⟩, 28), (⟨"CrowdLawsModel", "mapped", "(II)I"⟩, 28), (⟨"CrowdLawsModel", "isBadOne", "([I)Z"⟩, 28), (⟨"CrowdLawsModel", "noSearch", "()I"⟩, 28), (⟨"CrowdLawsModel", "isDoomed", "([I)Z"⟩, 28), (⟨"CrowdLawsModel", "take", "()V"⟩, 28), (⟨"CrowdLawsModel", "keep", "()V"⟩, 28), (⟨"CrowdLawsModel", "round", "()Z"⟩, 28), (⟨"CrowdLawsModel", "shared", "(III)V"⟩, 28), (⟨"CrowdLawsModel", "wanted", "(III)I"⟩, 28), (⟨"CrowdLawsModel", "isLast", "(II)Z"⟩, 28), (⟨"CrowdLawsModel", "left", "(III)I"⟩, 28), (⟨"CrowdLawsModel", "counted", "(II)Z"⟩, 28), (⟨"CrowdLawsModel", "plain", "(III)V"⟩, 28), (⟨"CrowdLawsModel", "order", "()V"⟩, 28)]
theorem lw_r3 : ∀ q ∈ lw_privs_3, lw_okq q := List.forall_mem_cons.mpr ⟨lw_p32, List.forall_mem_cons.mpr ⟨lw_p33, List.forall_mem_cons.mpr ⟨lw_p34, List.forall_mem_cons.mpr ⟨lw_p35, List.forall_mem_cons.mpr ⟨lw_p36, List.forall_mem_cons.mpr ⟨lw_p37, List.forall_mem_cons.mpr ⟨lw_p38, List.forall_mem_cons.mpr ⟨lw_p39, List.forall_mem_cons.mpr ⟨lw_p40, List.forall_mem_cons.mpr ⟨lw_p41, List.forall_mem_cons.mpr ⟨lw_p42, List.forall_mem_cons.mpr ⟨lw_p43, List.forall_mem_cons.mpr ⟨lw_p44, List.forall_mem_cons.mpr ⟨lw_p45, List.forall_mem_cons.mpr ⟨lw_p46, List.forall_mem_cons.mpr ⟨lw_p47, fun _ h => absurd h List.not_mem_nil⟩⟩⟩⟩⟩⟩⟩⟩⟩⟩⟩⟩⟩⟩⟩⟩
theorem lw_p48 : lw_okq (⟨"CrowdLawsModel", "isAhead", "(II)Z"⟩, 28) := ⟨⟨by decide +kernel, by decide +kernel⟩, List.mem_of_getElem? (i := 644) (by decide +kernel), List.mem_of_getElem? (i := 887) (by decide +kernel), List.mem_of_getElem? (i := 888) (by decide +kernel)⟩
theorem lw_p49 : lw_okq (⟨"CrowdLawsModel", "goThrough", "(I)V"⟩, 28) := ⟨⟨by decide +kernel, by decide +kernel⟩, List.mem_of_getElem? (i := 644) (by decide +kernel), List.mem_of_getElem? (i := 908) (by decide +kernel), List.mem_of_getElem? (i := 909) (by decide +kernel)⟩
theorem lw_p50 : lw_okq (⟨"CrowdLawsModel", "crowdOf", "(I[I)V"⟩, 28) := ⟨⟨by decide +kernel, by decide +kernel⟩, List.mem_of_getElem? (i := 644) (by decide +kernel), List.mem_of_getElem? (i := 912) (by decide +kernel), List.mem_of_getElem? (i := 913) (by decide +kernel)⟩
theorem lw_p51 : lw_okq (⟨"CrowdLawsModel", "isStart", "([I)Z"⟩, 28) := ⟨⟨by decide +kernel, by decide +kernel⟩, List.mem_of_getElem? (i := 644) (by decide +kernel), List.mem_of_getElem? (i := 916) (by decide +kernel), List.mem_of_getElem? (i := 917) (by decide +kernel)⟩
theorem lw_p52 : lw_okq (⟨"CrowdLawsModel", "nearest", "()I"⟩, 28) := ⟨⟨by decide +kernel, by decide +kernel⟩, List.mem_of_getElem? (i := 644) (by decide +kernel), List.mem_of_getElem? (i := 928) (by decide +kernel), List.mem_of_getElem? (i := 929) (by decide +kernel)⟩
def lw_privs_4 : List (MethodName × Nat) := [(⟨"CrowdLawsModel", "isAhead", "(II)Z"⟩, 28), (⟨"CrowdLawsModel", "goThrough", "(I)V"⟩, 28), (⟨"CrowdLawsModel", "crowdOf", "(I[I)V"⟩, 28), (⟨"CrowdLawsModel", "isStart", "([I)Z"⟩, 28), (⟨"CrowdLawsModel", "nearest", "()I"⟩, 28)]
theorem lw_r4 : ∀ q ∈ lw_privs_4, lw_okq q := List.forall_mem_cons.mpr ⟨lw_p48, List.forall_mem_cons.mpr ⟨lw_p49, List.forall_mem_cons.mpr ⟨lw_p50, List.forall_mem_cons.mpr ⟨lw_p51, List.forall_mem_cons.mpr ⟨lw_p52, fun _ h => absurd h List.not_mem_nil⟩⟩⟩⟩⟩
def lw_privs : List (MethodName × Nat) := lw_privs_1 ++ (lw_privs_2 ++ (lw_privs_3 ++ (lw_privs_4)))
def lw_tbl : List Cond := k2_sels lw_privs ++ tables_1
theorem lw_privs_ok : ∀ q ∈ lw_privs, lw_okq q := by
  show ∀ q ∈ lw_privs_1 ++ (lw_privs_2 ++ (lw_privs_3 ++ (lw_privs_4))), lw_okq q
  exact List.forall_mem_append.mpr ⟨lw_r1, List.forall_mem_append.mpr ⟨lw_r2, List.forall_mem_append.mpr ⟨lw_r3, lw_r4⟩⟩⟩
end
section
/-! ===== BEGIN words of one list among another's, by their places ===== -/
theorem goodIn_r {big : List Cond} (ws : List Cond) (ps : List Nat) (hp : ws = ps.filterMap (fun i => big[i]?)) (h : ws.all goodWord = true) : GoodIn big ws := by
  intro w hw
  have h1 := List.all_eq_true.mp h w hw
  rw [hp] at hw
  obtain ⟨i, -, hi⟩ := List.mem_filterMap.mp hw
  have hm : w ∈ big := by first | exact List.mem_of_getElem? hi | exact List.getElem?_mem hi
  exact ⟨hm, good_of_word h1⟩
theorem goodIn_app {big a b : List Cond} (ha : GoodIn big a) (hb : GoodIn big b) : GoodIn big (a ++ b) := fun w h => (List.mem_append.mp h).elim (ha w) (hb w)
theorem goodIn_ca {big a b : List Cond} {c : Cond} (ha : GoodIn big (c :: a)) (hb : GoodIn big b) : GoodIn big (c :: (a ++ b)) := fun w h => (List.mem_cons.mp h).elim (fun e => ha w (List.mem_cons.mpr (Or.inl e))) (fun h => (List.mem_append.mp h).elim (fun h => ha w (List.mem_cons.mpr (Or.inr h))) (hb w))
theorem goodIn_sub {big ws : List Cond} (hm : ∀ w ∈ ws, w ∈ big) (h : ws.all goodWord = true) : GoodIn big ws := fun w hw => ⟨hm w hw, good_of_word (List.all_eq_true.mp h w hw)⟩
/-! ===== END ===== -/
def RX0 : String := "CrowdLaws$Backward"
def TX0 : u_T := fun k => match k with
  | 0 => ("CrowdLaws$Backward", "laws", "LCrowdLaws$Laws;", true)
  | 1 => ("CrowdLaws$Backward", "sums", "LCrowdLaws$ByRule;", true)
  | 2 => ("CrowdLaws$Backward", "lack", "LCrowdLaws$Crowd;", true)
  | 3 => ("CrowdLaws$Backward", "maker", "LCrowdLaws$Crowd;", true)
  | 4 => ("CrowdLaws$Backward", "now", "LCrowdLaws$Bases;", false)
  | 5 => ("CrowdLaws$Backward", "next", "LCrowdLaws$Bases;", false)
  | _ => ("CrowdLaws$Backward", "outcome", "I", false)
def tyX0 : Nat → FieldType := fun k => match k with
  | 0 => .object "CrowdLaws$Laws"
  | 1 => .object "CrowdLaws$ByRule"
  | 2 => .object "CrowdLaws$Crowd"
  | 3 => .object "CrowdLaws$Crowd"
  | 4 => .object "CrowdLaws$Bases"
  | 5 => .object "CrowdLaws$Bases"
  | _ => .int
theorem nmX0 : ∀ a, a < 7 → ∀ b, b < 7 → a ≠ b → (TX0 a).2.1 ≠ (TX0 b).2.1 := by decide +kernel
theorem tyX0_ok : ∀ k, k < 7 → parseFieldDescriptor (TX0 k).2.2.1 = some (tyX0 k) := by decide +kernel
abbrev cX0_init : ByteArray := prog_2_method_1_code
def yX0_init : MethodName := ⟨RX0, "<init>", "(LCrowdLaws$Laws;)V"⟩
abbrev cX0_forget : ByteArray := prog_2_method_2_code
def yX0_forget : MethodName := ⟨RX0, "forget", "()V"⟩
abbrev cX0_dooms : ByteArray := prog_2_method_3_code
def yX0_dooms : MethodName := ⟨RX0, "dooms", "(LCrowdLaws$Crowd;)Z"⟩
abbrev cX0_leastFromStart : ByteArray := prog_2_method_4_code
def yX0_leastFromStart : MethodName := ⟨RX0, "leastFromStart", "()I"⟩
abbrev cX0_seek : ByteArray := prog_2_method_5_code
def yX0_seek : MethodName := ⟨RX0, "seek", "()V"⟩
abbrev cX0_takeBadOnes : ByteArray := prog_2_method_6_code
def yX0_takeBadOnes : MethodName := ⟨RX0, "takeBadOnes", "()V"⟩
abbrev cX0_goRound : ByteArray := prog_2_method_7_code
def yX0_goRound : MethodName := ⟨RX0, "goRound", "()V"⟩
abbrev cX0_findSums : ByteArray := prog_2_method_8_code
def yX0_findSums : MethodName := ⟨RX0, "findSums", "()I"⟩
abbrev cX0_keepOld : ByteArray := prog_2_method_9_code
def yX0_keepOld : MethodName := ⟨RX0, "keepOld", "(I)V"⟩
abbrev cX0_bringNew : ByteArray := prog_2_method_10_code
def yX0_bringNew : MethodName := ⟨RX0, "bringNew", "(I)V"⟩
abbrev cX0_setOut : ByteArray := prog_2_method_11_code
def yX0_setOut : MethodName := ⟨RX0, "setOut", "(LCrowdLaws$Rule;LCrowdLaws$Crowd;)V"⟩
abbrev cX0_fillFrom : ByteArray := prog_2_method_12_code
def yX0_fillFrom : MethodName := ⟨RX0, "fillFrom", "(LCrowdLaws$Rule;I)Z"⟩
def RX1 : String := "CrowdLaws$Bases"
def TX1 : u_T := fun k => match k with
  | 0 => ("CrowdLaws$Bases", "rows", "[LCrowdLaws$Crowd;", true)
  | 1 => ("CrowdLaws$Bases", "fresh", "[Z", true)
  | 2 => ("CrowdLaws$Bases", "count", "I", false)
  | _ => ("CrowdLaws$Bases", "freshCount", "I", false)
def tyX1 : Nat → FieldType := fun k => match k with
  | 0 => .array (.object "CrowdLaws$Crowd")
  | 1 => .array .boolean
  | 2 => .int
  | _ => .int
theorem nmX1 : ∀ a, a < 4 → ∀ b, b < 4 → a ≠ b → (TX1 a).2.1 ≠ (TX1 b).2.1 := by decide +kernel
theorem tyX1_ok : ∀ k, k < 4 → parseFieldDescriptor (TX1 k).2.2.1 = some (tyX1 k) := by decide +kernel
abbrev cX1_init : ByteArray := prog_3_method_1_code
def yX1_init : MethodName := ⟨RX1, "<init>", "()V"⟩
abbrev cX1_clear : ByteArray := prog_3_method_2_code
def yX1_clear : MethodName := ⟨RX1, "clear", "()V"⟩
abbrev cX1_areTooMany : ByteArray := prog_3_method_3_code
def yX1_areTooMany : MethodName := ⟨RX1, "areTooMany", "()Z"⟩
abbrev cX1_cover : ByteArray := prog_3_method_4_code
def yX1_cover : MethodName := ⟨RX1, "cover", "(LCrowdLaws$Crowd;)Z"⟩
abbrev cX1_take : ByteArray := prog_3_method_5_code
def yX1_take : MethodName := ⟨RX1, "take", "(LCrowdLaws$Crowd;Z)V"⟩
def RX2 : String := "CrowdLaws$ByRule"
def TX2 : u_T := fun k => match k with
  | _ => ("CrowdLaws$ByRule", "cells", "[I", true)
def tyX2 : Nat → FieldType := fun k => match k with
  | _ => .array .int
theorem nmX2 : ∀ a, a < 1 → ∀ b, b < 1 → a ≠ b → (TX2 a).2.1 ≠ (TX2 b).2.1 := by decide +kernel
theorem tyX2_ok : ∀ k, k < 1 → parseFieldDescriptor (TX2 k).2.2.1 = some (tyX2 k) := by decide +kernel
abbrev cX2_init : ByteArray := prog_4_method_1_code
def yX2_init : MethodName := ⟨RX2, "<init>", "([I)V"⟩
abbrev cX2_of : ByteArray := prog_4_method_2_code
def yX2_of : MethodName := ⟨RX2, "of", "(II)I"⟩
abbrev cX2_set : ByteArray := prog_4_method_3_code
def yX2_set : MethodName := ⟨RX2, "set", "(III)V"⟩
def RX3 : String := "CrowdLaws$Crowd"
def TX3 : u_T := fun k => match k with
  | _ => ("CrowdLaws$Crowd", "in", "[I", true)
def tyX3 : Nat → FieldType := fun k => match k with
  | _ => .array .int
theorem nmX3 : ∀ a, a < 1 → ∀ b, b < 1 → a ≠ b → (TX3 a).2.1 ≠ (TX3 b).2.1 := by decide +kernel
theorem tyX3_ok : ∀ k, k < 1 → parseFieldDescriptor (TX3 k).2.2.1 = some (tyX3 k) := by decide +kernel
abbrev cX3_init : ByteArray := prog_5_method_1_code
def yX3_init : MethodName := ⟨RX3, "<init>", "()V"⟩
abbrev cX3_of : ByteArray := prog_5_method_2_code
def yX3_of : MethodName := ⟨RX3, "of", "(I)I"⟩
abbrev cX3_set : ByteArray := prog_5_method_3_code
def yX3_set : MethodName := ⟨RX3, "set", "(II)V"⟩
abbrev cX3_add : ByteArray := prog_5_method_4_code
def yX3_add : MethodName := ⟨RX3, "add", "(II)V"⟩
abbrev cX3_clear : ByteArray := prog_5_method_5_code
def yX3_clear : MethodName := ⟨RX3, "clear", "()V"⟩
abbrev cX3_copy : ByteArray := prog_5_method_6_code
def yX3_copy : MethodName := ⟨RX3, "copy", "(LCrowdLaws$Crowd;)V"⟩
abbrev cX3_read : ByteArray := prog_5_method_7_code
def yX3_read : MethodName := ⟨RX3, "read", "(I)V"⟩
abbrev cX3_sum : ByteArray := prog_5_method_8_code
def yX3_sum : MethodName := ⟨RX3, "sum", "()I"⟩
abbrev cX3_isAtLeast : ByteArray := prog_5_method_9_code
def yX3_isAtLeast : MethodName := ⟨RX3, "isAtLeast", "(LCrowdLaws$Crowd;)Z"⟩
abbrev cX3_comesBefore : ByteArray := prog_5_method_10_code
def yX3_comesBefore : MethodName := ⟨RX3, "comesBefore", "(LCrowdLaws$Crowd;)Z"⟩
def RX4 : String := "CrowdLaws$Forward"
def TX4 : u_T := fun k => match k with
  | 0 => ("CrowdLaws$Forward", "laws", "LCrowdLaws$Laws;", true)
  | 1 => ("CrowdLaws$Forward", "from", "LCrowdLaws$Crowd;", true)
  | 2 => ("CrowdLaws$Forward", "to", "LCrowdLaws$Crowd;", true)
  | 3 => ("CrowdLaws$Forward", "codes", "[I", true)
  | 4 => ("CrowdLaws$Forward", "levels", "[I", true)
  | 5 => ("CrowdLaws$Forward", "queue", "[I", true)
  | 6 => ("CrowdLaws$Forward", "goals", "LCrowdLaws$ByRule;", true)
  | 7 => ("CrowdLaws$Forward", "leading", "[Z", true)
  | 8 => ("CrowdLaws$Forward", "path", "[I", true)
  | 9 => ("CrowdLaws$Forward", "walked", "I", false)
  | 10 => ("CrowdLaws$Forward", "crowdCount", "I", false)
  | 11 => ("CrowdLaws$Forward", "cameCount", "I", false)
  | _ => ("CrowdLaws$Forward", "fewest", "I", false)
def tyX4 : Nat → FieldType := fun k => match k with
  | 0 => .object "CrowdLaws$Laws"
  | 1 => .object "CrowdLaws$Crowd"
  | 2 => .object "CrowdLaws$Crowd"
  | 3 => .array .int
  | 4 => .array .int
  | 5 => .array .int
  | 6 => .object "CrowdLaws$ByRule"
  | 7 => .array .boolean
  | 8 => .array .int
  | 9 => .int
  | 10 => .int
  | 11 => .int
  | _ => .int
theorem nmX4 : ∀ a, a < 13 → ∀ b, b < 13 → a ≠ b → (TX4 a).2.1 ≠ (TX4 b).2.1 := by decide +kernel
theorem tyX4_ok : ∀ k, k < 13 → parseFieldDescriptor (TX4 k).2.2.1 = some (tyX4 k) := by decide +kernel
abbrev cX4_init : ByteArray := prog_6_method_1_code
def yX4_init : MethodName := ⟨RX4, "<init>", "(LCrowdLaws$Laws;)V"⟩
abbrev cX4_forget : ByteArray := prog_6_method_2_code
def yX4_forget : MethodName := ⟨RX4, "forget", "()V"⟩
abbrev cX4_walk : ByteArray := prog_6_method_3_code
def yX4_walk : MethodName := ⟨RX4, "walk", "(I)V"⟩
abbrev cX4_onPath : ByteArray := prog_6_method_4_code
def yX4_onPath : MethodName := ⟨RX4, "onPath", "(II)I"⟩
abbrev cX4_countDoomed : ByteArray := prog_6_method_5_code
def yX4_countDoomed : MethodName := ⟨RX4, "countDoomed", "(LCrowdLaws$Backward;)I"⟩
abbrev cX4_listCrowds : ByteArray := prog_6_method_6_code
def yX4_listCrowds : MethodName := ⟨RX4, "listCrowds", "(I)V"⟩
abbrev cX4_advance : ByteArray := prog_6_method_7_code
def yX4_advance : MethodName := ⟨RX4, "advance", "()Z"⟩
abbrev cX4_codeOf : ByteArray := prog_6_method_8_code
def yX4_codeOf : MethodName := ⟨RX4, "codeOf", "(LCrowdLaws$Crowd;)I"⟩
abbrev cX4_decode : ByteArray := prog_6_method_9_code
def yX4_decode : MethodName := ⟨RX4, "decode", "(I)V"⟩
abbrev cX4_codeAt : ByteArray := prog_6_method_10_code
def yX4_codeAt : MethodName := ⟨RX4, "codeAt", "(I)I"⟩
abbrev cX4_isPlace : ByteArray := prog_6_method_11_code
def yX4_isPlace : MethodName := ⟨RX4, "isPlace", "(I)Z"⟩
abbrev cX4_placeOf : ByteArray := prog_6_method_12_code
def yX4_placeOf : MethodName := ⟨RX4, "placeOf", "(I)I"⟩
abbrev cX4_beginAtStart : ByteArray := prog_6_method_13_code
def yX4_beginAtStart : MethodName := ⟨RX4, "beginAtStart", "()V"⟩
abbrev cX4_come : ByteArray := prog_6_method_14_code
def yX4_come : MethodName := ⟨RX4, "come", "(II)V"⟩
abbrev cX4_goOn : ByteArray := prog_6_method_15_code
def yX4_goOn : MethodName := ⟨RX4, "goOn", "()V"⟩
abbrev cX4_levelOf : ByteArray := prog_6_method_16_code
def yX4_levelOf : MethodName := ⟨RX4, "levelOf", "(I)I"⟩
abbrev cX4_findFewest : ByteArray := prog_6_method_17_code
def yX4_findFewest : MethodName := ⟨RX4, "findFewest", "()V"⟩
abbrev cX4_markLeading : ByteArray := prog_6_method_18_code
def yX4_markLeading : MethodName := ⟨RX4, "markLeading", "()V"⟩
abbrev cX4_firstLeading : ByteArray := prog_6_method_19_code
def yX4_firstLeading : MethodName := ⟨RX4, "firstLeading", "(I)I"⟩
abbrev cX4_choosePath : ByteArray := prog_6_method_20_code
def yX4_choosePath : MethodName := ⟨RX4, "choosePath", "()V"⟩
def RX5 : String := "CrowdLaws$Laws"
def TX5 : u_T := fun k => match k with
  | 0 => ("CrowdLaws$Laws", "rules", "[LCrowdLaws$Rule;", true)
  | 1 => ("CrowdLaws$Laws", "badOnes", "[LCrowdLaws$Crowd;", true)
  | 2 => ("CrowdLaws$Laws", "spare", "LCrowdLaws$Crowd;", true)
  | 3 => ("CrowdLaws$Laws", "stateCount", "I", false)
  | 4 => ("CrowdLaws$Laws", "startSet", "I", false)
  | 5 => ("CrowdLaws$Laws", "ruleCount", "I", false)
  | _ => ("CrowdLaws$Laws", "badCount", "I", false)
def tyX5 : Nat → FieldType := fun k => match k with
  | 0 => .array (.object "CrowdLaws$Rule")
  | 1 => .array (.object "CrowdLaws$Crowd")
  | 2 => .object "CrowdLaws$Crowd"
  | 3 => .int
  | 4 => .int
  | 5 => .int
  | _ => .int
theorem nmX5 : ∀ a, a < 7 → ∀ b, b < 7 → a ≠ b → (TX5 a).2.1 ≠ (TX5 b).2.1 := by decide +kernel
theorem tyX5_ok : ∀ k, k < 7 → parseFieldDescriptor (TX5 k).2.2.1 = some (tyX5 k) := by decide +kernel
abbrev cX5_init : ByteArray := prog_7_method_1_code
def yX5_init : MethodName := ⟨RX5, "<init>", "()V"⟩
abbrev cX5_begin : ByteArray := prog_7_method_2_code
def yX5_begin : MethodName := ⟨RX5, "begin", "(I)V"⟩
abbrev cX5_isState : ByteArray := prog_7_method_3_code
def yX5_isState : MethodName := ⟨RX5, "isState", "(I)Z"⟩
abbrev cX5_isRule : ByteArray := prog_7_method_4_code
def yX5_isRule : MethodName := ⟨RX5, "isRule", "(I)Z"⟩
abbrev cX5_hasFewDigits : ByteArray := prog_7_method_5_code
def yX5_hasFewDigits : MethodName := ⟨RX5, "hasFewDigits", "(I)Z"⟩
abbrev cX5_isMap : ByteArray := prog_7_method_6_code
def yX5_isMap : MethodName := ⟨RX5, "isMap", "(I)Z"⟩
abbrev cX5_addBad : ByteArray := prog_7_method_7_code
def yX5_addBad : MethodName := ⟨RX5, "addBad", "(I)V"⟩
abbrev cX5_isBadCrowd : ByteArray := prog_7_method_8_code
def yX5_isBadCrowd : MethodName := ⟨RX5, "isBadCrowd", "(LCrowdLaws$Crowd;)Z"⟩
abbrev cX5_isInStart : ByteArray := prog_7_method_9_code
def yX5_isInStart : MethodName := ⟨RX5, "isInStart", "(LCrowdLaws$Crowd;)Z"⟩
abbrev cX5_countFitting : ByteArray := prog_7_method_10_code
def yX5_countFitting : MethodName := ⟨RX5, "countFitting", "(LCrowdLaws$Crowd;)I"⟩
def RX6 : String := "CrowdLaws$Rule"
def TX6 : u_T := fun k => match k with
  | 0 => ("CrowdLaws$Rule", "goals", "[I", true)
  | 1 => ("CrowdLaws$Rule", "kind", "I", false)
  | 2 => ("CrowdLaws$Rule", "p", "I", false)
  | 3 => ("CrowdLaws$Rule", "q", "I", false)
  | 4 => ("CrowdLaws$Rule", "r", "I", false)
  | 5 => ("CrowdLaws$Rule", "t", "I", false)
  | 6 => ("CrowdLaws$Rule", "map", "I", false)
  | _ => ("CrowdLaws$Rule", "needed", "I", false)
def tyX6 : Nat → FieldType := fun k => match k with
  | 0 => .array .int
  | 1 => .int
  | 2 => .int
  | 3 => .int
  | 4 => .int
  | 5 => .int
  | 6 => .int
  | _ => .int
theorem nmX6 : ∀ a, a < 8 → ∀ b, b < 8 → a ≠ b → (TX6 a).2.1 ≠ (TX6 b).2.1 := by decide +kernel
theorem tyX6_ok : ∀ k, k < 8 → parseFieldDescriptor (TX6 k).2.2.1 = some (tyX6 k) := by decide +kernel
abbrev cX6_init : ByteArray := prog_8_method_1_code
def yX6_init : MethodName := ⟨RX6, "<init>", "()V"⟩
abbrev cX6_become : ByteArray := prog_8_method_2_code
def yX6_become : MethodName := ⟨RX6, "become", "(IIIIII)V"⟩
abbrev cX6_setGoals : ByteArray := prog_8_method_3_code
def yX6_setGoals : MethodName := ⟨RX6, "setGoals", "()V"⟩
abbrev cX6_goalOf : ByteArray := prog_8_method_4_code
def yX6_goalOf : MethodName := ⟨RX6, "goalOf", "(I)I"⟩
abbrev cX6_leavers : ByteArray := prog_8_method_5_code
def yX6_leavers : MethodName := ⟨RX6, "leavers", "(I)I"⟩
abbrev cX6_comers : ByteArray := prog_8_method_6_code
def yX6_comers : MethodName := ⟨RX6, "comers", "(I)I"⟩
abbrev cX6_fits : ByteArray := prog_8_method_7_code
def yX6_fits : MethodName := ⟨RX6, "fits", "(LCrowdLaws$Crowd;)Z"⟩
abbrev cX6_lead : ByteArray := prog_8_method_8_code
def yX6_lead : MethodName := ⟨RX6, "lead", "(LCrowdLaws$Crowd;LCrowdLaws$Crowd;)V"⟩
abbrev cX6_findLack : ByteArray := prog_8_method_9_code
def yX6_findLack : MethodName := ⟨RX6, "findLack", "(LCrowdLaws$Crowd;ILCrowdLaws$Crowd;)I"⟩
abbrev cX6_isGoal : ByteArray := prog_8_method_10_code
def yX6_isGoal : MethodName := ⟨RX6, "isGoal", "(II)Z"⟩
abbrev cX6_isLastToGoal : ByteArray := prog_8_method_11_code
def yX6_isLastToGoal : MethodName := ⟨RX6, "isLastToGoal", "(II)Z"⟩
def RX7 : String := "CrowdLaws"
def TX7 : u_T := fun k => match k with
  | 0 => ("CrowdLaws", "laws", "LCrowdLaws$Laws;", true)
  | 1 => ("CrowdLaws", "hand", "LCrowdLaws$Crowd;", true)
  | 2 => ("CrowdLaws", "backward", "LCrowdLaws$Backward;", true)
  | _ => ("CrowdLaws", "forward", "LCrowdLaws$Forward;", true)
def tyX7 : Nat → FieldType := fun k => match k with
  | 0 => .object "CrowdLaws$Laws"
  | 1 => .object "CrowdLaws$Crowd"
  | 2 => .object "CrowdLaws$Backward"
  | _ => .object "CrowdLaws$Forward"
theorem nmX7 : ∀ a, a < 4 → ∀ b, b < 4 → a ≠ b → (TX7 a).2.1 ≠ (TX7 b).2.1 := by decide +kernel
theorem tyX7_ok : ∀ k, k < 4 → parseFieldDescriptor (TX7 k).2.2.1 = some (tyX7 k) := by decide +kernel
abbrev cX7_init : ByteArray := prog_1_method_1_code
def yX7_init : MethodName := ⟨RX7, "<init>", "()V"⟩
abbrev cX7_states : ByteArray := prog_1_method_2_code
def yX7_states : MethodName := ⟨RX7, "states", "(I)I"⟩
abbrev cX7_start : ByteArray := prog_1_method_3_code
def yX7_start : MethodName := ⟨RX7, "start", "(I)I"⟩
abbrev cX7_alone : ByteArray := prog_1_method_4_code
def yX7_alone : MethodName := ⟨RX7, "alone", "(II)I"⟩
abbrev cX7_pair : ByteArray := prog_1_method_5_code
def yX7_pair : MethodName := ⟨RX7, "pair", "(IIII)I"⟩
abbrev cX7_all : ByteArray := prog_1_method_6_code
def yX7_all : MethodName := ⟨RX7, "all", "(III)I"⟩
abbrev cX7_need : ByteArray := prog_1_method_7_code
def yX7_need : MethodName := ⟨RX7, "need", "(II)I"⟩
abbrev cX7_rule : ByteArray := prog_1_method_8_code
def yX7_rule : MethodName := ⟨RX7, "rule", "(II)I"⟩
abbrev cX7_bad : ByteArray := prog_1_method_9_code
def yX7_bad : MethodName := ⟨RX7, "bad", "(I)I"⟩
abbrev cX7_put : ByteArray := prog_1_method_10_code
def yX7_put : MethodName := ⟨RX7, "put", "(II)I"⟩
abbrev cX7_at : ByteArray := prog_1_method_11_code
def yX7_at : MethodName := ⟨RX7, "at", "(I)I"⟩
abbrev cX7_can : ByteArray := prog_1_method_12_code
def yX7_can : MethodName := ⟨RX7, "can", "(I)I"⟩
abbrev cX7_step : ByteArray := prog_1_method_13_code
def yX7_step : MethodName := ⟨RX7, "step", "(I)I"⟩
abbrev cX7_isBad : ByteArray := prog_1_method_14_code
def yX7_isBad : MethodName := ⟨RX7, "isBad", "()I"⟩
abbrev cX7_doomed : ByteArray := prog_1_method_15_code
def yX7_doomed : MethodName := ⟨RX7, "doomed", "()I"⟩
abbrev cX7_search : ByteArray := prog_1_method_16_code
def yX7_search : MethodName := ⟨RX7, "search", "()I"⟩
abbrev cX7_bases : ByteArray := prog_1_method_17_code
def yX7_bases : MethodName := ⟨RX7, "bases", "()I"⟩
abbrev cX7_base : ByteArray := prog_1_method_18_code
def yX7_base : MethodName := ⟨RX7, "base", "(II)I"⟩
abbrev cX7_least : ByteArray := prog_1_method_19_code
def yX7_least : MethodName := ⟨RX7, "least", "()I"⟩
abbrev cX7_reach : ByteArray := prog_1_method_20_code
def yX7_reach : MethodName := ⟨RX7, "reach", "(I)I"⟩
abbrev cX7_steps : ByteArray := prog_1_method_21_code
def yX7_steps : MethodName := ⟨RX7, "steps", "(I)I"⟩
abbrev cX7_run : ByteArray := prog_1_method_22_code
def yX7_run : MethodName := ⟨RX7, "run", "(III)I"⟩
abbrev cX7_doomedOf : ByteArray := prog_1_method_23_code
def yX7_doomedOf : MethodName := ⟨RX7, "doomedOf", "(I)I"⟩
abbrev cX7_total : ByteArray := prog_1_method_24_code
def yX7_total : MethodName := ⟨RX7, "total", "(I)I"⟩
abbrev cX7_isWalkable : ByteArray := prog_1_method_25_code
def yX7_isWalkable : MethodName := ⟨RX7, "isWalkable", "(I)Z"⟩
abbrev cX7_addRule : ByteArray := prog_1_method_26_code
def yX7_addRule : MethodName := ⟨RX7, "addRule", "(IIIIII)I"⟩
abbrev cX7_forgetFindings : ByteArray := prog_1_method_27_code
def yX7_forgetFindings : MethodName := ⟨RX7, "forgetFindings", "()V"⟩
def RX8 : String := "CrowdLawsModel"
def TX8 : u_T := fun k => match k with
  | 0 => ("CrowdLawsModel", "thrown", "I", false)
  | 1 => ("CrowdLawsModel", "states", "I", false)
  | 2 => ("CrowdLawsModel", "start", "I", false)
  | 3 => ("CrowdLawsModel", "rules", "I", false)
  | 4 => ("CrowdLawsModel", "sort", "[I", true)
  | 5 => ("CrowdLawsModel", "p", "[I", true)
  | 6 => ("CrowdLawsModel", "q", "[I", true)
  | 7 => ("CrowdLawsModel", "r", "[I", true)
  | 8 => ("CrowdLawsModel", "t", "[I", true)
  | 9 => ("CrowdLawsModel", "map", "[I", true)
  | 10 => ("CrowdLawsModel", "need", "[I", true)
  | 11 => ("CrowdLawsModel", "bads", "I", false)
  | 12 => ("CrowdLawsModel", "bad", "[I", true)
  | 13 => ("CrowdLawsModel", "hand", "[I", true)
  | 14 => ("CrowdLawsModel", "isSearched", "Z", false)
  | 15 => ("CrowdLawsModel", "isSpent", "Z", false)
  | 16 => ("CrowdLawsModel", "bases", "I", false)
  | 17 => ("CrowdLawsModel", "base", "[I", true)
  | 18 => ("CrowdLawsModel", "news", "I", false)
  | 19 => ("CrowdLawsModel", "next", "[I", true)
  | 20 => ("CrowdLawsModel", "one", "[I", true)
  | 21 => ("CrowdLawsModel", "rest", "[I", true)
  | 22 => ("CrowdLawsModel", "after", "[I", true)
  | 23 => ("CrowdLawsModel", "crowds", "I", false)
  | 24 => ("CrowdLawsModel", "code", "[I", true)
  | 25 => ("CrowdLawsModel", "place", "[I", true)
  | 26 => ("CrowdLawsModel", "far", "[I", true)
  | _ => ("CrowdLawsModel", "comes", "[Z", true)
def tyX8 : Nat → FieldType := fun k => match k with
  | 0 => .int
  | 1 => .int
  | 2 => .int
  | 3 => .int
  | 4 => .array .int
  | 5 => .array .int
  | 6 => .array .int
  | 7 => .array .int
  | 8 => .array .int
  | 9 => .array .int
  | 10 => .array .int
  | 11 => .int
  | 12 => .array .int
  | 13 => .array .int
  | 14 => .boolean
  | 15 => .boolean
  | 16 => .int
  | 17 => .array .int
  | 18 => .int
  | 19 => .array .int
  | 20 => .array .int
  | 21 => .array .int
  | 22 => .array .int
  | 23 => .int
  | 24 => .array .int
  | 25 => .array .int
  | 26 => .array .int
  | _ => .array .boolean
theorem nmX8 : ∀ a, a < 28 → ∀ b, b < 28 → a ≠ b → (TX8 a).2.1 ≠ (TX8 b).2.1 := by decide +kernel
theorem tyX8_ok : ∀ k, k < 28 → parseFieldDescriptor (TX8 k).2.2.1 = some (tyX8 k) := by decide +kernel
abbrev cX8_init : ByteArray := prog_10_method_1_code
def yX8_init : MethodName := ⟨RX8, "<init>", "()V"⟩
abbrev cX8_in : ByteArray := prog_10_method_3_code
def yX8_in : MethodName := ⟨RX8, "in", "(JJJ)Z"⟩
abbrev cX8_noState : ByteArray := prog_10_method_4_code
def yX8_noState : MethodName := ⟨RX8, "noState", "(I)Z"⟩
abbrev cX8_noRule : ByteArray := prog_10_method_5_code
def yX8_noRule : MethodName := ⟨RX8, "noRule", "(I)Z"⟩
abbrev cX8_mapped : ByteArray := prog_10_method_6_code
def yX8_mapped : MethodName := ⟨RX8, "mapped", "(II)I"⟩
abbrev cX8_states : ByteArray := prog_10_method_7_code
def yX8_states : MethodName := ⟨RX8, "states", "(I)I"⟩
abbrev cX8_start : ByteArray := prog_10_method_8_code
def yX8_start : MethodName := ⟨RX8, "start", "(I)I"⟩
abbrev cX8_newRule : ByteArray := prog_10_method_9_code
def yX8_newRule : MethodName := ⟨RX8, "newRule", "(IIIIII)I"⟩
abbrev cX8_alone : ByteArray := prog_10_method_10_code
def yX8_alone : MethodName := ⟨RX8, "alone", "(II)I"⟩
abbrev cX8_pair : ByteArray := prog_10_method_11_code
def yX8_pair : MethodName := ⟨RX8, "pair", "(IIII)I"⟩
abbrev cX8_isShort : ByteArray := prog_10_method_12_code
def yX8_isShort : MethodName := ⟨RX8, "isShort", "(I)Z"⟩
abbrev cX8_all : ByteArray := prog_10_method_13_code
def yX8_all : MethodName := ⟨RX8, "all", "(III)I"⟩
abbrev cX8_need : ByteArray := prog_10_method_14_code
def yX8_need : MethodName := ⟨RX8, "need", "(II)I"⟩
abbrev cX8_rule : ByteArray := prog_10_method_15_code
def yX8_rule : MethodName := ⟨RX8, "rule", "(II)I"⟩
abbrev cX8_bad : ByteArray := prog_10_method_16_code
def yX8_bad : MethodName := ⟨RX8, "bad", "(I)I"⟩
abbrev cX8_leaves : ByteArray := prog_10_method_17_code
def yX8_leaves : MethodName := ⟨RX8, "leaves", "([II)Z"⟩
abbrev cX8_goBy : ByteArray := prog_10_method_18_code
def yX8_goBy : MethodName := ⟨RX8, "goBy", "([II)V"⟩
abbrev cX8_isBadOne : ByteArray := prog_10_method_19_code
def yX8_isBadOne : MethodName := ⟨RX8, "isBadOne", "([I)Z"⟩
abbrev cX8_sum : ByteArray := prog_10_method_20_code
def yX8_sum : MethodName := ⟨RX8, "sum", "([II)I"⟩
abbrev cX8_put : ByteArray := prog_10_method_21_code
def yX8_put : MethodName := ⟨RX8, "put", "(II)I"⟩
abbrev cX8_at : ByteArray := prog_10_method_22_code
def yX8_at : MethodName := ⟨RX8, "at", "(I)I"⟩
abbrev cX8_can : ByteArray := prog_10_method_23_code
def yX8_can : MethodName := ⟨RX8, "can", "(I)I"⟩
abbrev cX8_step : ByteArray := prog_10_method_24_code
def yX8_step : MethodName := ⟨RX8, "step", "(I)I"⟩
abbrev cX8_isBad : ByteArray := prog_10_method_25_code
def yX8_isBad : MethodName := ⟨RX8, "isBad", "()I"⟩
abbrev cX8_isDoomed : ByteArray := prog_10_method_26_code
def yX8_isDoomed : MethodName := ⟨RX8, "isDoomed", "([I)Z"⟩
abbrev cX8_isOver : ByteArray := prog_10_method_27_code
def yX8_isOver : MethodName := ⟨RX8, "isOver", "([I[II)Z"⟩
abbrev cX8_noSearch : ByteArray := prog_10_method_28_code
def yX8_noSearch : MethodName := ⟨RX8, "noSearch", "()I"⟩
abbrev cX8_doomed : ByteArray := prog_10_method_29_code
def yX8_doomed : MethodName := ⟨RX8, "doomed", "()I"⟩
abbrev cX8_take : ByteArray := prog_10_method_30_code
def yX8_take : MethodName := ⟨RX8, "take", "()V"⟩
abbrev cX8_wanted : ByteArray := prog_10_method_31_code
def yX8_wanted : MethodName := ⟨RX8, "wanted", "(III)I"⟩
abbrev cX8_plain : ByteArray := prog_10_method_32_code
def yX8_plain : MethodName := ⟨RX8, "plain", "(III)V"⟩
abbrev cX8_shared : ByteArray := prog_10_method_33_code
def yX8_shared : MethodName := ⟨RX8, "shared", "(III)V"⟩
abbrev cX8_isLast : ByteArray := prog_10_method_34_code
def yX8_isLast : MethodName := ⟨RX8, "isLast", "(II)Z"⟩
abbrev cX8_left : ByteArray := prog_10_method_35_code
def yX8_left : MethodName := ⟨RX8, "left", "(III)I"⟩
abbrev cX8_counted : ByteArray := prog_10_method_36_code
def yX8_counted : MethodName := ⟨RX8, "counted", "(II)Z"⟩
abbrev cX8_round : ByteArray := prog_10_method_37_code
def yX8_round : MethodName := ⟨RX8, "round", "()Z"⟩
abbrev cX8_keep : ByteArray := prog_10_method_38_code
def yX8_keep : MethodName := ⟨RX8, "keep", "()V"⟩
abbrev cX8_isAhead : ByteArray := prog_10_method_39_code
def yX8_isAhead : MethodName := ⟨RX8, "isAhead", "(II)Z"⟩
abbrev cX8_order : ByteArray := prog_10_method_40_code
def yX8_order : MethodName := ⟨RX8, "order", "()V"⟩
abbrev cX8_search : ByteArray := prog_10_method_41_code
def yX8_search : MethodName := ⟨RX8, "search", "()I"⟩
abbrev cX8_bases : ByteArray := prog_10_method_42_code
def yX8_bases : MethodName := ⟨RX8, "bases", "()I"⟩
abbrev cX8_base : ByteArray := prog_10_method_43_code
def yX8_base : MethodName := ⟨RX8, "base", "(II)I"⟩
abbrev cX8_least : ByteArray := prog_10_method_44_code
def yX8_least : MethodName := ⟨RX8, "least", "()I"⟩
abbrev cX8_codeOf : ByteArray := prog_10_method_45_code
def yX8_codeOf : MethodName := ⟨RX8, "codeOf", "([I)I"⟩
abbrev cX8_crowdOf : ByteArray := prog_10_method_46_code
def yX8_crowdOf : MethodName := ⟨RX8, "crowdOf", "(I[I)V"⟩
abbrev cX8_isStart : ByteArray := prog_10_method_47_code
def yX8_isStart : MethodName := ⟨RX8, "isStart", "([I)Z"⟩
abbrev cX8_goThrough : ByteArray := prog_10_method_48_code
def yX8_goThrough : MethodName := ⟨RX8, "goThrough", "(I)V"⟩
abbrev cX8_reach : ByteArray := prog_10_method_49_code
def yX8_reach : MethodName := ⟨RX8, "reach", "(I)I"⟩
abbrev cX8_nearest : ByteArray := prog_10_method_50_code
def yX8_nearest : MethodName := ⟨RX8, "nearest", "()I"⟩
abbrev cX8_steps : ByteArray := prog_10_method_51_code
def yX8_steps : MethodName := ⟨RX8, "steps", "(I)I"⟩
abbrev cX8_run : ByteArray := prog_10_method_52_code
def yX8_run : MethodName := ⟨RX8, "run", "(III)I"⟩
abbrev cX8_doomedOf : ByteArray := prog_10_method_53_code
def yX8_doomedOf : MethodName := ⟨RX8, "doomedOf", "(I)I"⟩
abbrev cX8_total : ByteArray := prog_10_method_54_code
def yX8_total : MethodName := ⟨RX8, "total", "(I)I"⟩
def RL : String := "CrowdLawsLaw"
abbrev cL_law : ByteArray := code
def yL_law : MethodName := ⟨RL, "law", "([I)Z"⟩
abbrev vwCl : List vw_C := [(RX0, TX0, 7), (RX1, TX1, 4), (RX2, TX2, 1), (RX3, TX3, 1), (RX4, TX4, 13), (RX5, TX5, 7), (RX6, TX6, 8), (RX7, TX7, 4), (RX8, TX8, 28)]
theorem kW_X0 : ∀ w ∈ u_ws RX0 TX0 7, w ∈ lw_tbl := by decide +kernel
theorem kW_X1 : ∀ w ∈ u_ws RX1 TX1 4, w ∈ lw_tbl := by decide +kernel
theorem kW_X2 : ∀ w ∈ u_ws RX2 TX2 1, w ∈ lw_tbl := by decide +kernel
theorem kW_X3 : ∀ w ∈ u_ws RX3 TX3 1, w ∈ lw_tbl := by decide +kernel
theorem kW_X4 : ∀ w ∈ u_ws RX4 TX4 13, w ∈ lw_tbl := by decide +kernel
theorem kW_X5 : ∀ w ∈ u_ws RX5 TX5 7, w ∈ lw_tbl := by decide +kernel
theorem kW_X6 : ∀ w ∈ u_ws RX6 TX6 8, w ∈ lw_tbl := by decide +kernel
theorem kW_X7 : ∀ w ∈ u_ws RX7 TX7 4, w ∈ lw_tbl := by decide +kernel
theorem kW_X8 : ∀ w ∈ u_ws RX8 TX8 28, w ∈ lw_tbl := by decide +kernel
theorem kN_L : Cond.initialized "CrowdLawsLaw" ∈ lw_tbl := List.mem_append_right _ (List.mem_of_getElem? (i := 0) (by decide +kernel))
theorem kN_X7 : Cond.initialized RX7 ∈ lw_tbl := List.mem_append_right _ (List.mem_of_getElem? (i := 1) (by decide +kernel))
theorem kN_X5 : Cond.initialized RX5 ∈ lw_tbl := List.mem_append_right _ (List.mem_of_getElem? (i := 2) (by decide +kernel))
theorem kN_X3 : Cond.initialized RX3 ∈ lw_tbl := List.mem_append_right _ (List.mem_of_getElem? (i := 3) (by decide +kernel))
theorem kN_X6 : Cond.initialized RX6 ∈ lw_tbl := List.mem_append_right _ (List.mem_of_getElem? (i := 4) (by decide +kernel))
theorem kN_X0 : Cond.initialized RX0 ∈ lw_tbl := List.mem_append_right _ (List.mem_of_getElem? (i := 5) (by decide +kernel))
theorem kN_X2 : Cond.initialized RX2 ∈ lw_tbl := List.mem_append_right _ (List.mem_of_getElem? (i := 6) (by decide +kernel))
theorem kN_X1 : Cond.initialized RX1 ∈ lw_tbl := List.mem_append_right _ (List.mem_of_getElem? (i := 7) (by decide +kernel))
theorem kN_X4 : Cond.initialized RX4 ∈ lw_tbl := List.mem_append_right _ (List.mem_of_getElem? (i := 8) (by decide +kernel))
theorem kN_X8 : Cond.initialized RX8 ∈ lw_tbl := List.mem_append_right _ (List.mem_of_getElem? (i := 9) (by decide +kernel))
theorem kN_J : Cond.initialized "java/lang/Math" ∈ lw_tbl := List.mem_append_right _ (List.mem_of_getElem? (i := 10) (by decide +kernel))
theorem kL_L_7 : Cond.classLink "CrowdLawsLaw" 7 RX7 ∈ lw_tbl := List.mem_append_right _ (List.mem_of_getElem? (i := 11) (by decide +kernel))
theorem kB_X7 : Cond.instantiable RX7 4 ∈ lw_tbl := List.mem_append_right _ (List.mem_of_getElem? (i := 12) (by decide +kernel))
theorem kM_L_9 : Cond.methodLink "CrowdLawsLaw" 9 yX7_init ∈ lw_tbl := List.mem_append_right _ (List.mem_of_getElem? (i := 13) (by decide +kernel))
theorem kI_yX7_init : Cond.instanceMethod yX7_init ∈ lw_tbl := List.mem_append_right _ (List.mem_of_getElem? (i := 14) (by decide +kernel))
theorem kC_yX7_init : Cond.code yX7_init cX7_init 1 (Option.none : Option Jvm.ClassFile.FieldType) ∈ lw_tbl := List.mem_append_right _ (List.mem_of_getElem? (i := 15) (by decide +kernel))
theorem kM_X7_1 : Cond.methodLink RX7 1 objectInit ∈ lw_tbl := List.mem_append_right _ (List.mem_of_getElem? (i := 16) (by decide +kernel))
theorem kI_objectInit : Cond.instanceMethod objectInit ∈ lw_tbl := List.mem_append_right _ (List.mem_of_getElem? (i := 17) (by decide +kernel))
theorem kC_objectInit : Cond.code objectInit ⟨#[0xb1]⟩ 1 (Option.none : Option Jvm.ClassFile.FieldType) ∈ lw_tbl := List.mem_append_right _ (List.mem_of_getElem? (i := 18) (by decide +kernel))
theorem kL_X7_7 : Cond.classLink RX7 7 RX5 ∈ lw_tbl := List.mem_append_right _ (List.mem_of_getElem? (i := 19) (by decide +kernel))
theorem kB_X5 : Cond.instantiable RX5 7 ∈ lw_tbl := List.mem_append_right _ (List.mem_of_getElem? (i := 20) (by decide +kernel))
theorem kM_X7_9 : Cond.methodLink RX7 9 yX5_init ∈ lw_tbl := List.mem_append_right _ (List.mem_of_getElem? (i := 21) (by decide +kernel))
theorem kI_yX5_init : Cond.instanceMethod yX5_init ∈ lw_tbl := List.mem_append_right _ (List.mem_of_getElem? (i := 22) (by decide +kernel))
theorem kC_yX5_init : Cond.code yX5_init cX5_init 2 (Option.none : Option Jvm.ClassFile.FieldType) ∈ lw_tbl := List.mem_append_right _ (List.mem_of_getElem? (i := 23) (by decide +kernel))
theorem kM_X5_3 : Cond.methodLink RX5 3 objectInit ∈ lw_tbl := List.mem_append_right _ (List.mem_of_getElem? (i := 24) (by decide +kernel))
theorem kL_X5_9 : Cond.classLink RX5 9 RX6 ∈ lw_tbl := List.mem_append_right _ (List.mem_of_getElem? (i := 25) (by decide +kernel))
theorem kA_26 : (Jvm.Cond.arrayOver (Jvm.ClassFile.FieldType.object "CrowdLaws$Rule")) ∈ lw_tbl := List.mem_append_right _ (List.mem_of_getElem? (i := 26) (by decide +kernel))
theorem kL_X5_17 : Cond.classLink RX5 17 RX3 ∈ lw_tbl := List.mem_append_right _ (List.mem_of_getElem? (i := 27) (by decide +kernel))
theorem kA_28 : (Jvm.Cond.arrayOver (Jvm.ClassFile.FieldType.object "CrowdLaws$Crowd")) ∈ lw_tbl := List.mem_append_right _ (List.mem_of_getElem? (i := 28) (by decide +kernel))
theorem kB_X3 : Cond.instantiable RX3 1 ∈ lw_tbl := List.mem_append_right _ (List.mem_of_getElem? (i := 29) (by decide +kernel))
theorem kM_X5_23 : Cond.methodLinkNest RX5 23 yX3_init "CrowdLaws" ∈ lw_tbl := List.mem_append_right _ (List.mem_of_getElem? (i := 30) (by decide +kernel))
theorem kI_yX3_init : Cond.instanceMethod yX3_init ∈ lw_tbl := List.mem_append_right _ (List.mem_of_getElem? (i := 31) (by decide +kernel))
theorem kC_yX3_init : Cond.code yX3_init cX3_init 1 (Option.none : Option Jvm.ClassFile.FieldType) ∈ lw_tbl := List.mem_append_right _ (List.mem_of_getElem? (i := 32) (by decide +kernel))
theorem kM_X3_3 : Cond.methodLink RX3 3 objectInit ∈ lw_tbl := List.mem_append_right _ (List.mem_of_getElem? (i := 33) (by decide +kernel))
theorem kF_X3_9 : Cond.fieldLink RX3 9 "CrowdLaws$Crowd" "in" "[I" ∈ lw_tbl := List.mem_append_right _ (List.mem_of_getElem? (i := 34) (by decide +kernel))
theorem kA_38 : (Jvm.Cond.arrayClass Jvm.ClassFile.FieldType.int) ∈ lw_tbl := List.mem_append_right _ (List.mem_of_getElem? (i := 38) (by decide +kernel))
theorem kB_X6 : Cond.instantiable RX6 8 ∈ lw_tbl := List.mem_append_right _ (List.mem_of_getElem? (i := 39) (by decide +kernel))
theorem kM_X5_41 : Cond.methodLinkNest RX5 41 yX6_init "CrowdLaws" ∈ lw_tbl := List.mem_append_right _ (List.mem_of_getElem? (i := 40) (by decide +kernel))
theorem kI_yX6_init : Cond.instanceMethod yX6_init ∈ lw_tbl := List.mem_append_right _ (List.mem_of_getElem? (i := 41) (by decide +kernel))
theorem kC_yX6_init : Cond.code yX6_init cX6_init 1 (Option.none : Option Jvm.ClassFile.FieldType) ∈ lw_tbl := List.mem_append_right _ (List.mem_of_getElem? (i := 42) (by decide +kernel))
theorem kM_X6_3 : Cond.methodLink RX6 3 objectInit ∈ lw_tbl := List.mem_append_right _ (List.mem_of_getElem? (i := 43) (by decide +kernel))
theorem kF_X6_9 : Cond.fieldLink RX6 9 "CrowdLaws$Rule" "goals" "[I" ∈ lw_tbl := List.mem_append_right _ (List.mem_of_getElem? (i := 44) (by decide +kernel))
theorem kF_X6_15 : Cond.fieldLink RX6 15 "CrowdLaws$Rule" "kind" "I" ∈ lw_tbl := List.mem_append_right _ (List.mem_of_getElem? (i := 45) (by decide +kernel))
theorem kF_X7_82 : Cond.fieldLinkNest RX7 82 "CrowdLaws$Rule" "kind" "I" "CrowdLaws" ∈ lw_tbl := List.mem_append_right _ (List.mem_of_getElem? (i := 46) (by decide +kernel))
theorem kF_X6_19 : Cond.fieldLink RX6 19 "CrowdLaws$Rule" "p" "I" ∈ lw_tbl := List.mem_append_right _ (List.mem_of_getElem? (i := 47) (by decide +kernel))
theorem kF_X7_85 : Cond.fieldLinkNest RX7 85 "CrowdLaws$Rule" "p" "I" "CrowdLaws" ∈ lw_tbl := List.mem_append_right _ (List.mem_of_getElem? (i := 48) (by decide +kernel))
theorem kF_X0_146 : Cond.fieldLinkNest RX0 146 "CrowdLaws$Rule" "p" "I" "CrowdLaws" ∈ lw_tbl := List.mem_append_right _ (List.mem_of_getElem? (i := 49) (by decide +kernel))
theorem kF_X6_22 : Cond.fieldLink RX6 22 "CrowdLaws$Rule" "q" "I" ∈ lw_tbl := List.mem_append_right _ (List.mem_of_getElem? (i := 50) (by decide +kernel))
theorem kF_X7_88 : Cond.fieldLinkNest RX7 88 "CrowdLaws$Rule" "q" "I" "CrowdLaws" ∈ lw_tbl := List.mem_append_right _ (List.mem_of_getElem? (i := 51) (by decide +kernel))
theorem kF_X6_25 : Cond.fieldLink RX6 25 "CrowdLaws$Rule" "r" "I" ∈ lw_tbl := List.mem_append_right _ (List.mem_of_getElem? (i := 52) (by decide +kernel))
theorem kF_X7_91 : Cond.fieldLinkNest RX7 91 "CrowdLaws$Rule" "r" "I" "CrowdLaws" ∈ lw_tbl := List.mem_append_right _ (List.mem_of_getElem? (i := 53) (by decide +kernel))
theorem kF_X0_153 : Cond.fieldLinkNest RX0 153 "CrowdLaws$Rule" "r" "I" "CrowdLaws" ∈ lw_tbl := List.mem_append_right _ (List.mem_of_getElem? (i := 54) (by decide +kernel))
theorem kF_X6_28 : Cond.fieldLink RX6 28 "CrowdLaws$Rule" "t" "I" ∈ lw_tbl := List.mem_append_right _ (List.mem_of_getElem? (i := 55) (by decide +kernel))
theorem kF_X7_94 : Cond.fieldLinkNest RX7 94 "CrowdLaws$Rule" "t" "I" "CrowdLaws" ∈ lw_tbl := List.mem_append_right _ (List.mem_of_getElem? (i := 56) (by decide +kernel))
theorem kF_X6_31 : Cond.fieldLink RX6 31 "CrowdLaws$Rule" "map" "I" ∈ lw_tbl := List.mem_append_right _ (List.mem_of_getElem? (i := 57) (by decide +kernel))
theorem kF_X7_97 : Cond.fieldLinkNest RX7 97 "CrowdLaws$Rule" "map" "I" "CrowdLaws" ∈ lw_tbl := List.mem_append_right _ (List.mem_of_getElem? (i := 58) (by decide +kernel))
theorem kF_X6_34 : Cond.fieldLink RX6 34 "CrowdLaws$Rule" "needed" "I" ∈ lw_tbl := List.mem_append_right _ (List.mem_of_getElem? (i := 59) (by decide +kernel))
theorem kF_X7_77 : Cond.fieldLinkNest RX7 77 "CrowdLaws$Rule" "needed" "I" "CrowdLaws" ∈ lw_tbl := List.mem_append_right _ (List.mem_of_getElem? (i := 60) (by decide +kernel))
theorem kF_X0_156 : Cond.fieldLinkNest RX0 156 "CrowdLaws$Rule" "needed" "I" "CrowdLaws" ∈ lw_tbl := List.mem_append_right _ (List.mem_of_getElem? (i := 61) (by decide +kernel))
theorem kF_X5_11 : Cond.fieldLink RX5 11 "CrowdLaws$Laws" "rules" "[LCrowdLaws$Rule;" ∈ lw_tbl := List.mem_append_right _ (List.mem_of_getElem? (i := 79) (by decide +kernel))
theorem kF_X7_73 : Cond.fieldLinkNest RX7 73 "CrowdLaws$Laws" "rules" "[LCrowdLaws$Rule;" "CrowdLaws" ∈ lw_tbl := List.mem_append_right _ (List.mem_of_getElem? (i := 80) (by decide +kernel))
theorem kF_X0_113 : Cond.fieldLinkNest RX0 113 "CrowdLaws$Laws" "rules" "[LCrowdLaws$Rule;" "CrowdLaws" ∈ lw_tbl := List.mem_append_right _ (List.mem_of_getElem? (i := 81) (by decide +kernel))
theorem kF_X4_138 : Cond.fieldLinkNest RX4 138 "CrowdLaws$Laws" "rules" "[LCrowdLaws$Rule;" "CrowdLaws" ∈ lw_tbl := List.mem_append_right _ (List.mem_of_getElem? (i := 82) (by decide +kernel))
theorem kF_X5_19 : Cond.fieldLink RX5 19 "CrowdLaws$Laws" "badOnes" "[LCrowdLaws$Crowd;" ∈ lw_tbl := List.mem_append_right _ (List.mem_of_getElem? (i := 83) (by decide +kernel))
theorem kF_X0_87 : Cond.fieldLinkNest RX0 87 "CrowdLaws$Laws" "badOnes" "[LCrowdLaws$Crowd;" "CrowdLaws" ∈ lw_tbl := List.mem_append_right _ (List.mem_of_getElem? (i := 84) (by decide +kernel))
theorem kF_X5_24 : Cond.fieldLink RX5 24 "CrowdLaws$Laws" "spare" "LCrowdLaws$Crowd;" ∈ lw_tbl := List.mem_append_right _ (List.mem_of_getElem? (i := 85) (by decide +kernel))
theorem kF_X7_125 : Cond.fieldLinkNest RX7 125 "CrowdLaws$Laws" "spare" "LCrowdLaws$Crowd;" "CrowdLaws" ∈ lw_tbl := List.mem_append_right _ (List.mem_of_getElem? (i := 86) (by decide +kernel))
theorem kF_X5_28 : Cond.fieldLink RX5 28 "CrowdLaws$Laws" "stateCount" "I" ∈ lw_tbl := List.mem_append_right _ (List.mem_of_getElem? (i := 87) (by decide +kernel))
theorem kF_X7_39 : Cond.fieldLinkNest RX7 39 "CrowdLaws$Laws" "stateCount" "I" "CrowdLaws" ∈ lw_tbl := List.mem_append_right _ (List.mem_of_getElem? (i := 88) (by decide +kernel))
theorem kF_X4_102 : Cond.fieldLinkNest RX4 102 "CrowdLaws$Laws" "stateCount" "I" "CrowdLaws" ∈ lw_tbl := List.mem_append_right _ (List.mem_of_getElem? (i := 89) (by decide +kernel))
theorem kF_X0_117 : Cond.fieldLinkNest RX0 117 "CrowdLaws$Laws" "stateCount" "I" "CrowdLaws" ∈ lw_tbl := List.mem_append_right _ (List.mem_of_getElem? (i := 90) (by decide +kernel))
theorem kF_X5_32 : Cond.fieldLink RX5 32 "CrowdLaws$Laws" "startSet" "I" ∈ lw_tbl := List.mem_append_right _ (List.mem_of_getElem? (i := 91) (by decide +kernel))
theorem kF_X7_53 : Cond.fieldLinkNest RX7 53 "CrowdLaws$Laws" "startSet" "I" "CrowdLaws" ∈ lw_tbl := List.mem_append_right _ (List.mem_of_getElem? (i := 92) (by decide +kernel))
theorem kF_X5_35 : Cond.fieldLink RX5 35 "CrowdLaws$Laws" "ruleCount" "I" ∈ lw_tbl := List.mem_append_right _ (List.mem_of_getElem? (i := 93) (by decide +kernel))
theorem kF_X0_110 : Cond.fieldLinkNest RX0 110 "CrowdLaws$Laws" "ruleCount" "I" "CrowdLaws" ∈ lw_tbl := List.mem_append_right _ (List.mem_of_getElem? (i := 94) (by decide +kernel))
theorem kF_X4_135 : Cond.fieldLinkNest RX4 135 "CrowdLaws$Laws" "ruleCount" "I" "CrowdLaws" ∈ lw_tbl := List.mem_append_right _ (List.mem_of_getElem? (i := 95) (by decide +kernel))
theorem kF_X7_188 : Cond.fieldLinkNest RX7 188 "CrowdLaws$Laws" "ruleCount" "I" "CrowdLaws" ∈ lw_tbl := List.mem_append_right _ (List.mem_of_getElem? (i := 96) (by decide +kernel))
theorem kF_X5_38 : Cond.fieldLink RX5 38 "CrowdLaws$Laws" "badCount" "I" ∈ lw_tbl := List.mem_append_right _ (List.mem_of_getElem? (i := 97) (by decide +kernel))
theorem kF_X0_84 : Cond.fieldLinkNest RX0 84 "CrowdLaws$Laws" "badCount" "I" "CrowdLaws" ∈ lw_tbl := List.mem_append_right _ (List.mem_of_getElem? (i := 98) (by decide +kernel))
theorem kF_X7_103 : Cond.fieldLinkNest RX7 103 "CrowdLaws$Laws" "badCount" "I" "CrowdLaws" ∈ lw_tbl := List.mem_append_right _ (List.mem_of_getElem? (i := 99) (by decide +kernel))
theorem kL_X7_16 : Cond.classLink RX7 16 RX3 ∈ lw_tbl := List.mem_append_right _ (List.mem_of_getElem? (i := 115) (by decide +kernel))
theorem kM_X7_18 : Cond.methodLinkNest RX7 18 yX3_init "CrowdLaws" ∈ lw_tbl := List.mem_append_right _ (List.mem_of_getElem? (i := 116) (by decide +kernel))
theorem kL_X7_23 : Cond.classLink RX7 23 RX0 ∈ lw_tbl := List.mem_append_right _ (List.mem_of_getElem? (i := 117) (by decide +kernel))
theorem kB_X0 : Cond.instantiable RX0 7 ∈ lw_tbl := List.mem_append_right _ (List.mem_of_getElem? (i := 118) (by decide +kernel))
theorem kM_X7_25 : Cond.methodLink RX7 25 yX0_init ∈ lw_tbl := List.mem_append_right _ (List.mem_of_getElem? (i := 119) (by decide +kernel))
theorem kI_yX0_init : Cond.instanceMethod yX0_init ∈ lw_tbl := List.mem_append_right _ (List.mem_of_getElem? (i := 120) (by decide +kernel))
theorem kC_yX0_init : Cond.code yX0_init cX0_init 2 (Option.none : Option Jvm.ClassFile.FieldType) ∈ lw_tbl := List.mem_append_right _ (List.mem_of_getElem? (i := 121) (by decide +kernel))
theorem kM_X0_3 : Cond.methodLink RX0 3 objectInit ∈ lw_tbl := List.mem_append_right _ (List.mem_of_getElem? (i := 122) (by decide +kernel))
theorem kL_X0_9 : Cond.classLink RX0 9 RX2 ∈ lw_tbl := List.mem_append_right _ (List.mem_of_getElem? (i := 123) (by decide +kernel))
theorem kB_X2 : Cond.instantiable RX2 1 ∈ lw_tbl := List.mem_append_right _ (List.mem_of_getElem? (i := 124) (by decide +kernel))
theorem kM_X0_11 : Cond.methodLink RX0 11 yX2_init ∈ lw_tbl := List.mem_append_right _ (List.mem_of_getElem? (i := 125) (by decide +kernel))
theorem kI_yX2_init : Cond.instanceMethod yX2_init ∈ lw_tbl := List.mem_append_right _ (List.mem_of_getElem? (i := 126) (by decide +kernel))
theorem kC_yX2_init : Cond.code yX2_init cX2_init 2 (Option.none : Option Jvm.ClassFile.FieldType) ∈ lw_tbl := List.mem_append_right _ (List.mem_of_getElem? (i := 127) (by decide +kernel))
theorem kM_X2_3 : Cond.methodLink RX2 3 objectInit ∈ lw_tbl := List.mem_append_right _ (List.mem_of_getElem? (i := 128) (by decide +kernel))
theorem kF_X2_9 : Cond.fieldLink RX2 9 "CrowdLaws$ByRule" "cells" "[I" ∈ lw_tbl := List.mem_append_right _ (List.mem_of_getElem? (i := 129) (by decide +kernel))
theorem kL_X0_20 : Cond.classLink RX0 20 RX3 ∈ lw_tbl := List.mem_append_right _ (List.mem_of_getElem? (i := 133) (by decide +kernel))
theorem kM_X0_22 : Cond.methodLinkNest RX0 22 yX3_init "CrowdLaws" ∈ lw_tbl := List.mem_append_right _ (List.mem_of_getElem? (i := 134) (by decide +kernel))
theorem kL_X0_30 : Cond.classLink RX0 30 RX1 ∈ lw_tbl := List.mem_append_right _ (List.mem_of_getElem? (i := 135) (by decide +kernel))
theorem kB_X1 : Cond.instantiable RX1 4 ∈ lw_tbl := List.mem_append_right _ (List.mem_of_getElem? (i := 136) (by decide +kernel))
theorem kM_X0_32 : Cond.methodLink RX0 32 yX1_init ∈ lw_tbl := List.mem_append_right _ (List.mem_of_getElem? (i := 137) (by decide +kernel))
theorem kI_yX1_init : Cond.instanceMethod yX1_init ∈ lw_tbl := List.mem_append_right _ (List.mem_of_getElem? (i := 138) (by decide +kernel))
theorem kC_yX1_init : Cond.code yX1_init cX1_init 2 (Option.none : Option Jvm.ClassFile.FieldType) ∈ lw_tbl := List.mem_append_right _ (List.mem_of_getElem? (i := 139) (by decide +kernel))
theorem kM_X1_3 : Cond.methodLink RX1 3 objectInit ∈ lw_tbl := List.mem_append_right _ (List.mem_of_getElem? (i := 140) (by decide +kernel))
theorem kL_X1_9 : Cond.classLink RX1 9 RX3 ∈ lw_tbl := List.mem_append_right _ (List.mem_of_getElem? (i := 141) (by decide +kernel))
theorem kM_X1_28 : Cond.methodLinkNest RX1 28 yX3_init "CrowdLaws" ∈ lw_tbl := List.mem_append_right _ (List.mem_of_getElem? (i := 142) (by decide +kernel))
theorem kF_X1_11 : Cond.fieldLink RX1 11 "CrowdLaws$Bases" "rows" "[LCrowdLaws$Crowd;" ∈ lw_tbl := List.mem_append_right _ (List.mem_of_getElem? (i := 143) (by decide +kernel))
theorem kF_X0_55 : Cond.fieldLinkNest RX0 55 "CrowdLaws$Bases" "rows" "[LCrowdLaws$Crowd;" "CrowdLaws" ∈ lw_tbl := List.mem_append_right _ (List.mem_of_getElem? (i := 144) (by decide +kernel))
theorem kF_X7_161 : Cond.fieldLinkNest RX7 161 "CrowdLaws$Bases" "rows" "[LCrowdLaws$Crowd;" "CrowdLaws" ∈ lw_tbl := List.mem_append_right _ (List.mem_of_getElem? (i := 145) (by decide +kernel))
theorem kF_X1_17 : Cond.fieldLink RX1 17 "CrowdLaws$Bases" "fresh" "[Z" ∈ lw_tbl := List.mem_append_right _ (List.mem_of_getElem? (i := 146) (by decide +kernel))
theorem kF_X0_130 : Cond.fieldLinkNest RX0 130 "CrowdLaws$Bases" "fresh" "[Z" "CrowdLaws" ∈ lw_tbl := List.mem_append_right _ (List.mem_of_getElem? (i := 147) (by decide +kernel))
theorem kF_X1_21 : Cond.fieldLink RX1 21 "CrowdLaws$Bases" "count" "I" ∈ lw_tbl := List.mem_append_right _ (List.mem_of_getElem? (i := 148) (by decide +kernel))
theorem kF_X0_52 : Cond.fieldLinkNest RX0 52 "CrowdLaws$Bases" "count" "I" "CrowdLaws" ∈ lw_tbl := List.mem_append_right _ (List.mem_of_getElem? (i := 149) (by decide +kernel))
theorem kF_X7_156 : Cond.fieldLinkNest RX7 156 "CrowdLaws$Bases" "count" "I" "CrowdLaws" ∈ lw_tbl := List.mem_append_right _ (List.mem_of_getElem? (i := 150) (by decide +kernel))
theorem kF_X1_25 : Cond.fieldLink RX1 25 "CrowdLaws$Bases" "freshCount" "I" ∈ lw_tbl := List.mem_append_right _ (List.mem_of_getElem? (i := 151) (by decide +kernel))
theorem kF_X0_74 : Cond.fieldLinkNest RX0 74 "CrowdLaws$Bases" "freshCount" "I" "CrowdLaws" ∈ lw_tbl := List.mem_append_right _ (List.mem_of_getElem? (i := 152) (by decide +kernel))
theorem kA_162 : (Jvm.Cond.arrayClass Jvm.ClassFile.FieldType.boolean) ∈ lw_tbl := List.mem_append_right _ (List.mem_of_getElem? (i := 162) (by decide +kernel))
theorem kF_X0_44 : Cond.fieldLink RX0 44 "CrowdLaws$Backward" "laws" "LCrowdLaws$Laws;" ∈ lw_tbl := List.mem_append_right _ (List.mem_of_getElem? (i := 163) (by decide +kernel))
theorem kF_X0_14 : Cond.fieldLink RX0 14 "CrowdLaws$Backward" "sums" "LCrowdLaws$ByRule;" ∈ lw_tbl := List.mem_append_right _ (List.mem_of_getElem? (i := 164) (by decide +kernel))
theorem kF_X0_23 : Cond.fieldLink RX0 23 "CrowdLaws$Backward" "lack" "LCrowdLaws$Crowd;" ∈ lw_tbl := List.mem_append_right _ (List.mem_of_getElem? (i := 165) (by decide +kernel))
theorem kF_X0_27 : Cond.fieldLink RX0 27 "CrowdLaws$Backward" "maker" "LCrowdLaws$Crowd;" ∈ lw_tbl := List.mem_append_right _ (List.mem_of_getElem? (i := 166) (by decide +kernel))
theorem kF_X0_33 : Cond.fieldLink RX0 33 "CrowdLaws$Backward" "now" "LCrowdLaws$Bases;" ∈ lw_tbl := List.mem_append_right _ (List.mem_of_getElem? (i := 167) (by decide +kernel))
theorem kF_X7_152 : Cond.fieldLinkNest RX7 152 "CrowdLaws$Backward" "now" "LCrowdLaws$Bases;" "CrowdLaws" ∈ lw_tbl := List.mem_append_right _ (List.mem_of_getElem? (i := 168) (by decide +kernel))
theorem kF_X0_37 : Cond.fieldLink RX0 37 "CrowdLaws$Backward" "next" "LCrowdLaws$Bases;" ∈ lw_tbl := List.mem_append_right _ (List.mem_of_getElem? (i := 169) (by decide +kernel))
theorem kF_X0_40 : Cond.fieldLink RX0 40 "CrowdLaws$Backward" "outcome" "I" ∈ lw_tbl := List.mem_append_right _ (List.mem_of_getElem? (i := 170) (by decide +kernel))
theorem kF_X7_143 : Cond.fieldLinkNest RX7 143 "CrowdLaws$Backward" "outcome" "I" "CrowdLaws" ∈ lw_tbl := List.mem_append_right _ (List.mem_of_getElem? (i := 171) (by decide +kernel))
theorem kL_X7_32 : Cond.classLink RX7 32 RX4 ∈ lw_tbl := List.mem_append_right _ (List.mem_of_getElem? (i := 187) (by decide +kernel))
theorem kB_X4 : Cond.instantiable RX4 13 ∈ lw_tbl := List.mem_append_right _ (List.mem_of_getElem? (i := 188) (by decide +kernel))
theorem kM_X7_34 : Cond.methodLink RX7 34 yX4_init ∈ lw_tbl := List.mem_append_right _ (List.mem_of_getElem? (i := 189) (by decide +kernel))
theorem kI_yX4_init : Cond.instanceMethod yX4_init ∈ lw_tbl := List.mem_append_right _ (List.mem_of_getElem? (i := 190) (by decide +kernel))
theorem kC_yX4_init : Cond.code yX4_init cX4_init 2 (Option.none : Option Jvm.ClassFile.FieldType) ∈ lw_tbl := List.mem_append_right _ (List.mem_of_getElem? (i := 191) (by decide +kernel))
theorem kM_X4_3 : Cond.methodLink RX4 3 objectInit ∈ lw_tbl := List.mem_append_right _ (List.mem_of_getElem? (i := 192) (by decide +kernel))
theorem kL_X4_9 : Cond.classLink RX4 9 RX3 ∈ lw_tbl := List.mem_append_right _ (List.mem_of_getElem? (i := 193) (by decide +kernel))
theorem kM_X4_11 : Cond.methodLinkNest RX4 11 yX3_init "CrowdLaws" ∈ lw_tbl := List.mem_append_right _ (List.mem_of_getElem? (i := 194) (by decide +kernel))
theorem kL_X4_31 : Cond.classLink RX4 31 RX2 ∈ lw_tbl := List.mem_append_right _ (List.mem_of_getElem? (i := 195) (by decide +kernel))
theorem kM_X4_33 : Cond.methodLink RX4 33 yX2_init ∈ lw_tbl := List.mem_append_right _ (List.mem_of_getElem? (i := 196) (by decide +kernel))
theorem kF_X4_60 : Cond.fieldLink RX4 60 "CrowdLaws$Forward" "laws" "LCrowdLaws$Laws;" ∈ lw_tbl := List.mem_append_right _ (List.mem_of_getElem? (i := 197) (by decide +kernel))
theorem kF_X4_12 : Cond.fieldLink RX4 12 "CrowdLaws$Forward" "from" "LCrowdLaws$Crowd;" ∈ lw_tbl := List.mem_append_right _ (List.mem_of_getElem? (i := 198) (by decide +kernel))
theorem kF_X4_18 : Cond.fieldLink RX4 18 "CrowdLaws$Forward" "to" "LCrowdLaws$Crowd;" ∈ lw_tbl := List.mem_append_right _ (List.mem_of_getElem? (i := 199) (by decide +kernel))
theorem kF_X4_21 : Cond.fieldLink RX4 21 "CrowdLaws$Forward" "codes" "[I" ∈ lw_tbl := List.mem_append_right _ (List.mem_of_getElem? (i := 200) (by decide +kernel))
theorem kF_X4_25 : Cond.fieldLink RX4 25 "CrowdLaws$Forward" "levels" "[I" ∈ lw_tbl := List.mem_append_right _ (List.mem_of_getElem? (i := 201) (by decide +kernel))
theorem kF_X4_28 : Cond.fieldLink RX4 28 "CrowdLaws$Forward" "queue" "[I" ∈ lw_tbl := List.mem_append_right _ (List.mem_of_getElem? (i := 202) (by decide +kernel))
theorem kF_X4_36 : Cond.fieldLink RX4 36 "CrowdLaws$Forward" "goals" "LCrowdLaws$ByRule;" ∈ lw_tbl := List.mem_append_right _ (List.mem_of_getElem? (i := 203) (by decide +kernel))
theorem kF_X4_40 : Cond.fieldLink RX4 40 "CrowdLaws$Forward" "leading" "[Z" ∈ lw_tbl := List.mem_append_right _ (List.mem_of_getElem? (i := 204) (by decide +kernel))
theorem kF_X4_44 : Cond.fieldLink RX4 44 "CrowdLaws$Forward" "path" "[I" ∈ lw_tbl := List.mem_append_right _ (List.mem_of_getElem? (i := 205) (by decide +kernel))
theorem kF_X4_47 : Cond.fieldLink RX4 47 "CrowdLaws$Forward" "walked" "I" ∈ lw_tbl := List.mem_append_right _ (List.mem_of_getElem? (i := 206) (by decide +kernel))
theorem kF_X4_51 : Cond.fieldLink RX4 51 "CrowdLaws$Forward" "crowdCount" "I" ∈ lw_tbl := List.mem_append_right _ (List.mem_of_getElem? (i := 207) (by decide +kernel))
theorem kF_X4_54 : Cond.fieldLink RX4 54 "CrowdLaws$Forward" "cameCount" "I" ∈ lw_tbl := List.mem_append_right _ (List.mem_of_getElem? (i := 208) (by decide +kernel))
theorem kF_X7_174 : Cond.fieldLinkNest RX7 174 "CrowdLaws$Forward" "cameCount" "I" "CrowdLaws" ∈ lw_tbl := List.mem_append_right _ (List.mem_of_getElem? (i := 209) (by decide +kernel))
theorem kF_X4_57 : Cond.fieldLink RX4 57 "CrowdLaws$Forward" "fewest" "I" ∈ lw_tbl := List.mem_append_right _ (List.mem_of_getElem? (i := 210) (by decide +kernel))
theorem kF_X7_177 : Cond.fieldLinkNest RX7 177 "CrowdLaws$Forward" "fewest" "I" "CrowdLaws" ∈ lw_tbl := List.mem_append_right _ (List.mem_of_getElem? (i := 211) (by decide +kernel))
theorem kF_X7_10 : Cond.fieldLink RX7 10 "CrowdLaws" "laws" "LCrowdLaws$Laws;" ∈ lw_tbl := List.mem_append_right _ (List.mem_of_getElem? (i := 239) (by decide +kernel))
theorem kF_X7_19 : Cond.fieldLink RX7 19 "CrowdLaws" "hand" "LCrowdLaws$Crowd;" ∈ lw_tbl := List.mem_append_right _ (List.mem_of_getElem? (i := 240) (by decide +kernel))
theorem kF_X7_28 : Cond.fieldLink RX7 28 "CrowdLaws" "backward" "LCrowdLaws$Backward;" ∈ lw_tbl := List.mem_append_right _ (List.mem_of_getElem? (i := 241) (by decide +kernel))
theorem kF_X7_35 : Cond.fieldLink RX7 35 "CrowdLaws" "forward" "LCrowdLaws$Forward;" ∈ lw_tbl := List.mem_append_right _ (List.mem_of_getElem? (i := 242) (by decide +kernel))
theorem kM_L_13 : Cond.methodLink "CrowdLawsLaw" 13 yX7_states ∈ lw_tbl := List.mem_append_right _ (List.mem_of_getElem? (i := 252) (by decide +kernel))
theorem kI_yX7_states : Cond.instanceMethod yX7_states ∈ lw_tbl := List.mem_append_right _ (List.mem_of_getElem? (i := 253) (by decide +kernel))
theorem kS_yX7_states : Cond.selects RX7 yX7_states yX7_states ∈ lw_tbl := List.mem_append_right _ (List.mem_of_getElem? (i := 254) (by decide +kernel))
theorem kC_yX7_states : Cond.code yX7_states cX7_states 3 (Option.some Jvm.ClassFile.FieldType.int) ∈ lw_tbl := List.mem_append_right _ (List.mem_of_getElem? (i := 255) (by decide +kernel))
theorem kM_X7_43 : Cond.methodLink RX7 43 yX5_begin ∈ lw_tbl := List.mem_append_right _ (List.mem_of_getElem? (i := 256) (by decide +kernel))
theorem kI_yX5_begin : Cond.instanceMethod yX5_begin ∈ lw_tbl := List.mem_append_right _ (List.mem_of_getElem? (i := 257) (by decide +kernel))
theorem kS_yX5_begin : Cond.selects RX5 yX5_begin yX5_begin ∈ lw_tbl := List.mem_append_right _ (List.mem_of_getElem? (i := 258) (by decide +kernel))
theorem kC_yX5_begin : Cond.code yX5_begin cX5_begin 2 (Option.none : Option Jvm.ClassFile.FieldType) ∈ lw_tbl := List.mem_append_right _ (List.mem_of_getElem? (i := 259) (by decide +kernel))
theorem kM_X7_47 : Cond.methodLink RX7 47 yX3_clear ∈ lw_tbl := List.mem_append_right _ (List.mem_of_getElem? (i := 260) (by decide +kernel))
theorem kI_yX3_clear : Cond.instanceMethod yX3_clear ∈ lw_tbl := List.mem_append_right _ (List.mem_of_getElem? (i := 261) (by decide +kernel))
theorem kS_yX3_clear : Cond.selects RX3 yX3_clear yX3_clear ∈ lw_tbl := List.mem_append_right _ (List.mem_of_getElem? (i := 262) (by decide +kernel))
theorem kC_yX3_clear : Cond.code yX3_clear cX3_clear 2 (Option.none : Option Jvm.ClassFile.FieldType) ∈ lw_tbl := List.mem_append_right _ (List.mem_of_getElem? (i := 263) (by decide +kernel))
theorem kM_X7_50 : Cond.methodLink RX7 50 yX7_forgetFindings ∈ lw_tbl := List.mem_append_right _ (List.mem_of_getElem? (i := 264) (by decide +kernel))
theorem kI_yX7_forgetFindings : Cond.instanceMethod yX7_forgetFindings ∈ lw_tbl := List.mem_append_right _ (List.mem_of_getElem? (i := 266) (by decide +kernel))
theorem kC_yX7_forgetFindings : Cond.code yX7_forgetFindings cX7_forgetFindings 1 (Option.none : Option Jvm.ClassFile.FieldType) ∈ lw_tbl := List.mem_append_right _ (List.mem_of_getElem? (i := 267) (by decide +kernel))
theorem kM_X7_195 : Cond.methodLink RX7 195 yX0_forget ∈ lw_tbl := List.mem_append_right _ (List.mem_of_getElem? (i := 268) (by decide +kernel))
theorem kI_yX0_forget : Cond.instanceMethod yX0_forget ∈ lw_tbl := List.mem_append_right _ (List.mem_of_getElem? (i := 269) (by decide +kernel))
theorem kS_yX0_forget : Cond.selects RX0 yX0_forget yX0_forget ∈ lw_tbl := List.mem_append_right _ (List.mem_of_getElem? (i := 270) (by decide +kernel))
theorem kC_yX0_forget : Cond.code yX0_forget cX0_forget 1 (Option.none : Option Jvm.ClassFile.FieldType) ∈ lw_tbl := List.mem_append_right _ (List.mem_of_getElem? (i := 271) (by decide +kernel))
theorem kM_X7_56 : Cond.methodLink RX7 56 yX4_forget ∈ lw_tbl := List.mem_append_right _ (List.mem_of_getElem? (i := 272) (by decide +kernel))
theorem kI_yX4_forget : Cond.instanceMethod yX4_forget ∈ lw_tbl := List.mem_append_right _ (List.mem_of_getElem? (i := 273) (by decide +kernel))
theorem kS_yX4_forget : Cond.selects RX4 yX4_forget yX4_forget ∈ lw_tbl := List.mem_append_right _ (List.mem_of_getElem? (i := 274) (by decide +kernel))
theorem kC_yX4_forget : Cond.code yX4_forget cX4_forget 1 (Option.none : Option Jvm.ClassFile.FieldType) ∈ lw_tbl := List.mem_append_right _ (List.mem_of_getElem? (i := 275) (by decide +kernel))
theorem kM_L_18 : Cond.methodLink "CrowdLawsLaw" 18 yX7_start ∈ lw_tbl := List.mem_append_right _ (List.mem_of_getElem? (i := 276) (by decide +kernel))
theorem kI_yX7_start : Cond.instanceMethod yX7_start ∈ lw_tbl := List.mem_append_right _ (List.mem_of_getElem? (i := 277) (by decide +kernel))
theorem kS_yX7_start : Cond.selects RX7 yX7_start yX7_start ∈ lw_tbl := List.mem_append_right _ (List.mem_of_getElem? (i := 278) (by decide +kernel))
theorem kC_yX7_start : Cond.code yX7_start cX7_start 3 (Option.some Jvm.ClassFile.FieldType.int) ∈ lw_tbl := List.mem_append_right _ (List.mem_of_getElem? (i := 279) (by decide +kernel))
theorem kM_L_22 : Cond.methodLink "CrowdLawsLaw" 22 yX7_alone ∈ lw_tbl := List.mem_append_right _ (List.mem_of_getElem? (i := 280) (by decide +kernel))
theorem kI_yX7_alone : Cond.instanceMethod yX7_alone ∈ lw_tbl := List.mem_append_right _ (List.mem_of_getElem? (i := 281) (by decide +kernel))
theorem kS_yX7_alone : Cond.selects RX7 yX7_alone yX7_alone ∈ lw_tbl := List.mem_append_right _ (List.mem_of_getElem? (i := 282) (by decide +kernel))
theorem kC_yX7_alone : Cond.code yX7_alone cX7_alone 3 (Option.some Jvm.ClassFile.FieldType.int) ∈ lw_tbl := List.mem_append_right _ (List.mem_of_getElem? (i := 283) (by decide +kernel))
theorem kM_X7_59 : Cond.methodLink RX7 59 yX5_isState ∈ lw_tbl := List.mem_append_right _ (List.mem_of_getElem? (i := 284) (by decide +kernel))
theorem kI_yX5_isState : Cond.instanceMethod yX5_isState ∈ lw_tbl := List.mem_append_right _ (List.mem_of_getElem? (i := 285) (by decide +kernel))
theorem kS_yX5_isState : Cond.selects RX5 yX5_isState yX5_isState ∈ lw_tbl := List.mem_append_right _ (List.mem_of_getElem? (i := 286) (by decide +kernel))
theorem kC_yX5_isState : Cond.code yX5_isState cX5_isState 2 (Option.some Jvm.ClassFile.FieldType.boolean) ∈ lw_tbl := List.mem_append_right _ (List.mem_of_getElem? (i := 287) (by decide +kernel))
theorem kM_X7_63 : Cond.methodLink RX7 63 yX7_addRule ∈ lw_tbl := List.mem_append_right _ (List.mem_of_getElem? (i := 288) (by decide +kernel))
theorem kI_yX7_addRule : Cond.instanceMethod yX7_addRule ∈ lw_tbl := List.mem_append_right _ (List.mem_of_getElem? (i := 290) (by decide +kernel))
theorem kC_yX7_addRule : Cond.code yX7_addRule cX7_addRule 7 (Option.some Jvm.ClassFile.FieldType.int) ∈ lw_tbl := List.mem_append_right _ (List.mem_of_getElem? (i := 291) (by decide +kernel))
theorem kM_X7_191 : Cond.methodLink RX7 191 yX6_become ∈ lw_tbl := List.mem_append_right _ (List.mem_of_getElem? (i := 292) (by decide +kernel))
theorem kI_yX6_become : Cond.instanceMethod yX6_become ∈ lw_tbl := List.mem_append_right _ (List.mem_of_getElem? (i := 293) (by decide +kernel))
theorem kS_yX6_become : Cond.selects RX6 yX6_become yX6_become ∈ lw_tbl := List.mem_append_right _ (List.mem_of_getElem? (i := 294) (by decide +kernel))
theorem kC_yX6_become : Cond.code yX6_become cX6_become 7 (Option.none : Option Jvm.ClassFile.FieldType) ∈ lw_tbl := List.mem_append_right _ (List.mem_of_getElem? (i := 295) (by decide +kernel))
theorem kM_X6_37 : Cond.methodLink RX6 37 yX6_setGoals ∈ lw_tbl := List.mem_append_right _ (List.mem_of_getElem? (i := 296) (by decide +kernel))
theorem kI_yX6_setGoals : Cond.instanceMethod yX6_setGoals ∈ lw_tbl := List.mem_append_right _ (List.mem_of_getElem? (i := 298) (by decide +kernel))
theorem kC_yX6_setGoals : Cond.code yX6_setGoals cX6_setGoals 3 (Option.none : Option Jvm.ClassFile.FieldType) ∈ lw_tbl := List.mem_append_right _ (List.mem_of_getElem? (i := 299) (by decide +kernel))
theorem kM_L_27 : Cond.methodLink "CrowdLawsLaw" 27 yX7_pair ∈ lw_tbl := List.mem_append_right _ (List.mem_of_getElem? (i := 300) (by decide +kernel))
theorem kI_yX7_pair : Cond.instanceMethod yX7_pair ∈ lw_tbl := List.mem_append_right _ (List.mem_of_getElem? (i := 301) (by decide +kernel))
theorem kS_yX7_pair : Cond.selects RX7 yX7_pair yX7_pair ∈ lw_tbl := List.mem_append_right _ (List.mem_of_getElem? (i := 302) (by decide +kernel))
theorem kC_yX7_pair : Cond.code yX7_pair cX7_pair 5 (Option.some Jvm.ClassFile.FieldType.int) ∈ lw_tbl := List.mem_append_right _ (List.mem_of_getElem? (i := 303) (by decide +kernel))
theorem kM_L_32 : Cond.methodLink "CrowdLawsLaw" 32 yX7_all ∈ lw_tbl := List.mem_append_right _ (List.mem_of_getElem? (i := 304) (by decide +kernel))
theorem kI_yX7_all : Cond.instanceMethod yX7_all ∈ lw_tbl := List.mem_append_right _ (List.mem_of_getElem? (i := 305) (by decide +kernel))
theorem kS_yX7_all : Cond.selects RX7 yX7_all yX7_all ∈ lw_tbl := List.mem_append_right _ (List.mem_of_getElem? (i := 306) (by decide +kernel))
theorem kC_yX7_all : Cond.code yX7_all cX7_all 4 (Option.some Jvm.ClassFile.FieldType.int) ∈ lw_tbl := List.mem_append_right _ (List.mem_of_getElem? (i := 307) (by decide +kernel))
theorem kM_X7_67 : Cond.methodLink RX7 67 yX5_isMap ∈ lw_tbl := List.mem_append_right _ (List.mem_of_getElem? (i := 308) (by decide +kernel))
theorem kI_yX5_isMap : Cond.instanceMethod yX5_isMap ∈ lw_tbl := List.mem_append_right _ (List.mem_of_getElem? (i := 309) (by decide +kernel))
theorem kS_yX5_isMap : Cond.selects RX5 yX5_isMap yX5_isMap ∈ lw_tbl := List.mem_append_right _ (List.mem_of_getElem? (i := 310) (by decide +kernel))
theorem kC_yX5_isMap : Cond.code yX5_isMap cX5_isMap 4 (Option.some Jvm.ClassFile.FieldType.boolean) ∈ lw_tbl := List.mem_append_right _ (List.mem_of_getElem? (i := 311) (by decide +kernel))
theorem kM_X5_42 : Cond.methodLink RX5 42 yX5_hasFewDigits ∈ lw_tbl := List.mem_append_right _ (List.mem_of_getElem? (i := 312) (by decide +kernel))
theorem kI_yX5_hasFewDigits : Cond.instanceMethod yX5_hasFewDigits ∈ lw_tbl := List.mem_append_right _ (List.mem_of_getElem? (i := 313) (by decide +kernel))
theorem kS_yX5_hasFewDigits : Cond.selects RX5 yX5_hasFewDigits yX5_hasFewDigits ∈ lw_tbl := List.mem_append_right _ (List.mem_of_getElem? (i := 314) (by decide +kernel))
theorem kC_yX5_hasFewDigits : Cond.code yX5_hasFewDigits cX5_hasFewDigits 4 (Option.some Jvm.ClassFile.FieldType.boolean) ∈ lw_tbl := List.mem_append_right _ (List.mem_of_getElem? (i := 315) (by decide +kernel))
theorem kM_X5_46 : Cond.methodLink RX5 46 yX5_isState ∈ lw_tbl := List.mem_append_right _ (List.mem_of_getElem? (i := 316) (by decide +kernel))
theorem kM_L_37 : Cond.methodLink "CrowdLawsLaw" 37 yX7_need ∈ lw_tbl := List.mem_append_right _ (List.mem_of_getElem? (i := 317) (by decide +kernel))
theorem kI_yX7_need : Cond.instanceMethod yX7_need ∈ lw_tbl := List.mem_append_right _ (List.mem_of_getElem? (i := 318) (by decide +kernel))
theorem kS_yX7_need : Cond.selects RX7 yX7_need yX7_need ∈ lw_tbl := List.mem_append_right _ (List.mem_of_getElem? (i := 319) (by decide +kernel))
theorem kC_yX7_need : Cond.code yX7_need cX7_need 5 (Option.some Jvm.ClassFile.FieldType.int) ∈ lw_tbl := List.mem_append_right _ (List.mem_of_getElem? (i := 320) (by decide +kernel))
theorem kM_X7_70 : Cond.methodLink RX7 70 yX5_isRule ∈ lw_tbl := List.mem_append_right _ (List.mem_of_getElem? (i := 321) (by decide +kernel))
theorem kI_yX5_isRule : Cond.instanceMethod yX5_isRule ∈ lw_tbl := List.mem_append_right _ (List.mem_of_getElem? (i := 322) (by decide +kernel))
theorem kS_yX5_isRule : Cond.selects RX5 yX5_isRule yX5_isRule ∈ lw_tbl := List.mem_append_right _ (List.mem_of_getElem? (i := 323) (by decide +kernel))
theorem kC_yX5_isRule : Cond.code yX5_isRule cX5_isRule 2 (Option.some Jvm.ClassFile.FieldType.boolean) ∈ lw_tbl := List.mem_append_right _ (List.mem_of_getElem? (i := 324) (by decide +kernel))
theorem kM_L_41 : Cond.methodLink "CrowdLawsLaw" 41 yX7_rule ∈ lw_tbl := List.mem_append_right _ (List.mem_of_getElem? (i := 325) (by decide +kernel))
theorem kI_yX7_rule : Cond.instanceMethod yX7_rule ∈ lw_tbl := List.mem_append_right _ (List.mem_of_getElem? (i := 326) (by decide +kernel))
theorem kS_yX7_rule : Cond.selects RX7 yX7_rule yX7_rule ∈ lw_tbl := List.mem_append_right _ (List.mem_of_getElem? (i := 327) (by decide +kernel))
theorem kC_yX7_rule : Cond.code yX7_rule cX7_rule 4 (Option.some Jvm.ClassFile.FieldType.int) ∈ lw_tbl := List.mem_append_right _ (List.mem_of_getElem? (i := 328) (by decide +kernel))
theorem kM_L_45 : Cond.methodLink "CrowdLawsLaw" 45 yX7_bad ∈ lw_tbl := List.mem_append_right _ (List.mem_of_getElem? (i := 329) (by decide +kernel))
theorem kI_yX7_bad : Cond.instanceMethod yX7_bad ∈ lw_tbl := List.mem_append_right _ (List.mem_of_getElem? (i := 330) (by decide +kernel))
theorem kS_yX7_bad : Cond.selects RX7 yX7_bad yX7_bad ∈ lw_tbl := List.mem_append_right _ (List.mem_of_getElem? (i := 331) (by decide +kernel))
theorem kC_yX7_bad : Cond.code yX7_bad cX7_bad 2 (Option.some Jvm.ClassFile.FieldType.int) ∈ lw_tbl := List.mem_append_right _ (List.mem_of_getElem? (i := 332) (by decide +kernel))
theorem kM_X7_100 : Cond.methodLink RX7 100 yX5_hasFewDigits ∈ lw_tbl := List.mem_append_right _ (List.mem_of_getElem? (i := 333) (by decide +kernel))
theorem kM_X7_106 : Cond.methodLink RX7 106 yX5_addBad ∈ lw_tbl := List.mem_append_right _ (List.mem_of_getElem? (i := 334) (by decide +kernel))
theorem kI_yX5_addBad : Cond.instanceMethod yX5_addBad ∈ lw_tbl := List.mem_append_right _ (List.mem_of_getElem? (i := 335) (by decide +kernel))
theorem kS_yX5_addBad : Cond.selects RX5 yX5_addBad yX5_addBad ∈ lw_tbl := List.mem_append_right _ (List.mem_of_getElem? (i := 336) (by decide +kernel))
theorem kC_yX5_addBad : Cond.code yX5_addBad cX5_addBad 2 (Option.none : Option Jvm.ClassFile.FieldType) ∈ lw_tbl := List.mem_append_right _ (List.mem_of_getElem? (i := 337) (by decide +kernel))
theorem kM_X5_49 : Cond.methodLink RX5 49 yX3_read ∈ lw_tbl := List.mem_append_right _ (List.mem_of_getElem? (i := 338) (by decide +kernel))
theorem kI_yX3_read : Cond.instanceMethod yX3_read ∈ lw_tbl := List.mem_append_right _ (List.mem_of_getElem? (i := 339) (by decide +kernel))
theorem kS_yX3_read : Cond.selects RX3 yX3_read yX3_read ∈ lw_tbl := List.mem_append_right _ (List.mem_of_getElem? (i := 340) (by decide +kernel))
theorem kC_yX3_read : Cond.code yX3_read cX3_read 4 (Option.none : Option Jvm.ClassFile.FieldType) ∈ lw_tbl := List.mem_append_right _ (List.mem_of_getElem? (i := 341) (by decide +kernel))
theorem kM_L_49 : Cond.methodLink "CrowdLawsLaw" 49 yX7_put ∈ lw_tbl := List.mem_append_right _ (List.mem_of_getElem? (i := 342) (by decide +kernel))
theorem kI_yX7_put : Cond.instanceMethod yX7_put ∈ lw_tbl := List.mem_append_right _ (List.mem_of_getElem? (i := 343) (by decide +kernel))
theorem kS_yX7_put : Cond.selects RX7 yX7_put yX7_put ∈ lw_tbl := List.mem_append_right _ (List.mem_of_getElem? (i := 344) (by decide +kernel))
theorem kC_yX7_put : Cond.code yX7_put cX7_put 4 (Option.some Jvm.ClassFile.FieldType.int) ∈ lw_tbl := List.mem_append_right _ (List.mem_of_getElem? (i := 345) (by decide +kernel))
theorem kM_X7_109 : Cond.methodLink RX7 109 yX3_of ∈ lw_tbl := List.mem_append_right _ (List.mem_of_getElem? (i := 346) (by decide +kernel))
theorem kI_yX3_of : Cond.instanceMethod yX3_of ∈ lw_tbl := List.mem_append_right _ (List.mem_of_getElem? (i := 347) (by decide +kernel))
theorem kS_yX3_of : Cond.selects RX3 yX3_of yX3_of ∈ lw_tbl := List.mem_append_right _ (List.mem_of_getElem? (i := 348) (by decide +kernel))
theorem kC_yX3_of : Cond.code yX3_of cX3_of 2 (Option.some Jvm.ClassFile.FieldType.int) ∈ lw_tbl := List.mem_append_right _ (List.mem_of_getElem? (i := 349) (by decide +kernel))
theorem kM_X7_113 : Cond.methodLink RX7 113 yX3_sum ∈ lw_tbl := List.mem_append_right _ (List.mem_of_getElem? (i := 350) (by decide +kernel))
theorem kI_yX3_sum : Cond.instanceMethod yX3_sum ∈ lw_tbl := List.mem_append_right _ (List.mem_of_getElem? (i := 351) (by decide +kernel))
theorem kS_yX3_sum : Cond.selects RX3 yX3_sum yX3_sum ∈ lw_tbl := List.mem_append_right _ (List.mem_of_getElem? (i := 352) (by decide +kernel))
theorem kC_yX3_sum : Cond.code yX3_sum cX3_sum 3 (Option.some Jvm.ClassFile.FieldType.int) ∈ lw_tbl := List.mem_append_right _ (List.mem_of_getElem? (i := 353) (by decide +kernel))
theorem kM_X7_117 : Cond.methodLink RX7 117 yX3_set ∈ lw_tbl := List.mem_append_right _ (List.mem_of_getElem? (i := 354) (by decide +kernel))
theorem kI_yX3_set : Cond.instanceMethod yX3_set ∈ lw_tbl := List.mem_append_right _ (List.mem_of_getElem? (i := 355) (by decide +kernel))
theorem kS_yX3_set : Cond.selects RX3 yX3_set yX3_set ∈ lw_tbl := List.mem_append_right _ (List.mem_of_getElem? (i := 356) (by decide +kernel))
theorem kC_yX3_set : Cond.code yX3_set cX3_set 3 (Option.none : Option Jvm.ClassFile.FieldType) ∈ lw_tbl := List.mem_append_right _ (List.mem_of_getElem? (i := 357) (by decide +kernel))
theorem kM_L_53 : Cond.methodLink "CrowdLawsLaw" 53 yX7_at ∈ lw_tbl := List.mem_append_right _ (List.mem_of_getElem? (i := 358) (by decide +kernel))
theorem kI_yX7_at : Cond.instanceMethod yX7_at ∈ lw_tbl := List.mem_append_right _ (List.mem_of_getElem? (i := 359) (by decide +kernel))
theorem kS_yX7_at : Cond.selects RX7 yX7_at yX7_at ∈ lw_tbl := List.mem_append_right _ (List.mem_of_getElem? (i := 360) (by decide +kernel))
theorem kC_yX7_at : Cond.code yX7_at cX7_at 2 (Option.some Jvm.ClassFile.FieldType.int) ∈ lw_tbl := List.mem_append_right _ (List.mem_of_getElem? (i := 361) (by decide +kernel))
theorem kM_L_57 : Cond.methodLink "CrowdLawsLaw" 57 yX7_can ∈ lw_tbl := List.mem_append_right _ (List.mem_of_getElem? (i := 362) (by decide +kernel))
theorem kI_yX7_can : Cond.instanceMethod yX7_can ∈ lw_tbl := List.mem_append_right _ (List.mem_of_getElem? (i := 363) (by decide +kernel))
theorem kS_yX7_can : Cond.selects RX7 yX7_can yX7_can ∈ lw_tbl := List.mem_append_right _ (List.mem_of_getElem? (i := 364) (by decide +kernel))
theorem kC_yX7_can : Cond.code yX7_can cX7_can 2 (Option.some Jvm.ClassFile.FieldType.int) ∈ lw_tbl := List.mem_append_right _ (List.mem_of_getElem? (i := 365) (by decide +kernel))
theorem kM_X7_121 : Cond.methodLink RX7 121 yX6_fits ∈ lw_tbl := List.mem_append_right _ (List.mem_of_getElem? (i := 366) (by decide +kernel))
theorem kI_yX6_fits : Cond.instanceMethod yX6_fits ∈ lw_tbl := List.mem_append_right _ (List.mem_of_getElem? (i := 367) (by decide +kernel))
theorem kS_yX6_fits : Cond.selects RX6 yX6_fits yX6_fits ∈ lw_tbl := List.mem_append_right _ (List.mem_of_getElem? (i := 368) (by decide +kernel))
theorem kC_yX6_fits : Cond.code yX6_fits cX6_fits 4 (Option.some Jvm.ClassFile.FieldType.boolean) ∈ lw_tbl := List.mem_append_right _ (List.mem_of_getElem? (i := 369) (by decide +kernel))
theorem kM_X6_40 : Cond.methodLink RX6 40 yX6_leavers ∈ lw_tbl := List.mem_append_right _ (List.mem_of_getElem? (i := 370) (by decide +kernel))
theorem kI_yX6_leavers : Cond.instanceMethod yX6_leavers ∈ lw_tbl := List.mem_append_right _ (List.mem_of_getElem? (i := 372) (by decide +kernel))
theorem kC_yX6_leavers : Cond.code yX6_leavers cX6_leavers 2 (Option.some Jvm.ClassFile.FieldType.int) ∈ lw_tbl := List.mem_append_right _ (List.mem_of_getElem? (i := 373) (by decide +kernel))
theorem kM_X6_44 : Cond.methodLink RX6 44 yX3_of ∈ lw_tbl := List.mem_append_right _ (List.mem_of_getElem? (i := 374) (by decide +kernel))
theorem kM_L_61 : Cond.methodLink "CrowdLawsLaw" 61 yX7_step ∈ lw_tbl := List.mem_append_right _ (List.mem_of_getElem? (i := 375) (by decide +kernel))
theorem kI_yX7_step : Cond.instanceMethod yX7_step ∈ lw_tbl := List.mem_append_right _ (List.mem_of_getElem? (i := 376) (by decide +kernel))
theorem kS_yX7_step : Cond.selects RX7 yX7_step yX7_step ∈ lw_tbl := List.mem_append_right _ (List.mem_of_getElem? (i := 377) (by decide +kernel))
theorem kC_yX7_step : Cond.code yX7_step cX7_step 3 (Option.some Jvm.ClassFile.FieldType.int) ∈ lw_tbl := List.mem_append_right _ (List.mem_of_getElem? (i := 378) (by decide +kernel))
theorem kM_X7_128 : Cond.methodLink RX7 128 yX6_lead ∈ lw_tbl := List.mem_append_right _ (List.mem_of_getElem? (i := 379) (by decide +kernel))
theorem kI_yX6_lead : Cond.instanceMethod yX6_lead ∈ lw_tbl := List.mem_append_right _ (List.mem_of_getElem? (i := 380) (by decide +kernel))
theorem kS_yX6_lead : Cond.selects RX6 yX6_lead yX6_lead ∈ lw_tbl := List.mem_append_right _ (List.mem_of_getElem? (i := 381) (by decide +kernel))
theorem kC_yX6_lead : Cond.code yX6_lead cX6_lead 4 (Option.none : Option Jvm.ClassFile.FieldType) ∈ lw_tbl := List.mem_append_right _ (List.mem_of_getElem? (i := 382) (by decide +kernel))
theorem kM_X6_49 : Cond.methodLink RX6 49 yX3_clear ∈ lw_tbl := List.mem_append_right _ (List.mem_of_getElem? (i := 383) (by decide +kernel))
theorem kM_X6_52 : Cond.methodLink RX6 52 yX3_add ∈ lw_tbl := List.mem_append_right _ (List.mem_of_getElem? (i := 384) (by decide +kernel))
theorem kI_yX3_add : Cond.instanceMethod yX3_add ∈ lw_tbl := List.mem_append_right _ (List.mem_of_getElem? (i := 385) (by decide +kernel))
theorem kS_yX3_add : Cond.selects RX3 yX3_add yX3_add ∈ lw_tbl := List.mem_append_right _ (List.mem_of_getElem? (i := 386) (by decide +kernel))
theorem kC_yX3_add : Cond.code yX3_add cX3_add 3 (Option.none : Option Jvm.ClassFile.FieldType) ∈ lw_tbl := List.mem_append_right _ (List.mem_of_getElem? (i := 387) (by decide +kernel))
theorem kM_X7_132 : Cond.methodLink RX7 132 yX3_copy ∈ lw_tbl := List.mem_append_right _ (List.mem_of_getElem? (i := 388) (by decide +kernel))
theorem kI_yX3_copy : Cond.instanceMethod yX3_copy ∈ lw_tbl := List.mem_append_right _ (List.mem_of_getElem? (i := 389) (by decide +kernel))
theorem kS_yX3_copy : Cond.selects RX3 yX3_copy yX3_copy ∈ lw_tbl := List.mem_append_right _ (List.mem_of_getElem? (i := 390) (by decide +kernel))
theorem kC_yX3_copy : Cond.code yX3_copy cX3_copy 3 (Option.none : Option Jvm.ClassFile.FieldType) ∈ lw_tbl := List.mem_append_right _ (List.mem_of_getElem? (i := 391) (by decide +kernel))
theorem kM_X3_15 : Cond.methodLink RX3 15 yX3_of ∈ lw_tbl := List.mem_append_right _ (List.mem_of_getElem? (i := 392) (by decide +kernel))
theorem kM_X7_136 : Cond.methodLink RX7 136 yX5_countFitting ∈ lw_tbl := List.mem_append_right _ (List.mem_of_getElem? (i := 393) (by decide +kernel))
theorem kI_yX5_countFitting : Cond.instanceMethod yX5_countFitting ∈ lw_tbl := List.mem_append_right _ (List.mem_of_getElem? (i := 394) (by decide +kernel))
theorem kS_yX5_countFitting : Cond.selects RX5 yX5_countFitting yX5_countFitting ∈ lw_tbl := List.mem_append_right _ (List.mem_of_getElem? (i := 395) (by decide +kernel))
theorem kC_yX5_countFitting : Cond.code yX5_countFitting cX5_countFitting 4 (Option.some Jvm.ClassFile.FieldType.int) ∈ lw_tbl := List.mem_append_right _ (List.mem_of_getElem? (i := 396) (by decide +kernel))
theorem kM_X5_61 : Cond.methodLink RX5 61 yX6_fits ∈ lw_tbl := List.mem_append_right _ (List.mem_of_getElem? (i := 397) (by decide +kernel))
theorem kM_L_65 : Cond.methodLink "CrowdLawsLaw" 65 yX7_isBad ∈ lw_tbl := List.mem_append_right _ (List.mem_of_getElem? (i := 398) (by decide +kernel))
theorem kI_yX7_isBad : Cond.instanceMethod yX7_isBad ∈ lw_tbl := List.mem_append_right _ (List.mem_of_getElem? (i := 399) (by decide +kernel))
theorem kS_yX7_isBad : Cond.selects RX7 yX7_isBad yX7_isBad ∈ lw_tbl := List.mem_append_right _ (List.mem_of_getElem? (i := 400) (by decide +kernel))
theorem kC_yX7_isBad : Cond.code yX7_isBad cX7_isBad 1 (Option.some Jvm.ClassFile.FieldType.int) ∈ lw_tbl := List.mem_append_right _ (List.mem_of_getElem? (i := 401) (by decide +kernel))
theorem kM_X7_140 : Cond.methodLink RX7 140 yX5_isBadCrowd ∈ lw_tbl := List.mem_append_right _ (List.mem_of_getElem? (i := 402) (by decide +kernel))
theorem kI_yX5_isBadCrowd : Cond.instanceMethod yX5_isBadCrowd ∈ lw_tbl := List.mem_append_right _ (List.mem_of_getElem? (i := 403) (by decide +kernel))
theorem kS_yX5_isBadCrowd : Cond.selects RX5 yX5_isBadCrowd yX5_isBadCrowd ∈ lw_tbl := List.mem_append_right _ (List.mem_of_getElem? (i := 404) (by decide +kernel))
theorem kC_yX5_isBadCrowd : Cond.code yX5_isBadCrowd cX5_isBadCrowd 3 (Option.some Jvm.ClassFile.FieldType.boolean) ∈ lw_tbl := List.mem_append_right _ (List.mem_of_getElem? (i := 405) (by decide +kernel))
theorem kM_X5_53 : Cond.methodLink RX5 53 yX3_isAtLeast ∈ lw_tbl := List.mem_append_right _ (List.mem_of_getElem? (i := 406) (by decide +kernel))
theorem kI_yX3_isAtLeast : Cond.instanceMethod yX3_isAtLeast ∈ lw_tbl := List.mem_append_right _ (List.mem_of_getElem? (i := 407) (by decide +kernel))
theorem kS_yX3_isAtLeast : Cond.selects RX3 yX3_isAtLeast yX3_isAtLeast ∈ lw_tbl := List.mem_append_right _ (List.mem_of_getElem? (i := 408) (by decide +kernel))
theorem kC_yX3_isAtLeast : Cond.code yX3_isAtLeast cX3_isAtLeast 3 (Option.some Jvm.ClassFile.FieldType.boolean) ∈ lw_tbl := List.mem_append_right _ (List.mem_of_getElem? (i := 409) (by decide +kernel))
theorem kM_L_70 : Cond.methodLink "CrowdLawsLaw" 70 yX7_doomed ∈ lw_tbl := List.mem_append_right _ (List.mem_of_getElem? (i := 410) (by decide +kernel))
theorem kI_yX7_doomed : Cond.instanceMethod yX7_doomed ∈ lw_tbl := List.mem_append_right _ (List.mem_of_getElem? (i := 411) (by decide +kernel))
theorem kS_yX7_doomed : Cond.selects RX7 yX7_doomed yX7_doomed ∈ lw_tbl := List.mem_append_right _ (List.mem_of_getElem? (i := 412) (by decide +kernel))
theorem kC_yX7_doomed : Cond.code yX7_doomed cX7_doomed 1 (Option.some Jvm.ClassFile.FieldType.int) ∈ lw_tbl := List.mem_append_right _ (List.mem_of_getElem? (i := 413) (by decide +kernel))
theorem kM_X7_146 : Cond.methodLink RX7 146 yX0_dooms ∈ lw_tbl := List.mem_append_right _ (List.mem_of_getElem? (i := 414) (by decide +kernel))
theorem kI_yX0_dooms : Cond.instanceMethod yX0_dooms ∈ lw_tbl := List.mem_append_right _ (List.mem_of_getElem? (i := 415) (by decide +kernel))
theorem kS_yX0_dooms : Cond.selects RX0 yX0_dooms yX0_dooms ∈ lw_tbl := List.mem_append_right _ (List.mem_of_getElem? (i := 416) (by decide +kernel))
theorem kC_yX0_dooms : Cond.code yX0_dooms cX0_dooms 2 (Option.some Jvm.ClassFile.FieldType.boolean) ∈ lw_tbl := List.mem_append_right _ (List.mem_of_getElem? (i := 417) (by decide +kernel))
theorem kM_X0_48 : Cond.methodLink RX0 48 yX1_cover ∈ lw_tbl := List.mem_append_right _ (List.mem_of_getElem? (i := 418) (by decide +kernel))
theorem kI_yX1_cover : Cond.instanceMethod yX1_cover ∈ lw_tbl := List.mem_append_right _ (List.mem_of_getElem? (i := 419) (by decide +kernel))
theorem kS_yX1_cover : Cond.selects RX1 yX1_cover yX1_cover ∈ lw_tbl := List.mem_append_right _ (List.mem_of_getElem? (i := 420) (by decide +kernel))
theorem kC_yX1_cover : Cond.code yX1_cover cX1_cover 3 (Option.some Jvm.ClassFile.FieldType.boolean) ∈ lw_tbl := List.mem_append_right _ (List.mem_of_getElem? (i := 421) (by decide +kernel))
theorem kM_X1_29 : Cond.methodLink RX1 29 yX3_isAtLeast ∈ lw_tbl := List.mem_append_right _ (List.mem_of_getElem? (i := 422) (by decide +kernel))
theorem kM_L_74 : Cond.methodLink "CrowdLawsLaw" 74 yX7_search ∈ lw_tbl := List.mem_append_right _ (List.mem_of_getElem? (i := 423) (by decide +kernel))
theorem kI_yX7_search : Cond.instanceMethod yX7_search ∈ lw_tbl := List.mem_append_right _ (List.mem_of_getElem? (i := 424) (by decide +kernel))
theorem kS_yX7_search : Cond.selects RX7 yX7_search yX7_search ∈ lw_tbl := List.mem_append_right _ (List.mem_of_getElem? (i := 425) (by decide +kernel))
theorem kC_yX7_search : Cond.code yX7_search cX7_search 1 (Option.some Jvm.ClassFile.FieldType.int) ∈ lw_tbl := List.mem_append_right _ (List.mem_of_getElem? (i := 426) (by decide +kernel))
theorem kM_X7_149 : Cond.methodLink RX7 149 yX0_seek ∈ lw_tbl := List.mem_append_right _ (List.mem_of_getElem? (i := 427) (by decide +kernel))
theorem kI_yX0_seek : Cond.instanceMethod yX0_seek ∈ lw_tbl := List.mem_append_right _ (List.mem_of_getElem? (i := 428) (by decide +kernel))
theorem kS_yX0_seek : Cond.selects RX0 yX0_seek yX0_seek ∈ lw_tbl := List.mem_append_right _ (List.mem_of_getElem? (i := 429) (by decide +kernel))
theorem kC_yX0_seek : Cond.code yX0_seek cX0_seek 3 (Option.none : Option Jvm.ClassFile.FieldType) ∈ lw_tbl := List.mem_append_right _ (List.mem_of_getElem? (i := 430) (by decide +kernel))
theorem kM_X0_68 : Cond.methodLink RX0 68 yX0_takeBadOnes ∈ lw_tbl := List.mem_append_right _ (List.mem_of_getElem? (i := 431) (by decide +kernel))
theorem kI_yX0_takeBadOnes : Cond.instanceMethod yX0_takeBadOnes ∈ lw_tbl := List.mem_append_right _ (List.mem_of_getElem? (i := 433) (by decide +kernel))
theorem kC_yX0_takeBadOnes : Cond.code yX0_takeBadOnes cX0_takeBadOnes 3 (Option.none : Option Jvm.ClassFile.FieldType) ∈ lw_tbl := List.mem_append_right _ (List.mem_of_getElem? (i := 434) (by decide +kernel))
theorem kM_X0_81 : Cond.methodLink RX0 81 yX1_clear ∈ lw_tbl := List.mem_append_right _ (List.mem_of_getElem? (i := 435) (by decide +kernel))
theorem kI_yX1_clear : Cond.instanceMethod yX1_clear ∈ lw_tbl := List.mem_append_right _ (List.mem_of_getElem? (i := 436) (by decide +kernel))
theorem kS_yX1_clear : Cond.selects RX1 yX1_clear yX1_clear ∈ lw_tbl := List.mem_append_right _ (List.mem_of_getElem? (i := 437) (by decide +kernel))
theorem kC_yX1_clear : Cond.code yX1_clear cX1_clear 1 (Option.none : Option Jvm.ClassFile.FieldType) ∈ lw_tbl := List.mem_append_right _ (List.mem_of_getElem? (i := 438) (by decide +kernel))
theorem kM_X0_64 : Cond.methodLink RX0 64 yX3_sum ∈ lw_tbl := List.mem_append_right _ (List.mem_of_getElem? (i := 439) (by decide +kernel))
theorem kM_X0_90 : Cond.methodLink RX0 90 yX1_take ∈ lw_tbl := List.mem_append_right _ (List.mem_of_getElem? (i := 440) (by decide +kernel))
theorem kI_yX1_take : Cond.instanceMethod yX1_take ∈ lw_tbl := List.mem_append_right _ (List.mem_of_getElem? (i := 441) (by decide +kernel))
theorem kS_yX1_take : Cond.selects RX1 yX1_take yX1_take ∈ lw_tbl := List.mem_append_right _ (List.mem_of_getElem? (i := 442) (by decide +kernel))
theorem kC_yX1_take : Cond.code yX1_take cX1_take 5 (Option.none : Option Jvm.ClassFile.FieldType) ∈ lw_tbl := List.mem_append_right _ (List.mem_of_getElem? (i := 443) (by decide +kernel))
theorem kM_X1_33 : Cond.methodLink RX1 33 yX1_areTooMany ∈ lw_tbl := List.mem_append_right _ (List.mem_of_getElem? (i := 444) (by decide +kernel))
theorem kI_yX1_areTooMany : Cond.instanceMethod yX1_areTooMany ∈ lw_tbl := List.mem_append_right _ (List.mem_of_getElem? (i := 445) (by decide +kernel))
theorem kS_yX1_areTooMany : Cond.selects RX1 yX1_areTooMany yX1_areTooMany ∈ lw_tbl := List.mem_append_right _ (List.mem_of_getElem? (i := 446) (by decide +kernel))
theorem kC_yX1_areTooMany : Cond.code yX1_areTooMany cX1_areTooMany 1 (Option.some Jvm.ClassFile.FieldType.boolean) ∈ lw_tbl := List.mem_append_right _ (List.mem_of_getElem? (i := 447) (by decide +kernel))
theorem kM_X1_37 : Cond.methodLink RX1 37 yX3_copy ∈ lw_tbl := List.mem_append_right _ (List.mem_of_getElem? (i := 448) (by decide +kernel))
theorem kM_X1_41 : Cond.methodLink RX1 41 yX3_comesBefore ∈ lw_tbl := List.mem_append_right _ (List.mem_of_getElem? (i := 449) (by decide +kernel))
theorem kI_yX3_comesBefore : Cond.instanceMethod yX3_comesBefore ∈ lw_tbl := List.mem_append_right _ (List.mem_of_getElem? (i := 450) (by decide +kernel))
theorem kS_yX3_comesBefore : Cond.selects RX3 yX3_comesBefore yX3_comesBefore ∈ lw_tbl := List.mem_append_right _ (List.mem_of_getElem? (i := 451) (by decide +kernel))
theorem kC_yX3_comesBefore : Cond.code yX3_comesBefore cX3_comesBefore 6 (Option.some Jvm.ClassFile.FieldType.boolean) ∈ lw_tbl := List.mem_append_right _ (List.mem_of_getElem? (i := 452) (by decide +kernel))
theorem kM_X0_71 : Cond.methodLink RX0 71 yX0_goRound ∈ lw_tbl := List.mem_append_right _ (List.mem_of_getElem? (i := 453) (by decide +kernel))
theorem kI_yX0_goRound : Cond.instanceMethod yX0_goRound ∈ lw_tbl := List.mem_append_right _ (List.mem_of_getElem? (i := 455) (by decide +kernel))
theorem kC_yX0_goRound : Cond.code yX0_goRound cX0_goRound 3 (Option.none : Option Jvm.ClassFile.FieldType) ∈ lw_tbl := List.mem_append_right _ (List.mem_of_getElem? (i := 456) (by decide +kernel))
theorem kM_X0_94 : Cond.methodLink RX0 94 yX0_findSums ∈ lw_tbl := List.mem_append_right _ (List.mem_of_getElem? (i := 457) (by decide +kernel))
theorem kI_yX0_findSums : Cond.instanceMethod yX0_findSums ∈ lw_tbl := List.mem_append_right _ (List.mem_of_getElem? (i := 459) (by decide +kernel))
theorem kC_yX0_findSums : Cond.code yX0_findSums cX0_findSums 5 (Option.some Jvm.ClassFile.FieldType.int) ∈ lw_tbl := List.mem_append_right _ (List.mem_of_getElem? (i := 460) (by decide +kernel))
theorem kM_X0_104 : Cond.methodLink RX0 104 Lib.Math.max.name ∈ lw_tbl := List.mem_append_right _ (List.mem_of_getElem? (i := 461) (by decide +kernel))
theorem kT_Lib_Math_max_name : Cond.static Lib.Math.max.name ∈ lw_tbl := List.mem_append_right _ (List.mem_of_getElem? (i := 462) (by decide +kernel))
theorem kC_Lib_Math_max_name : Cond.code Lib.Math.max.name Lib.Math.max.code 2 (Option.some Jvm.ClassFile.FieldType.int) ∈ lw_tbl := List.mem_append_right _ (List.mem_of_getElem? (i := 463) (by decide +kernel))
theorem kM_X0_120 : Cond.methodLink RX0 120 yX6_findLack ∈ lw_tbl := List.mem_append_right _ (List.mem_of_getElem? (i := 464) (by decide +kernel))
theorem kI_yX6_findLack : Cond.instanceMethod yX6_findLack ∈ lw_tbl := List.mem_append_right _ (List.mem_of_getElem? (i := 465) (by decide +kernel))
theorem kS_yX6_findLack : Cond.selects RX6 yX6_findLack yX6_findLack ∈ lw_tbl := List.mem_append_right _ (List.mem_of_getElem? (i := 466) (by decide +kernel))
theorem kC_yX6_findLack : Cond.code yX6_findLack cX6_findLack 7 (Option.some Jvm.ClassFile.FieldType.int) ∈ lw_tbl := List.mem_append_right _ (List.mem_of_getElem? (i := 467) (by decide +kernel))
theorem kM_X6_56 : Cond.methodLink RX6 56 yX6_comers ∈ lw_tbl := List.mem_append_right _ (List.mem_of_getElem? (i := 468) (by decide +kernel))
theorem kI_yX6_comers : Cond.instanceMethod yX6_comers ∈ lw_tbl := List.mem_append_right _ (List.mem_of_getElem? (i := 470) (by decide +kernel))
theorem kC_yX6_comers : Cond.code yX6_comers cX6_comers 2 (Option.some Jvm.ClassFile.FieldType.int) ∈ lw_tbl := List.mem_append_right _ (List.mem_of_getElem? (i := 471) (by decide +kernel))
theorem kM_X6_59 : Cond.methodLink RX6 59 Lib.Math.max.name ∈ lw_tbl := List.mem_append_right _ (List.mem_of_getElem? (i := 472) (by decide +kernel))
theorem kM_X6_65 : Cond.methodLink RX6 65 yX6_isGoal ∈ lw_tbl := List.mem_append_right _ (List.mem_of_getElem? (i := 473) (by decide +kernel))
theorem kI_yX6_isGoal : Cond.instanceMethod yX6_isGoal ∈ lw_tbl := List.mem_append_right _ (List.mem_of_getElem? (i := 475) (by decide +kernel))
theorem kC_yX6_isGoal : Cond.code yX6_isGoal cX6_isGoal 4 (Option.some Jvm.ClassFile.FieldType.boolean) ∈ lw_tbl := List.mem_append_right _ (List.mem_of_getElem? (i := 476) (by decide +kernel))
theorem kM_X6_69 : Cond.methodLink RX6 69 yX6_goalOf ∈ lw_tbl := List.mem_append_right _ (List.mem_of_getElem? (i := 477) (by decide +kernel))
theorem kI_yX6_goalOf : Cond.instanceMethod yX6_goalOf ∈ lw_tbl := List.mem_append_right _ (List.mem_of_getElem? (i := 478) (by decide +kernel))
theorem kS_yX6_goalOf : Cond.selects RX6 yX6_goalOf yX6_goalOf ∈ lw_tbl := List.mem_append_right _ (List.mem_of_getElem? (i := 479) (by decide +kernel))
theorem kC_yX6_goalOf : Cond.code yX6_goalOf cX6_goalOf 2 (Option.some Jvm.ClassFile.FieldType.int) ∈ lw_tbl := List.mem_append_right _ (List.mem_of_getElem? (i := 480) (by decide +kernel))
theorem kM_X6_72 : Cond.methodLink RX6 72 yX3_set ∈ lw_tbl := List.mem_append_right _ (List.mem_of_getElem? (i := 481) (by decide +kernel))
theorem kM_X0_126 : Cond.methodLink RX0 126 yX2_set ∈ lw_tbl := List.mem_append_right _ (List.mem_of_getElem? (i := 482) (by decide +kernel))
theorem kI_yX2_set : Cond.instanceMethod yX2_set ∈ lw_tbl := List.mem_append_right _ (List.mem_of_getElem? (i := 483) (by decide +kernel))
theorem kS_yX2_set : Cond.selects RX2 yX2_set yX2_set ∈ lw_tbl := List.mem_append_right _ (List.mem_of_getElem? (i := 484) (by decide +kernel))
theorem kC_yX2_set : Cond.code yX2_set cX2_set 5 (Option.none : Option Jvm.ClassFile.FieldType) ∈ lw_tbl := List.mem_append_right _ (List.mem_of_getElem? (i := 485) (by decide +kernel))
theorem kM_X0_77 : Cond.methodLink RX0 77 yX1_areTooMany ∈ lw_tbl := List.mem_append_right _ (List.mem_of_getElem? (i := 486) (by decide +kernel))
theorem kM_X0_97 : Cond.methodLink RX0 97 yX0_keepOld ∈ lw_tbl := List.mem_append_right _ (List.mem_of_getElem? (i := 487) (by decide +kernel))
theorem kI_yX0_keepOld : Cond.instanceMethod yX0_keepOld ∈ lw_tbl := List.mem_append_right _ (List.mem_of_getElem? (i := 489) (by decide +kernel))
theorem kC_yX0_keepOld : Cond.code yX0_keepOld cX0_keepOld 3 (Option.none : Option Jvm.ClassFile.FieldType) ∈ lw_tbl := List.mem_append_right _ (List.mem_of_getElem? (i := 490) (by decide +kernel))
theorem kM_X0_101 : Cond.methodLink RX0 101 yX0_bringNew ∈ lw_tbl := List.mem_append_right _ (List.mem_of_getElem? (i := 491) (by decide +kernel))
theorem kI_yX0_bringNew : Cond.instanceMethod yX0_bringNew ∈ lw_tbl := List.mem_append_right _ (List.mem_of_getElem? (i := 493) (by decide +kernel))
theorem kC_yX0_bringNew : Cond.code yX0_bringNew cX0_bringNew 4 (Option.none : Option Jvm.ClassFile.FieldType) ∈ lw_tbl := List.mem_append_right _ (List.mem_of_getElem? (i := 494) (by decide +kernel))
theorem kM_X0_134 : Cond.methodLink RX0 134 yX2_of ∈ lw_tbl := List.mem_append_right _ (List.mem_of_getElem? (i := 495) (by decide +kernel))
theorem kI_yX2_of : Cond.instanceMethod yX2_of ∈ lw_tbl := List.mem_append_right _ (List.mem_of_getElem? (i := 496) (by decide +kernel))
theorem kS_yX2_of : Cond.selects RX2 yX2_of yX2_of ∈ lw_tbl := List.mem_append_right _ (List.mem_of_getElem? (i := 497) (by decide +kernel))
theorem kC_yX2_of : Cond.code yX2_of cX2_of 4 (Option.some Jvm.ClassFile.FieldType.int) ∈ lw_tbl := List.mem_append_right _ (List.mem_of_getElem? (i := 498) (by decide +kernel))
theorem kM_X0_137 : Cond.methodLink RX0 137 yX0_setOut ∈ lw_tbl := List.mem_append_right _ (List.mem_of_getElem? (i := 499) (by decide +kernel))
theorem kI_yX0_setOut : Cond.instanceMethod yX0_setOut ∈ lw_tbl := List.mem_append_right _ (List.mem_of_getElem? (i := 501) (by decide +kernel))
theorem kC_yX0_setOut : Cond.code yX0_setOut cX0_setOut 3 (Option.none : Option Jvm.ClassFile.FieldType) ∈ lw_tbl := List.mem_append_right _ (List.mem_of_getElem? (i := 502) (by decide +kernel))
theorem kM_X0_145 : Cond.methodLink RX0 145 yX3_clear ∈ lw_tbl := List.mem_append_right _ (List.mem_of_getElem? (i := 503) (by decide +kernel))
theorem kM_X0_149 : Cond.methodLink RX0 149 yX3_add ∈ lw_tbl := List.mem_append_right _ (List.mem_of_getElem? (i := 504) (by decide +kernel))
theorem kM_X0_159 : Cond.methodLink RX0 159 yX6_goalOf ∈ lw_tbl := List.mem_append_right _ (List.mem_of_getElem? (i := 505) (by decide +kernel))
theorem kM_X0_141 : Cond.methodLink RX0 141 yX0_fillFrom ∈ lw_tbl := List.mem_append_right _ (List.mem_of_getElem? (i := 506) (by decide +kernel))
theorem kI_yX0_fillFrom : Cond.instanceMethod yX0_fillFrom ∈ lw_tbl := List.mem_append_right _ (List.mem_of_getElem? (i := 508) (by decide +kernel))
theorem kC_yX0_fillFrom : Cond.code yX0_fillFrom cX0_fillFrom 9 (Option.some Jvm.ClassFile.FieldType.boolean) ∈ lw_tbl := List.mem_append_right _ (List.mem_of_getElem? (i := 509) (by decide +kernel))
theorem kM_X0_163 : Cond.methodLink RX0 163 yX3_of ∈ lw_tbl := List.mem_append_right _ (List.mem_of_getElem? (i := 510) (by decide +kernel))
theorem kM_X0_165 : Cond.methodLink RX0 165 yX6_isLastToGoal ∈ lw_tbl := List.mem_append_right _ (List.mem_of_getElem? (i := 511) (by decide +kernel))
theorem kI_yX6_isLastToGoal : Cond.instanceMethod yX6_isLastToGoal ∈ lw_tbl := List.mem_append_right _ (List.mem_of_getElem? (i := 512) (by decide +kernel))
theorem kS_yX6_isLastToGoal : Cond.selects RX6 yX6_isLastToGoal yX6_isLastToGoal ∈ lw_tbl := List.mem_append_right _ (List.mem_of_getElem? (i := 513) (by decide +kernel))
theorem kC_yX6_isLastToGoal : Cond.code yX6_isLastToGoal cX6_isLastToGoal 4 (Option.some Jvm.ClassFile.FieldType.boolean) ∈ lw_tbl := List.mem_append_right _ (List.mem_of_getElem? (i := 514) (by decide +kernel))
theorem kM_X0_169 : Cond.methodLink RX0 169 yX3_set ∈ lw_tbl := List.mem_append_right _ (List.mem_of_getElem? (i := 515) (by decide +kernel))
theorem kM_L_78 : Cond.methodLink "CrowdLawsLaw" 78 yX7_bases ∈ lw_tbl := List.mem_append_right _ (List.mem_of_getElem? (i := 516) (by decide +kernel))
theorem kI_yX7_bases : Cond.instanceMethod yX7_bases ∈ lw_tbl := List.mem_append_right _ (List.mem_of_getElem? (i := 517) (by decide +kernel))
theorem kS_yX7_bases : Cond.selects RX7 yX7_bases yX7_bases ∈ lw_tbl := List.mem_append_right _ (List.mem_of_getElem? (i := 518) (by decide +kernel))
theorem kC_yX7_bases : Cond.code yX7_bases cX7_bases 1 (Option.some Jvm.ClassFile.FieldType.int) ∈ lw_tbl := List.mem_append_right _ (List.mem_of_getElem? (i := 519) (by decide +kernel))
theorem kM_L_82 : Cond.methodLink "CrowdLawsLaw" 82 yX7_base ∈ lw_tbl := List.mem_append_right _ (List.mem_of_getElem? (i := 520) (by decide +kernel))
theorem kI_yX7_base : Cond.instanceMethod yX7_base ∈ lw_tbl := List.mem_append_right _ (List.mem_of_getElem? (i := 521) (by decide +kernel))
theorem kS_yX7_base : Cond.selects RX7 yX7_base yX7_base ∈ lw_tbl := List.mem_append_right _ (List.mem_of_getElem? (i := 522) (by decide +kernel))
theorem kC_yX7_base : Cond.code yX7_base cX7_base 3 (Option.some Jvm.ClassFile.FieldType.int) ∈ lw_tbl := List.mem_append_right _ (List.mem_of_getElem? (i := 523) (by decide +kernel))
theorem kM_L_86 : Cond.methodLink "CrowdLawsLaw" 86 yX7_least ∈ lw_tbl := List.mem_append_right _ (List.mem_of_getElem? (i := 524) (by decide +kernel))
theorem kI_yX7_least : Cond.instanceMethod yX7_least ∈ lw_tbl := List.mem_append_right _ (List.mem_of_getElem? (i := 525) (by decide +kernel))
theorem kS_yX7_least : Cond.selects RX7 yX7_least yX7_least ∈ lw_tbl := List.mem_append_right _ (List.mem_of_getElem? (i := 526) (by decide +kernel))
theorem kC_yX7_least : Cond.code yX7_least cX7_least 1 (Option.some Jvm.ClassFile.FieldType.int) ∈ lw_tbl := List.mem_append_right _ (List.mem_of_getElem? (i := 527) (by decide +kernel))
theorem kM_X7_165 : Cond.methodLink RX7 165 yX0_leastFromStart ∈ lw_tbl := List.mem_append_right _ (List.mem_of_getElem? (i := 528) (by decide +kernel))
theorem kI_yX0_leastFromStart : Cond.instanceMethod yX0_leastFromStart ∈ lw_tbl := List.mem_append_right _ (List.mem_of_getElem? (i := 529) (by decide +kernel))
theorem kS_yX0_leastFromStart : Cond.selects RX0 yX0_leastFromStart yX0_leastFromStart ∈ lw_tbl := List.mem_append_right _ (List.mem_of_getElem? (i := 530) (by decide +kernel))
theorem kC_yX0_leastFromStart : Cond.code yX0_leastFromStart cX0_leastFromStart 2 (Option.some Jvm.ClassFile.FieldType.int) ∈ lw_tbl := List.mem_append_right _ (List.mem_of_getElem? (i := 531) (by decide +kernel))
theorem kM_X0_59 : Cond.methodLink RX0 59 yX5_isInStart ∈ lw_tbl := List.mem_append_right _ (List.mem_of_getElem? (i := 532) (by decide +kernel))
theorem kI_yX5_isInStart : Cond.instanceMethod yX5_isInStart ∈ lw_tbl := List.mem_append_right _ (List.mem_of_getElem? (i := 533) (by decide +kernel))
theorem kS_yX5_isInStart : Cond.selects RX5 yX5_isInStart yX5_isInStart ∈ lw_tbl := List.mem_append_right _ (List.mem_of_getElem? (i := 534) (by decide +kernel))
theorem kC_yX5_isInStart : Cond.code yX5_isInStart cX5_isInStart 3 (Option.some Jvm.ClassFile.FieldType.boolean) ∈ lw_tbl := List.mem_append_right _ (List.mem_of_getElem? (i := 535) (by decide +kernel))
theorem kM_X5_57 : Cond.methodLink RX5 57 yX3_of ∈ lw_tbl := List.mem_append_right _ (List.mem_of_getElem? (i := 536) (by decide +kernel))
theorem kM_L_90 : Cond.methodLink "CrowdLawsLaw" 90 yX7_reach ∈ lw_tbl := List.mem_append_right _ (List.mem_of_getElem? (i := 537) (by decide +kernel))
theorem kI_yX7_reach : Cond.instanceMethod yX7_reach ∈ lw_tbl := List.mem_append_right _ (List.mem_of_getElem? (i := 538) (by decide +kernel))
theorem kS_yX7_reach : Cond.selects RX7 yX7_reach yX7_reach ∈ lw_tbl := List.mem_append_right _ (List.mem_of_getElem? (i := 539) (by decide +kernel))
theorem kC_yX7_reach : Cond.code yX7_reach cX7_reach 2 (Option.some Jvm.ClassFile.FieldType.int) ∈ lw_tbl := List.mem_append_right _ (List.mem_of_getElem? (i := 540) (by decide +kernel))
theorem kM_X7_168 : Cond.methodLink RX7 168 yX7_isWalkable ∈ lw_tbl := List.mem_append_right _ (List.mem_of_getElem? (i := 541) (by decide +kernel))
theorem kT_yX7_isWalkable : Cond.static yX7_isWalkable ∈ lw_tbl := List.mem_append_right _ (List.mem_of_getElem? (i := 542) (by decide +kernel))
theorem kC_yX7_isWalkable : Cond.code yX7_isWalkable cX7_isWalkable 1 (Option.some Jvm.ClassFile.FieldType.boolean) ∈ lw_tbl := List.mem_append_right _ (List.mem_of_getElem? (i := 543) (by decide +kernel))
theorem kM_X7_171 : Cond.methodLink RX7 171 yX4_walk ∈ lw_tbl := List.mem_append_right _ (List.mem_of_getElem? (i := 544) (by decide +kernel))
theorem kI_yX4_walk : Cond.instanceMethod yX4_walk ∈ lw_tbl := List.mem_append_right _ (List.mem_of_getElem? (i := 545) (by decide +kernel))
theorem kS_yX4_walk : Cond.selects RX4 yX4_walk yX4_walk ∈ lw_tbl := List.mem_append_right _ (List.mem_of_getElem? (i := 546) (by decide +kernel))
theorem kC_yX4_walk : Cond.code yX4_walk cX4_walk 2 (Option.none : Option Jvm.ClassFile.FieldType) ∈ lw_tbl := List.mem_append_right _ (List.mem_of_getElem? (i := 547) (by decide +kernel))
theorem kM_X4_64 : Cond.methodLink RX4 64 yX4_listCrowds ∈ lw_tbl := List.mem_append_right _ (List.mem_of_getElem? (i := 548) (by decide +kernel))
theorem kI_yX4_listCrowds : Cond.instanceMethod yX4_listCrowds ∈ lw_tbl := List.mem_append_right _ (List.mem_of_getElem? (i := 550) (by decide +kernel))
theorem kC_yX4_listCrowds : Cond.code yX4_listCrowds cX4_listCrowds 3 (Option.none : Option Jvm.ClassFile.FieldType) ∈ lw_tbl := List.mem_append_right _ (List.mem_of_getElem? (i := 551) (by decide +kernel))
theorem kM_X4_99 : Cond.methodLink RX4 99 yX3_clear ∈ lw_tbl := List.mem_append_right _ (List.mem_of_getElem? (i := 552) (by decide +kernel))
theorem kM_X4_107 : Cond.methodLink RX4 107 yX3_set ∈ lw_tbl := List.mem_append_right _ (List.mem_of_getElem? (i := 553) (by decide +kernel))
theorem kM_X4_111 : Cond.methodLink RX4 111 yX4_codeOf ∈ lw_tbl := List.mem_append_right _ (List.mem_of_getElem? (i := 554) (by decide +kernel))
theorem kI_yX4_codeOf : Cond.instanceMethod yX4_codeOf ∈ lw_tbl := List.mem_append_right _ (List.mem_of_getElem? (i := 556) (by decide +kernel))
theorem kC_yX4_codeOf : Cond.code yX4_codeOf cX4_codeOf 4 (Option.some Jvm.ClassFile.FieldType.int) ∈ lw_tbl := List.mem_append_right _ (List.mem_of_getElem? (i := 557) (by decide +kernel))
theorem kM_X4_90 : Cond.methodLink RX4 90 yX3_of ∈ lw_tbl := List.mem_append_right _ (List.mem_of_getElem? (i := 558) (by decide +kernel))
theorem kM_X4_115 : Cond.methodLink RX4 115 yX4_advance ∈ lw_tbl := List.mem_append_right _ (List.mem_of_getElem? (i := 559) (by decide +kernel))
theorem kI_yX4_advance : Cond.instanceMethod yX4_advance ∈ lw_tbl := List.mem_append_right _ (List.mem_of_getElem? (i := 561) (by decide +kernel))
theorem kC_yX4_advance : Cond.code yX4_advance cX4_advance 4 (Option.some Jvm.ClassFile.FieldType.boolean) ∈ lw_tbl := List.mem_append_right _ (List.mem_of_getElem? (i := 562) (by decide +kernel))
theorem kM_X4_119 : Cond.methodLink RX4 119 yX3_add ∈ lw_tbl := List.mem_append_right _ (List.mem_of_getElem? (i := 563) (by decide +kernel))
theorem kM_X4_68 : Cond.methodLink RX4 68 yX4_beginAtStart ∈ lw_tbl := List.mem_append_right _ (List.mem_of_getElem? (i := 564) (by decide +kernel))
theorem kI_yX4_beginAtStart : Cond.instanceMethod yX4_beginAtStart ∈ lw_tbl := List.mem_append_right _ (List.mem_of_getElem? (i := 566) (by decide +kernel))
theorem kC_yX4_beginAtStart : Cond.code yX4_beginAtStart cX4_beginAtStart 2 (Option.none : Option Jvm.ClassFile.FieldType) ∈ lw_tbl := List.mem_append_right _ (List.mem_of_getElem? (i := 567) (by decide +kernel))
theorem kM_X4_87 : Cond.methodLink RX4 87 yX4_decode ∈ lw_tbl := List.mem_append_right _ (List.mem_of_getElem? (i := 568) (by decide +kernel))
theorem kI_yX4_decode : Cond.instanceMethod yX4_decode ∈ lw_tbl := List.mem_append_right _ (List.mem_of_getElem? (i := 570) (by decide +kernel))
theorem kC_yX4_decode : Cond.code yX4_decode cX4_decode 4 (Option.none : Option Jvm.ClassFile.FieldType) ∈ lw_tbl := List.mem_append_right _ (List.mem_of_getElem? (i := 571) (by decide +kernel))
theorem kM_X4_126 : Cond.methodLink RX4 126 yX5_isInStart ∈ lw_tbl := List.mem_append_right _ (List.mem_of_getElem? (i := 572) (by decide +kernel))
theorem kM_X4_129 : Cond.methodLink RX4 129 yX4_come ∈ lw_tbl := List.mem_append_right _ (List.mem_of_getElem? (i := 573) (by decide +kernel))
theorem kI_yX4_come : Cond.instanceMethod yX4_come ∈ lw_tbl := List.mem_append_right _ (List.mem_of_getElem? (i := 575) (by decide +kernel))
theorem kC_yX4_come : Cond.code yX4_come cX4_come 3 (Option.none : Option Jvm.ClassFile.FieldType) ∈ lw_tbl := List.mem_append_right _ (List.mem_of_getElem? (i := 576) (by decide +kernel))
theorem kM_X4_122 : Cond.methodLink RX4 122 yX4_isPlace ∈ lw_tbl := List.mem_append_right _ (List.mem_of_getElem? (i := 577) (by decide +kernel))
theorem kI_yX4_isPlace : Cond.instanceMethod yX4_isPlace ∈ lw_tbl := List.mem_append_right _ (List.mem_of_getElem? (i := 579) (by decide +kernel))
theorem kC_yX4_isPlace : Cond.code yX4_isPlace cX4_isPlace 2 (Option.some Jvm.ClassFile.FieldType.boolean) ∈ lw_tbl := List.mem_append_right _ (List.mem_of_getElem? (i := 580) (by decide +kernel))
theorem kM_X4_71 : Cond.methodLink RX4 71 yX4_goOn ∈ lw_tbl := List.mem_append_right _ (List.mem_of_getElem? (i := 581) (by decide +kernel))
theorem kI_yX4_goOn : Cond.instanceMethod yX4_goOn ∈ lw_tbl := List.mem_append_right _ (List.mem_of_getElem? (i := 583) (by decide +kernel))
theorem kC_yX4_goOn : Cond.code yX4_goOn cX4_goOn 6 (Option.none : Option Jvm.ClassFile.FieldType) ∈ lw_tbl := List.mem_append_right _ (List.mem_of_getElem? (i := 584) (by decide +kernel))
theorem kM_X4_132 : Cond.methodLink RX4 132 yX4_levelOf ∈ lw_tbl := List.mem_append_right _ (List.mem_of_getElem? (i := 585) (by decide +kernel))
theorem kI_yX4_levelOf : Cond.instanceMethod yX4_levelOf ∈ lw_tbl := List.mem_append_right _ (List.mem_of_getElem? (i := 587) (by decide +kernel))
theorem kC_yX4_levelOf : Cond.code yX4_levelOf cX4_levelOf 2 (Option.some Jvm.ClassFile.FieldType.int) ∈ lw_tbl := List.mem_append_right _ (List.mem_of_getElem? (i := 588) (by decide +kernel))
theorem kM_X4_83 : Cond.methodLink RX4 83 yX4_codeAt ∈ lw_tbl := List.mem_append_right _ (List.mem_of_getElem? (i := 589) (by decide +kernel))
theorem kI_yX4_codeAt : Cond.instanceMethod yX4_codeAt ∈ lw_tbl := List.mem_append_right _ (List.mem_of_getElem? (i := 591) (by decide +kernel))
theorem kC_yX4_codeAt : Cond.code yX4_codeAt cX4_codeAt 2 (Option.some Jvm.ClassFile.FieldType.int) ∈ lw_tbl := List.mem_append_right _ (List.mem_of_getElem? (i := 592) (by decide +kernel))
theorem kM_X4_142 : Cond.methodLink RX4 142 yX6_fits ∈ lw_tbl := List.mem_append_right _ (List.mem_of_getElem? (i := 593) (by decide +kernel))
theorem kM_X4_147 : Cond.methodLink RX4 147 yX6_lead ∈ lw_tbl := List.mem_append_right _ (List.mem_of_getElem? (i := 594) (by decide +kernel))
theorem kM_X4_151 : Cond.methodLink RX4 151 yX4_placeOf ∈ lw_tbl := List.mem_append_right _ (List.mem_of_getElem? (i := 595) (by decide +kernel))
theorem kI_yX4_placeOf : Cond.instanceMethod yX4_placeOf ∈ lw_tbl := List.mem_append_right _ (List.mem_of_getElem? (i := 597) (by decide +kernel))
theorem kC_yX4_placeOf : Cond.code yX4_placeOf cX4_placeOf 5 (Option.some Jvm.ClassFile.FieldType.int) ∈ lw_tbl := List.mem_append_right _ (List.mem_of_getElem? (i := 598) (by decide +kernel))
theorem kM_X4_154 : Cond.methodLink RX4 154 yX2_set ∈ lw_tbl := List.mem_append_right _ (List.mem_of_getElem? (i := 599) (by decide +kernel))
theorem kM_X4_74 : Cond.methodLink RX4 74 yX4_findFewest ∈ lw_tbl := List.mem_append_right _ (List.mem_of_getElem? (i := 600) (by decide +kernel))
theorem kI_yX4_findFewest : Cond.instanceMethod yX4_findFewest ∈ lw_tbl := List.mem_append_right _ (List.mem_of_getElem? (i := 602) (by decide +kernel))
theorem kC_yX4_findFewest : Cond.code yX4_findFewest cX4_findFewest 2 (Option.none : Option Jvm.ClassFile.FieldType) ∈ lw_tbl := List.mem_append_right _ (List.mem_of_getElem? (i := 603) (by decide +kernel))
theorem kM_X4_157 : Cond.methodLink RX4 157 yX5_isBadCrowd ∈ lw_tbl := List.mem_append_right _ (List.mem_of_getElem? (i := 604) (by decide +kernel))
theorem kM_X4_77 : Cond.methodLink RX4 77 yX4_markLeading ∈ lw_tbl := List.mem_append_right _ (List.mem_of_getElem? (i := 605) (by decide +kernel))
theorem kI_yX4_markLeading : Cond.instanceMethod yX4_markLeading ∈ lw_tbl := List.mem_append_right _ (List.mem_of_getElem? (i := 607) (by decide +kernel))
theorem kC_yX4_markLeading : Cond.code yX4_markLeading cX4_markLeading 4 (Option.none : Option Jvm.ClassFile.FieldType) ∈ lw_tbl := List.mem_append_right _ (List.mem_of_getElem? (i := 608) (by decide +kernel))
theorem kM_X4_160 : Cond.methodLink RX4 160 yX4_firstLeading ∈ lw_tbl := List.mem_append_right _ (List.mem_of_getElem? (i := 609) (by decide +kernel))
theorem kI_yX4_firstLeading : Cond.instanceMethod yX4_firstLeading ∈ lw_tbl := List.mem_append_right _ (List.mem_of_getElem? (i := 611) (by decide +kernel))
theorem kC_yX4_firstLeading : Cond.code yX4_firstLeading cX4_firstLeading 6 (Option.some Jvm.ClassFile.FieldType.int) ∈ lw_tbl := List.mem_append_right _ (List.mem_of_getElem? (i := 612) (by decide +kernel))
theorem kM_X4_163 : Cond.methodLink RX4 163 yX2_of ∈ lw_tbl := List.mem_append_right _ (List.mem_of_getElem? (i := 613) (by decide +kernel))
theorem kM_X4_80 : Cond.methodLink RX4 80 yX4_choosePath ∈ lw_tbl := List.mem_append_right _ (List.mem_of_getElem? (i := 614) (by decide +kernel))
theorem kI_yX4_choosePath : Cond.instanceMethod yX4_choosePath ∈ lw_tbl := List.mem_append_right _ (List.mem_of_getElem? (i := 616) (by decide +kernel))
theorem kC_yX4_choosePath : Cond.code yX4_choosePath cX4_choosePath 3 (Option.none : Option Jvm.ClassFile.FieldType) ∈ lw_tbl := List.mem_append_right _ (List.mem_of_getElem? (i := 617) (by decide +kernel))
theorem kM_L_94 : Cond.methodLink "CrowdLawsLaw" 94 yX7_steps ∈ lw_tbl := List.mem_append_right _ (List.mem_of_getElem? (i := 618) (by decide +kernel))
theorem kI_yX7_steps : Cond.instanceMethod yX7_steps ∈ lw_tbl := List.mem_append_right _ (List.mem_of_getElem? (i := 619) (by decide +kernel))
theorem kS_yX7_steps : Cond.selects RX7 yX7_steps yX7_steps ∈ lw_tbl := List.mem_append_right _ (List.mem_of_getElem? (i := 620) (by decide +kernel))
theorem kC_yX7_steps : Cond.code yX7_steps cX7_steps 2 (Option.some Jvm.ClassFile.FieldType.int) ∈ lw_tbl := List.mem_append_right _ (List.mem_of_getElem? (i := 621) (by decide +kernel))
theorem kM_L_98 : Cond.methodLink "CrowdLawsLaw" 98 yX7_run ∈ lw_tbl := List.mem_append_right _ (List.mem_of_getElem? (i := 622) (by decide +kernel))
theorem kI_yX7_run : Cond.instanceMethod yX7_run ∈ lw_tbl := List.mem_append_right _ (List.mem_of_getElem? (i := 623) (by decide +kernel))
theorem kS_yX7_run : Cond.selects RX7 yX7_run yX7_run ∈ lw_tbl := List.mem_append_right _ (List.mem_of_getElem? (i := 624) (by decide +kernel))
theorem kC_yX7_run : Cond.code yX7_run cX7_run 4 (Option.some Jvm.ClassFile.FieldType.int) ∈ lw_tbl := List.mem_append_right _ (List.mem_of_getElem? (i := 625) (by decide +kernel))
theorem kM_X7_180 : Cond.methodLink RX7 180 yX4_onPath ∈ lw_tbl := List.mem_append_right _ (List.mem_of_getElem? (i := 626) (by decide +kernel))
theorem kI_yX4_onPath : Cond.instanceMethod yX4_onPath ∈ lw_tbl := List.mem_append_right _ (List.mem_of_getElem? (i := 627) (by decide +kernel))
theorem kS_yX4_onPath : Cond.selects RX4 yX4_onPath yX4_onPath ∈ lw_tbl := List.mem_append_right _ (List.mem_of_getElem? (i := 628) (by decide +kernel))
theorem kC_yX4_onPath : Cond.code yX4_onPath cX4_onPath 3 (Option.some Jvm.ClassFile.FieldType.int) ∈ lw_tbl := List.mem_append_right _ (List.mem_of_getElem? (i := 629) (by decide +kernel))
theorem kM_L_102 : Cond.methodLink "CrowdLawsLaw" 102 yX7_doomedOf ∈ lw_tbl := List.mem_append_right _ (List.mem_of_getElem? (i := 630) (by decide +kernel))
theorem kI_yX7_doomedOf : Cond.instanceMethod yX7_doomedOf ∈ lw_tbl := List.mem_append_right _ (List.mem_of_getElem? (i := 631) (by decide +kernel))
theorem kS_yX7_doomedOf : Cond.selects RX7 yX7_doomedOf yX7_doomedOf ∈ lw_tbl := List.mem_append_right _ (List.mem_of_getElem? (i := 632) (by decide +kernel))
theorem kC_yX7_doomedOf : Cond.code yX7_doomedOf cX7_doomedOf 2 (Option.some Jvm.ClassFile.FieldType.int) ∈ lw_tbl := List.mem_append_right _ (List.mem_of_getElem? (i := 633) (by decide +kernel))
theorem kM_X7_184 : Cond.methodLink RX7 184 yX4_countDoomed ∈ lw_tbl := List.mem_append_right _ (List.mem_of_getElem? (i := 634) (by decide +kernel))
theorem kI_yX4_countDoomed : Cond.instanceMethod yX4_countDoomed ∈ lw_tbl := List.mem_append_right _ (List.mem_of_getElem? (i := 635) (by decide +kernel))
theorem kS_yX4_countDoomed : Cond.selects RX4 yX4_countDoomed yX4_countDoomed ∈ lw_tbl := List.mem_append_right _ (List.mem_of_getElem? (i := 636) (by decide +kernel))
theorem kC_yX4_countDoomed : Cond.code yX4_countDoomed cX4_countDoomed 4 (Option.some Jvm.ClassFile.FieldType.int) ∈ lw_tbl := List.mem_append_right _ (List.mem_of_getElem? (i := 637) (by decide +kernel))
theorem kM_X4_93 : Cond.methodLink RX4 93 yX0_dooms ∈ lw_tbl := List.mem_append_right _ (List.mem_of_getElem? (i := 638) (by decide +kernel))
theorem kM_L_106 : Cond.methodLink "CrowdLawsLaw" 106 yX7_total ∈ lw_tbl := List.mem_append_right _ (List.mem_of_getElem? (i := 639) (by decide +kernel))
theorem kI_yX7_total : Cond.instanceMethod yX7_total ∈ lw_tbl := List.mem_append_right _ (List.mem_of_getElem? (i := 640) (by decide +kernel))
theorem kS_yX7_total : Cond.selects RX7 yX7_total yX7_total ∈ lw_tbl := List.mem_append_right _ (List.mem_of_getElem? (i := 641) (by decide +kernel))
theorem kC_yX7_total : Cond.code yX7_total cX7_total 2 (Option.some Jvm.ClassFile.FieldType.int) ∈ lw_tbl := List.mem_append_right _ (List.mem_of_getElem? (i := 642) (by decide +kernel))
theorem kL_L_10 : Cond.classLink "CrowdLawsLaw" 10 RX8 ∈ lw_tbl := List.mem_append_right _ (List.mem_of_getElem? (i := 643) (by decide +kernel))
theorem kB_X8 : Cond.instantiable RX8 28 ∈ lw_tbl := List.mem_append_right _ (List.mem_of_getElem? (i := 644) (by decide +kernel))
theorem kM_L_12 : Cond.methodLink "CrowdLawsLaw" 12 yX8_init ∈ lw_tbl := List.mem_append_right _ (List.mem_of_getElem? (i := 645) (by decide +kernel))
theorem kI_yX8_init : Cond.instanceMethod yX8_init ∈ lw_tbl := List.mem_append_right _ (List.mem_of_getElem? (i := 646) (by decide +kernel))
theorem kC_yX8_init : Cond.code yX8_init cX8_init 1 (Option.none : Option Jvm.ClassFile.FieldType) ∈ lw_tbl := List.mem_append_right _ (List.mem_of_getElem? (i := 647) (by decide +kernel))
theorem kM_X8_1 : Cond.methodLink RX8 1 objectInit ∈ lw_tbl := List.mem_append_right _ (List.mem_of_getElem? (i := 648) (by decide +kernel))
theorem kK_X8_62 : Cond.constant RX8 62 (59049 : Int32) ∈ lw_tbl := List.mem_append_right _ (List.mem_of_getElem? (i := 649) (by decide +kernel))
theorem kF_X8_73 : Cond.fieldLink RX8 73 "CrowdLawsModel" "thrown" "I" ∈ lw_tbl := List.mem_append_right _ (List.mem_of_getElem? (i := 650) (by decide +kernel))
theorem kF_X8_7 : Cond.fieldLink RX8 7 "CrowdLawsModel" "states" "I" ∈ lw_tbl := List.mem_append_right _ (List.mem_of_getElem? (i := 651) (by decide +kernel))
theorem kF_X8_13 : Cond.fieldLink RX8 13 "CrowdLawsModel" "start" "I" ∈ lw_tbl := List.mem_append_right _ (List.mem_of_getElem? (i := 652) (by decide +kernel))
theorem kF_X8_80 : Cond.fieldLink RX8 80 "CrowdLawsModel" "rules" "I" ∈ lw_tbl := List.mem_append_right _ (List.mem_of_getElem? (i := 653) (by decide +kernel))
theorem kF_X8_16 : Cond.fieldLink RX8 16 "CrowdLawsModel" "sort" "[I" ∈ lw_tbl := List.mem_append_right _ (List.mem_of_getElem? (i := 654) (by decide +kernel))
theorem kF_X8_20 : Cond.fieldLink RX8 20 "CrowdLawsModel" "p" "[I" ∈ lw_tbl := List.mem_append_right _ (List.mem_of_getElem? (i := 655) (by decide +kernel))
theorem kF_X8_23 : Cond.fieldLink RX8 23 "CrowdLawsModel" "q" "[I" ∈ lw_tbl := List.mem_append_right _ (List.mem_of_getElem? (i := 656) (by decide +kernel))
theorem kF_X8_26 : Cond.fieldLink RX8 26 "CrowdLawsModel" "r" "[I" ∈ lw_tbl := List.mem_append_right _ (List.mem_of_getElem? (i := 657) (by decide +kernel))
theorem kF_X8_29 : Cond.fieldLink RX8 29 "CrowdLawsModel" "t" "[I" ∈ lw_tbl := List.mem_append_right _ (List.mem_of_getElem? (i := 658) (by decide +kernel))
theorem kF_X8_32 : Cond.fieldLink RX8 32 "CrowdLawsModel" "map" "[I" ∈ lw_tbl := List.mem_append_right _ (List.mem_of_getElem? (i := 659) (by decide +kernel))
theorem kF_X8_35 : Cond.fieldLink RX8 35 "CrowdLawsModel" "need" "[I" ∈ lw_tbl := List.mem_append_right _ (List.mem_of_getElem? (i := 660) (by decide +kernel))
theorem kF_X8_85 : Cond.fieldLink RX8 85 "CrowdLawsModel" "bads" "I" ∈ lw_tbl := List.mem_append_right _ (List.mem_of_getElem? (i := 661) (by decide +kernel))
theorem kF_X8_38 : Cond.fieldLink RX8 38 "CrowdLawsModel" "bad" "[I" ∈ lw_tbl := List.mem_append_right _ (List.mem_of_getElem? (i := 662) (by decide +kernel))
theorem kF_X8_41 : Cond.fieldLink RX8 41 "CrowdLawsModel" "hand" "[I" ∈ lw_tbl := List.mem_append_right _ (List.mem_of_getElem? (i := 663) (by decide +kernel))
theorem kF_X8_88 : Cond.fieldLink RX8 88 "CrowdLawsModel" "isSearched" "Z" ∈ lw_tbl := List.mem_append_right _ (List.mem_of_getElem? (i := 664) (by decide +kernel))
theorem kF_X8_135 : Cond.fieldLink RX8 135 "CrowdLawsModel" "isSpent" "Z" ∈ lw_tbl := List.mem_append_right _ (List.mem_of_getElem? (i := 665) (by decide +kernel))
theorem kF_X8_128 : Cond.fieldLink RX8 128 "CrowdLawsModel" "bases" "I" ∈ lw_tbl := List.mem_append_right _ (List.mem_of_getElem? (i := 666) (by decide +kernel))
theorem kF_X8_44 : Cond.fieldLink RX8 44 "CrowdLawsModel" "base" "[I" ∈ lw_tbl := List.mem_append_right _ (List.mem_of_getElem? (i := 667) (by decide +kernel))
theorem kF_X8_145 : Cond.fieldLink RX8 145 "CrowdLawsModel" "news" "I" ∈ lw_tbl := List.mem_append_right _ (List.mem_of_getElem? (i := 668) (by decide +kernel))
theorem kF_X8_47 : Cond.fieldLink RX8 47 "CrowdLawsModel" "next" "[I" ∈ lw_tbl := List.mem_append_right _ (List.mem_of_getElem? (i := 669) (by decide +kernel))
theorem kF_X8_50 : Cond.fieldLink RX8 50 "CrowdLawsModel" "one" "[I" ∈ lw_tbl := List.mem_append_right _ (List.mem_of_getElem? (i := 670) (by decide +kernel))
theorem kF_X8_53 : Cond.fieldLink RX8 53 "CrowdLawsModel" "rest" "[I" ∈ lw_tbl := List.mem_append_right _ (List.mem_of_getElem? (i := 671) (by decide +kernel))
theorem kF_X8_56 : Cond.fieldLink RX8 56 "CrowdLawsModel" "after" "[I" ∈ lw_tbl := List.mem_append_right _ (List.mem_of_getElem? (i := 672) (by decide +kernel))
theorem kF_X8_185 : Cond.fieldLink RX8 185 "CrowdLawsModel" "crowds" "I" ∈ lw_tbl := List.mem_append_right _ (List.mem_of_getElem? (i := 673) (by decide +kernel))
theorem kF_X8_59 : Cond.fieldLink RX8 59 "CrowdLawsModel" "code" "[I" ∈ lw_tbl := List.mem_append_right _ (List.mem_of_getElem? (i := 674) (by decide +kernel))
theorem kF_X8_63 : Cond.fieldLink RX8 63 "CrowdLawsModel" "place" "[I" ∈ lw_tbl := List.mem_append_right _ (List.mem_of_getElem? (i := 675) (by decide +kernel))
theorem kF_X8_66 : Cond.fieldLink RX8 66 "CrowdLawsModel" "far" "[I" ∈ lw_tbl := List.mem_append_right _ (List.mem_of_getElem? (i := 676) (by decide +kernel))
theorem kF_X8_69 : Cond.fieldLink RX8 69 "CrowdLawsModel" "comes" "[Z" ∈ lw_tbl := List.mem_append_right _ (List.mem_of_getElem? (i := 677) (by decide +kernel))
theorem kM_L_17 : Cond.methodLink "CrowdLawsLaw" 17 yX8_states ∈ lw_tbl := List.mem_append_right _ (List.mem_of_getElem? (i := 735) (by decide +kernel))
theorem kI_yX8_states : Cond.instanceMethod yX8_states ∈ lw_tbl := List.mem_append_right _ (List.mem_of_getElem? (i := 736) (by decide +kernel))
theorem kS_yX8_states : Cond.selects RX8 yX8_states yX8_states ∈ lw_tbl := List.mem_append_right _ (List.mem_of_getElem? (i := 737) (by decide +kernel))
theorem kC_yX8_states : Cond.code yX8_states cX8_states 4 (Option.some Jvm.ClassFile.FieldType.int) ∈ lw_tbl := List.mem_append_right _ (List.mem_of_getElem? (i := 738) (by decide +kernel))
theorem kK_X8_83 : Cond.constantLong RX8 83 (5 : Int64) ∈ lw_tbl := List.mem_append_right _ (List.mem_of_getElem? (i := 739) (by decide +kernel))
theorem kM_X8_76 : Cond.methodLink RX8 76 yX8_in ∈ lw_tbl := List.mem_append_right _ (List.mem_of_getElem? (i := 740) (by decide +kernel))
theorem kT_yX8_in : Cond.static yX8_in ∈ lw_tbl := List.mem_append_right _ (List.mem_of_getElem? (i := 741) (by decide +kernel))
theorem kC_yX8_in : Cond.code yX8_in cX8_in 6 (Option.some Jvm.ClassFile.FieldType.boolean) ∈ lw_tbl := List.mem_append_right _ (List.mem_of_getElem? (i := 742) (by decide +kernel))
theorem kM_L_21 : Cond.methodLink "CrowdLawsLaw" 21 yX8_start ∈ lw_tbl := List.mem_append_right _ (List.mem_of_getElem? (i := 743) (by decide +kernel))
theorem kI_yX8_start : Cond.instanceMethod yX8_start ∈ lw_tbl := List.mem_append_right _ (List.mem_of_getElem? (i := 744) (by decide +kernel))
theorem kS_yX8_start : Cond.selects RX8 yX8_start yX8_start ∈ lw_tbl := List.mem_append_right _ (List.mem_of_getElem? (i := 745) (by decide +kernel))
theorem kC_yX8_start : Cond.code yX8_start cX8_start 3 (Option.some Jvm.ClassFile.FieldType.int) ∈ lw_tbl := List.mem_append_right _ (List.mem_of_getElem? (i := 746) (by decide +kernel))
theorem kM_L_26 : Cond.methodLink "CrowdLawsLaw" 26 yX8_alone ∈ lw_tbl := List.mem_append_right _ (List.mem_of_getElem? (i := 747) (by decide +kernel))
theorem kI_yX8_alone : Cond.instanceMethod yX8_alone ∈ lw_tbl := List.mem_append_right _ (List.mem_of_getElem? (i := 748) (by decide +kernel))
theorem kS_yX8_alone : Cond.selects RX8 yX8_alone yX8_alone ∈ lw_tbl := List.mem_append_right _ (List.mem_of_getElem? (i := 749) (by decide +kernel))
theorem kC_yX8_alone : Cond.code yX8_alone cX8_alone 3 (Option.some Jvm.ClassFile.FieldType.int) ∈ lw_tbl := List.mem_append_right _ (List.mem_of_getElem? (i := 750) (by decide +kernel))
theorem kM_X8_92 : Cond.methodLink RX8 92 yX8_noState ∈ lw_tbl := List.mem_append_right _ (List.mem_of_getElem? (i := 751) (by decide +kernel))
theorem kI_yX8_noState : Cond.instanceMethod yX8_noState ∈ lw_tbl := List.mem_append_right _ (List.mem_of_getElem? (i := 753) (by decide +kernel))
theorem kC_yX8_noState : Cond.code yX8_noState cX8_noState 2 (Option.some Jvm.ClassFile.FieldType.boolean) ∈ lw_tbl := List.mem_append_right _ (List.mem_of_getElem? (i := 754) (by decide +kernel))
theorem kM_X8_96 : Cond.methodLink RX8 96 yX8_newRule ∈ lw_tbl := List.mem_append_right _ (List.mem_of_getElem? (i := 755) (by decide +kernel))
theorem kI_yX8_newRule : Cond.instanceMethod yX8_newRule ∈ lw_tbl := List.mem_append_right _ (List.mem_of_getElem? (i := 757) (by decide +kernel))
theorem kC_yX8_newRule : Cond.code yX8_newRule cX8_newRule 7 (Option.some Jvm.ClassFile.FieldType.int) ∈ lw_tbl := List.mem_append_right _ (List.mem_of_getElem? (i := 758) (by decide +kernel))
theorem kM_L_31 : Cond.methodLink "CrowdLawsLaw" 31 yX8_pair ∈ lw_tbl := List.mem_append_right _ (List.mem_of_getElem? (i := 759) (by decide +kernel))
theorem kI_yX8_pair : Cond.instanceMethod yX8_pair ∈ lw_tbl := List.mem_append_right _ (List.mem_of_getElem? (i := 760) (by decide +kernel))
theorem kS_yX8_pair : Cond.selects RX8 yX8_pair yX8_pair ∈ lw_tbl := List.mem_append_right _ (List.mem_of_getElem? (i := 761) (by decide +kernel))
theorem kC_yX8_pair : Cond.code yX8_pair cX8_pair 5 (Option.some Jvm.ClassFile.FieldType.int) ∈ lw_tbl := List.mem_append_right _ (List.mem_of_getElem? (i := 762) (by decide +kernel))
theorem kM_L_36 : Cond.methodLink "CrowdLawsLaw" 36 yX8_all ∈ lw_tbl := List.mem_append_right _ (List.mem_of_getElem? (i := 763) (by decide +kernel))
theorem kI_yX8_all : Cond.instanceMethod yX8_all ∈ lw_tbl := List.mem_append_right _ (List.mem_of_getElem? (i := 764) (by decide +kernel))
theorem kS_yX8_all : Cond.selects RX8 yX8_all yX8_all ∈ lw_tbl := List.mem_append_right _ (List.mem_of_getElem? (i := 765) (by decide +kernel))
theorem kC_yX8_all : Cond.code yX8_all cX8_all 7 (Option.some Jvm.ClassFile.FieldType.int) ∈ lw_tbl := List.mem_append_right _ (List.mem_of_getElem? (i := 766) (by decide +kernel))
theorem kM_X8_100 : Cond.methodLink RX8 100 yX8_isShort ∈ lw_tbl := List.mem_append_right _ (List.mem_of_getElem? (i := 767) (by decide +kernel))
theorem kI_yX8_isShort : Cond.instanceMethod yX8_isShort ∈ lw_tbl := List.mem_append_right _ (List.mem_of_getElem? (i := 769) (by decide +kernel))
theorem kC_yX8_isShort : Cond.code yX8_isShort cX8_isShort 4 (Option.some Jvm.ClassFile.FieldType.boolean) ∈ lw_tbl := List.mem_append_right _ (List.mem_of_getElem? (i := 770) (by decide +kernel))
theorem kM_L_40 : Cond.methodLink "CrowdLawsLaw" 40 yX8_need ∈ lw_tbl := List.mem_append_right _ (List.mem_of_getElem? (i := 771) (by decide +kernel))
theorem kI_yX8_need : Cond.instanceMethod yX8_need ∈ lw_tbl := List.mem_append_right _ (List.mem_of_getElem? (i := 772) (by decide +kernel))
theorem kS_yX8_need : Cond.selects RX8 yX8_need yX8_need ∈ lw_tbl := List.mem_append_right _ (List.mem_of_getElem? (i := 773) (by decide +kernel))
theorem kC_yX8_need : Cond.code yX8_need cX8_need 4 (Option.some Jvm.ClassFile.FieldType.int) ∈ lw_tbl := List.mem_append_right _ (List.mem_of_getElem? (i := 774) (by decide +kernel))
theorem kM_X8_103 : Cond.methodLink RX8 103 yX8_noRule ∈ lw_tbl := List.mem_append_right _ (List.mem_of_getElem? (i := 775) (by decide +kernel))
theorem kI_yX8_noRule : Cond.instanceMethod yX8_noRule ∈ lw_tbl := List.mem_append_right _ (List.mem_of_getElem? (i := 777) (by decide +kernel))
theorem kC_yX8_noRule : Cond.code yX8_noRule cX8_noRule 2 (Option.some Jvm.ClassFile.FieldType.boolean) ∈ lw_tbl := List.mem_append_right _ (List.mem_of_getElem? (i := 778) (by decide +kernel))
theorem kM_L_44 : Cond.methodLink "CrowdLawsLaw" 44 yX8_rule ∈ lw_tbl := List.mem_append_right _ (List.mem_of_getElem? (i := 779) (by decide +kernel))
theorem kI_yX8_rule : Cond.instanceMethod yX8_rule ∈ lw_tbl := List.mem_append_right _ (List.mem_of_getElem? (i := 780) (by decide +kernel))
theorem kS_yX8_rule : Cond.selects RX8 yX8_rule yX8_rule ∈ lw_tbl := List.mem_append_right _ (List.mem_of_getElem? (i := 781) (by decide +kernel))
theorem kC_yX8_rule : Cond.code yX8_rule cX8_rule 3 (Option.some Jvm.ClassFile.FieldType.int) ∈ lw_tbl := List.mem_append_right _ (List.mem_of_getElem? (i := 782) (by decide +kernel))
theorem kM_L_48 : Cond.methodLink "CrowdLawsLaw" 48 yX8_bad ∈ lw_tbl := List.mem_append_right _ (List.mem_of_getElem? (i := 783) (by decide +kernel))
theorem kI_yX8_bad : Cond.instanceMethod yX8_bad ∈ lw_tbl := List.mem_append_right _ (List.mem_of_getElem? (i := 784) (by decide +kernel))
theorem kS_yX8_bad : Cond.selects RX8 yX8_bad yX8_bad ∈ lw_tbl := List.mem_append_right _ (List.mem_of_getElem? (i := 785) (by decide +kernel))
theorem kC_yX8_bad : Cond.code yX8_bad cX8_bad 4 (Option.some Jvm.ClassFile.FieldType.int) ∈ lw_tbl := List.mem_append_right _ (List.mem_of_getElem? (i := 786) (by decide +kernel))
theorem kM_L_52 : Cond.methodLink "CrowdLawsLaw" 52 yX8_put ∈ lw_tbl := List.mem_append_right _ (List.mem_of_getElem? (i := 787) (by decide +kernel))
theorem kI_yX8_put : Cond.instanceMethod yX8_put ∈ lw_tbl := List.mem_append_right _ (List.mem_of_getElem? (i := 788) (by decide +kernel))
theorem kS_yX8_put : Cond.selects RX8 yX8_put yX8_put ∈ lw_tbl := List.mem_append_right _ (List.mem_of_getElem? (i := 789) (by decide +kernel))
theorem kC_yX8_put : Cond.code yX8_put cX8_put 4 (Option.some Jvm.ClassFile.FieldType.int) ∈ lw_tbl := List.mem_append_right _ (List.mem_of_getElem? (i := 790) (by decide +kernel))
theorem kK_X8_114 : Cond.constantLong RX8 114 (50 : Int64) ∈ lw_tbl := List.mem_append_right _ (List.mem_of_getElem? (i := 791) (by decide +kernel))
theorem kM_X8_116 : Cond.methodLink RX8 116 yX8_sum ∈ lw_tbl := List.mem_append_right _ (List.mem_of_getElem? (i := 792) (by decide +kernel))
theorem kT_yX8_sum : Cond.static yX8_sum ∈ lw_tbl := List.mem_append_right _ (List.mem_of_getElem? (i := 793) (by decide +kernel))
theorem kC_yX8_sum : Cond.code yX8_sum cX8_sum 2 (Option.some Jvm.ClassFile.FieldType.int) ∈ lw_tbl := List.mem_append_right _ (List.mem_of_getElem? (i := 794) (by decide +kernel))
theorem kM_L_56 : Cond.methodLink "CrowdLawsLaw" 56 yX8_at ∈ lw_tbl := List.mem_append_right _ (List.mem_of_getElem? (i := 795) (by decide +kernel))
theorem kI_yX8_at : Cond.instanceMethod yX8_at ∈ lw_tbl := List.mem_append_right _ (List.mem_of_getElem? (i := 796) (by decide +kernel))
theorem kS_yX8_at : Cond.selects RX8 yX8_at yX8_at ∈ lw_tbl := List.mem_append_right _ (List.mem_of_getElem? (i := 797) (by decide +kernel))
theorem kC_yX8_at : Cond.code yX8_at cX8_at 2 (Option.some Jvm.ClassFile.FieldType.int) ∈ lw_tbl := List.mem_append_right _ (List.mem_of_getElem? (i := 798) (by decide +kernel))
theorem kM_L_60 : Cond.methodLink "CrowdLawsLaw" 60 yX8_can ∈ lw_tbl := List.mem_append_right _ (List.mem_of_getElem? (i := 799) (by decide +kernel))
theorem kI_yX8_can : Cond.instanceMethod yX8_can ∈ lw_tbl := List.mem_append_right _ (List.mem_of_getElem? (i := 800) (by decide +kernel))
theorem kS_yX8_can : Cond.selects RX8 yX8_can yX8_can ∈ lw_tbl := List.mem_append_right _ (List.mem_of_getElem? (i := 801) (by decide +kernel))
theorem kC_yX8_can : Cond.code yX8_can cX8_can 2 (Option.some Jvm.ClassFile.FieldType.int) ∈ lw_tbl := List.mem_append_right _ (List.mem_of_getElem? (i := 802) (by decide +kernel))
theorem kM_X8_106 : Cond.methodLink RX8 106 yX8_leaves ∈ lw_tbl := List.mem_append_right _ (List.mem_of_getElem? (i := 803) (by decide +kernel))
theorem kI_yX8_leaves : Cond.instanceMethod yX8_leaves ∈ lw_tbl := List.mem_append_right _ (List.mem_of_getElem? (i := 805) (by decide +kernel))
theorem kC_yX8_leaves : Cond.code yX8_leaves cX8_leaves 5 (Option.some Jvm.ClassFile.FieldType.boolean) ∈ lw_tbl := List.mem_append_right _ (List.mem_of_getElem? (i := 806) (by decide +kernel))
theorem kM_L_64 : Cond.methodLink "CrowdLawsLaw" 64 yX8_step ∈ lw_tbl := List.mem_append_right _ (List.mem_of_getElem? (i := 807) (by decide +kernel))
theorem kI_yX8_step : Cond.instanceMethod yX8_step ∈ lw_tbl := List.mem_append_right _ (List.mem_of_getElem? (i := 808) (by decide +kernel))
theorem kS_yX8_step : Cond.selects RX8 yX8_step yX8_step ∈ lw_tbl := List.mem_append_right _ (List.mem_of_getElem? (i := 809) (by decide +kernel))
theorem kC_yX8_step : Cond.code yX8_step cX8_step 4 (Option.some Jvm.ClassFile.FieldType.int) ∈ lw_tbl := List.mem_append_right _ (List.mem_of_getElem? (i := 810) (by decide +kernel))
theorem kM_X8_120 : Cond.methodLink RX8 120 yX8_goBy ∈ lw_tbl := List.mem_append_right _ (List.mem_of_getElem? (i := 811) (by decide +kernel))
theorem kI_yX8_goBy : Cond.instanceMethod yX8_goBy ∈ lw_tbl := List.mem_append_right _ (List.mem_of_getElem? (i := 813) (by decide +kernel))
theorem kC_yX8_goBy : Cond.code yX8_goBy cX8_goBy 5 (Option.none : Option Jvm.ClassFile.FieldType) ∈ lw_tbl := List.mem_append_right _ (List.mem_of_getElem? (i := 814) (by decide +kernel))
theorem kM_X8_110 : Cond.methodLink RX8 110 yX8_mapped ∈ lw_tbl := List.mem_append_right _ (List.mem_of_getElem? (i := 815) (by decide +kernel))
theorem kI_yX8_mapped : Cond.instanceMethod yX8_mapped ∈ lw_tbl := List.mem_append_right _ (List.mem_of_getElem? (i := 817) (by decide +kernel))
theorem kC_yX8_mapped : Cond.code yX8_mapped cX8_mapped 5 (Option.some Jvm.ClassFile.FieldType.int) ∈ lw_tbl := List.mem_append_right _ (List.mem_of_getElem? (i := 818) (by decide +kernel))
theorem kM_L_69 : Cond.methodLink "CrowdLawsLaw" 69 yX8_isBad ∈ lw_tbl := List.mem_append_right _ (List.mem_of_getElem? (i := 819) (by decide +kernel))
theorem kI_yX8_isBad : Cond.instanceMethod yX8_isBad ∈ lw_tbl := List.mem_append_right _ (List.mem_of_getElem? (i := 820) (by decide +kernel))
theorem kS_yX8_isBad : Cond.selects RX8 yX8_isBad yX8_isBad ∈ lw_tbl := List.mem_append_right _ (List.mem_of_getElem? (i := 821) (by decide +kernel))
theorem kC_yX8_isBad : Cond.code yX8_isBad cX8_isBad 1 (Option.some Jvm.ClassFile.FieldType.int) ∈ lw_tbl := List.mem_append_right _ (List.mem_of_getElem? (i := 822) (by decide +kernel))
theorem kM_X8_124 : Cond.methodLink RX8 124 yX8_isBadOne ∈ lw_tbl := List.mem_append_right _ (List.mem_of_getElem? (i := 823) (by decide +kernel))
theorem kI_yX8_isBadOne : Cond.instanceMethod yX8_isBadOne ∈ lw_tbl := List.mem_append_right _ (List.mem_of_getElem? (i := 825) (by decide +kernel))
theorem kC_yX8_isBadOne : Cond.code yX8_isBadOne cX8_isBadOne 6 (Option.some Jvm.ClassFile.FieldType.boolean) ∈ lw_tbl := List.mem_append_right _ (List.mem_of_getElem? (i := 826) (by decide +kernel))
theorem kM_L_73 : Cond.methodLink "CrowdLawsLaw" 73 yX8_doomed ∈ lw_tbl := List.mem_append_right _ (List.mem_of_getElem? (i := 827) (by decide +kernel))
theorem kI_yX8_doomed : Cond.instanceMethod yX8_doomed ∈ lw_tbl := List.mem_append_right _ (List.mem_of_getElem? (i := 828) (by decide +kernel))
theorem kS_yX8_doomed : Cond.selects RX8 yX8_doomed yX8_doomed ∈ lw_tbl := List.mem_append_right _ (List.mem_of_getElem? (i := 829) (by decide +kernel))
theorem kC_yX8_doomed : Cond.code yX8_doomed cX8_doomed 1 (Option.some Jvm.ClassFile.FieldType.int) ∈ lw_tbl := List.mem_append_right _ (List.mem_of_getElem? (i := 830) (by decide +kernel))
theorem kM_X8_138 : Cond.methodLink RX8 138 yX8_noSearch ∈ lw_tbl := List.mem_append_right _ (List.mem_of_getElem? (i := 831) (by decide +kernel))
theorem kI_yX8_noSearch : Cond.instanceMethod yX8_noSearch ∈ lw_tbl := List.mem_append_right _ (List.mem_of_getElem? (i := 833) (by decide +kernel))
theorem kC_yX8_noSearch : Cond.code yX8_noSearch cX8_noSearch 1 (Option.some Jvm.ClassFile.FieldType.int) ∈ lw_tbl := List.mem_append_right _ (List.mem_of_getElem? (i := 834) (by decide +kernel))
theorem kM_X8_142 : Cond.methodLink RX8 142 yX8_isDoomed ∈ lw_tbl := List.mem_append_right _ (List.mem_of_getElem? (i := 835) (by decide +kernel))
theorem kI_yX8_isDoomed : Cond.instanceMethod yX8_isDoomed ∈ lw_tbl := List.mem_append_right _ (List.mem_of_getElem? (i := 837) (by decide +kernel))
theorem kC_yX8_isDoomed : Cond.code yX8_isDoomed cX8_isDoomed 4 (Option.some Jvm.ClassFile.FieldType.boolean) ∈ lw_tbl := List.mem_append_right _ (List.mem_of_getElem? (i := 838) (by decide +kernel))
theorem kM_X8_131 : Cond.methodLink RX8 131 yX8_isOver ∈ lw_tbl := List.mem_append_right _ (List.mem_of_getElem? (i := 839) (by decide +kernel))
theorem kT_yX8_isOver : Cond.static yX8_isOver ∈ lw_tbl := List.mem_append_right _ (List.mem_of_getElem? (i := 840) (by decide +kernel))
theorem kC_yX8_isOver : Cond.code yX8_isOver cX8_isOver 5 (Option.some Jvm.ClassFile.FieldType.boolean) ∈ lw_tbl := List.mem_append_right _ (List.mem_of_getElem? (i := 841) (by decide +kernel))
theorem kM_L_77 : Cond.methodLink "CrowdLawsLaw" 77 yX8_search ∈ lw_tbl := List.mem_append_right _ (List.mem_of_getElem? (i := 842) (by decide +kernel))
theorem kI_yX8_search : Cond.instanceMethod yX8_search ∈ lw_tbl := List.mem_append_right _ (List.mem_of_getElem? (i := 843) (by decide +kernel))
theorem kS_yX8_search : Cond.selects RX8 yX8_search yX8_search ∈ lw_tbl := List.mem_append_right _ (List.mem_of_getElem? (i := 844) (by decide +kernel))
theorem kC_yX8_search : Cond.code yX8_search cX8_search 4 (Option.some Jvm.ClassFile.FieldType.int) ∈ lw_tbl := List.mem_append_right _ (List.mem_of_getElem? (i := 845) (by decide +kernel))
theorem kM_X8_152 : Cond.methodLink RX8 152 yX8_take ∈ lw_tbl := List.mem_append_right _ (List.mem_of_getElem? (i := 846) (by decide +kernel))
theorem kI_yX8_take : Cond.instanceMethod yX8_take ∈ lw_tbl := List.mem_append_right _ (List.mem_of_getElem? (i := 848) (by decide +kernel))
theorem kC_yX8_take : Cond.code yX8_take cX8_take 3 (Option.none : Option Jvm.ClassFile.FieldType) ∈ lw_tbl := List.mem_append_right _ (List.mem_of_getElem? (i := 849) (by decide +kernel))
theorem kM_X8_175 : Cond.methodLink RX8 175 yX8_keep ∈ lw_tbl := List.mem_append_right _ (List.mem_of_getElem? (i := 850) (by decide +kernel))
theorem kI_yX8_keep : Cond.instanceMethod yX8_keep ∈ lw_tbl := List.mem_append_right _ (List.mem_of_getElem? (i := 852) (by decide +kernel))
theorem kC_yX8_keep : Cond.code yX8_keep cX8_keep 2 (Option.none : Option Jvm.ClassFile.FieldType) ∈ lw_tbl := List.mem_append_right _ (List.mem_of_getElem? (i := 853) (by decide +kernel))
theorem kM_X8_178 : Cond.methodLink RX8 178 yX8_round ∈ lw_tbl := List.mem_append_right _ (List.mem_of_getElem? (i := 854) (by decide +kernel))
theorem kI_yX8_round : Cond.instanceMethod yX8_round ∈ lw_tbl := List.mem_append_right _ (List.mem_of_getElem? (i := 856) (by decide +kernel))
theorem kC_yX8_round : Cond.code yX8_round cX8_round 8 (Option.some Jvm.ClassFile.FieldType.boolean) ∈ lw_tbl := List.mem_append_right _ (List.mem_of_getElem? (i := 857) (by decide +kernel))
theorem kM_X8_165 : Cond.methodLink RX8 165 yX8_shared ∈ lw_tbl := List.mem_append_right _ (List.mem_of_getElem? (i := 858) (by decide +kernel))
theorem kI_yX8_shared : Cond.instanceMethod yX8_shared ∈ lw_tbl := List.mem_append_right _ (List.mem_of_getElem? (i := 860) (by decide +kernel))
theorem kC_yX8_shared : Cond.code yX8_shared cX8_shared 8 (Option.none : Option Jvm.ClassFile.FieldType) ∈ lw_tbl := List.mem_append_right _ (List.mem_of_getElem? (i := 861) (by decide +kernel))
theorem kM_X8_148 : Cond.methodLink RX8 148 yX8_wanted ∈ lw_tbl := List.mem_append_right _ (List.mem_of_getElem? (i := 862) (by decide +kernel))
theorem kI_yX8_wanted : Cond.instanceMethod yX8_wanted ∈ lw_tbl := List.mem_append_right _ (List.mem_of_getElem? (i := 864) (by decide +kernel))
theorem kC_yX8_wanted : Cond.code yX8_wanted cX8_wanted 5 (Option.some Jvm.ClassFile.FieldType.int) ∈ lw_tbl := List.mem_append_right _ (List.mem_of_getElem? (i := 865) (by decide +kernel))
theorem kM_X8_155 : Cond.methodLink RX8 155 yX8_isLast ∈ lw_tbl := List.mem_append_right _ (List.mem_of_getElem? (i := 866) (by decide +kernel))
theorem kI_yX8_isLast : Cond.instanceMethod yX8_isLast ∈ lw_tbl := List.mem_append_right _ (List.mem_of_getElem? (i := 868) (by decide +kernel))
theorem kC_yX8_isLast : Cond.code yX8_isLast cX8_isLast 5 (Option.some Jvm.ClassFile.FieldType.boolean) ∈ lw_tbl := List.mem_append_right _ (List.mem_of_getElem? (i := 869) (by decide +kernel))
theorem kM_X8_159 : Cond.methodLink RX8 159 yX8_left ∈ lw_tbl := List.mem_append_right _ (List.mem_of_getElem? (i := 870) (by decide +kernel))
theorem kI_yX8_left : Cond.instanceMethod yX8_left ∈ lw_tbl := List.mem_append_right _ (List.mem_of_getElem? (i := 872) (by decide +kernel))
theorem kC_yX8_left : Cond.code yX8_left cX8_left 6 (Option.some Jvm.ClassFile.FieldType.int) ∈ lw_tbl := List.mem_append_right _ (List.mem_of_getElem? (i := 873) (by decide +kernel))
theorem kM_X8_162 : Cond.methodLink RX8 162 yX8_counted ∈ lw_tbl := List.mem_append_right _ (List.mem_of_getElem? (i := 874) (by decide +kernel))
theorem kI_yX8_counted : Cond.instanceMethod yX8_counted ∈ lw_tbl := List.mem_append_right _ (List.mem_of_getElem? (i := 876) (by decide +kernel))
theorem kC_yX8_counted : Cond.code yX8_counted cX8_counted 4 (Option.some Jvm.ClassFile.FieldType.boolean) ∈ lw_tbl := List.mem_append_right _ (List.mem_of_getElem? (i := 877) (by decide +kernel))
theorem kM_X8_169 : Cond.methodLink RX8 169 yX8_plain ∈ lw_tbl := List.mem_append_right _ (List.mem_of_getElem? (i := 878) (by decide +kernel))
theorem kI_yX8_plain : Cond.instanceMethod yX8_plain ∈ lw_tbl := List.mem_append_right _ (List.mem_of_getElem? (i := 880) (by decide +kernel))
theorem kC_yX8_plain : Cond.code yX8_plain cX8_plain 5 (Option.none : Option Jvm.ClassFile.FieldType) ∈ lw_tbl := List.mem_append_right _ (List.mem_of_getElem? (i := 881) (by decide +kernel))
theorem kM_X8_182 : Cond.methodLink RX8 182 yX8_order ∈ lw_tbl := List.mem_append_right _ (List.mem_of_getElem? (i := 882) (by decide +kernel))
theorem kI_yX8_order : Cond.instanceMethod yX8_order ∈ lw_tbl := List.mem_append_right _ (List.mem_of_getElem? (i := 884) (by decide +kernel))
theorem kC_yX8_order : Cond.code yX8_order cX8_order 5 (Option.none : Option Jvm.ClassFile.FieldType) ∈ lw_tbl := List.mem_append_right _ (List.mem_of_getElem? (i := 885) (by decide +kernel))
theorem kM_X8_172 : Cond.methodLink RX8 172 yX8_isAhead ∈ lw_tbl := List.mem_append_right _ (List.mem_of_getElem? (i := 886) (by decide +kernel))
theorem kI_yX8_isAhead : Cond.instanceMethod yX8_isAhead ∈ lw_tbl := List.mem_append_right _ (List.mem_of_getElem? (i := 888) (by decide +kernel))
theorem kC_yX8_isAhead : Cond.code yX8_isAhead cX8_isAhead 6 (Option.some Jvm.ClassFile.FieldType.boolean) ∈ lw_tbl := List.mem_append_right _ (List.mem_of_getElem? (i := 889) (by decide +kernel))
theorem kM_L_81 : Cond.methodLink "CrowdLawsLaw" 81 yX8_bases ∈ lw_tbl := List.mem_append_right _ (List.mem_of_getElem? (i := 890) (by decide +kernel))
theorem kI_yX8_bases : Cond.instanceMethod yX8_bases ∈ lw_tbl := List.mem_append_right _ (List.mem_of_getElem? (i := 891) (by decide +kernel))
theorem kS_yX8_bases : Cond.selects RX8 yX8_bases yX8_bases ∈ lw_tbl := List.mem_append_right _ (List.mem_of_getElem? (i := 892) (by decide +kernel))
theorem kC_yX8_bases : Cond.code yX8_bases cX8_bases 1 (Option.some Jvm.ClassFile.FieldType.int) ∈ lw_tbl := List.mem_append_right _ (List.mem_of_getElem? (i := 893) (by decide +kernel))
theorem kM_L_85 : Cond.methodLink "CrowdLawsLaw" 85 yX8_base ∈ lw_tbl := List.mem_append_right _ (List.mem_of_getElem? (i := 894) (by decide +kernel))
theorem kI_yX8_base : Cond.instanceMethod yX8_base ∈ lw_tbl := List.mem_append_right _ (List.mem_of_getElem? (i := 895) (by decide +kernel))
theorem kS_yX8_base : Cond.selects RX8 yX8_base yX8_base ∈ lw_tbl := List.mem_append_right _ (List.mem_of_getElem? (i := 896) (by decide +kernel))
theorem kC_yX8_base : Cond.code yX8_base cX8_base 3 (Option.some Jvm.ClassFile.FieldType.int) ∈ lw_tbl := List.mem_append_right _ (List.mem_of_getElem? (i := 897) (by decide +kernel))
theorem kM_L_89 : Cond.methodLink "CrowdLawsLaw" 89 yX8_least ∈ lw_tbl := List.mem_append_right _ (List.mem_of_getElem? (i := 898) (by decide +kernel))
theorem kI_yX8_least : Cond.instanceMethod yX8_least ∈ lw_tbl := List.mem_append_right _ (List.mem_of_getElem? (i := 899) (by decide +kernel))
theorem kS_yX8_least : Cond.selects RX8 yX8_least yX8_least ∈ lw_tbl := List.mem_append_right _ (List.mem_of_getElem? (i := 900) (by decide +kernel))
theorem kC_yX8_least : Cond.code yX8_least cX8_least 5 (Option.some Jvm.ClassFile.FieldType.int) ∈ lw_tbl := List.mem_append_right _ (List.mem_of_getElem? (i := 901) (by decide +kernel))
theorem kM_L_93 : Cond.methodLink "CrowdLawsLaw" 93 yX8_reach ∈ lw_tbl := List.mem_append_right _ (List.mem_of_getElem? (i := 902) (by decide +kernel))
theorem kI_yX8_reach : Cond.instanceMethod yX8_reach ∈ lw_tbl := List.mem_append_right _ (List.mem_of_getElem? (i := 903) (by decide +kernel))
theorem kS_yX8_reach : Cond.selects RX8 yX8_reach yX8_reach ∈ lw_tbl := List.mem_append_right _ (List.mem_of_getElem? (i := 904) (by decide +kernel))
theorem kC_yX8_reach : Cond.code yX8_reach cX8_reach 4 (Option.some Jvm.ClassFile.FieldType.int) ∈ lw_tbl := List.mem_append_right _ (List.mem_of_getElem? (i := 905) (by decide +kernel))
theorem kK_X8_200 : Cond.constantLong RX8 200 (8 : Int64) ∈ lw_tbl := List.mem_append_right _ (List.mem_of_getElem? (i := 906) (by decide +kernel))
theorem kM_X8_202 : Cond.methodLink RX8 202 yX8_goThrough ∈ lw_tbl := List.mem_append_right _ (List.mem_of_getElem? (i := 907) (by decide +kernel))
theorem kI_yX8_goThrough : Cond.instanceMethod yX8_goThrough ∈ lw_tbl := List.mem_append_right _ (List.mem_of_getElem? (i := 909) (by decide +kernel))
theorem kC_yX8_goThrough : Cond.code yX8_goThrough cX8_goThrough 6 (Option.none : Option Jvm.ClassFile.FieldType) ∈ lw_tbl := List.mem_append_right _ (List.mem_of_getElem? (i := 910) (by decide +kernel))
theorem kM_X8_188 : Cond.methodLink RX8 188 yX8_crowdOf ∈ lw_tbl := List.mem_append_right _ (List.mem_of_getElem? (i := 911) (by decide +kernel))
theorem kI_yX8_crowdOf : Cond.instanceMethod yX8_crowdOf ∈ lw_tbl := List.mem_append_right _ (List.mem_of_getElem? (i := 913) (by decide +kernel))
theorem kC_yX8_crowdOf : Cond.code yX8_crowdOf cX8_crowdOf 5 (Option.none : Option Jvm.ClassFile.FieldType) ∈ lw_tbl := List.mem_append_right _ (List.mem_of_getElem? (i := 914) (by decide +kernel))
theorem kM_X8_192 : Cond.methodLink RX8 192 yX8_isStart ∈ lw_tbl := List.mem_append_right _ (List.mem_of_getElem? (i := 915) (by decide +kernel))
theorem kI_yX8_isStart : Cond.instanceMethod yX8_isStart ∈ lw_tbl := List.mem_append_right _ (List.mem_of_getElem? (i := 917) (by decide +kernel))
theorem kC_yX8_isStart : Cond.code yX8_isStart cX8_isStart 4 (Option.some Jvm.ClassFile.FieldType.boolean) ∈ lw_tbl := List.mem_append_right _ (List.mem_of_getElem? (i := 918) (by decide +kernel))
theorem kK_X8_195 : Cond.constant RX8 195 (1000000 : Int32) ∈ lw_tbl := List.mem_append_right _ (List.mem_of_getElem? (i := 919) (by decide +kernel))
theorem kM_X8_196 : Cond.methodLink RX8 196 yX8_codeOf ∈ lw_tbl := List.mem_append_right _ (List.mem_of_getElem? (i := 920) (by decide +kernel))
theorem kT_yX8_codeOf : Cond.static yX8_codeOf ∈ lw_tbl := List.mem_append_right _ (List.mem_of_getElem? (i := 921) (by decide +kernel))
theorem kC_yX8_codeOf : Cond.code yX8_codeOf cX8_codeOf 3 (Option.some Jvm.ClassFile.FieldType.int) ∈ lw_tbl := List.mem_append_right _ (List.mem_of_getElem? (i := 922) (by decide +kernel))
theorem kM_L_97 : Cond.methodLink "CrowdLawsLaw" 97 yX8_steps ∈ lw_tbl := List.mem_append_right _ (List.mem_of_getElem? (i := 923) (by decide +kernel))
theorem kI_yX8_steps : Cond.instanceMethod yX8_steps ∈ lw_tbl := List.mem_append_right _ (List.mem_of_getElem? (i := 924) (by decide +kernel))
theorem kS_yX8_steps : Cond.selects RX8 yX8_steps yX8_steps ∈ lw_tbl := List.mem_append_right _ (List.mem_of_getElem? (i := 925) (by decide +kernel))
theorem kC_yX8_steps : Cond.code yX8_steps cX8_steps 3 (Option.some Jvm.ClassFile.FieldType.int) ∈ lw_tbl := List.mem_append_right _ (List.mem_of_getElem? (i := 926) (by decide +kernel))
theorem kM_X8_206 : Cond.methodLink RX8 206 yX8_nearest ∈ lw_tbl := List.mem_append_right _ (List.mem_of_getElem? (i := 927) (by decide +kernel))
theorem kI_yX8_nearest : Cond.instanceMethod yX8_nearest ∈ lw_tbl := List.mem_append_right _ (List.mem_of_getElem? (i := 929) (by decide +kernel))
theorem kC_yX8_nearest : Cond.code yX8_nearest cX8_nearest 3 (Option.some Jvm.ClassFile.FieldType.int) ∈ lw_tbl := List.mem_append_right _ (List.mem_of_getElem? (i := 930) (by decide +kernel))
theorem kM_L_101 : Cond.methodLink "CrowdLawsLaw" 101 yX8_run ∈ lw_tbl := List.mem_append_right _ (List.mem_of_getElem? (i := 931) (by decide +kernel))
theorem kI_yX8_run : Cond.instanceMethod yX8_run ∈ lw_tbl := List.mem_append_right _ (List.mem_of_getElem? (i := 932) (by decide +kernel))
theorem kS_yX8_run : Cond.selects RX8 yX8_run yX8_run ∈ lw_tbl := List.mem_append_right _ (List.mem_of_getElem? (i := 933) (by decide +kernel))
theorem kC_yX8_run : Cond.code yX8_run cX8_run 9 (Option.some Jvm.ClassFile.FieldType.int) ∈ lw_tbl := List.mem_append_right _ (List.mem_of_getElem? (i := 934) (by decide +kernel))
theorem kM_L_105 : Cond.methodLink "CrowdLawsLaw" 105 yX8_doomedOf ∈ lw_tbl := List.mem_append_right _ (List.mem_of_getElem? (i := 935) (by decide +kernel))
theorem kI_yX8_doomedOf : Cond.instanceMethod yX8_doomedOf ∈ lw_tbl := List.mem_append_right _ (List.mem_of_getElem? (i := 936) (by decide +kernel))
theorem kS_yX8_doomedOf : Cond.selects RX8 yX8_doomedOf yX8_doomedOf ∈ lw_tbl := List.mem_append_right _ (List.mem_of_getElem? (i := 937) (by decide +kernel))
theorem kC_yX8_doomedOf : Cond.code yX8_doomedOf cX8_doomedOf 4 (Option.some Jvm.ClassFile.FieldType.int) ∈ lw_tbl := List.mem_append_right _ (List.mem_of_getElem? (i := 938) (by decide +kernel))
theorem kM_L_109 : Cond.methodLink "CrowdLawsLaw" 109 yX8_total ∈ lw_tbl := List.mem_append_right _ (List.mem_of_getElem? (i := 939) (by decide +kernel))
theorem kI_yX8_total : Cond.instanceMethod yX8_total ∈ lw_tbl := List.mem_append_right _ (List.mem_of_getElem? (i := 940) (by decide +kernel))
theorem kS_yX8_total : Cond.selects RX8 yX8_total yX8_total ∈ lw_tbl := List.mem_append_right _ (List.mem_of_getElem? (i := 941) (by decide +kernel))
theorem kC_yX8_total : Cond.code yX8_total cX8_total 2 (Option.some Jvm.ClassFile.FieldType.int) ∈ lw_tbl := List.mem_append_right _ (List.mem_of_getElem? (i := 942) (by decide +kernel))
theorem kS_yX7_forgetFindings : Cond.selects RX7 yX7_forgetFindings yX7_forgetFindings ∈ lw_tbl := List.mem_append_left _ (List.mem_of_getElem? (i := 0) (by decide +kernel))
theorem kS_yX7_addRule : Cond.selects RX7 yX7_addRule yX7_addRule ∈ lw_tbl := List.mem_append_left _ (List.mem_of_getElem? (i := 1) (by decide +kernel))
theorem kS_yX6_setGoals : Cond.selects RX6 yX6_setGoals yX6_setGoals ∈ lw_tbl := List.mem_append_left _ (List.mem_of_getElem? (i := 2) (by decide +kernel))
theorem kS_yX6_leavers : Cond.selects RX6 yX6_leavers yX6_leavers ∈ lw_tbl := List.mem_append_left _ (List.mem_of_getElem? (i := 3) (by decide +kernel))
theorem kS_yX0_takeBadOnes : Cond.selects RX0 yX0_takeBadOnes yX0_takeBadOnes ∈ lw_tbl := List.mem_append_left _ (List.mem_of_getElem? (i := 4) (by decide +kernel))
theorem kS_yX0_goRound : Cond.selects RX0 yX0_goRound yX0_goRound ∈ lw_tbl := List.mem_append_left _ (List.mem_of_getElem? (i := 5) (by decide +kernel))
theorem kS_yX0_findSums : Cond.selects RX0 yX0_findSums yX0_findSums ∈ lw_tbl := List.mem_append_left _ (List.mem_of_getElem? (i := 6) (by decide +kernel))
theorem kS_yX6_comers : Cond.selects RX6 yX6_comers yX6_comers ∈ lw_tbl := List.mem_append_left _ (List.mem_of_getElem? (i := 7) (by decide +kernel))
theorem kS_yX6_isGoal : Cond.selects RX6 yX6_isGoal yX6_isGoal ∈ lw_tbl := List.mem_append_left _ (List.mem_of_getElem? (i := 8) (by decide +kernel))
theorem kS_yX0_keepOld : Cond.selects RX0 yX0_keepOld yX0_keepOld ∈ lw_tbl := List.mem_append_left _ (List.mem_of_getElem? (i := 9) (by decide +kernel))
theorem kS_yX0_bringNew : Cond.selects RX0 yX0_bringNew yX0_bringNew ∈ lw_tbl := List.mem_append_left _ (List.mem_of_getElem? (i := 10) (by decide +kernel))
theorem kS_yX0_setOut : Cond.selects RX0 yX0_setOut yX0_setOut ∈ lw_tbl := List.mem_append_left _ (List.mem_of_getElem? (i := 11) (by decide +kernel))
theorem kS_yX0_fillFrom : Cond.selects RX0 yX0_fillFrom yX0_fillFrom ∈ lw_tbl := List.mem_append_left _ (List.mem_of_getElem? (i := 12) (by decide +kernel))
theorem kS_yX4_listCrowds : Cond.selects RX4 yX4_listCrowds yX4_listCrowds ∈ lw_tbl := List.mem_append_left _ (List.mem_of_getElem? (i := 13) (by decide +kernel))
theorem kS_yX4_codeOf : Cond.selects RX4 yX4_codeOf yX4_codeOf ∈ lw_tbl := List.mem_append_left _ (List.mem_of_getElem? (i := 14) (by decide +kernel))
theorem kS_yX4_advance : Cond.selects RX4 yX4_advance yX4_advance ∈ lw_tbl := List.mem_append_left _ (List.mem_of_getElem? (i := 15) (by decide +kernel))
theorem kS_yX4_beginAtStart : Cond.selects RX4 yX4_beginAtStart yX4_beginAtStart ∈ lw_tbl := List.mem_append_left _ (List.mem_of_getElem? (i := 16) (by decide +kernel))
theorem kS_yX4_decode : Cond.selects RX4 yX4_decode yX4_decode ∈ lw_tbl := List.mem_append_left _ (List.mem_of_getElem? (i := 17) (by decide +kernel))
theorem kS_yX4_come : Cond.selects RX4 yX4_come yX4_come ∈ lw_tbl := List.mem_append_left _ (List.mem_of_getElem? (i := 18) (by decide +kernel))
theorem kS_yX4_isPlace : Cond.selects RX4 yX4_isPlace yX4_isPlace ∈ lw_tbl := List.mem_append_left _ (List.mem_of_getElem? (i := 19) (by decide +kernel))
theorem kS_yX4_goOn : Cond.selects RX4 yX4_goOn yX4_goOn ∈ lw_tbl := List.mem_append_left _ (List.mem_of_getElem? (i := 20) (by decide +kernel))
theorem kS_yX4_levelOf : Cond.selects RX4 yX4_levelOf yX4_levelOf ∈ lw_tbl := List.mem_append_left _ (List.mem_of_getElem? (i := 21) (by decide +kernel))
theorem kS_yX4_codeAt : Cond.selects RX4 yX4_codeAt yX4_codeAt ∈ lw_tbl := List.mem_append_left _ (List.mem_of_getElem? (i := 22) (by decide +kernel))
theorem kS_yX4_placeOf : Cond.selects RX4 yX4_placeOf yX4_placeOf ∈ lw_tbl := List.mem_append_left _ (List.mem_of_getElem? (i := 23) (by decide +kernel))
theorem kS_yX4_findFewest : Cond.selects RX4 yX4_findFewest yX4_findFewest ∈ lw_tbl := List.mem_append_left _ (List.mem_of_getElem? (i := 24) (by decide +kernel))
theorem kS_yX4_markLeading : Cond.selects RX4 yX4_markLeading yX4_markLeading ∈ lw_tbl := List.mem_append_left _ (List.mem_of_getElem? (i := 25) (by decide +kernel))
theorem kS_yX4_firstLeading : Cond.selects RX4 yX4_firstLeading yX4_firstLeading ∈ lw_tbl := List.mem_append_left _ (List.mem_of_getElem? (i := 26) (by decide +kernel))
theorem kS_yX4_choosePath : Cond.selects RX4 yX4_choosePath yX4_choosePath ∈ lw_tbl := List.mem_append_left _ (List.mem_of_getElem? (i := 27) (by decide +kernel))
theorem kS_yX8_noState : Cond.selects RX8 yX8_noState yX8_noState ∈ lw_tbl := List.mem_append_left _ (List.mem_of_getElem? (i := 28) (by decide +kernel))
theorem kS_yX8_newRule : Cond.selects RX8 yX8_newRule yX8_newRule ∈ lw_tbl := List.mem_append_left _ (List.mem_of_getElem? (i := 29) (by decide +kernel))
theorem kS_yX8_isShort : Cond.selects RX8 yX8_isShort yX8_isShort ∈ lw_tbl := List.mem_append_left _ (List.mem_of_getElem? (i := 30) (by decide +kernel))
theorem kS_yX8_noRule : Cond.selects RX8 yX8_noRule yX8_noRule ∈ lw_tbl := List.mem_append_left _ (List.mem_of_getElem? (i := 31) (by decide +kernel))
theorem kS_yX8_leaves : Cond.selects RX8 yX8_leaves yX8_leaves ∈ lw_tbl := List.mem_append_left _ (List.mem_of_getElem? (i := 32) (by decide +kernel))
theorem kS_yX8_goBy : Cond.selects RX8 yX8_goBy yX8_goBy ∈ lw_tbl := List.mem_append_left _ (List.mem_of_getElem? (i := 33) (by decide +kernel))
theorem kS_yX8_mapped : Cond.selects RX8 yX8_mapped yX8_mapped ∈ lw_tbl := List.mem_append_left _ (List.mem_of_getElem? (i := 34) (by decide +kernel))
theorem kS_yX8_isBadOne : Cond.selects RX8 yX8_isBadOne yX8_isBadOne ∈ lw_tbl := List.mem_append_left _ (List.mem_of_getElem? (i := 35) (by decide +kernel))
theorem kS_yX8_noSearch : Cond.selects RX8 yX8_noSearch yX8_noSearch ∈ lw_tbl := List.mem_append_left _ (List.mem_of_getElem? (i := 36) (by decide +kernel))
theorem kS_yX8_isDoomed : Cond.selects RX8 yX8_isDoomed yX8_isDoomed ∈ lw_tbl := List.mem_append_left _ (List.mem_of_getElem? (i := 37) (by decide +kernel))
theorem kS_yX8_take : Cond.selects RX8 yX8_take yX8_take ∈ lw_tbl := List.mem_append_left _ (List.mem_of_getElem? (i := 38) (by decide +kernel))
theorem kS_yX8_keep : Cond.selects RX8 yX8_keep yX8_keep ∈ lw_tbl := List.mem_append_left _ (List.mem_of_getElem? (i := 39) (by decide +kernel))
theorem kS_yX8_round : Cond.selects RX8 yX8_round yX8_round ∈ lw_tbl := List.mem_append_left _ (List.mem_of_getElem? (i := 40) (by decide +kernel))
theorem kS_yX8_shared : Cond.selects RX8 yX8_shared yX8_shared ∈ lw_tbl := List.mem_append_left _ (List.mem_of_getElem? (i := 41) (by decide +kernel))
theorem kS_yX8_wanted : Cond.selects RX8 yX8_wanted yX8_wanted ∈ lw_tbl := List.mem_append_left _ (List.mem_of_getElem? (i := 42) (by decide +kernel))
theorem kS_yX8_isLast : Cond.selects RX8 yX8_isLast yX8_isLast ∈ lw_tbl := List.mem_append_left _ (List.mem_of_getElem? (i := 43) (by decide +kernel))
theorem kS_yX8_left : Cond.selects RX8 yX8_left yX8_left ∈ lw_tbl := List.mem_append_left _ (List.mem_of_getElem? (i := 44) (by decide +kernel))
theorem kS_yX8_counted : Cond.selects RX8 yX8_counted yX8_counted ∈ lw_tbl := List.mem_append_left _ (List.mem_of_getElem? (i := 45) (by decide +kernel))
theorem kS_yX8_plain : Cond.selects RX8 yX8_plain yX8_plain ∈ lw_tbl := List.mem_append_left _ (List.mem_of_getElem? (i := 46) (by decide +kernel))
theorem kS_yX8_order : Cond.selects RX8 yX8_order yX8_order ∈ lw_tbl := List.mem_append_left _ (List.mem_of_getElem? (i := 47) (by decide +kernel))
theorem kS_yX8_isAhead : Cond.selects RX8 yX8_isAhead yX8_isAhead ∈ lw_tbl := List.mem_append_left _ (List.mem_of_getElem? (i := 48) (by decide +kernel))
theorem kS_yX8_goThrough : Cond.selects RX8 yX8_goThrough yX8_goThrough ∈ lw_tbl := List.mem_append_left _ (List.mem_of_getElem? (i := 49) (by decide +kernel))
theorem kS_yX8_crowdOf : Cond.selects RX8 yX8_crowdOf yX8_crowdOf ∈ lw_tbl := List.mem_append_left _ (List.mem_of_getElem? (i := 50) (by decide +kernel))
theorem kS_yX8_isStart : Cond.selects RX8 yX8_isStart yX8_isStart ∈ lw_tbl := List.mem_append_left _ (List.mem_of_getElem? (i := 51) (by decide +kernel))
theorem kS_yX8_nearest : Cond.selects RX8 yX8_nearest yX8_nearest ∈ lw_tbl := List.mem_append_left _ (List.mem_of_getElem? (i := 52) (by decide +kernel))
end
section
/-! the words of the tables: those that every callee may be handed, and those that hold of each warmed state -/
def isNest : Cond → Bool
  | .fieldLinkNest _ _ _ _ _ _ => true
  | .methodLinkNest _ _ _ _ => true
  | .arrayOver (.object _) => true
  | _ => false
def lw_w : List Cond := lw_tbl.filter (fun w => goodWord w || isNest w)
theorem lgw {w : Cond} (h : w ∈ lw_tbl) (hg : (goodWord w || isNest w) = true) : w ∈ lw_w := List.mem_filter.mpr ⟨h, hg⟩
def lw_good : List Cond := lw_w.filter goodWord
def lw_nest : List Cond := lw_w.filter isNest
theorem lg_all : ∀ w ∈ lw_good, goodWord w = true := fun w h => (List.mem_filter.mp h).2
theorem lg_tbl {w : Cond} (h : w ∈ lw_good) : w ∈ lw_w := (List.mem_filter.mp h).1
theorem lw_nest_all : lw_nest.all isNest = true := List.all_eq_true.mpr (fun w h => (List.mem_filter.mp h).2)
theorem nest_warm {w : Cond} (h : isNest w = true) {s U : State} (hW : s.WarmedH U.vm) (hw : w.before #[] s = true) : w.before #[] U = true := by
  cases w <;> try (simp [isNest] at h; done)
  · exact va_Nw.warmM hW hw
  · exact va_Nw.warmF hW hw
  · rename_i t
    cases t <;> try (simp [isNest] at h; done)
    exact va_AO.moved hW.alike hw
theorem nest_same {w : Cond} (h : isNest w = true) {A : Array Value} {s U : State} (hv : s.vm = U.vm) (hw : w.before #[] s = true) : w.before A U = true := by
  cases w <;> try (simp [isNest] at h; done)
  · exact va_tabs rfl hv hw
  · exact va_tabs rfl hv hw
  · rename_i t
    cases t <;> try (simp [isNest] at h; done)
    exact va_AO.use (va_AO.moved (by rw [hv]; exact Vm.Alike.refl _) hw)
abbrev Gt : Type := va_G × (Nat → ClassId)
abbrev tyG (G : Gt) : List (ClassId × FieldType) := [(G.2 0, .int), (G.2 1, .boolean), (G.2 2, .object "CrowdLaws$Crowd"), (G.2 3, .object "CrowdLaws$Rule")]
def KK (G : Gt) (U : State) : Prop := va_K G.1 vwCl (tyG G) U ∧ ∀ w ∈ lw_nest, w.before #[] U = true
theorem KK.warm {G : Gt} {s U : State} (h : KK G s) (hW : s.WarmedH U.vm) : KK G U := ⟨va_K.moved hW.alike h.1, fun w hw => nest_warm (List.all_eq_true.mp lw_nest_all w hw) hW (h.2 w hw)⟩
theorem KK.same {G : Gt} {s U : State} (h : KK G s) (hv : s.vm = U.vm) : KK G U := ⟨va_K.moved (by rw [hv]; exact Vm.Alike.refl _) h.1, fun w hw => nest_same (List.all_eq_true.mp lw_nest_all w hw) hv (h.2 w hw)⟩
theorem KK.tbl {G : Gt} {s : State} {args : Array Value} (h : KK G s) (hg : ∀ w ∈ lw_good, w.before args s = true) : ∀ w ∈ lw_w, w.before args s = true := fun w hw => by
  cases hq : goodWord w with
  | true => exact hg w (List.mem_filter.mpr ⟨hw, hq⟩)
  | false =>
    have hn : w ∈ lw_nest := List.mem_filter.mpr ⟨hw, by have := (List.mem_filter.mp hw).2; rw [hq] at this; simpa using this⟩
    exact nest_same (List.all_eq_true.mp lw_nest_all w hn) rfl (h.2 w hn)
theorem goodIn_c {y : MethodName} {b : ByteArray} {nL : Nat} {ret : Option FieldType} (hc : Cond.code y b nL ret ∈ lw_w) : GoodIn lw_w (.code y b nL ret :: lw_good) := by
  intro w hw
  rcases List.mem_cons.mp hw with rfl | hw
  · exact ⟨hc, Or.inl rfl⟩
  · exact ⟨lg_tbl hw, good_of_word (lg_all _ hw)⟩
theorem gN_L : Cond.initialized "CrowdLawsLaw" ∈ lw_w := lgw kN_L rfl
theorem gN_X7 : Cond.initialized RX7 ∈ lw_w := lgw kN_X7 rfl
theorem gN_X5 : Cond.initialized RX5 ∈ lw_w := lgw kN_X5 rfl
theorem gN_X3 : Cond.initialized RX3 ∈ lw_w := lgw kN_X3 rfl
theorem gN_X6 : Cond.initialized RX6 ∈ lw_w := lgw kN_X6 rfl
theorem gN_X0 : Cond.initialized RX0 ∈ lw_w := lgw kN_X0 rfl
theorem gN_X2 : Cond.initialized RX2 ∈ lw_w := lgw kN_X2 rfl
theorem gN_X1 : Cond.initialized RX1 ∈ lw_w := lgw kN_X1 rfl
theorem gN_X4 : Cond.initialized RX4 ∈ lw_w := lgw kN_X4 rfl
theorem gN_X8 : Cond.initialized RX8 ∈ lw_w := lgw kN_X8 rfl
theorem gN_J : Cond.initialized "java/lang/Math" ∈ lw_w := lgw kN_J rfl
theorem gL_L_7 : Cond.classLink "CrowdLawsLaw" 7 RX7 ∈ lw_w := lgw kL_L_7 rfl
theorem gB_X7 : Cond.instantiable RX7 4 ∈ lw_w := lgw kB_X7 rfl
theorem gM_L_9 : Cond.methodLink "CrowdLawsLaw" 9 yX7_init ∈ lw_w := lgw kM_L_9 rfl
theorem gI_yX7_init : Cond.instanceMethod yX7_init ∈ lw_w := lgw kI_yX7_init rfl
theorem gC_yX7_init : Cond.code yX7_init cX7_init 1 (Option.none : Option Jvm.ClassFile.FieldType) ∈ lw_w := lgw kC_yX7_init rfl
theorem gM_X7_1 : Cond.methodLink RX7 1 objectInit ∈ lw_w := lgw kM_X7_1 rfl
theorem gI_objectInit : Cond.instanceMethod objectInit ∈ lw_w := lgw kI_objectInit rfl
theorem gC_objectInit : Cond.code objectInit ⟨#[0xb1]⟩ 1 (Option.none : Option Jvm.ClassFile.FieldType) ∈ lw_w := lgw kC_objectInit rfl
theorem gL_X7_7 : Cond.classLink RX7 7 RX5 ∈ lw_w := lgw kL_X7_7 rfl
theorem gB_X5 : Cond.instantiable RX5 7 ∈ lw_w := lgw kB_X5 rfl
theorem gM_X7_9 : Cond.methodLink RX7 9 yX5_init ∈ lw_w := lgw kM_X7_9 rfl
theorem gI_yX5_init : Cond.instanceMethod yX5_init ∈ lw_w := lgw kI_yX5_init rfl
theorem gC_yX5_init : Cond.code yX5_init cX5_init 2 (Option.none : Option Jvm.ClassFile.FieldType) ∈ lw_w := lgw kC_yX5_init rfl
theorem gM_X5_3 : Cond.methodLink RX5 3 objectInit ∈ lw_w := lgw kM_X5_3 rfl
theorem gL_X5_9 : Cond.classLink RX5 9 RX6 ∈ lw_w := lgw kL_X5_9 rfl
theorem gA_26 : (Jvm.Cond.arrayOver (Jvm.ClassFile.FieldType.object "CrowdLaws$Rule")) ∈ lw_w := lgw kA_26 rfl
theorem gL_X5_17 : Cond.classLink RX5 17 RX3 ∈ lw_w := lgw kL_X5_17 rfl
theorem gA_28 : (Jvm.Cond.arrayOver (Jvm.ClassFile.FieldType.object "CrowdLaws$Crowd")) ∈ lw_w := lgw kA_28 rfl
theorem gB_X3 : Cond.instantiable RX3 1 ∈ lw_w := lgw kB_X3 rfl
theorem gM_X5_23 : Cond.methodLinkNest RX5 23 yX3_init "CrowdLaws" ∈ lw_w := lgw kM_X5_23 rfl
theorem gI_yX3_init : Cond.instanceMethod yX3_init ∈ lw_w := lgw kI_yX3_init rfl
theorem gC_yX3_init : Cond.code yX3_init cX3_init 1 (Option.none : Option Jvm.ClassFile.FieldType) ∈ lw_w := lgw kC_yX3_init rfl
theorem gM_X3_3 : Cond.methodLink RX3 3 objectInit ∈ lw_w := lgw kM_X3_3 rfl
theorem gF_X3_9 : Cond.fieldLink RX3 9 "CrowdLaws$Crowd" "in" "[I" ∈ lw_w := lgw kF_X3_9 rfl
theorem gA_38 : (Jvm.Cond.arrayClass Jvm.ClassFile.FieldType.int) ∈ lw_w := lgw kA_38 rfl
theorem gB_X6 : Cond.instantiable RX6 8 ∈ lw_w := lgw kB_X6 rfl
theorem gM_X5_41 : Cond.methodLinkNest RX5 41 yX6_init "CrowdLaws" ∈ lw_w := lgw kM_X5_41 rfl
theorem gI_yX6_init : Cond.instanceMethod yX6_init ∈ lw_w := lgw kI_yX6_init rfl
theorem gC_yX6_init : Cond.code yX6_init cX6_init 1 (Option.none : Option Jvm.ClassFile.FieldType) ∈ lw_w := lgw kC_yX6_init rfl
theorem gM_X6_3 : Cond.methodLink RX6 3 objectInit ∈ lw_w := lgw kM_X6_3 rfl
theorem gF_X6_9 : Cond.fieldLink RX6 9 "CrowdLaws$Rule" "goals" "[I" ∈ lw_w := lgw kF_X6_9 rfl
theorem gF_X6_15 : Cond.fieldLink RX6 15 "CrowdLaws$Rule" "kind" "I" ∈ lw_w := lgw kF_X6_15 rfl
theorem gF_X7_82 : Cond.fieldLinkNest RX7 82 "CrowdLaws$Rule" "kind" "I" "CrowdLaws" ∈ lw_w := lgw kF_X7_82 rfl
theorem gF_X6_19 : Cond.fieldLink RX6 19 "CrowdLaws$Rule" "p" "I" ∈ lw_w := lgw kF_X6_19 rfl
theorem gF_X7_85 : Cond.fieldLinkNest RX7 85 "CrowdLaws$Rule" "p" "I" "CrowdLaws" ∈ lw_w := lgw kF_X7_85 rfl
theorem gF_X0_146 : Cond.fieldLinkNest RX0 146 "CrowdLaws$Rule" "p" "I" "CrowdLaws" ∈ lw_w := lgw kF_X0_146 rfl
theorem gF_X6_22 : Cond.fieldLink RX6 22 "CrowdLaws$Rule" "q" "I" ∈ lw_w := lgw kF_X6_22 rfl
theorem gF_X7_88 : Cond.fieldLinkNest RX7 88 "CrowdLaws$Rule" "q" "I" "CrowdLaws" ∈ lw_w := lgw kF_X7_88 rfl
theorem gF_X6_25 : Cond.fieldLink RX6 25 "CrowdLaws$Rule" "r" "I" ∈ lw_w := lgw kF_X6_25 rfl
theorem gF_X7_91 : Cond.fieldLinkNest RX7 91 "CrowdLaws$Rule" "r" "I" "CrowdLaws" ∈ lw_w := lgw kF_X7_91 rfl
theorem gF_X0_153 : Cond.fieldLinkNest RX0 153 "CrowdLaws$Rule" "r" "I" "CrowdLaws" ∈ lw_w := lgw kF_X0_153 rfl
theorem gF_X6_28 : Cond.fieldLink RX6 28 "CrowdLaws$Rule" "t" "I" ∈ lw_w := lgw kF_X6_28 rfl
theorem gF_X7_94 : Cond.fieldLinkNest RX7 94 "CrowdLaws$Rule" "t" "I" "CrowdLaws" ∈ lw_w := lgw kF_X7_94 rfl
theorem gF_X6_31 : Cond.fieldLink RX6 31 "CrowdLaws$Rule" "map" "I" ∈ lw_w := lgw kF_X6_31 rfl
theorem gF_X7_97 : Cond.fieldLinkNest RX7 97 "CrowdLaws$Rule" "map" "I" "CrowdLaws" ∈ lw_w := lgw kF_X7_97 rfl
theorem gF_X6_34 : Cond.fieldLink RX6 34 "CrowdLaws$Rule" "needed" "I" ∈ lw_w := lgw kF_X6_34 rfl
theorem gF_X7_77 : Cond.fieldLinkNest RX7 77 "CrowdLaws$Rule" "needed" "I" "CrowdLaws" ∈ lw_w := lgw kF_X7_77 rfl
theorem gF_X0_156 : Cond.fieldLinkNest RX0 156 "CrowdLaws$Rule" "needed" "I" "CrowdLaws" ∈ lw_w := lgw kF_X0_156 rfl
theorem gF_X5_11 : Cond.fieldLink RX5 11 "CrowdLaws$Laws" "rules" "[LCrowdLaws$Rule;" ∈ lw_w := lgw kF_X5_11 rfl
theorem gF_X7_73 : Cond.fieldLinkNest RX7 73 "CrowdLaws$Laws" "rules" "[LCrowdLaws$Rule;" "CrowdLaws" ∈ lw_w := lgw kF_X7_73 rfl
theorem gF_X0_113 : Cond.fieldLinkNest RX0 113 "CrowdLaws$Laws" "rules" "[LCrowdLaws$Rule;" "CrowdLaws" ∈ lw_w := lgw kF_X0_113 rfl
theorem gF_X4_138 : Cond.fieldLinkNest RX4 138 "CrowdLaws$Laws" "rules" "[LCrowdLaws$Rule;" "CrowdLaws" ∈ lw_w := lgw kF_X4_138 rfl
theorem gF_X5_19 : Cond.fieldLink RX5 19 "CrowdLaws$Laws" "badOnes" "[LCrowdLaws$Crowd;" ∈ lw_w := lgw kF_X5_19 rfl
theorem gF_X0_87 : Cond.fieldLinkNest RX0 87 "CrowdLaws$Laws" "badOnes" "[LCrowdLaws$Crowd;" "CrowdLaws" ∈ lw_w := lgw kF_X0_87 rfl
theorem gF_X5_24 : Cond.fieldLink RX5 24 "CrowdLaws$Laws" "spare" "LCrowdLaws$Crowd;" ∈ lw_w := lgw kF_X5_24 rfl
theorem gF_X7_125 : Cond.fieldLinkNest RX7 125 "CrowdLaws$Laws" "spare" "LCrowdLaws$Crowd;" "CrowdLaws" ∈ lw_w := lgw kF_X7_125 rfl
theorem gF_X5_28 : Cond.fieldLink RX5 28 "CrowdLaws$Laws" "stateCount" "I" ∈ lw_w := lgw kF_X5_28 rfl
theorem gF_X7_39 : Cond.fieldLinkNest RX7 39 "CrowdLaws$Laws" "stateCount" "I" "CrowdLaws" ∈ lw_w := lgw kF_X7_39 rfl
theorem gF_X4_102 : Cond.fieldLinkNest RX4 102 "CrowdLaws$Laws" "stateCount" "I" "CrowdLaws" ∈ lw_w := lgw kF_X4_102 rfl
theorem gF_X0_117 : Cond.fieldLinkNest RX0 117 "CrowdLaws$Laws" "stateCount" "I" "CrowdLaws" ∈ lw_w := lgw kF_X0_117 rfl
theorem gF_X5_32 : Cond.fieldLink RX5 32 "CrowdLaws$Laws" "startSet" "I" ∈ lw_w := lgw kF_X5_32 rfl
theorem gF_X7_53 : Cond.fieldLinkNest RX7 53 "CrowdLaws$Laws" "startSet" "I" "CrowdLaws" ∈ lw_w := lgw kF_X7_53 rfl
theorem gF_X5_35 : Cond.fieldLink RX5 35 "CrowdLaws$Laws" "ruleCount" "I" ∈ lw_w := lgw kF_X5_35 rfl
theorem gF_X0_110 : Cond.fieldLinkNest RX0 110 "CrowdLaws$Laws" "ruleCount" "I" "CrowdLaws" ∈ lw_w := lgw kF_X0_110 rfl
theorem gF_X4_135 : Cond.fieldLinkNest RX4 135 "CrowdLaws$Laws" "ruleCount" "I" "CrowdLaws" ∈ lw_w := lgw kF_X4_135 rfl
theorem gF_X7_188 : Cond.fieldLinkNest RX7 188 "CrowdLaws$Laws" "ruleCount" "I" "CrowdLaws" ∈ lw_w := lgw kF_X7_188 rfl
theorem gF_X5_38 : Cond.fieldLink RX5 38 "CrowdLaws$Laws" "badCount" "I" ∈ lw_w := lgw kF_X5_38 rfl
theorem gF_X0_84 : Cond.fieldLinkNest RX0 84 "CrowdLaws$Laws" "badCount" "I" "CrowdLaws" ∈ lw_w := lgw kF_X0_84 rfl
theorem gF_X7_103 : Cond.fieldLinkNest RX7 103 "CrowdLaws$Laws" "badCount" "I" "CrowdLaws" ∈ lw_w := lgw kF_X7_103 rfl
theorem gL_X7_16 : Cond.classLink RX7 16 RX3 ∈ lw_w := lgw kL_X7_16 rfl
theorem gM_X7_18 : Cond.methodLinkNest RX7 18 yX3_init "CrowdLaws" ∈ lw_w := lgw kM_X7_18 rfl
theorem gL_X7_23 : Cond.classLink RX7 23 RX0 ∈ lw_w := lgw kL_X7_23 rfl
theorem gB_X0 : Cond.instantiable RX0 7 ∈ lw_w := lgw kB_X0 rfl
theorem gM_X7_25 : Cond.methodLink RX7 25 yX0_init ∈ lw_w := lgw kM_X7_25 rfl
theorem gI_yX0_init : Cond.instanceMethod yX0_init ∈ lw_w := lgw kI_yX0_init rfl
theorem gC_yX0_init : Cond.code yX0_init cX0_init 2 (Option.none : Option Jvm.ClassFile.FieldType) ∈ lw_w := lgw kC_yX0_init rfl
theorem gM_X0_3 : Cond.methodLink RX0 3 objectInit ∈ lw_w := lgw kM_X0_3 rfl
theorem gL_X0_9 : Cond.classLink RX0 9 RX2 ∈ lw_w := lgw kL_X0_9 rfl
theorem gB_X2 : Cond.instantiable RX2 1 ∈ lw_w := lgw kB_X2 rfl
theorem gM_X0_11 : Cond.methodLink RX0 11 yX2_init ∈ lw_w := lgw kM_X0_11 rfl
theorem gI_yX2_init : Cond.instanceMethod yX2_init ∈ lw_w := lgw kI_yX2_init rfl
theorem gC_yX2_init : Cond.code yX2_init cX2_init 2 (Option.none : Option Jvm.ClassFile.FieldType) ∈ lw_w := lgw kC_yX2_init rfl
theorem gM_X2_3 : Cond.methodLink RX2 3 objectInit ∈ lw_w := lgw kM_X2_3 rfl
theorem gF_X2_9 : Cond.fieldLink RX2 9 "CrowdLaws$ByRule" "cells" "[I" ∈ lw_w := lgw kF_X2_9 rfl
theorem gL_X0_20 : Cond.classLink RX0 20 RX3 ∈ lw_w := lgw kL_X0_20 rfl
theorem gM_X0_22 : Cond.methodLinkNest RX0 22 yX3_init "CrowdLaws" ∈ lw_w := lgw kM_X0_22 rfl
theorem gL_X0_30 : Cond.classLink RX0 30 RX1 ∈ lw_w := lgw kL_X0_30 rfl
theorem gB_X1 : Cond.instantiable RX1 4 ∈ lw_w := lgw kB_X1 rfl
theorem gM_X0_32 : Cond.methodLink RX0 32 yX1_init ∈ lw_w := lgw kM_X0_32 rfl
theorem gI_yX1_init : Cond.instanceMethod yX1_init ∈ lw_w := lgw kI_yX1_init rfl
theorem gC_yX1_init : Cond.code yX1_init cX1_init 2 (Option.none : Option Jvm.ClassFile.FieldType) ∈ lw_w := lgw kC_yX1_init rfl
theorem gM_X1_3 : Cond.methodLink RX1 3 objectInit ∈ lw_w := lgw kM_X1_3 rfl
theorem gL_X1_9 : Cond.classLink RX1 9 RX3 ∈ lw_w := lgw kL_X1_9 rfl
theorem gM_X1_28 : Cond.methodLinkNest RX1 28 yX3_init "CrowdLaws" ∈ lw_w := lgw kM_X1_28 rfl
theorem gF_X1_11 : Cond.fieldLink RX1 11 "CrowdLaws$Bases" "rows" "[LCrowdLaws$Crowd;" ∈ lw_w := lgw kF_X1_11 rfl
theorem gF_X0_55 : Cond.fieldLinkNest RX0 55 "CrowdLaws$Bases" "rows" "[LCrowdLaws$Crowd;" "CrowdLaws" ∈ lw_w := lgw kF_X0_55 rfl
theorem gF_X7_161 : Cond.fieldLinkNest RX7 161 "CrowdLaws$Bases" "rows" "[LCrowdLaws$Crowd;" "CrowdLaws" ∈ lw_w := lgw kF_X7_161 rfl
theorem gF_X1_17 : Cond.fieldLink RX1 17 "CrowdLaws$Bases" "fresh" "[Z" ∈ lw_w := lgw kF_X1_17 rfl
theorem gF_X0_130 : Cond.fieldLinkNest RX0 130 "CrowdLaws$Bases" "fresh" "[Z" "CrowdLaws" ∈ lw_w := lgw kF_X0_130 rfl
theorem gF_X1_21 : Cond.fieldLink RX1 21 "CrowdLaws$Bases" "count" "I" ∈ lw_w := lgw kF_X1_21 rfl
theorem gF_X0_52 : Cond.fieldLinkNest RX0 52 "CrowdLaws$Bases" "count" "I" "CrowdLaws" ∈ lw_w := lgw kF_X0_52 rfl
theorem gF_X7_156 : Cond.fieldLinkNest RX7 156 "CrowdLaws$Bases" "count" "I" "CrowdLaws" ∈ lw_w := lgw kF_X7_156 rfl
theorem gF_X1_25 : Cond.fieldLink RX1 25 "CrowdLaws$Bases" "freshCount" "I" ∈ lw_w := lgw kF_X1_25 rfl
theorem gF_X0_74 : Cond.fieldLinkNest RX0 74 "CrowdLaws$Bases" "freshCount" "I" "CrowdLaws" ∈ lw_w := lgw kF_X0_74 rfl
theorem gA_162 : (Jvm.Cond.arrayClass Jvm.ClassFile.FieldType.boolean) ∈ lw_w := lgw kA_162 rfl
theorem gF_X0_44 : Cond.fieldLink RX0 44 "CrowdLaws$Backward" "laws" "LCrowdLaws$Laws;" ∈ lw_w := lgw kF_X0_44 rfl
theorem gF_X0_14 : Cond.fieldLink RX0 14 "CrowdLaws$Backward" "sums" "LCrowdLaws$ByRule;" ∈ lw_w := lgw kF_X0_14 rfl
theorem gF_X0_23 : Cond.fieldLink RX0 23 "CrowdLaws$Backward" "lack" "LCrowdLaws$Crowd;" ∈ lw_w := lgw kF_X0_23 rfl
theorem gF_X0_27 : Cond.fieldLink RX0 27 "CrowdLaws$Backward" "maker" "LCrowdLaws$Crowd;" ∈ lw_w := lgw kF_X0_27 rfl
theorem gF_X0_33 : Cond.fieldLink RX0 33 "CrowdLaws$Backward" "now" "LCrowdLaws$Bases;" ∈ lw_w := lgw kF_X0_33 rfl
theorem gF_X7_152 : Cond.fieldLinkNest RX7 152 "CrowdLaws$Backward" "now" "LCrowdLaws$Bases;" "CrowdLaws" ∈ lw_w := lgw kF_X7_152 rfl
theorem gF_X0_37 : Cond.fieldLink RX0 37 "CrowdLaws$Backward" "next" "LCrowdLaws$Bases;" ∈ lw_w := lgw kF_X0_37 rfl
theorem gF_X0_40 : Cond.fieldLink RX0 40 "CrowdLaws$Backward" "outcome" "I" ∈ lw_w := lgw kF_X0_40 rfl
theorem gF_X7_143 : Cond.fieldLinkNest RX7 143 "CrowdLaws$Backward" "outcome" "I" "CrowdLaws" ∈ lw_w := lgw kF_X7_143 rfl
theorem gL_X7_32 : Cond.classLink RX7 32 RX4 ∈ lw_w := lgw kL_X7_32 rfl
theorem gB_X4 : Cond.instantiable RX4 13 ∈ lw_w := lgw kB_X4 rfl
theorem gM_X7_34 : Cond.methodLink RX7 34 yX4_init ∈ lw_w := lgw kM_X7_34 rfl
theorem gI_yX4_init : Cond.instanceMethod yX4_init ∈ lw_w := lgw kI_yX4_init rfl
theorem gC_yX4_init : Cond.code yX4_init cX4_init 2 (Option.none : Option Jvm.ClassFile.FieldType) ∈ lw_w := lgw kC_yX4_init rfl
theorem gM_X4_3 : Cond.methodLink RX4 3 objectInit ∈ lw_w := lgw kM_X4_3 rfl
theorem gL_X4_9 : Cond.classLink RX4 9 RX3 ∈ lw_w := lgw kL_X4_9 rfl
theorem gM_X4_11 : Cond.methodLinkNest RX4 11 yX3_init "CrowdLaws" ∈ lw_w := lgw kM_X4_11 rfl
theorem gL_X4_31 : Cond.classLink RX4 31 RX2 ∈ lw_w := lgw kL_X4_31 rfl
theorem gM_X4_33 : Cond.methodLink RX4 33 yX2_init ∈ lw_w := lgw kM_X4_33 rfl
theorem gF_X4_60 : Cond.fieldLink RX4 60 "CrowdLaws$Forward" "laws" "LCrowdLaws$Laws;" ∈ lw_w := lgw kF_X4_60 rfl
theorem gF_X4_12 : Cond.fieldLink RX4 12 "CrowdLaws$Forward" "from" "LCrowdLaws$Crowd;" ∈ lw_w := lgw kF_X4_12 rfl
theorem gF_X4_18 : Cond.fieldLink RX4 18 "CrowdLaws$Forward" "to" "LCrowdLaws$Crowd;" ∈ lw_w := lgw kF_X4_18 rfl
theorem gF_X4_21 : Cond.fieldLink RX4 21 "CrowdLaws$Forward" "codes" "[I" ∈ lw_w := lgw kF_X4_21 rfl
theorem gF_X4_25 : Cond.fieldLink RX4 25 "CrowdLaws$Forward" "levels" "[I" ∈ lw_w := lgw kF_X4_25 rfl
theorem gF_X4_28 : Cond.fieldLink RX4 28 "CrowdLaws$Forward" "queue" "[I" ∈ lw_w := lgw kF_X4_28 rfl
theorem gF_X4_36 : Cond.fieldLink RX4 36 "CrowdLaws$Forward" "goals" "LCrowdLaws$ByRule;" ∈ lw_w := lgw kF_X4_36 rfl
theorem gF_X4_40 : Cond.fieldLink RX4 40 "CrowdLaws$Forward" "leading" "[Z" ∈ lw_w := lgw kF_X4_40 rfl
theorem gF_X4_44 : Cond.fieldLink RX4 44 "CrowdLaws$Forward" "path" "[I" ∈ lw_w := lgw kF_X4_44 rfl
theorem gF_X4_47 : Cond.fieldLink RX4 47 "CrowdLaws$Forward" "walked" "I" ∈ lw_w := lgw kF_X4_47 rfl
theorem gF_X4_51 : Cond.fieldLink RX4 51 "CrowdLaws$Forward" "crowdCount" "I" ∈ lw_w := lgw kF_X4_51 rfl
theorem gF_X4_54 : Cond.fieldLink RX4 54 "CrowdLaws$Forward" "cameCount" "I" ∈ lw_w := lgw kF_X4_54 rfl
theorem gF_X7_174 : Cond.fieldLinkNest RX7 174 "CrowdLaws$Forward" "cameCount" "I" "CrowdLaws" ∈ lw_w := lgw kF_X7_174 rfl
theorem gF_X4_57 : Cond.fieldLink RX4 57 "CrowdLaws$Forward" "fewest" "I" ∈ lw_w := lgw kF_X4_57 rfl
theorem gF_X7_177 : Cond.fieldLinkNest RX7 177 "CrowdLaws$Forward" "fewest" "I" "CrowdLaws" ∈ lw_w := lgw kF_X7_177 rfl
theorem gF_X7_10 : Cond.fieldLink RX7 10 "CrowdLaws" "laws" "LCrowdLaws$Laws;" ∈ lw_w := lgw kF_X7_10 rfl
theorem gF_X7_19 : Cond.fieldLink RX7 19 "CrowdLaws" "hand" "LCrowdLaws$Crowd;" ∈ lw_w := lgw kF_X7_19 rfl
theorem gF_X7_28 : Cond.fieldLink RX7 28 "CrowdLaws" "backward" "LCrowdLaws$Backward;" ∈ lw_w := lgw kF_X7_28 rfl
theorem gF_X7_35 : Cond.fieldLink RX7 35 "CrowdLaws" "forward" "LCrowdLaws$Forward;" ∈ lw_w := lgw kF_X7_35 rfl
theorem gM_L_13 : Cond.methodLink "CrowdLawsLaw" 13 yX7_states ∈ lw_w := lgw kM_L_13 rfl
theorem gI_yX7_states : Cond.instanceMethod yX7_states ∈ lw_w := lgw kI_yX7_states rfl
theorem gS_yX7_states : Cond.selects RX7 yX7_states yX7_states ∈ lw_w := lgw kS_yX7_states rfl
theorem gC_yX7_states : Cond.code yX7_states cX7_states 3 (Option.some Jvm.ClassFile.FieldType.int) ∈ lw_w := lgw kC_yX7_states rfl
theorem gM_X7_43 : Cond.methodLink RX7 43 yX5_begin ∈ lw_w := lgw kM_X7_43 rfl
theorem gI_yX5_begin : Cond.instanceMethod yX5_begin ∈ lw_w := lgw kI_yX5_begin rfl
theorem gS_yX5_begin : Cond.selects RX5 yX5_begin yX5_begin ∈ lw_w := lgw kS_yX5_begin rfl
theorem gC_yX5_begin : Cond.code yX5_begin cX5_begin 2 (Option.none : Option Jvm.ClassFile.FieldType) ∈ lw_w := lgw kC_yX5_begin rfl
theorem gM_X7_47 : Cond.methodLink RX7 47 yX3_clear ∈ lw_w := lgw kM_X7_47 rfl
theorem gI_yX3_clear : Cond.instanceMethod yX3_clear ∈ lw_w := lgw kI_yX3_clear rfl
theorem gS_yX3_clear : Cond.selects RX3 yX3_clear yX3_clear ∈ lw_w := lgw kS_yX3_clear rfl
theorem gC_yX3_clear : Cond.code yX3_clear cX3_clear 2 (Option.none : Option Jvm.ClassFile.FieldType) ∈ lw_w := lgw kC_yX3_clear rfl
theorem gM_X7_50 : Cond.methodLink RX7 50 yX7_forgetFindings ∈ lw_w := lgw kM_X7_50 rfl
theorem gI_yX7_forgetFindings : Cond.instanceMethod yX7_forgetFindings ∈ lw_w := lgw kI_yX7_forgetFindings rfl
theorem gC_yX7_forgetFindings : Cond.code yX7_forgetFindings cX7_forgetFindings 1 (Option.none : Option Jvm.ClassFile.FieldType) ∈ lw_w := lgw kC_yX7_forgetFindings rfl
theorem gM_X7_195 : Cond.methodLink RX7 195 yX0_forget ∈ lw_w := lgw kM_X7_195 rfl
theorem gI_yX0_forget : Cond.instanceMethod yX0_forget ∈ lw_w := lgw kI_yX0_forget rfl
theorem gS_yX0_forget : Cond.selects RX0 yX0_forget yX0_forget ∈ lw_w := lgw kS_yX0_forget rfl
theorem gC_yX0_forget : Cond.code yX0_forget cX0_forget 1 (Option.none : Option Jvm.ClassFile.FieldType) ∈ lw_w := lgw kC_yX0_forget rfl
theorem gM_X7_56 : Cond.methodLink RX7 56 yX4_forget ∈ lw_w := lgw kM_X7_56 rfl
theorem gI_yX4_forget : Cond.instanceMethod yX4_forget ∈ lw_w := lgw kI_yX4_forget rfl
theorem gS_yX4_forget : Cond.selects RX4 yX4_forget yX4_forget ∈ lw_w := lgw kS_yX4_forget rfl
theorem gC_yX4_forget : Cond.code yX4_forget cX4_forget 1 (Option.none : Option Jvm.ClassFile.FieldType) ∈ lw_w := lgw kC_yX4_forget rfl
theorem gM_L_18 : Cond.methodLink "CrowdLawsLaw" 18 yX7_start ∈ lw_w := lgw kM_L_18 rfl
theorem gI_yX7_start : Cond.instanceMethod yX7_start ∈ lw_w := lgw kI_yX7_start rfl
theorem gS_yX7_start : Cond.selects RX7 yX7_start yX7_start ∈ lw_w := lgw kS_yX7_start rfl
theorem gC_yX7_start : Cond.code yX7_start cX7_start 3 (Option.some Jvm.ClassFile.FieldType.int) ∈ lw_w := lgw kC_yX7_start rfl
theorem gM_L_22 : Cond.methodLink "CrowdLawsLaw" 22 yX7_alone ∈ lw_w := lgw kM_L_22 rfl
theorem gI_yX7_alone : Cond.instanceMethod yX7_alone ∈ lw_w := lgw kI_yX7_alone rfl
theorem gS_yX7_alone : Cond.selects RX7 yX7_alone yX7_alone ∈ lw_w := lgw kS_yX7_alone rfl
theorem gC_yX7_alone : Cond.code yX7_alone cX7_alone 3 (Option.some Jvm.ClassFile.FieldType.int) ∈ lw_w := lgw kC_yX7_alone rfl
theorem gM_X7_59 : Cond.methodLink RX7 59 yX5_isState ∈ lw_w := lgw kM_X7_59 rfl
theorem gI_yX5_isState : Cond.instanceMethod yX5_isState ∈ lw_w := lgw kI_yX5_isState rfl
theorem gS_yX5_isState : Cond.selects RX5 yX5_isState yX5_isState ∈ lw_w := lgw kS_yX5_isState rfl
theorem gC_yX5_isState : Cond.code yX5_isState cX5_isState 2 (Option.some Jvm.ClassFile.FieldType.boolean) ∈ lw_w := lgw kC_yX5_isState rfl
theorem gM_X7_63 : Cond.methodLink RX7 63 yX7_addRule ∈ lw_w := lgw kM_X7_63 rfl
theorem gI_yX7_addRule : Cond.instanceMethod yX7_addRule ∈ lw_w := lgw kI_yX7_addRule rfl
theorem gC_yX7_addRule : Cond.code yX7_addRule cX7_addRule 7 (Option.some Jvm.ClassFile.FieldType.int) ∈ lw_w := lgw kC_yX7_addRule rfl
theorem gM_X7_191 : Cond.methodLink RX7 191 yX6_become ∈ lw_w := lgw kM_X7_191 rfl
theorem gI_yX6_become : Cond.instanceMethod yX6_become ∈ lw_w := lgw kI_yX6_become rfl
theorem gS_yX6_become : Cond.selects RX6 yX6_become yX6_become ∈ lw_w := lgw kS_yX6_become rfl
theorem gC_yX6_become : Cond.code yX6_become cX6_become 7 (Option.none : Option Jvm.ClassFile.FieldType) ∈ lw_w := lgw kC_yX6_become rfl
theorem gM_X6_37 : Cond.methodLink RX6 37 yX6_setGoals ∈ lw_w := lgw kM_X6_37 rfl
theorem gI_yX6_setGoals : Cond.instanceMethod yX6_setGoals ∈ lw_w := lgw kI_yX6_setGoals rfl
theorem gC_yX6_setGoals : Cond.code yX6_setGoals cX6_setGoals 3 (Option.none : Option Jvm.ClassFile.FieldType) ∈ lw_w := lgw kC_yX6_setGoals rfl
theorem gM_L_27 : Cond.methodLink "CrowdLawsLaw" 27 yX7_pair ∈ lw_w := lgw kM_L_27 rfl
theorem gI_yX7_pair : Cond.instanceMethod yX7_pair ∈ lw_w := lgw kI_yX7_pair rfl
theorem gS_yX7_pair : Cond.selects RX7 yX7_pair yX7_pair ∈ lw_w := lgw kS_yX7_pair rfl
theorem gC_yX7_pair : Cond.code yX7_pair cX7_pair 5 (Option.some Jvm.ClassFile.FieldType.int) ∈ lw_w := lgw kC_yX7_pair rfl
theorem gM_L_32 : Cond.methodLink "CrowdLawsLaw" 32 yX7_all ∈ lw_w := lgw kM_L_32 rfl
theorem gI_yX7_all : Cond.instanceMethod yX7_all ∈ lw_w := lgw kI_yX7_all rfl
theorem gS_yX7_all : Cond.selects RX7 yX7_all yX7_all ∈ lw_w := lgw kS_yX7_all rfl
theorem gC_yX7_all : Cond.code yX7_all cX7_all 4 (Option.some Jvm.ClassFile.FieldType.int) ∈ lw_w := lgw kC_yX7_all rfl
theorem gM_X7_67 : Cond.methodLink RX7 67 yX5_isMap ∈ lw_w := lgw kM_X7_67 rfl
theorem gI_yX5_isMap : Cond.instanceMethod yX5_isMap ∈ lw_w := lgw kI_yX5_isMap rfl
theorem gS_yX5_isMap : Cond.selects RX5 yX5_isMap yX5_isMap ∈ lw_w := lgw kS_yX5_isMap rfl
theorem gC_yX5_isMap : Cond.code yX5_isMap cX5_isMap 4 (Option.some Jvm.ClassFile.FieldType.boolean) ∈ lw_w := lgw kC_yX5_isMap rfl
theorem gM_X5_42 : Cond.methodLink RX5 42 yX5_hasFewDigits ∈ lw_w := lgw kM_X5_42 rfl
theorem gI_yX5_hasFewDigits : Cond.instanceMethod yX5_hasFewDigits ∈ lw_w := lgw kI_yX5_hasFewDigits rfl
theorem gS_yX5_hasFewDigits : Cond.selects RX5 yX5_hasFewDigits yX5_hasFewDigits ∈ lw_w := lgw kS_yX5_hasFewDigits rfl
theorem gC_yX5_hasFewDigits : Cond.code yX5_hasFewDigits cX5_hasFewDigits 4 (Option.some Jvm.ClassFile.FieldType.boolean) ∈ lw_w := lgw kC_yX5_hasFewDigits rfl
theorem gM_X5_46 : Cond.methodLink RX5 46 yX5_isState ∈ lw_w := lgw kM_X5_46 rfl
theorem gM_L_37 : Cond.methodLink "CrowdLawsLaw" 37 yX7_need ∈ lw_w := lgw kM_L_37 rfl
theorem gI_yX7_need : Cond.instanceMethod yX7_need ∈ lw_w := lgw kI_yX7_need rfl
theorem gS_yX7_need : Cond.selects RX7 yX7_need yX7_need ∈ lw_w := lgw kS_yX7_need rfl
theorem gC_yX7_need : Cond.code yX7_need cX7_need 5 (Option.some Jvm.ClassFile.FieldType.int) ∈ lw_w := lgw kC_yX7_need rfl
theorem gM_X7_70 : Cond.methodLink RX7 70 yX5_isRule ∈ lw_w := lgw kM_X7_70 rfl
theorem gI_yX5_isRule : Cond.instanceMethod yX5_isRule ∈ lw_w := lgw kI_yX5_isRule rfl
theorem gS_yX5_isRule : Cond.selects RX5 yX5_isRule yX5_isRule ∈ lw_w := lgw kS_yX5_isRule rfl
theorem gC_yX5_isRule : Cond.code yX5_isRule cX5_isRule 2 (Option.some Jvm.ClassFile.FieldType.boolean) ∈ lw_w := lgw kC_yX5_isRule rfl
theorem gM_L_41 : Cond.methodLink "CrowdLawsLaw" 41 yX7_rule ∈ lw_w := lgw kM_L_41 rfl
theorem gI_yX7_rule : Cond.instanceMethod yX7_rule ∈ lw_w := lgw kI_yX7_rule rfl
theorem gS_yX7_rule : Cond.selects RX7 yX7_rule yX7_rule ∈ lw_w := lgw kS_yX7_rule rfl
theorem gC_yX7_rule : Cond.code yX7_rule cX7_rule 4 (Option.some Jvm.ClassFile.FieldType.int) ∈ lw_w := lgw kC_yX7_rule rfl
theorem gM_L_45 : Cond.methodLink "CrowdLawsLaw" 45 yX7_bad ∈ lw_w := lgw kM_L_45 rfl
theorem gI_yX7_bad : Cond.instanceMethod yX7_bad ∈ lw_w := lgw kI_yX7_bad rfl
theorem gS_yX7_bad : Cond.selects RX7 yX7_bad yX7_bad ∈ lw_w := lgw kS_yX7_bad rfl
theorem gC_yX7_bad : Cond.code yX7_bad cX7_bad 2 (Option.some Jvm.ClassFile.FieldType.int) ∈ lw_w := lgw kC_yX7_bad rfl
theorem gM_X7_100 : Cond.methodLink RX7 100 yX5_hasFewDigits ∈ lw_w := lgw kM_X7_100 rfl
theorem gM_X7_106 : Cond.methodLink RX7 106 yX5_addBad ∈ lw_w := lgw kM_X7_106 rfl
theorem gI_yX5_addBad : Cond.instanceMethod yX5_addBad ∈ lw_w := lgw kI_yX5_addBad rfl
theorem gS_yX5_addBad : Cond.selects RX5 yX5_addBad yX5_addBad ∈ lw_w := lgw kS_yX5_addBad rfl
theorem gC_yX5_addBad : Cond.code yX5_addBad cX5_addBad 2 (Option.none : Option Jvm.ClassFile.FieldType) ∈ lw_w := lgw kC_yX5_addBad rfl
theorem gM_X5_49 : Cond.methodLink RX5 49 yX3_read ∈ lw_w := lgw kM_X5_49 rfl
theorem gI_yX3_read : Cond.instanceMethod yX3_read ∈ lw_w := lgw kI_yX3_read rfl
theorem gS_yX3_read : Cond.selects RX3 yX3_read yX3_read ∈ lw_w := lgw kS_yX3_read rfl
theorem gC_yX3_read : Cond.code yX3_read cX3_read 4 (Option.none : Option Jvm.ClassFile.FieldType) ∈ lw_w := lgw kC_yX3_read rfl
theorem gM_L_49 : Cond.methodLink "CrowdLawsLaw" 49 yX7_put ∈ lw_w := lgw kM_L_49 rfl
theorem gI_yX7_put : Cond.instanceMethod yX7_put ∈ lw_w := lgw kI_yX7_put rfl
theorem gS_yX7_put : Cond.selects RX7 yX7_put yX7_put ∈ lw_w := lgw kS_yX7_put rfl
theorem gC_yX7_put : Cond.code yX7_put cX7_put 4 (Option.some Jvm.ClassFile.FieldType.int) ∈ lw_w := lgw kC_yX7_put rfl
theorem gM_X7_109 : Cond.methodLink RX7 109 yX3_of ∈ lw_w := lgw kM_X7_109 rfl
theorem gI_yX3_of : Cond.instanceMethod yX3_of ∈ lw_w := lgw kI_yX3_of rfl
theorem gS_yX3_of : Cond.selects RX3 yX3_of yX3_of ∈ lw_w := lgw kS_yX3_of rfl
theorem gC_yX3_of : Cond.code yX3_of cX3_of 2 (Option.some Jvm.ClassFile.FieldType.int) ∈ lw_w := lgw kC_yX3_of rfl
theorem gM_X7_113 : Cond.methodLink RX7 113 yX3_sum ∈ lw_w := lgw kM_X7_113 rfl
theorem gI_yX3_sum : Cond.instanceMethod yX3_sum ∈ lw_w := lgw kI_yX3_sum rfl
theorem gS_yX3_sum : Cond.selects RX3 yX3_sum yX3_sum ∈ lw_w := lgw kS_yX3_sum rfl
theorem gC_yX3_sum : Cond.code yX3_sum cX3_sum 3 (Option.some Jvm.ClassFile.FieldType.int) ∈ lw_w := lgw kC_yX3_sum rfl
theorem gM_X7_117 : Cond.methodLink RX7 117 yX3_set ∈ lw_w := lgw kM_X7_117 rfl
theorem gI_yX3_set : Cond.instanceMethod yX3_set ∈ lw_w := lgw kI_yX3_set rfl
theorem gS_yX3_set : Cond.selects RX3 yX3_set yX3_set ∈ lw_w := lgw kS_yX3_set rfl
theorem gC_yX3_set : Cond.code yX3_set cX3_set 3 (Option.none : Option Jvm.ClassFile.FieldType) ∈ lw_w := lgw kC_yX3_set rfl
theorem gM_L_53 : Cond.methodLink "CrowdLawsLaw" 53 yX7_at ∈ lw_w := lgw kM_L_53 rfl
theorem gI_yX7_at : Cond.instanceMethod yX7_at ∈ lw_w := lgw kI_yX7_at rfl
theorem gS_yX7_at : Cond.selects RX7 yX7_at yX7_at ∈ lw_w := lgw kS_yX7_at rfl
theorem gC_yX7_at : Cond.code yX7_at cX7_at 2 (Option.some Jvm.ClassFile.FieldType.int) ∈ lw_w := lgw kC_yX7_at rfl
theorem gM_L_57 : Cond.methodLink "CrowdLawsLaw" 57 yX7_can ∈ lw_w := lgw kM_L_57 rfl
theorem gI_yX7_can : Cond.instanceMethod yX7_can ∈ lw_w := lgw kI_yX7_can rfl
theorem gS_yX7_can : Cond.selects RX7 yX7_can yX7_can ∈ lw_w := lgw kS_yX7_can rfl
theorem gC_yX7_can : Cond.code yX7_can cX7_can 2 (Option.some Jvm.ClassFile.FieldType.int) ∈ lw_w := lgw kC_yX7_can rfl
theorem gM_X7_121 : Cond.methodLink RX7 121 yX6_fits ∈ lw_w := lgw kM_X7_121 rfl
theorem gI_yX6_fits : Cond.instanceMethod yX6_fits ∈ lw_w := lgw kI_yX6_fits rfl
theorem gS_yX6_fits : Cond.selects RX6 yX6_fits yX6_fits ∈ lw_w := lgw kS_yX6_fits rfl
theorem gC_yX6_fits : Cond.code yX6_fits cX6_fits 4 (Option.some Jvm.ClassFile.FieldType.boolean) ∈ lw_w := lgw kC_yX6_fits rfl
theorem gM_X6_40 : Cond.methodLink RX6 40 yX6_leavers ∈ lw_w := lgw kM_X6_40 rfl
theorem gI_yX6_leavers : Cond.instanceMethod yX6_leavers ∈ lw_w := lgw kI_yX6_leavers rfl
theorem gC_yX6_leavers : Cond.code yX6_leavers cX6_leavers 2 (Option.some Jvm.ClassFile.FieldType.int) ∈ lw_w := lgw kC_yX6_leavers rfl
theorem gM_X6_44 : Cond.methodLink RX6 44 yX3_of ∈ lw_w := lgw kM_X6_44 rfl
theorem gM_L_61 : Cond.methodLink "CrowdLawsLaw" 61 yX7_step ∈ lw_w := lgw kM_L_61 rfl
theorem gI_yX7_step : Cond.instanceMethod yX7_step ∈ lw_w := lgw kI_yX7_step rfl
theorem gS_yX7_step : Cond.selects RX7 yX7_step yX7_step ∈ lw_w := lgw kS_yX7_step rfl
theorem gC_yX7_step : Cond.code yX7_step cX7_step 3 (Option.some Jvm.ClassFile.FieldType.int) ∈ lw_w := lgw kC_yX7_step rfl
theorem gM_X7_128 : Cond.methodLink RX7 128 yX6_lead ∈ lw_w := lgw kM_X7_128 rfl
theorem gI_yX6_lead : Cond.instanceMethod yX6_lead ∈ lw_w := lgw kI_yX6_lead rfl
theorem gS_yX6_lead : Cond.selects RX6 yX6_lead yX6_lead ∈ lw_w := lgw kS_yX6_lead rfl
theorem gC_yX6_lead : Cond.code yX6_lead cX6_lead 4 (Option.none : Option Jvm.ClassFile.FieldType) ∈ lw_w := lgw kC_yX6_lead rfl
theorem gM_X6_49 : Cond.methodLink RX6 49 yX3_clear ∈ lw_w := lgw kM_X6_49 rfl
theorem gM_X6_52 : Cond.methodLink RX6 52 yX3_add ∈ lw_w := lgw kM_X6_52 rfl
theorem gI_yX3_add : Cond.instanceMethod yX3_add ∈ lw_w := lgw kI_yX3_add rfl
theorem gS_yX3_add : Cond.selects RX3 yX3_add yX3_add ∈ lw_w := lgw kS_yX3_add rfl
theorem gC_yX3_add : Cond.code yX3_add cX3_add 3 (Option.none : Option Jvm.ClassFile.FieldType) ∈ lw_w := lgw kC_yX3_add rfl
theorem gM_X7_132 : Cond.methodLink RX7 132 yX3_copy ∈ lw_w := lgw kM_X7_132 rfl
theorem gI_yX3_copy : Cond.instanceMethod yX3_copy ∈ lw_w := lgw kI_yX3_copy rfl
theorem gS_yX3_copy : Cond.selects RX3 yX3_copy yX3_copy ∈ lw_w := lgw kS_yX3_copy rfl
theorem gC_yX3_copy : Cond.code yX3_copy cX3_copy 3 (Option.none : Option Jvm.ClassFile.FieldType) ∈ lw_w := lgw kC_yX3_copy rfl
theorem gM_X3_15 : Cond.methodLink RX3 15 yX3_of ∈ lw_w := lgw kM_X3_15 rfl
theorem gM_X7_136 : Cond.methodLink RX7 136 yX5_countFitting ∈ lw_w := lgw kM_X7_136 rfl
theorem gI_yX5_countFitting : Cond.instanceMethod yX5_countFitting ∈ lw_w := lgw kI_yX5_countFitting rfl
theorem gS_yX5_countFitting : Cond.selects RX5 yX5_countFitting yX5_countFitting ∈ lw_w := lgw kS_yX5_countFitting rfl
theorem gC_yX5_countFitting : Cond.code yX5_countFitting cX5_countFitting 4 (Option.some Jvm.ClassFile.FieldType.int) ∈ lw_w := lgw kC_yX5_countFitting rfl
theorem gM_X5_61 : Cond.methodLink RX5 61 yX6_fits ∈ lw_w := lgw kM_X5_61 rfl
theorem gM_L_65 : Cond.methodLink "CrowdLawsLaw" 65 yX7_isBad ∈ lw_w := lgw kM_L_65 rfl
theorem gI_yX7_isBad : Cond.instanceMethod yX7_isBad ∈ lw_w := lgw kI_yX7_isBad rfl
theorem gS_yX7_isBad : Cond.selects RX7 yX7_isBad yX7_isBad ∈ lw_w := lgw kS_yX7_isBad rfl
theorem gC_yX7_isBad : Cond.code yX7_isBad cX7_isBad 1 (Option.some Jvm.ClassFile.FieldType.int) ∈ lw_w := lgw kC_yX7_isBad rfl
theorem gM_X7_140 : Cond.methodLink RX7 140 yX5_isBadCrowd ∈ lw_w := lgw kM_X7_140 rfl
theorem gI_yX5_isBadCrowd : Cond.instanceMethod yX5_isBadCrowd ∈ lw_w := lgw kI_yX5_isBadCrowd rfl
theorem gS_yX5_isBadCrowd : Cond.selects RX5 yX5_isBadCrowd yX5_isBadCrowd ∈ lw_w := lgw kS_yX5_isBadCrowd rfl
theorem gC_yX5_isBadCrowd : Cond.code yX5_isBadCrowd cX5_isBadCrowd 3 (Option.some Jvm.ClassFile.FieldType.boolean) ∈ lw_w := lgw kC_yX5_isBadCrowd rfl
theorem gM_X5_53 : Cond.methodLink RX5 53 yX3_isAtLeast ∈ lw_w := lgw kM_X5_53 rfl
theorem gI_yX3_isAtLeast : Cond.instanceMethod yX3_isAtLeast ∈ lw_w := lgw kI_yX3_isAtLeast rfl
theorem gS_yX3_isAtLeast : Cond.selects RX3 yX3_isAtLeast yX3_isAtLeast ∈ lw_w := lgw kS_yX3_isAtLeast rfl
theorem gC_yX3_isAtLeast : Cond.code yX3_isAtLeast cX3_isAtLeast 3 (Option.some Jvm.ClassFile.FieldType.boolean) ∈ lw_w := lgw kC_yX3_isAtLeast rfl
theorem gM_L_70 : Cond.methodLink "CrowdLawsLaw" 70 yX7_doomed ∈ lw_w := lgw kM_L_70 rfl
theorem gI_yX7_doomed : Cond.instanceMethod yX7_doomed ∈ lw_w := lgw kI_yX7_doomed rfl
theorem gS_yX7_doomed : Cond.selects RX7 yX7_doomed yX7_doomed ∈ lw_w := lgw kS_yX7_doomed rfl
theorem gC_yX7_doomed : Cond.code yX7_doomed cX7_doomed 1 (Option.some Jvm.ClassFile.FieldType.int) ∈ lw_w := lgw kC_yX7_doomed rfl
theorem gM_X7_146 : Cond.methodLink RX7 146 yX0_dooms ∈ lw_w := lgw kM_X7_146 rfl
theorem gI_yX0_dooms : Cond.instanceMethod yX0_dooms ∈ lw_w := lgw kI_yX0_dooms rfl
theorem gS_yX0_dooms : Cond.selects RX0 yX0_dooms yX0_dooms ∈ lw_w := lgw kS_yX0_dooms rfl
theorem gC_yX0_dooms : Cond.code yX0_dooms cX0_dooms 2 (Option.some Jvm.ClassFile.FieldType.boolean) ∈ lw_w := lgw kC_yX0_dooms rfl
theorem gM_X0_48 : Cond.methodLink RX0 48 yX1_cover ∈ lw_w := lgw kM_X0_48 rfl
theorem gI_yX1_cover : Cond.instanceMethod yX1_cover ∈ lw_w := lgw kI_yX1_cover rfl
theorem gS_yX1_cover : Cond.selects RX1 yX1_cover yX1_cover ∈ lw_w := lgw kS_yX1_cover rfl
theorem gC_yX1_cover : Cond.code yX1_cover cX1_cover 3 (Option.some Jvm.ClassFile.FieldType.boolean) ∈ lw_w := lgw kC_yX1_cover rfl
theorem gM_X1_29 : Cond.methodLink RX1 29 yX3_isAtLeast ∈ lw_w := lgw kM_X1_29 rfl
theorem gM_L_74 : Cond.methodLink "CrowdLawsLaw" 74 yX7_search ∈ lw_w := lgw kM_L_74 rfl
theorem gI_yX7_search : Cond.instanceMethod yX7_search ∈ lw_w := lgw kI_yX7_search rfl
theorem gS_yX7_search : Cond.selects RX7 yX7_search yX7_search ∈ lw_w := lgw kS_yX7_search rfl
theorem gC_yX7_search : Cond.code yX7_search cX7_search 1 (Option.some Jvm.ClassFile.FieldType.int) ∈ lw_w := lgw kC_yX7_search rfl
theorem gM_X7_149 : Cond.methodLink RX7 149 yX0_seek ∈ lw_w := lgw kM_X7_149 rfl
theorem gI_yX0_seek : Cond.instanceMethod yX0_seek ∈ lw_w := lgw kI_yX0_seek rfl
theorem gS_yX0_seek : Cond.selects RX0 yX0_seek yX0_seek ∈ lw_w := lgw kS_yX0_seek rfl
theorem gC_yX0_seek : Cond.code yX0_seek cX0_seek 3 (Option.none : Option Jvm.ClassFile.FieldType) ∈ lw_w := lgw kC_yX0_seek rfl
theorem gM_X0_68 : Cond.methodLink RX0 68 yX0_takeBadOnes ∈ lw_w := lgw kM_X0_68 rfl
theorem gI_yX0_takeBadOnes : Cond.instanceMethod yX0_takeBadOnes ∈ lw_w := lgw kI_yX0_takeBadOnes rfl
theorem gC_yX0_takeBadOnes : Cond.code yX0_takeBadOnes cX0_takeBadOnes 3 (Option.none : Option Jvm.ClassFile.FieldType) ∈ lw_w := lgw kC_yX0_takeBadOnes rfl
theorem gM_X0_81 : Cond.methodLink RX0 81 yX1_clear ∈ lw_w := lgw kM_X0_81 rfl
theorem gI_yX1_clear : Cond.instanceMethod yX1_clear ∈ lw_w := lgw kI_yX1_clear rfl
theorem gS_yX1_clear : Cond.selects RX1 yX1_clear yX1_clear ∈ lw_w := lgw kS_yX1_clear rfl
theorem gC_yX1_clear : Cond.code yX1_clear cX1_clear 1 (Option.none : Option Jvm.ClassFile.FieldType) ∈ lw_w := lgw kC_yX1_clear rfl
theorem gM_X0_64 : Cond.methodLink RX0 64 yX3_sum ∈ lw_w := lgw kM_X0_64 rfl
theorem gM_X0_90 : Cond.methodLink RX0 90 yX1_take ∈ lw_w := lgw kM_X0_90 rfl
theorem gI_yX1_take : Cond.instanceMethod yX1_take ∈ lw_w := lgw kI_yX1_take rfl
theorem gS_yX1_take : Cond.selects RX1 yX1_take yX1_take ∈ lw_w := lgw kS_yX1_take rfl
theorem gC_yX1_take : Cond.code yX1_take cX1_take 5 (Option.none : Option Jvm.ClassFile.FieldType) ∈ lw_w := lgw kC_yX1_take rfl
theorem gM_X1_33 : Cond.methodLink RX1 33 yX1_areTooMany ∈ lw_w := lgw kM_X1_33 rfl
theorem gI_yX1_areTooMany : Cond.instanceMethod yX1_areTooMany ∈ lw_w := lgw kI_yX1_areTooMany rfl
theorem gS_yX1_areTooMany : Cond.selects RX1 yX1_areTooMany yX1_areTooMany ∈ lw_w := lgw kS_yX1_areTooMany rfl
theorem gC_yX1_areTooMany : Cond.code yX1_areTooMany cX1_areTooMany 1 (Option.some Jvm.ClassFile.FieldType.boolean) ∈ lw_w := lgw kC_yX1_areTooMany rfl
theorem gM_X1_37 : Cond.methodLink RX1 37 yX3_copy ∈ lw_w := lgw kM_X1_37 rfl
theorem gM_X1_41 : Cond.methodLink RX1 41 yX3_comesBefore ∈ lw_w := lgw kM_X1_41 rfl
theorem gI_yX3_comesBefore : Cond.instanceMethod yX3_comesBefore ∈ lw_w := lgw kI_yX3_comesBefore rfl
theorem gS_yX3_comesBefore : Cond.selects RX3 yX3_comesBefore yX3_comesBefore ∈ lw_w := lgw kS_yX3_comesBefore rfl
theorem gC_yX3_comesBefore : Cond.code yX3_comesBefore cX3_comesBefore 6 (Option.some Jvm.ClassFile.FieldType.boolean) ∈ lw_w := lgw kC_yX3_comesBefore rfl
theorem gM_X0_71 : Cond.methodLink RX0 71 yX0_goRound ∈ lw_w := lgw kM_X0_71 rfl
theorem gI_yX0_goRound : Cond.instanceMethod yX0_goRound ∈ lw_w := lgw kI_yX0_goRound rfl
theorem gC_yX0_goRound : Cond.code yX0_goRound cX0_goRound 3 (Option.none : Option Jvm.ClassFile.FieldType) ∈ lw_w := lgw kC_yX0_goRound rfl
theorem gM_X0_94 : Cond.methodLink RX0 94 yX0_findSums ∈ lw_w := lgw kM_X0_94 rfl
theorem gI_yX0_findSums : Cond.instanceMethod yX0_findSums ∈ lw_w := lgw kI_yX0_findSums rfl
theorem gC_yX0_findSums : Cond.code yX0_findSums cX0_findSums 5 (Option.some Jvm.ClassFile.FieldType.int) ∈ lw_w := lgw kC_yX0_findSums rfl
theorem gM_X0_104 : Cond.methodLink RX0 104 Lib.Math.max.name ∈ lw_w := lgw kM_X0_104 rfl
theorem gT_Lib_Math_max_name : Cond.static Lib.Math.max.name ∈ lw_w := lgw kT_Lib_Math_max_name rfl
theorem gC_Lib_Math_max_name : Cond.code Lib.Math.max.name Lib.Math.max.code 2 (Option.some Jvm.ClassFile.FieldType.int) ∈ lw_w := lgw kC_Lib_Math_max_name rfl
theorem gM_X0_120 : Cond.methodLink RX0 120 yX6_findLack ∈ lw_w := lgw kM_X0_120 rfl
theorem gI_yX6_findLack : Cond.instanceMethod yX6_findLack ∈ lw_w := lgw kI_yX6_findLack rfl
theorem gS_yX6_findLack : Cond.selects RX6 yX6_findLack yX6_findLack ∈ lw_w := lgw kS_yX6_findLack rfl
theorem gC_yX6_findLack : Cond.code yX6_findLack cX6_findLack 7 (Option.some Jvm.ClassFile.FieldType.int) ∈ lw_w := lgw kC_yX6_findLack rfl
theorem gM_X6_56 : Cond.methodLink RX6 56 yX6_comers ∈ lw_w := lgw kM_X6_56 rfl
theorem gI_yX6_comers : Cond.instanceMethod yX6_comers ∈ lw_w := lgw kI_yX6_comers rfl
theorem gC_yX6_comers : Cond.code yX6_comers cX6_comers 2 (Option.some Jvm.ClassFile.FieldType.int) ∈ lw_w := lgw kC_yX6_comers rfl
theorem gM_X6_59 : Cond.methodLink RX6 59 Lib.Math.max.name ∈ lw_w := lgw kM_X6_59 rfl
theorem gM_X6_65 : Cond.methodLink RX6 65 yX6_isGoal ∈ lw_w := lgw kM_X6_65 rfl
theorem gI_yX6_isGoal : Cond.instanceMethod yX6_isGoal ∈ lw_w := lgw kI_yX6_isGoal rfl
theorem gC_yX6_isGoal : Cond.code yX6_isGoal cX6_isGoal 4 (Option.some Jvm.ClassFile.FieldType.boolean) ∈ lw_w := lgw kC_yX6_isGoal rfl
theorem gM_X6_69 : Cond.methodLink RX6 69 yX6_goalOf ∈ lw_w := lgw kM_X6_69 rfl
theorem gI_yX6_goalOf : Cond.instanceMethod yX6_goalOf ∈ lw_w := lgw kI_yX6_goalOf rfl
theorem gS_yX6_goalOf : Cond.selects RX6 yX6_goalOf yX6_goalOf ∈ lw_w := lgw kS_yX6_goalOf rfl
theorem gC_yX6_goalOf : Cond.code yX6_goalOf cX6_goalOf 2 (Option.some Jvm.ClassFile.FieldType.int) ∈ lw_w := lgw kC_yX6_goalOf rfl
theorem gM_X6_72 : Cond.methodLink RX6 72 yX3_set ∈ lw_w := lgw kM_X6_72 rfl
theorem gM_X0_126 : Cond.methodLink RX0 126 yX2_set ∈ lw_w := lgw kM_X0_126 rfl
theorem gI_yX2_set : Cond.instanceMethod yX2_set ∈ lw_w := lgw kI_yX2_set rfl
theorem gS_yX2_set : Cond.selects RX2 yX2_set yX2_set ∈ lw_w := lgw kS_yX2_set rfl
theorem gC_yX2_set : Cond.code yX2_set cX2_set 5 (Option.none : Option Jvm.ClassFile.FieldType) ∈ lw_w := lgw kC_yX2_set rfl
theorem gM_X0_77 : Cond.methodLink RX0 77 yX1_areTooMany ∈ lw_w := lgw kM_X0_77 rfl
theorem gM_X0_97 : Cond.methodLink RX0 97 yX0_keepOld ∈ lw_w := lgw kM_X0_97 rfl
theorem gI_yX0_keepOld : Cond.instanceMethod yX0_keepOld ∈ lw_w := lgw kI_yX0_keepOld rfl
theorem gC_yX0_keepOld : Cond.code yX0_keepOld cX0_keepOld 3 (Option.none : Option Jvm.ClassFile.FieldType) ∈ lw_w := lgw kC_yX0_keepOld rfl
theorem gM_X0_101 : Cond.methodLink RX0 101 yX0_bringNew ∈ lw_w := lgw kM_X0_101 rfl
theorem gI_yX0_bringNew : Cond.instanceMethod yX0_bringNew ∈ lw_w := lgw kI_yX0_bringNew rfl
theorem gC_yX0_bringNew : Cond.code yX0_bringNew cX0_bringNew 4 (Option.none : Option Jvm.ClassFile.FieldType) ∈ lw_w := lgw kC_yX0_bringNew rfl
theorem gM_X0_134 : Cond.methodLink RX0 134 yX2_of ∈ lw_w := lgw kM_X0_134 rfl
theorem gI_yX2_of : Cond.instanceMethod yX2_of ∈ lw_w := lgw kI_yX2_of rfl
theorem gS_yX2_of : Cond.selects RX2 yX2_of yX2_of ∈ lw_w := lgw kS_yX2_of rfl
theorem gC_yX2_of : Cond.code yX2_of cX2_of 4 (Option.some Jvm.ClassFile.FieldType.int) ∈ lw_w := lgw kC_yX2_of rfl
theorem gM_X0_137 : Cond.methodLink RX0 137 yX0_setOut ∈ lw_w := lgw kM_X0_137 rfl
theorem gI_yX0_setOut : Cond.instanceMethod yX0_setOut ∈ lw_w := lgw kI_yX0_setOut rfl
theorem gC_yX0_setOut : Cond.code yX0_setOut cX0_setOut 3 (Option.none : Option Jvm.ClassFile.FieldType) ∈ lw_w := lgw kC_yX0_setOut rfl
theorem gM_X0_145 : Cond.methodLink RX0 145 yX3_clear ∈ lw_w := lgw kM_X0_145 rfl
theorem gM_X0_149 : Cond.methodLink RX0 149 yX3_add ∈ lw_w := lgw kM_X0_149 rfl
theorem gM_X0_159 : Cond.methodLink RX0 159 yX6_goalOf ∈ lw_w := lgw kM_X0_159 rfl
theorem gM_X0_141 : Cond.methodLink RX0 141 yX0_fillFrom ∈ lw_w := lgw kM_X0_141 rfl
theorem gI_yX0_fillFrom : Cond.instanceMethod yX0_fillFrom ∈ lw_w := lgw kI_yX0_fillFrom rfl
theorem gC_yX0_fillFrom : Cond.code yX0_fillFrom cX0_fillFrom 9 (Option.some Jvm.ClassFile.FieldType.boolean) ∈ lw_w := lgw kC_yX0_fillFrom rfl
theorem gM_X0_163 : Cond.methodLink RX0 163 yX3_of ∈ lw_w := lgw kM_X0_163 rfl
theorem gM_X0_165 : Cond.methodLink RX0 165 yX6_isLastToGoal ∈ lw_w := lgw kM_X0_165 rfl
theorem gI_yX6_isLastToGoal : Cond.instanceMethod yX6_isLastToGoal ∈ lw_w := lgw kI_yX6_isLastToGoal rfl
theorem gS_yX6_isLastToGoal : Cond.selects RX6 yX6_isLastToGoal yX6_isLastToGoal ∈ lw_w := lgw kS_yX6_isLastToGoal rfl
theorem gC_yX6_isLastToGoal : Cond.code yX6_isLastToGoal cX6_isLastToGoal 4 (Option.some Jvm.ClassFile.FieldType.boolean) ∈ lw_w := lgw kC_yX6_isLastToGoal rfl
theorem gM_X0_169 : Cond.methodLink RX0 169 yX3_set ∈ lw_w := lgw kM_X0_169 rfl
theorem gM_L_78 : Cond.methodLink "CrowdLawsLaw" 78 yX7_bases ∈ lw_w := lgw kM_L_78 rfl
theorem gI_yX7_bases : Cond.instanceMethod yX7_bases ∈ lw_w := lgw kI_yX7_bases rfl
theorem gS_yX7_bases : Cond.selects RX7 yX7_bases yX7_bases ∈ lw_w := lgw kS_yX7_bases rfl
theorem gC_yX7_bases : Cond.code yX7_bases cX7_bases 1 (Option.some Jvm.ClassFile.FieldType.int) ∈ lw_w := lgw kC_yX7_bases rfl
theorem gM_L_82 : Cond.methodLink "CrowdLawsLaw" 82 yX7_base ∈ lw_w := lgw kM_L_82 rfl
theorem gI_yX7_base : Cond.instanceMethod yX7_base ∈ lw_w := lgw kI_yX7_base rfl
theorem gS_yX7_base : Cond.selects RX7 yX7_base yX7_base ∈ lw_w := lgw kS_yX7_base rfl
theorem gC_yX7_base : Cond.code yX7_base cX7_base 3 (Option.some Jvm.ClassFile.FieldType.int) ∈ lw_w := lgw kC_yX7_base rfl
theorem gM_L_86 : Cond.methodLink "CrowdLawsLaw" 86 yX7_least ∈ lw_w := lgw kM_L_86 rfl
theorem gI_yX7_least : Cond.instanceMethod yX7_least ∈ lw_w := lgw kI_yX7_least rfl
theorem gS_yX7_least : Cond.selects RX7 yX7_least yX7_least ∈ lw_w := lgw kS_yX7_least rfl
theorem gC_yX7_least : Cond.code yX7_least cX7_least 1 (Option.some Jvm.ClassFile.FieldType.int) ∈ lw_w := lgw kC_yX7_least rfl
theorem gM_X7_165 : Cond.methodLink RX7 165 yX0_leastFromStart ∈ lw_w := lgw kM_X7_165 rfl
theorem gI_yX0_leastFromStart : Cond.instanceMethod yX0_leastFromStart ∈ lw_w := lgw kI_yX0_leastFromStart rfl
theorem gS_yX0_leastFromStart : Cond.selects RX0 yX0_leastFromStart yX0_leastFromStart ∈ lw_w := lgw kS_yX0_leastFromStart rfl
theorem gC_yX0_leastFromStart : Cond.code yX0_leastFromStart cX0_leastFromStart 2 (Option.some Jvm.ClassFile.FieldType.int) ∈ lw_w := lgw kC_yX0_leastFromStart rfl
theorem gM_X0_59 : Cond.methodLink RX0 59 yX5_isInStart ∈ lw_w := lgw kM_X0_59 rfl
theorem gI_yX5_isInStart : Cond.instanceMethod yX5_isInStart ∈ lw_w := lgw kI_yX5_isInStart rfl
theorem gS_yX5_isInStart : Cond.selects RX5 yX5_isInStart yX5_isInStart ∈ lw_w := lgw kS_yX5_isInStart rfl
theorem gC_yX5_isInStart : Cond.code yX5_isInStart cX5_isInStart 3 (Option.some Jvm.ClassFile.FieldType.boolean) ∈ lw_w := lgw kC_yX5_isInStart rfl
theorem gM_X5_57 : Cond.methodLink RX5 57 yX3_of ∈ lw_w := lgw kM_X5_57 rfl
theorem gM_L_90 : Cond.methodLink "CrowdLawsLaw" 90 yX7_reach ∈ lw_w := lgw kM_L_90 rfl
theorem gI_yX7_reach : Cond.instanceMethod yX7_reach ∈ lw_w := lgw kI_yX7_reach rfl
theorem gS_yX7_reach : Cond.selects RX7 yX7_reach yX7_reach ∈ lw_w := lgw kS_yX7_reach rfl
theorem gC_yX7_reach : Cond.code yX7_reach cX7_reach 2 (Option.some Jvm.ClassFile.FieldType.int) ∈ lw_w := lgw kC_yX7_reach rfl
theorem gM_X7_168 : Cond.methodLink RX7 168 yX7_isWalkable ∈ lw_w := lgw kM_X7_168 rfl
theorem gT_yX7_isWalkable : Cond.static yX7_isWalkable ∈ lw_w := lgw kT_yX7_isWalkable rfl
theorem gC_yX7_isWalkable : Cond.code yX7_isWalkable cX7_isWalkable 1 (Option.some Jvm.ClassFile.FieldType.boolean) ∈ lw_w := lgw kC_yX7_isWalkable rfl
theorem gM_X7_171 : Cond.methodLink RX7 171 yX4_walk ∈ lw_w := lgw kM_X7_171 rfl
theorem gI_yX4_walk : Cond.instanceMethod yX4_walk ∈ lw_w := lgw kI_yX4_walk rfl
theorem gS_yX4_walk : Cond.selects RX4 yX4_walk yX4_walk ∈ lw_w := lgw kS_yX4_walk rfl
theorem gC_yX4_walk : Cond.code yX4_walk cX4_walk 2 (Option.none : Option Jvm.ClassFile.FieldType) ∈ lw_w := lgw kC_yX4_walk rfl
theorem gM_X4_64 : Cond.methodLink RX4 64 yX4_listCrowds ∈ lw_w := lgw kM_X4_64 rfl
theorem gI_yX4_listCrowds : Cond.instanceMethod yX4_listCrowds ∈ lw_w := lgw kI_yX4_listCrowds rfl
theorem gC_yX4_listCrowds : Cond.code yX4_listCrowds cX4_listCrowds 3 (Option.none : Option Jvm.ClassFile.FieldType) ∈ lw_w := lgw kC_yX4_listCrowds rfl
theorem gM_X4_99 : Cond.methodLink RX4 99 yX3_clear ∈ lw_w := lgw kM_X4_99 rfl
theorem gM_X4_107 : Cond.methodLink RX4 107 yX3_set ∈ lw_w := lgw kM_X4_107 rfl
theorem gM_X4_111 : Cond.methodLink RX4 111 yX4_codeOf ∈ lw_w := lgw kM_X4_111 rfl
theorem gI_yX4_codeOf : Cond.instanceMethod yX4_codeOf ∈ lw_w := lgw kI_yX4_codeOf rfl
theorem gC_yX4_codeOf : Cond.code yX4_codeOf cX4_codeOf 4 (Option.some Jvm.ClassFile.FieldType.int) ∈ lw_w := lgw kC_yX4_codeOf rfl
theorem gM_X4_90 : Cond.methodLink RX4 90 yX3_of ∈ lw_w := lgw kM_X4_90 rfl
theorem gM_X4_115 : Cond.methodLink RX4 115 yX4_advance ∈ lw_w := lgw kM_X4_115 rfl
theorem gI_yX4_advance : Cond.instanceMethod yX4_advance ∈ lw_w := lgw kI_yX4_advance rfl
theorem gC_yX4_advance : Cond.code yX4_advance cX4_advance 4 (Option.some Jvm.ClassFile.FieldType.boolean) ∈ lw_w := lgw kC_yX4_advance rfl
theorem gM_X4_119 : Cond.methodLink RX4 119 yX3_add ∈ lw_w := lgw kM_X4_119 rfl
theorem gM_X4_68 : Cond.methodLink RX4 68 yX4_beginAtStart ∈ lw_w := lgw kM_X4_68 rfl
theorem gI_yX4_beginAtStart : Cond.instanceMethod yX4_beginAtStart ∈ lw_w := lgw kI_yX4_beginAtStart rfl
theorem gC_yX4_beginAtStart : Cond.code yX4_beginAtStart cX4_beginAtStart 2 (Option.none : Option Jvm.ClassFile.FieldType) ∈ lw_w := lgw kC_yX4_beginAtStart rfl
theorem gM_X4_87 : Cond.methodLink RX4 87 yX4_decode ∈ lw_w := lgw kM_X4_87 rfl
theorem gI_yX4_decode : Cond.instanceMethod yX4_decode ∈ lw_w := lgw kI_yX4_decode rfl
theorem gC_yX4_decode : Cond.code yX4_decode cX4_decode 4 (Option.none : Option Jvm.ClassFile.FieldType) ∈ lw_w := lgw kC_yX4_decode rfl
theorem gM_X4_126 : Cond.methodLink RX4 126 yX5_isInStart ∈ lw_w := lgw kM_X4_126 rfl
theorem gM_X4_129 : Cond.methodLink RX4 129 yX4_come ∈ lw_w := lgw kM_X4_129 rfl
theorem gI_yX4_come : Cond.instanceMethod yX4_come ∈ lw_w := lgw kI_yX4_come rfl
theorem gC_yX4_come : Cond.code yX4_come cX4_come 3 (Option.none : Option Jvm.ClassFile.FieldType) ∈ lw_w := lgw kC_yX4_come rfl
theorem gM_X4_122 : Cond.methodLink RX4 122 yX4_isPlace ∈ lw_w := lgw kM_X4_122 rfl
theorem gI_yX4_isPlace : Cond.instanceMethod yX4_isPlace ∈ lw_w := lgw kI_yX4_isPlace rfl
theorem gC_yX4_isPlace : Cond.code yX4_isPlace cX4_isPlace 2 (Option.some Jvm.ClassFile.FieldType.boolean) ∈ lw_w := lgw kC_yX4_isPlace rfl
theorem gM_X4_71 : Cond.methodLink RX4 71 yX4_goOn ∈ lw_w := lgw kM_X4_71 rfl
theorem gI_yX4_goOn : Cond.instanceMethod yX4_goOn ∈ lw_w := lgw kI_yX4_goOn rfl
theorem gC_yX4_goOn : Cond.code yX4_goOn cX4_goOn 6 (Option.none : Option Jvm.ClassFile.FieldType) ∈ lw_w := lgw kC_yX4_goOn rfl
theorem gM_X4_132 : Cond.methodLink RX4 132 yX4_levelOf ∈ lw_w := lgw kM_X4_132 rfl
theorem gI_yX4_levelOf : Cond.instanceMethod yX4_levelOf ∈ lw_w := lgw kI_yX4_levelOf rfl
theorem gC_yX4_levelOf : Cond.code yX4_levelOf cX4_levelOf 2 (Option.some Jvm.ClassFile.FieldType.int) ∈ lw_w := lgw kC_yX4_levelOf rfl
theorem gM_X4_83 : Cond.methodLink RX4 83 yX4_codeAt ∈ lw_w := lgw kM_X4_83 rfl
theorem gI_yX4_codeAt : Cond.instanceMethod yX4_codeAt ∈ lw_w := lgw kI_yX4_codeAt rfl
theorem gC_yX4_codeAt : Cond.code yX4_codeAt cX4_codeAt 2 (Option.some Jvm.ClassFile.FieldType.int) ∈ lw_w := lgw kC_yX4_codeAt rfl
theorem gM_X4_142 : Cond.methodLink RX4 142 yX6_fits ∈ lw_w := lgw kM_X4_142 rfl
theorem gM_X4_147 : Cond.methodLink RX4 147 yX6_lead ∈ lw_w := lgw kM_X4_147 rfl
theorem gM_X4_151 : Cond.methodLink RX4 151 yX4_placeOf ∈ lw_w := lgw kM_X4_151 rfl
theorem gI_yX4_placeOf : Cond.instanceMethod yX4_placeOf ∈ lw_w := lgw kI_yX4_placeOf rfl
theorem gC_yX4_placeOf : Cond.code yX4_placeOf cX4_placeOf 5 (Option.some Jvm.ClassFile.FieldType.int) ∈ lw_w := lgw kC_yX4_placeOf rfl
theorem gM_X4_154 : Cond.methodLink RX4 154 yX2_set ∈ lw_w := lgw kM_X4_154 rfl
theorem gM_X4_74 : Cond.methodLink RX4 74 yX4_findFewest ∈ lw_w := lgw kM_X4_74 rfl
theorem gI_yX4_findFewest : Cond.instanceMethod yX4_findFewest ∈ lw_w := lgw kI_yX4_findFewest rfl
theorem gC_yX4_findFewest : Cond.code yX4_findFewest cX4_findFewest 2 (Option.none : Option Jvm.ClassFile.FieldType) ∈ lw_w := lgw kC_yX4_findFewest rfl
theorem gM_X4_157 : Cond.methodLink RX4 157 yX5_isBadCrowd ∈ lw_w := lgw kM_X4_157 rfl
theorem gM_X4_77 : Cond.methodLink RX4 77 yX4_markLeading ∈ lw_w := lgw kM_X4_77 rfl
theorem gI_yX4_markLeading : Cond.instanceMethod yX4_markLeading ∈ lw_w := lgw kI_yX4_markLeading rfl
theorem gC_yX4_markLeading : Cond.code yX4_markLeading cX4_markLeading 4 (Option.none : Option Jvm.ClassFile.FieldType) ∈ lw_w := lgw kC_yX4_markLeading rfl
theorem gM_X4_160 : Cond.methodLink RX4 160 yX4_firstLeading ∈ lw_w := lgw kM_X4_160 rfl
theorem gI_yX4_firstLeading : Cond.instanceMethod yX4_firstLeading ∈ lw_w := lgw kI_yX4_firstLeading rfl
theorem gC_yX4_firstLeading : Cond.code yX4_firstLeading cX4_firstLeading 6 (Option.some Jvm.ClassFile.FieldType.int) ∈ lw_w := lgw kC_yX4_firstLeading rfl
theorem gM_X4_163 : Cond.methodLink RX4 163 yX2_of ∈ lw_w := lgw kM_X4_163 rfl
theorem gM_X4_80 : Cond.methodLink RX4 80 yX4_choosePath ∈ lw_w := lgw kM_X4_80 rfl
theorem gI_yX4_choosePath : Cond.instanceMethod yX4_choosePath ∈ lw_w := lgw kI_yX4_choosePath rfl
theorem gC_yX4_choosePath : Cond.code yX4_choosePath cX4_choosePath 3 (Option.none : Option Jvm.ClassFile.FieldType) ∈ lw_w := lgw kC_yX4_choosePath rfl
theorem gM_L_94 : Cond.methodLink "CrowdLawsLaw" 94 yX7_steps ∈ lw_w := lgw kM_L_94 rfl
theorem gI_yX7_steps : Cond.instanceMethod yX7_steps ∈ lw_w := lgw kI_yX7_steps rfl
theorem gS_yX7_steps : Cond.selects RX7 yX7_steps yX7_steps ∈ lw_w := lgw kS_yX7_steps rfl
theorem gC_yX7_steps : Cond.code yX7_steps cX7_steps 2 (Option.some Jvm.ClassFile.FieldType.int) ∈ lw_w := lgw kC_yX7_steps rfl
theorem gM_L_98 : Cond.methodLink "CrowdLawsLaw" 98 yX7_run ∈ lw_w := lgw kM_L_98 rfl
theorem gI_yX7_run : Cond.instanceMethod yX7_run ∈ lw_w := lgw kI_yX7_run rfl
theorem gS_yX7_run : Cond.selects RX7 yX7_run yX7_run ∈ lw_w := lgw kS_yX7_run rfl
theorem gC_yX7_run : Cond.code yX7_run cX7_run 4 (Option.some Jvm.ClassFile.FieldType.int) ∈ lw_w := lgw kC_yX7_run rfl
theorem gM_X7_180 : Cond.methodLink RX7 180 yX4_onPath ∈ lw_w := lgw kM_X7_180 rfl
theorem gI_yX4_onPath : Cond.instanceMethod yX4_onPath ∈ lw_w := lgw kI_yX4_onPath rfl
theorem gS_yX4_onPath : Cond.selects RX4 yX4_onPath yX4_onPath ∈ lw_w := lgw kS_yX4_onPath rfl
theorem gC_yX4_onPath : Cond.code yX4_onPath cX4_onPath 3 (Option.some Jvm.ClassFile.FieldType.int) ∈ lw_w := lgw kC_yX4_onPath rfl
theorem gM_L_102 : Cond.methodLink "CrowdLawsLaw" 102 yX7_doomedOf ∈ lw_w := lgw kM_L_102 rfl
theorem gI_yX7_doomedOf : Cond.instanceMethod yX7_doomedOf ∈ lw_w := lgw kI_yX7_doomedOf rfl
theorem gS_yX7_doomedOf : Cond.selects RX7 yX7_doomedOf yX7_doomedOf ∈ lw_w := lgw kS_yX7_doomedOf rfl
theorem gC_yX7_doomedOf : Cond.code yX7_doomedOf cX7_doomedOf 2 (Option.some Jvm.ClassFile.FieldType.int) ∈ lw_w := lgw kC_yX7_doomedOf rfl
theorem gM_X7_184 : Cond.methodLink RX7 184 yX4_countDoomed ∈ lw_w := lgw kM_X7_184 rfl
theorem gI_yX4_countDoomed : Cond.instanceMethod yX4_countDoomed ∈ lw_w := lgw kI_yX4_countDoomed rfl
theorem gS_yX4_countDoomed : Cond.selects RX4 yX4_countDoomed yX4_countDoomed ∈ lw_w := lgw kS_yX4_countDoomed rfl
theorem gC_yX4_countDoomed : Cond.code yX4_countDoomed cX4_countDoomed 4 (Option.some Jvm.ClassFile.FieldType.int) ∈ lw_w := lgw kC_yX4_countDoomed rfl
theorem gM_X4_93 : Cond.methodLink RX4 93 yX0_dooms ∈ lw_w := lgw kM_X4_93 rfl
theorem gM_L_106 : Cond.methodLink "CrowdLawsLaw" 106 yX7_total ∈ lw_w := lgw kM_L_106 rfl
theorem gI_yX7_total : Cond.instanceMethod yX7_total ∈ lw_w := lgw kI_yX7_total rfl
theorem gS_yX7_total : Cond.selects RX7 yX7_total yX7_total ∈ lw_w := lgw kS_yX7_total rfl
theorem gC_yX7_total : Cond.code yX7_total cX7_total 2 (Option.some Jvm.ClassFile.FieldType.int) ∈ lw_w := lgw kC_yX7_total rfl
theorem gL_L_10 : Cond.classLink "CrowdLawsLaw" 10 RX8 ∈ lw_w := lgw kL_L_10 rfl
theorem gB_X8 : Cond.instantiable RX8 28 ∈ lw_w := lgw kB_X8 rfl
theorem gM_L_12 : Cond.methodLink "CrowdLawsLaw" 12 yX8_init ∈ lw_w := lgw kM_L_12 rfl
theorem gI_yX8_init : Cond.instanceMethod yX8_init ∈ lw_w := lgw kI_yX8_init rfl
theorem gC_yX8_init : Cond.code yX8_init cX8_init 1 (Option.none : Option Jvm.ClassFile.FieldType) ∈ lw_w := lgw kC_yX8_init rfl
theorem gM_X8_1 : Cond.methodLink RX8 1 objectInit ∈ lw_w := lgw kM_X8_1 rfl
theorem gK_X8_62 : Cond.constant RX8 62 (59049 : Int32) ∈ lw_w := lgw kK_X8_62 rfl
theorem gF_X8_73 : Cond.fieldLink RX8 73 "CrowdLawsModel" "thrown" "I" ∈ lw_w := lgw kF_X8_73 rfl
theorem gF_X8_7 : Cond.fieldLink RX8 7 "CrowdLawsModel" "states" "I" ∈ lw_w := lgw kF_X8_7 rfl
theorem gF_X8_13 : Cond.fieldLink RX8 13 "CrowdLawsModel" "start" "I" ∈ lw_w := lgw kF_X8_13 rfl
theorem gF_X8_80 : Cond.fieldLink RX8 80 "CrowdLawsModel" "rules" "I" ∈ lw_w := lgw kF_X8_80 rfl
theorem gF_X8_16 : Cond.fieldLink RX8 16 "CrowdLawsModel" "sort" "[I" ∈ lw_w := lgw kF_X8_16 rfl
theorem gF_X8_20 : Cond.fieldLink RX8 20 "CrowdLawsModel" "p" "[I" ∈ lw_w := lgw kF_X8_20 rfl
theorem gF_X8_23 : Cond.fieldLink RX8 23 "CrowdLawsModel" "q" "[I" ∈ lw_w := lgw kF_X8_23 rfl
theorem gF_X8_26 : Cond.fieldLink RX8 26 "CrowdLawsModel" "r" "[I" ∈ lw_w := lgw kF_X8_26 rfl
theorem gF_X8_29 : Cond.fieldLink RX8 29 "CrowdLawsModel" "t" "[I" ∈ lw_w := lgw kF_X8_29 rfl
theorem gF_X8_32 : Cond.fieldLink RX8 32 "CrowdLawsModel" "map" "[I" ∈ lw_w := lgw kF_X8_32 rfl
theorem gF_X8_35 : Cond.fieldLink RX8 35 "CrowdLawsModel" "need" "[I" ∈ lw_w := lgw kF_X8_35 rfl
theorem gF_X8_85 : Cond.fieldLink RX8 85 "CrowdLawsModel" "bads" "I" ∈ lw_w := lgw kF_X8_85 rfl
theorem gF_X8_38 : Cond.fieldLink RX8 38 "CrowdLawsModel" "bad" "[I" ∈ lw_w := lgw kF_X8_38 rfl
theorem gF_X8_41 : Cond.fieldLink RX8 41 "CrowdLawsModel" "hand" "[I" ∈ lw_w := lgw kF_X8_41 rfl
theorem gF_X8_88 : Cond.fieldLink RX8 88 "CrowdLawsModel" "isSearched" "Z" ∈ lw_w := lgw kF_X8_88 rfl
theorem gF_X8_135 : Cond.fieldLink RX8 135 "CrowdLawsModel" "isSpent" "Z" ∈ lw_w := lgw kF_X8_135 rfl
theorem gF_X8_128 : Cond.fieldLink RX8 128 "CrowdLawsModel" "bases" "I" ∈ lw_w := lgw kF_X8_128 rfl
theorem gF_X8_44 : Cond.fieldLink RX8 44 "CrowdLawsModel" "base" "[I" ∈ lw_w := lgw kF_X8_44 rfl
theorem gF_X8_145 : Cond.fieldLink RX8 145 "CrowdLawsModel" "news" "I" ∈ lw_w := lgw kF_X8_145 rfl
theorem gF_X8_47 : Cond.fieldLink RX8 47 "CrowdLawsModel" "next" "[I" ∈ lw_w := lgw kF_X8_47 rfl
theorem gF_X8_50 : Cond.fieldLink RX8 50 "CrowdLawsModel" "one" "[I" ∈ lw_w := lgw kF_X8_50 rfl
theorem gF_X8_53 : Cond.fieldLink RX8 53 "CrowdLawsModel" "rest" "[I" ∈ lw_w := lgw kF_X8_53 rfl
theorem gF_X8_56 : Cond.fieldLink RX8 56 "CrowdLawsModel" "after" "[I" ∈ lw_w := lgw kF_X8_56 rfl
theorem gF_X8_185 : Cond.fieldLink RX8 185 "CrowdLawsModel" "crowds" "I" ∈ lw_w := lgw kF_X8_185 rfl
theorem gF_X8_59 : Cond.fieldLink RX8 59 "CrowdLawsModel" "code" "[I" ∈ lw_w := lgw kF_X8_59 rfl
theorem gF_X8_63 : Cond.fieldLink RX8 63 "CrowdLawsModel" "place" "[I" ∈ lw_w := lgw kF_X8_63 rfl
theorem gF_X8_66 : Cond.fieldLink RX8 66 "CrowdLawsModel" "far" "[I" ∈ lw_w := lgw kF_X8_66 rfl
theorem gF_X8_69 : Cond.fieldLink RX8 69 "CrowdLawsModel" "comes" "[Z" ∈ lw_w := lgw kF_X8_69 rfl
theorem gM_L_17 : Cond.methodLink "CrowdLawsLaw" 17 yX8_states ∈ lw_w := lgw kM_L_17 rfl
theorem gI_yX8_states : Cond.instanceMethod yX8_states ∈ lw_w := lgw kI_yX8_states rfl
theorem gS_yX8_states : Cond.selects RX8 yX8_states yX8_states ∈ lw_w := lgw kS_yX8_states rfl
theorem gC_yX8_states : Cond.code yX8_states cX8_states 4 (Option.some Jvm.ClassFile.FieldType.int) ∈ lw_w := lgw kC_yX8_states rfl
theorem gK_X8_83 : Cond.constantLong RX8 83 (5 : Int64) ∈ lw_w := lgw kK_X8_83 rfl
theorem gM_X8_76 : Cond.methodLink RX8 76 yX8_in ∈ lw_w := lgw kM_X8_76 rfl
theorem gT_yX8_in : Cond.static yX8_in ∈ lw_w := lgw kT_yX8_in rfl
theorem gC_yX8_in : Cond.code yX8_in cX8_in 6 (Option.some Jvm.ClassFile.FieldType.boolean) ∈ lw_w := lgw kC_yX8_in rfl
theorem gM_L_21 : Cond.methodLink "CrowdLawsLaw" 21 yX8_start ∈ lw_w := lgw kM_L_21 rfl
theorem gI_yX8_start : Cond.instanceMethod yX8_start ∈ lw_w := lgw kI_yX8_start rfl
theorem gS_yX8_start : Cond.selects RX8 yX8_start yX8_start ∈ lw_w := lgw kS_yX8_start rfl
theorem gC_yX8_start : Cond.code yX8_start cX8_start 3 (Option.some Jvm.ClassFile.FieldType.int) ∈ lw_w := lgw kC_yX8_start rfl
theorem gM_L_26 : Cond.methodLink "CrowdLawsLaw" 26 yX8_alone ∈ lw_w := lgw kM_L_26 rfl
theorem gI_yX8_alone : Cond.instanceMethod yX8_alone ∈ lw_w := lgw kI_yX8_alone rfl
theorem gS_yX8_alone : Cond.selects RX8 yX8_alone yX8_alone ∈ lw_w := lgw kS_yX8_alone rfl
theorem gC_yX8_alone : Cond.code yX8_alone cX8_alone 3 (Option.some Jvm.ClassFile.FieldType.int) ∈ lw_w := lgw kC_yX8_alone rfl
theorem gM_X8_92 : Cond.methodLink RX8 92 yX8_noState ∈ lw_w := lgw kM_X8_92 rfl
theorem gI_yX8_noState : Cond.instanceMethod yX8_noState ∈ lw_w := lgw kI_yX8_noState rfl
theorem gC_yX8_noState : Cond.code yX8_noState cX8_noState 2 (Option.some Jvm.ClassFile.FieldType.boolean) ∈ lw_w := lgw kC_yX8_noState rfl
theorem gM_X8_96 : Cond.methodLink RX8 96 yX8_newRule ∈ lw_w := lgw kM_X8_96 rfl
theorem gI_yX8_newRule : Cond.instanceMethod yX8_newRule ∈ lw_w := lgw kI_yX8_newRule rfl
theorem gC_yX8_newRule : Cond.code yX8_newRule cX8_newRule 7 (Option.some Jvm.ClassFile.FieldType.int) ∈ lw_w := lgw kC_yX8_newRule rfl
theorem gM_L_31 : Cond.methodLink "CrowdLawsLaw" 31 yX8_pair ∈ lw_w := lgw kM_L_31 rfl
theorem gI_yX8_pair : Cond.instanceMethod yX8_pair ∈ lw_w := lgw kI_yX8_pair rfl
theorem gS_yX8_pair : Cond.selects RX8 yX8_pair yX8_pair ∈ lw_w := lgw kS_yX8_pair rfl
theorem gC_yX8_pair : Cond.code yX8_pair cX8_pair 5 (Option.some Jvm.ClassFile.FieldType.int) ∈ lw_w := lgw kC_yX8_pair rfl
theorem gM_L_36 : Cond.methodLink "CrowdLawsLaw" 36 yX8_all ∈ lw_w := lgw kM_L_36 rfl
theorem gI_yX8_all : Cond.instanceMethod yX8_all ∈ lw_w := lgw kI_yX8_all rfl
theorem gS_yX8_all : Cond.selects RX8 yX8_all yX8_all ∈ lw_w := lgw kS_yX8_all rfl
theorem gC_yX8_all : Cond.code yX8_all cX8_all 7 (Option.some Jvm.ClassFile.FieldType.int) ∈ lw_w := lgw kC_yX8_all rfl
theorem gM_X8_100 : Cond.methodLink RX8 100 yX8_isShort ∈ lw_w := lgw kM_X8_100 rfl
theorem gI_yX8_isShort : Cond.instanceMethod yX8_isShort ∈ lw_w := lgw kI_yX8_isShort rfl
theorem gC_yX8_isShort : Cond.code yX8_isShort cX8_isShort 4 (Option.some Jvm.ClassFile.FieldType.boolean) ∈ lw_w := lgw kC_yX8_isShort rfl
theorem gM_L_40 : Cond.methodLink "CrowdLawsLaw" 40 yX8_need ∈ lw_w := lgw kM_L_40 rfl
theorem gI_yX8_need : Cond.instanceMethod yX8_need ∈ lw_w := lgw kI_yX8_need rfl
theorem gS_yX8_need : Cond.selects RX8 yX8_need yX8_need ∈ lw_w := lgw kS_yX8_need rfl
theorem gC_yX8_need : Cond.code yX8_need cX8_need 4 (Option.some Jvm.ClassFile.FieldType.int) ∈ lw_w := lgw kC_yX8_need rfl
theorem gM_X8_103 : Cond.methodLink RX8 103 yX8_noRule ∈ lw_w := lgw kM_X8_103 rfl
theorem gI_yX8_noRule : Cond.instanceMethod yX8_noRule ∈ lw_w := lgw kI_yX8_noRule rfl
theorem gC_yX8_noRule : Cond.code yX8_noRule cX8_noRule 2 (Option.some Jvm.ClassFile.FieldType.boolean) ∈ lw_w := lgw kC_yX8_noRule rfl
theorem gM_L_44 : Cond.methodLink "CrowdLawsLaw" 44 yX8_rule ∈ lw_w := lgw kM_L_44 rfl
theorem gI_yX8_rule : Cond.instanceMethod yX8_rule ∈ lw_w := lgw kI_yX8_rule rfl
theorem gS_yX8_rule : Cond.selects RX8 yX8_rule yX8_rule ∈ lw_w := lgw kS_yX8_rule rfl
theorem gC_yX8_rule : Cond.code yX8_rule cX8_rule 3 (Option.some Jvm.ClassFile.FieldType.int) ∈ lw_w := lgw kC_yX8_rule rfl
theorem gM_L_48 : Cond.methodLink "CrowdLawsLaw" 48 yX8_bad ∈ lw_w := lgw kM_L_48 rfl
theorem gI_yX8_bad : Cond.instanceMethod yX8_bad ∈ lw_w := lgw kI_yX8_bad rfl
theorem gS_yX8_bad : Cond.selects RX8 yX8_bad yX8_bad ∈ lw_w := lgw kS_yX8_bad rfl
theorem gC_yX8_bad : Cond.code yX8_bad cX8_bad 4 (Option.some Jvm.ClassFile.FieldType.int) ∈ lw_w := lgw kC_yX8_bad rfl
theorem gM_L_52 : Cond.methodLink "CrowdLawsLaw" 52 yX8_put ∈ lw_w := lgw kM_L_52 rfl
theorem gI_yX8_put : Cond.instanceMethod yX8_put ∈ lw_w := lgw kI_yX8_put rfl
theorem gS_yX8_put : Cond.selects RX8 yX8_put yX8_put ∈ lw_w := lgw kS_yX8_put rfl
theorem gC_yX8_put : Cond.code yX8_put cX8_put 4 (Option.some Jvm.ClassFile.FieldType.int) ∈ lw_w := lgw kC_yX8_put rfl
theorem gK_X8_114 : Cond.constantLong RX8 114 (50 : Int64) ∈ lw_w := lgw kK_X8_114 rfl
theorem gM_X8_116 : Cond.methodLink RX8 116 yX8_sum ∈ lw_w := lgw kM_X8_116 rfl
theorem gT_yX8_sum : Cond.static yX8_sum ∈ lw_w := lgw kT_yX8_sum rfl
theorem gC_yX8_sum : Cond.code yX8_sum cX8_sum 2 (Option.some Jvm.ClassFile.FieldType.int) ∈ lw_w := lgw kC_yX8_sum rfl
theorem gM_L_56 : Cond.methodLink "CrowdLawsLaw" 56 yX8_at ∈ lw_w := lgw kM_L_56 rfl
theorem gI_yX8_at : Cond.instanceMethod yX8_at ∈ lw_w := lgw kI_yX8_at rfl
theorem gS_yX8_at : Cond.selects RX8 yX8_at yX8_at ∈ lw_w := lgw kS_yX8_at rfl
theorem gC_yX8_at : Cond.code yX8_at cX8_at 2 (Option.some Jvm.ClassFile.FieldType.int) ∈ lw_w := lgw kC_yX8_at rfl
theorem gM_L_60 : Cond.methodLink "CrowdLawsLaw" 60 yX8_can ∈ lw_w := lgw kM_L_60 rfl
theorem gI_yX8_can : Cond.instanceMethod yX8_can ∈ lw_w := lgw kI_yX8_can rfl
theorem gS_yX8_can : Cond.selects RX8 yX8_can yX8_can ∈ lw_w := lgw kS_yX8_can rfl
theorem gC_yX8_can : Cond.code yX8_can cX8_can 2 (Option.some Jvm.ClassFile.FieldType.int) ∈ lw_w := lgw kC_yX8_can rfl
theorem gM_X8_106 : Cond.methodLink RX8 106 yX8_leaves ∈ lw_w := lgw kM_X8_106 rfl
theorem gI_yX8_leaves : Cond.instanceMethod yX8_leaves ∈ lw_w := lgw kI_yX8_leaves rfl
theorem gC_yX8_leaves : Cond.code yX8_leaves cX8_leaves 5 (Option.some Jvm.ClassFile.FieldType.boolean) ∈ lw_w := lgw kC_yX8_leaves rfl
theorem gM_L_64 : Cond.methodLink "CrowdLawsLaw" 64 yX8_step ∈ lw_w := lgw kM_L_64 rfl
theorem gI_yX8_step : Cond.instanceMethod yX8_step ∈ lw_w := lgw kI_yX8_step rfl
theorem gS_yX8_step : Cond.selects RX8 yX8_step yX8_step ∈ lw_w := lgw kS_yX8_step rfl
theorem gC_yX8_step : Cond.code yX8_step cX8_step 4 (Option.some Jvm.ClassFile.FieldType.int) ∈ lw_w := lgw kC_yX8_step rfl
theorem gM_X8_120 : Cond.methodLink RX8 120 yX8_goBy ∈ lw_w := lgw kM_X8_120 rfl
theorem gI_yX8_goBy : Cond.instanceMethod yX8_goBy ∈ lw_w := lgw kI_yX8_goBy rfl
theorem gC_yX8_goBy : Cond.code yX8_goBy cX8_goBy 5 (Option.none : Option Jvm.ClassFile.FieldType) ∈ lw_w := lgw kC_yX8_goBy rfl
theorem gM_X8_110 : Cond.methodLink RX8 110 yX8_mapped ∈ lw_w := lgw kM_X8_110 rfl
theorem gI_yX8_mapped : Cond.instanceMethod yX8_mapped ∈ lw_w := lgw kI_yX8_mapped rfl
theorem gC_yX8_mapped : Cond.code yX8_mapped cX8_mapped 5 (Option.some Jvm.ClassFile.FieldType.int) ∈ lw_w := lgw kC_yX8_mapped rfl
theorem gM_L_69 : Cond.methodLink "CrowdLawsLaw" 69 yX8_isBad ∈ lw_w := lgw kM_L_69 rfl
theorem gI_yX8_isBad : Cond.instanceMethod yX8_isBad ∈ lw_w := lgw kI_yX8_isBad rfl
theorem gS_yX8_isBad : Cond.selects RX8 yX8_isBad yX8_isBad ∈ lw_w := lgw kS_yX8_isBad rfl
theorem gC_yX8_isBad : Cond.code yX8_isBad cX8_isBad 1 (Option.some Jvm.ClassFile.FieldType.int) ∈ lw_w := lgw kC_yX8_isBad rfl
theorem gM_X8_124 : Cond.methodLink RX8 124 yX8_isBadOne ∈ lw_w := lgw kM_X8_124 rfl
theorem gI_yX8_isBadOne : Cond.instanceMethod yX8_isBadOne ∈ lw_w := lgw kI_yX8_isBadOne rfl
theorem gC_yX8_isBadOne : Cond.code yX8_isBadOne cX8_isBadOne 6 (Option.some Jvm.ClassFile.FieldType.boolean) ∈ lw_w := lgw kC_yX8_isBadOne rfl
theorem gM_L_73 : Cond.methodLink "CrowdLawsLaw" 73 yX8_doomed ∈ lw_w := lgw kM_L_73 rfl
theorem gI_yX8_doomed : Cond.instanceMethod yX8_doomed ∈ lw_w := lgw kI_yX8_doomed rfl
theorem gS_yX8_doomed : Cond.selects RX8 yX8_doomed yX8_doomed ∈ lw_w := lgw kS_yX8_doomed rfl
theorem gC_yX8_doomed : Cond.code yX8_doomed cX8_doomed 1 (Option.some Jvm.ClassFile.FieldType.int) ∈ lw_w := lgw kC_yX8_doomed rfl
theorem gM_X8_138 : Cond.methodLink RX8 138 yX8_noSearch ∈ lw_w := lgw kM_X8_138 rfl
theorem gI_yX8_noSearch : Cond.instanceMethod yX8_noSearch ∈ lw_w := lgw kI_yX8_noSearch rfl
theorem gC_yX8_noSearch : Cond.code yX8_noSearch cX8_noSearch 1 (Option.some Jvm.ClassFile.FieldType.int) ∈ lw_w := lgw kC_yX8_noSearch rfl
theorem gM_X8_142 : Cond.methodLink RX8 142 yX8_isDoomed ∈ lw_w := lgw kM_X8_142 rfl
theorem gI_yX8_isDoomed : Cond.instanceMethod yX8_isDoomed ∈ lw_w := lgw kI_yX8_isDoomed rfl
theorem gC_yX8_isDoomed : Cond.code yX8_isDoomed cX8_isDoomed 4 (Option.some Jvm.ClassFile.FieldType.boolean) ∈ lw_w := lgw kC_yX8_isDoomed rfl
theorem gM_X8_131 : Cond.methodLink RX8 131 yX8_isOver ∈ lw_w := lgw kM_X8_131 rfl
theorem gT_yX8_isOver : Cond.static yX8_isOver ∈ lw_w := lgw kT_yX8_isOver rfl
theorem gC_yX8_isOver : Cond.code yX8_isOver cX8_isOver 5 (Option.some Jvm.ClassFile.FieldType.boolean) ∈ lw_w := lgw kC_yX8_isOver rfl
theorem gM_L_77 : Cond.methodLink "CrowdLawsLaw" 77 yX8_search ∈ lw_w := lgw kM_L_77 rfl
theorem gI_yX8_search : Cond.instanceMethod yX8_search ∈ lw_w := lgw kI_yX8_search rfl
theorem gS_yX8_search : Cond.selects RX8 yX8_search yX8_search ∈ lw_w := lgw kS_yX8_search rfl
theorem gC_yX8_search : Cond.code yX8_search cX8_search 4 (Option.some Jvm.ClassFile.FieldType.int) ∈ lw_w := lgw kC_yX8_search rfl
theorem gM_X8_152 : Cond.methodLink RX8 152 yX8_take ∈ lw_w := lgw kM_X8_152 rfl
theorem gI_yX8_take : Cond.instanceMethod yX8_take ∈ lw_w := lgw kI_yX8_take rfl
theorem gC_yX8_take : Cond.code yX8_take cX8_take 3 (Option.none : Option Jvm.ClassFile.FieldType) ∈ lw_w := lgw kC_yX8_take rfl
theorem gM_X8_175 : Cond.methodLink RX8 175 yX8_keep ∈ lw_w := lgw kM_X8_175 rfl
theorem gI_yX8_keep : Cond.instanceMethod yX8_keep ∈ lw_w := lgw kI_yX8_keep rfl
theorem gC_yX8_keep : Cond.code yX8_keep cX8_keep 2 (Option.none : Option Jvm.ClassFile.FieldType) ∈ lw_w := lgw kC_yX8_keep rfl
theorem gM_X8_178 : Cond.methodLink RX8 178 yX8_round ∈ lw_w := lgw kM_X8_178 rfl
theorem gI_yX8_round : Cond.instanceMethod yX8_round ∈ lw_w := lgw kI_yX8_round rfl
theorem gC_yX8_round : Cond.code yX8_round cX8_round 8 (Option.some Jvm.ClassFile.FieldType.boolean) ∈ lw_w := lgw kC_yX8_round rfl
theorem gM_X8_165 : Cond.methodLink RX8 165 yX8_shared ∈ lw_w := lgw kM_X8_165 rfl
theorem gI_yX8_shared : Cond.instanceMethod yX8_shared ∈ lw_w := lgw kI_yX8_shared rfl
theorem gC_yX8_shared : Cond.code yX8_shared cX8_shared 8 (Option.none : Option Jvm.ClassFile.FieldType) ∈ lw_w := lgw kC_yX8_shared rfl
theorem gM_X8_148 : Cond.methodLink RX8 148 yX8_wanted ∈ lw_w := lgw kM_X8_148 rfl
theorem gI_yX8_wanted : Cond.instanceMethod yX8_wanted ∈ lw_w := lgw kI_yX8_wanted rfl
theorem gC_yX8_wanted : Cond.code yX8_wanted cX8_wanted 5 (Option.some Jvm.ClassFile.FieldType.int) ∈ lw_w := lgw kC_yX8_wanted rfl
theorem gM_X8_155 : Cond.methodLink RX8 155 yX8_isLast ∈ lw_w := lgw kM_X8_155 rfl
theorem gI_yX8_isLast : Cond.instanceMethod yX8_isLast ∈ lw_w := lgw kI_yX8_isLast rfl
theorem gC_yX8_isLast : Cond.code yX8_isLast cX8_isLast 5 (Option.some Jvm.ClassFile.FieldType.boolean) ∈ lw_w := lgw kC_yX8_isLast rfl
theorem gM_X8_159 : Cond.methodLink RX8 159 yX8_left ∈ lw_w := lgw kM_X8_159 rfl
theorem gI_yX8_left : Cond.instanceMethod yX8_left ∈ lw_w := lgw kI_yX8_left rfl
theorem gC_yX8_left : Cond.code yX8_left cX8_left 6 (Option.some Jvm.ClassFile.FieldType.int) ∈ lw_w := lgw kC_yX8_left rfl
theorem gM_X8_162 : Cond.methodLink RX8 162 yX8_counted ∈ lw_w := lgw kM_X8_162 rfl
theorem gI_yX8_counted : Cond.instanceMethod yX8_counted ∈ lw_w := lgw kI_yX8_counted rfl
theorem gC_yX8_counted : Cond.code yX8_counted cX8_counted 4 (Option.some Jvm.ClassFile.FieldType.boolean) ∈ lw_w := lgw kC_yX8_counted rfl
theorem gM_X8_169 : Cond.methodLink RX8 169 yX8_plain ∈ lw_w := lgw kM_X8_169 rfl
theorem gI_yX8_plain : Cond.instanceMethod yX8_plain ∈ lw_w := lgw kI_yX8_plain rfl
theorem gC_yX8_plain : Cond.code yX8_plain cX8_plain 5 (Option.none : Option Jvm.ClassFile.FieldType) ∈ lw_w := lgw kC_yX8_plain rfl
theorem gM_X8_182 : Cond.methodLink RX8 182 yX8_order ∈ lw_w := lgw kM_X8_182 rfl
theorem gI_yX8_order : Cond.instanceMethod yX8_order ∈ lw_w := lgw kI_yX8_order rfl
theorem gC_yX8_order : Cond.code yX8_order cX8_order 5 (Option.none : Option Jvm.ClassFile.FieldType) ∈ lw_w := lgw kC_yX8_order rfl
theorem gM_X8_172 : Cond.methodLink RX8 172 yX8_isAhead ∈ lw_w := lgw kM_X8_172 rfl
theorem gI_yX8_isAhead : Cond.instanceMethod yX8_isAhead ∈ lw_w := lgw kI_yX8_isAhead rfl
theorem gC_yX8_isAhead : Cond.code yX8_isAhead cX8_isAhead 6 (Option.some Jvm.ClassFile.FieldType.boolean) ∈ lw_w := lgw kC_yX8_isAhead rfl
theorem gM_L_81 : Cond.methodLink "CrowdLawsLaw" 81 yX8_bases ∈ lw_w := lgw kM_L_81 rfl
theorem gI_yX8_bases : Cond.instanceMethod yX8_bases ∈ lw_w := lgw kI_yX8_bases rfl
theorem gS_yX8_bases : Cond.selects RX8 yX8_bases yX8_bases ∈ lw_w := lgw kS_yX8_bases rfl
theorem gC_yX8_bases : Cond.code yX8_bases cX8_bases 1 (Option.some Jvm.ClassFile.FieldType.int) ∈ lw_w := lgw kC_yX8_bases rfl
theorem gM_L_85 : Cond.methodLink "CrowdLawsLaw" 85 yX8_base ∈ lw_w := lgw kM_L_85 rfl
theorem gI_yX8_base : Cond.instanceMethod yX8_base ∈ lw_w := lgw kI_yX8_base rfl
theorem gS_yX8_base : Cond.selects RX8 yX8_base yX8_base ∈ lw_w := lgw kS_yX8_base rfl
theorem gC_yX8_base : Cond.code yX8_base cX8_base 3 (Option.some Jvm.ClassFile.FieldType.int) ∈ lw_w := lgw kC_yX8_base rfl
theorem gM_L_89 : Cond.methodLink "CrowdLawsLaw" 89 yX8_least ∈ lw_w := lgw kM_L_89 rfl
theorem gI_yX8_least : Cond.instanceMethod yX8_least ∈ lw_w := lgw kI_yX8_least rfl
theorem gS_yX8_least : Cond.selects RX8 yX8_least yX8_least ∈ lw_w := lgw kS_yX8_least rfl
theorem gC_yX8_least : Cond.code yX8_least cX8_least 5 (Option.some Jvm.ClassFile.FieldType.int) ∈ lw_w := lgw kC_yX8_least rfl
theorem gM_L_93 : Cond.methodLink "CrowdLawsLaw" 93 yX8_reach ∈ lw_w := lgw kM_L_93 rfl
theorem gI_yX8_reach : Cond.instanceMethod yX8_reach ∈ lw_w := lgw kI_yX8_reach rfl
theorem gS_yX8_reach : Cond.selects RX8 yX8_reach yX8_reach ∈ lw_w := lgw kS_yX8_reach rfl
theorem gC_yX8_reach : Cond.code yX8_reach cX8_reach 4 (Option.some Jvm.ClassFile.FieldType.int) ∈ lw_w := lgw kC_yX8_reach rfl
theorem gK_X8_200 : Cond.constantLong RX8 200 (8 : Int64) ∈ lw_w := lgw kK_X8_200 rfl
theorem gM_X8_202 : Cond.methodLink RX8 202 yX8_goThrough ∈ lw_w := lgw kM_X8_202 rfl
theorem gI_yX8_goThrough : Cond.instanceMethod yX8_goThrough ∈ lw_w := lgw kI_yX8_goThrough rfl
theorem gC_yX8_goThrough : Cond.code yX8_goThrough cX8_goThrough 6 (Option.none : Option Jvm.ClassFile.FieldType) ∈ lw_w := lgw kC_yX8_goThrough rfl
theorem gM_X8_188 : Cond.methodLink RX8 188 yX8_crowdOf ∈ lw_w := lgw kM_X8_188 rfl
theorem gI_yX8_crowdOf : Cond.instanceMethod yX8_crowdOf ∈ lw_w := lgw kI_yX8_crowdOf rfl
theorem gC_yX8_crowdOf : Cond.code yX8_crowdOf cX8_crowdOf 5 (Option.none : Option Jvm.ClassFile.FieldType) ∈ lw_w := lgw kC_yX8_crowdOf rfl
theorem gM_X8_192 : Cond.methodLink RX8 192 yX8_isStart ∈ lw_w := lgw kM_X8_192 rfl
theorem gI_yX8_isStart : Cond.instanceMethod yX8_isStart ∈ lw_w := lgw kI_yX8_isStart rfl
theorem gC_yX8_isStart : Cond.code yX8_isStart cX8_isStart 4 (Option.some Jvm.ClassFile.FieldType.boolean) ∈ lw_w := lgw kC_yX8_isStart rfl
theorem gK_X8_195 : Cond.constant RX8 195 (1000000 : Int32) ∈ lw_w := lgw kK_X8_195 rfl
theorem gM_X8_196 : Cond.methodLink RX8 196 yX8_codeOf ∈ lw_w := lgw kM_X8_196 rfl
theorem gT_yX8_codeOf : Cond.static yX8_codeOf ∈ lw_w := lgw kT_yX8_codeOf rfl
theorem gC_yX8_codeOf : Cond.code yX8_codeOf cX8_codeOf 3 (Option.some Jvm.ClassFile.FieldType.int) ∈ lw_w := lgw kC_yX8_codeOf rfl
theorem gM_L_97 : Cond.methodLink "CrowdLawsLaw" 97 yX8_steps ∈ lw_w := lgw kM_L_97 rfl
theorem gI_yX8_steps : Cond.instanceMethod yX8_steps ∈ lw_w := lgw kI_yX8_steps rfl
theorem gS_yX8_steps : Cond.selects RX8 yX8_steps yX8_steps ∈ lw_w := lgw kS_yX8_steps rfl
theorem gC_yX8_steps : Cond.code yX8_steps cX8_steps 3 (Option.some Jvm.ClassFile.FieldType.int) ∈ lw_w := lgw kC_yX8_steps rfl
theorem gM_X8_206 : Cond.methodLink RX8 206 yX8_nearest ∈ lw_w := lgw kM_X8_206 rfl
theorem gI_yX8_nearest : Cond.instanceMethod yX8_nearest ∈ lw_w := lgw kI_yX8_nearest rfl
theorem gC_yX8_nearest : Cond.code yX8_nearest cX8_nearest 3 (Option.some Jvm.ClassFile.FieldType.int) ∈ lw_w := lgw kC_yX8_nearest rfl
theorem gM_L_101 : Cond.methodLink "CrowdLawsLaw" 101 yX8_run ∈ lw_w := lgw kM_L_101 rfl
theorem gI_yX8_run : Cond.instanceMethod yX8_run ∈ lw_w := lgw kI_yX8_run rfl
theorem gS_yX8_run : Cond.selects RX8 yX8_run yX8_run ∈ lw_w := lgw kS_yX8_run rfl
theorem gC_yX8_run : Cond.code yX8_run cX8_run 9 (Option.some Jvm.ClassFile.FieldType.int) ∈ lw_w := lgw kC_yX8_run rfl
theorem gM_L_105 : Cond.methodLink "CrowdLawsLaw" 105 yX8_doomedOf ∈ lw_w := lgw kM_L_105 rfl
theorem gI_yX8_doomedOf : Cond.instanceMethod yX8_doomedOf ∈ lw_w := lgw kI_yX8_doomedOf rfl
theorem gS_yX8_doomedOf : Cond.selects RX8 yX8_doomedOf yX8_doomedOf ∈ lw_w := lgw kS_yX8_doomedOf rfl
theorem gC_yX8_doomedOf : Cond.code yX8_doomedOf cX8_doomedOf 4 (Option.some Jvm.ClassFile.FieldType.int) ∈ lw_w := lgw kC_yX8_doomedOf rfl
theorem gM_L_109 : Cond.methodLink "CrowdLawsLaw" 109 yX8_total ∈ lw_w := lgw kM_L_109 rfl
theorem gI_yX8_total : Cond.instanceMethod yX8_total ∈ lw_w := lgw kI_yX8_total rfl
theorem gS_yX8_total : Cond.selects RX8 yX8_total yX8_total ∈ lw_w := lgw kS_yX8_total rfl
theorem gC_yX8_total : Cond.code yX8_total cX8_total 2 (Option.some Jvm.ClassFile.FieldType.int) ∈ lw_w := lgw kC_yX8_total rfl
theorem gS_yX7_forgetFindings : Cond.selects RX7 yX7_forgetFindings yX7_forgetFindings ∈ lw_w := lgw kS_yX7_forgetFindings rfl
theorem gS_yX7_addRule : Cond.selects RX7 yX7_addRule yX7_addRule ∈ lw_w := lgw kS_yX7_addRule rfl
theorem gS_yX6_setGoals : Cond.selects RX6 yX6_setGoals yX6_setGoals ∈ lw_w := lgw kS_yX6_setGoals rfl
theorem gS_yX6_leavers : Cond.selects RX6 yX6_leavers yX6_leavers ∈ lw_w := lgw kS_yX6_leavers rfl
theorem gS_yX0_takeBadOnes : Cond.selects RX0 yX0_takeBadOnes yX0_takeBadOnes ∈ lw_w := lgw kS_yX0_takeBadOnes rfl
theorem gS_yX0_goRound : Cond.selects RX0 yX0_goRound yX0_goRound ∈ lw_w := lgw kS_yX0_goRound rfl
theorem gS_yX0_findSums : Cond.selects RX0 yX0_findSums yX0_findSums ∈ lw_w := lgw kS_yX0_findSums rfl
theorem gS_yX6_comers : Cond.selects RX6 yX6_comers yX6_comers ∈ lw_w := lgw kS_yX6_comers rfl
theorem gS_yX6_isGoal : Cond.selects RX6 yX6_isGoal yX6_isGoal ∈ lw_w := lgw kS_yX6_isGoal rfl
theorem gS_yX0_keepOld : Cond.selects RX0 yX0_keepOld yX0_keepOld ∈ lw_w := lgw kS_yX0_keepOld rfl
theorem gS_yX0_bringNew : Cond.selects RX0 yX0_bringNew yX0_bringNew ∈ lw_w := lgw kS_yX0_bringNew rfl
theorem gS_yX0_setOut : Cond.selects RX0 yX0_setOut yX0_setOut ∈ lw_w := lgw kS_yX0_setOut rfl
theorem gS_yX0_fillFrom : Cond.selects RX0 yX0_fillFrom yX0_fillFrom ∈ lw_w := lgw kS_yX0_fillFrom rfl
theorem gS_yX4_listCrowds : Cond.selects RX4 yX4_listCrowds yX4_listCrowds ∈ lw_w := lgw kS_yX4_listCrowds rfl
theorem gS_yX4_codeOf : Cond.selects RX4 yX4_codeOf yX4_codeOf ∈ lw_w := lgw kS_yX4_codeOf rfl
theorem gS_yX4_advance : Cond.selects RX4 yX4_advance yX4_advance ∈ lw_w := lgw kS_yX4_advance rfl
theorem gS_yX4_beginAtStart : Cond.selects RX4 yX4_beginAtStart yX4_beginAtStart ∈ lw_w := lgw kS_yX4_beginAtStart rfl
theorem gS_yX4_decode : Cond.selects RX4 yX4_decode yX4_decode ∈ lw_w := lgw kS_yX4_decode rfl
theorem gS_yX4_come : Cond.selects RX4 yX4_come yX4_come ∈ lw_w := lgw kS_yX4_come rfl
theorem gS_yX4_isPlace : Cond.selects RX4 yX4_isPlace yX4_isPlace ∈ lw_w := lgw kS_yX4_isPlace rfl
theorem gS_yX4_goOn : Cond.selects RX4 yX4_goOn yX4_goOn ∈ lw_w := lgw kS_yX4_goOn rfl
theorem gS_yX4_levelOf : Cond.selects RX4 yX4_levelOf yX4_levelOf ∈ lw_w := lgw kS_yX4_levelOf rfl
theorem gS_yX4_codeAt : Cond.selects RX4 yX4_codeAt yX4_codeAt ∈ lw_w := lgw kS_yX4_codeAt rfl
theorem gS_yX4_placeOf : Cond.selects RX4 yX4_placeOf yX4_placeOf ∈ lw_w := lgw kS_yX4_placeOf rfl
theorem gS_yX4_findFewest : Cond.selects RX4 yX4_findFewest yX4_findFewest ∈ lw_w := lgw kS_yX4_findFewest rfl
theorem gS_yX4_markLeading : Cond.selects RX4 yX4_markLeading yX4_markLeading ∈ lw_w := lgw kS_yX4_markLeading rfl
theorem gS_yX4_firstLeading : Cond.selects RX4 yX4_firstLeading yX4_firstLeading ∈ lw_w := lgw kS_yX4_firstLeading rfl
theorem gS_yX4_choosePath : Cond.selects RX4 yX4_choosePath yX4_choosePath ∈ lw_w := lgw kS_yX4_choosePath rfl
theorem gS_yX8_noState : Cond.selects RX8 yX8_noState yX8_noState ∈ lw_w := lgw kS_yX8_noState rfl
theorem gS_yX8_newRule : Cond.selects RX8 yX8_newRule yX8_newRule ∈ lw_w := lgw kS_yX8_newRule rfl
theorem gS_yX8_isShort : Cond.selects RX8 yX8_isShort yX8_isShort ∈ lw_w := lgw kS_yX8_isShort rfl
theorem gS_yX8_noRule : Cond.selects RX8 yX8_noRule yX8_noRule ∈ lw_w := lgw kS_yX8_noRule rfl
theorem gS_yX8_leaves : Cond.selects RX8 yX8_leaves yX8_leaves ∈ lw_w := lgw kS_yX8_leaves rfl
theorem gS_yX8_goBy : Cond.selects RX8 yX8_goBy yX8_goBy ∈ lw_w := lgw kS_yX8_goBy rfl
theorem gS_yX8_mapped : Cond.selects RX8 yX8_mapped yX8_mapped ∈ lw_w := lgw kS_yX8_mapped rfl
theorem gS_yX8_isBadOne : Cond.selects RX8 yX8_isBadOne yX8_isBadOne ∈ lw_w := lgw kS_yX8_isBadOne rfl
theorem gS_yX8_noSearch : Cond.selects RX8 yX8_noSearch yX8_noSearch ∈ lw_w := lgw kS_yX8_noSearch rfl
theorem gS_yX8_isDoomed : Cond.selects RX8 yX8_isDoomed yX8_isDoomed ∈ lw_w := lgw kS_yX8_isDoomed rfl
theorem gS_yX8_take : Cond.selects RX8 yX8_take yX8_take ∈ lw_w := lgw kS_yX8_take rfl
theorem gS_yX8_keep : Cond.selects RX8 yX8_keep yX8_keep ∈ lw_w := lgw kS_yX8_keep rfl
theorem gS_yX8_round : Cond.selects RX8 yX8_round yX8_round ∈ lw_w := lgw kS_yX8_round rfl
theorem gS_yX8_shared : Cond.selects RX8 yX8_shared yX8_shared ∈ lw_w := lgw kS_yX8_shared rfl
theorem gS_yX8_wanted : Cond.selects RX8 yX8_wanted yX8_wanted ∈ lw_w := lgw kS_yX8_wanted rfl
theorem gS_yX8_isLast : Cond.selects RX8 yX8_isLast yX8_isLast ∈ lw_w := lgw kS_yX8_isLast rfl
theorem gS_yX8_left : Cond.selects RX8 yX8_left yX8_left ∈ lw_w := lgw kS_yX8_left rfl
theorem gS_yX8_counted : Cond.selects RX8 yX8_counted yX8_counted ∈ lw_w := lgw kS_yX8_counted rfl
theorem gS_yX8_plain : Cond.selects RX8 yX8_plain yX8_plain ∈ lw_w := lgw kS_yX8_plain rfl
theorem gS_yX8_order : Cond.selects RX8 yX8_order yX8_order ∈ lw_w := lgw kS_yX8_order rfl
theorem gS_yX8_isAhead : Cond.selects RX8 yX8_isAhead yX8_isAhead ∈ lw_w := lgw kS_yX8_isAhead rfl
theorem gS_yX8_goThrough : Cond.selects RX8 yX8_goThrough yX8_goThrough ∈ lw_w := lgw kS_yX8_goThrough rfl
theorem gS_yX8_crowdOf : Cond.selects RX8 yX8_crowdOf yX8_crowdOf ∈ lw_w := lgw kS_yX8_crowdOf rfl
theorem gS_yX8_isStart : Cond.selects RX8 yX8_isStart yX8_isStart ∈ lw_w := lgw kS_yX8_isStart rfl
theorem gS_yX8_nearest : Cond.selects RX8 yX8_nearest yX8_nearest ∈ lw_w := lgw kS_yX8_nearest rfl
theorem gW_X0 : ∀ w ∈ u_ws RX0 TX0 7, w ∈ lw_w := fun w h => lgw (kW_X0 w h) ((show ∀ w ∈ u_ws RX0 TX0 7, (goodWord w || isNest w) = true by decide +kernel) w h)
theorem gW_X1 : ∀ w ∈ u_ws RX1 TX1 4, w ∈ lw_w := fun w h => lgw (kW_X1 w h) ((show ∀ w ∈ u_ws RX1 TX1 4, (goodWord w || isNest w) = true by decide +kernel) w h)
theorem gW_X2 : ∀ w ∈ u_ws RX2 TX2 1, w ∈ lw_w := fun w h => lgw (kW_X2 w h) ((show ∀ w ∈ u_ws RX2 TX2 1, (goodWord w || isNest w) = true by decide +kernel) w h)
theorem gW_X3 : ∀ w ∈ u_ws RX3 TX3 1, w ∈ lw_w := fun w h => lgw (kW_X3 w h) ((show ∀ w ∈ u_ws RX3 TX3 1, (goodWord w || isNest w) = true by decide +kernel) w h)
theorem gW_X4 : ∀ w ∈ u_ws RX4 TX4 13, w ∈ lw_w := fun w h => lgw (kW_X4 w h) ((show ∀ w ∈ u_ws RX4 TX4 13, (goodWord w || isNest w) = true by decide +kernel) w h)
theorem gW_X5 : ∀ w ∈ u_ws RX5 TX5 7, w ∈ lw_w := fun w h => lgw (kW_X5 w h) ((show ∀ w ∈ u_ws RX5 TX5 7, (goodWord w || isNest w) = true by decide +kernel) w h)
theorem gW_X6 : ∀ w ∈ u_ws RX6 TX6 8, w ∈ lw_w := fun w h => lgw (kW_X6 w h) ((show ∀ w ∈ u_ws RX6 TX6 8, (goodWord w || isNest w) = true by decide +kernel) w h)
theorem gW_X7 : ∀ w ∈ u_ws RX7 TX7 4, w ∈ lw_w := fun w h => lgw (kW_X7 w h) ((show ∀ w ∈ u_ws RX7 TX7 4, (goodWord w || isNest w) = true by decide +kernel) w h)
theorem gW_X8 : ∀ w ∈ u_ws RX8 TX8 28, w ∈ lw_w := fun w h => lgw (kW_X8 w h) ((show ∀ w ∈ u_ws RX8 TX8 28, (goodWord w || isNest w) = true by decide +kernel) w h)
end
section
/-! whole numbers as ints: jI z is z, wrapped -/
def jI (z : Int) : Int32 := Int32.ofInt z
abbrev rg (z : Int) : Prop := -2147483648 ≤ z ∧ z < 2147483648
theorem jI_add (a b : Int) : jI a + jI b = jI (a + b) := (Int32.ofInt_add a b).symm
theorem jI_sub (a b : Int) : jI a - jI b = jI (a - b) := (Int32.ofInt_sub a b).symm
theorem jI_mul (a b : Int) : jI a * jI b = jI (a * b) := (Int32.ofInt_mul a b).symm
theorem jI_to {z : Int} (h : rg z) : (jI z).toInt = z := by
  unfold jI
  rw [Int32.toInt_ofInt, show Int32.size = 4294967296 from rfl]
  have h1 := h.1; have h2 := h.2
  exact Int.bmod_eq_of_le_mul_two (by omega) (by omega)
theorem jI_of (x : Int32) : jI x.toInt = x := Int32.ofInt_toInt x
theorem rg_of (x : Int32) : rg x.toInt := by
  have h1 := x.toInt_lt
  have h2 := x.le_toInt
  unfold rg; omega
theorem jI_lt {a b : Int} (ha : rg a) (hb : rg b) : jI a < jI b ↔ a < b := by rw [Int32.lt_iff_toInt_lt, jI_to ha, jI_to hb]
theorem jI_le {a b : Int} (ha : rg a) (hb : rg b) : jI a ≤ jI b ↔ a ≤ b := by rw [Int32.le_iff_toInt_le, jI_to ha, jI_to hb]
theorem jI_eq {a b : Int} (ha : rg a) (hb : rg b) : jI a = jI b ↔ a = b := by
  constructor
  · intro h
    have h2 := congrArg Int32.toInt h
    rwa [jI_to ha, jI_to hb] at h2
  · intro h; rw [h]
theorem jI_0 : jI 0 = 0 := rfl
theorem jI_cl {z : Int} (h0 : 0 ≤ z) (h : z < 2147483648) : (jI z).toNatClampNeg = z.toNat := by
  have h2 : (jI z).toInt = z := jI_to ⟨by omega, h⟩
  show (jI z).toInt.toNat = z.toNat
  rw [h2]
theorem jI_in {z : Int} {n : Nat} (h0 : 0 ≤ z) (h : z < n) (hn : n < 2147483648) : vp_in (jI z) n := by
  rw [vp_in_iff, jI_to ⟨by omega, by omega⟩]
  exact ⟨h0, h⟩
/-! a world that is a function of places: the cells n0 .. n0 + N - 1 -/
def wl (n0 N : Nat) (f : Nat → va_E) : va_W := (List.range N).map (fun k => (n0 + k, f k))
theorem wl_at {n0 N k : Nat} {f : Nat → va_E} (h : k < N) : (wl n0 N f)[k]? = some (n0 + k, f k) := by simp [wl, h]
theorem wl_len {n0 N : Nat} {f : Nat → va_E} : (wl n0 N f).length = N := by simp [wl]
theorem wl_inv {n0 N k : Nat} {f : Nat → va_E} {q : Nat × va_E} (h : (wl n0 N f)[k]? = some q) : k < N ∧ q = (n0 + k, f k) := by
  have h1 : k < (wl n0 N f).length := (List.getElem?_eq_some_iff.mp h).1
  rw [wl_len] at h1
  rw [wl_at h1] at h
  exact ⟨h1, (Option.some.inj h).symm⟩
theorem wl_D {n0 N : Nat} {f : Nat → va_E} : va_D (fun q => n0 ≤ q) (wl n0 N f) := by
  refine ⟨fun i j p q hi hj h => ?_, fun k q hk => ?_⟩
  · obtain ⟨-, rfl⟩ := wl_inv hi
    obtain ⟨-, rfl⟩ := wl_inv hj
    have h : n0 + i = n0 + j := h
    omega
  · obtain ⟨-, rfl⟩ := wl_inv hk
    exact Nat.le_add_right _ _
theorem wl_set {n0 N k : Nat} {f : Nat → va_E} {e : va_E} : (wl n0 N f).set k (n0 + k, e) = wl n0 N (va_up f k e) := by
  apply List.ext_getElem?
  intro i
  rw [List.getElem?_set, wl_len]
  by_cases hi : i < N
  · rw [wl_at hi, wl_at hi]
    by_cases hk : k = i
    · subst hk; simp [va_up, hi]
    · have hk2 : ¬ i = k := fun h => hk h.symm
      simp [va_up, hk, hk2]
  · have h1 : (wl n0 N f)[i]? = none := by rw [List.getElem?_eq_none]; rw [wl_len]; omega
    have h2 : (wl n0 N (va_up f k e))[i]? = none := by rw [List.getElem?_eq_none]; rw [wl_len]; omega
    rw [h1, h2]
    by_cases hk : k = i
    · subst hk; simp [hi]
    · simp [hk]
theorem wl_push {n0 N : Nat} {f : Nat → va_E} {e : va_E} : wl n0 N f ++ [(n0 + N, e)] = wl n0 (N + 1) (va_up f N e) := by
  unfold wl
  rw [List.range_succ, List.map_append]
  congr 1
  · apply List.map_congr_left
    intro a ha
    have : a < N := List.mem_range.mp ha
    have h2 : ¬ a = N := by omega
    simp [va_up, h2]
  · simp [va_up]
theorem wl_congr {n0 N : Nat} {f g : Nat → va_E} (h : ∀ k, k < N → f k = g k) : wl n0 N f = wl n0 N g := by
  unfold wl
  apply List.map_congr_left
  intro a ha
  rw [h a (List.mem_range.mp ha)]
def Wd (G : Gt) (n0 N : Nat) (f : Nat → va_E) (H : Heap) : Prop := H.size = n0 + N ∧ va_P G.1 vwCl (wl n0 N f) H
/-! locals as a list: none is one of which nothing is known -/
def hasL (ls : Array Slot) (nL : Nat) (L : List (Option Value)) : Prop := L.length = nL ∧ ls.size = nL ∧ lv_wf ls ∧ ∀ (i : Nat) (v : Value), L[i]? = some (some v) → v.category = 1 ∧ ls[i]? = some (.val v)
def lvs : Nat → List (Option Value) → List (Nat × Value)
  | _, [] => []
  | n, none :: t => lvs (n + 1) t
  | n, some v :: t => (n, v) :: lvs (n + 1) t
theorem lvs_mem : ∀ (L : List (Option Value)) (n : Nat) (q : Nat × Value), q ∈ lvs n L ↔ ∃ i, L[i]? = some (some q.2) ∧ q.1 = n + i := by
  intro L
  induction L with
  | nil => intro n q; simp [lvs]
  | cons a t ih =>
    intro n q
    cases a with
    | none =>
      show q ∈ lvs (n + 1) t ↔ _
      rw [ih]
      constructor
      · rintro ⟨i, h1, h2⟩; exact ⟨i + 1, by simpa using h1, by omega⟩
      · rintro ⟨i, h1, h2⟩
        cases i with
        | zero => simp at h1
        | succ i => exact ⟨i, by simpa using h1, by omega⟩
    | some v =>
      show q ∈ (n, v) :: lvs (n + 1) t ↔ _
      rw [List.mem_cons, ih]
      constructor
      · rintro (h | ⟨i, h1, h2⟩)
        · subst h; exact ⟨0, by simp, by simp⟩
        · exact ⟨i + 1, by simpa using h1, by omega⟩
      · rintro ⟨i, h1, h2⟩
        cases i with
        | zero =>
          left
          have h1 : v = q.2 := by simpa using h1
          have h2 : q.1 = n := by simpa using h2
          rw [h1, ← h2]
        | succ i => right; exact ⟨i, by simpa using h1, by omega⟩
theorem hasL.lv {ls : Array Slot} {nL : Nat} {L : List (Option Value)} (h : hasL ls nL L) : lv_has ls nL (lvs 0 L) := by
  refine ⟨h.2.1, h.2.2.1, fun q hq => ?_⟩
  obtain ⟨i, h1, h2⟩ := (lvs_mem L 0 q).mp hq
  rw [show q.1 = i by omega]
  exact (h.2.2.2 i q.2 h1).2
theorem hasL.at {ls : Array Slot} {nL : Nat} {L : List (Option Value)} (h : hasL ls nL L) {i : Nat} {v : Value} (hi : L[i]? = some (some v)) : ls[i]? = some (.val v) := (h.2.2.2 i v hi).2
theorem hasL.st {ls : Array Slot} {nL : Nat} {L : List (Option Value)} {i : Nat} {v : Value} (h : hasL ls nL L) (hc : v.category = 1) {ls' : Array Slot} (h' : lv_has ls' nL ((i, v) :: (lvs 0 L).filter (fun q => !(q.1 == i) && !(q.1 + 1 == i && q.2.category == 2)))) : hasL ls' nL (L.set i (some v)) := by
  refine ⟨by rw [List.length_set]; exact h.1, h'.1, h'.2.1, fun j w hj => ?_⟩
  rw [List.getElem?_set] at hj
  by_cases hij : i = j
  · subst hij
    rw [if_pos rfl] at hj
    have hw : w = v := by
      by_cases hl : i < L.length
      · rw [if_pos hl] at hj; exact (Option.some.inj (Option.some.inj hj)).symm
      · rw [if_neg hl] at hj; cases hj
    subst hw
    exact ⟨hc, h'.2.2 (i, w) List.mem_cons_self⟩
  · rw [if_neg hij] at hj
    have hcat := (h.2.2.2 j w hj).1
    refine ⟨hcat, h'.2.2 (j, w) (List.mem_cons_of_mem _ (List.mem_filter.mpr ⟨(lvs_mem L 0 (j, w)).mpr ⟨j, hj, by simp⟩, ?_⟩))⟩
    have hji : (j == i) = false := by simp; exact fun e => hij e.symm
    simp [hji, hcat]
def inL (av : List Value) (nL : Nat) : List (Option Value) := av.map some ++ List.replicate (nL - av.length) none
theorem lg_args1 : ∀ (av : List Value) (n : Nat), (∀ v ∈ av, v.category = 1) → ∀ (i : Nat) (v : Value), av[i]? = some v → (n + i, v) ∈ lv_args n av := by
  intro av
  induction av with
  | nil => intro n _ i v h; simp at h
  | cons a t ih =>
    intro n hc i v h
    have ha := hc a List.mem_cons_self
    cases i with
    | zero =>
      have : a = v := by simpa using h
      subst this
      simp [lv_args]
    | succ i =>
      have h2 := ih (n + 1) (fun w hw => hc w (List.mem_cons_of_mem _ hw)) i v (by simpa using h)
      simp only [lv_args, ha]
      refine List.mem_cons_of_mem _ ?_
      rw [show n + (i + 1) = n + 1 + i by omega]
      exact h2
theorem hasL_entry {av : List Value} {nL : Nat} (hc : ∀ v ∈ av, v.category = 1) (hn : av.length ≤ nL) (hsl : (lg_sl av).length ≤ nL) : hasL ((lg_sl av ++ List.replicate (nL - (lg_sl av).length) Slot.unset).toArray) nL (inL av nL) := by
  have h := lv_entry av hsl
  refine ⟨by simp [inL]; omega, h.1, h.2.1, fun i v hi => ?_⟩
  have h1 : av[i]? = some v := by
    unfold inL at hi
    by_cases hl : i < av.length
    · rw [List.getElem?_append_left (by simpa using hl), List.getElem?_map] at hi
      cases hq : av[i]? with
      | none => rw [hq] at hi; cases hi
      | some w => rw [hq] at hi; simp at hi; rw [hi]
    · rw [List.getElem?_append_right (by simpa using hl), List.getElem?_replicate] at hi
      split at hi <;> simp at hi
  have hv := hc v (List.mem_of_getElem? h1)
  refine ⟨hv, ?_⟩
  have := h.2.2 (0 + i, v) (lg_args1 av 0 hc i v h1)
  simpa using this

theorem lg_sl1 : ∀ (av : List Value), (∀ v ∈ av, v.category = 1) → (lg_sl av).length = av.length := by
  intro av
  induction av with
  | nil => intro _; rfl
  | cons a t ih =>
    intro hc
    have ha := hc a List.mem_cons_self
    have := ih (fun w hw => hc w (List.mem_cons_of_mem _ hw))
    unfold lg_sl at this ⊢
    simp [ha, this]
/-! the machine over such a world -/
def Cx (G : Gt) (n0 : Nat) (p : Program) (s : State) (m : MethodId) (args : Array Value) (meth : Method) (c : Code) (cc : ByteArray) (own : String) (nL : Nat) : Prop :=
  p.tables.exec = Jvm.exec ∧ c.code = cc ∧ c.maxLocals = nL ∧ s.vm.findClass own = some m.cls ∧ (∀ w ∈ lw_w, w.before args s = true) ∧ KK G s ∧ meth.locks = false ∧ n0 ≤ s.heap.size
def WW (p : Program) (l : Launch) (e : Env) (R : Room) (s : State) (m : MethodId) (args : Array Value) (below : List Frame) (meth : Method) (c : Code) (Q : State → Prop) (G : Gt) (n0 nL N : Nat) (f : Nat → va_E) (cells slots pc : Nat) (L : List (Option Value)) (st : List Value) : Prop :=
  ∀ (H : Heap) (locs : List Loc) (ls : Array Slot), Wd G n0 N f H → va_S (fun q => n0 ≤ q) s.heap H locs → hasL ls nL L → W p l e R s m args below meth c H locs cells slots Q (F0 m pc ls st)
section Rows
variable {p : Program} {l : Launch} {e : Env} {R : Room} {s : State} {m : MethodId} {args : Array Value} {below : List Frame} {meth : Method} {c : Code} {Q : State → Prop} {G : Gt} {n0 nL N : Nat} {f : Nat → va_E} {cells slots pc : Nat} {L : List (Option Value)} {st : List Value} {cc : ByteArray} {own : String}
theorem w_iconst (X : Cx G n0 p s m args meth c cc own nL) {n : Int} (hd : decode cc pc = .ok (.iconst n, 1)) (k : WW p l e R s m args below meth c Q G n0 nL N f cells slots (pc + 1) L (.int (jI n) :: st)) : WW p l e R s m args below meth c Q G n0 nL N f cells slots pc L st := fun H locs ls h1 h2 h3 => lv_iconst X.1 X.2.1 hd rfl (k H locs ls h1 h2 h3)
theorem w_bipush (X : Cx G n0 p s m args meth c cc own nL) {n : Int} (hd : decode cc pc = .ok (.bipush n, 2)) (hv : (Int8.ofInt n).toInt32 = jI n) (k : WW p l e R s m args below meth c Q G n0 nL N f cells slots (pc + 2) L (.int (jI n) :: st)) : WW p l e R s m args below meth c Q G n0 nL N f cells slots pc L st := fun H locs ls h1 h2 h3 => lv_bipush X.1 X.2.1 hd hv (k H locs ls h1 h2 h3)
theorem w_sipush (X : Cx G n0 p s m args meth c cc own nL) {n : Int} (hd : decode cc pc = .ok (.sipush n, 3)) (hv : (Int16.ofInt n).toInt32 = jI n) (k : WW p l e R s m args below meth c Q G n0 nL N f cells slots (pc + 3) L (.int (jI n) :: st)) : WW p l e R s m args below meth c Q G n0 nL N f cells slots pc L st := fun H locs ls h1 h2 h3 => lv_sipush X.1 X.2.1 hd hv (k H locs ls h1 h2 h3)
theorem w_ldc (X : Cx G n0 p s m args meth c cc own nL) {index : Nat} {v : Int32} {z : Int} (hw : Cond.constant own index v ∈ lw_w) (hv : v = jI z) (hd : decode cc pc = .ok (.ldc index, 2)) (k : WW p l e R s m args below meth c Q G n0 nL N f cells slots (pc + 2) L (.int (jI z) :: st)) : WW p l e R s m args below meth c Q G n0 nL N f cells slots pc L st := fun H locs ls h1 h2 h3 => lv_ldc X.1 X.2.1 X.2.2.2.1 (X.2.2.2.2.1 _ hw) hd (hv ▸ k H locs ls h1 h2 h3)
theorem w_iload_n (X : Cx G n0 p s m args meth c cc own nL) {k : Fin 4} {x : Int32} (hd : decode cc pc = .ok (.iload_n k, 1)) (hl : L[(k : Nat)]? = some (some (.int x))) (kk : WW p l e R s m args below meth c Q G n0 nL N f cells slots (pc + 1) L (.int x :: st)) : WW p l e R s m args below meth c Q G n0 nL N f cells slots pc L st := fun H locs ls h1 h2 h3 => lv_iload_n X.1 X.2.1 hd rfl (h3.at hl) (kk H locs ls h1 h2 h3)
theorem w_iload (X : Cx G n0 p s m args meth c cc own nL) {k : Nat} {x : Int32} (hd : decode cc pc = .ok (.iload k, 2)) (hl : L[k]? = some (some (.int x))) (kk : WW p l e R s m args below meth c Q G n0 nL N f cells slots (pc + 2) L (.int x :: st)) : WW p l e R s m args below meth c Q G n0 nL N f cells slots pc L st := fun H locs ls h1 h2 h3 => lv_iload X.1 X.2.1 hd (h3.at hl) (kk H locs ls h1 h2 h3)
theorem w_aload_n (X : Cx G n0 p s m args meth c cc own nL) {k : Fin 4} {x : Nat} (hd : decode cc pc = .ok (.aload_n k, 1)) (hl : L[(k : Nat)]? = some (some (.ref x))) (kk : WW p l e R s m args below meth c Q G n0 nL N f cells slots (pc + 1) L (.ref x :: st)) : WW p l e R s m args below meth c Q G n0 nL N f cells slots pc L st := fun H locs ls h1 h2 h3 => lv_aload_n X.1 X.2.1 hd rfl (h3.at hl) (kk H locs ls h1 h2 h3)
theorem w_aload (X : Cx G n0 p s m args meth c cc own nL) {k : Nat} {x : Nat} (hd : decode cc pc = .ok (.aload k, 2)) (hl : L[k]? = some (some (.ref x))) (kk : WW p l e R s m args below meth c Q G n0 nL N f cells slots (pc + 2) L (.ref x :: st)) : WW p l e R s m args below meth c Q G n0 nL N f cells slots pc L st := fun H locs ls h1 h2 h3 => lv_aload X.1 X.2.1 hd (h3.at hl) (kk H locs ls h1 h2 h3)
theorem w_istore_n (X : Cx G n0 p s m args meth c cc own nL) {k : Fin 4} {x : Int32} (hd : decode cc pc = .ok (.istore_n k, 1)) (hn : (k : Nat) < nL) (kk : WW p l e R s m args below meth c Q G n0 nL N f cells slots (pc + 1) (L.set k (some (.int x))) st) : WW p l e R s m args below meth c Q G n0 nL N f cells slots pc L (.int x :: st) := fun H locs ls h1 h2 h3 => lv_istore_n X.1 X.2.1 hd rfl h3.lv hn rfl (fun ls' h' => kk H locs ls' h1 h2 (h3.st rfl h'))
theorem w_istore (X : Cx G n0 p s m args meth c cc own nL) {k : Nat} {x : Int32} (hd : decode cc pc = .ok (.istore k, 2)) (hn : k < nL) (kk : WW p l e R s m args below meth c Q G n0 nL N f cells slots (pc + 2) (L.set k (some (.int x))) st) : WW p l e R s m args below meth c Q G n0 nL N f cells slots pc L (.int x :: st) := fun H locs ls h1 h2 h3 => lv_istore X.1 X.2.1 hd h3.lv hn rfl (fun ls' h' => kk H locs ls' h1 h2 (h3.st rfl h'))
theorem w_astore_n (X : Cx G n0 p s m args meth c cc own nL) {k : Fin 4} {x : Nat} (hd : decode cc pc = .ok (.astore_n k, 1)) (hn : (k : Nat) < nL) (kk : WW p l e R s m args below meth c Q G n0 nL N f cells slots (pc + 1) (L.set k (some (.ref x))) st) : WW p l e R s m args below meth c Q G n0 nL N f cells slots pc L (.ref x :: st) := fun H locs ls h1 h2 h3 => lv_astore_n X.1 X.2.1 hd rfl h3.lv hn rfl (fun ls' h' => kk H locs ls' h1 h2 (h3.st rfl h'))
theorem w_astore (X : Cx G n0 p s m args meth c cc own nL) {k : Nat} {x : Nat} (hd : decode cc pc = .ok (.astore k, 2)) (hn : k < nL) (kk : WW p l e R s m args below meth c Q G n0 nL N f cells slots (pc + 2) (L.set k (some (.ref x))) st) : WW p l e R s m args below meth c Q G n0 nL N f cells slots pc L (.ref x :: st) := fun H locs ls h1 h2 h3 => lv_astore X.1 X.2.1 hd h3.lv hn rfl (fun ls' h' => kk H locs ls' h1 h2 (h3.st rfl h'))
theorem w_iinc (X : Cx G n0 p s m args meth c cc own nL) {i : Nat} {n z : Int} (hd : decode cc pc = .ok (.iinc i n, 3)) (hl : L[i]? = some (some (.int (jI z)))) (kk : WW p l e R s m args below meth c Q G n0 nL N f cells slots (pc + 3) (L.set i (some (.int (jI (z + n))))) st) : WW p l e R s m args below meth c Q G n0 nL N f cells slots pc L st := fun H locs ls h1 h2 h3 => by
  have hn : i < nL := by rw [← h3.1]; exact (List.getElem?_eq_some_iff.mp hl).1
  have hm : (i, Value.int (jI z)) ∈ lvs 0 L := (lvs_mem L 0 _).mpr ⟨i, hl, by simp⟩
  obtain ⟨k, hk⟩ := List.getElem?_of_mem hm
  exact lv_iinc X.1 X.2.1 hd h3.lv hk (jI_add z n) hn rfl (fun ls' h' => kk H locs ls' h1 h2 (h3.st rfl h'))
theorem w_iadd (X : Cx G n0 p s m args meth c cc own nL) {a b : Int} (hd : decode cc pc = .ok (.iadd, 1)) (k : WW p l e R s m args below meth c Q G n0 nL N f cells slots (pc + 1) L (.int (jI (a + b)) :: st)) : WW p l e R s m args below meth c Q G n0 nL N f cells slots pc L (.int (jI b) :: .int (jI a) :: st) := fun H locs ls h1 h2 h3 => lv_iadd X.1 X.2.1 hd (jI_add a b ▸ k H locs ls h1 h2 h3)
theorem w_isub (X : Cx G n0 p s m args meth c cc own nL) {a b : Int} (hd : decode cc pc = .ok (.isub, 1)) (k : WW p l e R s m args below meth c Q G n0 nL N f cells slots (pc + 1) L (.int (jI (a - b)) :: st)) : WW p l e R s m args below meth c Q G n0 nL N f cells slots pc L (.int (jI b) :: .int (jI a) :: st) := fun H locs ls h1 h2 h3 => lv_isub X.1 X.2.1 hd (jI_sub a b ▸ k H locs ls h1 h2 h3)
theorem w_imul (X : Cx G n0 p s m args meth c cc own nL) {a b : Int} (hd : decode cc pc = .ok (.imul, 1)) (k : WW p l e R s m args below meth c Q G n0 nL N f cells slots (pc + 1) L (.int (jI (a * b)) :: st)) : WW p l e R s m args below meth c Q G n0 nL N f cells slots pc L (.int (jI b) :: .int (jI a) :: st) := fun H locs ls h1 h2 h3 => lv_imul X.1 X.2.1 hd (jI_mul a b ▸ k H locs ls h1 h2 h3)
theorem w_pop (X : Cx G n0 p s m args meth c cc own nL) {v : Value} (hd : decode cc pc = .ok (.pop, 1)) (hv : v.category = 1) (k : WW p l e R s m args below meth c Q G n0 nL N f cells slots (pc + 1) L st) : WW p l e R s m args below meth c Q G n0 nL N f cells slots pc L (v :: st) := fun H locs ls h1 h2 h3 => lv_pop X.1 X.2.1 hd hv (k H locs ls h1 h2 h3)
theorem w_dup (X : Cx G n0 p s m args meth c cc own nL) {v : Value} (hd : decode cc pc = .ok (.dup, 1)) (hv : v.category = 1) (k : WW p l e R s m args below meth c Q G n0 nL N f cells slots (pc + 1) L (v :: v :: st)) : WW p l e R s m args below meth c Q G n0 nL N f cells slots pc L (v :: st) := fun H locs ls h1 h2 h3 => lv_dup X.1 X.2.1 hd hv (k H locs ls h1 h2 h3)
theorem w_dup2 (X : Cx G n0 p s m args meth c cc own nL) {v w : Value} (hd : decode cc pc = .ok (.dup2, 1)) (hv : v.category = 1) (hw : w.category = 1) (k : WW p l e R s m args below meth c Q G n0 nL N f cells slots (pc + 1) L (v :: w :: v :: w :: st)) : WW p l e R s m args below meth c Q G n0 nL N f cells slots pc L (v :: w :: st) := fun H locs ls h1 h2 h3 => lv_dup2_11 X.1 X.2.1 hd hv hw (k H locs ls h1 h2 h3)
theorem w_goto (X : Cx G n0 p s m args meth c cc own nL) {off : Int} (tgt : Nat) (hd : decode cc pc = .ok (.goto off, 3)) (ht : (pc : Int) + off = (tgt : Int)) (k : WW p l e R s m args below meth c Q G n0 nL N f cells slots tgt L st) : WW p l e R s m args below meth c Q G n0 nL N f cells slots pc L st := fun H locs ls h1 h2 h3 => lv_goto X.1 X.2.1 hd ht (k H locs ls h1 h2 h3)

theorem rg0 : rg 0 := ⟨by decide, by decide⟩
theorem w_icmp_eq (X : Cx G n0 p s m args meth c cc own nL) {a b : Int} {off : Int} (tgt : Nat) (hd : decode cc pc = .ok (.if_icmp .eq off, 3)) (ht : (pc : Int) + off = (tgt : Int)) (kt : a = b → WW p l e R s m args below meth c Q G n0 nL N f cells slots tgt L st) (kf : ¬ (a = b) → WW p l e R s m args below meth c Q G n0 nL N f cells slots (pc + 3) L st) (ha : rg a := by first | assumption | (refine ⟨?_, ?_⟩ <;> omega) | (unfold rg; omega)) (hb : rg b := by first | assumption | (refine ⟨?_, ?_⟩ <;> omega) | (unfold rg; omega)) : WW p l e R s m args below meth c Q G n0 nL N f cells slots pc L (.int (jI b) :: .int (jI a) :: st) := fun H locs ls h1 h2 h3 => lv_icmp_eq X.1 X.2.1 hd ht (fun h => kt ((jI_eq ha hb).mp h) H locs ls h1 h2 h3) (fun h => kf (fun q => h ((jI_eq ha hb).mpr q)) H locs ls h1 h2 h3)
theorem w_if_eq (X : Cx G n0 p s m args meth c cc own nL) {a : Int} {off : Int} (tgt : Nat) (hd : decode cc pc = .ok (.ifCond .eq off, 3)) (ht : (pc : Int) + off = (tgt : Int)) (kt : a = 0 → WW p l e R s m args below meth c Q G n0 nL N f cells slots tgt L st) (kf : ¬ (a = 0) → WW p l e R s m args below meth c Q G n0 nL N f cells slots (pc + 3) L st) (ha : rg a := by first | assumption | (refine ⟨?_, ?_⟩ <;> omega) | (unfold rg; omega)) : WW p l e R s m args below meth c Q G n0 nL N f cells slots pc L (.int (jI a) :: st) := fun H locs ls h1 h2 h3 => lv_if_eq X.1 X.2.1 hd ht (fun h => kt ((jI_eq ha rg0).mp h) H locs ls h1 h2 h3) (fun h => kf (fun q => h ((jI_eq ha rg0).mpr q)) H locs ls h1 h2 h3)
theorem w_icmp_ne (X : Cx G n0 p s m args meth c cc own nL) {a b : Int} {off : Int} (tgt : Nat) (hd : decode cc pc = .ok (.if_icmp .ne off, 3)) (ht : (pc : Int) + off = (tgt : Int)) (kt : ¬ a = b → WW p l e R s m args below meth c Q G n0 nL N f cells slots tgt L st) (kf : a = b → WW p l e R s m args below meth c Q G n0 nL N f cells slots (pc + 3) L st) (ha : rg a := by first | assumption | (refine ⟨?_, ?_⟩ <;> omega) | (unfold rg; omega)) (hb : rg b := by first | assumption | (refine ⟨?_, ?_⟩ <;> omega) | (unfold rg; omega)) : WW p l e R s m args below meth c Q G n0 nL N f cells slots pc L (.int (jI b) :: .int (jI a) :: st) := fun H locs ls h1 h2 h3 => lv_icmp_ne X.1 X.2.1 hd ht (fun h => kt ((not_congr (jI_eq ha hb)).mp h) H locs ls h1 h2 h3) (fun h => kf ((jI_eq ha hb).mp h) H locs ls h1 h2 h3)
theorem w_if_ne (X : Cx G n0 p s m args meth c cc own nL) {a : Int} {off : Int} (tgt : Nat) (hd : decode cc pc = .ok (.ifCond .ne off, 3)) (ht : (pc : Int) + off = (tgt : Int)) (kt : ¬ a = 0 → WW p l e R s m args below meth c Q G n0 nL N f cells slots tgt L st) (kf : a = 0 → WW p l e R s m args below meth c Q G n0 nL N f cells slots (pc + 3) L st) (ha : rg a := by first | assumption | (refine ⟨?_, ?_⟩ <;> omega) | (unfold rg; omega)) : WW p l e R s m args below meth c Q G n0 nL N f cells slots pc L (.int (jI a) :: st) := fun H locs ls h1 h2 h3 => lv_if_ne X.1 X.2.1 hd ht (fun h => kt ((not_congr (jI_eq ha rg0)).mp h) H locs ls h1 h2 h3) (fun h => kf ((jI_eq ha rg0).mp h) H locs ls h1 h2 h3)
theorem w_icmp_lt (X : Cx G n0 p s m args meth c cc own nL) {a b : Int} {off : Int} (tgt : Nat) (hd : decode cc pc = .ok (.if_icmp .lt off, 3)) (ht : (pc : Int) + off = (tgt : Int)) (kt : a < b → WW p l e R s m args below meth c Q G n0 nL N f cells slots tgt L st) (kf : ¬ (a < b) → WW p l e R s m args below meth c Q G n0 nL N f cells slots (pc + 3) L st) (ha : rg a := by first | assumption | (refine ⟨?_, ?_⟩ <;> omega) | (unfold rg; omega)) (hb : rg b := by first | assumption | (refine ⟨?_, ?_⟩ <;> omega) | (unfold rg; omega)) : WW p l e R s m args below meth c Q G n0 nL N f cells slots pc L (.int (jI b) :: .int (jI a) :: st) := fun H locs ls h1 h2 h3 => lv_icmp_lt X.1 X.2.1 hd ht (fun h => kt ((jI_lt ha hb).mp h) H locs ls h1 h2 h3) (fun h => kf (fun q => h ((jI_lt ha hb).mpr q)) H locs ls h1 h2 h3)
theorem w_if_lt (X : Cx G n0 p s m args meth c cc own nL) {a : Int} {off : Int} (tgt : Nat) (hd : decode cc pc = .ok (.ifCond .lt off, 3)) (ht : (pc : Int) + off = (tgt : Int)) (kt : a < 0 → WW p l e R s m args below meth c Q G n0 nL N f cells slots tgt L st) (kf : ¬ (a < 0) → WW p l e R s m args below meth c Q G n0 nL N f cells slots (pc + 3) L st) (ha : rg a := by first | assumption | (refine ⟨?_, ?_⟩ <;> omega) | (unfold rg; omega)) : WW p l e R s m args below meth c Q G n0 nL N f cells slots pc L (.int (jI a) :: st) := fun H locs ls h1 h2 h3 => lv_if_lt X.1 X.2.1 hd ht (fun h => kt ((jI_lt ha rg0).mp h) H locs ls h1 h2 h3) (fun h => kf (fun q => h ((jI_lt ha rg0).mpr q)) H locs ls h1 h2 h3)
theorem w_icmp_ge (X : Cx G n0 p s m args meth c cc own nL) {a b : Int} {off : Int} (tgt : Nat) (hd : decode cc pc = .ok (.if_icmp .ge off, 3)) (ht : (pc : Int) + off = (tgt : Int)) (kt : b ≤ a → WW p l e R s m args below meth c Q G n0 nL N f cells slots tgt L st) (kf : ¬ (b ≤ a) → WW p l e R s m args below meth c Q G n0 nL N f cells slots (pc + 3) L st) (ha : rg a := by first | assumption | (refine ⟨?_, ?_⟩ <;> omega) | (unfold rg; omega)) (hb : rg b := by first | assumption | (refine ⟨?_, ?_⟩ <;> omega) | (unfold rg; omega)) : WW p l e R s m args below meth c Q G n0 nL N f cells slots pc L (.int (jI b) :: .int (jI a) :: st) := fun H locs ls h1 h2 h3 => lv_icmp_ge X.1 X.2.1 hd ht (fun h => kt ((jI_le hb ha).mp h) H locs ls h1 h2 h3) (fun h => kf (fun q => h ((jI_le hb ha).mpr q)) H locs ls h1 h2 h3)
theorem w_if_ge (X : Cx G n0 p s m args meth c cc own nL) {a : Int} {off : Int} (tgt : Nat) (hd : decode cc pc = .ok (.ifCond .ge off, 3)) (ht : (pc : Int) + off = (tgt : Int)) (kt : 0 ≤ a → WW p l e R s m args below meth c Q G n0 nL N f cells slots tgt L st) (kf : ¬ (0 ≤ a) → WW p l e R s m args below meth c Q G n0 nL N f cells slots (pc + 3) L st) (ha : rg a := by first | assumption | (refine ⟨?_, ?_⟩ <;> omega) | (unfold rg; omega)) : WW p l e R s m args below meth c Q G n0 nL N f cells slots pc L (.int (jI a) :: st) := fun H locs ls h1 h2 h3 => lv_if_ge X.1 X.2.1 hd ht (fun h => kt ((jI_le rg0 ha).mp h) H locs ls h1 h2 h3) (fun h => kf (fun q => h ((jI_le rg0 ha).mpr q)) H locs ls h1 h2 h3)
theorem w_icmp_gt (X : Cx G n0 p s m args meth c cc own nL) {a b : Int} {off : Int} (tgt : Nat) (hd : decode cc pc = .ok (.if_icmp .gt off, 3)) (ht : (pc : Int) + off = (tgt : Int)) (kt : b < a → WW p l e R s m args below meth c Q G n0 nL N f cells slots tgt L st) (kf : ¬ (b < a) → WW p l e R s m args below meth c Q G n0 nL N f cells slots (pc + 3) L st) (ha : rg a := by first | assumption | (refine ⟨?_, ?_⟩ <;> omega) | (unfold rg; omega)) (hb : rg b := by first | assumption | (refine ⟨?_, ?_⟩ <;> omega) | (unfold rg; omega)) : WW p l e R s m args below meth c Q G n0 nL N f cells slots pc L (.int (jI b) :: .int (jI a) :: st) := fun H locs ls h1 h2 h3 => lv_icmp_gt X.1 X.2.1 hd ht (fun h => kt ((jI_lt hb ha).mp h) H locs ls h1 h2 h3) (fun h => kf (fun q => h ((jI_lt hb ha).mpr q)) H locs ls h1 h2 h3)
theorem w_if_gt (X : Cx G n0 p s m args meth c cc own nL) {a : Int} {off : Int} (tgt : Nat) (hd : decode cc pc = .ok (.ifCond .gt off, 3)) (ht : (pc : Int) + off = (tgt : Int)) (kt : 0 < a → WW p l e R s m args below meth c Q G n0 nL N f cells slots tgt L st) (kf : ¬ (0 < a) → WW p l e R s m args below meth c Q G n0 nL N f cells slots (pc + 3) L st) (ha : rg a := by first | assumption | (refine ⟨?_, ?_⟩ <;> omega) | (unfold rg; omega)) : WW p l e R s m args below meth c Q G n0 nL N f cells slots pc L (.int (jI a) :: st) := fun H locs ls h1 h2 h3 => lv_if_gt X.1 X.2.1 hd ht (fun h => kt ((jI_lt rg0 ha).mp h) H locs ls h1 h2 h3) (fun h => kf (fun q => h ((jI_lt rg0 ha).mpr q)) H locs ls h1 h2 h3)
theorem w_icmp_le (X : Cx G n0 p s m args meth c cc own nL) {a b : Int} {off : Int} (tgt : Nat) (hd : decode cc pc = .ok (.if_icmp .le off, 3)) (ht : (pc : Int) + off = (tgt : Int)) (kt : a ≤ b → WW p l e R s m args below meth c Q G n0 nL N f cells slots tgt L st) (kf : ¬ (a ≤ b) → WW p l e R s m args below meth c Q G n0 nL N f cells slots (pc + 3) L st) (ha : rg a := by first | assumption | (refine ⟨?_, ?_⟩ <;> omega) | (unfold rg; omega)) (hb : rg b := by first | assumption | (refine ⟨?_, ?_⟩ <;> omega) | (unfold rg; omega)) : WW p l e R s m args below meth c Q G n0 nL N f cells slots pc L (.int (jI b) :: .int (jI a) :: st) := fun H locs ls h1 h2 h3 => lv_icmp_le X.1 X.2.1 hd ht (fun h => kt ((jI_le ha hb).mp h) H locs ls h1 h2 h3) (fun h => kf (fun q => h ((jI_le ha hb).mpr q)) H locs ls h1 h2 h3)
theorem w_if_le (X : Cx G n0 p s m args meth c cc own nL) {a : Int} {off : Int} (tgt : Nat) (hd : decode cc pc = .ok (.ifCond .le off, 3)) (ht : (pc : Int) + off = (tgt : Int)) (kt : a ≤ 0 → WW p l e R s m args below meth c Q G n0 nL N f cells slots tgt L st) (kf : ¬ (a ≤ 0) → WW p l e R s m args below meth c Q G n0 nL N f cells slots (pc + 3) L st) (ha : rg a := by first | assumption | (refine ⟨?_, ?_⟩ <;> omega) | (unfold rg; omega)) : WW p l e R s m args below meth c Q G n0 nL N f cells slots pc L (.int (jI a) :: st) := fun H locs ls h1 h2 h3 => lv_if_le X.1 X.2.1 hd ht (fun h => kt ((jI_le ha rg0).mp h) H locs ls h1 h2 h3) (fun h => kf (fun q => h ((jI_le ha rg0).mpr q)) H locs ls h1 h2 h3)
theorem w_ist1_0 (X : Cx G n0 p s m args meth c cc own 1) {x : Int32} {a0 : Option Value} (hd : decode cc pc = .ok (.istore_n 0, 1)) (kk : WW p l e R s m args below meth c Q G n0 1 N f cells slots (pc + 1) [some (.int x)] st) : WW p l e R s m args below meth c Q G n0 1 N f cells slots pc [a0] (.int x :: st) := w_istore_n X hd (by decide) kk
theorem w_ast1_0 (X : Cx G n0 p s m args meth c cc own 1) {x : Nat} {a0 : Option Value} (hd : decode cc pc = .ok (.astore_n 0, 1)) (kk : WW p l e R s m args below meth c Q G n0 1 N f cells slots (pc + 1) [some (.ref x)] st) : WW p l e R s m args below meth c Q G n0 1 N f cells slots pc [a0] (.ref x :: st) := w_astore_n X hd (by decide) kk
theorem w_iinc1_0 (X : Cx G n0 p s m args meth c cc own 1) {z n : Int}  (hd : decode cc pc = .ok (.iinc 0 n, 3)) (kk : WW p l e R s m args below meth c Q G n0 1 N f cells slots (pc + 3) [some (.int (jI (z + n)))] st) : WW p l e R s m args below meth c Q G n0 1 N f cells slots pc [some (.int (jI z))] st := w_iinc X hd rfl kk
theorem w_ist2_0 (X : Cx G n0 p s m args meth c cc own 2) {x : Int32} {a0 a1 : Option Value} (hd : decode cc pc = .ok (.istore_n 0, 1)) (kk : WW p l e R s m args below meth c Q G n0 2 N f cells slots (pc + 1) [some (.int x), a1] st) : WW p l e R s m args below meth c Q G n0 2 N f cells slots pc [a0, a1] (.int x :: st) := w_istore_n X hd (by decide) kk
theorem w_ast2_0 (X : Cx G n0 p s m args meth c cc own 2) {x : Nat} {a0 a1 : Option Value} (hd : decode cc pc = .ok (.astore_n 0, 1)) (kk : WW p l e R s m args below meth c Q G n0 2 N f cells slots (pc + 1) [some (.ref x), a1] st) : WW p l e R s m args below meth c Q G n0 2 N f cells slots pc [a0, a1] (.ref x :: st) := w_astore_n X hd (by decide) kk
theorem w_iinc2_0 (X : Cx G n0 p s m args meth c cc own 2) {z n : Int} {a1 : Option Value} (hd : decode cc pc = .ok (.iinc 0 n, 3)) (kk : WW p l e R s m args below meth c Q G n0 2 N f cells slots (pc + 3) [some (.int (jI (z + n))), a1] st) : WW p l e R s m args below meth c Q G n0 2 N f cells slots pc [some (.int (jI z)), a1] st := w_iinc X hd rfl kk
theorem w_ist2_1 (X : Cx G n0 p s m args meth c cc own 2) {x : Int32} {a0 a1 : Option Value} (hd : decode cc pc = .ok (.istore_n 1, 1)) (kk : WW p l e R s m args below meth c Q G n0 2 N f cells slots (pc + 1) [a0, some (.int x)] st) : WW p l e R s m args below meth c Q G n0 2 N f cells slots pc [a0, a1] (.int x :: st) := w_istore_n X hd (by decide) kk
theorem w_ast2_1 (X : Cx G n0 p s m args meth c cc own 2) {x : Nat} {a0 a1 : Option Value} (hd : decode cc pc = .ok (.astore_n 1, 1)) (kk : WW p l e R s m args below meth c Q G n0 2 N f cells slots (pc + 1) [a0, some (.ref x)] st) : WW p l e R s m args below meth c Q G n0 2 N f cells slots pc [a0, a1] (.ref x :: st) := w_astore_n X hd (by decide) kk
theorem w_iinc2_1 (X : Cx G n0 p s m args meth c cc own 2) {z n : Int} {a0 : Option Value} (hd : decode cc pc = .ok (.iinc 1 n, 3)) (kk : WW p l e R s m args below meth c Q G n0 2 N f cells slots (pc + 3) [a0, some (.int (jI (z + n)))] st) : WW p l e R s m args below meth c Q G n0 2 N f cells slots pc [a0, some (.int (jI z))] st := w_iinc X hd rfl kk
theorem w_ist3_0 (X : Cx G n0 p s m args meth c cc own 3) {x : Int32} {a0 a1 a2 : Option Value} (hd : decode cc pc = .ok (.istore_n 0, 1)) (kk : WW p l e R s m args below meth c Q G n0 3 N f cells slots (pc + 1) [some (.int x), a1, a2] st) : WW p l e R s m args below meth c Q G n0 3 N f cells slots pc [a0, a1, a2] (.int x :: st) := w_istore_n X hd (by decide) kk
theorem w_ast3_0 (X : Cx G n0 p s m args meth c cc own 3) {x : Nat} {a0 a1 a2 : Option Value} (hd : decode cc pc = .ok (.astore_n 0, 1)) (kk : WW p l e R s m args below meth c Q G n0 3 N f cells slots (pc + 1) [some (.ref x), a1, a2] st) : WW p l e R s m args below meth c Q G n0 3 N f cells slots pc [a0, a1, a2] (.ref x :: st) := w_astore_n X hd (by decide) kk
theorem w_iinc3_0 (X : Cx G n0 p s m args meth c cc own 3) {z n : Int} {a1 a2 : Option Value} (hd : decode cc pc = .ok (.iinc 0 n, 3)) (kk : WW p l e R s m args below meth c Q G n0 3 N f cells slots (pc + 3) [some (.int (jI (z + n))), a1, a2] st) : WW p l e R s m args below meth c Q G n0 3 N f cells slots pc [some (.int (jI z)), a1, a2] st := w_iinc X hd rfl kk
theorem w_ist3_1 (X : Cx G n0 p s m args meth c cc own 3) {x : Int32} {a0 a1 a2 : Option Value} (hd : decode cc pc = .ok (.istore_n 1, 1)) (kk : WW p l e R s m args below meth c Q G n0 3 N f cells slots (pc + 1) [a0, some (.int x), a2] st) : WW p l e R s m args below meth c Q G n0 3 N f cells slots pc [a0, a1, a2] (.int x :: st) := w_istore_n X hd (by decide) kk
theorem w_ast3_1 (X : Cx G n0 p s m args meth c cc own 3) {x : Nat} {a0 a1 a2 : Option Value} (hd : decode cc pc = .ok (.astore_n 1, 1)) (kk : WW p l e R s m args below meth c Q G n0 3 N f cells slots (pc + 1) [a0, some (.ref x), a2] st) : WW p l e R s m args below meth c Q G n0 3 N f cells slots pc [a0, a1, a2] (.ref x :: st) := w_astore_n X hd (by decide) kk
theorem w_iinc3_1 (X : Cx G n0 p s m args meth c cc own 3) {z n : Int} {a0 a2 : Option Value} (hd : decode cc pc = .ok (.iinc 1 n, 3)) (kk : WW p l e R s m args below meth c Q G n0 3 N f cells slots (pc + 3) [a0, some (.int (jI (z + n))), a2] st) : WW p l e R s m args below meth c Q G n0 3 N f cells slots pc [a0, some (.int (jI z)), a2] st := w_iinc X hd rfl kk
theorem w_ist3_2 (X : Cx G n0 p s m args meth c cc own 3) {x : Int32} {a0 a1 a2 : Option Value} (hd : decode cc pc = .ok (.istore_n 2, 1)) (kk : WW p l e R s m args below meth c Q G n0 3 N f cells slots (pc + 1) [a0, a1, some (.int x)] st) : WW p l e R s m args below meth c Q G n0 3 N f cells slots pc [a0, a1, a2] (.int x :: st) := w_istore_n X hd (by decide) kk
theorem w_ast3_2 (X : Cx G n0 p s m args meth c cc own 3) {x : Nat} {a0 a1 a2 : Option Value} (hd : decode cc pc = .ok (.astore_n 2, 1)) (kk : WW p l e R s m args below meth c Q G n0 3 N f cells slots (pc + 1) [a0, a1, some (.ref x)] st) : WW p l e R s m args below meth c Q G n0 3 N f cells slots pc [a0, a1, a2] (.ref x :: st) := w_astore_n X hd (by decide) kk
theorem w_iinc3_2 (X : Cx G n0 p s m args meth c cc own 3) {z n : Int} {a0 a1 : Option Value} (hd : decode cc pc = .ok (.iinc 2 n, 3)) (kk : WW p l e R s m args below meth c Q G n0 3 N f cells slots (pc + 3) [a0, a1, some (.int (jI (z + n)))] st) : WW p l e R s m args below meth c Q G n0 3 N f cells slots pc [a0, a1, some (.int (jI z))] st := w_iinc X hd rfl kk
theorem w_ist4_0 (X : Cx G n0 p s m args meth c cc own 4) {x : Int32} {a0 a1 a2 a3 : Option Value} (hd : decode cc pc = .ok (.istore_n 0, 1)) (kk : WW p l e R s m args below meth c Q G n0 4 N f cells slots (pc + 1) [some (.int x), a1, a2, a3] st) : WW p l e R s m args below meth c Q G n0 4 N f cells slots pc [a0, a1, a2, a3] (.int x :: st) := w_istore_n X hd (by decide) kk
theorem w_ast4_0 (X : Cx G n0 p s m args meth c cc own 4) {x : Nat} {a0 a1 a2 a3 : Option Value} (hd : decode cc pc = .ok (.astore_n 0, 1)) (kk : WW p l e R s m args below meth c Q G n0 4 N f cells slots (pc + 1) [some (.ref x), a1, a2, a3] st) : WW p l e R s m args below meth c Q G n0 4 N f cells slots pc [a0, a1, a2, a3] (.ref x :: st) := w_astore_n X hd (by decide) kk
theorem w_iinc4_0 (X : Cx G n0 p s m args meth c cc own 4) {z n : Int} {a1 a2 a3 : Option Value} (hd : decode cc pc = .ok (.iinc 0 n, 3)) (kk : WW p l e R s m args below meth c Q G n0 4 N f cells slots (pc + 3) [some (.int (jI (z + n))), a1, a2, a3] st) : WW p l e R s m args below meth c Q G n0 4 N f cells slots pc [some (.int (jI z)), a1, a2, a3] st := w_iinc X hd rfl kk
theorem w_ist4_1 (X : Cx G n0 p s m args meth c cc own 4) {x : Int32} {a0 a1 a2 a3 : Option Value} (hd : decode cc pc = .ok (.istore_n 1, 1)) (kk : WW p l e R s m args below meth c Q G n0 4 N f cells slots (pc + 1) [a0, some (.int x), a2, a3] st) : WW p l e R s m args below meth c Q G n0 4 N f cells slots pc [a0, a1, a2, a3] (.int x :: st) := w_istore_n X hd (by decide) kk
theorem w_ast4_1 (X : Cx G n0 p s m args meth c cc own 4) {x : Nat} {a0 a1 a2 a3 : Option Value} (hd : decode cc pc = .ok (.astore_n 1, 1)) (kk : WW p l e R s m args below meth c Q G n0 4 N f cells slots (pc + 1) [a0, some (.ref x), a2, a3] st) : WW p l e R s m args below meth c Q G n0 4 N f cells slots pc [a0, a1, a2, a3] (.ref x :: st) := w_astore_n X hd (by decide) kk
theorem w_iinc4_1 (X : Cx G n0 p s m args meth c cc own 4) {z n : Int} {a0 a2 a3 : Option Value} (hd : decode cc pc = .ok (.iinc 1 n, 3)) (kk : WW p l e R s m args below meth c Q G n0 4 N f cells slots (pc + 3) [a0, some (.int (jI (z + n))), a2, a3] st) : WW p l e R s m args below meth c Q G n0 4 N f cells slots pc [a0, some (.int (jI z)), a2, a3] st := w_iinc X hd rfl kk
theorem w_ist4_2 (X : Cx G n0 p s m args meth c cc own 4) {x : Int32} {a0 a1 a2 a3 : Option Value} (hd : decode cc pc = .ok (.istore_n 2, 1)) (kk : WW p l e R s m args below meth c Q G n0 4 N f cells slots (pc + 1) [a0, a1, some (.int x), a3] st) : WW p l e R s m args below meth c Q G n0 4 N f cells slots pc [a0, a1, a2, a3] (.int x :: st) := w_istore_n X hd (by decide) kk
theorem w_ast4_2 (X : Cx G n0 p s m args meth c cc own 4) {x : Nat} {a0 a1 a2 a3 : Option Value} (hd : decode cc pc = .ok (.astore_n 2, 1)) (kk : WW p l e R s m args below meth c Q G n0 4 N f cells slots (pc + 1) [a0, a1, some (.ref x), a3] st) : WW p l e R s m args below meth c Q G n0 4 N f cells slots pc [a0, a1, a2, a3] (.ref x :: st) := w_astore_n X hd (by decide) kk
theorem w_iinc4_2 (X : Cx G n0 p s m args meth c cc own 4) {z n : Int} {a0 a1 a3 : Option Value} (hd : decode cc pc = .ok (.iinc 2 n, 3)) (kk : WW p l e R s m args below meth c Q G n0 4 N f cells slots (pc + 3) [a0, a1, some (.int (jI (z + n))), a3] st) : WW p l e R s m args below meth c Q G n0 4 N f cells slots pc [a0, a1, some (.int (jI z)), a3] st := w_iinc X hd rfl kk
theorem w_ist4_3 (X : Cx G n0 p s m args meth c cc own 4) {x : Int32} {a0 a1 a2 a3 : Option Value} (hd : decode cc pc = .ok (.istore_n 3, 1)) (kk : WW p l e R s m args below meth c Q G n0 4 N f cells slots (pc + 1) [a0, a1, a2, some (.int x)] st) : WW p l e R s m args below meth c Q G n0 4 N f cells slots pc [a0, a1, a2, a3] (.int x :: st) := w_istore_n X hd (by decide) kk
theorem w_ast4_3 (X : Cx G n0 p s m args meth c cc own 4) {x : Nat} {a0 a1 a2 a3 : Option Value} (hd : decode cc pc = .ok (.astore_n 3, 1)) (kk : WW p l e R s m args below meth c Q G n0 4 N f cells slots (pc + 1) [a0, a1, a2, some (.ref x)] st) : WW p l e R s m args below meth c Q G n0 4 N f cells slots pc [a0, a1, a2, a3] (.ref x :: st) := w_astore_n X hd (by decide) kk
theorem w_iinc4_3 (X : Cx G n0 p s m args meth c cc own 4) {z n : Int} {a0 a1 a2 : Option Value} (hd : decode cc pc = .ok (.iinc 3 n, 3)) (kk : WW p l e R s m args below meth c Q G n0 4 N f cells slots (pc + 3) [a0, a1, a2, some (.int (jI (z + n)))] st) : WW p l e R s m args below meth c Q G n0 4 N f cells slots pc [a0, a1, a2, some (.int (jI z))] st := w_iinc X hd rfl kk
theorem w_ist5_0 (X : Cx G n0 p s m args meth c cc own 5) {x : Int32} {a0 a1 a2 a3 a4 : Option Value} (hd : decode cc pc = .ok (.istore_n 0, 1)) (kk : WW p l e R s m args below meth c Q G n0 5 N f cells slots (pc + 1) [some (.int x), a1, a2, a3, a4] st) : WW p l e R s m args below meth c Q G n0 5 N f cells slots pc [a0, a1, a2, a3, a4] (.int x :: st) := w_istore_n X hd (by decide) kk
theorem w_ast5_0 (X : Cx G n0 p s m args meth c cc own 5) {x : Nat} {a0 a1 a2 a3 a4 : Option Value} (hd : decode cc pc = .ok (.astore_n 0, 1)) (kk : WW p l e R s m args below meth c Q G n0 5 N f cells slots (pc + 1) [some (.ref x), a1, a2, a3, a4] st) : WW p l e R s m args below meth c Q G n0 5 N f cells slots pc [a0, a1, a2, a3, a4] (.ref x :: st) := w_astore_n X hd (by decide) kk
theorem w_iinc5_0 (X : Cx G n0 p s m args meth c cc own 5) {z n : Int} {a1 a2 a3 a4 : Option Value} (hd : decode cc pc = .ok (.iinc 0 n, 3)) (kk : WW p l e R s m args below meth c Q G n0 5 N f cells slots (pc + 3) [some (.int (jI (z + n))), a1, a2, a3, a4] st) : WW p l e R s m args below meth c Q G n0 5 N f cells slots pc [some (.int (jI z)), a1, a2, a3, a4] st := w_iinc X hd rfl kk
theorem w_ist5_1 (X : Cx G n0 p s m args meth c cc own 5) {x : Int32} {a0 a1 a2 a3 a4 : Option Value} (hd : decode cc pc = .ok (.istore_n 1, 1)) (kk : WW p l e R s m args below meth c Q G n0 5 N f cells slots (pc + 1) [a0, some (.int x), a2, a3, a4] st) : WW p l e R s m args below meth c Q G n0 5 N f cells slots pc [a0, a1, a2, a3, a4] (.int x :: st) := w_istore_n X hd (by decide) kk
theorem w_ast5_1 (X : Cx G n0 p s m args meth c cc own 5) {x : Nat} {a0 a1 a2 a3 a4 : Option Value} (hd : decode cc pc = .ok (.astore_n 1, 1)) (kk : WW p l e R s m args below meth c Q G n0 5 N f cells slots (pc + 1) [a0, some (.ref x), a2, a3, a4] st) : WW p l e R s m args below meth c Q G n0 5 N f cells slots pc [a0, a1, a2, a3, a4] (.ref x :: st) := w_astore_n X hd (by decide) kk
theorem w_iinc5_1 (X : Cx G n0 p s m args meth c cc own 5) {z n : Int} {a0 a2 a3 a4 : Option Value} (hd : decode cc pc = .ok (.iinc 1 n, 3)) (kk : WW p l e R s m args below meth c Q G n0 5 N f cells slots (pc + 3) [a0, some (.int (jI (z + n))), a2, a3, a4] st) : WW p l e R s m args below meth c Q G n0 5 N f cells slots pc [a0, some (.int (jI z)), a2, a3, a4] st := w_iinc X hd rfl kk
theorem w_ist5_2 (X : Cx G n0 p s m args meth c cc own 5) {x : Int32} {a0 a1 a2 a3 a4 : Option Value} (hd : decode cc pc = .ok (.istore_n 2, 1)) (kk : WW p l e R s m args below meth c Q G n0 5 N f cells slots (pc + 1) [a0, a1, some (.int x), a3, a4] st) : WW p l e R s m args below meth c Q G n0 5 N f cells slots pc [a0, a1, a2, a3, a4] (.int x :: st) := w_istore_n X hd (by decide) kk
theorem w_ast5_2 (X : Cx G n0 p s m args meth c cc own 5) {x : Nat} {a0 a1 a2 a3 a4 : Option Value} (hd : decode cc pc = .ok (.astore_n 2, 1)) (kk : WW p l e R s m args below meth c Q G n0 5 N f cells slots (pc + 1) [a0, a1, some (.ref x), a3, a4] st) : WW p l e R s m args below meth c Q G n0 5 N f cells slots pc [a0, a1, a2, a3, a4] (.ref x :: st) := w_astore_n X hd (by decide) kk
theorem w_iinc5_2 (X : Cx G n0 p s m args meth c cc own 5) {z n : Int} {a0 a1 a3 a4 : Option Value} (hd : decode cc pc = .ok (.iinc 2 n, 3)) (kk : WW p l e R s m args below meth c Q G n0 5 N f cells slots (pc + 3) [a0, a1, some (.int (jI (z + n))), a3, a4] st) : WW p l e R s m args below meth c Q G n0 5 N f cells slots pc [a0, a1, some (.int (jI z)), a3, a4] st := w_iinc X hd rfl kk
theorem w_ist5_3 (X : Cx G n0 p s m args meth c cc own 5) {x : Int32} {a0 a1 a2 a3 a4 : Option Value} (hd : decode cc pc = .ok (.istore_n 3, 1)) (kk : WW p l e R s m args below meth c Q G n0 5 N f cells slots (pc + 1) [a0, a1, a2, some (.int x), a4] st) : WW p l e R s m args below meth c Q G n0 5 N f cells slots pc [a0, a1, a2, a3, a4] (.int x :: st) := w_istore_n X hd (by decide) kk
theorem w_ast5_3 (X : Cx G n0 p s m args meth c cc own 5) {x : Nat} {a0 a1 a2 a3 a4 : Option Value} (hd : decode cc pc = .ok (.astore_n 3, 1)) (kk : WW p l e R s m args below meth c Q G n0 5 N f cells slots (pc + 1) [a0, a1, a2, some (.ref x), a4] st) : WW p l e R s m args below meth c Q G n0 5 N f cells slots pc [a0, a1, a2, a3, a4] (.ref x :: st) := w_astore_n X hd (by decide) kk
theorem w_iinc5_3 (X : Cx G n0 p s m args meth c cc own 5) {z n : Int} {a0 a1 a2 a4 : Option Value} (hd : decode cc pc = .ok (.iinc 3 n, 3)) (kk : WW p l e R s m args below meth c Q G n0 5 N f cells slots (pc + 3) [a0, a1, a2, some (.int (jI (z + n))), a4] st) : WW p l e R s m args below meth c Q G n0 5 N f cells slots pc [a0, a1, a2, some (.int (jI z)), a4] st := w_iinc X hd rfl kk
theorem w_ist5_4 (X : Cx G n0 p s m args meth c cc own 5) {x : Int32} {a0 a1 a2 a3 a4 : Option Value} (hd : decode cc pc = .ok (.istore 4, 2)) (kk : WW p l e R s m args below meth c Q G n0 5 N f cells slots (pc + 2) [a0, a1, a2, a3, some (.int x)] st) : WW p l e R s m args below meth c Q G n0 5 N f cells slots pc [a0, a1, a2, a3, a4] (.int x :: st) := w_istore X hd (by decide) kk
theorem w_ast5_4 (X : Cx G n0 p s m args meth c cc own 5) {x : Nat} {a0 a1 a2 a3 a4 : Option Value} (hd : decode cc pc = .ok (.astore 4, 2)) (kk : WW p l e R s m args below meth c Q G n0 5 N f cells slots (pc + 2) [a0, a1, a2, a3, some (.ref x)] st) : WW p l e R s m args below meth c Q G n0 5 N f cells slots pc [a0, a1, a2, a3, a4] (.ref x :: st) := w_astore X hd (by decide) kk
theorem w_iinc5_4 (X : Cx G n0 p s m args meth c cc own 5) {z n : Int} {a0 a1 a2 a3 : Option Value} (hd : decode cc pc = .ok (.iinc 4 n, 3)) (kk : WW p l e R s m args below meth c Q G n0 5 N f cells slots (pc + 3) [a0, a1, a2, a3, some (.int (jI (z + n)))] st) : WW p l e R s m args below meth c Q G n0 5 N f cells slots pc [a0, a1, a2, a3, some (.int (jI z))] st := w_iinc X hd rfl kk
theorem w_ist6_0 (X : Cx G n0 p s m args meth c cc own 6) {x : Int32} {a0 a1 a2 a3 a4 a5 : Option Value} (hd : decode cc pc = .ok (.istore_n 0, 1)) (kk : WW p l e R s m args below meth c Q G n0 6 N f cells slots (pc + 1) [some (.int x), a1, a2, a3, a4, a5] st) : WW p l e R s m args below meth c Q G n0 6 N f cells slots pc [a0, a1, a2, a3, a4, a5] (.int x :: st) := w_istore_n X hd (by decide) kk
theorem w_ast6_0 (X : Cx G n0 p s m args meth c cc own 6) {x : Nat} {a0 a1 a2 a3 a4 a5 : Option Value} (hd : decode cc pc = .ok (.astore_n 0, 1)) (kk : WW p l e R s m args below meth c Q G n0 6 N f cells slots (pc + 1) [some (.ref x), a1, a2, a3, a4, a5] st) : WW p l e R s m args below meth c Q G n0 6 N f cells slots pc [a0, a1, a2, a3, a4, a5] (.ref x :: st) := w_astore_n X hd (by decide) kk
theorem w_iinc6_0 (X : Cx G n0 p s m args meth c cc own 6) {z n : Int} {a1 a2 a3 a4 a5 : Option Value} (hd : decode cc pc = .ok (.iinc 0 n, 3)) (kk : WW p l e R s m args below meth c Q G n0 6 N f cells slots (pc + 3) [some (.int (jI (z + n))), a1, a2, a3, a4, a5] st) : WW p l e R s m args below meth c Q G n0 6 N f cells slots pc [some (.int (jI z)), a1, a2, a3, a4, a5] st := w_iinc X hd rfl kk
theorem w_ist6_1 (X : Cx G n0 p s m args meth c cc own 6) {x : Int32} {a0 a1 a2 a3 a4 a5 : Option Value} (hd : decode cc pc = .ok (.istore_n 1, 1)) (kk : WW p l e R s m args below meth c Q G n0 6 N f cells slots (pc + 1) [a0, some (.int x), a2, a3, a4, a5] st) : WW p l e R s m args below meth c Q G n0 6 N f cells slots pc [a0, a1, a2, a3, a4, a5] (.int x :: st) := w_istore_n X hd (by decide) kk
theorem w_ast6_1 (X : Cx G n0 p s m args meth c cc own 6) {x : Nat} {a0 a1 a2 a3 a4 a5 : Option Value} (hd : decode cc pc = .ok (.astore_n 1, 1)) (kk : WW p l e R s m args below meth c Q G n0 6 N f cells slots (pc + 1) [a0, some (.ref x), a2, a3, a4, a5] st) : WW p l e R s m args below meth c Q G n0 6 N f cells slots pc [a0, a1, a2, a3, a4, a5] (.ref x :: st) := w_astore_n X hd (by decide) kk
theorem w_iinc6_1 (X : Cx G n0 p s m args meth c cc own 6) {z n : Int} {a0 a2 a3 a4 a5 : Option Value} (hd : decode cc pc = .ok (.iinc 1 n, 3)) (kk : WW p l e R s m args below meth c Q G n0 6 N f cells slots (pc + 3) [a0, some (.int (jI (z + n))), a2, a3, a4, a5] st) : WW p l e R s m args below meth c Q G n0 6 N f cells slots pc [a0, some (.int (jI z)), a2, a3, a4, a5] st := w_iinc X hd rfl kk
theorem w_ist6_2 (X : Cx G n0 p s m args meth c cc own 6) {x : Int32} {a0 a1 a2 a3 a4 a5 : Option Value} (hd : decode cc pc = .ok (.istore_n 2, 1)) (kk : WW p l e R s m args below meth c Q G n0 6 N f cells slots (pc + 1) [a0, a1, some (.int x), a3, a4, a5] st) : WW p l e R s m args below meth c Q G n0 6 N f cells slots pc [a0, a1, a2, a3, a4, a5] (.int x :: st) := w_istore_n X hd (by decide) kk
theorem w_ast6_2 (X : Cx G n0 p s m args meth c cc own 6) {x : Nat} {a0 a1 a2 a3 a4 a5 : Option Value} (hd : decode cc pc = .ok (.astore_n 2, 1)) (kk : WW p l e R s m args below meth c Q G n0 6 N f cells slots (pc + 1) [a0, a1, some (.ref x), a3, a4, a5] st) : WW p l e R s m args below meth c Q G n0 6 N f cells slots pc [a0, a1, a2, a3, a4, a5] (.ref x :: st) := w_astore_n X hd (by decide) kk
theorem w_iinc6_2 (X : Cx G n0 p s m args meth c cc own 6) {z n : Int} {a0 a1 a3 a4 a5 : Option Value} (hd : decode cc pc = .ok (.iinc 2 n, 3)) (kk : WW p l e R s m args below meth c Q G n0 6 N f cells slots (pc + 3) [a0, a1, some (.int (jI (z + n))), a3, a4, a5] st) : WW p l e R s m args below meth c Q G n0 6 N f cells slots pc [a0, a1, some (.int (jI z)), a3, a4, a5] st := w_iinc X hd rfl kk
theorem w_ist6_3 (X : Cx G n0 p s m args meth c cc own 6) {x : Int32} {a0 a1 a2 a3 a4 a5 : Option Value} (hd : decode cc pc = .ok (.istore_n 3, 1)) (kk : WW p l e R s m args below meth c Q G n0 6 N f cells slots (pc + 1) [a0, a1, a2, some (.int x), a4, a5] st) : WW p l e R s m args below meth c Q G n0 6 N f cells slots pc [a0, a1, a2, a3, a4, a5] (.int x :: st) := w_istore_n X hd (by decide) kk
theorem w_ast6_3 (X : Cx G n0 p s m args meth c cc own 6) {x : Nat} {a0 a1 a2 a3 a4 a5 : Option Value} (hd : decode cc pc = .ok (.astore_n 3, 1)) (kk : WW p l e R s m args below meth c Q G n0 6 N f cells slots (pc + 1) [a0, a1, a2, some (.ref x), a4, a5] st) : WW p l e R s m args below meth c Q G n0 6 N f cells slots pc [a0, a1, a2, a3, a4, a5] (.ref x :: st) := w_astore_n X hd (by decide) kk
theorem w_iinc6_3 (X : Cx G n0 p s m args meth c cc own 6) {z n : Int} {a0 a1 a2 a4 a5 : Option Value} (hd : decode cc pc = .ok (.iinc 3 n, 3)) (kk : WW p l e R s m args below meth c Q G n0 6 N f cells slots (pc + 3) [a0, a1, a2, some (.int (jI (z + n))), a4, a5] st) : WW p l e R s m args below meth c Q G n0 6 N f cells slots pc [a0, a1, a2, some (.int (jI z)), a4, a5] st := w_iinc X hd rfl kk
theorem w_ist6_4 (X : Cx G n0 p s m args meth c cc own 6) {x : Int32} {a0 a1 a2 a3 a4 a5 : Option Value} (hd : decode cc pc = .ok (.istore 4, 2)) (kk : WW p l e R s m args below meth c Q G n0 6 N f cells slots (pc + 2) [a0, a1, a2, a3, some (.int x), a5] st) : WW p l e R s m args below meth c Q G n0 6 N f cells slots pc [a0, a1, a2, a3, a4, a5] (.int x :: st) := w_istore X hd (by decide) kk
theorem w_ast6_4 (X : Cx G n0 p s m args meth c cc own 6) {x : Nat} {a0 a1 a2 a3 a4 a5 : Option Value} (hd : decode cc pc = .ok (.astore 4, 2)) (kk : WW p l e R s m args below meth c Q G n0 6 N f cells slots (pc + 2) [a0, a1, a2, a3, some (.ref x), a5] st) : WW p l e R s m args below meth c Q G n0 6 N f cells slots pc [a0, a1, a2, a3, a4, a5] (.ref x :: st) := w_astore X hd (by decide) kk
theorem w_iinc6_4 (X : Cx G n0 p s m args meth c cc own 6) {z n : Int} {a0 a1 a2 a3 a5 : Option Value} (hd : decode cc pc = .ok (.iinc 4 n, 3)) (kk : WW p l e R s m args below meth c Q G n0 6 N f cells slots (pc + 3) [a0, a1, a2, a3, some (.int (jI (z + n))), a5] st) : WW p l e R s m args below meth c Q G n0 6 N f cells slots pc [a0, a1, a2, a3, some (.int (jI z)), a5] st := w_iinc X hd rfl kk
theorem w_ist6_5 (X : Cx G n0 p s m args meth c cc own 6) {x : Int32} {a0 a1 a2 a3 a4 a5 : Option Value} (hd : decode cc pc = .ok (.istore 5, 2)) (kk : WW p l e R s m args below meth c Q G n0 6 N f cells slots (pc + 2) [a0, a1, a2, a3, a4, some (.int x)] st) : WW p l e R s m args below meth c Q G n0 6 N f cells slots pc [a0, a1, a2, a3, a4, a5] (.int x :: st) := w_istore X hd (by decide) kk
theorem w_ast6_5 (X : Cx G n0 p s m args meth c cc own 6) {x : Nat} {a0 a1 a2 a3 a4 a5 : Option Value} (hd : decode cc pc = .ok (.astore 5, 2)) (kk : WW p l e R s m args below meth c Q G n0 6 N f cells slots (pc + 2) [a0, a1, a2, a3, a4, some (.ref x)] st) : WW p l e R s m args below meth c Q G n0 6 N f cells slots pc [a0, a1, a2, a3, a4, a5] (.ref x :: st) := w_astore X hd (by decide) kk
theorem w_iinc6_5 (X : Cx G n0 p s m args meth c cc own 6) {z n : Int} {a0 a1 a2 a3 a4 : Option Value} (hd : decode cc pc = .ok (.iinc 5 n, 3)) (kk : WW p l e R s m args below meth c Q G n0 6 N f cells slots (pc + 3) [a0, a1, a2, a3, a4, some (.int (jI (z + n)))] st) : WW p l e R s m args below meth c Q G n0 6 N f cells slots pc [a0, a1, a2, a3, a4, some (.int (jI z))] st := w_iinc X hd rfl kk
theorem w_ist7_0 (X : Cx G n0 p s m args meth c cc own 7) {x : Int32} {a0 a1 a2 a3 a4 a5 a6 : Option Value} (hd : decode cc pc = .ok (.istore_n 0, 1)) (kk : WW p l e R s m args below meth c Q G n0 7 N f cells slots (pc + 1) [some (.int x), a1, a2, a3, a4, a5, a6] st) : WW p l e R s m args below meth c Q G n0 7 N f cells slots pc [a0, a1, a2, a3, a4, a5, a6] (.int x :: st) := w_istore_n X hd (by decide) kk
theorem w_ast7_0 (X : Cx G n0 p s m args meth c cc own 7) {x : Nat} {a0 a1 a2 a3 a4 a5 a6 : Option Value} (hd : decode cc pc = .ok (.astore_n 0, 1)) (kk : WW p l e R s m args below meth c Q G n0 7 N f cells slots (pc + 1) [some (.ref x), a1, a2, a3, a4, a5, a6] st) : WW p l e R s m args below meth c Q G n0 7 N f cells slots pc [a0, a1, a2, a3, a4, a5, a6] (.ref x :: st) := w_astore_n X hd (by decide) kk
theorem w_iinc7_0 (X : Cx G n0 p s m args meth c cc own 7) {z n : Int} {a1 a2 a3 a4 a5 a6 : Option Value} (hd : decode cc pc = .ok (.iinc 0 n, 3)) (kk : WW p l e R s m args below meth c Q G n0 7 N f cells slots (pc + 3) [some (.int (jI (z + n))), a1, a2, a3, a4, a5, a6] st) : WW p l e R s m args below meth c Q G n0 7 N f cells slots pc [some (.int (jI z)), a1, a2, a3, a4, a5, a6] st := w_iinc X hd rfl kk
theorem w_ist7_1 (X : Cx G n0 p s m args meth c cc own 7) {x : Int32} {a0 a1 a2 a3 a4 a5 a6 : Option Value} (hd : decode cc pc = .ok (.istore_n 1, 1)) (kk : WW p l e R s m args below meth c Q G n0 7 N f cells slots (pc + 1) [a0, some (.int x), a2, a3, a4, a5, a6] st) : WW p l e R s m args below meth c Q G n0 7 N f cells slots pc [a0, a1, a2, a3, a4, a5, a6] (.int x :: st) := w_istore_n X hd (by decide) kk
theorem w_ast7_1 (X : Cx G n0 p s m args meth c cc own 7) {x : Nat} {a0 a1 a2 a3 a4 a5 a6 : Option Value} (hd : decode cc pc = .ok (.astore_n 1, 1)) (kk : WW p l e R s m args below meth c Q G n0 7 N f cells slots (pc + 1) [a0, some (.ref x), a2, a3, a4, a5, a6] st) : WW p l e R s m args below meth c Q G n0 7 N f cells slots pc [a0, a1, a2, a3, a4, a5, a6] (.ref x :: st) := w_astore_n X hd (by decide) kk
theorem w_iinc7_1 (X : Cx G n0 p s m args meth c cc own 7) {z n : Int} {a0 a2 a3 a4 a5 a6 : Option Value} (hd : decode cc pc = .ok (.iinc 1 n, 3)) (kk : WW p l e R s m args below meth c Q G n0 7 N f cells slots (pc + 3) [a0, some (.int (jI (z + n))), a2, a3, a4, a5, a6] st) : WW p l e R s m args below meth c Q G n0 7 N f cells slots pc [a0, some (.int (jI z)), a2, a3, a4, a5, a6] st := w_iinc X hd rfl kk
theorem w_ist7_2 (X : Cx G n0 p s m args meth c cc own 7) {x : Int32} {a0 a1 a2 a3 a4 a5 a6 : Option Value} (hd : decode cc pc = .ok (.istore_n 2, 1)) (kk : WW p l e R s m args below meth c Q G n0 7 N f cells slots (pc + 1) [a0, a1, some (.int x), a3, a4, a5, a6] st) : WW p l e R s m args below meth c Q G n0 7 N f cells slots pc [a0, a1, a2, a3, a4, a5, a6] (.int x :: st) := w_istore_n X hd (by decide) kk
theorem w_ast7_2 (X : Cx G n0 p s m args meth c cc own 7) {x : Nat} {a0 a1 a2 a3 a4 a5 a6 : Option Value} (hd : decode cc pc = .ok (.astore_n 2, 1)) (kk : WW p l e R s m args below meth c Q G n0 7 N f cells slots (pc + 1) [a0, a1, some (.ref x), a3, a4, a5, a6] st) : WW p l e R s m args below meth c Q G n0 7 N f cells slots pc [a0, a1, a2, a3, a4, a5, a6] (.ref x :: st) := w_astore_n X hd (by decide) kk
theorem w_iinc7_2 (X : Cx G n0 p s m args meth c cc own 7) {z n : Int} {a0 a1 a3 a4 a5 a6 : Option Value} (hd : decode cc pc = .ok (.iinc 2 n, 3)) (kk : WW p l e R s m args below meth c Q G n0 7 N f cells slots (pc + 3) [a0, a1, some (.int (jI (z + n))), a3, a4, a5, a6] st) : WW p l e R s m args below meth c Q G n0 7 N f cells slots pc [a0, a1, some (.int (jI z)), a3, a4, a5, a6] st := w_iinc X hd rfl kk
theorem w_ist7_3 (X : Cx G n0 p s m args meth c cc own 7) {x : Int32} {a0 a1 a2 a3 a4 a5 a6 : Option Value} (hd : decode cc pc = .ok (.istore_n 3, 1)) (kk : WW p l e R s m args below meth c Q G n0 7 N f cells slots (pc + 1) [a0, a1, a2, some (.int x), a4, a5, a6] st) : WW p l e R s m args below meth c Q G n0 7 N f cells slots pc [a0, a1, a2, a3, a4, a5, a6] (.int x :: st) := w_istore_n X hd (by decide) kk
theorem w_ast7_3 (X : Cx G n0 p s m args meth c cc own 7) {x : Nat} {a0 a1 a2 a3 a4 a5 a6 : Option Value} (hd : decode cc pc = .ok (.astore_n 3, 1)) (kk : WW p l e R s m args below meth c Q G n0 7 N f cells slots (pc + 1) [a0, a1, a2, some (.ref x), a4, a5, a6] st) : WW p l e R s m args below meth c Q G n0 7 N f cells slots pc [a0, a1, a2, a3, a4, a5, a6] (.ref x :: st) := w_astore_n X hd (by decide) kk
theorem w_iinc7_3 (X : Cx G n0 p s m args meth c cc own 7) {z n : Int} {a0 a1 a2 a4 a5 a6 : Option Value} (hd : decode cc pc = .ok (.iinc 3 n, 3)) (kk : WW p l e R s m args below meth c Q G n0 7 N f cells slots (pc + 3) [a0, a1, a2, some (.int (jI (z + n))), a4, a5, a6] st) : WW p l e R s m args below meth c Q G n0 7 N f cells slots pc [a0, a1, a2, some (.int (jI z)), a4, a5, a6] st := w_iinc X hd rfl kk
theorem w_ist7_4 (X : Cx G n0 p s m args meth c cc own 7) {x : Int32} {a0 a1 a2 a3 a4 a5 a6 : Option Value} (hd : decode cc pc = .ok (.istore 4, 2)) (kk : WW p l e R s m args below meth c Q G n0 7 N f cells slots (pc + 2) [a0, a1, a2, a3, some (.int x), a5, a6] st) : WW p l e R s m args below meth c Q G n0 7 N f cells slots pc [a0, a1, a2, a3, a4, a5, a6] (.int x :: st) := w_istore X hd (by decide) kk
theorem w_ast7_4 (X : Cx G n0 p s m args meth c cc own 7) {x : Nat} {a0 a1 a2 a3 a4 a5 a6 : Option Value} (hd : decode cc pc = .ok (.astore 4, 2)) (kk : WW p l e R s m args below meth c Q G n0 7 N f cells slots (pc + 2) [a0, a1, a2, a3, some (.ref x), a5, a6] st) : WW p l e R s m args below meth c Q G n0 7 N f cells slots pc [a0, a1, a2, a3, a4, a5, a6] (.ref x :: st) := w_astore X hd (by decide) kk
theorem w_iinc7_4 (X : Cx G n0 p s m args meth c cc own 7) {z n : Int} {a0 a1 a2 a3 a5 a6 : Option Value} (hd : decode cc pc = .ok (.iinc 4 n, 3)) (kk : WW p l e R s m args below meth c Q G n0 7 N f cells slots (pc + 3) [a0, a1, a2, a3, some (.int (jI (z + n))), a5, a6] st) : WW p l e R s m args below meth c Q G n0 7 N f cells slots pc [a0, a1, a2, a3, some (.int (jI z)), a5, a6] st := w_iinc X hd rfl kk
theorem w_ist7_5 (X : Cx G n0 p s m args meth c cc own 7) {x : Int32} {a0 a1 a2 a3 a4 a5 a6 : Option Value} (hd : decode cc pc = .ok (.istore 5, 2)) (kk : WW p l e R s m args below meth c Q G n0 7 N f cells slots (pc + 2) [a0, a1, a2, a3, a4, some (.int x), a6] st) : WW p l e R s m args below meth c Q G n0 7 N f cells slots pc [a0, a1, a2, a3, a4, a5, a6] (.int x :: st) := w_istore X hd (by decide) kk
theorem w_ast7_5 (X : Cx G n0 p s m args meth c cc own 7) {x : Nat} {a0 a1 a2 a3 a4 a5 a6 : Option Value} (hd : decode cc pc = .ok (.astore 5, 2)) (kk : WW p l e R s m args below meth c Q G n0 7 N f cells slots (pc + 2) [a0, a1, a2, a3, a4, some (.ref x), a6] st) : WW p l e R s m args below meth c Q G n0 7 N f cells slots pc [a0, a1, a2, a3, a4, a5, a6] (.ref x :: st) := w_astore X hd (by decide) kk
theorem w_iinc7_5 (X : Cx G n0 p s m args meth c cc own 7) {z n : Int} {a0 a1 a2 a3 a4 a6 : Option Value} (hd : decode cc pc = .ok (.iinc 5 n, 3)) (kk : WW p l e R s m args below meth c Q G n0 7 N f cells slots (pc + 3) [a0, a1, a2, a3, a4, some (.int (jI (z + n))), a6] st) : WW p l e R s m args below meth c Q G n0 7 N f cells slots pc [a0, a1, a2, a3, a4, some (.int (jI z)), a6] st := w_iinc X hd rfl kk
theorem w_ist7_6 (X : Cx G n0 p s m args meth c cc own 7) {x : Int32} {a0 a1 a2 a3 a4 a5 a6 : Option Value} (hd : decode cc pc = .ok (.istore 6, 2)) (kk : WW p l e R s m args below meth c Q G n0 7 N f cells slots (pc + 2) [a0, a1, a2, a3, a4, a5, some (.int x)] st) : WW p l e R s m args below meth c Q G n0 7 N f cells slots pc [a0, a1, a2, a3, a4, a5, a6] (.int x :: st) := w_istore X hd (by decide) kk
theorem w_ast7_6 (X : Cx G n0 p s m args meth c cc own 7) {x : Nat} {a0 a1 a2 a3 a4 a5 a6 : Option Value} (hd : decode cc pc = .ok (.astore 6, 2)) (kk : WW p l e R s m args below meth c Q G n0 7 N f cells slots (pc + 2) [a0, a1, a2, a3, a4, a5, some (.ref x)] st) : WW p l e R s m args below meth c Q G n0 7 N f cells slots pc [a0, a1, a2, a3, a4, a5, a6] (.ref x :: st) := w_astore X hd (by decide) kk
theorem w_iinc7_6 (X : Cx G n0 p s m args meth c cc own 7) {z n : Int} {a0 a1 a2 a3 a4 a5 : Option Value} (hd : decode cc pc = .ok (.iinc 6 n, 3)) (kk : WW p l e R s m args below meth c Q G n0 7 N f cells slots (pc + 3) [a0, a1, a2, a3, a4, a5, some (.int (jI (z + n)))] st) : WW p l e R s m args below meth c Q G n0 7 N f cells slots pc [a0, a1, a2, a3, a4, a5, some (.int (jI z))] st := w_iinc X hd rfl kk
theorem w_ist8_0 (X : Cx G n0 p s m args meth c cc own 8) {x : Int32} {a0 a1 a2 a3 a4 a5 a6 a7 : Option Value} (hd : decode cc pc = .ok (.istore_n 0, 1)) (kk : WW p l e R s m args below meth c Q G n0 8 N f cells slots (pc + 1) [some (.int x), a1, a2, a3, a4, a5, a6, a7] st) : WW p l e R s m args below meth c Q G n0 8 N f cells slots pc [a0, a1, a2, a3, a4, a5, a6, a7] (.int x :: st) := w_istore_n X hd (by decide) kk
theorem w_ast8_0 (X : Cx G n0 p s m args meth c cc own 8) {x : Nat} {a0 a1 a2 a3 a4 a5 a6 a7 : Option Value} (hd : decode cc pc = .ok (.astore_n 0, 1)) (kk : WW p l e R s m args below meth c Q G n0 8 N f cells slots (pc + 1) [some (.ref x), a1, a2, a3, a4, a5, a6, a7] st) : WW p l e R s m args below meth c Q G n0 8 N f cells slots pc [a0, a1, a2, a3, a4, a5, a6, a7] (.ref x :: st) := w_astore_n X hd (by decide) kk
theorem w_iinc8_0 (X : Cx G n0 p s m args meth c cc own 8) {z n : Int} {a1 a2 a3 a4 a5 a6 a7 : Option Value} (hd : decode cc pc = .ok (.iinc 0 n, 3)) (kk : WW p l e R s m args below meth c Q G n0 8 N f cells slots (pc + 3) [some (.int (jI (z + n))), a1, a2, a3, a4, a5, a6, a7] st) : WW p l e R s m args below meth c Q G n0 8 N f cells slots pc [some (.int (jI z)), a1, a2, a3, a4, a5, a6, a7] st := w_iinc X hd rfl kk
theorem w_ist8_1 (X : Cx G n0 p s m args meth c cc own 8) {x : Int32} {a0 a1 a2 a3 a4 a5 a6 a7 : Option Value} (hd : decode cc pc = .ok (.istore_n 1, 1)) (kk : WW p l e R s m args below meth c Q G n0 8 N f cells slots (pc + 1) [a0, some (.int x), a2, a3, a4, a5, a6, a7] st) : WW p l e R s m args below meth c Q G n0 8 N f cells slots pc [a0, a1, a2, a3, a4, a5, a6, a7] (.int x :: st) := w_istore_n X hd (by decide) kk
theorem w_ast8_1 (X : Cx G n0 p s m args meth c cc own 8) {x : Nat} {a0 a1 a2 a3 a4 a5 a6 a7 : Option Value} (hd : decode cc pc = .ok (.astore_n 1, 1)) (kk : WW p l e R s m args below meth c Q G n0 8 N f cells slots (pc + 1) [a0, some (.ref x), a2, a3, a4, a5, a6, a7] st) : WW p l e R s m args below meth c Q G n0 8 N f cells slots pc [a0, a1, a2, a3, a4, a5, a6, a7] (.ref x :: st) := w_astore_n X hd (by decide) kk
theorem w_iinc8_1 (X : Cx G n0 p s m args meth c cc own 8) {z n : Int} {a0 a2 a3 a4 a5 a6 a7 : Option Value} (hd : decode cc pc = .ok (.iinc 1 n, 3)) (kk : WW p l e R s m args below meth c Q G n0 8 N f cells slots (pc + 3) [a0, some (.int (jI (z + n))), a2, a3, a4, a5, a6, a7] st) : WW p l e R s m args below meth c Q G n0 8 N f cells slots pc [a0, some (.int (jI z)), a2, a3, a4, a5, a6, a7] st := w_iinc X hd rfl kk
theorem w_ist8_2 (X : Cx G n0 p s m args meth c cc own 8) {x : Int32} {a0 a1 a2 a3 a4 a5 a6 a7 : Option Value} (hd : decode cc pc = .ok (.istore_n 2, 1)) (kk : WW p l e R s m args below meth c Q G n0 8 N f cells slots (pc + 1) [a0, a1, some (.int x), a3, a4, a5, a6, a7] st) : WW p l e R s m args below meth c Q G n0 8 N f cells slots pc [a0, a1, a2, a3, a4, a5, a6, a7] (.int x :: st) := w_istore_n X hd (by decide) kk
theorem w_ast8_2 (X : Cx G n0 p s m args meth c cc own 8) {x : Nat} {a0 a1 a2 a3 a4 a5 a6 a7 : Option Value} (hd : decode cc pc = .ok (.astore_n 2, 1)) (kk : WW p l e R s m args below meth c Q G n0 8 N f cells slots (pc + 1) [a0, a1, some (.ref x), a3, a4, a5, a6, a7] st) : WW p l e R s m args below meth c Q G n0 8 N f cells slots pc [a0, a1, a2, a3, a4, a5, a6, a7] (.ref x :: st) := w_astore_n X hd (by decide) kk
theorem w_iinc8_2 (X : Cx G n0 p s m args meth c cc own 8) {z n : Int} {a0 a1 a3 a4 a5 a6 a7 : Option Value} (hd : decode cc pc = .ok (.iinc 2 n, 3)) (kk : WW p l e R s m args below meth c Q G n0 8 N f cells slots (pc + 3) [a0, a1, some (.int (jI (z + n))), a3, a4, a5, a6, a7] st) : WW p l e R s m args below meth c Q G n0 8 N f cells slots pc [a0, a1, some (.int (jI z)), a3, a4, a5, a6, a7] st := w_iinc X hd rfl kk
theorem w_ist8_3 (X : Cx G n0 p s m args meth c cc own 8) {x : Int32} {a0 a1 a2 a3 a4 a5 a6 a7 : Option Value} (hd : decode cc pc = .ok (.istore_n 3, 1)) (kk : WW p l e R s m args below meth c Q G n0 8 N f cells slots (pc + 1) [a0, a1, a2, some (.int x), a4, a5, a6, a7] st) : WW p l e R s m args below meth c Q G n0 8 N f cells slots pc [a0, a1, a2, a3, a4, a5, a6, a7] (.int x :: st) := w_istore_n X hd (by decide) kk
theorem w_ast8_3 (X : Cx G n0 p s m args meth c cc own 8) {x : Nat} {a0 a1 a2 a3 a4 a5 a6 a7 : Option Value} (hd : decode cc pc = .ok (.astore_n 3, 1)) (kk : WW p l e R s m args below meth c Q G n0 8 N f cells slots (pc + 1) [a0, a1, a2, some (.ref x), a4, a5, a6, a7] st) : WW p l e R s m args below meth c Q G n0 8 N f cells slots pc [a0, a1, a2, a3, a4, a5, a6, a7] (.ref x :: st) := w_astore_n X hd (by decide) kk
theorem w_iinc8_3 (X : Cx G n0 p s m args meth c cc own 8) {z n : Int} {a0 a1 a2 a4 a5 a6 a7 : Option Value} (hd : decode cc pc = .ok (.iinc 3 n, 3)) (kk : WW p l e R s m args below meth c Q G n0 8 N f cells slots (pc + 3) [a0, a1, a2, some (.int (jI (z + n))), a4, a5, a6, a7] st) : WW p l e R s m args below meth c Q G n0 8 N f cells slots pc [a0, a1, a2, some (.int (jI z)), a4, a5, a6, a7] st := w_iinc X hd rfl kk
theorem w_ist8_4 (X : Cx G n0 p s m args meth c cc own 8) {x : Int32} {a0 a1 a2 a3 a4 a5 a6 a7 : Option Value} (hd : decode cc pc = .ok (.istore 4, 2)) (kk : WW p l e R s m args below meth c Q G n0 8 N f cells slots (pc + 2) [a0, a1, a2, a3, some (.int x), a5, a6, a7] st) : WW p l e R s m args below meth c Q G n0 8 N f cells slots pc [a0, a1, a2, a3, a4, a5, a6, a7] (.int x :: st) := w_istore X hd (by decide) kk
theorem w_ast8_4 (X : Cx G n0 p s m args meth c cc own 8) {x : Nat} {a0 a1 a2 a3 a4 a5 a6 a7 : Option Value} (hd : decode cc pc = .ok (.astore 4, 2)) (kk : WW p l e R s m args below meth c Q G n0 8 N f cells slots (pc + 2) [a0, a1, a2, a3, some (.ref x), a5, a6, a7] st) : WW p l e R s m args below meth c Q G n0 8 N f cells slots pc [a0, a1, a2, a3, a4, a5, a6, a7] (.ref x :: st) := w_astore X hd (by decide) kk
theorem w_iinc8_4 (X : Cx G n0 p s m args meth c cc own 8) {z n : Int} {a0 a1 a2 a3 a5 a6 a7 : Option Value} (hd : decode cc pc = .ok (.iinc 4 n, 3)) (kk : WW p l e R s m args below meth c Q G n0 8 N f cells slots (pc + 3) [a0, a1, a2, a3, some (.int (jI (z + n))), a5, a6, a7] st) : WW p l e R s m args below meth c Q G n0 8 N f cells slots pc [a0, a1, a2, a3, some (.int (jI z)), a5, a6, a7] st := w_iinc X hd rfl kk
theorem w_ist8_5 (X : Cx G n0 p s m args meth c cc own 8) {x : Int32} {a0 a1 a2 a3 a4 a5 a6 a7 : Option Value} (hd : decode cc pc = .ok (.istore 5, 2)) (kk : WW p l e R s m args below meth c Q G n0 8 N f cells slots (pc + 2) [a0, a1, a2, a3, a4, some (.int x), a6, a7] st) : WW p l e R s m args below meth c Q G n0 8 N f cells slots pc [a0, a1, a2, a3, a4, a5, a6, a7] (.int x :: st) := w_istore X hd (by decide) kk
theorem w_ast8_5 (X : Cx G n0 p s m args meth c cc own 8) {x : Nat} {a0 a1 a2 a3 a4 a5 a6 a7 : Option Value} (hd : decode cc pc = .ok (.astore 5, 2)) (kk : WW p l e R s m args below meth c Q G n0 8 N f cells slots (pc + 2) [a0, a1, a2, a3, a4, some (.ref x), a6, a7] st) : WW p l e R s m args below meth c Q G n0 8 N f cells slots pc [a0, a1, a2, a3, a4, a5, a6, a7] (.ref x :: st) := w_astore X hd (by decide) kk
theorem w_iinc8_5 (X : Cx G n0 p s m args meth c cc own 8) {z n : Int} {a0 a1 a2 a3 a4 a6 a7 : Option Value} (hd : decode cc pc = .ok (.iinc 5 n, 3)) (kk : WW p l e R s m args below meth c Q G n0 8 N f cells slots (pc + 3) [a0, a1, a2, a3, a4, some (.int (jI (z + n))), a6, a7] st) : WW p l e R s m args below meth c Q G n0 8 N f cells slots pc [a0, a1, a2, a3, a4, some (.int (jI z)), a6, a7] st := w_iinc X hd rfl kk
theorem w_ist8_6 (X : Cx G n0 p s m args meth c cc own 8) {x : Int32} {a0 a1 a2 a3 a4 a5 a6 a7 : Option Value} (hd : decode cc pc = .ok (.istore 6, 2)) (kk : WW p l e R s m args below meth c Q G n0 8 N f cells slots (pc + 2) [a0, a1, a2, a3, a4, a5, some (.int x), a7] st) : WW p l e R s m args below meth c Q G n0 8 N f cells slots pc [a0, a1, a2, a3, a4, a5, a6, a7] (.int x :: st) := w_istore X hd (by decide) kk
theorem w_ast8_6 (X : Cx G n0 p s m args meth c cc own 8) {x : Nat} {a0 a1 a2 a3 a4 a5 a6 a7 : Option Value} (hd : decode cc pc = .ok (.astore 6, 2)) (kk : WW p l e R s m args below meth c Q G n0 8 N f cells slots (pc + 2) [a0, a1, a2, a3, a4, a5, some (.ref x), a7] st) : WW p l e R s m args below meth c Q G n0 8 N f cells slots pc [a0, a1, a2, a3, a4, a5, a6, a7] (.ref x :: st) := w_astore X hd (by decide) kk
theorem w_iinc8_6 (X : Cx G n0 p s m args meth c cc own 8) {z n : Int} {a0 a1 a2 a3 a4 a5 a7 : Option Value} (hd : decode cc pc = .ok (.iinc 6 n, 3)) (kk : WW p l e R s m args below meth c Q G n0 8 N f cells slots (pc + 3) [a0, a1, a2, a3, a4, a5, some (.int (jI (z + n))), a7] st) : WW p l e R s m args below meth c Q G n0 8 N f cells slots pc [a0, a1, a2, a3, a4, a5, some (.int (jI z)), a7] st := w_iinc X hd rfl kk
theorem w_ist8_7 (X : Cx G n0 p s m args meth c cc own 8) {x : Int32} {a0 a1 a2 a3 a4 a5 a6 a7 : Option Value} (hd : decode cc pc = .ok (.istore 7, 2)) (kk : WW p l e R s m args below meth c Q G n0 8 N f cells slots (pc + 2) [a0, a1, a2, a3, a4, a5, a6, some (.int x)] st) : WW p l e R s m args below meth c Q G n0 8 N f cells slots pc [a0, a1, a2, a3, a4, a5, a6, a7] (.int x :: st) := w_istore X hd (by decide) kk
theorem w_ast8_7 (X : Cx G n0 p s m args meth c cc own 8) {x : Nat} {a0 a1 a2 a3 a4 a5 a6 a7 : Option Value} (hd : decode cc pc = .ok (.astore 7, 2)) (kk : WW p l e R s m args below meth c Q G n0 8 N f cells slots (pc + 2) [a0, a1, a2, a3, a4, a5, a6, some (.ref x)] st) : WW p l e R s m args below meth c Q G n0 8 N f cells slots pc [a0, a1, a2, a3, a4, a5, a6, a7] (.ref x :: st) := w_astore X hd (by decide) kk
theorem w_iinc8_7 (X : Cx G n0 p s m args meth c cc own 8) {z n : Int} {a0 a1 a2 a3 a4 a5 a6 : Option Value} (hd : decode cc pc = .ok (.iinc 7 n, 3)) (kk : WW p l e R s m args below meth c Q G n0 8 N f cells slots (pc + 3) [a0, a1, a2, a3, a4, a5, a6, some (.int (jI (z + n)))] st) : WW p l e R s m args below meth c Q G n0 8 N f cells slots pc [a0, a1, a2, a3, a4, a5, a6, some (.int (jI z))] st := w_iinc X hd rfl kk
theorem w_ist9_0 (X : Cx G n0 p s m args meth c cc own 9) {x : Int32} {a0 a1 a2 a3 a4 a5 a6 a7 a8 : Option Value} (hd : decode cc pc = .ok (.istore_n 0, 1)) (kk : WW p l e R s m args below meth c Q G n0 9 N f cells slots (pc + 1) [some (.int x), a1, a2, a3, a4, a5, a6, a7, a8] st) : WW p l e R s m args below meth c Q G n0 9 N f cells slots pc [a0, a1, a2, a3, a4, a5, a6, a7, a8] (.int x :: st) := w_istore_n X hd (by decide) kk
theorem w_ast9_0 (X : Cx G n0 p s m args meth c cc own 9) {x : Nat} {a0 a1 a2 a3 a4 a5 a6 a7 a8 : Option Value} (hd : decode cc pc = .ok (.astore_n 0, 1)) (kk : WW p l e R s m args below meth c Q G n0 9 N f cells slots (pc + 1) [some (.ref x), a1, a2, a3, a4, a5, a6, a7, a8] st) : WW p l e R s m args below meth c Q G n0 9 N f cells slots pc [a0, a1, a2, a3, a4, a5, a6, a7, a8] (.ref x :: st) := w_astore_n X hd (by decide) kk
theorem w_iinc9_0 (X : Cx G n0 p s m args meth c cc own 9) {z n : Int} {a1 a2 a3 a4 a5 a6 a7 a8 : Option Value} (hd : decode cc pc = .ok (.iinc 0 n, 3)) (kk : WW p l e R s m args below meth c Q G n0 9 N f cells slots (pc + 3) [some (.int (jI (z + n))), a1, a2, a3, a4, a5, a6, a7, a8] st) : WW p l e R s m args below meth c Q G n0 9 N f cells slots pc [some (.int (jI z)), a1, a2, a3, a4, a5, a6, a7, a8] st := w_iinc X hd rfl kk
theorem w_ist9_1 (X : Cx G n0 p s m args meth c cc own 9) {x : Int32} {a0 a1 a2 a3 a4 a5 a6 a7 a8 : Option Value} (hd : decode cc pc = .ok (.istore_n 1, 1)) (kk : WW p l e R s m args below meth c Q G n0 9 N f cells slots (pc + 1) [a0, some (.int x), a2, a3, a4, a5, a6, a7, a8] st) : WW p l e R s m args below meth c Q G n0 9 N f cells slots pc [a0, a1, a2, a3, a4, a5, a6, a7, a8] (.int x :: st) := w_istore_n X hd (by decide) kk
theorem w_ast9_1 (X : Cx G n0 p s m args meth c cc own 9) {x : Nat} {a0 a1 a2 a3 a4 a5 a6 a7 a8 : Option Value} (hd : decode cc pc = .ok (.astore_n 1, 1)) (kk : WW p l e R s m args below meth c Q G n0 9 N f cells slots (pc + 1) [a0, some (.ref x), a2, a3, a4, a5, a6, a7, a8] st) : WW p l e R s m args below meth c Q G n0 9 N f cells slots pc [a0, a1, a2, a3, a4, a5, a6, a7, a8] (.ref x :: st) := w_astore_n X hd (by decide) kk
theorem w_iinc9_1 (X : Cx G n0 p s m args meth c cc own 9) {z n : Int} {a0 a2 a3 a4 a5 a6 a7 a8 : Option Value} (hd : decode cc pc = .ok (.iinc 1 n, 3)) (kk : WW p l e R s m args below meth c Q G n0 9 N f cells slots (pc + 3) [a0, some (.int (jI (z + n))), a2, a3, a4, a5, a6, a7, a8] st) : WW p l e R s m args below meth c Q G n0 9 N f cells slots pc [a0, some (.int (jI z)), a2, a3, a4, a5, a6, a7, a8] st := w_iinc X hd rfl kk
theorem w_ist9_2 (X : Cx G n0 p s m args meth c cc own 9) {x : Int32} {a0 a1 a2 a3 a4 a5 a6 a7 a8 : Option Value} (hd : decode cc pc = .ok (.istore_n 2, 1)) (kk : WW p l e R s m args below meth c Q G n0 9 N f cells slots (pc + 1) [a0, a1, some (.int x), a3, a4, a5, a6, a7, a8] st) : WW p l e R s m args below meth c Q G n0 9 N f cells slots pc [a0, a1, a2, a3, a4, a5, a6, a7, a8] (.int x :: st) := w_istore_n X hd (by decide) kk
theorem w_ast9_2 (X : Cx G n0 p s m args meth c cc own 9) {x : Nat} {a0 a1 a2 a3 a4 a5 a6 a7 a8 : Option Value} (hd : decode cc pc = .ok (.astore_n 2, 1)) (kk : WW p l e R s m args below meth c Q G n0 9 N f cells slots (pc + 1) [a0, a1, some (.ref x), a3, a4, a5, a6, a7, a8] st) : WW p l e R s m args below meth c Q G n0 9 N f cells slots pc [a0, a1, a2, a3, a4, a5, a6, a7, a8] (.ref x :: st) := w_astore_n X hd (by decide) kk
theorem w_iinc9_2 (X : Cx G n0 p s m args meth c cc own 9) {z n : Int} {a0 a1 a3 a4 a5 a6 a7 a8 : Option Value} (hd : decode cc pc = .ok (.iinc 2 n, 3)) (kk : WW p l e R s m args below meth c Q G n0 9 N f cells slots (pc + 3) [a0, a1, some (.int (jI (z + n))), a3, a4, a5, a6, a7, a8] st) : WW p l e R s m args below meth c Q G n0 9 N f cells slots pc [a0, a1, some (.int (jI z)), a3, a4, a5, a6, a7, a8] st := w_iinc X hd rfl kk
theorem w_ist9_3 (X : Cx G n0 p s m args meth c cc own 9) {x : Int32} {a0 a1 a2 a3 a4 a5 a6 a7 a8 : Option Value} (hd : decode cc pc = .ok (.istore_n 3, 1)) (kk : WW p l e R s m args below meth c Q G n0 9 N f cells slots (pc + 1) [a0, a1, a2, some (.int x), a4, a5, a6, a7, a8] st) : WW p l e R s m args below meth c Q G n0 9 N f cells slots pc [a0, a1, a2, a3, a4, a5, a6, a7, a8] (.int x :: st) := w_istore_n X hd (by decide) kk
theorem w_ast9_3 (X : Cx G n0 p s m args meth c cc own 9) {x : Nat} {a0 a1 a2 a3 a4 a5 a6 a7 a8 : Option Value} (hd : decode cc pc = .ok (.astore_n 3, 1)) (kk : WW p l e R s m args below meth c Q G n0 9 N f cells slots (pc + 1) [a0, a1, a2, some (.ref x), a4, a5, a6, a7, a8] st) : WW p l e R s m args below meth c Q G n0 9 N f cells slots pc [a0, a1, a2, a3, a4, a5, a6, a7, a8] (.ref x :: st) := w_astore_n X hd (by decide) kk
theorem w_iinc9_3 (X : Cx G n0 p s m args meth c cc own 9) {z n : Int} {a0 a1 a2 a4 a5 a6 a7 a8 : Option Value} (hd : decode cc pc = .ok (.iinc 3 n, 3)) (kk : WW p l e R s m args below meth c Q G n0 9 N f cells slots (pc + 3) [a0, a1, a2, some (.int (jI (z + n))), a4, a5, a6, a7, a8] st) : WW p l e R s m args below meth c Q G n0 9 N f cells slots pc [a0, a1, a2, some (.int (jI z)), a4, a5, a6, a7, a8] st := w_iinc X hd rfl kk
theorem w_ist9_4 (X : Cx G n0 p s m args meth c cc own 9) {x : Int32} {a0 a1 a2 a3 a4 a5 a6 a7 a8 : Option Value} (hd : decode cc pc = .ok (.istore 4, 2)) (kk : WW p l e R s m args below meth c Q G n0 9 N f cells slots (pc + 2) [a0, a1, a2, a3, some (.int x), a5, a6, a7, a8] st) : WW p l e R s m args below meth c Q G n0 9 N f cells slots pc [a0, a1, a2, a3, a4, a5, a6, a7, a8] (.int x :: st) := w_istore X hd (by decide) kk
theorem w_ast9_4 (X : Cx G n0 p s m args meth c cc own 9) {x : Nat} {a0 a1 a2 a3 a4 a5 a6 a7 a8 : Option Value} (hd : decode cc pc = .ok (.astore 4, 2)) (kk : WW p l e R s m args below meth c Q G n0 9 N f cells slots (pc + 2) [a0, a1, a2, a3, some (.ref x), a5, a6, a7, a8] st) : WW p l e R s m args below meth c Q G n0 9 N f cells slots pc [a0, a1, a2, a3, a4, a5, a6, a7, a8] (.ref x :: st) := w_astore X hd (by decide) kk
theorem w_iinc9_4 (X : Cx G n0 p s m args meth c cc own 9) {z n : Int} {a0 a1 a2 a3 a5 a6 a7 a8 : Option Value} (hd : decode cc pc = .ok (.iinc 4 n, 3)) (kk : WW p l e R s m args below meth c Q G n0 9 N f cells slots (pc + 3) [a0, a1, a2, a3, some (.int (jI (z + n))), a5, a6, a7, a8] st) : WW p l e R s m args below meth c Q G n0 9 N f cells slots pc [a0, a1, a2, a3, some (.int (jI z)), a5, a6, a7, a8] st := w_iinc X hd rfl kk
theorem w_ist9_5 (X : Cx G n0 p s m args meth c cc own 9) {x : Int32} {a0 a1 a2 a3 a4 a5 a6 a7 a8 : Option Value} (hd : decode cc pc = .ok (.istore 5, 2)) (kk : WW p l e R s m args below meth c Q G n0 9 N f cells slots (pc + 2) [a0, a1, a2, a3, a4, some (.int x), a6, a7, a8] st) : WW p l e R s m args below meth c Q G n0 9 N f cells slots pc [a0, a1, a2, a3, a4, a5, a6, a7, a8] (.int x :: st) := w_istore X hd (by decide) kk
theorem w_ast9_5 (X : Cx G n0 p s m args meth c cc own 9) {x : Nat} {a0 a1 a2 a3 a4 a5 a6 a7 a8 : Option Value} (hd : decode cc pc = .ok (.astore 5, 2)) (kk : WW p l e R s m args below meth c Q G n0 9 N f cells slots (pc + 2) [a0, a1, a2, a3, a4, some (.ref x), a6, a7, a8] st) : WW p l e R s m args below meth c Q G n0 9 N f cells slots pc [a0, a1, a2, a3, a4, a5, a6, a7, a8] (.ref x :: st) := w_astore X hd (by decide) kk
theorem w_iinc9_5 (X : Cx G n0 p s m args meth c cc own 9) {z n : Int} {a0 a1 a2 a3 a4 a6 a7 a8 : Option Value} (hd : decode cc pc = .ok (.iinc 5 n, 3)) (kk : WW p l e R s m args below meth c Q G n0 9 N f cells slots (pc + 3) [a0, a1, a2, a3, a4, some (.int (jI (z + n))), a6, a7, a8] st) : WW p l e R s m args below meth c Q G n0 9 N f cells slots pc [a0, a1, a2, a3, a4, some (.int (jI z)), a6, a7, a8] st := w_iinc X hd rfl kk
theorem w_ist9_6 (X : Cx G n0 p s m args meth c cc own 9) {x : Int32} {a0 a1 a2 a3 a4 a5 a6 a7 a8 : Option Value} (hd : decode cc pc = .ok (.istore 6, 2)) (kk : WW p l e R s m args below meth c Q G n0 9 N f cells slots (pc + 2) [a0, a1, a2, a3, a4, a5, some (.int x), a7, a8] st) : WW p l e R s m args below meth c Q G n0 9 N f cells slots pc [a0, a1, a2, a3, a4, a5, a6, a7, a8] (.int x :: st) := w_istore X hd (by decide) kk
theorem w_ast9_6 (X : Cx G n0 p s m args meth c cc own 9) {x : Nat} {a0 a1 a2 a3 a4 a5 a6 a7 a8 : Option Value} (hd : decode cc pc = .ok (.astore 6, 2)) (kk : WW p l e R s m args below meth c Q G n0 9 N f cells slots (pc + 2) [a0, a1, a2, a3, a4, a5, some (.ref x), a7, a8] st) : WW p l e R s m args below meth c Q G n0 9 N f cells slots pc [a0, a1, a2, a3, a4, a5, a6, a7, a8] (.ref x :: st) := w_astore X hd (by decide) kk
theorem w_iinc9_6 (X : Cx G n0 p s m args meth c cc own 9) {z n : Int} {a0 a1 a2 a3 a4 a5 a7 a8 : Option Value} (hd : decode cc pc = .ok (.iinc 6 n, 3)) (kk : WW p l e R s m args below meth c Q G n0 9 N f cells slots (pc + 3) [a0, a1, a2, a3, a4, a5, some (.int (jI (z + n))), a7, a8] st) : WW p l e R s m args below meth c Q G n0 9 N f cells slots pc [a0, a1, a2, a3, a4, a5, some (.int (jI z)), a7, a8] st := w_iinc X hd rfl kk
theorem w_ist9_7 (X : Cx G n0 p s m args meth c cc own 9) {x : Int32} {a0 a1 a2 a3 a4 a5 a6 a7 a8 : Option Value} (hd : decode cc pc = .ok (.istore 7, 2)) (kk : WW p l e R s m args below meth c Q G n0 9 N f cells slots (pc + 2) [a0, a1, a2, a3, a4, a5, a6, some (.int x), a8] st) : WW p l e R s m args below meth c Q G n0 9 N f cells slots pc [a0, a1, a2, a3, a4, a5, a6, a7, a8] (.int x :: st) := w_istore X hd (by decide) kk
theorem w_ast9_7 (X : Cx G n0 p s m args meth c cc own 9) {x : Nat} {a0 a1 a2 a3 a4 a5 a6 a7 a8 : Option Value} (hd : decode cc pc = .ok (.astore 7, 2)) (kk : WW p l e R s m args below meth c Q G n0 9 N f cells slots (pc + 2) [a0, a1, a2, a3, a4, a5, a6, some (.ref x), a8] st) : WW p l e R s m args below meth c Q G n0 9 N f cells slots pc [a0, a1, a2, a3, a4, a5, a6, a7, a8] (.ref x :: st) := w_astore X hd (by decide) kk
theorem w_iinc9_7 (X : Cx G n0 p s m args meth c cc own 9) {z n : Int} {a0 a1 a2 a3 a4 a5 a6 a8 : Option Value} (hd : decode cc pc = .ok (.iinc 7 n, 3)) (kk : WW p l e R s m args below meth c Q G n0 9 N f cells slots (pc + 3) [a0, a1, a2, a3, a4, a5, a6, some (.int (jI (z + n))), a8] st) : WW p l e R s m args below meth c Q G n0 9 N f cells slots pc [a0, a1, a2, a3, a4, a5, a6, some (.int (jI z)), a8] st := w_iinc X hd rfl kk
theorem w_ist9_8 (X : Cx G n0 p s m args meth c cc own 9) {x : Int32} {a0 a1 a2 a3 a4 a5 a6 a7 a8 : Option Value} (hd : decode cc pc = .ok (.istore 8, 2)) (kk : WW p l e R s m args below meth c Q G n0 9 N f cells slots (pc + 2) [a0, a1, a2, a3, a4, a5, a6, a7, some (.int x)] st) : WW p l e R s m args below meth c Q G n0 9 N f cells slots pc [a0, a1, a2, a3, a4, a5, a6, a7, a8] (.int x :: st) := w_istore X hd (by decide) kk
theorem w_ast9_8 (X : Cx G n0 p s m args meth c cc own 9) {x : Nat} {a0 a1 a2 a3 a4 a5 a6 a7 a8 : Option Value} (hd : decode cc pc = .ok (.astore 8, 2)) (kk : WW p l e R s m args below meth c Q G n0 9 N f cells slots (pc + 2) [a0, a1, a2, a3, a4, a5, a6, a7, some (.ref x)] st) : WW p l e R s m args below meth c Q G n0 9 N f cells slots pc [a0, a1, a2, a3, a4, a5, a6, a7, a8] (.ref x :: st) := w_astore X hd (by decide) kk
theorem w_iinc9_8 (X : Cx G n0 p s m args meth c cc own 9) {z n : Int} {a0 a1 a2 a3 a4 a5 a6 a7 : Option Value} (hd : decode cc pc = .ok (.iinc 8 n, 3)) (kk : WW p l e R s m args below meth c Q G n0 9 N f cells slots (pc + 3) [a0, a1, a2, a3, a4, a5, a6, a7, some (.int (jI (z + n)))] st) : WW p l e R s m args below meth c Q G n0 9 N f cells slots pc [a0, a1, a2, a3, a4, a5, a6, a7, some (.int (jI z))] st := w_iinc X hd rfl kk

theorem nI_jI (n : Nat) : nI n = jI (n : Int) := by
  unfold nI jI
  first | rfl | simp
theorem w_idiv (X : Cx G n0 p s m args meth c cc own nL) {a b : Int} (hd : decode cc pc = .ok (.idiv, 1)) (kk : WW p l e R s m args below meth c Q G n0 nL N f cells slots (pc + 1) L (.int (jI (a / b)) :: st)) (ha : 0 ≤ a ∧ a < 2147483648 := by omega) (hb : 0 < b ∧ b < 2147483648 := by omega) : WW p l e R s m args below meth c Q G n0 nL N f cells slots pc L (.int (jI b) :: .int (jI a) :: st) := fun H locs ls h1 h2 h3 => by
  obtain ⟨n, rfl⟩ := Int.eq_ofNat_of_zero_le ha.1
  obtain ⟨d, rfl⟩ := Int.eq_ofNat_of_zero_le (Int.le_of_lt hb.1)
  have e : jI (n : Int) / jI (d : Int) = jI ((n : Int) / (d : Int)) := by
    rw [← nI_jI, ← nI_jI, pk_div (by omega) (by omega) (by omega), nI_jI]
    rfl
  refine lv_idiv X.1 X.2.1 hd ?_ ?_
  · intro h
    have := (jI_eq ⟨by omega, by omega⟩ rg0).mp h
    omega
  · rw [e]; exact kk H locs ls h1 h2 h3
theorem jI_div {a b : Int} (ha : rg a) (hb : 0 < b ∧ b < 2147483648) : jI a / jI b = jI (a.tdiv b) := by
  have hb2 : rg b := ⟨by omega, by omega⟩
  have h1 : a.tdiv b = if 0 ≤ a then a / b else -((-a) / b) := by
    by_cases h : 0 ≤ a
    · rw [if_pos h, Int.tdiv_eq_ediv_of_nonneg h]
    · rw [if_neg h]
      have e : a = -(-a) := by omega
      rw [e, Int.neg_tdiv, Int.tdiv_eq_ediv_of_nonneg (by omega)]
      simp
  have h2 : rg (a.tdiv b) := by
    rw [h1]
    split
    · have g1 := Int.ediv_nonneg (by assumption) (Int.le_of_lt hb.1)
      have g2 := Int.ediv_le_self b (show 0 ≤ a by assumption)
      exact ⟨by omega, by omega⟩
    · have g1 := Int.ediv_nonneg (show 0 ≤ -a by omega) (Int.le_of_lt hb.1)
      have g2 := Int.ediv_le_self b (show 0 ≤ -a by omega)
      exact ⟨by omega, by omega⟩
  apply Int32.toInt_inj.mp
  rw [Int32.toInt_div, jI_to ha, jI_to hb2, jI_to h2]
  exact Int.bmod_eq_of_le_mul_two (by have := h2.1; omega) (by have := h2.2; omega)
theorem w_idivT (X : Cx G n0 p s m args meth c cc own nL) {a b : Int} (hd : decode cc pc = .ok (.idiv, 1)) (kk : ∀ z : Int, (0 ≤ a ∧ z = a / b ∨ a < 0 ∧ z = -((-a) / b)) → WW p l e R s m args below meth c Q G n0 nL N f cells slots (pc + 1) L (.int (jI z) :: st)) (ha : rg a := by first | assumption | (refine ⟨?_, ?_⟩ <;> omega)) (hb : 0 < b ∧ b < 2147483648 := by omega) : WW p l e R s m args below meth c Q G n0 nL N f cells slots pc L (.int (jI b) :: .int (jI a) :: st) := fun H locs ls h1 h2 h3 => by
  refine lv_idiv X.1 X.2.1 hd ?_ ?_
  · intro h
    have := (jI_eq (a := b) (b := 0) ⟨by omega, by omega⟩ rg0).mp h
    omega
  · rw [jI_div ha hb]
    refine kk (a.tdiv b) ?_ H locs ls h1 h2 h3
    by_cases h : 0 ≤ a
    · exact Or.inl ⟨h, Int.tdiv_eq_ediv_of_nonneg h⟩
    · refine Or.inr ⟨by omega, ?_⟩
      have e : a.tdiv b = -((-a).tdiv b) := by rw [Int.neg_tdiv, Int.neg_neg]
      rw [e, Int.tdiv_eq_ediv_of_nonneg (by omega)]
theorem w_irem (X : Cx G n0 p s m args meth c cc own nL) {a b : Int} (hd : decode cc pc = .ok (.irem, 1)) (kk : WW p l e R s m args below meth c Q G n0 nL N f cells slots (pc + 1) L (.int (jI (a % b)) :: st)) (ha : 0 ≤ a ∧ a < 2147483648 := by omega) (hb : 0 < b ∧ b < 2147483648 := by omega) : WW p l e R s m args below meth c Q G n0 nL N f cells slots pc L (.int (jI b) :: .int (jI a) :: st) := fun H locs ls h1 h2 h3 => by
  obtain ⟨n, rfl⟩ := Int.eq_ofNat_of_zero_le ha.1
  obtain ⟨d, rfl⟩ := Int.eq_ofNat_of_zero_le (Int.le_of_lt hb.1)
  have e : jI (n : Int) - jI (n : Int) / jI (d : Int) * jI (d : Int) = jI ((n : Int) % (d : Int)) := by
    rw [← nI_jI, ← nI_jI, pk_rem (by omega) (by omega) (by omega), nI_jI]
    rfl
  refine lv_irem X.1 X.2.1 hd ?_ ?_
  · intro h
    have := (jI_eq ⟨by omega, by omega⟩ rg0).mp h
    omega
  · rw [e]; exact kk H locs ls h1 h2 h3
/-! the world's cells -/
theorem w_get (X : Cx G n0 p s m args meth c cc own nL) {k ci Nf index : Nat} {fs : List Value} {C : String} {T : u_T} (hk : k < N) (he : f k = .inr (ci, fs)) (hc : vwCl[ci]? = some (C, T, Nf)) (hin : ∀ w ∈ u_ws C T Nf, w ∈ lw_w) (j : Nat) (hj : j < Nf) (hw : Cond.fieldLink own index (T j).1 (T j).2.1 (T j).2.2.1 ∈ lw_w) {v : Value} (hv : fs[j]? = some v) (hd : decode cc pc = .ok (.getfield index, 3)) (kk : WW p l e R s m args below meth c Q G n0 nL N f cells slots (pc + 3) L (v :: st)) : WW p l e R s m args below meth c Q G n0 nL N f cells slots pc L (.ref (n0 + k) :: st) := fun H locs ls h1 h2 h3 =>
  va_get X.1 X.2.1 (fun w hw => X.2.2.2.2.1 w hw) hin X.2.2.2.1 X.2.2.2.2.2.1.1 h1.2 k (by rw [wl_at hk, he]) hc j hj (X.2.2.2.2.1 _ hw) (fun _ h9 => h9) hv hd (kk H locs ls h1 h2 h3)
theorem w_getN (X : Cx G n0 p s m args meth c cc own nL) {k ci Nf index : Nat} {fs : List Value} {C host : String} {T : u_T} (hk : k < N) (he : f k = .inr (ci, fs)) (hc : vwCl[ci]? = some (C, T, Nf)) (hin : ∀ w ∈ u_ws C T Nf, w ∈ lw_w) (j : Nat) (hj : j < Nf) (hw : Cond.fieldLinkNest own index (T j).1 (T j).2.1 (T j).2.2.1 host ∈ lw_w) {v : Value} (hv : fs[j]? = some v) (hd : decode cc pc = .ok (.getfield index, 3)) (kk : WW p l e R s m args below meth c Q G n0 nL N f cells slots (pc + 3) L (v :: st)) : WW p l e R s m args below meth c Q G n0 nL N f cells slots pc L (.ref (n0 + k) :: st) := fun H locs ls h1 h2 h3 =>
  va_getN X.1 X.2.1 (fun w hw => X.2.2.2.2.1 w hw) hin X.2.2.2.1 X.2.2.2.2.2.1.1 h1.2 k (by rw [wl_at hk, he]) hc j hj (X.2.2.2.2.1 _ hw) (fun _ h9 => h9) hv hd (kk H locs ls h1 h2 h3)
/-- a cell is written: the world behind it -/
theorem Wd_set {H H1 : Heap} {k : Nat} {e e0 : va_E} (h : Wd G n0 N f H) (hk : k < N) (z : H1.size = H.size) (he : va_at G.1 vwCl (n0 + k, e) H1) (oq : ∀ q, q ≠ n0 + k → H1[q]? = H[q]?) : Wd G n0 N (va_up f k e) H1 := by
  refine ⟨by rw [z]; exact h.1, ?_⟩
  rw [← wl_set]
  exact h.2.set wl_D (wl_at hk) he oq
theorem w_put (X : Cx G n0 p s m args meth c cc own nL) {k ci Nf index : Nat} {fs : List Value} {C : String} {T : u_T} (hk : k < N) (he : f k = .inr (ci, fs)) (hc : vwCl[ci]? = some (C, T, Nf)) (hin : ∀ w ∈ u_ws C T Nf, w ∈ lw_w) (ty0 : Nat → FieldType) (hty : ∀ k, k < Nf → parseFieldDescriptor (T k).2.2.1 = some (ty0 k)) (hnm : ∀ a, a < Nf → ∀ b, b < Nf → a ≠ b → (T a).2.1 ≠ (T b).2.1) (j : Nat) (hj : j < Nf) (hw : Cond.fieldLink own index (T j).1 (T j).2.1 (T j).2.2.1 ∈ lw_w) (hfin : (T j).2.2.2 = false) {v : Value} (hn : narrow (ty0 j) v = v) (hfit : fits (ty0 j) v = true) (hl : j < fs.length) (hd : decode cc pc = .ok (.putfield index, 3)) (kk : WW p l e R s m args below meth c Q G n0 nL N (va_up f k (.inr (ci, fs.set j v))) cells slots (pc + 3) L st) : WW p l e R s m args below meth c Q G n0 nL N f cells slots pc L (v :: .ref (n0 + k) :: st) := fun H locs ls h1 h2 h3 => by
  have hts : ∀ w ∈ lw_w, w.before args s = true := fun w hw => X.2.2.2.2.1 w hw
  have hK := X.2.2.2.2.2.1.1
  have hap := va_apart (own := own) hts hin ty0 hty hnm hK hc
  obtain ⟨r, g1, cell, q1, q2, q3, q4⟩ := h1.2 k _ (by rw [wl_at hk, he])
  have hr : r = (C, T, Nf) := Option.some.inj (g1.symm.trans hc)
  subst hr
  obtain ⟨hS, hfc, kC, hkC, hkind⟩ := hK.1 ci _ hc
  obtain ⟨cf, kf, fi, fd, hi, hsl⟩ := hS j hj
  have hlay := hts _ (hin _ (u_in_lay hj))
  unfold u_lay at hlay
  rw [if_neg (by rw [hfin]; decide)] at hlay
  have hst := (u_facts hfc hkC (u_lays hts hin hj) hi).1
  have h6 := u_store hfc hkC hkind hlay hi (hty j hj) hn hfit
  refine W.putK X.1 X.2.1 (f := fd) ⟨X.2.2.2.1, hts _ hw, ⟨_, _, _, hi⟩, hst⟩ (by rw [q2]; exact h6) q1 q3 (by rw [hsl]; exact k2_hasslot (q4 j hj)) rfl rfl hd fun H' e1 e2 e3 => ?_
  rw [hsl] at e1 ⊢
  exact kk H' _ ls (Wd_set (e0 := f k) h1 hk e2 ⟨_, hc, t_OB.to (V := updV (vp_V fs) j v) ⟨_, e1, q2, q3, t_set q4 hap hj v⟩ (fun i _ => vp_updV_set hl v i)⟩ e3) (h2.put e2 e3 (Nat.le_add_right _ _)) h3
theorem w_putN (X : Cx G n0 p s m args meth c cc own nL) {k ci Nf index : Nat} {fs : List Value} {C host : String} {T : u_T} (hk : k < N) (he : f k = .inr (ci, fs)) (hc : vwCl[ci]? = some (C, T, Nf)) (hin : ∀ w ∈ u_ws C T Nf, w ∈ lw_w) (ty0 : Nat → FieldType) (hty : ∀ k, k < Nf → parseFieldDescriptor (T k).2.2.1 = some (ty0 k)) (hnm : ∀ a, a < Nf → ∀ b, b < Nf → a ≠ b → (T a).2.1 ≠ (T b).2.1) (j : Nat) (hj : j < Nf) (hw : Cond.fieldLinkNest own index (T j).1 (T j).2.1 (T j).2.2.1 host ∈ lw_w) (hfin : (T j).2.2.2 = false) {v : Value} (hn : narrow (ty0 j) v = v) (hfit : fits (ty0 j) v = true) (hl : j < fs.length) (hd : decode cc pc = .ok (.putfield index, 3)) (kk : WW p l e R s m args below meth c Q G n0 nL N (va_up f k (.inr (ci, fs.set j v))) cells slots (pc + 3) L st) : WW p l e R s m args below meth c Q G n0 nL N f cells slots pc L (v :: .ref (n0 + k) :: st) := fun H locs ls h1 h2 h3 => by
  have hts : ∀ w ∈ lw_w, w.before args s = true := fun w hw => X.2.2.2.2.1 w hw
  have hK := X.2.2.2.2.2.1.1
  have hap := va_apart (own := own) hts hin ty0 hty hnm hK hc
  obtain ⟨r, g1, cell, q1, q2, q3, q4⟩ := h1.2 k _ (by rw [wl_at hk, he])
  have hr : r = (C, T, Nf) := Option.some.inj (g1.symm.trans hc)
  subst hr
  obtain ⟨hS, hfc, kC, hkC, hkind⟩ := hK.1 ci _ hc
  obtain ⟨cf, kf, fi, fd, hi, hsl⟩ := hS j hj
  have hlay := hts _ (hin _ (u_in_lay hj))
  unfold u_lay at hlay
  rw [if_neg (by rw [hfin]; decide)] at hlay
  have hst := (u_facts hfc hkC (u_lays hts hin hj) hi).1
  have h6 := u_store hfc hkC hkind hlay hi (hty j hj) hn hfit
  refine va_WputK X.1 X.2.1 (f := fd) X.2.2.2.1 (hts _ hw) hi hst (by rw [q2]; exact h6) q1 q3 (by rw [hsl]; exact k2_hasslot (q4 j hj)) rfl rfl hd fun H' e1 e2 e3 => ?_
  rw [hsl] at e1 ⊢
  exact kk H' _ ls (Wd_set (e0 := f k) h1 hk e2 ⟨_, hc, t_OB.to (V := updV (vp_V fs) j v) ⟨_, e1, q2, q3, t_set q4 hap hj v⟩ (fun i _ => vp_updV_set hl v i)⟩ e3) (h2.put e2 e3 (Nat.le_add_right _ _)) h3
theorem w_putF (X : Cx G n0 p s m args meth c cc own nL) (hinit : meth.name = "<init>") {k ci Nf index : Nat} {fs : List Value} {C : String} {T : u_T} (hk : k < N) (he : f k = .inr (ci, fs)) (hc : vwCl[ci]? = some (C, T, Nf)) (hin : ∀ w ∈ u_ws C T Nf, w ∈ lw_w) (ty0 : Nat → FieldType) (hty : ∀ k, k < Nf → parseFieldDescriptor (T k).2.2.1 = some (ty0 k)) (hnm : ∀ a, a < Nf → ∀ b, b < Nf → a ≠ b → (T a).2.1 ≠ (T b).2.1) (j : Nat) (hj : j < Nf) (hw : Cond.fieldLink own index (T j).1 (T j).2.1 (T j).2.2.1 ∈ lw_w) (hfin : (T j).2.2.2 = true) (hdecl : (T j).1 = own) {v : Value} (hn : narrow (ty0 j) v = v) (hfit : fits (ty0 j) v = true) (hl : j < fs.length) (hd : decode cc pc = .ok (.putfield index, 3)) (kk : WW p l e R s m args below meth c Q G n0 nL N (va_up f k (.inr (ci, fs.set j v))) cells slots (pc + 3) L st) : WW p l e R s m args below meth c Q G n0 nL N f cells slots pc L (v :: .ref (n0 + k) :: st) := fun H locs ls h1 h2 h3 => by
  have hts : ∀ w ∈ lw_w, w.before args s = true := fun w hw => X.2.2.2.2.1 w hw
  have hK := X.2.2.2.2.2.1.1
  have hap := va_apart (own := own) hts hin ty0 hty hnm hK hc
  obtain ⟨r, g1, cell, q1, q2, q3, q4⟩ := h1.2 k _ (by rw [wl_at hk, he])
  have hr : r = (C, T, Nf) := Option.some.inj (g1.symm.trans hc)
  subst hr
  obtain ⟨hS, hfc, kC, hkC, hkind⟩ := hK.1 ci _ hc
  obtain ⟨cf, kf, fi, fd, hi, hsl⟩ := hS j hj
  have hlay := hts _ (hin _ (u_in_lay hj))
  unfold u_lay at hlay
  rw [if_pos hfin] at hlay
  have hst := (u_facts hfc hkC (u_lays hts hin hj) hi).1
  have hcf : m.cls = cf := by
    obtain ⟨_, _, c', _, _, _, -, -, hf', -, -, -, hown2, -⟩ := Cond.laysFinal_spec hlay
    have e1 : c' = cf := by have := hi.symm.trans hf'; simp at this; exact this.1.symm
    rw [hdecl] at hown2
    rw [← e1]; exact Option.some.inj (X.2.2.2.1.symm.trans hown2)
  have h6 := u_fits hfc hkC hkind (Or.inr hlay) hi (hty j hj) hn hfit
  refine W.putFinK X.1 X.2.1 X.2.2.2.1 (hts _ hw) hi hst hcf hinit (by rw [q2]; exact h6) q1 q3 (by rw [hsl]; exact k2_hasslot (q4 j hj)) rfl rfl hd fun H' e1 e2 e3 => ?_
  rw [hsl] at e1 ⊢
  exact kk H' _ ls (Wd_set (e0 := f k) h1 hk e2 ⟨_, hc, t_OB.to (V := updV (vp_V fs) j v) ⟨_, e1, q2, q3, t_set q4 hap hj v⟩ (fun i _ => vp_updV_set hl v i)⟩ e3) (h2.put e2 e3 (Nat.le_add_right _ _)) h3
theorem w_iald (X : Cx G n0 p s m args meth c cc own nL) {k n : Nat} {g : Nat → Int32} {z : Int} (hk : k < N) (he : f k = .inl (G.2 0, n, .inl g)) (hd : decode cc pc = .ok (.iaload, 1)) (kk : WW p l e R s m args below meth c Q G n0 nL N f cells slots (pc + 1) L (.int (g z.toNat) :: st)) (hz : 0 ≤ z ∧ z < n := by omega) (hn : n < 2147483648 := by decide) : WW p l e R s m args below meth c Q G n0 nL N f cells slots pc L (.int (jI z) :: .ref (n0 + k) :: st) := fun H locs ls h1 h2 h3 =>
  va_iald X.1 X.2.1 X.2.2.2.2.2.1.1 h1.2 k 0 (by rw [wl_at hk, he]) rfl (jI_in hz.1 hz.2 hn) hd (by rw [jI_cl hz.1 (by omega)]; exact kk H locs ls h1 h2 h3)
theorem w_zald (X : Cx G n0 p s m args meth c cc own nL) {k n : Nat} {g : Nat → Int32} {z : Int} (hk : k < N) (he : f k = .inl (G.2 1, n, .inl g)) (hd : decode cc pc = .ok (.baload, 1)) (kk : WW p l e R s m args below meth c Q G n0 nL N f cells slots (pc + 1) L (.int (g z.toNat) :: st)) (hz : 0 ≤ z ∧ z < n := by omega) (hn : n < 2147483648 := by decide) : WW p l e R s m args below meth c Q G n0 nL N f cells slots pc L (.int (jI z) :: .ref (n0 + k) :: st) := fun H locs ls h1 h2 h3 =>
  va_zald X.1 X.2.1 X.2.2.2.2.2.1.1 h1.2 k 1 (by rw [wl_at hk, he]) rfl (jI_in hz.1 hz.2 hn) hd (by rw [jI_cl hz.1 (by omega)]; exact kk H locs ls h1 h2 h3)
theorem w_aald (X : Cx G n0 p s m args meth c cc own nL) {k n t : Nat} {C : String} {g : Nat → Option Nat} {z : Int} {q : Nat} (hk : k < N) (he : f k = .inl (G.2 t, n, .inr (.inr (.inr (.inr g))))) (ht : (tyG G)[t]? = some (G.2 t, .object C)) (hd : decode cc pc = .ok (.aaload, 1)) (hq : g z.toNat = some q) (kk : WW p l e R s m args below meth c Q G n0 nL N f cells slots (pc + 1) L (.ref q :: st)) (hz : 0 ≤ z ∧ z < n := by omega) (hn : n < 2147483648 := by decide) : WW p l e R s m args below meth c Q G n0 nL N f cells slots pc L (.int (jI z) :: .ref (n0 + k) :: st) := fun H locs ls h1 h2 h3 =>
  va_aldq X.1 X.2.1 X.2.2.2.2.2.1.1 h1.2 k t (by rw [wl_at hk, he]) ht (jI_in hz.1 hz.2 hn) hd (by rw [jI_cl hz.1 (by omega), hq]; exact kk H locs ls h1 h2 h3)
theorem w_alen (X : Cx G n0 p s m args meth c cc own nL) {k t : Nat} {x : vp_A} {ty : FieldType} (hk : k < N) (he : f k = .inl (G.2 t, x)) (ht : (tyG G)[t]? = some (G.2 t, ty)) (hd : decode cc pc = .ok (.arraylength, 1)) (kk : WW p l e R s m args below meth c Q G n0 nL N f cells slots (pc + 1) L (.int (jI x.1) :: st)) : WW p l e R s m args below meth c Q G n0 nL N f cells slots pc L (.ref (n0 + k) :: st) := fun H locs ls h1 h2 h3 =>
  va_alen X.1 X.2.1 X.2.2.2.2.2.1.1 h1.2 k t (by rw [wl_at hk, he]) ht (nI_jI x.1) hd (kk H locs ls h1 h2 h3)
theorem w_iast (X : Cx G n0 p s m args meth c cc own nL) {k n : Nat} {g : Nat → Int32} {z : Int} {x : Int32} (hk : k < N) (he : f k = .inl (G.2 0, n, .inl g)) (hd : decode cc pc = .ok (.iastore, 1)) (kk : WW p l e R s m args below meth c Q G n0 nL N (va_up f k (.inl (G.2 0, n, .inl (upd g z.toNat x)))) cells slots (pc + 1) L st) (hz : 0 ≤ z ∧ z < n := by omega) (hn : n < 2147483648 := by decide) : WW p l e R s m args below meth c Q G n0 nL N f cells slots pc L (.int x :: .int (jI z) :: .ref (n0 + k) :: st) := fun H locs ls h1 h2 h3 => by
  have hin := jI_in hz.1 hz.2 hn
  have hcl := jI_cl hz.1 (by omega)
  have hcell : H[n0 + k]? = some (vp_cell (G.2 0) (n, .inl g)) := h1.2 k (n0 + k, .inl (G.2 0, n, .inl g)) (by rw [wl_at hk, he])
  refine W.iast X.1 X.2.1 hcell ((X.2.2.2.2.2.1.1.2 0 (G.2 0, _) rfl).1 n (fun j => .int (g j))) (fun q => by cases q) (by show ¬ (jI z < 0 ∨ (arrV _ _ _).slots.size ≤ _); rw [arrV_size]; exact hin) rfl rfl hd fun H1 e1 e2 e3 => ?_
  refine kk H1 _ ls (Wd_set (e0 := f k) h1 hk e2 ?_ e3) (h2.put e2 e3 (Nat.le_add_right _ _)) h3
  show H1[n0 + k]? = some (vp_cell _ _)
  rw [e1, hcl]
  rw [vp_cell_i, vp_cell_i, arrV_store]
  congr 2
  funext q
  by_cases hq : q = z.toNat
  · subst hq
    simp [updV, upd]
  · simp [updV, upd, hq]
theorem w_zast (X : Cx G n0 p s m args meth c cc own nL) {k n : Nat} {g : Nat → Int32} {z : Int} {x : Int32} (hk : k < N) (he : f k = .inl (G.2 1, n, .inl g)) (hx : vp_nar .boolean x = x) (hd : decode cc pc = .ok (.bastore, 1)) (kk : WW p l e R s m args below meth c Q G n0 nL N (va_up f k (.inl (G.2 1, n, .inl (upd g z.toNat x)))) cells slots (pc + 1) L st) (hz : 0 ≤ z ∧ z < n := by omega) (hn : n < 2147483648 := by decide) : WW p l e R s m args below meth c Q G n0 nL N f cells slots pc L (.int x :: .int (jI z) :: .ref (n0 + k) :: st) := fun H locs ls h1 h2 h3 => by
  have hin := jI_in hz.1 hz.2 hn
  have hcl := jI_cl hz.1 (by omega)
  have hcell : H[n0 + k]? = some (vp_cell (G.2 1) (n, .inl g)) := h1.2 k (n0 + k, .inl (G.2 1, n, .inl g)) (by rw [wl_at hk, he])
  refine W.zast X.1 X.2.1 hcell ((X.2.2.2.2.2.1.1.2 1 (G.2 1, _) rfl).1 n (fun j => .int (g j))) (fun q => by cases q) (by show ¬ (jI z < 0 ∨ (arrV _ _ _).slots.size ≤ _); rw [arrV_size]; exact hin) rfl rfl hd fun H1 e1 e2 e3 => ?_
  refine kk H1 _ ls (Wd_set (e0 := f k) h1 hk e2 ?_ e3) (h2.put e2 e3 (Nat.le_add_right _ _)) h3
  show H1[n0 + k]? = some (vp_cell _ _)
  rw [e1, hcl]
  rw [vp_cell_i, vp_cell_i, arrV_store]
  congr 2
  funext q
  have hx2 : narrow .boolean (.int x) = .int x := by
    have := hx
    unfold vp_nar at this
    revert this
    cases hh : narrow FieldType.boolean (Value.int x) <;> intro this <;> first | (simp at this; rw [this]) | (simp [narrow] at hh)
  by_cases hq : q = z.toNat
  · subst hq
    simp [updV, upd, hx2]
  · simp [updV, upd, hq]
theorem w_aast (X : Cx G n0 p s m args meth c cc own nL) {k k2 n t ci : Nat} {r : vw_C} {vs : List Value} {g : Nat → Option Nat} {z : Int} (hk : k < N) (hk2 : k2 < N) (he : f k = .inl (G.2 t, n, .inr (.inr (.inr (.inr g))))) (ht : (tyG G)[t]? = some (G.2 t, .object r.1)) (hv : f k2 = .inr (ci, vs)) (hc : vwCl[ci]? = some r) (hd : decode cc pc = .ok (.aastore, 1)) (kk : WW p l e R s m args below meth c Q G n0 nL N (va_up f k (.inl (G.2 t, n, .inr (.inr (.inr (.inr (va_up g z.toNat (some (n0 + k2)))))))))  cells slots (pc + 1) L st) (hz : 0 ≤ z ∧ z < n := by omega) (hn : n < 2147483648 := by decide) : WW p l e R s m args below meth c Q G n0 nL N f cells slots pc L (.ref (n0 + k2) :: .int (jI z) :: .ref (n0 + k) :: st) := fun H locs ls h1 h2 h3 => by
  have hin := jI_in hz.1 hz.2 hn
  have hcl := jI_cl hz.1 (by omega)
  have hlt : (jI z).toNatClampNeg < n := by rw [hcl]; omega
  have h0 : ¬ jI z < 0 := fun q => hin (Or.inl q)
  have hK := X.2.2.2.2.2.1.1
  obtain ⟨r', hr', cellV, g1, g2, g3, -⟩ := h1.2 k2 _ (by rw [wl_at hk2, hv])
  have hcls := (hK.1 ci r hc).2
  obtain ⟨kA, comp, k1, k2', k3, -⟩ := (hK.2 t _ ht).2
  have hcomp : comp = G.1.1 ci := Option.some.inj (k3.symm.trans hcls.1)
  subst hcomp
  obtain ⟨kC, hkC, -⟩ := hcls.2
  have hcell : H[n0 + k]? = some (vp_cell (G.2 t) (n, .inr (.inr (.inr (.inr g))))) := h1.2 k (n0 + k, .inl (G.2 t, n, .inr (.inr (.inr (.inr g))))) (by rw [wl_at hk, he])
  refine W.aast X.1 X.2.1 hcell (fun q h => by cases h) (fun h => by cases h) k1 k2' rfl hkC ⟨h0, by show _ < (arrV _ _ _).slots.size; rw [arrV_size]; exact hlt⟩ g1 (fun q h => by rw [g3] at h; cases h) (by rw [g2]; exact hkC) (by rw [g2]; exact va_assign hcls) rfl rfl hd fun H1 e1 e2 e3 => ?_
  refine kk H1 _ ls (Wd_set (e0 := f k) h1 hk e2 ?_ e3) (h2.put e2 e3 (Nat.le_add_right _ _)) h3
  show H1[n0 + k]? = some (vp_cell _ _)
  rw [e1, hcl]
  rw [vp_cell_q, vp_cell_q, arrV_store]
  congr 2
  funext q
  by_cases hq : q = z.toNat
  · subst hq
    simp [updV, va_up, va_rf]
  · simp [updV, va_up, hq]
theorem w_mmax (X : Cx G n0 p s m args meth c cc own nL) {index : Nat} {a b : Int} (hw : Cond.methodLink own index Lib.Math.max.name ∈ lw_w) (hR : 1 ≤ R.frames ∧ 40 ≤ R.locals) (hcs : cells ≤ R.cells ∧ slots ≤ R.slots) (hst : (st.map fun v => v.category).sum ≤ 8) (hd : decode cc pc = .ok (.invokestatic index, 3)) (kk : ∀ z : Int, (a < b ∧ z = b ∨ b ≤ a ∧ z = a) → WW p l e R s m args below meth c Q G n0 nL N f cells slots (pc + 3) L (.int (jI z) :: st)) (ha : rg a := by first | assumption | (refine ⟨?_, ?_⟩ <;> omega)) (hb : rg b := by first | assumption | (refine ⟨?_, ?_⟩ <;> omega)) : WW p l e R s m args below meth c Q G n0 nL N f cells slots pc L (.int (jI b) :: .int (jI a) :: st) := fun H locs ls h1 h2 h3 => by
  have hts : ∀ w ∈ lw_w, w.before args s = true := fun w hw => X.2.2.2.2.1 w hw
  refine va_mmax X.1 X.2.1 (X.2.2.1.trans h3.2.1.symm) X.2.2.2.1 (hts _ hw) (hts _ gT_Lib_Math_max_name) (hts _ gN_J) (hts _ gC_Lib_Math_max_name) hR.1 (by omega) hcs.1 hcs.2 hd ?_
  by_cases h : a < b
  · rw [if_pos ((jI_lt ha hb).mpr h)]
    exact kk b (Or.inl ⟨h, rfl⟩) H locs ls h1 h2 h3
  · rw [if_neg (fun q => h ((jI_lt ha hb).mp q))]
    exact kk a (Or.inr ⟨by omega, rfl⟩) H locs ls h1 h2 h3
theorem WW.congr {g : Nat → va_E} (h : ∀ k, k < N → f k = g k) (kk : WW p l e R s m args below meth c Q G n0 nL N g cells slots pc L st) : WW p l e R s m args below meth c Q G n0 nL N f cells slots pc L st := fun H locs ls h1 h2 h3 => kk H locs ls ⟨h1.1, by rw [← wl_congr h]; exact h1.2⟩ h2 h3
theorem WW.eqf {g : Nat → va_E} (h : f = g) (kk : WW p l e R s m args below meth c Q G n0 nL N g cells slots pc L st) : WW p l e R s m args below meth c Q G n0 nL N f cells slots pc L st := h ▸ kk
end Rows
end
section
section Calls
variable {p : Program} {l : Launch} {e : Env} {R : Room} {s : State} {m : MethodId} {args : Array Value} {below : List Frame} {meth : Method} {c : Code} {Q : State → Prop} {G : Gt} {n0 nL N : Nat} {f : Nat → va_E} {cells slots pc : Nat} {L : List (Option Value)} {st : List Value} {cc : ByteArray} {own : String}
theorem w_new (X : Cx G n0 p s m args meth c cc own nL) {C : String} {T : u_T} {Nf ci index : Nat} (hcl : Cond.classLink own index C ∈ lw_w) (hinst : Cond.instantiable C Nf ∈ lw_w) (hini : Cond.initialized C ∈ lw_w) (hin : ∀ w ∈ u_ws C T Nf, w ∈ lw_w) (ty : Nat → FieldType) (hty : ∀ k, k < Nf → parseFieldDescriptor (T k).2.2.1 = some (ty k)) (hc : vwCl[ci]? = some (C, T, Nf)) (fs : List Value) (hfs : ∀ j, j < Nf → defaultValue (ty j) = vp_V fs j) (hcells : cells + 1 ≤ R.cells) (hslots : slots + Nf ≤ R.slots) (hd : decode cc pc = .ok (.new index, 3)) (kk : WW p l e R s m args below meth c Q G n0 nL (N + 1) (va_up f N (.inr (ci, fs))) (cells + 1) (slots + Nf) (pc + 3) L (.ref (n0 + N) :: st)) : WW p l e R s m args below meth c Q G n0 nL N f cells slots pc L st := fun H locs ls h1 h2 h3 => by
  have hts := X.2.2.2.2.1
  have hKn := X.2.2.2.2.2.1.1.1 ci _ hc
  refine W.newcK X.1 X.2.1 X.2.2.2.1 (hts _ hcl) (hts _ hinst) (hts _ hini) rfl hd hcells hslots hKn.2.1 h1.1 fun H1 kC hkC e1 z1 o1 => ?_
  refine kk H1 _ ls ⟨by omega, ?_⟩ ⟨by have := h2.1; have := h1.1; omega, fun x g1 g2 => (o1 x (by have := h2.1; have := h1.1; omega)).trans (h2.2.1 x g1 g2), h2.2.2⟩ h3
  rw [← wl_push]
  refine (h1.2.kept (fun k x hx => ?_)).app (fun k x hx => ?_)
  · obtain ⟨hk, rfl⟩ := wl_inv hx
    exact o1 _ (by show n0 + k < n0 + N; omega)
  · have hz : k < 1 := (List.getElem?_eq_some_iff.mp hx).1
    rw [show k = 0 by omega] at hx
    cases hx
    exact ⟨_, hc, (u_born ty hts hin hKn hkC e1 hty).to hfs⟩
theorem w_newi (X : Cx G n0 p s m args meth c cc own nL) {z : Int} {n : Nat} (hz : z = n) (hn : n ≤ 100000) (hcells : cells + 1 ≤ R.cells) (hslots : slots + n ≤ R.slots) (hd : decode cc pc = .ok (.newarray .int, 2)) (kk : WW p l e R s m args below meth c Q G n0 nL (N + 1) (va_up f N (.inl (G.2 0, n, .inl (fun _ => 0)))) (cells + 1) (slots + n) (pc + 2) L (.ref (n0 + N) :: st)) : WW p l e R s m args below meth c Q G n0 nL N f cells slots pc L (.int (jI z) :: st) := fun H locs ls h1 h2 h3 => by
  subst hz
  have hts := X.2.2.2.2.1
  have hra : va_RA s (G.2 0) .int := (X.2.2.2.2.2.1.1.2 0 _ rfl).2
  have h0 : ¬ jI (n : Int) < 0 := fun h => by
    have := (jI_lt (a := (n : Int)) (b := 0) ⟨by omega, by omega⟩ rg0).mp h
    omega
  refine va_newaK X.1 X.2.1 (atype := .int) (hts _ gA_38) rfl hd rfl h0 (N := n) (by rw [jI_cl (by omega) (by omega)]; exact Int.toNat_natCast n) (by show n * 4 ≤ _; omega) hcells hslots h1.1 fun H1 cA e1 z1 o1 hAr hNm => ?_
  have hcA : cA = G.2 0 := Option.some.inj (hNm.symm.trans hra)
  subst hcA
  refine kk H1 _ ls ⟨by omega, ?_⟩ ⟨by have := h2.1; have := h1.1; omega, fun x g1 g2 => (o1 x (by have := h2.1; have := h1.1; omega)).trans (h2.2.1 x g1 g2), h2.2.2⟩ h3
  rw [← wl_push]
  refine (h1.2.kept (fun k x hx => ?_)).app (fun k x hx => ?_)
  · obtain ⟨hk, rfl⟩ := wl_inv hx
    exact o1 _ (by show n0 + k < n0 + N; omega)
  · have hz : k < 1 := (List.getElem?_eq_some_iff.mp hx).1
    rw [show k = 0 by omega] at hx
    cases hx
    show H1[n0 + N]? = some (vp_cell _ _)
    rw [e1]; rfl
theorem w_newz (X : Cx G n0 p s m args meth c cc own nL) {z : Int} {n : Nat} (hz : z = n) (hn : n ≤ 100000) (hcells : cells + 1 ≤ R.cells) (hslots : slots + n ≤ R.slots) (hd : decode cc pc = .ok (.newarray .boolean, 2)) (kk : WW p l e R s m args below meth c Q G n0 nL (N + 1) (va_up f N (.inl (G.2 1, n, .inl (fun _ => 0)))) (cells + 1) (slots + n) (pc + 2) L (.ref (n0 + N) :: st)) : WW p l e R s m args below meth c Q G n0 nL N f cells slots pc L (.int (jI z) :: st) := fun H locs ls h1 h2 h3 => by
  subst hz
  have hts := X.2.2.2.2.1
  have hra : va_RA s (G.2 1) .boolean := (X.2.2.2.2.2.1.1.2 1 _ rfl).2
  have h0 : ¬ jI (n : Int) < 0 := fun h => by
    have := (jI_lt (a := (n : Int)) (b := 0) ⟨by omega, by omega⟩ rg0).mp h
    omega
  refine va_newaK X.1 X.2.1 (atype := .boolean) (hts _ gA_162) rfl hd rfl h0 (N := n) (by rw [jI_cl (by omega) (by omega)]; exact Int.toNat_natCast n) (by show n * 1 ≤ _; omega) hcells hslots h1.1 fun H1 cA e1 z1 o1 hAr hNm => ?_
  have hcA : cA = G.2 1 := Option.some.inj (hNm.symm.trans hra)
  subst hcA
  refine kk H1 _ ls ⟨by omega, ?_⟩ ⟨by have := h2.1; have := h1.1; omega, fun x g1 g2 => (o1 x (by have := h2.1; have := h1.1; omega)).trans (h2.2.1 x g1 g2), h2.2.2⟩ h3
  rw [← wl_push]
  refine (h1.2.kept (fun k x hx => ?_)).app (fun k x hx => ?_)
  · obtain ⟨hk, rfl⟩ := wl_inv hx
    exact o1 _ (by show n0 + k < n0 + N; omega)
  · have hz : k < 1 := (List.getElem?_eq_some_iff.mp hx).1
    rw [show k = 0 by omega] at hx
    cases hx
    show H1[n0 + N]? = some (vp_cell _ _)
    rw [e1]; rfl
theorem w_newq (X : Cx G n0 p s m args meth c cc own nL) {z : Int} {n t index : Nat} {C : String} (hz : z = n) (hn : n ≤ 100000) (hcl : Cond.classLink own index C ∈ lw_w) (hao : Cond.arrayOver (.object C) ∈ lw_w) (ht : (tyG G)[t]? = some (G.2 t, .object C)) (hcells : cells + 1 ≤ R.cells) (hslots : slots + n ≤ R.slots) (hd : decode cc pc = .ok (.anewarray index, 3)) (kk : WW p l e R s m args below meth c Q G n0 nL (N + 1) (va_up f N (.inl (G.2 t, n, .inr (.inr (.inr (.inr (fun _ => none))))))) (cells + 1) (slots + n) (pc + 3) L (.ref (n0 + N) :: st)) : WW p l e R s m args below meth c Q G n0 nL N f cells slots pc L (.int (jI z) :: st) := fun H locs ls h1 h2 h3 => by
  subst hz
  have hts := X.2.2.2.2.1
  obtain ⟨kA0, comp0, -, -, -, hra⟩ := (X.2.2.2.2.2.1.1.2 t _ ht).2
  have h0 : ¬ jI (n : Int) < 0 := fun h => by
    have := (jI_lt (a := (n : Int)) (b := 0) ⟨by omega, by omega⟩ rg0).mp h
    omega
  have hcl2 : (jI (n : Int)).toNatClampNeg = n := by rw [jI_cl (by omega) (by omega)]; exact Int.toNat_natCast n
  refine W.anew X.1 X.2.1 X.2.2.2.1 (hts _ hcl) (hts _ hao) rfl hd rfl h0 (by rw [hcl2]; omega) hcells (by rw [hcl2]; exact hslots) fun cA kA comp f1 f2 f3 f4 => ?_
  rw [hcl2, h1.1]
  have hcA : cA = G.2 t := Option.some.inj (f1.symm.trans hra)
  subst hcA
  generalize hH1 : H.push ({ cls := G.2 t, slots := Array.replicate n .null, vm := .none } : Cell) = H1
  have z1 : H1.size = H.size + 1 := by rw [← hH1, Array.size_push]
  have e1 : H1[H.size]? = some (arrV (G.2 t) n (fun _ => .null)) := by rw [← hH1, Array.getElem?_push_size, ← arrV_new]
  have o1 : ∀ q : Nat, q < H.size → H1[q]? = H[q]? := fun q hq => by rw [← hH1, Array.getElem?_push, if_neg (Nat.ne_of_lt hq)]
  rw [h1.1] at e1
  refine kk H1 _ ls ⟨by have := h1.1; omega, ?_⟩ ⟨by have := h2.1; have := h1.1; omega, fun x g1 g2 => (o1 x (by have := h2.1; have := h1.1; omega)).trans (h2.2.1 x g1 g2), h2.2.2⟩ h3
  rw [← wl_push]
  refine (h1.2.kept (fun k x hx => ?_)).app (fun k x hx => ?_)
  · obtain ⟨hk, rfl⟩ := wl_inv hx
    exact o1 _ (by show n0 + k < H.size; have := h1.1; omega)
  · have hz : k < 1 := (List.getElem?_eq_some_iff.mp hx).1
    rw [show k = 0 by omega] at hx
    cases hx
    show H1[n0 + N]? = some (vp_cell _ _)
    rw [e1]; rfl
theorem w_objInit (X : Cx G n0 p s m args meth c cc own nL) {index a : Nat} (hw : Cond.methodLink own index objectInit ∈ lw_w) (hd : decode cc pc = .ok (.invokespecial index, 3)) (hR : 1 ≤ R.frames ∧ 40 ≤ R.locals) (hst : (st.map fun v => v.category).sum ≤ 8) (kk : WW p l e R s m args below meth c Q G n0 nL N f cells slots (pc + 3) L st) : WW p l e R s m args below meth c Q G n0 nL N f cells slots pc L (.ref a :: st) := fun H locs ls h1 h2 h3 => by
  have hts : ∀ w ∈ lw_w, w.before args s = true := fun w hw => X.2.2.2.2.1 w hw
  refine W.objInit X.1 X.2.1 X.2.2.2.1 (hts _ hw) (hts _ gI_objectInit) (hts _ gC_objectInit) rfl (h3.2.1.trans X.2.2.1.symm) rfl hd hR.1 ?_ (kk H locs ls h1 h2 h3)
  show 2 * 0 + _ + 12 ≤ _
  omega

theorem w_iret_z (hlocks : meth.locks = false) : True := trivial
/-! contracts -/
def Qx (G : Gt) (n0 : Nat) (post : Option Value → Nat → (Nat → va_E) → Prop) : Array Value → State → Outcome → State → Prop := fun _ st oc t => (∃ (v : Option Value) (N : Nat) (f : Nat → va_E), oc = .returned v ∧ post v N f ∧ Wd G n0 N f t.heap) ∧ va_F (fun q => n0 ≤ q) st t
def Ct (l : Launch) (y : MethodName) (b : ByteArray) (nL : Nat) (ret : Option FieldType) (lv mc ms : Nat) (G : Gt) (n0 : Nat) (av : List Value) (N : Nat) (f : Nat → va_E) (post : Option Value → Nat → (Nat → va_E) → Prop) : Prop :=
  Met l y (.code y b nL ret :: lw_good) { frames := lv, cells := mc, slots := ms, locals := 40 * lv } (va_Pc av (fun U => Wd G n0 N f U.heap ∧ KK G U)) (Qx G n0 post) mc ms (fun q => n0 ≤ q)
theorem Ct_of {y : MethodName} {b : ByteArray} {ret : Option FieldType} {lv mc ms : Nat} {av : List Value} {post : Option Value → Nat → (Nat → va_E) → Prop} (hy : plainName y.cls = true) (hcat : ∀ v ∈ av, v.category = 1) (hlen : av.length ≤ nL)
    (body : ∀ (p : Program) (e : Env) (s : State) (m : MethodId) (args : Array Value) (below : List Frame) (meth : Method) (c : Code), Cx G n0 p s m args meth c b y.cls nL → meth.sig.returnType = ret → meth.name = y.name → WW p l e { frames := lv, cells := mc, slots := ms, locals := 40 * lv } s m args below meth c (MQ below (Qx G n0 post) args s mc ms (fun q => n0 ≤ q)) G n0 nL N f 0 0 0 (inL av nL) []) : Ct l y b nL ret lv mc ms G n0 av N f post := by
  refine Met.ofW (cc := b) (maxL := nL) (ret := ret) hy rfl ?_
  intro p e s m args below meth c s₁ B hml hv
  obtain ⟨rfl, hW, hK⟩ := hv
  have hts := atoms_spec (ws := Cond.code y b nL ret :: lw_good) B.pre
  have hX : Cx G n0 p s m av.toArray meth c b y.cls nL := ⟨B.exec, B.bytes, hml, findClass_of_methodNamed B.named, KK.tbl hK (fun w hw => hts w (List.mem_cons_of_mem _ hw)), hK, B.notSynchronized, by have := hW.1; omega⟩
  have k := body p e s m av.toArray below meth c hX B.returns (name_of_methodNamed B.named B.method).1 s.heap [] _ hW va_S.rf (hasL_entry hcat hlen (by rw [lg_sl1 av hcat]; exact hlen))
  rw [lg_entry_eq]
  exact k
section Ret
variable {post : Option Value → Nat → (Nat → va_E) → Prop}
theorem w_iret (X : Cx G n0 p s m args meth c cc own nL) {v : Int32} (hr : meth.sig.returnType = some .int) (hd : decode cc pc = .ok (.ireturn, 1)) (hp : post (some (.int v)) N f) : WW p l e R s m args below meth c (MQ below (Qx G n0 post) args s cells slots (fun q => n0 ≤ q)) G n0 nL N f cells slots pc L [.int v] := fun H locs ls h1 h2 h3 =>
  W.iret X.1 X.2.1 hr (fun t ht hW => ⟨⟨_, N, f, rfl, hp, by rw [ht]; exact h1⟩, h2.F ht⟩) h2.2.2 hd (hlocks := X.2.2.2.2.2.2.1)
theorem w_zret (X : Cx G n0 p s m args meth c cc own nL) {v : Int} (hr : meth.sig.returnType = some .boolean) (hv : v = 0 ∨ v = 1) (hd : decode cc pc = .ok (.ireturn, 1)) (hp : post (some (.int (jI v))) N f) : WW p l e R s m args below meth c (MQ below (Qx G n0 post) args s cells slots (fun q => n0 ≤ q)) G n0 nL N f cells slots pc L [.int (jI v)] := fun H locs ls h1 h2 h3 =>
  W.zret (ty := .boolean) X.1 X.2.1 hr (by rcases hv with rfl | rfl <;> rfl) (fun t ht hW => ⟨⟨_, N, f, rfl, hp, by rw [ht]; exact h1⟩, h2.F ht⟩) h2.2.2 hd (hlocks := X.2.2.2.2.2.2.1)
theorem w_vret (X : Cx G n0 p s m args meth c cc own nL) (hr : meth.sig.returnType = none) (hd : decode cc pc = .ok (.return_, 1)) (hp : post none N f) : WW p l e R s m args below meth c (MQ below (Qx G n0 post) args s cells slots (fun q => n0 ≤ q)) G n0 nL N f cells slots pc L [] := fun H locs ls h1 h2 h3 =>
  W.vret X.1 X.2.1 hr (fun t ht hW => ⟨⟨_, N, f, rfl, hp, by rw [ht]; exact h1⟩, h2.F ht⟩) h2.2.2 hd (hlocks := X.2.2.2.2.2.2.1)
theorem WW.widen {k n : Nat} (h1 : cells ≤ k) (h2 : slots ≤ n) (kk : WW p l e R s m args below meth c Q G n0 nL N f k n pc L st) : WW p l e R s m args below meth c Q G n0 nL N f cells slots pc L st := fun H locs ls g1 g2 g3 => W.widen h1 h2 (kk H locs ls g1 g2 g3)
/-- what a call brings, for any of them -/
theorem w_ran {mc ms : Nat} {a : Array Value} {rest st0 : List Value} {H : Heap} {locs : List Loc} {ls : Array Slot} (hr : va_Run p l e R s m args below meth c H locs cells slots mc ms (F0 m pc ls st0) rest (Qx G n0 post a) (fun q => n0 ≤ q)) (h2 : va_S (fun q => n0 ≤ q) s.heap H locs) (h3 : hasL ls nL L)
    (kk : ∀ (v : Option Value) (N' : Nat) (f' : Nat → va_E), post v N' f' → WW p l e R s m args below meth c Q G n0 nL N' f' (cells + mc) (slots + ms) (pc + 3) L (v.toList ++ rest)) : W p l e R s m args below meth c H locs cells slots Q (F0 m pc ls st0) := by
  intro T hT X
  obtain ⟨v, st₀, t, T', L', h0, X', hL, e1, e2, ⟨⟨v2, N', f', hv, hp, hb⟩, hz, hk⟩, stp⟩ := hr T hT X
  cases hv
  rw [h0] at hz hk
  obtain ⟨t2, a1, b1⟩ := kk v N' f' hp T'.heap (locs ++ L') ls (by rw [e1]; exact hb)
    ⟨Nat.le_trans h2.1 (by rw [e1]; exact hz), fun q h4 h5 => by rw [e1, hk q (Nat.lt_of_lt_of_le h4 h2.1) h5]; exact h2.2.1 q h4 h5, fun q hq => by
      rcases List.mem_append.mp hq with h | h
      · exact h2.2.2 q h
      · exact hL q h⟩ h3 T' rfl X'
  exact ⟨t2, stp t2 a1, b1⟩
theorem blind_c {av : List Value} : FrameBlind (va_Pc av (fun U => Wd G n0 N f U.heap ∧ KK G U)) := fun a U g mk q => ⟨q.1, q.2.1, KK.same q.2.2 rfl⟩
theorem w_callV (X : Cx G n0 p s m args meth c cc own nL) {y : MethodName} {b : ByteArray} {nL' lv mc ms k ci index : Nat} {ret : Option FieldType} {As rest : List Value} {fs : List Value} {T' : u_T} {n' : Nat} (hC : Ct l y b nL' ret lv mc ms G n0 (.ref (n0 + k) :: As) N f post) (hl : Cond.methodLink own index y ∈ lw_w) (hi : Cond.instanceMethod y ∈ lw_w) (hse : Cond.selects y.cls y y ∈ lw_w) (hini : Cond.initialized y.cls ∈ lw_w) (hco : Cond.code y b nL' ret ∈ lw_w) (hk : k < N) (he : f k = .inr (ci, fs)) (hc : vwCl[ci]? = some (y.cls, T', n')) (hd : decode cc pc = .ok (.invokevirtual index, 3)) (hlen : (y.cls ≠ "java/lang/invoke/MethodHandle" ∧ y.cls ≠ "java/lang/invoke/VarHandle") ∧ (parseMethodDescriptor y.desc).map (fun d => d.parameters.length) = some As.length) (hR : lv + 1 ≤ R.frames ∧ 8 + (nL' + 11) + 40 * lv ≤ R.locals) (hcs : cells + mc ≤ R.cells ∧ slots + ms ≤ R.slots) (hrest : (rest.map fun v => v.category).sum ≤ 8) (hst : st = As.reverse ++ .ref (n0 + k) :: rest)
    (kk : ∀ (v : Option Value) (N' : Nat) (f' : Nat → va_E), post v N' f' → WW p l e R s m args below meth c Q G n0 nL N' f' (cells + mc) (slots + ms) (pc + 3) L (v.toList ++ rest)) : WW p l e R s m args below meth c Q G n0 nL N f cells slots pc L st := fun H locs ls h1 h2 h3 => by
  have hts := X.2.2.2.2.1
  have hK := X.2.2.2.2.2.1
  refine w_ran (va_runV (Ts := lw_w) (own := own) (C := y.cls) (b := n0 + k) (As := As) (rest := rest) (n := As.length) ⟨X.1, X.2.1, X.2.2.1, X.2.2.2.1, hts⟩ hC ⟨callB_of As.length hts (goodIn_c hco) rfl rfl rfl (hts _ hini) (hts _ hl) ⟨hlen.1.1, hlen.1.2, hlen.2⟩ hR, hts _ hi, hts _ hse⟩ ⟨blind_c, va_recv hK.1 h1.2 (ci := ci) (q0 := k) hc (by rw [wl_at hk, he]), fun U hU hW => ⟨rfl, by rw [hU]; exact h1, hK.warm hW⟩⟩ rfl rfl h3.2.1 hst (lv_room hrest) hd hcs) h2 h3 kk
theorem w_callS (X : Cx G n0 p s m args meth c cc own nL) {y : MethodName} {b : ByteArray} {nL' lv mc ms index : Nat} {ret : Option FieldType} {As rest : List Value} (hC : Ct l y b nL' ret lv mc ms G n0 As N f post) (hl : Cond.methodLink own index y ∈ lw_w) (hi : Cond.static y ∈ lw_w) (hini : Cond.initialized y.cls ∈ lw_w) (hco : Cond.code y b nL' ret ∈ lw_w) (hd : decode cc pc = .ok (.invokestatic index, 3)) (hlen : (y.cls ≠ "java/lang/invoke/MethodHandle" ∧ y.cls ≠ "java/lang/invoke/VarHandle") ∧ (parseMethodDescriptor y.desc).map (fun d => d.parameters.length) = some As.length) (hR : lv + 1 ≤ R.frames ∧ 8 + (nL' + 11) + 40 * lv ≤ R.locals) (hcs : cells + mc ≤ R.cells ∧ slots + ms ≤ R.slots) (hrest : (rest.map fun v => v.category).sum ≤ 8) (hst : st = As.reverse ++ rest)
    (kk : ∀ (v : Option Value) (N' : Nat) (f' : Nat → va_E), post v N' f' → WW p l e R s m args below meth c Q G n0 nL N' f' (cells + mc) (slots + ms) (pc + 3) L (v.toList ++ rest)) : WW p l e R s m args below meth c Q G n0 nL N f cells slots pc L st := fun H locs ls h1 h2 h3 => by
  have hts := X.2.2.2.2.1
  have hK := X.2.2.2.2.2.1
  refine w_ran (va_runS (Ts := lw_w) (own := own) (As := As) (rest := rest) (n := As.length) ⟨X.1, X.2.1, X.2.2.1, X.2.2.2.1, hts⟩ hC ⟨callB_of As.length hts (goodIn_c hco) rfl rfl rfl (hts _ hini) (hts _ hl) ⟨hlen.1.1, hlen.1.2, hlen.2⟩ hR, hts _ hi⟩ ⟨blind_c, fun U hU hW => ⟨rfl, by rw [hU]; exact h1, hK.warm hW⟩⟩ rfl rfl h3.2.1 hst (lv_room hrest) hd hcs) h2 h3 kk
theorem w_callI (X : Cx G n0 p s m args meth c cc own nL) {y : MethodName} {b : ByteArray} {nL' lv mc ms a index : Nat} {As rest : List Value} (hC : Ct l y b nL' none lv mc ms G n0 (.ref a :: As) N f post) (hl : Cond.methodLink own index y ∈ lw_w) (hi : Cond.instanceMethod y ∈ lw_w) (hini : Cond.initialized y.cls ∈ lw_w) (hco : Cond.code y b nL' none ∈ lw_w) (hyn : y.name = "<init>") (hd : decode cc pc = .ok (.invokespecial index, 3)) (hlen : (y.cls ≠ "java/lang/invoke/MethodHandle" ∧ y.cls ≠ "java/lang/invoke/VarHandle") ∧ (parseMethodDescriptor y.desc).map (fun d => d.parameters.length) = some As.length) (hR : lv + 1 ≤ R.frames ∧ 8 + (nL' + 11) + 40 * lv ≤ R.locals) (hcs : cells + mc ≤ R.cells ∧ slots + ms ≤ R.slots) (hrest : (rest.map fun v => v.category).sum ≤ 8) (hst : st = As.reverse ++ .ref a :: rest)
    (kk : ∀ (v : Option Value) (N' : Nat) (f' : Nat → va_E), post v N' f' → WW p l e R s m args below meth c Q G n0 nL N' f' (cells + mc) (slots + ms) (pc + 3) L (v.toList ++ rest)) : WW p l e R s m args below meth c Q G n0 nL N f cells slots pc L st := fun H locs ls h1 h2 h3 => by
  have hts := X.2.2.2.2.1
  have hK := X.2.2.2.2.2.1
  refine w_ran (va_runI (Ts := lw_w) (own := own) (b := a) (As := As) (rest := rest) (n := As.length) ⟨X.1, X.2.1, X.2.2.1, X.2.2.2.1, hts⟩ hC ⟨callB_of As.length hts (goodIn_c hco) rfl rfl rfl (hts _ hini) (hts _ hl) ⟨hlen.1.1, hlen.1.2, hlen.2⟩ hR, hyn, hts _ hi⟩ ⟨blind_c, fun U hU hW => ⟨rfl, by rw [hU]; exact h1, hK.warm hW⟩⟩ rfl rfl h3.2.1 hst (lv_room hrest) hd hcs) h2 h3 kk
theorem w_callIN (X : Cx G n0 p s m args meth c cc own nL) {y : MethodName} {b : ByteArray} {host : String} {nL' lv mc ms a index : Nat} {As rest : List Value} (hC : Ct l y b nL' none lv mc ms G n0 (.ref a :: As) N f post) (hl : Cond.methodLinkNest own index y host ∈ lw_w) (hi : Cond.instanceMethod y ∈ lw_w) (hini : Cond.initialized y.cls ∈ lw_w) (hco : Cond.code y b nL' none ∈ lw_w) (hyn : y.name = "<init>") (hd : decode cc pc = .ok (.invokespecial index, 3)) (hlen : (y.cls ≠ "java/lang/invoke/MethodHandle" ∧ y.cls ≠ "java/lang/invoke/VarHandle") ∧ (parseMethodDescriptor y.desc).map (fun d => d.parameters.length) = some As.length) (hR : lv + 1 ≤ R.frames ∧ 8 + (nL' + 11) + 40 * lv ≤ R.locals) (hcs : cells + mc ≤ R.cells ∧ slots + ms ≤ R.slots) (hrest : (rest.map fun v => v.category).sum ≤ 8) (hst : st = As.reverse ++ .ref a :: rest)
    (kk : ∀ (v : Option Value) (N' : Nat) (f' : Nat → va_E), post v N' f' → WW p l e R s m args below meth c Q G n0 nL N' f' (cells + mc) (slots + ms) (pc + 3) L (v.toList ++ rest)) : WW p l e R s m args below meth c Q G n0 nL N f cells slots pc L st := fun H locs ls h1 h2 h3 => by
  have hts := X.2.2.2.2.1
  have hK := X.2.2.2.2.2.1
  refine w_ran (va_runIN (Ts := lw_w) (own := own) (b := a) (As := As) (rest := rest) (n := As.length) ⟨X.1, X.2.1, X.2.2.1, X.2.2.2.1, hts⟩ hC ⟨va_cnB As.length hts (goodIn_c hco) rfl rfl rfl (va_Nw.of rfl (hts _ hl)) (hts _ hini) ⟨hlen.1.1, hlen.1.2, hlen.2⟩ hR, hyn, hts _ hi⟩ ⟨blind_c, fun U hU hW => ⟨rfl, by rw [hU]; exact h1, hK.warm hW⟩⟩ rfl rfl h3.2.1 hst (lv_room hrest) hd hcs) h2 h3 kk
end Ret
end Calls
end
section
/-! the world once both objects are made: 492 cells at fixed places; mi: what is in each place of each cell as a number, mr: the places that may change and hold cells -/
def up2 {α : Type} (f : Nat → Nat → α) (k j : Nat) (z : α) : Nat → Nat → α := fun a b => if a = k ∧ b = j then z else f a b
theorem up2_s {α : Type} (f : Nat → Nat → α) (k j : Nat) (z : α) : up2 f k j z k j = z := by simp [up2]
theorem up2_j {α : Type} (f : Nat → Nat → α) (k j : Nat) (z : α) {b : Nat} (h : b ≠ j) : up2 f k j z k b = f k b := by simp [up2, h]
theorem up2_k {α : Type} (f : Nat → Nat → α) (k j : Nat) (z : α) {a : Nat} (h : a ≠ k) : up2 f k j z a = f a := by funext b; simp [up2, h]
theorem up2_a {α : Type} (f : Nat → Nat → α) (k j : Nat) (z : α) (a b : Nat) : up2 f k j z a b = if a = k ∧ b = j then z else f a b := rfl
theorem up2_add {mi : Nat → Nat → Int} {k : Nat} {g x : Int} (h : 0 ≤ g) (j : Nat) : up2 mi k g.toNat (mi k g.toNat + x) k j = mi k j + (if g = (j : Int) then x else 0) := by
  by_cases hj : j = g.toNat
  · have e : g = (j : Int) := by omega
    subst e
    simp [up2]
  · have e : ¬ g = (j : Int) := by omega
    simp [up2, hj, e]
def isCr (c : Nat) : Prop := c = 4 ∨ (30 ≤ c ∧ c < 42 ∧ c % 2 = 0) ∨ c = 42 ∨ c = 47 ∨ c = 49 ∨ (54 ≤ c ∧ c < 256 ∧ c % 2 = 0) ∨ (259 ≤ c ∧ c < 461 ∧ c % 2 = 1) ∨ c = 462 ∨ c = 464
def isRu (k : Nat) : Prop := 6 ≤ k ∧ k < 30 ∧ k % 2 = 0
def isBs (b : Nat) : Prop := b = 51 ∨ b = 256
theorem isCr_lt {c : Nat} (h : isCr c) : c < 491 := by unfold isCr at h; omega
theorem isRu_lt {c : Nat} (h : isRu c) : c < 491 := by unfold isRu at h; omega
theorem isBs_lt {c : Nat} (h : isBs c) : c < 480 := by unfold isBs at h; omega

def σ (G : Gt) (n0 : Nat) (mi : Nat → Nat → Int) (mr : Nat → Nat → Nat) (k : Nat) : va_E :=
  if k = 0 then .inr (7, [.ref (n0 + 1), .ref (n0 + 42), .ref (n0 + 44), .ref (n0 + 461)]) else
  if k = 1 then .inr (5, [.ref (n0 + 2), .ref (n0 + 3), .ref (n0 + 4), .int (jI (mi k 3)), .int (jI (mi k 4)), .int (jI (mi k 5)), .int (jI (mi k 6))]) else
  if k = 2 then .inl (G.2 3, 12, .inr (.inr (.inr (.inr (fun j => some (n0 + (6 + 2 * j))))))) else
  if k = 3 then .inl (G.2 2, 6, .inr (.inr (.inr (.inr (fun j => some (n0 + (30 + 2 * j))))))) else
  if k = 44 then .inr (0, [.ref (n0 + 1), .ref (n0 + 45), .ref (n0 + 47), .ref (n0 + 49), .ref (n0 + mr k 4), .ref (n0 + mr k 5), .int (jI (mi k 6))]) else
  if k = 45 then .inr (2, [.ref (n0 + 46)]) else
  if k = 46 then .inl (G.2 0, 1200, .inl (fun j => jI (mi k j))) else
  if k = 51 ∨ k = 256 then .inr (1, [.ref (n0 + (k + 1)), .ref (n0 + (k + 2)), .int (jI (mi k 2)), .int (jI (mi k 3))]) else
  if k = 52 ∨ k = 257 then .inl (G.2 2, 101, .inr (.inr (.inr (.inr (fun j => some (n0 + mr k j)))))) else
  if k = 53 ∨ k = 258 then .inl (G.2 1, 101, .inl (fun j => jI (mi k j))) else
  if k = 461 then .inr (4, [.ref (n0 + 1), .ref (n0 + 462), .ref (n0 + 464), .ref (n0 + 466), .ref (n0 + 467), .ref (n0 + 468), .ref (n0 + 469), .ref (n0 + 471), .ref (n0 + 472), .int (jI (mi k 9)), .int (jI (mi k 10)), .int (jI (mi k 11)), .int (jI (mi k 12))]) else
  if k = 466 ∨ k = 467 ∨ k = 468 ∨ k = 472 then .inl (G.2 0, 495, .inl (fun j => jI (mi k j))) else
  if k = 469 then .inr (2, [.ref (n0 + 470)]) else
  if k = 470 then .inl (G.2 0, 5940, .inl (fun j => jI (mi k j))) else
  if k = 471 then .inl (G.2 1, 495, .inl (fun j => jI (mi k j))) else
  if k = 473 then .inr (8, [.int (jI (mi k 0)), .int (jI (mi k 1)), .int (jI (mi k 2)), .int (jI (mi k 3)), .ref (n0 + 474), .ref (n0 + 475), .ref (n0 + 476), .ref (n0 + 477), .ref (n0 + 478), .ref (n0 + 479), .ref (n0 + 480), .int (jI (mi k 11)), .ref (n0 + 481), .ref (n0 + 482), .int (jI (mi k 14)), .int (jI (mi k 15)), .int (jI (mi k 16)), .ref (n0 + 483), .int (jI (mi k 18)), .ref (n0 + 484), .ref (n0 + 485), .ref (n0 + 486), .ref (n0 + 487), .int (jI (mi k 23)), .ref (n0 + 488), .ref (n0 + 489), .ref (n0 + 490), .ref (n0 + 491)]) else
  if 474 ≤ k ∧ k ≤ 480 then .inl (G.2 0, 12, .inl (fun j => jI (mi k j))) else
  if k = 481 then .inl (G.2 0, 30, .inl (fun j => jI (mi k j))) else
  if k = 483 ∨ k = 484 then .inl (G.2 0, 505, .inl (fun j => jI (mi k j))) else
  if k = 488 ∨ k = 490 then .inl (G.2 0, 500, .inl (fun j => jI (mi k j))) else
  if k = 489 then .inl (G.2 0, 59049, .inl (fun j => jI (mi k j))) else
  if k = 491 then .inl (G.2 1, 500, .inl (fun j => jI (mi k j))) else
  if 6 ≤ k ∧ k < 30 ∧ k % 2 = 0 then .inr (6, [.ref (n0 + (k + 1)), .int (jI (mi k 1)), .int (jI (mi k 2)), .int (jI (mi k 3)), .int (jI (mi k 4)), .int (jI (mi k 5)), .int (jI (mi k 6)), .int (jI (mi k 7))]) else
  if k = 4 ∨ (30 ≤ k ∧ k < 42 ∧ k % 2 = 0) ∨ k = 42 ∨ k = 47 ∨ k = 49 ∨ (54 ≤ k ∧ k < 256 ∧ k % 2 = 0) ∨ (259 ≤ k ∧ k < 461 ∧ k % 2 = 1) ∨ k = 462 ∨ k = 464 then .inr (3, [.ref (n0 + (k + 1))]) else
  .inl (G.2 0, 5, .inl (fun j => jI (mi k j)))
theorem σ_0 (G : Gt) (n0 : Nat) (mi : Nat → Nat → Int) (mr : Nat → Nat → Nat) : σ G n0 mi mr 0 = .inr (7, [.ref (n0 + 1), .ref (n0 + 42), .ref (n0 + 44), .ref (n0 + 461)]) := rfl
theorem σ_1 (G : Gt) (n0 : Nat) (mi : Nat → Nat → Int) (mr : Nat → Nat → Nat) : σ G n0 mi mr 1 = .inr (5, [.ref (n0 + 2), .ref (n0 + 3), .ref (n0 + 4), .int (jI (mi 1 3)), .int (jI (mi 1 4)), .int (jI (mi 1 5)), .int (jI (mi 1 6))]) := rfl
theorem σ_2 (G : Gt) (n0 : Nat) (mi : Nat → Nat → Int) (mr : Nat → Nat → Nat) : σ G n0 mi mr 2 = .inl (G.2 3, 12, .inr (.inr (.inr (.inr (fun j => some (n0 + (6 + 2 * j))))))) := rfl
theorem σ_3 (G : Gt) (n0 : Nat) (mi : Nat → Nat → Int) (mr : Nat → Nat → Nat) : σ G n0 mi mr 3 = .inl (G.2 2, 6, .inr (.inr (.inr (.inr (fun j => some (n0 + (30 + 2 * j))))))) := rfl
theorem σ_44 (G : Gt) (n0 : Nat) (mi : Nat → Nat → Int) (mr : Nat → Nat → Nat) : σ G n0 mi mr 44 = .inr (0, [.ref (n0 + 1), .ref (n0 + 45), .ref (n0 + 47), .ref (n0 + 49), .ref (n0 + mr 44 4), .ref (n0 + mr 44 5), .int (jI (mi 44 6))]) := rfl
theorem σ_45 (G : Gt) (n0 : Nat) (mi : Nat → Nat → Int) (mr : Nat → Nat → Nat) : σ G n0 mi mr 45 = .inr (2, [.ref (n0 + 46)]) := rfl
theorem σ_46 (G : Gt) (n0 : Nat) (mi : Nat → Nat → Int) (mr : Nat → Nat → Nat) : σ G n0 mi mr 46 = .inl (G.2 0, 1200, .inl (fun j => jI (mi 46 j))) := rfl
theorem σ_bs (G : Gt) (n0 : Nat) (mi : Nat → Nat → Int) (mr : Nat → Nat → Nat) {k : Nat} (h : isBs k) : σ G n0 mi mr k = .inr (1, [.ref (n0 + (k + 1)), .ref (n0 + (k + 2)), .int (jI (mi k 2)), .int (jI (mi k 3))]) := by
  have h := h
  try unfold isBs at h
  try unfold isRu at h
  try unfold isCr at h
  unfold σ
  rw [if_neg (by omega), if_neg (by omega), if_neg (by omega), if_neg (by omega), if_neg (by omega), if_neg (by omega), if_neg (by omega), if_pos (by omega)]
theorem σ_rows (G : Gt) (n0 : Nat) (mi : Nat → Nat → Int) (mr : Nat → Nat → Nat) {k : Nat} (h : k = 52 ∨ k = 257) : σ G n0 mi mr k = .inl (G.2 2, 101, .inr (.inr (.inr (.inr (fun j => some (n0 + mr k j)))))) := by
  have h := h
  try unfold isBs at h
  try unfold isRu at h
  try unfold isCr at h
  unfold σ
  rw [if_neg (by omega), if_neg (by omega), if_neg (by omega), if_neg (by omega), if_neg (by omega), if_neg (by omega), if_neg (by omega), if_neg (by omega), if_pos (by omega)]
theorem σ_fresh (G : Gt) (n0 : Nat) (mi : Nat → Nat → Int) (mr : Nat → Nat → Nat) {k : Nat} (h : k = 53 ∨ k = 258) : σ G n0 mi mr k = .inl (G.2 1, 101, .inl (fun j => jI (mi k j))) := by
  have h := h
  try unfold isBs at h
  try unfold isRu at h
  try unfold isCr at h
  unfold σ
  rw [if_neg (by omega), if_neg (by omega), if_neg (by omega), if_neg (by omega), if_neg (by omega), if_neg (by omega), if_neg (by omega), if_neg (by omega), if_neg (by omega), if_pos (by omega)]
theorem σ_461 (G : Gt) (n0 : Nat) (mi : Nat → Nat → Int) (mr : Nat → Nat → Nat) : σ G n0 mi mr 461 = .inr (4, [.ref (n0 + 1), .ref (n0 + 462), .ref (n0 + 464), .ref (n0 + 466), .ref (n0 + 467), .ref (n0 + 468), .ref (n0 + 469), .ref (n0 + 471), .ref (n0 + 472), .int (jI (mi 461 9)), .int (jI (mi 461 10)), .int (jI (mi 461 11)), .int (jI (mi 461 12))]) := rfl
theorem σ_f4 (G : Gt) (n0 : Nat) (mi : Nat → Nat → Int) (mr : Nat → Nat → Nat) {k : Nat} (h : k = 466 ∨ k = 467 ∨ k = 468 ∨ k = 472) : σ G n0 mi mr k = .inl (G.2 0, 495, .inl (fun j => jI (mi k j))) := by
  have h := h
  try unfold isBs at h
  try unfold isRu at h
  try unfold isCr at h
  unfold σ
  rw [if_neg (by omega), if_neg (by omega), if_neg (by omega), if_neg (by omega), if_neg (by omega), if_neg (by omega), if_neg (by omega), if_neg (by omega), if_neg (by omega), if_neg (by omega), if_neg (by omega), if_pos (by omega)]
theorem σ_469 (G : Gt) (n0 : Nat) (mi : Nat → Nat → Int) (mr : Nat → Nat → Nat) : σ G n0 mi mr 469 = .inr (2, [.ref (n0 + 470)]) := rfl
theorem σ_470 (G : Gt) (n0 : Nat) (mi : Nat → Nat → Int) (mr : Nat → Nat → Nat) : σ G n0 mi mr 470 = .inl (G.2 0, 5940, .inl (fun j => jI (mi 470 j))) := rfl
theorem σ_471 (G : Gt) (n0 : Nat) (mi : Nat → Nat → Int) (mr : Nat → Nat → Nat) : σ G n0 mi mr 471 = .inl (G.2 1, 495, .inl (fun j => jI (mi 471 j))) := rfl
theorem σ_473 (G : Gt) (n0 : Nat) (mi : Nat → Nat → Int) (mr : Nat → Nat → Nat) : σ G n0 mi mr 473 = .inr (8, [.int (jI (mi 473 0)), .int (jI (mi 473 1)), .int (jI (mi 473 2)), .int (jI (mi 473 3)), .ref (n0 + 474), .ref (n0 + 475), .ref (n0 + 476), .ref (n0 + 477), .ref (n0 + 478), .ref (n0 + 479), .ref (n0 + 480), .int (jI (mi 473 11)), .ref (n0 + 481), .ref (n0 + 482), .int (jI (mi 473 14)), .int (jI (mi 473 15)), .int (jI (mi 473 16)), .ref (n0 + 483), .int (jI (mi 473 18)), .ref (n0 + 484), .ref (n0 + 485), .ref (n0 + 486), .ref (n0 + 487), .int (jI (mi 473 23)), .ref (n0 + 488), .ref (n0 + 489), .ref (n0 + 490), .ref (n0 + 491)]) := rfl
theorem σ_m12 (G : Gt) (n0 : Nat) (mi : Nat → Nat → Int) (mr : Nat → Nat → Nat) {k : Nat} (h : 474 ≤ k ∧ k ≤ 480) : σ G n0 mi mr k = .inl (G.2 0, 12, .inl (fun j => jI (mi k j))) := by
  have h := h
  try unfold isBs at h
  try unfold isRu at h
  try unfold isCr at h
  unfold σ
  rw [if_neg (by omega), if_neg (by omega), if_neg (by omega), if_neg (by omega), if_neg (by omega), if_neg (by omega), if_neg (by omega), if_neg (by omega), if_neg (by omega), if_neg (by omega), if_neg (by omega), if_neg (by omega), if_neg (by omega), if_neg (by omega), if_neg (by omega), if_neg (by omega), if_pos (by omega)]
theorem σ_481 (G : Gt) (n0 : Nat) (mi : Nat → Nat → Int) (mr : Nat → Nat → Nat) : σ G n0 mi mr 481 = .inl (G.2 0, 30, .inl (fun j => jI (mi 481 j))) := rfl
theorem σ_m505 (G : Gt) (n0 : Nat) (mi : Nat → Nat → Int) (mr : Nat → Nat → Nat) {k : Nat} (h : k = 483 ∨ k = 484) : σ G n0 mi mr k = .inl (G.2 0, 505, .inl (fun j => jI (mi k j))) := by
  have h := h
  try unfold isBs at h
  try unfold isRu at h
  try unfold isCr at h
  unfold σ
  rw [if_neg (by omega), if_neg (by omega), if_neg (by omega), if_neg (by omega), if_neg (by omega), if_neg (by omega), if_neg (by omega), if_neg (by omega), if_neg (by omega), if_neg (by omega), if_neg (by omega), if_neg (by omega), if_neg (by omega), if_neg (by omega), if_neg (by omega), if_neg (by omega), if_neg (by omega), if_neg (by omega), if_pos (by omega)]
theorem σ_m500 (G : Gt) (n0 : Nat) (mi : Nat → Nat → Int) (mr : Nat → Nat → Nat) {k : Nat} (h : k = 488 ∨ k = 490) : σ G n0 mi mr k = .inl (G.2 0, 500, .inl (fun j => jI (mi k j))) := by
  have h := h
  try unfold isBs at h
  try unfold isRu at h
  try unfold isCr at h
  unfold σ
  rw [if_neg (by omega), if_neg (by omega), if_neg (by omega), if_neg (by omega), if_neg (by omega), if_neg (by omega), if_neg (by omega), if_neg (by omega), if_neg (by omega), if_neg (by omega), if_neg (by omega), if_neg (by omega), if_neg (by omega), if_neg (by omega), if_neg (by omega), if_neg (by omega), if_neg (by omega), if_neg (by omega), if_neg (by omega), if_pos (by omega)]
theorem σ_489 (G : Gt) (n0 : Nat) (mi : Nat → Nat → Int) (mr : Nat → Nat → Nat) : σ G n0 mi mr 489 = .inl (G.2 0, 59049, .inl (fun j => jI (mi 489 j))) := rfl
theorem σ_491 (G : Gt) (n0 : Nat) (mi : Nat → Nat → Int) (mr : Nat → Nat → Nat) : σ G n0 mi mr 491 = .inl (G.2 1, 500, .inl (fun j => jI (mi 491 j))) := rfl
theorem σ_ru (G : Gt) (n0 : Nat) (mi : Nat → Nat → Int) (mr : Nat → Nat → Nat) {k : Nat} (h : isRu k) : σ G n0 mi mr k = .inr (6, [.ref (n0 + (k + 1)), .int (jI (mi k 1)), .int (jI (mi k 2)), .int (jI (mi k 3)), .int (jI (mi k 4)), .int (jI (mi k 5)), .int (jI (mi k 6)), .int (jI (mi k 7))]) := by
  have h := h
  try unfold isBs at h
  try unfold isRu at h
  try unfold isCr at h
  unfold σ
  rw [if_neg (by omega), if_neg (by omega), if_neg (by omega), if_neg (by omega), if_neg (by omega), if_neg (by omega), if_neg (by omega), if_neg (by omega), if_neg (by omega), if_neg (by omega), if_neg (by omega), if_neg (by omega), if_neg (by omega), if_neg (by omega), if_neg (by omega), if_neg (by omega), if_neg (by omega), if_neg (by omega), if_neg (by omega), if_neg (by omega), if_neg (by omega), if_neg (by omega), if_pos (by omega)]
theorem σ_cr (G : Gt) (n0 : Nat) (mi : Nat → Nat → Int) (mr : Nat → Nat → Nat) {k : Nat} (h : isCr k) : σ G n0 mi mr k = .inr (3, [.ref (n0 + (k + 1))]) := by
  have h := h
  try unfold isBs at h
  try unfold isRu at h
  try unfold isCr at h
  unfold σ
  rw [if_neg (by omega), if_neg (by omega), if_neg (by omega), if_neg (by omega), if_neg (by omega), if_neg (by omega), if_neg (by omega), if_neg (by omega), if_neg (by omega), if_neg (by omega), if_neg (by omega), if_neg (by omega), if_neg (by omega), if_neg (by omega), if_neg (by omega), if_neg (by omega), if_neg (by omega), if_neg (by omega), if_neg (by omega), if_neg (by omega), if_neg (by omega), if_neg (by omega), if_neg (by omega), if_pos (by omega)]
theorem σ_in (G : Gt) (n0 : Nat) (mi : Nat → Nat → Int) (mr : Nat → Nat → Nat) {c : Nat} (h : isCr c) : σ G n0 mi mr (c + 1) = .inl (G.2 0, 5, .inl (fun j => jI (mi (c + 1) j))) := by
  have h := h
  try unfold isRu at h
  try unfold isCr at h
  unfold σ
  rw [if_neg (by omega), if_neg (by omega), if_neg (by omega), if_neg (by omega), if_neg (by omega), if_neg (by omega), if_neg (by omega), if_neg (by omega), if_neg (by omega), if_neg (by omega), if_neg (by omega), if_neg (by omega), if_neg (by omega), if_neg (by omega), if_neg (by omega), if_neg (by omega), if_neg (by omega), if_neg (by omega), if_neg (by omega), if_neg (by omega), if_neg (by omega), if_neg (by omega), if_neg (by omega), if_neg (by omega)]
theorem σ_go (G : Gt) (n0 : Nat) (mi : Nat → Nat → Int) (mr : Nat → Nat → Nat) {c : Nat} (h : isRu c) : σ G n0 mi mr (c + 1) = .inl (G.2 0, 5, .inl (fun j => jI (mi (c + 1) j))) := by
  have h := h
  try unfold isRu at h
  try unfold isCr at h
  unfold σ
  rw [if_neg (by omega), if_neg (by omega), if_neg (by omega), if_neg (by omega), if_neg (by omega), if_neg (by omega), if_neg (by omega), if_neg (by omega), if_neg (by omega), if_neg (by omega), if_neg (by omega), if_neg (by omega), if_neg (by omega), if_neg (by omega), if_neg (by omega), if_neg (by omega), if_neg (by omega), if_neg (by omega), if_neg (by omega), if_neg (by omega), if_neg (by omega), if_neg (by omega), if_neg (by omega), if_neg (by omega)]
theorem σ_m5 (G : Gt) (n0 : Nat) (mi : Nat → Nat → Int) (mr : Nat → Nat → Nat) {k : Nat} (h : k = 482 ∨ k = 485 ∨ k = 486 ∨ k = 487) : σ G n0 mi mr k = .inl (G.2 0, 5, .inl (fun j => jI (mi k j))) := by
  unfold σ
  rw [if_neg (by omega), if_neg (by omega), if_neg (by omega), if_neg (by omega), if_neg (by omega), if_neg (by omega), if_neg (by omega), if_neg (by omega), if_neg (by omega), if_neg (by omega), if_neg (by omega), if_neg (by omega), if_neg (by omega), if_neg (by omega), if_neg (by omega), if_neg (by omega), if_neg (by omega), if_neg (by omega), if_neg (by omega), if_neg (by omega), if_neg (by omega), if_neg (by omega), if_neg (by omega), if_neg (by omega)]
theorem σ_r1 (G : Gt) (n0 : Nat) (mi : Nat → Nat → Int) (mr : Nat → Nat → Nat) {b : Nat} (h : isBs b) : σ G n0 mi mr (b + 1) = .inl (G.2 2, 101, .inr (.inr (.inr (.inr (fun j => some (n0 + mr (b + 1) j)))))) := σ_rows G n0 mi mr (by unfold isBs at h; omega)
theorem σ_f1 (G : Gt) (n0 : Nat) (mi : Nat → Nat → Int) (mr : Nat → Nat → Nat) {b : Nat} (h : isBs b) : σ G n0 mi mr (b + 2) = .inl (G.2 1, 101, .inl (fun j => jI (mi (b + 2) j))) := σ_fresh G n0 mi mr (by unfold isBs at h; omega)
theorem σ_ext (G : Gt) (n0 : Nat) {mi mi' : Nat → Nat → Int} {mr mr' : Nat → Nat → Nat} {k : Nat} (h1 : mi' k = mi k) (h2 : mr' k = mr k) : σ G n0 mi' mr' k = σ G n0 mi mr k := by
  unfold σ
  rw [h1, h2]
theorem σ_up {G : Gt} {n0 : Nat} {mi mi' : Nat → Nat → Int} {mr mr' : Nat → Nat → Nat} {k : Nat} {e : va_E} (h1 : σ G n0 mi' mr' k = e) (h2 : ∀ a, a ≠ k → mi' a = mi a ∧ mr' a = mr a) : va_up (σ G n0 mi mr) k e = σ G n0 mi' mr' := by
  funext a
  by_cases ha : a = k
  · subst ha; simp [va_up, h1]
  · obtain ⟨g1, g2⟩ := h2 a ha
    rw [σ_ext G n0 g1 g2]
    simp [va_up, ha]
theorem σ_iast {G : Gt} {n0 : Nat} {mi : Nat → Nat → Int} {mr : Nat → Nat → Nat} {k n t : Nat} (he : ∀ mi', σ G n0 mi' mr k = .inl (G.2 t, n, .inl (fun j => jI (mi' k j)))) (i : Nat) (x : Int) : va_up (σ G n0 mi mr) k (.inl (G.2 t, n, .inl (upd (fun j => jI (mi k j)) i (jI x)))) = σ G n0 (up2 mi k i x) mr := by
  refine σ_up ?_ (fun a ha => ⟨up2_k mi k i x ha, rfl⟩)
  rw [he]
  congr 4
  funext j
  by_cases hj : j = i
  · subst hj; simp [up2, upd]
  · simp [up2, upd, hj]
theorem σ_aast {G : Gt} {n0 : Nat} {mi : Nat → Nat → Int} {mr : Nat → Nat → Nat} {k n t : Nat} (he : ∀ mr', σ G n0 mi mr' k = .inl (G.2 t, n, .inr (.inr (.inr (.inr (fun j => some (n0 + mr' k j))))))) (i : Nat) (x : Nat) : va_up (σ G n0 mi mr) k (.inl (G.2 t, n, .inr (.inr (.inr (.inr (va_up (fun j => some (n0 + mr k j)) i (some (n0 + x)))))))) = σ G n0 mi (up2 mr k i x) := by
  refine σ_up ?_ (fun a ha => ⟨rfl, up2_k mr k i x ha⟩)
  rw [he]
  congr 7
  funext j
  by_cases hj : j = i
  · subst hj; simp [up2, va_up]
  · simp [up2, va_up, hj]
theorem sp_1_3 {G : Gt} {n0 : Nat} {mi : Nat → Nat → Int} {mr : Nat → Nat → Nat}  (z : Int) : va_up (σ G n0 mi mr) 1 (.inr (5, List.set [.ref (n0 + 2), .ref (n0 + 3), .ref (n0 + 4), .int (jI (mi 1 3)), .int (jI (mi 1 4)), .int (jI (mi 1 5)), .int (jI (mi 1 6))] 3 (.int (jI z)))) = σ G n0 (up2 mi 1 3 z) mr := by
  refine σ_up ?_ (fun a ha => ⟨up2_k mi 1 3 z ha, rfl⟩)
  rw [σ_1 G n0 _ mr]
  simp [up2]
theorem sp_1_4 {G : Gt} {n0 : Nat} {mi : Nat → Nat → Int} {mr : Nat → Nat → Nat}  (z : Int) : va_up (σ G n0 mi mr) 1 (.inr (5, List.set [.ref (n0 + 2), .ref (n0 + 3), .ref (n0 + 4), .int (jI (mi 1 3)), .int (jI (mi 1 4)), .int (jI (mi 1 5)), .int (jI (mi 1 6))] 4 (.int (jI z)))) = σ G n0 (up2 mi 1 4 z) mr := by
  refine σ_up ?_ (fun a ha => ⟨up2_k mi 1 4 z ha, rfl⟩)
  rw [σ_1 G n0 _ mr]
  simp [up2]
theorem sp_1_5 {G : Gt} {n0 : Nat} {mi : Nat → Nat → Int} {mr : Nat → Nat → Nat}  (z : Int) : va_up (σ G n0 mi mr) 1 (.inr (5, List.set [.ref (n0 + 2), .ref (n0 + 3), .ref (n0 + 4), .int (jI (mi 1 3)), .int (jI (mi 1 4)), .int (jI (mi 1 5)), .int (jI (mi 1 6))] 5 (.int (jI z)))) = σ G n0 (up2 mi 1 5 z) mr := by
  refine σ_up ?_ (fun a ha => ⟨up2_k mi 1 5 z ha, rfl⟩)
  rw [σ_1 G n0 _ mr]
  simp [up2]
theorem sp_1_6 {G : Gt} {n0 : Nat} {mi : Nat → Nat → Int} {mr : Nat → Nat → Nat}  (z : Int) : va_up (σ G n0 mi mr) 1 (.inr (5, List.set [.ref (n0 + 2), .ref (n0 + 3), .ref (n0 + 4), .int (jI (mi 1 3)), .int (jI (mi 1 4)), .int (jI (mi 1 5)), .int (jI (mi 1 6))] 6 (.int (jI z)))) = σ G n0 (up2 mi 1 6 z) mr := by
  refine σ_up ?_ (fun a ha => ⟨up2_k mi 1 6 z ha, rfl⟩)
  rw [σ_1 G n0 _ mr]
  simp [up2]
theorem sp_44_6 {G : Gt} {n0 : Nat} {mi : Nat → Nat → Int} {mr : Nat → Nat → Nat}  (z : Int) : va_up (σ G n0 mi mr) 44 (.inr (0, List.set [.ref (n0 + 1), .ref (n0 + 45), .ref (n0 + 47), .ref (n0 + 49), .ref (n0 + mr 44 4), .ref (n0 + mr 44 5), .int (jI (mi 44 6))] 6 (.int (jI z)))) = σ G n0 (up2 mi 44 6 z) mr := by
  refine σ_up ?_ (fun a ha => ⟨up2_k mi 44 6 z ha, rfl⟩)
  rw [σ_44 G n0 _ mr]
  simp [up2]
theorem sp_bs_2 {G : Gt} {n0 : Nat} {mi : Nat → Nat → Int} {mr : Nat → Nat → Nat} {k : Nat} (h : isBs k) (z : Int) : va_up (σ G n0 mi mr) k (.inr (1, List.set [.ref (n0 + (k + 1)), .ref (n0 + (k + 2)), .int (jI (mi k 2)), .int (jI (mi k 3))] 2 (.int (jI z)))) = σ G n0 (up2 mi k 2 z) mr := by
  refine σ_up ?_ (fun a ha => ⟨up2_k mi k 2 z ha, rfl⟩)
  rw [σ_bs G n0 _ mr h]
  simp [up2]
theorem sp_bs_3 {G : Gt} {n0 : Nat} {mi : Nat → Nat → Int} {mr : Nat → Nat → Nat} {k : Nat} (h : isBs k) (z : Int) : va_up (σ G n0 mi mr) k (.inr (1, List.set [.ref (n0 + (k + 1)), .ref (n0 + (k + 2)), .int (jI (mi k 2)), .int (jI (mi k 3))] 3 (.int (jI z)))) = σ G n0 (up2 mi k 3 z) mr := by
  refine σ_up ?_ (fun a ha => ⟨up2_k mi k 3 z ha, rfl⟩)
  rw [σ_bs G n0 _ mr h]
  simp [up2]
theorem sp_461_9 {G : Gt} {n0 : Nat} {mi : Nat → Nat → Int} {mr : Nat → Nat → Nat}  (z : Int) : va_up (σ G n0 mi mr) 461 (.inr (4, List.set [.ref (n0 + 1), .ref (n0 + 462), .ref (n0 + 464), .ref (n0 + 466), .ref (n0 + 467), .ref (n0 + 468), .ref (n0 + 469), .ref (n0 + 471), .ref (n0 + 472), .int (jI (mi 461 9)), .int (jI (mi 461 10)), .int (jI (mi 461 11)), .int (jI (mi 461 12))] 9 (.int (jI z)))) = σ G n0 (up2 mi 461 9 z) mr := by
  refine σ_up ?_ (fun a ha => ⟨up2_k mi 461 9 z ha, rfl⟩)
  rw [σ_461 G n0 _ mr]
  simp [up2]
theorem sp_461_10 {G : Gt} {n0 : Nat} {mi : Nat → Nat → Int} {mr : Nat → Nat → Nat}  (z : Int) : va_up (σ G n0 mi mr) 461 (.inr (4, List.set [.ref (n0 + 1), .ref (n0 + 462), .ref (n0 + 464), .ref (n0 + 466), .ref (n0 + 467), .ref (n0 + 468), .ref (n0 + 469), .ref (n0 + 471), .ref (n0 + 472), .int (jI (mi 461 9)), .int (jI (mi 461 10)), .int (jI (mi 461 11)), .int (jI (mi 461 12))] 10 (.int (jI z)))) = σ G n0 (up2 mi 461 10 z) mr := by
  refine σ_up ?_ (fun a ha => ⟨up2_k mi 461 10 z ha, rfl⟩)
  rw [σ_461 G n0 _ mr]
  simp [up2]
theorem sp_461_11 {G : Gt} {n0 : Nat} {mi : Nat → Nat → Int} {mr : Nat → Nat → Nat}  (z : Int) : va_up (σ G n0 mi mr) 461 (.inr (4, List.set [.ref (n0 + 1), .ref (n0 + 462), .ref (n0 + 464), .ref (n0 + 466), .ref (n0 + 467), .ref (n0 + 468), .ref (n0 + 469), .ref (n0 + 471), .ref (n0 + 472), .int (jI (mi 461 9)), .int (jI (mi 461 10)), .int (jI (mi 461 11)), .int (jI (mi 461 12))] 11 (.int (jI z)))) = σ G n0 (up2 mi 461 11 z) mr := by
  refine σ_up ?_ (fun a ha => ⟨up2_k mi 461 11 z ha, rfl⟩)
  rw [σ_461 G n0 _ mr]
  simp [up2]
theorem sp_461_12 {G : Gt} {n0 : Nat} {mi : Nat → Nat → Int} {mr : Nat → Nat → Nat}  (z : Int) : va_up (σ G n0 mi mr) 461 (.inr (4, List.set [.ref (n0 + 1), .ref (n0 + 462), .ref (n0 + 464), .ref (n0 + 466), .ref (n0 + 467), .ref (n0 + 468), .ref (n0 + 469), .ref (n0 + 471), .ref (n0 + 472), .int (jI (mi 461 9)), .int (jI (mi 461 10)), .int (jI (mi 461 11)), .int (jI (mi 461 12))] 12 (.int (jI z)))) = σ G n0 (up2 mi 461 12 z) mr := by
  refine σ_up ?_ (fun a ha => ⟨up2_k mi 461 12 z ha, rfl⟩)
  rw [σ_461 G n0 _ mr]
  simp [up2]
theorem sp_473_0 {G : Gt} {n0 : Nat} {mi : Nat → Nat → Int} {mr : Nat → Nat → Nat}  (z : Int) : va_up (σ G n0 mi mr) 473 (.inr (8, List.set [.int (jI (mi 473 0)), .int (jI (mi 473 1)), .int (jI (mi 473 2)), .int (jI (mi 473 3)), .ref (n0 + 474), .ref (n0 + 475), .ref (n0 + 476), .ref (n0 + 477), .ref (n0 + 478), .ref (n0 + 479), .ref (n0 + 480), .int (jI (mi 473 11)), .ref (n0 + 481), .ref (n0 + 482), .int (jI (mi 473 14)), .int (jI (mi 473 15)), .int (jI (mi 473 16)), .ref (n0 + 483), .int (jI (mi 473 18)), .ref (n0 + 484), .ref (n0 + 485), .ref (n0 + 486), .ref (n0 + 487), .int (jI (mi 473 23)), .ref (n0 + 488), .ref (n0 + 489), .ref (n0 + 490), .ref (n0 + 491)] 0 (.int (jI z)))) = σ G n0 (up2 mi 473 0 z) mr := by
  refine σ_up ?_ (fun a ha => ⟨up2_k mi 473 0 z ha, rfl⟩)
  rw [σ_473 G n0 _ mr]
  simp [up2]
theorem sp_473_1 {G : Gt} {n0 : Nat} {mi : Nat → Nat → Int} {mr : Nat → Nat → Nat}  (z : Int) : va_up (σ G n0 mi mr) 473 (.inr (8, List.set [.int (jI (mi 473 0)), .int (jI (mi 473 1)), .int (jI (mi 473 2)), .int (jI (mi 473 3)), .ref (n0 + 474), .ref (n0 + 475), .ref (n0 + 476), .ref (n0 + 477), .ref (n0 + 478), .ref (n0 + 479), .ref (n0 + 480), .int (jI (mi 473 11)), .ref (n0 + 481), .ref (n0 + 482), .int (jI (mi 473 14)), .int (jI (mi 473 15)), .int (jI (mi 473 16)), .ref (n0 + 483), .int (jI (mi 473 18)), .ref (n0 + 484), .ref (n0 + 485), .ref (n0 + 486), .ref (n0 + 487), .int (jI (mi 473 23)), .ref (n0 + 488), .ref (n0 + 489), .ref (n0 + 490), .ref (n0 + 491)] 1 (.int (jI z)))) = σ G n0 (up2 mi 473 1 z) mr := by
  refine σ_up ?_ (fun a ha => ⟨up2_k mi 473 1 z ha, rfl⟩)
  rw [σ_473 G n0 _ mr]
  simp [up2]
theorem sp_473_2 {G : Gt} {n0 : Nat} {mi : Nat → Nat → Int} {mr : Nat → Nat → Nat}  (z : Int) : va_up (σ G n0 mi mr) 473 (.inr (8, List.set [.int (jI (mi 473 0)), .int (jI (mi 473 1)), .int (jI (mi 473 2)), .int (jI (mi 473 3)), .ref (n0 + 474), .ref (n0 + 475), .ref (n0 + 476), .ref (n0 + 477), .ref (n0 + 478), .ref (n0 + 479), .ref (n0 + 480), .int (jI (mi 473 11)), .ref (n0 + 481), .ref (n0 + 482), .int (jI (mi 473 14)), .int (jI (mi 473 15)), .int (jI (mi 473 16)), .ref (n0 + 483), .int (jI (mi 473 18)), .ref (n0 + 484), .ref (n0 + 485), .ref (n0 + 486), .ref (n0 + 487), .int (jI (mi 473 23)), .ref (n0 + 488), .ref (n0 + 489), .ref (n0 + 490), .ref (n0 + 491)] 2 (.int (jI z)))) = σ G n0 (up2 mi 473 2 z) mr := by
  refine σ_up ?_ (fun a ha => ⟨up2_k mi 473 2 z ha, rfl⟩)
  rw [σ_473 G n0 _ mr]
  simp [up2]
theorem sp_473_3 {G : Gt} {n0 : Nat} {mi : Nat → Nat → Int} {mr : Nat → Nat → Nat}  (z : Int) : va_up (σ G n0 mi mr) 473 (.inr (8, List.set [.int (jI (mi 473 0)), .int (jI (mi 473 1)), .int (jI (mi 473 2)), .int (jI (mi 473 3)), .ref (n0 + 474), .ref (n0 + 475), .ref (n0 + 476), .ref (n0 + 477), .ref (n0 + 478), .ref (n0 + 479), .ref (n0 + 480), .int (jI (mi 473 11)), .ref (n0 + 481), .ref (n0 + 482), .int (jI (mi 473 14)), .int (jI (mi 473 15)), .int (jI (mi 473 16)), .ref (n0 + 483), .int (jI (mi 473 18)), .ref (n0 + 484), .ref (n0 + 485), .ref (n0 + 486), .ref (n0 + 487), .int (jI (mi 473 23)), .ref (n0 + 488), .ref (n0 + 489), .ref (n0 + 490), .ref (n0 + 491)] 3 (.int (jI z)))) = σ G n0 (up2 mi 473 3 z) mr := by
  refine σ_up ?_ (fun a ha => ⟨up2_k mi 473 3 z ha, rfl⟩)
  rw [σ_473 G n0 _ mr]
  simp [up2]
theorem sp_473_11 {G : Gt} {n0 : Nat} {mi : Nat → Nat → Int} {mr : Nat → Nat → Nat}  (z : Int) : va_up (σ G n0 mi mr) 473 (.inr (8, List.set [.int (jI (mi 473 0)), .int (jI (mi 473 1)), .int (jI (mi 473 2)), .int (jI (mi 473 3)), .ref (n0 + 474), .ref (n0 + 475), .ref (n0 + 476), .ref (n0 + 477), .ref (n0 + 478), .ref (n0 + 479), .ref (n0 + 480), .int (jI (mi 473 11)), .ref (n0 + 481), .ref (n0 + 482), .int (jI (mi 473 14)), .int (jI (mi 473 15)), .int (jI (mi 473 16)), .ref (n0 + 483), .int (jI (mi 473 18)), .ref (n0 + 484), .ref (n0 + 485), .ref (n0 + 486), .ref (n0 + 487), .int (jI (mi 473 23)), .ref (n0 + 488), .ref (n0 + 489), .ref (n0 + 490), .ref (n0 + 491)] 11 (.int (jI z)))) = σ G n0 (up2 mi 473 11 z) mr := by
  refine σ_up ?_ (fun a ha => ⟨up2_k mi 473 11 z ha, rfl⟩)
  rw [σ_473 G n0 _ mr]
  simp [up2]
theorem sp_473_14 {G : Gt} {n0 : Nat} {mi : Nat → Nat → Int} {mr : Nat → Nat → Nat}  (z : Int) : va_up (σ G n0 mi mr) 473 (.inr (8, List.set [.int (jI (mi 473 0)), .int (jI (mi 473 1)), .int (jI (mi 473 2)), .int (jI (mi 473 3)), .ref (n0 + 474), .ref (n0 + 475), .ref (n0 + 476), .ref (n0 + 477), .ref (n0 + 478), .ref (n0 + 479), .ref (n0 + 480), .int (jI (mi 473 11)), .ref (n0 + 481), .ref (n0 + 482), .int (jI (mi 473 14)), .int (jI (mi 473 15)), .int (jI (mi 473 16)), .ref (n0 + 483), .int (jI (mi 473 18)), .ref (n0 + 484), .ref (n0 + 485), .ref (n0 + 486), .ref (n0 + 487), .int (jI (mi 473 23)), .ref (n0 + 488), .ref (n0 + 489), .ref (n0 + 490), .ref (n0 + 491)] 14 (.int (jI z)))) = σ G n0 (up2 mi 473 14 z) mr := by
  refine σ_up ?_ (fun a ha => ⟨up2_k mi 473 14 z ha, rfl⟩)
  rw [σ_473 G n0 _ mr]
  simp [up2]
theorem sp_473_15 {G : Gt} {n0 : Nat} {mi : Nat → Nat → Int} {mr : Nat → Nat → Nat}  (z : Int) : va_up (σ G n0 mi mr) 473 (.inr (8, List.set [.int (jI (mi 473 0)), .int (jI (mi 473 1)), .int (jI (mi 473 2)), .int (jI (mi 473 3)), .ref (n0 + 474), .ref (n0 + 475), .ref (n0 + 476), .ref (n0 + 477), .ref (n0 + 478), .ref (n0 + 479), .ref (n0 + 480), .int (jI (mi 473 11)), .ref (n0 + 481), .ref (n0 + 482), .int (jI (mi 473 14)), .int (jI (mi 473 15)), .int (jI (mi 473 16)), .ref (n0 + 483), .int (jI (mi 473 18)), .ref (n0 + 484), .ref (n0 + 485), .ref (n0 + 486), .ref (n0 + 487), .int (jI (mi 473 23)), .ref (n0 + 488), .ref (n0 + 489), .ref (n0 + 490), .ref (n0 + 491)] 15 (.int (jI z)))) = σ G n0 (up2 mi 473 15 z) mr := by
  refine σ_up ?_ (fun a ha => ⟨up2_k mi 473 15 z ha, rfl⟩)
  rw [σ_473 G n0 _ mr]
  simp [up2]
theorem sp_473_16 {G : Gt} {n0 : Nat} {mi : Nat → Nat → Int} {mr : Nat → Nat → Nat}  (z : Int) : va_up (σ G n0 mi mr) 473 (.inr (8, List.set [.int (jI (mi 473 0)), .int (jI (mi 473 1)), .int (jI (mi 473 2)), .int (jI (mi 473 3)), .ref (n0 + 474), .ref (n0 + 475), .ref (n0 + 476), .ref (n0 + 477), .ref (n0 + 478), .ref (n0 + 479), .ref (n0 + 480), .int (jI (mi 473 11)), .ref (n0 + 481), .ref (n0 + 482), .int (jI (mi 473 14)), .int (jI (mi 473 15)), .int (jI (mi 473 16)), .ref (n0 + 483), .int (jI (mi 473 18)), .ref (n0 + 484), .ref (n0 + 485), .ref (n0 + 486), .ref (n0 + 487), .int (jI (mi 473 23)), .ref (n0 + 488), .ref (n0 + 489), .ref (n0 + 490), .ref (n0 + 491)] 16 (.int (jI z)))) = σ G n0 (up2 mi 473 16 z) mr := by
  refine σ_up ?_ (fun a ha => ⟨up2_k mi 473 16 z ha, rfl⟩)
  rw [σ_473 G n0 _ mr]
  simp [up2]
theorem sp_473_18 {G : Gt} {n0 : Nat} {mi : Nat → Nat → Int} {mr : Nat → Nat → Nat}  (z : Int) : va_up (σ G n0 mi mr) 473 (.inr (8, List.set [.int (jI (mi 473 0)), .int (jI (mi 473 1)), .int (jI (mi 473 2)), .int (jI (mi 473 3)), .ref (n0 + 474), .ref (n0 + 475), .ref (n0 + 476), .ref (n0 + 477), .ref (n0 + 478), .ref (n0 + 479), .ref (n0 + 480), .int (jI (mi 473 11)), .ref (n0 + 481), .ref (n0 + 482), .int (jI (mi 473 14)), .int (jI (mi 473 15)), .int (jI (mi 473 16)), .ref (n0 + 483), .int (jI (mi 473 18)), .ref (n0 + 484), .ref (n0 + 485), .ref (n0 + 486), .ref (n0 + 487), .int (jI (mi 473 23)), .ref (n0 + 488), .ref (n0 + 489), .ref (n0 + 490), .ref (n0 + 491)] 18 (.int (jI z)))) = σ G n0 (up2 mi 473 18 z) mr := by
  refine σ_up ?_ (fun a ha => ⟨up2_k mi 473 18 z ha, rfl⟩)
  rw [σ_473 G n0 _ mr]
  simp [up2]
theorem sp_473_23 {G : Gt} {n0 : Nat} {mi : Nat → Nat → Int} {mr : Nat → Nat → Nat}  (z : Int) : va_up (σ G n0 mi mr) 473 (.inr (8, List.set [.int (jI (mi 473 0)), .int (jI (mi 473 1)), .int (jI (mi 473 2)), .int (jI (mi 473 3)), .ref (n0 + 474), .ref (n0 + 475), .ref (n0 + 476), .ref (n0 + 477), .ref (n0 + 478), .ref (n0 + 479), .ref (n0 + 480), .int (jI (mi 473 11)), .ref (n0 + 481), .ref (n0 + 482), .int (jI (mi 473 14)), .int (jI (mi 473 15)), .int (jI (mi 473 16)), .ref (n0 + 483), .int (jI (mi 473 18)), .ref (n0 + 484), .ref (n0 + 485), .ref (n0 + 486), .ref (n0 + 487), .int (jI (mi 473 23)), .ref (n0 + 488), .ref (n0 + 489), .ref (n0 + 490), .ref (n0 + 491)] 23 (.int (jI z)))) = σ G n0 (up2 mi 473 23 z) mr := by
  refine σ_up ?_ (fun a ha => ⟨up2_k mi 473 23 z ha, rfl⟩)
  rw [σ_473 G n0 _ mr]
  simp [up2]
theorem sp_ru_1 {G : Gt} {n0 : Nat} {mi : Nat → Nat → Int} {mr : Nat → Nat → Nat} {k : Nat} (h : isRu k) (z : Int) : va_up (σ G n0 mi mr) k (.inr (6, List.set [.ref (n0 + (k + 1)), .int (jI (mi k 1)), .int (jI (mi k 2)), .int (jI (mi k 3)), .int (jI (mi k 4)), .int (jI (mi k 5)), .int (jI (mi k 6)), .int (jI (mi k 7))] 1 (.int (jI z)))) = σ G n0 (up2 mi k 1 z) mr := by
  refine σ_up ?_ (fun a ha => ⟨up2_k mi k 1 z ha, rfl⟩)
  rw [σ_ru G n0 _ mr h]
  simp [up2]
theorem sp_ru_2 {G : Gt} {n0 : Nat} {mi : Nat → Nat → Int} {mr : Nat → Nat → Nat} {k : Nat} (h : isRu k) (z : Int) : va_up (σ G n0 mi mr) k (.inr (6, List.set [.ref (n0 + (k + 1)), .int (jI (mi k 1)), .int (jI (mi k 2)), .int (jI (mi k 3)), .int (jI (mi k 4)), .int (jI (mi k 5)), .int (jI (mi k 6)), .int (jI (mi k 7))] 2 (.int (jI z)))) = σ G n0 (up2 mi k 2 z) mr := by
  refine σ_up ?_ (fun a ha => ⟨up2_k mi k 2 z ha, rfl⟩)
  rw [σ_ru G n0 _ mr h]
  simp [up2]
theorem sp_ru_3 {G : Gt} {n0 : Nat} {mi : Nat → Nat → Int} {mr : Nat → Nat → Nat} {k : Nat} (h : isRu k) (z : Int) : va_up (σ G n0 mi mr) k (.inr (6, List.set [.ref (n0 + (k + 1)), .int (jI (mi k 1)), .int (jI (mi k 2)), .int (jI (mi k 3)), .int (jI (mi k 4)), .int (jI (mi k 5)), .int (jI (mi k 6)), .int (jI (mi k 7))] 3 (.int (jI z)))) = σ G n0 (up2 mi k 3 z) mr := by
  refine σ_up ?_ (fun a ha => ⟨up2_k mi k 3 z ha, rfl⟩)
  rw [σ_ru G n0 _ mr h]
  simp [up2]
theorem sp_ru_4 {G : Gt} {n0 : Nat} {mi : Nat → Nat → Int} {mr : Nat → Nat → Nat} {k : Nat} (h : isRu k) (z : Int) : va_up (σ G n0 mi mr) k (.inr (6, List.set [.ref (n0 + (k + 1)), .int (jI (mi k 1)), .int (jI (mi k 2)), .int (jI (mi k 3)), .int (jI (mi k 4)), .int (jI (mi k 5)), .int (jI (mi k 6)), .int (jI (mi k 7))] 4 (.int (jI z)))) = σ G n0 (up2 mi k 4 z) mr := by
  refine σ_up ?_ (fun a ha => ⟨up2_k mi k 4 z ha, rfl⟩)
  rw [σ_ru G n0 _ mr h]
  simp [up2]
theorem sp_ru_5 {G : Gt} {n0 : Nat} {mi : Nat → Nat → Int} {mr : Nat → Nat → Nat} {k : Nat} (h : isRu k) (z : Int) : va_up (σ G n0 mi mr) k (.inr (6, List.set [.ref (n0 + (k + 1)), .int (jI (mi k 1)), .int (jI (mi k 2)), .int (jI (mi k 3)), .int (jI (mi k 4)), .int (jI (mi k 5)), .int (jI (mi k 6)), .int (jI (mi k 7))] 5 (.int (jI z)))) = σ G n0 (up2 mi k 5 z) mr := by
  refine σ_up ?_ (fun a ha => ⟨up2_k mi k 5 z ha, rfl⟩)
  rw [σ_ru G n0 _ mr h]
  simp [up2]
theorem sp_ru_6 {G : Gt} {n0 : Nat} {mi : Nat → Nat → Int} {mr : Nat → Nat → Nat} {k : Nat} (h : isRu k) (z : Int) : va_up (σ G n0 mi mr) k (.inr (6, List.set [.ref (n0 + (k + 1)), .int (jI (mi k 1)), .int (jI (mi k 2)), .int (jI (mi k 3)), .int (jI (mi k 4)), .int (jI (mi k 5)), .int (jI (mi k 6)), .int (jI (mi k 7))] 6 (.int (jI z)))) = σ G n0 (up2 mi k 6 z) mr := by
  refine σ_up ?_ (fun a ha => ⟨up2_k mi k 6 z ha, rfl⟩)
  rw [σ_ru G n0 _ mr h]
  simp [up2]
theorem sp_ru_7 {G : Gt} {n0 : Nat} {mi : Nat → Nat → Int} {mr : Nat → Nat → Nat} {k : Nat} (h : isRu k) (z : Int) : va_up (σ G n0 mi mr) k (.inr (6, List.set [.ref (n0 + (k + 1)), .int (jI (mi k 1)), .int (jI (mi k 2)), .int (jI (mi k 3)), .int (jI (mi k 4)), .int (jI (mi k 5)), .int (jI (mi k 6)), .int (jI (mi k 7))] 7 (.int (jI z)))) = σ G n0 (up2 mi k 7 z) mr := by
  refine σ_up ?_ (fun a ha => ⟨up2_k mi k 7 z ha, rfl⟩)
  rw [σ_ru G n0 _ mr h]
  simp [up2]
theorem sq_44_4 {G : Gt} {n0 : Nat} {mi : Nat → Nat → Int} {mr : Nat → Nat → Nat} (z : Nat) : va_up (σ G n0 mi mr) 44 (.inr (0, List.set [.ref (n0 + 1), .ref (n0 + 45), .ref (n0 + 47), .ref (n0 + 49), .ref (n0 + mr 44 4), .ref (n0 + mr 44 5), .int (jI (mi 44 6))] 4 (.ref (n0 + z)))) = σ G n0 mi (up2 mr 44 4 z) := by
  refine σ_up ?_ (fun a ha => ⟨rfl, up2_k mr 44 4 z ha⟩)
  rw [σ_44]
  simp [up2]
theorem sq_44_5 {G : Gt} {n0 : Nat} {mi : Nat → Nat → Int} {mr : Nat → Nat → Nat} (z : Nat) : va_up (σ G n0 mi mr) 44 (.inr (0, List.set [.ref (n0 + 1), .ref (n0 + 45), .ref (n0 + 47), .ref (n0 + 49), .ref (n0 + mr 44 4), .ref (n0 + mr 44 5), .int (jI (mi 44 6))] 5 (.ref (n0 + z)))) = σ G n0 mi (up2 mr 44 5 z) := by
  refine σ_up ?_ (fun a ha => ⟨rfl, up2_k mr 44 5 z ha⟩)
  rw [σ_44]
  simp [up2]
/-! contracts and rows over it -/
def Pi (G : Gt) (n0 : Nat) (post : Int → (Nat → Nat → Int) → (Nat → Nat → Nat) → Prop) : Option Value → Nat → (Nat → va_E) → Prop := fun v N f => ∃ (r : Int) (mi' : Nat → Nat → Int) (mr' : Nat → Nat → Nat), v = some (.int (jI r)) ∧ N = 492 ∧ f = σ G n0 mi' mr' ∧ post r mi' mr'
def Pv (G : Gt) (n0 : Nat) (post : (Nat → Nat → Int) → (Nat → Nat → Nat) → Prop) : Option Value → Nat → (Nat → va_E) → Prop := fun v N f => ∃ (mi' : Nat → Nat → Int) (mr' : Nat → Nat → Nat), v = none ∧ N = 492 ∧ f = σ G n0 mi' mr' ∧ post mi' mr'
def Ci (l : Launch) (y : MethodName) (b : ByteArray) (nL : Nat) (ret : FieldType) (lv : Nat) (G : Gt) (n0 : Nat) (av : List Value) (mi : Nat → Nat → Int) (mr : Nat → Nat → Nat) (post : Int → (Nat → Nat → Int) → (Nat → Nat → Nat) → Prop) : Prop := Ct l y b nL (some ret) lv 0 0 G n0 av 492 (σ G n0 mi mr) (Pi G n0 post)
def Cv (l : Launch) (y : MethodName) (b : ByteArray) (nL : Nat) (lv : Nat) (G : Gt) (n0 : Nat) (av : List Value) (mi : Nat → Nat → Int) (mr : Nat → Nat → Nat) (post : (Nat → Nat → Int) → (Nat → Nat → Nat) → Prop) : Prop := Ct l y b nL none lv 0 0 G n0 av 492 (σ G n0 mi mr) (Pv G n0 post)
section SRows
variable {p : Program} {l : Launch} {e : Env} {R : Room} {s : State} {m : MethodId} {args : Array Value} {below : List Frame} {meth : Method} {c : Code} {Q : State → Prop} {G : Gt} {n0 nL : Nat} {mi : Nat → Nat → Int} {mr : Nat → Nat → Nat} {cells slots pc : Nat} {L : List (Option Value)} {st : List Value} {cc : ByteArray} {own : String}
theorem s_iald (X : Cx G n0 p s m args meth c cc own nL) {k n : Nat} {z : Int} (j : Nat) (hk : k < 492) (he : ∀ mi', σ G n0 mi' mr k = .inl (G.2 0, n, .inl (fun j => jI (mi' k j)))) (hd : decode cc pc = .ok (.iaload, 1)) (kk : WW p l e R s m args below meth c Q G n0 nL 492 (σ G n0 mi mr) cells slots (pc + 1) L (.int (jI (mi k j)) :: st)) (hz : 0 ≤ z ∧ z < n := by omega) (hj : z.toNat = j := by omega) (hn : n < 2147483648 := by decide) : WW p l e R s m args below meth c Q G n0 nL 492 (σ G n0 mi mr) cells slots pc L (.int (jI z) :: .ref (n0 + k) :: st) := by
  subst hj
  exact w_iald X hk (he mi) hd kk hz hn
theorem s_zald (X : Cx G n0 p s m args meth c cc own nL) {k n : Nat} {z : Int} (j : Nat) (hk : k < 492) (he : ∀ mi', σ G n0 mi' mr k = .inl (G.2 1, n, .inl (fun j => jI (mi' k j)))) (hd : decode cc pc = .ok (.baload, 1)) (kk : WW p l e R s m args below meth c Q G n0 nL 492 (σ G n0 mi mr) cells slots (pc + 1) L (.int (jI (mi k j)) :: st)) (hz : 0 ≤ z ∧ z < n := by omega) (hj : z.toNat = j := by omega) (hn : n < 2147483648 := by decide) : WW p l e R s m args below meth c Q G n0 nL 492 (σ G n0 mi mr) cells slots pc L (.int (jI z) :: .ref (n0 + k) :: st) := by
  subst hj
  exact w_zald X hk (he mi) hd kk hz hn
theorem s_iast (X : Cx G n0 p s m args meth c cc own nL) {k n : Nat} {z x : Int} (j : Nat) (hk : k < 492) (he : ∀ mi', σ G n0 mi' mr k = .inl (G.2 0, n, .inl (fun j => jI (mi' k j)))) (hd : decode cc pc = .ok (.iastore, 1)) (kk : WW p l e R s m args below meth c Q G n0 nL 492 (σ G n0 (up2 mi k j x) mr) cells slots (pc + 1) L st) (hz : 0 ≤ z ∧ z < n := by omega) (hj : z.toNat = j := by omega) (hn : n < 2147483648 := by decide) : WW p l e R s m args below meth c Q G n0 nL 492 (σ G n0 mi mr) cells slots pc L (.int (jI x) :: .int (jI z) :: .ref (n0 + k) :: st) := by
  subst hj
  exact w_iast X hk (he mi) hd (WW.eqf (σ_iast he z.toNat x) kk) hz hn
theorem s_zast (X : Cx G n0 p s m args meth c cc own nL) {k n : Nat} {z x : Int} (j : Nat) (hk : k < 492) (he : ∀ mi', σ G n0 mi' mr k = .inl (G.2 1, n, .inl (fun j => jI (mi' k j)))) (hx : x = 0 ∨ x = 1) (hd : decode cc pc = .ok (.bastore, 1)) (kk : WW p l e R s m args below meth c Q G n0 nL 492 (σ G n0 (up2 mi k j x) mr) cells slots (pc + 1) L st) (hz : 0 ≤ z ∧ z < n := by omega) (hj : z.toNat = j := by omega) (hn : n < 2147483648 := by decide) : WW p l e R s m args below meth c Q G n0 nL 492 (σ G n0 mi mr) cells slots pc L (.int (jI x) :: .int (jI z) :: .ref (n0 + k) :: st) := by
  subst hj
  exact w_zast X hk (he mi) (by rcases hx with rfl | rfl <;> rfl) hd (WW.eqf (σ_iast he z.toNat x) kk) hz hn
theorem s_aald (X : Cx G n0 p s m args meth c cc own nL) {k n t : Nat} {C : String} {g : Nat → Nat} {z : Int} (j : Nat) (hk : k < 492) (he : σ G n0 mi mr k = .inl (G.2 t, n, .inr (.inr (.inr (.inr (fun j => some (n0 + g j))))))) (ht : (tyG G)[t]? = some (G.2 t, .object C)) (hd : decode cc pc = .ok (.aaload, 1)) (kk : WW p l e R s m args below meth c Q G n0 nL 492 (σ G n0 mi mr) cells slots (pc + 1) L (.ref (n0 + g j) :: st)) (hz : 0 ≤ z ∧ z < n := by omega) (hj : z.toNat = j := by omega) (hn : n < 2147483648 := by decide) : WW p l e R s m args below meth c Q G n0 nL 492 (σ G n0 mi mr) cells slots pc L (.int (jI z) :: .ref (n0 + k) :: st) := by
  subst hj
  exact w_aald X hk he ht hd rfl kk hz hn
theorem s_aast (X : Cx G n0 p s m args meth c cc own nL) {k k2 n t ci : Nat} {r : vw_C} {vs : List Value} {z : Int} (j : Nat) (hk : k < 492) (hk2 : k2 < 492) (he : ∀ mr', σ G n0 mi mr' k = .inl (G.2 t, n, .inr (.inr (.inr (.inr (fun j => some (n0 + mr' k j))))))) (ht : (tyG G)[t]? = some (G.2 t, .object r.1)) (hv : σ G n0 mi mr k2 = .inr (ci, vs)) (hc : vwCl[ci]? = some r) (hd : decode cc pc = .ok (.aastore, 1)) (kk : WW p l e R s m args below meth c Q G n0 nL 492 (σ G n0 mi (up2 mr k j k2)) cells slots (pc + 1) L st) (hz : 0 ≤ z ∧ z < n := by omega) (hj : z.toNat = j := by omega) (hn : n < 2147483648 := by decide) : WW p l e R s m args below meth c Q G n0 nL 492 (σ G n0 mi mr) cells slots pc L (.ref (n0 + k2) :: .int (jI z) :: .ref (n0 + k) :: st) := by
  subst hj
  exact w_aast X hk hk2 (he mr) ht hv hc hd (WW.eqf (σ_aast he z.toNat k2) kk) hz hn
theorem s_callVi (X : Cx G n0 p s m args meth c cc own nL) {y : MethodName} {b : ByteArray} {nL' lv k ci index : Nat} {ret : FieldType} {rest : List Value} {fs : List Value} {T' : u_T} {n' : Nat} {post : Int → (Nat → Nat → Int) → (Nat → Nat → Nat) → Prop} (As : List Value) (hC : Ci l y b nL' ret lv G n0 (.ref (n0 + k) :: As) mi mr post) (hl : Cond.methodLink own index y ∈ lw_w) (hi : Cond.instanceMethod y ∈ lw_w) (hse : Cond.selects y.cls y y ∈ lw_w) (hini : Cond.initialized y.cls ∈ lw_w) (hco : Cond.code y b nL' (some ret) ∈ lw_w) (hk : k < 492) (he : σ G n0 mi mr k = .inr (ci, fs)) (hc : vwCl[ci]? = some (y.cls, T', n')) (hd : decode cc pc = .ok (.invokevirtual index, 3)) (hlen : (y.cls ≠ "java/lang/invoke/MethodHandle" ∧ y.cls ≠ "java/lang/invoke/VarHandle") ∧ (parseMethodDescriptor y.desc).map (fun d => d.parameters.length) = some As.length) (hR : lv + 1 ≤ R.frames ∧ 8 + (nL' + 11) + 40 * lv ≤ R.locals) (hrest : (rest.map fun v => v.category).sum ≤ 8) (hst : st = As.reverse ++ .ref (n0 + k) :: rest)
    (kk : ∀ (r : Int) (mi' : Nat → Nat → Int) (mr' : Nat → Nat → Nat), post r mi' mr' → WW p l e R s m args below meth c Q G n0 nL 492 (σ G n0 mi' mr') cells slots (pc + 3) L (.int (jI r) :: rest)) (hcs : cells ≤ R.cells ∧ slots ≤ R.slots := by exact ⟨Nat.zero_le _, Nat.zero_le _⟩) : WW p l e R s m args below meth c Q G n0 nL 492 (σ G n0 mi mr) cells slots pc L st :=
  w_callV X hC hl hi hse hini hco hk he hc hd hlen hR hcs hrest hst (fun v N' f' h => by obtain ⟨r, mi', mr', rfl, rfl, rfl, h⟩ := h; exact kk r mi' mr' h)
theorem s_callVv (X : Cx G n0 p s m args meth c cc own nL) {y : MethodName} {b : ByteArray} {nL' lv k ci index : Nat} {rest : List Value} {fs : List Value} {T' : u_T} {n' : Nat} {post : (Nat → Nat → Int) → (Nat → Nat → Nat) → Prop} (As : List Value) (hC : Cv l y b nL' lv G n0 (.ref (n0 + k) :: As) mi mr post) (hl : Cond.methodLink own index y ∈ lw_w) (hi : Cond.instanceMethod y ∈ lw_w) (hse : Cond.selects y.cls y y ∈ lw_w) (hini : Cond.initialized y.cls ∈ lw_w) (hco : Cond.code y b nL' none ∈ lw_w) (hk : k < 492) (he : σ G n0 mi mr k = .inr (ci, fs)) (hc : vwCl[ci]? = some (y.cls, T', n')) (hd : decode cc pc = .ok (.invokevirtual index, 3)) (hlen : (y.cls ≠ "java/lang/invoke/MethodHandle" ∧ y.cls ≠ "java/lang/invoke/VarHandle") ∧ (parseMethodDescriptor y.desc).map (fun d => d.parameters.length) = some As.length) (hR : lv + 1 ≤ R.frames ∧ 8 + (nL' + 11) + 40 * lv ≤ R.locals) (hrest : (rest.map fun v => v.category).sum ≤ 8) (hst : st = As.reverse ++ .ref (n0 + k) :: rest)
    (kk : ∀ (mi' : Nat → Nat → Int) (mr' : Nat → Nat → Nat), post mi' mr' → WW p l e R s m args below meth c Q G n0 nL 492 (σ G n0 mi' mr') cells slots (pc + 3) L rest) (hcs : cells ≤ R.cells ∧ slots ≤ R.slots := by exact ⟨Nat.zero_le _, Nat.zero_le _⟩) : WW p l e R s m args below meth c Q G n0 nL 492 (σ G n0 mi mr) cells slots pc L st :=
  w_callV X hC hl hi hse hini hco hk he hc hd hlen hR hcs hrest hst (fun v N' f' h => by obtain ⟨mi', mr', rfl, rfl, rfl, h⟩ := h; exact kk mi' mr' h)
theorem s_callSi (X : Cx G n0 p s m args meth c cc own nL) {y : MethodName} {b : ByteArray} {nL' lv index : Nat} {ret : FieldType} {rest : List Value} {post : Int → (Nat → Nat → Int) → (Nat → Nat → Nat) → Prop} (As : List Value) (hC : Ci l y b nL' ret lv G n0 As mi mr post) (hl : Cond.methodLink own index y ∈ lw_w) (hi : Cond.static y ∈ lw_w) (hini : Cond.initialized y.cls ∈ lw_w) (hco : Cond.code y b nL' (some ret) ∈ lw_w) (hd : decode cc pc = .ok (.invokestatic index, 3)) (hlen : (y.cls ≠ "java/lang/invoke/MethodHandle" ∧ y.cls ≠ "java/lang/invoke/VarHandle") ∧ (parseMethodDescriptor y.desc).map (fun d => d.parameters.length) = some As.length) (hR : lv + 1 ≤ R.frames ∧ 8 + (nL' + 11) + 40 * lv ≤ R.locals) (hrest : (rest.map fun v => v.category).sum ≤ 8) (hst : st = As.reverse ++ rest)
    (kk : ∀ (r : Int) (mi' : Nat → Nat → Int) (mr' : Nat → Nat → Nat), post r mi' mr' → WW p l e R s m args below meth c Q G n0 nL 492 (σ G n0 mi' mr') cells slots (pc + 3) L (.int (jI r) :: rest)) (hcs : cells ≤ R.cells ∧ slots ≤ R.slots := by exact ⟨Nat.zero_le _, Nat.zero_le _⟩) : WW p l e R s m args below meth c Q G n0 nL 492 (σ G n0 mi mr) cells slots pc L st :=
  w_callS X hC hl hi hini hco hd hlen hR hcs hrest hst (fun v N' f' h => by obtain ⟨r, mi', mr', rfl, rfl, rfl, h⟩ := h; exact kk r mi' mr' h)
theorem s_iret {post : Int → (Nat → Nat → Int) → (Nat → Nat → Nat) → Prop} (X : Cx G n0 p s m args meth c cc own nL) {v : Int} (hr : meth.sig.returnType = some .int) (hd : decode cc pc = .ok (.ireturn, 1)) (hp : post v mi mr) : WW p l e R s m args below meth c (MQ below (Qx G n0 (Pi G n0 post)) args s cells slots (fun q => n0 ≤ q)) G n0 nL 492 (σ G n0 mi mr) cells slots pc L [.int (jI v)] := w_iret X hr hd ⟨v, mi, mr, rfl, rfl, rfl, hp⟩
theorem s_zret {post : Int → (Nat → Nat → Int) → (Nat → Nat → Nat) → Prop} (X : Cx G n0 p s m args meth c cc own nL) {v : Int} (hr : meth.sig.returnType = some .boolean) (hd : decode cc pc = .ok (.ireturn, 1)) (hv : v = 0 ∨ v = 1) (hp : post v mi mr) : WW p l e R s m args below meth c (MQ below (Qx G n0 (Pi G n0 post)) args s cells slots (fun q => n0 ≤ q)) G n0 nL 492 (σ G n0 mi mr) cells slots pc L [.int (jI v)] := w_zret X hr hv hd ⟨v, mi, mr, rfl, rfl, rfl, hp⟩
theorem s_vret {post : (Nat → Nat → Int) → (Nat → Nat → Nat) → Prop} (X : Cx G n0 p s m args meth c cc own nL) (hr : meth.sig.returnType = none) (hd : decode cc pc = .ok (.return_, 1)) (hp : post mi mr) : WW p l e R s m args below meth c (MQ below (Qx G n0 (Pv G n0 post)) args s cells slots (fun q => n0 ≤ q)) G n0 nL 492 (σ G n0 mi mr) cells slots pc L [] := w_vret X hr hd ⟨mi, mr, rfl, rfl, rfl, hp⟩
end SRows
abbrev WSi (p : Program) (l : Launch) (e : Env) (s : State) (m : MethodId) (args : Array Value) (below : List Frame) (meth : Method) (c : Code) (lv : Nat) (post : Int → (Nat → Nat → Int) → (Nat → Nat → Nat) → Prop) (G : Gt) (n0 nL : Nat) (mi : Nat → Nat → Int) (mr : Nat → Nat → Nat) (pc : Nat) (L : List (Option Value)) (st : List Value) : Prop := WW p l e { frames := lv, cells := 0, slots := 0, locals := 40 * lv } s m args below meth c (MQ below (Qx G n0 (Pi G n0 post)) args s 0 0 (fun q => n0 ≤ q)) G n0 nL 492 (σ G n0 mi mr) 0 0 pc L st
abbrev WSv (p : Program) (l : Launch) (e : Env) (s : State) (m : MethodId) (args : Array Value) (below : List Frame) (meth : Method) (c : Code) (lv : Nat) (post : (Nat → Nat → Int) → (Nat → Nat → Nat) → Prop) (G : Gt) (n0 nL : Nat) (mi : Nat → Nat → Int) (mr : Nat → Nat → Nat) (pc : Nat) (L : List (Option Value)) (st : List Value) : Prop := WW p l e { frames := lv, cells := 0, slots := 0, locals := 40 * lv } s m args below meth c (MQ below (Qx G n0 (Pv G n0 post)) args s 0 0 (fun q => n0 ≤ q)) G n0 nL 492 (σ G n0 mi mr) 0 0 pc L st
theorem isCr_k {c : Nat} (h : isCr c) : c < 492 := by unfold isCr at h; omega
theorem isCr_k1 {c : Nat} (h : isCr c) : c + 1 < 492 := by unfold isCr at h; omega
theorem isRu_k {c : Nat} (h : isRu c) : c < 492 := by unfold isRu at h; omega
theorem isRu_k1 {c : Nat} (h : isRu c) : c + 1 < 492 := by unfold isRu at h; omega
theorem isBs_k {c : Nat} (h : isBs c) : c < 492 := by unfold isBs at h; omega
theorem isBs_k1 {c : Nat} (h : isBs c) : c + 1 < 492 := by unfold isBs at h; omega
theorem isBs_k2 {c : Nat} (h : isBs c) : c + 2 < 492 := by unfold isBs at h; omega
theorem cr_4 : isCr 4 := by unfold isCr; omega
theorem cr_42 : isCr 42 := by unfold isCr; omega
theorem cr_47 : isCr 47 := by unfold isCr; omega
theorem cr_49 : isCr 49 := by unfold isCr; omega
theorem cr_462 : isCr 462 := by unfold isCr; omega
theorem cr_464 : isCr 464 := by unfold isCr; omega
theorem ru_2 {j : Nat} (h : j < 12) : isRu (6 + 2 * j) := by unfold isRu; omega
theorem cr_3 {j : Nat} (h : j < 6) : isCr (30 + 2 * j) := by unfold isCr; omega
/-- five places of a cell at once -/
def row5 (mi : Nat → Nat → Int) (k : Nat) (f : Nat → Int) : Nat → Nat → Int := fun a b => if a = k ∧ b < 5 then f b else mi a b
theorem row5_up (mi : Nat → Nat → Int) (k : Nat) (f : Nat → Int) : up2 (up2 (up2 (up2 (up2 mi k 0 (f 0)) k 1 (f 1)) k 2 (f 2)) k 3 (f 3)) k 4 (f 4) = row5 mi k f := by
  funext a b
  unfold row5
  simp only [up2]
  by_cases ha : a = k
  · by_cases hb : b < 5
    · rcases (show b = 0 ∨ b = 1 ∨ b = 2 ∨ b = 3 ∨ b = 4 by omega) with rfl | rfl | rfl | rfl | rfl <;> simp [ha]
    · have h0 : ¬ b = 0 := by omega
      have h1 : ¬ b = 1 := by omega
      have h2 : ¬ b = 2 := by omega
      have h3 : ¬ b = 3 := by omega
      have h4 : ¬ b = 4 := by omega
      simp [hb, h0, h1, h2, h3, h4]
  · simp [ha]
theorem row5_s {mi : Nat → Nat → Int} {k : Nat} {f : Nat → Int} {j : Nat} (h : j < 5) : row5 mi k f k j = f j := by simp [row5, h]
theorem row5_k {mi : Nat → Nat → Int} {k : Nat} {f : Nat → Int} {a : Nat} (h : a ≠ k) : row5 mi k f a = mi a := by funext b; simp [row5, h]
theorem row5_c {mi : Nat → Nat → Int} {k : Nat} {f g : Nat → Int} (h : ∀ j, j < 5 → f j = g j) : row5 mi k f = row5 mi k g := by
  funext a b
  by_cases hb : a = k ∧ b < 5
  · simp [row5, hb, h b hb.2]
  · simp [row5, hb]
/-- so many in each state, none fewer than 0 and none too many -/
def CB (mi : Nat → Nat → Int) (c : Nat) : Prop := (0 ≤ mi (c + 1) 0 ∧ mi (c + 1) 0 ≤ 1000) ∧ (0 ≤ mi (c + 1) 1 ∧ mi (c + 1) 1 ≤ 1000) ∧ (0 ≤ mi (c + 1) 2 ∧ mi (c + 1) 2 ≤ 1000) ∧ (0 ≤ mi (c + 1) 3 ∧ mi (c + 1) 3 ≤ 1000) ∧ (0 ≤ mi (c + 1) 4 ∧ mi (c + 1) 4 ≤ 1000)
theorem CB_at {mi : Nat → Nat → Int} {c : Nat} (h : CB mi c) : ∀ j : Nat, j < 5 → 0 ≤ mi (c + 1) j ∧ mi (c + 1) j ≤ 1000 := by
  intro j hj
  obtain ⟨h0, h1, h2, h3, h4⟩ := h
  rcases (show j = 0 ∨ j = 1 ∨ j = 2 ∨ j = 3 ∨ j = 4 by omega) with rfl | rfl | rfl | rfl | rfl <;> assumption
theorem CB_of {mi : Nat → Nat → Int} {c : Nat} (h : ∀ j : Nat, j < 5 → 0 ≤ mi (c + 1) j ∧ mi (c + 1) j ≤ 1000) : CB mi c := ⟨h 0 (by decide), h 1 (by decide), h 2 (by decide), h 3 (by decide), h 4 (by decide)⟩
def ge5 (u v : Nat → Int) : Prop := v 0 ≤ u 0 ∧ v 1 ≤ u 1 ∧ v 2 ≤ u 2 ∧ v 3 ≤ u 3 ∧ v 4 ≤ u 4
def sum5 (u : Nat → Int) : Int := u 0 + u 1 + u 2 + u 3 + u 4
theorem s_alen {p : Program} {l : Launch} {e : Env} {R : Room} {s : State} {m : MethodId} {args : Array Value} {below : List Frame} {meth : Method} {c : Code} {Q : State → Prop} {G : Gt} {n0 nL N : Nat} {f : Nat → va_E} {cells slots pc : Nat} {L : List (Option Value)} {st : List Value} {a b : Int} (h : a = b) (k : WW p l e R s m args below meth c Q G n0 nL N f cells slots pc L (.int (jI b) :: st)) : WW p l e R s m args below meth c Q G n0 nL N f cells slots pc L (.int (jI a) :: st) := h ▸ k
end
section
def be5 (u v : Nat → Int) : Prop := sum5 u < sum5 v ∨ sum5 u = sum5 v ∧ (u 0 < v 0 ∨ u 0 = v 0 ∧ (u 1 < v 1 ∨ u 1 = v 1 ∧ (u 2 < v 2 ∨ u 2 = v 2 ∧ (u 3 < v 3 ∨ u 3 = v 3 ∧ u 4 < v 4))))
theorem dX3_of_0 : decode cX3_of 0 = .ok (.iload_n 1, 1) := by decide +kernel
theorem dX3_of_1 : decode cX3_of 1 = .ok (.ifCond .lt 21, 3) := by decide +kernel
theorem dX3_of_4 : decode cX3_of 4 = .ok (.iload_n 1, 1) := by decide +kernel
theorem dX3_of_5 : decode cX3_of 5 = .ok (.aload_n 0, 1) := by decide +kernel
theorem dX3_of_6 : decode cX3_of 6 = .ok (.getfield 9, 3) := by decide +kernel
theorem dX3_of_9 : decode cX3_of 9 = .ok (.arraylength, 1) := by decide +kernel
theorem dX3_of_10 : decode cX3_of 10 = .ok (.if_icmp .ge 12, 3) := by decide +kernel
theorem dX3_of_13 : decode cX3_of 13 = .ok (.aload_n 0, 1) := by decide +kernel
theorem dX3_of_14 : decode cX3_of 14 = .ok (.getfield 9, 3) := by decide +kernel
theorem dX3_of_17 : decode cX3_of 17 = .ok (.iload_n 1, 1) := by decide +kernel
theorem dX3_of_18 : decode cX3_of 18 = .ok (.iaload, 1) := by decide +kernel
theorem dX3_of_19 : decode cX3_of 19 = .ok (.goto 4, 3) := by decide +kernel
theorem dX3_of_22 : decode cX3_of 22 = .ok (.iconst 0, 1) := by decide +kernel
theorem dX3_of_23 : decode cX3_of 23 = .ok (.ireturn, 1) := by decide +kernel
theorem dX3_set_0 : decode cX3_set 0 = .ok (.iload_n 1, 1) := by decide +kernel
theorem dX3_set_1 : decode cX3_set 1 = .ok (.ifCond .lt 19, 3) := by decide +kernel
theorem dX3_set_4 : decode cX3_set 4 = .ok (.iload_n 1, 1) := by decide +kernel
theorem dX3_set_5 : decode cX3_set 5 = .ok (.aload_n 0, 1) := by decide +kernel
theorem dX3_set_6 : decode cX3_set 6 = .ok (.getfield 9, 3) := by decide +kernel
theorem dX3_set_9 : decode cX3_set 9 = .ok (.arraylength, 1) := by decide +kernel
theorem dX3_set_10 : decode cX3_set 10 = .ok (.if_icmp .ge 10, 3) := by decide +kernel
theorem dX3_set_13 : decode cX3_set 13 = .ok (.aload_n 0, 1) := by decide +kernel
theorem dX3_set_14 : decode cX3_set 14 = .ok (.getfield 9, 3) := by decide +kernel
theorem dX3_set_17 : decode cX3_set 17 = .ok (.iload_n 1, 1) := by decide +kernel
theorem dX3_set_18 : decode cX3_set 18 = .ok (.iload_n 2, 1) := by decide +kernel
theorem dX3_set_19 : decode cX3_set 19 = .ok (.iastore, 1) := by decide +kernel
theorem dX3_set_20 : decode cX3_set 20 = .ok (.return_, 1) := by decide +kernel
theorem dX3_add_0 : decode cX3_add 0 = .ok (.iload_n 1, 1) := by decide +kernel
theorem dX3_add_1 : decode cX3_add 1 = .ok (.ifCond .lt 22, 3) := by decide +kernel
theorem dX3_add_4 : decode cX3_add 4 = .ok (.iload_n 1, 1) := by decide +kernel
theorem dX3_add_5 : decode cX3_add 5 = .ok (.aload_n 0, 1) := by decide +kernel
theorem dX3_add_6 : decode cX3_add 6 = .ok (.getfield 9, 3) := by decide +kernel
theorem dX3_add_9 : decode cX3_add 9 = .ok (.arraylength, 1) := by decide +kernel
theorem dX3_add_10 : decode cX3_add 10 = .ok (.if_icmp .ge 13, 3) := by decide +kernel
theorem dX3_add_13 : decode cX3_add 13 = .ok (.aload_n 0, 1) := by decide +kernel
theorem dX3_add_14 : decode cX3_add 14 = .ok (.getfield 9, 3) := by decide +kernel
theorem dX3_add_17 : decode cX3_add 17 = .ok (.iload_n 1, 1) := by decide +kernel
theorem dX3_add_18 : decode cX3_add 18 = .ok (.dup2, 1) := by decide +kernel
theorem dX3_add_19 : decode cX3_add 19 = .ok (.iaload, 1) := by decide +kernel
theorem dX3_add_20 : decode cX3_add 20 = .ok (.iload_n 2, 1) := by decide +kernel
theorem dX3_add_21 : decode cX3_add 21 = .ok (.iadd, 1) := by decide +kernel
theorem dX3_add_22 : decode cX3_add 22 = .ok (.iastore, 1) := by decide +kernel
theorem dX3_add_23 : decode cX3_add 23 = .ok (.return_, 1) := by decide +kernel
theorem dX3_clear_0 : decode cX3_clear 0 = .ok (.iconst 0, 1) := by decide +kernel
theorem dX3_clear_1 : decode cX3_clear 1 = .ok (.istore_n 1, 1) := by decide +kernel
theorem dX3_clear_2 : decode cX3_clear 2 = .ok (.iload_n 1, 1) := by decide +kernel
theorem dX3_clear_3 : decode cX3_clear 3 = .ok (.aload_n 0, 1) := by decide +kernel
theorem dX3_clear_4 : decode cX3_clear 4 = .ok (.getfield 9, 3) := by decide +kernel
theorem dX3_clear_7 : decode cX3_clear 7 = .ok (.arraylength, 1) := by decide +kernel
theorem dX3_clear_8 : decode cX3_clear 8 = .ok (.if_icmp .ge 16, 3) := by decide +kernel
theorem dX3_clear_11 : decode cX3_clear 11 = .ok (.aload_n 0, 1) := by decide +kernel
theorem dX3_clear_12 : decode cX3_clear 12 = .ok (.getfield 9, 3) := by decide +kernel
theorem dX3_clear_15 : decode cX3_clear 15 = .ok (.iload_n 1, 1) := by decide +kernel
theorem dX3_clear_16 : decode cX3_clear 16 = .ok (.iconst 0, 1) := by decide +kernel
theorem dX3_clear_17 : decode cX3_clear 17 = .ok (.iastore, 1) := by decide +kernel
theorem dX3_clear_18 : decode cX3_clear 18 = .ok (.iinc 1 1, 3) := by decide +kernel
theorem dX3_clear_21 : decode cX3_clear 21 = .ok (.goto (-19), 3) := by decide +kernel
theorem dX3_clear_24 : decode cX3_clear 24 = .ok (.return_, 1) := by decide +kernel
theorem dX3_copy_0 : decode cX3_copy 0 = .ok (.iconst 0, 1) := by decide +kernel
theorem dX3_copy_1 : decode cX3_copy 1 = .ok (.istore_n 2, 1) := by decide +kernel
theorem dX3_copy_2 : decode cX3_copy 2 = .ok (.iload_n 2, 1) := by decide +kernel
theorem dX3_copy_3 : decode cX3_copy 3 = .ok (.aload_n 0, 1) := by decide +kernel
theorem dX3_copy_4 : decode cX3_copy 4 = .ok (.getfield 9, 3) := by decide +kernel
theorem dX3_copy_7 : decode cX3_copy 7 = .ok (.arraylength, 1) := by decide +kernel
theorem dX3_copy_8 : decode cX3_copy 8 = .ok (.if_icmp .ge 20, 3) := by decide +kernel
theorem dX3_copy_11 : decode cX3_copy 11 = .ok (.aload_n 0, 1) := by decide +kernel
theorem dX3_copy_12 : decode cX3_copy 12 = .ok (.getfield 9, 3) := by decide +kernel
theorem dX3_copy_15 : decode cX3_copy 15 = .ok (.iload_n 2, 1) := by decide +kernel
theorem dX3_copy_16 : decode cX3_copy 16 = .ok (.aload_n 1, 1) := by decide +kernel
theorem dX3_copy_17 : decode cX3_copy 17 = .ok (.iload_n 2, 1) := by decide +kernel
theorem dX3_copy_18 : decode cX3_copy 18 = .ok (.invokevirtual 15, 3) := by decide +kernel
theorem dX3_copy_21 : decode cX3_copy 21 = .ok (.iastore, 1) := by decide +kernel
theorem dX3_copy_22 : decode cX3_copy 22 = .ok (.iinc 2 1, 3) := by decide +kernel
theorem dX3_copy_25 : decode cX3_copy 25 = .ok (.goto (-23), 3) := by decide +kernel
theorem dX3_copy_28 : decode cX3_copy 28 = .ok (.return_, 1) := by decide +kernel
theorem dX3_read_0 : decode cX3_read 0 = .ok (.iload_n 1, 1) := by decide +kernel
theorem dX3_read_1 : decode cX3_read 1 = .ok (.istore_n 2, 1) := by decide +kernel
theorem dX3_read_2 : decode cX3_read 2 = .ok (.iconst 0, 1) := by decide +kernel
theorem dX3_read_3 : decode cX3_read 3 = .ok (.istore_n 3, 1) := by decide +kernel
theorem dX3_read_4 : decode cX3_read 4 = .ok (.iload_n 3, 1) := by decide +kernel
theorem dX3_read_5 : decode cX3_read 5 = .ok (.aload_n 0, 1) := by decide +kernel
theorem dX3_read_6 : decode cX3_read 6 = .ok (.getfield 9, 3) := by decide +kernel
theorem dX3_read_9 : decode cX3_read 9 = .ok (.arraylength, 1) := by decide +kernel
theorem dX3_read_10 : decode cX3_read 10 = .ok (.if_icmp .ge 24, 3) := by decide +kernel
theorem dX3_read_13 : decode cX3_read 13 = .ok (.aload_n 0, 1) := by decide +kernel
theorem dX3_read_14 : decode cX3_read 14 = .ok (.getfield 9, 3) := by decide +kernel
theorem dX3_read_17 : decode cX3_read 17 = .ok (.iload_n 3, 1) := by decide +kernel
theorem dX3_read_18 : decode cX3_read 18 = .ok (.iload_n 2, 1) := by decide +kernel
theorem dX3_read_19 : decode cX3_read 19 = .ok (.bipush 10, 2) := by decide +kernel
theorem dX3_read_21 : decode cX3_read 21 = .ok (.irem, 1) := by decide +kernel
theorem dX3_read_22 : decode cX3_read 22 = .ok (.iastore, 1) := by decide +kernel
theorem dX3_read_23 : decode cX3_read 23 = .ok (.iload_n 2, 1) := by decide +kernel
theorem dX3_read_24 : decode cX3_read 24 = .ok (.bipush 10, 2) := by decide +kernel
theorem dX3_read_26 : decode cX3_read 26 = .ok (.idiv, 1) := by decide +kernel
theorem dX3_read_27 : decode cX3_read 27 = .ok (.istore_n 2, 1) := by decide +kernel
theorem dX3_read_28 : decode cX3_read 28 = .ok (.iinc 3 1, 3) := by decide +kernel
theorem dX3_read_31 : decode cX3_read 31 = .ok (.goto (-27), 3) := by decide +kernel
theorem dX3_read_34 : decode cX3_read 34 = .ok (.return_, 1) := by decide +kernel
theorem dX3_sum_0 : decode cX3_sum 0 = .ok (.iconst 0, 1) := by decide +kernel
theorem dX3_sum_1 : decode cX3_sum 1 = .ok (.istore_n 1, 1) := by decide +kernel
theorem dX3_sum_2 : decode cX3_sum 2 = .ok (.iconst 0, 1) := by decide +kernel
theorem dX3_sum_3 : decode cX3_sum 3 = .ok (.istore_n 2, 1) := by decide +kernel
theorem dX3_sum_4 : decode cX3_sum 4 = .ok (.iload_n 2, 1) := by decide +kernel
theorem dX3_sum_5 : decode cX3_sum 5 = .ok (.aload_n 0, 1) := by decide +kernel
theorem dX3_sum_6 : decode cX3_sum 6 = .ok (.getfield 9, 3) := by decide +kernel
theorem dX3_sum_9 : decode cX3_sum 9 = .ok (.arraylength, 1) := by decide +kernel
theorem dX3_sum_10 : decode cX3_sum 10 = .ok (.if_icmp .ge 18, 3) := by decide +kernel
theorem dX3_sum_13 : decode cX3_sum 13 = .ok (.iload_n 1, 1) := by decide +kernel
theorem dX3_sum_14 : decode cX3_sum 14 = .ok (.aload_n 0, 1) := by decide +kernel
theorem dX3_sum_15 : decode cX3_sum 15 = .ok (.getfield 9, 3) := by decide +kernel
theorem dX3_sum_18 : decode cX3_sum 18 = .ok (.iload_n 2, 1) := by decide +kernel
theorem dX3_sum_19 : decode cX3_sum 19 = .ok (.iaload, 1) := by decide +kernel
theorem dX3_sum_20 : decode cX3_sum 20 = .ok (.iadd, 1) := by decide +kernel
theorem dX3_sum_21 : decode cX3_sum 21 = .ok (.istore_n 1, 1) := by decide +kernel
theorem dX3_sum_22 : decode cX3_sum 22 = .ok (.iinc 2 1, 3) := by decide +kernel
theorem dX3_sum_25 : decode cX3_sum 25 = .ok (.goto (-21), 3) := by decide +kernel
theorem dX3_sum_28 : decode cX3_sum 28 = .ok (.iload_n 1, 1) := by decide +kernel
theorem dX3_sum_29 : decode cX3_sum 29 = .ok (.ireturn, 1) := by decide +kernel
theorem dX3_isAtLeast_0 : decode cX3_isAtLeast 0 = .ok (.iconst 0, 1) := by decide +kernel
theorem dX3_isAtLeast_1 : decode cX3_isAtLeast 1 = .ok (.istore_n 2, 1) := by decide +kernel
theorem dX3_isAtLeast_2 : decode cX3_isAtLeast 2 = .ok (.iload_n 2, 1) := by decide +kernel
theorem dX3_isAtLeast_3 : decode cX3_isAtLeast 3 = .ok (.aload_n 0, 1) := by decide +kernel
theorem dX3_isAtLeast_4 : decode cX3_isAtLeast 4 = .ok (.getfield 9, 3) := by decide +kernel
theorem dX3_isAtLeast_7 : decode cX3_isAtLeast 7 = .ok (.arraylength, 1) := by decide +kernel
theorem dX3_isAtLeast_8 : decode cX3_isAtLeast 8 = .ok (.if_icmp .ge 25, 3) := by decide +kernel
theorem dX3_isAtLeast_11 : decode cX3_isAtLeast 11 = .ok (.aload_n 0, 1) := by decide +kernel
theorem dX3_isAtLeast_12 : decode cX3_isAtLeast 12 = .ok (.getfield 9, 3) := by decide +kernel
theorem dX3_isAtLeast_15 : decode cX3_isAtLeast 15 = .ok (.iload_n 2, 1) := by decide +kernel
theorem dX3_isAtLeast_16 : decode cX3_isAtLeast 16 = .ok (.iaload, 1) := by decide +kernel
theorem dX3_isAtLeast_17 : decode cX3_isAtLeast 17 = .ok (.aload_n 1, 1) := by decide +kernel
theorem dX3_isAtLeast_18 : decode cX3_isAtLeast 18 = .ok (.iload_n 2, 1) := by decide +kernel
theorem dX3_isAtLeast_19 : decode cX3_isAtLeast 19 = .ok (.invokevirtual 15, 3) := by decide +kernel
theorem dX3_isAtLeast_22 : decode cX3_isAtLeast 22 = .ok (.if_icmp .ge 5, 3) := by decide +kernel
theorem dX3_isAtLeast_25 : decode cX3_isAtLeast 25 = .ok (.iconst 0, 1) := by decide +kernel
theorem dX3_isAtLeast_26 : decode cX3_isAtLeast 26 = .ok (.ireturn, 1) := by decide +kernel
theorem dX3_isAtLeast_27 : decode cX3_isAtLeast 27 = .ok (.iinc 2 1, 3) := by decide +kernel
theorem dX3_isAtLeast_30 : decode cX3_isAtLeast 30 = .ok (.goto (-28), 3) := by decide +kernel
theorem dX3_isAtLeast_33 : decode cX3_isAtLeast 33 = .ok (.iconst 1, 1) := by decide +kernel
theorem dX3_isAtLeast_34 : decode cX3_isAtLeast 34 = .ok (.ireturn, 1) := by decide +kernel
theorem dX3_comesBefore_0 : decode cX3_comesBefore 0 = .ok (.iconst 0, 1) := by decide +kernel
theorem dX3_comesBefore_1 : decode cX3_comesBefore 1 = .ok (.istore_n 2, 1) := by decide +kernel
theorem dX3_comesBefore_2 : decode cX3_comesBefore 2 = .ok (.iconst 0, 1) := by decide +kernel
theorem dX3_comesBefore_3 : decode cX3_comesBefore 3 = .ok (.istore_n 3, 1) := by decide +kernel
theorem dX3_comesBefore_4 : decode cX3_comesBefore 4 = .ok (.iconst 0, 1) := by decide +kernel
theorem dX3_comesBefore_5 : decode cX3_comesBefore 5 = .ok (.istore 4, 2) := by decide +kernel
theorem dX3_comesBefore_7 : decode cX3_comesBefore 7 = .ok (.iload 4, 2) := by decide +kernel
theorem dX3_comesBefore_9 : decode cX3_comesBefore 9 = .ok (.aload_n 0, 1) := by decide +kernel
theorem dX3_comesBefore_10 : decode cX3_comesBefore 10 = .ok (.getfield 9, 3) := by decide +kernel
theorem dX3_comesBefore_13 : decode cX3_comesBefore 13 = .ok (.arraylength, 1) := by decide +kernel
theorem dX3_comesBefore_14 : decode cX3_comesBefore 14 = .ok (.if_icmp .ge 41, 3) := by decide +kernel
theorem dX3_comesBefore_17 : decode cX3_comesBefore 17 = .ok (.aload_n 0, 1) := by decide +kernel
theorem dX3_comesBefore_18 : decode cX3_comesBefore 18 = .ok (.getfield 9, 3) := by decide +kernel
theorem dX3_comesBefore_21 : decode cX3_comesBefore 21 = .ok (.iload 4, 2) := by decide +kernel
theorem dX3_comesBefore_23 : decode cX3_comesBefore 23 = .ok (.iaload, 1) := by decide +kernel
theorem dX3_comesBefore_24 : decode cX3_comesBefore 24 = .ok (.aload_n 1, 1) := by decide +kernel
theorem dX3_comesBefore_25 : decode cX3_comesBefore 25 = .ok (.iload 4, 2) := by decide +kernel
theorem dX3_comesBefore_27 : decode cX3_comesBefore 27 = .ok (.invokevirtual 15, 3) := by decide +kernel
theorem dX3_comesBefore_30 : decode cX3_comesBefore 30 = .ok (.isub, 1) := by decide +kernel
theorem dX3_comesBefore_31 : decode cX3_comesBefore 31 = .ok (.istore 5, 2) := by decide +kernel
theorem dX3_comesBefore_33 : decode cX3_comesBefore 33 = .ok (.iload_n 2, 1) := by decide +kernel
theorem dX3_comesBefore_34 : decode cX3_comesBefore 34 = .ok (.iload 5, 2) := by decide +kernel
theorem dX3_comesBefore_36 : decode cX3_comesBefore 36 = .ok (.iadd, 1) := by decide +kernel
theorem dX3_comesBefore_37 : decode cX3_comesBefore 37 = .ok (.istore_n 2, 1) := by decide +kernel
theorem dX3_comesBefore_38 : decode cX3_comesBefore 38 = .ok (.iload_n 3, 1) := by decide +kernel
theorem dX3_comesBefore_39 : decode cX3_comesBefore 39 = .ok (.ifCond .ne 8, 3) := by decide +kernel
theorem dX3_comesBefore_42 : decode cX3_comesBefore 42 = .ok (.iload 5, 2) := by decide +kernel
theorem dX3_comesBefore_44 : decode cX3_comesBefore 44 = .ok (.goto 4, 3) := by decide +kernel
theorem dX3_comesBefore_47 : decode cX3_comesBefore 47 = .ok (.iload_n 3, 1) := by decide +kernel
theorem dX3_comesBefore_48 : decode cX3_comesBefore 48 = .ok (.istore_n 3, 1) := by decide +kernel
theorem dX3_comesBefore_49 : decode cX3_comesBefore 49 = .ok (.iinc 4 1, 3) := by decide +kernel
theorem dX3_comesBefore_52 : decode cX3_comesBefore 52 = .ok (.goto (-45), 3) := by decide +kernel
theorem dX3_comesBefore_55 : decode cX3_comesBefore 55 = .ok (.iload_n 2, 1) := by decide +kernel
theorem dX3_comesBefore_56 : decode cX3_comesBefore 56 = .ok (.ifCond .lt 11, 3) := by decide +kernel
theorem dX3_comesBefore_59 : decode cX3_comesBefore 59 = .ok (.iload_n 2, 1) := by decide +kernel
theorem dX3_comesBefore_60 : decode cX3_comesBefore 60 = .ok (.ifCond .ne 11, 3) := by decide +kernel
theorem dX3_comesBefore_63 : decode cX3_comesBefore 63 = .ok (.iload_n 3, 1) := by decide +kernel
theorem dX3_comesBefore_64 : decode cX3_comesBefore 64 = .ok (.ifCond .ge 7, 3) := by decide +kernel
theorem dX3_comesBefore_67 : decode cX3_comesBefore 67 = .ok (.iconst 1, 1) := by decide +kernel
theorem dX3_comesBefore_68 : decode cX3_comesBefore 68 = .ok (.goto 4, 3) := by decide +kernel
theorem dX3_comesBefore_71 : decode cX3_comesBefore 71 = .ok (.iconst 0, 1) := by decide +kernel
theorem dX3_comesBefore_72 : decode cX3_comesBefore 72 = .ok (.ireturn, 1) := by decide +kernel
theorem hl_yX3_of : (yX3_of.cls ≠ "java/lang/invoke/MethodHandle" ∧ yX3_of.cls ≠ "java/lang/invoke/VarHandle") ∧ (parseMethodDescriptor yX3_of.desc).map (fun d => d.parameters.length) = some 1 := by decide +kernel
theorem hl_yX3_set : (yX3_set.cls ≠ "java/lang/invoke/MethodHandle" ∧ yX3_set.cls ≠ "java/lang/invoke/VarHandle") ∧ (parseMethodDescriptor yX3_set.desc).map (fun d => d.parameters.length) = some 2 := by decide +kernel
theorem hl_yX3_add : (yX3_add.cls ≠ "java/lang/invoke/MethodHandle" ∧ yX3_add.cls ≠ "java/lang/invoke/VarHandle") ∧ (parseMethodDescriptor yX3_add.desc).map (fun d => d.parameters.length) = some 2 := by decide +kernel
theorem hl_yX3_clear : (yX3_clear.cls ≠ "java/lang/invoke/MethodHandle" ∧ yX3_clear.cls ≠ "java/lang/invoke/VarHandle") ∧ (parseMethodDescriptor yX3_clear.desc).map (fun d => d.parameters.length) = some 0 := by decide +kernel
theorem hl_yX3_copy : (yX3_copy.cls ≠ "java/lang/invoke/MethodHandle" ∧ yX3_copy.cls ≠ "java/lang/invoke/VarHandle") ∧ (parseMethodDescriptor yX3_copy.desc).map (fun d => d.parameters.length) = some 1 := by decide +kernel
theorem hl_yX3_read : (yX3_read.cls ≠ "java/lang/invoke/MethodHandle" ∧ yX3_read.cls ≠ "java/lang/invoke/VarHandle") ∧ (parseMethodDescriptor yX3_read.desc).map (fun d => d.parameters.length) = some 1 := by decide +kernel
theorem hl_yX3_sum : (yX3_sum.cls ≠ "java/lang/invoke/MethodHandle" ∧ yX3_sum.cls ≠ "java/lang/invoke/VarHandle") ∧ (parseMethodDescriptor yX3_sum.desc).map (fun d => d.parameters.length) = some 0 := by decide +kernel
theorem hl_yX3_isAtLeast : (yX3_isAtLeast.cls ≠ "java/lang/invoke/MethodHandle" ∧ yX3_isAtLeast.cls ≠ "java/lang/invoke/VarHandle") ∧ (parseMethodDescriptor yX3_isAtLeast.desc).map (fun d => d.parameters.length) = some 1 := by decide +kernel
theorem hl_yX3_comesBefore : (yX3_comesBefore.cls ≠ "java/lang/invoke/MethodHandle" ∧ yX3_comesBefore.cls ≠ "java/lang/invoke/VarHandle") ∧ (parseMethodDescriptor yX3_comesBefore.desc).map (fun d => d.parameters.length) = some 1 := by decide +kernel
set_option maxRecDepth 20000 in
set_option maxHeartbeats 4000000 in
theorem c_X3_of {l : Launch} {G : Gt} {n0 : Nat} {mi : Nat → Nat → Int} {mr : Nat → Nat → Nat} {c : Nat} (hc : isCr c) {z : Int} (hz : rg z) : Ci l yX3_of cX3_of 2 .int 1 G n0 [.ref (n0 + c), .int (jI z)] mi mr (fun r9 mi9 mr9 => mi = mi9 ∧ mr = mr9 ∧ r9 = if 0 ≤ z ∧ z < 5 then mi (c + 1) z.toNat else 0) := by
  refine Ct_of (by decide +kernel) (by intro v hv; simp at hv; rcases hv with rfl | rfl <;> rfl) (Nat.le_of_ble_eq_true rfl) ?_
  intro p e s m args below meth c9 X hr hname
  show WW _ _ _ _ _ _ _ _ _ _ _ _ _ _ _ _ _ _ _ [some (.ref (n0 + c)), some (.int (jI z))] _
  refine w_iload_n X dX3_of_0 rfl ?_
  refine w_if_lt X 22 dX3_of_1 (by decide) (fun c1_1 => ?_) (fun c1_1 => ?_)
  ·
    refine w_iconst X dX3_of_22 ?_
    refine s_iret X hr dX3_of_23 ?_
    first | exact ⟨rfl, rfl, by rw [if_pos ⟨by omega, by omega⟩]⟩ | exact ⟨rfl, rfl, by rw [if_neg (by omega)]⟩
  ·
    refine w_iload_n X dX3_of_4 rfl ?_
    refine w_aload_n X dX3_of_5 rfl ?_
    refine w_get X (isCr_k hc) (σ_cr G n0 _ _ hc) rfl gW_X3 0 (by decide) gF_X3_9 rfl dX3_of_6 ?_
    refine w_alen X (t := 0) (isCr_k1 hc) (σ_in G n0 _ _ hc) rfl dX3_of_9 ?_
    refine s_alen (b := 5) rfl ?_
    refine w_icmp_ge X 22 dX3_of_10 (by decide) (fun c10_2 => ?_) (fun c10_2 => ?_)
    ·
      refine w_iconst X dX3_of_22 ?_
      refine s_iret X hr dX3_of_23 ?_
      first | exact ⟨rfl, rfl, by rw [if_pos ⟨by omega, by omega⟩]⟩ | exact ⟨rfl, rfl, by rw [if_neg (by omega)]⟩
    ·
      refine w_aload_n X dX3_of_13 rfl ?_
      refine w_get X (isCr_k hc) (σ_cr G n0 _ _ hc) rfl gW_X3 0 (by decide) gF_X3_9 rfl dX3_of_14 ?_
      refine w_iload_n X dX3_of_17 rfl ?_
      refine s_iald X _ (isCr_k1 hc) (fun _ => σ_in G n0 _ _ hc) dX3_of_18 ?_ (hj := rfl)
      refine w_goto X 23 dX3_of_19 (by decide) ?_
      refine s_iret X hr dX3_of_23 ?_
      first | exact ⟨rfl, rfl, by rw [if_pos ⟨by omega, by omega⟩]⟩ | exact ⟨rfl, rfl, by rw [if_neg (by omega)]⟩
set_option maxRecDepth 20000 in
set_option maxHeartbeats 4000000 in
theorem c_X3_set {l : Launch} {G : Gt} {n0 : Nat} {mi : Nat → Nat → Int} {mr : Nat → Nat → Nat} {c : Nat} (hc : isCr c) {z x : Int} (hz : rg z) : Cv l yX3_set cX3_set 3 1 G n0 [.ref (n0 + c), .int (jI z), .int (jI x)] mi mr (fun mi9 mr9 => (if 0 ≤ z ∧ z < 5 then up2 mi (c + 1) z.toNat x else mi) = mi9 ∧ mr = mr9) := by
  refine Ct_of (by decide +kernel) (by intro v hv; simp at hv; rcases hv with rfl | rfl | rfl <;> rfl) (Nat.le_of_ble_eq_true rfl) ?_
  intro p e s m args below meth c9 X hr hname
  show WW _ _ _ _ _ _ _ _ _ _ _ _ _ _ _ _ _ _ _ [some (.ref (n0 + c)), some (.int (jI z)), some (.int (jI x))] _
  refine w_iload_n X dX3_set_0 rfl ?_
  refine w_if_lt X 20 dX3_set_1 (by decide) (fun c1_1 => ?_) (fun c1_1 => ?_)
  ·
    refine s_vret X hr dX3_set_20 ?_
    first | exact ⟨by rw [if_pos ⟨by omega, by omega⟩], rfl⟩ | exact ⟨by rw [if_neg (by omega)], rfl⟩
  ·
    refine w_iload_n X dX3_set_4 rfl ?_
    refine w_aload_n X dX3_set_5 rfl ?_
    refine w_get X (isCr_k hc) (σ_cr G n0 _ _ hc) rfl gW_X3 0 (by decide) gF_X3_9 rfl dX3_set_6 ?_
    refine w_alen X (t := 0) (isCr_k1 hc) (σ_in G n0 _ _ hc) rfl dX3_set_9 ?_
    refine s_alen (b := 5) rfl ?_
    refine w_icmp_ge X 20 dX3_set_10 (by decide) (fun c10_2 => ?_) (fun c10_2 => ?_)
    ·
      refine s_vret X hr dX3_set_20 ?_
      first | exact ⟨by rw [if_pos ⟨by omega, by omega⟩], rfl⟩ | exact ⟨by rw [if_neg (by omega)], rfl⟩
    ·
      refine w_aload_n X dX3_set_13 rfl ?_
      refine w_get X (isCr_k hc) (σ_cr G n0 _ _ hc) rfl gW_X3 0 (by decide) gF_X3_9 rfl dX3_set_14 ?_
      refine w_iload_n X dX3_set_17 rfl ?_
      refine w_iload_n X dX3_set_18 rfl ?_
      refine s_iast X _ (isCr_k1 hc) (fun _ => σ_in G n0 _ _ hc) dX3_set_19 ?_ (hj := rfl)
      refine s_vret X hr dX3_set_20 ?_
      first | exact ⟨by rw [if_pos ⟨by omega, by omega⟩], rfl⟩ | exact ⟨by rw [if_neg (by omega)], rfl⟩
set_option maxRecDepth 20000 in
set_option maxHeartbeats 4000000 in
theorem c_X3_add {l : Launch} {G : Gt} {n0 : Nat} {mi : Nat → Nat → Int} {mr : Nat → Nat → Nat} {c : Nat} (hc : isCr c) {z x : Int} (hz : rg z) : Cv l yX3_add cX3_add 3 1 G n0 [.ref (n0 + c), .int (jI z), .int (jI x)] mi mr (fun mi9 mr9 => (if 0 ≤ z ∧ z < 5 then up2 mi (c + 1) z.toNat (mi (c + 1) z.toNat + x) else mi) = mi9 ∧ mr = mr9) := by
  refine Ct_of (by decide +kernel) (by intro v hv; simp at hv; rcases hv with rfl | rfl | rfl <;> rfl) (Nat.le_of_ble_eq_true rfl) ?_
  intro p e s m args below meth c9 X hr hname
  show WW _ _ _ _ _ _ _ _ _ _ _ _ _ _ _ _ _ _ _ [some (.ref (n0 + c)), some (.int (jI z)), some (.int (jI x))] _
  refine w_iload_n X dX3_add_0 rfl ?_
  refine w_if_lt X 23 dX3_add_1 (by decide) (fun c1_1 => ?_) (fun c1_1 => ?_)
  ·
    refine s_vret X hr dX3_add_23 ?_
    first | exact ⟨by rw [if_pos ⟨by omega, by omega⟩], rfl⟩ | exact ⟨by rw [if_neg (by omega)], rfl⟩
  ·
    refine w_iload_n X dX3_add_4 rfl ?_
    refine w_aload_n X dX3_add_5 rfl ?_
    refine w_get X (isCr_k hc) (σ_cr G n0 _ _ hc) rfl gW_X3 0 (by decide) gF_X3_9 rfl dX3_add_6 ?_
    refine w_alen X (t := 0) (isCr_k1 hc) (σ_in G n0 _ _ hc) rfl dX3_add_9 ?_
    refine s_alen (b := 5) rfl ?_
    refine w_icmp_ge X 23 dX3_add_10 (by decide) (fun c10_2 => ?_) (fun c10_2 => ?_)
    ·
      refine s_vret X hr dX3_add_23 ?_
      first | exact ⟨by rw [if_pos ⟨by omega, by omega⟩], rfl⟩ | exact ⟨by rw [if_neg (by omega)], rfl⟩
    ·
      refine w_aload_n X dX3_add_13 rfl ?_
      refine w_get X (isCr_k hc) (σ_cr G n0 _ _ hc) rfl gW_X3 0 (by decide) gF_X3_9 rfl dX3_add_14 ?_
      refine w_iload_n X dX3_add_17 rfl ?_
      refine w_dup2 X dX3_add_18 rfl rfl ?_
      refine s_iald X _ (isCr_k1 hc) (fun _ => σ_in G n0 _ _ hc) dX3_add_19 ?_ (hj := rfl)
      refine w_iload_n X dX3_add_20 rfl ?_
      refine w_iadd X dX3_add_21 ?_
      refine s_iast X _ (isCr_k1 hc) (fun _ => σ_in G n0 _ _ hc) dX3_add_22 ?_ (hj := rfl)
      refine s_vret X hr dX3_add_23 ?_
      first | exact ⟨by rw [if_pos ⟨by omega, by omega⟩], rfl⟩ | exact ⟨by rw [if_neg (by omega)], rfl⟩
set_option maxRecDepth 20000 in
set_option maxHeartbeats 4000000 in
theorem c_X3_clear {l : Launch} {G : Gt} {n0 : Nat} {mi : Nat → Nat → Int} {mr : Nat → Nat → Nat} {c : Nat} (hc : isCr c)  : Cv l yX3_clear cX3_clear 2 1 G n0 [.ref (n0 + c)] mi mr (fun mi9 mr9 => row5 mi (c + 1) (fun _ => 0) = mi9 ∧ mr = mr9) := by
  refine Ct_of (by decide +kernel) (by intro v hv; simp at hv; rcases hv with rfl <;> rfl) (Nat.le_of_ble_eq_true rfl) ?_
  intro p e s m args below meth c9 X hr hname
  show WW _ _ _ _ _ _ _ _ _ _ _ _ _ _ _ _ _ _ _ [some (.ref (n0 + c)), none] _
  refine w_iconst X dX3_clear_0 ?_
  refine w_ist2_1 X dX3_clear_1 ?_
  refine w_iload_n X dX3_clear_2 rfl ?_
  refine w_aload_n X dX3_clear_3 rfl ?_
  refine w_get X (isCr_k hc) (σ_cr G n0 _ _ hc) rfl gW_X3 0 (by decide) gF_X3_9 rfl dX3_clear_4 ?_
  refine w_alen X (t := 0) (isCr_k1 hc) (σ_in G n0 _ _ hc) rfl dX3_clear_7 ?_
  refine s_alen (b := 5) rfl ?_
  refine w_icmp_ge X 24 dX3_clear_8 (by decide) (fun h9 => absurd h9 (by decide)) (fun _ => ?_)
  refine w_aload_n X dX3_clear_11 rfl ?_
  refine w_get X (isCr_k hc) (σ_cr G n0 _ _ hc) rfl gW_X3 0 (by decide) gF_X3_9 rfl dX3_clear_12 ?_
  refine w_iload_n X dX3_clear_15 rfl ?_
  refine w_iconst X dX3_clear_16 ?_
  refine s_iast X (0) (isCr_k1 hc) (fun _ => σ_in G n0 _ _ hc) dX3_clear_17 ?_
  refine w_iinc2_1 X dX3_clear_18 ?_
  refine w_goto X 2 dX3_clear_21 (by decide) ?_
  refine w_iload_n X dX3_clear_2 rfl ?_
  refine w_aload_n X dX3_clear_3 rfl ?_
  refine w_get X (isCr_k hc) (σ_cr G n0 _ _ hc) rfl gW_X3 0 (by decide) gF_X3_9 rfl dX3_clear_4 ?_
  refine w_alen X (t := 0) (isCr_k1 hc) (σ_in G n0 _ _ hc) rfl dX3_clear_7 ?_
  refine s_alen (b := 5) rfl ?_
  refine w_icmp_ge X 24 dX3_clear_8 (by decide) (fun h9 => absurd h9 (by decide)) (fun _ => ?_)
  refine w_aload_n X dX3_clear_11 rfl ?_
  refine w_get X (isCr_k hc) (σ_cr G n0 _ _ hc) rfl gW_X3 0 (by decide) gF_X3_9 rfl dX3_clear_12 ?_
  refine w_iload_n X dX3_clear_15 rfl ?_
  refine w_iconst X dX3_clear_16 ?_
  refine s_iast X (1) (isCr_k1 hc) (fun _ => σ_in G n0 _ _ hc) dX3_clear_17 ?_
  refine w_iinc2_1 X dX3_clear_18 ?_
  refine w_goto X 2 dX3_clear_21 (by decide) ?_
  refine w_iload_n X dX3_clear_2 rfl ?_
  refine w_aload_n X dX3_clear_3 rfl ?_
  refine w_get X (isCr_k hc) (σ_cr G n0 _ _ hc) rfl gW_X3 0 (by decide) gF_X3_9 rfl dX3_clear_4 ?_
  refine w_alen X (t := 0) (isCr_k1 hc) (σ_in G n0 _ _ hc) rfl dX3_clear_7 ?_
  refine s_alen (b := 5) rfl ?_
  refine w_icmp_ge X 24 dX3_clear_8 (by decide) (fun h9 => absurd h9 (by decide)) (fun _ => ?_)
  refine w_aload_n X dX3_clear_11 rfl ?_
  refine w_get X (isCr_k hc) (σ_cr G n0 _ _ hc) rfl gW_X3 0 (by decide) gF_X3_9 rfl dX3_clear_12 ?_
  refine w_iload_n X dX3_clear_15 rfl ?_
  refine w_iconst X dX3_clear_16 ?_
  refine s_iast X (2) (isCr_k1 hc) (fun _ => σ_in G n0 _ _ hc) dX3_clear_17 ?_
  refine w_iinc2_1 X dX3_clear_18 ?_
  refine w_goto X 2 dX3_clear_21 (by decide) ?_
  refine w_iload_n X dX3_clear_2 rfl ?_
  refine w_aload_n X dX3_clear_3 rfl ?_
  refine w_get X (isCr_k hc) (σ_cr G n0 _ _ hc) rfl gW_X3 0 (by decide) gF_X3_9 rfl dX3_clear_4 ?_
  refine w_alen X (t := 0) (isCr_k1 hc) (σ_in G n0 _ _ hc) rfl dX3_clear_7 ?_
  refine s_alen (b := 5) rfl ?_
  refine w_icmp_ge X 24 dX3_clear_8 (by decide) (fun h9 => absurd h9 (by decide)) (fun _ => ?_)
  refine w_aload_n X dX3_clear_11 rfl ?_
  refine w_get X (isCr_k hc) (σ_cr G n0 _ _ hc) rfl gW_X3 0 (by decide) gF_X3_9 rfl dX3_clear_12 ?_
  refine w_iload_n X dX3_clear_15 rfl ?_
  refine w_iconst X dX3_clear_16 ?_
  refine s_iast X (3) (isCr_k1 hc) (fun _ => σ_in G n0 _ _ hc) dX3_clear_17 ?_
  refine w_iinc2_1 X dX3_clear_18 ?_
  refine w_goto X 2 dX3_clear_21 (by decide) ?_
  refine w_iload_n X dX3_clear_2 rfl ?_
  refine w_aload_n X dX3_clear_3 rfl ?_
  refine w_get X (isCr_k hc) (σ_cr G n0 _ _ hc) rfl gW_X3 0 (by decide) gF_X3_9 rfl dX3_clear_4 ?_
  refine w_alen X (t := 0) (isCr_k1 hc) (σ_in G n0 _ _ hc) rfl dX3_clear_7 ?_
  refine s_alen (b := 5) rfl ?_
  refine w_icmp_ge X 24 dX3_clear_8 (by decide) (fun h9 => absurd h9 (by decide)) (fun _ => ?_)
  refine w_aload_n X dX3_clear_11 rfl ?_
  refine w_get X (isCr_k hc) (σ_cr G n0 _ _ hc) rfl gW_X3 0 (by decide) gF_X3_9 rfl dX3_clear_12 ?_
  refine w_iload_n X dX3_clear_15 rfl ?_
  refine w_iconst X dX3_clear_16 ?_
  refine s_iast X (4) (isCr_k1 hc) (fun _ => σ_in G n0 _ _ hc) dX3_clear_17 ?_
  refine w_iinc2_1 X dX3_clear_18 ?_
  refine w_goto X 2 dX3_clear_21 (by decide) ?_
  refine w_iload_n X dX3_clear_2 rfl ?_
  refine w_aload_n X dX3_clear_3 rfl ?_
  refine w_get X (isCr_k hc) (σ_cr G n0 _ _ hc) rfl gW_X3 0 (by decide) gF_X3_9 rfl dX3_clear_4 ?_
  refine w_alen X (t := 0) (isCr_k1 hc) (σ_in G n0 _ _ hc) rfl dX3_clear_7 ?_
  refine s_alen (b := 5) rfl ?_
  refine w_icmp_ge X 24 dX3_clear_8 (by decide) (fun _ => ?_) (fun h9 => absurd (by decide) h9)
  refine s_vret X hr dX3_clear_24 ?_
  exact ⟨(row5_up mi (c + 1) (fun _ => 0)).symm, rfl⟩
set_option maxRecDepth 20000 in
set_option maxHeartbeats 4000000 in
theorem c_X3_sum {l : Launch} {G : Gt} {n0 : Nat} {mi : Nat → Nat → Int} {mr : Nat → Nat → Nat} {c : Nat} (hc : isCr c)  : Ci l yX3_sum cX3_sum 3 .int 1 G n0 [.ref (n0 + c)] mi mr (fun r9 mi9 mr9 => mi = mi9 ∧ mr = mr9 ∧ r9 = sum5 (mi (c + 1))) := by
  refine Ct_of (by decide +kernel) (by intro v hv; simp at hv; rcases hv with rfl <;> rfl) (Nat.le_of_ble_eq_true rfl) ?_
  intro p e s m args below meth c9 X hr hname
  show WW _ _ _ _ _ _ _ _ _ _ _ _ _ _ _ _ _ _ _ [some (.ref (n0 + c)), none, none] _
  refine w_iconst X dX3_sum_0 ?_
  refine w_ist3_1 X dX3_sum_1 ?_
  refine w_iconst X dX3_sum_2 ?_
  refine w_ist3_2 X dX3_sum_3 ?_
  refine w_iload_n X dX3_sum_4 rfl ?_
  refine w_aload_n X dX3_sum_5 rfl ?_
  refine w_get X (isCr_k hc) (σ_cr G n0 _ _ hc) rfl gW_X3 0 (by decide) gF_X3_9 rfl dX3_sum_6 ?_
  refine w_alen X (t := 0) (isCr_k1 hc) (σ_in G n0 _ _ hc) rfl dX3_sum_9 ?_
  refine s_alen (b := 5) rfl ?_
  refine w_icmp_ge X 28 dX3_sum_10 (by decide) (fun h9 => absurd h9 (by decide)) (fun _ => ?_)
  refine w_iload_n X dX3_sum_13 rfl ?_
  refine w_aload_n X dX3_sum_14 rfl ?_
  refine w_get X (isCr_k hc) (σ_cr G n0 _ _ hc) rfl gW_X3 0 (by decide) gF_X3_9 rfl dX3_sum_15 ?_
  refine w_iload_n X dX3_sum_18 rfl ?_
  refine s_iald X (0) (isCr_k1 hc) (fun _ => σ_in G n0 _ _ hc) dX3_sum_19 ?_
  refine w_iadd X dX3_sum_20 ?_
  refine w_ist3_1 X dX3_sum_21 ?_
  refine w_iinc3_2 X dX3_sum_22 ?_
  refine w_goto X 4 dX3_sum_25 (by decide) ?_
  refine w_iload_n X dX3_sum_4 rfl ?_
  refine w_aload_n X dX3_sum_5 rfl ?_
  refine w_get X (isCr_k hc) (σ_cr G n0 _ _ hc) rfl gW_X3 0 (by decide) gF_X3_9 rfl dX3_sum_6 ?_
  refine w_alen X (t := 0) (isCr_k1 hc) (σ_in G n0 _ _ hc) rfl dX3_sum_9 ?_
  refine s_alen (b := 5) rfl ?_
  refine w_icmp_ge X 28 dX3_sum_10 (by decide) (fun h9 => absurd h9 (by decide)) (fun _ => ?_)
  refine w_iload_n X dX3_sum_13 rfl ?_
  refine w_aload_n X dX3_sum_14 rfl ?_
  refine w_get X (isCr_k hc) (σ_cr G n0 _ _ hc) rfl gW_X3 0 (by decide) gF_X3_9 rfl dX3_sum_15 ?_
  refine w_iload_n X dX3_sum_18 rfl ?_
  refine s_iald X (1) (isCr_k1 hc) (fun _ => σ_in G n0 _ _ hc) dX3_sum_19 ?_
  refine w_iadd X dX3_sum_20 ?_
  refine w_ist3_1 X dX3_sum_21 ?_
  refine w_iinc3_2 X dX3_sum_22 ?_
  refine w_goto X 4 dX3_sum_25 (by decide) ?_
  refine w_iload_n X dX3_sum_4 rfl ?_
  refine w_aload_n X dX3_sum_5 rfl ?_
  refine w_get X (isCr_k hc) (σ_cr G n0 _ _ hc) rfl gW_X3 0 (by decide) gF_X3_9 rfl dX3_sum_6 ?_
  refine w_alen X (t := 0) (isCr_k1 hc) (σ_in G n0 _ _ hc) rfl dX3_sum_9 ?_
  refine s_alen (b := 5) rfl ?_
  refine w_icmp_ge X 28 dX3_sum_10 (by decide) (fun h9 => absurd h9 (by decide)) (fun _ => ?_)
  refine w_iload_n X dX3_sum_13 rfl ?_
  refine w_aload_n X dX3_sum_14 rfl ?_
  refine w_get X (isCr_k hc) (σ_cr G n0 _ _ hc) rfl gW_X3 0 (by decide) gF_X3_9 rfl dX3_sum_15 ?_
  refine w_iload_n X dX3_sum_18 rfl ?_
  refine s_iald X (2) (isCr_k1 hc) (fun _ => σ_in G n0 _ _ hc) dX3_sum_19 ?_
  refine w_iadd X dX3_sum_20 ?_
  refine w_ist3_1 X dX3_sum_21 ?_
  refine w_iinc3_2 X dX3_sum_22 ?_
  refine w_goto X 4 dX3_sum_25 (by decide) ?_
  refine w_iload_n X dX3_sum_4 rfl ?_
  refine w_aload_n X dX3_sum_5 rfl ?_
  refine w_get X (isCr_k hc) (σ_cr G n0 _ _ hc) rfl gW_X3 0 (by decide) gF_X3_9 rfl dX3_sum_6 ?_
  refine w_alen X (t := 0) (isCr_k1 hc) (σ_in G n0 _ _ hc) rfl dX3_sum_9 ?_
  refine s_alen (b := 5) rfl ?_
  refine w_icmp_ge X 28 dX3_sum_10 (by decide) (fun h9 => absurd h9 (by decide)) (fun _ => ?_)
  refine w_iload_n X dX3_sum_13 rfl ?_
  refine w_aload_n X dX3_sum_14 rfl ?_
  refine w_get X (isCr_k hc) (σ_cr G n0 _ _ hc) rfl gW_X3 0 (by decide) gF_X3_9 rfl dX3_sum_15 ?_
  refine w_iload_n X dX3_sum_18 rfl ?_
  refine s_iald X (3) (isCr_k1 hc) (fun _ => σ_in G n0 _ _ hc) dX3_sum_19 ?_
  refine w_iadd X dX3_sum_20 ?_
  refine w_ist3_1 X dX3_sum_21 ?_
  refine w_iinc3_2 X dX3_sum_22 ?_
  refine w_goto X 4 dX3_sum_25 (by decide) ?_
  refine w_iload_n X dX3_sum_4 rfl ?_
  refine w_aload_n X dX3_sum_5 rfl ?_
  refine w_get X (isCr_k hc) (σ_cr G n0 _ _ hc) rfl gW_X3 0 (by decide) gF_X3_9 rfl dX3_sum_6 ?_
  refine w_alen X (t := 0) (isCr_k1 hc) (σ_in G n0 _ _ hc) rfl dX3_sum_9 ?_
  refine s_alen (b := 5) rfl ?_
  refine w_icmp_ge X 28 dX3_sum_10 (by decide) (fun h9 => absurd h9 (by decide)) (fun _ => ?_)
  refine w_iload_n X dX3_sum_13 rfl ?_
  refine w_aload_n X dX3_sum_14 rfl ?_
  refine w_get X (isCr_k hc) (σ_cr G n0 _ _ hc) rfl gW_X3 0 (by decide) gF_X3_9 rfl dX3_sum_15 ?_
  refine w_iload_n X dX3_sum_18 rfl ?_
  refine s_iald X (4) (isCr_k1 hc) (fun _ => σ_in G n0 _ _ hc) dX3_sum_19 ?_
  refine w_iadd X dX3_sum_20 ?_
  refine w_ist3_1 X dX3_sum_21 ?_
  refine w_iinc3_2 X dX3_sum_22 ?_
  refine w_goto X 4 dX3_sum_25 (by decide) ?_
  refine w_iload_n X dX3_sum_4 rfl ?_
  refine w_aload_n X dX3_sum_5 rfl ?_
  refine w_get X (isCr_k hc) (σ_cr G n0 _ _ hc) rfl gW_X3 0 (by decide) gF_X3_9 rfl dX3_sum_6 ?_
  refine w_alen X (t := 0) (isCr_k1 hc) (σ_in G n0 _ _ hc) rfl dX3_sum_9 ?_
  refine s_alen (b := 5) rfl ?_
  refine w_icmp_ge X 28 dX3_sum_10 (by decide) (fun _ => ?_) (fun h9 => absurd (by decide) h9)
  refine w_iload_n X dX3_sum_28 rfl ?_
  refine s_iret X hr dX3_sum_29 ?_
  exact ⟨rfl, rfl, by unfold sum5; omega⟩
set_option maxRecDepth 20000 in
set_option maxHeartbeats 4000000 in
theorem c_X3_copy {l : Launch} {G : Gt} {n0 : Nat} {mi : Nat → Nat → Int} {mr : Nat → Nat → Nat} {c : Nat} (hc : isCr c) {d : Nat} (hd : isCr d) : Cv l yX3_copy cX3_copy 3 2 G n0 [.ref (n0 + c), .ref (n0 + d)] mi mr (fun mi9 mr9 => row5 mi (c + 1) (mi (d + 1)) = mi9 ∧ mr = mr9) := by
  refine Ct_of (by decide +kernel) (by intro v hv; simp at hv; rcases hv with rfl | rfl <;> rfl) (Nat.le_of_ble_eq_true rfl) ?_
  intro p e s m args below meth c9 X hr hname
  show WW _ _ _ _ _ _ _ _ _ _ _ _ _ _ _ _ _ _ _ [some (.ref (n0 + c)), some (.ref (n0 + d)), none] _
  refine w_iconst X dX3_copy_0 ?_
  refine w_ist3_2 X dX3_copy_1 ?_
  refine w_iload_n X dX3_copy_2 rfl ?_
  refine w_aload_n X dX3_copy_3 rfl ?_
  refine w_get X (isCr_k hc) (σ_cr G n0 _ _ hc) rfl gW_X3 0 (by decide) gF_X3_9 rfl dX3_copy_4 ?_
  refine w_alen X (t := 0) (isCr_k1 hc) (σ_in G n0 _ _ hc) rfl dX3_copy_7 ?_
  refine s_alen (b := 5) rfl ?_
  refine w_icmp_ge X 28 dX3_copy_8 (by decide) (fun h9 => absurd h9 (by decide)) (fun _ => ?_)
  refine w_aload_n X dX3_copy_11 rfl ?_
  refine w_get X (isCr_k hc) (σ_cr G n0 _ _ hc) rfl gW_X3 0 (by decide) gF_X3_9 rfl dX3_copy_12 ?_
  refine w_iload_n X dX3_copy_15 rfl ?_
  refine w_aload_n X dX3_copy_16 rfl ?_
  refine w_iload_n X dX3_copy_17 rfl ?_
  refine s_callVi X _ (c_X3_of (l := l) (G := G) (n0 := n0) hd (by first | assumption | (refine ⟨?_, ?_⟩ <;> omega))) gM_X3_15 gI_yX3_of gS_yX3_of gN_X3 gC_yX3_of (isCr_k hd) (σ_cr G n0 _ _ hd) rfl dX3_copy_18 hl_yX3_of ⟨Nat.le_of_ble_eq_true rfl, Nat.le_of_ble_eq_true rfl⟩ (Nat.le_of_ble_eq_true rfl) rfl (fun r1 mi1 mr1 h1 => ?_)
  obtain ⟨rfl, rfl, h1⟩ := h1
  simp [up2] at h1
  refine s_iast X (0) (isCr_k1 hc) (fun _ => σ_in G n0 _ _ hc) dX3_copy_21 ?_
  refine w_iinc3_2 X dX3_copy_22 ?_
  refine w_goto X 2 dX3_copy_25 (by decide) ?_
  refine w_iload_n X dX3_copy_2 rfl ?_
  refine w_aload_n X dX3_copy_3 rfl ?_
  refine w_get X (isCr_k hc) (σ_cr G n0 _ _ hc) rfl gW_X3 0 (by decide) gF_X3_9 rfl dX3_copy_4 ?_
  refine w_alen X (t := 0) (isCr_k1 hc) (σ_in G n0 _ _ hc) rfl dX3_copy_7 ?_
  refine s_alen (b := 5) rfl ?_
  refine w_icmp_ge X 28 dX3_copy_8 (by decide) (fun h9 => absurd h9 (by decide)) (fun _ => ?_)
  refine w_aload_n X dX3_copy_11 rfl ?_
  refine w_get X (isCr_k hc) (σ_cr G n0 _ _ hc) rfl gW_X3 0 (by decide) gF_X3_9 rfl dX3_copy_12 ?_
  refine w_iload_n X dX3_copy_15 rfl ?_
  refine w_aload_n X dX3_copy_16 rfl ?_
  refine w_iload_n X dX3_copy_17 rfl ?_
  refine s_callVi X _ (c_X3_of (l := l) (G := G) (n0 := n0) hd (by first | assumption | (refine ⟨?_, ?_⟩ <;> omega))) gM_X3_15 gI_yX3_of gS_yX3_of gN_X3 gC_yX3_of (isCr_k hd) (σ_cr G n0 _ _ hd) rfl dX3_copy_18 hl_yX3_of ⟨Nat.le_of_ble_eq_true rfl, Nat.le_of_ble_eq_true rfl⟩ (Nat.le_of_ble_eq_true rfl) rfl (fun r2 mi2 mr2 h2 => ?_)
  obtain ⟨rfl, rfl, h2⟩ := h2
  simp [up2] at h2
  refine s_iast X (1) (isCr_k1 hc) (fun _ => σ_in G n0 _ _ hc) dX3_copy_21 ?_
  refine w_iinc3_2 X dX3_copy_22 ?_
  refine w_goto X 2 dX3_copy_25 (by decide) ?_
  refine w_iload_n X dX3_copy_2 rfl ?_
  refine w_aload_n X dX3_copy_3 rfl ?_
  refine w_get X (isCr_k hc) (σ_cr G n0 _ _ hc) rfl gW_X3 0 (by decide) gF_X3_9 rfl dX3_copy_4 ?_
  refine w_alen X (t := 0) (isCr_k1 hc) (σ_in G n0 _ _ hc) rfl dX3_copy_7 ?_
  refine s_alen (b := 5) rfl ?_
  refine w_icmp_ge X 28 dX3_copy_8 (by decide) (fun h9 => absurd h9 (by decide)) (fun _ => ?_)
  refine w_aload_n X dX3_copy_11 rfl ?_
  refine w_get X (isCr_k hc) (σ_cr G n0 _ _ hc) rfl gW_X3 0 (by decide) gF_X3_9 rfl dX3_copy_12 ?_
  refine w_iload_n X dX3_copy_15 rfl ?_
  refine w_aload_n X dX3_copy_16 rfl ?_
  refine w_iload_n X dX3_copy_17 rfl ?_
  refine s_callVi X _ (c_X3_of (l := l) (G := G) (n0 := n0) hd (by first | assumption | (refine ⟨?_, ?_⟩ <;> omega))) gM_X3_15 gI_yX3_of gS_yX3_of gN_X3 gC_yX3_of (isCr_k hd) (σ_cr G n0 _ _ hd) rfl dX3_copy_18 hl_yX3_of ⟨Nat.le_of_ble_eq_true rfl, Nat.le_of_ble_eq_true rfl⟩ (Nat.le_of_ble_eq_true rfl) rfl (fun r3 mi3 mr3 h3 => ?_)
  obtain ⟨rfl, rfl, h3⟩ := h3
  simp [up2] at h3
  refine s_iast X (2) (isCr_k1 hc) (fun _ => σ_in G n0 _ _ hc) dX3_copy_21 ?_
  refine w_iinc3_2 X dX3_copy_22 ?_
  refine w_goto X 2 dX3_copy_25 (by decide) ?_
  refine w_iload_n X dX3_copy_2 rfl ?_
  refine w_aload_n X dX3_copy_3 rfl ?_
  refine w_get X (isCr_k hc) (σ_cr G n0 _ _ hc) rfl gW_X3 0 (by decide) gF_X3_9 rfl dX3_copy_4 ?_
  refine w_alen X (t := 0) (isCr_k1 hc) (σ_in G n0 _ _ hc) rfl dX3_copy_7 ?_
  refine s_alen (b := 5) rfl ?_
  refine w_icmp_ge X 28 dX3_copy_8 (by decide) (fun h9 => absurd h9 (by decide)) (fun _ => ?_)
  refine w_aload_n X dX3_copy_11 rfl ?_
  refine w_get X (isCr_k hc) (σ_cr G n0 _ _ hc) rfl gW_X3 0 (by decide) gF_X3_9 rfl dX3_copy_12 ?_
  refine w_iload_n X dX3_copy_15 rfl ?_
  refine w_aload_n X dX3_copy_16 rfl ?_
  refine w_iload_n X dX3_copy_17 rfl ?_
  refine s_callVi X _ (c_X3_of (l := l) (G := G) (n0 := n0) hd (by first | assumption | (refine ⟨?_, ?_⟩ <;> omega))) gM_X3_15 gI_yX3_of gS_yX3_of gN_X3 gC_yX3_of (isCr_k hd) (σ_cr G n0 _ _ hd) rfl dX3_copy_18 hl_yX3_of ⟨Nat.le_of_ble_eq_true rfl, Nat.le_of_ble_eq_true rfl⟩ (Nat.le_of_ble_eq_true rfl) rfl (fun r4 mi4 mr4 h4 => ?_)
  obtain ⟨rfl, rfl, h4⟩ := h4
  simp [up2] at h4
  refine s_iast X (3) (isCr_k1 hc) (fun _ => σ_in G n0 _ _ hc) dX3_copy_21 ?_
  refine w_iinc3_2 X dX3_copy_22 ?_
  refine w_goto X 2 dX3_copy_25 (by decide) ?_
  refine w_iload_n X dX3_copy_2 rfl ?_
  refine w_aload_n X dX3_copy_3 rfl ?_
  refine w_get X (isCr_k hc) (σ_cr G n0 _ _ hc) rfl gW_X3 0 (by decide) gF_X3_9 rfl dX3_copy_4 ?_
  refine w_alen X (t := 0) (isCr_k1 hc) (σ_in G n0 _ _ hc) rfl dX3_copy_7 ?_
  refine s_alen (b := 5) rfl ?_
  refine w_icmp_ge X 28 dX3_copy_8 (by decide) (fun h9 => absurd h9 (by decide)) (fun _ => ?_)
  refine w_aload_n X dX3_copy_11 rfl ?_
  refine w_get X (isCr_k hc) (σ_cr G n0 _ _ hc) rfl gW_X3 0 (by decide) gF_X3_9 rfl dX3_copy_12 ?_
  refine w_iload_n X dX3_copy_15 rfl ?_
  refine w_aload_n X dX3_copy_16 rfl ?_
  refine w_iload_n X dX3_copy_17 rfl ?_
  refine s_callVi X _ (c_X3_of (l := l) (G := G) (n0 := n0) hd (by first | assumption | (refine ⟨?_, ?_⟩ <;> omega))) gM_X3_15 gI_yX3_of gS_yX3_of gN_X3 gC_yX3_of (isCr_k hd) (σ_cr G n0 _ _ hd) rfl dX3_copy_18 hl_yX3_of ⟨Nat.le_of_ble_eq_true rfl, Nat.le_of_ble_eq_true rfl⟩ (Nat.le_of_ble_eq_true rfl) rfl (fun r5 mi5 mr5 h5 => ?_)
  obtain ⟨rfl, rfl, h5⟩ := h5
  simp [up2] at h5
  refine s_iast X (4) (isCr_k1 hc) (fun _ => σ_in G n0 _ _ hc) dX3_copy_21 ?_
  refine w_iinc3_2 X dX3_copy_22 ?_
  refine w_goto X 2 dX3_copy_25 (by decide) ?_
  refine w_iload_n X dX3_copy_2 rfl ?_
  refine w_aload_n X dX3_copy_3 rfl ?_
  refine w_get X (isCr_k hc) (σ_cr G n0 _ _ hc) rfl gW_X3 0 (by decide) gF_X3_9 rfl dX3_copy_4 ?_
  refine w_alen X (t := 0) (isCr_k1 hc) (σ_in G n0 _ _ hc) rfl dX3_copy_7 ?_
  refine s_alen (b := 5) rfl ?_
  refine w_icmp_ge X 28 dX3_copy_8 (by decide) (fun _ => ?_) (fun h9 => absurd (by decide) h9)
  refine s_vret X hr dX3_copy_28 ?_
  subst h1 h2 h3 h4 h5
  exact ⟨(row5_up mi (c + 1) (mi (d + 1))).symm, rfl⟩
set_option maxRecDepth 20000 in
set_option maxHeartbeats 4000000 in
theorem c_X3_isAtLeast {l : Launch} {G : Gt} {n0 : Nat} {mi : Nat → Nat → Int} {mr : Nat → Nat → Nat} {c : Nat} (hc : isCr c) {d : Nat} (hd : isCr d) (hb : CB mi c) (hbd : CB mi d) : Ci l yX3_isAtLeast cX3_isAtLeast 3 .boolean 2 G n0 [.ref (n0 + c), .ref (n0 + d)] mi mr (fun r9 mi9 mr9 => mi = mi9 ∧ mr = mr9 ∧ (r9 = 1 ∧ ge5 (mi (c + 1)) (mi (d + 1)) ∨ r9 = 0 ∧ ¬ ge5 (mi (c + 1)) (mi (d + 1)))) := by
  refine Ct_of (by decide +kernel) (by intro v hv; simp at hv; rcases hv with rfl | rfl <;> rfl) (Nat.le_of_ble_eq_true rfl) ?_
  intro p e s m args below meth c9 X hr hname
  show WW _ _ _ _ _ _ _ _ _ _ _ _ _ _ _ _ _ _ _ [some (.ref (n0 + c)), some (.ref (n0 + d)), none] _
  have hb0 := hb
  have hb1 := hbd
  unfold CB at hb0 hb1
  refine w_iconst X dX3_isAtLeast_0 ?_
  refine w_ist3_2 X dX3_isAtLeast_1 ?_
  refine w_iload_n X dX3_isAtLeast_2 rfl ?_
  refine w_aload_n X dX3_isAtLeast_3 rfl ?_
  refine w_get X (isCr_k hc) (σ_cr G n0 _ _ hc) rfl gW_X3 0 (by decide) gF_X3_9 rfl dX3_isAtLeast_4 ?_
  refine w_alen X (t := 0) (isCr_k1 hc) (σ_in G n0 _ _ hc) rfl dX3_isAtLeast_7 ?_
  refine s_alen (b := 5) rfl ?_
  refine w_icmp_ge X 33 dX3_isAtLeast_8 (by decide) (fun h9 => absurd h9 (by decide)) (fun _ => ?_)
  refine w_aload_n X dX3_isAtLeast_11 rfl ?_
  refine w_get X (isCr_k hc) (σ_cr G n0 _ _ hc) rfl gW_X3 0 (by decide) gF_X3_9 rfl dX3_isAtLeast_12 ?_
  refine w_iload_n X dX3_isAtLeast_15 rfl ?_
  refine s_iald X (0) (isCr_k1 hc) (fun _ => σ_in G n0 _ _ hc) dX3_isAtLeast_16 ?_
  refine w_aload_n X dX3_isAtLeast_17 rfl ?_
  refine w_iload_n X dX3_isAtLeast_18 rfl ?_
  refine s_callVi X _ (c_X3_of (l := l) (G := G) (n0 := n0) hd (by first | assumption | (refine ⟨?_, ?_⟩ <;> omega))) gM_X3_15 gI_yX3_of gS_yX3_of gN_X3 gC_yX3_of (isCr_k hd) (σ_cr G n0 _ _ hd) rfl dX3_isAtLeast_19 hl_yX3_of ⟨Nat.le_of_ble_eq_true rfl, Nat.le_of_ble_eq_true rfl⟩ (Nat.le_of_ble_eq_true rfl) rfl (fun r1 mi1 mr1 h1 => ?_)
  obtain ⟨rfl, rfl, h1⟩ := h1
  simp [up2] at h1
  refine w_icmp_ge X 27 dX3_isAtLeast_22 (by decide) (fun c22_1 => ?_) (fun c22_1 => ?_)
  ·
    refine w_iinc3_2 X dX3_isAtLeast_27 ?_
    refine w_goto X 2 dX3_isAtLeast_30 (by decide) ?_
    refine w_iload_n X dX3_isAtLeast_2 rfl ?_
    refine w_aload_n X dX3_isAtLeast_3 rfl ?_
    refine w_get X (isCr_k hc) (σ_cr G n0 _ _ hc) rfl gW_X3 0 (by decide) gF_X3_9 rfl dX3_isAtLeast_4 ?_
    refine w_alen X (t := 0) (isCr_k1 hc) (σ_in G n0 _ _ hc) rfl dX3_isAtLeast_7 ?_
    refine s_alen (b := 5) rfl ?_
    refine w_icmp_ge X 33 dX3_isAtLeast_8 (by decide) (fun h9 => absurd h9 (by decide)) (fun _ => ?_)
    refine w_aload_n X dX3_isAtLeast_11 rfl ?_
    refine w_get X (isCr_k hc) (σ_cr G n0 _ _ hc) rfl gW_X3 0 (by decide) gF_X3_9 rfl dX3_isAtLeast_12 ?_
    refine w_iload_n X dX3_isAtLeast_15 rfl ?_
    refine s_iald X (1) (isCr_k1 hc) (fun _ => σ_in G n0 _ _ hc) dX3_isAtLeast_16 ?_
    refine w_aload_n X dX3_isAtLeast_17 rfl ?_
    refine w_iload_n X dX3_isAtLeast_18 rfl ?_
    refine s_callVi X _ (c_X3_of (l := l) (G := G) (n0 := n0) hd (by first | assumption | (refine ⟨?_, ?_⟩ <;> omega))) gM_X3_15 gI_yX3_of gS_yX3_of gN_X3 gC_yX3_of (isCr_k hd) (σ_cr G n0 _ _ hd) rfl dX3_isAtLeast_19 hl_yX3_of ⟨Nat.le_of_ble_eq_true rfl, Nat.le_of_ble_eq_true rfl⟩ (Nat.le_of_ble_eq_true rfl) rfl (fun r2 mi2 mr2 h2 => ?_)
    obtain ⟨rfl, rfl, h2⟩ := h2
    simp [up2] at h2
    refine w_icmp_ge X 27 dX3_isAtLeast_22 (by decide) (fun c22_2 => ?_) (fun c22_2 => ?_)
    ·
      refine w_iinc3_2 X dX3_isAtLeast_27 ?_
      refine w_goto X 2 dX3_isAtLeast_30 (by decide) ?_
      refine w_iload_n X dX3_isAtLeast_2 rfl ?_
      refine w_aload_n X dX3_isAtLeast_3 rfl ?_
      refine w_get X (isCr_k hc) (σ_cr G n0 _ _ hc) rfl gW_X3 0 (by decide) gF_X3_9 rfl dX3_isAtLeast_4 ?_
      refine w_alen X (t := 0) (isCr_k1 hc) (σ_in G n0 _ _ hc) rfl dX3_isAtLeast_7 ?_
      refine s_alen (b := 5) rfl ?_
      refine w_icmp_ge X 33 dX3_isAtLeast_8 (by decide) (fun h9 => absurd h9 (by decide)) (fun _ => ?_)
      refine w_aload_n X dX3_isAtLeast_11 rfl ?_
      refine w_get X (isCr_k hc) (σ_cr G n0 _ _ hc) rfl gW_X3 0 (by decide) gF_X3_9 rfl dX3_isAtLeast_12 ?_
      refine w_iload_n X dX3_isAtLeast_15 rfl ?_
      refine s_iald X (2) (isCr_k1 hc) (fun _ => σ_in G n0 _ _ hc) dX3_isAtLeast_16 ?_
      refine w_aload_n X dX3_isAtLeast_17 rfl ?_
      refine w_iload_n X dX3_isAtLeast_18 rfl ?_
      refine s_callVi X _ (c_X3_of (l := l) (G := G) (n0 := n0) hd (by first | assumption | (refine ⟨?_, ?_⟩ <;> omega))) gM_X3_15 gI_yX3_of gS_yX3_of gN_X3 gC_yX3_of (isCr_k hd) (σ_cr G n0 _ _ hd) rfl dX3_isAtLeast_19 hl_yX3_of ⟨Nat.le_of_ble_eq_true rfl, Nat.le_of_ble_eq_true rfl⟩ (Nat.le_of_ble_eq_true rfl) rfl (fun r3 mi3 mr3 h3 => ?_)
      obtain ⟨rfl, rfl, h3⟩ := h3
      simp [up2] at h3
      refine w_icmp_ge X 27 dX3_isAtLeast_22 (by decide) (fun c22_3 => ?_) (fun c22_3 => ?_)
      ·
        refine w_iinc3_2 X dX3_isAtLeast_27 ?_
        refine w_goto X 2 dX3_isAtLeast_30 (by decide) ?_
        refine w_iload_n X dX3_isAtLeast_2 rfl ?_
        refine w_aload_n X dX3_isAtLeast_3 rfl ?_
        refine w_get X (isCr_k hc) (σ_cr G n0 _ _ hc) rfl gW_X3 0 (by decide) gF_X3_9 rfl dX3_isAtLeast_4 ?_
        refine w_alen X (t := 0) (isCr_k1 hc) (σ_in G n0 _ _ hc) rfl dX3_isAtLeast_7 ?_
        refine s_alen (b := 5) rfl ?_
        refine w_icmp_ge X 33 dX3_isAtLeast_8 (by decide) (fun h9 => absurd h9 (by decide)) (fun _ => ?_)
        refine w_aload_n X dX3_isAtLeast_11 rfl ?_
        refine w_get X (isCr_k hc) (σ_cr G n0 _ _ hc) rfl gW_X3 0 (by decide) gF_X3_9 rfl dX3_isAtLeast_12 ?_
        refine w_iload_n X dX3_isAtLeast_15 rfl ?_
        refine s_iald X (3) (isCr_k1 hc) (fun _ => σ_in G n0 _ _ hc) dX3_isAtLeast_16 ?_
        refine w_aload_n X dX3_isAtLeast_17 rfl ?_
        refine w_iload_n X dX3_isAtLeast_18 rfl ?_
        refine s_callVi X _ (c_X3_of (l := l) (G := G) (n0 := n0) hd (by first | assumption | (refine ⟨?_, ?_⟩ <;> omega))) gM_X3_15 gI_yX3_of gS_yX3_of gN_X3 gC_yX3_of (isCr_k hd) (σ_cr G n0 _ _ hd) rfl dX3_isAtLeast_19 hl_yX3_of ⟨Nat.le_of_ble_eq_true rfl, Nat.le_of_ble_eq_true rfl⟩ (Nat.le_of_ble_eq_true rfl) rfl (fun r4 mi4 mr4 h4 => ?_)
        obtain ⟨rfl, rfl, h4⟩ := h4
        simp [up2] at h4
        refine w_icmp_ge X 27 dX3_isAtLeast_22 (by decide) (fun c22_4 => ?_) (fun c22_4 => ?_)
        ·
          refine w_iinc3_2 X dX3_isAtLeast_27 ?_
          refine w_goto X 2 dX3_isAtLeast_30 (by decide) ?_
          refine w_iload_n X dX3_isAtLeast_2 rfl ?_
          refine w_aload_n X dX3_isAtLeast_3 rfl ?_
          refine w_get X (isCr_k hc) (σ_cr G n0 _ _ hc) rfl gW_X3 0 (by decide) gF_X3_9 rfl dX3_isAtLeast_4 ?_
          refine w_alen X (t := 0) (isCr_k1 hc) (σ_in G n0 _ _ hc) rfl dX3_isAtLeast_7 ?_
          refine s_alen (b := 5) rfl ?_
          refine w_icmp_ge X 33 dX3_isAtLeast_8 (by decide) (fun h9 => absurd h9 (by decide)) (fun _ => ?_)
          refine w_aload_n X dX3_isAtLeast_11 rfl ?_
          refine w_get X (isCr_k hc) (σ_cr G n0 _ _ hc) rfl gW_X3 0 (by decide) gF_X3_9 rfl dX3_isAtLeast_12 ?_
          refine w_iload_n X dX3_isAtLeast_15 rfl ?_
          refine s_iald X (4) (isCr_k1 hc) (fun _ => σ_in G n0 _ _ hc) dX3_isAtLeast_16 ?_
          refine w_aload_n X dX3_isAtLeast_17 rfl ?_
          refine w_iload_n X dX3_isAtLeast_18 rfl ?_
          refine s_callVi X _ (c_X3_of (l := l) (G := G) (n0 := n0) hd (by first | assumption | (refine ⟨?_, ?_⟩ <;> omega))) gM_X3_15 gI_yX3_of gS_yX3_of gN_X3 gC_yX3_of (isCr_k hd) (σ_cr G n0 _ _ hd) rfl dX3_isAtLeast_19 hl_yX3_of ⟨Nat.le_of_ble_eq_true rfl, Nat.le_of_ble_eq_true rfl⟩ (Nat.le_of_ble_eq_true rfl) rfl (fun r5 mi5 mr5 h5 => ?_)
          obtain ⟨rfl, rfl, h5⟩ := h5
          simp [up2] at h5
          refine w_icmp_ge X 27 dX3_isAtLeast_22 (by decide) (fun c22_5 => ?_) (fun c22_5 => ?_)
          ·
            refine w_iinc3_2 X dX3_isAtLeast_27 ?_
            refine w_goto X 2 dX3_isAtLeast_30 (by decide) ?_
            refine w_iload_n X dX3_isAtLeast_2 rfl ?_
            refine w_aload_n X dX3_isAtLeast_3 rfl ?_
            refine w_get X (isCr_k hc) (σ_cr G n0 _ _ hc) rfl gW_X3 0 (by decide) gF_X3_9 rfl dX3_isAtLeast_4 ?_
            refine w_alen X (t := 0) (isCr_k1 hc) (σ_in G n0 _ _ hc) rfl dX3_isAtLeast_7 ?_
            refine s_alen (b := 5) rfl ?_
            refine w_icmp_ge X 33 dX3_isAtLeast_8 (by decide) (fun _ => ?_) (fun h9 => absurd (by decide) h9)
            refine w_iconst X dX3_isAtLeast_33 ?_
            refine s_zret X hr dX3_isAtLeast_34 (by omega) ?_
            refine ⟨rfl, rfl, ?_⟩
            unfold ge5
            omega
          ·
            refine w_iconst X dX3_isAtLeast_25 ?_
            refine s_zret X hr dX3_isAtLeast_26 (by omega) ?_
            refine ⟨rfl, rfl, ?_⟩
            unfold ge5
            omega
        ·
          refine w_iconst X dX3_isAtLeast_25 ?_
          refine s_zret X hr dX3_isAtLeast_26 (by omega) ?_
          refine ⟨rfl, rfl, ?_⟩
          unfold ge5
          omega
      ·
        refine w_iconst X dX3_isAtLeast_25 ?_
        refine s_zret X hr dX3_isAtLeast_26 (by omega) ?_
        refine ⟨rfl, rfl, ?_⟩
        unfold ge5
        omega
    ·
      refine w_iconst X dX3_isAtLeast_25 ?_
      refine s_zret X hr dX3_isAtLeast_26 (by omega) ?_
      refine ⟨rfl, rfl, ?_⟩
      unfold ge5
      omega
  ·
    refine w_iconst X dX3_isAtLeast_25 ?_
    refine s_zret X hr dX3_isAtLeast_26 (by omega) ?_
    refine ⟨rfl, rfl, ?_⟩
    unfold ge5
    omega
set_option maxRecDepth 20000 in
set_option maxHeartbeats 4000000 in
theorem c_X3_comesBefore {l : Launch} {G : Gt} {n0 : Nat} {mi : Nat → Nat → Int} {mr : Nat → Nat → Nat} {c : Nat} (hc : isCr c) {d : Nat} (hd : isCr d) (hb : CB mi c) (hbd : CB mi d) : Ci l yX3_comesBefore cX3_comesBefore 6 .boolean 2 G n0 [.ref (n0 + c), .ref (n0 + d)] mi mr (fun r9 mi9 mr9 => mi = mi9 ∧ mr = mr9 ∧ (r9 = 1 ∧ be5 (mi (c + 1)) (mi (d + 1)) ∨ r9 = 0 ∧ ¬ be5 (mi (c + 1)) (mi (d + 1)))) := by
  refine Ct_of (by decide +kernel) (by intro v hv; simp at hv; rcases hv with rfl | rfl <;> rfl) (Nat.le_of_ble_eq_true rfl) ?_
  intro p e s m args below meth c9 X hr hname
  show WW _ _ _ _ _ _ _ _ _ _ _ _ _ _ _ _ _ _ _ [some (.ref (n0 + c)), some (.ref (n0 + d)), none, none, none, none] _
  have hb0 := hb
  have hb1 := hbd
  unfold CB at hb0 hb1
  refine w_iconst X dX3_comesBefore_0 ?_
  refine w_ist6_2 X dX3_comesBefore_1 ?_
  refine w_iconst X dX3_comesBefore_2 ?_
  refine w_ist6_3 X dX3_comesBefore_3 ?_
  refine w_iconst X dX3_comesBefore_4 ?_
  refine w_ist6_4 X dX3_comesBefore_5 ?_
  refine w_iload X dX3_comesBefore_7 rfl ?_
  refine w_aload_n X dX3_comesBefore_9 rfl ?_
  refine w_get X (isCr_k hc) (σ_cr G n0 _ _ hc) rfl gW_X3 0 (by decide) gF_X3_9 rfl dX3_comesBefore_10 ?_
  refine w_alen X (t := 0) (isCr_k1 hc) (σ_in G n0 _ _ hc) rfl dX3_comesBefore_13 ?_
  refine s_alen (b := 5) rfl ?_
  refine w_icmp_ge X 55 dX3_comesBefore_14 (by decide) (fun h9 => absurd h9 (by decide)) (fun _ => ?_)
  refine w_aload_n X dX3_comesBefore_17 rfl ?_
  refine w_get X (isCr_k hc) (σ_cr G n0 _ _ hc) rfl gW_X3 0 (by decide) gF_X3_9 rfl dX3_comesBefore_18 ?_
  refine w_iload X dX3_comesBefore_21 rfl ?_
  refine s_iald X (0) (isCr_k1 hc) (fun _ => σ_in G n0 _ _ hc) dX3_comesBefore_23 ?_
  refine w_aload_n X dX3_comesBefore_24 rfl ?_
  refine w_iload X dX3_comesBefore_25 rfl ?_
  refine s_callVi X _ (c_X3_of (l := l) (G := G) (n0 := n0) hd (by first | assumption | (refine ⟨?_, ?_⟩ <;> omega))) gM_X3_15 gI_yX3_of gS_yX3_of gN_X3 gC_yX3_of (isCr_k hd) (σ_cr G n0 _ _ hd) rfl dX3_comesBefore_27 hl_yX3_of ⟨Nat.le_of_ble_eq_true rfl, Nat.le_of_ble_eq_true rfl⟩ (Nat.le_of_ble_eq_true rfl) rfl (fun r1 mi1 mr1 h1 => ?_)
  obtain ⟨rfl, rfl, h1⟩ := h1
  simp [up2] at h1
  refine w_isub X dX3_comesBefore_30 ?_
  refine w_ist6_5 X dX3_comesBefore_31 ?_
  refine w_iload_n X dX3_comesBefore_33 rfl ?_
  refine w_iload X dX3_comesBefore_34 rfl ?_
  refine w_iadd X dX3_comesBefore_36 ?_
  refine w_ist6_2 X dX3_comesBefore_37 ?_
  refine w_iload_n X dX3_comesBefore_38 rfl ?_
  refine w_if_ne X 47 dX3_comesBefore_39 (by decide) (fun h9 => absurd (by decide) h9) (fun _ => ?_)
  refine w_iload X dX3_comesBefore_42 rfl ?_
  refine w_goto X 48 dX3_comesBefore_44 (by decide) ?_
  refine w_ist6_3 X dX3_comesBefore_48 ?_
  refine w_iinc6_4 X dX3_comesBefore_49 ?_
  refine w_goto X 7 dX3_comesBefore_52 (by decide) ?_
  refine w_iload X dX3_comesBefore_7 rfl ?_
  refine w_aload_n X dX3_comesBefore_9 rfl ?_
  refine w_get X (isCr_k hc) (σ_cr G n0 _ _ hc) rfl gW_X3 0 (by decide) gF_X3_9 rfl dX3_comesBefore_10 ?_
  refine w_alen X (t := 0) (isCr_k1 hc) (σ_in G n0 _ _ hc) rfl dX3_comesBefore_13 ?_
  refine s_alen (b := 5) rfl ?_
  refine w_icmp_ge X 55 dX3_comesBefore_14 (by decide) (fun h9 => absurd h9 (by decide)) (fun _ => ?_)
  refine w_aload_n X dX3_comesBefore_17 rfl ?_
  refine w_get X (isCr_k hc) (σ_cr G n0 _ _ hc) rfl gW_X3 0 (by decide) gF_X3_9 rfl dX3_comesBefore_18 ?_
  refine w_iload X dX3_comesBefore_21 rfl ?_
  refine s_iald X (1) (isCr_k1 hc) (fun _ => σ_in G n0 _ _ hc) dX3_comesBefore_23 ?_
  refine w_aload_n X dX3_comesBefore_24 rfl ?_
  refine w_iload X dX3_comesBefore_25 rfl ?_
  refine s_callVi X _ (c_X3_of (l := l) (G := G) (n0 := n0) hd (by first | assumption | (refine ⟨?_, ?_⟩ <;> omega))) gM_X3_15 gI_yX3_of gS_yX3_of gN_X3 gC_yX3_of (isCr_k hd) (σ_cr G n0 _ _ hd) rfl dX3_comesBefore_27 hl_yX3_of ⟨Nat.le_of_ble_eq_true rfl, Nat.le_of_ble_eq_true rfl⟩ (Nat.le_of_ble_eq_true rfl) rfl (fun r2 mi2 mr2 h2 => ?_)
  obtain ⟨rfl, rfl, h2⟩ := h2
  simp [up2] at h2
  refine w_isub X dX3_comesBefore_30 ?_
  refine w_ist6_5 X dX3_comesBefore_31 ?_
  refine w_iload_n X dX3_comesBefore_33 rfl ?_
  refine w_iload X dX3_comesBefore_34 rfl ?_
  refine w_iadd X dX3_comesBefore_36 ?_
  refine w_ist6_2 X dX3_comesBefore_37 ?_
  refine w_iload_n X dX3_comesBefore_38 rfl ?_
  refine w_if_ne X 47 dX3_comesBefore_39 (by decide) (fun c39_1 => ?_) (fun c39_1 => ?_)
  ·
    refine w_iload_n X dX3_comesBefore_47 rfl ?_
    refine w_ist6_3 X dX3_comesBefore_48 ?_
    refine w_iinc6_4 X dX3_comesBefore_49 ?_
    refine w_goto X 7 dX3_comesBefore_52 (by decide) ?_
    refine w_iload X dX3_comesBefore_7 rfl ?_
    refine w_aload_n X dX3_comesBefore_9 rfl ?_
    refine w_get X (isCr_k hc) (σ_cr G n0 _ _ hc) rfl gW_X3 0 (by decide) gF_X3_9 rfl dX3_comesBefore_10 ?_
    refine w_alen X (t := 0) (isCr_k1 hc) (σ_in G n0 _ _ hc) rfl dX3_comesBefore_13 ?_
    refine s_alen (b := 5) rfl ?_
    refine w_icmp_ge X 55 dX3_comesBefore_14 (by decide) (fun h9 => absurd h9 (by decide)) (fun _ => ?_)
    refine w_aload_n X dX3_comesBefore_17 rfl ?_
    refine w_get X (isCr_k hc) (σ_cr G n0 _ _ hc) rfl gW_X3 0 (by decide) gF_X3_9 rfl dX3_comesBefore_18 ?_
    refine w_iload X dX3_comesBefore_21 rfl ?_
    refine s_iald X (2) (isCr_k1 hc) (fun _ => σ_in G n0 _ _ hc) dX3_comesBefore_23 ?_
    refine w_aload_n X dX3_comesBefore_24 rfl ?_
    refine w_iload X dX3_comesBefore_25 rfl ?_
    refine s_callVi X _ (c_X3_of (l := l) (G := G) (n0 := n0) hd (by first | assumption | (refine ⟨?_, ?_⟩ <;> omega))) gM_X3_15 gI_yX3_of gS_yX3_of gN_X3 gC_yX3_of (isCr_k hd) (σ_cr G n0 _ _ hd) rfl dX3_comesBefore_27 hl_yX3_of ⟨Nat.le_of_ble_eq_true rfl, Nat.le_of_ble_eq_true rfl⟩ (Nat.le_of_ble_eq_true rfl) rfl (fun r3 mi3 mr3 h3 => ?_)
    obtain ⟨rfl, rfl, h3⟩ := h3
    simp [up2] at h3
    refine w_isub X dX3_comesBefore_30 ?_
    refine w_ist6_5 X dX3_comesBefore_31 ?_
    refine w_iload_n X dX3_comesBefore_33 rfl ?_
    refine w_iload X dX3_comesBefore_34 rfl ?_
    refine w_iadd X dX3_comesBefore_36 ?_
    refine w_ist6_2 X dX3_comesBefore_37 ?_
    refine w_iload_n X dX3_comesBefore_38 rfl ?_
    refine w_if_ne X 47 dX3_comesBefore_39 (by decide) (fun _ => ?_) (fun h9 => absurd h9 (by first | exact c39_1 | exact fun q9 => absurd c39_1 q9))
    refine w_iload_n X dX3_comesBefore_47 rfl ?_
    refine w_ist6_3 X dX3_comesBefore_48 ?_
    refine w_iinc6_4 X dX3_comesBefore_49 ?_
    refine w_goto X 7 dX3_comesBefore_52 (by decide) ?_
    refine w_iload X dX3_comesBefore_7 rfl ?_
    refine w_aload_n X dX3_comesBefore_9 rfl ?_
    refine w_get X (isCr_k hc) (σ_cr G n0 _ _ hc) rfl gW_X3 0 (by decide) gF_X3_9 rfl dX3_comesBefore_10 ?_
    refine w_alen X (t := 0) (isCr_k1 hc) (σ_in G n0 _ _ hc) rfl dX3_comesBefore_13 ?_
    refine s_alen (b := 5) rfl ?_
    refine w_icmp_ge X 55 dX3_comesBefore_14 (by decide) (fun h9 => absurd h9 (by decide)) (fun _ => ?_)
    refine w_aload_n X dX3_comesBefore_17 rfl ?_
    refine w_get X (isCr_k hc) (σ_cr G n0 _ _ hc) rfl gW_X3 0 (by decide) gF_X3_9 rfl dX3_comesBefore_18 ?_
    refine w_iload X dX3_comesBefore_21 rfl ?_
    refine s_iald X (3) (isCr_k1 hc) (fun _ => σ_in G n0 _ _ hc) dX3_comesBefore_23 ?_
    refine w_aload_n X dX3_comesBefore_24 rfl ?_
    refine w_iload X dX3_comesBefore_25 rfl ?_
    refine s_callVi X _ (c_X3_of (l := l) (G := G) (n0 := n0) hd (by first | assumption | (refine ⟨?_, ?_⟩ <;> omega))) gM_X3_15 gI_yX3_of gS_yX3_of gN_X3 gC_yX3_of (isCr_k hd) (σ_cr G n0 _ _ hd) rfl dX3_comesBefore_27 hl_yX3_of ⟨Nat.le_of_ble_eq_true rfl, Nat.le_of_ble_eq_true rfl⟩ (Nat.le_of_ble_eq_true rfl) rfl (fun r4 mi4 mr4 h4 => ?_)
    obtain ⟨rfl, rfl, h4⟩ := h4
    simp [up2] at h4
    refine w_isub X dX3_comesBefore_30 ?_
    refine w_ist6_5 X dX3_comesBefore_31 ?_
    refine w_iload_n X dX3_comesBefore_33 rfl ?_
    refine w_iload X dX3_comesBefore_34 rfl ?_
    refine w_iadd X dX3_comesBefore_36 ?_
    refine w_ist6_2 X dX3_comesBefore_37 ?_
    refine w_iload_n X dX3_comesBefore_38 rfl ?_
    refine w_if_ne X 47 dX3_comesBefore_39 (by decide) (fun _ => ?_) (fun h9 => absurd h9 (by first | exact c39_1 | exact fun q9 => absurd c39_1 q9))
    refine w_iload_n X dX3_comesBefore_47 rfl ?_
    refine w_ist6_3 X dX3_comesBefore_48 ?_
    refine w_iinc6_4 X dX3_comesBefore_49 ?_
    refine w_goto X 7 dX3_comesBefore_52 (by decide) ?_
    refine w_iload X dX3_comesBefore_7 rfl ?_
    refine w_aload_n X dX3_comesBefore_9 rfl ?_
    refine w_get X (isCr_k hc) (σ_cr G n0 _ _ hc) rfl gW_X3 0 (by decide) gF_X3_9 rfl dX3_comesBefore_10 ?_
    refine w_alen X (t := 0) (isCr_k1 hc) (σ_in G n0 _ _ hc) rfl dX3_comesBefore_13 ?_
    refine s_alen (b := 5) rfl ?_
    refine w_icmp_ge X 55 dX3_comesBefore_14 (by decide) (fun h9 => absurd h9 (by decide)) (fun _ => ?_)
    refine w_aload_n X dX3_comesBefore_17 rfl ?_
    refine w_get X (isCr_k hc) (σ_cr G n0 _ _ hc) rfl gW_X3 0 (by decide) gF_X3_9 rfl dX3_comesBefore_18 ?_
    refine w_iload X dX3_comesBefore_21 rfl ?_
    refine s_iald X (4) (isCr_k1 hc) (fun _ => σ_in G n0 _ _ hc) dX3_comesBefore_23 ?_
    refine w_aload_n X dX3_comesBefore_24 rfl ?_
    refine w_iload X dX3_comesBefore_25 rfl ?_
    refine s_callVi X _ (c_X3_of (l := l) (G := G) (n0 := n0) hd (by first | assumption | (refine ⟨?_, ?_⟩ <;> omega))) gM_X3_15 gI_yX3_of gS_yX3_of gN_X3 gC_yX3_of (isCr_k hd) (σ_cr G n0 _ _ hd) rfl dX3_comesBefore_27 hl_yX3_of ⟨Nat.le_of_ble_eq_true rfl, Nat.le_of_ble_eq_true rfl⟩ (Nat.le_of_ble_eq_true rfl) rfl (fun r5 mi5 mr5 h5 => ?_)
    obtain ⟨rfl, rfl, h5⟩ := h5
    simp [up2] at h5
    refine w_isub X dX3_comesBefore_30 ?_
    refine w_ist6_5 X dX3_comesBefore_31 ?_
    refine w_iload_n X dX3_comesBefore_33 rfl ?_
    refine w_iload X dX3_comesBefore_34 rfl ?_
    refine w_iadd X dX3_comesBefore_36 ?_
    refine w_ist6_2 X dX3_comesBefore_37 ?_
    refine w_iload_n X dX3_comesBefore_38 rfl ?_
    refine w_if_ne X 47 dX3_comesBefore_39 (by decide) (fun _ => ?_) (fun h9 => absurd h9 (by first | exact c39_1 | exact fun q9 => absurd c39_1 q9))
    refine w_iload_n X dX3_comesBefore_47 rfl ?_
    refine w_ist6_3 X dX3_comesBefore_48 ?_
    refine w_iinc6_4 X dX3_comesBefore_49 ?_
    refine w_goto X 7 dX3_comesBefore_52 (by decide) ?_
    refine w_iload X dX3_comesBefore_7 rfl ?_
    refine w_aload_n X dX3_comesBefore_9 rfl ?_
    refine w_get X (isCr_k hc) (σ_cr G n0 _ _ hc) rfl gW_X3 0 (by decide) gF_X3_9 rfl dX3_comesBefore_10 ?_
    refine w_alen X (t := 0) (isCr_k1 hc) (σ_in G n0 _ _ hc) rfl dX3_comesBefore_13 ?_
    refine s_alen (b := 5) rfl ?_
    refine w_icmp_ge X 55 dX3_comesBefore_14 (by decide) (fun _ => ?_) (fun h9 => absurd (by decide) h9)
    refine w_iload_n X dX3_comesBefore_55 rfl ?_
    refine w_if_lt X 67 dX3_comesBefore_56 (by decide) (fun c56_2 => ?_) (fun c56_2 => ?_)
    ·
      refine w_iconst X dX3_comesBefore_67 ?_
      refine w_goto X 72 dX3_comesBefore_68 (by decide) ?_
      refine s_zret X hr dX3_comesBefore_72 (by omega) ?_
      refine ⟨rfl, rfl, ?_⟩
      unfold be5 sum5
      omega
    ·
      refine w_iload_n X dX3_comesBefore_59 rfl ?_
      refine w_if_ne X 71 dX3_comesBefore_60 (by decide) (fun c60_3 => ?_) (fun c60_3 => ?_)
      ·
        refine w_iconst X dX3_comesBefore_71 ?_
        refine s_zret X hr dX3_comesBefore_72 (by omega) ?_
        refine ⟨rfl, rfl, ?_⟩
        unfold be5 sum5
        omega
      ·
        refine w_iload_n X dX3_comesBefore_63 rfl ?_
        refine w_if_ge X 71 dX3_comesBefore_64 (by decide) (fun c64_4 => ?_) (fun c64_4 => ?_)
        ·
          refine w_iconst X dX3_comesBefore_71 ?_
          refine s_zret X hr dX3_comesBefore_72 (by omega) ?_
          refine ⟨rfl, rfl, ?_⟩
          unfold be5 sum5
          omega
        ·
          refine w_iconst X dX3_comesBefore_67 ?_
          refine w_goto X 72 dX3_comesBefore_68 (by decide) ?_
          refine s_zret X hr dX3_comesBefore_72 (by omega) ?_
          refine ⟨rfl, rfl, ?_⟩
          unfold be5 sum5
          omega
  ·
    refine w_iload X dX3_comesBefore_42 rfl ?_
    refine w_goto X 48 dX3_comesBefore_44 (by decide) ?_
    refine w_ist6_3 X dX3_comesBefore_48 ?_
    refine w_iinc6_4 X dX3_comesBefore_49 ?_
    refine w_goto X 7 dX3_comesBefore_52 (by decide) ?_
    refine w_iload X dX3_comesBefore_7 rfl ?_
    refine w_aload_n X dX3_comesBefore_9 rfl ?_
    refine w_get X (isCr_k hc) (σ_cr G n0 _ _ hc) rfl gW_X3 0 (by decide) gF_X3_9 rfl dX3_comesBefore_10 ?_
    refine w_alen X (t := 0) (isCr_k1 hc) (σ_in G n0 _ _ hc) rfl dX3_comesBefore_13 ?_
    refine s_alen (b := 5) rfl ?_
    refine w_icmp_ge X 55 dX3_comesBefore_14 (by decide) (fun h9 => absurd h9 (by decide)) (fun _ => ?_)
    refine w_aload_n X dX3_comesBefore_17 rfl ?_
    refine w_get X (isCr_k hc) (σ_cr G n0 _ _ hc) rfl gW_X3 0 (by decide) gF_X3_9 rfl dX3_comesBefore_18 ?_
    refine w_iload X dX3_comesBefore_21 rfl ?_
    refine s_iald X (2) (isCr_k1 hc) (fun _ => σ_in G n0 _ _ hc) dX3_comesBefore_23 ?_
    refine w_aload_n X dX3_comesBefore_24 rfl ?_
    refine w_iload X dX3_comesBefore_25 rfl ?_
    refine s_callVi X _ (c_X3_of (l := l) (G := G) (n0 := n0) hd (by first | assumption | (refine ⟨?_, ?_⟩ <;> omega))) gM_X3_15 gI_yX3_of gS_yX3_of gN_X3 gC_yX3_of (isCr_k hd) (σ_cr G n0 _ _ hd) rfl dX3_comesBefore_27 hl_yX3_of ⟨Nat.le_of_ble_eq_true rfl, Nat.le_of_ble_eq_true rfl⟩ (Nat.le_of_ble_eq_true rfl) rfl (fun r3 mi3 mr3 h3 => ?_)
    obtain ⟨rfl, rfl, h3⟩ := h3
    simp [up2] at h3
    refine w_isub X dX3_comesBefore_30 ?_
    refine w_ist6_5 X dX3_comesBefore_31 ?_
    refine w_iload_n X dX3_comesBefore_33 rfl ?_
    refine w_iload X dX3_comesBefore_34 rfl ?_
    refine w_iadd X dX3_comesBefore_36 ?_
    refine w_ist6_2 X dX3_comesBefore_37 ?_
    refine w_iload_n X dX3_comesBefore_38 rfl ?_
    refine w_if_ne X 47 dX3_comesBefore_39 (by decide) (fun c39_5 => ?_) (fun c39_5 => ?_)
    ·
      refine w_iload_n X dX3_comesBefore_47 rfl ?_
      refine w_ist6_3 X dX3_comesBefore_48 ?_
      refine w_iinc6_4 X dX3_comesBefore_49 ?_
      refine w_goto X 7 dX3_comesBefore_52 (by decide) ?_
      refine w_iload X dX3_comesBefore_7 rfl ?_
      refine w_aload_n X dX3_comesBefore_9 rfl ?_
      refine w_get X (isCr_k hc) (σ_cr G n0 _ _ hc) rfl gW_X3 0 (by decide) gF_X3_9 rfl dX3_comesBefore_10 ?_
      refine w_alen X (t := 0) (isCr_k1 hc) (σ_in G n0 _ _ hc) rfl dX3_comesBefore_13 ?_
      refine s_alen (b := 5) rfl ?_
      refine w_icmp_ge X 55 dX3_comesBefore_14 (by decide) (fun h9 => absurd h9 (by decide)) (fun _ => ?_)
      refine w_aload_n X dX3_comesBefore_17 rfl ?_
      refine w_get X (isCr_k hc) (σ_cr G n0 _ _ hc) rfl gW_X3 0 (by decide) gF_X3_9 rfl dX3_comesBefore_18 ?_
      refine w_iload X dX3_comesBefore_21 rfl ?_
      refine s_iald X (3) (isCr_k1 hc) (fun _ => σ_in G n0 _ _ hc) dX3_comesBefore_23 ?_
      refine w_aload_n X dX3_comesBefore_24 rfl ?_
      refine w_iload X dX3_comesBefore_25 rfl ?_
      refine s_callVi X _ (c_X3_of (l := l) (G := G) (n0 := n0) hd (by first | assumption | (refine ⟨?_, ?_⟩ <;> omega))) gM_X3_15 gI_yX3_of gS_yX3_of gN_X3 gC_yX3_of (isCr_k hd) (σ_cr G n0 _ _ hd) rfl dX3_comesBefore_27 hl_yX3_of ⟨Nat.le_of_ble_eq_true rfl, Nat.le_of_ble_eq_true rfl⟩ (Nat.le_of_ble_eq_true rfl) rfl (fun r4 mi4 mr4 h4 => ?_)
      obtain ⟨rfl, rfl, h4⟩ := h4
      simp [up2] at h4
      refine w_isub X dX3_comesBefore_30 ?_
      refine w_ist6_5 X dX3_comesBefore_31 ?_
      refine w_iload_n X dX3_comesBefore_33 rfl ?_
      refine w_iload X dX3_comesBefore_34 rfl ?_
      refine w_iadd X dX3_comesBefore_36 ?_
      refine w_ist6_2 X dX3_comesBefore_37 ?_
      refine w_iload_n X dX3_comesBefore_38 rfl ?_
      refine w_if_ne X 47 dX3_comesBefore_39 (by decide) (fun _ => ?_) (fun h9 => absurd h9 (by first | exact c39_5 | exact fun q9 => absurd c39_5 q9))
      refine w_iload_n X dX3_comesBefore_47 rfl ?_
      refine w_ist6_3 X dX3_comesBefore_48 ?_
      refine w_iinc6_4 X dX3_comesBefore_49 ?_
      refine w_goto X 7 dX3_comesBefore_52 (by decide) ?_
      refine w_iload X dX3_comesBefore_7 rfl ?_
      refine w_aload_n X dX3_comesBefore_9 rfl ?_
      refine w_get X (isCr_k hc) (σ_cr G n0 _ _ hc) rfl gW_X3 0 (by decide) gF_X3_9 rfl dX3_comesBefore_10 ?_
      refine w_alen X (t := 0) (isCr_k1 hc) (σ_in G n0 _ _ hc) rfl dX3_comesBefore_13 ?_
      refine s_alen (b := 5) rfl ?_
      refine w_icmp_ge X 55 dX3_comesBefore_14 (by decide) (fun h9 => absurd h9 (by decide)) (fun _ => ?_)
      refine w_aload_n X dX3_comesBefore_17 rfl ?_
      refine w_get X (isCr_k hc) (σ_cr G n0 _ _ hc) rfl gW_X3 0 (by decide) gF_X3_9 rfl dX3_comesBefore_18 ?_
      refine w_iload X dX3_comesBefore_21 rfl ?_
      refine s_iald X (4) (isCr_k1 hc) (fun _ => σ_in G n0 _ _ hc) dX3_comesBefore_23 ?_
      refine w_aload_n X dX3_comesBefore_24 rfl ?_
      refine w_iload X dX3_comesBefore_25 rfl ?_
      refine s_callVi X _ (c_X3_of (l := l) (G := G) (n0 := n0) hd (by first | assumption | (refine ⟨?_, ?_⟩ <;> omega))) gM_X3_15 gI_yX3_of gS_yX3_of gN_X3 gC_yX3_of (isCr_k hd) (σ_cr G n0 _ _ hd) rfl dX3_comesBefore_27 hl_yX3_of ⟨Nat.le_of_ble_eq_true rfl, Nat.le_of_ble_eq_true rfl⟩ (Nat.le_of_ble_eq_true rfl) rfl (fun r5 mi5 mr5 h5 => ?_)
      obtain ⟨rfl, rfl, h5⟩ := h5
      simp [up2] at h5
      refine w_isub X dX3_comesBefore_30 ?_
      refine w_ist6_5 X dX3_comesBefore_31 ?_
      refine w_iload_n X dX3_comesBefore_33 rfl ?_
      refine w_iload X dX3_comesBefore_34 rfl ?_
      refine w_iadd X dX3_comesBefore_36 ?_
      refine w_ist6_2 X dX3_comesBefore_37 ?_
      refine w_iload_n X dX3_comesBefore_38 rfl ?_
      refine w_if_ne X 47 dX3_comesBefore_39 (by decide) (fun _ => ?_) (fun h9 => absurd h9 (by first | exact c39_5 | exact fun q9 => absurd c39_5 q9))
      refine w_iload_n X dX3_comesBefore_47 rfl ?_
      refine w_ist6_3 X dX3_comesBefore_48 ?_
      refine w_iinc6_4 X dX3_comesBefore_49 ?_
      refine w_goto X 7 dX3_comesBefore_52 (by decide) ?_
      refine w_iload X dX3_comesBefore_7 rfl ?_
      refine w_aload_n X dX3_comesBefore_9 rfl ?_
      refine w_get X (isCr_k hc) (σ_cr G n0 _ _ hc) rfl gW_X3 0 (by decide) gF_X3_9 rfl dX3_comesBefore_10 ?_
      refine w_alen X (t := 0) (isCr_k1 hc) (σ_in G n0 _ _ hc) rfl dX3_comesBefore_13 ?_
      refine s_alen (b := 5) rfl ?_
      refine w_icmp_ge X 55 dX3_comesBefore_14 (by decide) (fun _ => ?_) (fun h9 => absurd (by decide) h9)
      refine w_iload_n X dX3_comesBefore_55 rfl ?_
      refine w_if_lt X 67 dX3_comesBefore_56 (by decide) (fun c56_6 => ?_) (fun c56_6 => ?_)
      ·
        refine w_iconst X dX3_comesBefore_67 ?_
        refine w_goto X 72 dX3_comesBefore_68 (by decide) ?_
        refine s_zret X hr dX3_comesBefore_72 (by omega) ?_
        refine ⟨rfl, rfl, ?_⟩
        unfold be5 sum5
        omega
      ·
        refine w_iload_n X dX3_comesBefore_59 rfl ?_
        refine w_if_ne X 71 dX3_comesBefore_60 (by decide) (fun c60_7 => ?_) (fun c60_7 => ?_)
        ·
          refine w_iconst X dX3_comesBefore_71 ?_
          refine s_zret X hr dX3_comesBefore_72 (by omega) ?_
          refine ⟨rfl, rfl, ?_⟩
          unfold be5 sum5
          omega
        ·
          refine w_iload_n X dX3_comesBefore_63 rfl ?_
          refine w_if_ge X 71 dX3_comesBefore_64 (by decide) (fun c64_8 => ?_) (fun c64_8 => ?_)
          ·
            refine w_iconst X dX3_comesBefore_71 ?_
            refine s_zret X hr dX3_comesBefore_72 (by omega) ?_
            refine ⟨rfl, rfl, ?_⟩
            unfold be5 sum5
            omega
          ·
            refine w_iconst X dX3_comesBefore_67 ?_
            refine w_goto X 72 dX3_comesBefore_68 (by decide) ?_
            refine s_zret X hr dX3_comesBefore_72 (by omega) ?_
            refine ⟨rfl, rfl, ?_⟩
            unfold be5 sum5
            omega
    ·
      refine w_iload X dX3_comesBefore_42 rfl ?_
      refine w_goto X 48 dX3_comesBefore_44 (by decide) ?_
      refine w_ist6_3 X dX3_comesBefore_48 ?_
      refine w_iinc6_4 X dX3_comesBefore_49 ?_
      refine w_goto X 7 dX3_comesBefore_52 (by decide) ?_
      refine w_iload X dX3_comesBefore_7 rfl ?_
      refine w_aload_n X dX3_comesBefore_9 rfl ?_
      refine w_get X (isCr_k hc) (σ_cr G n0 _ _ hc) rfl gW_X3 0 (by decide) gF_X3_9 rfl dX3_comesBefore_10 ?_
      refine w_alen X (t := 0) (isCr_k1 hc) (σ_in G n0 _ _ hc) rfl dX3_comesBefore_13 ?_
      refine s_alen (b := 5) rfl ?_
      refine w_icmp_ge X 55 dX3_comesBefore_14 (by decide) (fun h9 => absurd h9 (by decide)) (fun _ => ?_)
      refine w_aload_n X dX3_comesBefore_17 rfl ?_
      refine w_get X (isCr_k hc) (σ_cr G n0 _ _ hc) rfl gW_X3 0 (by decide) gF_X3_9 rfl dX3_comesBefore_18 ?_
      refine w_iload X dX3_comesBefore_21 rfl ?_
      refine s_iald X (3) (isCr_k1 hc) (fun _ => σ_in G n0 _ _ hc) dX3_comesBefore_23 ?_
      refine w_aload_n X dX3_comesBefore_24 rfl ?_
      refine w_iload X dX3_comesBefore_25 rfl ?_
      refine s_callVi X _ (c_X3_of (l := l) (G := G) (n0 := n0) hd (by first | assumption | (refine ⟨?_, ?_⟩ <;> omega))) gM_X3_15 gI_yX3_of gS_yX3_of gN_X3 gC_yX3_of (isCr_k hd) (σ_cr G n0 _ _ hd) rfl dX3_comesBefore_27 hl_yX3_of ⟨Nat.le_of_ble_eq_true rfl, Nat.le_of_ble_eq_true rfl⟩ (Nat.le_of_ble_eq_true rfl) rfl (fun r4 mi4 mr4 h4 => ?_)
      obtain ⟨rfl, rfl, h4⟩ := h4
      simp [up2] at h4
      refine w_isub X dX3_comesBefore_30 ?_
      refine w_ist6_5 X dX3_comesBefore_31 ?_
      refine w_iload_n X dX3_comesBefore_33 rfl ?_
      refine w_iload X dX3_comesBefore_34 rfl ?_
      refine w_iadd X dX3_comesBefore_36 ?_
      refine w_ist6_2 X dX3_comesBefore_37 ?_
      refine w_iload_n X dX3_comesBefore_38 rfl ?_
      refine w_if_ne X 47 dX3_comesBefore_39 (by decide) (fun c39_9 => ?_) (fun c39_9 => ?_)
      ·
        refine w_iload_n X dX3_comesBefore_47 rfl ?_
        refine w_ist6_3 X dX3_comesBefore_48 ?_
        refine w_iinc6_4 X dX3_comesBefore_49 ?_
        refine w_goto X 7 dX3_comesBefore_52 (by decide) ?_
        refine w_iload X dX3_comesBefore_7 rfl ?_
        refine w_aload_n X dX3_comesBefore_9 rfl ?_
        refine w_get X (isCr_k hc) (σ_cr G n0 _ _ hc) rfl gW_X3 0 (by decide) gF_X3_9 rfl dX3_comesBefore_10 ?_
        refine w_alen X (t := 0) (isCr_k1 hc) (σ_in G n0 _ _ hc) rfl dX3_comesBefore_13 ?_
        refine s_alen (b := 5) rfl ?_
        refine w_icmp_ge X 55 dX3_comesBefore_14 (by decide) (fun h9 => absurd h9 (by decide)) (fun _ => ?_)
        refine w_aload_n X dX3_comesBefore_17 rfl ?_
        refine w_get X (isCr_k hc) (σ_cr G n0 _ _ hc) rfl gW_X3 0 (by decide) gF_X3_9 rfl dX3_comesBefore_18 ?_
        refine w_iload X dX3_comesBefore_21 rfl ?_
        refine s_iald X (4) (isCr_k1 hc) (fun _ => σ_in G n0 _ _ hc) dX3_comesBefore_23 ?_
        refine w_aload_n X dX3_comesBefore_24 rfl ?_
        refine w_iload X dX3_comesBefore_25 rfl ?_
        refine s_callVi X _ (c_X3_of (l := l) (G := G) (n0 := n0) hd (by first | assumption | (refine ⟨?_, ?_⟩ <;> omega))) gM_X3_15 gI_yX3_of gS_yX3_of gN_X3 gC_yX3_of (isCr_k hd) (σ_cr G n0 _ _ hd) rfl dX3_comesBefore_27 hl_yX3_of ⟨Nat.le_of_ble_eq_true rfl, Nat.le_of_ble_eq_true rfl⟩ (Nat.le_of_ble_eq_true rfl) rfl (fun r5 mi5 mr5 h5 => ?_)
        obtain ⟨rfl, rfl, h5⟩ := h5
        simp [up2] at h5
        refine w_isub X dX3_comesBefore_30 ?_
        refine w_ist6_5 X dX3_comesBefore_31 ?_
        refine w_iload_n X dX3_comesBefore_33 rfl ?_
        refine w_iload X dX3_comesBefore_34 rfl ?_
        refine w_iadd X dX3_comesBefore_36 ?_
        refine w_ist6_2 X dX3_comesBefore_37 ?_
        refine w_iload_n X dX3_comesBefore_38 rfl ?_
        refine w_if_ne X 47 dX3_comesBefore_39 (by decide) (fun _ => ?_) (fun h9 => absurd h9 (by first | exact c39_9 | exact fun q9 => absurd c39_9 q9))
        refine w_iload_n X dX3_comesBefore_47 rfl ?_
        refine w_ist6_3 X dX3_comesBefore_48 ?_
        refine w_iinc6_4 X dX3_comesBefore_49 ?_
        refine w_goto X 7 dX3_comesBefore_52 (by decide) ?_
        refine w_iload X dX3_comesBefore_7 rfl ?_
        refine w_aload_n X dX3_comesBefore_9 rfl ?_
        refine w_get X (isCr_k hc) (σ_cr G n0 _ _ hc) rfl gW_X3 0 (by decide) gF_X3_9 rfl dX3_comesBefore_10 ?_
        refine w_alen X (t := 0) (isCr_k1 hc) (σ_in G n0 _ _ hc) rfl dX3_comesBefore_13 ?_
        refine s_alen (b := 5) rfl ?_
        refine w_icmp_ge X 55 dX3_comesBefore_14 (by decide) (fun _ => ?_) (fun h9 => absurd (by decide) h9)
        refine w_iload_n X dX3_comesBefore_55 rfl ?_
        refine w_if_lt X 67 dX3_comesBefore_56 (by decide) (fun c56_10 => ?_) (fun c56_10 => ?_)
        ·
          refine w_iconst X dX3_comesBefore_67 ?_
          refine w_goto X 72 dX3_comesBefore_68 (by decide) ?_
          refine s_zret X hr dX3_comesBefore_72 (by omega) ?_
          refine ⟨rfl, rfl, ?_⟩
          unfold be5 sum5
          omega
        ·
          refine w_iload_n X dX3_comesBefore_59 rfl ?_
          refine w_if_ne X 71 dX3_comesBefore_60 (by decide) (fun c60_11 => ?_) (fun c60_11 => ?_)
          ·
            refine w_iconst X dX3_comesBefore_71 ?_
            refine s_zret X hr dX3_comesBefore_72 (by omega) ?_
            refine ⟨rfl, rfl, ?_⟩
            unfold be5 sum5
            omega
          ·
            refine w_iload_n X dX3_comesBefore_63 rfl ?_
            refine w_if_ge X 71 dX3_comesBefore_64 (by decide) (fun c64_12 => ?_) (fun c64_12 => ?_)
            ·
              refine w_iconst X dX3_comesBefore_71 ?_
              refine s_zret X hr dX3_comesBefore_72 (by omega) ?_
              refine ⟨rfl, rfl, ?_⟩
              unfold be5 sum5
              omega
            ·
              refine w_iconst X dX3_comesBefore_67 ?_
              refine w_goto X 72 dX3_comesBefore_68 (by decide) ?_
              refine s_zret X hr dX3_comesBefore_72 (by omega) ?_
              refine ⟨rfl, rfl, ?_⟩
              unfold be5 sum5
              omega
      ·
        refine w_iload X dX3_comesBefore_42 rfl ?_
        refine w_goto X 48 dX3_comesBefore_44 (by decide) ?_
        refine w_ist6_3 X dX3_comesBefore_48 ?_
        refine w_iinc6_4 X dX3_comesBefore_49 ?_
        refine w_goto X 7 dX3_comesBefore_52 (by decide) ?_
        refine w_iload X dX3_comesBefore_7 rfl ?_
        refine w_aload_n X dX3_comesBefore_9 rfl ?_
        refine w_get X (isCr_k hc) (σ_cr G n0 _ _ hc) rfl gW_X3 0 (by decide) gF_X3_9 rfl dX3_comesBefore_10 ?_
        refine w_alen X (t := 0) (isCr_k1 hc) (σ_in G n0 _ _ hc) rfl dX3_comesBefore_13 ?_
        refine s_alen (b := 5) rfl ?_
        refine w_icmp_ge X 55 dX3_comesBefore_14 (by decide) (fun h9 => absurd h9 (by decide)) (fun _ => ?_)
        refine w_aload_n X dX3_comesBefore_17 rfl ?_
        refine w_get X (isCr_k hc) (σ_cr G n0 _ _ hc) rfl gW_X3 0 (by decide) gF_X3_9 rfl dX3_comesBefore_18 ?_
        refine w_iload X dX3_comesBefore_21 rfl ?_
        refine s_iald X (4) (isCr_k1 hc) (fun _ => σ_in G n0 _ _ hc) dX3_comesBefore_23 ?_
        refine w_aload_n X dX3_comesBefore_24 rfl ?_
        refine w_iload X dX3_comesBefore_25 rfl ?_
        refine s_callVi X _ (c_X3_of (l := l) (G := G) (n0 := n0) hd (by first | assumption | (refine ⟨?_, ?_⟩ <;> omega))) gM_X3_15 gI_yX3_of gS_yX3_of gN_X3 gC_yX3_of (isCr_k hd) (σ_cr G n0 _ _ hd) rfl dX3_comesBefore_27 hl_yX3_of ⟨Nat.le_of_ble_eq_true rfl, Nat.le_of_ble_eq_true rfl⟩ (Nat.le_of_ble_eq_true rfl) rfl (fun r5 mi5 mr5 h5 => ?_)
        obtain ⟨rfl, rfl, h5⟩ := h5
        simp [up2] at h5
        refine w_isub X dX3_comesBefore_30 ?_
        refine w_ist6_5 X dX3_comesBefore_31 ?_
        refine w_iload_n X dX3_comesBefore_33 rfl ?_
        refine w_iload X dX3_comesBefore_34 rfl ?_
        refine w_iadd X dX3_comesBefore_36 ?_
        refine w_ist6_2 X dX3_comesBefore_37 ?_
        refine w_iload_n X dX3_comesBefore_38 rfl ?_
        refine w_if_ne X 47 dX3_comesBefore_39 (by decide) (fun c39_13 => ?_) (fun c39_13 => ?_)
        ·
          refine w_iload_n X dX3_comesBefore_47 rfl ?_
          refine w_ist6_3 X dX3_comesBefore_48 ?_
          refine w_iinc6_4 X dX3_comesBefore_49 ?_
          refine w_goto X 7 dX3_comesBefore_52 (by decide) ?_
          refine w_iload X dX3_comesBefore_7 rfl ?_
          refine w_aload_n X dX3_comesBefore_9 rfl ?_
          refine w_get X (isCr_k hc) (σ_cr G n0 _ _ hc) rfl gW_X3 0 (by decide) gF_X3_9 rfl dX3_comesBefore_10 ?_
          refine w_alen X (t := 0) (isCr_k1 hc) (σ_in G n0 _ _ hc) rfl dX3_comesBefore_13 ?_
          refine s_alen (b := 5) rfl ?_
          refine w_icmp_ge X 55 dX3_comesBefore_14 (by decide) (fun _ => ?_) (fun h9 => absurd (by decide) h9)
          refine w_iload_n X dX3_comesBefore_55 rfl ?_
          refine w_if_lt X 67 dX3_comesBefore_56 (by decide) (fun c56_14 => ?_) (fun c56_14 => ?_)
          ·
            refine w_iconst X dX3_comesBefore_67 ?_
            refine w_goto X 72 dX3_comesBefore_68 (by decide) ?_
            refine s_zret X hr dX3_comesBefore_72 (by omega) ?_
            refine ⟨rfl, rfl, ?_⟩
            unfold be5 sum5
            omega
          ·
            refine w_iload_n X dX3_comesBefore_59 rfl ?_
            refine w_if_ne X 71 dX3_comesBefore_60 (by decide) (fun c60_15 => ?_) (fun c60_15 => ?_)
            ·
              refine w_iconst X dX3_comesBefore_71 ?_
              refine s_zret X hr dX3_comesBefore_72 (by omega) ?_
              refine ⟨rfl, rfl, ?_⟩
              unfold be5 sum5
              omega
            ·
              refine w_iload_n X dX3_comesBefore_63 rfl ?_
              refine w_if_ge X 71 dX3_comesBefore_64 (by decide) (fun c64_16 => ?_) (fun c64_16 => ?_)
              ·
                refine w_iconst X dX3_comesBefore_71 ?_
                refine s_zret X hr dX3_comesBefore_72 (by omega) ?_
                refine ⟨rfl, rfl, ?_⟩
                unfold be5 sum5
                omega
              ·
                refine w_iconst X dX3_comesBefore_67 ?_
                refine w_goto X 72 dX3_comesBefore_68 (by decide) ?_
                refine s_zret X hr dX3_comesBefore_72 (by omega) ?_
                refine ⟨rfl, rfl, ?_⟩
                unfold be5 sum5
                omega
        ·
          refine w_iload X dX3_comesBefore_42 rfl ?_
          refine w_goto X 48 dX3_comesBefore_44 (by decide) ?_
          refine w_ist6_3 X dX3_comesBefore_48 ?_
          refine w_iinc6_4 X dX3_comesBefore_49 ?_
          refine w_goto X 7 dX3_comesBefore_52 (by decide) ?_
          refine w_iload X dX3_comesBefore_7 rfl ?_
          refine w_aload_n X dX3_comesBefore_9 rfl ?_
          refine w_get X (isCr_k hc) (σ_cr G n0 _ _ hc) rfl gW_X3 0 (by decide) gF_X3_9 rfl dX3_comesBefore_10 ?_
          refine w_alen X (t := 0) (isCr_k1 hc) (σ_in G n0 _ _ hc) rfl dX3_comesBefore_13 ?_
          refine s_alen (b := 5) rfl ?_
          refine w_icmp_ge X 55 dX3_comesBefore_14 (by decide) (fun _ => ?_) (fun h9 => absurd (by decide) h9)
          refine w_iload_n X dX3_comesBefore_55 rfl ?_
          refine w_if_lt X 67 dX3_comesBefore_56 (by decide) (fun c56_17 => ?_) (fun c56_17 => ?_)
          ·
            refine w_iconst X dX3_comesBefore_67 ?_
            refine w_goto X 72 dX3_comesBefore_68 (by decide) ?_
            refine s_zret X hr dX3_comesBefore_72 (by omega) ?_
            refine ⟨rfl, rfl, ?_⟩
            unfold be5 sum5
            omega
          ·
            refine w_iload_n X dX3_comesBefore_59 rfl ?_
            refine w_if_ne X 71 dX3_comesBefore_60 (by decide) (fun c60_18 => ?_) (fun c60_18 => ?_)
            ·
              refine w_iconst X dX3_comesBefore_71 ?_
              refine s_zret X hr dX3_comesBefore_72 (by omega) ?_
              refine ⟨rfl, rfl, ?_⟩
              unfold be5 sum5
              omega
            ·
              refine w_iload_n X dX3_comesBefore_63 rfl ?_
              refine w_if_ge X 71 dX3_comesBefore_64 (by decide) (fun c64_19 => ?_) (fun c64_19 => ?_)
              ·
                refine w_iconst X dX3_comesBefore_71 ?_
                refine s_zret X hr dX3_comesBefore_72 (by omega) ?_
                refine ⟨rfl, rfl, ?_⟩
                unfold be5 sum5
                omega
              ·
                refine w_iconst X dX3_comesBefore_67 ?_
                refine w_goto X 72 dX3_comesBefore_68 (by decide) ?_
                refine s_zret X hr dX3_comesBefore_72 (by omega) ?_
                refine ⟨rfl, rfl, ?_⟩
                unfold be5 sum5
                omega
set_option maxRecDepth 20000 in
set_option maxHeartbeats 4000000 in
theorem c_X3_read {l : Launch} {G : Gt} {n0 : Nat} {mi : Nat → Nat → Int} {mr : Nat → Nat → Nat} {c : Nat} (hc : isCr c) {z : Int} (hz : 0 ≤ z ∧ z < 2147483648) : Cv l yX3_read cX3_read 4 1 G n0 [.ref (n0 + c), .int (jI z)] mi mr (fun mi9 mr9 => row5 mi (c + 1) (fun j => z / 10 ^ j % 10) = mi9 ∧ mr = mr9) := by
  refine Ct_of (by decide +kernel) (by intro v hv; simp at hv; rcases hv with rfl | rfl <;> rfl) (Nat.le_of_ble_eq_true rfl) ?_
  intro p e s m args below meth c9 X hr hname
  show WW _ _ _ _ _ _ _ _ _ _ _ _ _ _ _ _ _ _ _ [some (.ref (n0 + c)), some (.int (jI z)), none, none] _
  refine w_iload_n X dX3_read_0 rfl ?_
  refine w_ist4_2 X dX3_read_1 ?_
  refine w_iconst X dX3_read_2 ?_
  refine w_ist4_3 X dX3_read_3 ?_
  refine w_iload_n X dX3_read_4 rfl ?_
  refine w_aload_n X dX3_read_5 rfl ?_
  refine w_get X (isCr_k hc) (σ_cr G n0 _ _ hc) rfl gW_X3 0 (by decide) gF_X3_9 rfl dX3_read_6 ?_
  refine w_alen X (t := 0) (isCr_k1 hc) (σ_in G n0 _ _ hc) rfl dX3_read_9 ?_
  refine s_alen (b := 5) rfl ?_
  refine w_icmp_ge X 34 dX3_read_10 (by decide) (fun h9 => absurd h9 (by decide)) (fun _ => ?_)
  refine w_aload_n X dX3_read_13 rfl ?_
  refine w_get X (isCr_k hc) (σ_cr G n0 _ _ hc) rfl gW_X3 0 (by decide) gF_X3_9 rfl dX3_read_14 ?_
  refine w_iload_n X dX3_read_17 rfl ?_
  refine w_iload_n X dX3_read_18 rfl ?_
  refine w_bipush X dX3_read_19 rfl ?_
  refine w_irem X dX3_read_21 ?_
  refine s_iast X (0) (isCr_k1 hc) (fun _ => σ_in G n0 _ _ hc) dX3_read_22 ?_
  refine w_iload_n X dX3_read_23 rfl ?_
  refine w_bipush X dX3_read_24 rfl ?_
  refine w_idiv X dX3_read_26 ?_
  refine w_ist4_2 X dX3_read_27 ?_
  refine w_iinc4_3 X dX3_read_28 ?_
  refine w_goto X 4 dX3_read_31 (by decide) ?_
  refine w_iload_n X dX3_read_4 rfl ?_
  refine w_aload_n X dX3_read_5 rfl ?_
  refine w_get X (isCr_k hc) (σ_cr G n0 _ _ hc) rfl gW_X3 0 (by decide) gF_X3_9 rfl dX3_read_6 ?_
  refine w_alen X (t := 0) (isCr_k1 hc) (σ_in G n0 _ _ hc) rfl dX3_read_9 ?_
  refine s_alen (b := 5) rfl ?_
  refine w_icmp_ge X 34 dX3_read_10 (by decide) (fun h9 => absurd h9 (by decide)) (fun _ => ?_)
  refine w_aload_n X dX3_read_13 rfl ?_
  refine w_get X (isCr_k hc) (σ_cr G n0 _ _ hc) rfl gW_X3 0 (by decide) gF_X3_9 rfl dX3_read_14 ?_
  refine w_iload_n X dX3_read_17 rfl ?_
  refine w_iload_n X dX3_read_18 rfl ?_
  refine w_bipush X dX3_read_19 rfl ?_
  refine w_irem X dX3_read_21 ?_
  refine s_iast X (1) (isCr_k1 hc) (fun _ => σ_in G n0 _ _ hc) dX3_read_22 ?_
  refine w_iload_n X dX3_read_23 rfl ?_
  refine w_bipush X dX3_read_24 rfl ?_
  refine w_idiv X dX3_read_26 ?_
  refine w_ist4_2 X dX3_read_27 ?_
  refine w_iinc4_3 X dX3_read_28 ?_
  refine w_goto X 4 dX3_read_31 (by decide) ?_
  refine w_iload_n X dX3_read_4 rfl ?_
  refine w_aload_n X dX3_read_5 rfl ?_
  refine w_get X (isCr_k hc) (σ_cr G n0 _ _ hc) rfl gW_X3 0 (by decide) gF_X3_9 rfl dX3_read_6 ?_
  refine w_alen X (t := 0) (isCr_k1 hc) (σ_in G n0 _ _ hc) rfl dX3_read_9 ?_
  refine s_alen (b := 5) rfl ?_
  refine w_icmp_ge X 34 dX3_read_10 (by decide) (fun h9 => absurd h9 (by decide)) (fun _ => ?_)
  refine w_aload_n X dX3_read_13 rfl ?_
  refine w_get X (isCr_k hc) (σ_cr G n0 _ _ hc) rfl gW_X3 0 (by decide) gF_X3_9 rfl dX3_read_14 ?_
  refine w_iload_n X dX3_read_17 rfl ?_
  refine w_iload_n X dX3_read_18 rfl ?_
  refine w_bipush X dX3_read_19 rfl ?_
  refine w_irem X dX3_read_21 ?_
  refine s_iast X (2) (isCr_k1 hc) (fun _ => σ_in G n0 _ _ hc) dX3_read_22 ?_
  refine w_iload_n X dX3_read_23 rfl ?_
  refine w_bipush X dX3_read_24 rfl ?_
  refine w_idiv X dX3_read_26 ?_
  refine w_ist4_2 X dX3_read_27 ?_
  refine w_iinc4_3 X dX3_read_28 ?_
  refine w_goto X 4 dX3_read_31 (by decide) ?_
  refine w_iload_n X dX3_read_4 rfl ?_
  refine w_aload_n X dX3_read_5 rfl ?_
  refine w_get X (isCr_k hc) (σ_cr G n0 _ _ hc) rfl gW_X3 0 (by decide) gF_X3_9 rfl dX3_read_6 ?_
  refine w_alen X (t := 0) (isCr_k1 hc) (σ_in G n0 _ _ hc) rfl dX3_read_9 ?_
  refine s_alen (b := 5) rfl ?_
  refine w_icmp_ge X 34 dX3_read_10 (by decide) (fun h9 => absurd h9 (by decide)) (fun _ => ?_)
  refine w_aload_n X dX3_read_13 rfl ?_
  refine w_get X (isCr_k hc) (σ_cr G n0 _ _ hc) rfl gW_X3 0 (by decide) gF_X3_9 rfl dX3_read_14 ?_
  refine w_iload_n X dX3_read_17 rfl ?_
  refine w_iload_n X dX3_read_18 rfl ?_
  refine w_bipush X dX3_read_19 rfl ?_
  refine w_irem X dX3_read_21 ?_
  refine s_iast X (3) (isCr_k1 hc) (fun _ => σ_in G n0 _ _ hc) dX3_read_22 ?_
  refine w_iload_n X dX3_read_23 rfl ?_
  refine w_bipush X dX3_read_24 rfl ?_
  refine w_idiv X dX3_read_26 ?_
  refine w_ist4_2 X dX3_read_27 ?_
  refine w_iinc4_3 X dX3_read_28 ?_
  refine w_goto X 4 dX3_read_31 (by decide) ?_
  refine w_iload_n X dX3_read_4 rfl ?_
  refine w_aload_n X dX3_read_5 rfl ?_
  refine w_get X (isCr_k hc) (σ_cr G n0 _ _ hc) rfl gW_X3 0 (by decide) gF_X3_9 rfl dX3_read_6 ?_
  refine w_alen X (t := 0) (isCr_k1 hc) (σ_in G n0 _ _ hc) rfl dX3_read_9 ?_
  refine s_alen (b := 5) rfl ?_
  refine w_icmp_ge X 34 dX3_read_10 (by decide) (fun h9 => absurd h9 (by decide)) (fun _ => ?_)
  refine w_aload_n X dX3_read_13 rfl ?_
  refine w_get X (isCr_k hc) (σ_cr G n0 _ _ hc) rfl gW_X3 0 (by decide) gF_X3_9 rfl dX3_read_14 ?_
  refine w_iload_n X dX3_read_17 rfl ?_
  refine w_iload_n X dX3_read_18 rfl ?_
  refine w_bipush X dX3_read_19 rfl ?_
  refine w_irem X dX3_read_21 ?_
  refine s_iast X (4) (isCr_k1 hc) (fun _ => σ_in G n0 _ _ hc) dX3_read_22 ?_
  refine w_iload_n X dX3_read_23 rfl ?_
  refine w_bipush X dX3_read_24 rfl ?_
  refine w_idiv X dX3_read_26 ?_
  refine w_ist4_2 X dX3_read_27 ?_
  refine w_iinc4_3 X dX3_read_28 ?_
  refine w_goto X 4 dX3_read_31 (by decide) ?_
  refine w_iload_n X dX3_read_4 rfl ?_
  refine w_aload_n X dX3_read_5 rfl ?_
  refine w_get X (isCr_k hc) (σ_cr G n0 _ _ hc) rfl gW_X3 0 (by decide) gF_X3_9 rfl dX3_read_6 ?_
  refine w_alen X (t := 0) (isCr_k1 hc) (σ_in G n0 _ _ hc) rfl dX3_read_9 ?_
  refine s_alen (b := 5) rfl ?_
  refine w_icmp_ge X 34 dX3_read_10 (by decide) (fun _ => ?_) (fun h9 => absurd (by decide) h9)
  refine s_vret X hr dX3_read_34 ?_
  refine ⟨(row5_up mi (c + 1) (fun j => z / 10 ^ j % 10)).symm.trans ?_, rfl⟩
  have e0 : z / 10 ^ 0 = z := by simp
  have e1 : z / 10 ^ 1 = z / 10 := by simp
  have e2 : z / 10 ^ 2 = z / 10 / 10 := by show z / 100 = _; omega
  have e3 : z / 10 ^ 3 = z / 10 / 10 / 10 := by show z / 1000 = _; omega
  have e4 : z / 10 ^ 4 = z / 10 / 10 / 10 / 10 := by show z / 10000 = _; omega
  rw [e0, e1, e2, e3, e4]
end
section
/-! what a rule says, as its places hold it -/
def gol (ρ : Nat → Int) (j : Nat) : Int := if ρ 1 = 2 then ρ 6 / 10 ^ j % 10 else j
def lv (ρ : Nat → Int) (z : Int) : Int := (if z = ρ 2 then 1 else 0) + (if z = ρ 4 then 1 else 0)
def cm (ρ : Nat → Int) (z : Int) : Int := (if z = ρ 3 then 1 else 0) + (if z = ρ 5 then 1 else 0)
def nd (ρ : Nat → Int) (z : Int) : Int := if z = ρ 7 then 1 else 0
def fit (ρ v : Nat → Int) : Prop := ∀ j : Nat, j < 5 → lv ρ j + nd ρ j ≤ v j
def psm (ρ v : Nat → Int) : Nat → Nat → Int
  | 0, _ => 0
  | n + 1, x => psm ρ v n x + (if gol ρ n = x then v n - lv ρ n else 0)
def led (ρ v : Nat → Int) (x : Nat) : Int := psm ρ v 5 x + (if ρ 3 = x then 1 else 0) + (if ρ 5 = x then 1 else 0)
/-- a rule's places are in order, for so many states -/
def RV (sc : Int) (mi : Nat → Nat → Int) (k : Nat) : Prop := (0 ≤ mi k 1 ∧ mi k 1 ≤ 2) ∧ (0 ≤ mi k 2 ∧ mi k 2 < sc) ∧ (0 ≤ mi k 3 ∧ mi k 3 < sc) ∧ (mi k 1 = 1 ∧ (0 ≤ mi k 4 ∧ mi k 4 < sc) ∧ (0 ≤ mi k 5 ∧ mi k 5 < sc) ∨ mi k 1 ≠ 1 ∧ mi k 4 = -9 ∧ mi k 5 = -9) ∧ (-9 ≤ mi k 6 ∧ mi k 6 < 100000) ∧ (mi k 7 = -9 ∨ 0 ≤ mi k 7 ∧ mi k 7 < sc) ∧ (1 ≤ sc ∧ sc ≤ 5) ∧ ∀ j : Nat, j < 5 → mi (k + 1) j = gol (mi k) j ∧ 0 ≤ gol (mi k) j ∧ gol (mi k) j < 5 ∧ ((j : Int) < sc → gol (mi k) j < sc)
theorem lv_b (ρ : Nat → Int) (z : Int) : 0 ≤ lv ρ z ∧ lv ρ z ≤ 2 := by
  unfold lv
  by_cases h1 : z = ρ 2 <;> by_cases h2 : z = ρ 4 <;> simp [h1, h2]
  all_goals (first | (split <;> omega) | omega)
theorem row5_add {mi : Nat → Nat → Int} {k : Nat} {f : Nat → Int} {g x : Int} (h : 0 ≤ g ∧ g < 5) : up2 (row5 mi k f) k g.toNat (row5 mi k f k g.toNat + x) = row5 mi k (fun j => f j + if g = j then x else 0) := by
  funext a b
  by_cases ha : a = k
  · subst ha
    by_cases hb : b < 5
    · by_cases hg : b = g.toNat
      · have e : g = (b : Int) := by omega
        subst e
        simp [up2, row5, hb]
      · have e : ¬ g = (b : Int) := by omega
        simp [up2, row5, hb, hg, e]
    · have hg : ¬ b = g.toNat := by omega
      simp [up2, row5, hb, hg]
  · simp [up2, row5, ha]
theorem dX6_leavers_0 : decode cX6_leavers 0 = .ok (.iload_n 1, 1) := by decide +kernel
theorem dX6_leavers_1 : decode cX6_leavers 1 = .ok (.aload_n 0, 1) := by decide +kernel
theorem dX6_leavers_2 : decode cX6_leavers 2 = .ok (.getfield 19, 3) := by decide +kernel
theorem dX6_leavers_5 : decode cX6_leavers 5 = .ok (.if_icmp .ne 7, 3) := by decide +kernel
theorem dX6_leavers_8 : decode cX6_leavers 8 = .ok (.iconst 1, 1) := by decide +kernel
theorem dX6_leavers_9 : decode cX6_leavers 9 = .ok (.goto 4, 3) := by decide +kernel
theorem dX6_leavers_12 : decode cX6_leavers 12 = .ok (.iconst 0, 1) := by decide +kernel
theorem dX6_leavers_13 : decode cX6_leavers 13 = .ok (.iload_n 1, 1) := by decide +kernel
theorem dX6_leavers_14 : decode cX6_leavers 14 = .ok (.aload_n 0, 1) := by decide +kernel
theorem dX6_leavers_15 : decode cX6_leavers 15 = .ok (.getfield 25, 3) := by decide +kernel
theorem dX6_leavers_18 : decode cX6_leavers 18 = .ok (.if_icmp .ne 7, 3) := by decide +kernel
theorem dX6_leavers_21 : decode cX6_leavers 21 = .ok (.iconst 1, 1) := by decide +kernel
theorem dX6_leavers_22 : decode cX6_leavers 22 = .ok (.goto 4, 3) := by decide +kernel
theorem dX6_leavers_25 : decode cX6_leavers 25 = .ok (.iconst 0, 1) := by decide +kernel
theorem dX6_leavers_26 : decode cX6_leavers 26 = .ok (.iadd, 1) := by decide +kernel
theorem dX6_leavers_27 : decode cX6_leavers 27 = .ok (.ireturn, 1) := by decide +kernel
theorem dX6_comers_0 : decode cX6_comers 0 = .ok (.iload_n 1, 1) := by decide +kernel
theorem dX6_comers_1 : decode cX6_comers 1 = .ok (.aload_n 0, 1) := by decide +kernel
theorem dX6_comers_2 : decode cX6_comers 2 = .ok (.getfield 22, 3) := by decide +kernel
theorem dX6_comers_5 : decode cX6_comers 5 = .ok (.if_icmp .ne 7, 3) := by decide +kernel
theorem dX6_comers_8 : decode cX6_comers 8 = .ok (.iconst 1, 1) := by decide +kernel
theorem dX6_comers_9 : decode cX6_comers 9 = .ok (.goto 4, 3) := by decide +kernel
theorem dX6_comers_12 : decode cX6_comers 12 = .ok (.iconst 0, 1) := by decide +kernel
theorem dX6_comers_13 : decode cX6_comers 13 = .ok (.iload_n 1, 1) := by decide +kernel
theorem dX6_comers_14 : decode cX6_comers 14 = .ok (.aload_n 0, 1) := by decide +kernel
theorem dX6_comers_15 : decode cX6_comers 15 = .ok (.getfield 28, 3) := by decide +kernel
theorem dX6_comers_18 : decode cX6_comers 18 = .ok (.if_icmp .ne 7, 3) := by decide +kernel
theorem dX6_comers_21 : decode cX6_comers 21 = .ok (.iconst 1, 1) := by decide +kernel
theorem dX6_comers_22 : decode cX6_comers 22 = .ok (.goto 4, 3) := by decide +kernel
theorem dX6_comers_25 : decode cX6_comers 25 = .ok (.iconst 0, 1) := by decide +kernel
theorem dX6_comers_26 : decode cX6_comers 26 = .ok (.iadd, 1) := by decide +kernel
theorem dX6_comers_27 : decode cX6_comers 27 = .ok (.ireturn, 1) := by decide +kernel
theorem dX6_goalOf_0 : decode cX6_goalOf 0 = .ok (.iload_n 1, 1) := by decide +kernel
theorem dX6_goalOf_1 : decode cX6_goalOf 1 = .ok (.ifCond .lt 21, 3) := by decide +kernel
theorem dX6_goalOf_4 : decode cX6_goalOf 4 = .ok (.iload_n 1, 1) := by decide +kernel
theorem dX6_goalOf_5 : decode cX6_goalOf 5 = .ok (.aload_n 0, 1) := by decide +kernel
theorem dX6_goalOf_6 : decode cX6_goalOf 6 = .ok (.getfield 9, 3) := by decide +kernel
theorem dX6_goalOf_9 : decode cX6_goalOf 9 = .ok (.arraylength, 1) := by decide +kernel
theorem dX6_goalOf_10 : decode cX6_goalOf 10 = .ok (.if_icmp .ge 12, 3) := by decide +kernel
theorem dX6_goalOf_13 : decode cX6_goalOf 13 = .ok (.aload_n 0, 1) := by decide +kernel
theorem dX6_goalOf_14 : decode cX6_goalOf 14 = .ok (.getfield 9, 3) := by decide +kernel
theorem dX6_goalOf_17 : decode cX6_goalOf 17 = .ok (.iload_n 1, 1) := by decide +kernel
theorem dX6_goalOf_18 : decode cX6_goalOf 18 = .ok (.iaload, 1) := by decide +kernel
theorem dX6_goalOf_19 : decode cX6_goalOf 19 = .ok (.goto 5, 3) := by decide +kernel
theorem dX6_goalOf_22 : decode cX6_goalOf 22 = .ok (.bipush (-9), 2) := by decide +kernel
theorem dX6_goalOf_24 : decode cX6_goalOf 24 = .ok (.ireturn, 1) := by decide +kernel
theorem dX6_fits_0 : decode cX6_fits 0 = .ok (.iconst 0, 1) := by decide +kernel
theorem dX6_fits_1 : decode cX6_fits 1 = .ok (.istore_n 2, 1) := by decide +kernel
theorem dX6_fits_2 : decode cX6_fits 2 = .ok (.iload_n 2, 1) := by decide +kernel
theorem dX6_fits_3 : decode cX6_fits 3 = .ok (.iconst 5, 1) := by decide +kernel
theorem dX6_fits_4 : decode cX6_fits 4 = .ok (.if_icmp .ge 40, 3) := by decide +kernel
theorem dX6_fits_7 : decode cX6_fits 7 = .ok (.aload_n 0, 1) := by decide +kernel
theorem dX6_fits_8 : decode cX6_fits 8 = .ok (.iload_n 2, 1) := by decide +kernel
theorem dX6_fits_9 : decode cX6_fits 9 = .ok (.invokevirtual 40, 3) := by decide +kernel
theorem dX6_fits_12 : decode cX6_fits 12 = .ok (.iload_n 2, 1) := by decide +kernel
theorem dX6_fits_13 : decode cX6_fits 13 = .ok (.aload_n 0, 1) := by decide +kernel
theorem dX6_fits_14 : decode cX6_fits 14 = .ok (.getfield 34, 3) := by decide +kernel
theorem dX6_fits_17 : decode cX6_fits 17 = .ok (.if_icmp .ne 7, 3) := by decide +kernel
theorem dX6_fits_20 : decode cX6_fits 20 = .ok (.iconst 1, 1) := by decide +kernel
theorem dX6_fits_21 : decode cX6_fits 21 = .ok (.goto 4, 3) := by decide +kernel
theorem dX6_fits_24 : decode cX6_fits 24 = .ok (.iconst 0, 1) := by decide +kernel
theorem dX6_fits_25 : decode cX6_fits 25 = .ok (.iadd, 1) := by decide +kernel
theorem dX6_fits_26 : decode cX6_fits 26 = .ok (.istore_n 3, 1) := by decide +kernel
theorem dX6_fits_27 : decode cX6_fits 27 = .ok (.aload_n 1, 1) := by decide +kernel
theorem dX6_fits_28 : decode cX6_fits 28 = .ok (.iload_n 2, 1) := by decide +kernel
theorem dX6_fits_29 : decode cX6_fits 29 = .ok (.invokevirtual 44, 3) := by decide +kernel
theorem dX6_fits_32 : decode cX6_fits 32 = .ok (.iload_n 3, 1) := by decide +kernel
theorem dX6_fits_33 : decode cX6_fits 33 = .ok (.if_icmp .ge 5, 3) := by decide +kernel
theorem dX6_fits_36 : decode cX6_fits 36 = .ok (.iconst 0, 1) := by decide +kernel
theorem dX6_fits_37 : decode cX6_fits 37 = .ok (.ireturn, 1) := by decide +kernel
theorem dX6_fits_38 : decode cX6_fits 38 = .ok (.iinc 2 1, 3) := by decide +kernel
theorem dX6_fits_41 : decode cX6_fits 41 = .ok (.goto (-39), 3) := by decide +kernel
theorem dX6_fits_44 : decode cX6_fits 44 = .ok (.iconst 1, 1) := by decide +kernel
theorem dX6_fits_45 : decode cX6_fits 45 = .ok (.ireturn, 1) := by decide +kernel
theorem dX6_lead_0 : decode cX6_lead 0 = .ok (.aload_n 2, 1) := by decide +kernel
theorem dX6_lead_1 : decode cX6_lead 1 = .ok (.invokevirtual 49, 3) := by decide +kernel
theorem dX6_lead_4 : decode cX6_lead 4 = .ok (.iconst 0, 1) := by decide +kernel
theorem dX6_lead_5 : decode cX6_lead 5 = .ok (.istore_n 3, 1) := by decide +kernel
theorem dX6_lead_6 : decode cX6_lead 6 = .ok (.iload_n 3, 1) := by decide +kernel
theorem dX6_lead_7 : decode cX6_lead 7 = .ok (.aload_n 0, 1) := by decide +kernel
theorem dX6_lead_8 : decode cX6_lead 8 = .ok (.getfield 9, 3) := by decide +kernel
theorem dX6_lead_11 : decode cX6_lead 11 = .ok (.arraylength, 1) := by decide +kernel
theorem dX6_lead_12 : decode cX6_lead 12 = .ok (.if_icmp .ge 30, 3) := by decide +kernel
theorem dX6_lead_15 : decode cX6_lead 15 = .ok (.aload_n 2, 1) := by decide +kernel
theorem dX6_lead_16 : decode cX6_lead 16 = .ok (.aload_n 0, 1) := by decide +kernel
theorem dX6_lead_17 : decode cX6_lead 17 = .ok (.getfield 9, 3) := by decide +kernel
theorem dX6_lead_20 : decode cX6_lead 20 = .ok (.iload_n 3, 1) := by decide +kernel
theorem dX6_lead_21 : decode cX6_lead 21 = .ok (.iaload, 1) := by decide +kernel
theorem dX6_lead_22 : decode cX6_lead 22 = .ok (.aload_n 1, 1) := by decide +kernel
theorem dX6_lead_23 : decode cX6_lead 23 = .ok (.iload_n 3, 1) := by decide +kernel
theorem dX6_lead_24 : decode cX6_lead 24 = .ok (.invokevirtual 44, 3) := by decide +kernel
theorem dX6_lead_27 : decode cX6_lead 27 = .ok (.aload_n 0, 1) := by decide +kernel
theorem dX6_lead_28 : decode cX6_lead 28 = .ok (.iload_n 3, 1) := by decide +kernel
theorem dX6_lead_29 : decode cX6_lead 29 = .ok (.invokevirtual 40, 3) := by decide +kernel
theorem dX6_lead_32 : decode cX6_lead 32 = .ok (.isub, 1) := by decide +kernel
theorem dX6_lead_33 : decode cX6_lead 33 = .ok (.invokevirtual 52, 3) := by decide +kernel
theorem dX6_lead_36 : decode cX6_lead 36 = .ok (.iinc 3 1, 3) := by decide +kernel
theorem dX6_lead_39 : decode cX6_lead 39 = .ok (.goto (-33), 3) := by decide +kernel
theorem dX6_lead_42 : decode cX6_lead 42 = .ok (.aload_n 2, 1) := by decide +kernel
theorem dX6_lead_43 : decode cX6_lead 43 = .ok (.aload_n 0, 1) := by decide +kernel
theorem dX6_lead_44 : decode cX6_lead 44 = .ok (.getfield 22, 3) := by decide +kernel
theorem dX6_lead_47 : decode cX6_lead 47 = .ok (.iconst 1, 1) := by decide +kernel
theorem dX6_lead_48 : decode cX6_lead 48 = .ok (.invokevirtual 52, 3) := by decide +kernel
theorem dX6_lead_51 : decode cX6_lead 51 = .ok (.aload_n 2, 1) := by decide +kernel
theorem dX6_lead_52 : decode cX6_lead 52 = .ok (.aload_n 0, 1) := by decide +kernel
theorem dX6_lead_53 : decode cX6_lead 53 = .ok (.getfield 28, 3) := by decide +kernel
theorem dX6_lead_56 : decode cX6_lead 56 = .ok (.iconst 1, 1) := by decide +kernel
theorem dX6_lead_57 : decode cX6_lead 57 = .ok (.invokevirtual 52, 3) := by decide +kernel
theorem dX6_lead_60 : decode cX6_lead 60 = .ok (.return_, 1) := by decide +kernel
theorem dX6_findLack_0 : decode cX6_findLack 0 = .ok (.aload_n 0, 1) := by decide +kernel
theorem dX6_findLack_1 : decode cX6_findLack 1 = .ok (.getfield 25, 3) := by decide +kernel
theorem dX6_findLack_4 : decode cX6_findLack 4 = .ok (.bipush (-9), 2) := by decide +kernel
theorem dX6_findLack_6 : decode cX6_findLack 6 = .ok (.if_icmp .ne 7, 3) := by decide +kernel
theorem dX6_findLack_9 : decode cX6_findLack 9 = .ok (.iconst 1, 1) := by decide +kernel
theorem dX6_findLack_10 : decode cX6_findLack 10 = .ok (.goto 4, 3) := by decide +kernel
theorem dX6_findLack_13 : decode cX6_findLack 13 = .ok (.iconst 2, 1) := by decide +kernel
theorem dX6_findLack_14 : decode cX6_findLack 14 = .ok (.istore 4, 2) := by decide +kernel
theorem dX6_findLack_16 : decode cX6_findLack 16 = .ok (.aload_n 3, 1) := by decide +kernel
theorem dX6_findLack_17 : decode cX6_findLack 17 = .ok (.invokevirtual 49, 3) := by decide +kernel
theorem dX6_findLack_20 : decode cX6_findLack 20 = .ok (.iconst 0, 1) := by decide +kernel
theorem dX6_findLack_21 : decode cX6_findLack 21 = .ok (.istore 5, 2) := by decide +kernel
theorem dX6_findLack_23 : decode cX6_findLack 23 = .ok (.iload 5, 2) := by decide +kernel
theorem dX6_findLack_25 : decode cX6_findLack 25 = .ok (.iload_n 2, 1) := by decide +kernel
theorem dX6_findLack_26 : decode cX6_findLack 26 = .ok (.if_icmp .ge 91, 3) := by decide +kernel
theorem dX6_findLack_29 : decode cX6_findLack 29 = .ok (.iconst 0, 1) := by decide +kernel
theorem dX6_findLack_30 : decode cX6_findLack 30 = .ok (.aload_n 1, 1) := by decide +kernel
theorem dX6_findLack_31 : decode cX6_findLack 31 = .ok (.iload 5, 2) := by decide +kernel
theorem dX6_findLack_33 : decode cX6_findLack 33 = .ok (.invokevirtual 44, 3) := by decide +kernel
theorem dX6_findLack_36 : decode cX6_findLack 36 = .ok (.aload_n 0, 1) := by decide +kernel
theorem dX6_findLack_37 : decode cX6_findLack 37 = .ok (.iload 5, 2) := by decide +kernel
theorem dX6_findLack_39 : decode cX6_findLack 39 = .ok (.invokevirtual 56, 3) := by decide +kernel
theorem dX6_findLack_42 : decode cX6_findLack 42 = .ok (.isub, 1) := by decide +kernel
theorem dX6_findLack_43 : decode cX6_findLack 43 = .ok (.invokestatic 59, 3) := by decide +kernel
theorem dX6_findLack_46 : decode cX6_findLack 46 = .ok (.istore 6, 2) := by decide +kernel
theorem dX6_findLack_48 : decode cX6_findLack 48 = .ok (.iload 6, 2) := by decide +kernel
theorem dX6_findLack_50 : decode cX6_findLack 50 = .ok (.ifCond .le 16, 3) := by decide +kernel
theorem dX6_findLack_53 : decode cX6_findLack 53 = .ok (.aload_n 0, 1) := by decide +kernel
theorem dX6_findLack_54 : decode cX6_findLack 54 = .ok (.iload 5, 2) := by decide +kernel
theorem dX6_findLack_56 : decode cX6_findLack 56 = .ok (.iload_n 2, 1) := by decide +kernel
theorem dX6_findLack_57 : decode cX6_findLack 57 = .ok (.invokevirtual 65, 3) := by decide +kernel
theorem dX6_findLack_60 : decode cX6_findLack 60 = .ok (.ifCond .ne 6, 3) := by decide +kernel
theorem dX6_findLack_63 : decode cX6_findLack 63 = .ok (.bipush (-9), 2) := by decide +kernel
theorem dX6_findLack_65 : decode cX6_findLack 65 = .ok (.ireturn, 1) := by decide +kernel
theorem dX6_findLack_66 : decode cX6_findLack 66 = .ok (.aload_n 0, 1) := by decide +kernel
theorem dX6_findLack_67 : decode cX6_findLack 67 = .ok (.getfield 34, 3) := by decide +kernel
theorem dX6_findLack_70 : decode cX6_findLack 70 = .ok (.bipush (-9), 2) := by decide +kernel
theorem dX6_findLack_72 : decode cX6_findLack 72 = .ok (.if_icmp .eq 24, 3) := by decide +kernel
theorem dX6_findLack_75 : decode cX6_findLack 75 = .ok (.aload_n 0, 1) := by decide +kernel
theorem dX6_findLack_76 : decode cX6_findLack 76 = .ok (.aload_n 0, 1) := by decide +kernel
theorem dX6_findLack_77 : decode cX6_findLack 77 = .ok (.getfield 34, 3) := by decide +kernel
theorem dX6_findLack_80 : decode cX6_findLack 80 = .ok (.invokevirtual 69, 3) := by decide +kernel
theorem dX6_findLack_83 : decode cX6_findLack 83 = .ok (.iload 5, 2) := by decide +kernel
theorem dX6_findLack_85 : decode cX6_findLack 85 = .ok (.if_icmp .ne 11, 3) := by decide +kernel
theorem dX6_findLack_88 : decode cX6_findLack 88 = .ok (.iconst 1, 1) := by decide +kernel
theorem dX6_findLack_89 : decode cX6_findLack 89 = .ok (.iload 6, 2) := by decide +kernel
theorem dX6_findLack_91 : decode cX6_findLack 91 = .ok (.invokestatic 59, 3) := by decide +kernel
theorem dX6_findLack_94 : decode cX6_findLack 94 = .ok (.istore 6, 2) := by decide +kernel
theorem dX6_findLack_96 : decode cX6_findLack 96 = .ok (.aload_n 3, 1) := by decide +kernel
theorem dX6_findLack_97 : decode cX6_findLack 97 = .ok (.iload 5, 2) := by decide +kernel
theorem dX6_findLack_99 : decode cX6_findLack 99 = .ok (.iload 6, 2) := by decide +kernel
theorem dX6_findLack_101 : decode cX6_findLack 101 = .ok (.invokevirtual 72, 3) := by decide +kernel
theorem dX6_findLack_104 : decode cX6_findLack 104 = .ok (.iload 4, 2) := by decide +kernel
theorem dX6_findLack_106 : decode cX6_findLack 106 = .ok (.iload 6, 2) := by decide +kernel
theorem dX6_findLack_108 : decode cX6_findLack 108 = .ok (.iadd, 1) := by decide +kernel
theorem dX6_findLack_109 : decode cX6_findLack 109 = .ok (.istore 4, 2) := by decide +kernel
theorem dX6_findLack_111 : decode cX6_findLack 111 = .ok (.iinc 5 1, 3) := by decide +kernel
theorem dX6_findLack_114 : decode cX6_findLack 114 = .ok (.goto (-91), 3) := by decide +kernel
theorem dX6_findLack_117 : decode cX6_findLack 117 = .ok (.iload 4, 2) := by decide +kernel
theorem dX6_findLack_119 : decode cX6_findLack 119 = .ok (.ireturn, 1) := by decide +kernel
theorem dX6_isGoal_0 : decode cX6_isGoal 0 = .ok (.iconst 0, 1) := by decide +kernel
theorem dX6_isGoal_1 : decode cX6_isGoal 1 = .ok (.istore_n 3, 1) := by decide +kernel
theorem dX6_isGoal_2 : decode cX6_isGoal 2 = .ok (.iload_n 3, 1) := by decide +kernel
theorem dX6_isGoal_3 : decode cX6_isGoal 3 = .ok (.iload_n 2, 1) := by decide +kernel
theorem dX6_isGoal_4 : decode cX6_isGoal 4 = .ok (.if_icmp .ge 20, 3) := by decide +kernel
theorem dX6_isGoal_7 : decode cX6_isGoal 7 = .ok (.aload_n 0, 1) := by decide +kernel
theorem dX6_isGoal_8 : decode cX6_isGoal 8 = .ok (.iload_n 3, 1) := by decide +kernel
theorem dX6_isGoal_9 : decode cX6_isGoal 9 = .ok (.invokevirtual 69, 3) := by decide +kernel
theorem dX6_isGoal_12 : decode cX6_isGoal 12 = .ok (.iload_n 1, 1) := by decide +kernel
theorem dX6_isGoal_13 : decode cX6_isGoal 13 = .ok (.if_icmp .ne 5, 3) := by decide +kernel
theorem dX6_isGoal_16 : decode cX6_isGoal 16 = .ok (.iconst 1, 1) := by decide +kernel
theorem dX6_isGoal_17 : decode cX6_isGoal 17 = .ok (.ireturn, 1) := by decide +kernel
theorem dX6_isGoal_18 : decode cX6_isGoal 18 = .ok (.iinc 3 1, 3) := by decide +kernel
theorem dX6_isGoal_21 : decode cX6_isGoal 21 = .ok (.goto (-19), 3) := by decide +kernel
theorem dX6_isGoal_24 : decode cX6_isGoal 24 = .ok (.iconst 0, 1) := by decide +kernel
theorem dX6_isGoal_25 : decode cX6_isGoal 25 = .ok (.ireturn, 1) := by decide +kernel
theorem dX6_isLastToGoal_0 : decode cX6_isLastToGoal 0 = .ok (.iload_n 1, 1) := by decide +kernel
theorem dX6_isLastToGoal_1 : decode cX6_isLastToGoal 1 = .ok (.iconst 1, 1) := by decide +kernel
theorem dX6_isLastToGoal_2 : decode cX6_isLastToGoal 2 = .ok (.iadd, 1) := by decide +kernel
theorem dX6_isLastToGoal_3 : decode cX6_isLastToGoal 3 = .ok (.istore_n 3, 1) := by decide +kernel
theorem dX6_isLastToGoal_4 : decode cX6_isLastToGoal 4 = .ok (.iload_n 3, 1) := by decide +kernel
theorem dX6_isLastToGoal_5 : decode cX6_isLastToGoal 5 = .ok (.iload_n 2, 1) := by decide +kernel
theorem dX6_isLastToGoal_6 : decode cX6_isLastToGoal 6 = .ok (.if_icmp .ge 24, 3) := by decide +kernel
theorem dX6_isLastToGoal_9 : decode cX6_isLastToGoal 9 = .ok (.aload_n 0, 1) := by decide +kernel
theorem dX6_isLastToGoal_10 : decode cX6_isLastToGoal 10 = .ok (.iload_n 3, 1) := by decide +kernel
theorem dX6_isLastToGoal_11 : decode cX6_isLastToGoal 11 = .ok (.invokevirtual 69, 3) := by decide +kernel
theorem dX6_isLastToGoal_14 : decode cX6_isLastToGoal 14 = .ok (.aload_n 0, 1) := by decide +kernel
theorem dX6_isLastToGoal_15 : decode cX6_isLastToGoal 15 = .ok (.iload_n 1, 1) := by decide +kernel
theorem dX6_isLastToGoal_16 : decode cX6_isLastToGoal 16 = .ok (.invokevirtual 69, 3) := by decide +kernel
theorem dX6_isLastToGoal_19 : decode cX6_isLastToGoal 19 = .ok (.if_icmp .ne 5, 3) := by decide +kernel
theorem dX6_isLastToGoal_22 : decode cX6_isLastToGoal 22 = .ok (.iconst 0, 1) := by decide +kernel
theorem dX6_isLastToGoal_23 : decode cX6_isLastToGoal 23 = .ok (.ireturn, 1) := by decide +kernel
theorem dX6_isLastToGoal_24 : decode cX6_isLastToGoal 24 = .ok (.iinc 3 1, 3) := by decide +kernel
theorem dX6_isLastToGoal_27 : decode cX6_isLastToGoal 27 = .ok (.goto (-23), 3) := by decide +kernel
theorem dX6_isLastToGoal_30 : decode cX6_isLastToGoal 30 = .ok (.iconst 1, 1) := by decide +kernel
theorem dX6_isLastToGoal_31 : decode cX6_isLastToGoal 31 = .ok (.ireturn, 1) := by decide +kernel
theorem dX6_become_0 : decode cX6_become 0 = .ok (.aload_n 0, 1) := by decide +kernel
theorem dX6_become_1 : decode cX6_become 1 = .ok (.iload_n 1, 1) := by decide +kernel
theorem dX6_become_2 : decode cX6_become 2 = .ok (.putfield 15, 3) := by decide +kernel
theorem dX6_become_5 : decode cX6_become 5 = .ok (.aload_n 0, 1) := by decide +kernel
theorem dX6_become_6 : decode cX6_become 6 = .ok (.iload_n 2, 1) := by decide +kernel
theorem dX6_become_7 : decode cX6_become 7 = .ok (.putfield 19, 3) := by decide +kernel
theorem dX6_become_10 : decode cX6_become 10 = .ok (.aload_n 0, 1) := by decide +kernel
theorem dX6_become_11 : decode cX6_become 11 = .ok (.iload_n 3, 1) := by decide +kernel
theorem dX6_become_12 : decode cX6_become 12 = .ok (.putfield 22, 3) := by decide +kernel
theorem dX6_become_15 : decode cX6_become 15 = .ok (.aload_n 0, 1) := by decide +kernel
theorem dX6_become_16 : decode cX6_become 16 = .ok (.iload 4, 2) := by decide +kernel
theorem dX6_become_18 : decode cX6_become 18 = .ok (.putfield 25, 3) := by decide +kernel
theorem dX6_become_21 : decode cX6_become 21 = .ok (.aload_n 0, 1) := by decide +kernel
theorem dX6_become_22 : decode cX6_become 22 = .ok (.iload 5, 2) := by decide +kernel
theorem dX6_become_24 : decode cX6_become 24 = .ok (.putfield 28, 3) := by decide +kernel
theorem dX6_become_27 : decode cX6_become 27 = .ok (.aload_n 0, 1) := by decide +kernel
theorem dX6_become_28 : decode cX6_become 28 = .ok (.iload 6, 2) := by decide +kernel
theorem dX6_become_30 : decode cX6_become 30 = .ok (.putfield 31, 3) := by decide +kernel
theorem dX6_become_33 : decode cX6_become 33 = .ok (.aload_n 0, 1) := by decide +kernel
theorem dX6_become_34 : decode cX6_become 34 = .ok (.bipush (-9), 2) := by decide +kernel
theorem dX6_become_36 : decode cX6_become 36 = .ok (.putfield 34, 3) := by decide +kernel
theorem dX6_become_39 : decode cX6_become 39 = .ok (.aload_n 0, 1) := by decide +kernel
theorem dX6_become_40 : decode cX6_become 40 = .ok (.invokevirtual 37, 3) := by decide +kernel
theorem dX6_become_43 : decode cX6_become 43 = .ok (.return_, 1) := by decide +kernel
theorem dX6_setGoals_0 : decode cX6_setGoals 0 = .ok (.aload_n 0, 1) := by decide +kernel
theorem dX6_setGoals_1 : decode cX6_setGoals 1 = .ok (.getfield 31, 3) := by decide +kernel
theorem dX6_setGoals_4 : decode cX6_setGoals 4 = .ok (.istore_n 1, 1) := by decide +kernel
theorem dX6_setGoals_5 : decode cX6_setGoals 5 = .ok (.iconst 0, 1) := by decide +kernel
theorem dX6_setGoals_6 : decode cX6_setGoals 6 = .ok (.istore_n 2, 1) := by decide +kernel
theorem dX6_setGoals_7 : decode cX6_setGoals 7 = .ok (.iload_n 2, 1) := by decide +kernel
theorem dX6_setGoals_8 : decode cX6_setGoals 8 = .ok (.aload_n 0, 1) := by decide +kernel
theorem dX6_setGoals_9 : decode cX6_setGoals 9 = .ok (.getfield 9, 3) := by decide +kernel
theorem dX6_setGoals_12 : decode cX6_setGoals 12 = .ok (.arraylength, 1) := by decide +kernel
theorem dX6_setGoals_13 : decode cX6_setGoals 13 = .ok (.if_icmp .ge 36, 3) := by decide +kernel
theorem dX6_setGoals_16 : decode cX6_setGoals 16 = .ok (.aload_n 0, 1) := by decide +kernel
theorem dX6_setGoals_17 : decode cX6_setGoals 17 = .ok (.getfield 9, 3) := by decide +kernel
theorem dX6_setGoals_20 : decode cX6_setGoals 20 = .ok (.iload_n 2, 1) := by decide +kernel
theorem dX6_setGoals_21 : decode cX6_setGoals 21 = .ok (.aload_n 0, 1) := by decide +kernel
theorem dX6_setGoals_22 : decode cX6_setGoals 22 = .ok (.getfield 15, 3) := by decide +kernel
theorem dX6_setGoals_25 : decode cX6_setGoals 25 = .ok (.iconst 2, 1) := by decide +kernel
theorem dX6_setGoals_26 : decode cX6_setGoals 26 = .ok (.if_icmp .ne 10, 3) := by decide +kernel
theorem dX6_setGoals_29 : decode cX6_setGoals 29 = .ok (.iload_n 1, 1) := by decide +kernel
theorem dX6_setGoals_30 : decode cX6_setGoals 30 = .ok (.bipush 10, 2) := by decide +kernel
theorem dX6_setGoals_32 : decode cX6_setGoals 32 = .ok (.irem, 1) := by decide +kernel
theorem dX6_setGoals_33 : decode cX6_setGoals 33 = .ok (.goto 4, 3) := by decide +kernel
theorem dX6_setGoals_36 : decode cX6_setGoals 36 = .ok (.iload_n 2, 1) := by decide +kernel
theorem dX6_setGoals_37 : decode cX6_setGoals 37 = .ok (.iastore, 1) := by decide +kernel
theorem dX6_setGoals_38 : decode cX6_setGoals 38 = .ok (.iload_n 1, 1) := by decide +kernel
theorem dX6_setGoals_39 : decode cX6_setGoals 39 = .ok (.bipush 10, 2) := by decide +kernel
theorem dX6_setGoals_41 : decode cX6_setGoals 41 = .ok (.idiv, 1) := by decide +kernel
theorem dX6_setGoals_42 : decode cX6_setGoals 42 = .ok (.istore_n 1, 1) := by decide +kernel
theorem dX6_setGoals_43 : decode cX6_setGoals 43 = .ok (.iinc 2 1, 3) := by decide +kernel
theorem dX6_setGoals_46 : decode cX6_setGoals 46 = .ok (.goto (-39), 3) := by decide +kernel
theorem dX6_setGoals_49 : decode cX6_setGoals 49 = .ok (.return_, 1) := by decide +kernel
theorem hl_yX6_leavers : (yX6_leavers.cls ≠ "java/lang/invoke/MethodHandle" ∧ yX6_leavers.cls ≠ "java/lang/invoke/VarHandle") ∧ (parseMethodDescriptor yX6_leavers.desc).map (fun d => d.parameters.length) = some 1 := by decide +kernel
theorem hl_yX6_comers : (yX6_comers.cls ≠ "java/lang/invoke/MethodHandle" ∧ yX6_comers.cls ≠ "java/lang/invoke/VarHandle") ∧ (parseMethodDescriptor yX6_comers.desc).map (fun d => d.parameters.length) = some 1 := by decide +kernel
theorem hl_yX6_goalOf : (yX6_goalOf.cls ≠ "java/lang/invoke/MethodHandle" ∧ yX6_goalOf.cls ≠ "java/lang/invoke/VarHandle") ∧ (parseMethodDescriptor yX6_goalOf.desc).map (fun d => d.parameters.length) = some 1 := by decide +kernel
theorem hl_yX6_fits : (yX6_fits.cls ≠ "java/lang/invoke/MethodHandle" ∧ yX6_fits.cls ≠ "java/lang/invoke/VarHandle") ∧ (parseMethodDescriptor yX6_fits.desc).map (fun d => d.parameters.length) = some 1 := by decide +kernel
theorem hl_yX6_lead : (yX6_lead.cls ≠ "java/lang/invoke/MethodHandle" ∧ yX6_lead.cls ≠ "java/lang/invoke/VarHandle") ∧ (parseMethodDescriptor yX6_lead.desc).map (fun d => d.parameters.length) = some 2 := by decide +kernel
theorem hl_yX6_findLack : (yX6_findLack.cls ≠ "java/lang/invoke/MethodHandle" ∧ yX6_findLack.cls ≠ "java/lang/invoke/VarHandle") ∧ (parseMethodDescriptor yX6_findLack.desc).map (fun d => d.parameters.length) = some 3 := by decide +kernel
theorem hl_yX6_isGoal : (yX6_isGoal.cls ≠ "java/lang/invoke/MethodHandle" ∧ yX6_isGoal.cls ≠ "java/lang/invoke/VarHandle") ∧ (parseMethodDescriptor yX6_isGoal.desc).map (fun d => d.parameters.length) = some 2 := by decide +kernel
theorem hl_yX6_isLastToGoal : (yX6_isLastToGoal.cls ≠ "java/lang/invoke/MethodHandle" ∧ yX6_isLastToGoal.cls ≠ "java/lang/invoke/VarHandle") ∧ (parseMethodDescriptor yX6_isLastToGoal.desc).map (fun d => d.parameters.length) = some 2 := by decide +kernel
theorem hl_yX6_become : (yX6_become.cls ≠ "java/lang/invoke/MethodHandle" ∧ yX6_become.cls ≠ "java/lang/invoke/VarHandle") ∧ (parseMethodDescriptor yX6_become.desc).map (fun d => d.parameters.length) = some 6 := by decide +kernel
theorem hl_yX6_setGoals : (yX6_setGoals.cls ≠ "java/lang/invoke/MethodHandle" ∧ yX6_setGoals.cls ≠ "java/lang/invoke/VarHandle") ∧ (parseMethodDescriptor yX6_setGoals.desc).map (fun d => d.parameters.length) = some 0 := by decide +kernel
set_option maxRecDepth 20000 in
set_option maxHeartbeats 4000000 in
theorem c_X6_leavers {l : Launch} {G : Gt} {n0 : Nat} {mi : Nat → Nat → Int} {mr : Nat → Nat → Nat} {k : Nat} (hk : isRu k) {sc : Int} (hv : RV sc mi k) {z : Int} (hz : rg z) : Ci l yX6_leavers cX6_leavers 2 .int 1 G n0 [.ref (n0 + k), .int (jI z)] mi mr (fun r9 mi9 mr9 => mi = mi9 ∧ mr = mr9 ∧ r9 = lv (mi k) z ∧ 0 ≤ r9 ∧ r9 ≤ 2) := by
  refine Ct_of (by decide +kernel) (by intro v hv; simp at hv; rcases hv with rfl | rfl <;> rfl) (Nat.le_of_ble_eq_true rfl) ?_
  intro p e s m args below meth c9 X hr hname
  show WW _ _ _ _ _ _ _ _ _ _ _ _ _ _ _ _ _ _ _ [some (.ref (n0 + k)), some (.int (jI z))] _
  obtain ⟨v1, v2, v3, v4, v6, v7, vs, vg⟩ := id hv
  refine w_iload_n X dX6_leavers_0 rfl ?_
  refine w_aload_n X dX6_leavers_1 rfl ?_
  refine w_get X (isRu_k hk) (σ_ru G n0 _ _ hk) rfl gW_X6 2 (by decide) gF_X6_19 rfl dX6_leavers_2 ?_
  refine w_icmp_ne X 12 dX6_leavers_5 (by decide) (fun c5_1 => ?_) (fun c5_1 => ?_)
  ·
    refine w_iconst X dX6_leavers_12 ?_
    refine w_iload_n X dX6_leavers_13 rfl ?_
    refine w_aload_n X dX6_leavers_14 rfl ?_
    refine w_get X (isRu_k hk) (σ_ru G n0 _ _ hk) rfl gW_X6 4 (by decide) gF_X6_25 rfl dX6_leavers_15 ?_
    refine w_icmp_ne X 25 dX6_leavers_18 (by decide) (fun c18_2 => ?_) (fun c18_2 => ?_)
    ·
      refine w_iconst X dX6_leavers_25 ?_
      refine w_iadd X dX6_leavers_26 ?_
      refine s_iret X hr dX6_leavers_27 ?_
      refine ⟨rfl, rfl, ?_, by omega, by omega⟩
      unfold lv
      repeat (first | rw [if_pos (by assumption)] | rw [if_neg (by assumption)])
    ·
      refine w_iconst X dX6_leavers_21 ?_
      refine w_goto X 26 dX6_leavers_22 (by decide) ?_
      refine w_iadd X dX6_leavers_26 ?_
      refine s_iret X hr dX6_leavers_27 ?_
      refine ⟨rfl, rfl, ?_, by omega, by omega⟩
      unfold lv
      repeat (first | rw [if_pos (by assumption)] | rw [if_neg (by assumption)])
  ·
    refine w_iconst X dX6_leavers_8 ?_
    refine w_goto X 13 dX6_leavers_9 (by decide) ?_
    refine w_iload_n X dX6_leavers_13 rfl ?_
    refine w_aload_n X dX6_leavers_14 rfl ?_
    refine w_get X (isRu_k hk) (σ_ru G n0 _ _ hk) rfl gW_X6 4 (by decide) gF_X6_25 rfl dX6_leavers_15 ?_
    refine w_icmp_ne X 25 dX6_leavers_18 (by decide) (fun c18_3 => ?_) (fun c18_3 => ?_)
    ·
      refine w_iconst X dX6_leavers_25 ?_
      refine w_iadd X dX6_leavers_26 ?_
      refine s_iret X hr dX6_leavers_27 ?_
      refine ⟨rfl, rfl, ?_, by omega, by omega⟩
      unfold lv
      repeat (first | rw [if_pos (by assumption)] | rw [if_neg (by assumption)])
    ·
      refine w_iconst X dX6_leavers_21 ?_
      refine w_goto X 26 dX6_leavers_22 (by decide) ?_
      refine w_iadd X dX6_leavers_26 ?_
      refine s_iret X hr dX6_leavers_27 ?_
      refine ⟨rfl, rfl, ?_, by omega, by omega⟩
      unfold lv
      repeat (first | rw [if_pos (by assumption)] | rw [if_neg (by assumption)])
set_option maxRecDepth 20000 in
set_option maxHeartbeats 4000000 in
theorem c_X6_comers {l : Launch} {G : Gt} {n0 : Nat} {mi : Nat → Nat → Int} {mr : Nat → Nat → Nat} {k : Nat} (hk : isRu k) {sc : Int} (hv : RV sc mi k) {z : Int} (hz : rg z) : Ci l yX6_comers cX6_comers 2 .int 1 G n0 [.ref (n0 + k), .int (jI z)] mi mr (fun r9 mi9 mr9 => mi = mi9 ∧ mr = mr9 ∧ r9 = cm (mi k) z ∧ 0 ≤ r9 ∧ r9 ≤ 2) := by
  refine Ct_of (by decide +kernel) (by intro v hv; simp at hv; rcases hv with rfl | rfl <;> rfl) (Nat.le_of_ble_eq_true rfl) ?_
  intro p e s m args below meth c9 X hr hname
  show WW _ _ _ _ _ _ _ _ _ _ _ _ _ _ _ _ _ _ _ [some (.ref (n0 + k)), some (.int (jI z))] _
  obtain ⟨v1, v2, v3, v4, v6, v7, vs, vg⟩ := id hv
  refine w_iload_n X dX6_comers_0 rfl ?_
  refine w_aload_n X dX6_comers_1 rfl ?_
  refine w_get X (isRu_k hk) (σ_ru G n0 _ _ hk) rfl gW_X6 3 (by decide) gF_X6_22 rfl dX6_comers_2 ?_
  refine w_icmp_ne X 12 dX6_comers_5 (by decide) (fun c5_1 => ?_) (fun c5_1 => ?_)
  ·
    refine w_iconst X dX6_comers_12 ?_
    refine w_iload_n X dX6_comers_13 rfl ?_
    refine w_aload_n X dX6_comers_14 rfl ?_
    refine w_get X (isRu_k hk) (σ_ru G n0 _ _ hk) rfl gW_X6 5 (by decide) gF_X6_28 rfl dX6_comers_15 ?_
    refine w_icmp_ne X 25 dX6_comers_18 (by decide) (fun c18_2 => ?_) (fun c18_2 => ?_)
    ·
      refine w_iconst X dX6_comers_25 ?_
      refine w_iadd X dX6_comers_26 ?_
      refine s_iret X hr dX6_comers_27 ?_
      refine ⟨rfl, rfl, ?_, by omega, by omega⟩
      unfold cm
      repeat (first | rw [if_pos (by assumption)] | rw [if_neg (by assumption)])
    ·
      refine w_iconst X dX6_comers_21 ?_
      refine w_goto X 26 dX6_comers_22 (by decide) ?_
      refine w_iadd X dX6_comers_26 ?_
      refine s_iret X hr dX6_comers_27 ?_
      refine ⟨rfl, rfl, ?_, by omega, by omega⟩
      unfold cm
      repeat (first | rw [if_pos (by assumption)] | rw [if_neg (by assumption)])
  ·
    refine w_iconst X dX6_comers_8 ?_
    refine w_goto X 13 dX6_comers_9 (by decide) ?_
    refine w_iload_n X dX6_comers_13 rfl ?_
    refine w_aload_n X dX6_comers_14 rfl ?_
    refine w_get X (isRu_k hk) (σ_ru G n0 _ _ hk) rfl gW_X6 5 (by decide) gF_X6_28 rfl dX6_comers_15 ?_
    refine w_icmp_ne X 25 dX6_comers_18 (by decide) (fun c18_3 => ?_) (fun c18_3 => ?_)
    ·
      refine w_iconst X dX6_comers_25 ?_
      refine w_iadd X dX6_comers_26 ?_
      refine s_iret X hr dX6_comers_27 ?_
      refine ⟨rfl, rfl, ?_, by omega, by omega⟩
      unfold cm
      repeat (first | rw [if_pos (by assumption)] | rw [if_neg (by assumption)])
    ·
      refine w_iconst X dX6_comers_21 ?_
      refine w_goto X 26 dX6_comers_22 (by decide) ?_
      refine w_iadd X dX6_comers_26 ?_
      refine s_iret X hr dX6_comers_27 ?_
      refine ⟨rfl, rfl, ?_, by omega, by omega⟩
      unfold cm
      repeat (first | rw [if_pos (by assumption)] | rw [if_neg (by assumption)])
set_option maxRecDepth 20000 in
set_option maxHeartbeats 4000000 in
theorem c_X6_goalOf {l : Launch} {G : Gt} {n0 : Nat} {mi : Nat → Nat → Int} {mr : Nat → Nat → Nat} {k : Nat} (hk : isRu k) {sc : Int} (hv : RV sc mi k) {z : Int} (hz : rg z) : Ci l yX6_goalOf cX6_goalOf 2 .int 1 G n0 [.ref (n0 + k), .int (jI z)] mi mr (fun r9 mi9 mr9 => mi = mi9 ∧ mr = mr9 ∧ (r9 = if 0 ≤ z ∧ z < 5 then gol (mi k) z.toNat else -9) ∧ -9 ≤ r9 ∧ r9 < 5) := by
  refine Ct_of (by decide +kernel) (by intro v hv; simp at hv; rcases hv with rfl | rfl <;> rfl) (Nat.le_of_ble_eq_true rfl) ?_
  intro p e s m args below meth c9 X hr hname
  show WW _ _ _ _ _ _ _ _ _ _ _ _ _ _ _ _ _ _ _ [some (.ref (n0 + k)), some (.int (jI z))] _
  obtain ⟨v1, v2, v3, v4, v6, v7, vs, vg⟩ := id hv
  refine w_iload_n X dX6_goalOf_0 rfl ?_
  refine w_if_lt X 22 dX6_goalOf_1 (by decide) (fun c1_1 => ?_) (fun c1_1 => ?_)
  ·
    refine w_bipush X dX6_goalOf_22 rfl ?_
    refine s_iret X hr dX6_goalOf_24 ?_
    first | (have q := vg z.toNat (by omega); exact ⟨rfl, rfl, by rw [if_pos ⟨by omega, by omega⟩]; exact q.1, by omega, by omega⟩) | exact ⟨rfl, rfl, by rw [if_neg (by omega)], by omega, by omega⟩
  ·
    refine w_iload_n X dX6_goalOf_4 rfl ?_
    refine w_aload_n X dX6_goalOf_5 rfl ?_
    refine w_get X (isRu_k hk) (σ_ru G n0 _ _ hk) rfl gW_X6 0 (by decide) gF_X6_9 rfl dX6_goalOf_6 ?_
    refine w_alen X (t := 0) (isRu_k1 hk) (σ_go G n0 _ _ hk) rfl dX6_goalOf_9 ?_
    refine s_alen (b := 5) rfl ?_
    refine w_icmp_ge X 22 dX6_goalOf_10 (by decide) (fun c10_2 => ?_) (fun c10_2 => ?_)
    ·
      refine w_bipush X dX6_goalOf_22 rfl ?_
      refine s_iret X hr dX6_goalOf_24 ?_
      first | (have q := vg z.toNat (by omega); exact ⟨rfl, rfl, by rw [if_pos ⟨by omega, by omega⟩]; exact q.1, by omega, by omega⟩) | exact ⟨rfl, rfl, by rw [if_neg (by omega)], by omega, by omega⟩
    ·
      refine w_aload_n X dX6_goalOf_13 rfl ?_
      refine w_get X (isRu_k hk) (σ_ru G n0 _ _ hk) rfl gW_X6 0 (by decide) gF_X6_9 rfl dX6_goalOf_14 ?_
      refine w_iload_n X dX6_goalOf_17 rfl ?_
      refine s_iald X _ (isRu_k1 hk) (fun _ => σ_go G n0 _ _ hk) dX6_goalOf_18 ?_ (hj := rfl)
      refine w_goto X 24 dX6_goalOf_19 (by decide) ?_
      refine s_iret X hr dX6_goalOf_24 ?_
      first | (have q := vg z.toNat (by omega); exact ⟨rfl, rfl, by rw [if_pos ⟨by omega, by omega⟩]; exact q.1, by omega, by omega⟩) | exact ⟨rfl, rfl, by rw [if_neg (by omega)], by omega, by omega⟩
set_option maxRecDepth 20000 in
set_option maxHeartbeats 4000000 in
theorem c_X6_fits {l : Launch} {G : Gt} {n0 : Nat} {mi : Nat → Nat → Int} {mr : Nat → Nat → Nat} {k : Nat} (hk : isRu k) {sc : Int} (hv : RV sc mi k) {c : Nat} (hc : isCr c) (hb : CB mi c) : Ci l yX6_fits cX6_fits 4 .boolean 2 G n0 [.ref (n0 + k), .ref (n0 + c)] mi mr (fun r9 mi9 mr9 => mi = mi9 ∧ mr = mr9 ∧ (r9 = 1 ∧ fit (mi k) (mi (c + 1)) ∨ r9 = 0 ∧ ¬ fit (mi k) (mi (c + 1)))) := by
  refine Ct_of (by decide +kernel) (by intro v hv; simp at hv; rcases hv with rfl | rfl <;> rfl) (Nat.le_of_ble_eq_true rfl) ?_
  intro p e s m args below meth c9 X hr hname
  show WW _ _ _ _ _ _ _ _ _ _ _ _ _ _ _ _ _ _ _ [some (.ref (n0 + k)), some (.ref (n0 + c)), none, none] _
  obtain ⟨v1, v2, v3, v4, v6, v7, vs, vg⟩ := id hv
  have hcb : ∀ j : Nat, j < 5 → 0 ≤ mi (c + 1) j ∧ mi (c + 1) j ≤ 1000 := CB_at hb
  refine w_iconst X dX6_fits_0 ?_
  refine w_ist4_2 X dX6_fits_1 ?_
  have loop : ∀ (n : Nat) (i : Nat) (x3 : Option Value), (i ≤ 5) → (∀ j : Nat, j < i → lv (mi k) j + nd (mi k) j ≤ mi (c + 1) j) → n = 5 - i → WSi p l e s m args below meth c9 2 (fun r9 mi9 mr9 => mi = mi9 ∧ mr = mr9 ∧ (r9 = 1 ∧ fit (mi k) (mi (c + 1)) ∨ r9 = 0 ∧ ¬ fit (mi k) (mi (c + 1)))) G n0 4 mi mr 2 [some (.ref (n0 + k)), some (.ref (n0 + c)), some (.int (jI (i : Int))), x3] [] := by
    intro n
    induction n using Nat.strongRecOn with
    | ind n ih_loop =>
      intro i x3 hi hinv hn
      refine w_iload_n X dX6_fits_2 rfl ?_
      refine w_iconst X dX6_fits_3 ?_
      refine w_icmp_ge X 44 dX6_fits_4 (by decide) (fun c4_1 => ?_) (fun c4_1 => ?_)
      ·
        refine w_iconst X dX6_fits_44 ?_
        refine s_zret X hr dX6_fits_45 (by omega) ?_
        exact ⟨rfl, rfl, Or.inl ⟨rfl, fun j hj => hinv j (by omega)⟩⟩
      ·
        refine w_aload_n X dX6_fits_7 rfl ?_
        refine w_iload_n X dX6_fits_8 rfl ?_
        refine s_callVi X _ (c_X6_leavers (l := l) (G := G) (n0 := n0) hk hv (by first | assumption | (refine ⟨?_, ?_⟩ <;> omega))) gM_X6_40 gI_yX6_leavers gS_yX6_leavers gN_X6 gC_yX6_leavers (isRu_k hk) (σ_ru G n0 _ _ hk) rfl dX6_fits_9 hl_yX6_leavers ⟨Nat.le_of_ble_eq_true rfl, Nat.le_of_ble_eq_true rfl⟩ (Nat.le_of_ble_eq_true rfl) rfl (fun r1 mi1 mr1 h1 => ?_)
        obtain ⟨rfl, rfl, h1, b9, b9b⟩ := h1
        refine w_iload_n X dX6_fits_12 rfl ?_
        refine w_aload_n X dX6_fits_13 rfl ?_
        refine w_get X (isRu_k hk) (σ_ru G n0 _ _ hk) rfl gW_X6 7 (by decide) gF_X6_34 rfl dX6_fits_14 ?_
        refine w_icmp_ne X 24 dX6_fits_17 (by decide) (fun c17_2 => ?_) (fun c17_2 => ?_)
        ·
          have hn : nd (mi k) i = 0 := if_neg (by assumption)
          refine w_iconst X dX6_fits_24 ?_
          refine w_iadd X dX6_fits_25 ?_
          refine w_ist4_3 X dX6_fits_26 ?_
          refine w_aload_n X dX6_fits_27 rfl ?_
          refine w_iload_n X dX6_fits_28 rfl ?_
          refine s_callVi X _ (c_X3_of (l := l) (G := G) (n0 := n0) hc (by first | assumption | (refine ⟨?_, ?_⟩ <;> omega))) gM_X6_44 gI_yX3_of gS_yX3_of gN_X3 gC_yX3_of (isCr_k hc) (σ_cr G n0 _ _ hc) rfl dX6_fits_29 hl_yX3_of ⟨Nat.le_of_ble_eq_true rfl, Nat.le_of_ble_eq_true rfl⟩ (Nat.le_of_ble_eq_true rfl) rfl (fun r2 mi2 mr2 h2 => ?_)
          obtain ⟨rfl, rfl, h2⟩ := h2
          rw [if_pos ⟨by omega, by omega⟩, Int.toNat_natCast] at h2
          refine w_iload_n X dX6_fits_32 rfl ?_
          have q8 := hcb i (by omega)
          refine w_icmp_ge X 38 dX6_fits_33 (by decide) (fun c33_3 => ?_) (fun c33_3 => ?_)
          ·
            refine w_iinc4_2 X dX6_fits_38 ?_
            refine w_goto X 2 dX6_fits_41 (by decide) ?_
            exact ih_loop _ (by omega) (i + 1) _ (by omega) (fun j hj => by rcases (show j < i ∨ j = i by omega) with q | q; exact hinv j q; subst q; omega) rfl
          ·
            refine w_iconst X dX6_fits_36 ?_
            refine s_zret X hr dX6_fits_37 (by omega) ?_
            refine ⟨rfl, rfl, Or.inr ⟨rfl, fun hf => ?_⟩⟩
            have q := hf i (by omega)
            omega
        ·
          have hn : nd (mi k) i = 1 := if_pos (by assumption)
          refine w_iconst X dX6_fits_20 ?_
          refine w_goto X 25 dX6_fits_21 (by decide) ?_
          refine w_iadd X dX6_fits_25 ?_
          refine w_ist4_3 X dX6_fits_26 ?_
          refine w_aload_n X dX6_fits_27 rfl ?_
          refine w_iload_n X dX6_fits_28 rfl ?_
          refine s_callVi X _ (c_X3_of (l := l) (G := G) (n0 := n0) hc (by first | assumption | (refine ⟨?_, ?_⟩ <;> omega))) gM_X6_44 gI_yX3_of gS_yX3_of gN_X3 gC_yX3_of (isCr_k hc) (σ_cr G n0 _ _ hc) rfl dX6_fits_29 hl_yX3_of ⟨Nat.le_of_ble_eq_true rfl, Nat.le_of_ble_eq_true rfl⟩ (Nat.le_of_ble_eq_true rfl) rfl (fun r2 mi2 mr2 h2 => ?_)
          obtain ⟨rfl, rfl, h2⟩ := h2
          rw [if_pos ⟨by omega, by omega⟩, Int.toNat_natCast] at h2
          refine w_iload_n X dX6_fits_32 rfl ?_
          have q8 := hcb i (by omega)
          refine w_icmp_ge X 38 dX6_fits_33 (by decide) (fun c33_4 => ?_) (fun c33_4 => ?_)
          ·
            refine w_iinc4_2 X dX6_fits_38 ?_
            refine w_goto X 2 dX6_fits_41 (by decide) ?_
            exact ih_loop _ (by omega) (i + 1) _ (by omega) (fun j hj => by rcases (show j < i ∨ j = i by omega) with q | q; exact hinv j q; subst q; omega) rfl
          ·
            refine w_iconst X dX6_fits_36 ?_
            refine s_zret X hr dX6_fits_37 (by omega) ?_
            refine ⟨rfl, rfl, Or.inr ⟨rfl, fun hf => ?_⟩⟩
            have q := hf i (by omega)
            omega
  exact loop _ 0 none (by omega) (fun j hj => absurd hj (by omega)) rfl
set_option maxRecDepth 20000 in
set_option maxHeartbeats 4000000 in
theorem c_X6_isGoal {l : Launch} {G : Gt} {n0 : Nat} {mi : Nat → Nat → Int} {mr : Nat → Nat → Nat} {k : Nat} (hk : isRu k) {sc : Int} (hv : RV sc mi k) {z : Int} (hz : rg z) : Ci l yX6_isGoal cX6_isGoal 4 .boolean 2 G n0 [.ref (n0 + k), .int (jI z), .int (jI sc)] mi mr (fun r9 mi9 mr9 => mi = mi9 ∧ mr = mr9 ∧ (r9 = 1 ∧ (∃ j : Nat, (j : Int) < sc ∧ gol (mi k) j = z) ∨ r9 = 0 ∧ ∀ j : Nat, (j : Int) < sc → gol (mi k) j ≠ z)) := by
  refine Ct_of (by decide +kernel) (by intro v hv; simp at hv; rcases hv with rfl | rfl | rfl <;> rfl) (Nat.le_of_ble_eq_true rfl) ?_
  intro p e s m args below meth c9 X hr hname
  show WW _ _ _ _ _ _ _ _ _ _ _ _ _ _ _ _ _ _ _ [some (.ref (n0 + k)), some (.int (jI z)), some (.int (jI sc)), none] _
  obtain ⟨v1, v2, v3, v4, v6, v7, vs, vg⟩ := id hv
  refine w_iconst X dX6_isGoal_0 ?_
  refine w_ist4_3 X dX6_isGoal_1 ?_
  have loop : ∀ (n : Nat) (i : Nat) (x3 : Option Value), ((i : Int) ≤ sc) → (∀ j : Nat, j < i → gol (mi k) j ≠ z) → n = 5 - i → WSi p l e s m args below meth c9 2 (fun r9 mi9 mr9 => mi = mi9 ∧ mr = mr9 ∧ (r9 = 1 ∧ (∃ j : Nat, (j : Int) < sc ∧ gol (mi k) j = z) ∨ r9 = 0 ∧ ∀ j : Nat, (j : Int) < sc → gol (mi k) j ≠ z)) G n0 4 mi mr 2 [some (.ref (n0 + k)), some (.int (jI z)), some (.int (jI sc)), some (.int (jI (i : Int)))] [] := by
    intro n
    induction n using Nat.strongRecOn with
    | ind n ih_loop =>
      intro i x3 hi hinv hn
      refine w_iload_n X dX6_isGoal_2 rfl ?_
      refine w_iload_n X dX6_isGoal_3 rfl ?_
      refine w_icmp_ge X 24 dX6_isGoal_4 (by decide) (fun c4_1 => ?_) (fun c4_1 => ?_)
      ·
        refine w_iconst X dX6_isGoal_24 ?_
        refine s_zret X hr dX6_isGoal_25 (by omega) ?_
        exact ⟨rfl, rfl, Or.inr ⟨rfl, fun j hj => hinv j (by omega)⟩⟩
      ·
        refine w_aload_n X dX6_isGoal_7 rfl ?_
        refine w_iload_n X dX6_isGoal_8 rfl ?_
        refine s_callVi X _ (c_X6_goalOf (l := l) (G := G) (n0 := n0) hk hv (by first | assumption | (refine ⟨?_, ?_⟩ <;> omega))) gM_X6_69 gI_yX6_goalOf gS_yX6_goalOf gN_X6 gC_yX6_goalOf (isRu_k hk) (σ_ru G n0 _ _ hk) rfl dX6_isGoal_9 hl_yX6_goalOf ⟨Nat.le_of_ble_eq_true rfl, Nat.le_of_ble_eq_true rfl⟩ (Nat.le_of_ble_eq_true rfl) rfl (fun r1 mi1 mr1 h1 => ?_)
        obtain ⟨rfl, rfl, h1, b9, q9⟩ := h1
        rw [if_pos ⟨by omega, by omega⟩, Int.toNat_natCast] at h1
        refine w_iload_n X dX6_isGoal_12 rfl ?_
        refine w_icmp_ne X 18 dX6_isGoal_13 (by decide) (fun c13_2 => ?_) (fun c13_2 => ?_)
        ·
          refine w_iinc4_3 X dX6_isGoal_18 ?_
          refine w_goto X 2 dX6_isGoal_21 (by decide) ?_
          exact ih_loop _ (by omega) (i + 1) none (by omega) (fun j hj => by rcases (show j < i ∨ j = i by omega) with q | q; exact hinv j q; subst q; omega) rfl
        ·
          refine w_iconst X dX6_isGoal_16 ?_
          refine s_zret X hr dX6_isGoal_17 (by omega) ?_
          exact ⟨rfl, rfl, Or.inl ⟨rfl, i, by omega, by omega⟩⟩
  exact loop _ 0 none (by omega) (fun j hj => absurd hj (by omega)) rfl
set_option maxRecDepth 20000 in
set_option maxHeartbeats 4000000 in
theorem c_X6_isLastToGoal {l : Launch} {G : Gt} {n0 : Nat} {mi : Nat → Nat → Int} {mr : Nat → Nat → Nat} {k : Nat} (hk : isRu k) {sc : Int} (hv : RV sc mi k) {s1 : Nat} (hs1 : (s1 : Int) < sc) : Ci l yX6_isLastToGoal cX6_isLastToGoal 4 .boolean 2 G n0 [.ref (n0 + k), .int (jI (s1 : Int)), .int (jI sc)] mi mr (fun r9 mi9 mr9 => mi = mi9 ∧ mr = mr9 ∧ (r9 = 1 ∧ (∀ j : Nat, s1 < j → (j : Int) < sc → gol (mi k) j ≠ gol (mi k) s1) ∨ r9 = 0 ∧ ∃ j : Nat, s1 < j ∧ (j : Int) < sc ∧ gol (mi k) j = gol (mi k) s1)) := by
  refine Ct_of (by decide +kernel) (by intro v hv; simp at hv; rcases hv with rfl | rfl | rfl <;> rfl) (Nat.le_of_ble_eq_true rfl) ?_
  intro p e s m args below meth c9 X hr hname
  show WW _ _ _ _ _ _ _ _ _ _ _ _ _ _ _ _ _ _ _ [some (.ref (n0 + k)), some (.int (jI (s1 : Int))), some (.int (jI sc)), none] _
  obtain ⟨v1, v2, v3, v4, v6, v7, vs, vg⟩ := id hv
  refine w_iload_n X dX6_isLastToGoal_0 rfl ?_
  refine w_iconst X dX6_isLastToGoal_1 ?_
  refine w_iadd X dX6_isLastToGoal_2 ?_
  refine w_ist4_3 X dX6_isLastToGoal_3 ?_
  have loop : ∀ (n : Nat) (i : Nat) (x3 : Option Value), (s1 < i ∧ (i : Int) ≤ sc) → (∀ j : Nat, s1 < j → j < i → gol (mi k) j ≠ gol (mi k) s1) → n = 5 - i → WSi p l e s m args below meth c9 2 (fun r9 mi9 mr9 => mi = mi9 ∧ mr = mr9 ∧ (r9 = 1 ∧ (∀ j : Nat, s1 < j → (j : Int) < sc → gol (mi k) j ≠ gol (mi k) s1) ∨ r9 = 0 ∧ ∃ j : Nat, s1 < j ∧ (j : Int) < sc ∧ gol (mi k) j = gol (mi k) s1)) G n0 4 mi mr 4 [some (.ref (n0 + k)), some (.int (jI (s1 : Int))), some (.int (jI sc)), some (.int (jI (i : Int)))] [] := by
    intro n
    induction n using Nat.strongRecOn with
    | ind n ih_loop =>
      intro i x3 hi hinv hn
      refine w_iload_n X dX6_isLastToGoal_4 rfl ?_
      refine w_iload_n X dX6_isLastToGoal_5 rfl ?_
      refine w_icmp_ge X 30 dX6_isLastToGoal_6 (by decide) (fun c6_1 => ?_) (fun c6_1 => ?_)
      ·
        refine w_iconst X dX6_isLastToGoal_30 ?_
        refine s_zret X hr dX6_isLastToGoal_31 (by omega) ?_
        exact ⟨rfl, rfl, Or.inl ⟨rfl, fun j hj hj2 => hinv j hj (by omega)⟩⟩
      ·
        refine w_aload_n X dX6_isLastToGoal_9 rfl ?_
        refine w_iload_n X dX6_isLastToGoal_10 rfl ?_
        refine s_callVi X _ (c_X6_goalOf (l := l) (G := G) (n0 := n0) hk hv (by first | assumption | (refine ⟨?_, ?_⟩ <;> omega))) gM_X6_69 gI_yX6_goalOf gS_yX6_goalOf gN_X6 gC_yX6_goalOf (isRu_k hk) (σ_ru G n0 _ _ hk) rfl dX6_isLastToGoal_11 hl_yX6_goalOf ⟨Nat.le_of_ble_eq_true rfl, Nat.le_of_ble_eq_true rfl⟩ (Nat.le_of_ble_eq_true rfl) rfl (fun r1 mi1 mr1 h1 => ?_)
        obtain ⟨rfl, rfl, h1, b9, q9⟩ := h1
        rw [if_pos ⟨by omega, by omega⟩, Int.toNat_natCast] at h1
        refine w_aload_n X dX6_isLastToGoal_14 rfl ?_
        refine w_iload_n X dX6_isLastToGoal_15 rfl ?_
        refine s_callVi X _ (c_X6_goalOf (l := l) (G := G) (n0 := n0) hk hv (by first | assumption | (refine ⟨?_, ?_⟩ <;> omega))) gM_X6_69 gI_yX6_goalOf gS_yX6_goalOf gN_X6 gC_yX6_goalOf (isRu_k hk) (σ_ru G n0 _ _ hk) rfl dX6_isLastToGoal_16 hl_yX6_goalOf ⟨Nat.le_of_ble_eq_true rfl, Nat.le_of_ble_eq_true rfl⟩ (Nat.le_of_ble_eq_true rfl) rfl (fun r2 mi2 mr2 h2 => ?_)
        obtain ⟨rfl, rfl, h2, b9, q9⟩ := h2
        rw [if_pos ⟨by omega, by omega⟩, Int.toNat_natCast] at h2
        refine w_icmp_ne X 24 dX6_isLastToGoal_19 (by decide) (fun c19_2 => ?_) (fun c19_2 => ?_)
        ·
          refine w_iinc4_3 X dX6_isLastToGoal_24 ?_
          refine w_goto X 4 dX6_isLastToGoal_27 (by decide) ?_
          exact ih_loop _ (by omega) (i + 1) none (by omega) (fun j hj0 hj => by rcases (show j < i ∨ j = i by omega) with q | q; exact hinv j hj0 q; subst q; omega) rfl
        ·
          refine w_iconst X dX6_isLastToGoal_22 ?_
          refine s_zret X hr dX6_isLastToGoal_23 (by omega) ?_
          exact ⟨rfl, rfl, Or.inr ⟨rfl, i, by omega, by omega, by omega⟩⟩
  exact loop _ (s1 + 1) none (by omega) (fun j hj hj2 => absurd hj (by omega)) rfl
theorem RV_fr {sc : Int} {mi mi' : Nat → Nat → Int} {k : Nat} (h : RV sc mi k) (h1 : mi' k = mi k) (h2 : mi' (k + 1) = mi (k + 1)) : RV sc mi' k := by
  unfold RV at h ⊢
  rw [h1, h2]
  exact h
theorem CB_fr {mi mi' : Nat → Nat → Int} {c : Nat} (h : CB mi c) (h1 : mi' (c + 1) = mi (c + 1)) : CB mi' c := by
  unfold CB at h ⊢
  rw [h1]
  exact h
theorem ap_rc {k c : Nat} (hk : isRu k) (hc : isCr c) : k ≠ c + 1 ∧ k + 1 ≠ c + 1 ∧ k ≠ c ∧ k + 1 ≠ c := by
  unfold isRu at hk
  unfold isCr at hc
  omega
theorem ap_cc {c d : Nat} (hc : isCr c) (hd : isCr d) (h : c ≠ d) : c + 1 ≠ d + 1 ∧ c + 1 ≠ d ∧ c ≠ d + 1 := by
  unfold isCr at hc hd
  omega
-- lead
set_option maxRecDepth 20000 in
set_option maxHeartbeats 4000000 in
theorem c_X6_lead {l : Launch} {G : Gt} {n0 : Nat} {mi : Nat → Nat → Int} {mr : Nat → Nat → Nat} {k : Nat} (hk : isRu k) {sc : Int} (hv : RV sc mi k) {c d : Nat} (hc : isCr c) (hd : isCr d) (hcd : c ≠ d) : Cv l yX6_lead cX6_lead 4 2 G n0 [.ref (n0 + k), .ref (n0 + c), .ref (n0 + d)] mi mr (fun mi9 mr9 => ((∀ j : Nat, j < 5 → mi9 (d + 1) j = led (mi k) (mi (c + 1)) j) ∧ ∀ a, a ≠ d + 1 → mi9 a = mi a) ∧ mr = mr9) := by
  refine Ct_of (by decide +kernel) (by intro v hv; simp at hv; rcases hv with rfl | rfl | rfl <;> rfl) (Nat.le_of_ble_eq_true rfl) ?_
  intro p e s m args below meth c9 X hr hname
  show WW _ _ _ _ _ _ _ _ _ _ _ _ _ _ _ _ _ _ _ [some (.ref (n0 + k)), some (.ref (n0 + c)), some (.ref (n0 + d)), none] _
  obtain ⟨v1, v2, v3, v4, v6, v7, vs, vg⟩ := id hv
  have hap := ap_rc hk hd
  have hapc := ap_cc hc hd hcd
  refine w_aload_n X dX6_lead_0 rfl ?_
  refine s_callVv X _ (c_X3_clear (l := l) (G := G) (n0 := n0) hd) gM_X6_49 gI_yX3_clear gS_yX3_clear gN_X3 gC_yX3_clear (isCr_k hd) (σ_cr G n0 _ _ hd) rfl dX6_lead_1 hl_yX3_clear ⟨Nat.le_of_ble_eq_true rfl, Nat.le_of_ble_eq_true rfl⟩ (Nat.le_of_ble_eq_true rfl) rfl (fun mi1 mr1 h1 => ?_)
  obtain ⟨rfl, rfl⟩ := h1
  have hm0 : ∀ a, a ≠ d + 1 → row5 mi (d + 1) (fun _ => 0) a = mi a := fun a ha => row5_k ha
  have hF0 : ∀ j : Nat, j < 5 → row5 mi (d + 1) (fun _ => 0) (d + 1) j = psm (mi k) (mi (c + 1)) 0 j := fun j hj => row5_s hj
  generalize row5 mi (d + 1) (fun _ => 0) = mi0 at hm0 hF0 ⊢
  refine w_iconst X dX6_lead_4 ?_
  refine w_ist4_3 X dX6_lead_5 ?_
  have loop : ∀ (n : Nat) (mi' : Nat → Nat → Int) (i : Nat) (x3 : Option Value), (i ≤ 5) → (∀ a, a ≠ d + 1 → mi' a = mi a) → (∀ j : Nat, j < 5 → mi' (d + 1) j = psm (mi k) (mi (c + 1)) i j) → n = 5 - i → WSv p l e s m args below meth c9 2 (fun mi9 mr9 => ((∀ j : Nat, j < 5 → mi9 (d + 1) j = led (mi k) (mi (c + 1)) j) ∧ ∀ a, a ≠ d + 1 → mi9 a = mi a) ∧ mr = mr9) G n0 4 mi' mr 6 [some (.ref (n0 + k)), some (.ref (n0 + c)), some (.ref (n0 + d)), some (.int (jI (i : Int)))] [] := by
    intro n
    induction n using Nat.strongRecOn with
    | ind n ih_loop =>
      intro mi' i x3 hi hm hF hn
      have hv2 : RV sc mi' k := RV_fr hv (hm _ hap.1) (hm _ hap.2.1)
      refine w_iload_n X dX6_lead_6 rfl ?_
      refine w_aload_n X dX6_lead_7 rfl ?_
      refine w_get X (isRu_k hk) (σ_ru G n0 _ _ hk) rfl gW_X6 0 (by decide) gF_X6_9 rfl dX6_lead_8 ?_
      refine w_alen X (t := 0) (isRu_k1 hk) (σ_go G n0 _ _ hk) rfl dX6_lead_11 ?_
      refine s_alen (b := 5) rfl ?_
      refine w_icmp_ge X 42 dX6_lead_12 (by decide) (fun c12_1 => ?_) (fun c12_1 => ?_)
      ·
        have hq1 : mi' k 3 = mi k 3 := by rw [hm _ hap.1]
        have hq2 : mi' k 5 = mi k 5 := by rw [hm _ hap.1]
        refine w_aload_n X dX6_lead_42 rfl ?_
        refine w_aload_n X dX6_lead_43 rfl ?_
        refine w_get X (isRu_k hk) (σ_ru G n0 _ _ hk) rfl gW_X6 3 (by decide) gF_X6_22 rfl dX6_lead_44 ?_
        refine w_iconst X dX6_lead_47 ?_
        refine s_callVv X _ (c_X3_add (l := l) (G := G) (n0 := n0) hd (by first | assumption | (refine ⟨?_, ?_⟩ <;> omega))) gM_X6_52 gI_yX3_add gS_yX3_add gN_X3 gC_yX3_add (isCr_k hd) (σ_cr G n0 _ _ hd) rfl dX6_lead_48 hl_yX3_add ⟨Nat.le_of_ble_eq_true rfl, Nat.le_of_ble_eq_true rfl⟩ (Nat.le_of_ble_eq_true rfl) rfl (fun mi2 mr2 h2 => ?_)
        obtain ⟨e9, rfl⟩ := h2
        rw [if_pos ⟨by omega, by omega⟩] at e9
        have eF9 : ∀ j : Nat, mi2 (d + 1) j = mi' (d + 1) j + (if mi k 3 = (j : Int) then 1 else 0) := fun j => by rw [← e9, up2_add (by omega), hq1]
        have em9 : ∀ a, a ≠ d + 1 → mi2 a = mi' a := fun a ha => by rw [← e9]; exact up2_k _ _ _ _ ha
        have hq3 : mi2 k 5 = mi k 5 := by rw [em9 _ hap.1]; exact hq2
        refine w_aload_n X dX6_lead_51 rfl ?_
        refine w_aload_n X dX6_lead_52 rfl ?_
        refine w_get X (isRu_k hk) (σ_ru G n0 _ _ hk) rfl gW_X6 5 (by decide) gF_X6_28 rfl dX6_lead_53 ?_
        refine w_iconst X dX6_lead_56 ?_
        refine s_callVv X _ (c_X3_add (l := l) (G := G) (n0 := n0) hd (by first | assumption | (refine ⟨?_, ?_⟩ <;> omega))) gM_X6_52 gI_yX3_add gS_yX3_add gN_X3 gC_yX3_add (isCr_k hd) (σ_cr G n0 _ _ hd) rfl dX6_lead_57 hl_yX3_add ⟨Nat.le_of_ble_eq_true rfl, Nat.le_of_ble_eq_true rfl⟩ (Nat.le_of_ble_eq_true rfl) rfl (fun mi3 mr3 h3 => ?_)
        obtain ⟨e9, rfl⟩ := h3
        have hfin : ∀ j : Nat, mi3 (d + 1) j = mi' (d + 1) j + (if mi k 3 = (j : Int) then 1 else 0) + (if mi k 5 = (j : Int) then 1 else 0) := by
          intro j
          by_cases hq : mi k 5 = -9
          · rw [if_neg (by omega)] at e9
            rw [← e9, eF9, if_neg (show ¬ mi k 5 = (j : Int) by omega), Int.add_zero]
          · rw [if_pos ⟨by omega, by omega⟩] at e9
            rw [← e9, up2_add (by omega), eF9, hq3]
        have hfr : ∀ a, a ≠ d + 1 → mi3 a = mi' a := by
          intro a ha
          rw [← e9]
          split
          · rw [up2_k _ _ _ _ ha]; exact em9 a ha
          · exact em9 a ha
        refine s_vret X hr dX6_lead_60 ?_
        refine ⟨⟨?_, ?_⟩, rfl⟩
        · intro j hj
          rw [hfin j, hF j hj, show i = 5 by omega]
          rfl
        · intro a ha
          rw [hfr a ha, hm a ha]
      ·
        have hg := vg i (by omega)
        have hgk : mi' (k + 1) i = gol (mi k) i := by rw [hm _ hap.2.1]; exact hg.1
        refine w_aload_n X dX6_lead_15 rfl ?_
        refine w_aload_n X dX6_lead_16 rfl ?_
        refine w_get X (isRu_k hk) (σ_ru G n0 _ _ hk) rfl gW_X6 0 (by decide) gF_X6_9 rfl dX6_lead_17 ?_
        refine w_iload_n X dX6_lead_20 rfl ?_
        refine s_iald X (i) (isRu_k1 hk) (fun _ => σ_go G n0 _ _ hk) dX6_lead_21 ?_
        refine w_aload_n X dX6_lead_22 rfl ?_
        refine w_iload_n X dX6_lead_23 rfl ?_
        refine s_callVi X _ (c_X3_of (l := l) (G := G) (n0 := n0) hc (by first | assumption | (refine ⟨?_, ?_⟩ <;> omega))) gM_X6_44 gI_yX3_of gS_yX3_of gN_X3 gC_yX3_of (isCr_k hc) (σ_cr G n0 _ _ hc) rfl dX6_lead_24 hl_yX3_of ⟨Nat.le_of_ble_eq_true rfl, Nat.le_of_ble_eq_true rfl⟩ (Nat.le_of_ble_eq_true rfl) rfl (fun r2 mi2 mr2 h2 => ?_)
        obtain ⟨rfl, rfl, h2⟩ := h2
        rw [if_pos ⟨by omega, by omega⟩, Int.toNat_natCast] at h2
        refine w_aload_n X dX6_lead_27 rfl ?_
        refine w_iload_n X dX6_lead_28 rfl ?_
        refine s_callVi X _ (c_X6_leavers (l := l) (G := G) (n0 := n0) hk hv2 (by first | assumption | (refine ⟨?_, ?_⟩ <;> omega))) gM_X6_40 gI_yX6_leavers gS_yX6_leavers gN_X6 gC_yX6_leavers (isRu_k hk) (σ_ru G n0 _ _ hk) rfl dX6_lead_29 hl_yX6_leavers ⟨Nat.le_of_ble_eq_true rfl, Nat.le_of_ble_eq_true rfl⟩ (Nat.le_of_ble_eq_true rfl) rfl (fun r3 mi3 mr3 h3 => ?_)
        obtain ⟨rfl, rfl, h3, b9, b9b⟩ := h3
        refine w_isub X dX6_lead_32 ?_
        refine s_callVv X _ (c_X3_add (l := l) (G := G) (n0 := n0) hd (by first | assumption | (refine ⟨?_, ?_⟩ <;> omega))) gM_X6_52 gI_yX3_add gS_yX3_add gN_X3 gC_yX3_add (isCr_k hd) (σ_cr G n0 _ _ hd) rfl dX6_lead_33 hl_yX3_add ⟨Nat.le_of_ble_eq_true rfl, Nat.le_of_ble_eq_true rfl⟩ (Nat.le_of_ble_eq_true rfl) rfl (fun mi4 mr4 h4 => ?_)
        obtain ⟨e9, rfl⟩ := h4
        rw [if_pos ⟨by omega, by omega⟩] at e9
        subst e9
        refine w_iinc4_3 X dX6_lead_36 ?_
        refine w_goto X 6 dX6_lead_39 (by decide) ?_
        have hx : r2 - r3 = mi (c + 1) i - lv (mi k) i := by rw [h2, h3, hm _ hapc.1, hm _ hap.1]
        rw [hx]
        exact ih_loop _ (by omega) _ (i + 1) none (by omega) (fun a ha => (up2_k _ _ _ _ ha).trans (hm a ha)) (fun j hj => by rw [hgk, up2_add hg.2.1, hF j hj]; rfl) rfl
  exact loop _ mi0 0 none (by omega) hm0 hF0 rfl
theorem ite_step {j i : Nat} {a : Int} (q : ¬ j = i) : (if j < i then a else 0) = (if j < i + 1 then a else 0) := by
  by_cases h : j < i
  · rw [if_pos h, if_pos (by omega)]
  · rw [if_neg h, if_neg (by omega)]
def lk0 (ρ u : Nat → Int) (i : Nat) : Int := if u i - cm ρ i ≤ 0 then 0 else u i - cm ρ i
def lk (ρ u : Nat → Int) (i : Nat) : Int := if ρ 7 ≠ -9 ∧ gol ρ (ρ 7).toNat = i ∧ lk0 ρ u i < 1 then 1 else lk0 ρ u i
def lks (ρ u : Nat → Int) : Nat → Int
  | 0 => 0
  | n + 1 => lks ρ u n + lk ρ u n
def nog (sc : Int) (ρ : Nat → Int) (i : Nat) : Prop := ∀ j : Nat, (j : Int) < sc → gol ρ j ≠ i
theorem lk_need {ρ u : Nat → Int} {i : Nat} (h : ρ 7 ≠ -9) (hg : gol ρ (ρ 7).toNat = i) : lk ρ u i = if lk0 ρ u i < 1 then 1 else lk0 ρ u i := by
  unfold lk
  by_cases q : lk0 ρ u i < 1
  · rw [if_pos ⟨h, hg, q⟩, if_pos q]
  · rw [if_neg (fun w => q w.2.2), if_neg q]
theorem lk0_b {ρ u : Nat → Int} {i : Nat} (h : 0 ≤ u i ∧ u i ≤ 1000) (h2 : 0 ≤ cm ρ i) : 0 ≤ lk0 ρ u i ∧ lk0 ρ u i ≤ 1000 := by
  unfold lk0
  split <;> omega
theorem lk_b {ρ u : Nat → Int} {i : Nat} (h : 0 ≤ u i ∧ u i ≤ 1000) (h2 : 0 ≤ cm ρ i) : 0 ≤ lk ρ u i ∧ lk ρ u i ≤ 1000 := by
  have := lk0_b h h2
  unfold lk
  split <;> omega
theorem cm_b (ρ : Nat → Int) (z : Int) : 0 ≤ cm ρ z ∧ cm ρ z ≤ 2 := by
  unfold cm
  by_cases h1 : z = ρ 3 <;> by_cases h2 : z = ρ 5 <;> simp [h1, h2]
  all_goals (first | (split <;> omega) | omega)
theorem lks_b {ρ u : Nat → Int} (h : ∀ j : Nat, j < 5 → 0 ≤ u j ∧ u j ≤ 1000) : ∀ n : Nat, n ≤ 5 → 0 ≤ lks ρ u n ∧ lks ρ u n ≤ 1000 * n
  | 0, _ => by simp [lks]
  | n + 1, hn => by
    have h1 := lks_b (ρ := ρ) h n (by omega)
    have h2 := lk_b (h n (by omega)) (cm_b ρ n).1
    show 0 ≤ lks ρ u n + lk ρ u n ∧ lks ρ u n + lk ρ u n ≤ 1000 * ((n + 1 : Nat) : Int)
    omega
-- findLack
set_option maxRecDepth 20000 in
set_option maxHeartbeats 4000000 in
theorem c_X6_findLack {l : Launch} {G : Gt} {n0 : Nat} {mi : Nat → Nat → Int} {mr : Nat → Nat → Nat} {k : Nat} (hk : isRu k) {sc : Int} (hv : RV sc mi k) {c d : Nat} (hc : isCr c) (hd : isCr d) (hcd : c ≠ d) (hb : CB mi c) : Ci l yX6_findLack cX6_findLack 7 .int 3 G n0 [.ref (n0 + k), .ref (n0 + c), .int (jI sc), .ref (n0 + d)] mi mr (fun r9 mi9 mr9 => (r9 = -9 ∧ (∃ i : Nat, (i : Int) < sc ∧ 0 < lk0 (mi k) (mi (c + 1)) i ∧ nog sc (mi k) i) ∧ (∀ a, a ≠ d + 1 → mi9 a = mi a) ∨ r9 = (if mi k 4 = -9 then 1 else 2) + lks (mi k) (mi (c + 1)) sc.toNat ∧ (∀ i : Nat, (i : Int) < sc → ¬ (0 < lk0 (mi k) (mi (c + 1)) i ∧ nog sc (mi k) i)) ∧ (∀ j : Nat, j < 5 → mi9 (d + 1) j = if (j : Int) < sc then lk (mi k) (mi (c + 1)) j else 0) ∧ ∀ a, a ≠ d + 1 → mi9 a = mi a) ∧ mr = mr9) := by
  refine Ct_of (by decide +kernel) (by intro v hv; simp at hv; rcases hv with rfl | rfl | rfl | rfl <;> rfl) (Nat.le_of_ble_eq_true rfl) ?_
  intro p e s m args below meth c9 X hr hname
  show WW _ _ _ _ _ _ _ _ _ _ _ _ _ _ _ _ _ _ _ [some (.ref (n0 + k)), some (.ref (n0 + c)), some (.int (jI sc)), some (.ref (n0 + d)), none, none, none] _
  obtain ⟨v1, v2, v3, v4, v6, v7, vs, vg⟩ := id hv
  have hap := ap_rc hk hd
  have hapc := ap_cc hc hd hcd
  have hcb := CB_at hb
  refine w_aload_n X dX6_findLack_0 rfl ?_
  refine w_get X (isRu_k hk) (σ_ru G n0 _ _ hk) rfl gW_X6 4 (by decide) gF_X6_25 rfl dX6_findLack_1 ?_
  refine w_bipush X dX6_findLack_4 rfl ?_
  refine w_icmp_ne X 13 dX6_findLack_6 (by decide) (fun c6_1 => ?_) (fun c6_1 => ?_)
  ·
    have hs0 : (if mi k 4 = -9 then 1 else 2 : Int) = 2 := if_neg (by omega)
    refine w_iconst X dX6_findLack_13 ?_
    refine w_ist7_4 X dX6_findLack_14 ?_
    refine w_aload_n X dX6_findLack_16 rfl ?_
    refine s_callVv X _ (c_X3_clear (l := l) (G := G) (n0 := n0) hd) gM_X6_49 gI_yX3_clear gS_yX3_clear gN_X3 gC_yX3_clear (isCr_k hd) (σ_cr G n0 _ _ hd) rfl dX6_findLack_17 hl_yX3_clear ⟨Nat.le_of_ble_eq_true rfl, Nat.le_of_ble_eq_true rfl⟩ (Nat.le_of_ble_eq_true rfl) rfl (fun mi1 mr1 h1 => ?_)
    obtain ⟨rfl, rfl⟩ := h1
    have hm0 : ∀ a, a ≠ d + 1 → row5 mi (d + 1) (fun _ => 0) a = mi a := fun a ha => row5_k ha
    have hF0 : ∀ j : Nat, j < 5 → row5 mi (d + 1) (fun _ => 0) (d + 1) j = if j < 0 then lk (mi k) (mi (c + 1)) j else 0 := fun j hj => by rw [row5_s hj, if_neg (by omega)]
    generalize row5 mi (d + 1) (fun _ => 0) = mi0 at hm0 hF0 ⊢
    refine w_iconst X dX6_findLack_20 ?_
    refine w_ist7_5 X dX6_findLack_21 ?_
    have loop : ∀ (n : Nat) (mi' : Nat → Nat → Int) (i : Nat) (t : Int) (x6 : Option Value), ((i : Int) ≤ sc) → (∀ a, a ≠ d + 1 → mi' a = mi a) → (∀ j : Nat, j < 5 → mi' (d + 1) j = if j < i then lk (mi k) (mi (c + 1)) j else 0) → (∀ j : Nat, j < i → ¬ (0 < lk0 (mi k) (mi (c + 1)) j ∧ nog sc (mi k) j)) → (t = (if mi k 4 = -9 then 1 else 2) + lks (mi k) (mi (c + 1)) i) → n = 5 - i → WSi p l e s m args below meth c9 3 (fun r9 mi9 mr9 => (r9 = -9 ∧ (∃ i : Nat, (i : Int) < sc ∧ 0 < lk0 (mi k) (mi (c + 1)) i ∧ nog sc (mi k) i) ∧ (∀ a, a ≠ d + 1 → mi9 a = mi a) ∨ r9 = (if mi k 4 = -9 then 1 else 2) + lks (mi k) (mi (c + 1)) sc.toNat ∧ (∀ i : Nat, (i : Int) < sc → ¬ (0 < lk0 (mi k) (mi (c + 1)) i ∧ nog sc (mi k) i)) ∧ (∀ j : Nat, j < 5 → mi9 (d + 1) j = if (j : Int) < sc then lk (mi k) (mi (c + 1)) j else 0) ∧ ∀ a, a ≠ d + 1 → mi9 a = mi a) ∧ mr = mr9) G n0 7 mi' mr 23 [some (.ref (n0 + k)), some (.ref (n0 + c)), some (.int (jI sc)), some (.ref (n0 + d)), some (.int (jI t)), some (.int (jI (i : Int))), x6] [] := by
      intro n
      induction n using Nat.strongRecOn with
      | ind n ih_loop =>
        intro mi' i t x6 hi hm hF hN ht hn
        have hv2 : RV sc mi' k := RV_fr hv (hm _ hap.1) (hm _ hap.2.1)
        have hk1 : mi' (c + 1) = mi (c + 1) := hm _ hapc.1
        have hk2 : mi' k = mi k := hm _ hap.1
        refine w_iload X dX6_findLack_23 rfl ?_
        refine w_iload_n X dX6_findLack_25 rfl ?_
        refine w_icmp_ge X 117 dX6_findLack_26 (by decide) (fun c26_2 => ?_) (fun c26_2 => ?_)
        ·
          refine w_iload X dX6_findLack_117 rfl ?_
          refine s_iret X hr dX6_findLack_119 ?_
          refine ⟨Or.inr ⟨?_, fun j hj => hN j (by omega), fun j hj => ?_, hm⟩, rfl⟩
          · rw [ht, show sc.toNat = i by omega]
          · rw [hF j hj]
            by_cases q : j < i
            · rw [if_pos q, if_pos (by omega)]
            · rw [if_neg q, if_neg (by omega)]
        ·
          have hu := hcb i (by omega)
          have hcm := cm_b (mi k) i
          have hq7 : mi' k 7 = mi k 7 := by rw [hm _ hap.1]
          refine w_iconst X dX6_findLack_29 ?_
          refine w_aload_n X dX6_findLack_30 rfl ?_
          refine w_iload X dX6_findLack_31 rfl ?_
          refine s_callVi X _ (c_X3_of (l := l) (G := G) (n0 := n0) hc (by first | assumption | (refine ⟨?_, ?_⟩ <;> omega))) gM_X6_44 gI_yX3_of gS_yX3_of gN_X3 gC_yX3_of (isCr_k hc) (σ_cr G n0 _ _ hc) rfl dX6_findLack_33 hl_yX3_of ⟨Nat.le_of_ble_eq_true rfl, Nat.le_of_ble_eq_true rfl⟩ (Nat.le_of_ble_eq_true rfl) rfl (fun r2 mi2 mr2 h2 => ?_)
          obtain ⟨rfl, rfl, h2⟩ := h2
          rw [if_pos ⟨by omega, by omega⟩, Int.toNat_natCast] at h2
          rw [hk1] at h2
          refine w_aload_n X dX6_findLack_36 rfl ?_
          refine w_iload X dX6_findLack_37 rfl ?_
          refine s_callVi X _ (c_X6_comers (l := l) (G := G) (n0 := n0) hk hv2 (by first | assumption | (refine ⟨?_, ?_⟩ <;> omega))) gM_X6_56 gI_yX6_comers gS_yX6_comers gN_X6 gC_yX6_comers (isRu_k hk) (σ_ru G n0 _ _ hk) rfl dX6_findLack_39 hl_yX6_comers ⟨Nat.le_of_ble_eq_true rfl, Nat.le_of_ble_eq_true rfl⟩ (Nat.le_of_ble_eq_true rfl) rfl (fun r3 mi3 mr3 h3 => ?_)
          obtain ⟨rfl, rfl, h3, b9, b9b⟩ := h3
          rw [hk2] at h3
          refine w_isub X dX6_findLack_42 ?_
          refine w_mmax X gM_X6_59 ⟨Nat.le_of_ble_eq_true rfl, Nat.le_of_ble_eq_true rfl⟩ ⟨Nat.zero_le _, Nat.zero_le _⟩ (Nat.le_of_ble_eq_true rfl) dX6_findLack_43 (fun z4 h4 => ?_)
          refine w_ist7_6 X dX6_findLack_46 ?_
          have hl0 : lk0 (mi k) (mi (c + 1)) i = z4 := by unfold lk0; split <;> omega
          refine w_iload X dX6_findLack_48 rfl ?_
          refine w_if_le X 66 dX6_findLack_50 (by decide) (fun c50_3 => ?_) (fun c50_3 => ?_)
          ·
            have hnn : ¬ (0 < lk0 (mi k) (mi (c + 1)) i ∧ nog sc (mi k) i) := by
              intro q
              have q1 := q.1
              first
              | omega
              | (rcases h5 with ⟨q5, j, hj, hj2⟩ | q5
                 exact q.2 j hj (by rw [← hk2]; exact hj2)
                 omega)
            try clear h5
            refine w_aload_n X dX6_findLack_66 rfl ?_
            refine w_get X (isRu_k hk) (σ_ru G n0 _ _ hk) rfl gW_X6 7 (by decide) gF_X6_34 rfl dX6_findLack_67 ?_
            refine w_bipush X dX6_findLack_70 rfl ?_
            refine w_icmp_eq X 96 dX6_findLack_72 (by decide) (fun c72_4 => ?_) (fun c72_4 => ?_)
            ·
              have hlk : lk (mi k) (mi (c + 1)) i = z4 := by
                first
                | (unfold lk; rw [if_neg (fun w => w.1 (by omega)), hl0] <;> omega)
                | (unfold lk; rw [if_neg (fun w => by have q9 := w.2.1; omega), hl0] <;> omega)
                | (rw [lk_need (by omega) (by omega)]; split <;> omega)
              refine w_aload_n X dX6_findLack_96 rfl ?_
              refine w_iload X dX6_findLack_97 rfl ?_
              refine w_iload X dX6_findLack_99 rfl ?_
              refine s_callVv X _ (c_X3_set (l := l) (G := G) (n0 := n0) hd (by first | assumption | (refine ⟨?_, ?_⟩ <;> omega))) gM_X6_72 gI_yX3_set gS_yX3_set gN_X3 gC_yX3_set (isCr_k hd) (σ_cr G n0 _ _ hd) rfl dX6_findLack_101 hl_yX3_set ⟨Nat.le_of_ble_eq_true rfl, Nat.le_of_ble_eq_true rfl⟩ (Nat.le_of_ble_eq_true rfl) rfl (fun mi5 mr5 h5 => ?_)
              obtain ⟨e9, rfl⟩ := h5
              rw [if_pos ⟨by omega, by omega⟩, Int.toNat_natCast] at e9
              subst e9
              refine w_iload X dX6_findLack_104 rfl ?_
              refine w_iload X dX6_findLack_106 rfl ?_
              refine w_iadd X dX6_findLack_108 ?_
              refine w_ist7_4 X dX6_findLack_109 ?_
              refine w_iinc7_5 X dX6_findLack_111 ?_
              refine w_goto X 23 dX6_findLack_114 (by decide) ?_
              exact ih_loop _ (by omega) _ (i + 1) _ _ (by omega) (fun a ha => (up2_k _ _ _ _ ha).trans (hm a ha)) (fun j hj => by
                by_cases q : j = i
                · subst q; rw [up2_s, if_pos (by omega)]; exact hlk.symm
                · rw [up2_j _ _ _ _ q, hF j hj, ite_step q])
                (fun j hj => by rcases (show j < i ∨ j = i by omega) with q | q; exact hN j q; subst q; exact hnn) (by rw [ht]; show _ = _ + (lks _ _ i + lk _ _ i); omega) rfl
            ·
              refine w_aload_n X dX6_findLack_75 rfl ?_
              refine w_aload_n X dX6_findLack_76 rfl ?_
              refine w_get X (isRu_k hk) (σ_ru G n0 _ _ hk) rfl gW_X6 7 (by decide) gF_X6_34 rfl dX6_findLack_77 ?_
              refine s_callVi X _ (c_X6_goalOf (l := l) (G := G) (n0 := n0) hk hv2 (by first | assumption | (refine ⟨?_, ?_⟩ <;> omega))) gM_X6_69 gI_yX6_goalOf gS_yX6_goalOf gN_X6 gC_yX6_goalOf (isRu_k hk) (σ_ru G n0 _ _ hk) rfl dX6_findLack_80 hl_yX6_goalOf ⟨Nat.le_of_ble_eq_true rfl, Nat.le_of_ble_eq_true rfl⟩ (Nat.le_of_ble_eq_true rfl) rfl (fun r5 mi5 mr5 h5 => ?_)
              obtain ⟨rfl, rfl, h5, b9, q9⟩ := h5
              rw [if_pos ⟨by omega, by omega⟩, hk2] at h5
              refine w_iload X dX6_findLack_83 rfl ?_
              refine w_icmp_ne X 96 dX6_findLack_85 (by decide) (fun c85_5 => ?_) (fun c85_5 => ?_)
              ·
                have hlk : lk (mi k) (mi (c + 1)) i = z4 := by
                  first
                  | (unfold lk; rw [if_neg (fun w => w.1 (by omega)), hl0] <;> omega)
                  | (unfold lk; rw [if_neg (fun w => by have q9 := w.2.1; omega), hl0] <;> omega)
                  | (rw [lk_need (by omega) (by omega)]; split <;> omega)
                refine w_aload_n X dX6_findLack_96 rfl ?_
                refine w_iload X dX6_findLack_97 rfl ?_
                refine w_iload X dX6_findLack_99 rfl ?_
                refine s_callVv X _ (c_X3_set (l := l) (G := G) (n0 := n0) hd (by first | assumption | (refine ⟨?_, ?_⟩ <;> omega))) gM_X6_72 gI_yX3_set gS_yX3_set gN_X3 gC_yX3_set (isCr_k hd) (σ_cr G n0 _ _ hd) rfl dX6_findLack_101 hl_yX3_set ⟨Nat.le_of_ble_eq_true rfl, Nat.le_of_ble_eq_true rfl⟩ (Nat.le_of_ble_eq_true rfl) rfl (fun mi6 mr6 h6 => ?_)
                obtain ⟨e9, rfl⟩ := h6
                rw [if_pos ⟨by omega, by omega⟩, Int.toNat_natCast] at e9
                subst e9
                refine w_iload X dX6_findLack_104 rfl ?_
                refine w_iload X dX6_findLack_106 rfl ?_
                refine w_iadd X dX6_findLack_108 ?_
                refine w_ist7_4 X dX6_findLack_109 ?_
                refine w_iinc7_5 X dX6_findLack_111 ?_
                refine w_goto X 23 dX6_findLack_114 (by decide) ?_
                exact ih_loop _ (by omega) _ (i + 1) _ _ (by omega) (fun a ha => (up2_k _ _ _ _ ha).trans (hm a ha)) (fun j hj => by
                  by_cases q : j = i
                  · subst q; rw [up2_s, if_pos (by omega)]; exact hlk.symm
                  · rw [up2_j _ _ _ _ q, hF j hj, ite_step q])
                  (fun j hj => by rcases (show j < i ∨ j = i by omega) with q | q; exact hN j q; subst q; exact hnn) (by rw [ht]; show _ = _ + (lks _ _ i + lk _ _ i); omega) rfl
              ·
                refine w_iconst X dX6_findLack_88 ?_
                refine w_iload X dX6_findLack_89 rfl ?_
                refine w_mmax X gM_X6_59 ⟨Nat.le_of_ble_eq_true rfl, Nat.le_of_ble_eq_true rfl⟩ ⟨Nat.zero_le _, Nat.zero_le _⟩ (Nat.le_of_ble_eq_true rfl) dX6_findLack_91 (fun z6 h6 => ?_)
                refine w_ist7_6 X dX6_findLack_94 ?_
                have hlk : lk (mi k) (mi (c + 1)) i = z6 := by
                  first
                  | (unfold lk; rw [if_neg (fun w => w.1 (by omega)), hl0] <;> omega)
                  | (unfold lk; rw [if_neg (fun w => by have q9 := w.2.1; omega), hl0] <;> omega)
                  | (rw [lk_need (by omega) (by omega)]; split <;> omega)
                refine w_aload_n X dX6_findLack_96 rfl ?_
                refine w_iload X dX6_findLack_97 rfl ?_
                refine w_iload X dX6_findLack_99 rfl ?_
                refine s_callVv X _ (c_X3_set (l := l) (G := G) (n0 := n0) hd (by first | assumption | (refine ⟨?_, ?_⟩ <;> omega))) gM_X6_72 gI_yX3_set gS_yX3_set gN_X3 gC_yX3_set (isCr_k hd) (σ_cr G n0 _ _ hd) rfl dX6_findLack_101 hl_yX3_set ⟨Nat.le_of_ble_eq_true rfl, Nat.le_of_ble_eq_true rfl⟩ (Nat.le_of_ble_eq_true rfl) rfl (fun mi7 mr7 h7 => ?_)
                obtain ⟨e9, rfl⟩ := h7
                rw [if_pos ⟨by omega, by omega⟩, Int.toNat_natCast] at e9
                subst e9
                refine w_iload X dX6_findLack_104 rfl ?_
                refine w_iload X dX6_findLack_106 rfl ?_
                refine w_iadd X dX6_findLack_108 ?_
                refine w_ist7_4 X dX6_findLack_109 ?_
                refine w_iinc7_5 X dX6_findLack_111 ?_
                refine w_goto X 23 dX6_findLack_114 (by decide) ?_
                exact ih_loop _ (by omega) _ (i + 1) _ _ (by omega) (fun a ha => (up2_k _ _ _ _ ha).trans (hm a ha)) (fun j hj => by
                  by_cases q : j = i
                  · subst q; rw [up2_s, if_pos (by omega)]; exact hlk.symm
                  · rw [up2_j _ _ _ _ q, hF j hj, ite_step q])
                  (fun j hj => by rcases (show j < i ∨ j = i by omega) with q | q; exact hN j q; subst q; exact hnn) (by rw [ht]; show _ = _ + (lks _ _ i + lk _ _ i); omega) rfl
          ·
            refine w_aload_n X dX6_findLack_53 rfl ?_
            refine w_iload X dX6_findLack_54 rfl ?_
            refine w_iload_n X dX6_findLack_56 rfl ?_
            refine s_callVi X _ (c_X6_isGoal (l := l) (G := G) (n0 := n0) hk hv2 (by first | assumption | (refine ⟨?_, ?_⟩ <;> omega))) gM_X6_65 gI_yX6_isGoal gS_yX6_isGoal gN_X6 gC_yX6_isGoal (isRu_k hk) (σ_ru G n0 _ _ hk) rfl dX6_findLack_57 hl_yX6_isGoal ⟨Nat.le_of_ble_eq_true rfl, Nat.le_of_ble_eq_true rfl⟩ (Nat.le_of_ble_eq_true rfl) rfl (fun r5 mi5 mr5 h5 => ?_)
            obtain ⟨rfl, rfl, h5⟩ := h5
            refine w_if_ne X 66 dX6_findLack_60 (by decide) (fun c60_6 => ?_) (fun c60_6 => ?_)
            ·
              have hnn : ¬ (0 < lk0 (mi k) (mi (c + 1)) i ∧ nog sc (mi k) i) := by
                intro q
                have q1 := q.1
                first
                | omega
                | (rcases h5 with ⟨q5, j, hj, hj2⟩ | q5
                   exact q.2 j hj (by rw [← hk2]; exact hj2)
                   omega)
              try clear h5
              refine w_aload_n X dX6_findLack_66 rfl ?_
              refine w_get X (isRu_k hk) (σ_ru G n0 _ _ hk) rfl gW_X6 7 (by decide) gF_X6_34 rfl dX6_findLack_67 ?_
              refine w_bipush X dX6_findLack_70 rfl ?_
              refine w_icmp_eq X 96 dX6_findLack_72 (by decide) (fun c72_7 => ?_) (fun c72_7 => ?_)
              ·
                have hlk : lk (mi k) (mi (c + 1)) i = z4 := by
                  first
                  | (unfold lk; rw [if_neg (fun w => w.1 (by omega)), hl0] <;> omega)
                  | (unfold lk; rw [if_neg (fun w => by have q9 := w.2.1; omega), hl0] <;> omega)
                  | (rw [lk_need (by omega) (by omega)]; split <;> omega)
                refine w_aload_n X dX6_findLack_96 rfl ?_
                refine w_iload X dX6_findLack_97 rfl ?_
                refine w_iload X dX6_findLack_99 rfl ?_
                refine s_callVv X _ (c_X3_set (l := l) (G := G) (n0 := n0) hd (by first | assumption | (refine ⟨?_, ?_⟩ <;> omega))) gM_X6_72 gI_yX3_set gS_yX3_set gN_X3 gC_yX3_set (isCr_k hd) (σ_cr G n0 _ _ hd) rfl dX6_findLack_101 hl_yX3_set ⟨Nat.le_of_ble_eq_true rfl, Nat.le_of_ble_eq_true rfl⟩ (Nat.le_of_ble_eq_true rfl) rfl (fun mi6 mr6 h6 => ?_)
                obtain ⟨e9, rfl⟩ := h6
                rw [if_pos ⟨by omega, by omega⟩, Int.toNat_natCast] at e9
                subst e9
                refine w_iload X dX6_findLack_104 rfl ?_
                refine w_iload X dX6_findLack_106 rfl ?_
                refine w_iadd X dX6_findLack_108 ?_
                refine w_ist7_4 X dX6_findLack_109 ?_
                refine w_iinc7_5 X dX6_findLack_111 ?_
                refine w_goto X 23 dX6_findLack_114 (by decide) ?_
                exact ih_loop _ (by omega) _ (i + 1) _ _ (by omega) (fun a ha => (up2_k _ _ _ _ ha).trans (hm a ha)) (fun j hj => by
                  by_cases q : j = i
                  · subst q; rw [up2_s, if_pos (by omega)]; exact hlk.symm
                  · rw [up2_j _ _ _ _ q, hF j hj, ite_step q])
                  (fun j hj => by rcases (show j < i ∨ j = i by omega) with q | q; exact hN j q; subst q; exact hnn) (by rw [ht]; show _ = _ + (lks _ _ i + lk _ _ i); omega) rfl
              ·
                refine w_aload_n X dX6_findLack_75 rfl ?_
                refine w_aload_n X dX6_findLack_76 rfl ?_
                refine w_get X (isRu_k hk) (σ_ru G n0 _ _ hk) rfl gW_X6 7 (by decide) gF_X6_34 rfl dX6_findLack_77 ?_
                refine s_callVi X _ (c_X6_goalOf (l := l) (G := G) (n0 := n0) hk hv2 (by first | assumption | (refine ⟨?_, ?_⟩ <;> omega))) gM_X6_69 gI_yX6_goalOf gS_yX6_goalOf gN_X6 gC_yX6_goalOf (isRu_k hk) (σ_ru G n0 _ _ hk) rfl dX6_findLack_80 hl_yX6_goalOf ⟨Nat.le_of_ble_eq_true rfl, Nat.le_of_ble_eq_true rfl⟩ (Nat.le_of_ble_eq_true rfl) rfl (fun r6 mi6 mr6 h6 => ?_)
                obtain ⟨rfl, rfl, h6, b9, q9⟩ := h6
                rw [if_pos ⟨by omega, by omega⟩, hk2] at h6
                refine w_iload X dX6_findLack_83 rfl ?_
                refine w_icmp_ne X 96 dX6_findLack_85 (by decide) (fun c85_8 => ?_) (fun c85_8 => ?_)
                ·
                  have hlk : lk (mi k) (mi (c + 1)) i = z4 := by
                    first
                    | (unfold lk; rw [if_neg (fun w => w.1 (by omega)), hl0] <;> omega)
                    | (unfold lk; rw [if_neg (fun w => by have q9 := w.2.1; omega), hl0] <;> omega)
                    | (rw [lk_need (by omega) (by omega)]; split <;> omega)
                  refine w_aload_n X dX6_findLack_96 rfl ?_
                  refine w_iload X dX6_findLack_97 rfl ?_
                  refine w_iload X dX6_findLack_99 rfl ?_
                  refine s_callVv X _ (c_X3_set (l := l) (G := G) (n0 := n0) hd (by first | assumption | (refine ⟨?_, ?_⟩ <;> omega))) gM_X6_72 gI_yX3_set gS_yX3_set gN_X3 gC_yX3_set (isCr_k hd) (σ_cr G n0 _ _ hd) rfl dX6_findLack_101 hl_yX3_set ⟨Nat.le_of_ble_eq_true rfl, Nat.le_of_ble_eq_true rfl⟩ (Nat.le_of_ble_eq_true rfl) rfl (fun mi7 mr7 h7 => ?_)
                  obtain ⟨e9, rfl⟩ := h7
                  rw [if_pos ⟨by omega, by omega⟩, Int.toNat_natCast] at e9
                  subst e9
                  refine w_iload X dX6_findLack_104 rfl ?_
                  refine w_iload X dX6_findLack_106 rfl ?_
                  refine w_iadd X dX6_findLack_108 ?_
                  refine w_ist7_4 X dX6_findLack_109 ?_
                  refine w_iinc7_5 X dX6_findLack_111 ?_
                  refine w_goto X 23 dX6_findLack_114 (by decide) ?_
                  exact ih_loop _ (by omega) _ (i + 1) _ _ (by omega) (fun a ha => (up2_k _ _ _ _ ha).trans (hm a ha)) (fun j hj => by
                    by_cases q : j = i
                    · subst q; rw [up2_s, if_pos (by omega)]; exact hlk.symm
                    · rw [up2_j _ _ _ _ q, hF j hj, ite_step q])
                    (fun j hj => by rcases (show j < i ∨ j = i by omega) with q | q; exact hN j q; subst q; exact hnn) (by rw [ht]; show _ = _ + (lks _ _ i + lk _ _ i); omega) rfl
                ·
                  refine w_iconst X dX6_findLack_88 ?_
                  refine w_iload X dX6_findLack_89 rfl ?_
                  refine w_mmax X gM_X6_59 ⟨Nat.le_of_ble_eq_true rfl, Nat.le_of_ble_eq_true rfl⟩ ⟨Nat.zero_le _, Nat.zero_le _⟩ (Nat.le_of_ble_eq_true rfl) dX6_findLack_91 (fun z7 h7 => ?_)
                  refine w_ist7_6 X dX6_findLack_94 ?_
                  have hlk : lk (mi k) (mi (c + 1)) i = z7 := by
                    first
                    | (unfold lk; rw [if_neg (fun w => w.1 (by omega)), hl0] <;> omega)
                    | (unfold lk; rw [if_neg (fun w => by have q9 := w.2.1; omega), hl0] <;> omega)
                    | (rw [lk_need (by omega) (by omega)]; split <;> omega)
                  refine w_aload_n X dX6_findLack_96 rfl ?_
                  refine w_iload X dX6_findLack_97 rfl ?_
                  refine w_iload X dX6_findLack_99 rfl ?_
                  refine s_callVv X _ (c_X3_set (l := l) (G := G) (n0 := n0) hd (by first | assumption | (refine ⟨?_, ?_⟩ <;> omega))) gM_X6_72 gI_yX3_set gS_yX3_set gN_X3 gC_yX3_set (isCr_k hd) (σ_cr G n0 _ _ hd) rfl dX6_findLack_101 hl_yX3_set ⟨Nat.le_of_ble_eq_true rfl, Nat.le_of_ble_eq_true rfl⟩ (Nat.le_of_ble_eq_true rfl) rfl (fun mi8 mr8 h8 => ?_)
                  obtain ⟨e9, rfl⟩ := h8
                  rw [if_pos ⟨by omega, by omega⟩, Int.toNat_natCast] at e9
                  subst e9
                  refine w_iload X dX6_findLack_104 rfl ?_
                  refine w_iload X dX6_findLack_106 rfl ?_
                  refine w_iadd X dX6_findLack_108 ?_
                  refine w_ist7_4 X dX6_findLack_109 ?_
                  refine w_iinc7_5 X dX6_findLack_111 ?_
                  refine w_goto X 23 dX6_findLack_114 (by decide) ?_
                  exact ih_loop _ (by omega) _ (i + 1) _ _ (by omega) (fun a ha => (up2_k _ _ _ _ ha).trans (hm a ha)) (fun j hj => by
                    by_cases q : j = i
                    · subst q; rw [up2_s, if_pos (by omega)]; exact hlk.symm
                    · rw [up2_j _ _ _ _ q, hF j hj, ite_step q])
                    (fun j hj => by rcases (show j < i ∨ j = i by omega) with q | q; exact hN j q; subst q; exact hnn) (by rw [ht]; show _ = _ + (lks _ _ i + lk _ _ i); omega) rfl
            ·
              refine w_bipush X dX6_findLack_63 rfl ?_
              refine s_iret X hr dX6_findLack_65 ?_
              refine ⟨Or.inl ⟨rfl, ⟨i, by omega, by omega, ?_⟩, hm⟩, rfl⟩
              intro j hj hj2
              rcases h5 with q5 | q5
              · omega
              · exact q5.2 j hj (by rw [hk2]; exact hj2)
    exact loop _ mi0 0 _ none (by omega) hm0 hF0 (fun j hj => absurd hj (by omega)) (by rw [hs0]; simp [lks]) rfl
  ·
    have hs0 : (if mi k 4 = -9 then 1 else 2 : Int) = 1 := if_pos (by omega)
    refine w_iconst X dX6_findLack_9 ?_
    refine w_goto X 14 dX6_findLack_10 (by decide) ?_
    refine w_ist7_4 X dX6_findLack_14 ?_
    refine w_aload_n X dX6_findLack_16 rfl ?_
    refine s_callVv X _ (c_X3_clear (l := l) (G := G) (n0 := n0) hd) gM_X6_49 gI_yX3_clear gS_yX3_clear gN_X3 gC_yX3_clear (isCr_k hd) (σ_cr G n0 _ _ hd) rfl dX6_findLack_17 hl_yX3_clear ⟨Nat.le_of_ble_eq_true rfl, Nat.le_of_ble_eq_true rfl⟩ (Nat.le_of_ble_eq_true rfl) rfl (fun mi1 mr1 h1 => ?_)
    obtain ⟨rfl, rfl⟩ := h1
    have hm0 : ∀ a, a ≠ d + 1 → row5 mi (d + 1) (fun _ => 0) a = mi a := fun a ha => row5_k ha
    have hF0 : ∀ j : Nat, j < 5 → row5 mi (d + 1) (fun _ => 0) (d + 1) j = if j < 0 then lk (mi k) (mi (c + 1)) j else 0 := fun j hj => by rw [row5_s hj, if_neg (by omega)]
    generalize row5 mi (d + 1) (fun _ => 0) = mi0 at hm0 hF0 ⊢
    refine w_iconst X dX6_findLack_20 ?_
    refine w_ist7_5 X dX6_findLack_21 ?_
    have loop : ∀ (n : Nat) (mi' : Nat → Nat → Int) (i : Nat) (t : Int) (x6 : Option Value), ((i : Int) ≤ sc) → (∀ a, a ≠ d + 1 → mi' a = mi a) → (∀ j : Nat, j < 5 → mi' (d + 1) j = if j < i then lk (mi k) (mi (c + 1)) j else 0) → (∀ j : Nat, j < i → ¬ (0 < lk0 (mi k) (mi (c + 1)) j ∧ nog sc (mi k) j)) → (t = (if mi k 4 = -9 then 1 else 2) + lks (mi k) (mi (c + 1)) i) → n = 5 - i → WSi p l e s m args below meth c9 3 (fun r9 mi9 mr9 => (r9 = -9 ∧ (∃ i : Nat, (i : Int) < sc ∧ 0 < lk0 (mi k) (mi (c + 1)) i ∧ nog sc (mi k) i) ∧ (∀ a, a ≠ d + 1 → mi9 a = mi a) ∨ r9 = (if mi k 4 = -9 then 1 else 2) + lks (mi k) (mi (c + 1)) sc.toNat ∧ (∀ i : Nat, (i : Int) < sc → ¬ (0 < lk0 (mi k) (mi (c + 1)) i ∧ nog sc (mi k) i)) ∧ (∀ j : Nat, j < 5 → mi9 (d + 1) j = if (j : Int) < sc then lk (mi k) (mi (c + 1)) j else 0) ∧ ∀ a, a ≠ d + 1 → mi9 a = mi a) ∧ mr = mr9) G n0 7 mi' mr 23 [some (.ref (n0 + k)), some (.ref (n0 + c)), some (.int (jI sc)), some (.ref (n0 + d)), some (.int (jI t)), some (.int (jI (i : Int))), x6] [] := by
      intro n
      induction n using Nat.strongRecOn with
      | ind n ih_loop =>
        intro mi' i t x6 hi hm hF hN ht hn
        have hv2 : RV sc mi' k := RV_fr hv (hm _ hap.1) (hm _ hap.2.1)
        have hk1 : mi' (c + 1) = mi (c + 1) := hm _ hapc.1
        have hk2 : mi' k = mi k := hm _ hap.1
        refine w_iload X dX6_findLack_23 rfl ?_
        refine w_iload_n X dX6_findLack_25 rfl ?_
        refine w_icmp_ge X 117 dX6_findLack_26 (by decide) (fun c26_9 => ?_) (fun c26_9 => ?_)
        ·
          refine w_iload X dX6_findLack_117 rfl ?_
          refine s_iret X hr dX6_findLack_119 ?_
          refine ⟨Or.inr ⟨?_, fun j hj => hN j (by omega), fun j hj => ?_, hm⟩, rfl⟩
          · rw [ht, show sc.toNat = i by omega]
          · rw [hF j hj]
            by_cases q : j < i
            · rw [if_pos q, if_pos (by omega)]
            · rw [if_neg q, if_neg (by omega)]
        ·
          have hu := hcb i (by omega)
          have hcm := cm_b (mi k) i
          have hq7 : mi' k 7 = mi k 7 := by rw [hm _ hap.1]
          refine w_iconst X dX6_findLack_29 ?_
          refine w_aload_n X dX6_findLack_30 rfl ?_
          refine w_iload X dX6_findLack_31 rfl ?_
          refine s_callVi X _ (c_X3_of (l := l) (G := G) (n0 := n0) hc (by first | assumption | (refine ⟨?_, ?_⟩ <;> omega))) gM_X6_44 gI_yX3_of gS_yX3_of gN_X3 gC_yX3_of (isCr_k hc) (σ_cr G n0 _ _ hc) rfl dX6_findLack_33 hl_yX3_of ⟨Nat.le_of_ble_eq_true rfl, Nat.le_of_ble_eq_true rfl⟩ (Nat.le_of_ble_eq_true rfl) rfl (fun r2 mi2 mr2 h2 => ?_)
          obtain ⟨rfl, rfl, h2⟩ := h2
          rw [if_pos ⟨by omega, by omega⟩, Int.toNat_natCast] at h2
          rw [hk1] at h2
          refine w_aload_n X dX6_findLack_36 rfl ?_
          refine w_iload X dX6_findLack_37 rfl ?_
          refine s_callVi X _ (c_X6_comers (l := l) (G := G) (n0 := n0) hk hv2 (by first | assumption | (refine ⟨?_, ?_⟩ <;> omega))) gM_X6_56 gI_yX6_comers gS_yX6_comers gN_X6 gC_yX6_comers (isRu_k hk) (σ_ru G n0 _ _ hk) rfl dX6_findLack_39 hl_yX6_comers ⟨Nat.le_of_ble_eq_true rfl, Nat.le_of_ble_eq_true rfl⟩ (Nat.le_of_ble_eq_true rfl) rfl (fun r3 mi3 mr3 h3 => ?_)
          obtain ⟨rfl, rfl, h3, b9, b9b⟩ := h3
          rw [hk2] at h3
          refine w_isub X dX6_findLack_42 ?_
          refine w_mmax X gM_X6_59 ⟨Nat.le_of_ble_eq_true rfl, Nat.le_of_ble_eq_true rfl⟩ ⟨Nat.zero_le _, Nat.zero_le _⟩ (Nat.le_of_ble_eq_true rfl) dX6_findLack_43 (fun z4 h4 => ?_)
          refine w_ist7_6 X dX6_findLack_46 ?_
          have hl0 : lk0 (mi k) (mi (c + 1)) i = z4 := by unfold lk0; split <;> omega
          refine w_iload X dX6_findLack_48 rfl ?_
          refine w_if_le X 66 dX6_findLack_50 (by decide) (fun c50_10 => ?_) (fun c50_10 => ?_)
          ·
            have hnn : ¬ (0 < lk0 (mi k) (mi (c + 1)) i ∧ nog sc (mi k) i) := by
              intro q
              have q1 := q.1
              first
              | omega
              | (rcases h5 with ⟨q5, j, hj, hj2⟩ | q5
                 exact q.2 j hj (by rw [← hk2]; exact hj2)
                 omega)
            try clear h5
            refine w_aload_n X dX6_findLack_66 rfl ?_
            refine w_get X (isRu_k hk) (σ_ru G n0 _ _ hk) rfl gW_X6 7 (by decide) gF_X6_34 rfl dX6_findLack_67 ?_
            refine w_bipush X dX6_findLack_70 rfl ?_
            refine w_icmp_eq X 96 dX6_findLack_72 (by decide) (fun c72_11 => ?_) (fun c72_11 => ?_)
            ·
              have hlk : lk (mi k) (mi (c + 1)) i = z4 := by
                first
                | (unfold lk; rw [if_neg (fun w => w.1 (by omega)), hl0] <;> omega)
                | (unfold lk; rw [if_neg (fun w => by have q9 := w.2.1; omega), hl0] <;> omega)
                | (rw [lk_need (by omega) (by omega)]; split <;> omega)
              refine w_aload_n X dX6_findLack_96 rfl ?_
              refine w_iload X dX6_findLack_97 rfl ?_
              refine w_iload X dX6_findLack_99 rfl ?_
              refine s_callVv X _ (c_X3_set (l := l) (G := G) (n0 := n0) hd (by first | assumption | (refine ⟨?_, ?_⟩ <;> omega))) gM_X6_72 gI_yX3_set gS_yX3_set gN_X3 gC_yX3_set (isCr_k hd) (σ_cr G n0 _ _ hd) rfl dX6_findLack_101 hl_yX3_set ⟨Nat.le_of_ble_eq_true rfl, Nat.le_of_ble_eq_true rfl⟩ (Nat.le_of_ble_eq_true rfl) rfl (fun mi5 mr5 h5 => ?_)
              obtain ⟨e9, rfl⟩ := h5
              rw [if_pos ⟨by omega, by omega⟩, Int.toNat_natCast] at e9
              subst e9
              refine w_iload X dX6_findLack_104 rfl ?_
              refine w_iload X dX6_findLack_106 rfl ?_
              refine w_iadd X dX6_findLack_108 ?_
              refine w_ist7_4 X dX6_findLack_109 ?_
              refine w_iinc7_5 X dX6_findLack_111 ?_
              refine w_goto X 23 dX6_findLack_114 (by decide) ?_
              exact ih_loop _ (by omega) _ (i + 1) _ _ (by omega) (fun a ha => (up2_k _ _ _ _ ha).trans (hm a ha)) (fun j hj => by
                by_cases q : j = i
                · subst q; rw [up2_s, if_pos (by omega)]; exact hlk.symm
                · rw [up2_j _ _ _ _ q, hF j hj, ite_step q])
                (fun j hj => by rcases (show j < i ∨ j = i by omega) with q | q; exact hN j q; subst q; exact hnn) (by rw [ht]; show _ = _ + (lks _ _ i + lk _ _ i); omega) rfl
            ·
              refine w_aload_n X dX6_findLack_75 rfl ?_
              refine w_aload_n X dX6_findLack_76 rfl ?_
              refine w_get X (isRu_k hk) (σ_ru G n0 _ _ hk) rfl gW_X6 7 (by decide) gF_X6_34 rfl dX6_findLack_77 ?_
              refine s_callVi X _ (c_X6_goalOf (l := l) (G := G) (n0 := n0) hk hv2 (by first | assumption | (refine ⟨?_, ?_⟩ <;> omega))) gM_X6_69 gI_yX6_goalOf gS_yX6_goalOf gN_X6 gC_yX6_goalOf (isRu_k hk) (σ_ru G n0 _ _ hk) rfl dX6_findLack_80 hl_yX6_goalOf ⟨Nat.le_of_ble_eq_true rfl, Nat.le_of_ble_eq_true rfl⟩ (Nat.le_of_ble_eq_true rfl) rfl (fun r5 mi5 mr5 h5 => ?_)
              obtain ⟨rfl, rfl, h5, b9, q9⟩ := h5
              rw [if_pos ⟨by omega, by omega⟩, hk2] at h5
              refine w_iload X dX6_findLack_83 rfl ?_
              refine w_icmp_ne X 96 dX6_findLack_85 (by decide) (fun c85_12 => ?_) (fun c85_12 => ?_)
              ·
                have hlk : lk (mi k) (mi (c + 1)) i = z4 := by
                  first
                  | (unfold lk; rw [if_neg (fun w => w.1 (by omega)), hl0] <;> omega)
                  | (unfold lk; rw [if_neg (fun w => by have q9 := w.2.1; omega), hl0] <;> omega)
                  | (rw [lk_need (by omega) (by omega)]; split <;> omega)
                refine w_aload_n X dX6_findLack_96 rfl ?_
                refine w_iload X dX6_findLack_97 rfl ?_
                refine w_iload X dX6_findLack_99 rfl ?_
                refine s_callVv X _ (c_X3_set (l := l) (G := G) (n0 := n0) hd (by first | assumption | (refine ⟨?_, ?_⟩ <;> omega))) gM_X6_72 gI_yX3_set gS_yX3_set gN_X3 gC_yX3_set (isCr_k hd) (σ_cr G n0 _ _ hd) rfl dX6_findLack_101 hl_yX3_set ⟨Nat.le_of_ble_eq_true rfl, Nat.le_of_ble_eq_true rfl⟩ (Nat.le_of_ble_eq_true rfl) rfl (fun mi6 mr6 h6 => ?_)
                obtain ⟨e9, rfl⟩ := h6
                rw [if_pos ⟨by omega, by omega⟩, Int.toNat_natCast] at e9
                subst e9
                refine w_iload X dX6_findLack_104 rfl ?_
                refine w_iload X dX6_findLack_106 rfl ?_
                refine w_iadd X dX6_findLack_108 ?_
                refine w_ist7_4 X dX6_findLack_109 ?_
                refine w_iinc7_5 X dX6_findLack_111 ?_
                refine w_goto X 23 dX6_findLack_114 (by decide) ?_
                exact ih_loop _ (by omega) _ (i + 1) _ _ (by omega) (fun a ha => (up2_k _ _ _ _ ha).trans (hm a ha)) (fun j hj => by
                  by_cases q : j = i
                  · subst q; rw [up2_s, if_pos (by omega)]; exact hlk.symm
                  · rw [up2_j _ _ _ _ q, hF j hj, ite_step q])
                  (fun j hj => by rcases (show j < i ∨ j = i by omega) with q | q; exact hN j q; subst q; exact hnn) (by rw [ht]; show _ = _ + (lks _ _ i + lk _ _ i); omega) rfl
              ·
                refine w_iconst X dX6_findLack_88 ?_
                refine w_iload X dX6_findLack_89 rfl ?_
                refine w_mmax X gM_X6_59 ⟨Nat.le_of_ble_eq_true rfl, Nat.le_of_ble_eq_true rfl⟩ ⟨Nat.zero_le _, Nat.zero_le _⟩ (Nat.le_of_ble_eq_true rfl) dX6_findLack_91 (fun z6 h6 => ?_)
                refine w_ist7_6 X dX6_findLack_94 ?_
                have hlk : lk (mi k) (mi (c + 1)) i = z6 := by
                  first
                  | (unfold lk; rw [if_neg (fun w => w.1 (by omega)), hl0] <;> omega)
                  | (unfold lk; rw [if_neg (fun w => by have q9 := w.2.1; omega), hl0] <;> omega)
                  | (rw [lk_need (by omega) (by omega)]; split <;> omega)
                refine w_aload_n X dX6_findLack_96 rfl ?_
                refine w_iload X dX6_findLack_97 rfl ?_
                refine w_iload X dX6_findLack_99 rfl ?_
                refine s_callVv X _ (c_X3_set (l := l) (G := G) (n0 := n0) hd (by first | assumption | (refine ⟨?_, ?_⟩ <;> omega))) gM_X6_72 gI_yX3_set gS_yX3_set gN_X3 gC_yX3_set (isCr_k hd) (σ_cr G n0 _ _ hd) rfl dX6_findLack_101 hl_yX3_set ⟨Nat.le_of_ble_eq_true rfl, Nat.le_of_ble_eq_true rfl⟩ (Nat.le_of_ble_eq_true rfl) rfl (fun mi7 mr7 h7 => ?_)
                obtain ⟨e9, rfl⟩ := h7
                rw [if_pos ⟨by omega, by omega⟩, Int.toNat_natCast] at e9
                subst e9
                refine w_iload X dX6_findLack_104 rfl ?_
                refine w_iload X dX6_findLack_106 rfl ?_
                refine w_iadd X dX6_findLack_108 ?_
                refine w_ist7_4 X dX6_findLack_109 ?_
                refine w_iinc7_5 X dX6_findLack_111 ?_
                refine w_goto X 23 dX6_findLack_114 (by decide) ?_
                exact ih_loop _ (by omega) _ (i + 1) _ _ (by omega) (fun a ha => (up2_k _ _ _ _ ha).trans (hm a ha)) (fun j hj => by
                  by_cases q : j = i
                  · subst q; rw [up2_s, if_pos (by omega)]; exact hlk.symm
                  · rw [up2_j _ _ _ _ q, hF j hj, ite_step q])
                  (fun j hj => by rcases (show j < i ∨ j = i by omega) with q | q; exact hN j q; subst q; exact hnn) (by rw [ht]; show _ = _ + (lks _ _ i + lk _ _ i); omega) rfl
          ·
            refine w_aload_n X dX6_findLack_53 rfl ?_
            refine w_iload X dX6_findLack_54 rfl ?_
            refine w_iload_n X dX6_findLack_56 rfl ?_
            refine s_callVi X _ (c_X6_isGoal (l := l) (G := G) (n0 := n0) hk hv2 (by first | assumption | (refine ⟨?_, ?_⟩ <;> omega))) gM_X6_65 gI_yX6_isGoal gS_yX6_isGoal gN_X6 gC_yX6_isGoal (isRu_k hk) (σ_ru G n0 _ _ hk) rfl dX6_findLack_57 hl_yX6_isGoal ⟨Nat.le_of_ble_eq_true rfl, Nat.le_of_ble_eq_true rfl⟩ (Nat.le_of_ble_eq_true rfl) rfl (fun r5 mi5 mr5 h5 => ?_)
            obtain ⟨rfl, rfl, h5⟩ := h5
            refine w_if_ne X 66 dX6_findLack_60 (by decide) (fun c60_13 => ?_) (fun c60_13 => ?_)
            ·
              have hnn : ¬ (0 < lk0 (mi k) (mi (c + 1)) i ∧ nog sc (mi k) i) := by
                intro q
                have q1 := q.1
                first
                | omega
                | (rcases h5 with ⟨q5, j, hj, hj2⟩ | q5
                   exact q.2 j hj (by rw [← hk2]; exact hj2)
                   omega)
              try clear h5
              refine w_aload_n X dX6_findLack_66 rfl ?_
              refine w_get X (isRu_k hk) (σ_ru G n0 _ _ hk) rfl gW_X6 7 (by decide) gF_X6_34 rfl dX6_findLack_67 ?_
              refine w_bipush X dX6_findLack_70 rfl ?_
              refine w_icmp_eq X 96 dX6_findLack_72 (by decide) (fun c72_14 => ?_) (fun c72_14 => ?_)
              ·
                have hlk : lk (mi k) (mi (c + 1)) i = z4 := by
                  first
                  | (unfold lk; rw [if_neg (fun w => w.1 (by omega)), hl0] <;> omega)
                  | (unfold lk; rw [if_neg (fun w => by have q9 := w.2.1; omega), hl0] <;> omega)
                  | (rw [lk_need (by omega) (by omega)]; split <;> omega)
                refine w_aload_n X dX6_findLack_96 rfl ?_
                refine w_iload X dX6_findLack_97 rfl ?_
                refine w_iload X dX6_findLack_99 rfl ?_
                refine s_callVv X _ (c_X3_set (l := l) (G := G) (n0 := n0) hd (by first | assumption | (refine ⟨?_, ?_⟩ <;> omega))) gM_X6_72 gI_yX3_set gS_yX3_set gN_X3 gC_yX3_set (isCr_k hd) (σ_cr G n0 _ _ hd) rfl dX6_findLack_101 hl_yX3_set ⟨Nat.le_of_ble_eq_true rfl, Nat.le_of_ble_eq_true rfl⟩ (Nat.le_of_ble_eq_true rfl) rfl (fun mi6 mr6 h6 => ?_)
                obtain ⟨e9, rfl⟩ := h6
                rw [if_pos ⟨by omega, by omega⟩, Int.toNat_natCast] at e9
                subst e9
                refine w_iload X dX6_findLack_104 rfl ?_
                refine w_iload X dX6_findLack_106 rfl ?_
                refine w_iadd X dX6_findLack_108 ?_
                refine w_ist7_4 X dX6_findLack_109 ?_
                refine w_iinc7_5 X dX6_findLack_111 ?_
                refine w_goto X 23 dX6_findLack_114 (by decide) ?_
                exact ih_loop _ (by omega) _ (i + 1) _ _ (by omega) (fun a ha => (up2_k _ _ _ _ ha).trans (hm a ha)) (fun j hj => by
                  by_cases q : j = i
                  · subst q; rw [up2_s, if_pos (by omega)]; exact hlk.symm
                  · rw [up2_j _ _ _ _ q, hF j hj, ite_step q])
                  (fun j hj => by rcases (show j < i ∨ j = i by omega) with q | q; exact hN j q; subst q; exact hnn) (by rw [ht]; show _ = _ + (lks _ _ i + lk _ _ i); omega) rfl
              ·
                refine w_aload_n X dX6_findLack_75 rfl ?_
                refine w_aload_n X dX6_findLack_76 rfl ?_
                refine w_get X (isRu_k hk) (σ_ru G n0 _ _ hk) rfl gW_X6 7 (by decide) gF_X6_34 rfl dX6_findLack_77 ?_
                refine s_callVi X _ (c_X6_goalOf (l := l) (G := G) (n0 := n0) hk hv2 (by first | assumption | (refine ⟨?_, ?_⟩ <;> omega))) gM_X6_69 gI_yX6_goalOf gS_yX6_goalOf gN_X6 gC_yX6_goalOf (isRu_k hk) (σ_ru G n0 _ _ hk) rfl dX6_findLack_80 hl_yX6_goalOf ⟨Nat.le_of_ble_eq_true rfl, Nat.le_of_ble_eq_true rfl⟩ (Nat.le_of_ble_eq_true rfl) rfl (fun r6 mi6 mr6 h6 => ?_)
                obtain ⟨rfl, rfl, h6, b9, q9⟩ := h6
                rw [if_pos ⟨by omega, by omega⟩, hk2] at h6
                refine w_iload X dX6_findLack_83 rfl ?_
                refine w_icmp_ne X 96 dX6_findLack_85 (by decide) (fun c85_15 => ?_) (fun c85_15 => ?_)
                ·
                  have hlk : lk (mi k) (mi (c + 1)) i = z4 := by
                    first
                    | (unfold lk; rw [if_neg (fun w => w.1 (by omega)), hl0] <;> omega)
                    | (unfold lk; rw [if_neg (fun w => by have q9 := w.2.1; omega), hl0] <;> omega)
                    | (rw [lk_need (by omega) (by omega)]; split <;> omega)
                  refine w_aload_n X dX6_findLack_96 rfl ?_
                  refine w_iload X dX6_findLack_97 rfl ?_
                  refine w_iload X dX6_findLack_99 rfl ?_
                  refine s_callVv X _ (c_X3_set (l := l) (G := G) (n0 := n0) hd (by first | assumption | (refine ⟨?_, ?_⟩ <;> omega))) gM_X6_72 gI_yX3_set gS_yX3_set gN_X3 gC_yX3_set (isCr_k hd) (σ_cr G n0 _ _ hd) rfl dX6_findLack_101 hl_yX3_set ⟨Nat.le_of_ble_eq_true rfl, Nat.le_of_ble_eq_true rfl⟩ (Nat.le_of_ble_eq_true rfl) rfl (fun mi7 mr7 h7 => ?_)
                  obtain ⟨e9, rfl⟩ := h7
                  rw [if_pos ⟨by omega, by omega⟩, Int.toNat_natCast] at e9
                  subst e9
                  refine w_iload X dX6_findLack_104 rfl ?_
                  refine w_iload X dX6_findLack_106 rfl ?_
                  refine w_iadd X dX6_findLack_108 ?_
                  refine w_ist7_4 X dX6_findLack_109 ?_
                  refine w_iinc7_5 X dX6_findLack_111 ?_
                  refine w_goto X 23 dX6_findLack_114 (by decide) ?_
                  exact ih_loop _ (by omega) _ (i + 1) _ _ (by omega) (fun a ha => (up2_k _ _ _ _ ha).trans (hm a ha)) (fun j hj => by
                    by_cases q : j = i
                    · subst q; rw [up2_s, if_pos (by omega)]; exact hlk.symm
                    · rw [up2_j _ _ _ _ q, hF j hj, ite_step q])
                    (fun j hj => by rcases (show j < i ∨ j = i by omega) with q | q; exact hN j q; subst q; exact hnn) (by rw [ht]; show _ = _ + (lks _ _ i + lk _ _ i); omega) rfl
                ·
                  refine w_iconst X dX6_findLack_88 ?_
                  refine w_iload X dX6_findLack_89 rfl ?_
                  refine w_mmax X gM_X6_59 ⟨Nat.le_of_ble_eq_true rfl, Nat.le_of_ble_eq_true rfl⟩ ⟨Nat.zero_le _, Nat.zero_le _⟩ (Nat.le_of_ble_eq_true rfl) dX6_findLack_91 (fun z7 h7 => ?_)
                  refine w_ist7_6 X dX6_findLack_94 ?_
                  have hlk : lk (mi k) (mi (c + 1)) i = z7 := by
                    first
                    | (unfold lk; rw [if_neg (fun w => w.1 (by omega)), hl0] <;> omega)
                    | (unfold lk; rw [if_neg (fun w => by have q9 := w.2.1; omega), hl0] <;> omega)
                    | (rw [lk_need (by omega) (by omega)]; split <;> omega)
                  refine w_aload_n X dX6_findLack_96 rfl ?_
                  refine w_iload X dX6_findLack_97 rfl ?_
                  refine w_iload X dX6_findLack_99 rfl ?_
                  refine s_callVv X _ (c_X3_set (l := l) (G := G) (n0 := n0) hd (by first | assumption | (refine ⟨?_, ?_⟩ <;> omega))) gM_X6_72 gI_yX3_set gS_yX3_set gN_X3 gC_yX3_set (isCr_k hd) (σ_cr G n0 _ _ hd) rfl dX6_findLack_101 hl_yX3_set ⟨Nat.le_of_ble_eq_true rfl, Nat.le_of_ble_eq_true rfl⟩ (Nat.le_of_ble_eq_true rfl) rfl (fun mi8 mr8 h8 => ?_)
                  obtain ⟨e9, rfl⟩ := h8
                  rw [if_pos ⟨by omega, by omega⟩, Int.toNat_natCast] at e9
                  subst e9
                  refine w_iload X dX6_findLack_104 rfl ?_
                  refine w_iload X dX6_findLack_106 rfl ?_
                  refine w_iadd X dX6_findLack_108 ?_
                  refine w_ist7_4 X dX6_findLack_109 ?_
                  refine w_iinc7_5 X dX6_findLack_111 ?_
                  refine w_goto X 23 dX6_findLack_114 (by decide) ?_
                  exact ih_loop _ (by omega) _ (i + 1) _ _ (by omega) (fun a ha => (up2_k _ _ _ _ ha).trans (hm a ha)) (fun j hj => by
                    by_cases q : j = i
                    · subst q; rw [up2_s, if_pos (by omega)]; exact hlk.symm
                    · rw [up2_j _ _ _ _ q, hF j hj, ite_step q])
                    (fun j hj => by rcases (show j < i ∨ j = i by omega) with q | q; exact hN j q; subst q; exact hnn) (by rw [ht]; show _ = _ + (lks _ _ i + lk _ _ i); omega) rfl
            ·
              refine w_bipush X dX6_findLack_63 rfl ?_
              refine s_iret X hr dX6_findLack_65 ?_
              refine ⟨Or.inl ⟨rfl, ⟨i, by omega, by omega, ?_⟩, hm⟩, rfl⟩
              intro j hj hj2
              rcases h5 with q5 | q5
              · omega
              · exact q5.2 j hj (by rw [hk2]; exact hj2)
    exact loop _ mi0 0 _ none (by omega) hm0 hF0 (fun j hj => absurd hj (by omega)) (by rw [hs0]; simp [lks]) rfl
set_option maxRecDepth 20000 in
set_option maxHeartbeats 4000000 in
theorem c_X6_setGoals {l : Launch} {G : Gt} {n0 : Nat} {mi : Nat → Nat → Int} {mr : Nat → Nat → Nat} {k : Nat} (hk : isRu k) (hr1 : rg (mi k 1)) (hr6 : rg (mi k 6)) (h6 : mi k 1 = 2 → 0 ≤ mi k 6) : Cv l yX6_setGoals cX6_setGoals 3 1 G n0 [.ref (n0 + k)] mi mr (fun mi9 mr9 => (∀ j : Nat, j < 5 → mi9 (k + 1) j = gol (mi k) j) ∧ (∀ a, a ≠ k + 1 → mi9 a = mi a) ∧ mr = mr9) := by
  refine Ct_of (by decide +kernel) (by intro v hv; simp at hv; rcases hv with rfl <;> rfl) (Nat.le_of_ble_eq_true rfl) ?_
  intro p e s m args below meth c9 X hr hname
  show WW _ _ _ _ _ _ _ _ _ _ _ _ _ _ _ _ _ _ _ [some (.ref (n0 + k)), none, none] _
  refine w_aload_n X dX6_setGoals_0 rfl ?_
  refine w_get X (isRu_k hk) (σ_ru G n0 _ _ hk) rfl gW_X6 6 (by decide) gF_X6_31 rfl dX6_setGoals_1 ?_
  refine w_ist3_1 X dX6_setGoals_4 ?_
  refine w_iconst X dX6_setGoals_5 ?_
  refine w_ist3_2 X dX6_setGoals_6 ?_
  have loop : ∀ (n : Nat) (mi' : Nat → Nat → Int) (i : Nat) (z : Int), (i ≤ 5) → (∀ a, a ≠ k + 1 → mi' a = mi a) → (∀ j : Nat, j < i → mi' (k + 1) j = gol (mi k) j) → (rg z ∧ (mi k 1 = 2 → 0 ≤ z ∧ z = mi k 6 / 10 ^ i)) → n = 5 - i → WSv p l e s m args below meth c9 1 (fun mi9 mr9 => (∀ j : Nat, j < 5 → mi9 (k + 1) j = gol (mi k) j) ∧ (∀ a, a ≠ k + 1 → mi9 a = mi a) ∧ mr = mr9) G n0 3 mi' mr 7 [some (.ref (n0 + k)), some (.int (jI z)), some (.int (jI (i : Int)))] [] := by
    intro n
    induction n using Nat.strongRecOn with
    | ind n ih_loop =>
      intro mi' i z hi hm hF hz hn
      have hk1 : mi' k 1 = mi k 1 := by rw [hm _ (by omega)]
      refine w_iload_n X dX6_setGoals_7 rfl ?_
      refine w_aload_n X dX6_setGoals_8 rfl ?_
      refine w_get X (isRu_k hk) (σ_ru G n0 _ _ hk) rfl gW_X6 0 (by decide) gF_X6_9 rfl dX6_setGoals_9 ?_
      refine w_alen X (t := 0) (isRu_k1 hk) (σ_go G n0 _ _ hk) rfl dX6_setGoals_12 ?_
      refine s_alen (b := 5) rfl ?_
      refine w_icmp_ge X 49 dX6_setGoals_13 (by decide) (fun c13_1 => ?_) (fun c13_1 => ?_)
      ·
        refine s_vret X hr dX6_setGoals_49 ?_
        exact ⟨fun j hj => hF j (by omega), hm, rfl⟩
      ·
        refine w_aload_n X dX6_setGoals_16 rfl ?_
        refine w_get X (isRu_k hk) (σ_ru G n0 _ _ hk) rfl gW_X6 0 (by decide) gF_X6_9 rfl dX6_setGoals_17 ?_
        refine w_iload_n X dX6_setGoals_20 rfl ?_
        refine w_aload_n X dX6_setGoals_21 rfl ?_
        refine w_get X (isRu_k hk) (σ_ru G n0 _ _ hk) rfl gW_X6 1 (by decide) gF_X6_15 rfl dX6_setGoals_22 ?_
        refine w_iconst X dX6_setGoals_25 ?_
        refine w_icmp_ne X 36 dX6_setGoals_26 (by decide) (fun c26_2 => ?_) (fun c26_2 => ?_)
        ·
          have hgo : gol (mi k) i = i := if_neg (by omega)
          refine w_iload_n X dX6_setGoals_36 rfl ?_
          refine s_iast X (i) (isRu_k1 hk) (fun _ => σ_go G n0 _ _ hk) dX6_setGoals_37 ?_
          refine w_iload_n X dX6_setGoals_38 rfl ?_
          refine w_bipush X dX6_setGoals_39 rfl ?_
          refine w_idivT X dX6_setGoals_41 (fun z1 h1 => ?_)
          refine w_ist3_1 X dX6_setGoals_42 ?_
          refine w_iinc3_2 X dX6_setGoals_43 ?_
          refine w_goto X 7 dX6_setGoals_46 (by decide) ?_
          have e8 : mi k 6 / 10 ^ (i + 1) = mi k 6 / 10 ^ i / 10 := by rw [Int.pow_succ, Int.ediv_ediv_of_nonneg (Int.le_of_lt (Int.pow_pos (by decide)))]
          have hz8 : mi k 1 = 2 → 0 ≤ z1 ∧ z1 = mi k 6 / 10 ^ (i + 1) := by
            intro q
            obtain ⟨q2, q3⟩ := hz.2 q
            rw [e8, ← q3]
            omega
          exact ih_loop _ (by omega) _ (i + 1) _ (by omega) (fun a ha => (up2_k _ _ _ _ ha).trans (hm a ha)) (fun j hj => by
            by_cases q : j = i
            · subst q; rw [up2_s]; exact hgo.symm
            · rw [up2_j _ _ _ _ q]; exact hF j (by omega))
            ⟨⟨by omega, by omega⟩, hz8⟩ rfl
        ·
          have hgo : gol (mi k) i = z % 10 := by unfold gol; rw [if_pos (by omega), (hz.2 (by omega)).2]
          refine w_iload_n X dX6_setGoals_29 rfl ?_
          refine w_bipush X dX6_setGoals_30 rfl ?_
          refine w_irem X dX6_setGoals_32 ?_ (ha := by have := hz.2 (by omega); have := hz.1.2; omega)
          refine w_goto X 37 dX6_setGoals_33 (by decide) ?_
          refine s_iast X (i) (isRu_k1 hk) (fun _ => σ_go G n0 _ _ hk) dX6_setGoals_37 ?_
          refine w_iload_n X dX6_setGoals_38 rfl ?_
          refine w_bipush X dX6_setGoals_39 rfl ?_
          refine w_idivT X dX6_setGoals_41 (fun z1 h1 => ?_)
          refine w_ist3_1 X dX6_setGoals_42 ?_
          refine w_iinc3_2 X dX6_setGoals_43 ?_
          refine w_goto X 7 dX6_setGoals_46 (by decide) ?_
          have e8 : mi k 6 / 10 ^ (i + 1) = mi k 6 / 10 ^ i / 10 := by rw [Int.pow_succ, Int.ediv_ediv_of_nonneg (Int.le_of_lt (Int.pow_pos (by decide)))]
          have hz8 : mi k 1 = 2 → 0 ≤ z1 ∧ z1 = mi k 6 / 10 ^ (i + 1) := by
            intro q
            obtain ⟨q2, q3⟩ := hz.2 q
            rw [e8, ← q3]
            omega
          exact ih_loop _ (by omega) _ (i + 1) _ (by omega) (fun a ha => (up2_k _ _ _ _ ha).trans (hm a ha)) (fun j hj => by
            by_cases q : j = i
            · subst q; rw [up2_s]; exact hgo.symm
            · rw [up2_j _ _ _ _ q]; exact hF j (by omega))
            ⟨⟨by omega, by omega⟩, hz8⟩ rfl
  exact loop _ mi 0 _ (by omega) (fun _ _ => rfl) (fun j hj => absurd hj (by omega)) ⟨hr6, fun q => ⟨h6 q, by simp⟩⟩ rfl
set_option maxRecDepth 20000 in
set_option maxHeartbeats 4000000 in
theorem c_X6_become {l : Launch} {G : Gt} {n0 : Nat} {mi : Nat → Nat → Int} {mr : Nat → Nat → Nat} {k : Nat} (hk : isRu k) {z1 z2 z3 z4 z5 z6 : Int} (hz1 : rg z1) (hz6 : rg z6) (h6 : z1 = 2 → 0 ≤ z6) : Cv l yX6_become cX6_become 7 2 G n0 [.ref (n0 + k), .int (jI z1), .int (jI z2), .int (jI z3), .int (jI z4), .int (jI z5), .int (jI z6)] mi mr (fun mi9 mr9 => (mi9 k 1 = z1 ∧ mi9 k 2 = z2 ∧ mi9 k 3 = z3 ∧ mi9 k 4 = z4 ∧ mi9 k 5 = z5 ∧ mi9 k 6 = z6 ∧ mi9 k 7 = -9) ∧ (∀ j : Nat, j < 5 → mi9 (k + 1) j = gol (mi9 k) j) ∧ (∀ a, a ≠ k → a ≠ k + 1 → mi9 a = mi a) ∧ mr = mr9) := by
  refine Ct_of (by decide +kernel) (by intro v hv; simp at hv; rcases hv with rfl | rfl | rfl | rfl | rfl | rfl | rfl <;> rfl) (Nat.le_of_ble_eq_true rfl) ?_
  intro p e s m args below meth c9 X hr hname
  show WW _ _ _ _ _ _ _ _ _ _ _ _ _ _ _ _ _ _ _ [some (.ref (n0 + k)), some (.int (jI z1)), some (.int (jI z2)), some (.int (jI z3)), some (.int (jI z4)), some (.int (jI z5)), some (.int (jI z6))] _
  refine w_aload_n X dX6_become_0 rfl ?_
  refine w_iload_n X dX6_become_1 rfl ?_
  refine w_put X (isRu_k hk) (σ_ru G n0 _ _ hk) rfl gW_X6 tyX6 tyX6_ok nmX6 1 (by decide) gF_X6_15 rfl rfl rfl (Nat.le_of_ble_eq_true rfl) dX6_become_2 (WW.eqf (sp_ru_1 hk _) ?_)
  refine w_aload_n X dX6_become_5 rfl ?_
  refine w_iload_n X dX6_become_6 rfl ?_
  refine w_put X (isRu_k hk) (σ_ru G n0 _ _ hk) rfl gW_X6 tyX6 tyX6_ok nmX6 2 (by decide) gF_X6_19 rfl rfl rfl (Nat.le_of_ble_eq_true rfl) dX6_become_7 (WW.eqf (sp_ru_2 hk _) ?_)
  refine w_aload_n X dX6_become_10 rfl ?_
  refine w_iload_n X dX6_become_11 rfl ?_
  refine w_put X (isRu_k hk) (σ_ru G n0 _ _ hk) rfl gW_X6 tyX6 tyX6_ok nmX6 3 (by decide) gF_X6_22 rfl rfl rfl (Nat.le_of_ble_eq_true rfl) dX6_become_12 (WW.eqf (sp_ru_3 hk _) ?_)
  refine w_aload_n X dX6_become_15 rfl ?_
  refine w_iload X dX6_become_16 rfl ?_
  refine w_put X (isRu_k hk) (σ_ru G n0 _ _ hk) rfl gW_X6 tyX6 tyX6_ok nmX6 4 (by decide) gF_X6_25 rfl rfl rfl (Nat.le_of_ble_eq_true rfl) dX6_become_18 (WW.eqf (sp_ru_4 hk _) ?_)
  refine w_aload_n X dX6_become_21 rfl ?_
  refine w_iload X dX6_become_22 rfl ?_
  refine w_put X (isRu_k hk) (σ_ru G n0 _ _ hk) rfl gW_X6 tyX6 tyX6_ok nmX6 5 (by decide) gF_X6_28 rfl rfl rfl (Nat.le_of_ble_eq_true rfl) dX6_become_24 (WW.eqf (sp_ru_5 hk _) ?_)
  refine w_aload_n X dX6_become_27 rfl ?_
  refine w_iload X dX6_become_28 rfl ?_
  refine w_put X (isRu_k hk) (σ_ru G n0 _ _ hk) rfl gW_X6 tyX6 tyX6_ok nmX6 6 (by decide) gF_X6_31 rfl rfl rfl (Nat.le_of_ble_eq_true rfl) dX6_become_30 (WW.eqf (sp_ru_6 hk _) ?_)
  refine w_aload_n X dX6_become_33 rfl ?_
  refine w_bipush X dX6_become_34 rfl ?_
  refine w_put X (isRu_k hk) (σ_ru G n0 _ _ hk) rfl gW_X6 tyX6 tyX6_ok nmX6 7 (by decide) gF_X6_34 rfl rfl rfl (Nat.le_of_ble_eq_true rfl) dX6_become_36 (WW.eqf (sp_ru_7 hk _) ?_)
  refine w_aload_n X dX6_become_39 rfl ?_
  have hq1 : rg ((up2 (up2 (up2 (up2 (up2 (up2 (up2 mi k 1 z1) k 2 z2) k 3 z3) k 4 z4) k 5 z5) k 6 z6) k 7 (-9)) k 1) := by simp [up2]; exact hz1
  have hq6 : rg ((up2 (up2 (up2 (up2 (up2 (up2 (up2 mi k 1 z1) k 2 z2) k 3 z3) k 4 z4) k 5 z5) k 6 z6) k 7 (-9)) k 6) := by simp [up2]; exact hz6
  have hq16 : (up2 (up2 (up2 (up2 (up2 (up2 (up2 mi k 1 z1) k 2 z2) k 3 z3) k 4 z4) k 5 z5) k 6 z6) k 7 (-9)) k 1 = 2 → 0 ≤ (up2 (up2 (up2 (up2 (up2 (up2 (up2 mi k 1 z1) k 2 z2) k 3 z3) k 4 z4) k 5 z5) k 6 z6) k 7 (-9)) k 6 := by simp [up2]; exact h6
  refine s_callVv X _ (c_X6_setGoals (l := l) (G := G) (n0 := n0) hk hq1 hq6 hq16) gM_X6_37 gI_yX6_setGoals gS_yX6_setGoals gN_X6 gC_yX6_setGoals (isRu_k hk) (σ_ru G n0 _ _ hk) rfl dX6_become_40 hl_yX6_setGoals ⟨Nat.le_of_ble_eq_true rfl, Nat.le_of_ble_eq_true rfl⟩ (Nat.le_of_ble_eq_true rfl) rfl (fun mi1 mr1 h1 => ?_)
  obtain ⟨hg9, hf9, rfl⟩ := h1
  refine s_vret X hr dX6_become_43 ?_
  have e1 : mi1 k = up2 (up2 (up2 (up2 (up2 (up2 (up2 mi k 1 z1) k 2 z2) k 3 z3) k 4 z4) k 5 z5) k 6 z6) k 7 (-9) k := hf9 k (by omega)
  refine ⟨⟨?_, ?_, ?_, ?_, ?_, ?_, ?_⟩, fun j hj => by rw [hg9 j hj, e1], fun a ha ha2 => ?_, rfl⟩
  all_goals (first | (rw [e1]; simp [up2]; done) | (rw [hf9 a ha2]; funext b; simp [up2, ha]))
end
section
theorem sh_l : ∀ n, n < 32 → ((nI n &&& 31).toBitVec.smod 32).toNat = n := by decide +kernel
section More
variable {p : Program} {l : Launch} {e : Env} {R : Room} {s : State} {m : MethodId} {args : Array Value} {below : List Frame} {meth : Method} {c : Code} {Q : State → Prop} {G : Gt} {n0 nL N : Nat} {f : Nat → va_E} {cells slots pc : Nat} {L : List (Option Value)} {st : List Value} {cc : ByteArray} {own : String}
theorem w_ishr (X : Cx G n0 p s m args meth c cc own nL) {a b : Int} (hd : decode cc pc = .ok (.ishr, 1)) (kk : WW p l e R s m args below meth c Q G n0 nL N f cells slots (pc + 1) L (.int (jI (a / 2 ^ b.toNat)) :: st)) (ha : 0 ≤ a ∧ a < 2147483648 := by omega) (hb : 0 ≤ b ∧ b < 31 := by omega) : WW p l e R s m args below meth c Q G n0 nL N f cells slots pc L (.int (jI b) :: .int (jI a) :: st) := fun H locs ls h1 h2 h3 => by
  obtain ⟨n, rfl⟩ := Int.eq_ofNat_of_zero_le ha.1
  obtain ⟨k, rfl⟩ := Int.eq_ofNat_of_zero_le hb.1
  have e : jI (n : Int) >>> (jI (k : Int) &&& 31) = jI ((n : Int) / 2 ^ (k : Int).toNat) := by
    rw [← nI_jI, ← nI_jI, pk_shrN (by omega) _ k (sh_l k (by omega)), nI_jI]
    simp
  refine lv_ishr X.1 X.2.1 hd ?_
  rw [e]; exact kk H locs ls h1 h2 h3
theorem w_iand1 (X : Cx G n0 p s m args meth c cc own nL) {a : Int} (hd : decode cc pc = .ok (.iand, 1)) (kk : WW p l e R s m args below meth c Q G n0 nL N f cells slots (pc + 1) L (.int (jI (a % 2)) :: st)) (ha : 0 ≤ a ∧ a < 2147483648 := by omega) : WW p l e R s m args below meth c Q G n0 nL N f cells slots pc L (.int (jI 1) :: .int (jI a) :: st) := fun H locs ls h1 h2 h3 => by
  obtain ⟨n, rfl⟩ := Int.eq_ofNat_of_zero_le ha.1
  have e : jI (n : Int) &&& jI 1 = jI ((n : Int) % 2) := by
    rw [← nI_jI, pk_andN (by omega) 1 (by decide), nI_jI]
    simp
  refine lv_iand X.1 X.2.1 hd ?_
  rw [e]; exact kk H locs ls h1 h2 h3
theorem w_ishl (X : Cx G n0 p s m args meth c cc own nL) {b : Int} (hd : decode cc pc = .ok (.ishl, 1)) (kk : WW p l e R s m args below meth c Q G n0 nL N f cells slots (pc + 1) L (.int (jI (2 ^ b.toNat)) :: st)) (hb : 1 ≤ b ∧ b ≤ 5 := by omega) : WW p l e R s m args below meth c Q G n0 nL N f cells slots pc L (.int (jI b) :: .int (jI 1) :: st) := fun H locs ls h1 h2 h3 => by
  have e : jI 1 <<< (jI b &&& 31) = jI (2 ^ b.toNat) := by
    rcases (show b = 1 ∨ b = 2 ∨ b = 3 ∨ b = 4 ∨ b = 5 by omega) with rfl | rfl | rfl | rfl | rfl <;> decide
  refine lv_ishl X.1 X.2.1 hd ?_
  rw [e]; exact kk H locs ls h1 h2 h3
end More
/-- the laws' places are in order -/
def LW (mi : Nat → Nat → Int) : Prop := (1 ≤ mi 1 3 ∧ mi 1 3 ≤ 5) ∧ (1 ≤ mi 1 4 ∧ mi 1 4 < 32) ∧ (0 ≤ mi 1 5 ∧ mi 1 5 ≤ 12) ∧ (0 ≤ mi 1 6 ∧ mi 1 6 ≤ 6) ∧ (∀ i : Nat, (i : Int) < mi 1 5 → RV (mi 1 3) mi (6 + 2 * i)) ∧ ∀ b : Nat, (b : Int) < mi 1 6 → CB mi (30 + 2 * b)
theorem LW_fr {mi mi' : Nat → Nat → Int} (h : LW mi) (h1 : ∀ a, a < 42 → a ≠ 4 → a ≠ 5 → mi' a = mi a) : LW mi' := by
  obtain ⟨g1, g2, g3, g4, g5, g6⟩ := h
  have e1 := h1 1 (by decide) (by decide) (by decide)
  unfold LW
  rw [e1]
  refine ⟨g1, g2, g3, g4, fun i hi => RV_fr (g5 i hi) (h1 _ (by omega) (by omega) (by omega)) (h1 _ (by omega) (by omega) (by omega)), fun b hb => CB_fr (g6 b hb) (h1 _ (by omega) (by omega) (by omega))⟩
def p10 (s : Int) : Int := if s = 1 then 10 else if s = 2 then 100 else if s = 3 then 1000 else if s = 4 then 10000 else 100000
def mapok (sc z : Int) : Prop := 0 ≤ z ∧ z < p10 sc ∧ ∀ j : Nat, (j : Int) < sc → z / 10 ^ j % 10 < sc
def btz (s : Int) (i : Nat) : Int := s / 2 ^ i % 2
def inst (s : Int) (v : Nat → Int) (sc : Int) : Prop := ∀ j : Nat, (j : Int) < sc → v j ≤ 0 ∨ btz s j = 1
noncomputable def cnt (P : Nat → Prop) : Nat → Int
  | 0 => 0
  | n + 1 => cnt P n + @ite _ (P n) (Classical.propDecidable _) 1 0
theorem cnt_t {P : Nat → Prop} {n : Nat} (h : P n) : cnt P (n + 1) = cnt P n + 1 := by
  show cnt P n + @ite _ (P n) (Classical.propDecidable _) 1 0 = _
  rw [if_pos h]
theorem cnt_f {P : Nat → Prop} {n : Nat} (h : ¬ P n) : cnt P (n + 1) = cnt P n := by
  show cnt P n + @ite _ (P n) (Classical.propDecidable _) 1 0 = _
  rw [if_neg h, Int.add_zero]
theorem cnt_b (P : Nat → Prop) : ∀ n : Nat, 0 ≤ cnt P n ∧ cnt P n ≤ n
  | 0 => ⟨Int.le_refl _, Int.le_refl _⟩
  | n + 1 => by
    have h := cnt_b P n
    by_cases q : P n
    · rw [cnt_t q]; omega
    · rw [cnt_f q]; omega
theorem cnt_c {P Q : Nat → Prop} : ∀ {n : Nat}, (∀ j, j < n → (P j ↔ Q j)) → cnt P n = cnt Q n
  | 0, _ => rfl
  | n + 1, h => by
    have h1 := cnt_c (n := n) (fun j hj => h j (by omega))
    by_cases q : P n
    · rw [cnt_t q, cnt_t ((h n (by omega)).mp q), h1]
    · rw [cnt_f q, cnt_f (fun w => q ((h n (by omega)).mpr w)), h1]
theorem dX2_of_0 : decode cX2_of 0 = .ok (.iload_n 1, 1) := by decide +kernel
theorem dX2_of_1 : decode cX2_of 1 = .ok (.bipush 12, 2) := by decide +kernel
theorem dX2_of_3 : decode cX2_of 3 = .ok (.imul, 1) := by decide +kernel
theorem dX2_of_4 : decode cX2_of 4 = .ok (.iload_n 2, 1) := by decide +kernel
theorem dX2_of_5 : decode cX2_of 5 = .ok (.iadd, 1) := by decide +kernel
theorem dX2_of_6 : decode cX2_of 6 = .ok (.istore_n 3, 1) := by decide +kernel
theorem dX2_of_7 : decode cX2_of 7 = .ok (.iload_n 3, 1) := by decide +kernel
theorem dX2_of_8 : decode cX2_of 8 = .ok (.ifCond .lt 21, 3) := by decide +kernel
theorem dX2_of_11 : decode cX2_of 11 = .ok (.iload_n 3, 1) := by decide +kernel
theorem dX2_of_12 : decode cX2_of 12 = .ok (.aload_n 0, 1) := by decide +kernel
theorem dX2_of_13 : decode cX2_of 13 = .ok (.getfield 9, 3) := by decide +kernel
theorem dX2_of_16 : decode cX2_of 16 = .ok (.arraylength, 1) := by decide +kernel
theorem dX2_of_17 : decode cX2_of 17 = .ok (.if_icmp .ge 12, 3) := by decide +kernel
theorem dX2_of_20 : decode cX2_of 20 = .ok (.aload_n 0, 1) := by decide +kernel
theorem dX2_of_21 : decode cX2_of 21 = .ok (.getfield 9, 3) := by decide +kernel
theorem dX2_of_24 : decode cX2_of 24 = .ok (.iload_n 3, 1) := by decide +kernel
theorem dX2_of_25 : decode cX2_of 25 = .ok (.iaload, 1) := by decide +kernel
theorem dX2_of_26 : decode cX2_of 26 = .ok (.goto 5, 3) := by decide +kernel
theorem dX2_of_29 : decode cX2_of 29 = .ok (.bipush (-9), 2) := by decide +kernel
theorem dX2_of_31 : decode cX2_of 31 = .ok (.ireturn, 1) := by decide +kernel
theorem dX2_set_0 : decode cX2_set 0 = .ok (.iload_n 1, 1) := by decide +kernel
theorem dX2_set_1 : decode cX2_set 1 = .ok (.bipush 12, 2) := by decide +kernel
theorem dX2_set_3 : decode cX2_set 3 = .ok (.imul, 1) := by decide +kernel
theorem dX2_set_4 : decode cX2_set 4 = .ok (.iload_n 2, 1) := by decide +kernel
theorem dX2_set_5 : decode cX2_set 5 = .ok (.iadd, 1) := by decide +kernel
theorem dX2_set_6 : decode cX2_set 6 = .ok (.istore 4, 2) := by decide +kernel
theorem dX2_set_8 : decode cX2_set 8 = .ok (.iload 4, 2) := by decide +kernel
theorem dX2_set_10 : decode cX2_set 10 = .ok (.ifCond .lt 21, 3) := by decide +kernel
theorem dX2_set_13 : decode cX2_set 13 = .ok (.iload 4, 2) := by decide +kernel
theorem dX2_set_15 : decode cX2_set 15 = .ok (.aload_n 0, 1) := by decide +kernel
theorem dX2_set_16 : decode cX2_set 16 = .ok (.getfield 9, 3) := by decide +kernel
theorem dX2_set_19 : decode cX2_set 19 = .ok (.arraylength, 1) := by decide +kernel
theorem dX2_set_20 : decode cX2_set 20 = .ok (.if_icmp .ge 11, 3) := by decide +kernel
theorem dX2_set_23 : decode cX2_set 23 = .ok (.aload_n 0, 1) := by decide +kernel
theorem dX2_set_24 : decode cX2_set 24 = .ok (.getfield 9, 3) := by decide +kernel
theorem dX2_set_27 : decode cX2_set 27 = .ok (.iload 4, 2) := by decide +kernel
theorem dX2_set_29 : decode cX2_set 29 = .ok (.iload_n 3, 1) := by decide +kernel
theorem dX2_set_30 : decode cX2_set 30 = .ok (.iastore, 1) := by decide +kernel
theorem dX2_set_31 : decode cX2_set 31 = .ok (.return_, 1) := by decide +kernel
theorem hl_yX2_of : (yX2_of.cls ≠ "java/lang/invoke/MethodHandle" ∧ yX2_of.cls ≠ "java/lang/invoke/VarHandle") ∧ (parseMethodDescriptor yX2_of.desc).map (fun d => d.parameters.length) = some 2 := by decide +kernel
theorem hl_yX2_set : (yX2_set.cls ≠ "java/lang/invoke/MethodHandle" ∧ yX2_set.cls ≠ "java/lang/invoke/VarHandle") ∧ (parseMethodDescriptor yX2_set.desc).map (fun d => d.parameters.length) = some 3 := by decide +kernel
set_option maxRecDepth 20000 in
set_option maxHeartbeats 4000000 in
theorem c_X2_of_s {l : Launch} {G : Gt} {n0 : Nat} {mi : Nat → Nat → Int} {mr : Nat → Nat → Nat} {a b : Int} (hz : rg (a * 12 + b)) : Ci l yX2_of cX2_of 4 .int 1 G n0 [.ref (n0 + 45), .int (jI a), .int (jI b)] mi mr (fun r9 mi9 mr9 => mi = mi9 ∧ mr = mr9 ∧ r9 = if 0 ≤ a * 12 + b ∧ a * 12 + b < 1200 then mi 46 (a * 12 + b).toNat else -9) := by
  refine Ct_of (by decide +kernel) (by intro v hv; simp at hv; rcases hv with rfl | rfl | rfl <;> rfl) (Nat.le_of_ble_eq_true rfl) ?_
  intro p e s m args below meth c9 X hr hname
  show WW _ _ _ _ _ _ _ _ _ _ _ _ _ _ _ _ _ _ _ [some (.ref (n0 + 45)), some (.int (jI a)), some (.int (jI b)), none] _
  refine w_iload_n X dX2_of_0 rfl ?_
  refine w_bipush X dX2_of_1 rfl ?_
  refine w_imul X dX2_of_3 ?_
  refine w_iload_n X dX2_of_4 rfl ?_
  refine w_iadd X dX2_of_5 ?_
  refine w_ist4_3 X dX2_of_6 ?_
  refine w_iload_n X dX2_of_7 rfl ?_
  refine w_if_lt X 29 dX2_of_8 (by decide) (fun c8_1 => ?_) (fun c8_1 => ?_)
  ·
    refine w_bipush X dX2_of_29 rfl ?_
    refine s_iret X hr dX2_of_31 ?_
    first | exact ⟨rfl, rfl, by rw [if_pos ⟨by omega, by omega⟩]⟩ | exact ⟨rfl, rfl, by rw [if_neg (by omega)]⟩
  ·
    refine w_iload_n X dX2_of_11 rfl ?_
    refine w_aload_n X dX2_of_12 rfl ?_
    refine w_get X (by decide) (σ_45 G n0 _ _) rfl gW_X2 0 (by decide) gF_X2_9 rfl dX2_of_13 ?_
    refine w_alen X (t := 0) (by decide) (σ_46 G n0 _ _) rfl dX2_of_16 ?_
    refine s_alen (b := 1200) rfl ?_
    refine w_icmp_ge X 29 dX2_of_17 (by decide) (fun c17_2 => ?_) (fun c17_2 => ?_)
    ·
      refine w_bipush X dX2_of_29 rfl ?_
      refine s_iret X hr dX2_of_31 ?_
      first | exact ⟨rfl, rfl, by rw [if_pos ⟨by omega, by omega⟩]⟩ | exact ⟨rfl, rfl, by rw [if_neg (by omega)]⟩
    ·
      refine w_aload_n X dX2_of_20 rfl ?_
      refine w_get X (by decide) (σ_45 G n0 _ _) rfl gW_X2 0 (by decide) gF_X2_9 rfl dX2_of_21 ?_
      refine w_iload_n X dX2_of_24 rfl ?_
      refine s_iald X _ (by decide) (fun _ => σ_46 G n0 _ _) dX2_of_25 ?_ (hj := rfl)
      refine w_goto X 31 dX2_of_26 (by decide) ?_
      refine s_iret X hr dX2_of_31 ?_
      first | exact ⟨rfl, rfl, by rw [if_pos ⟨by omega, by omega⟩]⟩ | exact ⟨rfl, rfl, by rw [if_neg (by omega)]⟩
set_option maxRecDepth 20000 in
set_option maxHeartbeats 4000000 in
theorem c_X2_set_s {l : Launch} {G : Gt} {n0 : Nat} {mi : Nat → Nat → Int} {mr : Nat → Nat → Nat} {a b z : Int} (hz : rg (a * 12 + b)) : Cv l yX2_set cX2_set 5 1 G n0 [.ref (n0 + 45), .int (jI a), .int (jI b), .int (jI z)] mi mr (fun mi9 mr9 => (if 0 ≤ a * 12 + b ∧ a * 12 + b < 1200 then up2 mi 46 (a * 12 + b).toNat z else mi) = mi9 ∧ mr = mr9) := by
  refine Ct_of (by decide +kernel) (by intro v hv; simp at hv; rcases hv with rfl | rfl | rfl | rfl <;> rfl) (Nat.le_of_ble_eq_true rfl) ?_
  intro p e s m args below meth c9 X hr hname
  show WW _ _ _ _ _ _ _ _ _ _ _ _ _ _ _ _ _ _ _ [some (.ref (n0 + 45)), some (.int (jI a)), some (.int (jI b)), some (.int (jI z)), none] _
  refine w_iload_n X dX2_set_0 rfl ?_
  refine w_bipush X dX2_set_1 rfl ?_
  refine w_imul X dX2_set_3 ?_
  refine w_iload_n X dX2_set_4 rfl ?_
  refine w_iadd X dX2_set_5 ?_
  refine w_ist5_4 X dX2_set_6 ?_
  refine w_iload X dX2_set_8 rfl ?_
  refine w_if_lt X 31 dX2_set_10 (by decide) (fun c10_1 => ?_) (fun c10_1 => ?_)
  ·
    refine s_vret X hr dX2_set_31 ?_
    first | exact ⟨by rw [if_pos ⟨by omega, by omega⟩], rfl⟩ | exact ⟨by rw [if_neg (by omega)], rfl⟩
  ·
    refine w_iload X dX2_set_13 rfl ?_
    refine w_aload_n X dX2_set_15 rfl ?_
    refine w_get X (by decide) (σ_45 G n0 _ _) rfl gW_X2 0 (by decide) gF_X2_9 rfl dX2_set_16 ?_
    refine w_alen X (t := 0) (by decide) (σ_46 G n0 _ _) rfl dX2_set_19 ?_
    refine s_alen (b := 1200) rfl ?_
    refine w_icmp_ge X 31 dX2_set_20 (by decide) (fun c20_2 => ?_) (fun c20_2 => ?_)
    ·
      refine s_vret X hr dX2_set_31 ?_
      first | exact ⟨by rw [if_pos ⟨by omega, by omega⟩], rfl⟩ | exact ⟨by rw [if_neg (by omega)], rfl⟩
    ·
      refine w_aload_n X dX2_set_23 rfl ?_
      refine w_get X (by decide) (σ_45 G n0 _ _) rfl gW_X2 0 (by decide) gF_X2_9 rfl dX2_set_24 ?_
      refine w_iload X dX2_set_27 rfl ?_
      refine w_iload_n X dX2_set_29 rfl ?_
      refine s_iast X _ (by decide) (fun _ => σ_46 G n0 _ _) dX2_set_30 ?_ (hj := rfl)
      refine s_vret X hr dX2_set_31 ?_
      first | exact ⟨by rw [if_pos ⟨by omega, by omega⟩], rfl⟩ | exact ⟨by rw [if_neg (by omega)], rfl⟩
set_option maxRecDepth 20000 in
set_option maxHeartbeats 4000000 in
theorem c_X2_of_g {l : Launch} {G : Gt} {n0 : Nat} {mi : Nat → Nat → Int} {mr : Nat → Nat → Nat} {a b : Int} (hz : rg (a * 12 + b)) : Ci l yX2_of cX2_of 4 .int 1 G n0 [.ref (n0 + 469), .int (jI a), .int (jI b)] mi mr (fun r9 mi9 mr9 => mi = mi9 ∧ mr = mr9 ∧ r9 = if 0 ≤ a * 12 + b ∧ a * 12 + b < 5940 then mi 470 (a * 12 + b).toNat else -9) := by
  refine Ct_of (by decide +kernel) (by intro v hv; simp at hv; rcases hv with rfl | rfl | rfl <;> rfl) (Nat.le_of_ble_eq_true rfl) ?_
  intro p e s m args below meth c9 X hr hname
  show WW _ _ _ _ _ _ _ _ _ _ _ _ _ _ _ _ _ _ _ [some (.ref (n0 + 469)), some (.int (jI a)), some (.int (jI b)), none] _
  refine w_iload_n X dX2_of_0 rfl ?_
  refine w_bipush X dX2_of_1 rfl ?_
  refine w_imul X dX2_of_3 ?_
  refine w_iload_n X dX2_of_4 rfl ?_
  refine w_iadd X dX2_of_5 ?_
  refine w_ist4_3 X dX2_of_6 ?_
  refine w_iload_n X dX2_of_7 rfl ?_
  refine w_if_lt X 29 dX2_of_8 (by decide) (fun c8_1 => ?_) (fun c8_1 => ?_)
  ·
    refine w_bipush X dX2_of_29 rfl ?_
    refine s_iret X hr dX2_of_31 ?_
    first | exact ⟨rfl, rfl, by rw [if_pos ⟨by omega, by omega⟩]⟩ | exact ⟨rfl, rfl, by rw [if_neg (by omega)]⟩
  ·
    refine w_iload_n X dX2_of_11 rfl ?_
    refine w_aload_n X dX2_of_12 rfl ?_
    refine w_get X (by decide) (σ_469 G n0 _ _) rfl gW_X2 0 (by decide) gF_X2_9 rfl dX2_of_13 ?_
    refine w_alen X (t := 0) (by decide) (σ_470 G n0 _ _) rfl dX2_of_16 ?_
    refine s_alen (b := 5940) rfl ?_
    refine w_icmp_ge X 29 dX2_of_17 (by decide) (fun c17_2 => ?_) (fun c17_2 => ?_)
    ·
      refine w_bipush X dX2_of_29 rfl ?_
      refine s_iret X hr dX2_of_31 ?_
      first | exact ⟨rfl, rfl, by rw [if_pos ⟨by omega, by omega⟩]⟩ | exact ⟨rfl, rfl, by rw [if_neg (by omega)]⟩
    ·
      refine w_aload_n X dX2_of_20 rfl ?_
      refine w_get X (by decide) (σ_469 G n0 _ _) rfl gW_X2 0 (by decide) gF_X2_9 rfl dX2_of_21 ?_
      refine w_iload_n X dX2_of_24 rfl ?_
      refine s_iald X _ (by decide) (fun _ => σ_470 G n0 _ _) dX2_of_25 ?_ (hj := rfl)
      refine w_goto X 31 dX2_of_26 (by decide) ?_
      refine s_iret X hr dX2_of_31 ?_
      first | exact ⟨rfl, rfl, by rw [if_pos ⟨by omega, by omega⟩]⟩ | exact ⟨rfl, rfl, by rw [if_neg (by omega)]⟩
set_option maxRecDepth 20000 in
set_option maxHeartbeats 4000000 in
theorem c_X2_set_g {l : Launch} {G : Gt} {n0 : Nat} {mi : Nat → Nat → Int} {mr : Nat → Nat → Nat} {a b z : Int} (hz : rg (a * 12 + b)) : Cv l yX2_set cX2_set 5 1 G n0 [.ref (n0 + 469), .int (jI a), .int (jI b), .int (jI z)] mi mr (fun mi9 mr9 => (if 0 ≤ a * 12 + b ∧ a * 12 + b < 5940 then up2 mi 470 (a * 12 + b).toNat z else mi) = mi9 ∧ mr = mr9) := by
  refine Ct_of (by decide +kernel) (by intro v hv; simp at hv; rcases hv with rfl | rfl | rfl | rfl <;> rfl) (Nat.le_of_ble_eq_true rfl) ?_
  intro p e s m args below meth c9 X hr hname
  show WW _ _ _ _ _ _ _ _ _ _ _ _ _ _ _ _ _ _ _ [some (.ref (n0 + 469)), some (.int (jI a)), some (.int (jI b)), some (.int (jI z)), none] _
  refine w_iload_n X dX2_set_0 rfl ?_
  refine w_bipush X dX2_set_1 rfl ?_
  refine w_imul X dX2_set_3 ?_
  refine w_iload_n X dX2_set_4 rfl ?_
  refine w_iadd X dX2_set_5 ?_
  refine w_ist5_4 X dX2_set_6 ?_
  refine w_iload X dX2_set_8 rfl ?_
  refine w_if_lt X 31 dX2_set_10 (by decide) (fun c10_1 => ?_) (fun c10_1 => ?_)
  ·
    refine s_vret X hr dX2_set_31 ?_
    first | exact ⟨by rw [if_pos ⟨by omega, by omega⟩], rfl⟩ | exact ⟨by rw [if_neg (by omega)], rfl⟩
  ·
    refine w_iload X dX2_set_13 rfl ?_
    refine w_aload_n X dX2_set_15 rfl ?_
    refine w_get X (by decide) (σ_469 G n0 _ _) rfl gW_X2 0 (by decide) gF_X2_9 rfl dX2_set_16 ?_
    refine w_alen X (t := 0) (by decide) (σ_470 G n0 _ _) rfl dX2_set_19 ?_
    refine s_alen (b := 5940) rfl ?_
    refine w_icmp_ge X 31 dX2_set_20 (by decide) (fun c20_2 => ?_) (fun c20_2 => ?_)
    ·
      refine s_vret X hr dX2_set_31 ?_
      first | exact ⟨by rw [if_pos ⟨by omega, by omega⟩], rfl⟩ | exact ⟨by rw [if_neg (by omega)], rfl⟩
    ·
      refine w_aload_n X dX2_set_23 rfl ?_
      refine w_get X (by decide) (σ_469 G n0 _ _) rfl gW_X2 0 (by decide) gF_X2_9 rfl dX2_set_24 ?_
      refine w_iload X dX2_set_27 rfl ?_
      refine w_iload_n X dX2_set_29 rfl ?_
      refine s_iast X _ (by decide) (fun _ => σ_470 G n0 _ _) dX2_set_30 ?_ (hj := rfl)
      refine s_vret X hr dX2_set_31 ?_
      first | exact ⟨by rw [if_pos ⟨by omega, by omega⟩], rfl⟩ | exact ⟨by rw [if_neg (by omega)], rfl⟩
theorem dX5_begin_0 : decode cX5_begin 0 = .ok (.aload_n 0, 1) := by decide +kernel
theorem dX5_begin_1 : decode cX5_begin 1 = .ok (.iload_n 1, 1) := by decide +kernel
theorem dX5_begin_2 : decode cX5_begin 2 = .ok (.putfield 28, 3) := by decide +kernel
theorem dX5_begin_5 : decode cX5_begin 5 = .ok (.aload_n 0, 1) := by decide +kernel
theorem dX5_begin_6 : decode cX5_begin 6 = .ok (.iconst 1, 1) := by decide +kernel
theorem dX5_begin_7 : decode cX5_begin 7 = .ok (.putfield 32, 3) := by decide +kernel
theorem dX5_begin_10 : decode cX5_begin 10 = .ok (.aload_n 0, 1) := by decide +kernel
theorem dX5_begin_11 : decode cX5_begin 11 = .ok (.iconst 0, 1) := by decide +kernel
theorem dX5_begin_12 : decode cX5_begin 12 = .ok (.putfield 35, 3) := by decide +kernel
theorem dX5_begin_15 : decode cX5_begin 15 = .ok (.aload_n 0, 1) := by decide +kernel
theorem dX5_begin_16 : decode cX5_begin 16 = .ok (.iconst 0, 1) := by decide +kernel
theorem dX5_begin_17 : decode cX5_begin 17 = .ok (.putfield 38, 3) := by decide +kernel
theorem dX5_begin_20 : decode cX5_begin 20 = .ok (.return_, 1) := by decide +kernel
theorem dX5_isState_0 : decode cX5_isState 0 = .ok (.iload_n 1, 1) := by decide +kernel
theorem dX5_isState_1 : decode cX5_isState 1 = .ok (.ifCond .lt 15, 3) := by decide +kernel
theorem dX5_isState_4 : decode cX5_isState 4 = .ok (.iload_n 1, 1) := by decide +kernel
theorem dX5_isState_5 : decode cX5_isState 5 = .ok (.aload_n 0, 1) := by decide +kernel
theorem dX5_isState_6 : decode cX5_isState 6 = .ok (.getfield 28, 3) := by decide +kernel
theorem dX5_isState_9 : decode cX5_isState 9 = .ok (.if_icmp .ge 7, 3) := by decide +kernel
theorem dX5_isState_12 : decode cX5_isState 12 = .ok (.iconst 1, 1) := by decide +kernel
theorem dX5_isState_13 : decode cX5_isState 13 = .ok (.goto 4, 3) := by decide +kernel
theorem dX5_isState_16 : decode cX5_isState 16 = .ok (.iconst 0, 1) := by decide +kernel
theorem dX5_isState_17 : decode cX5_isState 17 = .ok (.ireturn, 1) := by decide +kernel
theorem dX5_isRule_0 : decode cX5_isRule 0 = .ok (.iload_n 1, 1) := by decide +kernel
theorem dX5_isRule_1 : decode cX5_isRule 1 = .ok (.ifCond .lt 24, 3) := by decide +kernel
theorem dX5_isRule_4 : decode cX5_isRule 4 = .ok (.iload_n 1, 1) := by decide +kernel
theorem dX5_isRule_5 : decode cX5_isRule 5 = .ok (.aload_n 0, 1) := by decide +kernel
theorem dX5_isRule_6 : decode cX5_isRule 6 = .ok (.getfield 35, 3) := by decide +kernel
theorem dX5_isRule_9 : decode cX5_isRule 9 = .ok (.if_icmp .ge 16, 3) := by decide +kernel
theorem dX5_isRule_12 : decode cX5_isRule 12 = .ok (.iload_n 1, 1) := by decide +kernel
theorem dX5_isRule_13 : decode cX5_isRule 13 = .ok (.aload_n 0, 1) := by decide +kernel
theorem dX5_isRule_14 : decode cX5_isRule 14 = .ok (.getfield 11, 3) := by decide +kernel
theorem dX5_isRule_17 : decode cX5_isRule 17 = .ok (.arraylength, 1) := by decide +kernel
theorem dX5_isRule_18 : decode cX5_isRule 18 = .ok (.if_icmp .ge 7, 3) := by decide +kernel
theorem dX5_isRule_21 : decode cX5_isRule 21 = .ok (.iconst 1, 1) := by decide +kernel
theorem dX5_isRule_22 : decode cX5_isRule 22 = .ok (.goto 4, 3) := by decide +kernel
theorem dX5_isRule_25 : decode cX5_isRule 25 = .ok (.iconst 0, 1) := by decide +kernel
theorem dX5_isRule_26 : decode cX5_isRule 26 = .ok (.ireturn, 1) := by decide +kernel
theorem dX5_hasFewDigits_0 : decode cX5_hasFewDigits 0 = .ok (.iload_n 1, 1) := by decide +kernel
theorem dX5_hasFewDigits_1 : decode cX5_hasFewDigits 1 = .ok (.istore_n 2, 1) := by decide +kernel
theorem dX5_hasFewDigits_2 : decode cX5_hasFewDigits 2 = .ok (.iconst 0, 1) := by decide +kernel
theorem dX5_hasFewDigits_3 : decode cX5_hasFewDigits 3 = .ok (.istore_n 3, 1) := by decide +kernel
theorem dX5_hasFewDigits_4 : decode cX5_hasFewDigits 4 = .ok (.iload_n 3, 1) := by decide +kernel
theorem dX5_hasFewDigits_5 : decode cX5_hasFewDigits 5 = .ok (.aload_n 0, 1) := by decide +kernel
theorem dX5_hasFewDigits_6 : decode cX5_hasFewDigits 6 = .ok (.getfield 28, 3) := by decide +kernel
theorem dX5_hasFewDigits_9 : decode cX5_hasFewDigits 9 = .ok (.if_icmp .ge 14, 3) := by decide +kernel
theorem dX5_hasFewDigits_12 : decode cX5_hasFewDigits 12 = .ok (.iload_n 2, 1) := by decide +kernel
theorem dX5_hasFewDigits_13 : decode cX5_hasFewDigits 13 = .ok (.bipush 10, 2) := by decide +kernel
theorem dX5_hasFewDigits_15 : decode cX5_hasFewDigits 15 = .ok (.idiv, 1) := by decide +kernel
theorem dX5_hasFewDigits_16 : decode cX5_hasFewDigits 16 = .ok (.istore_n 2, 1) := by decide +kernel
theorem dX5_hasFewDigits_17 : decode cX5_hasFewDigits 17 = .ok (.iinc 3 1, 3) := by decide +kernel
theorem dX5_hasFewDigits_20 : decode cX5_hasFewDigits 20 = .ok (.goto (-16), 3) := by decide +kernel
theorem dX5_hasFewDigits_23 : decode cX5_hasFewDigits 23 = .ok (.iload_n 2, 1) := by decide +kernel
theorem dX5_hasFewDigits_24 : decode cX5_hasFewDigits 24 = .ok (.ifCond .ne 7, 3) := by decide +kernel
theorem dX5_hasFewDigits_27 : decode cX5_hasFewDigits 27 = .ok (.iconst 1, 1) := by decide +kernel
theorem dX5_hasFewDigits_28 : decode cX5_hasFewDigits 28 = .ok (.goto 4, 3) := by decide +kernel
theorem dX5_hasFewDigits_31 : decode cX5_hasFewDigits 31 = .ok (.iconst 0, 1) := by decide +kernel
theorem dX5_hasFewDigits_32 : decode cX5_hasFewDigits 32 = .ok (.ireturn, 1) := by decide +kernel
theorem dX5_isMap_0 : decode cX5_isMap 0 = .ok (.iload_n 1, 1) := by decide +kernel
theorem dX5_isMap_1 : decode cX5_isMap 1 = .ok (.ifCond .lt 11, 3) := by decide +kernel
theorem dX5_isMap_4 : decode cX5_isMap 4 = .ok (.aload_n 0, 1) := by decide +kernel
theorem dX5_isMap_5 : decode cX5_isMap 5 = .ok (.iload_n 1, 1) := by decide +kernel
theorem dX5_isMap_6 : decode cX5_isMap 6 = .ok (.invokevirtual 42, 3) := by decide +kernel
theorem dX5_isMap_9 : decode cX5_isMap 9 = .ok (.ifCond .ne 5, 3) := by decide +kernel
theorem dX5_isMap_12 : decode cX5_isMap 12 = .ok (.iconst 0, 1) := by decide +kernel
theorem dX5_isMap_13 : decode cX5_isMap 13 = .ok (.ireturn, 1) := by decide +kernel
theorem dX5_isMap_14 : decode cX5_isMap 14 = .ok (.iload_n 1, 1) := by decide +kernel
theorem dX5_isMap_15 : decode cX5_isMap 15 = .ok (.istore_n 2, 1) := by decide +kernel
theorem dX5_isMap_16 : decode cX5_isMap 16 = .ok (.iconst 0, 1) := by decide +kernel
theorem dX5_isMap_17 : decode cX5_isMap 17 = .ok (.istore_n 3, 1) := by decide +kernel
theorem dX5_isMap_18 : decode cX5_isMap 18 = .ok (.iload_n 3, 1) := by decide +kernel
theorem dX5_isMap_19 : decode cX5_isMap 19 = .ok (.aload_n 0, 1) := by decide +kernel
theorem dX5_isMap_20 : decode cX5_isMap 20 = .ok (.getfield 28, 3) := by decide +kernel
theorem dX5_isMap_23 : decode cX5_isMap 23 = .ok (.if_icmp .ge 27, 3) := by decide +kernel
theorem dX5_isMap_26 : decode cX5_isMap 26 = .ok (.aload_n 0, 1) := by decide +kernel
theorem dX5_isMap_27 : decode cX5_isMap 27 = .ok (.iload_n 2, 1) := by decide +kernel
theorem dX5_isMap_28 : decode cX5_isMap 28 = .ok (.bipush 10, 2) := by decide +kernel
theorem dX5_isMap_30 : decode cX5_isMap 30 = .ok (.irem, 1) := by decide +kernel
theorem dX5_isMap_31 : decode cX5_isMap 31 = .ok (.invokevirtual 46, 3) := by decide +kernel
theorem dX5_isMap_34 : decode cX5_isMap 34 = .ok (.ifCond .ne 5, 3) := by decide +kernel
theorem dX5_isMap_37 : decode cX5_isMap 37 = .ok (.iconst 0, 1) := by decide +kernel
theorem dX5_isMap_38 : decode cX5_isMap 38 = .ok (.ireturn, 1) := by decide +kernel
theorem dX5_isMap_39 : decode cX5_isMap 39 = .ok (.iload_n 2, 1) := by decide +kernel
theorem dX5_isMap_40 : decode cX5_isMap 40 = .ok (.bipush 10, 2) := by decide +kernel
theorem dX5_isMap_42 : decode cX5_isMap 42 = .ok (.idiv, 1) := by decide +kernel
theorem dX5_isMap_43 : decode cX5_isMap 43 = .ok (.istore_n 2, 1) := by decide +kernel
theorem dX5_isMap_44 : decode cX5_isMap 44 = .ok (.iinc 3 1, 3) := by decide +kernel
theorem dX5_isMap_47 : decode cX5_isMap 47 = .ok (.goto (-29), 3) := by decide +kernel
theorem dX5_isMap_50 : decode cX5_isMap 50 = .ok (.iconst 1, 1) := by decide +kernel
theorem dX5_isMap_51 : decode cX5_isMap 51 = .ok (.ireturn, 1) := by decide +kernel
theorem dX5_addBad_0 : decode cX5_addBad 0 = .ok (.aload_n 0, 1) := by decide +kernel
theorem dX5_addBad_1 : decode cX5_addBad 1 = .ok (.getfield 38, 3) := by decide +kernel
theorem dX5_addBad_4 : decode cX5_addBad 4 = .ok (.aload_n 0, 1) := by decide +kernel
theorem dX5_addBad_5 : decode cX5_addBad 5 = .ok (.getfield 19, 3) := by decide +kernel
theorem dX5_addBad_8 : decode cX5_addBad 8 = .ok (.arraylength, 1) := by decide +kernel
theorem dX5_addBad_9 : decode cX5_addBad 9 = .ok (.if_icmp .ge 26, 3) := by decide +kernel
theorem dX5_addBad_12 : decode cX5_addBad 12 = .ok (.aload_n 0, 1) := by decide +kernel
theorem dX5_addBad_13 : decode cX5_addBad 13 = .ok (.getfield 19, 3) := by decide +kernel
theorem dX5_addBad_16 : decode cX5_addBad 16 = .ok (.aload_n 0, 1) := by decide +kernel
theorem dX5_addBad_17 : decode cX5_addBad 17 = .ok (.getfield 38, 3) := by decide +kernel
theorem dX5_addBad_20 : decode cX5_addBad 20 = .ok (.aaload, 1) := by decide +kernel
theorem dX5_addBad_21 : decode cX5_addBad 21 = .ok (.iload_n 1, 1) := by decide +kernel
theorem dX5_addBad_22 : decode cX5_addBad 22 = .ok (.invokevirtual 49, 3) := by decide +kernel
theorem dX5_addBad_25 : decode cX5_addBad 25 = .ok (.aload_n 0, 1) := by decide +kernel
theorem dX5_addBad_26 : decode cX5_addBad 26 = .ok (.dup, 1) := by decide +kernel
theorem dX5_addBad_27 : decode cX5_addBad 27 = .ok (.getfield 38, 3) := by decide +kernel
theorem dX5_addBad_30 : decode cX5_addBad 30 = .ok (.iconst 1, 1) := by decide +kernel
theorem dX5_addBad_31 : decode cX5_addBad 31 = .ok (.iadd, 1) := by decide +kernel
theorem dX5_addBad_32 : decode cX5_addBad 32 = .ok (.putfield 38, 3) := by decide +kernel
theorem dX5_addBad_35 : decode cX5_addBad 35 = .ok (.return_, 1) := by decide +kernel
theorem dX5_isBadCrowd_0 : decode cX5_isBadCrowd 0 = .ok (.iconst 0, 1) := by decide +kernel
theorem dX5_isBadCrowd_1 : decode cX5_isBadCrowd 1 = .ok (.istore_n 2, 1) := by decide +kernel
theorem dX5_isBadCrowd_2 : decode cX5_isBadCrowd 2 = .ok (.iload_n 2, 1) := by decide +kernel
theorem dX5_isBadCrowd_3 : decode cX5_isBadCrowd 3 = .ok (.aload_n 0, 1) := by decide +kernel
theorem dX5_isBadCrowd_4 : decode cX5_isBadCrowd 4 = .ok (.getfield 38, 3) := by decide +kernel
theorem dX5_isBadCrowd_7 : decode cX5_isBadCrowd 7 = .ok (.if_icmp .ge 24, 3) := by decide +kernel
theorem dX5_isBadCrowd_10 : decode cX5_isBadCrowd 10 = .ok (.aload_n 1, 1) := by decide +kernel
theorem dX5_isBadCrowd_11 : decode cX5_isBadCrowd 11 = .ok (.aload_n 0, 1) := by decide +kernel
theorem dX5_isBadCrowd_12 : decode cX5_isBadCrowd 12 = .ok (.getfield 19, 3) := by decide +kernel
theorem dX5_isBadCrowd_15 : decode cX5_isBadCrowd 15 = .ok (.iload_n 2, 1) := by decide +kernel
theorem dX5_isBadCrowd_16 : decode cX5_isBadCrowd 16 = .ok (.aaload, 1) := by decide +kernel
theorem dX5_isBadCrowd_17 : decode cX5_isBadCrowd 17 = .ok (.invokevirtual 53, 3) := by decide +kernel
theorem dX5_isBadCrowd_20 : decode cX5_isBadCrowd 20 = .ok (.ifCond .eq 5, 3) := by decide +kernel
theorem dX5_isBadCrowd_23 : decode cX5_isBadCrowd 23 = .ok (.iconst 1, 1) := by decide +kernel
theorem dX5_isBadCrowd_24 : decode cX5_isBadCrowd 24 = .ok (.ireturn, 1) := by decide +kernel
theorem dX5_isBadCrowd_25 : decode cX5_isBadCrowd 25 = .ok (.iinc 2 1, 3) := by decide +kernel
theorem dX5_isBadCrowd_28 : decode cX5_isBadCrowd 28 = .ok (.goto (-26), 3) := by decide +kernel
theorem dX5_isBadCrowd_31 : decode cX5_isBadCrowd 31 = .ok (.iconst 0, 1) := by decide +kernel
theorem dX5_isBadCrowd_32 : decode cX5_isBadCrowd 32 = .ok (.ireturn, 1) := by decide +kernel
theorem dX5_isInStart_0 : decode cX5_isInStart 0 = .ok (.iconst 0, 1) := by decide +kernel
theorem dX5_isInStart_1 : decode cX5_isInStart 1 = .ok (.istore_n 2, 1) := by decide +kernel
theorem dX5_isInStart_2 : decode cX5_isInStart 2 = .ok (.iload_n 2, 1) := by decide +kernel
theorem dX5_isInStart_3 : decode cX5_isInStart 3 = .ok (.aload_n 0, 1) := by decide +kernel
theorem dX5_isInStart_4 : decode cX5_isInStart 4 = .ok (.getfield 28, 3) := by decide +kernel
theorem dX5_isInStart_7 : decode cX5_isInStart 7 = .ok (.if_icmp .ge 30, 3) := by decide +kernel
theorem dX5_isInStart_10 : decode cX5_isInStart 10 = .ok (.aload_n 1, 1) := by decide +kernel
theorem dX5_isInStart_11 : decode cX5_isInStart 11 = .ok (.iload_n 2, 1) := by decide +kernel
theorem dX5_isInStart_12 : decode cX5_isInStart 12 = .ok (.invokevirtual 57, 3) := by decide +kernel
theorem dX5_isInStart_15 : decode cX5_isInStart 15 = .ok (.ifCond .le 16, 3) := by decide +kernel
theorem dX5_isInStart_18 : decode cX5_isInStart 18 = .ok (.aload_n 0, 1) := by decide +kernel
theorem dX5_isInStart_19 : decode cX5_isInStart 19 = .ok (.getfield 32, 3) := by decide +kernel
theorem dX5_isInStart_22 : decode cX5_isInStart 22 = .ok (.iload_n 2, 1) := by decide +kernel
theorem dX5_isInStart_23 : decode cX5_isInStart 23 = .ok (.ishr, 1) := by decide +kernel
theorem dX5_isInStart_24 : decode cX5_isInStart 24 = .ok (.iconst 1, 1) := by decide +kernel
theorem dX5_isInStart_25 : decode cX5_isInStart 25 = .ok (.iand, 1) := by decide +kernel
theorem dX5_isInStart_26 : decode cX5_isInStart 26 = .ok (.ifCond .ne 5, 3) := by decide +kernel
theorem dX5_isInStart_29 : decode cX5_isInStart 29 = .ok (.iconst 0, 1) := by decide +kernel
theorem dX5_isInStart_30 : decode cX5_isInStart 30 = .ok (.ireturn, 1) := by decide +kernel
theorem dX5_isInStart_31 : decode cX5_isInStart 31 = .ok (.iinc 2 1, 3) := by decide +kernel
theorem dX5_isInStart_34 : decode cX5_isInStart 34 = .ok (.goto (-32), 3) := by decide +kernel
theorem dX5_isInStart_37 : decode cX5_isInStart 37 = .ok (.iconst 1, 1) := by decide +kernel
theorem dX5_isInStart_38 : decode cX5_isInStart 38 = .ok (.ireturn, 1) := by decide +kernel
theorem dX5_countFitting_0 : decode cX5_countFitting 0 = .ok (.iconst 0, 1) := by decide +kernel
theorem dX5_countFitting_1 : decode cX5_countFitting 1 = .ok (.istore_n 2, 1) := by decide +kernel
theorem dX5_countFitting_2 : decode cX5_countFitting 2 = .ok (.iconst 0, 1) := by decide +kernel
theorem dX5_countFitting_3 : decode cX5_countFitting 3 = .ok (.istore_n 3, 1) := by decide +kernel
theorem dX5_countFitting_4 : decode cX5_countFitting 4 = .ok (.iload_n 3, 1) := by decide +kernel
theorem dX5_countFitting_5 : decode cX5_countFitting 5 = .ok (.aload_n 0, 1) := by decide +kernel
theorem dX5_countFitting_6 : decode cX5_countFitting 6 = .ok (.getfield 35, 3) := by decide +kernel
theorem dX5_countFitting_9 : decode cX5_countFitting 9 = .ok (.if_icmp .ge 25, 3) := by decide +kernel
theorem dX5_countFitting_12 : decode cX5_countFitting 12 = .ok (.aload_n 0, 1) := by decide +kernel
theorem dX5_countFitting_13 : decode cX5_countFitting 13 = .ok (.getfield 11, 3) := by decide +kernel
theorem dX5_countFitting_16 : decode cX5_countFitting 16 = .ok (.iload_n 3, 1) := by decide +kernel
theorem dX5_countFitting_17 : decode cX5_countFitting 17 = .ok (.aaload, 1) := by decide +kernel
theorem dX5_countFitting_18 : decode cX5_countFitting 18 = .ok (.aload_n 1, 1) := by decide +kernel
theorem dX5_countFitting_19 : decode cX5_countFitting 19 = .ok (.invokevirtual 61, 3) := by decide +kernel
theorem dX5_countFitting_22 : decode cX5_countFitting 22 = .ok (.ifCond .eq 6, 3) := by decide +kernel
theorem dX5_countFitting_25 : decode cX5_countFitting 25 = .ok (.iinc 2 1, 3) := by decide +kernel
theorem dX5_countFitting_28 : decode cX5_countFitting 28 = .ok (.iinc 3 1, 3) := by decide +kernel
theorem dX5_countFitting_31 : decode cX5_countFitting 31 = .ok (.goto (-27), 3) := by decide +kernel
theorem dX5_countFitting_34 : decode cX5_countFitting 34 = .ok (.iload_n 2, 1) := by decide +kernel
theorem dX5_countFitting_35 : decode cX5_countFitting 35 = .ok (.ireturn, 1) := by decide +kernel
theorem hl_yX5_begin : (yX5_begin.cls ≠ "java/lang/invoke/MethodHandle" ∧ yX5_begin.cls ≠ "java/lang/invoke/VarHandle") ∧ (parseMethodDescriptor yX5_begin.desc).map (fun d => d.parameters.length) = some 1 := by decide +kernel
theorem hl_yX5_isState : (yX5_isState.cls ≠ "java/lang/invoke/MethodHandle" ∧ yX5_isState.cls ≠ "java/lang/invoke/VarHandle") ∧ (parseMethodDescriptor yX5_isState.desc).map (fun d => d.parameters.length) = some 1 := by decide +kernel
theorem hl_yX5_isRule : (yX5_isRule.cls ≠ "java/lang/invoke/MethodHandle" ∧ yX5_isRule.cls ≠ "java/lang/invoke/VarHandle") ∧ (parseMethodDescriptor yX5_isRule.desc).map (fun d => d.parameters.length) = some 1 := by decide +kernel
theorem hl_yX5_hasFewDigits : (yX5_hasFewDigits.cls ≠ "java/lang/invoke/MethodHandle" ∧ yX5_hasFewDigits.cls ≠ "java/lang/invoke/VarHandle") ∧ (parseMethodDescriptor yX5_hasFewDigits.desc).map (fun d => d.parameters.length) = some 1 := by decide +kernel
theorem hl_yX5_isMap : (yX5_isMap.cls ≠ "java/lang/invoke/MethodHandle" ∧ yX5_isMap.cls ≠ "java/lang/invoke/VarHandle") ∧ (parseMethodDescriptor yX5_isMap.desc).map (fun d => d.parameters.length) = some 1 := by decide +kernel
theorem hl_yX5_addBad : (yX5_addBad.cls ≠ "java/lang/invoke/MethodHandle" ∧ yX5_addBad.cls ≠ "java/lang/invoke/VarHandle") ∧ (parseMethodDescriptor yX5_addBad.desc).map (fun d => d.parameters.length) = some 1 := by decide +kernel
theorem hl_yX5_isBadCrowd : (yX5_isBadCrowd.cls ≠ "java/lang/invoke/MethodHandle" ∧ yX5_isBadCrowd.cls ≠ "java/lang/invoke/VarHandle") ∧ (parseMethodDescriptor yX5_isBadCrowd.desc).map (fun d => d.parameters.length) = some 1 := by decide +kernel
theorem hl_yX5_isInStart : (yX5_isInStart.cls ≠ "java/lang/invoke/MethodHandle" ∧ yX5_isInStart.cls ≠ "java/lang/invoke/VarHandle") ∧ (parseMethodDescriptor yX5_isInStart.desc).map (fun d => d.parameters.length) = some 1 := by decide +kernel
theorem hl_yX5_countFitting : (yX5_countFitting.cls ≠ "java/lang/invoke/MethodHandle" ∧ yX5_countFitting.cls ≠ "java/lang/invoke/VarHandle") ∧ (parseMethodDescriptor yX5_countFitting.desc).map (fun d => d.parameters.length) = some 1 := by decide +kernel
set_option maxRecDepth 20000 in
set_option maxHeartbeats 4000000 in
theorem c_X5_begin {l : Launch} {G : Gt} {n0 : Nat} {mi : Nat → Nat → Int} {mr : Nat → Nat → Nat} {z : Int} : Cv l yX5_begin cX5_begin 2 1 G n0 [.ref (n0 + 1), .int (jI z)] mi mr (fun mi9 mr9 => up2 (up2 (up2 (up2 mi 1 3 z) 1 4 1) 1 5 0) 1 6 0 = mi9 ∧ mr = mr9) := by
  refine Ct_of (by decide +kernel) (by intro v hv; simp at hv; rcases hv with rfl | rfl <;> rfl) (Nat.le_of_ble_eq_true rfl) ?_
  intro p e s m args below meth c9 X hr hname
  show WW _ _ _ _ _ _ _ _ _ _ _ _ _ _ _ _ _ _ _ [some (.ref (n0 + 1)), some (.int (jI z))] _
  refine w_aload_n X dX5_begin_0 rfl ?_
  refine w_iload_n X dX5_begin_1 rfl ?_
  refine w_put X (by decide) (σ_1 G n0 _ _) rfl gW_X5 tyX5 tyX5_ok nmX5 3 (by decide) gF_X5_28 rfl rfl rfl (Nat.le_of_ble_eq_true rfl) dX5_begin_2 (WW.eqf (sp_1_3 _) ?_)
  refine w_aload_n X dX5_begin_5 rfl ?_
  refine w_iconst X dX5_begin_6 ?_
  refine w_put X (by decide) (σ_1 G n0 _ _) rfl gW_X5 tyX5 tyX5_ok nmX5 4 (by decide) gF_X5_32 rfl rfl rfl (Nat.le_of_ble_eq_true rfl) dX5_begin_7 (WW.eqf (sp_1_4 _) ?_)
  refine w_aload_n X dX5_begin_10 rfl ?_
  refine w_iconst X dX5_begin_11 ?_
  refine w_put X (by decide) (σ_1 G n0 _ _) rfl gW_X5 tyX5 tyX5_ok nmX5 5 (by decide) gF_X5_35 rfl rfl rfl (Nat.le_of_ble_eq_true rfl) dX5_begin_12 (WW.eqf (sp_1_5 _) ?_)
  refine w_aload_n X dX5_begin_15 rfl ?_
  refine w_iconst X dX5_begin_16 ?_
  refine w_put X (by decide) (σ_1 G n0 _ _) rfl gW_X5 tyX5 tyX5_ok nmX5 6 (by decide) gF_X5_38 rfl rfl rfl (Nat.le_of_ble_eq_true rfl) dX5_begin_17 (WW.eqf (sp_1_6 _) ?_)
  refine s_vret X hr dX5_begin_20 ?_
  exact ⟨rfl, rfl⟩
set_option maxRecDepth 20000 in
set_option maxHeartbeats 4000000 in
theorem c_X5_isState {l : Launch} {G : Gt} {n0 : Nat} {mi : Nat → Nat → Int} {mr : Nat → Nat → Nat} (hsc : 1 ≤ mi 1 3 ∧ mi 1 3 ≤ 5) {z : Int} (hz : rg z) : Ci l yX5_isState cX5_isState 2 .boolean 1 G n0 [.ref (n0 + 1), .int (jI z)] mi mr (fun r9 mi9 mr9 => mi = mi9 ∧ mr = mr9 ∧ (r9 = 1 ∧ 0 ≤ z ∧ z < mi 1 3 ∨ r9 = 0 ∧ ¬ (0 ≤ z ∧ z < mi 1 3))) := by
  refine Ct_of (by decide +kernel) (by intro v hv; simp at hv; rcases hv with rfl | rfl <;> rfl) (Nat.le_of_ble_eq_true rfl) ?_
  intro p e s m args below meth c9 X hr hname
  show WW _ _ _ _ _ _ _ _ _ _ _ _ _ _ _ _ _ _ _ [some (.ref (n0 + 1)), some (.int (jI z))] _
  refine w_iload_n X dX5_isState_0 rfl ?_
  refine w_if_lt X 16 dX5_isState_1 (by decide) (fun c1_1 => ?_) (fun c1_1 => ?_)
  ·
    refine w_iconst X dX5_isState_16 ?_
    refine s_zret X hr dX5_isState_17 (by omega) ?_
    exact ⟨rfl, rfl, by omega⟩
  ·
    refine w_iload_n X dX5_isState_4 rfl ?_
    refine w_aload_n X dX5_isState_5 rfl ?_
    refine w_get X (by decide) (σ_1 G n0 _ _) rfl gW_X5 3 (by decide) gF_X5_28 rfl dX5_isState_6 ?_
    refine w_icmp_ge X 16 dX5_isState_9 (by decide) (fun c9_2 => ?_) (fun c9_2 => ?_)
    ·
      refine w_iconst X dX5_isState_16 ?_
      refine s_zret X hr dX5_isState_17 (by omega) ?_
      exact ⟨rfl, rfl, by omega⟩
    ·
      refine w_iconst X dX5_isState_12 ?_
      refine w_goto X 17 dX5_isState_13 (by decide) ?_
      refine s_zret X hr dX5_isState_17 (by omega) ?_
      exact ⟨rfl, rfl, by omega⟩
set_option maxRecDepth 20000 in
set_option maxHeartbeats 4000000 in
theorem c_X5_isRule {l : Launch} {G : Gt} {n0 : Nat} {mi : Nat → Nat → Int} {mr : Nat → Nat → Nat} (hrc : 0 ≤ mi 1 5 ∧ mi 1 5 ≤ 12) {z : Int} (hz : rg z) : Ci l yX5_isRule cX5_isRule 2 .boolean 1 G n0 [.ref (n0 + 1), .int (jI z)] mi mr (fun r9 mi9 mr9 => mi = mi9 ∧ mr = mr9 ∧ (r9 = 1 ∧ 0 ≤ z ∧ z < mi 1 5 ∨ r9 = 0 ∧ ¬ (0 ≤ z ∧ z < mi 1 5))) := by
  refine Ct_of (by decide +kernel) (by intro v hv; simp at hv; rcases hv with rfl | rfl <;> rfl) (Nat.le_of_ble_eq_true rfl) ?_
  intro p e s m args below meth c9 X hr hname
  show WW _ _ _ _ _ _ _ _ _ _ _ _ _ _ _ _ _ _ _ [some (.ref (n0 + 1)), some (.int (jI z))] _
  refine w_iload_n X dX5_isRule_0 rfl ?_
  refine w_if_lt X 25 dX5_isRule_1 (by decide) (fun c1_1 => ?_) (fun c1_1 => ?_)
  ·
    refine w_iconst X dX5_isRule_25 ?_
    refine s_zret X hr dX5_isRule_26 (by omega) ?_
    exact ⟨rfl, rfl, by omega⟩
  ·
    refine w_iload_n X dX5_isRule_4 rfl ?_
    refine w_aload_n X dX5_isRule_5 rfl ?_
    refine w_get X (by decide) (σ_1 G n0 _ _) rfl gW_X5 5 (by decide) gF_X5_35 rfl dX5_isRule_6 ?_
    refine w_icmp_ge X 25 dX5_isRule_9 (by decide) (fun c9_2 => ?_) (fun c9_2 => ?_)
    ·
      refine w_iconst X dX5_isRule_25 ?_
      refine s_zret X hr dX5_isRule_26 (by omega) ?_
      exact ⟨rfl, rfl, by omega⟩
    ·
      refine w_iload_n X dX5_isRule_12 rfl ?_
      refine w_aload_n X dX5_isRule_13 rfl ?_
      refine w_get X (by decide) (σ_1 G n0 _ _) rfl gW_X5 0 (by decide) gF_X5_11 rfl dX5_isRule_14 ?_
      refine w_alen X (t := 3) (by decide) (σ_2 G n0 _ _) rfl dX5_isRule_17 ?_
      refine s_alen (b := 12) rfl ?_
      refine w_icmp_ge X 25 dX5_isRule_18 (by decide) (fun c18_3 => ?_) (fun c18_3 => ?_)
      ·
        refine w_iconst X dX5_isRule_25 ?_
        refine s_zret X hr dX5_isRule_26 (by omega) ?_
        exact ⟨rfl, rfl, by omega⟩
      ·
        refine w_iconst X dX5_isRule_21 ?_
        refine w_goto X 26 dX5_isRule_22 (by decide) ?_
        refine s_zret X hr dX5_isRule_26 (by omega) ?_
        exact ⟨rfl, rfl, by omega⟩
set_option maxRecDepth 20000 in
set_option maxHeartbeats 4000000 in
theorem c_X5_hasFewDigits {l : Launch} {G : Gt} {n0 : Nat} {mi : Nat → Nat → Int} {mr : Nat → Nat → Nat} (hsc : 1 ≤ mi 1 3 ∧ mi 1 3 ≤ 5) {z : Int} (hz : 0 ≤ z ∧ z < 2147483648) : Ci l yX5_hasFewDigits cX5_hasFewDigits 4 .boolean 1 G n0 [.ref (n0 + 1), .int (jI z)] mi mr (fun r9 mi9 mr9 => mi = mi9 ∧ mr = mr9 ∧ (r9 = 1 ∧ z < p10 (mi 1 3) ∨ r9 = 0 ∧ ¬ z < p10 (mi 1 3))) := by
  refine Ct_of (by decide +kernel) (by intro v hv; simp at hv; rcases hv with rfl | rfl <;> rfl) (Nat.le_of_ble_eq_true rfl) ?_
  intro p e s m args below meth c9 X hr hname
  show WW _ _ _ _ _ _ _ _ _ _ _ _ _ _ _ _ _ _ _ [some (.ref (n0 + 1)), some (.int (jI z)), none, none] _
  refine w_iload_n X dX5_hasFewDigits_0 rfl ?_
  refine w_ist4_2 X dX5_hasFewDigits_1 ?_
  refine w_iconst X dX5_hasFewDigits_2 ?_
  refine w_ist4_3 X dX5_hasFewDigits_3 ?_
  refine w_iload_n X dX5_hasFewDigits_4 rfl ?_
  refine w_aload_n X dX5_hasFewDigits_5 rfl ?_
  refine w_get X (by decide) (σ_1 G n0 _ _) rfl gW_X5 3 (by decide) gF_X5_28 rfl dX5_hasFewDigits_6 ?_
  refine w_icmp_ge X 23 dX5_hasFewDigits_9 (by decide) (fun h9 => absurd h9 (by omega)) (fun h9_ => ?_)
  refine w_iload_n X dX5_hasFewDigits_12 rfl ?_
  refine w_bipush X dX5_hasFewDigits_13 rfl ?_
  refine w_idiv X dX5_hasFewDigits_15 ?_
  refine w_ist4_2 X dX5_hasFewDigits_16 ?_
  refine w_iinc4_3 X dX5_hasFewDigits_17 ?_
  refine w_goto X 4 dX5_hasFewDigits_20 (by decide) ?_
  refine w_iload_n X dX5_hasFewDigits_4 rfl ?_
  refine w_aload_n X dX5_hasFewDigits_5 rfl ?_
  refine w_get X (by decide) (σ_1 G n0 _ _) rfl gW_X5 3 (by decide) gF_X5_28 rfl dX5_hasFewDigits_6 ?_
  refine w_icmp_ge X 23 dX5_hasFewDigits_9 (by decide) (fun c9_1 => ?_) (fun c9_1 => ?_)
  ·
    refine w_iload_n X dX5_hasFewDigits_23 rfl ?_
    refine w_if_ne X 31 dX5_hasFewDigits_24 (by decide) (fun c24_2 => ?_) (fun c24_2 => ?_)
    ·
      refine w_iconst X dX5_hasFewDigits_31 ?_
      refine s_zret X hr dX5_hasFewDigits_32 (by omega) ?_
      refine ⟨rfl, rfl, ?_⟩
      unfold p10
      split
      · omega
      · split
        · omega
        · split
          · omega
          · split <;> omega
    ·
      refine w_iconst X dX5_hasFewDigits_27 ?_
      refine w_goto X 32 dX5_hasFewDigits_28 (by decide) ?_
      refine s_zret X hr dX5_hasFewDigits_32 (by omega) ?_
      refine ⟨rfl, rfl, ?_⟩
      unfold p10
      split
      · omega
      · split
        · omega
        · split
          · omega
          · split <;> omega
  ·
    refine w_iload_n X dX5_hasFewDigits_12 rfl ?_
    refine w_bipush X dX5_hasFewDigits_13 rfl ?_
    refine w_idiv X dX5_hasFewDigits_15 ?_
    refine w_ist4_2 X dX5_hasFewDigits_16 ?_
    refine w_iinc4_3 X dX5_hasFewDigits_17 ?_
    refine w_goto X 4 dX5_hasFewDigits_20 (by decide) ?_
    refine w_iload_n X dX5_hasFewDigits_4 rfl ?_
    refine w_aload_n X dX5_hasFewDigits_5 rfl ?_
    refine w_get X (by decide) (σ_1 G n0 _ _) rfl gW_X5 3 (by decide) gF_X5_28 rfl dX5_hasFewDigits_6 ?_
    refine w_icmp_ge X 23 dX5_hasFewDigits_9 (by decide) (fun c9_3 => ?_) (fun c9_3 => ?_)
    ·
      refine w_iload_n X dX5_hasFewDigits_23 rfl ?_
      refine w_if_ne X 31 dX5_hasFewDigits_24 (by decide) (fun c24_4 => ?_) (fun c24_4 => ?_)
      ·
        refine w_iconst X dX5_hasFewDigits_31 ?_
        refine s_zret X hr dX5_hasFewDigits_32 (by omega) ?_
        refine ⟨rfl, rfl, ?_⟩
        unfold p10
        split
        · omega
        · split
          · omega
          · split
            · omega
            · split <;> omega
      ·
        refine w_iconst X dX5_hasFewDigits_27 ?_
        refine w_goto X 32 dX5_hasFewDigits_28 (by decide) ?_
        refine s_zret X hr dX5_hasFewDigits_32 (by omega) ?_
        refine ⟨rfl, rfl, ?_⟩
        unfold p10
        split
        · omega
        · split
          · omega
          · split
            · omega
            · split <;> omega
    ·
      refine w_iload_n X dX5_hasFewDigits_12 rfl ?_
      refine w_bipush X dX5_hasFewDigits_13 rfl ?_
      refine w_idiv X dX5_hasFewDigits_15 ?_
      refine w_ist4_2 X dX5_hasFewDigits_16 ?_
      refine w_iinc4_3 X dX5_hasFewDigits_17 ?_
      refine w_goto X 4 dX5_hasFewDigits_20 (by decide) ?_
      refine w_iload_n X dX5_hasFewDigits_4 rfl ?_
      refine w_aload_n X dX5_hasFewDigits_5 rfl ?_
      refine w_get X (by decide) (σ_1 G n0 _ _) rfl gW_X5 3 (by decide) gF_X5_28 rfl dX5_hasFewDigits_6 ?_
      refine w_icmp_ge X 23 dX5_hasFewDigits_9 (by decide) (fun c9_5 => ?_) (fun c9_5 => ?_)
      ·
        refine w_iload_n X dX5_hasFewDigits_23 rfl ?_
        refine w_if_ne X 31 dX5_hasFewDigits_24 (by decide) (fun c24_6 => ?_) (fun c24_6 => ?_)
        ·
          refine w_iconst X dX5_hasFewDigits_31 ?_
          refine s_zret X hr dX5_hasFewDigits_32 (by omega) ?_
          refine ⟨rfl, rfl, ?_⟩
          unfold p10
          split
          · omega
          · split
            · omega
            · split
              · omega
              · split <;> omega
        ·
          refine w_iconst X dX5_hasFewDigits_27 ?_
          refine w_goto X 32 dX5_hasFewDigits_28 (by decide) ?_
          refine s_zret X hr dX5_hasFewDigits_32 (by omega) ?_
          refine ⟨rfl, rfl, ?_⟩
          unfold p10
          split
          · omega
          · split
            · omega
            · split
              · omega
              · split <;> omega
      ·
        refine w_iload_n X dX5_hasFewDigits_12 rfl ?_
        refine w_bipush X dX5_hasFewDigits_13 rfl ?_
        refine w_idiv X dX5_hasFewDigits_15 ?_
        refine w_ist4_2 X dX5_hasFewDigits_16 ?_
        refine w_iinc4_3 X dX5_hasFewDigits_17 ?_
        refine w_goto X 4 dX5_hasFewDigits_20 (by decide) ?_
        refine w_iload_n X dX5_hasFewDigits_4 rfl ?_
        refine w_aload_n X dX5_hasFewDigits_5 rfl ?_
        refine w_get X (by decide) (σ_1 G n0 _ _) rfl gW_X5 3 (by decide) gF_X5_28 rfl dX5_hasFewDigits_6 ?_
        refine w_icmp_ge X 23 dX5_hasFewDigits_9 (by decide) (fun c9_7 => ?_) (fun c9_7 => ?_)
        ·
          refine w_iload_n X dX5_hasFewDigits_23 rfl ?_
          refine w_if_ne X 31 dX5_hasFewDigits_24 (by decide) (fun c24_8 => ?_) (fun c24_8 => ?_)
          ·
            refine w_iconst X dX5_hasFewDigits_31 ?_
            refine s_zret X hr dX5_hasFewDigits_32 (by omega) ?_
            refine ⟨rfl, rfl, ?_⟩
            unfold p10
            split
            · omega
            · split
              · omega
              · split
                · omega
                · split <;> omega
          ·
            refine w_iconst X dX5_hasFewDigits_27 ?_
            refine w_goto X 32 dX5_hasFewDigits_28 (by decide) ?_
            refine s_zret X hr dX5_hasFewDigits_32 (by omega) ?_
            refine ⟨rfl, rfl, ?_⟩
            unfold p10
            split
            · omega
            · split
              · omega
              · split
                · omega
                · split <;> omega
        ·
          refine w_iload_n X dX5_hasFewDigits_12 rfl ?_
          refine w_bipush X dX5_hasFewDigits_13 rfl ?_
          refine w_idiv X dX5_hasFewDigits_15 ?_
          refine w_ist4_2 X dX5_hasFewDigits_16 ?_
          refine w_iinc4_3 X dX5_hasFewDigits_17 ?_
          refine w_goto X 4 dX5_hasFewDigits_20 (by decide) ?_
          refine w_iload_n X dX5_hasFewDigits_4 rfl ?_
          refine w_aload_n X dX5_hasFewDigits_5 rfl ?_
          refine w_get X (by decide) (σ_1 G n0 _ _) rfl gW_X5 3 (by decide) gF_X5_28 rfl dX5_hasFewDigits_6 ?_
          refine w_icmp_ge X 23 dX5_hasFewDigits_9 (by decide) (fun h9_ => ?_) (fun h9 => absurd (by omega) h9)
          refine w_iload_n X dX5_hasFewDigits_23 rfl ?_
          refine w_if_ne X 31 dX5_hasFewDigits_24 (by decide) (fun c24_9 => ?_) (fun c24_9 => ?_)
          ·
            refine w_iconst X dX5_hasFewDigits_31 ?_
            refine s_zret X hr dX5_hasFewDigits_32 (by omega) ?_
            refine ⟨rfl, rfl, ?_⟩
            unfold p10
            split
            · omega
            · split
              · omega
              · split
                · omega
                · split <;> omega
          ·
            refine w_iconst X dX5_hasFewDigits_27 ?_
            refine w_goto X 32 dX5_hasFewDigits_28 (by decide) ?_
            refine s_zret X hr dX5_hasFewDigits_32 (by omega) ?_
            refine ⟨rfl, rfl, ?_⟩
            unfold p10
            split
            · omega
            · split
              · omega
              · split
                · omega
                · split <;> omega
set_option maxRecDepth 20000 in
set_option maxHeartbeats 4000000 in
theorem c_X5_isMap {l : Launch} {G : Gt} {n0 : Nat} {mi : Nat → Nat → Int} {mr : Nat → Nat → Nat} (hsc : 1 ≤ mi 1 3 ∧ mi 1 3 ≤ 5) {z : Int} (hz : rg z) : Ci l yX5_isMap cX5_isMap 4 .boolean 2 G n0 [.ref (n0 + 1), .int (jI z)] mi mr (fun r9 mi9 mr9 => mi = mi9 ∧ mr = mr9 ∧ (r9 = 1 ∧ mapok (mi 1 3) z ∨ r9 = 0 ∧ ¬ mapok (mi 1 3) z)) := by
  refine Ct_of (by decide +kernel) (by intro v hv; simp at hv; rcases hv with rfl | rfl <;> rfl) (Nat.le_of_ble_eq_true rfl) ?_
  intro p e s m args below meth c9 X hr hname
  show WW _ _ _ _ _ _ _ _ _ _ _ _ _ _ _ _ _ _ _ [some (.ref (n0 + 1)), some (.int (jI z)), none, none] _
  refine w_iload_n X dX5_isMap_0 rfl ?_
  refine w_if_lt X 12 dX5_isMap_1 (by decide) (fun c1_1 => ?_) (fun c1_1 => ?_)
  ·
    refine w_iconst X dX5_isMap_12 ?_
    refine s_zret X hr dX5_isMap_13 (by omega) ?_
    exact ⟨rfl, rfl, Or.inr ⟨rfl, fun w => by have q1 := w.1; have q2 := w.2.1; omega⟩⟩
  ·
    refine w_aload_n X dX5_isMap_4 rfl ?_
    refine w_iload_n X dX5_isMap_5 rfl ?_
    refine s_callVi X _ (c_X5_hasFewDigits (l := l) (G := G) (n0 := n0) hsc (by omega)) gM_X5_42 gI_yX5_hasFewDigits gS_yX5_hasFewDigits gN_X5 gC_yX5_hasFewDigits (by decide) (σ_1 G n0 _ _) rfl dX5_isMap_6 hl_yX5_hasFewDigits ⟨Nat.le_of_ble_eq_true rfl, Nat.le_of_ble_eq_true rfl⟩ (Nat.le_of_ble_eq_true rfl) rfl (fun r1 mi1 mr1 h1 => ?_)
    obtain ⟨rfl, rfl, h1⟩ := h1
    refine w_if_ne X 14 dX5_isMap_9 (by decide) (fun c9_2 => ?_) (fun c9_2 => ?_)
    ·
      refine w_iload_n X dX5_isMap_14 rfl ?_
      refine w_ist4_2 X dX5_isMap_15 ?_
      refine w_iconst X dX5_isMap_16 ?_
      refine w_ist4_3 X dX5_isMap_17 ?_
      have loop : ∀ (n : Nat) (i : Nat) (x2 : Int) (x3 : Option Value), ((i : Int) ≤ mi 1 3) → (x2 = z / 10 ^ i ∧ 0 ≤ x2 ∧ x2 < 2147483648) → (∀ j : Nat, j < i → z / 10 ^ j % 10 < mi 1 3) → n = 5 - i → WSi p l e s m args below meth c9 2 (fun r9 mi9 mr9 => mi = mi9 ∧ mr = mr9 ∧ (r9 = 1 ∧ mapok (mi 1 3) z ∨ r9 = 0 ∧ ¬ mapok (mi 1 3) z)) G n0 4 mi mr 18 [some (.ref (n0 + 1)), some (.int (jI z)), some (.int (jI x2)), some (.int (jI (i : Int)))] [] := by
        intro n
        induction n using Nat.strongRecOn with
        | ind n ih_loop =>
          intro i x2 x3 hi hx hinv hn
          refine w_iload_n X dX5_isMap_18 rfl ?_
          refine w_aload_n X dX5_isMap_19 rfl ?_
          refine w_get X (by decide) (σ_1 G n0 _ _) rfl gW_X5 3 (by decide) gF_X5_28 rfl dX5_isMap_20 ?_
          refine w_icmp_ge X 50 dX5_isMap_23 (by decide) (fun c23_3 => ?_) (fun c23_3 => ?_)
          ·
            refine w_iconst X dX5_isMap_50 ?_
            refine s_zret X hr dX5_isMap_51 (by omega) ?_
            exact ⟨rfl, rfl, Or.inl ⟨rfl, by omega, by omega, fun j hj => hinv j (by omega)⟩⟩
          ·
            refine w_aload_n X dX5_isMap_26 rfl ?_
            refine w_iload_n X dX5_isMap_27 rfl ?_
            refine w_bipush X dX5_isMap_28 rfl ?_
            refine w_irem X dX5_isMap_30 ?_
            refine s_callVi X _ (c_X5_isState (l := l) (G := G) (n0 := n0) hsc (by first | assumption | (refine ⟨?_, ?_⟩ <;> omega))) gM_X5_46 gI_yX5_isState gS_yX5_isState gN_X5 gC_yX5_isState (by decide) (σ_1 G n0 _ _) rfl dX5_isMap_31 hl_yX5_isState ⟨Nat.le_of_ble_eq_true rfl, Nat.le_of_ble_eq_true rfl⟩ (Nat.le_of_ble_eq_true rfl) rfl (fun r2 mi2 mr2 h2 => ?_)
            obtain ⟨rfl, rfl, h2⟩ := h2
            refine w_if_ne X 39 dX5_isMap_34 (by decide) (fun c34_4 => ?_) (fun c34_4 => ?_)
            ·
              refine w_iload_n X dX5_isMap_39 rfl ?_
              refine w_bipush X dX5_isMap_40 rfl ?_
              refine w_idiv X dX5_isMap_42 ?_
              refine w_ist4_2 X dX5_isMap_43 ?_
              refine w_iinc4_3 X dX5_isMap_44 ?_
              refine w_goto X 18 dX5_isMap_47 (by decide) ?_
              have e8 : z / 10 ^ (i + 1) = x2 / 10 := by rw [Int.pow_succ, ← Int.ediv_ediv_of_nonneg (Int.le_of_lt (Int.pow_pos (by decide))), ← hx.1]
              exact ih_loop _ (by omega) (i + 1) _ none (by omega) ⟨e8.symm, by omega, by omega⟩ (fun j hj => by rcases (show j < i ∨ j = i by omega) with q | q; exact hinv j q; subst q; rw [← hx.1]; omega) rfl
            ·
              refine w_iconst X dX5_isMap_37 ?_
              refine s_zret X hr dX5_isMap_38 (by omega) ?_
              refine ⟨rfl, rfl, Or.inr ⟨rfl, fun w => ?_⟩⟩
              have q := w.2.2 i (by omega)
              rw [← hx.1] at q
              omega
      exact loop _ 0 _ none (by omega) ⟨by simp, by omega, by omega⟩ (fun j hj => absurd hj (by omega)) rfl
    ·
      refine w_iconst X dX5_isMap_12 ?_
      refine s_zret X hr dX5_isMap_13 (by omega) ?_
      exact ⟨rfl, rfl, Or.inr ⟨rfl, fun w => by have q1 := w.1; have q2 := w.2.1; omega⟩⟩
set_option maxRecDepth 20000 in
set_option maxHeartbeats 4000000 in
theorem c_X5_addBad {l : Launch} {G : Gt} {n0 : Nat} {mi : Nat → Nat → Int} {mr : Nat → Nat → Nat} (hbc : 0 ≤ mi 1 6 ∧ mi 1 6 < 6) {z : Int} (hz : 0 ≤ z ∧ z < 2147483648) : Cv l yX5_addBad cX5_addBad 2 2 G n0 [.ref (n0 + 1), .int (jI z)] mi mr (fun mi9 mr9 => up2 (row5 mi (30 + 2 * (mi 1 6).toNat + 1) (fun j => z / 10 ^ j % 10)) 1 6 (mi 1 6 + 1) = mi9 ∧ mr = mr9) := by
  refine Ct_of (by decide +kernel) (by intro v hv; simp at hv; rcases hv with rfl | rfl <;> rfl) (Nat.le_of_ble_eq_true rfl) ?_
  intro p e s m args below meth c9 X hr hname
  show WW _ _ _ _ _ _ _ _ _ _ _ _ _ _ _ _ _ _ _ [some (.ref (n0 + 1)), some (.int (jI z))] _
  refine w_aload_n X dX5_addBad_0 rfl ?_
  refine w_get X (by decide) (σ_1 G n0 _ _) rfl gW_X5 6 (by decide) gF_X5_38 rfl dX5_addBad_1 ?_
  refine w_aload_n X dX5_addBad_4 rfl ?_
  refine w_get X (by decide) (σ_1 G n0 _ _) rfl gW_X5 1 (by decide) gF_X5_19 rfl dX5_addBad_5 ?_
  refine w_alen X (t := 2) (by decide) (σ_3 G n0 _ _) rfl dX5_addBad_8 ?_
  refine s_alen (b := 6) rfl ?_
  refine w_icmp_ge X 35 dX5_addBad_9 (by decide) (fun h9 => absurd h9 (by omega)) (fun h9_ => ?_)
  refine w_aload_n X dX5_addBad_12 rfl ?_
  refine w_get X (by decide) (σ_1 G n0 _ _) rfl gW_X5 1 (by decide) gF_X5_19 rfl dX5_addBad_13 ?_
  refine w_aload_n X dX5_addBad_16 rfl ?_
  refine w_get X (by decide) (σ_1 G n0 _ _) rfl gW_X5 6 (by decide) gF_X5_38 rfl dX5_addBad_17 ?_
  refine s_aald X (t := 2) _ (by decide) (σ_3 G n0 _ _) rfl dX5_addBad_20 ?_ (hj := rfl)
  refine w_iload_n X dX5_addBad_21 rfl ?_
  refine s_callVv X _ (c_X3_read (l := l) (G := G) (n0 := n0) (cr_3 (by omega)) (by omega)) gM_X5_49 gI_yX3_read gS_yX3_read gN_X3 gC_yX3_read (isCr_k (cr_3 (by omega))) (σ_cr G n0 _ _ (cr_3 (by omega))) rfl dX5_addBad_22 hl_yX3_read ⟨Nat.le_of_ble_eq_true rfl, Nat.le_of_ble_eq_true rfl⟩ (Nat.le_of_ble_eq_true rfl) rfl (fun mi1 mr1 h1 => ?_)
  obtain ⟨rfl, rfl⟩ := h1
  have e6 : row5 mi (30 + 2 * (mi 1 6).toNat + 1) (fun j => z / 10 ^ j % 10) 1 6 = mi 1 6 := by rw [row5_k (by omega)]
  refine w_aload_n X dX5_addBad_25 rfl ?_
  refine w_dup X dX5_addBad_26 rfl ?_
  refine w_get X (by decide) (σ_1 G n0 _ _) rfl gW_X5 6 (by decide) gF_X5_38 rfl dX5_addBad_27 ?_
  rw [e6]
  refine w_iconst X dX5_addBad_30 ?_
  refine w_iadd X dX5_addBad_31 ?_
  refine w_put X (by decide) (σ_1 G n0 _ _) rfl gW_X5 tyX5 tyX5_ok nmX5 6 (by decide) gF_X5_38 rfl rfl rfl (Nat.le_of_ble_eq_true rfl) dX5_addBad_32 (WW.eqf (sp_1_6 _) ?_)
  refine s_vret X hr dX5_addBad_35 ?_
  exact ⟨rfl, rfl⟩
set_option maxRecDepth 20000 in
set_option maxHeartbeats 4000000 in
theorem c_X5_isBadCrowd {l : Launch} {G : Gt} {n0 : Nat} {mi : Nat → Nat → Int} {mr : Nat → Nat → Nat} (hL : LW mi) {c : Nat} (hc : isCr c) (hb : CB mi c) : Ci l yX5_isBadCrowd cX5_isBadCrowd 3 .boolean 3 G n0 [.ref (n0 + 1), .ref (n0 + c)] mi mr (fun r9 mi9 mr9 => mi = mi9 ∧ mr = mr9 ∧ (r9 = 1 ∧ (∃ b : Nat, (b : Int) < mi 1 6 ∧ ge5 (mi (c + 1)) (mi (30 + 2 * b + 1))) ∨ r9 = 0 ∧ ∀ b : Nat, (b : Int) < mi 1 6 → ¬ ge5 (mi (c + 1)) (mi (30 + 2 * b + 1)))) := by
  refine Ct_of (by decide +kernel) (by intro v hv; simp at hv; rcases hv with rfl | rfl <;> rfl) (Nat.le_of_ble_eq_true rfl) ?_
  intro p e s m args below meth c9 X hr hname
  show WW _ _ _ _ _ _ _ _ _ _ _ _ _ _ _ _ _ _ _ [some (.ref (n0 + 1)), some (.ref (n0 + c)), none] _
  have hL4 := hL.2.2.2.1
  refine w_iconst X dX5_isBadCrowd_0 ?_
  refine w_ist3_2 X dX5_isBadCrowd_1 ?_
  have loop : ∀ (n : Nat) (i : Nat) (x3 : Option Value), ((i : Int) ≤ mi 1 6) → (∀ j : Nat, j < i → ¬ ge5 (mi (c + 1)) (mi (30 + 2 * j + 1))) → n = 6 - i → WSi p l e s m args below meth c9 3 (fun r9 mi9 mr9 => mi = mi9 ∧ mr = mr9 ∧ (r9 = 1 ∧ (∃ b : Nat, (b : Int) < mi 1 6 ∧ ge5 (mi (c + 1)) (mi (30 + 2 * b + 1))) ∨ r9 = 0 ∧ ∀ b : Nat, (b : Int) < mi 1 6 → ¬ ge5 (mi (c + 1)) (mi (30 + 2 * b + 1)))) G n0 3 mi mr 2 [some (.ref (n0 + 1)), some (.ref (n0 + c)), some (.int (jI (i : Int)))] [] := by
    intro n
    induction n using Nat.strongRecOn with
    | ind n ih_loop =>
      intro i x3 hi hinv hn
      refine w_iload_n X dX5_isBadCrowd_2 rfl ?_
      refine w_aload_n X dX5_isBadCrowd_3 rfl ?_
      refine w_get X (by decide) (σ_1 G n0 _ _) rfl gW_X5 6 (by decide) gF_X5_38 rfl dX5_isBadCrowd_4 ?_
      refine w_icmp_ge X 31 dX5_isBadCrowd_7 (by decide) (fun c7_1 => ?_) (fun c7_1 => ?_)
      ·
        refine w_iconst X dX5_isBadCrowd_31 ?_
        refine s_zret X hr dX5_isBadCrowd_32 (by omega) ?_
        exact ⟨rfl, rfl, Or.inr ⟨rfl, fun j hj => hinv j (by omega)⟩⟩
      ·
        refine w_aload_n X dX5_isBadCrowd_10 rfl ?_
        refine w_aload_n X dX5_isBadCrowd_11 rfl ?_
        refine w_get X (by decide) (σ_1 G n0 _ _) rfl gW_X5 1 (by decide) gF_X5_19 rfl dX5_isBadCrowd_12 ?_
        refine w_iload_n X dX5_isBadCrowd_15 rfl ?_
        refine s_aald X (t := 2) (i) (by decide) (σ_3 G n0 _ _) rfl dX5_isBadCrowd_16 ?_
        refine s_callVi X _ (c_X3_isAtLeast (l := l) (G := G) (n0 := n0) hc (cr_3 (by omega)) hb (hL.2.2.2.2.2 i (by omega))) gM_X5_53 gI_yX3_isAtLeast gS_yX3_isAtLeast gN_X3 gC_yX3_isAtLeast (isCr_k hc) (σ_cr G n0 _ _ hc) rfl dX5_isBadCrowd_17 hl_yX3_isAtLeast ⟨Nat.le_of_ble_eq_true rfl, Nat.le_of_ble_eq_true rfl⟩ (Nat.le_of_ble_eq_true rfl) rfl (fun r1 mi1 mr1 h1 => ?_)
        obtain ⟨rfl, rfl, h1⟩ := h1
        refine w_if_eq X 25 dX5_isBadCrowd_20 (by decide) (fun c20_2 => ?_) (fun c20_2 => ?_)
        ·
          refine w_iinc3_2 X dX5_isBadCrowd_25 ?_
          refine w_goto X 2 dX5_isBadCrowd_28 (by decide) ?_
          exact ih_loop _ (by omega) (i + 1) none (by omega) (fun j hj => by rcases (show j < i ∨ j = i by omega) with q | q; exact hinv j q; subst q; rcases h1 with q1 | q1; omega; exact q1.2) rfl
        ·
          refine w_iconst X dX5_isBadCrowd_23 ?_
          refine s_zret X hr dX5_isBadCrowd_24 (by omega) ?_
          rcases h1 with q1 | q1
          · exact ⟨rfl, rfl, Or.inl ⟨rfl, i, by omega, q1.2⟩⟩
          · omega
  exact loop _ 0 none (by omega) (fun j hj => absurd hj (by omega)) rfl
set_option maxRecDepth 20000 in
set_option maxHeartbeats 4000000 in
theorem c_X5_isInStart {l : Launch} {G : Gt} {n0 : Nat} {mi : Nat → Nat → Int} {mr : Nat → Nat → Nat} (hL : LW mi) {c : Nat} (hc : isCr c) (hb : CB mi c) : Ci l yX5_isInStart cX5_isInStart 3 .boolean 2 G n0 [.ref (n0 + 1), .ref (n0 + c)] mi mr (fun r9 mi9 mr9 => mi = mi9 ∧ mr = mr9 ∧ (r9 = 1 ∧ inst (mi 1 4) (mi (c + 1)) (mi 1 3) ∨ r9 = 0 ∧ ¬ inst (mi 1 4) (mi (c + 1)) (mi 1 3))) := by
  refine Ct_of (by decide +kernel) (by intro v hv; simp at hv; rcases hv with rfl | rfl <;> rfl) (Nat.le_of_ble_eq_true rfl) ?_
  intro p e s m args below meth c9 X hr hname
  show WW _ _ _ _ _ _ _ _ _ _ _ _ _ _ _ _ _ _ _ [some (.ref (n0 + 1)), some (.ref (n0 + c)), none] _
  have hL1 := hL.1
  have hL2 := hL.2.1
  have hcb := CB_at hb
  refine w_iconst X dX5_isInStart_0 ?_
  refine w_ist3_2 X dX5_isInStart_1 ?_
  have loop : ∀ (n : Nat) (i : Nat) (x3 : Option Value), ((i : Int) ≤ mi 1 3) → (∀ j : Nat, j < i → mi (c + 1) j ≤ 0 ∨ btz (mi 1 4) j = 1) → n = 5 - i → WSi p l e s m args below meth c9 2 (fun r9 mi9 mr9 => mi = mi9 ∧ mr = mr9 ∧ (r9 = 1 ∧ inst (mi 1 4) (mi (c + 1)) (mi 1 3) ∨ r9 = 0 ∧ ¬ inst (mi 1 4) (mi (c + 1)) (mi 1 3))) G n0 3 mi mr 2 [some (.ref (n0 + 1)), some (.ref (n0 + c)), some (.int (jI (i : Int)))] [] := by
    intro n
    induction n using Nat.strongRecOn with
    | ind n ih_loop =>
      intro i x3 hi hinv hn
      refine w_iload_n X dX5_isInStart_2 rfl ?_
      refine w_aload_n X dX5_isInStart_3 rfl ?_
      refine w_get X (by decide) (σ_1 G n0 _ _) rfl gW_X5 3 (by decide) gF_X5_28 rfl dX5_isInStart_4 ?_
      refine w_icmp_ge X 37 dX5_isInStart_7 (by decide) (fun c7_1 => ?_) (fun c7_1 => ?_)
      ·
        refine w_iconst X dX5_isInStart_37 ?_
        refine s_zret X hr dX5_isInStart_38 (by omega) ?_
        exact ⟨rfl, rfl, Or.inl ⟨rfl, fun j hj => hinv j (by omega)⟩⟩
      ·
        refine w_aload_n X dX5_isInStart_10 rfl ?_
        refine w_iload_n X dX5_isInStart_11 rfl ?_
        refine s_callVi X _ (c_X3_of (l := l) (G := G) (n0 := n0) hc (by first | assumption | (refine ⟨?_, ?_⟩ <;> omega))) gM_X5_57 gI_yX3_of gS_yX3_of gN_X3 gC_yX3_of (isCr_k hc) (σ_cr G n0 _ _ hc) rfl dX5_isInStart_12 hl_yX3_of ⟨Nat.le_of_ble_eq_true rfl, Nat.le_of_ble_eq_true rfl⟩ (Nat.le_of_ble_eq_true rfl) rfl (fun r1 mi1 mr1 h1 => ?_)
        obtain ⟨rfl, rfl, h1⟩ := h1
        rw [if_pos ⟨by omega, by omega⟩, Int.toNat_natCast] at h1
        have q7 := hcb i (by omega)
        refine w_if_le X 31 dX5_isInStart_15 (by decide) (fun c15_2 => ?_) (fun c15_2 => ?_)
        ·
          refine w_iinc3_2 X dX5_isInStart_31 ?_
          refine w_goto X 2 dX5_isInStart_34 (by decide) ?_
          have q8 : mi (c + 1) i ≤ 0 ∨ btz (mi 1 4) i = 1 := by
            first
            | (left; omega)
            | (right; unfold btz; rw [Int.toNat_natCast] at *; omega)
          exact ih_loop _ (by omega) (i + 1) none (by omega) (fun j hj => by rcases (show j < i ∨ j = i by omega) with q | q; exact hinv j q; subst q; exact q8) rfl
        ·
          refine w_aload_n X dX5_isInStart_18 rfl ?_
          refine w_get X (by decide) (σ_1 G n0 _ _) rfl gW_X5 4 (by decide) gF_X5_32 rfl dX5_isInStart_19 ?_
          refine w_iload_n X dX5_isInStart_22 rfl ?_
          have hd0 := Int.ediv_nonneg (show 0 ≤ mi 1 4 by omega) (show (0:Int) ≤ 2 ^ (i : Int).toNat from Int.le_of_lt (Int.pow_pos (by decide)))
          have hd1 := Int.ediv_le_self (2 ^ (i : Int).toNat) (show 0 ≤ mi 1 4 by omega)
          refine w_ishr X dX5_isInStart_23 ?_
          refine w_iconst X dX5_isInStart_24 ?_
          refine w_iand1 X dX5_isInStart_25 ?_
          refine w_if_ne X 31 dX5_isInStart_26 (by decide) (fun c26_3 => ?_) (fun c26_3 => ?_)
          ·
            refine w_iinc3_2 X dX5_isInStart_31 ?_
            refine w_goto X 2 dX5_isInStart_34 (by decide) ?_
            have q8 : mi (c + 1) i ≤ 0 ∨ btz (mi 1 4) i = 1 := by
              first
              | (left; omega)
              | (right; unfold btz; rw [Int.toNat_natCast] at *; omega)
            exact ih_loop _ (by omega) (i + 1) none (by omega) (fun j hj => by rcases (show j < i ∨ j = i by omega) with q | q; exact hinv j q; subst q; exact q8) rfl
          ·
            refine w_iconst X dX5_isInStart_29 ?_
            refine s_zret X hr dX5_isInStart_30 (by omega) ?_
            refine ⟨rfl, rfl, Or.inr ⟨rfl, fun w => ?_⟩⟩
            have q := w i (by omega)
            unfold btz at q
            rw [Int.toNat_natCast] at *
            omega
  exact loop _ 0 none (by omega) (fun j hj => absurd hj (by omega)) rfl
set_option maxRecDepth 20000 in
set_option maxHeartbeats 4000000 in
theorem c_X5_countFitting {l : Launch} {G : Gt} {n0 : Nat} {mi : Nat → Nat → Int} {mr : Nat → Nat → Nat} (hL : LW mi) {c : Nat} (hc : isCr c) (hb : CB mi c) : Ci l yX5_countFitting cX5_countFitting 4 .int 3 G n0 [.ref (n0 + 1), .ref (n0 + c)] mi mr (fun r9 mi9 mr9 => mi = mi9 ∧ mr = mr9 ∧ r9 = cnt (fun j => fit (mi (6 + 2 * j)) (mi (c + 1))) (mi 1 5).toNat) := by
  refine Ct_of (by decide +kernel) (by intro v hv; simp at hv; rcases hv with rfl | rfl <;> rfl) (Nat.le_of_ble_eq_true rfl) ?_
  intro p e s m args below meth c9 X hr hname
  show WW _ _ _ _ _ _ _ _ _ _ _ _ _ _ _ _ _ _ _ [some (.ref (n0 + 1)), some (.ref (n0 + c)), none, none] _
  have hL3 := hL.2.2.1
  refine w_iconst X dX5_countFitting_0 ?_
  refine w_ist4_2 X dX5_countFitting_1 ?_
  refine w_iconst X dX5_countFitting_2 ?_
  refine w_ist4_3 X dX5_countFitting_3 ?_
  have loop : ∀ (n : Nat) (i : Nat) (t : Int) (x3 : Option Value), ((i : Int) ≤ mi 1 5) → (t = cnt (fun j => fit (mi (6 + 2 * j)) (mi (c + 1))) i) → n = 12 - i → WSi p l e s m args below meth c9 3 (fun r9 mi9 mr9 => mi = mi9 ∧ mr = mr9 ∧ r9 = cnt (fun j => fit (mi (6 + 2 * j)) (mi (c + 1))) (mi 1 5).toNat) G n0 4 mi mr 4 [some (.ref (n0 + 1)), some (.ref (n0 + c)), some (.int (jI t)), some (.int (jI (i : Int)))] [] := by
    intro n
    induction n using Nat.strongRecOn with
    | ind n ih_loop =>
      intro i t x3 hi ht hn
      refine w_iload_n X dX5_countFitting_4 rfl ?_
      refine w_aload_n X dX5_countFitting_5 rfl ?_
      refine w_get X (by decide) (σ_1 G n0 _ _) rfl gW_X5 5 (by decide) gF_X5_35 rfl dX5_countFitting_6 ?_
      refine w_icmp_ge X 34 dX5_countFitting_9 (by decide) (fun c9_1 => ?_) (fun c9_1 => ?_)
      ·
        refine w_iload_n X dX5_countFitting_34 rfl ?_
        refine s_iret X hr dX5_countFitting_35 ?_
        exact ⟨rfl, rfl, by rw [ht, show (mi 1 5).toNat = i by omega]⟩
      ·
        refine w_aload_n X dX5_countFitting_12 rfl ?_
        refine w_get X (by decide) (σ_1 G n0 _ _) rfl gW_X5 0 (by decide) gF_X5_11 rfl dX5_countFitting_13 ?_
        refine w_iload_n X dX5_countFitting_16 rfl ?_
        refine s_aald X (t := 3) (i) (by decide) (σ_2 G n0 _ _) rfl dX5_countFitting_17 ?_
        refine w_aload_n X dX5_countFitting_18 rfl ?_
        refine s_callVi X _ (c_X6_fits (l := l) (G := G) (n0 := n0) (ru_2 (by omega)) (hL.2.2.2.2.1 i (by omega)) hc hb) gM_X5_61 gI_yX6_fits gS_yX6_fits gN_X6 gC_yX6_fits (isRu_k (ru_2 (by omega))) (σ_ru G n0 _ _ (ru_2 (by omega))) rfl dX5_countFitting_19 hl_yX6_fits ⟨Nat.le_of_ble_eq_true rfl, Nat.le_of_ble_eq_true rfl⟩ (Nat.le_of_ble_eq_true rfl) rfl (fun r1 mi1 mr1 h1 => ?_)
        obtain ⟨rfl, rfl, h1⟩ := h1
        refine w_if_eq X 28 dX5_countFitting_22 (by decide) (fun c22_2 => ?_) (fun c22_2 => ?_)
        ·
          refine w_iinc4_3 X dX5_countFitting_28 ?_
          refine w_goto X 4 dX5_countFitting_31 (by decide) ?_
          rcases h1 with ⟨q1, q2⟩ | ⟨q1, q2⟩
          · first | omega | exact ih_loop _ (by omega) (i + 1) _ none (by omega) (by rw [cnt_t q2, ht]) rfl
          · first | omega | exact ih_loop _ (by omega) (i + 1) _ none (by omega) (by rw [cnt_f q2, ht]) rfl
        ·
          refine w_iinc4_2 X dX5_countFitting_25 ?_
          refine w_iinc4_3 X dX5_countFitting_28 ?_
          refine w_goto X 4 dX5_countFitting_31 (by decide) ?_
          rcases h1 with ⟨q1, q2⟩ | ⟨q1, q2⟩
          · first | omega | exact ih_loop _ (by omega) (i + 1) _ none (by omega) (by rw [cnt_t q2, ht]) rfl
          · first | omega | exact ih_loop _ (by omega) (i + 1) _ none (by omega) (by rw [cnt_f q2, ht]) rfl
  exact loop _ 0 0 none (by omega) rfl rfl
end
section
/-- a store of bases is in order: its rows are its own crowds, apart; those that count hold what is in order -/
def BO (mi : Nat → Nat → Int) (mr : Nat → Nat → Nat) (b : Nat) : Prop := isBs b ∧ (0 ≤ mi b 2 ∧ mi b 2 ≤ 101) ∧ (∀ i : Nat, i < 101 → b + 3 ≤ mr (b + 1) i ∧ mr (b + 1) i < b + 205 ∧ (mr (b + 1) i - b) % 2 = 1) ∧ (∀ i j : Nat, i < 101 → j < 101 → mr (b + 1) i = mr (b + 1) j → i = j) ∧ (∀ i : Nat, (i : Int) < mi b 2 → CB mi (mr (b + 1) i)) ∧ (∀ i : Nat, (i : Int) < mi b 2 → mi (b + 2) i = 0 ∨ mi (b + 2) i = 1) ∧ 0 ≤ mi b 3 ∧ mi b 3 ≤ mi b 2
theorem ow_cr {b c : Nat} (hb : isBs b) (h : b + 3 ≤ c ∧ c < b + 205 ∧ (c - b) % 2 = 1) : isCr c := by
  unfold isBs at hb
  unfold isCr
  rcases hb with rfl | rfl <;> omega
theorem BO.cr {mi : Nat → Nat → Int} {mr : Nat → Nat → Nat} {b i : Nat} (h : BO mi mr b) (hi : i < 101) : isCr (mr (b + 1) i) := ow_cr h.1 (h.2.2.1 i hi)
theorem BO_fr {mi mi' : Nat → Nat → Int} {mr mr' : Nat → Nat → Nat} {b : Nat} (h : BO mi mr b) (h1 : ∀ a, b ≤ a → a < b + 205 → mi' a = mi a) (h2 : mr' (b + 1) = mr (b + 1)) : BO mi' mr' b := by
  obtain ⟨g1, g2, g3, g4, g5, g6, g7⟩ := h
  unfold BO
  rw [h2, h1 b (by omega) (by omega), h1 (b + 2) (by omega) (by omega)]
  exact ⟨g1, g2, g3, g4, fun i hi => CB_fr (g5 i hi) (h1 _ (by have := g3 i (by omega); omega) (by have := g3 i (by omega); omega)), g6, g7⟩
theorem ap_bs {b c : Nat} (hb : isBs b) (hc : isCr c) : c + 1 ≠ b ∧ c + 1 ≠ b + 1 ∧ c + 1 ≠ b + 2 ∧ c ≠ b ∧ c ≠ b + 1 ∧ c ≠ b + 2 := by
  unfold isBs at hb
  unfold isCr at hc
  omega
theorem dX1_clear_0 : decode cX1_clear 0 = .ok (.aload_n 0, 1) := by decide +kernel
theorem dX1_clear_1 : decode cX1_clear 1 = .ok (.iconst 0, 1) := by decide +kernel
theorem dX1_clear_2 : decode cX1_clear 2 = .ok (.putfield 21, 3) := by decide +kernel
theorem dX1_clear_5 : decode cX1_clear 5 = .ok (.aload_n 0, 1) := by decide +kernel
theorem dX1_clear_6 : decode cX1_clear 6 = .ok (.iconst 0, 1) := by decide +kernel
theorem dX1_clear_7 : decode cX1_clear 7 = .ok (.putfield 25, 3) := by decide +kernel
theorem dX1_clear_10 : decode cX1_clear 10 = .ok (.return_, 1) := by decide +kernel
theorem dX1_areTooMany_0 : decode cX1_areTooMany 0 = .ok (.aload_n 0, 1) := by decide +kernel
theorem dX1_areTooMany_1 : decode cX1_areTooMany 1 = .ok (.getfield 21, 3) := by decide +kernel
theorem dX1_areTooMany_4 : decode cX1_areTooMany 4 = .ok (.bipush 100, 2) := by decide +kernel
theorem dX1_areTooMany_6 : decode cX1_areTooMany 6 = .ok (.if_icmp .le 7, 3) := by decide +kernel
theorem dX1_areTooMany_9 : decode cX1_areTooMany 9 = .ok (.iconst 1, 1) := by decide +kernel
theorem dX1_areTooMany_10 : decode cX1_areTooMany 10 = .ok (.goto 4, 3) := by decide +kernel
theorem dX1_areTooMany_13 : decode cX1_areTooMany 13 = .ok (.iconst 0, 1) := by decide +kernel
theorem dX1_areTooMany_14 : decode cX1_areTooMany 14 = .ok (.ireturn, 1) := by decide +kernel
theorem dX1_cover_0 : decode cX1_cover 0 = .ok (.iconst 0, 1) := by decide +kernel
theorem dX1_cover_1 : decode cX1_cover 1 = .ok (.istore_n 2, 1) := by decide +kernel
theorem dX1_cover_2 : decode cX1_cover 2 = .ok (.iload_n 2, 1) := by decide +kernel
theorem dX1_cover_3 : decode cX1_cover 3 = .ok (.aload_n 0, 1) := by decide +kernel
theorem dX1_cover_4 : decode cX1_cover 4 = .ok (.getfield 21, 3) := by decide +kernel
theorem dX1_cover_7 : decode cX1_cover 7 = .ok (.if_icmp .ge 24, 3) := by decide +kernel
theorem dX1_cover_10 : decode cX1_cover 10 = .ok (.aload_n 1, 1) := by decide +kernel
theorem dX1_cover_11 : decode cX1_cover 11 = .ok (.aload_n 0, 1) := by decide +kernel
theorem dX1_cover_12 : decode cX1_cover 12 = .ok (.getfield 11, 3) := by decide +kernel
theorem dX1_cover_15 : decode cX1_cover 15 = .ok (.iload_n 2, 1) := by decide +kernel
theorem dX1_cover_16 : decode cX1_cover 16 = .ok (.aaload, 1) := by decide +kernel
theorem dX1_cover_17 : decode cX1_cover 17 = .ok (.invokevirtual 29, 3) := by decide +kernel
theorem dX1_cover_20 : decode cX1_cover 20 = .ok (.ifCond .eq 5, 3) := by decide +kernel
theorem dX1_cover_23 : decode cX1_cover 23 = .ok (.iconst 1, 1) := by decide +kernel
theorem dX1_cover_24 : decode cX1_cover 24 = .ok (.ireturn, 1) := by decide +kernel
theorem dX1_cover_25 : decode cX1_cover 25 = .ok (.iinc 2 1, 3) := by decide +kernel
theorem dX1_cover_28 : decode cX1_cover 28 = .ok (.goto (-26), 3) := by decide +kernel
theorem dX1_cover_31 : decode cX1_cover 31 = .ok (.iconst 0, 1) := by decide +kernel
theorem dX1_cover_32 : decode cX1_cover 32 = .ok (.ireturn, 1) := by decide +kernel
theorem dX1_take_0 : decode cX1_take 0 = .ok (.aload_n 0, 1) := by decide +kernel
theorem dX1_take_1 : decode cX1_take 1 = .ok (.invokevirtual 33, 3) := by decide +kernel
theorem dX1_take_4 : decode cX1_take 4 = .ok (.ifCond .eq 4, 3) := by decide +kernel
theorem dX1_take_7 : decode cX1_take 7 = .ok (.return_, 1) := by decide +kernel
theorem dX1_take_8 : decode cX1_take 8 = .ok (.aload_n 0, 1) := by decide +kernel
theorem dX1_take_9 : decode cX1_take 9 = .ok (.getfield 11, 3) := by decide +kernel
theorem dX1_take_12 : decode cX1_take 12 = .ok (.aload_n 0, 1) := by decide +kernel
theorem dX1_take_13 : decode cX1_take 13 = .ok (.getfield 21, 3) := by decide +kernel
theorem dX1_take_16 : decode cX1_take 16 = .ok (.aaload, 1) := by decide +kernel
theorem dX1_take_17 : decode cX1_take 17 = .ok (.astore_n 3, 1) := by decide +kernel
theorem dX1_take_18 : decode cX1_take 18 = .ok (.aload_n 3, 1) := by decide +kernel
theorem dX1_take_19 : decode cX1_take 19 = .ok (.aload_n 1, 1) := by decide +kernel
theorem dX1_take_20 : decode cX1_take 20 = .ok (.invokevirtual 37, 3) := by decide +kernel
theorem dX1_take_23 : decode cX1_take 23 = .ok (.aload_n 0, 1) := by decide +kernel
theorem dX1_take_24 : decode cX1_take 24 = .ok (.getfield 21, 3) := by decide +kernel
theorem dX1_take_27 : decode cX1_take 27 = .ok (.istore 4, 2) := by decide +kernel
theorem dX1_take_29 : decode cX1_take 29 = .ok (.iload 4, 2) := by decide +kernel
theorem dX1_take_31 : decode cX1_take 31 = .ok (.ifCond .le 57, 3) := by decide +kernel
theorem dX1_take_34 : decode cX1_take 34 = .ok (.aload_n 3, 1) := by decide +kernel
theorem dX1_take_35 : decode cX1_take 35 = .ok (.aload_n 0, 1) := by decide +kernel
theorem dX1_take_36 : decode cX1_take 36 = .ok (.getfield 11, 3) := by decide +kernel
theorem dX1_take_39 : decode cX1_take 39 = .ok (.iload 4, 2) := by decide +kernel
theorem dX1_take_41 : decode cX1_take 41 = .ok (.iconst 1, 1) := by decide +kernel
theorem dX1_take_42 : decode cX1_take 42 = .ok (.isub, 1) := by decide +kernel
theorem dX1_take_43 : decode cX1_take 43 = .ok (.aaload, 1) := by decide +kernel
theorem dX1_take_44 : decode cX1_take 44 = .ok (.invokevirtual 41, 3) := by decide +kernel
theorem dX1_take_47 : decode cX1_take 47 = .ok (.ifCond .eq 41, 3) := by decide +kernel
theorem dX1_take_50 : decode cX1_take 50 = .ok (.aload_n 0, 1) := by decide +kernel
theorem dX1_take_51 : decode cX1_take 51 = .ok (.getfield 11, 3) := by decide +kernel
theorem dX1_take_54 : decode cX1_take 54 = .ok (.iload 4, 2) := by decide +kernel
theorem dX1_take_56 : decode cX1_take 56 = .ok (.aload_n 0, 1) := by decide +kernel
theorem dX1_take_57 : decode cX1_take 57 = .ok (.getfield 11, 3) := by decide +kernel
theorem dX1_take_60 : decode cX1_take 60 = .ok (.iload 4, 2) := by decide +kernel
theorem dX1_take_62 : decode cX1_take 62 = .ok (.iconst 1, 1) := by decide +kernel
theorem dX1_take_63 : decode cX1_take 63 = .ok (.isub, 1) := by decide +kernel
theorem dX1_take_64 : decode cX1_take 64 = .ok (.aaload, 1) := by decide +kernel
theorem dX1_take_65 : decode cX1_take 65 = .ok (.aastore, 1) := by decide +kernel
theorem dX1_take_66 : decode cX1_take 66 = .ok (.aload_n 0, 1) := by decide +kernel
theorem dX1_take_67 : decode cX1_take 67 = .ok (.getfield 17, 3) := by decide +kernel
theorem dX1_take_70 : decode cX1_take 70 = .ok (.iload 4, 2) := by decide +kernel
theorem dX1_take_72 : decode cX1_take 72 = .ok (.aload_n 0, 1) := by decide +kernel
theorem dX1_take_73 : decode cX1_take 73 = .ok (.getfield 17, 3) := by decide +kernel
theorem dX1_take_76 : decode cX1_take 76 = .ok (.iload 4, 2) := by decide +kernel
theorem dX1_take_78 : decode cX1_take 78 = .ok (.iconst 1, 1) := by decide +kernel
theorem dX1_take_79 : decode cX1_take 79 = .ok (.isub, 1) := by decide +kernel
theorem dX1_take_80 : decode cX1_take 80 = .ok (.baload, 1) := by decide +kernel
theorem dX1_take_81 : decode cX1_take 81 = .ok (.bastore, 1) := by decide +kernel
theorem dX1_take_82 : decode cX1_take 82 = .ok (.iinc 4 (-1), 3) := by decide +kernel
theorem dX1_take_85 : decode cX1_take 85 = .ok (.goto (-56), 3) := by decide +kernel
theorem dX1_take_88 : decode cX1_take 88 = .ok (.aload_n 0, 1) := by decide +kernel
theorem dX1_take_89 : decode cX1_take 89 = .ok (.getfield 11, 3) := by decide +kernel
theorem dX1_take_92 : decode cX1_take 92 = .ok (.iload 4, 2) := by decide +kernel
theorem dX1_take_94 : decode cX1_take 94 = .ok (.aload_n 3, 1) := by decide +kernel
theorem dX1_take_95 : decode cX1_take 95 = .ok (.aastore, 1) := by decide +kernel
theorem dX1_take_96 : decode cX1_take 96 = .ok (.aload_n 0, 1) := by decide +kernel
theorem dX1_take_97 : decode cX1_take 97 = .ok (.getfield 17, 3) := by decide +kernel
theorem dX1_take_100 : decode cX1_take 100 = .ok (.iload 4, 2) := by decide +kernel
theorem dX1_take_102 : decode cX1_take 102 = .ok (.iload_n 2, 1) := by decide +kernel
theorem dX1_take_103 : decode cX1_take 103 = .ok (.bastore, 1) := by decide +kernel
theorem dX1_take_104 : decode cX1_take 104 = .ok (.aload_n 0, 1) := by decide +kernel
theorem dX1_take_105 : decode cX1_take 105 = .ok (.dup, 1) := by decide +kernel
theorem dX1_take_106 : decode cX1_take 106 = .ok (.getfield 21, 3) := by decide +kernel
theorem dX1_take_109 : decode cX1_take 109 = .ok (.iconst 1, 1) := by decide +kernel
theorem dX1_take_110 : decode cX1_take 110 = .ok (.iadd, 1) := by decide +kernel
theorem dX1_take_111 : decode cX1_take 111 = .ok (.putfield 21, 3) := by decide +kernel
theorem dX1_take_114 : decode cX1_take 114 = .ok (.aload_n 0, 1) := by decide +kernel
theorem dX1_take_115 : decode cX1_take 115 = .ok (.dup, 1) := by decide +kernel
theorem dX1_take_116 : decode cX1_take 116 = .ok (.getfield 25, 3) := by decide +kernel
theorem dX1_take_119 : decode cX1_take 119 = .ok (.iload_n 2, 1) := by decide +kernel
theorem dX1_take_120 : decode cX1_take 120 = .ok (.ifCond .eq 7, 3) := by decide +kernel
theorem dX1_take_123 : decode cX1_take 123 = .ok (.iconst 1, 1) := by decide +kernel
theorem dX1_take_124 : decode cX1_take 124 = .ok (.goto 4, 3) := by decide +kernel
theorem dX1_take_127 : decode cX1_take 127 = .ok (.iconst 0, 1) := by decide +kernel
theorem dX1_take_128 : decode cX1_take 128 = .ok (.iadd, 1) := by decide +kernel
theorem dX1_take_129 : decode cX1_take 129 = .ok (.putfield 25, 3) := by decide +kernel
theorem dX1_take_132 : decode cX1_take 132 = .ok (.return_, 1) := by decide +kernel
theorem hl_yX1_clear : (yX1_clear.cls ≠ "java/lang/invoke/MethodHandle" ∧ yX1_clear.cls ≠ "java/lang/invoke/VarHandle") ∧ (parseMethodDescriptor yX1_clear.desc).map (fun d => d.parameters.length) = some 0 := by decide +kernel
theorem hl_yX1_areTooMany : (yX1_areTooMany.cls ≠ "java/lang/invoke/MethodHandle" ∧ yX1_areTooMany.cls ≠ "java/lang/invoke/VarHandle") ∧ (parseMethodDescriptor yX1_areTooMany.desc).map (fun d => d.parameters.length) = some 0 := by decide +kernel
theorem hl_yX1_cover : (yX1_cover.cls ≠ "java/lang/invoke/MethodHandle" ∧ yX1_cover.cls ≠ "java/lang/invoke/VarHandle") ∧ (parseMethodDescriptor yX1_cover.desc).map (fun d => d.parameters.length) = some 1 := by decide +kernel
theorem hl_yX1_take : (yX1_take.cls ≠ "java/lang/invoke/MethodHandle" ∧ yX1_take.cls ≠ "java/lang/invoke/VarHandle") ∧ (parseMethodDescriptor yX1_take.desc).map (fun d => d.parameters.length) = some 2 := by decide +kernel
set_option maxRecDepth 20000 in
set_option maxHeartbeats 4000000 in
theorem c_X1_clear {l : Launch} {G : Gt} {n0 : Nat} {mi : Nat → Nat → Int} {mr : Nat → Nat → Nat} {b : Nat} (hb : isBs b) : Cv l yX1_clear cX1_clear 1 1 G n0 [.ref (n0 + b)] mi mr (fun mi9 mr9 => up2 (up2 mi b 2 0) b 3 0 = mi9 ∧ mr = mr9) := by
  refine Ct_of (by decide +kernel) (by intro v hv; simp at hv; rcases hv with rfl <;> rfl) (Nat.le_of_ble_eq_true rfl) ?_
  intro p e s m args below meth c9 X hr hname
  show WW _ _ _ _ _ _ _ _ _ _ _ _ _ _ _ _ _ _ _ [some (.ref (n0 + b))] _
  refine w_aload_n X dX1_clear_0 rfl ?_
  refine w_iconst X dX1_clear_1 ?_
  refine w_put X (isBs_k hb) (σ_bs G n0 _ _ hb) rfl gW_X1 tyX1 tyX1_ok nmX1 2 (by decide) gF_X1_21 rfl rfl rfl (Nat.le_of_ble_eq_true rfl) dX1_clear_2 (WW.eqf (sp_bs_2 hb _) ?_)
  refine w_aload_n X dX1_clear_5 rfl ?_
  refine w_iconst X dX1_clear_6 ?_
  refine w_put X (isBs_k hb) (σ_bs G n0 _ _ hb) rfl gW_X1 tyX1 tyX1_ok nmX1 3 (by decide) gF_X1_25 rfl rfl rfl (Nat.le_of_ble_eq_true rfl) dX1_clear_7 (WW.eqf (sp_bs_3 hb _) ?_)
  refine s_vret X hr dX1_clear_10 ?_
  exact ⟨rfl, rfl⟩
set_option maxRecDepth 20000 in
set_option maxHeartbeats 4000000 in
theorem c_X1_areTooMany {l : Launch} {G : Gt} {n0 : Nat} {mi : Nat → Nat → Int} {mr : Nat → Nat → Nat} {b : Nat} (hb : isBs b) (hr0 : rg (mi b 2)) : Ci l yX1_areTooMany cX1_areTooMany 1 .boolean 1 G n0 [.ref (n0 + b)] mi mr (fun r9 mi9 mr9 => mi = mi9 ∧ mr = mr9 ∧ (r9 = 1 ∧ 100 < mi b 2 ∨ r9 = 0 ∧ mi b 2 ≤ 100)) := by
  refine Ct_of (by decide +kernel) (by intro v hv; simp at hv; rcases hv with rfl <;> rfl) (Nat.le_of_ble_eq_true rfl) ?_
  intro p e s m args below meth c9 X hr hname
  show WW _ _ _ _ _ _ _ _ _ _ _ _ _ _ _ _ _ _ _ [some (.ref (n0 + b))] _
  refine w_aload_n X dX1_areTooMany_0 rfl ?_
  refine w_get X (isBs_k hb) (σ_bs G n0 _ _ hb) rfl gW_X1 2 (by decide) gF_X1_21 rfl dX1_areTooMany_1 ?_
  refine w_bipush X dX1_areTooMany_4 rfl ?_
  refine w_icmp_le X 13 dX1_areTooMany_6 (by decide) (fun c6_1 => ?_) (fun c6_1 => ?_)
  ·
    refine w_iconst X dX1_areTooMany_13 ?_
    refine s_zret X hr dX1_areTooMany_14 (by omega) ?_
    exact ⟨rfl, rfl, by omega⟩
  ·
    refine w_iconst X dX1_areTooMany_9 ?_
    refine w_goto X 14 dX1_areTooMany_10 (by decide) ?_
    refine s_zret X hr dX1_areTooMany_14 (by omega) ?_
    exact ⟨rfl, rfl, by omega⟩
set_option maxRecDepth 20000 in
set_option maxHeartbeats 4000000 in
theorem c_X1_cover {l : Launch} {G : Gt} {n0 : Nat} {mi : Nat → Nat → Int} {mr : Nat → Nat → Nat} {b : Nat} {c : Nat} (hB : BO mi mr b) (hc : isCr c) (hcb : CB mi c) : Ci l yX1_cover cX1_cover 3 .boolean 3 G n0 [.ref (n0 + b), .ref (n0 + c)] mi mr (fun r9 mi9 mr9 => mi = mi9 ∧ mr = mr9 ∧ (r9 = 1 ∧ (∃ i : Nat, (i : Int) < mi b 2 ∧ ge5 (mi (c + 1)) (mi (mr (b + 1) i + 1))) ∨ r9 = 0 ∧ ∀ i : Nat, (i : Int) < mi b 2 → ¬ ge5 (mi (c + 1)) (mi (mr (b + 1) i + 1)))) := by
  refine Ct_of (by decide +kernel) (by intro v hv; simp at hv; rcases hv with rfl | rfl <;> rfl) (Nat.le_of_ble_eq_true rfl) ?_
  intro p e s m args below meth c9 X hr hname
  show WW _ _ _ _ _ _ _ _ _ _ _ _ _ _ _ _ _ _ _ [some (.ref (n0 + b)), some (.ref (n0 + c)), none] _
  have hB2 := hB.2.1
  refine w_iconst X dX1_cover_0 ?_
  refine w_ist3_2 X dX1_cover_1 ?_
  have loop : ∀ (n : Nat) (i : Nat) (x3 : Option Value), ((i : Int) ≤ mi b 2) → (∀ j : Nat, j < i → ¬ ge5 (mi (c + 1)) (mi (mr (b + 1) j + 1))) → n = 101 - i → WSi p l e s m args below meth c9 3 (fun r9 mi9 mr9 => mi = mi9 ∧ mr = mr9 ∧ (r9 = 1 ∧ (∃ i : Nat, (i : Int) < mi b 2 ∧ ge5 (mi (c + 1)) (mi (mr (b + 1) i + 1))) ∨ r9 = 0 ∧ ∀ i : Nat, (i : Int) < mi b 2 → ¬ ge5 (mi (c + 1)) (mi (mr (b + 1) i + 1)))) G n0 3 mi mr 2 [some (.ref (n0 + b)), some (.ref (n0 + c)), some (.int (jI (i : Int)))] [] := by
    intro n
    induction n using Nat.strongRecOn with
    | ind n ih_loop =>
      intro i x3 hi hinv hn
      refine w_iload_n X dX1_cover_2 rfl ?_
      refine w_aload_n X dX1_cover_3 rfl ?_
      refine w_get X (isBs_k hB.1) (σ_bs G n0 _ _ hB.1) rfl gW_X1 2 (by decide) gF_X1_21 rfl dX1_cover_4 ?_
      refine w_icmp_ge X 31 dX1_cover_7 (by decide) (fun c7_1 => ?_) (fun c7_1 => ?_)
      ·
        refine w_iconst X dX1_cover_31 ?_
        refine s_zret X hr dX1_cover_32 (by omega) ?_
        exact ⟨rfl, rfl, Or.inr ⟨rfl, fun j hj => hinv j (by omega)⟩⟩
      ·
        refine w_aload_n X dX1_cover_10 rfl ?_
        refine w_aload_n X dX1_cover_11 rfl ?_
        refine w_get X (isBs_k hB.1) (σ_bs G n0 _ _ hB.1) rfl gW_X1 0 (by decide) gF_X1_11 rfl dX1_cover_12 ?_
        refine w_iload_n X dX1_cover_15 rfl ?_
        refine s_aald X (t := 2) (i) (isBs_k1 hB.1) (σ_r1 G n0 _ _ hB.1) rfl dX1_cover_16 ?_
        refine s_callVi X _ (c_X3_isAtLeast (l := l) (G := G) (n0 := n0) hc (hB.cr (by omega)) hcb (hB.2.2.2.2.1 i (by omega))) gM_X1_29 gI_yX3_isAtLeast gS_yX3_isAtLeast gN_X3 gC_yX3_isAtLeast (isCr_k hc) (σ_cr G n0 _ _ hc) rfl dX1_cover_17 hl_yX3_isAtLeast ⟨Nat.le_of_ble_eq_true rfl, Nat.le_of_ble_eq_true rfl⟩ (Nat.le_of_ble_eq_true rfl) rfl (fun r1 mi1 mr1 h1 => ?_)
        obtain ⟨rfl, rfl, h1⟩ := h1
        refine w_if_eq X 25 dX1_cover_20 (by decide) (fun c20_2 => ?_) (fun c20_2 => ?_)
        ·
          refine w_iinc3_2 X dX1_cover_25 ?_
          refine w_goto X 2 dX1_cover_28 (by decide) ?_
          exact ih_loop _ (by omega) (i + 1) none (by omega) (fun j hj => by rcases (show j < i ∨ j = i by omega) with q | q; exact hinv j q; subst q; rcases h1 with q1 | q1; omega; exact q1.2) rfl
        ·
          refine w_iconst X dX1_cover_23 ?_
          refine s_zret X hr dX1_cover_24 (by omega) ?_
          rcases h1 with q1 | q1
          · exact ⟨rfl, rfl, Or.inl ⟨rfl, i, by omega, q1.2⟩⟩
          · omega
  exact loop _ 0 none (by omega) (fun j hj => absurd hj (by omega)) rfl
def TkP (mi mi9 : Nat → Nat → Int) (mr mr9 : Nat → Nat → Nat) (b c : Nat) (z : Int) (n P : Nat) : Prop := (∀ j : Nat, j < P → mr9 (b + 1) j = mr (b + 1) j ∧ mi9 (b + 2) j = mi (b + 2) j) ∧ mr9 (b + 1) P = mr (b + 1) n ∧ mi9 (b + 2) P = z ∧ (∀ j : Nat, P < j → j ≤ n → mr9 (b + 1) j = mr (b + 1) (j - 1) ∧ mi9 (b + 2) j = mi (b + 2) (j - 1)) ∧ (∀ j : Nat, n < j → mr9 (b + 1) j = mr (b + 1) j) ∧ (∀ j : Nat, P ≤ j → j < n → be5 (mi (c + 1)) (mi (mr (b + 1) j + 1))) ∧ (P = 0 ∨ ¬ be5 (mi (c + 1)) (mi (mr (b + 1) (P - 1) + 1))) ∧ mi9 b 2 = mi b 2 + 1 ∧ mi9 b 3 = mi b 3 + z ∧ (∀ j : Nat, j < 5 → mi9 (mr (b + 1) n + 1) j = mi (c + 1) j) ∧ (∀ a : Nat, a ≠ b → a ≠ b + 2 → a ≠ mr (b + 1) n + 1 → mi9 a = mi a) ∧ ∀ a : Nat, a ≠ b + 1 → mr9 a = mr a
set_option maxRecDepth 20000 in
set_option maxHeartbeats 4000000 in
theorem c_X1_take {l : Launch} {G : Gt} {n0 : Nat} {mi : Nat → Nat → Int} {mr : Nat → Nat → Nat} {b : Nat} {c : Nat} {z : Int} (hz : z = 0 ∨ z = 1) (hB : BO mi mr b) (hc : isCr c) (hcb : CB mi c) (hown : ∀ i : Nat, i < 101 → c ≠ mr (b + 1) i) : Cv l yX1_take cX1_take 5 3 G n0 [.ref (n0 + b), .ref (n0 + c), .int (jI z)] mi mr (fun mi9 mr9 => (100 < mi b 2 ∧ mi = mi9 ∧ mr = mr9) ∨ (mi b 2 ≤ 100 ∧ ∃ n P : Nat, mi b 2 = (n : Int) ∧ P ≤ n ∧ TkP mi mi9 mr mr9 b c z n P)) := by
  refine Ct_of (by decide +kernel) (by intro v hv; simp at hv; rcases hv with rfl | rfl | rfl <;> rfl) (Nat.le_of_ble_eq_true rfl) ?_
  intro p e s m args below meth c9 X hr hname
  show WW _ _ _ _ _ _ _ _ _ _ _ _ _ _ _ _ _ _ _ [some (.ref (n0 + b)), some (.ref (n0 + c)), some (.int (jI z)), none, none] _
  have hB2 := hB.2.1
  refine w_aload_n X dX1_take_0 rfl ?_
  refine s_callVi X _ (c_X1_areTooMany (l := l) (G := G) (n0 := n0) hB.1 (by first | assumption | (refine ⟨?_, ?_⟩ <;> omega))) gM_X1_33 gI_yX1_areTooMany gS_yX1_areTooMany gN_X1 gC_yX1_areTooMany (isBs_k hB.1) (σ_bs G n0 _ _ hB.1) rfl dX1_take_1 hl_yX1_areTooMany ⟨Nat.le_of_ble_eq_true rfl, Nat.le_of_ble_eq_true rfl⟩ (Nat.le_of_ble_eq_true rfl) rfl (fun r1 mi1 mr1 h1 => ?_)
  obtain ⟨rfl, rfl, h1⟩ := h1
  refine w_if_eq X 8 dX1_take_4 (by decide) (fun c4_1 => ?_) (fun c4_1 => ?_)
  ·
    obtain ⟨nn, hn0⟩ := Int.eq_ofNat_of_zero_le hB2.1
    have hn1 : nn ≤ 100 := by omega
    have hrow := hB.2.2.1
    have hinj := hB.2.2.2.1
    have hrc := hB.cr (i := nn) (by omega)
    have hapn := ap_bs hB.1 hrc
    have hap := ap_bs hB.1 hc
    have qb2 : b + 2 ≠ b := by omega
    have qb0 : b ≠ b + 2 := by omega
    have qrb := hapn.1
    have qrb2 := hapn.2.2.1
    have qbr : b ≠ mr (b + 1) nn + 1 := fun q => qrb q.symm
    have hrn : ∀ i : Nat, i < nn → mr (b + 1) i + 1 ≠ b + 2 ∧ mr (b + 1) i + 1 ≠ mr (b + 1) nn + 1 := fun i hi => ⟨(ap_bs hB.1 (hB.cr (i := i) (by omega))).2.2.1, fun q => by have := hinj i nn (by omega) (by omega) (by omega); omega⟩
    have qr2 : b + 2 ≠ mr (b + 1) nn + 1 := fun q => qrb2 q.symm
    refine w_aload_n X dX1_take_8 rfl ?_
    refine w_get X (isBs_k hB.1) (σ_bs G n0 _ _ hB.1) rfl gW_X1 0 (by decide) gF_X1_11 rfl dX1_take_9 ?_
    refine w_aload_n X dX1_take_12 rfl ?_
    refine w_get X (isBs_k hB.1) (σ_bs G n0 _ _ hB.1) rfl gW_X1 2 (by decide) gF_X1_21 rfl dX1_take_13 ?_
    refine s_aald X (t := 2) (nn) (isBs_k1 hB.1) (σ_r1 G n0 _ _ hB.1) rfl dX1_take_16 ?_ (hz := by omega) (hj := by omega)
    refine w_ast5_3 X dX1_take_17 ?_
    refine w_aload_n X dX1_take_18 rfl ?_
    refine w_aload_n X dX1_take_19 rfl ?_
    refine s_callVv X _ (c_X3_copy (l := l) (G := G) (n0 := n0) hrc hc) gM_X1_37 gI_yX3_copy gS_yX3_copy gN_X3 gC_yX3_copy (isCr_k hrc) (σ_cr G n0 _ _ hrc) rfl dX1_take_20 hl_yX3_copy ⟨Nat.le_of_ble_eq_true rfl, Nat.le_of_ble_eq_true rfl⟩ (Nat.le_of_ble_eq_true rfl) rfl (fun mi2 mr2 h2 => ?_)
    obtain ⟨rfl, rfl⟩ := h2
    have hm0 : ∀ a, a ≠ mr (b + 1) nn + 1 → row5 mi (mr (b + 1) nn + 1) (mi (c + 1)) a = mi a := fun a ha => row5_k ha
    have hF0 : ∀ j : Nat, j < 5 → row5 mi (mr (b + 1) nn + 1) (mi (c + 1)) (mr (b + 1) nn + 1) j = mi (c + 1) j := fun j hj => row5_s hj
    generalize row5 mi (mr (b + 1) nn + 1) (mi (c + 1)) = mi0 at hm0 hF0 ⊢
    refine w_aload_n X dX1_take_23 rfl ?_
    refine w_get X (isBs_k hB.1) (σ_bs G n0 _ _ hB.1) rfl gW_X1 2 (by decide) gF_X1_21 rfl dX1_take_24 ?_
    rw [show mi0 b 2 = (nn : Int) by rw [hm0 b qbr]; exact hn0]
    refine w_ist5_4 X dX1_take_27 ?_
    have loop : ∀ (n : Nat) (mi' : Nat → Nat → Int) (mr' : Nat → Nat → Nat) (P : Nat), (P ≤ nn) → (∀ a : Nat, a ≠ b + 2 → a ≠ mr (b + 1) nn + 1 → mi' a = mi a) → (∀ j : Nat, j < 5 → mi' (mr (b + 1) nn + 1) j = mi (c + 1) j) → (∀ a : Nat, a ≠ b + 1 → mr' a = mr a) → (∀ j : Nat, j < P → mr' (b + 1) j = mr (b + 1) j ∧ mi' (b + 2) j = mi (b + 2) j) → (∀ j : Nat, P < j → j ≤ nn → mr' (b + 1) j = mr (b + 1) (j - 1) ∧ mi' (b + 2) j = mi (b + 2) (j - 1)) → (∀ j : Nat, nn < j → mr' (b + 1) j = mr (b + 1) j) → (∀ j : Nat, P ≤ j → j < nn → be5 (mi (c + 1)) (mi (mr (b + 1) j + 1))) → (∀ i : Nat, i < 101 → isCr (mr' (b + 1) i)) → n = P → WSv p l e s m args below meth c9 3 (fun mi9 mr9 => (100 < mi b 2 ∧ mi = mi9 ∧ mr = mr9) ∨ (mi b 2 ≤ 100 ∧ ∃ n P : Nat, mi b 2 = (n : Int) ∧ P ≤ n ∧ TkP mi mi9 mr mr9 b c z n P)) G n0 5 mi' mr' 29 [some (.ref (n0 + b)), some (.ref (n0 + c)), some (.int (jI z)), some (.ref (n0 + mr (b + 1) nn)), some (.int (jI (P : Int)))] [] := by
      intro n
      induction n using Nat.strongRecOn with
      | ind n ih_loop =>
        intro mi' mr' P hP hm hF hmr k1 k2 k3 k4 hro hn
        refine w_iload X dX1_take_29 rfl ?_
        refine w_if_le X 88 dX1_take_31 (by decide) (fun c31_2 => ?_) (fun c31_2 => ?_)
        ·
          have hst : P = 0 ∨ ¬ be5 (mi (c + 1)) (mi (mr (b + 1) (P - 1) + 1)) := Or.inl (by omega)
          refine w_aload_n X dX1_take_88 rfl ?_
          refine w_get X (isBs_k hB.1) (σ_bs G n0 _ _ hB.1) rfl gW_X1 0 (by decide) gF_X1_11 rfl dX1_take_89 ?_
          refine w_iload X dX1_take_92 rfl ?_
          refine w_aload_n X dX1_take_94 rfl ?_
          refine s_aast X (t := 2) (P) (isBs_k1 hB.1) (isCr_k hrc) (fun _ => σ_r1 G n0 _ _ hB.1) rfl (σ_cr G n0 _ _ hrc) rfl dX1_take_95 ?_ (hz := by omega) (hj := by omega)
          refine w_aload_n X dX1_take_96 rfl ?_
          refine w_get X (isBs_k hB.1) (σ_bs G n0 _ _ hB.1) rfl gW_X1 1 (by decide) gF_X1_17 rfl dX1_take_97 ?_
          refine w_iload X dX1_take_100 rfl ?_
          refine w_iload_n X dX1_take_102 rfl ?_
          refine s_zast X (P) (isBs_k2 hB.1) (fun _ => σ_f1 G n0 _ _ hB.1) hz dX1_take_103 ?_ (hz := by omega) (hj := by omega)
          refine w_aload_n X dX1_take_104 rfl ?_
          refine w_dup X dX1_take_105 rfl ?_
          refine w_get X (isBs_k hB.1) (σ_bs G n0 _ _ hB.1) rfl gW_X1 2 (by decide) gF_X1_21 rfl dX1_take_106 ?_
          refine w_iconst X dX1_take_109 ?_
          refine w_iadd X dX1_take_110 ?_
          refine w_put X (isBs_k hB.1) (σ_bs G n0 _ _ hB.1) rfl gW_X1 tyX1 tyX1_ok nmX1 2 (by decide) gF_X1_21 rfl rfl rfl (Nat.le_of_ble_eq_true rfl) dX1_take_111 (WW.eqf (sp_bs_2 hB.1 _) ?_)
          refine w_aload_n X dX1_take_114 rfl ?_
          refine w_dup X dX1_take_115 rfl ?_
          refine w_get X (isBs_k hB.1) (σ_bs G n0 _ _ hB.1) rfl gW_X1 3 (by decide) gF_X1_25 rfl dX1_take_116 ?_
          refine w_iload_n X dX1_take_119 rfl ?_
          refine w_if_eq X 127 dX1_take_120 (by decide) (fun c120_3 => ?_) (fun c120_3 => ?_)
          ·
            have hzz : z = 0 := by omega
            refine w_iconst X dX1_take_127 ?_
            refine w_iadd X dX1_take_128 ?_
            refine w_put X (isBs_k hB.1) (σ_bs G n0 _ _ hB.1) rfl gW_X1 tyX1 tyX1_ok nmX1 3 (by decide) gF_X1_25 rfl rfl rfl (Nat.le_of_ble_eq_true rfl) dX1_take_129 (WW.eqf (sp_bs_3 hB.1 _) ?_)
            refine s_vret X hr dX1_take_132 ?_
            refine Or.inr ⟨by omega, nn, P, hn0, hP, ?_⟩
            unfold TkP
            refine ⟨fun j hj => ⟨?_, ?_⟩, ?_, ?_, fun j hj hj2 => ⟨?_, ?_⟩, fun j hj => ?_, k4, hst, ?_, ?_, fun j hj => ?_, fun a ha ha2 ha3 => ?_, fun a ha => ?_⟩
            · rw [up2_j _ _ _ _ (Nat.ne_of_lt hj)]; exact (k1 j hj).1
            · rw [up2_k _ _ _ _ qb2, up2_k _ _ _ _ qb2, up2_j _ _ _ _ (Nat.ne_of_lt hj)]; exact (k1 j hj).2
            · rw [up2_s]
            · rw [up2_k _ _ _ _ qb2, up2_k _ _ _ _ qb2, up2_s]
            · rw [up2_j _ _ _ _ (Nat.ne_of_gt hj)]; exact (k2 j hj hj2).1
            · rw [up2_k _ _ _ _ qb2, up2_k _ _ _ _ qb2, up2_j _ _ _ _ (Nat.ne_of_gt hj)]; exact (k2 j hj hj2).2
            · rw [up2_j _ _ _ _ (Nat.ne_of_gt (Nat.lt_of_le_of_lt hP hj))]; exact k3 j hj
            · exact (up2_j _ b 3 _ (show (2 : Nat) ≠ 3 by decide)).trans ((up2_s _ b 2 _).trans (by rw [up2_k _ _ _ _ qb0, hm b qb0 qbr]))
            · exact (up2_s _ b 3 _).trans (by rw [up2_j _ b 2 _ (show (3 : Nat) ≠ 2 by decide), up2_k _ _ _ _ qb0, hm b qb0 qbr, hzz])
            · rw [up2_k _ _ _ _ qrb, up2_k _ _ _ _ qrb, up2_k _ _ _ _ qrb2]; exact hF j hj
            · rw [up2_k _ _ _ _ ha, up2_k _ _ _ _ ha, up2_k _ _ _ _ ha2]; exact hm a ha2 ha3
            · rw [up2_k _ _ _ _ ha]; exact hmr a ha
          ·
            have hzz : z = 1 := by omega
            refine w_iconst X dX1_take_123 ?_
            refine w_goto X 128 dX1_take_124 (by decide) ?_
            refine w_iadd X dX1_take_128 ?_
            refine w_put X (isBs_k hB.1) (σ_bs G n0 _ _ hB.1) rfl gW_X1 tyX1 tyX1_ok nmX1 3 (by decide) gF_X1_25 rfl rfl rfl (Nat.le_of_ble_eq_true rfl) dX1_take_129 (WW.eqf (sp_bs_3 hB.1 _) ?_)
            refine s_vret X hr dX1_take_132 ?_
            refine Or.inr ⟨by omega, nn, P, hn0, hP, ?_⟩
            unfold TkP
            refine ⟨fun j hj => ⟨?_, ?_⟩, ?_, ?_, fun j hj hj2 => ⟨?_, ?_⟩, fun j hj => ?_, k4, hst, ?_, ?_, fun j hj => ?_, fun a ha ha2 ha3 => ?_, fun a ha => ?_⟩
            · rw [up2_j _ _ _ _ (Nat.ne_of_lt hj)]; exact (k1 j hj).1
            · rw [up2_k _ _ _ _ qb2, up2_k _ _ _ _ qb2, up2_j _ _ _ _ (Nat.ne_of_lt hj)]; exact (k1 j hj).2
            · rw [up2_s]
            · rw [up2_k _ _ _ _ qb2, up2_k _ _ _ _ qb2, up2_s]
            · rw [up2_j _ _ _ _ (Nat.ne_of_gt hj)]; exact (k2 j hj hj2).1
            · rw [up2_k _ _ _ _ qb2, up2_k _ _ _ _ qb2, up2_j _ _ _ _ (Nat.ne_of_gt hj)]; exact (k2 j hj hj2).2
            · rw [up2_j _ _ _ _ (Nat.ne_of_gt (Nat.lt_of_le_of_lt hP hj))]; exact k3 j hj
            · exact (up2_j _ b 3 _ (show (2 : Nat) ≠ 3 by decide)).trans ((up2_s _ b 2 _).trans (by rw [up2_k _ _ _ _ qb0, hm b qb0 qbr]))
            · exact (up2_s _ b 3 _).trans (by rw [up2_j _ b 2 _ (show (3 : Nat) ≠ 2 by decide), up2_k _ _ _ _ qb0, hm b qb0 qbr, hzz])
            · rw [up2_k _ _ _ _ qrb, up2_k _ _ _ _ qrb, up2_k _ _ _ _ qrb2]; exact hF j hj
            · rw [up2_k _ _ _ _ ha, up2_k _ _ _ _ ha, up2_k _ _ _ _ ha2]; exact hm a ha2 ha3
            · rw [up2_k _ _ _ _ ha]; exact hmr a ha
        ·
          obtain ⟨Q, rfl⟩ : ∃ Q : Nat, P = Q + 1 := ⟨P - 1, by omega⟩
          have hQ : Q < nn := hP
          have hQ1 : Q < Q + 1 := Nat.lt_succ_self Q
          have hQ2 : Q < 101 := by omega
          have hQn : Q < n := by omega
          refine w_aload_n X dX1_take_34 rfl ?_
          refine w_aload_n X dX1_take_35 rfl ?_
          refine w_get X (isBs_k hB.1) (σ_bs G n0 _ _ hB.1) rfl gW_X1 0 (by decide) gF_X1_11 rfl dX1_take_36 ?_
          refine w_iload X dX1_take_39 rfl ?_
          refine w_iconst X dX1_take_41 ?_
          refine w_isub X dX1_take_42 ?_
          refine s_aald X (t := 2) (Q) (isBs_k1 hB.1) (σ_r1 G n0 _ _ hB.1) rfl dX1_take_43 ?_ (hz := by omega) (hj := by omega)
          refine s_callVi X _ (c_X3_comesBefore (l := l) (G := G) (n0 := n0) hrc (hro Q hQ2) (CB_of (fun j hj => by rw [hF j hj]; exact CB_at hcb j hj)) (by rw [(k1 Q hQ1).1]; exact CB_fr (hB.2.2.2.2.1 Q (by omega)) (hm _ (hrn Q hQ).1 (hrn Q hQ).2))) gM_X1_41 gI_yX3_comesBefore gS_yX3_comesBefore gN_X3 gC_yX3_comesBefore (isCr_k hrc) (σ_cr G n0 _ _ hrc) rfl dX1_take_44 hl_yX3_comesBefore ⟨Nat.le_of_ble_eq_true rfl, Nat.le_of_ble_eq_true rfl⟩ (Nat.le_of_ble_eq_true rfl) rfl (fun r3 mi3 mr3 h3 => ?_)
          obtain ⟨rfl, rfl, h3⟩ := h3
          have hvv : be5 (mi' (mr (b + 1) nn + 1)) (mi' (mr' (b + 1) Q + 1)) ↔ be5 (mi (c + 1)) (mi (mr (b + 1) Q + 1)) := by
            rw [(k1 Q hQ1).1, hm (mr (b + 1) Q + 1) (hrn Q hQ).1 (hrn Q hQ).2]
            unfold be5 sum5
            rw [hF 0 (by decide), hF 1 (by decide), hF 2 (by decide), hF 3 (by decide), hF 4 (by decide)]
          refine w_if_eq X 88 dX1_take_47 (by decide) (fun c47_4 => ?_) (fun c47_4 => ?_)
          ·
            have hst : Q + 1 = 0 ∨ ¬ be5 (mi (c + 1)) (mi (mr (b + 1) (Q + 1 - 1) + 1)) := by
              right
              intro q
              rcases h3 with ⟨q1, q2⟩ | ⟨q1, q2⟩
              · omega
              · exact q2 (hvv.mpr q)
            clear h3
            refine w_aload_n X dX1_take_88 rfl ?_
            refine w_get X (isBs_k hB.1) (σ_bs G n0 _ _ hB.1) rfl gW_X1 0 (by decide) gF_X1_11 rfl dX1_take_89 ?_
            refine w_iload X dX1_take_92 rfl ?_
            refine w_aload_n X dX1_take_94 rfl ?_
            refine s_aast X (t := 2) (Q + 1) (isBs_k1 hB.1) (isCr_k hrc) (fun _ => σ_r1 G n0 _ _ hB.1) rfl (σ_cr G n0 _ _ hrc) rfl dX1_take_95 ?_ (hz := by omega) (hj := by omega)
            refine w_aload_n X dX1_take_96 rfl ?_
            refine w_get X (isBs_k hB.1) (σ_bs G n0 _ _ hB.1) rfl gW_X1 1 (by decide) gF_X1_17 rfl dX1_take_97 ?_
            refine w_iload X dX1_take_100 rfl ?_
            refine w_iload_n X dX1_take_102 rfl ?_
            refine s_zast X (Q + 1) (isBs_k2 hB.1) (fun _ => σ_f1 G n0 _ _ hB.1) hz dX1_take_103 ?_ (hz := by omega) (hj := by omega)
            refine w_aload_n X dX1_take_104 rfl ?_
            refine w_dup X dX1_take_105 rfl ?_
            refine w_get X (isBs_k hB.1) (σ_bs G n0 _ _ hB.1) rfl gW_X1 2 (by decide) gF_X1_21 rfl dX1_take_106 ?_
            refine w_iconst X dX1_take_109 ?_
            refine w_iadd X dX1_take_110 ?_
            refine w_put X (isBs_k hB.1) (σ_bs G n0 _ _ hB.1) rfl gW_X1 tyX1 tyX1_ok nmX1 2 (by decide) gF_X1_21 rfl rfl rfl (Nat.le_of_ble_eq_true rfl) dX1_take_111 (WW.eqf (sp_bs_2 hB.1 _) ?_)
            refine w_aload_n X dX1_take_114 rfl ?_
            refine w_dup X dX1_take_115 rfl ?_
            refine w_get X (isBs_k hB.1) (σ_bs G n0 _ _ hB.1) rfl gW_X1 3 (by decide) gF_X1_25 rfl dX1_take_116 ?_
            refine w_iload_n X dX1_take_119 rfl ?_
            refine w_if_eq X 127 dX1_take_120 (by decide) (fun c120_5 => ?_) (fun c120_5 => ?_)
            ·
              have hzz : z = 0 := by omega
              refine w_iconst X dX1_take_127 ?_
              refine w_iadd X dX1_take_128 ?_
              refine w_put X (isBs_k hB.1) (σ_bs G n0 _ _ hB.1) rfl gW_X1 tyX1 tyX1_ok nmX1 3 (by decide) gF_X1_25 rfl rfl rfl (Nat.le_of_ble_eq_true rfl) dX1_take_129 (WW.eqf (sp_bs_3 hB.1 _) ?_)
              refine s_vret X hr dX1_take_132 ?_
              refine Or.inr ⟨by omega, nn, (Q + 1), hn0, hP, ?_⟩
              unfold TkP
              refine ⟨fun j hj => ⟨?_, ?_⟩, ?_, ?_, fun j hj hj2 => ⟨?_, ?_⟩, fun j hj => ?_, k4, hst, ?_, ?_, fun j hj => ?_, fun a ha ha2 ha3 => ?_, fun a ha => ?_⟩
              · rw [up2_j _ _ _ _ (Nat.ne_of_lt hj)]; exact (k1 j hj).1
              · rw [up2_k _ _ _ _ qb2, up2_k _ _ _ _ qb2, up2_j _ _ _ _ (Nat.ne_of_lt hj)]; exact (k1 j hj).2
              · rw [up2_s]
              · rw [up2_k _ _ _ _ qb2, up2_k _ _ _ _ qb2, up2_s]
              · rw [up2_j _ _ _ _ (Nat.ne_of_gt hj)]; exact (k2 j hj hj2).1
              · rw [up2_k _ _ _ _ qb2, up2_k _ _ _ _ qb2, up2_j _ _ _ _ (Nat.ne_of_gt hj)]; exact (k2 j hj hj2).2
              · rw [up2_j _ _ _ _ (Nat.ne_of_gt (Nat.lt_of_le_of_lt hP hj))]; exact k3 j hj
              · exact (up2_j _ b 3 _ (show (2 : Nat) ≠ 3 by decide)).trans ((up2_s _ b 2 _).trans (by rw [up2_k _ _ _ _ qb0, hm b qb0 qbr]))
              · exact (up2_s _ b 3 _).trans (by rw [up2_j _ b 2 _ (show (3 : Nat) ≠ 2 by decide), up2_k _ _ _ _ qb0, hm b qb0 qbr, hzz])
              · rw [up2_k _ _ _ _ qrb, up2_k _ _ _ _ qrb, up2_k _ _ _ _ qrb2]; exact hF j hj
              · rw [up2_k _ _ _ _ ha, up2_k _ _ _ _ ha, up2_k _ _ _ _ ha2]; exact hm a ha2 ha3
              · rw [up2_k _ _ _ _ ha]; exact hmr a ha
            ·
              have hzz : z = 1 := by omega
              refine w_iconst X dX1_take_123 ?_
              refine w_goto X 128 dX1_take_124 (by decide) ?_
              refine w_iadd X dX1_take_128 ?_
              refine w_put X (isBs_k hB.1) (σ_bs G n0 _ _ hB.1) rfl gW_X1 tyX1 tyX1_ok nmX1 3 (by decide) gF_X1_25 rfl rfl rfl (Nat.le_of_ble_eq_true rfl) dX1_take_129 (WW.eqf (sp_bs_3 hB.1 _) ?_)
              refine s_vret X hr dX1_take_132 ?_
              refine Or.inr ⟨by omega, nn, (Q + 1), hn0, hP, ?_⟩
              unfold TkP
              refine ⟨fun j hj => ⟨?_, ?_⟩, ?_, ?_, fun j hj hj2 => ⟨?_, ?_⟩, fun j hj => ?_, k4, hst, ?_, ?_, fun j hj => ?_, fun a ha ha2 ha3 => ?_, fun a ha => ?_⟩
              · rw [up2_j _ _ _ _ (Nat.ne_of_lt hj)]; exact (k1 j hj).1
              · rw [up2_k _ _ _ _ qb2, up2_k _ _ _ _ qb2, up2_j _ _ _ _ (Nat.ne_of_lt hj)]; exact (k1 j hj).2
              · rw [up2_s]
              · rw [up2_k _ _ _ _ qb2, up2_k _ _ _ _ qb2, up2_s]
              · rw [up2_j _ _ _ _ (Nat.ne_of_gt hj)]; exact (k2 j hj hj2).1
              · rw [up2_k _ _ _ _ qb2, up2_k _ _ _ _ qb2, up2_j _ _ _ _ (Nat.ne_of_gt hj)]; exact (k2 j hj hj2).2
              · rw [up2_j _ _ _ _ (Nat.ne_of_gt (Nat.lt_of_le_of_lt hP hj))]; exact k3 j hj
              · exact (up2_j _ b 3 _ (show (2 : Nat) ≠ 3 by decide)).trans ((up2_s _ b 2 _).trans (by rw [up2_k _ _ _ _ qb0, hm b qb0 qbr]))
              · exact (up2_s _ b 3 _).trans (by rw [up2_j _ b 2 _ (show (3 : Nat) ≠ 2 by decide), up2_k _ _ _ _ qb0, hm b qb0 qbr, hzz])
              · rw [up2_k _ _ _ _ qrb, up2_k _ _ _ _ qrb, up2_k _ _ _ _ qrb2]; exact hF j hj
              · rw [up2_k _ _ _ _ ha, up2_k _ _ _ _ ha, up2_k _ _ _ _ ha2]; exact hm a ha2 ha3
              · rw [up2_k _ _ _ _ ha]; exact hmr a ha
          ·
            have hbe : be5 (mi (c + 1)) (mi (mr (b + 1) Q + 1)) := by
              rcases h3 with ⟨q1, q2⟩ | ⟨q1, q2⟩
              · exact hvv.mp q2
              · exact absurd q1 (by assumption)
            clear h3
            have hfz : mi' (b + 2) Q = 0 ∨ mi' (b + 2) Q = 1 := by rw [(k1 Q hQ1).2]; exact hB.2.2.2.2.2.1 Q (by omega)
            refine w_aload_n X dX1_take_50 rfl ?_
            refine w_get X (isBs_k hB.1) (σ_bs G n0 _ _ hB.1) rfl gW_X1 0 (by decide) gF_X1_11 rfl dX1_take_51 ?_
            refine w_iload X dX1_take_54 rfl ?_
            refine w_aload_n X dX1_take_56 rfl ?_
            refine w_get X (isBs_k hB.1) (σ_bs G n0 _ _ hB.1) rfl gW_X1 0 (by decide) gF_X1_11 rfl dX1_take_57 ?_
            refine w_iload X dX1_take_60 rfl ?_
            refine w_iconst X dX1_take_62 ?_
            refine w_isub X dX1_take_63 ?_
            refine s_aald X (t := 2) (Q) (isBs_k1 hB.1) (σ_r1 G n0 _ _ hB.1) rfl dX1_take_64 ?_ (hz := by omega) (hj := by omega)
            refine s_aast X (t := 2) (Q + 1) (isBs_k1 hB.1) (isCr_k (hro Q hQ2)) (fun _ => σ_r1 G n0 _ _ hB.1) rfl (σ_cr G n0 _ _ (hro Q hQ2)) rfl dX1_take_65 ?_ (hz := by omega) (hj := by omega)
            refine w_aload_n X dX1_take_66 rfl ?_
            refine w_get X (isBs_k hB.1) (σ_bs G n0 _ _ hB.1) rfl gW_X1 1 (by decide) gF_X1_17 rfl dX1_take_67 ?_
            refine w_iload X dX1_take_70 rfl ?_
            refine w_aload_n X dX1_take_72 rfl ?_
            refine w_get X (isBs_k hB.1) (σ_bs G n0 _ _ hB.1) rfl gW_X1 1 (by decide) gF_X1_17 rfl dX1_take_73 ?_
            refine w_iload X dX1_take_76 rfl ?_
            refine w_iconst X dX1_take_78 ?_
            refine w_isub X dX1_take_79 ?_
            refine s_zald X (Q) (isBs_k2 hB.1) (fun _ => σ_f1 G n0 _ _ hB.1) dX1_take_80 ?_ (hz := by omega) (hj := by omega)
            refine s_zast X (Q + 1) (isBs_k2 hB.1) (fun _ => σ_f1 G n0 _ _ hB.1) hfz dX1_take_81 ?_ (hz := by omega) (hj := by omega)
            refine w_iinc5_4 X dX1_take_82 ?_
            refine w_goto X 29 dX1_take_85 (by decide) ?_
            rw [show (((Q + 1 : Nat) : Int) + -1) = (Q : Int) by omega]
            exact ih_loop Q hQn _ _ Q (by omega) (fun a ha ha2 => (up2_k _ _ _ _ ha).trans (hm a ha ha2)) (fun j hj => by rw [up2_k _ _ _ _ qrb2]; exact hF j hj) (fun a ha => (up2_k _ _ _ _ ha).trans (hmr a ha))
              (fun j hj => by rw [up2_j _ _ _ _ (by omega), up2_j _ _ _ _ (by omega)]; exact k1 j (by omega))
              (fun j hj hj2 => by
                by_cases q : j = Q + 1
                · subst q; rw [up2_s, up2_s]; exact ⟨(k1 Q hQ1).1, (k1 Q hQ1).2⟩
                · rw [up2_j _ _ _ _ q, up2_j _ _ _ _ q]; exact k2 j (by omega) hj2)
              (fun j hj => by rw [up2_j _ _ _ _ (by omega)]; exact k3 j hj)
              (fun j hj hj2 => by
                by_cases q : j = Q
                · subst q; exact hbe
                · exact k4 j (by omega) hj2)
              (fun j hj => by
                by_cases q : j = Q + 1
                · subst q; rw [up2_s]; exact hro Q hQ2
                · rw [up2_j _ _ _ _ q]; exact hro j hj) rfl
    exact loop _ mi0 mr nn (Nat.le_refl _) (fun a ha ha2 => hm0 a ha2) hF0 (fun a ha => rfl) (fun j hj => ⟨rfl, by rw [hm0 _ qr2]⟩) (fun j hj hj2 => absurd hj (by omega)) (fun j hj => rfl) (fun j hj hj2 => absurd hj (by omega)) (fun i hi => hB.cr hi) rfl
  ·
    refine s_vret X hr dX1_take_7 ?_
    rcases h1 with q | q
    · exact Or.inl ⟨q.2, rfl, rfl⟩
    · omega
end
section
/-! crowds as five numbers; least ones; what a store of bases holds as a list -/
abbrev V5 : Type := Int × Int × Int × Int × Int
def T5 (f : Nat → Int) : V5 := (f 0, f 1, f 2, f 3, f 4)
def F5 (x : V5) (j : Nat) : Int := match j with
  | 0 => x.1
  | 1 => x.2.1
  | 2 => x.2.2.1
  | 3 => x.2.2.2.1
  | 4 => x.2.2.2.2
  | _ => 0
def gv (x y : V5) : Prop := ge5 (F5 x) (F5 y)
def bv (x y : V5) : Prop := be5 (F5 x) (F5 y)
def sm (x : V5) : Int := sum5 (F5 x)
theorem F5_T5 (f : Nat → Int) {j : Nat} (h : j < 5) : F5 (T5 f) j = f j := by
  rcases (show j = 0 ∨ j = 1 ∨ j = 2 ∨ j = 3 ∨ j = 4 by omega) with rfl | rfl | rfl | rfl | rfl <;> rfl
theorem T5_c {f g : Nat → Int} (h : ∀ j, j < 5 → f j = g j) : T5 f = T5 g := by
  unfold T5
  rw [h 0 (by decide), h 1 (by decide), h 2 (by decide), h 3 (by decide), h 4 (by decide)]
theorem T5_F5 (x : V5) : T5 (F5 x) = x := rfl
theorem gv_T (f g : Nat → Int) : gv (T5 f) (T5 g) ↔ ge5 f g := Iff.rfl
theorem bv_T (f g : Nat → Int) : bv (T5 f) (T5 g) ↔ be5 f g := Iff.rfl
theorem sm_T (f : Nat → Int) : sm (T5 f) = sum5 f := rfl
theorem gv_x {x y : V5} : gv x y ↔ y.1 ≤ x.1 ∧ y.2.1 ≤ x.2.1 ∧ y.2.2.1 ≤ x.2.2.1 ∧ y.2.2.2.1 ≤ x.2.2.2.1 ∧ y.2.2.2.2 ≤ x.2.2.2.2 := Iff.rfl
theorem sm_x (x : V5) : sm x = x.1 + x.2.1 + x.2.2.1 + x.2.2.2.1 + x.2.2.2.2 := rfl
theorem v5_ext {x y : V5} (h1 : x.1 = y.1) (h2 : x.2.1 = y.2.1) (h3 : x.2.2.1 = y.2.2.1) (h4 : x.2.2.2.1 = y.2.2.2.1) (h5 : x.2.2.2.2 = y.2.2.2.2) : x = y := by
  obtain ⟨a, b, c, d, e⟩ := x
  obtain ⟨a', b', c', d', e'⟩ := y
  simp only at h1 h2 h3 h4 h5
  subst h1 h2 h3 h4 h5
  rfl
theorem gv_r (x : V5) : gv x x := by rw [gv_x]; omega
theorem gv_t {x y z : V5} (h : gv x y) (h2 : gv y z) : gv x z := by rw [gv_x] at *; omega
theorem gv_s {x y : V5} (h : gv x y) : sm y ≤ sm x := by rw [gv_x] at h; rw [sm_x, sm_x]; omega
theorem gv_e {x y : V5} (h : gv x y) (h2 : sm x ≤ sm y) : x = y := by
  rw [gv_x] at h
  rw [sm_x, sm_x] at h2
  exact v5_ext (by omega) (by omega) (by omega) (by omega) (by omega)
theorem bv_x {x y : V5} : bv x y ↔ (sm x < sm y ∨ sm x = sm y ∧ (x.1 < y.1 ∨ x.1 = y.1 ∧ (x.2.1 < y.2.1 ∨ x.2.1 = y.2.1 ∧ (x.2.2.1 < y.2.2.1 ∨ x.2.2.1 = y.2.2.1 ∧ (x.2.2.2.1 < y.2.2.2.1 ∨ x.2.2.2.1 = y.2.2.2.1 ∧ x.2.2.2.2 < y.2.2.2.2))))) := Iff.rfl
theorem bv_i (x : V5) : ¬ bv x x := by rw [bv_x]; omega
theorem bv_t {x y z : V5} (h : bv x y) (h2 : bv y z) : bv x z := by rw [bv_x] at *; omega
theorem bv_3 (x y : V5) : bv x y ∨ x = y ∨ bv y x := by
  by_cases h1 : bv x y
  · exact Or.inl h1
  · by_cases h2 : bv y x
    · exact Or.inr (Or.inr h2)
    · right; left
      rw [bv_x] at h1 h2
      exact v5_ext (by omega) (by omega) (by omega) (by omega) (by omega)
/-! least ones -/
def Mn (D : V5 → Prop) (v : V5) : Prop := D v ∧ ∀ w, D w → gv v w → w = v
/-- one that is new, of so many, and not covered is a least one, if those of fewer are covered -/
theorem Mn_new {D C : V5 → Prop} {E : V5 → Prop} {t : Int} (hG : ∀ v, D v → ∃ g, C g ∧ gv v g) (hc : ∀ g, C g → sm g < t → ∃ y, E y ∧ gv g y) {v : V5} (hv : D v) (ht : sm v = t) (hu : ∀ y, E y → ¬ gv v y) : Mn D v := by
  refine ⟨hv, fun w hw h => ?_⟩
  obtain ⟨g, hg, h2⟩ := hG w hw
  by_cases q : sm g < t
  · obtain ⟨y, hy, h3⟩ := hc g hg q
    exact absurd (gv_t (gv_t h h2) h3) (hu y hy)
  · have h4 : v = g := gv_e (gv_t h h2) (by omega)
    subst h4
    exact (gv_e h (gv_s h2)).symm
/-- all covered, and each a least one: then they are the least ones -/
theorem Mn_all {D C : V5 → Prop} {E : V5 → Prop} (hG : ∀ v, D v → ∃ g, C g ∧ gv v g) (hE : ∀ y, E y → Mn D y) (hc : ∀ g, C g → ∃ y, E y ∧ gv g y) (v : V5) : E v ↔ Mn D v := by
  refine ⟨hE v, fun h => ?_⟩
  obtain ⟨g, hg, h2⟩ := hG v h.1
  obtain ⟨y, hy, h3⟩ := hc g hg
  have := h.2 y (hE y hy).1 (gv_t h2 h3)
  rw [← this]; exact hy
/-! lists of bases -/
def Ef (mi : Nat → Nat → Int) (mr : Nat → Nat → Nat) (b : Nat) : List (V5 × Int) := (List.range (mi b 2).toNat).map (fun i => (T5 (mi (mr (b + 1) i + 1)), mi (b + 2) i))
def Srt (E : List (V5 × Int)) : Prop := E.Pairwise (fun x y => bv x.1 y.1)
theorem Ef_at {mi : Nat → Nat → Int} {mr : Nat → Nat → Nat} {b i : Nat} (h : (i : Int) < mi b 2) : (Ef mi mr b)[i]? = some (T5 (mi (mr (b + 1) i + 1)), mi (b + 2) i) := by
  unfold Ef
  rw [List.getElem?_map, List.getElem?_range (by omega)]
  rfl
theorem Ef_len {mi : Nat → Nat → Int} {mr : Nat → Nat → Nat} {b : Nat} : (Ef mi mr b).length = (mi b 2).toNat := by simp [Ef]
theorem Ef_mem {mi : Nat → Nat → Int} {mr : Nat → Nat → Nat} {b : Nat} {y : V5 × Int} : y ∈ Ef mi mr b ↔ ∃ i : Nat, (i : Int) < mi b 2 ∧ y = (T5 (mi (mr (b + 1) i + 1)), mi (b + 2) i) := by
  unfold Ef
  rw [List.mem_map]
  constructor
  · rintro ⟨i, hi, rfl⟩
    exact ⟨i, by have := List.mem_range.mp hi; omega, rfl⟩
  · rintro ⟨i, hi, rfl⟩
    exact ⟨i, List.mem_range.mpr (by omega), rfl⟩
theorem Ef_fr {mi mi' : Nat → Nat → Int} {mr mr' : Nat → Nat → Nat} {b : Nat} (hB : BO mi mr b) (h1 : ∀ a, b ≤ a → a < b + 205 → mi' a = mi a) (h2 : mr' (b + 1) = mr (b + 1)) : Ef mi' mr' b = Ef mi mr b := by
  unfold Ef
  rw [h2, h1 b (by omega) (by omega), h1 (b + 2) (by omega) (by omega)]
  apply List.map_congr_left
  intro i hi
  have hi2 := List.mem_range.mp hi
  have := hB.2.1
  have h3 := hB.2.2.1 i (by omega)
  rw [h1 _ (by omega) (by omega)]
theorem Srt_nd {E : List (V5 × Int)} (h : Srt E) : (E.map Prod.fst).Nodup := by
  unfold Srt at h
  rw [List.Nodup, List.pairwise_map]
  exact h.imp (fun {a b} (q : bv a.1 b.1) (e : a.1 = b.1) => bv_i b.1 (by rw [e] at q; exact q))
theorem take_E {mi mi9 : Nat → Nat → Int} {mr mr9 : Nat → Nat → Nat} {b c n P : Nat} {z : Int} (hB : BO mi mr b) (h : TkP mi mi9 mr mr9 b c z n P) (hn : mi b 2 = (n : Int)) (hn2 : n ≤ 100) (hP : P ≤ n) : Ef mi9 mr9 b = (Ef mi mr b).take P ++ (T5 (mi (c + 1)), z) :: (Ef mi mr b).drop P := by
  obtain ⟨h1, h2, h3, h4, h5, h6, h7, h8, h9, h10, h11, h12⟩ := h
  have hl : (Ef mi mr b).length = n := by rw [Ef_len, hn]; exact Int.toNat_natCast n
  have hrow := hB.2.2.1
  have hinj := hB.2.2.2.1
  have hold : ∀ i : Nat, i < n → mi9 (mr (b + 1) i + 1) = mi (mr (b + 1) i + 1) := fun i hi => h11 _ (by have := hrow i (by omega); omega) (by have := hrow i (by omega); omega) (fun q => by have := hinj i n (by omega) (by omega) (by omega); omega)
  have hat : ∀ i : Nat, i < n → (Ef mi mr b)[i]? = some (T5 (mi (mr (b + 1) i + 1)), mi (b + 2) i) := fun i hi => Ef_at (by omega)
  apply List.ext_getElem?
  intro i
  by_cases hi : i < n + 1
  · rw [Ef_at (mi := mi9) (mr := mr9) (by omega)]
    by_cases q : i < P
    · rw [List.getElem?_append_left (by rw [List.length_take, hl]; omega), List.getElem?_take_of_lt q, hat i (by omega), (h1 i q).1, (h1 i q).2, hold i (by omega)]
    · rw [List.getElem?_append_right (by rw [List.length_take, hl]; omega), List.length_take, hl, Nat.min_eq_left hP]
      by_cases q2 : i = P
      · subst q2
        rw [Nat.sub_self, h2, h3]
        simp only [List.getElem?_cons_zero]
        rw [T5_c h10]
      · obtain ⟨k, rfl⟩ : ∃ k, i = P + 1 + k := ⟨i - (P + 1), by omega⟩
        have g := h4 (P + 1 + k) (by omega) (by omega)
        rw [show P + 1 + k - P = k + 1 by omega, List.getElem?_cons_succ, List.getElem?_drop, hat (P + k) (by omega), g.1, g.2, show P + 1 + k - 1 = P + k by omega, hold (P + k) (by omega)]
  · rw [List.getElem?_eq_none (by rw [Ef_len]; omega), List.getElem?_eq_none (by rw [List.length_append, List.length_cons, List.length_take, List.length_drop, hl]; omega)]
theorem take_BO {mi mi9 : Nat → Nat → Int} {mr mr9 : Nat → Nat → Nat} {b c n P : Nat} {z : Int} (hB : BO mi mr b) (h : TkP mi mi9 mr mr9 b c z n P) (hn : mi b 2 = (n : Int)) (hn2 : n ≤ 100) (hP : P ≤ n) (hcb : CB mi c) (hz : z = 0 ∨ z = 1) : BO mi9 mr9 b := by
  obtain ⟨h1, h2, h3, h4, h5, h6, h7, h8, h9, h10, h11, h12⟩ := h
  obtain ⟨g1, g2, hrow, hinj, g5, g6, g7⟩ := hB
  have hold : ∀ i : Nat, i < n → mi9 (mr (b + 1) i + 1) = mi (mr (b + 1) i + 1) := fun i hi => h11 _ (by have := hrow i (by omega); omega) (by have := hrow i (by omega); omega) (fun q => by have := hinj i n (by omega) (by omega) (by omega); omega)
  -- where each place's row comes from
  have hsrc : ∀ i : Nat, i < 101 → ∃ k, k < 101 ∧ mr9 (b + 1) i = mr (b + 1) k ∧ (i < P ∧ k = i ∨ i = P ∧ k = n ∨ P < i ∧ i ≤ n ∧ k = i - 1 ∨ n < i ∧ k = i) := by
    intro i hi
    by_cases q : i < P
    · exact ⟨i, hi, (h1 i q).1, Or.inl ⟨q, rfl⟩⟩
    · by_cases q2 : i = P
      · subst q2; exact ⟨n, by omega, h2, Or.inr (Or.inl ⟨rfl, rfl⟩)⟩
      · by_cases q3 : i ≤ n
        · exact ⟨i - 1, by omega, (h4 i (by omega) q3).1, Or.inr (Or.inr (Or.inl ⟨by omega, q3, rfl⟩))⟩
        · exact ⟨i, hi, h5 i (by omega), Or.inr (Or.inr (Or.inr ⟨by omega, rfl⟩))⟩
  refine ⟨g1, by omega, fun i hi => ?_, fun i j hi hj e => ?_, fun i hi => ?_, fun i hi => ?_, by omega⟩
  · obtain ⟨k, hk, e, -⟩ := hsrc i hi
    rw [e]; exact hrow k hk
  · obtain ⟨k, hk, e1, o1⟩ := hsrc i hi
    obtain ⟨k', hk', e2, o2⟩ := hsrc j hj
    have := hinj k k' hk hk' (by rw [← e1, ← e2]; exact e)
    omega
  · rw [h8] at hi
    by_cases q : i < P
    · rw [(h1 i q).1]; exact CB_fr (g5 i (by omega)) (hold i (by omega))
    · by_cases q2 : i = P
      · subst q2; rw [h2]; exact CB_of (fun j hj => by rw [h10 j hj]; exact CB_at hcb j hj)
      · rw [(h4 i (by omega) (by omega)).1]; exact CB_fr (g5 (i - 1) (by omega)) (hold (i - 1) (by omega))
  · rw [h8] at hi
    by_cases q : i < P
    · rw [(h1 i q).2]; exact g6 i (by omega)
    · by_cases q2 : i = P
      · subst q2; rw [h3]; exact hz
      · rw [(h4 i (by omega) (by omega)).2]; exact g6 (i - 1) (by omega)
theorem take_S {mi mi9 : Nat → Nat → Int} {mr mr9 : Nat → Nat → Nat} {b c n P : Nat} {z : Int} (hB : BO mi mr b) (h : TkP mi mi9 mr mr9 b c z n P) (hn : mi b 2 = (n : Int)) (hn2 : n ≤ 100) (hP : P ≤ n) (hS : Srt (Ef mi mr b)) (hu : ∀ y ∈ Ef mi mr b, ¬ gv (T5 (mi (c + 1))) y.1) : Srt (Ef mi9 mr9 b) ∧ ∀ y, y ∈ Ef mi9 mr9 b ↔ y = (T5 (mi (c + 1)), z) ∨ y ∈ Ef mi mr b := by
  have hE := take_E hB h hn hn2 hP
  obtain ⟨h1, h2, h3, h4, h5, h6, h7, h8, h9, h10, h11, h12⟩ := h
  have hl : (Ef mi mr b).length = n := by rw [Ef_len, hn]; exact Int.toNat_natCast n
  have hat : ∀ i : Nat, i < n → (Ef mi mr b)[i]? = some (T5 (mi (mr (b + 1) i + 1)), mi (b + 2) i) := fun i hi => Ef_at (by omega)
  rw [hE]
  have hpw := hS
  unfold Srt at hpw
  rw [← List.take_append_drop P (Ef mi mr b)] at hpw
  obtain ⟨p1, p2, p3⟩ := List.pairwise_append.mp hpw
  have hd : ∀ y ∈ (Ef mi mr b).drop P, bv (T5 (mi (c + 1))) y.1 := by
    intro y hy
    obtain ⟨k, hk⟩ := List.getElem?_of_mem hy
    rw [List.getElem?_drop] at hk
    have hk2 : P + k < n := by rw [← hl]; exact (List.getElem?_eq_some_iff.mp hk).1
    rw [hat _ hk2] at hk
    cases hk
    exact (bv_T _ _).mpr (h6 (P + k) (by omega) hk2)
  have ht : ∀ y ∈ (Ef mi mr b).take P, bv y.1 (T5 (mi (c + 1))) := by
    intro y hy
    rcases h7 with h7 | h7
    · subst h7; simp at hy
    · obtain ⟨Q, rfl⟩ : ∃ Q, P = Q + 1 := by
        cases P with
        | zero => simp at hy
        | succ Q => exact ⟨Q, rfl⟩
      have hq : (T5 (mi (mr (b + 1) Q + 1)), mi (b + 2) Q) ∈ Ef mi mr b := List.mem_of_getElem? (hat Q (by omega))
      have hlast : bv (T5 (mi (mr (b + 1) Q + 1))) (T5 (mi (c + 1))) := by
        rcases bv_3 (T5 (mi (mr (b + 1) Q + 1))) (T5 (mi (c + 1))) with q | q | q
        · exact q
        · exact absurd (by rw [← q]; exact gv_r _) (hu _ hq)
        · exact absurd ((bv_T _ _).mp q) h7
      obtain ⟨k, hk⟩ := List.getElem?_of_mem hy
      have hk1 : k < Q + 1 := by
        have := (List.getElem?_eq_some_iff.mp hk).1
        rw [List.length_take] at this; omega
      rw [List.getElem?_take_of_lt hk1] at hk
      by_cases q : k = Q
      · subst q
        rw [hat k (by omega)] at hk
        cases hk
        exact hlast
      · have hlt : k < Q := by omega
        have := List.pairwise_iff_getElem.mp hS k Q (by omega) (by omega) hlt
        have e1 := (List.getElem?_eq_some_iff.mp hk).2
        have e2 := (List.getElem?_eq_some_iff.mp (hat Q (by omega))).2
        rw [e1, e2] at this
        exact bv_t this hlast
  refine ⟨?_, fun y => ?_⟩
  · unfold Srt
    rw [List.pairwise_append]
    refine ⟨p1, List.pairwise_cons.mpr ⟨hd, p2⟩, fun x hx y hy => ?_⟩
    rcases List.mem_cons.mp hy with rfl | hy
    · exact ht x hx
    · exact p3 x hx y hy
  · rw [List.mem_append, List.mem_cons]
    have : y ∈ Ef mi mr b ↔ y ∈ (Ef mi mr b).take P ∨ y ∈ (Ef mi mr b).drop P := by
      rw [← List.mem_append, List.take_append_drop]
    rw [this]
    constructor
    · rintro (h | h | h)
      · exact Or.inr (Or.inl h)
      · exact Or.inl h
      · exact Or.inr (Or.inr h)
    · rintro (h | h | h)
      · exact Or.inr (Or.inl h)
      · exact Or.inl h
      · exact Or.inr (Or.inr h)
/-- what a taking leaves, told of the list -/
def TkE (mi mi9 : Nat → Nat → Int) (mr mr9 : Nat → Nat → Nat) (b : Nat) (v : V5) (z : Int) : Prop := (100 < mi b 2 ∧ mi = mi9 ∧ mr = mr9) ∨ (mi b 2 ≤ 100 ∧ BO mi9 mr9 b ∧ Srt (Ef mi9 mr9 b) ∧ (∀ y, y ∈ Ef mi9 mr9 b ↔ y = (v, z) ∨ y ∈ Ef mi mr b) ∧ mi9 b 2 = mi b 2 + 1 ∧ mi9 b 3 = mi b 3 + z ∧ (∀ a, a < b ∨ b + 205 ≤ a → mi9 a = mi a) ∧ ∀ a, a ≠ b + 1 → mr9 a = mr a)
theorem take_A {mi mi9 : Nat → Nat → Int} {mr mr9 : Nat → Nat → Nat} {b c : Nat} {z : Int} (hB : BO mi mr b) (hz : z = 0 ∨ z = 1) (hcb : CB mi c) (hS : Srt (Ef mi mr b)) (hu : ∀ y ∈ Ef mi mr b, ¬ gv (T5 (mi (c + 1))) y.1) (h : (100 < mi b 2 ∧ mi = mi9 ∧ mr = mr9) ∨ (mi b 2 ≤ 100 ∧ ∃ n P : Nat, mi b 2 = (n : Int) ∧ P ≤ n ∧ TkP mi mi9 mr mr9 b c z n P)) : TkE mi mi9 mr mr9 b (T5 (mi (c + 1))) z := by
  rcases h with h | ⟨h0, n, P, hn, hP, hT⟩
  · exact Or.inl h
  · have hn2 : n ≤ 100 := by omega
    obtain ⟨s1, s2⟩ := take_S hB hT hn hn2 hP hS hu
    have hb := take_BO hB hT hn hn2 hP hcb hz
    obtain ⟨h1, h2, h3, h4, h5, h6, h7, h8, h9, h10, h11, h12⟩ := hT
    refine Or.inr ⟨h0, hb, s1, s2, h8, h9, fun a ha => h11 a (by omega) (by omega) ?_, h12⟩
    have := hB.2.2.1 n (by omega)
    omega
theorem cov_E {mi : Nat → Nat → Int} {mr : Nat → Nat → Nat} {b c : Nat} {r : Int} (h : r = 1 ∧ (∃ i : Nat, (i : Int) < mi b 2 ∧ ge5 (mi (c + 1)) (mi (mr (b + 1) i + 1))) ∨ r = 0 ∧ ∀ i : Nat, (i : Int) < mi b 2 → ¬ ge5 (mi (c + 1)) (mi (mr (b + 1) i + 1))) : r = 1 ∧ (∃ y ∈ Ef mi mr b, gv (T5 (mi (c + 1))) y.1) ∨ r = 0 ∧ ∀ y ∈ Ef mi mr b, ¬ gv (T5 (mi (c + 1))) y.1 := by
  rcases h with ⟨h, i, hi, hg⟩ | ⟨h, hn⟩
  · exact Or.inl ⟨h, _, Ef_mem.mpr ⟨i, hi, rfl⟩, (gv_T _ _).mpr hg⟩
  · refine Or.inr ⟨h, fun y hy hg => ?_⟩
    obtain ⟨i, hi, rfl⟩ := Ef_mem.mp hy
    exact hn i hi ((gv_T _ _).mp hg)
end
section
/-- the two stores of the search are now and next, whichever -/
def NN (mr : Nat → Nat → Nat) : Prop := mr 44 4 = 51 ∧ mr 44 5 = 256 ∨ mr 44 4 = 256 ∧ mr 44 5 = 51
theorem NN.a {mr : Nat → Nat → Nat} (h : NN mr) : isBs (mr 44 4) := by unfold NN at h; unfold isBs; omega
theorem NN.b {mr : Nat → Nat → Nat} (h : NN mr) : isBs (mr 44 5) := by unfold NN at h; unfold isBs; omega
theorem NN_fr {mr mr' : Nat → Nat → Nat} (h : NN mr) (h1 : mr' 44 = mr 44) : NN mr' := by unfold NN at *; rw [h1]; exact h
def FLr (sc : Int) (ρ u : Nat → Int) (r : Int) : Prop := (r = -9 ∧ ∃ i : Nat, (i : Int) < sc ∧ 0 < lk0 ρ u i ∧ nog sc ρ i) ∨ (r = (if ρ 4 = -9 then 1 else 2) + lks ρ u sc.toNat ∧ ∀ i : Nat, (i : Int) < sc → ¬ (0 < lk0 ρ u i ∧ nog sc ρ i))
theorem FLr_b {sc : Int} {ρ u : Nat → Int} {r : Int} (h : FLr sc ρ u r) (hs : 1 ≤ sc ∧ sc ≤ 5) (hu : ∀ j : Nat, j < 5 → 0 ≤ u j ∧ u j ≤ 1000) : -9 ≤ r ∧ r ≤ 5002 := by
  have hk := lks_b (ρ := ρ) hu sc.toNat (by omega)
  rcases h with ⟨h, -⟩ | ⟨h, -⟩
  · omega
  · have : (sc.toNat : Int) ≤ 5 := by omega
    split at h <;> omega
theorem dX0_forget_0 : decode cX0_forget 0 = .ok (.aload_n 0, 1) := by decide +kernel
theorem dX0_forget_1 : decode cX0_forget 1 = .ok (.bipush (-3), 2) := by decide +kernel
theorem dX0_forget_3 : decode cX0_forget 3 = .ok (.putfield 40, 3) := by decide +kernel
theorem dX0_forget_6 : decode cX0_forget 6 = .ok (.return_, 1) := by decide +kernel
theorem dX0_dooms_0 : decode cX0_dooms 0 = .ok (.aload_n 0, 1) := by decide +kernel
theorem dX0_dooms_1 : decode cX0_dooms 1 = .ok (.getfield 33, 3) := by decide +kernel
theorem dX0_dooms_4 : decode cX0_dooms 4 = .ok (.aload_n 1, 1) := by decide +kernel
theorem dX0_dooms_5 : decode cX0_dooms 5 = .ok (.invokevirtual 48, 3) := by decide +kernel
theorem dX0_dooms_8 : decode cX0_dooms 8 = .ok (.ireturn, 1) := by decide +kernel
theorem dX0_leastFromStart_0 : decode cX0_leastFromStart 0 = .ok (.iconst 0, 1) := by decide +kernel
theorem dX0_leastFromStart_1 : decode cX0_leastFromStart 1 = .ok (.istore_n 1, 1) := by decide +kernel
theorem dX0_leastFromStart_2 : decode cX0_leastFromStart 2 = .ok (.iload_n 1, 1) := by decide +kernel
theorem dX0_leastFromStart_3 : decode cX0_leastFromStart 3 = .ok (.aload_n 0, 1) := by decide +kernel
theorem dX0_leastFromStart_4 : decode cX0_leastFromStart 4 = .ok (.getfield 33, 3) := by decide +kernel
theorem dX0_leastFromStart_7 : decode cX0_leastFromStart 7 = .ok (.getfield 52, 3) := by decide +kernel
theorem dX0_leastFromStart_10 : decode cX0_leastFromStart 10 = .ok (.if_icmp .ge 41, 3) := by decide +kernel
theorem dX0_leastFromStart_13 : decode cX0_leastFromStart 13 = .ok (.aload_n 0, 1) := by decide +kernel
theorem dX0_leastFromStart_14 : decode cX0_leastFromStart 14 = .ok (.getfield 44, 3) := by decide +kernel
theorem dX0_leastFromStart_17 : decode cX0_leastFromStart 17 = .ok (.aload_n 0, 1) := by decide +kernel
theorem dX0_leastFromStart_18 : decode cX0_leastFromStart 18 = .ok (.getfield 33, 3) := by decide +kernel
theorem dX0_leastFromStart_21 : decode cX0_leastFromStart 21 = .ok (.getfield 55, 3) := by decide +kernel
theorem dX0_leastFromStart_24 : decode cX0_leastFromStart 24 = .ok (.iload_n 1, 1) := by decide +kernel
theorem dX0_leastFromStart_25 : decode cX0_leastFromStart 25 = .ok (.aaload, 1) := by decide +kernel
theorem dX0_leastFromStart_26 : decode cX0_leastFromStart 26 = .ok (.invokevirtual 59, 3) := by decide +kernel
theorem dX0_leastFromStart_29 : decode cX0_leastFromStart 29 = .ok (.ifCond .eq 16, 3) := by decide +kernel
theorem dX0_leastFromStart_32 : decode cX0_leastFromStart 32 = .ok (.aload_n 0, 1) := by decide +kernel
theorem dX0_leastFromStart_33 : decode cX0_leastFromStart 33 = .ok (.getfield 33, 3) := by decide +kernel
theorem dX0_leastFromStart_36 : decode cX0_leastFromStart 36 = .ok (.getfield 55, 3) := by decide +kernel
theorem dX0_leastFromStart_39 : decode cX0_leastFromStart 39 = .ok (.iload_n 1, 1) := by decide +kernel
theorem dX0_leastFromStart_40 : decode cX0_leastFromStart 40 = .ok (.aaload, 1) := by decide +kernel
theorem dX0_leastFromStart_41 : decode cX0_leastFromStart 41 = .ok (.invokevirtual 64, 3) := by decide +kernel
theorem dX0_leastFromStart_44 : decode cX0_leastFromStart 44 = .ok (.ireturn, 1) := by decide +kernel
theorem dX0_leastFromStart_45 : decode cX0_leastFromStart 45 = .ok (.iinc 1 1, 3) := by decide +kernel
theorem dX0_leastFromStart_48 : decode cX0_leastFromStart 48 = .ok (.goto (-46), 3) := by decide +kernel
theorem dX0_leastFromStart_51 : decode cX0_leastFromStart 51 = .ok (.bipush (-9), 2) := by decide +kernel
theorem dX0_leastFromStart_53 : decode cX0_leastFromStart 53 = .ok (.ireturn, 1) := by decide +kernel
theorem dX0_setOut_0 : decode cX0_setOut 0 = .ok (.aload_n 1, 1) := by decide +kernel
theorem dX0_setOut_1 : decode cX0_setOut 1 = .ok (.aload_n 2, 1) := by decide +kernel
theorem dX0_setOut_2 : decode cX0_setOut 2 = .ok (.aload_n 0, 1) := by decide +kernel
theorem dX0_setOut_3 : decode cX0_setOut 3 = .ok (.getfield 44, 3) := by decide +kernel
theorem dX0_setOut_6 : decode cX0_setOut 6 = .ok (.getfield 117, 3) := by decide +kernel
theorem dX0_setOut_9 : decode cX0_setOut 9 = .ok (.aload_n 0, 1) := by decide +kernel
theorem dX0_setOut_10 : decode cX0_setOut 10 = .ok (.getfield 23, 3) := by decide +kernel
theorem dX0_setOut_13 : decode cX0_setOut 13 = .ok (.invokevirtual 120, 3) := by decide +kernel
theorem dX0_setOut_16 : decode cX0_setOut 16 = .ok (.pop, 1) := by decide +kernel
theorem dX0_setOut_17 : decode cX0_setOut 17 = .ok (.aload_n 0, 1) := by decide +kernel
theorem dX0_setOut_18 : decode cX0_setOut 18 = .ok (.getfield 27, 3) := by decide +kernel
theorem dX0_setOut_21 : decode cX0_setOut 21 = .ok (.invokevirtual 145, 3) := by decide +kernel
theorem dX0_setOut_24 : decode cX0_setOut 24 = .ok (.aload_n 0, 1) := by decide +kernel
theorem dX0_setOut_25 : decode cX0_setOut 25 = .ok (.getfield 27, 3) := by decide +kernel
theorem dX0_setOut_28 : decode cX0_setOut 28 = .ok (.aload_n 1, 1) := by decide +kernel
theorem dX0_setOut_29 : decode cX0_setOut 29 = .ok (.getfield 146, 3) := by decide +kernel
theorem dX0_setOut_32 : decode cX0_setOut 32 = .ok (.iconst 1, 1) := by decide +kernel
theorem dX0_setOut_33 : decode cX0_setOut 33 = .ok (.invokevirtual 149, 3) := by decide +kernel
theorem dX0_setOut_36 : decode cX0_setOut 36 = .ok (.aload_n 0, 1) := by decide +kernel
theorem dX0_setOut_37 : decode cX0_setOut 37 = .ok (.getfield 27, 3) := by decide +kernel
theorem dX0_setOut_40 : decode cX0_setOut 40 = .ok (.aload_n 1, 1) := by decide +kernel
theorem dX0_setOut_41 : decode cX0_setOut 41 = .ok (.getfield 153, 3) := by decide +kernel
theorem dX0_setOut_44 : decode cX0_setOut 44 = .ok (.iconst 1, 1) := by decide +kernel
theorem dX0_setOut_45 : decode cX0_setOut 45 = .ok (.invokevirtual 149, 3) := by decide +kernel
theorem dX0_setOut_48 : decode cX0_setOut 48 = .ok (.aload_n 0, 1) := by decide +kernel
theorem dX0_setOut_49 : decode cX0_setOut 49 = .ok (.getfield 27, 3) := by decide +kernel
theorem dX0_setOut_52 : decode cX0_setOut 52 = .ok (.aload_n 1, 1) := by decide +kernel
theorem dX0_setOut_53 : decode cX0_setOut 53 = .ok (.getfield 156, 3) := by decide +kernel
theorem dX0_setOut_56 : decode cX0_setOut 56 = .ok (.iconst 1, 1) := by decide +kernel
theorem dX0_setOut_57 : decode cX0_setOut 57 = .ok (.invokevirtual 149, 3) := by decide +kernel
theorem dX0_setOut_60 : decode cX0_setOut 60 = .ok (.aload_n 0, 1) := by decide +kernel
theorem dX0_setOut_61 : decode cX0_setOut 61 = .ok (.getfield 23, 3) := by decide +kernel
theorem dX0_setOut_64 : decode cX0_setOut 64 = .ok (.aload_n 1, 1) := by decide +kernel
theorem dX0_setOut_65 : decode cX0_setOut 65 = .ok (.aload_n 1, 1) := by decide +kernel
theorem dX0_setOut_66 : decode cX0_setOut 66 = .ok (.getfield 156, 3) := by decide +kernel
theorem dX0_setOut_69 : decode cX0_setOut 69 = .ok (.invokevirtual 159, 3) := by decide +kernel
theorem dX0_setOut_72 : decode cX0_setOut 72 = .ok (.iconst (-1), 1) := by decide +kernel
theorem dX0_setOut_73 : decode cX0_setOut 73 = .ok (.invokevirtual 149, 3) := by decide +kernel
theorem dX0_setOut_76 : decode cX0_setOut 76 = .ok (.return_, 1) := by decide +kernel
theorem dX0_findSums_0 : decode cX0_findSums 0 = .ok (.iconst 0, 1) := by decide +kernel
theorem dX0_findSums_1 : decode cX0_findSums 1 = .ok (.istore_n 1, 1) := by decide +kernel
theorem dX0_findSums_2 : decode cX0_findSums 2 = .ok (.iconst 0, 1) := by decide +kernel
theorem dX0_findSums_3 : decode cX0_findSums 3 = .ok (.istore_n 2, 1) := by decide +kernel
theorem dX0_findSums_4 : decode cX0_findSums 4 = .ok (.iload_n 2, 1) := by decide +kernel
theorem dX0_findSums_5 : decode cX0_findSums 5 = .ok (.aload_n 0, 1) := by decide +kernel
theorem dX0_findSums_6 : decode cX0_findSums 6 = .ok (.getfield 33, 3) := by decide +kernel
theorem dX0_findSums_9 : decode cX0_findSums 9 = .ok (.getfield 52, 3) := by decide +kernel
theorem dX0_findSums_12 : decode cX0_findSums 12 = .ok (.if_icmp .ge 97, 3) := by decide +kernel
theorem dX0_findSums_15 : decode cX0_findSums 15 = .ok (.iload_n 1, 1) := by decide +kernel
theorem dX0_findSums_16 : decode cX0_findSums 16 = .ok (.aload_n 0, 1) := by decide +kernel
theorem dX0_findSums_17 : decode cX0_findSums 17 = .ok (.getfield 33, 3) := by decide +kernel
theorem dX0_findSums_20 : decode cX0_findSums 20 = .ok (.getfield 55, 3) := by decide +kernel
theorem dX0_findSums_23 : decode cX0_findSums 23 = .ok (.iload_n 2, 1) := by decide +kernel
theorem dX0_findSums_24 : decode cX0_findSums 24 = .ok (.aaload, 1) := by decide +kernel
theorem dX0_findSums_25 : decode cX0_findSums 25 = .ok (.invokevirtual 64, 3) := by decide +kernel
theorem dX0_findSums_28 : decode cX0_findSums 28 = .ok (.invokestatic 104, 3) := by decide +kernel
theorem dX0_findSums_31 : decode cX0_findSums 31 = .ok (.istore_n 1, 1) := by decide +kernel
theorem dX0_findSums_32 : decode cX0_findSums 32 = .ok (.iconst 0, 1) := by decide +kernel
theorem dX0_findSums_33 : decode cX0_findSums 33 = .ok (.istore_n 3, 1) := by decide +kernel
theorem dX0_findSums_34 : decode cX0_findSums 34 = .ok (.iload_n 3, 1) := by decide +kernel
theorem dX0_findSums_35 : decode cX0_findSums 35 = .ok (.aload_n 0, 1) := by decide +kernel
theorem dX0_findSums_36 : decode cX0_findSums 36 = .ok (.getfield 44, 3) := by decide +kernel
theorem dX0_findSums_39 : decode cX0_findSums 39 = .ok (.getfield 110, 3) := by decide +kernel
theorem dX0_findSums_42 : decode cX0_findSums 42 = .ok (.if_icmp .ge 61, 3) := by decide +kernel
theorem dX0_findSums_45 : decode cX0_findSums 45 = .ok (.aload_n 0, 1) := by decide +kernel
theorem dX0_findSums_46 : decode cX0_findSums 46 = .ok (.getfield 44, 3) := by decide +kernel
theorem dX0_findSums_49 : decode cX0_findSums 49 = .ok (.getfield 113, 3) := by decide +kernel
theorem dX0_findSums_52 : decode cX0_findSums 52 = .ok (.iload_n 3, 1) := by decide +kernel
theorem dX0_findSums_53 : decode cX0_findSums 53 = .ok (.aaload, 1) := by decide +kernel
theorem dX0_findSums_54 : decode cX0_findSums 54 = .ok (.aload_n 0, 1) := by decide +kernel
theorem dX0_findSums_55 : decode cX0_findSums 55 = .ok (.getfield 33, 3) := by decide +kernel
theorem dX0_findSums_58 : decode cX0_findSums 58 = .ok (.getfield 55, 3) := by decide +kernel
theorem dX0_findSums_61 : decode cX0_findSums 61 = .ok (.iload_n 2, 1) := by decide +kernel
theorem dX0_findSums_62 : decode cX0_findSums 62 = .ok (.aaload, 1) := by decide +kernel
theorem dX0_findSums_63 : decode cX0_findSums 63 = .ok (.aload_n 0, 1) := by decide +kernel
theorem dX0_findSums_64 : decode cX0_findSums 64 = .ok (.getfield 44, 3) := by decide +kernel
theorem dX0_findSums_67 : decode cX0_findSums 67 = .ok (.getfield 117, 3) := by decide +kernel
theorem dX0_findSums_70 : decode cX0_findSums 70 = .ok (.aload_n 0, 1) := by decide +kernel
theorem dX0_findSums_71 : decode cX0_findSums 71 = .ok (.getfield 23, 3) := by decide +kernel
theorem dX0_findSums_74 : decode cX0_findSums 74 = .ok (.invokevirtual 120, 3) := by decide +kernel
theorem dX0_findSums_77 : decode cX0_findSums 77 = .ok (.istore 4, 2) := by decide +kernel
theorem dX0_findSums_79 : decode cX0_findSums 79 = .ok (.iload_n 1, 1) := by decide +kernel
theorem dX0_findSums_80 : decode cX0_findSums 80 = .ok (.iload 4, 2) := by decide +kernel
theorem dX0_findSums_82 : decode cX0_findSums 82 = .ok (.invokestatic 104, 3) := by decide +kernel
theorem dX0_findSums_85 : decode cX0_findSums 85 = .ok (.istore_n 1, 1) := by decide +kernel
theorem dX0_findSums_86 : decode cX0_findSums 86 = .ok (.aload_n 0, 1) := by decide +kernel
theorem dX0_findSums_87 : decode cX0_findSums 87 = .ok (.getfield 14, 3) := by decide +kernel
theorem dX0_findSums_90 : decode cX0_findSums 90 = .ok (.iload_n 2, 1) := by decide +kernel
theorem dX0_findSums_91 : decode cX0_findSums 91 = .ok (.iload_n 3, 1) := by decide +kernel
theorem dX0_findSums_92 : decode cX0_findSums 92 = .ok (.iload 4, 2) := by decide +kernel
theorem dX0_findSums_94 : decode cX0_findSums 94 = .ok (.invokevirtual 126, 3) := by decide +kernel
theorem dX0_findSums_97 : decode cX0_findSums 97 = .ok (.iinc 3 1, 3) := by decide +kernel
theorem dX0_findSums_100 : decode cX0_findSums 100 = .ok (.goto (-66), 3) := by decide +kernel
theorem dX0_findSums_103 : decode cX0_findSums 103 = .ok (.iinc 2 1, 3) := by decide +kernel
theorem dX0_findSums_106 : decode cX0_findSums 106 = .ok (.goto (-102), 3) := by decide +kernel
theorem dX0_findSums_109 : decode cX0_findSums 109 = .ok (.iload_n 1, 1) := by decide +kernel
theorem dX0_findSums_110 : decode cX0_findSums 110 = .ok (.ireturn, 1) := by decide +kernel
theorem dX0_keepOld_0 : decode cX0_keepOld 0 = .ok (.iconst 0, 1) := by decide +kernel
theorem dX0_keepOld_1 : decode cX0_keepOld 1 = .ok (.istore_n 2, 1) := by decide +kernel
theorem dX0_keepOld_2 : decode cX0_keepOld 2 = .ok (.iload_n 2, 1) := by decide +kernel
theorem dX0_keepOld_3 : decode cX0_keepOld 3 = .ok (.aload_n 0, 1) := by decide +kernel
theorem dX0_keepOld_4 : decode cX0_keepOld 4 = .ok (.getfield 33, 3) := by decide +kernel
theorem dX0_keepOld_7 : decode cX0_keepOld 7 = .ok (.getfield 52, 3) := by decide +kernel
theorem dX0_keepOld_10 : decode cX0_keepOld 10 = .ok (.if_icmp .ge 61, 3) := by decide +kernel
theorem dX0_keepOld_13 : decode cX0_keepOld 13 = .ok (.aload_n 0, 1) := by decide +kernel
theorem dX0_keepOld_14 : decode cX0_keepOld 14 = .ok (.getfield 33, 3) := by decide +kernel
theorem dX0_keepOld_17 : decode cX0_keepOld 17 = .ok (.getfield 55, 3) := by decide +kernel
theorem dX0_keepOld_20 : decode cX0_keepOld 20 = .ok (.iload_n 2, 1) := by decide +kernel
theorem dX0_keepOld_21 : decode cX0_keepOld 21 = .ok (.aaload, 1) := by decide +kernel
theorem dX0_keepOld_22 : decode cX0_keepOld 22 = .ok (.invokevirtual 64, 3) := by decide +kernel
theorem dX0_keepOld_25 : decode cX0_keepOld 25 = .ok (.iload_n 1, 1) := by decide +kernel
theorem dX0_keepOld_26 : decode cX0_keepOld 26 = .ok (.if_icmp .ne 39, 3) := by decide +kernel
theorem dX0_keepOld_29 : decode cX0_keepOld 29 = .ok (.aload_n 0, 1) := by decide +kernel
theorem dX0_keepOld_30 : decode cX0_keepOld 30 = .ok (.getfield 37, 3) := by decide +kernel
theorem dX0_keepOld_33 : decode cX0_keepOld 33 = .ok (.aload_n 0, 1) := by decide +kernel
theorem dX0_keepOld_34 : decode cX0_keepOld 34 = .ok (.getfield 33, 3) := by decide +kernel
theorem dX0_keepOld_37 : decode cX0_keepOld 37 = .ok (.getfield 55, 3) := by decide +kernel
theorem dX0_keepOld_40 : decode cX0_keepOld 40 = .ok (.iload_n 2, 1) := by decide +kernel
theorem dX0_keepOld_41 : decode cX0_keepOld 41 = .ok (.aaload, 1) := by decide +kernel
theorem dX0_keepOld_42 : decode cX0_keepOld 42 = .ok (.invokevirtual 48, 3) := by decide +kernel
theorem dX0_keepOld_45 : decode cX0_keepOld 45 = .ok (.ifCond .ne 20, 3) := by decide +kernel
theorem dX0_keepOld_48 : decode cX0_keepOld 48 = .ok (.aload_n 0, 1) := by decide +kernel
theorem dX0_keepOld_49 : decode cX0_keepOld 49 = .ok (.getfield 37, 3) := by decide +kernel
theorem dX0_keepOld_52 : decode cX0_keepOld 52 = .ok (.aload_n 0, 1) := by decide +kernel
theorem dX0_keepOld_53 : decode cX0_keepOld 53 = .ok (.getfield 33, 3) := by decide +kernel
theorem dX0_keepOld_56 : decode cX0_keepOld 56 = .ok (.getfield 55, 3) := by decide +kernel
theorem dX0_keepOld_59 : decode cX0_keepOld 59 = .ok (.iload_n 2, 1) := by decide +kernel
theorem dX0_keepOld_60 : decode cX0_keepOld 60 = .ok (.aaload, 1) := by decide +kernel
theorem dX0_keepOld_61 : decode cX0_keepOld 61 = .ok (.iconst 0, 1) := by decide +kernel
theorem dX0_keepOld_62 : decode cX0_keepOld 62 = .ok (.invokevirtual 90, 3) := by decide +kernel
theorem dX0_keepOld_65 : decode cX0_keepOld 65 = .ok (.iinc 2 1, 3) := by decide +kernel
theorem dX0_keepOld_68 : decode cX0_keepOld 68 = .ok (.goto (-66), 3) := by decide +kernel
theorem dX0_keepOld_71 : decode cX0_keepOld 71 = .ok (.return_, 1) := by decide +kernel
theorem dX0_takeBadOnes_0 : decode cX0_takeBadOnes 0 = .ok (.aload_n 0, 1) := by decide +kernel
theorem dX0_takeBadOnes_1 : decode cX0_takeBadOnes 1 = .ok (.getfield 33, 3) := by decide +kernel
theorem dX0_takeBadOnes_4 : decode cX0_takeBadOnes 4 = .ok (.invokevirtual 81, 3) := by decide +kernel
theorem dX0_takeBadOnes_7 : decode cX0_takeBadOnes 7 = .ok (.iconst 1, 1) := by decide +kernel
theorem dX0_takeBadOnes_8 : decode cX0_takeBadOnes 8 = .ok (.istore_n 1, 1) := by decide +kernel
theorem dX0_takeBadOnes_9 : decode cX0_takeBadOnes 9 = .ok (.iload_n 1, 1) := by decide +kernel
theorem dX0_takeBadOnes_10 : decode cX0_takeBadOnes 10 = .ok (.bipush 45, 2) := by decide +kernel
theorem dX0_takeBadOnes_12 : decode cX0_takeBadOnes 12 = .ok (.if_icmp .gt 80, 3) := by decide +kernel
theorem dX0_takeBadOnes_15 : decode cX0_takeBadOnes 15 = .ok (.iconst 0, 1) := by decide +kernel
theorem dX0_takeBadOnes_16 : decode cX0_takeBadOnes 16 = .ok (.istore_n 2, 1) := by decide +kernel
theorem dX0_takeBadOnes_17 : decode cX0_takeBadOnes 17 = .ok (.iload_n 2, 1) := by decide +kernel
theorem dX0_takeBadOnes_18 : decode cX0_takeBadOnes 18 = .ok (.aload_n 0, 1) := by decide +kernel
theorem dX0_takeBadOnes_19 : decode cX0_takeBadOnes 19 = .ok (.getfield 44, 3) := by decide +kernel
theorem dX0_takeBadOnes_22 : decode cX0_takeBadOnes 22 = .ok (.getfield 84, 3) := by decide +kernel
theorem dX0_takeBadOnes_25 : decode cX0_takeBadOnes 25 = .ok (.if_icmp .ge 61, 3) := by decide +kernel
theorem dX0_takeBadOnes_28 : decode cX0_takeBadOnes 28 = .ok (.aload_n 0, 1) := by decide +kernel
theorem dX0_takeBadOnes_29 : decode cX0_takeBadOnes 29 = .ok (.getfield 44, 3) := by decide +kernel
theorem dX0_takeBadOnes_32 : decode cX0_takeBadOnes 32 = .ok (.getfield 87, 3) := by decide +kernel
theorem dX0_takeBadOnes_35 : decode cX0_takeBadOnes 35 = .ok (.iload_n 2, 1) := by decide +kernel
theorem dX0_takeBadOnes_36 : decode cX0_takeBadOnes 36 = .ok (.aaload, 1) := by decide +kernel
theorem dX0_takeBadOnes_37 : decode cX0_takeBadOnes 37 = .ok (.invokevirtual 64, 3) := by decide +kernel
theorem dX0_takeBadOnes_40 : decode cX0_takeBadOnes 40 = .ok (.iload_n 1, 1) := by decide +kernel
theorem dX0_takeBadOnes_41 : decode cX0_takeBadOnes 41 = .ok (.if_icmp .ne 39, 3) := by decide +kernel
theorem dX0_takeBadOnes_44 : decode cX0_takeBadOnes 44 = .ok (.aload_n 0, 1) := by decide +kernel
theorem dX0_takeBadOnes_45 : decode cX0_takeBadOnes 45 = .ok (.getfield 33, 3) := by decide +kernel
theorem dX0_takeBadOnes_48 : decode cX0_takeBadOnes 48 = .ok (.aload_n 0, 1) := by decide +kernel
theorem dX0_takeBadOnes_49 : decode cX0_takeBadOnes 49 = .ok (.getfield 44, 3) := by decide +kernel
theorem dX0_takeBadOnes_52 : decode cX0_takeBadOnes 52 = .ok (.getfield 87, 3) := by decide +kernel
theorem dX0_takeBadOnes_55 : decode cX0_takeBadOnes 55 = .ok (.iload_n 2, 1) := by decide +kernel
theorem dX0_takeBadOnes_56 : decode cX0_takeBadOnes 56 = .ok (.aaload, 1) := by decide +kernel
theorem dX0_takeBadOnes_57 : decode cX0_takeBadOnes 57 = .ok (.invokevirtual 48, 3) := by decide +kernel
theorem dX0_takeBadOnes_60 : decode cX0_takeBadOnes 60 = .ok (.ifCond .ne 20, 3) := by decide +kernel
theorem dX0_takeBadOnes_63 : decode cX0_takeBadOnes 63 = .ok (.aload_n 0, 1) := by decide +kernel
theorem dX0_takeBadOnes_64 : decode cX0_takeBadOnes 64 = .ok (.getfield 33, 3) := by decide +kernel
theorem dX0_takeBadOnes_67 : decode cX0_takeBadOnes 67 = .ok (.aload_n 0, 1) := by decide +kernel
theorem dX0_takeBadOnes_68 : decode cX0_takeBadOnes 68 = .ok (.getfield 44, 3) := by decide +kernel
theorem dX0_takeBadOnes_71 : decode cX0_takeBadOnes 71 = .ok (.getfield 87, 3) := by decide +kernel
theorem dX0_takeBadOnes_74 : decode cX0_takeBadOnes 74 = .ok (.iload_n 2, 1) := by decide +kernel
theorem dX0_takeBadOnes_75 : decode cX0_takeBadOnes 75 = .ok (.aaload, 1) := by decide +kernel
theorem dX0_takeBadOnes_76 : decode cX0_takeBadOnes 76 = .ok (.iconst 1, 1) := by decide +kernel
theorem dX0_takeBadOnes_77 : decode cX0_takeBadOnes 77 = .ok (.invokevirtual 90, 3) := by decide +kernel
theorem dX0_takeBadOnes_80 : decode cX0_takeBadOnes 80 = .ok (.iinc 2 1, 3) := by decide +kernel
theorem dX0_takeBadOnes_83 : decode cX0_takeBadOnes 83 = .ok (.goto (-66), 3) := by decide +kernel
theorem dX0_takeBadOnes_86 : decode cX0_takeBadOnes 86 = .ok (.iinc 1 1, 3) := by decide +kernel
theorem dX0_takeBadOnes_89 : decode cX0_takeBadOnes 89 = .ok (.goto (-80), 3) := by decide +kernel
theorem dX0_takeBadOnes_92 : decode cX0_takeBadOnes 92 = .ok (.return_, 1) := by decide +kernel
theorem hl_yX0_forget : (yX0_forget.cls ≠ "java/lang/invoke/MethodHandle" ∧ yX0_forget.cls ≠ "java/lang/invoke/VarHandle") ∧ (parseMethodDescriptor yX0_forget.desc).map (fun d => d.parameters.length) = some 0 := by decide +kernel
theorem hl_yX0_dooms : (yX0_dooms.cls ≠ "java/lang/invoke/MethodHandle" ∧ yX0_dooms.cls ≠ "java/lang/invoke/VarHandle") ∧ (parseMethodDescriptor yX0_dooms.desc).map (fun d => d.parameters.length) = some 1 := by decide +kernel
theorem hl_yX0_leastFromStart : (yX0_leastFromStart.cls ≠ "java/lang/invoke/MethodHandle" ∧ yX0_leastFromStart.cls ≠ "java/lang/invoke/VarHandle") ∧ (parseMethodDescriptor yX0_leastFromStart.desc).map (fun d => d.parameters.length) = some 0 := by decide +kernel
theorem hl_yX0_setOut : (yX0_setOut.cls ≠ "java/lang/invoke/MethodHandle" ∧ yX0_setOut.cls ≠ "java/lang/invoke/VarHandle") ∧ (parseMethodDescriptor yX0_setOut.desc).map (fun d => d.parameters.length) = some 2 := by decide +kernel
theorem hl_yX0_findSums : (yX0_findSums.cls ≠ "java/lang/invoke/MethodHandle" ∧ yX0_findSums.cls ≠ "java/lang/invoke/VarHandle") ∧ (parseMethodDescriptor yX0_findSums.desc).map (fun d => d.parameters.length) = some 0 := by decide +kernel
theorem hl_yX0_keepOld : (yX0_keepOld.cls ≠ "java/lang/invoke/MethodHandle" ∧ yX0_keepOld.cls ≠ "java/lang/invoke/VarHandle") ∧ (parseMethodDescriptor yX0_keepOld.desc).map (fun d => d.parameters.length) = some 1 := by decide +kernel
theorem hl_yX0_takeBadOnes : (yX0_takeBadOnes.cls ≠ "java/lang/invoke/MethodHandle" ∧ yX0_takeBadOnes.cls ≠ "java/lang/invoke/VarHandle") ∧ (parseMethodDescriptor yX0_takeBadOnes.desc).map (fun d => d.parameters.length) = some 0 := by decide +kernel
set_option maxRecDepth 20000 in
set_option maxHeartbeats 4000000 in
theorem c_X0_forget {l : Launch} {G : Gt} {n0 : Nat} {mi : Nat → Nat → Int} {mr : Nat → Nat → Nat}  : Cv l yX0_forget cX0_forget 1 1 G n0 [.ref (n0 + 44)] mi mr (fun mi9 mr9 => up2 mi 44 6 (-3) = mi9 ∧ mr = mr9) := by
  refine Ct_of (by decide +kernel) (by intro v hv; simp at hv; rcases hv with rfl <;> rfl) (Nat.le_of_ble_eq_true rfl) ?_
  intro p e s m args below meth c9 X hr hname
  show WW _ _ _ _ _ _ _ _ _ _ _ _ _ _ _ _ _ _ _ [some (.ref (n0 + 44))] _
  refine w_aload_n X dX0_forget_0 rfl ?_
  refine w_bipush X dX0_forget_1 rfl ?_
  refine w_put X (by decide) (σ_44 G n0 _ _) rfl gW_X0 tyX0 tyX0_ok nmX0 6 (by decide) gF_X0_40 rfl rfl rfl (Nat.le_of_ble_eq_true rfl) dX0_forget_3 (WW.eqf (sp_44_6 _) ?_)
  refine s_vret X hr dX0_forget_6 ?_
  exact ⟨rfl, rfl⟩
set_option maxRecDepth 20000 in
set_option maxHeartbeats 4000000 in
theorem c_X0_dooms {l : Launch} {G : Gt} {n0 : Nat} {mi : Nat → Nat → Int} {mr : Nat → Nat → Nat} (hNN : NN mr) {c : Nat} (hB : BO mi mr (mr 44 4)) (hc : isCr c) (hcb : CB mi c) : Ci l yX0_dooms cX0_dooms 2 .boolean 4 G n0 [.ref (n0 + 44), .ref (n0 + c)] mi mr (fun r9 mi9 mr9 => mi = mi9 ∧ mr = mr9 ∧ (r9 = 1 ∧ (∃ y ∈ Ef mi mr (mr 44 4), gv (T5 (mi (c + 1))) y.1) ∨ r9 = 0 ∧ ∀ y ∈ Ef mi mr (mr 44 4), ¬ gv (T5 (mi (c + 1))) y.1)) := by
  refine Ct_of (by decide +kernel) (by intro v hv; simp at hv; rcases hv with rfl | rfl <;> rfl) (Nat.le_of_ble_eq_true rfl) ?_
  intro p e s m args below meth c9 X hr hname
  show WW _ _ _ _ _ _ _ _ _ _ _ _ _ _ _ _ _ _ _ [some (.ref (n0 + 44)), some (.ref (n0 + c))] _
  refine w_aload_n X dX0_dooms_0 rfl ?_
  refine w_get X (by decide) (σ_44 G n0 _ _) rfl gW_X0 4 (by decide) gF_X0_33 rfl dX0_dooms_1 ?_
  refine w_aload_n X dX0_dooms_4 rfl ?_
  refine s_callVi X _ (c_X1_cover (l := l) (G := G) (n0 := n0) hB hc hcb) gM_X0_48 gI_yX1_cover gS_yX1_cover gN_X1 gC_yX1_cover (isBs_k hNN.a) (σ_bs G n0 _ _ hNN.a) rfl dX0_dooms_5 hl_yX1_cover ⟨Nat.le_of_ble_eq_true rfl, Nat.le_of_ble_eq_true rfl⟩ (Nat.le_of_ble_eq_true rfl) rfl (fun r1 mi1 mr1 h1 => ?_)
  obtain ⟨rfl, rfl, h1⟩ := h1
  refine s_zret X hr dX0_dooms_8 (by rcases h1 with q | q; exact Or.inr q.1; exact Or.inl q.1) ?_
  exact ⟨rfl, rfl, cov_E h1⟩
set_option maxRecDepth 20000 in
set_option maxHeartbeats 4000000 in
theorem c_X0_leastFromStart {l : Launch} {G : Gt} {n0 : Nat} {mi : Nat → Nat → Int} {mr : Nat → Nat → Nat} (hNN : NN mr) (hL : LW mi) (hB : BO mi mr (mr 44 4)) : Ci l yX0_leastFromStart cX0_leastFromStart 2 .int 3 G n0 [.ref (n0 + 44)] mi mr (fun r9 mi9 mr9 => mi = mi9 ∧ mr = mr9 ∧ ((r9 = -9 ∧ ∀ i : Nat, (i : Int) < mi (mr 44 4) 2 → ¬ inst (mi 1 4) (mi (mr (mr 44 4 + 1) i + 1)) (mi 1 3)) ∨ ∃ i : Nat, (i : Int) < mi (mr 44 4) 2 ∧ inst (mi 1 4) (mi (mr (mr 44 4 + 1) i + 1)) (mi 1 3) ∧ (∀ j : Nat, j < i → ¬ inst (mi 1 4) (mi (mr (mr 44 4 + 1) j + 1)) (mi 1 3)) ∧ r9 = sum5 (mi (mr (mr 44 4 + 1) i + 1)))) := by
  refine Ct_of (by decide +kernel) (by intro v hv; simp at hv; rcases hv with rfl <;> rfl) (Nat.le_of_ble_eq_true rfl) ?_
  intro p e s m args below meth c9 X hr hname
  show WW _ _ _ _ _ _ _ _ _ _ _ _ _ _ _ _ _ _ _ [some (.ref (n0 + 44)), none] _
  have hB2 := hB.2.1
  refine w_iconst X dX0_leastFromStart_0 ?_
  refine w_ist2_1 X dX0_leastFromStart_1 ?_
  have loop : ∀ (n : Nat) (i : Nat) (x1 : Option Value), ((i : Int) ≤ mi (mr 44 4) 2) → (∀ j : Nat, j < i → ¬ inst (mi 1 4) (mi (mr (mr 44 4 + 1) j + 1)) (mi 1 3)) → n = 101 - i → WSi p l e s m args below meth c9 3 (fun r9 mi9 mr9 => mi = mi9 ∧ mr = mr9 ∧ ((r9 = -9 ∧ ∀ i : Nat, (i : Int) < mi (mr 44 4) 2 → ¬ inst (mi 1 4) (mi (mr (mr 44 4 + 1) i + 1)) (mi 1 3)) ∨ ∃ i : Nat, (i : Int) < mi (mr 44 4) 2 ∧ inst (mi 1 4) (mi (mr (mr 44 4 + 1) i + 1)) (mi 1 3) ∧ (∀ j : Nat, j < i → ¬ inst (mi 1 4) (mi (mr (mr 44 4 + 1) j + 1)) (mi 1 3)) ∧ r9 = sum5 (mi (mr (mr 44 4 + 1) i + 1)))) G n0 2 mi mr 2 [some (.ref (n0 + 44)), some (.int (jI (i : Int)))] [] := by
    intro n
    induction n using Nat.strongRecOn with
    | ind n ih_loop =>
      intro i x1 hi hinv hn
      refine w_iload_n X dX0_leastFromStart_2 rfl ?_
      refine w_aload_n X dX0_leastFromStart_3 rfl ?_
      refine w_get X (by decide) (σ_44 G n0 _ _) rfl gW_X0 4 (by decide) gF_X0_33 rfl dX0_leastFromStart_4 ?_
      refine w_getN X (isBs_k hNN.a) (σ_bs G n0 _ _ hNN.a) rfl gW_X1 2 (by decide) gF_X0_52 rfl dX0_leastFromStart_7 ?_
      refine w_icmp_ge X 51 dX0_leastFromStart_10 (by decide) (fun c10_1 => ?_) (fun c10_1 => ?_)
      ·
        refine w_bipush X dX0_leastFromStart_51 rfl ?_
        refine s_iret X hr dX0_leastFromStart_53 ?_
        exact ⟨rfl, rfl, Or.inl ⟨rfl, fun j hj => hinv j (by omega)⟩⟩
      ·
        refine w_aload_n X dX0_leastFromStart_13 rfl ?_
        refine w_get X (by decide) (σ_44 G n0 _ _) rfl gW_X0 0 (by decide) gF_X0_44 rfl dX0_leastFromStart_14 ?_
        refine w_aload_n X dX0_leastFromStart_17 rfl ?_
        refine w_get X (by decide) (σ_44 G n0 _ _) rfl gW_X0 4 (by decide) gF_X0_33 rfl dX0_leastFromStart_18 ?_
        refine w_getN X (isBs_k hNN.a) (σ_bs G n0 _ _ hNN.a) rfl gW_X1 0 (by decide) gF_X0_55 rfl dX0_leastFromStart_21 ?_
        refine w_iload_n X dX0_leastFromStart_24 rfl ?_
        refine s_aald X (t := 2) (i) (isBs_k1 hNN.a) (σ_r1 G n0 _ _ hNN.a) rfl dX0_leastFromStart_25 ?_
        refine s_callVi X _ (c_X5_isInStart (l := l) (G := G) (n0 := n0) hL (hB.cr (by omega)) (hB.2.2.2.2.1 i (by omega))) gM_X0_59 gI_yX5_isInStart gS_yX5_isInStart gN_X5 gC_yX5_isInStart (by decide) (σ_1 G n0 _ _) rfl dX0_leastFromStart_26 hl_yX5_isInStart ⟨Nat.le_of_ble_eq_true rfl, Nat.le_of_ble_eq_true rfl⟩ (Nat.le_of_ble_eq_true rfl) rfl (fun r1 mi1 mr1 h1 => ?_)
        obtain ⟨rfl, rfl, h1⟩ := h1
        refine w_if_eq X 45 dX0_leastFromStart_29 (by decide) (fun c29_2 => ?_) (fun c29_2 => ?_)
        ·
          refine w_iinc2_1 X dX0_leastFromStart_45 ?_
          refine w_goto X 2 dX0_leastFromStart_48 (by decide) ?_
          exact ih_loop _ (by omega) (i + 1) none (by omega) (fun j hj => by rcases (show j < i ∨ j = i by omega) with q | q; exact hinv j q; subst q; rcases h1 with q1 | q1; omega; exact q1.2) rfl
        ·
          refine w_aload_n X dX0_leastFromStart_32 rfl ?_
          refine w_get X (by decide) (σ_44 G n0 _ _) rfl gW_X0 4 (by decide) gF_X0_33 rfl dX0_leastFromStart_33 ?_
          refine w_getN X (isBs_k hNN.a) (σ_bs G n0 _ _ hNN.a) rfl gW_X1 0 (by decide) gF_X0_55 rfl dX0_leastFromStart_36 ?_
          refine w_iload_n X dX0_leastFromStart_39 rfl ?_
          refine s_aald X (t := 2) (i) (isBs_k1 hNN.a) (σ_r1 G n0 _ _ hNN.a) rfl dX0_leastFromStart_40 ?_
          refine s_callVi X _ (c_X3_sum (l := l) (G := G) (n0 := n0) (hB.cr (by omega))) gM_X0_64 gI_yX3_sum gS_yX3_sum gN_X3 gC_yX3_sum (isCr_k (hB.cr (by omega))) (σ_cr G n0 _ _ (hB.cr (by omega))) rfl dX0_leastFromStart_41 hl_yX3_sum ⟨Nat.le_of_ble_eq_true rfl, Nat.le_of_ble_eq_true rfl⟩ (Nat.le_of_ble_eq_true rfl) rfl (fun r2 mi2 mr2 h2 => ?_)
          obtain ⟨rfl, rfl, h2⟩ := h2
          refine s_iret X hr dX0_leastFromStart_44 ?_
          rcases h1 with q1 | q1
          · exact ⟨rfl, rfl, Or.inr ⟨i, by omega, q1.2, hinv, h2⟩⟩
          · omega
  exact loop _ 0 none (by omega) (fun j hj => absurd hj (by omega)) rfl
set_option maxRecDepth 20000 in
set_option maxHeartbeats 4000000 in
theorem c_X0_setOut {l : Launch} {G : Gt} {n0 : Nat} {mi : Nat → Nat → Int} {mr : Nat → Nat → Nat} {k c : Nat} (hk : isRu k) (hc : isCr c) (hv : RV (mi 1 3) mi k) (hcb : CB mi c) (hcd : c ≠ 47) (hgo : ∀ i : Nat, (i : Int) < mi 1 3 → ¬ (0 < lk0 (mi k) (mi (c + 1)) i ∧ nog (mi 1 3) (mi k) i)) : Cv l yX0_setOut cX0_setOut 3 4 G n0 [.ref (n0 + 44), .ref (n0 + k), .ref (n0 + c)] mi mr (fun mi9 mr9 => (∀ j : Nat, j < 5 → mi9 50 j = lv (mi k) j + nd (mi k) j) ∧ (∀ j : Nat, j < 5 → mi9 48 j = (if (j : Int) < mi 1 3 then lk (mi k) (mi (c + 1)) j else 0) - (if mi k 7 ≠ -9 ∧ gol (mi k) (mi k 7).toNat = (j : Int) then 1 else 0)) ∧ (∀ a, a ≠ 48 → a ≠ 50 → mi9 a = mi a) ∧ mr = mr9) := by
  refine Ct_of (by decide +kernel) (by intro v hv; simp at hv; rcases hv with rfl | rfl | rfl <;> rfl) (Nat.le_of_ble_eq_true rfl) ?_
  intro p e s m args below meth c9 X hr hname
  show WW _ _ _ _ _ _ _ _ _ _ _ _ _ _ _ _ _ _ _ [some (.ref (n0 + 44)), some (.ref (n0 + k)), some (.ref (n0 + c))] _
  obtain ⟨v1, v2, v3, v4, v6, v7, vs, vg⟩ := id hv
  have hkr := hk
  unfold isRu at hkr
  refine w_aload_n X dX0_setOut_0 rfl ?_
  refine w_aload_n X dX0_setOut_1 rfl ?_
  refine w_aload_n X dX0_setOut_2 rfl ?_
  refine w_get X (by decide) (σ_44 G n0 _ _) rfl gW_X0 0 (by decide) gF_X0_44 rfl dX0_setOut_3 ?_
  refine w_getN X (by decide) (σ_1 G n0 _ _) rfl gW_X5 3 (by decide) gF_X0_117 rfl dX0_setOut_6 ?_
  refine w_aload_n X dX0_setOut_9 rfl ?_
  refine w_get X (by decide) (σ_44 G n0 _ _) rfl gW_X0 2 (by decide) gF_X0_23 rfl dX0_setOut_10 ?_
  refine s_callVi X _ (c_X6_findLack (l := l) (G := G) (n0 := n0) hk hv hc cr_47 hcd hcb) gM_X0_120 gI_yX6_findLack gS_yX6_findLack gN_X6 gC_yX6_findLack (isRu_k hk) (σ_ru G n0 _ _ hk) rfl dX0_setOut_13 hl_yX6_findLack ⟨Nat.le_of_ble_eq_true rfl, Nat.le_of_ble_eq_true rfl⟩ (Nat.le_of_ble_eq_true rfl) rfl (fun r1 mi1 mr1 h1 => ?_)
  obtain ⟨h1, rfl⟩ := h1
  obtain ⟨hlk, hfr1⟩ : (∀ j : Nat, j < 5 → mi1 48 j = if (j : Int) < mi 1 3 then lk (mi k) (mi (c + 1)) j else 0) ∧ ∀ a, a ≠ 48 → mi1 a = mi a := by
    rcases h1 with ⟨q, ⟨i, q1, q2, q3⟩, -⟩ | ⟨-, -, q, q2⟩
    · exact absurd ⟨q2, q3⟩ (hgo i q1)
    · exact ⟨q, q2⟩
  clear h1
  refine w_pop X dX0_setOut_16 rfl ?_
  refine w_aload_n X dX0_setOut_17 rfl ?_
  refine w_get X (by decide) (σ_44 G n0 _ _) rfl gW_X0 3 (by decide) gF_X0_27 rfl dX0_setOut_18 ?_
  refine s_callVv X _ (c_X3_clear (l := l) (G := G) (n0 := n0) cr_49) gM_X0_145 gI_yX3_clear gS_yX3_clear gN_X3 gC_yX3_clear (isCr_k cr_49) (σ_cr G n0 _ _ cr_49) rfl dX0_setOut_21 hl_yX3_clear ⟨Nat.le_of_ble_eq_true rfl, Nat.le_of_ble_eq_true rfl⟩ (Nat.le_of_ble_eq_true rfl) rfl (fun mi2 mr2 h2 => ?_)
  obtain ⟨rfl, rfl⟩ := h2
  have hz0 : ∀ j : Nat, j < 5 → row5 mi1 50 (fun _ => 0) 50 j = 0 := fun j hj => row5_s hj
  have hf0 : ∀ a, a ≠ 50 → row5 mi1 50 (fun _ => 0) a = mi1 a := fun a ha => row5_k ha
  generalize row5 mi1 50 (fun _ => 0) = mi0 at hz0 hf0 ⊢
  have hk0 : mi0 k = mi k := by rw [hf0 k (by omega), hfr1 k (by omega)]
  refine w_aload_n X dX0_setOut_24 rfl ?_
  refine w_get X (by decide) (σ_44 G n0 _ _) rfl gW_X0 3 (by decide) gF_X0_27 rfl dX0_setOut_25 ?_
  refine w_aload_n X dX0_setOut_28 rfl ?_
  refine w_getN X (isRu_k hk) (σ_ru G n0 _ _ hk) rfl gW_X6 2 (by decide) gF_X0_146 rfl dX0_setOut_29 ?_
  rw [hk0]
  refine w_iconst X dX0_setOut_32 ?_
  refine s_callVv X _ (c_X3_add (l := l) (G := G) (n0 := n0) cr_49 (by first | assumption | (refine ⟨?_, ?_⟩ <;> omega))) gM_X0_149 gI_yX3_add gS_yX3_add gN_X3 gC_yX3_add (isCr_k cr_49) (σ_cr G n0 _ _ cr_49) rfl dX0_setOut_33 hl_yX3_add ⟨Nat.le_of_ble_eq_true rfl, Nat.le_of_ble_eq_true rfl⟩ (Nat.le_of_ble_eq_true rfl) rfl (fun mi3 mr3 h3 => ?_)
  obtain ⟨e9, rfl⟩ := h3
  have hm3 : ∀ j : Nat, j < 5 → mi3 50 j = mi0 50 j + (if mi k 2 = (j : Int) then 1 else 0) := by
    intro j hj
    by_cases q : 0 ≤ mi k 2
    · rw [if_pos ⟨by omega, by omega⟩] at e9
      rw [← e9, up2_add q]
    · rw [if_neg (by omega)] at e9
      rw [← e9, if_neg (show ¬ mi k 2 = (j : Int) by omega), Int.add_zero]
  have hf3 : ∀ a, a ≠ 50 → mi3 a = mi0 a := by
    intro a ha
    by_cases q : 0 ≤ mi k 2
    · rw [if_pos ⟨by omega, by omega⟩] at e9
      rw [← e9, up2_k _ _ _ _ ha]
    · rw [if_neg (by omega)] at e9
      rw [← e9]
  have hk3 : mi3 k = mi k := by rw [hf3 k (by omega)]; exact hk0
  clear e9
  refine w_aload_n X dX0_setOut_36 rfl ?_
  refine w_get X (by decide) (σ_44 G n0 _ _) rfl gW_X0 3 (by decide) gF_X0_27 rfl dX0_setOut_37 ?_
  refine w_aload_n X dX0_setOut_40 rfl ?_
  refine w_getN X (isRu_k hk) (σ_ru G n0 _ _ hk) rfl gW_X6 4 (by decide) gF_X0_153 rfl dX0_setOut_41 ?_
  rw [hk3]
  refine w_iconst X dX0_setOut_44 ?_
  refine s_callVv X _ (c_X3_add (l := l) (G := G) (n0 := n0) cr_49 (by first | assumption | (refine ⟨?_, ?_⟩ <;> omega))) gM_X0_149 gI_yX3_add gS_yX3_add gN_X3 gC_yX3_add (isCr_k cr_49) (σ_cr G n0 _ _ cr_49) rfl dX0_setOut_45 hl_yX3_add ⟨Nat.le_of_ble_eq_true rfl, Nat.le_of_ble_eq_true rfl⟩ (Nat.le_of_ble_eq_true rfl) rfl (fun mi4 mr4 h4 => ?_)
  obtain ⟨e9, rfl⟩ := h4
  have hm4 : ∀ j : Nat, j < 5 → mi4 50 j = mi3 50 j + (if mi k 4 = (j : Int) then 1 else 0) := by
    intro j hj
    by_cases q : 0 ≤ mi k 4
    · rw [if_pos ⟨by omega, by omega⟩] at e9
      rw [← e9, up2_add q]
    · rw [if_neg (by omega)] at e9
      rw [← e9, if_neg (show ¬ mi k 4 = (j : Int) by omega), Int.add_zero]
  have hf4 : ∀ a, a ≠ 50 → mi4 a = mi3 a := by
    intro a ha
    by_cases q : 0 ≤ mi k 4
    · rw [if_pos ⟨by omega, by omega⟩] at e9
      rw [← e9, up2_k _ _ _ _ ha]
    · rw [if_neg (by omega)] at e9
      rw [← e9]
  have hk4 : mi4 k = mi k := by rw [hf4 k (by omega)]; exact hk3
  clear e9
  refine w_aload_n X dX0_setOut_48 rfl ?_
  refine w_get X (by decide) (σ_44 G n0 _ _) rfl gW_X0 3 (by decide) gF_X0_27 rfl dX0_setOut_49 ?_
  refine w_aload_n X dX0_setOut_52 rfl ?_
  refine w_getN X (isRu_k hk) (σ_ru G n0 _ _ hk) rfl gW_X6 7 (by decide) gF_X0_156 rfl dX0_setOut_53 ?_
  rw [hk4]
  refine w_iconst X dX0_setOut_56 ?_
  refine s_callVv X _ (c_X3_add (l := l) (G := G) (n0 := n0) cr_49 (by first | assumption | (refine ⟨?_, ?_⟩ <;> omega))) gM_X0_149 gI_yX3_add gS_yX3_add gN_X3 gC_yX3_add (isCr_k cr_49) (σ_cr G n0 _ _ cr_49) rfl dX0_setOut_57 hl_yX3_add ⟨Nat.le_of_ble_eq_true rfl, Nat.le_of_ble_eq_true rfl⟩ (Nat.le_of_ble_eq_true rfl) rfl (fun mi5 mr5 h5 => ?_)
  obtain ⟨e9, rfl⟩ := h5
  have hm5 : ∀ j : Nat, j < 5 → mi5 50 j = mi4 50 j + (if mi k 7 = (j : Int) then 1 else 0) := by
    intro j hj
    by_cases q : 0 ≤ mi k 7
    · rw [if_pos ⟨by omega, by omega⟩] at e9
      rw [← e9, up2_add q]
    · rw [if_neg (by omega)] at e9
      rw [← e9, if_neg (show ¬ mi k 7 = (j : Int) by omega), Int.add_zero]
  have hf5 : ∀ a, a ≠ 50 → mi5 a = mi4 a := by
    intro a ha
    by_cases q : 0 ≤ mi k 7
    · rw [if_pos ⟨by omega, by omega⟩] at e9
      rw [← e9, up2_k _ _ _ _ ha]
    · rw [if_neg (by omega)] at e9
      rw [← e9]
  have hk5 : mi5 k = mi k := by rw [hf5 k (by omega)]; exact hk4
  clear e9
  refine w_aload_n X dX0_setOut_60 rfl ?_
  refine w_get X (by decide) (σ_44 G n0 _ _) rfl gW_X0 2 (by decide) gF_X0_23 rfl dX0_setOut_61 ?_
  refine w_aload_n X dX0_setOut_64 rfl ?_
  refine w_aload_n X dX0_setOut_65 rfl ?_
  refine w_getN X (isRu_k hk) (σ_ru G n0 _ _ hk) rfl gW_X6 7 (by decide) gF_X0_156 rfl dX0_setOut_66 ?_
  rw [hk5]
  have hv6 : RV (mi 1 3) mi5 k := RV_fr hv hk5 (by rw [hf5 _ (by omega), hf4 _ (by omega), hf3 _ (by omega), hf0 _ (by omega), hfr1 _ (by omega)])
  refine s_callVi X _ (c_X6_goalOf (l := l) (G := G) (n0 := n0) hk hv6 (by first | assumption | (refine ⟨?_, ?_⟩ <;> omega))) gM_X0_159 gI_yX6_goalOf gS_yX6_goalOf gN_X6 gC_yX6_goalOf (isRu_k hk) (σ_ru G n0 _ _ hk) rfl dX0_setOut_69 hl_yX6_goalOf ⟨Nat.le_of_ble_eq_true rfl, Nat.le_of_ble_eq_true rfl⟩ (Nat.le_of_ble_eq_true rfl) rfl (fun r6 mi6 mr6 h6 => ?_)
  obtain ⟨rfl, rfl, h6, b9, q9⟩ := h6
  refine w_iconst X dX0_setOut_72 ?_
  refine s_callVv X _ (c_X3_add (l := l) (G := G) (n0 := n0) cr_47 (by first | assumption | (refine ⟨?_, ?_⟩ <;> omega))) gM_X0_149 gI_yX3_add gS_yX3_add gN_X3 gC_yX3_add (isCr_k cr_47) (σ_cr G n0 _ _ cr_47) rfl dX0_setOut_73 hl_yX3_add ⟨Nat.le_of_ble_eq_true rfl, Nat.le_of_ble_eq_true rfl⟩ (Nat.le_of_ble_eq_true rfl) rfl (fun mi7 mr7 h7 => ?_)
  obtain ⟨e9, rfl⟩ := h7
  have h48 : ∀ j : Nat, j < 5 → mi5 48 j = if (j : Int) < mi 1 3 then lk (mi k) (mi (c + 1)) j else 0 := fun j hj => by rw [hf5 48 (by decide), hf4 48 (by decide), hf3 48 (by decide), hf0 48 (by decide)]; exact hlk j hj
  rw [hk5] at h6
  refine s_vret X hr dX0_setOut_76 ?_
  refine ⟨?_, ?_, ?_, rfl⟩
  · intro j hj
    have hne : mi7 50 = mi5 50 := by
      rw [← e9]
      split
      · exact up2_k _ _ _ _ (by decide)
      · rfl
    rw [hne, hm5 j hj, hm4 j hj, hm3 j hj, hz0 j hj]
    unfold lv nd
    simp only [eq_comm (a := (j : Int))]
    omega
  · intro j hj
    by_cases q : mi k 7 = -9
    · rw [if_neg (by omega)] at h6
      rw [if_neg (by omega)] at e9
      rw [← e9, h48 j hj, show (if mi k 7 ≠ -9 ∧ gol (mi k) (mi k 7).toNat = (j : Int) then (1 : Int) else 0) = 0 from if_neg (fun w => w.1 q), Int.sub_zero]
    · rw [if_pos ⟨by omega, by omega⟩] at h6
      have hgb := vg (mi k 7).toNat (by omega)
      rw [if_pos ⟨by omega, by omega⟩] at e9
      rw [← e9, up2_add (by omega), h48 j hj, h6]
      by_cases q2 : gol (mi k) (mi k 7).toNat = (j : Int)
      · rw [show (if mi k 7 ≠ -9 ∧ gol (mi k) (mi k 7).toNat = (j : Int) then (1 : Int) else 0) = 1 from if_pos ⟨q, q2⟩, if_pos q2]; omega
      · rw [show (if mi k 7 ≠ -9 ∧ gol (mi k) (mi k 7).toNat = (j : Int) then (1 : Int) else 0) = 0 from if_neg (fun w => q2 w.2), if_neg q2]; omega
  · intro a ha ha2
    have hne : mi7 a = mi5 a := by
      rw [← e9]
      split
      · exact up2_k _ _ _ _ ha
      · rfl
    rw [hne, hf5 a ha2, hf4 a ha2, hf3 a ha2, hf0 a ha2, hfr1 a ha]
end
section
/-- how many fresh ones there are is told rightly -/
def FCo (mi : Nat → Nat → Int) (mr : Nat → Nat → Nat) (b : Nat) : Prop := mi b 3 = ((Ef mi mr b).map Prod.snd).sum
theorem FCo_fr {mi mi' : Nat → Nat → Int} {mr mr' : Nat → Nat → Nat} {b : Nat} (hB : BO mi mr b) (h1 : ∀ a, b ≤ a → a < b + 205 → mi' a = mi a) (h2 : mr' (b + 1) = mr (b + 1)) (h : FCo mi mr b) : FCo mi' mr' b := by
  unfold FCo at *
  rw [Ef_fr hB h1 h2, h1 b (by omega) (by omega)]
  exact h
theorem take_F {mi mi9 : Nat → Nat → Int} {mr mr9 : Nat → Nat → Nat} {b c : Nat} {z : Int} (hB : BO mi mr b) (h : (100 < mi b 2 ∧ mi = mi9 ∧ mr = mr9) ∨ (mi b 2 ≤ 100 ∧ ∃ n P : Nat, mi b 2 = (n : Int) ∧ P ≤ n ∧ TkP mi mi9 mr mr9 b c z n P)) (hF : FCo mi mr b) : FCo mi9 mr9 b := by
  rcases h with ⟨-, rfl, rfl⟩ | ⟨h0, n, P, hn, hP, hT⟩
  · exact hF
  · have hE := take_E hB hT hn (by omega) hP
    have h9 : mi9 b 3 = mi b 3 + z := hT.2.2.2.2.2.2.2.2.1
    unfold FCo at *
    rw [hE, h9, hF]
    have e : ((Ef mi mr b).map Prod.snd).sum = (((Ef mi mr b).take P).map Prod.snd).sum + (((Ef mi mr b).drop P).map Prod.snd).sum := by
      rw [← List.sum_append, ← List.map_append, List.take_append_drop]
    rw [e, List.map_append, List.sum_append, List.map_cons, List.sum_cons]
    show _ = _ + (z + _)
    omega
/-- a store grows by such ones as P tells, none of which is covered by an older one; X: other cells that may change -/
def Grw (X : Nat → Prop) (mi mi9 : Nat → Nat → Int) (mr mr9 : Nat → Nat → Nat) (N : Nat) (P : V5 × Int → Prop) : Prop :=
  BO mi9 mr9 N ∧ Srt (Ef mi9 mr9 N) ∧ FCo mi9 mr9 N ∧ (∀ y ∈ Ef mi mr N, y ∈ Ef mi9 mr9 N) ∧ (∀ y ∈ Ef mi9 mr9 N, y ∈ Ef mi mr N ∨ P y ∧ ∀ x ∈ Ef mi mr N, ¬ gv y.1 x.1) ∧ (∀ a, a < N ∨ N + 205 ≤ a → ¬ X a → mi9 a = mi a) ∧ (∀ a, a ≠ N + 1 → mr9 a = mr a) ∧ mi N 2 ≤ mi9 N 2
theorem Grw_r {X : Nat → Prop} {mi : Nat → Nat → Int} {mr : Nat → Nat → Nat} {N : Nat} {P : V5 × Int → Prop} (hB : BO mi mr N) (hS : Srt (Ef mi mr N)) (hF : FCo mi mr N) : Grw X mi mi mr mr N P := ⟨hB, hS, hF, fun _ h => h, fun _ h => Or.inl h, fun _ _ _ => rfl, fun _ _ => rfl, Int.le_refl _⟩
theorem Grw_t {X : Nat → Prop} {mi m2 m3 : Nat → Nat → Int} {mr r2 r3 : Nat → Nat → Nat} {N : Nat} {P : V5 × Int → Prop} (h : Grw X mi m2 mr r2 N P) (h2 : Grw X m2 m3 r2 r3 N P) : Grw X mi m3 mr r3 N P := by
  obtain ⟨a1, a2, a3, a4, a5, a6, a7, a8⟩ := h
  obtain ⟨b1, b2, b3, b4, b5, b6, b7, b8⟩ := h2
  refine ⟨b1, b2, b3, fun y hy => b4 y (a4 y hy), fun y hy => ?_, fun a ha hx => (b6 a ha hx).trans (a6 a ha hx), fun a ha => (b7 a ha).trans (a7 a ha), by omega⟩
  rcases b5 y hy with q | ⟨q, q2⟩
  · exact a5 y q
  · exact Or.inr ⟨q, fun x hx => q2 x (a4 x hx)⟩
theorem Grw_w {X X' : Nat → Prop} {mi mi9 : Nat → Nat → Int} {mr mr9 : Nat → Nat → Nat} {N : Nat} {P P' : V5 × Int → Prop} (h : Grw X mi mi9 mr mr9 N P) (hX : ∀ a, X a → X' a) (hP : ∀ y, P y → P' y) : Grw X' mi mi9 mr mr9 N P' := by
  obtain ⟨a1, a2, a3, a4, a5, a6, a7, a8⟩ := h
  exact ⟨a1, a2, a3, a4, fun y hy => (a5 y hy).imp id (fun q => ⟨hP y q.1, q.2⟩), fun a ha hx => a6 a ha (fun q => hx (hX a q)), a7, a8⟩
/-- what the start is told by may be told by another memory with the same store -/
theorem Grw_l {X : Nat → Prop} {m0 mi mi9 : Nat → Nat → Int} {mr mr9 : Nat → Nat → Nat} {N : Nat} {P : V5 × Int → Prop} (hB : BO m0 mr N) (h : Grw X mi mi9 mr mr9 N P) (h0 : ∀ a, ¬ X a → mi a = m0 a) (hX : ∀ a, X a → a < N) : Grw X m0 mi9 mr mr9 N P := by
  obtain ⟨a1, a2, a3, a4, a5, a6, a7, a8⟩ := h
  have e : Ef mi mr N = Ef m0 mr N := Ef_fr hB (fun a ha _ => h0 a (fun q => by have := hX a q; omega)) rfl
  rw [e] at a4 a5
  exact ⟨a1, a2, a3, a4, a5, fun a ha hx => (a6 a ha hx).trans (h0 a hx), a7, by rw [← h0 N (fun q => by have := hX N q; omega)]; exact a8⟩
theorem take_G {X : Nat → Prop} {mi mi9 : Nat → Nat → Int} {mr mr9 : Nat → Nat → Nat} {b c : Nat} {z : Int} {P : V5 × Int → Prop} (hB : BO mi mr b) (hz : z = 0 ∨ z = 1) (hcb : CB mi c) (hS : Srt (Ef mi mr b)) (hF : FCo mi mr b) (hu : ∀ y ∈ Ef mi mr b, ¬ gv (T5 (mi (c + 1))) y.1) (hP : P (T5 (mi (c + 1)), z)) (h : (100 < mi b 2 ∧ mi = mi9 ∧ mr = mr9) ∨ (mi b 2 ≤ 100 ∧ ∃ n P : Nat, mi b 2 = (n : Int) ∧ P ≤ n ∧ TkP mi mi9 mr mr9 b c z n P)) : Grw X mi mi9 mr mr9 b P ∧ ((T5 (mi (c + 1)), z) ∈ Ef mi9 mr9 b ∨ 100 < mi9 b 2) := by
  have hF9 := take_F hB h hF
  rcases take_A hB hz hcb hS hu h with ⟨h0, rfl, rfl⟩ | ⟨h0, h1, h2, h3, h4, h5, h6, h7⟩
  · exact ⟨Grw_r hB hS hF, Or.inr h0⟩
  · refine ⟨⟨h1, h2, hF9, fun y hy => (h3 y).mpr (Or.inr hy), fun y hy => ?_, fun a ha _ => h6 a ha, h7, by omega⟩, Or.inl ((h3 _).mpr (Or.inl rfl))⟩
    rcases (h3 y).mp hy with rfl | q
    · exact Or.inr ⟨hP, hu⟩
    · exact Or.inl q
theorem sum5_b {mi : Nat → Nat → Int} {c : Nat} (h : CB mi c) : 0 ≤ sum5 (mi (c + 1)) ∧ sum5 (mi (c + 1)) ≤ 5000 := by
  unfold CB at h
  unfold sum5
  omega
theorem NN.ne {mr : Nat → Nat → Nat} (h : NN mr) : mr 44 4 ≠ mr 44 5 ∧ 51 ≤ mr 44 4 ∧ mr 44 4 ≤ 256 ∧ 51 ≤ mr 44 5 ∧ mr 44 5 ≤ 256 ∧ (mr 44 4 + 205 ≤ mr 44 5 ∨ mr 44 5 + 205 ≤ mr 44 4) := by unfold NN at h; omega

def FSg (mi m2 : Nat → Nat → Int) (mr : Nat → Nat → Nat) (i j : Nat) (x : Int) : Prop := FLr (mi 1 3) (mi (6 + 2 * j)) (mi (mr (mr 44 4 + 1) i + 1)) (m2 46 (12 * i + j)) ∧ m2 46 (12 * i + j) ≤ x
set_option maxRecDepth 20000 in
set_option maxHeartbeats 4000000 in
theorem c_X0_findSums {l : Launch} {G : Gt} {n0 : Nat} {mi : Nat → Nat → Int} {mr : Nat → Nat → Nat} (hNN : NN mr) (hL : LW mi) (hB : BO mi mr (mr 44 4)) (hcnt : mi (mr 44 4) 2 ≤ 100) : Ci l yX0_findSums cX0_findSums 5 .int 4 G n0 [.ref (n0 + 44)] mi mr (fun r9 mi9 mr9 => 0 ≤ r9 ∧ r9 ≤ 5002 ∧ (∀ i' j' : Nat, (i' : Int) < mi (mr 44 4) 2 → (j' : Int) < mi 1 5 → FSg mi mi9 mr i' j' r9) ∧ (∀ i' : Nat, (i' : Int) < mi (mr 44 4) 2 → sum5 (mi (mr (mr 44 4 + 1) i' + 1)) ≤ r9) ∧ (∀ a, a ≠ 46 → a ≠ 48 → mi9 a = mi a) ∧ mr = mr9) := by
  refine Ct_of (by decide +kernel) (by intro v hv; simp at hv; rcases hv with rfl <;> rfl) (Nat.le_of_ble_eq_true rfl) ?_
  intro p e s m args below meth c9 X hr hname
  show WW _ _ _ _ _ _ _ _ _ _ _ _ _ _ _ _ _ _ _ [some (.ref (n0 + 44)), none, none, none, none] _
  have hB2 := hB.2.1
  have hL3 := hL.2.2.1
  have hne := hNN.ne
  refine w_iconst X dX0_findSums_0 ?_
  refine w_ist5_1 X dX0_findSums_1 ?_
  refine w_iconst X dX0_findSums_2 ?_
  refine w_ist5_2 X dX0_findSums_3 ?_
  have loop : ∀ (n : Nat) (mi' : Nat → Nat → Int) (i : Nat) (x1 : Int) (x3 x4 : Option Value), ((i : Int) ≤ mi (mr 44 4) 2) → (∀ a, a ≠ 46 → a ≠ 48 → mi' a = mi a) → (0 ≤ x1 ∧ x1 ≤ 5002) → (∀ i' j' : Nat, i' < i → (j' : Int) < mi 1 5 → FSg mi mi' mr i' j' x1) → (∀ i' : Nat, i' < i → sum5 (mi (mr (mr 44 4 + 1) i' + 1)) ≤ x1) → n = 101 - i → WSi p l e s m args below meth c9 4 (fun r9 mi9 mr9 => 0 ≤ r9 ∧ r9 ≤ 5002 ∧ (∀ i' j' : Nat, (i' : Int) < mi (mr 44 4) 2 → (j' : Int) < mi 1 5 → FSg mi mi9 mr i' j' r9) ∧ (∀ i' : Nat, (i' : Int) < mi (mr 44 4) 2 → sum5 (mi (mr (mr 44 4 + 1) i' + 1)) ≤ r9) ∧ (∀ a, a ≠ 46 → a ≠ 48 → mi9 a = mi a) ∧ mr = mr9) G n0 5 mi' mr 4 [some (.ref (n0 + 44)), some (.int (jI x1)), some (.int (jI (i : Int))), x3, x4] [] := by
    intro n
    induction n using Nat.strongRecOn with
    | ind n ih_loop =>
      intro mi' i x1 x3 x4 hi hfr hx hS hM hn
      have e1 : mi' 1 = mi 1 := hfr 1 (by decide) (by decide)
      have hL' : LW mi' := LW_fr hL (fun a ha ha2 ha3 => hfr a (by omega) (by omega))
      have hB' : BO mi' mr (mr 44 4) := BO_fr hB (fun a ha ha2 => hfr a (by omega) (by omega)) rfl
      have eA : mi' (mr 44 4) = mi (mr 44 4) := hfr _ (by omega) (by omega)
      refine w_iload_n X dX0_findSums_4 rfl ?_
      refine w_aload_n X dX0_findSums_5 rfl ?_
      refine w_get X (by decide) (σ_44 G n0 _ _) rfl gW_X0 4 (by decide) gF_X0_33 rfl dX0_findSums_6 ?_
      refine w_getN X (isBs_k hNN.a) (σ_bs G n0 _ _ hNN.a) rfl gW_X1 2 (by decide) gF_X0_52 rfl dX0_findSums_9 ?_
      rw [eA]
      refine w_icmp_ge X 109 dX0_findSums_12 (by decide) (fun c12_1 => ?_) (fun c12_1 => ?_)
      ·
        refine w_iload_n X dX0_findSums_109 rfl ?_
        refine s_iret X hr dX0_findSums_110 ?_
        exact ⟨hx.1, hx.2, fun i' j' hi' hj' => hS i' j' (by omega) hj', fun i' hi' => hM i' (by omega), hfr, rfl⟩
      ·
        have hs5 := sum5_b (hB.2.2.2.2.1 i (by omega))
        have hrow := hB.2.2.1 i (by omega)
        have hrw : mi' (mr (mr 44 4 + 1) i + 1) = mi (mr (mr 44 4 + 1) i + 1) := hfr _ (by omega) (by omega)
        refine w_iload_n X dX0_findSums_15 rfl ?_
        refine w_aload_n X dX0_findSums_16 rfl ?_
        refine w_get X (by decide) (σ_44 G n0 _ _) rfl gW_X0 4 (by decide) gF_X0_33 rfl dX0_findSums_17 ?_
        refine w_getN X (isBs_k hNN.a) (σ_bs G n0 _ _ hNN.a) rfl gW_X1 0 (by decide) gF_X0_55 rfl dX0_findSums_20 ?_
        refine w_iload_n X dX0_findSums_23 rfl ?_
        refine s_aald X (t := 2) (i) (isBs_k1 hNN.a) (σ_r1 G n0 _ _ hNN.a) rfl dX0_findSums_24 ?_
        refine s_callVi X _ (c_X3_sum (l := l) (G := G) (n0 := n0) (hB'.cr (by omega))) gM_X0_64 gI_yX3_sum gS_yX3_sum gN_X3 gC_yX3_sum (isCr_k (hB'.cr (by omega))) (σ_cr G n0 _ _ (hB'.cr (by omega))) rfl dX0_findSums_25 hl_yX3_sum ⟨Nat.le_of_ble_eq_true rfl, Nat.le_of_ble_eq_true rfl⟩ (Nat.le_of_ble_eq_true rfl) rfl (fun r1 mi1 mr1 h1 => ?_)
        obtain ⟨rfl, rfl, h1⟩ := h1
        rw [hrw] at h1
        refine w_mmax X gM_X0_104 ⟨Nat.le_of_ble_eq_true rfl, Nat.le_of_ble_eq_true rfl⟩ ⟨Nat.zero_le _, Nat.zero_le _⟩ (Nat.le_of_ble_eq_true rfl) dX0_findSums_28 (fun z2 h2 => ?_)
        refine w_ist5_1 X dX0_findSums_31 ?_
        refine w_iconst X dX0_findSums_32 ?_
        refine w_ist5_3 X dX0_findSums_33 ?_
        have loop2 : ∀ (n : Nat) (m2 : Nat → Nat → Int) (j : Nat) (x2 : Int) (x4 : Option Value), ((i : Int) < mi (mr 44 4) 2) → ((j : Int) ≤ mi 1 5) → (∀ a, a ≠ 46 → a ≠ 48 → m2 a = mi a) → (0 ≤ x2 ∧ x2 ≤ 5002) → (∀ i' j' : Nat, i' < i → (j' : Int) < mi 1 5 → FSg mi m2 mr i' j' x2) → (∀ j' : Nat, j' < j → FSg mi m2 mr i j' x2) → (∀ i' : Nat, i' ≤ i → sum5 (mi (mr (mr 44 4 + 1) i' + 1)) ≤ x2) → n = 12 - j → WSi p l e s m args below meth c9 4 (fun r9 mi9 mr9 => 0 ≤ r9 ∧ r9 ≤ 5002 ∧ (∀ i' j' : Nat, (i' : Int) < mi (mr 44 4) 2 → (j' : Int) < mi 1 5 → FSg mi mi9 mr i' j' r9) ∧ (∀ i' : Nat, (i' : Int) < mi (mr 44 4) 2 → sum5 (mi (mr (mr 44 4 + 1) i' + 1)) ≤ r9) ∧ (∀ a, a ≠ 46 → a ≠ 48 → mi9 a = mi a) ∧ mr = mr9) G n0 5 m2 mr 34 [some (.ref (n0 + 44)), some (.int (jI x2)), some (.int (jI (i : Int))), some (.int (jI (j : Int))), x4] [] := by
          intro n
          induction n using Nat.strongRecOn with
          | ind n ih_loop2 =>
            intro m2 j x2 x4 hi2 hj hfr2 hx2 hS2 hS3 hM2 hn
            have e1 : m2 1 = mi 1 := hfr2 1 (by decide) (by decide)
            have hL' : LW m2 := LW_fr hL (fun a ha ha2 ha3 => hfr2 a (by omega) (by omega))
            have hB' : BO m2 mr (mr 44 4) := BO_fr hB (fun a ha ha2 => hfr2 a (by omega) (by omega)) rfl
            have hrow := hB.2.2.1 i (by omega)
            have hrw : m2 (mr (mr 44 4 + 1) i + 1) = mi (mr (mr 44 4 + 1) i + 1) := hfr2 _ (by omega) (by omega)
            refine w_iload_n X dX0_findSums_34 rfl ?_
            refine w_aload_n X dX0_findSums_35 rfl ?_
            refine w_get X (by decide) (σ_44 G n0 _ _) rfl gW_X0 0 (by decide) gF_X0_44 rfl dX0_findSums_36 ?_
            refine w_getN X (by decide) (σ_1 G n0 _ _) rfl gW_X5 5 (by decide) gF_X0_110 rfl dX0_findSums_39 ?_
            rw [e1]
            refine w_icmp_ge X 103 dX0_findSums_42 (by decide) (fun c42_2 => ?_) (fun c42_2 => ?_)
            ·
              refine w_iinc5_2 X dX0_findSums_103 ?_
              refine w_goto X 4 dX0_findSums_106 (by decide) ?_
              exact ih_loop _ (by omega) m2 (i + 1) x2 _ _ (by omega) hfr2 hx2 (fun i' j' hi' hj' => by
                rcases (show i' < i ∨ i' = i by omega) with q | q
                · exact hS2 i' j' q hj'
                · subst q; exact hS3 j' (by omega)) (fun i' hi' => hM2 i' (by omega)) rfl
            ·
              have hru : m2 (6 + 2 * j) = mi (6 + 2 * j) := hfr2 _ (by omega) (by omega)
              refine w_aload_n X dX0_findSums_45 rfl ?_
              refine w_get X (by decide) (σ_44 G n0 _ _) rfl gW_X0 0 (by decide) gF_X0_44 rfl dX0_findSums_46 ?_
              refine w_getN X (by decide) (σ_1 G n0 _ _) rfl gW_X5 0 (by decide) gF_X0_113 rfl dX0_findSums_49 ?_
              refine w_iload_n X dX0_findSums_52 rfl ?_
              refine s_aald X (t := 3) (j) (by decide) (σ_2 G n0 _ _) rfl dX0_findSums_53 ?_
              refine w_aload_n X dX0_findSums_54 rfl ?_
              refine w_get X (by decide) (σ_44 G n0 _ _) rfl gW_X0 4 (by decide) gF_X0_33 rfl dX0_findSums_55 ?_
              refine w_getN X (isBs_k hNN.a) (σ_bs G n0 _ _ hNN.a) rfl gW_X1 0 (by decide) gF_X0_55 rfl dX0_findSums_58 ?_
              refine w_iload_n X dX0_findSums_61 rfl ?_
              refine s_aald X (t := 2) (i) (isBs_k1 hNN.a) (σ_r1 G n0 _ _ hNN.a) rfl dX0_findSums_62 ?_
              refine w_aload_n X dX0_findSums_63 rfl ?_
              refine w_get X (by decide) (σ_44 G n0 _ _) rfl gW_X0 0 (by decide) gF_X0_44 rfl dX0_findSums_64 ?_
              refine w_getN X (by decide) (σ_1 G n0 _ _) rfl gW_X5 3 (by decide) gF_X0_117 rfl dX0_findSums_67 ?_
              refine w_aload_n X dX0_findSums_70 rfl ?_
              refine w_get X (by decide) (σ_44 G n0 _ _) rfl gW_X0 2 (by decide) gF_X0_23 rfl dX0_findSums_71 ?_
              refine s_callVi X _ (c_X6_findLack (l := l) (G := G) (n0 := n0) (ru_2 (by omega)) (hL'.2.2.2.2.1 j (by rw [e1]; omega)) (hB'.cr (by omega)) cr_47 (by omega) (hB'.2.2.2.2.1 i (by rw [hfr2 _ (by omega) (by omega)]; exact hi2))) gM_X0_120 gI_yX6_findLack gS_yX6_findLack gN_X6 gC_yX6_findLack (isRu_k (ru_2 (by omega))) (σ_ru G n0 _ _ (ru_2 (by omega))) rfl dX0_findSums_74 hl_yX6_findLack ⟨Nat.le_of_ble_eq_true rfl, Nat.le_of_ble_eq_true rfl⟩ (Nat.le_of_ble_eq_true rfl) rfl (fun r3 mi3 mr3 h3 => ?_)
              obtain ⟨h3, rfl⟩ := h3
              rw [hru, hrw, e1] at h3
              refine w_ist5_4 X dX0_findSums_77 ?_
              have hb3 := FLr_b (show FLr (mi 1 3) (mi (6 + 2 * j)) (mi (mr (mr 44 4 + 1) i + 1)) r3 by rcases h3 with ⟨q1, q2, q3⟩ | ⟨q1, q2, q3⟩; exact Or.inl ⟨q1, q2⟩; exact Or.inr ⟨q1, q2⟩) hL.1 (CB_at (hB.2.2.2.2.1 i (by omega)))
              have hf3 : ∀ a, a ≠ 48 → mi3 a = m2 a := by rcases h3 with ⟨q1, q2, q3⟩ | ⟨q1, q2, q3⟩; exact q3; exact q3.2
              refine w_iload_n X dX0_findSums_79 rfl ?_
              refine w_iload X dX0_findSums_80 rfl ?_
              refine w_mmax X gM_X0_104 ⟨Nat.le_of_ble_eq_true rfl, Nat.le_of_ble_eq_true rfl⟩ ⟨Nat.zero_le _, Nat.zero_le _⟩ (Nat.le_of_ble_eq_true rfl) dX0_findSums_82 (fun z4 h4 => ?_)
              refine w_ist5_1 X dX0_findSums_85 ?_
              refine w_aload_n X dX0_findSums_86 rfl ?_
              refine w_get X (by decide) (σ_44 G n0 _ _) rfl gW_X0 1 (by decide) gF_X0_14 rfl dX0_findSums_87 ?_
              refine w_iload_n X dX0_findSums_90 rfl ?_
              refine w_iload_n X dX0_findSums_91 rfl ?_
              refine w_iload X dX0_findSums_92 rfl ?_
              refine s_callVv X _ (c_X2_set_s (l := l) (G := G) (n0 := n0) (by first | assumption | (refine ⟨?_, ?_⟩ <;> omega))) gM_X0_126 gI_yX2_set gS_yX2_set gN_X2 gC_yX2_set (by decide) (σ_45 G n0 _ _) rfl dX0_findSums_94 hl_yX2_set ⟨Nat.le_of_ble_eq_true rfl, Nat.le_of_ble_eq_true rfl⟩ (Nat.le_of_ble_eq_true rfl) rfl (fun mi5 mr5 h5 => ?_)
              obtain ⟨e9, rfl⟩ := h5
              rw [if_pos ⟨by omega, by omega⟩, show ((i : Int) * 12 + (j : Int)).toNat = 12 * i + j by omega] at e9
              have hfr5 : ∀ a, a ≠ 46 → a ≠ 48 → mi5 a = mi a := fun a ha ha2 => by rw [← e9, up2_k _ _ _ _ ha, hf3 a ha2]; exact hfr2 a ha ha2
              have hold : ∀ i' j' : Nat, 12 * i' + j' ≠ 12 * i + j → mi5 46 (12 * i' + j') = m2 46 (12 * i' + j') := fun i' j' h => by rw [← e9, up2_j _ _ _ _ h, hf3 46 (by decide)]
              have hnw : mi5 46 (12 * i + j) = r3 := by rw [← e9, up2_s]
              clear e9
              refine w_iinc5_3 X dX0_findSums_97 ?_
              refine w_goto X 34 dX0_findSums_100 (by decide) ?_
              have hnew : FLr (mi 1 3) (mi (6 + 2 * j)) (mi (mr (mr 44 4 + 1) i + 1)) r3 := by
                rcases h3 with ⟨q1, q2, q3⟩ | ⟨q1, q2, q3⟩
                · exact Or.inl ⟨q1, q2⟩
                · exact Or.inr ⟨q1, q2⟩
              clear h3
              exact ih_loop2 _ (by omega) mi5 (j + 1) _ _ hi2 (by omega) hfr5 (by omega) (fun i' j' hi' hj' => by
                have := hS2 i' j' hi' hj'
                unfold FSg
                rw [hold i' j' (by omega)]
                exact ⟨this.1, by have := this.2; omega⟩) (fun j' hj' => by
                rcases (show j' < j ∨ j' = j by omega) with q | q
                · have := hS3 j' q
                  unfold FSg
                  rw [hold i j' (by omega)]
                  exact ⟨this.1, by have := this.2; omega⟩
                · subst q
                  unfold FSg
                  rw [hnw]
                  exact ⟨hnew, by omega⟩) (fun i' hi' => by have := hM2 i' hi'; omega) rfl
        exact loop2 _ mi' 0 _ _ (by omega) (by omega) hfr (by omega) (fun i' j' hi' hj' => ⟨(hS i' j' hi' hj').1, by have := (hS i' j' hi' hj').2; omega⟩) (fun j' hj' => absurd hj' (by omega)) (fun i' hi' => by rcases (show i' < i ∨ i' = i by omega) with q | q; have := hM i' q; omega; subst q; omega) rfl
  exact loop _ mi 0 0 none none (by omega) (fun _ _ _ => rfl) (by omega) (fun i h hi => absurd hi (by omega)) (fun i hi => absurd hi (by omega)) rfl
end
section
def AN (A N : Nat) : Prop := A = 51 ∧ N = 256 ∨ A = 256 ∧ N = 51
theorem AN.a {A N : Nat} (h : AN A N) : isBs A := by unfold AN at h; unfold isBs; omega
theorem AN.b {A N : Nat} (h : AN A N) : isBs N := by unfold AN at h; unfold isBs; omega
theorem AN.ne {A N : Nat} (h : AN A N) : A ≠ N ∧ 51 ≤ A ∧ A ≤ 256 ∧ 51 ≤ N ∧ N ≤ 256 ∧ (A + 205 ≤ N ∨ N + 205 ≤ A) := by unfold AN at h; omega
theorem AN.nn {A N : Nat} {mr : Nat → Nat → Nat} (h : AN A N) (hA : mr 44 4 = A) (hN : mr 44 5 = N) : NN mr := by unfold AN at h; unfold NN; rw [hA, hN]; exact h
def nX : Nat → Prop := fun _ => False
set_option maxRecDepth 20000 in
set_option maxHeartbeats 4000000 in
theorem c_X0_keepOld {l : Launch} {G : Gt} {n0 : Nat} {mi : Nat → Nat → Int} {mr : Nat → Nat → Nat} {A N : Nat} {t : Int} (hAN : AN A N) (hA : mr 44 4 = A) (hN : mr 44 5 = N) (hBA : BO mi mr A) (hBN : BO mi mr N) (hSN : Srt (Ef mi mr N)) (hFN : FCo mi mr N) (ht : rg t) : Cv l yX0_keepOld cX0_keepOld 3 4 G n0 [.ref (n0 + 44), .int (jI t)] mi mr (fun mi9 mr9 => Grw nX mi mi9 mr mr9 N (fun y => y.2 = 0 ∧ (∃ u ∈ Ef mi mr A, u.1 = y.1) ∧ sm y.1 = t) ∧ ∀ i' : Nat, (i' : Int) < mi A 2 → sum5 (mi (mr (A + 1) i' + 1)) = t → (∃ y ∈ Ef mi9 mr9 N, gv (T5 (mi (mr (A + 1) i' + 1))) y.1) ∨ 100 < mi9 N 2) := by
  refine Ct_of (by decide +kernel) (by intro v hv; simp at hv; rcases hv with rfl | rfl <;> rfl) (Nat.le_of_ble_eq_true rfl) ?_
  intro p e s m args below meth c9 X hr hname
  show WW _ _ _ _ _ _ _ _ _ _ _ _ _ _ _ _ _ _ _ [some (.ref (n0 + 44)), some (.int (jI t)), none] _
  have hBA2 := hBA.2.1
  have hne := hAN.ne
  refine w_iconst X dX0_keepOld_0 ?_
  refine w_ist3_2 X dX0_keepOld_1 ?_
  have loop : ∀ (n : Nat) (mi' : Nat → Nat → Int) (mr' : Nat → Nat → Nat) (i : Nat) (x2 : Option Value), ((i : Int) ≤ mi A 2) → (Grw nX mi mi' mr mr' N (fun y => y.2 = 0 ∧ (∃ u ∈ Ef mi mr A, u.1 = y.1) ∧ sm y.1 = t)) → (∀ i' : Nat, i' < i → sum5 (mi (mr (A + 1) i' + 1)) = t → (∃ y ∈ Ef mi' mr' N, gv (T5 (mi (mr (A + 1) i' + 1))) y.1) ∨ 100 < mi' N 2) → n = 101 - i → WSv p l e s m args below meth c9 4 (fun mi9 mr9 => Grw nX mi mi9 mr mr9 N (fun y => y.2 = 0 ∧ (∃ u ∈ Ef mi mr A, u.1 = y.1) ∧ sm y.1 = t) ∧ ∀ i' : Nat, (i' : Int) < mi A 2 → sum5 (mi (mr (A + 1) i' + 1)) = t → (∃ y ∈ Ef mi9 mr9 N, gv (T5 (mi (mr (A + 1) i' + 1))) y.1) ∨ 100 < mi9 N 2) G n0 3 mi' mr' 2 [some (.ref (n0 + 44)), some (.int (jI t)), some (.int (jI (i : Int)))] [] := by
    intro n
    induction n using Nat.strongRecOn with
    | ind n ih_loop =>
      intro mi' mr' i x2 hi hG hc hn
      have hm' : ∀ a, a < N ∨ N + 205 ≤ a → mi' a = mi a := fun a ha => hG.2.2.2.2.2.1 a ha (fun q => q)
      have hr' : ∀ a, a ≠ N + 1 → mr' a = mr a := hG.2.2.2.2.2.2.1
      have hA' : mr' 44 4 = A := by rw [hr' 44 (by omega)]; exact hA
      have hN' : mr' 44 5 = N := by rw [hr' 44 (by omega)]; exact hN
      have eA : mi' A = mi A := hm' A (by omega)
      have eA1 : mr' (A + 1) = mr (A + 1) := hr' _ (by omega)
      refine w_iload_n X dX0_keepOld_2 rfl ?_
      refine w_aload_n X dX0_keepOld_3 rfl ?_
      refine w_get X (by decide) (σ_44 G n0 _ _) rfl gW_X0 4 (by decide) gF_X0_33 rfl dX0_keepOld_4 ?_
      rw [hA']
      refine w_getN X (isBs_k hAN.a) (σ_bs G n0 _ _ hAN.a) rfl gW_X1 2 (by decide) gF_X0_52 rfl dX0_keepOld_7 ?_
      rw [eA]
      refine w_icmp_ge X 71 dX0_keepOld_10 (by decide) (fun c10_1 => ?_) (fun c10_1 => ?_)
      ·
        refine s_vret X hr dX0_keepOld_71 ?_
        exact ⟨hG, fun i2 hi2 hs2 => hc i2 (by omega) hs2⟩
      ·
        have hcr0 := hBA.2.2.1 i (by omega)
        have hcr : isCr (mr' (A + 1) i) := by rw [eA1]; exact hBA.cr (by omega)
        have hrw : mi' (mr (A + 1) i + 1) = mi (mr (A + 1) i + 1) := hm' _ (by omega)
        have hcb : CB mi' (mr' (A + 1) i) := by rw [eA1]; exact CB_fr (hBA.2.2.2.2.1 i (by omega)) hrw
        have hown : ∀ i2 : Nat, i2 < 101 → mr' (A + 1) i ≠ mr' (N + 1) i2 := fun i2 h2 => by have := hG.1.2.2.1 i2 h2; rw [eA1]; omega
        have hs5 := sum5_b (hBA.2.2.2.2.1 i (by omega))
        refine w_aload_n X dX0_keepOld_13 rfl ?_
        refine w_get X (by decide) (σ_44 G n0 _ _) rfl gW_X0 4 (by decide) gF_X0_33 rfl dX0_keepOld_14 ?_
        rw [hA']
        refine w_getN X (isBs_k hAN.a) (σ_bs G n0 _ _ hAN.a) rfl gW_X1 0 (by decide) gF_X0_55 rfl dX0_keepOld_17 ?_
        refine w_iload_n X dX0_keepOld_20 rfl ?_
        refine s_aald X (t := 2) (i) (isBs_k1 hAN.a) (σ_r1 G n0 _ _ hAN.a) rfl dX0_keepOld_21 ?_
        refine s_callVi X _ (c_X3_sum (l := l) (G := G) (n0 := n0) hcr) gM_X0_64 gI_yX3_sum gS_yX3_sum gN_X3 gC_yX3_sum (isCr_k hcr) (σ_cr G n0 _ _ hcr) rfl dX0_keepOld_22 hl_yX3_sum ⟨Nat.le_of_ble_eq_true rfl, Nat.le_of_ble_eq_true rfl⟩ (Nat.le_of_ble_eq_true rfl) rfl (fun r1 mi1 mr1 h1 => ?_)
        obtain ⟨rfl, rfl, h1⟩ := h1
        rw [eA1, hrw] at h1
        refine w_iload_n X dX0_keepOld_25 rfl ?_
        refine w_icmp_ne X 65 dX0_keepOld_26 (by decide) (fun c26_2 => ?_) (fun c26_2 => ?_)
        ·
          refine w_iinc3_2 X dX0_keepOld_65 ?_
          refine w_goto X 2 dX0_keepOld_68 (by decide) ?_
          exact ih_loop _ (by omega) mi' mr' (i + 1) none (by omega) hG (fun i2 hi2 hs2 => by
            rcases (show i2 < i ∨ i2 = i by omega) with q | q
            · exact hc i2 q hs2
            · subst q; omega) rfl
        ·
          refine w_aload_n X dX0_keepOld_29 rfl ?_
          refine w_get X (by decide) (σ_44 G n0 _ _) rfl gW_X0 5 (by decide) gF_X0_37 rfl dX0_keepOld_30 ?_
          rw [hN']
          refine w_aload_n X dX0_keepOld_33 rfl ?_
          refine w_get X (by decide) (σ_44 G n0 _ _) rfl gW_X0 4 (by decide) gF_X0_33 rfl dX0_keepOld_34 ?_
          rw [hA']
          refine w_getN X (isBs_k hAN.a) (σ_bs G n0 _ _ hAN.a) rfl gW_X1 0 (by decide) gF_X0_55 rfl dX0_keepOld_37 ?_
          refine w_iload_n X dX0_keepOld_40 rfl ?_
          refine s_aald X (t := 2) (i) (isBs_k1 hAN.a) (σ_r1 G n0 _ _ hAN.a) rfl dX0_keepOld_41 ?_
          refine s_callVi X _ (c_X1_cover (l := l) (G := G) (n0 := n0) hG.1 hcr hcb) gM_X0_48 gI_yX1_cover gS_yX1_cover gN_X1 gC_yX1_cover (isBs_k hAN.b) (σ_bs G n0 _ _ hAN.b) rfl dX0_keepOld_42 hl_yX1_cover ⟨Nat.le_of_ble_eq_true rfl, Nat.le_of_ble_eq_true rfl⟩ (Nat.le_of_ble_eq_true rfl) rfl (fun r2 mi2 mr2 h2 => ?_)
          obtain ⟨rfl, rfl, h2⟩ := h2
          have h2 := cov_E h2
          refine w_if_ne X 65 dX0_keepOld_45 (by decide) (fun c45_3 => ?_) (fun c45_3 => ?_)
          ·
            refine w_iinc3_2 X dX0_keepOld_65 ?_
            refine w_goto X 2 dX0_keepOld_68 (by decide) ?_
            exact ih_loop _ (by omega) mi' mr' (i + 1) none (by omega) hG (fun i2 hi2 hs2 => by
              rcases (show i2 < i ∨ i2 = i by omega) with q | q
              · exact hc i2 q hs2
              · subst q
                left
                rcases h2 with ⟨-, q2⟩ | ⟨q2, -⟩
                · rw [eA1, hrw] at q2; exact q2
                · exact absurd q2 (by assumption)) rfl
          ·
            have hunc : ∀ y ∈ Ef mi' mr' N, ¬ gv (T5 (mi' (mr' (A + 1) i + 1))) y.1 := by
              rcases h2 with ⟨q2, -⟩ | ⟨-, q2⟩
              · omega
              · exact q2
            refine w_aload_n X dX0_keepOld_48 rfl ?_
            refine w_get X (by decide) (σ_44 G n0 _ _) rfl gW_X0 5 (by decide) gF_X0_37 rfl dX0_keepOld_49 ?_
            rw [hN']
            refine w_aload_n X dX0_keepOld_52 rfl ?_
            refine w_get X (by decide) (σ_44 G n0 _ _) rfl gW_X0 4 (by decide) gF_X0_33 rfl dX0_keepOld_53 ?_
            rw [hA']
            refine w_getN X (isBs_k hAN.a) (σ_bs G n0 _ _ hAN.a) rfl gW_X1 0 (by decide) gF_X0_55 rfl dX0_keepOld_56 ?_
            refine w_iload_n X dX0_keepOld_59 rfl ?_
            refine s_aald X (t := 2) (i) (isBs_k1 hAN.a) (σ_r1 G n0 _ _ hAN.a) rfl dX0_keepOld_60 ?_
            refine w_iconst X dX0_keepOld_61 ?_
            refine s_callVv X _ (c_X1_take (l := l) (G := G) (n0 := n0) (Or.inl rfl) hG.1 hcr hcb hown) gM_X0_90 gI_yX1_take gS_yX1_take gN_X1 gC_yX1_take (isBs_k hAN.b) (σ_bs G n0 _ _ hAN.b) rfl dX0_keepOld_62 hl_yX1_take ⟨Nat.le_of_ble_eq_true rfl, Nat.le_of_ble_eq_true rfl⟩ (Nat.le_of_ble_eq_true rfl) rfl (fun mi3 mr3 h3 => ?_)
            refine w_iinc3_2 X dX0_keepOld_65 ?_
            refine w_goto X 2 dX0_keepOld_68 (by decide) ?_
            have hT5 : T5 (mi' (mr' (A + 1) i + 1)) = T5 (mi (mr (A + 1) i + 1)) := by rw [eA1, hrw]
            obtain ⟨hG2, hin⟩ := take_G (X := nX) (P := (fun y => y.2 = 0 ∧ (∃ u ∈ Ef mi mr A, u.1 = y.1) ∧ sm y.1 = t)) hG.1 (Or.inl rfl) hcb hG.2.1 hG.2.2.1 hunc (by rw [hT5]; exact ⟨rfl, ⟨_, Ef_mem.mpr ⟨i, by omega, rfl⟩, rfl⟩, by rw [sm_T]; omega⟩) h3
            exact ih_loop _ (by omega) mi3 mr3 (i + 1) none (by omega) (Grw_t hG hG2) (fun i2 hi2 hs2 => by
              rcases (show i2 < i ∨ i2 = i by omega) with q | q
              · rcases hc i2 q hs2 with ⟨y, hy, hy2⟩ | q2
                · exact Or.inl ⟨y, hG2.2.2.2.1 y hy, hy2⟩
                · right; have := hG2.2.2.2.2.2.2.2; omega
              · subst q
                rcases hin with q2 | q2
                · left; exact ⟨_, q2, by rw [hT5]; exact gv_r _⟩
                · exact Or.inr q2) rfl
  exact loop _ mi mr 0 none (by omega) (Grw_r hBN hSN hFN) (fun i hi => absurd hi (by omega)) rfl
end
