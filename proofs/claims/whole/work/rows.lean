section
/-- a private method of a class that the tables say can be made, by its rows of tables_1 -/
def lw_okq (q : MethodName × Nat) : Prop := (q.1.cls ≠ "java/lang/invoke/MethodHandle" ∧ q.1.cls ≠ "java/lang/invoke/VarHandle") ∧ Cond.instantiable q.1.cls q.2 ∈ tables_1 ∧ Cond.privateMethod q.1 ∈ tables_1 ∧ Cond.instanceMethod q.1 ∈ tables_1
theorem lw_p0 : lw_okq (⟨"CodeCover$Moves", "listSources", "(I)V"⟩, 6) := ⟨⟨by decide +kernel, by decide +kernel⟩, List.mem_of_getElem? (i := 279) (by decide +kernel), List.mem_of_getElem? (i := 285) (by decide +kernel), List.mem_of_getElem? (i := 286) (by decide +kernel)⟩
theorem lw_p1 : lw_okq (⟨"CodeCover$Pad", "firstFault", "(Z)I"⟩, 3) := ⟨⟨by decide +kernel, by decide +kernel⟩, List.mem_of_getElem? (i := 25) (by decide +kernel), List.mem_of_getElem? (i := 414) (by decide +kernel), List.mem_of_getElem? (i := 415) (by decide +kernel)⟩
theorem lw_p2 : lw_okq (⟨"CodeCover$Pad", "deepestOpen", "(I)I"⟩, 3) := ⟨⟨by decide +kernel, by decide +kernel⟩, List.mem_of_getElem? (i := 25) (by decide +kernel), List.mem_of_getElem? (i := 436) (by decide +kernel), List.mem_of_getElem? (i := 437) (by decide +kernel)⟩
theorem lw_p3 : lw_okq (⟨"CodeCover$Tree", "measure", "(I)V"⟩, 5) := ⟨⟨by decide +kernel, by decide +kernel⟩, List.mem_of_getElem? (i := 47) (by decide +kernel), List.mem_of_getElem? (i := 451) (by decide +kernel), List.mem_of_getElem? (i := 452) (by decide +kernel)⟩
theorem lw_p4 : lw_okq (⟨"CodeCover$Tree", "firstPart", "(I)I"⟩, 5) := ⟨⟨by decide +kernel, by decide +kernel⟩, List.mem_of_getElem? (i := 47) (by decide +kernel), List.mem_of_getElem? (i := 455) (by decide +kernel), List.mem_of_getElem? (i := 456) (by decide +kernel)⟩
theorem lw_p5 : lw_okq (⟨"CodeCover$Tree", "secondPart", "(I)I"⟩, 5) := ⟨⟨by decide +kernel, by decide +kernel⟩, List.mem_of_getElem? (i := 47) (by decide +kernel), List.mem_of_getElem? (i := 460) (by decide +kernel), List.mem_of_getElem? (i := 461) (by decide +kernel)⟩
theorem lw_p6 : lw_okq (⟨"CodeCover$Covering", "coverPlainly", "(I)V"⟩, 10) := ⟨⟨by decide +kernel, by decide +kernel⟩, List.mem_of_getElem? (i := 108) (by decide +kernel), List.mem_of_getElem? (i := 519) (by decide +kernel), List.mem_of_getElem? (i := 520) (by decide +kernel)⟩
theorem lw_p7 : lw_okq (⟨"CodeCover$Covering", "costOf", "(II)I"⟩, 10) := ⟨⟨by decide +kernel, by decide +kernel⟩, List.mem_of_getElem? (i := 108) (by decide +kernel), List.mem_of_getElem? (i := 531) (by decide +kernel), List.mem_of_getElem? (i := 532) (by decide +kernel)⟩
theorem lw_p8 : lw_okq (⟨"CodeCover$Covering", "coverWithChains", "(I)V"⟩, 10) := ⟨⟨by decide +kernel, by decide +kernel⟩, List.mem_of_getElem? (i := 108) (by decide +kernel), List.mem_of_getElem? (i := 542) (by decide +kernel), List.mem_of_getElem? (i := 543) (by decide +kernel)⟩
theorem lw_p9 : lw_okq (⟨"CodeCover$Covering", "tell", "(III)V"⟩, 10) := ⟨⟨by decide +kernel, by decide +kernel⟩, List.mem_of_getElem? (i := 108) (by decide +kernel), List.mem_of_getElem? (i := 546) (by decide +kernel), List.mem_of_getElem? (i := 547) (by decide +kernel)⟩
theorem lw_p10 : lw_okq (⟨"CodeCover$Covering", "tellPlain", "(III)V"⟩, 10) := ⟨⟨by decide +kernel, by decide +kernel⟩, List.mem_of_getElem? (i := 108) (by decide +kernel), List.mem_of_getElem? (i := 550) (by decide +kernel), List.mem_of_getElem? (i := 551) (by decide +kernel)⟩
theorem lw_p11 : lw_okq (⟨"CodeCover$Covering", "tellOne", "(II)V"⟩, 10) := ⟨⟨by decide +kernel, by decide +kernel⟩, List.mem_of_getElem? (i := 108) (by decide +kernel), List.mem_of_getElem? (i := 554) (by decide +kernel), List.mem_of_getElem? (i := 555) (by decide +kernel)⟩
theorem lw_p12 : lw_okq (⟨"CodeCover$Row", "findCycles", "()V"⟩, 5) := ⟨⟨by decide +kernel, by decide +kernel⟩, List.mem_of_getElem? (i := 151) (by decide +kernel), List.mem_of_getElem? (i := 606) (by decide +kernel), List.mem_of_getElem? (i := 607) (by decide +kernel)⟩
theorem lw_p13 : lw_okq (⟨"CodeCover$Row", "setterAhead", "(II)I"⟩, 5) := ⟨⟨by decide +kernel, by decide +kernel⟩, List.mem_of_getElem? (i := 151) (by decide +kernel), List.mem_of_getElem? (i := 614) (by decide +kernel), List.mem_of_getElem? (i := 615) (by decide +kernel)⟩
theorem lw_p14 : lw_okq (⟨"CodeCover$Row", "readyAt", "(I)I"⟩, 5) := ⟨⟨by decide +kernel, by decide +kernel⟩, List.mem_of_getElem? (i := 151) (by decide +kernel), List.mem_of_getElem? (i := 618) (by decide +kernel), List.mem_of_getElem? (i := 619) (by decide +kernel)⟩
theorem lw_p15 : lw_okq (⟨"CodeCover$Order", "prepare", "(I)V"⟩, 12) := ⟨⟨by decide +kernel, by decide +kernel⟩, List.mem_of_getElem? (i := 184) (by decide +kernel), List.mem_of_getElem? (i := 656) (by decide +kernel), List.mem_of_getElem? (i := 657) (by decide +kernel)⟩
def lw_privs_1 : List (MethodName × Nat) := [(⟨"CodeCover$Moves", "listSources", "(I)V"⟩, 6), (⟨"CodeCover$Pad", "firstFault", "(Z)I"⟩, 3), (⟨"CodeCover$Pad", "deepestOpen", "(I)I"⟩, 3), (⟨"CodeCover$Tree", "measure", "(I)V"⟩, 5), (⟨"CodeCover$Tree", "firstPart", "(I)I"⟩, 5), (⟨"CodeCover$Tree", "secondPart", "(I)I"⟩, 5), (⟨"CodeCover$Covering", "coverPlainly", "(I)V"⟩, 10), (⟨"CodeCover$Covering", "costOf", "(II)I"⟩, 10), (⟨"CodeCover$Covering", "coverWithChains", "(I)V"⟩, 10), (⟨"CodeCover$Covering", "tell", "(III)V"⟩, 10), (⟨"CodeCover$Covering", "tellPlain", "(III)V"⟩, 10), (⟨"CodeCover$Covering", "tellOne", "(II)V"⟩, 10), (⟨"CodeCover$Row", "findCycles", "()V"⟩, 5), (⟨"CodeCover$Row", "setterAhead", "(II)I"⟩, 5), (⟨"CodeCover$Row", "readyAt", "(I)I"⟩, 5), (⟨"CodeCover$Order", "prepare", "(I)V"⟩, 12)]
theorem lw_r1 : ∀ q ∈ lw_privs_1, lw_okq q := List.forall_mem_cons.mpr ⟨lw_p0, List.forall_mem_cons.mpr ⟨lw_p1, List.forall_mem_cons.mpr ⟨lw_p2, List.forall_mem_cons.mpr ⟨lw_p3, List.forall_mem_cons.mpr ⟨lw_p4, List.forall_mem_cons.mpr ⟨lw_p5, List.forall_mem_cons.mpr ⟨lw_p6, List.forall_mem_cons.mpr ⟨lw_p7, List.forall_mem_cons.mpr ⟨lw_p8, List.forall_mem_cons.mpr ⟨lw_p9, List.forall_mem_cons.mpr ⟨lw_p10, List.forall_mem_cons.mpr ⟨lw_p11, List.forall_mem_cons.mpr ⟨lw_p12, List.forall_mem_cons.mpr ⟨lw_p13, List.forall_mem_cons.mpr ⟨lw_p14, List.forall_mem_cons.mpr ⟨lw_p15, fun _ h => absurd h List.not_mem_nil⟩⟩⟩⟩⟩⟩⟩⟩⟩⟩⟩⟩⟩⟩⟩⟩
theorem lw_p16 : lw_okq (⟨"CodeCover$Order", "rankByTail", "(I)V"⟩, 12) := ⟨⟨by decide +kernel, by decide +kernel⟩, List.mem_of_getElem? (i := 184) (by decide +kernel), List.mem_of_getElem? (i := 664) (by decide +kernel), List.mem_of_getElem? (i := 665) (by decide +kernel)⟩
theorem lw_p17 : lw_okq (⟨"CodeCover$Order", "extend", "(III)V"⟩, 12) := ⟨⟨by decide +kernel, by decide +kernel⟩, List.mem_of_getElem? (i := 184) (by decide +kernel), List.mem_of_getElem? (i := 669) (by decide +kernel), List.mem_of_getElem? (i := 670) (by decide +kernel)⟩
theorem lw_p18 : lw_okq (⟨"CodeCover$Order", "endAtLeast", "(II)I"⟩, 12) := ⟨⟨by decide +kernel, by decide +kernel⟩, List.mem_of_getElem? (i := 184) (by decide +kernel), List.mem_of_getElem? (i := 673) (by decide +kernel), List.mem_of_getElem? (i := 674) (by decide +kernel)⟩
theorem lw_p19 : lw_okq (⟨"CodeCover$Order", "readyFor", "(II)I"⟩, 12) := ⟨⟨by decide +kernel, by decide +kernel⟩, List.mem_of_getElem? (i := 184) (by decide +kernel), List.mem_of_getElem? (i := 677) (by decide +kernel), List.mem_of_getElem? (i := 678) (by decide +kernel)⟩
theorem lw_p20 : lw_okq (⟨"CodeCover$Order", "readyAt", "(II)I"⟩, 12) := ⟨⟨by decide +kernel, by decide +kernel⟩, List.mem_of_getElem? (i := 184) (by decide +kernel), List.mem_of_getElem? (i := 681) (by decide +kernel), List.mem_of_getElem? (i := 682) (by decide +kernel)⟩
theorem lw_p21 : lw_okq (⟨"CodeCover$Lifetimes", "choose", "(IIII)V"⟩, 6) := ⟨⟨by decide +kernel, by decide +kernel⟩, List.mem_of_getElem? (i := 229) (by decide +kernel), List.mem_of_getElem? (i := 748) (by decide +kernel), List.mem_of_getElem? (i := 749) (by decide +kernel)⟩
theorem lw_p22 : lw_okq (⟨"CodeCover$Lifetimes", "hasRoom", "(II)Z"⟩, 6) := ⟨⟨by decide +kernel, by decide +kernel⟩, List.mem_of_getElem? (i := 229) (by decide +kernel), List.mem_of_getElem? (i := 752) (by decide +kernel), List.mem_of_getElem? (i := 753) (by decide +kernel)⟩
theorem lw_p23 : lw_okq (⟨"CodeCover$Lifetimes", "count", "(II)V"⟩, 6) := ⟨⟨by decide +kernel, by decide +kernel⟩, List.mem_of_getElem? (i := 229) (by decide +kernel), List.mem_of_getElem? (i := 756) (by decide +kernel), List.mem_of_getElem? (i := 757) (by decide +kernel)⟩
theorem lw_p24 : lw_okq (⟨"CodeCover$Search", "doesAll", "(I)Z"⟩, 13) := ⟨⟨by decide +kernel, by decide +kernel⟩, List.mem_of_getElem? (i := 273) (by decide +kernel), List.mem_of_getElem? (i := 793) (by decide +kernel), List.mem_of_getElem? (i := 794) (by decide +kernel)⟩
theorem lw_p25 : lw_okq (⟨"CodeCover$Search", "find", "(III)Z"⟩, 13) := ⟨⟨by decide +kernel, by decide +kernel⟩, List.mem_of_getElem? (i := 273) (by decide +kernel), List.mem_of_getElem? (i := 798) (by decide +kernel), List.mem_of_getElem? (i := 799) (by decide +kernel)⟩
theorem lw_p26 : lw_okq (⟨"CodeCover$Search", "endsWith", "(III)Z"⟩, 13) := ⟨⟨by decide +kernel, by decide +kernel⟩, List.mem_of_getElem? (i := 273) (by decide +kernel), List.mem_of_getElem? (i := 802) (by decide +kernel), List.mem_of_getElem? (i := 803) (by decide +kernel)⟩
theorem lw_p27 : lw_okq (⟨"CodeCover$Search", "goesOn", "(III)Z"⟩, 13) := ⟨⟨by decide +kernel, by decide +kernel⟩, List.mem_of_getElem? (i := 273) (by decide +kernel), List.mem_of_getElem? (i := 806) (by decide +kernel), List.mem_of_getElem? (i := 807) (by decide +kernel)⟩
theorem lw_p28 : lw_okq (⟨"CodeCoverModel", "walk", "(Z)I"⟩, 45) := ⟨⟨by decide +kernel, by decide +kernel⟩, List.mem_of_getElem? (i := 831) (by decide +kernel), List.mem_of_getElem? (i := 990) (by decide +kernel), List.mem_of_getElem? (i := 991) (by decide +kernel)⟩
theorem lw_p29 : lw_okq (⟨"CodeCoverModel", "depthOf", "(I)I"⟩, 45) := ⟨⟨by decide +kernel, by decide +kernel⟩, List.mem_of_getElem? (i := 831) (by decide +kernel), List.mem_of_getElem? (i := 997) (by decide +kernel), List.mem_of_getElem? (i := 998) (by decide +kernel)⟩
theorem lw_p30 : lw_okq (⟨"CodeCoverModel", "closed", "(I)I"⟩, 45) := ⟨⟨by decide +kernel, by decide +kernel⟩, List.mem_of_getElem? (i := 831) (by decide +kernel), List.mem_of_getElem? (i := 1014) (by decide +kernel), List.mem_of_getElem? (i := 1015) (by decide +kernel)⟩
theorem lw_p31 : lw_okq (⟨"CodeCoverModel", "isNode", "(I)Z"⟩, 45) := ⟨⟨by decide +kernel, by decide +kernel⟩, List.mem_of_getElem? (i := 831) (by decide +kernel), List.mem_of_getElem? (i := 1026) (by decide +kernel), List.mem_of_getElem? (i := 1027) (by decide +kernel)⟩
def lw_privs_2 : List (MethodName × Nat) := [(⟨"CodeCover$Order", "rankByTail", "(I)V"⟩, 12), (⟨"CodeCover$Order", "extend", "(III)V"⟩, 12), (⟨"CodeCover$Order", "endAtLeast", "(II)I"⟩, 12), (⟨"CodeCover$Order", "readyFor", "(II)I"⟩, 12), (⟨"CodeCover$Order", "readyAt", "(II)I"⟩, 12), (⟨"CodeCover$Lifetimes", "choose", "(IIII)V"⟩, 6), (⟨"CodeCover$Lifetimes", "hasRoom", "(II)Z"⟩, 6), (⟨"CodeCover$Lifetimes", "count", "(II)V"⟩, 6), (⟨"CodeCover$Search", "doesAll", "(I)Z"⟩, 13), (⟨"CodeCover$Search", "find", "(III)Z"⟩, 13), (⟨"CodeCover$Search", "endsWith", "(III)Z"⟩, 13), (⟨"CodeCover$Search", "goesOn", "(III)Z"⟩, 13), (⟨"CodeCoverModel", "walk", "(Z)I"⟩, 45), (⟨"CodeCoverModel", "depthOf", "(I)I"⟩, 45), (⟨"CodeCoverModel", "closed", "(I)I"⟩, 45), (⟨"CodeCoverModel", "isNode", "(I)Z"⟩, 45)]
theorem lw_r2 : ∀ q ∈ lw_privs_2, lw_okq q := List.forall_mem_cons.mpr ⟨lw_p16, List.forall_mem_cons.mpr ⟨lw_p17, List.forall_mem_cons.mpr ⟨lw_p18, List.forall_mem_cons.mpr ⟨lw_p19, List.forall_mem_cons.mpr ⟨lw_p20, List.forall_mem_cons.mpr ⟨lw_p21, List.forall_mem_cons.mpr ⟨lw_p22, List.forall_mem_cons.mpr ⟨lw_p23, List.forall_mem_cons.mpr ⟨lw_p24, List.forall_mem_cons.mpr ⟨lw_p25, List.forall_mem_cons.mpr ⟨lw_p26, List.forall_mem_cons.mpr ⟨lw_p27, List.forall_mem_cons.mpr ⟨lw_p28, List.forall_mem_cons.mpr ⟨lw_p29, List.forall_mem_cons.mpr ⟨lw_p30, List.forall_mem_cons.mpr ⟨lw_p31, fun _ h => absurd h List.not_mem_nil⟩⟩⟩⟩⟩⟩⟩⟩⟩⟩⟩⟩⟩⟩⟩⟩
theorem lw_p32 : lw_okq (⟨"CodeCoverModel", "findNeeds", "()V"⟩, 45) := ⟨⟨by decide +kernel, by decide +kernel⟩, List.mem_of_getElem? (i := 831) (by decide +kernel), List.mem_of_getElem? (i := 1030) (by decide +kernel), List.mem_of_getElem? (i := 1031) (by decide +kernel)⟩
theorem lw_p33 : lw_okq (⟨"CodeCoverModel", "endOf", "(I)I"⟩, 45) := ⟨⟨by decide +kernel, by decide +kernel⟩, List.mem_of_getElem? (i := 831) (by decide +kernel), List.mem_of_getElem? (i := 1034) (by decide +kernel), List.mem_of_getElem? (i := 1035) (by decide +kernel)⟩
theorem lw_p34 : lw_okq (⟨"CodeCoverModel", "findCover", "()V"⟩, 45) := ⟨⟨by decide +kernel, by decide +kernel⟩, List.mem_of_getElem? (i := 831) (by decide +kernel), List.mem_of_getElem? (i := 1061) (by decide +kernel), List.mem_of_getElem? (i := 1062) (by decide +kernel)⟩
theorem lw_p35 : lw_okq (⟨"CodeCoverModel", "isChain", "(I)Z"⟩, 45) := ⟨⟨by decide +kernel, by decide +kernel⟩, List.mem_of_getElem? (i := 831) (by decide +kernel), List.mem_of_getElem? (i := 1066) (by decide +kernel), List.mem_of_getElem? (i := 1067) (by decide +kernel)⟩
theorem lw_p36 : lw_okq (⟨"CodeCoverModel", "costAt", "(II)I"⟩, 45) := ⟨⟨by decide +kernel, by decide +kernel⟩, List.mem_of_getElem? (i := 831) (by decide +kernel), List.mem_of_getElem? (i := 1070) (by decide +kernel), List.mem_of_getElem? (i := 1071) (by decide +kernel)⟩
theorem lw_p37 : lw_okq (⟨"CodeCoverModel", "findCode", "()V"⟩, 45) := ⟨⟨by decide +kernel, by decide +kernel⟩, List.mem_of_getElem? (i := 831) (by decide +kernel), List.mem_of_getElem? (i := 1078) (by decide +kernel), List.mem_of_getElem? (i := 1079) (by decide +kernel)⟩
theorem lw_p38 : lw_okq (⟨"CodeCoverModel", "later", "(III)V"⟩, 45) := ⟨⟨by decide +kernel, by decide +kernel⟩, List.mem_of_getElem? (i := 831) (by decide +kernel), List.mem_of_getElem? (i := 1082) (by decide +kernel), List.mem_of_getElem? (i := 1083) (by decide +kernel)⟩
theorem lw_p39 : lw_okq (⟨"CodeCoverModel", "laterParts", "(II)V"⟩, 45) := ⟨⟨by decide +kernel, by decide +kernel⟩, List.mem_of_getElem? (i := 831) (by decide +kernel), List.mem_of_getElem? (i := 1086) (by decide +kernel), List.mem_of_getElem? (i := 1087) (by decide +kernel)⟩
theorem lw_p40 : lw_okq (⟨"CodeCoverModel", "isInstruction", "(I)Z"⟩, 45) := ⟨⟨by decide +kernel, by decide +kernel⟩, List.mem_of_getElem? (i := 831) (by decide +kernel), List.mem_of_getElem? (i := 1113) (by decide +kernel), List.mem_of_getElem? (i := 1114) (by decide +kernel)⟩
theorem lw_p41 : lw_okq (⟨"CodeCoverModel", "endAsWritten", "()I"⟩, 45) := ⟨⟨by decide +kernel, by decide +kernel⟩, List.mem_of_getElem? (i := 831) (by decide +kernel), List.mem_of_getElem? (i := 1117) (by decide +kernel), List.mem_of_getElem? (i := 1118) (by decide +kernel)⟩
theorem lw_p42 : lw_okq (⟨"CodeCoverModel", "startOf", "(I)I"⟩, 45) := ⟨⟨by decide +kernel, by decide +kernel⟩, List.mem_of_getElem? (i := 831) (by decide +kernel), List.mem_of_getElem? (i := 1121) (by decide +kernel), List.mem_of_getElem? (i := 1122) (by decide +kernel)⟩
theorem lw_p43 : lw_okq (⟨"CodeCoverModel", "uses", "(II)Z"⟩, 45) := ⟨⟨by decide +kernel, by decide +kernel⟩, List.mem_of_getElem? (i := 831) (by decide +kernel), List.mem_of_getElem? (i := 1125) (by decide +kernel), List.mem_of_getElem? (i := 1126) (by decide +kernel)⟩
theorem lw_p44 : lw_okq (⟨"CodeCoverModel", "mustLead", "(II)Z"⟩, 45) := ⟨⟨by decide +kernel, by decide +kernel⟩, List.mem_of_getElem? (i := 831) (by decide +kernel), List.mem_of_getElem? (i := 1137) (by decide +kernel), List.mem_of_getElem? (i := 1138) (by decide +kernel)⟩
theorem lw_p45 : lw_okq (⟨"CodeCoverModel", "findBest", "()V"⟩, 45) := ⟨⟨by decide +kernel, by decide +kernel⟩, List.mem_of_getElem? (i := 831) (by decide +kernel), List.mem_of_getElem? (i := 1145) (by decide +kernel), List.mem_of_getElem? (i := 1146) (by decide +kernel)⟩
theorem lw_p46 : lw_okq (⟨"CodeCoverModel", "mayStand", "(II)Z"⟩, 45) := ⟨⟨by decide +kernel, by decide +kernel⟩, List.mem_of_getElem? (i := 831) (by decide +kernel), List.mem_of_getElem? (i := 1149) (by decide +kernel), List.mem_of_getElem? (i := 1150) (by decide +kernel)⟩
theorem lw_p47 : lw_okq (⟨"CodeCoverModel", "leastEnd", "(I)I"⟩, 45) := ⟨⟨by decide +kernel, by decide +kernel⟩, List.mem_of_getElem? (i := 831) (by decide +kernel), List.mem_of_getElem? (i := 1153) (by decide +kernel), List.mem_of_getElem? (i := 1154) (by decide +kernel)⟩
def lw_privs_3 : List (MethodName × Nat) := [(⟨"CodeCoverModel", "findNeeds", "()V"⟩, 45), (⟨"CodeCoverModel", "endOf", "(I)I"⟩, 45), (⟨"CodeCoverModel", "findCover", "()V"⟩, 45), (⟨"CodeCoverModel", "isChain", "(I)Z"⟩, 45), (⟨"CodeCoverModel", "costAt", "(II)I"⟩, 45), (⟨"CodeCoverModel", "findCode", "()V"⟩, 45), (⟨"CodeCoverModel", "later", "(III)V"⟩, 45), (⟨"CodeCoverModel", "laterParts", "(II)V"⟩, 45), (⟨"CodeCoverModel", "isInstruction", "(I)Z"⟩, 45), (⟨"CodeCoverModel", "endAsWritten", "()I"⟩, 45), (⟨"CodeCoverModel", "startOf", "(I)I"⟩, 45), (⟨"CodeCoverModel", "uses", "(II)Z"⟩, 45), (⟨"CodeCoverModel", "mustLead", "(II)Z"⟩, 45), (⟨"CodeCoverModel", "findBest", "()V"⟩, 45), (⟨"CodeCoverModel", "mayStand", "(II)Z"⟩, 45), (⟨"CodeCoverModel", "leastEnd", "(I)I"⟩, 45)]
theorem lw_r3 : ∀ q ∈ lw_privs_3, lw_okq q := List.forall_mem_cons.mpr ⟨lw_p32, List.forall_mem_cons.mpr ⟨lw_p33, List.forall_mem_cons.mpr ⟨lw_p34, List.forall_mem_cons.mpr ⟨lw_p35, List.forall_mem_cons.mpr ⟨lw_p36, List.forall_mem_cons.mpr ⟨lw_p37, List.forall_mem_cons.mpr ⟨lw_p38, List.forall_mem_cons.mpr ⟨lw_p39, List.forall_mem_cons.mpr ⟨lw_p40, List.forall_mem_cons.mpr ⟨lw_p41, List.forall_mem_cons.mpr ⟨lw_p42, List.forall_mem_cons.mpr ⟨lw_p43, List.forall_mem_cons.mpr ⟨lw_p44, List.forall_mem_cons.mpr ⟨lw_p45, List.forall_mem_cons.mpr ⟨lw_p46, List.forall_mem_cons.mpr ⟨lw_p47, fun _ h => absurd h List.not_mem_nil⟩⟩⟩⟩⟩⟩⟩⟩⟩⟩⟩⟩⟩⟩⟩⟩
theorem lw_p48 : lw_okq (⟨"CodeCoverModel", "keepAside", "()V"⟩, 45) := ⟨⟨by decide +kernel, by decide +kernel⟩, List.mem_of_getElem? (i := 831) (by decide +kernel), List.mem_of_getElem? (i := 1161) (by decide +kernel), List.mem_of_getElem? (i := 1162) (by decide +kernel)⟩
theorem lw_p49 : lw_okq (⟨"CodeCoverModel", "lay", "(II)V"⟩, 45) := ⟨⟨by decide +kernel, by decide +kernel⟩, List.mem_of_getElem? (i := 831) (by decide +kernel), List.mem_of_getElem? (i := 1165) (by decide +kernel), List.mem_of_getElem? (i := 1166) (by decide +kernel)⟩
theorem lw_p50 : lw_okq (⟨"CodeCoverModel", "livesTo", "(I)I"⟩, 45) := ⟨⟨by decide +kernel, by decide +kernel⟩, List.mem_of_getElem? (i := 831) (by decide +kernel), List.mem_of_getElem? (i := 1183) (by decide +kernel), List.mem_of_getElem? (i := 1184) (by decide +kernel)⟩
theorem lw_p51 : lw_okq (⟨"CodeCoverModel", "placeOf", "(I)I"⟩, 45) := ⟨⟨by decide +kernel, by decide +kernel⟩, List.mem_of_getElem? (i := 831) (by decide +kernel), List.mem_of_getElem? (i := 1191) (by decide +kernel), List.mem_of_getElem? (i := 1192) (by decide +kernel)⟩
theorem lw_p52 : lw_okq (⟨"CodeCoverModel", "weightOf", "(I)I"⟩, 45) := ⟨⟨by decide +kernel, by decide +kernel⟩, List.mem_of_getElem? (i := 831) (by decide +kernel), List.mem_of_getElem? (i := 1207) (by decide +kernel), List.mem_of_getElem? (i := 1208) (by decide +kernel)⟩
theorem lw_p53 : lw_okq (⟨"CodeCoverModel", "isEnough", "(II)Z"⟩, 45) := ⟨⟨by decide +kernel, by decide +kernel⟩, List.mem_of_getElem? (i := 831) (by decide +kernel), List.mem_of_getElem? (i := 1211) (by decide +kernel), List.mem_of_getElem? (i := 1212) (by decide +kernel)⟩
theorem lw_p54 : lw_okq (⟨"CodeCoverModel", "runRow", "(II)V"⟩, 45) := ⟨⟨by decide +kernel, by decide +kernel⟩, List.mem_of_getElem? (i := 831) (by decide +kernel), List.mem_of_getElem? (i := 1223) (by decide +kernel), List.mem_of_getElem? (i := 1224) (by decide +kernel)⟩
theorem lw_p55 : lw_okq (⟨"CodeCoverModel", "begin", "(II)V"⟩, 45) := ⟨⟨by decide +kernel, by decide +kernel⟩, List.mem_of_getElem? (i := 831) (by decide +kernel), List.mem_of_getElem? (i := 1227) (by decide +kernel), List.mem_of_getElem? (i := 1228) (by decide +kernel)⟩
theorem lw_p56 : lw_okq (⟨"CodeCoverModel", "layShorts", "()V"⟩, 45) := ⟨⟨by decide +kernel, by decide +kernel⟩, List.mem_of_getElem? (i := 831) (by decide +kernel), List.mem_of_getElem? (i := 1239) (by decide +kernel), List.mem_of_getElem? (i := 1240) (by decide +kernel)⟩
theorem lw_p57 : lw_okq (⟨"CodeCoverModel", "findRow", "(I)Z"⟩, 45) := ⟨⟨by decide +kernel, by decide +kernel⟩, List.mem_of_getElem? (i := 831) (by decide +kernel), List.mem_of_getElem? (i := 1243) (by decide +kernel), List.mem_of_getElem? (i := 1244) (by decide +kernel)⟩
theorem lw_p58 : lw_okq (⟨"CodeCoverModel", "isAlike", "(I)Z"⟩, 45) := ⟨⟨by decide +kernel, by decide +kernel⟩, List.mem_of_getElem? (i := 831) (by decide +kernel), List.mem_of_getElem? (i := 1248) (by decide +kernel), List.mem_of_getElem? (i := 1249) (by decide +kernel)⟩
def lw_privs_4 : List (MethodName × Nat) := [(⟨"CodeCoverModel", "keepAside", "()V"⟩, 45), (⟨"CodeCoverModel", "lay", "(II)V"⟩, 45), (⟨"CodeCoverModel", "livesTo", "(I)I"⟩, 45), (⟨"CodeCoverModel", "placeOf", "(I)I"⟩, 45), (⟨"CodeCoverModel", "weightOf", "(I)I"⟩, 45), (⟨"CodeCoverModel", "isEnough", "(II)Z"⟩, 45), (⟨"CodeCoverModel", "runRow", "(II)V"⟩, 45), (⟨"CodeCoverModel", "begin", "(II)V"⟩, 45), (⟨"CodeCoverModel", "layShorts", "()V"⟩, 45), (⟨"CodeCoverModel", "findRow", "(I)Z"⟩, 45), (⟨"CodeCoverModel", "isAlike", "(I)Z"⟩, 45)]
theorem lw_r4 : ∀ q ∈ lw_privs_4, lw_okq q := List.forall_mem_cons.mpr ⟨lw_p48, List.forall_mem_cons.mpr ⟨lw_p49, List.forall_mem_cons.mpr ⟨lw_p50, List.forall_mem_cons.mpr ⟨lw_p51, List.forall_mem_cons.mpr ⟨lw_p52, List.forall_mem_cons.mpr ⟨lw_p53, List.forall_mem_cons.mpr ⟨lw_p54, List.forall_mem_cons.mpr ⟨lw_p55, List.forall_mem_cons.mpr ⟨lw_p56, List.forall_mem_cons.mpr ⟨lw_p57, List.forall_mem_cons.mpr ⟨lw_p58, fun _ h => absurd h List.not_mem_nil⟩⟩⟩⟩⟩⟩⟩⟩⟩⟩⟩
def lw_privs : List (MethodName × Nat) := lw_privs_1 ++ (lw_privs_2 ++ (lw_privs_3 ++ (lw_privs_4)))
def lw_tbl : List Cond := k2_sels lw_privs ++ tables_1
theorem lw_privs_ok : ∀ q ∈ lw_privs, lw_okq q := by
  show ∀ q ∈ lw_privs_1 ++ (lw_privs_2 ++ (lw_privs_3 ++ (lw_privs_4))), lw_okq q
  exact List.forall_mem_append.mpr ⟨lw_r1, List.forall_mem_append.mpr ⟨lw_r2, List.forall_mem_append.mpr ⟨lw_r3, lw_r4⟩⟩⟩
end
section
/-! names: printed by wip/whole/gen/names.py out of the claim -/
def jm_T0 : u_T := fun k => match k with
  | 0 => ("CodeCover", "pad", "LCodeCover$Pad;", true)
  | 1 => ("CodeCover", "tree", "LCodeCover$Tree;", true)
  | 2 => ("CodeCover", "patterns", "LCodeCover$Patterns;", true)
  | 3 => ("CodeCover", "covering", "LCodeCover$Covering;", true)
  | 4 => ("CodeCover", "row", "LCodeCover$Row;", true)
  | 5 => ("CodeCover", "order", "LCodeCover$Order;", true)
  | 6 => ("CodeCover", "lifetimes", "LCodeCover$Lifetimes;", true)
  | 7 => ("CodeCover", "machine", "LCodeCover$Machine;", true)
  | _ => ("CodeCover", "search", "LCodeCover$Search;", true)
def jm_ty0 : Nat → FieldType := fun k => match k with
  | 0 => (.object "CodeCover$Pad")
  | 1 => (.object "CodeCover$Tree")
  | 2 => (.object "CodeCover$Patterns")
  | 3 => (.object "CodeCover$Covering")
  | 4 => (.object "CodeCover$Row")
  | 5 => (.object "CodeCover$Order")
  | 6 => (.object "CodeCover$Lifetimes")
  | 7 => (.object "CodeCover$Machine")
  | _ => (.object "CodeCover$Search")
def jm_T1 : u_T := fun k => match k with
  | 0 => ("CodeCover$Pad", "sign", "[I", true)
  | 1 => ("CodeCover$Pad", "open", "[I", true)
  | _ => ("CodeCover$Pad", "count", "I", false)
def jm_ty1 : Nat → FieldType := fun k => match k with
  | 0 => (.array .int)
  | 1 => (.array .int)
  | _ => .int
def jm_T2 : u_T := fun k => match k with
  | 0 => ("CodeCover$Tree", "sign", "[I", true)
  | 1 => ("CodeCover$Tree", "parent", "[I", true)
  | 2 => ("CodeCover$Tree", "size", "[I", true)
  | 3 => ("CodeCover$Tree", "need", "[I", true)
  | _ => ("CodeCover$Tree", "count", "I", false)
def jm_ty2 : Nat → FieldType := fun k => match k with
  | 0 => (.array .int)
  | 1 => (.array .int)
  | 2 => (.array .int)
  | 3 => (.array .int)
  | _ => .int
def jm_T3 : u_T := fun k => match k with
  | 0 => ("CodeCover$Patterns", "head", "[I", true)
  | 1 => ("CodeCover$Patterns", "price", "[I", true)
  | 2 => ("CodeCover$Patterns", "length", "[I", true)
  | 3 => ("CodeCover$Patterns", "text", "[[I", true)
  | _ => ("CodeCover$Patterns", "count", "I", false)
def jm_ty3 : Nat → FieldType := fun k => match k with
  | 0 => (.array .int)
  | 1 => (.array .int)
  | 2 => (.array .int)
  | 3 => (.array (.array .int))
  | _ => .int
def jm_T4 : u_T := fun k => match k with
  | 0 => ("CodeCover$Covering", "tree", "LCodeCover$Tree;", true)
  | 1 => ("CodeCover$Covering", "patterns", "LCodeCover$Patterns;", true)
  | 2 => ("CodeCover$Covering", "plainCost", "[I", true)
  | 3 => ("CodeCover$Covering", "plainBy", "[I", true)
  | 4 => ("CodeCover$Covering", "cost", "[I", true)
  | 5 => ("CodeCover$Covering", "by", "[I", true)
  | 6 => ("CodeCover$Covering", "codePattern", "[I", true)
  | 7 => ("CodeCover$Covering", "codeNode", "[I", true)
  | 8 => ("CodeCover$Covering", "codeCount", "I", false)
  | _ => ("CodeCover$Covering", "stale", "Z", false)
def jm_ty4 : Nat → FieldType := fun k => match k with
  | 0 => (.object "CodeCover$Tree")
  | 1 => (.object "CodeCover$Patterns")
  | 2 => (.array .int)
  | 3 => (.array .int)
  | 4 => (.array .int)
  | 5 => (.array .int)
  | 6 => (.array .int)
  | 7 => (.array .int)
  | 8 => .int
  | _ => .boolean
def jm_T5 : u_T := fun k => match k with
  | 0 => ("CodeCover$Row", "cells", "[[I", true)
  | 1 => ("CodeCover$Row", "cycle", "[I", true)
  | 2 => ("CodeCover$Row", "spare", "[I", true)
  | 3 => ("CodeCover$Row", "count", "I", false)
  | _ => ("CodeCover$Row", "version", "I", false)
def jm_ty5 : Nat → FieldType := fun k => match k with
  | 0 => (.array (.array .int))
  | 1 => (.array .int)
  | 2 => (.array .int)
  | 3 => .int
  | _ => .int
def jm_T6 : u_T := fun k => match k with
  | 0 => ("CodeCover$Order", "row", "LCodeCover$Row;", true)
  | 1 => ("CodeCover$Order", "needed", "[I", true)
  | 2 => ("CodeCover$Order", "firstSetter", "[I", true)
  | 3 => ("CodeCover$Order", "secondSetter", "[I", true)
  | 4 => ("CodeCover$Order", "tail", "[I", true)
  | 5 => ("CodeCover$Order", "byTail", "[I", true)
  | 6 => ("CodeCover$Order", "start", "[I", true)
  | 7 => ("CodeCover$Order", "chosen", "[I", true)
  | 8 => ("CodeCover$Order", "found", "[I", true)
  | 9 => ("CodeCover$Order", "leastEnd", "I", false)
  | 10 => ("CodeCover$Order", "count", "I", false)
  | _ => ("CodeCover$Order", "version", "I", false)
def jm_ty6 : Nat → FieldType := fun k => match k with
  | 0 => (.object "CodeCover$Row")
  | 1 => (.array .int)
  | 2 => (.array .int)
  | 3 => (.array .int)
  | 4 => (.array .int)
  | 5 => (.array .int)
  | 6 => (.array .int)
  | 7 => (.array .int)
  | 8 => (.array .int)
  | 9 => .int
  | 10 => .int
  | _ => .int
def jm_T7 : u_T := fun k => match k with
  | 0 => ("CodeCover$Lifetimes", "row", "LCodeCover$Row;", true)
  | 1 => ("CodeCover$Lifetimes", "until", "[I", true)
  | 2 => ("CodeCover$Lifetimes", "living", "[I", true)
  | 3 => ("CodeCover$Lifetimes", "kept", "I", false)
  | 4 => ("CodeCover$Lifetimes", "lightest", "I", false)
  | _ => ("CodeCover$Lifetimes", "leastWeight", "I", false)
def jm_ty7 : Nat → FieldType := fun k => match k with
  | 0 => (.object "CodeCover$Row")
  | 1 => (.array .int)
  | 2 => (.array .int)
  | 3 => .int
  | 4 => .int
  | _ => .int
def jm_T8 : u_T := fun k => match k with
  | 0 => ("CodeCover$Machine", "row", "LCodeCover$Row;", true)
  | _ => ("CodeCover$Machine", "register", "[J", true)
def jm_ty8 : Nat → FieldType := fun k => match k with
  | 0 => (.object "CodeCover$Row")
  | _ => (.array .long)
def jm_T9 : u_T := fun k => match k with
  | 0 => ("CodeCover$Search", "row", "LCodeCover$Row;", true)
  | 1 => ("CodeCover$Search", "machine", "LCodeCover$Machine;", true)
  | 2 => ("CodeCover$Search", "moves", "LCodeCover$Moves;", true)
  | 3 => ("CodeCover$Search", "due", "[J", true)
  | 4 => ("CodeCover$Search", "before", "[[J", true)
  | 5 => ("CodeCover$Search", "trial", "[J", true)
  | 6 => ("CodeCover$Search", "op", "[I", true)
  | 7 => ("CodeCover$Search", "to", "[I", true)
  | 8 => ("CodeCover$Search", "one", "[I", true)
  | 9 => ("CodeCover$Search", "two", "[I", true)
  | 10 => ("CodeCover$Search", "length", "I", false)
  | 11 => ("CodeCover$Search", "tried", "I", false)
  | _ => ("CodeCover$Search", "version", "I", false)
def jm_ty9 : Nat → FieldType := fun k => match k with
  | 0 => (.object "CodeCover$Row")
  | 1 => (.object "CodeCover$Machine")
  | 2 => (.object "CodeCover$Moves")
  | 3 => (.array .long)
  | 4 => (.array (.array .long))
  | 5 => (.array .long)
  | 6 => (.array .int)
  | 7 => (.array .int)
  | 8 => (.array .int)
  | 9 => (.array .int)
  | 10 => .int
  | 11 => .int
  | _ => .int
def jm_T10 : u_T := fun k => match k with
  | 0 => ("CodeCover$Moves", "one", "[I", true)
  | 1 => ("CodeCover$Moves", "two", "[I", true)
  | 2 => ("CodeCover$Moves", "reads", "[I", true)
  | 3 => ("CodeCover$Moves", "atFirst", "[Z", true)
  | 4 => ("CodeCover$Moves", "begin", "[I", true)
  | _ => ("CodeCover$Moves", "count", "I", false)
def jm_ty10 : Nat → FieldType := fun k => match k with
  | 0 => (.array .int)
  | 1 => (.array .int)
  | 2 => (.array .int)
  | 3 => (.array .boolean)
  | 4 => (.array .int)
  | _ => .int
def jm_T11 : u_T := fun k => match k with
  | 0 => ("CodeCoverModel", "pad", "[I", true)
  | 1 => ("CodeCoverModel", "padMany", "I", false)
  | 2 => ("CodeCoverModel", "sign", "[I", true)
  | 3 => ("CodeCoverModel", "partOf", "[I", true)
  | 4 => ("CodeCoverModel", "nodes", "I", false)
  | 5 => ("CodeCoverModel", "walkSign", "[I", true)
  | 6 => ("CodeCoverModel", "walkPartOf", "[I", true)
  | 7 => ("CodeCoverModel", "walkLacks", "[I", true)
  | 8 => ("CodeCoverModel", "walked", "I", false)
  | 9 => ("CodeCoverModel", "need", "[I", true)
  | 10 => ("CodeCoverModel", "headOf", "[I", true)
  | 11 => ("CodeCoverModel", "priceOf", "[I", true)
  | 12 => ("CodeCoverModel", "patternSigns", "[I", true)
  | 13 => ("CodeCoverModel", "patternLong", "[I", true)
  | 14 => ("CodeCoverModel", "patterns", "I", false)
  | 15 => ("CodeCoverModel", "plain", "[I", true)
  | 16 => ("CodeCoverModel", "plainBy", "[I", true)
  | 17 => ("CodeCoverModel", "cover", "[I", true)
  | 18 => ("CodeCoverModel", "coverBy", "[I", true)
  | 19 => ("CodeCoverModel", "todoNode", "[I", true)
  | 20 => ("CodeCoverModel", "todoHow", "[I", true)
  | 21 => ("CodeCoverModel", "todoBy", "[I", true)
  | 22 => ("CodeCoverModel", "todos", "I", false)
  | 23 => ("CodeCoverModel", "codeBy", "[I", true)
  | 24 => ("CodeCoverModel", "codeAt", "[I", true)
  | 25 => ("CodeCoverModel", "codes", "I", false)
  | 26 => ("CodeCoverModel", "ops", "[I", true)
  | 27 => ("CodeCoverModel", "sets", "[I", true)
  | 28 => ("CodeCoverModel", "ones", "[I", true)
  | 29 => ("CodeCoverModel", "twos", "[I", true)
  | 30 => ("CodeCoverModel", "waits", "[I", true)
  | 31 => ("CodeCoverModel", "weights", "[I", true)
  | 32 => ("CodeCoverModel", "many", "I", false)
  | 33 => ("CodeCoverModel", "order", "[I", true)
  | 34 => ("CodeCoverModel", "cycle", "[I", true)
  | 35 => ("CodeCoverModel", "bestOrder", "[I", true)
  | 36 => ("CodeCoverModel", "bestEnd", "I", false)
  | 37 => ("CodeCoverModel", "endTo", "[I", true)
  | 38 => ("CodeCoverModel", "aside", "[I", true)
  | 39 => ("CodeCoverModel", "kept", "I", false)
  | 40 => ("CodeCoverModel", "places", "[I", true)
  | 41 => ("CodeCoverModel", "registers", "[I", true)
  | 42 => ("CodeCoverModel", "wanted", "[I", true)
  | 43 => ("CodeCoverModel", "shorts", "[I", true)
  | _ => ("CodeCoverModel", "short3", "[I", true)
def jm_ty11 : Nat → FieldType := fun k => match k with
  | 0 => (.array .int)
  | 1 => .int
  | 2 => (.array .int)
  | 3 => (.array .int)
  | 4 => .int
  | 5 => (.array .int)
  | 6 => (.array .int)
  | 7 => (.array .int)
  | 8 => .int
  | 9 => (.array .int)
  | 10 => (.array .int)
  | 11 => (.array .int)
  | 12 => (.array .int)
  | 13 => (.array .int)
  | 14 => .int
  | 15 => (.array .int)
  | 16 => (.array .int)
  | 17 => (.array .int)
  | 18 => (.array .int)
  | 19 => (.array .int)
  | 20 => (.array .int)
  | 21 => (.array .int)
  | 22 => .int
  | 23 => (.array .int)
  | 24 => (.array .int)
  | 25 => .int
  | 26 => (.array .int)
  | 27 => (.array .int)
  | 28 => (.array .int)
  | 29 => (.array .int)
  | 30 => (.array .int)
  | 31 => (.array .int)
  | 32 => .int
  | 33 => (.array .int)
  | 34 => (.array .int)
  | 35 => (.array .int)
  | 36 => .int
  | 37 => (.array .int)
  | 38 => (.array .int)
  | 39 => .int
  | 40 => (.array .int)
  | 41 => (.array .int)
  | 42 => (.array .int)
  | 43 => (.array .int)
  | _ => (.array .int)
def jm_cl : List vw_C := [("CodeCover", jm_T0, 9), ("CodeCover$Pad", jm_T1, 3), ("CodeCover$Tree", jm_T2, 5), ("CodeCover$Patterns", jm_T3, 5), ("CodeCover$Covering", jm_T4, 10), ("CodeCover$Row", jm_T5, 5), ("CodeCover$Order", jm_T6, 12), ("CodeCover$Lifetimes", jm_T7, 6), ("CodeCover$Machine", jm_T8, 2), ("CodeCover$Search", jm_T9, 13), ("CodeCover$Moves", jm_T10, 6), ("CodeCoverModel", jm_T11, 45)]
def jm_ft (ci : Nat) : List Nat := match ci with
  | 0 => [2, 2, 2, 2, 2, 2, 2, 2, 2]
  | 1 => [2, 2, 0]
  | 2 => [2, 2, 2, 2, 0]
  | 3 => [2, 2, 2, 2, 0]
  | 4 => [2, 2, 2, 2, 2, 2, 2, 2, 0, 3]
  | 5 => [2, 2, 2, 0, 0]
  | 6 => [2, 2, 2, 2, 2, 2, 2, 2, 2, 0, 0, 0]
  | 7 => [2, 2, 2, 0, 0, 0]
  | 8 => [2, 2]
  | 9 => [2, 2, 2, 2, 2, 2, 2, 2, 2, 2, 0, 0, 0]
  | 10 => [2, 2, 2, 2, 2, 0]
  | 11 => [2, 0, 2, 2, 0, 2, 2, 2, 0, 2, 2, 2, 2, 2, 0, 2, 2, 2, 2, 2, 2, 2, 0, 2, 2, 0, 2, 2, 2, 2, 2, 2, 0, 2, 2, 2, 0, 2, 2, 0, 2, 2, 2, 2, 2]
  | _ => []
def jm_ty (ci : Nat) : Nat → FieldType := match ci with
  | 0 => jm_ty0
  | 1 => jm_ty1
  | 2 => jm_ty2
  | 3 => jm_ty3
  | 4 => jm_ty4
  | 5 => jm_ty5
  | 6 => jm_ty6
  | 7 => jm_ty7
  | 8 => jm_ty8
  | 9 => jm_ty9
  | 10 => jm_ty10
  | 11 => jm_ty11
  | _ => fun _ => .int
/-- the code of a type: 0 int, 1 long, 2 a reference, 3 boolean -/
def jm_tc (t : FieldType) : Nat := match t with
  | .int => 0
  | .long => 1
  | .boolean => 3
  | .object _ => 2
  | .array _ => 2
  | _ => 9
def jm_wG : List Cond := lw_tbl.filter goodWord
theorem jm_mem1 {w : Cond} (h : w ∈ tables_1_1) (g : goodWord w = true) : w ∈ jm_wG := List.mem_filter.mpr ⟨List.mem_append_right _ (show w ∈ tables_1 from List.mem_append_left _ h), g⟩
theorem jm_mem2 {w : Cond} (h : w ∈ tables_1_2) (g : goodWord w = true) : w ∈ jm_wG := List.mem_filter.mpr ⟨List.mem_append_right _ (show w ∈ tables_1 from List.mem_append_right _ (List.mem_append_left _ h)), g⟩
theorem jm_mem3 {w : Cond} (h : w ∈ tables_1_3) (g : goodWord w = true) : w ∈ jm_wG := List.mem_filter.mpr ⟨List.mem_append_right _ (show w ∈ tables_1 from List.mem_append_right _ (List.mem_append_right _ (List.mem_append_left _ h))), g⟩
theorem jm_mem4 {w : Cond} (h : w ∈ tables_1_4) (g : goodWord w = true) : w ∈ jm_wG := List.mem_filter.mpr ⟨List.mem_append_right _ (show w ∈ tables_1 from List.mem_append_right _ (List.mem_append_right _ (List.mem_append_right _ (List.mem_append_left _ h)))), g⟩
theorem jm_mem5 {w : Cond} (h : w ∈ tables_1_5) (g : goodWord w = true) : w ∈ jm_wG := List.mem_filter.mpr ⟨List.mem_append_right _ (show w ∈ tables_1 from List.mem_append_right _ (List.mem_append_right _ (List.mem_append_right _ (List.mem_append_right _ (List.mem_append_left _ h))))), g⟩
theorem jm_mem6 {w : Cond} (h : w ∈ tables_1_6) (g : goodWord w = true) : w ∈ jm_wG := List.mem_filter.mpr ⟨List.mem_append_right _ (show w ∈ tables_1 from List.mem_append_right _ (List.mem_append_right _ (List.mem_append_right _ (List.mem_append_right _ (List.mem_append_right _ (h)))))), g⟩
theorem jm_memP {w : Cond} (h : w ∈ k2_sels lw_privs) (g : goodWord w = true) : w ∈ jm_wG := List.mem_filter.mpr ⟨List.mem_append_left _ h, g⟩
set_option maxRecDepth 20000 in
theorem jm_clok0 : (∀ w ∈ u_ws "CodeCover" jm_T0 9, w ∈ jm_wG) ∧ 9 = (jm_ft 0).length ∧ (∀ k, k < 9 → parseFieldDescriptor (jm_T0 k).2.2.1 = some (jm_ty 0 k)) ∧ (∀ a, a < 9 → ∀ b, b < 9 → a ≠ b → (jm_T0 a).2.1 ≠ (jm_T0 b).2.1) ∧ ∀ k, k < 9 → jm_tc (jm_ty 0 k) = (jm_ft 0).getD k 0 := ⟨by decide +kernel, by decide +kernel, by decide +kernel, by decide +kernel, by decide +kernel⟩
set_option maxRecDepth 20000 in
theorem jm_clok1 : (∀ w ∈ u_ws "CodeCover$Pad" jm_T1 3, w ∈ jm_wG) ∧ 3 = (jm_ft 1).length ∧ (∀ k, k < 3 → parseFieldDescriptor (jm_T1 k).2.2.1 = some (jm_ty 1 k)) ∧ (∀ a, a < 3 → ∀ b, b < 3 → a ≠ b → (jm_T1 a).2.1 ≠ (jm_T1 b).2.1) ∧ ∀ k, k < 3 → jm_tc (jm_ty 1 k) = (jm_ft 1).getD k 0 := ⟨by decide +kernel, by decide +kernel, by decide +kernel, by decide +kernel, by decide +kernel⟩
set_option maxRecDepth 20000 in
theorem jm_clok2 : (∀ w ∈ u_ws "CodeCover$Tree" jm_T2 5, w ∈ jm_wG) ∧ 5 = (jm_ft 2).length ∧ (∀ k, k < 5 → parseFieldDescriptor (jm_T2 k).2.2.1 = some (jm_ty 2 k)) ∧ (∀ a, a < 5 → ∀ b, b < 5 → a ≠ b → (jm_T2 a).2.1 ≠ (jm_T2 b).2.1) ∧ ∀ k, k < 5 → jm_tc (jm_ty 2 k) = (jm_ft 2).getD k 0 := ⟨by decide +kernel, by decide +kernel, by decide +kernel, by decide +kernel, by decide +kernel⟩
set_option maxRecDepth 20000 in
theorem jm_clok3 : (∀ w ∈ u_ws "CodeCover$Patterns" jm_T3 5, w ∈ jm_wG) ∧ 5 = (jm_ft 3).length ∧ (∀ k, k < 5 → parseFieldDescriptor (jm_T3 k).2.2.1 = some (jm_ty 3 k)) ∧ (∀ a, a < 5 → ∀ b, b < 5 → a ≠ b → (jm_T3 a).2.1 ≠ (jm_T3 b).2.1) ∧ ∀ k, k < 5 → jm_tc (jm_ty 3 k) = (jm_ft 3).getD k 0 := ⟨by decide +kernel, by decide +kernel, by decide +kernel, by decide +kernel, by decide +kernel⟩
set_option maxRecDepth 20000 in
theorem jm_clok4 : (∀ w ∈ u_ws "CodeCover$Covering" jm_T4 10, w ∈ jm_wG) ∧ 10 = (jm_ft 4).length ∧ (∀ k, k < 10 → parseFieldDescriptor (jm_T4 k).2.2.1 = some (jm_ty 4 k)) ∧ (∀ a, a < 10 → ∀ b, b < 10 → a ≠ b → (jm_T4 a).2.1 ≠ (jm_T4 b).2.1) ∧ ∀ k, k < 10 → jm_tc (jm_ty 4 k) = (jm_ft 4).getD k 0 := ⟨by decide +kernel, by decide +kernel, by decide +kernel, by decide +kernel, by decide +kernel⟩
set_option maxRecDepth 20000 in
theorem jm_clok5 : (∀ w ∈ u_ws "CodeCover$Row" jm_T5 5, w ∈ jm_wG) ∧ 5 = (jm_ft 5).length ∧ (∀ k, k < 5 → parseFieldDescriptor (jm_T5 k).2.2.1 = some (jm_ty 5 k)) ∧ (∀ a, a < 5 → ∀ b, b < 5 → a ≠ b → (jm_T5 a).2.1 ≠ (jm_T5 b).2.1) ∧ ∀ k, k < 5 → jm_tc (jm_ty 5 k) = (jm_ft 5).getD k 0 := ⟨by decide +kernel, by decide +kernel, by decide +kernel, by decide +kernel, by decide +kernel⟩
set_option maxRecDepth 20000 in
theorem jm_clok6 : (∀ w ∈ u_ws "CodeCover$Order" jm_T6 12, w ∈ jm_wG) ∧ 12 = (jm_ft 6).length ∧ (∀ k, k < 12 → parseFieldDescriptor (jm_T6 k).2.2.1 = some (jm_ty 6 k)) ∧ (∀ a, a < 12 → ∀ b, b < 12 → a ≠ b → (jm_T6 a).2.1 ≠ (jm_T6 b).2.1) ∧ ∀ k, k < 12 → jm_tc (jm_ty 6 k) = (jm_ft 6).getD k 0 := ⟨by decide +kernel, by decide +kernel, by decide +kernel, by decide +kernel, by decide +kernel⟩
set_option maxRecDepth 20000 in
theorem jm_clok7 : (∀ w ∈ u_ws "CodeCover$Lifetimes" jm_T7 6, w ∈ jm_wG) ∧ 6 = (jm_ft 7).length ∧ (∀ k, k < 6 → parseFieldDescriptor (jm_T7 k).2.2.1 = some (jm_ty 7 k)) ∧ (∀ a, a < 6 → ∀ b, b < 6 → a ≠ b → (jm_T7 a).2.1 ≠ (jm_T7 b).2.1) ∧ ∀ k, k < 6 → jm_tc (jm_ty 7 k) = (jm_ft 7).getD k 0 := ⟨by decide +kernel, by decide +kernel, by decide +kernel, by decide +kernel, by decide +kernel⟩
set_option maxRecDepth 20000 in
theorem jm_clok8 : (∀ w ∈ u_ws "CodeCover$Machine" jm_T8 2, w ∈ jm_wG) ∧ 2 = (jm_ft 8).length ∧ (∀ k, k < 2 → parseFieldDescriptor (jm_T8 k).2.2.1 = some (jm_ty 8 k)) ∧ (∀ a, a < 2 → ∀ b, b < 2 → a ≠ b → (jm_T8 a).2.1 ≠ (jm_T8 b).2.1) ∧ ∀ k, k < 2 → jm_tc (jm_ty 8 k) = (jm_ft 8).getD k 0 := ⟨by decide +kernel, by decide +kernel, by decide +kernel, by decide +kernel, by decide +kernel⟩
set_option maxRecDepth 20000 in
theorem jm_clok9 : (∀ w ∈ u_ws "CodeCover$Search" jm_T9 13, w ∈ jm_wG) ∧ 13 = (jm_ft 9).length ∧ (∀ k, k < 13 → parseFieldDescriptor (jm_T9 k).2.2.1 = some (jm_ty 9 k)) ∧ (∀ a, a < 13 → ∀ b, b < 13 → a ≠ b → (jm_T9 a).2.1 ≠ (jm_T9 b).2.1) ∧ ∀ k, k < 13 → jm_tc (jm_ty 9 k) = (jm_ft 9).getD k 0 := ⟨by decide +kernel, by decide +kernel, by decide +kernel, by decide +kernel, by decide +kernel⟩
set_option maxRecDepth 20000 in
theorem jm_clok10 : (∀ w ∈ u_ws "CodeCover$Moves" jm_T10 6, w ∈ jm_wG) ∧ 6 = (jm_ft 10).length ∧ (∀ k, k < 6 → parseFieldDescriptor (jm_T10 k).2.2.1 = some (jm_ty 10 k)) ∧ (∀ a, a < 6 → ∀ b, b < 6 → a ≠ b → (jm_T10 a).2.1 ≠ (jm_T10 b).2.1) ∧ ∀ k, k < 6 → jm_tc (jm_ty 10 k) = (jm_ft 10).getD k 0 := ⟨by decide +kernel, by decide +kernel, by decide +kernel, by decide +kernel, by decide +kernel⟩
set_option maxRecDepth 20000 in
theorem jm_clok11 : (∀ w ∈ u_ws "CodeCoverModel" jm_T11 45, w ∈ jm_wG) ∧ 45 = (jm_ft 11).length ∧ (∀ k, k < 45 → parseFieldDescriptor (jm_T11 k).2.2.1 = some (jm_ty 11 k)) ∧ (∀ a, a < 45 → ∀ b, b < 45 → a ≠ b → (jm_T11 a).2.1 ≠ (jm_T11 b).2.1) ∧ ∀ k, k < 45 → jm_tc (jm_ty 11 k) = (jm_ft 11).getD k 0 := ⟨by decide +kernel, by decide +kernel, by decide +kernel, by decide +kernel, by decide +kernel⟩
theorem jm_clok {ci N : Nat} {C : String} {T : u_T} (hc : jm_cl[ci]? = some (C, T, N)) : (∀ w ∈ u_ws C T N, w ∈ jm_wG) ∧ N = (jm_ft ci).length ∧ (∀ k, k < N → parseFieldDescriptor (T k).2.2.1 = some (jm_ty ci k)) ∧ (∀ a, a < N → ∀ b, b < N → a ≠ b → (T a).2.1 ≠ (T b).2.1) ∧ ∀ k, k < N → jm_tc (jm_ty ci k) = (jm_ft ci).getD k 0 := by
  match ci, hc with
  | 0, hc => cases hc; exact jm_clok0
  | 1, hc => cases hc; exact jm_clok1
  | 2, hc => cases hc; exact jm_clok2
  | 3, hc => cases hc; exact jm_clok3
  | 4, hc => cases hc; exact jm_clok4
  | 5, hc => cases hc; exact jm_clok5
  | 6, hc => cases hc; exact jm_clok6
  | 7, hc => cases hc; exact jm_clok7
  | 8, hc => cases hc; exact jm_clok8
  | 9, hc => cases hc; exact jm_clok9
  | 10, hc => cases hc; exact jm_clok10
  | 11, hc => cases hc; exact jm_clok11
  | n + 12, hc => simp [jm_cl] at hc
end
section
/-! the tables' words, a row each -/
theorem jw_0 : Cond.initialized "CodeCoverLaw" ∈ jm_wG := jm_mem1 (List.mem_of_getElem? (i := 0) rfl) rfl
theorem jw_1 : Cond.initialized "CodeCover" ∈ jm_wG := jm_mem1 (List.mem_of_getElem? (i := 1) rfl) rfl
theorem jw_2 : Cond.initialized "CodeCover$Pad" ∈ jm_wG := jm_mem1 (List.mem_of_getElem? (i := 2) rfl) rfl
theorem jw_3 : Cond.initialized "CodeCover$Tree" ∈ jm_wG := jm_mem1 (List.mem_of_getElem? (i := 3) rfl) rfl
theorem jw_4 : Cond.initialized "CodeCover$Patterns" ∈ jm_wG := jm_mem1 (List.mem_of_getElem? (i := 4) rfl) rfl
theorem jw_5 : Cond.initialized "CodeCover$Covering" ∈ jm_wG := jm_mem1 (List.mem_of_getElem? (i := 5) rfl) rfl
theorem jw_6 : Cond.initialized "CodeCover$Row" ∈ jm_wG := jm_mem1 (List.mem_of_getElem? (i := 6) rfl) rfl
theorem jw_7 : Cond.initialized "CodeCover$Order" ∈ jm_wG := jm_mem1 (List.mem_of_getElem? (i := 7) rfl) rfl
theorem jw_8 : Cond.initialized "CodeCover$Lifetimes" ∈ jm_wG := jm_mem1 (List.mem_of_getElem? (i := 8) rfl) rfl
theorem jw_9 : Cond.initialized "CodeCover$Machine" ∈ jm_wG := jm_mem1 (List.mem_of_getElem? (i := 9) rfl) rfl
theorem jw_10 : Cond.initialized "CodeCover$Search" ∈ jm_wG := jm_mem1 (List.mem_of_getElem? (i := 10) rfl) rfl
theorem jw_11 : Cond.initialized "CodeCover$Moves" ∈ jm_wG := jm_mem1 (List.mem_of_getElem? (i := 11) rfl) rfl
theorem jw_12 : Cond.initialized "CodeCoverModel" ∈ jm_wG := jm_mem1 (List.mem_of_getElem? (i := 12) rfl) rfl
theorem jw_13 : Cond.initialized "java/lang/Math" ∈ jm_wG := jm_mem1 (List.mem_of_getElem? (i := 13) rfl) rfl
theorem jw_14 : Cond.initialized "java/lang/System" ∈ jm_wG := jm_mem1 (List.mem_of_getElem? (i := 14) rfl) rfl
theorem jw_15 : Cond.initialized "java/lang/Integer" ∈ jm_wG := jm_mem1 (List.mem_of_getElem? (i := 15) rfl) rfl
theorem jw_16 : Cond.classLink "CodeCoverLaw" 7 "CodeCover" ∈ jm_wG := jm_mem1 (List.mem_of_getElem? (i := 16) rfl) rfl
theorem jw_17 : Cond.instantiable "CodeCover" 9 ∈ jm_wG := jm_mem1 (List.mem_of_getElem? (i := 17) rfl) rfl
theorem jw_18 : Cond.methodLink "CodeCoverLaw" 9 ({ cls := "CodeCover", name := "<init>", desc := "()V" } : MethodName) ∈ jm_wG := jm_mem1 (List.mem_of_getElem? (i := 18) rfl) rfl
theorem jw_19 : Cond.instanceMethod ({ cls := "CodeCover", name := "<init>", desc := "()V" } : MethodName) ∈ jm_wG := jm_mem1 (List.mem_of_getElem? (i := 19) rfl) rfl
theorem jw_20 : Cond.code ({ cls := "CodeCover", name := "<init>", desc := "()V" } : MethodName) prog_1_method_1_code 1 (Option.none : Option FieldType) ∈ jm_wG := jm_mem1 (List.mem_of_getElem? (i := 20) rfl) rfl
theorem jw_21 : Cond.methodLink "CodeCover" 1 ({ cls := "java/lang/Object", name := "<init>", desc := "()V" } : MethodName) ∈ jm_wG := jm_mem1 (List.mem_of_getElem? (i := 21) rfl) rfl
theorem jw_22 : Cond.instanceMethod ({ cls := "java/lang/Object", name := "<init>", desc := "()V" } : MethodName) ∈ jm_wG := jm_mem1 (List.mem_of_getElem? (i := 22) rfl) rfl
theorem jw_23 : Cond.code ({ cls := "java/lang/Object", name := "<init>", desc := "()V" } : MethodName) object_method_1_code 1 (Option.none : Option FieldType) ∈ jm_wG := jm_mem1 (List.mem_of_getElem? (i := 23) rfl) rfl
theorem jw_24 : Cond.classLink "CodeCover" 7 "CodeCover$Pad" ∈ jm_wG := jm_mem1 (List.mem_of_getElem? (i := 24) rfl) rfl
theorem jw_25 : Cond.instantiable "CodeCover$Pad" 3 ∈ jm_wG := jm_mem1 (List.mem_of_getElem? (i := 25) rfl) rfl
theorem jw_27 : Cond.instanceMethod ({ cls := "CodeCover$Pad", name := "<init>", desc := "()V" } : MethodName) ∈ jm_wG := jm_mem1 (List.mem_of_getElem? (i := 27) rfl) rfl
theorem jw_28 : Cond.code ({ cls := "CodeCover$Pad", name := "<init>", desc := "()V" } : MethodName) prog_7_method_1_code 1 (Option.none : Option FieldType) ∈ jm_wG := jm_mem1 (List.mem_of_getElem? (i := 28) rfl) rfl
theorem jw_29 : Cond.methodLink "CodeCover$Pad" 3 ({ cls := "java/lang/Object", name := "<init>", desc := "()V" } : MethodName) ∈ jm_wG := jm_mem1 (List.mem_of_getElem? (i := 29) rfl) rfl
theorem jw_30 : Cond.fieldLink "CodeCover$Pad" 11 "CodeCover$Pad" "sign" "[I" ∈ jm_wG := jm_mem1 (List.mem_of_getElem? (i := 30) rfl) rfl
theorem jw_31 : Cond.fieldLink "CodeCover$Patterns" 36 "CodeCover$Pad" "sign" "[I" ∈ jm_wG := jm_mem1 (List.mem_of_getElem? (i := 31) rfl) rfl
theorem jw_32 : Cond.fieldLink "CodeCover$Tree" 35 "CodeCover$Pad" "sign" "[I" ∈ jm_wG := jm_mem1 (List.mem_of_getElem? (i := 32) rfl) rfl
theorem jw_33 : Cond.fieldLink "CodeCover$Pad" 15 "CodeCover$Pad" "open" "[I" ∈ jm_wG := jm_mem1 (List.mem_of_getElem? (i := 33) rfl) rfl
theorem jw_34 : Cond.fieldLink "CodeCover$Pad" 18 "CodeCover$Pad" "count" "I" ∈ jm_wG := jm_mem1 (List.mem_of_getElem? (i := 34) rfl) rfl
theorem jw_35 : Cond.fieldLink "CodeCover$Patterns" 26 "CodeCover$Pad" "count" "I" ∈ jm_wG := jm_mem1 (List.mem_of_getElem? (i := 35) rfl) rfl
theorem jw_36 : Cond.fieldLink "CodeCover" 82 "CodeCover$Pad" "count" "I" ∈ jm_wG := jm_mem1 (List.mem_of_getElem? (i := 36) rfl) rfl
theorem jw_37 : Cond.fieldLink "CodeCover$Tree" 26 "CodeCover$Pad" "count" "I" ∈ jm_wG := jm_mem1 (List.mem_of_getElem? (i := 37) rfl) rfl
theorem jw_45 : Cond.arrayClass FieldType.int ∈ jm_wG := jm_mem1 (List.mem_of_getElem? (i := 45) rfl) rfl
theorem jw_46 : Cond.classLink "CodeCover" 16 "CodeCover$Tree" ∈ jm_wG := jm_mem1 (List.mem_of_getElem? (i := 46) rfl) rfl
theorem jw_47 : Cond.instantiable "CodeCover$Tree" 5 ∈ jm_wG := jm_mem1 (List.mem_of_getElem? (i := 47) rfl) rfl
theorem jw_49 : Cond.instanceMethod ({ cls := "CodeCover$Tree", name := "<init>", desc := "()V" } : MethodName) ∈ jm_wG := jm_mem1 (List.mem_of_getElem? (i := 49) rfl) rfl
theorem jw_50 : Cond.code ({ cls := "CodeCover$Tree", name := "<init>", desc := "()V" } : MethodName) prog_11_method_1_code 1 (Option.none : Option FieldType) ∈ jm_wG := jm_mem1 (List.mem_of_getElem? (i := 50) rfl) rfl
theorem jw_51 : Cond.methodLink "CodeCover$Tree" 1 ({ cls := "java/lang/Object", name := "<init>", desc := "()V" } : MethodName) ∈ jm_wG := jm_mem1 (List.mem_of_getElem? (i := 51) rfl) rfl
theorem jw_52 : Cond.fieldLink "CodeCover$Tree" 9 "CodeCover$Tree" "sign" "[I" ∈ jm_wG := jm_mem1 (List.mem_of_getElem? (i := 52) rfl) rfl
theorem jw_53 : Cond.fieldLink "CodeCover" 102 "CodeCover$Tree" "sign" "[I" ∈ jm_wG := jm_mem1 (List.mem_of_getElem? (i := 53) rfl) rfl
theorem jw_54 : Cond.fieldLink "CodeCover$Covering" 99 "CodeCover$Tree" "sign" "[I" ∈ jm_wG := jm_mem1 (List.mem_of_getElem? (i := 54) rfl) rfl
theorem jw_55 : Cond.fieldLink "CodeCover$Tree" 13 "CodeCover$Tree" "parent" "[I" ∈ jm_wG := jm_mem1 (List.mem_of_getElem? (i := 55) rfl) rfl
theorem jw_56 : Cond.fieldLink "CodeCover" 106 "CodeCover$Tree" "parent" "[I" ∈ jm_wG := jm_mem1 (List.mem_of_getElem? (i := 56) rfl) rfl
theorem jw_57 : Cond.fieldLink "CodeCover$Tree" 16 "CodeCover$Tree" "size" "[I" ∈ jm_wG := jm_mem1 (List.mem_of_getElem? (i := 57) rfl) rfl
theorem jw_58 : Cond.fieldLink "CodeCover" 113 "CodeCover$Tree" "size" "[I" ∈ jm_wG := jm_mem1 (List.mem_of_getElem? (i := 58) rfl) rfl
theorem jw_59 : Cond.fieldLink "CodeCover$Covering" 96 "CodeCover$Tree" "size" "[I" ∈ jm_wG := jm_mem1 (List.mem_of_getElem? (i := 59) rfl) rfl
theorem jw_60 : Cond.fieldLink "CodeCover$Tree" 19 "CodeCover$Tree" "need" "[I" ∈ jm_wG := jm_mem1 (List.mem_of_getElem? (i := 60) rfl) rfl
theorem jw_61 : Cond.fieldLink "CodeCover" 116 "CodeCover$Tree" "need" "[I" ∈ jm_wG := jm_mem1 (List.mem_of_getElem? (i := 61) rfl) rfl
theorem jw_62 : Cond.fieldLink "CodeCover$Tree" 22 "CodeCover$Tree" "count" "I" ∈ jm_wG := jm_mem1 (List.mem_of_getElem? (i := 62) rfl) rfl
theorem jw_63 : Cond.fieldLink "CodeCover$Covering" 42 "CodeCover$Tree" "count" "I" ∈ jm_wG := jm_mem1 (List.mem_of_getElem? (i := 63) rfl) rfl
theorem jw_64 : Cond.fieldLink "CodeCover" 98 "CodeCover$Tree" "count" "I" ∈ jm_wG := jm_mem1 (List.mem_of_getElem? (i := 64) rfl) rfl
theorem jw_76 : Cond.classLink "CodeCover" 23 "CodeCover$Patterns" ∈ jm_wG := jm_mem1 (List.mem_of_getElem? (i := 76) rfl) rfl
theorem jw_77 : Cond.instantiable "CodeCover$Patterns" 5 ∈ jm_wG := jm_mem1 (List.mem_of_getElem? (i := 77) rfl) rfl
theorem jw_79 : Cond.instanceMethod ({ cls := "CodeCover$Patterns", name := "<init>", desc := "()V" } : MethodName) ∈ jm_wG := jm_mem1 (List.mem_of_getElem? (i := 79) rfl) rfl
theorem jw_80 : Cond.code ({ cls := "CodeCover$Patterns", name := "<init>", desc := "()V" } : MethodName) prog_8_method_1_code 1 (Option.none : Option FieldType) ∈ jm_wG := jm_mem1 (List.mem_of_getElem? (i := 80) rfl) rfl
theorem jw_81 : Cond.methodLink "CodeCover$Patterns" 3 ({ cls := "java/lang/Object", name := "<init>", desc := "()V" } : MethodName) ∈ jm_wG := jm_mem1 (List.mem_of_getElem? (i := 81) rfl) rfl
theorem jw_82 : Cond.classLink "CodeCover$Patterns" 21 "[[I" ∈ jm_wG := jm_mem1 (List.mem_of_getElem? (i := 82) rfl) rfl
theorem jw_84 : Cond.fieldLink "CodeCover$Patterns" 11 "CodeCover$Patterns" "head" "[I" ∈ jm_wG := jm_mem1 (List.mem_of_getElem? (i := 84) rfl) rfl
theorem jw_85 : Cond.fieldLink "CodeCover$Covering" 75 "CodeCover$Patterns" "head" "[I" ∈ jm_wG := jm_mem1 (List.mem_of_getElem? (i := 85) rfl) rfl
theorem jw_86 : Cond.fieldLink "CodeCover$Patterns" 15 "CodeCover$Patterns" "price" "[I" ∈ jm_wG := jm_mem1 (List.mem_of_getElem? (i := 86) rfl) rfl
theorem jw_87 : Cond.fieldLink "CodeCover$Covering" 78 "CodeCover$Patterns" "price" "[I" ∈ jm_wG := jm_mem1 (List.mem_of_getElem? (i := 87) rfl) rfl
theorem jw_88 : Cond.fieldLink "CodeCover" 133 "CodeCover$Patterns" "price" "[I" ∈ jm_wG := jm_mem1 (List.mem_of_getElem? (i := 88) rfl) rfl
theorem jw_89 : Cond.fieldLink "CodeCover$Patterns" 18 "CodeCover$Patterns" "length" "[I" ∈ jm_wG := jm_mem1 (List.mem_of_getElem? (i := 89) rfl) rfl
theorem jw_90 : Cond.fieldLink "CodeCover$Covering" 81 "CodeCover$Patterns" "length" "[I" ∈ jm_wG := jm_mem1 (List.mem_of_getElem? (i := 90) rfl) rfl
theorem jw_91 : Cond.fieldLink "CodeCover$Patterns" 23 "CodeCover$Patterns" "text" "[[I" ∈ jm_wG := jm_mem1 (List.mem_of_getElem? (i := 91) rfl) rfl
theorem jw_92 : Cond.fieldLink "CodeCover$Covering" 84 "CodeCover$Patterns" "text" "[[I" ∈ jm_wG := jm_mem1 (List.mem_of_getElem? (i := 92) rfl) rfl
theorem jw_93 : Cond.fieldLink "CodeCover$Patterns" 43 "CodeCover$Patterns" "count" "I" ∈ jm_wG := jm_mem1 (List.mem_of_getElem? (i := 93) rfl) rfl
theorem jw_94 : Cond.fieldLink "CodeCover$Covering" 65 "CodeCover$Patterns" "count" "I" ∈ jm_wG := jm_mem1 (List.mem_of_getElem? (i := 94) rfl) rfl
theorem jw_95 : Cond.fieldLink "CodeCover" 125 "CodeCover$Patterns" "count" "I" ∈ jm_wG := jm_mem1 (List.mem_of_getElem? (i := 95) rfl) rfl
theorem jw_107 : Cond.classLink "CodeCover" 30 "CodeCover$Covering" ∈ jm_wG := jm_mem1 (List.mem_of_getElem? (i := 107) rfl) rfl
theorem jw_108 : Cond.instantiable "CodeCover$Covering" 10 ∈ jm_wG := jm_mem1 (List.mem_of_getElem? (i := 108) rfl) rfl
theorem jw_109 : Cond.methodLink "CodeCover" 32 ({ cls := "CodeCover$Covering", name := "<init>", desc := "(LCodeCover$Tree;LCodeCover$Patterns;)V" } : MethodName) ∈ jm_wG := jm_mem1 (List.mem_of_getElem? (i := 109) rfl) rfl
theorem jw_110 : Cond.instanceMethod ({ cls := "CodeCover$Covering", name := "<init>", desc := "(LCodeCover$Tree;LCodeCover$Patterns;)V" } : MethodName) ∈ jm_wG := jm_mem1 (List.mem_of_getElem? (i := 110) rfl) rfl
theorem jw_111 : Cond.code ({ cls := "CodeCover$Covering", name := "<init>", desc := "(LCodeCover$Tree;LCodeCover$Patterns;)V" } : MethodName) prog_2_method_1_code 3 (Option.none : Option FieldType) ∈ jm_wG := jm_mem1 (List.mem_of_getElem? (i := 111) rfl) rfl
theorem jw_112 : Cond.methodLink "CodeCover$Covering" 3 ({ cls := "java/lang/Object", name := "<init>", desc := "()V" } : MethodName) ∈ jm_wG := jm_mem1 (List.mem_of_getElem? (i := 112) rfl) rfl
theorem jw_113 : Cond.fieldLink "CodeCover$Covering" 30 "CodeCover$Covering" "tree" "LCodeCover$Tree;" ∈ jm_wG := jm_mem1 (List.mem_of_getElem? (i := 113) rfl) rfl
theorem jw_114 : Cond.fieldLink "CodeCover$Covering" 34 "CodeCover$Covering" "patterns" "LCodeCover$Patterns;" ∈ jm_wG := jm_mem1 (List.mem_of_getElem? (i := 114) rfl) rfl
theorem jw_115 : Cond.fieldLink "CodeCover$Covering" 11 "CodeCover$Covering" "plainCost" "[I" ∈ jm_wG := jm_mem1 (List.mem_of_getElem? (i := 115) rfl) rfl
theorem jw_116 : Cond.fieldLink "CodeCover$Covering" 15 "CodeCover$Covering" "plainBy" "[I" ∈ jm_wG := jm_mem1 (List.mem_of_getElem? (i := 116) rfl) rfl
theorem jw_117 : Cond.fieldLink "CodeCover$Covering" 18 "CodeCover$Covering" "cost" "[I" ∈ jm_wG := jm_mem1 (List.mem_of_getElem? (i := 117) rfl) rfl
theorem jw_118 : Cond.fieldLink "CodeCover" 149 "CodeCover$Covering" "cost" "[I" ∈ jm_wG := jm_mem1 (List.mem_of_getElem? (i := 118) rfl) rfl
theorem jw_119 : Cond.fieldLink "CodeCover$Covering" 21 "CodeCover$Covering" "by" "[I" ∈ jm_wG := jm_mem1 (List.mem_of_getElem? (i := 119) rfl) rfl
theorem jw_120 : Cond.fieldLink "CodeCover" 146 "CodeCover$Covering" "by" "[I" ∈ jm_wG := jm_mem1 (List.mem_of_getElem? (i := 120) rfl) rfl
theorem jw_121 : Cond.fieldLink "CodeCover$Covering" 24 "CodeCover$Covering" "codePattern" "[I" ∈ jm_wG := jm_mem1 (List.mem_of_getElem? (i := 121) rfl) rfl
theorem jw_122 : Cond.fieldLink "CodeCover" 155 "CodeCover$Covering" "codePattern" "[I" ∈ jm_wG := jm_mem1 (List.mem_of_getElem? (i := 122) rfl) rfl
theorem jw_123 : Cond.fieldLink "CodeCover$Covering" 27 "CodeCover$Covering" "codeNode" "[I" ∈ jm_wG := jm_mem1 (List.mem_of_getElem? (i := 123) rfl) rfl
theorem jw_124 : Cond.fieldLink "CodeCover" 158 "CodeCover$Covering" "codeNode" "[I" ∈ jm_wG := jm_mem1 (List.mem_of_getElem? (i := 124) rfl) rfl
theorem jw_125 : Cond.fieldLink "CodeCover$Covering" 53 "CodeCover$Covering" "codeCount" "I" ∈ jm_wG := jm_mem1 (List.mem_of_getElem? (i := 125) rfl) rfl
theorem jw_126 : Cond.fieldLink "CodeCover" 152 "CodeCover$Covering" "codeCount" "I" ∈ jm_wG := jm_mem1 (List.mem_of_getElem? (i := 126) rfl) rfl
theorem jw_127 : Cond.fieldLink "CodeCover$Covering" 38 "CodeCover$Covering" "stale" "Z" ∈ jm_wG := jm_mem1 (List.mem_of_getElem? (i := 127) rfl) rfl
theorem jw_128 : Cond.fieldLink "CodeCover" 94 "CodeCover$Covering" "stale" "Z" ∈ jm_wG := jm_mem1 (List.mem_of_getElem? (i := 128) rfl) rfl
theorem jw_150 : Cond.classLink "CodeCover" 39 "CodeCover$Row" ∈ jm_wG := jm_mem1 (List.mem_of_getElem? (i := 150) rfl) rfl
theorem jw_151 : Cond.instantiable "CodeCover$Row" 5 ∈ jm_wG := jm_mem1 (List.mem_of_getElem? (i := 151) rfl) rfl
theorem jw_153 : Cond.instanceMethod ({ cls := "CodeCover$Row", name := "<init>", desc := "()V" } : MethodName) ∈ jm_wG := jm_mem1 (List.mem_of_getElem? (i := 153) rfl) rfl
theorem jw_154 : Cond.code ({ cls := "CodeCover$Row", name := "<init>", desc := "()V" } : MethodName) prog_9_method_1_code 1 (Option.none : Option FieldType) ∈ jm_wG := jm_mem1 (List.mem_of_getElem? (i := 154) rfl) rfl
theorem jw_155 : Cond.methodLink "CodeCover$Row" 1 ({ cls := "java/lang/Object", name := "<init>", desc := "()V" } : MethodName) ∈ jm_wG := jm_mem1 (List.mem_of_getElem? (i := 155) rfl) rfl
theorem jw_156 : Cond.classLink "CodeCover$Row" 9 "[[I" ∈ jm_wG := jm_mem1 (List.mem_of_getElem? (i := 156) rfl) rfl
theorem jw_157 : Cond.fieldLink "CodeCover$Row" 11 "CodeCover$Row" "cells" "[[I" ∈ jm_wG := jm_mem1 (List.mem_of_getElem? (i := 157) rfl) rfl
theorem jw_158 : Cond.fieldLink "CodeCover$Lifetimes" 26 "CodeCover$Row" "cells" "[[I" ∈ jm_wG := jm_mem1 (List.mem_of_getElem? (i := 158) rfl) rfl
theorem jw_159 : Cond.fieldLink "CodeCover$Machine" 23 "CodeCover$Row" "cells" "[[I" ∈ jm_wG := jm_mem1 (List.mem_of_getElem? (i := 159) rfl) rfl
theorem jw_160 : Cond.fieldLink "CodeCover$Order" 73 "CodeCover$Row" "cells" "[[I" ∈ jm_wG := jm_mem1 (List.mem_of_getElem? (i := 160) rfl) rfl
theorem jw_161 : Cond.fieldLink "CodeCover" 185 "CodeCover$Row" "cells" "[[I" ∈ jm_wG := jm_mem1 (List.mem_of_getElem? (i := 161) rfl) rfl
theorem jw_162 : Cond.fieldLink "CodeCover$Row" 14 "CodeCover$Row" "cycle" "[I" ∈ jm_wG := jm_mem1 (List.mem_of_getElem? (i := 162) rfl) rfl
theorem jw_163 : Cond.fieldLink "CodeCover$Row" 18 "CodeCover$Row" "spare" "[I" ∈ jm_wG := jm_mem1 (List.mem_of_getElem? (i := 163) rfl) rfl
theorem jw_164 : Cond.fieldLink "CodeCover$Order" 45 "CodeCover$Row" "count" "I" ∈ jm_wG := jm_mem1 (List.mem_of_getElem? (i := 164) rfl) rfl
theorem jw_165 : Cond.fieldLink "CodeCover$Lifetimes" 30 "CodeCover$Row" "count" "I" ∈ jm_wG := jm_mem1 (List.mem_of_getElem? (i := 165) rfl) rfl
theorem jw_166 : Cond.fieldLink "CodeCover$Machine" 19 "CodeCover$Row" "count" "I" ∈ jm_wG := jm_mem1 (List.mem_of_getElem? (i := 166) rfl) rfl
theorem jw_167 : Cond.fieldLink "CodeCover$Row" 25 "CodeCover$Row" "count" "I" ∈ jm_wG := jm_mem1 (List.mem_of_getElem? (i := 167) rfl) rfl
theorem jw_168 : Cond.fieldLink "CodeCover" 177 "CodeCover$Row" "count" "I" ∈ jm_wG := jm_mem1 (List.mem_of_getElem? (i := 168) rfl) rfl
theorem jw_169 : Cond.fieldLink "CodeCover$Row" 21 "CodeCover$Row" "version" "I" ∈ jm_wG := jm_mem1 (List.mem_of_getElem? (i := 169) rfl) rfl
theorem jw_170 : Cond.fieldLink "CodeCover$Order" 42 "CodeCover$Row" "version" "I" ∈ jm_wG := jm_mem1 (List.mem_of_getElem? (i := 170) rfl) rfl
theorem jw_171 : Cond.fieldLink "CodeCover$Search" 59 "CodeCover$Row" "version" "I" ∈ jm_wG := jm_mem1 (List.mem_of_getElem? (i := 171) rfl) rfl
theorem jw_183 : Cond.classLink "CodeCover" 46 "CodeCover$Order" ∈ jm_wG := jm_mem1 (List.mem_of_getElem? (i := 183) rfl) rfl
theorem jw_184 : Cond.instantiable "CodeCover$Order" 12 ∈ jm_wG := jm_mem1 (List.mem_of_getElem? (i := 184) rfl) rfl
theorem jw_185 : Cond.methodLink "CodeCover" 48 ({ cls := "CodeCover$Order", name := "<init>", desc := "(LCodeCover$Row;)V" } : MethodName) ∈ jm_wG := jm_mem1 (List.mem_of_getElem? (i := 185) rfl) rfl
theorem jw_186 : Cond.instanceMethod ({ cls := "CodeCover$Order", name := "<init>", desc := "(LCodeCover$Row;)V" } : MethodName) ∈ jm_wG := jm_mem1 (List.mem_of_getElem? (i := 186) rfl) rfl
theorem jw_187 : Cond.code ({ cls := "CodeCover$Order", name := "<init>", desc := "(LCodeCover$Row;)V" } : MethodName) prog_6_method_1_code 2 (Option.none : Option FieldType) ∈ jm_wG := jm_mem1 (List.mem_of_getElem? (i := 187) rfl) rfl
theorem jw_188 : Cond.methodLink "CodeCover$Order" 1 ({ cls := "java/lang/Object", name := "<init>", desc := "()V" } : MethodName) ∈ jm_wG := jm_mem1 (List.mem_of_getElem? (i := 188) rfl) rfl
theorem jw_189 : Cond.fieldLink "CodeCover$Order" 34 "CodeCover$Order" "row" "LCodeCover$Row;" ∈ jm_wG := jm_mem1 (List.mem_of_getElem? (i := 189) rfl) rfl
theorem jw_190 : Cond.fieldLink "CodeCover$Order" 9 "CodeCover$Order" "needed" "[I" ∈ jm_wG := jm_mem1 (List.mem_of_getElem? (i := 190) rfl) rfl
theorem jw_191 : Cond.fieldLink "CodeCover$Order" 13 "CodeCover$Order" "firstSetter" "[I" ∈ jm_wG := jm_mem1 (List.mem_of_getElem? (i := 191) rfl) rfl
theorem jw_192 : Cond.fieldLink "CodeCover$Order" 16 "CodeCover$Order" "secondSetter" "[I" ∈ jm_wG := jm_mem1 (List.mem_of_getElem? (i := 192) rfl) rfl
theorem jw_193 : Cond.fieldLink "CodeCover$Order" 19 "CodeCover$Order" "tail" "[I" ∈ jm_wG := jm_mem1 (List.mem_of_getElem? (i := 193) rfl) rfl
theorem jw_194 : Cond.fieldLink "CodeCover$Order" 22 "CodeCover$Order" "byTail" "[I" ∈ jm_wG := jm_mem1 (List.mem_of_getElem? (i := 194) rfl) rfl
theorem jw_195 : Cond.fieldLink "CodeCover$Order" 25 "CodeCover$Order" "start" "[I" ∈ jm_wG := jm_mem1 (List.mem_of_getElem? (i := 195) rfl) rfl
theorem jw_196 : Cond.fieldLink "CodeCover$Order" 28 "CodeCover$Order" "chosen" "[I" ∈ jm_wG := jm_mem1 (List.mem_of_getElem? (i := 196) rfl) rfl
theorem jw_197 : Cond.fieldLink "CodeCover$Order" 31 "CodeCover$Order" "found" "[I" ∈ jm_wG := jm_mem1 (List.mem_of_getElem? (i := 197) rfl) rfl
theorem jw_198 : Cond.fieldLink "CodeCover" 200 "CodeCover$Order" "found" "[I" ∈ jm_wG := jm_mem1 (List.mem_of_getElem? (i := 198) rfl) rfl
theorem jw_199 : Cond.fieldLink "CodeCover$Order" 57 "CodeCover$Order" "leastEnd" "I" ∈ jm_wG := jm_mem1 (List.mem_of_getElem? (i := 199) rfl) rfl
theorem jw_200 : Cond.fieldLink "CodeCover" 197 "CodeCover$Order" "leastEnd" "I" ∈ jm_wG := jm_mem1 (List.mem_of_getElem? (i := 200) rfl) rfl
theorem jw_201 : Cond.fieldLink "CodeCover$Order" 48 "CodeCover$Order" "count" "I" ∈ jm_wG := jm_mem1 (List.mem_of_getElem? (i := 201) rfl) rfl
theorem jw_202 : Cond.fieldLink "CodeCover$Order" 38 "CodeCover$Order" "version" "I" ∈ jm_wG := jm_mem1 (List.mem_of_getElem? (i := 202) rfl) rfl
theorem jw_228 : Cond.classLink "CodeCover" 55 "CodeCover$Lifetimes" ∈ jm_wG := jm_mem1 (List.mem_of_getElem? (i := 228) rfl) rfl
theorem jw_229 : Cond.instantiable "CodeCover$Lifetimes" 6 ∈ jm_wG := jm_mem1 (List.mem_of_getElem? (i := 229) rfl) rfl
theorem jw_230 : Cond.methodLink "CodeCover" 57 ({ cls := "CodeCover$Lifetimes", name := "<init>", desc := "(LCodeCover$Row;)V" } : MethodName) ∈ jm_wG := jm_mem1 (List.mem_of_getElem? (i := 230) rfl) rfl
theorem jw_231 : Cond.instanceMethod ({ cls := "CodeCover$Lifetimes", name := "<init>", desc := "(LCodeCover$Row;)V" } : MethodName) ∈ jm_wG := jm_mem1 (List.mem_of_getElem? (i := 231) rfl) rfl
theorem jw_232 : Cond.code ({ cls := "CodeCover$Lifetimes", name := "<init>", desc := "(LCodeCover$Row;)V" } : MethodName) prog_3_method_1_code 2 (Option.none : Option FieldType) ∈ jm_wG := jm_mem1 (List.mem_of_getElem? (i := 232) rfl) rfl
theorem jw_233 : Cond.methodLink "CodeCover$Lifetimes" 1 ({ cls := "java/lang/Object", name := "<init>", desc := "()V" } : MethodName) ∈ jm_wG := jm_mem1 (List.mem_of_getElem? (i := 233) rfl) rfl
theorem jw_234 : Cond.fieldLink "CodeCover$Lifetimes" 22 "CodeCover$Lifetimes" "row" "LCodeCover$Row;" ∈ jm_wG := jm_mem1 (List.mem_of_getElem? (i := 234) rfl) rfl
theorem jw_235 : Cond.fieldLink "CodeCover$Lifetimes" 9 "CodeCover$Lifetimes" "until" "[I" ∈ jm_wG := jm_mem1 (List.mem_of_getElem? (i := 235) rfl) rfl
theorem jw_236 : Cond.fieldLink "CodeCover$Lifetimes" 15 "CodeCover$Lifetimes" "living" "[I" ∈ jm_wG := jm_mem1 (List.mem_of_getElem? (i := 236) rfl) rfl
theorem jw_237 : Cond.fieldLink "CodeCover$Lifetimes" 18 "CodeCover$Lifetimes" "kept" "I" ∈ jm_wG := jm_mem1 (List.mem_of_getElem? (i := 237) rfl) rfl
theorem jw_238 : Cond.fieldLink "CodeCover" 207 "CodeCover$Lifetimes" "kept" "I" ∈ jm_wG := jm_mem1 (List.mem_of_getElem? (i := 238) rfl) rfl
theorem jw_239 : Cond.fieldLink "CodeCover$Lifetimes" 54 "CodeCover$Lifetimes" "lightest" "I" ∈ jm_wG := jm_mem1 (List.mem_of_getElem? (i := 239) rfl) rfl
theorem jw_240 : Cond.fieldLink "CodeCover" 223 "CodeCover$Lifetimes" "lightest" "I" ∈ jm_wG := jm_mem2 (List.mem_of_getElem? (i := 0) rfl) rfl
theorem jw_241 : Cond.fieldLink "CodeCover$Lifetimes" 58 "CodeCover$Lifetimes" "leastWeight" "I" ∈ jm_wG := jm_mem2 (List.mem_of_getElem? (i := 1) rfl) rfl
theorem jw_242 : Cond.fieldLink "CodeCover" 226 "CodeCover$Lifetimes" "leastWeight" "I" ∈ jm_wG := jm_mem2 (List.mem_of_getElem? (i := 2) rfl) rfl
theorem jw_256 : Cond.classLink "CodeCover" 62 "CodeCover$Machine" ∈ jm_wG := jm_mem2 (List.mem_of_getElem? (i := 16) rfl) rfl
theorem jw_257 : Cond.instantiable "CodeCover$Machine" 2 ∈ jm_wG := jm_mem2 (List.mem_of_getElem? (i := 17) rfl) rfl
theorem jw_258 : Cond.methodLink "CodeCover" 64 ({ cls := "CodeCover$Machine", name := "<init>", desc := "(LCodeCover$Row;)V" } : MethodName) ∈ jm_wG := jm_mem2 (List.mem_of_getElem? (i := 18) rfl) rfl
theorem jw_259 : Cond.instanceMethod ({ cls := "CodeCover$Machine", name := "<init>", desc := "(LCodeCover$Row;)V" } : MethodName) ∈ jm_wG := jm_mem2 (List.mem_of_getElem? (i := 19) rfl) rfl
theorem jw_260 : Cond.code ({ cls := "CodeCover$Machine", name := "<init>", desc := "(LCodeCover$Row;)V" } : MethodName) prog_4_method_1_code 2 (Option.none : Option FieldType) ∈ jm_wG := jm_mem2 (List.mem_of_getElem? (i := 20) rfl) rfl
theorem jw_261 : Cond.methodLink "CodeCover$Machine" 1 ({ cls := "java/lang/Object", name := "<init>", desc := "()V" } : MethodName) ∈ jm_wG := jm_mem2 (List.mem_of_getElem? (i := 21) rfl) rfl
theorem jw_262 : Cond.fieldLink "CodeCover$Machine" 15 "CodeCover$Machine" "row" "LCodeCover$Row;" ∈ jm_wG := jm_mem2 (List.mem_of_getElem? (i := 22) rfl) rfl
theorem jw_263 : Cond.fieldLink "CodeCover$Machine" 9 "CodeCover$Machine" "register" "[J" ∈ jm_wG := jm_mem2 (List.mem_of_getElem? (i := 23) rfl) rfl
theorem jw_264 : Cond.fieldLink "CodeCover$Search" 78 "CodeCover$Machine" "register" "[J" ∈ jm_wG := jm_mem2 (List.mem_of_getElem? (i := 24) rfl) rfl
theorem jw_265 : Cond.fieldLink "CodeCover" 233 "CodeCover$Machine" "register" "[J" ∈ jm_wG := jm_mem2 (List.mem_of_getElem? (i := 25) rfl) rfl
theorem jw_271 : Cond.arrayClass FieldType.long ∈ jm_wG := jm_mem2 (List.mem_of_getElem? (i := 31) rfl) rfl
theorem jw_272 : Cond.classLink "CodeCover" 69 "CodeCover$Search" ∈ jm_wG := jm_mem2 (List.mem_of_getElem? (i := 32) rfl) rfl
theorem jw_273 : Cond.instantiable "CodeCover$Search" 13 ∈ jm_wG := jm_mem2 (List.mem_of_getElem? (i := 33) rfl) rfl
theorem jw_274 : Cond.methodLink "CodeCover" 71 ({ cls := "CodeCover$Search", name := "<init>", desc := "(LCodeCover$Row;LCodeCover$Machine;)V" } : MethodName) ∈ jm_wG := jm_mem2 (List.mem_of_getElem? (i := 34) rfl) rfl
theorem jw_275 : Cond.instanceMethod ({ cls := "CodeCover$Search", name := "<init>", desc := "(LCodeCover$Row;LCodeCover$Machine;)V" } : MethodName) ∈ jm_wG := jm_mem2 (List.mem_of_getElem? (i := 35) rfl) rfl
theorem jw_276 : Cond.code ({ cls := "CodeCover$Search", name := "<init>", desc := "(LCodeCover$Row;LCodeCover$Machine;)V" } : MethodName) prog_10_method_1_code 3 (Option.none : Option FieldType) ∈ jm_wG := jm_mem2 (List.mem_of_getElem? (i := 36) rfl) rfl
theorem jw_277 : Cond.methodLink "CodeCover$Search" 1 ({ cls := "java/lang/Object", name := "<init>", desc := "()V" } : MethodName) ∈ jm_wG := jm_mem2 (List.mem_of_getElem? (i := 37) rfl) rfl
theorem jw_278 : Cond.classLink "CodeCover$Search" 7 "CodeCover$Moves" ∈ jm_wG := jm_mem2 (List.mem_of_getElem? (i := 38) rfl) rfl
theorem jw_279 : Cond.instantiable "CodeCover$Moves" 6 ∈ jm_wG := jm_mem2 (List.mem_of_getElem? (i := 39) rfl) rfl
theorem jw_280 : Cond.methodLink "CodeCover$Search" 9 ({ cls := "CodeCover$Moves", name := "<init>", desc := "()V" } : MethodName) ∈ jm_wG := jm_mem2 (List.mem_of_getElem? (i := 40) rfl) rfl
theorem jw_281 : Cond.instanceMethod ({ cls := "CodeCover$Moves", name := "<init>", desc := "()V" } : MethodName) ∈ jm_wG := jm_mem2 (List.mem_of_getElem? (i := 41) rfl) rfl
theorem jw_282 : Cond.code ({ cls := "CodeCover$Moves", name := "<init>", desc := "()V" } : MethodName) prog_5_method_1_code 2 (Option.none : Option FieldType) ∈ jm_wG := jm_mem2 (List.mem_of_getElem? (i := 42) rfl) rfl
theorem jw_283 : Cond.methodLink "CodeCover$Moves" 1 ({ cls := "java/lang/Object", name := "<init>", desc := "()V" } : MethodName) ∈ jm_wG := jm_mem2 (List.mem_of_getElem? (i := 43) rfl) rfl
theorem jw_284 : Cond.methodLink "CodeCover$Moves" 30 ({ cls := "CodeCover$Moves", name := "listSources", desc := "(I)V" } : MethodName) ∈ jm_wG := jm_mem2 (List.mem_of_getElem? (i := 44) rfl) rfl
theorem jw_286 : Cond.instanceMethod ({ cls := "CodeCover$Moves", name := "listSources", desc := "(I)V" } : MethodName) ∈ jm_wG := jm_mem2 (List.mem_of_getElem? (i := 46) rfl) rfl
theorem jw_287 : Cond.code ({ cls := "CodeCover$Moves", name := "listSources", desc := "(I)V" } : MethodName) prog_5_method_2_code 5 (Option.none : Option FieldType) ∈ jm_wG := jm_mem2 (List.mem_of_getElem? (i := 47) rfl) rfl
theorem jw_288 : Cond.methodLink "CodeCover$Moves" 34 ({ cls := "CodeCover$Row", name := "hasSecond", desc := "(I)Z" } : MethodName) ∈ jm_wG := jm_mem2 (List.mem_of_getElem? (i := 48) rfl) rfl
theorem jw_289 : Cond.static ({ cls := "CodeCover$Row", name := "hasSecond", desc := "(I)Z" } : MethodName) ∈ jm_wG := jm_mem2 (List.mem_of_getElem? (i := 49) rfl) rfl
theorem jw_290 : Cond.code ({ cls := "CodeCover$Row", name := "hasSecond", desc := "(I)Z" } : MethodName) prog_9_method_4_code 1 (Option.some FieldType.boolean) ∈ jm_wG := jm_mem2 (List.mem_of_getElem? (i := 50) rfl) rfl
theorem jw_291 : Cond.methodLink "CodeCover$Moves" 40 ({ cls := "CodeCover$Moves", name := "isNew", desc := "(III)Z" } : MethodName) ∈ jm_wG := jm_mem2 (List.mem_of_getElem? (i := 51) rfl) rfl
theorem jw_292 : Cond.static ({ cls := "CodeCover$Moves", name := "isNew", desc := "(III)Z" } : MethodName) ∈ jm_wG := jm_mem2 (List.mem_of_getElem? (i := 52) rfl) rfl
theorem jw_293 : Cond.code ({ cls := "CodeCover$Moves", name := "isNew", desc := "(III)Z" } : MethodName) prog_5_method_3_code 3 (Option.some FieldType.boolean) ∈ jm_wG := jm_mem2 (List.mem_of_getElem? (i := 53) rfl) rfl
theorem jw_294 : Cond.methodLink "CodeCover$Moves" 44 ({ cls := "CodeCover$Moves", name := "isNewAtFirst", desc := "(III)Z" } : MethodName) ∈ jm_wG := jm_mem2 (List.mem_of_getElem? (i := 54) rfl) rfl
theorem jw_295 : Cond.static ({ cls := "CodeCover$Moves", name := "isNewAtFirst", desc := "(III)Z" } : MethodName) ∈ jm_wG := jm_mem2 (List.mem_of_getElem? (i := 55) rfl) rfl
theorem jw_296 : Cond.code ({ cls := "CodeCover$Moves", name := "isNewAtFirst", desc := "(III)Z" } : MethodName) prog_5_method_4_code 3 (Option.some FieldType.boolean) ∈ jm_wG := jm_mem2 (List.mem_of_getElem? (i := 56) rfl) rfl
theorem jw_297 : Cond.fieldLink "CodeCover$Moves" 9 "CodeCover$Moves" "one" "[I" ∈ jm_wG := jm_mem2 (List.mem_of_getElem? (i := 57) rfl) rfl
theorem jw_298 : Cond.fieldLink "CodeCover$Search" 108 "CodeCover$Moves" "one" "[I" ∈ jm_wG := jm_mem2 (List.mem_of_getElem? (i := 58) rfl) rfl
theorem jw_299 : Cond.fieldLink "CodeCover$Moves" 13 "CodeCover$Moves" "two" "[I" ∈ jm_wG := jm_mem2 (List.mem_of_getElem? (i := 59) rfl) rfl
theorem jw_300 : Cond.fieldLink "CodeCover$Search" 109 "CodeCover$Moves" "two" "[I" ∈ jm_wG := jm_mem2 (List.mem_of_getElem? (i := 60) rfl) rfl
theorem jw_301 : Cond.fieldLink "CodeCover$Moves" 16 "CodeCover$Moves" "reads" "[I" ∈ jm_wG := jm_mem2 (List.mem_of_getElem? (i := 61) rfl) rfl
theorem jw_302 : Cond.fieldLink "CodeCover$Search" 101 "CodeCover$Moves" "reads" "[I" ∈ jm_wG := jm_mem2 (List.mem_of_getElem? (i := 62) rfl) rfl
theorem jw_303 : Cond.fieldLink "CodeCover$Moves" 19 "CodeCover$Moves" "atFirst" "[Z" ∈ jm_wG := jm_mem2 (List.mem_of_getElem? (i := 63) rfl) rfl
theorem jw_304 : Cond.fieldLink "CodeCover$Search" 104 "CodeCover$Moves" "atFirst" "[Z" ∈ jm_wG := jm_mem2 (List.mem_of_getElem? (i := 64) rfl) rfl
theorem jw_305 : Cond.fieldLink "CodeCover$Moves" 23 "CodeCover$Moves" "begin" "[I" ∈ jm_wG := jm_mem2 (List.mem_of_getElem? (i := 65) rfl) rfl
theorem jw_306 : Cond.fieldLink "CodeCover$Search" 99 "CodeCover$Moves" "begin" "[I" ∈ jm_wG := jm_mem2 (List.mem_of_getElem? (i := 66) rfl) rfl
theorem jw_307 : Cond.fieldLink "CodeCover$Moves" 26 "CodeCover$Moves" "count" "I" ∈ jm_wG := jm_mem2 (List.mem_of_getElem? (i := 67) rfl) rfl
theorem jw_321 : Cond.arrayClass FieldType.boolean ∈ jm_wG := jm_mem2 (List.mem_of_getElem? (i := 81) rfl) rfl
theorem jw_322 : Cond.classLink "CodeCover$Search" 20 "[[J" ∈ jm_wG := jm_mem2 (List.mem_of_getElem? (i := 82) rfl) rfl
theorem jw_324 : Cond.fieldLink "CodeCover$Search" 48 "CodeCover$Search" "row" "LCodeCover$Row;" ∈ jm_wG := jm_mem2 (List.mem_of_getElem? (i := 84) rfl) rfl
theorem jw_325 : Cond.fieldLink "CodeCover$Search" 52 "CodeCover$Search" "machine" "LCodeCover$Machine;" ∈ jm_wG := jm_mem2 (List.mem_of_getElem? (i := 85) rfl) rfl
theorem jw_326 : Cond.fieldLink "CodeCover$Search" 10 "CodeCover$Search" "moves" "LCodeCover$Moves;" ∈ jm_wG := jm_mem2 (List.mem_of_getElem? (i := 86) rfl) rfl
theorem jw_327 : Cond.fieldLink "CodeCover$Search" 16 "CodeCover$Search" "due" "[J" ∈ jm_wG := jm_mem2 (List.mem_of_getElem? (i := 87) rfl) rfl
theorem jw_328 : Cond.fieldLink "CodeCover$Search" 22 "CodeCover$Search" "before" "[[J" ∈ jm_wG := jm_mem2 (List.mem_of_getElem? (i := 88) rfl) rfl
theorem jw_329 : Cond.fieldLink "CodeCover$Search" 25 "CodeCover$Search" "trial" "[J" ∈ jm_wG := jm_mem2 (List.mem_of_getElem? (i := 89) rfl) rfl
theorem jw_330 : Cond.fieldLink "CodeCover$Search" 28 "CodeCover$Search" "op" "[I" ∈ jm_wG := jm_mem2 (List.mem_of_getElem? (i := 90) rfl) rfl
theorem jw_331 : Cond.fieldLink "CodeCover$Search" 32 "CodeCover$Search" "to" "[I" ∈ jm_wG := jm_mem2 (List.mem_of_getElem? (i := 91) rfl) rfl
theorem jw_332 : Cond.fieldLink "CodeCover$Search" 35 "CodeCover$Search" "one" "[I" ∈ jm_wG := jm_mem2 (List.mem_of_getElem? (i := 92) rfl) rfl
theorem jw_333 : Cond.fieldLink "CodeCover$Search" 38 "CodeCover$Search" "two" "[I" ∈ jm_wG := jm_mem2 (List.mem_of_getElem? (i := 93) rfl) rfl
theorem jw_334 : Cond.fieldLink "CodeCover$Search" 41 "CodeCover$Search" "length" "I" ∈ jm_wG := jm_mem2 (List.mem_of_getElem? (i := 94) rfl) rfl
theorem jw_335 : Cond.fieldLink "CodeCover" 241 "CodeCover$Search" "length" "I" ∈ jm_wG := jm_mem2 (List.mem_of_getElem? (i := 95) rfl) rfl
theorem jw_336 : Cond.fieldLink "CodeCover$Search" 45 "CodeCover$Search" "tried" "I" ∈ jm_wG := jm_mem2 (List.mem_of_getElem? (i := 96) rfl) rfl
theorem jw_337 : Cond.fieldLink "CodeCover$Search" 56 "CodeCover$Search" "version" "I" ∈ jm_wG := jm_mem2 (List.mem_of_getElem? (i := 97) rfl) rfl
theorem jw_365 : Cond.fieldLink "CodeCover" 10 "CodeCover" "pad" "LCodeCover$Pad;" ∈ jm_wG := jm_mem2 (List.mem_of_getElem? (i := 125) rfl) rfl
theorem jw_366 : Cond.fieldLink "CodeCover" 19 "CodeCover" "tree" "LCodeCover$Tree;" ∈ jm_wG := jm_mem2 (List.mem_of_getElem? (i := 126) rfl) rfl
theorem jw_367 : Cond.fieldLink "CodeCover" 26 "CodeCover" "patterns" "LCodeCover$Patterns;" ∈ jm_wG := jm_mem2 (List.mem_of_getElem? (i := 127) rfl) rfl
theorem jw_368 : Cond.fieldLink "CodeCover" 35 "CodeCover" "covering" "LCodeCover$Covering;" ∈ jm_wG := jm_mem2 (List.mem_of_getElem? (i := 128) rfl) rfl
theorem jw_369 : Cond.fieldLink "CodeCover" 42 "CodeCover" "row" "LCodeCover$Row;" ∈ jm_wG := jm_mem2 (List.mem_of_getElem? (i := 129) rfl) rfl
theorem jw_370 : Cond.fieldLink "CodeCover" 51 "CodeCover" "order" "LCodeCover$Order;" ∈ jm_wG := jm_mem2 (List.mem_of_getElem? (i := 130) rfl) rfl
theorem jw_371 : Cond.fieldLink "CodeCover" 58 "CodeCover" "lifetimes" "LCodeCover$Lifetimes;" ∈ jm_wG := jm_mem2 (List.mem_of_getElem? (i := 131) rfl) rfl
theorem jw_372 : Cond.fieldLink "CodeCover" 65 "CodeCover" "machine" "LCodeCover$Machine;" ∈ jm_wG := jm_mem2 (List.mem_of_getElem? (i := 132) rfl) rfl
theorem jw_373 : Cond.fieldLink "CodeCover" 74 "CodeCover" "search" "LCodeCover$Search;" ∈ jm_wG := jm_mem2 (List.mem_of_getElem? (i := 133) rfl) rfl
theorem jw_393 : Cond.methodLink "CodeCoverLaw" 13 ({ cls := "CodeCover", name := "say", desc := "(I)I" } : MethodName) ∈ jm_wG := jm_mem2 (List.mem_of_getElem? (i := 153) rfl) rfl
theorem jw_394 : Cond.instanceMethod ({ cls := "CodeCover", name := "say", desc := "(I)I" } : MethodName) ∈ jm_wG := jm_mem2 (List.mem_of_getElem? (i := 154) rfl) rfl
theorem jw_395 : Cond.selects "CodeCover" ({ cls := "CodeCover", name := "say", desc := "(I)I" } : MethodName) ({ cls := "CodeCover", name := "say", desc := "(I)I" } : MethodName) ∈ jm_wG := jm_mem2 (List.mem_of_getElem? (i := 155) rfl) rfl
theorem jw_396 : Cond.code ({ cls := "CodeCover", name := "say", desc := "(I)I" } : MethodName) prog_1_method_2_code 2 (Option.some FieldType.int) ∈ jm_wG := jm_mem2 (List.mem_of_getElem? (i := 156) rfl) rfl
theorem jw_397 : Cond.methodLink "CodeCover" 78 ({ cls := "CodeCover$Pad", name := "lay", desc := "(I)Z" } : MethodName) ∈ jm_wG := jm_mem2 (List.mem_of_getElem? (i := 157) rfl) rfl
theorem jw_398 : Cond.instanceMethod ({ cls := "CodeCover$Pad", name := "lay", desc := "(I)Z" } : MethodName) ∈ jm_wG := jm_mem2 (List.mem_of_getElem? (i := 158) rfl) rfl
theorem jw_399 : Cond.selects "CodeCover$Pad" ({ cls := "CodeCover$Pad", name := "lay", desc := "(I)Z" } : MethodName) ({ cls := "CodeCover$Pad", name := "lay", desc := "(I)Z" } : MethodName) ∈ jm_wG := jm_mem2 (List.mem_of_getElem? (i := 159) rfl) rfl
theorem jw_400 : Cond.code ({ cls := "CodeCover$Pad", name := "lay", desc := "(I)Z" } : MethodName) prog_7_method_2_code 2 (Option.some FieldType.boolean) ∈ jm_wG := jm_mem2 (List.mem_of_getElem? (i := 160) rfl) rfl
theorem jw_401 : Cond.methodLink "CodeCoverLaw" 18 ({ cls := "CodeCover", name := "wipe", desc := "()I" } : MethodName) ∈ jm_wG := jm_mem2 (List.mem_of_getElem? (i := 161) rfl) rfl
theorem jw_402 : Cond.instanceMethod ({ cls := "CodeCover", name := "wipe", desc := "()I" } : MethodName) ∈ jm_wG := jm_mem2 (List.mem_of_getElem? (i := 162) rfl) rfl
theorem jw_403 : Cond.selects "CodeCover" ({ cls := "CodeCover", name := "wipe", desc := "()I" } : MethodName) ({ cls := "CodeCover", name := "wipe", desc := "()I" } : MethodName) ∈ jm_wG := jm_mem2 (List.mem_of_getElem? (i := 163) rfl) rfl
theorem jw_404 : Cond.code ({ cls := "CodeCover", name := "wipe", desc := "()I" } : MethodName) prog_1_method_3_code 2 (Option.some FieldType.int) ∈ jm_wG := jm_mem2 (List.mem_of_getElem? (i := 164) rfl) rfl
theorem jw_405 : Cond.methodLink "CodeCoverLaw" 23 ({ cls := "CodeCover", name := "fault", desc := "()I" } : MethodName) ∈ jm_wG := jm_mem2 (List.mem_of_getElem? (i := 165) rfl) rfl
theorem jw_406 : Cond.instanceMethod ({ cls := "CodeCover", name := "fault", desc := "()I" } : MethodName) ∈ jm_wG := jm_mem2 (List.mem_of_getElem? (i := 166) rfl) rfl
theorem jw_407 : Cond.selects "CodeCover" ({ cls := "CodeCover", name := "fault", desc := "()I" } : MethodName) ({ cls := "CodeCover", name := "fault", desc := "()I" } : MethodName) ∈ jm_wG := jm_mem2 (List.mem_of_getElem? (i := 167) rfl) rfl
theorem jw_408 : Cond.code ({ cls := "CodeCover", name := "fault", desc := "()I" } : MethodName) prog_1_method_4_code 1 (Option.some FieldType.int) ∈ jm_wG := jm_mem2 (List.mem_of_getElem? (i := 168) rfl) rfl
theorem jw_409 : Cond.methodLink "CodeCover" 86 ({ cls := "CodeCover$Pad", name := "faultAsTree", desc := "()I" } : MethodName) ∈ jm_wG := jm_mem2 (List.mem_of_getElem? (i := 169) rfl) rfl
theorem jw_410 : Cond.instanceMethod ({ cls := "CodeCover$Pad", name := "faultAsTree", desc := "()I" } : MethodName) ∈ jm_wG := jm_mem2 (List.mem_of_getElem? (i := 170) rfl) rfl
theorem jw_411 : Cond.selects "CodeCover$Pad" ({ cls := "CodeCover$Pad", name := "faultAsTree", desc := "()I" } : MethodName) ({ cls := "CodeCover$Pad", name := "faultAsTree", desc := "()I" } : MethodName) ∈ jm_wG := jm_mem2 (List.mem_of_getElem? (i := 171) rfl) rfl
theorem jw_412 : Cond.code ({ cls := "CodeCover$Pad", name := "faultAsTree", desc := "()I" } : MethodName) prog_7_method_3_code 1 (Option.some FieldType.int) ∈ jm_wG := jm_mem2 (List.mem_of_getElem? (i := 172) rfl) rfl
theorem jw_413 : Cond.methodLink "CodeCover$Pad" 22 ({ cls := "CodeCover$Pad", name := "firstFault", desc := "(Z)I" } : MethodName) ∈ jm_wG := jm_mem2 (List.mem_of_getElem? (i := 173) rfl) rfl
theorem jw_415 : Cond.instanceMethod ({ cls := "CodeCover$Pad", name := "firstFault", desc := "(Z)I" } : MethodName) ∈ jm_wG := jm_mem2 (List.mem_of_getElem? (i := 175) rfl) rfl
theorem jw_416 : Cond.code ({ cls := "CodeCover$Pad", name := "firstFault", desc := "(Z)I" } : MethodName) prog_7_method_5_code 7 (Option.some FieldType.int) ∈ jm_wG := jm_mem2 (List.mem_of_getElem? (i := 176) rfl) rfl
theorem jw_417 : Cond.methodLink "CodeCover$Pad" 26 ({ cls := "CodeCover$Pad", name := "partsOf", desc := "(I)I" } : MethodName) ∈ jm_wG := jm_mem2 (List.mem_of_getElem? (i := 177) rfl) rfl
theorem jw_418 : Cond.static ({ cls := "CodeCover$Pad", name := "partsOf", desc := "(I)I" } : MethodName) ∈ jm_wG := jm_mem2 (List.mem_of_getElem? (i := 178) rfl) rfl
theorem jw_419 : Cond.code ({ cls := "CodeCover$Pad", name := "partsOf", desc := "(I)I" } : MethodName) prog_7_method_7_code 1 (Option.some FieldType.int) ∈ jm_wG := jm_mem2 (List.mem_of_getElem? (i := 179) rfl) rfl
theorem jw_420 : Cond.methodLink "CodeCover$Pad" 30 ({ cls := "CodeCover$Pad", name := "isPatternLeaf", desc := "(I)Z" } : MethodName) ∈ jm_wG := jm_mem2 (List.mem_of_getElem? (i := 180) rfl) rfl
theorem jw_421 : Cond.static ({ cls := "CodeCover$Pad", name := "isPatternLeaf", desc := "(I)Z" } : MethodName) ∈ jm_wG := jm_mem2 (List.mem_of_getElem? (i := 181) rfl) rfl
theorem jw_422 : Cond.code ({ cls := "CodeCover$Pad", name := "isPatternLeaf", desc := "(I)Z" } : MethodName) prog_7_method_11_code 1 (Option.some FieldType.boolean) ∈ jm_wG := jm_mem2 (List.mem_of_getElem? (i := 182) rfl) rfl
theorem jw_423 : Cond.methodLink "CodeCover$Pad" 40 ({ cls := "CodeCover$Pad", name := "isNumber", desc := "(I)Z" } : MethodName) ∈ jm_wG := jm_mem2 (List.mem_of_getElem? (i := 183) rfl) rfl
theorem jw_424 : Cond.static ({ cls := "CodeCover$Pad", name := "isNumber", desc := "(I)Z" } : MethodName) ∈ jm_wG := jm_mem2 (List.mem_of_getElem? (i := 184) rfl) rfl
theorem jw_425 : Cond.code ({ cls := "CodeCover$Pad", name := "isNumber", desc := "(I)Z" } : MethodName) prog_7_method_8_code 1 (Option.some FieldType.boolean) ∈ jm_wG := jm_mem2 (List.mem_of_getElem? (i := 185) rfl) rfl
theorem jw_426 : Cond.methodLink "CodeCover$Pad" 46 ({ cls := "CodeCover$Patterns", name := "headOf", desc := "(I)I" } : MethodName) ∈ jm_wG := jm_mem2 (List.mem_of_getElem? (i := 186) rfl) rfl
theorem jw_427 : Cond.static ({ cls := "CodeCover$Patterns", name := "headOf", desc := "(I)I" } : MethodName) ∈ jm_wG := jm_mem2 (List.mem_of_getElem? (i := 187) rfl) rfl
theorem jw_428 : Cond.code ({ cls := "CodeCover$Patterns", name := "headOf", desc := "(I)I" } : MethodName) prog_8_method_5_code 1 (Option.some FieldType.int) ∈ jm_wG := jm_mem2 (List.mem_of_getElem? (i := 188) rfl) rfl
theorem jw_429 : Cond.methodLink "CodeCover$Pad" 34 ({ cls := "CodeCover$Pad", name := "isTreeLeaf", desc := "(I)Z" } : MethodName) ∈ jm_wG := jm_mem2 (List.mem_of_getElem? (i := 189) rfl) rfl
theorem jw_430 : Cond.static ({ cls := "CodeCover$Pad", name := "isTreeLeaf", desc := "(I)Z" } : MethodName) ∈ jm_wG := jm_mem2 (List.mem_of_getElem? (i := 190) rfl) rfl
theorem jw_431 : Cond.code ({ cls := "CodeCover$Pad", name := "isTreeLeaf", desc := "(I)Z" } : MethodName) prog_7_method_10_code 1 (Option.some FieldType.boolean) ∈ jm_wG := jm_mem2 (List.mem_of_getElem? (i := 191) rfl) rfl
theorem jw_432 : Cond.methodLink "CodeCover$Pad" 43 ({ cls := "CodeCover$Pad", name := "isVariable", desc := "(I)Z" } : MethodName) ∈ jm_wG := jm_mem2 (List.mem_of_getElem? (i := 192) rfl) rfl
theorem jw_433 : Cond.static ({ cls := "CodeCover$Pad", name := "isVariable", desc := "(I)Z" } : MethodName) ∈ jm_wG := jm_mem2 (List.mem_of_getElem? (i := 193) rfl) rfl
theorem jw_434 : Cond.code ({ cls := "CodeCover$Pad", name := "isVariable", desc := "(I)Z" } : MethodName) prog_7_method_9_code 1 (Option.some FieldType.boolean) ∈ jm_wG := jm_mem2 (List.mem_of_getElem? (i := 194) rfl) rfl
theorem jw_435 : Cond.methodLink "CodeCover$Pad" 37 ({ cls := "CodeCover$Pad", name := "deepestOpen", desc := "(I)I" } : MethodName) ∈ jm_wG := jm_mem2 (List.mem_of_getElem? (i := 195) rfl) rfl
theorem jw_437 : Cond.instanceMethod ({ cls := "CodeCover$Pad", name := "deepestOpen", desc := "(I)I" } : MethodName) ∈ jm_wG := jm_mem2 (List.mem_of_getElem? (i := 197) rfl) rfl
theorem jw_438 : Cond.code ({ cls := "CodeCover$Pad", name := "deepestOpen", desc := "(I)I" } : MethodName) prog_7_method_6_code 3 (Option.some FieldType.int) ∈ jm_wG := jm_mem2 (List.mem_of_getElem? (i := 198) rfl) rfl
theorem jw_439 : Cond.methodLink "CodeCoverLaw" 27 ({ cls := "CodeCover", name := "read", desc := "()I" } : MethodName) ∈ jm_wG := jm_mem2 (List.mem_of_getElem? (i := 199) rfl) rfl
theorem jw_440 : Cond.instanceMethod ({ cls := "CodeCover", name := "read", desc := "()I" } : MethodName) ∈ jm_wG := jm_mem2 (List.mem_of_getElem? (i := 200) rfl) rfl
theorem jw_441 : Cond.selects "CodeCover" ({ cls := "CodeCover", name := "read", desc := "()I" } : MethodName) ({ cls := "CodeCover", name := "read", desc := "()I" } : MethodName) ∈ jm_wG := jm_mem2 (List.mem_of_getElem? (i := 201) rfl) rfl
theorem jw_442 : Cond.code ({ cls := "CodeCover", name := "read", desc := "()I" } : MethodName) prog_1_method_5_code 1 (Option.some FieldType.int) ∈ jm_wG := jm_mem2 (List.mem_of_getElem? (i := 202) rfl) rfl
theorem jw_443 : Cond.methodLink "CodeCover" 90 ({ cls := "CodeCover$Tree", name := "take", desc := "(LCodeCover$Pad;)V" } : MethodName) ∈ jm_wG := jm_mem2 (List.mem_of_getElem? (i := 203) rfl) rfl
theorem jw_444 : Cond.instanceMethod ({ cls := "CodeCover$Tree", name := "take", desc := "(LCodeCover$Pad;)V" } : MethodName) ∈ jm_wG := jm_mem2 (List.mem_of_getElem? (i := 204) rfl) rfl
theorem jw_445 : Cond.selects "CodeCover$Tree" ({ cls := "CodeCover$Tree", name := "take", desc := "(LCodeCover$Pad;)V" } : MethodName) ({ cls := "CodeCover$Tree", name := "take", desc := "(LCodeCover$Pad;)V" } : MethodName) ∈ jm_wG := jm_mem2 (List.mem_of_getElem? (i := 205) rfl) rfl
theorem jw_446 : Cond.code ({ cls := "CodeCover$Tree", name := "take", desc := "(LCodeCover$Pad;)V" } : MethodName) prog_11_method_3_code 3 (Option.none : Option FieldType) ∈ jm_wG := jm_mem2 (List.mem_of_getElem? (i := 206) rfl) rfl
theorem jw_447 : Cond.methodLink "CodeCover$Tree" 29 ({ cls := "java/lang/Math", name := "min", desc := "(II)I" } : MethodName) ∈ jm_wG := jm_mem2 (List.mem_of_getElem? (i := 207) rfl) rfl
theorem jw_448 : Cond.static ({ cls := "java/lang/Math", name := "min", desc := "(II)I" } : MethodName) ∈ jm_wG := jm_mem2 (List.mem_of_getElem? (i := 208) rfl) rfl
theorem jw_449 : Cond.code ({ cls := "java/lang/Math", name := "min", desc := "(II)I" } : MethodName) prog_15_method_69_code 2 (Option.some FieldType.int) ∈ jm_wG := jm_mem2 (List.mem_of_getElem? (i := 209) rfl) rfl
theorem jw_450 : Cond.methodLink "CodeCover$Tree" 36 ({ cls := "CodeCover$Tree", name := "measure", desc := "(I)V" } : MethodName) ∈ jm_wG := jm_mem2 (List.mem_of_getElem? (i := 210) rfl) rfl
theorem jw_452 : Cond.instanceMethod ({ cls := "CodeCover$Tree", name := "measure", desc := "(I)V" } : MethodName) ∈ jm_wG := jm_mem2 (List.mem_of_getElem? (i := 212) rfl) rfl
theorem jw_453 : Cond.code ({ cls := "CodeCover$Tree", name := "measure", desc := "(I)V" } : MethodName) prog_11_method_4_code 4 (Option.none : Option FieldType) ∈ jm_wG := jm_mem2 (List.mem_of_getElem? (i := 213) rfl) rfl
theorem jw_454 : Cond.methodLink "CodeCover$Tree" 40 ({ cls := "CodeCover$Tree", name := "firstPart", desc := "(I)I" } : MethodName) ∈ jm_wG := jm_mem2 (List.mem_of_getElem? (i := 214) rfl) rfl
theorem jw_456 : Cond.instanceMethod ({ cls := "CodeCover$Tree", name := "firstPart", desc := "(I)I" } : MethodName) ∈ jm_wG := jm_mem2 (List.mem_of_getElem? (i := 216) rfl) rfl
theorem jw_457 : Cond.code ({ cls := "CodeCover$Tree", name := "firstPart", desc := "(I)I" } : MethodName) prog_11_method_5_code 2 (Option.some FieldType.int) ∈ jm_wG := jm_mem2 (List.mem_of_getElem? (i := 217) rfl) rfl
theorem jw_458 : Cond.methodLink "CodeCover$Tree" 50 ({ cls := "CodeCover$Pad", name := "partsOf", desc := "(I)I" } : MethodName) ∈ jm_wG := jm_mem2 (List.mem_of_getElem? (i := 218) rfl) rfl
theorem jw_459 : Cond.methodLink "CodeCover$Tree" 44 ({ cls := "CodeCover$Tree", name := "secondPart", desc := "(I)I" } : MethodName) ∈ jm_wG := jm_mem2 (List.mem_of_getElem? (i := 219) rfl) rfl
theorem jw_461 : Cond.instanceMethod ({ cls := "CodeCover$Tree", name := "secondPart", desc := "(I)I" } : MethodName) ∈ jm_wG := jm_mem2 (List.mem_of_getElem? (i := 221) rfl) rfl
theorem jw_462 : Cond.code ({ cls := "CodeCover$Tree", name := "secondPart", desc := "(I)I" } : MethodName) prog_11_method_6_code 3 (Option.some FieldType.int) ∈ jm_wG := jm_mem2 (List.mem_of_getElem? (i := 222) rfl) rfl
theorem jw_463 : Cond.methodLink "CodeCover$Tree" 47 ({ cls := "java/lang/Math", name := "max", desc := "(II)I" } : MethodName) ∈ jm_wG := jm_mem2 (List.mem_of_getElem? (i := 223) rfl) rfl
theorem jw_464 : Cond.static ({ cls := "java/lang/Math", name := "max", desc := "(II)I" } : MethodName) ∈ jm_wG := jm_mem2 (List.mem_of_getElem? (i := 224) rfl) rfl
theorem jw_465 : Cond.code ({ cls := "java/lang/Math", name := "max", desc := "(II)I" } : MethodName) prog_15_method_65_code 2 (Option.some FieldType.int) ∈ jm_wG := jm_mem2 (List.mem_of_getElem? (i := 225) rfl) rfl
theorem jw_466 : Cond.methodLink "CodeCoverLaw" 31 ({ cls := "CodeCover", name := "node", desc := "(II)I" } : MethodName) ∈ jm_wG := jm_mem2 (List.mem_of_getElem? (i := 226) rfl) rfl
theorem jw_467 : Cond.instanceMethod ({ cls := "CodeCover", name := "node", desc := "(II)I" } : MethodName) ∈ jm_wG := jm_mem2 (List.mem_of_getElem? (i := 227) rfl) rfl
theorem jw_468 : Cond.selects "CodeCover" ({ cls := "CodeCover", name := "node", desc := "(II)I" } : MethodName) ({ cls := "CodeCover", name := "node", desc := "(II)I" } : MethodName) ∈ jm_wG := jm_mem2 (List.mem_of_getElem? (i := 228) rfl) rfl
theorem jw_469 : Cond.code ({ cls := "CodeCover", name := "node", desc := "(II)I" } : MethodName) prog_1_method_6_code 3 (Option.some FieldType.int) ∈ jm_wG := jm_mem2 (List.mem_of_getElem? (i := 229) rfl) rfl
theorem jw_470 : Cond.methodLink "CodeCover" 99 ({ cls := "CodeCover$Tree", name := "has", desc := "(I)Z" } : MethodName) ∈ jm_wG := jm_mem2 (List.mem_of_getElem? (i := 230) rfl) rfl
theorem jw_471 : Cond.instanceMethod ({ cls := "CodeCover$Tree", name := "has", desc := "(I)Z" } : MethodName) ∈ jm_wG := jm_mem2 (List.mem_of_getElem? (i := 231) rfl) rfl
theorem jw_472 : Cond.selects "CodeCover$Tree" ({ cls := "CodeCover$Tree", name := "has", desc := "(I)Z" } : MethodName) ({ cls := "CodeCover$Tree", name := "has", desc := "(I)Z" } : MethodName) ∈ jm_wG := jm_mem2 (List.mem_of_getElem? (i := 232) rfl) rfl
theorem jw_473 : Cond.code ({ cls := "CodeCover$Tree", name := "has", desc := "(I)Z" } : MethodName) prog_11_method_2_code 2 (Option.some FieldType.boolean) ∈ jm_wG := jm_mem2 (List.mem_of_getElem? (i := 233) rfl) rfl
theorem jw_474 : Cond.methodLink "CodeCover" 109 ({ cls := "CodeCover$Pad", name := "partsOf", desc := "(I)I" } : MethodName) ∈ jm_wG := jm_mem2 (List.mem_of_getElem? (i := 234) rfl) rfl
theorem jw_475 : Cond.methodLink "CodeCoverLaw" 36 ({ cls := "CodeCover", name := "pattern", desc := "(II)I" } : MethodName) ∈ jm_wG := jm_mem2 (List.mem_of_getElem? (i := 235) rfl) rfl
theorem jw_476 : Cond.instanceMethod ({ cls := "CodeCover", name := "pattern", desc := "(II)I" } : MethodName) ∈ jm_wG := jm_mem2 (List.mem_of_getElem? (i := 236) rfl) rfl
theorem jw_477 : Cond.selects "CodeCover" ({ cls := "CodeCover", name := "pattern", desc := "(II)I" } : MethodName) ({ cls := "CodeCover", name := "pattern", desc := "(II)I" } : MethodName) ∈ jm_wG := jm_mem2 (List.mem_of_getElem? (i := 237) rfl) rfl
theorem jw_478 : Cond.code ({ cls := "CodeCover", name := "pattern", desc := "(II)I" } : MethodName) prog_1_method_7_code 3 (Option.some FieldType.int) ∈ jm_wG := jm_mem2 (List.mem_of_getElem? (i := 238) rfl) rfl
theorem jw_479 : Cond.methodLink "CodeCover" 119 ({ cls := "CodeCover", name := "isHead", desc := "(I)Z" } : MethodName) ∈ jm_wG := jm_mem2 (List.mem_of_getElem? (i := 239) rfl) rfl
theorem jw_480 : Cond.static ({ cls := "CodeCover", name := "isHead", desc := "(I)Z" } : MethodName) ∈ jm_wG := jm_mem3 (List.mem_of_getElem? (i := 0) rfl) rfl
theorem jw_481 : Cond.code ({ cls := "CodeCover", name := "isHead", desc := "(I)Z" } : MethodName) prog_1_method_30_code 1 (Option.some FieldType.boolean) ∈ jm_wG := jm_mem3 (List.mem_of_getElem? (i := 1) rfl) rfl
theorem jw_482 : Cond.methodLink "CodeCover" 122 ({ cls := "CodeCover", name := "isPrice", desc := "(I)Z" } : MethodName) ∈ jm_wG := jm_mem3 (List.mem_of_getElem? (i := 2) rfl) rfl
theorem jw_483 : Cond.static ({ cls := "CodeCover", name := "isPrice", desc := "(I)Z" } : MethodName) ∈ jm_wG := jm_mem3 (List.mem_of_getElem? (i := 3) rfl) rfl
theorem jw_484 : Cond.code ({ cls := "CodeCover", name := "isPrice", desc := "(I)Z" } : MethodName) prog_1_method_31_code 1 (Option.some FieldType.boolean) ∈ jm_wG := jm_mem3 (List.mem_of_getElem? (i := 4) rfl) rfl
theorem jw_485 : Cond.methodLink "CodeCover" 126 ({ cls := "CodeCover$Patterns", name := "allows", desc := "(LCodeCover$Pad;I)Z" } : MethodName) ∈ jm_wG := jm_mem3 (List.mem_of_getElem? (i := 5) rfl) rfl
theorem jw_486 : Cond.instanceMethod ({ cls := "CodeCover$Patterns", name := "allows", desc := "(LCodeCover$Pad;I)Z" } : MethodName) ∈ jm_wG := jm_mem3 (List.mem_of_getElem? (i := 6) rfl) rfl
theorem jw_487 : Cond.selects "CodeCover$Patterns" ({ cls := "CodeCover$Patterns", name := "allows", desc := "(LCodeCover$Pad;I)Z" } : MethodName) ({ cls := "CodeCover$Patterns", name := "allows", desc := "(LCodeCover$Pad;I)Z" } : MethodName) ∈ jm_wG := jm_mem3 (List.mem_of_getElem? (i := 7) rfl) rfl
theorem jw_488 : Cond.code ({ cls := "CodeCover$Patterns", name := "allows", desc := "(LCodeCover$Pad;I)Z" } : MethodName) prog_8_method_2_code 3 (Option.some FieldType.boolean) ∈ jm_wG := jm_mem3 (List.mem_of_getElem? (i := 8) rfl) rfl
theorem jw_489 : Cond.methodLink "CodeCover$Patterns" 32 ({ cls := "CodeCover$Pad", name := "faultAsPattern", desc := "()I" } : MethodName) ∈ jm_wG := jm_mem3 (List.mem_of_getElem? (i := 9) rfl) rfl
theorem jw_490 : Cond.instanceMethod ({ cls := "CodeCover$Pad", name := "faultAsPattern", desc := "()I" } : MethodName) ∈ jm_wG := jm_mem3 (List.mem_of_getElem? (i := 10) rfl) rfl
theorem jw_491 : Cond.selects "CodeCover$Pad" ({ cls := "CodeCover$Pad", name := "faultAsPattern", desc := "()I" } : MethodName) ({ cls := "CodeCover$Pad", name := "faultAsPattern", desc := "()I" } : MethodName) ∈ jm_wG := jm_mem3 (List.mem_of_getElem? (i := 11) rfl) rfl
theorem jw_492 : Cond.code ({ cls := "CodeCover$Pad", name := "faultAsPattern", desc := "()I" } : MethodName) prog_7_method_4_code 1 (Option.some FieldType.int) ∈ jm_wG := jm_mem3 (List.mem_of_getElem? (i := 12) rfl) rfl
theorem jw_493 : Cond.methodLink "CodeCover$Patterns" 39 ({ cls := "CodeCover$Patterns", name := "headOf", desc := "(I)I" } : MethodName) ∈ jm_wG := jm_mem3 (List.mem_of_getElem? (i := 13) rfl) rfl
theorem jw_494 : Cond.methodLink "CodeCover" 130 ({ cls := "CodeCover$Patterns", name := "take", desc := "(LCodeCover$Pad;II)V" } : MethodName) ∈ jm_wG := jm_mem3 (List.mem_of_getElem? (i := 14) rfl) rfl
theorem jw_495 : Cond.instanceMethod ({ cls := "CodeCover$Patterns", name := "take", desc := "(LCodeCover$Pad;II)V" } : MethodName) ∈ jm_wG := jm_mem3 (List.mem_of_getElem? (i := 15) rfl) rfl
theorem jw_496 : Cond.selects "CodeCover$Patterns" ({ cls := "CodeCover$Patterns", name := "take", desc := "(LCodeCover$Pad;II)V" } : MethodName) ({ cls := "CodeCover$Patterns", name := "take", desc := "(LCodeCover$Pad;II)V" } : MethodName) ∈ jm_wG := jm_mem3 (List.mem_of_getElem? (i := 16) rfl) rfl
theorem jw_497 : Cond.code ({ cls := "CodeCover$Patterns", name := "take", desc := "(LCodeCover$Pad;II)V" } : MethodName) prog_8_method_3_code 5 (Option.none : Option FieldType) ∈ jm_wG := jm_mem3 (List.mem_of_getElem? (i := 17) rfl) rfl
theorem jw_498 : Cond.methodLink "CodeCover$Patterns" 44 ({ cls := "java/lang/Math", name := "min", desc := "(II)I" } : MethodName) ∈ jm_wG := jm_mem3 (List.mem_of_getElem? (i := 18) rfl) rfl
theorem jw_499 : Cond.methodLink "CodeCoverLaw" 40 ({ cls := "CodeCover", name := "price", desc := "(II)I" } : MethodName) ∈ jm_wG := jm_mem3 (List.mem_of_getElem? (i := 19) rfl) rfl
theorem jw_500 : Cond.instanceMethod ({ cls := "CodeCover", name := "price", desc := "(II)I" } : MethodName) ∈ jm_wG := jm_mem3 (List.mem_of_getElem? (i := 20) rfl) rfl
theorem jw_501 : Cond.selects "CodeCover" ({ cls := "CodeCover", name := "price", desc := "(II)I" } : MethodName) ({ cls := "CodeCover", name := "price", desc := "(II)I" } : MethodName) ∈ jm_wG := jm_mem3 (List.mem_of_getElem? (i := 21) rfl) rfl
theorem jw_502 : Cond.code ({ cls := "CodeCover", name := "price", desc := "(II)I" } : MethodName) prog_1_method_8_code 4 (Option.some FieldType.int) ∈ jm_wG := jm_mem3 (List.mem_of_getElem? (i := 22) rfl) rfl
theorem jw_503 : Cond.methodLink "CodeCoverLaw" 44 ({ cls := "CodeCover", name := "clear", desc := "()I" } : MethodName) ∈ jm_wG := jm_mem3 (List.mem_of_getElem? (i := 23) rfl) rfl
theorem jw_504 : Cond.instanceMethod ({ cls := "CodeCover", name := "clear", desc := "()I" } : MethodName) ∈ jm_wG := jm_mem3 (List.mem_of_getElem? (i := 24) rfl) rfl
theorem jw_505 : Cond.selects "CodeCover" ({ cls := "CodeCover", name := "clear", desc := "()I" } : MethodName) ({ cls := "CodeCover", name := "clear", desc := "()I" } : MethodName) ∈ jm_wG := jm_mem3 (List.mem_of_getElem? (i := 25) rfl) rfl
theorem jw_506 : Cond.code ({ cls := "CodeCover", name := "clear", desc := "()I" } : MethodName) prog_1_method_9_code 2 (Option.some FieldType.int) ∈ jm_wG := jm_mem3 (List.mem_of_getElem? (i := 26) rfl) rfl
theorem jw_507 : Cond.methodLink "CodeCoverLaw" 48 ({ cls := "CodeCover", name := "cover", desc := "(III)I" } : MethodName) ∈ jm_wG := jm_mem3 (List.mem_of_getElem? (i := 27) rfl) rfl
theorem jw_508 : Cond.instanceMethod ({ cls := "CodeCover", name := "cover", desc := "(III)I" } : MethodName) ∈ jm_wG := jm_mem3 (List.mem_of_getElem? (i := 28) rfl) rfl
theorem jw_509 : Cond.selects "CodeCover" ({ cls := "CodeCover", name := "cover", desc := "(III)I" } : MethodName) ({ cls := "CodeCover", name := "cover", desc := "(III)I" } : MethodName) ∈ jm_wG := jm_mem3 (List.mem_of_getElem? (i := 29) rfl) rfl
theorem jw_510 : Cond.code ({ cls := "CodeCover", name := "cover", desc := "(III)I" } : MethodName) prog_1_method_10_code 5 (Option.some FieldType.int) ∈ jm_wG := jm_mem3 (List.mem_of_getElem? (i := 30) rfl) rfl
theorem jw_511 : Cond.methodLink "CodeCover" 136 ({ cls := "CodeCover", name := "isBit", desc := "(I)Z" } : MethodName) ∈ jm_wG := jm_mem3 (List.mem_of_getElem? (i := 31) rfl) rfl
theorem jw_512 : Cond.static ({ cls := "CodeCover", name := "isBit", desc := "(I)Z" } : MethodName) ∈ jm_wG := jm_mem3 (List.mem_of_getElem? (i := 32) rfl) rfl
theorem jw_513 : Cond.code ({ cls := "CodeCover", name := "isBit", desc := "(I)Z" } : MethodName) prog_1_method_32_code 1 (Option.some FieldType.boolean) ∈ jm_wG := jm_mem3 (List.mem_of_getElem? (i := 33) rfl) rfl
theorem jw_514 : Cond.methodLink "CodeCover" 139 ({ cls := "CodeCover$Covering", name := "refresh", desc := "()V" } : MethodName) ∈ jm_wG := jm_mem3 (List.mem_of_getElem? (i := 34) rfl) rfl
theorem jw_515 : Cond.instanceMethod ({ cls := "CodeCover$Covering", name := "refresh", desc := "()V" } : MethodName) ∈ jm_wG := jm_mem3 (List.mem_of_getElem? (i := 35) rfl) rfl
theorem jw_516 : Cond.selects "CodeCover$Covering" ({ cls := "CodeCover$Covering", name := "refresh", desc := "()V" } : MethodName) ({ cls := "CodeCover$Covering", name := "refresh", desc := "()V" } : MethodName) ∈ jm_wG := jm_mem3 (List.mem_of_getElem? (i := 36) rfl) rfl
theorem jw_517 : Cond.code ({ cls := "CodeCover$Covering", name := "refresh", desc := "()V" } : MethodName) prog_2_method_3_code 2 (Option.none : Option FieldType) ∈ jm_wG := jm_mem3 (List.mem_of_getElem? (i := 37) rfl) rfl
theorem jw_518 : Cond.methodLink "CodeCover$Covering" 46 ({ cls := "CodeCover$Covering", name := "coverPlainly", desc := "(I)V" } : MethodName) ∈ jm_wG := jm_mem3 (List.mem_of_getElem? (i := 38) rfl) rfl
theorem jw_520 : Cond.instanceMethod ({ cls := "CodeCover$Covering", name := "coverPlainly", desc := "(I)V" } : MethodName) ∈ jm_wG := jm_mem3 (List.mem_of_getElem? (i := 40) rfl) rfl
theorem jw_521 : Cond.code ({ cls := "CodeCover$Covering", name := "coverPlainly", desc := "(I)V" } : MethodName) prog_2_method_4_code 5 (Option.none : Option FieldType) ∈ jm_wG := jm_mem3 (List.mem_of_getElem? (i := 41) rfl) rfl
theorem jw_522 : Cond.methodLink "CodeCover$Covering" 60 ({ cls := "CodeCover$Covering", name := "at", desc := "(II)I" } : MethodName) ∈ jm_wG := jm_mem3 (List.mem_of_getElem? (i := 42) rfl) rfl
theorem jw_523 : Cond.static ({ cls := "CodeCover$Covering", name := "at", desc := "(II)I" } : MethodName) ∈ jm_wG := jm_mem3 (List.mem_of_getElem? (i := 43) rfl) rfl
theorem jw_524 : Cond.code ({ cls := "CodeCover$Covering", name := "at", desc := "(II)I" } : MethodName) prog_2_method_2_code 2 (Option.some FieldType.int) ∈ jm_wG := jm_mem3 (List.mem_of_getElem? (i := 44) rfl) rfl
theorem jw_525 : Cond.constant "CodeCover$Covering" 64 (1000000 : Int32) ∈ jm_wG := jm_mem3 (List.mem_of_getElem? (i := 45) rfl) rfl
theorem jw_526 : Cond.methodLink "CodeCover$Covering" 68 ({ cls := "CodeCover$Patterns", name := "chainFrom", desc := "(I)I" } : MethodName) ∈ jm_wG := jm_mem3 (List.mem_of_getElem? (i := 46) rfl) rfl
theorem jw_527 : Cond.instanceMethod ({ cls := "CodeCover$Patterns", name := "chainFrom", desc := "(I)I" } : MethodName) ∈ jm_wG := jm_mem3 (List.mem_of_getElem? (i := 47) rfl) rfl
theorem jw_528 : Cond.selects "CodeCover$Patterns" ({ cls := "CodeCover$Patterns", name := "chainFrom", desc := "(I)I" } : MethodName) ({ cls := "CodeCover$Patterns", name := "chainFrom", desc := "(I)I" } : MethodName) ∈ jm_wG := jm_mem3 (List.mem_of_getElem? (i := 48) rfl) rfl
theorem jw_529 : Cond.code ({ cls := "CodeCover$Patterns", name := "chainFrom", desc := "(I)I" } : MethodName) prog_8_method_4_code 2 (Option.some FieldType.int) ∈ jm_wG := jm_mem3 (List.mem_of_getElem? (i := 49) rfl) rfl
theorem jw_530 : Cond.methodLink "CodeCover$Covering" 72 ({ cls := "CodeCover$Covering", name := "costOf", desc := "(II)I" } : MethodName) ∈ jm_wG := jm_mem3 (List.mem_of_getElem? (i := 50) rfl) rfl
theorem jw_532 : Cond.instanceMethod ({ cls := "CodeCover$Covering", name := "costOf", desc := "(II)I" } : MethodName) ∈ jm_wG := jm_mem3 (List.mem_of_getElem? (i := 52) rfl) rfl
theorem jw_533 : Cond.code ({ cls := "CodeCover$Covering", name := "costOf", desc := "(II)I" } : MethodName) prog_2_method_6_code 8 (Option.some FieldType.int) ∈ jm_wG := jm_mem3 (List.mem_of_getElem? (i := 53) rfl) rfl
theorem jw_534 : Cond.methodLink "CodeCover$Covering" 88 ({ cls := "CodeCover$Patterns", name := "headOf", desc := "(I)I" } : MethodName) ∈ jm_wG := jm_mem3 (List.mem_of_getElem? (i := 54) rfl) rfl
theorem jw_535 : Cond.methodLink "CodeCover$Covering" 91 ({ cls := "java/lang/Math", name := "min", desc := "(II)I" } : MethodName) ∈ jm_wG := jm_mem3 (List.mem_of_getElem? (i := 55) rfl) rfl
theorem jw_536 : Cond.methodLink "CodeCover$Covering" 102 ({ cls := "CodeCover$Patterns", name := "fits", desc := "(II)Z" } : MethodName) ∈ jm_wG := jm_mem3 (List.mem_of_getElem? (i := 56) rfl) rfl
theorem jw_537 : Cond.static ({ cls := "CodeCover$Patterns", name := "fits", desc := "(II)Z" } : MethodName) ∈ jm_wG := jm_mem3 (List.mem_of_getElem? (i := 57) rfl) rfl
theorem jw_538 : Cond.code ({ cls := "CodeCover$Patterns", name := "fits", desc := "(II)Z" } : MethodName) prog_8_method_6_code 2 (Option.some FieldType.boolean) ∈ jm_wG := jm_mem3 (List.mem_of_getElem? (i := 58) rfl) rfl
theorem jw_539 : Cond.methodLink "CodeCover$Patterns" 50 ({ cls := "CodeCover$Pad", name := "isNumber", desc := "(I)Z" } : MethodName) ∈ jm_wG := jm_mem3 (List.mem_of_getElem? (i := 59) rfl) rfl
theorem jw_540 : Cond.methodLink "CodeCover$Patterns" 54 ({ cls := "CodeCover$Pad", name := "isVariable", desc := "(I)Z" } : MethodName) ∈ jm_wG := jm_mem3 (List.mem_of_getElem? (i := 60) rfl) rfl
theorem jw_541 : Cond.methodLink "CodeCover$Covering" 50 ({ cls := "CodeCover$Covering", name := "coverWithChains", desc := "(I)V" } : MethodName) ∈ jm_wG := jm_mem3 (List.mem_of_getElem? (i := 61) rfl) rfl
theorem jw_543 : Cond.instanceMethod ({ cls := "CodeCover$Covering", name := "coverWithChains", desc := "(I)V" } : MethodName) ∈ jm_wG := jm_mem3 (List.mem_of_getElem? (i := 63) rfl) rfl
theorem jw_544 : Cond.code ({ cls := "CodeCover$Covering", name := "coverWithChains", desc := "(I)V" } : MethodName) prog_2_method_5_code 6 (Option.none : Option FieldType) ∈ jm_wG := jm_mem3 (List.mem_of_getElem? (i := 64) rfl) rfl
theorem jw_545 : Cond.methodLink "CodeCover$Covering" 56 ({ cls := "CodeCover$Covering", name := "tell", desc := "(III)V" } : MethodName) ∈ jm_wG := jm_mem3 (List.mem_of_getElem? (i := 65) rfl) rfl
theorem jw_547 : Cond.instanceMethod ({ cls := "CodeCover$Covering", name := "tell", desc := "(III)V" } : MethodName) ∈ jm_wG := jm_mem3 (List.mem_of_getElem? (i := 67) rfl) rfl
theorem jw_548 : Cond.code ({ cls := "CodeCover$Covering", name := "tell", desc := "(III)V" } : MethodName) prog_2_method_7_code 6 (Option.none : Option FieldType) ∈ jm_wG := jm_mem3 (List.mem_of_getElem? (i := 68) rfl) rfl
theorem jw_549 : Cond.methodLink "CodeCover$Covering" 106 ({ cls := "CodeCover$Covering", name := "tellPlain", desc := "(III)V" } : MethodName) ∈ jm_wG := jm_mem3 (List.mem_of_getElem? (i := 69) rfl) rfl
theorem jw_551 : Cond.instanceMethod ({ cls := "CodeCover$Covering", name := "tellPlain", desc := "(III)V" } : MethodName) ∈ jm_wG := jm_mem3 (List.mem_of_getElem? (i := 71) rfl) rfl
theorem jw_552 : Cond.code ({ cls := "CodeCover$Covering", name := "tellPlain", desc := "(III)V" } : MethodName) prog_2_method_8_code 8 (Option.none : Option FieldType) ∈ jm_wG := jm_mem3 (List.mem_of_getElem? (i := 72) rfl) rfl
theorem jw_553 : Cond.methodLink "CodeCover$Covering" 109 ({ cls := "CodeCover$Covering", name := "tellOne", desc := "(II)V" } : MethodName) ∈ jm_wG := jm_mem3 (List.mem_of_getElem? (i := 73) rfl) rfl
theorem jw_555 : Cond.instanceMethod ({ cls := "CodeCover$Covering", name := "tellOne", desc := "(II)V" } : MethodName) ∈ jm_wG := jm_mem3 (List.mem_of_getElem? (i := 75) rfl) rfl
theorem jw_556 : Cond.code ({ cls := "CodeCover$Covering", name := "tellOne", desc := "(II)V" } : MethodName) prog_2_method_9_code 3 (Option.none : Option FieldType) ∈ jm_wG := jm_mem3 (List.mem_of_getElem? (i := 76) rfl) rfl
theorem jw_557 : Cond.methodLink "CodeCover" 142 ({ cls := "CodeCover$Covering", name := "at", desc := "(II)I" } : MethodName) ∈ jm_wG := jm_mem3 (List.mem_of_getElem? (i := 77) rfl) rfl
theorem jw_558 : Cond.methodLink "CodeCoverLaw" 53 ({ cls := "CodeCover", name := "code", desc := "(II)I" } : MethodName) ∈ jm_wG := jm_mem3 (List.mem_of_getElem? (i := 78) rfl) rfl
theorem jw_559 : Cond.instanceMethod ({ cls := "CodeCover", name := "code", desc := "(II)I" } : MethodName) ∈ jm_wG := jm_mem3 (List.mem_of_getElem? (i := 79) rfl) rfl
theorem jw_560 : Cond.selects "CodeCover" ({ cls := "CodeCover", name := "code", desc := "(II)I" } : MethodName) ({ cls := "CodeCover", name := "code", desc := "(II)I" } : MethodName) ∈ jm_wG := jm_mem3 (List.mem_of_getElem? (i := 80) rfl) rfl
theorem jw_561 : Cond.code ({ cls := "CodeCover", name := "code", desc := "(II)I" } : MethodName) prog_1_method_11_code 3 (Option.some FieldType.int) ∈ jm_wG := jm_mem3 (List.mem_of_getElem? (i := 81) rfl) rfl
theorem jw_562 : Cond.methodLink "CodeCoverLaw" 57 ({ cls := "CodeCover", name := "stores", desc := "(I)I" } : MethodName) ∈ jm_wG := jm_mem3 (List.mem_of_getElem? (i := 82) rfl) rfl
theorem jw_563 : Cond.instanceMethod ({ cls := "CodeCover", name := "stores", desc := "(I)I" } : MethodName) ∈ jm_wG := jm_mem3 (List.mem_of_getElem? (i := 83) rfl) rfl
theorem jw_564 : Cond.selects "CodeCover" ({ cls := "CodeCover", name := "stores", desc := "(I)I" } : MethodName) ({ cls := "CodeCover", name := "stores", desc := "(I)I" } : MethodName) ∈ jm_wG := jm_mem3 (List.mem_of_getElem? (i := 84) rfl) rfl
theorem jw_565 : Cond.code ({ cls := "CodeCover", name := "stores", desc := "(I)I" } : MethodName) prog_1_method_12_code 2 (Option.some FieldType.int) ∈ jm_wG := jm_mem3 (List.mem_of_getElem? (i := 85) rfl) rfl
theorem jw_566 : Cond.methodLink "CodeCover" 161 ({ cls := "CodeCover$Tree", name := "storesWith", desc := "(I)I" } : MethodName) ∈ jm_wG := jm_mem3 (List.mem_of_getElem? (i := 86) rfl) rfl
theorem jw_567 : Cond.instanceMethod ({ cls := "CodeCover$Tree", name := "storesWith", desc := "(I)I" } : MethodName) ∈ jm_wG := jm_mem3 (List.mem_of_getElem? (i := 87) rfl) rfl
theorem jw_568 : Cond.selects "CodeCover$Tree" ({ cls := "CodeCover$Tree", name := "storesWith", desc := "(I)I" } : MethodName) ({ cls := "CodeCover$Tree", name := "storesWith", desc := "(I)I" } : MethodName) ∈ jm_wG := jm_mem3 (List.mem_of_getElem? (i := 88) rfl) rfl
theorem jw_569 : Cond.code ({ cls := "CodeCover$Tree", name := "storesWith", desc := "(I)I" } : MethodName) prog_11_method_7_code 6 (Option.some FieldType.int) ∈ jm_wG := jm_mem3 (List.mem_of_getElem? (i := 89) rfl) rfl
theorem jw_570 : Cond.methodLink "CodeCoverLaw" 61 ({ cls := "CodeCover", name := "add", desc := "(IIIII)I" } : MethodName) ∈ jm_wG := jm_mem3 (List.mem_of_getElem? (i := 90) rfl) rfl
theorem jw_571 : Cond.instanceMethod ({ cls := "CodeCover", name := "add", desc := "(IIIII)I" } : MethodName) ∈ jm_wG := jm_mem3 (List.mem_of_getElem? (i := 91) rfl) rfl
theorem jw_572 : Cond.selects "CodeCover" ({ cls := "CodeCover", name := "add", desc := "(IIIII)I" } : MethodName) ({ cls := "CodeCover", name := "add", desc := "(IIIII)I" } : MethodName) ∈ jm_wG := jm_mem3 (List.mem_of_getElem? (i := 92) rfl) rfl
theorem jw_573 : Cond.code ({ cls := "CodeCover", name := "add", desc := "(IIIII)I" } : MethodName) prog_1_method_13_code 6 (Option.some FieldType.int) ∈ jm_wG := jm_mem3 (List.mem_of_getElem? (i := 93) rfl) rfl
theorem jw_574 : Cond.methodLink "CodeCover" 164 ({ cls := "CodeCover$Row", name := "isOp", desc := "(I)Z" } : MethodName) ∈ jm_wG := jm_mem3 (List.mem_of_getElem? (i := 94) rfl) rfl
theorem jw_575 : Cond.static ({ cls := "CodeCover$Row", name := "isOp", desc := "(I)Z" } : MethodName) ∈ jm_wG := jm_mem3 (List.mem_of_getElem? (i := 95) rfl) rfl
theorem jw_576 : Cond.code ({ cls := "CodeCover$Row", name := "isOp", desc := "(I)Z" } : MethodName) prog_9_method_2_code 1 (Option.some FieldType.boolean) ∈ jm_wG := jm_mem3 (List.mem_of_getElem? (i := 96) rfl) rfl
theorem jw_577 : Cond.methodLink "CodeCover" 167 ({ cls := "CodeCover$Row", name := "isRegister", desc := "(I)Z" } : MethodName) ∈ jm_wG := jm_mem3 (List.mem_of_getElem? (i := 97) rfl) rfl
theorem jw_578 : Cond.static ({ cls := "CodeCover$Row", name := "isRegister", desc := "(I)Z" } : MethodName) ∈ jm_wG := jm_mem3 (List.mem_of_getElem? (i := 98) rfl) rfl
theorem jw_579 : Cond.code ({ cls := "CodeCover$Row", name := "isRegister", desc := "(I)Z" } : MethodName) prog_9_method_3_code 1 (Option.some FieldType.boolean) ∈ jm_wG := jm_mem3 (List.mem_of_getElem? (i := 99) rfl) rfl
theorem jw_580 : Cond.methodLink "CodeCover" 170 ({ cls := "CodeCover$Row", name := "hasSecond", desc := "(I)Z" } : MethodName) ∈ jm_wG := jm_mem3 (List.mem_of_getElem? (i := 100) rfl) rfl
theorem jw_581 : Cond.methodLink "CodeCover" 173 ({ cls := "CodeCover$Row", name := "append", desc := "(IIIII)Z" } : MethodName) ∈ jm_wG := jm_mem3 (List.mem_of_getElem? (i := 101) rfl) rfl
theorem jw_582 : Cond.instanceMethod ({ cls := "CodeCover$Row", name := "append", desc := "(IIIII)Z" } : MethodName) ∈ jm_wG := jm_mem3 (List.mem_of_getElem? (i := 102) rfl) rfl
theorem jw_583 : Cond.selects "CodeCover$Row" ({ cls := "CodeCover$Row", name := "append", desc := "(IIIII)Z" } : MethodName) ({ cls := "CodeCover$Row", name := "append", desc := "(IIIII)Z" } : MethodName) ∈ jm_wG := jm_mem3 (List.mem_of_getElem? (i := 103) rfl) rfl
theorem jw_584 : Cond.code ({ cls := "CodeCover$Row", name := "append", desc := "(IIIII)Z" } : MethodName) prog_9_method_6_code 6 (Option.some FieldType.boolean) ∈ jm_wG := jm_mem3 (List.mem_of_getElem? (i := 104) rfl) rfl
theorem jw_585 : Cond.methodLink "CodeCoverLaw" 66 ({ cls := "CodeCover", name := "drop", desc := "()I" } : MethodName) ∈ jm_wG := jm_mem3 (List.mem_of_getElem? (i := 105) rfl) rfl
theorem jw_586 : Cond.instanceMethod ({ cls := "CodeCover", name := "drop", desc := "()I" } : MethodName) ∈ jm_wG := jm_mem3 (List.mem_of_getElem? (i := 106) rfl) rfl
theorem jw_587 : Cond.selects "CodeCover" ({ cls := "CodeCover", name := "drop", desc := "()I" } : MethodName) ({ cls := "CodeCover", name := "drop", desc := "()I" } : MethodName) ∈ jm_wG := jm_mem3 (List.mem_of_getElem? (i := 107) rfl) rfl
theorem jw_588 : Cond.code ({ cls := "CodeCover", name := "drop", desc := "()I" } : MethodName) prog_1_method_14_code 2 (Option.some FieldType.int) ∈ jm_wG := jm_mem3 (List.mem_of_getElem? (i := 108) rfl) rfl
theorem jw_589 : Cond.methodLink "CodeCover" 178 ({ cls := "CodeCover$Row", name := "empty", desc := "()V" } : MethodName) ∈ jm_wG := jm_mem3 (List.mem_of_getElem? (i := 109) rfl) rfl
theorem jw_590 : Cond.instanceMethod ({ cls := "CodeCover$Row", name := "empty", desc := "()V" } : MethodName) ∈ jm_wG := jm_mem3 (List.mem_of_getElem? (i := 110) rfl) rfl
theorem jw_591 : Cond.selects "CodeCover$Row" ({ cls := "CodeCover$Row", name := "empty", desc := "()V" } : MethodName) ({ cls := "CodeCover$Row", name := "empty", desc := "()V" } : MethodName) ∈ jm_wG := jm_mem3 (List.mem_of_getElem? (i := 111) rfl) rfl
theorem jw_592 : Cond.code ({ cls := "CodeCover$Row", name := "empty", desc := "()V" } : MethodName) prog_9_method_7_code 1 (Option.none : Option FieldType) ∈ jm_wG := jm_mem3 (List.mem_of_getElem? (i := 112) rfl) rfl
theorem jw_593 : Cond.methodLink "CodeCoverLaw" 70 ({ cls := "CodeCover", name := "about", desc := "(II)I" } : MethodName) ∈ jm_wG := jm_mem3 (List.mem_of_getElem? (i := 113) rfl) rfl
theorem jw_594 : Cond.instanceMethod ({ cls := "CodeCover", name := "about", desc := "(II)I" } : MethodName) ∈ jm_wG := jm_mem3 (List.mem_of_getElem? (i := 114) rfl) rfl
theorem jw_595 : Cond.selects "CodeCover" ({ cls := "CodeCover", name := "about", desc := "(II)I" } : MethodName) ({ cls := "CodeCover", name := "about", desc := "(II)I" } : MethodName) ∈ jm_wG := jm_mem3 (List.mem_of_getElem? (i := 115) rfl) rfl
theorem jw_596 : Cond.code ({ cls := "CodeCover", name := "about", desc := "(II)I" } : MethodName) prog_1_method_15_code 3 (Option.some FieldType.int) ∈ jm_wG := jm_mem3 (List.mem_of_getElem? (i := 116) rfl) rfl
theorem jw_597 : Cond.methodLink "CodeCover" 181 ({ cls := "CodeCover$Row", name := "has", desc := "(I)Z" } : MethodName) ∈ jm_wG := jm_mem3 (List.mem_of_getElem? (i := 117) rfl) rfl
theorem jw_598 : Cond.instanceMethod ({ cls := "CodeCover$Row", name := "has", desc := "(I)Z" } : MethodName) ∈ jm_wG := jm_mem3 (List.mem_of_getElem? (i := 118) rfl) rfl
theorem jw_599 : Cond.selects "CodeCover$Row" ({ cls := "CodeCover$Row", name := "has", desc := "(I)Z" } : MethodName) ({ cls := "CodeCover$Row", name := "has", desc := "(I)Z" } : MethodName) ∈ jm_wG := jm_mem3 (List.mem_of_getElem? (i := 119) rfl) rfl
theorem jw_600 : Cond.code ({ cls := "CodeCover$Row", name := "has", desc := "(I)Z" } : MethodName) prog_9_method_5_code 2 (Option.some FieldType.boolean) ∈ jm_wG := jm_mem3 (List.mem_of_getElem? (i := 120) rfl) rfl
theorem jw_601 : Cond.methodLink "CodeCover" 182 ({ cls := "CodeCover$Row", name := "cycleOf", desc := "(I)I" } : MethodName) ∈ jm_wG := jm_mem3 (List.mem_of_getElem? (i := 121) rfl) rfl
theorem jw_602 : Cond.instanceMethod ({ cls := "CodeCover$Row", name := "cycleOf", desc := "(I)I" } : MethodName) ∈ jm_wG := jm_mem3 (List.mem_of_getElem? (i := 122) rfl) rfl
theorem jw_603 : Cond.selects "CodeCover$Row" ({ cls := "CodeCover$Row", name := "cycleOf", desc := "(I)I" } : MethodName) ({ cls := "CodeCover$Row", name := "cycleOf", desc := "(I)I" } : MethodName) ∈ jm_wG := jm_mem3 (List.mem_of_getElem? (i := 123) rfl) rfl
theorem jw_604 : Cond.code ({ cls := "CodeCover$Row", name := "cycleOf", desc := "(I)I" } : MethodName) prog_9_method_15_code 2 (Option.some FieldType.int) ∈ jm_wG := jm_mem3 (List.mem_of_getElem? (i := 124) rfl) rfl
theorem jw_605 : Cond.methodLink "CodeCover$Row" 43 ({ cls := "CodeCover$Row", name := "findCycles", desc := "()V" } : MethodName) ∈ jm_wG := jm_mem3 (List.mem_of_getElem? (i := 125) rfl) rfl
theorem jw_607 : Cond.instanceMethod ({ cls := "CodeCover$Row", name := "findCycles", desc := "()V" } : MethodName) ∈ jm_wG := jm_mem3 (List.mem_of_getElem? (i := 127) rfl) rfl
theorem jw_608 : Cond.code ({ cls := "CodeCover$Row", name := "findCycles", desc := "()V" } : MethodName) prog_9_method_17_code 3 (Option.none : Option FieldType) ∈ jm_wG := jm_mem3 (List.mem_of_getElem? (i := 128) rfl) rfl
theorem jw_609 : Cond.methodLink "CodeCover$Row" 51 ({ cls := "CodeCover$Row", name := "firstSetter", desc := "(I)I" } : MethodName) ∈ jm_wG := jm_mem3 (List.mem_of_getElem? (i := 129) rfl) rfl
theorem jw_610 : Cond.instanceMethod ({ cls := "CodeCover$Row", name := "firstSetter", desc := "(I)I" } : MethodName) ∈ jm_wG := jm_mem3 (List.mem_of_getElem? (i := 130) rfl) rfl
theorem jw_611 : Cond.selects "CodeCover$Row" ({ cls := "CodeCover$Row", name := "firstSetter", desc := "(I)I" } : MethodName) ({ cls := "CodeCover$Row", name := "firstSetter", desc := "(I)I" } : MethodName) ∈ jm_wG := jm_mem3 (List.mem_of_getElem? (i := 131) rfl) rfl
theorem jw_612 : Cond.code ({ cls := "CodeCover$Row", name := "firstSetter", desc := "(I)I" } : MethodName) prog_9_method_13_code 2 (Option.some FieldType.int) ∈ jm_wG := jm_mem3 (List.mem_of_getElem? (i := 132) rfl) rfl
theorem jw_613 : Cond.methodLink "CodeCover$Row" 39 ({ cls := "CodeCover$Row", name := "setterAhead", desc := "(II)I" } : MethodName) ∈ jm_wG := jm_mem3 (List.mem_of_getElem? (i := 133) rfl) rfl
theorem jw_615 : Cond.instanceMethod ({ cls := "CodeCover$Row", name := "setterAhead", desc := "(II)I" } : MethodName) ∈ jm_wG := jm_mem3 (List.mem_of_getElem? (i := 135) rfl) rfl
theorem jw_616 : Cond.code ({ cls := "CodeCover$Row", name := "setterAhead", desc := "(II)I" } : MethodName) prog_9_method_12_code 4 (Option.some FieldType.int) ∈ jm_wG := jm_mem3 (List.mem_of_getElem? (i := 136) rfl) rfl
theorem jw_617 : Cond.methodLink "CodeCover$Row" 55 ({ cls := "CodeCover$Row", name := "readyAt", desc := "(I)I" } : MethodName) ∈ jm_wG := jm_mem3 (List.mem_of_getElem? (i := 137) rfl) rfl
theorem jw_619 : Cond.instanceMethod ({ cls := "CodeCover$Row", name := "readyAt", desc := "(I)I" } : MethodName) ∈ jm_wG := jm_mem3 (List.mem_of_getElem? (i := 139) rfl) rfl
theorem jw_620 : Cond.code ({ cls := "CodeCover$Row", name := "readyAt", desc := "(I)I" } : MethodName) prog_9_method_18_code 2 (Option.some FieldType.int) ∈ jm_wG := jm_mem3 (List.mem_of_getElem? (i := 140) rfl) rfl
theorem jw_621 : Cond.methodLink "CodeCover$Row" 58 ({ cls := "CodeCover$Row", name := "secondSetter", desc := "(I)I" } : MethodName) ∈ jm_wG := jm_mem3 (List.mem_of_getElem? (i := 141) rfl) rfl
theorem jw_622 : Cond.instanceMethod ({ cls := "CodeCover$Row", name := "secondSetter", desc := "(I)I" } : MethodName) ∈ jm_wG := jm_mem3 (List.mem_of_getElem? (i := 142) rfl) rfl
theorem jw_623 : Cond.selects "CodeCover$Row" ({ cls := "CodeCover$Row", name := "secondSetter", desc := "(I)I" } : MethodName) ({ cls := "CodeCover$Row", name := "secondSetter", desc := "(I)I" } : MethodName) ∈ jm_wG := jm_mem3 (List.mem_of_getElem? (i := 143) rfl) rfl
theorem jw_624 : Cond.code ({ cls := "CodeCover$Row", name := "secondSetter", desc := "(I)I" } : MethodName) prog_9_method_14_code 2 (Option.some FieldType.int) ∈ jm_wG := jm_mem3 (List.mem_of_getElem? (i := 144) rfl) rfl
theorem jw_625 : Cond.methodLink "CodeCover$Row" 32 ({ cls := "CodeCover$Row", name := "hasSecond", desc := "(I)Z" } : MethodName) ∈ jm_wG := jm_mem3 (List.mem_of_getElem? (i := 145) rfl) rfl
theorem jw_626 : Cond.methodLink "CodeCover$Row" 46 ({ cls := "java/lang/Math", name := "max", desc := "(II)I" } : MethodName) ∈ jm_wG := jm_mem3 (List.mem_of_getElem? (i := 146) rfl) rfl
theorem jw_627 : Cond.methodLink "CodeCoverLaw" 74 ({ cls := "CodeCover", name := "end", desc := "()I" } : MethodName) ∈ jm_wG := jm_mem3 (List.mem_of_getElem? (i := 147) rfl) rfl
theorem jw_628 : Cond.instanceMethod ({ cls := "CodeCover", name := "end", desc := "()I" } : MethodName) ∈ jm_wG := jm_mem3 (List.mem_of_getElem? (i := 148) rfl) rfl
theorem jw_629 : Cond.selects "CodeCover" ({ cls := "CodeCover", name := "end", desc := "()I" } : MethodName) ({ cls := "CodeCover", name := "end", desc := "()I" } : MethodName) ∈ jm_wG := jm_mem3 (List.mem_of_getElem? (i := 149) rfl) rfl
theorem jw_630 : Cond.code ({ cls := "CodeCover", name := "end", desc := "()I" } : MethodName) prog_1_method_16_code 1 (Option.some FieldType.int) ∈ jm_wG := jm_mem3 (List.mem_of_getElem? (i := 150) rfl) rfl
theorem jw_631 : Cond.methodLink "CodeCover" 189 ({ cls := "CodeCover$Row", name := "endAsWritten", desc := "()I" } : MethodName) ∈ jm_wG := jm_mem3 (List.mem_of_getElem? (i := 151) rfl) rfl
theorem jw_632 : Cond.instanceMethod ({ cls := "CodeCover$Row", name := "endAsWritten", desc := "()I" } : MethodName) ∈ jm_wG := jm_mem3 (List.mem_of_getElem? (i := 152) rfl) rfl
theorem jw_633 : Cond.selects "CodeCover$Row" ({ cls := "CodeCover$Row", name := "endAsWritten", desc := "()I" } : MethodName) ({ cls := "CodeCover$Row", name := "endAsWritten", desc := "()I" } : MethodName) ∈ jm_wG := jm_mem3 (List.mem_of_getElem? (i := 153) rfl) rfl
theorem jw_634 : Cond.code ({ cls := "CodeCover$Row", name := "endAsWritten", desc := "()I" } : MethodName) prog_9_method_16_code 3 (Option.some FieldType.int) ∈ jm_wG := jm_mem3 (List.mem_of_getElem? (i := 154) rfl) rfl
theorem jw_635 : Cond.methodLink "CodeCoverLaw" 78 ({ cls := "CodeCover", name := "ahead", desc := "(II)I" } : MethodName) ∈ jm_wG := jm_mem3 (List.mem_of_getElem? (i := 155) rfl) rfl
theorem jw_636 : Cond.instanceMethod ({ cls := "CodeCover", name := "ahead", desc := "(II)I" } : MethodName) ∈ jm_wG := jm_mem3 (List.mem_of_getElem? (i := 156) rfl) rfl
theorem jw_637 : Cond.selects "CodeCover" ({ cls := "CodeCover", name := "ahead", desc := "(II)I" } : MethodName) ({ cls := "CodeCover", name := "ahead", desc := "(II)I" } : MethodName) ∈ jm_wG := jm_mem3 (List.mem_of_getElem? (i := 157) rfl) rfl
theorem jw_638 : Cond.code ({ cls := "CodeCover", name := "ahead", desc := "(II)I" } : MethodName) prog_1_method_17_code 3 (Option.some FieldType.int) ∈ jm_wG := jm_mem3 (List.mem_of_getElem? (i := 158) rfl) rfl
theorem jw_639 : Cond.methodLink "CodeCover" 192 ({ cls := "CodeCover$Row", name := "clash", desc := "(II)Z" } : MethodName) ∈ jm_wG := jm_mem3 (List.mem_of_getElem? (i := 159) rfl) rfl
theorem jw_640 : Cond.instanceMethod ({ cls := "CodeCover$Row", name := "clash", desc := "(II)Z" } : MethodName) ∈ jm_wG := jm_mem3 (List.mem_of_getElem? (i := 160) rfl) rfl
theorem jw_641 : Cond.selects "CodeCover$Row" ({ cls := "CodeCover$Row", name := "clash", desc := "(II)Z" } : MethodName) ({ cls := "CodeCover$Row", name := "clash", desc := "(II)Z" } : MethodName) ∈ jm_wG := jm_mem3 (List.mem_of_getElem? (i := 161) rfl) rfl
theorem jw_642 : Cond.code ({ cls := "CodeCover$Row", name := "clash", desc := "(II)Z" } : MethodName) prog_9_method_11_code 5 (Option.some FieldType.boolean) ∈ jm_wG := jm_mem3 (List.mem_of_getElem? (i := 162) rfl) rfl
theorem jw_643 : Cond.methodLink "CodeCover$Row" 35 ({ cls := "CodeCover$Row", name := "uses", desc := "(II)Z" } : MethodName) ∈ jm_wG := jm_mem3 (List.mem_of_getElem? (i := 163) rfl) rfl
theorem jw_644 : Cond.instanceMethod ({ cls := "CodeCover$Row", name := "uses", desc := "(II)Z" } : MethodName) ∈ jm_wG := jm_mem3 (List.mem_of_getElem? (i := 164) rfl) rfl
theorem jw_645 : Cond.selects "CodeCover$Row" ({ cls := "CodeCover$Row", name := "uses", desc := "(II)Z" } : MethodName) ({ cls := "CodeCover$Row", name := "uses", desc := "(II)Z" } : MethodName) ∈ jm_wG := jm_mem3 (List.mem_of_getElem? (i := 165) rfl) rfl
theorem jw_646 : Cond.code ({ cls := "CodeCover$Row", name := "uses", desc := "(II)Z" } : MethodName) prog_9_method_10_code 3 (Option.some FieldType.boolean) ∈ jm_wG := jm_mem3 (List.mem_of_getElem? (i := 166) rfl) rfl
theorem jw_647 : Cond.methodLink "CodeCoverLaw" 82 ({ cls := "CodeCover", name := "best", desc := "(I)I" } : MethodName) ∈ jm_wG := jm_mem3 (List.mem_of_getElem? (i := 167) rfl) rfl
theorem jw_648 : Cond.instanceMethod ({ cls := "CodeCover", name := "best", desc := "(I)I" } : MethodName) ∈ jm_wG := jm_mem3 (List.mem_of_getElem? (i := 168) rfl) rfl
theorem jw_649 : Cond.selects "CodeCover" ({ cls := "CodeCover", name := "best", desc := "(I)I" } : MethodName) ({ cls := "CodeCover", name := "best", desc := "(I)I" } : MethodName) ∈ jm_wG := jm_mem3 (List.mem_of_getElem? (i := 169) rfl) rfl
theorem jw_650 : Cond.code ({ cls := "CodeCover", name := "best", desc := "(I)I" } : MethodName) prog_1_method_18_code 2 (Option.some FieldType.int) ∈ jm_wG := jm_mem3 (List.mem_of_getElem? (i := 170) rfl) rfl
theorem jw_651 : Cond.methodLink "CodeCover" 196 ({ cls := "CodeCover$Order", name := "refresh", desc := "()V" } : MethodName) ∈ jm_wG := jm_mem3 (List.mem_of_getElem? (i := 171) rfl) rfl
theorem jw_652 : Cond.instanceMethod ({ cls := "CodeCover$Order", name := "refresh", desc := "()V" } : MethodName) ∈ jm_wG := jm_mem3 (List.mem_of_getElem? (i := 172) rfl) rfl
theorem jw_653 : Cond.selects "CodeCover$Order" ({ cls := "CodeCover$Order", name := "refresh", desc := "()V" } : MethodName) ({ cls := "CodeCover$Order", name := "refresh", desc := "()V" } : MethodName) ∈ jm_wG := jm_mem3 (List.mem_of_getElem? (i := 173) rfl) rfl
theorem jw_654 : Cond.code ({ cls := "CodeCover$Order", name := "refresh", desc := "()V" } : MethodName) prog_6_method_2_code 2 (Option.none : Option FieldType) ∈ jm_wG := jm_mem3 (List.mem_of_getElem? (i := 174) rfl) rfl
theorem jw_655 : Cond.methodLink "CodeCover$Order" 49 ({ cls := "CodeCover$Order", name := "prepare", desc := "(I)V" } : MethodName) ∈ jm_wG := jm_mem3 (List.mem_of_getElem? (i := 175) rfl) rfl
theorem jw_657 : Cond.instanceMethod ({ cls := "CodeCover$Order", name := "prepare", desc := "(I)V" } : MethodName) ∈ jm_wG := jm_mem3 (List.mem_of_getElem? (i := 177) rfl) rfl
theorem jw_658 : Cond.code ({ cls := "CodeCover$Order", name := "prepare", desc := "(I)V" } : MethodName) prog_6_method_3_code 5 (Option.none : Option FieldType) ∈ jm_wG := jm_mem3 (List.mem_of_getElem? (i := 178) rfl) rfl
theorem jw_659 : Cond.methodLink "CodeCover$Order" 64 ({ cls := "CodeCover$Row", name := "firstSetter", desc := "(I)I" } : MethodName) ∈ jm_wG := jm_mem3 (List.mem_of_getElem? (i := 179) rfl) rfl
theorem jw_660 : Cond.methodLink "CodeCover$Order" 67 ({ cls := "CodeCover$Row", name := "secondSetter", desc := "(I)I" } : MethodName) ∈ jm_wG := jm_mem3 (List.mem_of_getElem? (i := 180) rfl) rfl
theorem jw_661 : Cond.methodLink "CodeCover$Order" 69 ({ cls := "CodeCover$Row", name := "clash", desc := "(II)Z" } : MethodName) ∈ jm_wG := jm_mem3 (List.mem_of_getElem? (i := 181) rfl) rfl
theorem jw_662 : Cond.methodLink "CodeCover$Order" 77 ({ cls := "java/lang/Math", name := "max", desc := "(II)I" } : MethodName) ∈ jm_wG := jm_mem3 (List.mem_of_getElem? (i := 182) rfl) rfl
theorem jw_663 : Cond.methodLink "CodeCover$Order" 53 ({ cls := "CodeCover$Order", name := "rankByTail", desc := "(I)V" } : MethodName) ∈ jm_wG := jm_mem3 (List.mem_of_getElem? (i := 183) rfl) rfl
theorem jw_665 : Cond.instanceMethod ({ cls := "CodeCover$Order", name := "rankByTail", desc := "(I)V" } : MethodName) ∈ jm_wG := jm_mem3 (List.mem_of_getElem? (i := 185) rfl) rfl
theorem jw_666 : Cond.code ({ cls := "CodeCover$Order", name := "rankByTail", desc := "(I)V" } : MethodName) prog_6_method_4_code 4 (Option.none : Option FieldType) ∈ jm_wG := jm_mem3 (List.mem_of_getElem? (i := 186) rfl) rfl
theorem jw_667 : Cond.constant "CodeCover$Order" 56 (1000000 : Int32) ∈ jm_wG := jm_mem3 (List.mem_of_getElem? (i := 187) rfl) rfl
theorem jw_668 : Cond.methodLink "CodeCover$Order" 60 ({ cls := "CodeCover$Order", name := "extend", desc := "(III)V" } : MethodName) ∈ jm_wG := jm_mem3 (List.mem_of_getElem? (i := 188) rfl) rfl
theorem jw_670 : Cond.instanceMethod ({ cls := "CodeCover$Order", name := "extend", desc := "(III)V" } : MethodName) ∈ jm_wG := jm_mem3 (List.mem_of_getElem? (i := 190) rfl) rfl
theorem jw_671 : Cond.code ({ cls := "CodeCover$Order", name := "extend", desc := "(III)V" } : MethodName) prog_6_method_5_code 6 (Option.none : Option FieldType) ∈ jm_wG := jm_mem3 (List.mem_of_getElem? (i := 191) rfl) rfl
theorem jw_672 : Cond.methodLink "CodeCover$Order" 83 ({ cls := "CodeCover$Order", name := "endAtLeast", desc := "(II)I" } : MethodName) ∈ jm_wG := jm_mem3 (List.mem_of_getElem? (i := 192) rfl) rfl
theorem jw_674 : Cond.instanceMethod ({ cls := "CodeCover$Order", name := "endAtLeast", desc := "(II)I" } : MethodName) ∈ jm_wG := jm_mem3 (List.mem_of_getElem? (i := 194) rfl) rfl
theorem jw_675 : Cond.code ({ cls := "CodeCover$Order", name := "endAtLeast", desc := "(II)I" } : MethodName) prog_6_method_8_code 7 (Option.some FieldType.int) ∈ jm_wG := jm_mem3 (List.mem_of_getElem? (i := 195) rfl) rfl
theorem jw_676 : Cond.methodLink "CodeCover$Order" 92 ({ cls := "CodeCover$Order", name := "readyFor", desc := "(II)I" } : MethodName) ∈ jm_wG := jm_mem3 (List.mem_of_getElem? (i := 196) rfl) rfl
theorem jw_678 : Cond.instanceMethod ({ cls := "CodeCover$Order", name := "readyFor", desc := "(II)I" } : MethodName) ∈ jm_wG := jm_mem3 (List.mem_of_getElem? (i := 198) rfl) rfl
theorem jw_679 : Cond.code ({ cls := "CodeCover$Order", name := "readyFor", desc := "(II)I" } : MethodName) prog_6_method_6_code 3 (Option.some FieldType.int) ∈ jm_wG := jm_mem3 (List.mem_of_getElem? (i := 199) rfl) rfl
theorem jw_680 : Cond.methodLink "CodeCover$Order" 95 ({ cls := "CodeCover$Order", name := "readyAt", desc := "(II)I" } : MethodName) ∈ jm_wG := jm_mem3 (List.mem_of_getElem? (i := 200) rfl) rfl
theorem jw_682 : Cond.instanceMethod ({ cls := "CodeCover$Order", name := "readyAt", desc := "(II)I" } : MethodName) ∈ jm_wG := jm_mem3 (List.mem_of_getElem? (i := 202) rfl) rfl
theorem jw_683 : Cond.code ({ cls := "CodeCover$Order", name := "readyAt", desc := "(II)I" } : MethodName) prog_6_method_7_code 3 (Option.some FieldType.int) ∈ jm_wG := jm_mem3 (List.mem_of_getElem? (i := 203) rfl) rfl
theorem jw_684 : Cond.methodLink "CodeCover$Order" 86 ({ cls := "java/lang/System", name := "arraycopy", desc := "(Ljava/lang/Object;ILjava/lang/Object;II)V" } : MethodName) ∈ jm_wG := jm_mem3 (List.mem_of_getElem? (i := 204) rfl) rfl
theorem jw_685 : Cond.static ({ cls := "java/lang/System", name := "arraycopy", desc := "(Ljava/lang/Object;ILjava/lang/Object;II)V" } : MethodName) ∈ jm_wG := jm_mem3 (List.mem_of_getElem? (i := 205) rfl) rfl
theorem jw_686 : Cond.native ({ cls := "java/lang/System", name := "arraycopy", desc := "(Ljava/lang/Object;ILjava/lang/Object;II)V" } : MethodName) ∈ jm_wG := jm_mem3 (List.mem_of_getElem? (i := 206) rfl) rfl
theorem jw_687 : Cond.methodLink "CodeCoverLaw" 86 ({ cls := "CodeCover", name := "sort", desc := "()I" } : MethodName) ∈ jm_wG := jm_mem3 (List.mem_of_getElem? (i := 207) rfl) rfl
theorem jw_688 : Cond.instanceMethod ({ cls := "CodeCover", name := "sort", desc := "()I" } : MethodName) ∈ jm_wG := jm_mem3 (List.mem_of_getElem? (i := 208) rfl) rfl
theorem jw_689 : Cond.selects "CodeCover" ({ cls := "CodeCover", name := "sort", desc := "()I" } : MethodName) ({ cls := "CodeCover", name := "sort", desc := "()I" } : MethodName) ∈ jm_wG := jm_mem3 (List.mem_of_getElem? (i := 209) rfl) rfl
theorem jw_690 : Cond.code ({ cls := "CodeCover", name := "sort", desc := "()I" } : MethodName) prog_1_method_19_code 1 (Option.some FieldType.int) ∈ jm_wG := jm_mem3 (List.mem_of_getElem? (i := 210) rfl) rfl
theorem jw_691 : Cond.methodLink "CodeCover" 203 ({ cls := "CodeCover$Row", name := "rearrange", desc := "([I)V" } : MethodName) ∈ jm_wG := jm_mem3 (List.mem_of_getElem? (i := 211) rfl) rfl
theorem jw_692 : Cond.instanceMethod ({ cls := "CodeCover$Row", name := "rearrange", desc := "([I)V" } : MethodName) ∈ jm_wG := jm_mem3 (List.mem_of_getElem? (i := 212) rfl) rfl
theorem jw_693 : Cond.selects "CodeCover$Row" ({ cls := "CodeCover$Row", name := "rearrange", desc := "([I)V" } : MethodName) ({ cls := "CodeCover$Row", name := "rearrange", desc := "([I)V" } : MethodName) ∈ jm_wG := jm_mem3 (List.mem_of_getElem? (i := 213) rfl) rfl
theorem jw_694 : Cond.code ({ cls := "CodeCover$Row", name := "rearrange", desc := "([I)V" } : MethodName) prog_9_method_9_code 4 (Option.none : Option FieldType) ∈ jm_wG := jm_mem3 (List.mem_of_getElem? (i := 214) rfl) rfl
theorem jw_695 : Cond.methodLink "CodeCover$Row" 28 ({ cls := "CodeCover$Row", name := "has", desc := "(I)Z" } : MethodName) ∈ jm_wG := jm_mem3 (List.mem_of_getElem? (i := 215) rfl) rfl
theorem jw_696 : Cond.methodLink "CodeCoverLaw" 90 ({ cls := "CodeCover", name := "keep", desc := "(I)I" } : MethodName) ∈ jm_wG := jm_mem3 (List.mem_of_getElem? (i := 216) rfl) rfl
theorem jw_697 : Cond.instanceMethod ({ cls := "CodeCover", name := "keep", desc := "(I)I" } : MethodName) ∈ jm_wG := jm_mem3 (List.mem_of_getElem? (i := 217) rfl) rfl
theorem jw_698 : Cond.selects "CodeCover" ({ cls := "CodeCover", name := "keep", desc := "(I)I" } : MethodName) ({ cls := "CodeCover", name := "keep", desc := "(I)I" } : MethodName) ∈ jm_wG := jm_mem3 (List.mem_of_getElem? (i := 218) rfl) rfl
theorem jw_699 : Cond.code ({ cls := "CodeCover", name := "keep", desc := "(I)I" } : MethodName) prog_1_method_20_code 3 (Option.some FieldType.int) ∈ jm_wG := jm_mem3 (List.mem_of_getElem? (i := 219) rfl) rfl
theorem jw_700 : Cond.methodLink "CodeCoverLaw" 94 ({ cls := "CodeCover", name := "weigh", desc := "(II)I" } : MethodName) ∈ jm_wG := jm_mem3 (List.mem_of_getElem? (i := 220) rfl) rfl
theorem jw_701 : Cond.instanceMethod ({ cls := "CodeCover", name := "weigh", desc := "(II)I" } : MethodName) ∈ jm_wG := jm_mem3 (List.mem_of_getElem? (i := 221) rfl) rfl
theorem jw_702 : Cond.selects "CodeCover" ({ cls := "CodeCover", name := "weigh", desc := "(II)I" } : MethodName) ({ cls := "CodeCover", name := "weigh", desc := "(II)I" } : MethodName) ∈ jm_wG := jm_mem3 (List.mem_of_getElem? (i := 222) rfl) rfl
theorem jw_703 : Cond.code ({ cls := "CodeCover", name := "weigh", desc := "(II)I" } : MethodName) prog_1_method_21_code 4 (Option.some FieldType.int) ∈ jm_wG := jm_mem3 (List.mem_of_getElem? (i := 223) rfl) rfl
theorem jw_704 : Cond.methodLink "CodeCoverLaw" 98 ({ cls := "CodeCover", name := "lives", desc := "(I)I" } : MethodName) ∈ jm_wG := jm_mem3 (List.mem_of_getElem? (i := 224) rfl) rfl
theorem jw_705 : Cond.instanceMethod ({ cls := "CodeCover", name := "lives", desc := "(I)I" } : MethodName) ∈ jm_wG := jm_mem3 (List.mem_of_getElem? (i := 225) rfl) rfl
theorem jw_706 : Cond.selects "CodeCover" ({ cls := "CodeCover", name := "lives", desc := "(I)I" } : MethodName) ({ cls := "CodeCover", name := "lives", desc := "(I)I" } : MethodName) ∈ jm_wG := jm_mem3 (List.mem_of_getElem? (i := 226) rfl) rfl
theorem jw_707 : Cond.code ({ cls := "CodeCover", name := "lives", desc := "(I)I" } : MethodName) prog_1_method_22_code 2 (Option.some FieldType.int) ∈ jm_wG := jm_mem3 (List.mem_of_getElem? (i := 227) rfl) rfl
theorem jw_708 : Cond.methodLink "CodeCover" 210 ({ cls := "CodeCover$Lifetimes", name := "until", desc := "(I)I" } : MethodName) ∈ jm_wG := jm_mem3 (List.mem_of_getElem? (i := 228) rfl) rfl
theorem jw_709 : Cond.instanceMethod ({ cls := "CodeCover$Lifetimes", name := "until", desc := "(I)I" } : MethodName) ∈ jm_wG := jm_mem3 (List.mem_of_getElem? (i := 229) rfl) rfl
theorem jw_710 : Cond.selects "CodeCover$Lifetimes" ({ cls := "CodeCover$Lifetimes", name := "until", desc := "(I)I" } : MethodName) ({ cls := "CodeCover$Lifetimes", name := "until", desc := "(I)I" } : MethodName) ∈ jm_wG := jm_mem3 (List.mem_of_getElem? (i := 230) rfl) rfl
theorem jw_711 : Cond.code ({ cls := "CodeCover$Lifetimes", name := "until", desc := "(I)I" } : MethodName) prog_3_method_2_code 5 (Option.some FieldType.int) ∈ jm_wG := jm_mem3 (List.mem_of_getElem? (i := 231) rfl) rfl
theorem jw_712 : Cond.methodLink "CodeCover$Lifetimes" 33 ({ cls := "CodeCover$Row", name := "uses", desc := "(II)Z" } : MethodName) ∈ jm_wG := jm_mem3 (List.mem_of_getElem? (i := 232) rfl) rfl
theorem jw_713 : Cond.methodLink "CodeCoverLaw" 102 ({ cls := "CodeCover", name := "place", desc := "(I)I" } : MethodName) ∈ jm_wG := jm_mem3 (List.mem_of_getElem? (i := 233) rfl) rfl
theorem jw_714 : Cond.instanceMethod ({ cls := "CodeCover", name := "place", desc := "(I)I" } : MethodName) ∈ jm_wG := jm_mem3 (List.mem_of_getElem? (i := 234) rfl) rfl
theorem jw_715 : Cond.selects "CodeCover" ({ cls := "CodeCover", name := "place", desc := "(I)I" } : MethodName) ({ cls := "CodeCover", name := "place", desc := "(I)I" } : MethodName) ∈ jm_wG := jm_mem3 (List.mem_of_getElem? (i := 235) rfl) rfl
theorem jw_716 : Cond.code ({ cls := "CodeCover", name := "place", desc := "(I)I" } : MethodName) prog_1_method_23_code 2 (Option.some FieldType.int) ∈ jm_wG := jm_mem3 (List.mem_of_getElem? (i := 236) rfl) rfl
theorem jw_717 : Cond.methodLink "CodeCover" 213 ({ cls := "CodeCover$Lifetimes", name := "livingBehind", desc := "(I)I" } : MethodName) ∈ jm_wG := jm_mem3 (List.mem_of_getElem? (i := 237) rfl) rfl
theorem jw_718 : Cond.instanceMethod ({ cls := "CodeCover$Lifetimes", name := "livingBehind", desc := "(I)I" } : MethodName) ∈ jm_wG := jm_mem3 (List.mem_of_getElem? (i := 238) rfl) rfl
theorem jw_719 : Cond.selects "CodeCover$Lifetimes" ({ cls := "CodeCover$Lifetimes", name := "livingBehind", desc := "(I)I" } : MethodName) ({ cls := "CodeCover$Lifetimes", name := "livingBehind", desc := "(I)I" } : MethodName) ∈ jm_wG := jm_mem3 (List.mem_of_getElem? (i := 239) rfl) rfl
theorem jw_720 : Cond.code ({ cls := "CodeCover$Lifetimes", name := "livingBehind", desc := "(I)I" } : MethodName) prog_3_method_3_code 4 (Option.some FieldType.int) ∈ jm_wG := jm_mem4 (List.mem_of_getElem? (i := 0) rfl) rfl
theorem jw_721 : Cond.methodLink "CodeCover$Lifetimes" 37 ({ cls := "CodeCover$Lifetimes", name := "until", desc := "(I)I" } : MethodName) ∈ jm_wG := jm_mem4 (List.mem_of_getElem? (i := 1) rfl) rfl
theorem jw_722 : Cond.methodLink "CodeCoverLaw" 106 ({ cls := "CodeCover", name := "crowd", desc := "()I" } : MethodName) ∈ jm_wG := jm_mem4 (List.mem_of_getElem? (i := 2) rfl) rfl
theorem jw_723 : Cond.instanceMethod ({ cls := "CodeCover", name := "crowd", desc := "()I" } : MethodName) ∈ jm_wG := jm_mem4 (List.mem_of_getElem? (i := 3) rfl) rfl
theorem jw_724 : Cond.selects "CodeCover" ({ cls := "CodeCover", name := "crowd", desc := "()I" } : MethodName) ({ cls := "CodeCover", name := "crowd", desc := "()I" } : MethodName) ∈ jm_wG := jm_mem4 (List.mem_of_getElem? (i := 4) rfl) rfl
theorem jw_725 : Cond.code ({ cls := "CodeCover", name := "crowd", desc := "()I" } : MethodName) prog_1_method_24_code 1 (Option.some FieldType.int) ∈ jm_wG := jm_mem4 (List.mem_of_getElem? (i := 5) rfl) rfl
theorem jw_726 : Cond.methodLink "CodeCover" 216 ({ cls := "CodeCover$Lifetimes", name := "mostAtOnePlace", desc := "()I" } : MethodName) ∈ jm_wG := jm_mem4 (List.mem_of_getElem? (i := 6) rfl) rfl
theorem jw_727 : Cond.instanceMethod ({ cls := "CodeCover$Lifetimes", name := "mostAtOnePlace", desc := "()I" } : MethodName) ∈ jm_wG := jm_mem4 (List.mem_of_getElem? (i := 7) rfl) rfl
theorem jw_728 : Cond.selects "CodeCover$Lifetimes" ({ cls := "CodeCover$Lifetimes", name := "mostAtOnePlace", desc := "()I" } : MethodName) ({ cls := "CodeCover$Lifetimes", name := "mostAtOnePlace", desc := "()I" } : MethodName) ∈ jm_wG := jm_mem4 (List.mem_of_getElem? (i := 8) rfl) rfl
theorem jw_729 : Cond.code ({ cls := "CodeCover$Lifetimes", name := "mostAtOnePlace", desc := "()I" } : MethodName) prog_3_method_4_code 3 (Option.some FieldType.int) ∈ jm_wG := jm_mem4 (List.mem_of_getElem? (i := 9) rfl) rfl
theorem jw_730 : Cond.methodLink "CodeCover$Lifetimes" 40 ({ cls := "CodeCover$Lifetimes", name := "livingBehind", desc := "(I)I" } : MethodName) ∈ jm_wG := jm_mem4 (List.mem_of_getElem? (i := 10) rfl) rfl
theorem jw_731 : Cond.methodLink "CodeCover$Lifetimes" 43 ({ cls := "java/lang/Integer", name := "bitCount", desc := "(I)I" } : MethodName) ∈ jm_wG := jm_mem4 (List.mem_of_getElem? (i := 11) rfl) rfl
theorem jw_732 : Cond.static ({ cls := "java/lang/Integer", name := "bitCount", desc := "(I)I" } : MethodName) ∈ jm_wG := jm_mem4 (List.mem_of_getElem? (i := 12) rfl) rfl
theorem jw_733 : Cond.code ({ cls := "java/lang/Integer", name := "bitCount", desc := "(I)I" } : MethodName) prog_14_method_49_code 1 (Option.some FieldType.int) ∈ jm_wG := jm_mem4 (List.mem_of_getElem? (i := 13) rfl) rfl
theorem jw_734 : Cond.constant "java/lang/Integer" 265 (1431655765 : Int32) ∈ jm_wG := jm_mem4 (List.mem_of_getElem? (i := 14) rfl) rfl
theorem jw_735 : Cond.constant "java/lang/Integer" 266 (858993459 : Int32) ∈ jm_wG := jm_mem4 (List.mem_of_getElem? (i := 15) rfl) rfl
theorem jw_736 : Cond.constant "java/lang/Integer" 267 (252645135 : Int32) ∈ jm_wG := jm_mem4 (List.mem_of_getElem? (i := 16) rfl) rfl
theorem jw_737 : Cond.methodLink "CodeCover$Lifetimes" 48 ({ cls := "java/lang/Math", name := "max", desc := "(II)I" } : MethodName) ∈ jm_wG := jm_mem4 (List.mem_of_getElem? (i := 17) rfl) rfl
theorem jw_738 : Cond.methodLink "CodeCoverLaw" 110 ({ cls := "CodeCover", name := "spilled", desc := "(II)I" } : MethodName) ∈ jm_wG := jm_mem4 (List.mem_of_getElem? (i := 18) rfl) rfl
theorem jw_739 : Cond.instanceMethod ({ cls := "CodeCover", name := "spilled", desc := "(II)I" } : MethodName) ∈ jm_wG := jm_mem4 (List.mem_of_getElem? (i := 19) rfl) rfl
theorem jw_740 : Cond.selects "CodeCover" ({ cls := "CodeCover", name := "spilled", desc := "(II)I" } : MethodName) ({ cls := "CodeCover", name := "spilled", desc := "(II)I" } : MethodName) ∈ jm_wG := jm_mem4 (List.mem_of_getElem? (i := 20) rfl) rfl
theorem jw_741 : Cond.code ({ cls := "CodeCover", name := "spilled", desc := "(II)I" } : MethodName) prog_1_method_25_code 3 (Option.some FieldType.int) ∈ jm_wG := jm_mem4 (List.mem_of_getElem? (i := 21) rfl) rfl
theorem jw_742 : Cond.methodLink "CodeCover" 219 ({ cls := "CodeCover$Lifetimes", name := "spillTo", desc := "(I)V" } : MethodName) ∈ jm_wG := jm_mem4 (List.mem_of_getElem? (i := 22) rfl) rfl
theorem jw_743 : Cond.instanceMethod ({ cls := "CodeCover$Lifetimes", name := "spillTo", desc := "(I)V" } : MethodName) ∈ jm_wG := jm_mem4 (List.mem_of_getElem? (i := 23) rfl) rfl
theorem jw_744 : Cond.selects "CodeCover$Lifetimes" ({ cls := "CodeCover$Lifetimes", name := "spillTo", desc := "(I)V" } : MethodName) ({ cls := "CodeCover$Lifetimes", name := "spillTo", desc := "(I)V" } : MethodName) ∈ jm_wG := jm_mem4 (List.mem_of_getElem? (i := 24) rfl) rfl
theorem jw_745 : Cond.code ({ cls := "CodeCover$Lifetimes", name := "spillTo", desc := "(I)V" } : MethodName) prog_3_method_6_code 3 (Option.none : Option FieldType) ∈ jm_wG := jm_mem4 (List.mem_of_getElem? (i := 25) rfl) rfl
theorem jw_746 : Cond.constant "CodeCover$Lifetimes" 57 (1000000 : Int32) ∈ jm_wG := jm_mem4 (List.mem_of_getElem? (i := 26) rfl) rfl
theorem jw_747 : Cond.methodLink "CodeCover$Lifetimes" 61 ({ cls := "CodeCover$Lifetimes", name := "choose", desc := "(IIII)V" } : MethodName) ∈ jm_wG := jm_mem4 (List.mem_of_getElem? (i := 27) rfl) rfl
theorem jw_749 : Cond.instanceMethod ({ cls := "CodeCover$Lifetimes", name := "choose", desc := "(IIII)V" } : MethodName) ∈ jm_wG := jm_mem4 (List.mem_of_getElem? (i := 29) rfl) rfl
theorem jw_750 : Cond.code ({ cls := "CodeCover$Lifetimes", name := "choose", desc := "(IIII)V" } : MethodName) prog_3_method_7_code 5 (Option.none : Option FieldType) ∈ jm_wG := jm_mem4 (List.mem_of_getElem? (i := 30) rfl) rfl
theorem jw_751 : Cond.methodLink "CodeCover$Lifetimes" 65 ({ cls := "CodeCover$Lifetimes", name := "hasRoom", desc := "(II)Z" } : MethodName) ∈ jm_wG := jm_mem4 (List.mem_of_getElem? (i := 31) rfl) rfl
theorem jw_753 : Cond.instanceMethod ({ cls := "CodeCover$Lifetimes", name := "hasRoom", desc := "(II)Z" } : MethodName) ∈ jm_wG := jm_mem4 (List.mem_of_getElem? (i := 33) rfl) rfl
theorem jw_754 : Cond.code ({ cls := "CodeCover$Lifetimes", name := "hasRoom", desc := "(II)Z" } : MethodName) prog_3_method_8_code 4 (Option.some FieldType.boolean) ∈ jm_wG := jm_mem4 (List.mem_of_getElem? (i := 34) rfl) rfl
theorem jw_755 : Cond.methodLink "CodeCover$Lifetimes" 68 ({ cls := "CodeCover$Lifetimes", name := "count", desc := "(II)V" } : MethodName) ∈ jm_wG := jm_mem4 (List.mem_of_getElem? (i := 35) rfl) rfl
theorem jw_757 : Cond.instanceMethod ({ cls := "CodeCover$Lifetimes", name := "count", desc := "(II)V" } : MethodName) ∈ jm_wG := jm_mem4 (List.mem_of_getElem? (i := 37) rfl) rfl
theorem jw_758 : Cond.code ({ cls := "CodeCover$Lifetimes", name := "count", desc := "(II)V" } : MethodName) prog_3_method_9_code 4 (Option.none : Option FieldType) ∈ jm_wG := jm_mem4 (List.mem_of_getElem? (i := 38) rfl) rfl
theorem jw_759 : Cond.methodLink "CodeCoverLaw" 114 ({ cls := "CodeCover", name := "run", desc := "(III)I" } : MethodName) ∈ jm_wG := jm_mem4 (List.mem_of_getElem? (i := 39) rfl) rfl
theorem jw_760 : Cond.instanceMethod ({ cls := "CodeCover", name := "run", desc := "(III)I" } : MethodName) ∈ jm_wG := jm_mem4 (List.mem_of_getElem? (i := 40) rfl) rfl
theorem jw_761 : Cond.selects "CodeCover" ({ cls := "CodeCover", name := "run", desc := "(III)I" } : MethodName) ({ cls := "CodeCover", name := "run", desc := "(III)I" } : MethodName) ∈ jm_wG := jm_mem4 (List.mem_of_getElem? (i := 41) rfl) rfl
theorem jw_762 : Cond.code ({ cls := "CodeCover", name := "run", desc := "(III)I" } : MethodName) prog_1_method_26_code 4 (Option.some FieldType.int) ∈ jm_wG := jm_mem4 (List.mem_of_getElem? (i := 42) rfl) rfl
theorem jw_763 : Cond.methodLink "CodeCover" 229 ({ cls := "CodeCover$Machine", name := "behindRow", desc := "(JJ)V" } : MethodName) ∈ jm_wG := jm_mem4 (List.mem_of_getElem? (i := 43) rfl) rfl
theorem jw_764 : Cond.instanceMethod ({ cls := "CodeCover$Machine", name := "behindRow", desc := "(JJ)V" } : MethodName) ∈ jm_wG := jm_mem4 (List.mem_of_getElem? (i := 44) rfl) rfl
theorem jw_765 : Cond.selects "CodeCover$Machine" ({ cls := "CodeCover$Machine", name := "behindRow", desc := "(JJ)V" } : MethodName) ({ cls := "CodeCover$Machine", name := "behindRow", desc := "(JJ)V" } : MethodName) ∈ jm_wG := jm_mem4 (List.mem_of_getElem? (i := 45) rfl) rfl
theorem jw_766 : Cond.code ({ cls := "CodeCover$Machine", name := "behindRow", desc := "(JJ)V" } : MethodName) prog_4_method_2_code 10 (Option.none : Option FieldType) ∈ jm_wG := jm_mem4 (List.mem_of_getElem? (i := 46) rfl) rfl
theorem jw_767 : Cond.methodLink "CodeCover$Machine" 27 ({ cls := "CodeCover$Machine", name := "result", desc := "(IJJ)J" } : MethodName) ∈ jm_wG := jm_mem4 (List.mem_of_getElem? (i := 47) rfl) rfl
theorem jw_768 : Cond.static ({ cls := "CodeCover$Machine", name := "result", desc := "(IJJ)J" } : MethodName) ∈ jm_wG := jm_mem4 (List.mem_of_getElem? (i := 48) rfl) rfl
theorem jw_769 : Cond.code ({ cls := "CodeCover$Machine", name := "result", desc := "(IJJ)J" } : MethodName) prog_4_method_3_code 5 (Option.some FieldType.long) ∈ jm_wG := jm_mem4 (List.mem_of_getElem? (i := 49) rfl) rfl
theorem jw_770 : Cond.constantLong "CodeCover$Machine" 31 (8608480567731124087 : Int64) ∈ jm_wG := jm_mem4 (List.mem_of_getElem? (i := 50) rfl) rfl
theorem jw_771 : Cond.constantLong "CodeCover$Machine" 33 (-8608480567731124088 : Int64) ∈ jm_wG := jm_mem4 (List.mem_of_getElem? (i := 51) rfl) rfl
theorem jw_772 : Cond.constantLong "CodeCover$Machine" 35 (-1 : Int64) ∈ jm_wG := jm_mem4 (List.mem_of_getElem? (i := 52) rfl) rfl
theorem jw_773 : Cond.constantLong "CodeCover" 237 (15 : Int64) ∈ jm_wG := jm_mem4 (List.mem_of_getElem? (i := 53) rfl) rfl
theorem jw_774 : Cond.methodLink "CodeCoverLaw" 118 ({ cls := "CodeCover", name := "shortest", desc := "(II)I" } : MethodName) ∈ jm_wG := jm_mem4 (List.mem_of_getElem? (i := 54) rfl) rfl
theorem jw_775 : Cond.instanceMethod ({ cls := "CodeCover", name := "shortest", desc := "(II)I" } : MethodName) ∈ jm_wG := jm_mem4 (List.mem_of_getElem? (i := 55) rfl) rfl
theorem jw_776 : Cond.selects "CodeCover" ({ cls := "CodeCover", name := "shortest", desc := "(II)I" } : MethodName) ({ cls := "CodeCover", name := "shortest", desc := "(II)I" } : MethodName) ∈ jm_wG := jm_mem4 (List.mem_of_getElem? (i := 56) rfl) rfl
theorem jw_777 : Cond.code ({ cls := "CodeCover", name := "shortest", desc := "(II)I" } : MethodName) prog_1_method_27_code 3 (Option.some FieldType.int) ∈ jm_wG := jm_mem4 (List.mem_of_getElem? (i := 57) rfl) rfl
theorem jw_778 : Cond.methodLink "CodeCover" 239 ({ cls := "CodeCover$Search", name := "refresh", desc := "(I)V" } : MethodName) ∈ jm_wG := jm_mem4 (List.mem_of_getElem? (i := 58) rfl) rfl
theorem jw_779 : Cond.instanceMethod ({ cls := "CodeCover$Search", name := "refresh", desc := "(I)V" } : MethodName) ∈ jm_wG := jm_mem4 (List.mem_of_getElem? (i := 59) rfl) rfl
theorem jw_780 : Cond.selects "CodeCover$Search" ({ cls := "CodeCover$Search", name := "refresh", desc := "(I)V" } : MethodName) ({ cls := "CodeCover$Search", name := "refresh", desc := "(I)V" } : MethodName) ∈ jm_wG := jm_mem4 (List.mem_of_getElem? (i := 60) rfl) rfl
theorem jw_781 : Cond.code ({ cls := "CodeCover$Search", name := "refresh", desc := "(I)V" } : MethodName) prog_10_method_3_code 3 (Option.none : Option FieldType) ∈ jm_wG := jm_mem4 (List.mem_of_getElem? (i := 61) rfl) rfl
theorem jw_782 : Cond.methodLink "CodeCover$Search" 62 ({ cls := "CodeCover$Search", name := "begin", desc := "([JI)V" } : MethodName) ∈ jm_wG := jm_mem4 (List.mem_of_getElem? (i := 62) rfl) rfl
theorem jw_783 : Cond.static ({ cls := "CodeCover$Search", name := "begin", desc := "([JI)V" } : MethodName) ∈ jm_wG := jm_mem4 (List.mem_of_getElem? (i := 63) rfl) rfl
theorem jw_784 : Cond.code ({ cls := "CodeCover$Search", name := "begin", desc := "([JI)V" } : MethodName) prog_10_method_5_code 2 (Option.none : Option FieldType) ∈ jm_wG := jm_mem4 (List.mem_of_getElem? (i := 64) rfl) rfl
theorem jw_785 : Cond.constantLong "CodeCover$Search" 66 (-81985529216486896 : Int64) ∈ jm_wG := jm_mem4 (List.mem_of_getElem? (i := 65) rfl) rfl
theorem jw_786 : Cond.methodLink "CodeCover$Search" 68 ({ cls := "CodeCover$Search", name := "wordsOfB", desc := "(I)J" } : MethodName) ∈ jm_wG := jm_mem4 (List.mem_of_getElem? (i := 66) rfl) rfl
theorem jw_787 : Cond.static ({ cls := "CodeCover$Search", name := "wordsOfB", desc := "(I)J" } : MethodName) ∈ jm_wG := jm_mem4 (List.mem_of_getElem? (i := 67) rfl) rfl
theorem jw_788 : Cond.code ({ cls := "CodeCover$Search", name := "wordsOfB", desc := "(I)J" } : MethodName) prog_10_method_4_code 1 (Option.some FieldType.long) ∈ jm_wG := jm_mem4 (List.mem_of_getElem? (i := 68) rfl) rfl
theorem jw_789 : Cond.constantLong "CodeCover$Search" 89 (4364540684564061060 : Int64) ∈ jm_wG := jm_mem4 (List.mem_of_getElem? (i := 69) rfl) rfl
theorem jw_790 : Cond.constantLong "CodeCover$Search" 91 (1229782938247303441 : Int64) ∈ jm_wG := jm_mem4 (List.mem_of_getElem? (i := 70) rfl) rfl
theorem jw_791 : Cond.methodLink "CodeCover$Search" 72 ({ cls := "CodeCover$Machine", name := "behindRow", desc := "(JJ)V" } : MethodName) ∈ jm_wG := jm_mem4 (List.mem_of_getElem? (i := 71) rfl) rfl
theorem jw_792 : Cond.methodLink "CodeCover$Search" 81 ({ cls := "CodeCover$Search", name := "doesAll", desc := "(I)Z" } : MethodName) ∈ jm_wG := jm_mem4 (List.mem_of_getElem? (i := 72) rfl) rfl
theorem jw_794 : Cond.instanceMethod ({ cls := "CodeCover$Search", name := "doesAll", desc := "(I)Z" } : MethodName) ∈ jm_wG := jm_mem4 (List.mem_of_getElem? (i := 74) rfl) rfl
theorem jw_795 : Cond.code ({ cls := "CodeCover$Search", name := "doesAll", desc := "(I)Z" } : MethodName) prog_10_method_9_code 4 (Option.some FieldType.boolean) ∈ jm_wG := jm_mem4 (List.mem_of_getElem? (i := 75) rfl) rfl
theorem jw_796 : Cond.methodLink "CodeCover$Search" 116 ({ cls := "CodeCover$Machine", name := "result", desc := "(IJJ)J" } : MethodName) ∈ jm_wG := jm_mem4 (List.mem_of_getElem? (i := 76) rfl) rfl
theorem jw_797 : Cond.methodLink "CodeCover$Search" 85 ({ cls := "CodeCover$Search", name := "find", desc := "(III)Z" } : MethodName) ∈ jm_wG := jm_mem4 (List.mem_of_getElem? (i := 77) rfl) rfl
theorem jw_799 : Cond.instanceMethod ({ cls := "CodeCover$Search", name := "find", desc := "(III)Z" } : MethodName) ∈ jm_wG := jm_mem4 (List.mem_of_getElem? (i := 79) rfl) rfl
theorem jw_800 : Cond.code ({ cls := "CodeCover$Search", name := "find", desc := "(III)Z" } : MethodName) prog_10_method_6_code 9 (Option.some FieldType.boolean) ∈ jm_wG := jm_mem4 (List.mem_of_getElem? (i := 80) rfl) rfl
theorem jw_801 : Cond.methodLink "CodeCover$Search" 93 ({ cls := "CodeCover$Search", name := "endsWith", desc := "(III)Z" } : MethodName) ∈ jm_wG := jm_mem4 (List.mem_of_getElem? (i := 81) rfl) rfl
theorem jw_803 : Cond.instanceMethod ({ cls := "CodeCover$Search", name := "endsWith", desc := "(III)Z" } : MethodName) ∈ jm_wG := jm_mem4 (List.mem_of_getElem? (i := 83) rfl) rfl
theorem jw_804 : Cond.code ({ cls := "CodeCover$Search", name := "endsWith", desc := "(III)Z" } : MethodName) prog_10_method_8_code 7 (Option.some FieldType.boolean) ∈ jm_wG := jm_mem4 (List.mem_of_getElem? (i := 84) rfl) rfl
theorem jw_805 : Cond.methodLink "CodeCover$Search" 96 ({ cls := "CodeCover$Search", name := "goesOn", desc := "(III)Z" } : MethodName) ∈ jm_wG := jm_mem4 (List.mem_of_getElem? (i := 85) rfl) rfl
theorem jw_807 : Cond.instanceMethod ({ cls := "CodeCover$Search", name := "goesOn", desc := "(III)Z" } : MethodName) ∈ jm_wG := jm_mem4 (List.mem_of_getElem? (i := 87) rfl) rfl
theorem jw_808 : Cond.code ({ cls := "CodeCover$Search", name := "goesOn", desc := "(III)Z" } : MethodName) prog_10_method_7_code 7 (Option.some FieldType.boolean) ∈ jm_wG := jm_mem4 (List.mem_of_getElem? (i := 88) rfl) rfl
theorem jw_809 : Cond.methodLink "CodeCover$Search" 110 ({ cls := "java/lang/System", name := "arraycopy", desc := "(Ljava/lang/Object;ILjava/lang/Object;II)V" } : MethodName) ∈ jm_wG := jm_mem4 (List.mem_of_getElem? (i := 89) rfl) rfl
theorem jw_810 : Cond.methodLink "CodeCover" 244 ({ cls := "CodeCover$Search", name := "codeAt", desc := "(I)I" } : MethodName) ∈ jm_wG := jm_mem4 (List.mem_of_getElem? (i := 90) rfl) rfl
theorem jw_811 : Cond.instanceMethod ({ cls := "CodeCover$Search", name := "codeAt", desc := "(I)I" } : MethodName) ∈ jm_wG := jm_mem4 (List.mem_of_getElem? (i := 91) rfl) rfl
theorem jw_812 : Cond.selects "CodeCover$Search" ({ cls := "CodeCover$Search", name := "codeAt", desc := "(I)I" } : MethodName) ({ cls := "CodeCover$Search", name := "codeAt", desc := "(I)I" } : MethodName) ∈ jm_wG := jm_mem4 (List.mem_of_getElem? (i := 92) rfl) rfl
theorem jw_813 : Cond.code ({ cls := "CodeCover$Search", name := "codeAt", desc := "(I)I" } : MethodName) prog_10_method_2_code 2 (Option.some FieldType.int) ∈ jm_wG := jm_mem4 (List.mem_of_getElem? (i := 93) rfl) rfl
theorem jw_814 : Cond.methodLink "CodeCoverLaw" 122 ({ cls := "CodeCover", name := "thin", desc := "()I" } : MethodName) ∈ jm_wG := jm_mem4 (List.mem_of_getElem? (i := 94) rfl) rfl
theorem jw_815 : Cond.instanceMethod ({ cls := "CodeCover", name := "thin", desc := "()I" } : MethodName) ∈ jm_wG := jm_mem4 (List.mem_of_getElem? (i := 95) rfl) rfl
theorem jw_816 : Cond.selects "CodeCover" ({ cls := "CodeCover", name := "thin", desc := "()I" } : MethodName) ({ cls := "CodeCover", name := "thin", desc := "()I" } : MethodName) ∈ jm_wG := jm_mem4 (List.mem_of_getElem? (i := 96) rfl) rfl
theorem jw_817 : Cond.code ({ cls := "CodeCover", name := "thin", desc := "()I" } : MethodName) prog_1_method_28_code 4 (Option.some FieldType.int) ∈ jm_wG := jm_mem4 (List.mem_of_getElem? (i := 97) rfl) rfl
theorem jw_818 : Cond.methodLink "CodeCover" 247 ({ cls := "CodeCover$Lifetimes", name := "firstUnused", desc := "()I" } : MethodName) ∈ jm_wG := jm_mem4 (List.mem_of_getElem? (i := 98) rfl) rfl
theorem jw_819 : Cond.instanceMethod ({ cls := "CodeCover$Lifetimes", name := "firstUnused", desc := "()I" } : MethodName) ∈ jm_wG := jm_mem4 (List.mem_of_getElem? (i := 99) rfl) rfl
theorem jw_820 : Cond.selects "CodeCover$Lifetimes" ({ cls := "CodeCover$Lifetimes", name := "firstUnused", desc := "()I" } : MethodName) ({ cls := "CodeCover$Lifetimes", name := "firstUnused", desc := "()I" } : MethodName) ∈ jm_wG := jm_mem4 (List.mem_of_getElem? (i := 100) rfl) rfl
theorem jw_821 : Cond.code ({ cls := "CodeCover$Lifetimes", name := "firstUnused", desc := "()I" } : MethodName) prog_3_method_5_code 2 (Option.some FieldType.int) ∈ jm_wG := jm_mem4 (List.mem_of_getElem? (i := 101) rfl) rfl
theorem jw_822 : Cond.methodLink "CodeCover" 250 ({ cls := "CodeCover$Row", name := "remove", desc := "(I)V" } : MethodName) ∈ jm_wG := jm_mem4 (List.mem_of_getElem? (i := 102) rfl) rfl
theorem jw_823 : Cond.instanceMethod ({ cls := "CodeCover$Row", name := "remove", desc := "(I)V" } : MethodName) ∈ jm_wG := jm_mem4 (List.mem_of_getElem? (i := 103) rfl) rfl
theorem jw_824 : Cond.selects "CodeCover$Row" ({ cls := "CodeCover$Row", name := "remove", desc := "(I)V" } : MethodName) ({ cls := "CodeCover$Row", name := "remove", desc := "(I)V" } : MethodName) ∈ jm_wG := jm_mem4 (List.mem_of_getElem? (i := 104) rfl) rfl
theorem jw_825 : Cond.code ({ cls := "CodeCover$Row", name := "remove", desc := "(I)V" } : MethodName) prog_9_method_8_code 4 (Option.none : Option FieldType) ∈ jm_wG := jm_mem4 (List.mem_of_getElem? (i := 105) rfl) rfl
theorem jw_826 : Cond.methodLink "CodeCoverLaw" 126 ({ cls := "CodeCover", name := "told", desc := "(I)I" } : MethodName) ∈ jm_wG := jm_mem4 (List.mem_of_getElem? (i := 106) rfl) rfl
theorem jw_827 : Cond.instanceMethod ({ cls := "CodeCover", name := "told", desc := "(I)I" } : MethodName) ∈ jm_wG := jm_mem4 (List.mem_of_getElem? (i := 107) rfl) rfl
theorem jw_828 : Cond.selects "CodeCover" ({ cls := "CodeCover", name := "told", desc := "(I)I" } : MethodName) ({ cls := "CodeCover", name := "told", desc := "(I)I" } : MethodName) ∈ jm_wG := jm_mem4 (List.mem_of_getElem? (i := 108) rfl) rfl
theorem jw_829 : Cond.code ({ cls := "CodeCover", name := "told", desc := "(I)I" } : MethodName) prog_1_method_29_code 2 (Option.some FieldType.int) ∈ jm_wG := jm_mem4 (List.mem_of_getElem? (i := 109) rfl) rfl
theorem jw_830 : Cond.classLink "CodeCoverLaw" 10 "CodeCoverModel" ∈ jm_wG := jm_mem4 (List.mem_of_getElem? (i := 110) rfl) rfl
theorem jw_831 : Cond.instantiable "CodeCoverModel" 45 ∈ jm_wG := jm_mem4 (List.mem_of_getElem? (i := 111) rfl) rfl
theorem jw_832 : Cond.methodLink "CodeCoverLaw" 12 ({ cls := "CodeCoverModel", name := "<init>", desc := "()V" } : MethodName) ∈ jm_wG := jm_mem4 (List.mem_of_getElem? (i := 112) rfl) rfl
theorem jw_833 : Cond.instanceMethod ({ cls := "CodeCoverModel", name := "<init>", desc := "()V" } : MethodName) ∈ jm_wG := jm_mem4 (List.mem_of_getElem? (i := 113) rfl) rfl
theorem jw_834 : Cond.code ({ cls := "CodeCoverModel", name := "<init>", desc := "()V" } : MethodName) prog_13_method_1_code 1 (Option.none : Option FieldType) ∈ jm_wG := jm_mem4 (List.mem_of_getElem? (i := 114) rfl) rfl
theorem jw_835 : Cond.methodLink "CodeCoverModel" 1 ({ cls := "java/lang/Object", name := "<init>", desc := "()V" } : MethodName) ∈ jm_wG := jm_mem4 (List.mem_of_getElem? (i := 115) rfl) rfl
theorem jw_836 : Cond.fieldLink "CodeCoverModel" 7 "CodeCoverModel" "pad" "[I" ∈ jm_wG := jm_mem4 (List.mem_of_getElem? (i := 116) rfl) rfl
theorem jw_837 : Cond.fieldLink "CodeCoverModel" 130 "CodeCoverModel" "padMany" "I" ∈ jm_wG := jm_mem4 (List.mem_of_getElem? (i := 117) rfl) rfl
theorem jw_838 : Cond.fieldLink "CodeCoverModel" 13 "CodeCoverModel" "sign" "[I" ∈ jm_wG := jm_mem4 (List.mem_of_getElem? (i := 118) rfl) rfl
theorem jw_839 : Cond.fieldLink "CodeCoverModel" 16 "CodeCoverModel" "partOf" "[I" ∈ jm_wG := jm_mem4 (List.mem_of_getElem? (i := 119) rfl) rfl
theorem jw_840 : Cond.fieldLink "CodeCoverModel" 169 "CodeCoverModel" "nodes" "I" ∈ jm_wG := jm_mem4 (List.mem_of_getElem? (i := 120) rfl) rfl
theorem jw_841 : Cond.fieldLink "CodeCoverModel" 19 "CodeCoverModel" "walkSign" "[I" ∈ jm_wG := jm_mem4 (List.mem_of_getElem? (i := 121) rfl) rfl
theorem jw_842 : Cond.fieldLink "CodeCoverModel" 22 "CodeCoverModel" "walkPartOf" "[I" ∈ jm_wG := jm_mem4 (List.mem_of_getElem? (i := 122) rfl) rfl
theorem jw_843 : Cond.fieldLink "CodeCoverModel" 25 "CodeCoverModel" "walkLacks" "[I" ∈ jm_wG := jm_mem4 (List.mem_of_getElem? (i := 123) rfl) rfl
theorem jw_844 : Cond.fieldLink "CodeCoverModel" 148 "CodeCoverModel" "walked" "I" ∈ jm_wG := jm_mem4 (List.mem_of_getElem? (i := 124) rfl) rfl
theorem jw_845 : Cond.fieldLink "CodeCoverModel" 28 "CodeCoverModel" "need" "[I" ∈ jm_wG := jm_mem4 (List.mem_of_getElem? (i := 125) rfl) rfl
theorem jw_846 : Cond.fieldLink "CodeCoverModel" 31 "CodeCoverModel" "headOf" "[I" ∈ jm_wG := jm_mem4 (List.mem_of_getElem? (i := 126) rfl) rfl
theorem jw_847 : Cond.fieldLink "CodeCoverModel" 34 "CodeCoverModel" "priceOf" "[I" ∈ jm_wG := jm_mem4 (List.mem_of_getElem? (i := 127) rfl) rfl
theorem jw_848 : Cond.fieldLink "CodeCoverModel" 37 "CodeCoverModel" "patternSigns" "[I" ∈ jm_wG := jm_mem4 (List.mem_of_getElem? (i := 128) rfl) rfl
theorem jw_849 : Cond.fieldLink "CodeCoverModel" 40 "CodeCoverModel" "patternLong" "[I" ∈ jm_wG := jm_mem4 (List.mem_of_getElem? (i := 129) rfl) rfl
theorem jw_850 : Cond.fieldLink "CodeCoverModel" 186 "CodeCoverModel" "patterns" "I" ∈ jm_wG := jm_mem4 (List.mem_of_getElem? (i := 130) rfl) rfl
theorem jw_851 : Cond.fieldLink "CodeCoverModel" 43 "CodeCoverModel" "plain" "[I" ∈ jm_wG := jm_mem4 (List.mem_of_getElem? (i := 131) rfl) rfl
theorem jw_852 : Cond.fieldLink "CodeCoverModel" 46 "CodeCoverModel" "plainBy" "[I" ∈ jm_wG := jm_mem4 (List.mem_of_getElem? (i := 132) rfl) rfl
theorem jw_853 : Cond.fieldLink "CodeCoverModel" 49 "CodeCoverModel" "cover" "[I" ∈ jm_wG := jm_mem4 (List.mem_of_getElem? (i := 133) rfl) rfl
theorem jw_854 : Cond.fieldLink "CodeCoverModel" 52 "CodeCoverModel" "coverBy" "[I" ∈ jm_wG := jm_mem4 (List.mem_of_getElem? (i := 134) rfl) rfl
theorem jw_855 : Cond.fieldLink "CodeCoverModel" 55 "CodeCoverModel" "todoNode" "[I" ∈ jm_wG := jm_mem4 (List.mem_of_getElem? (i := 135) rfl) rfl
theorem jw_856 : Cond.fieldLink "CodeCoverModel" 58 "CodeCoverModel" "todoHow" "[I" ∈ jm_wG := jm_mem4 (List.mem_of_getElem? (i := 136) rfl) rfl
theorem jw_857 : Cond.fieldLink "CodeCoverModel" 61 "CodeCoverModel" "todoBy" "[I" ∈ jm_wG := jm_mem4 (List.mem_of_getElem? (i := 137) rfl) rfl
theorem jw_858 : Cond.fieldLink "CodeCoverModel" 203 "CodeCoverModel" "todos" "I" ∈ jm_wG := jm_mem4 (List.mem_of_getElem? (i := 138) rfl) rfl
theorem jw_859 : Cond.fieldLink "CodeCoverModel" 64 "CodeCoverModel" "codeBy" "[I" ∈ jm_wG := jm_mem4 (List.mem_of_getElem? (i := 139) rfl) rfl
theorem jw_860 : Cond.fieldLink "CodeCoverModel" 67 "CodeCoverModel" "codeAt" "[I" ∈ jm_wG := jm_mem4 (List.mem_of_getElem? (i := 140) rfl) rfl
theorem jw_861 : Cond.fieldLink "CodeCoverModel" 210 "CodeCoverModel" "codes" "I" ∈ jm_wG := jm_mem4 (List.mem_of_getElem? (i := 141) rfl) rfl
theorem jw_862 : Cond.fieldLink "CodeCoverModel" 70 "CodeCoverModel" "ops" "[I" ∈ jm_wG := jm_mem4 (List.mem_of_getElem? (i := 142) rfl) rfl
theorem jw_863 : Cond.fieldLink "CodeCoverModel" 73 "CodeCoverModel" "sets" "[I" ∈ jm_wG := jm_mem4 (List.mem_of_getElem? (i := 143) rfl) rfl
theorem jw_864 : Cond.fieldLink "CodeCoverModel" 76 "CodeCoverModel" "ones" "[I" ∈ jm_wG := jm_mem4 (List.mem_of_getElem? (i := 144) rfl) rfl
theorem jw_865 : Cond.fieldLink "CodeCoverModel" 79 "CodeCoverModel" "twos" "[I" ∈ jm_wG := jm_mem4 (List.mem_of_getElem? (i := 145) rfl) rfl
theorem jw_866 : Cond.fieldLink "CodeCoverModel" 82 "CodeCoverModel" "waits" "[I" ∈ jm_wG := jm_mem4 (List.mem_of_getElem? (i := 146) rfl) rfl
theorem jw_867 : Cond.fieldLink "CodeCoverModel" 85 "CodeCoverModel" "weights" "[I" ∈ jm_wG := jm_mem4 (List.mem_of_getElem? (i := 147) rfl) rfl
theorem jw_868 : Cond.fieldLink "CodeCoverModel" 231 "CodeCoverModel" "many" "I" ∈ jm_wG := jm_mem4 (List.mem_of_getElem? (i := 148) rfl) rfl
theorem jw_869 : Cond.fieldLink "CodeCoverModel" 88 "CodeCoverModel" "order" "[I" ∈ jm_wG := jm_mem4 (List.mem_of_getElem? (i := 149) rfl) rfl
theorem jw_870 : Cond.fieldLink "CodeCoverModel" 91 "CodeCoverModel" "cycle" "[I" ∈ jm_wG := jm_mem4 (List.mem_of_getElem? (i := 150) rfl) rfl
theorem jw_871 : Cond.fieldLink "CodeCoverModel" 94 "CodeCoverModel" "bestOrder" "[I" ∈ jm_wG := jm_mem4 (List.mem_of_getElem? (i := 151) rfl) rfl
theorem jw_872 : Cond.fieldLink "CodeCoverModel" 251 "CodeCoverModel" "bestEnd" "I" ∈ jm_wG := jm_mem4 (List.mem_of_getElem? (i := 152) rfl) rfl
theorem jw_873 : Cond.fieldLink "CodeCoverModel" 97 "CodeCoverModel" "endTo" "[I" ∈ jm_wG := jm_mem4 (List.mem_of_getElem? (i := 153) rfl) rfl
theorem jw_874 : Cond.fieldLink "CodeCoverModel" 100 "CodeCoverModel" "aside" "[I" ∈ jm_wG := jm_mem4 (List.mem_of_getElem? (i := 154) rfl) rfl
theorem jw_875 : Cond.fieldLink "CodeCoverModel" 118 "CodeCoverModel" "kept" "I" ∈ jm_wG := jm_mem4 (List.mem_of_getElem? (i := 155) rfl) rfl
theorem jw_876 : Cond.fieldLink "CodeCoverModel" 103 "CodeCoverModel" "places" "[I" ∈ jm_wG := jm_mem4 (List.mem_of_getElem? (i := 156) rfl) rfl
theorem jw_877 : Cond.fieldLink "CodeCoverModel" 106 "CodeCoverModel" "registers" "[I" ∈ jm_wG := jm_mem4 (List.mem_of_getElem? (i := 157) rfl) rfl
theorem jw_878 : Cond.fieldLink "CodeCoverModel" 109 "CodeCoverModel" "wanted" "[I" ∈ jm_wG := jm_mem4 (List.mem_of_getElem? (i := 158) rfl) rfl
theorem jw_879 : Cond.fieldLink "CodeCoverModel" 112 "CodeCoverModel" "shorts" "[I" ∈ jm_wG := jm_mem4 (List.mem_of_getElem? (i := 159) rfl) rfl
theorem jw_880 : Cond.fieldLink "CodeCoverModel" 115 "CodeCoverModel" "short3" "[I" ∈ jm_wG := jm_mem4 (List.mem_of_getElem? (i := 160) rfl) rfl
theorem jw_972 : Cond.methodLink "CodeCoverLaw" 17 ({ cls := "CodeCoverModel", name := "say", desc := "(I)I" } : MethodName) ∈ jm_wG := jm_mem5 (List.mem_of_getElem? (i := 12) rfl) rfl
theorem jw_973 : Cond.instanceMethod ({ cls := "CodeCoverModel", name := "say", desc := "(I)I" } : MethodName) ∈ jm_wG := jm_mem5 (List.mem_of_getElem? (i := 13) rfl) rfl
theorem jw_974 : Cond.selects "CodeCoverModel" ({ cls := "CodeCoverModel", name := "say", desc := "(I)I" } : MethodName) ({ cls := "CodeCoverModel", name := "say", desc := "(I)I" } : MethodName) ∈ jm_wG := jm_mem5 (List.mem_of_getElem? (i := 14) rfl) rfl
theorem jw_975 : Cond.code ({ cls := "CodeCoverModel", name := "say", desc := "(I)I" } : MethodName) prog_13_method_4_code 2 (Option.some FieldType.int) ∈ jm_wG := jm_mem5 (List.mem_of_getElem? (i := 15) rfl) rfl
theorem jw_976 : Cond.constantLong "CodeCoverModel" 122 (33 : Int64) ∈ jm_wG := jm_mem5 (List.mem_of_getElem? (i := 16) rfl) rfl
theorem jw_977 : Cond.constantLong "CodeCoverModel" 124 (126 : Int64) ∈ jm_wG := jm_mem5 (List.mem_of_getElem? (i := 17) rfl) rfl
theorem jw_978 : Cond.methodLink "CodeCoverModel" 126 ({ cls := "CodeCoverModel", name := "in", desc := "(JJJ)Z" } : MethodName) ∈ jm_wG := jm_mem5 (List.mem_of_getElem? (i := 18) rfl) rfl
theorem jw_979 : Cond.static ({ cls := "CodeCoverModel", name := "in", desc := "(JJJ)Z" } : MethodName) ∈ jm_wG := jm_mem5 (List.mem_of_getElem? (i := 19) rfl) rfl
theorem jw_980 : Cond.code ({ cls := "CodeCoverModel", name := "in", desc := "(JJJ)Z" } : MethodName) prog_13_method_3_code 6 (Option.some FieldType.boolean) ∈ jm_wG := jm_mem5 (List.mem_of_getElem? (i := 20) rfl) rfl
theorem jw_981 : Cond.methodLink "CodeCoverLaw" 22 ({ cls := "CodeCoverModel", name := "wipe", desc := "()I" } : MethodName) ∈ jm_wG := jm_mem5 (List.mem_of_getElem? (i := 21) rfl) rfl
theorem jw_982 : Cond.instanceMethod ({ cls := "CodeCoverModel", name := "wipe", desc := "()I" } : MethodName) ∈ jm_wG := jm_mem5 (List.mem_of_getElem? (i := 22) rfl) rfl
theorem jw_983 : Cond.selects "CodeCoverModel" ({ cls := "CodeCoverModel", name := "wipe", desc := "()I" } : MethodName) ({ cls := "CodeCoverModel", name := "wipe", desc := "()I" } : MethodName) ∈ jm_wG := jm_mem5 (List.mem_of_getElem? (i := 23) rfl) rfl
theorem jw_984 : Cond.code ({ cls := "CodeCoverModel", name := "wipe", desc := "()I" } : MethodName) prog_13_method_5_code 2 (Option.some FieldType.int) ∈ jm_wG := jm_mem5 (List.mem_of_getElem? (i := 24) rfl) rfl
theorem jw_985 : Cond.methodLink "CodeCoverLaw" 26 ({ cls := "CodeCoverModel", name := "fault", desc := "()I" } : MethodName) ∈ jm_wG := jm_mem5 (List.mem_of_getElem? (i := 25) rfl) rfl
theorem jw_986 : Cond.instanceMethod ({ cls := "CodeCoverModel", name := "fault", desc := "()I" } : MethodName) ∈ jm_wG := jm_mem5 (List.mem_of_getElem? (i := 26) rfl) rfl
theorem jw_987 : Cond.selects "CodeCoverModel" ({ cls := "CodeCoverModel", name := "fault", desc := "()I" } : MethodName) ({ cls := "CodeCoverModel", name := "fault", desc := "()I" } : MethodName) ∈ jm_wG := jm_mem5 (List.mem_of_getElem? (i := 27) rfl) rfl
theorem jw_988 : Cond.code ({ cls := "CodeCoverModel", name := "fault", desc := "()I" } : MethodName) prog_13_method_13_code 1 (Option.some FieldType.int) ∈ jm_wG := jm_mem5 (List.mem_of_getElem? (i := 28) rfl) rfl
theorem jw_989 : Cond.methodLink "CodeCoverModel" 165 ({ cls := "CodeCoverModel", name := "walk", desc := "(Z)I" } : MethodName) ∈ jm_wG := jm_mem5 (List.mem_of_getElem? (i := 29) rfl) rfl
theorem jw_991 : Cond.instanceMethod ({ cls := "CodeCoverModel", name := "walk", desc := "(Z)I" } : MethodName) ∈ jm_wG := jm_mem5 (List.mem_of_getElem? (i := 31) rfl) rfl
theorem jw_992 : Cond.code ({ cls := "CodeCoverModel", name := "walk", desc := "(Z)I" } : MethodName) prog_13_method_11_code 7 (Option.some FieldType.int) ∈ jm_wG := jm_mem5 (List.mem_of_getElem? (i := 32) rfl) rfl
theorem jw_993 : Cond.methodLink "CodeCoverModel" 151 ({ cls := "CodeCoverModel", name := "partsOf", desc := "(I)I" } : MethodName) ∈ jm_wG := jm_mem5 (List.mem_of_getElem? (i := 33) rfl) rfl
theorem jw_994 : Cond.static ({ cls := "CodeCoverModel", name := "partsOf", desc := "(I)I" } : MethodName) ∈ jm_wG := jm_mem5 (List.mem_of_getElem? (i := 34) rfl) rfl
theorem jw_995 : Cond.code ({ cls := "CodeCoverModel", name := "partsOf", desc := "(I)I" } : MethodName) prog_13_method_6_code 1 (Option.some FieldType.int) ∈ jm_wG := jm_mem5 (List.mem_of_getElem? (i := 35) rfl) rfl
theorem jw_996 : Cond.methodLink "CodeCoverModel" 155 ({ cls := "CodeCoverModel", name := "depthOf", desc := "(I)I" } : MethodName) ∈ jm_wG := jm_mem5 (List.mem_of_getElem? (i := 36) rfl) rfl
theorem jw_998 : Cond.instanceMethod ({ cls := "CodeCoverModel", name := "depthOf", desc := "(I)I" } : MethodName) ∈ jm_wG := jm_mem5 (List.mem_of_getElem? (i := 38) rfl) rfl
theorem jw_999 : Cond.code ({ cls := "CodeCoverModel", name := "depthOf", desc := "(I)I" } : MethodName) prog_13_method_10_code 4 (Option.some FieldType.int) ∈ jm_wG := jm_mem5 (List.mem_of_getElem? (i := 39) rfl) rfl
theorem jw_1000 : Cond.methodLink "CodeCoverModel" 158 ({ cls := "CodeCoverModel", name := "isLeaf", desc := "(IZ)Z" } : MethodName) ∈ jm_wG := jm_mem5 (List.mem_of_getElem? (i := 40) rfl) rfl
theorem jw_1001 : Cond.static ({ cls := "CodeCoverModel", name := "isLeaf", desc := "(IZ)Z" } : MethodName) ∈ jm_wG := jm_mem5 (List.mem_of_getElem? (i := 41) rfl) rfl
theorem jw_1002 : Cond.code ({ cls := "CodeCoverModel", name := "isLeaf", desc := "(IZ)Z" } : MethodName) prog_13_method_9_code 2 (Option.some FieldType.boolean) ∈ jm_wG := jm_mem5 (List.mem_of_getElem? (i := 42) rfl) rfl
theorem jw_1003 : Cond.methodLink "CodeCoverModel" 141 ({ cls := "CodeCoverModel", name := "isNumber", desc := "(I)Z" } : MethodName) ∈ jm_wG := jm_mem5 (List.mem_of_getElem? (i := 43) rfl) rfl
theorem jw_1004 : Cond.static ({ cls := "CodeCoverModel", name := "isNumber", desc := "(I)Z" } : MethodName) ∈ jm_wG := jm_mem5 (List.mem_of_getElem? (i := 44) rfl) rfl
theorem jw_1005 : Cond.code ({ cls := "CodeCoverModel", name := "isNumber", desc := "(I)Z" } : MethodName) prog_13_method_7_code 1 (Option.some FieldType.boolean) ∈ jm_wG := jm_mem5 (List.mem_of_getElem? (i := 45) rfl) rfl
theorem jw_1006 : Cond.constantLong "CodeCoverModel" 133 (48 : Int64) ∈ jm_wG := jm_mem5 (List.mem_of_getElem? (i := 46) rfl) rfl
theorem jw_1007 : Cond.constantLong "CodeCoverModel" 135 (57 : Int64) ∈ jm_wG := jm_mem5 (List.mem_of_getElem? (i := 47) rfl) rfl
theorem jw_1008 : Cond.methodLink "CodeCoverModel" 145 ({ cls := "CodeCoverModel", name := "isVariable", desc := "(I)Z" } : MethodName) ∈ jm_wG := jm_mem5 (List.mem_of_getElem? (i := 48) rfl) rfl
theorem jw_1009 : Cond.static ({ cls := "CodeCoverModel", name := "isVariable", desc := "(I)Z" } : MethodName) ∈ jm_wG := jm_mem5 (List.mem_of_getElem? (i := 49) rfl) rfl
theorem jw_1010 : Cond.code ({ cls := "CodeCoverModel", name := "isVariable", desc := "(I)Z" } : MethodName) prog_13_method_8_code 1 (Option.some FieldType.boolean) ∈ jm_wG := jm_mem5 (List.mem_of_getElem? (i := 50) rfl) rfl
theorem jw_1011 : Cond.constantLong "CodeCoverModel" 137 (97 : Int64) ∈ jm_wG := jm_mem5 (List.mem_of_getElem? (i := 51) rfl) rfl
theorem jw_1012 : Cond.constantLong "CodeCoverModel" 139 (104 : Int64) ∈ jm_wG := jm_mem5 (List.mem_of_getElem? (i := 52) rfl) rfl
theorem jw_1013 : Cond.methodLink "CodeCoverModel" 162 ({ cls := "CodeCoverModel", name := "closed", desc := "(I)I" } : MethodName) ∈ jm_wG := jm_mem5 (List.mem_of_getElem? (i := 53) rfl) rfl
theorem jw_1015 : Cond.instanceMethod ({ cls := "CodeCoverModel", name := "closed", desc := "(I)I" } : MethodName) ∈ jm_wG := jm_mem5 (List.mem_of_getElem? (i := 55) rfl) rfl
theorem jw_1016 : Cond.code ({ cls := "CodeCoverModel", name := "closed", desc := "(I)I" } : MethodName) prog_13_method_12_code 3 (Option.some FieldType.int) ∈ jm_wG := jm_mem5 (List.mem_of_getElem? (i := 56) rfl) rfl
theorem jw_1017 : Cond.methodLink "CodeCoverLaw" 30 ({ cls := "CodeCoverModel", name := "read", desc := "()I" } : MethodName) ∈ jm_wG := jm_mem5 (List.mem_of_getElem? (i := 57) rfl) rfl
theorem jw_1018 : Cond.instanceMethod ({ cls := "CodeCoverModel", name := "read", desc := "()I" } : MethodName) ∈ jm_wG := jm_mem5 (List.mem_of_getElem? (i := 58) rfl) rfl
theorem jw_1019 : Cond.selects "CodeCoverModel" ({ cls := "CodeCoverModel", name := "read", desc := "()I" } : MethodName) ({ cls := "CodeCoverModel", name := "read", desc := "()I" } : MethodName) ∈ jm_wG := jm_mem5 (List.mem_of_getElem? (i := 59) rfl) rfl
theorem jw_1020 : Cond.code ({ cls := "CodeCoverModel", name := "read", desc := "()I" } : MethodName) prog_13_method_14_code 2 (Option.some FieldType.int) ∈ jm_wG := jm_mem5 (List.mem_of_getElem? (i := 60) rfl) rfl
theorem jw_1021 : Cond.methodLink "CodeCoverLaw" 35 ({ cls := "CodeCoverModel", name := "node", desc := "(II)I" } : MethodName) ∈ jm_wG := jm_mem5 (List.mem_of_getElem? (i := 61) rfl) rfl
theorem jw_1022 : Cond.instanceMethod ({ cls := "CodeCoverModel", name := "node", desc := "(II)I" } : MethodName) ∈ jm_wG := jm_mem5 (List.mem_of_getElem? (i := 62) rfl) rfl
theorem jw_1023 : Cond.selects "CodeCoverModel" ({ cls := "CodeCoverModel", name := "node", desc := "(II)I" } : MethodName) ({ cls := "CodeCoverModel", name := "node", desc := "(II)I" } : MethodName) ∈ jm_wG := jm_mem5 (List.mem_of_getElem? (i := 63) rfl) rfl
theorem jw_1024 : Cond.code ({ cls := "CodeCoverModel", name := "node", desc := "(II)I" } : MethodName) prog_13_method_18_code 3 (Option.some FieldType.int) ∈ jm_wG := jm_mem5 (List.mem_of_getElem? (i := 64) rfl) rfl
theorem jw_1025 : Cond.methodLink "CodeCoverModel" 175 ({ cls := "CodeCoverModel", name := "isNode", desc := "(I)Z" } : MethodName) ∈ jm_wG := jm_mem5 (List.mem_of_getElem? (i := 65) rfl) rfl
theorem jw_1027 : Cond.instanceMethod ({ cls := "CodeCoverModel", name := "isNode", desc := "(I)Z" } : MethodName) ∈ jm_wG := jm_mem5 (List.mem_of_getElem? (i := 67) rfl) rfl
theorem jw_1028 : Cond.code ({ cls := "CodeCoverModel", name := "isNode", desc := "(I)Z" } : MethodName) prog_13_method_17_code 2 (Option.some FieldType.boolean) ∈ jm_wG := jm_mem5 (List.mem_of_getElem? (i := 68) rfl) rfl
theorem jw_1029 : Cond.methodLink "CodeCoverModel" 178 ({ cls := "CodeCoverModel", name := "findNeeds", desc := "()V" } : MethodName) ∈ jm_wG := jm_mem5 (List.mem_of_getElem? (i := 69) rfl) rfl
theorem jw_1031 : Cond.instanceMethod ({ cls := "CodeCoverModel", name := "findNeeds", desc := "()V" } : MethodName) ∈ jm_wG := jm_mem5 (List.mem_of_getElem? (i := 71) rfl) rfl
theorem jw_1032 : Cond.code ({ cls := "CodeCoverModel", name := "findNeeds", desc := "()V" } : MethodName) prog_13_method_16_code 5 (Option.none : Option FieldType) ∈ jm_wG := jm_mem5 (List.mem_of_getElem? (i := 72) rfl) rfl
theorem jw_1033 : Cond.methodLink "CodeCoverModel" 172 ({ cls := "CodeCoverModel", name := "endOf", desc := "(I)I" } : MethodName) ∈ jm_wG := jm_mem5 (List.mem_of_getElem? (i := 73) rfl) rfl
theorem jw_1035 : Cond.instanceMethod ({ cls := "CodeCoverModel", name := "endOf", desc := "(I)I" } : MethodName) ∈ jm_wG := jm_mem5 (List.mem_of_getElem? (i := 75) rfl) rfl
theorem jw_1036 : Cond.code ({ cls := "CodeCoverModel", name := "endOf", desc := "(I)I" } : MethodName) prog_13_method_15_code 4 (Option.some FieldType.int) ∈ jm_wG := jm_mem5 (List.mem_of_getElem? (i := 76) rfl) rfl
theorem jw_1037 : Cond.methodLink "CodeCoverLaw" 39 ({ cls := "CodeCoverModel", name := "pattern", desc := "(II)I" } : MethodName) ∈ jm_wG := jm_mem5 (List.mem_of_getElem? (i := 77) rfl) rfl
theorem jw_1038 : Cond.instanceMethod ({ cls := "CodeCoverModel", name := "pattern", desc := "(II)I" } : MethodName) ∈ jm_wG := jm_mem5 (List.mem_of_getElem? (i := 78) rfl) rfl
theorem jw_1039 : Cond.selects "CodeCoverModel" ({ cls := "CodeCoverModel", name := "pattern", desc := "(II)I" } : MethodName) ({ cls := "CodeCoverModel", name := "pattern", desc := "(II)I" } : MethodName) ∈ jm_wG := jm_mem5 (List.mem_of_getElem? (i := 79) rfl) rfl
theorem jw_1040 : Cond.code ({ cls := "CodeCoverModel", name := "pattern", desc := "(II)I" } : MethodName) prog_13_method_21_code 5 (Option.some FieldType.int) ∈ jm_wG := jm_mem5 (List.mem_of_getElem? (i := 80) rfl) rfl
theorem jw_1041 : Cond.methodLink "CodeCoverModel" 181 ({ cls := "CodeCoverModel", name := "isHead", desc := "(I)Z" } : MethodName) ∈ jm_wG := jm_mem5 (List.mem_of_getElem? (i := 81) rfl) rfl
theorem jw_1042 : Cond.static ({ cls := "CodeCoverModel", name := "isHead", desc := "(I)Z" } : MethodName) ∈ jm_wG := jm_mem5 (List.mem_of_getElem? (i := 82) rfl) rfl
theorem jw_1043 : Cond.code ({ cls := "CodeCoverModel", name := "isHead", desc := "(I)Z" } : MethodName) prog_13_method_19_code 1 (Option.some FieldType.boolean) ∈ jm_wG := jm_mem5 (List.mem_of_getElem? (i := 83) rfl) rfl
theorem jw_1044 : Cond.constantLong "CodeCoverModel" 184 (20 : Int64) ∈ jm_wG := jm_mem5 (List.mem_of_getElem? (i := 84) rfl) rfl
theorem jw_1045 : Cond.methodLink "CodeCoverModel" 189 ({ cls := "CodeCoverModel", name := "headFor", desc := "(I)I" } : MethodName) ∈ jm_wG := jm_mem5 (List.mem_of_getElem? (i := 85) rfl) rfl
theorem jw_1046 : Cond.static ({ cls := "CodeCoverModel", name := "headFor", desc := "(I)I" } : MethodName) ∈ jm_wG := jm_mem5 (List.mem_of_getElem? (i := 86) rfl) rfl
theorem jw_1047 : Cond.code ({ cls := "CodeCoverModel", name := "headFor", desc := "(I)I" } : MethodName) prog_13_method_20_code 1 (Option.some FieldType.int) ∈ jm_wG := jm_mem5 (List.mem_of_getElem? (i := 87) rfl) rfl
theorem jw_1048 : Cond.methodLink "CodeCoverLaw" 43 ({ cls := "CodeCoverModel", name := "price", desc := "(II)I" } : MethodName) ∈ jm_wG := jm_mem5 (List.mem_of_getElem? (i := 88) rfl) rfl
theorem jw_1049 : Cond.instanceMethod ({ cls := "CodeCoverModel", name := "price", desc := "(II)I" } : MethodName) ∈ jm_wG := jm_mem5 (List.mem_of_getElem? (i := 89) rfl) rfl
theorem jw_1050 : Cond.selects "CodeCoverModel" ({ cls := "CodeCoverModel", name := "price", desc := "(II)I" } : MethodName) ({ cls := "CodeCoverModel", name := "price", desc := "(II)I" } : MethodName) ∈ jm_wG := jm_mem5 (List.mem_of_getElem? (i := 90) rfl) rfl
theorem jw_1051 : Cond.code ({ cls := "CodeCoverModel", name := "price", desc := "(II)I" } : MethodName) prog_13_method_22_code 4 (Option.some FieldType.int) ∈ jm_wG := jm_mem5 (List.mem_of_getElem? (i := 91) rfl) rfl
theorem jw_1052 : Cond.methodLink "CodeCoverLaw" 47 ({ cls := "CodeCoverModel", name := "clear", desc := "()I" } : MethodName) ∈ jm_wG := jm_mem5 (List.mem_of_getElem? (i := 92) rfl) rfl
theorem jw_1053 : Cond.instanceMethod ({ cls := "CodeCoverModel", name := "clear", desc := "()I" } : MethodName) ∈ jm_wG := jm_mem5 (List.mem_of_getElem? (i := 93) rfl) rfl
theorem jw_1054 : Cond.selects "CodeCoverModel" ({ cls := "CodeCoverModel", name := "clear", desc := "()I" } : MethodName) ({ cls := "CodeCoverModel", name := "clear", desc := "()I" } : MethodName) ∈ jm_wG := jm_mem5 (List.mem_of_getElem? (i := 94) rfl) rfl
theorem jw_1055 : Cond.code ({ cls := "CodeCoverModel", name := "clear", desc := "()I" } : MethodName) prog_13_method_23_code 2 (Option.some FieldType.int) ∈ jm_wG := jm_mem5 (List.mem_of_getElem? (i := 95) rfl) rfl
theorem jw_1056 : Cond.methodLink "CodeCoverLaw" 52 ({ cls := "CodeCoverModel", name := "cover", desc := "(III)I" } : MethodName) ∈ jm_wG := jm_mem5 (List.mem_of_getElem? (i := 96) rfl) rfl
theorem jw_1057 : Cond.instanceMethod ({ cls := "CodeCoverModel", name := "cover", desc := "(III)I" } : MethodName) ∈ jm_wG := jm_mem5 (List.mem_of_getElem? (i := 97) rfl) rfl
theorem jw_1058 : Cond.selects "CodeCoverModel" ({ cls := "CodeCoverModel", name := "cover", desc := "(III)I" } : MethodName) ({ cls := "CodeCoverModel", name := "cover", desc := "(III)I" } : MethodName) ∈ jm_wG := jm_mem5 (List.mem_of_getElem? (i := 98) rfl) rfl
theorem jw_1059 : Cond.code ({ cls := "CodeCoverModel", name := "cover", desc := "(III)I" } : MethodName) prog_13_method_27_code 5 (Option.some FieldType.int) ∈ jm_wG := jm_mem5 (List.mem_of_getElem? (i := 99) rfl) rfl
theorem jw_1060 : Cond.methodLink "CodeCoverModel" 200 ({ cls := "CodeCoverModel", name := "findCover", desc := "()V" } : MethodName) ∈ jm_wG := jm_mem5 (List.mem_of_getElem? (i := 100) rfl) rfl
theorem jw_1062 : Cond.instanceMethod ({ cls := "CodeCoverModel", name := "findCover", desc := "()V" } : MethodName) ∈ jm_wG := jm_mem5 (List.mem_of_getElem? (i := 102) rfl) rfl
theorem jw_1063 : Cond.code ({ cls := "CodeCoverModel", name := "findCover", desc := "()V" } : MethodName) prog_13_method_26_code 5 (Option.none : Option FieldType) ∈ jm_wG := jm_mem5 (List.mem_of_getElem? (i := 103) rfl) rfl
theorem jw_1064 : Cond.constant "CodeCoverModel" 192 (1000000 : Int32) ∈ jm_wG := jm_mem5 (List.mem_of_getElem? (i := 104) rfl) rfl
theorem jw_1065 : Cond.methodLink "CodeCoverModel" 193 ({ cls := "CodeCoverModel", name := "isChain", desc := "(I)Z" } : MethodName) ∈ jm_wG := jm_mem5 (List.mem_of_getElem? (i := 105) rfl) rfl
theorem jw_1067 : Cond.instanceMethod ({ cls := "CodeCoverModel", name := "isChain", desc := "(I)Z" } : MethodName) ∈ jm_wG := jm_mem5 (List.mem_of_getElem? (i := 107) rfl) rfl
theorem jw_1068 : Cond.code ({ cls := "CodeCoverModel", name := "isChain", desc := "(I)Z" } : MethodName) prog_13_method_24_code 2 (Option.some FieldType.boolean) ∈ jm_wG := jm_mem5 (List.mem_of_getElem? (i := 108) rfl) rfl
theorem jw_1069 : Cond.methodLink "CodeCoverModel" 196 ({ cls := "CodeCoverModel", name := "costAt", desc := "(II)I" } : MethodName) ∈ jm_wG := jm_mem5 (List.mem_of_getElem? (i := 109) rfl) rfl
theorem jw_1071 : Cond.instanceMethod ({ cls := "CodeCoverModel", name := "costAt", desc := "(II)I" } : MethodName) ∈ jm_wG := jm_mem5 (List.mem_of_getElem? (i := 111) rfl) rfl
theorem jw_1072 : Cond.code ({ cls := "CodeCoverModel", name := "costAt", desc := "(II)I" } : MethodName) prog_13_method_25_code 9 (Option.some FieldType.int) ∈ jm_wG := jm_mem5 (List.mem_of_getElem? (i := 112) rfl) rfl
theorem jw_1073 : Cond.methodLink "CodeCoverLaw" 56 ({ cls := "CodeCoverModel", name := "code", desc := "(II)I" } : MethodName) ∈ jm_wG := jm_mem5 (List.mem_of_getElem? (i := 113) rfl) rfl
theorem jw_1074 : Cond.instanceMethod ({ cls := "CodeCoverModel", name := "code", desc := "(II)I" } : MethodName) ∈ jm_wG := jm_mem5 (List.mem_of_getElem? (i := 114) rfl) rfl
theorem jw_1075 : Cond.selects "CodeCoverModel" ({ cls := "CodeCoverModel", name := "code", desc := "(II)I" } : MethodName) ({ cls := "CodeCoverModel", name := "code", desc := "(II)I" } : MethodName) ∈ jm_wG := jm_mem5 (List.mem_of_getElem? (i := 115) rfl) rfl
theorem jw_1076 : Cond.code ({ cls := "CodeCoverModel", name := "code", desc := "(II)I" } : MethodName) prog_13_method_31_code 3 (Option.some FieldType.int) ∈ jm_wG := jm_mem5 (List.mem_of_getElem? (i := 116) rfl) rfl
theorem jw_1077 : Cond.methodLink "CodeCoverModel" 217 ({ cls := "CodeCoverModel", name := "findCode", desc := "()V" } : MethodName) ∈ jm_wG := jm_mem5 (List.mem_of_getElem? (i := 117) rfl) rfl
theorem jw_1079 : Cond.instanceMethod ({ cls := "CodeCoverModel", name := "findCode", desc := "()V" } : MethodName) ∈ jm_wG := jm_mem5 (List.mem_of_getElem? (i := 119) rfl) rfl
theorem jw_1080 : Cond.code ({ cls := "CodeCoverModel", name := "findCode", desc := "()V" } : MethodName) prog_13_method_30_code 4 (Option.none : Option FieldType) ∈ jm_wG := jm_mem5 (List.mem_of_getElem? (i := 120) rfl) rfl
theorem jw_1081 : Cond.methodLink "CodeCoverModel" 206 ({ cls := "CodeCoverModel", name := "later", desc := "(III)V" } : MethodName) ∈ jm_wG := jm_mem5 (List.mem_of_getElem? (i := 121) rfl) rfl
theorem jw_1083 : Cond.instanceMethod ({ cls := "CodeCoverModel", name := "later", desc := "(III)V" } : MethodName) ∈ jm_wG := jm_mem5 (List.mem_of_getElem? (i := 123) rfl) rfl
theorem jw_1084 : Cond.code ({ cls := "CodeCoverModel", name := "later", desc := "(III)V" } : MethodName) prog_13_method_28_code 4 (Option.none : Option FieldType) ∈ jm_wG := jm_mem5 (List.mem_of_getElem? (i := 124) rfl) rfl
theorem jw_1085 : Cond.methodLink "CodeCoverModel" 213 ({ cls := "CodeCoverModel", name := "laterParts", desc := "(II)V" } : MethodName) ∈ jm_wG := jm_mem5 (List.mem_of_getElem? (i := 125) rfl) rfl
theorem jw_1087 : Cond.instanceMethod ({ cls := "CodeCoverModel", name := "laterParts", desc := "(II)V" } : MethodName) ∈ jm_wG := jm_mem5 (List.mem_of_getElem? (i := 127) rfl) rfl
theorem jw_1088 : Cond.code ({ cls := "CodeCoverModel", name := "laterParts", desc := "(II)V" } : MethodName) prog_13_method_29_code 9 (Option.none : Option FieldType) ∈ jm_wG := jm_mem5 (List.mem_of_getElem? (i := 128) rfl) rfl
theorem jw_1089 : Cond.methodLink "CodeCoverLaw" 60 ({ cls := "CodeCoverModel", name := "stores", desc := "(I)I" } : MethodName) ∈ jm_wG := jm_mem5 (List.mem_of_getElem? (i := 129) rfl) rfl
theorem jw_1090 : Cond.instanceMethod ({ cls := "CodeCoverModel", name := "stores", desc := "(I)I" } : MethodName) ∈ jm_wG := jm_mem5 (List.mem_of_getElem? (i := 130) rfl) rfl
theorem jw_1091 : Cond.selects "CodeCoverModel" ({ cls := "CodeCoverModel", name := "stores", desc := "(I)I" } : MethodName) ({ cls := "CodeCoverModel", name := "stores", desc := "(I)I" } : MethodName) ∈ jm_wG := jm_mem5 (List.mem_of_getElem? (i := 131) rfl) rfl
theorem jw_1092 : Cond.code ({ cls := "CodeCoverModel", name := "stores", desc := "(I)I" } : MethodName) prog_13_method_32_code 8 (Option.some FieldType.int) ∈ jm_wG := jm_mem5 (List.mem_of_getElem? (i := 132) rfl) rfl
theorem jw_1093 : Cond.constantLong "CodeCoverModel" 220 (2 : Int64) ∈ jm_wG := jm_mem5 (List.mem_of_getElem? (i := 133) rfl) rfl
theorem jw_1094 : Cond.constantLong "CodeCoverModel" 222 (8 : Int64) ∈ jm_wG := jm_mem5 (List.mem_of_getElem? (i := 134) rfl) rfl
theorem jw_1095 : Cond.methodLink "CodeCoverLaw" 65 ({ cls := "CodeCoverModel", name := "add", desc := "(IIIII)I" } : MethodName) ∈ jm_wG := jm_mem5 (List.mem_of_getElem? (i := 135) rfl) rfl
theorem jw_1096 : Cond.instanceMethod ({ cls := "CodeCoverModel", name := "add", desc := "(IIIII)I" } : MethodName) ∈ jm_wG := jm_mem5 (List.mem_of_getElem? (i := 136) rfl) rfl
theorem jw_1097 : Cond.selects "CodeCoverModel" ({ cls := "CodeCoverModel", name := "add", desc := "(IIIII)I" } : MethodName) ({ cls := "CodeCoverModel", name := "add", desc := "(IIIII)I" } : MethodName) ∈ jm_wG := jm_mem5 (List.mem_of_getElem? (i := 137) rfl) rfl
theorem jw_1098 : Cond.code ({ cls := "CodeCoverModel", name := "add", desc := "(IIIII)I" } : MethodName) prog_13_method_34_code 6 (Option.some FieldType.int) ∈ jm_wG := jm_mem5 (List.mem_of_getElem? (i := 138) rfl) rfl
theorem jw_1099 : Cond.constantLong "CodeCoverModel" 226 (6 : Int64) ∈ jm_wG := jm_mem5 (List.mem_of_getElem? (i := 139) rfl) rfl
theorem jw_1100 : Cond.methodLink "CodeCoverModel" 228 ({ cls := "CodeCoverModel", name := "isRegister", desc := "(I)Z" } : MethodName) ∈ jm_wG := jm_mem5 (List.mem_of_getElem? (i := 140) rfl) rfl
theorem jw_1101 : Cond.static ({ cls := "CodeCoverModel", name := "isRegister", desc := "(I)Z" } : MethodName) ∈ jm_wG := jm_mem5 (List.mem_of_getElem? (i := 141) rfl) rfl
theorem jw_1102 : Cond.code ({ cls := "CodeCoverModel", name := "isRegister", desc := "(I)Z" } : MethodName) prog_13_method_33_code 1 (Option.some FieldType.boolean) ∈ jm_wG := jm_mem5 (List.mem_of_getElem? (i := 142) rfl) rfl
theorem jw_1103 : Cond.constantLong "CodeCoverModel" 224 (5 : Int64) ∈ jm_wG := jm_mem5 (List.mem_of_getElem? (i := 143) rfl) rfl
theorem jw_1104 : Cond.methodLink "CodeCoverLaw" 69 ({ cls := "CodeCoverModel", name := "drop", desc := "()I" } : MethodName) ∈ jm_wG := jm_mem5 (List.mem_of_getElem? (i := 144) rfl) rfl
theorem jw_1105 : Cond.instanceMethod ({ cls := "CodeCoverModel", name := "drop", desc := "()I" } : MethodName) ∈ jm_wG := jm_mem5 (List.mem_of_getElem? (i := 145) rfl) rfl
theorem jw_1106 : Cond.selects "CodeCoverModel" ({ cls := "CodeCoverModel", name := "drop", desc := "()I" } : MethodName) ({ cls := "CodeCoverModel", name := "drop", desc := "()I" } : MethodName) ∈ jm_wG := jm_mem5 (List.mem_of_getElem? (i := 146) rfl) rfl
theorem jw_1107 : Cond.code ({ cls := "CodeCoverModel", name := "drop", desc := "()I" } : MethodName) prog_13_method_35_code 2 (Option.some FieldType.int) ∈ jm_wG := jm_mem5 (List.mem_of_getElem? (i := 147) rfl) rfl
theorem jw_1108 : Cond.methodLink "CodeCoverLaw" 73 ({ cls := "CodeCoverModel", name := "about", desc := "(II)I" } : MethodName) ∈ jm_wG := jm_mem5 (List.mem_of_getElem? (i := 148) rfl) rfl
theorem jw_1109 : Cond.instanceMethod ({ cls := "CodeCoverModel", name := "about", desc := "(II)I" } : MethodName) ∈ jm_wG := jm_mem5 (List.mem_of_getElem? (i := 149) rfl) rfl
theorem jw_1110 : Cond.selects "CodeCoverModel" ({ cls := "CodeCoverModel", name := "about", desc := "(II)I" } : MethodName) ({ cls := "CodeCoverModel", name := "about", desc := "(II)I" } : MethodName) ∈ jm_wG := jm_mem5 (List.mem_of_getElem? (i := 150) rfl) rfl
theorem jw_1111 : Cond.code ({ cls := "CodeCoverModel", name := "about", desc := "(II)I" } : MethodName) prog_13_method_40_code 3 (Option.some FieldType.int) ∈ jm_wG := jm_mem5 (List.mem_of_getElem? (i := 151) rfl) rfl
theorem jw_1112 : Cond.methodLink "CodeCoverModel" 241 ({ cls := "CodeCoverModel", name := "isInstruction", desc := "(I)Z" } : MethodName) ∈ jm_wG := jm_mem5 (List.mem_of_getElem? (i := 152) rfl) rfl
theorem jw_1114 : Cond.instanceMethod ({ cls := "CodeCoverModel", name := "isInstruction", desc := "(I)Z" } : MethodName) ∈ jm_wG := jm_mem5 (List.mem_of_getElem? (i := 154) rfl) rfl
theorem jw_1115 : Cond.code ({ cls := "CodeCoverModel", name := "isInstruction", desc := "(I)Z" } : MethodName) prog_13_method_36_code 2 (Option.some FieldType.boolean) ∈ jm_wG := jm_mem5 (List.mem_of_getElem? (i := 155) rfl) rfl
theorem jw_1116 : Cond.methodLink "CodeCoverModel" 244 ({ cls := "CodeCoverModel", name := "endAsWritten", desc := "()I" } : MethodName) ∈ jm_wG := jm_mem5 (List.mem_of_getElem? (i := 156) rfl) rfl
theorem jw_1118 : Cond.instanceMethod ({ cls := "CodeCoverModel", name := "endAsWritten", desc := "()I" } : MethodName) ∈ jm_wG := jm_mem5 (List.mem_of_getElem? (i := 158) rfl) rfl
theorem jw_1119 : Cond.code ({ cls := "CodeCoverModel", name := "endAsWritten", desc := "()I" } : MethodName) prog_13_method_39_code 3 (Option.some FieldType.int) ∈ jm_wG := jm_mem5 (List.mem_of_getElem? (i := 159) rfl) rfl
theorem jw_1120 : Cond.methodLink "CodeCoverModel" 238 ({ cls := "CodeCoverModel", name := "startOf", desc := "(I)I" } : MethodName) ∈ jm_wG := jm_mem5 (List.mem_of_getElem? (i := 160) rfl) rfl
theorem jw_1122 : Cond.instanceMethod ({ cls := "CodeCoverModel", name := "startOf", desc := "(I)I" } : MethodName) ∈ jm_wG := jm_mem5 (List.mem_of_getElem? (i := 162) rfl) rfl
theorem jw_1123 : Cond.code ({ cls := "CodeCoverModel", name := "startOf", desc := "(I)I" } : MethodName) prog_13_method_38_code 7 (Option.some FieldType.int) ∈ jm_wG := jm_mem5 (List.mem_of_getElem? (i := 163) rfl) rfl
theorem jw_1124 : Cond.methodLink "CodeCoverModel" 234 ({ cls := "CodeCoverModel", name := "uses", desc := "(II)Z" } : MethodName) ∈ jm_wG := jm_mem5 (List.mem_of_getElem? (i := 164) rfl) rfl
theorem jw_1126 : Cond.instanceMethod ({ cls := "CodeCoverModel", name := "uses", desc := "(II)Z" } : MethodName) ∈ jm_wG := jm_mem5 (List.mem_of_getElem? (i := 166) rfl) rfl
theorem jw_1127 : Cond.code ({ cls := "CodeCoverModel", name := "uses", desc := "(II)Z" } : MethodName) prog_13_method_37_code 3 (Option.some FieldType.boolean) ∈ jm_wG := jm_mem5 (List.mem_of_getElem? (i := 167) rfl) rfl
theorem jw_1128 : Cond.methodLink "CodeCoverLaw" 77 ({ cls := "CodeCoverModel", name := "end", desc := "()I" } : MethodName) ∈ jm_wG := jm_mem5 (List.mem_of_getElem? (i := 168) rfl) rfl
theorem jw_1129 : Cond.instanceMethod ({ cls := "CodeCoverModel", name := "end", desc := "()I" } : MethodName) ∈ jm_wG := jm_mem5 (List.mem_of_getElem? (i := 169) rfl) rfl
theorem jw_1130 : Cond.selects "CodeCoverModel" ({ cls := "CodeCoverModel", name := "end", desc := "()I" } : MethodName) ({ cls := "CodeCoverModel", name := "end", desc := "()I" } : MethodName) ∈ jm_wG := jm_mem5 (List.mem_of_getElem? (i := 170) rfl) rfl
theorem jw_1131 : Cond.code ({ cls := "CodeCoverModel", name := "end", desc := "()I" } : MethodName) prog_13_method_41_code 1 (Option.some FieldType.int) ∈ jm_wG := jm_mem5 (List.mem_of_getElem? (i := 171) rfl) rfl
theorem jw_1132 : Cond.methodLink "CodeCoverLaw" 81 ({ cls := "CodeCoverModel", name := "ahead", desc := "(II)I" } : MethodName) ∈ jm_wG := jm_mem5 (List.mem_of_getElem? (i := 172) rfl) rfl
theorem jw_1133 : Cond.instanceMethod ({ cls := "CodeCoverModel", name := "ahead", desc := "(II)I" } : MethodName) ∈ jm_wG := jm_mem5 (List.mem_of_getElem? (i := 173) rfl) rfl
theorem jw_1134 : Cond.selects "CodeCoverModel" ({ cls := "CodeCoverModel", name := "ahead", desc := "(II)I" } : MethodName) ({ cls := "CodeCoverModel", name := "ahead", desc := "(II)I" } : MethodName) ∈ jm_wG := jm_mem5 (List.mem_of_getElem? (i := 174) rfl) rfl
theorem jw_1135 : Cond.code ({ cls := "CodeCoverModel", name := "ahead", desc := "(II)I" } : MethodName) prog_13_method_43_code 3 (Option.some FieldType.int) ∈ jm_wG := jm_mem5 (List.mem_of_getElem? (i := 175) rfl) rfl
theorem jw_1136 : Cond.methodLink "CodeCoverModel" 248 ({ cls := "CodeCoverModel", name := "mustLead", desc := "(II)Z" } : MethodName) ∈ jm_wG := jm_mem5 (List.mem_of_getElem? (i := 176) rfl) rfl
theorem jw_1138 : Cond.instanceMethod ({ cls := "CodeCoverModel", name := "mustLead", desc := "(II)Z" } : MethodName) ∈ jm_wG := jm_mem5 (List.mem_of_getElem? (i := 178) rfl) rfl
theorem jw_1139 : Cond.code ({ cls := "CodeCoverModel", name := "mustLead", desc := "(II)Z" } : MethodName) prog_13_method_42_code 3 (Option.some FieldType.boolean) ∈ jm_wG := jm_mem5 (List.mem_of_getElem? (i := 179) rfl) rfl
theorem jw_1140 : Cond.methodLink "CodeCoverLaw" 85 ({ cls := "CodeCoverModel", name := "best", desc := "(I)I" } : MethodName) ∈ jm_wG := jm_mem5 (List.mem_of_getElem? (i := 180) rfl) rfl
theorem jw_1141 : Cond.instanceMethod ({ cls := "CodeCoverModel", name := "best", desc := "(I)I" } : MethodName) ∈ jm_wG := jm_mem5 (List.mem_of_getElem? (i := 181) rfl) rfl
theorem jw_1142 : Cond.selects "CodeCoverModel" ({ cls := "CodeCoverModel", name := "best", desc := "(I)I" } : MethodName) ({ cls := "CodeCoverModel", name := "best", desc := "(I)I" } : MethodName) ∈ jm_wG := jm_mem5 (List.mem_of_getElem? (i := 182) rfl) rfl
theorem jw_1143 : Cond.code ({ cls := "CodeCoverModel", name := "best", desc := "(I)I" } : MethodName) prog_13_method_47_code 2 (Option.some FieldType.int) ∈ jm_wG := jm_mem5 (List.mem_of_getElem? (i := 183) rfl) rfl
theorem jw_1144 : Cond.methodLink "CodeCoverModel" 260 ({ cls := "CodeCoverModel", name := "findBest", desc := "()V" } : MethodName) ∈ jm_wG := jm_mem5 (List.mem_of_getElem? (i := 184) rfl) rfl
theorem jw_1146 : Cond.instanceMethod ({ cls := "CodeCoverModel", name := "findBest", desc := "()V" } : MethodName) ∈ jm_wG := jm_mem5 (List.mem_of_getElem? (i := 186) rfl) rfl
theorem jw_1147 : Cond.code ({ cls := "CodeCoverModel", name := "findBest", desc := "()V" } : MethodName) prog_13_method_46_code 6 (Option.none : Option FieldType) ∈ jm_wG := jm_mem5 (List.mem_of_getElem? (i := 187) rfl) rfl
theorem jw_1148 : Cond.methodLink "CodeCoverModel" 254 ({ cls := "CodeCoverModel", name := "mayStand", desc := "(II)Z" } : MethodName) ∈ jm_wG := jm_mem5 (List.mem_of_getElem? (i := 188) rfl) rfl
theorem jw_1150 : Cond.instanceMethod ({ cls := "CodeCoverModel", name := "mayStand", desc := "(II)Z" } : MethodName) ∈ jm_wG := jm_mem5 (List.mem_of_getElem? (i := 190) rfl) rfl
theorem jw_1151 : Cond.code ({ cls := "CodeCoverModel", name := "mayStand", desc := "(II)Z" } : MethodName) prog_13_method_44_code 6 (Option.some FieldType.boolean) ∈ jm_wG := jm_mem5 (List.mem_of_getElem? (i := 191) rfl) rfl
theorem jw_1152 : Cond.methodLink "CodeCoverModel" 257 ({ cls := "CodeCoverModel", name := "leastEnd", desc := "(I)I" } : MethodName) ∈ jm_wG := jm_mem5 (List.mem_of_getElem? (i := 192) rfl) rfl
theorem jw_1154 : Cond.instanceMethod ({ cls := "CodeCoverModel", name := "leastEnd", desc := "(I)I" } : MethodName) ∈ jm_wG := jm_mem5 (List.mem_of_getElem? (i := 194) rfl) rfl
theorem jw_1155 : Cond.code ({ cls := "CodeCoverModel", name := "leastEnd", desc := "(I)I" } : MethodName) prog_13_method_45_code 8 (Option.some FieldType.int) ∈ jm_wG := jm_mem5 (List.mem_of_getElem? (i := 195) rfl) rfl
theorem jw_1156 : Cond.methodLink "CodeCoverLaw" 89 ({ cls := "CodeCoverModel", name := "sort", desc := "()I" } : MethodName) ∈ jm_wG := jm_mem5 (List.mem_of_getElem? (i := 196) rfl) rfl
theorem jw_1157 : Cond.instanceMethod ({ cls := "CodeCoverModel", name := "sort", desc := "()I" } : MethodName) ∈ jm_wG := jm_mem5 (List.mem_of_getElem? (i := 197) rfl) rfl
theorem jw_1158 : Cond.selects "CodeCoverModel" ({ cls := "CodeCoverModel", name := "sort", desc := "()I" } : MethodName) ({ cls := "CodeCoverModel", name := "sort", desc := "()I" } : MethodName) ∈ jm_wG := jm_mem5 (List.mem_of_getElem? (i := 198) rfl) rfl
theorem jw_1159 : Cond.code ({ cls := "CodeCoverModel", name := "sort", desc := "()I" } : MethodName) prog_13_method_50_code 2 (Option.some FieldType.int) ∈ jm_wG := jm_mem5 (List.mem_of_getElem? (i := 199) rfl) rfl
theorem jw_1160 : Cond.methodLink "CodeCoverModel" 263 ({ cls := "CodeCoverModel", name := "keepAside", desc := "()V" } : MethodName) ∈ jm_wG := jm_mem5 (List.mem_of_getElem? (i := 200) rfl) rfl
theorem jw_1162 : Cond.instanceMethod ({ cls := "CodeCoverModel", name := "keepAside", desc := "()V" } : MethodName) ∈ jm_wG := jm_mem5 (List.mem_of_getElem? (i := 202) rfl) rfl
theorem jw_1163 : Cond.code ({ cls := "CodeCoverModel", name := "keepAside", desc := "()V" } : MethodName) prog_13_method_49_code 2 (Option.none : Option FieldType) ∈ jm_wG := jm_mem5 (List.mem_of_getElem? (i := 203) rfl) rfl
theorem jw_1164 : Cond.methodLink "CodeCoverModel" 266 ({ cls := "CodeCoverModel", name := "lay", desc := "(II)V" } : MethodName) ∈ jm_wG := jm_mem5 (List.mem_of_getElem? (i := 204) rfl) rfl
theorem jw_1166 : Cond.instanceMethod ({ cls := "CodeCoverModel", name := "lay", desc := "(II)V" } : MethodName) ∈ jm_wG := jm_mem5 (List.mem_of_getElem? (i := 206) rfl) rfl
theorem jw_1167 : Cond.code ({ cls := "CodeCoverModel", name := "lay", desc := "(II)V" } : MethodName) prog_13_method_48_code 3 (Option.none : Option FieldType) ∈ jm_wG := jm_mem5 (List.mem_of_getElem? (i := 207) rfl) rfl
theorem jw_1168 : Cond.methodLink "CodeCoverLaw" 93 ({ cls := "CodeCoverModel", name := "keep", desc := "(I)I" } : MethodName) ∈ jm_wG := jm_mem5 (List.mem_of_getElem? (i := 208) rfl) rfl
theorem jw_1169 : Cond.instanceMethod ({ cls := "CodeCoverModel", name := "keep", desc := "(I)I" } : MethodName) ∈ jm_wG := jm_mem5 (List.mem_of_getElem? (i := 209) rfl) rfl
theorem jw_1170 : Cond.selects "CodeCoverModel" ({ cls := "CodeCoverModel", name := "keep", desc := "(I)I" } : MethodName) ({ cls := "CodeCoverModel", name := "keep", desc := "(I)I" } : MethodName) ∈ jm_wG := jm_mem5 (List.mem_of_getElem? (i := 210) rfl) rfl
theorem jw_1171 : Cond.code ({ cls := "CodeCoverModel", name := "keep", desc := "(I)I" } : MethodName) prog_13_method_51_code 3 (Option.some FieldType.int) ∈ jm_wG := jm_mem5 (List.mem_of_getElem? (i := 211) rfl) rfl
theorem jw_1172 : Cond.constantLong "CodeCoverModel" 269 (63 : Int64) ∈ jm_wG := jm_mem5 (List.mem_of_getElem? (i := 212) rfl) rfl
theorem jw_1173 : Cond.methodLink "CodeCoverLaw" 97 ({ cls := "CodeCoverModel", name := "weigh", desc := "(II)I" } : MethodName) ∈ jm_wG := jm_mem5 (List.mem_of_getElem? (i := 213) rfl) rfl
theorem jw_1174 : Cond.instanceMethod ({ cls := "CodeCoverModel", name := "weigh", desc := "(II)I" } : MethodName) ∈ jm_wG := jm_mem5 (List.mem_of_getElem? (i := 214) rfl) rfl
theorem jw_1175 : Cond.selects "CodeCoverModel" ({ cls := "CodeCoverModel", name := "weigh", desc := "(II)I" } : MethodName) ({ cls := "CodeCoverModel", name := "weigh", desc := "(II)I" } : MethodName) ∈ jm_wG := jm_mem5 (List.mem_of_getElem? (i := 215) rfl) rfl
theorem jw_1176 : Cond.code ({ cls := "CodeCoverModel", name := "weigh", desc := "(II)I" } : MethodName) prog_13_method_52_code 4 (Option.some FieldType.int) ∈ jm_wG := jm_mem5 (List.mem_of_getElem? (i := 216) rfl) rfl
theorem jw_1177 : Cond.constantLong "CodeCoverModel" 271 (100 : Int64) ∈ jm_wG := jm_mem5 (List.mem_of_getElem? (i := 217) rfl) rfl
theorem jw_1178 : Cond.methodLink "CodeCoverLaw" 101 ({ cls := "CodeCoverModel", name := "lives", desc := "(I)I" } : MethodName) ∈ jm_wG := jm_mem5 (List.mem_of_getElem? (i := 218) rfl) rfl
theorem jw_1179 : Cond.instanceMethod ({ cls := "CodeCoverModel", name := "lives", desc := "(I)I" } : MethodName) ∈ jm_wG := jm_mem5 (List.mem_of_getElem? (i := 219) rfl) rfl
theorem jw_1180 : Cond.selects "CodeCoverModel" ({ cls := "CodeCoverModel", name := "lives", desc := "(I)I" } : MethodName) ({ cls := "CodeCoverModel", name := "lives", desc := "(I)I" } : MethodName) ∈ jm_wG := jm_mem5 (List.mem_of_getElem? (i := 220) rfl) rfl
theorem jw_1181 : Cond.code ({ cls := "CodeCoverModel", name := "lives", desc := "(I)I" } : MethodName) prog_13_method_54_code 2 (Option.some FieldType.int) ∈ jm_wG := jm_mem5 (List.mem_of_getElem? (i := 221) rfl) rfl
theorem jw_1182 : Cond.methodLink "CodeCoverModel" 273 ({ cls := "CodeCoverModel", name := "livesTo", desc := "(I)I" } : MethodName) ∈ jm_wG := jm_mem5 (List.mem_of_getElem? (i := 222) rfl) rfl
theorem jw_1184 : Cond.instanceMethod ({ cls := "CodeCoverModel", name := "livesTo", desc := "(I)I" } : MethodName) ∈ jm_wG := jm_mem5 (List.mem_of_getElem? (i := 224) rfl) rfl
theorem jw_1185 : Cond.code ({ cls := "CodeCoverModel", name := "livesTo", desc := "(I)I" } : MethodName) prog_13_method_53_code 4 (Option.some FieldType.int) ∈ jm_wG := jm_mem5 (List.mem_of_getElem? (i := 225) rfl) rfl
theorem jw_1186 : Cond.methodLink "CodeCoverLaw" 105 ({ cls := "CodeCoverModel", name := "place", desc := "(I)I" } : MethodName) ∈ jm_wG := jm_mem5 (List.mem_of_getElem? (i := 226) rfl) rfl
theorem jw_1187 : Cond.instanceMethod ({ cls := "CodeCoverModel", name := "place", desc := "(I)I" } : MethodName) ∈ jm_wG := jm_mem5 (List.mem_of_getElem? (i := 227) rfl) rfl
theorem jw_1188 : Cond.selects "CodeCoverModel" ({ cls := "CodeCoverModel", name := "place", desc := "(I)I" } : MethodName) ({ cls := "CodeCoverModel", name := "place", desc := "(I)I" } : MethodName) ∈ jm_wG := jm_mem5 (List.mem_of_getElem? (i := 228) rfl) rfl
theorem jw_1189 : Cond.code ({ cls := "CodeCoverModel", name := "place", desc := "(I)I" } : MethodName) prog_13_method_56_code 2 (Option.some FieldType.int) ∈ jm_wG := jm_mem5 (List.mem_of_getElem? (i := 229) rfl) rfl
theorem jw_1190 : Cond.methodLink "CodeCoverModel" 276 ({ cls := "CodeCoverModel", name := "placeOf", desc := "(I)I" } : MethodName) ∈ jm_wG := jm_mem5 (List.mem_of_getElem? (i := 230) rfl) rfl
theorem jw_1192 : Cond.instanceMethod ({ cls := "CodeCoverModel", name := "placeOf", desc := "(I)I" } : MethodName) ∈ jm_wG := jm_mem5 (List.mem_of_getElem? (i := 232) rfl) rfl
theorem jw_1193 : Cond.code ({ cls := "CodeCoverModel", name := "placeOf", desc := "(I)I" } : MethodName) prog_13_method_55_code 4 (Option.some FieldType.int) ∈ jm_wG := jm_mem5 (List.mem_of_getElem? (i := 233) rfl) rfl
theorem jw_1194 : Cond.methodLink "CodeCoverLaw" 109 ({ cls := "CodeCoverModel", name := "crowd", desc := "()I" } : MethodName) ∈ jm_wG := jm_mem5 (List.mem_of_getElem? (i := 234) rfl) rfl
theorem jw_1195 : Cond.instanceMethod ({ cls := "CodeCoverModel", name := "crowd", desc := "()I" } : MethodName) ∈ jm_wG := jm_mem5 (List.mem_of_getElem? (i := 235) rfl) rfl
theorem jw_1196 : Cond.selects "CodeCoverModel" ({ cls := "CodeCoverModel", name := "crowd", desc := "()I" } : MethodName) ({ cls := "CodeCoverModel", name := "crowd", desc := "()I" } : MethodName) ∈ jm_wG := jm_mem5 (List.mem_of_getElem? (i := 236) rfl) rfl
theorem jw_1197 : Cond.code ({ cls := "CodeCoverModel", name := "crowd", desc := "()I" } : MethodName) prog_13_method_58_code 4 (Option.some FieldType.int) ∈ jm_wG := jm_mem5 (List.mem_of_getElem? (i := 237) rfl) rfl
theorem jw_1198 : Cond.methodLink "CodeCoverModel" 279 ({ cls := "CodeCoverModel", name := "count", desc := "(I)I" } : MethodName) ∈ jm_wG := jm_mem5 (List.mem_of_getElem? (i := 238) rfl) rfl
theorem jw_1199 : Cond.static ({ cls := "CodeCoverModel", name := "count", desc := "(I)I" } : MethodName) ∈ jm_wG := jm_mem5 (List.mem_of_getElem? (i := 239) rfl) rfl
theorem jw_1200 : Cond.code ({ cls := "CodeCoverModel", name := "count", desc := "(I)I" } : MethodName) prog_13_method_57_code 3 (Option.some FieldType.int) ∈ jm_wG := jm_mem6 (List.mem_of_getElem? (i := 0) rfl) rfl
theorem jw_1201 : Cond.methodLink "CodeCoverLaw" 113 ({ cls := "CodeCoverModel", name := "spilled", desc := "(II)I" } : MethodName) ∈ jm_wG := jm_mem6 (List.mem_of_getElem? (i := 1) rfl) rfl
theorem jw_1202 : Cond.instanceMethod ({ cls := "CodeCoverModel", name := "spilled", desc := "(II)I" } : MethodName) ∈ jm_wG := jm_mem6 (List.mem_of_getElem? (i := 2) rfl) rfl
theorem jw_1203 : Cond.selects "CodeCoverModel" ({ cls := "CodeCoverModel", name := "spilled", desc := "(II)I" } : MethodName) ({ cls := "CodeCoverModel", name := "spilled", desc := "(II)I" } : MethodName) ∈ jm_wG := jm_mem6 (List.mem_of_getElem? (i := 3) rfl) rfl
theorem jw_1204 : Cond.code ({ cls := "CodeCoverModel", name := "spilled", desc := "(II)I" } : MethodName) prog_13_method_61_code 6 (Option.some FieldType.int) ∈ jm_wG := jm_mem6 (List.mem_of_getElem? (i := 4) rfl) rfl
theorem jw_1205 : Cond.constantLong "CodeCoverModel" 282 (12 : Int64) ∈ jm_wG := jm_mem6 (List.mem_of_getElem? (i := 5) rfl) rfl
theorem jw_1206 : Cond.methodLink "CodeCoverModel" 284 ({ cls := "CodeCoverModel", name := "weightOf", desc := "(I)I" } : MethodName) ∈ jm_wG := jm_mem6 (List.mem_of_getElem? (i := 6) rfl) rfl
theorem jw_1208 : Cond.instanceMethod ({ cls := "CodeCoverModel", name := "weightOf", desc := "(I)I" } : MethodName) ∈ jm_wG := jm_mem6 (List.mem_of_getElem? (i := 8) rfl) rfl
theorem jw_1209 : Cond.code ({ cls := "CodeCoverModel", name := "weightOf", desc := "(I)I" } : MethodName) prog_13_method_59_code 4 (Option.some FieldType.int) ∈ jm_wG := jm_mem6 (List.mem_of_getElem? (i := 9) rfl) rfl
theorem jw_1210 : Cond.methodLink "CodeCoverModel" 287 ({ cls := "CodeCoverModel", name := "isEnough", desc := "(II)Z" } : MethodName) ∈ jm_wG := jm_mem6 (List.mem_of_getElem? (i := 10) rfl) rfl
theorem jw_1212 : Cond.instanceMethod ({ cls := "CodeCoverModel", name := "isEnough", desc := "(II)Z" } : MethodName) ∈ jm_wG := jm_mem6 (List.mem_of_getElem? (i := 12) rfl) rfl
theorem jw_1213 : Cond.code ({ cls := "CodeCoverModel", name := "isEnough", desc := "(II)Z" } : MethodName) prog_13_method_60_code 5 (Option.some FieldType.boolean) ∈ jm_wG := jm_mem6 (List.mem_of_getElem? (i := 13) rfl) rfl
theorem jw_1214 : Cond.methodLink "CodeCoverLaw" 117 ({ cls := "CodeCoverModel", name := "run", desc := "(III)I" } : MethodName) ∈ jm_wG := jm_mem6 (List.mem_of_getElem? (i := 14) rfl) rfl
theorem jw_1215 : Cond.instanceMethod ({ cls := "CodeCoverModel", name := "run", desc := "(III)I" } : MethodName) ∈ jm_wG := jm_mem6 (List.mem_of_getElem? (i := 15) rfl) rfl
theorem jw_1216 : Cond.selects "CodeCoverModel" ({ cls := "CodeCoverModel", name := "run", desc := "(III)I" } : MethodName) ({ cls := "CodeCoverModel", name := "run", desc := "(III)I" } : MethodName) ∈ jm_wG := jm_mem6 (List.mem_of_getElem? (i := 16) rfl) rfl
theorem jw_1217 : Cond.code ({ cls := "CodeCoverModel", name := "run", desc := "(III)I" } : MethodName) prog_13_method_66_code 4 (Option.some FieldType.int) ∈ jm_wG := jm_mem6 (List.mem_of_getElem? (i := 17) rfl) rfl
theorem jw_1218 : Cond.methodLink "CodeCoverModel" 299 ({ cls := "CodeCoverModel", name := "isWord", desc := "(I)Z" } : MethodName) ∈ jm_wG := jm_mem6 (List.mem_of_getElem? (i := 18) rfl) rfl
theorem jw_1219 : Cond.static ({ cls := "CodeCoverModel", name := "isWord", desc := "(I)Z" } : MethodName) ∈ jm_wG := jm_mem6 (List.mem_of_getElem? (i := 19) rfl) rfl
theorem jw_1220 : Cond.code ({ cls := "CodeCoverModel", name := "isWord", desc := "(I)Z" } : MethodName) prog_13_method_65_code 1 (Option.some FieldType.boolean) ∈ jm_wG := jm_mem6 (List.mem_of_getElem? (i := 20) rfl) rfl
theorem jw_1221 : Cond.constantLong "CodeCoverModel" 297 (15 : Int64) ∈ jm_wG := jm_mem6 (List.mem_of_getElem? (i := 21) rfl) rfl
theorem jw_1222 : Cond.methodLink "CodeCoverModel" 302 ({ cls := "CodeCoverModel", name := "runRow", desc := "(II)V" } : MethodName) ∈ jm_wG := jm_mem6 (List.mem_of_getElem? (i := 22) rfl) rfl
theorem jw_1224 : Cond.instanceMethod ({ cls := "CodeCoverModel", name := "runRow", desc := "(II)V" } : MethodName) ∈ jm_wG := jm_mem6 (List.mem_of_getElem? (i := 24) rfl) rfl
theorem jw_1225 : Cond.code ({ cls := "CodeCoverModel", name := "runRow", desc := "(II)V" } : MethodName) prog_13_method_64_code 4 (Option.none : Option FieldType) ∈ jm_wG := jm_mem6 (List.mem_of_getElem? (i := 25) rfl) rfl
theorem jw_1226 : Cond.methodLink "CodeCoverModel" 290 ({ cls := "CodeCoverModel", name := "begin", desc := "(II)V" } : MethodName) ∈ jm_wG := jm_mem6 (List.mem_of_getElem? (i := 26) rfl) rfl
theorem jw_1228 : Cond.instanceMethod ({ cls := "CodeCoverModel", name := "begin", desc := "(II)V" } : MethodName) ∈ jm_wG := jm_mem6 (List.mem_of_getElem? (i := 28) rfl) rfl
theorem jw_1229 : Cond.code ({ cls := "CodeCoverModel", name := "begin", desc := "(II)V" } : MethodName) prog_13_method_63_code 4 (Option.none : Option FieldType) ∈ jm_wG := jm_mem6 (List.mem_of_getElem? (i := 29) rfl) rfl
theorem jw_1230 : Cond.methodLink "CodeCoverModel" 293 ({ cls := "CodeCoverModel", name := "worked", desc := "(III)I" } : MethodName) ∈ jm_wG := jm_mem6 (List.mem_of_getElem? (i := 30) rfl) rfl
theorem jw_1231 : Cond.static ({ cls := "CodeCoverModel", name := "worked", desc := "(III)I" } : MethodName) ∈ jm_wG := jm_mem6 (List.mem_of_getElem? (i := 31) rfl) rfl
theorem jw_1232 : Cond.code ({ cls := "CodeCoverModel", name := "worked", desc := "(III)I" } : MethodName) prog_13_method_62_code 3 (Option.some FieldType.int) ∈ jm_wG := jm_mem6 (List.mem_of_getElem? (i := 32) rfl) rfl
theorem jw_1233 : Cond.methodLink "CodeCoverLaw" 121 ({ cls := "CodeCoverModel", name := "shortest", desc := "(II)I" } : MethodName) ∈ jm_wG := jm_mem6 (List.mem_of_getElem? (i := 33) rfl) rfl
theorem jw_1234 : Cond.instanceMethod ({ cls := "CodeCoverModel", name := "shortest", desc := "(II)I" } : MethodName) ∈ jm_wG := jm_mem6 (List.mem_of_getElem? (i := 34) rfl) rfl
theorem jw_1235 : Cond.selects "CodeCoverModel" ({ cls := "CodeCoverModel", name := "shortest", desc := "(II)I" } : MethodName) ({ cls := "CodeCoverModel", name := "shortest", desc := "(II)I" } : MethodName) ∈ jm_wG := jm_mem6 (List.mem_of_getElem? (i := 35) rfl) rfl
theorem jw_1236 : Cond.code ({ cls := "CodeCoverModel", name := "shortest", desc := "(II)I" } : MethodName) prog_13_method_70_code 5 (Option.some FieldType.int) ∈ jm_wG := jm_mem6 (List.mem_of_getElem? (i := 36) rfl) rfl
theorem jw_1237 : Cond.constantLong "CodeCoverModel" 309 (3 : Int64) ∈ jm_wG := jm_mem6 (List.mem_of_getElem? (i := 37) rfl) rfl
theorem jw_1238 : Cond.methodLink "CodeCoverModel" 311 ({ cls := "CodeCoverModel", name := "layShorts", desc := "()V" } : MethodName) ∈ jm_wG := jm_mem6 (List.mem_of_getElem? (i := 38) rfl) rfl
theorem jw_1240 : Cond.instanceMethod ({ cls := "CodeCoverModel", name := "layShorts", desc := "()V" } : MethodName) ∈ jm_wG := jm_mem6 (List.mem_of_getElem? (i := 40) rfl) rfl
theorem jw_1241 : Cond.code ({ cls := "CodeCoverModel", name := "layShorts", desc := "()V" } : MethodName) prog_13_method_67_code 6 (Option.none : Option FieldType) ∈ jm_wG := jm_mem6 (List.mem_of_getElem? (i := 41) rfl) rfl
theorem jw_1242 : Cond.methodLink "CodeCoverModel" 314 ({ cls := "CodeCoverModel", name := "findRow", desc := "(I)Z" } : MethodName) ∈ jm_wG := jm_mem6 (List.mem_of_getElem? (i := 42) rfl) rfl
theorem jw_1244 : Cond.instanceMethod ({ cls := "CodeCoverModel", name := "findRow", desc := "(I)Z" } : MethodName) ∈ jm_wG := jm_mem6 (List.mem_of_getElem? (i := 44) rfl) rfl
theorem jw_1245 : Cond.code ({ cls := "CodeCoverModel", name := "findRow", desc := "(I)Z" } : MethodName) prog_13_method_69_code 6 (Option.some FieldType.boolean) ∈ jm_wG := jm_mem6 (List.mem_of_getElem? (i := 45) rfl) rfl
theorem jw_1246 : Cond.constant "CodeCoverModel" 305 (3581577 : Int32) ∈ jm_wG := jm_mem6 (List.mem_of_getElem? (i := 46) rfl) rfl
theorem jw_1247 : Cond.methodLink "CodeCoverModel" 306 ({ cls := "CodeCoverModel", name := "isAlike", desc := "(I)Z" } : MethodName) ∈ jm_wG := jm_mem6 (List.mem_of_getElem? (i := 47) rfl) rfl
theorem jw_1249 : Cond.instanceMethod ({ cls := "CodeCoverModel", name := "isAlike", desc := "(I)Z" } : MethodName) ∈ jm_wG := jm_mem6 (List.mem_of_getElem? (i := 49) rfl) rfl
theorem jw_1250 : Cond.code ({ cls := "CodeCoverModel", name := "isAlike", desc := "(I)Z" } : MethodName) prog_13_method_68_code 5 (Option.some FieldType.boolean) ∈ jm_wG := jm_mem6 (List.mem_of_getElem? (i := 50) rfl) rfl
theorem jw_1251 : Cond.methodLink "CodeCoverLaw" 125 ({ cls := "CodeCoverModel", name := "thin", desc := "()I" } : MethodName) ∈ jm_wG := jm_mem6 (List.mem_of_getElem? (i := 51) rfl) rfl
theorem jw_1252 : Cond.instanceMethod ({ cls := "CodeCoverModel", name := "thin", desc := "()I" } : MethodName) ∈ jm_wG := jm_mem6 (List.mem_of_getElem? (i := 52) rfl) rfl
theorem jw_1253 : Cond.selects "CodeCoverModel" ({ cls := "CodeCoverModel", name := "thin", desc := "()I" } : MethodName) ({ cls := "CodeCoverModel", name := "thin", desc := "()I" } : MethodName) ∈ jm_wG := jm_mem6 (List.mem_of_getElem? (i := 53) rfl) rfl
theorem jw_1254 : Cond.code ({ cls := "CodeCoverModel", name := "thin", desc := "()I" } : MethodName) prog_13_method_71_code 4 (Option.some FieldType.int) ∈ jm_wG := jm_mem6 (List.mem_of_getElem? (i := 54) rfl) rfl
theorem jw_1255 : Cond.methodLink "CodeCoverLaw" 129 ({ cls := "CodeCoverModel", name := "told", desc := "(I)I" } : MethodName) ∈ jm_wG := jm_mem6 (List.mem_of_getElem? (i := 55) rfl) rfl
theorem jw_1256 : Cond.instanceMethod ({ cls := "CodeCoverModel", name := "told", desc := "(I)I" } : MethodName) ∈ jm_wG := jm_mem6 (List.mem_of_getElem? (i := 56) rfl) rfl
theorem jw_1257 : Cond.selects "CodeCoverModel" ({ cls := "CodeCoverModel", name := "told", desc := "(I)I" } : MethodName) ({ cls := "CodeCoverModel", name := "told", desc := "(I)I" } : MethodName) ∈ jm_wG := jm_mem6 (List.mem_of_getElem? (i := 57) rfl) rfl
theorem jw_1258 : Cond.code ({ cls := "CodeCoverModel", name := "told", desc := "(I)I" } : MethodName) prog_13_method_72_code 2 (Option.some FieldType.int) ∈ jm_wG := jm_mem6 (List.mem_of_getElem? (i := 58) rfl) rfl
end
section
/-! A MACHINE OF NUMBERS over the kit's worlds: values are integers (int, long) or the number of a cell (a reference); the cells stand in a list of shapes, what they hold in a function of cell and place. 'jm_G': the frame stands there and comes to its end with Q. 'jm_Call': a method's contract. -/
abbrev jm_V : Type := Int ⊕ (Int ⊕ Nat)
abbrev jm_I (x : Int) : jm_V := Sum.inl x
abbrev jm_L (x : Int) : jm_V := Sum.inr (Sum.inl x)
abbrev jm_R (r : Nat) : jm_V := Sum.inr (Sum.inr r)
/-- a cell's shape: an object (its class's number, the references in its places), an array (its kind, its length, the references in its places); kinds: 0 int, 1 long, 2 boolean, 3 int[], 4 long[] -/
abbrev jm_C : Type := (Nat × List (Option Nat)) ⊕ (Nat × Nat × List (Option Nat))
abbrev jm_H : Type := Nat → Nat → Int
abbrev jm_Env : Type := Launch × va_G × (Nat → ClassId)
/-- a method: its name, code, locals, answer, and how many cells and slots it makes -/
abbrev jm_M : Type := MethodName × ByteArray × Nat × Option FieldType × Nat × Nat
abbrev jm_Q : Type := Option jm_V → List jm_C → jm_H → Prop
def jm_w32 (x : Int) : Int := x.bmod 4294967296
def jm_w64 (x : Int) : Int := x.bmod 18446744073709551616
def jm_o32 (x : Int) : Prop := -2147483648 ≤ x ∧ x < 2147483648
def jm_o64 (x : Int) : Prop := -9223372036854775808 ≤ x ∧ x < 9223372036854775808
theorem jm_w32_o (x : Int) : jm_o32 (jm_w32 x) := by
  unfold jm_o32 jm_w32
  rw [Int.bmod_def]
  split <;> omega
theorem jm_w64_o (x : Int) : jm_o64 (jm_w64 x) := by
  unfold jm_o64 jm_w64
  rw [Int.bmod_def]
  split <;> omega
theorem jm_w32_id {x : Int} (h : jm_o32 x) : jm_w32 x = x := by
  unfold jm_o32 at h
  unfold jm_w32
  rw [Int.bmod_def]
  split <;> omega
theorem jm_w64_id {x : Int} (h : jm_o64 x) : jm_w64 x = x := by
  unfold jm_o64 at h
  unfold jm_w64
  rw [Int.bmod_def]
  split <;> omega
theorem jm_i32 (x : Int) : (Int32.ofInt x).toInt = jm_w32 x := Int32.toInt_ofInt
theorem jm_i64 (x : Int) : (Int64.ofInt x).toInt = jm_w64 x := Int64.toInt_ofInt
theorem jm_i32o {x : Int} (h : jm_o32 x) : (Int32.ofInt x).toInt = x := by rw [jm_i32, jm_w32_id h]
theorem jm_i64o {x : Int} (h : jm_o64 x) : (Int64.ofInt x).toInt = x := by rw [jm_i64, jm_w64_id h]
theorem jm_to32 (v : Int32) : jm_o32 v.toInt := ⟨by have := Int32.le_toInt v; omega, by have := Int32.toInt_lt v; omega⟩
theorem jm_to64 (v : Int64) : jm_o64 v.toInt := ⟨by have := Int64.le_toInt v; omega, by have := Int64.toInt_lt v; omega⟩
theorem jm_e32 {v : Int32} {x : Int} (h : v.toInt = x) : v = Int32.ofInt x := by rw [← h, Int32.ofInt_toInt]
theorem jm_e64 {v : Int64} {x : Int} (h : v.toInt = x) : v = Int64.ofInt x := by rw [← h, Int64.ofInt_toInt]
def jm_E (as : List Nat) (v : jm_V) : Value := match v with
  | .inl x => .int (Int32.ofInt x)
  | .inr (.inl x) => .long (Int64.ofInt x)
  | .inr (.inr r) => .ref (as.getD r 0)
def jm_ok (n : Nat) (v : jm_V) : Prop := match v with
  | .inl x => jm_o32 x
  | .inr (.inl x) => jm_o64 x
  | .inr (.inr r) => r < n
def jm_F (as : List Nat) (t : Nat) (x : Int) (r : Option Nat) : Value := if t = 1 then .long (Int64.ofInt x) else if t = 2 then va_rf (r.map fun i => as.getD i 0) else .int (Int32.ofInt x)
def jm_fs (as : List Nat) (ci : Nat) (rs : List (Option Nat)) (f : Nat → Int) : List Value := (List.range (jm_ft ci).length).map fun j => jm_F as ((jm_ft ci).getD j 0) (f j) (rs.getD j none)
def jm_arr (as : List Nat) (kd : Nat) (rs : List (Option Nat)) (f : Nat → Int) : (Nat → Int32) ⊕ (Nat → Int64) ⊕ (Nat → UInt32) ⊕ (Nat → UInt64) ⊕ (Nat → Option Nat) :=
  if kd = 1 then .inr (.inl fun j => Int64.ofInt (f j)) else if kd < 3 then .inl (fun j => Int32.ofInt (f j)) else .inr (.inr (.inr (.inr fun j => (rs.getD j none).map fun i => as.getD i 0)))
def jm_cell (kc : Nat → ClassId) (as : List Nat) (c : jm_C) (f : Nat → Int) : va_E := match c with
  | .inl (ci, rs) => .inr (ci, jm_fs as ci rs f)
  | .inr (kd, n, rs) => .inl (kc kd, n, jm_arr as kd rs f)
def jm_ws (kc : Nat → ClassId) (as : List Nat) (sh : List jm_C) (h : jm_H) : va_W := (List.range sh.length).map fun i => (as.getD i 0, jm_cell kc as (sh.getD i (.inl (0, []))) (h i))
def jm_cok (n : Nat) (c : jm_C) (f : Nat → Int) : Prop := match c with
  | .inl (ci, rs) => (∀ j, if (jm_ft ci).getD j 0 = 1 then jm_o64 (f j) else jm_o32 (f j)) ∧ ∀ j r, rs.getD j none = some r → r < n
  | .inr (kd, _, rs) => (∀ j, if kd = 1 then jm_o64 (f j) else jm_o32 (f j)) ∧ ∀ j r, rs.getD j none = some r → r < n
def jm_tys (kc : Nat → ClassId) : List (ClassId × FieldType) := [(kc 0, .int), (kc 1, .long), (kc 2, .boolean), (kc 3, .array .int), (kc 4, .array .long)]
/-- the world: the cells stand at 'as', they are in range, the heap holds them, they are apart -/
def jm_Wd (E : jm_Env) (as : List Nat) (sh : List jm_C) (h : jm_H) (A : Nat → Prop) (H : Heap) : Prop :=
  as.length = sh.length ∧ (∀ i c, sh[i]? = some c → jm_cok sh.length c (h i)) ∧ va_P E.2.1 jm_cl (jm_ws E.2.2 as sh h) H ∧ va_D A (jm_ws E.2.2 as sh h)
theorem jm_ws_len (kc : Nat → ClassId) (as : List Nat) (sh : List jm_C) (h : jm_H) : (jm_ws kc as sh h).length = sh.length := by simp [jm_ws]
theorem jm_ws_at {kc : Nat → ClassId} {as : List Nat} {sh : List jm_C} {h : jm_H} {i : Nat} {c : jm_C} (hi : sh[i]? = some c) : (jm_ws kc as sh h)[i]? = some (as.getD i 0, jm_cell kc as c (h i)) := by
  have hl : i < sh.length := (List.getElem?_eq_some_iff.mp hi).1
  have e1 : sh.getD i (.inl (0, [])) = c := by simp [List.getD, hi]
  unfold jm_ws
  rw [List.getElem?_map, List.getElem?_range hl, Option.map_some, e1]
/-- one place of one cell -/
def jm_up (h : jm_H) (r j : Nat) (x : Int) : jm_H := fun a b => if a = r then (if b = j then x else h a b) else h a b
/-- the row of one cell -/
def jm_row (h : jm_H) (r : Nat) (f : Nat → Int) : jm_H := fun a b => if a = r then f b else h a b
theorem jm_up_row (h : jm_H) (r j : Nat) (x : Int) : jm_up h r j x = jm_row h r (fun b => if b = j then x else h r b) := by
  funext a b
  unfold jm_up jm_row
  by_cases e : a = r
  · subst e; simp
  · simp [e]
/-- a cell set anew: its shape and its row -/
theorem jm_ws_set {kc : Nat → ClassId} {as : List Nat} {sh : List jm_C} {h : jm_H} {i : Nat} {c c' : jm_C} (f : Nat → Int) (hi : sh[i]? = some c) : (jm_ws kc as sh h).set i (as.getD i 0, jm_cell kc as c' f) = jm_ws kc as (sh.set i c') (jm_row h i f) := by
  have hl : i < sh.length := (List.getElem?_eq_some_iff.mp hi).1
  apply List.ext_getElem?
  intro k
  by_cases e : k = i
  · subst e
    have h2 : (sh.set k c')[k]? = some c' := List.getElem?_set_self hl
    rw [jm_ws_at h2, List.getElem?_set_self (by rw [jm_ws_len]; exact hl)]
    have e2 : jm_row h k f k = f := by
      funext b
      simp [jm_row]
    rw [e2]
  · rw [List.getElem?_set_ne (Ne.symm e)]
    cases hk : sh[k]? with
    | none =>
      have h1 : sh.length ≤ k := by simpa using hk
      rw [List.getElem?_eq_none (by rw [jm_ws_len]; exact h1), List.getElem?_eq_none (by rw [jm_ws_len, List.length_set]; exact h1)]
    | some d =>
      have h2 : (sh.set i c')[k]? = some d := by rw [List.getElem?_set_ne (Ne.symm e)]; exact hk
      rw [jm_ws_at h2, jm_ws_at hk]
      have e2 : jm_row h i f k = h k := by
        funext b
        simp [jm_row, e]
      rw [e2]
theorem jm_set_same {sh : List jm_C} {i : Nat} {c : jm_C} (hi : sh[i]? = some c) : sh.set i c = sh := by
  apply List.ext_getElem?
  intro k
  by_cases e : k = i
  · subst e
    rw [List.getElem?_set_self ((List.getElem?_eq_some_iff.mp hi).1), hi]
  · rw [List.getElem?_set_ne (Ne.symm e)]
/-- the locals: by their places -/
def jm_lv (as : List Nat) (ls : List (Option jm_V)) : List (Nat × Value) := (List.range ls.length).filterMap fun i => (ls.getD i none).map fun v => (i, jm_E as v)
def jm_two (v : Option jm_V) : Bool := match v with
  | some (.inr (.inl _)) => true
  | _ => false
/-- a local is set: a long in front of it goes, the second half of a long that is set too -/
def jm_st (ls : List (Option jm_V)) (i : Nat) (v : jm_V) : List (Option jm_V) :=
  let l1 := ls.set i (some v)
  let l2 := if jm_two (some v) then l1.set (i + 1) none else l1
  match i with
  | 0 => l2
  | k + 1 => if jm_two (ls.getD k none) then l2.set k none else l2
def jm_lok (n : Nat) (ls : List (Option jm_V)) : Prop := ∀ (i : Nat) (v : jm_V), ls[i]? = some (some v) → jm_ok n v
def jm_sok (n : Nat) (st : List jm_V) : Prop := ∀ v ∈ st, jm_ok n v
def jm_rm (M : jm_M) (d : Nat) : Room := { frames := d, cells := M.2.2.2.2.1, slots := M.2.2.2.2.2, locals := 40 * d }
def jm_wsM (M : jm_M) : List Cond := Cond.code M.1 M.2.1 M.2.2.1 M.2.2.2.1 :: jm_wG
/-- what else the tables say, that a call may move: the nest's words, the classes of the rows of rows -/
def jm_wN : List Cond := [Cond.methodLinkNest "CodeCover" 9 ⟨"CodeCover$Pad", "<init>", "()V"⟩ "CodeCover", Cond.methodLinkNest "CodeCover" 18 ⟨"CodeCover$Tree", "<init>", "()V"⟩ "CodeCover", Cond.methodLinkNest "CodeCover" 25 ⟨"CodeCover$Patterns", "<init>", "()V"⟩ "CodeCover", Cond.methodLinkNest "CodeCover" 41 ⟨"CodeCover$Row", "<init>", "()V"⟩ "CodeCover"]
def jm_K2 (U : State) : Prop := (∀ w ∈ jm_wN, va_Nw w U) ∧ ∀ ty, ty = FieldType.int ∨ ty = FieldType.long → (Cond.arrayOver (.array ty)).before #[] U = true
theorem jm_AO_vm {ty : FieldType} {a a' : Array Value} {u U : State} (e : u.vm = U.vm) (h : (Cond.arrayOver ty).before a u = true) : (Cond.arrayOver ty).before a' U = true := by
  simp only [Cond.before, Cond.holds, Cond.value] at h ⊢
  rw [← e]
  exact h
theorem jm_K2.warm {s U : State} (hW : s.WarmedH U.vm) (h : jm_K2 s) : jm_K2 U := by
  refine ⟨fun w hw => ?_, fun ty ht => ?_⟩
  · have hz := h.1 w hw
    simp only [jm_wN, List.mem_cons, List.not_mem_nil, or_false] at hw
    rcases hw with rfl | rfl | rfl | rfl <;> exact va_Nw.warmM hW hz
  · have h1 := h.2 ty ht
    rw [← Cond.arrayOver_setVmC hW.alike] at h1
    exact jm_AO_vm (rfl : (s.setVm U.vm).vm = U.vm) h1
theorem jm_K2.same {u U : State} (e : u.vm = U.vm) (h : jm_K2 u) : jm_K2 U := by
  refine ⟨fun w hw => ?_, fun ty ht => jm_AO_vm e (h.2 ty ht)⟩
  have hz := h.1 w hw
  simp only [jm_wN, List.mem_cons, List.not_mem_nil, or_false] at hw
  rcases hw with rfl | rfl | rfl | rfl <;> exact va_Nw.same rfl e hz
def jm_Cx (E : jm_Env) (M : jm_M) (p : Program) (s : State) (m : MethodId) (args : Array Value) (meth : Method) (c : Code) : Prop :=
  p.tables.exec = Jvm.exec ∧ c.code = M.2.1 ∧ c.maxLocals = M.2.2.1 ∧ s.vm.findClass M.1.cls = some m.cls ∧ (∀ w ∈ jm_wsM M, w.before args s = true) ∧ va_K E.2.1 jm_cl (jm_tys E.2.2) s ∧ meth.sig.returnType = M.2.2.2.1 ∧ meth.locks = false ∧ meth.name = M.1.name ∧ jm_K2 s
/-- where a method may come to an end: its answer, shapes, contents -/
def jm_end (E : jm_Env) (as0 : List Nat) (A : Nat → Prop) (Q : jm_Q) (oc : Outcome) (H : Heap) : Prop :=
  ∃ (r : Option jm_V) (sh : List jm_C) (h : jm_H) (x : List Nat), oc = .returned (r.map (jm_E (as0 ++ x))) ∧ Q r sh h ∧ (∀ v, r = some v → jm_ok sh.length v) ∧ jm_Wd E (as0 ++ x) sh h A H
def jm_Qc (E : jm_Env) (as0 : List Nat) (A : Nat → Prop) (Q : jm_Q) : Array Value → State → Outcome → State → Prop := fun _ st oc t => jm_end E as0 A Q oc t.heap ∧ va_F A st t
/-- the frame of method M, with room for d calls one in another, cu cells and su slots made so far, stands at pc; it comes to an end with Q -/
def jm_G (E : jm_Env) (M : jm_M) (d cu su pc : Nat) (ls : List (Option jm_V)) (st : List jm_V) (sh : List jm_C) (h : jm_H) (Q : jm_Q) : Prop :=
  ∀ (p : Program) (e : Env) (s : State) (m : MethodId) (args : Array Value) (below : List Frame) (meth : Method) (c : Code) (H : Heap) (locs : List Loc) (as0 as : List Nat) (A : Nat → Prop) (lsM : Array Slot),
    jm_Cx E M p s m args meth c → va_S A s.heap H locs → (∀ q, s.heap.size ≤ q → A q) → (∃ x, as = as0 ++ x) → jm_Wd E as sh h A H → lv_has lsM M.2.2.1 (jm_lv as ls) → jm_lok sh.length ls → jm_sok sh.length st → ls.length = M.2.2.1 →
    W p E.1 e (jm_rm M d) s m args below meth c H locs cu su (MQ below (jm_Qc E as0 A Q) args s M.2.2.2.2.1 M.2.2.2.2.2 A) (F0 m pc lsM (st.map (jm_E as)))
/-- the contract of method M -/
def jm_Call (E : jm_Env) (M : jm_M) (d : Nat) (av : List jm_V) (sh : List jm_C) (h : jm_H) (Q : jm_Q) : Prop :=
  ∀ (as : List Nat) (sz : Nat), Met E.1 M.1 (jm_wsM M) (jm_rm M d) (va_Pc (av.map (jm_E as)) (fun U => U.heap.size = sz ∧ jm_Wd E as sh h (fun _ => True) U.heap ∧ (∀ v ∈ av, jm_ok sh.length v) ∧ va_K E.2.1 jm_cl (jm_tys E.2.2) U ∧ jm_K2 U)) (jm_Qc E as (va_A (jm_ws E.2.2 as sh h) sz) Q) M.2.2.2.2.1 M.2.2.2.2.2 (va_A (jm_ws E.2.2 as sh h) sz)
theorem jm_end.mono {E : jm_Env} {as0 : List Nat} {A : Nat → Prop} {Q Q' : jm_Q} {oc : Outcome} {H : Heap} (hq : ∀ r sh h, Q r sh h → Q' r sh h) (k : jm_end E as0 A Q oc H) : jm_end E as0 A Q' oc H := by
  obtain ⟨r, sh, h, x, h1, h2, h3⟩ := k
  exact ⟨r, sh, h, x, h1, hq _ _ _ h2, h3⟩
theorem jm_G.mono {E : jm_Env} {M : jm_M} {d cu su pc : Nat} {ls : List (Option jm_V)} {st : List jm_V} {sh : List jm_C} {h : jm_H} {Q Q' : jm_Q} (hq : ∀ r sh h, Q r sh h → Q' r sh h) (k : jm_G E M d cu su pc ls st sh h Q) : jm_G E M d cu su pc ls st sh h Q' := by
  intro p e s m args below meth c H locs as0 as A lsM cx hS hA hx hw hl hlo hso hln T hT X
  obtain ⟨t, a, o, b1, b2, b3, b4⟩ := k p e s m args below meth c H locs as0 as A lsM cx hS hA hx hw hl hlo hso hln T hT X
  exact ⟨t, a, o, b1, b2, ⟨b3.1.mono hq, b3.2⟩, b4⟩
/-- a local's value, as the machine has it -/
theorem jm_lv_at {as : List Nat} {ls : List (Option jm_V)} {lsM : Array Slot} {n i : Nat} {v : jm_V} (h : lv_has lsM n (jm_lv as ls)) (hv : ls[i]? = some (some v)) : lsM[i]? = some (.val (jm_E as v)) := by
  have hl : i < ls.length := (List.getElem?_eq_some_iff.mp hv).1
  refine h.2.2 (i, jm_E as v) (List.mem_filterMap.mpr ⟨i, List.mem_range.mpr hl, ?_⟩)
  simp [List.getD, hv]
theorem jm_lv_mem {as : List Nat} {ls : List (Option jm_V)} {q : Nat × Value} (h : q ∈ jm_lv as ls) : ∃ v, ls[q.1]? = some (some v) ∧ q.2 = jm_E as v := by
  obtain ⟨i, hi, hq⟩ := List.mem_filterMap.mp h
  have hl := List.mem_range.mp hi
  cases hv : ls[i]? with
  | none => simp [List.getD, hv] at hq
  | some o =>
    cases o with
    | none => simp [List.getD, hv] at hq
    | some v =>
      simp [List.getD, hv] at hq
      subst hq
      exact ⟨v, hv, rfl⟩
theorem jm_lv_in {as : List Nat} {ls : List (Option jm_V)} {i : Nat} {v : jm_V} (hv : ls[i]? = some (some v)) : (i, jm_E as v) ∈ jm_lv as ls := by
  have hl : i < ls.length := (List.getElem?_eq_some_iff.mp hv).1
  refine List.mem_filterMap.mpr ⟨i, List.mem_range.mpr hl, ?_⟩
  simp [List.getD, hv]
theorem jm_set_get {l : List (Option jm_V)} {i j : Nat} {x : Option jm_V} {w : jm_V} (h : (l.set i x)[j]? = some (some w)) : (j = i ∧ x = some w) ∨ (j ≠ i ∧ l[j]? = some (some w)) := by
  rw [List.getElem?_set] at h
  by_cases e : i = j
  · subst e
    left
    rw [if_pos rfl] at h
    split at h
    · exact ⟨rfl, Option.some.inj h⟩
    · cases h
  · rw [if_neg e] at h
    exact Or.inr ⟨Ne.symm e, h⟩
theorem jm_st_get {ls : List (Option jm_V)} {i j : Nat} {v w : jm_V} (h : (jm_st ls i v)[j]? = some (some w)) : (j = i ∧ w = v) ∨ (j ≠ i ∧ ls[j]? = some (some w) ∧ ¬ (j + 1 = i ∧ jm_two (some w) = true) ∧ ¬ (jm_two (some v) = true ∧ j = i + 1)) := by
  have key : ∀ {j : Nat} {w : jm_V}, (if jm_two (some v) then (ls.set i (some v)).set (i + 1) none else ls.set i (some v))[j]? = some (some w) → (j = i ∧ w = v) ∨ (j ≠ i ∧ ls[j]? = some (some w) ∧ ¬ (jm_two (some v) = true ∧ j = i + 1)) := by
    intro j w h
    by_cases t : jm_two (some v) = true
    · rw [if_pos t] at h
      rcases jm_set_get h with ⟨-, b⟩ | ⟨a, b⟩
      · cases b
      · rcases jm_set_get b with ⟨a2, b2⟩ | ⟨a2, b2⟩
        · exact Or.inl ⟨a2, (Option.some.inj b2).symm⟩
        · exact Or.inr ⟨a2, b2, fun q => a q.2⟩
    · rw [if_neg t] at h
      rcases jm_set_get h with ⟨a2, b2⟩ | ⟨a2, b2⟩
      · exact Or.inl ⟨a2, (Option.some.inj b2).symm⟩
      · exact Or.inr ⟨a2, b2, fun q => t q.1⟩
  unfold jm_st at h
  cases i with
  | zero =>
    rcases key h with q | ⟨a, b, c⟩
    · exact Or.inl q
    · exact Or.inr ⟨a, b, fun q => by omega, c⟩
  | succ k =>
    simp only at h
    by_cases t : jm_two (ls.getD k none) = true
    · rw [if_pos t] at h
      rcases jm_set_get h with ⟨-, b⟩ | ⟨a0, b0⟩
      · cases b
      · rcases key b0 with q | ⟨a, b, c⟩
        · exact Or.inl q
        · exact Or.inr ⟨a, b, fun q => by omega, c⟩
    · rw [if_neg t] at h
      rcases key h with q | ⟨a, b, c⟩
      · exact Or.inl q
      · refine Or.inr ⟨a, b, fun q => ?_, c⟩
        have e : j = k := by omega
        subst e
        apply t
        simp only [List.getD, b, Option.getD_some]
        exact q.2
theorem jm_two_cat {as : List Nat} {v : jm_V} : (jm_E as v).category = (if jm_two (some v) then 2 else 1) := by
  rcases v with x | x | r <;> rfl
theorem jm_st_has1 {as : List Nat} {ls : List (Option jm_V)} {lsM : Array Slot} {n i : Nat} {v : jm_V} (hc : jm_two (some v) = false) (h : lv_has lsM n ((i, jm_E as v) :: (jm_lv as ls).filter (fun q => !(q.1 == i) && !(q.1 + 1 == i && q.2.category == 2)))) : lv_has lsM n (jm_lv as (jm_st ls i v)) := by
  refine ⟨h.1, h.2.1, fun q hq => ?_⟩
  obtain ⟨w, h1, h2⟩ := jm_lv_mem hq
  rcases jm_st_get h1 with ⟨e1, e2⟩ | ⟨e1, e2, e3, -⟩
  · refine h.2.2 q ?_
    rw [show q = (i, jm_E as v) from Prod.ext e1 (by rw [h2, e2])]
    exact List.mem_cons_self
  · refine h.2.2 q (List.mem_cons_of_mem _ (List.mem_filter.mpr ⟨?_, ?_⟩))
    · rw [show q = (q.1, jm_E as w) from Prod.ext rfl h2]
      exact jm_lv_in e2
    · rw [h2, jm_two_cat]
      by_cases t : jm_two (some w) = true
      · have : ¬ q.1 + 1 = i := fun z => e3 ⟨z, t⟩
        simp [e1, this]
      · simp [e1, t]
theorem jm_st_has2 {as : List Nat} {ls : List (Option jm_V)} {lsM : Array Slot} {n i : Nat} {v : jm_V} (hc : jm_two (some v) = true) (h : lv_has lsM n ((i, jm_E as v) :: (jm_lv as ls).filter (fun q => !(q.1 == i) && (!(q.1 == i + 1) && !(q.1 + 1 == i && q.2.category == 2))))) : lv_has lsM n (jm_lv as (jm_st ls i v)) := by
  refine ⟨h.1, h.2.1, fun q hq => ?_⟩
  obtain ⟨w, h1, h2⟩ := jm_lv_mem hq
  rcases jm_st_get h1 with ⟨e1, e2⟩ | ⟨e1, e2, e3, e4⟩
  · refine h.2.2 q ?_
    rw [show q = (i, jm_E as v) from Prod.ext e1 (by rw [h2, e2])]
    exact List.mem_cons_self
  · refine h.2.2 q (List.mem_cons_of_mem _ (List.mem_filter.mpr ⟨?_, ?_⟩))
    · rw [show q = (q.1, jm_E as w) from Prod.ext rfl h2]
      exact jm_lv_in e2
    · have e5 : ¬ q.1 = i + 1 := fun z => e4 ⟨hc, z⟩
      rw [h2, jm_two_cat]
      by_cases t : jm_two (some w) = true
      · have : ¬ q.1 + 1 = i := fun z => e3 ⟨z, t⟩
        simp [e1, e5, this]
      · simp [e1, e5, t]
theorem jm_st_len (ls : List (Option jm_V)) (i : Nat) (v : jm_V) : (jm_st ls i v).length = ls.length := by
  unfold jm_st
  cases i <;> simp only <;> split <;> (try split) <;> simp
theorem jm_st_ok {ls : List (Option jm_V)} {n i : Nat} {v : jm_V} (h : jm_lok n ls) (hv : jm_ok n v) : jm_lok n (jm_st ls i v) := by
  intro j w hw
  rcases jm_st_get hw with ⟨-, e⟩ | ⟨-, e, -⟩
  · rw [e]; exact hv
  · exact h j w e
end
section
theorem jm_sok_tail {n : Nat} {v : jm_V} {st : List jm_V} (h : jm_sok n (v :: st)) : jm_sok n st := fun w hw => h w (List.mem_cons_of_mem _ hw)
theorem jm_sok_head {n : Nat} {v : jm_V} {st : List jm_V} (h : jm_sok n (v :: st)) : jm_ok n v := h v List.mem_cons_self
theorem jm_sok_cons {n : Nat} {v : jm_V} {st : List jm_V} (hv : jm_ok n v) (h : jm_sok n st) : jm_sok n (v :: st) := by
  intro w hw
  rcases List.mem_cons.mp hw with rfl | q
  · exact hv
  · exact h w q
theorem jm_add32 (x y : Int) : Int32.ofInt x + Int32.ofInt y = Int32.ofInt (jm_w32 (x + y)) := by
  apply Int32.toInt_inj.mp
  rw [Int32.toInt_add, jm_i32, jm_i32, jm_i32, jm_w32_id (jm_w32_o _)]
  show (jm_w32 x + jm_w32 y).bmod 4294967296 = _
  unfold jm_w32
  simp
theorem jm_sub32 (x y : Int) : Int32.ofInt x - Int32.ofInt y = Int32.ofInt (jm_w32 (x - y)) := by
  apply Int32.toInt_inj.mp
  rw [Int32.toInt_sub, jm_i32, jm_i32, jm_i32, jm_w32_id (jm_w32_o _)]
  show (jm_w32 x - jm_w32 y).bmod 4294967296 = _
  unfold jm_w32
  simp
theorem jm_mul32 (x y : Int) : Int32.ofInt x * Int32.ofInt y = Int32.ofInt (jm_w32 (x * y)) := by
  apply Int32.toInt_inj.mp
  rw [Int32.toInt_mul, jm_i32, jm_i32, jm_i32, jm_w32_id (jm_w32_o _)]
  show (jm_w32 x * jm_w32 y).bmod 4294967296 = _
  unfold jm_w32
  simp
theorem jm_add64 (x y : Int) : Int64.ofInt x + Int64.ofInt y = Int64.ofInt (jm_w64 (x + y)) := by
  apply Int64.toInt_inj.mp
  rw [Int64.toInt_add, jm_i64, jm_i64, jm_i64, jm_w64_id (jm_w64_o _)]
  show (jm_w64 x + jm_w64 y).bmod 18446744073709551616 = _
  unfold jm_w64
  simp
theorem jm_sub64 (x y : Int) : Int64.ofInt x - Int64.ofInt y = Int64.ofInt (jm_w64 (x - y)) := by
  apply Int64.toInt_inj.mp
  rw [Int64.toInt_sub, jm_i64, jm_i64, jm_i64, jm_w64_id (jm_w64_o _)]
  show (jm_w64 x - jm_w64 y).bmod 18446744073709551616 = _
  unfold jm_w64
  simp
theorem jm_mul64 (x y : Int) : Int64.ofInt x * Int64.ofInt y = Int64.ofInt (jm_w64 (x * y)) := by
  apply Int64.toInt_inj.mp
  rw [Int64.toInt_mul, jm_i64, jm_i64, jm_i64, jm_w64_id (jm_w64_o _)]
  show (jm_w64 x * jm_w64 y).bmod 18446744073709551616 = _
  unfold jm_w64
  simp
def jv_and (x y : Int) : Int := (Int32.ofInt x &&& Int32.ofInt y).toInt
def jv_or (x y : Int) : Int := (Int32.ofInt x ||| Int32.ofInt y).toInt
def jv_xor (x y : Int) : Int := (Int32.ofInt x ^^^ Int32.ofInt y).toInt
def jv_div (x y : Int) : Int := (Int32.ofInt x / Int32.ofInt y).toInt
def jv_rem (x y : Int) : Int := (Int32.ofInt x - Int32.ofInt x / Int32.ofInt y * Int32.ofInt y).toInt
def jv_shl (x y : Int) : Int := (Int32.ofInt x <<< (Int32.ofInt y &&& 31)).toInt
def jv_shr (x y : Int) : Int := (Int32.ofInt x >>> (Int32.ofInt y &&& 31)).toInt
def jv_ushr (x y : Int) : Int := ((Int32.ofInt x).toUInt32 >>> ((Int32.ofInt y).toUInt32 &&& Int32.toUInt32 31)).toInt32.toInt
def jv_land (x y : Int) : Int := (Int64.ofInt x &&& Int64.ofInt y).toInt
def jv_lor (x y : Int) : Int := (Int64.ofInt x ||| Int64.ofInt y).toInt
def jv_lxor (x y : Int) : Int := (Int64.ofInt x ^^^ Int64.ofInt y).toInt
def jv_lshl (x y : Int) : Int := (Int64.ofInt x <<< ((Int32.ofInt y).toInt64 &&& 63)).toInt
def jv_lcmp (x y : Int) : Int := if y < x then 1 else if x = y then 0 else -1
theorem jm_lt32 {x y : Int} (hx : jm_o32 x) (hy : jm_o32 y) : Int32.ofInt x < Int32.ofInt y ↔ x < y := by rw [Int32.lt_iff_toInt_lt, jm_i32o hx, jm_i32o hy]
theorem jm_le32 {x y : Int} (hx : jm_o32 x) (hy : jm_o32 y) : Int32.ofInt x ≤ Int32.ofInt y ↔ x ≤ y := by rw [Int32.le_iff_toInt_le, jm_i32o hx, jm_i32o hy]
theorem jm_eq32 {x y : Int} (hx : jm_o32 x) (hy : jm_o32 y) : Int32.ofInt x = Int32.ofInt y ↔ x = y := by rw [← Int32.toInt_inj, jm_i32o hx, jm_i32o hy]
theorem jm_lt64 {x y : Int} (hx : jm_o64 x) (hy : jm_o64 y) : Int64.ofInt x < Int64.ofInt y ↔ x < y := by rw [Int64.lt_iff_toInt_lt, jm_i64o hx, jm_i64o hy]
theorem jm_eq64 {x y : Int} (hx : jm_o64 x) (hy : jm_o64 y) : Int64.ofInt x = Int64.ofInt y ↔ x = y := by rw [← Int64.toInt_inj, jm_i64o hx, jm_i64o hy]
theorem jm_o0 : jm_o32 0 := by unfold jm_o32; omega
theorem jm_z32 : (0 : Int32) = Int32.ofInt 0 := by decide
theorem jm_lcmp_eq {x y : Int} (hx : jm_o64 x) (hy : jm_o64 y) : lg_cmp (Int64.ofInt x) (Int64.ofInt y) = Int32.ofInt (jv_lcmp x y) := by
  unfold lg_cmp jv_lcmp
  simp only [gt_iff_lt, jm_lt64 hy hx, jm_eq64 hx hy]
  split
  · rfl
  · split <;> rfl
theorem jm_lcmp_o (x y : Int) : jm_o32 (jv_lcmp x y) := by
  unfold jv_lcmp jm_o32
  split
  · omega
  · split <;> omega
theorem jm_iconst {E : jm_Env} {M : jm_M} {d cu su pc : Nat} {ls : List (Option jm_V)} {st : List jm_V} {sh : List jm_C} {h : jm_H} {Q : jm_Q} {n : Int} (hd : decode M.2.1 pc = .ok (.iconst n, 1)) (hn : jm_o32 n)
    (k : jm_G E M d cu su (pc + 1) ls (jm_I n :: st) sh h Q) : jm_G E M d cu su pc ls st sh h Q := by
  intro p e s m args below meth c H locs as0 as A lsM cx hS hA hx hw hl hlo hso hln
  exact lv_iconst cx.1 cx.2.1 hd rfl (k p e s m args below meth c H locs as0 as A lsM cx hS hA hx hw hl hlo (jm_sok_cons hn hso) hln)
theorem jm_bipush {E : jm_Env} {M : jm_M} {d cu su pc : Nat} {ls : List (Option jm_V)} {st : List jm_V} {sh : List jm_C} {h : jm_H} {Q : jm_Q} {n : Int} (hd : decode M.2.1 pc = .ok (.bipush n, 2)) (hn : (Int8.ofInt n).toInt32 = Int32.ofInt n ∧ jm_o32 n)
    (k : jm_G E M d cu su (pc + 2) ls (jm_I n :: st) sh h Q) : jm_G E M d cu su pc ls st sh h Q := by
  intro p e s m args below meth c H locs as0 as A lsM cx hS hA hx hw hl hlo hso hln
  exact lv_bipush cx.1 cx.2.1 hd hn.1 (k p e s m args below meth c H locs as0 as A lsM cx hS hA hx hw hl hlo (jm_sok_cons hn.2 hso) hln)
theorem jm_sipush {E : jm_Env} {M : jm_M} {d cu su pc : Nat} {ls : List (Option jm_V)} {st : List jm_V} {sh : List jm_C} {h : jm_H} {Q : jm_Q} {n : Int} (hd : decode M.2.1 pc = .ok (.sipush n, 3)) (hn : (Int16.ofInt n).toInt32 = Int32.ofInt n ∧ jm_o32 n)
    (k : jm_G E M d cu su (pc + 3) ls (jm_I n :: st) sh h Q) : jm_G E M d cu su pc ls st sh h Q := by
  intro p e s m args below meth c H locs as0 as A lsM cx hS hA hx hw hl hlo hso hln
  exact lv_sipush cx.1 cx.2.1 hd hn.1 (k p e s m args below meth c H locs as0 as A lsM cx hS hA hx hw hl hlo (jm_sok_cons hn.2 hso) hln)
theorem jm_lconst {E : jm_Env} {M : jm_M} {d cu su pc : Nat} {ls : List (Option jm_V)} {st : List jm_V} {sh : List jm_C} {h : jm_H} {Q : jm_Q} {n : Fin 2} {x : Int} (hd : decode M.2.1 pc = .ok (.lconst n, 1)) (hn : Int64.ofNat (n : Nat) = Int64.ofInt x ∧ jm_o64 x)
    (k : jm_G E M d cu su (pc + 1) ls (jm_L x :: st) sh h Q) : jm_G E M d cu su pc ls st sh h Q := by
  intro p e s m args below meth c H locs as0 as A lsM cx hS hA hx hw hl hlo hso hln
  exact lv_lconst cx.1 cx.2.1 hd hn.1 (k p e s m args below meth c H locs as0 as A lsM cx hS hA hx hw hl hlo (jm_sok_cons hn.2 hso) hln)
theorem jm_ldc {E : jm_Env} {M : jm_M} {d cu su pc : Nat} {ls : List (Option jm_V)} {st : List jm_V} {sh : List jm_C} {h : jm_H} {Q : jm_Q} {i : Nat} {x : Int} (hd : decode M.2.1 pc = .ok (.ldc i, 2)) (hc : Cond.constant M.1.cls i (Int32.ofInt x) ∈ jm_wG) (hn : jm_o32 x)
    (k : jm_G E M d cu su (pc + 2) ls (jm_I x :: st) sh h Q) : jm_G E M d cu su pc ls st sh h Q := by
  intro p e s m args below meth c H locs as0 as A lsM cx hS hA hx hw hl hlo hso hln
  exact lv_ldc cx.1 cx.2.1 cx.2.2.2.1 (cx.2.2.2.2.1 _ (List.mem_cons_of_mem _ hc)) hd (k p e s m args below meth c H locs as0 as A lsM cx hS hA hx hw hl hlo (jm_sok_cons hn hso) hln)
theorem jm_ldcw {E : jm_Env} {M : jm_M} {d cu su pc : Nat} {ls : List (Option jm_V)} {st : List jm_V} {sh : List jm_C} {h : jm_H} {Q : jm_Q} {i : Nat} {x : Int} (hd : decode M.2.1 pc = .ok (.ldc_w i, 3)) (hc : Cond.constant M.1.cls i (Int32.ofInt x) ∈ jm_wG) (hn : jm_o32 x)
    (k : jm_G E M d cu su (pc + 3) ls (jm_I x :: st) sh h Q) : jm_G E M d cu su pc ls st sh h Q := by
  intro p e s m args below meth c H locs as0 as A lsM cx hS hA hx hw hl hlo hso hln
  exact lv_ldcw cx.1 cx.2.1 cx.2.2.2.1 (cx.2.2.2.2.1 _ (List.mem_cons_of_mem _ hc)) hd (k p e s m args below meth c H locs as0 as A lsM cx hS hA hx hw hl hlo (jm_sok_cons hn hso) hln)
theorem jm_ldc2 {E : jm_Env} {M : jm_M} {d cu su pc : Nat} {ls : List (Option jm_V)} {st : List jm_V} {sh : List jm_C} {h : jm_H} {Q : jm_Q} {i : Nat} {x : Int} (hd : decode M.2.1 pc = .ok (.ldc2_w i, 3)) (hc : Cond.constantLong M.1.cls i (Int64.ofInt x) ∈ jm_wG) (hn : jm_o64 x)
    (k : jm_G E M d cu su (pc + 3) ls (jm_L x :: st) sh h Q) : jm_G E M d cu su pc ls st sh h Q := by
  intro p e s m args below meth c H locs as0 as A lsM cx hS hA hx hw hl hlo hso hln
  exact lv_ldc2 cx.1 cx.2.1 cx.2.2.2.1 (cx.2.2.2.2.1 _ (List.mem_cons_of_mem _ hc)) hd (k p e s m args below meth c H locs as0 as A lsM cx hS hA hx hw hl hlo (jm_sok_cons hn hso) hln)
theorem jm_iload_n {E : jm_Env} {M : jm_M} {d cu su pc : Nat} {ls : List (Option jm_V)} {st : List jm_V} {sh : List jm_C} {h : jm_H} {Q : jm_Q} {n : Fin 4} {i : Nat} {x : Int} (hd : decode M.2.1 pc = .ok (.iload_n n, 1)) (hi : (n : Nat) = i) (hv : ls[i]? = some (some (jm_I x)))
    (k : jm_G E M d cu su (pc + 1) ls (jm_I x :: st) sh h Q) : jm_G E M d cu su pc ls st sh h Q := by
  intro p e s m args below meth c H locs as0 as A lsM cx hS hA hx hw hl hlo hso hln
  exact lv_iload_n cx.1 cx.2.1 hd hi (jm_lv_at hl hv) (k p e s m args below meth c H locs as0 as A lsM cx hS hA hx hw hl hlo (jm_sok_cons (hlo _ _ hv) hso) hln)
theorem jm_iload {E : jm_Env} {M : jm_M} {d cu su pc : Nat} {ls : List (Option jm_V)} {st : List jm_V} {sh : List jm_C} {h : jm_H} {Q : jm_Q} {i : Nat} {x : Int} (hd : decode M.2.1 pc = .ok (.iload i, 2)) (hv : ls[i]? = some (some (jm_I x)))
    (k : jm_G E M d cu su (pc + 2) ls (jm_I x :: st) sh h Q) : jm_G E M d cu su pc ls st sh h Q := by
  intro p e s m args below meth c H locs as0 as A lsM cx hS hA hx hw hl hlo hso hln
  exact lv_iload cx.1 cx.2.1 hd (jm_lv_at hl hv) (k p e s m args below meth c H locs as0 as A lsM cx hS hA hx hw hl hlo (jm_sok_cons (hlo _ _ hv) hso) hln)
theorem jm_istore_n {E : jm_Env} {M : jm_M} {d cu su pc : Nat} {ls : List (Option jm_V)} {st : List jm_V} {sh : List jm_C} {h : jm_H} {Q : jm_Q} {n : Fin 4} {i : Nat} {x : Int} (hd : decode M.2.1 pc = .ok (.istore_n n, 1)) (hi : (n : Nat) = i) (hn : i < M.2.2.1) {ls2 : List (Option jm_V)} (h2 : jm_st ls i (jm_I x) = ls2)
    (k : jm_G E M d cu su (pc + 1) ls2 st sh h Q) : jm_G E M d cu su pc ls (jm_I x :: st) sh h Q := by
  intro p e s m args below meth c H locs as0 as A lsM cx hS hA hx hw hl hlo hso hln
  subst h2
  exact lv_istore_n cx.1 cx.2.1 hd hi hl hn rfl (fun ls' hl' => k p e s m args below meth c H locs as0 as A ls' cx hS hA hx hw (jm_st_has1 rfl hl') (jm_st_ok hlo (jm_sok_head hso)) (jm_sok_tail hso) (by rw [jm_st_len]; exact hln))
theorem jm_istore {E : jm_Env} {M : jm_M} {d cu su pc : Nat} {ls : List (Option jm_V)} {st : List jm_V} {sh : List jm_C} {h : jm_H} {Q : jm_Q} {i : Nat} {x : Int} (hd : decode M.2.1 pc = .ok (.istore i, 2)) (hn : i < M.2.2.1) {ls2 : List (Option jm_V)} (h2 : jm_st ls i (jm_I x) = ls2)
    (k : jm_G E M d cu su (pc + 2) ls2 st sh h Q) : jm_G E M d cu su pc ls (jm_I x :: st) sh h Q := by
  intro p e s m args below meth c H locs as0 as A lsM cx hS hA hx hw hl hlo hso hln
  subst h2
  exact lv_istore cx.1 cx.2.1 hd hl hn rfl (fun ls' hl' => k p e s m args below meth c H locs as0 as A ls' cx hS hA hx hw (jm_st_has1 rfl hl') (jm_st_ok hlo (jm_sok_head hso)) (jm_sok_tail hso) (by rw [jm_st_len]; exact hln))
theorem jm_lload_n {E : jm_Env} {M : jm_M} {d cu su pc : Nat} {ls : List (Option jm_V)} {st : List jm_V} {sh : List jm_C} {h : jm_H} {Q : jm_Q} {n : Fin 4} {i : Nat} {x : Int} (hd : decode M.2.1 pc = .ok (.lload_n n, 1)) (hi : (n : Nat) = i) (hv : ls[i]? = some (some (jm_L x)))
    (k : jm_G E M d cu su (pc + 1) ls (jm_L x :: st) sh h Q) : jm_G E M d cu su pc ls st sh h Q := by
  intro p e s m args below meth c H locs as0 as A lsM cx hS hA hx hw hl hlo hso hln
  exact lv_lload_n cx.1 cx.2.1 hd hi (jm_lv_at hl hv) (k p e s m args below meth c H locs as0 as A lsM cx hS hA hx hw hl hlo (jm_sok_cons (hlo _ _ hv) hso) hln)
theorem jm_lload {E : jm_Env} {M : jm_M} {d cu su pc : Nat} {ls : List (Option jm_V)} {st : List jm_V} {sh : List jm_C} {h : jm_H} {Q : jm_Q} {i : Nat} {x : Int} (hd : decode M.2.1 pc = .ok (.lload i, 2)) (hv : ls[i]? = some (some (jm_L x)))
    (k : jm_G E M d cu su (pc + 2) ls (jm_L x :: st) sh h Q) : jm_G E M d cu su pc ls st sh h Q := by
  intro p e s m args below meth c H locs as0 as A lsM cx hS hA hx hw hl hlo hso hln
  exact lv_lload cx.1 cx.2.1 hd (jm_lv_at hl hv) (k p e s m args below meth c H locs as0 as A lsM cx hS hA hx hw hl hlo (jm_sok_cons (hlo _ _ hv) hso) hln)
theorem jm_lstore_n {E : jm_Env} {M : jm_M} {d cu su pc : Nat} {ls : List (Option jm_V)} {st : List jm_V} {sh : List jm_C} {h : jm_H} {Q : jm_Q} {n : Fin 4} {i : Nat} {x : Int} (hd : decode M.2.1 pc = .ok (.lstore_n n, 1)) (hi : (n : Nat) = i) (hn : i + 1 < M.2.2.1) {ls2 : List (Option jm_V)} (h2 : jm_st ls i (jm_L x) = ls2)
    (k : jm_G E M d cu su (pc + 1) ls2 st sh h Q) : jm_G E M d cu su pc ls (jm_L x :: st) sh h Q := by
  intro p e s m args below meth c H locs as0 as A lsM cx hS hA hx hw hl hlo hso hln
  subst h2
  exact lv_lstore_n cx.1 cx.2.1 hd hi hl hn rfl (fun ls' hl' => k p e s m args below meth c H locs as0 as A ls' cx hS hA hx hw (jm_st_has2 rfl hl') (jm_st_ok hlo (jm_sok_head hso)) (jm_sok_tail hso) (by rw [jm_st_len]; exact hln))
theorem jm_lstore {E : jm_Env} {M : jm_M} {d cu su pc : Nat} {ls : List (Option jm_V)} {st : List jm_V} {sh : List jm_C} {h : jm_H} {Q : jm_Q} {i : Nat} {x : Int} (hd : decode M.2.1 pc = .ok (.lstore i, 2)) (hn : i + 1 < M.2.2.1) {ls2 : List (Option jm_V)} (h2 : jm_st ls i (jm_L x) = ls2)
    (k : jm_G E M d cu su (pc + 2) ls2 st sh h Q) : jm_G E M d cu su pc ls (jm_L x :: st) sh h Q := by
  intro p e s m args below meth c H locs as0 as A lsM cx hS hA hx hw hl hlo hso hln
  subst h2
  exact lv_lstore cx.1 cx.2.1 hd hl hn rfl (fun ls' hl' => k p e s m args below meth c H locs as0 as A ls' cx hS hA hx hw (jm_st_has2 rfl hl') (jm_st_ok hlo (jm_sok_head hso)) (jm_sok_tail hso) (by rw [jm_st_len]; exact hln))
theorem jm_aload_n {E : jm_Env} {M : jm_M} {d cu su pc : Nat} {ls : List (Option jm_V)} {st : List jm_V} {sh : List jm_C} {h : jm_H} {Q : jm_Q} {n : Fin 4} {i : Nat} {x : Nat} (hd : decode M.2.1 pc = .ok (.aload_n n, 1)) (hi : (n : Nat) = i) (hv : ls[i]? = some (some (jm_R x)))
    (k : jm_G E M d cu su (pc + 1) ls (jm_R x :: st) sh h Q) : jm_G E M d cu su pc ls st sh h Q := by
  intro p e s m args below meth c H locs as0 as A lsM cx hS hA hx hw hl hlo hso hln
  exact lv_aload_n cx.1 cx.2.1 hd hi (jm_lv_at hl hv) (k p e s m args below meth c H locs as0 as A lsM cx hS hA hx hw hl hlo (jm_sok_cons (hlo _ _ hv) hso) hln)
theorem jm_aload {E : jm_Env} {M : jm_M} {d cu su pc : Nat} {ls : List (Option jm_V)} {st : List jm_V} {sh : List jm_C} {h : jm_H} {Q : jm_Q} {i : Nat} {x : Nat} (hd : decode M.2.1 pc = .ok (.aload i, 2)) (hv : ls[i]? = some (some (jm_R x)))
    (k : jm_G E M d cu su (pc + 2) ls (jm_R x :: st) sh h Q) : jm_G E M d cu su pc ls st sh h Q := by
  intro p e s m args below meth c H locs as0 as A lsM cx hS hA hx hw hl hlo hso hln
  exact lv_aload cx.1 cx.2.1 hd (jm_lv_at hl hv) (k p e s m args below meth c H locs as0 as A lsM cx hS hA hx hw hl hlo (jm_sok_cons (hlo _ _ hv) hso) hln)
theorem jm_astore_n {E : jm_Env} {M : jm_M} {d cu su pc : Nat} {ls : List (Option jm_V)} {st : List jm_V} {sh : List jm_C} {h : jm_H} {Q : jm_Q} {n : Fin 4} {i : Nat} {x : Nat} (hd : decode M.2.1 pc = .ok (.astore_n n, 1)) (hi : (n : Nat) = i) (hn : i < M.2.2.1) {ls2 : List (Option jm_V)} (h2 : jm_st ls i (jm_R x) = ls2)
    (k : jm_G E M d cu su (pc + 1) ls2 st sh h Q) : jm_G E M d cu su pc ls (jm_R x :: st) sh h Q := by
  intro p e s m args below meth c H locs as0 as A lsM cx hS hA hx hw hl hlo hso hln
  subst h2
  exact lv_astore_n cx.1 cx.2.1 hd hi hl hn rfl (fun ls' hl' => k p e s m args below meth c H locs as0 as A ls' cx hS hA hx hw (jm_st_has1 rfl hl') (jm_st_ok hlo (jm_sok_head hso)) (jm_sok_tail hso) (by rw [jm_st_len]; exact hln))
theorem jm_astore {E : jm_Env} {M : jm_M} {d cu su pc : Nat} {ls : List (Option jm_V)} {st : List jm_V} {sh : List jm_C} {h : jm_H} {Q : jm_Q} {i : Nat} {x : Nat} (hd : decode M.2.1 pc = .ok (.astore i, 2)) (hn : i < M.2.2.1) {ls2 : List (Option jm_V)} (h2 : jm_st ls i (jm_R x) = ls2)
    (k : jm_G E M d cu su (pc + 2) ls2 st sh h Q) : jm_G E M d cu su pc ls (jm_R x :: st) sh h Q := by
  intro p e s m args below meth c H locs as0 as A lsM cx hS hA hx hw hl hlo hso hln
  subst h2
  exact lv_astore cx.1 cx.2.1 hd hl hn rfl (fun ls' hl' => k p e s m args below meth c H locs as0 as A ls' cx hS hA hx hw (jm_st_has1 rfl hl') (jm_st_ok hlo (jm_sok_head hso)) (jm_sok_tail hso) (by rw [jm_st_len]; exact hln))
theorem jm_iinc {E : jm_Env} {M : jm_M} {d cu su pc : Nat} {ls : List (Option jm_V)} {st : List jm_V} {sh : List jm_C} {h : jm_H} {Q : jm_Q} {i : Nat} {n x : Int} (hd : decode M.2.1 pc = .ok (.iinc i n, 3)) (hv : ls[i]? = some (some (jm_I x))) (hn : i < M.2.2.1) {ls2 : List (Option jm_V)} (h2 : jm_st ls i (jm_I (jm_w32 (x + n))) = ls2)
    (k : jm_G E M d cu su (pc + 3) ls2 st sh h Q) : jm_G E M d cu su pc ls st sh h Q := by
  intro p e s m args below meth c H locs as0 as A lsM cx hS hA hx hw hl hlo hso hln
  subst h2
  obtain ⟨j, hj⟩ := List.getElem?_of_mem (jm_lv_in (as := as) hv)
  exact lv_iinc cx.1 cx.2.1 hd hl hj (jm_add32 x n) hn rfl (fun ls' hl' => k p e s m args below meth c H locs as0 as A ls' cx hS hA hx hw (jm_st_has1 rfl hl') (jm_st_ok hlo (jm_w32_o _)) hso (by rw [jm_st_len]; exact hln))
theorem jm_iadd {E : jm_Env} {M : jm_M} {d cu su pc : Nat} {ls : List (Option jm_V)} {st : List jm_V} {sh : List jm_C} {h : jm_H} {Q : jm_Q} {x y : Int} (hd : decode M.2.1 pc = .ok (.iadd, 1))
    (k : jm_G E M d cu su (pc + 1) ls (jm_I (jm_w32 (x + y)) :: st) sh h Q) : jm_G E M d cu su pc ls (jm_I y :: jm_I x :: st) sh h Q := by
  intro p e s m args below meth c H locs as0 as A lsM cx hS hA hx hw hl hlo hso hln
  refine lv_iadd cx.1 cx.2.1 hd ?_
  rw [jm_add32 x y]
  exact k p e s m args below meth c H locs as0 as A lsM cx hS hA hx hw hl hlo (jm_sok_cons (jm_w32_o _) (jm_sok_tail (jm_sok_tail hso))) hln
theorem jm_isub {E : jm_Env} {M : jm_M} {d cu su pc : Nat} {ls : List (Option jm_V)} {st : List jm_V} {sh : List jm_C} {h : jm_H} {Q : jm_Q} {x y : Int} (hd : decode M.2.1 pc = .ok (.isub, 1))
    (k : jm_G E M d cu su (pc + 1) ls (jm_I (jm_w32 (x - y)) :: st) sh h Q) : jm_G E M d cu su pc ls (jm_I y :: jm_I x :: st) sh h Q := by
  intro p e s m args below meth c H locs as0 as A lsM cx hS hA hx hw hl hlo hso hln
  refine lv_isub cx.1 cx.2.1 hd ?_
  rw [jm_sub32 x y]
  exact k p e s m args below meth c H locs as0 as A lsM cx hS hA hx hw hl hlo (jm_sok_cons (jm_w32_o _) (jm_sok_tail (jm_sok_tail hso))) hln
theorem jm_imul {E : jm_Env} {M : jm_M} {d cu su pc : Nat} {ls : List (Option jm_V)} {st : List jm_V} {sh : List jm_C} {h : jm_H} {Q : jm_Q} {x y : Int} (hd : decode M.2.1 pc = .ok (.imul, 1))
    (k : jm_G E M d cu su (pc + 1) ls (jm_I (jm_w32 (x * y)) :: st) sh h Q) : jm_G E M d cu su pc ls (jm_I y :: jm_I x :: st) sh h Q := by
  intro p e s m args below meth c H locs as0 as A lsM cx hS hA hx hw hl hlo hso hln
  refine lv_imul cx.1 cx.2.1 hd ?_
  rw [jm_mul32 x y]
  exact k p e s m args below meth c H locs as0 as A lsM cx hS hA hx hw hl hlo (jm_sok_cons (jm_w32_o _) (jm_sok_tail (jm_sok_tail hso))) hln
theorem jm_ladd {E : jm_Env} {M : jm_M} {d cu su pc : Nat} {ls : List (Option jm_V)} {st : List jm_V} {sh : List jm_C} {h : jm_H} {Q : jm_Q} {x y : Int} (hd : decode M.2.1 pc = .ok (.ladd, 1))
    (k : jm_G E M d cu su (pc + 1) ls (jm_L (jm_w64 (x + y)) :: st) sh h Q) : jm_G E M d cu su pc ls (jm_L y :: jm_L x :: st) sh h Q := by
  intro p e s m args below meth c H locs as0 as A lsM cx hS hA hx hw hl hlo hso hln
  refine lv_ladd cx.1 cx.2.1 hd ?_
  rw [jm_add64 x y]
  exact k p e s m args below meth c H locs as0 as A lsM cx hS hA hx hw hl hlo (jm_sok_cons (jm_w64_o _) (jm_sok_tail (jm_sok_tail hso))) hln
theorem jm_lsub {E : jm_Env} {M : jm_M} {d cu su pc : Nat} {ls : List (Option jm_V)} {st : List jm_V} {sh : List jm_C} {h : jm_H} {Q : jm_Q} {x y : Int} (hd : decode M.2.1 pc = .ok (.lsub, 1))
    (k : jm_G E M d cu su (pc + 1) ls (jm_L (jm_w64 (x - y)) :: st) sh h Q) : jm_G E M d cu su pc ls (jm_L y :: jm_L x :: st) sh h Q := by
  intro p e s m args below meth c H locs as0 as A lsM cx hS hA hx hw hl hlo hso hln
  refine lv_lsub cx.1 cx.2.1 hd ?_
  rw [jm_sub64 x y]
  exact k p e s m args below meth c H locs as0 as A lsM cx hS hA hx hw hl hlo (jm_sok_cons (jm_w64_o _) (jm_sok_tail (jm_sok_tail hso))) hln
theorem jm_lmul {E : jm_Env} {M : jm_M} {d cu su pc : Nat} {ls : List (Option jm_V)} {st : List jm_V} {sh : List jm_C} {h : jm_H} {Q : jm_Q} {x y : Int} (hd : decode M.2.1 pc = .ok (.lmul, 1))
    (k : jm_G E M d cu su (pc + 1) ls (jm_L (jm_w64 (x * y)) :: st) sh h Q) : jm_G E M d cu su pc ls (jm_L y :: jm_L x :: st) sh h Q := by
  intro p e s m args below meth c H locs as0 as A lsM cx hS hA hx hw hl hlo hso hln
  refine lv_lmul cx.1 cx.2.1 hd ?_
  rw [jm_mul64 x y]
  exact k p e s m args below meth c H locs as0 as A lsM cx hS hA hx hw hl hlo (jm_sok_cons (jm_w64_o _) (jm_sok_tail (jm_sok_tail hso))) hln
theorem jm_iand {E : jm_Env} {M : jm_M} {d cu su pc : Nat} {ls : List (Option jm_V)} {st : List jm_V} {sh : List jm_C} {h : jm_H} {Q : jm_Q} {x y : Int} (hd : decode M.2.1 pc = .ok (.iand, 1))
    (k : jm_G E M d cu su (pc + 1) ls (jm_I (jv_and x y) :: st) sh h Q) : jm_G E M d cu su pc ls (jm_I y :: jm_I x :: st) sh h Q := by
  intro p e s m args below meth c H locs as0 as A lsM cx hS hA hx hw hl hlo hso hln
  refine lv_iand cx.1 cx.2.1 hd ?_
  rw [jm_e32 (x := jv_and x y) rfl]
  exact k p e s m args below meth c H locs as0 as A lsM cx hS hA hx hw hl hlo (jm_sok_cons (jm_to32 _) (jm_sok_tail (jm_sok_tail hso))) hln
theorem jm_ior {E : jm_Env} {M : jm_M} {d cu su pc : Nat} {ls : List (Option jm_V)} {st : List jm_V} {sh : List jm_C} {h : jm_H} {Q : jm_Q} {x y : Int} (hd : decode M.2.1 pc = .ok (.ior, 1))
    (k : jm_G E M d cu su (pc + 1) ls (jm_I (jv_or x y) :: st) sh h Q) : jm_G E M d cu su pc ls (jm_I y :: jm_I x :: st) sh h Q := by
  intro p e s m args below meth c H locs as0 as A lsM cx hS hA hx hw hl hlo hso hln
  refine lv_ior cx.1 cx.2.1 hd ?_
  rw [jm_e32 (x := jv_or x y) rfl]
  exact k p e s m args below meth c H locs as0 as A lsM cx hS hA hx hw hl hlo (jm_sok_cons (jm_to32 _) (jm_sok_tail (jm_sok_tail hso))) hln
theorem jm_ixor {E : jm_Env} {M : jm_M} {d cu su pc : Nat} {ls : List (Option jm_V)} {st : List jm_V} {sh : List jm_C} {h : jm_H} {Q : jm_Q} {x y : Int} (hd : decode M.2.1 pc = .ok (.ixor, 1))
    (k : jm_G E M d cu su (pc + 1) ls (jm_I (jv_xor x y) :: st) sh h Q) : jm_G E M d cu su pc ls (jm_I y :: jm_I x :: st) sh h Q := by
  intro p e s m args below meth c H locs as0 as A lsM cx hS hA hx hw hl hlo hso hln
  refine lv_ixor cx.1 cx.2.1 hd ?_
  rw [jm_e32 (x := jv_xor x y) rfl]
  exact k p e s m args below meth c H locs as0 as A lsM cx hS hA hx hw hl hlo (jm_sok_cons (jm_to32 _) (jm_sok_tail (jm_sok_tail hso))) hln
theorem jm_land {E : jm_Env} {M : jm_M} {d cu su pc : Nat} {ls : List (Option jm_V)} {st : List jm_V} {sh : List jm_C} {h : jm_H} {Q : jm_Q} {x y : Int} (hd : decode M.2.1 pc = .ok (.land, 1))
    (k : jm_G E M d cu su (pc + 1) ls (jm_L (jv_land x y) :: st) sh h Q) : jm_G E M d cu su pc ls (jm_L y :: jm_L x :: st) sh h Q := by
  intro p e s m args below meth c H locs as0 as A lsM cx hS hA hx hw hl hlo hso hln
  refine lv_land cx.1 cx.2.1 hd ?_
  rw [jm_e64 (x := jv_land x y) rfl]
  exact k p e s m args below meth c H locs as0 as A lsM cx hS hA hx hw hl hlo (jm_sok_cons (jm_to64 _) (jm_sok_tail (jm_sok_tail hso))) hln
theorem jm_lor {E : jm_Env} {M : jm_M} {d cu su pc : Nat} {ls : List (Option jm_V)} {st : List jm_V} {sh : List jm_C} {h : jm_H} {Q : jm_Q} {x y : Int} (hd : decode M.2.1 pc = .ok (.lor, 1))
    (k : jm_G E M d cu su (pc + 1) ls (jm_L (jv_lor x y) :: st) sh h Q) : jm_G E M d cu su pc ls (jm_L y :: jm_L x :: st) sh h Q := by
  intro p e s m args below meth c H locs as0 as A lsM cx hS hA hx hw hl hlo hso hln
  refine lv_lor cx.1 cx.2.1 hd ?_
  rw [jm_e64 (x := jv_lor x y) rfl]
  exact k p e s m args below meth c H locs as0 as A lsM cx hS hA hx hw hl hlo (jm_sok_cons (jm_to64 _) (jm_sok_tail (jm_sok_tail hso))) hln
theorem jm_lxor {E : jm_Env} {M : jm_M} {d cu su pc : Nat} {ls : List (Option jm_V)} {st : List jm_V} {sh : List jm_C} {h : jm_H} {Q : jm_Q} {x y : Int} (hd : decode M.2.1 pc = .ok (.lxor, 1))
    (k : jm_G E M d cu su (pc + 1) ls (jm_L (jv_lxor x y) :: st) sh h Q) : jm_G E M d cu su pc ls (jm_L y :: jm_L x :: st) sh h Q := by
  intro p e s m args below meth c H locs as0 as A lsM cx hS hA hx hw hl hlo hso hln
  refine lv_lxor cx.1 cx.2.1 hd ?_
  rw [jm_e64 (x := jv_lxor x y) rfl]
  exact k p e s m args below meth c H locs as0 as A lsM cx hS hA hx hw hl hlo (jm_sok_cons (jm_to64 _) (jm_sok_tail (jm_sok_tail hso))) hln
theorem jm_ishl {E : jm_Env} {M : jm_M} {d cu su pc : Nat} {ls : List (Option jm_V)} {st : List jm_V} {sh : List jm_C} {h : jm_H} {Q : jm_Q} {x y : Int} (hd : decode M.2.1 pc = .ok (.ishl, 1))
    (k : jm_G E M d cu su (pc + 1) ls (jm_I (jv_shl x y) :: st) sh h Q) : jm_G E M d cu su pc ls (jm_I y :: jm_I x :: st) sh h Q := by
  intro p e s m args below meth c H locs as0 as A lsM cx hS hA hx hw hl hlo hso hln
  refine lv_ishl cx.1 cx.2.1 hd ?_
  rw [jm_e32 (x := jv_shl x y) rfl]
  exact k p e s m args below meth c H locs as0 as A lsM cx hS hA hx hw hl hlo (jm_sok_cons (jm_to32 _) (jm_sok_tail (jm_sok_tail hso))) hln
theorem jm_ishr {E : jm_Env} {M : jm_M} {d cu su pc : Nat} {ls : List (Option jm_V)} {st : List jm_V} {sh : List jm_C} {h : jm_H} {Q : jm_Q} {x y : Int} (hd : decode M.2.1 pc = .ok (.ishr, 1))
    (k : jm_G E M d cu su (pc + 1) ls (jm_I (jv_shr x y) :: st) sh h Q) : jm_G E M d cu su pc ls (jm_I y :: jm_I x :: st) sh h Q := by
  intro p e s m args below meth c H locs as0 as A lsM cx hS hA hx hw hl hlo hso hln
  refine lv_ishr cx.1 cx.2.1 hd ?_
  rw [jm_e32 (x := jv_shr x y) rfl]
  exact k p e s m args below meth c H locs as0 as A lsM cx hS hA hx hw hl hlo (jm_sok_cons (jm_to32 _) (jm_sok_tail (jm_sok_tail hso))) hln
theorem jm_idiv {E : jm_Env} {M : jm_M} {d cu su pc : Nat} {ls : List (Option jm_V)} {st : List jm_V} {sh : List jm_C} {h : jm_H} {Q : jm_Q} {x y : Int} (hd : decode M.2.1 pc = .ok (.idiv, 1)) (hne : ¬ y = 0)
    (k : jm_G E M d cu su (pc + 1) ls (jm_I (jv_div x y) :: st) sh h Q) : jm_G E M d cu su pc ls (jm_I y :: jm_I x :: st) sh h Q := by
  intro p e s m args below meth c H locs as0 as A lsM cx hS hA hx hw hl hlo hso hln
  refine lv_idiv cx.1 cx.2.1 hd (fun q => hne ((jm_eq32 (jm_sok_head hso) jm_o0).mp (by rw [q, jm_z32]))) ?_
  rw [jm_e32 (x := jv_div x y) rfl]
  exact k p e s m args below meth c H locs as0 as A lsM cx hS hA hx hw hl hlo (jm_sok_cons (jm_to32 _) (jm_sok_tail (jm_sok_tail hso))) hln
theorem jm_irem {E : jm_Env} {M : jm_M} {d cu su pc : Nat} {ls : List (Option jm_V)} {st : List jm_V} {sh : List jm_C} {h : jm_H} {Q : jm_Q} {x y : Int} (hd : decode M.2.1 pc = .ok (.irem, 1)) (hne : ¬ y = 0)
    (k : jm_G E M d cu su (pc + 1) ls (jm_I (jv_rem x y) :: st) sh h Q) : jm_G E M d cu su pc ls (jm_I y :: jm_I x :: st) sh h Q := by
  intro p e s m args below meth c H locs as0 as A lsM cx hS hA hx hw hl hlo hso hln
  refine lv_irem cx.1 cx.2.1 hd (fun q => hne ((jm_eq32 (jm_sok_head hso) jm_o0).mp (by rw [q, jm_z32]))) ?_
  rw [jm_e32 (x := jv_rem x y) rfl]
  exact k p e s m args below meth c H locs as0 as A lsM cx hS hA hx hw hl hlo (jm_sok_cons (jm_to32 _) (jm_sok_tail (jm_sok_tail hso))) hln
theorem jm_iushr {E : jm_Env} {M : jm_M} {d cu su pc : Nat} {ls : List (Option jm_V)} {st : List jm_V} {sh : List jm_C} {h : jm_H} {Q : jm_Q} {x y : Int} (hd : decode M.2.1 pc = .ok (.iushr, 1))
    (k : jm_G E M d cu su (pc + 1) ls (jm_I (jv_ushr x y) :: st) sh h Q) : jm_G E M d cu su pc ls (jm_I y :: jm_I x :: st) sh h Q := by
  intro p e s m args below meth c H locs as0 as A lsM cx hS hA hx hw hl hlo hso hln
  exact lv_iushr cx.1 cx.2.1 hd (jm_e32 (x := jv_ushr x y) rfl) (k p e s m args below meth c H locs as0 as A lsM cx hS hA hx hw hl hlo (jm_sok_cons (jm_to32 _) (jm_sok_tail (jm_sok_tail hso))) hln)
theorem jm_lshl {E : jm_Env} {M : jm_M} {d cu su pc : Nat} {ls : List (Option jm_V)} {st : List jm_V} {sh : List jm_C} {h : jm_H} {Q : jm_Q} {x y : Int} (hd : decode M.2.1 pc = .ok (.lshl, 1))
    (k : jm_G E M d cu su (pc + 1) ls (jm_L (jv_lshl x y) :: st) sh h Q) : jm_G E M d cu su pc ls (jm_I y :: jm_L x :: st) sh h Q := by
  intro p e s m args below meth c H locs as0 as A lsM cx hS hA hx hw hl hlo hso hln
  exact lv_lshl cx.1 cx.2.1 hd (jm_e64 (x := jv_lshl x y) rfl) (k p e s m args below meth c H locs as0 as A lsM cx hS hA hx hw hl hlo (jm_sok_cons (jm_to64 _) (jm_sok_tail (jm_sok_tail hso))) hln)
theorem jm_lcmp {E : jm_Env} {M : jm_M} {d cu su pc : Nat} {ls : List (Option jm_V)} {st : List jm_V} {sh : List jm_C} {h : jm_H} {Q : jm_Q} {x y : Int} (hd : decode M.2.1 pc = .ok (.lcmp, 1))
    (k : jm_G E M d cu su (pc + 1) ls (jm_I (jv_lcmp x y) :: st) sh h Q) : jm_G E M d cu su pc ls (jm_L y :: jm_L x :: st) sh h Q := by
  intro p e s m args below meth c H locs as0 as A lsM cx hS hA hx hw hl hlo hso hln
  refine W.lcmp cx.1 cx.2.1 hd ?_
  rw [jm_lcmp_eq (jm_sok_head (jm_sok_tail hso)) (jm_sok_head hso)]
  exact k p e s m args below meth c H locs as0 as A lsM cx hS hA hx hw hl hlo (jm_sok_cons (jm_lcmp_o _ _) (jm_sok_tail (jm_sok_tail hso))) hln
theorem jm_i2l {E : jm_Env} {M : jm_M} {d cu su pc : Nat} {ls : List (Option jm_V)} {st : List jm_V} {sh : List jm_C} {h : jm_H} {Q : jm_Q} {x : Int} (hd : decode M.2.1 pc = .ok (.i2l, 1))
    (k : jm_G E M d cu su (pc + 1) ls (jm_L x :: st) sh h Q) : jm_G E M d cu su pc ls (jm_I x :: st) sh h Q := by
  intro p e s m args below meth c H locs as0 as A lsM cx hS hA hx hw hl hlo hso hln
  have hx0 : jm_o32 x := jm_sok_head hso
  have hx1 : jm_o64 x := ⟨by have := hx0.1; omega, by have := hx0.2; omega⟩
  exact lv_i2l cx.1 cx.2.1 hd (jm_e64 (by rw [Int32.toInt_toInt64, jm_i32o hx0])) (k p e s m args below meth c H locs as0 as A lsM cx hS hA hx hw hl hlo (jm_sok_cons hx1 (jm_sok_tail hso)) hln)
theorem jm_l2i {E : jm_Env} {M : jm_M} {d cu su pc : Nat} {ls : List (Option jm_V)} {st : List jm_V} {sh : List jm_C} {h : jm_H} {Q : jm_Q} {x : Int} (hd : decode M.2.1 pc = .ok (.l2i, 1))
    (k : jm_G E M d cu su (pc + 1) ls (jm_I (jm_w32 x) :: st) sh h Q) : jm_G E M d cu su pc ls (jm_L x :: st) sh h Q := by
  intro p e s m args below meth c H locs as0 as A lsM cx hS hA hx hw hl hlo hso hln
  have hx0 : jm_o64 x := jm_sok_head hso
  exact lv_l2i cx.1 cx.2.1 hd (jm_e32 (by rw [Int64.toInt_toInt32, jm_i64o hx0]; rfl)) (k p e s m args below meth c H locs as0 as A lsM cx hS hA hx hw hl hlo (jm_sok_cons (jm_w32_o _) (jm_sok_tail hso)) hln)
theorem jm_dup {E : jm_Env} {M : jm_M} {d cu su pc : Nat} {ls : List (Option jm_V)} {st : List jm_V} {sh : List jm_C} {h : jm_H} {Q : jm_Q} {v : jm_V} (hd : decode M.2.1 pc = .ok (.dup, 1)) (hc : jm_two (some v) = false)
    (k : jm_G E M d cu su (pc + 1) ls (v :: v :: st) sh h Q) : jm_G E M d cu su pc ls (v :: st) sh h Q := by
  intro p e s m args below meth c H locs as0 as A lsM cx hS hA hx hw hl hlo hso hln
  exact lv_dup cx.1 cx.2.1 hd (by rw [jm_two_cat, hc]; rfl) (k p e s m args below meth c H locs as0 as A lsM cx hS hA hx hw hl hlo (jm_sok_cons (jm_sok_head hso) hso) hln)
theorem jm_pop {E : jm_Env} {M : jm_M} {d cu su pc : Nat} {ls : List (Option jm_V)} {st : List jm_V} {sh : List jm_C} {h : jm_H} {Q : jm_Q} {v : jm_V} (hd : decode M.2.1 pc = .ok (.pop, 1)) (hc : jm_two (some v) = false)
    (k : jm_G E M d cu su (pc + 1) ls st sh h Q) : jm_G E M d cu su pc ls (v :: st) sh h Q := by
  intro p e s m args below meth c H locs as0 as A lsM cx hS hA hx hw hl hlo hso hln
  exact lv_pop cx.1 cx.2.1 hd (by rw [jm_two_cat, hc]; rfl) (k p e s m args below meth c H locs as0 as A lsM cx hS hA hx hw hl hlo (jm_sok_tail hso) hln)
theorem jm_dup2 {E : jm_Env} {M : jm_M} {d cu su pc : Nat} {ls : List (Option jm_V)} {st : List jm_V} {sh : List jm_C} {h : jm_H} {Q : jm_Q} {v w : jm_V} (hd : decode M.2.1 pc = .ok (.dup2, 1)) (hc : jm_two (some v) = false) (hc2 : jm_two (some w) = false)
    (k : jm_G E M d cu su (pc + 1) ls (v :: w :: v :: w :: st) sh h Q) : jm_G E M d cu su pc ls (v :: w :: st) sh h Q := by
  intro p e s m args below meth c H locs as0 as A lsM cx hS hA hx hw hl hlo hso hln
  exact lv_dup2_11 cx.1 cx.2.1 hd (by rw [jm_two_cat, hc]; rfl) (by rw [jm_two_cat, hc2]; rfl) (k p e s m args below meth c H locs as0 as A lsM cx hS hA hx hw hl hlo (jm_sok_cons (jm_sok_head hso) (jm_sok_cons (jm_sok_head (jm_sok_tail hso)) hso)) hln)
theorem jm_goto {E : jm_Env} {M : jm_M} {d cu su pc : Nat} {ls : List (Option jm_V)} {st : List jm_V} {sh : List jm_C} {h : jm_H} {Q : jm_Q} {off : Int} {tgt : Nat} (hd : decode M.2.1 pc = .ok (.goto off, 3)) (ht : (pc : Int) + off = (tgt : Int))
    (k : jm_G E M d cu su tgt ls st sh h Q) : jm_G E M d cu su pc ls st sh h Q := by
  intro p e s m args below meth c H locs as0 as A lsM cx hS hA hx hw hl hlo hso hln
  exact lv_goto cx.1 cx.2.1 hd ht (k p e s m args below meth c H locs as0 as A lsM cx hS hA hx hw hl hlo hso hln)
theorem jm_icmp_eq {E : jm_Env} {M : jm_M} {d cu su pc : Nat} {ls : List (Option jm_V)} {st : List jm_V} {sh : List jm_C} {h : jm_H} {Q : jm_Q} {x y off : Int} {tgt : Nat} (hd : decode M.2.1 pc = .ok (.if_icmp .eq off, 3)) (ht : (pc : Int) + off = (tgt : Int))
    (kt : x = y → jm_G E M d cu su tgt ls st sh h Q) (kf : ¬ x = y → jm_G E M d cu su (pc + 3) ls st sh h Q) : jm_G E M d cu su pc ls (jm_I y :: jm_I x :: st) sh h Q := by
  intro p e s m args below meth c H locs as0 as A lsM cx hS hA hx hw hl hlo hso hln
  have hii := jm_eq32 (jm_sok_head (jm_sok_tail hso)) (jm_sok_head hso)
  exact lv_icmp_eq cx.1 cx.2.1 hd ht (fun q => kt (hii.mp q) p e s m args below meth c H locs as0 as A lsM cx hS hA hx hw hl hlo (jm_sok_tail (jm_sok_tail hso)) hln) (fun q => kf (fun z => q (hii.mpr z)) p e s m args below meth c H locs as0 as A lsM cx hS hA hx hw hl hlo (jm_sok_tail (jm_sok_tail hso)) hln)
theorem jm_if_eq {E : jm_Env} {M : jm_M} {d cu su pc : Nat} {ls : List (Option jm_V)} {st : List jm_V} {sh : List jm_C} {h : jm_H} {Q : jm_Q} {x off : Int} {tgt : Nat} (hd : decode M.2.1 pc = .ok (.ifCond .eq off, 3)) (ht : (pc : Int) + off = (tgt : Int))
    (kt : x = 0 → jm_G E M d cu su tgt ls st sh h Q) (kf : ¬ x = 0 → jm_G E M d cu su (pc + 3) ls st sh h Q) : jm_G E M d cu su pc ls (jm_I x :: st) sh h Q := by
  intro p e s m args below meth c H locs as0 as A lsM cx hS hA hx hw hl hlo hso hln
  have hii := jm_eq32 (jm_sok_head hso) jm_o0
  rw [← jm_z32] at hii
  exact lv_if_eq cx.1 cx.2.1 hd ht (fun q => kt (hii.mp q) p e s m args below meth c H locs as0 as A lsM cx hS hA hx hw hl hlo (jm_sok_tail hso) hln) (fun q => kf (fun z => q (hii.mpr z)) p e s m args below meth c H locs as0 as A lsM cx hS hA hx hw hl hlo (jm_sok_tail hso) hln)
theorem jm_icmp_ne {E : jm_Env} {M : jm_M} {d cu su pc : Nat} {ls : List (Option jm_V)} {st : List jm_V} {sh : List jm_C} {h : jm_H} {Q : jm_Q} {x y off : Int} {tgt : Nat} (hd : decode M.2.1 pc = .ok (.if_icmp .ne off, 3)) (ht : (pc : Int) + off = (tgt : Int))
    (kt : ¬ x = y → jm_G E M d cu su tgt ls st sh h Q) (kf : x = y → jm_G E M d cu su (pc + 3) ls st sh h Q) : jm_G E M d cu su pc ls (jm_I y :: jm_I x :: st) sh h Q := by
  intro p e s m args below meth c H locs as0 as A lsM cx hS hA hx hw hl hlo hso hln
  have hii := jm_eq32 (jm_sok_head (jm_sok_tail hso)) (jm_sok_head hso)
  exact lv_icmp_ne cx.1 cx.2.1 hd ht (fun q => kt (fun z => q (hii.mpr z)) p e s m args below meth c H locs as0 as A lsM cx hS hA hx hw hl hlo (jm_sok_tail (jm_sok_tail hso)) hln) (fun q => kf (hii.mp q) p e s m args below meth c H locs as0 as A lsM cx hS hA hx hw hl hlo (jm_sok_tail (jm_sok_tail hso)) hln)
theorem jm_if_ne {E : jm_Env} {M : jm_M} {d cu su pc : Nat} {ls : List (Option jm_V)} {st : List jm_V} {sh : List jm_C} {h : jm_H} {Q : jm_Q} {x off : Int} {tgt : Nat} (hd : decode M.2.1 pc = .ok (.ifCond .ne off, 3)) (ht : (pc : Int) + off = (tgt : Int))
    (kt : ¬ x = 0 → jm_G E M d cu su tgt ls st sh h Q) (kf : x = 0 → jm_G E M d cu su (pc + 3) ls st sh h Q) : jm_G E M d cu su pc ls (jm_I x :: st) sh h Q := by
  intro p e s m args below meth c H locs as0 as A lsM cx hS hA hx hw hl hlo hso hln
  have hii := jm_eq32 (jm_sok_head hso) jm_o0
  rw [← jm_z32] at hii
  exact lv_if_ne cx.1 cx.2.1 hd ht (fun q => kt (fun z => q (hii.mpr z)) p e s m args below meth c H locs as0 as A lsM cx hS hA hx hw hl hlo (jm_sok_tail hso) hln) (fun q => kf (hii.mp q) p e s m args below meth c H locs as0 as A lsM cx hS hA hx hw hl hlo (jm_sok_tail hso) hln)
theorem jm_icmp_lt {E : jm_Env} {M : jm_M} {d cu su pc : Nat} {ls : List (Option jm_V)} {st : List jm_V} {sh : List jm_C} {h : jm_H} {Q : jm_Q} {x y off : Int} {tgt : Nat} (hd : decode M.2.1 pc = .ok (.if_icmp .lt off, 3)) (ht : (pc : Int) + off = (tgt : Int))
    (kt : x < y → jm_G E M d cu su tgt ls st sh h Q) (kf : ¬ x < y → jm_G E M d cu su (pc + 3) ls st sh h Q) : jm_G E M d cu su pc ls (jm_I y :: jm_I x :: st) sh h Q := by
  intro p e s m args below meth c H locs as0 as A lsM cx hS hA hx hw hl hlo hso hln
  have hii := jm_lt32 (jm_sok_head (jm_sok_tail hso)) (jm_sok_head hso)
  exact lv_icmp_lt cx.1 cx.2.1 hd ht (fun q => kt (hii.mp q) p e s m args below meth c H locs as0 as A lsM cx hS hA hx hw hl hlo (jm_sok_tail (jm_sok_tail hso)) hln) (fun q => kf (fun z => q (hii.mpr z)) p e s m args below meth c H locs as0 as A lsM cx hS hA hx hw hl hlo (jm_sok_tail (jm_sok_tail hso)) hln)
theorem jm_if_lt {E : jm_Env} {M : jm_M} {d cu su pc : Nat} {ls : List (Option jm_V)} {st : List jm_V} {sh : List jm_C} {h : jm_H} {Q : jm_Q} {x off : Int} {tgt : Nat} (hd : decode M.2.1 pc = .ok (.ifCond .lt off, 3)) (ht : (pc : Int) + off = (tgt : Int))
    (kt : x < 0 → jm_G E M d cu su tgt ls st sh h Q) (kf : ¬ x < 0 → jm_G E M d cu su (pc + 3) ls st sh h Q) : jm_G E M d cu su pc ls (jm_I x :: st) sh h Q := by
  intro p e s m args below meth c H locs as0 as A lsM cx hS hA hx hw hl hlo hso hln
  have hii := jm_lt32 (jm_sok_head hso) jm_o0
  rw [← jm_z32] at hii
  exact lv_if_lt cx.1 cx.2.1 hd ht (fun q => kt (hii.mp q) p e s m args below meth c H locs as0 as A lsM cx hS hA hx hw hl hlo (jm_sok_tail hso) hln) (fun q => kf (fun z => q (hii.mpr z)) p e s m args below meth c H locs as0 as A lsM cx hS hA hx hw hl hlo (jm_sok_tail hso) hln)
theorem jm_icmp_ge {E : jm_Env} {M : jm_M} {d cu su pc : Nat} {ls : List (Option jm_V)} {st : List jm_V} {sh : List jm_C} {h : jm_H} {Q : jm_Q} {x y off : Int} {tgt : Nat} (hd : decode M.2.1 pc = .ok (.if_icmp .ge off, 3)) (ht : (pc : Int) + off = (tgt : Int))
    (kt : y ≤ x → jm_G E M d cu su tgt ls st sh h Q) (kf : ¬ y ≤ x → jm_G E M d cu su (pc + 3) ls st sh h Q) : jm_G E M d cu su pc ls (jm_I y :: jm_I x :: st) sh h Q := by
  intro p e s m args below meth c H locs as0 as A lsM cx hS hA hx hw hl hlo hso hln
  have hii := jm_le32 (jm_sok_head hso) (jm_sok_head (jm_sok_tail hso))
  exact lv_icmp_ge cx.1 cx.2.1 hd ht (fun q => kt (hii.mp q) p e s m args below meth c H locs as0 as A lsM cx hS hA hx hw hl hlo (jm_sok_tail (jm_sok_tail hso)) hln) (fun q => kf (fun z => q (hii.mpr z)) p e s m args below meth c H locs as0 as A lsM cx hS hA hx hw hl hlo (jm_sok_tail (jm_sok_tail hso)) hln)
theorem jm_if_ge {E : jm_Env} {M : jm_M} {d cu su pc : Nat} {ls : List (Option jm_V)} {st : List jm_V} {sh : List jm_C} {h : jm_H} {Q : jm_Q} {x off : Int} {tgt : Nat} (hd : decode M.2.1 pc = .ok (.ifCond .ge off, 3)) (ht : (pc : Int) + off = (tgt : Int))
    (kt : 0 ≤ x → jm_G E M d cu su tgt ls st sh h Q) (kf : ¬ 0 ≤ x → jm_G E M d cu su (pc + 3) ls st sh h Q) : jm_G E M d cu su pc ls (jm_I x :: st) sh h Q := by
  intro p e s m args below meth c H locs as0 as A lsM cx hS hA hx hw hl hlo hso hln
  have hii := jm_le32 jm_o0 (jm_sok_head hso)
  rw [← jm_z32] at hii
  exact lv_if_ge cx.1 cx.2.1 hd ht (fun q => kt (hii.mp q) p e s m args below meth c H locs as0 as A lsM cx hS hA hx hw hl hlo (jm_sok_tail hso) hln) (fun q => kf (fun z => q (hii.mpr z)) p e s m args below meth c H locs as0 as A lsM cx hS hA hx hw hl hlo (jm_sok_tail hso) hln)
theorem jm_icmp_gt {E : jm_Env} {M : jm_M} {d cu su pc : Nat} {ls : List (Option jm_V)} {st : List jm_V} {sh : List jm_C} {h : jm_H} {Q : jm_Q} {x y off : Int} {tgt : Nat} (hd : decode M.2.1 pc = .ok (.if_icmp .gt off, 3)) (ht : (pc : Int) + off = (tgt : Int))
    (kt : y < x → jm_G E M d cu su tgt ls st sh h Q) (kf : ¬ y < x → jm_G E M d cu su (pc + 3) ls st sh h Q) : jm_G E M d cu su pc ls (jm_I y :: jm_I x :: st) sh h Q := by
  intro p e s m args below meth c H locs as0 as A lsM cx hS hA hx hw hl hlo hso hln
  have hii := jm_lt32 (jm_sok_head hso) (jm_sok_head (jm_sok_tail hso))
  exact lv_icmp_gt cx.1 cx.2.1 hd ht (fun q => kt (hii.mp q) p e s m args below meth c H locs as0 as A lsM cx hS hA hx hw hl hlo (jm_sok_tail (jm_sok_tail hso)) hln) (fun q => kf (fun z => q (hii.mpr z)) p e s m args below meth c H locs as0 as A lsM cx hS hA hx hw hl hlo (jm_sok_tail (jm_sok_tail hso)) hln)
theorem jm_if_gt {E : jm_Env} {M : jm_M} {d cu su pc : Nat} {ls : List (Option jm_V)} {st : List jm_V} {sh : List jm_C} {h : jm_H} {Q : jm_Q} {x off : Int} {tgt : Nat} (hd : decode M.2.1 pc = .ok (.ifCond .gt off, 3)) (ht : (pc : Int) + off = (tgt : Int))
    (kt : 0 < x → jm_G E M d cu su tgt ls st sh h Q) (kf : ¬ 0 < x → jm_G E M d cu su (pc + 3) ls st sh h Q) : jm_G E M d cu su pc ls (jm_I x :: st) sh h Q := by
  intro p e s m args below meth c H locs as0 as A lsM cx hS hA hx hw hl hlo hso hln
  have hii := jm_lt32 jm_o0 (jm_sok_head hso)
  rw [← jm_z32] at hii
  exact lv_if_gt cx.1 cx.2.1 hd ht (fun q => kt (hii.mp q) p e s m args below meth c H locs as0 as A lsM cx hS hA hx hw hl hlo (jm_sok_tail hso) hln) (fun q => kf (fun z => q (hii.mpr z)) p e s m args below meth c H locs as0 as A lsM cx hS hA hx hw hl hlo (jm_sok_tail hso) hln)
theorem jm_icmp_le {E : jm_Env} {M : jm_M} {d cu su pc : Nat} {ls : List (Option jm_V)} {st : List jm_V} {sh : List jm_C} {h : jm_H} {Q : jm_Q} {x y off : Int} {tgt : Nat} (hd : decode M.2.1 pc = .ok (.if_icmp .le off, 3)) (ht : (pc : Int) + off = (tgt : Int))
    (kt : x ≤ y → jm_G E M d cu su tgt ls st sh h Q) (kf : ¬ x ≤ y → jm_G E M d cu su (pc + 3) ls st sh h Q) : jm_G E M d cu su pc ls (jm_I y :: jm_I x :: st) sh h Q := by
  intro p e s m args below meth c H locs as0 as A lsM cx hS hA hx hw hl hlo hso hln
  have hii := jm_le32 (jm_sok_head (jm_sok_tail hso)) (jm_sok_head hso)
  exact lv_icmp_le cx.1 cx.2.1 hd ht (fun q => kt (hii.mp q) p e s m args below meth c H locs as0 as A lsM cx hS hA hx hw hl hlo (jm_sok_tail (jm_sok_tail hso)) hln) (fun q => kf (fun z => q (hii.mpr z)) p e s m args below meth c H locs as0 as A lsM cx hS hA hx hw hl hlo (jm_sok_tail (jm_sok_tail hso)) hln)
theorem jm_if_le {E : jm_Env} {M : jm_M} {d cu su pc : Nat} {ls : List (Option jm_V)} {st : List jm_V} {sh : List jm_C} {h : jm_H} {Q : jm_Q} {x off : Int} {tgt : Nat} (hd : decode M.2.1 pc = .ok (.ifCond .le off, 3)) (ht : (pc : Int) + off = (tgt : Int))
    (kt : x ≤ 0 → jm_G E M d cu su tgt ls st sh h Q) (kf : ¬ x ≤ 0 → jm_G E M d cu su (pc + 3) ls st sh h Q) : jm_G E M d cu su pc ls (jm_I x :: st) sh h Q := by
  intro p e s m args below meth c H locs as0 as A lsM cx hS hA hx hw hl hlo hso hln
  have hii := jm_le32 (jm_sok_head hso) jm_o0
  rw [← jm_z32] at hii
  exact lv_if_le cx.1 cx.2.1 hd ht (fun q => kt (hii.mp q) p e s m args below meth c H locs as0 as A lsM cx hS hA hx hw hl hlo (jm_sok_tail hso) hln) (fun q => kf (fun z => q (hii.mpr z)) p e s m args below meth c H locs as0 as A lsM cx hS hA hx hw hl hlo (jm_sok_tail hso) hln)
theorem jm_tableOut {E : jm_Env} {M : jm_M} {d cu su pc : Nat} {ls : List (Option jm_V)} {st : List jm_V} {sh : List jm_C} {h : jm_H} {Q : jm_Q} {x dflt lo hi : Int} {offs : Array Int} {len tgt : Nat} (hd : decode M.2.1 pc = .ok (.tableswitch dflt lo hi offs, len)) (hr : x < lo ∨ hi < x) (ht : (pc : Int) + dflt = (tgt : Int))
    (k : jm_G E M d cu su tgt ls st sh h Q) : jm_G E M d cu su pc ls (jm_I x :: st) sh h Q := by
  intro p e s m args below meth c H locs as0 as A lsM cx hS hA hx hw hl hlo hso hln
  have e0 := jm_i32o (show jm_o32 x from jm_sok_head hso)
  exact lv_tableOut cx.1 cx.2.1 hd (by rw [e0]; exact hr) ht (k p e s m args below meth c H locs as0 as A lsM cx hS hA hx hw hl hlo (jm_sok_tail hso) hln)
theorem jm_tableIn {E : jm_Env} {M : jm_M} {d cu su pc : Nat} {ls : List (Option jm_V)} {st : List jm_V} {sh : List jm_C} {h : jm_H} {Q : jm_Q} {x dflt lo hi off : Int} {offs : Array Int} {len tgt : Nat} (hd : decode M.2.1 pc = .ok (.tableswitch dflt lo hi offs, len)) (h1 : ¬ x < lo) (h2 : ¬ hi < x) (ho : offs[(x - lo).toNat]? = some off) (ht : (pc : Int) + off = (tgt : Int))
    (k : jm_G E M d cu su tgt ls st sh h Q) : jm_G E M d cu su pc ls (jm_I x :: st) sh h Q := by
  intro p e s m args below meth c H locs as0 as A lsM cx hS hA hx hw hl hlo hso hln
  have e0 := jm_i32o (show jm_o32 x from jm_sok_head hso)
  exact lv_tableIn cx.1 cx.2.1 hd (by rw [e0]; exact h1) (by rw [e0]; exact h2) (by rw [e0]; exact ho) ht (k p e s m args below meth c H locs as0 as A lsM cx hS hA hx hw hl hlo (jm_sok_tail hso) hln)
theorem jm_lookup {E : jm_Env} {M : jm_M} {d cu su pc : Nat} {ls : List (Option jm_V)} {st : List jm_V} {sh : List jm_C} {h : jm_H} {Q : jm_Q} {x dflt off : Int} {ps : Array (Int × Int)} {len tgt : Nat} (hd : decode M.2.1 pc = .ok (.lookupswitch dflt ps, len)) (hp : (ps.toList.zip (ps.toList.drop 1)).all (fun (a, next) => a.1 < next.1) = true) (ho : Op.lookupswitch.offset ps.toList dflt x = off) (ht : (pc : Int) + off = (tgt : Int))
    (k : jm_G E M d cu su tgt ls st sh h Q) : jm_G E M d cu su pc ls (jm_I x :: st) sh h Q := by
  intro p e s m args below meth c H locs as0 as A lsM cx hS hA hx hw hl hlo hso hln
  have e0 := jm_i32o (show jm_o32 x from jm_sok_head hso)
  exact lv_lookup cx.1 cx.2.1 hd hp (by rw [e0]; exact ho) ht (k p e s m args below meth c H locs as0 as A lsM cx hS hA hx hw hl hlo (jm_sok_tail hso) hln)
end
section
/-! fields, arrays -/
theorem jm_fs_len (as : List Nat) (ci : Nat) (rs : List (Option Nat)) (f : Nat → Int) : (jm_fs as ci rs f).length = (jm_ft ci).length := by simp [jm_fs]
theorem jm_F_int {as : List Nat} {t : Nat} {x : Int} {r : Option Nat} (h : t ≠ 1 ∧ t ≠ 2) : jm_F as t x r = .int (Int32.ofInt x) := by
  unfold jm_F
  rw [if_neg h.1, if_neg h.2]
theorem jm_F_long {as : List Nat} {t : Nat} {x : Int} {r : Option Nat} (h : t = 1) : jm_F as t x r = .long (Int64.ofInt x) := by
  unfold jm_F
  rw [if_pos h]
theorem jm_fs_at {as : List Nat} {ci j : Nat} {rs : List (Option Nat)} {f : Nat → Int} (hj : j < (jm_ft ci).length) : (jm_fs as ci rs f)[j]? = some (jm_F as ((jm_ft ci).getD j 0) (f j) (rs.getD j none)) := by
  simp [jm_fs, hj]
theorem jm_fs_set {as : List Nat} {ci j : Nat} {rs rs' : List (Option Nat)} {f f' : Nat → Int} {v : Value} (hj : j < (jm_ft ci).length) (hv : jm_F as ((jm_ft ci).getD j 0) (f' j) (rs'.getD j none) = v) (hf : ∀ i, i ≠ j → f' i = f i) (hr : ∀ i, i ≠ j → rs'.getD i none = rs.getD i none) : (jm_fs as ci rs f).set j v = jm_fs as ci rs' f' := by
  apply List.ext_getElem?
  intro k
  by_cases hk : k < (jm_ft ci).length
  · by_cases e : k = j
    · subst e
      rw [List.getElem?_set_self (by rw [jm_fs_len]; exact hk), jm_fs_at hk, hv]
    · rw [List.getElem?_set_ne (Ne.symm e), jm_fs_at hk, jm_fs_at hk, hf k e, hr k e]
  · rw [List.getElem?_eq_none (by rw [List.length_set, jm_fs_len]; omega), List.getElem?_eq_none (by rw [jm_fs_len]; omega)]
theorem jm_clamp {x : Int} (h : jm_o32 x) : (Int32.ofInt x).toNatClampNeg = x.toNat := by
  show (Int32.ofInt x).toInt.toNat = x.toNat
  rw [jm_i32o h]
theorem jm_in {x : Int} {n : Nat} (h : jm_o32 x) (h0 : 0 ≤ x) (h1 : x < n) : vp_in (Int32.ofInt x) n := vp_in_iff.mpr (by rw [jm_i32o h]; exact ⟨h0, h1⟩)
theorem jm_upd {f : Nat → Int} {k : Nat} {x : Int} : upd (fun j => Int32.ofInt (f j)) k (Int32.ofInt x) = fun j => Int32.ofInt (if j = k then x else f j) := by
  funext j
  unfold upd
  by_cases e : j = k <;> simp [e]
theorem jm_updL {f : Nat → Int} {k : Nat} {x : Int} : vp_updL (fun j => Int64.ofInt (f j)) k (Int64.ofInt x) = fun j => Int64.ofInt (if j = k then x else f j) := by
  funext j
  unfold vp_updL
  by_cases e : j = k <;> simp [e]
section JMM
variable {E : jm_Env} {M : jm_M} {d cu su pc : Nat} {ls : List (Option jm_V)} {st : List jm_V} {sh : List jm_C} {h : jm_H} {Q : jm_Q}
/-- the world behind a write of a number -/
theorem jm_Wd.num {as : List Nat} {A : Nat → Prop} {H H1 : Heap} {r j : Nat} {x : Int} {cl : jm_C} {el : va_E} (hw : jm_Wd E as sh h A H) (hs : sh[r]? = some cl) (hel : jm_cell E.2.2 as cl (fun b => if b = j then x else h r b) = el) (hok : jm_cok sh.length cl (fun b => if b = j then x else h r b)) (hP : va_P E.2.1 jm_cl ((jm_ws E.2.2 as sh h).set r (as.getD r 0, el)) H1) (hD : va_D A ((jm_ws E.2.2 as sh h).set r (as.getD r 0, el))) : jm_Wd E as sh (jm_up h r j x) A H1 := by
  subst hel
  rw [jm_ws_set _ hs, jm_set_same hs, ← jm_up_row] at hP hD
  refine ⟨hw.1, fun i c hi => ?_, hP, hD⟩
  by_cases e : i = r
  · subst e
    cases hi.symm.trans hs
    have : jm_up h i j x i = fun b => if b = j then x else h i b := by
      funext b
      simp [jm_up]
    rw [this]
    exact hok
  · have : jm_up h r j x i = h i := by
      funext b
      simp [jm_up, e]
    rw [this]
    exact hw.2.1 i c hi
theorem jm_cok_num {n j : Nat} {x : Int} {f : Nat → Int} {ci : Nat} {rs : List (Option Nat)} (hc : jm_cok n (.inl (ci, rs)) f) (hx : if (jm_ft ci).getD j 0 = 1 then jm_o64 x else jm_o32 x) : jm_cok n (.inl (ci, rs)) (fun b => if b = j then x else f b) := by
  refine ⟨fun b => ?_, hc.2⟩
  by_cases e : b = j
  · subst e
    simp only [if_true]
    exact hx
  · have := hc.1 b
    simp only [e, if_false]
    exact this
theorem jm_cok_arr {n j kd k : Nat} {x : Int} {f : Nat → Int} {rs : List (Option Nat)} (hc : jm_cok n (.inr (kd, k, rs)) f) (hx : if kd = 1 then jm_o64 x else jm_o32 x) : jm_cok n (.inr (kd, k, rs)) (fun b => if b = j then x else f b) := by
  refine ⟨fun b => ?_, hc.2⟩
  by_cases e : b = j
  · subst e
    simp only [if_true]
    exact hx
  · have := hc.1 b
    simp only [e, if_false]
    exact this
theorem jm_getI {i j r ci N : Nat} {C : String} {T : u_T} {rs : List (Option Nat)} (hd : decode M.2.1 pc = .ok (.getfield i, 3)) (hc : jm_cl[ci]? = some (C, T, N)) (hj : j < N) (hlk : Cond.fieldLink M.1.cls i (T j).1 (T j).2.1 (T j).2.2.1 ∈ jm_wG) (hs : sh[r]? = some (.inl (ci, rs))) (ht : (jm_ft ci).getD j 0 ≠ 1 ∧ (jm_ft ci).getD j 0 ≠ 2)
    (k : jm_G E M d cu su (pc + 3) ls (jm_I (h r j) :: st) sh h Q) : jm_G E M d cu su pc ls (jm_R r :: st) sh h Q := by
  intro p e s m args below meth c H locs as0 as A lsM cx hS hA hx hw hl hlo hso hln
  have ho : jm_o32 (h r j) := by
    have := (hw.2.1 r _ hs).1 j
    rw [if_neg ht.1] at this
    exact this
  refine va_get (v := .int (Int32.ofInt (h r j))) cx.1 cx.2.1 cx.2.2.2.2.1 (fun w hw => List.mem_cons_of_mem _ ((jm_clok hc).1 w hw)) cx.2.2.2.1 cx.2.2.2.2.2.1 hw.2.2.1 r (jm_ws_at hs) hc j hj (cx.2.2.2.2.1 _ (List.mem_cons_of_mem _ hlk)) (fun _ z => z) ?_ hd (k p e s m args below meth c H locs as0 as A lsM cx hS hA hx hw hl hlo (jm_sok_cons ho (jm_sok_tail hso)) hln)
  rw [jm_fs_at (by rw [← (jm_clok hc).2.1]; exact hj)]
  rw [jm_F_int ht]
theorem jm_getL {i j r ci N : Nat} {C : String} {T : u_T} {rs : List (Option Nat)} (hd : decode M.2.1 pc = .ok (.getfield i, 3)) (hc : jm_cl[ci]? = some (C, T, N)) (hj : j < N) (hlk : Cond.fieldLink M.1.cls i (T j).1 (T j).2.1 (T j).2.2.1 ∈ jm_wG) (hs : sh[r]? = some (.inl (ci, rs))) (ht : (jm_ft ci).getD j 0 = 1)
    (k : jm_G E M d cu su (pc + 3) ls (jm_L (h r j) :: st) sh h Q) : jm_G E M d cu su pc ls (jm_R r :: st) sh h Q := by
  intro p e s m args below meth c H locs as0 as A lsM cx hS hA hx hw hl hlo hso hln
  have ho : jm_o64 (h r j) := by
    have := (hw.2.1 r _ hs).1 j
    rw [if_pos ht] at this
    exact this
  refine va_get (v := .long (Int64.ofInt (h r j))) cx.1 cx.2.1 cx.2.2.2.2.1 (fun w hw => List.mem_cons_of_mem _ ((jm_clok hc).1 w hw)) cx.2.2.2.1 cx.2.2.2.2.2.1 hw.2.2.1 r (jm_ws_at hs) hc j hj (cx.2.2.2.2.1 _ (List.mem_cons_of_mem _ hlk)) (fun _ z => z) ?_ hd (k p e s m args below meth c H locs as0 as A lsM cx hS hA hx hw hl hlo (jm_sok_cons ho (jm_sok_tail hso)) hln)
  rw [jm_fs_at (by rw [← (jm_clok hc).2.1]; exact hj)]
  rw [jm_F_long ht]
theorem jm_getR {i j r q ci N : Nat} {C : String} {T : u_T} {rs : List (Option Nat)} (hd : decode M.2.1 pc = .ok (.getfield i, 3)) (hc : jm_cl[ci]? = some (C, T, N)) (hj : j < N) (hlk : Cond.fieldLink M.1.cls i (T j).1 (T j).2.1 (T j).2.2.1 ∈ jm_wG) (hs : sh[r]? = some (.inl (ci, rs))) (ht : (jm_ft ci).getD j 0 = 2) (hq : rs.getD j none = some q)
    (k : jm_G E M d cu su (pc + 3) ls (jm_R q :: st) sh h Q) : jm_G E M d cu su pc ls (jm_R r :: st) sh h Q := by
  intro p e s m args below meth c H locs as0 as A lsM cx hS hA hx hw hl hlo hso hln
  have ho : jm_ok sh.length (jm_R q) := (hw.2.1 r _ hs).2 j q hq
  refine va_get (v := .ref (as.getD q 0)) cx.1 cx.2.1 cx.2.2.2.2.1 (fun w hw => List.mem_cons_of_mem _ ((jm_clok hc).1 w hw)) cx.2.2.2.1 cx.2.2.2.2.2.1 hw.2.2.1 r (jm_ws_at hs) hc j hj (cx.2.2.2.2.1 _ (List.mem_cons_of_mem _ hlk)) (fun _ z => z) ?_ hd (k p e s m args below meth c H locs as0 as A lsM cx hS hA hx hw hl hlo (jm_sok_cons ho (jm_sok_tail hso)) hln)
  rw [jm_fs_at (by rw [← (jm_clok hc).2.1]; exact hj), ht, hq]
  rfl
theorem jm_nb {x : Int} (h : x = 0 ∨ x = 1) : narrow .boolean (.int (Int32.ofInt x)) = .int (Int32.ofInt x) ∧ fits .boolean (.int (Int32.ofInt x)) = true := by
  rcases h with rfl | rfl <;> exact ⟨by decide, by decide⟩
/-- what may be written into a field of a type: its code, and the number -/
def jm_pok (t : Nat) (x : Int) : Prop := t = 0 ∨ (t = 3 ∧ (x = 0 ∨ x = 1))
theorem jm_pok_ty {ty : FieldType} {x : Int} (h : jm_pok (jm_tc ty) x) : narrow ty (.int (Int32.ofInt x)) = .int (Int32.ofInt x) ∧ fits ty (.int (Int32.ofInt x)) = true := by
  rcases h with h | ⟨h, hx⟩ <;> cases ty <;> simp [jm_tc] at h
  · exact ⟨rfl, rfl⟩
  · exact jm_nb hx
theorem jm_pok_2 {t : Nat} {x : Int} (h : jm_pok t x) : t ≠ 1 ∧ t ≠ 2 := by
  rcases h with h | h <;> omega
theorem jm_putI {i j r ci N : Nat} {x : Int} {C : String} {T : u_T} {rs : List (Option Nat)} (hd : decode M.2.1 pc = .ok (.putfield i, 3)) (hc : jm_cl[ci]? = some (C, T, N)) (hj : j < N) (hlk : Cond.fieldLink M.1.cls i (T j).1 (T j).2.1 (T j).2.2.1 ∈ jm_wG) (hnf : (T j).2.2.2 = false) (hs : sh[r]? = some (.inl (ci, rs))) (ht : jm_pok ((jm_ft ci).getD j 0) x)
    (k : jm_G E M d cu su (pc + 3) ls st sh (jm_up h r j x) Q) : jm_G E M d cu su pc ls (jm_I x :: jm_R r :: st) sh h Q := by
  intro p e s m args below meth c H locs as0 as A lsM cx hS hA hx hw hl hlo hso hln
  obtain ⟨c1, c2, c3, c4, c5⟩ := jm_clok hc
  have hjl : j < (jm_ft ci).length := by rw [← c2]; exact hj
  have hpt := jm_pok_ty (ty := jm_ty ci j) (x := x) (by rw [c5 j hj]; exact ht)
  have h2 := jm_pok_2 ht
  refine va_put (v := .int (Int32.ofInt x)) (ty := jm_ty ci j) cx.1 cx.2.1 cx.2.2.2.2.1 (fun w hw => List.mem_cons_of_mem _ (c1 w hw)) (jm_ty ci) c3 c4 cx.2.2.2.1 cx.2.2.2.2.2.1 hw.2.2.1 hw.2.2.2 hS r (jm_ws_at hs) hc j hj (cx.2.2.2.2.1 _ (List.mem_cons_of_mem _ hlk)) (fun _ z => z) hnf (c3 j hj) hpt.1 hpt.2 (by rw [jm_fs_len]; exact hjl) hd (fun H1 locs1 hP hD hS1 => ?_)
  refine k p e s m args below meth c H1 locs1 as0 as A lsM cx hS1 hA hx (hw.num hs ?_ (jm_cok_num (hw.2.1 r _ hs) (by rw [if_neg h2.1]; exact jm_sok_head hso)) hP hD) hl hlo (jm_sok_tail (jm_sok_tail hso)) hln
  show Sum.inr (ci, jm_fs as ci rs _) = _
  rw [jm_fs_set (rs' := rs) (f' := fun b => if b = j then x else h r b) hjl (by rw [jm_F_int h2]; simp) (fun i hi => by simp [hi]) (fun _ _ => rfl)]
theorem jm_putIF {i j r ci N : Nat} {x : Int} {C : String} {T : u_T} {rs : List (Option Nat)} (hd : decode M.2.1 pc = .ok (.putfield i, 3)) (hc : jm_cl[ci]? = some (C, T, N)) (hj : j < N) (hlk : Cond.fieldLink M.1.cls i (T j).1 (T j).2.1 (T j).2.2.1 ∈ jm_wG) (hnf : (T j).2.2.2 = true ∧ M.1.name = "<init>" ∧ (T j).1 = M.1.cls) (hs : sh[r]? = some (.inl (ci, rs))) (ht : jm_pok ((jm_ft ci).getD j 0) x)
    (k : jm_G E M d cu su (pc + 3) ls st sh (jm_up h r j x) Q) : jm_G E M d cu su pc ls (jm_I x :: jm_R r :: st) sh h Q := by
  intro p e s m args below meth c H locs as0 as A lsM cx hS hA hx hw hl hlo hso hln
  obtain ⟨c1, c2, c3, c4, c5⟩ := jm_clok hc
  have hjl : j < (jm_ft ci).length := by rw [← c2]; exact hj
  have hpt := jm_pok_ty (ty := jm_ty ci j) (x := x) (by rw [c5 j hj]; exact ht)
  have h2 := jm_pok_2 ht
  refine va_putF (v := .int (Int32.ofInt x)) (ty := jm_ty ci j) cx.1 cx.2.1 cx.2.2.2.2.1 (fun w hw => List.mem_cons_of_mem _ (c1 w hw)) (jm_ty ci) c3 c4 cx.2.2.2.1 cx.2.2.2.2.2.1 hw.2.2.1 hw.2.2.2 hS r (jm_ws_at hs) hc j hj (cx.2.2.2.2.1 _ (List.mem_cons_of_mem _ hlk)) (fun _ z => z) hnf.1 (cx.2.2.2.2.2.2.2.2.1.trans hnf.2.1) hnf.2.2 (c3 j hj) hpt.1 hpt.2 (by rw [jm_fs_len]; exact hjl) hd (fun H1 locs1 hP hD hS1 => ?_)
  refine k p e s m args below meth c H1 locs1 as0 as A lsM cx hS1 hA hx (hw.num hs ?_ (jm_cok_num (hw.2.1 r _ hs) (by rw [if_neg h2.1]; exact jm_sok_head hso)) hP hD) hl hlo (jm_sok_tail (jm_sok_tail hso)) hln
  show Sum.inr (ci, jm_fs as ci rs _) = _
  rw [jm_fs_set (rs' := rs) (f' := fun b => if b = j then x else h r b) hjl (by rw [jm_F_int h2]; simp) (fun i hi => by simp [hi]) (fun _ _ => rfl)]
/-- the world behind a write of a reference -/
theorem jm_Wd.ref {as : List Nat} {A : Nat → Prop} {H H1 : Heap} {r j q ci : Nat} {rs : List (Option Nat)} (hw : jm_Wd E as sh h A H) (hs : sh[r]? = some (.inl (ci, rs))) (hj : j < (jm_ft ci).length) (hjr : j < rs.length) (ht : (jm_ft ci).getD j 0 = 2) (hq : q < sh.length) (hP : va_P E.2.1 jm_cl ((jm_ws E.2.2 as sh h).set r (as.getD r 0, .inr (ci, (jm_fs as ci rs (h r)).set j (.ref (as.getD q 0))))) H1) (hD : va_D A ((jm_ws E.2.2 as sh h).set r (as.getD r 0, .inr (ci, (jm_fs as ci rs (h r)).set j (.ref (as.getD q 0)))))) : jm_Wd E as (sh.set r (.inl (ci, rs.set j (some q)))) h A H1 := by
  have hg : (rs.set j (some q)).getD j none = some q := by simp [List.getD, hjr]
  have hgn : ∀ i, i ≠ j → (rs.set j (some q)).getD i none = rs.getD i none := fun i hi => by simp [List.getD, List.getElem?_set_ne (Ne.symm hi)]
  have e1 : (jm_fs as ci rs (h r)).set j (.ref (as.getD q 0)) = jm_fs as ci (rs.set j (some q)) (h r) := jm_fs_set hj (by rw [ht, hg]; rfl) (fun _ _ => rfl) hgn
  have e2 : jm_row h r (h r) = h := by
    funext a b
    unfold jm_row
    by_cases e : a = r <;> simp [e]
  rw [e1] at hP hD
  have e3 := jm_ws_set (kc := E.2.2) (as := as) (h := h) (c' := .inl (ci, rs.set j (some q))) (h r) hs
  rw [e2] at e3
  have e4 : (jm_ws E.2.2 as sh h).set r (as.getD r 0, .inr (ci, jm_fs as ci (rs.set j (some q)) (h r))) = jm_ws E.2.2 as (sh.set r (.inl (ci, rs.set j (some q)))) h := e3
  rw [e4] at hP hD
  refine ⟨by rw [List.length_set]; exact hw.1, fun i c hi => ?_, hP, hD⟩
  rw [List.length_set]
  by_cases e : i = r
  · subst e
    rw [List.getElem?_set_self ((List.getElem?_eq_some_iff.mp hs).1)] at hi
    cases hi
    have hc0 := hw.2.1 i _ hs
    refine ⟨hc0.1, fun b z hz => ?_⟩
    by_cases eb : b = j
    · subst eb
      rw [hg] at hz
      cases hz
      exact hq
    · rw [hgn b eb] at hz
      exact hc0.2 b z hz
  · rw [List.getElem?_set_ne (Ne.symm e)] at hi
    exact hw.2.1 i c hi
theorem jm_ref_ty {ty : FieldType} (h : jm_tc ty = 2) (a : Nat) : narrow ty (.ref a) = .ref a ∧ fits ty (.ref a) = true := by
  cases ty <;> simp [jm_tc] at h <;> exact ⟨rfl, rfl⟩
theorem jm_putRF {i j r q ci N : Nat} {C : String} {T : u_T} {rs : List (Option Nat)} (hd : decode M.2.1 pc = .ok (.putfield i, 3)) (hc : jm_cl[ci]? = some (C, T, N)) (hj : j < N) (hlk : Cond.fieldLink M.1.cls i (T j).1 (T j).2.1 (T j).2.2.1 ∈ jm_wG) (hnf : (T j).2.2.2 = true ∧ M.1.name = "<init>" ∧ (T j).1 = M.1.cls) (hs : sh[r]? = some (.inl (ci, rs))) (ht : (jm_ft ci).getD j 0 = 2) (hjr : j < rs.length)
    (k : jm_G E M d cu su (pc + 3) ls st (sh.set r (.inl (ci, rs.set j (some q)))) h Q) : jm_G E M d cu su pc ls (jm_R q :: jm_R r :: st) sh h Q := by
  intro p e s m args below meth c H locs as0 as A lsM cx hS hA hx hw hl hlo hso hln
  obtain ⟨c1, c2, c3, c4, c5⟩ := jm_clok hc
  have hjl : j < (jm_ft ci).length := by rw [← c2]; exact hj
  have hpt := jm_ref_ty (ty := jm_ty ci j) (by rw [c5 j hj]; exact ht) (as.getD q 0)
  refine va_putF (v := .ref (as.getD q 0)) (ty := jm_ty ci j) cx.1 cx.2.1 cx.2.2.2.2.1 (fun w hw => List.mem_cons_of_mem _ (c1 w hw)) (jm_ty ci) c3 c4 cx.2.2.2.1 cx.2.2.2.2.2.1 hw.2.2.1 hw.2.2.2 hS r (jm_ws_at hs) hc j hj (cx.2.2.2.2.1 _ (List.mem_cons_of_mem _ hlk)) (fun _ z => z) hnf.1 (cx.2.2.2.2.2.2.2.2.1.trans hnf.2.1) hnf.2.2 (c3 j hj) hpt.1 hpt.2 (by rw [jm_fs_len]; exact hjl) hd (fun H1 locs1 hP hD hS1 => ?_)
  refine k p e s m args below meth c H1 locs1 as0 as A lsM cx hS1 hA hx (hw.ref hs hjl hjr ht (jm_sok_head hso) hP hD) hl (by rw [List.length_set]; exact hlo) (by rw [List.length_set]; exact jm_sok_tail (jm_sok_tail hso)) hln
theorem jm_iaload {r n : Nat} {x : Int} {rs : List (Option Nat)} (hd : decode M.2.1 pc = .ok (.iaload, 1)) (hs : sh[r]? = some (.inr (0, n, rs))) (hb : 0 ≤ x ∧ x < n)
    (k : jm_G E M d cu su (pc + 1) ls (jm_I (h r x.toNat) :: st) sh h Q) : jm_G E M d cu su pc ls (jm_I x :: jm_R r :: st) sh h Q := by
  intro p e s m args below meth c H locs as0 as A lsM cx hS hA hx hw hl hlo hso hln
  have hx0 : jm_o32 x := jm_sok_head hso
  refine va_iald (f := fun j => Int32.ofInt (h r j)) cx.1 cx.2.1 cx.2.2.2.2.2.1 hw.2.2.1 r 0 (jm_ws_at hs) rfl (jm_in hx0 hb.1 hb.2) hd ?_
  rw [jm_clamp hx0]
  exact k p e s m args below meth c H locs as0 as A lsM cx hS hA hx hw hl hlo (jm_sok_cons ((hw.2.1 r _ hs).1 _) (jm_sok_tail (jm_sok_tail hso))) hln
theorem jm_baload {r n : Nat} {x : Int} {rs : List (Option Nat)} (hd : decode M.2.1 pc = .ok (.baload, 1)) (hs : sh[r]? = some (.inr (2, n, rs))) (hb : 0 ≤ x ∧ x < n)
    (k : jm_G E M d cu su (pc + 1) ls (jm_I (h r x.toNat) :: st) sh h Q) : jm_G E M d cu su pc ls (jm_I x :: jm_R r :: st) sh h Q := by
  intro p e s m args below meth c H locs as0 as A lsM cx hS hA hx hw hl hlo hso hln
  have hx0 : jm_o32 x := jm_sok_head hso
  refine va_zald (f := fun j => Int32.ofInt (h r j)) cx.1 cx.2.1 cx.2.2.2.2.2.1 hw.2.2.1 r 2 (jm_ws_at hs) rfl (jm_in hx0 hb.1 hb.2) hd ?_
  rw [jm_clamp hx0]
  exact k p e s m args below meth c H locs as0 as A lsM cx hS hA hx hw hl hlo (jm_sok_cons ((hw.2.1 r _ hs).1 _) (jm_sok_tail (jm_sok_tail hso))) hln
theorem jm_laload {r n : Nat} {x : Int} {rs : List (Option Nat)} (hd : decode M.2.1 pc = .ok (.laload, 1)) (hs : sh[r]? = some (.inr (1, n, rs))) (hb : 0 ≤ x ∧ x < n)
    (k : jm_G E M d cu su (pc + 1) ls (jm_L (h r x.toNat) :: st) sh h Q) : jm_G E M d cu su pc ls (jm_I x :: jm_R r :: st) sh h Q := by
  intro p e s m args below meth c H locs as0 as A lsM cx hS hA hx hw hl hlo hso hln
  have hx0 : jm_o32 x := jm_sok_head hso
  refine va_lald (f := fun j => Int64.ofInt (h r j)) cx.1 cx.2.1 cx.2.2.2.2.2.1 hw.2.2.1 r 1 (jm_ws_at hs) rfl (jm_in hx0 hb.1 hb.2) hd ?_
  rw [jm_clamp hx0]
  exact k p e s m args below meth c H locs as0 as A lsM cx hS hA hx hw hl hlo (jm_sok_cons ((hw.2.1 r _ hs).1 _) (jm_sok_tail (jm_sok_tail hso))) hln
theorem jm_aaload {r q n kd : Nat} {x : Int} {rs : List (Option Nat)} (hd : decode M.2.1 pc = .ok (.aaload, 1)) (hs : sh[r]? = some (.inr (kd, n, rs))) (hkd : kd = 3 ∨ kd = 4) (hb : 0 ≤ x ∧ x < n) (hq : rs.getD x.toNat none = some q)
    (k : jm_G E M d cu su (pc + 1) ls (jm_R q :: st) sh h Q) : jm_G E M d cu su pc ls (jm_I x :: jm_R r :: st) sh h Q := by
  intro p e s m args below meth c H locs as0 as A lsM cx hS hA hx hw hl hlo hso hln
  have hx0 : jm_o32 x := jm_sok_head hso
  have hin := jm_in hx0 hb.1 hb.2
  have hlt : (Int32.ofInt x).toNatClampNeg < n := Nat.not_le.mp fun z => hin (Or.inr z)
  have ho : jm_ok sh.length (jm_R q) := (hw.2.1 r _ hs).2 _ q hq
  have hcell := hw.2.2.1 r _ (jm_ws_at hs)
  have key : ∀ (ty : FieldType) (t0 : Nat), (jm_tys E.2.2)[t0]? = some (E.2.2 kd, ty) → ty.isReference = true → (jm_arr as kd rs (h r) = .inr (.inr (.inr (.inr fun j => (rs.getD j none).map fun i => as.getD i 0)))) → W p E.1 e (jm_rm M d) s m args below meth c H locs cu su (MQ below (jm_Qc E as0 A Q) args s M.2.2.2.2.1 M.2.2.2.2.2 A) (F0 m pc lsM ((jm_I x :: jm_R r :: st).map (jm_E as))) := by
    intro ty t0 ht href harr
    have hcell2 : H[as.getD r 0]? = some (vp_cell (E.2.2 kd) (n, jm_arr as kd rs (h r))) := hcell
    rw [harr, vp_cell_q] at hcell2
    refine W.aald (v := va_rf ((rs.getD x.toNat none).map fun i => as.getD i 0)) (ty := ty) cx.1 cx.2.1 hcell2 ((cx.2.2.2.2.2.1.2 t0 _ ht).1 n _) href (fun z => by cases z) (by rw [arrV_size]; exact hin) (by rw [arrV_read _ _ hlt, jm_clamp hx0]) rfl rfl hd ?_
    rw [hq]
    exact k p e s m args below meth c H locs as0 as A lsM cx hS hA hx hw hl hlo (jm_sok_cons ho (jm_sok_tail (jm_sok_tail hso))) hln
  rcases hkd with rfl | rfl
  · exact key _ 3 rfl rfl rfl
  · exact key _ 4 rfl rfl rfl
theorem jm_iastore {r n : Nat} {x v : Int} {rs : List (Option Nat)} (hd : decode M.2.1 pc = .ok (.iastore, 1)) (hs : sh[r]? = some (.inr (0, n, rs))) (hb : 0 ≤ x ∧ x < n)
    (k : jm_G E M d cu su (pc + 1) ls st sh (jm_up h r x.toNat v) Q) : jm_G E M d cu su pc ls (jm_I v :: jm_I x :: jm_R r :: st) sh h Q := by
  intro p e s m args below meth c H locs as0 as A lsM cx hS hA hx hw hl hlo hso hln
  have hx0 : jm_o32 x := jm_sok_head (jm_sok_tail hso)
  refine va_iast (f := fun j => Int32.ofInt (h r j)) cx.1 cx.2.1 cx.2.2.2.2.2.1 hw.2.2.1 hw.2.2.2 hS r 0 (jm_ws_at hs) rfl (jm_in hx0 hb.1 hb.2) hd (fun H1 locs1 hP hD hS1 => ?_)
  refine k p e s m args below meth c H1 locs1 as0 as A lsM cx hS1 hA hx (hw.num hs ?_ (jm_cok_arr (hw.2.1 r _ hs) (jm_sok_head hso)) hP hD) hl hlo (jm_sok_tail (jm_sok_tail (jm_sok_tail hso))) hln
  rw [jm_clamp hx0, jm_upd]
  rfl
theorem jm_bastore {r n : Nat} {x v : Int} {rs : List (Option Nat)} (hd : decode M.2.1 pc = .ok (.bastore, 1)) (hs : sh[r]? = some (.inr (2, n, rs))) (hb : 0 ≤ x ∧ x < n) (hv : v = 0 ∨ v = 1)
    (k : jm_G E M d cu su (pc + 1) ls st sh (jm_up h r x.toNat v) Q) : jm_G E M d cu su pc ls (jm_I v :: jm_I x :: jm_R r :: st) sh h Q := by
  intro p e s m args below meth c H locs as0 as A lsM cx hS hA hx hw hl hlo hso hln
  have hx0 : jm_o32 x := jm_sok_head (jm_sok_tail hso)
  refine va_zast (f := fun j => Int32.ofInt (h r j)) cx.1 cx.2.1 cx.2.2.2.2.2.1 hw.2.2.1 hw.2.2.2 hS r 2 (jm_ws_at hs) rfl (jm_in hx0 hb.1 hb.2) hd (fun H1 locs1 hP hD hS1 => ?_)
  refine k p e s m args below meth c H1 locs1 as0 as A lsM cx hS1 hA hx (hw.num hs ?_ (jm_cok_arr (hw.2.1 r _ hs) (jm_sok_head hso)) hP hD) hl hlo (jm_sok_tail (jm_sok_tail (jm_sok_tail hso))) hln
  have hn : vp_nar .boolean (Int32.ofInt v) = Int32.ofInt v := by
    unfold vp_nar
    rw [(jm_nb hv).1]
  rw [jm_clamp hx0, hn, jm_upd]
  rfl
theorem jm_lastore {r n : Nat} {x v : Int} {rs : List (Option Nat)} (hd : decode M.2.1 pc = .ok (.lastore, 1)) (hs : sh[r]? = some (.inr (1, n, rs))) (hb : 0 ≤ x ∧ x < n)
    (k : jm_G E M d cu su (pc + 1) ls st sh (jm_up h r x.toNat v) Q) : jm_G E M d cu su pc ls (jm_L v :: jm_I x :: jm_R r :: st) sh h Q := by
  intro p e s m args below meth c H locs as0 as A lsM cx hS hA hx hw hl hlo hso hln
  have hx0 : jm_o32 x := jm_sok_head (jm_sok_tail hso)
  refine va_last (f := fun j => Int64.ofInt (h r j)) cx.1 cx.2.1 cx.2.2.2.2.2.1 hw.2.2.1 hw.2.2.2 hS r 1 (jm_ws_at hs) rfl (jm_in hx0 hb.1 hb.2) hd (fun H1 locs1 hP hD hS1 => ?_)
  refine k p e s m args below meth c H1 locs1 as0 as A lsM cx hS1 hA hx (hw.num hs ?_ (jm_cok_arr (hw.2.1 r _ hs) (jm_sok_head hso)) hP hD) hl hlo (jm_sok_tail (jm_sok_tail (jm_sok_tail hso))) hln
  rw [jm_clamp hx0, jm_updL]
  rfl
theorem jm_alen {r n kd : Nat} {rs : List (Option Nat)} (hd : decode M.2.1 pc = .ok (.arraylength, 1)) (hs : sh[r]? = some (.inr (kd, n, rs))) (hkd : kd < 5) (hn : n < 2147483648)
    (k : jm_G E M d cu su (pc + 1) ls (jm_I n :: st) sh h Q) : jm_G E M d cu su pc ls (jm_R r :: st) sh h Q := by
  intro p e s m args below meth c H locs as0 as A lsM cx hS hA hx hw hl hlo hso hln
  have ho : jm_o32 (n : Int) := ⟨by omega, by omega⟩
  have ht : ∃ ty, (jm_tys E.2.2)[kd]? = some (E.2.2 kd, ty) := by
    rcases (show kd = 0 ∨ kd = 1 ∨ kd = 2 ∨ kd = 3 ∨ kd = 4 by omega) with rfl | rfl | rfl | rfl | rfl <;> exact ⟨_, rfl⟩
  obtain ⟨ty, ht⟩ := ht
  exact va_alen cx.1 cx.2.1 cx.2.2.2.2.2.1 hw.2.2.1 r kd (jm_ws_at hs) ht (show Int32.ofNat n = Int32.ofInt (n : Int) from rfl) hd (k p e s m args below meth c H locs as0 as A lsM cx hS hA hx hw hl hlo (jm_sok_cons ho (jm_sok_tail hso)) hln)
/-! ends -/
theorem jm_ret_end {as0 as : List Nat} {A : Nat → Prop} {H : Heap} {s t : State} {locs : List Loc} {args : Array Value} {r : Option jm_V} (hS : va_S A s.heap H locs) (hx : ∃ x, as = as0 ++ x) (hw : jm_Wd E as sh h A H) (hq : Q r sh h) (hr : ∀ v, r = some v → jm_ok sh.length v) (ht : t.heap = H) : jm_Qc E as0 A Q args s (.returned (r.map (jm_E as))) t := by
  obtain ⟨x, rfl⟩ := hx
  exact ⟨⟨r, sh, h, x, rfl, hq, hr, by rw [ht]; exact hw⟩, hS.F ht⟩
theorem jm_ireturn {x : Int} (hd : decode M.2.1 pc = .ok (.ireturn, 1)) (hr : M.2.2.2.1 = some .int) (hc : cu ≤ M.2.2.2.2.1 ∧ su ≤ M.2.2.2.2.2) (hq : Q (some (jm_I x)) sh h) : jm_G E M d cu su pc ls [jm_I x] sh h Q := by
  intro p e s m args below meth c H locs as0 as A lsM cx hS hA hx hw hl hlo hso hln
  have hlocks : meth.locks = false := cx.2.2.2.2.2.2.2.1
  refine W.widen hc.1 hc.2 ?_
  exact W.iret cx.1 cx.2.1 (cx.2.2.2.2.2.2.1.trans hr) (fun t ht hW => jm_ret_end (r := some (jm_I x)) hS hx hw hq (fun v hv => by cases hv; exact jm_sok_head hso) ht) hS.2.2 hd
theorem jm_zreturn {x : Int} (hd : decode M.2.1 pc = .ok (.ireturn, 1)) (hr : M.2.2.2.1 = some .boolean) (hb : x = 0 ∨ x = 1) (hc : cu ≤ M.2.2.2.2.1 ∧ su ≤ M.2.2.2.2.2) (hq : Q (some (jm_I x)) sh h) : jm_G E M d cu su pc ls [jm_I x] sh h Q := by
  intro p e s m args below meth c H locs as0 as A lsM cx hS hA hx hw hl hlo hso hln
  have hlocks : meth.locks = false := cx.2.2.2.2.2.2.2.1
  refine W.widen hc.1 hc.2 ?_
  exact W.zret cx.1 cx.2.1 (cx.2.2.2.2.2.2.1.trans hr) (jm_nb hb).1 (fun t ht hW => jm_ret_end (r := some (jm_I x)) hS hx hw hq (fun v hv => by cases hv; exact jm_sok_head hso) ht) hS.2.2 hd
theorem jm_lreturn {x : Int} (hd : decode M.2.1 pc = .ok (.lreturn, 1)) (hr : M.2.2.2.1 = some .long) (hc : cu ≤ M.2.2.2.2.1 ∧ su ≤ M.2.2.2.2.2) (hq : Q (some (jm_L x)) sh h) : jm_G E M d cu su pc ls [jm_L x] sh h Q := by
  intro p e s m args below meth c H locs as0 as A lsM cx hS hA hx hw hl hlo hso hln
  have hlocks : meth.locks = false := cx.2.2.2.2.2.2.2.1
  refine W.widen hc.1 hc.2 ?_
  exact W.lret cx.1 cx.2.1 (cx.2.2.2.2.2.2.1.trans hr) (fun t ht hW => jm_ret_end (r := some (jm_L x)) hS hx hw hq (fun v hv => by cases hv; exact jm_sok_head hso) ht) hS.2.2 hd
theorem jm_vreturn (hd : decode M.2.1 pc = .ok (.return_, 1)) (hr : M.2.2.2.1 = none) (hc : cu ≤ M.2.2.2.2.1 ∧ su ≤ M.2.2.2.2.2) (hq : Q none sh h) : jm_G E M d cu su pc ls [] sh h Q := by
  intro p e s m args below meth c H locs as0 as A lsM cx hS hA hx hw hl hlo hso hln
  have hlocks : meth.locks = false := cx.2.2.2.2.2.2.2.1
  refine W.widen hc.1 hc.2 ?_
  exact W.vret cx.1 cx.2.1 (cx.2.2.2.2.2.2.1.trans hr) (fun t ht hW => jm_ret_end (r := none) hS hx hw hq (fun v hv => by cases hv) ht) hS.2.2 hd
end JMM
end
section
/-! calls -/
theorem jm_E_app {as x : List Nat} {v : jm_V} (h : jm_ok as.length v) : jm_E (as ++ x) v = jm_E as v := by
  rcases v with z | z | r
  · rfl
  · rfl
  · show Value.ref ((as ++ x).getD r 0) = Value.ref (as.getD r 0)
    have hr : r < as.length := h
    simp [List.getD, List.getElem?_append_left hr]
theorem jm_ok_mono {n n' : Nat} {v : jm_V} (h : jm_ok n v) (hn : n ≤ n') : jm_ok n' v := by
  rcases v with z | z | r
  · exact h
  · exact h
  · exact Nat.lt_of_lt_of_le h hn
theorem jm_lv_app {as x : List Nat} {ls : List (Option jm_V)} {lsM : Array Slot} {n : Nat} (hl : lv_has lsM n (jm_lv as ls)) (hlo : jm_lok as.length ls) : lv_has lsM n (jm_lv (as ++ x) ls) := by
  refine ⟨hl.1, hl.2.1, fun q hq => ?_⟩
  obtain ⟨v, h1, h2⟩ := jm_lv_mem hq
  rw [h2, jm_E_app (hlo _ _ h1)]
  exact jm_lv_at hl h1
theorem jm_map_app {as x : List Nat} {st : List jm_V} (h : jm_sok as.length st) : st.map (jm_E (as ++ x)) = st.map (jm_E as) := List.map_congr_left fun v hv => jm_E_app (h v hv)
theorem jm_wG_good {w : Cond} (h : w ∈ jm_wG) : (w.onTables && w.keeps) = true ∨ ∃ ty, w = .arrayClass ty := good_of_word (List.mem_filter.mp h).2
theorem jm_good {M M' : jm_M} (hc : Cond.code M'.1 M'.2.1 M'.2.2.1 M'.2.2.2.1 ∈ jm_wG) : GoodIn (jm_wsM M) (jm_wsM M') := by
  intro w hw
  have h : w ∈ jm_wG := by
    rcases List.mem_cons.mp hw with rfl | q
    · exact hc
    · exact q
  exact ⟨List.mem_cons_of_mem _ h, jm_wG_good h⟩
/-- what the tables say of a method that is called: an instance's, a class's, a constructor -/
def jm_kV (M : jm_M) (n : Nat) : Prop := Cond.instanceMethod M.1 ∈ jm_wG ∧ Cond.selects M.1.cls M.1 M.1 ∈ jm_wG ∧ Cond.initialized M.1.cls ∈ jm_wG ∧ Cond.code M.1 M.2.1 M.2.2.1 M.2.2.2.1 ∈ jm_wG ∧ (M.1.cls ≠ "java/lang/invoke/MethodHandle" ∧ M.1.cls ≠ "java/lang/invoke/VarHandle" ∧ (parseMethodDescriptor M.1.desc).map (fun d => d.parameters.length) = some n) ∧ M.2.2.1 ≤ 21
def jm_kS (M : jm_M) (n : Nat) : Prop := Cond.static M.1 ∈ jm_wG ∧ Cond.initialized M.1.cls ∈ jm_wG ∧ Cond.code M.1 M.2.1 M.2.2.1 M.2.2.2.1 ∈ jm_wG ∧ (M.1.cls ≠ "java/lang/invoke/MethodHandle" ∧ M.1.cls ≠ "java/lang/invoke/VarHandle" ∧ (parseMethodDescriptor M.1.desc).map (fun d => d.parameters.length) = some n) ∧ M.2.2.1 ≤ 21
def jm_kI (M : jm_M) (n : Nat) : Prop := Cond.instanceMethod M.1 ∈ jm_wG ∧ M.1.name = "<init>" ∧ Cond.initialized M.1.cls ∈ jm_wG ∧ Cond.code M.1 M.2.1 M.2.2.1 none ∈ jm_wG ∧ M.2.2.2.1 = none ∧ (M.1.cls ≠ "java/lang/invoke/MethodHandle" ∧ M.1.cls ≠ "java/lang/invoke/VarHandle" ∧ (parseMethodDescriptor M.1.desc).map (fun d => d.parameters.length) = some n) ∧ M.2.2.1 ≤ 21
section JMC
variable {E : jm_Env} {M M' : jm_M} {d d' cu su pc : Nat} {ls : List (Option jm_V)} {st : List jm_V} {sh : List jm_C} {h : jm_H} {Q : jm_Q}
/-- behind a call -/
theorem jm_behind {p : Program} {e : Env} {s : State} {m : MethodId} {args : Array Value} {below : List Frame} {meth : Method} {c : Code} {H : Heap} {locs : List Loc} {as0 as : List Nat} {A : Nat → Prop} {lsM : Array Slot} {a : Array Value} {st0 : List Value}
    (cx : jm_Cx E M p s m args meth c) (hS : va_S A s.heap H locs) (hA : ∀ q, s.heap.size ≤ q → A q) (hx : ∃ x, as = as0 ++ x) (hw : jm_Wd E as sh h A H) (hl : lv_has lsM M.2.2.1 (jm_lv as ls)) (hlo : jm_lok sh.length ls) (hso : jm_sok sh.length st) (hln : ls.length = M.2.2.1)
    (hr : va_Run p E.1 e (jm_rm M d) s m args below meth c H locs cu su M'.2.2.2.2.1 M'.2.2.2.2.2 (F0 m pc lsM st0) (st.map (jm_E as)) (jm_Qc E as (va_A (jm_ws E.2.2 as sh h) H.size) (fun r sh' h' => jm_G E M d (cu + M'.2.2.2.2.1) (su + M'.2.2.2.2.2) (pc + 3) ls (r.toList ++ st) sh' h' Q) a) (va_A (jm_ws E.2.2 as sh h) H.size)) :
    W p E.1 e (jm_rm M d) s m args below meth c H locs cu su (MQ below (jm_Qc E as0 A Q) args s M.2.2.2.2.1 M.2.2.2.2.2 A) (F0 m pc lsM st0) := by
  have hsub : ∀ q, va_A (jm_ws E.2.2 as sh h) H.size q → A q := by
    intro q hq
    rcases hq with ⟨k, el, hk⟩ | hk
    · exact hw.2.2.2.2 k _ hk
    · exact hA q (Nat.le_trans hS.1 hk)
  intro T hT X
  obtain ⟨v, st₀, t, T', L, h0, X', hL, e1, e2, ⟨⟨r, sh', h', x', hv, hQ, hro, hWd⟩, hz, hk⟩, stp⟩ := hr T hT X
  cases hv
  rw [h0] at hz hk
  have hlen : sh.length ≤ sh'.length := by
    have h1 := hWd.1
    rw [List.length_append, hw.1] at h1
    omega
  have hS1 : va_S A s.heap T'.heap (locs ++ L) := ⟨Nat.le_trans hS.1 (by rw [e1]; exact hz), fun q h1 h2 => by rw [e1, hk q (Nat.lt_of_lt_of_le h1 hS.1) (fun z => h2 (hsub q z))]; exact hS.2.1 q h1 h2, fun q hq => by
    rcases List.mem_append.mp hq with z | z
    · exact hS.2.2 q z
    · exact hsub _ (hL q z)⟩
  have hW1 : jm_Wd E (as ++ x') sh' h' A T'.heap := by
    rw [e1]
    exact ⟨hWd.1, hWd.2.1, hWd.2.2.1, hWd.2.2.2.weaken (fun k q hq hz => hsub _ hz)⟩
  have hlo1 : jm_lok as.length ls := by rw [hw.1]; exact hlo
  have hso1 : jm_sok as.length st := by rw [hw.1]; exact hso
  have hso2 : jm_sok sh'.length (r.toList ++ st) := by
    intro w hw2
    rcases List.mem_append.mp hw2 with z | z
    · exact hro w (by simpa using z)
    · exact jm_ok_mono (hso w z) hlen
  have K := hQ p e s m args below meth c T'.heap (locs ++ L) as0 (as ++ x') A lsM cx hS1 hA (by obtain ⟨x, rfl⟩ := hx; exact ⟨x ++ x', List.append_assoc _ _ _⟩) hW1 (jm_lv_app hl hlo1) (fun i w hi => jm_ok_mono (hlo i w hi) hlen) hso2 hln T' rfl X'
  obtain ⟨t2, a1, b1⟩ := K
  refine ⟨t2, stp t2 ?_, b1⟩
  have e3 : (r.toList ++ st).map (jm_E (as ++ x')) = (r.map (jm_E (as ++ x'))).toList ++ st.map (jm_E as) := by
    rw [List.map_append, jm_map_app hso1]
    cases r <;> rfl
  rw [e3] at a1
  exact a1
theorem jm_pre {as : List Nat} {A : Nat → Prop} {H : Heap} {s U : State} {av : List jm_V} (hK : va_K E.2.1 jm_cl (jm_tys E.2.2) s) (hK2 : jm_K2 s) (hw : jm_Wd E as sh h A H) (hav : ∀ v ∈ av, jm_ok sh.length v) (hU : U.heap = H) (hW : s.WarmedH U.vm) : va_Pc (av.map (jm_E as)) (fun U => U.heap.size = H.size ∧ jm_Wd E as sh h (fun _ => True) U.heap ∧ (∀ v ∈ av, jm_ok sh.length v) ∧ va_K E.2.1 jm_cl (jm_tys E.2.2) U ∧ jm_K2 U) (av.map (jm_E as)).toArray U :=
  ⟨rfl, by rw [hU], by rw [hU]; exact ⟨hw.1, hw.2.1, hw.2.2.1, hw.2.2.2.weaken (fun _ _ _ _ => trivial)⟩, hav, va_K.moved hW.alike hK, hK2.warm hW⟩
theorem jm_blind {as : List Nat} {sz : Nat} {av : List jm_V} : FrameBlind (va_Pc (av.map (jm_E as)) (fun U => U.heap.size = sz ∧ jm_Wd E as sh h (fun _ => True) U.heap ∧ (∀ v ∈ av, jm_ok sh.length v) ∧ va_K E.2.1 jm_cl (jm_tys E.2.2) U ∧ jm_K2 U)) :=
  fun a U g mk q => ⟨q.1, q.2.1, q.2.2.1, q.2.2.2.1, va_K.moved (u := U) (U := U.calling g mk a) (Vm.Alike.refl U.vm) q.2.2.2.2.1, jm_K2.same (u := U) (U := U.calling g mk a) rfl q.2.2.2.2.2⟩
theorem jm_invS {i n : Nat} {av : List jm_V} (hd : decode M.2.1 pc = .ok (.invokestatic i, 3)) (hk : jm_kS M' n) (hlk : Cond.methodLink M.1.cls i M'.1 ∈ jm_wG) (hn : av.length = n) (hdd : d' + 1 ≤ d) (hmc : cu + M'.2.2.2.2.1 ≤ M.2.2.2.2.1 ∧ su + M'.2.2.2.2.2 ≤ M.2.2.2.2.2) (hst : (st.map fun v => if jm_two (some v) then 2 else 1).sum ≤ 8)
    (k : jm_Call E M' d' av sh h (fun r sh' h' => jm_G E M d (cu + M'.2.2.2.2.1) (su + M'.2.2.2.2.2) (pc + 3) ls (r.toList ++ st) sh' h' Q)) : jm_G E M d cu su pc ls (av.reverse ++ st) sh h Q := by
  intro p e s m args below meth c H locs as0 as A lsM cx hS hA hx hw hl hlo hso hln
  obtain ⟨k1, k2, k3, k4, k5⟩ := hk
  have ht := cx.2.2.2.2.1
  have hav : ∀ v ∈ av, jm_ok sh.length v := fun v hv => hso v (List.mem_append.mpr (Or.inl (List.mem_reverse.mpr hv)))
  refine jm_behind (M' := M') (a := (av.map (jm_E as)).toArray) cx hS hA hx hw hl hlo (fun v hv => hso v (List.mem_append.mpr (Or.inr hv))) hln ?_
  refine va_runS (As := av.map (jm_E as)) (n := n) ⟨cx.1, cx.2.1, cx.2.2.1, cx.2.2.2.1, ht⟩ (k as H.size) ⟨callB_of n ht (jm_good k3) rfl rfl rfl (ht _ (List.mem_cons_of_mem _ k2)) (ht _ (List.mem_cons_of_mem _ hlk)) k4 ⟨hdd, ?_⟩, ht _ (List.mem_cons_of_mem _ k1)⟩ ⟨jm_blind, fun U hU hW => jm_pre cx.2.2.2.2.2.1 cx.2.2.2.2.2.2.2.2.2 hw hav hU hW⟩ rfl (by rw [List.length_map]; exact hn) hl.1 (by show List.map _ _ = _; rw [List.map_append, List.map_reverse]) ?_ hd hmc
  · show 8 + (M'.2.2.1 + 11) + 40 * d' ≤ 40 * d
    omega
  · refine lv_room ?_
    rw [List.map_map]
    have : (fun v : Value => v.category) ∘ jm_E as = fun v => if jm_two (some v) then 2 else 1 := by
      funext v
      exact jm_two_cat
    rw [this]
    exact hst
theorem jm_invV {i n b ci : Nat} {rs : List (Option Nat)} {C : String} {T : u_T} {N : Nat} {av : List jm_V} (hd : decode M.2.1 pc = .ok (.invokevirtual i, 3)) (hk : jm_kV M' n) (hlk : Cond.methodLink M.1.cls i M'.1 ∈ jm_wG) (hn : av.length = n) (hdd : d' + 1 ≤ d) (hmc : cu + M'.2.2.2.2.1 ≤ M.2.2.2.2.1 ∧ su + M'.2.2.2.2.2 ≤ M.2.2.2.2.2) (hst : (st.map fun v => if jm_two (some v) then 2 else 1).sum ≤ 8) (hs : sh[b]? = some (.inl (ci, rs))) (hc : jm_cl[ci]? = some (C, T, N)) (hC : C = M'.1.cls)
    (k : jm_Call E M' d' (jm_R b :: av) sh h (fun r sh' h' => jm_G E M d (cu + M'.2.2.2.2.1) (su + M'.2.2.2.2.2) (pc + 3) ls (r.toList ++ st) sh' h' Q)) : jm_G E M d cu su pc ls (av.reverse ++ jm_R b :: st) sh h Q := by
  intro p e s m args below meth c H locs as0 as A lsM cx hS hA hx hw hl hlo hso hln
  obtain ⟨k1, k1b, k2, k3, k4, k5⟩ := hk
  have ht := cx.2.2.2.2.1
  have hav : ∀ v ∈ jm_R b :: av, jm_ok sh.length v := fun v hv => by
    rcases List.mem_cons.mp hv with rfl | hv
    · exact hso _ (List.mem_append.mpr (Or.inr List.mem_cons_self))
    · exact hso v (List.mem_append.mpr (Or.inl (List.mem_reverse.mpr hv)))
  refine jm_behind (M' := M') (a := ((jm_R b :: av).map (jm_E as)).toArray) cx hS hA hx hw hl hlo (fun v hv => hso v (List.mem_append.mpr (Or.inr (List.mem_cons_of_mem _ hv)))) hln ?_
  refine va_runV (C := C) (As := av.map (jm_E as)) (n := n) ⟨cx.1, cx.2.1, cx.2.2.1, cx.2.2.2.1, ht⟩ (k as H.size) ⟨callB_of n ht (jm_good k3) rfl rfl rfl (ht _ (List.mem_cons_of_mem _ k2)) (ht _ (List.mem_cons_of_mem _ hlk)) k4 ⟨hdd, ?_⟩, ht _ (List.mem_cons_of_mem _ k1), by subst hC; exact ht _ (List.mem_cons_of_mem _ k1b)⟩ ⟨jm_blind, va_recv cx.2.2.2.2.2.1 hw.2.2.1 hc (jm_ws_at hs), fun U hU hW => jm_pre cx.2.2.2.2.2.1 cx.2.2.2.2.2.2.2.2.2 hw hav hU hW⟩ rfl (by rw [List.length_map]; exact hn) hl.1 (by show List.map _ _ = _; rw [List.map_append, List.map_reverse]; rfl) ?_ hd hmc
  · show 8 + (M'.2.2.1 + 11) + 40 * d' ≤ 40 * d
    omega
  · refine lv_room ?_
    rw [List.map_map]
    have : (fun v : Value => v.category) ∘ jm_E as = fun v => if jm_two (some v) then 2 else 1 := by
      funext v
      exact jm_two_cat
    rw [this]
    exact hst
theorem jm_invI {i n b : Nat} {av : List jm_V} (hd : decode M.2.1 pc = .ok (.invokespecial i, 3)) (hk : jm_kI M' n) (hlk : Cond.methodLink M.1.cls i M'.1 ∈ jm_wG) (hn : av.length = n) (hdd : d' + 1 ≤ d) (hmc : cu + M'.2.2.2.2.1 ≤ M.2.2.2.2.1 ∧ su + M'.2.2.2.2.2 ≤ M.2.2.2.2.2) (hst : (st.map fun v => if jm_two (some v) then 2 else 1).sum ≤ 8)
    (k : jm_Call E M' d' (jm_R b :: av) sh h (fun r sh' h' => jm_G E M d (cu + M'.2.2.2.2.1) (su + M'.2.2.2.2.2) (pc + 3) ls (r.toList ++ st) sh' h' Q)) : jm_G E M d cu su pc ls (av.reverse ++ jm_R b :: st) sh h Q := by
  intro p e s m args below meth c H locs as0 as A lsM cx hS hA hx hw hl hlo hso hln
  obtain ⟨k1, k1b, k2, k3, k3b, k4, k5⟩ := hk
  have ht := cx.2.2.2.2.1
  have hav : ∀ v ∈ jm_R b :: av, jm_ok sh.length v := fun v hv => by
    rcases List.mem_cons.mp hv with rfl | hv
    · exact hso _ (List.mem_append.mpr (Or.inr List.mem_cons_self))
    · exact hso v (List.mem_append.mpr (Or.inl (List.mem_reverse.mpr hv)))
  have hM := k as H.size
  refine jm_behind (M' := M') (a := ((jm_R b :: av).map (jm_E as)).toArray) cx hS hA hx hw hl hlo (fun v hv => hso v (List.mem_append.mpr (Or.inr (List.mem_cons_of_mem _ hv)))) hln ?_
  refine va_runI (As := av.map (jm_E as)) (n := n) ⟨cx.1, cx.2.1, cx.2.2.1, cx.2.2.2.1, ht⟩ hM ⟨callB_of n ht (jm_good (by rw [k3b]; exact k3)) (by unfold jm_wsM; rw [k3b]) rfl rfl (ht _ (List.mem_cons_of_mem _ k2)) (ht _ (List.mem_cons_of_mem _ hlk)) k4 ⟨hdd, ?_⟩, k1b, ht _ (List.mem_cons_of_mem _ k1)⟩ ⟨jm_blind, fun U hU hW => jm_pre cx.2.2.2.2.2.1 cx.2.2.2.2.2.2.2.2.2 hw hav hU hW⟩ rfl (by rw [List.length_map]; exact hn) hl.1 (by show List.map _ _ = _; rw [List.map_append, List.map_reverse]; rfl) ?_ hd hmc
  · show 8 + (M'.2.2.1 + 11) + 40 * d' ≤ 40 * d
    omega
  · refine lv_room ?_
    rw [List.map_map]
    have : (fun v : Value => v.category) ∘ jm_E as = fun v => if jm_two (some v) then 2 else 1 := by
      funext v
      exact jm_two_cat
    rw [this]
    exact hst
/-- a method's locals at its entry -/
def jm_ent : List jm_V → Nat → List (Option jm_V)
  | [], n => List.replicate n none
  | v :: vs, n => if jm_two (some v) then some v :: none :: jm_ent vs (n - 2) else some v :: jm_ent vs (n - 1)
theorem jm_ent_in {as : List Nat} : ∀ (av : List jm_V) (n k i : Nat) (v : jm_V), (jm_ent av n)[i]? = some (some v) → (k + i, jm_E as v) ∈ lv_args k (av.map (jm_E as))
  | [], n, k, i, v, h => by
    simp [jm_ent, List.getElem?_replicate] at h
  | w :: vs, n, k, i, v, h => by
    unfold jm_ent at h
    show _ ∈ (k, jm_E as w) :: lv_args (if (jm_E as w).category = 2 then k + 2 else k + 1) (vs.map (jm_E as))
    rw [jm_two_cat]
    by_cases t : jm_two (some w) = true
    · rw [if_pos t] at h ⊢
      rw [if_pos rfl]
      match i, h with
      | 0, h =>
        simp at h
        rw [← h]
        exact List.mem_cons_self
      | 1, h => simp at h
      | i + 2, h =>
        have h2 : (jm_ent vs (n - 2))[i]? = some (some v) := by simpa using h
        have := jm_ent_in (as := as) vs (n - 2) (k + 2) i v h2
        rw [show k + (i + 2) = k + 2 + i by omega]
        exact List.mem_cons_of_mem _ this
    · rw [if_neg t] at h ⊢
      rw [if_neg (by decide)]
      match i, h with
      | 0, h =>
        simp at h
        rw [← h]
        exact List.mem_cons_self
      | i + 1, h =>
        have h2 : (jm_ent vs (n - 1))[i]? = some (some v) := by simpa using h
        have := jm_ent_in (as := as) vs (n - 1) (k + 1) i v h2
        rw [show k + (i + 1) = k + 1 + i by omega]
        exact List.mem_cons_of_mem _ this
theorem jm_ent_ok {m : Nat} : ∀ (av : List jm_V) (n i : Nat) (v : jm_V), (∀ v ∈ av, jm_ok m v) → (jm_ent av n)[i]? = some (some v) → jm_ok m v
  | [], n, i, v, hv, h => by simp [jm_ent, List.getElem?_replicate] at h
  | w :: vs, n, i, v, hv, h => by
    unfold jm_ent at h
    by_cases t : jm_two (some w) = true
    · rw [if_pos t] at h
      match i, h with
      | 0, h =>
        simp at h
        rw [← h]
        exact hv w List.mem_cons_self
      | 1, h => simp at h
      | i + 2, h => exact jm_ent_ok vs (n - 2) i v (fun z hz => hv z (List.mem_cons_of_mem _ hz)) (by simpa using h)
    · rw [if_neg t] at h
      match i, h with
      | 0, h =>
        simp at h
        rw [← h]
        exact hv w List.mem_cons_self
      | i + 1, h => exact jm_ent_ok vs (n - 1) i v (fun z hz => hv z (List.mem_cons_of_mem _ hz)) (by simpa using h)
/-- a contract out of the walk of the body -/
theorem jm_body {av : List jm_V} {ls0 : List (Option jm_V)} (hy : plainFor M.1 = true) (h0 : jm_ent av M.2.2.1 = ls0) (hlen : (jm_ent av M.2.2.1).length = M.2.2.1) (hsl : (av.map fun v => if jm_two (some v) then 2 else 1).sum ≤ M.2.2.1)
    (k : jm_G E M d 0 0 0 ls0 [] sh h Q) : jm_Call E M d av sh h Q := by
  subst h0
  intro as sz
  refine va_MetF (cc := M.2.1) (maxL := M.2.2.1) (ret := M.2.2.2.1) hy rfl ?_
  intro p e s m args below meth c s₁ B hml hv
  obtain ⟨rfl, hsz, hw, hok, hK, hK2⟩ := hv
  subst hsz
  have hname := (name_of_methodNamed B.named B.method).1
  have cx : jm_Cx E M p s m (av.map (jm_E as)).toArray meth c := ⟨B.exec, B.bytes, hml, findClass_of_methodNamed B.named, atoms_spec (ws := jm_wsM M) B.pre, hK, B.returns, B.notSynchronized, hname, hK2⟩
  have hlen2 : (lg_sl (av.map (jm_E as))).length ≤ M.2.2.1 := by
    refine Nat.le_trans (Nat.le_of_eq ?_) hsl
    unfold lg_sl
    rw [List.length_flatMap, List.map_map]
    congr 1
    apply List.map_congr_left
    intro v _
    show (if (jm_E as v).category = 2 then _ else _ : List Slot).length = _
    rw [jm_two_cat]
    cases jm_two (some v) <;> rfl
  have hl := lv_entry (av.map (jm_E as)) (n := M.2.2.1) hlen2
  rw [lg_entry_eq]
  generalize (lg_sl (av.map (jm_E as)) ++ List.replicate (M.2.2.1 - (lg_sl (av.map (jm_E as))).length) Slot.unset).toArray = lsM at hl ⊢
  have hl2 : lv_has lsM M.2.2.1 (jm_lv as (jm_ent av M.2.2.1)) := ⟨hl.1, hl.2.1, fun q hq => by
    obtain ⟨v, h1, h2⟩ := jm_lv_mem hq
    refine hl.2.2 q ?_
    have := jm_ent_in (as := as) av M.2.2.1 0 q.1 v h1
    rw [Nat.zero_add, ← h2] at this
    exact this⟩
  exact k p e s m _ below meth c s.heap [] as as (va_A (jm_ws E.2.2 as sh h) s.heap.size) lsM cx va_S.rf (fun q hq => Or.inr hq) ⟨[], (List.append_nil _).symm⟩ ⟨hw.1, hw.2.1, hw.2.2.1, hw.2.2.2.self⟩ hl2 (fun i v hi => jm_ent_ok av M.2.2.1 i v hok hi) (fun v hv => by cases hv) hlen
end JMC
end
section
/-! what is made: objects, rows, rows of rows -/
theorem jm_fs_app {as x : List Nat} {ci : Nat} {rs : List (Option Nat)} {f : Nat → Int} (h : ∀ j r, rs.getD j none = some r → r < as.length) : jm_fs (as ++ x) ci rs f = jm_fs as ci rs f := by
  unfold jm_fs
  apply List.map_congr_left
  intro j _
  unfold jm_F
  split
  · rfl
  · split
    · congr 1
      cases hr : rs.getD j none with
      | none => rfl
      | some r =>
        have := h j r hr
        simp [List.getD, List.getElem?_append_left this]
    · rfl
theorem jm_arr_app {as x : List Nat} {kd : Nat} {rs : List (Option Nat)} {f : Nat → Int} (h : ∀ j r, rs.getD j none = some r → r < as.length) : jm_arr (as ++ x) kd rs f = jm_arr as kd rs f := by
  unfold jm_arr
  split
  · rfl
  · split
    · rfl
    · congr 4
      funext j
      cases hr : rs.getD j none with
      | none => rfl
      | some r =>
        have := h j r hr
        simp [List.getD, List.getElem?_append_left this]
theorem jm_cell_app {kc : Nat → ClassId} {as x : List Nat} {c : jm_C} {f : Nat → Int} (h : jm_cok as.length c f) : jm_cell kc (as ++ x) c f = jm_cell kc as c f := by
  rcases c with ⟨ci, rs⟩ | ⟨kd, n, rs⟩
  · show Sum.inr (ci, _) = Sum.inr (ci, _)
    rw [jm_fs_app h.2]
  · show Sum.inl (kc kd, n, _) = Sum.inl (kc kd, n, _)
    rw [jm_arr_app h.2]
theorem jm_cok_mono {n n' : Nat} {c : jm_C} {f : Nat → Int} (h : jm_cok n c f) (hn : n ≤ n') : jm_cok n' c f := by
  rcases c with ⟨ci, rs⟩ | ⟨kd, k, rs⟩
  · exact ⟨h.1, fun j r hr => Nat.lt_of_lt_of_le (h.2 j r hr) hn⟩
  · exact ⟨h.1, fun j r hr => Nat.lt_of_lt_of_le (h.2 j r hr) hn⟩
/-- cells come behind the others -/
theorem jm_ws_push {kc : Nat → ClassId} {as : List Nat} {sh : List jm_C} {h h2 : jm_H} (xs : List Nat) (cs : List jm_C) (es : List (Nat × va_E)) (hl : as.length = sh.length) (hok : ∀ i c, sh[i]? = some c → jm_cok sh.length c (h i)) (hx : xs.length = cs.length) (hold : ∀ i, i < sh.length → h2 i = h i)
    (hes : ∀ (k q : Nat) (c : jm_C), xs[k]? = some q → cs[k]? = some c → es[k]? = some (q, jm_cell kc (as ++ xs) c (h2 (sh.length + k)))) (hel : es.length = cs.length) : jm_ws kc as sh h ++ es = jm_ws kc (as ++ xs) (sh ++ cs) h2 := by
  apply List.ext_getElem?
  intro k
  by_cases hk : k < sh.length
  · rw [List.getElem?_append_left (by rw [jm_ws_len]; exact hk)]
    have h1 : sh[k]? = some sh[k] := List.getElem?_eq_getElem hk
    have h3 : (sh ++ cs)[k]? = some sh[k] := by rw [List.getElem?_append_left hk]; exact h1
    rw [jm_ws_at h1, jm_ws_at h3, hold k hk, jm_cell_app (by rw [hl]; exact hok k _ h1)]
    simp [List.getD, List.getElem?_append_left (show k < as.length by omega)]
  · rw [List.getElem?_append_right (by rw [jm_ws_len]; omega), jm_ws_len]
    by_cases hk2 : k - sh.length < cs.length
    · have hq : xs[k - sh.length]? = some (xs[k - sh.length]'(by omega)) := List.getElem?_eq_getElem (by omega)
      have hc : cs[k - sh.length]? = some (cs[k - sh.length]) := List.getElem?_eq_getElem hk2
      have h3 : (sh ++ cs)[k]? = some cs[k - sh.length] := by rw [List.getElem?_append_right (by omega)]; exact hc
      rw [hes _ _ _ hq hc, jm_ws_at h3]
      have e1 : sh.length + (k - sh.length) = k := by omega
      have e2 : (as ++ xs).getD k 0 = xs[k - sh.length]'(by omega) := by
        simp only [List.getD]
        rw [List.getElem?_append_right (by omega), hl, hq, Option.getD_some]
      rw [e1, e2]
    · rw [List.getElem?_eq_none (by omega), List.getElem?_eq_none (by rw [jm_ws_len, List.length_append]; omega)]
section JMN
variable {E : jm_Env} {M : jm_M} {d cu su pc : Nat} {ls : List (Option jm_V)} {st : List jm_V} {sh : List jm_C} {h : jm_H} {Q : jm_Q}
/-- the world with one cell more -/
theorem jm_Wd.one {as : List Nat} {A : Nat → Prop} {H H1 : Heap} {q : Nat} {c : jm_C} {el : va_E} (hw : jm_Wd E as sh h A H) (hc : jm_cok (sh.length + 1) c (fun _ => 0)) (hel : el = jm_cell E.2.2 (as ++ [q]) c (fun _ => 0)) (hP : va_P E.2.1 jm_cl (jm_ws E.2.2 as sh h ++ [(q, el)]) H1) (hD : va_D A (jm_ws E.2.2 as sh h ++ [(q, el)])) : jm_Wd E (as ++ [q]) (sh ++ [c]) (jm_row h sh.length (fun _ => 0)) A H1 := by
  have hr0 : jm_row h sh.length (fun _ => 0) sh.length = fun _ => 0 := by
    funext b
    simp [jm_row]
  have hr1 : ∀ i, i < sh.length → jm_row h sh.length (fun _ => 0) i = h i := fun i hi => by
    funext b
    simp [jm_row, Nat.ne_of_lt hi]
  have e := jm_ws_push (kc := E.2.2) (h2 := jm_row h sh.length (fun _ => 0)) [q] [c] [(q, el)] hw.1 hw.2.1 rfl hr1 (fun k q' c' h1 h2 => by
    match k, h1, h2 with
    | 0, h1, h2 =>
      simp only [List.getElem?_cons_zero, Option.some.injEq] at h1 h2
      subst h1; subst h2
      rw [Nat.add_zero, hr0, hel]
      rfl
    | k + 1, h1, _ => simp at h1) rfl
  rw [e] at hP hD
  refine ⟨by simp [hw.1], fun i c' hi => ?_, hP, hD⟩
  rw [List.length_append]
  by_cases hk : i < sh.length
  · rw [List.getElem?_append_left hk] at hi
    rw [hr1 i hk]
    exact jm_cok_mono (hw.2.1 i c' hi) (by simp)
  · rw [List.getElem?_append_right (by omega)] at hi
    have hz : i - sh.length < 1 := (List.getElem?_eq_some_iff.mp hi).1
    rw [show i - sh.length = 0 by omega] at hi
    cases hi
    rw [show i = sh.length by omega, hr0]
    exact hc
theorem jm_o0z (b : Prop) [Decidable b] : if b then jm_o64 0 else jm_o32 0 := by
  split
  · exact ⟨by omega, by omega⟩
  · exact jm_o0
theorem jm_new {i ci N : Nat} {C : String} {T : u_T} (hd : decode M.2.1 pc = .ok (.new i, 3)) (hc : jm_cl[ci]? = some (C, T, N)) (hcl : Cond.classLink M.1.cls i C ∈ jm_wG) (hin : Cond.instantiable C N ∈ jm_wG) (hini : Cond.initialized C ∈ jm_wG) (hft : ∀ j, j < N → (jm_ft ci).getD j 0 ≠ 9) (hmc : cu + 1 ≤ M.2.2.2.2.1 ∧ su + N ≤ M.2.2.2.2.2)
    (k : jm_G E M d (cu + 1) (su + N) (pc + 3) ls (jm_R sh.length :: st) (sh ++ [.inl (ci, List.replicate N none)]) (jm_row h sh.length (fun _ => 0)) Q) : jm_G E M d cu su pc ls st sh h Q := by
  intro p e s m args below meth c H locs as0 as A lsM cx hS hA hx hw hl hlo hso hln
  obtain ⟨c1, c2, c3, c4, c5⟩ := jm_clok hc
  have ht := cx.2.2.2.2.1
  have hrn : ∀ j, (List.replicate N (none : Option Nat)).getD j none = none := fun j => by
    simp only [List.getD, List.getElem?_replicate]
    split <;> rfl
  have hfs : ∀ j, j < N → defaultValue (jm_ty ci j) = vp_V (jm_fs as ci (List.replicate N none) (fun _ => 0)) j := by
    intro j hj
    have h9 := hft j hj
    unfold vp_V
    rw [List.getD, jm_fs_at (by rw [← c2]; exact hj), Option.getD_some, hrn]
    rw [← c5 j hj] at h9 ⊢
    generalize jm_ty ci j = ty at h9
    cases ty <;> first | rfl | exact absurd rfl h9
  refine va_new (fs := jm_fs as ci (List.replicate N none) (fun _ => 0)) cx.1 cx.2.1 ht (fun w hw => List.mem_cons_of_mem _ (c1 w hw)) (jm_ty ci) c3 cx.2.2.2.1 (ht _ (List.mem_cons_of_mem _ hcl)) (ht _ (List.mem_cons_of_mem _ hin)) (ht _ (List.mem_cons_of_mem _ hini)) cx.2.2.2.2.2.1 hw.2.2.1 hw.2.2.2 hS hA hc hfs hmc.1 hmc.2 hd (fun q H1 hP hD hS1 => ?_)
  have hw1 := hw.one (c := .inl (ci, List.replicate N none)) ⟨fun j => jm_o0z _, fun j r hr => by rw [hrn] at hr; cases hr⟩ (by
    show Sum.inr (ci, _) = Sum.inr (ci, _)
    rw [jm_fs_app (fun j r hr => by rw [hrn] at hr; cases hr)]) hP hD
  have hlen : as.length = sh.length := hw.1
  have K := k p e s m args below meth c H1 locs as0 (as ++ [q]) A lsM cx hS1 hA (by obtain ⟨x, rfl⟩ := hx; exact ⟨x ++ [q], List.append_assoc _ _ _⟩) hw1 (jm_lv_app hl (by rw [hlen]; exact hlo)) (fun j v hj => jm_ok_mono (hlo j v hj) (by simp)) (jm_sok_cons (by show sh.length < _; simp) (fun v hv => jm_ok_mono (hso v hv) (by simp))) hln
  have e1 : (jm_R sh.length :: st).map (jm_E (as ++ [q])) = .ref q :: st.map (jm_E as) := by
    rw [List.map_cons, jm_map_app (by rw [hlen]; exact hso)]
    congr 1
    show Value.ref ((as ++ [q]).getD sh.length 0) = _
    simp [List.getD, ← hlen]
  rw [e1] at K
  exact K
/-- a new row of numbers: its kind, its type -/
def jm_kt (kd : Nat) (t : ArrayType) (ty : FieldType) : Prop := newarray.typeOf t = ty ∧ ((kd = 0 ∧ ty = .int) ∨ (kd = 1 ∧ ty = .long) ∨ (kd = 2 ∧ ty = .boolean))
theorem jm_newarray {kd : Nat} {t : ArrayType} {ty : FieldType} {n : Int} (hd : decode M.2.1 pc = .ok (.newarray t, 2)) (hk : jm_kt kd t ty) (harr : Cond.arrayClass ty ∈ jm_wG) (hn : 0 ≤ n ∧ n < 1000) (hmc : cu + 1 ≤ M.2.2.2.2.1 ∧ su + n.toNat ≤ M.2.2.2.2.2)
    (k : jm_G E M d (cu + 1) (su + n.toNat) (pc + 2) ls (jm_R sh.length :: st) (sh ++ [.inr (kd, n.toNat, [])]) (jm_row h sh.length (fun _ => 0)) Q) : jm_G E M d cu su pc ls (jm_I n :: st) sh h Q := by
  intro p e s m args below meth c H locs as0 as A lsM cx hS hA hx hw hl hlo hso hln
  have ht := cx.2.2.2.2.1
  have hn0 : jm_o32 n := jm_sok_head hso
  obtain ⟨hty, hkd⟩ := hk
  have hcell : ∀ (cA : ClassId) (as : List Nat), vp_cell cA (n.toNat, jm_arr as kd [] (fun _ => 0)) = arrV cA n.toNat (fun _ => defaultValue ty) := by
    intro cA as
    rcases hkd with ⟨rfl, rfl⟩ | ⟨rfl, rfl⟩ | ⟨rfl, rfl⟩ <;> rfl
  have hb : n.toNat * componentBytes ty ≤ 536870912 := by
    have h8 : componentBytes ty ≤ 8 := by rcases hkd with ⟨rfl, rfl⟩ | ⟨rfl, rfl⟩ | ⟨rfl, rfl⟩ <;> decide
    have : n.toNat * componentBytes ty ≤ 1000 * 8 := Nat.mul_le_mul (by omega) h8
    omega
  refine va_newa (a0 := (n.toNat, jm_arr as kd [] (fun _ => 0))) cx.1 cx.2.1 (by rw [hty]; exact ht _ (List.mem_cons_of_mem _ harr)) hty cx.2.2.2.2.2.1 hw.2.2.1 hw.2.2.2 hS hA (fun cA => hcell cA as) (fun z => by
    rw [jm_z32, jm_lt32 hn0 jm_o0] at z
    omega) (jm_clamp hn0) hb hmc.1 hmc.2 hd (fun q cA H1 hK1 hP hD hS1 => ?_)
  have hcA : cA = E.2.2 kd := by
    have h1 := (hK1.2 5 (cA, ty) rfl).2
    rcases hkd with ⟨rfl, rfl⟩ | ⟨rfl, rfl⟩ | ⟨rfl, rfl⟩
    · exact Option.some.inj (h1.symm.trans (cx.2.2.2.2.2.1.2 0 _ rfl).2)
    · exact Option.some.inj (h1.symm.trans (cx.2.2.2.2.2.1.2 1 _ rfl).2)
    · exact Option.some.inj (h1.symm.trans (cx.2.2.2.2.2.1.2 2 _ rfl).2)
  subst hcA
  have hw1 := hw.one (c := .inr (kd, n.toNat, [])) ⟨fun j => jm_o0z _, fun j r hr => by simp [List.getD] at hr⟩ (by
    show Sum.inl (E.2.2 kd, n.toNat, _) = Sum.inl (E.2.2 kd, n.toNat, _)
    rw [jm_arr_app (fun j r hr => by simp [List.getD] at hr)]) hP hD
  have hlen : as.length = sh.length := hw.1
  have hso2 := jm_sok_tail hso
  have K := k p e s m args below meth c H1 locs as0 (as ++ [q]) A lsM cx hS1 hA (by obtain ⟨x, rfl⟩ := hx; exact ⟨x ++ [q], List.append_assoc _ _ _⟩) hw1 (jm_lv_app hl (by rw [hlen]; exact hlo)) (fun j v hj => jm_ok_mono (hlo j v hj) (by simp)) (jm_sok_cons (by show sh.length < _; simp) (fun v hv => jm_ok_mono (hso2 v hv) (by simp))) hln
  have e1 : (jm_R sh.length :: st).map (jm_E (as ++ [q])) = .ref q :: st.map (jm_E as) := by
    rw [List.map_cons, jm_map_app (by rw [hlen]; exact hso2)]
    congr 1
    show Value.ref ((as ++ [q]).getD sh.length 0) = _
    simp [List.getD, ← hlen]
  rw [e1] at K
  exact K
/-- Object's constructor -/
theorem jm_objInit {i b : Nat} (hd : decode M.2.1 pc = .ok (.invokespecial i, 3)) (hlk : Cond.methodLink M.1.cls i Lib.objectInit ∈ jm_wG) (h2 : Cond.instanceMethod Lib.objectInit ∈ jm_wG) (h3 : Cond.code Lib.objectInit ⟨#[0xb1]⟩ 1 none ∈ jm_wG) (hdd : 1 ≤ d) (hst : (st.map fun v => if jm_two (some v) then 2 else 1).sum ≤ 8)
    (k : jm_G E M d cu su (pc + 3) ls st sh h Q) : jm_G E M d cu su pc ls (jm_R b :: st) sh h Q := by
  intro p e s m args below meth c H locs as0 as A lsM cx hS hA hx hw hl hlo hso hln
  have ht := cx.2.2.2.2.1
  refine W.objInit (a := as.getD b 0) (rest := st.map (jm_E as)) cx.1 cx.2.1 cx.2.2.2.1 (ht _ (List.mem_cons_of_mem _ hlk)) (ht _ (List.mem_cons_of_mem _ h2)) (ht _ (List.mem_cons_of_mem _ h3)) rfl (by rw [cx.2.2.1]; exact hl.1) rfl hd hdd ?_ ?_
  · have h8 := lv_room (m := m) (pc := pc) (ls := lsM) (rest := (jm_R b :: st).map (jm_E as)) (st := st.map (jm_E as)) (by
      rw [List.map_map]
      have : (fun v : Value => v.category) ∘ jm_E as = fun v => if jm_two (some v) then 2 else 1 := by
        funext v
        exact jm_two_cat
      rw [this]
      exact hst)
    show _ + 12 ≤ 40 * d
    omega
  · exact k p e s m args below meth c H locs as0 as A lsM cx hS hA hx hw hl hlo (jm_sok_tail hso) hln
end JMN
end
section
/-! a row of rows -/
/-- all is 0 from cell r on -/
def jm_zero (h : jm_H) (r : Nat) : jm_H := fun a b => if r ≤ a then 0 else h a b
theorem jm_outer (c : ClassId) (N h0 : Nat) : ∀ i : Nat, Jvm.Free.Multi.outerC c N h0 i = arrV c N (fun j => va_rf (if j < i then some (h0 + 1 + j) else none))
  | 0 => by
    show ({ cls := c, slots := Array.replicate N .null, vm := .none } : Cell) = _
    rw [arrV_new]
    refine congrArg (arrV c N) (funext fun j => ?_)
    simp [va_rf]
  | i + 1 => by
    show (Jvm.Free.Multi.outerC c N h0 i).setSlot i (.ref (h0 + 1 + i)) = _
    rw [jm_outer c N h0 i, arrV_store]
    refine congrArg (arrV c N) (funext fun j => ?_)
    by_cases e : j = i
    · subst e
      simp [updV, va_rf]
    · by_cases h : j < i
      · simp [updV, e, h, Nat.lt_succ_of_lt h]
      · simp [updV, e, h, show ¬ j < i + 1 by omega]
theorem jm_arrV_ext {c : ClassId} {n : Nat} {f g : Nat → Value} (h : ∀ j, j < n → f j = g j) : arrV c n f = arrV c n g := by
  have h1 : (arrV c n f).slots = (arrV c n g).slots := by
    apply Array.ext
    · rw [arrV_size, arrV_size]
    · intro i h1 h2
      rw [arrV_size] at h1
      have a := arrV_read c f h1
      have b := arrV_read c g h1
      rw [h i h1, ← b] at a
      have := Array.getElem?_eq_getElem h2
      rw [Array.getElem?_eq_getElem (by rw [arrV_size]; exact h1), this] at a
      exact Option.some.inj a
  unfold arrV at h1 ⊢
  simp only at h1
  rw [h1]
section JMU
variable {E : jm_Env} {M : jm_M} {d cu su pc : Nat} {ls : List (Option jm_V)} {st : List jm_V} {sh : List jm_C} {h : jm_H} {Q : jm_Q}
set_option maxHeartbeats 1000000 in
theorem jm_multi {i kd ki : Nat} {ty : FieldType} {n k : Int} (hd : decode M.2.1 pc = .ok (.multianewarray i 2, 4)) (hkk : (ki = 0 ∧ kd = 3 ∧ ty = .int) ∨ (ki = 1 ∧ kd = 4 ∧ ty = .long)) (hcl : Cond.classLink M.1.cls i ("[" ++ (FieldType.array ty).toString) ∈ jm_wG) (harr : Cond.arrayClass ty ∈ jm_wG) (hn : 0 ≤ n ∧ n < 1000) (hk : 0 ≤ k ∧ k < 1000) (hmc : cu + (1 + n.toNat) ≤ M.2.2.2.2.1 ∧ su + (n.toNat + n.toNat * k.toNat) ≤ M.2.2.2.2.2)
    (kk : jm_G E M d (cu + 1 + n.toNat) (su + n.toNat + n.toNat * k.toNat) (pc + 4) ls (jm_R sh.length :: st) (sh ++ (.inr (kd, n.toNat, (List.range n.toNat).map fun j => some (sh.length + 1 + j)) :: List.replicate n.toNat (.inr (ki, k.toNat, [])))) (jm_zero h sh.length) Q) : jm_G E M d cu su pc ls (jm_I k :: jm_I n :: st) sh h Q := by
  intro p e s m args below meth c H locs as0 as A lsM cx hS hA hx hw hl hlo hso hln T hT X
  have ht := cx.2.2.2.2.1
  have hk0 : jm_o32 k := jm_sok_head hso
  have hn0 : jm_o32 n := jm_sok_head (jm_sok_tail hso)
  have hlen : as.length = sh.length := hw.1
  have hns : ¬ Int32.ofInt n < 0 := fun z => by
    rw [jm_z32, jm_lt32 hn0 jm_o0] at z
    omega
  have hks : ¬ Int32.ofInt k < 0 := fun z => by
    rw [jm_z32, jm_lt32 hk0 jm_o0] at z
    omega
  have hcn := jm_clamp hn0
  have hck := jm_clamp hk0
  have h8 : componentBytes ty ≤ 8 := by rcases hkk with ⟨-, -, rfl⟩ | ⟨-, -, rfl⟩ <;> decide
  have hover : (Cond.arrayOver (.array ty)).before args s = true := jm_AO_vm rfl (cx.2.2.2.2.2.2.2.2.2.2 ty (by rcases hkk with ⟨-, -, rfl⟩ | ⟨-, -, rfl⟩ <;> simp))
  obtain ⟨vm₁, cA, comp, -, fA, fC, -, -, X', step⟩ := X.multianewarray2F cx.1 cx.2.2.2.1 (ht _ (List.mem_cons_of_mem _ hcl)) hover (ht _ (List.mem_cons_of_mem _ harr)) (g := F0 m pc lsM (.int (Int32.ofInt k) :: .int (Int32.ofInt n) :: st.map (jm_E as))) rfl (by rw [cx.2.1]; exact hd) rfl hns hks (by rw [hcn]; omega) (by
      rw [hck]
      have : k.toNat * componentBytes ty ≤ 1000 * 8 := Nat.mul_le_mul (by omega) h8
      omega) (by rw [hck]; omega) (by rcases hkk with ⟨-, -, rfl⟩ | ⟨-, -, rfl⟩ <;> rfl) (by rcases hkk with ⟨-, -, rfl⟩ | ⟨-, -, rfl⟩ <;> rfl) (by rw [hcn]; exact hmc.1) (by rw [hcn, hck]; exact hmc.2)
  rw [hcn, hck] at X' step
  have hcA : cA = E.2.2 kd := by
    rcases hkk with ⟨-, rfl, rfl⟩ | ⟨-, rfl, rfl⟩
    · exact Option.some.inj (fA.symm.trans (cx.2.2.2.2.2.1.2 3 _ rfl).2)
    · exact Option.some.inj (fA.symm.trans (cx.2.2.2.2.2.1.2 4 _ rfl).2)
  have hco : comp = E.2.2 ki := by
    rcases hkk with ⟨rfl, -, rfl⟩ | ⟨rfl, -, rfl⟩
    · exact Option.some.inj (fC.symm.trans (cx.2.2.2.2.2.1.2 0 _ rfl).2)
    · exact Option.some.inj (fC.symm.trans (cx.2.2.2.2.2.1.2 1 _ rfl).2)
  subst hcA
  subst hco
  generalize hF : Jvm.Free.Multi.fill (T.setVm vm₁) (E.2.2 kd) (E.2.2 ki) n.toNat k.toNat (defaultValue ty) n.toNat = F at X' step
  have hTh : (T.setVm vm₁).heap = H := hT
  obtain ⟨f1, f2, -, -⟩ := Jvm.Free.Multi.fill_facts (T.setVm vm₁) (E.2.2 kd) (E.2.2 ki) n.toNat k.toNat (defaultValue ty) n.toNat
  rw [hF, hTh] at f1 f2
  have hold : ∀ x : Nat, x < H.size → F.heap[x]? = H[x]? := fun x hx => by
    have := Jvm.Free.Multi.fill_old (T.setVm vm₁) (E.2.2 kd) (E.2.2 ki) n.toNat k.toNat (defaultValue ty) (a := x) (by rw [hTh]; exact hx) n.toNat
    rw [hF, hTh] at this
    exact this
  have hrow : ∀ j : Nat, j < n.toNat → F.heap[H.size + 1 + j]? = some (Jvm.Free.Multi.innerC (E.2.2 ki) k.toNat (defaultValue ty)) := fun j hj => by
    have := Jvm.Free.Multi.fill_inner (T.setVm vm₁) (E.2.2 kd) (E.2.2 ki) n.toNat k.toNat (defaultValue ty) n.toNat j hj
    rw [hF, hTh] at this
    exact this
  let xs : List Nat := H.size :: (List.range n.toNat).map fun j => H.size + 1 + j
  let rs : List (Option Nat) := (List.range n.toNat).map fun j => some (sh.length + 1 + j)
  let cs : List jm_C := .inr (kd, n.toNat, rs) :: List.replicate n.toNat (.inr (ki, k.toNat, []))
  let es : List (Nat × va_E) := (H.size, jm_cell E.2.2 (as ++ xs) (.inr (kd, n.toNat, rs)) (fun _ => 0)) :: (List.range n.toNat).map fun j => (H.size + 1 + j, jm_cell E.2.2 (as ++ xs) (.inr (ki, k.toNat, [])) (fun _ => 0))
  have hz : ∀ a, sh.length ≤ a → jm_zero h sh.length a = fun _ => 0 := fun a ha => by
    funext b
    simp [jm_zero, ha]
  have hzo : ∀ a, a < sh.length → jm_zero h sh.length a = h a := fun a ha => by
    funext b
    simp [jm_zero, Nat.not_le.mpr ha]
  have hrsn : ∀ j r, rs.getD j none = some r → r < sh.length + (n.toNat + 1) := by
    intro j r hr
    simp only [rs, List.getD, List.getElem?_map] at hr
    by_cases hj : j < n.toNat
    · rw [List.getElem?_range hj] at hr
      simp at hr
      omega
    · rw [List.getElem?_eq_none (by simpa using hj)] at hr
      simp at hr
  have ew := jm_ws_push (kc := E.2.2) (h2 := jm_zero h sh.length) xs cs es hw.1 hw.2.1 (by simp [xs, cs]) hzo (fun j q cq h1 h2 => by
    match j, h1, h2 with
    | 0, h1, h2 =>
      simp only [xs, cs, List.getElem?_cons_zero, Option.some.injEq] at h1 h2
      subst h1; subst h2
      rw [Nat.add_zero, hz _ (Nat.le_refl _)]
      rfl
    | j + 1, h1, h2 =>
      simp only [xs, cs, List.getElem?_cons_succ, List.getElem?_map] at h1 h2
      have hj : j < n.toNat := by
        have := (List.getElem?_eq_some_iff.mp h2).1
        simpa using this
      rw [List.getElem?_range hj] at h1
      rw [List.getElem?_replicate, if_pos hj] at h2
      cases h1; cases h2
      rw [hz _ (by omega)]
      simp only [es, List.getElem?_cons_succ, List.getElem?_map, List.getElem?_range hj, Option.map_some]) (by simp [es, cs])
  have hout : F.heap[H.size]? = some (vp_cell (E.2.2 kd) (n.toNat, jm_arr (as ++ xs) kd rs (fun _ => 0))) := by
    rw [f2, jm_outer]
    have harr3 : jm_arr (as ++ xs) kd rs (fun _ => 0) = .inr (.inr (.inr (.inr fun j => (rs.getD j none).map fun i => (as ++ xs).getD i 0))) := by rcases hkk with ⟨-, rfl, -⟩ | ⟨-, rfl, -⟩ <;> rfl
    rw [harr3, vp_cell_q]
    congr 1
    apply jm_arrV_ext
    intro j hj
    rw [if_pos hj]
    congr 1
    simp only [rs, List.getD, List.getElem?_map, List.getElem?_range hj, Option.map_some, Option.getD_some]
    rw [List.getElem?_append_right (by omega)]
    simp only [xs]
    rw [show sh.length + 1 + j - as.length = j + 1 by omega, List.getElem?_cons_succ, List.getElem?_map, List.getElem?_range hj]
    rfl
  have hinn : ∀ j, j < n.toNat → F.heap[H.size + 1 + j]? = some (vp_cell (E.2.2 ki) (k.toNat, jm_arr (as ++ xs) ki [] (fun _ => 0))) := by
    intro j hj
    rw [hrow j hj]
    rcases hkk with ⟨rfl, -, rfl⟩ | ⟨rfl, -, rfl⟩
    · show some ({ cls := _, slots := Array.replicate _ _, vm := .none } : Cell) = _
      rw [arrV_new]
      rfl
    · show some ({ cls := _, slots := Array.replicate _ _, vm := .none } : Cell) = _
      rw [arrV_new]
      rfl
  have hesA : ∀ (j : Nat) (q : Nat × va_E), es[j]? = some q → q.1 = H.size + j ∧ va_at E.2.1 jm_cl q F.heap := by
    intro j q hq
    match j, hq with
    | 0, hq =>
      simp only [es, List.getElem?_cons_zero, Option.some.injEq] at hq
      subst hq
      exact ⟨rfl, hout⟩
    | j + 1, hq =>
      simp only [es, List.getElem?_cons_succ, List.getElem?_map] at hq
      by_cases hj : j < n.toNat
      · rw [List.getElem?_range hj] at hq
        cases hq
        exact ⟨by show H.size + 1 + j = H.size + (j + 1); omega, hinn j hj⟩
      · rw [List.getElem?_eq_none (by simpa using hj)] at hq
        simp at hq
  have hP1 : va_P E.2.1 jm_cl (jm_ws E.2.2 as sh h ++ es) F.heap := (hw.2.2.1.kept (fun j q hq => hold _ ((hw.2.2.1 j q hq).lt))).app (fun j q hq => (hesA j q hq).2)
  have hD1 : va_D A (jm_ws E.2.2 as sh h ++ es) := hw.2.2.2.app ⟨fun a b x y hx hy hxy => by
      have h1 := (hesA a x hx).1
      have h2 := (hesA b y hy).1
      omega, fun a x hx => hA _ (by
        have h1 := (hesA a x hx).1
        have h2 := hS.1
        omega)⟩ (fun a b x y hx hy hxy => by
      have h1 := (hw.2.2.1 a x hx).lt
      have h2 := (hesA b y hy).1
      omega)
  rw [ew] at hP1 hD1
  have hcl2 : (sh ++ cs).length = sh.length + (n.toNat + 1) := by simp [cs]
  have hw1 : jm_Wd E (as ++ xs) (sh ++ cs) (jm_zero h sh.length) A F.heap := by
    refine ⟨by simp [xs, cs, hlen], fun a c' hi => ?_, hP1, hD1⟩
    rw [hcl2]
    by_cases hk : a < sh.length
    · rw [List.getElem?_append_left hk] at hi
      rw [hzo a hk]
      exact jm_cok_mono (hw.2.1 a c' hi) (by omega)
    · rw [List.getElem?_append_right (by omega)] at hi
      rw [hz a (by omega)]
      rcases hj : a - sh.length with _ | j
      · rw [hj] at hi
        cases hi
        exact ⟨fun b => jm_o0z _, hrsn⟩
      · rw [hj] at hi
        simp only [cs, List.getElem?_cons_succ, List.getElem?_replicate] at hi
        split at hi
        · cases hi
          exact ⟨fun b => jm_o0z _, fun b r hr => by simp [List.getD] at hr⟩
        · cases hi
  have hS1 : va_S A s.heap F.heap locs := ⟨Nat.le_trans hS.1 (by omega), fun q h1 h2 => (hold q (Nat.lt_of_lt_of_le h1 hS.1)).trans (hS.2.1 q h1 h2), hS.2.2⟩
  have hso2 := jm_sok_tail (jm_sok_tail hso)
  have kk2 : jm_G E M d (cu + 1 + n.toNat) (su + n.toNat + n.toNat * k.toNat) (pc + 4) ls (jm_R sh.length :: st) (sh ++ cs) (jm_zero h sh.length) Q := kk
  have K := kk2 p e s m args below meth c F.heap locs as0 (as ++ xs) A lsM cx hS1 hA (by obtain ⟨x, rfl⟩ := hx; exact ⟨x ++ xs, List.append_assoc _ _ _⟩) hw1 (jm_lv_app hl (by rw [hlen]; exact hlo)) (fun j v hj => jm_ok_mono (hlo j v hj) (by omega)) (jm_sok_cons (by show sh.length < _; omega) (fun v hv => jm_ok_mono (hso2 v hv) (by omega))) hln
  have e1 : (jm_R sh.length :: st).map (jm_E (as ++ xs)) = .ref T.heap.size :: st.map (jm_E as) := by
    rw [List.map_cons, jm_map_app (by rw [hlen]; exact hso2), hT]
    congr 1
    show Value.ref ((as ++ xs).getD sh.length 0) = _
    simp only [List.getD]
    rw [List.getElem?_append_right (by omega), hlen, Nat.sub_self]
    rfl
  rw [e1] at K
  obtain ⟨t, a1, b1⟩ := K F rfl X'
  exact ⟨t, step t a1, b1⟩
/-- the nest's private constructor -/
theorem jm_invIN {M' : jm_M} {d' i n b : Nat} {host : String} {av : List jm_V} (hd : decode M.2.1 pc = .ok (.invokespecial i, 3)) (hk : jm_kI M' n) (hlk : Cond.methodLinkNest M.1.cls i M'.1 host ∈ jm_wN) (hn : av.length = n) (hdd : d' + 1 ≤ d) (hmc : cu + M'.2.2.2.2.1 ≤ M.2.2.2.2.1 ∧ su + M'.2.2.2.2.2 ≤ M.2.2.2.2.2) (hst : (st.map fun v => if jm_two (some v) then 2 else 1).sum ≤ 8)
    (k : jm_Call E M' d' (jm_R b :: av) sh h (fun r sh' h' => jm_G E M d (cu + M'.2.2.2.2.1) (su + M'.2.2.2.2.2) (pc + 3) ls (r.toList ++ st) sh' h' Q)) : jm_G E M d cu su pc ls (av.reverse ++ jm_R b :: st) sh h Q := by
  intro p e s m args below meth c H locs as0 as A lsM cx hS hA hx hw hl hlo hso hln
  obtain ⟨k1, k1b, k2, k3, k3b, k4, k5⟩ := hk
  have ht := cx.2.2.2.2.1
  have hav : ∀ v ∈ jm_R b :: av, jm_ok sh.length v := fun v hv => by
    rcases List.mem_cons.mp hv with rfl | hv
    · exact hso _ (List.mem_append.mpr (Or.inr List.mem_cons_self))
    · exact hso v (List.mem_append.mpr (Or.inl (List.mem_reverse.mpr hv)))
  have hM := k as H.size
  refine jm_behind (M' := M') (a := ((jm_R b :: av).map (jm_E as)).toArray) cx hS hA hx hw hl hlo (fun v hv => hso v (List.mem_append.mpr (Or.inr (List.mem_cons_of_mem _ hv)))) hln ?_
  refine va_runIN (As := av.map (jm_E as)) (n := n) (host := host) ⟨cx.1, cx.2.1, cx.2.2.1, cx.2.2.2.1, ht⟩ hM ⟨va_cnB n ht (jm_good (by rw [k3b]; exact k3)) (by unfold jm_wsM; rw [k3b]) rfl rfl (cx.2.2.2.2.2.2.2.2.2.1 _ hlk) (ht _ (List.mem_cons_of_mem _ k2)) k4 ⟨hdd, ?_⟩, k1b, ht _ (List.mem_cons_of_mem _ k1)⟩ ⟨jm_blind, fun U hU hW => jm_pre cx.2.2.2.2.2.1 cx.2.2.2.2.2.2.2.2.2 hw hav hU hW⟩ rfl (by rw [List.length_map]; exact hn) hl.1 (by show List.map _ _ = _; rw [List.map_append, List.map_reverse]; rfl) ?_ hd hmc
  · show 8 + (M'.2.2.1 + 11) + 40 * d' ≤ 40 * d
    omega
  · refine lv_room ?_
    rw [List.map_map]
    have : (fun v : Value => v.category) ∘ jm_E as = fun v => if jm_two (some v) then 2 else 1 := by
      funext v
      exact jm_two_cat
    rw [this]
    exact hst
end JMU
end
section
/-! the library's members, calls among methods that make nothing -/
section JML
variable {E : jm_Env} {M M' : jm_M} {d d' cu su pc : Nat} {ls : List (Option jm_V)} {st : List jm_V} {sh : List jm_C} {h : jm_H} {Q Q' : jm_Q}
theorem jm_Call.mono {av : List jm_V} (hq : ∀ r sh' h', Q r sh' h' → Q' r sh' h') (k : jm_Call E M d av sh h Q) : jm_Call E M d av sh h Q' := by
  intro as sz p e h1 h2 h3 s m args below h4 h5 h6 h7
  obtain ⟨n, o, a1, a2, a3, a4, a5⟩ := k as sz p e h1 h2 h3 s m args below h4 h5 h6 h7
  exact ⟨n, o, a1, a2, a3, ⟨a4.1.mono hq, a4.2⟩, a5⟩
theorem jm_cat {as : List Nat} {st : List jm_V} : ((st.map (jm_E as)).map fun v => v.category).sum = (st.map fun v => if jm_two (some v) then 2 else 1).sum := by
  rw [List.map_map]
  congr 1
  apply List.map_congr_left
  intro v _
  exact jm_two_cat
theorem jm_max {i : Nat} {x y : Int} (hd : decode M.2.1 pc = .ok (.invokestatic i, 3)) (hlk : Cond.methodLink M.1.cls i Lib.Math.max.name ∈ jm_wG) (h1 : Cond.static Lib.Math.max.name ∈ jm_wG) (h2 : Cond.initialized "java/lang/Math" ∈ jm_wG) (h3 : Cond.code Lib.Math.max.name Lib.Math.max.code 2 (some .int) ∈ jm_wG) (hdd : 1 ≤ d) (hmc : cu ≤ M.2.2.2.2.1 ∧ su ≤ M.2.2.2.2.2) (hst : (st.map fun v => if jm_two (some v) then 2 else 1).sum ≤ 8)
    (k : jm_G E M d cu su (pc + 3) ls (jm_I (max x y) :: st) sh h Q) : jm_G E M d cu su pc ls (jm_I y :: jm_I x :: st) sh h Q := by
  intro p e s m args below meth c H locs as0 as A lsM cx hS hA hx hw hl hlo hso hln
  have ht := cx.2.2.2.2.1
  have hy0 : jm_o32 y := jm_sok_head hso
  have hx0 : jm_o32 x := jm_sok_head (jm_sok_tail hso)
  refine va_mmax cx.1 cx.2.1 (by rw [cx.2.2.1]; exact hl.1.symm) cx.2.2.2.1 (ht _ (List.mem_cons_of_mem _ hlk)) (ht _ (List.mem_cons_of_mem _ h1)) (ht _ (List.mem_cons_of_mem _ h2)) (ht _ (List.mem_cons_of_mem _ h3)) hdd ?_ hmc.1 hmc.2 hd ?_
  · rw [jm_cat]
    show _ ≤ 40 * d
    omega
  · have e1 : (if Int32.ofInt x < Int32.ofInt y then Int32.ofInt y else Int32.ofInt x) = Int32.ofInt (max x y) := by
      simp only [jm_lt32 hx0 hy0]
      split
      · rw [Int.max_eq_right (by omega)]
      · rw [Int.max_eq_left (by omega)]
    rw [e1]
    refine k p e s m args below meth c H locs as0 as A lsM cx hS hA hx hw hl hlo (jm_sok_cons ?_ (jm_sok_tail (jm_sok_tail hso))) hln
    show jm_o32 (max x y)
    rcases Int.le_total x y with q | q
    · rw [Int.max_eq_right q]; exact hy0
    · rw [Int.max_eq_left q]; exact hx0
theorem jm_min {i : Nat} {x y : Int} (hd : decode M.2.1 pc = .ok (.invokestatic i, 3)) (hlk : Cond.methodLink M.1.cls i Lib.Math.min.name ∈ jm_wG) (h1 : Cond.static Lib.Math.min.name ∈ jm_wG) (h2 : Cond.initialized "java/lang/Math" ∈ jm_wG) (h3 : Cond.code Lib.Math.min.name Lib.Math.min.code 2 (some .int) ∈ jm_wG) (hdd : 1 ≤ d) (hmc : cu ≤ M.2.2.2.2.1 ∧ su ≤ M.2.2.2.2.2) (hst : (st.map fun v => if jm_two (some v) then 2 else 1).sum ≤ 8)
    (k : jm_G E M d cu su (pc + 3) ls (jm_I (min x y) :: st) sh h Q) : jm_G E M d cu su pc ls (jm_I y :: jm_I x :: st) sh h Q := by
  intro p e s m args below meth c H locs as0 as A lsM cx hS hA hx hw hl hlo hso hln
  have ht := cx.2.2.2.2.1
  have hy0 : jm_o32 y := jm_sok_head hso
  have hx0 : jm_o32 x := jm_sok_head (jm_sok_tail hso)
  refine va_mmin cx.1 cx.2.1 (by rw [cx.2.2.1]; exact hl.1.symm) cx.2.2.2.1 (ht _ (List.mem_cons_of_mem _ hlk)) (ht _ (List.mem_cons_of_mem _ h1)) (ht _ (List.mem_cons_of_mem _ h2)) (ht _ (List.mem_cons_of_mem _ h3)) hdd ?_ hmc.1 hmc.2 hd ?_
  · rw [jm_cat]
    show _ ≤ 40 * d
    omega
  · have e1 : (if Int32.ofInt y < Int32.ofInt x then Int32.ofInt y else Int32.ofInt x) = Int32.ofInt (min x y) := by
      simp only [jm_lt32 hy0 hx0]
      split
      · rw [Int.min_eq_right (by omega)]
      · rw [Int.min_eq_left (by omega)]
    rw [e1]
    refine k p e s m args below meth c H locs as0 as A lsM cx hS hA hx hw hl hlo (jm_sok_cons ?_ (jm_sok_tail (jm_sok_tail hso))) hln
    show jm_o32 (min x y)
    rcases Int.le_total x y with q | q
    · rw [Int.min_eq_left q]; exact hx0
    · rw [Int.min_eq_right q]; exact hy0
/-- a row's first n places are another's -/
def jm_cpy (h : jm_H) (r q : Nat) (n : Nat) : jm_H := fun a b => if a = q then (if b < n then h r b else h a b) else h a b
theorem jm_copy {i r q n0 n1 kd : Nat} {n : Int} {rs rs1 : List (Option Nat)} (hd : decode M.2.1 pc = .ok (.invokestatic i, 3)) (hlk : Cond.methodLink M.1.cls i arraycopyName ∈ jm_wG) (h1 : Cond.native arraycopyName ∈ jm_wG) (h2 : Cond.static arraycopyName ∈ jm_wG) (h3 : Cond.initialized "java/lang/System" ∈ jm_wG) (hr : sh[r]? = some (.inr (kd, n0, rs))) (hq : sh[q]? = some (.inr (kd, n1, rs1))) (hkd : kd = 0 ∨ kd = 1) (hn : 0 ≤ n ∧ n ≤ n0 ∧ n ≤ n1) (hdd : 1 ≤ d) (hst : (st.map fun v => if jm_two (some v) then 2 else 1).sum ≤ 8)
    (k : jm_G E M d cu su (pc + 3) ls st sh (jm_cpy h r q n.toNat) Q) : jm_G E M d cu su pc ls (jm_I n :: jm_I 0 :: jm_R q :: jm_I 0 :: jm_R r :: st) sh h Q := by
  intro p e s m args below meth c H locs as0 as A lsM cx hS hA hx hw hl hlo hso hln
  have ht := cx.2.2.2.2.1
  have hn0 : jm_o32 n := jm_sok_head hso
  have hc0 := jm_clamp jm_o0
  have hcn := jm_clamp hn0
  have hlt0 : ¬ Int32.ofInt 0 < 0 := by decide
  have hltn : ¬ Int32.ofInt n < 0 := fun z => by
    rw [jm_z32, jm_lt32 hn0 jm_o0] at z
    omega
  have hloc : ((st.map (jm_E as)).map fun v => v.category).sum + (nativeFrameWords "java/lang/System" "arraycopy" 5 + 11) ≤ 40 * d := by
    rw [jm_cat]
    have : nativeFrameWords "java/lang/System" "arraycopy" 5 ≤ 20 := by decide +kernel
    omega
  have ec : jm_row h q (fun b => if b < n.toNat then h r b else h q b) = jm_cpy h r q n.toNat := by
    funext a b
    unfold jm_row jm_cpy
    by_cases ea : a = q
    · subst ea; simp
    · simp [ea]
  have hcok : jm_cok sh.length (.inr (kd, n1, rs1)) (fun b => if b < n.toNat then h r b else h q b) := by
    refine ⟨fun b => ?_, (hw.2.1 q _ hq).2⟩
    have a1 := (hw.2.1 q _ hq).1 b
    have a2 := (hw.2.1 r _ hr).1 b
    by_cases eb : b < n.toNat
    · simp only [eb, if_true]; exact a2
    · simp only [eb, if_false]; exact a1
  have fin : ∀ (H1 : Heap) (locs1 : List Loc) (el : va_E), el = jm_cell E.2.2 as (.inr (kd, n1, rs1)) (fun b => if b < n.toNat then h r b else h q b) → va_P E.2.1 jm_cl ((jm_ws E.2.2 as sh h).set q (as.getD q 0, el)) H1 → va_D A ((jm_ws E.2.2 as sh h).set q (as.getD q 0, el)) → va_S A s.heap H1 locs1 → W p E.1 e (jm_rm M d) s m args below meth c H1 locs1 cu su (MQ below (jm_Qc E as0 A Q) args s M.2.2.2.2.1 M.2.2.2.2.2 A) (F0 m (pc + 3) lsM (st.map (jm_E as))) := by
    intro H1 locs1 el hel hP hD hS1
    subst hel
    rw [jm_ws_set _ hq, jm_set_same hq, ec] at hP hD
    refine k p e s m args below meth c H1 locs1 as0 as A lsM cx hS1 hA hx ⟨hw.1, fun a c' hi => ?_, hP, hD⟩ hl hlo (fun v hv => hso v (List.mem_cons_of_mem _ (List.mem_cons_of_mem _ (List.mem_cons_of_mem _ (List.mem_cons_of_mem _ (List.mem_cons_of_mem _ hv)))))) hln
    by_cases ea : a = q
    · subst ea
      cases hi.symm.trans hq
      have : jm_cpy h r a n.toNat a = fun b => if b < n.toNat then h r b else h a b := by
        funext b
        simp [jm_cpy]
      rw [this]
      exact hcok
    · have : jm_cpy h r q n.toNat a = h a := by
        funext b
        simp [jm_cpy, ea]
      rw [this]
      exact hw.2.1 a c' hi
  rcases hkd with rfl | rfl
  · refine va_copyi (ty := .int) (f := fun j => Int32.ofInt (h r j)) (g := fun j => Int32.ofInt (h q j)) cx.1 cx.2.1 (by rw [cx.2.2.1]; exact hl.1.symm) cx.2.2.2.1 (ht _ (List.mem_cons_of_mem _ hlk)) (ht _ (List.mem_cons_of_mem _ h1)) (ht _ (List.mem_cons_of_mem _ h2)) (ht _ (List.mem_cons_of_mem _ h3)) cx.2.2.2.2.2.1 hw.2.2.1 hw.2.2.2 hS r q 0 0 (jm_ws_at hr) (jm_ws_at hq) rfl rfl rfl hlt0 hlt0 hltn (by rw [hc0, hcn]; show 0 + n.toNat ≤ n0; omega) (by rw [hc0, hcn]; show 0 + n.toNat ≤ n1; omega) (fun _ _ => rfl) hdd hloc hd (fun H1 locs1 hP hD hS1 => fin H1 locs1 _ ?_ hP hD hS1)
    show Sum.inl (E.2.2 0, n1, _) = Sum.inl (E.2.2 0, n1, _)
    congr 3
    show Sum.inl _ = Sum.inl _
    congr 1
    funext b
    rw [hc0, hcn]
    unfold va_cpy
    by_cases eb : b < n.toNat
    · simp [eb]
    · simp [eb]
  · refine va_copyl (ty := .long) (f := fun j => Int64.ofInt (h r j)) (g := fun j => Int64.ofInt (h q j)) cx.1 cx.2.1 (by rw [cx.2.2.1]; exact hl.1.symm) cx.2.2.2.1 (ht _ (List.mem_cons_of_mem _ hlk)) (ht _ (List.mem_cons_of_mem _ h1)) (ht _ (List.mem_cons_of_mem _ h2)) (ht _ (List.mem_cons_of_mem _ h3)) cx.2.2.2.2.2.1 hw.2.2.1 hw.2.2.2 hS r q 1 1 (jm_ws_at hr) (jm_ws_at hq) rfl rfl rfl hlt0 hlt0 hltn (by rw [hc0, hcn]; show 0 + n.toNat ≤ n0; omega) (by rw [hc0, hcn]; show 0 + n.toNat ≤ n1; omega) (fun _ _ => rfl) hdd hloc hd (fun H1 locs1 hP hD hS1 => fin H1 locs1 _ ?_ hP hD hS1)
    show Sum.inl (E.2.2 1, n1, _) = Sum.inl (E.2.2 1, n1, _)
    congr 3
    show Sum.inr (Sum.inl _) = Sum.inr (Sum.inl _)
    congr 2
    funext b
    rw [hc0, hcn]
    unfold va_cpy
    by_cases eb : b < n.toNat
    · simp [eb]
    · simp [eb]
end JML
end
section
/-! contracts of methods that make nothing, by their answers; fields by their links -/
theorem jm_o32c {n : Int} (h : decide (-2147483648 ≤ n ∧ n < 2147483648) = true) : jm_o32 n := by
  have q := of_decide_eq_true h
  exact q
theorem jm_o64c {n : Int} (h : decide (-9223372036854775808 ≤ n ∧ n < 9223372036854775808) = true) : jm_o64 n := by
  have q := of_decide_eq_true h
  exact q
def jm_qI (S : List jm_C) (K : Int → jm_H → Prop) : jm_Q := fun r sh h => sh = S ∧ ∃ x, r = some (jm_I x) ∧ K x h
def jm_qL (S : List jm_C) (K : Int → jm_H → Prop) : jm_Q := fun r sh h => sh = S ∧ ∃ x, r = some (jm_L x) ∧ K x h
def jm_qV (S : List jm_C) (K : jm_H → Prop) : jm_Q := fun r sh h => sh = S ∧ r = none ∧ K h
abbrev jm_CI (E : jm_Env) (S : List jm_C) (M : jm_M) (d : Nat) (av : List jm_V) (h : jm_H) (K : Int → jm_H → Prop) : Prop := jm_Call E M d av S h (jm_qI S K)
abbrev jm_CL (E : jm_Env) (S : List jm_C) (M : jm_M) (d : Nat) (av : List jm_V) (h : jm_H) (K : Int → jm_H → Prop) : Prop := jm_Call E M d av S h (jm_qL S K)
abbrev jm_CV (E : jm_Env) (S : List jm_C) (M : jm_M) (d : Nat) (av : List jm_V) (h : jm_H) (K : jm_H → Prop) : Prop := jm_Call E M d av S h (jm_qV S K)
abbrev jm_BI (E : jm_Env) (S : List jm_C) (M : jm_M) (d pc : Nat) (ls : List (Option jm_V)) (st : List jm_V) (h : jm_H) (K : Int → jm_H → Prop) : Prop := jm_G E M d 0 0 pc ls st S h (jm_qI S K)
abbrev jm_BL (E : jm_Env) (S : List jm_C) (M : jm_M) (d pc : Nat) (ls : List (Option jm_V)) (st : List jm_V) (h : jm_H) (K : Int → jm_H → Prop) : Prop := jm_G E M d 0 0 pc ls st S h (jm_qL S K)
abbrev jm_BV (E : jm_Env) (S : List jm_C) (M : jm_M) (d pc : Nat) (ls : List (Option jm_V)) (st : List jm_V) (h : jm_H) (K : jm_H → Prop) : Prop := jm_G E M d 0 0 pc ls st S h (jm_qV S K)
def jm_fI (own : String) (i ci j : Nat) : Prop := ∃ C T N, jm_cl[ci]? = some (C, T, N) ∧ j < N ∧ Cond.fieldLink own i (T j).1 (T j).2.1 (T j).2.2.1 ∈ jm_wG ∧ ((jm_ft ci).getD j 0 ≠ 1 ∧ (jm_ft ci).getD j 0 ≠ 2)
def jm_fR (own : String) (i ci j : Nat) : Prop := ∃ C T N, jm_cl[ci]? = some (C, T, N) ∧ j < N ∧ Cond.fieldLink own i (T j).1 (T j).2.1 (T j).2.2.1 ∈ jm_wG ∧ (jm_ft ci).getD j 0 = 2
def jm_pI (own : String) (i ci j : Nat) : Prop := ∃ C T N, jm_cl[ci]? = some (C, T, N) ∧ j < N ∧ Cond.fieldLink own i (T j).1 (T j).2.1 (T j).2.2.1 ∈ jm_wG ∧ (T j).2.2.2 = false ∧ (jm_ft ci).getD j 0 = 0
def jm_pZ (own : String) (i ci j : Nat) : Prop := ∃ C T N, jm_cl[ci]? = some (C, T, N) ∧ j < N ∧ Cond.fieldLink own i (T j).1 (T j).2.1 (T j).2.2.1 ∈ jm_wG ∧ (T j).2.2.2 = false ∧ (jm_ft ci).getD j 0 = 3
section JMW
variable {E : jm_Env} {M M' : jm_M} {d d' cu su pc : Nat} {ls : List (Option jm_V)} {st : List jm_V} {sh : List jm_C} {h : jm_H} {Q : jm_Q}
theorem jm_gI {i j r ci : Nat} {rs : List (Option Nat)} (hd : decode M.2.1 pc = .ok (.getfield i, 3)) (hf : jm_fI M.1.cls i ci j) (hs : sh[r]? = some (.inl (ci, rs))) (k : jm_G E M d cu su (pc + 3) ls (jm_I (h r j) :: st) sh h Q) : jm_G E M d cu su pc ls (jm_R r :: st) sh h Q := by
  obtain ⟨C, T, N, h1, h2, h3, h4⟩ := hf
  exact jm_getI hd h1 h2 h3 hs h4 k
theorem jm_gR {i j r q ci : Nat} {rs : List (Option Nat)} (hd : decode M.2.1 pc = .ok (.getfield i, 3)) (hf : jm_fR M.1.cls i ci j) (hs : sh[r]? = some (.inl (ci, rs))) (hq : rs.getD j none = some q) (k : jm_G E M d cu su (pc + 3) ls (jm_R q :: st) sh h Q) : jm_G E M d cu su pc ls (jm_R r :: st) sh h Q := by
  obtain ⟨C, T, N, h1, h2, h3, h4⟩ := hf
  exact jm_getR hd h1 h2 h3 hs h4 hq k
theorem jm_sI {i j r ci : Nat} {x : Int} {rs : List (Option Nat)} (hd : decode M.2.1 pc = .ok (.putfield i, 3)) (hf : jm_pI M.1.cls i ci j) (hs : sh[r]? = some (.inl (ci, rs))) (k : jm_G E M d cu su (pc + 3) ls st sh (jm_up h r j x) Q) : jm_G E M d cu su pc ls (jm_I x :: jm_R r :: st) sh h Q := by
  obtain ⟨C, T, N, h1, h2, h3, h4, h5⟩ := hf
  exact jm_putI hd h1 h2 h3 h4 hs (Or.inl h5) k
theorem jm_sZ {i j r ci : Nat} {x : Int} {rs : List (Option Nat)} (hd : decode M.2.1 pc = .ok (.putfield i, 3)) (hf : jm_pZ M.1.cls i ci j) (hb : x = 0 ∨ x = 1) (hs : sh[r]? = some (.inl (ci, rs))) (k : jm_G E M d cu su (pc + 3) ls st sh (jm_up h r j x) Q) : jm_G E M d cu su pc ls (jm_I x :: jm_R r :: st) sh h Q := by
  obtain ⟨C, T, N, h1, h2, h3, h4, h5⟩ := hf
  exact jm_putI hd h1 h2 h3 h4 hs (Or.inr ⟨h5, hb⟩) k
/-- calls -/
theorem jm_cS {i n : Nat} {av : List jm_V} (hd : decode M.2.1 pc = .ok (.invokestatic i, 3)) (hk : jm_kS M' n) (hlk : Cond.methodLink M.1.cls i M'.1 ∈ jm_wG) (hn : av.length = n) (hdd : d' + 1 ≤ d) (h0 : M'.2.2.2.2.1 = 0 ∧ M'.2.2.2.2.2 = 0) (hmc : cu ≤ M.2.2.2.2.1 ∧ su ≤ M.2.2.2.2.2) (hst : (st.map fun v => if jm_two (some v) then 2 else 1).sum ≤ 8)
    {QC : jm_Q} (hq : ∀ r sh' h', QC r sh' h' → sh' = sh ∧ jm_G E M d cu su (pc + 3) ls (r.toList ++ st) sh h' Q) (k : jm_Call E M' d' av sh h QC) : jm_G E M d cu su pc ls (av.reverse ++ st) sh h Q := by
  refine jm_invS hd hk hlk hn hdd (by rw [h0.1, h0.2]; exact hmc) hst (k.mono fun r sh' h' q => ?_)
  obtain ⟨rfl, z⟩ := hq r sh' h' q
  rw [h0.1, h0.2]
  exact z
theorem jm_cV {i n b ci : Nat} {rs : List (Option Nat)} {C : String} {T : u_T} {N : Nat} {av : List jm_V} (hd : decode M.2.1 pc = .ok (.invokevirtual i, 3)) (hk : jm_kV M' n) (hlk : Cond.methodLink M.1.cls i M'.1 ∈ jm_wG) (hn : av.length = n) (hdd : d' + 1 ≤ d) (h0 : M'.2.2.2.2.1 = 0 ∧ M'.2.2.2.2.2 = 0) (hmc : cu ≤ M.2.2.2.2.1 ∧ su ≤ M.2.2.2.2.2) (hst : (st.map fun v => if jm_two (some v) then 2 else 1).sum ≤ 8) (hs : sh[b]? = some (.inl (ci, rs))) (hc : jm_cl[ci]? = some (C, T, N)) (hC : C = M'.1.cls)
    {QC : jm_Q} (hq : ∀ r sh' h', QC r sh' h' → sh' = sh ∧ jm_G E M d cu su (pc + 3) ls (r.toList ++ st) sh h' Q) (k : jm_Call E M' d' (jm_R b :: av) sh h QC) : jm_G E M d cu su pc ls (av.reverse ++ jm_R b :: st) sh h Q := by
  refine jm_invV hd hk hlk hn hdd (by rw [h0.1, h0.2]; exact hmc) hst hs hc hC (k.mono fun r sh' h' q => ?_)
  obtain ⟨rfl, z⟩ := hq r sh' h' q
  rw [h0.1, h0.2]
  exact z
theorem jm_hqI {K : Int → jm_H → Prop} (hk : ∀ x h', K x h' → jm_G E M d cu su (pc + 3) ls (jm_I x :: st) sh h' Q) : ∀ r sh' h', jm_qI sh K r sh' h' → sh' = sh ∧ jm_G E M d cu su (pc + 3) ls (r.toList ++ st) sh h' Q := by
  rintro r sh' h' ⟨e, x, rfl, q⟩
  exact ⟨e, hk x h' q⟩
theorem jm_hqL {K : Int → jm_H → Prop} (hk : ∀ x h', K x h' → jm_G E M d cu su (pc + 3) ls (jm_L x :: st) sh h' Q) : ∀ r sh' h', jm_qL sh K r sh' h' → sh' = sh ∧ jm_G E M d cu su (pc + 3) ls (r.toList ++ st) sh h' Q := by
  rintro r sh' h' ⟨e, x, rfl, q⟩
  exact ⟨e, hk x h' q⟩
theorem jm_hqV {K : jm_H → Prop} (hk : ∀ h', K h' → jm_G E M d cu su (pc + 3) ls st sh h' Q) : ∀ r sh' h', jm_qV sh K r sh' h' → sh' = sh ∧ jm_G E M d cu su (pc + 3) ls (r.toList ++ st) sh h' Q := by
  rintro r sh' h' ⟨e, rfl, q⟩
  exact ⟨e, hk h' q⟩
theorem jm_CI.mono {S : List jm_C} {av : List jm_V} {K K' : Int → jm_H → Prop} (hk : ∀ x h', K x h' → K' x h') (c : jm_CI E S M d av h K) : jm_CI E S M d av h K' := jm_Call.mono (fun r sh' h' ⟨e, x, e2, q⟩ => ⟨e, x, e2, hk x h' q⟩) c
theorem jm_CL.mono {S : List jm_C} {av : List jm_V} {K K' : Int → jm_H → Prop} (hk : ∀ x h', K x h' → K' x h') (c : jm_CL E S M d av h K) : jm_CL E S M d av h K' := jm_Call.mono (fun r sh' h' ⟨e, x, e2, q⟩ => ⟨e, x, e2, hk x h' q⟩) c
theorem jm_CV.mono {S : List jm_C} {av : List jm_V} {K K' : jm_H → Prop} (hk : ∀ h', K h' → K' h') (c : jm_CV E S M d av h K) : jm_CV E S M d av h K' := jm_Call.mono (fun r sh' h' ⟨e, e2, q⟩ => ⟨e, e2, hk h' q⟩) c
theorem jm_BI.mono {S : List jm_C} {K K' : Int → jm_H → Prop} (hk : ∀ x h', K x h' → K' x h') (c : jm_BI E S M d pc ls st h K) : jm_BI E S M d pc ls st h K' := jm_G.mono (fun r sh' h' ⟨e, x, e2, q⟩ => ⟨e, x, e2, hk x h' q⟩) c
theorem jm_BV.mono {S : List jm_C} {K K' : jm_H → Prop} (hk : ∀ h', K h' → K' h') (c : jm_BV E S M d pc ls st h K) : jm_BV E S M d pc ls st h K' := jm_G.mono (fun r sh' h' ⟨e, e2, q⟩ => ⟨e, e2, hk h' q⟩) c
end JMW
end
