-- ===== PART A: goes FIRST, ahead of the names: the tables' words, and 'selects' of the private methods out of them =====
/-- a private method of a class that the tables say can be made, by its rows of tables_1 -/
def lw_okq (q : MethodName × Nat) : Prop := (q.1.cls ≠ "java/lang/invoke/MethodHandle" ∧ q.1.cls ≠ "java/lang/invoke/VarHandle") ∧ Cond.instantiable q.1.cls q.2 ∈ tables_1 ∧ Cond.privateMethod q.1 ∈ tables_1 ∧ Cond.instanceMethod q.1 ∈ tables_1
theorem lw_p0 : lw_okq (⟨"CarriedCommits", "makeFirstCommit", "()LCarriedCommits$Plain;"⟩, 12) := ⟨⟨by decide +kernel, by decide +kernel⟩, List.mem_of_getElem? (i := 18) (by decide +kernel), List.mem_of_getElem? (i := 211) (by decide +kernel), List.mem_of_getElem? (i := 212) (by decide +kernel)⟩
theorem lw_p1 : lw_okq (⟨"CarriedCommits", "makeCommit", "(ILCarriedCommits$Plain;[ILCarriedCommits$Plain;)LCarriedCommits$Plain;"⟩, 12) := ⟨⟨by decide +kernel, by decide +kernel⟩, List.mem_of_getElem? (i := 18) (by decide +kernel), List.mem_of_getElem? (i := 216) (by decide +kernel), List.mem_of_getElem? (i := 217) (by decide +kernel)⟩
theorem lw_p2 : lw_okq (⟨"CarriedCommits", "tipOf", "(I)LCarriedCommits$Plain;"⟩, 12) := ⟨⟨by decide +kernel, by decide +kernel⟩, List.mem_of_getElem? (i := 18) (by decide +kernel), List.mem_of_getElem? (i := 387) (by decide +kernel), List.mem_of_getElem? (i := 388) (by decide +kernel)⟩
theorem lw_p3 : lw_okq (⟨"CarriedCommits", "slotAt", "(I)LCarriedCommits$Slot;"⟩, 12) := ⟨⟨by decide +kernel, by decide +kernel⟩, List.mem_of_getElem? (i := 18) (by decide +kernel), List.mem_of_getElem? (i := 391) (by decide +kernel), List.mem_of_getElem? (i := 392) (by decide +kernel)⟩
theorem lw_p4 : lw_okq (⟨"CarriedCommits", "isUnderWay", "()Z"⟩, 12) := ⟨⟨by decide +kernel, by decide +kernel⟩, List.mem_of_getElem? (i := 18) (by decide +kernel), List.mem_of_getElem? (i := 395) (by decide +kernel), List.mem_of_getElem? (i := 396) (by decide +kernel)⟩
theorem lw_p5 : lw_okq (⟨"CarriedCommits", "failBy", "(I)I"⟩, 12) := ⟨⟨by decide +kernel, by decide +kernel⟩, List.mem_of_getElem? (i := 18) (by decide +kernel), List.mem_of_getElem? (i := 413) (by decide +kernel), List.mem_of_getElem? (i := 414) (by decide +kernel)⟩
theorem lw_p6 : lw_okq (⟨"CarriedCommits", "commitAt", "(I)LCarriedCommits$Plain;"⟩, 12) := ⟨⟨by decide +kernel, by decide +kernel⟩, List.mem_of_getElem? (i := 18) (by decide +kernel), List.mem_of_getElem? (i := 432) (by decide +kernel), List.mem_of_getElem? (i := 433) (by decide +kernel)⟩
theorem lw_p7 : lw_okq (⟨"CarriedCommits$Matching", "fillMost", "([II[II)V"⟩, 5) := ⟨⟨by decide +kernel, by decide +kernel⟩, List.mem_of_getElem? (i := 49) (by decide +kernel), List.mem_of_getElem? (i := 465) (by decide +kernel), List.mem_of_getElem? (i := 466) (by decide +kernel)⟩
theorem lw_p8 : lw_okq (⟨"CarriedCommits", "hashPart", "(ILCarriedCommits$Part;)I"⟩, 12) := ⟨⟨by decide +kernel, by decide +kernel⟩, List.mem_of_getElem? (i := 18) (by decide +kernel), List.mem_of_getElem? (i := 501) (by decide +kernel), List.mem_of_getElem? (i := 502) (by decide +kernel)⟩
theorem lw_p9 : lw_okq (⟨"CarriedCommits$Merger", "takeCleanGap", "()Z"⟩, 17) := ⟨⟨by decide +kernel, by decide +kernel⟩, List.mem_of_getElem? (i := 41) (by decide +kernel), List.mem_of_getElem? (i := 552) (by decide +kernel), List.mem_of_getElem? (i := 553) (by decide +kernel)⟩
theorem lw_p10 : lw_okq (⟨"CarriedCommits$Merger", "addLines", "(LCarriedCommits$Part;)V"⟩, 17) := ⟨⟨by decide +kernel, by decide +kernel⟩, List.mem_of_getElem? (i := 41) (by decide +kernel), List.mem_of_getElem? (i := 557) (by decide +kernel), List.mem_of_getElem? (i := 558) (by decide +kernel)⟩
theorem lw_p11 : lw_okq (⟨"CarriedCommits$Merger", "addLine", "(I)V"⟩, 17) := ⟨⟨by decide +kernel, by decide +kernel⟩, List.mem_of_getElem? (i := 41) (by decide +kernel), List.mem_of_getElem? (i := 562) (by decide +kernel), List.mem_of_getElem? (i := 563) (by decide +kernel)⟩
theorem lw_p12 : lw_okq (⟨"CarriedCommits$Merger", "meetConflict", "(I)V"⟩, 17) := ⟨⟨by decide +kernel, by decide +kernel⟩, List.mem_of_getElem? (i := 41) (by decide +kernel), List.mem_of_getElem? (i := 566) (by decide +kernel), List.mem_of_getElem? (i := 567) (by decide +kernel)⟩
theorem lw_p13 : lw_okq (⟨"CarriedCommits$Merger", "findResolution", "()LCarriedCommits$Resolution;"⟩, 17) := ⟨⟨by decide +kernel, by decide +kernel⟩, List.mem_of_getElem? (i := 41) (by decide +kernel), List.mem_of_getElem? (i := 586) (by decide +kernel), List.mem_of_getElem? (i := 587) (by decide +kernel)⟩
theorem lw_p14 : lw_okq (⟨"CarriedCommits$Merger", "addResolved", "(LCarriedCommits$Resolution;)V"⟩, 17) := ⟨⟨by decide +kernel, by decide +kernel⟩, List.mem_of_getElem? (i := 41) (by decide +kernel), List.mem_of_getElem? (i := 598) (by decide +kernel), List.mem_of_getElem? (i := 599) (by decide +kernel)⟩
theorem lw_p15 : lw_okq (⟨"CarriedCommits", "dropCommitsFrom", "(I)V"⟩, 12) := ⟨⟨by decide +kernel, by decide +kernel⟩, List.mem_of_getElem? (i := 18) (by decide +kernel), List.mem_of_getElem? (i := 631) (by decide +kernel), List.mem_of_getElem? (i := 632) (by decide +kernel)⟩
def lw_privs_1 : List (MethodName × Nat) := [(⟨"CarriedCommits", "makeFirstCommit", "()LCarriedCommits$Plain;"⟩, 12), (⟨"CarriedCommits", "makeCommit", "(ILCarriedCommits$Plain;[ILCarriedCommits$Plain;)LCarriedCommits$Plain;"⟩, 12), (⟨"CarriedCommits", "tipOf", "(I)LCarriedCommits$Plain;"⟩, 12), (⟨"CarriedCommits", "slotAt", "(I)LCarriedCommits$Slot;"⟩, 12), (⟨"CarriedCommits", "isUnderWay", "()Z"⟩, 12), (⟨"CarriedCommits", "failBy", "(I)I"⟩, 12), (⟨"CarriedCommits", "commitAt", "(I)LCarriedCommits$Plain;"⟩, 12), (⟨"CarriedCommits$Matching", "fillMost", "([II[II)V"⟩, 5), (⟨"CarriedCommits", "hashPart", "(ILCarriedCommits$Part;)I"⟩, 12), (⟨"CarriedCommits$Merger", "takeCleanGap", "()Z"⟩, 17), (⟨"CarriedCommits$Merger", "addLines", "(LCarriedCommits$Part;)V"⟩, 17), (⟨"CarriedCommits$Merger", "addLine", "(I)V"⟩, 17), (⟨"CarriedCommits$Merger", "meetConflict", "(I)V"⟩, 17), (⟨"CarriedCommits$Merger", "findResolution", "()LCarriedCommits$Resolution;"⟩, 17), (⟨"CarriedCommits$Merger", "addResolved", "(LCarriedCommits$Resolution;)V"⟩, 17), (⟨"CarriedCommits", "dropCommitsFrom", "(I)V"⟩, 12)]
theorem lw_r1 : ∀ q ∈ lw_privs_1, lw_okq q := List.forall_mem_cons.mpr ⟨lw_p0, List.forall_mem_cons.mpr ⟨lw_p1, List.forall_mem_cons.mpr ⟨lw_p2, List.forall_mem_cons.mpr ⟨lw_p3, List.forall_mem_cons.mpr ⟨lw_p4, List.forall_mem_cons.mpr ⟨lw_p5, List.forall_mem_cons.mpr ⟨lw_p6, List.forall_mem_cons.mpr ⟨lw_p7, List.forall_mem_cons.mpr ⟨lw_p8, List.forall_mem_cons.mpr ⟨lw_p9, List.forall_mem_cons.mpr ⟨lw_p10, List.forall_mem_cons.mpr ⟨lw_p11, List.forall_mem_cons.mpr ⟨lw_p12, List.forall_mem_cons.mpr ⟨lw_p13, List.forall_mem_cons.mpr ⟨lw_p14, List.forall_mem_cons.mpr ⟨lw_p15, fun _ h => absurd h List.not_mem_nil⟩⟩⟩⟩⟩⟩⟩⟩⟩⟩⟩⟩⟩⟩⟩⟩
theorem lw_p16 : lw_okq (⟨"CarriedCommits", "lacksRoomFor", "(LCarriedCommits$Plain;LCarriedCommits$Plain;)Z"⟩, 12) := ⟨⟨by decide +kernel, by decide +kernel⟩, List.mem_of_getElem? (i := 18) (by decide +kernel), List.mem_of_getElem? (i := 666) (by decide +kernel), List.mem_of_getElem? (i := 667) (by decide +kernel)⟩
theorem lw_p17 : lw_okq (⟨"CarriedCommits", "carry", "(LCarriedCommits$Replay;)I"⟩, 12) := ⟨⟨by decide +kernel, by decide +kernel⟩, List.mem_of_getElem? (i := 18) (by decide +kernel), List.mem_of_getElem? (i := 684) (by decide +kernel), List.mem_of_getElem? (i := 685) (by decide +kernel)⟩
theorem lw_p18 : lw_okq (⟨"CarriedCommits", "isThereAlready", "(LCarriedCommits$Replay;LCarriedCommits$Plain;)Z"⟩, 12) := ⟨⟨by decide +kernel, by decide +kernel⟩, List.mem_of_getElem? (i := 18) (by decide +kernel), List.mem_of_getElem? (i := 692) (by decide +kernel), List.mem_of_getElem? (i := 693) (by decide +kernel)⟩
theorem lw_p19 : lw_okq (⟨"CarriedCommits", "place", "(LCarriedCommits$Replay;LCarriedCommits$Plain;)I"⟩, 12) := ⟨⟨by decide +kernel, by decide +kernel⟩, List.mem_of_getElem? (i := 18) (by decide +kernel), List.mem_of_getElem? (i := 696) (by decide +kernel), List.mem_of_getElem? (i := 697) (by decide +kernel)⟩
theorem lw_p20 : lw_okq (⟨"CarriedCommits", "stopOrFinish", "(I)I"⟩, 12) := ⟨⟨by decide +kernel, by decide +kernel⟩, List.mem_of_getElem? (i := 18) (by decide +kernel), List.mem_of_getElem? (i := 701) (by decide +kernel), List.mem_of_getElem? (i := 702) (by decide +kernel)⟩
theorem lw_p21 : lw_okq (⟨"CarriedCommits", "mergeAtStop", "(I)Z"⟩, 12) := ⟨⟨by decide +kernel, by decide +kernel⟩, List.mem_of_getElem? (i := 18) (by decide +kernel), List.mem_of_getElem? (i := 725) (by decide +kernel), List.mem_of_getElem? (i := 726) (by decide +kernel)⟩
theorem lw_p22 : lw_okq (⟨"CarriedCommits", "pickConflict", "(I)Z"⟩, 12) := ⟨⟨by decide +kernel, by decide +kernel⟩, List.mem_of_getElem? (i := 18) (by decide +kernel), List.mem_of_getElem? (i := 733) (by decide +kernel), List.mem_of_getElem? (i := 734) (by decide +kernel)⟩
theorem lw_p23 : lw_okq (⟨"CarriedCommits", "countReachedCommits", "()I"⟩, 12) := ⟨⟨by decide +kernel, by decide +kernel⟩, List.mem_of_getElem? (i := 18) (by decide +kernel), List.mem_of_getElem? (i := 879) (by decide +kernel), List.mem_of_getElem? (i := 880) (by decide +kernel)⟩
theorem lw_p24 : lw_okq (⟨"CarriedCommits", "isReached", "(LCarriedCommits$Plain;)Z"⟩, 12) := ⟨⟨by decide +kernel, by decide +kernel⟩, List.mem_of_getElem? (i := 18) (by decide +kernel), List.mem_of_getElem? (i := 883) (by decide +kernel), List.mem_of_getElem? (i := 884) (by decide +kernel)⟩
theorem lw_p25 : lw_okq (⟨"CarriedCommits", "countFilledSlots", "()I"⟩, 12) := ⟨⟨by decide +kernel, by decide +kernel⟩, List.mem_of_getElem? (i := 18) (by decide +kernel), List.mem_of_getElem? (i := 887) (by decide +kernel), List.mem_of_getElem? (i := 888) (by decide +kernel)⟩
theorem lw_p26 : lw_okq (⟨"CarriedCommitsModel", "made", "(III)I"⟩, 61) := ⟨⟨by decide +kernel, by decide +kernel⟩, List.mem_of_getElem? (i := 891) (by decide +kernel), List.mem_of_getElem? (i := 897) (by decide +kernel), List.mem_of_getElem? (i := 898) (by decide +kernel)⟩
theorem lw_p27 : lw_okq (⟨"CarriedCommitsModel", "leaves", "(I)V"⟩, 61) := ⟨⟨by decide +kernel, by decide +kernel⟩, List.mem_of_getElem? (i := 891) (by decide +kernel), List.mem_of_getElem? (i := 901) (by decide +kernel), List.mem_of_getElem? (i := 902) (by decide +kernel)⟩
theorem lw_p28 : lw_okq (⟨"CarriedCommitsModel", "isCommit", "(I)Z"⟩, 61) := ⟨⟨by decide +kernel, by decide +kernel⟩, List.mem_of_getElem? (i := 891) (by decide +kernel), List.mem_of_getElem? (i := 1093) (by decide +kernel), List.mem_of_getElem? (i := 1094) (by decide +kernel)⟩
theorem lw_p29 : lw_okq (⟨"CarriedCommitsModel", "change", "(I)V"⟩, 61) := ⟨⟨by decide +kernel, by decide +kernel⟩, List.mem_of_getElem? (i := 891) (by decide +kernel), List.mem_of_getElem? (i := 1100) (by decide +kernel), List.mem_of_getElem? (i := 1101) (by decide +kernel)⟩
theorem lw_p30 : lw_okq (⟨"CarriedCommitsModel", "pairs", "(III)V"⟩, 61) := ⟨⟨by decide +kernel, by decide +kernel⟩, List.mem_of_getElem? (i := 891) (by decide +kernel), List.mem_of_getElem? (i := 1104) (by decide +kernel), List.mem_of_getElem? (i := 1105) (by decide +kernel)⟩
theorem lw_p31 : lw_okq (⟨"CarriedCommitsModel", "counts", "(II)V"⟩, 61) := ⟨⟨by decide +kernel, by decide +kernel⟩, List.mem_of_getElem? (i := 891) (by decide +kernel), List.mem_of_getElem? (i := 1108) (by decide +kernel), List.mem_of_getElem? (i := 1109) (by decide +kernel)⟩
def lw_privs_2 : List (MethodName × Nat) := [(⟨"CarriedCommits", "lacksRoomFor", "(LCarriedCommits$Plain;LCarriedCommits$Plain;)Z"⟩, 12), (⟨"CarriedCommits", "carry", "(LCarriedCommits$Replay;)I"⟩, 12), (⟨"CarriedCommits", "isThereAlready", "(LCarriedCommits$Replay;LCarriedCommits$Plain;)Z"⟩, 12), (⟨"CarriedCommits", "place", "(LCarriedCommits$Replay;LCarriedCommits$Plain;)I"⟩, 12), (⟨"CarriedCommits", "stopOrFinish", "(I)I"⟩, 12), (⟨"CarriedCommits", "mergeAtStop", "(I)Z"⟩, 12), (⟨"CarriedCommits", "pickConflict", "(I)Z"⟩, 12), (⟨"CarriedCommits", "countReachedCommits", "()I"⟩, 12), (⟨"CarriedCommits", "isReached", "(LCarriedCommits$Plain;)Z"⟩, 12), (⟨"CarriedCommits", "countFilledSlots", "()I"⟩, 12), (⟨"CarriedCommitsModel", "made", "(III)I"⟩, 61), (⟨"CarriedCommitsModel", "leaves", "(I)V"⟩, 61), (⟨"CarriedCommitsModel", "isCommit", "(I)Z"⟩, 61), (⟨"CarriedCommitsModel", "change", "(I)V"⟩, 61), (⟨"CarriedCommitsModel", "pairs", "(III)V"⟩, 61), (⟨"CarriedCommitsModel", "counts", "(II)V"⟩, 61)]
theorem lw_r2 : ∀ q ∈ lw_privs_2, lw_okq q := List.forall_mem_cons.mpr ⟨lw_p16, List.forall_mem_cons.mpr ⟨lw_p17, List.forall_mem_cons.mpr ⟨lw_p18, List.forall_mem_cons.mpr ⟨lw_p19, List.forall_mem_cons.mpr ⟨lw_p20, List.forall_mem_cons.mpr ⟨lw_p21, List.forall_mem_cons.mpr ⟨lw_p22, List.forall_mem_cons.mpr ⟨lw_p23, List.forall_mem_cons.mpr ⟨lw_p24, List.forall_mem_cons.mpr ⟨lw_p25, List.forall_mem_cons.mpr ⟨lw_p26, List.forall_mem_cons.mpr ⟨lw_p27, List.forall_mem_cons.mpr ⟨lw_p28, List.forall_mem_cons.mpr ⟨lw_p29, List.forall_mem_cons.mpr ⟨lw_p30, List.forall_mem_cons.mpr ⟨lw_p31, fun _ h => absurd h List.not_mem_nil⟩⟩⟩⟩⟩⟩⟩⟩⟩⟩⟩⟩⟩⟩⟩⟩
theorem lw_p32 : lw_okq (⟨"CarriedCommitsModel", "isSame", "(IIII)Z"⟩, 61) := ⟨⟨by decide +kernel, by decide +kernel⟩, List.mem_of_getElem? (i := 891) (by decide +kernel), List.mem_of_getElem? (i := 1112) (by decide +kernel), List.mem_of_getElem? (i := 1113) (by decide +kernel)⟩
theorem lw_p33 : lw_okq (⟨"CarriedCommitsModel", "addPiece", "(IIII)V"⟩, 61) := ⟨⟨by decide +kernel, by decide +kernel⟩, List.mem_of_getElem? (i := 891) (by decide +kernel), List.mem_of_getElem? (i := 1116) (by decide +kernel), List.mem_of_getElem? (i := 1117) (by decide +kernel)⟩
theorem lw_p34 : lw_okq (⟨"CarriedCommitsModel", "areAlike", "(II)Z"⟩, 61) := ⟨⟨by decide +kernel, by decide +kernel⟩, List.mem_of_getElem? (i := 891) (by decide +kernel), List.mem_of_getElem? (i := 1127) (by decide +kernel), List.mem_of_getElem? (i := 1128) (by decide +kernel)⟩
theorem lw_p35 : lw_okq (⟨"CarriedCommitsModel", "tells", "(II)V"⟩, 61) := ⟨⟨by decide +kernel, by decide +kernel⟩, List.mem_of_getElem? (i := 891) (by decide +kernel), List.mem_of_getElem? (i := 1131) (by decide +kernel), List.mem_of_getElem? (i := 1132) (by decide +kernel)⟩
theorem lw_p36 : lw_okq (⟨"CarriedCommitsModel", "fails", "(I)I"⟩, 61) := ⟨⟨by decide +kernel, by decide +kernel⟩, List.mem_of_getElem? (i := 891) (by decide +kernel), List.mem_of_getElem? (i := 1145) (by decide +kernel), List.mem_of_getElem? (i := 1146) (by decide +kernel)⟩
theorem lw_p37 : lw_okq (⟨"CarriedCommitsModel", "areLines", "(II)Z"⟩, 61) := ⟨⟨by decide +kernel, by decide +kernel⟩, List.mem_of_getElem? (i := 891) (by decide +kernel), List.mem_of_getElem? (i := 1149) (by decide +kernel), List.mem_of_getElem? (i := 1150) (by decide +kernel)⟩
theorem lw_p38 : lw_okq (⟨"CarriedCommitsModel", "far", "(I)I"⟩, 61) := ⟨⟨by decide +kernel, by decide +kernel⟩, List.mem_of_getElem? (i := 891) (by decide +kernel), List.mem_of_getElem? (i := 1157) (by decide +kernel), List.mem_of_getElem? (i := 1158) (by decide +kernel)⟩
theorem lw_p39 : lw_okq (⟨"CarriedCommitsModel", "isOn", "(II)Z"⟩, 61) := ⟨⟨by decide +kernel, by decide +kernel⟩, List.mem_of_getElem? (i := 891) (by decide +kernel), List.mem_of_getElem? (i := 1169) (by decide +kernel), List.mem_of_getElem? (i := 1170) (by decide +kernel)⟩
theorem lw_p40 : lw_okq (⟨"CarriedCommitsModel", "merges", "(III)V"⟩, 61) := ⟨⟨by decide +kernel, by decide +kernel⟩, List.mem_of_getElem? (i := 891) (by decide +kernel), List.mem_of_getElem? (i := 1181) (by decide +kernel), List.mem_of_getElem? (i := 1182) (by decide +kernel)⟩
theorem lw_p41 : lw_okq (⟨"CarriedCommitsModel", "mergesGap", "(III)V"⟩, 61) := ⟨⟨by decide +kernel, by decide +kernel⟩, List.mem_of_getElem? (i := 891) (by decide +kernel), List.mem_of_getElem? (i := 1185) (by decide +kernel), List.mem_of_getElem? (i := 1186) (by decide +kernel)⟩
theorem lw_p42 : lw_okq (⟨"CarriedCommitsModel", "isSamePart", "(IIIIII)Z"⟩, 61) := ⟨⟨by decide +kernel, by decide +kernel⟩, List.mem_of_getElem? (i := 891) (by decide +kernel), List.mem_of_getElem? (i := 1189) (by decide +kernel), List.mem_of_getElem? (i := 1190) (by decide +kernel)⟩
theorem lw_p43 : lw_okq (⟨"CarriedCommitsModel", "takes", "(III)V"⟩, 61) := ⟨⟨by decide +kernel, by decide +kernel⟩, List.mem_of_getElem? (i := 891) (by decide +kernel), List.mem_of_getElem? (i := 1193) (by decide +kernel), List.mem_of_getElem? (i := 1194) (by decide +kernel)⟩
theorem lw_p44 : lw_okq (⟨"CarriedCommitsModel", "resolves", "(III)V"⟩, 61) := ⟨⟨by decide +kernel, by decide +kernel⟩, List.mem_of_getElem? (i := 891) (by decide +kernel), List.mem_of_getElem? (i := 1197) (by decide +kernel), List.mem_of_getElem? (i := 1198) (by decide +kernel)⟩
theorem lw_p45 : lw_okq (⟨"CarriedCommitsModel", "shapeOf", "(IIII)V"⟩, 61) := ⟨⟨by decide +kernel, by decide +kernel⟩, List.mem_of_getElem? (i := 891) (by decide +kernel), List.mem_of_getElem? (i := 1201) (by decide +kernel), List.mem_of_getElem? (i := 1202) (by decide +kernel)⟩
theorem lw_p46 : lw_okq (⟨"CarriedCommitsModel", "shapes", "(IIIII)I"⟩, 61) := ⟨⟨by decide +kernel, by decide +kernel⟩, List.mem_of_getElem? (i := 891) (by decide +kernel), List.mem_of_getElem? (i := 1205) (by decide +kernel), List.mem_of_getElem? (i := 1206) (by decide +kernel)⟩
theorem lw_p47 : lw_okq (⟨"CarriedCommitsModel", "nameOf", "(II)I"⟩, 61) := ⟨⟨by decide +kernel, by decide +kernel⟩, List.mem_of_getElem? (i := 891) (by decide +kernel), List.mem_of_getElem? (i := 1209) (by decide +kernel), List.mem_of_getElem? (i := 1210) (by decide +kernel)⟩
def lw_privs_3 : List (MethodName × Nat) := [(⟨"CarriedCommitsModel", "isSame", "(IIII)Z"⟩, 61), (⟨"CarriedCommitsModel", "addPiece", "(IIII)V"⟩, 61), (⟨"CarriedCommitsModel", "areAlike", "(II)Z"⟩, 61), (⟨"CarriedCommitsModel", "tells", "(II)V"⟩, 61), (⟨"CarriedCommitsModel", "fails", "(I)I"⟩, 61), (⟨"CarriedCommitsModel", "areLines", "(II)Z"⟩, 61), (⟨"CarriedCommitsModel", "far", "(I)I"⟩, 61), (⟨"CarriedCommitsModel", "isOn", "(II)Z"⟩, 61), (⟨"CarriedCommitsModel", "merges", "(III)V"⟩, 61), (⟨"CarriedCommitsModel", "mergesGap", "(III)V"⟩, 61), (⟨"CarriedCommitsModel", "isSamePart", "(IIIIII)Z"⟩, 61), (⟨"CarriedCommitsModel", "takes", "(III)V"⟩, 61), (⟨"CarriedCommitsModel", "resolves", "(III)V"⟩, 61), (⟨"CarriedCommitsModel", "shapeOf", "(IIII)V"⟩, 61), (⟨"CarriedCommitsModel", "shapes", "(IIIII)I"⟩, 61), (⟨"CarriedCommitsModel", "nameOf", "(II)I"⟩, 61)]
theorem lw_r3 : ∀ q ∈ lw_privs_3, lw_okq q := List.forall_mem_cons.mpr ⟨lw_p32, List.forall_mem_cons.mpr ⟨lw_p33, List.forall_mem_cons.mpr ⟨lw_p34, List.forall_mem_cons.mpr ⟨lw_p35, List.forall_mem_cons.mpr ⟨lw_p36, List.forall_mem_cons.mpr ⟨lw_p37, List.forall_mem_cons.mpr ⟨lw_p38, List.forall_mem_cons.mpr ⟨lw_p39, List.forall_mem_cons.mpr ⟨lw_p40, List.forall_mem_cons.mpr ⟨lw_p41, List.forall_mem_cons.mpr ⟨lw_p42, List.forall_mem_cons.mpr ⟨lw_p43, List.forall_mem_cons.mpr ⟨lw_p44, List.forall_mem_cons.mpr ⟨lw_p45, List.forall_mem_cons.mpr ⟨lw_p46, List.forall_mem_cons.mpr ⟨lw_p47, fun _ h => absurd h List.not_mem_nil⟩⟩⟩⟩⟩⟩⟩⟩⟩⟩⟩⟩⟩⟩⟩⟩
theorem lw_p48 : lw_okq (⟨"CarriedCommitsModel", "resolutionOf", "()I"⟩, 61) := ⟨⟨by decide +kernel, by decide +kernel⟩, List.mem_of_getElem? (i := 891) (by decide +kernel), List.mem_of_getElem? (i := 1213) (by decide +kernel), List.mem_of_getElem? (i := 1214) (by decide +kernel)⟩
theorem lw_p49 : lw_okq (⟨"CarriedCommitsModel", "laysResult", "(I)V"⟩, 61) := ⟨⟨by decide +kernel, by decide +kernel⟩, List.mem_of_getElem? (i := 891) (by decide +kernel), List.mem_of_getElem? (i := 1217) (by decide +kernel), List.mem_of_getElem? (i := 1218) (by decide +kernel)⟩
theorem lw_p50 : lw_okq (⟨"CarriedCommitsModel", "isResult", "(I)Z"⟩, 61) := ⟨⟨by decide +kernel, by decide +kernel⟩, List.mem_of_getElem? (i := 891) (by decide +kernel), List.mem_of_getElem? (i := 1221) (by decide +kernel), List.mem_of_getElem? (i := 1222) (by decide +kernel)⟩
theorem lw_p51 : lw_okq (⟨"CarriedCommitsModel", "plans", "(II)V"⟩, 61) := ⟨⟨by decide +kernel, by decide +kernel⟩, List.mem_of_getElem? (i := 891) (by decide +kernel), List.mem_of_getElem? (i := 1253) (by decide +kernel), List.mem_of_getElem? (i := 1254) (by decide +kernel)⟩
theorem lw_p52 : lw_okq (⟨"CarriedCommitsModel", "keeps", "(Z)V"⟩, 61) := ⟨⟨by decide +kernel, by decide +kernel⟩, List.mem_of_getElem? (i := 891) (by decide +kernel), List.mem_of_getElem? (i := 1257) (by decide +kernel), List.mem_of_getElem? (i := 1258) (by decide +kernel)⟩
theorem lw_p53 : lw_okq (⟨"CarriedCommitsModel", "goesOn", "(Z)I"⟩, 61) := ⟨⟨by decide +kernel, by decide +kernel⟩, List.mem_of_getElem? (i := 891) (by decide +kernel), List.mem_of_getElem? (i := 1261) (by decide +kernel), List.mem_of_getElem? (i := 1262) (by decide +kernel)⟩
theorem lw_p54 : lw_okq (⟨"CarriedCommitsModel", "isThere", "(III)Z"⟩, 61) := ⟨⟨by decide +kernel, by decide +kernel⟩, List.mem_of_getElem? (i := 891) (by decide +kernel), List.mem_of_getElem? (i := 1265) (by decide +kernel), List.mem_of_getElem? (i := 1266) (by decide +kernel)⟩
theorem lw_p55 : lw_okq (⟨"CarriedCommitsModel", "against", "(II)I"⟩, 61) := ⟨⟨by decide +kernel, by decide +kernel⟩, List.mem_of_getElem? (i := 891) (by decide +kernel), List.mem_of_getElem? (i := 1269) (by decide +kernel), List.mem_of_getElem? (i := 1270) (by decide +kernel)⟩
theorem lw_p56 : lw_okq (⟨"CarriedCommitsModel", "puts", "(I)V"⟩, 61) := ⟨⟨by decide +kernel, by decide +kernel⟩, List.mem_of_getElem? (i := 891) (by decide +kernel), List.mem_of_getElem? (i := 1273) (by decide +kernel), List.mem_of_getElem? (i := 1274) (by decide +kernel)⟩
theorem lw_p57 : lw_okq (⟨"CarriedCommitsModel", "isOpen", "(I)Z"⟩, 61) := ⟨⟨by decide +kernel, by decide +kernel⟩, List.mem_of_getElem? (i := 891) (by decide +kernel), List.mem_of_getElem? (i := 1297) (by decide +kernel), List.mem_of_getElem? (i := 1298) (by decide +kernel)⟩
theorem lw_p58 : lw_okq (⟨"CarriedCommitsModel", "partOf", "(IIII)I"⟩, 61) := ⟨⟨by decide +kernel, by decide +kernel⟩, List.mem_of_getElem? (i := 891) (by decide +kernel), List.mem_of_getElem? (i := 1301) (by decide +kernel), List.mem_of_getElem? (i := 1302) (by decide +kernel)⟩
theorem lw_p59 : lw_okq (⟨"CarriedCommitsModel", "foretells", "(II)V"⟩, 61) := ⟨⟨by decide +kernel, by decide +kernel⟩, List.mem_of_getElem? (i := 891) (by decide +kernel), List.mem_of_getElem? (i := 1313) (by decide +kernel), List.mem_of_getElem? (i := 1314) (by decide +kernel)⟩
theorem lw_p60 : lw_okq (⟨"CarriedCommitsModel", "refused", "(I)I"⟩, 61) := ⟨⟨by decide +kernel, by decide +kernel⟩, List.mem_of_getElem? (i := 891) (by decide +kernel), List.mem_of_getElem? (i := 1321) (by decide +kernel), List.mem_of_getElem? (i := 1322) (by decide +kernel)⟩
theorem lw_p61 : lw_okq (⟨"CarriedCommitsModel", "clears", "(III)V"⟩, 61) := ⟨⟨by decide +kernel, by decide +kernel⟩, List.mem_of_getElem? (i := 891) (by decide +kernel), List.mem_of_getElem? (i := 1325) (by decide +kernel), List.mem_of_getElem? (i := 1326) (by decide +kernel)⟩
theorem lw_p62 : lw_okq (⟨"CarriedCommitsModel", "againstNumber", "(II)I"⟩, 61) := ⟨⟨by decide +kernel, by decide +kernel⟩, List.mem_of_getElem? (i := 891) (by decide +kernel), List.mem_of_getElem? (i := 1357) (by decide +kernel), List.mem_of_getElem? (i := 1358) (by decide +kernel)⟩
def lw_privs_4 : List (MethodName × Nat) := [(⟨"CarriedCommitsModel", "resolutionOf", "()I"⟩, 61), (⟨"CarriedCommitsModel", "laysResult", "(I)V"⟩, 61), (⟨"CarriedCommitsModel", "isResult", "(I)Z"⟩, 61), (⟨"CarriedCommitsModel", "plans", "(II)V"⟩, 61), (⟨"CarriedCommitsModel", "keeps", "(Z)V"⟩, 61), (⟨"CarriedCommitsModel", "goesOn", "(Z)I"⟩, 61), (⟨"CarriedCommitsModel", "isThere", "(III)Z"⟩, 61), (⟨"CarriedCommitsModel", "against", "(II)I"⟩, 61), (⟨"CarriedCommitsModel", "puts", "(I)V"⟩, 61), (⟨"CarriedCommitsModel", "isOpen", "(I)Z"⟩, 61), (⟨"CarriedCommitsModel", "partOf", "(IIII)I"⟩, 61), (⟨"CarriedCommitsModel", "foretells", "(II)V"⟩, 61), (⟨"CarriedCommitsModel", "refused", "(I)I"⟩, 61), (⟨"CarriedCommitsModel", "clears", "(III)V"⟩, 61), (⟨"CarriedCommitsModel", "againstNumber", "(II)I"⟩, 61)]
theorem lw_r4 : ∀ q ∈ lw_privs_4, lw_okq q := List.forall_mem_cons.mpr ⟨lw_p48, List.forall_mem_cons.mpr ⟨lw_p49, List.forall_mem_cons.mpr ⟨lw_p50, List.forall_mem_cons.mpr ⟨lw_p51, List.forall_mem_cons.mpr ⟨lw_p52, List.forall_mem_cons.mpr ⟨lw_p53, List.forall_mem_cons.mpr ⟨lw_p54, List.forall_mem_cons.mpr ⟨lw_p55, List.forall_mem_cons.mpr ⟨lw_p56, List.forall_mem_cons.mpr ⟨lw_p57, List.forall_mem_cons.mpr ⟨lw_p58, List.forall_mem_cons.mpr ⟨lw_p59, List.forall_mem_cons.mpr ⟨lw_p60, List.forall_mem_cons.mpr ⟨lw_p61, List.forall_mem_cons.mpr ⟨lw_p62, fun _ h => absurd h List.not_mem_nil⟩⟩⟩⟩⟩⟩⟩⟩⟩⟩⟩⟩⟩⟩⟩
def lw_privs : List (MethodName × Nat) := lw_privs_1 ++ (lw_privs_2 ++ (lw_privs_3 ++ (lw_privs_4)))
def lw_tbl : List Cond := k2_sels lw_privs ++ tables_1
theorem lw_privs_ok : ∀ q ∈ lw_privs, lw_okq q := by
  show ∀ q ∈ lw_privs_1 ++ (lw_privs_2 ++ (lw_privs_3 ++ (lw_privs_4))), lw_okq q
  exact List.forall_mem_append.mpr ⟨lw_r1, List.forall_mem_append.mpr ⟨lw_r2, List.forall_mem_append.mpr ⟨lw_r3, lw_r4⟩⟩⟩

def RX0 : String := "CarriedCommits$Fix"
def TX0 : u_T := fun k => match k with
  | 0 => ("CarriedCommits$Plain", "track", "LCarriedCommits$Trace;", true)
  | 1 => ("CarriedCommits$Plain", "number", "I", true)
  | 2 => ("CarriedCommits$Plain", "parent", "LCarriedCommits$Plain;", true)
  | 3 => ("CarriedCommits$Plain", "origin", "LCarriedCommits$Plain;", true)
  | 4 => ("CarriedCommits$Plain", "row", "[I", false)
  | _ => ("CarriedCommits$Plain", "gone", "Z", false)
def tyX0 : Nat → FieldType := fun k => match k with
  | 0 => .object "CarriedCommits$Trace"
  | 1 => .int
  | 2 => .object "CarriedCommits$Plain"
  | 3 => .object "CarriedCommits$Plain"
  | 4 => .array .int
  | _ => .boolean
theorem nmX0 : ∀ a, a < 6 → ∀ b, b < 6 → a ≠ b → (TX0 a).2.1 ≠ (TX0 b).2.1 := by decide +kernel
theorem tyX0_ok : ∀ k, k < 6 → parseFieldDescriptor (TX0 k).2.2.1 = some (tyX0 k) := by decide +kernel
abbrev cX0_init : ByteArray := prog_2_method_1_code
def yX0_init : MethodName := ⟨RX0, "<init>", "(LCarriedCommits$Trace;ILCarriedCommits$Plain;[ILCarriedCommits$Plain;)V"⟩
abbrev cX0_kind : ByteArray := prog_2_method_2_code
def yX0_kind : MethodName := ⟨RX0, "kind", "()I"⟩
abbrev cX0_speak : ByteArray := prog_2_method_3_code
def yX0_speak : MethodName := ⟨RX0, "speak", "()I"⟩
def RX1 : String := "CarriedCommits$Kept"
def TX1 : u_T := fun k => match k with
  | 0 => ("CarriedCommits$Plain", "track", "LCarriedCommits$Trace;", true)
  | 1 => ("CarriedCommits$Plain", "number", "I", true)
  | 2 => ("CarriedCommits$Plain", "parent", "LCarriedCommits$Plain;", true)
  | 3 => ("CarriedCommits$Plain", "origin", "LCarriedCommits$Plain;", true)
  | 4 => ("CarriedCommits$Plain", "row", "[I", false)
  | _ => ("CarriedCommits$Plain", "gone", "Z", false)
def tyX1 : Nat → FieldType := fun k => match k with
  | 0 => .object "CarriedCommits$Trace"
  | 1 => .int
  | 2 => .object "CarriedCommits$Plain"
  | 3 => .object "CarriedCommits$Plain"
  | 4 => .array .int
  | _ => .boolean
theorem nmX1 : ∀ a, a < 6 → ∀ b, b < 6 → a ≠ b → (TX1 a).2.1 ≠ (TX1 b).2.1 := by decide +kernel
theorem tyX1_ok : ∀ k, k < 6 → parseFieldDescriptor (TX1 k).2.2.1 = some (tyX1 k) := by decide +kernel
abbrev cX1_init : ByteArray := prog_3_method_1_code
def yX1_init : MethodName := ⟨RX1, "<init>", "(LCarriedCommits$Trace;ILCarriedCommits$Plain;[ILCarriedCommits$Plain;)V"⟩
abbrev cX1_kind : ByteArray := prog_3_method_2_code
def yX1_kind : MethodName := ⟨RX1, "kind", "()I"⟩
abbrev cX1_speak : ByteArray := prog_3_method_3_code
def yX1_speak : MethodName := ⟨RX1, "speak", "()I"⟩
def RX2 : String := "CarriedCommits$Matching"
def TX2 : u_T := fun k => match k with
  | 0 => ("CarriedCommits$Matching", "most", "[I", true)
  | 1 => ("CarriedCommits$Matching", "partner", "[I", true)
  | 2 => ("CarriedCommits$Matching", "outs", "[LCarriedCommits$Part;", true)
  | 3 => ("CarriedCommits$Matching", "ins", "[LCarriedCommits$Part;", true)
  | _ => ("CarriedCommits$Matching", "pieces", "I", false)
def tyX2 : Nat → FieldType := fun k => match k with
  | 0 => .array .int
  | 1 => .array .int
  | 2 => .array (.object "CarriedCommits$Part")
  | 3 => .array (.object "CarriedCommits$Part")
  | _ => .int
theorem nmX2 : ∀ a, a < 5 → ∀ b, b < 5 → a ≠ b → (TX2 a).2.1 ≠ (TX2 b).2.1 := by decide +kernel
theorem tyX2_ok : ∀ k, k < 5 → parseFieldDescriptor (TX2 k).2.2.1 = some (tyX2 k) := by decide +kernel
abbrev cX2_init : ByteArray := prog_4_method_1_code
def yX2_init : MethodName := ⟨RX2, "<init>", "()V"⟩
abbrev cX2_match : ByteArray := prog_4_method_2_code
def yX2_match : MethodName := ⟨RX2, "match", "([I[I)V"⟩
abbrev cX2_fillMost : ByteArray := prog_4_method_3_code
def yX2_fillMost : MethodName := ⟨RX2, "fillMost", "([II[II)V"⟩
abbrev cX2_readChange : ByteArray := prog_4_method_4_code
def yX2_readChange : MethodName := ⟨RX2, "readChange", "(LCarriedCommits$Plain;)V"⟩
abbrev cX2_hasSamePieces : ByteArray := prog_4_method_5_code
def yX2_hasSamePieces : MethodName := ⟨RX2, "hasSamePieces", "(LCarriedCommits$Matching;)Z"⟩
def RX3 : String := "CarriedCommits$Merger"
def TX3 : u_T := fun k => match k with
  | 0 => ("CarriedCommits$Merger", "resolutions", "[LCarriedCommits$Resolution;", true)
  | 1 => ("CarriedCommits$Merger", "resolutionCount", "I", false)
  | 2 => ("CarriedCommits$Merger", "result", "[I", true)
  | 3 => ("CarriedCommits$Merger", "size", "I", false)
  | 4 => ("CarriedCommits$Merger", "conflicts", "I", false)
  | 5 => ("CarriedCommits$Merger", "open", "I", false)
  | 6 => ("CarriedCommits$Merger", "toOurs", "LCarriedCommits$Matching;", true)
  | 7 => ("CarriedCommits$Merger", "toTheirs", "LCarriedCommits$Matching;", true)
  | 8 => ("CarriedCommits$Merger", "base", "LCarriedCommits$Part;", true)
  | 9 => ("CarriedCommits$Merger", "ours", "LCarriedCommits$Part;", true)
  | 10 => ("CarriedCommits$Merger", "theirs", "LCarriedCommits$Part;", true)
  | 11 => ("CarriedCommits$Merger", "pickedBase", "LCarriedCommits$Part;", true)
  | 12 => ("CarriedCommits$Merger", "pickedOurs", "LCarriedCommits$Part;", true)
  | 13 => ("CarriedCommits$Merger", "pickedTheirs", "LCarriedCommits$Part;", true)
  | 14 => ("CarriedCommits$Merger", "oursFirst", "LCarriedCommits$Shape;", true)
  | 15 => ("CarriedCommits$Merger", "theirsFirst", "LCarriedCommits$Shape;", true)
  | _ => ("CarriedCommits$Merger", "shape", "LCarriedCommits$Shape;", false)
def tyX3 : Nat → FieldType := fun k => match k with
  | 0 => .array (.object "CarriedCommits$Resolution")
  | 1 => .int
  | 2 => .array .int
  | 3 => .int
  | 4 => .int
  | 5 => .int
  | 6 => .object "CarriedCommits$Matching"
  | 7 => .object "CarriedCommits$Matching"
  | 8 => .object "CarriedCommits$Part"
  | 9 => .object "CarriedCommits$Part"
  | 10 => .object "CarriedCommits$Part"
  | 11 => .object "CarriedCommits$Part"
  | 12 => .object "CarriedCommits$Part"
  | 13 => .object "CarriedCommits$Part"
  | 14 => .object "CarriedCommits$Shape"
  | 15 => .object "CarriedCommits$Shape"
  | _ => .object "CarriedCommits$Shape"
theorem nmX3 : ∀ a, a < 17 → ∀ b, b < 17 → a ≠ b → (TX3 a).2.1 ≠ (TX3 b).2.1 := by decide +kernel
theorem tyX3_ok : ∀ k, k < 17 → parseFieldDescriptor (TX3 k).2.2.1 = some (tyX3 k) := by decide +kernel
abbrev cX3_init : ByteArray := prog_5_method_1_code
def yX3_init : MethodName := ⟨RX3, "<init>", "()V"⟩
abbrev cX3_mergeRows : ByteArray := prog_5_method_2_code
def yX3_mergeRows : MethodName := ⟨RX3, "mergeRows", "([I[I[II)V"⟩
abbrev cX3_takeCleanGap : ByteArray := prog_5_method_3_code
def yX3_takeCleanGap : MethodName := ⟨RX3, "takeCleanGap", "()Z"⟩
abbrev cX3_meetConflict : ByteArray := prog_5_method_4_code
def yX3_meetConflict : MethodName := ⟨RX3, "meetConflict", "(I)V"⟩
abbrev cX3_findShape : ByteArray := prog_5_method_5_code
def yX3_findShape : MethodName := ⟨RX3, "findShape", "(LCarriedCommits$Part;LCarriedCommits$Part;LCarriedCommits$Part;)V"⟩
abbrev cX3_findResolution : ByteArray := prog_5_method_6_code
def yX3_findResolution : MethodName := ⟨RX3, "findResolution", "()LCarriedCommits$Resolution;"⟩
abbrev cX3_addLine : ByteArray := prog_5_method_7_code
def yX3_addLine : MethodName := ⟨RX3, "addLine", "(I)V"⟩
abbrev cX3_addLines : ByteArray := prog_5_method_8_code
def yX3_addLines : MethodName := ⟨RX3, "addLines", "(LCarriedCommits$Part;)V"⟩
abbrev cX3_addResolved : ByteArray := prog_5_method_9_code
def yX3_addResolved : MethodName := ⟨RX3, "addResolved", "(LCarriedCommits$Resolution;)V"⟩
abbrev cX3_resultLine : ByteArray := prog_5_method_10_code
def yX3_resultLine : MethodName := ⟨RX3, "resultLine", "(I)I"⟩
abbrev cX3_resultEquals : ByteArray := prog_5_method_11_code
def yX3_resultEquals : MethodName := ⟨RX3, "resultEquals", "([I)Z"⟩
abbrev cX3_copyResult : ByteArray := prog_5_method_12_code
def yX3_copyResult : MethodName := ⟨RX3, "copyResult", "()[I"⟩
abbrev cX3_resolutionAt : ByteArray := prog_5_method_13_code
def yX3_resolutionAt : MethodName := ⟨RX3, "resolutionAt", "(I)LCarriedCommits$Resolution;"⟩
abbrev cX3_addResolution : ByteArray := prog_5_method_14_code
def yX3_addResolution : MethodName := ⟨RX3, "addResolution", "([I)V"⟩
abbrev cX3_removeResolution : ByteArray := prog_5_method_15_code
def yX3_removeResolution : MethodName := ⟨RX3, "removeResolution", "(I)V"⟩
def RX4 : String := "CarriedCommits$Part"
def TX4 : u_T := fun k => match k with
  | 0 => ("CarriedCommits$Part", "row", "[I", false)
  | 1 => ("CarriedCommits$Part", "from", "I", false)
  | _ => ("CarriedCommits$Part", "size", "I", false)
def tyX4 : Nat → FieldType := fun k => match k with
  | 0 => .array .int
  | 1 => .int
  | _ => .int
theorem nmX4 : ∀ a, a < 3 → ∀ b, b < 3 → a ≠ b → (TX4 a).2.1 ≠ (TX4 b).2.1 := by decide +kernel
theorem tyX4_ok : ∀ k, k < 3 → parseFieldDescriptor (TX4 k).2.2.1 = some (tyX4 k) := by decide +kernel
abbrev cX4_init : ByteArray := prog_6_method_1_code
def yX4_init : MethodName := ⟨RX4, "<init>", "()V"⟩
abbrev cX4_setTo : ByteArray := prog_6_method_2_code
def yX4_setTo : MethodName := ⟨RX4, "setTo", "([III)V"⟩
abbrev cX4_lineAt : ByteArray := prog_6_method_3_code
def yX4_lineAt : MethodName := ⟨RX4, "lineAt", "(I)I"⟩
abbrev cX4_equalsPart : ByteArray := prog_6_method_4_code
def yX4_equalsPart : MethodName := ⟨RX4, "equalsPart", "(LCarriedCommits$Part;)Z"⟩
def RX5 : String := "CarriedCommits$Plain"
def TX5 : u_T := fun k => match k with
  | 0 => ("CarriedCommits$Plain", "track", "LCarriedCommits$Trace;", true)
  | 1 => ("CarriedCommits$Plain", "number", "I", true)
  | 2 => ("CarriedCommits$Plain", "parent", "LCarriedCommits$Plain;", true)
  | 3 => ("CarriedCommits$Plain", "origin", "LCarriedCommits$Plain;", true)
  | 4 => ("CarriedCommits$Plain", "row", "[I", false)
  | _ => ("CarriedCommits$Plain", "gone", "Z", false)
def tyX5 : Nat → FieldType := fun k => match k with
  | 0 => .object "CarriedCommits$Trace"
  | 1 => .int
  | 2 => .object "CarriedCommits$Plain"
  | 3 => .object "CarriedCommits$Plain"
  | 4 => .array .int
  | _ => .boolean
theorem nmX5 : ∀ a, a < 6 → ∀ b, b < 6 → a ≠ b → (TX5 a).2.1 ≠ (TX5 b).2.1 := by decide +kernel
theorem tyX5_ok : ∀ k, k < 6 → parseFieldDescriptor (TX5 k).2.2.1 = some (tyX5 k) := by decide +kernel
abbrev cX5_init : ByteArray := prog_7_method_1_code
def yX5_init : MethodName := ⟨RX5, "<init>", "(LCarriedCommits$Trace;ILCarriedCommits$Plain;[ILCarriedCommits$Plain;)V"⟩
abbrev cX5_kind : ByteArray := prog_7_method_2_code
def yX5_kind : MethodName := ⟨RX5, "kind", "()I"⟩
abbrev cX5_speak : ByteArray := prog_7_method_3_code
def yX5_speak : MethodName := ⟨RX5, "speak", "()I"⟩
abbrev cX5_speakPlainly : ByteArray := prog_7_method_4_code
def yX5_speakPlainly : MethodName := ⟨RX5, "speakPlainly", "()I"⟩
abbrev cX5_parentRow : ByteArray := prog_7_method_5_code
def yX5_parentRow : MethodName := ⟨RX5, "parentRow", "()[I"⟩
abbrev cX5_isOnPathOf : ByteArray := prog_7_method_6_code
def yX5_isOnPathOf : MethodName := ⟨RX5, "isOnPathOf", "(LCarriedCommits$Plain;)Z"⟩
abbrev cX5_countNotOnPathOf : ByteArray := prog_7_method_7_code
def yX5_countNotOnPathOf : MethodName := ⟨RX5, "countNotOnPathOf", "(LCarriedCommits$Plain;)I"⟩
abbrev cX5_pathLength : ByteArray := prog_7_method_8_code
def yX5_pathLength : MethodName := ⟨RX5, "pathLength", "()I"⟩
abbrev cX5_pathNumbers : ByteArray := prog_7_method_9_code
def yX5_pathNumbers : MethodName := ⟨RX5, "pathNumbers", "()[I"⟩
def RX6 : String := "CarriedCommits$Replay"
def TX6 : u_T := fun k => match k with
  | 0 => ("CarriedCommits$Replay", "draft", "LCarriedCommits$Plain;", true)
  | 1 => ("CarriedCommits$Replay", "branch", "I", false)
  | 2 => ("CarriedCommits$Replay", "onto", "LCarriedCommits$Plain;", false)
  | 3 => ("CarriedCommits$Replay", "top", "LCarriedCommits$Plain;", false)
  | 4 => ("CarriedCommits$Replay", "work", "[LCarriedCommits$Plain;", true)
  | 5 => ("CarriedCommits$Replay", "at", "I", false)
  | 6 => ("CarriedCommits$Replay", "there", "[LCarriedCommits$Plain;", true)
  | 7 => ("CarriedCommits$Replay", "thereCount", "I", false)
  | 8 => ("CarriedCommits$Replay", "stop", "I", false)
  | 9 => ("CarriedCommits$Replay", "figures", "[I", true)
  | 10 => ("CarriedCommits$Replay", "commitsBefore", "I", false)
  | 11 => ("CarriedCommits$Replay", "figuresBefore", "[I", true)
  | 12 => ("CarriedCommits$Replay", "resolutionsBefore", "[LCarriedCommits$Resolution;", true)
  | _ => ("CarriedCommits$Replay", "resolutionCountBefore", "I", false)
def tyX6 : Nat → FieldType := fun k => match k with
  | 0 => .object "CarriedCommits$Plain"
  | 1 => .int
  | 2 => .object "CarriedCommits$Plain"
  | 3 => .object "CarriedCommits$Plain"
  | 4 => .array (.object "CarriedCommits$Plain")
  | 5 => .int
  | 6 => .array (.object "CarriedCommits$Plain")
  | 7 => .int
  | 8 => .int
  | 9 => .array .int
  | 10 => .int
  | 11 => .array .int
  | 12 => .array (.object "CarriedCommits$Resolution")
  | _ => .int
theorem nmX6 : ∀ a, a < 14 → ∀ b, b < 14 → a ≠ b → (TX6 a).2.1 ≠ (TX6 b).2.1 := by decide +kernel
theorem tyX6_ok : ∀ k, k < 14 → parseFieldDescriptor (TX6 k).2.2.1 = some (tyX6 k) := by decide +kernel
abbrev cX6_init : ByteArray := prog_8_method_1_code
def yX6_init : MethodName := ⟨RX6, "<init>", "(LCarriedCommits$Plain;LCarriedCommits$Plain;)V"⟩
abbrev cX6_begin : ByteArray := prog_8_method_2_code
def yX6_begin : MethodName := ⟨RX6, "begin", "(ILCarriedCommits$Plain;LCarriedCommits$Plain;)V"⟩
abbrev cX6_listNotOnPath : ByteArray := prog_8_method_3_code
def yX6_listNotOnPath : MethodName := ⟨RX6, "listNotOnPath", "(LCarriedCommits$Plain;LCarriedCommits$Plain;[LCarriedCommits$Plain;)I"⟩
abbrev cX6_commitAtWork : ByteArray := prog_8_method_4_code
def yX6_commitAtWork : MethodName := ⟨RX6, "commitAtWork", "()LCarriedCommits$Plain;"⟩
abbrev cX6_remember : ByteArray := prog_8_method_5_code
def yX6_remember : MethodName := ⟨RX6, "remember", "(ILCarriedCommits$Merger;)V"⟩
abbrev cX6_restore : ByteArray := prog_8_method_6_code
def yX6_restore : MethodName := ⟨RX6, "restore", "(LCarriedCommits$Merger;)V"⟩
def RX7 : String := "CarriedCommits$Resolution"
def TX7 : u_T := fun k => match k with
  | 0 => ("CarriedCommits$Resolution", "shape", "[I", true)
  | _ => ("CarriedCommits$Resolution", "row", "[I", true)
def tyX7 : Nat → FieldType := fun k => match k with
  | 0 => .array .int
  | _ => .array .int
theorem nmX7 : ∀ a, a < 2 → ∀ b, b < 2 → a ≠ b → (TX7 a).2.1 ≠ (TX7 b).2.1 := by decide +kernel
theorem tyX7_ok : ∀ k, k < 2 → parseFieldDescriptor (TX7 k).2.2.1 = some (tyX7 k) := by decide +kernel
abbrev cX7_init : ByteArray := prog_9_method_1_code
def yX7_init : MethodName := ⟨RX7, "<init>", "([I[I)V"⟩
def RX8 : String := "CarriedCommits$Shape"
def TX8 : u_T := fun k => match k with
  | 0 => ("CarriedCommits$Shape", "numbers", "[I", true)
  | 1 => ("CarriedCommits$Shape", "size", "I", false)
  | 2 => ("CarriedCommits$Shape", "lines", "[I", true)
  | _ => ("CarriedCommits$Shape", "names", "I", false)
def tyX8 : Nat → FieldType := fun k => match k with
  | 0 => .array .int
  | 1 => .int
  | 2 => .array .int
  | _ => .int
theorem nmX8 : ∀ a, a < 4 → ∀ b, b < 4 → a ≠ b → (TX8 a).2.1 ≠ (TX8 b).2.1 := by decide +kernel
theorem tyX8_ok : ∀ k, k < 4 → parseFieldDescriptor (TX8 k).2.2.1 = some (tyX8 k) := by decide +kernel
abbrev cX8_init : ByteArray := prog_10_method_1_code
def yX8_init : MethodName := ⟨RX8, "<init>", "()V"⟩
abbrev cX8_clear : ByteArray := prog_10_method_2_code
def yX8_clear : MethodName := ⟨RX8, "clear", "()V"⟩
abbrev cX8_addPart : ByteArray := prog_10_method_3_code
def yX8_addPart : MethodName := ⟨RX8, "addPart", "(LCarriedCommits$Part;)V"⟩
abbrev cX8_nameOf : ByteArray := prog_10_method_4_code
def yX8_nameOf : MethodName := ⟨RX8, "nameOf", "(I)I"⟩
abbrev cX8_numberAt : ByteArray := prog_10_method_5_code
def yX8_numberAt : MethodName := ⟨RX8, "numberAt", "(I)I"⟩
abbrev cX8_isBelow : ByteArray := prog_10_method_6_code
def yX8_isBelow : MethodName := ⟨RX8, "isBelow", "(LCarriedCommits$Shape;)Z"⟩
abbrev cX8_equalsNumbers : ByteArray := prog_10_method_7_code
def yX8_equalsNumbers : MethodName := ⟨RX8, "equalsNumbers", "([I)Z"⟩
def RX9 : String := "CarriedCommits$Slot"
def TX9 : u_T := fun k => match k with
  | 0 => ("CarriedCommits$Slot", "items", "[I", false)
  | 1 => ("CarriedCommits$Slot", "isNarrow", "Z", false)
  | _ => ("CarriedCommits$Slot", "commit", "LCarriedCommits$Plain;", false)
def tyX9 : Nat → FieldType := fun k => match k with
  | 0 => .array .int
  | 1 => .boolean
  | _ => .object "CarriedCommits$Plain"
theorem nmX9 : ∀ a, a < 3 → ∀ b, b < 3 → a ≠ b → (TX9 a).2.1 ≠ (TX9 b).2.1 := by decide +kernel
theorem tyX9_ok : ∀ k, k < 3 → parseFieldDescriptor (TX9 k).2.2.1 = some (tyX9 k) := by decide +kernel
abbrev cX9_init : ByteArray := prog_11_method_1_code
def yX9_init : MethodName := ⟨RX9, "<init>", "()V"⟩
abbrev cX9_isEmpty : ByteArray := prog_11_method_2_code
def yX9_isEmpty : MethodName := ⟨RX9, "isEmpty", "()Z"⟩
abbrev cX9_putArray : ByteArray := prog_11_method_3_code
def yX9_putArray : MethodName := ⟨RX9, "putArray", "([IZ)V"⟩
abbrev cX9_putCommit : ByteArray := prog_11_method_4_code
def yX9_putCommit : MethodName := ⟨RX9, "putCommit", "(LCarriedCommits$Plain;)V"⟩
abbrev cX9_isOfSort : ByteArray := prog_11_method_5_code
def yX9_isOfSort : MethodName := ⟨RX9, "isOfSort", "(I)Z"⟩
abbrev cX9_faultAsBytes : ByteArray := prog_11_method_6_code
def yX9_faultAsBytes : MethodName := ⟨RX9, "faultAsBytes", "()I"⟩
abbrev cX9_faultAtElement : ByteArray := prog_11_method_7_code
def yX9_faultAtElement : MethodName := ⟨RX9, "faultAtElement", "(I)I"⟩
abbrev cX9_holdsLines : ByteArray := prog_11_method_8_code
def yX9_holdsLines : MethodName := ⟨RX9, "holdsLines", "(I)Z"⟩
def RX10 : String := "CarriedCommits$Trace"
def TX10 : u_T := fun k => match k with
  | _ => ("CarriedCommits$Trace", "value", "I", false)
def tyX10 : Nat → FieldType := fun k => match k with
  | _ => .int
theorem nmX10 : ∀ a, a < 1 → ∀ b, b < 1 → a ≠ b → (TX10 a).2.1 ≠ (TX10 b).2.1 := by decide +kernel
theorem tyX10_ok : ∀ k, k < 1 → parseFieldDescriptor (TX10 k).2.2.1 = some (tyX10 k) := by decide +kernel
abbrev cX10_init : ByteArray := prog_12_method_1_code
def yX10_init : MethodName := ⟨RX10, "<init>", "()V"⟩
abbrev cX10_leave : ByteArray := prog_12_method_2_code
def yX10_leave : MethodName := ⟨RX10, "leave", "(I)V"⟩
def RX11 : String := "CarriedCommits"
def TX11 : u_T := fun k => match k with
  | 0 => ("CarriedCommits", "track", "LCarriedCommits$Trace;", true)
  | 1 => ("CarriedCommits", "commits", "[LCarriedCommits$Plain;", true)
  | 2 => ("CarriedCommits", "commitCount", "I", false)
  | 3 => ("CarriedCommits", "tips", "[LCarriedCommits$Plain;", true)
  | 4 => ("CarriedCommits", "slots", "[LCarriedCommits$Slot;", true)
  | 5 => ("CarriedCommits", "merger", "LCarriedCommits$Merger;", true)
  | 6 => ("CarriedCommits", "change", "LCarriedCommits$Matching;", true)
  | 7 => ("CarriedCommits", "otherChange", "LCarriedCommits$Matching;", true)
  | 8 => ("CarriedCommits", "current", "LCarriedCommits$Replay;", true)
  | 9 => ("CarriedCommits", "rehearsal", "LCarriedCommits$Replay;", true)
  | 10 => ("CarriedCommits", "scramble", "[I", true)
  | _ => ("CarriedCommits", "latestFault", "I", false)
def tyX11 : Nat → FieldType := fun k => match k with
  | 0 => .object "CarriedCommits$Trace"
  | 1 => .array (.object "CarriedCommits$Plain")
  | 2 => .int
  | 3 => .array (.object "CarriedCommits$Plain")
  | 4 => .array (.object "CarriedCommits$Slot")
  | 5 => .object "CarriedCommits$Merger"
  | 6 => .object "CarriedCommits$Matching"
  | 7 => .object "CarriedCommits$Matching"
  | 8 => .object "CarriedCommits$Replay"
  | 9 => .object "CarriedCommits$Replay"
  | 10 => .array .int
  | _ => .int
theorem nmX11 : ∀ a, a < 12 → ∀ b, b < 12 → a ≠ b → (TX11 a).2.1 ≠ (TX11 b).2.1 := by decide +kernel
theorem tyX11_ok : ∀ k, k < 12 → parseFieldDescriptor (TX11 k).2.2.1 = some (tyX11 k) := by decide +kernel
abbrev cX11_init : ByteArray := prog_1_method_1_code
def yX11_init : MethodName := ⟨RX11, "<init>", "()V"⟩
abbrev cX11_commit : ByteArray := prog_1_method_2_code
def yX11_commit : MethodName := ⟨RX11, "commit", "(III)I"⟩
abbrev cX11_ofCommit : ByteArray := prog_1_method_3_code
def yX11_ofCommit : MethodName := ⟨RX11, "ofCommit", "(II)I"⟩
abbrev cX11_piece : ByteArray := prog_1_method_4_code
def yX11_piece : MethodName := ⟨RX11, "piece", "(III)I"⟩
abbrev cX11_mark : ByteArray := prog_1_method_5_code
def yX11_mark : MethodName := ⟨RX11, "mark", "(I)I"⟩
abbrev cX11_alike : ByteArray := prog_1_method_6_code
def yX11_alike : MethodName := ⟨RX11, "alike", "(II)I"⟩
abbrev cX11_fork : ByteArray := prog_1_method_7_code
def yX11_fork : MethodName := ⟨RX11, "fork", "(II)I"⟩
abbrev cX11_ahead : ByteArray := prog_1_method_8_code
def yX11_ahead : MethodName := ⟨RX11, "ahead", "(II)I"⟩
abbrev cX11_swaps : ByteArray := prog_1_method_9_code
def yX11_swaps : MethodName := ⟨RX11, "swaps", "(I)I"⟩
abbrev cX11_tip : ByteArray := prog_1_method_10_code
def yX11_tip : MethodName := ⟨RX11, "tip", "(I)I"⟩
abbrev cX11_point : ByteArray := prog_1_method_11_code
def yX11_point : MethodName := ⟨RX11, "point", "(II)I"⟩
abbrev cX11_anew : ByteArray := prog_1_method_12_code
def yX11_anew : MethodName := ⟨RX11, "anew", "()I"⟩
abbrev cX11_merge : ByteArray := prog_1_method_13_code
def yX11_merge : MethodName := ⟨RX11, "merge", "(IIII)I"⟩
abbrev cX11_resolution : ByteArray := prog_1_method_14_code
def yX11_resolution : MethodName := ⟨RX11, "resolution", "(II)I"⟩
abbrev cX11_forget : ByteArray := prog_1_method_15_code
def yX11_forget : MethodName := ⟨RX11, "forget", "(I)I"⟩
abbrev cX11_replay : ByteArray := prog_1_method_16_code
def yX11_replay : MethodName := ⟨RX11, "replay", "(II)I"⟩
abbrev cX11_go : ByteArray := prog_1_method_17_code
def yX11_go : MethodName := ⟨RX11, "go", "()I"⟩
abbrev cX11_skip : ByteArray := prog_1_method_18_code
def yX11_skip : MethodName := ⟨RX11, "skip", "()I"⟩
abbrev cX11_abort : ByteArray := prog_1_method_19_code
def yX11_abort : MethodName := ⟨RX11, "abort", "()I"⟩
abbrev cX11_status : ByteArray := prog_1_method_20_code
def yX11_status : MethodName := ⟨RX11, "status", "(I)I"⟩
abbrev cX11_conflict : ByteArray := prog_1_method_21_code
def yX11_conflict : MethodName := ⟨RX11, "conflict", "(II)I"⟩
abbrev cX11_settle : ByteArray := prog_1_method_22_code
def yX11_settle : MethodName := ⟨RX11, "settle", "(II)I"⟩
abbrev cX11_foretell : ByteArray := prog_1_method_23_code
def yX11_foretell : MethodName := ⟨RX11, "foretell", "(III)I"⟩
abbrev cX11_blank : ByteArray := prog_1_method_24_code
def yX11_blank : MethodName := ⟨RX11, "blank", "(III)I"⟩
abbrev cX11_show : ByteArray := prog_1_method_25_code
def yX11_show : MethodName := ⟨RX11, "show", "(II)I"⟩
abbrev cX11_trail : ByteArray := prog_1_method_26_code
def yX11_trail : MethodName := ⟨RX11, "trail", "(II)I"⟩
abbrev cX11_hold : ByteArray := prog_1_method_27_code
def yX11_hold : MethodName := ⟨RX11, "hold", "(II)I"⟩
abbrev cX11_held : ByteArray := prog_1_method_28_code
def yX11_held : MethodName := ⟨RX11, "held", "(I)I"⟩
abbrev cX11_as : ByteArray := prog_1_method_29_code
def yX11_as : MethodName := ⟨RX11, "as", "(II)I"⟩
abbrev cX11_lose : ByteArray := prog_1_method_30_code
def yX11_lose : MethodName := ⟨RX11, "lose", "(I)I"⟩
abbrev cX11_write : ByteArray := prog_1_method_31_code
def yX11_write : MethodName := ⟨RX11, "write", "(III)I"⟩
abbrev cX11_number : ByteArray := prog_1_method_32_code
def yX11_number : MethodName := ⟨RX11, "number", "(II)J"⟩
abbrev cX11_copy : ByteArray := prog_1_method_33_code
def yX11_copy : MethodName := ⟨RX11, "copy", "(IIIII)I"⟩
abbrev cX11_tell : ByteArray := prog_1_method_34_code
def yX11_tell : MethodName := ⟨RX11, "tell", "(I)I"⟩
abbrev cX11_trace : ByteArray := prog_1_method_35_code
def yX11_trace : MethodName := ⟨RX11, "trace", "()I"⟩
abbrev cX11_fault : ByteArray := prog_1_method_36_code
def yX11_fault : MethodName := ⟨RX11, "fault", "()I"⟩
abbrev cX11_many : ByteArray := prog_1_method_37_code
def yX11_many : MethodName := ⟨RX11, "many", "(I)I"⟩
abbrev cX11_commitAt : ByteArray := prog_1_method_38_code
def yX11_commitAt : MethodName := ⟨RX11, "commitAt", "(I)LCarriedCommits$Plain;"⟩
abbrev cX11_tipOf : ByteArray := prog_1_method_39_code
def yX11_tipOf : MethodName := ⟨RX11, "tipOf", "(I)LCarriedCommits$Plain;"⟩
abbrev cX11_slotAt : ByteArray := prog_1_method_40_code
def yX11_slotAt : MethodName := ⟨RX11, "slotAt", "(I)LCarriedCommits$Slot;"⟩
abbrev cX11_elementOr : ByteArray := prog_1_method_41_code
def yX11_elementOr : MethodName := ⟨RX11, "elementOr", "([II)I"⟩
abbrev cX11_isLineIndex : ByteArray := prog_1_method_42_code
def yX11_isLineIndex : MethodName := ⟨RX11, "isLineIndex", "(I)Z"⟩
abbrev cX11_isShapeIndex : ByteArray := prog_1_method_43_code
def yX11_isShapeIndex : MethodName := ⟨RX11, "isShapeIndex", "(I)Z"⟩
abbrev cX11_isRange : ByteArray := prog_1_method_44_code
def yX11_isRange : MethodName := ⟨RX11, "isRange", "(III)Z"⟩
abbrev cX11_failBy : ByteArray := prog_1_method_45_code
def yX11_failBy : MethodName := ⟨RX11, "failBy", "(I)I"⟩
abbrev cX11_hashPart : ByteArray := prog_1_method_46_code
def yX11_hashPart : MethodName := ⟨RX11, "hashPart", "(ILCarriedCommits$Part;)I"⟩
abbrev cX11_countReachedCommits : ByteArray := prog_1_method_47_code
def yX11_countReachedCommits : MethodName := ⟨RX11, "countReachedCommits", "()I"⟩
abbrev cX11_isReached : ByteArray := prog_1_method_48_code
def yX11_isReached : MethodName := ⟨RX11, "isReached", "(LCarriedCommits$Plain;)Z"⟩
abbrev cX11_countFilledSlots : ByteArray := prog_1_method_49_code
def yX11_countFilledSlots : MethodName := ⟨RX11, "countFilledSlots", "()I"⟩
abbrev cX11_makeFirstCommit : ByteArray := prog_1_method_50_code
def yX11_makeFirstCommit : MethodName := ⟨RX11, "makeFirstCommit", "()LCarriedCommits$Plain;"⟩
abbrev cX11_makeCommit : ByteArray := prog_1_method_51_code
def yX11_makeCommit : MethodName := ⟨RX11, "makeCommit", "(ILCarriedCommits$Plain;[ILCarriedCommits$Plain;)LCarriedCommits$Plain;"⟩
abbrev cX11_dropCommitsFrom : ByteArray := prog_1_method_52_code
def yX11_dropCommitsFrom : MethodName := ⟨RX11, "dropCommitsFrom", "(I)V"⟩
abbrev cX11_isUnderWay : ByteArray := prog_1_method_53_code
def yX11_isUnderWay : MethodName := ⟨RX11, "isUnderWay", "()Z"⟩
abbrev cX11_lacksRoomFor : ByteArray := prog_1_method_54_code
def yX11_lacksRoomFor : MethodName := ⟨RX11, "lacksRoomFor", "(LCarriedCommits$Plain;LCarriedCommits$Plain;)Z"⟩
abbrev cX11_carry : ByteArray := prog_1_method_55_code
def yX11_carry : MethodName := ⟨RX11, "carry", "(LCarriedCommits$Replay;)I"⟩
abbrev cX11_isThereAlready : ByteArray := prog_1_method_56_code
def yX11_isThereAlready : MethodName := ⟨RX11, "isThereAlready", "(LCarriedCommits$Replay;LCarriedCommits$Plain;)Z"⟩
abbrev cX11_place : ByteArray := prog_1_method_57_code
def yX11_place : MethodName := ⟨RX11, "place", "(LCarriedCommits$Replay;LCarriedCommits$Plain;)I"⟩
abbrev cX11_stopOrFinish : ByteArray := prog_1_method_58_code
def yX11_stopOrFinish : MethodName := ⟨RX11, "stopOrFinish", "(I)I"⟩
abbrev cX11_mergeAtStop : ByteArray := prog_1_method_59_code
def yX11_mergeAtStop : MethodName := ⟨RX11, "mergeAtStop", "(I)Z"⟩
abbrev cX11_pickConflict : ByteArray := prog_1_method_60_code
def yX11_pickConflict : MethodName := ⟨RX11, "pickConflict", "(I)Z"⟩
def RX12 : String := "CarriedCommitsModel"
def TX12 : u_T := fun k => match k with
  | 0 => ("CarriedCommitsModel", "fault", "I", false)
  | 1 => ("CarriedCommitsModel", "trace", "I", false)
  | 2 => ("CarriedCommitsModel", "many", "I", false)
  | 3 => ("CarriedCommitsModel", "serials", "I", false)
  | 4 => ("CarriedCommitsModel", "kind", "[I", true)
  | 5 => ("CarriedCommitsModel", "parent", "[I", true)
  | 6 => ("CarriedCommitsModel", "origin", "[I", true)
  | 7 => ("CarriedCommitsModel", "serial", "[I", true)
  | 8 => ("CarriedCommitsModel", "line", "[I", true)
  | 9 => ("CarriedCommitsModel", "size", "[I", true)
  | 10 => ("CarriedCommitsModel", "tips", "[I", true)
  | 11 => ("CarriedCommitsModel", "still", "[I", true)
  | 12 => ("CarriedCommitsModel", "pair", "[I", true)
  | 13 => ("CarriedCommitsModel", "pieces", "I", false)
  | 14 => ("CarriedCommitsModel", "outFrom", "[I", true)
  | 15 => ("CarriedCommitsModel", "outTo", "[I", true)
  | 16 => ("CarriedCommitsModel", "inFrom", "[I", true)
  | 17 => ("CarriedCommitsModel", "inTo", "[I", true)
  | 18 => ("CarriedCommitsModel", "told", "[I", true)
  | 19 => ("CarriedCommitsModel", "toldSize", "I", false)
  | 20 => ("CarriedCommitsModel", "result", "[I", true)
  | 21 => ("CarriedCommitsModel", "resultSize", "I", false)
  | 22 => ("CarriedCommitsModel", "conflicts", "I", false)
  | 23 => ("CarriedCommitsModel", "open", "I", false)
  | 24 => ("CarriedCommitsModel", "gapOf", "[I", true)
  | 25 => ("CarriedCommitsModel", "shape", "[I", true)
  | 26 => ("CarriedCommitsModel", "named", "[I", true)
  | 27 => ("CarriedCommitsModel", "names", "[I", true)
  | 28 => ("CarriedCommitsModel", "shapeSize", "I", false)
  | 29 => ("CarriedCommitsModel", "first", "I", false)
  | 30 => ("CarriedCommitsModel", "resolutions", "I", false)
  | 31 => ("CarriedCommitsModel", "known", "[I", true)
  | 32 => ("CarriedCommitsModel", "knownSize", "[I", true)
  | 33 => ("CarriedCommitsModel", "rowOf", "[I", true)
  | 34 => ("CarriedCommitsModel", "rowSize", "[I", true)
  | 35 => ("CarriedCommitsModel", "keptMany", "I", false)
  | 36 => ("CarriedCommitsModel", "keptKnown", "[I", true)
  | 37 => ("CarriedCommitsModel", "keptKnownSize", "[I", true)
  | 38 => ("CarriedCommitsModel", "keptRow", "[I", true)
  | 39 => ("CarriedCommitsModel", "keptRowSize", "[I", true)
  | 40 => ("CarriedCommitsModel", "stands", "I", false)
  | 41 => ("CarriedCommitsModel", "branchOf", "I", false)
  | 42 => ("CarriedCommitsModel", "onto", "I", false)
  | 43 => ("CarriedCommitsModel", "top", "I", false)
  | 44 => ("CarriedCommitsModel", "madeFrom", "I", false)
  | 45 => ("CarriedCommitsModel", "todo", "[I", true)
  | 46 => ("CarriedCommitsModel", "todoMany", "I", false)
  | 47 => ("CarriedCommitsModel", "todoAt", "I", false)
  | 48 => ("CarriedCommitsModel", "done", "[I", true)
  | 49 => ("CarriedCommitsModel", "keptDone", "[I", true)
  | 50 => ("CarriedCommitsModel", "wouldMake", "I", false)
  | 51 => ("CarriedCommitsModel", "wouldLeave", "I", false)
  | 52 => ("CarriedCommitsModel", "wouldStop", "I", false)
  | 53 => ("CarriedCommitsModel", "wouldOpen", "I", false)
  | 54 => ("CarriedCommitsModel", "wouldHow", "I", false)
  | 55 => ("CarriedCommitsModel", "slotSort", "[I", true)
  | 56 => ("CarriedCommitsModel", "slotSize", "[I", true)
  | 57 => ("CarriedCommitsModel", "cells", "[I", true)
  | 58 => ("CarriedCommitsModel", "heldNumber", "[I", true)
  | 59 => ("CarriedCommitsModel", "heldKind", "[I", true)
  | _ => ("CarriedCommitsModel", "heldSerial", "[I", true)
def tyX12 : Nat → FieldType := fun k => match k with
  | 0 => .int
  | 1 => .int
  | 2 => .int
  | 3 => .int
  | 4 => .array .int
  | 5 => .array .int
  | 6 => .array .int
  | 7 => .array .int
  | 8 => .array .int
  | 9 => .array .int
  | 10 => .array .int
  | 11 => .array .int
  | 12 => .array .int
  | 13 => .int
  | 14 => .array .int
  | 15 => .array .int
  | 16 => .array .int
  | 17 => .array .int
  | 18 => .array .int
  | 19 => .int
  | 20 => .array .int
  | 21 => .int
  | 22 => .int
  | 23 => .int
  | 24 => .array .int
  | 25 => .array .int
  | 26 => .array .int
  | 27 => .array .int
  | 28 => .int
  | 29 => .int
  | 30 => .int
  | 31 => .array .int
  | 32 => .array .int
  | 33 => .array .int
  | 34 => .array .int
  | 35 => .int
  | 36 => .array .int
  | 37 => .array .int
  | 38 => .array .int
  | 39 => .array .int
  | 40 => .int
  | 41 => .int
  | 42 => .int
  | 43 => .int
  | 44 => .int
  | 45 => .array .int
  | 46 => .int
  | 47 => .int
  | 48 => .array .int
  | 49 => .array .int
  | 50 => .int
  | 51 => .int
  | 52 => .int
  | 53 => .int
  | 54 => .int
  | 55 => .array .int
  | 56 => .array .int
  | 57 => .array .int
  | 58 => .array .int
  | 59 => .array .int
  | _ => .array .int
theorem nmX12 : ∀ a, a < 61 → ∀ b, b < 61 → a ≠ b → (TX12 a).2.1 ≠ (TX12 b).2.1 := by decide +kernel
theorem tyX12_ok : ∀ k, k < 61 → parseFieldDescriptor (TX12 k).2.2.1 = some (tyX12 k) := by decide +kernel
abbrev cX12_init : ByteArray := prog_14_method_1_code
def yX12_init : MethodName := ⟨RX12, "<init>", "()V"⟩
abbrev cX12_refused : ByteArray := prog_14_method_2_code
def yX12_refused : MethodName := ⟨RX12, "refused", "(I)I"⟩
abbrev cX12_fails : ByteArray := prog_14_method_3_code
def yX12_fails : MethodName := ⟨RX12, "fails", "(I)I"⟩
abbrev cX12_within : ByteArray := prog_14_method_4_code
def yX12_within : MethodName := ⟨RX12, "within", "(III)Z"⟩
abbrev cX12_leaves : ByteArray := prog_14_method_5_code
def yX12_leaves : MethodName := ⟨RX12, "leaves", "(I)V"⟩
abbrev cX12_made : ByteArray := prog_14_method_6_code
def yX12_made : MethodName := ⟨RX12, "made", "(III)I"⟩
abbrev cX12_isCommit : ByteArray := prog_14_method_7_code
def yX12_isCommit : MethodName := ⟨RX12, "isCommit", "(I)Z"⟩
abbrev cX12_isBranch : ByteArray := prog_14_method_8_code
def yX12_isBranch : MethodName := ⟨RX12, "isBranch", "(I)Z"⟩
abbrev cX12_isOn : ByteArray := prog_14_method_9_code
def yX12_isOn : MethodName := ⟨RX12, "isOn", "(II)Z"⟩
abbrev cX12_far : ByteArray := prog_14_method_10_code
def yX12_far : MethodName := ⟨RX12, "far", "(I)I"⟩
abbrev cX12_isSame : ByteArray := prog_14_method_11_code
def yX12_isSame : MethodName := ⟨RX12, "isSame", "(IIII)Z"⟩
abbrev cX12_counts : ByteArray := prog_14_method_12_code
def yX12_counts : MethodName := ⟨RX12, "counts", "(II)V"⟩
abbrev cX12_pairs : ByteArray := prog_14_method_13_code
def yX12_pairs : MethodName := ⟨RX12, "pairs", "(III)V"⟩
abbrev cX12_addPiece : ByteArray := prog_14_method_14_code
def yX12_addPiece : MethodName := ⟨RX12, "addPiece", "(IIII)V"⟩
abbrev cX12_change : ByteArray := prog_14_method_15_code
def yX12_change : MethodName := ⟨RX12, "change", "(I)V"⟩
abbrev cX12_tells : ByteArray := prog_14_method_16_code
def yX12_tells : MethodName := ⟨RX12, "tells", "(II)V"⟩
abbrev cX12_areAlike : ByteArray := prog_14_method_17_code
def yX12_areAlike : MethodName := ⟨RX12, "areAlike", "(II)Z"⟩
abbrev cX12_signOf : ByteArray := prog_14_method_18_code
def yX12_signOf : MethodName := ⟨RX12, "signOf", "(I)I"⟩
abbrev cX12_mark : ByteArray := prog_14_method_19_code
def yX12_mark : MethodName := ⟨RX12, "mark", "(I)I"⟩
abbrev cX12_alike : ByteArray := prog_14_method_20_code
def yX12_alike : MethodName := ⟨RX12, "alike", "(II)I"⟩
abbrev cX12_commit : ByteArray := prog_14_method_21_code
def yX12_commit : MethodName := ⟨RX12, "commit", "(III)I"⟩
abbrev cX12_areLines : ByteArray := prog_14_method_22_code
def yX12_areLines : MethodName := ⟨RX12, "areLines", "(II)Z"⟩
abbrev cX12_ofCommit : ByteArray := prog_14_method_23_code
def yX12_ofCommit : MethodName := ⟨RX12, "ofCommit", "(II)I"⟩
abbrev cX12_piece : ByteArray := prog_14_method_24_code
def yX12_piece : MethodName := ⟨RX12, "piece", "(III)I"⟩
abbrev cX12_fork : ByteArray := prog_14_method_25_code
def yX12_fork : MethodName := ⟨RX12, "fork", "(II)I"⟩
abbrev cX12_ahead : ByteArray := prog_14_method_26_code
def yX12_ahead : MethodName := ⟨RX12, "ahead", "(II)I"⟩
abbrev cX12_swaps : ByteArray := prog_14_method_27_code
def yX12_swaps : MethodName := ⟨RX12, "swaps", "(I)I"⟩
abbrev cX12_tip : ByteArray := prog_14_method_28_code
def yX12_tip : MethodName := ⟨RX12, "tip", "(I)I"⟩
abbrev cX12_point : ByteArray := prog_14_method_29_code
def yX12_point : MethodName := ⟨RX12, "point", "(II)I"⟩
abbrev cX12_anew : ByteArray := prog_14_method_30_code
def yX12_anew : MethodName := ⟨RX12, "anew", "()I"⟩
abbrev cX12_laysResult : ByteArray := prog_14_method_31_code
def yX12_laysResult : MethodName := ⟨RX12, "laysResult", "(I)V"⟩
abbrev cX12_isResult : ByteArray := prog_14_method_32_code
def yX12_isResult : MethodName := ⟨RX12, "isResult", "(I)Z"⟩
abbrev cX12_isSamePart : ByteArray := prog_14_method_33_code
def yX12_isSamePart : MethodName := ⟨RX12, "isSamePart", "(IIIIII)Z"⟩
abbrev cX12_takes : ByteArray := prog_14_method_34_code
def yX12_takes : MethodName := ⟨RX12, "takes", "(III)V"⟩
abbrev cX12_nameOf : ByteArray := prog_14_method_35_code
def yX12_nameOf : MethodName := ⟨RX12, "nameOf", "(II)I"⟩
abbrev cX12_shapes : ByteArray := prog_14_method_36_code
def yX12_shapes : MethodName := ⟨RX12, "shapes", "(IIIII)I"⟩
abbrev cX12_shapeOf : ByteArray := prog_14_method_37_code
def yX12_shapeOf : MethodName := ⟨RX12, "shapeOf", "(IIII)V"⟩
abbrev cX12_resolutionOf : ByteArray := prog_14_method_38_code
def yX12_resolutionOf : MethodName := ⟨RX12, "resolutionOf", "()I"⟩
abbrev cX12_resolves : ByteArray := prog_14_method_39_code
def yX12_resolves : MethodName := ⟨RX12, "resolves", "(III)V"⟩
abbrev cX12_mergesGap : ByteArray := prog_14_method_40_code
def yX12_mergesGap : MethodName := ⟨RX12, "mergesGap", "(III)V"⟩
abbrev cX12_merges : ByteArray := prog_14_method_41_code
def yX12_merges : MethodName := ⟨RX12, "merges", "(III)V"⟩
abbrev cX12_merge : ByteArray := prog_14_method_42_code
def yX12_merge : MethodName := ⟨RX12, "merge", "(IIII)I"⟩
abbrev cX12_resolution : ByteArray := prog_14_method_43_code
def yX12_resolution : MethodName := ⟨RX12, "resolution", "(II)I"⟩
abbrev cX12_forget : ByteArray := prog_14_method_44_code
def yX12_forget : MethodName := ⟨RX12, "forget", "(I)I"⟩
abbrev cX12_keeps : ByteArray := prog_14_method_45_code
def yX12_keeps : MethodName := ⟨RX12, "keeps", "(Z)V"⟩
abbrev cX12_plans : ByteArray := prog_14_method_46_code
def yX12_plans : MethodName := ⟨RX12, "plans", "(II)V"⟩
abbrev cX12_isThere : ByteArray := prog_14_method_47_code
def yX12_isThere : MethodName := ⟨RX12, "isThere", "(III)Z"⟩
abbrev cX12_against : ByteArray := prog_14_method_48_code
def yX12_against : MethodName := ⟨RX12, "against", "(II)I"⟩
abbrev cX12_puts : ByteArray := prog_14_method_49_code
def yX12_puts : MethodName := ⟨RX12, "puts", "(I)V"⟩
abbrev cX12_goesOn : ByteArray := prog_14_method_50_code
def yX12_goesOn : MethodName := ⟨RX12, "goesOn", "(Z)I"⟩
abbrev cX12_replay : ByteArray := prog_14_method_51_code
def yX12_replay : MethodName := ⟨RX12, "replay", "(II)I"⟩
abbrev cX12_go : ByteArray := prog_14_method_52_code
def yX12_go : MethodName := ⟨RX12, "go", "()I"⟩
abbrev cX12_skip : ByteArray := prog_14_method_53_code
def yX12_skip : MethodName := ⟨RX12, "skip", "()I"⟩
abbrev cX12_abort : ByteArray := prog_14_method_54_code
def yX12_abort : MethodName := ⟨RX12, "abort", "()I"⟩
abbrev cX12_status : ByteArray := prog_14_method_55_code
def yX12_status : MethodName := ⟨RX12, "status", "(I)I"⟩
abbrev cX12_isOpen : ByteArray := prog_14_method_56_code
def yX12_isOpen : MethodName := ⟨RX12, "isOpen", "(I)Z"⟩
abbrev cX12_partOf : ByteArray := prog_14_method_57_code
def yX12_partOf : MethodName := ⟨RX12, "partOf", "(IIII)I"⟩
abbrev cX12_conflict : ByteArray := prog_14_method_58_code
def yX12_conflict : MethodName := ⟨RX12, "conflict", "(II)I"⟩
abbrev cX12_settle : ByteArray := prog_14_method_59_code
def yX12_settle : MethodName := ⟨RX12, "settle", "(II)I"⟩
abbrev cX12_foretells : ByteArray := prog_14_method_60_code
def yX12_foretells : MethodName := ⟨RX12, "foretells", "(II)V"⟩
abbrev cX12_foretell : ByteArray := prog_14_method_61_code
def yX12_foretell : MethodName := ⟨RX12, "foretell", "(III)I"⟩
abbrev cX12_isSlot : ByteArray := prog_14_method_62_code
def yX12_isSlot : MethodName := ⟨RX12, "isSlot", "(I)Z"⟩
abbrev cX12_clears : ByteArray := prog_14_method_63_code
def yX12_clears : MethodName := ⟨RX12, "clears", "(III)V"⟩
abbrev cX12_blank : ByteArray := prog_14_method_64_code
def yX12_blank : MethodName := ⟨RX12, "blank", "(III)I"⟩
abbrev cX12_show : ByteArray := prog_14_method_65_code
def yX12_show : MethodName := ⟨RX12, "show", "(II)I"⟩
abbrev cX12_trail : ByteArray := prog_14_method_66_code
def yX12_trail : MethodName := ⟨RX12, "trail", "(II)I"⟩
abbrev cX12_hold : ByteArray := prog_14_method_67_code
def yX12_hold : MethodName := ⟨RX12, "hold", "(II)I"⟩
abbrev cX12_held : ByteArray := prog_14_method_68_code
def yX12_held : MethodName := ⟨RX12, "held", "(I)I"⟩
abbrev cX12_as : ByteArray := prog_14_method_69_code
def yX12_as : MethodName := ⟨RX12, "as", "(II)I"⟩
abbrev cX12_lose : ByteArray := prog_14_method_70_code
def yX12_lose : MethodName := ⟨RX12, "lose", "(I)I"⟩
abbrev cX12_againstNumber : ByteArray := prog_14_method_71_code
def yX12_againstNumber : MethodName := ⟨RX12, "againstNumber", "(II)I"⟩
abbrev cX12_write : ByteArray := prog_14_method_72_code
def yX12_write : MethodName := ⟨RX12, "write", "(III)I"⟩
abbrev cX12_number : ByteArray := prog_14_method_73_code
def yX12_number : MethodName := ⟨RX12, "number", "(II)J"⟩
abbrev cX12_copy : ByteArray := prog_14_method_74_code
def yX12_copy : MethodName := ⟨RX12, "copy", "(IIIII)I"⟩
abbrev cX12_tell : ByteArray := prog_14_method_75_code
def yX12_tell : MethodName := ⟨RX12, "tell", "(I)I"⟩
abbrev cX12_trace : ByteArray := prog_14_method_76_code
def yX12_trace : MethodName := ⟨RX12, "trace", "()I"⟩
abbrev cX12_fault : ByteArray := prog_14_method_77_code
def yX12_fault : MethodName := ⟨RX12, "fault", "()I"⟩
abbrev cX12_many : ByteArray := prog_14_method_78_code
def yX12_many : MethodName := ⟨RX12, "many", "(I)I"⟩
def RJ9 : String := "java/lang/Math"
def TJ9 : u_T := fun k => match k with
  | _ => ("", "", "", false)
def tyJ9 : Nat → FieldType := fun k => match k with
  | _ => .int
theorem nmJ9 : ∀ a, a < 0 → ∀ b, b < 0 → a ≠ b → (TJ9 a).2.1 ≠ (TJ9 b).2.1 := by decide +kernel
abbrev cJ9_max_7cf53 : ByteArray := prog_16_method_65_code
def yJ9_max_7cf53 : MethodName := ⟨RJ9, "max", "(II)I"⟩
abbrev cJ9_min_7cf53 : ByteArray := prog_16_method_69_code
def yJ9_min_7cf53 : MethodName := ⟨RJ9, "min", "(II)I"⟩
def RJ10 : String := "java/lang/System"
def TJ10 : u_T := fun k => match k with
  | _ => ("", "", "", false)
def tyJ10 : Nat → FieldType := fun k => match k with
  | _ => .int
theorem nmJ10 : ∀ a, a < 0 → ∀ b, b < 0 → a ≠ b → (TJ10 a).2.1 ≠ (TJ10 b).2.1 := by decide +kernel
def RJ7 : String := "java/util/Arrays"
def TJ7 : u_T := fun k => match k with
  | _ => ("", "", "", false)
def tyJ7 : Nat → FieldType := fun k => match k with
  | _ => .int
theorem nmJ7 : ∀ a, a < 0 → ∀ b, b < 0 → a ≠ b → (TJ7 a).2.1 ≠ (TJ7 b).2.1 := by decide +kernel
abbrev cJ7_fill_53178 : ByteArray := prog_18_method_103_code
def yJ7_fill_53178 : MethodName := ⟨RJ7, "fill", "([II)V"⟩
abbrev cJ7_copyOf_59c91 : ByteArray := prog_18_method_123_code
def yJ7_copyOf_59c91 : MethodName := ⟨RJ7, "copyOf", "([II)[I"⟩
def RL : String := "CarriedCommitsLaw"
abbrev cL_law : ByteArray := code
def yL_law : MethodName := ⟨RL, "law", "([I)Z"⟩
abbrev vwCl : List vw_C := [(RX0, TX0, 6), (RX1, TX1, 6), (RX2, TX2, 5), (RX3, TX3, 17), (RX4, TX4, 3), (RX5, TX5, 6), (RX6, TX6, 14), (RX7, TX7, 2), (RX8, TX8, 4), (RX9, TX9, 3), (RX10, TX10, 1), (RX11, TX11, 12), (RX12, TX12, 61)]
