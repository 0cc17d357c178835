/-- a private method of a class that the tables say can be made, by its rows of tables_1 -/
def lw_okq (q : MethodName × Nat) : Prop := (q.1.cls ≠ "java/lang/invoke/MethodHandle" ∧ q.1.cls ≠ "java/lang/invoke/VarHandle") ∧ Cond.instantiable q.1.cls q.2 ∈ tables_1 ∧ Cond.privateMethod q.1 ∈ tables_1 ∧ Cond.instanceMethod q.1 ∈ tables_1
theorem lw_p0 : lw_okq (⟨"SmokyHeap", "failed", "(I)I"⟩, 9) := ⟨⟨by decide +kernel, by decide +kernel⟩, List.mem_of_getElem? (i := 19) (by decide +kernel), List.mem_of_getElem? (i := 290) (by decide +kernel), List.mem_of_getElem? (i := 291) (by decide +kernel)⟩
theorem lw_p1 : lw_okq (⟨"SmokyHeap", "bylawLets", "()Z"⟩, 9) := ⟨⟨by decide +kernel, by decide +kernel⟩, List.mem_of_getElem? (i := 19) (by decide +kernel), List.mem_of_getElem? (i := 349) (by decide +kernel), List.mem_of_getElem? (i := 350) (by decide +kernel)⟩
theorem lw_p2 : lw_okq (⟨"SmokyHeap$Reader", "readLevel", "(II)V"⟩, 5) := ⟨⟨by decide +kernel, by decide +kernel⟩, List.mem_of_getElem? (i := 172) (by decide +kernel), List.mem_of_getElem? (i := 427) (by decide +kernel), List.mem_of_getElem? (i := 428) (by decide +kernel)⟩
theorem lw_p3 : lw_okq (⟨"SmokyHeap$Reader", "readUnit", "(I)V"⟩, 5) := ⟨⟨by decide +kernel, by decide +kernel⟩, List.mem_of_getElem? (i := 172) (by decide +kernel), List.mem_of_getElem? (i := 431) (by decide +kernel), List.mem_of_getElem? (i := 432) (by decide +kernel)⟩
theorem lw_p4 : lw_okq (⟨"SmokyHeap$Reader", "next", "()C"⟩, 5) := ⟨⟨by decide +kernel, by decide +kernel⟩, List.mem_of_getElem? (i := 172) (by decide +kernel), List.mem_of_getElem? (i := 435) (by decide +kernel), List.mem_of_getElem? (i := 436) (by decide +kernel)⟩
theorem lw_p5 : lw_okq (⟨"SmokyHeap$Reader", "readNumber", "()V"⟩, 5) := ⟨⟨by decide +kernel, by decide +kernel⟩, List.mem_of_getElem? (i := 172) (by decide +kernel), List.mem_of_getElem? (i := 528) (by decide +kernel), List.mem_of_getElem? (i := 529) (by decide +kernel)⟩
theorem lw_p6 : lw_okq (⟨"SmokyHeap$Reader", "readClosing", "()V"⟩, 5) := ⟨⟨by decide +kernel, by decide +kernel⟩, List.mem_of_getElem? (i := 172) (by decide +kernel), List.mem_of_getElem? (i := 533) (by decide +kernel), List.mem_of_getElem? (i := 534) (by decide +kernel)⟩
theorem lw_p7 : lw_okq (⟨"SmokyHeap$Heap", "burnAt", "(ILSmokyHeap$Laws;)I"⟩, 14) := ⟨⟨by decide +kernel, by decide +kernel⟩, List.mem_of_getElem? (i := 33) (by decide +kernel), List.mem_of_getElem? (i := 567) (by decide +kernel), List.mem_of_getElem? (i := 568) (by decide +kernel)⟩
theorem lw_p8 : lw_okq (⟨"SmokyHeap$Heap", "warmNeighbours", "(I)V"⟩, 14) := ⟨⟨by decide +kernel, by decide +kernel⟩, List.mem_of_getElem? (i := 33) (by decide +kernel), List.mem_of_getElem? (i := 578) (by decide +kernel), List.mem_of_getElem? (i := 579) (by decide +kernel)⟩
theorem lw_p9 : lw_okq (⟨"SmokyHeap$Heap", "giveWarm", "(II)V"⟩, 14) := ⟨⟨by decide +kernel, by decide +kernel⟩, List.mem_of_getElem? (i := 33) (by decide +kernel), List.mem_of_getElem? (i := 582) (by decide +kernel), List.mem_of_getElem? (i := 583) (by decide +kernel)⟩
theorem lw_p10 : lw_okq (⟨"SmokyHeap$Heap", "dryAndCool", "(I)V"⟩, 14) := ⟨⟨by decide +kernel, by decide +kernel⟩, List.mem_of_getElem? (i := 33) (by decide +kernel), List.mem_of_getElem? (i := 586) (by decide +kernel), List.mem_of_getElem? (i := 587) (by decide +kernel)⟩
theorem lw_p11 : lw_okq (⟨"SmokyHeap$Heap", "lyingOf", "(IILSmokyHeap$Laws;)I"⟩, 14) := ⟨⟨by decide +kernel, by decide +kernel⟩, List.mem_of_getElem? (i := 33) (by decide +kernel), List.mem_of_getElem? (i := 595) (by decide +kernel), List.mem_of_getElem? (i := 596) (by decide +kernel)⟩
theorem lw_p12 : lw_okq (⟨"SmokyHeap$Heap", "sumOf", "([I)I"⟩, 14) := ⟨⟨by decide +kernel, by decide +kernel⟩, List.mem_of_getElem? (i := 33) (by decide +kernel), List.mem_of_getElem? (i := 645) (by decide +kernel), List.mem_of_getElem? (i := 646) (by decide +kernel)⟩
theorem lw_p13 : lw_okq (⟨"SmokyHeap$Heap", "highest", "()I"⟩, 14) := ⟨⟨by decide +kernel, by decide +kernel⟩, List.mem_of_getElem? (i := 33) (by decide +kernel), List.mem_of_getElem? (i := 650) (by decide +kernel), List.mem_of_getElem? (i := 651) (by decide +kernel)⟩
theorem lw_p14 : lw_okq (⟨"SmokyHeap", "botheredFrom", "(II)I"⟩, 9) := ⟨⟨by decide +kernel, by decide +kernel⟩, List.mem_of_getElem? (i := 19) (by decide +kernel), List.mem_of_getElem? (i := 678) (by decide +kernel), List.mem_of_getElem? (i := 679) (by decide +kernel)⟩
theorem lw_p15 : lw_okq (⟨"SmokyHeap$Voices", "speak", "(IIII)I"⟩, 5) := ⟨⟨by decide +kernel, by decide +kernel⟩, List.mem_of_getElem? (i := 199) (by decide +kernel), List.mem_of_getElem? (i := 745) (by decide +kernel), List.mem_of_getElem? (i := 746) (by decide +kernel)⟩
def lw_privs_1 : List (MethodName × Nat) := [(⟨"SmokyHeap", "failed", "(I)I"⟩, 9), (⟨"SmokyHeap", "bylawLets", "()Z"⟩, 9), (⟨"SmokyHeap$Reader", "readLevel", "(II)V"⟩, 5), (⟨"SmokyHeap$Reader", "readUnit", "(I)V"⟩, 5), (⟨"SmokyHeap$Reader", "next", "()C"⟩, 5), (⟨"SmokyHeap$Reader", "readNumber", "()V"⟩, 5), (⟨"SmokyHeap$Reader", "readClosing", "()V"⟩, 5), (⟨"SmokyHeap$Heap", "burnAt", "(ILSmokyHeap$Laws;)I"⟩, 14), (⟨"SmokyHeap$Heap", "warmNeighbours", "(I)V"⟩, 14), (⟨"SmokyHeap$Heap", "giveWarm", "(II)V"⟩, 14), (⟨"SmokyHeap$Heap", "dryAndCool", "(I)V"⟩, 14), (⟨"SmokyHeap$Heap", "lyingOf", "(IILSmokyHeap$Laws;)I"⟩, 14), (⟨"SmokyHeap$Heap", "sumOf", "([I)I"⟩, 14), (⟨"SmokyHeap$Heap", "highest", "()I"⟩, 14), (⟨"SmokyHeap", "botheredFrom", "(II)I"⟩, 9), (⟨"SmokyHeap$Voices", "speak", "(IIII)I"⟩, 5)]
theorem lw_r1 : ∀ q ∈ lw_privs_1, lw_okq q := List.forall_mem_cons.mpr ⟨lw_p0, List.forall_mem_cons.mpr ⟨lw_p1, List.forall_mem_cons.mpr ⟨lw_p2, List.forall_mem_cons.mpr ⟨lw_p3, List.forall_mem_cons.mpr ⟨lw_p4, List.forall_mem_cons.mpr ⟨lw_p5, List.forall_mem_cons.mpr ⟨lw_p6, List.forall_mem_cons.mpr ⟨lw_p7, List.forall_mem_cons.mpr ⟨lw_p8, List.forall_mem_cons.mpr ⟨lw_p9, List.forall_mem_cons.mpr ⟨lw_p10, List.forall_mem_cons.mpr ⟨lw_p11, List.forall_mem_cons.mpr ⟨lw_p12, List.forall_mem_cons.mpr ⟨lw_p13, List.forall_mem_cons.mpr ⟨lw_p14, List.forall_mem_cons.mpr ⟨lw_p15, fun _ h => absurd h List.not_mem_nil⟩⟩⟩⟩⟩⟩⟩⟩⟩⟩⟩⟩⟩⟩⟩⟩
theorem lw_p16 : lw_okq (⟨"SmokyHeap$Voices", "shared", "(I)I"⟩, 5) := ⟨⟨by decide +kernel, by decide +kernel⟩, List.mem_of_getElem? (i := 199) (by decide +kernel), List.mem_of_getElem? (i := 757) (by decide +kernel), List.mem_of_getElem? (i := 758) (by decide +kernel)⟩
theorem lw_p17 : lw_okq (⟨"SmokyHeapModel", "isAsTold", "(IIII)Z"⟩, 26) := ⟨⟨by decide +kernel, by decide +kernel⟩, List.mem_of_getElem? (i := 839) (by decide +kernel), List.mem_of_getElem? (i := 933) (by decide +kernel), List.mem_of_getElem? (i := 934) (by decide +kernel)⟩
theorem lw_p18 : lw_okq (⟨"SmokyHeapModel", "finding", "(I)I"⟩, 26) := ⟨⟨by decide +kernel, by decide +kernel⟩, List.mem_of_getElem? (i := 839) (by decide +kernel), List.mem_of_getElem? (i := 941) (by decide +kernel), List.mem_of_getElem? (i := 942) (by decide +kernel)⟩
theorem lw_p19 : lw_okq (⟨"SmokyHeapModel", "highOf", "(I)I"⟩, 26) := ⟨⟨by decide +kernel, by decide +kernel⟩, List.mem_of_getElem? (i := 839) (by decide +kernel), List.mem_of_getElem? (i := 946) (by decide +kernel), List.mem_of_getElem? (i := 947) (by decide +kernel)⟩
theorem lw_p20 : lw_okq (⟨"SmokyHeapModel", "is", "(I)Z"⟩, 26) := ⟨⟨by decide +kernel, by decide +kernel⟩, List.mem_of_getElem? (i := 839) (by decide +kernel), List.mem_of_getElem? (i := 950) (by decide +kernel), List.mem_of_getElem? (i := 951) (by decide +kernel)⟩
theorem lw_p21 : lw_okq (⟨"SmokyHeapModel", "of", "(II)I"⟩, 26) := ⟨⟨by decide +kernel, by decide +kernel⟩, List.mem_of_getElem? (i := 839) (by decide +kernel), List.mem_of_getElem? (i := 954) (by decide +kernel), List.mem_of_getElem? (i := 955) (by decide +kernel)⟩
theorem lw_p22 : lw_okq (⟨"SmokyHeapModel", "lays", "(IIII)I"⟩, 26) := ⟨⟨by decide +kernel, by decide +kernel⟩, List.mem_of_getElem? (i := 839) (by decide +kernel), List.mem_of_getElem? (i := 959) (by decide +kernel), List.mem_of_getElem? (i := 960) (by decide +kernel)⟩
theorem lw_p23 : lw_okq (⟨"SmokyHeapModel", "tells", "(III)V"⟩, 26) := ⟨⟨by decide +kernel, by decide +kernel⟩, List.mem_of_getElem? (i := 839) (by decide +kernel), List.mem_of_getElem? (i := 963) (by decide +kernel), List.mem_of_getElem? (i := 964) (by decide +kernel)⟩
theorem lw_p24 : lw_okq (⟨"SmokyHeapModel", "goes", "(I)V"⟩, 26) := ⟨⟨by decide +kernel, by decide +kernel⟩, List.mem_of_getElem? (i := 839) (by decide +kernel), List.mem_of_getElem? (i := 975) (by decide +kernel), List.mem_of_getElem? (i := 976) (by decide +kernel)⟩
theorem lw_p25 : lw_okq (⟨"SmokyHeapModel", "draughtOf", "(I)I"⟩, 26) := ⟨⟨by decide +kernel, by decide +kernel⟩, List.mem_of_getElem? (i := 839) (by decide +kernel), List.mem_of_getElem? (i := 983) (by decide +kernel), List.mem_of_getElem? (i := 984) (by decide +kernel)⟩
theorem lw_p26 : lw_okq (⟨"SmokyHeapModel", "isOpen", "(II)Z"⟩, 26) := ⟨⟨by decide +kernel, by decide +kernel⟩, List.mem_of_getElem? (i := 839) (by decide +kernel), List.mem_of_getElem? (i := 987) (by decide +kernel), List.mem_of_getElem? (i := 988) (by decide +kernel)⟩
theorem lw_p27 : lw_okq (⟨"SmokyHeapModel", "changes", "(ZIII)I"⟩, 26) := ⟨⟨by decide +kernel, by decide +kernel⟩, List.mem_of_getElem? (i := 839) (by decide +kernel), List.mem_of_getElem? (i := 1006) (by decide +kernel), List.mem_of_getElem? (i := 1007) (by decide +kernel)⟩
theorem lw_p28 : lw_okq (⟨"SmokyHeapModel", "comes", "(II)I"⟩, 26) := ⟨⟨by decide +kernel, by decide +kernel⟩, List.mem_of_getElem? (i := 839) (by decide +kernel), List.mem_of_getElem? (i := 1010) (by decide +kernel), List.mem_of_getElem? (i := 1011) (by decide +kernel)⟩
theorem lw_p29 : lw_okq (⟨"SmokyHeapModel", "isLit", "(I)Z"⟩, 26) := ⟨⟨by decide +kernel, by decide +kernel⟩, List.mem_of_getElem? (i := 839) (by decide +kernel), List.mem_of_getElem? (i := 1022) (by decide +kernel), List.mem_of_getElem? (i := 1023) (by decide +kernel)⟩
theorem lw_p30 : lw_okq (⟨"SmokyHeapModel", "mayBe", "()Z"⟩, 26) := ⟨⟨by decide +kernel, by decide +kernel⟩, List.mem_of_getElem? (i := 839) (by decide +kernel), List.mem_of_getElem? (i := 1026) (by decide +kernel), List.mem_of_getElem? (i := 1027) (by decide +kernel)⟩
theorem lw_p31 : lw_okq (⟨"SmokyHeapModel", "sum", "(I)I"⟩, 26) := ⟨⟨by decide +kernel, by decide +kernel⟩, List.mem_of_getElem? (i := 839) (by decide +kernel), List.mem_of_getElem? (i := 1030) (by decide +kernel), List.mem_of_getElem? (i := 1031) (by decide +kernel)⟩
def lw_privs_2 : List (MethodName × Nat) := [(⟨"SmokyHeap$Voices", "shared", "(I)I"⟩, 5), (⟨"SmokyHeapModel", "isAsTold", "(IIII)Z"⟩, 26), (⟨"SmokyHeapModel", "finding", "(I)I"⟩, 26), (⟨"SmokyHeapModel", "highOf", "(I)I"⟩, 26), (⟨"SmokyHeapModel", "is", "(I)Z"⟩, 26), (⟨"SmokyHeapModel", "of", "(II)I"⟩, 26), (⟨"SmokyHeapModel", "lays", "(IIII)I"⟩, 26), (⟨"SmokyHeapModel", "tells", "(III)V"⟩, 26), (⟨"SmokyHeapModel", "goes", "(I)V"⟩, 26), (⟨"SmokyHeapModel", "draughtOf", "(I)I"⟩, 26), (⟨"SmokyHeapModel", "isOpen", "(II)Z"⟩, 26), (⟨"SmokyHeapModel", "changes", "(ZIII)I"⟩, 26), (⟨"SmokyHeapModel", "comes", "(II)I"⟩, 26), (⟨"SmokyHeapModel", "isLit", "(I)Z"⟩, 26), (⟨"SmokyHeapModel", "mayBe", "()Z"⟩, 26), (⟨"SmokyHeapModel", "sum", "(I)I"⟩, 26)]
theorem lw_r2 : ∀ q ∈ lw_privs_2, lw_okq q := List.forall_mem_cons.mpr ⟨lw_p16, List.forall_mem_cons.mpr ⟨lw_p17, List.forall_mem_cons.mpr ⟨lw_p18, List.forall_mem_cons.mpr ⟨lw_p19, List.forall_mem_cons.mpr ⟨lw_p20, List.forall_mem_cons.mpr ⟨lw_p21, List.forall_mem_cons.mpr ⟨lw_p22, List.forall_mem_cons.mpr ⟨lw_p23, List.forall_mem_cons.mpr ⟨lw_p24, List.forall_mem_cons.mpr ⟨lw_p25, List.forall_mem_cons.mpr ⟨lw_p26, List.forall_mem_cons.mpr ⟨lw_p27, List.forall_mem_cons.mpr ⟨lw_p28, List.forall_mem_cons.mpr ⟨lw_p29, List.forall_mem_cons.mpr ⟨lw_p30, List.forall_mem_cons.mpr ⟨lw_p31, fun _ h => absurd h List.not_mem_nil⟩⟩⟩⟩⟩⟩⟩⟩⟩⟩⟩⟩⟩⟩⟩⟩
theorem lw_p32 : lw_okq (⟨"SmokyHeapModel", "given", "(IIIII)I"⟩, 26) := ⟨⟨by decide +kernel, by decide +kernel⟩, List.mem_of_getElem? (i := 839) (by decide +kernel), List.mem_of_getElem? (i := 1034) (by decide +kernel), List.mem_of_getElem? (i := 1035) (by decide +kernel)⟩
theorem lw_p33 : lw_okq (⟨"SmokyHeapModel", "worked", "(I)I"⟩, 26) := ⟨⟨by decide +kernel, by decide +kernel⟩, List.mem_of_getElem? (i := 839) (by decide +kernel), List.mem_of_getElem? (i := 1038) (by decide +kernel), List.mem_of_getElem? (i := 1039) (by decide +kernel)⟩
theorem lw_p34 : lw_okq (⟨"SmokyHeapModel", "lights", "(I)V"⟩, 26) := ⟨⟨by decide +kernel, by decide +kernel⟩, List.mem_of_getElem? (i := 839) (by decide +kernel), List.mem_of_getElem? (i := 1046) (by decide +kernel), List.mem_of_getElem? (i := 1047) (by decide +kernel)⟩
theorem lw_p35 : lw_okq (⟨"SmokyHeapModel", "pours", "(II)V"⟩, 26) := ⟨⟨by decide +kernel, by decide +kernel⟩, List.mem_of_getElem? (i := 839) (by decide +kernel), List.mem_of_getElem? (i := 1055) (by decide +kernel), List.mem_of_getElem? (i := 1056) (by decide +kernel)⟩
theorem lw_p36 : lw_okq (⟨"SmokyHeapModel", "either", "()V"⟩, 26) := ⟨⟨by decide +kernel, by decide +kernel⟩, List.mem_of_getElem? (i := 839) (by decide +kernel), List.mem_of_getElem? (i := 1073) (by decide +kernel), List.mem_of_getElem? (i := 1074) (by decide +kernel)⟩
theorem lw_p37 : lw_okq (⟨"SmokyHeapModel", "both", "()V"⟩, 26) := ⟨⟨by decide +kernel, by decide +kernel⟩, List.mem_of_getElem? (i := 839) (by decide +kernel), List.mem_of_getElem? (i := 1077) (by decide +kernel), List.mem_of_getElem? (i := 1078) (by decide +kernel)⟩
theorem lw_p38 : lw_okq (⟨"SmokyHeapModel", "compared", "()V"⟩, 26) := ⟨⟨by decide +kernel, by decide +kernel⟩, List.mem_of_getElem? (i := 839) (by decide +kernel), List.mem_of_getElem? (i := 1081) (by decide +kernel), List.mem_of_getElem? (i := 1082) (by decide +kernel)⟩
theorem lw_p39 : lw_okq (⟨"SmokyHeapModel", "sum", "()V"⟩, 26) := ⟨⟨by decide +kernel, by decide +kernel⟩, List.mem_of_getElem? (i := 839) (by decide +kernel), List.mem_of_getElem? (i := 1085) (by decide +kernel), List.mem_of_getElem? (i := 1086) (by decide +kernel)⟩
theorem lw_p40 : lw_okq (⟨"SmokyHeapModel", "product", "()V"⟩, 26) := ⟨⟨by decide +kernel, by decide +kernel⟩, List.mem_of_getElem? (i := 839) (by decide +kernel), List.mem_of_getElem? (i := 1089) (by decide +kernel), List.mem_of_getElem? (i := 1090) (by decide +kernel)⟩
theorem lw_p41 : lw_okq (⟨"SmokyHeapModel", "one", "()V"⟩, 26) := ⟨⟨by decide +kernel, by decide +kernel⟩, List.mem_of_getElem? (i := 839) (by decide +kernel), List.mem_of_getElem? (i := 1093) (by decide +kernel), List.mem_of_getElem? (i := 1094) (by decide +kernel)⟩
theorem lw_p42 : lw_okq (⟨"SmokyHeapModel", "here", "()I"⟩, 26) := ⟨⟨by decide +kernel, by decide +kernel⟩, List.mem_of_getElem? (i := 839) (by decide +kernel), List.mem_of_getElem? (i := 1097) (by decide +kernel), List.mem_of_getElem? (i := 1098) (by decide +kernel)⟩
theorem lw_p43 : lw_okq (⟨"SmokyHeapModel", "codes", "(I)V"⟩, 26) := ⟨⟨by decide +kernel, by decide +kernel⟩, List.mem_of_getElem? (i := 839) (by decide +kernel), List.mem_of_getElem? (i := 1101) (by decide +kernel), List.mem_of_getElem? (i := 1102) (by decide +kernel)⟩
theorem lw_p44 : lw_okq (⟨"SmokyHeapModel", "takes", "(I)Z"⟩, 26) := ⟨⟨by decide +kernel, by decide +kernel⟩, List.mem_of_getElem? (i := 839) (by decide +kernel), List.mem_of_getElem? (i := 1105) (by decide +kernel), List.mem_of_getElem? (i := 1106) (by decide +kernel)⟩
theorem lw_p45 : lw_okq (⟨"SmokyHeapModel", "nameOf", "(I)I"⟩, 26) := ⟨⟨by decide +kernel, by decide +kernel⟩, List.mem_of_getElem? (i := 839) (by decide +kernel), List.mem_of_getElem? (i := 1109) (by decide +kernel), List.mem_of_getElem? (i := 1110) (by decide +kernel)⟩
theorem lw_p46 : lw_okq (⟨"SmokyHeapModel", "whyNot", "(I)I"⟩, 26) := ⟨⟨by decide +kernel, by decide +kernel⟩, List.mem_of_getElem? (i := 839) (by decide +kernel), List.mem_of_getElem? (i := 1146) (by decide +kernel), List.mem_of_getElem? (i := 1147) (by decide +kernel)⟩
theorem lw_p47 : lw_okq (⟨"SmokyHeapModel", "minutesGo", "(I)V"⟩, 26) := ⟨⟨by decide +kernel, by decide +kernel⟩, List.mem_of_getElem? (i := 839) (by decide +kernel), List.mem_of_getElem? (i := 1151) (by decide +kernel), List.mem_of_getElem? (i := 1152) (by decide +kernel)⟩
def lw_privs_3 : List (MethodName × Nat) := [(⟨"SmokyHeapModel", "given", "(IIIII)I"⟩, 26), (⟨"SmokyHeapModel", "worked", "(I)I"⟩, 26), (⟨"SmokyHeapModel", "lights", "(I)V"⟩, 26), (⟨"SmokyHeapModel", "pours", "(II)V"⟩, 26), (⟨"SmokyHeapModel", "either", "()V"⟩, 26), (⟨"SmokyHeapModel", "both", "()V"⟩, 26), (⟨"SmokyHeapModel", "compared", "()V"⟩, 26), (⟨"SmokyHeapModel", "sum", "()V"⟩, 26), (⟨"SmokyHeapModel", "product", "()V"⟩, 26), (⟨"SmokyHeapModel", "one", "()V"⟩, 26), (⟨"SmokyHeapModel", "here", "()I"⟩, 26), (⟨"SmokyHeapModel", "codes", "(I)V"⟩, 26), (⟨"SmokyHeapModel", "takes", "(I)Z"⟩, 26), (⟨"SmokyHeapModel", "nameOf", "(I)I"⟩, 26), (⟨"SmokyHeapModel", "whyNot", "(I)I"⟩, 26), (⟨"SmokyHeapModel", "minutesGo", "(I)V"⟩, 26)]
theorem lw_r3 : ∀ q ∈ lw_privs_3, lw_okq q := List.forall_mem_cons.mpr ⟨lw_p32, List.forall_mem_cons.mpr ⟨lw_p33, List.forall_mem_cons.mpr ⟨lw_p34, List.forall_mem_cons.mpr ⟨lw_p35, List.forall_mem_cons.mpr ⟨lw_p36, List.forall_mem_cons.mpr ⟨lw_p37, List.forall_mem_cons.mpr ⟨lw_p38, List.forall_mem_cons.mpr ⟨lw_p39, List.forall_mem_cons.mpr ⟨lw_p40, List.forall_mem_cons.mpr ⟨lw_p41, List.forall_mem_cons.mpr ⟨lw_p42, List.forall_mem_cons.mpr ⟨lw_p43, List.forall_mem_cons.mpr ⟨lw_p44, List.forall_mem_cons.mpr ⟨lw_p45, List.forall_mem_cons.mpr ⟨lw_p46, List.forall_mem_cons.mpr ⟨lw_p47, fun _ h => absurd h List.not_mem_nil⟩⟩⟩⟩⟩⟩⟩⟩⟩⟩⟩⟩⟩⟩⟩⟩
theorem lw_p48 : lw_okq (⟨"SmokyHeapModel", "minute", "()V"⟩, 26) := ⟨⟨by decide +kernel, by decide +kernel⟩, List.mem_of_getElem? (i := 839) (by decide +kernel), List.mem_of_getElem? (i := 1155) (by decide +kernel), List.mem_of_getElem? (i := 1156) (by decide +kernel)⟩
theorem lw_p49 : lw_okq (⟨"SmokyHeapModel", "burns", "(I)Z"⟩, 26) := ⟨⟨by decide +kernel, by decide +kernel⟩, List.mem_of_getElem? (i := 839) (by decide +kernel), List.mem_of_getElem? (i := 1159) (by decide +kernel), List.mem_of_getElem? (i := 1160) (by decide +kernel)⟩
theorem lw_p50 : lw_okq (⟨"SmokyHeapModel", "burnsOf", "(I)I"⟩, 26) := ⟨⟨by decide +kernel, by decide +kernel⟩, List.mem_of_getElem? (i := 839) (by decide +kernel), List.mem_of_getElem? (i := 1163) (by decide +kernel), List.mem_of_getElem? (i := 1164) (by decide +kernel)⟩
theorem lw_p51 : lw_okq (⟨"SmokyHeapModel", "warms", "(II)V"⟩, 26) := ⟨⟨by decide +kernel, by decide +kernel⟩, List.mem_of_getElem? (i := 839) (by decide +kernel), List.mem_of_getElem? (i := 1170) (by decide +kernel), List.mem_of_getElem? (i := 1171) (by decide +kernel)⟩
theorem lw_p52 : lw_okq (⟨"SmokyHeapModel", "glows", "(I)V"⟩, 26) := ⟨⟨by decide +kernel, by decide +kernel⟩, List.mem_of_getElem? (i := 839) (by decide +kernel), List.mem_of_getElem? (i := 1181) (by decide +kernel), List.mem_of_getElem? (i := 1182) (by decide +kernel)⟩
theorem lw_p53 : lw_okq (⟨"SmokyHeapModel", "lies", "()V"⟩, 26) := ⟨⟨by decide +kernel, by decide +kernel⟩, List.mem_of_getElem? (i := 839) (by decide +kernel), List.mem_of_getElem? (i := 1185) (by decide +kernel), List.mem_of_getElem? (i := 1186) (by decide +kernel)⟩
theorem lw_p54 : lw_okq (⟨"SmokyHeapModel", "drawn", "(I)I"⟩, 26) := ⟨⟨by decide +kernel, by decide +kernel⟩, List.mem_of_getElem? (i := 839) (by decide +kernel), List.mem_of_getElem? (i := 1200) (by decide +kernel), List.mem_of_getElem? (i := 1201) (by decide +kernel)⟩
theorem lw_p55 : lw_okq (⟨"SmokyHeapModel", "ofHeap", "(I)I"⟩, 26) := ⟨⟨by decide +kernel, by decide +kernel⟩, List.mem_of_getElem? (i := 839) (by decide +kernel), List.mem_of_getElem? (i := 1224) (by decide +kernel), List.mem_of_getElem? (i := 1225) (by decide +kernel)⟩
theorem lw_p56 : lw_okq (⟨"SmokyHeapModel", "back", "(I)I"⟩, 26) := ⟨⟨by decide +kernel, by decide +kernel⟩, List.mem_of_getElem? (i := 839) (by decide +kernel), List.mem_of_getElem? (i := 1238) (by decide +kernel), List.mem_of_getElem? (i := 1239) (by decide +kernel)⟩
theorem lw_p57 : lw_okq (⟨"SmokyHeapModel", "bothered", "()J"⟩, 26) := ⟨⟨by decide +kernel, by decide +kernel⟩, List.mem_of_getElem? (i := 839) (by decide +kernel), List.mem_of_getElem? (i := 1250) (by decide +kernel), List.mem_of_getElem? (i := 1251) (by decide +kernel)⟩
theorem lw_p58 : lw_okq (⟨"SmokyHeapModel", "suspectsBut", "(I)I"⟩, 26) := ⟨⟨by decide +kernel, by decide +kernel⟩, List.mem_of_getElem? (i := 839) (by decide +kernel), List.mem_of_getElem? (i := 1281) (by decide +kernel), List.mem_of_getElem? (i := 1282) (by decide +kernel)⟩
theorem lw_p59 : lw_okq (⟨"SmokyHeapModel", "from", "(I)I"⟩, 26) := ⟨⟨by decide +kernel, by decide +kernel⟩, List.mem_of_getElem? (i := 839) (by decide +kernel), List.mem_of_getElem? (i := 1285) (by decide +kernel), List.mem_of_getElem? (i := 1286) (by decide +kernel)⟩
theorem lw_p60 : lw_okq (⟨"SmokyHeapModel", "voiced", "(II)I"⟩, 26) := ⟨⟨by decide +kernel, by decide +kernel⟩, List.mem_of_getElem? (i := 839) (by decide +kernel), List.mem_of_getElem? (i := 1297) (by decide +kernel), List.mem_of_getElem? (i := 1298) (by decide +kernel)⟩
theorem lw_p61 : lw_okq (⟨"SmokyHeapModel", "bodyFrom", "(III)I"⟩, 26) := ⟨⟨by decide +kernel, by decide +kernel⟩, List.mem_of_getElem? (i := 839) (by decide +kernel), List.mem_of_getElem? (i := 1301) (by decide +kernel), List.mem_of_getElem? (i := 1302) (by decide +kernel)⟩
theorem lw_p62 : lw_okq (⟨"SmokyHeapModel", "body", "(III)I"⟩, 26) := ⟨⟨by decide +kernel, by decide +kernel⟩, List.mem_of_getElem? (i := 839) (by decide +kernel), List.mem_of_getElem? (i := 1308) (by decide +kernel), List.mem_of_getElem? (i := 1309) (by decide +kernel)⟩
theorem lw_p63 : lw_okq (⟨"SmokyHeapModel", "began", "(I)V"⟩, 26) := ⟨⟨by decide +kernel, by decide +kernel⟩, List.mem_of_getElem? (i := 839) (by decide +kernel), List.mem_of_getElem? (i := 1312) (by decide +kernel), List.mem_of_getElem? (i := 1313) (by decide +kernel)⟩
def lw_privs_4 : List (MethodName × Nat) := [(⟨"SmokyHeapModel", "minute", "()V"⟩, 26), (⟨"SmokyHeapModel", "burns", "(I)Z"⟩, 26), (⟨"SmokyHeapModel", "burnsOf", "(I)I"⟩, 26), (⟨"SmokyHeapModel", "warms", "(II)V"⟩, 26), (⟨"SmokyHeapModel", "glows", "(I)V"⟩, 26), (⟨"SmokyHeapModel", "lies", "()V"⟩, 26), (⟨"SmokyHeapModel", "drawn", "(I)I"⟩, 26), (⟨"SmokyHeapModel", "ofHeap", "(I)I"⟩, 26), (⟨"SmokyHeapModel", "back", "(I)I"⟩, 26), (⟨"SmokyHeapModel", "bothered", "()J"⟩, 26), (⟨"SmokyHeapModel", "suspectsBut", "(I)I"⟩, 26), (⟨"SmokyHeapModel", "from", "(I)I"⟩, 26), (⟨"SmokyHeapModel", "voiced", "(II)I"⟩, 26), (⟨"SmokyHeapModel", "bodyFrom", "(III)I"⟩, 26), (⟨"SmokyHeapModel", "body", "(III)I"⟩, 26), (⟨"SmokyHeapModel", "began", "(I)V"⟩, 26)]
theorem lw_r4 : ∀ q ∈ lw_privs_4, lw_okq q := List.forall_mem_cons.mpr ⟨lw_p48, List.forall_mem_cons.mpr ⟨lw_p49, List.forall_mem_cons.mpr ⟨lw_p50, List.forall_mem_cons.mpr ⟨lw_p51, List.forall_mem_cons.mpr ⟨lw_p52, List.forall_mem_cons.mpr ⟨lw_p53, List.forall_mem_cons.mpr ⟨lw_p54, List.forall_mem_cons.mpr ⟨lw_p55, List.forall_mem_cons.mpr ⟨lw_p56, List.forall_mem_cons.mpr ⟨lw_p57, List.forall_mem_cons.mpr ⟨lw_p58, List.forall_mem_cons.mpr ⟨lw_p59, List.forall_mem_cons.mpr ⟨lw_p60, List.forall_mem_cons.mpr ⟨lw_p61, List.forall_mem_cons.mpr ⟨lw_p62, List.forall_mem_cons.mpr ⟨lw_p63, fun _ h => absurd h List.not_mem_nil⟩⟩⟩⟩⟩⟩⟩⟩⟩⟩⟩⟩⟩⟩⟩⟩
def lw_privs : List (MethodName × Nat) := lw_privs_1 ++ (lw_privs_2 ++ (lw_privs_3 ++ (lw_privs_4)))
def lw_tbl : List Cond := k2_sels lw_privs ++ tables_1
theorem lw_privs_ok : ∀ q ∈ lw_privs, lw_okq q := by
  show ∀ q ∈ lw_privs_1 ++ (lw_privs_2 ++ (lw_privs_3 ++ (lw_privs_4))), lw_okq q
  exact List.forall_mem_append.mpr ⟨lw_r1, List.forall_mem_append.mpr ⟨lw_r2, List.forall_mem_append.mpr ⟨lw_r3, lw_r4⟩⟩⟩

/-! ===== END ===== -/
/-! ===== BEGIN printed: names, fields, word lists, decode rows ===== -/
def RX0 : String := "SmokyHeap$Heap"
def TX0 : u_T := fun k => match k with
  | 0 => ("SmokyHeap$Heap", "kinds", "[I", true)
  | 1 => ("SmokyHeap$Heap", "stuffs", "[I", true)
  | 2 => ("SmokyHeap$Heap", "wets", "[I", true)
  | 3 => ("SmokyHeap$Heap", "looses", "[I", true)
  | 4 => ("SmokyHeap$Heap", "warms", "[I", true)
  | 5 => ("SmokyHeap$Heap", "lits", "[Z", true)
  | 6 => ("SmokyHeap$Heap", "settings", "[I", true)
  | 7 => ("SmokyHeap$Heap", "washings", "[I", true)
  | 8 => ("SmokyHeap$Heap", "smelts", "[I", true)
  | 9 => ("SmokyHeap$Heap", "bothereds", "[I", true)
  | 10 => ("SmokyHeap$Heap", "ashes", "I", false)
  | 11 => ("SmokyHeap$Heap", "burnt", "I", false)
  | 12 => ("SmokyHeap$Heap", "smoke", "I", false)
  | _ => ("SmokyHeap$Heap", "minutes", "I", false)
def tyX0 : Nat → FieldType := fun k => match k with
  | 0 => .array .int
  | 1 => .array .int
  | 2 => .array .int
  | 3 => .array .int
  | 4 => .array .int
  | 5 => .array .boolean
  | 6 => .array .int
  | 7 => .array .int
  | 8 => .array .int
  | 9 => .array .int
  | 10 => .int
  | 11 => .int
  | 12 => .int
  | _ => .int
abbrev wsX00 : List Cond := u_ws RX0 TX0 14
theorem nmX0 : ∀ a, a < 14 → ∀ b, b < 14 → a ≠ b → (TX0 a).2.1 ≠ (TX0 b).2.1 := by decide +kernel
theorem tyX0_ok : ∀ k, k < 14 → parseFieldDescriptor (TX0 k).2.2.1 = some (tyX0 k) := by decide +kernel
abbrev cX0_init : ByteArray := prog_2_method_1_code
def yX0_init : MethodName := ⟨RX0, "<init>", "()V"⟩
abbrev cX0_copyFrom : ByteArray := prog_2_method_2_code
def yX0_copyFrom : MethodName := ⟨RX0, "copyFrom", "(LSmokyHeap$Heap;)V"⟩
abbrev cX0_has : ByteArray := prog_2_method_3_code
def yX0_has : MethodName := ⟨RX0, "has", "(I)Z"⟩
abbrev cX0_layOnTop : ByteArray := prog_2_method_4_code
def yX0_layOnTop : MethodName := ⟨RX0, "layOnTop", "(IIII)I"⟩
abbrev cX0_remove : ByteArray := prog_2_method_5_code
def yX0_remove : MethodName := ⟨RX0, "remove", "(I)V"⟩
abbrev cX0_heightOf : ByteArray := prog_2_method_6_code
def yX0_heightOf : MethodName := ⟨RX0, "heightOf", "(I)I"⟩
abbrev cX0_hourNow : ByteArray := prog_2_method_7_code
def yX0_hourNow : MethodName := ⟨RX0, "hourNow", "()I"⟩
abbrev cX0_howMany : ByteArray := prog_2_method_8_code
def yX0_howMany : MethodName := ⟨RX0, "howMany", "()I"⟩
abbrev cX0_howManyLit : ByteArray := prog_2_method_9_code
def yX0_howManyLit : MethodName := ⟨RX0, "howManyLit", "()I"⟩
abbrev cX0_canBeLit : ByteArray := prog_2_method_10_code
def yX0_canBeLit : MethodName := ⟨RX0, "canBeLit", "(I)Z"⟩
abbrev cX0_lightByHand : ByteArray := prog_2_method_11_code
def yX0_lightByHand : MethodName := ⟨RX0, "lightByHand", "(I)V"⟩
abbrev cX0_pourOn : ByteArray := prog_2_method_12_code
def yX0_pourOn : MethodName := ⟨RX0, "pourOn", "(II)V"⟩
abbrev cX0_pourOnLit : ByteArray := prog_2_method_13_code
def yX0_pourOnLit : MethodName := ⟨RX0, "pourOnLit", "(I)V"⟩
abbrev cX0_draughtOf : ByteArray := prog_2_method_14_code
def yX0_draughtOf : MethodName := ⟨RX0, "draughtOf", "(I)I"⟩
abbrev cX0_pass : ByteArray := prog_2_method_15_code
def yX0_pass : MethodName := ⟨RX0, "pass", "(ILSmokyHeap$Laws;)V"⟩
abbrev cX0_burn : ByteArray := prog_2_method_16_code
def yX0_burn : MethodName := ⟨RX0, "burn", "(LSmokyHeap$Laws;)I"⟩
abbrev cX0_burnAt : ByteArray := prog_2_method_17_code
def yX0_burnAt : MethodName := ⟨RX0, "burnAt", "(ILSmokyHeap$Laws;)I"⟩
abbrev cX0_burnsAsKind : ByteArray := prog_2_method_18_code
def yX0_burnsAsKind : MethodName := ⟨RX0, "burnsAsKind", "(II)I"⟩
abbrev cX0_warmNeighbours : ByteArray := prog_2_method_19_code
def yX0_warmNeighbours : MethodName := ⟨RX0, "warmNeighbours", "(I)V"⟩
abbrev cX0_giveWarm : ByteArray := prog_2_method_20_code
def yX0_giveWarm : MethodName := ⟨RX0, "giveWarm", "(II)V"⟩
abbrev cX0_dryAndCool : ByteArray := prog_2_method_21_code
def yX0_dryAndCool : MethodName := ⟨RX0, "dryAndCool", "(I)V"⟩
abbrev cX0_drift : ByteArray := prog_2_method_22_code
def yX0_drift : MethodName := ⟨RX0, "drift", "(ILSmokyHeap$Laws;)V"⟩
abbrev cX0_lyingOf : ByteArray := prog_2_method_23_code
def yX0_lyingOf : MethodName := ⟨RX0, "lyingOf", "(IILSmokyHeap$Laws;)I"⟩
abbrev cX0_botheredInAll : ByteArray := prog_2_method_24_code
def yX0_botheredInAll : MethodName := ⟨RX0, "botheredInAll", "()I"⟩
abbrev cX0_hangingWith : ByteArray := prog_2_method_25_code
def yX0_hangingWith : MethodName := ⟨RX0, "hangingWith", "(I)I"⟩
abbrev cX0_besideToo : ByteArray := prog_2_method_26_code
def yX0_besideToo : MethodName := ⟨RX0, "besideToo", "(I)I"⟩
abbrev cX0_armfulTells : ByteArray := prog_2_method_27_code
def yX0_armfulTells : MethodName := ⟨RX0, "armfulTells", "(II)I"⟩
abbrev cX0_gardenTells : ByteArray := prog_2_method_28_code
def yX0_gardenTells : MethodName := ⟨RX0, "gardenTells", "(II)I"⟩
abbrev cX0_heapTells : ByteArray := prog_2_method_29_code
def yX0_heapTells : MethodName := ⟨RX0, "heapTells", "(I)I"⟩
abbrev cX0_sumOf : ByteArray := prog_2_method_30_code
def yX0_sumOf : MethodName := ⟨RX0, "sumOf", "([I)I"⟩
abbrev cX0_highest : ByteArray := prog_2_method_31_code
def yX0_highest : MethodName := ⟨RX0, "highest", "()I"⟩
def RX1 : String := "SmokyHeap$Laws"
def TX1 : u_T := fun k => match k with
  | 0 => ("SmokyHeap$Laws", "codes", "[LSmokyHeap$Row;", true)
  | _ => ("SmokyHeap$Laws", "stack", "[I", true)
def tyX1 : Nat → FieldType := fun k => match k with
  | 0 => .array (.object "SmokyHeap$Row")
  | _ => .array .int
abbrev wsX10 : List Cond := u_ws RX1 TX1 2
theorem nmX1 : ∀ a, a < 2 → ∀ b, b < 2 → a ≠ b → (TX1 a).2.1 ≠ (TX1 b).2.1 := by decide +kernel
theorem tyX1_ok : ∀ k, k < 2 → parseFieldDescriptor (TX1 k).2.2.1 = some (tyX1 k) := by decide +kernel
abbrev cX1_init : ByteArray := prog_3_method_1_code
def yX1_init : MethodName := ⟨RX1, "<init>", "()V"⟩
abbrev cX1_has : ByteArray := prog_3_method_2_code
def yX1_has : MethodName := ⟨RX1, "has", "(I)Z"⟩
abbrev cX1_copyFrom : ByteArray := prog_3_method_3_code
def yX1_copyFrom : MethodName := ⟨RX1, "copyFrom", "(LSmokyHeap$Laws;)V"⟩
abbrev cX1_work : ByteArray := prog_3_method_4_code
def yX1_work : MethodName := ⟨RX1, "work", "(IIIII)I"⟩
abbrev cX1_joined : ByteArray := prog_3_method_5_code
def yX1_joined : MethodName := ⟨RX1, "joined", "(III)I"⟩
def RX2 : String := "SmokyHeap$Reader"
def TX2 : u_T := fun k => match k with
  | 0 => ("SmokyHeap$Reader", "code", "LSmokyHeap$Row;", true)
  | 1 => ("SmokyHeap$Reader", "tape", "LSmokyHeap$Row;", false)
  | 2 => ("SmokyHeap$Reader", "names", "Ljava/lang/String;", false)
  | 3 => ("SmokyHeap$Reader", "at", "I", false)
  | _ => ("SmokyHeap$Reader", "faulty", "Z", false)
def tyX2 : Nat → FieldType := fun k => match k with
  | 0 => .object "SmokyHeap$Row"
  | 1 => .object "SmokyHeap$Row"
  | 2 => .object "java/lang/String"
  | 3 => .int
  | _ => .boolean
abbrev wsX20 : List Cond := u_ws RX2 TX2 5
theorem nmX2 : ∀ a, a < 5 → ∀ b, b < 5 → a ≠ b → (TX2 a).2.1 ≠ (TX2 b).2.1 := by decide +kernel
theorem tyX2_ok : ∀ k, k < 5 → parseFieldDescriptor (TX2 k).2.2.1 = some (tyX2 k) := by decide +kernel
abbrev cX2_init : ByteArray := prog_4_method_1_code
def yX2_init : MethodName := ⟨RX2, "<init>", "()V"⟩
abbrev cX2_faultOf : ByteArray := prog_4_method_2_code
def yX2_faultOf : MethodName := ⟨RX2, "faultOf", "(LSmokyHeap$Row;I)I"⟩
abbrev cX2_namesOf : ByteArray := prog_4_method_3_code
def yX2_namesOf : MethodName := ⟨RX2, "namesOf", "(I)Ljava/lang/String;"⟩
abbrev cX2_signsOf : ByteArray := prog_4_method_4_code
def yX2_signsOf : MethodName := ⟨RX2, "signsOf", "(I)Ljava/lang/String;"⟩
abbrev cX2_next : ByteArray := prog_4_method_5_code
def yX2_next : MethodName := ⟨RX2, "next", "()C"⟩
abbrev cX2_readLevel : ByteArray := prog_4_method_6_code
def yX2_readLevel : MethodName := ⟨RX2, "readLevel", "(II)V"⟩
abbrev cX2_readUnit : ByteArray := prog_4_method_7_code
def yX2_readUnit : MethodName := ⟨RX2, "readUnit", "(I)V"⟩
abbrev cX2_readClosing : ByteArray := prog_4_method_8_code
def yX2_readClosing : MethodName := ⟨RX2, "readClosing", "()V"⟩
abbrev cX2_readNumber : ByteArray := prog_4_method_9_code
def yX2_readNumber : MethodName := ⟨RX2, "readNumber", "()V"⟩
abbrev cX2_isDigit : ByteArray := prog_4_method_10_code
def yX2_isDigit : MethodName := ⟨RX2, "isDigit", "(C)Z"⟩
def RX3 : String := "SmokyHeap$Row"
def TX3 : u_T := fun k => match k with
  | 0 => ("SmokyHeap$Row", "items", "[I", true)
  | _ => ("SmokyHeap$Row", "size", "I", false)
def tyX3 : Nat → FieldType := fun k => match k with
  | 0 => .array .int
  | _ => .int
abbrev wsX30 : List Cond := u_ws RX3 TX3 2
theorem nmX3 : ∀ a, a < 2 → ∀ b, b < 2 → a ≠ b → (TX3 a).2.1 ≠ (TX3 b).2.1 := by decide +kernel
theorem tyX3_ok : ∀ k, k < 2 → parseFieldDescriptor (TX3 k).2.2.1 = some (tyX3 k) := by decide +kernel
abbrev cX3_init : ByteArray := prog_5_method_1_code
def yX3_init : MethodName := ⟨RX3, "<init>", "(I)V"⟩
abbrev cX3_has : ByteArray := prog_5_method_2_code
def yX3_has : MethodName := ⟨RX3, "has", "(I)Z"⟩
abbrev cX3_add : ByteArray := prog_5_method_3_code
def yX3_add : MethodName := ⟨RX3, "add", "(I)Z"⟩
abbrev cX3_copyFrom : ByteArray := prog_5_method_4_code
def yX3_copyFrom : MethodName := ⟨RX3, "copyFrom", "(LSmokyHeap$Row;)V"⟩
def RX4 : String := "SmokyHeap$Sheet"
def TX4 : u_T := fun k => match k with
  | 0 => ("SmokyHeap$Sheet", "numbers", "[I", true)
  | 1 => ("SmokyHeap$Sheet", "bits", "I", false)
  | _ => ("SmokyHeap$Sheet", "size", "I", false)
def tyX4 : Nat → FieldType := fun k => match k with
  | 0 => .array .int
  | 1 => .int
  | _ => .int
abbrev wsX40 : List Cond := u_ws RX4 TX4 3
theorem nmX4 : ∀ a, a < 3 → ∀ b, b < 3 → a ≠ b → (TX4 a).2.1 ≠ (TX4 b).2.1 := by decide +kernel
theorem tyX4_ok : ∀ k, k < 3 → parseFieldDescriptor (TX4 k).2.2.1 = some (tyX4 k) := by decide +kernel
abbrev cX4_init : ByteArray := prog_6_method_1_code
def yX4_init : MethodName := ⟨RX4, "<init>", "()V"⟩
abbrev cX4_isMissing : ByteArray := prog_6_method_2_code
def yX4_isMissing : MethodName := ⟨RX4, "isMissing", "()Z"⟩
abbrev cX4_begin : ByteArray := prog_6_method_3_code
def yX4_begin : MethodName := ⟨RX4, "begin", "(II)V"⟩
abbrev cX4_stand : ByteArray := prog_6_method_4_code
def yX4_stand : MethodName := ⟨RX4, "stand", "(II)Z"⟩
abbrev cX4_write : ByteArray := prog_6_method_5_code
def yX4_write : MethodName := ⟨RX4, "write", "(II)V"⟩
def RX5 : String := "SmokyHeap$State"
def TX5 : u_T := fun k => match k with
  | 0 => ("SmokyHeap$State", "heap", "LSmokyHeap$Heap;", true)
  | 1 => ("SmokyHeap$State", "laws", "LSmokyHeap$Laws;", true)
  | 2 => ("SmokyHeap$State", "tape", "LSmokyHeap$Row;", true)
  | 3 => ("SmokyHeap$State", "reportGardens", "LSmokyHeap$Row;", true)
  | 4 => ("SmokyHeap$State", "reportWays", "LSmokyHeap$Row;", true)
  | 5 => ("SmokyHeap$State", "waiting", "LSmokyHeap$Row;", true)
  | _ => ("SmokyHeap$State", "drawn", "I", false)
def tyX5 : Nat → FieldType := fun k => match k with
  | 0 => .object "SmokyHeap$Heap"
  | 1 => .object "SmokyHeap$Laws"
  | 2 => .object "SmokyHeap$Row"
  | 3 => .object "SmokyHeap$Row"
  | 4 => .object "SmokyHeap$Row"
  | 5 => .object "SmokyHeap$Row"
  | _ => .int
abbrev wsX50 : List Cond := u_ws RX5 TX5 7
theorem nmX5 : ∀ a, a < 7 → ∀ b, b < 7 → a ≠ b → (TX5 a).2.1 ≠ (TX5 b).2.1 := by decide +kernel
theorem tyX5_ok : ∀ k, k < 7 → parseFieldDescriptor (TX5 k).2.2.1 = some (tyX5 k) := by decide +kernel
abbrev cX5_init : ByteArray := prog_7_method_1_code
def yX5_init : MethodName := ⟨RX5, "<init>", "()V"⟩
abbrev cX5_copyFrom : ByteArray := prog_7_method_2_code
def yX5_copyFrom : MethodName := ⟨RX5, "copyFrom", "(LSmokyHeap$State;)V"⟩
abbrev cX5_draw : ByteArray := prog_7_method_3_code
def yX5_draw : MethodName := ⟨RX5, "draw", "()I"⟩
abbrev cX5_suspectsWithout : ByteArray := prog_7_method_4_code
def yX5_suspectsWithout : MethodName := ⟨RX5, "suspectsWithout", "(I)I"⟩
abbrev cX5_gardensUpwind : ByteArray := prog_7_method_5_code
def yX5_gardensUpwind : MethodName := ⟨RX5, "gardensUpwind", "(II)I"⟩
def RX6 : String := "SmokyHeap$Voices"
def TX6 : u_T := fun k => match k with
  | 0 => ("SmokyHeap$Voices", "trace", "LSmokyHeap$Row;", true)
  | 1 => ("SmokyHeap$Voices", "parted", "Z", false)
  | 2 => ("SmokyHeap$Voices", "kind", "I", false)
  | 3 => ("SmokyHeap$Voices", "place", "I", false)
  | _ => ("SmokyHeap$Voices", "stuff", "I", false)
def tyX6 : Nat → FieldType := fun k => match k with
  | 0 => .object "SmokyHeap$Row"
  | 1 => .boolean
  | 2 => .int
  | 3 => .int
  | _ => .int
abbrev wsX60 : List Cond := u_ws RX6 TX6 5
theorem nmX6 : ∀ a, a < 5 → ∀ b, b < 5 → a ≠ b → (TX6 a).2.1 ≠ (TX6 b).2.1 := by decide +kernel
theorem tyX6_ok : ∀ k, k < 5 → parseFieldDescriptor (TX6 k).2.2.1 = some (tyX6 k) := by decide +kernel
abbrev cX6_init : ByteArray := prog_8_method_1_code
def yX6_init : MethodName := ⟨RX6, "<init>", "()V"⟩
abbrev cX6_answerOf : ByteArray := prog_8_method_2_code
def yX6_answerOf : MethodName := ⟨RX6, "answerOf", "(IIIII)I"⟩
abbrev cX6_speak : ByteArray := prog_8_method_3_code
def yX6_speak : MethodName := ⟨RX6, "speak", "(IIII)I"⟩
abbrev cX6_shared : ByteArray := prog_8_method_4_code
def yX6_shared : MethodName := ⟨RX6, "shared", "(I)I"⟩
abbrev cX6_ownerOf : ByteArray := prog_8_method_5_code
def yX6_ownerOf : MethodName := ⟨RX6, "ownerOf", "(II)I"⟩
def RX7 : String := "SmokyHeap"
def TX7 : u_T := fun k => match k with
  | 0 => ("SmokyHeap", "now", "LSmokyHeap$State;", true)
  | 1 => ("SmokyHeap", "kept", "LSmokyHeap$State;", true)
  | 2 => ("SmokyHeap", "ahead", "LSmokyHeap$Heap;", true)
  | 3 => ("SmokyHeap", "reader", "LSmokyHeap$Reader;", true)
  | 4 => ("SmokyHeap", "voices", "LSmokyHeap$Voices;", true)
  | 5 => ("SmokyHeap", "sheets", "[LSmokyHeap$Sheet;", true)
  | 6 => ("SmokyHeap", "errors", "[I", true)
  | 7 => ("SmokyHeap", "smokeAhead", "[I", true)
  | _ => ("SmokyHeap", "imagesMade", "I", false)
def tyX7 : Nat → FieldType := fun k => match k with
  | 0 => .object "SmokyHeap$State"
  | 1 => .object "SmokyHeap$State"
  | 2 => .object "SmokyHeap$Heap"
  | 3 => .object "SmokyHeap$Reader"
  | 4 => .object "SmokyHeap$Voices"
  | 5 => .array (.object "SmokyHeap$Sheet")
  | 6 => .array .int
  | 7 => .array .int
  | _ => .int
abbrev wsX70 : List Cond := u_ws RX7 TX7 9
theorem nmX7 : ∀ a, a < 9 → ∀ b, b < 9 → a ≠ b → (TX7 a).2.1 ≠ (TX7 b).2.1 := by decide +kernel
theorem tyX7_ok : ∀ k, k < 9 → parseFieldDescriptor (TX7 k).2.2.1 = some (tyX7 k) := by decide +kernel
abbrev cX7_init : ByteArray := prog_1_method_1_code
def yX7_init : MethodName := ⟨RX7, "<init>", "()V"⟩
abbrev cX7_lay : ByteArray := prog_1_method_2_code
def yX7_lay : MethodName := ⟨RX7, "lay", "(IIII)I"⟩
abbrev cX7_take : ByteArray := prog_1_method_3_code
def yX7_take : MethodName := ⟨RX7, "take", "(I)I"⟩
abbrev cX7_armful : ByteArray := prog_1_method_4_code
def yX7_armful : MethodName := ⟨RX7, "armful", "(II)I"⟩
abbrev cX7_as : ByteArray := prog_1_method_5_code
def yX7_as : MethodName := ⟨RX7, "as", "(II)I"⟩
abbrev cX7_become : ByteArray := prog_1_method_6_code
def yX7_become : MethodName := ⟨RX7, "become", "(II)I"⟩
abbrev cX7_light : ByteArray := prog_1_method_7_code
def yX7_light : MethodName := ⟨RX7, "light", "(I)I"⟩
abbrev cX7_fork : ByteArray := prog_1_method_8_code
def yX7_fork : MethodName := ⟨RX7, "fork", "(II)I"⟩
abbrev cX7_pour : ByteArray := prog_1_method_9_code
def yX7_pour : MethodName := ⟨RX7, "pour", "(II)I"⟩
abbrev cX7_set : ByteArray := prog_1_method_10_code
def yX7_set : MethodName := ⟨RX7, "set", "(II)I"⟩
abbrev cX7_feed : ByteArray := prog_1_method_11_code
def yX7_feed : MethodName := ⟨RX7, "feed", "(JI)I"⟩
abbrev cX7_text : ByteArray := prog_1_method_12_code
def yX7_text : MethodName := ⟨RX7, "text", "(I)I"⟩
abbrev cX7_untell : ByteArray := prog_1_method_13_code
def yX7_untell : MethodName := ⟨RX7, "untell", "(I)I"⟩
abbrev cX7_minutes : ByteArray := prog_1_method_14_code
def yX7_minutes : MethodName := ⟨RX7, "minutes", "(I)I"⟩
abbrev cX7_gusts : ByteArray := prog_1_method_15_code
def yX7_gusts : MethodName := ⟨RX7, "gusts", "(I)I"⟩
abbrev cX7_seed : ByteArray := prog_1_method_16_code
def yX7_seed : MethodName := ⟨RX7, "seed", "(I)I"⟩
abbrev cX7_washing : ByteArray := prog_1_method_17_code
def yX7_washing : MethodName := ⟨RX7, "washing", "(III)I"⟩
abbrev cX7_garden : ByteArray := prog_1_method_18_code
def yX7_garden : MethodName := ⟨RX7, "garden", "(II)I"⟩
abbrev cX7_heap : ByteArray := prog_1_method_19_code
def yX7_heap : MethodName := ⟨RX7, "heap", "(I)I"⟩
abbrev cX7_may : ByteArray := prog_1_method_20_code
def yX7_may : MethodName := ⟨RX7, "may", "()I"⟩
abbrev cX7_then : ByteArray := prog_1_method_21_code
def yX7_then : MethodName := ⟨RX7, "then", "(II)I"⟩
abbrev cX7_gardenThen : ByteArray := prog_1_method_22_code
def yX7_gardenThen : MethodName := ⟨RX7, "gardenThen", "(III)I"⟩
abbrev cX7_hour : ByteArray := prog_1_method_23_code
def yX7_hour : MethodName := ⟨RX7, "hour", "(II)I"⟩
abbrev cX7_spot : ByteArray := prog_1_method_24_code
def yX7_spot : MethodName := ⟨RX7, "spot", "(I)I"⟩
abbrev cX7_out : ByteArray := prog_1_method_25_code
def yX7_out : MethodName := ⟨RX7, "out", "(I)I"⟩
abbrev cX7_catches : ByteArray := prog_1_method_26_code
def yX7_catches : MethodName := ⟨RX7, "catches", "(II)I"⟩
abbrev cX7_reach : ByteArray := prog_1_method_27_code
def yX7_reach : MethodName := ⟨RX7, "reach", "(I)I"⟩
abbrev cX7_report : ByteArray := prog_1_method_28_code
def yX7_report : MethodName := ⟨RX7, "report", "(II)I"⟩
abbrev cX7_suspects : ByteArray := prog_1_method_29_code
def yX7_suspects : MethodName := ⟨RX7, "suspects", "()I"⟩
abbrev cX7_liar : ByteArray := prog_1_method_30_code
def yX7_liar : MethodName := ⟨RX7, "liar", "()I"⟩
abbrev cX7_voice : ByteArray := prog_1_method_31_code
def yX7_voice : MethodName := ⟨RX7, "voice", "(III)I"⟩
abbrev cX7_body : ByteArray := prog_1_method_32_code
def yX7_body : MethodName := ⟨RX7, "body", "(I)I"⟩
abbrev cX7_sheet : ByteArray := prog_1_method_33_code
def yX7_sheet : MethodName := ⟨RX7, "sheet", "(III)I"⟩
abbrev cX7_put : ByteArray := prog_1_method_34_code
def yX7_put : MethodName := ⟨RX7, "put", "(III)I"⟩
abbrev cX7_move : ByteArray := prog_1_method_35_code
def yX7_move : MethodName := ⟨RX7, "move", "(IIIII)I"⟩
abbrev cX7_armfuls : ByteArray := prog_1_method_36_code
def yX7_armfuls : MethodName := ⟨RX7, "armfuls", "(I)I"⟩
abbrev cX7_image : ByteArray := prog_1_method_37_code
def yX7_image : MethodName := ⟨RX7, "image", "()I"⟩
abbrev cX7_restore : ByteArray := prog_1_method_38_code
def yX7_restore : MethodName := ⟨RX7, "restore", "()I"⟩
abbrev cX7_tell : ByteArray := prog_1_method_39_code
def yX7_tell : MethodName := ⟨RX7, "tell", "(I)I"⟩
abbrev cX7_check : ByteArray := prog_1_method_40_code
def yX7_check : MethodName := ⟨RX7, "check", "(I)I"⟩
abbrev cX7_count : ByteArray := prog_1_method_41_code
def yX7_count : MethodName := ⟨RX7, "count", "(I)I"⟩
abbrev cX7_told : ByteArray := prog_1_method_42_code
def yX7_told : MethodName := ⟨RX7, "told", "(I)I"⟩
abbrev cX7_failed : ByteArray := prog_1_method_43_code
def yX7_failed : MethodName := ⟨RX7, "failed", "(I)I"⟩
abbrev cX7_bylawLets : ByteArray := prog_1_method_44_code
def yX7_bylawLets : MethodName := ⟨RX7, "bylawLets", "()Z"⟩
abbrev cX7_botheredFrom : ByteArray := prog_1_method_45_code
def yX7_botheredFrom : MethodName := ⟨RX7, "botheredFrom", "(II)I"⟩
abbrev cX7_within : ByteArray := prog_1_method_46_code
def yX7_within : MethodName := ⟨RX7, "within", "(III)Z"⟩
abbrev cX7_isPlace : ByteArray := prog_1_method_47_code
def yX7_isPlace : MethodName := ⟨RX7, "isPlace", "(I)Z"⟩
abbrev cX7_isKind : ByteArray := prog_1_method_48_code
def yX7_isKind : MethodName := ⟨RX7, "isKind", "(I)Z"⟩
abbrev cX7_isUse : ByteArray := prog_1_method_49_code
def yX7_isUse : MethodName := ⟨RX7, "isUse", "(I)Z"⟩
abbrev cX7_isGarden : ByteArray := prog_1_method_50_code
def yX7_isGarden : MethodName := ⟨RX7, "isGarden", "(I)Z"⟩
abbrev cX7_isSheet : ByteArray := prog_1_method_51_code
def yX7_isSheet : MethodName := ⟨RX7, "isSheet", "(I)Z"⟩
abbrev cX7_isAhead : ByteArray := prog_1_method_52_code
def yX7_isAhead : MethodName := ⟨RX7, "isAhead", "(I)Z"⟩
abbrev cX7_isOfKind : ByteArray := prog_1_method_53_code
def yX7_isOfKind : MethodName := ⟨RX7, "isOfKind", "(II)Z"⟩
abbrev cX7_nextGarden : ByteArray := prog_1_method_54_code
def yX7_nextGarden : MethodName := ⟨RX7, "nextGarden", "(II)I"⟩
def RX8 : String := "SmokyHeapModel"
def TX8 : u_T := fun k => match k with
  | 0 => ("SmokyHeapModel", "now", "[I", true)
  | 1 => ("SmokyHeapModel", "kept", "[I", true)
  | 2 => ("SmokyHeapModel", "aside", "[I", true)
  | 3 => ("SmokyHeapModel", "images", "I", false)
  | 4 => ("SmokyHeapModel", "errors", "[I", true)
  | 5 => ("SmokyHeapModel", "heats", "[I", true)
  | 6 => ("SmokyHeapModel", "catchesAt", "[I", true)
  | 7 => ("SmokyHeapModel", "most", "[I", true)
  | 8 => ("SmokyHeapModel", "NAMED", "[Ljava/lang/String;", true)
  | 9 => ("SmokyHeapModel", "at", "I", false)
  | 10 => ("SmokyHeapModel", "open", "I", false)
  | 11 => ("SmokyHeapModel", "use", "I", false)
  | 12 => ("SmokyHeapModel", "isWrong", "Z", false)
  | 13 => ("SmokyHeapModel", "code", "[I", true)
  | 14 => ("SmokyHeapModel", "coded", "I", false)
  | 15 => ("SmokyHeapModel", "named", "[I", true)
  | 16 => ("SmokyHeapModel", "pile", "[I", true)
  | 17 => ("SmokyHeapModel", "smoke", "I", false)
  | 18 => ("SmokyHeapModel", "trace", "[I", true)
  | 19 => ("SmokyHeapModel", "traced", "I", false)
  | 20 => ("SmokyHeapModel", "speaker", "I", false)
  | 21 => ("SmokyHeapModel", "isParted", "Z", false)
  | 22 => ("SmokyHeapModel", "widths", "[I", true)
  | 23 => ("SmokyHeapModel", "sizes", "[I", true)
  | 24 => ("SmokyHeapModel", "numbers", "[I", true)
  | _ => ("SmokyHeapModel", "carried", "[I", true)
def tyX8 : Nat → FieldType := fun k => match k with
  | 0 => .array .int
  | 1 => .array .int
  | 2 => .array .int
  | 3 => .int
  | 4 => .array .int
  | 5 => .array .int
  | 6 => .array .int
  | 7 => .array .int
  | 8 => .array (.object "java/lang/String")
  | 9 => .int
  | 10 => .int
  | 11 => .int
  | 12 => .boolean
  | 13 => .array .int
  | 14 => .int
  | 15 => .array .int
  | 16 => .array .int
  | 17 => .int
  | 18 => .array .int
  | 19 => .int
  | 20 => .int
  | 21 => .boolean
  | 22 => .array .int
  | 23 => .array .int
  | 24 => .array .int
  | _ => .array .int
abbrev wsX80 : List Cond := u_ws RX8 TX8 26
theorem nmX8 : ∀ a, a < 26 → ∀ b, b < 26 → a ≠ b → (TX8 a).2.1 ≠ (TX8 b).2.1 := by decide +kernel
theorem tyX8_ok : ∀ k, k < 26 → parseFieldDescriptor (TX8 k).2.2.1 = some (tyX8 k) := by decide +kernel
abbrev cX8_init : ByteArray := prog_10_method_1_code
def yX8_init : MethodName := ⟨RX8, "<init>", "()V"⟩
abbrev cX8_finding : ByteArray := prog_10_method_2_code
def yX8_finding : MethodName := ⟨RX8, "finding", "(I)I"⟩
abbrev cX8_within : ByteArray := prog_10_method_3_code
def yX8_within : MethodName := ⟨RX8, "within", "(III)Z"⟩
abbrev cX8_has : ByteArray := prog_10_method_4_code
def yX8_has : MethodName := ⟨RX8, "has", "(II)Z"⟩
abbrev cX8_held : ByteArray := prog_10_method_5_code
def yX8_held : MethodName := ⟨RX8, "held", "(III)I"⟩
abbrev cX8_copy : ByteArray := prog_10_method_6_code
def yX8_copy : MethodName := ⟨RX8, "copy", "([I[I)V"⟩
abbrev cX8_comes : ByteArray := prog_10_method_7_code
def yX8_comes : MethodName := ⟨RX8, "comes", "(II)I"⟩
abbrev cX8_back : ByteArray := prog_10_method_8_code
def yX8_back : MethodName := ⟨RX8, "back", "(I)I"⟩
abbrev cX8_of : ByteArray := prog_10_method_9_code
def yX8_of : MethodName := ⟨RX8, "of", "(II)I"⟩
abbrev cX8_tells : ByteArray := prog_10_method_10_code
def yX8_tells : MethodName := ⟨RX8, "tells", "(III)V"⟩
abbrev cX8_isPlace : ByteArray := prog_10_method_11_code
def yX8_isPlace : MethodName := ⟨RX8, "isPlace", "(I)Z"⟩
abbrev cX8_is : ByteArray := prog_10_method_12_code
def yX8_is : MethodName := ⟨RX8, "is", "(I)Z"⟩
abbrev cX8_isLit : ByteArray := prog_10_method_13_code
def yX8_isLit : MethodName := ⟨RX8, "isLit", "(I)Z"⟩
abbrev cX8_highOf : ByteArray := prog_10_method_14_code
def yX8_highOf : MethodName := ⟨RX8, "highOf", "(I)I"⟩
abbrev cX8_isAsTold : ByteArray := prog_10_method_15_code
def yX8_isAsTold : MethodName := ⟨RX8, "isAsTold", "(IIII)Z"⟩
abbrev cX8_lays : ByteArray := prog_10_method_16_code
def yX8_lays : MethodName := ⟨RX8, "lays", "(IIII)I"⟩
abbrev cX8_lay : ByteArray := prog_10_method_17_code
def yX8_lay : MethodName := ⟨RX8, "lay", "(IIII)I"⟩
abbrev cX8_goes : ByteArray := prog_10_method_18_code
def yX8_goes : MethodName := ⟨RX8, "goes", "(I)V"⟩
abbrev cX8_take : ByteArray := prog_10_method_19_code
def yX8_take : MethodName := ⟨RX8, "take", "(I)I"⟩
abbrev cX8_beside : ByteArray := prog_10_method_20_code
def yX8_beside : MethodName := ⟨RX8, "beside", "(II)I"⟩
abbrev cX8_isOpen : ByteArray := prog_10_method_21_code
def yX8_isOpen : MethodName := ⟨RX8, "isOpen", "(II)Z"⟩
abbrev cX8_draughtOf : ByteArray := prog_10_method_22_code
def yX8_draughtOf : MethodName := ⟨RX8, "draughtOf", "(I)I"⟩
abbrev cX8_armful : ByteArray := prog_10_method_23_code
def yX8_armful : MethodName := ⟨RX8, "armful", "(II)I"⟩
abbrev cX8_above : ByteArray := prog_10_method_24_code
def yX8_above : MethodName := ⟨RX8, "above", "(I)I"⟩
abbrev cX8_as : ByteArray := prog_10_method_25_code
def yX8_as : MethodName := ⟨RX8, "as", "(II)I"⟩
abbrev cX8_changes : ByteArray := prog_10_method_26_code
def yX8_changes : MethodName := ⟨RX8, "changes", "(ZIII)I"⟩
abbrev cX8_become : ByteArray := prog_10_method_27_code
def yX8_become : MethodName := ⟨RX8, "become", "(II)I"⟩
abbrev cX8_fork : ByteArray := prog_10_method_28_code
def yX8_fork : MethodName := ⟨RX8, "fork", "(II)I"⟩
abbrev cX8_lights : ByteArray := prog_10_method_29_code
def yX8_lights : MethodName := ⟨RX8, "lights", "(I)V"⟩
abbrev cX8_light : ByteArray := prog_10_method_30_code
def yX8_light : MethodName := ⟨RX8, "light", "(I)I"⟩
abbrev cX8_pours : ByteArray := prog_10_method_31_code
def yX8_pours : MethodName := ⟨RX8, "pours", "(II)V"⟩
abbrev cX8_pour : ByteArray := prog_10_method_32_code
def yX8_pour : MethodName := ⟨RX8, "pour", "(II)I"⟩
abbrev cX8_set : ByteArray := prog_10_method_33_code
def yX8_set : MethodName := ⟨RX8, "set", "(II)I"⟩
abbrev cX8_feed : ByteArray := prog_10_method_34_code
def yX8_feed : MethodName := ⟨RX8, "feed", "(JI)I"⟩
abbrev cX8_here : ByteArray := prog_10_method_35_code
def yX8_here : MethodName := ⟨RX8, "here", "()I"⟩
abbrev cX8_takes : ByteArray := prog_10_method_36_code
def yX8_takes : MethodName := ⟨RX8, "takes", "(I)Z"⟩
abbrev cX8_codes : ByteArray := prog_10_method_37_code
def yX8_codes : MethodName := ⟨RX8, "codes", "(I)V"⟩
abbrev cX8_either : ByteArray := prog_10_method_38_code
def yX8_either : MethodName := ⟨RX8, "either", "()V"⟩
abbrev cX8_both : ByteArray := prog_10_method_39_code
def yX8_both : MethodName := ⟨RX8, "both", "()V"⟩
abbrev cX8_compared : ByteArray := prog_10_method_40_code
def yX8_compared : MethodName := ⟨RX8, "compared", "()V"⟩
abbrev cX8_sum : ByteArray := prog_10_method_41_code
def yX8_sum : MethodName := ⟨RX8, "sum", "()V"⟩
abbrev cX8_product : ByteArray := prog_10_method_42_code
def yX8_product : MethodName := ⟨RX8, "product", "()V"⟩
abbrev cX8_nameOf : ByteArray := prog_10_method_43_code
def yX8_nameOf : MethodName := ⟨RX8, "nameOf", "(I)I"⟩
abbrev cX8_one : ByteArray := prog_10_method_44_code
def yX8_one : MethodName := ⟨RX8, "one", "()V"⟩
abbrev cX8_text : ByteArray := prog_10_method_45_code
def yX8_text : MethodName := ⟨RX8, "text", "(I)I"⟩
abbrev cX8_untell : ByteArray := prog_10_method_46_code
def yX8_untell : MethodName := ⟨RX8, "untell", "(I)I"⟩
abbrev cX8_done : ByteArray := prog_10_method_47_code
def yX8_done : MethodName := ⟨RX8, "done", "(III)I"⟩
abbrev cX8_worked : ByteArray := prog_10_method_48_code
def yX8_worked : MethodName := ⟨RX8, "worked", "(I)I"⟩
abbrev cX8_given : ByteArray := prog_10_method_49_code
def yX8_given : MethodName := ⟨RX8, "given", "(IIIII)I"⟩
abbrev cX8_sum_ : ByteArray := prog_10_method_50_code
def yX8_sum_ : MethodName := ⟨RX8, "sum", "(I)I"⟩
abbrev cX8_mayBe : ByteArray := prog_10_method_51_code
def yX8_mayBe : MethodName := ⟨RX8, "mayBe", "()Z"⟩
abbrev cX8_may : ByteArray := prog_10_method_52_code
def yX8_may : MethodName := ⟨RX8, "may", "()I"⟩
abbrev cX8_burnsOf : ByteArray := prog_10_method_53_code
def yX8_burnsOf : MethodName := ⟨RX8, "burnsOf", "(I)I"⟩
abbrev cX8_more : ByteArray := prog_10_method_54_code
def yX8_more : MethodName := ⟨RX8, "more", "(II)I"⟩
abbrev cX8_warms : ByteArray := prog_10_method_55_code
def yX8_warms : MethodName := ⟨RX8, "warms", "(II)V"⟩
abbrev cX8_burns : ByteArray := prog_10_method_56_code
def yX8_burns : MethodName := ⟨RX8, "burns", "(I)Z"⟩
abbrev cX8_glows : ByteArray := prog_10_method_57_code
def yX8_glows : MethodName := ⟨RX8, "glows", "(I)V"⟩
abbrev cX8_next : ByteArray := prog_10_method_58_code
def yX8_next : MethodName := ⟨RX8, "next", "(II)I"⟩
abbrev cX8_lies : ByteArray := prog_10_method_59_code
def yX8_lies : MethodName := ⟨RX8, "lies", "()V"⟩
abbrev cX8_minute : ByteArray := prog_10_method_60_code
def yX8_minute : MethodName := ⟨RX8, "minute", "()V"⟩
abbrev cX8_minutesGo : ByteArray := prog_10_method_61_code
def yX8_minutesGo : MethodName := ⟨RX8, "minutesGo", "(I)V"⟩
abbrev cX8_whyNot : ByteArray := prog_10_method_62_code
def yX8_whyNot : MethodName := ⟨RX8, "whyNot", "(I)I"⟩
abbrev cX8_minutes : ByteArray := prog_10_method_63_code
def yX8_minutes : MethodName := ⟨RX8, "minutes", "(I)I"⟩
abbrev cX8_drawn : ByteArray := prog_10_method_64_code
def yX8_drawn : MethodName := ⟨RX8, "drawn", "(I)I"⟩
abbrev cX8_gusts : ByteArray := prog_10_method_65_code
def yX8_gusts : MethodName := ⟨RX8, "gusts", "(I)I"⟩
abbrev cX8_seed : ByteArray := prog_10_method_66_code
def yX8_seed : MethodName := ⟨RX8, "seed", "(I)I"⟩
abbrev cX8_isGarden : ByteArray := prog_10_method_67_code
def yX8_isGarden : MethodName := ⟨RX8, "isGarden", "(I)Z"⟩
abbrev cX8_washing : ByteArray := prog_10_method_68_code
def yX8_washing : MethodName := ⟨RX8, "washing", "(III)I"⟩
abbrev cX8_garden : ByteArray := prog_10_method_69_code
def yX8_garden : MethodName := ⟨RX8, "garden", "(II)I"⟩
abbrev cX8_ofHeap : ByteArray := prog_10_method_70_code
def yX8_ofHeap : MethodName := ⟨RX8, "ofHeap", "(I)I"⟩
abbrev cX8_heap : ByteArray := prog_10_method_71_code
def yX8_heap : MethodName := ⟨RX8, "heap", "(I)I"⟩
abbrev cX8_isAhead : ByteArray := prog_10_method_72_code
def yX8_isAhead : MethodName := ⟨RX8, "isAhead", "(I)Z"⟩
abbrev cX8_then : ByteArray := prog_10_method_73_code
def yX8_then : MethodName := ⟨RX8, "then", "(II)I"⟩
abbrev cX8_gardenThen : ByteArray := prog_10_method_74_code
def yX8_gardenThen : MethodName := ⟨RX8, "gardenThen", "(III)I"⟩
abbrev cX8_bothered : ByteArray := prog_10_method_75_code
def yX8_bothered : MethodName := ⟨RX8, "bothered", "()J"⟩
abbrev cX8_hour : ByteArray := prog_10_method_76_code
def yX8_hour : MethodName := ⟨RX8, "hour", "(II)I"⟩
abbrev cX8_spot : ByteArray := prog_10_method_77_code
def yX8_spot : MethodName := ⟨RX8, "spot", "(I)I"⟩
abbrev cX8_out : ByteArray := prog_10_method_78_code
def yX8_out : MethodName := ⟨RX8, "out", "(I)I"⟩
abbrev cX8_catches : ByteArray := prog_10_method_79_code
def yX8_catches : MethodName := ⟨RX8, "catches", "(II)I"⟩
abbrev cX8_reach : ByteArray := prog_10_method_80_code
def yX8_reach : MethodName := ⟨RX8, "reach", "(I)I"⟩
abbrev cX8_bits : ByteArray := prog_10_method_81_code
def yX8_bits : MethodName := ⟨RX8, "bits", "(I)I"⟩
abbrev cX8_report : ByteArray := prog_10_method_82_code
def yX8_report : MethodName := ⟨RX8, "report", "(II)I"⟩
abbrev cX8_from : ByteArray := prog_10_method_83_code
def yX8_from : MethodName := ⟨RX8, "from", "(I)I"⟩
abbrev cX8_suspectsBut : ByteArray := prog_10_method_84_code
def yX8_suspectsBut : MethodName := ⟨RX8, "suspectsBut", "(I)I"⟩
abbrev cX8_suspects : ByteArray := prog_10_method_85_code
def yX8_suspects : MethodName := ⟨RX8, "suspects", "()I"⟩
abbrev cX8_liar : ByteArray := prog_10_method_86_code
def yX8_liar : MethodName := ⟨RX8, "liar", "()I"⟩
abbrev cX8_began : ByteArray := prog_10_method_87_code
def yX8_began : MethodName := ⟨RX8, "began", "(I)V"⟩
abbrev cX8_hasOwn : ByteArray := prog_10_method_88_code
def yX8_hasOwn : MethodName := ⟨RX8, "hasOwn", "(II)Z"⟩
abbrev cX8_voiced : ByteArray := prog_10_method_89_code
def yX8_voiced : MethodName := ⟨RX8, "voiced", "(II)I"⟩
abbrev cX8_bodyFrom : ByteArray := prog_10_method_90_code
def yX8_bodyFrom : MethodName := ⟨RX8, "bodyFrom", "(III)I"⟩
abbrev cX8_body : ByteArray := prog_10_method_91_code
def yX8_body : MethodName := ⟨RX8, "body", "(III)I"⟩
abbrev cX8_voice : ByteArray := prog_10_method_92_code
def yX8_voice : MethodName := ⟨RX8, "voice", "(III)I"⟩
abbrev cX8_body_ : ByteArray := prog_10_method_93_code
def yX8_body_ : MethodName := ⟨RX8, "body", "(I)I"⟩
abbrev cX8_isSheet : ByteArray := prog_10_method_94_code
def yX8_isSheet : MethodName := ⟨RX8, "isSheet", "(I)Z"⟩
abbrev cX8_sheet : ByteArray := prog_10_method_95_code
def yX8_sheet : MethodName := ⟨RX8, "sheet", "(III)I"⟩
abbrev cX8_put : ByteArray := prog_10_method_96_code
def yX8_put : MethodName := ⟨RX8, "put", "(III)I"⟩
abbrev cX8_move : ByteArray := prog_10_method_97_code
def yX8_move : MethodName := ⟨RX8, "move", "(IIIII)I"⟩
abbrev cX8_armfuls : ByteArray := prog_10_method_98_code
def yX8_armfuls : MethodName := ⟨RX8, "armfuls", "(I)I"⟩
abbrev cX8_image : ByteArray := prog_10_method_99_code
def yX8_image : MethodName := ⟨RX8, "image", "()I"⟩
abbrev cX8_restore : ByteArray := prog_10_method_100_code
def yX8_restore : MethodName := ⟨RX8, "restore", "()I"⟩
abbrev cX8_tell : ByteArray := prog_10_method_101_code
def yX8_tell : MethodName := ⟨RX8, "tell", "(I)I"⟩
abbrev cX8_check : ByteArray := prog_10_method_102_code
def yX8_check : MethodName := ⟨RX8, "check", "(I)I"⟩
abbrev cX8_count : ByteArray := prog_10_method_103_code
def yX8_count : MethodName := ⟨RX8, "count", "(I)I"⟩
abbrev cX8_told : ByteArray := prog_10_method_104_code
def yX8_told : MethodName := ⟨RX8, "told", "(I)I"⟩
def RJ11 : String := "java/lang/Character"
abbrev cJ11_isValidCodePoint_9a6ad : ByteArray := prog_11_method_11_code
def yJ11_isValidCodePoint_9a6ad : MethodName := ⟨RJ11, "isValidCodePoint", "(I)Z"⟩
abbrev cJ11_highSurrogate_5068e : ByteArray := prog_11_method_28_code
def yJ11_highSurrogate_5068e : MethodName := ⟨RJ11, "highSurrogate", "(I)C"⟩
abbrev cJ11_lowSurrogate_5068e : ByteArray := prog_11_method_29_code
def yJ11_lowSurrogate_5068e : MethodName := ⟨RJ11, "lowSurrogate", "(I)C"⟩
def RJ6 : String := "java/lang/Integer"
abbrev cJ6_bitCount_0f7a4 : ByteArray := prog_12_method_49_code
def yJ6_bitCount_0f7a4 : MethodName := ⟨RJ6, "bitCount", "(I)I"⟩
def RJ9 : String := "java/lang/Math"
abbrev cJ9_max_7cf53 : ByteArray := prog_13_method_65_code
def yJ9_max_7cf53 : MethodName := ⟨RJ9, "max", "(II)I"⟩
abbrev cJ9_min_7cf53 : ByteArray := prog_13_method_69_code
def yJ9_min_7cf53 : MethodName := ⟨RJ9, "min", "(II)I"⟩
abbrev cJ9_min_f86c9 : ByteArray := prog_13_method_70_code
def yJ9_min_f86c9 : MethodName := ⟨RJ9, "min", "(JJ)J"⟩
def RJ0 : String := "java/lang/String"
abbrev cJ0_length_8abf5 : ByteArray := prog_14_method_54_code
def yJ0_length_8abf5 : MethodName := ⟨RJ0, "length", "()I"⟩
abbrev cJ0_charAt_5068e : ByteArray := prog_14_method_56_code
def yJ0_charAt_5068e : MethodName := ⟨RJ0, "charAt", "(I)C"⟩
abbrev cJ0_indexOf_0f7a4 : ByteArray := prog_14_method_79_code
def yJ0_indexOf_0f7a4 : MethodName := ⟨RJ0, "indexOf", "(I)I"⟩
abbrev cJ0_indexOf_7cf53 : ByteArray := prog_14_method_80_code
def yJ0_indexOf_7cf53 : MethodName := ⟨RJ0, "indexOf", "(II)I"⟩
abbrev cJ0_coder_7d493 : ByteArray := prog_14_method_152_code
def yJ0_coder_7d493 : MethodName := ⟨RJ0, "coder", "()B"⟩
abbrev cJ0_isLatin1_aae02 : ByteArray := prog_14_method_154_code
def yJ0_isLatin1_aae02 : MethodName := ⟨RJ0, "isLatin1", "()Z"⟩
abbrev cJ0_checkIndex_df160 : ByteArray := prog_14_method_155_code
def yJ0_checkIndex_df160 : MethodName := ⟨RJ0, "checkIndex", "(II)V"⟩
abbrev cJ0_checkBoundsBeginEnd_23922 : ByteArray := prog_14_method_158_code
def yJ0_checkBoundsBeginEnd_23922 : MethodName := ⟨RJ0, "checkBoundsBeginEnd", "(III)V"⟩
def RJ1 : String := "java/lang/StringLatin1"
abbrev cJ1_charAt_3b067 : ByteArray := prog_15_method_2_code
def yJ1_charAt_3b067 : MethodName := ⟨RJ1, "charAt", "([BI)C"⟩
abbrev cJ1_canEncode_9a6ad : ByteArray := prog_15_method_4_code
def yJ1_canEncode_9a6ad : MethodName := ⟨RJ1, "canEncode", "(I)Z"⟩
abbrev cJ1_indexOf_4cfef : ByteArray := prog_15_method_22_code
def yJ1_indexOf_4cfef : MethodName := ⟨RJ1, "indexOf", "([BIII)I"⟩
abbrev cJ1_indexOfChar_4cfef : ByteArray := prog_15_method_23_code
def yJ1_indexOfChar_4cfef : MethodName := ⟨RJ1, "indexOfChar", "([BIII)I"⟩
def RJ2 : String := "java/lang/StringUTF16"
abbrev cJ2_getChar_3b067 : ByteArray := prog_16_method_5_code
def yJ2_getChar_3b067 : MethodName := ⟨RJ2, "getChar", "([BI)C"⟩
abbrev cJ2_length_9d52b : ByteArray := prog_16_method_6_code
def yJ2_length_9d52b : MethodName := ⟨RJ2, "length", "([B)I"⟩
abbrev cJ2_indexOf_4cfef : ByteArray := prog_16_method_40_code
def yJ2_indexOf_4cfef : MethodName := ⟨RJ2, "indexOf", "([BIII)I"⟩
abbrev cJ2_indexOfChar_4cfef : ByteArray := prog_16_method_47_code
def yJ2_indexOfChar_4cfef : MethodName := ⟨RJ2, "indexOfChar", "([BIII)I"⟩
abbrev cJ2_indexOfCharUnsafe_4cfef : ByteArray := prog_16_method_48_code
def yJ2_indexOfCharUnsafe_4cfef : MethodName := ⟨RJ2, "indexOfCharUnsafe", "([BIII)I"⟩
abbrev cJ2_indexOfSupplementary_4cfef : ByteArray := prog_16_method_49_code
def yJ2_indexOfSupplementary_4cfef : MethodName := ⟨RJ2, "indexOfSupplementary", "([BIII)I"⟩
abbrev cJ2_charAt_3b067 : ByteArray := prog_16_method_83_code
def yJ2_charAt_3b067 : MethodName := ⟨RJ2, "charAt", "([BI)C"⟩
abbrev cJ2_checkIndex_2214a : ByteArray := prog_16_method_91_code
def yJ2_checkIndex_2214a : MethodName := ⟨RJ2, "checkIndex", "(I[B)V"⟩
abbrev cJ2_checkBoundsBeginEnd_d044e : ByteArray := prog_16_method_93_code
def yJ2_checkBoundsBeginEnd_d044e : MethodName := ⟨RJ2, "checkBoundsBeginEnd", "(II[B)V"⟩
def RJ10 : String := "java/lang/System"
def RJ3 : String := "jdk/internal/util/Preconditions"
abbrev cJ3_checkIndex_8e157 : ByteArray := prog_18_method_11_code
def yJ3_checkIndex_8e157 : MethodName := ⟨RJ3, "checkIndex", "(IILjava/util/function/BiFunction;)I"⟩
abbrev cJ3_checkFromToIndex_8c36e : ByteArray := prog_18_method_12_code
def yJ3_checkFromToIndex_8c36e : MethodName := ⟨RJ3, "checkFromToIndex", "(IIILjava/util/function/BiFunction;)I"⟩
def RL : String := "SmokyHeapLaw"
abbrev cL_law : ByteArray := code
def yL_law : MethodName := ⟨RL, "law", "([I)Z"⟩
abbrev vwCl : List vw_C := [(RX0, TX0, 14), (RX1, TX1, 2), (RX2, TX2, 5), (RX3, TX3, 2), (RX4, TX4, 3), (RX5, TX5, 7), (RX6, TX6, 5), (RX7, TX7, 9), (RX8, TX8, 26)]
theorem mem_pl {big ws : List Cond} (ps : List Nat) (h : ws = ps.filterMap (fun i => big[i]?)) : ∀ w ∈ ws, w ∈ big := by
  intro w hw
  rw [h] at hw
  obtain ⟨i, -, hi⟩ := List.mem_filterMap.mp hw
  exact List.mem_of_getElem? hi
theorem inX0 : ∀ w ∈ wsX00, w ∈ lw_tbl := mem_pl [131, 133, 135, 137, 139, 141, 143, 145, 147, 149, 151, 153, 155, 157] (by decide +kernel)
theorem inX1 : ∀ w ∈ wsX10, w ∈ lw_tbl := mem_pl [197, 199] (by decide +kernel)
theorem inX2 : ∀ w ∈ wsX20, w ∈ lw_tbl := mem_pl [250, 252, 254, 256, 258] (by decide +kernel)
theorem inX3 : ∀ w ∈ wsX30, w ∈ lw_tbl := mem_pl [189, 191] (by decide +kernel)
theorem inX4 : ∀ w ∈ wsX40, w ∈ lw_tbl := mem_pl [300, 302, 304] (by decide +kernel)
theorem inX5 : ∀ w ∈ wsX50, w ∈ lw_tbl := mem_pl [218, 220, 222, 224, 226, 228, 230] (by decide +kernel)
theorem inX6 : ∀ w ∈ wsX60, w ∈ lw_tbl := mem_pl [277, 279, 281, 283, 285] (by decide +kernel)
theorem inX7 : ∀ w ∈ wsX70, w ∈ lw_tbl := mem_pl [316, 318, 320, 322, 324, 326, 328, 330, 332] (by decide +kernel)
theorem inX8 : ∀ w ∈ wsX80, w ∈ lw_tbl := mem_pl [939, 941, 943, 945, 947, 949, 951, 953, 955, 957, 959, 961, 963, 965, 967, 969, 971, 973, 975, 977, 979, 981, 983, 985, 987, 989] (by decide +kernel)
