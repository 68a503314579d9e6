section
-- ===== PART A: goes FIRST, ahead of the names: the tables' words, and 'selects' of the private methods out of them =====
/-- a private method of a class that the tables say can be made, by its rows of tables_1 -/
def lw_okq (q : MethodName × Nat) : Prop := (q.1.cls ≠ "java/lang/invoke/MethodHandle" ∧ q.1.cls ≠ "java/lang/invoke/VarHandle") ∧ Cond.instantiable q.1.cls q.2 ∈ tables_1 ∧ Cond.privateMethod q.1 ∈ tables_1 ∧ Cond.instanceMethod q.1 ∈ tables_1
theorem lw_p0 : lw_okq (⟨"CatDoors", "isAsking", "(I)Z"⟩, 10) := ⟨⟨by decide +kernel, by decide +kernel⟩, List.mem_of_getElem? (i := 17) (by decide +kernel), List.mem_of_getElem? (i := 239) (by decide +kernel), List.mem_of_getElem? (i := 240) (by decide +kernel)⟩
theorem lw_p1 : lw_okq (⟨"CatDoors", "risingsWithFlap", "(II)I"⟩, 10) := ⟨⟨by decide +kernel, by decide +kernel⟩, List.mem_of_getElem? (i := 17) (by decide +kernel), List.mem_of_getElem? (i := 433) (by decide +kernel), List.mem_of_getElem? (i := 434) (by decide +kernel)⟩
theorem lw_p2 : lw_okq (⟨"CatDoors", "sumDifferences", "(LCatDoors$Sheet;)V"⟩, 10) := ⟨⟨by decide +kernel, by decide +kernel⟩, List.mem_of_getElem? (i := 17) (by decide +kernel), List.mem_of_getElem? (i := 446) (by decide +kernel), List.mem_of_getElem? (i := 447) (by decide +kernel)⟩
theorem lw_p3 : lw_okq (⟨"CatDoors", "addDifferences", "(I)V"⟩, 10) := ⟨⟨by decide +kernel, by decide +kernel⟩, List.mem_of_getElem? (i := 17) (by decide +kernel), List.mem_of_getElem? (i := 459) (by decide +kernel), List.mem_of_getElem? (i := 460) (by decide +kernel)⟩
theorem lw_p4 : lw_okq (⟨"CatDoors$Tape", "advances", "()V"⟩, 9) := ⟨⟨by decide +kernel, by decide +kernel⟩, List.mem_of_getElem? (i := 106) (by decide +kernel), List.mem_of_getElem? (i := 496) (by decide +kernel), List.mem_of_getElem? (i := 497) (by decide +kernel)⟩
theorem lw_p5 : lw_okq (⟨"CatDoors$Tape", "sortAt", "(I)I"⟩, 9) := ⟨⟨by decide +kernel, by decide +kernel⟩, List.mem_of_getElem? (i := 106) (by decide +kernel), List.mem_of_getElem? (i := 500) (by decide +kernel), List.mem_of_getElem? (i := 501) (by decide +kernel)⟩
theorem lw_p6 : lw_okq (⟨"CatDoors$Tape", "readsKey", "()Z"⟩, 9) := ⟨⟨by decide +kernel, by decide +kernel⟩, List.mem_of_getElem? (i := 106) (by decide +kernel), List.mem_of_getElem? (i := 504) (by decide +kernel), List.mem_of_getElem? (i := 505) (by decide +kernel)⟩
theorem lw_p7 : lw_okq (⟨"CatDoors$Tape", "isWord", "(Ljava/lang/String;)Z"⟩, 9) := ⟨⟨by decide +kernel, by decide +kernel⟩, List.mem_of_getElem? (i := 106) (by decide +kernel), List.mem_of_getElem? (i := 509) (by decide +kernel), List.mem_of_getElem? (i := 510) (by decide +kernel)⟩
theorem lw_p8 : lw_okq (⟨"CatDoors$Tape", "readsLevel", "(III)Z"⟩, 9) := ⟨⟨by decide +kernel, by decide +kernel⟩, List.mem_of_getElem? (i := 106) (by decide +kernel), List.mem_of_getElem? (i := 563) (by decide +kernel), List.mem_of_getElem? (i := 564) (by decide +kernel)⟩
theorem lw_p9 : lw_okq (⟨"CatDoors$Tape", "readsPiece", "(II)Z"⟩, 9) := ⟨⟨by decide +kernel, by decide +kernel⟩, List.mem_of_getElem? (i := 106) (by decide +kernel), List.mem_of_getElem? (i := 567) (by decide +kernel), List.mem_of_getElem? (i := 568) (by decide +kernel)⟩
theorem lw_p10 : lw_okq (⟨"CatDoors$Tape", "readsLeaf", "()Z"⟩, 9) := ⟨⟨by decide +kernel, by decide +kernel⟩, List.mem_of_getElem? (i := 106) (by decide +kernel), List.mem_of_getElem? (i := 571) (by decide +kernel), List.mem_of_getElem? (i := 572) (by decide +kernel)⟩
theorem lw_p11 : lw_okq (⟨"CatDoors$Tape", "number", "()I"⟩, 9) := ⟨⟨by decide +kernel, by decide +kernel⟩, List.mem_of_getElem? (i := 106) (by decide +kernel), List.mem_of_getElem? (i := 575) (by decide +kernel), List.mem_of_getElem? (i := 576) (by decide +kernel)⟩
theorem lw_p12 : lw_okq (⟨"CatDoors$Tape", "name", "()I"⟩, 9) := ⟨⟨by decide +kernel, by decide +kernel⟩, List.mem_of_getElem? (i := 106) (by decide +kernel), List.mem_of_getElem? (i := 579) (by decide +kernel), List.mem_of_getElem? (i := 580) (by decide +kernel)⟩
theorem lw_p13 : lw_okq (⟨"CatDoors$Tape", "puts", "(I)V"⟩, 9) := ⟨⟨by decide +kernel, by decide +kernel⟩, List.mem_of_getElem? (i := 106) (by decide +kernel), List.mem_of_getElem? (i := 641) (by decide +kernel), List.mem_of_getElem? (i := 642) (by decide +kernel)⟩
theorem lw_p14 : lw_okq (⟨"CatDoors$Tape", "isSign", "(C)Z"⟩, 9) := ⟨⟨by decide +kernel, by decide +kernel⟩, List.mem_of_getElem? (i := 106) (by decide +kernel), List.mem_of_getElem? (i := 645) (by decide +kernel), List.mem_of_getElem? (i := 646) (by decide +kernel)⟩
theorem lw_p15 : lw_okq (⟨"CatDoors$Tape", "isSignOf", "(I)Z"⟩, 9) := ⟨⟨by decide +kernel, by decide +kernel⟩, List.mem_of_getElem? (i := 106) (by decide +kernel), List.mem_of_getElem? (i := 649) (by decide +kernel), List.mem_of_getElem? (i := 650) (by decide +kernel)⟩
def lw_privs_1 : List (MethodName × Nat) := [(⟨"CatDoors", "isAsking", "(I)Z"⟩, 10), (⟨"CatDoors", "risingsWithFlap", "(II)I"⟩, 10), (⟨"CatDoors", "sumDifferences", "(LCatDoors$Sheet;)V"⟩, 10), (⟨"CatDoors", "addDifferences", "(I)V"⟩, 10), (⟨"CatDoors$Tape", "advances", "()V"⟩, 9), (⟨"CatDoors$Tape", "sortAt", "(I)I"⟩, 9), (⟨"CatDoors$Tape", "readsKey", "()Z"⟩, 9), (⟨"CatDoors$Tape", "isWord", "(Ljava/lang/String;)Z"⟩, 9), (⟨"CatDoors$Tape", "readsLevel", "(III)Z"⟩, 9), (⟨"CatDoors$Tape", "readsPiece", "(II)Z"⟩, 9), (⟨"CatDoors$Tape", "readsLeaf", "()Z"⟩, 9), (⟨"CatDoors$Tape", "number", "()I"⟩, 9), (⟨"CatDoors$Tape", "name", "()I"⟩, 9), (⟨"CatDoors$Tape", "puts", "(I)V"⟩, 9), (⟨"CatDoors$Tape", "isSign", "(C)Z"⟩, 9), (⟨"CatDoors$Tape", "isSignOf", "(I)Z"⟩, 9)]
theorem lw_r1 : ∀ q ∈ lw_privs_1, lw_okq q := List.forall_mem_cons.mpr ⟨lw_p0, List.forall_mem_cons.mpr ⟨lw_p1, List.forall_mem_cons.mpr ⟨lw_p2, List.forall_mem_cons.mpr ⟨lw_p3, List.forall_mem_cons.mpr ⟨lw_p4, List.forall_mem_cons.mpr ⟨lw_p5, List.forall_mem_cons.mpr ⟨lw_p6, List.forall_mem_cons.mpr ⟨lw_p7, List.forall_mem_cons.mpr ⟨lw_p8, List.forall_mem_cons.mpr ⟨lw_p9, List.forall_mem_cons.mpr ⟨lw_p10, List.forall_mem_cons.mpr ⟨lw_p11, List.forall_mem_cons.mpr ⟨lw_p12, List.forall_mem_cons.mpr ⟨lw_p13, List.forall_mem_cons.mpr ⟨lw_p14, List.forall_mem_cons.mpr ⟨lw_p15, fun _ h => absurd h List.not_mem_nil⟩⟩⟩⟩⟩⟩⟩⟩⟩⟩⟩⟩⟩⟩⟩⟩
theorem lw_p16 : lw_okq (⟨"CatDoorsModel", "comes", "(IIII)I"⟩, 33) := ⟨⟨by decide +kernel, by decide +kernel⟩, List.mem_of_getElem? (i := 772) (by decide +kernel), List.mem_of_getElem? (i := 892) (by decide +kernel), List.mem_of_getElem? (i := 893) (by decide +kernel)⟩
theorem lw_p17 : lw_okq (⟨"CatDoorsModel", "put", "(III)V"⟩, 33) := ⟨⟨by decide +kernel, by decide +kernel⟩, List.mem_of_getElem? (i := 772) (by decide +kernel), List.mem_of_getElem? (i := 896) (by decide +kernel), List.mem_of_getElem? (i := 897) (by decide +kernel)⟩
theorem lw_p18 : lw_okq (⟨"CatDoorsModel", "isAsking", "(I)Z"⟩, 33) := ⟨⟨by decide +kernel, by decide +kernel⟩, List.mem_of_getElem? (i := 772) (by decide +kernel), List.mem_of_getElem? (i := 904) (by decide +kernel), List.mem_of_getElem? (i := 905) (by decide +kernel)⟩
theorem lw_p19 : lw_okq (⟨"CatDoorsModel", "of", "(II)I"⟩, 33) := ⟨⟨by decide +kernel, by decide +kernel⟩, List.mem_of_getElem? (i := 772) (by decide +kernel), List.mem_of_getElem? (i := 908) (by decide +kernel), List.mem_of_getElem? (i := 909) (by decide +kernel)⟩
theorem lw_p20 : lw_okq (⟨"CatDoorsModel", "pressesOf", "(I)I"⟩, 33) := ⟨⟨by decide +kernel, by decide +kernel⟩, List.mem_of_getElem? (i := 772) (by decide +kernel), List.mem_of_getElem? (i := 912) (by decide +kernel), List.mem_of_getElem? (i := 913) (by decide +kernel)⟩
theorem lw_p21 : lw_okq (⟨"CatDoorsModel", "counts", "(I)I"⟩, 33) := ⟨⟨by decide +kernel, by decide +kernel⟩, List.mem_of_getElem? (i := 772) (by decide +kernel), List.mem_of_getElem? (i := 916) (by decide +kernel), List.mem_of_getElem? (i := 917) (by decide +kernel)⟩
theorem lw_p22 : lw_okq (⟨"CatDoorsModel", "worksOut", "(I)I"⟩, 33) := ⟨⟨by decide +kernel, by decide +kernel⟩, List.mem_of_getElem? (i := 772) (by decide +kernel), List.mem_of_getElem? (i := 920) (by decide +kernel), List.mem_of_getElem? (i := 921) (by decide +kernel)⟩
theorem lw_p23 : lw_okq (⟨"CatDoorsModel", "learnsOf", "(I)I"⟩, 33) := ⟨⟨by decide +kernel, by decide +kernel⟩, List.mem_of_getElem? (i := 772) (by decide +kernel), List.mem_of_getElem? (i := 930) (by decide +kernel), List.mem_of_getElem? (i := 931) (by decide +kernel)⟩
theorem lw_p24 : lw_okq (⟨"CatDoorsModel", "forgetsOf", "(I)I"⟩, 33) := ⟨⟨by decide +kernel, by decide +kernel⟩, List.mem_of_getElem? (i := 772) (by decide +kernel), List.mem_of_getElem? (i := 934) (by decide +kernel), List.mem_of_getElem? (i := 935) (by decide +kernel)⟩
theorem lw_p25 : lw_okq (⟨"CatDoorsModel", "scratchesOf", "(I)I"⟩, 33) := ⟨⟨by decide +kernel, by decide +kernel⟩, List.mem_of_getElem? (i := 772) (by decide +kernel), List.mem_of_getElem? (i := 938) (by decide +kernel), List.mem_of_getElem? (i := 939) (by decide +kernel)⟩
theorem lw_p26 : lw_okq (⟨"CatDoorsModel", "meantBy", "(I)I"⟩, 33) := ⟨⟨by decide +kernel, by decide +kernel⟩, List.mem_of_getElem? (i := 772) (by decide +kernel), List.mem_of_getElem? (i := 942) (by decide +kernel), List.mem_of_getElem? (i := 943) (by decide +kernel)⟩
theorem lw_p27 : lw_okq (⟨"CatDoorsModel", "worthOf", "(I)I"⟩, 33) := ⟨⟨by decide +kernel, by decide +kernel⟩, List.mem_of_getElem? (i := 772) (by decide +kernel), List.mem_of_getElem? (i := 946) (by decide +kernel), List.mem_of_getElem? (i := 947) (by decide +kernel)⟩
theorem lw_p28 : lw_okq (⟨"CatDoorsModel", "becomes", "(II)I"⟩, 33) := ⟨⟨by decide +kernel, by decide +kernel⟩, List.mem_of_getElem? (i := 772) (by decide +kernel), List.mem_of_getElem? (i := 962) (by decide +kernel), List.mem_of_getElem? (i := 963) (by decide +kernel)⟩
theorem lw_p29 : lw_okq (⟨"CatDoorsModel", "rises", "(I)I"⟩, 33) := ⟨⟨by decide +kernel, by decide +kernel⟩, List.mem_of_getElem? (i := 772) (by decide +kernel), List.mem_of_getElem? (i := 978) (by decide +kernel), List.mem_of_getElem? (i := 979) (by decide +kernel)⟩
theorem lw_p30 : lw_okq (⟨"CatDoorsModel", "learns", "(I)V"⟩, 33) := ⟨⟨by decide +kernel, by decide +kernel⟩, List.mem_of_getElem? (i := 772) (by decide +kernel), List.mem_of_getElem? (i := 982) (by decide +kernel), List.mem_of_getElem? (i := 983) (by decide +kernel)⟩
theorem lw_p31 : lw_okq (⟨"CatDoorsModel", "goesAsMeant", "(I)I"⟩, 33) := ⟨⟨by decide +kernel, by decide +kernel⟩, List.mem_of_getElem? (i := 772) (by decide +kernel), List.mem_of_getElem? (i := 986) (by decide +kernel), List.mem_of_getElem? (i := 987) (by decide +kernel)⟩
def lw_privs_2 : List (MethodName × Nat) := [(⟨"CatDoorsModel", "comes", "(IIII)I"⟩, 33), (⟨"CatDoorsModel", "put", "(III)V"⟩, 33), (⟨"CatDoorsModel", "isAsking", "(I)Z"⟩, 33), (⟨"CatDoorsModel", "of", "(II)I"⟩, 33), (⟨"CatDoorsModel", "pressesOf", "(I)I"⟩, 33), (⟨"CatDoorsModel", "counts", "(I)I"⟩, 33), (⟨"CatDoorsModel", "worksOut", "(I)I"⟩, 33), (⟨"CatDoorsModel", "learnsOf", "(I)I"⟩, 33), (⟨"CatDoorsModel", "forgetsOf", "(I)I"⟩, 33), (⟨"CatDoorsModel", "scratchesOf", "(I)I"⟩, 33), (⟨"CatDoorsModel", "meantBy", "(I)I"⟩, 33), (⟨"CatDoorsModel", "worthOf", "(I)I"⟩, 33), (⟨"CatDoorsModel", "becomes", "(II)I"⟩, 33), (⟨"CatDoorsModel", "rises", "(I)I"⟩, 33), (⟨"CatDoorsModel", "learns", "(I)V"⟩, 33), (⟨"CatDoorsModel", "goesAsMeant", "(I)I"⟩, 33)]
theorem lw_r2 : ∀ q ∈ lw_privs_2, lw_okq q := List.forall_mem_cons.mpr ⟨lw_p16, List.forall_mem_cons.mpr ⟨lw_p17, List.forall_mem_cons.mpr ⟨lw_p18, List.forall_mem_cons.mpr ⟨lw_p19, List.forall_mem_cons.mpr ⟨lw_p20, List.forall_mem_cons.mpr ⟨lw_p21, List.forall_mem_cons.mpr ⟨lw_p22, List.forall_mem_cons.mpr ⟨lw_p23, List.forall_mem_cons.mpr ⟨lw_p24, List.forall_mem_cons.mpr ⟨lw_p25, List.forall_mem_cons.mpr ⟨lw_p26, List.forall_mem_cons.mpr ⟨lw_p27, List.forall_mem_cons.mpr ⟨lw_p28, List.forall_mem_cons.mpr ⟨lw_p29, List.forall_mem_cons.mpr ⟨lw_p30, List.forall_mem_cons.mpr ⟨lw_p31, fun _ h => absurd h List.not_mem_nil⟩⟩⟩⟩⟩⟩⟩⟩⟩⟩⟩⟩⟩⟩⟩⟩
theorem lw_p32 : lw_okq (⟨"CatDoorsModel", "draw", "()I"⟩, 33) := ⟨⟨by decide +kernel, by decide +kernel⟩, List.mem_of_getElem? (i := 772) (by decide +kernel), List.mem_of_getElem? (i := 990) (by decide +kernel), List.mem_of_getElem? (i := 991) (by decide +kernel)⟩
theorem lw_p33 : lw_okq (⟨"CatDoorsModel", "goes", "()I"⟩, 33) := ⟨⟨by decide +kernel, by decide +kernel⟩, List.mem_of_getElem? (i := 772) (by decide +kernel), List.mem_of_getElem? (i := 995) (by decide +kernel), List.mem_of_getElem? (i := 996) (by decide +kernel)⟩
theorem lw_p34 : lw_okq (⟨"CatDoorsModel", "goesOn", "(I)V"⟩, 33) := ⟨⟨by decide +kernel, by decide +kernel⟩, List.mem_of_getElem? (i := 772) (by decide +kernel), List.mem_of_getElem? (i := 1011) (by decide +kernel), List.mem_of_getElem? (i := 1012) (by decide +kernel)⟩
theorem lw_p35 : lw_okq (⟨"CatDoorsModel", "hour", "()V"⟩, 33) := ⟨⟨by decide +kernel, by decide +kernel⟩, List.mem_of_getElem? (i := 772) (by decide +kernel), List.mem_of_getElem? (i := 1015) (by decide +kernel), List.mem_of_getElem? (i := 1016) (by decide +kernel)⟩
theorem lw_p36 : lw_okq (⟨"CatDoorsModel", "asks", "(I)V"⟩, 33) := ⟨⟨by decide +kernel, by decide +kernel⟩, List.mem_of_getElem? (i := 772) (by decide +kernel), List.mem_of_getElem? (i := 1019) (by decide +kernel), List.mem_of_getElem? (i := 1020) (by decide +kernel)⟩
theorem lw_p37 : lw_okq (⟨"CatDoorsModel", "habits", "()I"⟩, 33) := ⟨⟨by decide +kernel, by decide +kernel⟩, List.mem_of_getElem? (i := 772) (by decide +kernel), List.mem_of_getElem? (i := 1027) (by decide +kernel), List.mem_of_getElem? (i := 1028) (by decide +kernel)⟩
theorem lw_p38 : lw_okq (⟨"CatDoorsModel", "nextOnes", "()I"⟩, 33) := ⟨⟨by decide +kernel, by decide +kernel⟩, List.mem_of_getElem? (i := 772) (by decide +kernel), List.mem_of_getElem? (i := 1031) (by decide +kernel), List.mem_of_getElem? (i := 1032) (by decide +kernel)⟩
theorem lw_p39 : lw_okq (⟨"CatDoorsModel", "thinks", "()V"⟩, 33) := ⟨⟨by decide +kernel, by decide +kernel⟩, List.mem_of_getElem? (i := 772) (by decide +kernel), List.mem_of_getElem? (i := 1039) (by decide +kernel), List.mem_of_getElem? (i := 1040) (by decide +kernel)⟩
theorem lw_p40 : lw_okq (⟨"CatDoorsModel", "putsBack", "()V"⟩, 33) := ⟨⟨by decide +kernel, by decide +kernel⟩, List.mem_of_getElem? (i := 772) (by decide +kernel), List.mem_of_getElem? (i := 1043) (by decide +kernel), List.mem_of_getElem? (i := 1044) (by decide +kernel)⟩
theorem lw_p41 : lw_okq (⟨"CatDoorsModel", "habitsBehind", "(I)I"⟩, 33) := ⟨⟨by decide +kernel, by decide +kernel⟩, List.mem_of_getElem? (i := 772) (by decide +kernel), List.mem_of_getElem? (i := 1056) (by decide +kernel), List.mem_of_getElem? (i := 1057) (by decide +kernel)⟩
theorem lw_p42 : lw_okq (⟨"CatDoorsModel", "risingsBehind", "(I)I"⟩, 33) := ⟨⟨by decide +kernel, by decide +kernel⟩, List.mem_of_getElem? (i := 772) (by decide +kernel), List.mem_of_getElem? (i := 1068) (by decide +kernel), List.mem_of_getElem? (i := 1069) (by decide +kernel)⟩
theorem lw_p43 : lw_okq (⟨"CatDoorsModel", "offBy", "(II)J"⟩, 33) := ⟨⟨by decide +kernel, by decide +kernel⟩, List.mem_of_getElem? (i := 772) (by decide +kernel), List.mem_of_getElem? (i := 1088) (by decide +kernel), List.mem_of_getElem? (i := 1089) (by decide +kernel)⟩
theorem lw_p44 : lw_okq (⟨"CatDoorsModel", "go", "()V"⟩, 33) := ⟨⟨by decide +kernel, by decide +kernel⟩, List.mem_of_getElem? (i := 772) (by decide +kernel), List.mem_of_getElem? (i := 1112) (by decide +kernel), List.mem_of_getElem? (i := 1113) (by decide +kernel)⟩
theorem lw_p45 : lw_okq (⟨"CatDoorsModel", "isLetter", "(I)Z"⟩, 33) := ⟨⟨by decide +kernel, by decide +kernel⟩, List.mem_of_getElem? (i := 772) (by decide +kernel), List.mem_of_getElem? (i := 1116) (by decide +kernel), List.mem_of_getElem? (i := 1117) (by decide +kernel)⟩
theorem lw_p46 : lw_okq (⟨"CatDoorsModel", "isFigure", "(I)Z"⟩, 33) := ⟨⟨by decide +kernel, by decide +kernel⟩, List.mem_of_getElem? (i := 772) (by decide +kernel), List.mem_of_getElem? (i := 1120) (by decide +kernel), List.mem_of_getElem? (i := 1121) (by decide +kernel)⟩
theorem lw_p47 : lw_okq (⟨"CatDoorsModel", "takesKey", "()Z"⟩, 33) := ⟨⟨by decide +kernel, by decide +kernel⟩, List.mem_of_getElem? (i := 772) (by decide +kernel), List.mem_of_getElem? (i := 1124) (by decide +kernel), List.mem_of_getElem? (i := 1125) (by decide +kernel)⟩
def lw_privs_3 : List (MethodName × Nat) := [(⟨"CatDoorsModel", "draw", "()I"⟩, 33), (⟨"CatDoorsModel", "goes", "()I"⟩, 33), (⟨"CatDoorsModel", "goesOn", "(I)V"⟩, 33), (⟨"CatDoorsModel", "hour", "()V"⟩, 33), (⟨"CatDoorsModel", "asks", "(I)V"⟩, 33), (⟨"CatDoorsModel", "habits", "()I"⟩, 33), (⟨"CatDoorsModel", "nextOnes", "()I"⟩, 33), (⟨"CatDoorsModel", "thinks", "()V"⟩, 33), (⟨"CatDoorsModel", "putsBack", "()V"⟩, 33), (⟨"CatDoorsModel", "habitsBehind", "(I)I"⟩, 33), (⟨"CatDoorsModel", "risingsBehind", "(I)I"⟩, 33), (⟨"CatDoorsModel", "offBy", "(II)J"⟩, 33), (⟨"CatDoorsModel", "go", "()V"⟩, 33), (⟨"CatDoorsModel", "isLetter", "(I)Z"⟩, 33), (⟨"CatDoorsModel", "isFigure", "(I)Z"⟩, 33), (⟨"CatDoorsModel", "takesKey", "()Z"⟩, 33)]
theorem lw_r3 : ∀ q ∈ lw_privs_3, lw_okq q := List.forall_mem_cons.mpr ⟨lw_p32, List.forall_mem_cons.mpr ⟨lw_p33, List.forall_mem_cons.mpr ⟨lw_p34, List.forall_mem_cons.mpr ⟨lw_p35, List.forall_mem_cons.mpr ⟨lw_p36, List.forall_mem_cons.mpr ⟨lw_p37, List.forall_mem_cons.mpr ⟨lw_p38, List.forall_mem_cons.mpr ⟨lw_p39, List.forall_mem_cons.mpr ⟨lw_p40, List.forall_mem_cons.mpr ⟨lw_p41, List.forall_mem_cons.mpr ⟨lw_p42, List.forall_mem_cons.mpr ⟨lw_p43, List.forall_mem_cons.mpr ⟨lw_p44, List.forall_mem_cons.mpr ⟨lw_p45, List.forall_mem_cons.mpr ⟨lw_p46, List.forall_mem_cons.mpr ⟨lw_p47, fun _ h => absurd h List.not_mem_nil⟩⟩⟩⟩⟩⟩⟩⟩⟩⟩⟩⟩⟩⟩⟩⟩
theorem lw_p48 : lw_okq (⟨"CatDoorsModel", "takesE", "()Z"⟩, 33) := ⟨⟨by decide +kernel, by decide +kernel⟩, List.mem_of_getElem? (i := 772) (by decide +kernel), List.mem_of_getElem? (i := 1128) (by decide +kernel), List.mem_of_getElem? (i := 1129) (by decide +kernel)⟩
theorem lw_p49 : lw_okq (⟨"CatDoorsModel", "takesPart", "()Z"⟩, 33) := ⟨⟨by decide +kernel, by decide +kernel⟩, List.mem_of_getElem? (i := 772) (by decide +kernel), List.mem_of_getElem? (i := 1132) (by decide +kernel), List.mem_of_getElem? (i := 1133) (by decide +kernel)⟩
theorem lw_p50 : lw_okq (⟨"CatDoorsModel", "nameOf", "(I)I"⟩, 33) := ⟨⟨by decide +kernel, by decide +kernel⟩, List.mem_of_getElem? (i := 772) (by decide +kernel), List.mem_of_getElem? (i := 1136) (by decide +kernel), List.mem_of_getElem? (i := 1137) (by decide +kernel)⟩
theorem lw_p51 : lw_okq (⟨"CatDoorsModel", "settle", "(I)V"⟩, 33) := ⟨⟨by decide +kernel, by decide +kernel⟩, List.mem_of_getElem? (i := 772) (by decide +kernel), List.mem_of_getElem? (i := 1140) (by decide +kernel), List.mem_of_getElem? (i := 1141) (by decide +kernel)⟩
theorem lw_p52 : lw_okq (⟨"CatDoorsModel", "notsOpen", "()I"⟩, 33) := ⟨⟨by decide +kernel, by decide +kernel⟩, List.mem_of_getElem? (i := 772) (by decide +kernel), List.mem_of_getElem? (i := 1147) (by decide +kernel), List.mem_of_getElem? (i := 1148) (by decide +kernel)⟩
theorem lw_p53 : lw_okq (⟨"CatDoorsModel", "signHere", "()I"⟩, 33) := ⟨⟨by decide +kernel, by decide +kernel⟩, List.mem_of_getElem? (i := 772) (by decide +kernel), List.mem_of_getElem? (i := 1151) (by decide +kernel), List.mem_of_getElem? (i := 1152) (by decide +kernel)⟩
def lw_privs_4 : List (MethodName × Nat) := [(⟨"CatDoorsModel", "takesE", "()Z"⟩, 33), (⟨"CatDoorsModel", "takesPart", "()Z"⟩, 33), (⟨"CatDoorsModel", "nameOf", "(I)I"⟩, 33), (⟨"CatDoorsModel", "settle", "(I)V"⟩, 33), (⟨"CatDoorsModel", "notsOpen", "()I"⟩, 33), (⟨"CatDoorsModel", "signHere", "()I"⟩, 33)]
theorem lw_r4 : ∀ q ∈ lw_privs_4, lw_okq q := List.forall_mem_cons.mpr ⟨lw_p48, List.forall_mem_cons.mpr ⟨lw_p49, List.forall_mem_cons.mpr ⟨lw_p50, List.forall_mem_cons.mpr ⟨lw_p51, List.forall_mem_cons.mpr ⟨lw_p52, List.forall_mem_cons.mpr ⟨lw_p53, fun _ h => absurd h List.not_mem_nil⟩⟩⟩⟩⟩⟩
def lw_privs : List (MethodName × Nat) := lw_privs_1 ++ (lw_privs_2 ++ (lw_privs_3 ++ (lw_privs_4)))
def lw_tbl : List Cond := k2_sels lw_privs ++ tables_1
theorem lw_privs_ok : ∀ q ∈ lw_privs, lw_okq q := by
  show ∀ q ∈ lw_privs_1 ++ (lw_privs_2 ++ (lw_privs_3 ++ (lw_privs_4))), lw_okq q
  exact List.forall_mem_append.mpr ⟨lw_r1, List.forall_mem_append.mpr ⟨lw_r2, List.forall_mem_append.mpr ⟨lw_r3, lw_r4⟩⟩⟩
end
section
/-! The program logic of this claim: the memory as ints by cell and place, shapes and references by cell; the machine's judgement W over it. -/
abbrev cd_XT : Type := Program × Launch × Env × Room × State × MethodId × Array Value × List Frame × Method × Code × (State → Prop)
/-- base address, heap below it, class numbers and slots, array classes, static arrays, String constants and their byte arrays -/
abbrev cd_WT : Type := Nat × Heap × va_G × (Nat → ClassId) × (Nat → Nat) × (Nat → Nat) × (Nat → Nat)
/-- number of cells from the base on, shapes, references -/
abbrev cd_Sp : Type := Nat × (Nat → Nat × Nat) × (Nat → Nat → Option Nat)
abbrev cd_Mem : Type := Nat → Nat → Int32
abbrev cd_Pt : Type := Option Value → cd_Sp → cd_Mem → Prop
/-- the words that a call hands on -/
def cd_ws : List Cond := lw_tbl.filter goodWord
/-- classes -/
def cd_R0 : String := "CatDoors$Asking"
def cd_R1 : String := "CatDoors$House"
def cd_R2 : String := "CatDoors$Sheet"
def cd_R3 : String := "CatDoors$Slot"
def cd_R4 : String := "CatDoors$Tape"
def cd_R5 : String := "CatDoors$Text"
def cd_R6 : String := "CatDoors"
def cd_R7 : String := "CatDoorsModel"
def cd_T0 : u_T := fun k => match k with
  | 0 => ("CatDoors$Asking", "kind", "I", false)
  | 1 => ("CatDoors$Asking", "hour", "I", false)
  | 2 => ("CatDoors$Asking", "habit", "I", false)
  | 3 => ("CatDoors$Asking", "means", "I", false)
  | _ => ("CatDoors$Asking", "worked", "I", false)
def cd_t0 : Nat → FieldType := fun k => match k with
  | 0 => .int
  | 1 => .int
  | 2 => .int
  | 3 => .int
  | _ => .int
theorem cd_nm0 : ∀ a, a < 5 → ∀ b, b < 5 → a ≠ b → (cd_T0 a).2.1 ≠ (cd_T0 b).2.1 := by decide +kernel
theorem cd_ty0 : ∀ k, k < 5 → parseFieldDescriptor (cd_T0 k).2.2.1 = some (cd_t0 k) := by decide +kernel
theorem cd_in0 : ∀ q ∈ u_ws cd_R0 cd_T0 5, q ∈ cd_ws := by decide +kernel
def cd_T1 : u_T := fun k => match k with
  | 0 => ("CatDoors$House", "rules", "[I", true)
  | 1 => ("CatDoors$House", "tallies", "[I", true)
  | 2 => ("CatDoors$House", "askings", "[LCatDoors$Asking;", true)
  | 3 => ("CatDoors$House", "many", "I", false)
  | 4 => ("CatDoors$House", "hour", "I", false)
  | 5 => ("CatDoors$House", "z", "I", false)
  | 6 => ("CatDoors$House", "texts", "[LCatDoors$Text;", true)
  | 7 => ("CatDoors$House", "textCount", "I", false)
  | _ => ("CatDoors$House", "counting", "[I", true)
def cd_t1 : Nat → FieldType := fun k => match k with
  | 0 => .array .int
  | 1 => .array .int
  | 2 => .array (.object "CatDoors$Asking")
  | 3 => .int
  | 4 => .int
  | 5 => .int
  | 6 => .array (.object "CatDoors$Text")
  | 7 => .int
  | _ => .array .int
theorem cd_nm1 : ∀ a, a < 9 → ∀ b, b < 9 → a ≠ b → (cd_T1 a).2.1 ≠ (cd_T1 b).2.1 := by decide +kernel
theorem cd_ty1 : ∀ k, k < 9 → parseFieldDescriptor (cd_T1 k).2.2.1 = some (cd_t1 k) := by decide +kernel
theorem cd_in1 : ∀ q ∈ u_ws cd_R1 cd_T1 9, q ∈ cd_ws := by decide +kernel
def cd_T2 : u_T := fun k => match k with
  | 0 => ("CatDoors$Sheet", "sort", "I", false)
  | 1 => ("CatDoors$Sheet", "size", "I", false)
  | _ => ("CatDoors$Sheet", "places", "[I", true)
def cd_t2 : Nat → FieldType := fun k => match k with
  | 0 => .int
  | 1 => .int
  | _ => .array .int
theorem cd_nm2 : ∀ a, a < 3 → ∀ b, b < 3 → a ≠ b → (cd_T2 a).2.1 ≠ (cd_T2 b).2.1 := by decide +kernel
theorem cd_ty2 : ∀ k, k < 3 → parseFieldDescriptor (cd_T2 k).2.2.1 = some (cd_t2 k) := by decide +kernel
theorem cd_in2 : ∀ q ∈ u_ws cd_R2 cd_T2 3, q ∈ cd_ws := by decide +kernel
def cd_T3 : u_T := fun k => match k with
  | 0 => ("CatDoors$Slot", "thing", "I", false)
  | 1 => ("CatDoors$Slot", "number", "I", false)
  | 2 => ("CatDoors$Slot", "asking", "LCatDoors$Asking;", true)
  | _ => ("CatDoors$Slot", "sheet", "LCatDoors$Sheet;", true)
def cd_t3 : Nat → FieldType := fun k => match k with
  | 0 => .int
  | 1 => .int
  | 2 => .object "CatDoors$Asking"
  | _ => .object "CatDoors$Sheet"
theorem cd_nm3 : ∀ a, a < 4 → ∀ b, b < 4 → a ≠ b → (cd_T3 a).2.1 ≠ (cd_T3 b).2.1 := by decide +kernel
theorem cd_ty3 : ∀ k, k < 4 → parseFieldDescriptor (cd_T3 k).2.2.1 = some (cd_t3 k) := by decide +kernel
theorem cd_in3 : ∀ q ∈ u_ws cd_R3 cd_T3 4, q ∈ cd_ws := by decide +kernel
def cd_T4 : u_T := fun k => match k with
  | 0 => ("CatDoors$Tape", "length", "I", false)
  | 1 => ("CatDoors$Tape", "start", "I", false)
  | 2 => ("CatDoors$Tape", "end", "I", false)
  | 3 => ("CatDoors$Tape", "sort", "I", false)
  | 4 => ("CatDoors$Tape", "key", "I", false)
  | 5 => ("CatDoors$Tape", "leaves", "I", false)
  | 6 => ("CatDoors$Tape", "used", "I", false)
  | 7 => ("CatDoors$Tape", "bytes", "[B", true)
  | _ => ("CatDoors$Tape", "codes", "[I", true)
def cd_t4 : Nat → FieldType := fun k => match k with
  | 0 => .int
  | 1 => .int
  | 2 => .int
  | 3 => .int
  | 4 => .int
  | 5 => .int
  | 6 => .int
  | 7 => .array .byte
  | _ => .array .int
theorem cd_nm4 : ∀ a, a < 9 → ∀ b, b < 9 → a ≠ b → (cd_T4 a).2.1 ≠ (cd_T4 b).2.1 := by decide +kernel
theorem cd_ty4 : ∀ k, k < 9 → parseFieldDescriptor (cd_T4 k).2.2.1 = some (cd_t4 k) := by decide +kernel
theorem cd_in4 : ∀ q ∈ u_ws cd_R4 cd_T4 9, q ∈ cd_ws := by decide +kernel
def cd_T5 : u_T := fun k => match k with
  | 0 => ("CatDoors$Text", "key", "I", true)
  | 1 => ("CatDoors$Text", "leaves", "I", true)
  | 2 => ("CatDoors$Text", "codes", "[I", true)
  | _ => ("CatDoors$Text", "stack", "[I", true)
def cd_t5 : Nat → FieldType := fun k => match k with
  | 0 => .int
  | 1 => .int
  | 2 => .array .int
  | _ => .array .int
theorem cd_nm5 : ∀ a, a < 4 → ∀ b, b < 4 → a ≠ b → (cd_T5 a).2.1 ≠ (cd_T5 b).2.1 := by decide +kernel
theorem cd_ty5 : ∀ k, k < 4 → parseFieldDescriptor (cd_T5 k).2.2.1 = some (cd_t5 k) := by decide +kernel
theorem cd_in5 : ∀ q ∈ u_ws cd_R5 cd_T5 4, q ∈ cd_ws := by decide +kernel
def cd_T6 : u_T := fun k => match k with
  | 0 => ("CatDoors", "now", "LCatDoors$House;", true)
  | 1 => ("CatDoors", "thought", "LCatDoors$House;", true)
  | 2 => ("CatDoors", "image", "LCatDoors$House;", true)
  | 3 => ("CatDoors", "kept", "Z", false)
  | 4 => ("CatDoors", "tape", "LCatDoors$Tape;", true)
  | 5 => ("CatDoors", "sheets", "[LCatDoors$Sheet;", true)
  | 6 => ("CatDoors", "slots", "[LCatDoors$Slot;", true)
  | 7 => ("CatDoors", "waiting", "[I", true)
  | 8 => ("CatDoors", "waits", "I", false)
  | _ => ("CatDoors", "differences", "[I", true)
def cd_t6 : Nat → FieldType := fun k => match k with
  | 0 => .object "CatDoors$House"
  | 1 => .object "CatDoors$House"
  | 2 => .object "CatDoors$House"
  | 3 => .boolean
  | 4 => .object "CatDoors$Tape"
  | 5 => .array (.object "CatDoors$Sheet")
  | 6 => .array (.object "CatDoors$Slot")
  | 7 => .array .int
  | 8 => .int
  | _ => .array .int
theorem cd_nm6 : ∀ a, a < 10 → ∀ b, b < 10 → a ≠ b → (cd_T6 a).2.1 ≠ (cd_T6 b).2.1 := by decide +kernel
theorem cd_ty6 : ∀ k, k < 10 → parseFieldDescriptor (cd_T6 k).2.2.1 = some (cd_t6 k) := by decide +kernel
theorem cd_in6 : ∀ q ∈ u_ws cd_R6 cd_T6 10, q ∈ cd_ws := by decide +kernel
def cd_T7 : u_T := fun k => match k with
  | 0 => ("CatDoorsModel", "now", "[I", true)
  | 1 => ("CatDoorsModel", "image", "[I", true)
  | 2 => ("CatDoorsModel", "aside", "[I", true)
  | 3 => ("CatDoorsModel", "hasImage", "Z", false)
  | 4 => ("CatDoorsModel", "before", "[I", true)
  | 5 => ("CatDoorsModel", "tape", "[I", true)
  | 6 => ("CatDoorsModel", "taped", "I", false)
  | 7 => ("CatDoorsModel", "next", "I", false)
  | 8 => ("CatDoorsModel", "from", "I", false)
  | 9 => ("CatDoorsModel", "token", "I", false)
  | 10 => ("CatDoorsModel", "value", "I", false)
  | 11 => ("CatDoorsModel", "ended", "I", false)
  | 12 => ("CatDoorsModel", "key", "I", false)
  | 13 => ("CatDoorsModel", "keys", "[C", true)
  | 14 => ("CatDoorsModel", "keyAt", "[I", true)
  | 15 => ("CatDoorsModel", "code", "[I", true)
  | 16 => ("CatDoorsModel", "codes", "I", false)
  | 17 => ("CatDoorsModel", "atoms", "I", false)
  | 18 => ("CatDoorsModel", "waits", "[I", true)
  | 19 => ("CatDoorsModel", "held", "I", false)
  | 20 => ("CatDoorsModel", "tested", "[Z", true)
  | 21 => ("CatDoorsModel", "stack", "[I", true)
  | 22 => ("CatDoorsModel", "facts", "[I", true)
  | 23 => ("CatDoorsModel", "sorts", "[I", true)
  | 24 => ("CatDoorsModel", "sizes", "[I", true)
  | 25 => ("CatDoorsModel", "cells", "[I", true)
  | 26 => ("CatDoorsModel", "holds", "[I", true)
  | 27 => ("CatDoorsModel", "holdsA", "[I", true)
  | 28 => ("CatDoorsModel", "holdsB", "[I", true)
  | 29 => ("CatDoorsModel", "heldCells", "[I", true)
  | 30 => ("CatDoorsModel", "moved", "[I", true)
  | 31 => ("CatDoorsModel", "tells", "[I", true)
  | _ => ("CatDoorsModel", "waiting", "I", false)
def cd_t7 : Nat → FieldType := fun k => match k with
  | 0 => .array .int
  | 1 => .array .int
  | 2 => .array .int
  | 3 => .boolean
  | 4 => .array .int
  | 5 => .array .int
  | 6 => .int
  | 7 => .int
  | 8 => .int
  | 9 => .int
  | 10 => .int
  | 11 => .int
  | 12 => .int
  | 13 => .array .char
  | 14 => .array .int
  | 15 => .array .int
  | 16 => .int
  | 17 => .int
  | 18 => .array .int
  | 19 => .int
  | 20 => .array .boolean
  | 21 => .array .int
  | 22 => .array .int
  | 23 => .array .int
  | 24 => .array .int
  | 25 => .array .int
  | 26 => .array .int
  | 27 => .array .int
  | 28 => .array .int
  | 29 => .array .int
  | 30 => .array .int
  | 31 => .array .int
  | _ => .int
theorem cd_nm7 : ∀ a, a < 33 → ∀ b, b < 33 → a ≠ b → (cd_T7 a).2.1 ≠ (cd_T7 b).2.1 := by decide +kernel
theorem cd_ty7 : ∀ k, k < 33 → parseFieldDescriptor (cd_T7 k).2.2.1 = some (cd_t7 k) := by decide +kernel
theorem cd_in7 : ∀ q ∈ u_ws cd_R7 cd_T7 33, q ∈ cd_ws := by decide +kernel
abbrev cd_cls : List vw_C := [(cd_R0, cd_T0, 5), (cd_R1, cd_T1, 9), (cd_R2, cd_T2, 3), (cd_R3, cd_T3, 4), (cd_R4, cd_T4, 9), (cd_R5, cd_T5, 4), (cd_R6, cd_T6, 10), (cd_R7, cd_T7, 33)]
def cd_rt : List (List Bool) := [[false, false, false, false, false], [true, true, true, false, false, false, true, false, true], [false, false, true], [false, false, true, true], [false, false, false, false, false, false, false, true, true], [false, false, true, true], [true, true, true, false, true, true, true, true, false, true], [true, true, true, false, true, true, false, false, false, false, false, false, false, true, true, true, false, false, true, false, true, true, true, true, true, true, true, true, true, true, true, true, false]]
def cd_nf : List (String × Nat × String × String × String × String) := [("CatDoors$Asking", 27, "CatDoors", "KIND_ABOVE", "[I", "CatDoors"), ("CatDoors$Asking", 46, "CatDoors", "LEARNS", "[I", "CatDoors"), ("CatDoors$House", 115, "CatDoors", "SCRATCHES", "[I", "CatDoors"), ("CatDoors$Asking", 52, "CatDoors", "FORGETS", "[I", "CatDoors")]
def cd_nn : List (String × Nat × MethodName × String) := [("CatDoors$House", 47, ⟨"CatDoors$Asking", "<init>", "()V"⟩, "CatDoors"), ("CatDoors", 28, ⟨"CatDoors$Tape", "<init>", "()V"⟩, "CatDoors"), ("CatDoors", 56, ⟨"CatDoors$Sheet", "<init>", "()V"⟩, "CatDoors"), ("CatDoors", 57, ⟨"CatDoors$Slot", "<init>", "()V"⟩, "CatDoors"), ("CatDoors$Slot", 20, ⟨"CatDoors$Asking", "<init>", "()V"⟩, "CatDoors"), ("CatDoors$Slot", 27, ⟨"CatDoors$Sheet", "<init>", "()V"⟩, "CatDoors"), ("CatDoors$House", 82, ⟨"CatDoors", "heldWithin", "(II)I"⟩, "CatDoors")]
/-- which fields are references -/
def cd_isR (c k : Nat) : Bool := ((cd_rt.getD c []).getD k false)
def cd_ov (c k : Nat) (i : Int32) (r : Option Nat) : Value := match cd_isR c k with
  | true => va_rf r
  | false => .int i
/-- array kinds: 0 int, 1 byte, 2 char, 3 boolean, 4 Asking, 5 Text, 6 Sheet, 7 Slot -/
def cd_aty (t : Nat) : FieldType := match t with
  | 0 => .int
  | 1 => .byte
  | 2 => .char
  | 3 => .boolean
  | 4 => .object "CatDoors$Asking"
  | 5 => .object "CatDoors$Text"
  | 6 => .object "CatDoors$Sheet"
  | _ => .object "CatDoors$Slot"
def cd_av (t : Nat) (i : Int32) (r : Option Nat) : Value := match t with
  | 0 => .int i
  | 1 => .int i
  | 2 => .int i
  | 3 => .int i
  | _ => va_rf r
def cd_tys (w : cd_WT) : List (ClassId × FieldType) := [(w.2.2.2.1 0, cd_aty 0), (w.2.2.2.1 1, cd_aty 1), (w.2.2.2.1 2, cd_aty 2), (w.2.2.2.1 3, cd_aty 3), (w.2.2.2.1 4, cd_aty 4), (w.2.2.2.1 5, cd_aty 5), (w.2.2.2.1 6, cd_aty 6), (w.2.2.2.1 7, cd_aty 7)]
theorem cd_tys_at (w : cd_WT) {t : Nat} (h : t < 8) : (cd_tys w)[t]? = some (w.2.2.2.1 t, cd_aty t) := by
  match t, h with
  | 0, _ => rfl
  | 1, _ => rfl
  | 2, _ => rfl
  | 3, _ => rfl
  | 4, _ => rfl
  | 5, _ => rfl
  | 6, _ => rfl
  | 7, _ => rfl
/-- a cell is as its shape says: (1, c) an object of class c; (t + 2, n) an array of kind t with n places -/
def cd_cell (w : cd_WT) (S : cd_Sp) (I : cd_Mem) (H : Heap) (a : Nat) : Prop := match S.2.1 a with
  | (0, _) => True
  | (1, c) => ∃ q, cd_cls[c]? = some q ∧ t_OB a (w.2.2.1.1 c) q.2.2 (w.2.2.1.2 c) H (fun k => cd_ov c k (I a k) (S.2.2 a k))
  | (t + 2, n) => H[a]? = some (arrV (w.2.2.2.1 t) n (fun j => cd_av t (I a j) (S.2.2 a j)))
def cd_R (w : cd_WT) (S : cd_Sp) (I : cd_Mem) (H : Heap) : Prop := (∀ a, cd_cell w S I H a) ∧ H.size = w.1 + S.1 ∧ ∀ q : Nat, q < w.1 → H[q]? = w.2.1[q]?
theorem cd_obj {w : cd_WT} {S : cd_Sp} {I : cd_Mem} {H : Heap} (h : cd_R w S I H) {a c : Nat} (hs : S.2.1 a = (1, c)) : ∃ q, cd_cls[c]? = some q ∧ t_OB a (w.2.2.1.1 c) q.2.2 (w.2.2.1.2 c) H (fun k => cd_ov c k (I a k) (S.2.2 a k)) := by
  have h1 := h.1 a
  unfold cd_cell at h1
  rw [hs] at h1
  exact h1
theorem cd_arr {w : cd_WT} {S : cd_Sp} {I : cd_Mem} {H : Heap} (h : cd_R w S I H) {a t n : Nat} (hs : S.2.1 a = (t + 2, n)) : H[a]? = some (arrV (w.2.2.2.1 t) n (fun j => cd_av t (I a j) (S.2.2 a j))) := by
  have h1 := h.1 a
  unfold cd_cell at h1
  rw [hs] at h1
  exact h1
theorem cd_cell_kept {w : cd_WT} {S S' : cd_Sp} {I I' : cd_Mem} {H H' : Heap} {a : Nat} (h : cd_cell w S I H a) (h1 : S'.2.1 a = S.2.1 a) (h2 : S'.2.2 a = S.2.2 a) (h3 : I' a = I a) (h4 : (S.2.1 a).1 ≠ 0 → H'[a]? = H[a]?) : cd_cell w S' I' H' a := by
  unfold cd_cell at h ⊢
  rw [h1, h2, h3]
  generalize hz : S.2.1 a = z at h h4 ⊢
  obtain ⟨z1, z2⟩ := z
  match z1, h, h4 with
  | 0, _, _ => trivial
  | 1, h, h4 =>
    obtain ⟨q, q1, q2⟩ := h
    exact ⟨q, q1, q2.kept (h4 (by simp))⟩
  | t + 2, h, h4 => exact (h4 (by simp)).trans h
/-- rows of ints: the row of a cell is another -/
def cd_set (I : cd_Mem) (a : Nat) (r : Nat → Int32) : cd_Mem := fun b => if b = a then r else I b
theorem cd_set_eq (I : cd_Mem) (a : Nat) (r : Nat → Int32) : cd_set I a r a = r := by simp [cd_set]
theorem cd_set_ne (I : cd_Mem) {a b : Nat} (r : Nat → Int32) (h : b ≠ a) : cd_set I a r b = I b := by simp [cd_set, h]
theorem cd_set_set (I : cd_Mem) (a : Nat) (r r' : Nat → Int32) : cd_set (cd_set I a r) a r' = cd_set I a r' := by
  funext b
  by_cases h : b = a <;> simp [cd_set, h]
theorem cd_set_self (I : cd_Mem) (a : Nat) : cd_set I a (I a) = I := by
  funext b
  by_cases h : b = a
  · subst h; simp [cd_set]
  · simp [cd_set, h]
/-- the locals -/
def cd_L (ls : Array Slot) (lv : List (Option Value)) : Prop := ls.size = lv.length ∧ lv_wf ls ∧ ∀ (i : Nat) (v : Value), lv[i]? = some (some v) → ls[i]? = some (.val v)
/-- what the tables and the heap below the base say: the classes, static arrays, String constants -/
def cd_A (w : cd_WT) : Nat → Prop := fun q => w.1 ≤ q
def cd_sn (i : Nat) : String := match i with
  | 0 => "KIND_ABOVE"
  | 1 => "LEARNS"
  | 2 => "FORGETS"
  | 3 => "SCRATCHES"
  | _ => "MOST_OF_RULE"
def cd_sl (i : Nat) : Nat := match i with
  | 4 => 7
  | _ => 6
def cd_sv (i : Nat) : List Int32 := match i with
  | 0 => [-1, 0, 0, 1, 2, 0]
  | 1 => [8, 3, 8, 12, 16, 15]
  | 2 => [4, 6, 4, 6, 1, 9]
  | 3 => [2, 0, 2, 7, 3, 1]
  | _ => [99, 100, 100, 1, 1, 1, 1]
def cd_tx (i : Nat) : String := match i with
  | 0 => "press"
  | 1 => "fee"
  | 2 => "fine"
  | 3 => "hmw"
  | 4 => "\x72p"
  | _ => "hw"
def cd_ti (i : Nat) : Nat := match i with
  | 0 => 63
  | 1 => 69
  | 2 => 71
  | 3 => 99
  | 4 => 101
  | _ => 103
def cd_tl : List Nat := [5, 3, 4, 3, 2, 2]
def cd_tb : List (List Int32) := [[112, 114, 101, 115, 115], [102, 101, 101], [102, 105, 110, 101], [104, 109, 119], [114, 112], [104, 119]]
def cd_ST (w : cd_WT) (U : State) : Prop := (∀ i, i < 5 → va_Z "CatDoors" (cd_sn i) "[I" (.ref (w.2.2.2.2.1 i)) (cd_A w) U w.2.1 ∧ va_T .int (w.2.2.2.2.1 i) (cd_sl i) (fun j => .int ((cd_sv i).getD j 0)) (cd_A w) U w.2.1) ∧ vk_S 6 cd_tl cd_tb w.2.2.2.2.2.1 w.2.2.2.2.2.2 (cd_A w) U w.2.1 ∧ (∀ i, i < 6 → vk_R "CatDoors$Tape" (cd_ti i) (cd_tx i) (w.2.2.2.2.2.1 i) U) ∧ va_Z "java/lang/String" "COMPACT_STRINGS" "Z" (.int 1) (cd_A w) U w.2.1
def cd_NW (U : State) : Prop := (∀ q ∈ cd_nf, va_Nw (.fieldLinkNest q.1 q.2.1 q.2.2.1 q.2.2.2.1 q.2.2.2.2.1 q.2.2.2.2.2) U) ∧ ∀ q ∈ cd_nn, va_Nw (.methodLinkNest q.1 q.2.1 q.2.2.1 q.2.2.2) U
def cd_K (w : cd_WT) (U : State) : Prop := va_K w.2.2.1 cd_cls (cd_tys w) U ∧ cd_ST w U ∧ w.2.1.size = w.1 ∧ cd_NW U
theorem cd_K.warm {w : cd_WT} {s U : State} (hW : s.WarmedH U.vm) (h : cd_K w s) : cd_K w U :=
  ⟨h.1.moved hW.alike, ⟨fun i hi => ⟨(h.2.1.1 i hi).1.moved hW.alike, (h.2.1.1 i hi).2.moved hW.alike⟩, h.2.1.2.1.moved hW.alike, fun i hi => (h.2.1.2.2.1 i hi).warm hW, h.2.1.2.2.2.moved hW.alike⟩, h.2.2.1, fun q hq => (h.2.2.2.1 q hq).warmF hW, fun q hq => (h.2.2.2.2 q hq).warmM hW⟩
theorem cd_K.same {w : cd_WT} {s U : State} (hv : U.vm = s.vm) (h : cd_K w s) : cd_K w U := by
  have ha : s.vm.Alike U.vm := by rw [hv]; exact Vm.Alike.refl _
  exact ⟨h.1.moved ha, ⟨fun i hi => ⟨(h.2.1.1 i hi).1.moved ha, (h.2.1.1 i hi).2.moved ha⟩, h.2.1.2.1.moved ha, fun i hi => (h.2.1.2.2.1 i hi).same hv, h.2.1.2.2.2.moved ha⟩, h.2.2.1, fun q hq => (h.2.2.2.1 q hq).same rfl hv.symm, fun q hq => (h.2.2.2.2 q hq).same rfl hv.symm⟩
/-- the judgement -/
def cd_J (w : cd_WT) (X : cd_XT) (k n : Nat) (S : cd_Sp) (I : cd_Mem) (pc : Nat) (lv : List (Option Value)) (st : List Value) : Prop :=
  ∀ (H : Heap) (ls : Array Slot) (locs : List Loc), cd_R w S I H → cd_L ls lv → (∀ q ∈ locs, w.1 ≤ q.base) →
    W X.1 X.2.1 X.2.2.1 X.2.2.2.1 X.2.2.2.2.1 X.2.2.2.2.2.1 X.2.2.2.2.2.2.1 X.2.2.2.2.2.2.2.1 X.2.2.2.2.2.2.2.2.1 X.2.2.2.2.2.2.2.2.2.1 H locs k n X.2.2.2.2.2.2.2.2.2.2 (F0 X.2.2.2.2.2.1 pc ls st)
/-- what holds in a method's body -/
def cd_O (w : cd_WT) (X : cd_XT) (cc : ByteArray) (own : String) (d mc ms : Nat) (l : Launch) : Prop :=
  X.1.tables.exec = Jvm.exec ∧ X.2.2.2.2.2.2.2.2.2.1.code = cc ∧ X.2.2.2.2.1.vm.findClass own = some X.2.2.2.2.2.1.cls ∧ (∀ q ∈ cd_ws, q.before X.2.2.2.2.2.2.1 X.2.2.2.2.1 = true) ∧ cd_K w X.2.2.2.2.1 ∧ d ≤ X.2.2.2.1.frames ∧ 41 * d ≤ X.2.2.2.1.locals ∧ mc ≤ X.2.2.2.1.cells ∧ ms ≤ X.2.2.2.1.slots ∧ X.2.1 = l
/-- its locals' number, what it answers, its end -/
def cd_E (w : cd_WT) (X : cd_XT) (nL : Nat) (rt : Option FieldType) (mc ms : Nat) (nm : String) (post : cd_Pt) : Prop :=
  X.2.2.2.2.2.2.2.2.2.1.maxLocals = nL ∧ X.2.2.2.2.2.2.2.2.1.sig.returnType = rt ∧ X.2.2.2.2.2.2.2.2.1.locks = false ∧ X.2.2.2.2.2.2.2.2.1.name = nm ∧
  X.2.2.2.2.2.2.2.2.2.2 = MQ X.2.2.2.2.2.2.2.1 (fun _ _ o t => ∃ (r : Option Value) (S' : cd_Sp) (I' : cd_Mem), o = .returned r ∧ post r S' I' ∧ cd_R w S' I' t.heap) X.2.2.2.2.2.2.1 X.2.2.2.2.1 mc ms (fun q => w.1 ≤ q)
abbrev cd_MT : Type := MethodName × ByteArray × Nat × Option FieldType
def cd_rm (d mc ms : Nat) : Room := { frames := d, cells := mc, slots := ms, locals := 41 * d }
/-- a method's contract -/
def cd_C (l : Launch) (w : cd_WT) (m : cd_MT) (d mc ms : Nat) (av : List Value) (S : cd_Sp) (I : cd_Mem) (post : cd_Pt) : Prop :=
  Met l m.1 (Cond.code m.1 m.2.1 m.2.2.1 m.2.2.2 :: cd_ws) (cd_rm d mc ms) (va_Pc av (fun U => cd_R w S I U.heap ∧ cd_K w U)) (fun _ _ o t => ∃ (r : Option Value) (S' : cd_Sp) (I' : cd_Mem), o = .returned r ∧ post r S' I' ∧ cd_R w S' I' t.heap) mc ms (fun q => w.1 ≤ q)
theorem cd_good : ∀ w ∈ cd_ws, (w.onTables && w.keeps) = true ∨ ∃ ty, w = .arrayClass ty := fun w hw => good_of_word (List.mem_filter.mp hw).2
/-- entry: the locals of a method whose arguments are all of one slot -/
theorem cd_entry (vs : List Value) (n : Nat) (h1 : ∀ v ∈ vs, v.category = 1) (hn : vs.length ≤ n) : cd_L ((lg_sl vs ++ List.replicate (n - (lg_sl vs).length) Slot.unset).toArray) (vs.map some ++ List.replicate (n - vs.length) none) := by
  have e : lg_sl vs = vs.map Slot.val := by
    clear hn
    induction vs with
    | nil => rfl
    | cons v l ih =>
      have hv := h1 v List.mem_cons_self
      have := ih (fun x hx => h1 x (List.mem_cons_of_mem _ hx))
      simp only [lg_sl, List.flatMap_cons, List.map_cons] at this ⊢
      rw [this, hv]
      simp
  rw [e]
  have key : ∀ (i : Nat) (x : Slot), (vs.map Slot.val ++ List.replicate (n - (vs.map Slot.val).length) Slot.unset)[i]? = some x → (∃ v ∈ vs, x = .val v) ∨ x = .unset := by
    intro i x hx
    rcases List.mem_append.mp (List.mem_of_getElem? hx) with q | q
    · obtain ⟨v, hv, rfl⟩ := List.mem_map.mp q
      exact Or.inl ⟨v, hv, rfl⟩
    · exact Or.inr (List.eq_of_mem_replicate q)
  refine ⟨by simp, ⟨fun i v hi hc => ?_, fun i hi => ?_⟩, fun i v hi => ?_⟩
  · rw [List.getElem?_toArray] at hi
    rcases key i _ hi with ⟨u, hu, q⟩ | q
    · cases q
      rw [h1 _ hu] at hc
      cases hc
    · cases q
  · rw [List.getElem?_toArray] at hi
    rcases key i _ hi with ⟨u, hu, q⟩ | q <;> cases q
  · rw [List.getElem?_toArray]
    by_cases hl : i < vs.length
    · rw [List.getElem?_append_left (by simpa using hl)] at hi ⊢
      simp only [List.getElem?_map, Option.map_eq_some_iff] at hi ⊢
      obtain ⟨a, ha, hb⟩ := hi
      exact ⟨a, ha, by rw [Option.some.inj hb]⟩
    · rw [List.getElem?_append_right (by simpa using hl)] at hi
      have := List.eq_of_mem_replicate (List.mem_of_getElem? hi)
      cases this
theorem cd_intro {l : Launch} {w : cd_WT} {m : cd_MT} {d mc ms : Nat} {av : List Value} {S : cd_Sp} {I : cd_Mem} {post : cd_Pt} (hy : plainName m.1.cls = true) (h1 : ∀ v ∈ av, v.category = 1) (hn : av.length ≤ m.2.2.1)
    (h : ∀ X : cd_XT, cd_O w X m.2.1 m.1.cls d mc ms l → cd_E w X m.2.2.1 m.2.2.2 mc ms m.1.name post → cd_J w X 0 0 S I 0 (av.map some ++ List.replicate (m.2.2.1 - av.length) none) []) : cd_C l w m d mc ms av S I post := by
  refine Met.ofW (cc := m.2.1) (maxL := m.2.2.1) (ret := m.2.2.2) hy rfl ?_
  intro p e s mm args below meth c s₁ B hml hv
  obtain ⟨rfl, hR, hK⟩ := hv
  have hts := atoms_spec (ws := Cond.code m.1 m.2.1 m.2.2.1 m.2.2.2 :: cd_ws) B.pre
  have hO : cd_O w (p, l, e, (headSpec (Cond.code m.1 m.2.1 m.2.2.1 m.2.2.2 :: cd_ws) (cd_rm d mc ms)).room, s, mm, av.toArray, below, meth, c, MQ below (fun _ _ o t => ∃ (r : Option Value) (S' : cd_Sp) (I' : cd_Mem), o = .returned r ∧ post r S' I' ∧ cd_R w S' I' t.heap) av.toArray s mc ms (fun q => w.1 ≤ q)) m.2.1 m.1.cls d mc ms l :=
    ⟨B.exec, B.bytes, findClass_of_methodNamed B.named, fun q hq => hts q (List.mem_cons_of_mem _ hq), hK, Nat.le_refl _, Nat.le_refl _, Nat.le_refl _, Nat.le_refl _, rfl⟩
  have hJ := h _ hO ⟨hml, B.returns, B.notSynchronized, (name_of_methodNamed B.named B.method).1, rfl⟩
  rw [lg_entry_eq]
  exact hJ s.heap _ [] hR (cd_entry av _ h1 hn) (fun q hq => by cases hq)
end
section
section CDR
variable {l : Launch} {w : cd_WT} {X : cd_XT} {cc : ByteArray} {own : String} {d mc ms : Nat} {k n : Nat} {S : cd_Sp} {I : cd_Mem} {pc pc' tgt : Nat} {lv : List (Option Value)} {st : List Value}
/-- an instruction of n bytes at pc; the next one is at pc' -/
def cd_D (n : Nat) (cc : ByteArray) (pc : Nat) (i : Instr) (pc' : Nat) : Prop := decode cc pc = .ok (i, n) ∧ pc + n = pc'
def cd_Dk (cc : ByteArray) (pc : Nat) (v : Int32) (pc' : Nat) : Prop := (∃ n, cd_D 1 cc pc (.iconst n) pc' ∧ Int32.ofInt n = v) ∨ (∃ n, cd_D 2 cc pc (.bipush n) pc' ∧ (Int8.ofInt n).toInt32 = v) ∨ ∃ n, cd_D 3 cc pc (.sipush n) pc' ∧ (Int16.ofInt n).toInt32 = v

def cd_D_iload (cc : ByteArray) (pc i pc' : Nat) : Prop := cd_D 2 cc pc (.iload i) pc' ∨ ∃ k : Fin 4, cd_D 1 cc pc (.iload_n k) pc' ∧ (k : Nat) = i
def cd_D_aload (cc : ByteArray) (pc i pc' : Nat) : Prop := cd_D 2 cc pc (.aload i) pc' ∨ ∃ k : Fin 4, cd_D 1 cc pc (.aload_n k) pc' ∧ (k : Nat) = i
def cd_D_istore (cc : ByteArray) (pc i pc' : Nat) : Prop := cd_D 2 cc pc (.istore i) pc' ∨ ∃ k : Fin 4, cd_D 1 cc pc (.istore_n k) pc' ∧ (k : Nat) = i
def cd_D_astore (cc : ByteArray) (pc i pc' : Nat) : Prop := cd_D 2 cc pc (.astore i) pc' ∨ ∃ k : Fin 4, cd_D 1 cc pc (.astore_n k) pc' ∧ (k : Nat) = i
def cd_D_lload (cc : ByteArray) (pc i pc' : Nat) : Prop := cd_D 2 cc pc (.lload i) pc' ∨ ∃ k : Fin 4, cd_D 1 cc pc (.lload_n k) pc' ∧ (k : Nat) = i
def cd_D_lstore (cc : ByteArray) (pc i pc' : Nat) : Prop := cd_D 2 cc pc (.lstore i) pc' ∨ ∃ k : Fin 4, cd_D 1 cc pc (.lstore_n k) pc' ∧ (k : Nat) = i
def cd_D_icmp_eq (cc : ByteArray) (pc tgt pc' : Nat) : Prop := ∃ off : Int, decode cc pc = .ok (.if_icmp .eq off, 3) ∧ (pc : Int) + off = (tgt : Int) ∧ pc + 3 = pc'
def cd_D_if_eq (cc : ByteArray) (pc tgt pc' : Nat) : Prop := ∃ off : Int, decode cc pc = .ok (.ifCond .eq off, 3) ∧ (pc : Int) + off = (tgt : Int) ∧ pc + 3 = pc'
def cd_D_icmp_ne (cc : ByteArray) (pc tgt pc' : Nat) : Prop := ∃ off : Int, decode cc pc = .ok (.if_icmp .ne off, 3) ∧ (pc : Int) + off = (tgt : Int) ∧ pc + 3 = pc'
def cd_D_if_ne (cc : ByteArray) (pc tgt pc' : Nat) : Prop := ∃ off : Int, decode cc pc = .ok (.ifCond .ne off, 3) ∧ (pc : Int) + off = (tgt : Int) ∧ pc + 3 = pc'
def cd_D_icmp_lt (cc : ByteArray) (pc tgt pc' : Nat) : Prop := ∃ off : Int, decode cc pc = .ok (.if_icmp .lt off, 3) ∧ (pc : Int) + off = (tgt : Int) ∧ pc + 3 = pc'
def cd_D_if_lt (cc : ByteArray) (pc tgt pc' : Nat) : Prop := ∃ off : Int, decode cc pc = .ok (.ifCond .lt off, 3) ∧ (pc : Int) + off = (tgt : Int) ∧ pc + 3 = pc'
def cd_D_icmp_ge (cc : ByteArray) (pc tgt pc' : Nat) : Prop := ∃ off : Int, decode cc pc = .ok (.if_icmp .ge off, 3) ∧ (pc : Int) + off = (tgt : Int) ∧ pc + 3 = pc'
def cd_D_if_ge (cc : ByteArray) (pc tgt pc' : Nat) : Prop := ∃ off : Int, decode cc pc = .ok (.ifCond .ge off, 3) ∧ (pc : Int) + off = (tgt : Int) ∧ pc + 3 = pc'
def cd_D_icmp_gt (cc : ByteArray) (pc tgt pc' : Nat) : Prop := ∃ off : Int, decode cc pc = .ok (.if_icmp .gt off, 3) ∧ (pc : Int) + off = (tgt : Int) ∧ pc + 3 = pc'
def cd_D_if_gt (cc : ByteArray) (pc tgt pc' : Nat) : Prop := ∃ off : Int, decode cc pc = .ok (.ifCond .gt off, 3) ∧ (pc : Int) + off = (tgt : Int) ∧ pc + 3 = pc'
def cd_D_icmp_le (cc : ByteArray) (pc tgt pc' : Nat) : Prop := ∃ off : Int, decode cc pc = .ok (.if_icmp .le off, 3) ∧ (pc : Int) + off = (tgt : Int) ∧ pc + 3 = pc'
def cd_D_if_le (cc : ByteArray) (pc tgt pc' : Nat) : Prop := ∃ off : Int, decode cc pc = .ok (.ifCond .le off, 3) ∧ (pc : Int) + off = (tgt : Int) ∧ pc + 3 = pc'
def cd_D_goto (cc : ByteArray) (pc tgt : Nat) : Prop := ∃ off : Int, decode cc pc = .ok (.goto off, 3) ∧ (pc : Int) + off = (tgt : Int)
def cd_D_ifnn (cc : ByteArray) (pc tgt pc' : Nat) : Prop := ∃ off : Int, decode cc pc = .ok (.ifnonnull off, 3) ∧ (pc : Int) + off = (tgt : Int) ∧ pc + 3 = pc'
theorem r_k (hO : cd_O w X cc own d mc ms l) {v : Int32} (hd : cd_Dk cc pc v pc') (kk : cd_J w X k n S I pc' lv (.int v :: st)) : cd_J w X k n S I pc lv st := by
  intro H ls locs hR hL hq
  rcases hd with ⟨z, ⟨hd, rfl⟩, hv⟩ | ⟨z, ⟨hd, rfl⟩, hv⟩ | ⟨z, ⟨hd, rfl⟩, hv⟩
  · exact lv_iconst hO.1 hO.2.1 hd hv (kk H ls locs hR hL hq)
  · exact lv_bipush hO.1 hO.2.1 hd hv (kk H ls locs hR hL hq)
  · exact lv_sipush hO.1 hO.2.1 hd hv (kk H ls locs hR hL hq)
theorem r_ldc (hO : cd_O w X cc own d mc ms l) {i : Nat} {v : Int32} (hw : Cond.constant own i v ∈ cd_ws) (hd : cd_D 2 cc pc (.ldc i) pc') (kk : cd_J w X k n S I pc' lv (.int v :: st)) : cd_J w X k n S I pc lv st := by
  intro H ls locs hR hL hq
  obtain ⟨hd, rfl⟩ := hd
  exact lv_ldc hO.1 hO.2.1 hO.2.2.1 (hO.2.2.2.1 _ hw) hd (kk H ls locs hR hL hq)
theorem r_ldcw (hO : cd_O w X cc own d mc ms l) {i : Nat} {v : Int32} (hw : Cond.constant own i v ∈ cd_ws) (hd : cd_D 3 cc pc (.ldc_w i) pc') (kk : cd_J w X k n S I pc' lv (.int v :: st)) : cd_J w X k n S I pc lv st := by
  intro H ls locs hR hL hq
  obtain ⟨hd, rfl⟩ := hd
  exact lv_ldcw hO.1 hO.2.1 hO.2.2.1 (hO.2.2.2.1 _ hw) hd (kk H ls locs hR hL hq)
theorem r_lconst0 (hO : cd_O w X cc own d mc ms l) (hd : cd_D 1 cc pc (.lconst 0) pc') (kk : cd_J w X k n S I pc' lv (.long 0 :: st)) : cd_J w X k n S I pc lv st := by
  intro H ls locs hR hL hq
  obtain ⟨hd, rfl⟩ := hd
  exact lv_lconst hO.1 hO.2.1 hd rfl (kk H ls locs hR hL hq)
theorem r_iload (hO : cd_O w X cc own d mc ms l) {i : Nat} {x : Int32} (hd : cd_D_iload cc pc i pc') (hl : lv[i]? = some (some (.int x))) (kk : cd_J w X k n S I pc' lv (.int x :: st)) : cd_J w X k n S I pc lv st := by
  intro H ls locs hR hL hq
  rcases hd with ⟨hd, rfl⟩ | ⟨z, ⟨hd, rfl⟩, hz⟩
  · exact lv_iload hO.1 hO.2.1 hd (hL.2.2 _ _ hl) (kk H ls locs hR hL hq)
  · exact lv_iload_n hO.1 hO.2.1 hd hz (hL.2.2 _ _ hl) (kk H ls locs hR hL hq)
theorem r_aload (hO : cd_O w X cc own d mc ms l) {i x : Nat} (hd : cd_D_aload cc pc i pc') (hl : lv[i]? = some (some (.ref x))) (kk : cd_J w X k n S I pc' lv (.ref x :: st)) : cd_J w X k n S I pc lv st := by
  intro H ls locs hR hL hq
  rcases hd with ⟨hd, rfl⟩ | ⟨z, ⟨hd, rfl⟩, hz⟩
  · exact lv_aload hO.1 hO.2.1 hd (hL.2.2 _ _ hl) (kk H ls locs hR hL hq)
  · exact lv_aload_n hO.1 hO.2.1 hd hz (hL.2.2 _ _ hl) (kk H ls locs hR hL hq)
theorem r_aloadN (hO : cd_O w X cc own d mc ms l) {i : Nat} (hd : cd_D_aload cc pc i pc') (hl : lv[i]? = some (some .null)) (kk : cd_J w X k n S I pc' lv (.null :: st)) : cd_J w X k n S I pc lv st := by
  intro H ls locs hR hL hq
  rcases hd with ⟨hd, rfl⟩ | ⟨z, ⟨hd, rfl⟩, hz⟩
  · exact lv_aloadN hO.1 hO.2.1 hd (hL.2.2 _ _ hl) (kk H ls locs hR hL hq)
  · exact lv_aload_nN hO.1 hO.2.1 hd hz (hL.2.2 _ _ hl) (kk H ls locs hR hL hq)
theorem r_lload (hO : cd_O w X cc own d mc ms l) {i : Nat} {x : Int64} (hd : cd_D_lload cc pc i pc') (hl : lv[i]? = some (some (.long x))) (kk : cd_J w X k n S I pc' lv (.long x :: st)) : cd_J w X k n S I pc lv st := by
  intro H ls locs hR hL hq
  rcases hd with ⟨hd, rfl⟩ | ⟨z, ⟨hd, rfl⟩, hz⟩
  · exact lv_lload hO.1 hO.2.1 hd (hL.2.2 _ _ hl) (kk H ls locs hR hL hq)
  · exact lv_lload_n hO.1 hO.2.1 hd hz (hL.2.2 _ _ hl) (kk H ls locs hR hL hq)
/-- no long stands at the place -/
def cd_nl (a : Option Value) : Bool := match a with
  | some v => v.category == 1
  | none => true
/-- what storing a value of one slot leaves of the locals -/
def cd_st1 (lv : List (Option Value)) (i : Nat) (v : Value) (lv' : List (Option Value)) : Prop := i < lv.length ∧ lv'.length = lv.length ∧ ∀ (j : Nat) (u : Value), lv'[j]? = some (some u) → (j = i ∧ u = v) ∨ (j ≠ i ∧ lv[j]? = some (some u) ∧ (j + 1 = i → u.category = 1))
theorem cd_store1 {ls : Array Slot} {lv lv' : List (Option Value)} {i : Nat} {v : Value} (h : cd_L ls lv) (hs : cd_st1 lv i v lv') (hc : v.category = 1) : ∃ ls', storeLocals ls i v = some ls' ∧ cd_L ls' lv' := by
  have h0 : lv_has ls lv.length [] := ⟨h.1, h.2.1, fun q hq => by cases hq⟩
  obtain ⟨ls', e', h'⟩ := lv_store1 (v := v) h0 hs.1 hc
  refine ⟨ls', e', by rw [hs.2.1]; exact h'.1, h'.2.1, fun j u hj => ?_⟩
  rcases hs.2.2 j u hj with ⟨rfl, rfl⟩ | ⟨hne, hj, hcat⟩
  · exact h'.2.2 _ List.mem_cons_self
  · have h1 : lv_has ls lv.length [(j, u)] := ⟨h.1, h.2.1, fun q hq => by
      rw [List.mem_singleton.mp hq]
      exact h.2.2 j u hj⟩
    obtain ⟨ls2, e2, h2⟩ := lv_store1 (v := v) h1 hs.1 hc
    have : ls2 = ls' := Option.some.inj (e2.symm.trans e')
    subst this
    refine h2.2.2 (j, u) (List.mem_cons_of_mem _ (List.mem_filter.mpr ⟨List.mem_singleton.mpr rfl, ?_⟩))
    have hb : (j == i) = false := by simpa using hne
    simp only [hb, Bool.not_false, Bool.true_and, Bool.not_eq_true', Bool.and_eq_false_iff]
    by_cases hji : j + 1 = i
    · exact Or.inr (by rw [hcat hji]; rfl)
    · exact Or.inl (by simpa using hji)
theorem cd_st1_set {lv : List (Option Value)} {i : Nat} {v : Value} (h : i < lv.length) (hp : ∀ j u, j + 1 = i → lv[j]? = some (some u) → u.category = 1) : cd_st1 lv i v (lv.set i (some v)) := by
  refine ⟨h, by simp, fun j u hj => ?_⟩
  by_cases hji : j = i
  · subst hji
    rw [List.getElem?_set_self h] at hj
    cases hj
    exact Or.inl ⟨rfl, rfl⟩
  · rw [List.getElem?_set_ne (fun q => hji q.symm)] at hj
    exact Or.inr ⟨hji, hj, fun q => hp j u q hj⟩
theorem r_storeI (hO : cd_O w X cc own d mc ms l) {i : Nat} {x : Int32} {lv' : List (Option Value)} (hd : cd_D_istore cc pc i pc') (hs : cd_st1 lv i (.int x) lv') (kk : cd_J w X k n S I pc' lv' st) : cd_J w X k n S I pc lv (.int x :: st) := by
  intro H ls locs hR hL hq
  obtain ⟨ls', e', hL'⟩ := cd_store1 hL hs rfl
  have kk := kk H ls' locs hR hL' hq
  intro T hT Y
  obtain ⟨t, a, b⟩ := kk T hT Y
  refine ⟨t, ?_, b⟩
  have hx := hO.1
  have hb := hO.2.1
  rcases hd with ⟨hdg, rfl⟩ | ⟨z, ⟨hdg, rfl⟩, rfl⟩
  · jvm_step Y.here [Y.here.top, ↓top_set Y.here.top, hx, hb, hdg, e']
    exact a
  · jvm_step Y.here [Y.here.top, ↓top_set Y.here.top, hx, hb, hdg, e']
    exact a
theorem r_storeA (hO : cd_O w X cc own d mc ms l) {i : Nat} {x : Nat} {lv' : List (Option Value)} (hd : cd_D_astore cc pc i pc') (hs : cd_st1 lv i (.ref x) lv') (kk : cd_J w X k n S I pc' lv' st) : cd_J w X k n S I pc lv (.ref x :: st) := by
  intro H ls locs hR hL hq
  obtain ⟨ls', e', hL'⟩ := cd_store1 hL hs rfl
  have kk := kk H ls' locs hR hL' hq
  intro T hT Y
  obtain ⟨t, a, b⟩ := kk T hT Y
  refine ⟨t, ?_, b⟩
  have hx := hO.1
  have hb := hO.2.1
  rcases hd with ⟨hdg, rfl⟩ | ⟨z, ⟨hdg, rfl⟩, rfl⟩
  · jvm_step Y.here [Y.here.top, ↓top_set Y.here.top, hx, hb, hdg, e', Value.isRef]
    exact a
  · jvm_step Y.here [Y.here.top, ↓top_set Y.here.top, hx, hb, hdg, e', Value.isRef]
    exact a
theorem r_storeAN (hO : cd_O w X cc own d mc ms l) {i : Nat} {lv' : List (Option Value)} (hd : cd_D_astore cc pc i pc') (hs : cd_st1 lv i .null lv') (kk : cd_J w X k n S I pc' lv' st) : cd_J w X k n S I pc lv (.null :: st) := by
  intro H ls locs hR hL hq
  obtain ⟨ls', e', hL'⟩ := cd_store1 hL hs rfl
  have kk := kk H ls' locs hR hL' hq
  intro T hT Y
  obtain ⟨t, a, b⟩ := kk T hT Y
  refine ⟨t, ?_, b⟩
  have hx := hO.1
  have hb := hO.2.1
  rcases hd with ⟨hdg, rfl⟩ | ⟨z, ⟨hdg, rfl⟩, rfl⟩
  · jvm_step Y.here [Y.here.top, ↓top_set Y.here.top, hx, hb, hdg, e', Value.isRef]
    exact a
  · jvm_step Y.here [Y.here.top, ↓top_set Y.here.top, hx, hb, hdg, e', Value.isRef]
    exact a
theorem r_inc (hO : cd_O w X cc own d mc ms l) {i : Nat} {z : Int} {x v : Int32} {lv' : List (Option Value)} (hd : cd_D 3 cc pc (.iinc i z) pc') (hl : lv[i]? = some (some (.int x))) (hv : x + Int32.ofInt z = v) (hs : cd_st1 lv i (.int v) lv') (kk : cd_J w X k n S I pc' lv' st) : cd_J w X k n S I pc lv st := by
  intro H ls locs hR hL hq
  subst hv
  have hg := hL.2.2 _ _ hl
  obtain ⟨ls', e', hL'⟩ := cd_store1 hL hs rfl
  have kk := kk H ls' locs hR hL' hq
  intro T hT Y
  obtain ⟨t, a, b⟩ := kk T hT Y
  refine ⟨t, ?_, b⟩
  have hx := hO.1
  have hb := hO.2.1
  obtain ⟨hdg, rfl⟩ := hd
  jvm_step Y.here [Y.here.top, ↓top_set Y.here.top, hx, hb, hdg, hg, e']
  exact a

theorem r_sI0 (hO : cd_O w X cc own d mc ms l) {x : Int32} {a0 : Option Value} {t : List (Option Value)} (hd : cd_D_istore cc pc 0 pc') (kk : cd_J w X k n S I pc' (some (.int x) :: t) st) : cd_J w X k n S I pc (a0 :: t) (.int x :: st) :=
  r_storeI hO hd (cd_st1_set (by simp) (fun j u hj _ => absurd hj (by omega))) kk
theorem r_sA0 (hO : cd_O w X cc own d mc ms l) {x : Nat} {a0 : Option Value} {t : List (Option Value)} (hd : cd_D_astore cc pc 0 pc') (kk : cd_J w X k n S I pc' (some (.ref x) :: t) st) : cd_J w X k n S I pc (a0 :: t) (.ref x :: st) :=
  r_storeA hO hd (cd_st1_set (by simp) (fun j u hj _ => absurd hj (by omega))) kk
theorem r_inc0 (hO : cd_O w X cc own d mc ms l) {x v : Int32} {z : Int} {t : List (Option Value)} (hd : cd_D 3 cc pc (.iinc 0 z) pc') (hv : x + Int32.ofInt z = v) (kk : cd_J w X k n S I pc' (some (.int v) :: t) st) : cd_J w X k n S I pc (some (.int x) :: t) st :=
  r_inc hO hd rfl hv (cd_st1_set (by simp) (fun j u hj _ => absurd hj (by omega))) kk
theorem r_sI1 (hO : cd_O w X cc own d mc ms l) {x : Int32} {a0 a1 : Option Value} {t : List (Option Value)} (hd : cd_D_istore cc pc 1 pc') (hn : cd_nl a0 = true) (kk : cd_J w X k n S I pc' (a0 :: some (.int x) :: t) st) : cd_J w X k n S I pc (a0 :: a1 :: t) (.int x :: st) :=
  r_storeI hO hd (cd_st1_set (by simp) (fun j u hj hu => by
    have hj2 : j = 0 := by omega
    subst hj2
    have : a0 = some u := Option.some.inj hu
    subst this
    exact eq_of_beq hn)) kk
theorem r_sA1 (hO : cd_O w X cc own d mc ms l) {x : Nat} {a0 a1 : Option Value} {t : List (Option Value)} (hd : cd_D_astore cc pc 1 pc') (hn : cd_nl a0 = true) (kk : cd_J w X k n S I pc' (a0 :: some (.ref x) :: t) st) : cd_J w X k n S I pc (a0 :: a1 :: t) (.ref x :: st) :=
  r_storeA hO hd (cd_st1_set (by simp) (fun j u hj hu => by
    have hj2 : j = 0 := by omega
    subst hj2
    have : a0 = some u := Option.some.inj hu
    subst this
    exact eq_of_beq hn)) kk
theorem r_inc1 (hO : cd_O w X cc own d mc ms l) {x v : Int32} {z : Int} {a0 : Option Value} {t : List (Option Value)} (hd : cd_D 3 cc pc (.iinc 1 z) pc') (hv : x + Int32.ofInt z = v) (hn : cd_nl a0 = true) (kk : cd_J w X k n S I pc' (a0 :: some (.int v) :: t) st) : cd_J w X k n S I pc (a0 :: some (.int x) :: t) st :=
  r_inc hO hd rfl hv (cd_st1_set (by simp) (fun j u hj hu => by
    have hj2 : j = 0 := by omega
    subst hj2
    have : a0 = some u := Option.some.inj hu
    subst this
    exact eq_of_beq hn)) kk
theorem r_sI2 (hO : cd_O w X cc own d mc ms l) {x : Int32} {a0 a1 a2 : Option Value} {t : List (Option Value)} (hd : cd_D_istore cc pc 2 pc') (hn : cd_nl a1 = true) (kk : cd_J w X k n S I pc' (a0 :: a1 :: some (.int x) :: t) st) : cd_J w X k n S I pc (a0 :: a1 :: a2 :: t) (.int x :: st) :=
  r_storeI hO hd (cd_st1_set (by simp) (fun j u hj hu => by
    have hj2 : j = 1 := by omega
    subst hj2
    have : a1 = some u := Option.some.inj hu
    subst this
    exact eq_of_beq hn)) kk
theorem r_sA2 (hO : cd_O w X cc own d mc ms l) {x : Nat} {a0 a1 a2 : Option Value} {t : List (Option Value)} (hd : cd_D_astore cc pc 2 pc') (hn : cd_nl a1 = true) (kk : cd_J w X k n S I pc' (a0 :: a1 :: some (.ref x) :: t) st) : cd_J w X k n S I pc (a0 :: a1 :: a2 :: t) (.ref x :: st) :=
  r_storeA hO hd (cd_st1_set (by simp) (fun j u hj hu => by
    have hj2 : j = 1 := by omega
    subst hj2
    have : a1 = some u := Option.some.inj hu
    subst this
    exact eq_of_beq hn)) kk
theorem r_inc2 (hO : cd_O w X cc own d mc ms l) {x v : Int32} {z : Int} {a0 a1 : Option Value} {t : List (Option Value)} (hd : cd_D 3 cc pc (.iinc 2 z) pc') (hv : x + Int32.ofInt z = v) (hn : cd_nl a1 = true) (kk : cd_J w X k n S I pc' (a0 :: a1 :: some (.int v) :: t) st) : cd_J w X k n S I pc (a0 :: a1 :: some (.int x) :: t) st :=
  r_inc hO hd rfl hv (cd_st1_set (by simp) (fun j u hj hu => by
    have hj2 : j = 1 := by omega
    subst hj2
    have : a1 = some u := Option.some.inj hu
    subst this
    exact eq_of_beq hn)) kk
theorem r_sI3 (hO : cd_O w X cc own d mc ms l) {x : Int32} {a0 a1 a2 a3 : Option Value} {t : List (Option Value)} (hd : cd_D_istore cc pc 3 pc') (hn : cd_nl a2 = true) (kk : cd_J w X k n S I pc' (a0 :: a1 :: a2 :: some (.int x) :: t) st) : cd_J w X k n S I pc (a0 :: a1 :: a2 :: a3 :: t) (.int x :: st) :=
  r_storeI hO hd (cd_st1_set (by simp) (fun j u hj hu => by
    have hj2 : j = 2 := by omega
    subst hj2
    have : a2 = some u := Option.some.inj hu
    subst this
    exact eq_of_beq hn)) kk
theorem r_sA3 (hO : cd_O w X cc own d mc ms l) {x : Nat} {a0 a1 a2 a3 : Option Value} {t : List (Option Value)} (hd : cd_D_astore cc pc 3 pc') (hn : cd_nl a2 = true) (kk : cd_J w X k n S I pc' (a0 :: a1 :: a2 :: some (.ref x) :: t) st) : cd_J w X k n S I pc (a0 :: a1 :: a2 :: a3 :: t) (.ref x :: st) :=
  r_storeA hO hd (cd_st1_set (by simp) (fun j u hj hu => by
    have hj2 : j = 2 := by omega
    subst hj2
    have : a2 = some u := Option.some.inj hu
    subst this
    exact eq_of_beq hn)) kk
theorem r_inc3 (hO : cd_O w X cc own d mc ms l) {x v : Int32} {z : Int} {a0 a1 a2 : Option Value} {t : List (Option Value)} (hd : cd_D 3 cc pc (.iinc 3 z) pc') (hv : x + Int32.ofInt z = v) (hn : cd_nl a2 = true) (kk : cd_J w X k n S I pc' (a0 :: a1 :: a2 :: some (.int v) :: t) st) : cd_J w X k n S I pc (a0 :: a1 :: a2 :: some (.int x) :: t) st :=
  r_inc hO hd rfl hv (cd_st1_set (by simp) (fun j u hj hu => by
    have hj2 : j = 2 := by omega
    subst hj2
    have : a2 = some u := Option.some.inj hu
    subst this
    exact eq_of_beq hn)) kk
theorem r_sI4 (hO : cd_O w X cc own d mc ms l) {x : Int32} {a0 a1 a2 a3 a4 : Option Value} {t : List (Option Value)} (hd : cd_D_istore cc pc 4 pc') (hn : cd_nl a3 = true) (kk : cd_J w X k n S I pc' (a0 :: a1 :: a2 :: a3 :: some (.int x) :: t) st) : cd_J w X k n S I pc (a0 :: a1 :: a2 :: a3 :: a4 :: t) (.int x :: st) :=
  r_storeI hO hd (cd_st1_set (by simp) (fun j u hj hu => by
    have hj2 : j = 3 := by omega
    subst hj2
    have : a3 = some u := Option.some.inj hu
    subst this
    exact eq_of_beq hn)) kk
theorem r_sA4 (hO : cd_O w X cc own d mc ms l) {x : Nat} {a0 a1 a2 a3 a4 : Option Value} {t : List (Option Value)} (hd : cd_D_astore cc pc 4 pc') (hn : cd_nl a3 = true) (kk : cd_J w X k n S I pc' (a0 :: a1 :: a2 :: a3 :: some (.ref x) :: t) st) : cd_J w X k n S I pc (a0 :: a1 :: a2 :: a3 :: a4 :: t) (.ref x :: st) :=
  r_storeA hO hd (cd_st1_set (by simp) (fun j u hj hu => by
    have hj2 : j = 3 := by omega
    subst hj2
    have : a3 = some u := Option.some.inj hu
    subst this
    exact eq_of_beq hn)) kk
theorem r_inc4 (hO : cd_O w X cc own d mc ms l) {x v : Int32} {z : Int} {a0 a1 a2 a3 : Option Value} {t : List (Option Value)} (hd : cd_D 3 cc pc (.iinc 4 z) pc') (hv : x + Int32.ofInt z = v) (hn : cd_nl a3 = true) (kk : cd_J w X k n S I pc' (a0 :: a1 :: a2 :: a3 :: some (.int v) :: t) st) : cd_J w X k n S I pc (a0 :: a1 :: a2 :: a3 :: some (.int x) :: t) st :=
  r_inc hO hd rfl hv (cd_st1_set (by simp) (fun j u hj hu => by
    have hj2 : j = 3 := by omega
    subst hj2
    have : a3 = some u := Option.some.inj hu
    subst this
    exact eq_of_beq hn)) kk
theorem r_sI5 (hO : cd_O w X cc own d mc ms l) {x : Int32} {a0 a1 a2 a3 a4 a5 : Option Value} {t : List (Option Value)} (hd : cd_D_istore cc pc 5 pc') (hn : cd_nl a4 = true) (kk : cd_J w X k n S I pc' (a0 :: a1 :: a2 :: a3 :: a4 :: some (.int x) :: t) st) : cd_J w X k n S I pc (a0 :: a1 :: a2 :: a3 :: a4 :: a5 :: t) (.int x :: st) :=
  r_storeI hO hd (cd_st1_set (by simp) (fun j u hj hu => by
    have hj2 : j = 4 := by omega
    subst hj2
    have : a4 = some u := Option.some.inj hu
    subst this
    exact eq_of_beq hn)) kk
theorem r_sA5 (hO : cd_O w X cc own d mc ms l) {x : Nat} {a0 a1 a2 a3 a4 a5 : Option Value} {t : List (Option Value)} (hd : cd_D_astore cc pc 5 pc') (hn : cd_nl a4 = true) (kk : cd_J w X k n S I pc' (a0 :: a1 :: a2 :: a3 :: a4 :: some (.ref x) :: t) st) : cd_J w X k n S I pc (a0 :: a1 :: a2 :: a3 :: a4 :: a5 :: t) (.ref x :: st) :=
  r_storeA hO hd (cd_st1_set (by simp) (fun j u hj hu => by
    have hj2 : j = 4 := by omega
    subst hj2
    have : a4 = some u := Option.some.inj hu
    subst this
    exact eq_of_beq hn)) kk
theorem r_inc5 (hO : cd_O w X cc own d mc ms l) {x v : Int32} {z : Int} {a0 a1 a2 a3 a4 : Option Value} {t : List (Option Value)} (hd : cd_D 3 cc pc (.iinc 5 z) pc') (hv : x + Int32.ofInt z = v) (hn : cd_nl a4 = true) (kk : cd_J w X k n S I pc' (a0 :: a1 :: a2 :: a3 :: a4 :: some (.int v) :: t) st) : cd_J w X k n S I pc (a0 :: a1 :: a2 :: a3 :: a4 :: some (.int x) :: t) st :=
  r_inc hO hd rfl hv (cd_st1_set (by simp) (fun j u hj hu => by
    have hj2 : j = 4 := by omega
    subst hj2
    have : a4 = some u := Option.some.inj hu
    subst this
    exact eq_of_beq hn)) kk
theorem r_sI6 (hO : cd_O w X cc own d mc ms l) {x : Int32} {a0 a1 a2 a3 a4 a5 a6 : Option Value} {t : List (Option Value)} (hd : cd_D_istore cc pc 6 pc') (hn : cd_nl a5 = true) (kk : cd_J w X k n S I pc' (a0 :: a1 :: a2 :: a3 :: a4 :: a5 :: some (.int x) :: t) st) : cd_J w X k n S I pc (a0 :: a1 :: a2 :: a3 :: a4 :: a5 :: a6 :: t) (.int x :: st) :=
  r_storeI hO hd (cd_st1_set (by simp) (fun j u hj hu => by
    have hj2 : j = 5 := by omega
    subst hj2
    have : a5 = some u := Option.some.inj hu
    subst this
    exact eq_of_beq hn)) kk
theorem r_sA6 (hO : cd_O w X cc own d mc ms l) {x : Nat} {a0 a1 a2 a3 a4 a5 a6 : Option Value} {t : List (Option Value)} (hd : cd_D_astore cc pc 6 pc') (hn : cd_nl a5 = true) (kk : cd_J w X k n S I pc' (a0 :: a1 :: a2 :: a3 :: a4 :: a5 :: some (.ref x) :: t) st) : cd_J w X k n S I pc (a0 :: a1 :: a2 :: a3 :: a4 :: a5 :: a6 :: t) (.ref x :: st) :=
  r_storeA hO hd (cd_st1_set (by simp) (fun j u hj hu => by
    have hj2 : j = 5 := by omega
    subst hj2
    have : a5 = some u := Option.some.inj hu
    subst this
    exact eq_of_beq hn)) kk
theorem r_inc6 (hO : cd_O w X cc own d mc ms l) {x v : Int32} {z : Int} {a0 a1 a2 a3 a4 a5 : Option Value} {t : List (Option Value)} (hd : cd_D 3 cc pc (.iinc 6 z) pc') (hv : x + Int32.ofInt z = v) (hn : cd_nl a5 = true) (kk : cd_J w X k n S I pc' (a0 :: a1 :: a2 :: a3 :: a4 :: a5 :: some (.int v) :: t) st) : cd_J w X k n S I pc (a0 :: a1 :: a2 :: a3 :: a4 :: a5 :: some (.int x) :: t) st :=
  r_inc hO hd rfl hv (cd_st1_set (by simp) (fun j u hj hu => by
    have hj2 : j = 5 := by omega
    subst hj2
    have : a5 = some u := Option.some.inj hu
    subst this
    exact eq_of_beq hn)) kk
theorem r_sI7 (hO : cd_O w X cc own d mc ms l) {x : Int32} {a0 a1 a2 a3 a4 a5 a6 a7 : Option Value} {t : List (Option Value)} (hd : cd_D_istore cc pc 7 pc') (hn : cd_nl a6 = true) (kk : cd_J w X k n S I pc' (a0 :: a1 :: a2 :: a3 :: a4 :: a5 :: a6 :: some (.int x) :: t) st) : cd_J w X k n S I pc (a0 :: a1 :: a2 :: a3 :: a4 :: a5 :: a6 :: a7 :: t) (.int x :: st) :=
  r_storeI hO hd (cd_st1_set (by simp) (fun j u hj hu => by
    have hj2 : j = 6 := by omega
    subst hj2
    have : a6 = some u := Option.some.inj hu
    subst this
    exact eq_of_beq hn)) kk
theorem r_sA7 (hO : cd_O w X cc own d mc ms l) {x : Nat} {a0 a1 a2 a3 a4 a5 a6 a7 : Option Value} {t : List (Option Value)} (hd : cd_D_astore cc pc 7 pc') (hn : cd_nl a6 = true) (kk : cd_J w X k n S I pc' (a0 :: a1 :: a2 :: a3 :: a4 :: a5 :: a6 :: some (.ref x) :: t) st) : cd_J w X k n S I pc (a0 :: a1 :: a2 :: a3 :: a4 :: a5 :: a6 :: a7 :: t) (.ref x :: st) :=
  r_storeA hO hd (cd_st1_set (by simp) (fun j u hj hu => by
    have hj2 : j = 6 := by omega
    subst hj2
    have : a6 = some u := Option.some.inj hu
    subst this
    exact eq_of_beq hn)) kk
theorem r_inc7 (hO : cd_O w X cc own d mc ms l) {x v : Int32} {z : Int} {a0 a1 a2 a3 a4 a5 a6 : Option Value} {t : List (Option Value)} (hd : cd_D 3 cc pc (.iinc 7 z) pc') (hv : x + Int32.ofInt z = v) (hn : cd_nl a6 = true) (kk : cd_J w X k n S I pc' (a0 :: a1 :: a2 :: a3 :: a4 :: a5 :: a6 :: some (.int v) :: t) st) : cd_J w X k n S I pc (a0 :: a1 :: a2 :: a3 :: a4 :: a5 :: a6 :: some (.int x) :: t) st :=
  r_inc hO hd rfl hv (cd_st1_set (by simp) (fun j u hj hu => by
    have hj2 : j = 6 := by omega
    subst hj2
    have : a6 = some u := Option.some.inj hu
    subst this
    exact eq_of_beq hn)) kk
theorem r_sI8 (hO : cd_O w X cc own d mc ms l) {x : Int32} {a0 a1 a2 a3 a4 a5 a6 a7 a8 : Option Value} {t : List (Option Value)} (hd : cd_D_istore cc pc 8 pc') (hn : cd_nl a7 = true) (kk : cd_J w X k n S I pc' (a0 :: a1 :: a2 :: a3 :: a4 :: a5 :: a6 :: a7 :: some (.int x) :: t) st) : cd_J w X k n S I pc (a0 :: a1 :: a2 :: a3 :: a4 :: a5 :: a6 :: a7 :: a8 :: t) (.int x :: st) :=
  r_storeI hO hd (cd_st1_set (by simp) (fun j u hj hu => by
    have hj2 : j = 7 := by omega
    subst hj2
    have : a7 = some u := Option.some.inj hu
    subst this
    exact eq_of_beq hn)) kk
theorem r_sA8 (hO : cd_O w X cc own d mc ms l) {x : Nat} {a0 a1 a2 a3 a4 a5 a6 a7 a8 : Option Value} {t : List (Option Value)} (hd : cd_D_astore cc pc 8 pc') (hn : cd_nl a7 = true) (kk : cd_J w X k n S I pc' (a0 :: a1 :: a2 :: a3 :: a4 :: a5 :: a6 :: a7 :: some (.ref x) :: t) st) : cd_J w X k n S I pc (a0 :: a1 :: a2 :: a3 :: a4 :: a5 :: a6 :: a7 :: a8 :: t) (.ref x :: st) :=
  r_storeA hO hd (cd_st1_set (by simp) (fun j u hj hu => by
    have hj2 : j = 7 := by omega
    subst hj2
    have : a7 = some u := Option.some.inj hu
    subst this
    exact eq_of_beq hn)) kk
theorem r_inc8 (hO : cd_O w X cc own d mc ms l) {x v : Int32} {z : Int} {a0 a1 a2 a3 a4 a5 a6 a7 : Option Value} {t : List (Option Value)} (hd : cd_D 3 cc pc (.iinc 8 z) pc') (hv : x + Int32.ofInt z = v) (hn : cd_nl a7 = true) (kk : cd_J w X k n S I pc' (a0 :: a1 :: a2 :: a3 :: a4 :: a5 :: a6 :: a7 :: some (.int v) :: t) st) : cd_J w X k n S I pc (a0 :: a1 :: a2 :: a3 :: a4 :: a5 :: a6 :: a7 :: some (.int x) :: t) st :=
  r_inc hO hd rfl hv (cd_st1_set (by simp) (fun j u hj hu => by
    have hj2 : j = 7 := by omega
    subst hj2
    have : a7 = some u := Option.some.inj hu
    subst this
    exact eq_of_beq hn)) kk
theorem r_sI9 (hO : cd_O w X cc own d mc ms l) {x : Int32} {a0 a1 a2 a3 a4 a5 a6 a7 a8 a9 : Option Value} {t : List (Option Value)} (hd : cd_D_istore cc pc 9 pc') (hn : cd_nl a8 = true) (kk : cd_J w X k n S I pc' (a0 :: a1 :: a2 :: a3 :: a4 :: a5 :: a6 :: a7 :: a8 :: some (.int x) :: t) st) : cd_J w X k n S I pc (a0 :: a1 :: a2 :: a3 :: a4 :: a5 :: a6 :: a7 :: a8 :: a9 :: t) (.int x :: st) :=
  r_storeI hO hd (cd_st1_set (by simp) (fun j u hj hu => by
    have hj2 : j = 8 := by omega
    subst hj2
    have : a8 = some u := Option.some.inj hu
    subst this
    exact eq_of_beq hn)) kk
theorem r_sA9 (hO : cd_O w X cc own d mc ms l) {x : Nat} {a0 a1 a2 a3 a4 a5 a6 a7 a8 a9 : Option Value} {t : List (Option Value)} (hd : cd_D_astore cc pc 9 pc') (hn : cd_nl a8 = true) (kk : cd_J w X k n S I pc' (a0 :: a1 :: a2 :: a3 :: a4 :: a5 :: a6 :: a7 :: a8 :: some (.ref x) :: t) st) : cd_J w X k n S I pc (a0 :: a1 :: a2 :: a3 :: a4 :: a5 :: a6 :: a7 :: a8 :: a9 :: t) (.ref x :: st) :=
  r_storeA hO hd (cd_st1_set (by simp) (fun j u hj hu => by
    have hj2 : j = 8 := by omega
    subst hj2
    have : a8 = some u := Option.some.inj hu
    subst this
    exact eq_of_beq hn)) kk
theorem r_inc9 (hO : cd_O w X cc own d mc ms l) {x v : Int32} {z : Int} {a0 a1 a2 a3 a4 a5 a6 a7 a8 : Option Value} {t : List (Option Value)} (hd : cd_D 3 cc pc (.iinc 9 z) pc') (hv : x + Int32.ofInt z = v) (hn : cd_nl a8 = true) (kk : cd_J w X k n S I pc' (a0 :: a1 :: a2 :: a3 :: a4 :: a5 :: a6 :: a7 :: a8 :: some (.int v) :: t) st) : cd_J w X k n S I pc (a0 :: a1 :: a2 :: a3 :: a4 :: a5 :: a6 :: a7 :: a8 :: some (.int x) :: t) st :=
  r_inc hO hd rfl hv (cd_st1_set (by simp) (fun j u hj hu => by
    have hj2 : j = 8 := by omega
    subst hj2
    have : a8 = some u := Option.some.inj hu
    subst this
    exact eq_of_beq hn)) kk
theorem r_sI10 (hO : cd_O w X cc own d mc ms l) {x : Int32} {a0 a1 a2 a3 a4 a5 a6 a7 a8 a9 a10 : Option Value} {t : List (Option Value)} (hd : cd_D_istore cc pc 10 pc') (hn : cd_nl a9 = true) (kk : cd_J w X k n S I pc' (a0 :: a1 :: a2 :: a3 :: a4 :: a5 :: a6 :: a7 :: a8 :: a9 :: some (.int x) :: t) st) : cd_J w X k n S I pc (a0 :: a1 :: a2 :: a3 :: a4 :: a5 :: a6 :: a7 :: a8 :: a9 :: a10 :: t) (.int x :: st) :=
  r_storeI hO hd (cd_st1_set (by simp) (fun j u hj hu => by
    have hj2 : j = 9 := by omega
    subst hj2
    have : a9 = some u := Option.some.inj hu
    subst this
    exact eq_of_beq hn)) kk
theorem r_sA10 (hO : cd_O w X cc own d mc ms l) {x : Nat} {a0 a1 a2 a3 a4 a5 a6 a7 a8 a9 a10 : Option Value} {t : List (Option Value)} (hd : cd_D_astore cc pc 10 pc') (hn : cd_nl a9 = true) (kk : cd_J w X k n S I pc' (a0 :: a1 :: a2 :: a3 :: a4 :: a5 :: a6 :: a7 :: a8 :: a9 :: some (.ref x) :: t) st) : cd_J w X k n S I pc (a0 :: a1 :: a2 :: a3 :: a4 :: a5 :: a6 :: a7 :: a8 :: a9 :: a10 :: t) (.ref x :: st) :=
  r_storeA hO hd (cd_st1_set (by simp) (fun j u hj hu => by
    have hj2 : j = 9 := by omega
    subst hj2
    have : a9 = some u := Option.some.inj hu
    subst this
    exact eq_of_beq hn)) kk
theorem r_inc10 (hO : cd_O w X cc own d mc ms l) {x v : Int32} {z : Int} {a0 a1 a2 a3 a4 a5 a6 a7 a8 a9 : Option Value} {t : List (Option Value)} (hd : cd_D 3 cc pc (.iinc 10 z) pc') (hv : x + Int32.ofInt z = v) (hn : cd_nl a9 = true) (kk : cd_J w X k n S I pc' (a0 :: a1 :: a2 :: a3 :: a4 :: a5 :: a6 :: a7 :: a8 :: a9 :: some (.int v) :: t) st) : cd_J w X k n S I pc (a0 :: a1 :: a2 :: a3 :: a4 :: a5 :: a6 :: a7 :: a8 :: a9 :: some (.int x) :: t) st :=
  r_inc hO hd rfl hv (cd_st1_set (by simp) (fun j u hj hu => by
    have hj2 : j = 9 := by omega
    subst hj2
    have : a9 = some u := Option.some.inj hu
    subst this
    exact eq_of_beq hn)) kk
theorem r_sI11 (hO : cd_O w X cc own d mc ms l) {x : Int32} {a0 a1 a2 a3 a4 a5 a6 a7 a8 a9 a10 a11 : Option Value} {t : List (Option Value)} (hd : cd_D_istore cc pc 11 pc') (hn : cd_nl a10 = true) (kk : cd_J w X k n S I pc' (a0 :: a1 :: a2 :: a3 :: a4 :: a5 :: a6 :: a7 :: a8 :: a9 :: a10 :: some (.int x) :: t) st) : cd_J w X k n S I pc (a0 :: a1 :: a2 :: a3 :: a4 :: a5 :: a6 :: a7 :: a8 :: a9 :: a10 :: a11 :: t) (.int x :: st) :=
  r_storeI hO hd (cd_st1_set (by simp) (fun j u hj hu => by
    have hj2 : j = 10 := by omega
    subst hj2
    have : a10 = some u := Option.some.inj hu
    subst this
    exact eq_of_beq hn)) kk
theorem r_sA11 (hO : cd_O w X cc own d mc ms l) {x : Nat} {a0 a1 a2 a3 a4 a5 a6 a7 a8 a9 a10 a11 : Option Value} {t : List (Option Value)} (hd : cd_D_astore cc pc 11 pc') (hn : cd_nl a10 = true) (kk : cd_J w X k n S I pc' (a0 :: a1 :: a2 :: a3 :: a4 :: a5 :: a6 :: a7 :: a8 :: a9 :: a10 :: some (.ref x) :: t) st) : cd_J w X k n S I pc (a0 :: a1 :: a2 :: a3 :: a4 :: a5 :: a6 :: a7 :: a8 :: a9 :: a10 :: a11 :: t) (.ref x :: st) :=
  r_storeA hO hd (cd_st1_set (by simp) (fun j u hj hu => by
    have hj2 : j = 10 := by omega
    subst hj2
    have : a10 = some u := Option.some.inj hu
    subst this
    exact eq_of_beq hn)) kk
theorem r_inc11 (hO : cd_O w X cc own d mc ms l) {x v : Int32} {z : Int} {a0 a1 a2 a3 a4 a5 a6 a7 a8 a9 a10 : Option Value} {t : List (Option Value)} (hd : cd_D 3 cc pc (.iinc 11 z) pc') (hv : x + Int32.ofInt z = v) (hn : cd_nl a10 = true) (kk : cd_J w X k n S I pc' (a0 :: a1 :: a2 :: a3 :: a4 :: a5 :: a6 :: a7 :: a8 :: a9 :: a10 :: some (.int v) :: t) st) : cd_J w X k n S I pc (a0 :: a1 :: a2 :: a3 :: a4 :: a5 :: a6 :: a7 :: a8 :: a9 :: a10 :: some (.int x) :: t) st :=
  r_inc hO hd rfl hv (cd_st1_set (by simp) (fun j u hj hu => by
    have hj2 : j = 10 := by omega
    subst hj2
    have : a10 = some u := Option.some.inj hu
    subst this
    exact eq_of_beq hn)) kk
theorem r_sI12 (hO : cd_O w X cc own d mc ms l) {x : Int32} {a0 a1 a2 a3 a4 a5 a6 a7 a8 a9 a10 a11 a12 : Option Value} {t : List (Option Value)} (hd : cd_D_istore cc pc 12 pc') (hn : cd_nl a11 = true) (kk : cd_J w X k n S I pc' (a0 :: a1 :: a2 :: a3 :: a4 :: a5 :: a6 :: a7 :: a8 :: a9 :: a10 :: a11 :: some (.int x) :: t) st) : cd_J w X k n S I pc (a0 :: a1 :: a2 :: a3 :: a4 :: a5 :: a6 :: a7 :: a8 :: a9 :: a10 :: a11 :: a12 :: t) (.int x :: st) :=
  r_storeI hO hd (cd_st1_set (by simp) (fun j u hj hu => by
    have hj2 : j = 11 := by omega
    subst hj2
    have : a11 = some u := Option.some.inj hu
    subst this
    exact eq_of_beq hn)) kk
theorem r_sA12 (hO : cd_O w X cc own d mc ms l) {x : Nat} {a0 a1 a2 a3 a4 a5 a6 a7 a8 a9 a10 a11 a12 : Option Value} {t : List (Option Value)} (hd : cd_D_astore cc pc 12 pc') (hn : cd_nl a11 = true) (kk : cd_J w X k n S I pc' (a0 :: a1 :: a2 :: a3 :: a4 :: a5 :: a6 :: a7 :: a8 :: a9 :: a10 :: a11 :: some (.ref x) :: t) st) : cd_J w X k n S I pc (a0 :: a1 :: a2 :: a3 :: a4 :: a5 :: a6 :: a7 :: a8 :: a9 :: a10 :: a11 :: a12 :: t) (.ref x :: st) :=
  r_storeA hO hd (cd_st1_set (by simp) (fun j u hj hu => by
    have hj2 : j = 11 := by omega
    subst hj2
    have : a11 = some u := Option.some.inj hu
    subst this
    exact eq_of_beq hn)) kk
theorem r_inc12 (hO : cd_O w X cc own d mc ms l) {x v : Int32} {z : Int} {a0 a1 a2 a3 a4 a5 a6 a7 a8 a9 a10 a11 : Option Value} {t : List (Option Value)} (hd : cd_D 3 cc pc (.iinc 12 z) pc') (hv : x + Int32.ofInt z = v) (hn : cd_nl a11 = true) (kk : cd_J w X k n S I pc' (a0 :: a1 :: a2 :: a3 :: a4 :: a5 :: a6 :: a7 :: a8 :: a9 :: a10 :: a11 :: some (.int v) :: t) st) : cd_J w X k n S I pc (a0 :: a1 :: a2 :: a3 :: a4 :: a5 :: a6 :: a7 :: a8 :: a9 :: a10 :: a11 :: some (.int x) :: t) st :=
  r_inc hO hd rfl hv (cd_st1_set (by simp) (fun j u hj hu => by
    have hj2 : j = 11 := by omega
    subst hj2
    have : a11 = some u := Option.some.inj hu
    subst this
    exact eq_of_beq hn)) kk
theorem r_sI13 (hO : cd_O w X cc own d mc ms l) {x : Int32} {a0 a1 a2 a3 a4 a5 a6 a7 a8 a9 a10 a11 a12 a13 : Option Value} {t : List (Option Value)} (hd : cd_D_istore cc pc 13 pc') (hn : cd_nl a12 = true) (kk : cd_J w X k n S I pc' (a0 :: a1 :: a2 :: a3 :: a4 :: a5 :: a6 :: a7 :: a8 :: a9 :: a10 :: a11 :: a12 :: some (.int x) :: t) st) : cd_J w X k n S I pc (a0 :: a1 :: a2 :: a3 :: a4 :: a5 :: a6 :: a7 :: a8 :: a9 :: a10 :: a11 :: a12 :: a13 :: t) (.int x :: st) :=
  r_storeI hO hd (cd_st1_set (by simp) (fun j u hj hu => by
    have hj2 : j = 12 := by omega
    subst hj2
    have : a12 = some u := Option.some.inj hu
    subst this
    exact eq_of_beq hn)) kk
theorem r_sA13 (hO : cd_O w X cc own d mc ms l) {x : Nat} {a0 a1 a2 a3 a4 a5 a6 a7 a8 a9 a10 a11 a12 a13 : Option Value} {t : List (Option Value)} (hd : cd_D_astore cc pc 13 pc') (hn : cd_nl a12 = true) (kk : cd_J w X k n S I pc' (a0 :: a1 :: a2 :: a3 :: a4 :: a5 :: a6 :: a7 :: a8 :: a9 :: a10 :: a11 :: a12 :: some (.ref x) :: t) st) : cd_J w X k n S I pc (a0 :: a1 :: a2 :: a3 :: a4 :: a5 :: a6 :: a7 :: a8 :: a9 :: a10 :: a11 :: a12 :: a13 :: t) (.ref x :: st) :=
  r_storeA hO hd (cd_st1_set (by simp) (fun j u hj hu => by
    have hj2 : j = 12 := by omega
    subst hj2
    have : a12 = some u := Option.some.inj hu
    subst this
    exact eq_of_beq hn)) kk
theorem r_inc13 (hO : cd_O w X cc own d mc ms l) {x v : Int32} {z : Int} {a0 a1 a2 a3 a4 a5 a6 a7 a8 a9 a10 a11 a12 : Option Value} {t : List (Option Value)} (hd : cd_D 3 cc pc (.iinc 13 z) pc') (hv : x + Int32.ofInt z = v) (hn : cd_nl a12 = true) (kk : cd_J w X k n S I pc' (a0 :: a1 :: a2 :: a3 :: a4 :: a5 :: a6 :: a7 :: a8 :: a9 :: a10 :: a11 :: a12 :: some (.int v) :: t) st) : cd_J w X k n S I pc (a0 :: a1 :: a2 :: a3 :: a4 :: a5 :: a6 :: a7 :: a8 :: a9 :: a10 :: a11 :: a12 :: some (.int x) :: t) st :=
  r_inc hO hd rfl hv (cd_st1_set (by simp) (fun j u hj hu => by
    have hj2 : j = 12 := by omega
    subst hj2
    have : a12 = some u := Option.some.inj hu
    subst this
    exact eq_of_beq hn)) kk
theorem r_sI14 (hO : cd_O w X cc own d mc ms l) {x : Int32} {a0 a1 a2 a3 a4 a5 a6 a7 a8 a9 a10 a11 a12 a13 a14 : Option Value} {t : List (Option Value)} (hd : cd_D_istore cc pc 14 pc') (hn : cd_nl a13 = true) (kk : cd_J w X k n S I pc' (a0 :: a1 :: a2 :: a3 :: a4 :: a5 :: a6 :: a7 :: a8 :: a9 :: a10 :: a11 :: a12 :: a13 :: some (.int x) :: t) st) : cd_J w X k n S I pc (a0 :: a1 :: a2 :: a3 :: a4 :: a5 :: a6 :: a7 :: a8 :: a9 :: a10 :: a11 :: a12 :: a13 :: a14 :: t) (.int x :: st) :=
  r_storeI hO hd (cd_st1_set (by simp) (fun j u hj hu => by
    have hj2 : j = 13 := by omega
    subst hj2
    have : a13 = some u := Option.some.inj hu
    subst this
    exact eq_of_beq hn)) kk
theorem r_sA14 (hO : cd_O w X cc own d mc ms l) {x : Nat} {a0 a1 a2 a3 a4 a5 a6 a7 a8 a9 a10 a11 a12 a13 a14 : Option Value} {t : List (Option Value)} (hd : cd_D_astore cc pc 14 pc') (hn : cd_nl a13 = true) (kk : cd_J w X k n S I pc' (a0 :: a1 :: a2 :: a3 :: a4 :: a5 :: a6 :: a7 :: a8 :: a9 :: a10 :: a11 :: a12 :: a13 :: some (.ref x) :: t) st) : cd_J w X k n S I pc (a0 :: a1 :: a2 :: a3 :: a4 :: a5 :: a6 :: a7 :: a8 :: a9 :: a10 :: a11 :: a12 :: a13 :: a14 :: t) (.ref x :: st) :=
  r_storeA hO hd (cd_st1_set (by simp) (fun j u hj hu => by
    have hj2 : j = 13 := by omega
    subst hj2
    have : a13 = some u := Option.some.inj hu
    subst this
    exact eq_of_beq hn)) kk
theorem r_inc14 (hO : cd_O w X cc own d mc ms l) {x v : Int32} {z : Int} {a0 a1 a2 a3 a4 a5 a6 a7 a8 a9 a10 a11 a12 a13 : Option Value} {t : List (Option Value)} (hd : cd_D 3 cc pc (.iinc 14 z) pc') (hv : x + Int32.ofInt z = v) (hn : cd_nl a13 = true) (kk : cd_J w X k n S I pc' (a0 :: a1 :: a2 :: a3 :: a4 :: a5 :: a6 :: a7 :: a8 :: a9 :: a10 :: a11 :: a12 :: a13 :: some (.int v) :: t) st) : cd_J w X k n S I pc (a0 :: a1 :: a2 :: a3 :: a4 :: a5 :: a6 :: a7 :: a8 :: a9 :: a10 :: a11 :: a12 :: a13 :: some (.int x) :: t) st :=
  r_inc hO hd rfl hv (cd_st1_set (by simp) (fun j u hj hu => by
    have hj2 : j = 13 := by omega
    subst hj2
    have : a13 = some u := Option.some.inj hu
    subst this
    exact eq_of_beq hn)) kk
theorem r_iadd (hO : cd_O w X cc own d mc ms l) {x y : Int32} (hd : cd_D 1 cc pc .iadd pc') (kk : cd_J w X k n S I pc' lv (.int (x + y) :: st)) : cd_J w X k n S I pc lv (.int y :: .int x :: st) := by
  intro H ls locs hR hL hq
  obtain ⟨hd, rfl⟩ := hd
  exact lv_iadd hO.1 hO.2.1 hd (kk H ls locs hR hL hq)
theorem r_isub (hO : cd_O w X cc own d mc ms l) {x y : Int32} (hd : cd_D 1 cc pc .isub pc') (kk : cd_J w X k n S I pc' lv (.int (x - y) :: st)) : cd_J w X k n S I pc lv (.int y :: .int x :: st) := by
  intro H ls locs hR hL hq
  obtain ⟨hd, rfl⟩ := hd
  exact lv_isub hO.1 hO.2.1 hd (kk H ls locs hR hL hq)
theorem r_imul (hO : cd_O w X cc own d mc ms l) {x y : Int32} (hd : cd_D 1 cc pc .imul pc') (kk : cd_J w X k n S I pc' lv (.int (x * y) :: st)) : cd_J w X k n S I pc lv (.int y :: .int x :: st) := by
  intro H ls locs hR hL hq
  obtain ⟨hd, rfl⟩ := hd
  exact lv_imul hO.1 hO.2.1 hd (kk H ls locs hR hL hq)
theorem r_iand (hO : cd_O w X cc own d mc ms l) {x y : Int32} (hd : cd_D 1 cc pc .iand pc') (kk : cd_J w X k n S I pc' lv (.int (x &&& y) :: st)) : cd_J w X k n S I pc lv (.int y :: .int x :: st) := by
  intro H ls locs hR hL hq
  obtain ⟨hd, rfl⟩ := hd
  exact lv_iand hO.1 hO.2.1 hd (kk H ls locs hR hL hq)
theorem r_ior (hO : cd_O w X cc own d mc ms l) {x y : Int32} (hd : cd_D 1 cc pc .ior pc') (kk : cd_J w X k n S I pc' lv (.int (x ||| y) :: st)) : cd_J w X k n S I pc lv (.int y :: .int x :: st) := by
  intro H ls locs hR hL hq
  obtain ⟨hd, rfl⟩ := hd
  exact lv_ior hO.1 hO.2.1 hd (kk H ls locs hR hL hq)
theorem r_ishl (hO : cd_O w X cc own d mc ms l) {x y : Int32} (hd : cd_D 1 cc pc .ishl pc') (kk : cd_J w X k n S I pc' lv (.int (x <<< (y &&& 31)) :: st)) : cd_J w X k n S I pc lv (.int y :: .int x :: st) := by
  intro H ls locs hR hL hq
  obtain ⟨hd, rfl⟩ := hd
  exact lv_ishl hO.1 hO.2.1 hd (kk H ls locs hR hL hq)
theorem r_ishr (hO : cd_O w X cc own d mc ms l) {x y : Int32} (hd : cd_D 1 cc pc .ishr pc') (kk : cd_J w X k n S I pc' lv (.int (x >>> (y &&& 31)) :: st)) : cd_J w X k n S I pc lv (.int y :: .int x :: st) := by
  intro H ls locs hR hL hq
  obtain ⟨hd, rfl⟩ := hd
  exact lv_ishr hO.1 hO.2.1 hd (kk H ls locs hR hL hq)
def cd_rem (x y : Int32) : Int32 := x - x / y * y
def cd_ush (x y : Int32) : Int32 := (x.toUInt32 >>> (y.toUInt32 &&& Int32.toUInt32 31)).toInt32
theorem r_idiv (hO : cd_O w X cc own d mc ms l) {x y : Int32} (hd : cd_D 1 cc pc .idiv pc') (hne : ¬ y = 0) (kk : cd_J w X k n S I pc' lv (.int (x / y) :: st)) : cd_J w X k n S I pc lv (.int y :: .int x :: st) := by
  intro H ls locs hR hL hq
  obtain ⟨hd, rfl⟩ := hd
  exact lv_idiv hO.1 hO.2.1 hd hne (kk H ls locs hR hL hq)
theorem r_irem (hO : cd_O w X cc own d mc ms l) {x y : Int32} (hd : cd_D 1 cc pc .irem pc') (hne : ¬ y = 0) (kk : cd_J w X k n S I pc' lv (.int (cd_rem x y) :: st)) : cd_J w X k n S I pc lv (.int y :: .int x :: st) := by
  intro H ls locs hR hL hq
  obtain ⟨hd, rfl⟩ := hd
  exact lv_irem hO.1 hO.2.1 hd hne (kk H ls locs hR hL hq)
theorem r_iushr (hO : cd_O w X cc own d mc ms l) {x y : Int32} (hd : cd_D 1 cc pc .iushr pc') (kk : cd_J w X k n S I pc' lv (.int (cd_ush x y) :: st)) : cd_J w X k n S I pc lv (.int y :: .int x :: st) := by
  intro H ls locs hR hL hq
  obtain ⟨hd, rfl⟩ := hd
  exact lv_iushr hO.1 hO.2.1 hd rfl (kk H ls locs hR hL hq)
theorem r_ineg (hO : cd_O w X cc own d mc ms l) {x : Int32} (hd : cd_D 1 cc pc .ineg pc') (kk : cd_J w X k n S I pc' lv (.int (-x) :: st)) : cd_J w X k n S I pc lv (.int x :: st) := by
  intro H ls locs hR hL hq
  obtain ⟨hd, rfl⟩ := hd
  exact lv_ineg hO.1 hO.2.1 hd (kk H ls locs hR hL hq)
theorem r_i2s (hO : cd_O w X cc own d mc ms l) {x : Int32} (hd : cd_D 1 cc pc .i2s pc') (kk : cd_J w X k n S I pc' lv (.int x.toInt16.toInt32 :: st)) : cd_J w X k n S I pc lv (.int x :: st) := by
  intro H ls locs hR hL hq
  obtain ⟨hd, rfl⟩ := hd
  exact lv_i2s hO.1 hO.2.1 hd rfl (kk H ls locs hR hL hq)
theorem r_i2b (hO : cd_O w X cc own d mc ms l) {x : Int32} (hd : cd_D 1 cc pc .i2b pc') (kk : cd_J w X k n S I pc' lv (.int x.toInt8.toInt32 :: st)) : cd_J w X k n S I pc lv (.int x :: st) := by
  intro H ls locs hR hL hq
  obtain ⟨hd, rfl⟩ := hd
  exact lv_i2b hO.1 hO.2.1 hd rfl (kk H ls locs hR hL hq)
theorem r_i2c (hO : cd_O w X cc own d mc ms l) {x : Int32} (hd : cd_D 1 cc pc .i2c pc') (kk : cd_J w X k n S I pc' lv (.int (x.toUInt32 % 65536).toInt32 :: st)) : cd_J w X k n S I pc lv (.int x :: st) := by
  intro H ls locs hR hL hq
  obtain ⟨hd, rfl⟩ := hd
  exact lv_i2c hO.1 hO.2.1 hd rfl (kk H ls locs hR hL hq)
theorem r_i2l (hO : cd_O w X cc own d mc ms l) {x : Int32} (hd : cd_D 1 cc pc .i2l pc') (kk : cd_J w X k n S I pc' lv (.long x.toInt64 :: st)) : cd_J w X k n S I pc lv (.int x :: st) := by
  intro H ls locs hR hL hq
  obtain ⟨hd, rfl⟩ := hd
  exact lv_i2l hO.1 hO.2.1 hd rfl (kk H ls locs hR hL hq)
theorem r_l2i (hO : cd_O w X cc own d mc ms l) {x : Int64} (hd : cd_D 1 cc pc .l2i pc') (kk : cd_J w X k n S I pc' lv (.int x.toInt32 :: st)) : cd_J w X k n S I pc lv (.long x :: st) := by
  intro H ls locs hR hL hq
  obtain ⟨hd, rfl⟩ := hd
  exact lv_l2i hO.1 hO.2.1 hd rfl (kk H ls locs hR hL hq)
theorem r_lneg (hO : cd_O w X cc own d mc ms l) {x : Int64} (hd : cd_D 1 cc pc .lneg pc') (kk : cd_J w X k n S I pc' lv (.long (-x) :: st)) : cd_J w X k n S I pc lv (.long x :: st) := by
  intro H ls locs hR hL hq
  obtain ⟨hd, rfl⟩ := hd
  exact lv_lneg hO.1 hO.2.1 hd (kk H ls locs hR hL hq)
theorem r_ladd (hO : cd_O w X cc own d mc ms l) {x y : Int64} (hd : cd_D 1 cc pc .ladd pc') (kk : cd_J w X k n S I pc' lv (.long (x + y) :: st)) : cd_J w X k n S I pc lv (.long y :: .long x :: st) := by
  intro H ls locs hR hL hq
  obtain ⟨hd, rfl⟩ := hd
  exact lv_ladd hO.1 hO.2.1 hd (kk H ls locs hR hL hq)
theorem r_lsub (hO : cd_O w X cc own d mc ms l) {x y : Int64} (hd : cd_D 1 cc pc .lsub pc') (kk : cd_J w X k n S I pc' lv (.long (x - y) :: st)) : cd_J w X k n S I pc lv (.long y :: .long x :: st) := by
  intro H ls locs hR hL hq
  obtain ⟨hd, rfl⟩ := hd
  exact lv_lsub hO.1 hO.2.1 hd (kk H ls locs hR hL hq)
theorem r_lcmp (hO : cd_O w X cc own d mc ms l) {x y : Int64} (hd : cd_D 1 cc pc .lcmp pc') (kk : cd_J w X k n S I pc' lv (.int (lg_cmp x y) :: st)) : cd_J w X k n S I pc lv (.long y :: .long x :: st) := by
  intro H ls locs hR hL hq
  obtain ⟨hd, rfl⟩ := hd
  exact W.lcmp hO.1 hO.2.1 hd (kk H ls locs hR hL hq)
theorem r_dup (hO : cd_O w X cc own d mc ms l) {v : Value} (hd : cd_D 1 cc pc .dup pc') (hv : v.category = 1) (kk : cd_J w X k n S I pc' lv (v :: v :: st)) : cd_J w X k n S I pc lv (v :: st) := by
  intro H ls locs hR hL hq
  obtain ⟨hd, rfl⟩ := hd
  exact lv_dup hO.1 hO.2.1 hd hv (kk H ls locs hR hL hq)
theorem r_dup2 (hO : cd_O w X cc own d mc ms l) {u v : Value} (hd : cd_D 1 cc pc .dup2 pc') (hu : u.category = 1) (hv : v.category = 1) (kk : cd_J w X k n S I pc' lv (u :: v :: u :: v :: st)) : cd_J w X k n S I pc lv (u :: v :: st) := by
  intro H ls locs hR hL hq
  obtain ⟨hd, rfl⟩ := hd
  exact lv_dup2_11 hO.1 hO.2.1 hd hu hv (kk H ls locs hR hL hq)
theorem r_pop (hO : cd_O w X cc own d mc ms l) {v : Value} (hd : cd_D 1 cc pc .pop pc') (hv : v.category = 1) (kk : cd_J w X k n S I pc' lv st) : cd_J w X k n S I pc lv (v :: st) := by
  intro H ls locs hR hL hq
  obtain ⟨hd, rfl⟩ := hd
  exact lv_pop hO.1 hO.2.1 hd hv (kk H ls locs hR hL hq)
theorem r_null (hO : cd_O w X cc own d mc ms l) (hd : cd_D 1 cc pc .aconst_null pc') (kk : cd_J w X k n S I pc' lv (.null :: st)) : cd_J w X k n S I pc lv st := by
  intro H ls locs hR hL hq
  obtain ⟨hd, rfl⟩ := hd
  exact lv_null hO.1 hO.2.1 hd (kk H ls locs hR hL hq)
theorem r_goto (hO : cd_O w X cc own d mc ms l) (hd : cd_D_goto cc pc tgt) (kk : cd_J w X k n S I tgt lv st) : cd_J w X k n S I pc lv st := by
  intro H ls locs hR hL hq
  obtain ⟨off, hd, ht⟩ := hd
  exact lv_goto hO.1 hO.2.1 hd ht (kk H ls locs hR hL hq)
def cd_bI (c : Prop) [Decidable c] : Int32 := if c then 1 else 0
theorem cd_bI0 {c : Prop} [Decidable c] : cd_bI c = 0 ↔ ¬ c := by
  unfold cd_bI
  by_cases h : c <;> simp [h]
theorem cd_bI1 {c : Prop} [Decidable c] : cd_bI c = 1 ↔ c := by
  unfold cd_bI
  by_cases h : c <;> simp [h]

theorem r_if_eq (hO : cd_O w X cc own d mc ms l) {x : Int32} (hd : cd_D_if_eq cc pc tgt pc') (kt : x = 0 → cd_J w X k n S I tgt lv st) (kf : ¬ x = 0 → cd_J w X k n S I pc' lv st) : cd_J w X k n S I pc lv (.int x :: st) := by
  intro H ls locs hR hL hq
  obtain ⟨off, hd, ht, rfl⟩ := hd
  exact lv_if_eq hO.1 hO.2.1 hd ht (fun h => kt h H ls locs hR hL hq) (fun h => kf h H ls locs hR hL hq)
theorem r_icmp_eq (hO : cd_O w X cc own d mc ms l) {x y : Int32} (hd : cd_D_icmp_eq cc pc tgt pc') (kt : x = y → cd_J w X k n S I tgt lv st) (kf : ¬ x = y → cd_J w X k n S I pc' lv st) : cd_J w X k n S I pc lv (.int y :: .int x :: st) := by
  intro H ls locs hR hL hq
  obtain ⟨off, hd, ht, rfl⟩ := hd
  exact lv_icmp_eq hO.1 hO.2.1 hd ht (fun h => kt h H ls locs hR hL hq) (fun h => kf h H ls locs hR hL hq)
theorem r_if_ne (hO : cd_O w X cc own d mc ms l) {x : Int32} (hd : cd_D_if_ne cc pc tgt pc') (kt : ¬ x = 0 → cd_J w X k n S I tgt lv st) (kf : x = 0 → cd_J w X k n S I pc' lv st) : cd_J w X k n S I pc lv (.int x :: st) := by
  intro H ls locs hR hL hq
  obtain ⟨off, hd, ht, rfl⟩ := hd
  exact lv_if_ne hO.1 hO.2.1 hd ht (fun h => kt h H ls locs hR hL hq) (fun h => kf h H ls locs hR hL hq)
theorem r_icmp_ne (hO : cd_O w X cc own d mc ms l) {x y : Int32} (hd : cd_D_icmp_ne cc pc tgt pc') (kt : ¬ x = y → cd_J w X k n S I tgt lv st) (kf : x = y → cd_J w X k n S I pc' lv st) : cd_J w X k n S I pc lv (.int y :: .int x :: st) := by
  intro H ls locs hR hL hq
  obtain ⟨off, hd, ht, rfl⟩ := hd
  exact lv_icmp_ne hO.1 hO.2.1 hd ht (fun h => kt h H ls locs hR hL hq) (fun h => kf h H ls locs hR hL hq)
theorem r_if_lt (hO : cd_O w X cc own d mc ms l) {x : Int32} (hd : cd_D_if_lt cc pc tgt pc') (kt : x < 0 → cd_J w X k n S I tgt lv st) (kf : ¬ x < 0 → cd_J w X k n S I pc' lv st) : cd_J w X k n S I pc lv (.int x :: st) := by
  intro H ls locs hR hL hq
  obtain ⟨off, hd, ht, rfl⟩ := hd
  exact lv_if_lt hO.1 hO.2.1 hd ht (fun h => kt h H ls locs hR hL hq) (fun h => kf h H ls locs hR hL hq)
theorem r_icmp_lt (hO : cd_O w X cc own d mc ms l) {x y : Int32} (hd : cd_D_icmp_lt cc pc tgt pc') (kt : x < y → cd_J w X k n S I tgt lv st) (kf : ¬ x < y → cd_J w X k n S I pc' lv st) : cd_J w X k n S I pc lv (.int y :: .int x :: st) := by
  intro H ls locs hR hL hq
  obtain ⟨off, hd, ht, rfl⟩ := hd
  exact lv_icmp_lt hO.1 hO.2.1 hd ht (fun h => kt h H ls locs hR hL hq) (fun h => kf h H ls locs hR hL hq)
theorem r_if_ge (hO : cd_O w X cc own d mc ms l) {x : Int32} (hd : cd_D_if_ge cc pc tgt pc') (kt : 0 ≤ x → cd_J w X k n S I tgt lv st) (kf : ¬ 0 ≤ x → cd_J w X k n S I pc' lv st) : cd_J w X k n S I pc lv (.int x :: st) := by
  intro H ls locs hR hL hq
  obtain ⟨off, hd, ht, rfl⟩ := hd
  exact lv_if_ge hO.1 hO.2.1 hd ht (fun h => kt h H ls locs hR hL hq) (fun h => kf h H ls locs hR hL hq)
theorem r_icmp_ge (hO : cd_O w X cc own d mc ms l) {x y : Int32} (hd : cd_D_icmp_ge cc pc tgt pc') (kt : y ≤ x → cd_J w X k n S I tgt lv st) (kf : ¬ y ≤ x → cd_J w X k n S I pc' lv st) : cd_J w X k n S I pc lv (.int y :: .int x :: st) := by
  intro H ls locs hR hL hq
  obtain ⟨off, hd, ht, rfl⟩ := hd
  exact lv_icmp_ge hO.1 hO.2.1 hd ht (fun h => kt h H ls locs hR hL hq) (fun h => kf h H ls locs hR hL hq)
theorem r_if_gt (hO : cd_O w X cc own d mc ms l) {x : Int32} (hd : cd_D_if_gt cc pc tgt pc') (kt : 0 < x → cd_J w X k n S I tgt lv st) (kf : ¬ 0 < x → cd_J w X k n S I pc' lv st) : cd_J w X k n S I pc lv (.int x :: st) := by
  intro H ls locs hR hL hq
  obtain ⟨off, hd, ht, rfl⟩ := hd
  exact lv_if_gt hO.1 hO.2.1 hd ht (fun h => kt h H ls locs hR hL hq) (fun h => kf h H ls locs hR hL hq)
theorem r_icmp_gt (hO : cd_O w X cc own d mc ms l) {x y : Int32} (hd : cd_D_icmp_gt cc pc tgt pc') (kt : y < x → cd_J w X k n S I tgt lv st) (kf : ¬ y < x → cd_J w X k n S I pc' lv st) : cd_J w X k n S I pc lv (.int y :: .int x :: st) := by
  intro H ls locs hR hL hq
  obtain ⟨off, hd, ht, rfl⟩ := hd
  exact lv_icmp_gt hO.1 hO.2.1 hd ht (fun h => kt h H ls locs hR hL hq) (fun h => kf h H ls locs hR hL hq)
theorem r_if_le (hO : cd_O w X cc own d mc ms l) {x : Int32} (hd : cd_D_if_le cc pc tgt pc') (kt : x ≤ 0 → cd_J w X k n S I tgt lv st) (kf : ¬ x ≤ 0 → cd_J w X k n S I pc' lv st) : cd_J w X k n S I pc lv (.int x :: st) := by
  intro H ls locs hR hL hq
  obtain ⟨off, hd, ht, rfl⟩ := hd
  exact lv_if_le hO.1 hO.2.1 hd ht (fun h => kt h H ls locs hR hL hq) (fun h => kf h H ls locs hR hL hq)
theorem r_icmp_le (hO : cd_O w X cc own d mc ms l) {x y : Int32} (hd : cd_D_icmp_le cc pc tgt pc') (kt : x ≤ y → cd_J w X k n S I tgt lv st) (kf : ¬ x ≤ y → cd_J w X k n S I pc' lv st) : cd_J w X k n S I pc lv (.int y :: .int x :: st) := by
  intro H ls locs hR hL hq
  obtain ⟨off, hd, ht, rfl⟩ := hd
  exact lv_icmp_le hO.1 hO.2.1 hd ht (fun h => kt h H ls locs hR hL hq) (fun h => kf h H ls locs hR hL hq)
theorem r_if_eqB (hO : cd_O w X cc own d mc ms l) {c : Prop} [Decidable c] (hd : cd_D_if_eq cc pc tgt pc') (kt : ¬ c → cd_J w X k n S I tgt lv st) (kf : c → cd_J w X k n S I pc' lv st) : cd_J w X k n S I pc lv (.int (cd_bI c) :: st) :=
  r_if_eq hO hd (fun h => kt (cd_bI0.mp h)) (fun h => kf (Decidable.byContradiction fun q => h (cd_bI0.mpr q)))
theorem r_if_neB (hO : cd_O w X cc own d mc ms l) {c : Prop} [Decidable c] (hd : cd_D_if_ne cc pc tgt pc') (kt : c → cd_J w X k n S I tgt lv st) (kf : ¬ c → cd_J w X k n S I pc' lv st) : cd_J w X k n S I pc lv (.int (cd_bI c) :: st) :=
  r_if_ne hO hd (fun h => kt (Decidable.byContradiction fun q => h (cd_bI0.mpr q))) (fun h => kf (cd_bI0.mp h))
theorem r_ifnn (hO : cd_O w X cc own d mc ms l) {x : Nat} (hd : cd_D_ifnn cc pc tgt pc') (kk : cd_J w X k n S I tgt lv st) : cd_J w X k n S I pc lv (.ref x :: st) := by
  intro H ls locs hR hL hq
  obtain ⟨off, hd, ht, rfl⟩ := hd
  exact lv_ifnonnull hO.1 hO.2.1 hd ht (kk H ls locs hR hL hq)
theorem r_ifnnN (hO : cd_O w X cc own d mc ms l) (hd : cd_D_ifnn cc pc tgt pc') (kk : cd_J w X k n S I pc' lv st) : cd_J w X k n S I pc lv (.null :: st) := by
  intro H ls locs hR hL hq
  obtain ⟨off, hd, ht, rfl⟩ := hd
  exact lv_ifnonnullN hO.1 hO.2.1 hd (kk H ls locs hR hL hq)
/-- another picture of the same locals -/
theorem r_sub {lv' : List (Option Value)} (h : lv'.length = lv.length ∧ ∀ (i : Nat) (v : Value), lv'[i]? = some (some v) → lv[i]? = some (some v)) (kk : cd_J w X k n S I pc lv' st) : cd_J w X k n S I pc lv st :=
  fun H ls locs hR hL hq => kk H ls locs hR ⟨hL.1.trans h.1.symm, hL.2.1, fun i v hv => hL.2.2 i v (h.2 i v hv)⟩ hq
theorem r_nI (a b : Nat) : nI a + nI b = nI (a + b) := nI_add a b
/-- numbers -/
theorem r_iaddN (hO : cd_O w X cc own d mc ms l) {a b : Nat} (hd : cd_D 1 cc pc .iadd pc') (kk : cd_J w X k n S I pc' lv (.int (nI (a + b)) :: st)) : cd_J w X k n S I pc lv (.int (nI b) :: .int (nI a) :: st) := r_iadd hO hd (by rw [nI_add]; exact kk)
theorem r_imulN (hO : cd_O w X cc own d mc ms l) {a b : Nat} (hd : cd_D 1 cc pc .imul pc') (kk : cd_J w X k n S I pc' lv (.int (nI (a * b)) :: st)) : cd_J w X k n S I pc lv (.int (nI b) :: .int (nI a) :: st) := r_imul hO hd (by rw [pk_mul]; exact kk)
theorem r_isubN (hO : cd_O w X cc own d mc ms l) {a b : Nat} (hd : cd_D 1 cc pc .isub pc') (h : b ≤ a) (kk : cd_J w X k n S I pc' lv (.int (nI (a - b)) :: st)) : cd_J w X k n S I pc lv (.int (nI b) :: .int (nI a) :: st) := r_isub hO hd (by rw [pk_sub h]; exact kk)
theorem r_iremN (hO : cd_O w X cc own d mc ms l) {a b : Nat} (hd : cd_D 1 cc pc .irem pc') (ha : a < 2 ^ 31) (h0 : 0 < b) (hb : b < 2 ^ 31) (kk : cd_J w X k n S I pc' lv (.int (nI (a % b)) :: st)) : cd_J w X k n S I pc lv (.int (nI b) :: .int (nI a) :: st) := r_irem hO hd (nI_ne0 h0 hb) (by unfold cd_rem; rw [pk_rem ha h0 hb]; exact kk)
theorem r_idivN (hO : cd_O w X cc own d mc ms l) {a b : Nat} (hd : cd_D 1 cc pc .idiv pc') (ha : a < 2 ^ 31) (h0 : 0 < b) (hb : b < 2 ^ 31) (kk : cd_J w X k n S I pc' lv (.int (nI (a / b)) :: st)) : cd_J w X k n S I pc lv (.int (nI b) :: .int (nI a) :: st) := r_idiv hO hd (nI_ne0 h0 hb) (by rw [pk_div ha h0 hb]; exact kk)
theorem r_tops {x y : Int32} (h : x = y) (kk : cd_J w X k n S I pc lv (.int y :: st)) : cd_J w X k n S I pc lv (.int x :: st) := h ▸ kk
theorem r_mem {I' : cd_Mem} (h : I = I') (kk : cd_J w X k n S I' pc lv st) : cd_J w X k n S I pc lv st := h ▸ kk
/-- fields -/
def cd_CI (c : Nat) (C : String) (T : u_T) (N : Nat) (ty : Nat → FieldType) : Prop := cd_cls[c]? = some (C, T, N) ∧ (∀ q ∈ u_ws C T N, q ∈ cd_ws) ∧ (∀ k, k < N → parseFieldDescriptor (T k).2.2.1 = some (ty k)) ∧ ∀ a, a < N → ∀ b, b < N → a ≠ b → (T a).2.1 ≠ (T b).2.1
/-- a field of class c, at place k, of a type, final or not, by its link -/
def cd_F (own : String) (idx c k : Nat) (ty : FieldType) (fin : Bool) : Prop := ∃ (C : String) (T : u_T) (N : Nat) (tys : Nat → FieldType), cd_CI c C T N tys ∧ k < N ∧ Cond.fieldLink own idx (T k).1 (T k).2.1 (T k).2.2.1 ∈ cd_ws ∧ tys k = ty ∧ (T k).2.2.2 = fin ∧ (T k).1 = C
theorem r_get (hO : cd_O w X cc own d mc ms l) {idx c j a : Nat} {ty : FieldType} {fin : Bool} (hf : cd_F own idx c j ty fin) (hs : S.2.1 a = (1, c)) (hd : cd_D 3 cc pc (.getfield idx) pc') (kk : cd_J w X k n S I pc' lv (cd_ov c j (I a j) (S.2.2 a j) :: st)) : cd_J w X k n S I pc lv (.ref a :: st) := by
  intro H ls locs hR hL hq
  obtain ⟨hd, rfl⟩ := hd
  obtain ⟨C, T, N, tys, ⟨hc, hin, hty, hnm⟩, hk, hl, -⟩ := hf
  obtain ⟨q, h1, cell, q1, q2, q3, q4⟩ := cd_obj hR hs
  have hr : q = (C, T, N) := Option.some.inj (h1.symm.trans hc)
  subst hr
  obtain ⟨hS, hfc, kC, hkC, hkind⟩ := hO.2.2.2.2.1.1.1 c _ hc
  obtain ⟨cf, kf, fi, f, hi, hsl⟩ := hS j hk
  refine W.getf hO.1 hO.2.1 hO.2.2.1 (hO.2.2.2.1 _ hl) hi (u_facts hfc hkC (u_lays hO.2.2.2.1 hin hk) hi).1 q1 (by rw [q3]; exact fun h => by cases h) (v := cd_ov c j (I a j) (S.2.2 a j)) ?_ rfl rfl hd (kk H ls locs hR hL hq)
  rw [hsl, q4 j hk]
theorem r_getI (hO : cd_O w X cc own d mc ms l) {idx c j a : Nat} {ty : FieldType} {fin : Bool} (hf : cd_F own idx c j ty fin) (hr : cd_isR c j = false) (hs : S.2.1 a = (1, c)) (hd : cd_D 3 cc pc (.getfield idx) pc') (kk : cd_J w X k n S I pc' lv (.int (I a j) :: st)) : cd_J w X k n S I pc lv (.ref a :: st) :=
  r_get hO hf hs hd (by unfold cd_ov; rw [hr]; exact kk)
theorem r_getR (hO : cd_O w X cc own d mc ms l) {idx c j a b : Nat} {ty : FieldType} {fin : Bool} (hf : cd_F own idx c j ty fin) (hr : cd_isR c j = true) (hs : S.2.1 a = (1, c)) (hv : S.2.2 a j = some b) (hd : cd_D 3 cc pc (.getfield idx) pc') (kk : cd_J w X k n S I pc' lv (.ref b :: st)) : cd_J w X k n S I pc lv (.ref a :: st) :=
  r_get hO hf hs hd (by unfold cd_ov; rw [hr, hv]; exact kk)
theorem cd_put {H H' : Heap} {a c j : Nat} {v : Value} {C : String} {T : u_T} {N : Nat} {tys : Nat → FieldType} {s : State} {args : Array Value} {I' : cd_Mem} {S' : cd_Sp} {cell : Cell} (hR : cd_R w S I H) (hs : S.2.1 a = (1, c)) (hci : cd_CI c C T N tys) (hts : ∀ q ∈ cd_ws, q.before args s = true) (hK : va_K w.2.2.1 cd_cls (cd_tys w) s) (hk : j < N) (hcell : H[a]? = some cell)
    (hsz : S'.1 = S.1) (hsh : S'.2.1 = S.2.1) (hoI : ∀ b, b ≠ a → I' b = I b) (hoR : ∀ b, b ≠ a → S'.2.2 b = S.2.2 b) (hnew : ∀ i, i < N → cd_ov c i (I' a i) (S'.2.2 a i) = updV (fun i => cd_ov c i (I a i) (S.2.2 a i)) j v i)
    (ha : w.1 ≤ a) (e1 : H'[a]? = some (cell.setSlot (w.2.2.1.2 c j) v)) (e2 : H'.size = H.size) (e3 : ∀ q, q ≠ a → H'[q]? = H[q]?) : cd_R w S' I' H' := by
  obtain ⟨hc, hin, hty, hnm⟩ := hci
  have hap := va_apart (own := C) hts hin tys hty hnm hK hc
  refine ⟨fun b => ?_, by rw [e2, hsz]; exact hR.2.1, fun q hq => (e3 q (by omega)).trans (hR.2.2 q hq)⟩
  by_cases hb : b = a
  · subst hb
    obtain ⟨q, h1, cell2, q1, q2, q3, q4⟩ := cd_obj hR hs
    have hr : q = (C, T, N) := Option.some.inj (h1.symm.trans hc)
    subst hr
    have : cell2 = cell := Option.some.inj (q1.symm.trans hcell)
    subst this
    unfold cd_cell
    rw [hsh, hs]
    exact ⟨_, hc, t_OB.to (V := updV (fun i => cd_ov c i (I b i) (S.2.2 b i)) j v) ⟨_, e1, q2, q3, t_set q4 hap hk v⟩ (fun i hi => (hnew i hi).symm)⟩
  · exact cd_cell_kept (hR.1 b) (by rw [hsh]) (hoR b hb) (hoI b hb) (fun _ => e3 b hb)
theorem r_put (hO : cd_O w X cc own d mc ms l) {idx c j a : Nat} {ty : FieldType} {v : Value} {S' : cd_Sp} {I' : cd_Mem} (hf : cd_F own idx c j ty false) (hs : S.2.1 a = (1, c)) (ha : w.1 ≤ a) (hn : narrow ty v = v) (hfit : fits ty v = true)
    (hsz : S'.1 = S.1) (hsh : S'.2.1 = S.2.1) (hoI : ∀ b, b ≠ a → I' b = I b) (hoR : ∀ b, b ≠ a → S'.2.2 b = S.2.2 b) (hnew : ∀ i, cd_ov c i (I' a i) (S'.2.2 a i) = updV (fun i => cd_ov c i (I a i) (S.2.2 a i)) j v i) (hd : cd_D 3 cc pc (.putfield idx) pc') (kk : cd_J w X k n S' I' pc' lv st) : cd_J w X k n S I pc lv (v :: .ref a :: st) := by
  intro H ls locs hR hL hq
  obtain ⟨hd, rfl⟩ := hd
  obtain ⟨C, T, N, tys, hci, hk, hl, rfl, hfin, hC⟩ := hf
  obtain ⟨hc, hin, hty, hnm⟩ := id hci
  obtain ⟨q, h1, cell, q1, q2, q3, q4⟩ := cd_obj hR hs
  have hr : q = (C, T, N) := Option.some.inj (h1.symm.trans hc)
  subst hr
  obtain ⟨hS, hfc, kC, hkC, hkind⟩ := hO.2.2.2.2.1.1.1 c _ hc
  obtain ⟨cf, kf, fi, f, hi, hsl⟩ := hS j hk
  have hlay := hO.2.2.2.1 _ (hin _ (u_in_lay hk))
  unfold u_lay at hlay
  rw [if_neg (by rw [hfin]; decide)] at hlay
  have hst := (u_facts hfc hkC (u_lays hO.2.2.2.1 hin hk) hi).1
  have h6 := u_store hfc hkC hkind hlay hi (hty j hk) hn hfit
  refine W.putK hO.1 hO.2.1 (f := f) ⟨hO.2.2.1, hO.2.2.2.1 _ hl, ⟨_, _, _, hi⟩, hst⟩ (by rw [q2]; exact h6) q1 q3 (by rw [hsl]; exact k2_hasslot (q4 j hk)) rfl rfl hd fun H' e1 e2 e3 => ?_
  rw [hsl] at e1 ⊢
  exact kk H' ls _ (cd_put hR hs hci hO.2.2.2.1 hO.2.2.2.2.1.1 hk q1 hsz hsh hoI hoR (fun i _ => hnew i) ha e1 e2 e3) hL (fun q hq2 => (List.mem_append.mp hq2).elim (hq q) (fun h => by rw [List.mem_singleton.mp h]; exact ha))
theorem cd_new_I {c j a : Nat} (v : Int32) (hr : cd_isR c j = false) (i : Nat) : cd_ov c i (cd_set I a (upd (I a) j v) a i) (S.2.2 a i) = updV (fun i => cd_ov c i (I a i) (S.2.2 a i)) j (.int v) i := by
  rw [cd_set_eq]
  by_cases h : i = j
  · subst h
    simp [updV, upd, cd_ov, hr]
  · simp [updV, upd, h]
theorem r_putI (hO : cd_O w X cc own d mc ms l) {idx c j a : Nat} {v : Int32} (hf : cd_F own idx c j .int false) (hr : cd_isR c j = false) (hs : S.2.1 a = (1, c)) (ha : w.1 ≤ a) (hd : cd_D 3 cc pc (.putfield idx) pc') (kk : cd_J w X k n S (cd_set I a (upd (I a) j v)) pc' lv st) : cd_J w X k n S I pc lv (.int v :: .ref a :: st) :=
  r_put hO hf hs ha rfl rfl rfl rfl (fun b hb => cd_set_ne _ _ hb) (fun _ _ => rfl) (cd_new_I v hr) hd kk
theorem r_putZ (hO : cd_O w X cc own d mc ms l) {idx c j a : Nat} (hf : cd_F own idx c j .boolean false) (hr : cd_isR c j = false) (hs : S.2.1 a = (1, c)) (ha : w.1 ≤ a) (v : Int32) (hv : v = 0 ∨ v = 1) (hd : cd_D 3 cc pc (.putfield idx) pc') (kk : cd_J w X k n S (cd_set I a (upd (I a) j v)) pc' lv st) : cd_J w X k n S I pc lv (.int v :: .ref a :: st) :=
  r_put hO hf hs ha (by rcases hv with rfl | rfl <;> rfl) (by rcases hv with rfl | rfl <;> rfl) rfl rfl (fun b hb => cd_set_ne _ _ hb) (fun _ _ => rfl) (cd_new_I v hr) hd kk
/-- arrays -/

theorem r_iald (hO : cd_O w X cc own d mc ms l) {a j N : Nat} (hs : S.2.1 a = (2, N)) (hj : j < N) (hN : N < 2 ^ 31) (hd : cd_D 1 cc pc .iaload pc') (kk : cd_J w X k n S I pc' lv (.int (I a j) :: st)) : cd_J w X k n S I pc lv (.int (nI j) :: .ref a :: st) := by
  intro H ls locs hR hL hq
  obtain ⟨hd, rfl⟩ := hd
  have hA := (hO.2.2.2.2.1.1.2 0 _ (cd_tys_at w (by decide : 0 < 8))).1
  exact W.iald (v := .int (I a j)) hO.1 hO.2.1 (cd_arr (t := 0) hR hs) (hA _ _) (fun q => by cases q) (by rw [arrV_size]; exact nI_in hj hN) (by rw [nI_clamp (by omega), arrV_read _ _ hj]; rfl) rfl rfl hd (kk H ls locs hR hL hq)
theorem r_bald (hO : cd_O w X cc own d mc ms l) {a j N : Nat} (hs : S.2.1 a = (3, N)) (hj : j < N) (hN : N < 2 ^ 31) (hd : cd_D 1 cc pc .baload pc') (kk : cd_J w X k n S I pc' lv (.int (I a j) :: st)) : cd_J w X k n S I pc lv (.int (nI j) :: .ref a :: st) := by
  intro H ls locs hR hL hq
  obtain ⟨hd, rfl⟩ := hd
  have hA := (hO.2.2.2.2.1.1.2 1 _ (cd_tys_at w (by decide : 1 < 8))).1
  exact W.bald (v := .int (I a j)) hO.1 hO.2.1 (cd_arr (t := 1) hR hs) (hA _ _) (fun q => by cases q) (by rw [arrV_size]; exact nI_in hj hN) (by rw [nI_clamp (by omega), arrV_read _ _ hj]; rfl) rfl rfl hd (kk H ls locs hR hL hq)
theorem r_zald (hO : cd_O w X cc own d mc ms l) {a j N : Nat} (hs : S.2.1 a = (5, N)) (hj : j < N) (hN : N < 2 ^ 31) (hd : cd_D 1 cc pc .baload pc') (kk : cd_J w X k n S I pc' lv (.int (I a j) :: st)) : cd_J w X k n S I pc lv (.int (nI j) :: .ref a :: st) := by
  intro H ls locs hR hL hq
  obtain ⟨hd, rfl⟩ := hd
  have hA := (hO.2.2.2.2.1.1.2 3 _ (cd_tys_at w (by decide : 3 < 8))).1
  exact W.zald (v := .int (I a j)) hO.1 hO.2.1 (cd_arr (t := 3) hR hs) (hA _ _) (fun q => by cases q) (by rw [arrV_size]; exact nI_in hj hN) (by rw [nI_clamp (by omega), arrV_read _ _ hj]; rfl) rfl rfl hd (kk H ls locs hR hL hq)
theorem r_cald (hO : cd_O w X cc own d mc ms l) {a j N : Nat} (hs : S.2.1 a = (4, N)) (hj : j < N) (hN : N < 2 ^ 31) (hd : cd_D 1 cc pc .caload pc') (kk : cd_J w X k n S I pc' lv (.int (I a j) :: st)) : cd_J w X k n S I pc lv (.int (nI j) :: .ref a :: st) := by
  intro H ls locs hR hL hq
  obtain ⟨hd, rfl⟩ := hd
  have hA := (hO.2.2.2.2.1.1.2 2 _ (cd_tys_at w (by decide : 2 < 8))).1
  exact W.cald (v := .int (I a j)) hO.1 hO.2.1 (cd_arr (t := 2) hR hs) (hA _ _) (fun q => by cases q) (by rw [arrV_size]; exact nI_in hj hN) (by rw [nI_clamp (by omega), arrV_read _ _ hj]; rfl) rfl rfl hd (kk H ls locs hR hL hq)
theorem r_aald (hO : cd_O w X cc own d mc ms l) {a j N t b : Nat} (hs : S.2.1 a = (t + 2, N)) (ht : t < 8) (ht4 : 4 ≤ t) (hj : j < N) (hN : N < 2 ^ 31) (hv : S.2.2 a j = some b) (hd : cd_D 1 cc pc .aaload pc') (kk : cd_J w X k n S I pc' lv (.ref b :: st)) : cd_J w X k n S I pc lv (.int (nI j) :: .ref a :: st) := by
  intro H ls locs hR hL hq
  obtain ⟨hd, rfl⟩ := hd
  have hA := (hO.2.2.2.2.1.1.2 t _ (cd_tys_at w ht)).1
  have hav : ∀ i r, cd_av t i r = va_rf r := by
    intro i r
    match t, ht, ht4 with
    | 4, _, _ => rfl
    | 5, _, _ => rfl
    | 6, _, _ => rfl
    | 7, _, _ => rfl
  exact W.aald (v := .ref b) (ty := cd_aty t) hO.1 hO.2.1 (cd_arr hR hs) (hA _ _) (by
    match t, ht, ht4 with
    | 4, _, _ => rfl
    | 5, _, _ => rfl
    | 6, _, _ => rfl
    | 7, _, _ => rfl) (fun q => by cases q) (by rw [arrV_size]; exact nI_in hj hN) (by rw [nI_clamp (by omega), arrV_read _ _ hj, hav, hv]; rfl) rfl rfl hd (kk H ls locs hR hL hq)
theorem r_alen (hO : cd_O w X cc own d mc ms l) {a N t : Nat} (hs : S.2.1 a = (t + 2, N)) (ht : t < 8) (hd : cd_D 1 cc pc .arraylength pc') (kk : cd_J w X k n S I pc' lv (.int (nI N) :: st)) : cd_J w X k n S I pc lv (.ref a :: st) := by
  intro H ls locs hR hL hq
  obtain ⟨hd, rfl⟩ := hd
  have hA := (hO.2.2.2.2.1.1.2 t _ (cd_tys_at w ht)).1
  exact W.alen hO.1 hO.2.1 (cd_arr hR hs) (hA _ _) (by rw [arrV_size]; rfl) rfl rfl hd (kk H ls locs hR hL hq)
theorem cd_stored {H H' : Heap} {a t N j : Nat} {v : Value} {x : Int32} (hR : cd_R w S I H) (hs : S.2.1 a = (t + 2, N)) (ht : t < 4) (hv : v = .int x) (ha : w.1 ≤ a)
    (e1 : H'[a]? = some ((arrV (w.2.2.2.1 t) N (fun j => cd_av t (I a j) (S.2.2 a j))).setSlot j v)) (e2 : H'.size = H.size) (e3 : ∀ q, q ≠ a → H'[q]? = H[q]?) : cd_R w S (cd_set I a (upd (I a) j x)) H' := by
  have hav : ∀ i r, cd_av t i r = .int i := by
    intro i r
    match t, ht with
    | 0, _ => rfl
    | 1, _ => rfl
    | 2, _ => rfl
    | 3, _ => rfl
  refine ⟨fun b => ?_, by rw [e2]; exact hR.2.1, fun q hq => (e3 q (by omega)).trans (hR.2.2 q hq)⟩
  by_cases hb : b = a
  · subst hb
    unfold cd_cell
    rw [hs, cd_set_eq]
    show H'[b]? = _
    rw [e1, arrV_store, hv]
    congr 2
    funext i
    by_cases hi : i = j
    · subst hi
      simp [updV, upd, hav]
    · simp [updV, upd, hi]
  · exact cd_cell_kept (hR.1 b) rfl rfl (cd_set_ne _ _ hb) (fun _ => e3 b hb)

theorem r_iast (hO : cd_O w X cc own d mc ms l) {a j N : Nat} {x : Int32} (hs : S.2.1 a = (2, N)) (ha : w.1 ≤ a) (hj : j < N) (hN : N < 2 ^ 31) (hd : cd_D 1 cc pc .iastore pc') (kk : cd_J w X k n S (cd_set I a (upd (I a) j x)) pc' lv st) : cd_J w X k n S I pc lv (.int x :: .int (nI j) :: .ref a :: st) := by
  intro H ls locs hR hL hq
  obtain ⟨hd, rfl⟩ := hd
  have hA := (hO.2.2.2.2.1.1.2 0 _ (cd_tys_at w (by decide : 0 < 8))).1
  refine W.iast hO.1 hO.2.1 (cd_arr (t := 0) hR hs) (hA _ _) (fun q => by cases q) (by rw [arrV_size]; exact nI_in hj hN) rfl rfl hd fun H1 e z oq => ?_
  rw [nI_clamp (by omega)] at e ⊢
  exact kk H1 ls _ (cd_stored hR hs (by decide) (by rfl) ha e z oq) hL (fun q hq2 => (List.mem_append.mp hq2).elim (hq q) (fun h => by rw [List.mem_singleton.mp h]; exact ha))
theorem r_bast (hO : cd_O w X cc own d mc ms l) {a j N : Nat} {x : Int32} (hs : S.2.1 a = (3, N)) (ha : w.1 ≤ a) (hj : j < N) (hN : N < 2 ^ 31) (hd : cd_D 1 cc pc .bastore pc') (kk : cd_J w X k n S (cd_set I a (upd (I a) j x.toInt8.toInt32)) pc' lv st) : cd_J w X k n S I pc lv (.int x :: .int (nI j) :: .ref a :: st) := by
  intro H ls locs hR hL hq
  obtain ⟨hd, rfl⟩ := hd
  have hA := (hO.2.2.2.2.1.1.2 1 _ (cd_tys_at w (by decide : 1 < 8))).1
  refine W.bast hO.1 hO.2.1 (cd_arr (t := 1) hR hs) (hA _ _) (fun q => by cases q) (by rw [arrV_size]; exact nI_in hj hN) rfl rfl hd fun H1 e z oq => ?_
  rw [nI_clamp (by omega)] at e ⊢
  exact kk H1 ls _ (cd_stored hR hs (by decide) (by rfl) ha e z oq) hL (fun q hq2 => (List.mem_append.mp hq2).elim (hq q) (fun h => by rw [List.mem_singleton.mp h]; exact ha))
theorem r_cast (hO : cd_O w X cc own d mc ms l) {a j N : Nat} {x : Int32} (hs : S.2.1 a = (4, N)) (ha : w.1 ≤ a) (hj : j < N) (hN : N < 2 ^ 31) (hd : cd_D 1 cc pc .castore pc') (kk : cd_J w X k n S (cd_set I a (upd (I a) j (vp_nar .char x))) pc' lv st) : cd_J w X k n S I pc lv (.int x :: .int (nI j) :: .ref a :: st) := by
  intro H ls locs hR hL hq
  obtain ⟨hd, rfl⟩ := hd
  have hA := (hO.2.2.2.2.1.1.2 2 _ (cd_tys_at w (by decide : 2 < 8))).1
  refine W.cast hO.1 hO.2.1 (cd_arr (t := 2) hR hs) (hA _ _) (fun q => by cases q) (by rw [arrV_size]; exact nI_in hj hN) rfl rfl hd fun H1 e z oq => ?_
  rw [nI_clamp (by omega)] at e ⊢
  exact kk H1 ls _ (cd_stored hR hs (by decide) (by rfl) ha e z oq) hL (fun q hq2 => (List.mem_append.mp hq2).elim (hq q) (fun h => by rw [List.mem_singleton.mp h]; exact ha))
theorem r_zast (hO : cd_O w X cc own d mc ms l) {a j N : Nat} {x : Int32} (hs : S.2.1 a = (5, N)) (ha : w.1 ≤ a) (hj : j < N) (hN : N < 2 ^ 31) (hd : cd_D 1 cc pc .bastore pc') (kk : cd_J w X k n S (cd_set I a (upd (I a) j (vp_nar .boolean x))) pc' lv st) : cd_J w X k n S I pc lv (.int x :: .int (nI j) :: .ref a :: st) := by
  intro H ls locs hR hL hq
  obtain ⟨hd, rfl⟩ := hd
  have hA := (hO.2.2.2.2.1.1.2 3 _ (cd_tys_at w (by decide : 3 < 8))).1
  refine W.zast hO.1 hO.2.1 (cd_arr (t := 3) hR hs) (hA _ _) (fun q => by cases q) (by rw [arrV_size]; exact nI_in hj hN) rfl rfl hd fun H1 e z oq => ?_
  rw [nI_clamp (by omega)] at e ⊢
  exact kk H1 ls _ (cd_stored hR hs (by decide) (by rfl) ha e z oq) hL (fun q hq2 => (List.mem_append.mp hq2).elim (hq q) (fun h => by rw [List.mem_singleton.mp h]; exact ha))
end CDR
end
section
section CDS
variable {l : Launch} {w : cd_WT} {X : cd_XT} {cc : ByteArray} {own : String} {d mc ms : Nat} {k n : Nat} {S : cd_Sp} {I : cd_Mem} {pc pc' tgt : Nat} {lv : List (Option Value)} {st : List Value} {nL : Nat} {rt : Option FieldType} {nm : String} {post : cd_Pt}
/-- the ends -/
theorem r_iret (hO : cd_O w X cc own d mc ms l) (hE : cd_E w X nL (some .int) mc ms nm post) {v : Int32} (hk : k ≤ mc) (hn : n ≤ ms) (hd : cd_D 1 cc pc .ireturn pc') (hp : post (some (.int v)) S I) : cd_J w X k n S I pc lv [.int v] := by
  intro H ls locs hR hL hq
  rw [hE.2.2.2.2]
  refine W.widen hk hn ?_
  exact W.iret hO.1 hO.2.1 hE.2.1 (fun t ht _ => ⟨_, S, I, rfl, hp, by rw [ht]; exact hR⟩) hq hd.1 hE.2.2.1
theorem r_zret (hO : cd_O w X cc own d mc ms l) (hE : cd_E w X nL (some .boolean) mc ms nm post) {v : Int32} (hv : v = 0 ∨ v = 1) (hk : k ≤ mc) (hn : n ≤ ms) (hd : cd_D 1 cc pc .ireturn pc') (hp : post (some (.int v)) S I) : cd_J w X k n S I pc lv [.int v] := by
  intro H ls locs hR hL hq
  rw [hE.2.2.2.2]
  refine W.widen hk hn ?_
  exact W.zret hO.1 hO.2.1 hE.2.1 (by rcases hv with rfl | rfl <;> rfl) (fun t ht _ => ⟨_, S, I, rfl, hp, by rw [ht]; exact hR⟩) hq hd.1 hE.2.2.1
theorem r_vret (hO : cd_O w X cc own d mc ms l) (hE : cd_E w X nL none mc ms nm post) (hk : k ≤ mc) (hn : n ≤ ms) (hd : cd_D 1 cc pc .return_ pc') (hp : post none S I) : cd_J w X k n S I pc lv [] := by
  intro H ls locs hR hL hq
  rw [hE.2.2.2.2]
  refine W.widen hk hn ?_
  exact W.vret hO.1 hO.2.1 hE.2.1 (fun t ht _ => ⟨_, S, I, rfl, hp, by rw [ht]; exact hR⟩) hq hd.1 hE.2.2.1
theorem r_lret (hO : cd_O w X cc own d mc ms l) (hE : cd_E w X nL (some .long) mc ms nm post) {v : Int64} (hk : k ≤ mc) (hn : n ≤ ms) (hd : cd_D 1 cc pc .lreturn pc') (hp : post (some (.long v)) S I) : cd_J w X k n S I pc lv [.long v] := by
  intro H ls locs hR hL hq
  rw [hE.2.2.2.2]
  refine W.widen hk hn ?_
  exact W.lret hO.1 hO.2.1 hE.2.1 (fun t ht _ => ⟨_, S, I, rfl, hp, by rw [ht]; exact hR⟩) hq hd.1 hE.2.2.1
theorem r_aret (hO : cd_O w X cc own d mc ms l) {C : String} (hE : cd_E w X nL (some (.object C)) mc ms nm post) {v : Nat} (hk : k ≤ mc) (hn : n ≤ ms) (hd : cd_D 1 cc pc .areturn pc') (hp : post (some (.ref v)) S I) : cd_J w X k n S I pc lv [.ref v] := by
  intro H ls locs hR hL hq
  rw [hE.2.2.2.2]
  refine W.widen hk hn ?_
  exact W.aret hO.1 hO.2.1 hE.2.1 (Or.inl ⟨_, rfl⟩) (Or.inr ⟨_, rfl⟩) (fun t ht _ => ⟨_, S, I, rfl, hp, by rw [ht]; exact hR⟩) hq hd.1 hE.2.2.1
theorem r_aretN (hO : cd_O w X cc own d mc ms l) {C : String} (hE : cd_E w X nL (some (.object C)) mc ms nm post) (hk : k ≤ mc) (hn : n ≤ ms) (hd : cd_D 1 cc pc .areturn pc') (hp : post (some .null) S I) : cd_J w X k n S I pc lv [.null] := by
  intro H ls locs hR hL hq
  rw [hE.2.2.2.2]
  refine W.widen hk hn ?_
  exact W.aret hO.1 hO.2.1 hE.2.1 (Or.inl ⟨_, rfl⟩) (Or.inl rfl) (fun t ht _ => ⟨_, S, I, rfl, hp, by rw [ht]; exact hR⟩) hq hd.1 hE.2.2.1
/-- calls: a method's words -/
def cd_M (m : cd_MT) (np : Nat) : Prop := Cond.code m.1 m.2.1 m.2.2.1 m.2.2.2 ∈ cd_ws ∧ Cond.initialized m.1.cls ∈ cd_ws ∧ (m.1.cls ≠ "java/lang/invoke/MethodHandle" ∧ m.1.cls ≠ "java/lang/invoke/VarHandle" ∧ (parseMethodDescriptor m.1.desc).map (fun q => q.parameters.length) = some np) ∧ m.2.2.1 ≤ 22
def cd_MV (m : cd_MT) (np : Nat) : Prop := cd_M m np ∧ Cond.instanceMethod m.1 ∈ cd_ws ∧ Cond.selects m.1.cls m.1 m.1 ∈ cd_ws
def cd_MS (m : cd_MT) (np : Nat) : Prop := cd_M m np ∧ Cond.static m.1 ∈ cd_ws
def cd_MI (m : cd_MT) (np : Nat) : Prop := cd_M m np ∧ m.1.name = "<init>" ∧ Cond.instanceMethod m.1 ∈ cd_ws ∧ m.2.2.2 = none
theorem cd_goodIn {m : cd_MT} (h : Cond.code m.1 m.2.1 m.2.2.1 m.2.2.2 ∈ cd_ws) : GoodIn cd_ws (Cond.code m.1 m.2.1 m.2.2.1 m.2.2.2 :: cd_ws) := by
  intro q hq
  rcases List.mem_cons.mp hq with rfl | hq
  · exact ⟨h, cd_good _ h⟩
  · exact ⟨hq, cd_good _ hq⟩
theorem cd_blind {av : List Value} {S : cd_Sp} {I : cd_Mem} : FrameBlind (va_Pc av (fun U => cd_R w S I U.heap ∧ cd_K w U)) := fun _ _ _ _ q => ⟨q.1, q.2.1, q.2.2.same rfl⟩
theorem cd_callB (hO : cd_O w X cc own d mc ms l) {m : cd_MT} {np d' mc' ms' index : Nat} (hm : cd_M m np) (hlk : Cond.methodLink own index m.1 ∈ cd_ws) (hdd : d' + 1 ≤ d) : CallB X.2.2.2.1 X.2.2.2.2.1 X.2.2.2.2.2.2.1 own index m.1 m.2.1 m.2.2.1 m.2.2.2 (Cond.code m.1 m.2.1 m.2.2.1 m.2.2.2 :: cd_ws) (cd_rm d' mc' ms') mc' ms' np := by
  obtain ⟨h1, h2, h3, h4⟩ := hm
  have hf := hO.2.2.2.2.2.1
  have hl := hO.2.2.2.2.2.2.1
  exact callB_of np hO.2.2.2.1 (cd_goodIn h1) rfl rfl rfl (hO.2.2.2.1 _ h2) (hO.2.2.2.1 _ hlk) h3 ⟨Nat.le_trans hdd hf, by show 8 + (m.2.2.1 + 11) + 41 * d' ≤ _; omega⟩
theorem cd_after {H : Heap} {ls : Array Slot} {locs : List Loc} {mc' ms' : Nat} {a : Array Value} {rest st0 : List Value} {post' : cd_Pt} (hR : cd_R w S I H) (hL : cd_L ls lv) (hq : ∀ q ∈ locs, w.1 ≤ q.base)
    (hr : va_Run X.1 X.2.1 X.2.2.1 X.2.2.2.1 X.2.2.2.2.1 X.2.2.2.2.2.1 X.2.2.2.2.2.2.1 X.2.2.2.2.2.2.2.1 X.2.2.2.2.2.2.2.2.1 X.2.2.2.2.2.2.2.2.2.1 H locs k n mc' ms' (F0 X.2.2.2.2.2.1 pc ls st0) rest ((fun _ _ o t => ∃ (r : Option Value) (S' : cd_Sp) (I' : cd_Mem), o = .returned r ∧ post' r S' I' ∧ cd_R w S' I' t.heap) a) (fun q => w.1 ≤ q))
    (kk : ∀ (r : Option Value) (S' : cd_Sp) (I' : cd_Mem), post' r S' I' → cd_J w X (k + mc') (n + ms') S' I' (pc + 3) lv (r.toList ++ rest)) :
    W X.1 X.2.1 X.2.2.1 X.2.2.2.1 X.2.2.2.2.1 X.2.2.2.2.2.1 X.2.2.2.2.2.2.1 X.2.2.2.2.2.2.2.1 X.2.2.2.2.2.2.2.2.1 X.2.2.2.2.2.2.2.2.2.1 H locs k n X.2.2.2.2.2.2.2.2.2.2 (F0 X.2.2.2.2.2.1 pc ls st0) := by
  intro T hT Y
  obtain ⟨v, st₀, t, T', L, h0, Y', hL', e1, e2, ⟨r, S', I', hv, hp, hR'⟩, go⟩ := hr T hT Y
  cases hv
  obtain ⟨t2, a1, b1⟩ := kk v S' I' hp T'.heap ls (locs ++ L) (by rw [e1]; exact hR') hL (fun q hq2 => (List.mem_append.mp hq2).elim (hq q) (hL' q)) T' rfl Y'
  exact ⟨t2, go t2 a1, b1⟩
theorem cd_callV (hO : cd_O w X cc own d mc ms l) (hml : X.2.2.2.2.2.2.2.2.2.1.maxLocals = nL) {m : cd_MT} {np d' mc' ms' index b c : Nat} {As rest st0 : List Value} {post' : cd_Pt} (hc : cd_C l w m d' mc' ms' (.ref b :: As) S I post') (hm : cd_MV m np) (hlk : Cond.methodLink own index m.1 ∈ cd_ws) (hs : S.2.1 b = (1, c)) (hcl : (cd_cls[c]?).map (·.1) = some m.1.cls) (hdd : d' + 1 ≤ d) (hnp : As.length = np) (hlv : lv.length = nL) (hst : st0 = As.reverse ++ .ref b :: rest) (hcat : (rest.map fun v => v.category).sum ≤ 8) (hd : cd_D 3 cc pc (.invokevirtual index) pc') (hf : k + mc' ≤ mc ∧ n + ms' ≤ ms)
    (kk : ∀ (r : Option Value) (S' : cd_Sp) (I' : cd_Mem), post' r S' I' → cd_J w X (k + mc') (n + ms') S' I' pc' lv (r.toList ++ rest)) : cd_J w X k n S I pc lv st0 := by
  intro H ls locs hR hL hq
  obtain ⟨hd, rfl⟩ := hd
  have hl9 := hO.2.2.2.2.2.2.2.2.2
  unfold cd_C at hc
  rw [← hl9] at hc
  have hcell : ∃ cellB : Cell, H[b]? = some cellB ∧ cellB.vm.isStatics = false ∧ X.2.2.2.2.1.vm.findClass m.1.cls = some cellB.cls := by
    obtain ⟨q, h1, cell, q1, q2, q3, -⟩ := cd_obj hR hs
    have hq1 : q.1 = m.1.cls := by rw [h1] at hcl; exact Option.some.inj hcl
    exact ⟨cell, q1, by rw [q3]; rfl, by rw [q2, ← hq1]; exact (hO.2.2.2.2.1.1.1 c q h1).2.1⟩
  refine cd_after (a := #[]) hR hL hq (va_runV (C := m.1.cls) (n := np) (As := As) (rest := rest) (b := b) ⟨hO.1, hO.2.1, hml, hO.2.2.1, hO.2.2.2.1⟩ hc ⟨cd_callB hO hm.1 hlk hdd, hO.2.2.2.1 _ hm.2.1, hO.2.2.2.1 _ hm.2.2⟩ ⟨cd_blind, hcell, fun U hU hW => ⟨rfl, by rw [hU]; exact hR, hO.2.2.2.2.1.warm hW⟩⟩ rfl hnp (hL.1.trans hlv) hst (lv_room hcat) hd ⟨Nat.le_trans hf.1 hO.2.2.2.2.2.2.2.1, Nat.le_trans hf.2 hO.2.2.2.2.2.2.2.2.1⟩) kk
theorem cd_callS (hO : cd_O w X cc own d mc ms l) (hml : X.2.2.2.2.2.2.2.2.2.1.maxLocals = nL) {m : cd_MT} {np d' mc' ms' index : Nat} {As rest st0 : List Value} {post' : cd_Pt} (hc : cd_C l w m d' mc' ms' As S I post') (hm : cd_MS m np) (hlk : Cond.methodLink own index m.1 ∈ cd_ws) (hdd : d' + 1 ≤ d) (hnp : As.length = np) (hlv : lv.length = nL) (hst : st0 = As.reverse ++ rest) (hcat : (rest.map fun v => v.category).sum ≤ 8) (hd : cd_D 3 cc pc (.invokestatic index) pc') (hf : k + mc' ≤ mc ∧ n + ms' ≤ ms)
    (kk : ∀ (r : Option Value) (S' : cd_Sp) (I' : cd_Mem), post' r S' I' → cd_J w X (k + mc') (n + ms') S' I' pc' lv (r.toList ++ rest)) : cd_J w X k n S I pc lv st0 := by
  intro H ls locs hR hL hq
  obtain ⟨hd, rfl⟩ := hd
  have hl9 := hO.2.2.2.2.2.2.2.2.2
  unfold cd_C at hc
  rw [← hl9] at hc
  refine cd_after (a := #[]) hR hL hq (va_runS (n := np) (As := As) (rest := rest) ⟨hO.1, hO.2.1, hml, hO.2.2.1, hO.2.2.2.1⟩ hc ⟨cd_callB hO hm.1 hlk hdd, hO.2.2.2.1 _ hm.2⟩ ⟨cd_blind, fun U hU hW => ⟨rfl, by rw [hU]; exact hR, hO.2.2.2.2.1.warm hW⟩⟩ rfl hnp (hL.1.trans hlv) hst (lv_room hcat) hd ⟨Nat.le_trans hf.1 hO.2.2.2.2.2.2.2.1, Nat.le_trans hf.2 hO.2.2.2.2.2.2.2.2.1⟩) kk
/-- contracts' ends: an int or nothing; the shape stays -/
def cd_Pi (S : cd_Sp) (P : Int32 → cd_Mem → Prop) : cd_Pt := fun r S' I' => ∃ x, r = some (.int x) ∧ S' = S ∧ P x I'
def cd_Pv (S : cd_Sp) (P : cd_Mem → Prop) : cd_Pt := fun r S' I' => r = none ∧ S' = S ∧ P I'
def cd_Fi (S : cd_Sp) (v : Int32) (J : cd_Mem) : cd_Pt := fun r S' I' => r = some (.int v) ∧ S' = S ∧ I' = J
def cd_Fv (S : cd_Sp) (J : cd_Mem) : cd_Pt := fun r S' I' => r = none ∧ S' = S ∧ I' = J

theorem r_cV0i (hO : cd_O w X cc own d mc ms l) (hE : cd_E w X nL rt mc ms nm post) {m : cd_MT} {d' index b c : Nat} {P : Int32 → cd_Mem → Prop} (hc : cd_C l w m d' 0 0 (.ref b :: []) S I (cd_Pi S P)) (hm : cd_MV m 0) (hlk : Cond.methodLink own index m.1 ∈ cd_ws) (hs : S.2.1 b = (1, c)) (hcl : (cd_cls[c]?).map (·.1) = some m.1.cls) (hdd : d' + 1 ≤ d) (hlv : lv.length = nL) (hcat : (st.map fun v => v.category).sum ≤ 8) (hd : cd_D 3 cc pc (.invokevirtual index) pc') (hk : k ≤ mc) (hn : n ≤ ms) (kk : ∀ (x : Int32) (I' : cd_Mem), P x I' → cd_J w X k n S I' pc' lv (.int x :: st)) : cd_J w X k n S I pc lv (.ref b :: st) :=
  cd_callV hO hE.1 hc hm hlk hs hcl hdd rfl hlv rfl hcat hd ⟨hk, hn⟩ (fun r S' I' h => by obtain ⟨x, rfl, rfl, hp⟩ := h; exact kk x I' hp)
theorem r_cV0v (hO : cd_O w X cc own d mc ms l) (hE : cd_E w X nL rt mc ms nm post) {m : cd_MT} {d' index b c : Nat} {P : cd_Mem → Prop} (hc : cd_C l w m d' 0 0 (.ref b :: []) S I (cd_Pv S P)) (hm : cd_MV m 0) (hlk : Cond.methodLink own index m.1 ∈ cd_ws) (hs : S.2.1 b = (1, c)) (hcl : (cd_cls[c]?).map (·.1) = some m.1.cls) (hdd : d' + 1 ≤ d) (hlv : lv.length = nL) (hcat : (st.map fun v => v.category).sum ≤ 8) (hd : cd_D 3 cc pc (.invokevirtual index) pc') (hk : k ≤ mc) (hn : n ≤ ms) (kk : ∀ I' : cd_Mem, P I' → cd_J w X k n S I' pc' lv st) : cd_J w X k n S I pc lv (.ref b :: st) :=
  cd_callV hO hE.1 hc hm hlk hs hcl hdd rfl hlv rfl hcat hd ⟨hk, hn⟩ (fun r S' I' h => by obtain ⟨rfl, rfl, hp⟩ := h; exact kk I' hp)
theorem r_cV0fi (hO : cd_O w X cc own d mc ms l) (hE : cd_E w X nL rt mc ms nm post) {m : cd_MT} {d' index b c : Nat} {x : Int32} {J : cd_Mem} (hc : cd_C l w m d' 0 0 (.ref b :: []) S I (cd_Fi S x J)) (hm : cd_MV m 0) (hlk : Cond.methodLink own index m.1 ∈ cd_ws) (hs : S.2.1 b = (1, c)) (hcl : (cd_cls[c]?).map (·.1) = some m.1.cls) (hdd : d' + 1 ≤ d) (hlv : lv.length = nL) (hcat : (st.map fun v => v.category).sum ≤ 8) (hd : cd_D 3 cc pc (.invokevirtual index) pc') (hk : k ≤ mc) (hn : n ≤ ms) (kk : cd_J w X k n S J pc' lv (.int x :: st)) : cd_J w X k n S I pc lv (.ref b :: st) :=
  cd_callV hO hE.1 hc hm hlk hs hcl hdd rfl hlv rfl hcat hd ⟨hk, hn⟩ (fun r S' I' h => by obtain ⟨rfl, rfl, rfl⟩ := h; exact kk)
theorem r_cV0fv (hO : cd_O w X cc own d mc ms l) (hE : cd_E w X nL rt mc ms nm post) {m : cd_MT} {d' index b c : Nat} {J : cd_Mem} (hc : cd_C l w m d' 0 0 (.ref b :: []) S I (cd_Fv S J)) (hm : cd_MV m 0) (hlk : Cond.methodLink own index m.1 ∈ cd_ws) (hs : S.2.1 b = (1, c)) (hcl : (cd_cls[c]?).map (·.1) = some m.1.cls) (hdd : d' + 1 ≤ d) (hlv : lv.length = nL) (hcat : (st.map fun v => v.category).sum ≤ 8) (hd : cd_D 3 cc pc (.invokevirtual index) pc') (hk : k ≤ mc) (hn : n ≤ ms) (kk : cd_J w X k n S J pc' lv st) : cd_J w X k n S I pc lv (.ref b :: st) :=
  cd_callV hO hE.1 hc hm hlk hs hcl hdd rfl hlv rfl hcat hd ⟨hk, hn⟩ (fun r S' I' h => by obtain ⟨rfl, rfl, rfl⟩ := h; exact kk)
theorem r_cS0i (hO : cd_O w X cc own d mc ms l) (hE : cd_E w X nL rt mc ms nm post) {m : cd_MT} {d' index : Nat} {P : Int32 → cd_Mem → Prop} (hc : cd_C l w m d' 0 0 [] S I (cd_Pi S P)) (hm : cd_MS m 0) (hlk : Cond.methodLink own index m.1 ∈ cd_ws) (hdd : d' + 1 ≤ d) (hlv : lv.length = nL) (hcat : (st.map fun v => v.category).sum ≤ 8) (hd : cd_D 3 cc pc (.invokestatic index) pc') (hk : k ≤ mc) (hn : n ≤ ms) (kk : ∀ (x : Int32) (I' : cd_Mem), P x I' → cd_J w X k n S I' pc' lv (.int x :: st)) : cd_J w X k n S I pc lv (st) :=
  cd_callS hO hE.1 hc hm hlk hdd rfl hlv rfl hcat hd ⟨hk, hn⟩ (fun r S' I' h => by obtain ⟨x, rfl, rfl, hp⟩ := h; exact kk x I' hp)
theorem r_cS0v (hO : cd_O w X cc own d mc ms l) (hE : cd_E w X nL rt mc ms nm post) {m : cd_MT} {d' index : Nat} {P : cd_Mem → Prop} (hc : cd_C l w m d' 0 0 [] S I (cd_Pv S P)) (hm : cd_MS m 0) (hlk : Cond.methodLink own index m.1 ∈ cd_ws) (hdd : d' + 1 ≤ d) (hlv : lv.length = nL) (hcat : (st.map fun v => v.category).sum ≤ 8) (hd : cd_D 3 cc pc (.invokestatic index) pc') (hk : k ≤ mc) (hn : n ≤ ms) (kk : ∀ I' : cd_Mem, P I' → cd_J w X k n S I' pc' lv st) : cd_J w X k n S I pc lv (st) :=
  cd_callS hO hE.1 hc hm hlk hdd rfl hlv rfl hcat hd ⟨hk, hn⟩ (fun r S' I' h => by obtain ⟨rfl, rfl, hp⟩ := h; exact kk I' hp)
theorem r_cS0fi (hO : cd_O w X cc own d mc ms l) (hE : cd_E w X nL rt mc ms nm post) {m : cd_MT} {d' index : Nat} {x : Int32} {J : cd_Mem} (hc : cd_C l w m d' 0 0 [] S I (cd_Fi S x J)) (hm : cd_MS m 0) (hlk : Cond.methodLink own index m.1 ∈ cd_ws) (hdd : d' + 1 ≤ d) (hlv : lv.length = nL) (hcat : (st.map fun v => v.category).sum ≤ 8) (hd : cd_D 3 cc pc (.invokestatic index) pc') (hk : k ≤ mc) (hn : n ≤ ms) (kk : cd_J w X k n S J pc' lv (.int x :: st)) : cd_J w X k n S I pc lv (st) :=
  cd_callS hO hE.1 hc hm hlk hdd rfl hlv rfl hcat hd ⟨hk, hn⟩ (fun r S' I' h => by obtain ⟨rfl, rfl, rfl⟩ := h; exact kk)
theorem r_cS0fv (hO : cd_O w X cc own d mc ms l) (hE : cd_E w X nL rt mc ms nm post) {m : cd_MT} {d' index : Nat} {J : cd_Mem} (hc : cd_C l w m d' 0 0 [] S I (cd_Fv S J)) (hm : cd_MS m 0) (hlk : Cond.methodLink own index m.1 ∈ cd_ws) (hdd : d' + 1 ≤ d) (hlv : lv.length = nL) (hcat : (st.map fun v => v.category).sum ≤ 8) (hd : cd_D 3 cc pc (.invokestatic index) pc') (hk : k ≤ mc) (hn : n ≤ ms) (kk : cd_J w X k n S J pc' lv st) : cd_J w X k n S I pc lv (st) :=
  cd_callS hO hE.1 hc hm hlk hdd rfl hlv rfl hcat hd ⟨hk, hn⟩ (fun r S' I' h => by obtain ⟨rfl, rfl, rfl⟩ := h; exact kk)
theorem r_cV1i (hO : cd_O w X cc own d mc ms l) (hE : cd_E w X nL rt mc ms nm post) {m : cd_MT} {d' index b c : Nat} {v1 : Value} {P : Int32 → cd_Mem → Prop} (hc : cd_C l w m d' 0 0 (.ref b :: [v1]) S I (cd_Pi S P)) (hm : cd_MV m 1) (hlk : Cond.methodLink own index m.1 ∈ cd_ws) (hs : S.2.1 b = (1, c)) (hcl : (cd_cls[c]?).map (·.1) = some m.1.cls) (hdd : d' + 1 ≤ d) (hlv : lv.length = nL) (hcat : (st.map fun v => v.category).sum ≤ 8) (hd : cd_D 3 cc pc (.invokevirtual index) pc') (hk : k ≤ mc) (hn : n ≤ ms) (kk : ∀ (x : Int32) (I' : cd_Mem), P x I' → cd_J w X k n S I' pc' lv (.int x :: st)) : cd_J w X k n S I pc lv (v1 :: .ref b :: st) :=
  cd_callV hO hE.1 hc hm hlk hs hcl hdd rfl hlv rfl hcat hd ⟨hk, hn⟩ (fun r S' I' h => by obtain ⟨x, rfl, rfl, hp⟩ := h; exact kk x I' hp)
theorem r_cV1v (hO : cd_O w X cc own d mc ms l) (hE : cd_E w X nL rt mc ms nm post) {m : cd_MT} {d' index b c : Nat} {v1 : Value} {P : cd_Mem → Prop} (hc : cd_C l w m d' 0 0 (.ref b :: [v1]) S I (cd_Pv S P)) (hm : cd_MV m 1) (hlk : Cond.methodLink own index m.1 ∈ cd_ws) (hs : S.2.1 b = (1, c)) (hcl : (cd_cls[c]?).map (·.1) = some m.1.cls) (hdd : d' + 1 ≤ d) (hlv : lv.length = nL) (hcat : (st.map fun v => v.category).sum ≤ 8) (hd : cd_D 3 cc pc (.invokevirtual index) pc') (hk : k ≤ mc) (hn : n ≤ ms) (kk : ∀ I' : cd_Mem, P I' → cd_J w X k n S I' pc' lv st) : cd_J w X k n S I pc lv (v1 :: .ref b :: st) :=
  cd_callV hO hE.1 hc hm hlk hs hcl hdd rfl hlv rfl hcat hd ⟨hk, hn⟩ (fun r S' I' h => by obtain ⟨rfl, rfl, hp⟩ := h; exact kk I' hp)
theorem r_cV1fi (hO : cd_O w X cc own d mc ms l) (hE : cd_E w X nL rt mc ms nm post) {m : cd_MT} {d' index b c : Nat} {v1 : Value} {x : Int32} {J : cd_Mem} (hc : cd_C l w m d' 0 0 (.ref b :: [v1]) S I (cd_Fi S x J)) (hm : cd_MV m 1) (hlk : Cond.methodLink own index m.1 ∈ cd_ws) (hs : S.2.1 b = (1, c)) (hcl : (cd_cls[c]?).map (·.1) = some m.1.cls) (hdd : d' + 1 ≤ d) (hlv : lv.length = nL) (hcat : (st.map fun v => v.category).sum ≤ 8) (hd : cd_D 3 cc pc (.invokevirtual index) pc') (hk : k ≤ mc) (hn : n ≤ ms) (kk : cd_J w X k n S J pc' lv (.int x :: st)) : cd_J w X k n S I pc lv (v1 :: .ref b :: st) :=
  cd_callV hO hE.1 hc hm hlk hs hcl hdd rfl hlv rfl hcat hd ⟨hk, hn⟩ (fun r S' I' h => by obtain ⟨rfl, rfl, rfl⟩ := h; exact kk)
theorem r_cV1fv (hO : cd_O w X cc own d mc ms l) (hE : cd_E w X nL rt mc ms nm post) {m : cd_MT} {d' index b c : Nat} {v1 : Value} {J : cd_Mem} (hc : cd_C l w m d' 0 0 (.ref b :: [v1]) S I (cd_Fv S J)) (hm : cd_MV m 1) (hlk : Cond.methodLink own index m.1 ∈ cd_ws) (hs : S.2.1 b = (1, c)) (hcl : (cd_cls[c]?).map (·.1) = some m.1.cls) (hdd : d' + 1 ≤ d) (hlv : lv.length = nL) (hcat : (st.map fun v => v.category).sum ≤ 8) (hd : cd_D 3 cc pc (.invokevirtual index) pc') (hk : k ≤ mc) (hn : n ≤ ms) (kk : cd_J w X k n S J pc' lv st) : cd_J w X k n S I pc lv (v1 :: .ref b :: st) :=
  cd_callV hO hE.1 hc hm hlk hs hcl hdd rfl hlv rfl hcat hd ⟨hk, hn⟩ (fun r S' I' h => by obtain ⟨rfl, rfl, rfl⟩ := h; exact kk)
theorem r_cS1i (hO : cd_O w X cc own d mc ms l) (hE : cd_E w X nL rt mc ms nm post) {m : cd_MT} {d' index : Nat} {v1 : Value} {P : Int32 → cd_Mem → Prop} (hc : cd_C l w m d' 0 0 [v1] S I (cd_Pi S P)) (hm : cd_MS m 1) (hlk : Cond.methodLink own index m.1 ∈ cd_ws) (hdd : d' + 1 ≤ d) (hlv : lv.length = nL) (hcat : (st.map fun v => v.category).sum ≤ 8) (hd : cd_D 3 cc pc (.invokestatic index) pc') (hk : k ≤ mc) (hn : n ≤ ms) (kk : ∀ (x : Int32) (I' : cd_Mem), P x I' → cd_J w X k n S I' pc' lv (.int x :: st)) : cd_J w X k n S I pc lv (v1 :: st) :=
  cd_callS hO hE.1 hc hm hlk hdd rfl hlv rfl hcat hd ⟨hk, hn⟩ (fun r S' I' h => by obtain ⟨x, rfl, rfl, hp⟩ := h; exact kk x I' hp)
theorem r_cS1v (hO : cd_O w X cc own d mc ms l) (hE : cd_E w X nL rt mc ms nm post) {m : cd_MT} {d' index : Nat} {v1 : Value} {P : cd_Mem → Prop} (hc : cd_C l w m d' 0 0 [v1] S I (cd_Pv S P)) (hm : cd_MS m 1) (hlk : Cond.methodLink own index m.1 ∈ cd_ws) (hdd : d' + 1 ≤ d) (hlv : lv.length = nL) (hcat : (st.map fun v => v.category).sum ≤ 8) (hd : cd_D 3 cc pc (.invokestatic index) pc') (hk : k ≤ mc) (hn : n ≤ ms) (kk : ∀ I' : cd_Mem, P I' → cd_J w X k n S I' pc' lv st) : cd_J w X k n S I pc lv (v1 :: st) :=
  cd_callS hO hE.1 hc hm hlk hdd rfl hlv rfl hcat hd ⟨hk, hn⟩ (fun r S' I' h => by obtain ⟨rfl, rfl, hp⟩ := h; exact kk I' hp)
theorem r_cS1fi (hO : cd_O w X cc own d mc ms l) (hE : cd_E w X nL rt mc ms nm post) {m : cd_MT} {d' index : Nat} {v1 : Value} {x : Int32} {J : cd_Mem} (hc : cd_C l w m d' 0 0 [v1] S I (cd_Fi S x J)) (hm : cd_MS m 1) (hlk : Cond.methodLink own index m.1 ∈ cd_ws) (hdd : d' + 1 ≤ d) (hlv : lv.length = nL) (hcat : (st.map fun v => v.category).sum ≤ 8) (hd : cd_D 3 cc pc (.invokestatic index) pc') (hk : k ≤ mc) (hn : n ≤ ms) (kk : cd_J w X k n S J pc' lv (.int x :: st)) : cd_J w X k n S I pc lv (v1 :: st) :=
  cd_callS hO hE.1 hc hm hlk hdd rfl hlv rfl hcat hd ⟨hk, hn⟩ (fun r S' I' h => by obtain ⟨rfl, rfl, rfl⟩ := h; exact kk)
theorem r_cS1fv (hO : cd_O w X cc own d mc ms l) (hE : cd_E w X nL rt mc ms nm post) {m : cd_MT} {d' index : Nat} {v1 : Value} {J : cd_Mem} (hc : cd_C l w m d' 0 0 [v1] S I (cd_Fv S J)) (hm : cd_MS m 1) (hlk : Cond.methodLink own index m.1 ∈ cd_ws) (hdd : d' + 1 ≤ d) (hlv : lv.length = nL) (hcat : (st.map fun v => v.category).sum ≤ 8) (hd : cd_D 3 cc pc (.invokestatic index) pc') (hk : k ≤ mc) (hn : n ≤ ms) (kk : cd_J w X k n S J pc' lv st) : cd_J w X k n S I pc lv (v1 :: st) :=
  cd_callS hO hE.1 hc hm hlk hdd rfl hlv rfl hcat hd ⟨hk, hn⟩ (fun r S' I' h => by obtain ⟨rfl, rfl, rfl⟩ := h; exact kk)
theorem r_cV2i (hO : cd_O w X cc own d mc ms l) (hE : cd_E w X nL rt mc ms nm post) {m : cd_MT} {d' index b c : Nat} {v1 v2 : Value} {P : Int32 → cd_Mem → Prop} (hc : cd_C l w m d' 0 0 (.ref b :: [v1, v2]) S I (cd_Pi S P)) (hm : cd_MV m 2) (hlk : Cond.methodLink own index m.1 ∈ cd_ws) (hs : S.2.1 b = (1, c)) (hcl : (cd_cls[c]?).map (·.1) = some m.1.cls) (hdd : d' + 1 ≤ d) (hlv : lv.length = nL) (hcat : (st.map fun v => v.category).sum ≤ 8) (hd : cd_D 3 cc pc (.invokevirtual index) pc') (hk : k ≤ mc) (hn : n ≤ ms) (kk : ∀ (x : Int32) (I' : cd_Mem), P x I' → cd_J w X k n S I' pc' lv (.int x :: st)) : cd_J w X k n S I pc lv (v2 :: v1 :: .ref b :: st) :=
  cd_callV hO hE.1 hc hm hlk hs hcl hdd rfl hlv rfl hcat hd ⟨hk, hn⟩ (fun r S' I' h => by obtain ⟨x, rfl, rfl, hp⟩ := h; exact kk x I' hp)
theorem r_cV2v (hO : cd_O w X cc own d mc ms l) (hE : cd_E w X nL rt mc ms nm post) {m : cd_MT} {d' index b c : Nat} {v1 v2 : Value} {P : cd_Mem → Prop} (hc : cd_C l w m d' 0 0 (.ref b :: [v1, v2]) S I (cd_Pv S P)) (hm : cd_MV m 2) (hlk : Cond.methodLink own index m.1 ∈ cd_ws) (hs : S.2.1 b = (1, c)) (hcl : (cd_cls[c]?).map (·.1) = some m.1.cls) (hdd : d' + 1 ≤ d) (hlv : lv.length = nL) (hcat : (st.map fun v => v.category).sum ≤ 8) (hd : cd_D 3 cc pc (.invokevirtual index) pc') (hk : k ≤ mc) (hn : n ≤ ms) (kk : ∀ I' : cd_Mem, P I' → cd_J w X k n S I' pc' lv st) : cd_J w X k n S I pc lv (v2 :: v1 :: .ref b :: st) :=
  cd_callV hO hE.1 hc hm hlk hs hcl hdd rfl hlv rfl hcat hd ⟨hk, hn⟩ (fun r S' I' h => by obtain ⟨rfl, rfl, hp⟩ := h; exact kk I' hp)
theorem r_cV2fi (hO : cd_O w X cc own d mc ms l) (hE : cd_E w X nL rt mc ms nm post) {m : cd_MT} {d' index b c : Nat} {v1 v2 : Value} {x : Int32} {J : cd_Mem} (hc : cd_C l w m d' 0 0 (.ref b :: [v1, v2]) S I (cd_Fi S x J)) (hm : cd_MV m 2) (hlk : Cond.methodLink own index m.1 ∈ cd_ws) (hs : S.2.1 b = (1, c)) (hcl : (cd_cls[c]?).map (·.1) = some m.1.cls) (hdd : d' + 1 ≤ d) (hlv : lv.length = nL) (hcat : (st.map fun v => v.category).sum ≤ 8) (hd : cd_D 3 cc pc (.invokevirtual index) pc') (hk : k ≤ mc) (hn : n ≤ ms) (kk : cd_J w X k n S J pc' lv (.int x :: st)) : cd_J w X k n S I pc lv (v2 :: v1 :: .ref b :: st) :=
  cd_callV hO hE.1 hc hm hlk hs hcl hdd rfl hlv rfl hcat hd ⟨hk, hn⟩ (fun r S' I' h => by obtain ⟨rfl, rfl, rfl⟩ := h; exact kk)
theorem r_cV2fv (hO : cd_O w X cc own d mc ms l) (hE : cd_E w X nL rt mc ms nm post) {m : cd_MT} {d' index b c : Nat} {v1 v2 : Value} {J : cd_Mem} (hc : cd_C l w m d' 0 0 (.ref b :: [v1, v2]) S I (cd_Fv S J)) (hm : cd_MV m 2) (hlk : Cond.methodLink own index m.1 ∈ cd_ws) (hs : S.2.1 b = (1, c)) (hcl : (cd_cls[c]?).map (·.1) = some m.1.cls) (hdd : d' + 1 ≤ d) (hlv : lv.length = nL) (hcat : (st.map fun v => v.category).sum ≤ 8) (hd : cd_D 3 cc pc (.invokevirtual index) pc') (hk : k ≤ mc) (hn : n ≤ ms) (kk : cd_J w X k n S J pc' lv st) : cd_J w X k n S I pc lv (v2 :: v1 :: .ref b :: st) :=
  cd_callV hO hE.1 hc hm hlk hs hcl hdd rfl hlv rfl hcat hd ⟨hk, hn⟩ (fun r S' I' h => by obtain ⟨rfl, rfl, rfl⟩ := h; exact kk)
theorem r_cS2i (hO : cd_O w X cc own d mc ms l) (hE : cd_E w X nL rt mc ms nm post) {m : cd_MT} {d' index : Nat} {v1 v2 : Value} {P : Int32 → cd_Mem → Prop} (hc : cd_C l w m d' 0 0 [v1, v2] S I (cd_Pi S P)) (hm : cd_MS m 2) (hlk : Cond.methodLink own index m.1 ∈ cd_ws) (hdd : d' + 1 ≤ d) (hlv : lv.length = nL) (hcat : (st.map fun v => v.category).sum ≤ 8) (hd : cd_D 3 cc pc (.invokestatic index) pc') (hk : k ≤ mc) (hn : n ≤ ms) (kk : ∀ (x : Int32) (I' : cd_Mem), P x I' → cd_J w X k n S I' pc' lv (.int x :: st)) : cd_J w X k n S I pc lv (v2 :: v1 :: st) :=
  cd_callS hO hE.1 hc hm hlk hdd rfl hlv rfl hcat hd ⟨hk, hn⟩ (fun r S' I' h => by obtain ⟨x, rfl, rfl, hp⟩ := h; exact kk x I' hp)
theorem r_cS2v (hO : cd_O w X cc own d mc ms l) (hE : cd_E w X nL rt mc ms nm post) {m : cd_MT} {d' index : Nat} {v1 v2 : Value} {P : cd_Mem → Prop} (hc : cd_C l w m d' 0 0 [v1, v2] S I (cd_Pv S P)) (hm : cd_MS m 2) (hlk : Cond.methodLink own index m.1 ∈ cd_ws) (hdd : d' + 1 ≤ d) (hlv : lv.length = nL) (hcat : (st.map fun v => v.category).sum ≤ 8) (hd : cd_D 3 cc pc (.invokestatic index) pc') (hk : k ≤ mc) (hn : n ≤ ms) (kk : ∀ I' : cd_Mem, P I' → cd_J w X k n S I' pc' lv st) : cd_J w X k n S I pc lv (v2 :: v1 :: st) :=
  cd_callS hO hE.1 hc hm hlk hdd rfl hlv rfl hcat hd ⟨hk, hn⟩ (fun r S' I' h => by obtain ⟨rfl, rfl, hp⟩ := h; exact kk I' hp)
theorem r_cS2fi (hO : cd_O w X cc own d mc ms l) (hE : cd_E w X nL rt mc ms nm post) {m : cd_MT} {d' index : Nat} {v1 v2 : Value} {x : Int32} {J : cd_Mem} (hc : cd_C l w m d' 0 0 [v1, v2] S I (cd_Fi S x J)) (hm : cd_MS m 2) (hlk : Cond.methodLink own index m.1 ∈ cd_ws) (hdd : d' + 1 ≤ d) (hlv : lv.length = nL) (hcat : (st.map fun v => v.category).sum ≤ 8) (hd : cd_D 3 cc pc (.invokestatic index) pc') (hk : k ≤ mc) (hn : n ≤ ms) (kk : cd_J w X k n S J pc' lv (.int x :: st)) : cd_J w X k n S I pc lv (v2 :: v1 :: st) :=
  cd_callS hO hE.1 hc hm hlk hdd rfl hlv rfl hcat hd ⟨hk, hn⟩ (fun r S' I' h => by obtain ⟨rfl, rfl, rfl⟩ := h; exact kk)
theorem r_cS2fv (hO : cd_O w X cc own d mc ms l) (hE : cd_E w X nL rt mc ms nm post) {m : cd_MT} {d' index : Nat} {v1 v2 : Value} {J : cd_Mem} (hc : cd_C l w m d' 0 0 [v1, v2] S I (cd_Fv S J)) (hm : cd_MS m 2) (hlk : Cond.methodLink own index m.1 ∈ cd_ws) (hdd : d' + 1 ≤ d) (hlv : lv.length = nL) (hcat : (st.map fun v => v.category).sum ≤ 8) (hd : cd_D 3 cc pc (.invokestatic index) pc') (hk : k ≤ mc) (hn : n ≤ ms) (kk : cd_J w X k n S J pc' lv st) : cd_J w X k n S I pc lv (v2 :: v1 :: st) :=
  cd_callS hO hE.1 hc hm hlk hdd rfl hlv rfl hcat hd ⟨hk, hn⟩ (fun r S' I' h => by obtain ⟨rfl, rfl, rfl⟩ := h; exact kk)
theorem r_cV3i (hO : cd_O w X cc own d mc ms l) (hE : cd_E w X nL rt mc ms nm post) {m : cd_MT} {d' index b c : Nat} {v1 v2 v3 : Value} {P : Int32 → cd_Mem → Prop} (hc : cd_C l w m d' 0 0 (.ref b :: [v1, v2, v3]) S I (cd_Pi S P)) (hm : cd_MV m 3) (hlk : Cond.methodLink own index m.1 ∈ cd_ws) (hs : S.2.1 b = (1, c)) (hcl : (cd_cls[c]?).map (·.1) = some m.1.cls) (hdd : d' + 1 ≤ d) (hlv : lv.length = nL) (hcat : (st.map fun v => v.category).sum ≤ 8) (hd : cd_D 3 cc pc (.invokevirtual index) pc') (hk : k ≤ mc) (hn : n ≤ ms) (kk : ∀ (x : Int32) (I' : cd_Mem), P x I' → cd_J w X k n S I' pc' lv (.int x :: st)) : cd_J w X k n S I pc lv (v3 :: v2 :: v1 :: .ref b :: st) :=
  cd_callV hO hE.1 hc hm hlk hs hcl hdd rfl hlv rfl hcat hd ⟨hk, hn⟩ (fun r S' I' h => by obtain ⟨x, rfl, rfl, hp⟩ := h; exact kk x I' hp)
theorem r_cV3v (hO : cd_O w X cc own d mc ms l) (hE : cd_E w X nL rt mc ms nm post) {m : cd_MT} {d' index b c : Nat} {v1 v2 v3 : Value} {P : cd_Mem → Prop} (hc : cd_C l w m d' 0 0 (.ref b :: [v1, v2, v3]) S I (cd_Pv S P)) (hm : cd_MV m 3) (hlk : Cond.methodLink own index m.1 ∈ cd_ws) (hs : S.2.1 b = (1, c)) (hcl : (cd_cls[c]?).map (·.1) = some m.1.cls) (hdd : d' + 1 ≤ d) (hlv : lv.length = nL) (hcat : (st.map fun v => v.category).sum ≤ 8) (hd : cd_D 3 cc pc (.invokevirtual index) pc') (hk : k ≤ mc) (hn : n ≤ ms) (kk : ∀ I' : cd_Mem, P I' → cd_J w X k n S I' pc' lv st) : cd_J w X k n S I pc lv (v3 :: v2 :: v1 :: .ref b :: st) :=
  cd_callV hO hE.1 hc hm hlk hs hcl hdd rfl hlv rfl hcat hd ⟨hk, hn⟩ (fun r S' I' h => by obtain ⟨rfl, rfl, hp⟩ := h; exact kk I' hp)
theorem r_cV3fi (hO : cd_O w X cc own d mc ms l) (hE : cd_E w X nL rt mc ms nm post) {m : cd_MT} {d' index b c : Nat} {v1 v2 v3 : Value} {x : Int32} {J : cd_Mem} (hc : cd_C l w m d' 0 0 (.ref b :: [v1, v2, v3]) S I (cd_Fi S x J)) (hm : cd_MV m 3) (hlk : Cond.methodLink own index m.1 ∈ cd_ws) (hs : S.2.1 b = (1, c)) (hcl : (cd_cls[c]?).map (·.1) = some m.1.cls) (hdd : d' + 1 ≤ d) (hlv : lv.length = nL) (hcat : (st.map fun v => v.category).sum ≤ 8) (hd : cd_D 3 cc pc (.invokevirtual index) pc') (hk : k ≤ mc) (hn : n ≤ ms) (kk : cd_J w X k n S J pc' lv (.int x :: st)) : cd_J w X k n S I pc lv (v3 :: v2 :: v1 :: .ref b :: st) :=
  cd_callV hO hE.1 hc hm hlk hs hcl hdd rfl hlv rfl hcat hd ⟨hk, hn⟩ (fun r S' I' h => by obtain ⟨rfl, rfl, rfl⟩ := h; exact kk)
theorem r_cV3fv (hO : cd_O w X cc own d mc ms l) (hE : cd_E w X nL rt mc ms nm post) {m : cd_MT} {d' index b c : Nat} {v1 v2 v3 : Value} {J : cd_Mem} (hc : cd_C l w m d' 0 0 (.ref b :: [v1, v2, v3]) S I (cd_Fv S J)) (hm : cd_MV m 3) (hlk : Cond.methodLink own index m.1 ∈ cd_ws) (hs : S.2.1 b = (1, c)) (hcl : (cd_cls[c]?).map (·.1) = some m.1.cls) (hdd : d' + 1 ≤ d) (hlv : lv.length = nL) (hcat : (st.map fun v => v.category).sum ≤ 8) (hd : cd_D 3 cc pc (.invokevirtual index) pc') (hk : k ≤ mc) (hn : n ≤ ms) (kk : cd_J w X k n S J pc' lv st) : cd_J w X k n S I pc lv (v3 :: v2 :: v1 :: .ref b :: st) :=
  cd_callV hO hE.1 hc hm hlk hs hcl hdd rfl hlv rfl hcat hd ⟨hk, hn⟩ (fun r S' I' h => by obtain ⟨rfl, rfl, rfl⟩ := h; exact kk)
theorem r_cS3i (hO : cd_O w X cc own d mc ms l) (hE : cd_E w X nL rt mc ms nm post) {m : cd_MT} {d' index : Nat} {v1 v2 v3 : Value} {P : Int32 → cd_Mem → Prop} (hc : cd_C l w m d' 0 0 [v1, v2, v3] S I (cd_Pi S P)) (hm : cd_MS m 3) (hlk : Cond.methodLink own index m.1 ∈ cd_ws) (hdd : d' + 1 ≤ d) (hlv : lv.length = nL) (hcat : (st.map fun v => v.category).sum ≤ 8) (hd : cd_D 3 cc pc (.invokestatic index) pc') (hk : k ≤ mc) (hn : n ≤ ms) (kk : ∀ (x : Int32) (I' : cd_Mem), P x I' → cd_J w X k n S I' pc' lv (.int x :: st)) : cd_J w X k n S I pc lv (v3 :: v2 :: v1 :: st) :=
  cd_callS hO hE.1 hc hm hlk hdd rfl hlv rfl hcat hd ⟨hk, hn⟩ (fun r S' I' h => by obtain ⟨x, rfl, rfl, hp⟩ := h; exact kk x I' hp)
theorem r_cS3v (hO : cd_O w X cc own d mc ms l) (hE : cd_E w X nL rt mc ms nm post) {m : cd_MT} {d' index : Nat} {v1 v2 v3 : Value} {P : cd_Mem → Prop} (hc : cd_C l w m d' 0 0 [v1, v2, v3] S I (cd_Pv S P)) (hm : cd_MS m 3) (hlk : Cond.methodLink own index m.1 ∈ cd_ws) (hdd : d' + 1 ≤ d) (hlv : lv.length = nL) (hcat : (st.map fun v => v.category).sum ≤ 8) (hd : cd_D 3 cc pc (.invokestatic index) pc') (hk : k ≤ mc) (hn : n ≤ ms) (kk : ∀ I' : cd_Mem, P I' → cd_J w X k n S I' pc' lv st) : cd_J w X k n S I pc lv (v3 :: v2 :: v1 :: st) :=
  cd_callS hO hE.1 hc hm hlk hdd rfl hlv rfl hcat hd ⟨hk, hn⟩ (fun r S' I' h => by obtain ⟨rfl, rfl, hp⟩ := h; exact kk I' hp)
theorem r_cS3fi (hO : cd_O w X cc own d mc ms l) (hE : cd_E w X nL rt mc ms nm post) {m : cd_MT} {d' index : Nat} {v1 v2 v3 : Value} {x : Int32} {J : cd_Mem} (hc : cd_C l w m d' 0 0 [v1, v2, v3] S I (cd_Fi S x J)) (hm : cd_MS m 3) (hlk : Cond.methodLink own index m.1 ∈ cd_ws) (hdd : d' + 1 ≤ d) (hlv : lv.length = nL) (hcat : (st.map fun v => v.category).sum ≤ 8) (hd : cd_D 3 cc pc (.invokestatic index) pc') (hk : k ≤ mc) (hn : n ≤ ms) (kk : cd_J w X k n S J pc' lv (.int x :: st)) : cd_J w X k n S I pc lv (v3 :: v2 :: v1 :: st) :=
  cd_callS hO hE.1 hc hm hlk hdd rfl hlv rfl hcat hd ⟨hk, hn⟩ (fun r S' I' h => by obtain ⟨rfl, rfl, rfl⟩ := h; exact kk)
theorem r_cS3fv (hO : cd_O w X cc own d mc ms l) (hE : cd_E w X nL rt mc ms nm post) {m : cd_MT} {d' index : Nat} {v1 v2 v3 : Value} {J : cd_Mem} (hc : cd_C l w m d' 0 0 [v1, v2, v3] S I (cd_Fv S J)) (hm : cd_MS m 3) (hlk : Cond.methodLink own index m.1 ∈ cd_ws) (hdd : d' + 1 ≤ d) (hlv : lv.length = nL) (hcat : (st.map fun v => v.category).sum ≤ 8) (hd : cd_D 3 cc pc (.invokestatic index) pc') (hk : k ≤ mc) (hn : n ≤ ms) (kk : cd_J w X k n S J pc' lv st) : cd_J w X k n S I pc lv (v3 :: v2 :: v1 :: st) :=
  cd_callS hO hE.1 hc hm hlk hdd rfl hlv rfl hcat hd ⟨hk, hn⟩ (fun r S' I' h => by obtain ⟨rfl, rfl, rfl⟩ := h; exact kk)
theorem r_cV4i (hO : cd_O w X cc own d mc ms l) (hE : cd_E w X nL rt mc ms nm post) {m : cd_MT} {d' index b c : Nat} {v1 v2 v3 v4 : Value} {P : Int32 → cd_Mem → Prop} (hc : cd_C l w m d' 0 0 (.ref b :: [v1, v2, v3, v4]) S I (cd_Pi S P)) (hm : cd_MV m 4) (hlk : Cond.methodLink own index m.1 ∈ cd_ws) (hs : S.2.1 b = (1, c)) (hcl : (cd_cls[c]?).map (·.1) = some m.1.cls) (hdd : d' + 1 ≤ d) (hlv : lv.length = nL) (hcat : (st.map fun v => v.category).sum ≤ 8) (hd : cd_D 3 cc pc (.invokevirtual index) pc') (hk : k ≤ mc) (hn : n ≤ ms) (kk : ∀ (x : Int32) (I' : cd_Mem), P x I' → cd_J w X k n S I' pc' lv (.int x :: st)) : cd_J w X k n S I pc lv (v4 :: v3 :: v2 :: v1 :: .ref b :: st) :=
  cd_callV hO hE.1 hc hm hlk hs hcl hdd rfl hlv rfl hcat hd ⟨hk, hn⟩ (fun r S' I' h => by obtain ⟨x, rfl, rfl, hp⟩ := h; exact kk x I' hp)
theorem r_cV4v (hO : cd_O w X cc own d mc ms l) (hE : cd_E w X nL rt mc ms nm post) {m : cd_MT} {d' index b c : Nat} {v1 v2 v3 v4 : Value} {P : cd_Mem → Prop} (hc : cd_C l w m d' 0 0 (.ref b :: [v1, v2, v3, v4]) S I (cd_Pv S P)) (hm : cd_MV m 4) (hlk : Cond.methodLink own index m.1 ∈ cd_ws) (hs : S.2.1 b = (1, c)) (hcl : (cd_cls[c]?).map (·.1) = some m.1.cls) (hdd : d' + 1 ≤ d) (hlv : lv.length = nL) (hcat : (st.map fun v => v.category).sum ≤ 8) (hd : cd_D 3 cc pc (.invokevirtual index) pc') (hk : k ≤ mc) (hn : n ≤ ms) (kk : ∀ I' : cd_Mem, P I' → cd_J w X k n S I' pc' lv st) : cd_J w X k n S I pc lv (v4 :: v3 :: v2 :: v1 :: .ref b :: st) :=
  cd_callV hO hE.1 hc hm hlk hs hcl hdd rfl hlv rfl hcat hd ⟨hk, hn⟩ (fun r S' I' h => by obtain ⟨rfl, rfl, hp⟩ := h; exact kk I' hp)
theorem r_cV4fi (hO : cd_O w X cc own d mc ms l) (hE : cd_E w X nL rt mc ms nm post) {m : cd_MT} {d' index b c : Nat} {v1 v2 v3 v4 : Value} {x : Int32} {J : cd_Mem} (hc : cd_C l w m d' 0 0 (.ref b :: [v1, v2, v3, v4]) S I (cd_Fi S x J)) (hm : cd_MV m 4) (hlk : Cond.methodLink own index m.1 ∈ cd_ws) (hs : S.2.1 b = (1, c)) (hcl : (cd_cls[c]?).map (·.1) = some m.1.cls) (hdd : d' + 1 ≤ d) (hlv : lv.length = nL) (hcat : (st.map fun v => v.category).sum ≤ 8) (hd : cd_D 3 cc pc (.invokevirtual index) pc') (hk : k ≤ mc) (hn : n ≤ ms) (kk : cd_J w X k n S J pc' lv (.int x :: st)) : cd_J w X k n S I pc lv (v4 :: v3 :: v2 :: v1 :: .ref b :: st) :=
  cd_callV hO hE.1 hc hm hlk hs hcl hdd rfl hlv rfl hcat hd ⟨hk, hn⟩ (fun r S' I' h => by obtain ⟨rfl, rfl, rfl⟩ := h; exact kk)
theorem r_cV4fv (hO : cd_O w X cc own d mc ms l) (hE : cd_E w X nL rt mc ms nm post) {m : cd_MT} {d' index b c : Nat} {v1 v2 v3 v4 : Value} {J : cd_Mem} (hc : cd_C l w m d' 0 0 (.ref b :: [v1, v2, v3, v4]) S I (cd_Fv S J)) (hm : cd_MV m 4) (hlk : Cond.methodLink own index m.1 ∈ cd_ws) (hs : S.2.1 b = (1, c)) (hcl : (cd_cls[c]?).map (·.1) = some m.1.cls) (hdd : d' + 1 ≤ d) (hlv : lv.length = nL) (hcat : (st.map fun v => v.category).sum ≤ 8) (hd : cd_D 3 cc pc (.invokevirtual index) pc') (hk : k ≤ mc) (hn : n ≤ ms) (kk : cd_J w X k n S J pc' lv st) : cd_J w X k n S I pc lv (v4 :: v3 :: v2 :: v1 :: .ref b :: st) :=
  cd_callV hO hE.1 hc hm hlk hs hcl hdd rfl hlv rfl hcat hd ⟨hk, hn⟩ (fun r S' I' h => by obtain ⟨rfl, rfl, rfl⟩ := h; exact kk)
theorem r_cS4i (hO : cd_O w X cc own d mc ms l) (hE : cd_E w X nL rt mc ms nm post) {m : cd_MT} {d' index : Nat} {v1 v2 v3 v4 : Value} {P : Int32 → cd_Mem → Prop} (hc : cd_C l w m d' 0 0 [v1, v2, v3, v4] S I (cd_Pi S P)) (hm : cd_MS m 4) (hlk : Cond.methodLink own index m.1 ∈ cd_ws) (hdd : d' + 1 ≤ d) (hlv : lv.length = nL) (hcat : (st.map fun v => v.category).sum ≤ 8) (hd : cd_D 3 cc pc (.invokestatic index) pc') (hk : k ≤ mc) (hn : n ≤ ms) (kk : ∀ (x : Int32) (I' : cd_Mem), P x I' → cd_J w X k n S I' pc' lv (.int x :: st)) : cd_J w X k n S I pc lv (v4 :: v3 :: v2 :: v1 :: st) :=
  cd_callS hO hE.1 hc hm hlk hdd rfl hlv rfl hcat hd ⟨hk, hn⟩ (fun r S' I' h => by obtain ⟨x, rfl, rfl, hp⟩ := h; exact kk x I' hp)
theorem r_cS4v (hO : cd_O w X cc own d mc ms l) (hE : cd_E w X nL rt mc ms nm post) {m : cd_MT} {d' index : Nat} {v1 v2 v3 v4 : Value} {P : cd_Mem → Prop} (hc : cd_C l w m d' 0 0 [v1, v2, v3, v4] S I (cd_Pv S P)) (hm : cd_MS m 4) (hlk : Cond.methodLink own index m.1 ∈ cd_ws) (hdd : d' + 1 ≤ d) (hlv : lv.length = nL) (hcat : (st.map fun v => v.category).sum ≤ 8) (hd : cd_D 3 cc pc (.invokestatic index) pc') (hk : k ≤ mc) (hn : n ≤ ms) (kk : ∀ I' : cd_Mem, P I' → cd_J w X k n S I' pc' lv st) : cd_J w X k n S I pc lv (v4 :: v3 :: v2 :: v1 :: st) :=
  cd_callS hO hE.1 hc hm hlk hdd rfl hlv rfl hcat hd ⟨hk, hn⟩ (fun r S' I' h => by obtain ⟨rfl, rfl, hp⟩ := h; exact kk I' hp)
theorem r_cS4fi (hO : cd_O w X cc own d mc ms l) (hE : cd_E w X nL rt mc ms nm post) {m : cd_MT} {d' index : Nat} {v1 v2 v3 v4 : Value} {x : Int32} {J : cd_Mem} (hc : cd_C l w m d' 0 0 [v1, v2, v3, v4] S I (cd_Fi S x J)) (hm : cd_MS m 4) (hlk : Cond.methodLink own index m.1 ∈ cd_ws) (hdd : d' + 1 ≤ d) (hlv : lv.length = nL) (hcat : (st.map fun v => v.category).sum ≤ 8) (hd : cd_D 3 cc pc (.invokestatic index) pc') (hk : k ≤ mc) (hn : n ≤ ms) (kk : cd_J w X k n S J pc' lv (.int x :: st)) : cd_J w X k n S I pc lv (v4 :: v3 :: v2 :: v1 :: st) :=
  cd_callS hO hE.1 hc hm hlk hdd rfl hlv rfl hcat hd ⟨hk, hn⟩ (fun r S' I' h => by obtain ⟨rfl, rfl, rfl⟩ := h; exact kk)
theorem r_cS4fv (hO : cd_O w X cc own d mc ms l) (hE : cd_E w X nL rt mc ms nm post) {m : cd_MT} {d' index : Nat} {v1 v2 v3 v4 : Value} {J : cd_Mem} (hc : cd_C l w m d' 0 0 [v1, v2, v3, v4] S I (cd_Fv S J)) (hm : cd_MS m 4) (hlk : Cond.methodLink own index m.1 ∈ cd_ws) (hdd : d' + 1 ≤ d) (hlv : lv.length = nL) (hcat : (st.map fun v => v.category).sum ≤ 8) (hd : cd_D 3 cc pc (.invokestatic index) pc') (hk : k ≤ mc) (hn : n ≤ ms) (kk : cd_J w X k n S J pc' lv st) : cd_J w X k n S I pc lv (v4 :: v3 :: v2 :: v1 :: st) :=
  cd_callS hO hE.1 hc hm hlk hdd rfl hlv rfl hcat hd ⟨hk, hn⟩ (fun r S' I' h => by obtain ⟨rfl, rfl, rfl⟩ := h; exact kk)
theorem r_cV5i (hO : cd_O w X cc own d mc ms l) (hE : cd_E w X nL rt mc ms nm post) {m : cd_MT} {d' index b c : Nat} {v1 v2 v3 v4 v5 : Value} {P : Int32 → cd_Mem → Prop} (hc : cd_C l w m d' 0 0 (.ref b :: [v1, v2, v3, v4, v5]) S I (cd_Pi S P)) (hm : cd_MV m 5) (hlk : Cond.methodLink own index m.1 ∈ cd_ws) (hs : S.2.1 b = (1, c)) (hcl : (cd_cls[c]?).map (·.1) = some m.1.cls) (hdd : d' + 1 ≤ d) (hlv : lv.length = nL) (hcat : (st.map fun v => v.category).sum ≤ 8) (hd : cd_D 3 cc pc (.invokevirtual index) pc') (hk : k ≤ mc) (hn : n ≤ ms) (kk : ∀ (x : Int32) (I' : cd_Mem), P x I' → cd_J w X k n S I' pc' lv (.int x :: st)) : cd_J w X k n S I pc lv (v5 :: v4 :: v3 :: v2 :: v1 :: .ref b :: st) :=
  cd_callV hO hE.1 hc hm hlk hs hcl hdd rfl hlv rfl hcat hd ⟨hk, hn⟩ (fun r S' I' h => by obtain ⟨x, rfl, rfl, hp⟩ := h; exact kk x I' hp)
theorem r_cV5v (hO : cd_O w X cc own d mc ms l) (hE : cd_E w X nL rt mc ms nm post) {m : cd_MT} {d' index b c : Nat} {v1 v2 v3 v4 v5 : Value} {P : cd_Mem → Prop} (hc : cd_C l w m d' 0 0 (.ref b :: [v1, v2, v3, v4, v5]) S I (cd_Pv S P)) (hm : cd_MV m 5) (hlk : Cond.methodLink own index m.1 ∈ cd_ws) (hs : S.2.1 b = (1, c)) (hcl : (cd_cls[c]?).map (·.1) = some m.1.cls) (hdd : d' + 1 ≤ d) (hlv : lv.length = nL) (hcat : (st.map fun v => v.category).sum ≤ 8) (hd : cd_D 3 cc pc (.invokevirtual index) pc') (hk : k ≤ mc) (hn : n ≤ ms) (kk : ∀ I' : cd_Mem, P I' → cd_J w X k n S I' pc' lv st) : cd_J w X k n S I pc lv (v5 :: v4 :: v3 :: v2 :: v1 :: .ref b :: st) :=
  cd_callV hO hE.1 hc hm hlk hs hcl hdd rfl hlv rfl hcat hd ⟨hk, hn⟩ (fun r S' I' h => by obtain ⟨rfl, rfl, hp⟩ := h; exact kk I' hp)
theorem r_cV5fi (hO : cd_O w X cc own d mc ms l) (hE : cd_E w X nL rt mc ms nm post) {m : cd_MT} {d' index b c : Nat} {v1 v2 v3 v4 v5 : Value} {x : Int32} {J : cd_Mem} (hc : cd_C l w m d' 0 0 (.ref b :: [v1, v2, v3, v4, v5]) S I (cd_Fi S x J)) (hm : cd_MV m 5) (hlk : Cond.methodLink own index m.1 ∈ cd_ws) (hs : S.2.1 b = (1, c)) (hcl : (cd_cls[c]?).map (·.1) = some m.1.cls) (hdd : d' + 1 ≤ d) (hlv : lv.length = nL) (hcat : (st.map fun v => v.category).sum ≤ 8) (hd : cd_D 3 cc pc (.invokevirtual index) pc') (hk : k ≤ mc) (hn : n ≤ ms) (kk : cd_J w X k n S J pc' lv (.int x :: st)) : cd_J w X k n S I pc lv (v5 :: v4 :: v3 :: v2 :: v1 :: .ref b :: st) :=
  cd_callV hO hE.1 hc hm hlk hs hcl hdd rfl hlv rfl hcat hd ⟨hk, hn⟩ (fun r S' I' h => by obtain ⟨rfl, rfl, rfl⟩ := h; exact kk)
theorem r_cV5fv (hO : cd_O w X cc own d mc ms l) (hE : cd_E w X nL rt mc ms nm post) {m : cd_MT} {d' index b c : Nat} {v1 v2 v3 v4 v5 : Value} {J : cd_Mem} (hc : cd_C l w m d' 0 0 (.ref b :: [v1, v2, v3, v4, v5]) S I (cd_Fv S J)) (hm : cd_MV m 5) (hlk : Cond.methodLink own index m.1 ∈ cd_ws) (hs : S.2.1 b = (1, c)) (hcl : (cd_cls[c]?).map (·.1) = some m.1.cls) (hdd : d' + 1 ≤ d) (hlv : lv.length = nL) (hcat : (st.map fun v => v.category).sum ≤ 8) (hd : cd_D 3 cc pc (.invokevirtual index) pc') (hk : k ≤ mc) (hn : n ≤ ms) (kk : cd_J w X k n S J pc' lv st) : cd_J w X k n S I pc lv (v5 :: v4 :: v3 :: v2 :: v1 :: .ref b :: st) :=
  cd_callV hO hE.1 hc hm hlk hs hcl hdd rfl hlv rfl hcat hd ⟨hk, hn⟩ (fun r S' I' h => by obtain ⟨rfl, rfl, rfl⟩ := h; exact kk)
theorem r_cS5i (hO : cd_O w X cc own d mc ms l) (hE : cd_E w X nL rt mc ms nm post) {m : cd_MT} {d' index : Nat} {v1 v2 v3 v4 v5 : Value} {P : Int32 → cd_Mem → Prop} (hc : cd_C l w m d' 0 0 [v1, v2, v3, v4, v5] S I (cd_Pi S P)) (hm : cd_MS m 5) (hlk : Cond.methodLink own index m.1 ∈ cd_ws) (hdd : d' + 1 ≤ d) (hlv : lv.length = nL) (hcat : (st.map fun v => v.category).sum ≤ 8) (hd : cd_D 3 cc pc (.invokestatic index) pc') (hk : k ≤ mc) (hn : n ≤ ms) (kk : ∀ (x : Int32) (I' : cd_Mem), P x I' → cd_J w X k n S I' pc' lv (.int x :: st)) : cd_J w X k n S I pc lv (v5 :: v4 :: v3 :: v2 :: v1 :: st) :=
  cd_callS hO hE.1 hc hm hlk hdd rfl hlv rfl hcat hd ⟨hk, hn⟩ (fun r S' I' h => by obtain ⟨x, rfl, rfl, hp⟩ := h; exact kk x I' hp)
theorem r_cS5v (hO : cd_O w X cc own d mc ms l) (hE : cd_E w X nL rt mc ms nm post) {m : cd_MT} {d' index : Nat} {v1 v2 v3 v4 v5 : Value} {P : cd_Mem → Prop} (hc : cd_C l w m d' 0 0 [v1, v2, v3, v4, v5] S I (cd_Pv S P)) (hm : cd_MS m 5) (hlk : Cond.methodLink own index m.1 ∈ cd_ws) (hdd : d' + 1 ≤ d) (hlv : lv.length = nL) (hcat : (st.map fun v => v.category).sum ≤ 8) (hd : cd_D 3 cc pc (.invokestatic index) pc') (hk : k ≤ mc) (hn : n ≤ ms) (kk : ∀ I' : cd_Mem, P I' → cd_J w X k n S I' pc' lv st) : cd_J w X k n S I pc lv (v5 :: v4 :: v3 :: v2 :: v1 :: st) :=
  cd_callS hO hE.1 hc hm hlk hdd rfl hlv rfl hcat hd ⟨hk, hn⟩ (fun r S' I' h => by obtain ⟨rfl, rfl, hp⟩ := h; exact kk I' hp)
theorem r_cS5fi (hO : cd_O w X cc own d mc ms l) (hE : cd_E w X nL rt mc ms nm post) {m : cd_MT} {d' index : Nat} {v1 v2 v3 v4 v5 : Value} {x : Int32} {J : cd_Mem} (hc : cd_C l w m d' 0 0 [v1, v2, v3, v4, v5] S I (cd_Fi S x J)) (hm : cd_MS m 5) (hlk : Cond.methodLink own index m.1 ∈ cd_ws) (hdd : d' + 1 ≤ d) (hlv : lv.length = nL) (hcat : (st.map fun v => v.category).sum ≤ 8) (hd : cd_D 3 cc pc (.invokestatic index) pc') (hk : k ≤ mc) (hn : n ≤ ms) (kk : cd_J w X k n S J pc' lv (.int x :: st)) : cd_J w X k n S I pc lv (v5 :: v4 :: v3 :: v2 :: v1 :: st) :=
  cd_callS hO hE.1 hc hm hlk hdd rfl hlv rfl hcat hd ⟨hk, hn⟩ (fun r S' I' h => by obtain ⟨rfl, rfl, rfl⟩ := h; exact kk)
theorem r_cS5fv (hO : cd_O w X cc own d mc ms l) (hE : cd_E w X nL rt mc ms nm post) {m : cd_MT} {d' index : Nat} {v1 v2 v3 v4 v5 : Value} {J : cd_Mem} (hc : cd_C l w m d' 0 0 [v1, v2, v3, v4, v5] S I (cd_Fv S J)) (hm : cd_MS m 5) (hlk : Cond.methodLink own index m.1 ∈ cd_ws) (hdd : d' + 1 ≤ d) (hlv : lv.length = nL) (hcat : (st.map fun v => v.category).sum ≤ 8) (hd : cd_D 3 cc pc (.invokestatic index) pc') (hk : k ≤ mc) (hn : n ≤ ms) (kk : cd_J w X k n S J pc' lv st) : cd_J w X k n S I pc lv (v5 :: v4 :: v3 :: v2 :: v1 :: st) :=
  cd_callS hO hE.1 hc hm hlk hdd rfl hlv rfl hcat hd ⟨hk, hn⟩ (fun r S' I' h => by obtain ⟨rfl, rfl, rfl⟩ := h; exact kk)
/-- switches -/
theorem r_tabI (hO : cd_O w X cc own d mc ms l) {dflt lo hi : Int} {offs : Array Int} {len : Nat} {x : Int32} (hd : decode cc pc = .ok (.tableswitch dflt lo hi offs, len)) (j : Nat) (hx : x = nI j) (hj : j < 2 ^ 31) (hlo : lo = 0) (hhi : (j : Int) ≤ hi) {off : Int} (ho : offs[j]? = some off) (ht : (pc : Int) + off = (tgt : Int)) (kk : cd_J w X k n S I tgt lv st) : cd_J w X k n S I pc lv (.int x :: st) := by
  intro H ls locs hR hL hq
  subst hx
  subst hlo
  have e := nI_toInt hj
  refine lv_tableIn hO.1 hO.2.1 hd (by rw [e]; omega) (by rw [e]; omega) (off := off) ?_ ht (kk H ls locs hR hL hq)
  rw [e]
  have : ((j : Int) - 0).toNat = j := by omega
  rw [this]
  exact ho
theorem r_tab (hO : cd_O w X cc own d mc ms l) {dflt lo hi : Int} {offs : Array Int} {len : Nat} {x : Int32} (hd : decode cc pc = .ok (.tableswitch dflt lo hi offs, len)) {off : Int} (h1 : ¬ x.toInt < lo) (h2 : ¬ hi < x.toInt) (ho : offs[(x.toInt - lo).toNat]? = some off) (ht : (pc : Int) + off = (tgt : Int)) (kk : cd_J w X k n S I tgt lv st) : cd_J w X k n S I pc lv (.int x :: st) := by
  intro H ls locs hR hL hq
  exact lv_tableIn hO.1 hO.2.1 hd h1 h2 ho ht (kk H ls locs hR hL hq)
theorem r_tabO (hO : cd_O w X cc own d mc ms l) {dflt lo hi : Int} {offs : Array Int} {len : Nat} {x : Int32} (hd : decode cc pc = .ok (.tableswitch dflt lo hi offs, len)) (h : x.toInt < lo ∨ hi < x.toInt) (ht : (pc : Int) + dflt = (tgt : Int)) (kk : cd_J w X k n S I tgt lv st) : cd_J w X k n S I pc lv (.int x :: st) := by
  intro H ls locs hR hL hq
  exact lv_tableOut hO.1 hO.2.1 hd h ht (kk H ls locs hR hL hq)
theorem r_look (hO : cd_O w X cc own d mc ms l) {dflt : Int} {ps : Array (Int × Int)} {len : Nat} {x : Int32} {off : Int} (hd : decode cc pc = .ok (.lookupswitch dflt ps, len)) (hp : (ps.toList.zip (ps.toList.drop 1)).all (fun (a, next) => a.1 < next.1) = true) (ho : Op.lookupswitch.offset ps.toList dflt x.toInt = off) (ht : (pc : Int) + off = (tgt : Int)) (kk : cd_J w X k n S I tgt lv st) : cd_J w X k n S I pc lv (.int x :: st) := by
  intro H ls locs hR hL hq
  exact lv_lookup hO.1 hO.2.1 hd hp ho ht (kk H ls locs hR hL hq)
/-- Math -/
theorem r_mmax (hO : cd_O w X cc own d mc ms l) (hE : cd_E w X nL rt mc ms nm post) {index : Nat} {x y : Int32} (hlk : Cond.methodLink own index Lib.Math.max.name ∈ cd_ws) (hcw : Cond.code Lib.Math.max.name Lib.Math.max.code 2 (some .int) ∈ cd_ws ∧ Cond.static Lib.Math.max.name ∈ cd_ws ∧ Cond.initialized "java/lang/Math" ∈ cd_ws) (hdd : 1 ≤ d) (hlv : lv.length = nL) (hcat : (st.map fun v => v.category).sum ≤ 8) (hk : k ≤ mc) (hn : n ≤ ms) (hd : cd_D 3 cc pc (.invokestatic index) pc') (kk : cd_J w X k n S I pc' lv (.int (if x < y then y else x) :: st)) : cd_J w X k n S I pc lv (.int y :: .int x :: st) := by
  intro H ls locs hR hL hq
  obtain ⟨hd, rfl⟩ := hd
  have h1 := hO.2.2.2.2.2.1
  have h2 := hO.2.2.2.2.2.2.1
  exact va_mmax hO.1 hO.2.1 (by rw [hE.1, hL.1, hlv]) hO.2.2.1 (hO.2.2.2.1 _ hlk) (hO.2.2.2.1 _ hcw.2.1) (hO.2.2.2.1 _ hcw.2.2) (hO.2.2.2.1 _ hcw.1) (by omega) (by omega) (Nat.le_trans hk hO.2.2.2.2.2.2.2.1) (Nat.le_trans hn hO.2.2.2.2.2.2.2.2.1) hd (kk H ls locs hR hL hq)
theorem r_mmin (hO : cd_O w X cc own d mc ms l) (hE : cd_E w X nL rt mc ms nm post) {index : Nat} {x y : Int32} (hlk : Cond.methodLink own index Lib.Math.min.name ∈ cd_ws) (hcw : Cond.code Lib.Math.min.name Lib.Math.min.code 2 (some .int) ∈ cd_ws ∧ Cond.static Lib.Math.min.name ∈ cd_ws ∧ Cond.initialized "java/lang/Math" ∈ cd_ws) (hdd : 1 ≤ d) (hlv : lv.length = nL) (hcat : (st.map fun v => v.category).sum ≤ 8) (hk : k ≤ mc) (hn : n ≤ ms) (hd : cd_D 3 cc pc (.invokestatic index) pc') (kk : cd_J w X k n S I pc' lv (.int (if y < x then y else x) :: st)) : cd_J w X k n S I pc lv (.int y :: .int x :: st) := by
  intro H ls locs hR hL hq
  obtain ⟨hd, rfl⟩ := hd
  have h1 := hO.2.2.2.2.2.1
  have h2 := hO.2.2.2.2.2.2.1
  exact va_mmin hO.1 hO.2.1 (by rw [hE.1, hL.1, hlv]) hO.2.2.1 (hO.2.2.2.1 _ hlk) (hO.2.2.2.1 _ hcw.2.1) (hO.2.2.2.1 _ hcw.2.2) (hO.2.2.2.1 _ hcw.1) (by omega) (by omega) (Nat.le_trans hk hO.2.2.2.2.2.2.2.1) (Nat.le_trans hn hO.2.2.2.2.2.2.2.2.1) hd (kk H ls locs hR hL hq)
end CDS
end
section
theorem cd_mem {q : Cond} (i : Nat) (h : lw_tbl[i]? = some q) (hg : goodWord q = true) : q ∈ cd_ws := List.mem_filter.mpr ⟨List.mem_of_getElem? h, hg⟩
theorem cd_ci0 : cd_CI 0 cd_R0 cd_T0 5 cd_t0 := ⟨rfl, cd_in0, cd_ty0, cd_nm0⟩
theorem cd_ci1 : cd_CI 1 cd_R1 cd_T1 9 cd_t1 := ⟨rfl, cd_in1, cd_ty1, cd_nm1⟩
theorem cd_ci2 : cd_CI 2 cd_R2 cd_T2 3 cd_t2 := ⟨rfl, cd_in2, cd_ty2, cd_nm2⟩
theorem cd_ci3 : cd_CI 3 cd_R3 cd_T3 4 cd_t3 := ⟨rfl, cd_in3, cd_ty3, cd_nm3⟩
theorem cd_ci4 : cd_CI 4 cd_R4 cd_T4 9 cd_t4 := ⟨rfl, cd_in4, cd_ty4, cd_nm4⟩
theorem cd_ci5 : cd_CI 5 cd_R5 cd_T5 4 cd_t5 := ⟨rfl, cd_in5, cd_ty5, cd_nm5⟩
theorem cd_ci6 : cd_CI 6 cd_R6 cd_T6 10 cd_t6 := ⟨rfl, cd_in6, cd_ty6, cd_nm6⟩
theorem cd_ci7 : cd_CI 7 cd_R7 cd_T7 33 cd_t7 := ⟨rfl, cd_in7, cd_ty7, cd_nm7⟩
abbrev b_M_init : ByteArray := prog_9_method_1_code
abbrev m_M_init : cd_MT := (⟨"CatDoorsModel", "<init>", "()V"⟩, b_M_init, 1, none)
theorem mf_M_init : cd_MI m_M_init 0 := ⟨⟨cd_mem 829 (by decide +kernel) rfl, cd_mem 61 (by decide +kernel) rfl, by decide +kernel, by decide⟩, rfl, cd_mem 828 (by decide +kernel) rfl, rfl⟩
abbrev b_M_in : ByteArray := prog_9_method_2_code
abbrev m_M_in : cd_MT := (⟨"CatDoorsModel", "in", "(III)Z"⟩, b_M_in, 3, some .boolean)
theorem mf_M_in : cd_MS m_M_in 3 := ⟨⟨cd_mem 939 (by decide +kernel) rfl, cd_mem 61 (by decide +kernel) rfl, by decide +kernel, by decide⟩, cd_mem 938 (by decide +kernel) rfl⟩
abbrev b_M_within : ByteArray := prog_9_method_3_code
abbrev m_M_within : cd_MT := (⟨"CatDoorsModel", "within", "(III)I"⟩, b_M_within, 3, some .int)
theorem mf_M_within : cd_MS m_M_within 3 := ⟨⟨cd_mem 982 (by decide +kernel) rfl, cd_mem 61 (by decide +kernel) rfl, by decide +kernel, by decide⟩, cd_mem 981 (by decide +kernel) rfl⟩
abbrev b_M_copyAll : ByteArray := prog_9_method_4_code
abbrev m_M_copyAll : cd_MT := (⟨"CatDoorsModel", "copyAll", "([I[I)V"⟩, b_M_copyAll, 3, none)
theorem mf_M_copyAll : cd_MS m_M_copyAll 2 := ⟨⟨cd_mem 1270 (by decide +kernel) rfl, cd_mem 61 (by decide +kernel) rfl, by decide +kernel, by decide⟩, cd_mem 1269 (by decide +kernel) rfl⟩
abbrev b_M_isAsking : ByteArray := prog_9_method_5_code
abbrev m_M_isAsking : cd_MT := (⟨"CatDoorsModel", "isAsking", "(I)Z"⟩, b_M_isAsking, 2, some .boolean)
theorem mf_M_isAsking : cd_MV m_M_isAsking 1 := ⟨⟨cd_mem 960 (by decide +kernel) rfl, cd_mem 61 (by decide +kernel) rfl, by decide +kernel, by decide⟩, cd_mem 959 (by decide +kernel) rfl, cd_mem 18 (by decide +kernel) rfl⟩
abbrev b_M_of : ByteArray := prog_9_method_6_code
abbrev m_M_of : cd_MT := (⟨"CatDoorsModel", "of", "(II)I"⟩, b_M_of, 3, some .int)
theorem mf_M_of : cd_MV m_M_of 2 := ⟨⟨cd_mem 964 (by decide +kernel) rfl, cd_mem 61 (by decide +kernel) rfl, by decide +kernel, by decide⟩, cd_mem 963 (by decide +kernel) rfl, cd_mem 19 (by decide +kernel) rfl⟩
abbrev b_M_put : ByteArray := prog_9_method_7_code
abbrev m_M_put : cd_MT := (⟨"CatDoorsModel", "put", "(III)V"⟩, b_M_put, 4, none)
theorem mf_M_put : cd_MV m_M_put 3 := ⟨⟨cd_mem 952 (by decide +kernel) rfl, cd_mem 61 (by decide +kernel) rfl, by decide +kernel, by decide⟩, cd_mem 951 (by decide +kernel) rfl, cd_mem 17 (by decide +kernel) rfl⟩
abbrev b_M_becomes : ByteArray := prog_9_method_8_code
abbrev m_M_becomes : cd_MT := (⟨"CatDoorsModel", "becomes", "(II)I"⟩, b_M_becomes, 4, some .int)
theorem mf_M_becomes : cd_MV m_M_becomes 2 := ⟨⟨cd_mem 1018 (by decide +kernel) rfl, cd_mem 61 (by decide +kernel) rfl, by decide +kernel, by decide⟩, cd_mem 1017 (by decide +kernel) rfl, cd_mem 28 (by decide +kernel) rfl⟩
abbrev b_M_comes : ByteArray := prog_9_method_9_code
abbrev m_M_comes : cd_MT := (⟨"CatDoorsModel", "comes", "(IIII)I"⟩, b_M_comes, 6, some .int)
theorem mf_M_comes : cd_MV m_M_comes 4 := ⟨⟨cd_mem 948 (by decide +kernel) rfl, cd_mem 61 (by decide +kernel) rfl, by decide +kernel, by decide⟩, cd_mem 947 (by decide +kernel) rfl, cd_mem 16 (by decide +kernel) rfl⟩
abbrev b_M_isOf : ByteArray := prog_9_method_10_code
abbrev m_M_isOf : cd_MT := (⟨"CatDoorsModel", "isOf", "(II)Z"⟩, b_M_isOf, 2, some .boolean)
theorem mf_M_isOf : cd_MS m_M_isOf 2 := ⟨⟨cd_mem 942 (by decide +kernel) rfl, cd_mem 61 (by decide +kernel) rfl, by decide +kernel, by decide⟩, cd_mem 941 (by decide +kernel) rfl⟩
abbrev b_M_asking : ByteArray := prog_9_method_11_code
abbrev m_M_asking : cd_MT := (⟨"CatDoorsModel", "asking", "(IIII)I"⟩, b_M_asking, 5, some .int)
theorem mf_M_asking : cd_MV m_M_asking 4 := ⟨⟨cd_mem 936 (by decide +kernel) rfl, cd_mem 61 (by decide +kernel) rfl, by decide +kernel, by decide⟩, cd_mem 934 (by decide +kernel) rfl, cd_mem 935 (by decide +kernel) rfl⟩
abbrev b_M_pressesOf : ByteArray := prog_9_method_12_code
abbrev m_M_pressesOf : cd_MT := (⟨"CatDoorsModel", "pressesOf", "(I)I"⟩, b_M_pressesOf, 5, some .int)
theorem mf_M_pressesOf : cd_MV m_M_pressesOf 1 := ⟨⟨cd_mem 968 (by decide +kernel) rfl, cd_mem 61 (by decide +kernel) rfl, by decide +kernel, by decide⟩, cd_mem 967 (by decide +kernel) rfl, cd_mem 20 (by decide +kernel) rfl⟩
abbrev b_M_learnsOf : ByteArray := prog_9_method_13_code
abbrev m_M_learnsOf : cd_MT := (⟨"CatDoorsModel", "learnsOf", "(I)I"⟩, b_M_learnsOf, 2, some .int)
theorem mf_M_learnsOf : cd_MV m_M_learnsOf 1 := ⟨⟨cd_mem 986 (by decide +kernel) rfl, cd_mem 61 (by decide +kernel) rfl, by decide +kernel, by decide⟩, cd_mem 985 (by decide +kernel) rfl, cd_mem 23 (by decide +kernel) rfl⟩
abbrev b_M_forgetsOf : ByteArray := prog_9_method_14_code
abbrev m_M_forgetsOf : cd_MT := (⟨"CatDoorsModel", "forgetsOf", "(I)I"⟩, b_M_forgetsOf, 2, some .int)
theorem mf_M_forgetsOf : cd_MV m_M_forgetsOf 1 := ⟨⟨cd_mem 990 (by decide +kernel) rfl, cd_mem 61 (by decide +kernel) rfl, by decide +kernel, by decide⟩, cd_mem 989 (by decide +kernel) rfl, cd_mem 24 (by decide +kernel) rfl⟩
abbrev b_M_scratchesOf : ByteArray := prog_9_method_15_code
abbrev m_M_scratchesOf : cd_MT := (⟨"CatDoorsModel", "scratchesOf", "(I)I"⟩, b_M_scratchesOf, 2, some .int)
theorem mf_M_scratchesOf : cd_MV m_M_scratchesOf 1 := ⟨⟨cd_mem 994 (by decide +kernel) rfl, cd_mem 61 (by decide +kernel) rfl, by decide +kernel, by decide⟩, cd_mem 993 (by decide +kernel) rfl, cd_mem 25 (by decide +kernel) rfl⟩
abbrev b_M_meantBy : ByteArray := prog_9_method_16_code
abbrev m_M_meantBy : cd_MT := (⟨"CatDoorsModel", "meantBy", "(I)I"⟩, b_M_meantBy, 3, some .int)
theorem mf_M_meantBy : cd_MV m_M_meantBy 1 := ⟨⟨cd_mem 998 (by decide +kernel) rfl, cd_mem 61 (by decide +kernel) rfl, by decide +kernel, by decide⟩, cd_mem 997 (by decide +kernel) rfl, cd_mem 26 (by decide +kernel) rfl⟩
abbrev b_M_worthOf : ByteArray := prog_9_method_17_code
abbrev m_M_worthOf : cd_MT := (⟨"CatDoorsModel", "worthOf", "(I)I"⟩, b_M_worthOf, 3, some .int)
theorem mf_M_worthOf : cd_MV m_M_worthOf 1 := ⟨⟨cd_mem 1002 (by decide +kernel) rfl, cd_mem 61 (by decide +kernel) rfl, by decide +kernel, by decide⟩, cd_mem 1001 (by decide +kernel) rfl, cd_mem 27 (by decide +kernel) rfl⟩
abbrev b_M_told : ByteArray := prog_9_method_18_code
abbrev m_M_told : cd_MT := (⟨"CatDoorsModel", "told", "(II)I"⟩, b_M_told, 3, some .int)
theorem mf_M_told : cd_MV m_M_told 2 := ⟨⟨cd_mem 956 (by decide +kernel) rfl, cd_mem 61 (by decide +kernel) rfl, by decide +kernel, by decide⟩, cd_mem 954 (by decide +kernel) rfl, cd_mem 955 (by decide +kernel) rfl⟩
abbrev b_M_isUnder : ByteArray := prog_9_method_19_code
abbrev m_M_isUnder : cd_MT := (⟨"CatDoorsModel", "isUnder", "(II)Z"⟩, b_M_isUnder, 2, some .boolean)
theorem mf_M_isUnder : cd_MS m_M_isUnder 2 := ⟨⟨cd_mem 1009 (by decide +kernel) rfl, cd_mem 61 (by decide +kernel) rfl, by decide +kernel, by decide⟩, cd_mem 1008 (by decide +kernel) rfl⟩
abbrev b_M_as : ByteArray := prog_9_method_20_code
abbrev m_M_as : cd_MT := (⟨"CatDoorsModel", "as", "(II)I"⟩, b_M_as, 3, some .int)
theorem mf_M_as : cd_MV m_M_as 2 := ⟨⟨cd_mem 1006 (by decide +kernel) rfl, cd_mem 61 (by decide +kernel) rfl, by decide +kernel, by decide⟩, cd_mem 1004 (by decide +kernel) rfl, cd_mem 1005 (by decide +kernel) rfl⟩
abbrev b_M_turns : ByteArray := prog_9_method_21_code
abbrev m_M_turns : cd_MT := (⟨"CatDoorsModel", "turns", "(II)I"⟩, b_M_turns, 3, some .int)
theorem mf_M_turns : cd_MV m_M_turns 2 := ⟨⟨cd_mem 1014 (by decide +kernel) rfl, cd_mem 61 (by decide +kernel) rfl, by decide +kernel, by decide⟩, cd_mem 1012 (by decide +kernel) rfl, cd_mem 1013 (by decide +kernel) rfl⟩
abbrev b_M_set : ByteArray := prog_9_method_22_code
abbrev m_M_set : cd_MT := (⟨"CatDoorsModel", "set", "(III)I"⟩, b_M_set, 4, some .int)
theorem mf_M_set : cd_MV m_M_set 3 := ⟨⟨cd_mem 1022 (by decide +kernel) rfl, cd_mem 61 (by decide +kernel) rfl, by decide +kernel, by decide⟩, cd_mem 1020 (by decide +kernel) rfl, cd_mem 1021 (by decide +kernel) rfl⟩
abbrev b_M_rule : ByteArray := prog_9_method_23_code
abbrev m_M_rule : cd_MT := (⟨"CatDoorsModel", "rule", "(II)I"⟩, b_M_rule, 4, some .int)
theorem mf_M_rule : cd_MV m_M_rule 2 := ⟨⟨cd_mem 1026 (by decide +kernel) rfl, cd_mem 61 (by decide +kernel) rfl, by decide +kernel, by decide⟩, cd_mem 1024 (by decide +kernel) rfl, cd_mem 1025 (by decide +kernel) rfl⟩
abbrev b_M_draw : ByteArray := prog_9_method_24_code
abbrev m_M_draw : cd_MT := (⟨"CatDoorsModel", "draw", "()I"⟩, b_M_draw, 1, some .int)
theorem mf_M_draw : cd_MV m_M_draw 0 := ⟨⟨cd_mem 1046 (by decide +kernel) rfl, cd_mem 61 (by decide +kernel) rfl, by decide +kernel, by decide⟩, cd_mem 1045 (by decide +kernel) rfl, cd_mem 32 (by decide +kernel) rfl⟩
abbrev b_M_goes : ByteArray := prog_9_method_25_code
abbrev m_M_goes : cd_MT := (⟨"CatDoorsModel", "goes", "()I"⟩, b_M_goes, 1, some .int)
theorem mf_M_goes : cd_MV m_M_goes 0 := ⟨⟨cd_mem 1051 (by decide +kernel) rfl, cd_mem 61 (by decide +kernel) rfl, by decide +kernel, by decide⟩, cd_mem 1050 (by decide +kernel) rfl, cd_mem 33 (by decide +kernel) rfl⟩
abbrev b_M_goesAsMeant : ByteArray := prog_9_method_26_code
abbrev m_M_goesAsMeant : cd_MT := (⟨"CatDoorsModel", "goesAsMeant", "(I)I"⟩, b_M_goesAsMeant, 2, some .int)
theorem mf_M_goesAsMeant : cd_MV m_M_goesAsMeant 1 := ⟨⟨cd_mem 1042 (by decide +kernel) rfl, cd_mem 61 (by decide +kernel) rfl, by decide +kernel, by decide⟩, cd_mem 1041 (by decide +kernel) rfl, cd_mem 31 (by decide +kernel) rfl⟩
abbrev b_M_learns : ByteArray := prog_9_method_27_code
abbrev m_M_learns : cd_MT := (⟨"CatDoorsModel", "learns", "(I)V"⟩, b_M_learns, 2, none)
theorem mf_M_learns : cd_MV m_M_learns 1 := ⟨⟨cd_mem 1038 (by decide +kernel) rfl, cd_mem 61 (by decide +kernel) rfl, by decide +kernel, by decide⟩, cd_mem 1037 (by decide +kernel) rfl, cd_mem 30 (by decide +kernel) rfl⟩
abbrev b_M_rises : ByteArray := prog_9_method_28_code
abbrev m_M_rises : cd_MT := (⟨"CatDoorsModel", "rises", "(I)I"⟩, b_M_rises, 2, some .int)
theorem mf_M_rises : cd_MV m_M_rises 1 := ⟨⟨cd_mem 1034 (by decide +kernel) rfl, cd_mem 61 (by decide +kernel) rfl, by decide +kernel, by decide⟩, cd_mem 1033 (by decide +kernel) rfl, cd_mem 29 (by decide +kernel) rfl⟩
abbrev b_M_opens : ByteArray := prog_9_method_29_code
abbrev m_M_opens : cd_MT := (⟨"CatDoorsModel", "opens", "(I)I"⟩, b_M_opens, 2, some .int)
theorem mf_M_opens : cd_MV m_M_opens 1 := ⟨⟨cd_mem 1030 (by decide +kernel) rfl, cd_mem 61 (by decide +kernel) rfl, by decide +kernel, by decide⟩, cd_mem 1028 (by decide +kernel) rfl, cd_mem 1029 (by decide +kernel) rfl⟩
abbrev b_M_deal : ByteArray := prog_9_method_30_code
abbrev m_M_deal : cd_MT := (⟨"CatDoorsModel", "deal", "(I)I"⟩, b_M_deal, 7, some .int)
theorem mf_M_deal : cd_MV m_M_deal 1 := ⟨⟨cd_mem 1055 (by decide +kernel) rfl, cd_mem 61 (by decide +kernel) rfl, by decide +kernel, by decide⟩, cd_mem 1053 (by decide +kernel) rfl, cd_mem 1054 (by decide +kernel) rfl⟩
abbrev b_M_seed : ByteArray := prog_9_method_31_code
abbrev m_M_seed : cd_MT := (⟨"CatDoorsModel", "seed", "(I)I"⟩, b_M_seed, 2, some .int)
theorem mf_M_seed : cd_MV m_M_seed 1 := ⟨⟨cd_mem 1059 (by decide +kernel) rfl, cd_mem 61 (by decide +kernel) rfl, by decide +kernel, by decide⟩, cd_mem 1057 (by decide +kernel) rfl, cd_mem 1058 (by decide +kernel) rfl⟩
abbrev b_M_asks : ByteArray := prog_9_method_32_code
abbrev m_M_asks : cd_MT := (⟨"CatDoorsModel", "asks", "(I)V"⟩, b_M_asks, 3, none)
theorem mf_M_asks : cd_MV m_M_asks 1 := ⟨⟨cd_mem 1075 (by decide +kernel) rfl, cd_mem 61 (by decide +kernel) rfl, by decide +kernel, by decide⟩, cd_mem 1074 (by decide +kernel) rfl, cd_mem 36 (by decide +kernel) rfl⟩
abbrev b_M_hour : ByteArray := prog_9_method_33_code
abbrev m_M_hour : cd_MT := (⟨"CatDoorsModel", "hour", "()V"⟩, b_M_hour, 2, none)
theorem mf_M_hour : cd_MV m_M_hour 0 := ⟨⟨cd_mem 1071 (by decide +kernel) rfl, cd_mem 61 (by decide +kernel) rfl, by decide +kernel, by decide⟩, cd_mem 1070 (by decide +kernel) rfl, cd_mem 35 (by decide +kernel) rfl⟩
abbrev b_M_goesOn : ByteArray := prog_9_method_34_code
abbrev m_M_goesOn : cd_MT := (⟨"CatDoorsModel", "goesOn", "(I)V"⟩, b_M_goesOn, 3, none)
theorem mf_M_goesOn : cd_MV m_M_goesOn 1 := ⟨⟨cd_mem 1067 (by decide +kernel) rfl, cd_mem 61 (by decide +kernel) rfl, by decide +kernel, by decide⟩, cd_mem 1066 (by decide +kernel) rfl, cd_mem 34 (by decide +kernel) rfl⟩
abbrev b_M_hours : ByteArray := prog_9_method_35_code
abbrev m_M_hours : cd_MT := (⟨"CatDoorsModel", "hours", "(I)I"⟩, b_M_hours, 3, some .int)
theorem mf_M_hours : cd_MV m_M_hours 1 := ⟨⟨cd_mem 1063 (by decide +kernel) rfl, cd_mem 61 (by decide +kernel) rfl, by decide +kernel, by decide⟩, cd_mem 1061 (by decide +kernel) rfl, cd_mem 1062 (by decide +kernel) rfl⟩
abbrev b_M_habits : ByteArray := prog_9_method_36_code
abbrev m_M_habits : cd_MT := (⟨"CatDoorsModel", "habits", "()I"⟩, b_M_habits, 3, some .int)
theorem mf_M_habits : cd_MV m_M_habits 0 := ⟨⟨cd_mem 1083 (by decide +kernel) rfl, cd_mem 61 (by decide +kernel) rfl, by decide +kernel, by decide⟩, cd_mem 1082 (by decide +kernel) rfl, cd_mem 37 (by decide +kernel) rfl⟩
abbrev b_M_nextOnes : ByteArray := prog_9_method_37_code
abbrev m_M_nextOnes : cd_MT := (⟨"CatDoorsModel", "nextOnes", "()I"⟩, b_M_nextOnes, 4, some .int)
theorem mf_M_nextOnes : cd_MV m_M_nextOnes 0 := ⟨⟨cd_mem 1087 (by decide +kernel) rfl, cd_mem 61 (by decide +kernel) rfl, by decide +kernel, by decide⟩, cd_mem 1086 (by decide +kernel) rfl, cd_mem 38 (by decide +kernel) rfl⟩
abbrev b_M_house : ByteArray := prog_9_method_38_code
abbrev m_M_house : cd_MT := (⟨"CatDoorsModel", "house", "(I)I"⟩, b_M_house, 2, some .int)
theorem mf_M_house : cd_MV m_M_house 1 := ⟨⟨cd_mem 1079 (by decide +kernel) rfl, cd_mem 61 (by decide +kernel) rfl, by decide +kernel, by decide⟩, cd_mem 1077 (by decide +kernel) rfl, cd_mem 1078 (by decide +kernel) rfl⟩
abbrev b_M_thinks : ByteArray := prog_9_method_39_code
abbrev m_M_thinks : cd_MT := (⟨"CatDoorsModel", "thinks", "()V"⟩, b_M_thinks, 2, none)
theorem mf_M_thinks : cd_MV m_M_thinks 0 := ⟨⟨cd_mem 1095 (by decide +kernel) rfl, cd_mem 61 (by decide +kernel) rfl, by decide +kernel, by decide⟩, cd_mem 1094 (by decide +kernel) rfl, cd_mem 39 (by decide +kernel) rfl⟩
abbrev b_M_putsBack : ByteArray := prog_9_method_40_code
abbrev m_M_putsBack : cd_MT := (⟨"CatDoorsModel", "putsBack", "()V"⟩, b_M_putsBack, 2, none)
theorem mf_M_putsBack : cd_MV m_M_putsBack 0 := ⟨⟨cd_mem 1099 (by decide +kernel) rfl, cd_mem 61 (by decide +kernel) rfl, by decide +kernel, by decide⟩, cd_mem 1098 (by decide +kernel) rfl, cd_mem 40 (by decide +kernel) rfl⟩
abbrev b_M_behind : ByteArray := prog_9_method_41_code
abbrev m_M_behind : cd_MT := (⟨"CatDoorsModel", "behind", "(II)I"⟩, b_M_behind, 4, some .int)
theorem mf_M_behind : cd_MV m_M_behind 2 := ⟨⟨cd_mem 1091 (by decide +kernel) rfl, cd_mem 61 (by decide +kernel) rfl, by decide +kernel, by decide⟩, cd_mem 1089 (by decide +kernel) rfl, cd_mem 1090 (by decide +kernel) rfl⟩
abbrev b_M_quiet : ByteArray := prog_9_method_42_code
abbrev m_M_quiet : cd_MT := (⟨"CatDoorsModel", "quiet", "()I"⟩, b_M_quiet, 2, some .int)
theorem mf_M_quiet : cd_MV m_M_quiet 0 := ⟨⟨cd_mem 1103 (by decide +kernel) rfl, cd_mem 61 (by decide +kernel) rfl, by decide +kernel, by decide⟩, cd_mem 1101 (by decide +kernel) rfl, cd_mem 1102 (by decide +kernel) rfl⟩
abbrev b_M_habitsBehind : ByteArray := prog_9_method_43_code
abbrev m_M_habitsBehind : cd_MT := (⟨"CatDoorsModel", "habitsBehind", "(I)I"⟩, b_M_habitsBehind, 3, some .int)
theorem mf_M_habitsBehind : cd_MV m_M_habitsBehind 1 := ⟨⟨cd_mem 1112 (by decide +kernel) rfl, cd_mem 61 (by decide +kernel) rfl, by decide +kernel, by decide⟩, cd_mem 1111 (by decide +kernel) rfl, cd_mem 41 (by decide +kernel) rfl⟩
abbrev b_M_risingsBehind : ByteArray := prog_9_method_44_code
abbrev m_M_risingsBehind : cd_MT := (⟨"CatDoorsModel", "risingsBehind", "(I)I"⟩, b_M_risingsBehind, 3, some .int)
theorem mf_M_risingsBehind : cd_MV m_M_risingsBehind 1 := ⟨⟨cd_mem 1124 (by decide +kernel) rfl, cd_mem 61 (by decide +kernel) rfl, by decide +kernel, by decide⟩, cd_mem 1123 (by decide +kernel) rfl, cd_mem 42 (by decide +kernel) rfl⟩
abbrev b_M_firm : ByteArray := prog_9_method_45_code
abbrev m_M_firm : cd_MT := (⟨"CatDoorsModel", "firm", "(II)I"⟩, b_M_firm, 7, some .int)
theorem mf_M_firm : cd_MV m_M_firm 2 := ⟨⟨cd_mem 1108 (by decide +kernel) rfl, cd_mem 61 (by decide +kernel) rfl, by decide +kernel, by decide⟩, cd_mem 1106 (by decide +kernel) rfl, cd_mem 1107 (by decide +kernel) rfl⟩
abbrev b_M_givenIn : ByteArray := prog_9_method_46_code
abbrev m_M_givenIn : cd_MT := (⟨"CatDoorsModel", "givenIn", "(II)I"⟩, b_M_givenIn, 4, some .int)
theorem mf_M_givenIn : cd_MV m_M_givenIn 2 := ⟨⟨cd_mem 1116 (by decide +kernel) rfl, cd_mem 61 (by decide +kernel) rfl, by decide +kernel, by decide⟩, cd_mem 1114 (by decide +kernel) rfl, cd_mem 1115 (by decide +kernel) rfl⟩
abbrev b_M_heard : ByteArray := prog_9_method_47_code
abbrev m_M_heard : cd_MT := (⟨"CatDoorsModel", "heard", "(II)I"⟩, b_M_heard, 7, some .int)
theorem mf_M_heard : cd_MV m_M_heard 2 := ⟨⟨cd_mem 1120 (by decide +kernel) rfl, cd_mem 61 (by decide +kernel) rfl, by decide +kernel, by decide⟩, cd_mem 1118 (by decide +kernel) rfl, cd_mem 1119 (by decide +kernel) rfl⟩
abbrev b_M_lamp : ByteArray := prog_9_method_48_code
abbrev m_M_lamp : cd_MT := (⟨"CatDoorsModel", "lamp", "(I)I"⟩, b_M_lamp, 4, some .int)
theorem mf_M_lamp : cd_MV m_M_lamp 1 := ⟨⟨cd_mem 1128 (by decide +kernel) rfl, cd_mem 61 (by decide +kernel) rfl, by decide +kernel, by decide⟩, cd_mem 1126 (by decide +kernel) rfl, cd_mem 1127 (by decide +kernel) rfl⟩
abbrev b_M_saved : ByteArray := prog_9_method_49_code
abbrev m_M_saved : cd_MT := (⟨"CatDoorsModel", "saved", "(I)I"⟩, b_M_saved, 3, some .int)
theorem mf_M_saved : cd_MV m_M_saved 1 := ⟨⟨cd_mem 1132 (by decide +kernel) rfl, cd_mem 61 (by decide +kernel) rfl, by decide +kernel, by decide⟩, cd_mem 1130 (by decide +kernel) rfl, cd_mem 1131 (by decide +kernel) rfl⟩
abbrev b_M_offBy : ByteArray := prog_9_method_50_code
abbrev m_M_offBy : cd_MT := (⟨"CatDoorsModel", "offBy", "(II)J"⟩, b_M_offBy, 9, some .long)
theorem mf_M_offBy : cd_MV m_M_offBy 2 := ⟨⟨cd_mem 1144 (by decide +kernel) rfl, cd_mem 61 (by decide +kernel) rfl, by decide +kernel, by decide⟩, cd_mem 1143 (by decide +kernel) rfl, cd_mem 43 (by decide +kernel) rfl⟩
abbrev b_M_taught : ByteArray := prog_9_method_51_code
abbrev m_M_taught : cd_MT := (⟨"CatDoorsModel", "taught", "(II)I"⟩, b_M_taught, 9, some .int)
theorem mf_M_taught : cd_MV m_M_taught 2 := ⟨⟨cd_mem 1136 (by decide +kernel) rfl, cd_mem 61 (by decide +kernel) rfl, by decide +kernel, by decide⟩, cd_mem 1134 (by decide +kernel) rfl, cd_mem 1135 (by decide +kernel) rfl⟩
abbrev b_M_fee : ByteArray := prog_9_method_52_code
abbrev m_M_fee : cd_MT := (⟨"CatDoorsModel", "fee", "()I"⟩, b_M_fee, 2, some .int)
theorem mf_M_fee : cd_MV m_M_fee 0 := ⟨⟨cd_mem 1148 (by decide +kernel) rfl, cd_mem 61 (by decide +kernel) rfl, by decide +kernel, by decide⟩, cd_mem 1146 (by decide +kernel) rfl, cd_mem 1147 (by decide +kernel) rfl⟩
abbrev b_M_fine : ByteArray := prog_9_method_53_code
abbrev m_M_fine : cd_MT := (⟨"CatDoorsModel", "fine", "(I)I"⟩, b_M_fine, 3, some .int)
theorem mf_M_fine : cd_MV m_M_fine 1 := ⟨⟨cd_mem 1152 (by decide +kernel) rfl, cd_mem 61 (by decide +kernel) rfl, by decide +kernel, by decide⟩, cd_mem 1150 (by decide +kernel) rfl, cd_mem 1151 (by decide +kernel) rfl⟩
abbrev b_M_feed : ByteArray := prog_9_method_54_code
abbrev m_M_feed : cd_MT := (⟨"CatDoorsModel", "feed", "(III)I"⟩, b_M_feed, 6, some .int)
theorem mf_M_feed : cd_MV m_M_feed 3 := ⟨⟨cd_mem 1156 (by decide +kernel) rfl, cd_mem 61 (by decide +kernel) rfl, by decide +kernel, by decide⟩, cd_mem 1154 (by decide +kernel) rfl, cd_mem 1155 (by decide +kernel) rfl⟩
abbrev b_M_trim : ByteArray := prog_9_method_55_code
abbrev m_M_trim : cd_MT := (⟨"CatDoorsModel", "trim", "(I)I"⟩, b_M_trim, 2, some .int)
theorem mf_M_trim : cd_MV m_M_trim 1 := ⟨⟨cd_mem 1160 (by decide +kernel) rfl, cd_mem 61 (by decide +kernel) rfl, by decide +kernel, by decide⟩, cd_mem 1158 (by decide +kernel) rfl, cd_mem 1159 (by decide +kernel) rfl⟩
abbrev b_M_isLetter : ByteArray := prog_9_method_56_code
abbrev m_M_isLetter : cd_MT := (⟨"CatDoorsModel", "isLetter", "(I)Z"⟩, b_M_isLetter, 2, some .boolean)
theorem mf_M_isLetter : cd_MV m_M_isLetter 1 := ⟨⟨cd_mem 1172 (by decide +kernel) rfl, cd_mem 61 (by decide +kernel) rfl, by decide +kernel, by decide⟩, cd_mem 1171 (by decide +kernel) rfl, cd_mem 45 (by decide +kernel) rfl⟩
abbrev b_M_isFigure : ByteArray := prog_9_method_57_code
abbrev m_M_isFigure : cd_MT := (⟨"CatDoorsModel", "isFigure", "(I)Z"⟩, b_M_isFigure, 2, some .boolean)
theorem mf_M_isFigure : cd_MV m_M_isFigure 1 := ⟨⟨cd_mem 1176 (by decide +kernel) rfl, cd_mem 61 (by decide +kernel) rfl, by decide +kernel, by decide⟩, cd_mem 1175 (by decide +kernel) rfl, cd_mem 46 (by decide +kernel) rfl⟩
abbrev b_M_go : ByteArray := prog_9_method_58_code
abbrev m_M_go : cd_MT := (⟨"CatDoorsModel", "go", "()V"⟩, b_M_go, 2, none)
theorem mf_M_go : cd_MV m_M_go 0 := ⟨⟨cd_mem 1168 (by decide +kernel) rfl, cd_mem 61 (by decide +kernel) rfl, by decide +kernel, by decide⟩, cd_mem 1167 (by decide +kernel) rfl, cd_mem 44 (by decide +kernel) rfl⟩
abbrev b_M_takesKey : ByteArray := prog_9_method_59_code
abbrev m_M_takesKey : cd_MT := (⟨"CatDoorsModel", "takesKey", "()Z"⟩, b_M_takesKey, 5, some .boolean)
theorem mf_M_takesKey : cd_MV m_M_takesKey 0 := ⟨⟨cd_mem 1180 (by decide +kernel) rfl, cd_mem 61 (by decide +kernel) rfl, by decide +kernel, by decide⟩, cd_mem 1179 (by decide +kernel) rfl, cd_mem 47 (by decide +kernel) rfl⟩
abbrev b_M_nameOf : ByteArray := prog_9_method_60_code
abbrev m_M_nameOf : cd_MT := (⟨"CatDoorsModel", "nameOf", "(I)I"⟩, b_M_nameOf, 2, some .int)
theorem mf_M_nameOf : cd_MV m_M_nameOf 1 := ⟨⟨cd_mem 1192 (by decide +kernel) rfl, cd_mem 61 (by decide +kernel) rfl, by decide +kernel, by decide⟩, cd_mem 1191 (by decide +kernel) rfl, cd_mem 50 (by decide +kernel) rfl⟩
abbrev b_M_rank : ByteArray := prog_9_method_61_code
abbrev m_M_rank : cd_MT := (⟨"CatDoorsModel", "rank", "(I)I"⟩, b_M_rank, 1, some .int)
theorem mf_M_rank : cd_MS m_M_rank 1 := ⟨⟨cd_mem 1199 (by decide +kernel) rfl, cd_mem 61 (by decide +kernel) rfl, by decide +kernel, by decide⟩, cd_mem 1198 (by decide +kernel) rfl⟩
abbrev b_M_settle : ByteArray := prog_9_method_62_code
abbrev m_M_settle : cd_MT := (⟨"CatDoorsModel", "settle", "(I)V"⟩, b_M_settle, 2, none)
theorem mf_M_settle : cd_MV m_M_settle 1 := ⟨⟨cd_mem 1196 (by decide +kernel) rfl, cd_mem 61 (by decide +kernel) rfl, by decide +kernel, by decide⟩, cd_mem 1195 (by decide +kernel) rfl, cd_mem 51 (by decide +kernel) rfl⟩
abbrev b_M_signHere : ByteArray := prog_9_method_63_code
abbrev m_M_signHere : cd_MT := (⟨"CatDoorsModel", "signHere", "()I"⟩, b_M_signHere, 1, some .int)
theorem mf_M_signHere : cd_MV m_M_signHere 0 := ⟨⟨cd_mem 1207 (by decide +kernel) rfl, cd_mem 61 (by decide +kernel) rfl, by decide +kernel, by decide⟩, cd_mem 1206 (by decide +kernel) rfl, cd_mem 53 (by decide +kernel) rfl⟩
abbrev b_M_takesPart : ByteArray := prog_9_method_64_code
abbrev m_M_takesPart : cd_MT := (⟨"CatDoorsModel", "takesPart", "()Z"⟩, b_M_takesPart, 2, some .boolean)
theorem mf_M_takesPart : cd_MV m_M_takesPart 0 := ⟨⟨cd_mem 1188 (by decide +kernel) rfl, cd_mem 61 (by decide +kernel) rfl, by decide +kernel, by decide⟩, cd_mem 1187 (by decide +kernel) rfl, cd_mem 49 (by decide +kernel) rfl⟩
abbrev b_M_takesE : ByteArray := prog_9_method_65_code
abbrev m_M_takesE : cd_MT := (⟨"CatDoorsModel", "takesE", "()Z"⟩, b_M_takesE, 5, some .boolean)
theorem mf_M_takesE : cd_MV m_M_takesE 0 := ⟨⟨cd_mem 1184 (by decide +kernel) rfl, cd_mem 61 (by decide +kernel) rfl, by decide +kernel, by decide⟩, cd_mem 1183 (by decide +kernel) rfl, cd_mem 48 (by decide +kernel) rfl⟩
abbrev b_M_notsOpen : ByteArray := prog_9_method_66_code
abbrev m_M_notsOpen : cd_MT := (⟨"CatDoorsModel", "notsOpen", "()I"⟩, b_M_notsOpen, 3, some .int)
theorem mf_M_notsOpen : cd_MV m_M_notsOpen 0 := ⟨⟨cd_mem 1203 (by decide +kernel) rfl, cd_mem 61 (by decide +kernel) rfl, by decide +kernel, by decide⟩, cd_mem 1202 (by decide +kernel) rfl, cd_mem 52 (by decide +kernel) rfl⟩
abbrev b_M_text : ByteArray := prog_9_method_67_code
abbrev m_M_text : cd_MT := (⟨"CatDoorsModel", "text", "()I"⟩, b_M_text, 4, some .int)
theorem mf_M_text : cd_MV m_M_text 0 := ⟨⟨cd_mem 1164 (by decide +kernel) rfl, cd_mem 61 (by decide +kernel) rfl, by decide +kernel, by decide⟩, cd_mem 1162 (by decide +kernel) rfl, cd_mem 1163 (by decide +kernel) rfl⟩
abbrev b_M_textTold : ByteArray := prog_9_method_68_code
abbrev m_M_textTold : cd_MT := (⟨"CatDoorsModel", "textTold", "(II)I"⟩, b_M_textTold, 3, some .int)
theorem mf_M_textTold : cd_MV m_M_textTold 2 := ⟨⟨cd_mem 1211 (by decide +kernel) rfl, cd_mem 61 (by decide +kernel) rfl, by decide +kernel, by decide⟩, cd_mem 1209 (by decide +kernel) rfl, cd_mem 1210 (by decide +kernel) rfl⟩
abbrev b_M_counts : ByteArray := prog_9_method_69_code
abbrev m_M_counts : cd_MT := (⟨"CatDoorsModel", "counts", "(I)I"⟩, b_M_counts, 3, some .int)
theorem mf_M_counts : cd_MV m_M_counts 1 := ⟨⟨cd_mem 972 (by decide +kernel) rfl, cd_mem 61 (by decide +kernel) rfl, by decide +kernel, by decide⟩, cd_mem 971 (by decide +kernel) rfl, cd_mem 21 (by decide +kernel) rfl⟩
abbrev b_M_why : ByteArray := prog_9_method_70_code
abbrev m_M_why : cd_MT := (⟨"CatDoorsModel", "why", "(I)I"⟩, b_M_why, 3, some .int)
theorem mf_M_why : cd_MV m_M_why 1 := ⟨⟨cd_mem 1215 (by decide +kernel) rfl, cd_mem 61 (by decide +kernel) rfl, by decide +kernel, by decide⟩, cd_mem 1213 (by decide +kernel) rfl, cd_mem 1214 (by decide +kernel) rfl⟩
abbrev b_M_two : ByteArray := prog_9_method_71_code
abbrev m_M_two : cd_MT := (⟨"CatDoorsModel", "two", "(III)I"⟩, b_M_two, 3, some .int)
theorem mf_M_two : cd_MS m_M_two 3 := ⟨⟨cd_mem 979 (by decide +kernel) rfl, cd_mem 61 (by decide +kernel) rfl, by decide +kernel, by decide⟩, cd_mem 978 (by decide +kernel) rfl⟩
abbrev b_M_worksOut : ByteArray := prog_9_method_72_code
abbrev m_M_worksOut : cd_MT := (⟨"CatDoorsModel", "worksOut", "(I)I"⟩, b_M_worksOut, 6, some .int)
theorem mf_M_worksOut : cd_MV m_M_worksOut 1 := ⟨⟨cd_mem 976 (by decide +kernel) rfl, cd_mem 61 (by decide +kernel) rfl, by decide +kernel, by decide⟩, cd_mem 975 (by decide +kernel) rfl, cd_mem 22 (by decide +kernel) rfl⟩
abbrev b_M_isSheet : ByteArray := prog_9_method_73_code
abbrev m_M_isSheet : cd_MT := (⟨"CatDoorsModel", "isSheet", "(I)Z"⟩, b_M_isSheet, 1, some .boolean)
theorem mf_M_isSheet : cd_MS m_M_isSheet 1 := ⟨⟨cd_mem 1139 (by decide +kernel) rfl, cd_mem 61 (by decide +kernel) rfl, by decide +kernel, by decide⟩, cd_mem 1138 (by decide +kernel) rfl⟩
abbrev b_M_isSlot : ByteArray := prog_9_method_74_code
abbrev m_M_isSlot : cd_MT := (⟨"CatDoorsModel", "isSlot", "(I)Z"⟩, b_M_isSlot, 1, some .boolean)
theorem mf_M_isSlot : cd_MS m_M_isSlot 1 := ⟨⟨cd_mem 1246 (by decide +kernel) rfl, cd_mem 61 (by decide +kernel) rfl, by decide +kernel, by decide⟩, cd_mem 1245 (by decide +kernel) rfl⟩
abbrev b_M_sheet : ByteArray := prog_9_method_75_code
abbrev m_M_sheet : cd_MT := (⟨"CatDoorsModel", "sheet", "(III)I"⟩, b_M_sheet, 5, some .int)
theorem mf_M_sheet : cd_MV m_M_sheet 3 := ⟨⟨cd_mem 1219 (by decide +kernel) rfl, cd_mem 61 (by decide +kernel) rfl, by decide +kernel, by decide⟩, cd_mem 1217 (by decide +kernel) rfl, cd_mem 1218 (by decide +kernel) rfl⟩
abbrev b_M_mark : ByteArray := prog_9_method_76_code
abbrev m_M_mark : cd_MT := (⟨"CatDoorsModel", "mark", "(III)I"⟩, b_M_mark, 4, some .int)
theorem mf_M_mark : cd_MV m_M_mark 3 := ⟨⟨cd_mem 1224 (by decide +kernel) rfl, cd_mem 61 (by decide +kernel) rfl, by decide +kernel, by decide⟩, cd_mem 1222 (by decide +kernel) rfl, cd_mem 1223 (by decide +kernel) rfl⟩
abbrev b_M_pour : ByteArray := prog_9_method_77_code
abbrev m_M_pour : cd_MT := (⟨"CatDoorsModel", "pour", "(I)I"⟩, b_M_pour, 6, some .int)
theorem mf_M_pour : cd_MV m_M_pour 1 := ⟨⟨cd_mem 1231 (by decide +kernel) rfl, cd_mem 61 (by decide +kernel) rfl, by decide +kernel, by decide⟩, cd_mem 1229 (by decide +kernel) rfl, cd_mem 1230 (by decide +kernel) rfl⟩
abbrev b_M_reads : ByteArray := prog_9_method_78_code
abbrev m_M_reads : cd_MT := (⟨"CatDoorsModel", "reads", "(I)I"⟩, b_M_reads, 4, some .int)
theorem mf_M_reads : cd_MV m_M_reads 1 := ⟨⟨cd_mem 1235 (by decide +kernel) rfl, cd_mem 61 (by decide +kernel) rfl, by decide +kernel, by decide⟩, cd_mem 1233 (by decide +kernel) rfl, cd_mem 1234 (by decide +kernel) rfl⟩
abbrev b_M_copy : ByteArray := prog_9_method_79_code
abbrev m_M_copy : cd_MT := (⟨"CatDoorsModel", "copy", "(IIIII)I"⟩, b_M_copy, 7, some .int)
theorem mf_M_copy : cd_MV m_M_copy 5 := ⟨⟨cd_mem 1239 (by decide +kernel) rfl, cd_mem 61 (by decide +kernel) rfl, by decide +kernel, by decide⟩, cd_mem 1237 (by decide +kernel) rfl, cd_mem 1238 (by decide +kernel) rfl⟩
abbrev b_M_lay : ByteArray := prog_9_method_80_code
abbrev m_M_lay : cd_MT := (⟨"CatDoorsModel", "lay", "(III)I"⟩, b_M_lay, 6, some .int)
theorem mf_M_lay : cd_MV m_M_lay 3 := ⟨⟨cd_mem 1243 (by decide +kernel) rfl, cd_mem 61 (by decide +kernel) rfl, by decide +kernel, by decide⟩, cd_mem 1241 (by decide +kernel) rfl, cd_mem 1242 (by decide +kernel) rfl⟩
abbrev b_M_ask : ByteArray := prog_9_method_81_code
abbrev m_M_ask : cd_MT := (⟨"CatDoorsModel", "ask", "(II)I"⟩, b_M_ask, 3, some .int)
theorem mf_M_ask : cd_MV m_M_ask 2 := ⟨⟨cd_mem 1250 (by decide +kernel) rfl, cd_mem 61 (by decide +kernel) rfl, by decide +kernel, by decide⟩, cd_mem 1248 (by decide +kernel) rfl, cd_mem 1249 (by decide +kernel) rfl⟩
abbrev b_M_item : ByteArray := prog_9_method_82_code
abbrev m_M_item : cd_MT := (⟨"CatDoorsModel", "item", "(II)I"⟩, b_M_item, 4, some .int)
theorem mf_M_item : cd_MV m_M_item 2 := ⟨⟨cd_mem 1254 (by decide +kernel) rfl, cd_mem 61 (by decide +kernel) rfl, by decide +kernel, by decide⟩, cd_mem 1252 (by decide +kernel) rfl, cd_mem 1253 (by decide +kernel) rfl⟩
abbrev b_M_rest : ByteArray := prog_9_method_83_code
abbrev m_M_rest : cd_MT := (⟨"CatDoorsModel", "rest", "(II)I"⟩, b_M_rest, 3, some .int)
theorem mf_M_rest : cd_MV m_M_rest 2 := ⟨⟨cd_mem 1258 (by decide +kernel) rfl, cd_mem 61 (by decide +kernel) rfl, by decide +kernel, by decide⟩, cd_mem 1256 (by decide +kernel) rfl, cd_mem 1257 (by decide +kernel) rfl⟩
abbrev b_M_tell : ByteArray := prog_9_method_84_code
abbrev m_M_tell : cd_MT := (⟨"CatDoorsModel", "tell", "(I)I"⟩, b_M_tell, 2, some .int)
theorem mf_M_tell : cd_MV m_M_tell 1 := ⟨⟨cd_mem 1263 (by decide +kernel) rfl, cd_mem 61 (by decide +kernel) rfl, by decide +kernel, by decide⟩, cd_mem 1261 (by decide +kernel) rfl, cd_mem 1262 (by decide +kernel) rfl⟩
abbrev b_M_check : ByteArray := prog_9_method_85_code
abbrev m_M_check : cd_MT := (⟨"CatDoorsModel", "check", "(I)I"⟩, b_M_check, 6, some .int)
theorem mf_M_check : cd_MV m_M_check 1 := ⟨⟨cd_mem 1267 (by decide +kernel) rfl, cd_mem 61 (by decide +kernel) rfl, by decide +kernel, by decide⟩, cd_mem 1265 (by decide +kernel) rfl, cd_mem 1266 (by decide +kernel) rfl⟩
abbrev b_M_keep : ByteArray := prog_9_method_86_code
abbrev m_M_keep : cd_MT := (⟨"CatDoorsModel", "keep", "()I"⟩, b_M_keep, 1, some .int)
theorem mf_M_keep : cd_MV m_M_keep 0 := ⟨⟨cd_mem 1274 (by decide +kernel) rfl, cd_mem 61 (by decide +kernel) rfl, by decide +kernel, by decide⟩, cd_mem 1272 (by decide +kernel) rfl, cd_mem 1273 (by decide +kernel) rfl⟩
abbrev b_M_back : ByteArray := prog_9_method_87_code
abbrev m_M_back : cd_MT := (⟨"CatDoorsModel", "back", "()I"⟩, b_M_back, 1, some .int)
theorem mf_M_back : cd_MV m_M_back 0 := ⟨⟨cd_mem 1278 (by decide +kernel) rfl, cd_mem 61 (by decide +kernel) rfl, by decide +kernel, by decide⟩, cd_mem 1276 (by decide +kernel) rfl, cd_mem 1277 (by decide +kernel) rfl⟩
abbrev b_M_count : ByteArray := prog_9_method_88_code
abbrev m_M_count : cd_MT := (⟨"CatDoorsModel", "count", "(I)I"⟩, b_M_count, 2, some .int)
theorem mf_M_count : cd_MV m_M_count 1 := ⟨⟨cd_mem 1282 (by decide +kernel) rfl, cd_mem 61 (by decide +kernel) rfl, by decide +kernel, by decide⟩, cd_mem 1280 (by decide +kernel) rfl, cd_mem 1281 (by decide +kernel) rfl⟩
theorem lk_M_1 : Cond.methodLink "CatDoorsModel" 1 ⟨"java/lang/Object", "<init>", "()V"⟩ ∈ cd_ws := cd_mem 830 (by decide +kernel) rfl
theorem lk_M_75 : Cond.methodLink "CatDoorsModel" 75 ⟨"CatDoorsModel", "in", "(III)Z"⟩ ∈ cd_ws := cd_mem 937 (by decide +kernel) rfl
theorem lk_M_79 : Cond.methodLink "CatDoorsModel" 79 ⟨"CatDoorsModel", "put", "(III)V"⟩ ∈ cd_ws := cd_mem 949 (by decide +kernel) rfl
theorem lk_M_83 : Cond.methodLink "CatDoorsModel" 83 ⟨"CatDoorsModel", "isOf", "(II)Z"⟩ ∈ cd_ws := cd_mem 940 (by decide +kernel) rfl
theorem lk_M_89 : Cond.methodLink "CatDoorsModel" 89 ⟨"CatDoorsModel", "comes", "(IIII)I"⟩ ∈ cd_ws := cd_mem 945 (by decide +kernel) rfl
theorem lk_M_93 : Cond.methodLink "CatDoorsModel" 93 ⟨"CatDoorsModel", "counts", "(I)I"⟩ ∈ cd_ws := cd_mem 969 (by decide +kernel) rfl
theorem lk_M_97 : Cond.methodLink "CatDoorsModel" 97 ⟨"CatDoorsModel", "of", "(II)I"⟩ ∈ cd_ws := cd_mem 961 (by decide +kernel) rfl
theorem lk_M_101 : Cond.methodLink "CatDoorsModel" 101 ⟨"CatDoorsModel", "worksOut", "(I)I"⟩ ∈ cd_ws := cd_mem 973 (by decide +kernel) rfl
theorem lk_M_104 : Cond.methodLink "CatDoorsModel" 104 ⟨"CatDoorsModel", "within", "(III)I"⟩ ∈ cd_ws := cd_mem 980 (by decide +kernel) rfl
theorem lk_M_108 : Cond.methodLink "CatDoorsModel" 108 ⟨"CatDoorsModel", "isAsking", "(I)Z"⟩ ∈ cd_ws := cd_mem 957 (by decide +kernel) rfl
theorem lk_M_112 : Cond.methodLink "CatDoorsModel" 112 ⟨"CatDoorsModel", "pressesOf", "(I)I"⟩ ∈ cd_ws := cd_mem 965 (by decide +kernel) rfl
theorem lk_M_115 : Cond.methodLink "CatDoorsModel" 115 ⟨"CatDoorsModel", "learnsOf", "(I)I"⟩ ∈ cd_ws := cd_mem 983 (by decide +kernel) rfl
theorem lk_M_118 : Cond.methodLink "CatDoorsModel" 118 ⟨"CatDoorsModel", "forgetsOf", "(I)I"⟩ ∈ cd_ws := cd_mem 987 (by decide +kernel) rfl
theorem lk_M_121 : Cond.methodLink "CatDoorsModel" 121 ⟨"CatDoorsModel", "scratchesOf", "(I)I"⟩ ∈ cd_ws := cd_mem 991 (by decide +kernel) rfl
theorem lk_M_124 : Cond.methodLink "CatDoorsModel" 124 ⟨"CatDoorsModel", "meantBy", "(I)I"⟩ ∈ cd_ws := cd_mem 995 (by decide +kernel) rfl
theorem lk_M_127 : Cond.methodLink "CatDoorsModel" 127 ⟨"CatDoorsModel", "worthOf", "(I)I"⟩ ∈ cd_ws := cd_mem 999 (by decide +kernel) rfl
theorem lk_M_130 : Cond.methodLink "CatDoorsModel" 130 ⟨"CatDoorsModel", "isUnder", "(II)Z"⟩ ∈ cd_ws := cd_mem 1007 (by decide +kernel) rfl
theorem lk_M_134 : Cond.methodLink "CatDoorsModel" 134 ⟨"CatDoorsModel", "becomes", "(II)I"⟩ ∈ cd_ws := cd_mem 1015 (by decide +kernel) rfl
theorem lk_M_138 : Cond.methodLink "CatDoorsModel" 138 ⟨"CatDoorsModel", "draw", "()I"⟩ ∈ cd_ws := cd_mem 1043 (by decide +kernel) rfl
theorem lk_M_142 : Cond.methodLink "CatDoorsModel" 142 ⟨"CatDoorsModel", "goes", "()I"⟩ ∈ cd_ws := cd_mem 1048 (by decide +kernel) rfl
theorem lk_M_145 : Cond.methodLink "CatDoorsModel" 145 ⟨"CatDoorsModel", "learns", "(I)V"⟩ ∈ cd_ws := cd_mem 1035 (by decide +kernel) rfl
theorem lk_M_149 : Cond.methodLink "CatDoorsModel" 149 ⟨"CatDoorsModel", "goesAsMeant", "(I)I"⟩ ∈ cd_ws := cd_mem 1039 (by decide +kernel) rfl
theorem lk_M_152 : Cond.methodLink "CatDoorsModel" 152 ⟨"CatDoorsModel", "rises", "(I)I"⟩ ∈ cd_ws := cd_mem 1031 (by decide +kernel) rfl
theorem lk_M_155 : Cond.methodLink "CatDoorsModel" 155 ⟨"CatDoorsModel", "asks", "(I)V"⟩ ∈ cd_ws := cd_mem 1072 (by decide +kernel) rfl
theorem lk_M_158 : Cond.methodLink "CatDoorsModel" 158 ⟨"CatDoorsModel", "hour", "()V"⟩ ∈ cd_ws := cd_mem 1068 (by decide +kernel) rfl
theorem lk_M_161 : Cond.methodLink "CatDoorsModel" 161 ⟨"CatDoorsModel", "goesOn", "(I)V"⟩ ∈ cd_ws := cd_mem 1064 (by decide +kernel) rfl
theorem lk_M_164 : Cond.methodLink "CatDoorsModel" 164 ⟨"CatDoorsModel", "habits", "()I"⟩ ∈ cd_ws := cd_mem 1080 (by decide +kernel) rfl
theorem lk_M_167 : Cond.methodLink "CatDoorsModel" 167 ⟨"CatDoorsModel", "nextOnes", "()I"⟩ ∈ cd_ws := cd_mem 1084 (by decide +kernel) rfl
theorem lk_M_170 : Cond.methodLink "CatDoorsModel" 170 ⟨"CatDoorsModel", "thinks", "()V"⟩ ∈ cd_ws := cd_mem 1092 (by decide +kernel) rfl
theorem lk_M_173 : Cond.methodLink "CatDoorsModel" 173 ⟨"CatDoorsModel", "putsBack", "()V"⟩ ∈ cd_ws := cd_mem 1096 (by decide +kernel) rfl
theorem lk_M_177 : Cond.methodLink "CatDoorsModel" 177 ⟨"CatDoorsModel", "habitsBehind", "(I)I"⟩ ∈ cd_ws := cd_mem 1109 (by decide +kernel) rfl
theorem lk_M_180 : Cond.methodLink "CatDoorsModel" 180 ⟨"CatDoorsModel", "risingsBehind", "(I)I"⟩ ∈ cd_ws := cd_mem 1121 (by decide +kernel) rfl
theorem lk_M_183 : Cond.methodLink "CatDoorsModel" 183 ⟨"CatDoorsModel", "isSheet", "(I)Z"⟩ ∈ cd_ws := cd_mem 1137 (by decide +kernel) rfl
theorem lk_M_187 : Cond.methodLink "CatDoorsModel" 187 ⟨"CatDoorsModel", "offBy", "(II)J"⟩ ∈ cd_ws := cd_mem 1141 (by decide +kernel) rfl
theorem lk_M_207 : Cond.methodLink "CatDoorsModel" 207 ⟨"CatDoorsModel", "isLetter", "(I)Z"⟩ ∈ cd_ws := cd_mem 1169 (by decide +kernel) rfl
theorem lk_M_213 : Cond.methodLink "CatDoorsModel" 213 ⟨"CatDoorsModel", "isFigure", "(I)Z"⟩ ∈ cd_ws := cd_mem 1173 (by decide +kernel) rfl
theorem lk_M_219 : Cond.methodLink "CatDoorsModel" 219 ⟨"CatDoorsModel", "go", "()V"⟩ ∈ cd_ws := cd_mem 1165 (by decide +kernel) rfl
theorem lk_M_225 : Cond.methodLink "CatDoorsModel" 225 ⟨"CatDoorsModel", "rank", "(I)I"⟩ ∈ cd_ws := cd_mem 1197 (by decide +kernel) rfl
theorem lk_M_231 : Cond.methodLink "CatDoorsModel" 231 ⟨"CatDoorsModel", "nameOf", "(I)I"⟩ ∈ cd_ws := cd_mem 1189 (by decide +kernel) rfl
theorem lk_M_237 : Cond.methodLink "CatDoorsModel" 237 ⟨"CatDoorsModel", "settle", "(I)V"⟩ ∈ cd_ws := cd_mem 1193 (by decide +kernel) rfl
theorem lk_M_240 : Cond.methodLink "CatDoorsModel" 240 ⟨"CatDoorsModel", "takesPart", "()Z"⟩ ∈ cd_ws := cd_mem 1185 (by decide +kernel) rfl
theorem lk_M_244 : Cond.methodLink "CatDoorsModel" 244 ⟨"CatDoorsModel", "notsOpen", "()I"⟩ ∈ cd_ws := cd_mem 1200 (by decide +kernel) rfl
theorem lk_M_247 : Cond.methodLink "CatDoorsModel" 247 ⟨"CatDoorsModel", "signHere", "()I"⟩ ∈ cd_ws := cd_mem 1204 (by decide +kernel) rfl
theorem lk_M_250 : Cond.methodLink "CatDoorsModel" 250 ⟨"CatDoorsModel", "takesKey", "()Z"⟩ ∈ cd_ws := cd_mem 1177 (by decide +kernel) rfl
theorem lk_M_253 : Cond.methodLink "CatDoorsModel" 253 ⟨"CatDoorsModel", "takesE", "()Z"⟩ ∈ cd_ws := cd_mem 1181 (by decide +kernel) rfl
theorem lk_M_256 : Cond.methodLink "CatDoorsModel" 256 ⟨"CatDoorsModel", "two", "(III)I"⟩ ∈ cd_ws := cd_mem 977 (by decide +kernel) rfl
theorem lk_M_263 : Cond.methodLink "CatDoorsModel" 263 ⟨"CatDoorsModel", "isSlot", "(I)Z"⟩ ∈ cd_ws := cd_mem 1244 (by decide +kernel) rfl
theorem lk_M_274 : Cond.methodLink "CatDoorsModel" 274 ⟨"CatDoorsModel", "copyAll", "([I[I)V"⟩ ∈ cd_ws := cd_mem 1268 (by decide +kernel) rfl
theorem f_M_9 : cd_F "CatDoorsModel" 9 7 0 (.array .int) true := ⟨_, _, _, _, cd_ci7, by decide, cd_mem 831 (by decide +kernel) rfl, rfl, rfl, rfl⟩
theorem f_M_13 : cd_F "CatDoorsModel" 13 7 1 (.array .int) true := ⟨_, _, _, _, cd_ci7, by decide, cd_mem 832 (by decide +kernel) rfl, rfl, rfl, rfl⟩
theorem f_M_16 : cd_F "CatDoorsModel" 16 7 2 (.array .int) true := ⟨_, _, _, _, cd_ci7, by decide, cd_mem 833 (by decide +kernel) rfl, rfl, rfl, rfl⟩
theorem f_M_19 : cd_F "CatDoorsModel" 19 7 4 (.array .int) true := ⟨_, _, _, _, cd_ci7, by decide, cd_mem 835 (by decide +kernel) rfl, rfl, rfl, rfl⟩
theorem f_M_22 : cd_F "CatDoorsModel" 22 7 5 (.array .int) true := ⟨_, _, _, _, cd_ci7, by decide, cd_mem 836 (by decide +kernel) rfl, rfl, rfl, rfl⟩
theorem f_M_25 : cd_F "CatDoorsModel" 25 7 13 (.array .char) true := ⟨_, _, _, _, cd_ci7, by decide, cd_mem 844 (by decide +kernel) rfl, rfl, rfl, rfl⟩
theorem f_M_29 : cd_F "CatDoorsModel" 29 7 14 (.array .int) true := ⟨_, _, _, _, cd_ci7, by decide, cd_mem 845 (by decide +kernel) rfl, rfl, rfl, rfl⟩
theorem f_M_32 : cd_F "CatDoorsModel" 32 7 15 (.array .int) true := ⟨_, _, _, _, cd_ci7, by decide, cd_mem 846 (by decide +kernel) rfl, rfl, rfl, rfl⟩
theorem f_M_35 : cd_F "CatDoorsModel" 35 7 18 (.array .int) true := ⟨_, _, _, _, cd_ci7, by decide, cd_mem 849 (by decide +kernel) rfl, rfl, rfl, rfl⟩
theorem f_M_38 : cd_F "CatDoorsModel" 38 7 20 (.array .boolean) true := ⟨_, _, _, _, cd_ci7, by decide, cd_mem 851 (by decide +kernel) rfl, rfl, rfl, rfl⟩
theorem f_M_42 : cd_F "CatDoorsModel" 42 7 21 (.array .int) true := ⟨_, _, _, _, cd_ci7, by decide, cd_mem 852 (by decide +kernel) rfl, rfl, rfl, rfl⟩
theorem f_M_45 : cd_F "CatDoorsModel" 45 7 22 (.array .int) true := ⟨_, _, _, _, cd_ci7, by decide, cd_mem 853 (by decide +kernel) rfl, rfl, rfl, rfl⟩
theorem f_M_48 : cd_F "CatDoorsModel" 48 7 23 (.array .int) true := ⟨_, _, _, _, cd_ci7, by decide, cd_mem 854 (by decide +kernel) rfl, rfl, rfl, rfl⟩
theorem f_M_51 : cd_F "CatDoorsModel" 51 7 24 (.array .int) true := ⟨_, _, _, _, cd_ci7, by decide, cd_mem 855 (by decide +kernel) rfl, rfl, rfl, rfl⟩
theorem f_M_54 : cd_F "CatDoorsModel" 54 7 25 (.array .int) true := ⟨_, _, _, _, cd_ci7, by decide, cd_mem 856 (by decide +kernel) rfl, rfl, rfl, rfl⟩
theorem f_M_57 : cd_F "CatDoorsModel" 57 7 26 (.array .int) true := ⟨_, _, _, _, cd_ci7, by decide, cd_mem 857 (by decide +kernel) rfl, rfl, rfl, rfl⟩
theorem f_M_60 : cd_F "CatDoorsModel" 60 7 27 (.array .int) true := ⟨_, _, _, _, cd_ci7, by decide, cd_mem 858 (by decide +kernel) rfl, rfl, rfl, rfl⟩
theorem f_M_63 : cd_F "CatDoorsModel" 63 7 28 (.array .int) true := ⟨_, _, _, _, cd_ci7, by decide, cd_mem 859 (by decide +kernel) rfl, rfl, rfl, rfl⟩
theorem f_M_66 : cd_F "CatDoorsModel" 66 7 29 (.array .int) true := ⟨_, _, _, _, cd_ci7, by decide, cd_mem 860 (by decide +kernel) rfl, rfl, rfl, rfl⟩
theorem f_M_69 : cd_F "CatDoorsModel" 69 7 30 (.array .int) true := ⟨_, _, _, _, cd_ci7, by decide, cd_mem 861 (by decide +kernel) rfl, rfl, rfl, rfl⟩
theorem f_M_72 : cd_F "CatDoorsModel" 72 7 31 (.array .int) true := ⟨_, _, _, _, cd_ci7, by decide, cd_mem 862 (by decide +kernel) rfl, rfl, rfl, rfl⟩
theorem f_M_191 : cd_F "CatDoorsModel" 191 7 6 .int false := ⟨_, _, _, _, cd_ci7, by decide, cd_mem 837 (by decide +kernel) rfl, rfl, rfl, rfl⟩
theorem f_M_195 : cd_F "CatDoorsModel" 195 7 7 .int false := ⟨_, _, _, _, cd_ci7, by decide, cd_mem 838 (by decide +kernel) rfl, rfl, rfl, rfl⟩
theorem f_M_198 : cd_F "CatDoorsModel" 198 7 8 .int false := ⟨_, _, _, _, cd_ci7, by decide, cd_mem 839 (by decide +kernel) rfl, rfl, rfl, rfl⟩
theorem f_M_201 : cd_F "CatDoorsModel" 201 7 11 .int false := ⟨_, _, _, _, cd_ci7, by decide, cd_mem 842 (by decide +kernel) rfl, rfl, rfl, rfl⟩
theorem f_M_204 : cd_F "CatDoorsModel" 204 7 9 .int false := ⟨_, _, _, _, cd_ci7, by decide, cd_mem 840 (by decide +kernel) rfl, rfl, rfl, rfl⟩
theorem f_M_210 : cd_F "CatDoorsModel" 210 7 10 .int false := ⟨_, _, _, _, cd_ci7, by decide, cd_mem 841 (by decide +kernel) rfl, rfl, rfl, rfl⟩
theorem f_M_216 : cd_F "CatDoorsModel" 216 7 12 .int false := ⟨_, _, _, _, cd_ci7, by decide, cd_mem 843 (by decide +kernel) rfl, rfl, rfl, rfl⟩
theorem f_M_222 : cd_F "CatDoorsModel" 222 7 19 .int false := ⟨_, _, _, _, cd_ci7, by decide, cd_mem 850 (by decide +kernel) rfl, rfl, rfl, rfl⟩
theorem f_M_228 : cd_F "CatDoorsModel" 228 7 16 .int false := ⟨_, _, _, _, cd_ci7, by decide, cd_mem 847 (by decide +kernel) rfl, rfl, rfl, rfl⟩
theorem f_M_234 : cd_F "CatDoorsModel" 234 7 17 .int false := ⟨_, _, _, _, cd_ci7, by decide, cd_mem 848 (by decide +kernel) rfl, rfl, rfl, rfl⟩
theorem f_M_267 : cd_F "CatDoorsModel" 267 7 32 .int false := ⟨_, _, _, _, cd_ci7, by decide, cd_mem 863 (by decide +kernel) rfl, rfl, rfl, rfl⟩
theorem f_M_270 : cd_F "CatDoorsModel" 270 7 3 .boolean false := ⟨_, _, _, _, cd_ci7, by decide, cd_mem 834 (by decide +kernel) rfl, rfl, rfl, rfl⟩
theorem k_M_87 : Cond.constant "CatDoorsModel" 87 (-1000000001) ∈ cd_ws := cd_mem 943 (by decide +kernel) rfl
theorem k_M_88 : Cond.constant "CatDoorsModel" 88 (-1000000003) ∈ cd_ws := cd_mem 944 (by decide +kernel) rfl
theorem k_M_133 : Cond.constant "CatDoorsModel" 133 (-1000000012) ∈ cd_ws := cd_mem 1010 (by decide +kernel) rfl
theorem k_M_137 : Cond.constant "CatDoorsModel" 137 (1103515245) ∈ cd_ws := cd_mem 1047 (by decide +kernel) rfl
theorem k_M_176 : Cond.constant "CatDoorsModel" 176 (-1000000005) ∈ cd_ws := cd_mem 1104 (by decide +kernel) rfl
theorem k_M_186 : Cond.constant "CatDoorsModel" 186 (-1000000011) ∈ cd_ws := cd_mem 1140 (by decide +kernel) rfl
theorem k_M_259 : Cond.constant "CatDoorsModel" 259 (-1000000014) ∈ cd_ws := cd_mem 1220 (by decide +kernel) rfl
theorem k_M_260 : Cond.constant "CatDoorsModel" 260 (-1000000013) ∈ cd_ws := cd_mem 1225 (by decide +kernel) rfl
theorem k_M_261 : Cond.constant "CatDoorsModel" 261 (-99999) ∈ cd_ws := cd_mem 1226 (by decide +kernel) rfl
theorem k_M_262 : Cond.constant "CatDoorsModel" 262 (99999) ∈ cd_ws := cd_mem 1227 (by decide +kernel) rfl
theorem k_M_266 : Cond.constant "CatDoorsModel" 266 (-1000000002) ∈ cd_ws := cd_mem 1259 (by decide +kernel) rfl
end
