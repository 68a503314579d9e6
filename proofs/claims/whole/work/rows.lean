section
-- ===== PART A: goes FIRST, ahead of the names: the tables' words, and 'selects' of the private methods out of them =====
/-- a private method of a class that the tables say can be made, by its rows of tables_1 -/
def lw_okq (q : MethodName × Nat) : Prop := (q.1.cls ≠ "java/lang/invoke/MethodHandle" ∧ q.1.cls ≠ "java/lang/invoke/VarHandle") ∧ Cond.instantiable q.1.cls q.2 ∈ tables_1 ∧ Cond.privateMethod q.1 ∈ tables_1 ∧ Cond.instanceMethod q.1 ∈ tables_1
theorem lw_p0 : lw_okq (⟨"CatDoors", "isAsking", "(I)Z"⟩, 10) := ⟨⟨by decide +kernel, by decide +kernel⟩, List.mem_of_getElem? (i := 17) (by decide +kernel), List.mem_of_getElem? (i := 239) (by decide +kernel), List.mem_of_getElem? (i := 240) (by decide +kernel)⟩
theorem lw_p1 : lw_okq (⟨"CatDoors", "risingsWithFlap", "(II)I"⟩, 10) := ⟨⟨by decide +kernel, by decide +kernel⟩, List.mem_of_getElem? (i := 17) (by decide +kernel), List.mem_of_getElem? (i := 433) (by decide +kernel), List.mem_of_getElem? (i := 434) (by decide +kernel)⟩
theorem lw_p2 : lw_okq (⟨"CatDoors", "sumDifferences", "(LCatDoors$Sheet;)V"⟩, 10) := ⟨⟨by decide +kernel, by decide +kernel⟩, List.mem_of_getElem? (i := 17) (by decide +kernel), List.mem_of_getElem? (i := 446) (by decide +kernel), List.mem_of_getElem? (i := 447) (by decide +kernel)⟩
theorem lw_p3 : lw_okq (⟨"CatDoors", "addDifferences", "(I)V"⟩, 10) := ⟨⟨by decide +kernel, by decide +kernel⟩, List.mem_of_getElem? (i := 17) (by decide +kernel), List.mem_of_getElem? (i := 459) (by decide +kernel), List.mem_of_getElem? (i := 460) (by decide +kernel)⟩
theorem lw_p4 : lw_okq (⟨"CatDoors$Tape", "advances", "()V"⟩, 9) := ⟨⟨by decide +kernel, by decide +kernel⟩, List.mem_of_getElem? (i := 106) (by decide +kernel), List.mem_of_getElem? (i := 496) (by decide +kernel), List.mem_of_getElem? (i := 497) (by decide +kernel)⟩
theorem lw_p5 : lw_okq (⟨"CatDoors$Tape", "sortAt", "(I)I"⟩, 9) := ⟨⟨by decide +kernel, by decide +kernel⟩, List.mem_of_getElem? (i := 106) (by decide +kernel), List.mem_of_getElem? (i := 500) (by decide +kernel), List.mem_of_getElem? (i := 501) (by decide +kernel)⟩
theorem lw_p6 : lw_okq (⟨"CatDoors$Tape", "readsKey", "()Z"⟩, 9) := ⟨⟨by decide +kernel, by decide +kernel⟩, List.mem_of_getElem? (i := 106) (by decide +kernel), List.mem_of_getElem? (i := 504) (by decide +kernel), List.mem_of_getElem? (i := 505) (by decide +kernel)⟩
theorem lw_p7 : lw_okq (⟨"CatDoors$Tape", "isWord", "(Ljava/lang/String;)Z"⟩, 9) := ⟨⟨by decide +kernel, by decide +kernel⟩, List.mem_of_getElem? (i := 106) (by decide +kernel), List.mem_of_getElem? (i := 509) (by decide +kernel), List.mem_of_getElem? (i := 510) (by decide +kernel)⟩
theorem lw_p8 : lw_okq (⟨"CatDoors$Tape", "readsLevel", "(III)Z"⟩, 9) := ⟨⟨by decide +kernel, by decide +kernel⟩, List.mem_of_getElem? (i := 106) (by decide +kernel), List.mem_of_getElem? (i := 563) (by decide +kernel), List.mem_of_getElem? (i := 564) (by decide +kernel)⟩
theorem lw_p9 : lw_okq (⟨"CatDoors$Tape", "readsPiece", "(II)Z"⟩, 9) := ⟨⟨by decide +kernel, by decide +kernel⟩, List.mem_of_getElem? (i := 106) (by decide +kernel), List.mem_of_getElem? (i := 567) (by decide +kernel), List.mem_of_getElem? (i := 568) (by decide +kernel)⟩
theorem lw_p10 : lw_okq (⟨"CatDoors$Tape", "readsLeaf", "()Z"⟩, 9) := ⟨⟨by decide +kernel, by decide +kernel⟩, List.mem_of_getElem? (i := 106) (by decide +kernel), List.mem_of_getElem? (i := 571) (by decide +kernel), List.mem_of_getElem? (i := 572) (by decide +kernel)⟩
theorem lw_p11 : lw_okq (⟨"CatDoors$Tape", "number", "()I"⟩, 9) := ⟨⟨by decide +kernel, by decide +kernel⟩, List.mem_of_getElem? (i := 106) (by decide +kernel), List.mem_of_getElem? (i := 575) (by decide +kernel), List.mem_of_getElem? (i := 576) (by decide +kernel)⟩
theorem lw_p12 : lw_okq (⟨"CatDoors$Tape", "name", "()I"⟩, 9) := ⟨⟨by decide +kernel, by decide +kernel⟩, List.mem_of_getElem? (i := 106) (by decide +kernel), List.mem_of_getElem? (i := 579) (by decide +kernel), List.mem_of_getElem? (i := 580) (by decide +kernel)⟩
theorem lw_p13 : lw_okq (⟨"CatDoors$Tape", "puts", "(I)V"⟩, 9) := ⟨⟨by decide +kernel, by decide +kernel⟩, List.mem_of_getElem? (i := 106) (by decide +kernel), List.mem_of_getElem? (i := 641) (by decide +kernel), List.mem_of_getElem? (i := 642) (by decide +kernel)⟩
theorem lw_p14 : lw_okq (⟨"CatDoors$Tape", "isSign", "(C)Z"⟩, 9) := ⟨⟨by decide +kernel, by decide +kernel⟩, List.mem_of_getElem? (i := 106) (by decide +kernel), List.mem_of_getElem? (i := 645) (by decide +kernel), List.mem_of_getElem? (i := 646) (by decide +kernel)⟩
theorem lw_p15 : lw_okq (⟨"CatDoors$Tape", "isSignOf", "(I)Z"⟩, 9) := ⟨⟨by decide +kernel, by decide +kernel⟩, List.mem_of_getElem? (i := 106) (by decide +kernel), List.mem_of_getElem? (i := 649) (by decide +kernel), List.mem_of_getElem? (i := 650) (by decide +kernel)⟩
def lw_privs_1 : List (MethodName × Nat) := [(⟨"CatDoors", "isAsking", "(I)Z"⟩, 10), (⟨"CatDoors", "risingsWithFlap", "(II)I"⟩, 10), (⟨"CatDoors", "sumDifferences", "(LCatDoors$Sheet;)V"⟩, 10), (⟨"CatDoors", "addDifferences", "(I)V"⟩, 10), (⟨"CatDoors$Tape", "advances", "()V"⟩, 9), (⟨"CatDoors$Tape", "sortAt", "(I)I"⟩, 9), (⟨"CatDoors$Tape", "readsKey", "()Z"⟩, 9), (⟨"CatDoors$Tape", "isWord", "(Ljava/lang/String;)Z"⟩, 9), (⟨"CatDoors$Tape", "readsLevel", "(III)Z"⟩, 9), (⟨"CatDoors$Tape", "readsPiece", "(II)Z"⟩, 9), (⟨"CatDoors$Tape", "readsLeaf", "()Z"⟩, 9), (⟨"CatDoors$Tape", "number", "()I"⟩, 9), (⟨"CatDoors$Tape", "name", "()I"⟩, 9), (⟨"CatDoors$Tape", "puts", "(I)V"⟩, 9), (⟨"CatDoors$Tape", "isSign", "(C)Z"⟩, 9), (⟨"CatDoors$Tape", "isSignOf", "(I)Z"⟩, 9)]
theorem lw_r1 : ∀ q ∈ lw_privs_1, lw_okq q := List.forall_mem_cons.mpr ⟨lw_p0, List.forall_mem_cons.mpr ⟨lw_p1, List.forall_mem_cons.mpr ⟨lw_p2, List.forall_mem_cons.mpr ⟨lw_p3, List.forall_mem_cons.mpr ⟨lw_p4, List.forall_mem_cons.mpr ⟨lw_p5, List.forall_mem_cons.mpr ⟨lw_p6, List.forall_mem_cons.mpr ⟨lw_p7, List.forall_mem_cons.mpr ⟨lw_p8, List.forall_mem_cons.mpr ⟨lw_p9, List.forall_mem_cons.mpr ⟨lw_p10, List.forall_mem_cons.mpr ⟨lw_p11, List.forall_mem_cons.mpr ⟨lw_p12, List.forall_mem_cons.mpr ⟨lw_p13, List.forall_mem_cons.mpr ⟨lw_p14, List.forall_mem_cons.mpr ⟨lw_p15, fun _ h => absurd h List.not_mem_nil⟩⟩⟩⟩⟩⟩⟩⟩⟩⟩⟩⟩⟩⟩⟩⟩
theorem lw_p16 : lw_okq (⟨"CatDoorsModel", "comes", "(IIII)I"⟩, 33) := ⟨⟨by decide +kernel, by decide +kernel⟩, List.mem_of_getElem? (i := 772) (by decide +kernel), List.mem_of_getElem? (i := 892) (by decide +kernel), List.mem_of_getElem? (i := 893) (by decide +kernel)⟩
theorem lw_p17 : lw_okq (⟨"CatDoorsModel", "put", "(III)V"⟩, 33) := ⟨⟨by decide +kernel, by decide +kernel⟩, List.mem_of_getElem? (i := 772) (by decide +kernel), List.mem_of_getElem? (i := 896) (by decide +kernel), List.mem_of_getElem? (i := 897) (by decide +kernel)⟩
theorem lw_p18 : lw_okq (⟨"CatDoorsModel", "isAsking", "(I)Z"⟩, 33) := ⟨⟨by decide +kernel, by decide +kernel⟩, List.mem_of_getElem? (i := 772) (by decide +kernel), List.mem_of_getElem? (i := 904) (by decide +kernel), List.mem_of_getElem? (i := 905) (by decide +kernel)⟩
theorem lw_p19 : lw_okq (⟨"CatDoorsModel", "of", "(II)I"⟩, 33) := ⟨⟨by decide +kernel, by decide +kernel⟩, List.mem_of_getElem? (i := 772) (by decide +kernel), List.mem_of_getElem? (i := 908) (by decide +kernel), List.mem_of_getElem? (i := 909) (by decide +kernel)⟩
theorem lw_p20 : lw_okq (⟨"CatDoorsModel", "pressesOf", "(I)I"⟩, 33) := ⟨⟨by decide +kernel, by decide +kernel⟩, List.mem_of_getElem? (i := 772) (by decide +kernel), List.mem_of_getElem? (i := 912) (by decide +kernel), List.mem_of_getElem? (i := 913) (by decide +kernel)⟩
theorem lw_p21 : lw_okq (⟨"CatDoorsModel", "counts", "(I)I"⟩, 33) := ⟨⟨by decide +kernel, by decide +kernel⟩, List.mem_of_getElem? (i := 772) (by decide +kernel), List.mem_of_getElem? (i := 916) (by decide +kernel), List.mem_of_getElem? (i := 917) (by decide +kernel)⟩
theorem lw_p22 : lw_okq (⟨"CatDoorsModel", "worksOut", "(I)I"⟩, 33) := ⟨⟨by decide +kernel, by decide +kernel⟩, List.mem_of_getElem? (i := 772) (by decide +kernel), List.mem_of_getElem? (i := 920) (by decide +kernel), List.mem_of_getElem? (i := 921) (by decide +kernel)⟩
theorem lw_p23 : lw_okq (⟨"CatDoorsModel", "learnsOf", "(I)I"⟩, 33) := ⟨⟨by decide +kernel, by decide +kernel⟩, List.mem_of_getElem? (i := 772) (by decide +kernel), List.mem_of_getElem? (i := 930) (by decide +kernel), List.mem_of_getElem? (i := 931) (by decide +kernel)⟩
theorem lw_p24 : lw_okq (⟨"CatDoorsModel", "forgetsOf", "(I)I"⟩, 33) := ⟨⟨by decide +kernel, by decide +kernel⟩, List.mem_of_getElem? (i := 772) (by decide +kernel), List.mem_of_getElem? (i := 934) (by decide +kernel), List.mem_of_getElem? (i := 935) (by decide +kernel)⟩
theorem lw_p25 : lw_okq (⟨"CatDoorsModel", "scratchesOf", "(I)I"⟩, 33) := ⟨⟨by decide +kernel, by decide +kernel⟩, List.mem_of_getElem? (i := 772) (by decide +kernel), List.mem_of_getElem? (i := 938) (by decide +kernel), List.mem_of_getElem? (i := 939) (by decide +kernel)⟩
theorem lw_p26 : lw_okq (⟨"CatDoorsModel", "meantBy", "(I)I"⟩, 33) := ⟨⟨by decide +kernel, by decide +kernel⟩, List.mem_of_getElem? (i := 772) (by decide +kernel), List.mem_of_getElem? (i := 942) (by decide +kernel), List.mem_of_getElem? (i := 943) (by decide +kernel)⟩
theorem lw_p27 : lw_okq (⟨"CatDoorsModel", "worthOf", "(I)I"⟩, 33) := ⟨⟨by decide +kernel, by decide +kernel⟩, List.mem_of_getElem? (i := 772) (by decide +kernel), List.mem_of_getElem? (i := 946) (by decide +kernel), List.mem_of_getElem? (i := 947) (by decide +kernel)⟩
theorem lw_p28 : lw_okq (⟨"CatDoorsModel", "becomes", "(II)I"⟩, 33) := ⟨⟨by decide +kernel, by decide +kernel⟩, List.mem_of_getElem? (i := 772) (by decide +kernel), List.mem_of_getElem? (i := 962) (by decide +kernel), List.mem_of_getElem? (i := 963) (by decide +kernel)⟩
theorem lw_p29 : lw_okq (⟨"CatDoorsModel", "rises", "(I)I"⟩, 33) := ⟨⟨by decide +kernel, by decide +kernel⟩, List.mem_of_getElem? (i := 772) (by decide +kernel), List.mem_of_getElem? (i := 978) (by decide +kernel), List.mem_of_getElem? (i := 979) (by decide +kernel)⟩
theorem lw_p30 : lw_okq (⟨"CatDoorsModel", "learns", "(I)V"⟩, 33) := ⟨⟨by decide +kernel, by decide +kernel⟩, List.mem_of_getElem? (i := 772) (by decide +kernel), List.mem_of_getElem? (i := 982) (by decide +kernel), List.mem_of_getElem? (i := 983) (by decide +kernel)⟩
theorem lw_p31 : lw_okq (⟨"CatDoorsModel", "goesAsMeant", "(I)I"⟩, 33) := ⟨⟨by decide +kernel, by decide +kernel⟩, List.mem_of_getElem? (i := 772) (by decide +kernel), List.mem_of_getElem? (i := 986) (by decide +kernel), List.mem_of_getElem? (i := 987) (by decide +kernel)⟩
def lw_privs_2 : List (MethodName × Nat) := [(⟨"CatDoorsModel", "comes", "(IIII)I"⟩, 33), (⟨"CatDoorsModel", "put", "(III)V"⟩, 33), (⟨"CatDoorsModel", "isAsking", "(I)Z"⟩, 33), (⟨"CatDoorsModel", "of", "(II)I"⟩, 33), (⟨"CatDoorsModel", "pressesOf", "(I)I"⟩, 33), (⟨"CatDoorsModel", "counts", "(I)I"⟩, 33), (⟨"CatDoorsModel", "worksOut", "(I)I"⟩, 33), (⟨"CatDoorsModel", "learnsOf", "(I)I"⟩, 33), (⟨"CatDoorsModel", "forgetsOf", "(I)I"⟩, 33), (⟨"CatDoorsModel", "scratchesOf", "(I)I"⟩, 33), (⟨"CatDoorsModel", "meantBy", "(I)I"⟩, 33), (⟨"CatDoorsModel", "worthOf", "(I)I"⟩, 33), (⟨"CatDoorsModel", "becomes", "(II)I"⟩, 33), (⟨"CatDoorsModel", "rises", "(I)I"⟩, 33), (⟨"CatDoorsModel", "learns", "(I)V"⟩, 33), (⟨"CatDoorsModel", "goesAsMeant", "(I)I"⟩, 33)]
theorem lw_r2 : ∀ q ∈ lw_privs_2, lw_okq q := List.forall_mem_cons.mpr ⟨lw_p16, List.forall_mem_cons.mpr ⟨lw_p17, List.forall_mem_cons.mpr ⟨lw_p18, List.forall_mem_cons.mpr ⟨lw_p19, List.forall_mem_cons.mpr ⟨lw_p20, List.forall_mem_cons.mpr ⟨lw_p21, List.forall_mem_cons.mpr ⟨lw_p22, List.forall_mem_cons.mpr ⟨lw_p23, List.forall_mem_cons.mpr ⟨lw_p24, List.forall_mem_cons.mpr ⟨lw_p25, List.forall_mem_cons.mpr ⟨lw_p26, List.forall_mem_cons.mpr ⟨lw_p27, List.forall_mem_cons.mpr ⟨lw_p28, List.forall_mem_cons.mpr ⟨lw_p29, List.forall_mem_cons.mpr ⟨lw_p30, List.forall_mem_cons.mpr ⟨lw_p31, fun _ h => absurd h List.not_mem_nil⟩⟩⟩⟩⟩⟩⟩⟩⟩⟩⟩⟩⟩⟩⟩⟩
theorem lw_p32 : lw_okq (⟨"CatDoorsModel", "draw", "()I"⟩, 33) := ⟨⟨by decide +kernel, by decide +kernel⟩, List.mem_of_getElem? (i := 772) (by decide +kernel), List.mem_of_getElem? (i := 990) (by decide +kernel), List.mem_of_getElem? (i := 991) (by decide +kernel)⟩
theorem lw_p33 : lw_okq (⟨"CatDoorsModel", "goes", "()I"⟩, 33) := ⟨⟨by decide +kernel, by decide +kernel⟩, List.mem_of_getElem? (i := 772) (by decide +kernel), List.mem_of_getElem? (i := 995) (by decide +kernel), List.mem_of_getElem? (i := 996) (by decide +kernel)⟩
theorem lw_p34 : lw_okq (⟨"CatDoorsModel", "goesOn", "(I)V"⟩, 33) := ⟨⟨by decide +kernel, by decide +kernel⟩, List.mem_of_getElem? (i := 772) (by decide +kernel), List.mem_of_getElem? (i := 1011) (by decide +kernel), List.mem_of_getElem? (i := 1012) (by decide +kernel)⟩
theorem lw_p35 : lw_okq (⟨"CatDoorsModel", "hour", "()V"⟩, 33) := ⟨⟨by decide +kernel, by decide +kernel⟩, List.mem_of_getElem? (i := 772) (by decide +kernel), List.mem_of_getElem? (i := 1015) (by decide +kernel), List.mem_of_getElem? (i := 1016) (by decide +kernel)⟩
theorem lw_p36 : lw_okq (⟨"CatDoorsModel", "asks", "(I)V"⟩, 33) := ⟨⟨by decide +kernel, by decide +kernel⟩, List.mem_of_getElem? (i := 772) (by decide +kernel), List.mem_of_getElem? (i := 1019) (by decide +kernel), List.mem_of_getElem? (i := 1020) (by decide +kernel)⟩
theorem lw_p37 : lw_okq (⟨"CatDoorsModel", "habits", "()I"⟩, 33) := ⟨⟨by decide +kernel, by decide +kernel⟩, List.mem_of_getElem? (i := 772) (by decide +kernel), List.mem_of_getElem? (i := 1027) (by decide +kernel), List.mem_of_getElem? (i := 1028) (by decide +kernel)⟩
theorem lw_p38 : lw_okq (⟨"CatDoorsModel", "nextOnes", "()I"⟩, 33) := ⟨⟨by decide +kernel, by decide +kernel⟩, List.mem_of_getElem? (i := 772) (by decide +kernel), List.mem_of_getElem? (i := 1031) (by decide +kernel), List.mem_of_getElem? (i := 1032) (by decide +kernel)⟩
theorem lw_p39 : lw_okq (⟨"CatDoorsModel", "thinks", "()V"⟩, 33) := ⟨⟨by decide +kernel, by decide +kernel⟩, List.mem_of_getElem? (i := 772) (by decide +kernel), List.mem_of_getElem? (i := 1039) (by decide +kernel), List.mem_of_getElem? (i := 1040) (by decide +kernel)⟩
theorem lw_p40 : lw_okq (⟨"CatDoorsModel", "putsBack", "()V"⟩, 33) := ⟨⟨by decide +kernel, by decide +kernel⟩, List.mem_of_getElem? (i := 772) (by decide +kernel), List.mem_of_getElem? (i := 1043) (by decide +kernel), List.mem_of_getElem? (i := 1044) (by decide +kernel)⟩
theorem lw_p41 : lw_okq (⟨"CatDoorsModel", "habitsBehind", "(I)I"⟩, 33) := ⟨⟨by decide +kernel, by decide +kernel⟩, List.mem_of_getElem? (i := 772) (by decide +kernel), List.mem_of_getElem? (i := 1056) (by decide +kernel), List.mem_of_getElem? (i := 1057) (by decide +kernel)⟩
theorem lw_p42 : lw_okq (⟨"CatDoorsModel", "risingsBehind", "(I)I"⟩, 33) := ⟨⟨by decide +kernel, by decide +kernel⟩, List.mem_of_getElem? (i := 772) (by decide +kernel), List.mem_of_getElem? (i := 1068) (by decide +kernel), List.mem_of_getElem? (i := 1069) (by decide +kernel)⟩
theorem lw_p43 : lw_okq (⟨"CatDoorsModel", "offBy", "(II)J"⟩, 33) := ⟨⟨by decide +kernel, by decide +kernel⟩, List.mem_of_getElem? (i := 772) (by decide +kernel), List.mem_of_getElem? (i := 1088) (by decide +kernel), List.mem_of_getElem? (i := 1089) (by decide +kernel)⟩
theorem lw_p44 : lw_okq (⟨"CatDoorsModel", "go", "()V"⟩, 33) := ⟨⟨by decide +kernel, by decide +kernel⟩, List.mem_of_getElem? (i := 772) (by decide +kernel), List.mem_of_getElem? (i := 1112) (by decide +kernel), List.mem_of_getElem? (i := 1113) (by decide +kernel)⟩
theorem lw_p45 : lw_okq (⟨"CatDoorsModel", "isLetter", "(I)Z"⟩, 33) := ⟨⟨by decide +kernel, by decide +kernel⟩, List.mem_of_getElem? (i := 772) (by decide +kernel), List.mem_of_getElem? (i := 1116) (by decide +kernel), List.mem_of_getElem? (i := 1117) (by decide +kernel)⟩
theorem lw_p46 : lw_okq (⟨"CatDoorsModel", "isFigure", "(I)Z"⟩, 33) := ⟨⟨by decide +kernel, by decide +kernel⟩, List.mem_of_getElem? (i := 772) (by decide +kernel), List.mem_of_getElem? (i := 1120) (by decide +kernel), List.mem_of_getElem? (i := 1121) (by decide +kernel)⟩
theorem lw_p47 : lw_okq (⟨"CatDoorsModel", "takesKey", "()Z"⟩, 33) := ⟨⟨by decide +kernel, by decide +kernel⟩, List.mem_of_getElem? (i := 772) (by decide +kernel), List.mem_of_getElem? (i := 1124) (by decide +kernel), List.mem_of_getElem? (i := 1125) (by decide +kernel)⟩
def lw_privs_3 : List (MethodName × Nat) := [(⟨"CatDoorsModel", "draw", "()I"⟩, 33), (⟨"CatDoorsModel", "goes", "()I"⟩, 33), (⟨"CatDoorsModel", "goesOn", "(I)V"⟩, 33), (⟨"CatDoorsModel", "hour", "()V"⟩, 33), (⟨"CatDoorsModel", "asks", "(I)V"⟩, 33), (⟨"CatDoorsModel", "habits", "()I"⟩, 33), (⟨"CatDoorsModel", "nextOnes", "()I"⟩, 33), (⟨"CatDoorsModel", "thinks", "()V"⟩, 33), (⟨"CatDoorsModel", "putsBack", "()V"⟩, 33), (⟨"CatDoorsModel", "habitsBehind", "(I)I"⟩, 33), (⟨"CatDoorsModel", "risingsBehind", "(I)I"⟩, 33), (⟨"CatDoorsModel", "offBy", "(II)J"⟩, 33), (⟨"CatDoorsModel", "go", "()V"⟩, 33), (⟨"CatDoorsModel", "isLetter", "(I)Z"⟩, 33), (⟨"CatDoorsModel", "isFigure", "(I)Z"⟩, 33), (⟨"CatDoorsModel", "takesKey", "()Z"⟩, 33)]
theorem lw_r3 : ∀ q ∈ lw_privs_3, lw_okq q := List.forall_mem_cons.mpr ⟨lw_p32, List.forall_mem_cons.mpr ⟨lw_p33, List.forall_mem_cons.mpr ⟨lw_p34, List.forall_mem_cons.mpr ⟨lw_p35, List.forall_mem_cons.mpr ⟨lw_p36, List.forall_mem_cons.mpr ⟨lw_p37, List.forall_mem_cons.mpr ⟨lw_p38, List.forall_mem_cons.mpr ⟨lw_p39, List.forall_mem_cons.mpr ⟨lw_p40, List.forall_mem_cons.mpr ⟨lw_p41, List.forall_mem_cons.mpr ⟨lw_p42, List.forall_mem_cons.mpr ⟨lw_p43, List.forall_mem_cons.mpr ⟨lw_p44, List.forall_mem_cons.mpr ⟨lw_p45, List.forall_mem_cons.mpr ⟨lw_p46, List.forall_mem_cons.mpr ⟨lw_p47, fun _ h => absurd h List.not_mem_nil⟩⟩⟩⟩⟩⟩⟩⟩⟩⟩⟩⟩⟩⟩⟩⟩
theorem lw_p48 : lw_okq (⟨"CatDoorsModel", "takesE", "()Z"⟩, 33) := ⟨⟨by decide +kernel, by decide +kernel⟩, List.mem_of_getElem? (i := 772) (by decide +kernel), List.mem_of_getElem? (i := 1128) (by decide +kernel), List.mem_of_getElem? (i := 1129) (by decide +kernel)⟩
theorem lw_p49 : lw_okq (⟨"CatDoorsModel", "takesPart", "()Z"⟩, 33) := ⟨⟨by decide +kernel, by decide +kernel⟩, List.mem_of_getElem? (i := 772) (by decide +kernel), List.mem_of_getElem? (i := 1132) (by decide +kernel), List.mem_of_getElem? (i := 1133) (by decide +kernel)⟩
theorem lw_p50 : lw_okq (⟨"CatDoorsModel", "nameOf", "(I)I"⟩, 33) := ⟨⟨by decide +kernel, by decide +kernel⟩, List.mem_of_getElem? (i := 772) (by decide +kernel), List.mem_of_getElem? (i := 1136) (by decide +kernel), List.mem_of_getElem? (i := 1137) (by decide +kernel)⟩
theorem lw_p51 : lw_okq (⟨"CatDoorsModel", "settle", "(I)V"⟩, 33) := ⟨⟨by decide +kernel, by decide +kernel⟩, List.mem_of_getElem? (i := 772) (by decide +kernel), List.mem_of_getElem? (i := 1140) (by decide +kernel), List.mem_of_getElem? (i := 1141) (by decide +kernel)⟩
theorem lw_p52 : lw_okq (⟨"CatDoorsModel", "notsOpen", "()I"⟩, 33) := ⟨⟨by decide +kernel, by decide +kernel⟩, List.mem_of_getElem? (i := 772) (by decide +kernel), List.mem_of_getElem? (i := 1147) (by decide +kernel), List.mem_of_getElem? (i := 1148) (by decide +kernel)⟩
theorem lw_p53 : lw_okq (⟨"CatDoorsModel", "signHere", "()I"⟩, 33) := ⟨⟨by decide +kernel, by decide +kernel⟩, List.mem_of_getElem? (i := 772) (by decide +kernel), List.mem_of_getElem? (i := 1151) (by decide +kernel), List.mem_of_getElem? (i := 1152) (by decide +kernel)⟩
def lw_privs_4 : List (MethodName × Nat) := [(⟨"CatDoorsModel", "takesE", "()Z"⟩, 33), (⟨"CatDoorsModel", "takesPart", "()Z"⟩, 33), (⟨"CatDoorsModel", "nameOf", "(I)I"⟩, 33), (⟨"CatDoorsModel", "settle", "(I)V"⟩, 33), (⟨"CatDoorsModel", "notsOpen", "()I"⟩, 33), (⟨"CatDoorsModel", "signHere", "()I"⟩, 33)]
theorem lw_r4 : ∀ q ∈ lw_privs_4, lw_okq q := List.forall_mem_cons.mpr ⟨lw_p48, List.forall_mem_cons.mpr ⟨lw_p49, List.forall_mem_cons.mpr ⟨lw_p50, List.forall_mem_cons.mpr ⟨lw_p51, List.forall_mem_cons.mpr ⟨lw_p52, List.forall_mem_cons.mpr ⟨lw_p53, fun _ h => absurd h List.not_mem_nil⟩⟩⟩⟩⟩⟩
def lw_privs : List (MethodName × Nat) := lw_privs_1 ++ (lw_privs_2 ++ (lw_privs_3 ++ (lw_privs_4)))
def lw_tbl : List Cond := k2_sels lw_privs ++ tables_1
theorem lw_privs_ok : ∀ q ∈ lw_privs, lw_okq q := by
  show ∀ q ∈ lw_privs_1 ++ (lw_privs_2 ++ (lw_privs_3 ++ (lw_privs_4))), lw_okq q
  exact List.forall_mem_append.mpr ⟨lw_r1, List.forall_mem_append.mpr ⟨lw_r2, List.forall_mem_append.mpr ⟨lw_r3, lw_r4⟩⟩⟩
end
section
/-! The program logic of this claim: the memory as ints by cell and place, shapes and references by cell; the machine's judgement W over it. -/
abbrev cd_XT : Type := Program × Launch × Env × Room × State × MethodId × Array Value × List Frame × Method × Code × (State → Prop)
/-- base address, heap below it, class numbers and slots, array classes, static arrays, String constants and their byte arrays -/
abbrev cd_WT : Type := Nat × Heap × va_G × (Nat → ClassId) × (Nat → Nat) × (Nat → Nat) × (Nat → Nat)
/-- number of cells from the base on, shapes, references -/
abbrev cd_Sp : Type := Nat × (Nat → Nat × Nat) × (Nat → Nat → Option Nat)
abbrev cd_Mem : Type := Nat → Nat → Int32
abbrev cd_Pt : Type := Option Value → cd_Sp → cd_Mem → Prop
/-- the words that a call hands on -/
def cd_ws : List Cond := lw_tbl.filter goodWord
/-- classes -/
def cd_R0 : String := "CatDoors$Asking"
def cd_R1 : String := "CatDoors$House"
def cd_R2 : String := "CatDoors$Sheet"
def cd_R3 : String := "CatDoors$Slot"
def cd_R4 : String := "CatDoors$Tape"
def cd_R5 : String := "CatDoors$Text"
def cd_R6 : String := "CatDoors"
def cd_R7 : String := "CatDoorsModel"
def cd_T0 : u_T := fun k => match k with
  | 0 => ("CatDoors$Asking", "kind", "I", false)
  | 1 => ("CatDoors$Asking", "hour", "I", false)
  | 2 => ("CatDoors$Asking", "habit", "I", false)
  | 3 => ("CatDoors$Asking", "means", "I", false)
  | _ => ("CatDoors$Asking", "worked", "I", false)
def cd_t0 : Nat → FieldType := fun k => match k with
  | 0 => .int
  | 1 => .int
  | 2 => .int
  | 3 => .int
  | _ => .int
theorem cd_nm0 : ∀ a, a < 5 → ∀ b, b < 5 → a ≠ b → (cd_T0 a).2.1 ≠ (cd_T0 b).2.1 := by decide +kernel
theorem cd_ty0 : ∀ k, k < 5 → parseFieldDescriptor (cd_T0 k).2.2.1 = some (cd_t0 k) := by decide +kernel
theorem cd_in0 : ∀ q ∈ u_ws cd_R0 cd_T0 5, q ∈ cd_ws := by decide +kernel
def cd_T1 : u_T := fun k => match k with
  | 0 => ("CatDoors$House", "rules", "[I", true)
  | 1 => ("CatDoors$House", "tallies", "[I", true)
  | 2 => ("CatDoors$House", "askings", "[LCatDoors$Asking;", true)
  | 3 => ("CatDoors$House", "many", "I", false)
  | 4 => ("CatDoors$House", "hour", "I", false)
  | 5 => ("CatDoors$House", "z", "I", false)
  | 6 => ("CatDoors$House", "texts", "[LCatDoors$Text;", true)
  | 7 => ("CatDoors$House", "textCount", "I", false)
  | _ => ("CatDoors$House", "counting", "[I", true)
def cd_t1 : Nat → FieldType := fun k => match k with
  | 0 => .array .int
  | 1 => .array .int
  | 2 => .array (.object "CatDoors$Asking")
  | 3 => .int
  | 4 => .int
  | 5 => .int
  | 6 => .array (.object "CatDoors$Text")
  | 7 => .int
  | _ => .array .int
theorem cd_nm1 : ∀ a, a < 9 → ∀ b, b < 9 → a ≠ b → (cd_T1 a).2.1 ≠ (cd_T1 b).2.1 := by decide +kernel
theorem cd_ty1 : ∀ k, k < 9 → parseFieldDescriptor (cd_T1 k).2.2.1 = some (cd_t1 k) := by decide +kernel
theorem cd_in1 : ∀ q ∈ u_ws cd_R1 cd_T1 9, q ∈ cd_ws := by decide +kernel
def cd_T2 : u_T := fun k => match k with
  | 0 => ("CatDoors$Sheet", "sort", "I", false)
  | 1 => ("CatDoors$Sheet", "size", "I", false)
  | _ => ("CatDoors$Sheet", "places", "[I", true)
def cd_t2 : Nat → FieldType := fun k => match k with
  | 0 => .int
  | 1 => .int
  | _ => .array .int
theorem cd_nm2 : ∀ a, a < 3 → ∀ b, b < 3 → a ≠ b → (cd_T2 a).2.1 ≠ (cd_T2 b).2.1 := by decide +kernel
theorem cd_ty2 : ∀ k, k < 3 → parseFieldDescriptor (cd_T2 k).2.2.1 = some (cd_t2 k) := by decide +kernel
theorem cd_in2 : ∀ q ∈ u_ws cd_R2 cd_T2 3, q ∈ cd_ws := by decide +kernel
def cd_T3 : u_T := fun k => match k with
  | 0 => ("CatDoors$Slot", "thing", "I", false)
  | 1 => ("CatDoors$Slot", "number", "I", false)
  | 2 => ("CatDoors$Slot", "asking", "LCatDoors$Asking;", true)
  | _ => ("CatDoors$Slot", "sheet", "LCatDoors$Sheet;", true)
def cd_t3 : Nat → FieldType := fun k => match k with
  | 0 => .int
  | 1 => .int
  | 2 => .object "CatDoors$Asking"
  | _ => .object "CatDoors$Sheet"
theorem cd_nm3 : ∀ a, a < 4 → ∀ b, b < 4 → a ≠ b → (cd_T3 a).2.1 ≠ (cd_T3 b).2.1 := by decide +kernel
theorem cd_ty3 : ∀ k, k < 4 → parseFieldDescriptor (cd_T3 k).2.2.1 = some (cd_t3 k) := by decide +kernel
theorem cd_in3 : ∀ q ∈ u_ws cd_R3 cd_T3 4, q ∈ cd_ws := by decide +kernel
def cd_T4 : u_T := fun k => match k with
  | 0 => ("CatDoors$Tape", "length", "I", false)
  | 1 => ("CatDoors$Tape", "start", "I", false)
  | 2 => ("CatDoors$Tape", "end", "I", false)
  | 3 => ("CatDoors$Tape", "sort", "I", false)
  | 4 => ("CatDoors$Tape", "key", "I", false)
  | 5 => ("CatDoors$Tape", "leaves", "I", false)
  | 6 => ("CatDoors$Tape", "used", "I", false)
  | 7 => ("CatDoors$Tape", "bytes", "[B", true)
  | _ => ("CatDoors$Tape", "codes", "[I", true)
def cd_t4 : Nat → FieldType := fun k => match k with
  | 0 => .int
  | 1 => .int
  | 2 => .int
  | 3 => .int
  | 4 => .int
  | 5 => .int
  | 6 => .int
  | 7 => .array .byte
  | _ => .array .int
theorem cd_nm4 : ∀ a, a < 9 → ∀ b, b < 9 → a ≠ b → (cd_T4 a).2.1 ≠ (cd_T4 b).2.1 := by decide +kernel
theorem cd_ty4 : ∀ k, k < 9 → parseFieldDescriptor (cd_T4 k).2.2.1 = some (cd_t4 k) := by decide +kernel
theorem cd_in4 : ∀ q ∈ u_ws cd_R4 cd_T4 9, q ∈ cd_ws := by decide +kernel
def cd_T5 : u_T := fun k => match k with
  | 0 => ("CatDoors$Text", "key", "I", true)
  | 1 => ("CatDoors$Text", "leaves", "I", true)
  | 2 => ("CatDoors$Text", "codes", "[I", true)
  | _ => ("CatDoors$Text", "stack", "[I", true)
def cd_t5 : Nat → FieldType := fun k => match k with
  | 0 => .int
  | 1 => .int
  | 2 => .array .int
  | _ => .array .int
theorem cd_nm5 : ∀ a, a < 4 → ∀ b, b < 4 → a ≠ b → (cd_T5 a).2.1 ≠ (cd_T5 b).2.1 := by decide +kernel
theorem cd_ty5 : ∀ k, k < 4 → parseFieldDescriptor (cd_T5 k).2.2.1 = some (cd_t5 k) := by decide +kernel
theorem cd_in5 : ∀ q ∈ u_ws cd_R5 cd_T5 4, q ∈ cd_ws := by decide +kernel
def cd_T6 : u_T := fun k => match k with
  | 0 => ("CatDoors", "now", "LCatDoors$House;", true)
  | 1 => ("CatDoors", "thought", "LCatDoors$House;", true)
  | 2 => ("CatDoors", "image", "LCatDoors$House;", true)
  | 3 => ("CatDoors", "kept", "Z", false)
  | 4 => ("CatDoors", "tape", "LCatDoors$Tape;", true)
  | 5 => ("CatDoors", "sheets", "[LCatDoors$Sheet;", true)
  | 6 => ("CatDoors", "slots", "[LCatDoors$Slot;", true)
  | 7 => ("CatDoors", "waiting", "[I", true)
  | 8 => ("CatDoors", "waits", "I", false)
  | _ => ("CatDoors", "differences", "[I", true)
def cd_t6 : Nat → FieldType := fun k => match k with
  | 0 => .object "CatDoors$House"
  | 1 => .object "CatDoors$House"
  | 2 => .object "CatDoors$House"
  | 3 => .boolean
  | 4 => .object "CatDoors$Tape"
  | 5 => .array (.object "CatDoors$Sheet")
  | 6 => .array (.object "CatDoors$Slot")
  | 7 => .array .int
  | 8 => .int
  | _ => .array .int
theorem cd_nm6 : ∀ a, a < 10 → ∀ b, b < 10 → a ≠ b → (cd_T6 a).2.1 ≠ (cd_T6 b).2.1 := by decide +kernel
theorem cd_ty6 : ∀ k, k < 10 → parseFieldDescriptor (cd_T6 k).2.2.1 = some (cd_t6 k) := by decide +kernel
theorem cd_in6 : ∀ q ∈ u_ws cd_R6 cd_T6 10, q ∈ cd_ws := by decide +kernel
def cd_T7 : u_T := fun k => match k with
  | 0 => ("CatDoorsModel", "now", "[I", true)
  | 1 => ("CatDoorsModel", "image", "[I", true)
  | 2 => ("CatDoorsModel", "aside", "[I", true)
  | 3 => ("CatDoorsModel", "hasImage", "Z", false)
  | 4 => ("CatDoorsModel", "before", "[I", true)
  | 5 => ("CatDoorsModel", "tape", "[I", true)
  | 6 => ("CatDoorsModel", "taped", "I", false)
  | 7 => ("CatDoorsModel", "next", "I", false)
  | 8 => ("CatDoorsModel", "from", "I", false)
  | 9 => ("CatDoorsModel", "token", "I", false)
  | 10 => ("CatDoorsModel", "value", "I", false)
  | 11 => ("CatDoorsModel", "ended", "I", false)
  | 12 => ("CatDoorsModel", "key", "I", false)
  | 13 => ("CatDoorsModel", "keys", "[C", true)
  | 14 => ("CatDoorsModel", "keyAt", "[I", true)
  | 15 => ("CatDoorsModel", "code", "[I", true)
  | 16 => ("CatDoorsModel", "codes", "I", false)
  | 17 => ("CatDoorsModel", "atoms", "I", false)
  | 18 => ("CatDoorsModel", "waits", "[I", true)
  | 19 => ("CatDoorsModel", "held", "I", false)
  | 20 => ("CatDoorsModel", "tested", "[Z", true)
  | 21 => ("CatDoorsModel", "stack", "[I", true)
  | 22 => ("CatDoorsModel", "facts", "[I", true)
  | 23 => ("CatDoorsModel", "sorts", "[I", true)
  | 24 => ("CatDoorsModel", "sizes", "[I", true)
  | 25 => ("CatDoorsModel", "cells", "[I", true)
  | 26 => ("CatDoorsModel", "holds", "[I", true)
  | 27 => ("CatDoorsModel", "holdsA", "[I", true)
  | 28 => ("CatDoorsModel", "holdsB", "[I", true)
  | 29 => ("CatDoorsModel", "heldCells", "[I", true)
  | 30 => ("CatDoorsModel", "moved", "[I", true)
  | 31 => ("CatDoorsModel", "tells", "[I", true)
  | _ => ("CatDoorsModel", "waiting", "I", false)
def cd_t7 : Nat → FieldType := fun k => match k with
  | 0 => .array .int
  | 1 => .array .int
  | 2 => .array .int
  | 3 => .boolean
  | 4 => .array .int
  | 5 => .array .int
  | 6 => .int
  | 7 => .int
  | 8 => .int
  | 9 => .int
  | 10 => .int
  | 11 => .int
  | 12 => .int
  | 13 => .array .char
  | 14 => .array .int
  | 15 => .array .int
  | 16 => .int
  | 17 => .int
  | 18 => .array .int
  | 19 => .int
  | 20 => .array .boolean
  | 21 => .array .int
  | 22 => .array .int
  | 23 => .array .int
  | 24 => .array .int
  | 25 => .array .int
  | 26 => .array .int
  | 27 => .array .int
  | 28 => .array .int
  | 29 => .array .int
  | 30 => .array .int
  | 31 => .array .int
  | _ => .int
theorem cd_nm7 : ∀ a, a < 33 → ∀ b, b < 33 → a ≠ b → (cd_T7 a).2.1 ≠ (cd_T7 b).2.1 := by decide +kernel
theorem cd_ty7 : ∀ k, k < 33 → parseFieldDescriptor (cd_T7 k).2.2.1 = some (cd_t7 k) := by decide +kernel
theorem cd_in7 : ∀ q ∈ u_ws cd_R7 cd_T7 33, q ∈ cd_ws := by decide +kernel
abbrev cd_cls : List vw_C := [(cd_R0, cd_T0, 5), (cd_R1, cd_T1, 9), (cd_R2, cd_T2, 3), (cd_R3, cd_T3, 4), (cd_R4, cd_T4, 9), (cd_R5, cd_T5, 4), (cd_R6, cd_T6, 10), (cd_R7, cd_T7, 33)]
def cd_rt : List (List Bool) := [[false, false, false, false, false], [true, true, true, false, false, false, true, false, true], [false, false, true], [false, false, true, true], [false, false, false, false, false, false, false, true, true], [false, false, true, true], [true, true, true, false, true, true, true, true, false, true], [true, true, true, false, true, true, false, false, false, false, false, false, false, true, true, true, false, false, true, false, true, true, true, true, true, true, true, true, true, true, true, true, false]]
def cd_nf : List (String × Nat × String × String × String × String) := [("CatDoors$Asking", 27, "CatDoors", "KIND_ABOVE", "[I", "CatDoors"), ("CatDoors$Asking", 46, "CatDoors", "LEARNS", "[I", "CatDoors"), ("CatDoors$House", 115, "CatDoors", "SCRATCHES", "[I", "CatDoors"), ("CatDoors$Asking", 52, "CatDoors", "FORGETS", "[I", "CatDoors")]
def cd_nn : List (String × Nat × MethodName × String) := [("CatDoors$House", 47, ⟨"CatDoors$Asking", "<init>", "()V"⟩, "CatDoors"), ("CatDoors", 28, ⟨"CatDoors$Tape", "<init>", "()V"⟩, "CatDoors"), ("CatDoors", 56, ⟨"CatDoors$Sheet", "<init>", "()V"⟩, "CatDoors"), ("CatDoors", 57, ⟨"CatDoors$Slot", "<init>", "()V"⟩, "CatDoors"), ("CatDoors$Slot", 20, ⟨"CatDoors$Asking", "<init>", "()V"⟩, "CatDoors"), ("CatDoors$Slot", 27, ⟨"CatDoors$Sheet", "<init>", "()V"⟩, "CatDoors"), ("CatDoors$House", 82, ⟨"CatDoors", "heldWithin", "(II)I"⟩, "CatDoors")]
/-- which fields are references -/
def cd_isR (c k : Nat) : Bool := ((cd_rt.getD c []).getD k false)
def cd_ov (c k : Nat) (i : Int32) (r : Option Nat) : Value := match cd_isR c k with
  | true => va_rf r
  | false => .int i
/-- array kinds: 0 int, 1 byte, 2 char, 3 boolean, 4 Asking, 5 Text, 6 Sheet, 7 Slot -/
def cd_aty (t : Nat) : FieldType := match t with
  | 0 => .int
  | 1 => .byte
  | 2 => .char
  | 3 => .boolean
  | 4 => .object "CatDoors$Asking"
  | 5 => .object "CatDoors$Text"
  | 6 => .object "CatDoors$Sheet"
  | _ => .object "CatDoors$Slot"
def cd_av (t : Nat) (i : Int32) (r : Option Nat) : Value := match t with
  | 0 => .int i
  | 1 => .int i
  | 2 => .int i
  | 3 => .int i
  | _ => va_rf r
def cd_tys (w : cd_WT) : List (ClassId × FieldType) := [(w.2.2.2.1 0, cd_aty 0), (w.2.2.2.1 1, cd_aty 1), (w.2.2.2.1 2, cd_aty 2), (w.2.2.2.1 3, cd_aty 3), (w.2.2.2.1 4, cd_aty 4), (w.2.2.2.1 5, cd_aty 5), (w.2.2.2.1 6, cd_aty 6), (w.2.2.2.1 7, cd_aty 7)]
theorem cd_tys_at (w : cd_WT) {t : Nat} (h : t < 8) : (cd_tys w)[t]? = some (w.2.2.2.1 t, cd_aty t) := by
  match t, h with
  | 0, _ => rfl
  | 1, _ => rfl
  | 2, _ => rfl
  | 3, _ => rfl
  | 4, _ => rfl
  | 5, _ => rfl
  | 6, _ => rfl
  | 7, _ => rfl
/-- a cell is as its shape says: (1, c) an object of class c; (t + 2, n) an array of kind t with n places -/
def cd_cell (w : cd_WT) (S : cd_Sp) (I : cd_Mem) (H : Heap) (a : Nat) : Prop := match S.2.1 a with
  | (0, _) => True
  | (1, c) => ∃ q, cd_cls[c]? = some q ∧ t_OB a (w.2.2.1.1 c) q.2.2 (w.2.2.1.2 c) H (fun k => cd_ov c k (I a k) (S.2.2 a k))
  | (t + 2, n) => H[a]? = some (arrV (w.2.2.2.1 t) n (fun j => cd_av t (I a j) (S.2.2 a j)))
def cd_R (w : cd_WT) (S : cd_Sp) (I : cd_Mem) (H : Heap) : Prop := (∀ a, cd_cell w S I H a) ∧ H.size = w.1 + S.1 ∧ ∀ q : Nat, q < w.1 → H[q]? = w.2.1[q]?
theorem cd_obj {w : cd_WT} {S : cd_Sp} {I : cd_Mem} {H : Heap} (h : cd_R w S I H) {a c : Nat} (hs : S.2.1 a = (1, c)) : ∃ q, cd_cls[c]? = some q ∧ t_OB a (w.2.2.1.1 c) q.2.2 (w.2.2.1.2 c) H (fun k => cd_ov c k (I a k) (S.2.2 a k)) := by
  have h1 := h.1 a
  unfold cd_cell at h1
  rw [hs] at h1
  exact h1
theorem cd_arr {w : cd_WT} {S : cd_Sp} {I : cd_Mem} {H : Heap} (h : cd_R w S I H) {a t n : Nat} (hs : S.2.1 a = (t + 2, n)) : H[a]? = some (arrV (w.2.2.2.1 t) n (fun j => cd_av t (I a j) (S.2.2 a j))) := by
  have h1 := h.1 a
  unfold cd_cell at h1
  rw [hs] at h1
  exact h1
theorem cd_cell_kept {w : cd_WT} {S S' : cd_Sp} {I I' : cd_Mem} {H H' : Heap} {a : Nat} (h : cd_cell w S I H a) (h1 : S'.2.1 a = S.2.1 a) (h2 : S'.2.2 a = S.2.2 a) (h3 : I' a = I a) (h4 : (S.2.1 a).1 ≠ 0 → H'[a]? = H[a]?) : cd_cell w S' I' H' a := by
  unfold cd_cell at h ⊢
  rw [h1, h2, h3]
  generalize hz : S.2.1 a = z at h h4 ⊢
  obtain ⟨z1, z2⟩ := z
  match z1, h, h4 with
  | 0, _, _ => trivial
  | 1, h, h4 =>
    obtain ⟨q, q1, q2⟩ := h
    exact ⟨q, q1, q2.kept (h4 (by simp))⟩
  | t + 2, h, h4 => exact (h4 (by simp)).trans h
/-- rows of ints: the row of a cell is another -/
def cd_set (I : cd_Mem) (a : Nat) (r : Nat → Int32) : cd_Mem := fun b => if b = a then r else I b
theorem cd_set_eq (I : cd_Mem) (a : Nat) (r : Nat → Int32) : cd_set I a r a = r := by simp [cd_set]
theorem cd_set_ne (I : cd_Mem) {a b : Nat} (r : Nat → Int32) (h : b ≠ a) : cd_set I a r b = I b := by simp [cd_set, h]
theorem cd_set_set (I : cd_Mem) (a : Nat) (r r' : Nat → Int32) : cd_set (cd_set I a r) a r' = cd_set I a r' := by
  funext b
  by_cases h : b = a <;> simp [cd_set, h]
theorem cd_set_self (I : cd_Mem) (a : Nat) : cd_set I a (I a) = I := by
  funext b
  by_cases h : b = a
  · subst h; simp [cd_set]
  · simp [cd_set, h]
/-- the locals -/
def cd_L (ls : Array Slot) (lv : List (Option Value)) : Prop := ls.size = lv.length ∧ lv_wf ls ∧ ∀ (i : Nat) (v : Value), lv[i]? = some (some v) → ls[i]? = some (.val v)
/-- what the tables and the heap below the base say: the classes, static arrays, String constants -/
def cd_A (w : cd_WT) : Nat → Prop := fun q => w.1 ≤ q
def cd_sn (i : Nat) : String := match i with
  | 0 => "KIND_ABOVE"
  | 1 => "LEARNS"
  | 2 => "FORGETS"
  | 3 => "SCRATCHES"
  | _ => "MOST_OF_RULE"
def cd_sl (i : Nat) : Nat := match i with
  | 4 => 7
  | _ => 6
def cd_sv (i : Nat) : List Int32 := match i with
  | 0 => [-1, 0, 0, 1, 2, 0]
  | 1 => [8, 3, 8, 12, 16, 15]
  | 2 => [4, 6, 4, 6, 1, 9]
  | 3 => [2, 0, 2, 7, 3, 1]
  | _ => [99, 100, 100, 1, 1, 1, 1]
def cd_tx (i : Nat) : String := match i with
  | 0 => "press"
  | 1 => "fee"
  | 2 => "fine"
  | 3 => "hmw"
  | 4 => "\x72p"
  | _ => "hw"
def cd_ti (i : Nat) : Nat := match i with
  | 0 => 63
  | 1 => 69
  | 2 => 71
  | 3 => 99
  | 4 => 101
  | _ => 103
def cd_tl : List Nat := [5, 3, 4, 3, 2, 2]
def cd_tb : List (List Int32) := [[112, 114, 101, 115, 115], [102, 101, 101], [102, 105, 110, 101], [104, 109, 119], [114, 112], [104, 119]]
def cd_ST (w : cd_WT) (U : State) : Prop := (∀ i, i < 5 → va_Z "CatDoors" (cd_sn i) "[I" (.ref (w.2.2.2.2.1 i)) (cd_A w) U w.2.1 ∧ va_T .int (w.2.2.2.2.1 i) (cd_sl i) (fun j => .int ((cd_sv i).getD j 0)) (cd_A w) U w.2.1) ∧ vk_S 6 cd_tl cd_tb w.2.2.2.2.2.1 w.2.2.2.2.2.2 (cd_A w) U w.2.1 ∧ (∀ i, i < 6 → vk_R "CatDoors$Tape" (cd_ti i) (cd_tx i) (w.2.2.2.2.2.1 i) U) ∧ va_Z "java/lang/String" "COMPACT_STRINGS" "Z" (.int 1) (cd_A w) U w.2.1
def cd_NW (U : State) : Prop := (∀ q ∈ cd_nf, va_Nw (.fieldLinkNest q.1 q.2.1 q.2.2.1 q.2.2.2.1 q.2.2.2.2.1 q.2.2.2.2.2) U) ∧ ∀ q ∈ cd_nn, va_Nw (.methodLinkNest q.1 q.2.1 q.2.2.1 q.2.2.2) U
def cd_K (w : cd_WT) (U : State) : Prop := va_K w.2.2.1 cd_cls (cd_tys w) U ∧ cd_ST w U ∧ w.2.1.size = w.1 ∧ cd_NW U
theorem cd_K.warm {w : cd_WT} {s U : State} (hW : s.WarmedH U.vm) (h : cd_K w s) : cd_K w U :=
  ⟨h.1.moved hW.alike, ⟨fun i hi => ⟨(h.2.1.1 i hi).1.moved hW.alike, (h.2.1.1 i hi).2.moved hW.alike⟩, h.2.1.2.1.moved hW.alike, fun i hi => (h.2.1.2.2.1 i hi).warm hW, h.2.1.2.2.2.moved hW.alike⟩, h.2.2.1, fun q hq => (h.2.2.2.1 q hq).warmF hW, fun q hq => (h.2.2.2.2 q hq).warmM hW⟩
theorem cd_K.same {w : cd_WT} {s U : State} (hv : U.vm = s.vm) (h : cd_K w s) : cd_K w U := by
  have ha : s.vm.Alike U.vm := by rw [hv]; exact Vm.Alike.refl _
  exact ⟨h.1.moved ha, ⟨fun i hi => ⟨(h.2.1.1 i hi).1.moved ha, (h.2.1.1 i hi).2.moved ha⟩, h.2.1.2.1.moved ha, fun i hi => (h.2.1.2.2.1 i hi).same hv, h.2.1.2.2.2.moved ha⟩, h.2.2.1, fun q hq => (h.2.2.2.1 q hq).same rfl hv.symm, fun q hq => (h.2.2.2.2 q hq).same rfl hv.symm⟩
/-- the judgement -/
def cd_J (w : cd_WT) (X : cd_XT) (k n : Nat) (S : cd_Sp) (I : cd_Mem) (pc : Nat) (lv : List (Option Value)) (st : List Value) : Prop :=
  ∀ (H : Heap) (ls : Array Slot) (locs : List Loc), cd_R w S I H → cd_L ls lv → (∀ q ∈ locs, w.1 ≤ q.base) →
    W X.1 X.2.1 X.2.2.1 X.2.2.2.1 X.2.2.2.2.1 X.2.2.2.2.2.1 X.2.2.2.2.2.2.1 X.2.2.2.2.2.2.2.1 X.2.2.2.2.2.2.2.2.1 X.2.2.2.2.2.2.2.2.2.1 H locs k n X.2.2.2.2.2.2.2.2.2.2 (F0 X.2.2.2.2.2.1 pc ls st)
/-- what holds in a method's body -/
def cd_O (w : cd_WT) (X : cd_XT) (cc : ByteArray) (own : String) (d mc ms : Nat) (l : Launch) : Prop :=
  X.1.tables.exec = Jvm.exec ∧ X.2.2.2.2.2.2.2.2.2.1.code = cc ∧ X.2.2.2.2.1.vm.findClass own = some X.2.2.2.2.2.1.cls ∧ (∀ q ∈ cd_ws, q.before X.2.2.2.2.2.2.1 X.2.2.2.2.1 = true) ∧ cd_K w X.2.2.2.2.1 ∧ d ≤ X.2.2.2.1.frames ∧ 41 * d ≤ X.2.2.2.1.locals ∧ mc ≤ X.2.2.2.1.cells ∧ ms ≤ X.2.2.2.1.slots ∧ X.2.1 = l
/-- its locals' number, what it answers, its end -/
def cd_E (w : cd_WT) (X : cd_XT) (nL : Nat) (rt : Option FieldType) (mc ms : Nat) (nm : String) (post : cd_Pt) : Prop :=
  X.2.2.2.2.2.2.2.2.2.1.maxLocals = nL ∧ X.2.2.2.2.2.2.2.2.1.sig.returnType = rt ∧ X.2.2.2.2.2.2.2.2.1.locks = false ∧ X.2.2.2.2.2.2.2.2.1.name = nm ∧
  X.2.2.2.2.2.2.2.2.2.2 = MQ X.2.2.2.2.2.2.2.1 (fun _ _ o t => ∃ (r : Option Value) (S' : cd_Sp) (I' : cd_Mem), o = .returned r ∧ post r S' I' ∧ cd_R w S' I' t.heap) X.2.2.2.2.2.2.1 X.2.2.2.2.1 mc ms (fun q => w.1 ≤ q)
abbrev cd_MT : Type := MethodName × ByteArray × Nat × Option FieldType
def cd_rm (d mc ms : Nat) : Room := { frames := d, cells := mc, slots := ms, locals := 41 * d }
/-- a method's contract -/
def cd_C (l : Launch) (w : cd_WT) (m : cd_MT) (d mc ms : Nat) (av : List Value) (S : cd_Sp) (I : cd_Mem) (post : cd_Pt) : Prop :=
  Met l m.1 (Cond.code m.1 m.2.1 m.2.2.1 m.2.2.2 :: cd_ws) (cd_rm d mc ms) (va_Pc av (fun U => cd_R w S I U.heap ∧ cd_K w U)) (fun _ _ o t => ∃ (r : Option Value) (S' : cd_Sp) (I' : cd_Mem), o = .returned r ∧ post r S' I' ∧ cd_R w S' I' t.heap) mc ms (fun q => w.1 ≤ q)
theorem cd_good : ∀ w ∈ cd_ws, (w.onTables && w.keeps) = true ∨ ∃ ty, w = .arrayClass ty := fun w hw => good_of_word (List.mem_filter.mp hw).2
/-- entry: the locals of a method whose arguments are all of one slot -/
theorem cd_entry (vs : List Value) (n : Nat) (h1 : ∀ v ∈ vs, v.category = 1) (hn : vs.length ≤ n) : cd_L ((lg_sl vs ++ List.replicate (n - (lg_sl vs).length) Slot.unset).toArray) (vs.map some ++ List.replicate (n - vs.length) none) := by
  have e : lg_sl vs = vs.map Slot.val := by
    clear hn
    induction vs with
    | nil => rfl
    | cons v l ih =>
      have hv := h1 v List.mem_cons_self
      have := ih (fun x hx => h1 x (List.mem_cons_of_mem _ hx))
      simp only [lg_sl, List.flatMap_cons, List.map_cons] at this ⊢
      rw [this, hv]
      simp
  rw [e]
  have key : ∀ (i : Nat) (x : Slot), (vs.map Slot.val ++ List.replicate (n - (vs.map Slot.val).length) Slot.unset)[i]? = some x → (∃ v ∈ vs, x = .val v) ∨ x = .unset := by
    intro i x hx
    rcases List.mem_append.mp (List.mem_of_getElem? hx) with q | q
    · obtain ⟨v, hv, rfl⟩ := List.mem_map.mp q
      exact Or.inl ⟨v, hv, rfl⟩
    · exact Or.inr (List.eq_of_mem_replicate q)
  refine ⟨by simp, ⟨fun i v hi hc => ?_, fun i hi => ?_⟩, fun i v hi => ?_⟩
  · rw [List.getElem?_toArray] at hi
    rcases key i _ hi with ⟨u, hu, q⟩ | q
    · cases q
      rw [h1 _ hu] at hc
      cases hc
    · cases q
  · rw [List.getElem?_toArray] at hi
    rcases key i _ hi with ⟨u, hu, q⟩ | q <;> cases q
  · rw [List.getElem?_toArray]
    by_cases hl : i < vs.length
    · rw [List.getElem?_append_left (by simpa using hl)] at hi ⊢
      simp only [List.getElem?_map, Option.map_eq_some_iff] at hi ⊢
      obtain ⟨a, ha, hb⟩ := hi
      exact ⟨a, ha, by rw [Option.some.inj hb]⟩
    · rw [List.getElem?_append_right (by simpa using hl)] at hi
      have := List.eq_of_mem_replicate (List.mem_of_getElem? hi)
      cases this
theorem cd_intro {l : Launch} {w : cd_WT} {m : cd_MT} {d mc ms : Nat} {av : List Value} {S : cd_Sp} {I : cd_Mem} {post : cd_Pt} (hy : plainName m.1.cls = true) (h1 : ∀ v ∈ av, v.category = 1) (hn : av.length ≤ m.2.2.1)
    (h : ∀ X : cd_XT, cd_O w X m.2.1 m.1.cls d mc ms l → cd_E w X m.2.2.1 m.2.2.2 mc ms m.1.name post → cd_J w X 0 0 S I 0 (av.map some ++ List.replicate (m.2.2.1 - av.length) none) []) : cd_C l w m d mc ms av S I post := by
  refine Met.ofW (cc := m.2.1) (maxL := m.2.2.1) (ret := m.2.2.2) hy rfl ?_
  intro p e s mm args below meth c s₁ B hml hv
  obtain ⟨rfl, hR, hK⟩ := hv
  have hts := atoms_spec (ws := Cond.code m.1 m.2.1 m.2.2.1 m.2.2.2 :: cd_ws) B.pre
  have hO : cd_O w (p, l, e, (headSpec (Cond.code m.1 m.2.1 m.2.2.1 m.2.2.2 :: cd_ws) (cd_rm d mc ms)).room, s, mm, av.toArray, below, meth, c, MQ below (fun _ _ o t => ∃ (r : Option Value) (S' : cd_Sp) (I' : cd_Mem), o = .returned r ∧ post r S' I' ∧ cd_R w S' I' t.heap) av.toArray s mc ms (fun q => w.1 ≤ q)) m.2.1 m.1.cls d mc ms l :=
    ⟨B.exec, B.bytes, findClass_of_methodNamed B.named, fun q hq => hts q (List.mem_cons_of_mem _ hq), hK, Nat.le_refl _, Nat.le_refl _, Nat.le_refl _, Nat.le_refl _, rfl⟩
  have hJ := h _ hO ⟨hml, B.returns, B.notSynchronized, (name_of_methodNamed B.named B.method).1, rfl⟩
  rw [lg_entry_eq]
  exact hJ s.heap _ [] hR (cd_entry av _ h1 hn) (fun q hq => by cases hq)
end
section
section CDR
variable {l : Launch} {w : cd_WT} {X : cd_XT} {cc : ByteArray} {own : String} {d mc ms : Nat} {k n : Nat} {S : cd_Sp} {I : cd_Mem} {pc pc' tgt : Nat} {lv : List (Option Value)} {st : List Value}
/-- an instruction of n bytes at pc; the next one is at pc' -/
def cd_D (n : Nat) (cc : ByteArray) (pc : Nat) (i : Instr) (pc' : Nat) : Prop := decode cc pc = .ok (i, n) ∧ pc + n = pc'
def cd_Dk (cc : ByteArray) (pc : Nat) (v : Int32) (pc' : Nat) : Prop := (∃ n, cd_D 1 cc pc (.iconst n) pc' ∧ Int32.ofInt n = v) ∨ (∃ n, cd_D 2 cc pc (.bipush n) pc' ∧ (Int8.ofInt n).toInt32 = v) ∨ ∃ n, cd_D 3 cc pc (.sipush n) pc' ∧ (Int16.ofInt n).toInt32 = v

def cd_D_iload (cc : ByteArray) (pc i pc' : Nat) : Prop := cd_D 2 cc pc (.iload i) pc' ∨ ∃ k : Fin 4, cd_D 1 cc pc (.iload_n k) pc' ∧ (k : Nat) = i
def cd_D_aload (cc : ByteArray) (pc i pc' : Nat) : Prop := cd_D 2 cc pc (.aload i) pc' ∨ ∃ k : Fin 4, cd_D 1 cc pc (.aload_n k) pc' ∧ (k : Nat) = i
def cd_D_istore (cc : ByteArray) (pc i pc' : Nat) : Prop := cd_D 2 cc pc (.istore i) pc' ∨ ∃ k : Fin 4, cd_D 1 cc pc (.istore_n k) pc' ∧ (k : Nat) = i
def cd_D_astore (cc : ByteArray) (pc i pc' : Nat) : Prop := cd_D 2 cc pc (.astore i) pc' ∨ ∃ k : Fin 4, cd_D 1 cc pc (.astore_n k) pc' ∧ (k : Nat) = i
def cd_D_lload (cc : ByteArray) (pc i pc' : Nat) : Prop := cd_D 2 cc pc (.lload i) pc' ∨ ∃ k : Fin 4, cd_D 1 cc pc (.lload_n k) pc' ∧ (k : Nat) = i
def cd_D_lstore (cc : ByteArray) (pc i pc' : Nat) : Prop := cd_D 2 cc pc (.lstore i) pc' ∨ ∃ k : Fin 4, cd_D 1 cc pc (.lstore_n k) pc' ∧ (k : Nat) = i
def cd_D_icmp_eq (cc : ByteArray) (pc tgt pc' : Nat) : Prop := ∃ off : Int, decode cc pc = .ok (.if_icmp .eq off, 3) ∧ (pc : Int) + off = (tgt : Int) ∧ pc + 3 = pc'
def cd_D_if_eq (cc : ByteArray) (pc tgt pc' : Nat) : Prop := ∃ off : Int, decode cc pc = .ok (.ifCond .eq off, 3) ∧ (pc : Int) + off = (tgt : Int) ∧ pc + 3 = pc'
def cd_D_icmp_ne (cc : ByteArray) (pc tgt pc' : Nat) : Prop := ∃ off : Int, decode cc pc = .ok (.if_icmp .ne off, 3) ∧ (pc : Int) + off = (tgt : Int) ∧ pc + 3 = pc'
def cd_D_if_ne (cc : ByteArray) (pc tgt pc' : Nat) : Prop := ∃ off : Int, decode cc pc = .ok (.ifCond .ne off, 3) ∧ (pc : Int) + off = (tgt : Int) ∧ pc + 3 = pc'
def cd_D_icmp_lt (cc : ByteArray) (pc tgt pc' : Nat) : Prop := ∃ off : Int, decode cc pc = .ok (.if_icmp .lt off, 3) ∧ (pc : Int) + off = (tgt : Int) ∧ pc + 3 = pc'
def cd_D_if_lt (cc : ByteArray) (pc tgt pc' : Nat) : Prop := ∃ off : Int, decode cc pc = .ok (.ifCond .lt off, 3) ∧ (pc : Int) + off = (tgt : Int) ∧ pc + 3 = pc'
def cd_D_icmp_ge (cc : ByteArray) (pc tgt pc' : Nat) : Prop := ∃ off : Int, decode cc pc = .ok (.if_icmp .ge off, 3) ∧ (pc : Int) + off = (tgt : Int) ∧ pc + 3 = pc'
def cd_D_if_ge (cc : ByteArray) (pc tgt pc' : Nat) : Prop := ∃ off : Int, decode cc pc = .ok (.ifCond .ge off, 3) ∧ (pc : Int) + off = (tgt : Int) ∧ pc + 3 = pc'
def cd_D_icmp_gt (cc : ByteArray) (pc tgt pc' : Nat) : Prop := ∃ off : Int, decode cc pc = .ok (.if_icmp .gt off, 3) ∧ (pc : Int) + off = (tgt : Int) ∧ pc + 3 = pc'
def cd_D_if_gt (cc : ByteArray) (pc tgt pc' : Nat) : Prop := ∃ off : Int, decode cc pc = .ok (.ifCond .gt off, 3) ∧ (pc : Int) + off = (tgt : Int) ∧ pc + 3 = pc'
def cd_D_icmp_le (cc : ByteArray) (pc tgt pc' : Nat) : Prop := ∃ off : Int, decode cc pc = .ok (.if_icmp .le off, 3) ∧ (pc : Int) + off = (tgt : Int) ∧ pc + 3 = pc'
def cd_D_if_le (cc : ByteArray) (pc tgt pc' : Nat) : Prop := ∃ off : Int, decode cc pc = .ok (.ifCond .le off, 3) ∧ (pc : Int) + off = (tgt : Int) ∧ pc + 3 = pc'
def cd_D_goto (cc : ByteArray) (pc tgt : Nat) : Prop := ∃ off : Int, decode cc pc = .ok (.goto off, 3) ∧ (pc : Int) + off = (tgt : Int)
def cd_D_ifnn (cc : ByteArray) (pc tgt pc' : Nat) : Prop := ∃ off : Int, decode cc pc = .ok (.ifnonnull off, 3) ∧ (pc : Int) + off = (tgt : Int) ∧ pc + 3 = pc'
theorem r_k (hO : cd_O w X cc own d mc ms l) {v : Int32} (hd : cd_Dk cc pc v pc') (kk : cd_J w X k n S I pc' lv (.int v :: st)) : cd_J w X k n S I pc lv st := by
  intro H ls locs hR hL hq
  rcases hd with ⟨z, ⟨hd, rfl⟩, hv⟩ | ⟨z, ⟨hd, rfl⟩, hv⟩ | ⟨z, ⟨hd, rfl⟩, hv⟩
  · exact lv_iconst hO.1 hO.2.1 hd hv (kk H ls locs hR hL hq)
  · exact lv_bipush hO.1 hO.2.1 hd hv (kk H ls locs hR hL hq)
  · exact lv_sipush hO.1 hO.2.1 hd hv (kk H ls locs hR hL hq)
theorem r_ldc (hO : cd_O w X cc own d mc ms l) {i : Nat} {v : Int32} (hw : Cond.constant own i v ∈ cd_ws) (hd : cd_D 2 cc pc (.ldc i) pc') (kk : cd_J w X k n S I pc' lv (.int v :: st)) : cd_J w X k n S I pc lv st := by
  intro H ls locs hR hL hq
  obtain ⟨hd, rfl⟩ := hd
  exact lv_ldc hO.1 hO.2.1 hO.2.2.1 (hO.2.2.2.1 _ hw) hd (kk H ls locs hR hL hq)
theorem r_ldcw (hO : cd_O w X cc own d mc ms l) {i : Nat} {v : Int32} (hw : Cond.constant own i v ∈ cd_ws) (hd : cd_D 3 cc pc (.ldc_w i) pc') (kk : cd_J w X k n S I pc' lv (.int v :: st)) : cd_J w X k n S I pc lv st := by
  intro H ls locs hR hL hq
  obtain ⟨hd, rfl⟩ := hd
  exact lv_ldcw hO.1 hO.2.1 hO.2.2.1 (hO.2.2.2.1 _ hw) hd (kk H ls locs hR hL hq)
theorem r_lconst0 (hO : cd_O w X cc own d mc ms l) (hd : cd_D 1 cc pc (.lconst 0) pc') (kk : cd_J w X k n S I pc' lv (.long 0 :: st)) : cd_J w X k n S I pc lv st := by
  intro H ls locs hR hL hq
  obtain ⟨hd, rfl⟩ := hd
  exact lv_lconst hO.1 hO.2.1 hd rfl (kk H ls locs hR hL hq)
theorem r_iload (hO : cd_O w X cc own d mc ms l) {i : Nat} {x : Int32} (hd : cd_D_iload cc pc i pc') (hl : lv[i]? = some (some (.int x))) (kk : cd_J w X k n S I pc' lv (.int x :: st)) : cd_J w X k n S I pc lv st := by
  intro H ls locs hR hL hq
  rcases hd with ⟨hd, rfl⟩ | ⟨z, ⟨hd, rfl⟩, hz⟩
  · exact lv_iload hO.1 hO.2.1 hd (hL.2.2 _ _ hl) (kk H ls locs hR hL hq)
  · exact lv_iload_n hO.1 hO.2.1 hd hz (hL.2.2 _ _ hl) (kk H ls locs hR hL hq)
theorem r_aload (hO : cd_O w X cc own d mc ms l) {i x : Nat} (hd : cd_D_aload cc pc i pc') (hl : lv[i]? = some (some (.ref x))) (kk : cd_J w X k n S I pc' lv (.ref x :: st)) : cd_J w X k n S I pc lv st := by
  intro H ls locs hR hL hq
  rcases hd with ⟨hd, rfl⟩ | ⟨z, ⟨hd, rfl⟩, hz⟩
  · exact lv_aload hO.1 hO.2.1 hd (hL.2.2 _ _ hl) (kk H ls locs hR hL hq)
  · exact lv_aload_n hO.1 hO.2.1 hd hz (hL.2.2 _ _ hl) (kk H ls locs hR hL hq)
theorem r_aloadN (hO : cd_O w X cc own d mc ms l) {i : Nat} (hd : cd_D_aload cc pc i pc') (hl : lv[i]? = some (some .null)) (kk : cd_J w X k n S I pc' lv (.null :: st)) : cd_J w X k n S I pc lv st := by
  intro H ls locs hR hL hq
  rcases hd with ⟨hd, rfl⟩ | ⟨z, ⟨hd, rfl⟩, hz⟩
  · exact lv_aloadN hO.1 hO.2.1 hd (hL.2.2 _ _ hl) (kk H ls locs hR hL hq)
  · exact lv_aload_nN hO.1 hO.2.1 hd hz (hL.2.2 _ _ hl) (kk H ls locs hR hL hq)
theorem r_lload (hO : cd_O w X cc own d mc ms l) {i : Nat} {x : Int64} (hd : cd_D_lload cc pc i pc') (hl : lv[i]? = some (some (.long x))) (kk : cd_J w X k n S I pc' lv (.long x :: st)) : cd_J w X k n S I pc lv st := by
  intro H ls locs hR hL hq
  rcases hd with ⟨hd, rfl⟩ | ⟨z, ⟨hd, rfl⟩, hz⟩
  · exact lv_lload hO.1 hO.2.1 hd (hL.2.2 _ _ hl) (kk H ls locs hR hL hq)
  · exact lv_lload_n hO.1 hO.2.1 hd hz (hL.2.2 _ _ hl) (kk H ls locs hR hL hq)
/-- no long stands at the place -/
def cd_nl (a : Option Value) : Bool := match a with
  | some v => v.category == 1
  | none => true
/-- what storing a value of one slot leaves of the locals -/
def cd_st1 (lv : List (Option Value)) (i : Nat) (v : Value) (lv' : List (Option Value)) : Prop := i < lv.length ∧ lv'.length = lv.length ∧ ∀ (j : Nat) (u : Value), lv'[j]? = some (some u) → (j = i ∧ u = v) ∨ (j ≠ i ∧ lv[j]? = some (some u) ∧ (j + 1 = i → u.category = 1))
theorem cd_store1 {ls : Array Slot} {lv lv' : List (Option Value)} {i : Nat} {v : Value} (h : cd_L ls lv) (hs : cd_st1 lv i v lv') (hc : v.category = 1) : ∃ ls', storeLocals ls i v = some ls' ∧ cd_L ls' lv' := by
  have h0 : lv_has ls lv.length [] := ⟨h.1, h.2.1, fun q hq => by cases hq⟩
  obtain ⟨ls', e', h'⟩ := lv_store1 (v := v) h0 hs.1 hc
  refine ⟨ls', e', by rw [hs.2.1]; exact h'.1, h'.2.1, fun j u hj => ?_⟩
  rcases hs.2.2 j u hj with ⟨rfl, rfl⟩ | ⟨hne, hj, hcat⟩
  · exact h'.2.2 _ List.mem_cons_self
  · have h1 : lv_has ls lv.length [(j, u)] := ⟨h.1, h.2.1, fun q hq => by
      rw [List.mem_singleton.mp hq]
      exact h.2.2 j u hj⟩
    obtain ⟨ls2, e2, h2⟩ := lv_store1 (v := v) h1 hs.1 hc
    have : ls2 = ls' := Option.some.inj (e2.symm.trans e')
    subst this
    refine h2.2.2 (j, u) (List.mem_cons_of_mem _ (List.mem_filter.mpr ⟨List.mem_singleton.mpr rfl, ?_⟩))
    have hb : (j == i) = false := by simpa using hne
    simp only [hb, Bool.not_false, Bool.true_and, Bool.not_eq_true', Bool.and_eq_false_iff]
    by_cases hji : j + 1 = i
    · exact Or.inr (by rw [hcat hji]; rfl)
    · exact Or.inl (by simpa using hji)
theorem cd_st1_set {lv : List (Option Value)} {i : Nat} {v : Value} (h : i < lv.length) (hp : ∀ j u, j + 1 = i → lv[j]? = some (some u) → u.category = 1) : cd_st1 lv i v (lv.set i (some v)) := by
  refine ⟨h, by simp, fun j u hj => ?_⟩
  by_cases hji : j = i
  · subst hji
    rw [List.getElem?_set_self h] at hj
    cases hj
    exact Or.inl ⟨rfl, rfl⟩
  · rw [List.getElem?_set_ne (fun q => hji q.symm)] at hj
    exact Or.inr ⟨hji, hj, fun q => hp j u q hj⟩
theorem r_storeI (hO : cd_O w X cc own d mc ms l) {i : Nat} {x : Int32} {lv' : List (Option Value)} (hd : cd_D_istore cc pc i pc') (hs : cd_st1 lv i (.int x) lv') (kk : cd_J w X k n S I pc' lv' st) : cd_J w X k n S I pc lv (.int x :: st) := by
  intro H ls locs hR hL hq
  obtain ⟨ls', e', hL'⟩ := cd_store1 hL hs rfl
  have kk := kk H ls' locs hR hL' hq
  intro T hT Y
  obtain ⟨t, a, b⟩ := kk T hT Y
  refine ⟨t, ?_, b⟩
  have hx := hO.1
  have hb := hO.2.1
  rcases hd with ⟨hdg, rfl⟩ | ⟨z, ⟨hdg, rfl⟩, rfl⟩
  · jvm_step Y.here [Y.here.top, ↓top_set Y.here.top, hx, hb, hdg, e']
    exact a
  · jvm_step Y.here [Y.here.top, ↓top_set Y.here.top, hx, hb, hdg, e']
    exact a
theorem r_storeA (hO : cd_O w X cc own d mc ms l) {i : Nat} {x : Nat} {lv' : List (Option Value)} (hd : cd_D_astore cc pc i pc') (hs : cd_st1 lv i (.ref x) lv') (kk : cd_J w X k n S I pc' lv' st) : cd_J w X k n S I pc lv (.ref x :: st) := by
  intro H ls locs hR hL hq
  obtain ⟨ls', e', hL'⟩ := cd_store1 hL hs rfl
  have kk := kk H ls' locs hR hL' hq
  intro T hT Y
  obtain ⟨t, a, b⟩ := kk T hT Y
  refine ⟨t, ?_, b⟩
  have hx := hO.1
  have hb := hO.2.1
  rcases hd with ⟨hdg, rfl⟩ | ⟨z, ⟨hdg, rfl⟩, rfl⟩
  · jvm_step Y.here [Y.here.top, ↓top_set Y.here.top, hx, hb, hdg, e', Value.isRef]
    exact a
  · jvm_step Y.here [Y.here.top, ↓top_set Y.here.top, hx, hb, hdg, e', Value.isRef]
    exact a
theorem r_storeAN (hO : cd_O w X cc own d mc ms l) {i : Nat} {lv' : List (Option Value)} (hd : cd_D_astore cc pc i pc') (hs : cd_st1 lv i .null lv') (kk : cd_J w X k n S I pc' lv' st) : cd_J w X k n S I pc lv (.null :: st) := by
  intro H ls locs hR hL hq
  obtain ⟨ls', e', hL'⟩ := cd_store1 hL hs rfl
  have kk := kk H ls' locs hR hL' hq
  intro T hT Y
  obtain ⟨t, a, b⟩ := kk T hT Y
  refine ⟨t, ?_, b⟩
  have hx := hO.1
  have hb := hO.2.1
  rcases hd with ⟨hdg, rfl⟩ | ⟨z, ⟨hdg, rfl⟩, rfl⟩
  · jvm_step Y.here [Y.here.top, ↓top_set Y.here.top, hx, hb, hdg, e', Value.isRef]
    exact a
  · jvm_step Y.here [Y.here.top, ↓top_set Y.here.top, hx, hb, hdg, e', Value.isRef]
    exact a
theorem r_inc (hO : cd_O w X cc own d mc ms l) {i : Nat} {z : Int} {x v : Int32} {lv' : List (Option Value)} (hd : cd_D 3 cc pc (.iinc i z) pc') (hl : lv[i]? = some (some (.int x))) (hv : x + Int32.ofInt z = v) (hs : cd_st1 lv i (.int v) lv') (kk : cd_J w X k n S I pc' lv' st) : cd_J w X k n S I pc lv st := by
  intro H ls locs hR hL hq
  subst hv
  have hg := hL.2.2 _ _ hl
  obtain ⟨ls', e', hL'⟩ := cd_store1 hL hs rfl
  have kk := kk H ls' locs hR hL' hq
  intro T hT Y
  obtain ⟨t, a, b⟩ := kk T hT Y
  refine ⟨t, ?_, b⟩
  have hx := hO.1
  have hb := hO.2.1
  obtain ⟨hdg, rfl⟩ := hd
  jvm_step Y.here [Y.here.top, ↓top_set Y.here.top, hx, hb, hdg, hg, e']
  exact a

theorem r_sI0 (hO : cd_O w X cc own d mc ms l) {x : Int32} {a0 : Option Value} {t : List (Option Value)} (hd : cd_D_istore cc pc 0 pc') (kk : cd_J w X k n S I pc' (some (.int x) :: t) st) : cd_J w X k n S I pc (a0 :: t) (.int x :: st) :=
  r_storeI hO hd (cd_st1_set (by simp) (fun j u hj _ => absurd hj (by omega))) kk
theorem r_sA0 (hO : cd_O w X cc own d mc ms l) {x : Nat} {a0 : Option Value} {t : List (Option Value)} (hd : cd_D_astore cc pc 0 pc') (kk : cd_J w X k n S I pc' (some (.ref x) :: t) st) : cd_J w X k n S I pc (a0 :: t) (.ref x :: st) :=
  r_storeA hO hd (cd_st1_set (by simp) (fun j u hj _ => absurd hj (by omega))) kk
theorem r_inc0 (hO : cd_O w X cc own d mc ms l) {x v : Int32} {z : Int} {t : List (Option Value)} (hd : cd_D 3 cc pc (.iinc 0 z) pc') (hv : x + Int32.ofInt z = v) (kk : cd_J w X k n S I pc' (some (.int v) :: t) st) : cd_J w X k n S I pc (some (.int x) :: t) st :=
  r_inc hO hd rfl hv (cd_st1_set (by simp) (fun j u hj _ => absurd hj (by omega))) kk
theorem r_sI1 (hO : cd_O w X cc own d mc ms l) {x : Int32} {a0 a1 : Option Value} {t : List (Option Value)} (hd : cd_D_istore cc pc 1 pc') (hn : cd_nl a0 = true) (kk : cd_J w X k n S I pc' (a0 :: some (.int x) :: t) st) : cd_J w X k n S I pc (a0 :: a1 :: t) (.int x :: st) :=
  r_storeI hO hd (cd_st1_set (by simp) (fun j u hj hu => by
    have hj2 : j = 0 := by omega
    subst hj2
    have : a0 = some u := Option.some.inj hu
    subst this
    exact eq_of_beq hn)) kk
theorem r_sA1 (hO : cd_O w X cc own d mc ms l) {x : Nat} {a0 a1 : Option Value} {t : List (Option Value)} (hd : cd_D_astore cc pc 1 pc') (hn : cd_nl a0 = true) (kk : cd_J w X k n S I pc' (a0 :: some (.ref x) :: t) st) : cd_J w X k n S I pc (a0 :: a1 :: t) (.ref x :: st) :=
  r_storeA hO hd (cd_st1_set (by simp) (fun j u hj hu => by
    have hj2 : j = 0 := by omega
    subst hj2
    have : a0 = some u := Option.some.inj hu
    subst this
    exact eq_of_beq hn)) kk
theorem r_inc1 (hO : cd_O w X cc own d mc ms l) {x v : Int32} {z : Int} {a0 : Option Value} {t : List (Option Value)} (hd : cd_D 3 cc pc (.iinc 1 z) pc') (hv : x + Int32.ofInt z = v) (hn : cd_nl a0 = true) (kk : cd_J w X k n S I pc' (a0 :: some (.int v) :: t) st) : cd_J w X k n S I pc (a0 :: some (.int x) :: t) st :=
  r_inc hO hd rfl hv (cd_st1_set (by simp) (fun j u hj hu => by
    have hj2 : j = 0 := by omega
    subst hj2
    have : a0 = some u := Option.some.inj hu
    subst this
    exact eq_of_beq hn)) kk
theorem r_sI2 (hO : cd_O w X cc own d mc ms l) {x : Int32} {a0 a1 a2 : Option Value} {t : List (Option Value)} (hd : cd_D_istore cc pc 2 pc') (hn : cd_nl a1 = true) (kk : cd_J w X k n S I pc' (a0 :: a1 :: some (.int x) :: t) st) : cd_J w X k n S I pc (a0 :: a1 :: a2 :: t) (.int x :: st) :=
  r_storeI hO hd (cd_st1_set (by simp) (fun j u hj hu => by
    have hj2 : j = 1 := by omega
    subst hj2
    have : a1 = some u := Option.some.inj hu
    subst this
    exact eq_of_beq hn)) kk
theorem r_sA2 (hO : cd_O w X cc own d mc ms l) {x : Nat} {a0 a1 a2 : Option Value} {t : List (Option Value)} (hd : cd_D_astore cc pc 2 pc') (hn : cd_nl a1 = true) (kk : cd_J w X k n S I pc' (a0 :: a1 :: some (.ref x) :: t) st) : cd_J w X k n S I pc (a0 :: a1 :: a2 :: t) (.ref x :: st) :=
  r_storeA hO hd (cd_st1_set (by simp) (fun j u hj hu => by
    have hj2 : j = 1 := by omega
    subst hj2
    have : a1 = some u := Option.some.inj hu
    subst this
    exact eq_of_beq hn)) kk
theorem r_inc2 (hO : cd_O w X cc own d mc ms l) {x v : Int32} {z : Int} {a0 a1 : Option Value} {t : List (Option Value)} (hd : cd_D 3 cc pc (.iinc 2 z) pc') (hv : x + Int32.ofInt z = v) (hn : cd_nl a1 = true) (kk : cd_J w X k n S I pc' (a0 :: a1 :: some (.int v) :: t) st) : cd_J w X k n S I pc (a0 :: a1 :: some (.int x) :: t) st :=
  r_inc hO hd rfl hv (cd_st1_set (by simp) (fun j u hj hu => by
    have hj2 : j = 1 := by omega
    subst hj2
    have : a1 = some u := Option.some.inj hu
    subst this
    exact eq_of_beq hn)) kk
theorem r_sI3 (hO : cd_O w X cc own d mc ms l) {x : Int32} {a0 a1 a2 a3 : Option Value} {t : List (Option Value)} (hd : cd_D_istore cc pc 3 pc') (hn : cd_nl a2 = true) (kk : cd_J w X k n S I pc' (a0 :: a1 :: a2 :: some (.int x) :: t) st) : cd_J w X k n S I pc (a0 :: a1 :: a2 :: a3 :: t) (.int x :: st) :=
  r_storeI hO hd (cd_st1_set (by simp) (fun j u hj hu => by
    have hj2 : j = 2 := by omega
    subst hj2
    have : a2 = some u := Option.some.inj hu
    subst this
    exact eq_of_beq hn)) kk
theorem r_sA3 (hO : cd_O w X cc own d mc ms l) {x : Nat} {a0 a1 a2 a3 : Option Value} {t : List (Option Value)} (hd : cd_D_astore cc pc 3 pc') (hn : cd_nl a2 = true) (kk : cd_J w X k n S I pc' (a0 :: a1 :: a2 :: some (.ref x) :: t) st) : cd_J w X k n S I pc (a0 :: a1 :: a2 :: a3 :: t) (.ref x :: st) :=
  r_storeA hO hd (cd_st1_set (by simp) (fun j u hj hu => by
    have hj2 : j = 2 := by omega
    subst hj2
    have : a2 = some u := Option.some.inj hu
    subst this
    exact eq_of_beq hn)) kk
theorem r_inc3 (hO : cd_O w X cc own d mc ms l) {x v : Int32} {z : Int} {a0 a1 a2 : Option Value} {t : List (Option Value)} (hd : cd_D 3 cc pc (.iinc 3 z) pc') (hv : x + Int32.ofInt z = v) (hn : cd_nl a2 = true) (kk : cd_J w X k n S I pc' (a0 :: a1 :: a2 :: some (.int v) :: t) st) : cd_J w X k n S I pc (a0 :: a1 :: a2 :: some (.int x) :: t) st :=
  r_inc hO hd rfl hv (cd_st1_set (by simp) (fun j u hj hu => by
    have hj2 : j = 2 := by omega
    subst hj2
    have : a2 = some u := Option.some.inj hu
    subst this
    exact eq_of_beq hn)) kk
theorem r_sI4 (hO : cd_O w X cc own d mc ms l) {x : Int32} {a0 a1 a2 a3 a4 : Option Value} {t : List (Option Value)} (hd : cd_D_istore cc pc 4 pc') (hn : cd_nl a3 = true) (kk : cd_J w X k n S I pc' (a0 :: a1 :: a2 :: a3 :: some (.int x) :: t) st) : cd_J w X k n S I pc (a0 :: a1 :: a2 :: a3 :: a4 :: t) (.int x :: st) :=
  r_storeI hO hd (cd_st1_set (by simp) (fun j u hj hu => by
    have hj2 : j = 3 := by omega
    subst hj2
    have : a3 = some u := Option.some.inj hu
    subst this
    exact eq_of_beq hn)) kk
theorem r_sA4 (hO : cd_O w X cc own d mc ms l) {x : Nat} {a0 a1 a2 a3 a4 : Option Value} {t : List (Option Value)} (hd : cd_D_astore cc pc 4 pc') (hn : cd_nl a3 = true) (kk : cd_J w X k n S I pc' (a0 :: a1 :: a2 :: a3 :: some (.ref x) :: t) st) : cd_J w X k n S I pc (a0 :: a1 :: a2 :: a3 :: a4 :: t) (.ref x :: st) :=
  r_storeA hO hd (cd_st1_set (by simp) (fun j u hj hu => by
    have hj2 : j = 3 := by omega
    subst hj2
    have : a3 = some u := Option.some.inj hu
    subst this
    exact eq_of_beq hn)) kk
theorem r_inc4 (hO : cd_O w X cc own d mc ms l) {x v : Int32} {z : Int} {a0 a1 a2 a3 : Option Value} {t : List (Option Value)} (hd : cd_D 3 cc pc (.iinc 4 z) pc') (hv : x + Int32.ofInt z = v) (hn : cd_nl a3 = true) (kk : cd_J w X k n S I pc' (a0 :: a1 :: a2 :: a3 :: some (.int v) :: t) st) : cd_J w X k n S I pc (a0 :: a1 :: a2 :: a3 :: some (.int x) :: t) st :=
  r_inc hO hd rfl hv (cd_st1_set (by simp) (fun j u hj hu => by
    have hj2 : j = 3 := by omega
    subst hj2
    have : a3 = some u := Option.some.inj hu
    subst this
    exact eq_of_beq hn)) kk
theorem r_sI5 (hO : cd_O w X cc own d mc ms l) {x : Int32} {a0 a1 a2 a3 a4 a5 : Option Value} {t : List (Option Value)} (hd : cd_D_istore cc pc 5 pc') (hn : cd_nl a4 = true) (kk : cd_J w X k n S I pc' (a0 :: a1 :: a2 :: a3 :: a4 :: some (.int x) :: t) st) : cd_J w X k n S I pc (a0 :: a1 :: a2 :: a3 :: a4 :: a5 :: t) (.int x :: st) :=
  r_storeI hO hd (cd_st1_set (by simp) (fun j u hj hu => by
    have hj2 : j = 4 := by omega
    subst hj2
    have : a4 = some u := Option.some.inj hu
    subst this
    exact eq_of_beq hn)) kk
theorem r_sA5 (hO : cd_O w X cc own d mc ms l) {x : Nat} {a0 a1 a2 a3 a4 a5 : Option Value} {t : List (Option Value)} (hd : cd_D_astore cc pc 5 pc') (hn : cd_nl a4 = true) (kk : cd_J w X k n S I pc' (a0 :: a1 :: a2 :: a3 :: a4 :: some (.ref x) :: t) st) : cd_J w X k n S I pc (a0 :: a1 :: a2 :: a3 :: a4 :: a5 :: t) (.ref x :: st) :=
  r_storeA hO hd (cd_st1_set (by simp) (fun j u hj hu => by
    have hj2 : j = 4 := by omega
    subst hj2
    have : a4 = some u := Option.some.inj hu
    subst this
    exact eq_of_beq hn)) kk
theorem r_inc5 (hO : cd_O w X cc own d mc ms l) {x v : Int32} {z : Int} {a0 a1 a2 a3 a4 : Option Value} {t : List (Option Value)} (hd : cd_D 3 cc pc (.iinc 5 z) pc') (hv : x + Int32.ofInt z = v) (hn : cd_nl a4 = true) (kk : cd_J w X k n S I pc' (a0 :: a1 :: a2 :: a3 :: a4 :: some (.int v) :: t) st) : cd_J w X k n S I pc (a0 :: a1 :: a2 :: a3 :: a4 :: some (.int x) :: t) st :=
  r_inc hO hd rfl hv (cd_st1_set (by simp) (fun j u hj hu => by
    have hj2 : j = 4 := by omega
    subst hj2
    have : a4 = some u := Option.some.inj hu
    subst this
    exact eq_of_beq hn)) kk
theorem r_sI6 (hO : cd_O w X cc own d mc ms l) {x : Int32} {a0 a1 a2 a3 a4 a5 a6 : Option Value} {t : List (Option Value)} (hd : cd_D_istore cc pc 6 pc') (hn : cd_nl a5 = true) (kk : cd_J w X k n S I pc' (a0 :: a1 :: a2 :: a3 :: a4 :: a5 :: some (.int x) :: t) st) : cd_J w X k n S I pc (a0 :: a1 :: a2 :: a3 :: a4 :: a5 :: a6 :: t) (.int x :: st) :=
  r_storeI hO hd (cd_st1_set (by simp) (fun j u hj hu => by
    have hj2 : j = 5 := by omega
    subst hj2
    have : a5 = some u := Option.some.inj hu
    subst this
    exact eq_of_beq hn)) kk
theorem r_sA6 (hO : cd_O w X cc own d mc ms l) {x : Nat} {a0 a1 a2 a3 a4 a5 a6 : Option Value} {t : List (Option Value)} (hd : cd_D_astore cc pc 6 pc') (hn : cd_nl a5 = true) (kk : cd_J w X k n S I pc' (a0 :: a1 :: a2 :: a3 :: a4 :: a5 :: some (.ref x) :: t) st) : cd_J w X k n S I pc (a0 :: a1 :: a2 :: a3 :: a4 :: a5 :: a6 :: t) (.ref x :: st) :=
  r_storeA hO hd (cd_st1_set (by simp) (fun j u hj hu => by
    have hj2 : j = 5 := by omega
    subst hj2
    have : a5 = some u := Option.some.inj hu
    subst this
    exact eq_of_beq hn)) kk
theorem r_inc6 (hO : cd_O w X cc own d mc ms l) {x v : Int32} {z : Int} {a0 a1 a2 a3 a4 a5 : Option Value} {t : List (Option Value)} (hd : cd_D 3 cc pc (.iinc 6 z) pc') (hv : x + Int32.ofInt z = v) (hn : cd_nl a5 = true) (kk : cd_J w X k n S I pc' (a0 :: a1 :: a2 :: a3 :: a4 :: a5 :: some (.int v) :: t) st) : cd_J w X k n S I pc (a0 :: a1 :: a2 :: a3 :: a4 :: a5 :: some (.int x) :: t) st :=
  r_inc hO hd rfl hv (cd_st1_set (by simp) (fun j u hj hu => by
    have hj2 : j = 5 := by omega
    subst hj2
    have : a5 = some u := Option.some.inj hu
    subst this
    exact eq_of_beq hn)) kk
theorem r_sI7 (hO : cd_O w X cc own d mc ms l) {x : Int32} {a0 a1 a2 a3 a4 a5 a6 a7 : Option Value} {t : List (Option Value)} (hd : cd_D_istore cc pc 7 pc') (hn : cd_nl a6 = true) (kk : cd_J w X k n S I pc' (a0 :: a1 :: a2 :: a3 :: a4 :: a5 :: a6 :: some (.int x) :: t) st) : cd_J w X k n S I pc (a0 :: a1 :: a2 :: a3 :: a4 :: a5 :: a6 :: a7 :: t) (.int x :: st) :=
  r_storeI hO hd (cd_st1_set (by simp) (fun j u hj hu => by
    have hj2 : j = 6 := by omega
    subst hj2
    have : a6 = some u := Option.some.inj hu
    subst this
    exact eq_of_beq hn)) kk
theorem r_sA7 (hO : cd_O w X cc own d mc ms l) {x : Nat} {a0 a1 a2 a3 a4 a5 a6 a7 : Option Value} {t : List (Option Value)} (hd : cd_D_astore cc pc 7 pc') (hn : cd_nl a6 = true) (kk : cd_J w X k n S I pc' (a0 :: a1 :: a2 :: a3 :: a4 :: a5 :: a6 :: some (.ref x) :: t) st) : cd_J w X k n S I pc (a0 :: a1 :: a2 :: a3 :: a4 :: a5 :: a6 :: a7 :: t) (.ref x :: st) :=
  r_storeA hO hd (cd_st1_set (by simp) (fun j u hj hu => by
    have hj2 : j = 6 := by omega
    subst hj2
    have : a6 = some u := Option.some.inj hu
    subst this
    exact eq_of_beq hn)) kk
theorem r_inc7 (hO : cd_O w X cc own d mc ms l) {x v : Int32} {z : Int} {a0 a1 a2 a3 a4 a5 a6 : Option Value} {t : List (Option Value)} (hd : cd_D 3 cc pc (.iinc 7 z) pc') (hv : x + Int32.ofInt z = v) (hn : cd_nl a6 = true) (kk : cd_J w X k n S I pc' (a0 :: a1 :: a2 :: a3 :: a4 :: a5 :: a6 :: some (.int v) :: t) st) : cd_J w X k n S I pc (a0 :: a1 :: a2 :: a3 :: a4 :: a5 :: a6 :: some (.int x) :: t) st :=
  r_inc hO hd rfl hv (cd_st1_set (by simp) (fun j u hj hu => by
    have hj2 : j = 6 := by omega
    subst hj2
    have : a6 = some u := Option.some.inj hu
    subst this
    exact eq_of_beq hn)) kk
theorem r_sI8 (hO : cd_O w X cc own d mc ms l) {x : Int32} {a0 a1 a2 a3 a4 a5 a6 a7 a8 : Option Value} {t : List (Option Value)} (hd : cd_D_istore cc pc 8 pc') (hn : cd_nl a7 = true) (kk : cd_J w X k n S I pc' (a0 :: a1 :: a2 :: a3 :: a4 :: a5 :: a6 :: a7 :: some (.int x) :: t) st) : cd_J w X k n S I pc (a0 :: a1 :: a2 :: a3 :: a4 :: a5 :: a6 :: a7 :: a8 :: t) (.int x :: st) :=
  r_storeI hO hd (cd_st1_set (by simp) (fun j u hj hu => by
    have hj2 : j = 7 := by omega
    subst hj2
    have : a7 = some u := Option.some.inj hu
    subst this
    exact eq_of_beq hn)) kk
theorem r_sA8 (hO : cd_O w X cc own d mc ms l) {x : Nat} {a0 a1 a2 a3 a4 a5 a6 a7 a8 : Option Value} {t : List (Option Value)} (hd : cd_D_astore cc pc 8 pc') (hn : cd_nl a7 = true) (kk : cd_J w X k n S I pc' (a0 :: a1 :: a2 :: a3 :: a4 :: a5 :: a6 :: a7 :: some (.ref x) :: t) st) : cd_J w X k n S I pc (a0 :: a1 :: a2 :: a3 :: a4 :: a5 :: a6 :: a7 :: a8 :: t) (.ref x :: st) :=
  r_storeA hO hd (cd_st1_set (by simp) (fun j u hj hu => by
    have hj2 : j = 7 := by omega
    subst hj2
    have : a7 = some u := Option.some.inj hu
    subst this
    exact eq_of_beq hn)) kk
theorem r_inc8 (hO : cd_O w X cc own d mc ms l) {x v : Int32} {z : Int} {a0 a1 a2 a3 a4 a5 a6 a7 : Option Value} {t : List (Option Value)} (hd : cd_D 3 cc pc (.iinc 8 z) pc') (hv : x + Int32.ofInt z = v) (hn : cd_nl a7 = true) (kk : cd_J w X k n S I pc' (a0 :: a1 :: a2 :: a3 :: a4 :: a5 :: a6 :: a7 :: some (.int v) :: t) st) : cd_J w X k n S I pc (a0 :: a1 :: a2 :: a3 :: a4 :: a5 :: a6 :: a7 :: some (.int x) :: t) st :=
  r_inc hO hd rfl hv (cd_st1_set (by simp) (fun j u hj hu => by
    have hj2 : j = 7 := by omega
    subst hj2
    have : a7 = some u := Option.some.inj hu
    subst this
    exact eq_of_beq hn)) kk
theorem r_sI9 (hO : cd_O w X cc own d mc ms l) {x : Int32} {a0 a1 a2 a3 a4 a5 a6 a7 a8 a9 : Option Value} {t : List (Option Value)} (hd : cd_D_istore cc pc 9 pc') (hn : cd_nl a8 = true) (kk : cd_J w X k n S I pc' (a0 :: a1 :: a2 :: a3 :: a4 :: a5 :: a6 :: a7 :: a8 :: some (.int x) :: t) st) : cd_J w X k n S I pc (a0 :: a1 :: a2 :: a3 :: a4 :: a5 :: a6 :: a7 :: a8 :: a9 :: t) (.int x :: st) :=
  r_storeI hO hd (cd_st1_set (by simp) (fun j u hj hu => by
    have hj2 : j = 8 := by omega
    subst hj2
    have : a8 = some u := Option.some.inj hu
    subst this
    exact eq_of_beq hn)) kk
theorem r_sA9 (hO : cd_O w X cc own d mc ms l) {x : Nat} {a0 a1 a2 a3 a4 a5 a6 a7 a8 a9 : Option Value} {t : List (Option Value)} (hd : cd_D_astore cc pc 9 pc') (hn : cd_nl a8 = true) (kk : cd_J w X k n S I pc' (a0 :: a1 :: a2 :: a3 :: a4 :: a5 :: a6 :: a7 :: a8 :: some (.ref x) :: t) st) : cd_J w X k n S I pc (a0 :: a1 :: a2 :: a3 :: a4 :: a5 :: a6 :: a7 :: a8 :: a9 :: t) (.ref x :: st) :=
  r_storeA hO hd (cd_st1_set (by simp) (fun j u hj hu => by
    have hj2 : j = 8 := by omega
    subst hj2
    have : a8 = some u := Option.some.inj hu
    subst this
    exact eq_of_beq hn)) kk
theorem r_inc9 (hO : cd_O w X cc own d mc ms l) {x v : Int32} {z : Int} {a0 a1 a2 a3 a4 a5 a6 a7 a8 : Option Value} {t : List (Option Value)} (hd : cd_D 3 cc pc (.iinc 9 z) pc') (hv : x + Int32.ofInt z = v) (hn : cd_nl a8 = true) (kk : cd_J w X k n S I pc' (a0 :: a1 :: a2 :: a3 :: a4 :: a5 :: a6 :: a7 :: a8 :: some (.int v) :: t) st) : cd_J w X k n S I pc (a0 :: a1 :: a2 :: a3 :: a4 :: a5 :: a6 :: a7 :: a8 :: some (.int x) :: t) st :=
  r_inc hO hd rfl hv (cd_st1_set (by simp) (fun j u hj hu => by
    have hj2 : j = 8 := by omega
    subst hj2
    have : a8 = some u := Option.some.inj hu
    subst this
    exact eq_of_beq hn)) kk
theorem r_sI10 (hO : cd_O w X cc own d mc ms l) {x : Int32} {a0 a1 a2 a3 a4 a5 a6 a7 a8 a9 a10 : Option Value} {t : List (Option Value)} (hd : cd_D_istore cc pc 10 pc') (hn : cd_nl a9 = true) (kk : cd_J w X k n S I pc' (a0 :: a1 :: a2 :: a3 :: a4 :: a5 :: a6 :: a7 :: a8 :: a9 :: some (.int x) :: t) st) : cd_J w X k n S I pc (a0 :: a1 :: a2 :: a3 :: a4 :: a5 :: a6 :: a7 :: a8 :: a9 :: a10 :: t) (.int x :: st) :=
  r_storeI hO hd (cd_st1_set (by simp) (fun j u hj hu => by
    have hj2 : j = 9 := by omega
    subst hj2
    have : a9 = some u := Option.some.inj hu
    subst this
    exact eq_of_beq hn)) kk
theorem r_sA10 (hO : cd_O w X cc own d mc ms l) {x : Nat} {a0 a1 a2 a3 a4 a5 a6 a7 a8 a9 a10 : Option Value} {t : List (Option Value)} (hd : cd_D_astore cc pc 10 pc') (hn : cd_nl a9 = true) (kk : cd_J w X k n S I pc' (a0 :: a1 :: a2 :: a3 :: a4 :: a5 :: a6 :: a7 :: a8 :: a9 :: some (.ref x) :: t) st) : cd_J w X k n S I pc (a0 :: a1 :: a2 :: a3 :: a4 :: a5 :: a6 :: a7 :: a8 :: a9 :: a10 :: t) (.ref x :: st) :=
  r_storeA hO hd (cd_st1_set (by simp) (fun j u hj hu => by
    have hj2 : j = 9 := by omega
    subst hj2
    have : a9 = some u := Option.some.inj hu
    subst this
    exact eq_of_beq hn)) kk
theorem r_inc10 (hO : cd_O w X cc own d mc ms l) {x v : Int32} {z : Int} {a0 a1 a2 a3 a4 a5 a6 a7 a8 a9 : Option Value} {t : List (Option Value)} (hd : cd_D 3 cc pc (.iinc 10 z) pc') (hv : x + Int32.ofInt z = v) (hn : cd_nl a9 = true) (kk : cd_J w X k n S I pc' (a0 :: a1 :: a2 :: a3 :: a4 :: a5 :: a6 :: a7 :: a8 :: a9 :: some (.int v) :: t) st) : cd_J w X k n S I pc (a0 :: a1 :: a2 :: a3 :: a4 :: a5 :: a6 :: a7 :: a8 :: a9 :: some (.int x) :: t) st :=
  r_inc hO hd rfl hv (cd_st1_set (by simp) (fun j u hj hu => by
    have hj2 : j = 9 := by omega
    subst hj2
    have : a9 = some u := Option.some.inj hu
    subst this
    exact eq_of_beq hn)) kk
theorem r_sI11 (hO : cd_O w X cc own d mc ms l) {x : Int32} {a0 a1 a2 a3 a4 a5 a6 a7 a8 a9 a10 a11 : Option Value} {t : List (Option Value)} (hd : cd_D_istore cc pc 11 pc') (hn : cd_nl a10 = true) (kk : cd_J w X k n S I pc' (a0 :: a1 :: a2 :: a3 :: a4 :: a5 :: a6 :: a7 :: a8 :: a9 :: a10 :: some (.int x) :: t) st) : cd_J w X k n S I pc (a0 :: a1 :: a2 :: a3 :: a4 :: a5 :: a6 :: a7 :: a8 :: a9 :: a10 :: a11 :: t) (.int x :: st) :=
  r_storeI hO hd (cd_st1_set (by simp) (fun j u hj hu => by
    have hj2 : j = 10 := by omega
    subst hj2
    have : a10 = some u := Option.some.inj hu
    subst this
    exact eq_of_beq hn)) kk
theorem r_sA11 (hO : cd_O w X cc own d mc ms l) {x : Nat} {a0 a1 a2 a3 a4 a5 a6 a7 a8 a9 a10 a11 : Option Value} {t : List (Option Value)} (hd : cd_D_astore cc pc 11 pc') (hn : cd_nl a10 = true) (kk : cd_J w X k n S I pc' (a0 :: a1 :: a2 :: a3 :: a4 :: a5 :: a6 :: a7 :: a8 :: a9 :: a10 :: some (.ref x) :: t) st) : cd_J w X k n S I pc (a0 :: a1 :: a2 :: a3 :: a4 :: a5 :: a6 :: a7 :: a8 :: a9 :: a10 :: a11 :: t) (.ref x :: st) :=
  r_storeA hO hd (cd_st1_set (by simp) (fun j u hj hu => by
    have hj2 : j = 10 := by omega
    subst hj2
    have : a10 = some u := Option.some.inj hu
    subst this
    exact eq_of_beq hn)) kk
theorem r_inc11 (hO : cd_O w X cc own d mc ms l) {x v : Int32} {z : Int} {a0 a1 a2 a3 a4 a5 a6 a7 a8 a9 a10 : Option Value} {t : List (Option Value)} (hd : cd_D 3 cc pc (.iinc 11 z) pc') (hv : x + Int32.ofInt z = v) (hn : cd_nl a10 = true) (kk : cd_J w X k n S I pc' (a0 :: a1 :: a2 :: a3 :: a4 :: a5 :: a6 :: a7 :: a8 :: a9 :: a10 :: some (.int v) :: t) st) : cd_J w X k n S I pc (a0 :: a1 :: a2 :: a3 :: a4 :: a5 :: a6 :: a7 :: a8 :: a9 :: a10 :: some (.int x) :: t) st :=
  r_inc hO hd rfl hv (cd_st1_set (by simp) (fun j u hj hu => by
    have hj2 : j = 10 := by omega
    subst hj2
    have : a10 = some u := Option.some.inj hu
    subst this
    exact eq_of_beq hn)) kk
theorem r_sI12 (hO : cd_O w X cc own d mc ms l) {x : Int32} {a0 a1 a2 a3 a4 a5 a6 a7 a8 a9 a10 a11 a12 : Option Value} {t : List (Option Value)} (hd : cd_D_istore cc pc 12 pc') (hn : cd_nl a11 = true) (kk : cd_J w X k n S I pc' (a0 :: a1 :: a2 :: a3 :: a4 :: a5 :: a6 :: a7 :: a8 :: a9 :: a10 :: a11 :: some (.int x) :: t) st) : cd_J w X k n S I pc (a0 :: a1 :: a2 :: a3 :: a4 :: a5 :: a6 :: a7 :: a8 :: a9 :: a10 :: a11 :: a12 :: t) (.int x :: st) :=
  r_storeI hO hd (cd_st1_set (by simp) (fun j u hj hu => by
    have hj2 : j = 11 := by omega
    subst hj2
    have : a11 = some u := Option.some.inj hu
    subst this
    exact eq_of_beq hn)) kk
theorem r_sA12 (hO : cd_O w X cc own d mc ms l) {x : Nat} {a0 a1 a2 a3 a4 a5 a6 a7 a8 a9 a10 a11 a12 : Option Value} {t : List (Option Value)} (hd : cd_D_astore cc pc 12 pc') (hn : cd_nl a11 = true) (kk : cd_J w X k n S I pc' (a0 :: a1 :: a2 :: a3 :: a4 :: a5 :: a6 :: a7 :: a8 :: a9 :: a10 :: a11 :: some (.ref x) :: t) st) : cd_J w X k n S I pc (a0 :: a1 :: a2 :: a3 :: a4 :: a5 :: a6 :: a7 :: a8 :: a9 :: a10 :: a11 :: a12 :: t) (.ref x :: st) :=
  r_storeA hO hd (cd_st1_set (by simp) (fun j u hj hu => by
    have hj2 : j = 11 := by omega
    subst hj2
    have : a11 = some u := Option.some.inj hu
    subst this
    exact eq_of_beq hn)) kk
theorem r_inc12 (hO : cd_O w X cc own d mc ms l) {x v : Int32} {z : Int} {a0 a1 a2 a3 a4 a5 a6 a7 a8 a9 a10 a11 : Option Value} {t : List (Option Value)} (hd : cd_D 3 cc pc (.iinc 12 z) pc') (hv : x + Int32.ofInt z = v) (hn : cd_nl a11 = true) (kk : cd_J w X k n S I pc' (a0 :: a1 :: a2 :: a3 :: a4 :: a5 :: a6 :: a7 :: a8 :: a9 :: a10 :: a11 :: some (.int v) :: t) st) : cd_J w X k n S I pc (a0 :: a1 :: a2 :: a3 :: a4 :: a5 :: a6 :: a7 :: a8 :: a9 :: a10 :: a11 :: some (.int x) :: t) st :=
  r_inc hO hd rfl hv (cd_st1_set (by simp) (fun j u hj hu => by
    have hj2 : j = 11 := by omega
    subst hj2
    have : a11 = some u := Option.some.inj hu
    subst this
    exact eq_of_beq hn)) kk
theorem r_sI13 (hO : cd_O w X cc own d mc ms l) {x : Int32} {a0 a1 a2 a3 a4 a5 a6 a7 a8 a9 a10 a11 a12 a13 : Option Value} {t : List (Option Value)} (hd : cd_D_istore cc pc 13 pc') (hn : cd_nl a12 = true) (kk : cd_J w X k n S I pc' (a0 :: a1 :: a2 :: a3 :: a4 :: a5 :: a6 :: a7 :: a8 :: a9 :: a10 :: a11 :: a12 :: some (.int x) :: t) st) : cd_J w X k n S I pc (a0 :: a1 :: a2 :: a3 :: a4 :: a5 :: a6 :: a7 :: a8 :: a9 :: a10 :: a11 :: a12 :: a13 :: t) (.int x :: st) :=
  r_storeI hO hd (cd_st1_set (by simp) (fun j u hj hu => by
    have hj2 : j = 12 := by omega
    subst hj2
    have : a12 = some u := Option.some.inj hu
    subst this
    exact eq_of_beq hn)) kk
theorem r_sA13 (hO : cd_O w X cc own d mc ms l) {x : Nat} {a0 a1 a2 a3 a4 a5 a6 a7 a8 a9 a10 a11 a12 a13 : Option Value} {t : List (Option Value)} (hd : cd_D_astore cc pc 13 pc') (hn : cd_nl a12 = true) (kk : cd_J w X k n S I pc' (a0 :: a1 :: a2 :: a3 :: a4 :: a5 :: a6 :: a7 :: a8 :: a9 :: a10 :: a11 :: a12 :: some (.ref x) :: t) st) : cd_J w X k n S I pc (a0 :: a1 :: a2 :: a3 :: a4 :: a5 :: a6 :: a7 :: a8 :: a9 :: a10 :: a11 :: a12 :: a13 :: t) (.ref x :: st) :=
  r_storeA hO hd (cd_st1_set (by simp) (fun j u hj hu => by
    have hj2 : j = 12 := by omega
    subst hj2
    have : a12 = some u := Option.some.inj hu
    subst this
    exact eq_of_beq hn)) kk
theorem r_inc13 (hO : cd_O w X cc own d mc ms l) {x v : Int32} {z : Int} {a0 a1 a2 a3 a4 a5 a6 a7 a8 a9 a10 a11 a12 : Option Value} {t : List (Option Value)} (hd : cd_D 3 cc pc (.iinc 13 z) pc') (hv : x + Int32.ofInt z = v) (hn : cd_nl a12 = true) (kk : cd_J w X k n S I pc' (a0 :: a1 :: a2 :: a3 :: a4 :: a5 :: a6 :: a7 :: a8 :: a9 :: a10 :: a11 :: a12 :: some (.int v) :: t) st) : cd_J w X k n S I pc (a0 :: a1 :: a2 :: a3 :: a4 :: a5 :: a6 :: a7 :: a8 :: a9 :: a10 :: a11 :: a12 :: some (.int x) :: t) st :=
  r_inc hO hd rfl hv (cd_st1_set (by simp) (fun j u hj hu => by
    have hj2 : j = 12 := by omega
    subst hj2
    have : a12 = some u := Option.some.inj hu
    subst this
    exact eq_of_beq hn)) kk
theorem r_sI14 (hO : cd_O w X cc own d mc ms l) {x : Int32} {a0 a1 a2 a3 a4 a5 a6 a7 a8 a9 a10 a11 a12 a13 a14 : Option Value} {t : List (Option Value)} (hd : cd_D_istore cc pc 14 pc') (hn : cd_nl a13 = true) (kk : cd_J w X k n S I pc' (a0 :: a1 :: a2 :: a3 :: a4 :: a5 :: a6 :: a7 :: a8 :: a9 :: a10 :: a11 :: a12 :: a13 :: some (.int x) :: t) st) : cd_J w X k n S I pc (a0 :: a1 :: a2 :: a3 :: a4 :: a5 :: a6 :: a7 :: a8 :: a9 :: a10 :: a11 :: a12 :: a13 :: a14 :: t) (.int x :: st) :=
  r_storeI hO hd (cd_st1_set (by simp) (fun j u hj hu => by
    have hj2 : j = 13 := by omega
    subst hj2
    have : a13 = some u := Option.some.inj hu
    subst this
    exact eq_of_beq hn)) kk
theorem r_sA14 (hO : cd_O w X cc own d mc ms l) {x : Nat} {a0 a1 a2 a3 a4 a5 a6 a7 a8 a9 a10 a11 a12 a13 a14 : Option Value} {t : List (Option Value)} (hd : cd_D_astore cc pc 14 pc') (hn : cd_nl a13 = true) (kk : cd_J w X k n S I pc' (a0 :: a1 :: a2 :: a3 :: a4 :: a5 :: a6 :: a7 :: a8 :: a9 :: a10 :: a11 :: a12 :: a13 :: some (.ref x) :: t) st) : cd_J w X k n S I pc (a0 :: a1 :: a2 :: a3 :: a4 :: a5 :: a6 :: a7 :: a8 :: a9 :: a10 :: a11 :: a12 :: a13 :: a14 :: t) (.ref x :: st) :=
  r_storeA hO hd (cd_st1_set (by simp) (fun j u hj hu => by
    have hj2 : j = 13 := by omega
    subst hj2
    have : a13 = some u := Option.some.inj hu
    subst this
    exact eq_of_beq hn)) kk
theorem r_inc14 (hO : cd_O w X cc own d mc ms l) {x v : Int32} {z : Int} {a0 a1 a2 a3 a4 a5 a6 a7 a8 a9 a10 a11 a12 a13 : Option Value} {t : List (Option Value)} (hd : cd_D 3 cc pc (.iinc 14 z) pc') (hv : x + Int32.ofInt z = v) (hn : cd_nl a13 = true) (kk : cd_J w X k n S I pc' (a0 :: a1 :: a2 :: a3 :: a4 :: a5 :: a6 :: a7 :: a8 :: a9 :: a10 :: a11 :: a12 :: a13 :: some (.int v) :: t) st) : cd_J w X k n S I pc (a0 :: a1 :: a2 :: a3 :: a4 :: a5 :: a6 :: a7 :: a8 :: a9 :: a10 :: a11 :: a12 :: a13 :: some (.int x) :: t) st :=
  r_inc hO hd rfl hv (cd_st1_set (by simp) (fun j u hj hu => by
    have hj2 : j = 13 := by omega
    subst hj2
    have : a13 = some u := Option.some.inj hu
    subst this
    exact eq_of_beq hn)) kk
theorem r_iadd (hO : cd_O w X cc own d mc ms l) {x y : Int32} (hd : cd_D 1 cc pc .iadd pc') (kk : cd_J w X k n S I pc' lv (.int (x + y) :: st)) : cd_J w X k n S I pc lv (.int y :: .int x :: st) := by
  intro H ls locs hR hL hq
  obtain ⟨hd, rfl⟩ := hd
  exact lv_iadd hO.1 hO.2.1 hd (kk H ls locs hR hL hq)
theorem r_isub (hO : cd_O w X cc own d mc ms l) {x y : Int32} (hd : cd_D 1 cc pc .isub pc') (kk : cd_J w X k n S I pc' lv (.int (x - y) :: st)) : cd_J w X k n S I pc lv (.int y :: .int x :: st) := by
  intro H ls locs hR hL hq
  obtain ⟨hd, rfl⟩ := hd
  exact lv_isub hO.1 hO.2.1 hd (kk H ls locs hR hL hq)
theorem r_imul (hO : cd_O w X cc own d mc ms l) {x y : Int32} (hd : cd_D 1 cc pc .imul pc') (kk : cd_J w X k n S I pc' lv (.int (x * y) :: st)) : cd_J w X k n S I pc lv (.int y :: .int x :: st) := by
  intro H ls locs hR hL hq
  obtain ⟨hd, rfl⟩ := hd
  exact lv_imul hO.1 hO.2.1 hd (kk H ls locs hR hL hq)
theorem r_iand (hO : cd_O w X cc own d mc ms l) {x y : Int32} (hd : cd_D 1 cc pc .iand pc') (kk : cd_J w X k n S I pc' lv (.int (x &&& y) :: st)) : cd_J w X k n S I pc lv (.int y :: .int x :: st) := by
  intro H ls locs hR hL hq
  obtain ⟨hd, rfl⟩ := hd
  exact lv_iand hO.1 hO.2.1 hd (kk H ls locs hR hL hq)
theorem r_ior (hO : cd_O w X cc own d mc ms l) {x y : Int32} (hd : cd_D 1 cc pc .ior pc') (kk : cd_J w X k n S I pc' lv (.int (x ||| y) :: st)) : cd_J w X k n S I pc lv (.int y :: .int x :: st) := by
  intro H ls locs hR hL hq
  obtain ⟨hd, rfl⟩ := hd
  exact lv_ior hO.1 hO.2.1 hd (kk H ls locs hR hL hq)
theorem r_ishl (hO : cd_O w X cc own d mc ms l) {x y : Int32} (hd : cd_D 1 cc pc .ishl pc') (kk : cd_J w X k n S I pc' lv (.int (x <<< (y &&& 31)) :: st)) : cd_J w X k n S I pc lv (.int y :: .int x :: st) := by
  intro H ls locs hR hL hq
  obtain ⟨hd, rfl⟩ := hd
  exact lv_ishl hO.1 hO.2.1 hd (kk H ls locs hR hL hq)
theorem r_ishr (hO : cd_O w X cc own d mc ms l) {x y : Int32} (hd : cd_D 1 cc pc .ishr pc') (kk : cd_J w X k n S I pc' lv (.int (x >>> (y &&& 31)) :: st)) : cd_J w X k n S I pc lv (.int y :: .int x :: st) := by
  intro H ls locs hR hL hq
  obtain ⟨hd, rfl⟩ := hd
  exact lv_ishr hO.1 hO.2.1 hd (kk H ls locs hR hL hq)
def cd_rem (x y : Int32) : Int32 := x - x / y * y
def cd_ush (x y : Int32) : Int32 := (x.toUInt32 >>> (y.toUInt32 &&& Int32.toUInt32 31)).toInt32
theorem r_idiv (hO : cd_O w X cc own d mc ms l) {x y : Int32} (hd : cd_D 1 cc pc .idiv pc') (hne : ¬ y = 0) (kk : cd_J w X k n S I pc' lv (.int (x / y) :: st)) : cd_J w X k n S I pc lv (.int y :: .int x :: st) := by
  intro H ls locs hR hL hq
  obtain ⟨hd, rfl⟩ := hd
  exact lv_idiv hO.1 hO.2.1 hd hne (kk H ls locs hR hL hq)
theorem r_irem (hO : cd_O w X cc own d mc ms l) {x y : Int32} (hd : cd_D 1 cc pc .irem pc') (hne : ¬ y = 0) (kk : cd_J w X k n S I pc' lv (.int (cd_rem x y) :: st)) : cd_J w X k n S I pc lv (.int y :: .int x :: st) := by
  intro H ls locs hR hL hq
  obtain ⟨hd, rfl⟩ := hd
  exact lv_irem hO.1 hO.2.1 hd hne (kk H ls locs hR hL hq)
theorem r_iushr (hO : cd_O w X cc own d mc ms l) {x y : Int32} (hd : cd_D 1 cc pc .iushr pc') (kk : cd_J w X k n S I pc' lv (.int (cd_ush x y) :: st)) : cd_J w X k n S I pc lv (.int y :: .int x :: st) := by
  intro H ls locs hR hL hq
  obtain ⟨hd, rfl⟩ := hd
  exact lv_iushr hO.1 hO.2.1 hd rfl (kk H ls locs hR hL hq)
theorem r_ineg (hO : cd_O w X cc own d mc ms l) {x : Int32} (hd : cd_D 1 cc pc .ineg pc') (kk : cd_J w X k n S I pc' lv (.int (-x) :: st)) : cd_J w X k n S I pc lv (.int x :: st) := by
  intro H ls locs hR hL hq
  obtain ⟨hd, rfl⟩ := hd
  exact lv_ineg hO.1 hO.2.1 hd (kk H ls locs hR hL hq)
theorem r_i2s (hO : cd_O w X cc own d mc ms l) {x : Int32} (hd : cd_D 1 cc pc .i2s pc') (kk : cd_J w X k n S I pc' lv (.int x.toInt16.toInt32 :: st)) : cd_J w X k n S I pc lv (.int x :: st) := by
  intro H ls locs hR hL hq
  obtain ⟨hd, rfl⟩ := hd
  exact lv_i2s hO.1 hO.2.1 hd rfl (kk H ls locs hR hL hq)
theorem r_i2b (hO : cd_O w X cc own d mc ms l) {x : Int32} (hd : cd_D 1 cc pc .i2b pc') (kk : cd_J w X k n S I pc' lv (.int x.toInt8.toInt32 :: st)) : cd_J w X k n S I pc lv (.int x :: st) := by
  intro H ls locs hR hL hq
  obtain ⟨hd, rfl⟩ := hd
  exact lv_i2b hO.1 hO.2.1 hd rfl (kk H ls locs hR hL hq)
theorem r_i2c (hO : cd_O w X cc own d mc ms l) {x : Int32} (hd : cd_D 1 cc pc .i2c pc') (kk : cd_J w X k n S I pc' lv (.int (x.toUInt32 % 65536).toInt32 :: st)) : cd_J w X k n S I pc lv (.int x :: st) := by
  intro H ls locs hR hL hq
  obtain ⟨hd, rfl⟩ := hd
  exact lv_i2c hO.1 hO.2.1 hd rfl (kk H ls locs hR hL hq)
theorem r_i2l (hO : cd_O w X cc own d mc ms l) {x : Int32} (hd : cd_D 1 cc pc .i2l pc') (kk : cd_J w X k n S I pc' lv (.long x.toInt64 :: st)) : cd_J w X k n S I pc lv (.int x :: st) := by
  intro H ls locs hR hL hq
  obtain ⟨hd, rfl⟩ := hd
  exact lv_i2l hO.1 hO.2.1 hd rfl (kk H ls locs hR hL hq)
theorem r_l2i (hO : cd_O w X cc own d mc ms l) {x : Int64} (hd : cd_D 1 cc pc .l2i pc') (kk : cd_J w X k n S I pc' lv (.int x.toInt32 :: st)) : cd_J w X k n S I pc lv (.long x :: st) := by
  intro H ls locs hR hL hq
  obtain ⟨hd, rfl⟩ := hd
  exact lv_l2i hO.1 hO.2.1 hd rfl (kk H ls locs hR hL hq)
theorem r_lneg (hO : cd_O w X cc own d mc ms l) {x : Int64} (hd : cd_D 1 cc pc .lneg pc') (kk : cd_J w X k n S I pc' lv (.long (-x) :: st)) : cd_J w X k n S I pc lv (.long x :: st) := by
  intro H ls locs hR hL hq
  obtain ⟨hd, rfl⟩ := hd
  exact lv_lneg hO.1 hO.2.1 hd (kk H ls locs hR hL hq)
theorem r_ladd (hO : cd_O w X cc own d mc ms l) {x y : Int64} (hd : cd_D 1 cc pc .ladd pc') (kk : cd_J w X k n S I pc' lv (.long (x + y) :: st)) : cd_J w X k n S I pc lv (.long y :: .long x :: st) := by
  intro H ls locs hR hL hq
  obtain ⟨hd, rfl⟩ := hd
  exact lv_ladd hO.1 hO.2.1 hd (kk H ls locs hR hL hq)
theorem r_lsub (hO : cd_O w X cc own d mc ms l) {x y : Int64} (hd : cd_D 1 cc pc .lsub pc') (kk : cd_J w X k n S I pc' lv (.long (x - y) :: st)) : cd_J w X k n S I pc lv (.long y :: .long x :: st) := by
  intro H ls locs hR hL hq
  obtain ⟨hd, rfl⟩ := hd
  exact lv_lsub hO.1 hO.2.1 hd (kk H ls locs hR hL hq)
theorem r_lcmp (hO : cd_O w X cc own d mc ms l) {x y : Int64} (hd : cd_D 1 cc pc .lcmp pc') (kk : cd_J w X k n S I pc' lv (.int (lg_cmp x y) :: st)) : cd_J w X k n S I pc lv (.long y :: .long x :: st) := by
  intro H ls locs hR hL hq
  obtain ⟨hd, rfl⟩ := hd
  exact W.lcmp hO.1 hO.2.1 hd (kk H ls locs hR hL hq)
theorem r_dup (hO : cd_O w X cc own d mc ms l) {v : Value} (hd : cd_D 1 cc pc .dup pc') (hv : v.category = 1) (kk : cd_J w X k n S I pc' lv (v :: v :: st)) : cd_J w X k n S I pc lv (v :: st) := by
  intro H ls locs hR hL hq
  obtain ⟨hd, rfl⟩ := hd
  exact lv_dup hO.1 hO.2.1 hd hv (kk H ls locs hR hL hq)
theorem r_dup2 (hO : cd_O w X cc own d mc ms l) {u v : Value} (hd : cd_D 1 cc pc .dup2 pc') (hu : u.category = 1) (hv : v.category = 1) (kk : cd_J w X k n S I pc' lv (u :: v :: u :: v :: st)) : cd_J w X k n S I pc lv (u :: v :: st) := by
  intro H ls locs hR hL hq
  obtain ⟨hd, rfl⟩ := hd
  exact lv_dup2_11 hO.1 hO.2.1 hd hu hv (kk H ls locs hR hL hq)
theorem r_pop (hO : cd_O w X cc own d mc ms l) {v : Value} (hd : cd_D 1 cc pc .pop pc') (hv : v.category = 1) (kk : cd_J w X k n S I pc' lv st) : cd_J w X k n S I pc lv (v :: st) := by
  intro H ls locs hR hL hq
  obtain ⟨hd, rfl⟩ := hd
  exact lv_pop hO.1 hO.2.1 hd hv (kk H ls locs hR hL hq)
theorem r_null (hO : cd_O w X cc own d mc ms l) (hd : cd_D 1 cc pc .aconst_null pc') (kk : cd_J w X k n S I pc' lv (.null :: st)) : cd_J w X k n S I pc lv st := by
  intro H ls locs hR hL hq
  obtain ⟨hd, rfl⟩ := hd
  exact lv_null hO.1 hO.2.1 hd (kk H ls locs hR hL hq)
theorem r_goto (hO : cd_O w X cc own d mc ms l) (hd : cd_D_goto cc pc tgt) (kk : cd_J w X k n S I tgt lv st) : cd_J w X k n S I pc lv st := by
  intro H ls locs hR hL hq
  obtain ⟨off, hd, ht⟩ := hd
  exact lv_goto hO.1 hO.2.1 hd ht (kk H ls locs hR hL hq)
def cd_bI (c : Prop) [Decidable c] : Int32 := if c then 1 else 0
theorem cd_bI0 {c : Prop} [Decidable c] : cd_bI c = 0 ↔ ¬ c := by
  unfold cd_bI
  by_cases h : c <;> simp [h]
theorem cd_bI1 {c : Prop} [Decidable c] : cd_bI c = 1 ↔ c := by
  unfold cd_bI
  by_cases h : c <;> simp [h]

theorem r_if_eq (hO : cd_O w X cc own d mc ms l) {x : Int32} (hd : cd_D_if_eq cc pc tgt pc') (kt : x = 0 → cd_J w X k n S I tgt lv st) (kf : ¬ x = 0 → cd_J w X k n S I pc' lv st) : cd_J w X k n S I pc lv (.int x :: st) := by
  intro H ls locs hR hL hq
  obtain ⟨off, hd, ht, rfl⟩ := hd
  exact lv_if_eq hO.1 hO.2.1 hd ht (fun h => kt h H ls locs hR hL hq) (fun h => kf h H ls locs hR hL hq)
theorem r_icmp_eq (hO : cd_O w X cc own d mc ms l) {x y : Int32} (hd : cd_D_icmp_eq cc pc tgt pc') (kt : x = y → cd_J w X k n S I tgt lv st) (kf : ¬ x = y → cd_J w X k n S I pc' lv st) : cd_J w X k n S I pc lv (.int y :: .int x :: st) := by
  intro H ls locs hR hL hq
  obtain ⟨off, hd, ht, rfl⟩ := hd
  exact lv_icmp_eq hO.1 hO.2.1 hd ht (fun h => kt h H ls locs hR hL hq) (fun h => kf h H ls locs hR hL hq)
theorem r_if_ne (hO : cd_O w X cc own d mc ms l) {x : Int32} (hd : cd_D_if_ne cc pc tgt pc') (kt : ¬ x = 0 → cd_J w X k n S I tgt lv st) (kf : x = 0 → cd_J w X k n S I pc' lv st) : cd_J w X k n S I pc lv (.int x :: st) := by
  intro H ls locs hR hL hq
  obtain ⟨off, hd, ht, rfl⟩ := hd
  exact lv_if_ne hO.1 hO.2.1 hd ht (fun h => kt h H ls locs hR hL hq) (fun h => kf h H ls locs hR hL hq)
theorem r_icmp_ne (hO : cd_O w X cc own d mc ms l) {x y : Int32} (hd : cd_D_icmp_ne cc pc tgt pc') (kt : ¬ x = y → cd_J w X k n S I tgt lv st) (kf : x = y → cd_J w X k n S I pc' lv st) : cd_J w X k n S I pc lv (.int y :: .int x :: st) := by
  intro H ls locs hR hL hq
  obtain ⟨off, hd, ht, rfl⟩ := hd
  exact lv_icmp_ne hO.1 hO.2.1 hd ht (fun h => kt h H ls locs hR hL hq) (fun h => kf h H ls locs hR hL hq)
theorem r_if_lt (hO : cd_O w X cc own d mc ms l) {x : Int32} (hd : cd_D_if_lt cc pc tgt pc') (kt : x < 0 → cd_J w X k n S I tgt lv st) (kf : ¬ x < 0 → cd_J w X k n S I pc' lv st) : cd_J w X k n S I pc lv (.int x :: st) := by
  intro H ls locs hR hL hq
  obtain ⟨off, hd, ht, rfl⟩ := hd
  exact lv_if_lt hO.1 hO.2.1 hd ht (fun h => kt h H ls locs hR hL hq) (fun h => kf h H ls locs hR hL hq)
theorem r_icmp_lt (hO : cd_O w X cc own d mc ms l) {x y : Int32} (hd : cd_D_icmp_lt cc pc tgt pc') (kt : x < y → cd_J w X k n S I tgt lv st) (kf : ¬ x < y → cd_J w X k n S I pc' lv st) : cd_J w X k n S I pc lv (.int y :: .int x :: st) := by
  intro H ls locs hR hL hq
  obtain ⟨off, hd, ht, rfl⟩ := hd
  exact lv_icmp_lt hO.1 hO.2.1 hd ht (fun h => kt h H ls locs hR hL hq) (fun h => kf h H ls locs hR hL hq)
theorem r_if_ge (hO : cd_O w X cc own d mc ms l) {x : Int32} (hd : cd_D_if_ge cc pc tgt pc') (kt : 0 ≤ x → cd_J w X k n S I tgt lv st) (kf : ¬ 0 ≤ x → cd_J w X k n S I pc' lv st) : cd_J w X k n S I pc lv (.int x :: st) := by
  intro H ls locs hR hL hq
  obtain ⟨off, hd, ht, rfl⟩ := hd
  exact lv_if_ge hO.1 hO.2.1 hd ht (fun h => kt h H ls locs hR hL hq) (fun h => kf h H ls locs hR hL hq)
theorem r_icmp_ge (hO : cd_O w X cc own d mc ms l) {x y : Int32} (hd : cd_D_icmp_ge cc pc tgt pc') (kt : y ≤ x → cd_J w X k n S I tgt lv st) (kf : ¬ y ≤ x → cd_J w X k n S I pc' lv st) : cd_J w X k n S I pc lv (.int y :: .int x :: st) := by
  intro H ls locs hR hL hq
  obtain ⟨off, hd, ht, rfl⟩ := hd
  exact lv_icmp_ge hO.1 hO.2.1 hd ht (fun h => kt h H ls locs hR hL hq) (fun h => kf h H ls locs hR hL hq)
theorem r_if_gt (hO : cd_O w X cc own d mc ms l) {x : Int32} (hd : cd_D_if_gt cc pc tgt pc') (kt : 0 < x → cd_J w X k n S I tgt lv st) (kf : ¬ 0 < x → cd_J w X k n S I pc' lv st) : cd_J w X k n S I pc lv (.int x :: st) := by
  intro H ls locs hR hL hq
  obtain ⟨off, hd, ht, rfl⟩ := hd
  exact lv_if_gt hO.1 hO.2.1 hd ht (fun h => kt h H ls locs hR hL hq) (fun h => kf h H ls locs hR hL hq)
theorem r_icmp_gt (hO : cd_O w X cc own d mc ms l) {x y : Int32} (hd : cd_D_icmp_gt cc pc tgt pc') (kt : y < x → cd_J w X k n S I tgt lv st) (kf : ¬ y < x → cd_J w X k n S I pc' lv st) : cd_J w X k n S I pc lv (.int y :: .int x :: st) := by
  intro H ls locs hR hL hq
  obtain ⟨off, hd, ht, rfl⟩ := hd
  exact lv_icmp_gt hO.1 hO.2.1 hd ht (fun h => kt h H ls locs hR hL hq) (fun h => kf h H ls locs hR hL hq)
theorem r_if_le (hO : cd_O w X cc own d mc ms l) {x : Int32} (hd : cd_D_if_le cc pc tgt pc') (kt : x ≤ 0 → cd_J w X k n S I tgt lv st) (kf : ¬ x ≤ 0 → cd_J w X k n S I pc' lv st) : cd_J w X k n S I pc lv (.int x :: st) := by
  intro H ls locs hR hL hq
  obtain ⟨off, hd, ht, rfl⟩ := hd
  exact lv_if_le hO.1 hO.2.1 hd ht (fun h => kt h H ls locs hR hL hq) (fun h => kf h H ls locs hR hL hq)
theorem r_icmp_le (hO : cd_O w X cc own d mc ms l) {x y : Int32} (hd : cd_D_icmp_le cc pc tgt pc') (kt : x ≤ y → cd_J w X k n S I tgt lv st) (kf : ¬ x ≤ y → cd_J w X k n S I pc' lv st) : cd_J w X k n S I pc lv (.int y :: .int x :: st) := by
  intro H ls locs hR hL hq
  obtain ⟨off, hd, ht, rfl⟩ := hd
  exact lv_icmp_le hO.1 hO.2.1 hd ht (fun h => kt h H ls locs hR hL hq) (fun h => kf h H ls locs hR hL hq)
theorem r_if_eqB (hO : cd_O w X cc own d mc ms l) {c : Prop} [Decidable c] (hd : cd_D_if_eq cc pc tgt pc') (kt : ¬ c → cd_J w X k n S I tgt lv st) (kf : c → cd_J w X k n S I pc' lv st) : cd_J w X k n S I pc lv (.int (cd_bI c) :: st) :=
  r_if_eq hO hd (fun h => kt (cd_bI0.mp h)) (fun h => kf (Decidable.byContradiction fun q => h (cd_bI0.mpr q)))
theorem r_if_neB (hO : cd_O w X cc own d mc ms l) {c : Prop} [Decidable c] (hd : cd_D_if_ne cc pc tgt pc') (kt : c → cd_J w X k n S I tgt lv st) (kf : ¬ c → cd_J w X k n S I pc' lv st) : cd_J w X k n S I pc lv (.int (cd_bI c) :: st) :=
  r_if_ne hO hd (fun h => kt (Decidable.byContradiction fun q => h (cd_bI0.mpr q))) (fun h => kf (cd_bI0.mp h))
theorem r_ifnn (hO : cd_O w X cc own d mc ms l) {x : Nat} (hd : cd_D_ifnn cc pc tgt pc') (kk : cd_J w X k n S I tgt lv st) : cd_J w X k n S I pc lv (.ref x :: st) := by
  intro H ls locs hR hL hq
  obtain ⟨off, hd, ht, rfl⟩ := hd
  exact lv_ifnonnull hO.1 hO.2.1 hd ht (kk H ls locs hR hL hq)
theorem r_ifnnN (hO : cd_O w X cc own d mc ms l) (hd : cd_D_ifnn cc pc tgt pc') (kk : cd_J w X k n S I pc' lv st) : cd_J w X k n S I pc lv (.null :: st) := by
  intro H ls locs hR hL hq
  obtain ⟨off, hd, ht, rfl⟩ := hd
  exact lv_ifnonnullN hO.1 hO.2.1 hd (kk H ls locs hR hL hq)
/-- another picture of the same locals -/
theorem r_sub {lv' : List (Option Value)} (h : lv'.length = lv.length ∧ ∀ (i : Nat) (v : Value), lv'[i]? = some (some v) → lv[i]? = some (some v)) (kk : cd_J w X k n S I pc lv' st) : cd_J w X k n S I pc lv st :=
  fun H ls locs hR hL hq => kk H ls locs hR ⟨hL.1.trans h.1.symm, hL.2.1, fun i v hv => hL.2.2 i v (h.2 i v hv)⟩ hq
theorem r_nI (a b : Nat) : nI a + nI b = nI (a + b) := nI_add a b
/-- numbers -/
theorem r_iaddN (hO : cd_O w X cc own d mc ms l) {a b : Nat} (hd : cd_D 1 cc pc .iadd pc') (kk : cd_J w X k n S I pc' lv (.int (nI (a + b)) :: st)) : cd_J w X k n S I pc lv (.int (nI b) :: .int (nI a) :: st) := r_iadd hO hd (by rw [nI_add]; exact kk)
theorem r_imulN (hO : cd_O w X cc own d mc ms l) {a b : Nat} (hd : cd_D 1 cc pc .imul pc') (kk : cd_J w X k n S I pc' lv (.int (nI (a * b)) :: st)) : cd_J w X k n S I pc lv (.int (nI b) :: .int (nI a) :: st) := r_imul hO hd (by rw [pk_mul]; exact kk)
theorem r_isubN (hO : cd_O w X cc own d mc ms l) {a b : Nat} (hd : cd_D 1 cc pc .isub pc') (h : b ≤ a) (kk : cd_J w X k n S I pc' lv (.int (nI (a - b)) :: st)) : cd_J w X k n S I pc lv (.int (nI b) :: .int (nI a) :: st) := r_isub hO hd (by rw [pk_sub h]; exact kk)
theorem r_iremN (hO : cd_O w X cc own d mc ms l) {a b : Nat} (hd : cd_D 1 cc pc .irem pc') (ha : a < 2 ^ 31) (h0 : 0 < b) (hb : b < 2 ^ 31) (kk : cd_J w X k n S I pc' lv (.int (nI (a % b)) :: st)) : cd_J w X k n S I pc lv (.int (nI b) :: .int (nI a) :: st) := r_irem hO hd (nI_ne0 h0 hb) (by unfold cd_rem; rw [pk_rem ha h0 hb]; exact kk)
theorem r_idivN (hO : cd_O w X cc own d mc ms l) {a b : Nat} (hd : cd_D 1 cc pc .idiv pc') (ha : a < 2 ^ 31) (h0 : 0 < b) (hb : b < 2 ^ 31) (kk : cd_J w X k n S I pc' lv (.int (nI (a / b)) :: st)) : cd_J w X k n S I pc lv (.int (nI b) :: .int (nI a) :: st) := r_idiv hO hd (nI_ne0 h0 hb) (by rw [pk_div ha h0 hb]; exact kk)
theorem r_tops {x y : Int32} (h : x = y) (kk : cd_J w X k n S I pc lv (.int y :: st)) : cd_J w X k n S I pc lv (.int x :: st) := h ▸ kk
theorem r_mem {I' : cd_Mem} (h : I = I') (kk : cd_J w X k n S I' pc lv st) : cd_J w X k n S I pc lv st := h ▸ kk
/-- fields -/
def cd_CI (c : Nat) (C : String) (T : u_T) (N : Nat) (ty : Nat → FieldType) : Prop := cd_cls[c]? = some (C, T, N) ∧ (∀ q ∈ u_ws C T N, q ∈ cd_ws) ∧ (∀ k, k < N → parseFieldDescriptor (T k).2.2.1 = some (ty k)) ∧ ∀ a, a < N → ∀ b, b < N → a ≠ b → (T a).2.1 ≠ (T b).2.1
/-- a field of class c, at place k, of a type, final or not, by its link -/
def cd_F (own : String) (idx c k : Nat) (ty : FieldType) (fin : Bool) : Prop := ∃ (C : String) (T : u_T) (N : Nat) (tys : Nat → FieldType), cd_CI c C T N tys ∧ k < N ∧ Cond.fieldLink own idx (T k).1 (T k).2.1 (T k).2.2.1 ∈ cd_ws ∧ tys k = ty ∧ (T k).2.2.2 = fin ∧ (T k).1 = C
theorem r_get (hO : cd_O w X cc own d mc ms l) {idx c j a : Nat} {ty : FieldType} {fin : Bool} (hf : cd_F own idx c j ty fin) (hs : S.2.1 a = (1, c)) (hd : cd_D 3 cc pc (.getfield idx) pc') (kk : cd_J w X k n S I pc' lv (cd_ov c j (I a j) (S.2.2 a j) :: st)) : cd_J w X k n S I pc lv (.ref a :: st) := by
  intro H ls locs hR hL hq
  obtain ⟨hd, rfl⟩ := hd
  obtain ⟨C, T, N, tys, ⟨hc, hin, hty, hnm⟩, hk, hl, -⟩ := hf
  obtain ⟨q, h1, cell, q1, q2, q3, q4⟩ := cd_obj hR hs
  have hr : q = (C, T, N) := Option.some.inj (h1.symm.trans hc)
  subst hr
  obtain ⟨hS, hfc, kC, hkC, hkind⟩ := hO.2.2.2.2.1.1.1 c _ hc
  obtain ⟨cf, kf, fi, f, hi, hsl⟩ := hS j hk
  refine W.getf hO.1 hO.2.1 hO.2.2.1 (hO.2.2.2.1 _ hl) hi (u_facts hfc hkC (u_lays hO.2.2.2.1 hin hk) hi).1 q1 (by rw [q3]; exact fun h => by cases h) (v := cd_ov c j (I a j) (S.2.2 a j)) ?_ rfl rfl hd (kk H ls locs hR hL hq)
  rw [hsl, q4 j hk]
theorem r_getI (hO : cd_O w X cc own d mc ms l) {idx c j a : Nat} {ty : FieldType} {fin : Bool} (hf : cd_F own idx c j ty fin) (hr : cd_isR c j = false) (hs : S.2.1 a = (1, c)) (hd : cd_D 3 cc pc (.getfield idx) pc') (kk : cd_J w X k n S I pc' lv (.int (I a j) :: st)) : cd_J w X k n S I pc lv (.ref a :: st) :=
  r_get hO hf hs hd (by unfold cd_ov; rw [hr]; exact kk)
theorem r_getR (hO : cd_O w X cc own d mc ms l) {idx c j a b : Nat} {ty : FieldType} {fin : Bool} (hf : cd_F own idx c j ty fin) (hr : cd_isR c j = true) (hs : S.2.1 a = (1, c)) (hv : S.2.2 a j = some b) (hd : cd_D 3 cc pc (.getfield idx) pc') (kk : cd_J w X k n S I pc' lv (.ref b :: st)) : cd_J w X k n S I pc lv (.ref a :: st) :=
  r_get hO hf hs hd (by unfold cd_ov; rw [hr, hv]; exact kk)
theorem cd_put {H H' : Heap} {a c j : Nat} {v : Value} {C : String} {T : u_T} {N : Nat} {tys : Nat → FieldType} {s : State} {args : Array Value} {I' : cd_Mem} {S' : cd_Sp} {cell : Cell} (hR : cd_R w S I H) (hs : S.2.1 a = (1, c)) (hci : cd_CI c C T N tys) (hts : ∀ q ∈ cd_ws, q.before args s = true) (hK : va_K w.2.2.1 cd_cls (cd_tys w) s) (hk : j < N) (hcell : H[a]? = some cell)
    (hsz : S'.1 = S.1) (hsh : S'.2.1 = S.2.1) (hoI : ∀ b, b ≠ a → I' b = I b) (hoR : ∀ b, b ≠ a → S'.2.2 b = S.2.2 b) (hnew : ∀ i, i < N → cd_ov c i (I' a i) (S'.2.2 a i) = updV (fun i => cd_ov c i (I a i) (S.2.2 a i)) j v i)
    (ha : w.1 ≤ a) (e1 : H'[a]? = some (cell.setSlot (w.2.2.1.2 c j) v)) (e2 : H'.size = H.size) (e3 : ∀ q, q ≠ a → H'[q]? = H[q]?) : cd_R w S' I' H' := by
  obtain ⟨hc, hin, hty, hnm⟩ := hci
  have hap := va_apart (own := C) hts hin tys hty hnm hK hc
  refine ⟨fun b => ?_, by rw [e2, hsz]; exact hR.2.1, fun q hq => (e3 q (by omega)).trans (hR.2.2 q hq)⟩
  by_cases hb : b = a
  · subst hb
    obtain ⟨q, h1, cell2, q1, q2, q3, q4⟩ := cd_obj hR hs
    have hr : q = (C, T, N) := Option.some.inj (h1.symm.trans hc)
    subst hr
    have : cell2 = cell := Option.some.inj (q1.symm.trans hcell)
    subst this
    unfold cd_cell
    rw [hsh, hs]
    exact ⟨_, hc, t_OB.to (V := updV (fun i => cd_ov c i (I b i) (S.2.2 b i)) j v) ⟨_, e1, q2, q3, t_set q4 hap hk v⟩ (fun i hi => (hnew i hi).symm)⟩
  · exact cd_cell_kept (hR.1 b) (by rw [hsh]) (hoR b hb) (hoI b hb) (fun _ => e3 b hb)
theorem r_put (hO : cd_O w X cc own d mc ms l) {idx c j a : Nat} {ty : FieldType} {v : Value} {S' : cd_Sp} {I' : cd_Mem} (hf : cd_F own idx c j ty false) (hs : S.2.1 a = (1, c)) (ha : w.1 ≤ a) (hn : narrow ty v = v) (hfit : fits ty v = true)
    (hsz : S'.1 = S.1) (hsh : S'.2.1 = S.2.1) (hoI : ∀ b, b ≠ a → I' b = I b) (hoR : ∀ b, b ≠ a → S'.2.2 b = S.2.2 b) (hnew : ∀ i, cd_ov c i (I' a i) (S'.2.2 a i) = updV (fun i => cd_ov c i (I a i) (S.2.2 a i)) j v i) (hd : cd_D 3 cc pc (.putfield idx) pc') (kk : cd_J w X k n S' I' pc' lv st) : cd_J w X k n S I pc lv (v :: .ref a :: st) := by
  intro H ls locs hR hL hq
  obtain ⟨hd, rfl⟩ := hd
  obtain ⟨C, T, N, tys, hci, hk, hl, rfl, hfin, hC⟩ := hf
  obtain ⟨hc, hin, hty, hnm⟩ := id hci
  obtain ⟨q, h1, cell, q1, q2, q3, q4⟩ := cd_obj hR hs
  have hr : q = (C, T, N) := Option.some.inj (h1.symm.trans hc)
  subst hr
  obtain ⟨hS, hfc, kC, hkC, hkind⟩ := hO.2.2.2.2.1.1.1 c _ hc
  obtain ⟨cf, kf, fi, f, hi, hsl⟩ := hS j hk
  have hlay := hO.2.2.2.1 _ (hin _ (u_in_lay hk))
  unfold u_lay at hlay
  rw [if_neg (by rw [hfin]; decide)] at hlay
  have hst := (u_facts hfc hkC (u_lays hO.2.2.2.1 hin hk) hi).1
  have h6 := u_store hfc hkC hkind hlay hi (hty j hk) hn hfit
  refine W.putK hO.1 hO.2.1 (f := f) ⟨hO.2.2.1, hO.2.2.2.1 _ hl, ⟨_, _, _, hi⟩, hst⟩ (by rw [q2]; exact h6) q1 q3 (by rw [hsl]; exact k2_hasslot (q4 j hk)) rfl rfl hd fun H' e1 e2 e3 => ?_
  rw [hsl] at e1 ⊢
  exact kk H' ls _ (cd_put hR hs hci hO.2.2.2.1 hO.2.2.2.2.1.1 hk q1 hsz hsh hoI hoR (fun i _ => hnew i) ha e1 e2 e3) hL (fun q hq2 => (List.mem_append.mp hq2).elim (hq q) (fun h => by rw [List.mem_singleton.mp h]; exact ha))
theorem cd_new_I {c j a : Nat} (v : Int32) (hr : cd_isR c j = false) (i : Nat) : cd_ov c i (cd_set I a (upd (I a) j v) a i) (S.2.2 a i) = updV (fun i => cd_ov c i (I a i) (S.2.2 a i)) j (.int v) i := by
  rw [cd_set_eq]
  by_cases h : i = j
  · subst h
    simp [updV, upd, cd_ov, hr]
  · simp [updV, upd, h]
theorem r_putI (hO : cd_O w X cc own d mc ms l) {idx c j a : Nat} {v : Int32} (hf : cd_F own idx c j .int false) (hr : cd_isR c j = false) (hs : S.2.1 a = (1, c)) (ha : w.1 ≤ a) (hd : cd_D 3 cc pc (.putfield idx) pc') (kk : cd_J w X k n S (cd_set I a (upd (I a) j v)) pc' lv st) : cd_J w X k n S I pc lv (.int v :: .ref a :: st) :=
  r_put hO hf hs ha rfl rfl rfl rfl (fun b hb => cd_set_ne _ _ hb) (fun _ _ => rfl) (cd_new_I v hr) hd kk
theorem r_putZ (hO : cd_O w X cc own d mc ms l) {idx c j a : Nat} (hf : cd_F own idx c j .boolean false) (hr : cd_isR c j = false) (hs : S.2.1 a = (1, c)) (ha : w.1 ≤ a) (v : Int32) (hv : v = 0 ∨ v = 1) (hd : cd_D 3 cc pc (.putfield idx) pc') (kk : cd_J w X k n S (cd_set I a (upd (I a) j v)) pc' lv st) : cd_J w X k n S I pc lv (.int v :: .ref a :: st) :=
  r_put hO hf hs ha (by rcases hv with rfl | rfl <;> rfl) (by rcases hv with rfl | rfl <;> rfl) rfl rfl (fun b hb => cd_set_ne _ _ hb) (fun _ _ => rfl) (cd_new_I v hr) hd kk
/-- arrays -/

theorem r_iald (hO : cd_O w X cc own d mc ms l) {a j N : Nat} (hs : S.2.1 a = (2, N)) (hj : j < N) (hN : N < 2 ^ 31) (hd : cd_D 1 cc pc .iaload pc') (kk : cd_J w X k n S I pc' lv (.int (I a j) :: st)) : cd_J w X k n S I pc lv (.int (nI j) :: .ref a :: st) := by
  intro H ls locs hR hL hq
  obtain ⟨hd, rfl⟩ := hd
  have hA := (hO.2.2.2.2.1.1.2 0 _ (cd_tys_at w (by decide : 0 < 8))).1
  exact W.iald (v := .int (I a j)) hO.1 hO.2.1 (cd_arr (t := 0) hR hs) (hA _ _) (fun q => by cases q) (by rw [arrV_size]; exact nI_in hj hN) (by rw [nI_clamp (by omega), arrV_read _ _ hj]; rfl) rfl rfl hd (kk H ls locs hR hL hq)
theorem r_bald (hO : cd_O w X cc own d mc ms l) {a j N : Nat} (hs : S.2.1 a = (3, N)) (hj : j < N) (hN : N < 2 ^ 31) (hd : cd_D 1 cc pc .baload pc') (kk : cd_J w X k n S I pc' lv (.int (I a j) :: st)) : cd_J w X k n S I pc lv (.int (nI j) :: .ref a :: st) := by
  intro H ls locs hR hL hq
  obtain ⟨hd, rfl⟩ := hd
  have hA := (hO.2.2.2.2.1.1.2 1 _ (cd_tys_at w (by decide : 1 < 8))).1
  exact W.bald (v := .int (I a j)) hO.1 hO.2.1 (cd_arr (t := 1) hR hs) (hA _ _) (fun q => by cases q) (by rw [arrV_size]; exact nI_in hj hN) (by rw [nI_clamp (by omega), arrV_read _ _ hj]; rfl) rfl rfl hd (kk H ls locs hR hL hq)
theorem r_zald (hO : cd_O w X cc own d mc ms l) {a j N : Nat} (hs : S.2.1 a = (5, N)) (hj : j < N) (hN : N < 2 ^ 31) (hd : cd_D 1 cc pc .baload pc') (kk : cd_J w X k n S I pc' lv (.int (I a j) :: st)) : cd_J w X k n S I pc lv (.int (nI j) :: .ref a :: st) := by
  intro H ls locs hR hL hq
  obtain ⟨hd, rfl⟩ := hd
  have hA := (hO.2.2.2.2.1.1.2 3 _ (cd_tys_at w (by decide : 3 < 8))).1
  exact W.zald (v := .int (I a j)) hO.1 hO.2.1 (cd_arr (t := 3) hR hs) (hA _ _) (fun q => by cases q) (by rw [arrV_size]; exact nI_in hj hN) (by rw [nI_clamp (by omega), arrV_read _ _ hj]; rfl) rfl rfl hd (kk H ls locs hR hL hq)
theorem r_cald (hO : cd_O w X cc own d mc ms l) {a j N : Nat} (hs : S.2.1 a = (4, N)) (hj : j < N) (hN : N < 2 ^ 31) (hd : cd_D 1 cc pc .caload pc') (kk : cd_J w X k n S I pc' lv (.int (I a j) :: st)) : cd_J w X k n S I pc lv (.int (nI j) :: .ref a :: st) := by
  intro H ls locs hR hL hq
  obtain ⟨hd, rfl⟩ := hd
  have hA := (hO.2.2.2.2.1.1.2 2 _ (cd_tys_at w (by decide : 2 < 8))).1
  exact W.cald (v := .int (I a j)) hO.1 hO.2.1 (cd_arr (t := 2) hR hs) (hA _ _) (fun q => by cases q) (by rw [arrV_size]; exact nI_in hj hN) (by rw [nI_clamp (by omega), arrV_read _ _ hj]; rfl) rfl rfl hd (kk H ls locs hR hL hq)
theorem r_aald (hO : cd_O w X cc own d mc ms l) {a j N t b : Nat} (hs : S.2.1 a = (t + 2, N)) (ht : t < 8) (ht4 : 4 ≤ t) (hj : j < N) (hN : N < 2 ^ 31) (hv : S.2.2 a j = some b) (hd : cd_D 1 cc pc .aaload pc') (kk : cd_J w X k n S I pc' lv (.ref b :: st)) : cd_J w X k n S I pc lv (.int (nI j) :: .ref a :: st) := by
  intro H ls locs hR hL hq
  obtain ⟨hd, rfl⟩ := hd
  have hA := (hO.2.2.2.2.1.1.2 t _ (cd_tys_at w ht)).1
  have hav : ∀ i r, cd_av t i r = va_rf r := by
    intro i r
    match t, ht, ht4 with
    | 4, _, _ => rfl
    | 5, _, _ => rfl
    | 6, _, _ => rfl
    | 7, _, _ => rfl
  exact W.aald (v := .ref b) (ty := cd_aty t) hO.1 hO.2.1 (cd_arr hR hs) (hA _ _) (by
    match t, ht, ht4 with
    | 4, _, _ => rfl
    | 5, _, _ => rfl
    | 6, _, _ => rfl
    | 7, _, _ => rfl) (fun q => by cases q) (by rw [arrV_size]; exact nI_in hj hN) (by rw [nI_clamp (by omega), arrV_read _ _ hj, hav, hv]; rfl) rfl rfl hd (kk H ls locs hR hL hq)
theorem r_alen (hO : cd_O w X cc own d mc ms l) {a N t : Nat} (hs : S.2.1 a = (t + 2, N)) (ht : t < 8) (hd : cd_D 1 cc pc .arraylength pc') (kk : cd_J w X k n S I pc' lv (.int (nI N) :: st)) : cd_J w X k n S I pc lv (.ref a :: st) := by
  intro H ls locs hR hL hq
  obtain ⟨hd, rfl⟩ := hd
  have hA := (hO.2.2.2.2.1.1.2 t _ (cd_tys_at w ht)).1
  exact W.alen hO.1 hO.2.1 (cd_arr hR hs) (hA _ _) (by rw [arrV_size]; rfl) rfl rfl hd (kk H ls locs hR hL hq)
theorem cd_stored {H H' : Heap} {a t N j : Nat} {v : Value} {x : Int32} (hR : cd_R w S I H) (hs : S.2.1 a = (t + 2, N)) (ht : t < 4) (hv : v = .int x) (ha : w.1 ≤ a)
    (e1 : H'[a]? = some ((arrV (w.2.2.2.1 t) N (fun j => cd_av t (I a j) (S.2.2 a j))).setSlot j v)) (e2 : H'.size = H.size) (e3 : ∀ q, q ≠ a → H'[q]? = H[q]?) : cd_R w S (cd_set I a (upd (I a) j x)) H' := by
  have hav : ∀ i r, cd_av t i r = .int i := by
    intro i r
    match t, ht with
    | 0, _ => rfl
    | 1, _ => rfl
    | 2, _ => rfl
    | 3, _ => rfl
  refine ⟨fun b => ?_, by rw [e2]; exact hR.2.1, fun q hq => (e3 q (by omega)).trans (hR.2.2 q hq)⟩
  by_cases hb : b = a
  · subst hb
    unfold cd_cell
    rw [hs, cd_set_eq]
    show H'[b]? = _
    rw [e1, arrV_store, hv]
    congr 2
    funext i
    by_cases hi : i = j
    · subst hi
      simp [updV, upd, hav]
    · simp [updV, upd, hi]
  · exact cd_cell_kept (hR.1 b) rfl rfl (cd_set_ne _ _ hb) (fun _ => e3 b hb)

theorem r_iast (hO : cd_O w X cc own d mc ms l) {a j N : Nat} {x : Int32} (hs : S.2.1 a = (2, N)) (ha : w.1 ≤ a) (hj : j < N) (hN : N < 2 ^ 31) (hd : cd_D 1 cc pc .iastore pc') (kk : cd_J w X k n S (cd_set I a (upd (I a) j x)) pc' lv st) : cd_J w X k n S I pc lv (.int x :: .int (nI j) :: .ref a :: st) := by
  intro H ls locs hR hL hq
  obtain ⟨hd, rfl⟩ := hd
  have hA := (hO.2.2.2.2.1.1.2 0 _ (cd_tys_at w (by decide : 0 < 8))).1
  refine W.iast hO.1 hO.2.1 (cd_arr (t := 0) hR hs) (hA _ _) (fun q => by cases q) (by rw [arrV_size]; exact nI_in hj hN) rfl rfl hd fun H1 e z oq => ?_
  rw [nI_clamp (by omega)] at e ⊢
  exact kk H1 ls _ (cd_stored hR hs (by decide) (by rfl) ha e z oq) hL (fun q hq2 => (List.mem_append.mp hq2).elim (hq q) (fun h => by rw [List.mem_singleton.mp h]; exact ha))
theorem r_bast (hO : cd_O w X cc own d mc ms l) {a j N : Nat} {x : Int32} (hs : S.2.1 a = (3, N)) (ha : w.1 ≤ a) (hj : j < N) (hN : N < 2 ^ 31) (hd : cd_D 1 cc pc .bastore pc') (kk : cd_J w X k n S (cd_set I a (upd (I a) j x.toInt8.toInt32)) pc' lv st) : cd_J w X k n S I pc lv (.int x :: .int (nI j) :: .ref a :: st) := by
  intro H ls locs hR hL hq
  obtain ⟨hd, rfl⟩ := hd
  have hA := (hO.2.2.2.2.1.1.2 1 _ (cd_tys_at w (by decide : 1 < 8))).1
  refine W.bast hO.1 hO.2.1 (cd_arr (t := 1) hR hs) (hA _ _) (fun q => by cases q) (by rw [arrV_size]; exact nI_in hj hN) rfl rfl hd fun H1 e z oq => ?_
  rw [nI_clamp (by omega)] at e ⊢
  exact kk H1 ls _ (cd_stored hR hs (by decide) (by rfl) ha e z oq) hL (fun q hq2 => (List.mem_append.mp hq2).elim (hq q) (fun h => by rw [List.mem_singleton.mp h]; exact ha))
theorem r_cast (hO : cd_O w X cc own d mc ms l) {a j N : Nat} {x : Int32} (hs : S.2.1 a = (4, N)) (ha : w.1 ≤ a) (hj : j < N) (hN : N < 2 ^ 31) (hd : cd_D 1 cc pc .castore pc') (kk : cd_J w X k n S (cd_set I a (upd (I a) j (vp_nar .char x))) pc' lv st) : cd_J w X k n S I pc lv (.int x :: .int (nI j) :: .ref a :: st) := by
  intro H ls locs hR hL hq
  obtain ⟨hd, rfl⟩ := hd
  have hA := (hO.2.2.2.2.1.1.2 2 _ (cd_tys_at w (by decide : 2 < 8))).1
  refine W.cast hO.1 hO.2.1 (cd_arr (t := 2) hR hs) (hA _ _) (fun q => by cases q) (by rw [arrV_size]; exact nI_in hj hN) rfl rfl hd fun H1 e z oq => ?_
  rw [nI_clamp (by omega)] at e ⊢
  exact kk H1 ls _ (cd_stored hR hs (by decide) (by rfl) ha e z oq) hL (fun q hq2 => (List.mem_append.mp hq2).elim (hq q) (fun h => by rw [List.mem_singleton.mp h]; exact ha))
theorem r_zast (hO : cd_O w X cc own d mc ms l) {a j N : Nat} {x : Int32} (hs : S.2.1 a = (5, N)) (ha : w.1 ≤ a) (hj : j < N) (hN : N < 2 ^ 31) (hd : cd_D 1 cc pc .bastore pc') (kk : cd_J w X k n S (cd_set I a (upd (I a) j (vp_nar .boolean x))) pc' lv st) : cd_J w X k n S I pc lv (.int x :: .int (nI j) :: .ref a :: st) := by
  intro H ls locs hR hL hq
  obtain ⟨hd, rfl⟩ := hd
  have hA := (hO.2.2.2.2.1.1.2 3 _ (cd_tys_at w (by decide : 3 < 8))).1
  refine W.zast hO.1 hO.2.1 (cd_arr (t := 3) hR hs) (hA _ _) (fun q => by cases q) (by rw [arrV_size]; exact nI_in hj hN) rfl rfl hd fun H1 e z oq => ?_
  rw [nI_clamp (by omega)] at e ⊢
  exact kk H1 ls _ (cd_stored hR hs (by decide) (by rfl) ha e z oq) hL (fun q hq2 => (List.mem_append.mp hq2).elim (hq q) (fun h => by rw [List.mem_singleton.mp h]; exact ha))
end CDR
end
section
section CDS
variable {l : Launch} {w : cd_WT} {X : cd_XT} {cc : ByteArray} {own : String} {d mc ms : Nat} {k n : Nat} {S : cd_Sp} {I : cd_Mem} {pc pc' tgt : Nat} {lv : List (Option Value)} {st : List Value} {nL : Nat} {rt : Option FieldType} {nm : String} {post : cd_Pt}
/-- the ends -/
theorem r_iret (hO : cd_O w X cc own d mc ms l) (hE : cd_E w X nL (some .int) mc ms nm post) {v : Int32} (hk : k ≤ mc) (hn : n ≤ ms) (hd : cd_D 1 cc pc .ireturn pc') (hp : post (some (.int v)) S I) : cd_J w X k n S I pc lv [.int v] := by
  intro H ls locs hR hL hq
  rw [hE.2.2.2.2]
  refine W.widen hk hn ?_
  exact W.iret hO.1 hO.2.1 hE.2.1 (fun t ht _ => ⟨_, S, I, rfl, hp, by rw [ht]; exact hR⟩) hq hd.1 hE.2.2.1
theorem r_zret (hO : cd_O w X cc own d mc ms l) (hE : cd_E w X nL (some .boolean) mc ms nm post) {v : Int32} (hv : v = 0 ∨ v = 1) (hk : k ≤ mc) (hn : n ≤ ms) (hd : cd_D 1 cc pc .ireturn pc') (hp : post (some (.int v)) S I) : cd_J w X k n S I pc lv [.int v] := by
  intro H ls locs hR hL hq
  rw [hE.2.2.2.2]
  refine W.widen hk hn ?_
  exact W.zret hO.1 hO.2.1 hE.2.1 (by rcases hv with rfl | rfl <;> rfl) (fun t ht _ => ⟨_, S, I, rfl, hp, by rw [ht]; exact hR⟩) hq hd.1 hE.2.2.1
theorem r_vret (hO : cd_O w X cc own d mc ms l) (hE : cd_E w X nL none mc ms nm post) (hk : k ≤ mc) (hn : n ≤ ms) (hd : cd_D 1 cc pc .return_ pc') (hp : post none S I) : cd_J w X k n S I pc lv [] := by
  intro H ls locs hR hL hq
  rw [hE.2.2.2.2]
  refine W.widen hk hn ?_
  exact W.vret hO.1 hO.2.1 hE.2.1 (fun t ht _ => ⟨_, S, I, rfl, hp, by rw [ht]; exact hR⟩) hq hd.1 hE.2.2.1
theorem r_lret (hO : cd_O w X cc own d mc ms l) (hE : cd_E w X nL (some .long) mc ms nm post) {v : Int64} (hk : k ≤ mc) (hn : n ≤ ms) (hd : cd_D 1 cc pc .lreturn pc') (hp : post (some (.long v)) S I) : cd_J w X k n S I pc lv [.long v] := by
  intro H ls locs hR hL hq
  rw [hE.2.2.2.2]
  refine W.widen hk hn ?_
  exact W.lret hO.1 hO.2.1 hE.2.1 (fun t ht _ => ⟨_, S, I, rfl, hp, by rw [ht]; exact hR⟩) hq hd.1 hE.2.2.1
theorem r_aret (hO : cd_O w X cc own d mc ms l) {C : String} (hE : cd_E w X nL (some (.object C)) mc ms nm post) {v : Nat} (hk : k ≤ mc) (hn : n ≤ ms) (hd : cd_D 1 cc pc .areturn pc') (hp : post (some (.ref v)) S I) : cd_J w X k n S I pc lv [.ref v] := by
  intro H ls locs hR hL hq
  rw [hE.2.2.2.2]
  refine W.widen hk hn ?_
  exact W.aret hO.1 hO.2.1 hE.2.1 (Or.inl ⟨_, rfl⟩) (Or.inr ⟨_, rfl⟩) (fun t ht _ => ⟨_, S, I, rfl, hp, by rw [ht]; exact hR⟩) hq hd.1 hE.2.2.1
theorem r_aretN (hO : cd_O w X cc own d mc ms l) {C : String} (hE : cd_E w X nL (some (.object C)) mc ms nm post) (hk : k ≤ mc) (hn : n ≤ ms) (hd : cd_D 1 cc pc .areturn pc') (hp : post (some .null) S I) : cd_J w X k n S I pc lv [.null] := by
  intro H ls locs hR hL hq
  rw [hE.2.2.2.2]
  refine W.widen hk hn ?_
  exact W.aret hO.1 hO.2.1 hE.2.1 (Or.inl ⟨_, rfl⟩) (Or.inl rfl) (fun t ht _ => ⟨_, S, I, rfl, hp, by rw [ht]; exact hR⟩) hq hd.1 hE.2.2.1
/-- calls: a method's words -/
def cd_M (m : cd_MT) (np : Nat) : Prop := Cond.code m.1 m.2.1 m.2.2.1 m.2.2.2 ∈ cd_ws ∧ Cond.initialized m.1.cls ∈ cd_ws ∧ (m.1.cls ≠ "java/lang/invoke/MethodHandle" ∧ m.1.cls ≠ "java/lang/invoke/VarHandle" ∧ (parseMethodDescriptor m.1.desc).map (fun q => q.parameters.length) = some np) ∧ m.2.2.1 ≤ 22
def cd_MV (m : cd_MT) (np : Nat) : Prop := cd_M m np ∧ Cond.instanceMethod m.1 ∈ cd_ws ∧ Cond.selects m.1.cls m.1 m.1 ∈ cd_ws
def cd_MS (m : cd_MT) (np : Nat) : Prop := cd_M m np ∧ Cond.static m.1 ∈ cd_ws
def cd_MI (m : cd_MT) (np : Nat) : Prop := cd_M m np ∧ m.1.name = "<init>" ∧ Cond.instanceMethod m.1 ∈ cd_ws ∧ m.2.2.2 = none
theorem cd_goodIn {m : cd_MT} (h : Cond.code m.1 m.2.1 m.2.2.1 m.2.2.2 ∈ cd_ws) : GoodIn cd_ws (Cond.code m.1 m.2.1 m.2.2.1 m.2.2.2 :: cd_ws) := by
  intro q hq
  rcases List.mem_cons.mp hq with rfl | hq
  · exact ⟨h, cd_good _ h⟩
  · exact ⟨hq, cd_good _ hq⟩
theorem cd_blind {av : List Value} {S : cd_Sp} {I : cd_Mem} : FrameBlind (va_Pc av (fun U => cd_R w S I U.heap ∧ cd_K w U)) := fun _ _ _ _ q => ⟨q.1, q.2.1, q.2.2.same rfl⟩
theorem cd_callB (hO : cd_O w X cc own d mc ms l) {m : cd_MT} {np d' mc' ms' index : Nat} (hm : cd_M m np) (hlk : Cond.methodLink own index m.1 ∈ cd_ws) (hdd : d' + 1 ≤ d) : CallB X.2.2.2.1 X.2.2.2.2.1 X.2.2.2.2.2.2.1 own index m.1 m.2.1 m.2.2.1 m.2.2.2 (Cond.code m.1 m.2.1 m.2.2.1 m.2.2.2 :: cd_ws) (cd_rm d' mc' ms') mc' ms' np := by
  obtain ⟨h1, h2, h3, h4⟩ := hm
  have hf := hO.2.2.2.2.2.1
  have hl := hO.2.2.2.2.2.2.1
  exact callB_of np hO.2.2.2.1 (cd_goodIn h1) rfl rfl rfl (hO.2.2.2.1 _ h2) (hO.2.2.2.1 _ hlk) h3 ⟨Nat.le_trans hdd hf, by show 8 + (m.2.2.1 + 11) + 41 * d' ≤ _; omega⟩
theorem cd_after {H : Heap} {ls : Array Slot} {locs : List Loc} {mc' ms' : Nat} {a : Array Value} {rest st0 : List Value} {post' : cd_Pt} (hR : cd_R w S I H) (hL : cd_L ls lv) (hq : ∀ q ∈ locs, w.1 ≤ q.base)
    (hr : va_Run X.1 X.2.1 X.2.2.1 X.2.2.2.1 X.2.2.2.2.1 X.2.2.2.2.2.1 X.2.2.2.2.2.2.1 X.2.2.2.2.2.2.2.1 X.2.2.2.2.2.2.2.2.1 X.2.2.2.2.2.2.2.2.2.1 H locs k n mc' ms' (F0 X.2.2.2.2.2.1 pc ls st0) rest ((fun _ _ o t => ∃ (r : Option Value) (S' : cd_Sp) (I' : cd_Mem), o = .returned r ∧ post' r S' I' ∧ cd_R w S' I' t.heap) a) (fun q => w.1 ≤ q))
    (kk : ∀ (r : Option Value) (S' : cd_Sp) (I' : cd_Mem), post' r S' I' → cd_J w X (k + mc') (n + ms') S' I' (pc + 3) lv (r.toList ++ rest)) :
    W X.1 X.2.1 X.2.2.1 X.2.2.2.1 X.2.2.2.2.1 X.2.2.2.2.2.1 X.2.2.2.2.2.2.1 X.2.2.2.2.2.2.2.1 X.2.2.2.2.2.2.2.2.1 X.2.2.2.2.2.2.2.2.2.1 H locs k n X.2.2.2.2.2.2.2.2.2.2 (F0 X.2.2.2.2.2.1 pc ls st0) := by
  intro T hT Y
  obtain ⟨v, st₀, t, T', L, h0, Y', hL', e1, e2, ⟨r, S', I', hv, hp, hR'⟩, go⟩ := hr T hT Y
  cases hv
  obtain ⟨t2, a1, b1⟩ := kk v S' I' hp T'.heap ls (locs ++ L) (by rw [e1]; exact hR') hL (fun q hq2 => (List.mem_append.mp hq2).elim (hq q) (hL' q)) T' rfl Y'
  exact ⟨t2, go t2 a1, b1⟩
theorem cd_callV (hO : cd_O w X cc own d mc ms l) (hml : X.2.2.2.2.2.2.2.2.2.1.maxLocals = nL) {m : cd_MT} {np d' mc' ms' index b c : Nat} {As rest st0 : List Value} {post' : cd_Pt} (hc : cd_C l w m d' mc' ms' (.ref b :: As) S I post') (hm : cd_MV m np) (hlk : Cond.methodLink own index m.1 ∈ cd_ws) (hs : S.2.1 b = (1, c)) (hcl : (cd_cls[c]?).map (·.1) = some m.1.cls) (hdd : d' + 1 ≤ d) (hnp : As.length = np) (hlv : lv.length = nL) (hst : st0 = As.reverse ++ .ref b :: rest) (hcat : (rest.map fun v => v.category).sum ≤ 8) (hd : cd_D 3 cc pc (.invokevirtual index) pc') (hf : k + mc' ≤ mc ∧ n + ms' ≤ ms)
    (kk : ∀ (r : Option Value) (S' : cd_Sp) (I' : cd_Mem), post' r S' I' → cd_J w X (k + mc') (n + ms') S' I' pc' lv (r.toList ++ rest)) : cd_J w X k n S I pc lv st0 := by
  intro H ls locs hR hL hq
  obtain ⟨hd, rfl⟩ := hd
  have hl9 := hO.2.2.2.2.2.2.2.2.2
  unfold cd_C at hc
  rw [← hl9] at hc
  have hcell : ∃ cellB : Cell, H[b]? = some cellB ∧ cellB.vm.isStatics = false ∧ X.2.2.2.2.1.vm.findClass m.1.cls = some cellB.cls := by
    obtain ⟨q, h1, cell, q1, q2, q3, -⟩ := cd_obj hR hs
    have hq1 : q.1 = m.1.cls := by rw [h1] at hcl; exact Option.some.inj hcl
    exact ⟨cell, q1, by rw [q3]; rfl, by rw [q2, ← hq1]; exact (hO.2.2.2.2.1.1.1 c q h1).2.1⟩
  refine cd_after (a := #[]) hR hL hq (va_runV (C := m.1.cls) (n := np) (As := As) (rest := rest) (b := b) ⟨hO.1, hO.2.1, hml, hO.2.2.1, hO.2.2.2.1⟩ hc ⟨cd_callB hO hm.1 hlk hdd, hO.2.2.2.1 _ hm.2.1, hO.2.2.2.1 _ hm.2.2⟩ ⟨cd_blind, hcell, fun U hU hW => ⟨rfl, by rw [hU]; exact hR, hO.2.2.2.2.1.warm hW⟩⟩ rfl hnp (hL.1.trans hlv) hst (lv_room hcat) hd ⟨Nat.le_trans hf.1 hO.2.2.2.2.2.2.2.1, Nat.le_trans hf.2 hO.2.2.2.2.2.2.2.2.1⟩) kk
theorem cd_callS (hO : cd_O w X cc own d mc ms l) (hml : X.2.2.2.2.2.2.2.2.2.1.maxLocals = nL) {m : cd_MT} {np d' mc' ms' index : Nat} {As rest st0 : List Value} {post' : cd_Pt} (hc : cd_C l w m d' mc' ms' As S I post') (hm : cd_MS m np) (hlk : Cond.methodLink own index m.1 ∈ cd_ws) (hdd : d' + 1 ≤ d) (hnp : As.length = np) (hlv : lv.length = nL) (hst : st0 = As.reverse ++ rest) (hcat : (rest.map fun v => v.category).sum ≤ 8) (hd : cd_D 3 cc pc (.invokestatic index) pc') (hf : k + mc' ≤ mc ∧ n + ms' ≤ ms)
    (kk : ∀ (r : Option Value) (S' : cd_Sp) (I' : cd_Mem), post' r S' I' → cd_J w X (k + mc') (n + ms') S' I' pc' lv (r.toList ++ rest)) : cd_J w X k n S I pc lv st0 := by
  intro H ls locs hR hL hq
  obtain ⟨hd, rfl⟩ := hd
  have hl9 := hO.2.2.2.2.2.2.2.2.2
  unfold cd_C at hc
  rw [← hl9] at hc
  refine cd_after (a := #[]) hR hL hq (va_runS (n := np) (As := As) (rest := rest) ⟨hO.1, hO.2.1, hml, hO.2.2.1, hO.2.2.2.1⟩ hc ⟨cd_callB hO hm.1 hlk hdd, hO.2.2.2.1 _ hm.2⟩ ⟨cd_blind, fun U hU hW => ⟨rfl, by rw [hU]; exact hR, hO.2.2.2.2.1.warm hW⟩⟩ rfl hnp (hL.1.trans hlv) hst (lv_room hcat) hd ⟨Nat.le_trans hf.1 hO.2.2.2.2.2.2.2.1, Nat.le_trans hf.2 hO.2.2.2.2.2.2.2.2.1⟩) kk
/-- contracts' ends: an int or nothing; the shape stays -/
def cd_Pi (S : cd_Sp) (P : Int32 → cd_Mem → Prop) : cd_Pt := fun r S' I' => ∃ x, r = some (.int x) ∧ S' = S ∧ P x I'
def cd_Pv (S : cd_Sp) (P : cd_Mem → Prop) : cd_Pt := fun r S' I' => r = none ∧ S' = S ∧ P I'
def cd_Fi (S : cd_Sp) (v : Int32) (J : cd_Mem) : cd_Pt := fun r S' I' => r = some (.int v) ∧ S' = S ∧ I' = J
def cd_Fv (S : cd_Sp) (J : cd_Mem) : cd_Pt := fun r S' I' => r = none ∧ S' = S ∧ I' = J

theorem r_cV0i (hO : cd_O w X cc own d mc ms l) (hE : cd_E w X nL rt mc ms nm post) {m : cd_MT} {d' index b c : Nat} {P : Int32 → cd_Mem → Prop} (hc : cd_C l w m d' 0 0 (.ref b :: []) S I (cd_Pi S P)) (hm : cd_MV m 0) (hlk : Cond.methodLink own index m.1 ∈ cd_ws) (hs : S.2.1 b = (1, c)) (hcl : (cd_cls[c]?).map (·.1) = some m.1.cls) (hdd : d' + 1 ≤ d) (hlv : lv.length = nL) (hcat : (st.map fun v => v.category).sum ≤ 8) (hd : cd_D 3 cc pc (.invokevirtual index) pc') (hk : k ≤ mc) (hn : n ≤ ms) (kk : ∀ (x : Int32) (I' : cd_Mem), P x I' → cd_J w X k n S I' pc' lv (.int x :: st)) : cd_J w X k n S I pc lv (.ref b :: st) :=
  cd_callV hO hE.1 hc hm hlk hs hcl hdd rfl hlv rfl hcat hd ⟨hk, hn⟩ (fun r S' I' h => by obtain ⟨x, rfl, rfl, hp⟩ := h; exact kk x I' hp)
theorem r_cV0v (hO : cd_O w X cc own d mc ms l) (hE : cd_E w X nL rt mc ms nm post) {m : cd_MT} {d' index b c : Nat} {P : cd_Mem → Prop} (hc : cd_C l w m d' 0 0 (.ref b :: []) S I (cd_Pv S P)) (hm : cd_MV m 0) (hlk : Cond.methodLink own index m.1 ∈ cd_ws) (hs : S.2.1 b = (1, c)) (hcl : (cd_cls[c]?).map (·.1) = some m.1.cls) (hdd : d' + 1 ≤ d) (hlv : lv.length = nL) (hcat : (st.map fun v => v.category).sum ≤ 8) (hd : cd_D 3 cc pc (.invokevirtual index) pc') (hk : k ≤ mc) (hn : n ≤ ms) (kk : ∀ I' : cd_Mem, P I' → cd_J w X k n S I' pc' lv st) : cd_J w X k n S I pc lv (.ref b :: st) :=
  cd_callV hO hE.1 hc hm hlk hs hcl hdd rfl hlv rfl hcat hd ⟨hk, hn⟩ (fun r S' I' h => by obtain ⟨rfl, rfl, hp⟩ := h; exact kk I' hp)
theorem r_cV0fi (hO : cd_O w X cc own d mc ms l) (hE : cd_E w X nL rt mc ms nm post) {m : cd_MT} {d' index b c : Nat} {x : Int32} {J : cd_Mem} (hc : cd_C l w m d' 0 0 (.ref b :: []) S I (cd_Fi S x J)) (hm : cd_MV m 0) (hlk : Cond.methodLink own index m.1 ∈ cd_ws) (hs : S.2.1 b = (1, c)) (hcl : (cd_cls[c]?).map (·.1) = some m.1.cls) (hdd : d' + 1 ≤ d) (hlv : lv.length = nL) (hcat : (st.map fun v => v.category).sum ≤ 8) (hd : cd_D 3 cc pc (.invokevirtual index) pc') (hk : k ≤ mc) (hn : n ≤ ms) (kk : cd_J w X k n S J pc' lv (.int x :: st)) : cd_J w X k n S I pc lv (.ref b :: st) :=
  cd_callV hO hE.1 hc hm hlk hs hcl hdd rfl hlv rfl hcat hd ⟨hk, hn⟩ (fun r S' I' h => by obtain ⟨rfl, rfl, rfl⟩ := h; exact kk)
theorem r_cV0fv (hO : cd_O w X cc own d mc ms l) (hE : cd_E w X nL rt mc ms nm post) {m : cd_MT} {d' index b c : Nat} {J : cd_Mem} (hc : cd_C l w m d' 0 0 (.ref b :: []) S I (cd_Fv S J)) (hm : cd_MV m 0) (hlk : Cond.methodLink own index m.1 ∈ cd_ws) (hs : S.2.1 b = (1, c)) (hcl : (cd_cls[c]?).map (·.1) = some m.1.cls) (hdd : d' + 1 ≤ d) (hlv : lv.length = nL) (hcat : (st.map fun v => v.category).sum ≤ 8) (hd : cd_D 3 cc pc (.invokevirtual index) pc') (hk : k ≤ mc) (hn : n ≤ ms) (kk : cd_J w X k n S J pc' lv st) : cd_J w X k n S I pc lv (.ref b :: st) :=
  cd_callV hO hE.1 hc hm hlk hs hcl hdd rfl hlv rfl hcat hd ⟨hk, hn⟩ (fun r S' I' h => by obtain ⟨rfl, rfl, rfl⟩ := h; exact kk)
theorem r_cS0i (hO : cd_O w X cc own d mc ms l) (hE : cd_E w X nL rt mc ms nm post) {m : cd_MT} {d' index : Nat} {P : Int32 → cd_Mem → Prop} (hc : cd_C l w m d' 0 0 [] S I (cd_Pi S P)) (hm : cd_MS m 0) (hlk : Cond.methodLink own index m.1 ∈ cd_ws) (hdd : d' + 1 ≤ d) (hlv : lv.length = nL) (hcat : (st.map fun v => v.category).sum ≤ 8) (hd : cd_D 3 cc pc (.invokestatic index) pc') (hk : k ≤ mc) (hn : n ≤ ms) (kk : ∀ (x : Int32) (I' : cd_Mem), P x I' → cd_J w X k n S I' pc' lv (.int x :: st)) : cd_J w X k n S I pc lv (st) :=
  cd_callS hO hE.1 hc hm hlk hdd rfl hlv rfl hcat hd ⟨hk, hn⟩ (fun r S' I' h => by obtain ⟨x, rfl, rfl, hp⟩ := h; exact kk x I' hp)
theorem r_cS0v (hO : cd_O w X cc own d mc ms l) (hE : cd_E w X nL rt mc ms nm post) {m : cd_MT} {d' index : Nat} {P : cd_Mem → Prop} (hc : cd_C l w m d' 0 0 [] S I (cd_Pv S P)) (hm : cd_MS m 0) (hlk : Cond.methodLink own index m.1 ∈ cd_ws) (hdd : d' + 1 ≤ d) (hlv : lv.length = nL) (hcat : (st.map fun v => v.category).sum ≤ 8) (hd : cd_D 3 cc pc (.invokestatic index) pc') (hk : k ≤ mc) (hn : n ≤ ms) (kk : ∀ I' : cd_Mem, P I' → cd_J w X k n S I' pc' lv st) : cd_J w X k n S I pc lv (st) :=
  cd_callS hO hE.1 hc hm hlk hdd rfl hlv rfl hcat hd ⟨hk, hn⟩ (fun r S' I' h => by obtain ⟨rfl, rfl, hp⟩ := h; exact kk I' hp)
theorem r_cS0fi (hO : cd_O w X cc own d mc ms l) (hE : cd_E w X nL rt mc ms nm post) {m : cd_MT} {d' index : Nat} {x : Int32} {J : cd_Mem} (hc : cd_C l w m d' 0 0 [] S I (cd_Fi S x J)) (hm : cd_MS m 0) (hlk : Cond.methodLink own index m.1 ∈ cd_ws) (hdd : d' + 1 ≤ d) (hlv : lv.length = nL) (hcat : (st.map fun v => v.category).sum ≤ 8) (hd : cd_D 3 cc pc (.invokestatic index) pc') (hk : k ≤ mc) (hn : n ≤ ms) (kk : cd_J w X k n S J pc' lv (.int x :: st)) : cd_J w X k n S I pc lv (st) :=
  cd_callS hO hE.1 hc hm hlk hdd rfl hlv rfl hcat hd ⟨hk, hn⟩ (fun r S' I' h => by obtain ⟨rfl, rfl, rfl⟩ := h; exact kk)
theorem r_cS0fv (hO : cd_O w X cc own d mc ms l) (hE : cd_E w X nL rt mc ms nm post) {m : cd_MT} {d' index : Nat} {J : cd_Mem} (hc : cd_C l w m d' 0 0 [] S I (cd_Fv S J)) (hm : cd_MS m 0) (hlk : Cond.methodLink own index m.1 ∈ cd_ws) (hdd : d' + 1 ≤ d) (hlv : lv.length = nL) (hcat : (st.map fun v => v.category).sum ≤ 8) (hd : cd_D 3 cc pc (.invokestatic index) pc') (hk : k ≤ mc) (hn : n ≤ ms) (kk : cd_J w X k n S J pc' lv st) : cd_J w X k n S I pc lv (st) :=
  cd_callS hO hE.1 hc hm hlk hdd rfl hlv rfl hcat hd ⟨hk, hn⟩ (fun r S' I' h => by obtain ⟨rfl, rfl, rfl⟩ := h; exact kk)
theorem r_cV1i (hO : cd_O w X cc own d mc ms l) (hE : cd_E w X nL rt mc ms nm post) {m : cd_MT} {d' index b c : Nat} {v1 : Value} {P : Int32 → cd_Mem → Prop} (hc : cd_C l w m d' 0 0 (.ref b :: [v1]) S I (cd_Pi S P)) (hm : cd_MV m 1) (hlk : Cond.methodLink own index m.1 ∈ cd_ws) (hs : S.2.1 b = (1, c)) (hcl : (cd_cls[c]?).map (·.1) = some m.1.cls) (hdd : d' + 1 ≤ d) (hlv : lv.length = nL) (hcat : (st.map fun v => v.category).sum ≤ 8) (hd : cd_D 3 cc pc (.invokevirtual index) pc') (hk : k ≤ mc) (hn : n ≤ ms) (kk : ∀ (x : Int32) (I' : cd_Mem), P x I' → cd_J w X k n S I' pc' lv (.int x :: st)) : cd_J w X k n S I pc lv (v1 :: .ref b :: st) :=
  cd_callV hO hE.1 hc hm hlk hs hcl hdd rfl hlv rfl hcat hd ⟨hk, hn⟩ (fun r S' I' h => by obtain ⟨x, rfl, rfl, hp⟩ := h; exact kk x I' hp)
theorem r_cV1v (hO : cd_O w X cc own d mc ms l) (hE : cd_E w X nL rt mc ms nm post) {m : cd_MT} {d' index b c : Nat} {v1 : Value} {P : cd_Mem → Prop} (hc : cd_C l w m d' 0 0 (.ref b :: [v1]) S I (cd_Pv S P)) (hm : cd_MV m 1) (hlk : Cond.methodLink own index m.1 ∈ cd_ws) (hs : S.2.1 b = (1, c)) (hcl : (cd_cls[c]?).map (·.1) = some m.1.cls) (hdd : d' + 1 ≤ d) (hlv : lv.length = nL) (hcat : (st.map fun v => v.category).sum ≤ 8) (hd : cd_D 3 cc pc (.invokevirtual index) pc') (hk : k ≤ mc) (hn : n ≤ ms) (kk : ∀ I' : cd_Mem, P I' → cd_J w X k n S I' pc' lv st) : cd_J w X k n S I pc lv (v1 :: .ref b :: st) :=
  cd_callV hO hE.1 hc hm hlk hs hcl hdd rfl hlv rfl hcat hd ⟨hk, hn⟩ (fun r S' I' h => by obtain ⟨rfl, rfl, hp⟩ := h; exact kk I' hp)
theorem r_cV1fi (hO : cd_O w X cc own d mc ms l) (hE : cd_E w X nL rt mc ms nm post) {m : cd_MT} {d' index b c : Nat} {v1 : Value} {x : Int32} {J : cd_Mem} (hc : cd_C l w m d' 0 0 (.ref b :: [v1]) S I (cd_Fi S x J)) (hm : cd_MV m 1) (hlk : Cond.methodLink own index m.1 ∈ cd_ws) (hs : S.2.1 b = (1, c)) (hcl : (cd_cls[c]?).map (·.1) = some m.1.cls) (hdd : d' + 1 ≤ d) (hlv : lv.length = nL) (hcat : (st.map fun v => v.category).sum ≤ 8) (hd : cd_D 3 cc pc (.invokevirtual index) pc') (hk : k ≤ mc) (hn : n ≤ ms) (kk : cd_J w X k n S J pc' lv (.int x :: st)) : cd_J w X k n S I pc lv (v1 :: .ref b :: st) :=
  cd_callV hO hE.1 hc hm hlk hs hcl hdd rfl hlv rfl hcat hd ⟨hk, hn⟩ (fun r S' I' h => by obtain ⟨rfl, rfl, rfl⟩ := h; exact kk)
theorem r_cV1fv (hO : cd_O w X cc own d mc ms l) (hE : cd_E w X nL rt mc ms nm post) {m : cd_MT} {d' index b c : Nat} {v1 : Value} {J : cd_Mem} (hc : cd_C l w m d' 0 0 (.ref b :: [v1]) S I (cd_Fv S J)) (hm : cd_MV m 1) (hlk : Cond.methodLink own index m.1 ∈ cd_ws) (hs : S.2.1 b = (1, c)) (hcl : (cd_cls[c]?).map (·.1) = some m.1.cls) (hdd : d' + 1 ≤ d) (hlv : lv.length = nL) (hcat : (st.map fun v => v.category).sum ≤ 8) (hd : cd_D 3 cc pc (.invokevirtual index) pc') (hk : k ≤ mc) (hn : n ≤ ms) (kk : cd_J w X k n S J pc' lv st) : cd_J w X k n S I pc lv (v1 :: .ref b :: st) :=
  cd_callV hO hE.1 hc hm hlk hs hcl hdd rfl hlv rfl hcat hd ⟨hk, hn⟩ (fun r S' I' h => by obtain ⟨rfl, rfl, rfl⟩ := h; exact kk)
theorem r_cS1i (hO : cd_O w X cc own d mc ms l) (hE : cd_E w X nL rt mc ms nm post) {m : cd_MT} {d' index : Nat} {v1 : Value} {P : Int32 → cd_Mem → Prop} (hc : cd_C l w m d' 0 0 [v1] S I (cd_Pi S P)) (hm : cd_MS m 1) (hlk : Cond.methodLink own index m.1 ∈ cd_ws) (hdd : d' + 1 ≤ d) (hlv : lv.length = nL) (hcat : (st.map fun v => v.category).sum ≤ 8) (hd : cd_D 3 cc pc (.invokestatic index) pc') (hk : k ≤ mc) (hn : n ≤ ms) (kk : ∀ (x : Int32) (I' : cd_Mem), P x I' → cd_J w X k n S I' pc' lv (.int x :: st)) : cd_J w X k n S I pc lv (v1 :: st) :=
  cd_callS hO hE.1 hc hm hlk hdd rfl hlv rfl hcat hd ⟨hk, hn⟩ (fun r S' I' h => by obtain ⟨x, rfl, rfl, hp⟩ := h; exact kk x I' hp)
theorem r_cS1v (hO : cd_O w X cc own d mc ms l) (hE : cd_E w X nL rt mc ms nm post) {m : cd_MT} {d' index : Nat} {v1 : Value} {P : cd_Mem → Prop} (hc : cd_C l w m d' 0 0 [v1] S I (cd_Pv S P)) (hm : cd_MS m 1) (hlk : Cond.methodLink own index m.1 ∈ cd_ws) (hdd : d' + 1 ≤ d) (hlv : lv.length = nL) (hcat : (st.map fun v => v.category).sum ≤ 8) (hd : cd_D 3 cc pc (.invokestatic index) pc') (hk : k ≤ mc) (hn : n ≤ ms) (kk : ∀ I' : cd_Mem, P I' → cd_J w X k n S I' pc' lv st) : cd_J w X k n S I pc lv (v1 :: st) :=
  cd_callS hO hE.1 hc hm hlk hdd rfl hlv rfl hcat hd ⟨hk, hn⟩ (fun r S' I' h => by obtain ⟨rfl, rfl, hp⟩ := h; exact kk I' hp)
theorem r_cS1fi (hO : cd_O w X cc own d mc ms l) (hE : cd_E w X nL rt mc ms nm post) {m : cd_MT} {d' index : Nat} {v1 : Value} {x : Int32} {J : cd_Mem} (hc : cd_C l w m d' 0 0 [v1] S I (cd_Fi S x J)) (hm : cd_MS m 1) (hlk : Cond.methodLink own index m.1 ∈ cd_ws) (hdd : d' + 1 ≤ d) (hlv : lv.length = nL) (hcat : (st.map fun v => v.category).sum ≤ 8) (hd : cd_D 3 cc pc (.invokestatic index) pc') (hk : k ≤ mc) (hn : n ≤ ms) (kk : cd_J w X k n S J pc' lv (.int x :: st)) : cd_J w X k n S I pc lv (v1 :: st) :=
  cd_callS hO hE.1 hc hm hlk hdd rfl hlv rfl hcat hd ⟨hk, hn⟩ (fun r S' I' h => by obtain ⟨rfl, rfl, rfl⟩ := h; exact kk)
theorem r_cS1fv (hO : cd_O w X cc own d mc ms l) (hE : cd_E w X nL rt mc ms nm post) {m : cd_MT} {d' index : Nat} {v1 : Value} {J : cd_Mem} (hc : cd_C l w m d' 0 0 [v1] S I (cd_Fv S J)) (hm : cd_MS m 1) (hlk : Cond.methodLink own index m.1 ∈ cd_ws) (hdd : d' + 1 ≤ d) (hlv : lv.length = nL) (hcat : (st.map fun v => v.category).sum ≤ 8) (hd : cd_D 3 cc pc (.invokestatic index) pc') (hk : k ≤ mc) (hn : n ≤ ms) (kk : cd_J w X k n S J pc' lv st) : cd_J w X k n S I pc lv (v1 :: st) :=
  cd_callS hO hE.1 hc hm hlk hdd rfl hlv rfl hcat hd ⟨hk, hn⟩ (fun r S' I' h => by obtain ⟨rfl, rfl, rfl⟩ := h; exact kk)
theorem r_cV2i (hO : cd_O w X cc own d mc ms l) (hE : cd_E w X nL rt mc ms nm post) {m : cd_MT} {d' index b c : Nat} {v1 v2 : Value} {P : Int32 → cd_Mem → Prop} (hc : cd_C l w m d' 0 0 (.ref b :: [v1, v2]) S I (cd_Pi S P)) (hm : cd_MV m 2) (hlk : Cond.methodLink own index m.1 ∈ cd_ws) (hs : S.2.1 b = (1, c)) (hcl : (cd_cls[c]?).map (·.1) = some m.1.cls) (hdd : d' + 1 ≤ d) (hlv : lv.length = nL) (hcat : (st.map fun v => v.category).sum ≤ 8) (hd : cd_D 3 cc pc (.invokevirtual index) pc') (hk : k ≤ mc) (hn : n ≤ ms) (kk : ∀ (x : Int32) (I' : cd_Mem), P x I' → cd_J w X k n S I' pc' lv (.int x :: st)) : cd_J w X k n S I pc lv (v2 :: v1 :: .ref b :: st) :=
  cd_callV hO hE.1 hc hm hlk hs hcl hdd rfl hlv rfl hcat hd ⟨hk, hn⟩ (fun r S' I' h => by obtain ⟨x, rfl, rfl, hp⟩ := h; exact kk x I' hp)
theorem r_cV2v (hO : cd_O w X cc own d mc ms l) (hE : cd_E w X nL rt mc ms nm post) {m : cd_MT} {d' index b c : Nat} {v1 v2 : Value} {P : cd_Mem → Prop} (hc : cd_C l w m d' 0 0 (.ref b :: [v1, v2]) S I (cd_Pv S P)) (hm : cd_MV m 2) (hlk : Cond.methodLink own index m.1 ∈ cd_ws) (hs : S.2.1 b = (1, c)) (hcl : (cd_cls[c]?).map (·.1) = some m.1.cls) (hdd : d' + 1 ≤ d) (hlv : lv.length = nL) (hcat : (st.map fun v => v.category).sum ≤ 8) (hd : cd_D 3 cc pc (.invokevirtual index) pc') (hk : k ≤ mc) (hn : n ≤ ms) (kk : ∀ I' : cd_Mem, P I' → cd_J w X k n S I' pc' lv st) : cd_J w X k n S I pc lv (v2 :: v1 :: .ref b :: st) :=
  cd_callV hO hE.1 hc hm hlk hs hcl hdd rfl hlv rfl hcat hd ⟨hk, hn⟩ (fun r S' I' h => by obtain ⟨rfl, rfl, hp⟩ := h; exact kk I' hp)
theorem r_cV2fi (hO : cd_O w X cc own d mc ms l) (hE : cd_E w X nL rt mc ms nm post) {m : cd_MT} {d' index b c : Nat} {v1 v2 : Value} {x : Int32} {J : cd_Mem} (hc : cd_C l w m d' 0 0 (.ref b :: [v1, v2]) S I (cd_Fi S x J)) (hm : cd_MV m 2) (hlk : Cond.methodLink own index m.1 ∈ cd_ws) (hs : S.2.1 b = (1, c)) (hcl : (cd_cls[c]?).map (·.1) = some m.1.cls) (hdd : d' + 1 ≤ d) (hlv : lv.length = nL) (hcat : (st.map fun v => v.category).sum ≤ 8) (hd : cd_D 3 cc pc (.invokevirtual index) pc') (hk : k ≤ mc) (hn : n ≤ ms) (kk : cd_J w X k n S J pc' lv (.int x :: st)) : cd_J w X k n S I pc lv (v2 :: v1 :: .ref b :: st) :=
  cd_callV hO hE.1 hc hm hlk hs hcl hdd rfl hlv rfl hcat hd ⟨hk, hn⟩ (fun r S' I' h => by obtain ⟨rfl, rfl, rfl⟩ := h; exact kk)
theorem r_cV2fv (hO : cd_O w X cc own d mc ms l) (hE : cd_E w X nL rt mc ms nm post) {m : cd_MT} {d' index b c : Nat} {v1 v2 : Value} {J : cd_Mem} (hc : cd_C l w m d' 0 0 (.ref b :: [v1, v2]) S I (cd_Fv S J)) (hm : cd_MV m 2) (hlk : Cond.methodLink own index m.1 ∈ cd_ws) (hs : S.2.1 b = (1, c)) (hcl : (cd_cls[c]?).map (·.1) = some m.1.cls) (hdd : d' + 1 ≤ d) (hlv : lv.length = nL) (hcat : (st.map fun v => v.category).sum ≤ 8) (hd : cd_D 3 cc pc (.invokevirtual index) pc') (hk : k ≤ mc) (hn : n ≤ ms) (kk : cd_J w X k n S J pc' lv st) : cd_J w X k n S I pc lv (v2 :: v1 :: .ref b :: st) :=
  cd_callV hO hE.1 hc hm hlk hs hcl hdd rfl hlv rfl hcat hd ⟨hk, hn⟩ (fun r S' I' h => by obtain ⟨rfl, rfl, rfl⟩ := h; exact kk)
theorem r_cS2i (hO : cd_O w X cc own d mc ms l) (hE : cd_E w X nL rt mc ms nm post) {m : cd_MT} {d' index : Nat} {v1 v2 : Value} {P : Int32 → cd_Mem → Prop} (hc : cd_C l w m d' 0 0 [v1, v2] S I (cd_Pi S P)) (hm : cd_MS m 2) (hlk : Cond.methodLink own index m.1 ∈ cd_ws) (hdd : d' + 1 ≤ d) (hlv : lv.length = nL) (hcat : (st.map fun v => v.category).sum ≤ 8) (hd : cd_D 3 cc pc (.invokestatic index) pc') (hk : k ≤ mc) (hn : n ≤ ms) (kk : ∀ (x : Int32) (I' : cd_Mem), P x I' → cd_J w X k n S I' pc' lv (.int x :: st)) : cd_J w X k n S I pc lv (v2 :: v1 :: st) :=
  cd_callS hO hE.1 hc hm hlk hdd rfl hlv rfl hcat hd ⟨hk, hn⟩ (fun r S' I' h => by obtain ⟨x, rfl, rfl, hp⟩ := h; exact kk x I' hp)
theorem r_cS2v (hO : cd_O w X cc own d mc ms l) (hE : cd_E w X nL rt mc ms nm post) {m : cd_MT} {d' index : Nat} {v1 v2 : Value} {P : cd_Mem → Prop} (hc : cd_C l w m d' 0 0 [v1, v2] S I (cd_Pv S P)) (hm : cd_MS m 2) (hlk : Cond.methodLink own index m.1 ∈ cd_ws) (hdd : d' + 1 ≤ d) (hlv : lv.length = nL) (hcat : (st.map fun v => v.category).sum ≤ 8) (hd : cd_D 3 cc pc (.invokestatic index) pc') (hk : k ≤ mc) (hn : n ≤ ms) (kk : ∀ I' : cd_Mem, P I' → cd_J w X k n S I' pc' lv st) : cd_J w X k n S I pc lv (v2 :: v1 :: st) :=
  cd_callS hO hE.1 hc hm hlk hdd rfl hlv rfl hcat hd ⟨hk, hn⟩ (fun r S' I' h => by obtain ⟨rfl, rfl, hp⟩ := h; exact kk I' hp)
theorem r_cS2fi (hO : cd_O w X cc own d mc ms l) (hE : cd_E w X nL rt mc ms nm post) {m : cd_MT} {d' index : Nat} {v1 v2 : Value} {x : Int32} {J : cd_Mem} (hc : cd_C l w m d' 0 0 [v1, v2] S I (cd_Fi S x J)) (hm : cd_MS m 2) (hlk : Cond.methodLink own index m.1 ∈ cd_ws) (hdd : d' + 1 ≤ d) (hlv : lv.length = nL) (hcat : (st.map fun v => v.category).sum ≤ 8) (hd : cd_D 3 cc pc (.invokestatic index) pc') (hk : k ≤ mc) (hn : n ≤ ms) (kk : cd_J w X k n S J pc' lv (.int x :: st)) : cd_J w X k n S I pc lv (v2 :: v1 :: st) :=
  cd_callS hO hE.1 hc hm hlk hdd rfl hlv rfl hcat hd ⟨hk, hn⟩ (fun r S' I' h => by obtain ⟨rfl, rfl, rfl⟩ := h; exact kk)
theorem r_cS2fv (hO : cd_O w X cc own d mc ms l) (hE : cd_E w X nL rt mc ms nm post) {m : cd_MT} {d' index : Nat} {v1 v2 : Value} {J : cd_Mem} (hc : cd_C l w m d' 0 0 [v1, v2] S I (cd_Fv S J)) (hm : cd_MS m 2) (hlk : Cond.methodLink own index m.1 ∈ cd_ws) (hdd : d' + 1 ≤ d) (hlv : lv.length = nL) (hcat : (st.map fun v => v.category).sum ≤ 8) (hd : cd_D 3 cc pc (.invokestatic index) pc') (hk : k ≤ mc) (hn : n ≤ ms) (kk : cd_J w X k n S J pc' lv st) : cd_J w X k n S I pc lv (v2 :: v1 :: st) :=
  cd_callS hO hE.1 hc hm hlk hdd rfl hlv rfl hcat hd ⟨hk, hn⟩ (fun r S' I' h => by obtain ⟨rfl, rfl, rfl⟩ := h; exact kk)
theorem r_cV3i (hO : cd_O w X cc own d mc ms l) (hE : cd_E w X nL rt mc ms nm post) {m : cd_MT} {d' index b c : Nat} {v1 v2 v3 : Value} {P : Int32 → cd_Mem → Prop} (hc : cd_C l w m d' 0 0 (.ref b :: [v1, v2, v3]) S I (cd_Pi S P)) (hm : cd_MV m 3) (hlk : Cond.methodLink own index m.1 ∈ cd_ws) (hs : S.2.1 b = (1, c)) (hcl : (cd_cls[c]?).map (·.1) = some m.1.cls) (hdd : d' + 1 ≤ d) (hlv : lv.length = nL) (hcat : (st.map fun v => v.category).sum ≤ 8) (hd : cd_D 3 cc pc (.invokevirtual index) pc') (hk : k ≤ mc) (hn : n ≤ ms) (kk : ∀ (x : Int32) (I' : cd_Mem), P x I' → cd_J w X k n S I' pc' lv (.int x :: st)) : cd_J w X k n S I pc lv (v3 :: v2 :: v1 :: .ref b :: st) :=
  cd_callV hO hE.1 hc hm hlk hs hcl hdd rfl hlv rfl hcat hd ⟨hk, hn⟩ (fun r S' I' h => by obtain ⟨x, rfl, rfl, hp⟩ := h; exact kk x I' hp)
theorem r_cV3v (hO : cd_O w X cc own d mc ms l) (hE : cd_E w X nL rt mc ms nm post) {m : cd_MT} {d' index b c : Nat} {v1 v2 v3 : Value} {P : cd_Mem → Prop} (hc : cd_C l w m d' 0 0 (.ref b :: [v1, v2, v3]) S I (cd_Pv S P)) (hm : cd_MV m 3) (hlk : Cond.methodLink own index m.1 ∈ cd_ws) (hs : S.2.1 b = (1, c)) (hcl : (cd_cls[c]?).map (·.1) = some m.1.cls) (hdd : d' + 1 ≤ d) (hlv : lv.length = nL) (hcat : (st.map fun v => v.category).sum ≤ 8) (hd : cd_D 3 cc pc (.invokevirtual index) pc') (hk : k ≤ mc) (hn : n ≤ ms) (kk : ∀ I' : cd_Mem, P I' → cd_J w X k n S I' pc' lv st) : cd_J w X k n S I pc lv (v3 :: v2 :: v1 :: .ref b :: st) :=
  cd_callV hO hE.1 hc hm hlk hs hcl hdd rfl hlv rfl hcat hd ⟨hk, hn⟩ (fun r S' I' h => by obtain ⟨rfl, rfl, hp⟩ := h; exact kk I' hp)
theorem r_cV3fi (hO : cd_O w X cc own d mc ms l) (hE : cd_E w X nL rt mc ms nm post) {m : cd_MT} {d' index b c : Nat} {v1 v2 v3 : Value} {x : Int32} {J : cd_Mem} (hc : cd_C l w m d' 0 0 (.ref b :: [v1, v2, v3]) S I (cd_Fi S x J)) (hm : cd_MV m 3) (hlk : Cond.methodLink own index m.1 ∈ cd_ws) (hs : S.2.1 b = (1, c)) (hcl : (cd_cls[c]?).map (·.1) = some m.1.cls) (hdd : d' + 1 ≤ d) (hlv : lv.length = nL) (hcat : (st.map fun v => v.category).sum ≤ 8) (hd : cd_D 3 cc pc (.invokevirtual index) pc') (hk : k ≤ mc) (hn : n ≤ ms) (kk : cd_J w X k n S J pc' lv (.int x :: st)) : cd_J w X k n S I pc lv (v3 :: v2 :: v1 :: .ref b :: st) :=
  cd_callV hO hE.1 hc hm hlk hs hcl hdd rfl hlv rfl hcat hd ⟨hk, hn⟩ (fun r S' I' h => by obtain ⟨rfl, rfl, rfl⟩ := h; exact kk)
theorem r_cV3fv (hO : cd_O w X cc own d mc ms l) (hE : cd_E w X nL rt mc ms nm post) {m : cd_MT} {d' index b c : Nat} {v1 v2 v3 : Value} {J : cd_Mem} (hc : cd_C l w m d' 0 0 (.ref b :: [v1, v2, v3]) S I (cd_Fv S J)) (hm : cd_MV m 3) (hlk : Cond.methodLink own index m.1 ∈ cd_ws) (hs : S.2.1 b = (1, c)) (hcl : (cd_cls[c]?).map (·.1) = some m.1.cls) (hdd : d' + 1 ≤ d) (hlv : lv.length = nL) (hcat : (st.map fun v => v.category).sum ≤ 8) (hd : cd_D 3 cc pc (.invokevirtual index) pc') (hk : k ≤ mc) (hn : n ≤ ms) (kk : cd_J w X k n S J pc' lv st) : cd_J w X k n S I pc lv (v3 :: v2 :: v1 :: .ref b :: st) :=
  cd_callV hO hE.1 hc hm hlk hs hcl hdd rfl hlv rfl hcat hd ⟨hk, hn⟩ (fun r S' I' h => by obtain ⟨rfl, rfl, rfl⟩ := h; exact kk)
theorem r_cS3i (hO : cd_O w X cc own d mc ms l) (hE : cd_E w X nL rt mc ms nm post) {m : cd_MT} {d' index : Nat} {v1 v2 v3 : Value} {P : Int32 → cd_Mem → Prop} (hc : cd_C l w m d' 0 0 [v1, v2, v3] S I (cd_Pi S P)) (hm : cd_MS m 3) (hlk : Cond.methodLink own index m.1 ∈ cd_ws) (hdd : d' + 1 ≤ d) (hlv : lv.length = nL) (hcat : (st.map fun v => v.category).sum ≤ 8) (hd : cd_D 3 cc pc (.invokestatic index) pc') (hk : k ≤ mc) (hn : n ≤ ms) (kk : ∀ (x : Int32) (I' : cd_Mem), P x I' → cd_J w X k n S I' pc' lv (.int x :: st)) : cd_J w X k n S I pc lv (v3 :: v2 :: v1 :: st) :=
  cd_callS hO hE.1 hc hm hlk hdd rfl hlv rfl hcat hd ⟨hk, hn⟩ (fun r S' I' h => by obtain ⟨x, rfl, rfl, hp⟩ := h; exact kk x I' hp)
theorem r_cS3v (hO : cd_O w X cc own d mc ms l) (hE : cd_E w X nL rt mc ms nm post) {m : cd_MT} {d' index : Nat} {v1 v2 v3 : Value} {P : cd_Mem → Prop} (hc : cd_C l w m d' 0 0 [v1, v2, v3] S I (cd_Pv S P)) (hm : cd_MS m 3) (hlk : Cond.methodLink own index m.1 ∈ cd_ws) (hdd : d' + 1 ≤ d) (hlv : lv.length = nL) (hcat : (st.map fun v => v.category).sum ≤ 8) (hd : cd_D 3 cc pc (.invokestatic index) pc') (hk : k ≤ mc) (hn : n ≤ ms) (kk : ∀ I' : cd_Mem, P I' → cd_J w X k n S I' pc' lv st) : cd_J w X k n S I pc lv (v3 :: v2 :: v1 :: st) :=
  cd_callS hO hE.1 hc hm hlk hdd rfl hlv rfl hcat hd ⟨hk, hn⟩ (fun r S' I' h => by obtain ⟨rfl, rfl, hp⟩ := h; exact kk I' hp)
theorem r_cS3fi (hO : cd_O w X cc own d mc ms l) (hE : cd_E w X nL rt mc ms nm post) {m : cd_MT} {d' index : Nat} {v1 v2 v3 : Value} {x : Int32} {J : cd_Mem} (hc : cd_C l w m d' 0 0 [v1, v2, v3] S I (cd_Fi S x J)) (hm : cd_MS m 3) (hlk : Cond.methodLink own index m.1 ∈ cd_ws) (hdd : d' + 1 ≤ d) (hlv : lv.length = nL) (hcat : (st.map fun v => v.category).sum ≤ 8) (hd : cd_D 3 cc pc (.invokestatic index) pc') (hk : k ≤ mc) (hn : n ≤ ms) (kk : cd_J w X k n S J pc' lv (.int x :: st)) : cd_J w X k n S I pc lv (v3 :: v2 :: v1 :: st) :=
  cd_callS hO hE.1 hc hm hlk hdd rfl hlv rfl hcat hd ⟨hk, hn⟩ (fun r S' I' h => by obtain ⟨rfl, rfl, rfl⟩ := h; exact kk)
theorem r_cS3fv (hO : cd_O w X cc own d mc ms l) (hE : cd_E w X nL rt mc ms nm post) {m : cd_MT} {d' index : Nat} {v1 v2 v3 : Value} {J : cd_Mem} (hc : cd_C l w m d' 0 0 [v1, v2, v3] S I (cd_Fv S J)) (hm : cd_MS m 3) (hlk : Cond.methodLink own index m.1 ∈ cd_ws) (hdd : d' + 1 ≤ d) (hlv : lv.length = nL) (hcat : (st.map fun v => v.category).sum ≤ 8) (hd : cd_D 3 cc pc (.invokestatic index) pc') (hk : k ≤ mc) (hn : n ≤ ms) (kk : cd_J w X k n S J pc' lv st) : cd_J w X k n S I pc lv (v3 :: v2 :: v1 :: st) :=
  cd_callS hO hE.1 hc hm hlk hdd rfl hlv rfl hcat hd ⟨hk, hn⟩ (fun r S' I' h => by obtain ⟨rfl, rfl, rfl⟩ := h; exact kk)
theorem r_cV4i (hO : cd_O w X cc own d mc ms l) (hE : cd_E w X nL rt mc ms nm post) {m : cd_MT} {d' index b c : Nat} {v1 v2 v3 v4 : Value} {P : Int32 → cd_Mem → Prop} (hc : cd_C l w m d' 0 0 (.ref b :: [v1, v2, v3, v4]) S I (cd_Pi S P)) (hm : cd_MV m 4) (hlk : Cond.methodLink own index m.1 ∈ cd_ws) (hs : S.2.1 b = (1, c)) (hcl : (cd_cls[c]?).map (·.1) = some m.1.cls) (hdd : d' + 1 ≤ d) (hlv : lv.length = nL) (hcat : (st.map fun v => v.category).sum ≤ 8) (hd : cd_D 3 cc pc (.invokevirtual index) pc') (hk : k ≤ mc) (hn : n ≤ ms) (kk : ∀ (x : Int32) (I' : cd_Mem), P x I' → cd_J w X k n S I' pc' lv (.int x :: st)) : cd_J w X k n S I pc lv (v4 :: v3 :: v2 :: v1 :: .ref b :: st) :=
  cd_callV hO hE.1 hc hm hlk hs hcl hdd rfl hlv rfl hcat hd ⟨hk, hn⟩ (fun r S' I' h => by obtain ⟨x, rfl, rfl, hp⟩ := h; exact kk x I' hp)
theorem r_cV4v (hO : cd_O w X cc own d mc ms l) (hE : cd_E w X nL rt mc ms nm post) {m : cd_MT} {d' index b c : Nat} {v1 v2 v3 v4 : Value} {P : cd_Mem → Prop} (hc : cd_C l w m d' 0 0 (.ref b :: [v1, v2, v3, v4]) S I (cd_Pv S P)) (hm : cd_MV m 4) (hlk : Cond.methodLink own index m.1 ∈ cd_ws) (hs : S.2.1 b = (1, c)) (hcl : (cd_cls[c]?).map (·.1) = some m.1.cls) (hdd : d' + 1 ≤ d) (hlv : lv.length = nL) (hcat : (st.map fun v => v.category).sum ≤ 8) (hd : cd_D 3 cc pc (.invokevirtual index) pc') (hk : k ≤ mc) (hn : n ≤ ms) (kk : ∀ I' : cd_Mem, P I' → cd_J w X k n S I' pc' lv st) : cd_J w X k n S I pc lv (v4 :: v3 :: v2 :: v1 :: .ref b :: st) :=
  cd_callV hO hE.1 hc hm hlk hs hcl hdd rfl hlv rfl hcat hd ⟨hk, hn⟩ (fun r S' I' h => by obtain ⟨rfl, rfl, hp⟩ := h; exact kk I' hp)
theorem r_cV4fi (hO : cd_O w X cc own d mc ms l) (hE : cd_E w X nL rt mc ms nm post) {m : cd_MT} {d' index b c : Nat} {v1 v2 v3 v4 : Value} {x : Int32} {J : cd_Mem} (hc : cd_C l w m d' 0 0 (.ref b :: [v1, v2, v3, v4]) S I (cd_Fi S x J)) (hm : cd_MV m 4) (hlk : Cond.methodLink own index m.1 ∈ cd_ws) (hs : S.2.1 b = (1, c)) (hcl : (cd_cls[c]?).map (·.1) = some m.1.cls) (hdd : d' + 1 ≤ d) (hlv : lv.length = nL) (hcat : (st.map fun v => v.category).sum ≤ 8) (hd : cd_D 3 cc pc (.invokevirtual index) pc') (hk : k ≤ mc) (hn : n ≤ ms) (kk : cd_J w X k n S J pc' lv (.int x :: st)) : cd_J w X k n S I pc lv (v4 :: v3 :: v2 :: v1 :: .ref b :: st) :=
  cd_callV hO hE.1 hc hm hlk hs hcl hdd rfl hlv rfl hcat hd ⟨hk, hn⟩ (fun r S' I' h => by obtain ⟨rfl, rfl, rfl⟩ := h; exact kk)
theorem r_cV4fv (hO : cd_O w X cc own d mc ms l) (hE : cd_E w X nL rt mc ms nm post) {m : cd_MT} {d' index b c : Nat} {v1 v2 v3 v4 : Value} {J : cd_Mem} (hc : cd_C l w m d' 0 0 (.ref b :: [v1, v2, v3, v4]) S I (cd_Fv S J)) (hm : cd_MV m 4) (hlk : Cond.methodLink own index m.1 ∈ cd_ws) (hs : S.2.1 b = (1, c)) (hcl : (cd_cls[c]?).map (·.1) = some m.1.cls) (hdd : d' + 1 ≤ d) (hlv : lv.length = nL) (hcat : (st.map fun v => v.category).sum ≤ 8) (hd : cd_D 3 cc pc (.invokevirtual index) pc') (hk : k ≤ mc) (hn : n ≤ ms) (kk : cd_J w X k n S J pc' lv st) : cd_J w X k n S I pc lv (v4 :: v3 :: v2 :: v1 :: .ref b :: st) :=
  cd_callV hO hE.1 hc hm hlk hs hcl hdd rfl hlv rfl hcat hd ⟨hk, hn⟩ (fun r S' I' h => by obtain ⟨rfl, rfl, rfl⟩ := h; exact kk)
theorem r_cS4i (hO : cd_O w X cc own d mc ms l) (hE : cd_E w X nL rt mc ms nm post) {m : cd_MT} {d' index : Nat} {v1 v2 v3 v4 : Value} {P : Int32 → cd_Mem → Prop} (hc : cd_C l w m d' 0 0 [v1, v2, v3, v4] S I (cd_Pi S P)) (hm : cd_MS m 4) (hlk : Cond.methodLink own index m.1 ∈ cd_ws) (hdd : d' + 1 ≤ d) (hlv : lv.length = nL) (hcat : (st.map fun v => v.category).sum ≤ 8) (hd : cd_D 3 cc pc (.invokestatic index) pc') (hk : k ≤ mc) (hn : n ≤ ms) (kk : ∀ (x : Int32) (I' : cd_Mem), P x I' → cd_J w X k n S I' pc' lv (.int x :: st)) : cd_J w X k n S I pc lv (v4 :: v3 :: v2 :: v1 :: st) :=
  cd_callS hO hE.1 hc hm hlk hdd rfl hlv rfl hcat hd ⟨hk, hn⟩ (fun r S' I' h => by obtain ⟨x, rfl, rfl, hp⟩ := h; exact kk x I' hp)
theorem r_cS4v (hO : cd_O w X cc own d mc ms l) (hE : cd_E w X nL rt mc ms nm post) {m : cd_MT} {d' index : Nat} {v1 v2 v3 v4 : Value} {P : cd_Mem → Prop} (hc : cd_C l w m d' 0 0 [v1, v2, v3, v4] S I (cd_Pv S P)) (hm : cd_MS m 4) (hlk : Cond.methodLink own index m.1 ∈ cd_ws) (hdd : d' + 1 ≤ d) (hlv : lv.length = nL) (hcat : (st.map fun v => v.category).sum ≤ 8) (hd : cd_D 3 cc pc (.invokestatic index) pc') (hk : k ≤ mc) (hn : n ≤ ms) (kk : ∀ I' : cd_Mem, P I' → cd_J w X k n S I' pc' lv st) : cd_J w X k n S I pc lv (v4 :: v3 :: v2 :: v1 :: st) :=
  cd_callS hO hE.1 hc hm hlk hdd rfl hlv rfl hcat hd ⟨hk, hn⟩ (fun r S' I' h => by obtain ⟨rfl, rfl, hp⟩ := h; exact kk I' hp)
theorem r_cS4fi (hO : cd_O w X cc own d mc ms l) (hE : cd_E w X nL rt mc ms nm post) {m : cd_MT} {d' index : Nat} {v1 v2 v3 v4 : Value} {x : Int32} {J : cd_Mem} (hc : cd_C l w m d' 0 0 [v1, v2, v3, v4] S I (cd_Fi S x J)) (hm : cd_MS m 4) (hlk : Cond.methodLink own index m.1 ∈ cd_ws) (hdd : d' + 1 ≤ d) (hlv : lv.length = nL) (hcat : (st.map fun v => v.category).sum ≤ 8) (hd : cd_D 3 cc pc (.invokestatic index) pc') (hk : k ≤ mc) (hn : n ≤ ms) (kk : cd_J w X k n S J pc' lv (.int x :: st)) : cd_J w X k n S I pc lv (v4 :: v3 :: v2 :: v1 :: st) :=
  cd_callS hO hE.1 hc hm hlk hdd rfl hlv rfl hcat hd ⟨hk, hn⟩ (fun r S' I' h => by obtain ⟨rfl, rfl, rfl⟩ := h; exact kk)
theorem r_cS4fv (hO : cd_O w X cc own d mc ms l) (hE : cd_E w X nL rt mc ms nm post) {m : cd_MT} {d' index : Nat} {v1 v2 v3 v4 : Value} {J : cd_Mem} (hc : cd_C l w m d' 0 0 [v1, v2, v3, v4] S I (cd_Fv S J)) (hm : cd_MS m 4) (hlk : Cond.methodLink own index m.1 ∈ cd_ws) (hdd : d' + 1 ≤ d) (hlv : lv.length = nL) (hcat : (st.map fun v => v.category).sum ≤ 8) (hd : cd_D 3 cc pc (.invokestatic index) pc') (hk : k ≤ mc) (hn : n ≤ ms) (kk : cd_J w X k n S J pc' lv st) : cd_J w X k n S I pc lv (v4 :: v3 :: v2 :: v1 :: st) :=
  cd_callS hO hE.1 hc hm hlk hdd rfl hlv rfl hcat hd ⟨hk, hn⟩ (fun r S' I' h => by obtain ⟨rfl, rfl, rfl⟩ := h; exact kk)
theorem r_cV5i (hO : cd_O w X cc own d mc ms l) (hE : cd_E w X nL rt mc ms nm post) {m : cd_MT} {d' index b c : Nat} {v1 v2 v3 v4 v5 : Value} {P : Int32 → cd_Mem → Prop} (hc : cd_C l w m d' 0 0 (.ref b :: [v1, v2, v3, v4, v5]) S I (cd_Pi S P)) (hm : cd_MV m 5) (hlk : Cond.methodLink own index m.1 ∈ cd_ws) (hs : S.2.1 b = (1, c)) (hcl : (cd_cls[c]?).map (·.1) = some m.1.cls) (hdd : d' + 1 ≤ d) (hlv : lv.length = nL) (hcat : (st.map fun v => v.category).sum ≤ 8) (hd : cd_D 3 cc pc (.invokevirtual index) pc') (hk : k ≤ mc) (hn : n ≤ ms) (kk : ∀ (x : Int32) (I' : cd_Mem), P x I' → cd_J w X k n S I' pc' lv (.int x :: st)) : cd_J w X k n S I pc lv (v5 :: v4 :: v3 :: v2 :: v1 :: .ref b :: st) :=
  cd_callV hO hE.1 hc hm hlk hs hcl hdd rfl hlv rfl hcat hd ⟨hk, hn⟩ (fun r S' I' h => by obtain ⟨x, rfl, rfl, hp⟩ := h; exact kk x I' hp)
theorem r_cV5v (hO : cd_O w X cc own d mc ms l) (hE : cd_E w X nL rt mc ms nm post) {m : cd_MT} {d' index b c : Nat} {v1 v2 v3 v4 v5 : Value} {P : cd_Mem → Prop} (hc : cd_C l w m d' 0 0 (.ref b :: [v1, v2, v3, v4, v5]) S I (cd_Pv S P)) (hm : cd_MV m 5) (hlk : Cond.methodLink own index m.1 ∈ cd_ws) (hs : S.2.1 b = (1, c)) (hcl : (cd_cls[c]?).map (·.1) = some m.1.cls) (hdd : d' + 1 ≤ d) (hlv : lv.length = nL) (hcat : (st.map fun v => v.category).sum ≤ 8) (hd : cd_D 3 cc pc (.invokevirtual index) pc') (hk : k ≤ mc) (hn : n ≤ ms) (kk : ∀ I' : cd_Mem, P I' → cd_J w X k n S I' pc' lv st) : cd_J w X k n S I pc lv (v5 :: v4 :: v3 :: v2 :: v1 :: .ref b :: st) :=
  cd_callV hO hE.1 hc hm hlk hs hcl hdd rfl hlv rfl hcat hd ⟨hk, hn⟩ (fun r S' I' h => by obtain ⟨rfl, rfl, hp⟩ := h; exact kk I' hp)
theorem r_cV5fi (hO : cd_O w X cc own d mc ms l) (hE : cd_E w X nL rt mc ms nm post) {m : cd_MT} {d' index b c : Nat} {v1 v2 v3 v4 v5 : Value} {x : Int32} {J : cd_Mem} (hc : cd_C l w m d' 0 0 (.ref b :: [v1, v2, v3, v4, v5]) S I (cd_Fi S x J)) (hm : cd_MV m 5) (hlk : Cond.methodLink own index m.1 ∈ cd_ws) (hs : S.2.1 b = (1, c)) (hcl : (cd_cls[c]?).map (·.1) = some m.1.cls) (hdd : d' + 1 ≤ d) (hlv : lv.length = nL) (hcat : (st.map fun v => v.category).sum ≤ 8) (hd : cd_D 3 cc pc (.invokevirtual index) pc') (hk : k ≤ mc) (hn : n ≤ ms) (kk : cd_J w X k n S J pc' lv (.int x :: st)) : cd_J w X k n S I pc lv (v5 :: v4 :: v3 :: v2 :: v1 :: .ref b :: st) :=
  cd_callV hO hE.1 hc hm hlk hs hcl hdd rfl hlv rfl hcat hd ⟨hk, hn⟩ (fun r S' I' h => by obtain ⟨rfl, rfl, rfl⟩ := h; exact kk)
theorem r_cV5fv (hO : cd_O w X cc own d mc ms l) (hE : cd_E w X nL rt mc ms nm post) {m : cd_MT} {d' index b c : Nat} {v1 v2 v3 v4 v5 : Value} {J : cd_Mem} (hc : cd_C l w m d' 0 0 (.ref b :: [v1, v2, v3, v4, v5]) S I (cd_Fv S J)) (hm : cd_MV m 5) (hlk : Cond.methodLink own index m.1 ∈ cd_ws) (hs : S.2.1 b = (1, c)) (hcl : (cd_cls[c]?).map (·.1) = some m.1.cls) (hdd : d' + 1 ≤ d) (hlv : lv.length = nL) (hcat : (st.map fun v => v.category).sum ≤ 8) (hd : cd_D 3 cc pc (.invokevirtual index) pc') (hk : k ≤ mc) (hn : n ≤ ms) (kk : cd_J w X k n S J pc' lv st) : cd_J w X k n S I pc lv (v5 :: v4 :: v3 :: v2 :: v1 :: .ref b :: st) :=
  cd_callV hO hE.1 hc hm hlk hs hcl hdd rfl hlv rfl hcat hd ⟨hk, hn⟩ (fun r S' I' h => by obtain ⟨rfl, rfl, rfl⟩ := h; exact kk)
theorem r_cS5i (hO : cd_O w X cc own d mc ms l) (hE : cd_E w X nL rt mc ms nm post) {m : cd_MT} {d' index : Nat} {v1 v2 v3 v4 v5 : Value} {P : Int32 → cd_Mem → Prop} (hc : cd_C l w m d' 0 0 [v1, v2, v3, v4, v5] S I (cd_Pi S P)) (hm : cd_MS m 5) (hlk : Cond.methodLink own index m.1 ∈ cd_ws) (hdd : d' + 1 ≤ d) (hlv : lv.length = nL) (hcat : (st.map fun v => v.category).sum ≤ 8) (hd : cd_D 3 cc pc (.invokestatic index) pc') (hk : k ≤ mc) (hn : n ≤ ms) (kk : ∀ (x : Int32) (I' : cd_Mem), P x I' → cd_J w X k n S I' pc' lv (.int x :: st)) : cd_J w X k n S I pc lv (v5 :: v4 :: v3 :: v2 :: v1 :: st) :=
  cd_callS hO hE.1 hc hm hlk hdd rfl hlv rfl hcat hd ⟨hk, hn⟩ (fun r S' I' h => by obtain ⟨x, rfl, rfl, hp⟩ := h; exact kk x I' hp)
theorem r_cS5v (hO : cd_O w X cc own d mc ms l) (hE : cd_E w X nL rt mc ms nm post) {m : cd_MT} {d' index : Nat} {v1 v2 v3 v4 v5 : Value} {P : cd_Mem → Prop} (hc : cd_C l w m d' 0 0 [v1, v2, v3, v4, v5] S I (cd_Pv S P)) (hm : cd_MS m 5) (hlk : Cond.methodLink own index m.1 ∈ cd_ws) (hdd : d' + 1 ≤ d) (hlv : lv.length = nL) (hcat : (st.map fun v => v.category).sum ≤ 8) (hd : cd_D 3 cc pc (.invokestatic index) pc') (hk : k ≤ mc) (hn : n ≤ ms) (kk : ∀ I' : cd_Mem, P I' → cd_J w X k n S I' pc' lv st) : cd_J w X k n S I pc lv (v5 :: v4 :: v3 :: v2 :: v1 :: st) :=
  cd_callS hO hE.1 hc hm hlk hdd rfl hlv rfl hcat hd ⟨hk, hn⟩ (fun r S' I' h => by obtain ⟨rfl, rfl, hp⟩ := h; exact kk I' hp)
theorem r_cS5fi (hO : cd_O w X cc own d mc ms l) (hE : cd_E w X nL rt mc ms nm post) {m : cd_MT} {d' index : Nat} {v1 v2 v3 v4 v5 : Value} {x : Int32} {J : cd_Mem} (hc : cd_C l w m d' 0 0 [v1, v2, v3, v4, v5] S I (cd_Fi S x J)) (hm : cd_MS m 5) (hlk : Cond.methodLink own index m.1 ∈ cd_ws) (hdd : d' + 1 ≤ d) (hlv : lv.length = nL) (hcat : (st.map fun v => v.category).sum ≤ 8) (hd : cd_D 3 cc pc (.invokestatic index) pc') (hk : k ≤ mc) (hn : n ≤ ms) (kk : cd_J w X k n S J pc' lv (.int x :: st)) : cd_J w X k n S I pc lv (v5 :: v4 :: v3 :: v2 :: v1 :: st) :=
  cd_callS hO hE.1 hc hm hlk hdd rfl hlv rfl hcat hd ⟨hk, hn⟩ (fun r S' I' h => by obtain ⟨rfl, rfl, rfl⟩ := h; exact kk)
theorem r_cS5fv (hO : cd_O w X cc own d mc ms l) (hE : cd_E w X nL rt mc ms nm post) {m : cd_MT} {d' index : Nat} {v1 v2 v3 v4 v5 : Value} {J : cd_Mem} (hc : cd_C l w m d' 0 0 [v1, v2, v3, v4, v5] S I (cd_Fv S J)) (hm : cd_MS m 5) (hlk : Cond.methodLink own index m.1 ∈ cd_ws) (hdd : d' + 1 ≤ d) (hlv : lv.length = nL) (hcat : (st.map fun v => v.category).sum ≤ 8) (hd : cd_D 3 cc pc (.invokestatic index) pc') (hk : k ≤ mc) (hn : n ≤ ms) (kk : cd_J w X k n S J pc' lv st) : cd_J w X k n S I pc lv (v5 :: v4 :: v3 :: v2 :: v1 :: st) :=
  cd_callS hO hE.1 hc hm hlk hdd rfl hlv rfl hcat hd ⟨hk, hn⟩ (fun r S' I' h => by obtain ⟨rfl, rfl, rfl⟩ := h; exact kk)
/-- switches -/
theorem r_tabI (hO : cd_O w X cc own d mc ms l) {dflt lo hi : Int} {offs : Array Int} {len : Nat} {x : Int32} (hd : decode cc pc = .ok (.tableswitch dflt lo hi offs, len)) (j : Nat) (hx : x = nI j) (hj : j < 2 ^ 31) (hlo : lo = 0) (hhi : (j : Int) ≤ hi) {off : Int} (ho : offs[j]? = some off) (ht : (pc : Int) + off = (tgt : Int)) (kk : cd_J w X k n S I tgt lv st) : cd_J w X k n S I pc lv (.int x :: st) := by
  intro H ls locs hR hL hq
  subst hx
  subst hlo
  have e := nI_toInt hj
  refine lv_tableIn hO.1 hO.2.1 hd (by rw [e]; omega) (by rw [e]; omega) (off := off) ?_ ht (kk H ls locs hR hL hq)
  rw [e]
  have : ((j : Int) - 0).toNat = j := by omega
  rw [this]
  exact ho
theorem r_tab (hO : cd_O w X cc own d mc ms l) {dflt lo hi : Int} {offs : Array Int} {len : Nat} {x : Int32} (hd : decode cc pc = .ok (.tableswitch dflt lo hi offs, len)) {off : Int} (h1 : ¬ x.toInt < lo) (h2 : ¬ hi < x.toInt) (ho : offs[(x.toInt - lo).toNat]? = some off) (ht : (pc : Int) + off = (tgt : Int)) (kk : cd_J w X k n S I tgt lv st) : cd_J w X k n S I pc lv (.int x :: st) := by
  intro H ls locs hR hL hq
  exact lv_tableIn hO.1 hO.2.1 hd h1 h2 ho ht (kk H ls locs hR hL hq)
theorem r_tabO (hO : cd_O w X cc own d mc ms l) {dflt lo hi : Int} {offs : Array Int} {len : Nat} {x : Int32} (hd : decode cc pc = .ok (.tableswitch dflt lo hi offs, len)) (h : x.toInt < lo ∨ hi < x.toInt) (ht : (pc : Int) + dflt = (tgt : Int)) (kk : cd_J w X k n S I tgt lv st) : cd_J w X k n S I pc lv (.int x :: st) := by
  intro H ls locs hR hL hq
  exact lv_tableOut hO.1 hO.2.1 hd h ht (kk H ls locs hR hL hq)
theorem r_look (hO : cd_O w X cc own d mc ms l) {dflt : Int} {ps : Array (Int × Int)} {len : Nat} {x : Int32} {off : Int} (hd : decode cc pc = .ok (.lookupswitch dflt ps, len)) (hp : (ps.toList.zip (ps.toList.drop 1)).all (fun (a, next) => a.1 < next.1) = true) (ho : Op.lookupswitch.offset ps.toList dflt x.toInt = off) (ht : (pc : Int) + off = (tgt : Int)) (kk : cd_J w X k n S I tgt lv st) : cd_J w X k n S I pc lv (.int x :: st) := by
  intro H ls locs hR hL hq
  exact lv_lookup hO.1 hO.2.1 hd hp ho ht (kk H ls locs hR hL hq)
/-- Math -/
theorem r_mmax (hO : cd_O w X cc own d mc ms l) (hE : cd_E w X nL rt mc ms nm post) {index : Nat} {x y : Int32} (hlk : Cond.methodLink own index Lib.Math.max.name ∈ cd_ws) (hcw : Cond.code Lib.Math.max.name Lib.Math.max.code 2 (some .int) ∈ cd_ws ∧ Cond.static Lib.Math.max.name ∈ cd_ws ∧ Cond.initialized "java/lang/Math" ∈ cd_ws) (hdd : 1 ≤ d) (hlv : lv.length = nL) (hcat : (st.map fun v => v.category).sum ≤ 8) (hk : k ≤ mc) (hn : n ≤ ms) (hd : cd_D 3 cc pc (.invokestatic index) pc') (kk : cd_J w X k n S I pc' lv (.int (if x < y then y else x) :: st)) : cd_J w X k n S I pc lv (.int y :: .int x :: st) := by
  intro H ls locs hR hL hq
  obtain ⟨hd, rfl⟩ := hd
  have h1 := hO.2.2.2.2.2.1
  have h2 := hO.2.2.2.2.2.2.1
  exact va_mmax hO.1 hO.2.1 (by rw [hE.1, hL.1, hlv]) hO.2.2.1 (hO.2.2.2.1 _ hlk) (hO.2.2.2.1 _ hcw.2.1) (hO.2.2.2.1 _ hcw.2.2) (hO.2.2.2.1 _ hcw.1) (by omega) (by omega) (Nat.le_trans hk hO.2.2.2.2.2.2.2.1) (Nat.le_trans hn hO.2.2.2.2.2.2.2.2.1) hd (kk H ls locs hR hL hq)
theorem r_mmin (hO : cd_O w X cc own d mc ms l) (hE : cd_E w X nL rt mc ms nm post) {index : Nat} {x y : Int32} (hlk : Cond.methodLink own index Lib.Math.min.name ∈ cd_ws) (hcw : Cond.code Lib.Math.min.name Lib.Math.min.code 2 (some .int) ∈ cd_ws ∧ Cond.static Lib.Math.min.name ∈ cd_ws ∧ Cond.initialized "java/lang/Math" ∈ cd_ws) (hdd : 1 ≤ d) (hlv : lv.length = nL) (hcat : (st.map fun v => v.category).sum ≤ 8) (hk : k ≤ mc) (hn : n ≤ ms) (hd : cd_D 3 cc pc (.invokestatic index) pc') (kk : cd_J w X k n S I pc' lv (.int (if y < x then y else x) :: st)) : cd_J w X k n S I pc lv (.int y :: .int x :: st) := by
  intro H ls locs hR hL hq
  obtain ⟨hd, rfl⟩ := hd
  have h1 := hO.2.2.2.2.2.1
  have h2 := hO.2.2.2.2.2.2.1
  exact va_mmin hO.1 hO.2.1 (by rw [hE.1, hL.1, hlv]) hO.2.2.1 (hO.2.2.2.1 _ hlk) (hO.2.2.2.1 _ hcw.2.1) (hO.2.2.2.1 _ hcw.2.2) (hO.2.2.2.1 _ hcw.1) (by omega) (by omega) (Nat.le_trans hk hO.2.2.2.2.2.2.2.1) (Nat.le_trans hn hO.2.2.2.2.2.2.2.2.1) hd (kk H ls locs hR hL hq)
end CDS
end
section
section CDT
variable {l : Launch} {w : cd_WT} {X : cd_XT} {cc : ByteArray} {own : String} {d mc ms : Nat} {k n : Nat} {S : cd_Sp} {I : cd_Mem} {pc pc' tgt : Nat} {lv : List (Option Value)} {st : List Value} {nL : Nat} {rt : Option FieldType} {nm : String} {post : cd_Pt}
theorem r_tabE (hO : cd_O w X cc own d mc ms l) {dflt lo hi : Int} {offs : Array Int} {len : Nat} {x v : Int32} (hd : decode cc pc = .ok (.tableswitch dflt lo hi offs, len)) (hx : x = v) {off : Int} (h1 : ¬ v.toInt < lo) (h2 : ¬ hi < v.toInt) (ho : offs[(v.toInt - lo).toNat]? = some off) (ht : (pc : Int) + off = (tgt : Int)) (kk : cd_J w X k n S I tgt lv st) : cd_J w X k n S I pc lv (.int x :: st) := by
  subst hx
  exact r_tab hO hd h1 h2 ho ht kk
theorem r_tabN (hO : cd_O w X cc own d mc ms l) {dflt lo hi : Int} {offs : Array Int} {len : Nat} {x : Int32} (hd : decode cc pc = .ok (.tableswitch dflt lo hi offs, len)) (hsz : hi - lo < (offs.size : Int)) (h : ∀ j : Nat, j < offs.size → x ≠ Int32.ofInt (lo + j) ∨ offs[j]? = some dflt) (ht : (pc : Int) + dflt = (tgt : Int)) (kk : cd_J w X k n S I tgt lv st) : cd_J w X k n S I pc lv (.int x :: st) := by
  by_cases h1 : x.toInt < lo
  · exact r_tabO hO hd (Or.inl h1) ht kk
  by_cases h2 : hi < x.toInt
  · exact r_tabO hO hd (Or.inr h2) ht kk
  have hj : (x.toInt - lo).toNat < offs.size := by omega
  rcases h _ hj with q | q
  · exfalso
    apply q
    have e : lo + ((x.toInt - lo).toNat : Int) = x.toInt := by omega
    rw [e, Int32.ofInt_toInt]
  · exact r_tab hO hd h1 h2 q ht kk
theorem r_lookE (hO : cd_O w X cc own d mc ms l) {dflt : Int} {ps : Array (Int × Int)} {len : Nat} {x v : Int32} {off : Int} (hd : decode cc pc = .ok (.lookupswitch dflt ps, len)) (hp : (ps.toList.zip (ps.toList.drop 1)).all (fun (a, next) => a.1 < next.1) = true) (hx : x = v) (ho : Op.lookupswitch.offset ps.toList dflt v.toInt = off) (ht : (pc : Int) + off = (tgt : Int)) (kk : cd_J w X k n S I tgt lv st) : cd_J w X k n S I pc lv (.int x :: st) := by
  subst hx
  exact r_look hO hd hp ho ht kk
theorem r_lookN (hO : cd_O w X cc own d mc ms l) {dflt : Int} {ps : Array (Int × Int)} {len : Nat} {x : Int32} {off : Int} (hd : decode cc pc = .ok (.lookupswitch dflt ps, len)) (hp : (ps.toList.zip (ps.toList.drop 1)).all (fun (a, next) => a.1 < next.1) = true) (ho : Op.lookupswitch.offset ps.toList dflt x.toInt = off) (ht : (pc : Int) + off = (tgt : Int)) (kk : cd_J w X k n S I tgt lv st) : cd_J w X k n S I pc lv (.int x :: st) := r_look hO hd hp ho ht kk
/-- static arrays -/
theorem r_stald (hO : cd_O w X cc own d mc ms l) {i j : Nat} (hi : i < 5) (hj : j < cd_sl i) (hd : cd_D 1 cc pc .iaload pc') (kk : cd_J w X k n S I pc' lv (.int ((cd_sv i).getD j 0) :: st)) : cd_J w X k n S I pc lv (.int (nI j) :: .ref (w.2.2.2.2.1 i) :: st) := by
  intro H ls locs hR hL hq
  obtain ⟨hd, rfl⟩ := hd
  obtain ⟨cell, h1, h2, h3, h4, -, h6, h7⟩ := (hO.2.2.2.2.1.2.1.1 i hi).2
  have hlo : w.2.2.2.2.1 i < w.1 := Nat.not_le.mp h7
  have hsl : cd_sl i < 100 := by unfold cd_sl; split <;> decide
  exact W.iald (v := .int ((cd_sv i).getD j 0)) hO.1 hO.2.1 (by rw [hR.2.2 _ hlo]; exact h1) h2 h3 (fun q => q.elim (nI_pos (by omega)) (fun h => by rw [nI_clamp (by omega)] at h; omega)) (by rw [nI_clamp (by omega)]; exact h6 j hj) rfl rfl hd (kk H ls locs hR hL hq)
theorem r_gets (hO : cd_O w X cc own d mc ms l) {index : Nat} (i : Nat) (hi : i < 5) (hlk : Cond.fieldLink own index "CatDoors" (cd_sn i) "[I" ∈ cd_ws) (hd : cd_D 3 cc pc (.getstatic index) pc') (kk : cd_J w X k n S I pc' lv (.ref (w.2.2.2.2.1 i) :: st)) : cd_J w X k n S I pc lv st := by
  intro H ls locs hR hL hq
  obtain ⟨hd, rfl⟩ := hd
  obtain ⟨cf, kf, fi, f, a, cell, h1, h2, h3, h4, h5, h6, h7, h8⟩ := (hO.2.2.2.2.1.2.1.1 i hi).1
  exact W.gets hO.1 hO.2.1 hO.2.2.1 (hO.2.2.2.1 _ hlk) h1 h2 h3 h4 (by rw [hR.2.2 _ (Nat.not_le.mp h8)]; exact h5) (fun e => by rw [e] at h6; cases h6) h7 rfl hd (kk H ls locs hR hL hq)
theorem r_getsN (hO : cd_O w X cc own d mc ms l) {index : Nat} {host : String} (i : Nat) (hi : i < 5) (hlk : (own, index, "CatDoors", cd_sn i, "[I", host) ∈ cd_nf) (hd : cd_D 3 cc pc (.getstatic index) pc') (kk : cd_J w X k n S I pc' lv (.ref (w.2.2.2.2.1 i) :: st)) : cd_J w X k n S I pc lv st := by
  intro H ls locs hR hL hq
  obtain ⟨hd, rfl⟩ := hd
  obtain ⟨cf, kf, fi, f, a, cell, h1, h2, h3, h4, h5, h6, h7, h8⟩ := (hO.2.2.2.2.1.2.1.1 i hi).1
  exact va_WgetsN hO.1 hO.2.1 hO.2.2.1 ((hO.2.2.2.2.1.2.2.2.1 _ hlk).use rfl) h1 h2 h3 h4 (by rw [hR.2.2 _ (Nat.not_le.mp h8)]; exact h5) (fun e => by rw [e] at h6; cases h6) h7 rfl hd (kk H ls locs hR hL hq)

theorem r_incN0 (hO : cd_O w X cc own d mc ms l) {x : Nat} {t : List (Option Value)} (hd : cd_D 3 cc pc (.iinc 0 1) pc') (kk : cd_J w X k n S I pc' (some (.int (nI (x + 1))) :: t) st) : cd_J w X k n S I pc (some (.int (nI x)) :: t) st := r_inc0 hO hd (show nI x + Int32.ofInt 1 = nI (x + 1) from nI_1 x) kk
theorem r_incN1 (hO : cd_O w X cc own d mc ms l) {x : Nat} {a0 : Option Value} {t : List (Option Value)} (hd : cd_D 3 cc pc (.iinc 1 1) pc') (hn : cd_nl a0 = true) (kk : cd_J w X k n S I pc' (a0 :: some (.int (nI (x + 1))) :: t) st) : cd_J w X k n S I pc (a0 :: some (.int (nI x)) :: t) st := r_inc1 hO hd (show nI x + Int32.ofInt 1 = nI (x + 1) from nI_1 x) hn kk
theorem r_incN2 (hO : cd_O w X cc own d mc ms l) {x : Nat} {a0 a1 : Option Value} {t : List (Option Value)} (hd : cd_D 3 cc pc (.iinc 2 1) pc') (hn : cd_nl a1 = true) (kk : cd_J w X k n S I pc' (a0 :: a1 :: some (.int (nI (x + 1))) :: t) st) : cd_J w X k n S I pc (a0 :: a1 :: some (.int (nI x)) :: t) st := r_inc2 hO hd (show nI x + Int32.ofInt 1 = nI (x + 1) from nI_1 x) hn kk
theorem r_incN3 (hO : cd_O w X cc own d mc ms l) {x : Nat} {a0 a1 a2 : Option Value} {t : List (Option Value)} (hd : cd_D 3 cc pc (.iinc 3 1) pc') (hn : cd_nl a2 = true) (kk : cd_J w X k n S I pc' (a0 :: a1 :: a2 :: some (.int (nI (x + 1))) :: t) st) : cd_J w X k n S I pc (a0 :: a1 :: a2 :: some (.int (nI x)) :: t) st := r_inc3 hO hd (show nI x + Int32.ofInt 1 = nI (x + 1) from nI_1 x) hn kk
theorem r_incN4 (hO : cd_O w X cc own d mc ms l) {x : Nat} {a0 a1 a2 a3 : Option Value} {t : List (Option Value)} (hd : cd_D 3 cc pc (.iinc 4 1) pc') (hn : cd_nl a3 = true) (kk : cd_J w X k n S I pc' (a0 :: a1 :: a2 :: a3 :: some (.int (nI (x + 1))) :: t) st) : cd_J w X k n S I pc (a0 :: a1 :: a2 :: a3 :: some (.int (nI x)) :: t) st := r_inc4 hO hd (show nI x + Int32.ofInt 1 = nI (x + 1) from nI_1 x) hn kk
theorem r_incN5 (hO : cd_O w X cc own d mc ms l) {x : Nat} {a0 a1 a2 a3 a4 : Option Value} {t : List (Option Value)} (hd : cd_D 3 cc pc (.iinc 5 1) pc') (hn : cd_nl a4 = true) (kk : cd_J w X k n S I pc' (a0 :: a1 :: a2 :: a3 :: a4 :: some (.int (nI (x + 1))) :: t) st) : cd_J w X k n S I pc (a0 :: a1 :: a2 :: a3 :: a4 :: some (.int (nI x)) :: t) st := r_inc5 hO hd (show nI x + Int32.ofInt 1 = nI (x + 1) from nI_1 x) hn kk
theorem r_incN6 (hO : cd_O w X cc own d mc ms l) {x : Nat} {a0 a1 a2 a3 a4 a5 : Option Value} {t : List (Option Value)} (hd : cd_D 3 cc pc (.iinc 6 1) pc') (hn : cd_nl a5 = true) (kk : cd_J w X k n S I pc' (a0 :: a1 :: a2 :: a3 :: a4 :: a5 :: some (.int (nI (x + 1))) :: t) st) : cd_J w X k n S I pc (a0 :: a1 :: a2 :: a3 :: a4 :: a5 :: some (.int (nI x)) :: t) st := r_inc6 hO hd (show nI x + Int32.ofInt 1 = nI (x + 1) from nI_1 x) hn kk
theorem r_incN7 (hO : cd_O w X cc own d mc ms l) {x : Nat} {a0 a1 a2 a3 a4 a5 a6 : Option Value} {t : List (Option Value)} (hd : cd_D 3 cc pc (.iinc 7 1) pc') (hn : cd_nl a6 = true) (kk : cd_J w X k n S I pc' (a0 :: a1 :: a2 :: a3 :: a4 :: a5 :: a6 :: some (.int (nI (x + 1))) :: t) st) : cd_J w X k n S I pc (a0 :: a1 :: a2 :: a3 :: a4 :: a5 :: a6 :: some (.int (nI x)) :: t) st := r_inc7 hO hd (show nI x + Int32.ofInt 1 = nI (x + 1) from nI_1 x) hn kk
theorem r_incN8 (hO : cd_O w X cc own d mc ms l) {x : Nat} {a0 a1 a2 a3 a4 a5 a6 a7 : Option Value} {t : List (Option Value)} (hd : cd_D 3 cc pc (.iinc 8 1) pc') (hn : cd_nl a7 = true) (kk : cd_J w X k n S I pc' (a0 :: a1 :: a2 :: a3 :: a4 :: a5 :: a6 :: a7 :: some (.int (nI (x + 1))) :: t) st) : cd_J w X k n S I pc (a0 :: a1 :: a2 :: a3 :: a4 :: a5 :: a6 :: a7 :: some (.int (nI x)) :: t) st := r_inc8 hO hd (show nI x + Int32.ofInt 1 = nI (x + 1) from nI_1 x) hn kk
theorem r_incN9 (hO : cd_O w X cc own d mc ms l) {x : Nat} {a0 a1 a2 a3 a4 a5 a6 a7 a8 : Option Value} {t : List (Option Value)} (hd : cd_D 3 cc pc (.iinc 9 1) pc') (hn : cd_nl a8 = true) (kk : cd_J w X k n S I pc' (a0 :: a1 :: a2 :: a3 :: a4 :: a5 :: a6 :: a7 :: a8 :: some (.int (nI (x + 1))) :: t) st) : cd_J w X k n S I pc (a0 :: a1 :: a2 :: a3 :: a4 :: a5 :: a6 :: a7 :: a8 :: some (.int (nI x)) :: t) st := r_inc9 hO hd (show nI x + Int32.ofInt 1 = nI (x + 1) from nI_1 x) hn kk
theorem r_incN10 (hO : cd_O w X cc own d mc ms l) {x : Nat} {a0 a1 a2 a3 a4 a5 a6 a7 a8 a9 : Option Value} {t : List (Option Value)} (hd : cd_D 3 cc pc (.iinc 10 1) pc') (hn : cd_nl a9 = true) (kk : cd_J w X k n S I pc' (a0 :: a1 :: a2 :: a3 :: a4 :: a5 :: a6 :: a7 :: a8 :: a9 :: some (.int (nI (x + 1))) :: t) st) : cd_J w X k n S I pc (a0 :: a1 :: a2 :: a3 :: a4 :: a5 :: a6 :: a7 :: a8 :: a9 :: some (.int (nI x)) :: t) st := r_inc10 hO hd (show nI x + Int32.ofInt 1 = nI (x + 1) from nI_1 x) hn kk
theorem r_incN11 (hO : cd_O w X cc own d mc ms l) {x : Nat} {a0 a1 a2 a3 a4 a5 a6 a7 a8 a9 a10 : Option Value} {t : List (Option Value)} (hd : cd_D 3 cc pc (.iinc 11 1) pc') (hn : cd_nl a10 = true) (kk : cd_J w X k n S I pc' (a0 :: a1 :: a2 :: a3 :: a4 :: a5 :: a6 :: a7 :: a8 :: a9 :: a10 :: some (.int (nI (x + 1))) :: t) st) : cd_J w X k n S I pc (a0 :: a1 :: a2 :: a3 :: a4 :: a5 :: a6 :: a7 :: a8 :: a9 :: a10 :: some (.int (nI x)) :: t) st := r_inc11 hO hd (show nI x + Int32.ofInt 1 = nI (x + 1) from nI_1 x) hn kk
theorem r_incN12 (hO : cd_O w X cc own d mc ms l) {x : Nat} {a0 a1 a2 a3 a4 a5 a6 a7 a8 a9 a10 a11 : Option Value} {t : List (Option Value)} (hd : cd_D 3 cc pc (.iinc 12 1) pc') (hn : cd_nl a11 = true) (kk : cd_J w X k n S I pc' (a0 :: a1 :: a2 :: a3 :: a4 :: a5 :: a6 :: a7 :: a8 :: a9 :: a10 :: a11 :: some (.int (nI (x + 1))) :: t) st) : cd_J w X k n S I pc (a0 :: a1 :: a2 :: a3 :: a4 :: a5 :: a6 :: a7 :: a8 :: a9 :: a10 :: a11 :: some (.int (nI x)) :: t) st := r_inc12 hO hd (show nI x + Int32.ofInt 1 = nI (x + 1) from nI_1 x) hn kk
theorem r_incN13 (hO : cd_O w X cc own d mc ms l) {x : Nat} {a0 a1 a2 a3 a4 a5 a6 a7 a8 a9 a10 a11 a12 : Option Value} {t : List (Option Value)} (hd : cd_D 3 cc pc (.iinc 13 1) pc') (hn : cd_nl a12 = true) (kk : cd_J w X k n S I pc' (a0 :: a1 :: a2 :: a3 :: a4 :: a5 :: a6 :: a7 :: a8 :: a9 :: a10 :: a11 :: a12 :: some (.int (nI (x + 1))) :: t) st) : cd_J w X k n S I pc (a0 :: a1 :: a2 :: a3 :: a4 :: a5 :: a6 :: a7 :: a8 :: a9 :: a10 :: a11 :: a12 :: some (.int (nI x)) :: t) st := r_inc13 hO hd (show nI x + Int32.ofInt 1 = nI (x + 1) from nI_1 x) hn kk
theorem r_incN14 (hO : cd_O w X cc own d mc ms l) {x : Nat} {a0 a1 a2 a3 a4 a5 a6 a7 a8 a9 a10 a11 a12 a13 : Option Value} {t : List (Option Value)} (hd : cd_D 3 cc pc (.iinc 14 1) pc') (hn : cd_nl a13 = true) (kk : cd_J w X k n S I pc' (a0 :: a1 :: a2 :: a3 :: a4 :: a5 :: a6 :: a7 :: a8 :: a9 :: a10 :: a11 :: a12 :: a13 :: some (.int (nI (x + 1))) :: t) st) : cd_J w X k n S I pc (a0 :: a1 :: a2 :: a3 :: a4 :: a5 :: a6 :: a7 :: a8 :: a9 :: a10 :: a11 :: a12 :: a13 :: some (.int (nI x)) :: t) st := r_inc14 hO hd (show nI x + Int32.ofInt 1 = nI (x + 1) from nI_1 x) hn kk
def cd_st2 (lv : List (Option Value)) (i : Nat) (v : Value) (lv' : List (Option Value)) : Prop := i + 1 < lv.length ∧ lv'.length = lv.length ∧ ∀ (j : Nat) (u : Value), lv'[j]? = some (some u) → (j = i ∧ u = v) ∨ (j ≠ i ∧ j ≠ i + 1 ∧ lv[j]? = some (some u) ∧ (j + 1 = i → u.category = 1))
theorem cd_store2 {ls : Array Slot} {lv lv' : List (Option Value)} {i : Nat} {v : Value} (h : cd_L ls lv) (hs : cd_st2 lv i v lv') (hc : v.category = 2) : ∃ ls', storeLocals ls i v = some ls' ∧ cd_L ls' lv' := by
  have h0 : lv_has ls lv.length [] := ⟨h.1, h.2.1, fun q hq => by cases hq⟩
  obtain ⟨ls', e', h'⟩ := lv_store2 (v := v) h0 hs.1 hc
  refine ⟨ls', e', by rw [hs.2.1]; exact h'.1, h'.2.1, fun j u hj => ?_⟩
  rcases hs.2.2 j u hj with ⟨rfl, rfl⟩ | ⟨hne, hne2, hj, hcat⟩
  · exact h'.2.2 _ List.mem_cons_self
  · have h1 : lv_has ls lv.length [(j, u)] := ⟨h.1, h.2.1, fun q hq => by
      rw [List.mem_singleton.mp hq]
      exact h.2.2 j u hj⟩
    obtain ⟨ls2, e2, h2⟩ := lv_store2 (v := v) h1 hs.1 hc
    have : ls2 = ls' := Option.some.inj (e2.symm.trans e')
    subst this
    refine h2.2.2 (j, u) (List.mem_cons_of_mem _ (List.mem_filter.mpr ⟨List.mem_singleton.mpr rfl, ?_⟩))
    have hb : (j == i) = false := by simpa using hne
    have hb2 : (j == i + 1) = false := by simpa using hne2
    simp only [hb, hb2, Bool.not_false, Bool.true_and, Bool.not_eq_true', Bool.and_eq_false_iff]
    by_cases hji : j + 1 = i
    · exact Or.inr (by rw [hcat hji]; rfl)
    · exact Or.inl (by simpa using hji)
theorem cd_st2_set {lv : List (Option Value)} {i : Nat} {v : Value} (h : i + 1 < lv.length) (hp : ∀ j u, j + 1 = i → lv[j]? = some (some u) → u.category = 1) : cd_st2 lv i v ((lv.set i (some v)).set (i + 1) none) := by
  refine ⟨h, by simp, fun j u hj => ?_⟩
  by_cases hj2 : j = i + 1
  · subst hj2
    rw [List.getElem?_set_self (by simpa using h)] at hj
    cases hj
  · rw [List.getElem?_set_ne (fun q => hj2 q.symm)] at hj
    by_cases hji : j = i
    · subst hji
      rw [List.getElem?_set_self (by omega)] at hj
      cases hj
      exact Or.inl ⟨rfl, rfl⟩
    · rw [List.getElem?_set_ne (fun q => hji q.symm)] at hj
      exact Or.inr ⟨hji, hj2, hj, fun q => hp j u q hj⟩
theorem r_storeL (hO : cd_O w X cc own d mc ms l) {i : Nat} {x : Int64} {lv' : List (Option Value)} (hd : cd_D_lstore cc pc i pc') (hs : cd_st2 lv i (.long x) lv') (kk : cd_J w X k n S I pc' lv' st) : cd_J w X k n S I pc lv (.long x :: st) := by
  intro H ls locs hR hL hq
  obtain ⟨ls', e', hL'⟩ := cd_store2 hL hs rfl
  have kk := kk H ls' locs hR hL' hq
  intro T hT Y
  obtain ⟨t, a, b⟩ := kk T hT Y
  refine ⟨t, ?_, b⟩
  have hx := hO.1
  have hb := hO.2.1
  rcases hd with ⟨hdg, rfl⟩ | ⟨z, ⟨hdg, rfl⟩, rfl⟩
  · jvm_step Y.here [Y.here.top, ↓top_set Y.here.top, hx, hb, hdg, e']
    exact a
  · jvm_step Y.here [Y.here.top, ↓top_set Y.here.top, hx, hb, hdg, e']
    exact a
theorem r_sL3 (hO : cd_O w X cc own d mc ms l) {x : Int64} {a0 a1 a2 a3 a4 : Option Value} {t : List (Option Value)} (hd : cd_D_lstore cc pc 3 pc') (hn : cd_nl a2 = true) (kk : cd_J w X k n S I pc' (a0 :: a1 :: a2 :: some (.long x) :: none :: t) st) : cd_J w X k n S I pc (a0 :: a1 :: a2 :: a3 :: a4 :: t) (.long x :: st) :=
  r_storeL hO hd (cd_st2_set (by simp) (fun j u hj hu => by
    have hj2 : j = 2 := by omega
    subst hj2
    have : a2 = some u := Option.some.inj hu
    subst this
    exact eq_of_beq hn)) kk
theorem r_sL4 (hO : cd_O w X cc own d mc ms l) {x : Int64} {a0 a1 a2 a3 a4 a5 : Option Value} {t : List (Option Value)} (hd : cd_D_lstore cc pc 4 pc') (hn : cd_nl a3 = true) (kk : cd_J w X k n S I pc' (a0 :: a1 :: a2 :: a3 :: some (.long x) :: none :: t) st) : cd_J w X k n S I pc (a0 :: a1 :: a2 :: a3 :: a4 :: a5 :: t) (.long x :: st) :=
  r_storeL hO hd (cd_st2_set (by simp) (fun j u hj hu => by
    have hj2 : j = 3 := by omega
    subst hj2
    have : a3 = some u := Option.some.inj hu
    subst this
    exact eq_of_beq hn)) kk
theorem r_sL7 (hO : cd_O w X cc own d mc ms l) {x : Int64} {a0 a1 a2 a3 a4 a5 a6 a7 a8 : Option Value} {t : List (Option Value)} (hd : cd_D_lstore cc pc 7 pc') (hn : cd_nl a6 = true) (kk : cd_J w X k n S I pc' (a0 :: a1 :: a2 :: a3 :: a4 :: a5 :: a6 :: some (.long x) :: none :: t) st) : cd_J w X k n S I pc (a0 :: a1 :: a2 :: a3 :: a4 :: a5 :: a6 :: a7 :: a8 :: t) (.long x :: st) :=
  r_storeL hO hd (cd_st2_set (by simp) (fun j u hj hu => by
    have hj2 : j = 6 := by omega
    subst hj2
    have : a6 = some u := Option.some.inj hu
    subst this
    exact eq_of_beq hn)) kk
theorem r_jn2 {pcJ : Nat} {u v : Value} (P : Int32 → Prop) (h : ∀ x, P x → cd_J w X k n S I pcJ lv (.int x :: st)) (hb : (∀ x, P x → cd_J w X k n S I pcJ lv (.int x :: st)) → cd_J w X k n S I pc lv (u :: v :: st)) : cd_J w X k n S I pc lv (u :: v :: st) := hb h
theorem r_jn1 {pcJ : Nat} {u : Value} (P : Int32 → Prop) (h : ∀ x, P x → cd_J w X k n S I pcJ lv (.int x :: st)) (hb : (∀ x, P x → cd_J w X k n S I pcJ lv (.int x :: st)) → cd_J w X k n S I pc lv (u :: st)) : cd_J w X k n S I pc lv (u :: st) := hb h
theorem r_jn0 {pcJ : Nat} (P : Int32 → Prop) (h : ∀ x, P x → cd_J w X k n S I pcJ lv (.int x :: st)) (hb : (∀ x, P x → cd_J w X k n S I pcJ lv (.int x :: st)) → cd_J w X k n S I pc lv st) : cd_J w X k n S I pc lv st := hb h
theorem r_jnL {pcJ : Nat} {u v : Value} (P : Int64 → Prop) (h : ∀ x, P x → cd_J w X k n S I pcJ lv (.long x :: st)) (hb : (∀ x, P x → cd_J w X k n S I pcJ lv (.long x :: st)) → cd_J w X k n S I pc lv (u :: v :: st)) : cd_J w X k n S I pc lv (u :: v :: st) := hb h
theorem r_gen (h : ∀ J : cd_Mem, J = I → cd_J w X k n S J pc lv st) : cd_J w X k n S I pc lv st := h I rfl
theorem cd_ret1 {S : cd_Sp} {I : cd_Mem} {c : Prop} [Decidable c] (h : c) : cd_Fi S (cd_bI c) I (some (.int (nI 1))) S I := ⟨by rw [cd_bI, if_pos h]; rfl, rfl, rfl⟩
theorem cd_ret0 {S : cd_Sp} {I : cd_Mem} {c : Prop} [Decidable c] (h : ¬ c) : cd_Fi S (cd_bI c) I (some (.int (nI 0))) S I := ⟨by rw [cd_bI, if_neg h]; rfl, rfl, rfl⟩
end CDT
end
section
theorem cd_mem {q : Cond} (i : Nat) (h : lw_tbl[i]? = some q) (hg : goodWord q = true) : q ∈ cd_ws := List.mem_filter.mpr ⟨List.mem_of_getElem? h, hg⟩
theorem cd_ci0 : cd_CI 0 cd_R0 cd_T0 5 cd_t0 := ⟨rfl, cd_in0, cd_ty0, cd_nm0⟩
theorem cd_ci1 : cd_CI 1 cd_R1 cd_T1 9 cd_t1 := ⟨rfl, cd_in1, cd_ty1, cd_nm1⟩
theorem cd_ci2 : cd_CI 2 cd_R2 cd_T2 3 cd_t2 := ⟨rfl, cd_in2, cd_ty2, cd_nm2⟩
theorem cd_ci3 : cd_CI 3 cd_R3 cd_T3 4 cd_t3 := ⟨rfl, cd_in3, cd_ty3, cd_nm3⟩
theorem cd_ci4 : cd_CI 4 cd_R4 cd_T4 9 cd_t4 := ⟨rfl, cd_in4, cd_ty4, cd_nm4⟩
theorem cd_ci5 : cd_CI 5 cd_R5 cd_T5 4 cd_t5 := ⟨rfl, cd_in5, cd_ty5, cd_nm5⟩
theorem cd_ci6 : cd_CI 6 cd_R6 cd_T6 10 cd_t6 := ⟨rfl, cd_in6, cd_ty6, cd_nm6⟩
theorem cd_ci7 : cd_CI 7 cd_R7 cd_T7 33 cd_t7 := ⟨rfl, cd_in7, cd_ty7, cd_nm7⟩
abbrev b_M_init : ByteArray := prog_9_method_1_code
abbrev m_M_init : cd_MT := (⟨"CatDoorsModel", "<init>", "()V"⟩, b_M_init, 1, none)
set_option maxRecDepth 100000 in
theorem mc_M_init : Cond.code m_M_init.1 m_M_init.2.1 m_M_init.2.2.1 m_M_init.2.2.2 ∈ cd_ws := cd_mem 829 rfl rfl
theorem mf_M_init : cd_MI m_M_init 0 := ⟨⟨mc_M_init, cd_mem 61 (by decide +kernel) rfl, by decide +kernel, by decide⟩, rfl, cd_mem 828 (by decide +kernel) rfl, rfl⟩
abbrev b_M_in : ByteArray := prog_9_method_2_code
abbrev m_M_in : cd_MT := (⟨"CatDoorsModel", "in", "(III)Z"⟩, b_M_in, 3, some .boolean)
set_option maxRecDepth 100000 in
theorem mc_M_in : Cond.code m_M_in.1 m_M_in.2.1 m_M_in.2.2.1 m_M_in.2.2.2 ∈ cd_ws := cd_mem 939 rfl rfl
theorem mf_M_in : cd_MS m_M_in 3 := ⟨⟨mc_M_in, cd_mem 61 (by decide +kernel) rfl, by decide +kernel, by decide⟩, cd_mem 938 (by decide +kernel) rfl⟩
abbrev b_M_within : ByteArray := prog_9_method_3_code
abbrev m_M_within : cd_MT := (⟨"CatDoorsModel", "within", "(III)I"⟩, b_M_within, 3, some .int)
set_option maxRecDepth 100000 in
theorem mc_M_within : Cond.code m_M_within.1 m_M_within.2.1 m_M_within.2.2.1 m_M_within.2.2.2 ∈ cd_ws := cd_mem 982 rfl rfl
theorem mf_M_within : cd_MS m_M_within 3 := ⟨⟨mc_M_within, cd_mem 61 (by decide +kernel) rfl, by decide +kernel, by decide⟩, cd_mem 981 (by decide +kernel) rfl⟩
abbrev b_M_copyAll : ByteArray := prog_9_method_4_code
abbrev m_M_copyAll : cd_MT := (⟨"CatDoorsModel", "copyAll", "([I[I)V"⟩, b_M_copyAll, 3, none)
set_option maxRecDepth 100000 in
theorem mc_M_copyAll : Cond.code m_M_copyAll.1 m_M_copyAll.2.1 m_M_copyAll.2.2.1 m_M_copyAll.2.2.2 ∈ cd_ws := cd_mem 1270 rfl rfl
theorem mf_M_copyAll : cd_MS m_M_copyAll 2 := ⟨⟨mc_M_copyAll, cd_mem 61 (by decide +kernel) rfl, by decide +kernel, by decide⟩, cd_mem 1269 (by decide +kernel) rfl⟩
abbrev b_M_isAsking : ByteArray := prog_9_method_5_code
abbrev m_M_isAsking : cd_MT := (⟨"CatDoorsModel", "isAsking", "(I)Z"⟩, b_M_isAsking, 2, some .boolean)
set_option maxRecDepth 100000 in
theorem mc_M_isAsking : Cond.code m_M_isAsking.1 m_M_isAsking.2.1 m_M_isAsking.2.2.1 m_M_isAsking.2.2.2 ∈ cd_ws := cd_mem 960 rfl rfl
theorem mf_M_isAsking : cd_MV m_M_isAsking 1 := ⟨⟨mc_M_isAsking, cd_mem 61 (by decide +kernel) rfl, by decide +kernel, by decide⟩, cd_mem 959 (by decide +kernel) rfl, cd_mem 18 (by decide +kernel) rfl⟩
abbrev b_M_of : ByteArray := prog_9_method_6_code
abbrev m_M_of : cd_MT := (⟨"CatDoorsModel", "of", "(II)I"⟩, b_M_of, 3, some .int)
set_option maxRecDepth 100000 in
theorem mc_M_of : Cond.code m_M_of.1 m_M_of.2.1 m_M_of.2.2.1 m_M_of.2.2.2 ∈ cd_ws := cd_mem 964 rfl rfl
theorem mf_M_of : cd_MV m_M_of 2 := ⟨⟨mc_M_of, cd_mem 61 (by decide +kernel) rfl, by decide +kernel, by decide⟩, cd_mem 963 (by decide +kernel) rfl, cd_mem 19 (by decide +kernel) rfl⟩
abbrev b_M_put : ByteArray := prog_9_method_7_code
abbrev m_M_put : cd_MT := (⟨"CatDoorsModel", "put", "(III)V"⟩, b_M_put, 4, none)
set_option maxRecDepth 100000 in
theorem mc_M_put : Cond.code m_M_put.1 m_M_put.2.1 m_M_put.2.2.1 m_M_put.2.2.2 ∈ cd_ws := cd_mem 952 rfl rfl
theorem mf_M_put : cd_MV m_M_put 3 := ⟨⟨mc_M_put, cd_mem 61 (by decide +kernel) rfl, by decide +kernel, by decide⟩, cd_mem 951 (by decide +kernel) rfl, cd_mem 17 (by decide +kernel) rfl⟩
abbrev b_M_becomes : ByteArray := prog_9_method_8_code
abbrev m_M_becomes : cd_MT := (⟨"CatDoorsModel", "becomes", "(II)I"⟩, b_M_becomes, 4, some .int)
set_option maxRecDepth 100000 in
theorem mc_M_becomes : Cond.code m_M_becomes.1 m_M_becomes.2.1 m_M_becomes.2.2.1 m_M_becomes.2.2.2 ∈ cd_ws := cd_mem 1018 rfl rfl
theorem mf_M_becomes : cd_MV m_M_becomes 2 := ⟨⟨mc_M_becomes, cd_mem 61 (by decide +kernel) rfl, by decide +kernel, by decide⟩, cd_mem 1017 (by decide +kernel) rfl, cd_mem 28 (by decide +kernel) rfl⟩
abbrev b_M_comes : ByteArray := prog_9_method_9_code
abbrev m_M_comes : cd_MT := (⟨"CatDoorsModel", "comes", "(IIII)I"⟩, b_M_comes, 6, some .int)
set_option maxRecDepth 100000 in
theorem mc_M_comes : Cond.code m_M_comes.1 m_M_comes.2.1 m_M_comes.2.2.1 m_M_comes.2.2.2 ∈ cd_ws := cd_mem 948 rfl rfl
theorem mf_M_comes : cd_MV m_M_comes 4 := ⟨⟨mc_M_comes, cd_mem 61 (by decide +kernel) rfl, by decide +kernel, by decide⟩, cd_mem 947 (by decide +kernel) rfl, cd_mem 16 (by decide +kernel) rfl⟩
abbrev b_M_isOf : ByteArray := prog_9_method_10_code
abbrev m_M_isOf : cd_MT := (⟨"CatDoorsModel", "isOf", "(II)Z"⟩, b_M_isOf, 2, some .boolean)
set_option maxRecDepth 100000 in
theorem mc_M_isOf : Cond.code m_M_isOf.1 m_M_isOf.2.1 m_M_isOf.2.2.1 m_M_isOf.2.2.2 ∈ cd_ws := cd_mem 942 rfl rfl
theorem mf_M_isOf : cd_MS m_M_isOf 2 := ⟨⟨mc_M_isOf, cd_mem 61 (by decide +kernel) rfl, by decide +kernel, by decide⟩, cd_mem 941 (by decide +kernel) rfl⟩
abbrev b_M_asking : ByteArray := prog_9_method_11_code
abbrev m_M_asking : cd_MT := (⟨"CatDoorsModel", "asking", "(IIII)I"⟩, b_M_asking, 5, some .int)
set_option maxRecDepth 100000 in
theorem mc_M_asking : Cond.code m_M_asking.1 m_M_asking.2.1 m_M_asking.2.2.1 m_M_asking.2.2.2 ∈ cd_ws := cd_mem 936 rfl rfl
theorem mf_M_asking : cd_MV m_M_asking 4 := ⟨⟨mc_M_asking, cd_mem 61 (by decide +kernel) rfl, by decide +kernel, by decide⟩, cd_mem 934 (by decide +kernel) rfl, cd_mem 935 (by decide +kernel) rfl⟩
abbrev b_M_pressesOf : ByteArray := prog_9_method_12_code
abbrev m_M_pressesOf : cd_MT := (⟨"CatDoorsModel", "pressesOf", "(I)I"⟩, b_M_pressesOf, 5, some .int)
set_option maxRecDepth 100000 in
theorem mc_M_pressesOf : Cond.code m_M_pressesOf.1 m_M_pressesOf.2.1 m_M_pressesOf.2.2.1 m_M_pressesOf.2.2.2 ∈ cd_ws := cd_mem 968 rfl rfl
theorem mf_M_pressesOf : cd_MV m_M_pressesOf 1 := ⟨⟨mc_M_pressesOf, cd_mem 61 (by decide +kernel) rfl, by decide +kernel, by decide⟩, cd_mem 967 (by decide +kernel) rfl, cd_mem 20 (by decide +kernel) rfl⟩
abbrev b_M_learnsOf : ByteArray := prog_9_method_13_code
abbrev m_M_learnsOf : cd_MT := (⟨"CatDoorsModel", "learnsOf", "(I)I"⟩, b_M_learnsOf, 2, some .int)
set_option maxRecDepth 100000 in
theorem mc_M_learnsOf : Cond.code m_M_learnsOf.1 m_M_learnsOf.2.1 m_M_learnsOf.2.2.1 m_M_learnsOf.2.2.2 ∈ cd_ws := cd_mem 986 rfl rfl
theorem mf_M_learnsOf : cd_MV m_M_learnsOf 1 := ⟨⟨mc_M_learnsOf, cd_mem 61 (by decide +kernel) rfl, by decide +kernel, by decide⟩, cd_mem 985 (by decide +kernel) rfl, cd_mem 23 (by decide +kernel) rfl⟩
abbrev b_M_forgetsOf : ByteArray := prog_9_method_14_code
abbrev m_M_forgetsOf : cd_MT := (⟨"CatDoorsModel", "forgetsOf", "(I)I"⟩, b_M_forgetsOf, 2, some .int)
set_option maxRecDepth 100000 in
theorem mc_M_forgetsOf : Cond.code m_M_forgetsOf.1 m_M_forgetsOf.2.1 m_M_forgetsOf.2.2.1 m_M_forgetsOf.2.2.2 ∈ cd_ws := cd_mem 990 rfl rfl
theorem mf_M_forgetsOf : cd_MV m_M_forgetsOf 1 := ⟨⟨mc_M_forgetsOf, cd_mem 61 (by decide +kernel) rfl, by decide +kernel, by decide⟩, cd_mem 989 (by decide +kernel) rfl, cd_mem 24 (by decide +kernel) rfl⟩
abbrev b_M_scratchesOf : ByteArray := prog_9_method_15_code
abbrev m_M_scratchesOf : cd_MT := (⟨"CatDoorsModel", "scratchesOf", "(I)I"⟩, b_M_scratchesOf, 2, some .int)
set_option maxRecDepth 100000 in
theorem mc_M_scratchesOf : Cond.code m_M_scratchesOf.1 m_M_scratchesOf.2.1 m_M_scratchesOf.2.2.1 m_M_scratchesOf.2.2.2 ∈ cd_ws := cd_mem 994 rfl rfl
theorem mf_M_scratchesOf : cd_MV m_M_scratchesOf 1 := ⟨⟨mc_M_scratchesOf, cd_mem 61 (by decide +kernel) rfl, by decide +kernel, by decide⟩, cd_mem 993 (by decide +kernel) rfl, cd_mem 25 (by decide +kernel) rfl⟩
abbrev b_M_meantBy : ByteArray := prog_9_method_16_code
abbrev m_M_meantBy : cd_MT := (⟨"CatDoorsModel", "meantBy", "(I)I"⟩, b_M_meantBy, 3, some .int)
set_option maxRecDepth 100000 in
theorem mc_M_meantBy : Cond.code m_M_meantBy.1 m_M_meantBy.2.1 m_M_meantBy.2.2.1 m_M_meantBy.2.2.2 ∈ cd_ws := cd_mem 998 rfl rfl
theorem mf_M_meantBy : cd_MV m_M_meantBy 1 := ⟨⟨mc_M_meantBy, cd_mem 61 (by decide +kernel) rfl, by decide +kernel, by decide⟩, cd_mem 997 (by decide +kernel) rfl, cd_mem 26 (by decide +kernel) rfl⟩
abbrev b_M_worthOf : ByteArray := prog_9_method_17_code
abbrev m_M_worthOf : cd_MT := (⟨"CatDoorsModel", "worthOf", "(I)I"⟩, b_M_worthOf, 3, some .int)
set_option maxRecDepth 100000 in
theorem mc_M_worthOf : Cond.code m_M_worthOf.1 m_M_worthOf.2.1 m_M_worthOf.2.2.1 m_M_worthOf.2.2.2 ∈ cd_ws := cd_mem 1002 rfl rfl
theorem mf_M_worthOf : cd_MV m_M_worthOf 1 := ⟨⟨mc_M_worthOf, cd_mem 61 (by decide +kernel) rfl, by decide +kernel, by decide⟩, cd_mem 1001 (by decide +kernel) rfl, cd_mem 27 (by decide +kernel) rfl⟩
abbrev b_M_told : ByteArray := prog_9_method_18_code
abbrev m_M_told : cd_MT := (⟨"CatDoorsModel", "told", "(II)I"⟩, b_M_told, 3, some .int)
set_option maxRecDepth 100000 in
theorem mc_M_told : Cond.code m_M_told.1 m_M_told.2.1 m_M_told.2.2.1 m_M_told.2.2.2 ∈ cd_ws := cd_mem 956 rfl rfl
theorem mf_M_told : cd_MV m_M_told 2 := ⟨⟨mc_M_told, cd_mem 61 (by decide +kernel) rfl, by decide +kernel, by decide⟩, cd_mem 954 (by decide +kernel) rfl, cd_mem 955 (by decide +kernel) rfl⟩
abbrev b_M_isUnder : ByteArray := prog_9_method_19_code
abbrev m_M_isUnder : cd_MT := (⟨"CatDoorsModel", "isUnder", "(II)Z"⟩, b_M_isUnder, 2, some .boolean)
set_option maxRecDepth 100000 in
theorem mc_M_isUnder : Cond.code m_M_isUnder.1 m_M_isUnder.2.1 m_M_isUnder.2.2.1 m_M_isUnder.2.2.2 ∈ cd_ws := cd_mem 1009 rfl rfl
theorem mf_M_isUnder : cd_MS m_M_isUnder 2 := ⟨⟨mc_M_isUnder, cd_mem 61 (by decide +kernel) rfl, by decide +kernel, by decide⟩, cd_mem 1008 (by decide +kernel) rfl⟩
abbrev b_M_as : ByteArray := prog_9_method_20_code
abbrev m_M_as : cd_MT := (⟨"CatDoorsModel", "as", "(II)I"⟩, b_M_as, 3, some .int)
set_option maxRecDepth 100000 in
theorem mc_M_as : Cond.code m_M_as.1 m_M_as.2.1 m_M_as.2.2.1 m_M_as.2.2.2 ∈ cd_ws := cd_mem 1006 rfl rfl
theorem mf_M_as : cd_MV m_M_as 2 := ⟨⟨mc_M_as, cd_mem 61 (by decide +kernel) rfl, by decide +kernel, by decide⟩, cd_mem 1004 (by decide +kernel) rfl, cd_mem 1005 (by decide +kernel) rfl⟩
abbrev b_M_turns : ByteArray := prog_9_method_21_code
abbrev m_M_turns : cd_MT := (⟨"CatDoorsModel", "turns", "(II)I"⟩, b_M_turns, 3, some .int)
set_option maxRecDepth 100000 in
theorem mc_M_turns : Cond.code m_M_turns.1 m_M_turns.2.1 m_M_turns.2.2.1 m_M_turns.2.2.2 ∈ cd_ws := cd_mem 1014 rfl rfl
theorem mf_M_turns : cd_MV m_M_turns 2 := ⟨⟨mc_M_turns, cd_mem 61 (by decide +kernel) rfl, by decide +kernel, by decide⟩, cd_mem 1012 (by decide +kernel) rfl, cd_mem 1013 (by decide +kernel) rfl⟩
abbrev b_M_set : ByteArray := prog_9_method_22_code
abbrev m_M_set : cd_MT := (⟨"CatDoorsModel", "set", "(III)I"⟩, b_M_set, 4, some .int)
set_option maxRecDepth 100000 in
theorem mc_M_set : Cond.code m_M_set.1 m_M_set.2.1 m_M_set.2.2.1 m_M_set.2.2.2 ∈ cd_ws := cd_mem 1022 rfl rfl
theorem mf_M_set : cd_MV m_M_set 3 := ⟨⟨mc_M_set, cd_mem 61 (by decide +kernel) rfl, by decide +kernel, by decide⟩, cd_mem 1020 (by decide +kernel) rfl, cd_mem 1021 (by decide +kernel) rfl⟩
abbrev b_M_rule : ByteArray := prog_9_method_23_code
abbrev m_M_rule : cd_MT := (⟨"CatDoorsModel", "rule", "(II)I"⟩, b_M_rule, 4, some .int)
set_option maxRecDepth 100000 in
theorem mc_M_rule : Cond.code m_M_rule.1 m_M_rule.2.1 m_M_rule.2.2.1 m_M_rule.2.2.2 ∈ cd_ws := cd_mem 1026 rfl rfl
theorem mf_M_rule : cd_MV m_M_rule 2 := ⟨⟨mc_M_rule, cd_mem 61 (by decide +kernel) rfl, by decide +kernel, by decide⟩, cd_mem 1024 (by decide +kernel) rfl, cd_mem 1025 (by decide +kernel) rfl⟩
abbrev b_M_draw : ByteArray := prog_9_method_24_code
abbrev m_M_draw : cd_MT := (⟨"CatDoorsModel", "draw", "()I"⟩, b_M_draw, 1, some .int)
set_option maxRecDepth 100000 in
theorem mc_M_draw : Cond.code m_M_draw.1 m_M_draw.2.1 m_M_draw.2.2.1 m_M_draw.2.2.2 ∈ cd_ws := cd_mem 1046 rfl rfl
theorem mf_M_draw : cd_MV m_M_draw 0 := ⟨⟨mc_M_draw, cd_mem 61 (by decide +kernel) rfl, by decide +kernel, by decide⟩, cd_mem 1045 (by decide +kernel) rfl, cd_mem 32 (by decide +kernel) rfl⟩
abbrev b_M_goes : ByteArray := prog_9_method_25_code
abbrev m_M_goes : cd_MT := (⟨"CatDoorsModel", "goes", "()I"⟩, b_M_goes, 1, some .int)
set_option maxRecDepth 100000 in
theorem mc_M_goes : Cond.code m_M_goes.1 m_M_goes.2.1 m_M_goes.2.2.1 m_M_goes.2.2.2 ∈ cd_ws := cd_mem 1051 rfl rfl
theorem mf_M_goes : cd_MV m_M_goes 0 := ⟨⟨mc_M_goes, cd_mem 61 (by decide +kernel) rfl, by decide +kernel, by decide⟩, cd_mem 1050 (by decide +kernel) rfl, cd_mem 33 (by decide +kernel) rfl⟩
abbrev b_M_goesAsMeant : ByteArray := prog_9_method_26_code
abbrev m_M_goesAsMeant : cd_MT := (⟨"CatDoorsModel", "goesAsMeant", "(I)I"⟩, b_M_goesAsMeant, 2, some .int)
set_option maxRecDepth 100000 in
theorem mc_M_goesAsMeant : Cond.code m_M_goesAsMeant.1 m_M_goesAsMeant.2.1 m_M_goesAsMeant.2.2.1 m_M_goesAsMeant.2.2.2 ∈ cd_ws := cd_mem 1042 rfl rfl
theorem mf_M_goesAsMeant : cd_MV m_M_goesAsMeant 1 := ⟨⟨mc_M_goesAsMeant, cd_mem 61 (by decide +kernel) rfl, by decide +kernel, by decide⟩, cd_mem 1041 (by decide +kernel) rfl, cd_mem 31 (by decide +kernel) rfl⟩
abbrev b_M_learns : ByteArray := prog_9_method_27_code
abbrev m_M_learns : cd_MT := (⟨"CatDoorsModel", "learns", "(I)V"⟩, b_M_learns, 2, none)
set_option maxRecDepth 100000 in
theorem mc_M_learns : Cond.code m_M_learns.1 m_M_learns.2.1 m_M_learns.2.2.1 m_M_learns.2.2.2 ∈ cd_ws := cd_mem 1038 rfl rfl
theorem mf_M_learns : cd_MV m_M_learns 1 := ⟨⟨mc_M_learns, cd_mem 61 (by decide +kernel) rfl, by decide +kernel, by decide⟩, cd_mem 1037 (by decide +kernel) rfl, cd_mem 30 (by decide +kernel) rfl⟩
abbrev b_M_rises : ByteArray := prog_9_method_28_code
abbrev m_M_rises : cd_MT := (⟨"CatDoorsModel", "rises", "(I)I"⟩, b_M_rises, 2, some .int)
set_option maxRecDepth 100000 in
theorem mc_M_rises : Cond.code m_M_rises.1 m_M_rises.2.1 m_M_rises.2.2.1 m_M_rises.2.2.2 ∈ cd_ws := cd_mem 1034 rfl rfl
theorem mf_M_rises : cd_MV m_M_rises 1 := ⟨⟨mc_M_rises, cd_mem 61 (by decide +kernel) rfl, by decide +kernel, by decide⟩, cd_mem 1033 (by decide +kernel) rfl, cd_mem 29 (by decide +kernel) rfl⟩
abbrev b_M_opens : ByteArray := prog_9_method_29_code
abbrev m_M_opens : cd_MT := (⟨"CatDoorsModel", "opens", "(I)I"⟩, b_M_opens, 2, some .int)
set_option maxRecDepth 100000 in
theorem mc_M_opens : Cond.code m_M_opens.1 m_M_opens.2.1 m_M_opens.2.2.1 m_M_opens.2.2.2 ∈ cd_ws := cd_mem 1030 rfl rfl
theorem mf_M_opens : cd_MV m_M_opens 1 := ⟨⟨mc_M_opens, cd_mem 61 (by decide +kernel) rfl, by decide +kernel, by decide⟩, cd_mem 1028 (by decide +kernel) rfl, cd_mem 1029 (by decide +kernel) rfl⟩
abbrev b_M_deal : ByteArray := prog_9_method_30_code
abbrev m_M_deal : cd_MT := (⟨"CatDoorsModel", "deal", "(I)I"⟩, b_M_deal, 7, some .int)
set_option maxRecDepth 100000 in
theorem mc_M_deal : Cond.code m_M_deal.1 m_M_deal.2.1 m_M_deal.2.2.1 m_M_deal.2.2.2 ∈ cd_ws := cd_mem 1055 rfl rfl
theorem mf_M_deal : cd_MV m_M_deal 1 := ⟨⟨mc_M_deal, cd_mem 61 (by decide +kernel) rfl, by decide +kernel, by decide⟩, cd_mem 1053 (by decide +kernel) rfl, cd_mem 1054 (by decide +kernel) rfl⟩
abbrev b_M_seed : ByteArray := prog_9_method_31_code
abbrev m_M_seed : cd_MT := (⟨"CatDoorsModel", "seed", "(I)I"⟩, b_M_seed, 2, some .int)
set_option maxRecDepth 100000 in
theorem mc_M_seed : Cond.code m_M_seed.1 m_M_seed.2.1 m_M_seed.2.2.1 m_M_seed.2.2.2 ∈ cd_ws := cd_mem 1059 rfl rfl
theorem mf_M_seed : cd_MV m_M_seed 1 := ⟨⟨mc_M_seed, cd_mem 61 (by decide +kernel) rfl, by decide +kernel, by decide⟩, cd_mem 1057 (by decide +kernel) rfl, cd_mem 1058 (by decide +kernel) rfl⟩
abbrev b_M_asks : ByteArray := prog_9_method_32_code
abbrev m_M_asks : cd_MT := (⟨"CatDoorsModel", "asks", "(I)V"⟩, b_M_asks, 3, none)
set_option maxRecDepth 100000 in
theorem mc_M_asks : Cond.code m_M_asks.1 m_M_asks.2.1 m_M_asks.2.2.1 m_M_asks.2.2.2 ∈ cd_ws := cd_mem 1075 rfl rfl
theorem mf_M_asks : cd_MV m_M_asks 1 := ⟨⟨mc_M_asks, cd_mem 61 (by decide +kernel) rfl, by decide +kernel, by decide⟩, cd_mem 1074 (by decide +kernel) rfl, cd_mem 36 (by decide +kernel) rfl⟩
abbrev b_M_hour : ByteArray := prog_9_method_33_code
abbrev m_M_hour : cd_MT := (⟨"CatDoorsModel", "hour", "()V"⟩, b_M_hour, 2, none)
set_option maxRecDepth 100000 in
theorem mc_M_hour : Cond.code m_M_hour.1 m_M_hour.2.1 m_M_hour.2.2.1 m_M_hour.2.2.2 ∈ cd_ws := cd_mem 1071 rfl rfl
theorem mf_M_hour : cd_MV m_M_hour 0 := ⟨⟨mc_M_hour, cd_mem 61 (by decide +kernel) rfl, by decide +kernel, by decide⟩, cd_mem 1070 (by decide +kernel) rfl, cd_mem 35 (by decide +kernel) rfl⟩
abbrev b_M_goesOn : ByteArray := prog_9_method_34_code
abbrev m_M_goesOn : cd_MT := (⟨"CatDoorsModel", "goesOn", "(I)V"⟩, b_M_goesOn, 3, none)
set_option maxRecDepth 100000 in
theorem mc_M_goesOn : Cond.code m_M_goesOn.1 m_M_goesOn.2.1 m_M_goesOn.2.2.1 m_M_goesOn.2.2.2 ∈ cd_ws := cd_mem 1067 rfl rfl
theorem mf_M_goesOn : cd_MV m_M_goesOn 1 := ⟨⟨mc_M_goesOn, cd_mem 61 (by decide +kernel) rfl, by decide +kernel, by decide⟩, cd_mem 1066 (by decide +kernel) rfl, cd_mem 34 (by decide +kernel) rfl⟩
abbrev b_M_hours : ByteArray := prog_9_method_35_code
abbrev m_M_hours : cd_MT := (⟨"CatDoorsModel", "hours", "(I)I"⟩, b_M_hours, 3, some .int)
set_option maxRecDepth 100000 in
theorem mc_M_hours : Cond.code m_M_hours.1 m_M_hours.2.1 m_M_hours.2.2.1 m_M_hours.2.2.2 ∈ cd_ws := cd_mem 1063 rfl rfl
theorem mf_M_hours : cd_MV m_M_hours 1 := ⟨⟨mc_M_hours, cd_mem 61 (by decide +kernel) rfl, by decide +kernel, by decide⟩, cd_mem 1061 (by decide +kernel) rfl, cd_mem 1062 (by decide +kernel) rfl⟩
abbrev b_M_habits : ByteArray := prog_9_method_36_code
abbrev m_M_habits : cd_MT := (⟨"CatDoorsModel", "habits", "()I"⟩, b_M_habits, 3, some .int)
set_option maxRecDepth 100000 in
theorem mc_M_habits : Cond.code m_M_habits.1 m_M_habits.2.1 m_M_habits.2.2.1 m_M_habits.2.2.2 ∈ cd_ws := cd_mem 1083 rfl rfl
theorem mf_M_habits : cd_MV m_M_habits 0 := ⟨⟨mc_M_habits, cd_mem 61 (by decide +kernel) rfl, by decide +kernel, by decide⟩, cd_mem 1082 (by decide +kernel) rfl, cd_mem 37 (by decide +kernel) rfl⟩
abbrev b_M_nextOnes : ByteArray := prog_9_method_37_code
abbrev m_M_nextOnes : cd_MT := (⟨"CatDoorsModel", "nextOnes", "()I"⟩, b_M_nextOnes, 4, some .int)
set_option maxRecDepth 100000 in
theorem mc_M_nextOnes : Cond.code m_M_nextOnes.1 m_M_nextOnes.2.1 m_M_nextOnes.2.2.1 m_M_nextOnes.2.2.2 ∈ cd_ws := cd_mem 1087 rfl rfl
theorem mf_M_nextOnes : cd_MV m_M_nextOnes 0 := ⟨⟨mc_M_nextOnes, cd_mem 61 (by decide +kernel) rfl, by decide +kernel, by decide⟩, cd_mem 1086 (by decide +kernel) rfl, cd_mem 38 (by decide +kernel) rfl⟩
abbrev b_M_house : ByteArray := prog_9_method_38_code
abbrev m_M_house : cd_MT := (⟨"CatDoorsModel", "house", "(I)I"⟩, b_M_house, 2, some .int)
set_option maxRecDepth 100000 in
theorem mc_M_house : Cond.code m_M_house.1 m_M_house.2.1 m_M_house.2.2.1 m_M_house.2.2.2 ∈ cd_ws := cd_mem 1079 rfl rfl
theorem mf_M_house : cd_MV m_M_house 1 := ⟨⟨mc_M_house, cd_mem 61 (by decide +kernel) rfl, by decide +kernel, by decide⟩, cd_mem 1077 (by decide +kernel) rfl, cd_mem 1078 (by decide +kernel) rfl⟩
abbrev b_M_thinks : ByteArray := prog_9_method_39_code
abbrev m_M_thinks : cd_MT := (⟨"CatDoorsModel", "thinks", "()V"⟩, b_M_thinks, 2, none)
set_option maxRecDepth 100000 in
theorem mc_M_thinks : Cond.code m_M_thinks.1 m_M_thinks.2.1 m_M_thinks.2.2.1 m_M_thinks.2.2.2 ∈ cd_ws := cd_mem 1095 rfl rfl
theorem mf_M_thinks : cd_MV m_M_thinks 0 := ⟨⟨mc_M_thinks, cd_mem 61 (by decide +kernel) rfl, by decide +kernel, by decide⟩, cd_mem 1094 (by decide +kernel) rfl, cd_mem 39 (by decide +kernel) rfl⟩
abbrev b_M_putsBack : ByteArray := prog_9_method_40_code
abbrev m_M_putsBack : cd_MT := (⟨"CatDoorsModel", "putsBack", "()V"⟩, b_M_putsBack, 2, none)
set_option maxRecDepth 100000 in
theorem mc_M_putsBack : Cond.code m_M_putsBack.1 m_M_putsBack.2.1 m_M_putsBack.2.2.1 m_M_putsBack.2.2.2 ∈ cd_ws := cd_mem 1099 rfl rfl
theorem mf_M_putsBack : cd_MV m_M_putsBack 0 := ⟨⟨mc_M_putsBack, cd_mem 61 (by decide +kernel) rfl, by decide +kernel, by decide⟩, cd_mem 1098 (by decide +kernel) rfl, cd_mem 40 (by decide +kernel) rfl⟩
abbrev b_M_behind : ByteArray := prog_9_method_41_code
abbrev m_M_behind : cd_MT := (⟨"CatDoorsModel", "behind", "(II)I"⟩, b_M_behind, 4, some .int)
set_option maxRecDepth 100000 in
theorem mc_M_behind : Cond.code m_M_behind.1 m_M_behind.2.1 m_M_behind.2.2.1 m_M_behind.2.2.2 ∈ cd_ws := cd_mem 1091 rfl rfl
theorem mf_M_behind : cd_MV m_M_behind 2 := ⟨⟨mc_M_behind, cd_mem 61 (by decide +kernel) rfl, by decide +kernel, by decide⟩, cd_mem 1089 (by decide +kernel) rfl, cd_mem 1090 (by decide +kernel) rfl⟩
abbrev b_M_quiet : ByteArray := prog_9_method_42_code
abbrev m_M_quiet : cd_MT := (⟨"CatDoorsModel", "quiet", "()I"⟩, b_M_quiet, 2, some .int)
set_option maxRecDepth 100000 in
theorem mc_M_quiet : Cond.code m_M_quiet.1 m_M_quiet.2.1 m_M_quiet.2.2.1 m_M_quiet.2.2.2 ∈ cd_ws := cd_mem 1103 rfl rfl
theorem mf_M_quiet : cd_MV m_M_quiet 0 := ⟨⟨mc_M_quiet, cd_mem 61 (by decide +kernel) rfl, by decide +kernel, by decide⟩, cd_mem 1101 (by decide +kernel) rfl, cd_mem 1102 (by decide +kernel) rfl⟩
abbrev b_M_habitsBehind : ByteArray := prog_9_method_43_code
abbrev m_M_habitsBehind : cd_MT := (⟨"CatDoorsModel", "habitsBehind", "(I)I"⟩, b_M_habitsBehind, 3, some .int)
set_option maxRecDepth 100000 in
theorem mc_M_habitsBehind : Cond.code m_M_habitsBehind.1 m_M_habitsBehind.2.1 m_M_habitsBehind.2.2.1 m_M_habitsBehind.2.2.2 ∈ cd_ws := cd_mem 1112 rfl rfl
theorem mf_M_habitsBehind : cd_MV m_M_habitsBehind 1 := ⟨⟨mc_M_habitsBehind, cd_mem 61 (by decide +kernel) rfl, by decide +kernel, by decide⟩, cd_mem 1111 (by decide +kernel) rfl, cd_mem 41 (by decide +kernel) rfl⟩
abbrev b_M_risingsBehind : ByteArray := prog_9_method_44_code
abbrev m_M_risingsBehind : cd_MT := (⟨"CatDoorsModel", "risingsBehind", "(I)I"⟩, b_M_risingsBehind, 3, some .int)
set_option maxRecDepth 100000 in
theorem mc_M_risingsBehind : Cond.code m_M_risingsBehind.1 m_M_risingsBehind.2.1 m_M_risingsBehind.2.2.1 m_M_risingsBehind.2.2.2 ∈ cd_ws := cd_mem 1124 rfl rfl
theorem mf_M_risingsBehind : cd_MV m_M_risingsBehind 1 := ⟨⟨mc_M_risingsBehind, cd_mem 61 (by decide +kernel) rfl, by decide +kernel, by decide⟩, cd_mem 1123 (by decide +kernel) rfl, cd_mem 42 (by decide +kernel) rfl⟩
abbrev b_M_firm : ByteArray := prog_9_method_45_code
abbrev m_M_firm : cd_MT := (⟨"CatDoorsModel", "firm", "(II)I"⟩, b_M_firm, 7, some .int)
set_option maxRecDepth 100000 in
theorem mc_M_firm : Cond.code m_M_firm.1 m_M_firm.2.1 m_M_firm.2.2.1 m_M_firm.2.2.2 ∈ cd_ws := cd_mem 1108 rfl rfl
theorem mf_M_firm : cd_MV m_M_firm 2 := ⟨⟨mc_M_firm, cd_mem 61 (by decide +kernel) rfl, by decide +kernel, by decide⟩, cd_mem 1106 (by decide +kernel) rfl, cd_mem 1107 (by decide +kernel) rfl⟩
abbrev b_M_givenIn : ByteArray := prog_9_method_46_code
abbrev m_M_givenIn : cd_MT := (⟨"CatDoorsModel", "givenIn", "(II)I"⟩, b_M_givenIn, 4, some .int)
set_option maxRecDepth 100000 in
theorem mc_M_givenIn : Cond.code m_M_givenIn.1 m_M_givenIn.2.1 m_M_givenIn.2.2.1 m_M_givenIn.2.2.2 ∈ cd_ws := cd_mem 1116 rfl rfl
theorem mf_M_givenIn : cd_MV m_M_givenIn 2 := ⟨⟨mc_M_givenIn, cd_mem 61 (by decide +kernel) rfl, by decide +kernel, by decide⟩, cd_mem 1114 (by decide +kernel) rfl, cd_mem 1115 (by decide +kernel) rfl⟩
abbrev b_M_heard : ByteArray := prog_9_method_47_code
abbrev m_M_heard : cd_MT := (⟨"CatDoorsModel", "heard", "(II)I"⟩, b_M_heard, 7, some .int)
set_option maxRecDepth 100000 in
theorem mc_M_heard : Cond.code m_M_heard.1 m_M_heard.2.1 m_M_heard.2.2.1 m_M_heard.2.2.2 ∈ cd_ws := cd_mem 1120 rfl rfl
theorem mf_M_heard : cd_MV m_M_heard 2 := ⟨⟨mc_M_heard, cd_mem 61 (by decide +kernel) rfl, by decide +kernel, by decide⟩, cd_mem 1118 (by decide +kernel) rfl, cd_mem 1119 (by decide +kernel) rfl⟩
abbrev b_M_lamp : ByteArray := prog_9_method_48_code
abbrev m_M_lamp : cd_MT := (⟨"CatDoorsModel", "lamp", "(I)I"⟩, b_M_lamp, 4, some .int)
set_option maxRecDepth 100000 in
theorem mc_M_lamp : Cond.code m_M_lamp.1 m_M_lamp.2.1 m_M_lamp.2.2.1 m_M_lamp.2.2.2 ∈ cd_ws := cd_mem 1128 rfl rfl
theorem mf_M_lamp : cd_MV m_M_lamp 1 := ⟨⟨mc_M_lamp, cd_mem 61 (by decide +kernel) rfl, by decide +kernel, by decide⟩, cd_mem 1126 (by decide +kernel) rfl, cd_mem 1127 (by decide +kernel) rfl⟩
abbrev b_M_saved : ByteArray := prog_9_method_49_code
abbrev m_M_saved : cd_MT := (⟨"CatDoorsModel", "saved", "(I)I"⟩, b_M_saved, 3, some .int)
set_option maxRecDepth 100000 in
theorem mc_M_saved : Cond.code m_M_saved.1 m_M_saved.2.1 m_M_saved.2.2.1 m_M_saved.2.2.2 ∈ cd_ws := cd_mem 1132 rfl rfl
theorem mf_M_saved : cd_MV m_M_saved 1 := ⟨⟨mc_M_saved, cd_mem 61 (by decide +kernel) rfl, by decide +kernel, by decide⟩, cd_mem 1130 (by decide +kernel) rfl, cd_mem 1131 (by decide +kernel) rfl⟩
abbrev b_M_offBy : ByteArray := prog_9_method_50_code
abbrev m_M_offBy : cd_MT := (⟨"CatDoorsModel", "offBy", "(II)J"⟩, b_M_offBy, 9, some .long)
set_option maxRecDepth 100000 in
theorem mc_M_offBy : Cond.code m_M_offBy.1 m_M_offBy.2.1 m_M_offBy.2.2.1 m_M_offBy.2.2.2 ∈ cd_ws := cd_mem 1144 rfl rfl
theorem mf_M_offBy : cd_MV m_M_offBy 2 := ⟨⟨mc_M_offBy, cd_mem 61 (by decide +kernel) rfl, by decide +kernel, by decide⟩, cd_mem 1143 (by decide +kernel) rfl, cd_mem 43 (by decide +kernel) rfl⟩
abbrev b_M_taught : ByteArray := prog_9_method_51_code
abbrev m_M_taught : cd_MT := (⟨"CatDoorsModel", "taught", "(II)I"⟩, b_M_taught, 9, some .int)
set_option maxRecDepth 100000 in
theorem mc_M_taught : Cond.code m_M_taught.1 m_M_taught.2.1 m_M_taught.2.2.1 m_M_taught.2.2.2 ∈ cd_ws := cd_mem 1136 rfl rfl
theorem mf_M_taught : cd_MV m_M_taught 2 := ⟨⟨mc_M_taught, cd_mem 61 (by decide +kernel) rfl, by decide +kernel, by decide⟩, cd_mem 1134 (by decide +kernel) rfl, cd_mem 1135 (by decide +kernel) rfl⟩
abbrev b_M_fee : ByteArray := prog_9_method_52_code
abbrev m_M_fee : cd_MT := (⟨"CatDoorsModel", "fee", "()I"⟩, b_M_fee, 2, some .int)
set_option maxRecDepth 100000 in
theorem mc_M_fee : Cond.code m_M_fee.1 m_M_fee.2.1 m_M_fee.2.2.1 m_M_fee.2.2.2 ∈ cd_ws := cd_mem 1148 rfl rfl
theorem mf_M_fee : cd_MV m_M_fee 0 := ⟨⟨mc_M_fee, cd_mem 61 (by decide +kernel) rfl, by decide +kernel, by decide⟩, cd_mem 1146 (by decide +kernel) rfl, cd_mem 1147 (by decide +kernel) rfl⟩
abbrev b_M_fine : ByteArray := prog_9_method_53_code
abbrev m_M_fine : cd_MT := (⟨"CatDoorsModel", "fine", "(I)I"⟩, b_M_fine, 3, some .int)
set_option maxRecDepth 100000 in
theorem mc_M_fine : Cond.code m_M_fine.1 m_M_fine.2.1 m_M_fine.2.2.1 m_M_fine.2.2.2 ∈ cd_ws := cd_mem 1152 rfl rfl
theorem mf_M_fine : cd_MV m_M_fine 1 := ⟨⟨mc_M_fine, cd_mem 61 (by decide +kernel) rfl, by decide +kernel, by decide⟩, cd_mem 1150 (by decide +kernel) rfl, cd_mem 1151 (by decide +kernel) rfl⟩
abbrev b_M_feed : ByteArray := prog_9_method_54_code
abbrev m_M_feed : cd_MT := (⟨"CatDoorsModel", "feed", "(III)I"⟩, b_M_feed, 6, some .int)
set_option maxRecDepth 100000 in
theorem mc_M_feed : Cond.code m_M_feed.1 m_M_feed.2.1 m_M_feed.2.2.1 m_M_feed.2.2.2 ∈ cd_ws := cd_mem 1156 rfl rfl
theorem mf_M_feed : cd_MV m_M_feed 3 := ⟨⟨mc_M_feed, cd_mem 61 (by decide +kernel) rfl, by decide +kernel, by decide⟩, cd_mem 1154 (by decide +kernel) rfl, cd_mem 1155 (by decide +kernel) rfl⟩
abbrev b_M_trim : ByteArray := prog_9_method_55_code
abbrev m_M_trim : cd_MT := (⟨"CatDoorsModel", "trim", "(I)I"⟩, b_M_trim, 2, some .int)
set_option maxRecDepth 100000 in
theorem mc_M_trim : Cond.code m_M_trim.1 m_M_trim.2.1 m_M_trim.2.2.1 m_M_trim.2.2.2 ∈ cd_ws := cd_mem 1160 rfl rfl
theorem mf_M_trim : cd_MV m_M_trim 1 := ⟨⟨mc_M_trim, cd_mem 61 (by decide +kernel) rfl, by decide +kernel, by decide⟩, cd_mem 1158 (by decide +kernel) rfl, cd_mem 1159 (by decide +kernel) rfl⟩
abbrev b_M_isLetter : ByteArray := prog_9_method_56_code
abbrev m_M_isLetter : cd_MT := (⟨"CatDoorsModel", "isLetter", "(I)Z"⟩, b_M_isLetter, 2, some .boolean)
set_option maxRecDepth 100000 in
theorem mc_M_isLetter : Cond.code m_M_isLetter.1 m_M_isLetter.2.1 m_M_isLetter.2.2.1 m_M_isLetter.2.2.2 ∈ cd_ws := cd_mem 1172 rfl rfl
theorem mf_M_isLetter : cd_MV m_M_isLetter 1 := ⟨⟨mc_M_isLetter, cd_mem 61 (by decide +kernel) rfl, by decide +kernel, by decide⟩, cd_mem 1171 (by decide +kernel) rfl, cd_mem 45 (by decide +kernel) rfl⟩
abbrev b_M_isFigure : ByteArray := prog_9_method_57_code
abbrev m_M_isFigure : cd_MT := (⟨"CatDoorsModel", "isFigure", "(I)Z"⟩, b_M_isFigure, 2, some .boolean)
set_option maxRecDepth 100000 in
theorem mc_M_isFigure : Cond.code m_M_isFigure.1 m_M_isFigure.2.1 m_M_isFigure.2.2.1 m_M_isFigure.2.2.2 ∈ cd_ws := cd_mem 1176 rfl rfl
theorem mf_M_isFigure : cd_MV m_M_isFigure 1 := ⟨⟨mc_M_isFigure, cd_mem 61 (by decide +kernel) rfl, by decide +kernel, by decide⟩, cd_mem 1175 (by decide +kernel) rfl, cd_mem 46 (by decide +kernel) rfl⟩
abbrev b_M_go : ByteArray := prog_9_method_58_code
abbrev m_M_go : cd_MT := (⟨"CatDoorsModel", "go", "()V"⟩, b_M_go, 2, none)
set_option maxRecDepth 100000 in
theorem mc_M_go : Cond.code m_M_go.1 m_M_go.2.1 m_M_go.2.2.1 m_M_go.2.2.2 ∈ cd_ws := cd_mem 1168 rfl rfl
theorem mf_M_go : cd_MV m_M_go 0 := ⟨⟨mc_M_go, cd_mem 61 (by decide +kernel) rfl, by decide +kernel, by decide⟩, cd_mem 1167 (by decide +kernel) rfl, cd_mem 44 (by decide +kernel) rfl⟩
abbrev b_M_takesKey : ByteArray := prog_9_method_59_code
abbrev m_M_takesKey : cd_MT := (⟨"CatDoorsModel", "takesKey", "()Z"⟩, b_M_takesKey, 5, some .boolean)
set_option maxRecDepth 100000 in
theorem mc_M_takesKey : Cond.code m_M_takesKey.1 m_M_takesKey.2.1 m_M_takesKey.2.2.1 m_M_takesKey.2.2.2 ∈ cd_ws := cd_mem 1180 rfl rfl
theorem mf_M_takesKey : cd_MV m_M_takesKey 0 := ⟨⟨mc_M_takesKey, cd_mem 61 (by decide +kernel) rfl, by decide +kernel, by decide⟩, cd_mem 1179 (by decide +kernel) rfl, cd_mem 47 (by decide +kernel) rfl⟩
abbrev b_M_nameOf : ByteArray := prog_9_method_60_code
abbrev m_M_nameOf : cd_MT := (⟨"CatDoorsModel", "nameOf", "(I)I"⟩, b_M_nameOf, 2, some .int)
set_option maxRecDepth 100000 in
theorem mc_M_nameOf : Cond.code m_M_nameOf.1 m_M_nameOf.2.1 m_M_nameOf.2.2.1 m_M_nameOf.2.2.2 ∈ cd_ws := cd_mem 1192 rfl rfl
theorem mf_M_nameOf : cd_MV m_M_nameOf 1 := ⟨⟨mc_M_nameOf, cd_mem 61 (by decide +kernel) rfl, by decide +kernel, by decide⟩, cd_mem 1191 (by decide +kernel) rfl, cd_mem 50 (by decide +kernel) rfl⟩
abbrev b_M_rank : ByteArray := prog_9_method_61_code
abbrev m_M_rank : cd_MT := (⟨"CatDoorsModel", "rank", "(I)I"⟩, b_M_rank, 1, some .int)
set_option maxRecDepth 100000 in
theorem mc_M_rank : Cond.code m_M_rank.1 m_M_rank.2.1 m_M_rank.2.2.1 m_M_rank.2.2.2 ∈ cd_ws := cd_mem 1199 rfl rfl
theorem mf_M_rank : cd_MS m_M_rank 1 := ⟨⟨mc_M_rank, cd_mem 61 (by decide +kernel) rfl, by decide +kernel, by decide⟩, cd_mem 1198 (by decide +kernel) rfl⟩
abbrev b_M_settle : ByteArray := prog_9_method_62_code
abbrev m_M_settle : cd_MT := (⟨"CatDoorsModel", "settle", "(I)V"⟩, b_M_settle, 2, none)
set_option maxRecDepth 100000 in
theorem mc_M_settle : Cond.code m_M_settle.1 m_M_settle.2.1 m_M_settle.2.2.1 m_M_settle.2.2.2 ∈ cd_ws := cd_mem 1196 rfl rfl
theorem mf_M_settle : cd_MV m_M_settle 1 := ⟨⟨mc_M_settle, cd_mem 61 (by decide +kernel) rfl, by decide +kernel, by decide⟩, cd_mem 1195 (by decide +kernel) rfl, cd_mem 51 (by decide +kernel) rfl⟩
abbrev b_M_signHere : ByteArray := prog_9_method_63_code
abbrev m_M_signHere : cd_MT := (⟨"CatDoorsModel", "signHere", "()I"⟩, b_M_signHere, 1, some .int)
set_option maxRecDepth 100000 in
theorem mc_M_signHere : Cond.code m_M_signHere.1 m_M_signHere.2.1 m_M_signHere.2.2.1 m_M_signHere.2.2.2 ∈ cd_ws := cd_mem 1207 rfl rfl
theorem mf_M_signHere : cd_MV m_M_signHere 0 := ⟨⟨mc_M_signHere, cd_mem 61 (by decide +kernel) rfl, by decide +kernel, by decide⟩, cd_mem 1206 (by decide +kernel) rfl, cd_mem 53 (by decide +kernel) rfl⟩
abbrev b_M_takesPart : ByteArray := prog_9_method_64_code
abbrev m_M_takesPart : cd_MT := (⟨"CatDoorsModel", "takesPart", "()Z"⟩, b_M_takesPart, 2, some .boolean)
set_option maxRecDepth 100000 in
theorem mc_M_takesPart : Cond.code m_M_takesPart.1 m_M_takesPart.2.1 m_M_takesPart.2.2.1 m_M_takesPart.2.2.2 ∈ cd_ws := cd_mem 1188 rfl rfl
theorem mf_M_takesPart : cd_MV m_M_takesPart 0 := ⟨⟨mc_M_takesPart, cd_mem 61 (by decide +kernel) rfl, by decide +kernel, by decide⟩, cd_mem 1187 (by decide +kernel) rfl, cd_mem 49 (by decide +kernel) rfl⟩
abbrev b_M_takesE : ByteArray := prog_9_method_65_code
abbrev m_M_takesE : cd_MT := (⟨"CatDoorsModel", "takesE", "()Z"⟩, b_M_takesE, 5, some .boolean)
set_option maxRecDepth 100000 in
theorem mc_M_takesE : Cond.code m_M_takesE.1 m_M_takesE.2.1 m_M_takesE.2.2.1 m_M_takesE.2.2.2 ∈ cd_ws := cd_mem 1184 rfl rfl
theorem mf_M_takesE : cd_MV m_M_takesE 0 := ⟨⟨mc_M_takesE, cd_mem 61 (by decide +kernel) rfl, by decide +kernel, by decide⟩, cd_mem 1183 (by decide +kernel) rfl, cd_mem 48 (by decide +kernel) rfl⟩
abbrev b_M_notsOpen : ByteArray := prog_9_method_66_code
abbrev m_M_notsOpen : cd_MT := (⟨"CatDoorsModel", "notsOpen", "()I"⟩, b_M_notsOpen, 3, some .int)
set_option maxRecDepth 100000 in
theorem mc_M_notsOpen : Cond.code m_M_notsOpen.1 m_M_notsOpen.2.1 m_M_notsOpen.2.2.1 m_M_notsOpen.2.2.2 ∈ cd_ws := cd_mem 1203 rfl rfl
theorem mf_M_notsOpen : cd_MV m_M_notsOpen 0 := ⟨⟨mc_M_notsOpen, cd_mem 61 (by decide +kernel) rfl, by decide +kernel, by decide⟩, cd_mem 1202 (by decide +kernel) rfl, cd_mem 52 (by decide +kernel) rfl⟩
abbrev b_M_text : ByteArray := prog_9_method_67_code
abbrev m_M_text : cd_MT := (⟨"CatDoorsModel", "text", "()I"⟩, b_M_text, 4, some .int)
set_option maxRecDepth 100000 in
theorem mc_M_text : Cond.code m_M_text.1 m_M_text.2.1 m_M_text.2.2.1 m_M_text.2.2.2 ∈ cd_ws := cd_mem 1164 rfl rfl
theorem mf_M_text : cd_MV m_M_text 0 := ⟨⟨mc_M_text, cd_mem 61 (by decide +kernel) rfl, by decide +kernel, by decide⟩, cd_mem 1162 (by decide +kernel) rfl, cd_mem 1163 (by decide +kernel) rfl⟩
abbrev b_M_textTold : ByteArray := prog_9_method_68_code
abbrev m_M_textTold : cd_MT := (⟨"CatDoorsModel", "textTold", "(II)I"⟩, b_M_textTold, 3, some .int)
set_option maxRecDepth 100000 in
theorem mc_M_textTold : Cond.code m_M_textTold.1 m_M_textTold.2.1 m_M_textTold.2.2.1 m_M_textTold.2.2.2 ∈ cd_ws := cd_mem 1211 rfl rfl
theorem mf_M_textTold : cd_MV m_M_textTold 2 := ⟨⟨mc_M_textTold, cd_mem 61 (by decide +kernel) rfl, by decide +kernel, by decide⟩, cd_mem 1209 (by decide +kernel) rfl, cd_mem 1210 (by decide +kernel) rfl⟩
abbrev b_M_counts : ByteArray := prog_9_method_69_code
abbrev m_M_counts : cd_MT := (⟨"CatDoorsModel", "counts", "(I)I"⟩, b_M_counts, 3, some .int)
set_option maxRecDepth 100000 in
theorem mc_M_counts : Cond.code m_M_counts.1 m_M_counts.2.1 m_M_counts.2.2.1 m_M_counts.2.2.2 ∈ cd_ws := cd_mem 972 rfl rfl
theorem mf_M_counts : cd_MV m_M_counts 1 := ⟨⟨mc_M_counts, cd_mem 61 (by decide +kernel) rfl, by decide +kernel, by decide⟩, cd_mem 971 (by decide +kernel) rfl, cd_mem 21 (by decide +kernel) rfl⟩
abbrev b_M_why : ByteArray := prog_9_method_70_code
abbrev m_M_why : cd_MT := (⟨"CatDoorsModel", "why", "(I)I"⟩, b_M_why, 3, some .int)
set_option maxRecDepth 100000 in
theorem mc_M_why : Cond.code m_M_why.1 m_M_why.2.1 m_M_why.2.2.1 m_M_why.2.2.2 ∈ cd_ws := cd_mem 1215 rfl rfl
theorem mf_M_why : cd_MV m_M_why 1 := ⟨⟨mc_M_why, cd_mem 61 (by decide +kernel) rfl, by decide +kernel, by decide⟩, cd_mem 1213 (by decide +kernel) rfl, cd_mem 1214 (by decide +kernel) rfl⟩
abbrev b_M_two : ByteArray := prog_9_method_71_code
abbrev m_M_two : cd_MT := (⟨"CatDoorsModel", "two", "(III)I"⟩, b_M_two, 3, some .int)
set_option maxRecDepth 100000 in
theorem mc_M_two : Cond.code m_M_two.1 m_M_two.2.1 m_M_two.2.2.1 m_M_two.2.2.2 ∈ cd_ws := cd_mem 979 rfl rfl
theorem mf_M_two : cd_MS m_M_two 3 := ⟨⟨mc_M_two, cd_mem 61 (by decide +kernel) rfl, by decide +kernel, by decide⟩, cd_mem 978 (by decide +kernel) rfl⟩
abbrev b_M_worksOut : ByteArray := prog_9_method_72_code
abbrev m_M_worksOut : cd_MT := (⟨"CatDoorsModel", "worksOut", "(I)I"⟩, b_M_worksOut, 6, some .int)
set_option maxRecDepth 100000 in
theorem mc_M_worksOut : Cond.code m_M_worksOut.1 m_M_worksOut.2.1 m_M_worksOut.2.2.1 m_M_worksOut.2.2.2 ∈ cd_ws := cd_mem 976 rfl rfl
theorem mf_M_worksOut : cd_MV m_M_worksOut 1 := ⟨⟨mc_M_worksOut, cd_mem 61 (by decide +kernel) rfl, by decide +kernel, by decide⟩, cd_mem 975 (by decide +kernel) rfl, cd_mem 22 (by decide +kernel) rfl⟩
abbrev b_M_isSheet : ByteArray := prog_9_method_73_code
abbrev m_M_isSheet : cd_MT := (⟨"CatDoorsModel", "isSheet", "(I)Z"⟩, b_M_isSheet, 1, some .boolean)
set_option maxRecDepth 100000 in
theorem mc_M_isSheet : Cond.code m_M_isSheet.1 m_M_isSheet.2.1 m_M_isSheet.2.2.1 m_M_isSheet.2.2.2 ∈ cd_ws := cd_mem 1139 rfl rfl
theorem mf_M_isSheet : cd_MS m_M_isSheet 1 := ⟨⟨mc_M_isSheet, cd_mem 61 (by decide +kernel) rfl, by decide +kernel, by decide⟩, cd_mem 1138 (by decide +kernel) rfl⟩
abbrev b_M_isSlot : ByteArray := prog_9_method_74_code
abbrev m_M_isSlot : cd_MT := (⟨"CatDoorsModel", "isSlot", "(I)Z"⟩, b_M_isSlot, 1, some .boolean)
set_option maxRecDepth 100000 in
theorem mc_M_isSlot : Cond.code m_M_isSlot.1 m_M_isSlot.2.1 m_M_isSlot.2.2.1 m_M_isSlot.2.2.2 ∈ cd_ws := cd_mem 1246 rfl rfl
theorem mf_M_isSlot : cd_MS m_M_isSlot 1 := ⟨⟨mc_M_isSlot, cd_mem 61 (by decide +kernel) rfl, by decide +kernel, by decide⟩, cd_mem 1245 (by decide +kernel) rfl⟩
abbrev b_M_sheet : ByteArray := prog_9_method_75_code
abbrev m_M_sheet : cd_MT := (⟨"CatDoorsModel", "sheet", "(III)I"⟩, b_M_sheet, 5, some .int)
set_option maxRecDepth 100000 in
theorem mc_M_sheet : Cond.code m_M_sheet.1 m_M_sheet.2.1 m_M_sheet.2.2.1 m_M_sheet.2.2.2 ∈ cd_ws := cd_mem 1219 rfl rfl
theorem mf_M_sheet : cd_MV m_M_sheet 3 := ⟨⟨mc_M_sheet, cd_mem 61 (by decide +kernel) rfl, by decide +kernel, by decide⟩, cd_mem 1217 (by decide +kernel) rfl, cd_mem 1218 (by decide +kernel) rfl⟩
abbrev b_M_mark : ByteArray := prog_9_method_76_code
abbrev m_M_mark : cd_MT := (⟨"CatDoorsModel", "mark", "(III)I"⟩, b_M_mark, 4, some .int)
set_option maxRecDepth 100000 in
theorem mc_M_mark : Cond.code m_M_mark.1 m_M_mark.2.1 m_M_mark.2.2.1 m_M_mark.2.2.2 ∈ cd_ws := cd_mem 1224 rfl rfl
theorem mf_M_mark : cd_MV m_M_mark 3 := ⟨⟨mc_M_mark, cd_mem 61 (by decide +kernel) rfl, by decide +kernel, by decide⟩, cd_mem 1222 (by decide +kernel) rfl, cd_mem 1223 (by decide +kernel) rfl⟩
abbrev b_M_pour : ByteArray := prog_9_method_77_code
abbrev m_M_pour : cd_MT := (⟨"CatDoorsModel", "pour", "(I)I"⟩, b_M_pour, 6, some .int)
set_option maxRecDepth 100000 in
theorem mc_M_pour : Cond.code m_M_pour.1 m_M_pour.2.1 m_M_pour.2.2.1 m_M_pour.2.2.2 ∈ cd_ws := cd_mem 1231 rfl rfl
theorem mf_M_pour : cd_MV m_M_pour 1 := ⟨⟨mc_M_pour, cd_mem 61 (by decide +kernel) rfl, by decide +kernel, by decide⟩, cd_mem 1229 (by decide +kernel) rfl, cd_mem 1230 (by decide +kernel) rfl⟩
abbrev b_M_reads : ByteArray := prog_9_method_78_code
abbrev m_M_reads : cd_MT := (⟨"CatDoorsModel", "reads", "(I)I"⟩, b_M_reads, 4, some .int)
set_option maxRecDepth 100000 in
theorem mc_M_reads : Cond.code m_M_reads.1 m_M_reads.2.1 m_M_reads.2.2.1 m_M_reads.2.2.2 ∈ cd_ws := cd_mem 1235 rfl rfl
theorem mf_M_reads : cd_MV m_M_reads 1 := ⟨⟨mc_M_reads, cd_mem 61 (by decide +kernel) rfl, by decide +kernel, by decide⟩, cd_mem 1233 (by decide +kernel) rfl, cd_mem 1234 (by decide +kernel) rfl⟩
abbrev b_M_copy : ByteArray := prog_9_method_79_code
abbrev m_M_copy : cd_MT := (⟨"CatDoorsModel", "copy", "(IIIII)I"⟩, b_M_copy, 7, some .int)
set_option maxRecDepth 100000 in
theorem mc_M_copy : Cond.code m_M_copy.1 m_M_copy.2.1 m_M_copy.2.2.1 m_M_copy.2.2.2 ∈ cd_ws := cd_mem 1239 rfl rfl
theorem mf_M_copy : cd_MV m_M_copy 5 := ⟨⟨mc_M_copy, cd_mem 61 (by decide +kernel) rfl, by decide +kernel, by decide⟩, cd_mem 1237 (by decide +kernel) rfl, cd_mem 1238 (by decide +kernel) rfl⟩
abbrev b_M_lay : ByteArray := prog_9_method_80_code
abbrev m_M_lay : cd_MT := (⟨"CatDoorsModel", "lay", "(III)I"⟩, b_M_lay, 6, some .int)
set_option maxRecDepth 100000 in
theorem mc_M_lay : Cond.code m_M_lay.1 m_M_lay.2.1 m_M_lay.2.2.1 m_M_lay.2.2.2 ∈ cd_ws := cd_mem 1243 rfl rfl
theorem mf_M_lay : cd_MV m_M_lay 3 := ⟨⟨mc_M_lay, cd_mem 61 (by decide +kernel) rfl, by decide +kernel, by decide⟩, cd_mem 1241 (by decide +kernel) rfl, cd_mem 1242 (by decide +kernel) rfl⟩
abbrev b_M_ask : ByteArray := prog_9_method_81_code
abbrev m_M_ask : cd_MT := (⟨"CatDoorsModel", "ask", "(II)I"⟩, b_M_ask, 3, some .int)
set_option maxRecDepth 100000 in
theorem mc_M_ask : Cond.code m_M_ask.1 m_M_ask.2.1 m_M_ask.2.2.1 m_M_ask.2.2.2 ∈ cd_ws := cd_mem 1250 rfl rfl
theorem mf_M_ask : cd_MV m_M_ask 2 := ⟨⟨mc_M_ask, cd_mem 61 (by decide +kernel) rfl, by decide +kernel, by decide⟩, cd_mem 1248 (by decide +kernel) rfl, cd_mem 1249 (by decide +kernel) rfl⟩
abbrev b_M_item : ByteArray := prog_9_method_82_code
abbrev m_M_item : cd_MT := (⟨"CatDoorsModel", "item", "(II)I"⟩, b_M_item, 4, some .int)
set_option maxRecDepth 100000 in
theorem mc_M_item : Cond.code m_M_item.1 m_M_item.2.1 m_M_item.2.2.1 m_M_item.2.2.2 ∈ cd_ws := cd_mem 1254 rfl rfl
theorem mf_M_item : cd_MV m_M_item 2 := ⟨⟨mc_M_item, cd_mem 61 (by decide +kernel) rfl, by decide +kernel, by decide⟩, cd_mem 1252 (by decide +kernel) rfl, cd_mem 1253 (by decide +kernel) rfl⟩
abbrev b_M_rest : ByteArray := prog_9_method_83_code
abbrev m_M_rest : cd_MT := (⟨"CatDoorsModel", "rest", "(II)I"⟩, b_M_rest, 3, some .int)
set_option maxRecDepth 100000 in
theorem mc_M_rest : Cond.code m_M_rest.1 m_M_rest.2.1 m_M_rest.2.2.1 m_M_rest.2.2.2 ∈ cd_ws := cd_mem 1258 rfl rfl
theorem mf_M_rest : cd_MV m_M_rest 2 := ⟨⟨mc_M_rest, cd_mem 61 (by decide +kernel) rfl, by decide +kernel, by decide⟩, cd_mem 1256 (by decide +kernel) rfl, cd_mem 1257 (by decide +kernel) rfl⟩
abbrev b_M_tell : ByteArray := prog_9_method_84_code
abbrev m_M_tell : cd_MT := (⟨"CatDoorsModel", "tell", "(I)I"⟩, b_M_tell, 2, some .int)
set_option maxRecDepth 100000 in
theorem mc_M_tell : Cond.code m_M_tell.1 m_M_tell.2.1 m_M_tell.2.2.1 m_M_tell.2.2.2 ∈ cd_ws := cd_mem 1263 rfl rfl
theorem mf_M_tell : cd_MV m_M_tell 1 := ⟨⟨mc_M_tell, cd_mem 61 (by decide +kernel) rfl, by decide +kernel, by decide⟩, cd_mem 1261 (by decide +kernel) rfl, cd_mem 1262 (by decide +kernel) rfl⟩
abbrev b_M_check : ByteArray := prog_9_method_85_code
abbrev m_M_check : cd_MT := (⟨"CatDoorsModel", "check", "(I)I"⟩, b_M_check, 6, some .int)
set_option maxRecDepth 100000 in
theorem mc_M_check : Cond.code m_M_check.1 m_M_check.2.1 m_M_check.2.2.1 m_M_check.2.2.2 ∈ cd_ws := cd_mem 1267 rfl rfl
theorem mf_M_check : cd_MV m_M_check 1 := ⟨⟨mc_M_check, cd_mem 61 (by decide +kernel) rfl, by decide +kernel, by decide⟩, cd_mem 1265 (by decide +kernel) rfl, cd_mem 1266 (by decide +kernel) rfl⟩
abbrev b_M_keep : ByteArray := prog_9_method_86_code
abbrev m_M_keep : cd_MT := (⟨"CatDoorsModel", "keep", "()I"⟩, b_M_keep, 1, some .int)
set_option maxRecDepth 100000 in
theorem mc_M_keep : Cond.code m_M_keep.1 m_M_keep.2.1 m_M_keep.2.2.1 m_M_keep.2.2.2 ∈ cd_ws := cd_mem 1274 rfl rfl
theorem mf_M_keep : cd_MV m_M_keep 0 := ⟨⟨mc_M_keep, cd_mem 61 (by decide +kernel) rfl, by decide +kernel, by decide⟩, cd_mem 1272 (by decide +kernel) rfl, cd_mem 1273 (by decide +kernel) rfl⟩
abbrev b_M_back : ByteArray := prog_9_method_87_code
abbrev m_M_back : cd_MT := (⟨"CatDoorsModel", "back", "()I"⟩, b_M_back, 1, some .int)
set_option maxRecDepth 100000 in
theorem mc_M_back : Cond.code m_M_back.1 m_M_back.2.1 m_M_back.2.2.1 m_M_back.2.2.2 ∈ cd_ws := cd_mem 1278 rfl rfl
theorem mf_M_back : cd_MV m_M_back 0 := ⟨⟨mc_M_back, cd_mem 61 (by decide +kernel) rfl, by decide +kernel, by decide⟩, cd_mem 1276 (by decide +kernel) rfl, cd_mem 1277 (by decide +kernel) rfl⟩
abbrev b_M_count : ByteArray := prog_9_method_88_code
abbrev m_M_count : cd_MT := (⟨"CatDoorsModel", "count", "(I)I"⟩, b_M_count, 2, some .int)
set_option maxRecDepth 100000 in
theorem mc_M_count : Cond.code m_M_count.1 m_M_count.2.1 m_M_count.2.2.1 m_M_count.2.2.2 ∈ cd_ws := cd_mem 1282 rfl rfl
theorem mf_M_count : cd_MV m_M_count 1 := ⟨⟨mc_M_count, cd_mem 61 (by decide +kernel) rfl, by decide +kernel, by decide⟩, cd_mem 1280 (by decide +kernel) rfl, cd_mem 1281 (by decide +kernel) rfl⟩
theorem lk_M_1 : Cond.methodLink "CatDoorsModel" 1 ⟨"java/lang/Object", "<init>", "()V"⟩ ∈ cd_ws := cd_mem 830 (by decide +kernel) rfl
theorem lk_M_75 : Cond.methodLink "CatDoorsModel" 75 ⟨"CatDoorsModel", "in", "(III)Z"⟩ ∈ cd_ws := cd_mem 937 (by decide +kernel) rfl
theorem lk_M_79 : Cond.methodLink "CatDoorsModel" 79 ⟨"CatDoorsModel", "put", "(III)V"⟩ ∈ cd_ws := cd_mem 949 (by decide +kernel) rfl
theorem lk_M_83 : Cond.methodLink "CatDoorsModel" 83 ⟨"CatDoorsModel", "isOf", "(II)Z"⟩ ∈ cd_ws := cd_mem 940 (by decide +kernel) rfl
theorem lk_M_89 : Cond.methodLink "CatDoorsModel" 89 ⟨"CatDoorsModel", "comes", "(IIII)I"⟩ ∈ cd_ws := cd_mem 945 (by decide +kernel) rfl
theorem lk_M_93 : Cond.methodLink "CatDoorsModel" 93 ⟨"CatDoorsModel", "counts", "(I)I"⟩ ∈ cd_ws := cd_mem 969 (by decide +kernel) rfl
theorem lk_M_97 : Cond.methodLink "CatDoorsModel" 97 ⟨"CatDoorsModel", "of", "(II)I"⟩ ∈ cd_ws := cd_mem 961 (by decide +kernel) rfl
theorem lk_M_101 : Cond.methodLink "CatDoorsModel" 101 ⟨"CatDoorsModel", "worksOut", "(I)I"⟩ ∈ cd_ws := cd_mem 973 (by decide +kernel) rfl
theorem lk_M_104 : Cond.methodLink "CatDoorsModel" 104 ⟨"CatDoorsModel", "within", "(III)I"⟩ ∈ cd_ws := cd_mem 980 (by decide +kernel) rfl
theorem lk_M_108 : Cond.methodLink "CatDoorsModel" 108 ⟨"CatDoorsModel", "isAsking", "(I)Z"⟩ ∈ cd_ws := cd_mem 957 (by decide +kernel) rfl
theorem lk_M_112 : Cond.methodLink "CatDoorsModel" 112 ⟨"CatDoorsModel", "pressesOf", "(I)I"⟩ ∈ cd_ws := cd_mem 965 (by decide +kernel) rfl
theorem lk_M_115 : Cond.methodLink "CatDoorsModel" 115 ⟨"CatDoorsModel", "learnsOf", "(I)I"⟩ ∈ cd_ws := cd_mem 983 (by decide +kernel) rfl
theorem lk_M_118 : Cond.methodLink "CatDoorsModel" 118 ⟨"CatDoorsModel", "forgetsOf", "(I)I"⟩ ∈ cd_ws := cd_mem 987 (by decide +kernel) rfl
theorem lk_M_121 : Cond.methodLink "CatDoorsModel" 121 ⟨"CatDoorsModel", "scratchesOf", "(I)I"⟩ ∈ cd_ws := cd_mem 991 (by decide +kernel) rfl
theorem lk_M_124 : Cond.methodLink "CatDoorsModel" 124 ⟨"CatDoorsModel", "meantBy", "(I)I"⟩ ∈ cd_ws := cd_mem 995 (by decide +kernel) rfl
theorem lk_M_127 : Cond.methodLink "CatDoorsModel" 127 ⟨"CatDoorsModel", "worthOf", "(I)I"⟩ ∈ cd_ws := cd_mem 999 (by decide +kernel) rfl
theorem lk_M_130 : Cond.methodLink "CatDoorsModel" 130 ⟨"CatDoorsModel", "isUnder", "(II)Z"⟩ ∈ cd_ws := cd_mem 1007 (by decide +kernel) rfl
theorem lk_M_134 : Cond.methodLink "CatDoorsModel" 134 ⟨"CatDoorsModel", "becomes", "(II)I"⟩ ∈ cd_ws := cd_mem 1015 (by decide +kernel) rfl
theorem lk_M_138 : Cond.methodLink "CatDoorsModel" 138 ⟨"CatDoorsModel", "draw", "()I"⟩ ∈ cd_ws := cd_mem 1043 (by decide +kernel) rfl
theorem lk_M_142 : Cond.methodLink "CatDoorsModel" 142 ⟨"CatDoorsModel", "goes", "()I"⟩ ∈ cd_ws := cd_mem 1048 (by decide +kernel) rfl
theorem lk_M_145 : Cond.methodLink "CatDoorsModel" 145 ⟨"CatDoorsModel", "learns", "(I)V"⟩ ∈ cd_ws := cd_mem 1035 (by decide +kernel) rfl
theorem lk_M_149 : Cond.methodLink "CatDoorsModel" 149 ⟨"CatDoorsModel", "goesAsMeant", "(I)I"⟩ ∈ cd_ws := cd_mem 1039 (by decide +kernel) rfl
theorem lk_M_152 : Cond.methodLink "CatDoorsModel" 152 ⟨"CatDoorsModel", "rises", "(I)I"⟩ ∈ cd_ws := cd_mem 1031 (by decide +kernel) rfl
theorem lk_M_155 : Cond.methodLink "CatDoorsModel" 155 ⟨"CatDoorsModel", "asks", "(I)V"⟩ ∈ cd_ws := cd_mem 1072 (by decide +kernel) rfl
theorem lk_M_158 : Cond.methodLink "CatDoorsModel" 158 ⟨"CatDoorsModel", "hour", "()V"⟩ ∈ cd_ws := cd_mem 1068 (by decide +kernel) rfl
theorem lk_M_161 : Cond.methodLink "CatDoorsModel" 161 ⟨"CatDoorsModel", "goesOn", "(I)V"⟩ ∈ cd_ws := cd_mem 1064 (by decide +kernel) rfl
theorem lk_M_164 : Cond.methodLink "CatDoorsModel" 164 ⟨"CatDoorsModel", "habits", "()I"⟩ ∈ cd_ws := cd_mem 1080 (by decide +kernel) rfl
theorem lk_M_167 : Cond.methodLink "CatDoorsModel" 167 ⟨"CatDoorsModel", "nextOnes", "()I"⟩ ∈ cd_ws := cd_mem 1084 (by decide +kernel) rfl
theorem lk_M_170 : Cond.methodLink "CatDoorsModel" 170 ⟨"CatDoorsModel", "thinks", "()V"⟩ ∈ cd_ws := cd_mem 1092 (by decide +kernel) rfl
theorem lk_M_173 : Cond.methodLink "CatDoorsModel" 173 ⟨"CatDoorsModel", "putsBack", "()V"⟩ ∈ cd_ws := cd_mem 1096 (by decide +kernel) rfl
theorem lk_M_177 : Cond.methodLink "CatDoorsModel" 177 ⟨"CatDoorsModel", "habitsBehind", "(I)I"⟩ ∈ cd_ws := cd_mem 1109 (by decide +kernel) rfl
theorem lk_M_180 : Cond.methodLink "CatDoorsModel" 180 ⟨"CatDoorsModel", "risingsBehind", "(I)I"⟩ ∈ cd_ws := cd_mem 1121 (by decide +kernel) rfl
theorem lk_M_183 : Cond.methodLink "CatDoorsModel" 183 ⟨"CatDoorsModel", "isSheet", "(I)Z"⟩ ∈ cd_ws := cd_mem 1137 (by decide +kernel) rfl
theorem lk_M_187 : Cond.methodLink "CatDoorsModel" 187 ⟨"CatDoorsModel", "offBy", "(II)J"⟩ ∈ cd_ws := cd_mem 1141 (by decide +kernel) rfl
theorem lk_M_207 : Cond.methodLink "CatDoorsModel" 207 ⟨"CatDoorsModel", "isLetter", "(I)Z"⟩ ∈ cd_ws := cd_mem 1169 (by decide +kernel) rfl
theorem lk_M_213 : Cond.methodLink "CatDoorsModel" 213 ⟨"CatDoorsModel", "isFigure", "(I)Z"⟩ ∈ cd_ws := cd_mem 1173 (by decide +kernel) rfl
theorem lk_M_219 : Cond.methodLink "CatDoorsModel" 219 ⟨"CatDoorsModel", "go", "()V"⟩ ∈ cd_ws := cd_mem 1165 (by decide +kernel) rfl
theorem lk_M_225 : Cond.methodLink "CatDoorsModel" 225 ⟨"CatDoorsModel", "rank", "(I)I"⟩ ∈ cd_ws := cd_mem 1197 (by decide +kernel) rfl
theorem lk_M_231 : Cond.methodLink "CatDoorsModel" 231 ⟨"CatDoorsModel", "nameOf", "(I)I"⟩ ∈ cd_ws := cd_mem 1189 (by decide +kernel) rfl
theorem lk_M_237 : Cond.methodLink "CatDoorsModel" 237 ⟨"CatDoorsModel", "settle", "(I)V"⟩ ∈ cd_ws := cd_mem 1193 (by decide +kernel) rfl
theorem lk_M_240 : Cond.methodLink "CatDoorsModel" 240 ⟨"CatDoorsModel", "takesPart", "()Z"⟩ ∈ cd_ws := cd_mem 1185 (by decide +kernel) rfl
theorem lk_M_244 : Cond.methodLink "CatDoorsModel" 244 ⟨"CatDoorsModel", "notsOpen", "()I"⟩ ∈ cd_ws := cd_mem 1200 (by decide +kernel) rfl
theorem lk_M_247 : Cond.methodLink "CatDoorsModel" 247 ⟨"CatDoorsModel", "signHere", "()I"⟩ ∈ cd_ws := cd_mem 1204 (by decide +kernel) rfl
theorem lk_M_250 : Cond.methodLink "CatDoorsModel" 250 ⟨"CatDoorsModel", "takesKey", "()Z"⟩ ∈ cd_ws := cd_mem 1177 (by decide +kernel) rfl
theorem lk_M_253 : Cond.methodLink "CatDoorsModel" 253 ⟨"CatDoorsModel", "takesE", "()Z"⟩ ∈ cd_ws := cd_mem 1181 (by decide +kernel) rfl
theorem lk_M_256 : Cond.methodLink "CatDoorsModel" 256 ⟨"CatDoorsModel", "two", "(III)I"⟩ ∈ cd_ws := cd_mem 977 (by decide +kernel) rfl
theorem lk_M_263 : Cond.methodLink "CatDoorsModel" 263 ⟨"CatDoorsModel", "isSlot", "(I)Z"⟩ ∈ cd_ws := cd_mem 1244 (by decide +kernel) rfl
theorem lk_M_274 : Cond.methodLink "CatDoorsModel" 274 ⟨"CatDoorsModel", "copyAll", "([I[I)V"⟩ ∈ cd_ws := cd_mem 1268 (by decide +kernel) rfl
theorem f_M_9 : cd_F "CatDoorsModel" 9 7 0 (.array .int) true := ⟨_, _, _, _, cd_ci7, by decide, cd_mem 831 (by decide +kernel) rfl, rfl, rfl, rfl⟩
theorem f_M_13 : cd_F "CatDoorsModel" 13 7 1 (.array .int) true := ⟨_, _, _, _, cd_ci7, by decide, cd_mem 832 (by decide +kernel) rfl, rfl, rfl, rfl⟩
theorem f_M_16 : cd_F "CatDoorsModel" 16 7 2 (.array .int) true := ⟨_, _, _, _, cd_ci7, by decide, cd_mem 833 (by decide +kernel) rfl, rfl, rfl, rfl⟩
theorem f_M_19 : cd_F "CatDoorsModel" 19 7 4 (.array .int) true := ⟨_, _, _, _, cd_ci7, by decide, cd_mem 835 (by decide +kernel) rfl, rfl, rfl, rfl⟩
theorem f_M_22 : cd_F "CatDoorsModel" 22 7 5 (.array .int) true := ⟨_, _, _, _, cd_ci7, by decide, cd_mem 836 (by decide +kernel) rfl, rfl, rfl, rfl⟩
theorem f_M_25 : cd_F "CatDoorsModel" 25 7 13 (.array .char) true := ⟨_, _, _, _, cd_ci7, by decide, cd_mem 844 (by decide +kernel) rfl, rfl, rfl, rfl⟩
theorem f_M_29 : cd_F "CatDoorsModel" 29 7 14 (.array .int) true := ⟨_, _, _, _, cd_ci7, by decide, cd_mem 845 (by decide +kernel) rfl, rfl, rfl, rfl⟩
theorem f_M_32 : cd_F "CatDoorsModel" 32 7 15 (.array .int) true := ⟨_, _, _, _, cd_ci7, by decide, cd_mem 846 (by decide +kernel) rfl, rfl, rfl, rfl⟩
theorem f_M_35 : cd_F "CatDoorsModel" 35 7 18 (.array .int) true := ⟨_, _, _, _, cd_ci7, by decide, cd_mem 849 (by decide +kernel) rfl, rfl, rfl, rfl⟩
theorem f_M_38 : cd_F "CatDoorsModel" 38 7 20 (.array .boolean) true := ⟨_, _, _, _, cd_ci7, by decide, cd_mem 851 (by decide +kernel) rfl, rfl, rfl, rfl⟩
theorem f_M_42 : cd_F "CatDoorsModel" 42 7 21 (.array .int) true := ⟨_, _, _, _, cd_ci7, by decide, cd_mem 852 (by decide +kernel) rfl, rfl, rfl, rfl⟩
theorem f_M_45 : cd_F "CatDoorsModel" 45 7 22 (.array .int) true := ⟨_, _, _, _, cd_ci7, by decide, cd_mem 853 (by decide +kernel) rfl, rfl, rfl, rfl⟩
theorem f_M_48 : cd_F "CatDoorsModel" 48 7 23 (.array .int) true := ⟨_, _, _, _, cd_ci7, by decide, cd_mem 854 (by decide +kernel) rfl, rfl, rfl, rfl⟩
theorem f_M_51 : cd_F "CatDoorsModel" 51 7 24 (.array .int) true := ⟨_, _, _, _, cd_ci7, by decide, cd_mem 855 (by decide +kernel) rfl, rfl, rfl, rfl⟩
theorem f_M_54 : cd_F "CatDoorsModel" 54 7 25 (.array .int) true := ⟨_, _, _, _, cd_ci7, by decide, cd_mem 856 (by decide +kernel) rfl, rfl, rfl, rfl⟩
theorem f_M_57 : cd_F "CatDoorsModel" 57 7 26 (.array .int) true := ⟨_, _, _, _, cd_ci7, by decide, cd_mem 857 (by decide +kernel) rfl, rfl, rfl, rfl⟩
theorem f_M_60 : cd_F "CatDoorsModel" 60 7 27 (.array .int) true := ⟨_, _, _, _, cd_ci7, by decide, cd_mem 858 (by decide +kernel) rfl, rfl, rfl, rfl⟩
theorem f_M_63 : cd_F "CatDoorsModel" 63 7 28 (.array .int) true := ⟨_, _, _, _, cd_ci7, by decide, cd_mem 859 (by decide +kernel) rfl, rfl, rfl, rfl⟩
theorem f_M_66 : cd_F "CatDoorsModel" 66 7 29 (.array .int) true := ⟨_, _, _, _, cd_ci7, by decide, cd_mem 860 (by decide +kernel) rfl, rfl, rfl, rfl⟩
theorem f_M_69 : cd_F "CatDoorsModel" 69 7 30 (.array .int) true := ⟨_, _, _, _, cd_ci7, by decide, cd_mem 861 (by decide +kernel) rfl, rfl, rfl, rfl⟩
theorem f_M_72 : cd_F "CatDoorsModel" 72 7 31 (.array .int) true := ⟨_, _, _, _, cd_ci7, by decide, cd_mem 862 (by decide +kernel) rfl, rfl, rfl, rfl⟩
theorem f_M_191 : cd_F "CatDoorsModel" 191 7 6 .int false := ⟨_, _, _, _, cd_ci7, by decide, cd_mem 837 (by decide +kernel) rfl, rfl, rfl, rfl⟩
theorem f_M_195 : cd_F "CatDoorsModel" 195 7 7 .int false := ⟨_, _, _, _, cd_ci7, by decide, cd_mem 838 (by decide +kernel) rfl, rfl, rfl, rfl⟩
theorem f_M_198 : cd_F "CatDoorsModel" 198 7 8 .int false := ⟨_, _, _, _, cd_ci7, by decide, cd_mem 839 (by decide +kernel) rfl, rfl, rfl, rfl⟩
theorem f_M_201 : cd_F "CatDoorsModel" 201 7 11 .int false := ⟨_, _, _, _, cd_ci7, by decide, cd_mem 842 (by decide +kernel) rfl, rfl, rfl, rfl⟩
theorem f_M_204 : cd_F "CatDoorsModel" 204 7 9 .int false := ⟨_, _, _, _, cd_ci7, by decide, cd_mem 840 (by decide +kernel) rfl, rfl, rfl, rfl⟩
theorem f_M_210 : cd_F "CatDoorsModel" 210 7 10 .int false := ⟨_, _, _, _, cd_ci7, by decide, cd_mem 841 (by decide +kernel) rfl, rfl, rfl, rfl⟩
theorem f_M_216 : cd_F "CatDoorsModel" 216 7 12 .int false := ⟨_, _, _, _, cd_ci7, by decide, cd_mem 843 (by decide +kernel) rfl, rfl, rfl, rfl⟩
theorem f_M_222 : cd_F "CatDoorsModel" 222 7 19 .int false := ⟨_, _, _, _, cd_ci7, by decide, cd_mem 850 (by decide +kernel) rfl, rfl, rfl, rfl⟩
theorem f_M_228 : cd_F "CatDoorsModel" 228 7 16 .int false := ⟨_, _, _, _, cd_ci7, by decide, cd_mem 847 (by decide +kernel) rfl, rfl, rfl, rfl⟩
theorem f_M_234 : cd_F "CatDoorsModel" 234 7 17 .int false := ⟨_, _, _, _, cd_ci7, by decide, cd_mem 848 (by decide +kernel) rfl, rfl, rfl, rfl⟩
theorem f_M_267 : cd_F "CatDoorsModel" 267 7 32 .int false := ⟨_, _, _, _, cd_ci7, by decide, cd_mem 863 (by decide +kernel) rfl, rfl, rfl, rfl⟩
theorem f_M_270 : cd_F "CatDoorsModel" 270 7 3 .boolean false := ⟨_, _, _, _, cd_ci7, by decide, cd_mem 834 (by decide +kernel) rfl, rfl, rfl, rfl⟩
theorem k_M_87 : Cond.constant "CatDoorsModel" 87 (-1000000001) ∈ cd_ws := cd_mem 943 (by decide +kernel) rfl
theorem k_M_88 : Cond.constant "CatDoorsModel" 88 (-1000000003) ∈ cd_ws := cd_mem 944 (by decide +kernel) rfl
theorem k_M_133 : Cond.constant "CatDoorsModel" 133 (-1000000012) ∈ cd_ws := cd_mem 1010 (by decide +kernel) rfl
theorem k_M_137 : Cond.constant "CatDoorsModel" 137 (1103515245) ∈ cd_ws := cd_mem 1047 (by decide +kernel) rfl
theorem k_M_176 : Cond.constant "CatDoorsModel" 176 (-1000000005) ∈ cd_ws := cd_mem 1104 (by decide +kernel) rfl
theorem k_M_186 : Cond.constant "CatDoorsModel" 186 (-1000000011) ∈ cd_ws := cd_mem 1140 (by decide +kernel) rfl
theorem k_M_259 : Cond.constant "CatDoorsModel" 259 (-1000000014) ∈ cd_ws := cd_mem 1220 (by decide +kernel) rfl
theorem k_M_260 : Cond.constant "CatDoorsModel" 260 (-1000000013) ∈ cd_ws := cd_mem 1225 (by decide +kernel) rfl
theorem k_M_261 : Cond.constant "CatDoorsModel" 261 (-99999) ∈ cd_ws := cd_mem 1226 (by decide +kernel) rfl
theorem k_M_262 : Cond.constant "CatDoorsModel" 262 (99999) ∈ cd_ws := cd_mem 1227 (by decide +kernel) rfl
theorem k_M_266 : Cond.constant "CatDoorsModel" 266 (-1000000002) ∈ cd_ws := cd_mem 1259 (by decide +kernel) rfl
end
section
/-- the reference object and its rows -/
def cd_mt : List (Nat × Nat × Nat × Nat) := [(0, 1, 2, 1448), (1, 2, 2, 1448), (2, 3, 2, 1448), (4, 4, 2, 76), (5, 5, 2, 96), (13, 6, 4, 12), (14, 7, 2, 4), (15, 8, 2, 96), (18, 9, 2, 96), (20, 10, 5, 10), (21, 11, 2, 96), (22, 12, 2, 4), (23, 13, 2, 4), (24, 14, 2, 4), (25, 15, 2, 96), (26, 16, 2, 5), (27, 17, 2, 5), (28, 18, 2, 5), (29, 19, 2, 120), (30, 20, 2, 24), (31, 21, 2, 60)]
def cd_MO (w : cd_WT) (S : cd_Sp) (m : Nat) : Prop := w.1 ≤ m ∧ S.2.1 m = (1, 7) ∧ ∀ q ∈ cd_mt, S.2.2 m q.1 = some (m + q.2.1) ∧ S.2.1 (m + q.2.1) = q.2.2
theorem mo_r1 {w : cd_WT} {S : cd_Sp} {m : Nat} (h : cd_MO w S m) : S.2.2 m 0 = some (m + 1) := (h.2.2 _ (List.mem_of_getElem? (i := 0) rfl)).1
theorem mo_s1 {w : cd_WT} {S : cd_Sp} {m : Nat} (h : cd_MO w S m) : S.2.1 (m + 1) = (2, 1448) := (h.2.2 _ (List.mem_of_getElem? (i := 0) rfl)).2
theorem mo_l1 {w : cd_WT} {S : cd_Sp} {m : Nat} (h : cd_MO w S m) : w.1 ≤ m + 1 := Nat.le_trans h.1 (Nat.le_add_right _ _)
theorem mo_r2 {w : cd_WT} {S : cd_Sp} {m : Nat} (h : cd_MO w S m) : S.2.2 m 1 = some (m + 2) := (h.2.2 _ (List.mem_of_getElem? (i := 1) rfl)).1
theorem mo_s2 {w : cd_WT} {S : cd_Sp} {m : Nat} (h : cd_MO w S m) : S.2.1 (m + 2) = (2, 1448) := (h.2.2 _ (List.mem_of_getElem? (i := 1) rfl)).2
theorem mo_l2 {w : cd_WT} {S : cd_Sp} {m : Nat} (h : cd_MO w S m) : w.1 ≤ m + 2 := Nat.le_trans h.1 (Nat.le_add_right _ _)
theorem mo_r3 {w : cd_WT} {S : cd_Sp} {m : Nat} (h : cd_MO w S m) : S.2.2 m 2 = some (m + 3) := (h.2.2 _ (List.mem_of_getElem? (i := 2) rfl)).1
theorem mo_s3 {w : cd_WT} {S : cd_Sp} {m : Nat} (h : cd_MO w S m) : S.2.1 (m + 3) = (2, 1448) := (h.2.2 _ (List.mem_of_getElem? (i := 2) rfl)).2
theorem mo_l3 {w : cd_WT} {S : cd_Sp} {m : Nat} (h : cd_MO w S m) : w.1 ≤ m + 3 := Nat.le_trans h.1 (Nat.le_add_right _ _)
theorem mo_r4 {w : cd_WT} {S : cd_Sp} {m : Nat} (h : cd_MO w S m) : S.2.2 m 4 = some (m + 4) := (h.2.2 _ (List.mem_of_getElem? (i := 3) rfl)).1
theorem mo_s4 {w : cd_WT} {S : cd_Sp} {m : Nat} (h : cd_MO w S m) : S.2.1 (m + 4) = (2, 76) := (h.2.2 _ (List.mem_of_getElem? (i := 3) rfl)).2
theorem mo_l4 {w : cd_WT} {S : cd_Sp} {m : Nat} (h : cd_MO w S m) : w.1 ≤ m + 4 := Nat.le_trans h.1 (Nat.le_add_right _ _)
theorem mo_r5 {w : cd_WT} {S : cd_Sp} {m : Nat} (h : cd_MO w S m) : S.2.2 m 5 = some (m + 5) := (h.2.2 _ (List.mem_of_getElem? (i := 4) rfl)).1
theorem mo_s5 {w : cd_WT} {S : cd_Sp} {m : Nat} (h : cd_MO w S m) : S.2.1 (m + 5) = (2, 96) := (h.2.2 _ (List.mem_of_getElem? (i := 4) rfl)).2
theorem mo_l5 {w : cd_WT} {S : cd_Sp} {m : Nat} (h : cd_MO w S m) : w.1 ≤ m + 5 := Nat.le_trans h.1 (Nat.le_add_right _ _)
theorem mo_r6 {w : cd_WT} {S : cd_Sp} {m : Nat} (h : cd_MO w S m) : S.2.2 m 13 = some (m + 6) := (h.2.2 _ (List.mem_of_getElem? (i := 5) rfl)).1
theorem mo_s6 {w : cd_WT} {S : cd_Sp} {m : Nat} (h : cd_MO w S m) : S.2.1 (m + 6) = (4, 12) := (h.2.2 _ (List.mem_of_getElem? (i := 5) rfl)).2
theorem mo_l6 {w : cd_WT} {S : cd_Sp} {m : Nat} (h : cd_MO w S m) : w.1 ≤ m + 6 := Nat.le_trans h.1 (Nat.le_add_right _ _)
theorem mo_r7 {w : cd_WT} {S : cd_Sp} {m : Nat} (h : cd_MO w S m) : S.2.2 m 14 = some (m + 7) := (h.2.2 _ (List.mem_of_getElem? (i := 6) rfl)).1
theorem mo_s7 {w : cd_WT} {S : cd_Sp} {m : Nat} (h : cd_MO w S m) : S.2.1 (m + 7) = (2, 4) := (h.2.2 _ (List.mem_of_getElem? (i := 6) rfl)).2
theorem mo_l7 {w : cd_WT} {S : cd_Sp} {m : Nat} (h : cd_MO w S m) : w.1 ≤ m + 7 := Nat.le_trans h.1 (Nat.le_add_right _ _)
theorem mo_r8 {w : cd_WT} {S : cd_Sp} {m : Nat} (h : cd_MO w S m) : S.2.2 m 15 = some (m + 8) := (h.2.2 _ (List.mem_of_getElem? (i := 7) rfl)).1
theorem mo_s8 {w : cd_WT} {S : cd_Sp} {m : Nat} (h : cd_MO w S m) : S.2.1 (m + 8) = (2, 96) := (h.2.2 _ (List.mem_of_getElem? (i := 7) rfl)).2
theorem mo_l8 {w : cd_WT} {S : cd_Sp} {m : Nat} (h : cd_MO w S m) : w.1 ≤ m + 8 := Nat.le_trans h.1 (Nat.le_add_right _ _)
theorem mo_r9 {w : cd_WT} {S : cd_Sp} {m : Nat} (h : cd_MO w S m) : S.2.2 m 18 = some (m + 9) := (h.2.2 _ (List.mem_of_getElem? (i := 8) rfl)).1
theorem mo_s9 {w : cd_WT} {S : cd_Sp} {m : Nat} (h : cd_MO w S m) : S.2.1 (m + 9) = (2, 96) := (h.2.2 _ (List.mem_of_getElem? (i := 8) rfl)).2
theorem mo_l9 {w : cd_WT} {S : cd_Sp} {m : Nat} (h : cd_MO w S m) : w.1 ≤ m + 9 := Nat.le_trans h.1 (Nat.le_add_right _ _)
theorem mo_r10 {w : cd_WT} {S : cd_Sp} {m : Nat} (h : cd_MO w S m) : S.2.2 m 20 = some (m + 10) := (h.2.2 _ (List.mem_of_getElem? (i := 9) rfl)).1
theorem mo_s10 {w : cd_WT} {S : cd_Sp} {m : Nat} (h : cd_MO w S m) : S.2.1 (m + 10) = (5, 10) := (h.2.2 _ (List.mem_of_getElem? (i := 9) rfl)).2
theorem mo_l10 {w : cd_WT} {S : cd_Sp} {m : Nat} (h : cd_MO w S m) : w.1 ≤ m + 10 := Nat.le_trans h.1 (Nat.le_add_right _ _)
theorem mo_r11 {w : cd_WT} {S : cd_Sp} {m : Nat} (h : cd_MO w S m) : S.2.2 m 21 = some (m + 11) := (h.2.2 _ (List.mem_of_getElem? (i := 10) rfl)).1
theorem mo_s11 {w : cd_WT} {S : cd_Sp} {m : Nat} (h : cd_MO w S m) : S.2.1 (m + 11) = (2, 96) := (h.2.2 _ (List.mem_of_getElem? (i := 10) rfl)).2
theorem mo_l11 {w : cd_WT} {S : cd_Sp} {m : Nat} (h : cd_MO w S m) : w.1 ≤ m + 11 := Nat.le_trans h.1 (Nat.le_add_right _ _)
theorem mo_r12 {w : cd_WT} {S : cd_Sp} {m : Nat} (h : cd_MO w S m) : S.2.2 m 22 = some (m + 12) := (h.2.2 _ (List.mem_of_getElem? (i := 11) rfl)).1
theorem mo_s12 {w : cd_WT} {S : cd_Sp} {m : Nat} (h : cd_MO w S m) : S.2.1 (m + 12) = (2, 4) := (h.2.2 _ (List.mem_of_getElem? (i := 11) rfl)).2
theorem mo_l12 {w : cd_WT} {S : cd_Sp} {m : Nat} (h : cd_MO w S m) : w.1 ≤ m + 12 := Nat.le_trans h.1 (Nat.le_add_right _ _)
theorem mo_r13 {w : cd_WT} {S : cd_Sp} {m : Nat} (h : cd_MO w S m) : S.2.2 m 23 = some (m + 13) := (h.2.2 _ (List.mem_of_getElem? (i := 12) rfl)).1
theorem mo_s13 {w : cd_WT} {S : cd_Sp} {m : Nat} (h : cd_MO w S m) : S.2.1 (m + 13) = (2, 4) := (h.2.2 _ (List.mem_of_getElem? (i := 12) rfl)).2
theorem mo_l13 {w : cd_WT} {S : cd_Sp} {m : Nat} (h : cd_MO w S m) : w.1 ≤ m + 13 := Nat.le_trans h.1 (Nat.le_add_right _ _)
theorem mo_r14 {w : cd_WT} {S : cd_Sp} {m : Nat} (h : cd_MO w S m) : S.2.2 m 24 = some (m + 14) := (h.2.2 _ (List.mem_of_getElem? (i := 13) rfl)).1
theorem mo_s14 {w : cd_WT} {S : cd_Sp} {m : Nat} (h : cd_MO w S m) : S.2.1 (m + 14) = (2, 4) := (h.2.2 _ (List.mem_of_getElem? (i := 13) rfl)).2
theorem mo_l14 {w : cd_WT} {S : cd_Sp} {m : Nat} (h : cd_MO w S m) : w.1 ≤ m + 14 := Nat.le_trans h.1 (Nat.le_add_right _ _)
theorem mo_r15 {w : cd_WT} {S : cd_Sp} {m : Nat} (h : cd_MO w S m) : S.2.2 m 25 = some (m + 15) := (h.2.2 _ (List.mem_of_getElem? (i := 14) rfl)).1
theorem mo_s15 {w : cd_WT} {S : cd_Sp} {m : Nat} (h : cd_MO w S m) : S.2.1 (m + 15) = (2, 96) := (h.2.2 _ (List.mem_of_getElem? (i := 14) rfl)).2
theorem mo_l15 {w : cd_WT} {S : cd_Sp} {m : Nat} (h : cd_MO w S m) : w.1 ≤ m + 15 := Nat.le_trans h.1 (Nat.le_add_right _ _)
theorem mo_r16 {w : cd_WT} {S : cd_Sp} {m : Nat} (h : cd_MO w S m) : S.2.2 m 26 = some (m + 16) := (h.2.2 _ (List.mem_of_getElem? (i := 15) rfl)).1
theorem mo_s16 {w : cd_WT} {S : cd_Sp} {m : Nat} (h : cd_MO w S m) : S.2.1 (m + 16) = (2, 5) := (h.2.2 _ (List.mem_of_getElem? (i := 15) rfl)).2
theorem mo_l16 {w : cd_WT} {S : cd_Sp} {m : Nat} (h : cd_MO w S m) : w.1 ≤ m + 16 := Nat.le_trans h.1 (Nat.le_add_right _ _)
theorem mo_r17 {w : cd_WT} {S : cd_Sp} {m : Nat} (h : cd_MO w S m) : S.2.2 m 27 = some (m + 17) := (h.2.2 _ (List.mem_of_getElem? (i := 16) rfl)).1
theorem mo_s17 {w : cd_WT} {S : cd_Sp} {m : Nat} (h : cd_MO w S m) : S.2.1 (m + 17) = (2, 5) := (h.2.2 _ (List.mem_of_getElem? (i := 16) rfl)).2
theorem mo_l17 {w : cd_WT} {S : cd_Sp} {m : Nat} (h : cd_MO w S m) : w.1 ≤ m + 17 := Nat.le_trans h.1 (Nat.le_add_right _ _)
theorem mo_r18 {w : cd_WT} {S : cd_Sp} {m : Nat} (h : cd_MO w S m) : S.2.2 m 28 = some (m + 18) := (h.2.2 _ (List.mem_of_getElem? (i := 17) rfl)).1
theorem mo_s18 {w : cd_WT} {S : cd_Sp} {m : Nat} (h : cd_MO w S m) : S.2.1 (m + 18) = (2, 5) := (h.2.2 _ (List.mem_of_getElem? (i := 17) rfl)).2
theorem mo_l18 {w : cd_WT} {S : cd_Sp} {m : Nat} (h : cd_MO w S m) : w.1 ≤ m + 18 := Nat.le_trans h.1 (Nat.le_add_right _ _)
theorem mo_r19 {w : cd_WT} {S : cd_Sp} {m : Nat} (h : cd_MO w S m) : S.2.2 m 29 = some (m + 19) := (h.2.2 _ (List.mem_of_getElem? (i := 18) rfl)).1
theorem mo_s19 {w : cd_WT} {S : cd_Sp} {m : Nat} (h : cd_MO w S m) : S.2.1 (m + 19) = (2, 120) := (h.2.2 _ (List.mem_of_getElem? (i := 18) rfl)).2
theorem mo_l19 {w : cd_WT} {S : cd_Sp} {m : Nat} (h : cd_MO w S m) : w.1 ≤ m + 19 := Nat.le_trans h.1 (Nat.le_add_right _ _)
theorem mo_r20 {w : cd_WT} {S : cd_Sp} {m : Nat} (h : cd_MO w S m) : S.2.2 m 30 = some (m + 20) := (h.2.2 _ (List.mem_of_getElem? (i := 19) rfl)).1
theorem mo_s20 {w : cd_WT} {S : cd_Sp} {m : Nat} (h : cd_MO w S m) : S.2.1 (m + 20) = (2, 24) := (h.2.2 _ (List.mem_of_getElem? (i := 19) rfl)).2
theorem mo_l20 {w : cd_WT} {S : cd_Sp} {m : Nat} (h : cd_MO w S m) : w.1 ≤ m + 20 := Nat.le_trans h.1 (Nat.le_add_right _ _)
theorem mo_r21 {w : cd_WT} {S : cd_Sp} {m : Nat} (h : cd_MO w S m) : S.2.2 m 31 = some (m + 21) := (h.2.2 _ (List.mem_of_getElem? (i := 20) rfl)).1
theorem mo_s21 {w : cd_WT} {S : cd_Sp} {m : Nat} (h : cd_MO w S m) : S.2.1 (m + 21) = (2, 60) := (h.2.2 _ (List.mem_of_getElem? (i := 20) rfl)).2
theorem mo_l21 {w : cd_WT} {S : cd_Sp} {m : Nat} (h : cd_MO w S m) : w.1 ≤ m + 21 := Nat.le_trans h.1 (Nat.le_add_right _ _)
def cd_wi (v lo hi : Int32) : Int32 := if v < lo then lo else if hi < v then hi else v
abbrev cd_isA (N : Nat → Int32) (a : Int32) : Prop := nI 0 ≤ a ∧ a ≤ N 1 - nI 1
def cd_comes (N : Nat → Int32) (mm : Nat) (k h b e : Int32) : Nat → Int32 := upd (upd (upd (upd (upd (upd N 1 (nI (mm + 1))) (16 + 5 * mm + 0) k) (16 + 5 * mm + 1) h) (16 + 5 * mm + 2) b) (16 + 5 * mm + 3) e) (16 + 5 * mm + 4) (nI 0)
def cd_lim (q : Int32) : Int32 := if q = nI 1 then nI 23 else if q = nI 2 then nI 99 else nI 100
abbrev cd_isOf (q v : Int32) : Prop := nI 0 ≤ v ∧ v ≤ cd_lim q
def cd_lea (k : Int32) : Int32 := if k = nI 1 then nI 3 else if k = nI 3 then nI 12 else if k = nI 4 then nI 16 else if k = nI 5 then nI 15 else nI 8
def cd_fog (k : Int32) : Int32 := if k = nI 1 then nI 6 else if k = nI 3 then nI 6 else if k = nI 4 then nI 1 else if k = nI 5 then nI 9 else nI 4
def cd_scr (k : Int32) : Int32 := if k = nI 1 then nI 0 else if k = nI 3 then nI 7 else if k = nI 4 then nI 3 else if k = nI 5 then nI 1 else nI 2
def cd_mea (N : Nat → Int32) (i : Nat) : Int32 := if N (16 + 5 * i + 0) = nI 1 then N (16 + 5 * i + 3) / nI 2 else if N (16 + 5 * i + 0) = nI 2 then (if N 8 = nI 1 ∧ N 7 = 0 then nI 10 else N (16 + 5 * i + 3)) else if N (16 + 5 * i + 0) = nI 3 then (if N 7 = nI 1 then nI 100 else N (16 + 5 * i + 3) / nI 2) else if N (16 + 5 * i + 0) = nI 4 then (if N 8 = nI 1 ∧ N 7 = 0 then nI 10 else N (16 + 5 * i + 3)) else if N (16 + 5 * i + 0) = nI 5 then nI 0 else N (16 + 5 * i + 3)
def cd_wor (k b : Int32) : Int32 := if k = nI 1 then b + nI 6 else if k = nI 2 then nI 99 - b else if k = nI 3 then nI 2 * (b + nI 6) else if k = nI 4 then nI 91 - b else if k = nI 5 then nI 3 else b
abbrev cd_und (k q : Int32) : Prop := q = 0 ∨ k = q ∨ (q = nI 1 ∧ k = nI 3) ∨ (q = nI 2 ∧ k = nI 4)
def cd_z (z : Int32) : Int32 := z * 1103515245 + nI 12345
def cd_dr (N : Nat → Int32) : Nat → Int32 := upd N 0 (cd_z (N 0))
def cd_dv (N : Nat → Int32) : Int32 := cd_ush (cd_z (N 0)) (nI 8)
def cd_go (N : Nat → Int32) : Nat → Int32 := if nI 1 - N 7 = nI 1 then upd (upd N 7 (nI 1 - N 7)) 12 (N 12 + nI 1) else upd (upd N 7 (nI 1 - N 7)) 13 (N 13 + nI 1)
def cd_gm (N : Nat → Int32) (i : Nat) : Int32 × (Nat → Int32) := if cd_mea (cd_dr N) i ≤ cd_rem (cd_dv N) (nI 100) then (nI 0, cd_dr N) else (nI 1, cd_go (cd_dr N))
def cd_le1 (N : Nat → Int32) (i : Nat) : Nat → Int32 := upd N (16 + 5 * i + 4) (N (16 + 5 * i + 4) + nI 1)
def cd_le (N : Nat → Int32) (i : Nat) : Nat → Int32 := upd (cd_le1 N i) (16 + 5 * i + 2) (cd_wi (cd_le1 N i (16 + 5 * i + 2) + cd_lea (cd_le1 N i (16 + 5 * i + 0))) (nI 0) (nI 99))
def cd_ri (N : Nat → Int32) (i : Nat) : Int32 × (Nat → Int32) := cd_gm (cd_le (upd N 10 (N 10 + nI 1)) i) i
theorem d_M_in_0 : cd_D_iload b_M_in 0 0 1 := Or.inr ⟨0, ⟨by decide +kernel, rfl⟩, rfl⟩
theorem d_M_in_1 : cd_D_iload b_M_in 1 1 2 := Or.inr ⟨1, ⟨by decide +kernel, rfl⟩, rfl⟩
theorem d_M_in_2 : cd_D_icmp_lt b_M_in 2 14 5 := ⟨12, by decide +kernel, by decide, rfl⟩
theorem d_M_in_5 : cd_D_iload b_M_in 5 0 6 := Or.inr ⟨0, ⟨by decide +kernel, rfl⟩, rfl⟩
theorem d_M_in_6 : cd_D_iload b_M_in 6 2 7 := Or.inr ⟨2, ⟨by decide +kernel, rfl⟩, rfl⟩
theorem d_M_in_7 : cd_D_icmp_gt b_M_in 7 14 10 := ⟨7, by decide +kernel, by decide, rfl⟩
theorem d_M_in_10 : cd_Dk b_M_in 10 (nI 1) 11 := Or.inl ⟨1, ⟨by decide +kernel, rfl⟩, by decide +kernel⟩
theorem d_M_in_11 : cd_D_goto b_M_in 11 15 := ⟨4, by decide +kernel, by decide⟩
theorem d_M_in_14 : cd_Dk b_M_in 14 (nI 0) 15 := Or.inl ⟨0, ⟨by decide +kernel, rfl⟩, by decide +kernel⟩
theorem d_M_in_15 : cd_D 1 b_M_in 15 .ireturn 16 := ⟨by decide +kernel, rfl⟩
theorem c_M_in {l : Launch} {w : cd_WT} {S : cd_Sp} {I : cd_Mem} (x y z : Int32) : cd_C l w m_M_in 0 0 0 [.int x, .int y, .int z] S I (cd_Fi S (cd_bI (y ≤ x ∧ x ≤ z)) I) := by
  refine cd_intro (by decide) (by simp [Value.category]) (Nat.le_of_ble_eq_true rfl) ?_
  intro X hO hE
  show cd_J w X 0 0 S I 0 [some (.int x), some (.int y), some (.int z)] []
  refine r_iload hO d_M_in_0 rfl ?_
  refine r_iload hO d_M_in_1 rfl ?_
  refine r_icmp_lt hO d_M_in_2 (fun c_2 => ?_) (fun c_2 => ?_)
  · refine r_k hO d_M_in_14 ?_
    refine r_zret hO hE (by first | exact Or.inl rfl | exact Or.inr rfl) (Nat.zero_le _) (Nat.zero_le _) d_M_in_15 ?_
    first | exact cd_ret1 (by simp only [Int32.lt_iff_toInt_lt, Int32.le_iff_toInt_le] at *; omega) | exact cd_ret0 (by simp only [Int32.lt_iff_toInt_lt, Int32.le_iff_toInt_le] at *; omega)
  · refine r_iload hO d_M_in_5 rfl ?_
    refine r_iload hO d_M_in_6 rfl ?_
    refine r_icmp_gt hO d_M_in_7 (fun c_7 => ?_) (fun c_7 => ?_)
    · refine r_k hO d_M_in_14 ?_
      refine r_zret hO hE (by first | exact Or.inl rfl | exact Or.inr rfl) (Nat.zero_le _) (Nat.zero_le _) d_M_in_15 ?_
      first | exact cd_ret1 (by simp only [Int32.lt_iff_toInt_lt, Int32.le_iff_toInt_le] at *; omega) | exact cd_ret0 (by simp only [Int32.lt_iff_toInt_lt, Int32.le_iff_toInt_le] at *; omega)
    · refine r_k hO d_M_in_10 ?_
      refine r_goto hO d_M_in_11 ?_
      refine r_zret hO hE (by first | exact Or.inl rfl | exact Or.inr rfl) (Nat.zero_le _) (Nat.zero_le _) d_M_in_15 ?_
      first | exact cd_ret1 (by simp only [Int32.lt_iff_toInt_lt, Int32.le_iff_toInt_le] at *; omega) | exact cd_ret0 (by simp only [Int32.lt_iff_toInt_lt, Int32.le_iff_toInt_le] at *; omega)
theorem d_M_within_0 : cd_D_iload b_M_within 0 0 1 := Or.inr ⟨0, ⟨by decide +kernel, rfl⟩, rfl⟩
theorem d_M_within_1 : cd_D_iload b_M_within 1 1 2 := Or.inr ⟨1, ⟨by decide +kernel, rfl⟩, rfl⟩
theorem d_M_within_2 : cd_D_icmp_ge b_M_within 2 9 5 := ⟨7, by decide +kernel, by decide, rfl⟩
theorem d_M_within_5 : cd_D_iload b_M_within 5 1 6 := Or.inr ⟨1, ⟨by decide +kernel, rfl⟩, rfl⟩
theorem d_M_within_6 : cd_D_goto b_M_within 6 19 := ⟨13, by decide +kernel, by decide⟩
theorem d_M_within_9 : cd_D_iload b_M_within 9 0 10 := Or.inr ⟨0, ⟨by decide +kernel, rfl⟩, rfl⟩
theorem d_M_within_10 : cd_D_iload b_M_within 10 2 11 := Or.inr ⟨2, ⟨by decide +kernel, rfl⟩, rfl⟩
theorem d_M_within_11 : cd_D_icmp_le b_M_within 11 18 14 := ⟨7, by decide +kernel, by decide, rfl⟩
theorem d_M_within_14 : cd_D_iload b_M_within 14 2 15 := Or.inr ⟨2, ⟨by decide +kernel, rfl⟩, rfl⟩
theorem d_M_within_15 : cd_D_goto b_M_within 15 19 := ⟨4, by decide +kernel, by decide⟩
theorem d_M_within_18 : cd_D_iload b_M_within 18 0 19 := Or.inr ⟨0, ⟨by decide +kernel, rfl⟩, rfl⟩
theorem d_M_within_19 : cd_D 1 b_M_within 19 .ireturn 20 := ⟨by decide +kernel, rfl⟩
theorem c_M_within {l : Launch} {w : cd_WT} {S : cd_Sp} {I : cd_Mem} (x y z : Int32) : cd_C l w m_M_within 0 0 0 [.int x, .int y, .int z] S I (cd_Fi S (cd_wi x y z) I) := by
  refine cd_intro (by decide) (by simp [Value.category]) (Nat.le_of_ble_eq_true rfl) ?_
  intro X hO hE
  show cd_J w X 0 0 S I 0 [some (.int x), some (.int y), some (.int z)] []
  refine r_iload hO d_M_within_0 rfl ?_
  refine r_iload hO d_M_within_1 rfl ?_
  refine r_icmp_ge hO d_M_within_2 (fun c_2 => ?_) (fun c_2 => ?_)
  · refine r_iload hO d_M_within_9 rfl ?_
    refine r_iload hO d_M_within_10 rfl ?_
    refine r_icmp_le hO d_M_within_11 (fun c_11 => ?_) (fun c_11 => ?_)
    · refine r_iload hO d_M_within_18 rfl ?_
      refine r_iret hO hE (Nat.zero_le _) (Nat.zero_le _) d_M_within_19 ?_
      exact ⟨by unfold cd_wi; (repeat' split) <;> first | rfl | contradiction | (exfalso; simp only [Int32.lt_iff_toInt_lt, Int32.le_iff_toInt_le] at *; omega), rfl, rfl⟩
    · refine r_iload hO d_M_within_14 rfl ?_
      refine r_goto hO d_M_within_15 ?_
      refine r_iret hO hE (Nat.zero_le _) (Nat.zero_le _) d_M_within_19 ?_
      exact ⟨by unfold cd_wi; (repeat' split) <;> first | rfl | contradiction | (exfalso; simp only [Int32.lt_iff_toInt_lt, Int32.le_iff_toInt_le] at *; omega), rfl, rfl⟩
  · refine r_iload hO d_M_within_5 rfl ?_
    refine r_goto hO d_M_within_6 ?_
    refine r_iret hO hE (Nat.zero_le _) (Nat.zero_le _) d_M_within_19 ?_
    exact ⟨by unfold cd_wi; (repeat' split) <;> first | rfl | contradiction | (exfalso; simp only [Int32.lt_iff_toInt_lt, Int32.le_iff_toInt_le] at *; omega), rfl, rfl⟩
theorem d_M_of_0 : cd_D_aload b_M_of 0 0 1 := Or.inr ⟨0, ⟨by decide +kernel, rfl⟩, rfl⟩
theorem d_M_of_1 : cd_D 3 b_M_of 1 (.getfield 9) 4 := ⟨by decide +kernel, rfl⟩
theorem d_M_of_4 : cd_Dk b_M_of 4 (nI 16) 6 := Or.inr (Or.inl ⟨16, ⟨by decide +kernel, rfl⟩, by decide +kernel⟩)
theorem d_M_of_6 : cd_Dk b_M_of 6 (nI 5) 7 := Or.inl ⟨5, ⟨by decide +kernel, rfl⟩, by decide +kernel⟩
theorem d_M_of_7 : cd_D_iload b_M_of 7 1 8 := Or.inr ⟨1, ⟨by decide +kernel, rfl⟩, rfl⟩
theorem d_M_of_8 : cd_D 1 b_M_of 8 .imul 9 := ⟨by decide +kernel, rfl⟩
theorem d_M_of_9 : cd_D 1 b_M_of 9 .iadd 10 := ⟨by decide +kernel, rfl⟩
theorem d_M_of_10 : cd_D_iload b_M_of 10 2 11 := Or.inr ⟨2, ⟨by decide +kernel, rfl⟩, rfl⟩
theorem d_M_of_11 : cd_D 1 b_M_of 11 .iadd 12 := ⟨by decide +kernel, rfl⟩
theorem d_M_of_12 : cd_D 1 b_M_of 12 .iaload 13 := ⟨by decide +kernel, rfl⟩
theorem d_M_of_13 : cd_D 1 b_M_of 13 .ireturn 14 := ⟨by decide +kernel, rfl⟩
theorem c_M_of {l : Launch} {w : cd_WT} {S : cd_Sp} {I : cd_Mem} {m : Nat} (hM : cd_MO w S m) (i q : Nat) (h : 16 + 5 * i + q < 1448) : cd_C l w m_M_of 0 0 0 [.ref m, .int (nI i), .int (nI q)] S I (cd_Fi S (I (m + 1) (16 + 5 * i + q)) I) := by
  refine cd_intro (by decide) (by simp [Value.category]) (Nat.le_of_ble_eq_true rfl) ?_
  intro X hO hE
  show cd_J w X 0 0 S I 0 [some (.ref m), some (.int (nI i)), some (.int (nI q))] []
  refine r_aload hO d_M_of_0 rfl ?_
  refine r_getR hO f_M_9 rfl hM.2.1 (mo_r1 hM) d_M_of_1 ?_
  refine r_k hO d_M_of_4 ?_
  refine r_k hO d_M_of_6 ?_
  refine r_iload hO d_M_of_7 rfl ?_
  refine r_imulN hO d_M_of_8 ?_
  refine r_iaddN hO d_M_of_9 ?_
  refine r_iload hO d_M_of_10 rfl ?_
  refine r_iaddN hO d_M_of_11 ?_
  refine r_iald hO (mo_s1 hM) (by omega) (by decide) d_M_of_12 ?_
  refine r_iret hO hE (Nat.zero_le _) (Nat.zero_le _) d_M_of_13 ?_
  exact ⟨rfl, rfl, rfl⟩
theorem d_M_put_0 : cd_D_aload b_M_put 0 0 1 := Or.inr ⟨0, ⟨by decide +kernel, rfl⟩, rfl⟩
theorem d_M_put_1 : cd_D 3 b_M_put 1 (.getfield 9) 4 := ⟨by decide +kernel, rfl⟩
theorem d_M_put_4 : cd_Dk b_M_put 4 (nI 16) 6 := Or.inr (Or.inl ⟨16, ⟨by decide +kernel, rfl⟩, by decide +kernel⟩)
theorem d_M_put_6 : cd_Dk b_M_put 6 (nI 5) 7 := Or.inl ⟨5, ⟨by decide +kernel, rfl⟩, by decide +kernel⟩
theorem d_M_put_7 : cd_D_iload b_M_put 7 1 8 := Or.inr ⟨1, ⟨by decide +kernel, rfl⟩, rfl⟩
theorem d_M_put_8 : cd_D 1 b_M_put 8 .imul 9 := ⟨by decide +kernel, rfl⟩
theorem d_M_put_9 : cd_D 1 b_M_put 9 .iadd 10 := ⟨by decide +kernel, rfl⟩
theorem d_M_put_10 : cd_D_iload b_M_put 10 2 11 := Or.inr ⟨2, ⟨by decide +kernel, rfl⟩, rfl⟩
theorem d_M_put_11 : cd_D 1 b_M_put 11 .iadd 12 := ⟨by decide +kernel, rfl⟩
theorem d_M_put_12 : cd_D_iload b_M_put 12 3 13 := Or.inr ⟨3, ⟨by decide +kernel, rfl⟩, rfl⟩
theorem d_M_put_13 : cd_D 1 b_M_put 13 .iastore 14 := ⟨by decide +kernel, rfl⟩
theorem d_M_put_14 : cd_D 1 b_M_put 14 .return_ 15 := ⟨by decide +kernel, rfl⟩
theorem c_M_put {l : Launch} {w : cd_WT} {S : cd_Sp} {I : cd_Mem} {m : Nat} (hM : cd_MO w S m) (i q : Nat) (v : Int32) (h : 16 + 5 * i + q < 1448) : cd_C l w m_M_put 0 0 0 [.ref m, .int (nI i), .int (nI q), .int v] S I (cd_Fv S (cd_set I (m + 1) (upd (I (m + 1)) (16 + 5 * i + q) v))) := by
  refine cd_intro (by decide) (by simp [Value.category]) (Nat.le_of_ble_eq_true rfl) ?_
  intro X hO hE
  show cd_J w X 0 0 S I 0 [some (.ref m), some (.int (nI i)), some (.int (nI q)), some (.int v)] []
  refine r_aload hO d_M_put_0 rfl ?_
  refine r_getR hO f_M_9 rfl hM.2.1 (mo_r1 hM) d_M_put_1 ?_
  refine r_k hO d_M_put_4 ?_
  refine r_k hO d_M_put_6 ?_
  refine r_iload hO d_M_put_7 rfl ?_
  refine r_imulN hO d_M_put_8 ?_
  refine r_iaddN hO d_M_put_9 ?_
  refine r_iload hO d_M_put_10 rfl ?_
  refine r_iaddN hO d_M_put_11 ?_
  refine r_iload hO d_M_put_12 rfl ?_
  refine r_iast hO (mo_s1 hM) (mo_l1 hM) (by omega) (by decide) d_M_put_13 ?_
  refine r_vret hO hE (Nat.zero_le _) (Nat.zero_le _) d_M_put_14 ?_
  exact ⟨rfl, rfl, rfl⟩
theorem d_M_becomes_0 : cd_D_aload b_M_becomes 0 0 1 := Or.inr ⟨0, ⟨by decide +kernel, rfl⟩, rfl⟩
theorem d_M_becomes_1 : cd_D 3 b_M_becomes 1 (.getfield 9) 4 := ⟨by decide +kernel, rfl⟩
theorem d_M_becomes_4 : cd_D_iload b_M_becomes 4 1 5 := Or.inr ⟨1, ⟨by decide +kernel, rfl⟩, rfl⟩
theorem d_M_becomes_5 : cd_D 1 b_M_becomes 5 .iaload 6 := ⟨by decide +kernel, rfl⟩
theorem d_M_becomes_6 : cd_D_istore b_M_becomes 6 3 7 := Or.inr ⟨3, ⟨by decide +kernel, rfl⟩, rfl⟩
theorem d_M_becomes_7 : cd_D_aload b_M_becomes 7 0 8 := Or.inr ⟨0, ⟨by decide +kernel, rfl⟩, rfl⟩
theorem d_M_becomes_8 : cd_D 3 b_M_becomes 8 (.getfield 9) 11 := ⟨by decide +kernel, rfl⟩
theorem d_M_becomes_11 : cd_D_iload b_M_becomes 11 1 12 := Or.inr ⟨1, ⟨by decide +kernel, rfl⟩, rfl⟩
theorem d_M_becomes_12 : cd_D_iload b_M_becomes 12 2 13 := Or.inr ⟨2, ⟨by decide +kernel, rfl⟩, rfl⟩
theorem d_M_becomes_13 : cd_D 1 b_M_becomes 13 .iastore 14 := ⟨by decide +kernel, rfl⟩
theorem d_M_becomes_14 : cd_D_iload b_M_becomes 14 3 15 := Or.inr ⟨3, ⟨by decide +kernel, rfl⟩, rfl⟩
theorem d_M_becomes_15 : cd_D 1 b_M_becomes 15 .ireturn 16 := ⟨by decide +kernel, rfl⟩
theorem c_M_becomes {l : Launch} {w : cd_WT} {S : cd_Sp} {I : cd_Mem} {m : Nat} (hM : cd_MO w S m) (j : Nat) (v : Int32) (h : j < 1448) : cd_C l w m_M_becomes 0 0 0 [.ref m, .int (nI j), .int v] S I (cd_Fi S (I (m + 1) j) (cd_set I (m + 1) (upd (I (m + 1)) j v))) := by
  refine cd_intro (by decide) (by simp [Value.category]) (Nat.le_of_ble_eq_true rfl) ?_
  intro X hO hE
  show cd_J w X 0 0 S I 0 [some (.ref m), some (.int (nI j)), some (.int v), none] []
  refine r_aload hO d_M_becomes_0 rfl ?_
  refine r_getR hO f_M_9 rfl hM.2.1 (mo_r1 hM) d_M_becomes_1 ?_
  refine r_iload hO d_M_becomes_4 rfl ?_
  refine r_iald hO (mo_s1 hM) (by omega) (by decide) d_M_becomes_5 ?_
  refine r_sI3 hO d_M_becomes_6 rfl ?_
  refine r_aload hO d_M_becomes_7 rfl ?_
  refine r_getR hO f_M_9 rfl hM.2.1 (mo_r1 hM) d_M_becomes_8 ?_
  refine r_iload hO d_M_becomes_11 rfl ?_
  refine r_iload hO d_M_becomes_12 rfl ?_
  refine r_iast hO (mo_s1 hM) (mo_l1 hM) (by omega) (by decide) d_M_becomes_13 ?_
  refine r_iload hO d_M_becomes_14 rfl ?_
  refine r_iret hO hE (Nat.zero_le _) (Nat.zero_le _) d_M_becomes_15 ?_
  exact ⟨rfl, rfl, rfl⟩
theorem d_M_isAsking_0 : cd_D_iload b_M_isAsking 0 1 1 := Or.inr ⟨1, ⟨by decide +kernel, rfl⟩, rfl⟩
theorem d_M_isAsking_1 : cd_Dk b_M_isAsking 1 (nI 0) 2 := Or.inl ⟨0, ⟨by decide +kernel, rfl⟩, by decide +kernel⟩
theorem d_M_isAsking_2 : cd_D_aload b_M_isAsking 2 0 3 := Or.inr ⟨0, ⟨by decide +kernel, rfl⟩, rfl⟩
theorem d_M_isAsking_3 : cd_D 3 b_M_isAsking 3 (.getfield 9) 6 := ⟨by decide +kernel, rfl⟩
theorem d_M_isAsking_6 : cd_Dk b_M_isAsking 6 (nI 1) 7 := Or.inl ⟨1, ⟨by decide +kernel, rfl⟩, by decide +kernel⟩
theorem d_M_isAsking_7 : cd_D 1 b_M_isAsking 7 .iaload 8 := ⟨by decide +kernel, rfl⟩
theorem d_M_isAsking_8 : cd_Dk b_M_isAsking 8 (nI 1) 9 := Or.inl ⟨1, ⟨by decide +kernel, rfl⟩, by decide +kernel⟩
theorem d_M_isAsking_9 : cd_D 1 b_M_isAsking 9 .isub 10 := ⟨by decide +kernel, rfl⟩
theorem d_M_isAsking_10 : cd_D 3 b_M_isAsking 10 (.invokestatic 75) 13 := ⟨by decide +kernel, rfl⟩
theorem d_M_isAsking_13 : cd_D 1 b_M_isAsking 13 .ireturn 14 := ⟨by decide +kernel, rfl⟩
theorem c_M_isAsking {l : Launch} {w : cd_WT} {S : cd_Sp} {I : cd_Mem} {m : Nat} (hM : cd_MO w S m) (a : Int32) : cd_C l w m_M_isAsking 1 0 0 [.ref m, .int a] S I (cd_Fi S (cd_bI (cd_isA (I (m + 1)) a)) I) := by
  refine cd_intro (by decide) (by simp [Value.category]) (Nat.le_of_ble_eq_true rfl) ?_
  intro X hO hE
  show cd_J w X 0 0 S I 0 [some (.ref m), some (.int a)] []
  refine r_iload hO d_M_isAsking_0 rfl ?_
  refine r_k hO d_M_isAsking_1 ?_
  refine r_aload hO d_M_isAsking_2 rfl ?_
  refine r_getR hO f_M_9 rfl hM.2.1 (mo_r1 hM) d_M_isAsking_3 ?_
  refine r_k hO d_M_isAsking_6 ?_
  refine r_iald hO (mo_s1 hM) (by omega) (by decide) d_M_isAsking_7 ?_
  refine r_k hO d_M_isAsking_8 ?_
  refine r_isub hO d_M_isAsking_9 ?_
  refine r_cS3fi hO hE (c_M_in _ _ _) mf_M_in lk_M_75 (by decide) rfl (Nat.le_of_ble_eq_true rfl) d_M_isAsking_10 (Nat.zero_le _) (Nat.zero_le _) ?_
  refine r_zret hO hE (by unfold cd_bI; split; exact Or.inr rfl; exact Or.inl rfl) (Nat.zero_le _) (Nat.zero_le _) d_M_isAsking_13 ?_
  exact ⟨rfl, rfl, rfl⟩
theorem d_M_isOf_0 : cd_D_iload b_M_isOf 0 1 1 := Or.inr ⟨1, ⟨by decide +kernel, rfl⟩, rfl⟩
theorem d_M_isOf_1 : cd_Dk b_M_isOf 1 (nI 0) 2 := Or.inl ⟨0, ⟨by decide +kernel, rfl⟩, by decide +kernel⟩
theorem d_M_isOf_2 : cd_D_iload b_M_isOf 2 0 3 := Or.inr ⟨0, ⟨by decide +kernel, rfl⟩, rfl⟩
theorem d_M_isOf_3 : cd_Dk b_M_isOf 3 (nI 1) 4 := Or.inl ⟨1, ⟨by decide +kernel, rfl⟩, by decide +kernel⟩
theorem d_M_isOf_4 : cd_D_icmp_ne b_M_isOf 4 12 7 := ⟨8, by decide +kernel, by decide, rfl⟩
theorem d_M_isOf_7 : cd_Dk b_M_isOf 7 (nI 23) 9 := Or.inr (Or.inl ⟨23, ⟨by decide +kernel, rfl⟩, by decide +kernel⟩)
theorem d_M_isOf_9 : cd_D_goto b_M_isOf 9 24 := ⟨15, by decide +kernel, by decide⟩
theorem d_M_isOf_12 : cd_D_iload b_M_isOf 12 0 13 := Or.inr ⟨0, ⟨by decide +kernel, rfl⟩, rfl⟩
theorem d_M_isOf_13 : cd_Dk b_M_isOf 13 (nI 2) 14 := Or.inl ⟨2, ⟨by decide +kernel, rfl⟩, by decide +kernel⟩
theorem d_M_isOf_14 : cd_D_icmp_ne b_M_isOf 14 22 17 := ⟨8, by decide +kernel, by decide, rfl⟩
theorem d_M_isOf_17 : cd_Dk b_M_isOf 17 (nI 99) 19 := Or.inr (Or.inl ⟨99, ⟨by decide +kernel, rfl⟩, by decide +kernel⟩)
theorem d_M_isOf_19 : cd_D_goto b_M_isOf 19 24 := ⟨5, by decide +kernel, by decide⟩
theorem d_M_isOf_22 : cd_Dk b_M_isOf 22 (nI 100) 24 := Or.inr (Or.inl ⟨100, ⟨by decide +kernel, rfl⟩, by decide +kernel⟩)
theorem d_M_isOf_24 : cd_D 3 b_M_isOf 24 (.invokestatic 75) 27 := ⟨by decide +kernel, rfl⟩
theorem d_M_isOf_27 : cd_D 1 b_M_isOf 27 .ireturn 28 := ⟨by decide +kernel, rfl⟩
theorem c_M_isOf {l : Launch} {w : cd_WT} {S : cd_Sp} {I : cd_Mem} (q v : Int32) : cd_C l w m_M_isOf 1 0 0 [.int q, .int v] S I (cd_Fi S (cd_bI (cd_isOf q v)) I) := by
  refine cd_intro (by decide) (by simp [Value.category]) (Nat.le_of_ble_eq_true rfl) ?_
  intro X hO hE
  show cd_J w X 0 0 S I 0 [some (.int q), some (.int v)] []
  refine r_iload hO d_M_isOf_0 rfl ?_
  refine r_k hO d_M_isOf_1 ?_
  refine r_iload hO d_M_isOf_2 rfl ?_
  refine r_k hO d_M_isOf_3 ?_
  refine r_icmp_ne hO d_M_isOf_4 (fun c_4 => ?_) (fun c_4 => ?_)
  · refine r_iload hO d_M_isOf_12 rfl ?_
    refine r_k hO d_M_isOf_13 ?_
    refine r_icmp_ne hO d_M_isOf_14 (fun c_14 => ?_) (fun c_14 => ?_)
    · refine r_k hO d_M_isOf_22 ?_
      refine r_cS3fi hO hE (c_M_in _ _ _) mf_M_in lk_M_75 (by decide) rfl (Nat.le_of_ble_eq_true rfl) d_M_isOf_24 (Nat.zero_le _) (Nat.zero_le _) ?_
      refine r_zret hO hE (by unfold cd_bI; split; exact Or.inr rfl; exact Or.inl rfl) (Nat.zero_le _) (Nat.zero_le _) d_M_isOf_27 ?_
      exact ⟨by simp only [cd_isOf, cd_lim, *, if_true, if_false, show ¬ nI 2 = nI 1 by decide], rfl, rfl⟩
    · refine r_k hO d_M_isOf_17 ?_
      refine r_goto hO d_M_isOf_19 ?_
      refine r_cS3fi hO hE (c_M_in _ _ _) mf_M_in lk_M_75 (by decide) rfl (Nat.le_of_ble_eq_true rfl) d_M_isOf_24 (Nat.zero_le _) (Nat.zero_le _) ?_
      refine r_zret hO hE (by unfold cd_bI; split; exact Or.inr rfl; exact Or.inl rfl) (Nat.zero_le _) (Nat.zero_le _) d_M_isOf_27 ?_
      exact ⟨by simp only [cd_isOf, cd_lim, *, if_true, if_false, show ¬ nI 2 = nI 1 by decide], rfl, rfl⟩
  · refine r_k hO d_M_isOf_7 ?_
    refine r_goto hO d_M_isOf_9 ?_
    refine r_cS3fi hO hE (c_M_in _ _ _) mf_M_in lk_M_75 (by decide) rfl (Nat.le_of_ble_eq_true rfl) d_M_isOf_24 (Nat.zero_le _) (Nat.zero_le _) ?_
    refine r_zret hO hE (by unfold cd_bI; split; exact Or.inr rfl; exact Or.inl rfl) (Nat.zero_le _) (Nat.zero_le _) d_M_isOf_27 ?_
    exact ⟨by simp only [cd_isOf, cd_lim, *, if_true, if_false, show ¬ nI 2 = nI 1 by decide], rfl, rfl⟩
theorem d_M_comes_0 : cd_D_aload b_M_comes 0 0 1 := Or.inr ⟨0, ⟨by decide +kernel, rfl⟩, rfl⟩
theorem d_M_comes_1 : cd_D 3 b_M_comes 1 (.getfield 9) 4 := ⟨by decide +kernel, rfl⟩
theorem d_M_comes_4 : cd_Dk b_M_comes 4 (nI 1) 5 := Or.inl ⟨1, ⟨by decide +kernel, rfl⟩, by decide +kernel⟩
theorem d_M_comes_5 : cd_D 1 b_M_comes 5 .iaload 6 := ⟨by decide +kernel, rfl⟩
theorem d_M_comes_6 : cd_D_istore b_M_comes 6 5 8 := Or.inl ⟨by decide +kernel, rfl⟩
theorem d_M_comes_8 : cd_D_aload b_M_comes 8 0 9 := Or.inr ⟨0, ⟨by decide +kernel, rfl⟩, rfl⟩
theorem d_M_comes_9 : cd_D 3 b_M_comes 9 (.getfield 9) 12 := ⟨by decide +kernel, rfl⟩
theorem d_M_comes_12 : cd_Dk b_M_comes 12 (nI 1) 13 := Or.inl ⟨1, ⟨by decide +kernel, rfl⟩, by decide +kernel⟩
theorem d_M_comes_13 : cd_D 1 b_M_comes 13 .dup2 14 := ⟨by decide +kernel, rfl⟩
theorem d_M_comes_14 : cd_D 1 b_M_comes 14 .iaload 15 := ⟨by decide +kernel, rfl⟩
theorem d_M_comes_15 : cd_Dk b_M_comes 15 (nI 1) 16 := Or.inl ⟨1, ⟨by decide +kernel, rfl⟩, by decide +kernel⟩
theorem d_M_comes_16 : cd_D 1 b_M_comes 16 .iadd 17 := ⟨by decide +kernel, rfl⟩
theorem d_M_comes_17 : cd_D 1 b_M_comes 17 .iastore 18 := ⟨by decide +kernel, rfl⟩
theorem d_M_comes_18 : cd_D_aload b_M_comes 18 0 19 := Or.inr ⟨0, ⟨by decide +kernel, rfl⟩, rfl⟩
theorem d_M_comes_19 : cd_D_iload b_M_comes 19 5 21 := Or.inl ⟨by decide +kernel, rfl⟩
theorem d_M_comes_21 : cd_Dk b_M_comes 21 (nI 0) 22 := Or.inl ⟨0, ⟨by decide +kernel, rfl⟩, by decide +kernel⟩
theorem d_M_comes_22 : cd_D_iload b_M_comes 22 1 23 := Or.inr ⟨1, ⟨by decide +kernel, rfl⟩, rfl⟩
theorem d_M_comes_23 : cd_D 3 b_M_comes 23 (.invokevirtual 79) 26 := ⟨by decide +kernel, rfl⟩
theorem d_M_comes_26 : cd_D_aload b_M_comes 26 0 27 := Or.inr ⟨0, ⟨by decide +kernel, rfl⟩, rfl⟩
theorem d_M_comes_27 : cd_D_iload b_M_comes 27 5 29 := Or.inl ⟨by decide +kernel, rfl⟩
theorem d_M_comes_29 : cd_Dk b_M_comes 29 (nI 1) 30 := Or.inl ⟨1, ⟨by decide +kernel, rfl⟩, by decide +kernel⟩
theorem d_M_comes_30 : cd_D_iload b_M_comes 30 2 31 := Or.inr ⟨2, ⟨by decide +kernel, rfl⟩, rfl⟩
theorem d_M_comes_31 : cd_D 3 b_M_comes 31 (.invokevirtual 79) 34 := ⟨by decide +kernel, rfl⟩
theorem d_M_comes_34 : cd_D_aload b_M_comes 34 0 35 := Or.inr ⟨0, ⟨by decide +kernel, rfl⟩, rfl⟩
theorem d_M_comes_35 : cd_D_iload b_M_comes 35 5 37 := Or.inl ⟨by decide +kernel, rfl⟩
theorem d_M_comes_37 : cd_Dk b_M_comes 37 (nI 2) 38 := Or.inl ⟨2, ⟨by decide +kernel, rfl⟩, by decide +kernel⟩
theorem d_M_comes_38 : cd_D_iload b_M_comes 38 3 39 := Or.inr ⟨3, ⟨by decide +kernel, rfl⟩, rfl⟩
theorem d_M_comes_39 : cd_D 3 b_M_comes 39 (.invokevirtual 79) 42 := ⟨by decide +kernel, rfl⟩
theorem d_M_comes_42 : cd_D_aload b_M_comes 42 0 43 := Or.inr ⟨0, ⟨by decide +kernel, rfl⟩, rfl⟩
theorem d_M_comes_43 : cd_D_iload b_M_comes 43 5 45 := Or.inl ⟨by decide +kernel, rfl⟩
theorem d_M_comes_45 : cd_Dk b_M_comes 45 (nI 3) 46 := Or.inl ⟨3, ⟨by decide +kernel, rfl⟩, by decide +kernel⟩
theorem d_M_comes_46 : cd_D_iload b_M_comes 46 4 48 := Or.inl ⟨by decide +kernel, rfl⟩
theorem d_M_comes_48 : cd_D 3 b_M_comes 48 (.invokevirtual 79) 51 := ⟨by decide +kernel, rfl⟩
theorem d_M_comes_51 : cd_D_aload b_M_comes 51 0 52 := Or.inr ⟨0, ⟨by decide +kernel, rfl⟩, rfl⟩
theorem d_M_comes_52 : cd_D_iload b_M_comes 52 5 54 := Or.inl ⟨by decide +kernel, rfl⟩
theorem d_M_comes_54 : cd_Dk b_M_comes 54 (nI 4) 55 := Or.inl ⟨4, ⟨by decide +kernel, rfl⟩, by decide +kernel⟩
theorem d_M_comes_55 : cd_Dk b_M_comes 55 (nI 0) 56 := Or.inl ⟨0, ⟨by decide +kernel, rfl⟩, by decide +kernel⟩
theorem d_M_comes_56 : cd_D 3 b_M_comes 56 (.invokevirtual 79) 59 := ⟨by decide +kernel, rfl⟩
theorem d_M_comes_59 : cd_D_iload b_M_comes 59 5 61 := Or.inl ⟨by decide +kernel, rfl⟩
theorem d_M_comes_61 : cd_D 1 b_M_comes 61 .ireturn 62 := ⟨by decide +kernel, rfl⟩
theorem c_M_comes {l : Launch} {w : cd_WT} {S : cd_Sp} {I : cd_Mem} {m : Nat} (hM : cd_MO w S m) (mm : Nat) (hN : I (m + 1) 1 = nI mm) (hm : mm < 12) (k h b e : Int32) : cd_C l w m_M_comes 1 0 0 [.ref m, .int k, .int h, .int b, .int e] S I (cd_Fi S (nI mm) (cd_set I (m + 1) (cd_comes (I (m + 1)) mm k h b e))) := by
  refine cd_intro (by decide) (by simp [Value.category]) (Nat.le_of_ble_eq_true rfl) ?_
  intro X hO hE
  show cd_J w X 0 0 S I 0 [some (.ref m), some (.int k), some (.int h), some (.int b), some (.int e), none] []
  refine r_aload hO d_M_comes_0 rfl ?_
  refine r_getR hO f_M_9 rfl hM.2.1 (mo_r1 hM) d_M_comes_1 ?_
  refine r_k hO d_M_comes_4 ?_
  refine r_iald hO (mo_s1 hM) (by omega) (by decide) d_M_comes_5 ?_
  refine r_tops hN ?_
  refine r_sI5 hO d_M_comes_6 rfl ?_
  refine r_aload hO d_M_comes_8 rfl ?_
  refine r_getR hO f_M_9 rfl hM.2.1 (mo_r1 hM) d_M_comes_9 ?_
  refine r_k hO d_M_comes_12 ?_
  refine r_dup2 hO d_M_comes_13 rfl rfl ?_
  refine r_iald hO (mo_s1 hM) (by omega) (by decide) d_M_comes_14 ?_
  refine r_tops hN ?_
  refine r_k hO d_M_comes_15 ?_
  refine r_iaddN hO d_M_comes_16 ?_
  refine r_iast hO (mo_s1 hM) (mo_l1 hM) (by omega) (by decide) d_M_comes_17 ?_
  refine r_aload hO d_M_comes_18 rfl ?_
  refine r_iload hO d_M_comes_19 rfl ?_
  refine r_k hO d_M_comes_21 ?_
  refine r_iload hO d_M_comes_22 rfl ?_
  refine r_cV3fv hO hE (c_M_put hM _ _ _ (by omega)) mf_M_put lk_M_79 hM.2.1 rfl (by decide) rfl (Nat.le_of_ble_eq_true rfl) d_M_comes_23 (Nat.zero_le _) (Nat.zero_le _) ?_
  try simp only [cd_set_eq, cd_set_set]
  refine r_aload hO d_M_comes_26 rfl ?_
  refine r_iload hO d_M_comes_27 rfl ?_
  refine r_k hO d_M_comes_29 ?_
  refine r_iload hO d_M_comes_30 rfl ?_
  refine r_cV3fv hO hE (c_M_put hM _ _ _ (by omega)) mf_M_put lk_M_79 hM.2.1 rfl (by decide) rfl (Nat.le_of_ble_eq_true rfl) d_M_comes_31 (Nat.zero_le _) (Nat.zero_le _) ?_
  try simp only [cd_set_eq, cd_set_set]
  refine r_aload hO d_M_comes_34 rfl ?_
  refine r_iload hO d_M_comes_35 rfl ?_
  refine r_k hO d_M_comes_37 ?_
  refine r_iload hO d_M_comes_38 rfl ?_
  refine r_cV3fv hO hE (c_M_put hM _ _ _ (by omega)) mf_M_put lk_M_79 hM.2.1 rfl (by decide) rfl (Nat.le_of_ble_eq_true rfl) d_M_comes_39 (Nat.zero_le _) (Nat.zero_le _) ?_
  try simp only [cd_set_eq, cd_set_set]
  refine r_aload hO d_M_comes_42 rfl ?_
  refine r_iload hO d_M_comes_43 rfl ?_
  refine r_k hO d_M_comes_45 ?_
  refine r_iload hO d_M_comes_46 rfl ?_
  refine r_cV3fv hO hE (c_M_put hM _ _ _ (by omega)) mf_M_put lk_M_79 hM.2.1 rfl (by decide) rfl (Nat.le_of_ble_eq_true rfl) d_M_comes_48 (Nat.zero_le _) (Nat.zero_le _) ?_
  try simp only [cd_set_eq, cd_set_set]
  refine r_aload hO d_M_comes_51 rfl ?_
  refine r_iload hO d_M_comes_52 rfl ?_
  refine r_k hO d_M_comes_54 ?_
  refine r_k hO d_M_comes_55 ?_
  refine r_cV3fv hO hE (c_M_put hM _ _ _ (by omega)) mf_M_put lk_M_79 hM.2.1 rfl (by decide) rfl (Nat.le_of_ble_eq_true rfl) d_M_comes_56 (Nat.zero_le _) (Nat.zero_le _) ?_
  try simp only [cd_set_eq, cd_set_set]
  refine r_iload hO d_M_comes_59 rfl ?_
  refine r_iret hO hE (Nat.zero_le _) (Nat.zero_le _) d_M_comes_61 ?_
  exact ⟨rfl, rfl, rfl⟩
theorem d_M_learnsOf_0 : cd_D_aload b_M_learnsOf 0 0 1 := Or.inr ⟨0, ⟨by decide +kernel, rfl⟩, rfl⟩
theorem d_M_learnsOf_1 : cd_D_iload b_M_learnsOf 1 1 2 := Or.inr ⟨1, ⟨by decide +kernel, rfl⟩, rfl⟩
theorem d_M_learnsOf_2 : cd_Dk b_M_learnsOf 2 (nI 0) 3 := Or.inl ⟨0, ⟨by decide +kernel, rfl⟩, by decide +kernel⟩
theorem d_M_learnsOf_3 : cd_D 3 b_M_learnsOf 3 (.invokevirtual 97) 6 := ⟨by decide +kernel, rfl⟩
theorem d_M_learnsOf_6 : decode b_M_learnsOf 6 = .ok (.tableswitch (45) (1) (5) #[34, 45, 36, 39, 42], 34) := by decide +kernel
theorem d_M_learnsOf_40 : cd_Dk b_M_learnsOf 40 (nI 3) 41 := Or.inl ⟨3, ⟨by decide +kernel, rfl⟩, by decide +kernel⟩
theorem d_M_learnsOf_41 : cd_D 1 b_M_learnsOf 41 .ireturn 42 := ⟨by decide +kernel, rfl⟩
theorem d_M_learnsOf_42 : cd_Dk b_M_learnsOf 42 (nI 12) 44 := Or.inr (Or.inl ⟨12, ⟨by decide +kernel, rfl⟩, by decide +kernel⟩)
theorem d_M_learnsOf_44 : cd_D 1 b_M_learnsOf 44 .ireturn 45 := ⟨by decide +kernel, rfl⟩
theorem d_M_learnsOf_45 : cd_Dk b_M_learnsOf 45 (nI 16) 47 := Or.inr (Or.inl ⟨16, ⟨by decide +kernel, rfl⟩, by decide +kernel⟩)
theorem d_M_learnsOf_47 : cd_D 1 b_M_learnsOf 47 .ireturn 48 := ⟨by decide +kernel, rfl⟩
theorem d_M_learnsOf_48 : cd_Dk b_M_learnsOf 48 (nI 15) 50 := Or.inr (Or.inl ⟨15, ⟨by decide +kernel, rfl⟩, by decide +kernel⟩)
theorem d_M_learnsOf_50 : cd_D 1 b_M_learnsOf 50 .ireturn 51 := ⟨by decide +kernel, rfl⟩
theorem d_M_learnsOf_51 : cd_Dk b_M_learnsOf 51 (nI 8) 53 := Or.inr (Or.inl ⟨8, ⟨by decide +kernel, rfl⟩, by decide +kernel⟩)
theorem d_M_learnsOf_53 : cd_D 1 b_M_learnsOf 53 .ireturn 54 := ⟨by decide +kernel, rfl⟩
theorem c_M_learnsOf {l : Launch} {w : cd_WT} {S : cd_Sp} {I : cd_Mem} {m : Nat} (hM : cd_MO w S m) (i : Nat) (hi : i < 12) : cd_C l w m_M_learnsOf 1 0 0 [.ref m, .int (nI i)] S I (cd_Fi S (cd_lea (I (m + 1) (16 + 5 * i + 0))) I) := by
  refine cd_intro (by decide) (by simp [Value.category]) (Nat.le_of_ble_eq_true rfl) ?_
  intro X hO hE
  show cd_J w X 0 0 S I 0 [some (.ref m), some (.int (nI i))] []
  refine r_aload hO d_M_learnsOf_0 rfl ?_
  refine r_iload hO d_M_learnsOf_1 rfl ?_
  refine r_k hO d_M_learnsOf_2 ?_
  refine r_cV2fi hO hE (c_M_of hM _ _ (by omega)) mf_M_of lk_M_97 hM.2.1 rfl (by decide) rfl (Nat.le_of_ble_eq_true rfl) d_M_learnsOf_3 (Nat.zero_le _) (Nat.zero_le _) ?_
  by_cases c_6_1 : I (m + 1) (16 + 5 * i + 0) = nI 1
  · refine r_tabE hO d_M_learnsOf_6 c_6_1 (off := 34) (by decide) (by decide) (by decide) (tgt := 40) (by decide) ?_
    refine r_k hO d_M_learnsOf_40 ?_
    refine r_iret hO hE (Nat.zero_le _) (Nat.zero_le _) d_M_learnsOf_41 ?_
    exact ⟨by unfold cd_lea; (repeat' split) <;> first | rfl | contradiction | (exfalso; simp only [Int32.lt_iff_toInt_lt, Int32.le_iff_toInt_le] at *; omega), rfl, rfl⟩
  by_cases c_6_3 : I (m + 1) (16 + 5 * i + 0) = nI 3
  · refine r_tabE hO d_M_learnsOf_6 c_6_3 (off := 36) (by decide) (by decide) (by decide) (tgt := 42) (by decide) ?_
    refine r_k hO d_M_learnsOf_42 ?_
    refine r_iret hO hE (Nat.zero_le _) (Nat.zero_le _) d_M_learnsOf_44 ?_
    exact ⟨by unfold cd_lea; (repeat' split) <;> first | rfl | contradiction | (exfalso; simp only [Int32.lt_iff_toInt_lt, Int32.le_iff_toInt_le] at *; omega), rfl, rfl⟩
  by_cases c_6_4 : I (m + 1) (16 + 5 * i + 0) = nI 4
  · refine r_tabE hO d_M_learnsOf_6 c_6_4 (off := 39) (by decide) (by decide) (by decide) (tgt := 45) (by decide) ?_
    refine r_k hO d_M_learnsOf_45 ?_
    refine r_iret hO hE (Nat.zero_le _) (Nat.zero_le _) d_M_learnsOf_47 ?_
    exact ⟨by unfold cd_lea; (repeat' split) <;> first | rfl | contradiction | (exfalso; simp only [Int32.lt_iff_toInt_lt, Int32.le_iff_toInt_le] at *; omega), rfl, rfl⟩
  by_cases c_6_5 : I (m + 1) (16 + 5 * i + 0) = nI 5
  · refine r_tabE hO d_M_learnsOf_6 c_6_5 (off := 42) (by decide) (by decide) (by decide) (tgt := 48) (by decide) ?_
    refine r_k hO d_M_learnsOf_48 ?_
    refine r_iret hO hE (Nat.zero_le _) (Nat.zero_le _) d_M_learnsOf_50 ?_
    exact ⟨by unfold cd_lea; (repeat' split) <;> first | rfl | contradiction | (exfalso; simp only [Int32.lt_iff_toInt_lt, Int32.le_iff_toInt_le] at *; omega), rfl, rfl⟩
  refine r_tabN hO d_M_learnsOf_6 (by decide) (fun j hj => ?_) (tgt := 51) (by decide) ?_
  · have hj2 : j < 5 := hj
    rcases (show j = 0 ∨ j = 1 ∨ j = 2 ∨ j = 3 ∨ j = 4 by omega) with rfl | rfl | rfl | rfl | rfl
    · exact Or.inl (fun e => c_6_1 (e.trans (by decide)))
    · exact Or.inr rfl
    · exact Or.inl (fun e => c_6_3 (e.trans (by decide)))
    · exact Or.inl (fun e => c_6_4 (e.trans (by decide)))
    · exact Or.inl (fun e => c_6_5 (e.trans (by decide)))
  refine r_k hO d_M_learnsOf_51 ?_
  refine r_iret hO hE (Nat.zero_le _) (Nat.zero_le _) d_M_learnsOf_53 ?_
  exact ⟨by unfold cd_lea; (repeat' split) <;> first | rfl | contradiction | (exfalso; simp only [Int32.lt_iff_toInt_lt, Int32.le_iff_toInt_le] at *; omega), rfl, rfl⟩
theorem d_M_forgetsOf_0 : cd_D_aload b_M_forgetsOf 0 0 1 := Or.inr ⟨0, ⟨by decide +kernel, rfl⟩, rfl⟩
theorem d_M_forgetsOf_1 : cd_D_iload b_M_forgetsOf 1 1 2 := Or.inr ⟨1, ⟨by decide +kernel, rfl⟩, rfl⟩
theorem d_M_forgetsOf_2 : cd_Dk b_M_forgetsOf 2 (nI 0) 3 := Or.inl ⟨0, ⟨by decide +kernel, rfl⟩, by decide +kernel⟩
theorem d_M_forgetsOf_3 : cd_D 3 b_M_forgetsOf 3 (.invokevirtual 97) 6 := ⟨by decide +kernel, rfl⟩
theorem d_M_forgetsOf_6 : decode b_M_forgetsOf 6 = .ok (.tableswitch (42) (1) (5) #[34, 42, 34, 37, 39], 34) := by decide +kernel
theorem d_M_forgetsOf_40 : cd_Dk b_M_forgetsOf 40 (nI 6) 42 := Or.inr (Or.inl ⟨6, ⟨by decide +kernel, rfl⟩, by decide +kernel⟩)
theorem d_M_forgetsOf_42 : cd_D 1 b_M_forgetsOf 42 .ireturn 43 := ⟨by decide +kernel, rfl⟩
theorem d_M_forgetsOf_43 : cd_Dk b_M_forgetsOf 43 (nI 1) 44 := Or.inl ⟨1, ⟨by decide +kernel, rfl⟩, by decide +kernel⟩
theorem d_M_forgetsOf_44 : cd_D 1 b_M_forgetsOf 44 .ireturn 45 := ⟨by decide +kernel, rfl⟩
theorem d_M_forgetsOf_45 : cd_Dk b_M_forgetsOf 45 (nI 9) 47 := Or.inr (Or.inl ⟨9, ⟨by decide +kernel, rfl⟩, by decide +kernel⟩)
theorem d_M_forgetsOf_47 : cd_D 1 b_M_forgetsOf 47 .ireturn 48 := ⟨by decide +kernel, rfl⟩
theorem d_M_forgetsOf_48 : cd_Dk b_M_forgetsOf 48 (nI 4) 49 := Or.inl ⟨4, ⟨by decide +kernel, rfl⟩, by decide +kernel⟩
theorem d_M_forgetsOf_49 : cd_D 1 b_M_forgetsOf 49 .ireturn 50 := ⟨by decide +kernel, rfl⟩
theorem c_M_forgetsOf {l : Launch} {w : cd_WT} {S : cd_Sp} {I : cd_Mem} {m : Nat} (hM : cd_MO w S m) (i : Nat) (hi : i < 12) : cd_C l w m_M_forgetsOf 1 0 0 [.ref m, .int (nI i)] S I (cd_Fi S (cd_fog (I (m + 1) (16 + 5 * i + 0))) I) := by
  refine cd_intro (by decide) (by simp [Value.category]) (Nat.le_of_ble_eq_true rfl) ?_
  intro X hO hE
  show cd_J w X 0 0 S I 0 [some (.ref m), some (.int (nI i))] []
  refine r_aload hO d_M_forgetsOf_0 rfl ?_
  refine r_iload hO d_M_forgetsOf_1 rfl ?_
  refine r_k hO d_M_forgetsOf_2 ?_
  refine r_cV2fi hO hE (c_M_of hM _ _ (by omega)) mf_M_of lk_M_97 hM.2.1 rfl (by decide) rfl (Nat.le_of_ble_eq_true rfl) d_M_forgetsOf_3 (Nat.zero_le _) (Nat.zero_le _) ?_
  by_cases c_6_1 : I (m + 1) (16 + 5 * i + 0) = nI 1
  · refine r_tabE hO d_M_forgetsOf_6 c_6_1 (off := 34) (by decide) (by decide) (by decide) (tgt := 40) (by decide) ?_
    refine r_k hO d_M_forgetsOf_40 ?_
    refine r_iret hO hE (Nat.zero_le _) (Nat.zero_le _) d_M_forgetsOf_42 ?_
    exact ⟨by unfold cd_fog; (repeat' split) <;> first | rfl | contradiction | (exfalso; simp only [Int32.lt_iff_toInt_lt, Int32.le_iff_toInt_le] at *; omega), rfl, rfl⟩
  by_cases c_6_3 : I (m + 1) (16 + 5 * i + 0) = nI 3
  · refine r_tabE hO d_M_forgetsOf_6 c_6_3 (off := 34) (by decide) (by decide) (by decide) (tgt := 40) (by decide) ?_
    refine r_k hO d_M_forgetsOf_40 ?_
    refine r_iret hO hE (Nat.zero_le _) (Nat.zero_le _) d_M_forgetsOf_42 ?_
    exact ⟨by unfold cd_fog; (repeat' split) <;> first | rfl | contradiction | (exfalso; simp only [Int32.lt_iff_toInt_lt, Int32.le_iff_toInt_le] at *; omega), rfl, rfl⟩
  by_cases c_6_4 : I (m + 1) (16 + 5 * i + 0) = nI 4
  · refine r_tabE hO d_M_forgetsOf_6 c_6_4 (off := 37) (by decide) (by decide) (by decide) (tgt := 43) (by decide) ?_
    refine r_k hO d_M_forgetsOf_43 ?_
    refine r_iret hO hE (Nat.zero_le _) (Nat.zero_le _) d_M_forgetsOf_44 ?_
    exact ⟨by unfold cd_fog; (repeat' split) <;> first | rfl | contradiction | (exfalso; simp only [Int32.lt_iff_toInt_lt, Int32.le_iff_toInt_le] at *; omega), rfl, rfl⟩
  by_cases c_6_5 : I (m + 1) (16 + 5 * i + 0) = nI 5
  · refine r_tabE hO d_M_forgetsOf_6 c_6_5 (off := 39) (by decide) (by decide) (by decide) (tgt := 45) (by decide) ?_
    refine r_k hO d_M_forgetsOf_45 ?_
    refine r_iret hO hE (Nat.zero_le _) (Nat.zero_le _) d_M_forgetsOf_47 ?_
    exact ⟨by unfold cd_fog; (repeat' split) <;> first | rfl | contradiction | (exfalso; simp only [Int32.lt_iff_toInt_lt, Int32.le_iff_toInt_le] at *; omega), rfl, rfl⟩
  refine r_tabN hO d_M_forgetsOf_6 (by decide) (fun j hj => ?_) (tgt := 48) (by decide) ?_
  · have hj2 : j < 5 := hj
    rcases (show j = 0 ∨ j = 1 ∨ j = 2 ∨ j = 3 ∨ j = 4 by omega) with rfl | rfl | rfl | rfl | rfl
    · exact Or.inl (fun e => c_6_1 (e.trans (by decide)))
    · exact Or.inr rfl
    · exact Or.inl (fun e => c_6_3 (e.trans (by decide)))
    · exact Or.inl (fun e => c_6_4 (e.trans (by decide)))
    · exact Or.inl (fun e => c_6_5 (e.trans (by decide)))
  refine r_k hO d_M_forgetsOf_48 ?_
  refine r_iret hO hE (Nat.zero_le _) (Nat.zero_le _) d_M_forgetsOf_49 ?_
  exact ⟨by unfold cd_fog; (repeat' split) <;> first | rfl | contradiction | (exfalso; simp only [Int32.lt_iff_toInt_lt, Int32.le_iff_toInt_le] at *; omega), rfl, rfl⟩
theorem d_M_scratchesOf_0 : cd_D_aload b_M_scratchesOf 0 0 1 := Or.inr ⟨0, ⟨by decide +kernel, rfl⟩, rfl⟩
theorem d_M_scratchesOf_1 : cd_D_iload b_M_scratchesOf 1 1 2 := Or.inr ⟨1, ⟨by decide +kernel, rfl⟩, rfl⟩
theorem d_M_scratchesOf_2 : cd_Dk b_M_scratchesOf 2 (nI 0) 3 := Or.inl ⟨0, ⟨by decide +kernel, rfl⟩, by decide +kernel⟩
theorem d_M_scratchesOf_3 : cd_D 3 b_M_scratchesOf 3 (.invokevirtual 97) 6 := ⟨by decide +kernel, rfl⟩
theorem d_M_scratchesOf_6 : decode b_M_scratchesOf 6 = .ok (.tableswitch (43) (1) (5) #[34, 43, 36, 39, 41], 34) := by decide +kernel
theorem d_M_scratchesOf_40 : cd_Dk b_M_scratchesOf 40 (nI 0) 41 := Or.inl ⟨0, ⟨by decide +kernel, rfl⟩, by decide +kernel⟩
theorem d_M_scratchesOf_41 : cd_D 1 b_M_scratchesOf 41 .ireturn 42 := ⟨by decide +kernel, rfl⟩
theorem d_M_scratchesOf_42 : cd_Dk b_M_scratchesOf 42 (nI 7) 44 := Or.inr (Or.inl ⟨7, ⟨by decide +kernel, rfl⟩, by decide +kernel⟩)
theorem d_M_scratchesOf_44 : cd_D 1 b_M_scratchesOf 44 .ireturn 45 := ⟨by decide +kernel, rfl⟩
theorem d_M_scratchesOf_45 : cd_Dk b_M_scratchesOf 45 (nI 3) 46 := Or.inl ⟨3, ⟨by decide +kernel, rfl⟩, by decide +kernel⟩
theorem d_M_scratchesOf_46 : cd_D 1 b_M_scratchesOf 46 .ireturn 47 := ⟨by decide +kernel, rfl⟩
theorem d_M_scratchesOf_47 : cd_Dk b_M_scratchesOf 47 (nI 1) 48 := Or.inl ⟨1, ⟨by decide +kernel, rfl⟩, by decide +kernel⟩
theorem d_M_scratchesOf_48 : cd_D 1 b_M_scratchesOf 48 .ireturn 49 := ⟨by decide +kernel, rfl⟩
theorem d_M_scratchesOf_49 : cd_Dk b_M_scratchesOf 49 (nI 2) 50 := Or.inl ⟨2, ⟨by decide +kernel, rfl⟩, by decide +kernel⟩
theorem d_M_scratchesOf_50 : cd_D 1 b_M_scratchesOf 50 .ireturn 51 := ⟨by decide +kernel, rfl⟩
theorem c_M_scratchesOf {l : Launch} {w : cd_WT} {S : cd_Sp} {I : cd_Mem} {m : Nat} (hM : cd_MO w S m) (i : Nat) (hi : i < 12) : cd_C l w m_M_scratchesOf 1 0 0 [.ref m, .int (nI i)] S I (cd_Fi S (cd_scr (I (m + 1) (16 + 5 * i + 0))) I) := by
  refine cd_intro (by decide) (by simp [Value.category]) (Nat.le_of_ble_eq_true rfl) ?_
  intro X hO hE
  show cd_J w X 0 0 S I 0 [some (.ref m), some (.int (nI i))] []
  refine r_aload hO d_M_scratchesOf_0 rfl ?_
  refine r_iload hO d_M_scratchesOf_1 rfl ?_
  refine r_k hO d_M_scratchesOf_2 ?_
  refine r_cV2fi hO hE (c_M_of hM _ _ (by omega)) mf_M_of lk_M_97 hM.2.1 rfl (by decide) rfl (Nat.le_of_ble_eq_true rfl) d_M_scratchesOf_3 (Nat.zero_le _) (Nat.zero_le _) ?_
  by_cases c_6_1 : I (m + 1) (16 + 5 * i + 0) = nI 1
  · refine r_tabE hO d_M_scratchesOf_6 c_6_1 (off := 34) (by decide) (by decide) (by decide) (tgt := 40) (by decide) ?_
    refine r_k hO d_M_scratchesOf_40 ?_
    refine r_iret hO hE (Nat.zero_le _) (Nat.zero_le _) d_M_scratchesOf_41 ?_
    exact ⟨by unfold cd_scr; (repeat' split) <;> first | rfl | contradiction | (exfalso; simp only [Int32.lt_iff_toInt_lt, Int32.le_iff_toInt_le] at *; omega), rfl, rfl⟩
  by_cases c_6_3 : I (m + 1) (16 + 5 * i + 0) = nI 3
  · refine r_tabE hO d_M_scratchesOf_6 c_6_3 (off := 36) (by decide) (by decide) (by decide) (tgt := 42) (by decide) ?_
    refine r_k hO d_M_scratchesOf_42 ?_
    refine r_iret hO hE (Nat.zero_le _) (Nat.zero_le _) d_M_scratchesOf_44 ?_
    exact ⟨by unfold cd_scr; (repeat' split) <;> first | rfl | contradiction | (exfalso; simp only [Int32.lt_iff_toInt_lt, Int32.le_iff_toInt_le] at *; omega), rfl, rfl⟩
  by_cases c_6_4 : I (m + 1) (16 + 5 * i + 0) = nI 4
  · refine r_tabE hO d_M_scratchesOf_6 c_6_4 (off := 39) (by decide) (by decide) (by decide) (tgt := 45) (by decide) ?_
    refine r_k hO d_M_scratchesOf_45 ?_
    refine r_iret hO hE (Nat.zero_le _) (Nat.zero_le _) d_M_scratchesOf_46 ?_
    exact ⟨by unfold cd_scr; (repeat' split) <;> first | rfl | contradiction | (exfalso; simp only [Int32.lt_iff_toInt_lt, Int32.le_iff_toInt_le] at *; omega), rfl, rfl⟩
  by_cases c_6_5 : I (m + 1) (16 + 5 * i + 0) = nI 5
  · refine r_tabE hO d_M_scratchesOf_6 c_6_5 (off := 41) (by decide) (by decide) (by decide) (tgt := 47) (by decide) ?_
    refine r_k hO d_M_scratchesOf_47 ?_
    refine r_iret hO hE (Nat.zero_le _) (Nat.zero_le _) d_M_scratchesOf_48 ?_
    exact ⟨by unfold cd_scr; (repeat' split) <;> first | rfl | contradiction | (exfalso; simp only [Int32.lt_iff_toInt_lt, Int32.le_iff_toInt_le] at *; omega), rfl, rfl⟩
  refine r_tabN hO d_M_scratchesOf_6 (by decide) (fun j hj => ?_) (tgt := 49) (by decide) ?_
  · have hj2 : j < 5 := hj
    rcases (show j = 0 ∨ j = 1 ∨ j = 2 ∨ j = 3 ∨ j = 4 by omega) with rfl | rfl | rfl | rfl | rfl
    · exact Or.inl (fun e => c_6_1 (e.trans (by decide)))
    · exact Or.inr rfl
    · exact Or.inl (fun e => c_6_3 (e.trans (by decide)))
    · exact Or.inl (fun e => c_6_4 (e.trans (by decide)))
    · exact Or.inl (fun e => c_6_5 (e.trans (by decide)))
  refine r_k hO d_M_scratchesOf_49 ?_
  refine r_iret hO hE (Nat.zero_le _) (Nat.zero_le _) d_M_scratchesOf_50 ?_
  exact ⟨by unfold cd_scr; (repeat' split) <;> first | rfl | contradiction | (exfalso; simp only [Int32.lt_iff_toInt_lt, Int32.le_iff_toInt_le] at *; omega), rfl, rfl⟩
theorem d_M_worthOf_0 : cd_D_aload b_M_worthOf 0 0 1 := Or.inr ⟨0, ⟨by decide +kernel, rfl⟩, rfl⟩
theorem d_M_worthOf_1 : cd_D_iload b_M_worthOf 1 1 2 := Or.inr ⟨1, ⟨by decide +kernel, rfl⟩, rfl⟩
theorem d_M_worthOf_2 : cd_Dk b_M_worthOf 2 (nI 2) 3 := Or.inl ⟨2, ⟨by decide +kernel, rfl⟩, by decide +kernel⟩
theorem d_M_worthOf_3 : cd_D 3 b_M_worthOf 3 (.invokevirtual 97) 6 := ⟨by decide +kernel, rfl⟩
theorem d_M_worthOf_6 : cd_D_istore b_M_worthOf 6 2 7 := Or.inr ⟨2, ⟨by decide +kernel, rfl⟩, rfl⟩
theorem d_M_worthOf_7 : cd_D_aload b_M_worthOf 7 0 8 := Or.inr ⟨0, ⟨by decide +kernel, rfl⟩, rfl⟩
theorem d_M_worthOf_8 : cd_D_iload b_M_worthOf 8 1 9 := Or.inr ⟨1, ⟨by decide +kernel, rfl⟩, rfl⟩
theorem d_M_worthOf_9 : cd_Dk b_M_worthOf 9 (nI 0) 10 := Or.inl ⟨0, ⟨by decide +kernel, rfl⟩, by decide +kernel⟩
theorem d_M_worthOf_10 : cd_D 3 b_M_worthOf 10 (.invokevirtual 97) 13 := ⟨by decide +kernel, rfl⟩
theorem d_M_worthOf_13 : decode b_M_worthOf 13 = .ok (.tableswitch (59) (1) (5) #[35, 40, 45, 52, 57], 35) := by decide +kernel
theorem d_M_worthOf_48 : cd_D_iload b_M_worthOf 48 2 49 := Or.inr ⟨2, ⟨by decide +kernel, rfl⟩, rfl⟩
theorem d_M_worthOf_49 : cd_Dk b_M_worthOf 49 (nI 6) 51 := Or.inr (Or.inl ⟨6, ⟨by decide +kernel, rfl⟩, by decide +kernel⟩)
theorem d_M_worthOf_51 : cd_D 1 b_M_worthOf 51 .iadd 52 := ⟨by decide +kernel, rfl⟩
theorem d_M_worthOf_52 : cd_D 1 b_M_worthOf 52 .ireturn 53 := ⟨by decide +kernel, rfl⟩
theorem d_M_worthOf_53 : cd_Dk b_M_worthOf 53 (nI 99) 55 := Or.inr (Or.inl ⟨99, ⟨by decide +kernel, rfl⟩, by decide +kernel⟩)
theorem d_M_worthOf_55 : cd_D_iload b_M_worthOf 55 2 56 := Or.inr ⟨2, ⟨by decide +kernel, rfl⟩, rfl⟩
theorem d_M_worthOf_56 : cd_D 1 b_M_worthOf 56 .isub 57 := ⟨by decide +kernel, rfl⟩
theorem d_M_worthOf_57 : cd_D 1 b_M_worthOf 57 .ireturn 58 := ⟨by decide +kernel, rfl⟩
theorem d_M_worthOf_58 : cd_Dk b_M_worthOf 58 (nI 2) 59 := Or.inl ⟨2, ⟨by decide +kernel, rfl⟩, by decide +kernel⟩
theorem d_M_worthOf_59 : cd_D_iload b_M_worthOf 59 2 60 := Or.inr ⟨2, ⟨by decide +kernel, rfl⟩, rfl⟩
theorem d_M_worthOf_60 : cd_Dk b_M_worthOf 60 (nI 6) 62 := Or.inr (Or.inl ⟨6, ⟨by decide +kernel, rfl⟩, by decide +kernel⟩)
theorem d_M_worthOf_62 : cd_D 1 b_M_worthOf 62 .iadd 63 := ⟨by decide +kernel, rfl⟩
theorem d_M_worthOf_63 : cd_D 1 b_M_worthOf 63 .imul 64 := ⟨by decide +kernel, rfl⟩
theorem d_M_worthOf_64 : cd_D 1 b_M_worthOf 64 .ireturn 65 := ⟨by decide +kernel, rfl⟩
theorem d_M_worthOf_65 : cd_Dk b_M_worthOf 65 (nI 91) 67 := Or.inr (Or.inl ⟨91, ⟨by decide +kernel, rfl⟩, by decide +kernel⟩)
theorem d_M_worthOf_67 : cd_D_iload b_M_worthOf 67 2 68 := Or.inr ⟨2, ⟨by decide +kernel, rfl⟩, rfl⟩
theorem d_M_worthOf_68 : cd_D 1 b_M_worthOf 68 .isub 69 := ⟨by decide +kernel, rfl⟩
theorem d_M_worthOf_69 : cd_D 1 b_M_worthOf 69 .ireturn 70 := ⟨by decide +kernel, rfl⟩
theorem d_M_worthOf_70 : cd_Dk b_M_worthOf 70 (nI 3) 71 := Or.inl ⟨3, ⟨by decide +kernel, rfl⟩, by decide +kernel⟩
theorem d_M_worthOf_71 : cd_D 1 b_M_worthOf 71 .ireturn 72 := ⟨by decide +kernel, rfl⟩
theorem d_M_worthOf_72 : cd_D_iload b_M_worthOf 72 2 73 := Or.inr ⟨2, ⟨by decide +kernel, rfl⟩, rfl⟩
theorem d_M_worthOf_73 : cd_D 1 b_M_worthOf 73 .ireturn 74 := ⟨by decide +kernel, rfl⟩
theorem c_M_worthOf {l : Launch} {w : cd_WT} {S : cd_Sp} {I : cd_Mem} {m : Nat} (hM : cd_MO w S m) (i : Nat) (hi : i < 12) : cd_C l w m_M_worthOf 1 0 0 [.ref m, .int (nI i)] S I (cd_Fi S (cd_wor (I (m + 1) (16 + 5 * i + 0)) (I (m + 1) (16 + 5 * i + 2))) I) := by
  refine cd_intro (by decide) (by simp [Value.category]) (Nat.le_of_ble_eq_true rfl) ?_
  intro X hO hE
  show cd_J w X 0 0 S I 0 [some (.ref m), some (.int (nI i)), none] []
  refine r_aload hO d_M_worthOf_0 rfl ?_
  refine r_iload hO d_M_worthOf_1 rfl ?_
  refine r_k hO d_M_worthOf_2 ?_
  refine r_cV2fi hO hE (c_M_of hM _ _ (by omega)) mf_M_of lk_M_97 hM.2.1 rfl (by decide) rfl (Nat.le_of_ble_eq_true rfl) d_M_worthOf_3 (Nat.zero_le _) (Nat.zero_le _) ?_
  refine r_sI2 hO d_M_worthOf_6 rfl ?_
  refine r_aload hO d_M_worthOf_7 rfl ?_
  refine r_iload hO d_M_worthOf_8 rfl ?_
  refine r_k hO d_M_worthOf_9 ?_
  refine r_cV2fi hO hE (c_M_of hM _ _ (by omega)) mf_M_of lk_M_97 hM.2.1 rfl (by decide) rfl (Nat.le_of_ble_eq_true rfl) d_M_worthOf_10 (Nat.zero_le _) (Nat.zero_le _) ?_
  by_cases c_13_1 : I (m + 1) (16 + 5 * i + 0) = nI 1
  · refine r_tabE hO d_M_worthOf_13 c_13_1 (off := 35) (by decide) (by decide) (by decide) (tgt := 48) (by decide) ?_
    refine r_iload hO d_M_worthOf_48 rfl ?_
    refine r_k hO d_M_worthOf_49 ?_
    refine r_iadd hO d_M_worthOf_51 ?_
    refine r_iret hO hE (Nat.zero_le _) (Nat.zero_le _) d_M_worthOf_52 ?_
    exact ⟨by unfold cd_wor; (repeat' split) <;> first | rfl | contradiction | (exfalso; simp only [Int32.lt_iff_toInt_lt, Int32.le_iff_toInt_le] at *; omega), rfl, rfl⟩
  by_cases c_13_2 : I (m + 1) (16 + 5 * i + 0) = nI 2
  · refine r_tabE hO d_M_worthOf_13 c_13_2 (off := 40) (by decide) (by decide) (by decide) (tgt := 53) (by decide) ?_
    refine r_k hO d_M_worthOf_53 ?_
    refine r_iload hO d_M_worthOf_55 rfl ?_
    refine r_isub hO d_M_worthOf_56 ?_
    refine r_iret hO hE (Nat.zero_le _) (Nat.zero_le _) d_M_worthOf_57 ?_
    exact ⟨by unfold cd_wor; (repeat' split) <;> first | rfl | contradiction | (exfalso; simp only [Int32.lt_iff_toInt_lt, Int32.le_iff_toInt_le] at *; omega), rfl, rfl⟩
  by_cases c_13_3 : I (m + 1) (16 + 5 * i + 0) = nI 3
  · refine r_tabE hO d_M_worthOf_13 c_13_3 (off := 45) (by decide) (by decide) (by decide) (tgt := 58) (by decide) ?_
    refine r_k hO d_M_worthOf_58 ?_
    refine r_iload hO d_M_worthOf_59 rfl ?_
    refine r_k hO d_M_worthOf_60 ?_
    refine r_iadd hO d_M_worthOf_62 ?_
    refine r_imul hO d_M_worthOf_63 ?_
    refine r_iret hO hE (Nat.zero_le _) (Nat.zero_le _) d_M_worthOf_64 ?_
    exact ⟨by unfold cd_wor; (repeat' split) <;> first | rfl | contradiction | (exfalso; simp only [Int32.lt_iff_toInt_lt, Int32.le_iff_toInt_le] at *; omega), rfl, rfl⟩
  by_cases c_13_4 : I (m + 1) (16 + 5 * i + 0) = nI 4
  · refine r_tabE hO d_M_worthOf_13 c_13_4 (off := 52) (by decide) (by decide) (by decide) (tgt := 65) (by decide) ?_
    refine r_k hO d_M_worthOf_65 ?_
    refine r_iload hO d_M_worthOf_67 rfl ?_
    refine r_isub hO d_M_worthOf_68 ?_
    refine r_iret hO hE (Nat.zero_le _) (Nat.zero_le _) d_M_worthOf_69 ?_
    exact ⟨by unfold cd_wor; (repeat' split) <;> first | rfl | contradiction | (exfalso; simp only [Int32.lt_iff_toInt_lt, Int32.le_iff_toInt_le] at *; omega), rfl, rfl⟩
  by_cases c_13_5 : I (m + 1) (16 + 5 * i + 0) = nI 5
  · refine r_tabE hO d_M_worthOf_13 c_13_5 (off := 57) (by decide) (by decide) (by decide) (tgt := 70) (by decide) ?_
    refine r_k hO d_M_worthOf_70 ?_
    refine r_iret hO hE (Nat.zero_le _) (Nat.zero_le _) d_M_worthOf_71 ?_
    exact ⟨by unfold cd_wor; (repeat' split) <;> first | rfl | contradiction | (exfalso; simp only [Int32.lt_iff_toInt_lt, Int32.le_iff_toInt_le] at *; omega), rfl, rfl⟩
  refine r_tabN hO d_M_worthOf_13 (by decide) (fun j hj => ?_) (tgt := 72) (by decide) ?_
  · have hj2 : j < 5 := hj
    rcases (show j = 0 ∨ j = 1 ∨ j = 2 ∨ j = 3 ∨ j = 4 by omega) with rfl | rfl | rfl | rfl | rfl
    · exact Or.inl (fun e => c_13_1 (e.trans (by decide)))
    · exact Or.inl (fun e => c_13_2 (e.trans (by decide)))
    · exact Or.inl (fun e => c_13_3 (e.trans (by decide)))
    · exact Or.inl (fun e => c_13_4 (e.trans (by decide)))
    · exact Or.inl (fun e => c_13_5 (e.trans (by decide)))
  refine r_iload hO d_M_worthOf_72 rfl ?_
  refine r_iret hO hE (Nat.zero_le _) (Nat.zero_le _) d_M_worthOf_73 ?_
  exact ⟨by unfold cd_wor; (repeat' split) <;> first | rfl | contradiction | (exfalso; simp only [Int32.lt_iff_toInt_lt, Int32.le_iff_toInt_le] at *; omega), rfl, rfl⟩
theorem d_M_meantBy_0 : cd_D_aload b_M_meantBy 0 0 1 := Or.inr ⟨0, ⟨by decide +kernel, rfl⟩, rfl⟩
theorem d_M_meantBy_1 : cd_D_iload b_M_meantBy 1 1 2 := Or.inr ⟨1, ⟨by decide +kernel, rfl⟩, rfl⟩
theorem d_M_meantBy_2 : cd_Dk b_M_meantBy 2 (nI 3) 3 := Or.inl ⟨3, ⟨by decide +kernel, rfl⟩, by decide +kernel⟩
theorem d_M_meantBy_3 : cd_D 3 b_M_meantBy 3 (.invokevirtual 97) 6 := ⟨by decide +kernel, rfl⟩
theorem d_M_meantBy_6 : cd_D_istore b_M_meantBy 6 2 7 := Or.inr ⟨2, ⟨by decide +kernel, rfl⟩, rfl⟩
theorem d_M_meantBy_7 : cd_D_aload b_M_meantBy 7 0 8 := Or.inr ⟨0, ⟨by decide +kernel, rfl⟩, rfl⟩
theorem d_M_meantBy_8 : cd_D_iload b_M_meantBy 8 1 9 := Or.inr ⟨1, ⟨by decide +kernel, rfl⟩, rfl⟩
theorem d_M_meantBy_9 : cd_Dk b_M_meantBy 9 (nI 0) 10 := Or.inl ⟨0, ⟨by decide +kernel, rfl⟩, by decide +kernel⟩
theorem d_M_meantBy_10 : cd_D 3 b_M_meantBy 10 (.invokevirtual 97) 13 := ⟨by decide +kernel, rfl⟩
theorem d_M_meantBy_13 : decode b_M_meantBy 13 = .ok (.tableswitch (89) (1) (5) #[35, 59, 39, 59, 87], 35) := by decide +kernel
theorem d_M_meantBy_48 : cd_D_iload b_M_meantBy 48 2 49 := Or.inr ⟨2, ⟨by decide +kernel, rfl⟩, rfl⟩
theorem d_M_meantBy_49 : cd_Dk b_M_meantBy 49 (nI 2) 50 := Or.inl ⟨2, ⟨by decide +kernel, rfl⟩, by decide +kernel⟩
theorem d_M_meantBy_50 : cd_D 1 b_M_meantBy 50 .idiv 51 := ⟨by decide +kernel, rfl⟩
theorem d_M_meantBy_51 : cd_D 1 b_M_meantBy 51 .ireturn 52 := ⟨by decide +kernel, rfl⟩
theorem d_M_meantBy_52 : cd_D_aload b_M_meantBy 52 0 53 := Or.inr ⟨0, ⟨by decide +kernel, rfl⟩, rfl⟩
theorem d_M_meantBy_53 : cd_D 3 b_M_meantBy 53 (.getfield 9) 56 := ⟨by decide +kernel, rfl⟩
theorem d_M_meantBy_56 : cd_Dk b_M_meantBy 56 (nI 7) 58 := Or.inr (Or.inl ⟨7, ⟨by decide +kernel, rfl⟩, by decide +kernel⟩)
theorem d_M_meantBy_58 : cd_D 1 b_M_meantBy 58 .iaload 59 := ⟨by decide +kernel, rfl⟩
theorem d_M_meantBy_59 : cd_Dk b_M_meantBy 59 (nI 1) 60 := Or.inl ⟨1, ⟨by decide +kernel, rfl⟩, by decide +kernel⟩
theorem d_M_meantBy_60 : cd_D_icmp_ne b_M_meantBy 60 68 63 := ⟨8, by decide +kernel, by decide, rfl⟩
theorem d_M_meantBy_63 : cd_Dk b_M_meantBy 63 (nI 100) 65 := Or.inr (Or.inl ⟨100, ⟨by decide +kernel, rfl⟩, by decide +kernel⟩)
theorem d_M_meantBy_65 : cd_D_goto b_M_meantBy 65 71 := ⟨6, by decide +kernel, by decide⟩
theorem d_M_meantBy_68 : cd_D_iload b_M_meantBy 68 2 69 := Or.inr ⟨2, ⟨by decide +kernel, rfl⟩, rfl⟩
theorem d_M_meantBy_69 : cd_Dk b_M_meantBy 69 (nI 2) 70 := Or.inl ⟨2, ⟨by decide +kernel, rfl⟩, by decide +kernel⟩
theorem d_M_meantBy_70 : cd_D 1 b_M_meantBy 70 .idiv 71 := ⟨by decide +kernel, rfl⟩
theorem d_M_meantBy_71 : cd_D 1 b_M_meantBy 71 .ireturn 72 := ⟨by decide +kernel, rfl⟩
theorem d_M_meantBy_72 : cd_D_aload b_M_meantBy 72 0 73 := Or.inr ⟨0, ⟨by decide +kernel, rfl⟩, rfl⟩
theorem d_M_meantBy_73 : cd_D 3 b_M_meantBy 73 (.getfield 9) 76 := ⟨by decide +kernel, rfl⟩
theorem d_M_meantBy_76 : cd_Dk b_M_meantBy 76 (nI 8) 78 := Or.inr (Or.inl ⟨8, ⟨by decide +kernel, rfl⟩, by decide +kernel⟩)
theorem d_M_meantBy_78 : cd_D 1 b_M_meantBy 78 .iaload 79 := ⟨by decide +kernel, rfl⟩
theorem d_M_meantBy_79 : cd_Dk b_M_meantBy 79 (nI 1) 80 := Or.inl ⟨1, ⟨by decide +kernel, rfl⟩, by decide +kernel⟩
theorem d_M_meantBy_80 : cd_D_icmp_ne b_M_meantBy 80 98 83 := ⟨18, by decide +kernel, by decide, rfl⟩
theorem d_M_meantBy_83 : cd_D_aload b_M_meantBy 83 0 84 := Or.inr ⟨0, ⟨by decide +kernel, rfl⟩, rfl⟩
theorem d_M_meantBy_84 : cd_D 3 b_M_meantBy 84 (.getfield 9) 87 := ⟨by decide +kernel, rfl⟩
theorem d_M_meantBy_87 : cd_Dk b_M_meantBy 87 (nI 7) 89 := Or.inr (Or.inl ⟨7, ⟨by decide +kernel, rfl⟩, by decide +kernel⟩)
theorem d_M_meantBy_89 : cd_D 1 b_M_meantBy 89 .iaload 90 := ⟨by decide +kernel, rfl⟩
theorem d_M_meantBy_90 : cd_D_if_ne b_M_meantBy 90 98 93 := ⟨8, by decide +kernel, by decide, rfl⟩
theorem d_M_meantBy_93 : cd_Dk b_M_meantBy 93 (nI 10) 95 := Or.inr (Or.inl ⟨10, ⟨by decide +kernel, rfl⟩, by decide +kernel⟩)
theorem d_M_meantBy_95 : cd_D_goto b_M_meantBy 95 99 := ⟨4, by decide +kernel, by decide⟩
theorem d_M_meantBy_98 : cd_D_iload b_M_meantBy 98 2 99 := Or.inr ⟨2, ⟨by decide +kernel, rfl⟩, rfl⟩
theorem d_M_meantBy_99 : cd_D 1 b_M_meantBy 99 .ireturn 100 := ⟨by decide +kernel, rfl⟩
theorem d_M_meantBy_100 : cd_Dk b_M_meantBy 100 (nI 0) 101 := Or.inl ⟨0, ⟨by decide +kernel, rfl⟩, by decide +kernel⟩
theorem d_M_meantBy_101 : cd_D 1 b_M_meantBy 101 .ireturn 102 := ⟨by decide +kernel, rfl⟩
theorem d_M_meantBy_102 : cd_D_iload b_M_meantBy 102 2 103 := Or.inr ⟨2, ⟨by decide +kernel, rfl⟩, rfl⟩
theorem d_M_meantBy_103 : cd_D 1 b_M_meantBy 103 .ireturn 104 := ⟨by decide +kernel, rfl⟩
theorem c_M_meantBy {l : Launch} {w : cd_WT} {S : cd_Sp} {I : cd_Mem} {m : Nat} (hM : cd_MO w S m) (i : Nat) (hi : i < 12) : cd_C l w m_M_meantBy 1 0 0 [.ref m, .int (nI i)] S I (cd_Fi S (cd_mea (I (m + 1)) i) I) := by
  refine cd_intro (by decide) (by simp [Value.category]) (Nat.le_of_ble_eq_true rfl) ?_
  intro X hO hE
  show cd_J w X 0 0 S I 0 [some (.ref m), some (.int (nI i)), none] []
  refine r_aload hO d_M_meantBy_0 rfl ?_
  refine r_iload hO d_M_meantBy_1 rfl ?_
  refine r_k hO d_M_meantBy_2 ?_
  refine r_cV2fi hO hE (c_M_of hM _ _ (by omega)) mf_M_of lk_M_97 hM.2.1 rfl (by decide) rfl (Nat.le_of_ble_eq_true rfl) d_M_meantBy_3 (Nat.zero_le _) (Nat.zero_le _) ?_
  refine r_sI2 hO d_M_meantBy_6 rfl ?_
  refine r_aload hO d_M_meantBy_7 rfl ?_
  refine r_iload hO d_M_meantBy_8 rfl ?_
  refine r_k hO d_M_meantBy_9 ?_
  refine r_cV2fi hO hE (c_M_of hM _ _ (by omega)) mf_M_of lk_M_97 hM.2.1 rfl (by decide) rfl (Nat.le_of_ble_eq_true rfl) d_M_meantBy_10 (Nat.zero_le _) (Nat.zero_le _) ?_
  by_cases c_13_1 : I (m + 1) (16 + 5 * i + 0) = nI 1
  · refine r_tabE hO d_M_meantBy_13 c_13_1 (off := 35) (by decide) (by decide) (by decide) (tgt := 48) (by decide) ?_
    refine r_iload hO d_M_meantBy_48 rfl ?_
    refine r_k hO d_M_meantBy_49 ?_
    refine r_idiv hO d_M_meantBy_50 (by decide) ?_
    refine r_iret hO hE (Nat.zero_le _) (Nat.zero_le _) d_M_meantBy_51 ?_
    exact ⟨by unfold cd_mea; (repeat' split) <;> first | rfl | contradiction | (exfalso; simp_all; done), rfl, rfl⟩
  by_cases c_13_2 : I (m + 1) (16 + 5 * i + 0) = nI 2
  · refine r_tabE hO d_M_meantBy_13 c_13_2 (off := 59) (by decide) (by decide) (by decide) (tgt := 72) (by decide) ?_
    refine r_aload hO d_M_meantBy_72 rfl ?_
    refine r_getR hO f_M_9 rfl hM.2.1 (mo_r1 hM) d_M_meantBy_73 ?_
    refine r_k hO d_M_meantBy_76 ?_
    refine r_iald hO (mo_s1 hM) (by omega) (by decide) d_M_meantBy_78 ?_
    refine r_k hO d_M_meantBy_79 ?_
    refine r_icmp_ne hO d_M_meantBy_80 (fun c_80 => ?_) (fun c_80 => ?_)
    · refine r_iload hO d_M_meantBy_98 rfl ?_
      refine r_iret hO hE (Nat.zero_le _) (Nat.zero_le _) d_M_meantBy_99 ?_
      exact ⟨by unfold cd_mea; (repeat' split) <;> first | rfl | contradiction | (exfalso; simp_all; done), rfl, rfl⟩
    · refine r_aload hO d_M_meantBy_83 rfl ?_
      refine r_getR hO f_M_9 rfl hM.2.1 (mo_r1 hM) d_M_meantBy_84 ?_
      refine r_k hO d_M_meantBy_87 ?_
      refine r_iald hO (mo_s1 hM) (by omega) (by decide) d_M_meantBy_89 ?_
      refine r_if_ne hO d_M_meantBy_90 (fun c_90 => ?_) (fun c_90 => ?_)
      · refine r_iload hO d_M_meantBy_98 rfl ?_
        refine r_iret hO hE (Nat.zero_le _) (Nat.zero_le _) d_M_meantBy_99 ?_
        exact ⟨by unfold cd_mea; (repeat' split) <;> first | rfl | contradiction | (exfalso; simp_all; done), rfl, rfl⟩
      · refine r_k hO d_M_meantBy_93 ?_
        refine r_goto hO d_M_meantBy_95 ?_
        refine r_iret hO hE (Nat.zero_le _) (Nat.zero_le _) d_M_meantBy_99 ?_
        exact ⟨by unfold cd_mea; (repeat' split) <;> first | rfl | contradiction | (exfalso; simp_all; done), rfl, rfl⟩
  by_cases c_13_3 : I (m + 1) (16 + 5 * i + 0) = nI 3
  · refine r_tabE hO d_M_meantBy_13 c_13_3 (off := 39) (by decide) (by decide) (by decide) (tgt := 52) (by decide) ?_
    refine r_aload hO d_M_meantBy_52 rfl ?_
    refine r_getR hO f_M_9 rfl hM.2.1 (mo_r1 hM) d_M_meantBy_53 ?_
    refine r_k hO d_M_meantBy_56 ?_
    refine r_iald hO (mo_s1 hM) (by omega) (by decide) d_M_meantBy_58 ?_
    refine r_k hO d_M_meantBy_59 ?_
    refine r_icmp_ne hO d_M_meantBy_60 (fun c_60 => ?_) (fun c_60 => ?_)
    · refine r_iload hO d_M_meantBy_68 rfl ?_
      refine r_k hO d_M_meantBy_69 ?_
      refine r_idiv hO d_M_meantBy_70 (by decide) ?_
      refine r_iret hO hE (Nat.zero_le _) (Nat.zero_le _) d_M_meantBy_71 ?_
      exact ⟨by unfold cd_mea; (repeat' split) <;> first | rfl | contradiction | (exfalso; simp_all; done), rfl, rfl⟩
    · refine r_k hO d_M_meantBy_63 ?_
      refine r_goto hO d_M_meantBy_65 ?_
      refine r_iret hO hE (Nat.zero_le _) (Nat.zero_le _) d_M_meantBy_71 ?_
      exact ⟨by unfold cd_mea; (repeat' split) <;> first | rfl | contradiction | (exfalso; simp_all; done), rfl, rfl⟩
  by_cases c_13_4 : I (m + 1) (16 + 5 * i + 0) = nI 4
  · refine r_tabE hO d_M_meantBy_13 c_13_4 (off := 59) (by decide) (by decide) (by decide) (tgt := 72) (by decide) ?_
    refine r_aload hO d_M_meantBy_72 rfl ?_
    refine r_getR hO f_M_9 rfl hM.2.1 (mo_r1 hM) d_M_meantBy_73 ?_
    refine r_k hO d_M_meantBy_76 ?_
    refine r_iald hO (mo_s1 hM) (by omega) (by decide) d_M_meantBy_78 ?_
    refine r_k hO d_M_meantBy_79 ?_
    refine r_icmp_ne hO d_M_meantBy_80 (fun c_80 => ?_) (fun c_80 => ?_)
    · refine r_iload hO d_M_meantBy_98 rfl ?_
      refine r_iret hO hE (Nat.zero_le _) (Nat.zero_le _) d_M_meantBy_99 ?_
      exact ⟨by unfold cd_mea; (repeat' split) <;> first | rfl | contradiction | (exfalso; simp_all; done), rfl, rfl⟩
    · refine r_aload hO d_M_meantBy_83 rfl ?_
      refine r_getR hO f_M_9 rfl hM.2.1 (mo_r1 hM) d_M_meantBy_84 ?_
      refine r_k hO d_M_meantBy_87 ?_
      refine r_iald hO (mo_s1 hM) (by omega) (by decide) d_M_meantBy_89 ?_
      refine r_if_ne hO d_M_meantBy_90 (fun c_90 => ?_) (fun c_90 => ?_)
      · refine r_iload hO d_M_meantBy_98 rfl ?_
        refine r_iret hO hE (Nat.zero_le _) (Nat.zero_le _) d_M_meantBy_99 ?_
        exact ⟨by unfold cd_mea; (repeat' split) <;> first | rfl | contradiction | (exfalso; simp_all; done), rfl, rfl⟩
      · refine r_k hO d_M_meantBy_93 ?_
        refine r_goto hO d_M_meantBy_95 ?_
        refine r_iret hO hE (Nat.zero_le _) (Nat.zero_le _) d_M_meantBy_99 ?_
        exact ⟨by unfold cd_mea; (repeat' split) <;> first | rfl | contradiction | (exfalso; simp_all; done), rfl, rfl⟩
  by_cases c_13_5 : I (m + 1) (16 + 5 * i + 0) = nI 5
  · refine r_tabE hO d_M_meantBy_13 c_13_5 (off := 87) (by decide) (by decide) (by decide) (tgt := 100) (by decide) ?_
    refine r_k hO d_M_meantBy_100 ?_
    refine r_iret hO hE (Nat.zero_le _) (Nat.zero_le _) d_M_meantBy_101 ?_
    exact ⟨by unfold cd_mea; (repeat' split) <;> first | rfl | contradiction | (exfalso; simp_all; done), rfl, rfl⟩
  refine r_tabN hO d_M_meantBy_13 (by decide) (fun j hj => ?_) (tgt := 102) (by decide) ?_
  · have hj2 : j < 5 := hj
    rcases (show j = 0 ∨ j = 1 ∨ j = 2 ∨ j = 3 ∨ j = 4 by omega) with rfl | rfl | rfl | rfl | rfl
    · exact Or.inl (fun e => c_13_1 (e.trans (by decide)))
    · exact Or.inl (fun e => c_13_2 (e.trans (by decide)))
    · exact Or.inl (fun e => c_13_3 (e.trans (by decide)))
    · exact Or.inl (fun e => c_13_4 (e.trans (by decide)))
    · exact Or.inl (fun e => c_13_5 (e.trans (by decide)))
  refine r_iload hO d_M_meantBy_102 rfl ?_
  refine r_iret hO hE (Nat.zero_le _) (Nat.zero_le _) d_M_meantBy_103 ?_
  exact ⟨by unfold cd_mea; (repeat' split) <;> first | rfl | contradiction | (exfalso; simp_all; done), rfl, rfl⟩
theorem d_M_isUnder_0 : cd_D_iload b_M_isUnder 0 1 1 := Or.inr ⟨1, ⟨by decide +kernel, rfl⟩, rfl⟩
theorem d_M_isUnder_1 : cd_D_if_eq b_M_isUnder 1 29 4 := ⟨28, by decide +kernel, by decide, rfl⟩
theorem d_M_isUnder_4 : cd_D_iload b_M_isUnder 4 0 5 := Or.inr ⟨0, ⟨by decide +kernel, rfl⟩, rfl⟩
theorem d_M_isUnder_5 : cd_D_iload b_M_isUnder 5 1 6 := Or.inr ⟨1, ⟨by decide +kernel, rfl⟩, rfl⟩
theorem d_M_isUnder_6 : cd_D_icmp_eq b_M_isUnder 6 29 9 := ⟨23, by decide +kernel, by decide, rfl⟩
theorem d_M_isUnder_9 : cd_D_iload b_M_isUnder 9 1 10 := Or.inr ⟨1, ⟨by decide +kernel, rfl⟩, rfl⟩
theorem d_M_isUnder_10 : cd_Dk b_M_isUnder 10 (nI 1) 11 := Or.inl ⟨1, ⟨by decide +kernel, rfl⟩, by decide +kernel⟩
theorem d_M_isUnder_11 : cd_D_icmp_ne b_M_isUnder 11 19 14 := ⟨8, by decide +kernel, by decide, rfl⟩
theorem d_M_isUnder_14 : cd_D_iload b_M_isUnder 14 0 15 := Or.inr ⟨0, ⟨by decide +kernel, rfl⟩, rfl⟩
theorem d_M_isUnder_15 : cd_Dk b_M_isUnder 15 (nI 3) 16 := Or.inl ⟨3, ⟨by decide +kernel, rfl⟩, by decide +kernel⟩
theorem d_M_isUnder_16 : cd_D_icmp_eq b_M_isUnder 16 29 19 := ⟨13, by decide +kernel, by decide, rfl⟩
theorem d_M_isUnder_19 : cd_D_iload b_M_isUnder 19 1 20 := Or.inr ⟨1, ⟨by decide +kernel, rfl⟩, rfl⟩
theorem d_M_isUnder_20 : cd_Dk b_M_isUnder 20 (nI 2) 21 := Or.inl ⟨2, ⟨by decide +kernel, rfl⟩, by decide +kernel⟩
theorem d_M_isUnder_21 : cd_D_icmp_ne b_M_isUnder 21 33 24 := ⟨12, by decide +kernel, by decide, rfl⟩
theorem d_M_isUnder_24 : cd_D_iload b_M_isUnder 24 0 25 := Or.inr ⟨0, ⟨by decide +kernel, rfl⟩, rfl⟩
theorem d_M_isUnder_25 : cd_Dk b_M_isUnder 25 (nI 4) 26 := Or.inl ⟨4, ⟨by decide +kernel, rfl⟩, by decide +kernel⟩
theorem d_M_isUnder_26 : cd_D_icmp_ne b_M_isUnder 26 33 29 := ⟨7, by decide +kernel, by decide, rfl⟩
theorem d_M_isUnder_29 : cd_Dk b_M_isUnder 29 (nI 1) 30 := Or.inl ⟨1, ⟨by decide +kernel, rfl⟩, by decide +kernel⟩
theorem d_M_isUnder_30 : cd_D_goto b_M_isUnder 30 34 := ⟨4, by decide +kernel, by decide⟩
theorem d_M_isUnder_33 : cd_Dk b_M_isUnder 33 (nI 0) 34 := Or.inl ⟨0, ⟨by decide +kernel, rfl⟩, by decide +kernel⟩
theorem d_M_isUnder_34 : cd_D 1 b_M_isUnder 34 .ireturn 35 := ⟨by decide +kernel, rfl⟩
theorem c_M_isUnder {l : Launch} {w : cd_WT} {S : cd_Sp} {I : cd_Mem} (k q : Int32) : cd_C l w m_M_isUnder 0 0 0 [.int k, .int q] S I (cd_Fi S (cd_bI (cd_und k q)) I) := by
  refine cd_intro (by decide) (by simp [Value.category]) (Nat.le_of_ble_eq_true rfl) ?_
  intro X hO hE
  show cd_J w X 0 0 S I 0 [some (.int k), some (.int q)] []
  refine r_iload hO d_M_isUnder_0 rfl ?_
  refine r_if_eq hO d_M_isUnder_1 (fun c_1 => ?_) (fun c_1 => ?_)
  · refine r_k hO d_M_isUnder_29 ?_
    refine r_goto hO d_M_isUnder_30 ?_
    refine r_zret hO hE (by first | exact Or.inl rfl | exact Or.inr rfl) (Nat.zero_le _) (Nat.zero_le _) d_M_isUnder_34 ?_
    first | exact cd_ret1 (by unfold cd_und; grind) | exact cd_ret0 (by unfold cd_und; grind)
  · refine r_iload hO d_M_isUnder_4 rfl ?_
    refine r_iload hO d_M_isUnder_5 rfl ?_
    refine r_icmp_eq hO d_M_isUnder_6 (fun c_6 => ?_) (fun c_6 => ?_)
    · refine r_k hO d_M_isUnder_29 ?_
      refine r_goto hO d_M_isUnder_30 ?_
      refine r_zret hO hE (by first | exact Or.inl rfl | exact Or.inr rfl) (Nat.zero_le _) (Nat.zero_le _) d_M_isUnder_34 ?_
      first | exact cd_ret1 (by unfold cd_und; grind) | exact cd_ret0 (by unfold cd_und; grind)
    · refine r_iload hO d_M_isUnder_9 rfl ?_
      refine r_k hO d_M_isUnder_10 ?_
      refine r_icmp_ne hO d_M_isUnder_11 (fun c_11 => ?_) (fun c_11 => ?_)
      · refine r_iload hO d_M_isUnder_19 rfl ?_
        refine r_k hO d_M_isUnder_20 ?_
        refine r_icmp_ne hO d_M_isUnder_21 (fun c_21 => ?_) (fun c_21 => ?_)
        · refine r_k hO d_M_isUnder_33 ?_
          refine r_zret hO hE (by first | exact Or.inl rfl | exact Or.inr rfl) (Nat.zero_le _) (Nat.zero_le _) d_M_isUnder_34 ?_
          first | exact cd_ret1 (by unfold cd_und; grind) | exact cd_ret0 (by unfold cd_und; grind)
        · refine r_iload hO d_M_isUnder_24 rfl ?_
          refine r_k hO d_M_isUnder_25 ?_
          refine r_icmp_ne hO d_M_isUnder_26 (fun c_26 => ?_) (fun c_26 => ?_)
          · refine r_k hO d_M_isUnder_33 ?_
            refine r_zret hO hE (by first | exact Or.inl rfl | exact Or.inr rfl) (Nat.zero_le _) (Nat.zero_le _) d_M_isUnder_34 ?_
            first | exact cd_ret1 (by unfold cd_und; grind) | exact cd_ret0 (by unfold cd_und; grind)
          · refine r_k hO d_M_isUnder_29 ?_
            refine r_goto hO d_M_isUnder_30 ?_
            refine r_zret hO hE (by first | exact Or.inl rfl | exact Or.inr rfl) (Nat.zero_le _) (Nat.zero_le _) d_M_isUnder_34 ?_
            first | exact cd_ret1 (by unfold cd_und; grind) | exact cd_ret0 (by unfold cd_und; grind)
      · refine r_iload hO d_M_isUnder_14 rfl ?_
        refine r_k hO d_M_isUnder_15 ?_
        refine r_icmp_eq hO d_M_isUnder_16 (fun c_16 => ?_) (fun c_16 => ?_)
        · refine r_k hO d_M_isUnder_29 ?_
          refine r_goto hO d_M_isUnder_30 ?_
          refine r_zret hO hE (by first | exact Or.inl rfl | exact Or.inr rfl) (Nat.zero_le _) (Nat.zero_le _) d_M_isUnder_34 ?_
          first | exact cd_ret1 (by unfold cd_und; grind) | exact cd_ret0 (by unfold cd_und; grind)
        · refine r_iload hO d_M_isUnder_19 rfl ?_
          refine r_k hO d_M_isUnder_20 ?_
          refine r_icmp_ne hO d_M_isUnder_21 (fun c_21 => ?_) (fun c_21 => ?_)
          · refine r_k hO d_M_isUnder_33 ?_
            refine r_zret hO hE (by first | exact Or.inl rfl | exact Or.inr rfl) (Nat.zero_le _) (Nat.zero_le _) d_M_isUnder_34 ?_
            first | exact cd_ret1 (by unfold cd_und; grind) | exact cd_ret0 (by unfold cd_und; grind)
          · refine r_iload hO d_M_isUnder_24 rfl ?_
            refine r_k hO d_M_isUnder_25 ?_
            refine r_icmp_ne hO d_M_isUnder_26 (fun c_26 => ?_) (fun c_26 => ?_)
            · refine r_k hO d_M_isUnder_33 ?_
              refine r_zret hO hE (by first | exact Or.inl rfl | exact Or.inr rfl) (Nat.zero_le _) (Nat.zero_le _) d_M_isUnder_34 ?_
              first | exact cd_ret1 (by unfold cd_und; grind) | exact cd_ret0 (by unfold cd_und; grind)
            · refine r_k hO d_M_isUnder_29 ?_
              refine r_goto hO d_M_isUnder_30 ?_
              refine r_zret hO hE (by first | exact Or.inl rfl | exact Or.inr rfl) (Nat.zero_le _) (Nat.zero_le _) d_M_isUnder_34 ?_
              first | exact cd_ret1 (by unfold cd_und; grind) | exact cd_ret0 (by unfold cd_und; grind)
theorem d_M_draw_0 : cd_D_aload b_M_draw 0 0 1 := Or.inr ⟨0, ⟨by decide +kernel, rfl⟩, rfl⟩
theorem d_M_draw_1 : cd_D 3 b_M_draw 1 (.getfield 9) 4 := ⟨by decide +kernel, rfl⟩
theorem d_M_draw_4 : cd_Dk b_M_draw 4 (nI 0) 5 := Or.inl ⟨0, ⟨by decide +kernel, rfl⟩, by decide +kernel⟩
theorem d_M_draw_5 : cd_D_aload b_M_draw 5 0 6 := Or.inr ⟨0, ⟨by decide +kernel, rfl⟩, rfl⟩
theorem d_M_draw_6 : cd_D 3 b_M_draw 6 (.getfield 9) 9 := ⟨by decide +kernel, rfl⟩
theorem d_M_draw_9 : cd_Dk b_M_draw 9 (nI 0) 10 := Or.inl ⟨0, ⟨by decide +kernel, rfl⟩, by decide +kernel⟩
theorem d_M_draw_10 : cd_D 1 b_M_draw 10 .iaload 11 := ⟨by decide +kernel, rfl⟩
theorem d_M_draw_11 : cd_D 2 b_M_draw 11 (.ldc 137) 13 := ⟨by decide +kernel, rfl⟩
theorem d_M_draw_13 : cd_D 1 b_M_draw 13 .imul 14 := ⟨by decide +kernel, rfl⟩
theorem d_M_draw_14 : cd_Dk b_M_draw 14 (nI 12345) 17 := Or.inr (Or.inr ⟨12345, ⟨by decide +kernel, rfl⟩, by decide +kernel⟩)
theorem d_M_draw_17 : cd_D 1 b_M_draw 17 .iadd 18 := ⟨by decide +kernel, rfl⟩
theorem d_M_draw_18 : cd_D 1 b_M_draw 18 .iastore 19 := ⟨by decide +kernel, rfl⟩
theorem d_M_draw_19 : cd_D_aload b_M_draw 19 0 20 := Or.inr ⟨0, ⟨by decide +kernel, rfl⟩, rfl⟩
theorem d_M_draw_20 : cd_D 3 b_M_draw 20 (.getfield 9) 23 := ⟨by decide +kernel, rfl⟩
theorem d_M_draw_23 : cd_Dk b_M_draw 23 (nI 0) 24 := Or.inl ⟨0, ⟨by decide +kernel, rfl⟩, by decide +kernel⟩
theorem d_M_draw_24 : cd_D 1 b_M_draw 24 .iaload 25 := ⟨by decide +kernel, rfl⟩
theorem d_M_draw_25 : cd_Dk b_M_draw 25 (nI 8) 27 := Or.inr (Or.inl ⟨8, ⟨by decide +kernel, rfl⟩, by decide +kernel⟩)
theorem d_M_draw_27 : cd_D 1 b_M_draw 27 .iushr 28 := ⟨by decide +kernel, rfl⟩
theorem d_M_draw_28 : cd_D 1 b_M_draw 28 .ireturn 29 := ⟨by decide +kernel, rfl⟩
theorem c_M_draw {l : Launch} {w : cd_WT} {S : cd_Sp} {I : cd_Mem} {m : Nat} (hM : cd_MO w S m)  : cd_C l w m_M_draw 0 0 0 [.ref m] S I (cd_Fi S (cd_dv (I (m + 1))) (cd_set I (m + 1) (cd_dr (I (m + 1))))) := by
  refine cd_intro (by decide) (by simp [Value.category]) (Nat.le_of_ble_eq_true rfl) ?_
  intro X hO hE
  show cd_J w X 0 0 S I 0 [some (.ref m)] []
  refine r_aload hO d_M_draw_0 rfl ?_
  refine r_getR hO f_M_9 rfl hM.2.1 (mo_r1 hM) d_M_draw_1 ?_
  refine r_k hO d_M_draw_4 ?_
  refine r_aload hO d_M_draw_5 rfl ?_
  refine r_getR hO f_M_9 rfl hM.2.1 (mo_r1 hM) d_M_draw_6 ?_
  refine r_k hO d_M_draw_9 ?_
  refine r_iald hO (mo_s1 hM) (by omega) (by decide) d_M_draw_10 ?_
  refine r_ldc hO k_M_137 d_M_draw_11 ?_
  refine r_imul hO d_M_draw_13 ?_
  refine r_k hO d_M_draw_14 ?_
  refine r_iadd hO d_M_draw_17 ?_
  refine r_iast hO (mo_s1 hM) (mo_l1 hM) (by omega) (by decide) d_M_draw_18 ?_
  refine r_aload hO d_M_draw_19 rfl ?_
  refine r_getR hO f_M_9 rfl hM.2.1 (mo_r1 hM) d_M_draw_20 ?_
  try simp only [cd_set_eq, cd_set_set]
  refine r_k hO d_M_draw_23 ?_
  refine r_iald hO (mo_s1 hM) (by omega) (by decide) d_M_draw_24 ?_
  try simp only [cd_set_eq, cd_set_set]
  refine r_k hO d_M_draw_25 ?_
  refine r_iushr hO d_M_draw_27 ?_
  refine r_iret hO hE (Nat.zero_le _) (Nat.zero_le _) d_M_draw_28 ?_
  exact ⟨rfl, rfl, rfl⟩
theorem d_M_goes_0 : cd_D_aload b_M_goes 0 0 1 := Or.inr ⟨0, ⟨by decide +kernel, rfl⟩, rfl⟩
theorem d_M_goes_1 : cd_D 3 b_M_goes 1 (.getfield 9) 4 := ⟨by decide +kernel, rfl⟩
theorem d_M_goes_4 : cd_Dk b_M_goes 4 (nI 7) 6 := Or.inr (Or.inl ⟨7, ⟨by decide +kernel, rfl⟩, by decide +kernel⟩)
theorem d_M_goes_6 : cd_Dk b_M_goes 6 (nI 1) 7 := Or.inl ⟨1, ⟨by decide +kernel, rfl⟩, by decide +kernel⟩
theorem d_M_goes_7 : cd_D_aload b_M_goes 7 0 8 := Or.inr ⟨0, ⟨by decide +kernel, rfl⟩, rfl⟩
theorem d_M_goes_8 : cd_D 3 b_M_goes 8 (.getfield 9) 11 := ⟨by decide +kernel, rfl⟩
theorem d_M_goes_11 : cd_Dk b_M_goes 11 (nI 7) 13 := Or.inr (Or.inl ⟨7, ⟨by decide +kernel, rfl⟩, by decide +kernel⟩)
theorem d_M_goes_13 : cd_D 1 b_M_goes 13 .iaload 14 := ⟨by decide +kernel, rfl⟩
theorem d_M_goes_14 : cd_D 1 b_M_goes 14 .isub 15 := ⟨by decide +kernel, rfl⟩
theorem d_M_goes_15 : cd_D 1 b_M_goes 15 .iastore 16 := ⟨by decide +kernel, rfl⟩
theorem d_M_goes_16 : cd_D_aload b_M_goes 16 0 17 := Or.inr ⟨0, ⟨by decide +kernel, rfl⟩, rfl⟩
theorem d_M_goes_17 : cd_D 3 b_M_goes 17 (.getfield 9) 20 := ⟨by decide +kernel, rfl⟩
theorem d_M_goes_20 : cd_D_aload b_M_goes 20 0 21 := Or.inr ⟨0, ⟨by decide +kernel, rfl⟩, rfl⟩
theorem d_M_goes_21 : cd_D 3 b_M_goes 21 (.getfield 9) 24 := ⟨by decide +kernel, rfl⟩
theorem d_M_goes_24 : cd_Dk b_M_goes 24 (nI 7) 26 := Or.inr (Or.inl ⟨7, ⟨by decide +kernel, rfl⟩, by decide +kernel⟩)
theorem d_M_goes_26 : cd_D 1 b_M_goes 26 .iaload 27 := ⟨by decide +kernel, rfl⟩
theorem d_M_goes_27 : cd_Dk b_M_goes 27 (nI 1) 28 := Or.inl ⟨1, ⟨by decide +kernel, rfl⟩, by decide +kernel⟩
theorem d_M_goes_28 : cd_D_icmp_ne b_M_goes 28 36 31 := ⟨8, by decide +kernel, by decide, rfl⟩
theorem d_M_goes_31 : cd_Dk b_M_goes 31 (nI 12) 33 := Or.inr (Or.inl ⟨12, ⟨by decide +kernel, rfl⟩, by decide +kernel⟩)
theorem d_M_goes_33 : cd_D_goto b_M_goes 33 38 := ⟨5, by decide +kernel, by decide⟩
theorem d_M_goes_36 : cd_Dk b_M_goes 36 (nI 13) 38 := Or.inr (Or.inl ⟨13, ⟨by decide +kernel, rfl⟩, by decide +kernel⟩)
theorem d_M_goes_38 : cd_D 1 b_M_goes 38 .dup2 39 := ⟨by decide +kernel, rfl⟩
theorem d_M_goes_39 : cd_D 1 b_M_goes 39 .iaload 40 := ⟨by decide +kernel, rfl⟩
theorem d_M_goes_40 : cd_Dk b_M_goes 40 (nI 1) 41 := Or.inl ⟨1, ⟨by decide +kernel, rfl⟩, by decide +kernel⟩
theorem d_M_goes_41 : cd_D 1 b_M_goes 41 .iadd 42 := ⟨by decide +kernel, rfl⟩
theorem d_M_goes_42 : cd_D 1 b_M_goes 42 .iastore 43 := ⟨by decide +kernel, rfl⟩
theorem d_M_goes_43 : cd_Dk b_M_goes 43 (nI 1) 44 := Or.inl ⟨1, ⟨by decide +kernel, rfl⟩, by decide +kernel⟩
theorem d_M_goes_44 : cd_D 1 b_M_goes 44 .ireturn 45 := ⟨by decide +kernel, rfl⟩
theorem c_M_goes {l : Launch} {w : cd_WT} {S : cd_Sp} {I : cd_Mem} {m : Nat} (hM : cd_MO w S m)  : cd_C l w m_M_goes 0 0 0 [.ref m] S I (cd_Fi S (nI 1) (cd_set I (m + 1) (cd_go (I (m + 1))))) := by
  refine cd_intro (by decide) (by simp [Value.category]) (Nat.le_of_ble_eq_true rfl) ?_
  intro X hO hE
  show cd_J w X 0 0 S I 0 [some (.ref m)] []
  refine r_aload hO d_M_goes_0 rfl ?_
  refine r_getR hO f_M_9 rfl hM.2.1 (mo_r1 hM) d_M_goes_1 ?_
  refine r_k hO d_M_goes_4 ?_
  refine r_k hO d_M_goes_6 ?_
  refine r_aload hO d_M_goes_7 rfl ?_
  refine r_getR hO f_M_9 rfl hM.2.1 (mo_r1 hM) d_M_goes_8 ?_
  refine r_k hO d_M_goes_11 ?_
  refine r_iald hO (mo_s1 hM) (by omega) (by decide) d_M_goes_13 ?_
  refine r_isub hO d_M_goes_14 ?_
  refine r_iast hO (mo_s1 hM) (mo_l1 hM) (by omega) (by decide) d_M_goes_15 ?_
  refine r_aload hO d_M_goes_16 rfl ?_
  refine r_getR hO f_M_9 rfl hM.2.1 (mo_r1 hM) d_M_goes_17 ?_
  try simp only [cd_set_eq, cd_set_set]
  refine r_aload hO d_M_goes_20 rfl ?_
  refine r_getR hO f_M_9 rfl hM.2.1 (mo_r1 hM) d_M_goes_21 ?_
  try simp only [cd_set_eq, cd_set_set]
  refine r_k hO d_M_goes_24 ?_
  refine r_iald hO (mo_s1 hM) (by omega) (by decide) d_M_goes_26 ?_
  try simp only [cd_set_eq, cd_set_set]
  refine r_k hO d_M_goes_27 ?_
  refine r_icmp_ne hO d_M_goes_28 (fun c_28 => ?_) (fun c_28 => ?_)
  · refine r_k hO d_M_goes_36 ?_
    refine r_dup2 hO d_M_goes_38 rfl rfl ?_
    refine r_iald hO (mo_s1 hM) (by omega) (by decide) d_M_goes_39 ?_
    try simp only [cd_set_eq, cd_set_set]
    refine r_k hO d_M_goes_40 ?_
    refine r_iadd hO d_M_goes_41 ?_
    refine r_iast hO (mo_s1 hM) (mo_l1 hM) (by omega) (by decide) d_M_goes_42 ?_
    try simp only [cd_set_eq, cd_set_set]
    refine r_k hO d_M_goes_43 ?_
    refine r_iret hO hE (Nat.zero_le _) (Nat.zero_le _) d_M_goes_44 ?_
    exact ⟨rfl, rfl, by congr 1; unfold cd_go; simp_all [upd]⟩
  · refine r_k hO d_M_goes_31 ?_
    refine r_goto hO d_M_goes_33 ?_
    refine r_dup2 hO d_M_goes_38 rfl rfl ?_
    refine r_iald hO (mo_s1 hM) (by omega) (by decide) d_M_goes_39 ?_
    try simp only [cd_set_eq, cd_set_set]
    refine r_k hO d_M_goes_40 ?_
    refine r_iadd hO d_M_goes_41 ?_
    refine r_iast hO (mo_s1 hM) (mo_l1 hM) (by omega) (by decide) d_M_goes_42 ?_
    try simp only [cd_set_eq, cd_set_set]
    refine r_k hO d_M_goes_43 ?_
    refine r_iret hO hE (Nat.zero_le _) (Nat.zero_le _) d_M_goes_44 ?_
    exact ⟨rfl, rfl, by congr 1; unfold cd_go; simp_all [upd]⟩
theorem d_M_goesAsMeant_0 : cd_D_aload b_M_goesAsMeant 0 0 1 := Or.inr ⟨0, ⟨by decide +kernel, rfl⟩, rfl⟩
theorem d_M_goesAsMeant_1 : cd_D 3 b_M_goesAsMeant 1 (.invokevirtual 138) 4 := ⟨by decide +kernel, rfl⟩
theorem d_M_goesAsMeant_4 : cd_Dk b_M_goesAsMeant 4 (nI 100) 6 := Or.inr (Or.inl ⟨100, ⟨by decide +kernel, rfl⟩, by decide +kernel⟩)
theorem d_M_goesAsMeant_6 : cd_D 1 b_M_goesAsMeant 6 .irem 7 := ⟨by decide +kernel, rfl⟩
theorem d_M_goesAsMeant_7 : cd_D_aload b_M_goesAsMeant 7 0 8 := Or.inr ⟨0, ⟨by decide +kernel, rfl⟩, rfl⟩
theorem d_M_goesAsMeant_8 : cd_D_iload b_M_goesAsMeant 8 1 9 := Or.inr ⟨1, ⟨by decide +kernel, rfl⟩, rfl⟩
theorem d_M_goesAsMeant_9 : cd_D 3 b_M_goesAsMeant 9 (.invokevirtual 124) 12 := ⟨by decide +kernel, rfl⟩
theorem d_M_goesAsMeant_12 : cd_D_icmp_ge b_M_goesAsMeant 12 22 15 := ⟨10, by decide +kernel, by decide, rfl⟩
theorem d_M_goesAsMeant_15 : cd_D_aload b_M_goesAsMeant 15 0 16 := Or.inr ⟨0, ⟨by decide +kernel, rfl⟩, rfl⟩
theorem d_M_goesAsMeant_16 : cd_D 3 b_M_goesAsMeant 16 (.invokevirtual 142) 19 := ⟨by decide +kernel, rfl⟩
theorem d_M_goesAsMeant_19 : cd_D_goto b_M_goesAsMeant 19 23 := ⟨4, by decide +kernel, by decide⟩
theorem d_M_goesAsMeant_22 : cd_Dk b_M_goesAsMeant 22 (nI 0) 23 := Or.inl ⟨0, ⟨by decide +kernel, rfl⟩, by decide +kernel⟩
theorem d_M_goesAsMeant_23 : cd_D 1 b_M_goesAsMeant 23 .ireturn 24 := ⟨by decide +kernel, rfl⟩
theorem c_M_goesAsMeant {l : Launch} {w : cd_WT} {S : cd_Sp} {I : cd_Mem} {m : Nat} (hM : cd_MO w S m) (i : Nat) (hi : i < 12) : cd_C l w m_M_goesAsMeant 2 0 0 [.ref m, .int (nI i)] S I (cd_Fi S (cd_gm (I (m + 1)) i).1 (cd_set I (m + 1) (cd_gm (I (m + 1)) i).2)) := by
  refine cd_intro (by decide) (by simp [Value.category]) (Nat.le_of_ble_eq_true rfl) ?_
  intro X hO hE
  show cd_J w X 0 0 S I 0 [some (.ref m), some (.int (nI i))] []
  refine r_aload hO d_M_goesAsMeant_0 rfl ?_
  refine r_cV0fi hO hE (c_M_draw hM) mf_M_draw lk_M_138 hM.2.1 rfl (by decide) rfl (Nat.le_of_ble_eq_true rfl) d_M_goesAsMeant_1 (Nat.zero_le _) (Nat.zero_le _) ?_
  try simp only [cd_set_eq, cd_set_set]
  refine r_k hO d_M_goesAsMeant_4 ?_
  refine r_irem hO d_M_goesAsMeant_6 (by decide) ?_
  refine r_aload hO d_M_goesAsMeant_7 rfl ?_
  refine r_iload hO d_M_goesAsMeant_8 rfl ?_
  refine r_cV1fi hO hE (c_M_meantBy hM _ hi) mf_M_meantBy lk_M_124 hM.2.1 rfl (by decide) rfl (Nat.le_of_ble_eq_true rfl) d_M_goesAsMeant_9 (Nat.zero_le _) (Nat.zero_le _) ?_
  try simp only [cd_set_eq, cd_set_set]
  refine r_icmp_ge hO d_M_goesAsMeant_12 (fun c_12 => ?_) (fun c_12 => ?_)
  · refine r_k hO d_M_goesAsMeant_22 ?_
    refine r_iret hO hE (Nat.zero_le _) (Nat.zero_le _) d_M_goesAsMeant_23 ?_
    exact ⟨by unfold cd_gm; simp only [*, if_true, if_false], rfl, by unfold cd_gm; simp only [*, if_true, if_false]⟩
  · refine r_aload hO d_M_goesAsMeant_15 rfl ?_
    refine r_cV0fi hO hE (c_M_goes hM) mf_M_goes lk_M_142 hM.2.1 rfl (by decide) rfl (Nat.le_of_ble_eq_true rfl) d_M_goesAsMeant_16 (Nat.zero_le _) (Nat.zero_le _) ?_
    try simp only [cd_set_eq, cd_set_set]
    refine r_goto hO d_M_goesAsMeant_19 ?_
    refine r_iret hO hE (Nat.zero_le _) (Nat.zero_le _) d_M_goesAsMeant_23 ?_
    exact ⟨by unfold cd_gm; simp only [*, if_true, if_false], rfl, by unfold cd_gm; simp only [*, if_true, if_false]⟩
theorem d_M_learns_0 : cd_D_aload b_M_learns 0 0 1 := Or.inr ⟨0, ⟨by decide +kernel, rfl⟩, rfl⟩
theorem d_M_learns_1 : cd_D_iload b_M_learns 1 1 2 := Or.inr ⟨1, ⟨by decide +kernel, rfl⟩, rfl⟩
theorem d_M_learns_2 : cd_Dk b_M_learns 2 (nI 4) 3 := Or.inl ⟨4, ⟨by decide +kernel, rfl⟩, by decide +kernel⟩
theorem d_M_learns_3 : cd_D_aload b_M_learns 3 0 4 := Or.inr ⟨0, ⟨by decide +kernel, rfl⟩, rfl⟩
theorem d_M_learns_4 : cd_D_iload b_M_learns 4 1 5 := Or.inr ⟨1, ⟨by decide +kernel, rfl⟩, rfl⟩
theorem d_M_learns_5 : cd_Dk b_M_learns 5 (nI 4) 6 := Or.inl ⟨4, ⟨by decide +kernel, rfl⟩, by decide +kernel⟩
theorem d_M_learns_6 : cd_D 3 b_M_learns 6 (.invokevirtual 97) 9 := ⟨by decide +kernel, rfl⟩
theorem d_M_learns_9 : cd_Dk b_M_learns 9 (nI 1) 10 := Or.inl ⟨1, ⟨by decide +kernel, rfl⟩, by decide +kernel⟩
theorem d_M_learns_10 : cd_D 1 b_M_learns 10 .iadd 11 := ⟨by decide +kernel, rfl⟩
theorem d_M_learns_11 : cd_D 3 b_M_learns 11 (.invokevirtual 79) 14 := ⟨by decide +kernel, rfl⟩
theorem d_M_learns_14 : cd_D_aload b_M_learns 14 0 15 := Or.inr ⟨0, ⟨by decide +kernel, rfl⟩, rfl⟩
theorem d_M_learns_15 : cd_D_iload b_M_learns 15 1 16 := Or.inr ⟨1, ⟨by decide +kernel, rfl⟩, rfl⟩
theorem d_M_learns_16 : cd_Dk b_M_learns 16 (nI 2) 17 := Or.inl ⟨2, ⟨by decide +kernel, rfl⟩, by decide +kernel⟩
theorem d_M_learns_17 : cd_D_aload b_M_learns 17 0 18 := Or.inr ⟨0, ⟨by decide +kernel, rfl⟩, rfl⟩
theorem d_M_learns_18 : cd_D_iload b_M_learns 18 1 19 := Or.inr ⟨1, ⟨by decide +kernel, rfl⟩, rfl⟩
theorem d_M_learns_19 : cd_Dk b_M_learns 19 (nI 2) 20 := Or.inl ⟨2, ⟨by decide +kernel, rfl⟩, by decide +kernel⟩
theorem d_M_learns_20 : cd_D 3 b_M_learns 20 (.invokevirtual 97) 23 := ⟨by decide +kernel, rfl⟩
theorem d_M_learns_23 : cd_D_aload b_M_learns 23 0 24 := Or.inr ⟨0, ⟨by decide +kernel, rfl⟩, rfl⟩
theorem d_M_learns_24 : cd_D_iload b_M_learns 24 1 25 := Or.inr ⟨1, ⟨by decide +kernel, rfl⟩, rfl⟩
theorem d_M_learns_25 : cd_D 3 b_M_learns 25 (.invokevirtual 115) 28 := ⟨by decide +kernel, rfl⟩
theorem d_M_learns_28 : cd_D 1 b_M_learns 28 .iadd 29 := ⟨by decide +kernel, rfl⟩
theorem d_M_learns_29 : cd_Dk b_M_learns 29 (nI 0) 30 := Or.inl ⟨0, ⟨by decide +kernel, rfl⟩, by decide +kernel⟩
theorem d_M_learns_30 : cd_Dk b_M_learns 30 (nI 99) 32 := Or.inr (Or.inl ⟨99, ⟨by decide +kernel, rfl⟩, by decide +kernel⟩)
theorem d_M_learns_32 : cd_D 3 b_M_learns 32 (.invokestatic 104) 35 := ⟨by decide +kernel, rfl⟩
theorem d_M_learns_35 : cd_D 3 b_M_learns 35 (.invokevirtual 79) 38 := ⟨by decide +kernel, rfl⟩
theorem d_M_learns_38 : cd_D 1 b_M_learns 38 .return_ 39 := ⟨by decide +kernel, rfl⟩
theorem c_M_learns {l : Launch} {w : cd_WT} {S : cd_Sp} {I : cd_Mem} {m : Nat} (hM : cd_MO w S m) (i : Nat) (hi : i < 12) : cd_C l w m_M_learns 2 0 0 [.ref m, .int (nI i)] S I (cd_Fv S (cd_set I (m + 1) (cd_le (I (m + 1)) i))) := by
  refine cd_intro (by decide) (by simp [Value.category]) (Nat.le_of_ble_eq_true rfl) ?_
  intro X hO hE
  show cd_J w X 0 0 S I 0 [some (.ref m), some (.int (nI i))] []
  refine r_aload hO d_M_learns_0 rfl ?_
  refine r_iload hO d_M_learns_1 rfl ?_
  refine r_k hO d_M_learns_2 ?_
  refine r_aload hO d_M_learns_3 rfl ?_
  refine r_iload hO d_M_learns_4 rfl ?_
  refine r_k hO d_M_learns_5 ?_
  refine r_cV2fi hO hE (c_M_of hM _ _ (by omega)) mf_M_of lk_M_97 hM.2.1 rfl (by decide) rfl (Nat.le_of_ble_eq_true rfl) d_M_learns_6 (Nat.zero_le _) (Nat.zero_le _) ?_
  try simp only [cd_set_eq, cd_set_set]
  refine r_k hO d_M_learns_9 ?_
  refine r_iadd hO d_M_learns_10 ?_
  refine r_cV3fv hO hE (c_M_put hM _ _ _ (by omega)) mf_M_put lk_M_79 hM.2.1 rfl (by decide) rfl (Nat.le_of_ble_eq_true rfl) d_M_learns_11 (Nat.zero_le _) (Nat.zero_le _) ?_
  try simp only [cd_set_eq, cd_set_set]
  refine r_aload hO d_M_learns_14 rfl ?_
  refine r_iload hO d_M_learns_15 rfl ?_
  refine r_k hO d_M_learns_16 ?_
  refine r_aload hO d_M_learns_17 rfl ?_
  refine r_iload hO d_M_learns_18 rfl ?_
  refine r_k hO d_M_learns_19 ?_
  refine r_cV2fi hO hE (c_M_of hM _ _ (by omega)) mf_M_of lk_M_97 hM.2.1 rfl (by decide) rfl (Nat.le_of_ble_eq_true rfl) d_M_learns_20 (Nat.zero_le _) (Nat.zero_le _) ?_
  try simp only [cd_set_eq, cd_set_set]
  refine r_aload hO d_M_learns_23 rfl ?_
  refine r_iload hO d_M_learns_24 rfl ?_
  refine r_cV1fi hO hE (c_M_learnsOf hM _ hi) mf_M_learnsOf lk_M_115 hM.2.1 rfl (by decide) rfl (Nat.le_of_ble_eq_true rfl) d_M_learns_25 (Nat.zero_le _) (Nat.zero_le _) ?_
  try simp only [cd_set_eq, cd_set_set]
  refine r_iadd hO d_M_learns_28 ?_
  refine r_k hO d_M_learns_29 ?_
  refine r_k hO d_M_learns_30 ?_
  refine r_cS3fi hO hE (c_M_within _ _ _) mf_M_within lk_M_104 (by decide) rfl (Nat.le_of_ble_eq_true rfl) d_M_learns_32 (Nat.zero_le _) (Nat.zero_le _) ?_
  try simp only [cd_set_eq, cd_set_set]
  refine r_cV3fv hO hE (c_M_put hM _ _ _ (by omega)) mf_M_put lk_M_79 hM.2.1 rfl (by decide) rfl (Nat.le_of_ble_eq_true rfl) d_M_learns_35 (Nat.zero_le _) (Nat.zero_le _) ?_
  try simp only [cd_set_eq, cd_set_set]
  refine r_vret hO hE (Nat.zero_le _) (Nat.zero_le _) d_M_learns_38 ?_
  exact ⟨rfl, rfl, rfl⟩
theorem d_M_rises_0 : cd_D_aload b_M_rises 0 0 1 := Or.inr ⟨0, ⟨by decide +kernel, rfl⟩, rfl⟩
theorem d_M_rises_1 : cd_D 3 b_M_rises 1 (.getfield 9) 4 := ⟨by decide +kernel, rfl⟩
theorem d_M_rises_4 : cd_Dk b_M_rises 4 (nI 10) 6 := Or.inr (Or.inl ⟨10, ⟨by decide +kernel, rfl⟩, by decide +kernel⟩)
theorem d_M_rises_6 : cd_D 1 b_M_rises 6 .dup2 7 := ⟨by decide +kernel, rfl⟩
theorem d_M_rises_7 : cd_D 1 b_M_rises 7 .iaload 8 := ⟨by decide +kernel, rfl⟩
theorem d_M_rises_8 : cd_Dk b_M_rises 8 (nI 1) 9 := Or.inl ⟨1, ⟨by decide +kernel, rfl⟩, by decide +kernel⟩
theorem d_M_rises_9 : cd_D 1 b_M_rises 9 .iadd 10 := ⟨by decide +kernel, rfl⟩
theorem d_M_rises_10 : cd_D 1 b_M_rises 10 .iastore 11 := ⟨by decide +kernel, rfl⟩
theorem d_M_rises_11 : cd_D_aload b_M_rises 11 0 12 := Or.inr ⟨0, ⟨by decide +kernel, rfl⟩, rfl⟩
theorem d_M_rises_12 : cd_D_iload b_M_rises 12 1 13 := Or.inr ⟨1, ⟨by decide +kernel, rfl⟩, rfl⟩
theorem d_M_rises_13 : cd_D 3 b_M_rises 13 (.invokevirtual 145) 16 := ⟨by decide +kernel, rfl⟩
theorem d_M_rises_16 : cd_D_aload b_M_rises 16 0 17 := Or.inr ⟨0, ⟨by decide +kernel, rfl⟩, rfl⟩
theorem d_M_rises_17 : cd_D_iload b_M_rises 17 1 18 := Or.inr ⟨1, ⟨by decide +kernel, rfl⟩, rfl⟩
theorem d_M_rises_18 : cd_D 3 b_M_rises 18 (.invokevirtual 149) 21 := ⟨by decide +kernel, rfl⟩
theorem d_M_rises_21 : cd_D 1 b_M_rises 21 .ireturn 22 := ⟨by decide +kernel, rfl⟩
theorem c_M_rises {l : Launch} {w : cd_WT} {S : cd_Sp} {I : cd_Mem} {m : Nat} (hM : cd_MO w S m) (i : Nat) (hi : i < 12) : cd_C l w m_M_rises 3 0 0 [.ref m, .int (nI i)] S I (cd_Fi S (cd_ri (I (m + 1)) i).1 (cd_set I (m + 1) (cd_ri (I (m + 1)) i).2)) := by
  refine cd_intro (by decide) (by simp [Value.category]) (Nat.le_of_ble_eq_true rfl) ?_
  intro X hO hE
  show cd_J w X 0 0 S I 0 [some (.ref m), some (.int (nI i))] []
  refine r_aload hO d_M_rises_0 rfl ?_
  refine r_getR hO f_M_9 rfl hM.2.1 (mo_r1 hM) d_M_rises_1 ?_
  refine r_k hO d_M_rises_4 ?_
  refine r_dup2 hO d_M_rises_6 rfl rfl ?_
  refine r_iald hO (mo_s1 hM) (by omega) (by decide) d_M_rises_7 ?_
  refine r_k hO d_M_rises_8 ?_
  refine r_iadd hO d_M_rises_9 ?_
  refine r_iast hO (mo_s1 hM) (mo_l1 hM) (by omega) (by decide) d_M_rises_10 ?_
  refine r_aload hO d_M_rises_11 rfl ?_
  refine r_iload hO d_M_rises_12 rfl ?_
  refine r_cV1fv hO hE (c_M_learns hM _ hi) mf_M_learns lk_M_145 hM.2.1 rfl (by decide) rfl (Nat.le_of_ble_eq_true rfl) d_M_rises_13 (Nat.zero_le _) (Nat.zero_le _) ?_
  try simp only [cd_set_eq, cd_set_set]
  refine r_aload hO d_M_rises_16 rfl ?_
  refine r_iload hO d_M_rises_17 rfl ?_
  refine r_cV1fi hO hE (c_M_goesAsMeant hM _ hi) mf_M_goesAsMeant lk_M_149 hM.2.1 rfl (by decide) rfl (Nat.le_of_ble_eq_true rfl) d_M_rises_18 (Nat.zero_le _) (Nat.zero_le _) ?_
  try simp only [cd_set_eq, cd_set_set]
  refine r_iret hO hE (Nat.zero_le _) (Nat.zero_le _) d_M_rises_21 ?_
  exact ⟨rfl, rfl, rfl⟩
end
section
def cd_two (s a b : Int32) : Int32 := if s = (-8) then a * b else if s = (-7) then a - b else if s = (-6) then a + b else if s = (-5) then cd_bI (b < a) else if s = (-4) then cd_bI (a = b) else if s = (-3) then cd_bI (a < b) else if s = (-2) then cd_bI (a ≠ 0 ∧ b ≠ 0) else if s = (-1) then cd_bI (a ≠ 0 ∨ b ≠ 0) else if b = 0 then 0 else a / b
def cd_cnt (N : Nat → Int32) (key : Int32) : Nat → Int32
  | 0 => -1
  | t + 1 => if N (76 + 2 * t) / nI 1000 = key then nI t else cd_cnt N key t
def cd_tn (x : Int32) : Nat := x.toNatClampNeg
/-- the stack machine: signs below 0 join, nt turns, the others push -/
def cd_es (two : Int32 → Int32 → Int32 → Int32) (nt : Int32) (fa : Nat → Int32) (c : Nat → Int32) : Nat → Nat × (Nat → Int32)
  | 0 => (0, fun _ => 0)
  | k + 1 => let z := cd_es two nt fa c k
    if c k < 0 then (if c k = nt then (z.1, upd z.2 (z.1 - 1) (if z.2 (z.1 - 1) = 0 then nI 1 else nI 0)) else (z.1 - 1, upd z.2 (z.1 - 1 - 1) (two (c k) (z.2 (z.1 - 1 - 1)) (z.2 (z.1 - 1)))))
    else (z.1 + 1, upd z.2 z.1 (if nI 10000 ≤ c k then fa (cd_tn (c k - nI 10000)) else c k))
def cd_dep (nt : Int32) (c : Nat → Int32) : Nat → Nat
  | 0 => 0
  | k + 1 => if c k < 0 then (if c k = nt then cd_dep nt c k else cd_dep nt c k - 1) else cd_dep nt c k + 1
/-- a row of codes that the machine can work out: of n codes, with nb names -/
def cd_wf (nt : Int32) (c : Nat → Int32) (n nb : Nat) : Prop := ∀ k, k < n → (¬ c k < 0 → cd_dep nt c k < 96 ∧ (¬ nI 10000 ≤ c k ∨ ∃ j, j < nb ∧ c k = nI (10000 + j))) ∧ (c k = nt → 1 ≤ cd_dep nt c k) ∧ (c k < 0 → c k ≠ nt → 2 ≤ cd_dep nt c k)
theorem cd_es_dep (two : Int32 → Int32 → Int32 → Int32) (nt : Int32) (fa c : Nat → Int32) (k : Nat) : (cd_es two nt fa c k).1 = cd_dep nt c k := by
  induction k with
  | zero => rfl
  | succ k ih =>
    simp only [cd_es, cd_dep]
    split
    · split <;> simp only [ih]
    · simp only [ih]
def cd_off (I I' : cd_Mem) (l : List Nat) : Prop := ∀ b, b ∉ l → I' b = I b
theorem cd_off.rf (I : cd_Mem) (l : List Nat) : cd_off I I l := fun _ _ => rfl
theorem cd_off.tr {I I1 I2 : cd_Mem} {l : List Nat} (h : cd_off I I1 l) (h2 : cd_off I1 I2 l) : cd_off I I2 l := fun b hb => (h2 b hb).trans (h b hb)
theorem cd_off.mono {I I1 : cd_Mem} {l l' : List Nat} (h : cd_off I I1 l) (hl : ∀ b, b ∈ l → b ∈ l') : cd_off I I1 l' := fun b hb => h b (fun q => hb (hl b q))
theorem cd_off.set (I : cd_Mem) {a : Nat} (r : Nat → Int32) {l : List Nat} (h : a ∈ l) : cd_off I (cd_set I a r) l := fun b hb => cd_set_ne _ _ (fun e => hb (e ▸ h))
def cd_nb (ky : Nat) : Nat := if ky = 0 then 3 else 2
def cd_TW (N : Nat → Int32) (tc : Nat) : Prop := ∀ t, t < tc → ∃ ky n, N (76 + 2 * t) = nI (1000 * ky + n) ∧ ky ≤ 2 ∧ 1 ≤ n ∧ n ≤ 96 ∧ cd_wf (-10) (fun k => N (104 + 96 * t + k)) n (cd_nb ky) ∧ cd_dep (-10) (fun k => N (104 + 96 * t + k)) n = 1
def cd_V (N : Nat → Int32) (mm tc : Nat) : Prop := N 1 = nI mm ∧ mm ≤ 12 ∧ N 15 = nI tc ∧ tc ≤ 14 ∧ cd_TW N tc
def cd_wo (N : Nat → Int32) (t : Nat) (f0 f1 f2 : Int32) : Int32 := (cd_es cd_two (-10) (fun j => if j = 0 then f0 else if j = 1 then f1 else f2) (fun k => N (104 + 96 * t + k)) (cd_tn (cd_rem (N (76 + 2 * t)) (nI 1000)))).2 0
theorem d_M_two_0 : cd_D_iload b_M_two 0 0 1 := Or.inr ⟨0, ⟨by decide +kernel, rfl⟩, rfl⟩
theorem d_M_two_1 : decode b_M_two 1 = .ok (.tableswitch (120) (-8) (-1) #[116, 112, 108, 97, 86, 75, 61, 47], 47) := by decide +kernel
theorem d_M_two_48 : cd_D_iload b_M_two 48 1 49 := Or.inr ⟨1, ⟨by decide +kernel, rfl⟩, rfl⟩
theorem d_M_two_49 : cd_D_if_ne b_M_two 49 56 52 := ⟨7, by decide +kernel, by decide, rfl⟩
theorem d_M_two_52 : cd_D_iload b_M_two 52 2 53 := Or.inr ⟨2, ⟨by decide +kernel, rfl⟩, rfl⟩
theorem d_M_two_53 : cd_D_if_eq b_M_two 53 60 56 := ⟨7, by decide +kernel, by decide, rfl⟩
theorem d_M_two_56 : cd_Dk b_M_two 56 (nI 1) 57 := Or.inl ⟨1, ⟨by decide +kernel, rfl⟩, by decide +kernel⟩
theorem d_M_two_57 : cd_D_goto b_M_two 57 61 := ⟨4, by decide +kernel, by decide⟩
theorem d_M_two_60 : cd_Dk b_M_two 60 (nI 0) 61 := Or.inl ⟨0, ⟨by decide +kernel, rfl⟩, by decide +kernel⟩
theorem d_M_two_61 : cd_D 1 b_M_two 61 .ireturn 62 := ⟨by decide +kernel, rfl⟩
theorem d_M_two_62 : cd_D_iload b_M_two 62 1 63 := Or.inr ⟨1, ⟨by decide +kernel, rfl⟩, rfl⟩
theorem d_M_two_63 : cd_D_if_eq b_M_two 63 74 66 := ⟨11, by decide +kernel, by decide, rfl⟩
theorem d_M_two_66 : cd_D_iload b_M_two 66 2 67 := Or.inr ⟨2, ⟨by decide +kernel, rfl⟩, rfl⟩
theorem d_M_two_67 : cd_D_if_eq b_M_two 67 74 70 := ⟨7, by decide +kernel, by decide, rfl⟩
theorem d_M_two_70 : cd_Dk b_M_two 70 (nI 1) 71 := Or.inl ⟨1, ⟨by decide +kernel, rfl⟩, by decide +kernel⟩
theorem d_M_two_71 : cd_D_goto b_M_two 71 75 := ⟨4, by decide +kernel, by decide⟩
theorem d_M_two_74 : cd_Dk b_M_two 74 (nI 0) 75 := Or.inl ⟨0, ⟨by decide +kernel, rfl⟩, by decide +kernel⟩
theorem d_M_two_75 : cd_D 1 b_M_two 75 .ireturn 76 := ⟨by decide +kernel, rfl⟩
theorem d_M_two_76 : cd_D_iload b_M_two 76 1 77 := Or.inr ⟨1, ⟨by decide +kernel, rfl⟩, rfl⟩
theorem d_M_two_77 : cd_D_iload b_M_two 77 2 78 := Or.inr ⟨2, ⟨by decide +kernel, rfl⟩, rfl⟩
theorem d_M_two_78 : cd_D_icmp_ge b_M_two 78 85 81 := ⟨7, by decide +kernel, by decide, rfl⟩
theorem d_M_two_81 : cd_Dk b_M_two 81 (nI 1) 82 := Or.inl ⟨1, ⟨by decide +kernel, rfl⟩, by decide +kernel⟩
theorem d_M_two_82 : cd_D_goto b_M_two 82 86 := ⟨4, by decide +kernel, by decide⟩
theorem d_M_two_85 : cd_Dk b_M_two 85 (nI 0) 86 := Or.inl ⟨0, ⟨by decide +kernel, rfl⟩, by decide +kernel⟩
theorem d_M_two_86 : cd_D 1 b_M_two 86 .ireturn 87 := ⟨by decide +kernel, rfl⟩
theorem d_M_two_87 : cd_D_iload b_M_two 87 1 88 := Or.inr ⟨1, ⟨by decide +kernel, rfl⟩, rfl⟩
theorem d_M_two_88 : cd_D_iload b_M_two 88 2 89 := Or.inr ⟨2, ⟨by decide +kernel, rfl⟩, rfl⟩
theorem d_M_two_89 : cd_D_icmp_ne b_M_two 89 96 92 := ⟨7, by decide +kernel, by decide, rfl⟩
theorem d_M_two_92 : cd_Dk b_M_two 92 (nI 1) 93 := Or.inl ⟨1, ⟨by decide +kernel, rfl⟩, by decide +kernel⟩
theorem d_M_two_93 : cd_D_goto b_M_two 93 97 := ⟨4, by decide +kernel, by decide⟩
theorem d_M_two_96 : cd_Dk b_M_two 96 (nI 0) 97 := Or.inl ⟨0, ⟨by decide +kernel, rfl⟩, by decide +kernel⟩
theorem d_M_two_97 : cd_D 1 b_M_two 97 .ireturn 98 := ⟨by decide +kernel, rfl⟩
theorem d_M_two_98 : cd_D_iload b_M_two 98 1 99 := Or.inr ⟨1, ⟨by decide +kernel, rfl⟩, rfl⟩
theorem d_M_two_99 : cd_D_iload b_M_two 99 2 100 := Or.inr ⟨2, ⟨by decide +kernel, rfl⟩, rfl⟩
theorem d_M_two_100 : cd_D_icmp_le b_M_two 100 107 103 := ⟨7, by decide +kernel, by decide, rfl⟩
theorem d_M_two_103 : cd_Dk b_M_two 103 (nI 1) 104 := Or.inl ⟨1, ⟨by decide +kernel, rfl⟩, by decide +kernel⟩
theorem d_M_two_104 : cd_D_goto b_M_two 104 108 := ⟨4, by decide +kernel, by decide⟩
theorem d_M_two_107 : cd_Dk b_M_two 107 (nI 0) 108 := Or.inl ⟨0, ⟨by decide +kernel, rfl⟩, by decide +kernel⟩
theorem d_M_two_108 : cd_D 1 b_M_two 108 .ireturn 109 := ⟨by decide +kernel, rfl⟩
theorem d_M_two_109 : cd_D_iload b_M_two 109 1 110 := Or.inr ⟨1, ⟨by decide +kernel, rfl⟩, rfl⟩
theorem d_M_two_110 : cd_D_iload b_M_two 110 2 111 := Or.inr ⟨2, ⟨by decide +kernel, rfl⟩, rfl⟩
theorem d_M_two_111 : cd_D 1 b_M_two 111 .iadd 112 := ⟨by decide +kernel, rfl⟩
theorem d_M_two_112 : cd_D 1 b_M_two 112 .ireturn 113 := ⟨by decide +kernel, rfl⟩
theorem d_M_two_113 : cd_D_iload b_M_two 113 1 114 := Or.inr ⟨1, ⟨by decide +kernel, rfl⟩, rfl⟩
theorem d_M_two_114 : cd_D_iload b_M_two 114 2 115 := Or.inr ⟨2, ⟨by decide +kernel, rfl⟩, rfl⟩
theorem d_M_two_115 : cd_D 1 b_M_two 115 .isub 116 := ⟨by decide +kernel, rfl⟩
theorem d_M_two_116 : cd_D 1 b_M_two 116 .ireturn 117 := ⟨by decide +kernel, rfl⟩
theorem d_M_two_117 : cd_D_iload b_M_two 117 1 118 := Or.inr ⟨1, ⟨by decide +kernel, rfl⟩, rfl⟩
theorem d_M_two_118 : cd_D_iload b_M_two 118 2 119 := Or.inr ⟨2, ⟨by decide +kernel, rfl⟩, rfl⟩
theorem d_M_two_119 : cd_D 1 b_M_two 119 .imul 120 := ⟨by decide +kernel, rfl⟩
theorem d_M_two_120 : cd_D 1 b_M_two 120 .ireturn 121 := ⟨by decide +kernel, rfl⟩
theorem d_M_two_121 : cd_D_iload b_M_two 121 2 122 := Or.inr ⟨2, ⟨by decide +kernel, rfl⟩, rfl⟩
theorem d_M_two_122 : cd_D_if_ne b_M_two 122 129 125 := ⟨7, by decide +kernel, by decide, rfl⟩
theorem d_M_two_125 : cd_Dk b_M_two 125 (nI 0) 126 := Or.inl ⟨0, ⟨by decide +kernel, rfl⟩, by decide +kernel⟩
theorem d_M_two_126 : cd_D_goto b_M_two 126 132 := ⟨6, by decide +kernel, by decide⟩
theorem d_M_two_129 : cd_D_iload b_M_two 129 1 130 := Or.inr ⟨1, ⟨by decide +kernel, rfl⟩, rfl⟩
theorem d_M_two_130 : cd_D_iload b_M_two 130 2 131 := Or.inr ⟨2, ⟨by decide +kernel, rfl⟩, rfl⟩
theorem d_M_two_131 : cd_D 1 b_M_two 131 .idiv 132 := ⟨by decide +kernel, rfl⟩
theorem d_M_two_132 : cd_D 1 b_M_two 132 .ireturn 133 := ⟨by decide +kernel, rfl⟩
theorem c_M_two {l : Launch} {w : cd_WT} {S : cd_Sp} {I : cd_Mem} (s a b : Int32) : cd_C l w m_M_two 0 0 0 [.int s, .int a, .int b] S I (cd_Fi S (cd_two s a b) I) := by
  refine cd_intro (by decide) (by simp [Value.category]) (Nat.le_of_ble_eq_true rfl) ?_
  intro X hO hE
  show cd_J w X 0 0 S I 0 [some (.int s), some (.int a), some (.int b)] []
  refine r_iload hO d_M_two_0 rfl ?_
  by_cases c_1_m8 : s = (-8)
  · refine r_tabE hO d_M_two_1 c_1_m8 (off := 116) (by decide) (by decide) (by decide) (tgt := 117) (by decide) ?_
    refine r_iload hO d_M_two_117 rfl ?_
    refine r_iload hO d_M_two_118 rfl ?_
    refine r_imul hO d_M_two_119 ?_
    refine r_iret hO hE (Nat.zero_le _) (Nat.zero_le _) d_M_two_120 ?_
    exact ⟨by unfold cd_two cd_bI; (repeat' split) <;> first | rfl | contradiction | (exfalso; simp_all; done) | (exfalso; simp only [Int32.lt_iff_toInt_lt, Int32.le_iff_toInt_le] at *; omega), rfl, rfl⟩
  by_cases c_1_m7 : s = (-7)
  · refine r_tabE hO d_M_two_1 c_1_m7 (off := 112) (by decide) (by decide) (by decide) (tgt := 113) (by decide) ?_
    refine r_iload hO d_M_two_113 rfl ?_
    refine r_iload hO d_M_two_114 rfl ?_
    refine r_isub hO d_M_two_115 ?_
    refine r_iret hO hE (Nat.zero_le _) (Nat.zero_le _) d_M_two_116 ?_
    exact ⟨by unfold cd_two cd_bI; (repeat' split) <;> first | rfl | contradiction | (exfalso; simp_all; done) | (exfalso; simp only [Int32.lt_iff_toInt_lt, Int32.le_iff_toInt_le] at *; omega), rfl, rfl⟩
  by_cases c_1_m6 : s = (-6)
  · refine r_tabE hO d_M_two_1 c_1_m6 (off := 108) (by decide) (by decide) (by decide) (tgt := 109) (by decide) ?_
    refine r_iload hO d_M_two_109 rfl ?_
    refine r_iload hO d_M_two_110 rfl ?_
    refine r_iadd hO d_M_two_111 ?_
    refine r_iret hO hE (Nat.zero_le _) (Nat.zero_le _) d_M_two_112 ?_
    exact ⟨by unfold cd_two cd_bI; (repeat' split) <;> first | rfl | contradiction | (exfalso; simp_all; done) | (exfalso; simp only [Int32.lt_iff_toInt_lt, Int32.le_iff_toInt_le] at *; omega), rfl, rfl⟩
  by_cases c_1_m5 : s = (-5)
  · refine r_tabE hO d_M_two_1 c_1_m5 (off := 97) (by decide) (by decide) (by decide) (tgt := 98) (by decide) ?_
    refine r_iload hO d_M_two_98 rfl ?_
    refine r_iload hO d_M_two_99 rfl ?_
    refine r_icmp_le hO d_M_two_100 (fun c_100 => ?_) (fun c_100 => ?_)
    · refine r_k hO d_M_two_107 ?_
      refine r_iret hO hE (Nat.zero_le _) (Nat.zero_le _) d_M_two_108 ?_
      exact ⟨by unfold cd_two cd_bI; (repeat' split) <;> first | rfl | contradiction | (exfalso; simp_all; done) | (exfalso; simp only [Int32.lt_iff_toInt_lt, Int32.le_iff_toInt_le] at *; omega), rfl, rfl⟩
    · refine r_k hO d_M_two_103 ?_
      refine r_goto hO d_M_two_104 ?_
      refine r_iret hO hE (Nat.zero_le _) (Nat.zero_le _) d_M_two_108 ?_
      exact ⟨by unfold cd_two cd_bI; (repeat' split) <;> first | rfl | contradiction | (exfalso; simp_all; done) | (exfalso; simp only [Int32.lt_iff_toInt_lt, Int32.le_iff_toInt_le] at *; omega), rfl, rfl⟩
  by_cases c_1_m4 : s = (-4)
  · refine r_tabE hO d_M_two_1 c_1_m4 (off := 86) (by decide) (by decide) (by decide) (tgt := 87) (by decide) ?_
    refine r_iload hO d_M_two_87 rfl ?_
    refine r_iload hO d_M_two_88 rfl ?_
    refine r_icmp_ne hO d_M_two_89 (fun c_89 => ?_) (fun c_89 => ?_)
    · refine r_k hO d_M_two_96 ?_
      refine r_iret hO hE (Nat.zero_le _) (Nat.zero_le _) d_M_two_97 ?_
      exact ⟨by unfold cd_two cd_bI; (repeat' split) <;> first | rfl | contradiction | (exfalso; simp_all; done) | (exfalso; simp only [Int32.lt_iff_toInt_lt, Int32.le_iff_toInt_le] at *; omega), rfl, rfl⟩
    · refine r_k hO d_M_two_92 ?_
      refine r_goto hO d_M_two_93 ?_
      refine r_iret hO hE (Nat.zero_le _) (Nat.zero_le _) d_M_two_97 ?_
      exact ⟨by unfold cd_two cd_bI; (repeat' split) <;> first | rfl | contradiction | (exfalso; simp_all; done) | (exfalso; simp only [Int32.lt_iff_toInt_lt, Int32.le_iff_toInt_le] at *; omega), rfl, rfl⟩
  by_cases c_1_m3 : s = (-3)
  · refine r_tabE hO d_M_two_1 c_1_m3 (off := 75) (by decide) (by decide) (by decide) (tgt := 76) (by decide) ?_
    refine r_iload hO d_M_two_76 rfl ?_
    refine r_iload hO d_M_two_77 rfl ?_
    refine r_icmp_ge hO d_M_two_78 (fun c_78 => ?_) (fun c_78 => ?_)
    · refine r_k hO d_M_two_85 ?_
      refine r_iret hO hE (Nat.zero_le _) (Nat.zero_le _) d_M_two_86 ?_
      exact ⟨by unfold cd_two cd_bI; (repeat' split) <;> first | rfl | contradiction | (exfalso; simp_all; done) | (exfalso; simp only [Int32.lt_iff_toInt_lt, Int32.le_iff_toInt_le] at *; omega), rfl, rfl⟩
    · refine r_k hO d_M_two_81 ?_
      refine r_goto hO d_M_two_82 ?_
      refine r_iret hO hE (Nat.zero_le _) (Nat.zero_le _) d_M_two_86 ?_
      exact ⟨by unfold cd_two cd_bI; (repeat' split) <;> first | rfl | contradiction | (exfalso; simp_all; done) | (exfalso; simp only [Int32.lt_iff_toInt_lt, Int32.le_iff_toInt_le] at *; omega), rfl, rfl⟩
  by_cases c_1_m2 : s = (-2)
  · refine r_tabE hO d_M_two_1 c_1_m2 (off := 61) (by decide) (by decide) (by decide) (tgt := 62) (by decide) ?_
    refine r_iload hO d_M_two_62 rfl ?_
    refine r_if_eq hO d_M_two_63 (fun c_63 => ?_) (fun c_63 => ?_)
    · refine r_k hO d_M_two_74 ?_
      refine r_iret hO hE (Nat.zero_le _) (Nat.zero_le _) d_M_two_75 ?_
      exact ⟨by unfold cd_two cd_bI; (repeat' split) <;> first | rfl | contradiction | (exfalso; simp_all; done) | (exfalso; simp only [Int32.lt_iff_toInt_lt, Int32.le_iff_toInt_le] at *; omega), rfl, rfl⟩
    · refine r_iload hO d_M_two_66 rfl ?_
      refine r_if_eq hO d_M_two_67 (fun c_67 => ?_) (fun c_67 => ?_)
      · refine r_k hO d_M_two_74 ?_
        refine r_iret hO hE (Nat.zero_le _) (Nat.zero_le _) d_M_two_75 ?_
        exact ⟨by unfold cd_two cd_bI; (repeat' split) <;> first | rfl | contradiction | (exfalso; simp_all; done) | (exfalso; simp only [Int32.lt_iff_toInt_lt, Int32.le_iff_toInt_le] at *; omega), rfl, rfl⟩
      · refine r_k hO d_M_two_70 ?_
        refine r_goto hO d_M_two_71 ?_
        refine r_iret hO hE (Nat.zero_le _) (Nat.zero_le _) d_M_two_75 ?_
        exact ⟨by unfold cd_two cd_bI; (repeat' split) <;> first | rfl | contradiction | (exfalso; simp_all; done) | (exfalso; simp only [Int32.lt_iff_toInt_lt, Int32.le_iff_toInt_le] at *; omega), rfl, rfl⟩
  by_cases c_1_m1 : s = (-1)
  · refine r_tabE hO d_M_two_1 c_1_m1 (off := 47) (by decide) (by decide) (by decide) (tgt := 48) (by decide) ?_
    refine r_iload hO d_M_two_48 rfl ?_
    refine r_if_ne hO d_M_two_49 (fun c_49 => ?_) (fun c_49 => ?_)
    · refine r_k hO d_M_two_56 ?_
      refine r_goto hO d_M_two_57 ?_
      refine r_iret hO hE (Nat.zero_le _) (Nat.zero_le _) d_M_two_61 ?_
      exact ⟨by unfold cd_two cd_bI; (repeat' split) <;> first | rfl | contradiction | (exfalso; simp_all; done) | (exfalso; simp only [Int32.lt_iff_toInt_lt, Int32.le_iff_toInt_le] at *; omega), rfl, rfl⟩
    · refine r_iload hO d_M_two_52 rfl ?_
      refine r_if_eq hO d_M_two_53 (fun c_53 => ?_) (fun c_53 => ?_)
      · refine r_k hO d_M_two_60 ?_
        refine r_iret hO hE (Nat.zero_le _) (Nat.zero_le _) d_M_two_61 ?_
        exact ⟨by unfold cd_two cd_bI; (repeat' split) <;> first | rfl | contradiction | (exfalso; simp_all; done) | (exfalso; simp only [Int32.lt_iff_toInt_lt, Int32.le_iff_toInt_le] at *; omega), rfl, rfl⟩
      · refine r_k hO d_M_two_56 ?_
        refine r_goto hO d_M_two_57 ?_
        refine r_iret hO hE (Nat.zero_le _) (Nat.zero_le _) d_M_two_61 ?_
        exact ⟨by unfold cd_two cd_bI; (repeat' split) <;> first | rfl | contradiction | (exfalso; simp_all; done) | (exfalso; simp only [Int32.lt_iff_toInt_lt, Int32.le_iff_toInt_le] at *; omega), rfl, rfl⟩
  refine r_tabN hO d_M_two_1 (by decide) (fun j hj => ?_) (tgt := 121) (by decide) ?_
  · have hj2 : j < 8 := hj
    rcases (show j = 0 ∨ j = 1 ∨ j = 2 ∨ j = 3 ∨ j = 4 ∨ j = 5 ∨ j = 6 ∨ j = 7 by omega) with rfl | rfl | rfl | rfl | rfl | rfl | rfl | rfl
    · exact Or.inl (fun e => c_1_m8 (e.trans (by decide)))
    · exact Or.inl (fun e => c_1_m7 (e.trans (by decide)))
    · exact Or.inl (fun e => c_1_m6 (e.trans (by decide)))
    · exact Or.inl (fun e => c_1_m5 (e.trans (by decide)))
    · exact Or.inl (fun e => c_1_m4 (e.trans (by decide)))
    · exact Or.inl (fun e => c_1_m3 (e.trans (by decide)))
    · exact Or.inl (fun e => c_1_m2 (e.trans (by decide)))
    · exact Or.inl (fun e => c_1_m1 (e.trans (by decide)))
  refine r_iload hO d_M_two_121 rfl ?_
  refine r_if_ne hO d_M_two_122 (fun c_122 => ?_) (fun c_122 => ?_)
  · refine r_iload hO d_M_two_129 rfl ?_
    refine r_iload hO d_M_two_130 rfl ?_
    refine r_idiv hO d_M_two_131 c_122 ?_
    refine r_iret hO hE (Nat.zero_le _) (Nat.zero_le _) d_M_two_132 ?_
    exact ⟨by unfold cd_two cd_bI; (repeat' split) <;> first | rfl | contradiction | (exfalso; simp_all; done) | (exfalso; simp only [Int32.lt_iff_toInt_lt, Int32.le_iff_toInt_le] at *; omega), rfl, rfl⟩
  · refine r_k hO d_M_two_125 ?_
    refine r_goto hO d_M_two_126 ?_
    refine r_iret hO hE (Nat.zero_le _) (Nat.zero_le _) d_M_two_132 ?_
    exact ⟨by unfold cd_two cd_bI; (repeat' split) <;> first | rfl | contradiction | (exfalso; simp_all; done) | (exfalso; simp only [Int32.lt_iff_toInt_lt, Int32.le_iff_toInt_le] at *; omega), rfl, rfl⟩
theorem d_M_isSheet_0 : cd_D_iload b_M_isSheet 0 0 1 := Or.inr ⟨0, ⟨by decide +kernel, rfl⟩, rfl⟩
theorem d_M_isSheet_1 : cd_Dk b_M_isSheet 1 (nI 0) 2 := Or.inl ⟨0, ⟨by decide +kernel, rfl⟩, by decide +kernel⟩
theorem d_M_isSheet_2 : cd_Dk b_M_isSheet 2 (nI 3) 3 := Or.inl ⟨3, ⟨by decide +kernel, rfl⟩, by decide +kernel⟩
theorem d_M_isSheet_3 : cd_D 3 b_M_isSheet 3 (.invokestatic 75) 6 := ⟨by decide +kernel, rfl⟩
theorem d_M_isSheet_6 : cd_D 1 b_M_isSheet 6 .ireturn 7 := ⟨by decide +kernel, rfl⟩
theorem c_M_isSheet {l : Launch} {w : cd_WT} {S : cd_Sp} {I : cd_Mem} (v : Int32) : cd_C l w m_M_isSheet 1 0 0 [.int v] S I (cd_Fi S (cd_bI (nI 0 ≤ v ∧ v ≤ nI 3)) I) := by
  refine cd_intro (by decide) (by simp [Value.category]) (Nat.le_of_ble_eq_true rfl) ?_
  intro X hO hE
  show cd_J w X 0 0 S I 0 [some (.int v)] []
  refine r_iload hO d_M_isSheet_0 rfl ?_
  refine r_k hO d_M_isSheet_1 ?_
  refine r_k hO d_M_isSheet_2 ?_
  refine r_cS3fi hO hE (c_M_in _ _ _) mf_M_in lk_M_75 (by decide) rfl (Nat.le_of_ble_eq_true rfl) d_M_isSheet_3 (Nat.zero_le _) (Nat.zero_le _) ?_
  refine r_zret hO hE (by unfold cd_bI; split; exact Or.inr rfl; exact Or.inl rfl) (Nat.zero_le _) (Nat.zero_le _) d_M_isSheet_6 ?_
  exact ⟨rfl, rfl, rfl⟩
theorem d_M_isSlot_0 : cd_D_iload b_M_isSlot 0 0 1 := Or.inr ⟨0, ⟨by decide +kernel, rfl⟩, rfl⟩
theorem d_M_isSlot_1 : cd_Dk b_M_isSlot 1 (nI 0) 2 := Or.inl ⟨0, ⟨by decide +kernel, rfl⟩, by decide +kernel⟩
theorem d_M_isSlot_2 : cd_Dk b_M_isSlot 2 (nI 4) 3 := Or.inl ⟨4, ⟨by decide +kernel, rfl⟩, by decide +kernel⟩
theorem d_M_isSlot_3 : cd_D 3 b_M_isSlot 3 (.invokestatic 75) 6 := ⟨by decide +kernel, rfl⟩
theorem d_M_isSlot_6 : cd_D 1 b_M_isSlot 6 .ireturn 7 := ⟨by decide +kernel, rfl⟩
theorem c_M_isSlot {l : Launch} {w : cd_WT} {S : cd_Sp} {I : cd_Mem} (v : Int32) : cd_C l w m_M_isSlot 1 0 0 [.int v] S I (cd_Fi S (cd_bI (nI 0 ≤ v ∧ v ≤ nI 4)) I) := by
  refine cd_intro (by decide) (by simp [Value.category]) (Nat.le_of_ble_eq_true rfl) ?_
  intro X hO hE
  show cd_J w X 0 0 S I 0 [some (.int v)] []
  refine r_iload hO d_M_isSlot_0 rfl ?_
  refine r_k hO d_M_isSlot_1 ?_
  refine r_k hO d_M_isSlot_2 ?_
  refine r_cS3fi hO hE (c_M_in _ _ _) mf_M_in lk_M_75 (by decide) rfl (Nat.le_of_ble_eq_true rfl) d_M_isSlot_3 (Nat.zero_le _) (Nat.zero_le _) ?_
  refine r_zret hO hE (by unfold cd_bI; split; exact Or.inr rfl; exact Or.inl rfl) (Nat.zero_le _) (Nat.zero_le _) d_M_isSlot_6 ?_
  exact ⟨rfl, rfl, rfl⟩
theorem d_M_counts_0 : cd_D_aload b_M_counts 0 0 1 := Or.inr ⟨0, ⟨by decide +kernel, rfl⟩, rfl⟩
theorem d_M_counts_1 : cd_D 3 b_M_counts 1 (.getfield 9) 4 := ⟨by decide +kernel, rfl⟩
theorem d_M_counts_4 : cd_Dk b_M_counts 4 (nI 15) 6 := Or.inr (Or.inl ⟨15, ⟨by decide +kernel, rfl⟩, by decide +kernel⟩)
theorem d_M_counts_6 : cd_D 1 b_M_counts 6 .iaload 7 := ⟨by decide +kernel, rfl⟩
theorem d_M_counts_7 : cd_Dk b_M_counts 7 (nI 1) 8 := Or.inl ⟨1, ⟨by decide +kernel, rfl⟩, by decide +kernel⟩
theorem d_M_counts_8 : cd_D 1 b_M_counts 8 .isub 9 := ⟨by decide +kernel, rfl⟩
theorem d_M_counts_9 : cd_D_istore b_M_counts 9 2 10 := Or.inr ⟨2, ⟨by decide +kernel, rfl⟩, rfl⟩
theorem d_M_counts_10 : cd_D_iload b_M_counts 10 2 11 := Or.inr ⟨2, ⟨by decide +kernel, rfl⟩, rfl⟩
theorem d_M_counts_11 : cd_D_if_lt b_M_counts 11 41 14 := ⟨30, by decide +kernel, by decide, rfl⟩
theorem d_M_counts_14 : cd_D_aload b_M_counts 14 0 15 := Or.inr ⟨0, ⟨by decide +kernel, rfl⟩, rfl⟩
theorem d_M_counts_15 : cd_D 3 b_M_counts 15 (.getfield 9) 18 := ⟨by decide +kernel, rfl⟩
theorem d_M_counts_18 : cd_Dk b_M_counts 18 (nI 76) 20 := Or.inr (Or.inl ⟨76, ⟨by decide +kernel, rfl⟩, by decide +kernel⟩)
theorem d_M_counts_20 : cd_Dk b_M_counts 20 (nI 2) 21 := Or.inl ⟨2, ⟨by decide +kernel, rfl⟩, by decide +kernel⟩
theorem d_M_counts_21 : cd_D_iload b_M_counts 21 2 22 := Or.inr ⟨2, ⟨by decide +kernel, rfl⟩, rfl⟩
theorem d_M_counts_22 : cd_D 1 b_M_counts 22 .imul 23 := ⟨by decide +kernel, rfl⟩
theorem d_M_counts_23 : cd_D 1 b_M_counts 23 .iadd 24 := ⟨by decide +kernel, rfl⟩
theorem d_M_counts_24 : cd_D 1 b_M_counts 24 .iaload 25 := ⟨by decide +kernel, rfl⟩
theorem d_M_counts_25 : cd_Dk b_M_counts 25 (nI 1000) 28 := Or.inr (Or.inr ⟨1000, ⟨by decide +kernel, rfl⟩, by decide +kernel⟩)
theorem d_M_counts_28 : cd_D 1 b_M_counts 28 .idiv 29 := ⟨by decide +kernel, rfl⟩
theorem d_M_counts_29 : cd_D_iload b_M_counts 29 1 30 := Or.inr ⟨1, ⟨by decide +kernel, rfl⟩, rfl⟩
theorem d_M_counts_30 : cd_D_icmp_ne b_M_counts 30 35 33 := ⟨5, by decide +kernel, by decide, rfl⟩
theorem d_M_counts_33 : cd_D_iload b_M_counts 33 2 34 := Or.inr ⟨2, ⟨by decide +kernel, rfl⟩, rfl⟩
theorem d_M_counts_34 : cd_D 1 b_M_counts 34 .ireturn 35 := ⟨by decide +kernel, rfl⟩
theorem d_M_counts_35 : cd_D 3 b_M_counts 35 (.iinc 2 (-1)) 38 := ⟨by decide +kernel, rfl⟩
theorem d_M_counts_38 : cd_D_goto b_M_counts 38 10 := ⟨-28, by decide +kernel, by decide⟩
theorem d_M_counts_41 : cd_Dk b_M_counts 41 (-1) 42 := Or.inl ⟨-1, ⟨by decide +kernel, rfl⟩, by decide +kernel⟩
theorem d_M_counts_42 : cd_D 1 b_M_counts 42 .ireturn 43 := ⟨by decide +kernel, rfl⟩
theorem c_M_counts {l : Launch} {w : cd_WT} {S : cd_Sp} {I : cd_Mem} {m : Nat} (hM : cd_MO w S m) (tc : Nat) (hN : I (m + 1) 15 = nI tc) (ht : tc ≤ 14) (key : Int32) : cd_C l w m_M_counts 0 0 0 [.ref m, .int key] S I (cd_Fi S (cd_cnt (I (m + 1)) key tc) I) := by
  refine cd_intro (by decide) (by simp [Value.category]) (Nat.le_of_ble_eq_true rfl) ?_
  intro X hO hE
  show cd_J w X 0 0 S I 0 [some (.ref m), some (.int key), none] []
  have loop : ∀ j, j ≤ tc → cd_cnt (I (m + 1)) key j = cd_cnt (I (m + 1)) key tc → cd_J w X 0 0 S I 10 [some (.ref m), some (.int key), some (.int (nI j - nI 1))] [] := by
    intro j
    induction j with
    | zero =>
      intro _ hV
      refine r_iload hO d_M_counts_10 rfl ?_
      refine r_if_lt hO d_M_counts_11 (fun c_11 => ?_) (fun c_11 => ?_)
      · refine r_k hO d_M_counts_41 ?_
        refine r_iret hO hE (Nat.zero_le _) (Nat.zero_le _) d_M_counts_42 ?_
        exact ⟨by rw [← hV]; rfl, rfl, rfl⟩
      · exact absurd (by decide) c_11
    | succ j ih =>
      intro hj hV
      rw [show nI (j + 1) - nI 1 = nI j from nI_pred j]
      refine r_iload hO d_M_counts_10 rfl ?_
      refine r_if_lt hO d_M_counts_11 (fun c_11 => ?_) (fun c_11 => ?_)
      · exact absurd c_11 (nI_pos (by omega))
      · refine r_aload hO d_M_counts_14 rfl ?_
        refine r_getR hO f_M_9 rfl hM.2.1 (mo_r1 hM) d_M_counts_15 ?_
        refine r_k hO d_M_counts_18 ?_
        refine r_k hO d_M_counts_20 ?_
        refine r_iload hO d_M_counts_21 rfl ?_
        refine r_imulN hO d_M_counts_22 ?_
        refine r_iaddN hO d_M_counts_23 ?_
        refine r_iald hO (mo_s1 hM) (by omega) (by decide) d_M_counts_24 ?_
        refine r_k hO d_M_counts_25 ?_
        refine r_idiv hO d_M_counts_28 (by decide) ?_
        refine r_iload hO d_M_counts_29 rfl ?_
        refine r_icmp_ne hO d_M_counts_30 (fun c_30 => ?_) (fun c_30 => ?_)
        · refine r_inc2 hO d_M_counts_35 (show nI j + Int32.ofInt (-1) = nI j - nI 1 by rw [Int32.sub_eq_add_neg]; rfl) rfl ?_
          refine r_goto hO d_M_counts_38 ?_
          exact ih (by omega) (by rw [← hV]; exact (show cd_cnt (I (m + 1)) key (j + 1) = cd_cnt (I (m + 1)) key j from if_neg c_30).symm)
        · refine r_iload hO d_M_counts_33 rfl ?_
          refine r_iret hO hE (Nat.zero_le _) (Nat.zero_le _) d_M_counts_34 ?_
          exact ⟨by rw [← hV]; unfold cd_cnt; rw [if_pos c_30], rfl, rfl⟩
  refine r_aload hO d_M_counts_0 rfl ?_
  refine r_getR hO f_M_9 rfl hM.2.1 (mo_r1 hM) d_M_counts_1 ?_
  refine r_k hO d_M_counts_4 ?_
  refine r_iald hO (mo_s1 hM) (by omega) (by decide) d_M_counts_6 ?_
  refine r_tops hN ?_
  refine r_k hO d_M_counts_7 ?_
  refine r_isub hO d_M_counts_8 ?_
  refine r_sI2 hO d_M_counts_9 rfl ?_
  exact loop tc (Nat.le_refl _) rfl
end
section
theorem cd_dep_le (nt : Int32) (c : Nat → Int32) (k : Nat) : cd_dep nt c k ≤ k := by
  induction k with
  | zero => exact Nat.le_refl _
  | succ k ih =>
    unfold cd_dep
    split
    · split <;> omega
    · omega
theorem d_M_worksOut_0 : cd_Dk b_M_worksOut 0 (nI 0) 1 := Or.inl ⟨0, ⟨by decide +kernel, rfl⟩, by decide +kernel⟩
theorem d_M_worksOut_1 : cd_D_istore b_M_worksOut 1 2 2 := Or.inr ⟨2, ⟨by decide +kernel, rfl⟩, rfl⟩
theorem d_M_worksOut_2 : cd_D_aload b_M_worksOut 2 0 3 := Or.inr ⟨0, ⟨by decide +kernel, rfl⟩, rfl⟩
theorem d_M_worksOut_3 : cd_D 3 b_M_worksOut 3 (.getfield 9) 6 := ⟨by decide +kernel, rfl⟩
theorem d_M_worksOut_6 : cd_Dk b_M_worksOut 6 (nI 76) 8 := Or.inr (Or.inl ⟨76, ⟨by decide +kernel, rfl⟩, by decide +kernel⟩)
theorem d_M_worksOut_8 : cd_Dk b_M_worksOut 8 (nI 2) 9 := Or.inl ⟨2, ⟨by decide +kernel, rfl⟩, by decide +kernel⟩
theorem d_M_worksOut_9 : cd_D_iload b_M_worksOut 9 1 10 := Or.inr ⟨1, ⟨by decide +kernel, rfl⟩, rfl⟩
theorem d_M_worksOut_10 : cd_D 1 b_M_worksOut 10 .imul 11 := ⟨by decide +kernel, rfl⟩
theorem d_M_worksOut_11 : cd_D 1 b_M_worksOut 11 .iadd 12 := ⟨by decide +kernel, rfl⟩
theorem d_M_worksOut_12 : cd_D 1 b_M_worksOut 12 .iaload 13 := ⟨by decide +kernel, rfl⟩
theorem d_M_worksOut_13 : cd_Dk b_M_worksOut 13 (nI 1000) 16 := Or.inr (Or.inr ⟨1000, ⟨by decide +kernel, rfl⟩, by decide +kernel⟩)
theorem d_M_worksOut_16 : cd_D 1 b_M_worksOut 16 .irem 17 := ⟨by decide +kernel, rfl⟩
theorem d_M_worksOut_17 : cd_D_istore b_M_worksOut 17 3 18 := Or.inr ⟨3, ⟨by decide +kernel, rfl⟩, rfl⟩
theorem d_M_worksOut_18 : cd_Dk b_M_worksOut 18 (nI 0) 19 := Or.inl ⟨0, ⟨by decide +kernel, rfl⟩, by decide +kernel⟩
theorem d_M_worksOut_19 : cd_D_istore b_M_worksOut 19 4 21 := Or.inl ⟨by decide +kernel, rfl⟩
theorem d_M_worksOut_21 : cd_D_iload b_M_worksOut 21 4 23 := Or.inl ⟨by decide +kernel, rfl⟩
theorem d_M_worksOut_23 : cd_D_iload b_M_worksOut 23 3 24 := Or.inr ⟨3, ⟨by decide +kernel, rfl⟩, rfl⟩
theorem d_M_worksOut_24 : cd_D_icmp_ge b_M_worksOut 24 155 27 := ⟨131, by decide +kernel, by decide, rfl⟩
theorem d_M_worksOut_27 : cd_D_aload b_M_worksOut 27 0 28 := Or.inr ⟨0, ⟨by decide +kernel, rfl⟩, rfl⟩
theorem d_M_worksOut_28 : cd_D 3 b_M_worksOut 28 (.getfield 9) 31 := ⟨by decide +kernel, rfl⟩
theorem d_M_worksOut_31 : cd_Dk b_M_worksOut 31 (nI 104) 33 := Or.inr (Or.inl ⟨104, ⟨by decide +kernel, rfl⟩, by decide +kernel⟩)
theorem d_M_worksOut_33 : cd_Dk b_M_worksOut 33 (nI 96) 35 := Or.inr (Or.inl ⟨96, ⟨by decide +kernel, rfl⟩, by decide +kernel⟩)
theorem d_M_worksOut_35 : cd_D_iload b_M_worksOut 35 1 36 := Or.inr ⟨1, ⟨by decide +kernel, rfl⟩, rfl⟩
theorem d_M_worksOut_36 : cd_D 1 b_M_worksOut 36 .imul 37 := ⟨by decide +kernel, rfl⟩
theorem d_M_worksOut_37 : cd_D 1 b_M_worksOut 37 .iadd 38 := ⟨by decide +kernel, rfl⟩
theorem d_M_worksOut_38 : cd_D_iload b_M_worksOut 38 4 40 := Or.inl ⟨by decide +kernel, rfl⟩
theorem d_M_worksOut_40 : cd_D 1 b_M_worksOut 40 .iadd 41 := ⟨by decide +kernel, rfl⟩
theorem d_M_worksOut_41 : cd_D 1 b_M_worksOut 41 .iaload 42 := ⟨by decide +kernel, rfl⟩
theorem d_M_worksOut_42 : cd_D_istore b_M_worksOut 42 5 44 := Or.inl ⟨by decide +kernel, rfl⟩
theorem d_M_worksOut_44 : cd_D_iload b_M_worksOut 44 5 46 := Or.inl ⟨by decide +kernel, rfl⟩
theorem d_M_worksOut_46 : cd_D_if_lt b_M_worksOut 46 85 49 := ⟨39, by decide +kernel, by decide, rfl⟩
theorem d_M_worksOut_49 : cd_D_aload b_M_worksOut 49 0 50 := Or.inr ⟨0, ⟨by decide +kernel, rfl⟩, rfl⟩
theorem d_M_worksOut_50 : cd_D 3 b_M_worksOut 50 (.getfield 42) 53 := ⟨by decide +kernel, rfl⟩
theorem d_M_worksOut_53 : cd_D_iload b_M_worksOut 53 2 54 := Or.inr ⟨2, ⟨by decide +kernel, rfl⟩, rfl⟩
theorem d_M_worksOut_54 : cd_D_iload b_M_worksOut 54 5 56 := Or.inl ⟨by decide +kernel, rfl⟩
theorem d_M_worksOut_56 : cd_Dk b_M_worksOut 56 (nI 10000) 59 := Or.inr (Or.inr ⟨10000, ⟨by decide +kernel, rfl⟩, by decide +kernel⟩)
theorem d_M_worksOut_59 : cd_D_icmp_ge b_M_worksOut 59 67 62 := ⟨8, by decide +kernel, by decide, rfl⟩
theorem d_M_worksOut_62 : cd_D_iload b_M_worksOut 62 5 64 := Or.inl ⟨by decide +kernel, rfl⟩
theorem d_M_worksOut_64 : cd_D_goto b_M_worksOut 64 78 := ⟨14, by decide +kernel, by decide⟩
theorem d_M_worksOut_67 : cd_D_aload b_M_worksOut 67 0 68 := Or.inr ⟨0, ⟨by decide +kernel, rfl⟩, rfl⟩
theorem d_M_worksOut_68 : cd_D 3 b_M_worksOut 68 (.getfield 45) 71 := ⟨by decide +kernel, rfl⟩
theorem d_M_worksOut_71 : cd_D_iload b_M_worksOut 71 5 73 := Or.inl ⟨by decide +kernel, rfl⟩
theorem d_M_worksOut_73 : cd_Dk b_M_worksOut 73 (nI 10000) 76 := Or.inr (Or.inr ⟨10000, ⟨by decide +kernel, rfl⟩, by decide +kernel⟩)
theorem d_M_worksOut_76 : cd_D 1 b_M_worksOut 76 .isub 77 := ⟨by decide +kernel, rfl⟩
theorem d_M_worksOut_77 : cd_D 1 b_M_worksOut 77 .iaload 78 := ⟨by decide +kernel, rfl⟩
theorem d_M_worksOut_78 : cd_D 1 b_M_worksOut 78 .iastore 79 := ⟨by decide +kernel, rfl⟩
theorem d_M_worksOut_79 : cd_D 3 b_M_worksOut 79 (.iinc 2 (1)) 82 := ⟨by decide +kernel, rfl⟩
theorem d_M_worksOut_82 : cd_D_goto b_M_worksOut 82 149 := ⟨67, by decide +kernel, by decide⟩
theorem d_M_worksOut_85 : cd_D_iload b_M_worksOut 85 5 87 := Or.inl ⟨by decide +kernel, rfl⟩
theorem d_M_worksOut_87 : cd_Dk b_M_worksOut 87 (-10) 89 := Or.inr (Or.inl ⟨-10, ⟨by decide +kernel, rfl⟩, by decide +kernel⟩)
theorem d_M_worksOut_89 : cd_D_icmp_ne b_M_worksOut 89 119 92 := ⟨30, by decide +kernel, by decide, rfl⟩
theorem d_M_worksOut_92 : cd_D_aload b_M_worksOut 92 0 93 := Or.inr ⟨0, ⟨by decide +kernel, rfl⟩, rfl⟩
theorem d_M_worksOut_93 : cd_D 3 b_M_worksOut 93 (.getfield 42) 96 := ⟨by decide +kernel, rfl⟩
theorem d_M_worksOut_96 : cd_D_iload b_M_worksOut 96 2 97 := Or.inr ⟨2, ⟨by decide +kernel, rfl⟩, rfl⟩
theorem d_M_worksOut_97 : cd_Dk b_M_worksOut 97 (nI 1) 98 := Or.inl ⟨1, ⟨by decide +kernel, rfl⟩, by decide +kernel⟩
theorem d_M_worksOut_98 : cd_D 1 b_M_worksOut 98 .isub 99 := ⟨by decide +kernel, rfl⟩
theorem d_M_worksOut_99 : cd_D_aload b_M_worksOut 99 0 100 := Or.inr ⟨0, ⟨by decide +kernel, rfl⟩, rfl⟩
theorem d_M_worksOut_100 : cd_D 3 b_M_worksOut 100 (.getfield 42) 103 := ⟨by decide +kernel, rfl⟩
theorem d_M_worksOut_103 : cd_D_iload b_M_worksOut 103 2 104 := Or.inr ⟨2, ⟨by decide +kernel, rfl⟩, rfl⟩
theorem d_M_worksOut_104 : cd_Dk b_M_worksOut 104 (nI 1) 105 := Or.inl ⟨1, ⟨by decide +kernel, rfl⟩, by decide +kernel⟩
theorem d_M_worksOut_105 : cd_D 1 b_M_worksOut 105 .isub 106 := ⟨by decide +kernel, rfl⟩
theorem d_M_worksOut_106 : cd_D 1 b_M_worksOut 106 .iaload 107 := ⟨by decide +kernel, rfl⟩
theorem d_M_worksOut_107 : cd_D_if_ne b_M_worksOut 107 114 110 := ⟨7, by decide +kernel, by decide, rfl⟩
theorem d_M_worksOut_110 : cd_Dk b_M_worksOut 110 (nI 1) 111 := Or.inl ⟨1, ⟨by decide +kernel, rfl⟩, by decide +kernel⟩
theorem d_M_worksOut_111 : cd_D_goto b_M_worksOut 111 115 := ⟨4, by decide +kernel, by decide⟩
theorem d_M_worksOut_114 : cd_Dk b_M_worksOut 114 (nI 0) 115 := Or.inl ⟨0, ⟨by decide +kernel, rfl⟩, by decide +kernel⟩
theorem d_M_worksOut_115 : cd_D 1 b_M_worksOut 115 .iastore 116 := ⟨by decide +kernel, rfl⟩
theorem d_M_worksOut_116 : cd_D_goto b_M_worksOut 116 149 := ⟨33, by decide +kernel, by decide⟩
theorem d_M_worksOut_119 : cd_D 3 b_M_worksOut 119 (.iinc 2 (-1)) 122 := ⟨by decide +kernel, rfl⟩
theorem d_M_worksOut_122 : cd_D_aload b_M_worksOut 122 0 123 := Or.inr ⟨0, ⟨by decide +kernel, rfl⟩, rfl⟩
theorem d_M_worksOut_123 : cd_D 3 b_M_worksOut 123 (.getfield 42) 126 := ⟨by decide +kernel, rfl⟩
theorem d_M_worksOut_126 : cd_D_iload b_M_worksOut 126 2 127 := Or.inr ⟨2, ⟨by decide +kernel, rfl⟩, rfl⟩
theorem d_M_worksOut_127 : cd_Dk b_M_worksOut 127 (nI 1) 128 := Or.inl ⟨1, ⟨by decide +kernel, rfl⟩, by decide +kernel⟩
theorem d_M_worksOut_128 : cd_D 1 b_M_worksOut 128 .isub 129 := ⟨by decide +kernel, rfl⟩
theorem d_M_worksOut_129 : cd_D_iload b_M_worksOut 129 5 131 := Or.inl ⟨by decide +kernel, rfl⟩
theorem d_M_worksOut_131 : cd_D_aload b_M_worksOut 131 0 132 := Or.inr ⟨0, ⟨by decide +kernel, rfl⟩, rfl⟩
theorem d_M_worksOut_132 : cd_D 3 b_M_worksOut 132 (.getfield 42) 135 := ⟨by decide +kernel, rfl⟩
theorem d_M_worksOut_135 : cd_D_iload b_M_worksOut 135 2 136 := Or.inr ⟨2, ⟨by decide +kernel, rfl⟩, rfl⟩
theorem d_M_worksOut_136 : cd_Dk b_M_worksOut 136 (nI 1) 137 := Or.inl ⟨1, ⟨by decide +kernel, rfl⟩, by decide +kernel⟩
theorem d_M_worksOut_137 : cd_D 1 b_M_worksOut 137 .isub 138 := ⟨by decide +kernel, rfl⟩
theorem d_M_worksOut_138 : cd_D 1 b_M_worksOut 138 .iaload 139 := ⟨by decide +kernel, rfl⟩
theorem d_M_worksOut_139 : cd_D_aload b_M_worksOut 139 0 140 := Or.inr ⟨0, ⟨by decide +kernel, rfl⟩, rfl⟩
theorem d_M_worksOut_140 : cd_D 3 b_M_worksOut 140 (.getfield 42) 143 := ⟨by decide +kernel, rfl⟩
theorem d_M_worksOut_143 : cd_D_iload b_M_worksOut 143 2 144 := Or.inr ⟨2, ⟨by decide +kernel, rfl⟩, rfl⟩
theorem d_M_worksOut_144 : cd_D 1 b_M_worksOut 144 .iaload 145 := ⟨by decide +kernel, rfl⟩
theorem d_M_worksOut_145 : cd_D 3 b_M_worksOut 145 (.invokestatic 256) 148 := ⟨by decide +kernel, rfl⟩
theorem d_M_worksOut_148 : cd_D 1 b_M_worksOut 148 .iastore 149 := ⟨by decide +kernel, rfl⟩
theorem d_M_worksOut_149 : cd_D 3 b_M_worksOut 149 (.iinc 4 (1)) 152 := ⟨by decide +kernel, rfl⟩
theorem d_M_worksOut_152 : cd_D_goto b_M_worksOut 152 21 := ⟨-131, by decide +kernel, by decide⟩
theorem d_M_worksOut_155 : cd_D_aload b_M_worksOut 155 0 156 := Or.inr ⟨0, ⟨by decide +kernel, rfl⟩, rfl⟩
theorem d_M_worksOut_156 : cd_D 3 b_M_worksOut 156 (.getfield 42) 159 := ⟨by decide +kernel, rfl⟩
theorem d_M_worksOut_159 : cd_Dk b_M_worksOut 159 (nI 0) 160 := Or.inl ⟨0, ⟨by decide +kernel, rfl⟩, by decide +kernel⟩
theorem d_M_worksOut_160 : cd_D 1 b_M_worksOut 160 .iaload 161 := ⟨by decide +kernel, rfl⟩
theorem d_M_worksOut_161 : cd_D 1 b_M_worksOut 161 .ireturn 162 := ⟨by decide +kernel, rfl⟩
theorem c_M_worksOut {l : Launch} {w : cd_WT} {S : cd_Sp} {I : cd_Mem} {m : Nat} (hM : cd_MO w S m) (t n nb : Nat) (ht : t < 14) (fa : Nat → Int32) (hn : cd_rem (I (m + 1) (76 + 2 * t)) (nI 1000) = nI n) (hn9 : n ≤ 96) (hnb : nb ≤ 4) (hwf : cd_wf (-10) (fun k => I (m + 1) (104 + 96 * t + k)) n nb) (hd1 : 1 ≤ cd_dep (-10) (fun k => I (m + 1) (104 + 96 * t + k)) n) (hfa : ∀ j, j < nb → I (m + 12) j = fa j) : cd_C l w m_M_worksOut 1 0 0 [.ref m, .int (nI t)] S I (cd_Pi S (fun x I' => x = (cd_es cd_two (-10) fa (fun k => I (m + 1) (104 + 96 * t + k)) n).2 0 ∧ cd_off I I' [m + 11])) := by
  refine cd_intro (by decide) (by simp [Value.category]) (Nat.le_of_ble_eq_true rfl) ?_
  intro X hO hE
  show cd_J w X 0 0 S I 0 [some (.ref m), some (.int (nI t)), none, none, none, none] []
  have loop : ∀ (r k tp : Nat) (sv st : Nat → Int32) (x5 : Option Value), k + r = n → cd_es cd_two (-10) fa (fun k => I (m + 1) (104 + 96 * t + k)) k = (tp, sv) → (∀ j, j < tp → st j = sv j) → cd_J w X 0 0 S (cd_set I (m + 11) st) 21 [some (.ref m), some (.int (nI t)), some (.int (nI tp)), some (.int (nI n)), some (.int (nI k)), x5] [] := by
    intro r
    induction r with
    | zero =>
      intro k tp sv st x5 hk hz hst
      have hkn : k = n := by omega
      subst hkn
      have hdep : tp = cd_dep (-10) (fun k => I (m + 1) (104 + 96 * t + k)) k := by rw [← cd_es_dep cd_two (-10) fa, hz]
      refine r_iload hO d_M_worksOut_21 rfl ?_
      refine r_iload hO d_M_worksOut_23 rfl ?_
      refine r_icmp_ge hO d_M_worksOut_24 (fun c_24 => ?_) (fun c_24 => ?_)
      · refine r_aload hO d_M_worksOut_155 rfl ?_
        refine r_getR hO f_M_42 rfl hM.2.1 (mo_r11 hM) d_M_worksOut_156 ?_
        refine r_k hO d_M_worksOut_159 ?_
        refine r_iald hO (mo_s11 hM) (by omega) (by decide) d_M_worksOut_160 ?_
        refine r_iret hO hE (Nat.zero_le _) (Nat.zero_le _) d_M_worksOut_161 ?_
        exact ⟨_, rfl, rfl, by rw [cd_set_eq, hz]; exact hst 0 (by omega), cd_off.set _ _ (by simp)⟩
      · exact absurd (nI_le (Nat.le_refl _) (by omega)) c_24
    | succ r ih =>
      intro k tp sv st x5 hk hz hst
      have hdep : tp = cd_dep (-10) (fun k => I (m + 1) (104 + 96 * t + k)) k := by rw [← cd_es_dep cd_two (-10) fa, hz]
      obtain ⟨hw1, hw2, hw3⟩ := hwf k (by omega)
      rw [← hdep] at hw1 hw2 hw3
      have htp : tp ≤ k := by rw [hdep]; exact cd_dep_le _ _ _
      refine r_iload hO d_M_worksOut_21 rfl ?_
      refine r_iload hO d_M_worksOut_23 rfl ?_
      refine r_icmp_ge hO d_M_worksOut_24 (fun c_24 => ?_) (fun c_24 => ?_)
      · exact absurd c_24 (nI_ge (by omega) (by omega))
      · refine r_aload hO d_M_worksOut_27 rfl ?_
        refine r_getR hO f_M_9 rfl hM.2.1 (mo_r1 hM) d_M_worksOut_28 ?_
        refine r_k hO d_M_worksOut_31 ?_
        refine r_k hO d_M_worksOut_33 ?_
        refine r_iload hO d_M_worksOut_35 rfl ?_
        refine r_imulN hO d_M_worksOut_36 ?_
        refine r_iaddN hO d_M_worksOut_37 ?_
        refine r_iload hO d_M_worksOut_38 rfl ?_
        refine r_iaddN hO d_M_worksOut_40 ?_
        refine r_iald hO (mo_s1 hM) (by omega) (by decide) d_M_worksOut_41 ?_
        simp (disch := omega) only [cd_set_eq, cd_set_ne, cd_set_set]
        refine r_sI5 hO d_M_worksOut_42 rfl ?_
        refine r_iload hO d_M_worksOut_44 rfl ?_
        refine r_if_lt hO d_M_worksOut_46 (fun c_46 => ?_) (fun c_46 => ?_)
        · have hw0 := c_46
          refine r_iload hO d_M_worksOut_85 rfl ?_
          refine r_k hO d_M_worksOut_87 ?_
          refine r_icmp_ne hO d_M_worksOut_89 (fun c_89 => ?_) (fun c_89 => ?_)
          · have hw3 := hw3 hw0 c_89
            refine r_inc2 hO d_M_worksOut_119 (show nI tp + Int32.ofInt (-1) = nI (tp - 1) from sb_m1 (by omega)) rfl ?_
            refine r_aload hO d_M_worksOut_122 rfl ?_
            refine r_getR hO f_M_42 rfl hM.2.1 (mo_r11 hM) d_M_worksOut_123 ?_
            refine r_iload hO d_M_worksOut_126 rfl ?_
            refine r_k hO d_M_worksOut_127 ?_
            refine r_isubN hO d_M_worksOut_128 (by omega) ?_
            refine r_iload hO d_M_worksOut_129 rfl ?_
            refine r_aload hO d_M_worksOut_131 rfl ?_
            refine r_getR hO f_M_42 rfl hM.2.1 (mo_r11 hM) d_M_worksOut_132 ?_
            refine r_iload hO d_M_worksOut_135 rfl ?_
            refine r_k hO d_M_worksOut_136 ?_
            refine r_isubN hO d_M_worksOut_137 (by omega) ?_
            refine r_iald hO (mo_s11 hM) (by omega) (by decide) d_M_worksOut_138 ?_
            simp (disch := omega) only [cd_set_eq, cd_set_ne, cd_set_set]
            refine r_aload hO d_M_worksOut_139 rfl ?_
            refine r_getR hO f_M_42 rfl hM.2.1 (mo_r11 hM) d_M_worksOut_140 ?_
            refine r_iload hO d_M_worksOut_143 rfl ?_
            refine r_iald hO (mo_s11 hM) (by omega) (by decide) d_M_worksOut_144 ?_
            simp (disch := omega) only [cd_set_eq, cd_set_ne, cd_set_set]
            refine r_cS3fi hO hE (c_M_two _ _ _) mf_M_two lk_M_256 (by decide) rfl (Nat.le_of_ble_eq_true rfl) d_M_worksOut_145 (Nat.zero_le _) (Nat.zero_le _) ?_
            refine r_iast hO (mo_s11 hM) (mo_l11 hM) (by omega) (by decide) d_M_worksOut_148 ?_
            simp (disch := omega) only [cd_set_eq, cd_set_ne, cd_set_set]
            refine r_incN4 hO d_M_worksOut_149 rfl ?_
            refine r_goto hO d_M_worksOut_152 ?_
            refine ih (k + 1) (tp - 1) (upd sv (tp - 1 - 1) (cd_two (I (m + 1) (104 + 96 * t + k)) (sv (tp - 1 - 1)) (sv (tp - 1)))) _ _ (by omega) (by simp only [cd_es, hz, hw0, c_89, if_true, if_false]) (fun j hj => ?_)
            rw [hst (tp - 1 - 1) (by omega), hst (tp - 1) (by omega)]
            by_cases hjt : j = tp - 1 - 1
            · subst hjt; simp only [upd, if_true]
            · simp only [upd, hjt, if_false]; exact hst j (by omega)
          · have hw2 := hw2 c_89
            refine r_aload hO d_M_worksOut_92 rfl ?_
            refine r_getR hO f_M_42 rfl hM.2.1 (mo_r11 hM) d_M_worksOut_93 ?_
            refine r_iload hO d_M_worksOut_96 rfl ?_
            refine r_k hO d_M_worksOut_97 ?_
            refine r_isubN hO d_M_worksOut_98 (by omega) ?_
            refine r_aload hO d_M_worksOut_99 rfl ?_
            refine r_getR hO f_M_42 rfl hM.2.1 (mo_r11 hM) d_M_worksOut_100 ?_
            refine r_iload hO d_M_worksOut_103 rfl ?_
            refine r_k hO d_M_worksOut_104 ?_
            refine r_isubN hO d_M_worksOut_105 (by omega) ?_
            refine r_iald hO (mo_s11 hM) (by omega) (by decide) d_M_worksOut_106 ?_
            simp (disch := omega) only [cd_set_eq, cd_set_ne, cd_set_set]
            refine r_if_ne hO d_M_worksOut_107 (fun c_107 => ?_) (fun c_107 => ?_)
            · refine r_k hO d_M_worksOut_114 ?_
              refine r_iast hO (mo_s11 hM) (mo_l11 hM) (by omega) (by decide) d_M_worksOut_115 ?_
              refine r_goto hO d_M_worksOut_116 ?_
              simp (disch := omega) only [cd_set_eq, cd_set_ne, cd_set_set]
              refine r_incN4 hO d_M_worksOut_149 rfl ?_
              refine r_goto hO d_M_worksOut_152 ?_
              have hs0 := hst (tp - 1) (by omega)
              refine ih (k + 1) tp (upd sv (tp - 1) (nI 0)) _ _ (by omega) (by rw [hs0] at c_107; simp only [cd_es, hz, hw0, c_89, c_107, if_true, if_false, show ((-10 : Int32) < 0) from by decide]) (fun j hj => ?_)
              by_cases hjt : j = tp - 1
              · subst hjt; simp only [upd, if_true]
              · simp only [upd, hjt, if_false]; exact hst j (by omega)
            · refine r_k hO d_M_worksOut_110 ?_
              refine r_goto hO d_M_worksOut_111 ?_
              refine r_iast hO (mo_s11 hM) (mo_l11 hM) (by omega) (by decide) d_M_worksOut_115 ?_
              refine r_goto hO d_M_worksOut_116 ?_
              simp (disch := omega) only [cd_set_eq, cd_set_ne, cd_set_set]
              refine r_incN4 hO d_M_worksOut_149 rfl ?_
              refine r_goto hO d_M_worksOut_152 ?_
              have hs0 := hst (tp - 1) (by omega)
              refine ih (k + 1) tp (upd sv (tp - 1) (nI 1)) _ _ (by omega) (by rw [hs0] at c_107; simp only [cd_es, hz, hw0, c_89, c_107, if_true, if_false, show ((-10 : Int32) < 0) from by decide]) (fun j hj => ?_)
              by_cases hjt : j = tp - 1
              · subst hjt; simp only [upd, if_true]
              · simp only [upd, hjt, if_false]; exact hst j (by omega)
        · have hw1 := hw1 c_46
          refine r_aload hO d_M_worksOut_49 rfl ?_
          refine r_getR hO f_M_42 rfl hM.2.1 (mo_r11 hM) d_M_worksOut_50 ?_
          refine r_iload hO d_M_worksOut_53 rfl ?_
          refine r_iload hO d_M_worksOut_54 rfl ?_
          refine r_k hO d_M_worksOut_56 ?_
          refine r_icmp_ge hO d_M_worksOut_59 (fun c_59 => ?_) (fun c_59 => ?_)
          · obtain ⟨j0, hj0, hcj⟩ : ∃ j, j < nb ∧ I (m + 1) (104 + 96 * t + k) = nI (10000 + j) := hw1.2.resolve_left (fun q => q c_59)
            refine r_aload hO d_M_worksOut_67 rfl ?_
            refine r_getR hO f_M_45 rfl hM.2.1 (mo_r12 hM) d_M_worksOut_68 ?_
            refine r_iload hO d_M_worksOut_71 rfl ?_
            refine r_k hO d_M_worksOut_73 ?_
            refine r_isub hO d_M_worksOut_76 ?_
            refine r_tops (show _ = nI j0 by rw [hcj, pk_sub (Nat.le_add_right _ _), Nat.add_sub_cancel_left]) ?_
            refine r_iald hO (mo_s12 hM) (by omega) (by decide) d_M_worksOut_77 ?_
            simp (disch := omega) only [cd_set_eq, cd_set_ne, cd_set_set]
            refine r_iast hO (mo_s11 hM) (mo_l11 hM) (by omega) (by decide) d_M_worksOut_78 ?_
            refine r_incN2 hO d_M_worksOut_79 rfl ?_
            refine r_goto hO d_M_worksOut_82 ?_
            simp (disch := omega) only [cd_set_eq, cd_set_ne, cd_set_set]
            refine r_incN4 hO d_M_worksOut_149 rfl ?_
            refine r_goto hO d_M_worksOut_152 ?_
            refine ih (k + 1) (tp + 1) (upd sv tp (fa j0)) _ _ (by omega) (by simp only [cd_es, hz, c_46, c_59, if_true, if_false]; rw [hcj, pk_sub (Nat.le_add_right _ _), Nat.add_sub_cancel_left]; unfold cd_tn; rw [nI_clamp (by omega)]) (fun j hj => ?_)
            by_cases hjt : j = tp
            · subst hjt; simp only [upd, if_true]; exact hfa j0 hj0
            · simp only [upd, hjt, if_false]; exact hst j (by omega)
          · refine r_iload hO d_M_worksOut_62 rfl ?_
            refine r_goto hO d_M_worksOut_64 ?_
            refine r_iast hO (mo_s11 hM) (mo_l11 hM) (by omega) (by decide) d_M_worksOut_78 ?_
            refine r_incN2 hO d_M_worksOut_79 rfl ?_
            refine r_goto hO d_M_worksOut_82 ?_
            simp (disch := omega) only [cd_set_eq, cd_set_ne, cd_set_set]
            refine r_incN4 hO d_M_worksOut_149 rfl ?_
            refine r_goto hO d_M_worksOut_152 ?_
            refine ih (k + 1) (tp + 1) (upd sv tp (I (m + 1) (104 + 96 * t + k))) _ _ (by omega) (by simp only [cd_es, hz, c_46, c_59, if_true, if_false]) (fun j hj => ?_)
            by_cases hjt : j = tp
            · subst hjt; simp only [upd, if_true]
            · simp only [upd, hjt, if_false]; exact hst j (by omega)
  have e0 : I = cd_set I (m + 11) (I (m + 11)) := (cd_set_self _ _).symm
  refine r_k hO d_M_worksOut_0 ?_
  refine r_sI2 hO d_M_worksOut_1 rfl ?_
  refine r_aload hO d_M_worksOut_2 rfl ?_
  refine r_getR hO f_M_9 rfl hM.2.1 (mo_r1 hM) d_M_worksOut_3 ?_
  refine r_k hO d_M_worksOut_6 ?_
  refine r_k hO d_M_worksOut_8 ?_
  refine r_iload hO d_M_worksOut_9 rfl ?_
  refine r_imulN hO d_M_worksOut_10 ?_
  refine r_iaddN hO d_M_worksOut_11 ?_
  refine r_iald hO (mo_s1 hM) (by omega) (by decide) d_M_worksOut_12 ?_
  refine r_k hO d_M_worksOut_13 ?_
  refine r_irem hO d_M_worksOut_16 (by decide) ?_
  refine r_tops hn ?_
  refine r_sI3 hO d_M_worksOut_17 rfl ?_
  refine r_k hO d_M_worksOut_18 ?_
  refine r_sI4 hO d_M_worksOut_19 rfl ?_
  rw [e0]
  exact loop n 0 0 (fun _ => 0) _ _ (by omega) rfl (fun j hj => by omega)
end
section
theorem cd_cnt_pos {N : Nat → Int32} {key : Int32} : ∀ {tc : Nat}, 0 ≤ cd_cnt N key tc → ∃ j, j < tc ∧ cd_cnt N key tc = nI j ∧ N (76 + 2 * j) / nI 1000 = key
  | 0, h => absurd h (by unfold cd_cnt; decide)
  | t + 1, h => by
    unfold cd_cnt at h ⊢
    by_cases hc : N (76 + 2 * t) / nI 1000 = key
    · rw [if_pos hc]
      exact ⟨t, by omega, rfl, hc⟩
    · rw [if_neg hc] at h ⊢
      obtain ⟨j, h1, h2, h3⟩ := cd_cnt_pos h
      exact ⟨j, by omega, h2, h3⟩
/-- what the text that counts is -/
theorem cd_TW.at {N : Nat → Int32} {tc t ky : Nat} (h : cd_TW N tc) (ht : t < tc) (hky : ky ≤ 2) (hk : N (76 + 2 * t) / nI 1000 = nI ky) : ∃ n, cd_rem (N (76 + 2 * t)) (nI 1000) = nI n ∧ 1 ≤ n ∧ n ≤ 96 ∧ cd_wf (-10) (fun k => N (104 + 96 * t + k)) n (cd_nb ky) ∧ cd_dep (-10) (fun k => N (104 + 96 * t + k)) n = 1 := by
  obtain ⟨ky', n, h1, h2, h3, h4, h5, h6⟩ := h t ht
  have e1 : N (76 + 2 * t) / nI 1000 = nI ky' := by
    rw [h1, pk_div (by omega) (by omega) (by omega)]
    congr 1
    omega
  have e2 : ky' = ky := (nI_eq (by omega) (by omega)).mp (e1.symm.trans hk)
  subst e2
  refine ⟨n, ?_, h3, h4, h5, h6⟩
  unfold cd_rem
  rw [h1, pk_rem (by omega) (by omega) (by omega)]
  congr 1
  omega
def cd_pl (N : Nat → Int32) (i tc : Nat) : Int32 := if 0 ≤ cd_cnt N (nI 0) tc then cd_wi (cd_wo N (cd_tn (cd_cnt N (nI 0) tc)) (N (16 + 5 * i + 2)) (N (16 + 5 * i + 3)) (N (16 + 5 * i + 4))) (nI 0) (nI 199) else N (16 + 5 * i + 2)
def cd_pw (N : Nat → Int32) (p : Int32) : Int32 := cd_wi (if N 8 = nI 1 then p - nI 20 else p) (nI 0) (nI 199)
def cd_pr (N : Nat → Int32) (i tc : Nat) : Int32 := if N (16 + 5 * i + 0) = nI 1 then cd_pl N i tc / nI 2 else if N (16 + 5 * i + 0) = nI 2 then cd_pw N (cd_pl N i tc) else if N (16 + 5 * i + 0) = nI 3 then cd_pl N i tc / nI 2 + nI 60 * N 9 else if N (16 + 5 * i + 0) = nI 4 then cd_pw N (cd_pl N i tc) + nI 30 else if N (16 + 5 * i + 0) = nI 5 then cd_pl N i tc + nI 5 else cd_pl N i tc
theorem cd_wo_eq {N : Nat → Int32} {t n : Nat} {f0 f1 f2 : Int32} (hn : cd_rem (N (76 + 2 * t)) (nI 1000) = nI n) (h9 : n ≤ 96) : cd_wo N t f0 f1 f2 = (cd_es cd_two (-10) (fun j => if j = 0 then f0 else if j = 1 then f1 else f2) (fun k => N (104 + 96 * t + k)) n).2 0 := by
  unfold cd_wo
  rw [hn]
  unfold cd_tn
  rw [nI_clamp (by omega)]
theorem d_M_pressesOf_0 : cd_D_aload b_M_pressesOf 0 0 1 := Or.inr ⟨0, ⟨by decide +kernel, rfl⟩, rfl⟩
theorem d_M_pressesOf_1 : cd_Dk b_M_pressesOf 1 (nI 0) 2 := Or.inl ⟨0, ⟨by decide +kernel, rfl⟩, by decide +kernel⟩
theorem d_M_pressesOf_2 : cd_D 3 b_M_pressesOf 2 (.invokevirtual 93) 5 := ⟨by decide +kernel, rfl⟩
theorem d_M_pressesOf_5 : cd_D_istore b_M_pressesOf 5 2 6 := Or.inr ⟨2, ⟨by decide +kernel, rfl⟩, rfl⟩
theorem d_M_pressesOf_6 : cd_D_aload b_M_pressesOf 6 0 7 := Or.inr ⟨0, ⟨by decide +kernel, rfl⟩, rfl⟩
theorem d_M_pressesOf_7 : cd_D 3 b_M_pressesOf 7 (.getfield 45) 10 := ⟨by decide +kernel, rfl⟩
theorem d_M_pressesOf_10 : cd_Dk b_M_pressesOf 10 (nI 0) 11 := Or.inl ⟨0, ⟨by decide +kernel, rfl⟩, by decide +kernel⟩
theorem d_M_pressesOf_11 : cd_D_aload b_M_pressesOf 11 0 12 := Or.inr ⟨0, ⟨by decide +kernel, rfl⟩, rfl⟩
theorem d_M_pressesOf_12 : cd_D_iload b_M_pressesOf 12 1 13 := Or.inr ⟨1, ⟨by decide +kernel, rfl⟩, rfl⟩
theorem d_M_pressesOf_13 : cd_Dk b_M_pressesOf 13 (nI 2) 14 := Or.inl ⟨2, ⟨by decide +kernel, rfl⟩, by decide +kernel⟩
theorem d_M_pressesOf_14 : cd_D 3 b_M_pressesOf 14 (.invokevirtual 97) 17 := ⟨by decide +kernel, rfl⟩
theorem d_M_pressesOf_17 : cd_D 1 b_M_pressesOf 17 .iastore 18 := ⟨by decide +kernel, rfl⟩
theorem d_M_pressesOf_18 : cd_D_aload b_M_pressesOf 18 0 19 := Or.inr ⟨0, ⟨by decide +kernel, rfl⟩, rfl⟩
theorem d_M_pressesOf_19 : cd_D 3 b_M_pressesOf 19 (.getfield 45) 22 := ⟨by decide +kernel, rfl⟩
theorem d_M_pressesOf_22 : cd_Dk b_M_pressesOf 22 (nI 1) 23 := Or.inl ⟨1, ⟨by decide +kernel, rfl⟩, by decide +kernel⟩
theorem d_M_pressesOf_23 : cd_D_aload b_M_pressesOf 23 0 24 := Or.inr ⟨0, ⟨by decide +kernel, rfl⟩, rfl⟩
theorem d_M_pressesOf_24 : cd_D_iload b_M_pressesOf 24 1 25 := Or.inr ⟨1, ⟨by decide +kernel, rfl⟩, rfl⟩
theorem d_M_pressesOf_25 : cd_Dk b_M_pressesOf 25 (nI 3) 26 := Or.inl ⟨3, ⟨by decide +kernel, rfl⟩, by decide +kernel⟩
theorem d_M_pressesOf_26 : cd_D 3 b_M_pressesOf 26 (.invokevirtual 97) 29 := ⟨by decide +kernel, rfl⟩
theorem d_M_pressesOf_29 : cd_D 1 b_M_pressesOf 29 .iastore 30 := ⟨by decide +kernel, rfl⟩
theorem d_M_pressesOf_30 : cd_D_aload b_M_pressesOf 30 0 31 := Or.inr ⟨0, ⟨by decide +kernel, rfl⟩, rfl⟩
theorem d_M_pressesOf_31 : cd_D 3 b_M_pressesOf 31 (.getfield 45) 34 := ⟨by decide +kernel, rfl⟩
theorem d_M_pressesOf_34 : cd_Dk b_M_pressesOf 34 (nI 2) 35 := Or.inl ⟨2, ⟨by decide +kernel, rfl⟩, by decide +kernel⟩
theorem d_M_pressesOf_35 : cd_D_aload b_M_pressesOf 35 0 36 := Or.inr ⟨0, ⟨by decide +kernel, rfl⟩, rfl⟩
theorem d_M_pressesOf_36 : cd_D_iload b_M_pressesOf 36 1 37 := Or.inr ⟨1, ⟨by decide +kernel, rfl⟩, rfl⟩
theorem d_M_pressesOf_37 : cd_Dk b_M_pressesOf 37 (nI 4) 38 := Or.inl ⟨4, ⟨by decide +kernel, rfl⟩, by decide +kernel⟩
theorem d_M_pressesOf_38 : cd_D 3 b_M_pressesOf 38 (.invokevirtual 97) 41 := ⟨by decide +kernel, rfl⟩
theorem d_M_pressesOf_41 : cd_D 1 b_M_pressesOf 41 .iastore 42 := ⟨by decide +kernel, rfl⟩
theorem d_M_pressesOf_42 : cd_D_iload b_M_pressesOf 42 2 43 := Or.inr ⟨2, ⟨by decide +kernel, rfl⟩, rfl⟩
theorem d_M_pressesOf_43 : cd_D_if_ge b_M_pressesOf 43 55 46 := ⟨12, by decide +kernel, by decide, rfl⟩
theorem d_M_pressesOf_46 : cd_D_aload b_M_pressesOf 46 0 47 := Or.inr ⟨0, ⟨by decide +kernel, rfl⟩, rfl⟩
theorem d_M_pressesOf_47 : cd_D_iload b_M_pressesOf 47 1 48 := Or.inr ⟨1, ⟨by decide +kernel, rfl⟩, rfl⟩
theorem d_M_pressesOf_48 : cd_Dk b_M_pressesOf 48 (nI 2) 49 := Or.inl ⟨2, ⟨by decide +kernel, rfl⟩, by decide +kernel⟩
theorem d_M_pressesOf_49 : cd_D 3 b_M_pressesOf 49 (.invokevirtual 97) 52 := ⟨by decide +kernel, rfl⟩
theorem d_M_pressesOf_52 : cd_D_goto b_M_pressesOf 52 67 := ⟨15, by decide +kernel, by decide⟩
theorem d_M_pressesOf_55 : cd_D_aload b_M_pressesOf 55 0 56 := Or.inr ⟨0, ⟨by decide +kernel, rfl⟩, rfl⟩
theorem d_M_pressesOf_56 : cd_D_iload b_M_pressesOf 56 2 57 := Or.inr ⟨2, ⟨by decide +kernel, rfl⟩, rfl⟩
theorem d_M_pressesOf_57 : cd_D 3 b_M_pressesOf 57 (.invokevirtual 101) 60 := ⟨by decide +kernel, rfl⟩
theorem d_M_pressesOf_60 : cd_Dk b_M_pressesOf 60 (nI 0) 61 := Or.inl ⟨0, ⟨by decide +kernel, rfl⟩, by decide +kernel⟩
theorem d_M_pressesOf_61 : cd_Dk b_M_pressesOf 61 (nI 199) 64 := Or.inr (Or.inr ⟨199, ⟨by decide +kernel, rfl⟩, by decide +kernel⟩)
theorem d_M_pressesOf_64 : cd_D 3 b_M_pressesOf 64 (.invokestatic 104) 67 := ⟨by decide +kernel, rfl⟩
theorem d_M_pressesOf_67 : cd_D_istore b_M_pressesOf 67 3 68 := Or.inr ⟨3, ⟨by decide +kernel, rfl⟩, rfl⟩
theorem d_M_pressesOf_68 : cd_D_aload b_M_pressesOf 68 0 69 := Or.inr ⟨0, ⟨by decide +kernel, rfl⟩, rfl⟩
theorem d_M_pressesOf_69 : cd_D 3 b_M_pressesOf 69 (.getfield 9) 72 := ⟨by decide +kernel, rfl⟩
theorem d_M_pressesOf_72 : cd_Dk b_M_pressesOf 72 (nI 8) 74 := Or.inr (Or.inl ⟨8, ⟨by decide +kernel, rfl⟩, by decide +kernel⟩)
theorem d_M_pressesOf_74 : cd_D 1 b_M_pressesOf 74 .iaload 75 := ⟨by decide +kernel, rfl⟩
theorem d_M_pressesOf_75 : cd_Dk b_M_pressesOf 75 (nI 1) 76 := Or.inl ⟨1, ⟨by decide +kernel, rfl⟩, by decide +kernel⟩
theorem d_M_pressesOf_76 : cd_D_icmp_ne b_M_pressesOf 76 86 79 := ⟨10, by decide +kernel, by decide, rfl⟩
theorem d_M_pressesOf_79 : cd_D_iload b_M_pressesOf 79 3 80 := Or.inr ⟨3, ⟨by decide +kernel, rfl⟩, rfl⟩
theorem d_M_pressesOf_80 : cd_Dk b_M_pressesOf 80 (nI 20) 82 := Or.inr (Or.inl ⟨20, ⟨by decide +kernel, rfl⟩, by decide +kernel⟩)
theorem d_M_pressesOf_82 : cd_D 1 b_M_pressesOf 82 .isub 83 := ⟨by decide +kernel, rfl⟩
theorem d_M_pressesOf_83 : cd_D_goto b_M_pressesOf 83 87 := ⟨4, by decide +kernel, by decide⟩
theorem d_M_pressesOf_86 : cd_D_iload b_M_pressesOf 86 3 87 := Or.inr ⟨3, ⟨by decide +kernel, rfl⟩, rfl⟩
theorem d_M_pressesOf_87 : cd_Dk b_M_pressesOf 87 (nI 0) 88 := Or.inl ⟨0, ⟨by decide +kernel, rfl⟩, by decide +kernel⟩
theorem d_M_pressesOf_88 : cd_Dk b_M_pressesOf 88 (nI 199) 91 := Or.inr (Or.inr ⟨199, ⟨by decide +kernel, rfl⟩, by decide +kernel⟩)
theorem d_M_pressesOf_91 : cd_D 3 b_M_pressesOf 91 (.invokestatic 104) 94 := ⟨by decide +kernel, rfl⟩
theorem d_M_pressesOf_94 : cd_D_istore b_M_pressesOf 94 4 96 := Or.inl ⟨by decide +kernel, rfl⟩
theorem d_M_pressesOf_96 : cd_D_aload b_M_pressesOf 96 0 97 := Or.inr ⟨0, ⟨by decide +kernel, rfl⟩, rfl⟩
theorem d_M_pressesOf_97 : cd_D_iload b_M_pressesOf 97 1 98 := Or.inr ⟨1, ⟨by decide +kernel, rfl⟩, rfl⟩
theorem d_M_pressesOf_98 : cd_Dk b_M_pressesOf 98 (nI 0) 99 := Or.inl ⟨0, ⟨by decide +kernel, rfl⟩, by decide +kernel⟩
theorem d_M_pressesOf_99 : cd_D 3 b_M_pressesOf 99 (.invokevirtual 97) 102 := ⟨by decide +kernel, rfl⟩
theorem d_M_pressesOf_102 : decode b_M_pressesOf 102 = .ok (.tableswitch (66) (1) (5) #[34, 38, 41, 56, 62], 34) := by decide +kernel
theorem d_M_pressesOf_136 : cd_D_iload b_M_pressesOf 136 3 137 := Or.inr ⟨3, ⟨by decide +kernel, rfl⟩, rfl⟩
theorem d_M_pressesOf_137 : cd_Dk b_M_pressesOf 137 (nI 2) 138 := Or.inl ⟨2, ⟨by decide +kernel, rfl⟩, by decide +kernel⟩
theorem d_M_pressesOf_138 : cd_D 1 b_M_pressesOf 138 .idiv 139 := ⟨by decide +kernel, rfl⟩
theorem d_M_pressesOf_139 : cd_D 1 b_M_pressesOf 139 .ireturn 140 := ⟨by decide +kernel, rfl⟩
theorem d_M_pressesOf_140 : cd_D_iload b_M_pressesOf 140 4 142 := Or.inl ⟨by decide +kernel, rfl⟩
theorem d_M_pressesOf_142 : cd_D 1 b_M_pressesOf 142 .ireturn 143 := ⟨by decide +kernel, rfl⟩
theorem d_M_pressesOf_143 : cd_D_iload b_M_pressesOf 143 3 144 := Or.inr ⟨3, ⟨by decide +kernel, rfl⟩, rfl⟩
theorem d_M_pressesOf_144 : cd_Dk b_M_pressesOf 144 (nI 2) 145 := Or.inl ⟨2, ⟨by decide +kernel, rfl⟩, by decide +kernel⟩
theorem d_M_pressesOf_145 : cd_D 1 b_M_pressesOf 145 .idiv 146 := ⟨by decide +kernel, rfl⟩
theorem d_M_pressesOf_146 : cd_Dk b_M_pressesOf 146 (nI 60) 148 := Or.inr (Or.inl ⟨60, ⟨by decide +kernel, rfl⟩, by decide +kernel⟩)
theorem d_M_pressesOf_148 : cd_D_aload b_M_pressesOf 148 0 149 := Or.inr ⟨0, ⟨by decide +kernel, rfl⟩, rfl⟩
theorem d_M_pressesOf_149 : cd_D 3 b_M_pressesOf 149 (.getfield 9) 152 := ⟨by decide +kernel, rfl⟩
theorem d_M_pressesOf_152 : cd_Dk b_M_pressesOf 152 (nI 9) 154 := Or.inr (Or.inl ⟨9, ⟨by decide +kernel, rfl⟩, by decide +kernel⟩)
theorem d_M_pressesOf_154 : cd_D 1 b_M_pressesOf 154 .iaload 155 := ⟨by decide +kernel, rfl⟩
theorem d_M_pressesOf_155 : cd_D 1 b_M_pressesOf 155 .imul 156 := ⟨by decide +kernel, rfl⟩
theorem d_M_pressesOf_156 : cd_D 1 b_M_pressesOf 156 .iadd 157 := ⟨by decide +kernel, rfl⟩
theorem d_M_pressesOf_157 : cd_D 1 b_M_pressesOf 157 .ireturn 158 := ⟨by decide +kernel, rfl⟩
theorem d_M_pressesOf_158 : cd_D_iload b_M_pressesOf 158 4 160 := Or.inl ⟨by decide +kernel, rfl⟩
theorem d_M_pressesOf_160 : cd_Dk b_M_pressesOf 160 (nI 30) 162 := Or.inr (Or.inl ⟨30, ⟨by decide +kernel, rfl⟩, by decide +kernel⟩)
theorem d_M_pressesOf_162 : cd_D 1 b_M_pressesOf 162 .iadd 163 := ⟨by decide +kernel, rfl⟩
theorem d_M_pressesOf_163 : cd_D 1 b_M_pressesOf 163 .ireturn 164 := ⟨by decide +kernel, rfl⟩
theorem d_M_pressesOf_164 : cd_D_iload b_M_pressesOf 164 3 165 := Or.inr ⟨3, ⟨by decide +kernel, rfl⟩, rfl⟩
theorem d_M_pressesOf_165 : cd_Dk b_M_pressesOf 165 (nI 5) 166 := Or.inl ⟨5, ⟨by decide +kernel, rfl⟩, by decide +kernel⟩
theorem d_M_pressesOf_166 : cd_D 1 b_M_pressesOf 166 .iadd 167 := ⟨by decide +kernel, rfl⟩
theorem d_M_pressesOf_167 : cd_D 1 b_M_pressesOf 167 .ireturn 168 := ⟨by decide +kernel, rfl⟩
theorem d_M_pressesOf_168 : cd_D_iload b_M_pressesOf 168 3 169 := Or.inr ⟨3, ⟨by decide +kernel, rfl⟩, rfl⟩
theorem d_M_pressesOf_169 : cd_D 1 b_M_pressesOf 169 .ireturn 170 := ⟨by decide +kernel, rfl⟩
theorem c_M_pressesOf {l : Launch} {w : cd_WT} {S : cd_Sp} {I : cd_Mem} {m : Nat} (hM : cd_MO w S m) (mm tc i : Nat) (hV : cd_V (I (m + 1)) mm tc) (hi : i < 12) : cd_C l w m_M_pressesOf 2 0 0 [.ref m, .int (nI i)] S I (cd_Pi S (fun x I' => x = cd_pr (I (m + 1)) i tc ∧ cd_off I I' [m + 11, m + 12])) := by
  refine cd_intro (by decide) (by simp [Value.category]) (Nat.le_of_ble_eq_true rfl) ?_
  intro X hO hE
  show cd_J w X 0 0 S I 0 [some (.ref m), some (.int (nI i)), none, none, none] []
  obtain ⟨hN1, hmm, hN15, htc, hTW⟩ := id hV
  have rest : ∀ (I2 : cd_Mem) (x2 : Int32), I2 (m + 1) = I (m + 1) → cd_off I I2 [m + 11, m + 12] → cd_J w X 0 0 S I2 67 [some (.ref m), some (.int (nI i)), some (.int x2), none, none] [.int (cd_pl (I (m + 1)) i tc)] := by
    intro I2 x2 h2 ho
    refine r_sI3 hO d_M_pressesOf_67 rfl ?_
    refine r_aload hO d_M_pressesOf_68 rfl ?_
    refine r_getR hO f_M_9 rfl hM.2.1 (mo_r1 hM) d_M_pressesOf_69 ?_
    try simp only [h2]
    refine r_k hO d_M_pressesOf_72 ?_
    refine r_iald hO (mo_s1 hM) (by omega) (by decide) d_M_pressesOf_74 ?_
    try simp only [h2]
    refine r_k hO d_M_pressesOf_75 ?_
    refine r_jn2 (pcJ := 87) (fun v => v = if I (m + 1) 8 = nI 1 then cd_pl (I (m + 1)) i tc - nI 20 else cd_pl (I (m + 1)) i tc) (fun v_76 hv_76 => ?_) (fun hj_76 => ?_)
    · subst hv_76
      refine r_k hO d_M_pressesOf_87 ?_
      refine r_k hO d_M_pressesOf_88 ?_
      refine r_cS3fi hO hE (c_M_within _ _ _) mf_M_within lk_M_104 (by decide) rfl (Nat.le_of_ble_eq_true rfl) d_M_pressesOf_91 (Nat.zero_le _) (Nat.zero_le _) ?_
      try simp only [h2]
      refine r_sI4 hO d_M_pressesOf_94 rfl ?_
      refine r_aload hO d_M_pressesOf_96 rfl ?_
      refine r_iload hO d_M_pressesOf_97 rfl ?_
      refine r_k hO d_M_pressesOf_98 ?_
      refine r_cV2fi hO hE (c_M_of hM _ _ (by omega)) mf_M_of lk_M_97 hM.2.1 rfl (by decide) rfl (Nat.le_of_ble_eq_true rfl) d_M_pressesOf_99 (Nat.zero_le _) (Nat.zero_le _) ?_
      try simp only [h2]
      by_cases c_102_1 : I (m + 1) (16 + 5 * i + 0) = nI 1
      · refine r_tabE hO d_M_pressesOf_102 c_102_1 (off := 34) (by decide) (by decide) (by decide) (tgt := 136) (by decide) ?_
        refine r_iload hO d_M_pressesOf_136 rfl ?_
        refine r_k hO d_M_pressesOf_137 ?_
        refine r_idiv hO d_M_pressesOf_138 (by decide) ?_
        refine r_iret hO hE (Nat.zero_le _) (Nat.zero_le _) d_M_pressesOf_139 ?_
        exact ⟨_, rfl, rfl, by unfold cd_pr cd_pw; (repeat' split) <;> first | rfl | contradiction, ho⟩
      by_cases c_102_2 : I (m + 1) (16 + 5 * i + 0) = nI 2
      · refine r_tabE hO d_M_pressesOf_102 c_102_2 (off := 38) (by decide) (by decide) (by decide) (tgt := 140) (by decide) ?_
        refine r_iload hO d_M_pressesOf_140 rfl ?_
        refine r_iret hO hE (Nat.zero_le _) (Nat.zero_le _) d_M_pressesOf_142 ?_
        exact ⟨_, rfl, rfl, by unfold cd_pr cd_pw; (repeat' split) <;> first | rfl | contradiction, ho⟩
      by_cases c_102_3 : I (m + 1) (16 + 5 * i + 0) = nI 3
      · refine r_tabE hO d_M_pressesOf_102 c_102_3 (off := 41) (by decide) (by decide) (by decide) (tgt := 143) (by decide) ?_
        refine r_iload hO d_M_pressesOf_143 rfl ?_
        refine r_k hO d_M_pressesOf_144 ?_
        refine r_idiv hO d_M_pressesOf_145 (by decide) ?_
        refine r_k hO d_M_pressesOf_146 ?_
        refine r_aload hO d_M_pressesOf_148 rfl ?_
        refine r_getR hO f_M_9 rfl hM.2.1 (mo_r1 hM) d_M_pressesOf_149 ?_
        try simp only [h2]
        refine r_k hO d_M_pressesOf_152 ?_
        refine r_iald hO (mo_s1 hM) (by omega) (by decide) d_M_pressesOf_154 ?_
        try simp only [h2]
        refine r_imul hO d_M_pressesOf_155 ?_
        refine r_iadd hO d_M_pressesOf_156 ?_
        refine r_iret hO hE (Nat.zero_le _) (Nat.zero_le _) d_M_pressesOf_157 ?_
        exact ⟨_, rfl, rfl, by unfold cd_pr cd_pw; (repeat' split) <;> first | rfl | contradiction, ho⟩
      by_cases c_102_4 : I (m + 1) (16 + 5 * i + 0) = nI 4
      · refine r_tabE hO d_M_pressesOf_102 c_102_4 (off := 56) (by decide) (by decide) (by decide) (tgt := 158) (by decide) ?_
        refine r_iload hO d_M_pressesOf_158 rfl ?_
        refine r_k hO d_M_pressesOf_160 ?_
        refine r_iadd hO d_M_pressesOf_162 ?_
        refine r_iret hO hE (Nat.zero_le _) (Nat.zero_le _) d_M_pressesOf_163 ?_
        exact ⟨_, rfl, rfl, by unfold cd_pr cd_pw; (repeat' split) <;> first | rfl | contradiction, ho⟩
      by_cases c_102_5 : I (m + 1) (16 + 5 * i + 0) = nI 5
      · refine r_tabE hO d_M_pressesOf_102 c_102_5 (off := 62) (by decide) (by decide) (by decide) (tgt := 164) (by decide) ?_
        refine r_iload hO d_M_pressesOf_164 rfl ?_
        refine r_k hO d_M_pressesOf_165 ?_
        refine r_iadd hO d_M_pressesOf_166 ?_
        refine r_iret hO hE (Nat.zero_le _) (Nat.zero_le _) d_M_pressesOf_167 ?_
        exact ⟨_, rfl, rfl, by unfold cd_pr cd_pw; (repeat' split) <;> first | rfl | contradiction, ho⟩
      refine r_tabN hO d_M_pressesOf_102 (by decide) (fun j hj => ?_) (tgt := 168) (by decide) ?_
      · have hj2 : j < 5 := hj
        rcases (show j = 0 ∨ j = 1 ∨ j = 2 ∨ j = 3 ∨ j = 4 by omega) with rfl | rfl | rfl | rfl | rfl
        · exact Or.inl (fun e => c_102_1 (e.trans (by decide)))
        · exact Or.inl (fun e => c_102_2 (e.trans (by decide)))
        · exact Or.inl (fun e => c_102_3 (e.trans (by decide)))
        · exact Or.inl (fun e => c_102_4 (e.trans (by decide)))
        · exact Or.inl (fun e => c_102_5 (e.trans (by decide)))
      refine r_iload hO d_M_pressesOf_168 rfl ?_
      refine r_iret hO hE (Nat.zero_le _) (Nat.zero_le _) d_M_pressesOf_169 ?_
      exact ⟨_, rfl, rfl, by unfold cd_pr cd_pw; (repeat' split) <;> first | rfl | contradiction, ho⟩
    · refine r_icmp_ne hO d_M_pressesOf_76 (fun c_76 => ?_) (fun c_76 => ?_)
      · refine r_iload hO d_M_pressesOf_86 rfl ?_
        exact hj_76 _ (by simp only [c_76, if_true, if_false])
      · refine r_iload hO d_M_pressesOf_79 rfl ?_
        refine r_k hO d_M_pressesOf_80 ?_
        refine r_isub hO d_M_pressesOf_82 ?_
        refine r_goto hO d_M_pressesOf_83 ?_
        exact hj_76 _ (by simp only [c_76, if_true, if_false])
  refine r_aload hO d_M_pressesOf_0 rfl ?_
  refine r_k hO d_M_pressesOf_1 ?_
  refine r_cV1fi hO hE (c_M_counts hM tc hN15 htc _) mf_M_counts lk_M_93 hM.2.1 rfl (by decide) rfl (Nat.le_of_ble_eq_true rfl) d_M_pressesOf_2 (Nat.zero_le _) (Nat.zero_le _) ?_
  try simp (disch := omega) only [cd_set_eq, cd_set_ne, cd_set_set]
  refine r_sI2 hO d_M_pressesOf_5 rfl ?_
  refine r_aload hO d_M_pressesOf_6 rfl ?_
  refine r_getR hO f_M_45 rfl hM.2.1 (mo_r12 hM) d_M_pressesOf_7 ?_
  try simp (disch := omega) only [cd_set_eq, cd_set_ne, cd_set_set]
  refine r_k hO d_M_pressesOf_10 ?_
  refine r_aload hO d_M_pressesOf_11 rfl ?_
  refine r_iload hO d_M_pressesOf_12 rfl ?_
  refine r_k hO d_M_pressesOf_13 ?_
  refine r_cV2fi hO hE (c_M_of hM _ _ (by omega)) mf_M_of lk_M_97 hM.2.1 rfl (by decide) rfl (Nat.le_of_ble_eq_true rfl) d_M_pressesOf_14 (Nat.zero_le _) (Nat.zero_le _) ?_
  try simp (disch := omega) only [cd_set_eq, cd_set_ne, cd_set_set]
  refine r_iast hO (mo_s12 hM) (mo_l12 hM) (by omega) (by decide) d_M_pressesOf_17 ?_
  try simp (disch := omega) only [cd_set_eq, cd_set_ne, cd_set_set]
  refine r_aload hO d_M_pressesOf_18 rfl ?_
  refine r_getR hO f_M_45 rfl hM.2.1 (mo_r12 hM) d_M_pressesOf_19 ?_
  try simp (disch := omega) only [cd_set_eq, cd_set_ne, cd_set_set]
  refine r_k hO d_M_pressesOf_22 ?_
  refine r_aload hO d_M_pressesOf_23 rfl ?_
  refine r_iload hO d_M_pressesOf_24 rfl ?_
  refine r_k hO d_M_pressesOf_25 ?_
  refine r_cV2fi hO hE (c_M_of hM _ _ (by omega)) mf_M_of lk_M_97 hM.2.1 rfl (by decide) rfl (Nat.le_of_ble_eq_true rfl) d_M_pressesOf_26 (Nat.zero_le _) (Nat.zero_le _) ?_
  try simp (disch := omega) only [cd_set_eq, cd_set_ne, cd_set_set]
  refine r_iast hO (mo_s12 hM) (mo_l12 hM) (by omega) (by decide) d_M_pressesOf_29 ?_
  try simp (disch := omega) only [cd_set_eq, cd_set_ne, cd_set_set]
  refine r_aload hO d_M_pressesOf_30 rfl ?_
  refine r_getR hO f_M_45 rfl hM.2.1 (mo_r12 hM) d_M_pressesOf_31 ?_
  try simp (disch := omega) only [cd_set_eq, cd_set_ne, cd_set_set]
  refine r_k hO d_M_pressesOf_34 ?_
  refine r_aload hO d_M_pressesOf_35 rfl ?_
  refine r_iload hO d_M_pressesOf_36 rfl ?_
  refine r_k hO d_M_pressesOf_37 ?_
  refine r_cV2fi hO hE (c_M_of hM _ _ (by omega)) mf_M_of lk_M_97 hM.2.1 rfl (by decide) rfl (Nat.le_of_ble_eq_true rfl) d_M_pressesOf_38 (Nat.zero_le _) (Nat.zero_le _) ?_
  try simp (disch := omega) only [cd_set_eq, cd_set_ne, cd_set_set]
  refine r_iast hO (mo_s12 hM) (mo_l12 hM) (by omega) (by decide) d_M_pressesOf_41 ?_
  try simp (disch := omega) only [cd_set_eq, cd_set_ne, cd_set_set]
  refine r_gen (fun I1 hI1 => ?_)
  have h1 : I1 (m + 1) = I (m + 1) := by rw [hI1, cd_set_ne _ _ (by omega)]
  have h12 : I1 (m + 12) = upd (upd (upd (I (m + 12)) 0 (I (m + 1) (16 + 5 * i + 2))) 1 (I (m + 1) (16 + 5 * i + 3))) 2 (I (m + 1) (16 + 5 * i + 4)) := by rw [hI1, cd_set_eq]
  have ho1 : cd_off I I1 [m + 11, m + 12] := by rw [hI1]; exact cd_off.set _ _ (by simp)
  refine r_iload hO d_M_pressesOf_42 rfl ?_
  refine r_if_ge hO d_M_pressesOf_43 (fun c_43 => ?_) (fun c_43 => ?_)
  · obtain ⟨tj, htj, etj, hkey⟩ := cd_cnt_pos c_43
    obtain ⟨n, hn, hn1, hn9, hwf, hd1⟩ := hTW.at htj (by decide) hkey
    rw [etj]
    refine r_aload hO d_M_pressesOf_55 rfl ?_
    refine r_iload hO d_M_pressesOf_56 rfl ?_
    refine r_cV1i hO hE (c_M_worksOut hM tj n 3 (by omega) (fun j => if j = 0 then I (m + 1) (16 + 5 * i + 2) else if j = 1 then I (m + 1) (16 + 5 * i + 3) else I (m + 1) (16 + 5 * i + 4)) (by rw [h1]; exact hn) hn9 (by decide) (by rw [h1]; exact hwf) (by rw [h1, hd1]; exact Nat.le_refl _) (fun j hj => by rw [h12]; rcases (show j = 0 ∨ j = 1 ∨ j = 2 by omega) with rfl | rfl | rfl <;> simp [upd])) mf_M_worksOut lk_M_101 hM.2.1 rfl (by decide) rfl (Nat.le_of_ble_eq_true rfl) d_M_pressesOf_57 (Nat.zero_le _) (Nat.zero_le _) ?_
    rintro x I2 ⟨hx, ho2⟩
    try simp (disch := omega) only [cd_set_eq, cd_set_ne, cd_set_set]
    refine r_k hO d_M_pressesOf_60 ?_
    refine r_k hO d_M_pressesOf_61 ?_
    refine r_cS3fi hO hE (c_M_within _ _ _) mf_M_within lk_M_104 (by decide) rfl (Nat.le_of_ble_eq_true rfl) d_M_pressesOf_64 (Nat.zero_le _) (Nat.zero_le _) ?_
    try simp (disch := omega) only [cd_set_eq, cd_set_ne, cd_set_set]
    refine r_tops (show _ = cd_pl (I (m + 1)) i tc by
      unfold cd_pl
      rw [if_pos c_43, etj, hx, h1, cd_wo_eq (by unfold cd_tn; rw [nI_clamp (by omega)]; exact hn) hn9]
      unfold cd_tn
      rw [nI_clamp (by omega)]) ?_
    have h2 : I2 (m + 1) = I (m + 1) := (ho2 _ (by simp)).trans h1
    exact rest _ _ h2 (ho1.tr (ho2.mono (by simp)))
  · refine r_aload hO d_M_pressesOf_46 rfl ?_
    refine r_iload hO d_M_pressesOf_47 rfl ?_
    refine r_k hO d_M_pressesOf_48 ?_
    refine r_cV2fi hO hE (c_M_of hM _ _ (by omega)) mf_M_of lk_M_97 hM.2.1 rfl (by decide) rfl (Nat.le_of_ble_eq_true rfl) d_M_pressesOf_49 (Nat.zero_le _) (Nat.zero_le _) ?_
    try simp (disch := omega) only [cd_set_eq, cd_set_ne, cd_set_set]
    rw [h1]
    refine r_tops (show _ = cd_pl (I (m + 1)) i tc by unfold cd_pl; rw [if_neg c_43]) ?_
    refine r_goto hO d_M_pressesOf_52 ?_
    exact rest _ _ h1 ho1
end
section
def cd_kq (N N' : Nat → Int32) : Prop := ∀ j, (j = 1 ∨ (3 ≤ j ∧ j ≤ 6) ∨ j = 15 ∨ 76 ≤ j) → N' j = N j
theorem kq_rf (N : Nat → Int32) : cd_kq N N := fun _ _ => rfl
theorem kq_upd {N N' : Nat → Int32} (h : cd_kq N N') {k : Nat} {v : Int32} (hk : ¬ (k = 1 ∨ (3 ≤ k ∧ k ≤ 6) ∨ k = 15 ∨ 76 ≤ k)) : cd_kq N (upd N' k v) := fun j hj => by
  rw [← h j hj]
  exact if_neg (fun e : j = k => hk (e ▸ hj))
theorem kq_tr {N N1 N2 : Nat → Int32} (h : cd_kq N N1) (h2 : cd_kq N1 N2) : cd_kq N N2 := fun j hj => (h2 j hj).trans (h j hj)
theorem cd_V.kq {N N' : Nat → Int32} {mm tc : Nat} (h : cd_V N mm tc) (hk : cd_kq N N') : cd_V N' mm tc := by
  obtain ⟨h1, h2, h3, h4, h5⟩ := h
  refine ⟨by rw [hk 1 (by omega)]; exact h1, h2, by rw [hk 15 (by omega)]; exact h3, h4, fun t ht => ?_⟩
  obtain ⟨ky, n, a1, a2, a3, a4, a5, a6⟩ := h5 t ht
  have e : (fun k => N' (104 + 96 * t + k)) = fun k => N (104 + 96 * t + k) := by
    funext k
    exact hk _ (by omega)
  exact ⟨ky, n, by rw [hk _ (by omega)]; exact a1, a2, a3, a4, by rw [e]; exact a5, by rw [e]; exact a6⟩
def cd_ak (N : Nat → Int32) (i tc : Nat) : Nat → Int32 := if N 6 = nI 1 then (cd_gm N i).2 else if cd_pr N i tc ≤ N 3 then upd (upd N 11 (N 11 + cd_scr (N (16 + 5 * i + 0)))) (16 + 5 * i + 2) (cd_wi (upd N 11 (N 11 + cd_scr (N (16 + 5 * i + 0))) (16 + 5 * i + 2) - cd_fog (upd N 11 (N 11 + cd_scr (N (16 + 5 * i + 0))) (16 + 5 * i + 0))) (nI 0) (nI 99)) else (cd_ri N i).2
def cd_w1 (N : Nat → Int32) : Nat → Int32 := upd (cd_dr N) 8 (if cd_dr N 4 ≤ cd_rem (cd_dv N) (nI 100) then nI 0 else nI 1)
def cd_w2 (N : Nat → Int32) : Nat → Int32 := upd (cd_dr N) 9 (if cd_dr N 5 ≤ cd_rem (cd_dv N) (nI 100) then nI 0 else nI 1)
def cd_one (N : Nat → Int32) (i tc : Nat) : Nat → Int32 := if N (16 + 5 * i + 1) = cd_rem (N 2) (nI 24) then (if cd_dr N (16 + 5 * i + 2) ≤ cd_rem (cd_dv N) (nI 100) then cd_dr N else cd_ak (cd_dr N) i tc) else N
def cd_lp (N : Nat → Int32) (tc : Nat) : Nat → Nat → Int32
  | 0 => N
  | i + 1 => cd_one (cd_lp N tc i) i tc
def cd_ed (N : Nat → Int32) : Nat → Int32 := upd (upd N 14 (N 14 + N 6 * N 9)) 2 (upd N 14 (N 14 + N 6 * N 9) 2 + nI 1)
def cd_hr (N : Nat → Int32) (mm tc : Nat) : Nat → Int32 := cd_ed (cd_lp (cd_w2 (cd_w1 N)) tc mm)
def cd_hs (N : Nat → Int32) (mm tc : Nat) : Nat → Nat → Int32
  | 0 => N
  | n + 1 => cd_hr (cd_hs N mm tc n) mm tc
def cd_hb (N : Nat → Int32) : Nat → Int32
  | 0 => nI 0
  | i + 1 => cd_hb N i + N (16 + 5 * i + 2)
theorem kq_dr (N : Nat → Int32) : cd_kq N (cd_dr N) := kq_upd (kq_rf N) (by omega)
theorem kq_go (N : Nat → Int32) : cd_kq N (cd_go N) := by
  unfold cd_go
  split
  · exact kq_upd (kq_upd (kq_rf N) (by omega)) (by omega)
  · exact kq_upd (kq_upd (kq_rf N) (by omega)) (by omega)
theorem kq_gm (N : Nat → Int32) (i : Nat) : cd_kq N (cd_gm N i).2 := by
  unfold cd_gm
  split
  · exact kq_dr N
  · exact kq_tr (kq_dr N) (kq_go _)
theorem kq_le (N : Nat → Int32) {i : Nat} (hi : i < 12) : cd_kq N (cd_le N i) := kq_upd (kq_upd (kq_rf N) (by omega)) (by omega)
theorem kq_ri (N : Nat → Int32) {i : Nat} (hi : i < 12) : cd_kq N (cd_ri N i).2 := kq_tr (kq_tr (kq_upd (kq_rf N) (by omega)) (kq_le _ hi)) (kq_gm _ i)
theorem kq_ak (N : Nat → Int32) {i : Nat} (hi : i < 12) (tc : Nat) : cd_kq N (cd_ak N i tc) := by
  unfold cd_ak
  split
  · exact kq_gm N i
  · split
    · exact kq_upd (kq_upd (kq_rf N) (by omega)) (by omega)
    · exact kq_ri N hi
theorem kq_w1 (N : Nat → Int32) : cd_kq N (cd_w1 N) := kq_upd (kq_dr N) (by omega)
theorem kq_w2 (N : Nat → Int32) : cd_kq N (cd_w2 N) := kq_upd (kq_dr N) (by omega)
theorem kq_one (N : Nat → Int32) {i : Nat} (hi : i < 12) (tc : Nat) : cd_kq N (cd_one N i tc) := by
  unfold cd_one
  split
  · split
    · exact kq_dr N
    · exact kq_tr (kq_dr N) (kq_ak _ hi tc)
  · exact kq_rf N
theorem kq_lp (N : Nat → Int32) (tc : Nat) : ∀ i, i ≤ 12 → cd_kq N (cd_lp N tc i)
  | 0, _ => kq_rf N
  | i + 1, h => kq_tr (kq_lp N tc i (by omega)) (kq_one _ (by omega) tc)
theorem kq_ed (N : Nat → Int32) : cd_kq N (cd_ed N) := kq_upd (kq_upd (kq_rf N) (by omega)) (by omega)
theorem kq_hr (N : Nat → Int32) {mm : Nat} (hm : mm ≤ 12) (tc : Nat) : cd_kq N (cd_hr N mm tc) := kq_tr (kq_tr (kq_tr (kq_w1 N) (kq_w2 _)) (kq_lp _ tc mm hm)) (kq_ed _)
theorem kq_hs (N : Nat → Int32) {mm : Nat} (hm : mm ≤ 12) (tc : Nat) : ∀ n, cd_kq N (cd_hs N mm tc n)
  | 0 => kq_rf N
  | n + 1 => kq_tr (kq_hs N hm tc n) (kq_hr _ hm tc)
def cd_cp (n : Nat) (r r' : Nat → Int32) : Nat → Int32 := fun k => if k < n then r k else r' k
theorem cd_cp_s (n : Nat) (r r' : Nat → Int32) : upd (cd_cp n r r') n (r n) = cd_cp (n + 1) r r' := by
  funext k
  simp only [upd, cd_cp]
  by_cases h : k = n
  · subst h; simp
  · by_cases h2 : k < n
    · simp [h, h2, show k < n + 1 by omega]
    · simp [h, h2, show ¬ k < n + 1 by omega]
theorem cd_cp_0 (r r' : Nat → Int32) : cd_cp 0 r r' = r' := by
  funext k
  simp [cd_cp]
theorem d_M_asks_0 : cd_Dk b_M_asks 0 (nI 0) 1 := Or.inl ⟨0, ⟨by decide +kernel, rfl⟩, by decide +kernel⟩
theorem d_M_asks_1 : cd_D_istore b_M_asks 1 2 2 := Or.inr ⟨2, ⟨by decide +kernel, rfl⟩, rfl⟩
theorem d_M_asks_2 : cd_D_aload b_M_asks 2 0 3 := Or.inr ⟨0, ⟨by decide +kernel, rfl⟩, rfl⟩
theorem d_M_asks_3 : cd_D 3 b_M_asks 3 (.getfield 9) 6 := ⟨by decide +kernel, rfl⟩
theorem d_M_asks_6 : cd_Dk b_M_asks 6 (nI 6) 8 := Or.inr (Or.inl ⟨6, ⟨by decide +kernel, rfl⟩, by decide +kernel⟩)
theorem d_M_asks_8 : cd_D 1 b_M_asks 8 .iaload 9 := ⟨by decide +kernel, rfl⟩
theorem d_M_asks_9 : cd_Dk b_M_asks 9 (nI 1) 10 := Or.inl ⟨1, ⟨by decide +kernel, rfl⟩, by decide +kernel⟩
theorem d_M_asks_10 : cd_D_icmp_ne b_M_asks 10 22 13 := ⟨12, by decide +kernel, by decide, rfl⟩
theorem d_M_asks_13 : cd_D_aload b_M_asks 13 0 14 := Or.inr ⟨0, ⟨by decide +kernel, rfl⟩, rfl⟩
theorem d_M_asks_14 : cd_D_iload b_M_asks 14 1 15 := Or.inr ⟨1, ⟨by decide +kernel, rfl⟩, rfl⟩
theorem d_M_asks_15 : cd_D 3 b_M_asks 15 (.invokevirtual 149) 18 := ⟨by decide +kernel, rfl⟩
theorem d_M_asks_18 : cd_D_istore b_M_asks 18 2 19 := Or.inr ⟨2, ⟨by decide +kernel, rfl⟩, rfl⟩
theorem d_M_asks_19 : cd_D_goto b_M_asks 19 84 := ⟨65, by decide +kernel, by decide⟩
theorem d_M_asks_22 : cd_D_aload b_M_asks 22 0 23 := Or.inr ⟨0, ⟨by decide +kernel, rfl⟩, rfl⟩
theorem d_M_asks_23 : cd_D_iload b_M_asks 23 1 24 := Or.inr ⟨1, ⟨by decide +kernel, rfl⟩, rfl⟩
theorem d_M_asks_24 : cd_D 3 b_M_asks 24 (.invokevirtual 112) 27 := ⟨by decide +kernel, rfl⟩
theorem d_M_asks_27 : cd_D_aload b_M_asks 27 0 28 := Or.inr ⟨0, ⟨by decide +kernel, rfl⟩, rfl⟩
theorem d_M_asks_28 : cd_D 3 b_M_asks 28 (.getfield 9) 31 := ⟨by decide +kernel, rfl⟩
theorem d_M_asks_31 : cd_Dk b_M_asks 31 (nI 3) 32 := Or.inl ⟨3, ⟨by decide +kernel, rfl⟩, by decide +kernel⟩
theorem d_M_asks_32 : cd_D 1 b_M_asks 32 .iaload 33 := ⟨by decide +kernel, rfl⟩
theorem d_M_asks_33 : cd_D_icmp_le b_M_asks 33 45 36 := ⟨12, by decide +kernel, by decide, rfl⟩
theorem d_M_asks_36 : cd_D_aload b_M_asks 36 0 37 := Or.inr ⟨0, ⟨by decide +kernel, rfl⟩, rfl⟩
theorem d_M_asks_37 : cd_D_iload b_M_asks 37 1 38 := Or.inr ⟨1, ⟨by decide +kernel, rfl⟩, rfl⟩
theorem d_M_asks_38 : cd_D 3 b_M_asks 38 (.invokevirtual 152) 41 := ⟨by decide +kernel, rfl⟩
theorem d_M_asks_41 : cd_D_istore b_M_asks 41 2 42 := Or.inr ⟨2, ⟨by decide +kernel, rfl⟩, rfl⟩
theorem d_M_asks_42 : cd_D_goto b_M_asks 42 84 := ⟨42, by decide +kernel, by decide⟩
theorem d_M_asks_45 : cd_D_aload b_M_asks 45 0 46 := Or.inr ⟨0, ⟨by decide +kernel, rfl⟩, rfl⟩
theorem d_M_asks_46 : cd_D 3 b_M_asks 46 (.getfield 9) 49 := ⟨by decide +kernel, rfl⟩
theorem d_M_asks_49 : cd_Dk b_M_asks 49 (nI 11) 51 := Or.inr (Or.inl ⟨11, ⟨by decide +kernel, rfl⟩, by decide +kernel⟩)
theorem d_M_asks_51 : cd_D 1 b_M_asks 51 .dup2 52 := ⟨by decide +kernel, rfl⟩
theorem d_M_asks_52 : cd_D 1 b_M_asks 52 .iaload 53 := ⟨by decide +kernel, rfl⟩
theorem d_M_asks_53 : cd_D_aload b_M_asks 53 0 54 := Or.inr ⟨0, ⟨by decide +kernel, rfl⟩, rfl⟩
theorem d_M_asks_54 : cd_D_iload b_M_asks 54 1 55 := Or.inr ⟨1, ⟨by decide +kernel, rfl⟩, rfl⟩
theorem d_M_asks_55 : cd_D 3 b_M_asks 55 (.invokevirtual 121) 58 := ⟨by decide +kernel, rfl⟩
theorem d_M_asks_58 : cd_D 1 b_M_asks 58 .iadd 59 := ⟨by decide +kernel, rfl⟩
theorem d_M_asks_59 : cd_D 1 b_M_asks 59 .iastore 60 := ⟨by decide +kernel, rfl⟩
theorem d_M_asks_60 : cd_D_aload b_M_asks 60 0 61 := Or.inr ⟨0, ⟨by decide +kernel, rfl⟩, rfl⟩
theorem d_M_asks_61 : cd_D_iload b_M_asks 61 1 62 := Or.inr ⟨1, ⟨by decide +kernel, rfl⟩, rfl⟩
theorem d_M_asks_62 : cd_Dk b_M_asks 62 (nI 2) 63 := Or.inl ⟨2, ⟨by decide +kernel, rfl⟩, by decide +kernel⟩
theorem d_M_asks_63 : cd_D_aload b_M_asks 63 0 64 := Or.inr ⟨0, ⟨by decide +kernel, rfl⟩, rfl⟩
theorem d_M_asks_64 : cd_D_iload b_M_asks 64 1 65 := Or.inr ⟨1, ⟨by decide +kernel, rfl⟩, rfl⟩
theorem d_M_asks_65 : cd_Dk b_M_asks 65 (nI 2) 66 := Or.inl ⟨2, ⟨by decide +kernel, rfl⟩, by decide +kernel⟩
theorem d_M_asks_66 : cd_D 3 b_M_asks 66 (.invokevirtual 97) 69 := ⟨by decide +kernel, rfl⟩
theorem d_M_asks_69 : cd_D_aload b_M_asks 69 0 70 := Or.inr ⟨0, ⟨by decide +kernel, rfl⟩, rfl⟩
theorem d_M_asks_70 : cd_D_iload b_M_asks 70 1 71 := Or.inr ⟨1, ⟨by decide +kernel, rfl⟩, rfl⟩
theorem d_M_asks_71 : cd_D 3 b_M_asks 71 (.invokevirtual 118) 74 := ⟨by decide +kernel, rfl⟩
theorem d_M_asks_74 : cd_D 1 b_M_asks 74 .isub 75 := ⟨by decide +kernel, rfl⟩
theorem d_M_asks_75 : cd_Dk b_M_asks 75 (nI 0) 76 := Or.inl ⟨0, ⟨by decide +kernel, rfl⟩, by decide +kernel⟩
theorem d_M_asks_76 : cd_Dk b_M_asks 76 (nI 99) 78 := Or.inr (Or.inl ⟨99, ⟨by decide +kernel, rfl⟩, by decide +kernel⟩)
theorem d_M_asks_78 : cd_D 3 b_M_asks 78 (.invokestatic 104) 81 := ⟨by decide +kernel, rfl⟩
theorem d_M_asks_81 : cd_D 3 b_M_asks 81 (.invokevirtual 79) 84 := ⟨by decide +kernel, rfl⟩
theorem d_M_asks_84 : cd_D 1 b_M_asks 84 .return_ 85 := ⟨by decide +kernel, rfl⟩
theorem c_M_asks {l : Launch} {w : cd_WT} {S : cd_Sp} {I : cd_Mem} {m : Nat} (hM : cd_MO w S m) (mm tc i : Nat) (hV : cd_V (I (m + 1)) mm tc) (hi : i < 12) : cd_C l w m_M_asks 4 0 0 [.ref m, .int (nI i)] S I (cd_Pv S (fun I' => I' (m + 1) = cd_ak (I (m + 1)) i tc ∧ cd_off I I' [m + 1, m + 11, m + 12])) := by
  refine cd_intro (by decide) (by simp [Value.category]) (Nat.le_of_ble_eq_true rfl) ?_
  intro X hO hE
  show cd_J w X 0 0 S I 0 [some (.ref m), some (.int (nI i)), none] []
  refine r_k hO d_M_asks_0 ?_
  refine r_sI2 hO d_M_asks_1 rfl ?_
  refine r_aload hO d_M_asks_2 rfl ?_
  refine r_getR hO f_M_9 rfl hM.2.1 (mo_r1 hM) d_M_asks_3 ?_
  refine r_k hO d_M_asks_6 ?_
  refine r_iald hO (mo_s1 hM) (by omega) (by decide) d_M_asks_8 ?_
  refine r_k hO d_M_asks_9 ?_
  refine r_icmp_ne hO d_M_asks_10 (fun c_10 => ?_) (fun c_10 => ?_)
  · refine r_aload hO d_M_asks_22 rfl ?_
    refine r_iload hO d_M_asks_23 rfl ?_
    refine r_cV1i hO hE (c_M_pressesOf hM mm tc _ hV hi) mf_M_pressesOf lk_M_112 hM.2.1 rfl (by decide) rfl (Nat.le_of_ble_eq_true rfl) d_M_asks_24 (Nat.zero_le _) (Nat.zero_le _) ?_
    rintro x I2 ⟨hx, ho2⟩
    have h2 : I2 (m + 1) = I (m + 1) := ho2 _ (by simp)
    try simp only [cd_set_eq, cd_set_set, h2]
    refine r_aload hO d_M_asks_27 rfl ?_
    refine r_getR hO f_M_9 rfl hM.2.1 (mo_r1 hM) d_M_asks_28 ?_
    try simp only [cd_set_eq, cd_set_set, h2]
    refine r_k hO d_M_asks_31 ?_
    refine r_iald hO (mo_s1 hM) (by omega) (by decide) d_M_asks_32 ?_
    try simp only [cd_set_eq, cd_set_set, h2]
    refine r_icmp_le hO d_M_asks_33 (fun c_33 => ?_) (fun c_33 => ?_)
    · refine r_aload hO d_M_asks_45 rfl ?_
      refine r_getR hO f_M_9 rfl hM.2.1 (mo_r1 hM) d_M_asks_46 ?_
      try simp only [cd_set_eq, cd_set_set, h2]
      refine r_k hO d_M_asks_49 ?_
      refine r_dup2 hO d_M_asks_51 rfl rfl ?_
      refine r_iald hO (mo_s1 hM) (by omega) (by decide) d_M_asks_52 ?_
      try simp only [cd_set_eq, cd_set_set, h2]
      refine r_aload hO d_M_asks_53 rfl ?_
      refine r_iload hO d_M_asks_54 rfl ?_
      refine r_cV1fi hO hE (c_M_scratchesOf hM _ hi) mf_M_scratchesOf lk_M_121 hM.2.1 rfl (by decide) rfl (Nat.le_of_ble_eq_true rfl) d_M_asks_55 (Nat.zero_le _) (Nat.zero_le _) ?_
      try simp only [cd_set_eq, cd_set_set, h2]
      refine r_iadd hO d_M_asks_58 ?_
      refine r_iast hO (mo_s1 hM) (mo_l1 hM) (by omega) (by decide) d_M_asks_59 ?_
      try simp only [cd_set_eq, cd_set_set, h2]
      refine r_aload hO d_M_asks_60 rfl ?_
      refine r_iload hO d_M_asks_61 rfl ?_
      refine r_k hO d_M_asks_62 ?_
      refine r_aload hO d_M_asks_63 rfl ?_
      refine r_iload hO d_M_asks_64 rfl ?_
      refine r_k hO d_M_asks_65 ?_
      refine r_cV2fi hO hE (c_M_of hM _ _ (by omega)) mf_M_of lk_M_97 hM.2.1 rfl (by decide) rfl (Nat.le_of_ble_eq_true rfl) d_M_asks_66 (Nat.zero_le _) (Nat.zero_le _) ?_
      try simp only [cd_set_eq, cd_set_set, h2]
      refine r_aload hO d_M_asks_69 rfl ?_
      refine r_iload hO d_M_asks_70 rfl ?_
      refine r_cV1fi hO hE (c_M_forgetsOf hM _ hi) mf_M_forgetsOf lk_M_118 hM.2.1 rfl (by decide) rfl (Nat.le_of_ble_eq_true rfl) d_M_asks_71 (Nat.zero_le _) (Nat.zero_le _) ?_
      try simp only [cd_set_eq, cd_set_set, h2]
      refine r_isub hO d_M_asks_74 ?_
      refine r_k hO d_M_asks_75 ?_
      refine r_k hO d_M_asks_76 ?_
      refine r_cS3fi hO hE (c_M_within _ _ _) mf_M_within lk_M_104 (by decide) rfl (Nat.le_of_ble_eq_true rfl) d_M_asks_78 (Nat.zero_le _) (Nat.zero_le _) ?_
      try simp only [cd_set_eq, cd_set_set, h2]
      refine r_cV3fv hO hE (c_M_put hM _ _ _ (by omega)) mf_M_put lk_M_79 hM.2.1 rfl (by decide) rfl (Nat.le_of_ble_eq_true rfl) d_M_asks_81 (Nat.zero_le _) (Nat.zero_le _) ?_
      try simp only [cd_set_eq, cd_set_set, h2]
      refine r_vret hO hE (Nat.zero_le _) (Nat.zero_le _) d_M_asks_84 ?_
      exact ⟨rfl, rfl, by rw [cd_set_eq]; unfold cd_ak; rw [if_neg c_10, if_pos (by rw [← hx]; exact c_33)], (ho2.mono (by simp)).tr (cd_off.set _ _ (by simp))⟩
    · refine r_aload hO d_M_asks_36 rfl ?_
      refine r_iload hO d_M_asks_37 rfl ?_
      refine r_cV1fi hO hE (c_M_rises hM _ hi) mf_M_rises lk_M_152 hM.2.1 rfl (by decide) rfl (Nat.le_of_ble_eq_true rfl) d_M_asks_38 (Nat.zero_le _) (Nat.zero_le _) ?_
      try simp only [cd_set_eq, cd_set_set, h2]
      refine r_sI2 hO d_M_asks_41 rfl ?_
      refine r_goto hO d_M_asks_42 ?_
      refine r_vret hO hE (Nat.zero_le _) (Nat.zero_le _) d_M_asks_84 ?_
      exact ⟨rfl, rfl, by rw [cd_set_eq]; unfold cd_ak; rw [if_neg c_10, if_neg (by rw [← hx]; exact c_33)], (ho2.mono (by simp)).tr (cd_off.set _ _ (by simp))⟩
  · refine r_aload hO d_M_asks_13 rfl ?_
    refine r_iload hO d_M_asks_14 rfl ?_
    refine r_cV1fi hO hE (c_M_goesAsMeant hM _ hi) mf_M_goesAsMeant lk_M_149 hM.2.1 rfl (by decide) rfl (Nat.le_of_ble_eq_true rfl) d_M_asks_15 (Nat.zero_le _) (Nat.zero_le _) ?_
    try simp only [cd_set_eq, cd_set_set, h2]
    refine r_sI2 hO d_M_asks_18 rfl ?_
    refine r_goto hO d_M_asks_19 ?_
    refine r_vret hO hE (Nat.zero_le _) (Nat.zero_le _) d_M_asks_84 ?_
    exact ⟨rfl, rfl, by rw [cd_set_eq]; unfold cd_ak; rw [if_pos c_10], cd_off.set _ _ (by simp)⟩
theorem d_M_hour_0 : cd_D_aload b_M_hour 0 0 1 := Or.inr ⟨0, ⟨by decide +kernel, rfl⟩, rfl⟩
theorem d_M_hour_1 : cd_D 3 b_M_hour 1 (.getfield 9) 4 := ⟨by decide +kernel, rfl⟩
theorem d_M_hour_4 : cd_Dk b_M_hour 4 (nI 8) 6 := Or.inr (Or.inl ⟨8, ⟨by decide +kernel, rfl⟩, by decide +kernel⟩)
theorem d_M_hour_6 : cd_D_aload b_M_hour 6 0 7 := Or.inr ⟨0, ⟨by decide +kernel, rfl⟩, rfl⟩
theorem d_M_hour_7 : cd_D 3 b_M_hour 7 (.invokevirtual 138) 10 := ⟨by decide +kernel, rfl⟩
theorem d_M_hour_10 : cd_Dk b_M_hour 10 (nI 100) 12 := Or.inr (Or.inl ⟨100, ⟨by decide +kernel, rfl⟩, by decide +kernel⟩)
theorem d_M_hour_12 : cd_D 1 b_M_hour 12 .irem 13 := ⟨by decide +kernel, rfl⟩
theorem d_M_hour_13 : cd_D_aload b_M_hour 13 0 14 := Or.inr ⟨0, ⟨by decide +kernel, rfl⟩, rfl⟩
theorem d_M_hour_14 : cd_D 3 b_M_hour 14 (.getfield 9) 17 := ⟨by decide +kernel, rfl⟩
theorem d_M_hour_17 : cd_Dk b_M_hour 17 (nI 4) 18 := Or.inl ⟨4, ⟨by decide +kernel, rfl⟩, by decide +kernel⟩
theorem d_M_hour_18 : cd_D 1 b_M_hour 18 .iaload 19 := ⟨by decide +kernel, rfl⟩
theorem d_M_hour_19 : cd_D_icmp_ge b_M_hour 19 26 22 := ⟨7, by decide +kernel, by decide, rfl⟩
theorem d_M_hour_22 : cd_Dk b_M_hour 22 (nI 1) 23 := Or.inl ⟨1, ⟨by decide +kernel, rfl⟩, by decide +kernel⟩
theorem d_M_hour_23 : cd_D_goto b_M_hour 23 27 := ⟨4, by decide +kernel, by decide⟩
theorem d_M_hour_26 : cd_Dk b_M_hour 26 (nI 0) 27 := Or.inl ⟨0, ⟨by decide +kernel, rfl⟩, by decide +kernel⟩
theorem d_M_hour_27 : cd_D 1 b_M_hour 27 .iastore 28 := ⟨by decide +kernel, rfl⟩
theorem d_M_hour_28 : cd_D_aload b_M_hour 28 0 29 := Or.inr ⟨0, ⟨by decide +kernel, rfl⟩, rfl⟩
theorem d_M_hour_29 : cd_D 3 b_M_hour 29 (.getfield 9) 32 := ⟨by decide +kernel, rfl⟩
theorem d_M_hour_32 : cd_Dk b_M_hour 32 (nI 9) 34 := Or.inr (Or.inl ⟨9, ⟨by decide +kernel, rfl⟩, by decide +kernel⟩)
theorem d_M_hour_34 : cd_D_aload b_M_hour 34 0 35 := Or.inr ⟨0, ⟨by decide +kernel, rfl⟩, rfl⟩
theorem d_M_hour_35 : cd_D 3 b_M_hour 35 (.invokevirtual 138) 38 := ⟨by decide +kernel, rfl⟩
theorem d_M_hour_38 : cd_Dk b_M_hour 38 (nI 100) 40 := Or.inr (Or.inl ⟨100, ⟨by decide +kernel, rfl⟩, by decide +kernel⟩)
theorem d_M_hour_40 : cd_D 1 b_M_hour 40 .irem 41 := ⟨by decide +kernel, rfl⟩
theorem d_M_hour_41 : cd_D_aload b_M_hour 41 0 42 := Or.inr ⟨0, ⟨by decide +kernel, rfl⟩, rfl⟩
theorem d_M_hour_42 : cd_D 3 b_M_hour 42 (.getfield 9) 45 := ⟨by decide +kernel, rfl⟩
theorem d_M_hour_45 : cd_Dk b_M_hour 45 (nI 5) 46 := Or.inl ⟨5, ⟨by decide +kernel, rfl⟩, by decide +kernel⟩
theorem d_M_hour_46 : cd_D 1 b_M_hour 46 .iaload 47 := ⟨by decide +kernel, rfl⟩
theorem d_M_hour_47 : cd_D_icmp_ge b_M_hour 47 54 50 := ⟨7, by decide +kernel, by decide, rfl⟩
theorem d_M_hour_50 : cd_Dk b_M_hour 50 (nI 1) 51 := Or.inl ⟨1, ⟨by decide +kernel, rfl⟩, by decide +kernel⟩
theorem d_M_hour_51 : cd_D_goto b_M_hour 51 55 := ⟨4, by decide +kernel, by decide⟩
theorem d_M_hour_54 : cd_Dk b_M_hour 54 (nI 0) 55 := Or.inl ⟨0, ⟨by decide +kernel, rfl⟩, by decide +kernel⟩
theorem d_M_hour_55 : cd_D 1 b_M_hour 55 .iastore 56 := ⟨by decide +kernel, rfl⟩
theorem d_M_hour_56 : cd_Dk b_M_hour 56 (nI 0) 57 := Or.inl ⟨0, ⟨by decide +kernel, rfl⟩, by decide +kernel⟩
theorem d_M_hour_57 : cd_D_istore b_M_hour 57 1 58 := Or.inr ⟨1, ⟨by decide +kernel, rfl⟩, rfl⟩
theorem d_M_hour_58 : cd_D_iload b_M_hour 58 1 59 := Or.inr ⟨1, ⟨by decide +kernel, rfl⟩, rfl⟩
theorem d_M_hour_59 : cd_D_aload b_M_hour 59 0 60 := Or.inr ⟨0, ⟨by decide +kernel, rfl⟩, rfl⟩
theorem d_M_hour_60 : cd_D 3 b_M_hour 60 (.getfield 9) 63 := ⟨by decide +kernel, rfl⟩
theorem d_M_hour_63 : cd_Dk b_M_hour 63 (nI 1) 64 := Or.inl ⟨1, ⟨by decide +kernel, rfl⟩, by decide +kernel⟩
theorem d_M_hour_64 : cd_D 1 b_M_hour 64 .iaload 65 := ⟨by decide +kernel, rfl⟩
theorem d_M_hour_65 : cd_D_icmp_ge b_M_hour 65 113 68 := ⟨48, by decide +kernel, by decide, rfl⟩
theorem d_M_hour_68 : cd_D_aload b_M_hour 68 0 69 := Or.inr ⟨0, ⟨by decide +kernel, rfl⟩, rfl⟩
theorem d_M_hour_69 : cd_D_iload b_M_hour 69 1 70 := Or.inr ⟨1, ⟨by decide +kernel, rfl⟩, rfl⟩
theorem d_M_hour_70 : cd_Dk b_M_hour 70 (nI 1) 71 := Or.inl ⟨1, ⟨by decide +kernel, rfl⟩, by decide +kernel⟩
theorem d_M_hour_71 : cd_D 3 b_M_hour 71 (.invokevirtual 97) 74 := ⟨by decide +kernel, rfl⟩
theorem d_M_hour_74 : cd_D_aload b_M_hour 74 0 75 := Or.inr ⟨0, ⟨by decide +kernel, rfl⟩, rfl⟩
theorem d_M_hour_75 : cd_D 3 b_M_hour 75 (.getfield 9) 78 := ⟨by decide +kernel, rfl⟩
theorem d_M_hour_78 : cd_Dk b_M_hour 78 (nI 2) 79 := Or.inl ⟨2, ⟨by decide +kernel, rfl⟩, by decide +kernel⟩
theorem d_M_hour_79 : cd_D 1 b_M_hour 79 .iaload 80 := ⟨by decide +kernel, rfl⟩
theorem d_M_hour_80 : cd_Dk b_M_hour 80 (nI 24) 82 := Or.inr (Or.inl ⟨24, ⟨by decide +kernel, rfl⟩, by decide +kernel⟩)
theorem d_M_hour_82 : cd_D 1 b_M_hour 82 .irem 83 := ⟨by decide +kernel, rfl⟩
theorem d_M_hour_83 : cd_D_icmp_ne b_M_hour 83 107 86 := ⟨24, by decide +kernel, by decide, rfl⟩
theorem d_M_hour_86 : cd_D_aload b_M_hour 86 0 87 := Or.inr ⟨0, ⟨by decide +kernel, rfl⟩, rfl⟩
theorem d_M_hour_87 : cd_D 3 b_M_hour 87 (.invokevirtual 138) 90 := ⟨by decide +kernel, rfl⟩
theorem d_M_hour_90 : cd_Dk b_M_hour 90 (nI 100) 92 := Or.inr (Or.inl ⟨100, ⟨by decide +kernel, rfl⟩, by decide +kernel⟩)
theorem d_M_hour_92 : cd_D 1 b_M_hour 92 .irem 93 := ⟨by decide +kernel, rfl⟩
theorem d_M_hour_93 : cd_D_aload b_M_hour 93 0 94 := Or.inr ⟨0, ⟨by decide +kernel, rfl⟩, rfl⟩
theorem d_M_hour_94 : cd_D_iload b_M_hour 94 1 95 := Or.inr ⟨1, ⟨by decide +kernel, rfl⟩, rfl⟩
theorem d_M_hour_95 : cd_Dk b_M_hour 95 (nI 2) 96 := Or.inl ⟨2, ⟨by decide +kernel, rfl⟩, by decide +kernel⟩
theorem d_M_hour_96 : cd_D 3 b_M_hour 96 (.invokevirtual 97) 99 := ⟨by decide +kernel, rfl⟩
theorem d_M_hour_99 : cd_D_icmp_ge b_M_hour 99 107 102 := ⟨8, by decide +kernel, by decide, rfl⟩
theorem d_M_hour_102 : cd_D_aload b_M_hour 102 0 103 := Or.inr ⟨0, ⟨by decide +kernel, rfl⟩, rfl⟩
theorem d_M_hour_103 : cd_D_iload b_M_hour 103 1 104 := Or.inr ⟨1, ⟨by decide +kernel, rfl⟩, rfl⟩
theorem d_M_hour_104 : cd_D 3 b_M_hour 104 (.invokevirtual 155) 107 := ⟨by decide +kernel, rfl⟩
theorem d_M_hour_107 : cd_D 3 b_M_hour 107 (.iinc 1 (1)) 110 := ⟨by decide +kernel, rfl⟩
theorem d_M_hour_110 : cd_D_goto b_M_hour 110 58 := ⟨-52, by decide +kernel, by decide⟩
theorem d_M_hour_113 : cd_D_aload b_M_hour 113 0 114 := Or.inr ⟨0, ⟨by decide +kernel, rfl⟩, rfl⟩
theorem d_M_hour_114 : cd_D 3 b_M_hour 114 (.getfield 9) 117 := ⟨by decide +kernel, rfl⟩
theorem d_M_hour_117 : cd_Dk b_M_hour 117 (nI 14) 119 := Or.inr (Or.inl ⟨14, ⟨by decide +kernel, rfl⟩, by decide +kernel⟩)
theorem d_M_hour_119 : cd_D 1 b_M_hour 119 .dup2 120 := ⟨by decide +kernel, rfl⟩
theorem d_M_hour_120 : cd_D 1 b_M_hour 120 .iaload 121 := ⟨by decide +kernel, rfl⟩
theorem d_M_hour_121 : cd_D_aload b_M_hour 121 0 122 := Or.inr ⟨0, ⟨by decide +kernel, rfl⟩, rfl⟩
theorem d_M_hour_122 : cd_D 3 b_M_hour 122 (.getfield 9) 125 := ⟨by decide +kernel, rfl⟩
theorem d_M_hour_125 : cd_Dk b_M_hour 125 (nI 6) 127 := Or.inr (Or.inl ⟨6, ⟨by decide +kernel, rfl⟩, by decide +kernel⟩)
theorem d_M_hour_127 : cd_D 1 b_M_hour 127 .iaload 128 := ⟨by decide +kernel, rfl⟩
theorem d_M_hour_128 : cd_D_aload b_M_hour 128 0 129 := Or.inr ⟨0, ⟨by decide +kernel, rfl⟩, rfl⟩
theorem d_M_hour_129 : cd_D 3 b_M_hour 129 (.getfield 9) 132 := ⟨by decide +kernel, rfl⟩
theorem d_M_hour_132 : cd_Dk b_M_hour 132 (nI 9) 134 := Or.inr (Or.inl ⟨9, ⟨by decide +kernel, rfl⟩, by decide +kernel⟩)
theorem d_M_hour_134 : cd_D 1 b_M_hour 134 .iaload 135 := ⟨by decide +kernel, rfl⟩
theorem d_M_hour_135 : cd_D 1 b_M_hour 135 .imul 136 := ⟨by decide +kernel, rfl⟩
theorem d_M_hour_136 : cd_D 1 b_M_hour 136 .iadd 137 := ⟨by decide +kernel, rfl⟩
theorem d_M_hour_137 : cd_D 1 b_M_hour 137 .iastore 138 := ⟨by decide +kernel, rfl⟩
theorem d_M_hour_138 : cd_D_aload b_M_hour 138 0 139 := Or.inr ⟨0, ⟨by decide +kernel, rfl⟩, rfl⟩
theorem d_M_hour_139 : cd_D 3 b_M_hour 139 (.getfield 9) 142 := ⟨by decide +kernel, rfl⟩
theorem d_M_hour_142 : cd_Dk b_M_hour 142 (nI 2) 143 := Or.inl ⟨2, ⟨by decide +kernel, rfl⟩, by decide +kernel⟩
theorem d_M_hour_143 : cd_D 1 b_M_hour 143 .dup2 144 := ⟨by decide +kernel, rfl⟩
theorem d_M_hour_144 : cd_D 1 b_M_hour 144 .iaload 145 := ⟨by decide +kernel, rfl⟩
theorem d_M_hour_145 : cd_Dk b_M_hour 145 (nI 1) 146 := Or.inl ⟨1, ⟨by decide +kernel, rfl⟩, by decide +kernel⟩
theorem d_M_hour_146 : cd_D 1 b_M_hour 146 .iadd 147 := ⟨by decide +kernel, rfl⟩
theorem d_M_hour_147 : cd_D 1 b_M_hour 147 .iastore 148 := ⟨by decide +kernel, rfl⟩
theorem d_M_hour_148 : cd_D 1 b_M_hour 148 .return_ 149 := ⟨by decide +kernel, rfl⟩
theorem c_M_hour {l : Launch} {w : cd_WT} {S : cd_Sp} {I : cd_Mem} {m : Nat} (hM : cd_MO w S m) (mm tc : Nat) (hV : cd_V (I (m + 1)) mm tc) : cd_C l w m_M_hour 5 0 0 [.ref m] S I (cd_Pv S (fun I' => I' (m + 1) = cd_hr (I (m + 1)) mm tc ∧ cd_off I I' [m + 1, m + 11, m + 12])) := by
  refine cd_intro (by decide) (by simp [Value.category]) (Nat.le_of_ble_eq_true rfl) ?_
  intro X hO hE
  show cd_J w X 0 0 S I 0 [some (.ref m), none] []
  obtain ⟨hN1, hmm, hN15, htc, hTW⟩ := id hV
  have hVL : ∀ i, i ≤ 12 → cd_V (cd_lp (cd_w2 (cd_w1 (I (m + 1)))) tc i) mm tc := fun i hi => hV.kq (kq_tr (kq_tr (kq_w1 _) (kq_w2 _)) (kq_lp _ tc i hi))
  have loop : ∀ (r i : Nat) (L : Nat → Int32) (I1 : cd_Mem), i + r = mm → L = cd_lp (cd_w2 (cd_w1 (I (m + 1)))) tc i → I1 (m + 1) = L → cd_off I I1 [m + 1, m + 11, m + 12] → cd_J w X 0 0 S I1 58 [some (.ref m), some (.int (nI i))] [] := by
    intro r
    induction r with
    | zero =>
      intro i L I1 hi hL hI1 ho
      have him : i = mm := by omega
      subst him
      have hL1 : L 1 = nI i := by rw [hL]; exact (hVL i hmm).1
      refine r_iload hO d_M_hour_58 rfl ?_
      refine r_aload hO d_M_hour_59 rfl ?_
      refine r_getR hO f_M_9 rfl hM.2.1 (mo_r1 hM) d_M_hour_60 ?_
      try simp only [hI1, cd_set_eq, cd_set_set]
      refine r_k hO d_M_hour_63 ?_
      refine r_iald hO (mo_s1 hM) (by omega) (by decide) d_M_hour_64 ?_
      try simp only [hI1, cd_set_eq, cd_set_set]
      refine r_tops hL1 ?_
      refine r_icmp_ge hO d_M_hour_65 (fun c_65 => ?_) (fun c_65 => ?_)
      · refine r_aload hO d_M_hour_113 rfl ?_
        refine r_getR hO f_M_9 rfl hM.2.1 (mo_r1 hM) d_M_hour_114 ?_
        try simp only [hI1, cd_set_eq, cd_set_set]
        refine r_k hO d_M_hour_117 ?_
        refine r_dup2 hO d_M_hour_119 rfl rfl ?_
        refine r_iald hO (mo_s1 hM) (by omega) (by decide) d_M_hour_120 ?_
        try simp only [hI1, cd_set_eq, cd_set_set]
        refine r_aload hO d_M_hour_121 rfl ?_
        refine r_getR hO f_M_9 rfl hM.2.1 (mo_r1 hM) d_M_hour_122 ?_
        try simp only [hI1, cd_set_eq, cd_set_set]
        refine r_k hO d_M_hour_125 ?_
        refine r_iald hO (mo_s1 hM) (by omega) (by decide) d_M_hour_127 ?_
        try simp only [hI1, cd_set_eq, cd_set_set]
        refine r_aload hO d_M_hour_128 rfl ?_
        refine r_getR hO f_M_9 rfl hM.2.1 (mo_r1 hM) d_M_hour_129 ?_
        try simp only [hI1, cd_set_eq, cd_set_set]
        refine r_k hO d_M_hour_132 ?_
        refine r_iald hO (mo_s1 hM) (by omega) (by decide) d_M_hour_134 ?_
        try simp only [hI1, cd_set_eq, cd_set_set]
        refine r_imul hO d_M_hour_135 ?_
        refine r_iadd hO d_M_hour_136 ?_
        refine r_iast hO (mo_s1 hM) (mo_l1 hM) (by omega) (by decide) d_M_hour_137 ?_
        try simp only [hI1, cd_set_eq, cd_set_set]
        refine r_aload hO d_M_hour_138 rfl ?_
        refine r_getR hO f_M_9 rfl hM.2.1 (mo_r1 hM) d_M_hour_139 ?_
        try simp only [hI1, cd_set_eq, cd_set_set]
        refine r_k hO d_M_hour_142 ?_
        refine r_dup2 hO d_M_hour_143 rfl rfl ?_
        refine r_iald hO (mo_s1 hM) (by omega) (by decide) d_M_hour_144 ?_
        try simp only [hI1, cd_set_eq, cd_set_set]
        refine r_k hO d_M_hour_145 ?_
        refine r_iadd hO d_M_hour_146 ?_
        refine r_iast hO (mo_s1 hM) (mo_l1 hM) (by omega) (by decide) d_M_hour_147 ?_
        try simp only [hI1, cd_set_eq, cd_set_set]
        refine r_vret hO hE (Nat.zero_le _) (Nat.zero_le _) d_M_hour_148 ?_
        exact ⟨rfl, rfl, by rw [cd_set_eq, hL]; rfl, ho.tr (cd_off.set _ _ (by simp))⟩
      · exact absurd (nI_le (Nat.le_refl _) (by omega)) c_65
    | succ r ih =>
      intro i L I1 hi hL hI1 ho
      have hVi := hVL i (by omega)
      rw [← hL] at hVi
      have hL1 : L 1 = nI mm := hVi.1
      refine r_iload hO d_M_hour_58 rfl ?_
      refine r_aload hO d_M_hour_59 rfl ?_
      refine r_getR hO f_M_9 rfl hM.2.1 (mo_r1 hM) d_M_hour_60 ?_
      try simp only [hI1, cd_set_eq, cd_set_set]
      refine r_k hO d_M_hour_63 ?_
      refine r_iald hO (mo_s1 hM) (by omega) (by decide) d_M_hour_64 ?_
      try simp only [hI1, cd_set_eq, cd_set_set]
      refine r_tops hL1 ?_
      refine r_icmp_ge hO d_M_hour_65 (fun c_65 => ?_) (fun c_65 => ?_)
      · exact absurd c_65 (nI_ge (by omega) (by omega))
      · refine r_aload hO d_M_hour_68 rfl ?_
        refine r_iload hO d_M_hour_69 rfl ?_
        refine r_k hO d_M_hour_70 ?_
        refine r_cV2fi hO hE (c_M_of hM _ _ (by omega)) mf_M_of lk_M_97 hM.2.1 rfl (by decide) rfl (Nat.le_of_ble_eq_true rfl) d_M_hour_71 (Nat.zero_le _) (Nat.zero_le _) ?_
        try simp only [hI1, cd_set_eq, cd_set_set]
        refine r_aload hO d_M_hour_74 rfl ?_
        refine r_getR hO f_M_9 rfl hM.2.1 (mo_r1 hM) d_M_hour_75 ?_
        try simp only [hI1, cd_set_eq, cd_set_set]
        refine r_k hO d_M_hour_78 ?_
        refine r_iald hO (mo_s1 hM) (by omega) (by decide) d_M_hour_79 ?_
        try simp only [hI1, cd_set_eq, cd_set_set]
        refine r_k hO d_M_hour_80 ?_
        refine r_irem hO d_M_hour_82 (by decide) ?_
        refine r_icmp_ne hO d_M_hour_83 (fun c_83 => ?_) (fun c_83 => ?_)
        · refine r_incN1 hO d_M_hour_107 rfl ?_
          refine r_goto hO d_M_hour_110 ?_
          exact ih (i + 1) _ _ (by omega) rfl (by rw [hI1, hL]; show _ = cd_one (cd_lp _ _ _) i tc; rw [← hL]; unfold cd_one; rw [if_neg c_83]) ho
        · refine r_aload hO d_M_hour_86 rfl ?_
          refine r_cV0fi hO hE (c_M_draw hM) mf_M_draw lk_M_138 hM.2.1 rfl (by decide) rfl (Nat.le_of_ble_eq_true rfl) d_M_hour_87 (Nat.zero_le _) (Nat.zero_le _) ?_
          try simp only [hI1, cd_set_eq, cd_set_set]
          refine r_k hO d_M_hour_90 ?_
          refine r_irem hO d_M_hour_92 (by decide) ?_
          refine r_aload hO d_M_hour_93 rfl ?_
          refine r_iload hO d_M_hour_94 rfl ?_
          refine r_k hO d_M_hour_95 ?_
          refine r_cV2fi hO hE (c_M_of hM _ _ (by omega)) mf_M_of lk_M_97 hM.2.1 rfl (by decide) rfl (Nat.le_of_ble_eq_true rfl) d_M_hour_96 (Nat.zero_le _) (Nat.zero_le _) ?_
          try simp only [hI1, cd_set_eq, cd_set_set]
          refine r_icmp_ge hO d_M_hour_99 (fun c_99 => ?_) (fun c_99 => ?_)
          · refine r_incN1 hO d_M_hour_107 rfl ?_
            refine r_goto hO d_M_hour_110 ?_
            exact ih (i + 1) _ _ (by omega) rfl (by rw [cd_set_eq, hL]; show _ = cd_one (cd_lp _ _ _) i tc; rw [← hL]; unfold cd_one; rw [if_pos c_83, if_pos c_99]) (ho.tr (cd_off.set _ _ (by simp)))
          · refine r_aload hO d_M_hour_102 rfl ?_
            refine r_iload hO d_M_hour_103 rfl ?_
            refine r_cV1v hO hE (c_M_asks hM mm tc _ (by rw [cd_set_eq]; exact hVi.kq (kq_dr _)) (by omega)) mf_M_asks lk_M_155 hM.2.1 rfl (by decide) rfl (Nat.le_of_ble_eq_true rfl) d_M_hour_104 (Nat.zero_le _) (Nat.zero_le _) ?_
            rintro I2 ⟨h2, ho2⟩
            rw [cd_set_eq] at h2
            try simp only [hI1, cd_set_eq, cd_set_set]
            refine r_incN1 hO d_M_hour_107 rfl ?_
            refine r_goto hO d_M_hour_110 ?_
            exact ih (i + 1) _ I2 (by omega) rfl (h2.trans (by rw [hL]; show _ = cd_one (cd_lp _ _ _) i tc; rw [← hL]; unfold cd_one; rw [if_pos c_83, if_neg c_99])) (ho.tr ((cd_off.set _ _ (by simp)).tr ho2))
  refine r_aload hO d_M_hour_0 rfl ?_
  refine r_getR hO f_M_9 rfl hM.2.1 (mo_r1 hM) d_M_hour_1 ?_
  refine r_k hO d_M_hour_4 ?_
  refine r_aload hO d_M_hour_6 rfl ?_
  refine r_cV0fi hO hE (c_M_draw hM) mf_M_draw lk_M_138 hM.2.1 rfl (by decide) rfl (Nat.le_of_ble_eq_true rfl) d_M_hour_7 (Nat.zero_le _) (Nat.zero_le _) ?_
  try simp only [cd_set_eq, cd_set_set]
  refine r_k hO d_M_hour_10 ?_
  refine r_irem hO d_M_hour_12 (by decide) ?_
  refine r_aload hO d_M_hour_13 rfl ?_
  refine r_getR hO f_M_9 rfl hM.2.1 (mo_r1 hM) d_M_hour_14 ?_
  try simp only [cd_set_eq, cd_set_set]
  refine r_k hO d_M_hour_17 ?_
  refine r_iald hO (mo_s1 hM) (by omega) (by decide) d_M_hour_18 ?_
  try simp only [cd_set_eq, cd_set_set]
  refine r_jn2 (pcJ := 27) (fun v => v = if cd_dr (I (m + 1)) 4 ≤ cd_rem (cd_dv (I (m + 1))) (nI 100) then nI 0 else nI 1) (fun v_19 hv_19 => ?_) (fun hj_19 => ?_)
  · subst hv_19
    refine r_iast hO (mo_s1 hM) (mo_l1 hM) (by omega) (by decide) d_M_hour_27 ?_
    try simp only [cd_set_eq, cd_set_set]
    refine r_mem (show _ = cd_set I (m + 1) (cd_w1 (I (m + 1))) from rfl) ?_
    refine r_aload hO d_M_hour_28 rfl ?_
    refine r_getR hO f_M_9 rfl hM.2.1 (mo_r1 hM) d_M_hour_29 ?_
    try simp only [cd_set_eq, cd_set_set]
    refine r_k hO d_M_hour_32 ?_
    refine r_aload hO d_M_hour_34 rfl ?_
    refine r_cV0fi hO hE (c_M_draw hM) mf_M_draw lk_M_138 hM.2.1 rfl (by decide) rfl (Nat.le_of_ble_eq_true rfl) d_M_hour_35 (Nat.zero_le _) (Nat.zero_le _) ?_
    try simp only [cd_set_eq, cd_set_set]
    refine r_k hO d_M_hour_38 ?_
    refine r_irem hO d_M_hour_40 (by decide) ?_
    refine r_aload hO d_M_hour_41 rfl ?_
    refine r_getR hO f_M_9 rfl hM.2.1 (mo_r1 hM) d_M_hour_42 ?_
    try simp only [cd_set_eq, cd_set_set]
    refine r_k hO d_M_hour_45 ?_
    refine r_iald hO (mo_s1 hM) (by omega) (by decide) d_M_hour_46 ?_
    try simp only [cd_set_eq, cd_set_set]
    refine r_jn2 (pcJ := 55) (fun v => v = if cd_dr (cd_w1 (I (m + 1))) 5 ≤ cd_rem (cd_dv (cd_w1 (I (m + 1)))) (nI 100) then nI 0 else nI 1) (fun v_47 hv_47 => ?_) (fun hj_47 => ?_)
    · subst hv_47
      refine r_iast hO (mo_s1 hM) (mo_l1 hM) (by omega) (by decide) d_M_hour_55 ?_
      try simp only [cd_set_eq, cd_set_set]
      refine r_mem (show _ = cd_set I (m + 1) (cd_w2 (cd_w1 (I (m + 1)))) from rfl) ?_
      refine r_k hO d_M_hour_56 ?_
      refine r_sI1 hO d_M_hour_57 rfl ?_
      exact loop mm 0 _ _ (by omega) rfl (by rw [cd_set_eq]; rfl) (cd_off.set _ _ (by simp))
    · refine r_icmp_ge hO d_M_hour_47 (fun c_47 => ?_) (fun c_47 => ?_)
      · refine r_k hO d_M_hour_54 ?_
        exact hj_47 _ (by simp only [c_47, if_true, if_false])
      · refine r_k hO d_M_hour_50 ?_
        refine r_goto hO d_M_hour_51 ?_
        exact hj_47 _ (by simp only [c_47, if_true, if_false])
  · refine r_icmp_ge hO d_M_hour_19 (fun c_19 => ?_) (fun c_19 => ?_)
    · refine r_k hO d_M_hour_26 ?_
      exact hj_19 _ (by simp only [c_19, if_true, if_false])
    · refine r_k hO d_M_hour_22 ?_
      refine r_goto hO d_M_hour_23 ?_
      exact hj_19 _ (by simp only [c_19, if_true, if_false])
theorem d_M_goesOn_0 : cd_Dk b_M_goesOn 0 (nI 0) 1 := Or.inl ⟨0, ⟨by decide +kernel, rfl⟩, by decide +kernel⟩
theorem d_M_goesOn_1 : cd_D_istore b_M_goesOn 1 2 2 := Or.inr ⟨2, ⟨by decide +kernel, rfl⟩, rfl⟩
theorem d_M_goesOn_2 : cd_D_iload b_M_goesOn 2 2 3 := Or.inr ⟨2, ⟨by decide +kernel, rfl⟩, rfl⟩
theorem d_M_goesOn_3 : cd_D_iload b_M_goesOn 3 1 4 := Or.inr ⟨1, ⟨by decide +kernel, rfl⟩, rfl⟩
theorem d_M_goesOn_4 : cd_D_icmp_ge b_M_goesOn 4 17 7 := ⟨13, by decide +kernel, by decide, rfl⟩
theorem d_M_goesOn_7 : cd_D_aload b_M_goesOn 7 0 8 := Or.inr ⟨0, ⟨by decide +kernel, rfl⟩, rfl⟩
theorem d_M_goesOn_8 : cd_D 3 b_M_goesOn 8 (.invokevirtual 158) 11 := ⟨by decide +kernel, rfl⟩
theorem d_M_goesOn_11 : cd_D 3 b_M_goesOn 11 (.iinc 2 (1)) 14 := ⟨by decide +kernel, rfl⟩
theorem d_M_goesOn_14 : cd_D_goto b_M_goesOn 14 2 := ⟨-12, by decide +kernel, by decide⟩
theorem d_M_goesOn_17 : cd_D 1 b_M_goesOn 17 .return_ 18 := ⟨by decide +kernel, rfl⟩
theorem c_M_goesOn {l : Launch} {w : cd_WT} {S : cd_Sp} {I : cd_Mem} {m : Nat} (hM : cd_MO w S m) (mm tc n : Nat) (hn : n < 2 ^ 31) (hV : cd_V (I (m + 1)) mm tc) : cd_C l w m_M_goesOn 6 0 0 [.ref m, .int (nI n)] S I (cd_Pv S (fun I' => I' (m + 1) = cd_hs (I (m + 1)) mm tc n ∧ cd_off I I' [m + 1, m + 11, m + 12])) := by
  refine cd_intro (by decide) (by simp [Value.category]) (Nat.le_of_ble_eq_true rfl) ?_
  intro X hO hE
  show cd_J w X 0 0 S I 0 [some (.ref m), some (.int (nI n)), none] []
  have hmm := hV.2.1
  have loop : ∀ (r k : Nat) (I1 : cd_Mem), k + r = n → I1 (m + 1) = cd_hs (I (m + 1)) mm tc k → cd_off I I1 [m + 1, m + 11, m + 12] → cd_J w X 0 0 S I1 2 [some (.ref m), some (.int (nI n)), some (.int (nI k))] [] := by
    intro r
    induction r with
    | zero =>
      intro k I1 hk hI1 ho
      have hkn : k = n := by omega
      subst hkn
      refine r_iload hO d_M_goesOn_2 rfl ?_
      refine r_iload hO d_M_goesOn_3 rfl ?_
      refine r_icmp_ge hO d_M_goesOn_4 (fun c_4 => ?_) (fun c_4 => ?_)
      · refine r_vret hO hE (Nat.zero_le _) (Nat.zero_le _) d_M_goesOn_17 ?_
        exact ⟨rfl, rfl, hI1, ho⟩
      · exact absurd (nI_le (Nat.le_refl _) (by omega)) c_4
    | succ r ih =>
      intro k I1 hk hI1 ho
      refine r_iload hO d_M_goesOn_2 rfl ?_
      refine r_iload hO d_M_goesOn_3 rfl ?_
      refine r_icmp_ge hO d_M_goesOn_4 (fun c_4 => ?_) (fun c_4 => ?_)
      · exact absurd c_4 (nI_ge (by omega) (by omega))
      · refine r_aload hO d_M_goesOn_7 rfl ?_
        refine r_cV0v hO hE (c_M_hour hM mm tc (by rw [hI1]; exact hV.kq (kq_hs _ hmm tc k))) mf_M_hour lk_M_158 hM.2.1 rfl (by decide) rfl (Nat.le_of_ble_eq_true rfl) d_M_goesOn_8 (Nat.zero_le _) (Nat.zero_le _) ?_
        rintro I2 ⟨h2, ho2⟩
        rw [hI1] at h2
        refine r_incN2 hO d_M_goesOn_11 rfl ?_
        refine r_goto hO d_M_goesOn_14 ?_
        exact ih (k + 1) I2 (by omega) h2 (ho.tr ho2)
  refine r_k hO d_M_goesOn_0 ?_
  refine r_sI2 hO d_M_goesOn_1 rfl ?_
  exact loop n 0 I (by omega) rfl (cd_off.rf _ _)
theorem d_M_habits_0 : cd_Dk b_M_habits 0 (nI 0) 1 := Or.inl ⟨0, ⟨by decide +kernel, rfl⟩, by decide +kernel⟩
theorem d_M_habits_1 : cd_D_istore b_M_habits 1 1 2 := Or.inr ⟨1, ⟨by decide +kernel, rfl⟩, rfl⟩
theorem d_M_habits_2 : cd_Dk b_M_habits 2 (nI 0) 3 := Or.inl ⟨0, ⟨by decide +kernel, rfl⟩, by decide +kernel⟩
theorem d_M_habits_3 : cd_D_istore b_M_habits 3 2 4 := Or.inr ⟨2, ⟨by decide +kernel, rfl⟩, rfl⟩
theorem d_M_habits_4 : cd_D_iload b_M_habits 4 2 5 := Or.inr ⟨2, ⟨by decide +kernel, rfl⟩, rfl⟩
theorem d_M_habits_5 : cd_D_aload b_M_habits 5 0 6 := Or.inr ⟨0, ⟨by decide +kernel, rfl⟩, rfl⟩
theorem d_M_habits_6 : cd_D 3 b_M_habits 6 (.getfield 9) 9 := ⟨by decide +kernel, rfl⟩
theorem d_M_habits_9 : cd_Dk b_M_habits 9 (nI 1) 10 := Or.inl ⟨1, ⟨by decide +kernel, rfl⟩, by decide +kernel⟩
theorem d_M_habits_10 : cd_D 1 b_M_habits 10 .iaload 11 := ⟨by decide +kernel, rfl⟩
theorem d_M_habits_11 : cd_D_icmp_ge b_M_habits 11 29 14 := ⟨18, by decide +kernel, by decide, rfl⟩
theorem d_M_habits_14 : cd_D_iload b_M_habits 14 1 15 := Or.inr ⟨1, ⟨by decide +kernel, rfl⟩, rfl⟩
theorem d_M_habits_15 : cd_D_aload b_M_habits 15 0 16 := Or.inr ⟨0, ⟨by decide +kernel, rfl⟩, rfl⟩
theorem d_M_habits_16 : cd_D_iload b_M_habits 16 2 17 := Or.inr ⟨2, ⟨by decide +kernel, rfl⟩, rfl⟩
theorem d_M_habits_17 : cd_Dk b_M_habits 17 (nI 2) 18 := Or.inl ⟨2, ⟨by decide +kernel, rfl⟩, by decide +kernel⟩
theorem d_M_habits_18 : cd_D 3 b_M_habits 18 (.invokevirtual 97) 21 := ⟨by decide +kernel, rfl⟩
theorem d_M_habits_21 : cd_D 1 b_M_habits 21 .iadd 22 := ⟨by decide +kernel, rfl⟩
theorem d_M_habits_22 : cd_D_istore b_M_habits 22 1 23 := Or.inr ⟨1, ⟨by decide +kernel, rfl⟩, rfl⟩
theorem d_M_habits_23 : cd_D 3 b_M_habits 23 (.iinc 2 (1)) 26 := ⟨by decide +kernel, rfl⟩
theorem d_M_habits_26 : cd_D_goto b_M_habits 26 4 := ⟨-22, by decide +kernel, by decide⟩
theorem d_M_habits_29 : cd_D_iload b_M_habits 29 1 30 := Or.inr ⟨1, ⟨by decide +kernel, rfl⟩, rfl⟩
theorem d_M_habits_30 : cd_D 1 b_M_habits 30 .ireturn 31 := ⟨by decide +kernel, rfl⟩
theorem c_M_habits {l : Launch} {w : cd_WT} {S : cd_Sp} {I : cd_Mem} {m : Nat} (hM : cd_MO w S m) (mm : Nat) (hN1 : I (m + 1) 1 = nI mm) (hmm : mm ≤ 12) : cd_C l w m_M_habits 1 0 0 [.ref m] S I (cd_Fi S (cd_hb (I (m + 1)) mm) I) := by
  refine cd_intro (by decide) (by simp [Value.category]) (Nat.le_of_ble_eq_true rfl) ?_
  intro X hO hE
  show cd_J w X 0 0 S I 0 [some (.ref m), none, none] []
  have loop : ∀ (r i : Nat), i + r = mm → cd_J w X 0 0 S I 4 [some (.ref m), some (.int (cd_hb (I (m + 1)) i)), some (.int (nI i))] [] := by
    intro r
    induction r with
    | zero =>
      intro i hi
      have him : i = mm := by omega
      subst him
      refine r_iload hO d_M_habits_4 rfl ?_
      refine r_aload hO d_M_habits_5 rfl ?_
      refine r_getR hO f_M_9 rfl hM.2.1 (mo_r1 hM) d_M_habits_6 ?_
      refine r_k hO d_M_habits_9 ?_
      refine r_iald hO (mo_s1 hM) (by omega) (by decide) d_M_habits_10 ?_
      refine r_tops hN1 ?_
      refine r_icmp_ge hO d_M_habits_11 (fun c_11 => ?_) (fun c_11 => ?_)
      · refine r_iload hO d_M_habits_29 rfl ?_
        refine r_iret hO hE (Nat.zero_le _) (Nat.zero_le _) d_M_habits_30 ?_
        exact ⟨rfl, rfl, rfl⟩
      · exact absurd (nI_le (Nat.le_refl _) (by omega)) c_11
    | succ r ih =>
      intro i hi
      refine r_iload hO d_M_habits_4 rfl ?_
      refine r_aload hO d_M_habits_5 rfl ?_
      refine r_getR hO f_M_9 rfl hM.2.1 (mo_r1 hM) d_M_habits_6 ?_
      refine r_k hO d_M_habits_9 ?_
      refine r_iald hO (mo_s1 hM) (by omega) (by decide) d_M_habits_10 ?_
      refine r_tops hN1 ?_
      refine r_icmp_ge hO d_M_habits_11 (fun c_11 => ?_) (fun c_11 => ?_)
      · exact absurd c_11 (nI_ge (by omega) (by omega))
      · refine r_iload hO d_M_habits_14 rfl ?_
        refine r_aload hO d_M_habits_15 rfl ?_
        refine r_iload hO d_M_habits_16 rfl ?_
        refine r_k hO d_M_habits_17 ?_
        refine r_cV2fi hO hE (c_M_of hM _ _ (by omega)) mf_M_of lk_M_97 hM.2.1 rfl (by decide) rfl (Nat.le_of_ble_eq_true rfl) d_M_habits_18 (Nat.zero_le _) (Nat.zero_le _) ?_
        refine r_iadd hO d_M_habits_21 ?_
        refine r_sI1 hO d_M_habits_22 rfl ?_
        refine r_incN2 hO d_M_habits_23 rfl ?_
        refine r_goto hO d_M_habits_26 ?_
        exact ih (i + 1) (by omega)
  refine r_k hO d_M_habits_0 ?_
  refine r_sI1 hO d_M_habits_1 rfl ?_
  refine r_k hO d_M_habits_2 ?_
  refine r_sI2 hO d_M_habits_3 rfl ?_
  exact loop mm 0 (by omega)
theorem d_M_thinks_0 : cd_Dk b_M_thinks 0 (nI 0) 1 := Or.inl ⟨0, ⟨by decide +kernel, rfl⟩, by decide +kernel⟩
theorem d_M_thinks_1 : cd_D_istore b_M_thinks 1 1 2 := Or.inr ⟨1, ⟨by decide +kernel, rfl⟩, rfl⟩
theorem d_M_thinks_2 : cd_D_iload b_M_thinks 2 1 3 := Or.inr ⟨1, ⟨by decide +kernel, rfl⟩, rfl⟩
theorem d_M_thinks_3 : cd_Dk b_M_thinks 3 (nI 76) 5 := Or.inr (Or.inl ⟨76, ⟨by decide +kernel, rfl⟩, by decide +kernel⟩)
theorem d_M_thinks_5 : cd_D_icmp_ge b_M_thinks 5 26 8 := ⟨21, by decide +kernel, by decide, rfl⟩
theorem d_M_thinks_8 : cd_D_aload b_M_thinks 8 0 9 := Or.inr ⟨0, ⟨by decide +kernel, rfl⟩, rfl⟩
theorem d_M_thinks_9 : cd_D 3 b_M_thinks 9 (.getfield 19) 12 := ⟨by decide +kernel, rfl⟩
theorem d_M_thinks_12 : cd_D_iload b_M_thinks 12 1 13 := Or.inr ⟨1, ⟨by decide +kernel, rfl⟩, rfl⟩
theorem d_M_thinks_13 : cd_D_aload b_M_thinks 13 0 14 := Or.inr ⟨0, ⟨by decide +kernel, rfl⟩, rfl⟩
theorem d_M_thinks_14 : cd_D 3 b_M_thinks 14 (.getfield 9) 17 := ⟨by decide +kernel, rfl⟩
theorem d_M_thinks_17 : cd_D_iload b_M_thinks 17 1 18 := Or.inr ⟨1, ⟨by decide +kernel, rfl⟩, rfl⟩
theorem d_M_thinks_18 : cd_D 1 b_M_thinks 18 .iaload 19 := ⟨by decide +kernel, rfl⟩
theorem d_M_thinks_19 : cd_D 1 b_M_thinks 19 .iastore 20 := ⟨by decide +kernel, rfl⟩
theorem d_M_thinks_20 : cd_D 3 b_M_thinks 20 (.iinc 1 (1)) 23 := ⟨by decide +kernel, rfl⟩
theorem d_M_thinks_23 : cd_D_goto b_M_thinks 23 2 := ⟨-21, by decide +kernel, by decide⟩
theorem d_M_thinks_26 : cd_D 1 b_M_thinks 26 .return_ 27 := ⟨by decide +kernel, rfl⟩
theorem c_M_thinks {l : Launch} {w : cd_WT} {S : cd_Sp} {I : cd_Mem} {m : Nat} (hM : cd_MO w S m)  : cd_C l w m_M_thinks 0 0 0 [.ref m] S I (cd_Fv S (cd_set I (m + 4) (cd_cp 76 (I (m + 1)) (I (m + 4))))) := by
  refine cd_intro (by decide) (by simp [Value.category]) (Nat.le_of_ble_eq_true rfl) ?_
  intro X hO hE
  show cd_J w X 0 0 S I 0 [some (.ref m), none] []
  have loop : ∀ (r k : Nat), k + r = 76 → cd_J w X 0 0 S (cd_set I (m + 4) (cd_cp k (I (m + 1)) (I (m + 4)))) 2 [some (.ref m), some (.int (nI k))] [] := by
    intro r
    induction r with
    | zero =>
      intro k hk
      have hk6 : k = 76 := by omega
      subst hk6
      refine r_iload hO d_M_thinks_2 rfl ?_
      refine r_k hO d_M_thinks_3 ?_
      refine r_icmp_ge hO d_M_thinks_5 (fun c_5 => ?_) (fun c_5 => ?_)
      · refine r_vret hO hE (Nat.zero_le _) (Nat.zero_le _) d_M_thinks_26 ?_
        exact ⟨rfl, rfl, rfl⟩
      · exact absurd (nI_le (Nat.le_refl _) (by omega)) c_5
    | succ r ih =>
      intro k hk
      refine r_iload hO d_M_thinks_2 rfl ?_
      refine r_k hO d_M_thinks_3 ?_
      refine r_icmp_ge hO d_M_thinks_5 (fun c_5 => ?_) (fun c_5 => ?_)
      · exact absurd c_5 (nI_ge (by omega) (by omega))
      · refine r_aload hO d_M_thinks_8 rfl ?_
        refine r_getR hO f_M_19 rfl hM.2.1 (mo_r4 hM) d_M_thinks_9 ?_
        refine r_iload hO d_M_thinks_12 rfl ?_
        refine r_aload hO d_M_thinks_13 rfl ?_
        refine r_getR hO f_M_9 rfl hM.2.1 (mo_r1 hM) d_M_thinks_14 ?_
        refine r_iload hO d_M_thinks_17 rfl ?_
        refine r_iald hO (mo_s1 hM) (by omega) (by decide) d_M_thinks_18 ?_
        refine r_iast hO (mo_s4 hM) (mo_l4 hM) (by omega) (by decide) d_M_thinks_19 ?_
        simp (disch := omega) only [cd_set_eq, cd_set_ne, cd_set_set]
        rw [cd_cp_s]
        refine r_incN1 hO d_M_thinks_20 rfl ?_
        refine r_goto hO d_M_thinks_23 ?_
        exact ih (k + 1) (by omega)
  refine r_k hO d_M_thinks_0 ?_
  refine r_sI1 hO d_M_thinks_1 rfl ?_
  refine r_mem (show I = cd_set I (m + 4) (cd_cp 0 (I (m + 1)) (I (m + 4))) by rw [cd_cp_0, cd_set_self]) ?_
  exact loop 76 0 (by omega)
theorem d_M_putsBack_0 : cd_Dk b_M_putsBack 0 (nI 0) 1 := Or.inl ⟨0, ⟨by decide +kernel, rfl⟩, by decide +kernel⟩
theorem d_M_putsBack_1 : cd_D_istore b_M_putsBack 1 1 2 := Or.inr ⟨1, ⟨by decide +kernel, rfl⟩, rfl⟩
theorem d_M_putsBack_2 : cd_D_iload b_M_putsBack 2 1 3 := Or.inr ⟨1, ⟨by decide +kernel, rfl⟩, rfl⟩
theorem d_M_putsBack_3 : cd_Dk b_M_putsBack 3 (nI 76) 5 := Or.inr (Or.inl ⟨76, ⟨by decide +kernel, rfl⟩, by decide +kernel⟩)
theorem d_M_putsBack_5 : cd_D_icmp_ge b_M_putsBack 5 26 8 := ⟨21, by decide +kernel, by decide, rfl⟩
theorem d_M_putsBack_8 : cd_D_aload b_M_putsBack 8 0 9 := Or.inr ⟨0, ⟨by decide +kernel, rfl⟩, rfl⟩
theorem d_M_putsBack_9 : cd_D 3 b_M_putsBack 9 (.getfield 9) 12 := ⟨by decide +kernel, rfl⟩
theorem d_M_putsBack_12 : cd_D_iload b_M_putsBack 12 1 13 := Or.inr ⟨1, ⟨by decide +kernel, rfl⟩, rfl⟩
theorem d_M_putsBack_13 : cd_D_aload b_M_putsBack 13 0 14 := Or.inr ⟨0, ⟨by decide +kernel, rfl⟩, rfl⟩
theorem d_M_putsBack_14 : cd_D 3 b_M_putsBack 14 (.getfield 19) 17 := ⟨by decide +kernel, rfl⟩
theorem d_M_putsBack_17 : cd_D_iload b_M_putsBack 17 1 18 := Or.inr ⟨1, ⟨by decide +kernel, rfl⟩, rfl⟩
theorem d_M_putsBack_18 : cd_D 1 b_M_putsBack 18 .iaload 19 := ⟨by decide +kernel, rfl⟩
theorem d_M_putsBack_19 : cd_D 1 b_M_putsBack 19 .iastore 20 := ⟨by decide +kernel, rfl⟩
theorem d_M_putsBack_20 : cd_D 3 b_M_putsBack 20 (.iinc 1 (1)) 23 := ⟨by decide +kernel, rfl⟩
theorem d_M_putsBack_23 : cd_D_goto b_M_putsBack 23 2 := ⟨-21, by decide +kernel, by decide⟩
theorem d_M_putsBack_26 : cd_D 1 b_M_putsBack 26 .return_ 27 := ⟨by decide +kernel, rfl⟩
theorem c_M_putsBack {l : Launch} {w : cd_WT} {S : cd_Sp} {I : cd_Mem} {m : Nat} (hM : cd_MO w S m)  : cd_C l w m_M_putsBack 0 0 0 [.ref m] S I (cd_Fv S (cd_set I (m + 1) (cd_cp 76 (I (m + 4)) (I (m + 1))))) := by
  refine cd_intro (by decide) (by simp [Value.category]) (Nat.le_of_ble_eq_true rfl) ?_
  intro X hO hE
  show cd_J w X 0 0 S I 0 [some (.ref m), none] []
  have loop : ∀ (r k : Nat), k + r = 76 → cd_J w X 0 0 S (cd_set I (m + 1) (cd_cp k (I (m + 4)) (I (m + 1)))) 2 [some (.ref m), some (.int (nI k))] [] := by
    intro r
    induction r with
    | zero =>
      intro k hk
      have hk6 : k = 76 := by omega
      subst hk6
      refine r_iload hO d_M_putsBack_2 rfl ?_
      refine r_k hO d_M_putsBack_3 ?_
      refine r_icmp_ge hO d_M_putsBack_5 (fun c_5 => ?_) (fun c_5 => ?_)
      · refine r_vret hO hE (Nat.zero_le _) (Nat.zero_le _) d_M_putsBack_26 ?_
        exact ⟨rfl, rfl, rfl⟩
      · exact absurd (nI_le (Nat.le_refl _) (by omega)) c_5
    | succ r ih =>
      intro k hk
      refine r_iload hO d_M_putsBack_2 rfl ?_
      refine r_k hO d_M_putsBack_3 ?_
      refine r_icmp_ge hO d_M_putsBack_5 (fun c_5 => ?_) (fun c_5 => ?_)
      · exact absurd c_5 (nI_ge (by omega) (by omega))
      · refine r_aload hO d_M_putsBack_8 rfl ?_
        refine r_getR hO f_M_9 rfl hM.2.1 (mo_r1 hM) d_M_putsBack_9 ?_
        refine r_iload hO d_M_putsBack_12 rfl ?_
        refine r_aload hO d_M_putsBack_13 rfl ?_
        refine r_getR hO f_M_19 rfl hM.2.1 (mo_r4 hM) d_M_putsBack_14 ?_
        refine r_iload hO d_M_putsBack_17 rfl ?_
        refine r_iald hO (mo_s4 hM) (by omega) (by decide) d_M_putsBack_18 ?_
        refine r_iast hO (mo_s1 hM) (mo_l1 hM) (by omega) (by decide) d_M_putsBack_19 ?_
        simp (disch := omega) only [cd_set_eq, cd_set_ne, cd_set_set]
        rw [cd_cp_s]
        refine r_incN1 hO d_M_putsBack_20 rfl ?_
        refine r_goto hO d_M_putsBack_23 ?_
        exact ih (k + 1) (by omega)
  refine r_k hO d_M_putsBack_0 ?_
  refine r_sI1 hO d_M_putsBack_1 rfl ?_
  refine r_mem (show I = cd_set I (m + 1) (cd_cp 0 (I (m + 4)) (I (m + 1))) by rw [cd_cp_0, cd_set_self]) ?_
  exact loop 76 0 (by omega)
theorem d_M_copyAll_0 : cd_Dk b_M_copyAll 0 (nI 0) 1 := Or.inl ⟨0, ⟨by decide +kernel, rfl⟩, by decide +kernel⟩
theorem d_M_copyAll_1 : cd_D_istore b_M_copyAll 1 2 2 := Or.inr ⟨2, ⟨by decide +kernel, rfl⟩, rfl⟩
theorem d_M_copyAll_2 : cd_D_iload b_M_copyAll 2 2 3 := Or.inr ⟨2, ⟨by decide +kernel, rfl⟩, rfl⟩
theorem d_M_copyAll_3 : cd_Dk b_M_copyAll 3 (nI 1448) 6 := Or.inr (Or.inr ⟨1448, ⟨by decide +kernel, rfl⟩, by decide +kernel⟩)
theorem d_M_copyAll_6 : cd_D_icmp_ge b_M_copyAll 6 21 9 := ⟨15, by decide +kernel, by decide, rfl⟩
theorem d_M_copyAll_9 : cd_D_aload b_M_copyAll 9 1 10 := Or.inr ⟨1, ⟨by decide +kernel, rfl⟩, rfl⟩
theorem d_M_copyAll_10 : cd_D_iload b_M_copyAll 10 2 11 := Or.inr ⟨2, ⟨by decide +kernel, rfl⟩, rfl⟩
theorem d_M_copyAll_11 : cd_D_aload b_M_copyAll 11 0 12 := Or.inr ⟨0, ⟨by decide +kernel, rfl⟩, rfl⟩
theorem d_M_copyAll_12 : cd_D_iload b_M_copyAll 12 2 13 := Or.inr ⟨2, ⟨by decide +kernel, rfl⟩, rfl⟩
theorem d_M_copyAll_13 : cd_D 1 b_M_copyAll 13 .iaload 14 := ⟨by decide +kernel, rfl⟩
theorem d_M_copyAll_14 : cd_D 1 b_M_copyAll 14 .iastore 15 := ⟨by decide +kernel, rfl⟩
theorem d_M_copyAll_15 : cd_D 3 b_M_copyAll 15 (.iinc 2 (1)) 18 := ⟨by decide +kernel, rfl⟩
theorem d_M_copyAll_18 : cd_D_goto b_M_copyAll 18 2 := ⟨-16, by decide +kernel, by decide⟩
theorem d_M_copyAll_21 : cd_D 1 b_M_copyAll 21 .return_ 22 := ⟨by decide +kernel, rfl⟩
theorem c_M_copyAll {l : Launch} {w : cd_WT} {S : cd_Sp} {I : cd_Mem} {a b : Nat} (hsa : S.2.1 a = (2, 1448)) (hsb : S.2.1 b = (2, 1448)) (hlb : w.1 ≤ b) (hab : a ≠ b) : cd_C l w m_M_copyAll 0 0 0 [.ref a, .ref b] S I (cd_Fv S (cd_set I b (cd_cp 1448 (I a) (I b)))) := by
  refine cd_intro (by decide) (by simp [Value.category]) (Nat.le_of_ble_eq_true rfl) ?_
  intro X hO hE
  show cd_J w X 0 0 S I 0 [some (.ref a), some (.ref b), none] []
  have loop : ∀ (r k : Nat), k + r = 1448 → cd_J w X 0 0 S (cd_set I b (cd_cp k (I a) (I b))) 2 [some (.ref a), some (.ref b), some (.int (nI k))] [] := by
    intro r
    induction r with
    | zero =>
      intro k hk
      have hk6 : k = 1448 := by omega
      subst hk6
      refine r_iload hO d_M_copyAll_2 rfl ?_
      refine r_k hO d_M_copyAll_3 ?_
      refine r_icmp_ge hO d_M_copyAll_6 (fun c_6 => ?_) (fun c_6 => ?_)
      · refine r_vret hO hE (Nat.zero_le _) (Nat.zero_le _) d_M_copyAll_21 ?_
        exact ⟨rfl, rfl, rfl⟩
      · exact absurd (nI_le (Nat.le_refl _) (by omega)) c_6
    | succ r ih =>
      intro k hk
      refine r_iload hO d_M_copyAll_2 rfl ?_
      refine r_k hO d_M_copyAll_3 ?_
      refine r_icmp_ge hO d_M_copyAll_6 (fun c_6 => ?_) (fun c_6 => ?_)
      · exact absurd c_6 (nI_ge (by omega) (by omega))
      · refine r_aload hO d_M_copyAll_9 rfl ?_
        refine r_iload hO d_M_copyAll_10 rfl ?_
        refine r_aload hO d_M_copyAll_11 rfl ?_
        refine r_iload hO d_M_copyAll_12 rfl ?_
        refine r_iald hO hsa (by omega) (by decide) d_M_copyAll_13 ?_
        refine r_iast hO hsb hlb (by omega) (by decide) d_M_copyAll_14 ?_
        simp only [cd_set_eq, cd_set_set, cd_set_ne _ _ hab]
        rw [cd_cp_s]
        refine r_incN2 hO d_M_copyAll_15 rfl ?_
        refine r_goto hO d_M_copyAll_18 ?_
        exact ih (k + 1) (by omega)
  refine r_k hO d_M_copyAll_0 ?_
  refine r_sI2 hO d_M_copyAll_1 rfl ?_
  refine r_mem (show I = cd_set I b (cd_cp 0 (I a) (I b)) by rw [cd_cp_0, cd_set_self]) ?_
  exact loop 1448 0 (by omega)
end
section
abbrev cd_BAD : Int32 := -1000000001
abbrev cd_NO : Int32 := -1000000002
abbrev cd_FULL : Int32 := -1000000003
abbrev cd_NONE : Int32 := -1000000005
abbrev cd_NOTHING : Int32 := -1000000011
abbrev cd_KIND : Int32 := -1000000012
abbrev cd_INDEX : Int32 := -1000000013
abbrev cd_SIZE : Int32 := -1000000014
theorem cd_tn_nI {i : Nat} (h : i < 2 ^ 31) : cd_tn (nI i) = i := nI_clamp h
theorem cd_in_ex {x : Int32} {lo hi : Nat} (h : nI lo ≤ x ∧ x ≤ nI hi) (hl : lo < 2 ^ 31) (hh : hi < 2 ^ 31) : ∃ q, lo ≤ q ∧ q ≤ hi ∧ x = nI q := by
  obtain ⟨h1, h2⟩ := h
  have h0 : ¬ x < 0 := by
    intro q
    rw [Int32.lt_iff_toInt_lt] at q
    rw [Int32.le_iff_toInt_le, nI_toInt hl] at h1
    have e : (0 : Int32).toInt = 0 := rfl
    omega
  obtain ⟨j, hj, rfl⟩ := nI_of2 (nI_toInt hh) h0 h2
  exact ⟨j, (nI_leI hl (by omega)).mp h1, hj, rfl⟩
theorem cd_isA_ex {N : Nat → Int32} {a : Int32} {mm : Nat} (h1 : N 1 = nI mm) (hm : mm ≤ 12) (h : cd_isA N a) : ∃ i, i < mm ∧ a = nI i := by
  obtain ⟨h2, h3⟩ := h
  rw [h1] at h3
  by_cases h0 : mm = 0
  · subst h0
    exfalso
    rw [Int32.le_iff_toInt_le] at h2 h3
    have e1 : (nI 0).toInt = 0 := rfl
    have e2 : (nI 0 - nI 1).toInt = -1 := rfl
    omega
  · rw [pk_sub (by omega)] at h3
    obtain ⟨q, -, h4, rfl⟩ := cd_in_ex ⟨h2, h3⟩ (by decide) (by omega)
    exact ⟨q, by omega, rfl⟩
theorem cd_isA_nI {N : Nat → Int32} {i mm : Nat} (h1 : N 1 = nI mm) (hm : mm ≤ 12) (hi : i < mm) : cd_isA N (nI i) := by
  refine ⟨nI_le (by omega) (by omega), ?_⟩
  rw [h1, pk_sub (by omega)]
  exact nI_le (by omega) (by omega)
theorem cd_cl0 {S : cd_Sp} {I : cd_Mem} {a : Nat} {v : Int32} {sp : Int32 × (Nat → Int32)} (h : sp = (v, I a)) : cd_Fi S sp.1 (cd_set I a sp.2) (some (.int v)) S I := by
  rw [h]
  exact ⟨rfl, rfl, (cd_set_self I a).symm⟩
theorem cd_cl1 {S : cd_Sp} {I : cd_Mem} {a : Nat} {v : Int32} {r : Nat → Int32} {sp : Int32 × (Nat → Int32)} (h : sp = (v, r)) : cd_Fi S sp.1 (cd_set I a sp.2) (some (.int v)) S (cd_set I a r) := by
  rw [h]
  exact ⟨rfl, rfl, rfl⟩
theorem cd_clp {S : cd_Sp} {I : cd_Mem} {a : Nat} {sp q : Int32 × (Nat → Int32)} (h : sp = q) : cd_Fi S sp.1 (cd_set I a sp.2) (some (.int q.1)) S (cd_set I a q.2) := by
  subst h
  exact ⟨rfl, rfl, rfl⟩
def sp_asking (N : Nat → Int32) (mm : Nat) (k h b e : Int32) : Int32 × (Nat → Int32) := if nI 0 ≤ k ∧ k ≤ nI 5 then (if cd_isOf (nI 1) h then (if cd_isOf (nI 2) b then (if cd_isOf (nI 3) e then (if N 1 = nI 12 then (cd_FULL, N) else (nI mm, cd_comes N mm k h b e)) else (cd_BAD, N)) else (cd_BAD, N)) else (cd_BAD, N)) else (cd_BAD, N)
def sp_told (N : Nat → Int32) (tc : Nat) (a q : Int32) : Int32 := if cd_isA N a then (if q = nI 0 then N (16 + 5 * cd_tn a + 0) else if q = nI 1 then N (16 + 5 * cd_tn a + 1) else if q = nI 2 then N (16 + 5 * cd_tn a + 2) else if q = nI 3 then N (16 + 5 * cd_tn a + 3) else if q = nI 4 then N (16 + 5 * cd_tn a + 4) else if q = nI 5 then cd_pr N (cd_tn a) tc else if q = nI 6 then cd_lea (N (16 + 5 * cd_tn a + 0)) else if q = nI 7 then cd_fog (N (16 + 5 * cd_tn a + 0)) else if q = nI 8 then cd_scr (N (16 + 5 * cd_tn a + 0)) else if q = nI 9 then cd_mea N (cd_tn a) else if q = nI 10 then cd_wor (N (16 + 5 * cd_tn a + 0)) (N (16 + 5 * cd_tn a + 2)) else cd_BAD) else cd_BAD
def sp_as (N : Nat → Int32) (a k : Int32) : Int32 := if cd_isA N a then (if nI 0 ≤ k ∧ k ≤ nI 5 then (if cd_und (N (16 + 5 * cd_tn a + 0)) k then N (16 + 5 * cd_tn a + 2) else cd_KIND) else cd_BAD) else cd_BAD
def sp_turns (N : Nat → Int32) (a k : Int32) : Int32 × (Nat → Int32) := if cd_isA N a then (if nI 0 ≤ k ∧ k ≤ nI 5 then (N (16 + 5 * cd_tn a), upd N (16 + 5 * cd_tn a) k) else (cd_BAD, N)) else (cd_BAD, N)
def sp_set (N : Nat → Int32) (a q v : Int32) : Int32 × (Nat → Int32) := if cd_isA N a then (if nI 1 ≤ q ∧ q ≤ nI 3 then (if cd_isOf q v then (N (16 + 5 * cd_tn a + cd_tn q), upd N (16 + 5 * cd_tn a + cd_tn q) v) else (cd_BAD, N)) else (cd_BAD, N)) else (cd_BAD, N)
def cd_mo (q : Int32) : Int32 := if q = 0 then nI 99 else if nI 3 ≤ q then nI 1 else nI 100
def sp_rule (N : Nat → Int32) (q v : Int32) : Int32 × (Nat → Int32) := if nI 0 ≤ q ∧ q ≤ nI 6 then (if nI 0 ≤ v ∧ v ≤ cd_mo q then (N (3 + cd_tn q), upd N (3 + cd_tn q) v) else (cd_BAD, N)) else (cd_BAD, N)
def sp_opens (N : Nat → Int32) (a : Int32) : Int32 × (Nat → Int32) := if cd_isA N a then cd_ri N (cd_tn a) else (cd_BAD, N)
theorem cd_lt12 {N : Nat → Int32} {mm : Nat} (h1 : N 1 = nI mm) (hm : mm ≤ 12) (h : ¬ N 1 = nI 12) : mm < 12 := by
  rcases Nat.lt_or_ge mm 12 with q | q
  · exact q
  · exact absurd (by rw [h1, show mm = 12 by omega]) h
theorem d_M_asking_0 : cd_D_iload b_M_asking 0 1 1 := Or.inr ⟨1, ⟨by decide +kernel, rfl⟩, rfl⟩
theorem d_M_asking_1 : cd_Dk b_M_asking 1 (nI 0) 2 := Or.inl ⟨0, ⟨by decide +kernel, rfl⟩, by decide +kernel⟩
theorem d_M_asking_2 : cd_Dk b_M_asking 2 (nI 5) 3 := Or.inl ⟨5, ⟨by decide +kernel, rfl⟩, by decide +kernel⟩
theorem d_M_asking_3 : cd_D 3 b_M_asking 3 (.invokestatic 75) 6 := ⟨by decide +kernel, rfl⟩
theorem d_M_asking_6 : cd_D_if_eq b_M_asking 6 34 9 := ⟨28, by decide +kernel, by decide, rfl⟩
theorem d_M_asking_9 : cd_Dk b_M_asking 9 (nI 1) 10 := Or.inl ⟨1, ⟨by decide +kernel, rfl⟩, by decide +kernel⟩
theorem d_M_asking_10 : cd_D_iload b_M_asking 10 2 11 := Or.inr ⟨2, ⟨by decide +kernel, rfl⟩, rfl⟩
theorem d_M_asking_11 : cd_D 3 b_M_asking 11 (.invokestatic 83) 14 := ⟨by decide +kernel, rfl⟩
theorem d_M_asking_14 : cd_D_if_eq b_M_asking 14 34 17 := ⟨20, by decide +kernel, by decide, rfl⟩
theorem d_M_asking_17 : cd_Dk b_M_asking 17 (nI 2) 18 := Or.inl ⟨2, ⟨by decide +kernel, rfl⟩, by decide +kernel⟩
theorem d_M_asking_18 : cd_D_iload b_M_asking 18 3 19 := Or.inr ⟨3, ⟨by decide +kernel, rfl⟩, rfl⟩
theorem d_M_asking_19 : cd_D 3 b_M_asking 19 (.invokestatic 83) 22 := ⟨by decide +kernel, rfl⟩
theorem d_M_asking_22 : cd_D_if_eq b_M_asking 22 34 25 := ⟨12, by decide +kernel, by decide, rfl⟩
theorem d_M_asking_25 : cd_Dk b_M_asking 25 (nI 3) 26 := Or.inl ⟨3, ⟨by decide +kernel, rfl⟩, by decide +kernel⟩
theorem d_M_asking_26 : cd_D_iload b_M_asking 26 4 28 := Or.inl ⟨by decide +kernel, rfl⟩
theorem d_M_asking_28 : cd_D 3 b_M_asking 28 (.invokestatic 83) 31 := ⟨by decide +kernel, rfl⟩
theorem d_M_asking_31 : cd_D_if_ne b_M_asking 31 37 34 := ⟨6, by decide +kernel, by decide, rfl⟩
theorem d_M_asking_34 : cd_D 2 b_M_asking 34 (.ldc 87) 36 := ⟨by decide +kernel, rfl⟩
theorem d_M_asking_36 : cd_D 1 b_M_asking 36 .ireturn 37 := ⟨by decide +kernel, rfl⟩
theorem d_M_asking_37 : cd_D_aload b_M_asking 37 0 38 := Or.inr ⟨0, ⟨by decide +kernel, rfl⟩, rfl⟩
theorem d_M_asking_38 : cd_D 3 b_M_asking 38 (.getfield 9) 41 := ⟨by decide +kernel, rfl⟩
theorem d_M_asking_41 : cd_Dk b_M_asking 41 (nI 1) 42 := Or.inl ⟨1, ⟨by decide +kernel, rfl⟩, by decide +kernel⟩
theorem d_M_asking_42 : cd_D 1 b_M_asking 42 .iaload 43 := ⟨by decide +kernel, rfl⟩
theorem d_M_asking_43 : cd_Dk b_M_asking 43 (nI 12) 45 := Or.inr (Or.inl ⟨12, ⟨by decide +kernel, rfl⟩, by decide +kernel⟩)
theorem d_M_asking_45 : cd_D_icmp_ne b_M_asking 45 53 48 := ⟨8, by decide +kernel, by decide, rfl⟩
theorem d_M_asking_48 : cd_D 2 b_M_asking 48 (.ldc 88) 50 := ⟨by decide +kernel, rfl⟩
theorem d_M_asking_50 : cd_D_goto b_M_asking 50 62 := ⟨12, by decide +kernel, by decide⟩
theorem d_M_asking_53 : cd_D_aload b_M_asking 53 0 54 := Or.inr ⟨0, ⟨by decide +kernel, rfl⟩, rfl⟩
theorem d_M_asking_54 : cd_D_iload b_M_asking 54 1 55 := Or.inr ⟨1, ⟨by decide +kernel, rfl⟩, rfl⟩
theorem d_M_asking_55 : cd_D_iload b_M_asking 55 2 56 := Or.inr ⟨2, ⟨by decide +kernel, rfl⟩, rfl⟩
theorem d_M_asking_56 : cd_D_iload b_M_asking 56 3 57 := Or.inr ⟨3, ⟨by decide +kernel, rfl⟩, rfl⟩
theorem d_M_asking_57 : cd_D_iload b_M_asking 57 4 59 := Or.inl ⟨by decide +kernel, rfl⟩
theorem d_M_asking_59 : cd_D 3 b_M_asking 59 (.invokevirtual 89) 62 := ⟨by decide +kernel, rfl⟩
theorem d_M_asking_62 : cd_D 1 b_M_asking 62 .ireturn 63 := ⟨by decide +kernel, rfl⟩
theorem c_M_asking {l : Launch} {w : cd_WT} {S : cd_Sp} {I : cd_Mem} {m : Nat} (hM : cd_MO w S m) (mm tc : Nat) (hV : cd_V (I (m + 1)) mm tc) (k h b e : Int32) : cd_C l w m_M_asking 2 0 0 [.ref m, .int k, .int h, .int b, .int e] S I (cd_Fi S (sp_asking (I (m + 1)) mm k h b e).1 (cd_set I (m + 1) (sp_asking (I (m + 1)) mm k h b e).2)) := by
  refine cd_intro (by decide) (by simp [Value.category]) (Nat.le_of_ble_eq_true rfl) ?_
  intro X hO hE
  show cd_J w X 0 0 S I 0 [some (.ref m), some (.int k), some (.int h), some (.int b), some (.int e)] []
  refine r_iload hO d_M_asking_0 rfl ?_
  refine r_k hO d_M_asking_1 ?_
  refine r_k hO d_M_asking_2 ?_
  refine r_cS3fi hO hE (c_M_in _ _ _) mf_M_in lk_M_75 (by decide) rfl (Nat.le_of_ble_eq_true rfl) d_M_asking_3 (Nat.zero_le _) (Nat.zero_le _) ?_
  refine r_if_eqB hO d_M_asking_6 (fun c_6 => ?_) (fun c_6 => ?_)
  · refine r_ldc hO k_M_87 d_M_asking_34 ?_
    refine r_iret hO hE (Nat.zero_le _) (Nat.zero_le _) d_M_asking_36 ?_
    exact cd_cl0 (by unfold sp_asking; rw [if_neg c_6])
  · refine r_k hO d_M_asking_9 ?_
    refine r_iload hO d_M_asking_10 rfl ?_
    refine r_cS2fi hO hE (c_M_isOf _ _) mf_M_isOf lk_M_83 (by decide) rfl (Nat.le_of_ble_eq_true rfl) d_M_asking_11 (Nat.zero_le _) (Nat.zero_le _) ?_
    refine r_if_eqB hO d_M_asking_14 (fun c_14 => ?_) (fun c_14 => ?_)
    · refine r_ldc hO k_M_87 d_M_asking_34 ?_
      refine r_iret hO hE (Nat.zero_le _) (Nat.zero_le _) d_M_asking_36 ?_
      exact cd_cl0 (by unfold sp_asking; rw [if_pos c_6, if_neg c_14])
    · refine r_k hO d_M_asking_17 ?_
      refine r_iload hO d_M_asking_18 rfl ?_
      refine r_cS2fi hO hE (c_M_isOf _ _) mf_M_isOf lk_M_83 (by decide) rfl (Nat.le_of_ble_eq_true rfl) d_M_asking_19 (Nat.zero_le _) (Nat.zero_le _) ?_
      refine r_if_eqB hO d_M_asking_22 (fun c_22 => ?_) (fun c_22 => ?_)
      · refine r_ldc hO k_M_87 d_M_asking_34 ?_
        refine r_iret hO hE (Nat.zero_le _) (Nat.zero_le _) d_M_asking_36 ?_
        exact cd_cl0 (by unfold sp_asking; rw [if_pos c_6, if_pos c_14, if_neg c_22])
      · refine r_k hO d_M_asking_25 ?_
        refine r_iload hO d_M_asking_26 rfl ?_
        refine r_cS2fi hO hE (c_M_isOf _ _) mf_M_isOf lk_M_83 (by decide) rfl (Nat.le_of_ble_eq_true rfl) d_M_asking_28 (Nat.zero_le _) (Nat.zero_le _) ?_
        refine r_if_neB hO d_M_asking_31 (fun c_31 => ?_) (fun c_31 => ?_)
        · refine r_aload hO d_M_asking_37 rfl ?_
          refine r_getR hO f_M_9 rfl hM.2.1 (mo_r1 hM) d_M_asking_38 ?_
          refine r_k hO d_M_asking_41 ?_
          refine r_iald hO (mo_s1 hM) (by omega) (by decide) d_M_asking_42 ?_
          refine r_k hO d_M_asking_43 ?_
          refine r_icmp_ne hO d_M_asking_45 (fun c_45 => ?_) (fun c_45 => ?_)
          · refine r_aload hO d_M_asking_53 rfl ?_
            refine r_iload hO d_M_asking_54 rfl ?_
            refine r_iload hO d_M_asking_55 rfl ?_
            refine r_iload hO d_M_asking_56 rfl ?_
            refine r_iload hO d_M_asking_57 rfl ?_
            refine r_cV4fi hO hE (c_M_comes hM mm hV.1 (cd_lt12 hV.1 hV.2.1 c_45) _ _ _ _) mf_M_comes lk_M_89 hM.2.1 rfl (by decide) rfl (Nat.le_of_ble_eq_true rfl) d_M_asking_59 (Nat.zero_le _) (Nat.zero_le _) ?_
            refine r_iret hO hE (Nat.zero_le _) (Nat.zero_le _) d_M_asking_62 ?_
            exact cd_cl1 (by unfold sp_asking; rw [if_pos c_6, if_pos c_14, if_pos c_22, if_pos c_31, if_neg c_45])
          · refine r_ldc hO k_M_88 d_M_asking_48 ?_
            refine r_goto hO d_M_asking_50 ?_
            refine r_iret hO hE (Nat.zero_le _) (Nat.zero_le _) d_M_asking_62 ?_
            exact cd_cl0 (by unfold sp_asking; rw [if_pos c_6, if_pos c_14, if_pos c_22, if_pos c_31, if_pos c_45])
        · refine r_ldc hO k_M_87 d_M_asking_34 ?_
          refine r_iret hO hE (Nat.zero_le _) (Nat.zero_le _) d_M_asking_36 ?_
          exact cd_cl0 (by unfold sp_asking; rw [if_pos c_6, if_pos c_14, if_pos c_22, if_neg c_31])

theorem d_M_told_0 : cd_D_aload b_M_told 0 0 1 := Or.inr ⟨0, ⟨by decide +kernel, rfl⟩, rfl⟩
theorem d_M_told_1 : cd_D_iload b_M_told 1 1 2 := Or.inr ⟨1, ⟨by decide +kernel, rfl⟩, rfl⟩
theorem d_M_told_2 : cd_D 3 b_M_told 2 (.invokevirtual 108) 5 := ⟨by decide +kernel, rfl⟩
theorem d_M_told_5 : cd_D_if_ne b_M_told 5 11 8 := ⟨6, by decide +kernel, by decide, rfl⟩
theorem d_M_told_8 : cd_D 2 b_M_told 8 (.ldc 87) 10 := ⟨by decide +kernel, rfl⟩
theorem d_M_told_10 : cd_D 1 b_M_told 10 .ireturn 11 := ⟨by decide +kernel, rfl⟩
theorem d_M_told_11 : cd_D_iload b_M_told 11 2 12 := Or.inr ⟨2, ⟨by decide +kernel, rfl⟩, rfl⟩
theorem d_M_told_12 : decode b_M_told 12 = .ok (.tableswitch (103) (0) (10) #[60, 60, 60, 60, 60, 67, 73, 79, 85, 91, 97], 60) := by decide +kernel
theorem d_M_told_72 : cd_D_aload b_M_told 72 0 73 := Or.inr ⟨0, ⟨by decide +kernel, rfl⟩, rfl⟩
theorem d_M_told_73 : cd_D_iload b_M_told 73 1 74 := Or.inr ⟨1, ⟨by decide +kernel, rfl⟩, rfl⟩
theorem d_M_told_74 : cd_D_iload b_M_told 74 2 75 := Or.inr ⟨2, ⟨by decide +kernel, rfl⟩, rfl⟩
theorem d_M_told_75 : cd_D 3 b_M_told 75 (.invokevirtual 97) 78 := ⟨by decide +kernel, rfl⟩
theorem d_M_told_78 : cd_D 1 b_M_told 78 .ireturn 79 := ⟨by decide +kernel, rfl⟩
theorem d_M_told_79 : cd_D_aload b_M_told 79 0 80 := Or.inr ⟨0, ⟨by decide +kernel, rfl⟩, rfl⟩
theorem d_M_told_80 : cd_D_iload b_M_told 80 1 81 := Or.inr ⟨1, ⟨by decide +kernel, rfl⟩, rfl⟩
theorem d_M_told_81 : cd_D 3 b_M_told 81 (.invokevirtual 112) 84 := ⟨by decide +kernel, rfl⟩
theorem d_M_told_84 : cd_D 1 b_M_told 84 .ireturn 85 := ⟨by decide +kernel, rfl⟩
theorem d_M_told_85 : cd_D_aload b_M_told 85 0 86 := Or.inr ⟨0, ⟨by decide +kernel, rfl⟩, rfl⟩
theorem d_M_told_86 : cd_D_iload b_M_told 86 1 87 := Or.inr ⟨1, ⟨by decide +kernel, rfl⟩, rfl⟩
theorem d_M_told_87 : cd_D 3 b_M_told 87 (.invokevirtual 115) 90 := ⟨by decide +kernel, rfl⟩
theorem d_M_told_90 : cd_D 1 b_M_told 90 .ireturn 91 := ⟨by decide +kernel, rfl⟩
theorem d_M_told_91 : cd_D_aload b_M_told 91 0 92 := Or.inr ⟨0, ⟨by decide +kernel, rfl⟩, rfl⟩
theorem d_M_told_92 : cd_D_iload b_M_told 92 1 93 := Or.inr ⟨1, ⟨by decide +kernel, rfl⟩, rfl⟩
theorem d_M_told_93 : cd_D 3 b_M_told 93 (.invokevirtual 118) 96 := ⟨by decide +kernel, rfl⟩
theorem d_M_told_96 : cd_D 1 b_M_told 96 .ireturn 97 := ⟨by decide +kernel, rfl⟩
theorem d_M_told_97 : cd_D_aload b_M_told 97 0 98 := Or.inr ⟨0, ⟨by decide +kernel, rfl⟩, rfl⟩
theorem d_M_told_98 : cd_D_iload b_M_told 98 1 99 := Or.inr ⟨1, ⟨by decide +kernel, rfl⟩, rfl⟩
theorem d_M_told_99 : cd_D 3 b_M_told 99 (.invokevirtual 121) 102 := ⟨by decide +kernel, rfl⟩
theorem d_M_told_102 : cd_D 1 b_M_told 102 .ireturn 103 := ⟨by decide +kernel, rfl⟩
theorem d_M_told_103 : cd_D_aload b_M_told 103 0 104 := Or.inr ⟨0, ⟨by decide +kernel, rfl⟩, rfl⟩
theorem d_M_told_104 : cd_D_iload b_M_told 104 1 105 := Or.inr ⟨1, ⟨by decide +kernel, rfl⟩, rfl⟩
theorem d_M_told_105 : cd_D 3 b_M_told 105 (.invokevirtual 124) 108 := ⟨by decide +kernel, rfl⟩
theorem d_M_told_108 : cd_D 1 b_M_told 108 .ireturn 109 := ⟨by decide +kernel, rfl⟩
theorem d_M_told_109 : cd_D_aload b_M_told 109 0 110 := Or.inr ⟨0, ⟨by decide +kernel, rfl⟩, rfl⟩
theorem d_M_told_110 : cd_D_iload b_M_told 110 1 111 := Or.inr ⟨1, ⟨by decide +kernel, rfl⟩, rfl⟩
theorem d_M_told_111 : cd_D 3 b_M_told 111 (.invokevirtual 127) 114 := ⟨by decide +kernel, rfl⟩
theorem d_M_told_114 : cd_D 1 b_M_told 114 .ireturn 115 := ⟨by decide +kernel, rfl⟩
theorem d_M_told_115 : cd_D 2 b_M_told 115 (.ldc 87) 117 := ⟨by decide +kernel, rfl⟩
theorem d_M_told_117 : cd_D 1 b_M_told 117 .ireturn 118 := ⟨by decide +kernel, rfl⟩
theorem c_M_told {l : Launch} {w : cd_WT} {S : cd_Sp} {I : cd_Mem} {m : Nat} (hM : cd_MO w S m) (mm tc : Nat) (hV : cd_V (I (m + 1)) mm tc) (a q : Int32) : cd_C l w m_M_told 3 0 0 [.ref m, .int a, .int q] S I (cd_Pi S (fun x I' => x = sp_told (I (m + 1)) tc a q ∧ cd_off I I' [m + 11, m + 12])) := by
  refine cd_intro (by decide) (by simp [Value.category]) (Nat.le_of_ble_eq_true rfl) ?_
  intro X hO hE
  show cd_J w X 0 0 S I 0 [some (.ref m), some (.int a), some (.int q)] []
  refine r_aload hO d_M_told_0 rfl ?_
  refine r_iload hO d_M_told_1 rfl ?_
  refine r_cV1fi hO hE (c_M_isAsking hM _) mf_M_isAsking lk_M_108 hM.2.1 rfl (by decide) rfl (Nat.le_of_ble_eq_true rfl) d_M_told_2 (Nat.zero_le _) (Nat.zero_le _) ?_
  refine r_if_neB hO d_M_told_5 (fun c_5 => ?_) (fun c_5 => ?_)
  · obtain ⟨i, hi, rfl⟩ := cd_isA_ex hV.1 hV.2.1 c_5
    have hmm := hV.2.1
    refine r_iload hO d_M_told_11 rfl ?_
    by_cases c_12_0 : q = nI 0
    · subst c_12_0
      refine r_tabE hO d_M_told_12 rfl (off := 60) (by decide) (by decide) (by decide) (tgt := 72) (by decide) ?_
      refine r_aload hO d_M_told_72 rfl ?_
      refine r_iload hO d_M_told_73 rfl ?_
      refine r_iload hO d_M_told_74 rfl ?_
      refine r_cV2fi hO hE (c_M_of hM _ _ (by omega)) mf_M_of lk_M_97 hM.2.1 rfl (by decide) rfl (Nat.le_of_ble_eq_true rfl) d_M_told_75 (Nat.zero_le _) (Nat.zero_le _) ?_
      refine r_iret hO hE (Nat.zero_le _) (Nat.zero_le _) d_M_told_78 ?_
      exact ⟨_, rfl, rfl, by unfold sp_told; rw [if_pos c_5, if_pos rfl, cd_tn_nI (by omega)], cd_off.rf _ _⟩
    by_cases c_12_1 : q = nI 1
    · subst c_12_1
      refine r_tabE hO d_M_told_12 rfl (off := 60) (by decide) (by decide) (by decide) (tgt := 72) (by decide) ?_
      refine r_aload hO d_M_told_72 rfl ?_
      refine r_iload hO d_M_told_73 rfl ?_
      refine r_iload hO d_M_told_74 rfl ?_
      refine r_cV2fi hO hE (c_M_of hM _ _ (by omega)) mf_M_of lk_M_97 hM.2.1 rfl (by decide) rfl (Nat.le_of_ble_eq_true rfl) d_M_told_75 (Nat.zero_le _) (Nat.zero_le _) ?_
      refine r_iret hO hE (Nat.zero_le _) (Nat.zero_le _) d_M_told_78 ?_
      exact ⟨_, rfl, rfl, by unfold sp_told; rw [if_pos c_5, if_neg c_12_0, if_pos rfl, cd_tn_nI (by omega)], cd_off.rf _ _⟩
    by_cases c_12_2 : q = nI 2
    · subst c_12_2
      refine r_tabE hO d_M_told_12 rfl (off := 60) (by decide) (by decide) (by decide) (tgt := 72) (by decide) ?_
      refine r_aload hO d_M_told_72 rfl ?_
      refine r_iload hO d_M_told_73 rfl ?_
      refine r_iload hO d_M_told_74 rfl ?_
      refine r_cV2fi hO hE (c_M_of hM _ _ (by omega)) mf_M_of lk_M_97 hM.2.1 rfl (by decide) rfl (Nat.le_of_ble_eq_true rfl) d_M_told_75 (Nat.zero_le _) (Nat.zero_le _) ?_
      refine r_iret hO hE (Nat.zero_le _) (Nat.zero_le _) d_M_told_78 ?_
      exact ⟨_, rfl, rfl, by unfold sp_told; rw [if_pos c_5, if_neg c_12_0, if_neg c_12_1, if_pos rfl, cd_tn_nI (by omega)], cd_off.rf _ _⟩
    by_cases c_12_3 : q = nI 3
    · subst c_12_3
      refine r_tabE hO d_M_told_12 rfl (off := 60) (by decide) (by decide) (by decide) (tgt := 72) (by decide) ?_
      refine r_aload hO d_M_told_72 rfl ?_
      refine r_iload hO d_M_told_73 rfl ?_
      refine r_iload hO d_M_told_74 rfl ?_
      refine r_cV2fi hO hE (c_M_of hM _ _ (by omega)) mf_M_of lk_M_97 hM.2.1 rfl (by decide) rfl (Nat.le_of_ble_eq_true rfl) d_M_told_75 (Nat.zero_le _) (Nat.zero_le _) ?_
      refine r_iret hO hE (Nat.zero_le _) (Nat.zero_le _) d_M_told_78 ?_
      exact ⟨_, rfl, rfl, by unfold sp_told; rw [if_pos c_5, if_neg c_12_0, if_neg c_12_1, if_neg c_12_2, if_pos rfl, cd_tn_nI (by omega)], cd_off.rf _ _⟩
    by_cases c_12_4 : q = nI 4
    · subst c_12_4
      refine r_tabE hO d_M_told_12 rfl (off := 60) (by decide) (by decide) (by decide) (tgt := 72) (by decide) ?_
      refine r_aload hO d_M_told_72 rfl ?_
      refine r_iload hO d_M_told_73 rfl ?_
      refine r_iload hO d_M_told_74 rfl ?_
      refine r_cV2fi hO hE (c_M_of hM _ _ (by omega)) mf_M_of lk_M_97 hM.2.1 rfl (by decide) rfl (Nat.le_of_ble_eq_true rfl) d_M_told_75 (Nat.zero_le _) (Nat.zero_le _) ?_
      refine r_iret hO hE (Nat.zero_le _) (Nat.zero_le _) d_M_told_78 ?_
      exact ⟨_, rfl, rfl, by unfold sp_told; rw [if_pos c_5, if_neg c_12_0, if_neg c_12_1, if_neg c_12_2, if_neg c_12_3, if_pos rfl, cd_tn_nI (by omega)], cd_off.rf _ _⟩
    by_cases c_12_5 : q = nI 5
    · subst c_12_5
      refine r_tabE hO d_M_told_12 rfl (off := 67) (by decide) (by decide) (by decide) (tgt := 79) (by decide) ?_
      refine r_aload hO d_M_told_79 rfl ?_
      refine r_iload hO d_M_told_80 rfl ?_
      refine r_cV1i hO hE (c_M_pressesOf hM mm tc _ hV (by omega)) mf_M_pressesOf lk_M_112 hM.2.1 rfl (by decide) rfl (Nat.le_of_ble_eq_true rfl) d_M_told_81 (Nat.zero_le _) (Nat.zero_le _) ?_
      rintro x I2 ⟨hx, ho⟩
      refine r_iret hO hE (Nat.zero_le _) (Nat.zero_le _) d_M_told_84 ?_
      exact ⟨_, rfl, rfl, by unfold sp_told; rw [if_pos c_5, if_neg c_12_0, if_neg c_12_1, if_neg c_12_2, if_neg c_12_3, if_neg c_12_4, if_pos rfl, cd_tn_nI (by omega)]; exact hx, ho⟩
    by_cases c_12_6 : q = nI 6
    · subst c_12_6
      refine r_tabE hO d_M_told_12 rfl (off := 73) (by decide) (by decide) (by decide) (tgt := 85) (by decide) ?_
      refine r_aload hO d_M_told_85 rfl ?_
      refine r_iload hO d_M_told_86 rfl ?_
      refine r_cV1fi hO hE (c_M_learnsOf hM _ (by omega)) mf_M_learnsOf lk_M_115 hM.2.1 rfl (by decide) rfl (Nat.le_of_ble_eq_true rfl) d_M_told_87 (Nat.zero_le _) (Nat.zero_le _) ?_
      refine r_iret hO hE (Nat.zero_le _) (Nat.zero_le _) d_M_told_90 ?_
      exact ⟨_, rfl, rfl, by unfold sp_told; rw [if_pos c_5, if_neg c_12_0, if_neg c_12_1, if_neg c_12_2, if_neg c_12_3, if_neg c_12_4, if_neg c_12_5, if_pos rfl, cd_tn_nI (by omega)], cd_off.rf _ _⟩
    by_cases c_12_7 : q = nI 7
    · subst c_12_7
      refine r_tabE hO d_M_told_12 rfl (off := 79) (by decide) (by decide) (by decide) (tgt := 91) (by decide) ?_
      refine r_aload hO d_M_told_91 rfl ?_
      refine r_iload hO d_M_told_92 rfl ?_
      refine r_cV1fi hO hE (c_M_forgetsOf hM _ (by omega)) mf_M_forgetsOf lk_M_118 hM.2.1 rfl (by decide) rfl (Nat.le_of_ble_eq_true rfl) d_M_told_93 (Nat.zero_le _) (Nat.zero_le _) ?_
      refine r_iret hO hE (Nat.zero_le _) (Nat.zero_le _) d_M_told_96 ?_
      exact ⟨_, rfl, rfl, by unfold sp_told; rw [if_pos c_5, if_neg c_12_0, if_neg c_12_1, if_neg c_12_2, if_neg c_12_3, if_neg c_12_4, if_neg c_12_5, if_neg c_12_6, if_pos rfl, cd_tn_nI (by omega)], cd_off.rf _ _⟩
    by_cases c_12_8 : q = nI 8
    · subst c_12_8
      refine r_tabE hO d_M_told_12 rfl (off := 85) (by decide) (by decide) (by decide) (tgt := 97) (by decide) ?_
      refine r_aload hO d_M_told_97 rfl ?_
      refine r_iload hO d_M_told_98 rfl ?_
      refine r_cV1fi hO hE (c_M_scratchesOf hM _ (by omega)) mf_M_scratchesOf lk_M_121 hM.2.1 rfl (by decide) rfl (Nat.le_of_ble_eq_true rfl) d_M_told_99 (Nat.zero_le _) (Nat.zero_le _) ?_
      refine r_iret hO hE (Nat.zero_le _) (Nat.zero_le _) d_M_told_102 ?_
      exact ⟨_, rfl, rfl, by unfold sp_told; rw [if_pos c_5, if_neg c_12_0, if_neg c_12_1, if_neg c_12_2, if_neg c_12_3, if_neg c_12_4, if_neg c_12_5, if_neg c_12_6, if_neg c_12_7, if_pos rfl, cd_tn_nI (by omega)], cd_off.rf _ _⟩
    by_cases c_12_9 : q = nI 9
    · subst c_12_9
      refine r_tabE hO d_M_told_12 rfl (off := 91) (by decide) (by decide) (by decide) (tgt := 103) (by decide) ?_
      refine r_aload hO d_M_told_103 rfl ?_
      refine r_iload hO d_M_told_104 rfl ?_
      refine r_cV1fi hO hE (c_M_meantBy hM _ (by omega)) mf_M_meantBy lk_M_124 hM.2.1 rfl (by decide) rfl (Nat.le_of_ble_eq_true rfl) d_M_told_105 (Nat.zero_le _) (Nat.zero_le _) ?_
      refine r_iret hO hE (Nat.zero_le _) (Nat.zero_le _) d_M_told_108 ?_
      exact ⟨_, rfl, rfl, by unfold sp_told; rw [if_pos c_5, if_neg c_12_0, if_neg c_12_1, if_neg c_12_2, if_neg c_12_3, if_neg c_12_4, if_neg c_12_5, if_neg c_12_6, if_neg c_12_7, if_neg c_12_8, if_pos rfl, cd_tn_nI (by omega)], cd_off.rf _ _⟩
    by_cases c_12_10 : q = nI 10
    · subst c_12_10
      refine r_tabE hO d_M_told_12 rfl (off := 97) (by decide) (by decide) (by decide) (tgt := 109) (by decide) ?_
      refine r_aload hO d_M_told_109 rfl ?_
      refine r_iload hO d_M_told_110 rfl ?_
      refine r_cV1fi hO hE (c_M_worthOf hM _ (by omega)) mf_M_worthOf lk_M_127 hM.2.1 rfl (by decide) rfl (Nat.le_of_ble_eq_true rfl) d_M_told_111 (Nat.zero_le _) (Nat.zero_le _) ?_
      refine r_iret hO hE (Nat.zero_le _) (Nat.zero_le _) d_M_told_114 ?_
      exact ⟨_, rfl, rfl, by unfold sp_told; rw [if_pos c_5, if_neg c_12_0, if_neg c_12_1, if_neg c_12_2, if_neg c_12_3, if_neg c_12_4, if_neg c_12_5, if_neg c_12_6, if_neg c_12_7, if_neg c_12_8, if_neg c_12_9, if_pos rfl, cd_tn_nI (by omega)], cd_off.rf _ _⟩
    refine r_tabN hO d_M_told_12 (by decide) (fun j hj => ?_) (tgt := 115) (by decide) ?_
    · have hj2 : j < 11 := hj
      rcases (show j = 0 ∨ j = 1 ∨ j = 2 ∨ j = 3 ∨ j = 4 ∨ j = 5 ∨ j = 6 ∨ j = 7 ∨ j = 8 ∨ j = 9 ∨ j = 10 by omega) with rfl | rfl | rfl | rfl | rfl | rfl | rfl | rfl | rfl | rfl | rfl
      · exact Or.inl (fun e => c_12_0 (e.trans (by decide)))
      · exact Or.inl (fun e => c_12_1 (e.trans (by decide)))
      · exact Or.inl (fun e => c_12_2 (e.trans (by decide)))
      · exact Or.inl (fun e => c_12_3 (e.trans (by decide)))
      · exact Or.inl (fun e => c_12_4 (e.trans (by decide)))
      · exact Or.inl (fun e => c_12_5 (e.trans (by decide)))
      · exact Or.inl (fun e => c_12_6 (e.trans (by decide)))
      · exact Or.inl (fun e => c_12_7 (e.trans (by decide)))
      · exact Or.inl (fun e => c_12_8 (e.trans (by decide)))
      · exact Or.inl (fun e => c_12_9 (e.trans (by decide)))
      · exact Or.inl (fun e => c_12_10 (e.trans (by decide)))
    refine r_ldc hO k_M_87 d_M_told_115 ?_
    refine r_iret hO hE (Nat.zero_le _) (Nat.zero_le _) d_M_told_117 ?_
    exact ⟨_, rfl, rfl, by unfold sp_told; rw [if_pos c_5, if_neg c_12_0, if_neg c_12_1, if_neg c_12_2, if_neg c_12_3, if_neg c_12_4, if_neg c_12_5, if_neg c_12_6, if_neg c_12_7, if_neg c_12_8, if_neg c_12_9, if_neg c_12_10], cd_off.rf _ _⟩
  · refine r_ldc hO k_M_87 d_M_told_8 ?_
    refine r_iret hO hE (Nat.zero_le _) (Nat.zero_le _) d_M_told_10 ?_
    exact ⟨_, rfl, rfl, by unfold sp_told; rw [if_neg c_5], cd_off.rf _ _⟩
theorem d_M_as_0 : cd_D_aload b_M_as 0 0 1 := Or.inr ⟨0, ⟨by decide +kernel, rfl⟩, rfl⟩
theorem d_M_as_1 : cd_D_iload b_M_as 1 1 2 := Or.inr ⟨1, ⟨by decide +kernel, rfl⟩, rfl⟩
theorem d_M_as_2 : cd_D 3 b_M_as 2 (.invokevirtual 108) 5 := ⟨by decide +kernel, rfl⟩
theorem d_M_as_5 : cd_D_if_eq b_M_as 5 17 8 := ⟨12, by decide +kernel, by decide, rfl⟩
theorem d_M_as_8 : cd_D_iload b_M_as 8 2 9 := Or.inr ⟨2, ⟨by decide +kernel, rfl⟩, rfl⟩
theorem d_M_as_9 : cd_Dk b_M_as 9 (nI 0) 10 := Or.inl ⟨0, ⟨by decide +kernel, rfl⟩, by decide +kernel⟩
theorem d_M_as_10 : cd_Dk b_M_as 10 (nI 5) 11 := Or.inl ⟨5, ⟨by decide +kernel, rfl⟩, by decide +kernel⟩
theorem d_M_as_11 : cd_D 3 b_M_as 11 (.invokestatic 75) 14 := ⟨by decide +kernel, rfl⟩
theorem d_M_as_14 : cd_D_if_ne b_M_as 14 20 17 := ⟨6, by decide +kernel, by decide, rfl⟩
theorem d_M_as_17 : cd_D 2 b_M_as 17 (.ldc 87) 19 := ⟨by decide +kernel, rfl⟩
theorem d_M_as_19 : cd_D 1 b_M_as 19 .ireturn 20 := ⟨by decide +kernel, rfl⟩
theorem d_M_as_20 : cd_D_aload b_M_as 20 0 21 := Or.inr ⟨0, ⟨by decide +kernel, rfl⟩, rfl⟩
theorem d_M_as_21 : cd_D_iload b_M_as 21 1 22 := Or.inr ⟨1, ⟨by decide +kernel, rfl⟩, rfl⟩
theorem d_M_as_22 : cd_Dk b_M_as 22 (nI 0) 23 := Or.inl ⟨0, ⟨by decide +kernel, rfl⟩, by decide +kernel⟩
theorem d_M_as_23 : cd_D 3 b_M_as 23 (.invokevirtual 97) 26 := ⟨by decide +kernel, rfl⟩
theorem d_M_as_26 : cd_D_iload b_M_as 26 2 27 := Or.inr ⟨2, ⟨by decide +kernel, rfl⟩, rfl⟩
theorem d_M_as_27 : cd_D 3 b_M_as 27 (.invokestatic 130) 30 := ⟨by decide +kernel, rfl⟩
theorem d_M_as_30 : cd_D_if_eq b_M_as 30 42 33 := ⟨12, by decide +kernel, by decide, rfl⟩
theorem d_M_as_33 : cd_D_aload b_M_as 33 0 34 := Or.inr ⟨0, ⟨by decide +kernel, rfl⟩, rfl⟩
theorem d_M_as_34 : cd_D_iload b_M_as 34 1 35 := Or.inr ⟨1, ⟨by decide +kernel, rfl⟩, rfl⟩
theorem d_M_as_35 : cd_Dk b_M_as 35 (nI 2) 36 := Or.inl ⟨2, ⟨by decide +kernel, rfl⟩, by decide +kernel⟩
theorem d_M_as_36 : cd_D 3 b_M_as 36 (.invokevirtual 97) 39 := ⟨by decide +kernel, rfl⟩
theorem d_M_as_39 : cd_D_goto b_M_as 39 44 := ⟨5, by decide +kernel, by decide⟩
theorem d_M_as_42 : cd_D 2 b_M_as 42 (.ldc 133) 44 := ⟨by decide +kernel, rfl⟩
theorem d_M_as_44 : cd_D 1 b_M_as 44 .ireturn 45 := ⟨by decide +kernel, rfl⟩
theorem c_M_as {l : Launch} {w : cd_WT} {S : cd_Sp} {I : cd_Mem} {m : Nat} (hM : cd_MO w S m) (mm tc : Nat) (hV : cd_V (I (m + 1)) mm tc) (a k : Int32) : cd_C l w m_M_as 2 0 0 [.ref m, .int a, .int k] S I (cd_Fi S (sp_as (I (m + 1)) a k) I) := by
  refine cd_intro (by decide) (by simp [Value.category]) (Nat.le_of_ble_eq_true rfl) ?_
  intro X hO hE
  show cd_J w X 0 0 S I 0 [some (.ref m), some (.int a), some (.int k)] []
  refine r_aload hO d_M_as_0 rfl ?_
  refine r_iload hO d_M_as_1 rfl ?_
  refine r_cV1fi hO hE (c_M_isAsking hM _) mf_M_isAsking lk_M_108 hM.2.1 rfl (by decide) rfl (Nat.le_of_ble_eq_true rfl) d_M_as_2 (Nat.zero_le _) (Nat.zero_le _) ?_
  refine r_if_eqB hO d_M_as_5 (fun c_5 => ?_) (fun c_5 => ?_)
  · refine r_ldc hO k_M_87 d_M_as_17 ?_
    refine r_iret hO hE (Nat.zero_le _) (Nat.zero_le _) d_M_as_19 ?_
    exact ⟨by unfold sp_as; rw [if_neg c_5], rfl, rfl⟩
  · obtain ⟨i, hi, rfl⟩ := cd_isA_ex hV.1 hV.2.1 c_5
    have hmm := hV.2.1
    refine r_iload hO d_M_as_8 rfl ?_
    refine r_k hO d_M_as_9 ?_
    refine r_k hO d_M_as_10 ?_
    refine r_cS3fi hO hE (c_M_in _ _ _) mf_M_in lk_M_75 (by decide) rfl (Nat.le_of_ble_eq_true rfl) d_M_as_11 (Nat.zero_le _) (Nat.zero_le _) ?_
    refine r_if_neB hO d_M_as_14 (fun c_14 => ?_) (fun c_14 => ?_)
    · refine r_aload hO d_M_as_20 rfl ?_
      refine r_iload hO d_M_as_21 rfl ?_
      refine r_k hO d_M_as_22 ?_
      refine r_cV2fi hO hE (c_M_of hM _ _ (by omega)) mf_M_of lk_M_97 hM.2.1 rfl (by decide) rfl (Nat.le_of_ble_eq_true rfl) d_M_as_23 (Nat.zero_le _) (Nat.zero_le _) ?_
      refine r_iload hO d_M_as_26 rfl ?_
      refine r_cS2fi hO hE (c_M_isUnder _ _) mf_M_isUnder lk_M_130 (by decide) rfl (Nat.le_of_ble_eq_true rfl) d_M_as_27 (Nat.zero_le _) (Nat.zero_le _) ?_
      refine r_if_eqB hO d_M_as_30 (fun c_30 => ?_) (fun c_30 => ?_)
      · refine r_ldc hO k_M_133 d_M_as_42 ?_
        refine r_iret hO hE (Nat.zero_le _) (Nat.zero_le _) d_M_as_44 ?_
        exact ⟨by unfold sp_as; rw [if_pos c_5, if_pos c_14, cd_tn_nI (by omega), if_neg c_30], rfl, rfl⟩
      · refine r_aload hO d_M_as_33 rfl ?_
        refine r_iload hO d_M_as_34 rfl ?_
        refine r_k hO d_M_as_35 ?_
        refine r_cV2fi hO hE (c_M_of hM _ _ (by omega)) mf_M_of lk_M_97 hM.2.1 rfl (by decide) rfl (Nat.le_of_ble_eq_true rfl) d_M_as_36 (Nat.zero_le _) (Nat.zero_le _) ?_
        refine r_goto hO d_M_as_39 ?_
        refine r_iret hO hE (Nat.zero_le _) (Nat.zero_le _) d_M_as_44 ?_
        exact ⟨by unfold sp_as; rw [if_pos c_5, if_pos c_14, cd_tn_nI (by omega), if_pos c_30], rfl, rfl⟩
    · refine r_ldc hO k_M_87 d_M_as_17 ?_
      refine r_iret hO hE (Nat.zero_le _) (Nat.zero_le _) d_M_as_19 ?_
      exact ⟨by unfold sp_as; rw [if_pos c_5, if_neg c_14], rfl, rfl⟩
theorem d_M_turns_0 : cd_D_aload b_M_turns 0 0 1 := Or.inr ⟨0, ⟨by decide +kernel, rfl⟩, rfl⟩
theorem d_M_turns_1 : cd_D_iload b_M_turns 1 1 2 := Or.inr ⟨1, ⟨by decide +kernel, rfl⟩, rfl⟩
theorem d_M_turns_2 : cd_D 3 b_M_turns 2 (.invokevirtual 108) 5 := ⟨by decide +kernel, rfl⟩
theorem d_M_turns_5 : cd_D_if_eq b_M_turns 5 31 8 := ⟨26, by decide +kernel, by decide, rfl⟩
theorem d_M_turns_8 : cd_D_iload b_M_turns 8 2 9 := Or.inr ⟨2, ⟨by decide +kernel, rfl⟩, rfl⟩
theorem d_M_turns_9 : cd_Dk b_M_turns 9 (nI 0) 10 := Or.inl ⟨0, ⟨by decide +kernel, rfl⟩, by decide +kernel⟩
theorem d_M_turns_10 : cd_Dk b_M_turns 10 (nI 5) 11 := Or.inl ⟨5, ⟨by decide +kernel, rfl⟩, by decide +kernel⟩
theorem d_M_turns_11 : cd_D 3 b_M_turns 11 (.invokestatic 75) 14 := ⟨by decide +kernel, rfl⟩
theorem d_M_turns_14 : cd_D_if_eq b_M_turns 14 31 17 := ⟨17, by decide +kernel, by decide, rfl⟩
theorem d_M_turns_17 : cd_D_aload b_M_turns 17 0 18 := Or.inr ⟨0, ⟨by decide +kernel, rfl⟩, rfl⟩
theorem d_M_turns_18 : cd_Dk b_M_turns 18 (nI 16) 20 := Or.inr (Or.inl ⟨16, ⟨by decide +kernel, rfl⟩, by decide +kernel⟩)
theorem d_M_turns_20 : cd_Dk b_M_turns 20 (nI 5) 21 := Or.inl ⟨5, ⟨by decide +kernel, rfl⟩, by decide +kernel⟩
theorem d_M_turns_21 : cd_D_iload b_M_turns 21 1 22 := Or.inr ⟨1, ⟨by decide +kernel, rfl⟩, rfl⟩
theorem d_M_turns_22 : cd_D 1 b_M_turns 22 .imul 23 := ⟨by decide +kernel, rfl⟩
theorem d_M_turns_23 : cd_D 1 b_M_turns 23 .iadd 24 := ⟨by decide +kernel, rfl⟩
theorem d_M_turns_24 : cd_D_iload b_M_turns 24 2 25 := Or.inr ⟨2, ⟨by decide +kernel, rfl⟩, rfl⟩
theorem d_M_turns_25 : cd_D 3 b_M_turns 25 (.invokevirtual 134) 28 := ⟨by decide +kernel, rfl⟩
theorem d_M_turns_28 : cd_D_goto b_M_turns 28 33 := ⟨5, by decide +kernel, by decide⟩
theorem d_M_turns_31 : cd_D 2 b_M_turns 31 (.ldc 87) 33 := ⟨by decide +kernel, rfl⟩
theorem d_M_turns_33 : cd_D 1 b_M_turns 33 .ireturn 34 := ⟨by decide +kernel, rfl⟩
theorem c_M_turns {l : Launch} {w : cd_WT} {S : cd_Sp} {I : cd_Mem} {m : Nat} (hM : cd_MO w S m) (mm tc : Nat) (hV : cd_V (I (m + 1)) mm tc) (a k : Int32) : cd_C l w m_M_turns 2 0 0 [.ref m, .int a, .int k] S I (cd_Fi S (sp_turns (I (m + 1)) a k).1 (cd_set I (m + 1) (sp_turns (I (m + 1)) a k).2)) := by
  refine cd_intro (by decide) (by simp [Value.category]) (Nat.le_of_ble_eq_true rfl) ?_
  intro X hO hE
  show cd_J w X 0 0 S I 0 [some (.ref m), some (.int a), some (.int k)] []
  refine r_aload hO d_M_turns_0 rfl ?_
  refine r_iload hO d_M_turns_1 rfl ?_
  refine r_cV1fi hO hE (c_M_isAsking hM _) mf_M_isAsking lk_M_108 hM.2.1 rfl (by decide) rfl (Nat.le_of_ble_eq_true rfl) d_M_turns_2 (Nat.zero_le _) (Nat.zero_le _) ?_
  refine r_if_eqB hO d_M_turns_5 (fun c_5 => ?_) (fun c_5 => ?_)
  · refine r_ldc hO k_M_87 d_M_turns_31 ?_
    refine r_iret hO hE (Nat.zero_le _) (Nat.zero_le _) d_M_turns_33 ?_
    exact cd_cl0 (by unfold sp_turns; rw [if_neg c_5])
  · obtain ⟨i, hi, rfl⟩ := cd_isA_ex hV.1 hV.2.1 c_5
    have hmm := hV.2.1
    refine r_iload hO d_M_turns_8 rfl ?_
    refine r_k hO d_M_turns_9 ?_
    refine r_k hO d_M_turns_10 ?_
    refine r_cS3fi hO hE (c_M_in _ _ _) mf_M_in lk_M_75 (by decide) rfl (Nat.le_of_ble_eq_true rfl) d_M_turns_11 (Nat.zero_le _) (Nat.zero_le _) ?_
    refine r_if_eqB hO d_M_turns_14 (fun c_14 => ?_) (fun c_14 => ?_)
    · refine r_ldc hO k_M_87 d_M_turns_31 ?_
      refine r_iret hO hE (Nat.zero_le _) (Nat.zero_le _) d_M_turns_33 ?_
      exact cd_cl0 (by unfold sp_turns; rw [if_pos c_5, if_neg c_14])
    · refine r_aload hO d_M_turns_17 rfl ?_
      refine r_k hO d_M_turns_18 ?_
      refine r_k hO d_M_turns_20 ?_
      refine r_iload hO d_M_turns_21 rfl ?_
      refine r_imulN hO d_M_turns_22 ?_
      refine r_iaddN hO d_M_turns_23 ?_
      refine r_iload hO d_M_turns_24 rfl ?_
      refine r_cV2fi hO hE (c_M_becomes hM _ _ (by omega)) mf_M_becomes lk_M_134 hM.2.1 rfl (by decide) rfl (Nat.le_of_ble_eq_true rfl) d_M_turns_25 (Nat.zero_le _) (Nat.zero_le _) ?_
      refine r_goto hO d_M_turns_28 ?_
      refine r_iret hO hE (Nat.zero_le _) (Nat.zero_le _) d_M_turns_33 ?_
      exact cd_cl1 (by unfold sp_turns; rw [if_pos c_5, if_pos c_14, cd_tn_nI (by omega)])
theorem d_M_set_0 : cd_D_aload b_M_set 0 0 1 := Or.inr ⟨0, ⟨by decide +kernel, rfl⟩, rfl⟩
theorem d_M_set_1 : cd_D_iload b_M_set 1 1 2 := Or.inr ⟨1, ⟨by decide +kernel, rfl⟩, rfl⟩
theorem d_M_set_2 : cd_D 3 b_M_set 2 (.invokevirtual 108) 5 := ⟨by decide +kernel, rfl⟩
theorem d_M_set_5 : cd_D_if_eq b_M_set 5 41 8 := ⟨36, by decide +kernel, by decide, rfl⟩
theorem d_M_set_8 : cd_D_iload b_M_set 8 2 9 := Or.inr ⟨2, ⟨by decide +kernel, rfl⟩, rfl⟩
theorem d_M_set_9 : cd_Dk b_M_set 9 (nI 1) 10 := Or.inl ⟨1, ⟨by decide +kernel, rfl⟩, by decide +kernel⟩
theorem d_M_set_10 : cd_Dk b_M_set 10 (nI 3) 11 := Or.inl ⟨3, ⟨by decide +kernel, rfl⟩, by decide +kernel⟩
theorem d_M_set_11 : cd_D 3 b_M_set 11 (.invokestatic 75) 14 := ⟨by decide +kernel, rfl⟩
theorem d_M_set_14 : cd_D_if_eq b_M_set 14 41 17 := ⟨27, by decide +kernel, by decide, rfl⟩
theorem d_M_set_17 : cd_D_iload b_M_set 17 2 18 := Or.inr ⟨2, ⟨by decide +kernel, rfl⟩, rfl⟩
theorem d_M_set_18 : cd_D_iload b_M_set 18 3 19 := Or.inr ⟨3, ⟨by decide +kernel, rfl⟩, rfl⟩
theorem d_M_set_19 : cd_D 3 b_M_set 19 (.invokestatic 83) 22 := ⟨by decide +kernel, rfl⟩
theorem d_M_set_22 : cd_D_if_eq b_M_set 22 41 25 := ⟨19, by decide +kernel, by decide, rfl⟩
theorem d_M_set_25 : cd_D_aload b_M_set 25 0 26 := Or.inr ⟨0, ⟨by decide +kernel, rfl⟩, rfl⟩
theorem d_M_set_26 : cd_Dk b_M_set 26 (nI 16) 28 := Or.inr (Or.inl ⟨16, ⟨by decide +kernel, rfl⟩, by decide +kernel⟩)
theorem d_M_set_28 : cd_Dk b_M_set 28 (nI 5) 29 := Or.inl ⟨5, ⟨by decide +kernel, rfl⟩, by decide +kernel⟩
theorem d_M_set_29 : cd_D_iload b_M_set 29 1 30 := Or.inr ⟨1, ⟨by decide +kernel, rfl⟩, rfl⟩
theorem d_M_set_30 : cd_D 1 b_M_set 30 .imul 31 := ⟨by decide +kernel, rfl⟩
theorem d_M_set_31 : cd_D 1 b_M_set 31 .iadd 32 := ⟨by decide +kernel, rfl⟩
theorem d_M_set_32 : cd_D_iload b_M_set 32 2 33 := Or.inr ⟨2, ⟨by decide +kernel, rfl⟩, rfl⟩
theorem d_M_set_33 : cd_D 1 b_M_set 33 .iadd 34 := ⟨by decide +kernel, rfl⟩
theorem d_M_set_34 : cd_D_iload b_M_set 34 3 35 := Or.inr ⟨3, ⟨by decide +kernel, rfl⟩, rfl⟩
theorem d_M_set_35 : cd_D 3 b_M_set 35 (.invokevirtual 134) 38 := ⟨by decide +kernel, rfl⟩
theorem d_M_set_38 : cd_D_goto b_M_set 38 43 := ⟨5, by decide +kernel, by decide⟩
theorem d_M_set_41 : cd_D 2 b_M_set 41 (.ldc 87) 43 := ⟨by decide +kernel, rfl⟩
theorem d_M_set_43 : cd_D 1 b_M_set 43 .ireturn 44 := ⟨by decide +kernel, rfl⟩
theorem c_M_set {l : Launch} {w : cd_WT} {S : cd_Sp} {I : cd_Mem} {m : Nat} (hM : cd_MO w S m) (mm tc : Nat) (hV : cd_V (I (m + 1)) mm tc) (a q v : Int32) : cd_C l w m_M_set 2 0 0 [.ref m, .int a, .int q, .int v] S I (cd_Fi S (sp_set (I (m + 1)) a q v).1 (cd_set I (m + 1) (sp_set (I (m + 1)) a q v).2)) := by
  refine cd_intro (by decide) (by simp [Value.category]) (Nat.le_of_ble_eq_true rfl) ?_
  intro X hO hE
  show cd_J w X 0 0 S I 0 [some (.ref m), some (.int a), some (.int q), some (.int v)] []
  refine r_aload hO d_M_set_0 rfl ?_
  refine r_iload hO d_M_set_1 rfl ?_
  refine r_cV1fi hO hE (c_M_isAsking hM _) mf_M_isAsking lk_M_108 hM.2.1 rfl (by decide) rfl (Nat.le_of_ble_eq_true rfl) d_M_set_2 (Nat.zero_le _) (Nat.zero_le _) ?_
  refine r_if_eqB hO d_M_set_5 (fun c_5 => ?_) (fun c_5 => ?_)
  · refine r_ldc hO k_M_87 d_M_set_41 ?_
    refine r_iret hO hE (Nat.zero_le _) (Nat.zero_le _) d_M_set_43 ?_
    exact cd_cl0 (by unfold sp_set; rw [if_neg c_5])
  · obtain ⟨i, hi, rfl⟩ := cd_isA_ex hV.1 hV.2.1 c_5
    have hmm := hV.2.1
    refine r_iload hO d_M_set_8 rfl ?_
    refine r_k hO d_M_set_9 ?_
    refine r_k hO d_M_set_10 ?_
    refine r_cS3fi hO hE (c_M_in _ _ _) mf_M_in lk_M_75 (by decide) rfl (Nat.le_of_ble_eq_true rfl) d_M_set_11 (Nat.zero_le _) (Nat.zero_le _) ?_
    refine r_if_eqB hO d_M_set_14 (fun c_14 => ?_) (fun c_14 => ?_)
    · refine r_ldc hO k_M_87 d_M_set_41 ?_
      refine r_iret hO hE (Nat.zero_le _) (Nat.zero_le _) d_M_set_43 ?_
      exact cd_cl0 (by unfold sp_set; rw [if_pos c_5, if_neg c_14])
    · obtain ⟨z, hz1, hz2, rfl⟩ := cd_in_ex c_14 (by decide) (by decide)
      refine r_iload hO d_M_set_17 rfl ?_
      refine r_iload hO d_M_set_18 rfl ?_
      refine r_cS2fi hO hE (c_M_isOf _ _) mf_M_isOf lk_M_83 (by decide) rfl (Nat.le_of_ble_eq_true rfl) d_M_set_19 (Nat.zero_le _) (Nat.zero_le _) ?_
      refine r_if_eqB hO d_M_set_22 (fun c_22 => ?_) (fun c_22 => ?_)
      · refine r_ldc hO k_M_87 d_M_set_41 ?_
        refine r_iret hO hE (Nat.zero_le _) (Nat.zero_le _) d_M_set_43 ?_
        exact cd_cl0 (by unfold sp_set; rw [if_pos c_5, if_pos c_14, if_neg c_22])
      · refine r_aload hO d_M_set_25 rfl ?_
        refine r_k hO d_M_set_26 ?_
        refine r_k hO d_M_set_28 ?_
        refine r_iload hO d_M_set_29 rfl ?_
        refine r_imulN hO d_M_set_30 ?_
        refine r_iaddN hO d_M_set_31 ?_
        refine r_iload hO d_M_set_32 rfl ?_
        refine r_iaddN hO d_M_set_33 ?_
        refine r_iload hO d_M_set_34 rfl ?_
        refine r_cV2fi hO hE (c_M_becomes hM _ _ (by omega)) mf_M_becomes lk_M_134 hM.2.1 rfl (by decide) rfl (Nat.le_of_ble_eq_true rfl) d_M_set_35 (Nat.zero_le _) (Nat.zero_le _) ?_
        refine r_goto hO d_M_set_38 ?_
        refine r_iret hO hE (Nat.zero_le _) (Nat.zero_le _) d_M_set_43 ?_
        exact cd_cl1 (by unfold sp_set; rw [if_pos c_5, if_pos c_14, if_pos c_22, cd_tn_nI (by omega), cd_tn_nI (by omega)])
theorem d_M_rule_0 : cd_D_iload b_M_rule 0 1 1 := Or.inr ⟨1, ⟨by decide +kernel, rfl⟩, rfl⟩
theorem d_M_rule_1 : cd_D_if_ne b_M_rule 1 9 4 := ⟨8, by decide +kernel, by decide, rfl⟩
theorem d_M_rule_4 : cd_Dk b_M_rule 4 (nI 99) 6 := Or.inr (Or.inl ⟨99, ⟨by decide +kernel, rfl⟩, by decide +kernel⟩)
theorem d_M_rule_6 : cd_D_goto b_M_rule 6 20 := ⟨14, by decide +kernel, by decide⟩
theorem d_M_rule_9 : cd_D_iload b_M_rule 9 1 10 := Or.inr ⟨1, ⟨by decide +kernel, rfl⟩, rfl⟩
theorem d_M_rule_10 : cd_Dk b_M_rule 10 (nI 3) 11 := Or.inl ⟨3, ⟨by decide +kernel, rfl⟩, by decide +kernel⟩
theorem d_M_rule_11 : cd_D_icmp_ge b_M_rule 11 19 14 := ⟨8, by decide +kernel, by decide, rfl⟩
theorem d_M_rule_14 : cd_Dk b_M_rule 14 (nI 100) 16 := Or.inr (Or.inl ⟨100, ⟨by decide +kernel, rfl⟩, by decide +kernel⟩)
theorem d_M_rule_16 : cd_D_goto b_M_rule 16 20 := ⟨4, by decide +kernel, by decide⟩
theorem d_M_rule_19 : cd_Dk b_M_rule 19 (nI 1) 20 := Or.inl ⟨1, ⟨by decide +kernel, rfl⟩, by decide +kernel⟩
theorem d_M_rule_20 : cd_D_istore b_M_rule 20 3 21 := Or.inr ⟨3, ⟨by decide +kernel, rfl⟩, rfl⟩
theorem d_M_rule_21 : cd_D_iload b_M_rule 21 1 22 := Or.inr ⟨1, ⟨by decide +kernel, rfl⟩, rfl⟩
theorem d_M_rule_22 : cd_Dk b_M_rule 22 (nI 0) 23 := Or.inl ⟨0, ⟨by decide +kernel, rfl⟩, by decide +kernel⟩
theorem d_M_rule_23 : cd_Dk b_M_rule 23 (nI 6) 25 := Or.inr (Or.inl ⟨6, ⟨by decide +kernel, rfl⟩, by decide +kernel⟩)
theorem d_M_rule_25 : cd_D 3 b_M_rule 25 (.invokestatic 75) 28 := ⟨by decide +kernel, rfl⟩
theorem d_M_rule_28 : cd_D_if_eq b_M_rule 28 51 31 := ⟨23, by decide +kernel, by decide, rfl⟩
theorem d_M_rule_31 : cd_D_iload b_M_rule 31 2 32 := Or.inr ⟨2, ⟨by decide +kernel, rfl⟩, rfl⟩
theorem d_M_rule_32 : cd_Dk b_M_rule 32 (nI 0) 33 := Or.inl ⟨0, ⟨by decide +kernel, rfl⟩, by decide +kernel⟩
theorem d_M_rule_33 : cd_D_iload b_M_rule 33 3 34 := Or.inr ⟨3, ⟨by decide +kernel, rfl⟩, rfl⟩
theorem d_M_rule_34 : cd_D 3 b_M_rule 34 (.invokestatic 75) 37 := ⟨by decide +kernel, rfl⟩
theorem d_M_rule_37 : cd_D_if_eq b_M_rule 37 51 40 := ⟨14, by decide +kernel, by decide, rfl⟩
theorem d_M_rule_40 : cd_D_aload b_M_rule 40 0 41 := Or.inr ⟨0, ⟨by decide +kernel, rfl⟩, rfl⟩
theorem d_M_rule_41 : cd_Dk b_M_rule 41 (nI 3) 42 := Or.inl ⟨3, ⟨by decide +kernel, rfl⟩, by decide +kernel⟩
theorem d_M_rule_42 : cd_D_iload b_M_rule 42 1 43 := Or.inr ⟨1, ⟨by decide +kernel, rfl⟩, rfl⟩
theorem d_M_rule_43 : cd_D 1 b_M_rule 43 .iadd 44 := ⟨by decide +kernel, rfl⟩
theorem d_M_rule_44 : cd_D_iload b_M_rule 44 2 45 := Or.inr ⟨2, ⟨by decide +kernel, rfl⟩, rfl⟩
theorem d_M_rule_45 : cd_D 3 b_M_rule 45 (.invokevirtual 134) 48 := ⟨by decide +kernel, rfl⟩
theorem d_M_rule_48 : cd_D_goto b_M_rule 48 53 := ⟨5, by decide +kernel, by decide⟩
theorem d_M_rule_51 : cd_D 2 b_M_rule 51 (.ldc 87) 53 := ⟨by decide +kernel, rfl⟩
theorem d_M_rule_53 : cd_D 1 b_M_rule 53 .ireturn 54 := ⟨by decide +kernel, rfl⟩
theorem c_M_rule {l : Launch} {w : cd_WT} {S : cd_Sp} {I : cd_Mem} {m : Nat} (hM : cd_MO w S m) (q v : Int32) : cd_C l w m_M_rule 1 0 0 [.ref m, .int q, .int v] S I (cd_Fi S (sp_rule (I (m + 1)) q v).1 (cd_set I (m + 1) (sp_rule (I (m + 1)) q v).2)) := by
  refine cd_intro (by decide) (by simp [Value.category]) (Nat.le_of_ble_eq_true rfl) ?_
  intro X hO hE
  show cd_J w X 0 0 S I 0 [some (.ref m), some (.int q), some (.int v), none] []
  refine r_iload hO d_M_rule_0 rfl ?_
  refine r_jn1 (pcJ := 20) (fun x => x = cd_mo q) (fun v_1 hv_1 => ?_) (fun hj_1 => ?_)
  · subst hv_1
    refine r_sI3 hO d_M_rule_20 rfl ?_
    refine r_iload hO d_M_rule_21 rfl ?_
    refine r_k hO d_M_rule_22 ?_
    refine r_k hO d_M_rule_23 ?_
    refine r_cS3fi hO hE (c_M_in _ _ _) mf_M_in lk_M_75 (by decide) rfl (Nat.le_of_ble_eq_true rfl) d_M_rule_25 (Nat.zero_le _) (Nat.zero_le _) ?_
    refine r_if_eqB hO d_M_rule_28 (fun c_28 => ?_) (fun c_28 => ?_)
    · refine r_ldc hO k_M_87 d_M_rule_51 ?_
      refine r_iret hO hE (Nat.zero_le _) (Nat.zero_le _) d_M_rule_53 ?_
      exact cd_cl0 (by unfold sp_rule; rw [if_neg c_28])
    · obtain ⟨z, hz1, hz2, rfl⟩ := cd_in_ex c_28 (by decide) (by decide)
      refine r_iload hO d_M_rule_31 rfl ?_
      refine r_k hO d_M_rule_32 ?_
      refine r_iload hO d_M_rule_33 rfl ?_
      refine r_cS3fi hO hE (c_M_in _ _ _) mf_M_in lk_M_75 (by decide) rfl (Nat.le_of_ble_eq_true rfl) d_M_rule_34 (Nat.zero_le _) (Nat.zero_le _) ?_
      refine r_if_eqB hO d_M_rule_37 (fun c_37 => ?_) (fun c_37 => ?_)
      · refine r_ldc hO k_M_87 d_M_rule_51 ?_
        refine r_iret hO hE (Nat.zero_le _) (Nat.zero_le _) d_M_rule_53 ?_
        exact cd_cl0 (by unfold sp_rule; rw [if_pos c_28, if_neg c_37])
      · refine r_aload hO d_M_rule_40 rfl ?_
        refine r_k hO d_M_rule_41 ?_
        refine r_iload hO d_M_rule_42 rfl ?_
        refine r_iaddN hO d_M_rule_43 ?_
        refine r_iload hO d_M_rule_44 rfl ?_
        refine r_cV2fi hO hE (c_M_becomes hM _ _ (by omega)) mf_M_becomes lk_M_134 hM.2.1 rfl (by decide) rfl (Nat.le_of_ble_eq_true rfl) d_M_rule_45 (Nat.zero_le _) (Nat.zero_le _) ?_
        refine r_goto hO d_M_rule_48 ?_
        refine r_iret hO hE (Nat.zero_le _) (Nat.zero_le _) d_M_rule_53 ?_
        exact cd_cl1 (by unfold sp_rule; rw [if_pos c_28, if_pos c_37, cd_tn_nI (by omega)])
  · refine r_if_ne hO d_M_rule_1 (fun c_1 => ?_) (fun c_1 => ?_)
    · refine r_iload hO d_M_rule_9 rfl ?_
      refine r_k hO d_M_rule_10 ?_
      refine r_icmp_ge hO d_M_rule_11 (fun c_11 => ?_) (fun c_11 => ?_)
      · refine r_k hO d_M_rule_19 ?_
        exact hj_1 _ (by unfold cd_mo; rw [if_neg c_1, if_pos c_11])
      · refine r_k hO d_M_rule_14 ?_
        refine r_goto hO d_M_rule_16 ?_
        exact hj_1 _ (by unfold cd_mo; rw [if_neg c_1, if_neg c_11])
    · refine r_k hO d_M_rule_4 ?_
      refine r_goto hO d_M_rule_6 ?_
      exact hj_1 _ (by unfold cd_mo; rw [if_pos c_1])
theorem d_M_opens_0 : cd_D_aload b_M_opens 0 0 1 := Or.inr ⟨0, ⟨by decide +kernel, rfl⟩, rfl⟩
theorem d_M_opens_1 : cd_D_iload b_M_opens 1 1 2 := Or.inr ⟨1, ⟨by decide +kernel, rfl⟩, rfl⟩
theorem d_M_opens_2 : cd_D 3 b_M_opens 2 (.invokevirtual 108) 5 := ⟨by decide +kernel, rfl⟩
theorem d_M_opens_5 : cd_D_if_eq b_M_opens 5 16 8 := ⟨11, by decide +kernel, by decide, rfl⟩
theorem d_M_opens_8 : cd_D_aload b_M_opens 8 0 9 := Or.inr ⟨0, ⟨by decide +kernel, rfl⟩, rfl⟩
theorem d_M_opens_9 : cd_D_iload b_M_opens 9 1 10 := Or.inr ⟨1, ⟨by decide +kernel, rfl⟩, rfl⟩
theorem d_M_opens_10 : cd_D 3 b_M_opens 10 (.invokevirtual 152) 13 := ⟨by decide +kernel, rfl⟩
theorem d_M_opens_13 : cd_D_goto b_M_opens 13 18 := ⟨5, by decide +kernel, by decide⟩
theorem d_M_opens_16 : cd_D 2 b_M_opens 16 (.ldc 87) 18 := ⟨by decide +kernel, rfl⟩
theorem d_M_opens_18 : cd_D 1 b_M_opens 18 .ireturn 19 := ⟨by decide +kernel, rfl⟩
theorem c_M_opens {l : Launch} {w : cd_WT} {S : cd_Sp} {I : cd_Mem} {m : Nat} (hM : cd_MO w S m) (mm tc : Nat) (hV : cd_V (I (m + 1)) mm tc) (a : Int32) : cd_C l w m_M_opens 4 0 0 [.ref m, .int a] S I (cd_Fi S (sp_opens (I (m + 1)) a).1 (cd_set I (m + 1) (sp_opens (I (m + 1)) a).2)) := by
  refine cd_intro (by decide) (by simp [Value.category]) (Nat.le_of_ble_eq_true rfl) ?_
  intro X hO hE
  show cd_J w X 0 0 S I 0 [some (.ref m), some (.int a)] []
  refine r_aload hO d_M_opens_0 rfl ?_
  refine r_iload hO d_M_opens_1 rfl ?_
  refine r_cV1fi hO hE (c_M_isAsking hM _) mf_M_isAsking lk_M_108 hM.2.1 rfl (by decide) rfl (Nat.le_of_ble_eq_true rfl) d_M_opens_2 (Nat.zero_le _) (Nat.zero_le _) ?_
  refine r_if_eqB hO d_M_opens_5 (fun c_5 => ?_) (fun c_5 => ?_)
  · refine r_ldc hO k_M_87 d_M_opens_16 ?_
    refine r_iret hO hE (Nat.zero_le _) (Nat.zero_le _) d_M_opens_18 ?_
    exact cd_cl0 (by unfold sp_opens; rw [if_neg c_5])
  · obtain ⟨i, hi, rfl⟩ := cd_isA_ex hV.1 hV.2.1 c_5
    have hmm := hV.2.1
    refine r_aload hO d_M_opens_8 rfl ?_
    refine r_iload hO d_M_opens_9 rfl ?_
    refine r_cV1fi hO hE (c_M_rises hM _ (by omega)) mf_M_rises lk_M_152 hM.2.1 rfl (by decide) rfl (Nat.le_of_ble_eq_true rfl) d_M_opens_10 (Nat.zero_le _) (Nat.zero_le _) ?_
    refine r_goto hO d_M_opens_13 ?_
    refine r_iret hO hE (Nat.zero_le _) (Nat.zero_le _) d_M_opens_18 ?_
    exact cd_clp (by unfold sp_opens; rw [if_pos c_5, cd_tn_nI (by omega)])
theorem d_M_seed_0 : cd_D_aload b_M_seed 0 0 1 := Or.inr ⟨0, ⟨by decide +kernel, rfl⟩, rfl⟩
theorem d_M_seed_1 : cd_Dk b_M_seed 1 (nI 0) 2 := Or.inl ⟨0, ⟨by decide +kernel, rfl⟩, by decide +kernel⟩
theorem d_M_seed_2 : cd_D_iload b_M_seed 2 1 3 := Or.inr ⟨1, ⟨by decide +kernel, rfl⟩, rfl⟩
theorem d_M_seed_3 : cd_D 3 b_M_seed 3 (.invokevirtual 134) 6 := ⟨by decide +kernel, rfl⟩
theorem d_M_seed_6 : cd_D 1 b_M_seed 6 .ireturn 7 := ⟨by decide +kernel, rfl⟩
theorem c_M_seed {l : Launch} {w : cd_WT} {S : cd_Sp} {I : cd_Mem} {m : Nat} (hM : cd_MO w S m) (v : Int32) : cd_C l w m_M_seed 1 0 0 [.ref m, .int v] S I (cd_Fi S (I (m + 1) 0) (cd_set I (m + 1) (upd (I (m + 1)) 0 v))) := by
  refine cd_intro (by decide) (by simp [Value.category]) (Nat.le_of_ble_eq_true rfl) ?_
  intro X hO hE
  show cd_J w X 0 0 S I 0 [some (.ref m), some (.int v)] []
  refine r_aload hO d_M_seed_0 rfl ?_
  refine r_k hO d_M_seed_1 ?_
  refine r_iload hO d_M_seed_2 rfl ?_
  refine r_cV2fi hO hE (c_M_becomes hM _ _ (by omega)) mf_M_becomes lk_M_134 hM.2.1 rfl (by decide) rfl (Nat.le_of_ble_eq_true rfl) d_M_seed_3 (Nat.zero_le _) (Nat.zero_le _) ?_
  refine r_iret hO hE (Nat.zero_le _) (Nat.zero_le _) d_M_seed_6 ?_
  exact ⟨rfl, rfl, rfl⟩
end
section
def cd_d1 (N : Nat → Int32) (mm : Nat) : Nat → Int32 := cd_comes (cd_dr (cd_dr (cd_dr (cd_dr N)))) mm (cd_rem (cd_dv N) (nI 6)) (cd_rem (cd_dv (cd_dr N)) (nI 24)) (cd_rem (cd_dv (cd_dr (cd_dr N))) (nI 100)) (cd_rem (cd_dv (cd_dr (cd_dr (cd_dr N)))) (nI 101))
def cd_dl (N : Nat → Int32) (mm : Nat) : Nat → Nat → Int32
  | 0 => N
  | c + 1 => cd_d1 (cd_dl N mm c) (mm + c)
theorem cd_dl_1 {N : Nat → Int32} {mm : Nat} (h : N 1 = nI mm) : ∀ c, cd_dl N mm c 1 = nI (mm + c)
  | 0 => h
  | c + 1 => by
    show cd_d1 (cd_dl N mm c) (mm + c) 1 = _
    unfold cd_d1 cd_comes
    simp only [upd]
    simp
    rw [if_neg (by omega)]
    rfl
def sp_deal (N : Nat → Int32) (mm : Nat) (n : Int32) : Int32 × (Nat → Int32) := if nI 1 ≤ n ∧ n ≤ nI 12 then (nI (min (cd_tn n) (12 - mm)), cd_dl N mm (min (cd_tn n) (12 - mm))) else (cd_BAD, N)
theorem cd_wi_nI {a b : Nat} (ha : a < 2 ^ 31) (hb : b < 2 ^ 31) : cd_wi (nI a) (nI 0) (nI b) = nI (min a b) := by
  unfold cd_wi
  rw [if_neg (nI_nlt (by omega) ha)]
  by_cases h : b < a
  · rw [if_pos (nI_lt h ha)]
    congr 1
    omega
  · rw [if_neg (nI_nlt (by omega) hb)]
    congr 1
    omega
def sp_hours (N : Nat → Int32) (mm tc hh : Nat) (n : Int32) : Int32 × (Nat → Int32) := if nI 1 ≤ n ∧ n ≤ nI 100 then (cd_hs N mm tc (min (9999 - hh) (cd_tn n)) 10 - N 10, cd_hs N mm tc (min (9999 - hh) (cd_tn n))) else (cd_BAD, N)
def cd_nj (N : Nat → Int32) (t : Int32) : Nat → Int32
  | 0 => nI 0
  | a + 1 => cd_nj N t a ||| (if N (16 + 5 * a + 2) ≤ 0 then nI 0 else if N (16 + 5 * a + 1) = t then nI 1 <<< (nI a &&& 31) else nI 0)
def cd_nk (N : Nat → Int32) (mm : Nat) : Nat → Int32
  | 0 => nI 0
  | k + 1 => if cd_nk N mm k = 0 then cd_nj N (cd_rem (N 2 + nI k) (nI 24)) mm else cd_nk N mm k
theorem cd_nk_st {N : Nat → Int32} {mm k : Nat} (h : ¬ cd_nk N mm k = 0) : ∀ r, cd_nk N mm (k + r) = cd_nk N mm k
  | 0 => rfl
  | r + 1 => by
    show (if cd_nk N mm (k + r) = 0 then _ else cd_nk N mm (k + r)) = _
    rw [cd_nk_st h r, if_neg h]
def sp_house (N : Nat → Int32) (mm : Nat) (q : Int32) : Int32 := if nI 0 ≤ q ∧ q ≤ nI 7 then (if q = 0 then N 7 else if nI 6 ≤ q then (if q = nI 6 then cd_hb N mm else cd_nk N mm 24) else N (10 + cd_tn q - 1)) else cd_BAD
theorem d_M_deal_0 : cd_D_iload b_M_deal 0 1 1 := Or.inr ⟨1, ⟨by decide +kernel, rfl⟩, rfl⟩
theorem d_M_deal_1 : cd_Dk b_M_deal 1 (nI 1) 2 := Or.inl ⟨1, ⟨by decide +kernel, rfl⟩, by decide +kernel⟩
theorem d_M_deal_2 : cd_Dk b_M_deal 2 (nI 12) 4 := Or.inr (Or.inl ⟨12, ⟨by decide +kernel, rfl⟩, by decide +kernel⟩)
theorem d_M_deal_4 : cd_D 3 b_M_deal 4 (.invokestatic 75) 7 := ⟨by decide +kernel, rfl⟩
theorem d_M_deal_7 : cd_D_if_ne b_M_deal 7 13 10 := ⟨6, by decide +kernel, by decide, rfl⟩
theorem d_M_deal_10 : cd_D 2 b_M_deal 10 (.ldc 87) 12 := ⟨by decide +kernel, rfl⟩
theorem d_M_deal_12 : cd_D 1 b_M_deal 12 .ireturn 13 := ⟨by decide +kernel, rfl⟩
theorem d_M_deal_13 : cd_Dk b_M_deal 13 (nI 0) 14 := Or.inl ⟨0, ⟨by decide +kernel, rfl⟩, by decide +kernel⟩
theorem d_M_deal_14 : cd_D_istore b_M_deal 14 2 15 := Or.inr ⟨2, ⟨by decide +kernel, rfl⟩, rfl⟩
theorem d_M_deal_15 : cd_D_iload b_M_deal 15 2 16 := Or.inr ⟨2, ⟨by decide +kernel, rfl⟩, rfl⟩
theorem d_M_deal_16 : cd_D_iload b_M_deal 16 1 17 := Or.inr ⟨1, ⟨by decide +kernel, rfl⟩, rfl⟩
theorem d_M_deal_17 : cd_D_icmp_ge b_M_deal 17 81 20 := ⟨64, by decide +kernel, by decide, rfl⟩
theorem d_M_deal_20 : cd_D_aload b_M_deal 20 0 21 := Or.inr ⟨0, ⟨by decide +kernel, rfl⟩, rfl⟩
theorem d_M_deal_21 : cd_D 3 b_M_deal 21 (.getfield 9) 24 := ⟨by decide +kernel, rfl⟩
theorem d_M_deal_24 : cd_Dk b_M_deal 24 (nI 1) 25 := Or.inl ⟨1, ⟨by decide +kernel, rfl⟩, by decide +kernel⟩
theorem d_M_deal_25 : cd_D 1 b_M_deal 25 .iaload 26 := ⟨by decide +kernel, rfl⟩
theorem d_M_deal_26 : cd_Dk b_M_deal 26 (nI 12) 28 := Or.inr (Or.inl ⟨12, ⟨by decide +kernel, rfl⟩, by decide +kernel⟩)
theorem d_M_deal_28 : cd_D_icmp_ge b_M_deal 28 81 31 := ⟨53, by decide +kernel, by decide, rfl⟩
theorem d_M_deal_31 : cd_D_aload b_M_deal 31 0 32 := Or.inr ⟨0, ⟨by decide +kernel, rfl⟩, rfl⟩
theorem d_M_deal_32 : cd_D 3 b_M_deal 32 (.invokevirtual 138) 35 := ⟨by decide +kernel, rfl⟩
theorem d_M_deal_35 : cd_Dk b_M_deal 35 (nI 6) 37 := Or.inr (Or.inl ⟨6, ⟨by decide +kernel, rfl⟩, by decide +kernel⟩)
theorem d_M_deal_37 : cd_D 1 b_M_deal 37 .irem 38 := ⟨by decide +kernel, rfl⟩
theorem d_M_deal_38 : cd_D_istore b_M_deal 38 3 39 := Or.inr ⟨3, ⟨by decide +kernel, rfl⟩, rfl⟩
theorem d_M_deal_39 : cd_D_aload b_M_deal 39 0 40 := Or.inr ⟨0, ⟨by decide +kernel, rfl⟩, rfl⟩
theorem d_M_deal_40 : cd_D 3 b_M_deal 40 (.invokevirtual 138) 43 := ⟨by decide +kernel, rfl⟩
theorem d_M_deal_43 : cd_Dk b_M_deal 43 (nI 24) 45 := Or.inr (Or.inl ⟨24, ⟨by decide +kernel, rfl⟩, by decide +kernel⟩)
theorem d_M_deal_45 : cd_D 1 b_M_deal 45 .irem 46 := ⟨by decide +kernel, rfl⟩
theorem d_M_deal_46 : cd_D_istore b_M_deal 46 4 48 := Or.inl ⟨by decide +kernel, rfl⟩
theorem d_M_deal_48 : cd_D_aload b_M_deal 48 0 49 := Or.inr ⟨0, ⟨by decide +kernel, rfl⟩, rfl⟩
theorem d_M_deal_49 : cd_D 3 b_M_deal 49 (.invokevirtual 138) 52 := ⟨by decide +kernel, rfl⟩
theorem d_M_deal_52 : cd_Dk b_M_deal 52 (nI 100) 54 := Or.inr (Or.inl ⟨100, ⟨by decide +kernel, rfl⟩, by decide +kernel⟩)
theorem d_M_deal_54 : cd_D 1 b_M_deal 54 .irem 55 := ⟨by decide +kernel, rfl⟩
theorem d_M_deal_55 : cd_D_istore b_M_deal 55 5 57 := Or.inl ⟨by decide +kernel, rfl⟩
theorem d_M_deal_57 : cd_D_aload b_M_deal 57 0 58 := Or.inr ⟨0, ⟨by decide +kernel, rfl⟩, rfl⟩
theorem d_M_deal_58 : cd_D_iload b_M_deal 58 3 59 := Or.inr ⟨3, ⟨by decide +kernel, rfl⟩, rfl⟩
theorem d_M_deal_59 : cd_D_iload b_M_deal 59 4 61 := Or.inl ⟨by decide +kernel, rfl⟩
theorem d_M_deal_61 : cd_D_iload b_M_deal 61 5 63 := Or.inl ⟨by decide +kernel, rfl⟩
theorem d_M_deal_63 : cd_D_aload b_M_deal 63 0 64 := Or.inr ⟨0, ⟨by decide +kernel, rfl⟩, rfl⟩
theorem d_M_deal_64 : cd_D 3 b_M_deal 64 (.invokevirtual 138) 67 := ⟨by decide +kernel, rfl⟩
theorem d_M_deal_67 : cd_Dk b_M_deal 67 (nI 101) 69 := Or.inr (Or.inl ⟨101, ⟨by decide +kernel, rfl⟩, by decide +kernel⟩)
theorem d_M_deal_69 : cd_D 1 b_M_deal 69 .irem 70 := ⟨by decide +kernel, rfl⟩
theorem d_M_deal_70 : cd_D 3 b_M_deal 70 (.invokevirtual 89) 73 := ⟨by decide +kernel, rfl⟩
theorem d_M_deal_73 : cd_D_istore b_M_deal 73 6 75 := Or.inl ⟨by decide +kernel, rfl⟩
theorem d_M_deal_75 : cd_D 3 b_M_deal 75 (.iinc 2 (1)) 78 := ⟨by decide +kernel, rfl⟩
theorem d_M_deal_78 : cd_D_goto b_M_deal 78 15 := ⟨-63, by decide +kernel, by decide⟩
theorem d_M_deal_81 : cd_D_iload b_M_deal 81 2 82 := Or.inr ⟨2, ⟨by decide +kernel, rfl⟩, rfl⟩
theorem d_M_deal_82 : cd_D 1 b_M_deal 82 .ireturn 83 := ⟨by decide +kernel, rfl⟩
theorem c_M_deal {l : Launch} {w : cd_WT} {S : cd_Sp} {I : cd_Mem} {m : Nat} (hM : cd_MO w S m) (mm tc : Nat) (hV : cd_V (I (m + 1)) mm tc) (n : Int32) : cd_C l w m_M_deal 2 0 0 [.ref m, .int n] S I (cd_Fi S (sp_deal (I (m + 1)) mm n).1 (cd_set I (m + 1) (sp_deal (I (m + 1)) mm n).2)) := by
  refine cd_intro (by decide) (by simp [Value.category]) (Nat.le_of_ble_eq_true rfl) ?_
  intro X hO hE
  show cd_J w X 0 0 S I 0 [some (.ref m), some (.int n), none, none, none, none, none] []
  obtain ⟨hN1, hmm, hN15, htc, hTW⟩ := id hV
  have loop : ∀ (z : Nat) (hz : z ≤ 12) (hp : sp_deal (I (m + 1)) mm n = (nI (min z (12 - mm)), cd_dl (I (m + 1)) mm (min z (12 - mm)))) (r c : Nat) (x3 x4 x5 x6 : Option Value), c + r = min z (12 - mm) → cd_nl x3 = true → cd_nl x4 = true → cd_nl x5 = true → cd_J w X 0 0 S (cd_set I (m + 1) (cd_dl (I (m + 1)) mm c)) 15 [some (.ref m), some (.int (nI z)), some (.int (nI c)), x3, x4, x5, x6] [] := by
    intro z hz hp r
    induction r with
    | zero =>
      intro c x3 x4 x5 x6 hc hx3 hx4 hx5
      have h1 := cd_dl_1 hN1 c
      have hcz : c = min z (12 - mm) := by omega
      refine r_iload hO d_M_deal_15 rfl ?_
      refine r_iload hO d_M_deal_16 rfl ?_
      refine r_icmp_ge hO d_M_deal_17 (fun c_17 => ?_) (fun c_17 => ?_)
      · refine r_iload hO d_M_deal_81 rfl ?_
        refine r_iret hO hE (Nat.zero_le _) (Nat.zero_le _) d_M_deal_82 ?_
        exact cd_cl1 (by rw [hp, hcz])
      · have hcz2 : c < z := Nat.lt_of_not_le (fun q => c_17 (nI_le q (by omega)))
        refine r_aload hO d_M_deal_20 rfl ?_
        refine r_getR hO f_M_9 rfl hM.2.1 (mo_r1 hM) d_M_deal_21 ?_
        try simp only [cd_set_eq, cd_set_set]
        refine r_k hO d_M_deal_24 ?_
        refine r_iald hO (mo_s1 hM) (by omega) (by decide) d_M_deal_25 ?_
        try simp only [cd_set_eq, cd_set_set]
        refine r_tops h1 ?_
        refine r_k hO d_M_deal_26 ?_
        refine r_icmp_ge hO d_M_deal_28 (fun c_28 => ?_) (fun c_28 => ?_)
        · refine r_iload hO d_M_deal_81 rfl ?_
          refine r_iret hO hE (Nat.zero_le _) (Nat.zero_le _) d_M_deal_82 ?_
          exact cd_cl1 (by rw [hp, hcz])
        · exact absurd (nI_le (show 12 ≤ mm + c by omega) (by omega)) c_28
    | succ r ih =>
      intro c x3 x4 x5 x6 hc hx3 hx4 hx5
      have h1 := cd_dl_1 hN1 c
      refine r_iload hO d_M_deal_15 rfl ?_
      refine r_iload hO d_M_deal_16 rfl ?_
      refine r_icmp_ge hO d_M_deal_17 (fun c_17 => ?_) (fun c_17 => ?_)
      · exact absurd c_17 (nI_ge (by omega) (by omega))
      · refine r_aload hO d_M_deal_20 rfl ?_
        refine r_getR hO f_M_9 rfl hM.2.1 (mo_r1 hM) d_M_deal_21 ?_
        try simp only [cd_set_eq, cd_set_set]
        refine r_k hO d_M_deal_24 ?_
        refine r_iald hO (mo_s1 hM) (by omega) (by decide) d_M_deal_25 ?_
        try simp only [cd_set_eq, cd_set_set]
        refine r_tops h1 ?_
        refine r_k hO d_M_deal_26 ?_
        refine r_icmp_ge hO d_M_deal_28 (fun c_28 => ?_) (fun c_28 => ?_)
        · exact absurd c_28 (nI_ge (show mm + c < 12 by omega) (by decide))
        · refine r_aload hO d_M_deal_31 rfl ?_
          refine r_cV0fi hO hE (c_M_draw hM) mf_M_draw lk_M_138 hM.2.1 rfl (by decide) rfl (Nat.le_of_ble_eq_true rfl) d_M_deal_32 (Nat.zero_le _) (Nat.zero_le _) ?_
          try simp only [cd_set_eq, cd_set_set]
          refine r_k hO d_M_deal_35 ?_
          refine r_irem hO d_M_deal_37 (by decide) ?_
          refine r_sI3 hO d_M_deal_38 rfl ?_
          refine r_aload hO d_M_deal_39 rfl ?_
          refine r_cV0fi hO hE (c_M_draw hM) mf_M_draw lk_M_138 hM.2.1 rfl (by decide) rfl (Nat.le_of_ble_eq_true rfl) d_M_deal_40 (Nat.zero_le _) (Nat.zero_le _) ?_
          try simp only [cd_set_eq, cd_set_set]
          refine r_k hO d_M_deal_43 ?_
          refine r_irem hO d_M_deal_45 (by decide) ?_
          refine r_sI4 hO d_M_deal_46 rfl ?_
          refine r_aload hO d_M_deal_48 rfl ?_
          refine r_cV0fi hO hE (c_M_draw hM) mf_M_draw lk_M_138 hM.2.1 rfl (by decide) rfl (Nat.le_of_ble_eq_true rfl) d_M_deal_49 (Nat.zero_le _) (Nat.zero_le _) ?_
          try simp only [cd_set_eq, cd_set_set]
          refine r_k hO d_M_deal_52 ?_
          refine r_irem hO d_M_deal_54 (by decide) ?_
          refine r_sI5 hO d_M_deal_55 rfl ?_
          refine r_aload hO d_M_deal_57 rfl ?_
          refine r_iload hO d_M_deal_58 rfl ?_
          refine r_iload hO d_M_deal_59 rfl ?_
          refine r_iload hO d_M_deal_61 rfl ?_
          refine r_aload hO d_M_deal_63 rfl ?_
          refine r_cV0fi hO hE (c_M_draw hM) mf_M_draw lk_M_138 hM.2.1 rfl (by decide) rfl (Nat.le_of_ble_eq_true rfl) d_M_deal_64 (Nat.zero_le _) (Nat.zero_le _) ?_
          try simp only [cd_set_eq, cd_set_set]
          refine r_k hO d_M_deal_67 ?_
          refine r_irem hO d_M_deal_69 (by decide) ?_
          refine r_cV4fi hO hE (c_M_comes hM (mm + c) (by rw [cd_set_eq]; exact (kq_dr _ 1 (by omega)).trans ((kq_dr _ 1 (by omega)).trans ((kq_dr _ 1 (by omega)).trans ((kq_dr _ 1 (by omega)).trans h1)))) (by omega) _ _ _ _) mf_M_comes lk_M_89 hM.2.1 rfl (by decide) rfl (Nat.le_of_ble_eq_true rfl) d_M_deal_70 (Nat.zero_le _) (Nat.zero_le _) ?_
          try simp only [cd_set_eq, cd_set_set]
          refine r_sI6 hO d_M_deal_73 rfl ?_
          refine r_incN2 hO d_M_deal_75 rfl ?_
          refine r_goto hO d_M_deal_78 ?_
          refine r_mem (show _ = cd_set I (m + 1) (cd_dl (I (m + 1)) mm (c + 1)) from rfl) ?_
          exact ih (c + 1) _ _ _ _ (by omega) rfl rfl rfl
  refine r_iload hO d_M_deal_0 rfl ?_
  refine r_k hO d_M_deal_1 ?_
  refine r_k hO d_M_deal_2 ?_
  refine r_cS3fi hO hE (c_M_in _ _ _) mf_M_in lk_M_75 (by decide) rfl (Nat.le_of_ble_eq_true rfl) d_M_deal_4 (Nat.zero_le _) (Nat.zero_le _) ?_
  refine r_if_neB hO d_M_deal_7 (fun c_7 => ?_) (fun c_7 => ?_)
  · obtain ⟨z, hz1, hz2, rfl⟩ := cd_in_ex c_7 (by decide) (by decide)
    refine r_k hO d_M_deal_13 ?_
    refine r_sI2 hO d_M_deal_14 rfl ?_
    refine r_mem (show I = cd_set I (m + 1) (cd_dl (I (m + 1)) mm 0) from (cd_set_self _ _).symm) ?_
    exact loop z hz2 (by unfold sp_deal; rw [if_pos c_7, cd_tn_nI (by omega)]) _ 0 _ _ _ _ (Nat.zero_add _) rfl rfl rfl
  · refine r_ldc hO k_M_87 d_M_deal_10 ?_
    refine r_iret hO hE (Nat.zero_le _) (Nat.zero_le _) d_M_deal_12 ?_
    exact cd_cl0 (by unfold sp_deal; rw [if_neg c_7])
theorem d_M_hours_0 : cd_D_iload b_M_hours 0 1 1 := Or.inr ⟨1, ⟨by decide +kernel, rfl⟩, rfl⟩
theorem d_M_hours_1 : cd_Dk b_M_hours 1 (nI 1) 2 := Or.inl ⟨1, ⟨by decide +kernel, rfl⟩, by decide +kernel⟩
theorem d_M_hours_2 : cd_Dk b_M_hours 2 (nI 100) 4 := Or.inr (Or.inl ⟨100, ⟨by decide +kernel, rfl⟩, by decide +kernel⟩)
theorem d_M_hours_4 : cd_D 3 b_M_hours 4 (.invokestatic 75) 7 := ⟨by decide +kernel, rfl⟩
theorem d_M_hours_7 : cd_D_if_ne b_M_hours 7 13 10 := ⟨6, by decide +kernel, by decide, rfl⟩
theorem d_M_hours_10 : cd_D 2 b_M_hours 10 (.ldc 87) 12 := ⟨by decide +kernel, rfl⟩
theorem d_M_hours_12 : cd_D 1 b_M_hours 12 .ireturn 13 := ⟨by decide +kernel, rfl⟩
theorem d_M_hours_13 : cd_D_aload b_M_hours 13 0 14 := Or.inr ⟨0, ⟨by decide +kernel, rfl⟩, rfl⟩
theorem d_M_hours_14 : cd_D 3 b_M_hours 14 (.getfield 9) 17 := ⟨by decide +kernel, rfl⟩
theorem d_M_hours_17 : cd_Dk b_M_hours 17 (nI 10) 19 := Or.inr (Or.inl ⟨10, ⟨by decide +kernel, rfl⟩, by decide +kernel⟩)
theorem d_M_hours_19 : cd_D 1 b_M_hours 19 .iaload 20 := ⟨by decide +kernel, rfl⟩
theorem d_M_hours_20 : cd_D_istore b_M_hours 20 2 21 := Or.inr ⟨2, ⟨by decide +kernel, rfl⟩, rfl⟩
theorem d_M_hours_21 : cd_D_aload b_M_hours 21 0 22 := Or.inr ⟨0, ⟨by decide +kernel, rfl⟩, rfl⟩
theorem d_M_hours_22 : cd_Dk b_M_hours 22 (nI 9999) 25 := Or.inr (Or.inr ⟨9999, ⟨by decide +kernel, rfl⟩, by decide +kernel⟩)
theorem d_M_hours_25 : cd_D_aload b_M_hours 25 0 26 := Or.inr ⟨0, ⟨by decide +kernel, rfl⟩, rfl⟩
theorem d_M_hours_26 : cd_D 3 b_M_hours 26 (.getfield 9) 29 := ⟨by decide +kernel, rfl⟩
theorem d_M_hours_29 : cd_Dk b_M_hours 29 (nI 2) 30 := Or.inl ⟨2, ⟨by decide +kernel, rfl⟩, by decide +kernel⟩
theorem d_M_hours_30 : cd_D 1 b_M_hours 30 .iaload 31 := ⟨by decide +kernel, rfl⟩
theorem d_M_hours_31 : cd_D 1 b_M_hours 31 .isub 32 := ⟨by decide +kernel, rfl⟩
theorem d_M_hours_32 : cd_Dk b_M_hours 32 (nI 0) 33 := Or.inl ⟨0, ⟨by decide +kernel, rfl⟩, by decide +kernel⟩
theorem d_M_hours_33 : cd_D_iload b_M_hours 33 1 34 := Or.inr ⟨1, ⟨by decide +kernel, rfl⟩, rfl⟩
theorem d_M_hours_34 : cd_D 3 b_M_hours 34 (.invokestatic 104) 37 := ⟨by decide +kernel, rfl⟩
theorem d_M_hours_37 : cd_D 3 b_M_hours 37 (.invokevirtual 161) 40 := ⟨by decide +kernel, rfl⟩
theorem d_M_hours_40 : cd_D_aload b_M_hours 40 0 41 := Or.inr ⟨0, ⟨by decide +kernel, rfl⟩, rfl⟩
theorem d_M_hours_41 : cd_D 3 b_M_hours 41 (.getfield 9) 44 := ⟨by decide +kernel, rfl⟩
theorem d_M_hours_44 : cd_Dk b_M_hours 44 (nI 10) 46 := Or.inr (Or.inl ⟨10, ⟨by decide +kernel, rfl⟩, by decide +kernel⟩)
theorem d_M_hours_46 : cd_D 1 b_M_hours 46 .iaload 47 := ⟨by decide +kernel, rfl⟩
theorem d_M_hours_47 : cd_D_iload b_M_hours 47 2 48 := Or.inr ⟨2, ⟨by decide +kernel, rfl⟩, rfl⟩
theorem d_M_hours_48 : cd_D 1 b_M_hours 48 .isub 49 := ⟨by decide +kernel, rfl⟩
theorem d_M_hours_49 : cd_D 1 b_M_hours 49 .ireturn 50 := ⟨by decide +kernel, rfl⟩
theorem c_M_hours {l : Launch} {w : cd_WT} {S : cd_Sp} {I : cd_Mem} {m : Nat} (hM : cd_MO w S m) (mm tc : Nat) (hV : cd_V (I (m + 1)) mm tc) (hh : Nat) (hH : I (m + 1) 2 = nI hh) (h9 : hh ≤ 9999) (n : Int32) : cd_C l w m_M_hours 7 0 0 [.ref m, .int n] S I (cd_Pi S (fun x I' => x = (sp_hours (I (m + 1)) mm tc hh n).1 ∧ I' (m + 1) = (sp_hours (I (m + 1)) mm tc hh n).2 ∧ cd_off I I' [m + 1, m + 11, m + 12])) := by
  refine cd_intro (by decide) (by simp [Value.category]) (Nat.le_of_ble_eq_true rfl) ?_
  intro X hO hE
  show cd_J w X 0 0 S I 0 [some (.ref m), some (.int n), none] []
  refine r_iload hO d_M_hours_0 rfl ?_
  refine r_k hO d_M_hours_1 ?_
  refine r_k hO d_M_hours_2 ?_
  refine r_cS3fi hO hE (c_M_in _ _ _) mf_M_in lk_M_75 (by decide) rfl (Nat.le_of_ble_eq_true rfl) d_M_hours_4 (Nat.zero_le _) (Nat.zero_le _) ?_
  refine r_if_neB hO d_M_hours_7 (fun c_7 => ?_) (fun c_7 => ?_)
  · obtain ⟨z, hz1, hz2, rfl⟩ := cd_in_ex c_7 (by decide) (by decide)
    refine r_aload hO d_M_hours_13 rfl ?_
    refine r_getR hO f_M_9 rfl hM.2.1 (mo_r1 hM) d_M_hours_14 ?_
    refine r_k hO d_M_hours_17 ?_
    refine r_iald hO (mo_s1 hM) (by omega) (by decide) d_M_hours_19 ?_
    refine r_sI2 hO d_M_hours_20 rfl ?_
    refine r_aload hO d_M_hours_21 rfl ?_
    refine r_k hO d_M_hours_22 ?_
    refine r_aload hO d_M_hours_25 rfl ?_
    refine r_getR hO f_M_9 rfl hM.2.1 (mo_r1 hM) d_M_hours_26 ?_
    refine r_k hO d_M_hours_29 ?_
    refine r_iald hO (mo_s1 hM) (by omega) (by decide) d_M_hours_30 ?_
    refine r_tops hH ?_
    refine r_isubN hO d_M_hours_31 (by omega) ?_
    refine r_k hO d_M_hours_32 ?_
    refine r_iload hO d_M_hours_33 rfl ?_
    refine r_cS3fi hO hE (c_M_within _ _ _) mf_M_within lk_M_104 (by decide) rfl (Nat.le_of_ble_eq_true rfl) d_M_hours_34 (Nat.zero_le _) (Nat.zero_le _) ?_
    refine r_tops (cd_wi_nI (by omega) (by omega)) ?_
    refine r_cV1v hO hE (c_M_goesOn hM mm tc _ (by omega) hV) mf_M_goesOn lk_M_161 hM.2.1 rfl (by decide) rfl (Nat.le_of_ble_eq_true rfl) d_M_hours_37 (Nat.zero_le _) (Nat.zero_le _) ?_
    rintro I2 ⟨h2, ho2⟩
    refine r_aload hO d_M_hours_40 rfl ?_
    refine r_getR hO f_M_9 rfl hM.2.1 (mo_r1 hM) d_M_hours_41 ?_
    refine r_k hO d_M_hours_44 ?_
    refine r_iald hO (mo_s1 hM) (by omega) (by decide) d_M_hours_46 ?_
    rw [h2]
    refine r_iload hO d_M_hours_47 rfl ?_
    refine r_isub hO d_M_hours_48 ?_
    refine r_iret hO hE (Nat.zero_le _) (Nat.zero_le _) d_M_hours_49 ?_
    exact ⟨_, rfl, rfl, by unfold sp_hours; rw [if_pos c_7, cd_tn_nI (by omega)], by rw [h2]; unfold sp_hours; rw [if_pos c_7, cd_tn_nI (by omega)], ho2⟩
  · refine r_ldc hO k_M_87 d_M_hours_10 ?_
    refine r_iret hO hE (Nat.zero_le _) (Nat.zero_le _) d_M_hours_12 ?_
    exact ⟨_, rfl, rfl, by unfold sp_hours; rw [if_neg c_7], by unfold sp_hours; rw [if_neg c_7], cd_off.rf _ _⟩
theorem d_M_nextOnes_0 : cd_Dk b_M_nextOnes 0 (nI 0) 1 := Or.inl ⟨0, ⟨by decide +kernel, rfl⟩, by decide +kernel⟩
theorem d_M_nextOnes_1 : cd_D_istore b_M_nextOnes 1 1 2 := Or.inr ⟨1, ⟨by decide +kernel, rfl⟩, rfl⟩
theorem d_M_nextOnes_2 : cd_Dk b_M_nextOnes 2 (nI 0) 3 := Or.inl ⟨0, ⟨by decide +kernel, rfl⟩, by decide +kernel⟩
theorem d_M_nextOnes_3 : cd_D_istore b_M_nextOnes 3 2 4 := Or.inr ⟨2, ⟨by decide +kernel, rfl⟩, rfl⟩
theorem d_M_nextOnes_4 : cd_D_iload b_M_nextOnes 4 2 5 := Or.inr ⟨2, ⟨by decide +kernel, rfl⟩, rfl⟩
theorem d_M_nextOnes_5 : cd_Dk b_M_nextOnes 5 (nI 24) 7 := Or.inr (Or.inl ⟨24, ⟨by decide +kernel, rfl⟩, by decide +kernel⟩)
theorem d_M_nextOnes_7 : cd_D_icmp_ge b_M_nextOnes 7 77 10 := ⟨70, by decide +kernel, by decide, rfl⟩
theorem d_M_nextOnes_10 : cd_D_iload b_M_nextOnes 10 1 11 := Or.inr ⟨1, ⟨by decide +kernel, rfl⟩, rfl⟩
theorem d_M_nextOnes_11 : cd_D_if_ne b_M_nextOnes 11 77 14 := ⟨66, by decide +kernel, by decide, rfl⟩
theorem d_M_nextOnes_14 : cd_Dk b_M_nextOnes 14 (nI 0) 15 := Or.inl ⟨0, ⟨by decide +kernel, rfl⟩, by decide +kernel⟩
theorem d_M_nextOnes_15 : cd_D_istore b_M_nextOnes 15 3 16 := Or.inr ⟨3, ⟨by decide +kernel, rfl⟩, rfl⟩
theorem d_M_nextOnes_16 : cd_D_iload b_M_nextOnes 16 3 17 := Or.inr ⟨3, ⟨by decide +kernel, rfl⟩, rfl⟩
theorem d_M_nextOnes_17 : cd_D_aload b_M_nextOnes 17 0 18 := Or.inr ⟨0, ⟨by decide +kernel, rfl⟩, rfl⟩
theorem d_M_nextOnes_18 : cd_D 3 b_M_nextOnes 18 (.getfield 9) 21 := ⟨by decide +kernel, rfl⟩
theorem d_M_nextOnes_21 : cd_Dk b_M_nextOnes 21 (nI 1) 22 := Or.inl ⟨1, ⟨by decide +kernel, rfl⟩, by decide +kernel⟩
theorem d_M_nextOnes_22 : cd_D 1 b_M_nextOnes 22 .iaload 23 := ⟨by decide +kernel, rfl⟩
theorem d_M_nextOnes_23 : cd_D_icmp_ge b_M_nextOnes 23 71 26 := ⟨48, by decide +kernel, by decide, rfl⟩
theorem d_M_nextOnes_26 : cd_D_iload b_M_nextOnes 26 1 27 := Or.inr ⟨1, ⟨by decide +kernel, rfl⟩, rfl⟩
theorem d_M_nextOnes_27 : cd_D_aload b_M_nextOnes 27 0 28 := Or.inr ⟨0, ⟨by decide +kernel, rfl⟩, rfl⟩
theorem d_M_nextOnes_28 : cd_D_iload b_M_nextOnes 28 3 29 := Or.inr ⟨3, ⟨by decide +kernel, rfl⟩, rfl⟩
theorem d_M_nextOnes_29 : cd_Dk b_M_nextOnes 29 (nI 2) 30 := Or.inl ⟨2, ⟨by decide +kernel, rfl⟩, by decide +kernel⟩
theorem d_M_nextOnes_30 : cd_D 3 b_M_nextOnes 30 (.invokevirtual 97) 33 := ⟨by decide +kernel, rfl⟩
theorem d_M_nextOnes_33 : cd_D_if_le b_M_nextOnes 33 62 36 := ⟨29, by decide +kernel, by decide, rfl⟩
theorem d_M_nextOnes_36 : cd_D_aload b_M_nextOnes 36 0 37 := Or.inr ⟨0, ⟨by decide +kernel, rfl⟩, rfl⟩
theorem d_M_nextOnes_37 : cd_D_iload b_M_nextOnes 37 3 38 := Or.inr ⟨3, ⟨by decide +kernel, rfl⟩, rfl⟩
theorem d_M_nextOnes_38 : cd_Dk b_M_nextOnes 38 (nI 1) 39 := Or.inl ⟨1, ⟨by decide +kernel, rfl⟩, by decide +kernel⟩
theorem d_M_nextOnes_39 : cd_D 3 b_M_nextOnes 39 (.invokevirtual 97) 42 := ⟨by decide +kernel, rfl⟩
theorem d_M_nextOnes_42 : cd_D_aload b_M_nextOnes 42 0 43 := Or.inr ⟨0, ⟨by decide +kernel, rfl⟩, rfl⟩
theorem d_M_nextOnes_43 : cd_D 3 b_M_nextOnes 43 (.getfield 9) 46 := ⟨by decide +kernel, rfl⟩
theorem d_M_nextOnes_46 : cd_Dk b_M_nextOnes 46 (nI 2) 47 := Or.inl ⟨2, ⟨by decide +kernel, rfl⟩, by decide +kernel⟩
theorem d_M_nextOnes_47 : cd_D 1 b_M_nextOnes 47 .iaload 48 := ⟨by decide +kernel, rfl⟩
theorem d_M_nextOnes_48 : cd_D_iload b_M_nextOnes 48 2 49 := Or.inr ⟨2, ⟨by decide +kernel, rfl⟩, rfl⟩
theorem d_M_nextOnes_49 : cd_D 1 b_M_nextOnes 49 .iadd 50 := ⟨by decide +kernel, rfl⟩
theorem d_M_nextOnes_50 : cd_Dk b_M_nextOnes 50 (nI 24) 52 := Or.inr (Or.inl ⟨24, ⟨by decide +kernel, rfl⟩, by decide +kernel⟩)
theorem d_M_nextOnes_52 : cd_D 1 b_M_nextOnes 52 .irem 53 := ⟨by decide +kernel, rfl⟩
theorem d_M_nextOnes_53 : cd_D_icmp_ne b_M_nextOnes 53 62 56 := ⟨9, by decide +kernel, by decide, rfl⟩
theorem d_M_nextOnes_56 : cd_Dk b_M_nextOnes 56 (nI 1) 57 := Or.inl ⟨1, ⟨by decide +kernel, rfl⟩, by decide +kernel⟩
theorem d_M_nextOnes_57 : cd_D_iload b_M_nextOnes 57 3 58 := Or.inr ⟨3, ⟨by decide +kernel, rfl⟩, rfl⟩
theorem d_M_nextOnes_58 : cd_D 1 b_M_nextOnes 58 .ishl 59 := ⟨by decide +kernel, rfl⟩
theorem d_M_nextOnes_59 : cd_D_goto b_M_nextOnes 59 63 := ⟨4, by decide +kernel, by decide⟩
theorem d_M_nextOnes_62 : cd_Dk b_M_nextOnes 62 (nI 0) 63 := Or.inl ⟨0, ⟨by decide +kernel, rfl⟩, by decide +kernel⟩
theorem d_M_nextOnes_63 : cd_D 1 b_M_nextOnes 63 .ior 64 := ⟨by decide +kernel, rfl⟩
theorem d_M_nextOnes_64 : cd_D_istore b_M_nextOnes 64 1 65 := Or.inr ⟨1, ⟨by decide +kernel, rfl⟩, rfl⟩
theorem d_M_nextOnes_65 : cd_D 3 b_M_nextOnes 65 (.iinc 3 (1)) 68 := ⟨by decide +kernel, rfl⟩
theorem d_M_nextOnes_68 : cd_D_goto b_M_nextOnes 68 16 := ⟨-52, by decide +kernel, by decide⟩
theorem d_M_nextOnes_71 : cd_D 3 b_M_nextOnes 71 (.iinc 2 (1)) 74 := ⟨by decide +kernel, rfl⟩
theorem d_M_nextOnes_74 : cd_D_goto b_M_nextOnes 74 4 := ⟨-70, by decide +kernel, by decide⟩
theorem d_M_nextOnes_77 : cd_D_iload b_M_nextOnes 77 1 78 := Or.inr ⟨1, ⟨by decide +kernel, rfl⟩, rfl⟩
theorem d_M_nextOnes_78 : cd_D 1 b_M_nextOnes 78 .ireturn 79 := ⟨by decide +kernel, rfl⟩
theorem c_M_nextOnes {l : Launch} {w : cd_WT} {S : cd_Sp} {I : cd_Mem} {m : Nat} (hM : cd_MO w S m) (mm : Nat) (hN1 : I (m + 1) 1 = nI mm) (hmm : mm ≤ 12) : cd_C l w m_M_nextOnes 1 0 0 [.ref m] S I (cd_Fi S (cd_nk (I (m + 1)) mm 24) I) := by
  refine cd_intro (by decide) (by simp [Value.category]) (Nat.le_of_ble_eq_true rfl) ?_
  intro X hO hE
  show cd_J w X 0 0 S I 0 [some (.ref m), none, none, none] []
  have inner : ∀ (K : Int32) (r a : Nat), (∀ x3 : Option Value, cd_J w X 0 0 S I 71 [some (.ref m), some (.int (cd_nj (I (m + 1)) (cd_rem (I (m + 1) 2 + K) (nI 24)) mm)), some (.int K), x3] []) → a + r = mm → cd_J w X 0 0 S I 16 [some (.ref m), some (.int (cd_nj (I (m + 1)) (cd_rem (I (m + 1) 2 + K) (nI 24)) a)), some (.int K), some (.int (nI a))] [] := by
    intro K r
    induction r with
    | zero =>
      intro a hk ha
      have ham : a = mm := by omega
      subst ham
      refine r_iload hO d_M_nextOnes_16 rfl ?_
      refine r_aload hO d_M_nextOnes_17 rfl ?_
      refine r_getR hO f_M_9 rfl hM.2.1 (mo_r1 hM) d_M_nextOnes_18 ?_
      refine r_k hO d_M_nextOnes_21 ?_
      refine r_iald hO (mo_s1 hM) (by omega) (by decide) d_M_nextOnes_22 ?_
      refine r_tops hN1 ?_
      refine r_icmp_ge hO d_M_nextOnes_23 (fun c_23 => ?_) (fun c_23 => ?_)
      · exact hk _
      · exact absurd (nI_le (Nat.le_refl _) (by omega)) c_23
    | succ r ih =>
      intro a hk ha
      refine r_iload hO d_M_nextOnes_16 rfl ?_
      refine r_aload hO d_M_nextOnes_17 rfl ?_
      refine r_getR hO f_M_9 rfl hM.2.1 (mo_r1 hM) d_M_nextOnes_18 ?_
      refine r_k hO d_M_nextOnes_21 ?_
      refine r_iald hO (mo_s1 hM) (by omega) (by decide) d_M_nextOnes_22 ?_
      refine r_tops hN1 ?_
      refine r_icmp_ge hO d_M_nextOnes_23 (fun c_23 => ?_) (fun c_23 => ?_)
      · exact absurd c_23 (nI_ge (by omega) (by omega))
      · refine r_iload hO d_M_nextOnes_26 rfl ?_
        refine r_aload hO d_M_nextOnes_27 rfl ?_
        refine r_iload hO d_M_nextOnes_28 rfl ?_
        refine r_k hO d_M_nextOnes_29 ?_
        refine r_cV2fi hO hE (c_M_of hM _ _ (by omega)) mf_M_of lk_M_97 hM.2.1 rfl (by decide) rfl (Nat.le_of_ble_eq_true rfl) d_M_nextOnes_30 (Nat.zero_le _) (Nat.zero_le _) ?_
        refine r_jn1 (pcJ := 63) (fun v => v = if I (m + 1) (16 + 5 * a + 2) ≤ 0 then nI 0 else if I (m + 1) (16 + 5 * a + 1) = cd_rem (I (m + 1) 2 + K) (nI 24) then nI 1 <<< (nI a &&& 31) else nI 0) (fun v_33 hv_33 => ?_) (fun hj_33 => ?_)
        · subst hv_33
          refine r_ior hO d_M_nextOnes_63 ?_
          refine r_sI1 hO d_M_nextOnes_64 rfl ?_
          refine r_incN3 hO d_M_nextOnes_65 rfl ?_
          refine r_goto hO d_M_nextOnes_68 ?_
          exact ih (a + 1) hk (by omega)
        · refine r_if_le hO d_M_nextOnes_33 (fun c_33 => ?_) (fun c_33 => ?_)
          · refine r_k hO d_M_nextOnes_62 ?_
            exact hj_33 _ (by rw [if_pos c_33])
          · refine r_aload hO d_M_nextOnes_36 rfl ?_
            refine r_iload hO d_M_nextOnes_37 rfl ?_
            refine r_k hO d_M_nextOnes_38 ?_
            refine r_cV2fi hO hE (c_M_of hM _ _ (by omega)) mf_M_of lk_M_97 hM.2.1 rfl (by decide) rfl (Nat.le_of_ble_eq_true rfl) d_M_nextOnes_39 (Nat.zero_le _) (Nat.zero_le _) ?_
            refine r_aload hO d_M_nextOnes_42 rfl ?_
            refine r_getR hO f_M_9 rfl hM.2.1 (mo_r1 hM) d_M_nextOnes_43 ?_
            refine r_k hO d_M_nextOnes_46 ?_
            refine r_iald hO (mo_s1 hM) (by omega) (by decide) d_M_nextOnes_47 ?_
            refine r_iload hO d_M_nextOnes_48 rfl ?_
            refine r_iadd hO d_M_nextOnes_49 ?_
            refine r_k hO d_M_nextOnes_50 ?_
            refine r_irem hO d_M_nextOnes_52 (by decide) ?_
            refine r_icmp_ne hO d_M_nextOnes_53 (fun c_53 => ?_) (fun c_53 => ?_)
            · refine r_k hO d_M_nextOnes_62 ?_
              exact hj_33 _ (by rw [if_neg c_33, if_neg c_53])
            · refine r_k hO d_M_nextOnes_56 ?_
              refine r_iload hO d_M_nextOnes_57 rfl ?_
              refine r_ishl hO d_M_nextOnes_58 ?_
              refine r_goto hO d_M_nextOnes_59 ?_
              exact hj_33 _ (by rw [if_neg c_33, if_pos c_53])
  have outer : ∀ (r k : Nat) (x3 : Option Value), k + r = 24 → cd_J w X 0 0 S I 4 [some (.ref m), some (.int (cd_nk (I (m + 1)) mm k)), some (.int (nI k)), x3] [] := by
    intro r
    induction r with
    | zero =>
      intro k x3 hk
      have hk4 : k = 24 := by omega
      subst hk4
      refine r_iload hO d_M_nextOnes_4 rfl ?_
      refine r_k hO d_M_nextOnes_5 ?_
      refine r_icmp_ge hO d_M_nextOnes_7 (fun c_7 => ?_) (fun c_7 => ?_)
      · refine r_iload hO d_M_nextOnes_77 rfl ?_
        refine r_iret hO hE (Nat.zero_le _) (Nat.zero_le _) d_M_nextOnes_78 ?_
        exact ⟨rfl, rfl, rfl⟩
      · exact absurd (nI_le (Nat.le_refl _) (by omega)) c_7
    | succ r ih =>
      intro k x3 hk
      refine r_iload hO d_M_nextOnes_4 rfl ?_
      refine r_k hO d_M_nextOnes_5 ?_
      refine r_icmp_ge hO d_M_nextOnes_7 (fun c_7 => ?_) (fun c_7 => ?_)
      · exact absurd c_7 (nI_ge (by omega) (by omega))
      · refine r_iload hO d_M_nextOnes_10 rfl ?_
        refine r_if_ne hO d_M_nextOnes_11 (fun c_11 => ?_) (fun c_11 => ?_)
        · refine r_iload hO d_M_nextOnes_77 rfl ?_
          refine r_iret hO hE (Nat.zero_le _) (Nat.zero_le _) d_M_nextOnes_78 ?_
          exact ⟨by rw [← hk, cd_nk_st c_11], rfl, rfl⟩
        · refine r_k hO d_M_nextOnes_14 ?_
          refine r_sI3 hO d_M_nextOnes_15 rfl ?_
          have h0 : cd_nk (I (m + 1)) mm k = nI 0 := c_11
          rw [h0]
          refine inner (nI k) mm 0 (fun x4 => ?_) (by omega)
          refine r_incN2 hO d_M_nextOnes_71 rfl ?_
          refine r_goto hO d_M_nextOnes_74 ?_
          rw [show cd_nj (I (m + 1)) (cd_rem (I (m + 1) 2 + nI k) (nI 24)) mm = cd_nk (I (m + 1)) mm (k + 1) from (if_pos c_11).symm]
          exact ih (k + 1) _ (by omega)
  refine r_k hO d_M_nextOnes_0 ?_
  refine r_sI1 hO d_M_nextOnes_1 rfl ?_
  refine r_k hO d_M_nextOnes_2 ?_
  refine r_sI2 hO d_M_nextOnes_3 rfl ?_
  exact outer 24 0 _ (by omega)
theorem d_M_house_0 : cd_D_iload b_M_house 0 1 1 := Or.inr ⟨1, ⟨by decide +kernel, rfl⟩, rfl⟩
theorem d_M_house_1 : cd_Dk b_M_house 1 (nI 0) 2 := Or.inl ⟨0, ⟨by decide +kernel, rfl⟩, by decide +kernel⟩
theorem d_M_house_2 : cd_Dk b_M_house 2 (nI 7) 4 := Or.inr (Or.inl ⟨7, ⟨by decide +kernel, rfl⟩, by decide +kernel⟩)
theorem d_M_house_4 : cd_D 3 b_M_house 4 (.invokestatic 75) 7 := ⟨by decide +kernel, rfl⟩
theorem d_M_house_7 : cd_D_if_ne b_M_house 7 13 10 := ⟨6, by decide +kernel, by decide, rfl⟩
theorem d_M_house_10 : cd_D 2 b_M_house 10 (.ldc 87) 12 := ⟨by decide +kernel, rfl⟩
theorem d_M_house_12 : cd_D 1 b_M_house 12 .ireturn 13 := ⟨by decide +kernel, rfl⟩
theorem d_M_house_13 : cd_D_iload b_M_house 13 1 14 := Or.inr ⟨1, ⟨by decide +kernel, rfl⟩, rfl⟩
theorem d_M_house_14 : cd_D_if_ne b_M_house 14 27 17 := ⟨13, by decide +kernel, by decide, rfl⟩
theorem d_M_house_17 : cd_D_aload b_M_house 17 0 18 := Or.inr ⟨0, ⟨by decide +kernel, rfl⟩, rfl⟩
theorem d_M_house_18 : cd_D 3 b_M_house 18 (.getfield 9) 21 := ⟨by decide +kernel, rfl⟩
theorem d_M_house_21 : cd_Dk b_M_house 21 (nI 7) 23 := Or.inr (Or.inl ⟨7, ⟨by decide +kernel, rfl⟩, by decide +kernel⟩)
theorem d_M_house_23 : cd_D 1 b_M_house 23 .iaload 24 := ⟨by decide +kernel, rfl⟩
theorem d_M_house_24 : cd_D_goto b_M_house 24 64 := ⟨40, by decide +kernel, by decide⟩
theorem d_M_house_27 : cd_D_iload b_M_house 27 1 28 := Or.inr ⟨1, ⟨by decide +kernel, rfl⟩, rfl⟩
theorem d_M_house_28 : cd_Dk b_M_house 28 (nI 6) 30 := Or.inr (Or.inl ⟨6, ⟨by decide +kernel, rfl⟩, by decide +kernel⟩)
theorem d_M_house_30 : cd_D_icmp_ge b_M_house 30 47 33 := ⟨17, by decide +kernel, by decide, rfl⟩
theorem d_M_house_33 : cd_D_aload b_M_house 33 0 34 := Or.inr ⟨0, ⟨by decide +kernel, rfl⟩, rfl⟩
theorem d_M_house_34 : cd_D 3 b_M_house 34 (.getfield 9) 37 := ⟨by decide +kernel, rfl⟩
theorem d_M_house_37 : cd_Dk b_M_house 37 (nI 10) 39 := Or.inr (Or.inl ⟨10, ⟨by decide +kernel, rfl⟩, by decide +kernel⟩)
theorem d_M_house_39 : cd_D_iload b_M_house 39 1 40 := Or.inr ⟨1, ⟨by decide +kernel, rfl⟩, rfl⟩
theorem d_M_house_40 : cd_D 1 b_M_house 40 .iadd 41 := ⟨by decide +kernel, rfl⟩
theorem d_M_house_41 : cd_Dk b_M_house 41 (nI 1) 42 := Or.inl ⟨1, ⟨by decide +kernel, rfl⟩, by decide +kernel⟩
theorem d_M_house_42 : cd_D 1 b_M_house 42 .isub 43 := ⟨by decide +kernel, rfl⟩
theorem d_M_house_43 : cd_D 1 b_M_house 43 .iaload 44 := ⟨by decide +kernel, rfl⟩
theorem d_M_house_44 : cd_D_goto b_M_house 44 64 := ⟨20, by decide +kernel, by decide⟩
theorem d_M_house_47 : cd_D_iload b_M_house 47 1 48 := Or.inr ⟨1, ⟨by decide +kernel, rfl⟩, rfl⟩
theorem d_M_house_48 : cd_Dk b_M_house 48 (nI 6) 50 := Or.inr (Or.inl ⟨6, ⟨by decide +kernel, rfl⟩, by decide +kernel⟩)
theorem d_M_house_50 : cd_D_icmp_ne b_M_house 50 60 53 := ⟨10, by decide +kernel, by decide, rfl⟩
theorem d_M_house_53 : cd_D_aload b_M_house 53 0 54 := Or.inr ⟨0, ⟨by decide +kernel, rfl⟩, rfl⟩
theorem d_M_house_54 : cd_D 3 b_M_house 54 (.invokevirtual 164) 57 := ⟨by decide +kernel, rfl⟩
theorem d_M_house_57 : cd_D_goto b_M_house 57 64 := ⟨7, by decide +kernel, by decide⟩
theorem d_M_house_60 : cd_D_aload b_M_house 60 0 61 := Or.inr ⟨0, ⟨by decide +kernel, rfl⟩, rfl⟩
theorem d_M_house_61 : cd_D 3 b_M_house 61 (.invokevirtual 167) 64 := ⟨by decide +kernel, rfl⟩
theorem d_M_house_64 : cd_D 1 b_M_house 64 .ireturn 65 := ⟨by decide +kernel, rfl⟩
theorem c_M_house {l : Launch} {w : cd_WT} {S : cd_Sp} {I : cd_Mem} {m : Nat} (hM : cd_MO w S m) (mm tc : Nat) (hV : cd_V (I (m + 1)) mm tc) (q : Int32) : cd_C l w m_M_house 2 0 0 [.ref m, .int q] S I (cd_Fi S (sp_house (I (m + 1)) mm q) I) := by
  refine cd_intro (by decide) (by simp [Value.category]) (Nat.le_of_ble_eq_true rfl) ?_
  intro X hO hE
  show cd_J w X 0 0 S I 0 [some (.ref m), some (.int q)] []
  refine r_iload hO d_M_house_0 rfl ?_
  refine r_k hO d_M_house_1 ?_
  refine r_k hO d_M_house_2 ?_
  refine r_cS3fi hO hE (c_M_in _ _ _) mf_M_in lk_M_75 (by decide) rfl (Nat.le_of_ble_eq_true rfl) d_M_house_4 (Nat.zero_le _) (Nat.zero_le _) ?_
  refine r_if_neB hO d_M_house_7 (fun c_7 => ?_) (fun c_7 => ?_)
  · obtain ⟨z, hz1, hz2, rfl⟩ := cd_in_ex c_7 (by decide) (by decide)
    refine r_iload hO d_M_house_13 rfl ?_
    refine r_if_ne hO d_M_house_14 (fun c_14 => ?_) (fun c_14 => ?_)
    · refine r_iload hO d_M_house_27 rfl ?_
      refine r_k hO d_M_house_28 ?_
      refine r_icmp_ge hO d_M_house_30 (fun c_30 => ?_) (fun c_30 => ?_)
      · refine r_iload hO d_M_house_47 rfl ?_
        refine r_k hO d_M_house_48 ?_
        refine r_icmp_ne hO d_M_house_50 (fun c_50 => ?_) (fun c_50 => ?_)
        · refine r_aload hO d_M_house_60 rfl ?_
          refine r_cV0fi hO hE (c_M_nextOnes hM mm hV.1 hV.2.1) mf_M_nextOnes lk_M_167 hM.2.1 rfl (by decide) rfl (Nat.le_of_ble_eq_true rfl) d_M_house_61 (Nat.zero_le _) (Nat.zero_le _) ?_
          refine r_iret hO hE (Nat.zero_le _) (Nat.zero_le _) d_M_house_64 ?_
          exact ⟨by unfold sp_house; rw [if_pos c_7, if_neg c_14, if_pos c_30, if_neg c_50], rfl, rfl⟩
        · refine r_aload hO d_M_house_53 rfl ?_
          refine r_cV0fi hO hE (c_M_habits hM mm hV.1 hV.2.1) mf_M_habits lk_M_164 hM.2.1 rfl (by decide) rfl (Nat.le_of_ble_eq_true rfl) d_M_house_54 (Nat.zero_le _) (Nat.zero_le _) ?_
          refine r_goto hO d_M_house_57 ?_
          refine r_iret hO hE (Nat.zero_le _) (Nat.zero_le _) d_M_house_64 ?_
          exact ⟨by unfold sp_house; rw [if_pos c_7, if_neg c_14, if_pos c_30, if_pos c_50], rfl, rfl⟩
      · have hz6 : z < 6 := Nat.lt_of_not_le (fun q => c_30 (nI_le q (by omega)))
        refine r_aload hO d_M_house_33 rfl ?_
        refine r_getR hO f_M_9 rfl hM.2.1 (mo_r1 hM) d_M_house_34 ?_
        refine r_k hO d_M_house_37 ?_
        refine r_iload hO d_M_house_39 rfl ?_
        refine r_iaddN hO d_M_house_40 ?_
        refine r_k hO d_M_house_41 ?_
        refine r_isubN hO d_M_house_42 (by omega) ?_
        refine r_iald hO (mo_s1 hM) (by omega) (by decide) d_M_house_43 ?_
        refine r_goto hO d_M_house_44 ?_
        refine r_iret hO hE (Nat.zero_le _) (Nat.zero_le _) d_M_house_64 ?_
        exact ⟨by unfold sp_house; rw [if_pos c_7, if_neg c_14, if_neg c_30, cd_tn_nI (by omega)], rfl, rfl⟩
    · refine r_aload hO d_M_house_17 rfl ?_
      refine r_getR hO f_M_9 rfl hM.2.1 (mo_r1 hM) d_M_house_18 ?_
      refine r_k hO d_M_house_21 ?_
      refine r_iald hO (mo_s1 hM) (by omega) (by decide) d_M_house_23 ?_
      refine r_goto hO d_M_house_24 ?_
      refine r_iret hO hE (Nat.zero_le _) (Nat.zero_le _) d_M_house_64 ?_
      exact ⟨by unfold sp_house; rw [if_pos c_7, if_pos c_14], rfl, rfl⟩
  · refine r_ldc hO k_M_87 d_M_house_10 ?_
    refine r_iret hO hE (Nat.zero_le _) (Nat.zero_le _) d_M_house_12 ?_
    exact ⟨by unfold sp_house; rw [if_neg c_7], rfl, rfl⟩
end
section
theorem cd_V_upd {N : Nat → Int32} {mm tc k : Nat} {v : Int32} (h : cd_V N mm tc) (hk : k < 76) (h1 : k ≠ 1) (h15 : k ≠ 15) : cd_V (upd N k v) mm tc := by
  have e : ∀ j, (j = 1 ∨ j = 15 ∨ 76 ≤ j) → upd N k v j = N j := fun j hj => if_neg (by omega)
  obtain ⟨a1, a2, a3, a4, a5⟩ := h
  refine ⟨by rw [e 1 (by omega)]; exact a1, a2, by rw [e 15 (by omega)]; exact a3, a4, fun t ht => ?_⟩
  obtain ⟨ky, n, b1, b2, b3, b4, b5, b6⟩ := a5 t ht
  have e2 : (fun q => upd N k v (104 + 96 * t + q)) = fun q => N (104 + 96 * t + q) := by
    funext q
    exact e _ (by omega)
  exact ⟨ky, n, by rw [e _ (by omega)]; exact b1, b2, b3, b4, by rw [e2]; exact b5, by rw [e2]; exact b6⟩
theorem cd_cp_back {N B r : Nat → Int32} (h1 : ∀ j, j < 76 → B j = N j) (h2 : ∀ j, 76 ≤ j → r j = N j) : cd_cp 76 B r = N := by
  funext j
  unfold cd_cp
  split
  · exact h1 j ‹_›
  · exact h2 j (by omega)
theorem cd_hs_add (N : Nat → Int32) (mm tc a : Nat) : ∀ b, cd_hs (cd_hs N mm tc a) mm tc b = cd_hs N mm tc (a + b)
  | 0 => rfl
  | b + 1 => by
    show cd_hr (cd_hs (cd_hs N mm tc a) mm tc b) mm tc = _
    rw [cd_hs_add N mm tc a b]
    rfl
theorem d_M_habitsBehind_0 : cd_D_aload b_M_habitsBehind 0 0 1 := Or.inr ⟨0, ⟨by decide +kernel, rfl⟩, rfl⟩
theorem d_M_habitsBehind_1 : cd_D_iload b_M_habitsBehind 1 1 2 := Or.inr ⟨1, ⟨by decide +kernel, rfl⟩, rfl⟩
theorem d_M_habitsBehind_2 : cd_D 3 b_M_habitsBehind 2 (.invokevirtual 161) 5 := ⟨by decide +kernel, rfl⟩
theorem d_M_habitsBehind_5 : cd_D_aload b_M_habitsBehind 5 0 6 := Or.inr ⟨0, ⟨by decide +kernel, rfl⟩, rfl⟩
theorem d_M_habitsBehind_6 : cd_D 3 b_M_habitsBehind 6 (.invokevirtual 164) 9 := ⟨by decide +kernel, rfl⟩
theorem d_M_habitsBehind_9 : cd_D_istore b_M_habitsBehind 9 2 10 := Or.inr ⟨2, ⟨by decide +kernel, rfl⟩, rfl⟩
theorem d_M_habitsBehind_10 : cd_D_aload b_M_habitsBehind 10 0 11 := Or.inr ⟨0, ⟨by decide +kernel, rfl⟩, rfl⟩
theorem d_M_habitsBehind_11 : cd_D 3 b_M_habitsBehind 11 (.invokevirtual 173) 14 := ⟨by decide +kernel, rfl⟩
theorem d_M_habitsBehind_14 : cd_D_iload b_M_habitsBehind 14 2 15 := Or.inr ⟨2, ⟨by decide +kernel, rfl⟩, rfl⟩
theorem d_M_habitsBehind_15 : cd_D 1 b_M_habitsBehind 15 .ireturn 16 := ⟨by decide +kernel, rfl⟩
theorem c_M_habitsBehind {l : Launch} {w : cd_WT} {S : cd_Sp} {I : cd_Mem} {m : Nat} (hM : cd_MO w S m) (mm tc n : Nat) (hV : cd_V (I (m + 1)) mm tc) (hn : n < 2 ^ 31) (N0 : Nat → Int32) (hB : ∀ j, j < 76 → I (m + 4) j = N0 j) (hA : ∀ j, 76 ≤ j → I (m + 1) j = N0 j) : cd_C l w m_M_habitsBehind 7 0 0 [.ref m, .int (nI n)] S I (cd_Pi S (fun x I' => x = cd_hb (cd_hs (I (m + 1)) mm tc n) mm ∧ I' (m + 1) = N0 ∧ cd_off I I' [m + 1, m + 11, m + 12])) := by
  refine cd_intro (by decide) (by simp [Value.category]) (Nat.le_of_ble_eq_true rfl) ?_
  intro X hO hE
  show cd_J w X 0 0 S I 0 [some (.ref m), some (.int (nI n)), none] []
  refine r_aload hO d_M_habitsBehind_0 rfl ?_
  refine r_iload hO d_M_habitsBehind_1 rfl ?_
  refine r_cV1v hO hE (c_M_goesOn hM mm tc n hn hV) mf_M_goesOn lk_M_161 hM.2.1 rfl (by decide) rfl (Nat.le_of_ble_eq_true rfl) d_M_habitsBehind_2 (Nat.zero_le _) (Nat.zero_le _) ?_
  rintro I2 ⟨h2, ho2⟩
  have h4 : I2 (m + 4) = I (m + 4) := ho2 _ (by simp)
  have hback : cd_cp 76 (I2 (m + 4)) (I2 (m + 1)) = N0 := by rw [h4, h2]; exact cd_cp_back hB (fun j hj => (kq_hs _ hV.2.1 tc n j (by omega)).trans (hA j hj))
  refine r_aload hO d_M_habitsBehind_5 rfl ?_
  refine r_cV0fi hO hE (c_M_habits hM mm (by rw [h2]; exact (hV.kq (kq_hs _ hV.2.1 tc n)).1) hV.2.1) mf_M_habits lk_M_164 hM.2.1 rfl (by decide) rfl (Nat.le_of_ble_eq_true rfl) d_M_habitsBehind_6 (Nat.zero_le _) (Nat.zero_le _) ?_
  refine r_sI2 hO d_M_habitsBehind_9 rfl ?_
  refine r_aload hO d_M_habitsBehind_10 rfl ?_
  refine r_cV0fv hO hE (c_M_putsBack hM) mf_M_putsBack lk_M_173 hM.2.1 rfl (by decide) rfl (Nat.le_of_ble_eq_true rfl) d_M_habitsBehind_11 (Nat.zero_le _) (Nat.zero_le _) ?_
  rw [hback]
  refine r_iload hO d_M_habitsBehind_14 rfl ?_
  refine r_iret hO hE (Nat.zero_le _) (Nat.zero_le _) d_M_habitsBehind_15 ?_
  exact ⟨_, rfl, rfl, by rw [h2], cd_set_eq _ _ _, ho2.tr (cd_off.set _ _ (by simp))⟩
theorem d_M_risingsBehind_0 : cd_D_aload b_M_risingsBehind 0 0 1 := Or.inr ⟨0, ⟨by decide +kernel, rfl⟩, rfl⟩
theorem d_M_risingsBehind_1 : cd_D_iload b_M_risingsBehind 1 1 2 := Or.inr ⟨1, ⟨by decide +kernel, rfl⟩, rfl⟩
theorem d_M_risingsBehind_2 : cd_D 3 b_M_risingsBehind 2 (.invokevirtual 161) 5 := ⟨by decide +kernel, rfl⟩
theorem d_M_risingsBehind_5 : cd_D_aload b_M_risingsBehind 5 0 6 := Or.inr ⟨0, ⟨by decide +kernel, rfl⟩, rfl⟩
theorem d_M_risingsBehind_6 : cd_D 3 b_M_risingsBehind 6 (.getfield 9) 9 := ⟨by decide +kernel, rfl⟩
theorem d_M_risingsBehind_9 : cd_Dk b_M_risingsBehind 9 (nI 10) 11 := Or.inr (Or.inl ⟨10, ⟨by decide +kernel, rfl⟩, by decide +kernel⟩)
theorem d_M_risingsBehind_11 : cd_D 1 b_M_risingsBehind 11 .iaload 12 := ⟨by decide +kernel, rfl⟩
theorem d_M_risingsBehind_12 : cd_D_istore b_M_risingsBehind 12 2 13 := Or.inr ⟨2, ⟨by decide +kernel, rfl⟩, rfl⟩
theorem d_M_risingsBehind_13 : cd_D_aload b_M_risingsBehind 13 0 14 := Or.inr ⟨0, ⟨by decide +kernel, rfl⟩, rfl⟩
theorem d_M_risingsBehind_14 : cd_D 3 b_M_risingsBehind 14 (.invokevirtual 173) 17 := ⟨by decide +kernel, rfl⟩
theorem d_M_risingsBehind_17 : cd_D_iload b_M_risingsBehind 17 2 18 := Or.inr ⟨2, ⟨by decide +kernel, rfl⟩, rfl⟩
theorem d_M_risingsBehind_18 : cd_D 1 b_M_risingsBehind 18 .ireturn 19 := ⟨by decide +kernel, rfl⟩
theorem c_M_risingsBehind {l : Launch} {w : cd_WT} {S : cd_Sp} {I : cd_Mem} {m : Nat} (hM : cd_MO w S m) (mm tc n : Nat) (hV : cd_V (I (m + 1)) mm tc) (hn : n < 2 ^ 31) (N0 : Nat → Int32) (hB : ∀ j, j < 76 → I (m + 4) j = N0 j) (hA : ∀ j, 76 ≤ j → I (m + 1) j = N0 j) : cd_C l w m_M_risingsBehind 7 0 0 [.ref m, .int (nI n)] S I (cd_Pi S (fun x I' => x = cd_hs (I (m + 1)) mm tc n 10 ∧ I' (m + 1) = N0 ∧ cd_off I I' [m + 1, m + 11, m + 12])) := by
  refine cd_intro (by decide) (by simp [Value.category]) (Nat.le_of_ble_eq_true rfl) ?_
  intro X hO hE
  show cd_J w X 0 0 S I 0 [some (.ref m), some (.int (nI n)), none] []
  refine r_aload hO d_M_risingsBehind_0 rfl ?_
  refine r_iload hO d_M_risingsBehind_1 rfl ?_
  refine r_cV1v hO hE (c_M_goesOn hM mm tc n hn hV) mf_M_goesOn lk_M_161 hM.2.1 rfl (by decide) rfl (Nat.le_of_ble_eq_true rfl) d_M_risingsBehind_2 (Nat.zero_le _) (Nat.zero_le _) ?_
  rintro I2 ⟨h2, ho2⟩
  have h4 : I2 (m + 4) = I (m + 4) := ho2 _ (by simp)
  have hback : cd_cp 76 (I2 (m + 4)) (I2 (m + 1)) = N0 := by rw [h4, h2]; exact cd_cp_back hB (fun j hj => (kq_hs _ hV.2.1 tc n j (by omega)).trans (hA j hj))
  refine r_aload hO d_M_risingsBehind_5 rfl ?_
  refine r_getR hO f_M_9 rfl hM.2.1 (mo_r1 hM) d_M_risingsBehind_6 ?_
  refine r_k hO d_M_risingsBehind_9 ?_
  refine r_iald hO (mo_s1 hM) (by omega) (by decide) d_M_risingsBehind_11 ?_
  refine r_sI2 hO d_M_risingsBehind_12 rfl ?_
  refine r_aload hO d_M_risingsBehind_13 rfl ?_
  refine r_cV0fv hO hE (c_M_putsBack hM) mf_M_putsBack lk_M_173 hM.2.1 rfl (by decide) rfl (Nat.le_of_ble_eq_true rfl) d_M_risingsBehind_14 (Nat.zero_le _) (Nat.zero_le _) ?_
  rw [hback]
  refine r_iload hO d_M_risingsBehind_17 rfl ?_
  refine r_iret hO hE (Nat.zero_le _) (Nat.zero_le _) d_M_risingsBehind_18 ?_
  exact ⟨_, rfl, rfl, by rw [h2], cd_set_eq _ _ _, ho2.tr (cd_off.set _ _ (by simp))⟩
def cd_bh (N : Nat → Int32) (q : Int32) : Int32 := if q = 0 then N 10 else if q = nI 1 then N 11 else if q = nI 2 then N 7 else N (16 + 5 * cd_tn (q - nI 3) + 2)
def sp_behind (N : Nat → Int32) (mm tc : Nat) (n q : Int32) : Int32 := if nI 0 ≤ n ∧ n ≤ nI 100 then (if q < 0 then cd_BAD else if q ≤ nI 2 then cd_bh (cd_hs N mm tc (cd_tn n)) q else if cd_isA N (q - nI 3) then cd_bh (cd_hs N mm tc (cd_tn n)) q else cd_BAD) else cd_BAD
theorem cd_le0 {x : Int32} (h : ¬ x < 0) : nI 0 ≤ x := by
  rw [Int32.lt_iff_toInt_lt] at h
  rw [Int32.le_iff_toInt_le]
  have e : (nI 0).toInt = 0 := rfl
  have e2 : (0 : Int32).toInt = 0 := rfl
  omega
theorem cd_addsub (x y : Int32) : y + (x - y) = x := by
  rw [Int32.add_comm, Int32.sub_add_cancel]
theorem d_M_behind_0 : cd_D_iload b_M_behind 0 1 1 := Or.inr ⟨1, ⟨by decide +kernel, rfl⟩, rfl⟩
theorem d_M_behind_1 : cd_Dk b_M_behind 1 (nI 0) 2 := Or.inl ⟨0, ⟨by decide +kernel, rfl⟩, by decide +kernel⟩
theorem d_M_behind_2 : cd_Dk b_M_behind 2 (nI 100) 4 := Or.inr (Or.inl ⟨100, ⟨by decide +kernel, rfl⟩, by decide +kernel⟩)
theorem d_M_behind_4 : cd_D 3 b_M_behind 4 (.invokestatic 75) 7 := ⟨by decide +kernel, rfl⟩
theorem d_M_behind_7 : cd_D_if_eq b_M_behind 7 29 10 := ⟨22, by decide +kernel, by decide, rfl⟩
theorem d_M_behind_10 : cd_D_iload b_M_behind 10 2 11 := Or.inr ⟨2, ⟨by decide +kernel, rfl⟩, rfl⟩
theorem d_M_behind_11 : cd_D_if_lt b_M_behind 11 29 14 := ⟨18, by decide +kernel, by decide, rfl⟩
theorem d_M_behind_14 : cd_D_iload b_M_behind 14 2 15 := Or.inr ⟨2, ⟨by decide +kernel, rfl⟩, rfl⟩
theorem d_M_behind_15 : cd_Dk b_M_behind 15 (nI 2) 16 := Or.inl ⟨2, ⟨by decide +kernel, rfl⟩, by decide +kernel⟩
theorem d_M_behind_16 : cd_D_icmp_le b_M_behind 16 32 19 := ⟨16, by decide +kernel, by decide, rfl⟩
theorem d_M_behind_19 : cd_D_aload b_M_behind 19 0 20 := Or.inr ⟨0, ⟨by decide +kernel, rfl⟩, rfl⟩
theorem d_M_behind_20 : cd_D_iload b_M_behind 20 2 21 := Or.inr ⟨2, ⟨by decide +kernel, rfl⟩, rfl⟩
theorem d_M_behind_21 : cd_Dk b_M_behind 21 (nI 3) 22 := Or.inl ⟨3, ⟨by decide +kernel, rfl⟩, by decide +kernel⟩
theorem d_M_behind_22 : cd_D 1 b_M_behind 22 .isub 23 := ⟨by decide +kernel, rfl⟩
theorem d_M_behind_23 : cd_D 3 b_M_behind 23 (.invokevirtual 108) 26 := ⟨by decide +kernel, rfl⟩
theorem d_M_behind_26 : cd_D_if_ne b_M_behind 26 32 29 := ⟨6, by decide +kernel, by decide, rfl⟩
theorem d_M_behind_29 : cd_D 2 b_M_behind 29 (.ldc 87) 31 := ⟨by decide +kernel, rfl⟩
theorem d_M_behind_31 : cd_D 1 b_M_behind 31 .ireturn 32 := ⟨by decide +kernel, rfl⟩
theorem d_M_behind_32 : cd_D_aload b_M_behind 32 0 33 := Or.inr ⟨0, ⟨by decide +kernel, rfl⟩, rfl⟩
theorem d_M_behind_33 : cd_D 3 b_M_behind 33 (.invokevirtual 170) 36 := ⟨by decide +kernel, rfl⟩
theorem d_M_behind_36 : cd_D_aload b_M_behind 36 0 37 := Or.inr ⟨0, ⟨by decide +kernel, rfl⟩, rfl⟩
theorem d_M_behind_37 : cd_D_iload b_M_behind 37 1 38 := Or.inr ⟨1, ⟨by decide +kernel, rfl⟩, rfl⟩
theorem d_M_behind_38 : cd_D 3 b_M_behind 38 (.invokevirtual 161) 41 := ⟨by decide +kernel, rfl⟩
theorem d_M_behind_41 : cd_D_iload b_M_behind 41 2 42 := Or.inr ⟨2, ⟨by decide +kernel, rfl⟩, rfl⟩
theorem d_M_behind_42 : cd_D_if_ne b_M_behind 42 55 45 := ⟨13, by decide +kernel, by decide, rfl⟩
theorem d_M_behind_45 : cd_D_aload b_M_behind 45 0 46 := Or.inr ⟨0, ⟨by decide +kernel, rfl⟩, rfl⟩
theorem d_M_behind_46 : cd_D 3 b_M_behind 46 (.getfield 9) 49 := ⟨by decide +kernel, rfl⟩
theorem d_M_behind_49 : cd_Dk b_M_behind 49 (nI 10) 51 := Or.inr (Or.inl ⟨10, ⟨by decide +kernel, rfl⟩, by decide +kernel⟩)
theorem d_M_behind_51 : cd_D 1 b_M_behind 51 .iaload 52 := ⟨by decide +kernel, rfl⟩
theorem d_M_behind_52 : cd_D_goto b_M_behind 52 93 := ⟨41, by decide +kernel, by decide⟩
theorem d_M_behind_55 : cd_D_iload b_M_behind 55 2 56 := Or.inr ⟨2, ⟨by decide +kernel, rfl⟩, rfl⟩
theorem d_M_behind_56 : cd_Dk b_M_behind 56 (nI 1) 57 := Or.inl ⟨1, ⟨by decide +kernel, rfl⟩, by decide +kernel⟩
theorem d_M_behind_57 : cd_D_icmp_ne b_M_behind 57 70 60 := ⟨13, by decide +kernel, by decide, rfl⟩
theorem d_M_behind_60 : cd_D_aload b_M_behind 60 0 61 := Or.inr ⟨0, ⟨by decide +kernel, rfl⟩, rfl⟩
theorem d_M_behind_61 : cd_D 3 b_M_behind 61 (.getfield 9) 64 := ⟨by decide +kernel, rfl⟩
theorem d_M_behind_64 : cd_Dk b_M_behind 64 (nI 11) 66 := Or.inr (Or.inl ⟨11, ⟨by decide +kernel, rfl⟩, by decide +kernel⟩)
theorem d_M_behind_66 : cd_D 1 b_M_behind 66 .iaload 67 := ⟨by decide +kernel, rfl⟩
theorem d_M_behind_67 : cd_D_goto b_M_behind 67 93 := ⟨26, by decide +kernel, by decide⟩
theorem d_M_behind_70 : cd_D_iload b_M_behind 70 2 71 := Or.inr ⟨2, ⟨by decide +kernel, rfl⟩, rfl⟩
theorem d_M_behind_71 : cd_Dk b_M_behind 71 (nI 2) 72 := Or.inl ⟨2, ⟨by decide +kernel, rfl⟩, by decide +kernel⟩
theorem d_M_behind_72 : cd_D_icmp_ne b_M_behind 72 85 75 := ⟨13, by decide +kernel, by decide, rfl⟩
theorem d_M_behind_75 : cd_D_aload b_M_behind 75 0 76 := Or.inr ⟨0, ⟨by decide +kernel, rfl⟩, rfl⟩
theorem d_M_behind_76 : cd_D 3 b_M_behind 76 (.getfield 9) 79 := ⟨by decide +kernel, rfl⟩
theorem d_M_behind_79 : cd_Dk b_M_behind 79 (nI 7) 81 := Or.inr (Or.inl ⟨7, ⟨by decide +kernel, rfl⟩, by decide +kernel⟩)
theorem d_M_behind_81 : cd_D 1 b_M_behind 81 .iaload 82 := ⟨by decide +kernel, rfl⟩
theorem d_M_behind_82 : cd_D_goto b_M_behind 82 93 := ⟨11, by decide +kernel, by decide⟩
theorem d_M_behind_85 : cd_D_aload b_M_behind 85 0 86 := Or.inr ⟨0, ⟨by decide +kernel, rfl⟩, rfl⟩
theorem d_M_behind_86 : cd_D_iload b_M_behind 86 2 87 := Or.inr ⟨2, ⟨by decide +kernel, rfl⟩, rfl⟩
theorem d_M_behind_87 : cd_Dk b_M_behind 87 (nI 3) 88 := Or.inl ⟨3, ⟨by decide +kernel, rfl⟩, by decide +kernel⟩
theorem d_M_behind_88 : cd_D 1 b_M_behind 88 .isub 89 := ⟨by decide +kernel, rfl⟩
theorem d_M_behind_89 : cd_Dk b_M_behind 89 (nI 2) 90 := Or.inl ⟨2, ⟨by decide +kernel, rfl⟩, by decide +kernel⟩
theorem d_M_behind_90 : cd_D 3 b_M_behind 90 (.invokevirtual 97) 93 := ⟨by decide +kernel, rfl⟩
theorem d_M_behind_93 : cd_D_istore b_M_behind 93 3 94 := Or.inr ⟨3, ⟨by decide +kernel, rfl⟩, rfl⟩
theorem d_M_behind_94 : cd_D_aload b_M_behind 94 0 95 := Or.inr ⟨0, ⟨by decide +kernel, rfl⟩, rfl⟩
theorem d_M_behind_95 : cd_D 3 b_M_behind 95 (.invokevirtual 173) 98 := ⟨by decide +kernel, rfl⟩
theorem d_M_behind_98 : cd_D_iload b_M_behind 98 3 99 := Or.inr ⟨3, ⟨by decide +kernel, rfl⟩, rfl⟩
theorem d_M_behind_99 : cd_D 1 b_M_behind 99 .ireturn 100 := ⟨by decide +kernel, rfl⟩
theorem c_M_behind {l : Launch} {w : cd_WT} {S : cd_Sp} {I : cd_Mem} {m : Nat} (hM : cd_MO w S m) (mm tc : Nat) (hV : cd_V (I (m + 1)) mm tc) (n q : Int32) : cd_C l w m_M_behind 7 0 0 [.ref m, .int n, .int q] S I (cd_Pi S (fun x I' => x = sp_behind (I (m + 1)) mm tc n q ∧ cd_off I I' [m + 4, m + 11, m + 12])) := by
  refine cd_intro (by decide) (by simp [Value.category]) (Nat.le_of_ble_eq_true rfl) ?_
  intro X hO hE
  show cd_J w X 0 0 S I 0 [some (.ref m), some (.int n), some (.int q), none] []
  have rest : ∀ (z : Nat) (hz : z ≤ 100) (hp : sp_behind (I (m + 1)) mm tc n q = cd_bh (cd_hs (I (m + 1)) mm tc z) q) (hq : q = 0 ∨ q = nI 1 ∨ q = nI 2 ∨ ∃ i, i < mm ∧ q = nI (3 + i)), cd_J w X 0 0 S I 32 [some (.ref m), some (.int (nI z)), some (.int q), none] [] := by
    intro z hz hp hq
    refine r_aload hO d_M_behind_32 rfl ?_
    refine r_cV0fv hO hE (c_M_thinks hM) mf_M_thinks lk_M_170 hM.2.1 rfl (by decide) rfl (Nat.le_of_ble_eq_true rfl) d_M_behind_33 (Nat.zero_le _) (Nat.zero_le _) ?_
    refine r_gen (fun I1 hI1 => ?_)
    have h1 : I1 (m + 1) = I (m + 1) := by rw [hI1, cd_set_ne _ _ (by omega)]
    have hB : ∀ j, j < 76 → I1 (m + 4) j = I (m + 1) j := fun j hj => by rw [hI1, cd_set_eq]; exact if_pos hj
    have ho1 : cd_off I I1 [m + 4, m + 11, m + 12] := by rw [hI1]; exact cd_off.set _ _ (by simp)
    have hV1 : cd_V (I1 (m + 1)) mm tc := by rw [h1]; exact hV
    refine r_aload hO d_M_behind_36 rfl ?_
    refine r_iload hO d_M_behind_37 rfl ?_
    refine r_cV1v hO hE (c_M_goesOn hM mm tc z (by omega) hV1) mf_M_goesOn lk_M_161 hM.2.1 rfl (by decide) rfl (Nat.le_of_ble_eq_true rfl) d_M_behind_38 (Nat.zero_le _) (Nat.zero_le _) ?_
    rintro I2 ⟨h2, ho2⟩
    rw [h1] at h2
    have hback : cd_cp 76 (I2 (m + 4)) (I2 (m + 1)) = I (m + 1) := by rw [ho2 (m + 4) (by simp), h2]; exact cd_cp_back hB (fun j hj => kq_hs _ hV.2.1 tc z j (by omega))
    refine r_iload hO d_M_behind_41 rfl ?_
    refine r_if_ne hO d_M_behind_42 (fun c_42 => ?_) (fun c_42 => ?_)
    · refine r_iload hO d_M_behind_55 rfl ?_
      refine r_k hO d_M_behind_56 ?_
      refine r_icmp_ne hO d_M_behind_57 (fun c_57 => ?_) (fun c_57 => ?_)
      · refine r_iload hO d_M_behind_70 rfl ?_
        refine r_k hO d_M_behind_71 ?_
        refine r_icmp_ne hO d_M_behind_72 (fun c_72 => ?_) (fun c_72 => ?_)
        · obtain ⟨i, hi, rfl⟩ : ∃ i, i < mm ∧ q = nI (3 + i) := by
            rcases hq with h | h | h | h
            · exact absurd h c_42
            · exact absurd h c_57
            · exact absurd h c_72
            · exact h
          have hmm := hV.2.1
          refine r_aload hO d_M_behind_85 rfl ?_
          refine r_iload hO d_M_behind_86 rfl ?_
          refine r_k hO d_M_behind_87 ?_
          refine r_isubN hO d_M_behind_88 (by omega) ?_
          refine r_k hO d_M_behind_89 ?_
          refine r_cV2fi hO hE (c_M_of hM _ _ (by omega)) mf_M_of lk_M_97 hM.2.1 rfl (by decide) rfl (Nat.le_of_ble_eq_true rfl) d_M_behind_90 (Nat.zero_le _) (Nat.zero_le _) ?_
          rw [h2]
          refine r_sI3 hO d_M_behind_93 rfl ?_
          refine r_aload hO d_M_behind_94 rfl ?_
          refine r_cV0fv hO hE (c_M_putsBack hM) mf_M_putsBack lk_M_173 hM.2.1 rfl (by decide) rfl (Nat.le_of_ble_eq_true rfl) d_M_behind_95 (Nat.zero_le _) (Nat.zero_le _) ?_
          rw [hback]
          refine r_iload hO d_M_behind_98 rfl ?_
          refine r_iret hO hE (Nat.zero_le _) (Nat.zero_le _) d_M_behind_99 ?_
          exact ⟨_, rfl, rfl, by rw [hp]; unfold cd_bh; rw [if_neg c_42, if_neg c_57, if_neg c_72]; rw [pk_sub (by omega), cd_tn_nI (by omega)], fun b hb => by
            by_cases hb1 : b = m + 1
            · subst hb1; exact cd_set_eq _ _ _
            · rw [cd_set_ne _ _ hb1]
              exact (ho2 b (by simp at hb ⊢; omega)).trans (ho1 b hb)⟩
        · refine r_aload hO d_M_behind_75 rfl ?_
          refine r_getR hO f_M_9 rfl hM.2.1 (mo_r1 hM) d_M_behind_76 ?_
          refine r_k hO d_M_behind_79 ?_
          refine r_iald hO (mo_s1 hM) (by omega) (by decide) d_M_behind_81 ?_
          rw [h2]
          refine r_goto hO d_M_behind_82 ?_
          refine r_sI3 hO d_M_behind_93 rfl ?_
          refine r_aload hO d_M_behind_94 rfl ?_
          refine r_cV0fv hO hE (c_M_putsBack hM) mf_M_putsBack lk_M_173 hM.2.1 rfl (by decide) rfl (Nat.le_of_ble_eq_true rfl) d_M_behind_95 (Nat.zero_le _) (Nat.zero_le _) ?_
          rw [hback]
          refine r_iload hO d_M_behind_98 rfl ?_
          refine r_iret hO hE (Nat.zero_le _) (Nat.zero_le _) d_M_behind_99 ?_
          exact ⟨_, rfl, rfl, by rw [hp]; unfold cd_bh; rw [if_neg c_42, if_neg c_57, if_pos c_72], fun b hb => by
            by_cases hb1 : b = m + 1
            · subst hb1; exact cd_set_eq _ _ _
            · rw [cd_set_ne _ _ hb1]
              exact (ho2 b (by simp at hb ⊢; omega)).trans (ho1 b hb)⟩
      · refine r_aload hO d_M_behind_60 rfl ?_
        refine r_getR hO f_M_9 rfl hM.2.1 (mo_r1 hM) d_M_behind_61 ?_
        refine r_k hO d_M_behind_64 ?_
        refine r_iald hO (mo_s1 hM) (by omega) (by decide) d_M_behind_66 ?_
        rw [h2]
        refine r_goto hO d_M_behind_67 ?_
        refine r_sI3 hO d_M_behind_93 rfl ?_
        refine r_aload hO d_M_behind_94 rfl ?_
        refine r_cV0fv hO hE (c_M_putsBack hM) mf_M_putsBack lk_M_173 hM.2.1 rfl (by decide) rfl (Nat.le_of_ble_eq_true rfl) d_M_behind_95 (Nat.zero_le _) (Nat.zero_le _) ?_
        rw [hback]
        refine r_iload hO d_M_behind_98 rfl ?_
        refine r_iret hO hE (Nat.zero_le _) (Nat.zero_le _) d_M_behind_99 ?_
        exact ⟨_, rfl, rfl, by rw [hp]; unfold cd_bh; rw [if_neg c_42, if_pos c_57], fun b hb => by
          by_cases hb1 : b = m + 1
          · subst hb1; exact cd_set_eq _ _ _
          · rw [cd_set_ne _ _ hb1]
            exact (ho2 b (by simp at hb ⊢; omega)).trans (ho1 b hb)⟩
    · refine r_aload hO d_M_behind_45 rfl ?_
      refine r_getR hO f_M_9 rfl hM.2.1 (mo_r1 hM) d_M_behind_46 ?_
      refine r_k hO d_M_behind_49 ?_
      refine r_iald hO (mo_s1 hM) (by omega) (by decide) d_M_behind_51 ?_
      rw [h2]
      refine r_goto hO d_M_behind_52 ?_
      refine r_sI3 hO d_M_behind_93 rfl ?_
      refine r_aload hO d_M_behind_94 rfl ?_
      refine r_cV0fv hO hE (c_M_putsBack hM) mf_M_putsBack lk_M_173 hM.2.1 rfl (by decide) rfl (Nat.le_of_ble_eq_true rfl) d_M_behind_95 (Nat.zero_le _) (Nat.zero_le _) ?_
      rw [hback]
      refine r_iload hO d_M_behind_98 rfl ?_
      refine r_iret hO hE (Nat.zero_le _) (Nat.zero_le _) d_M_behind_99 ?_
      exact ⟨_, rfl, rfl, by rw [hp]; unfold cd_bh; rw [if_pos c_42], fun b hb => by
        by_cases hb1 : b = m + 1
        · subst hb1; exact cd_set_eq _ _ _
        · rw [cd_set_ne _ _ hb1]
          exact (ho2 b (by simp at hb ⊢; omega)).trans (ho1 b hb)⟩
  refine r_iload hO d_M_behind_0 rfl ?_
  refine r_k hO d_M_behind_1 ?_
  refine r_k hO d_M_behind_2 ?_
  refine r_cS3fi hO hE (c_M_in _ _ _) mf_M_in lk_M_75 (by decide) rfl (Nat.le_of_ble_eq_true rfl) d_M_behind_4 (Nat.zero_le _) (Nat.zero_le _) ?_
  refine r_if_eqB hO d_M_behind_7 (fun c_7 => ?_) (fun c_7 => ?_)
  · refine r_ldc hO k_M_87 d_M_behind_29 ?_
    refine r_iret hO hE (Nat.zero_le _) (Nat.zero_le _) d_M_behind_31 ?_
    exact ⟨_, rfl, rfl, by unfold sp_behind; rw [if_neg c_7], cd_off.rf _ _⟩
  · refine r_iload hO d_M_behind_10 rfl ?_
    refine r_if_lt hO d_M_behind_11 (fun c_11 => ?_) (fun c_11 => ?_)
    · refine r_ldc hO k_M_87 d_M_behind_29 ?_
      refine r_iret hO hE (Nat.zero_le _) (Nat.zero_le _) d_M_behind_31 ?_
      exact ⟨_, rfl, rfl, by unfold sp_behind; rw [if_pos c_7, if_pos c_11], cd_off.rf _ _⟩
    · refine r_iload hO d_M_behind_14 rfl ?_
      refine r_k hO d_M_behind_15 ?_
      refine r_icmp_le hO d_M_behind_16 (fun c_16 => ?_) (fun c_16 => ?_)
      · obtain ⟨z, -, hz2, rfl⟩ := cd_in_ex c_7 (by decide) (by decide)
        obtain ⟨y, -, hy, rfl⟩ := cd_in_ex (lo := 0) ⟨cd_le0 c_11, c_16⟩ (by decide) (by decide)
        refine rest z hz2 (by unfold sp_behind; rw [if_pos c_7, if_neg c_11, if_pos c_16, cd_tn_nI (by omega)]) ?_
        rcases (show y = 0 ∨ y = 1 ∨ y = 2 by omega) with rfl | rfl | rfl
        · exact Or.inl rfl
        · exact Or.inr (Or.inl rfl)
        · exact Or.inr (Or.inr (Or.inl rfl))
      · refine r_aload hO d_M_behind_19 rfl ?_
        refine r_iload hO d_M_behind_20 rfl ?_
        refine r_k hO d_M_behind_21 ?_
        refine r_isub hO d_M_behind_22 ?_
        refine r_cV1fi hO hE (c_M_isAsking hM _) mf_M_isAsking lk_M_108 hM.2.1 rfl (by decide) rfl (Nat.le_of_ble_eq_true rfl) d_M_behind_23 (Nat.zero_le _) (Nat.zero_le _) ?_
        refine r_if_neB hO d_M_behind_26 (fun c_26 => ?_) (fun c_26 => ?_)
        · obtain ⟨z, -, hz2, rfl⟩ := cd_in_ex c_7 (by decide) (by decide)
          obtain ⟨i, hi, hie⟩ := cd_isA_ex hV.1 hV.2.1 c_26
          refine rest z hz2 (by unfold sp_behind; rw [if_pos c_7, if_neg c_11, if_neg c_16, if_pos c_26, cd_tn_nI (by omega)]) (Or.inr (Or.inr (Or.inr ⟨i, hi, ?_⟩)))
          rw [← nI_add, ← hie]
          exact (cd_addsub q (nI 3)).symm
        · refine r_ldc hO k_M_87 d_M_behind_29 ?_
          refine r_iret hO hE (Nat.zero_le _) (Nat.zero_le _) d_M_behind_31 ?_
          exact ⟨_, rfl, rfl, by unfold sp_behind; rw [if_pos c_7, if_neg c_11, if_neg c_16, if_neg c_26], cd_off.rf _ _⟩
def cd_q (N : Nat → Int32) (mm tc : Nat) : Nat → Nat → Nat
  | 0, n => n
  | r + 1, n => if cd_hb (cd_hs N mm tc n) mm ≤ 0 then n else cd_q N mm tc r (n + 1)
def sp_quiet (N : Nat → Int32) (mm tc : Nat) : Int32 := if cd_q N mm tc 301 0 ≤ 300 then nI (cd_q N mm tc 301 0) else cd_NONE
theorem d_M_quiet_0 : cd_D_aload b_M_quiet 0 0 1 := Or.inr ⟨0, ⟨by decide +kernel, rfl⟩, rfl⟩
theorem d_M_quiet_1 : cd_D 3 b_M_quiet 1 (.invokevirtual 170) 4 := ⟨by decide +kernel, rfl⟩
theorem d_M_quiet_4 : cd_Dk b_M_quiet 4 (nI 0) 5 := Or.inl ⟨0, ⟨by decide +kernel, rfl⟩, by decide +kernel⟩
theorem d_M_quiet_5 : cd_D_istore b_M_quiet 5 1 6 := Or.inr ⟨1, ⟨by decide +kernel, rfl⟩, rfl⟩
theorem d_M_quiet_6 : cd_D_iload b_M_quiet 6 1 7 := Or.inr ⟨1, ⟨by decide +kernel, rfl⟩, rfl⟩
theorem d_M_quiet_7 : cd_Dk b_M_quiet 7 (nI 300) 10 := Or.inr (Or.inr ⟨300, ⟨by decide +kernel, rfl⟩, by decide +kernel⟩)
theorem d_M_quiet_10 : cd_D_icmp_gt b_M_quiet 10 30 13 := ⟨20, by decide +kernel, by decide, rfl⟩
theorem d_M_quiet_13 : cd_D_aload b_M_quiet 13 0 14 := Or.inr ⟨0, ⟨by decide +kernel, rfl⟩, rfl⟩
theorem d_M_quiet_14 : cd_D 3 b_M_quiet 14 (.invokevirtual 164) 17 := ⟨by decide +kernel, rfl⟩
theorem d_M_quiet_17 : cd_D_if_le b_M_quiet 17 30 20 := ⟨13, by decide +kernel, by decide, rfl⟩
theorem d_M_quiet_20 : cd_D_aload b_M_quiet 20 0 21 := Or.inr ⟨0, ⟨by decide +kernel, rfl⟩, rfl⟩
theorem d_M_quiet_21 : cd_D 3 b_M_quiet 21 (.invokevirtual 158) 24 := ⟨by decide +kernel, rfl⟩
theorem d_M_quiet_24 : cd_D 3 b_M_quiet 24 (.iinc 1 (1)) 27 := ⟨by decide +kernel, rfl⟩
theorem d_M_quiet_27 : cd_D_goto b_M_quiet 27 6 := ⟨-21, by decide +kernel, by decide⟩
theorem d_M_quiet_30 : cd_D_aload b_M_quiet 30 0 31 := Or.inr ⟨0, ⟨by decide +kernel, rfl⟩, rfl⟩
theorem d_M_quiet_31 : cd_D 3 b_M_quiet 31 (.invokevirtual 173) 34 := ⟨by decide +kernel, rfl⟩
theorem d_M_quiet_34 : cd_D_iload b_M_quiet 34 1 35 := Or.inr ⟨1, ⟨by decide +kernel, rfl⟩, rfl⟩
theorem d_M_quiet_35 : cd_Dk b_M_quiet 35 (nI 300) 38 := Or.inr (Or.inr ⟨300, ⟨by decide +kernel, rfl⟩, by decide +kernel⟩)
theorem d_M_quiet_38 : cd_D_icmp_le b_M_quiet 38 46 41 := ⟨8, by decide +kernel, by decide, rfl⟩
theorem d_M_quiet_41 : cd_D 2 b_M_quiet 41 (.ldc 176) 43 := ⟨by decide +kernel, rfl⟩
theorem d_M_quiet_43 : cd_D_goto b_M_quiet 43 47 := ⟨4, by decide +kernel, by decide⟩
theorem d_M_quiet_46 : cd_D_iload b_M_quiet 46 1 47 := Or.inr ⟨1, ⟨by decide +kernel, rfl⟩, rfl⟩
theorem d_M_quiet_47 : cd_D 1 b_M_quiet 47 .ireturn 48 := ⟨by decide +kernel, rfl⟩
theorem c_M_quiet {l : Launch} {w : cd_WT} {S : cd_Sp} {I : cd_Mem} {m : Nat} (hM : cd_MO w S m) (mm tc : Nat) (hV : cd_V (I (m + 1)) mm tc)  : cd_C l w m_M_quiet 6 0 0 [.ref m] S I (cd_Pi S (fun x I' => x = sp_quiet (I (m + 1)) mm tc ∧ cd_off I I' [m + 4, m + 11, m + 12])) := by
  refine cd_intro (by decide) (by simp [Value.category]) (Nat.le_of_ble_eq_true rfl) ?_
  intro X hO hE
  show cd_J w X 0 0 S I 0 [some (.ref m), none] []
  have hmm := hV.2.1
  have loop : ∀ (I1 : cd_Mem), I1 (m + 1) = I (m + 1) → (∀ j, j < 76 → I1 (m + 4) j = I (m + 1) j) → cd_off I I1 [m + 4, m + 11, m + 12] → ∀ (r k : Nat) (I2 : cd_Mem), k + r = 301 → cd_q (I (m + 1)) mm tc r k = cd_q (I (m + 1)) mm tc 301 0 → I2 (m + 1) = cd_hs (I (m + 1)) mm tc k → cd_off I1 I2 [m + 1, m + 11, m + 12] → cd_J w X 0 0 S I2 6 [some (.ref m), some (.int (nI k))] [] := by
    intro I1 h1 hB ho1
    have fin : ∀ (k : Nat) (I2 : cd_Mem), k ≤ 301 → cd_q (I (m + 1)) mm tc 301 0 = k → I2 (m + 1) = cd_hs (I (m + 1)) mm tc k → cd_off I1 I2 [m + 1, m + 11, m + 12] → cd_J w X 0 0 S I2 30 [some (.ref m), some (.int (nI k))] [] := by
      intro k I2 hk hq h2 ho
      have hback : cd_cp 76 (I2 (m + 4)) (I2 (m + 1)) = I (m + 1) := by rw [ho (m + 4) (by simp), h2]; exact cd_cp_back hB (fun j hj => kq_hs _ hV.2.1 tc k j (by omega))
      refine r_aload hO d_M_quiet_30 rfl ?_
      refine r_cV0fv hO hE (c_M_putsBack hM) mf_M_putsBack lk_M_173 hM.2.1 rfl (by decide) rfl (Nat.le_of_ble_eq_true rfl) d_M_quiet_31 (Nat.zero_le _) (Nat.zero_le _) ?_
      rw [hback]
      refine r_iload hO d_M_quiet_34 rfl ?_
      refine r_k hO d_M_quiet_35 ?_
      refine r_icmp_le hO d_M_quiet_38 (fun c_38 => ?_) (fun c_38 => ?_)
      · have hk3 : k ≤ 300 := Nat.le_of_not_lt (fun q => absurd c_38 (nI_ge q (by omega)))
        refine r_iload hO d_M_quiet_46 rfl ?_
        refine r_iret hO hE (Nat.zero_le _) (Nat.zero_le _) d_M_quiet_47 ?_
        exact ⟨_, rfl, rfl, by unfold sp_quiet; rw [hq, if_pos hk3], fun b hb => by
          by_cases hb1 : b = m + 1
          · subst hb1; exact cd_set_eq _ _ _
          · rw [cd_set_ne _ _ hb1]
            exact (ho b (by simp at hb ⊢; omega)).trans (ho1 b hb)⟩
      · have hk3 : ¬ k ≤ 300 := fun q => c_38 (nI_le q (by omega))
        refine r_ldc hO k_M_176 d_M_quiet_41 ?_
        refine r_goto hO d_M_quiet_43 ?_
        refine r_iret hO hE (Nat.zero_le _) (Nat.zero_le _) d_M_quiet_47 ?_
        exact ⟨_, rfl, rfl, by unfold sp_quiet; rw [hq, if_neg hk3], fun b hb => by
          by_cases hb1 : b = m + 1
          · subst hb1; exact cd_set_eq _ _ _
          · rw [cd_set_ne _ _ hb1]
            exact (ho b (by simp at hb ⊢; omega)).trans (ho1 b hb)⟩
    intro r
    induction r with
    | zero =>
      intro k I2 hk hq h2 ho
      have hk1 : k = 301 := by omega
      subst hk1
      refine r_iload hO d_M_quiet_6 rfl ?_
      refine r_k hO d_M_quiet_7 ?_
      refine r_icmp_gt hO d_M_quiet_10 (fun c_10 => ?_) (fun c_10 => ?_)
      · exact fin 301 I2 (by decide) hq.symm h2 ho
      · exact absurd (nI_lt (by decide : 300 < 301) (by decide)) c_10
    | succ r ih =>
      intro k I2 hk hq h2 ho
      refine r_iload hO d_M_quiet_6 rfl ?_
      refine r_k hO d_M_quiet_7 ?_
      refine r_icmp_gt hO d_M_quiet_10 (fun c_10 => ?_) (fun c_10 => ?_)
      · exact absurd c_10 (nI_nlt (by omega) (by omega))
      · refine r_aload hO d_M_quiet_13 rfl ?_
        refine r_cV0fi hO hE (c_M_habits hM mm (by rw [h2]; exact (hV.kq (kq_hs _ hV.2.1 tc k)).1) hV.2.1) mf_M_habits lk_M_164 hM.2.1 rfl (by decide) rfl (Nat.le_of_ble_eq_true rfl) d_M_quiet_14 (Nat.zero_le _) (Nat.zero_le _) ?_
        rw [h2]
        refine r_if_le hO d_M_quiet_17 (fun c_17 => ?_) (fun c_17 => ?_)
        · exact fin k I2 (by omega) (by rw [← hq]; exact if_pos c_17) h2 ho
        · refine r_aload hO d_M_quiet_20 rfl ?_
          refine r_cV0v hO hE (c_M_hour hM mm tc (by rw [h2]; exact hV.kq (kq_hs _ hmm tc k))) mf_M_hour lk_M_158 hM.2.1 rfl (by decide) rfl (Nat.le_of_ble_eq_true rfl) d_M_quiet_21 (Nat.zero_le _) (Nat.zero_le _) ?_
          rintro I3 ⟨h3, ho3⟩
          rw [h2] at h3
          refine r_incN1 hO d_M_quiet_24 rfl ?_
          refine r_goto hO d_M_quiet_27 ?_
          exact ih (k + 1) I3 (by omega) (by rw [← hq]; exact (if_neg c_17).symm) h3 (ho.tr ho3)
  refine r_aload hO d_M_quiet_0 rfl ?_
  refine r_cV0fv hO hE (c_M_thinks hM) mf_M_thinks lk_M_170 hM.2.1 rfl (by decide) rfl (Nat.le_of_ble_eq_true rfl) d_M_quiet_1 (Nat.zero_le _) (Nat.zero_le _) ?_
  refine r_gen (fun I1 hI1 => ?_)
  have h1 : I1 (m + 1) = I (m + 1) := by rw [hI1, cd_set_ne _ _ (by omega)]
  have hB : ∀ j, j < 76 → I1 (m + 4) j = I (m + 1) j := fun j hj => by rw [hI1, cd_set_eq]; exact if_pos hj
  have ho1 : cd_off I I1 [m + 4, m + 11, m + 12] := by rw [hI1]; exact cd_off.set _ _ (by simp)
  have hV1 : cd_V (I1 (m + 1)) mm tc := by rw [h1]; exact hV
  refine r_k hO d_M_quiet_4 ?_
  refine r_sI1 hO d_M_quiet_5 rfl ?_
  exact loop I1 h1 hB ho1 301 0 I1 (by decide) rfl h1 (cd_off.rf _ _)
end
section
def cd_bm (f : Nat → Int32) : Nat → Int32 × Int32
  | 0 => (-1, nI 0)
  | p + 1 => if (cd_bm f p).1 < 0 then (nI p, f p) else if (cd_bm f p).2 ≤ f p then cd_bm f p else (nI p, f p)
theorem cd_bm_a {f : Nat → Int32} {k : Nat} {b l x : Int32} (hb : cd_bm f k = (b, l)) (hx : x = f k) (h : b < 0) : cd_bm f (k + 1) = (nI k, x) := by
  show (if (cd_bm f k).1 < 0 then _ else _) = _
  rw [hb, if_pos h, hx]
theorem cd_bm_b {f : Nat → Int32} {k : Nat} {b l x : Int32} (hb : cd_bm f k = (b, l)) (hx : x = f k) (h : ¬ b < 0) (h2 : l ≤ x) : cd_bm f (k + 1) = (b, l) := by
  show (if (cd_bm f k).1 < 0 then _ else if (cd_bm f k).2 ≤ f k then cd_bm f k else _) = _
  rw [hb, if_neg h, if_pos (by rw [← hx]; exact h2)]
theorem cd_bm_c {f : Nat → Int32} {k : Nat} {b l x : Int32} (hb : cd_bm f k = (b, l)) (hx : x = f k) (h : ¬ b < 0) (h2 : ¬ l ≤ x) : cd_bm f (k + 1) = (nI k, x) := by
  show (if (cd_bm f k).1 < 0 then _ else if (cd_bm f k).2 ≤ f k then cd_bm f k else _) = _
  rw [hb, if_neg h, if_neg (by rw [← hx]; exact h2), hx]
def sp_firm (N : Nat → Int32) (mm tc : Nat) (n q : Int32) : Int32 := if nI 1 ≤ n ∧ n ≤ nI 48 then (if nI 0 ≤ q ∧ q ≤ nI 1 then (if q = 0 then (cd_bm (fun p => cd_hb (cd_hs (upd N 3 (nI p)) mm tc (cd_tn n)) mm) 100).1 else (cd_bm (fun p => cd_hb (cd_hs (upd N 3 (nI p)) mm tc (cd_tn n)) mm) 100).2) else cd_BAD) else cd_BAD
def sp_heard (N : Nat → Int32) (mm tc : Nat) (n q : Int32) : Int32 := if nI 1 ≤ n ∧ n ≤ nI 100 then (if nI 0 ≤ q ∧ q ≤ nI 1 then (if 0 ≤ (cd_bm (fun p => cd_hs (upd N (16 + 5 * p + 2) (nI 0)) mm tc (cd_tn n) 10) mm).1 then (if q = 0 then (cd_bm (fun p => cd_hs (upd N (16 + 5 * p + 2) (nI 0)) mm tc (cd_tn n) 10) mm).1 else (cd_bm (fun p => cd_hs (upd N (16 + 5 * p + 2) (nI 0)) mm tc (cd_tn n) 10) mm).2) else cd_NONE) else cd_BAD) else cd_BAD
def sp_givenIn (N : Nat → Int32) (mm tc : Nat) (n a : Int32) : Int32 := if nI 1 ≤ n ∧ n ≤ nI 100 then (if cd_isA N a then cd_hb (cd_hs (cd_le N (cd_tn a)) mm tc (cd_tn n)) mm - cd_hb (cd_hs N mm tc (cd_tn n)) mm else cd_BAD) else cd_BAD
def cd_la (N : Nat → Int32) (mm tc : Nat) : Nat → Int32
  | 0 => nI 0
  | k + 1 => cd_la N mm tc k + (nI 1 - cd_hs N mm tc (k + 1) 7)
def sp_lamp (N : Nat → Int32) (mm tc : Nat) (n : Int32) : Int32 := if nI 1 ≤ n ∧ n ≤ nI 100 then cd_la N mm tc (cd_tn n) else cd_BAD
def sp_saved (N : Nat → Int32) (mm tc : Nat) (n : Int32) : Int32 := if nI 1 ≤ n ∧ n ≤ nI 100 then cd_hs (upd N 6 (nI 0)) mm tc (cd_tn n) 10 - cd_hs (upd N 6 (nI 1)) mm tc (cd_tn n) 10 else cd_BAD
/-- off some rows, and the row now as it was -/
theorem cd_off_in {I I1 I2 : cd_Mem} {m : Nat} (ho1 : cd_off I I1 [m + 4, m + 11, m + 12]) (h2 : I2 (m + 1) = I (m + 1)) (ho2 : cd_off I1 I2 [m + 1, m + 11, m + 12]) : cd_off I I2 [m + 4, m + 11, m + 12] := fun b hb => by
  by_cases hb1 : b = m + 1
  · subst hb1; exact h2
  · exact (ho2 b (by simp at hb ⊢; omega)).trans (ho1 b hb)
theorem d_M_saved_0 : cd_D_iload b_M_saved 0 1 1 := Or.inr ⟨1, ⟨by decide +kernel, rfl⟩, rfl⟩
theorem d_M_saved_1 : cd_Dk b_M_saved 1 (nI 1) 2 := Or.inl ⟨1, ⟨by decide +kernel, rfl⟩, by decide +kernel⟩
theorem d_M_saved_2 : cd_Dk b_M_saved 2 (nI 100) 4 := Or.inr (Or.inl ⟨100, ⟨by decide +kernel, rfl⟩, by decide +kernel⟩)
theorem d_M_saved_4 : cd_D 3 b_M_saved 4 (.invokestatic 75) 7 := ⟨by decide +kernel, rfl⟩
theorem d_M_saved_7 : cd_D_if_ne b_M_saved 7 13 10 := ⟨6, by decide +kernel, by decide, rfl⟩
theorem d_M_saved_10 : cd_D 2 b_M_saved 10 (.ldc 87) 12 := ⟨by decide +kernel, rfl⟩
theorem d_M_saved_12 : cd_D 1 b_M_saved 12 .ireturn 13 := ⟨by decide +kernel, rfl⟩
theorem d_M_saved_13 : cd_D_aload b_M_saved 13 0 14 := Or.inr ⟨0, ⟨by decide +kernel, rfl⟩, rfl⟩
theorem d_M_saved_14 : cd_D 3 b_M_saved 14 (.invokevirtual 170) 17 := ⟨by decide +kernel, rfl⟩
theorem d_M_saved_17 : cd_D_aload b_M_saved 17 0 18 := Or.inr ⟨0, ⟨by decide +kernel, rfl⟩, rfl⟩
theorem d_M_saved_18 : cd_D 3 b_M_saved 18 (.getfield 9) 21 := ⟨by decide +kernel, rfl⟩
theorem d_M_saved_21 : cd_Dk b_M_saved 21 (nI 6) 23 := Or.inr (Or.inl ⟨6, ⟨by decide +kernel, rfl⟩, by decide +kernel⟩)
theorem d_M_saved_23 : cd_Dk b_M_saved 23 (nI 0) 24 := Or.inl ⟨0, ⟨by decide +kernel, rfl⟩, by decide +kernel⟩
theorem d_M_saved_24 : cd_D 1 b_M_saved 24 .iastore 25 := ⟨by decide +kernel, rfl⟩
theorem d_M_saved_25 : cd_D_aload b_M_saved 25 0 26 := Or.inr ⟨0, ⟨by decide +kernel, rfl⟩, rfl⟩
theorem d_M_saved_26 : cd_D_iload b_M_saved 26 1 27 := Or.inr ⟨1, ⟨by decide +kernel, rfl⟩, rfl⟩
theorem d_M_saved_27 : cd_D 3 b_M_saved 27 (.invokevirtual 180) 30 := ⟨by decide +kernel, rfl⟩
theorem d_M_saved_30 : cd_D_istore b_M_saved 30 2 31 := Or.inr ⟨2, ⟨by decide +kernel, rfl⟩, rfl⟩
theorem d_M_saved_31 : cd_D_aload b_M_saved 31 0 32 := Or.inr ⟨0, ⟨by decide +kernel, rfl⟩, rfl⟩
theorem d_M_saved_32 : cd_D 3 b_M_saved 32 (.getfield 9) 35 := ⟨by decide +kernel, rfl⟩
theorem d_M_saved_35 : cd_Dk b_M_saved 35 (nI 6) 37 := Or.inr (Or.inl ⟨6, ⟨by decide +kernel, rfl⟩, by decide +kernel⟩)
theorem d_M_saved_37 : cd_Dk b_M_saved 37 (nI 1) 38 := Or.inl ⟨1, ⟨by decide +kernel, rfl⟩, by decide +kernel⟩
theorem d_M_saved_38 : cd_D 1 b_M_saved 38 .iastore 39 := ⟨by decide +kernel, rfl⟩
theorem d_M_saved_39 : cd_D_iload b_M_saved 39 2 40 := Or.inr ⟨2, ⟨by decide +kernel, rfl⟩, rfl⟩
theorem d_M_saved_40 : cd_D_aload b_M_saved 40 0 41 := Or.inr ⟨0, ⟨by decide +kernel, rfl⟩, rfl⟩
theorem d_M_saved_41 : cd_D_iload b_M_saved 41 1 42 := Or.inr ⟨1, ⟨by decide +kernel, rfl⟩, rfl⟩
theorem d_M_saved_42 : cd_D 3 b_M_saved 42 (.invokevirtual 180) 45 := ⟨by decide +kernel, rfl⟩
theorem d_M_saved_45 : cd_D 1 b_M_saved 45 .isub 46 := ⟨by decide +kernel, rfl⟩
theorem d_M_saved_46 : cd_D 1 b_M_saved 46 .ireturn 47 := ⟨by decide +kernel, rfl⟩
theorem c_M_saved {l : Launch} {w : cd_WT} {S : cd_Sp} {I : cd_Mem} {m : Nat} (hM : cd_MO w S m) (mm tc : Nat) (hV : cd_V (I (m + 1)) mm tc) (n : Int32) : cd_C l w m_M_saved 8 0 0 [.ref m, .int n] S I (cd_Pi S (fun x I' => x = sp_saved (I (m + 1)) mm tc n ∧ cd_off I I' [m + 4, m + 11, m + 12])) := by
  refine cd_intro (by decide) (by simp [Value.category]) (Nat.le_of_ble_eq_true rfl) ?_
  intro X hO hE
  show cd_J w X 0 0 S I 0 [some (.ref m), some (.int n), none] []
  refine r_iload hO d_M_saved_0 rfl ?_
  refine r_k hO d_M_saved_1 ?_
  refine r_k hO d_M_saved_2 ?_
  refine r_cS3fi hO hE (c_M_in _ _ _) mf_M_in lk_M_75 (by decide) rfl (Nat.le_of_ble_eq_true rfl) d_M_saved_4 (Nat.zero_le _) (Nat.zero_le _) ?_
  refine r_if_neB hO d_M_saved_7 (fun c_7 => ?_) (fun c_7 => ?_)
  · obtain ⟨z, hz1, hz2, rfl⟩ := cd_in_ex c_7 (by decide) (by decide)
    refine r_aload hO d_M_saved_13 rfl ?_
    refine r_cV0fv hO hE (c_M_thinks hM) mf_M_thinks lk_M_170 hM.2.1 rfl (by decide) rfl (Nat.le_of_ble_eq_true rfl) d_M_saved_14 (Nat.zero_le _) (Nat.zero_le _) ?_
    refine r_gen (fun I1 hI1 => ?_)
    have h1 : I1 (m + 1) = I (m + 1) := by rw [hI1, cd_set_ne _ _ (by omega)]
    have hB : ∀ j, j < 76 → I1 (m + 4) j = I (m + 1) j := fun j hj => by rw [hI1, cd_set_eq]; exact if_pos hj
    have ho1 : cd_off I I1 [m + 4, m + 11, m + 12] := by rw [hI1]; exact cd_off.set _ _ (by simp)
    have hV1 : cd_V (I1 (m + 1)) mm tc := by rw [h1]; exact hV
    refine r_aload hO d_M_saved_17 rfl ?_
    refine r_getR hO f_M_9 rfl hM.2.1 (mo_r1 hM) d_M_saved_18 ?_
    refine r_k hO d_M_saved_21 ?_
    refine r_k hO d_M_saved_23 ?_
    refine r_iast hO (mo_s1 hM) (mo_l1 hM) (by omega) (by decide) d_M_saved_24 ?_
    refine r_aload hO d_M_saved_25 rfl ?_
    refine r_iload hO d_M_saved_26 rfl ?_
    refine r_cV1i hO hE (c_M_risingsBehind hM mm tc z (by rw [cd_set_eq, h1]; exact cd_V_upd hV (by decide) (by decide) (by decide)) (by omega) (I (m + 1)) (fun j hj => by rw [cd_set_ne _ _ (by omega)]; exact hB j hj) (fun j hj => by rw [cd_set_eq, h1]; exact if_neg (by omega))) mf_M_risingsBehind lk_M_180 hM.2.1 rfl (by decide) rfl (Nat.le_of_ble_eq_true rfl) d_M_saved_27 (Nat.zero_le _) (Nat.zero_le _) ?_
    rintro x I2 ⟨hx, h2, ho2⟩
    rw [cd_set_eq, h1] at hx
    have hB2 : ∀ j, j < 76 → I2 (m + 4) j = I (m + 1) j := fun j hj => by rw [ho2 _ (by simp), cd_set_ne _ _ (by omega)]; exact hB j hj
    have ho12 : cd_off I1 I2 [m + 1, m + 11, m + 12] := (cd_off.set _ _ (by simp)).tr ho2
    refine r_sI2 hO d_M_saved_30 rfl ?_
    refine r_aload hO d_M_saved_31 rfl ?_
    refine r_getR hO f_M_9 rfl hM.2.1 (mo_r1 hM) d_M_saved_32 ?_
    refine r_k hO d_M_saved_35 ?_
    refine r_k hO d_M_saved_37 ?_
    refine r_iast hO (mo_s1 hM) (mo_l1 hM) (by omega) (by decide) d_M_saved_38 ?_
    refine r_iload hO d_M_saved_39 rfl ?_
    refine r_aload hO d_M_saved_40 rfl ?_
    refine r_iload hO d_M_saved_41 rfl ?_
    refine r_cV1i hO hE (c_M_risingsBehind hM mm tc z (by rw [cd_set_eq, h2]; exact cd_V_upd hV (by decide) (by decide) (by decide)) (by omega) (I (m + 1)) (fun j hj => by rw [cd_set_ne _ _ (by omega)]; exact hB2 j hj) (fun j hj => by rw [cd_set_eq, h2]; exact if_neg (by omega))) mf_M_risingsBehind lk_M_180 hM.2.1 rfl (by decide) rfl (Nat.le_of_ble_eq_true rfl) d_M_saved_42 (Nat.zero_le _) (Nat.zero_le _) ?_
    rintro y I3 ⟨hy, h3, ho3⟩
    rw [cd_set_eq, h2] at hy
    refine r_isub hO d_M_saved_45 ?_
    refine r_iret hO hE (Nat.zero_le _) (Nat.zero_le _) d_M_saved_46 ?_
    exact ⟨_, rfl, rfl, by unfold sp_saved; rw [if_pos c_7, cd_tn_nI (by omega), hx, hy], cd_off_in ho1 h3 (ho12.tr ((cd_off.set _ _ (by simp)).tr ho3))⟩
  · refine r_ldc hO k_M_87 d_M_saved_10 ?_
    refine r_iret hO hE (Nat.zero_le _) (Nat.zero_le _) d_M_saved_12 ?_
    exact ⟨_, rfl, rfl, by unfold sp_saved; rw [if_neg c_7], cd_off.rf _ _⟩
theorem d_M_givenIn_0 : cd_D_iload b_M_givenIn 0 1 1 := Or.inr ⟨1, ⟨by decide +kernel, rfl⟩, rfl⟩
theorem d_M_givenIn_1 : cd_Dk b_M_givenIn 1 (nI 1) 2 := Or.inl ⟨1, ⟨by decide +kernel, rfl⟩, by decide +kernel⟩
theorem d_M_givenIn_2 : cd_Dk b_M_givenIn 2 (nI 100) 4 := Or.inr (Or.inl ⟨100, ⟨by decide +kernel, rfl⟩, by decide +kernel⟩)
theorem d_M_givenIn_4 : cd_D 3 b_M_givenIn 4 (.invokestatic 75) 7 := ⟨by decide +kernel, rfl⟩
theorem d_M_givenIn_7 : cd_D_if_eq b_M_givenIn 7 18 10 := ⟨11, by decide +kernel, by decide, rfl⟩
theorem d_M_givenIn_10 : cd_D_aload b_M_givenIn 10 0 11 := Or.inr ⟨0, ⟨by decide +kernel, rfl⟩, rfl⟩
theorem d_M_givenIn_11 : cd_D_iload b_M_givenIn 11 2 12 := Or.inr ⟨2, ⟨by decide +kernel, rfl⟩, rfl⟩
theorem d_M_givenIn_12 : cd_D 3 b_M_givenIn 12 (.invokevirtual 108) 15 := ⟨by decide +kernel, rfl⟩
theorem d_M_givenIn_15 : cd_D_if_ne b_M_givenIn 15 21 18 := ⟨6, by decide +kernel, by decide, rfl⟩
theorem d_M_givenIn_18 : cd_D 2 b_M_givenIn 18 (.ldc 87) 20 := ⟨by decide +kernel, rfl⟩
theorem d_M_givenIn_20 : cd_D 1 b_M_givenIn 20 .ireturn 21 := ⟨by decide +kernel, rfl⟩
theorem d_M_givenIn_21 : cd_D_aload b_M_givenIn 21 0 22 := Or.inr ⟨0, ⟨by decide +kernel, rfl⟩, rfl⟩
theorem d_M_givenIn_22 : cd_D 3 b_M_givenIn 22 (.invokevirtual 170) 25 := ⟨by decide +kernel, rfl⟩
theorem d_M_givenIn_25 : cd_D_aload b_M_givenIn 25 0 26 := Or.inr ⟨0, ⟨by decide +kernel, rfl⟩, rfl⟩
theorem d_M_givenIn_26 : cd_D_iload b_M_givenIn 26 1 27 := Or.inr ⟨1, ⟨by decide +kernel, rfl⟩, rfl⟩
theorem d_M_givenIn_27 : cd_D 3 b_M_givenIn 27 (.invokevirtual 177) 30 := ⟨by decide +kernel, rfl⟩
theorem d_M_givenIn_30 : cd_D_istore b_M_givenIn 30 3 31 := Or.inr ⟨3, ⟨by decide +kernel, rfl⟩, rfl⟩
theorem d_M_givenIn_31 : cd_D_aload b_M_givenIn 31 0 32 := Or.inr ⟨0, ⟨by decide +kernel, rfl⟩, rfl⟩
theorem d_M_givenIn_32 : cd_D_iload b_M_givenIn 32 2 33 := Or.inr ⟨2, ⟨by decide +kernel, rfl⟩, rfl⟩
theorem d_M_givenIn_33 : cd_D 3 b_M_givenIn 33 (.invokevirtual 145) 36 := ⟨by decide +kernel, rfl⟩
theorem d_M_givenIn_36 : cd_D_aload b_M_givenIn 36 0 37 := Or.inr ⟨0, ⟨by decide +kernel, rfl⟩, rfl⟩
theorem d_M_givenIn_37 : cd_D_iload b_M_givenIn 37 1 38 := Or.inr ⟨1, ⟨by decide +kernel, rfl⟩, rfl⟩
theorem d_M_givenIn_38 : cd_D 3 b_M_givenIn 38 (.invokevirtual 177) 41 := ⟨by decide +kernel, rfl⟩
theorem d_M_givenIn_41 : cd_D_iload b_M_givenIn 41 3 42 := Or.inr ⟨3, ⟨by decide +kernel, rfl⟩, rfl⟩
theorem d_M_givenIn_42 : cd_D 1 b_M_givenIn 42 .isub 43 := ⟨by decide +kernel, rfl⟩
theorem d_M_givenIn_43 : cd_D 1 b_M_givenIn 43 .ireturn 44 := ⟨by decide +kernel, rfl⟩
theorem c_M_givenIn {l : Launch} {w : cd_WT} {S : cd_Sp} {I : cd_Mem} {m : Nat} (hM : cd_MO w S m) (mm tc : Nat) (hV : cd_V (I (m + 1)) mm tc) (n a : Int32) : cd_C l w m_M_givenIn 8 0 0 [.ref m, .int n, .int a] S I (cd_Pi S (fun x I' => x = sp_givenIn (I (m + 1)) mm tc n a ∧ cd_off I I' [m + 4, m + 11, m + 12])) := by
  refine cd_intro (by decide) (by simp [Value.category]) (Nat.le_of_ble_eq_true rfl) ?_
  intro X hO hE
  show cd_J w X 0 0 S I 0 [some (.ref m), some (.int n), some (.int a), none] []
  refine r_iload hO d_M_givenIn_0 rfl ?_
  refine r_k hO d_M_givenIn_1 ?_
  refine r_k hO d_M_givenIn_2 ?_
  refine r_cS3fi hO hE (c_M_in _ _ _) mf_M_in lk_M_75 (by decide) rfl (Nat.le_of_ble_eq_true rfl) d_M_givenIn_4 (Nat.zero_le _) (Nat.zero_le _) ?_
  refine r_if_eqB hO d_M_givenIn_7 (fun c_7 => ?_) (fun c_7 => ?_)
  · refine r_ldc hO k_M_87 d_M_givenIn_18 ?_
    refine r_iret hO hE (Nat.zero_le _) (Nat.zero_le _) d_M_givenIn_20 ?_
    exact ⟨_, rfl, rfl, by unfold sp_givenIn; rw [if_neg c_7], cd_off.rf _ _⟩
  · obtain ⟨z, hz1, hz2, rfl⟩ := cd_in_ex c_7 (by decide) (by decide)
    refine r_aload hO d_M_givenIn_10 rfl ?_
    refine r_iload hO d_M_givenIn_11 rfl ?_
    refine r_cV1fi hO hE (c_M_isAsking hM _) mf_M_isAsking lk_M_108 hM.2.1 rfl (by decide) rfl (Nat.le_of_ble_eq_true rfl) d_M_givenIn_12 (Nat.zero_le _) (Nat.zero_le _) ?_
    refine r_if_neB hO d_M_givenIn_15 (fun c_15 => ?_) (fun c_15 => ?_)
    · obtain ⟨i, hi, rfl⟩ := cd_isA_ex hV.1 hV.2.1 c_15
      have hmm := hV.2.1
      refine r_aload hO d_M_givenIn_21 rfl ?_
      refine r_cV0fv hO hE (c_M_thinks hM) mf_M_thinks lk_M_170 hM.2.1 rfl (by decide) rfl (Nat.le_of_ble_eq_true rfl) d_M_givenIn_22 (Nat.zero_le _) (Nat.zero_le _) ?_
      refine r_gen (fun I1 hI1 => ?_)
      have h1 : I1 (m + 1) = I (m + 1) := by rw [hI1, cd_set_ne _ _ (by omega)]
      have hB : ∀ j, j < 76 → I1 (m + 4) j = I (m + 1) j := fun j hj => by rw [hI1, cd_set_eq]; exact if_pos hj
      have ho1 : cd_off I I1 [m + 4, m + 11, m + 12] := by rw [hI1]; exact cd_off.set _ _ (by simp)
      have hV1 : cd_V (I1 (m + 1)) mm tc := by rw [h1]; exact hV
      refine r_aload hO d_M_givenIn_25 rfl ?_
      refine r_iload hO d_M_givenIn_26 rfl ?_
      refine r_cV1i hO hE (c_M_habitsBehind hM mm tc z hV1 (by omega) (I (m + 1)) hB (fun j hj => by rw [h1])) mf_M_habitsBehind lk_M_177 hM.2.1 rfl (by decide) rfl (Nat.le_of_ble_eq_true rfl) d_M_givenIn_27 (Nat.zero_le _) (Nat.zero_le _) ?_
      rintro x I2 ⟨hx, h2, ho2⟩
      rw [h1] at hx
      have hB2 : ∀ j, j < 76 → I2 (m + 4) j = I (m + 1) j := fun j hj => by rw [ho2 _ (by simp)]; exact hB j hj
      refine r_sI3 hO d_M_givenIn_30 rfl ?_
      refine r_aload hO d_M_givenIn_31 rfl ?_
      refine r_iload hO d_M_givenIn_32 rfl ?_
      refine r_cV1fv hO hE (c_M_learns hM _ (by omega)) mf_M_learns lk_M_145 hM.2.1 rfl (by decide) rfl (Nat.le_of_ble_eq_true rfl) d_M_givenIn_33 (Nat.zero_le _) (Nat.zero_le _) ?_
      refine r_aload hO d_M_givenIn_36 rfl ?_
      refine r_iload hO d_M_givenIn_37 rfl ?_
      refine r_cV1i hO hE (c_M_habitsBehind hM mm tc z (by rw [cd_set_eq, h2]; exact hV.kq (kq_le _ (by omega))) (by omega) (I (m + 1)) (fun j hj => by rw [cd_set_ne _ _ (by omega)]; exact hB2 j hj) (fun j hj => by rw [cd_set_eq, h2]; exact kq_le _ (by omega) j (by omega))) mf_M_habitsBehind lk_M_177 hM.2.1 rfl (by decide) rfl (Nat.le_of_ble_eq_true rfl) d_M_givenIn_38 (Nat.zero_le _) (Nat.zero_le _) ?_
      rintro y I3 ⟨hy, h3, ho3⟩
      rw [cd_set_eq, h2] at hy
      refine r_iload hO d_M_givenIn_41 rfl ?_
      refine r_isub hO d_M_givenIn_42 ?_
      refine r_iret hO hE (Nat.zero_le _) (Nat.zero_le _) d_M_givenIn_43 ?_
      exact ⟨_, rfl, rfl, by unfold sp_givenIn; rw [if_pos c_7, if_pos c_15, cd_tn_nI (by omega), cd_tn_nI (by omega), hx, hy], cd_off_in ho1 h3 (ho2.tr ((cd_off.set _ _ (by simp)).tr ho3))⟩
    · refine r_ldc hO k_M_87 d_M_givenIn_18 ?_
      refine r_iret hO hE (Nat.zero_le _) (Nat.zero_le _) d_M_givenIn_20 ?_
      exact ⟨_, rfl, rfl, by unfold sp_givenIn; rw [if_pos c_7, if_neg c_15], cd_off.rf _ _⟩
theorem d_M_lamp_0 : cd_D_iload b_M_lamp 0 1 1 := Or.inr ⟨1, ⟨by decide +kernel, rfl⟩, rfl⟩
theorem d_M_lamp_1 : cd_Dk b_M_lamp 1 (nI 1) 2 := Or.inl ⟨1, ⟨by decide +kernel, rfl⟩, by decide +kernel⟩
theorem d_M_lamp_2 : cd_Dk b_M_lamp 2 (nI 100) 4 := Or.inr (Or.inl ⟨100, ⟨by decide +kernel, rfl⟩, by decide +kernel⟩)
theorem d_M_lamp_4 : cd_D 3 b_M_lamp 4 (.invokestatic 75) 7 := ⟨by decide +kernel, rfl⟩
theorem d_M_lamp_7 : cd_D_if_ne b_M_lamp 7 13 10 := ⟨6, by decide +kernel, by decide, rfl⟩
theorem d_M_lamp_10 : cd_D 2 b_M_lamp 10 (.ldc 87) 12 := ⟨by decide +kernel, rfl⟩
theorem d_M_lamp_12 : cd_D 1 b_M_lamp 12 .ireturn 13 := ⟨by decide +kernel, rfl⟩
theorem d_M_lamp_13 : cd_D_aload b_M_lamp 13 0 14 := Or.inr ⟨0, ⟨by decide +kernel, rfl⟩, rfl⟩
theorem d_M_lamp_14 : cd_D 3 b_M_lamp 14 (.invokevirtual 170) 17 := ⟨by decide +kernel, rfl⟩
theorem d_M_lamp_17 : cd_Dk b_M_lamp 17 (nI 0) 18 := Or.inl ⟨0, ⟨by decide +kernel, rfl⟩, by decide +kernel⟩
theorem d_M_lamp_18 : cd_D_istore b_M_lamp 18 2 19 := Or.inr ⟨2, ⟨by decide +kernel, rfl⟩, rfl⟩
theorem d_M_lamp_19 : cd_Dk b_M_lamp 19 (nI 0) 20 := Or.inl ⟨0, ⟨by decide +kernel, rfl⟩, by decide +kernel⟩
theorem d_M_lamp_20 : cd_D_istore b_M_lamp 20 3 21 := Or.inr ⟨3, ⟨by decide +kernel, rfl⟩, rfl⟩
theorem d_M_lamp_21 : cd_D_iload b_M_lamp 21 3 22 := Or.inr ⟨3, ⟨by decide +kernel, rfl⟩, rfl⟩
theorem d_M_lamp_22 : cd_D_iload b_M_lamp 22 1 23 := Or.inr ⟨1, ⟨by decide +kernel, rfl⟩, rfl⟩
theorem d_M_lamp_23 : cd_D_icmp_ge b_M_lamp 23 48 26 := ⟨25, by decide +kernel, by decide, rfl⟩
theorem d_M_lamp_26 : cd_D_aload b_M_lamp 26 0 27 := Or.inr ⟨0, ⟨by decide +kernel, rfl⟩, rfl⟩
theorem d_M_lamp_27 : cd_D 3 b_M_lamp 27 (.invokevirtual 158) 30 := ⟨by decide +kernel, rfl⟩
theorem d_M_lamp_30 : cd_D_iload b_M_lamp 30 2 31 := Or.inr ⟨2, ⟨by decide +kernel, rfl⟩, rfl⟩
theorem d_M_lamp_31 : cd_Dk b_M_lamp 31 (nI 1) 32 := Or.inl ⟨1, ⟨by decide +kernel, rfl⟩, by decide +kernel⟩
theorem d_M_lamp_32 : cd_D_aload b_M_lamp 32 0 33 := Or.inr ⟨0, ⟨by decide +kernel, rfl⟩, rfl⟩
theorem d_M_lamp_33 : cd_D 3 b_M_lamp 33 (.getfield 9) 36 := ⟨by decide +kernel, rfl⟩
theorem d_M_lamp_36 : cd_Dk b_M_lamp 36 (nI 7) 38 := Or.inr (Or.inl ⟨7, ⟨by decide +kernel, rfl⟩, by decide +kernel⟩)
theorem d_M_lamp_38 : cd_D 1 b_M_lamp 38 .iaload 39 := ⟨by decide +kernel, rfl⟩
theorem d_M_lamp_39 : cd_D 1 b_M_lamp 39 .isub 40 := ⟨by decide +kernel, rfl⟩
theorem d_M_lamp_40 : cd_D 1 b_M_lamp 40 .iadd 41 := ⟨by decide +kernel, rfl⟩
theorem d_M_lamp_41 : cd_D_istore b_M_lamp 41 2 42 := Or.inr ⟨2, ⟨by decide +kernel, rfl⟩, rfl⟩
theorem d_M_lamp_42 : cd_D 3 b_M_lamp 42 (.iinc 3 (1)) 45 := ⟨by decide +kernel, rfl⟩
theorem d_M_lamp_45 : cd_D_goto b_M_lamp 45 21 := ⟨-24, by decide +kernel, by decide⟩
theorem d_M_lamp_48 : cd_D_aload b_M_lamp 48 0 49 := Or.inr ⟨0, ⟨by decide +kernel, rfl⟩, rfl⟩
theorem d_M_lamp_49 : cd_D 3 b_M_lamp 49 (.invokevirtual 173) 52 := ⟨by decide +kernel, rfl⟩
theorem d_M_lamp_52 : cd_D_iload b_M_lamp 52 2 53 := Or.inr ⟨2, ⟨by decide +kernel, rfl⟩, rfl⟩
theorem d_M_lamp_53 : cd_D 1 b_M_lamp 53 .ireturn 54 := ⟨by decide +kernel, rfl⟩
theorem c_M_lamp {l : Launch} {w : cd_WT} {S : cd_Sp} {I : cd_Mem} {m : Nat} (hM : cd_MO w S m) (mm tc : Nat) (hV : cd_V (I (m + 1)) mm tc) (n : Int32) : cd_C l w m_M_lamp 6 0 0 [.ref m, .int n] S I (cd_Pi S (fun x I' => x = sp_lamp (I (m + 1)) mm tc n ∧ cd_off I I' [m + 4, m + 11, m + 12])) := by
  refine cd_intro (by decide) (by simp [Value.category]) (Nat.le_of_ble_eq_true rfl) ?_
  intro X hO hE
  show cd_J w X 0 0 S I 0 [some (.ref m), some (.int n), none, none] []
  have hmm := hV.2.1
  have loop : ∀ (I1 : cd_Mem), I1 (m + 1) = I (m + 1) → (∀ j, j < 76 → I1 (m + 4) j = I (m + 1) j) → cd_off I I1 [m + 4, m + 11, m + 12] → ∀ (z : Nat) (hz : z ≤ 100) (hp : sp_lamp (I (m + 1)) mm tc n = cd_la (I (m + 1)) mm tc z) (r k : Nat) (I2 : cd_Mem), k + r = z → I2 (m + 1) = cd_hs (I (m + 1)) mm tc k → cd_off I1 I2 [m + 1, m + 11, m + 12] → cd_J w X 0 0 S I2 21 [some (.ref m), some (.int (nI z)), some (.int (cd_la (I (m + 1)) mm tc k)), some (.int (nI k))] [] := by
    intro I1 h1 hB ho1 z hz hp r
    induction r with
    | zero =>
      intro k I2 hk h2 ho
      have hkz : k = z := by omega
      subst hkz
      have hback : cd_cp 76 (I2 (m + 4)) (I2 (m + 1)) = I (m + 1) := by rw [ho (m + 4) (by simp), h2]; exact cd_cp_back hB (fun j hj => kq_hs _ hV.2.1 tc k j (by omega))
      refine r_iload hO d_M_lamp_21 rfl ?_
      refine r_iload hO d_M_lamp_22 rfl ?_
      refine r_icmp_ge hO d_M_lamp_23 (fun c_23 => ?_) (fun c_23 => ?_)
      · refine r_aload hO d_M_lamp_48 rfl ?_
        refine r_cV0fv hO hE (c_M_putsBack hM) mf_M_putsBack lk_M_173 hM.2.1 rfl (by decide) rfl (Nat.le_of_ble_eq_true rfl) d_M_lamp_49 (Nat.zero_le _) (Nat.zero_le _) ?_
        rw [hback]
        refine r_iload hO d_M_lamp_52 rfl ?_
        refine r_iret hO hE (Nat.zero_le _) (Nat.zero_le _) d_M_lamp_53 ?_
        exact ⟨_, rfl, rfl, hp.symm, cd_off_in ho1 (cd_set_eq _ _ _) (ho.tr (cd_off.set _ _ (by simp)))⟩
      · exact absurd (nI_le (Nat.le_refl _) (by omega)) c_23
    | succ r ih =>
      intro k I2 hk h2 ho
      refine r_iload hO d_M_lamp_21 rfl ?_
      refine r_iload hO d_M_lamp_22 rfl ?_
      refine r_icmp_ge hO d_M_lamp_23 (fun c_23 => ?_) (fun c_23 => ?_)
      · exact absurd c_23 (nI_ge (by omega) (by omega))
      · refine r_aload hO d_M_lamp_26 rfl ?_
        refine r_cV0v hO hE (c_M_hour hM mm tc (by rw [h2]; exact hV.kq (kq_hs _ hmm tc k))) mf_M_hour lk_M_158 hM.2.1 rfl (by decide) rfl (Nat.le_of_ble_eq_true rfl) d_M_lamp_27 (Nat.zero_le _) (Nat.zero_le _) ?_
        rintro I3 ⟨h3, ho3⟩
        rw [h2] at h3
        refine r_iload hO d_M_lamp_30 rfl ?_
        refine r_k hO d_M_lamp_31 ?_
        refine r_aload hO d_M_lamp_32 rfl ?_
        refine r_getR hO f_M_9 rfl hM.2.1 (mo_r1 hM) d_M_lamp_33 ?_
        refine r_k hO d_M_lamp_36 ?_
        refine r_iald hO (mo_s1 hM) (by omega) (by decide) d_M_lamp_38 ?_
        rw [h3]
        refine r_isub hO d_M_lamp_39 ?_
        refine r_iadd hO d_M_lamp_40 ?_
        refine r_sI2 hO d_M_lamp_41 rfl ?_
        refine r_incN3 hO d_M_lamp_42 rfl ?_
        refine r_goto hO d_M_lamp_45 ?_
        exact ih (k + 1) I3 (by omega) h3 (ho.tr ho3)
  refine r_iload hO d_M_lamp_0 rfl ?_
  refine r_k hO d_M_lamp_1 ?_
  refine r_k hO d_M_lamp_2 ?_
  refine r_cS3fi hO hE (c_M_in _ _ _) mf_M_in lk_M_75 (by decide) rfl (Nat.le_of_ble_eq_true rfl) d_M_lamp_4 (Nat.zero_le _) (Nat.zero_le _) ?_
  refine r_if_neB hO d_M_lamp_7 (fun c_7 => ?_) (fun c_7 => ?_)
  · obtain ⟨z, hz1, hz2, rfl⟩ := cd_in_ex c_7 (by decide) (by decide)
    refine r_aload hO d_M_lamp_13 rfl ?_
    refine r_cV0fv hO hE (c_M_thinks hM) mf_M_thinks lk_M_170 hM.2.1 rfl (by decide) rfl (Nat.le_of_ble_eq_true rfl) d_M_lamp_14 (Nat.zero_le _) (Nat.zero_le _) ?_
    refine r_gen (fun I1 hI1 => ?_)
    have h1 : I1 (m + 1) = I (m + 1) := by rw [hI1, cd_set_ne _ _ (by omega)]
    have hB : ∀ j, j < 76 → I1 (m + 4) j = I (m + 1) j := fun j hj => by rw [hI1, cd_set_eq]; exact if_pos hj
    have ho1 : cd_off I I1 [m + 4, m + 11, m + 12] := by rw [hI1]; exact cd_off.set _ _ (by simp)
    have hV1 : cd_V (I1 (m + 1)) mm tc := by rw [h1]; exact hV
    refine r_k hO d_M_lamp_17 ?_
    refine r_sI2 hO d_M_lamp_18 rfl ?_
    refine r_k hO d_M_lamp_19 ?_
    refine r_sI3 hO d_M_lamp_20 rfl ?_
    exact loop I1 h1 hB ho1 z (by omega) (by unfold sp_lamp; rw [if_pos c_7, cd_tn_nI (by omega)]) z 0 I1 (Nat.zero_add _) h1 (cd_off.rf _ _)
  · refine r_ldc hO k_M_87 d_M_lamp_10 ?_
    refine r_iret hO hE (Nat.zero_le _) (Nat.zero_le _) d_M_lamp_12 ?_
    exact ⟨_, rfl, rfl, by unfold sp_lamp; rw [if_neg c_7], cd_off.rf _ _⟩
theorem d_M_firm_0 : cd_D_iload b_M_firm 0 1 1 := Or.inr ⟨1, ⟨by decide +kernel, rfl⟩, rfl⟩
theorem d_M_firm_1 : cd_Dk b_M_firm 1 (nI 1) 2 := Or.inl ⟨1, ⟨by decide +kernel, rfl⟩, by decide +kernel⟩
theorem d_M_firm_2 : cd_Dk b_M_firm 2 (nI 48) 4 := Or.inr (Or.inl ⟨48, ⟨by decide +kernel, rfl⟩, by decide +kernel⟩)
theorem d_M_firm_4 : cd_D 3 b_M_firm 4 (.invokestatic 75) 7 := ⟨by decide +kernel, rfl⟩
theorem d_M_firm_7 : cd_D_if_eq b_M_firm 7 19 10 := ⟨12, by decide +kernel, by decide, rfl⟩
theorem d_M_firm_10 : cd_D_iload b_M_firm 10 2 11 := Or.inr ⟨2, ⟨by decide +kernel, rfl⟩, rfl⟩
theorem d_M_firm_11 : cd_Dk b_M_firm 11 (nI 0) 12 := Or.inl ⟨0, ⟨by decide +kernel, rfl⟩, by decide +kernel⟩
theorem d_M_firm_12 : cd_Dk b_M_firm 12 (nI 1) 13 := Or.inl ⟨1, ⟨by decide +kernel, rfl⟩, by decide +kernel⟩
theorem d_M_firm_13 : cd_D 3 b_M_firm 13 (.invokestatic 75) 16 := ⟨by decide +kernel, rfl⟩
theorem d_M_firm_16 : cd_D_if_ne b_M_firm 16 22 19 := ⟨6, by decide +kernel, by decide, rfl⟩
theorem d_M_firm_19 : cd_D 2 b_M_firm 19 (.ldc 87) 21 := ⟨by decide +kernel, rfl⟩
theorem d_M_firm_21 : cd_D 1 b_M_firm 21 .ireturn 22 := ⟨by decide +kernel, rfl⟩
theorem d_M_firm_22 : cd_D_aload b_M_firm 22 0 23 := Or.inr ⟨0, ⟨by decide +kernel, rfl⟩, rfl⟩
theorem d_M_firm_23 : cd_D 3 b_M_firm 23 (.invokevirtual 170) 26 := ⟨by decide +kernel, rfl⟩
theorem d_M_firm_26 : cd_Dk b_M_firm 26 (-1) 27 := Or.inl ⟨-1, ⟨by decide +kernel, rfl⟩, by decide +kernel⟩
theorem d_M_firm_27 : cd_D_istore b_M_firm 27 3 28 := Or.inr ⟨3, ⟨by decide +kernel, rfl⟩, rfl⟩
theorem d_M_firm_28 : cd_Dk b_M_firm 28 (nI 0) 29 := Or.inl ⟨0, ⟨by decide +kernel, rfl⟩, by decide +kernel⟩
theorem d_M_firm_29 : cd_D_istore b_M_firm 29 4 31 := Or.inl ⟨by decide +kernel, rfl⟩
theorem d_M_firm_31 : cd_Dk b_M_firm 31 (nI 0) 32 := Or.inl ⟨0, ⟨by decide +kernel, rfl⟩, by decide +kernel⟩
theorem d_M_firm_32 : cd_D_istore b_M_firm 32 5 34 := Or.inl ⟨by decide +kernel, rfl⟩
theorem d_M_firm_34 : cd_D_iload b_M_firm 34 5 36 := Or.inl ⟨by decide +kernel, rfl⟩
theorem d_M_firm_36 : cd_Dk b_M_firm 36 (nI 100) 38 := Or.inr (Or.inl ⟨100, ⟨by decide +kernel, rfl⟩, by decide +kernel⟩)
theorem d_M_firm_38 : cd_D_icmp_ge b_M_firm 38 80 41 := ⟨42, by decide +kernel, by decide, rfl⟩
theorem d_M_firm_41 : cd_D_aload b_M_firm 41 0 42 := Or.inr ⟨0, ⟨by decide +kernel, rfl⟩, rfl⟩
theorem d_M_firm_42 : cd_D 3 b_M_firm 42 (.getfield 9) 45 := ⟨by decide +kernel, rfl⟩
theorem d_M_firm_45 : cd_Dk b_M_firm 45 (nI 3) 46 := Or.inl ⟨3, ⟨by decide +kernel, rfl⟩, by decide +kernel⟩
theorem d_M_firm_46 : cd_D_iload b_M_firm 46 5 48 := Or.inl ⟨by decide +kernel, rfl⟩
theorem d_M_firm_48 : cd_D 1 b_M_firm 48 .iastore 49 := ⟨by decide +kernel, rfl⟩
theorem d_M_firm_49 : cd_D_aload b_M_firm 49 0 50 := Or.inr ⟨0, ⟨by decide +kernel, rfl⟩, rfl⟩
theorem d_M_firm_50 : cd_D_iload b_M_firm 50 1 51 := Or.inr ⟨1, ⟨by decide +kernel, rfl⟩, rfl⟩
theorem d_M_firm_51 : cd_D 3 b_M_firm 51 (.invokevirtual 177) 54 := ⟨by decide +kernel, rfl⟩
theorem d_M_firm_54 : cd_D_istore b_M_firm 54 6 56 := Or.inl ⟨by decide +kernel, rfl⟩
theorem d_M_firm_56 : cd_D_iload b_M_firm 56 3 57 := Or.inr ⟨3, ⟨by decide +kernel, rfl⟩, rfl⟩
theorem d_M_firm_57 : cd_D_if_lt b_M_firm 57 67 60 := ⟨10, by decide +kernel, by decide, rfl⟩
theorem d_M_firm_60 : cd_D_iload b_M_firm 60 6 62 := Or.inl ⟨by decide +kernel, rfl⟩
theorem d_M_firm_62 : cd_D_iload b_M_firm 62 4 64 := Or.inl ⟨by decide +kernel, rfl⟩
theorem d_M_firm_64 : cd_D_icmp_ge b_M_firm 64 74 67 := ⟨10, by decide +kernel, by decide, rfl⟩
theorem d_M_firm_67 : cd_D_iload b_M_firm 67 5 69 := Or.inl ⟨by decide +kernel, rfl⟩
theorem d_M_firm_69 : cd_D_istore b_M_firm 69 3 70 := Or.inr ⟨3, ⟨by decide +kernel, rfl⟩, rfl⟩
theorem d_M_firm_70 : cd_D_iload b_M_firm 70 6 72 := Or.inl ⟨by decide +kernel, rfl⟩
theorem d_M_firm_72 : cd_D_istore b_M_firm 72 4 74 := Or.inl ⟨by decide +kernel, rfl⟩
theorem d_M_firm_74 : cd_D 3 b_M_firm 74 (.iinc 5 (1)) 77 := ⟨by decide +kernel, rfl⟩
theorem d_M_firm_77 : cd_D_goto b_M_firm 77 34 := ⟨-43, by decide +kernel, by decide⟩
theorem d_M_firm_80 : cd_D_iload b_M_firm 80 2 81 := Or.inr ⟨2, ⟨by decide +kernel, rfl⟩, rfl⟩
theorem d_M_firm_81 : cd_D_if_ne b_M_firm 81 88 84 := ⟨7, by decide +kernel, by decide, rfl⟩
theorem d_M_firm_84 : cd_D_iload b_M_firm 84 3 85 := Or.inr ⟨3, ⟨by decide +kernel, rfl⟩, rfl⟩
theorem d_M_firm_85 : cd_D_goto b_M_firm 85 90 := ⟨5, by decide +kernel, by decide⟩
theorem d_M_firm_88 : cd_D_iload b_M_firm 88 4 90 := Or.inl ⟨by decide +kernel, rfl⟩
theorem d_M_firm_90 : cd_D 1 b_M_firm 90 .ireturn 91 := ⟨by decide +kernel, rfl⟩
theorem c_M_firm {l : Launch} {w : cd_WT} {S : cd_Sp} {I : cd_Mem} {m : Nat} (hM : cd_MO w S m) (mm tc : Nat) (hV : cd_V (I (m + 1)) mm tc) (n q : Int32) : cd_C l w m_M_firm 8 0 0 [.ref m, .int n, .int q] S I (cd_Pi S (fun x I' => x = sp_firm (I (m + 1)) mm tc n q ∧ cd_off I I' [m + 4, m + 11, m + 12])) := by
  refine cd_intro (by decide) (by simp [Value.category]) (Nat.le_of_ble_eq_true rfl) ?_
  intro X hO hE
  show cd_J w X 0 0 S I 0 [some (.ref m), some (.int n), some (.int q), none, none, none, none] []
  have hmm := hV.2.1
  have loop : ∀ (I1 : cd_Mem), I1 (m + 1) = I (m + 1) → (∀ j, j < 76 → I1 (m + 4) j = I (m + 1) j) → cd_off I I1 [m + 4, m + 11, m + 12] → ∀ (z : Nat) (hz : z ≤ 100) (hp : sp_firm (I (m + 1)) mm tc n q = (if q = 0 then (cd_bm (fun p => cd_hb (cd_hs (upd (I (m + 1)) 3 (nI p)) mm tc z) mm) 100).1 else (cd_bm (fun p => cd_hb (cd_hs (upd (I (m + 1)) 3 (nI p)) mm tc z) mm) 100).2)) (r k : Nat) (I2 : cd_Mem) (x6 : Option Value) (bb bl : Int32), cd_bm (fun p => cd_hb (cd_hs (upd (I (m + 1)) 3 (nI p)) mm tc z) mm) k = (bb, bl) → k + r = 100 → I2 (m + 1) = I (m + 1) → cd_off I1 I2 [m + 1, m + 11, m + 12] → cd_J w X 0 0 S I2 34 [some (.ref m), some (.int (nI z)), some (.int q), some (.int bb), some (.int bl), some (.int (nI k)), x6] [] := by
    intro I1 h1 hB ho1 z hz hp r
    induction r with
    | zero =>
      intro k I2 x6 bb bl hb hk h2 ho
      have hkz : k = 100 := by omega
      rw [hkz] at hb
      rw [hkz]
      rw [hb] at hp
      refine r_iload hO d_M_firm_34 rfl ?_
      refine r_k hO d_M_firm_36 ?_
      refine r_icmp_ge hO d_M_firm_38 (fun c_38 => ?_) (fun c_38 => ?_)
      · refine r_iload hO d_M_firm_80 rfl ?_
        refine r_if_ne hO d_M_firm_81 (fun c_81 => ?_) (fun c_81 => ?_)
        · refine r_iload hO d_M_firm_88 rfl ?_
          refine r_iret hO hE (Nat.zero_le _) (Nat.zero_le _) d_M_firm_90 ?_
          exact ⟨_, rfl, rfl, by rw [hp, if_neg c_81], cd_off_in ho1 h2 ho⟩
        · refine r_iload hO d_M_firm_84 rfl ?_
          refine r_goto hO d_M_firm_85 ?_
          refine r_iret hO hE (Nat.zero_le _) (Nat.zero_le _) d_M_firm_90 ?_
          exact ⟨_, rfl, rfl, by rw [hp, if_pos c_81], cd_off_in ho1 h2 ho⟩
      · exact absurd (nI_le (Nat.le_refl _) (by decide)) c_38
    | succ r ih =>
      intro k I2 x6 bb bl hb hk h2 ho
      have hB2 : ∀ j, j < 76 → I2 (m + 4) j = I (m + 1) j := fun j hj => by rw [ho _ (by simp)]; exact hB j hj
      refine r_iload hO d_M_firm_34 rfl ?_
      refine r_k hO d_M_firm_36 ?_
      refine r_icmp_ge hO d_M_firm_38 (fun c_38 => ?_) (fun c_38 => ?_)
      · exact absurd c_38 (nI_ge (by omega) (by decide))
      · refine r_aload hO d_M_firm_41 rfl ?_
        refine r_getR hO f_M_9 rfl hM.2.1 (mo_r1 hM) d_M_firm_42 ?_
        refine r_k hO d_M_firm_45 ?_
        refine r_iload hO d_M_firm_46 rfl ?_
        refine r_iast hO (mo_s1 hM) (mo_l1 hM) (by omega) (by decide) d_M_firm_48 ?_
        refine r_aload hO d_M_firm_49 rfl ?_
        refine r_iload hO d_M_firm_50 rfl ?_
        refine r_cV1i hO hE (c_M_habitsBehind hM mm tc z (by rw [cd_set_eq, h2]; exact cd_V_upd hV (by omega) (by omega) (by omega)) (by omega) (I (m + 1)) (fun j hj => by rw [cd_set_ne _ _ (by omega)]; exact hB2 j hj) (fun j hj => by rw [cd_set_eq, h2]; exact if_neg (by omega))) mf_M_habitsBehind lk_M_177 hM.2.1 rfl (by decide) rfl (Nat.le_of_ble_eq_true rfl) d_M_firm_51 (Nat.zero_le _) (Nat.zero_le _) ?_
        rintro x I3 ⟨hx, h3, ho3⟩
        rw [cd_set_eq, h2] at hx
        have ho4 : cd_off I1 I3 [m + 1, m + 11, m + 12] := ho.tr ((cd_off.set _ _ (by simp)).tr ho3)
        refine r_sI6 hO d_M_firm_54 rfl ?_
        refine r_iload hO d_M_firm_56 rfl ?_
        refine r_if_lt hO d_M_firm_57 (fun c_57 => ?_) (fun c_57 => ?_)
        · refine r_iload hO d_M_firm_67 rfl ?_
          refine r_sI3 hO d_M_firm_69 rfl ?_
          refine r_iload hO d_M_firm_70 rfl ?_
          refine r_sI4 hO d_M_firm_72 rfl ?_
          refine r_incN5 hO d_M_firm_74 rfl ?_
          refine r_goto hO d_M_firm_77 ?_
          exact ih (k + 1) I3 _ _ _ (cd_bm_a hb hx c_57) (by omega) h3 ho4
        · refine r_iload hO d_M_firm_60 rfl ?_
          refine r_iload hO d_M_firm_62 rfl ?_
          refine r_icmp_ge hO d_M_firm_64 (fun c_64 => ?_) (fun c_64 => ?_)
          · refine r_incN5 hO d_M_firm_74 rfl ?_
            refine r_goto hO d_M_firm_77 ?_
            exact ih (k + 1) I3 _ _ _ (cd_bm_b hb hx c_57 c_64) (by omega) h3 ho4
          · refine r_iload hO d_M_firm_67 rfl ?_
            refine r_sI3 hO d_M_firm_69 rfl ?_
            refine r_iload hO d_M_firm_70 rfl ?_
            refine r_sI4 hO d_M_firm_72 rfl ?_
            refine r_incN5 hO d_M_firm_74 rfl ?_
            refine r_goto hO d_M_firm_77 ?_
            exact ih (k + 1) I3 _ _ _ (cd_bm_c hb hx c_57 c_64) (by omega) h3 ho4
  refine r_iload hO d_M_firm_0 rfl ?_
  refine r_k hO d_M_firm_1 ?_
  refine r_k hO d_M_firm_2 ?_
  refine r_cS3fi hO hE (c_M_in _ _ _) mf_M_in lk_M_75 (by decide) rfl (Nat.le_of_ble_eq_true rfl) d_M_firm_4 (Nat.zero_le _) (Nat.zero_le _) ?_
  refine r_if_eqB hO d_M_firm_7 (fun c_7 => ?_) (fun c_7 => ?_)
  · refine r_ldc hO k_M_87 d_M_firm_19 ?_
    refine r_iret hO hE (Nat.zero_le _) (Nat.zero_le _) d_M_firm_21 ?_
    exact ⟨_, rfl, rfl, by unfold sp_firm; rw [if_neg c_7], cd_off.rf _ _⟩
  · obtain ⟨z, hz1, hz2, rfl⟩ := cd_in_ex c_7 (by decide) (by decide)
    refine r_iload hO d_M_firm_10 rfl ?_
    refine r_k hO d_M_firm_11 ?_
    refine r_k hO d_M_firm_12 ?_
    refine r_cS3fi hO hE (c_M_in _ _ _) mf_M_in lk_M_75 (by decide) rfl (Nat.le_of_ble_eq_true rfl) d_M_firm_13 (Nat.zero_le _) (Nat.zero_le _) ?_
    refine r_if_neB hO d_M_firm_16 (fun c_16 => ?_) (fun c_16 => ?_)
    · refine r_aload hO d_M_firm_22 rfl ?_
      refine r_cV0fv hO hE (c_M_thinks hM) mf_M_thinks lk_M_170 hM.2.1 rfl (by decide) rfl (Nat.le_of_ble_eq_true rfl) d_M_firm_23 (Nat.zero_le _) (Nat.zero_le _) ?_
      refine r_gen (fun I1 hI1 => ?_)
      have h1 : I1 (m + 1) = I (m + 1) := by rw [hI1, cd_set_ne _ _ (by omega)]
      have hB : ∀ j, j < 76 → I1 (m + 4) j = I (m + 1) j := fun j hj => by rw [hI1, cd_set_eq]; exact if_pos hj
      have ho1 : cd_off I I1 [m + 4, m + 11, m + 12] := by rw [hI1]; exact cd_off.set _ _ (by simp)
      have hV1 : cd_V (I1 (m + 1)) mm tc := by rw [h1]; exact hV
      refine r_k hO d_M_firm_26 ?_
      refine r_sI3 hO d_M_firm_27 rfl ?_
      refine r_k hO d_M_firm_28 ?_
      refine r_sI4 hO d_M_firm_29 rfl ?_
      refine r_k hO d_M_firm_31 ?_
      refine r_sI5 hO d_M_firm_32 rfl ?_
      exact loop I1 h1 hB ho1 z (by omega) (by unfold sp_firm; rw [if_pos c_7, if_pos c_16, cd_tn_nI (by omega)]) 100 0 I1 _ _ _ rfl (Nat.zero_add _) h1 (cd_off.rf _ _)
    · refine r_ldc hO k_M_87 d_M_firm_19 ?_
      refine r_iret hO hE (Nat.zero_le _) (Nat.zero_le _) d_M_firm_21 ?_
      exact ⟨_, rfl, rfl, by unfold sp_firm; rw [if_pos c_7, if_neg c_16], cd_off.rf _ _⟩
theorem d_M_heard_0 : cd_D_iload b_M_heard 0 1 1 := Or.inr ⟨1, ⟨by decide +kernel, rfl⟩, rfl⟩
theorem d_M_heard_1 : cd_Dk b_M_heard 1 (nI 1) 2 := Or.inl ⟨1, ⟨by decide +kernel, rfl⟩, by decide +kernel⟩
theorem d_M_heard_2 : cd_Dk b_M_heard 2 (nI 100) 4 := Or.inr (Or.inl ⟨100, ⟨by decide +kernel, rfl⟩, by decide +kernel⟩)
theorem d_M_heard_4 : cd_D 3 b_M_heard 4 (.invokestatic 75) 7 := ⟨by decide +kernel, rfl⟩
theorem d_M_heard_7 : cd_D_if_eq b_M_heard 7 19 10 := ⟨12, by decide +kernel, by decide, rfl⟩
theorem d_M_heard_10 : cd_D_iload b_M_heard 10 2 11 := Or.inr ⟨2, ⟨by decide +kernel, rfl⟩, rfl⟩
theorem d_M_heard_11 : cd_Dk b_M_heard 11 (nI 0) 12 := Or.inl ⟨0, ⟨by decide +kernel, rfl⟩, by decide +kernel⟩
theorem d_M_heard_12 : cd_Dk b_M_heard 12 (nI 1) 13 := Or.inl ⟨1, ⟨by decide +kernel, rfl⟩, by decide +kernel⟩
theorem d_M_heard_13 : cd_D 3 b_M_heard 13 (.invokestatic 75) 16 := ⟨by decide +kernel, rfl⟩
theorem d_M_heard_16 : cd_D_if_ne b_M_heard 16 22 19 := ⟨6, by decide +kernel, by decide, rfl⟩
theorem d_M_heard_19 : cd_D 2 b_M_heard 19 (.ldc 87) 21 := ⟨by decide +kernel, rfl⟩
theorem d_M_heard_21 : cd_D 1 b_M_heard 21 .ireturn 22 := ⟨by decide +kernel, rfl⟩
theorem d_M_heard_22 : cd_D_aload b_M_heard 22 0 23 := Or.inr ⟨0, ⟨by decide +kernel, rfl⟩, rfl⟩
theorem d_M_heard_23 : cd_D 3 b_M_heard 23 (.invokevirtual 170) 26 := ⟨by decide +kernel, rfl⟩
theorem d_M_heard_26 : cd_Dk b_M_heard 26 (-1) 27 := Or.inl ⟨-1, ⟨by decide +kernel, rfl⟩, by decide +kernel⟩
theorem d_M_heard_27 : cd_D_istore b_M_heard 27 3 28 := Or.inr ⟨3, ⟨by decide +kernel, rfl⟩, rfl⟩
theorem d_M_heard_28 : cd_Dk b_M_heard 28 (nI 0) 29 := Or.inl ⟨0, ⟨by decide +kernel, rfl⟩, by decide +kernel⟩
theorem d_M_heard_29 : cd_D_istore b_M_heard 29 4 31 := Or.inl ⟨by decide +kernel, rfl⟩
theorem d_M_heard_31 : cd_Dk b_M_heard 31 (nI 0) 32 := Or.inl ⟨0, ⟨by decide +kernel, rfl⟩, by decide +kernel⟩
theorem d_M_heard_32 : cd_D_istore b_M_heard 32 5 34 := Or.inl ⟨by decide +kernel, rfl⟩
theorem d_M_heard_34 : cd_D_iload b_M_heard 34 5 36 := Or.inl ⟨by decide +kernel, rfl⟩
theorem d_M_heard_36 : cd_D_aload b_M_heard 36 0 37 := Or.inr ⟨0, ⟨by decide +kernel, rfl⟩, rfl⟩
theorem d_M_heard_37 : cd_D 3 b_M_heard 37 (.getfield 9) 40 := ⟨by decide +kernel, rfl⟩
theorem d_M_heard_40 : cd_Dk b_M_heard 40 (nI 1) 41 := Or.inl ⟨1, ⟨by decide +kernel, rfl⟩, by decide +kernel⟩
theorem d_M_heard_41 : cd_D 1 b_M_heard 41 .iaload 42 := ⟨by decide +kernel, rfl⟩
theorem d_M_heard_42 : cd_D_icmp_ge b_M_heard 42 84 45 := ⟨42, by decide +kernel, by decide, rfl⟩
theorem d_M_heard_45 : cd_D_aload b_M_heard 45 0 46 := Or.inr ⟨0, ⟨by decide +kernel, rfl⟩, rfl⟩
theorem d_M_heard_46 : cd_D_iload b_M_heard 46 5 48 := Or.inl ⟨by decide +kernel, rfl⟩
theorem d_M_heard_48 : cd_Dk b_M_heard 48 (nI 2) 49 := Or.inl ⟨2, ⟨by decide +kernel, rfl⟩, by decide +kernel⟩
theorem d_M_heard_49 : cd_Dk b_M_heard 49 (nI 0) 50 := Or.inl ⟨0, ⟨by decide +kernel, rfl⟩, by decide +kernel⟩
theorem d_M_heard_50 : cd_D 3 b_M_heard 50 (.invokevirtual 79) 53 := ⟨by decide +kernel, rfl⟩
theorem d_M_heard_53 : cd_D_aload b_M_heard 53 0 54 := Or.inr ⟨0, ⟨by decide +kernel, rfl⟩, rfl⟩
theorem d_M_heard_54 : cd_D_iload b_M_heard 54 1 55 := Or.inr ⟨1, ⟨by decide +kernel, rfl⟩, rfl⟩
theorem d_M_heard_55 : cd_D 3 b_M_heard 55 (.invokevirtual 180) 58 := ⟨by decide +kernel, rfl⟩
theorem d_M_heard_58 : cd_D_istore b_M_heard 58 6 60 := Or.inl ⟨by decide +kernel, rfl⟩
theorem d_M_heard_60 : cd_D_iload b_M_heard 60 3 61 := Or.inr ⟨3, ⟨by decide +kernel, rfl⟩, rfl⟩
theorem d_M_heard_61 : cd_D_if_lt b_M_heard 61 71 64 := ⟨10, by decide +kernel, by decide, rfl⟩
theorem d_M_heard_64 : cd_D_iload b_M_heard 64 6 66 := Or.inl ⟨by decide +kernel, rfl⟩
theorem d_M_heard_66 : cd_D_iload b_M_heard 66 4 68 := Or.inl ⟨by decide +kernel, rfl⟩
theorem d_M_heard_68 : cd_D_icmp_ge b_M_heard 68 78 71 := ⟨10, by decide +kernel, by decide, rfl⟩
theorem d_M_heard_71 : cd_D_iload b_M_heard 71 5 73 := Or.inl ⟨by decide +kernel, rfl⟩
theorem d_M_heard_73 : cd_D_istore b_M_heard 73 3 74 := Or.inr ⟨3, ⟨by decide +kernel, rfl⟩, rfl⟩
theorem d_M_heard_74 : cd_D_iload b_M_heard 74 6 76 := Or.inl ⟨by decide +kernel, rfl⟩
theorem d_M_heard_76 : cd_D_istore b_M_heard 76 4 78 := Or.inl ⟨by decide +kernel, rfl⟩
theorem d_M_heard_78 : cd_D 3 b_M_heard 78 (.iinc 5 (1)) 81 := ⟨by decide +kernel, rfl⟩
theorem d_M_heard_81 : cd_D_goto b_M_heard 81 34 := ⟨-47, by decide +kernel, by decide⟩
theorem d_M_heard_84 : cd_D_iload b_M_heard 84 3 85 := Or.inr ⟨3, ⟨by decide +kernel, rfl⟩, rfl⟩
theorem d_M_heard_85 : cd_D_if_ge b_M_heard 85 93 88 := ⟨8, by decide +kernel, by decide, rfl⟩
theorem d_M_heard_88 : cd_D 2 b_M_heard 88 (.ldc 176) 90 := ⟨by decide +kernel, rfl⟩
theorem d_M_heard_90 : cd_D_goto b_M_heard 90 103 := ⟨13, by decide +kernel, by decide⟩
theorem d_M_heard_93 : cd_D_iload b_M_heard 93 2 94 := Or.inr ⟨2, ⟨by decide +kernel, rfl⟩, rfl⟩
theorem d_M_heard_94 : cd_D_if_ne b_M_heard 94 101 97 := ⟨7, by decide +kernel, by decide, rfl⟩
theorem d_M_heard_97 : cd_D_iload b_M_heard 97 3 98 := Or.inr ⟨3, ⟨by decide +kernel, rfl⟩, rfl⟩
theorem d_M_heard_98 : cd_D_goto b_M_heard 98 103 := ⟨5, by decide +kernel, by decide⟩
theorem d_M_heard_101 : cd_D_iload b_M_heard 101 4 103 := Or.inl ⟨by decide +kernel, rfl⟩
theorem d_M_heard_103 : cd_D 1 b_M_heard 103 .ireturn 104 := ⟨by decide +kernel, rfl⟩
theorem c_M_heard {l : Launch} {w : cd_WT} {S : cd_Sp} {I : cd_Mem} {m : Nat} (hM : cd_MO w S m) (mm tc : Nat) (hV : cd_V (I (m + 1)) mm tc) (n q : Int32) : cd_C l w m_M_heard 8 0 0 [.ref m, .int n, .int q] S I (cd_Pi S (fun x I' => x = sp_heard (I (m + 1)) mm tc n q ∧ cd_off I I' [m + 4, m + 11, m + 12])) := by
  refine cd_intro (by decide) (by simp [Value.category]) (Nat.le_of_ble_eq_true rfl) ?_
  intro X hO hE
  show cd_J w X 0 0 S I 0 [some (.ref m), some (.int n), some (.int q), none, none, none, none] []
  have hmm := hV.2.1
  have loop : ∀ (I1 : cd_Mem), I1 (m + 1) = I (m + 1) → (∀ j, j < 76 → I1 (m + 4) j = I (m + 1) j) → cd_off I I1 [m + 4, m + 11, m + 12] → ∀ (z : Nat) (hz : z ≤ 100) (hp : sp_heard (I (m + 1)) mm tc n q = (if 0 ≤ (cd_bm (fun p => cd_hs (upd (I (m + 1)) (16 + 5 * p + 2) (nI 0)) mm tc z 10) mm).1 then (if q = 0 then (cd_bm (fun p => cd_hs (upd (I (m + 1)) (16 + 5 * p + 2) (nI 0)) mm tc z 10) mm).1 else (cd_bm (fun p => cd_hs (upd (I (m + 1)) (16 + 5 * p + 2) (nI 0)) mm tc z 10) mm).2) else cd_NONE)) (r k : Nat) (I2 : cd_Mem) (x6 : Option Value) (bb bl : Int32), cd_bm (fun p => cd_hs (upd (I (m + 1)) (16 + 5 * p + 2) (nI 0)) mm tc z 10) k = (bb, bl) → k + r = mm → I2 (m + 1) = I (m + 1) → cd_off I1 I2 [m + 1, m + 11, m + 12] → cd_J w X 0 0 S I2 34 [some (.ref m), some (.int (nI z)), some (.int q), some (.int bb), some (.int bl), some (.int (nI k)), x6] [] := by
    intro I1 h1 hB ho1 z hz hp r
    induction r with
    | zero =>
      intro k I2 x6 bb bl hb hk h2 ho
      have hkz : k = mm := by omega
      rw [hkz] at hb
      rw [hkz]
      rw [hb] at hp
      refine r_iload hO d_M_heard_34 rfl ?_
      refine r_aload hO d_M_heard_36 rfl ?_
      refine r_getR hO f_M_9 rfl hM.2.1 (mo_r1 hM) d_M_heard_37 ?_
      refine r_k hO d_M_heard_40 ?_
      refine r_iald hO (mo_s1 hM) (by omega) (by decide) d_M_heard_41 ?_
      rw [h2]
      refine r_tops hV.1 ?_
      refine r_icmp_ge hO d_M_heard_42 (fun c_42 => ?_) (fun c_42 => ?_)
      · refine r_iload hO d_M_heard_84 rfl ?_
        refine r_if_ge hO d_M_heard_85 (fun c_85 => ?_) (fun c_85 => ?_)
        · refine r_iload hO d_M_heard_93 rfl ?_
          refine r_if_ne hO d_M_heard_94 (fun c_94 => ?_) (fun c_94 => ?_)
          · refine r_iload hO d_M_heard_101 rfl ?_
            refine r_iret hO hE (Nat.zero_le _) (Nat.zero_le _) d_M_heard_103 ?_
            exact ⟨_, rfl, rfl, by rw [hp, if_pos c_85, if_neg c_94], cd_off_in ho1 h2 ho⟩
          · refine r_iload hO d_M_heard_97 rfl ?_
            refine r_goto hO d_M_heard_98 ?_
            refine r_iret hO hE (Nat.zero_le _) (Nat.zero_le _) d_M_heard_103 ?_
            exact ⟨_, rfl, rfl, by rw [hp, if_pos c_85, if_pos c_94], cd_off_in ho1 h2 ho⟩
        · refine r_ldc hO k_M_176 d_M_heard_88 ?_
          refine r_goto hO d_M_heard_90 ?_
          refine r_iret hO hE (Nat.zero_le _) (Nat.zero_le _) d_M_heard_103 ?_
          exact ⟨_, rfl, rfl, by rw [hp, if_neg c_85], cd_off_in ho1 h2 ho⟩
      · exact absurd (nI_le (Nat.le_refl _) (by omega)) c_42
    | succ r ih =>
      intro k I2 x6 bb bl hb hk h2 ho
      have hB2 : ∀ j, j < 76 → I2 (m + 4) j = I (m + 1) j := fun j hj => by rw [ho _ (by simp)]; exact hB j hj
      refine r_iload hO d_M_heard_34 rfl ?_
      refine r_aload hO d_M_heard_36 rfl ?_
      refine r_getR hO f_M_9 rfl hM.2.1 (mo_r1 hM) d_M_heard_37 ?_
      refine r_k hO d_M_heard_40 ?_
      refine r_iald hO (mo_s1 hM) (by omega) (by decide) d_M_heard_41 ?_
      rw [h2]
      refine r_tops hV.1 ?_
      refine r_icmp_ge hO d_M_heard_42 (fun c_42 => ?_) (fun c_42 => ?_)
      · exact absurd c_42 (nI_ge (by omega) (by omega))
      · refine r_aload hO d_M_heard_45 rfl ?_
        refine r_iload hO d_M_heard_46 rfl ?_
        refine r_k hO d_M_heard_48 ?_
        refine r_k hO d_M_heard_49 ?_
        refine r_cV3fv hO hE (c_M_put hM _ _ _ (by omega)) mf_M_put lk_M_79 hM.2.1 rfl (by decide) rfl (Nat.le_of_ble_eq_true rfl) d_M_heard_50 (Nat.zero_le _) (Nat.zero_le _) ?_
        refine r_aload hO d_M_heard_53 rfl ?_
        refine r_iload hO d_M_heard_54 rfl ?_
        refine r_cV1i hO hE (c_M_risingsBehind hM mm tc z (by rw [cd_set_eq, h2]; exact cd_V_upd hV (by omega) (by omega) (by omega)) (by omega) (I (m + 1)) (fun j hj => by rw [cd_set_ne _ _ (by omega)]; exact hB2 j hj) (fun j hj => by rw [cd_set_eq, h2]; exact if_neg (by omega))) mf_M_risingsBehind lk_M_180 hM.2.1 rfl (by decide) rfl (Nat.le_of_ble_eq_true rfl) d_M_heard_55 (Nat.zero_le _) (Nat.zero_le _) ?_
        rintro x I3 ⟨hx, h3, ho3⟩
        rw [cd_set_eq, h2] at hx
        have ho4 : cd_off I1 I3 [m + 1, m + 11, m + 12] := ho.tr ((cd_off.set _ _ (by simp)).tr ho3)
        refine r_sI6 hO d_M_heard_58 rfl ?_
        refine r_iload hO d_M_heard_60 rfl ?_
        refine r_if_lt hO d_M_heard_61 (fun c_61 => ?_) (fun c_61 => ?_)
        · refine r_iload hO d_M_heard_71 rfl ?_
          refine r_sI3 hO d_M_heard_73 rfl ?_
          refine r_iload hO d_M_heard_74 rfl ?_
          refine r_sI4 hO d_M_heard_76 rfl ?_
          refine r_incN5 hO d_M_heard_78 rfl ?_
          refine r_goto hO d_M_heard_81 ?_
          exact ih (k + 1) I3 _ _ _ (cd_bm_a hb hx c_61) (by omega) h3 ho4
        · refine r_iload hO d_M_heard_64 rfl ?_
          refine r_iload hO d_M_heard_66 rfl ?_
          refine r_icmp_ge hO d_M_heard_68 (fun c_68 => ?_) (fun c_68 => ?_)
          · refine r_incN5 hO d_M_heard_78 rfl ?_
            refine r_goto hO d_M_heard_81 ?_
            exact ih (k + 1) I3 _ _ _ (cd_bm_b hb hx c_61 c_68) (by omega) h3 ho4
          · refine r_iload hO d_M_heard_71 rfl ?_
            refine r_sI3 hO d_M_heard_73 rfl ?_
            refine r_iload hO d_M_heard_74 rfl ?_
            refine r_sI4 hO d_M_heard_76 rfl ?_
            refine r_incN5 hO d_M_heard_78 rfl ?_
            refine r_goto hO d_M_heard_81 ?_
            exact ih (k + 1) I3 _ _ _ (cd_bm_c hb hx c_61 c_68) (by omega) h3 ho4
  refine r_iload hO d_M_heard_0 rfl ?_
  refine r_k hO d_M_heard_1 ?_
  refine r_k hO d_M_heard_2 ?_
  refine r_cS3fi hO hE (c_M_in _ _ _) mf_M_in lk_M_75 (by decide) rfl (Nat.le_of_ble_eq_true rfl) d_M_heard_4 (Nat.zero_le _) (Nat.zero_le _) ?_
  refine r_if_eqB hO d_M_heard_7 (fun c_7 => ?_) (fun c_7 => ?_)
  · refine r_ldc hO k_M_87 d_M_heard_19 ?_
    refine r_iret hO hE (Nat.zero_le _) (Nat.zero_le _) d_M_heard_21 ?_
    exact ⟨_, rfl, rfl, by unfold sp_heard; rw [if_neg c_7], cd_off.rf _ _⟩
  · obtain ⟨z, hz1, hz2, rfl⟩ := cd_in_ex c_7 (by decide) (by decide)
    refine r_iload hO d_M_heard_10 rfl ?_
    refine r_k hO d_M_heard_11 ?_
    refine r_k hO d_M_heard_12 ?_
    refine r_cS3fi hO hE (c_M_in _ _ _) mf_M_in lk_M_75 (by decide) rfl (Nat.le_of_ble_eq_true rfl) d_M_heard_13 (Nat.zero_le _) (Nat.zero_le _) ?_
    refine r_if_neB hO d_M_heard_16 (fun c_16 => ?_) (fun c_16 => ?_)
    · refine r_aload hO d_M_heard_22 rfl ?_
      refine r_cV0fv hO hE (c_M_thinks hM) mf_M_thinks lk_M_170 hM.2.1 rfl (by decide) rfl (Nat.le_of_ble_eq_true rfl) d_M_heard_23 (Nat.zero_le _) (Nat.zero_le _) ?_
      refine r_gen (fun I1 hI1 => ?_)
      have h1 : I1 (m + 1) = I (m + 1) := by rw [hI1, cd_set_ne _ _ (by omega)]
      have hB : ∀ j, j < 76 → I1 (m + 4) j = I (m + 1) j := fun j hj => by rw [hI1, cd_set_eq]; exact if_pos hj
      have ho1 : cd_off I I1 [m + 4, m + 11, m + 12] := by rw [hI1]; exact cd_off.set _ _ (by simp)
      have hV1 : cd_V (I1 (m + 1)) mm tc := by rw [h1]; exact hV
      refine r_k hO d_M_heard_26 ?_
      refine r_sI3 hO d_M_heard_27 rfl ?_
      refine r_k hO d_M_heard_28 ?_
      refine r_sI4 hO d_M_heard_29 rfl ?_
      refine r_k hO d_M_heard_31 ?_
      refine r_sI5 hO d_M_heard_32 rfl ?_
      exact loop I1 h1 hB ho1 z (by omega) (by unfold sp_heard; rw [if_pos c_7, if_pos c_16, cd_tn_nI (by omega)]) mm 0 I1 _ _ _ rfl (Nat.zero_add _) h1 (cd_off.rf _ _)
    · refine r_ldc hO k_M_87 d_M_heard_19 ?_
      refine r_iret hO hE (Nat.zero_le _) (Nat.zero_le _) d_M_heard_21 ?_
      exact ⟨_, rfl, rfl, by unfold sp_heard; rw [if_pos c_7, if_neg c_16], cd_off.rf _ _⟩
end
section
/-- sheets: each has 0 to 24 places, and is missing, of shorts, or of floats -/
def cd_VS (so sz : Nat → Int32) : Prop := ∀ s, s < 4 → ∃ n, n ≤ 24 ∧ sz s = nI n ∧ (so s = -1 ∨ so s = nI 0 ∨ so s = nI 1)
def cd_Plg (S : cd_Sp) (P : Int64 → cd_Mem → Prop) : cd_Pt := fun r S' I' => ∃ x, r = some (.long x) ∧ S' = S ∧ P x I'
section CDL
variable {l : Launch} {w : cd_WT} {X : cd_XT} {cc : ByteArray} {own : String} {d mc ms : Nat} {k n : Nat} {S : cd_Sp} {I : cd_Mem} {pc pc' tgt : Nat} {lv : List (Option Value)} {st : List Value} {nL : Nat} {rt : Option FieldType} {nm : String} {post : cd_Pt}
theorem r_cV2l (hO : cd_O w X cc own d mc ms l) (hE : cd_E w X nL rt mc ms nm post) {m : cd_MT} {d' index b c : Nat} {v1 v2 : Value} {P : Int64 → cd_Mem → Prop} (hc : cd_C l w m d' 0 0 (.ref b :: [v1, v2]) S I (cd_Plg S P)) (hm : cd_MV m 2) (hlk : Cond.methodLink own index m.1 ∈ cd_ws) (hs : S.2.1 b = (1, c)) (hcl : (cd_cls[c]?).map (·.1) = some m.1.cls) (hdd : d' + 1 ≤ d) (hlv : lv.length = nL) (hcat : (st.map fun v => v.category).sum ≤ 8) (hd : cd_D 3 cc pc (.invokevirtual index) pc') (hk : k ≤ mc) (hn : n ≤ ms) (kk : ∀ (x : Int64) (I' : cd_Mem), P x I' → cd_J w X k n S I' pc' lv (.long x :: st)) : cd_J w X k n S I pc lv (v2 :: v1 :: .ref b :: st) :=
  cd_callV hO hE.1 hc hm hlk hs hcl hdd rfl hlv rfl hcat hd ⟨hk, hn⟩ (fun r S' I' h => by obtain ⟨x, rfl, rfl, hp⟩ := h; exact kk x I' hp)
end CDL
def cd_ot (ce N : Nat → Int32) (mm tc s a k : Nat) : Int64 := if ce (24 * s + k) = cd_NONE then 0 else if 0 ≤ lg_cmp ((ce (24 * s + k)).toInt64 - (cd_hs N mm tc (24 * k) (16 + 5 * a + 2)).toInt64) 0 then (ce (24 * s + k)).toInt64 - (cd_hs N mm tc (24 * k) (16 + 5 * a + 2)).toInt64 else -((ce (24 * s + k)).toInt64 - (cd_hs N mm tc (24 * k) (16 + 5 * a + 2)).toInt64)
def cd_ol (ce N : Nat → Int32) (mm tc s a : Nat) : Nat → Int64
  | 0 => 0
  | k + 1 => cd_ol ce N mm tc s a k + cd_ot ce N mm tc s a k
def cd_bl (f : Nat → Int64) : Nat → Int32 × Int64
  | 0 => (-1, 0)
  | p + 1 => if (cd_bl f p).1 < 0 then (nI p, f p) else if 0 ≤ lg_cmp (f p) (cd_bl f p).2 then cd_bl f p else (nI p, f p)
theorem cd_bl_a {f : Nat → Int64} {k : Nat} {b : Int32} {l x : Int64} (hb : cd_bl f k = (b, l)) (hx : x = f k) (h : b < 0) : cd_bl f (k + 1) = (nI k, x) := by
  show (if (cd_bl f k).1 < 0 then _ else _) = _
  rw [hb, if_pos h, hx]
theorem cd_bl_b {f : Nat → Int64} {k : Nat} {b : Int32} {l x : Int64} (hb : cd_bl f k = (b, l)) (hx : x = f k) (h : ¬ b < 0) (h2 : 0 ≤ lg_cmp x l) : cd_bl f (k + 1) = (b, l) := by
  show (if (cd_bl f k).1 < 0 then _ else if 0 ≤ lg_cmp (f k) (cd_bl f k).2 then cd_bl f k else _) = _
  rw [hb, if_neg h, if_pos (by rw [← hx]; exact h2)]
theorem cd_bl_c {f : Nat → Int64} {k : Nat} {b : Int32} {l x : Int64} (hb : cd_bl f k = (b, l)) (hx : x = f k) (h : ¬ b < 0) (h2 : ¬ 0 ≤ lg_cmp x l) : cd_bl f (k + 1) = (nI k, x) := by
  show (if (cd_bl f k).1 < 0 then _ else if 0 ≤ lg_cmp (f k) (cd_bl f k).2 then cd_bl f k else _) = _
  rw [hb, if_neg h, if_neg (by rw [← hx]; exact h2), hx]
def sp_taught (N so sz ce : Nat → Int32) (mm tc : Nat) (s q : Int32) : Int32 := if nI 0 ≤ s ∧ s ≤ nI 3 then (if nI 0 ≤ q ∧ q ≤ nI 1 then (if 0 ≤ so (cd_tn s) then (if 0 ≤ (cd_bl (fun a => cd_ol ce N mm tc (cd_tn s) a (min (cd_tn (sz (cd_tn s))) 12)) mm).1 then (if q = 0 then (cd_bl (fun a => cd_ol ce N mm tc (cd_tn s) a (min (cd_tn (sz (cd_tn s))) 12)) mm).1 else (cd_bl (fun a => cd_ol ce N mm tc (cd_tn s) a (min (cd_tn (sz (cd_tn s))) 12)) mm).2.toInt32) else cd_NONE) else cd_NOTHING) else cd_BAD) else cd_BAD
theorem d_M_offBy_0 : cd_D 1 b_M_offBy 0 (.lconst 0) 1 := ⟨by decide +kernel, rfl⟩
theorem d_M_offBy_1 : cd_D_lstore b_M_offBy 1 3 2 := Or.inr ⟨3, ⟨by decide +kernel, rfl⟩, rfl⟩
theorem d_M_offBy_2 : cd_Dk b_M_offBy 2 (nI 0) 3 := Or.inl ⟨0, ⟨by decide +kernel, rfl⟩, by decide +kernel⟩
theorem d_M_offBy_3 : cd_D_istore b_M_offBy 3 5 5 := Or.inl ⟨by decide +kernel, rfl⟩
theorem d_M_offBy_5 : cd_D_iload b_M_offBy 5 5 7 := Or.inl ⟨by decide +kernel, rfl⟩
theorem d_M_offBy_7 : cd_D_aload b_M_offBy 7 0 8 := Or.inr ⟨0, ⟨by decide +kernel, rfl⟩, rfl⟩
theorem d_M_offBy_8 : cd_D 3 b_M_offBy 8 (.getfield 51) 11 := ⟨by decide +kernel, rfl⟩
theorem d_M_offBy_11 : cd_D_iload b_M_offBy 11 1 12 := Or.inr ⟨1, ⟨by decide +kernel, rfl⟩, rfl⟩
theorem d_M_offBy_12 : cd_D 1 b_M_offBy 12 .iaload 13 := ⟨by decide +kernel, rfl⟩
theorem d_M_offBy_13 : cd_D_icmp_ge b_M_offBy 13 91 16 := ⟨78, by decide +kernel, by decide, rfl⟩
theorem d_M_offBy_16 : cd_D_iload b_M_offBy 16 5 18 := Or.inl ⟨by decide +kernel, rfl⟩
theorem d_M_offBy_18 : cd_Dk b_M_offBy 18 (nI 12) 20 := Or.inr (Or.inl ⟨12, ⟨by decide +kernel, rfl⟩, by decide +kernel⟩)
theorem d_M_offBy_20 : cd_D_icmp_ge b_M_offBy 20 91 23 := ⟨71, by decide +kernel, by decide, rfl⟩
theorem d_M_offBy_23 : cd_D_aload b_M_offBy 23 0 24 := Or.inr ⟨0, ⟨by decide +kernel, rfl⟩, rfl⟩
theorem d_M_offBy_24 : cd_D 3 b_M_offBy 24 (.getfield 54) 27 := ⟨by decide +kernel, rfl⟩
theorem d_M_offBy_27 : cd_Dk b_M_offBy 27 (nI 24) 29 := Or.inr (Or.inl ⟨24, ⟨by decide +kernel, rfl⟩, by decide +kernel⟩)
theorem d_M_offBy_29 : cd_D_iload b_M_offBy 29 1 30 := Or.inr ⟨1, ⟨by decide +kernel, rfl⟩, rfl⟩
theorem d_M_offBy_30 : cd_D 1 b_M_offBy 30 .imul 31 := ⟨by decide +kernel, rfl⟩
theorem d_M_offBy_31 : cd_D_iload b_M_offBy 31 5 33 := Or.inl ⟨by decide +kernel, rfl⟩
theorem d_M_offBy_33 : cd_D 1 b_M_offBy 33 .iadd 34 := ⟨by decide +kernel, rfl⟩
theorem d_M_offBy_34 : cd_D 1 b_M_offBy 34 .iaload 35 := ⟨by decide +kernel, rfl⟩
theorem d_M_offBy_35 : cd_D_istore b_M_offBy 35 6 37 := Or.inl ⟨by decide +kernel, rfl⟩
theorem d_M_offBy_37 : cd_D_iload b_M_offBy 37 6 39 := Or.inl ⟨by decide +kernel, rfl⟩
theorem d_M_offBy_39 : cd_D 1 b_M_offBy 39 .i2l 40 := ⟨by decide +kernel, rfl⟩
theorem d_M_offBy_40 : cd_D_aload b_M_offBy 40 0 41 := Or.inr ⟨0, ⟨by decide +kernel, rfl⟩, rfl⟩
theorem d_M_offBy_41 : cd_D_iload b_M_offBy 41 2 42 := Or.inr ⟨2, ⟨by decide +kernel, rfl⟩, rfl⟩
theorem d_M_offBy_42 : cd_Dk b_M_offBy 42 (nI 2) 43 := Or.inl ⟨2, ⟨by decide +kernel, rfl⟩, by decide +kernel⟩
theorem d_M_offBy_43 : cd_D 3 b_M_offBy 43 (.invokevirtual 97) 46 := ⟨by decide +kernel, rfl⟩
theorem d_M_offBy_46 : cd_D 1 b_M_offBy 46 .i2l 47 := ⟨by decide +kernel, rfl⟩
theorem d_M_offBy_47 : cd_D 1 b_M_offBy 47 .lsub 48 := ⟨by decide +kernel, rfl⟩
theorem d_M_offBy_48 : cd_D_lstore b_M_offBy 48 7 50 := Or.inl ⟨by decide +kernel, rfl⟩
theorem d_M_offBy_50 : cd_D_lload b_M_offBy 50 3 51 := Or.inr ⟨3, ⟨by decide +kernel, rfl⟩, rfl⟩
theorem d_M_offBy_51 : cd_D_iload b_M_offBy 51 6 53 := Or.inl ⟨by decide +kernel, rfl⟩
theorem d_M_offBy_53 : cd_D 2 b_M_offBy 53 (.ldc 176) 55 := ⟨by decide +kernel, rfl⟩
theorem d_M_offBy_55 : cd_D_icmp_ne b_M_offBy 55 62 58 := ⟨7, by decide +kernel, by decide, rfl⟩
theorem d_M_offBy_58 : cd_D 1 b_M_offBy 58 (.lconst 0) 59 := ⟨by decide +kernel, rfl⟩
theorem d_M_offBy_59 : cd_D_goto b_M_offBy 59 77 := ⟨18, by decide +kernel, by decide⟩
theorem d_M_offBy_62 : cd_D_lload b_M_offBy 62 7 64 := Or.inl ⟨by decide +kernel, rfl⟩
theorem d_M_offBy_64 : cd_D 1 b_M_offBy 64 (.lconst 0) 65 := ⟨by decide +kernel, rfl⟩
theorem d_M_offBy_65 : cd_D 1 b_M_offBy 65 .lcmp 66 := ⟨by decide +kernel, rfl⟩
theorem d_M_offBy_66 : cd_D_if_ge b_M_offBy 66 75 69 := ⟨9, by decide +kernel, by decide, rfl⟩
theorem d_M_offBy_69 : cd_D_lload b_M_offBy 69 7 71 := Or.inl ⟨by decide +kernel, rfl⟩
theorem d_M_offBy_71 : cd_D 1 b_M_offBy 71 .lneg 72 := ⟨by decide +kernel, rfl⟩
theorem d_M_offBy_72 : cd_D_goto b_M_offBy 72 77 := ⟨5, by decide +kernel, by decide⟩
theorem d_M_offBy_75 : cd_D_lload b_M_offBy 75 7 77 := Or.inl ⟨by decide +kernel, rfl⟩
theorem d_M_offBy_77 : cd_D 1 b_M_offBy 77 .ladd 78 := ⟨by decide +kernel, rfl⟩
theorem d_M_offBy_78 : cd_D_lstore b_M_offBy 78 3 79 := Or.inr ⟨3, ⟨by decide +kernel, rfl⟩, rfl⟩
theorem d_M_offBy_79 : cd_D_aload b_M_offBy 79 0 80 := Or.inr ⟨0, ⟨by decide +kernel, rfl⟩, rfl⟩
theorem d_M_offBy_80 : cd_Dk b_M_offBy 80 (nI 24) 82 := Or.inr (Or.inl ⟨24, ⟨by decide +kernel, rfl⟩, by decide +kernel⟩)
theorem d_M_offBy_82 : cd_D 3 b_M_offBy 82 (.invokevirtual 161) 85 := ⟨by decide +kernel, rfl⟩
theorem d_M_offBy_85 : cd_D 3 b_M_offBy 85 (.iinc 5 (1)) 88 := ⟨by decide +kernel, rfl⟩
theorem d_M_offBy_88 : cd_D_goto b_M_offBy 88 5 := ⟨-83, by decide +kernel, by decide⟩
theorem d_M_offBy_91 : cd_D_aload b_M_offBy 91 0 92 := Or.inr ⟨0, ⟨by decide +kernel, rfl⟩, rfl⟩
theorem d_M_offBy_92 : cd_D 3 b_M_offBy 92 (.invokevirtual 173) 95 := ⟨by decide +kernel, rfl⟩
theorem d_M_offBy_95 : cd_D_lload b_M_offBy 95 3 96 := Or.inr ⟨3, ⟨by decide +kernel, rfl⟩, rfl⟩
theorem d_M_offBy_96 : cd_D 1 b_M_offBy 96 .lreturn 97 := ⟨by decide +kernel, rfl⟩
theorem c_M_offBy {l : Launch} {w : cd_WT} {S : cd_Sp} {I : cd_Mem} {m : Nat} (hM : cd_MO w S m) (mm tc s a n : Nat) (hV : cd_V (I (m + 1)) mm tc) (hs4 : s < 4) (ha : a < 12) (hn : I (m + 14) s = nI n) (hn24 : n ≤ 24) (hB : ∀ j, j < 76 → I (m + 4) j = I (m + 1) j) : cd_C l w m_M_offBy 7 0 0 [.ref m, .int (nI s), .int (nI a)] S I (cd_Plg S (fun x I' => x = cd_ol (I (m + 15)) (I (m + 1)) mm tc s a (min n 12) ∧ I' (m + 1) = I (m + 1) ∧ cd_off I I' [m + 1, m + 11, m + 12])) := by
  refine cd_intro (by decide) (by simp [Value.category]) (Nat.le_of_ble_eq_true rfl) ?_
  intro X hO hE
  show cd_J w X 0 0 S I 0 [some (.ref m), some (.int (nI s)), some (.int (nI a)), none, none, none, none, none, none] []
  have hmm := hV.2.1
  have loop : ∀ (r k : Nat) (I2 : cd_Mem) (sm : Int64) (x6 x7 : Option Value), cd_nl x6 = true → cd_ol (I (m + 15)) (I (m + 1)) mm tc s a k = sm → k + r = min n 12 → I2 (m + 1) = cd_hs (I (m + 1)) mm tc (24 * k) → cd_off I I2 [m + 1, m + 11, m + 12] → cd_J w X 0 0 S I2 5 [some (.ref m), some (.int (nI s)), some (.int (nI a)), some (.long sm), none, some (.int (nI k)), x6, x7, none] [] := by
    intro r
    induction r with
    | zero =>
      intro k I2 sm x6 x7 hx6 hsm hk h2 ho
      have h14 : I2 (m + 14) s = nI n := by rw [ho _ (by simp)]; exact hn
      have hback : cd_cp 76 (I2 (m + 4)) (I2 (m + 1)) = I (m + 1) := by rw [ho (m + 4) (by simp), h2]; exact cd_cp_back hB (fun j hj => kq_hs _ hV.2.1 tc _ j (by omega))
      refine r_iload hO d_M_offBy_5 rfl ?_
      refine r_aload hO d_M_offBy_7 rfl ?_
      refine r_getR hO f_M_51 rfl hM.2.1 (mo_r14 hM) d_M_offBy_8 ?_
      refine r_iload hO d_M_offBy_11 rfl ?_
      refine r_iald hO (mo_s14 hM) (by omega) (by decide) d_M_offBy_12 ?_
      refine r_tops h14 ?_
      refine r_icmp_ge hO d_M_offBy_13 (fun c_13 => ?_) (fun c_13 => ?_)
      · refine r_aload hO d_M_offBy_91 rfl ?_
        refine r_cV0fv hO hE (c_M_putsBack hM) mf_M_putsBack lk_M_173 hM.2.1 rfl (by decide) rfl (Nat.le_of_ble_eq_true rfl) d_M_offBy_92 (Nat.zero_le _) (Nat.zero_le _) ?_
        rw [hback]
        refine r_lload hO d_M_offBy_95 rfl ?_
        refine r_lret hO hE (Nat.zero_le _) (Nat.zero_le _) d_M_offBy_96 ?_
        exact ⟨_, rfl, rfl, by rw [← hsm, show k = min n 12 by omega], cd_set_eq _ _ _, ho.tr (cd_off.set _ _ (by simp))⟩
      · have hkn : k < n := Nat.lt_of_not_le (fun q => c_13 (nI_le q (by omega)))
        refine r_iload hO d_M_offBy_16 rfl ?_
        refine r_k hO d_M_offBy_18 ?_
        refine r_icmp_ge hO d_M_offBy_20 (fun c_20 => ?_) (fun c_20 => ?_)
        · refine r_aload hO d_M_offBy_91 rfl ?_
          refine r_cV0fv hO hE (c_M_putsBack hM) mf_M_putsBack lk_M_173 hM.2.1 rfl (by decide) rfl (Nat.le_of_ble_eq_true rfl) d_M_offBy_92 (Nat.zero_le _) (Nat.zero_le _) ?_
          rw [hback]
          refine r_lload hO d_M_offBy_95 rfl ?_
          refine r_lret hO hE (Nat.zero_le _) (Nat.zero_le _) d_M_offBy_96 ?_
          exact ⟨_, rfl, rfl, by rw [← hsm, show k = min n 12 by omega], cd_set_eq _ _ _, ho.tr (cd_off.set _ _ (by simp))⟩
        · exact absurd (nI_le (show 12 ≤ k by omega) (by omega)) c_20
    | succ r ih =>
      intro k I2 sm x6 x7 hx6 hsm hk h2 ho
      have h14 : I2 (m + 14) s = nI n := by rw [ho _ (by simp)]; exact hn
      have h15 : I2 (m + 15) = I (m + 15) := ho _ (by simp)
      refine r_iload hO d_M_offBy_5 rfl ?_
      refine r_aload hO d_M_offBy_7 rfl ?_
      refine r_getR hO f_M_51 rfl hM.2.1 (mo_r14 hM) d_M_offBy_8 ?_
      refine r_iload hO d_M_offBy_11 rfl ?_
      refine r_iald hO (mo_s14 hM) (by omega) (by decide) d_M_offBy_12 ?_
      refine r_tops h14 ?_
      refine r_icmp_ge hO d_M_offBy_13 (fun c_13 => ?_) (fun c_13 => ?_)
      · exact absurd c_13 (nI_ge (by omega) (by omega))
      · refine r_iload hO d_M_offBy_16 rfl ?_
        refine r_k hO d_M_offBy_18 ?_
        refine r_icmp_ge hO d_M_offBy_20 (fun c_20 => ?_) (fun c_20 => ?_)
        · exact absurd c_20 (nI_ge (by omega) (by decide))
        · refine r_aload hO d_M_offBy_23 rfl ?_
          refine r_getR hO f_M_54 rfl hM.2.1 (mo_r15 hM) d_M_offBy_24 ?_
          refine r_k hO d_M_offBy_27 ?_
          refine r_iload hO d_M_offBy_29 rfl ?_
          refine r_imulN hO d_M_offBy_30 ?_
          refine r_iload hO d_M_offBy_31 rfl ?_
          refine r_iaddN hO d_M_offBy_33 ?_
          refine r_iald hO (mo_s15 hM) (by omega) (by decide) d_M_offBy_34 ?_
          rw [h15]
          refine r_sI6 hO d_M_offBy_35 rfl ?_
          refine r_iload hO d_M_offBy_37 rfl ?_
          refine r_i2l hO d_M_offBy_39 ?_
          refine r_aload hO d_M_offBy_40 rfl ?_
          refine r_iload hO d_M_offBy_41 rfl ?_
          refine r_k hO d_M_offBy_42 ?_
          refine r_cV2fi hO hE (c_M_of hM _ _ (by omega)) mf_M_of lk_M_97 hM.2.1 rfl (by decide) rfl (Nat.le_of_ble_eq_true rfl) d_M_offBy_43 (Nat.zero_le _) (Nat.zero_le _) ?_
          rw [h2]
          refine r_i2l hO d_M_offBy_46 ?_
          refine r_lsub hO d_M_offBy_47 ?_
          refine r_sL7 hO d_M_offBy_48 rfl ?_
          refine r_lload hO d_M_offBy_50 rfl ?_
          refine r_iload hO d_M_offBy_51 rfl ?_
          refine r_ldc hO k_M_176 d_M_offBy_53 ?_
          refine r_icmp_ne hO d_M_offBy_55 (fun c_55 => ?_) (fun c_55 => ?_)
          · refine r_lload hO d_M_offBy_62 rfl ?_
            refine r_lconst0 hO d_M_offBy_64 ?_
            refine r_lcmp hO d_M_offBy_65 ?_
            refine r_if_ge hO d_M_offBy_66 (fun c_66 => ?_) (fun c_66 => ?_)
            · refine r_lload hO d_M_offBy_75 rfl ?_
              refine r_ladd hO d_M_offBy_77 ?_
              refine r_sL3 hO d_M_offBy_78 rfl ?_
              refine r_aload hO d_M_offBy_79 rfl ?_
              refine r_k hO d_M_offBy_80 ?_
              refine r_cV1v hO hE (c_M_goesOn hM mm tc 24 (by decide) (by rw [h2]; exact hV.kq (kq_hs _ hmm tc _))) mf_M_goesOn lk_M_161 hM.2.1 rfl (by decide) rfl (Nat.le_of_ble_eq_true rfl) d_M_offBy_82 (Nat.zero_le _) (Nat.zero_le _) ?_
              rintro I3 ⟨h3, ho3⟩
              rw [h2, cd_hs_add] at h3
              refine r_incN5 hO d_M_offBy_85 rfl ?_
              refine r_goto hO d_M_offBy_88 ?_
              refine ih (k + 1) I3 _ _ _ rfl ?_ (by omega) h3 (ho.tr ho3)
              show cd_ol _ _ _ _ _ _ k + cd_ot _ _ _ _ _ _ k = _
              unfold cd_ot
              rw [if_neg c_55, if_pos c_66, hsm]
            · refine r_lload hO d_M_offBy_69 rfl ?_
              refine r_lneg hO d_M_offBy_71 ?_
              refine r_goto hO d_M_offBy_72 ?_
              refine r_ladd hO d_M_offBy_77 ?_
              refine r_sL3 hO d_M_offBy_78 rfl ?_
              refine r_aload hO d_M_offBy_79 rfl ?_
              refine r_k hO d_M_offBy_80 ?_
              refine r_cV1v hO hE (c_M_goesOn hM mm tc 24 (by decide) (by rw [h2]; exact hV.kq (kq_hs _ hmm tc _))) mf_M_goesOn lk_M_161 hM.2.1 rfl (by decide) rfl (Nat.le_of_ble_eq_true rfl) d_M_offBy_82 (Nat.zero_le _) (Nat.zero_le _) ?_
              rintro I3 ⟨h3, ho3⟩
              rw [h2, cd_hs_add] at h3
              refine r_incN5 hO d_M_offBy_85 rfl ?_
              refine r_goto hO d_M_offBy_88 ?_
              refine ih (k + 1) I3 _ _ _ rfl ?_ (by omega) h3 (ho.tr ho3)
              show cd_ol _ _ _ _ _ _ k + cd_ot _ _ _ _ _ _ k = _
              unfold cd_ot
              rw [if_neg c_55, if_neg c_66, hsm]
          · refine r_lconst0 hO d_M_offBy_58 ?_
            refine r_goto hO d_M_offBy_59 ?_
            refine r_ladd hO d_M_offBy_77 ?_
            refine r_sL3 hO d_M_offBy_78 rfl ?_
            refine r_aload hO d_M_offBy_79 rfl ?_
            refine r_k hO d_M_offBy_80 ?_
            refine r_cV1v hO hE (c_M_goesOn hM mm tc 24 (by decide) (by rw [h2]; exact hV.kq (kq_hs _ hmm tc _))) mf_M_goesOn lk_M_161 hM.2.1 rfl (by decide) rfl (Nat.le_of_ble_eq_true rfl) d_M_offBy_82 (Nat.zero_le _) (Nat.zero_le _) ?_
            rintro I3 ⟨h3, ho3⟩
            rw [h2, cd_hs_add] at h3
            refine r_incN5 hO d_M_offBy_85 rfl ?_
            refine r_goto hO d_M_offBy_88 ?_
            refine ih (k + 1) I3 _ _ _ rfl ?_ (by omega) h3 (ho.tr ho3)
            show cd_ol _ _ _ _ _ _ k + cd_ot _ _ _ _ _ _ k = _
            unfold cd_ot
            rw [if_pos c_55, hsm]
  refine r_lconst0 hO d_M_offBy_0 ?_
  refine r_sL3 hO d_M_offBy_1 rfl ?_
  refine r_k hO d_M_offBy_2 ?_
  refine r_sI5 hO d_M_offBy_3 rfl ?_
  exact loop _ 0 I _ _ _ rfl rfl (Nat.zero_add _) rfl (cd_off.rf _ _)
theorem d_M_taught_0 : cd_D_iload b_M_taught 0 1 1 := Or.inr ⟨1, ⟨by decide +kernel, rfl⟩, rfl⟩
theorem d_M_taught_1 : cd_D 3 b_M_taught 1 (.invokestatic 183) 4 := ⟨by decide +kernel, rfl⟩
theorem d_M_taught_4 : cd_D_if_eq b_M_taught 4 16 7 := ⟨12, by decide +kernel, by decide, rfl⟩
theorem d_M_taught_7 : cd_D_iload b_M_taught 7 2 8 := Or.inr ⟨2, ⟨by decide +kernel, rfl⟩, rfl⟩
theorem d_M_taught_8 : cd_Dk b_M_taught 8 (nI 0) 9 := Or.inl ⟨0, ⟨by decide +kernel, rfl⟩, by decide +kernel⟩
theorem d_M_taught_9 : cd_Dk b_M_taught 9 (nI 1) 10 := Or.inl ⟨1, ⟨by decide +kernel, rfl⟩, by decide +kernel⟩
theorem d_M_taught_10 : cd_D 3 b_M_taught 10 (.invokestatic 75) 13 := ⟨by decide +kernel, rfl⟩
theorem d_M_taught_13 : cd_D_if_ne b_M_taught 13 19 16 := ⟨6, by decide +kernel, by decide, rfl⟩
theorem d_M_taught_16 : cd_D 2 b_M_taught 16 (.ldc 87) 18 := ⟨by decide +kernel, rfl⟩
theorem d_M_taught_18 : cd_D 1 b_M_taught 18 .ireturn 19 := ⟨by decide +kernel, rfl⟩
theorem d_M_taught_19 : cd_D_aload b_M_taught 19 0 20 := Or.inr ⟨0, ⟨by decide +kernel, rfl⟩, rfl⟩
theorem d_M_taught_20 : cd_D 3 b_M_taught 20 (.getfield 48) 23 := ⟨by decide +kernel, rfl⟩
theorem d_M_taught_23 : cd_D_iload b_M_taught 23 1 24 := Or.inr ⟨1, ⟨by decide +kernel, rfl⟩, rfl⟩
theorem d_M_taught_24 : cd_D 1 b_M_taught 24 .iaload 25 := ⟨by decide +kernel, rfl⟩
theorem d_M_taught_25 : cd_D_if_ge b_M_taught 25 31 28 := ⟨6, by decide +kernel, by decide, rfl⟩
theorem d_M_taught_28 : cd_D 2 b_M_taught 28 (.ldc 186) 30 := ⟨by decide +kernel, rfl⟩
theorem d_M_taught_30 : cd_D 1 b_M_taught 30 .ireturn 31 := ⟨by decide +kernel, rfl⟩
theorem d_M_taught_31 : cd_D_aload b_M_taught 31 0 32 := Or.inr ⟨0, ⟨by decide +kernel, rfl⟩, rfl⟩
theorem d_M_taught_32 : cd_D 3 b_M_taught 32 (.invokevirtual 170) 35 := ⟨by decide +kernel, rfl⟩
theorem d_M_taught_35 : cd_Dk b_M_taught 35 (-1) 36 := Or.inl ⟨-1, ⟨by decide +kernel, rfl⟩, by decide +kernel⟩
theorem d_M_taught_36 : cd_D_istore b_M_taught 36 3 37 := Or.inr ⟨3, ⟨by decide +kernel, rfl⟩, rfl⟩
theorem d_M_taught_37 : cd_D 1 b_M_taught 37 (.lconst 0) 38 := ⟨by decide +kernel, rfl⟩
theorem d_M_taught_38 : cd_D_lstore b_M_taught 38 4 40 := Or.inl ⟨by decide +kernel, rfl⟩
theorem d_M_taught_40 : cd_Dk b_M_taught 40 (nI 0) 41 := Or.inl ⟨0, ⟨by decide +kernel, rfl⟩, by decide +kernel⟩
theorem d_M_taught_41 : cd_D_istore b_M_taught 41 6 43 := Or.inl ⟨by decide +kernel, rfl⟩
theorem d_M_taught_43 : cd_D_iload b_M_taught 43 6 45 := Or.inl ⟨by decide +kernel, rfl⟩
theorem d_M_taught_45 : cd_D_aload b_M_taught 45 0 46 := Or.inr ⟨0, ⟨by decide +kernel, rfl⟩, rfl⟩
theorem d_M_taught_46 : cd_D 3 b_M_taught 46 (.getfield 9) 49 := ⟨by decide +kernel, rfl⟩
theorem d_M_taught_49 : cd_Dk b_M_taught 49 (nI 1) 50 := Or.inl ⟨1, ⟨by decide +kernel, rfl⟩, by decide +kernel⟩
theorem d_M_taught_50 : cd_D 1 b_M_taught 50 .iaload 51 := ⟨by decide +kernel, rfl⟩
theorem d_M_taught_51 : cd_D_icmp_ge b_M_taught 51 88 54 := ⟨37, by decide +kernel, by decide, rfl⟩
theorem d_M_taught_54 : cd_D_aload b_M_taught 54 0 55 := Or.inr ⟨0, ⟨by decide +kernel, rfl⟩, rfl⟩
theorem d_M_taught_55 : cd_D_iload b_M_taught 55 1 56 := Or.inr ⟨1, ⟨by decide +kernel, rfl⟩, rfl⟩
theorem d_M_taught_56 : cd_D_iload b_M_taught 56 6 58 := Or.inl ⟨by decide +kernel, rfl⟩
theorem d_M_taught_58 : cd_D 3 b_M_taught 58 (.invokevirtual 187) 61 := ⟨by decide +kernel, rfl⟩
theorem d_M_taught_61 : cd_D_lstore b_M_taught 61 7 63 := Or.inl ⟨by decide +kernel, rfl⟩
theorem d_M_taught_63 : cd_D_iload b_M_taught 63 3 64 := Or.inr ⟨3, ⟨by decide +kernel, rfl⟩, rfl⟩
theorem d_M_taught_64 : cd_D_if_lt b_M_taught 64 75 67 := ⟨11, by decide +kernel, by decide, rfl⟩
theorem d_M_taught_67 : cd_D_lload b_M_taught 67 7 69 := Or.inl ⟨by decide +kernel, rfl⟩
theorem d_M_taught_69 : cd_D_lload b_M_taught 69 4 71 := Or.inl ⟨by decide +kernel, rfl⟩
theorem d_M_taught_71 : cd_D 1 b_M_taught 71 .lcmp 72 := ⟨by decide +kernel, rfl⟩
theorem d_M_taught_72 : cd_D_if_ge b_M_taught 72 82 75 := ⟨10, by decide +kernel, by decide, rfl⟩
theorem d_M_taught_75 : cd_D_iload b_M_taught 75 6 77 := Or.inl ⟨by decide +kernel, rfl⟩
theorem d_M_taught_77 : cd_D_istore b_M_taught 77 3 78 := Or.inr ⟨3, ⟨by decide +kernel, rfl⟩, rfl⟩
theorem d_M_taught_78 : cd_D_lload b_M_taught 78 7 80 := Or.inl ⟨by decide +kernel, rfl⟩
theorem d_M_taught_80 : cd_D_lstore b_M_taught 80 4 82 := Or.inl ⟨by decide +kernel, rfl⟩
theorem d_M_taught_82 : cd_D 3 b_M_taught 82 (.iinc 6 (1)) 85 := ⟨by decide +kernel, rfl⟩
theorem d_M_taught_85 : cd_D_goto b_M_taught 85 43 := ⟨-42, by decide +kernel, by decide⟩
theorem d_M_taught_88 : cd_D_iload b_M_taught 88 3 89 := Or.inr ⟨3, ⟨by decide +kernel, rfl⟩, rfl⟩
theorem d_M_taught_89 : cd_D_if_ge b_M_taught 89 97 92 := ⟨8, by decide +kernel, by decide, rfl⟩
theorem d_M_taught_92 : cd_D 2 b_M_taught 92 (.ldc 176) 94 := ⟨by decide +kernel, rfl⟩
theorem d_M_taught_94 : cd_D_goto b_M_taught 94 108 := ⟨14, by decide +kernel, by decide⟩
theorem d_M_taught_97 : cd_D_iload b_M_taught 97 2 98 := Or.inr ⟨2, ⟨by decide +kernel, rfl⟩, rfl⟩
theorem d_M_taught_98 : cd_D_if_ne b_M_taught 98 105 101 := ⟨7, by decide +kernel, by decide, rfl⟩
theorem d_M_taught_101 : cd_D_iload b_M_taught 101 3 102 := Or.inr ⟨3, ⟨by decide +kernel, rfl⟩, rfl⟩
theorem d_M_taught_102 : cd_D_goto b_M_taught 102 108 := ⟨6, by decide +kernel, by decide⟩
theorem d_M_taught_105 : cd_D_lload b_M_taught 105 4 107 := Or.inl ⟨by decide +kernel, rfl⟩
theorem d_M_taught_107 : cd_D 1 b_M_taught 107 .l2i 108 := ⟨by decide +kernel, rfl⟩
theorem d_M_taught_108 : cd_D 1 b_M_taught 108 .ireturn 109 := ⟨by decide +kernel, rfl⟩
theorem c_M_taught {l : Launch} {w : cd_WT} {S : cd_Sp} {I : cd_Mem} {m : Nat} (hM : cd_MO w S m) (mm tc : Nat) (hV : cd_V (I (m + 1)) mm tc) (hVS : cd_VS (I (m + 13)) (I (m + 14))) (s q : Int32) : cd_C l w m_M_taught 8 0 0 [.ref m, .int s, .int q] S I (cd_Pi S (fun x I' => x = sp_taught (I (m + 1)) (I (m + 13)) (I (m + 14)) (I (m + 15)) mm tc s q ∧ cd_off I I' [m + 4, m + 11, m + 12])) := by
  refine cd_intro (by decide) (by simp [Value.category]) (Nat.le_of_ble_eq_true rfl) ?_
  intro X hO hE
  show cd_J w X 0 0 S I 0 [some (.ref m), some (.int s), some (.int q), none, none, none, none, none, none] []
  have hmm := hV.2.1
  have loop : ∀ (I1 : cd_Mem), I1 (m + 1) = I (m + 1) → (∀ j, j < 76 → I1 (m + 4) j = I (m + 1) j) → cd_off I I1 [m + 4, m + 11, m + 12] → ∀ (z y : Nat) (hz : z < 4) (hy : y ≤ 24) (hyz : I (m + 14) z = nI y) (hp : sp_taught (I (m + 1)) (I (m + 13)) (I (m + 14)) (I (m + 15)) mm tc s q = (if 0 ≤ (cd_bl (fun a => cd_ol (I (m + 15)) (I (m + 1)) mm tc z a (min y 12)) mm).1 then (if q = 0 then (cd_bl (fun a => cd_ol (I (m + 15)) (I (m + 1)) mm tc z a (min y 12)) mm).1 else (cd_bl (fun a => cd_ol (I (m + 15)) (I (m + 1)) mm tc z a (min y 12)) mm).2.toInt32) else cd_NONE)) (r k : Nat) (I2 : cd_Mem) (x7 : Option Value) (bb : Int32) (bl : Int64), cd_bl (fun a => cd_ol (I (m + 15)) (I (m + 1)) mm tc z a (min y 12)) k = (bb, bl) → k + r = mm → I2 (m + 1) = I (m + 1) → cd_off I1 I2 [m + 1, m + 11, m + 12] → cd_J w X 0 0 S I2 43 [some (.ref m), some (.int (nI z)), some (.int q), some (.int bb), some (.long bl), none, some (.int (nI k)), x7, none] [] := by
    intro I1 h1 hB ho1 z y hz hy hyz hp r
    induction r with
    | zero =>
      intro k I2 x7 bb bl hb hk h2 ho
      have hkz : k = mm := by omega
      rw [hkz] at hb
      rw [hkz]
      rw [hb] at hp
      refine r_iload hO d_M_taught_43 rfl ?_
      refine r_aload hO d_M_taught_45 rfl ?_
      refine r_getR hO f_M_9 rfl hM.2.1 (mo_r1 hM) d_M_taught_46 ?_
      refine r_k hO d_M_taught_49 ?_
      refine r_iald hO (mo_s1 hM) (by omega) (by decide) d_M_taught_50 ?_
      rw [h2]
      refine r_tops hV.1 ?_
      refine r_icmp_ge hO d_M_taught_51 (fun c_51 => ?_) (fun c_51 => ?_)
      · refine r_iload hO d_M_taught_88 rfl ?_
        refine r_if_ge hO d_M_taught_89 (fun c_89 => ?_) (fun c_89 => ?_)
        · refine r_iload hO d_M_taught_97 rfl ?_
          refine r_if_ne hO d_M_taught_98 (fun c_98 => ?_) (fun c_98 => ?_)
          · refine r_lload hO d_M_taught_105 rfl ?_
            refine r_l2i hO d_M_taught_107 ?_
            refine r_iret hO hE (Nat.zero_le _) (Nat.zero_le _) d_M_taught_108 ?_
            exact ⟨_, rfl, rfl, by rw [hp, if_pos c_89, if_neg c_98], cd_off_in ho1 h2 ho⟩
          · refine r_iload hO d_M_taught_101 rfl ?_
            refine r_goto hO d_M_taught_102 ?_
            refine r_iret hO hE (Nat.zero_le _) (Nat.zero_le _) d_M_taught_108 ?_
            exact ⟨_, rfl, rfl, by rw [hp, if_pos c_89, if_pos c_98], cd_off_in ho1 h2 ho⟩
        · refine r_ldc hO k_M_176 d_M_taught_92 ?_
          refine r_goto hO d_M_taught_94 ?_
          refine r_iret hO hE (Nat.zero_le _) (Nat.zero_le _) d_M_taught_108 ?_
          exact ⟨_, rfl, rfl, by rw [hp, if_neg c_89], cd_off_in ho1 h2 ho⟩
      · exact absurd (nI_le (Nat.le_refl _) (by omega)) c_51
    | succ r ih =>
      intro k I2 x7 bb bl hb hk h2 ho
      have hB2 : ∀ j, j < 76 → I2 (m + 4) j = I2 (m + 1) j := fun j hj => by rw [ho _ (by simp), h2]; exact hB j hj
      refine r_iload hO d_M_taught_43 rfl ?_
      refine r_aload hO d_M_taught_45 rfl ?_
      refine r_getR hO f_M_9 rfl hM.2.1 (mo_r1 hM) d_M_taught_46 ?_
      refine r_k hO d_M_taught_49 ?_
      refine r_iald hO (mo_s1 hM) (by omega) (by decide) d_M_taught_50 ?_
      rw [h2]
      refine r_tops hV.1 ?_
      refine r_icmp_ge hO d_M_taught_51 (fun c_51 => ?_) (fun c_51 => ?_)
      · exact absurd c_51 (nI_ge (by omega) (by omega))
      · refine r_aload hO d_M_taught_54 rfl ?_
        refine r_iload hO d_M_taught_55 rfl ?_
        refine r_iload hO d_M_taught_56 rfl ?_
        refine r_cV2l hO hE (c_M_offBy hM mm tc z k y (by rw [h2]; exact hV) hz (by omega) (by rw [ho _ (by simp), ho1 _ (by simp)]; exact hyz) hy hB2) mf_M_offBy lk_M_187 hM.2.1 rfl (by decide) rfl (Nat.le_of_ble_eq_true rfl) d_M_taught_58 (Nat.zero_le _) (Nat.zero_le _) ?_
        rintro x I3 ⟨hx, h3, ho3⟩
        rw [ho (m + 15) (by simp), ho1 (m + 15) (by simp), h2] at hx
        rw [h2] at h3
        refine r_sL7 hO d_M_taught_61 rfl ?_
        refine r_iload hO d_M_taught_63 rfl ?_
        refine r_if_lt hO d_M_taught_64 (fun c_64 => ?_) (fun c_64 => ?_)
        · refine r_iload hO d_M_taught_75 rfl ?_
          refine r_sI3 hO d_M_taught_77 rfl ?_
          refine r_lload hO d_M_taught_78 rfl ?_
          refine r_sL4 hO d_M_taught_80 rfl ?_
          refine r_incN6 hO d_M_taught_82 rfl ?_
          refine r_goto hO d_M_taught_85 ?_
          exact ih (k + 1) I3 _ _ _ (cd_bl_a hb hx c_64) (by omega) h3 (ho.tr ho3)
        · refine r_lload hO d_M_taught_67 rfl ?_
          refine r_lload hO d_M_taught_69 rfl ?_
          refine r_lcmp hO d_M_taught_71 ?_
          refine r_if_ge hO d_M_taught_72 (fun c_72 => ?_) (fun c_72 => ?_)
          · refine r_incN6 hO d_M_taught_82 rfl ?_
            refine r_goto hO d_M_taught_85 ?_
            exact ih (k + 1) I3 _ _ _ (cd_bl_b hb hx c_64 c_72) (by omega) h3 (ho.tr ho3)
          · refine r_iload hO d_M_taught_75 rfl ?_
            refine r_sI3 hO d_M_taught_77 rfl ?_
            refine r_lload hO d_M_taught_78 rfl ?_
            refine r_sL4 hO d_M_taught_80 rfl ?_
            refine r_incN6 hO d_M_taught_82 rfl ?_
            refine r_goto hO d_M_taught_85 ?_
            exact ih (k + 1) I3 _ _ _ (cd_bl_c hb hx c_64 c_72) (by omega) h3 (ho.tr ho3)
  refine r_iload hO d_M_taught_0 rfl ?_
  refine r_cS1fi hO hE (c_M_isSheet _) mf_M_isSheet lk_M_183 (by decide) rfl (Nat.le_of_ble_eq_true rfl) d_M_taught_1 (Nat.zero_le _) (Nat.zero_le _) ?_
  refine r_if_eqB hO d_M_taught_4 (fun c_4 => ?_) (fun c_4 => ?_)
  · refine r_ldc hO k_M_87 d_M_taught_16 ?_
    refine r_iret hO hE (Nat.zero_le _) (Nat.zero_le _) d_M_taught_18 ?_
    exact ⟨_, rfl, rfl, by unfold sp_taught; rw [if_neg c_4], cd_off.rf _ _⟩
  · obtain ⟨z, hz1, hz2, rfl⟩ := cd_in_ex c_4 (by decide) (by decide)
    obtain ⟨y, hy, hyz, -⟩ := hVS z (by omega)
    refine r_iload hO d_M_taught_7 rfl ?_
    refine r_k hO d_M_taught_8 ?_
    refine r_k hO d_M_taught_9 ?_
    refine r_cS3fi hO hE (c_M_in _ _ _) mf_M_in lk_M_75 (by decide) rfl (Nat.le_of_ble_eq_true rfl) d_M_taught_10 (Nat.zero_le _) (Nat.zero_le _) ?_
    refine r_if_neB hO d_M_taught_13 (fun c_13 => ?_) (fun c_13 => ?_)
    · refine r_aload hO d_M_taught_19 rfl ?_
      refine r_getR hO f_M_48 rfl hM.2.1 (mo_r13 hM) d_M_taught_20 ?_
      refine r_iload hO d_M_taught_23 rfl ?_
      refine r_iald hO (mo_s13 hM) (by omega) (by decide) d_M_taught_24 ?_
      refine r_if_ge hO d_M_taught_25 (fun c_25 => ?_) (fun c_25 => ?_)
      · refine r_aload hO d_M_taught_31 rfl ?_
        refine r_cV0fv hO hE (c_M_thinks hM) mf_M_thinks lk_M_170 hM.2.1 rfl (by decide) rfl (Nat.le_of_ble_eq_true rfl) d_M_taught_32 (Nat.zero_le _) (Nat.zero_le _) ?_
        refine r_gen (fun I1 hI1 => ?_)
        have h1 : I1 (m + 1) = I (m + 1) := by rw [hI1, cd_set_ne _ _ (by omega)]
        have hB : ∀ j, j < 76 → I1 (m + 4) j = I (m + 1) j := fun j hj => by rw [hI1, cd_set_eq]; exact if_pos hj
        have ho1 : cd_off I I1 [m + 4, m + 11, m + 12] := by rw [hI1]; exact cd_off.set _ _ (by simp)
        have hV1 : cd_V (I1 (m + 1)) mm tc := by rw [h1]; exact hV
        refine r_k hO d_M_taught_35 ?_
        refine r_sI3 hO d_M_taught_36 rfl ?_
        refine r_lconst0 hO d_M_taught_37 ?_
        refine r_sL4 hO d_M_taught_38 rfl ?_
        refine r_k hO d_M_taught_40 ?_
        refine r_sI6 hO d_M_taught_41 rfl ?_
        exact loop I1 h1 hB ho1 z y (by omega) hy hyz (by unfold sp_taught; rw [if_pos c_4, if_pos c_13, cd_tn_nI (by omega), if_pos c_25, hyz, cd_tn_nI (by omega)]) mm 0 I1 _ _ _ rfl (Nat.zero_add _) h1 (cd_off.rf _ _)
      · refine r_ldc hO k_M_186 d_M_taught_28 ?_
        refine r_iret hO hE (Nat.zero_le _) (Nat.zero_le _) d_M_taught_30 ?_
        exact ⟨_, rfl, rfl, by unfold sp_taught; rw [if_pos c_4, if_pos c_13, cd_tn_nI (by omega), if_neg c_25], cd_off.rf _ _⟩
    · refine r_ldc hO k_M_87 d_M_taught_16 ?_
      refine r_iret hO hE (Nat.zero_le _) (Nat.zero_le _) d_M_taught_18 ?_
      exact ⟨_, rfl, rfl, by unfold sp_taught; rw [if_pos c_4, if_neg c_13], cd_off.rf _ _⟩
end
section
def sp_fee (N : Nat → Int32) (tc : Nat) : Int32 := if 0 ≤ cd_cnt N (nI 1) tc then cd_wo N (cd_tn (cd_cnt N (nI 1) tc)) (N 10) (N 11) 0 else N 11
def sp_fine (N : Nat → Int32) (tc : Nat) (a : Int32) : Int32 := if cd_isA N a then (if 0 ≤ cd_cnt N (nI 2) tc then cd_wo N (cd_tn (cd_cnt N (nI 2) tc)) (N (16 + 5 * cd_tn a + 2)) (N (16 + 5 * cd_tn a + 4)) 0 else N (16 + 5 * cd_tn a + 4)) else cd_BAD
def sp_why (N : Nat → Int32) (tc : Nat) (k : Int32) : Int32 := if nI 0 ≤ k ∧ k ≤ nI 2 then (if 0 ≤ cd_cnt N k tc then cd_cnt N k tc else cd_NONE) else cd_BAD
def sp_textTold (N : Nat → Int32) (t q : Int32) : Int32 := if nI 0 ≤ t ∧ t ≤ N 15 - nI 1 then (if nI 0 ≤ q ∧ q ≤ nI 1 then (if q = 0 then N (76 + 2 * cd_tn t) / nI 1000 else N (76 + 2 * cd_tn t + 1)) else cd_BAD) else cd_BAD
theorem cd_isT_ex {x N15 : Int32} {tc : Nat} (h1 : N15 = nI tc) (hm : tc ≤ 14) (h : nI 0 ≤ x ∧ x ≤ N15 - nI 1) : ∃ i, i < tc ∧ x = nI i := by
  obtain ⟨h2, h3⟩ := h
  rw [h1] at h3
  by_cases h0 : tc = 0
  · subst h0
    exfalso
    rw [Int32.le_iff_toInt_le] at h2 h3
    have e1 : (nI 0).toInt = 0 := rfl
    have e2 : (nI 0 - nI 1).toInt = -1 := rfl
    omega
  · rw [pk_sub (by omega)] at h3
    obtain ⟨q, -, h4, rfl⟩ := cd_in_ex ⟨h2, h3⟩ (by decide) (by omega)
    exact ⟨q, by omega, rfl⟩
/-- twelve bytes out of three numbers -/
def cd_by (a b c : Int32) (k : Nat) : Int32 := (if 4 ≤ k then (if 8 ≤ k then c else b) else a) >>> (nI (24 - 8 * (k % 4)) &&& 31) &&& nI 255
def cd_fr (t : Nat → Int32) (L : Nat) (a b c : Int32) : Nat → Nat → Int32
  | 0 => t
  | k + 1 => upd (cd_fr t L a b c k) (L + k) (cd_by a b c k)
def sp_trim (L n : Int32) : Int32 × Int32 := if nI 0 ≤ n ∧ n ≤ L then (n, n) else (cd_BAD, L)
theorem cd_le_of {a b : Nat} (hb : a < 2 ^ 31 ∧ b < 2 ^ 31) (h : nI a ≤ nI b) : a ≤ b := (nI_leI hb.1 hb.2).mp h
theorem cd_nle_of {a b : Nat} (hb : a < 2 ^ 31 ∧ b < 2 ^ 31) (h : ¬ nI a ≤ nI b) : ¬ a ≤ b := fun q => h ((nI_leI hb.1 hb.2).mpr q)
theorem cd_upd_id (r : Nat → Int32) (k : Nat) : upd r k (r k) = r := by
  funext j
  by_cases h : j = k
  · subst h; simp [upd]
  · simp [upd, h]
theorem cd_upd_self (I : cd_Mem) (a k : Nat) : cd_set I a (upd (I a) k (I a k)) = I := by rw [cd_upd_id, cd_set_self]
theorem d_M_fee_0 : cd_D_aload b_M_fee 0 0 1 := Or.inr ⟨0, ⟨by decide +kernel, rfl⟩, rfl⟩
theorem d_M_fee_1 : cd_Dk b_M_fee 1 (nI 1) 2 := Or.inl ⟨1, ⟨by decide +kernel, rfl⟩, by decide +kernel⟩
theorem d_M_fee_2 : cd_D 3 b_M_fee 2 (.invokevirtual 93) 5 := ⟨by decide +kernel, rfl⟩
theorem d_M_fee_5 : cd_D_istore b_M_fee 5 1 6 := Or.inr ⟨1, ⟨by decide +kernel, rfl⟩, rfl⟩
theorem d_M_fee_6 : cd_D_aload b_M_fee 6 0 7 := Or.inr ⟨0, ⟨by decide +kernel, rfl⟩, rfl⟩
theorem d_M_fee_7 : cd_D 3 b_M_fee 7 (.getfield 45) 10 := ⟨by decide +kernel, rfl⟩
theorem d_M_fee_10 : cd_Dk b_M_fee 10 (nI 0) 11 := Or.inl ⟨0, ⟨by decide +kernel, rfl⟩, by decide +kernel⟩
theorem d_M_fee_11 : cd_D_aload b_M_fee 11 0 12 := Or.inr ⟨0, ⟨by decide +kernel, rfl⟩, rfl⟩
theorem d_M_fee_12 : cd_D 3 b_M_fee 12 (.getfield 9) 15 := ⟨by decide +kernel, rfl⟩
theorem d_M_fee_15 : cd_Dk b_M_fee 15 (nI 10) 17 := Or.inr (Or.inl ⟨10, ⟨by decide +kernel, rfl⟩, by decide +kernel⟩)
theorem d_M_fee_17 : cd_D 1 b_M_fee 17 .iaload 18 := ⟨by decide +kernel, rfl⟩
theorem d_M_fee_18 : cd_D 1 b_M_fee 18 .iastore 19 := ⟨by decide +kernel, rfl⟩
theorem d_M_fee_19 : cd_D_aload b_M_fee 19 0 20 := Or.inr ⟨0, ⟨by decide +kernel, rfl⟩, rfl⟩
theorem d_M_fee_20 : cd_D 3 b_M_fee 20 (.getfield 45) 23 := ⟨by decide +kernel, rfl⟩
theorem d_M_fee_23 : cd_Dk b_M_fee 23 (nI 1) 24 := Or.inl ⟨1, ⟨by decide +kernel, rfl⟩, by decide +kernel⟩
theorem d_M_fee_24 : cd_D_aload b_M_fee 24 0 25 := Or.inr ⟨0, ⟨by decide +kernel, rfl⟩, rfl⟩
theorem d_M_fee_25 : cd_D 3 b_M_fee 25 (.getfield 9) 28 := ⟨by decide +kernel, rfl⟩
theorem d_M_fee_28 : cd_Dk b_M_fee 28 (nI 11) 30 := Or.inr (Or.inl ⟨11, ⟨by decide +kernel, rfl⟩, by decide +kernel⟩)
theorem d_M_fee_30 : cd_D 1 b_M_fee 30 .iaload 31 := ⟨by decide +kernel, rfl⟩
theorem d_M_fee_31 : cd_D 1 b_M_fee 31 .iastore 32 := ⟨by decide +kernel, rfl⟩
theorem d_M_fee_32 : cd_D_iload b_M_fee 32 1 33 := Or.inr ⟨1, ⟨by decide +kernel, rfl⟩, rfl⟩
theorem d_M_fee_33 : cd_D_if_ge b_M_fee 33 46 36 := ⟨13, by decide +kernel, by decide, rfl⟩
theorem d_M_fee_36 : cd_D_aload b_M_fee 36 0 37 := Or.inr ⟨0, ⟨by decide +kernel, rfl⟩, rfl⟩
theorem d_M_fee_37 : cd_D 3 b_M_fee 37 (.getfield 9) 40 := ⟨by decide +kernel, rfl⟩
theorem d_M_fee_40 : cd_Dk b_M_fee 40 (nI 11) 42 := Or.inr (Or.inl ⟨11, ⟨by decide +kernel, rfl⟩, by decide +kernel⟩)
theorem d_M_fee_42 : cd_D 1 b_M_fee 42 .iaload 43 := ⟨by decide +kernel, rfl⟩
theorem d_M_fee_43 : cd_D_goto b_M_fee 43 51 := ⟨8, by decide +kernel, by decide⟩
theorem d_M_fee_46 : cd_D_aload b_M_fee 46 0 47 := Or.inr ⟨0, ⟨by decide +kernel, rfl⟩, rfl⟩
theorem d_M_fee_47 : cd_D_iload b_M_fee 47 1 48 := Or.inr ⟨1, ⟨by decide +kernel, rfl⟩, rfl⟩
theorem d_M_fee_48 : cd_D 3 b_M_fee 48 (.invokevirtual 101) 51 := ⟨by decide +kernel, rfl⟩
theorem d_M_fee_51 : cd_D 1 b_M_fee 51 .ireturn 52 := ⟨by decide +kernel, rfl⟩
theorem c_M_fee {l : Launch} {w : cd_WT} {S : cd_Sp} {I : cd_Mem} {m : Nat} (hM : cd_MO w S m) (mm tc : Nat) (hV : cd_V (I (m + 1)) mm tc)  : cd_C l w m_M_fee 2 0 0 [.ref m] S I (cd_Pi S (fun x I' => x = sp_fee (I (m + 1)) tc ∧ cd_off I I' [m + 11, m + 12])) := by
  refine cd_intro (by decide) (by simp [Value.category]) (Nat.le_of_ble_eq_true rfl) ?_
  intro X hO hE
  show cd_J w X 0 0 S I 0 [some (.ref m), none] []
  obtain ⟨hN1, hmm, hN15, htc, hTW⟩ := id hV
  refine r_aload hO d_M_fee_0 rfl ?_
  refine r_k hO d_M_fee_1 ?_
  refine r_cV1fi hO hE (c_M_counts hM tc hN15 htc _) mf_M_counts lk_M_93 hM.2.1 rfl (by decide) rfl (Nat.le_of_ble_eq_true rfl) d_M_fee_2 (Nat.zero_le _) (Nat.zero_le _) ?_
  try simp (disch := omega) only [cd_set_eq, cd_set_ne, cd_set_set]
  refine r_sI1 hO d_M_fee_5 rfl ?_
  refine r_aload hO d_M_fee_6 rfl ?_
  refine r_getR hO f_M_45 rfl hM.2.1 (mo_r12 hM) d_M_fee_7 ?_
  try simp (disch := omega) only [cd_set_eq, cd_set_ne, cd_set_set]
  refine r_k hO d_M_fee_10 ?_
  refine r_aload hO d_M_fee_11 rfl ?_
  refine r_getR hO f_M_9 rfl hM.2.1 (mo_r1 hM) d_M_fee_12 ?_
  try simp (disch := omega) only [cd_set_eq, cd_set_ne, cd_set_set]
  refine r_k hO d_M_fee_15 ?_
  refine r_iald hO (mo_s1 hM) (by omega) (by decide) d_M_fee_17 ?_
  try simp (disch := omega) only [cd_set_eq, cd_set_ne, cd_set_set]
  refine r_iast hO (mo_s12 hM) (mo_l12 hM) (by omega) (by decide) d_M_fee_18 ?_
  try simp (disch := omega) only [cd_set_eq, cd_set_ne, cd_set_set]
  refine r_aload hO d_M_fee_19 rfl ?_
  refine r_getR hO f_M_45 rfl hM.2.1 (mo_r12 hM) d_M_fee_20 ?_
  try simp (disch := omega) only [cd_set_eq, cd_set_ne, cd_set_set]
  refine r_k hO d_M_fee_23 ?_
  refine r_aload hO d_M_fee_24 rfl ?_
  refine r_getR hO f_M_9 rfl hM.2.1 (mo_r1 hM) d_M_fee_25 ?_
  try simp (disch := omega) only [cd_set_eq, cd_set_ne, cd_set_set]
  refine r_k hO d_M_fee_28 ?_
  refine r_iald hO (mo_s1 hM) (by omega) (by decide) d_M_fee_30 ?_
  try simp (disch := omega) only [cd_set_eq, cd_set_ne, cd_set_set]
  refine r_iast hO (mo_s12 hM) (mo_l12 hM) (by omega) (by decide) d_M_fee_31 ?_
  try simp (disch := omega) only [cd_set_eq, cd_set_ne, cd_set_set]
  refine r_gen (fun I1 hI1 => ?_)
  have h1 : I1 (m + 1) = I (m + 1) := by rw [hI1, cd_set_ne _ _ (by omega)]
  have h12 : I1 (m + 12) = upd (upd (I (m + 12)) 0 (I (m + 1) 10)) 1 (I (m + 1) 11) := by rw [hI1, cd_set_eq]
  have ho1 : cd_off I I1 [m + 11, m + 12] := by rw [hI1]; exact cd_off.set _ _ (by simp)
  refine r_iload hO d_M_fee_32 rfl ?_
  refine r_if_ge hO d_M_fee_33 (fun c_33 => ?_) (fun c_33 => ?_)
  · obtain ⟨tj, htj, etj, hkey⟩ := cd_cnt_pos c_33
    obtain ⟨n, hn, hn1, hn9, hwf, hd1⟩ := hTW.at htj (by decide) hkey
    rw [etj]
    refine r_aload hO d_M_fee_46 rfl ?_
    refine r_iload hO d_M_fee_47 rfl ?_
    refine r_cV1i hO hE (c_M_worksOut hM tj n 2 (by omega) (fun j => if j = 0 then I (m + 1) 10 else if j = 1 then I (m + 1) 11 else 0) (by rw [h1]; exact hn) hn9 (by decide) (by rw [h1]; exact hwf) (by rw [h1, hd1]; exact Nat.le_refl _) (fun j hj => by rw [h12]; rcases (show j = 0 ∨ j = 1 by omega) with rfl | rfl <;> simp [upd])) mf_M_worksOut lk_M_101 hM.2.1 rfl (by decide) rfl (Nat.le_of_ble_eq_true rfl) d_M_fee_48 (Nat.zero_le _) (Nat.zero_le _) ?_
    rintro x I2 ⟨hx, ho2⟩
    try simp (disch := omega) only [cd_set_eq, cd_set_ne, cd_set_set]
    refine r_iret hO hE (Nat.zero_le _) (Nat.zero_le _) d_M_fee_51 ?_
    refine ⟨_, rfl, rfl, ?_, ho1.tr (ho2.mono (by simp))⟩
    unfold sp_fee
    rw [if_pos c_33]
    rw [etj, hx, h1, cd_wo_eq (by unfold cd_tn; rw [nI_clamp (by omega)]; exact hn) hn9]
    unfold cd_tn
    rw [nI_clamp (by omega)]
  · refine r_aload hO d_M_fee_36 rfl ?_
    refine r_getR hO f_M_9 rfl hM.2.1 (mo_r1 hM) d_M_fee_37 ?_
    try simp (disch := omega) only [cd_set_eq, cd_set_ne, cd_set_set]
    refine r_k hO d_M_fee_40 ?_
    refine r_iald hO (mo_s1 hM) (by omega) (by decide) d_M_fee_42 ?_
    try simp (disch := omega) only [cd_set_eq, cd_set_ne, cd_set_set]
    rw [h1]
    refine r_goto hO d_M_fee_43 ?_
    refine r_iret hO hE (Nat.zero_le _) (Nat.zero_le _) d_M_fee_51 ?_
    exact ⟨_, rfl, rfl, by unfold sp_fee; rw [if_neg c_33], ho1⟩
theorem d_M_fine_0 : cd_D_aload b_M_fine 0 0 1 := Or.inr ⟨0, ⟨by decide +kernel, rfl⟩, rfl⟩
theorem d_M_fine_1 : cd_D_iload b_M_fine 1 1 2 := Or.inr ⟨1, ⟨by decide +kernel, rfl⟩, rfl⟩
theorem d_M_fine_2 : cd_D 3 b_M_fine 2 (.invokevirtual 108) 5 := ⟨by decide +kernel, rfl⟩
theorem d_M_fine_5 : cd_D_if_ne b_M_fine 5 11 8 := ⟨6, by decide +kernel, by decide, rfl⟩
theorem d_M_fine_8 : cd_D 2 b_M_fine 8 (.ldc 87) 10 := ⟨by decide +kernel, rfl⟩
theorem d_M_fine_10 : cd_D 1 b_M_fine 10 .ireturn 11 := ⟨by decide +kernel, rfl⟩
theorem d_M_fine_11 : cd_D_aload b_M_fine 11 0 12 := Or.inr ⟨0, ⟨by decide +kernel, rfl⟩, rfl⟩
theorem d_M_fine_12 : cd_Dk b_M_fine 12 (nI 2) 13 := Or.inl ⟨2, ⟨by decide +kernel, rfl⟩, by decide +kernel⟩
theorem d_M_fine_13 : cd_D 3 b_M_fine 13 (.invokevirtual 93) 16 := ⟨by decide +kernel, rfl⟩
theorem d_M_fine_16 : cd_D_istore b_M_fine 16 2 17 := Or.inr ⟨2, ⟨by decide +kernel, rfl⟩, rfl⟩
theorem d_M_fine_17 : cd_D_aload b_M_fine 17 0 18 := Or.inr ⟨0, ⟨by decide +kernel, rfl⟩, rfl⟩
theorem d_M_fine_18 : cd_D 3 b_M_fine 18 (.getfield 45) 21 := ⟨by decide +kernel, rfl⟩
theorem d_M_fine_21 : cd_Dk b_M_fine 21 (nI 0) 22 := Or.inl ⟨0, ⟨by decide +kernel, rfl⟩, by decide +kernel⟩
theorem d_M_fine_22 : cd_D_aload b_M_fine 22 0 23 := Or.inr ⟨0, ⟨by decide +kernel, rfl⟩, rfl⟩
theorem d_M_fine_23 : cd_D_iload b_M_fine 23 1 24 := Or.inr ⟨1, ⟨by decide +kernel, rfl⟩, rfl⟩
theorem d_M_fine_24 : cd_Dk b_M_fine 24 (nI 2) 25 := Or.inl ⟨2, ⟨by decide +kernel, rfl⟩, by decide +kernel⟩
theorem d_M_fine_25 : cd_D 3 b_M_fine 25 (.invokevirtual 97) 28 := ⟨by decide +kernel, rfl⟩
theorem d_M_fine_28 : cd_D 1 b_M_fine 28 .iastore 29 := ⟨by decide +kernel, rfl⟩
theorem d_M_fine_29 : cd_D_aload b_M_fine 29 0 30 := Or.inr ⟨0, ⟨by decide +kernel, rfl⟩, rfl⟩
theorem d_M_fine_30 : cd_D 3 b_M_fine 30 (.getfield 45) 33 := ⟨by decide +kernel, rfl⟩
theorem d_M_fine_33 : cd_Dk b_M_fine 33 (nI 1) 34 := Or.inl ⟨1, ⟨by decide +kernel, rfl⟩, by decide +kernel⟩
theorem d_M_fine_34 : cd_D_aload b_M_fine 34 0 35 := Or.inr ⟨0, ⟨by decide +kernel, rfl⟩, rfl⟩
theorem d_M_fine_35 : cd_D_iload b_M_fine 35 1 36 := Or.inr ⟨1, ⟨by decide +kernel, rfl⟩, rfl⟩
theorem d_M_fine_36 : cd_Dk b_M_fine 36 (nI 4) 37 := Or.inl ⟨4, ⟨by decide +kernel, rfl⟩, by decide +kernel⟩
theorem d_M_fine_37 : cd_D 3 b_M_fine 37 (.invokevirtual 97) 40 := ⟨by decide +kernel, rfl⟩
theorem d_M_fine_40 : cd_D 1 b_M_fine 40 .iastore 41 := ⟨by decide +kernel, rfl⟩
theorem d_M_fine_41 : cd_D_iload b_M_fine 41 2 42 := Or.inr ⟨2, ⟨by decide +kernel, rfl⟩, rfl⟩
theorem d_M_fine_42 : cd_D_if_ge b_M_fine 42 54 45 := ⟨12, by decide +kernel, by decide, rfl⟩
theorem d_M_fine_45 : cd_D_aload b_M_fine 45 0 46 := Or.inr ⟨0, ⟨by decide +kernel, rfl⟩, rfl⟩
theorem d_M_fine_46 : cd_D_iload b_M_fine 46 1 47 := Or.inr ⟨1, ⟨by decide +kernel, rfl⟩, rfl⟩
theorem d_M_fine_47 : cd_Dk b_M_fine 47 (nI 4) 48 := Or.inl ⟨4, ⟨by decide +kernel, rfl⟩, by decide +kernel⟩
theorem d_M_fine_48 : cd_D 3 b_M_fine 48 (.invokevirtual 97) 51 := ⟨by decide +kernel, rfl⟩
theorem d_M_fine_51 : cd_D_goto b_M_fine 51 59 := ⟨8, by decide +kernel, by decide⟩
theorem d_M_fine_54 : cd_D_aload b_M_fine 54 0 55 := Or.inr ⟨0, ⟨by decide +kernel, rfl⟩, rfl⟩
theorem d_M_fine_55 : cd_D_iload b_M_fine 55 2 56 := Or.inr ⟨2, ⟨by decide +kernel, rfl⟩, rfl⟩
theorem d_M_fine_56 : cd_D 3 b_M_fine 56 (.invokevirtual 101) 59 := ⟨by decide +kernel, rfl⟩
theorem d_M_fine_59 : cd_D 1 b_M_fine 59 .ireturn 60 := ⟨by decide +kernel, rfl⟩
theorem c_M_fine {l : Launch} {w : cd_WT} {S : cd_Sp} {I : cd_Mem} {m : Nat} (hM : cd_MO w S m) (mm tc : Nat) (hV : cd_V (I (m + 1)) mm tc) (a : Int32) : cd_C l w m_M_fine 2 0 0 [.ref m, .int a] S I (cd_Pi S (fun x I' => x = sp_fine (I (m + 1)) tc a ∧ cd_off I I' [m + 11, m + 12])) := by
  refine cd_intro (by decide) (by simp [Value.category]) (Nat.le_of_ble_eq_true rfl) ?_
  intro X hO hE
  show cd_J w X 0 0 S I 0 [some (.ref m), some (.int a), none] []
  obtain ⟨hN1, hmm, hN15, htc, hTW⟩ := id hV
  refine r_aload hO d_M_fine_0 rfl ?_
  refine r_iload hO d_M_fine_1 rfl ?_
  refine r_cV1fi hO hE (c_M_isAsking hM _) mf_M_isAsking lk_M_108 hM.2.1 rfl (by decide) rfl (Nat.le_of_ble_eq_true rfl) d_M_fine_2 (Nat.zero_le _) (Nat.zero_le _) ?_
  try simp (disch := omega) only [cd_set_eq, cd_set_ne, cd_set_set]
  refine r_if_neB hO d_M_fine_5 (fun c_5 => ?_) (fun c_5 => ?_)
  · obtain ⟨i, hi, rfl⟩ := cd_isA_ex hV.1 hV.2.1 c_5
    have hmm := hV.2.1
    refine r_aload hO d_M_fine_11 rfl ?_
    refine r_k hO d_M_fine_12 ?_
    refine r_cV1fi hO hE (c_M_counts hM tc hN15 htc _) mf_M_counts lk_M_93 hM.2.1 rfl (by decide) rfl (Nat.le_of_ble_eq_true rfl) d_M_fine_13 (Nat.zero_le _) (Nat.zero_le _) ?_
    try simp (disch := omega) only [cd_set_eq, cd_set_ne, cd_set_set]
    refine r_sI2 hO d_M_fine_16 rfl ?_
    refine r_aload hO d_M_fine_17 rfl ?_
    refine r_getR hO f_M_45 rfl hM.2.1 (mo_r12 hM) d_M_fine_18 ?_
    try simp (disch := omega) only [cd_set_eq, cd_set_ne, cd_set_set]
    refine r_k hO d_M_fine_21 ?_
    refine r_aload hO d_M_fine_22 rfl ?_
    refine r_iload hO d_M_fine_23 rfl ?_
    refine r_k hO d_M_fine_24 ?_
    refine r_cV2fi hO hE (c_M_of hM _ _ (by omega)) mf_M_of lk_M_97 hM.2.1 rfl (by decide) rfl (Nat.le_of_ble_eq_true rfl) d_M_fine_25 (Nat.zero_le _) (Nat.zero_le _) ?_
    try simp (disch := omega) only [cd_set_eq, cd_set_ne, cd_set_set]
    refine r_iast hO (mo_s12 hM) (mo_l12 hM) (by omega) (by decide) d_M_fine_28 ?_
    try simp (disch := omega) only [cd_set_eq, cd_set_ne, cd_set_set]
    refine r_aload hO d_M_fine_29 rfl ?_
    refine r_getR hO f_M_45 rfl hM.2.1 (mo_r12 hM) d_M_fine_30 ?_
    try simp (disch := omega) only [cd_set_eq, cd_set_ne, cd_set_set]
    refine r_k hO d_M_fine_33 ?_
    refine r_aload hO d_M_fine_34 rfl ?_
    refine r_iload hO d_M_fine_35 rfl ?_
    refine r_k hO d_M_fine_36 ?_
    refine r_cV2fi hO hE (c_M_of hM _ _ (by omega)) mf_M_of lk_M_97 hM.2.1 rfl (by decide) rfl (Nat.le_of_ble_eq_true rfl) d_M_fine_37 (Nat.zero_le _) (Nat.zero_le _) ?_
    try simp (disch := omega) only [cd_set_eq, cd_set_ne, cd_set_set]
    refine r_iast hO (mo_s12 hM) (mo_l12 hM) (by omega) (by decide) d_M_fine_40 ?_
    try simp (disch := omega) only [cd_set_eq, cd_set_ne, cd_set_set]
    refine r_gen (fun I1 hI1 => ?_)
    have h1 : I1 (m + 1) = I (m + 1) := by rw [hI1, cd_set_ne _ _ (by omega)]
    have h12 : I1 (m + 12) = upd (upd (I (m + 12)) 0 (I (m + 1) (16 + 5 * i + 2))) 1 (I (m + 1) (16 + 5 * i + 4)) := by rw [hI1, cd_set_eq]
    have ho1 : cd_off I I1 [m + 11, m + 12] := by rw [hI1]; exact cd_off.set _ _ (by simp)
    refine r_iload hO d_M_fine_41 rfl ?_
    refine r_if_ge hO d_M_fine_42 (fun c_42 => ?_) (fun c_42 => ?_)
    · obtain ⟨tj, htj, etj, hkey⟩ := cd_cnt_pos c_42
      obtain ⟨n, hn, hn1, hn9, hwf, hd1⟩ := hTW.at htj (by decide) hkey
      rw [etj]
      refine r_aload hO d_M_fine_54 rfl ?_
      refine r_iload hO d_M_fine_55 rfl ?_
      refine r_cV1i hO hE (c_M_worksOut hM tj n 2 (by omega) (fun j => if j = 0 then I (m + 1) (16 + 5 * i + 2) else if j = 1 then I (m + 1) (16 + 5 * i + 4) else 0) (by rw [h1]; exact hn) hn9 (by decide) (by rw [h1]; exact hwf) (by rw [h1, hd1]; exact Nat.le_refl _) (fun j hj => by rw [h12]; rcases (show j = 0 ∨ j = 1 by omega) with rfl | rfl <;> simp [upd])) mf_M_worksOut lk_M_101 hM.2.1 rfl (by decide) rfl (Nat.le_of_ble_eq_true rfl) d_M_fine_56 (Nat.zero_le _) (Nat.zero_le _) ?_
      rintro x I2 ⟨hx, ho2⟩
      try simp (disch := omega) only [cd_set_eq, cd_set_ne, cd_set_set]
      refine r_iret hO hE (Nat.zero_le _) (Nat.zero_le _) d_M_fine_59 ?_
      refine ⟨_, rfl, rfl, ?_, ho1.tr (ho2.mono (by simp))⟩
      unfold sp_fine
      rw [if_pos c_5, cd_tn_nI (by omega), if_pos c_42]
      rw [etj, hx, h1, cd_wo_eq (by unfold cd_tn; rw [nI_clamp (by omega)]; exact hn) hn9]
      unfold cd_tn
      rw [nI_clamp (by omega)]
    · refine r_aload hO d_M_fine_45 rfl ?_
      refine r_iload hO d_M_fine_46 rfl ?_
      refine r_k hO d_M_fine_47 ?_
      refine r_cV2fi hO hE (c_M_of hM _ _ (by omega)) mf_M_of lk_M_97 hM.2.1 rfl (by decide) rfl (Nat.le_of_ble_eq_true rfl) d_M_fine_48 (Nat.zero_le _) (Nat.zero_le _) ?_
      try simp (disch := omega) only [cd_set_eq, cd_set_ne, cd_set_set]
      rw [h1]
      refine r_goto hO d_M_fine_51 ?_
      refine r_iret hO hE (Nat.zero_le _) (Nat.zero_le _) d_M_fine_59 ?_
      exact ⟨_, rfl, rfl, by unfold sp_fine; rw [if_pos c_5, cd_tn_nI (by omega), if_neg c_42], ho1⟩
  · refine r_ldc hO k_M_87 d_M_fine_8 ?_
    refine r_iret hO hE (Nat.zero_le _) (Nat.zero_le _) d_M_fine_10 ?_
    exact ⟨_, rfl, rfl, by unfold sp_fine; rw [if_neg c_5], cd_off.rf _ _⟩
theorem d_M_why_0 : cd_D_iload b_M_why 0 1 1 := Or.inr ⟨1, ⟨by decide +kernel, rfl⟩, rfl⟩
theorem d_M_why_1 : cd_Dk b_M_why 1 (nI 0) 2 := Or.inl ⟨0, ⟨by decide +kernel, rfl⟩, by decide +kernel⟩
theorem d_M_why_2 : cd_Dk b_M_why 2 (nI 2) 3 := Or.inl ⟨2, ⟨by decide +kernel, rfl⟩, by decide +kernel⟩
theorem d_M_why_3 : cd_D 3 b_M_why 3 (.invokestatic 75) 6 := ⟨by decide +kernel, rfl⟩
theorem d_M_why_6 : cd_D_if_ne b_M_why 6 12 9 := ⟨6, by decide +kernel, by decide, rfl⟩
theorem d_M_why_9 : cd_D 2 b_M_why 9 (.ldc 87) 11 := ⟨by decide +kernel, rfl⟩
theorem d_M_why_11 : cd_D 1 b_M_why 11 .ireturn 12 := ⟨by decide +kernel, rfl⟩
theorem d_M_why_12 : cd_D_aload b_M_why 12 0 13 := Or.inr ⟨0, ⟨by decide +kernel, rfl⟩, rfl⟩
theorem d_M_why_13 : cd_D_iload b_M_why 13 1 14 := Or.inr ⟨1, ⟨by decide +kernel, rfl⟩, rfl⟩
theorem d_M_why_14 : cd_D 3 b_M_why 14 (.invokevirtual 93) 17 := ⟨by decide +kernel, rfl⟩
theorem d_M_why_17 : cd_D_istore b_M_why 17 2 18 := Or.inr ⟨2, ⟨by decide +kernel, rfl⟩, rfl⟩
theorem d_M_why_18 : cd_D_iload b_M_why 18 2 19 := Or.inr ⟨2, ⟨by decide +kernel, rfl⟩, rfl⟩
theorem d_M_why_19 : cd_D_if_ge b_M_why 19 27 22 := ⟨8, by decide +kernel, by decide, rfl⟩
theorem d_M_why_22 : cd_D 2 b_M_why 22 (.ldc 176) 24 := ⟨by decide +kernel, rfl⟩
theorem d_M_why_24 : cd_D_goto b_M_why 24 28 := ⟨4, by decide +kernel, by decide⟩
theorem d_M_why_27 : cd_D_iload b_M_why 27 2 28 := Or.inr ⟨2, ⟨by decide +kernel, rfl⟩, rfl⟩
theorem d_M_why_28 : cd_D 1 b_M_why 28 .ireturn 29 := ⟨by decide +kernel, rfl⟩
theorem c_M_why {l : Launch} {w : cd_WT} {S : cd_Sp} {I : cd_Mem} {m : Nat} (hM : cd_MO w S m) (mm tc : Nat) (hV : cd_V (I (m + 1)) mm tc) (k : Int32) : cd_C l w m_M_why 1 0 0 [.ref m, .int k] S I (cd_Fi S (sp_why (I (m + 1)) tc k) I) := by
  refine cd_intro (by decide) (by simp [Value.category]) (Nat.le_of_ble_eq_true rfl) ?_
  intro X hO hE
  show cd_J w X 0 0 S I 0 [some (.ref m), some (.int k), none] []
  obtain ⟨hN1, hmm, hN15, htc, hTW⟩ := id hV
  refine r_iload hO d_M_why_0 rfl ?_
  refine r_k hO d_M_why_1 ?_
  refine r_k hO d_M_why_2 ?_
  refine r_cS3fi hO hE (c_M_in _ _ _) mf_M_in lk_M_75 (by decide) rfl (Nat.le_of_ble_eq_true rfl) d_M_why_3 (Nat.zero_le _) (Nat.zero_le _) ?_
  refine r_if_neB hO d_M_why_6 (fun c_6 => ?_) (fun c_6 => ?_)
  · refine r_aload hO d_M_why_12 rfl ?_
    refine r_iload hO d_M_why_13 rfl ?_
    refine r_cV1fi hO hE (c_M_counts hM tc hN15 htc _) mf_M_counts lk_M_93 hM.2.1 rfl (by decide) rfl (Nat.le_of_ble_eq_true rfl) d_M_why_14 (Nat.zero_le _) (Nat.zero_le _) ?_
    refine r_sI2 hO d_M_why_17 rfl ?_
    refine r_iload hO d_M_why_18 rfl ?_
    refine r_if_ge hO d_M_why_19 (fun c_19 => ?_) (fun c_19 => ?_)
    · refine r_iload hO d_M_why_27 rfl ?_
      refine r_iret hO hE (Nat.zero_le _) (Nat.zero_le _) d_M_why_28 ?_
      exact ⟨by unfold sp_why; rw [if_pos c_6, if_pos c_19], rfl, rfl⟩
    · refine r_ldc hO k_M_176 d_M_why_22 ?_
      refine r_goto hO d_M_why_24 ?_
      refine r_iret hO hE (Nat.zero_le _) (Nat.zero_le _) d_M_why_28 ?_
      exact ⟨by unfold sp_why; rw [if_pos c_6, if_neg c_19], rfl, rfl⟩
  · refine r_ldc hO k_M_87 d_M_why_9 ?_
    refine r_iret hO hE (Nat.zero_le _) (Nat.zero_le _) d_M_why_11 ?_
    exact ⟨by unfold sp_why; rw [if_neg c_6], rfl, rfl⟩
theorem d_M_textTold_0 : cd_D_iload b_M_textTold 0 1 1 := Or.inr ⟨1, ⟨by decide +kernel, rfl⟩, rfl⟩
theorem d_M_textTold_1 : cd_Dk b_M_textTold 1 (nI 0) 2 := Or.inl ⟨0, ⟨by decide +kernel, rfl⟩, by decide +kernel⟩
theorem d_M_textTold_2 : cd_D_aload b_M_textTold 2 0 3 := Or.inr ⟨0, ⟨by decide +kernel, rfl⟩, rfl⟩
theorem d_M_textTold_3 : cd_D 3 b_M_textTold 3 (.getfield 9) 6 := ⟨by decide +kernel, rfl⟩
theorem d_M_textTold_6 : cd_Dk b_M_textTold 6 (nI 15) 8 := Or.inr (Or.inl ⟨15, ⟨by decide +kernel, rfl⟩, by decide +kernel⟩)
theorem d_M_textTold_8 : cd_D 1 b_M_textTold 8 .iaload 9 := ⟨by decide +kernel, rfl⟩
theorem d_M_textTold_9 : cd_Dk b_M_textTold 9 (nI 1) 10 := Or.inl ⟨1, ⟨by decide +kernel, rfl⟩, by decide +kernel⟩
theorem d_M_textTold_10 : cd_D 1 b_M_textTold 10 .isub 11 := ⟨by decide +kernel, rfl⟩
theorem d_M_textTold_11 : cd_D 3 b_M_textTold 11 (.invokestatic 75) 14 := ⟨by decide +kernel, rfl⟩
theorem d_M_textTold_14 : cd_D_if_eq b_M_textTold 14 26 17 := ⟨12, by decide +kernel, by decide, rfl⟩
theorem d_M_textTold_17 : cd_D_iload b_M_textTold 17 2 18 := Or.inr ⟨2, ⟨by decide +kernel, rfl⟩, rfl⟩
theorem d_M_textTold_18 : cd_Dk b_M_textTold 18 (nI 0) 19 := Or.inl ⟨0, ⟨by decide +kernel, rfl⟩, by decide +kernel⟩
theorem d_M_textTold_19 : cd_Dk b_M_textTold 19 (nI 1) 20 := Or.inl ⟨1, ⟨by decide +kernel, rfl⟩, by decide +kernel⟩
theorem d_M_textTold_20 : cd_D 3 b_M_textTold 20 (.invokestatic 75) 23 := ⟨by decide +kernel, rfl⟩
theorem d_M_textTold_23 : cd_D_if_ne b_M_textTold 23 29 26 := ⟨6, by decide +kernel, by decide, rfl⟩
theorem d_M_textTold_26 : cd_D 2 b_M_textTold 26 (.ldc 87) 28 := ⟨by decide +kernel, rfl⟩
theorem d_M_textTold_28 : cd_D 1 b_M_textTold 28 .ireturn 29 := ⟨by decide +kernel, rfl⟩
theorem d_M_textTold_29 : cd_D_iload b_M_textTold 29 2 30 := Or.inr ⟨2, ⟨by decide +kernel, rfl⟩, rfl⟩
theorem d_M_textTold_30 : cd_D_if_ne b_M_textTold 30 51 33 := ⟨21, by decide +kernel, by decide, rfl⟩
theorem d_M_textTold_33 : cd_D_aload b_M_textTold 33 0 34 := Or.inr ⟨0, ⟨by decide +kernel, rfl⟩, rfl⟩
theorem d_M_textTold_34 : cd_D 3 b_M_textTold 34 (.getfield 9) 37 := ⟨by decide +kernel, rfl⟩
theorem d_M_textTold_37 : cd_Dk b_M_textTold 37 (nI 76) 39 := Or.inr (Or.inl ⟨76, ⟨by decide +kernel, rfl⟩, by decide +kernel⟩)
theorem d_M_textTold_39 : cd_Dk b_M_textTold 39 (nI 2) 40 := Or.inl ⟨2, ⟨by decide +kernel, rfl⟩, by decide +kernel⟩
theorem d_M_textTold_40 : cd_D_iload b_M_textTold 40 1 41 := Or.inr ⟨1, ⟨by decide +kernel, rfl⟩, rfl⟩
theorem d_M_textTold_41 : cd_D 1 b_M_textTold 41 .imul 42 := ⟨by decide +kernel, rfl⟩
theorem d_M_textTold_42 : cd_D 1 b_M_textTold 42 .iadd 43 := ⟨by decide +kernel, rfl⟩
theorem d_M_textTold_43 : cd_D 1 b_M_textTold 43 .iaload 44 := ⟨by decide +kernel, rfl⟩
theorem d_M_textTold_44 : cd_Dk b_M_textTold 44 (nI 1000) 47 := Or.inr (Or.inr ⟨1000, ⟨by decide +kernel, rfl⟩, by decide +kernel⟩)
theorem d_M_textTold_47 : cd_D 1 b_M_textTold 47 .idiv 48 := ⟨by decide +kernel, rfl⟩
theorem d_M_textTold_48 : cd_D_goto b_M_textTold 48 64 := ⟨16, by decide +kernel, by decide⟩
theorem d_M_textTold_51 : cd_D_aload b_M_textTold 51 0 52 := Or.inr ⟨0, ⟨by decide +kernel, rfl⟩, rfl⟩
theorem d_M_textTold_52 : cd_D 3 b_M_textTold 52 (.getfield 9) 55 := ⟨by decide +kernel, rfl⟩
theorem d_M_textTold_55 : cd_Dk b_M_textTold 55 (nI 76) 57 := Or.inr (Or.inl ⟨76, ⟨by decide +kernel, rfl⟩, by decide +kernel⟩)
theorem d_M_textTold_57 : cd_Dk b_M_textTold 57 (nI 2) 58 := Or.inl ⟨2, ⟨by decide +kernel, rfl⟩, by decide +kernel⟩
theorem d_M_textTold_58 : cd_D_iload b_M_textTold 58 1 59 := Or.inr ⟨1, ⟨by decide +kernel, rfl⟩, rfl⟩
theorem d_M_textTold_59 : cd_D 1 b_M_textTold 59 .imul 60 := ⟨by decide +kernel, rfl⟩
theorem d_M_textTold_60 : cd_D 1 b_M_textTold 60 .iadd 61 := ⟨by decide +kernel, rfl⟩
theorem d_M_textTold_61 : cd_Dk b_M_textTold 61 (nI 1) 62 := Or.inl ⟨1, ⟨by decide +kernel, rfl⟩, by decide +kernel⟩
theorem d_M_textTold_62 : cd_D 1 b_M_textTold 62 .iadd 63 := ⟨by decide +kernel, rfl⟩
theorem d_M_textTold_63 : cd_D 1 b_M_textTold 63 .iaload 64 := ⟨by decide +kernel, rfl⟩
theorem d_M_textTold_64 : cd_D 1 b_M_textTold 64 .ireturn 65 := ⟨by decide +kernel, rfl⟩
theorem c_M_textTold {l : Launch} {w : cd_WT} {S : cd_Sp} {I : cd_Mem} {m : Nat} (hM : cd_MO w S m) (mm tc : Nat) (hV : cd_V (I (m + 1)) mm tc) (t q : Int32) : cd_C l w m_M_textTold 1 0 0 [.ref m, .int t, .int q] S I (cd_Fi S (sp_textTold (I (m + 1)) t q) I) := by
  refine cd_intro (by decide) (by simp [Value.category]) (Nat.le_of_ble_eq_true rfl) ?_
  intro X hO hE
  show cd_J w X 0 0 S I 0 [some (.ref m), some (.int t), some (.int q)] []
  obtain ⟨hN1, hmm, hN15, htc, hTW⟩ := id hV
  refine r_iload hO d_M_textTold_0 rfl ?_
  refine r_k hO d_M_textTold_1 ?_
  refine r_aload hO d_M_textTold_2 rfl ?_
  refine r_getR hO f_M_9 rfl hM.2.1 (mo_r1 hM) d_M_textTold_3 ?_
  refine r_k hO d_M_textTold_6 ?_
  refine r_iald hO (mo_s1 hM) (by omega) (by decide) d_M_textTold_8 ?_
  refine r_k hO d_M_textTold_9 ?_
  refine r_isub hO d_M_textTold_10 ?_
  refine r_cS3fi hO hE (c_M_in _ _ _) mf_M_in lk_M_75 (by decide) rfl (Nat.le_of_ble_eq_true rfl) d_M_textTold_11 (Nat.zero_le _) (Nat.zero_le _) ?_
  refine r_if_eqB hO d_M_textTold_14 (fun c_14 => ?_) (fun c_14 => ?_)
  · refine r_ldc hO k_M_87 d_M_textTold_26 ?_
    refine r_iret hO hE (Nat.zero_le _) (Nat.zero_le _) d_M_textTold_28 ?_
    exact ⟨by unfold sp_textTold; rw [if_neg c_14], rfl, rfl⟩
  · obtain ⟨i, hi, rfl⟩ := cd_isT_ex hN15 htc c_14
    refine r_iload hO d_M_textTold_17 rfl ?_
    refine r_k hO d_M_textTold_18 ?_
    refine r_k hO d_M_textTold_19 ?_
    refine r_cS3fi hO hE (c_M_in _ _ _) mf_M_in lk_M_75 (by decide) rfl (Nat.le_of_ble_eq_true rfl) d_M_textTold_20 (Nat.zero_le _) (Nat.zero_le _) ?_
    refine r_if_neB hO d_M_textTold_23 (fun c_23 => ?_) (fun c_23 => ?_)
    · refine r_iload hO d_M_textTold_29 rfl ?_
      refine r_if_ne hO d_M_textTold_30 (fun c_30 => ?_) (fun c_30 => ?_)
      · refine r_aload hO d_M_textTold_51 rfl ?_
        refine r_getR hO f_M_9 rfl hM.2.1 (mo_r1 hM) d_M_textTold_52 ?_
        refine r_k hO d_M_textTold_55 ?_
        refine r_k hO d_M_textTold_57 ?_
        refine r_iload hO d_M_textTold_58 rfl ?_
        refine r_imulN hO d_M_textTold_59 ?_
        refine r_iaddN hO d_M_textTold_60 ?_
        refine r_k hO d_M_textTold_61 ?_
        refine r_iaddN hO d_M_textTold_62 ?_
        refine r_iald hO (mo_s1 hM) (by omega) (by decide) d_M_textTold_63 ?_
        refine r_iret hO hE (Nat.zero_le _) (Nat.zero_le _) d_M_textTold_64 ?_
        exact ⟨by unfold sp_textTold; rw [if_pos c_14, if_pos c_23, if_neg c_30, cd_tn_nI (by omega)], rfl, rfl⟩
      · refine r_aload hO d_M_textTold_33 rfl ?_
        refine r_getR hO f_M_9 rfl hM.2.1 (mo_r1 hM) d_M_textTold_34 ?_
        refine r_k hO d_M_textTold_37 ?_
        refine r_k hO d_M_textTold_39 ?_
        refine r_iload hO d_M_textTold_40 rfl ?_
        refine r_imulN hO d_M_textTold_41 ?_
        refine r_iaddN hO d_M_textTold_42 ?_
        refine r_iald hO (mo_s1 hM) (by omega) (by decide) d_M_textTold_43 ?_
        refine r_k hO d_M_textTold_44 ?_
        refine r_idiv hO d_M_textTold_47 (by decide) ?_
        refine r_goto hO d_M_textTold_48 ?_
        refine r_iret hO hE (Nat.zero_le _) (Nat.zero_le _) d_M_textTold_64 ?_
        exact ⟨by unfold sp_textTold; rw [if_pos c_14, if_pos c_23, if_pos c_30, cd_tn_nI (by omega)], rfl, rfl⟩
    · refine r_ldc hO k_M_87 d_M_textTold_26 ?_
      refine r_iret hO hE (Nat.zero_le _) (Nat.zero_le _) d_M_textTold_28 ?_
      exact ⟨by unfold sp_textTold; rw [if_pos c_14, if_neg c_23], rfl, rfl⟩
theorem d_M_trim_0 : cd_D_iload b_M_trim 0 1 1 := Or.inr ⟨1, ⟨by decide +kernel, rfl⟩, rfl⟩
theorem d_M_trim_1 : cd_Dk b_M_trim 1 (nI 0) 2 := Or.inl ⟨0, ⟨by decide +kernel, rfl⟩, by decide +kernel⟩
theorem d_M_trim_2 : cd_D_aload b_M_trim 2 0 3 := Or.inr ⟨0, ⟨by decide +kernel, rfl⟩, rfl⟩
theorem d_M_trim_3 : cd_D 3 b_M_trim 3 (.getfield 191) 6 := ⟨by decide +kernel, rfl⟩
theorem d_M_trim_6 : cd_D 3 b_M_trim 6 (.invokestatic 75) 9 := ⟨by decide +kernel, rfl⟩
theorem d_M_trim_9 : cd_D_if_ne b_M_trim 9 15 12 := ⟨6, by decide +kernel, by decide, rfl⟩
theorem d_M_trim_12 : cd_D 2 b_M_trim 12 (.ldc 87) 14 := ⟨by decide +kernel, rfl⟩
theorem d_M_trim_14 : cd_D 1 b_M_trim 14 .ireturn 15 := ⟨by decide +kernel, rfl⟩
theorem d_M_trim_15 : cd_D_aload b_M_trim 15 0 16 := Or.inr ⟨0, ⟨by decide +kernel, rfl⟩, rfl⟩
theorem d_M_trim_16 : cd_D_iload b_M_trim 16 1 17 := Or.inr ⟨1, ⟨by decide +kernel, rfl⟩, rfl⟩
theorem d_M_trim_17 : cd_D 3 b_M_trim 17 (.putfield 191) 20 := ⟨by decide +kernel, rfl⟩
theorem d_M_trim_20 : cd_D_iload b_M_trim 20 1 21 := Or.inr ⟨1, ⟨by decide +kernel, rfl⟩, rfl⟩
theorem d_M_trim_21 : cd_D 1 b_M_trim 21 .ireturn 22 := ⟨by decide +kernel, rfl⟩
theorem c_M_trim {l : Launch} {w : cd_WT} {S : cd_Sp} {I : cd_Mem} {m : Nat} (hM : cd_MO w S m) (n : Int32) : cd_C l w m_M_trim 1 0 0 [.ref m, .int n] S I (cd_Fi S (sp_trim (I m 6) n).1 (cd_set I m (upd (I m) 6 (sp_trim (I m 6) n).2))) := by
  refine cd_intro (by decide) (by simp [Value.category]) (Nat.le_of_ble_eq_true rfl) ?_
  intro X hO hE
  show cd_J w X 0 0 S I 0 [some (.ref m), some (.int n)] []
  refine r_iload hO d_M_trim_0 rfl ?_
  refine r_k hO d_M_trim_1 ?_
  refine r_aload hO d_M_trim_2 rfl ?_
  refine r_getI hO f_M_191 rfl hM.2.1 d_M_trim_3 ?_
  refine r_cS3fi hO hE (c_M_in _ _ _) mf_M_in lk_M_75 (by decide) rfl (Nat.le_of_ble_eq_true rfl) d_M_trim_6 (Nat.zero_le _) (Nat.zero_le _) ?_
  refine r_if_neB hO d_M_trim_9 (fun c_9 => ?_) (fun c_9 => ?_)
  · refine r_aload hO d_M_trim_15 rfl ?_
    refine r_iload hO d_M_trim_16 rfl ?_
    refine r_putI hO f_M_191 rfl hM.2.1 hM.1 d_M_trim_17 ?_
    refine r_iload hO d_M_trim_20 rfl ?_
    refine r_iret hO hE (Nat.zero_le _) (Nat.zero_le _) d_M_trim_21 ?_
    exact ⟨by unfold sp_trim; rw [if_pos c_9], rfl, by unfold sp_trim; rw [if_pos c_9]⟩
  · refine r_ldc hO k_M_87 d_M_trim_12 ?_
    refine r_iret hO hE (Nat.zero_le _) (Nat.zero_le _) d_M_trim_14 ?_
    exact ⟨by unfold sp_trim; rw [if_neg c_9], rfl, by unfold sp_trim; rw [if_neg c_9]; exact (cd_upd_self I m 6).symm⟩
theorem d_M_feed_0 : cd_D_aload b_M_feed 0 0 1 := Or.inr ⟨0, ⟨by decide +kernel, rfl⟩, rfl⟩
theorem d_M_feed_1 : cd_D 3 b_M_feed 1 (.getfield 191) 4 := ⟨by decide +kernel, rfl⟩
theorem d_M_feed_4 : cd_Dk b_M_feed 4 (nI 12) 6 := Or.inr (Or.inl ⟨12, ⟨by decide +kernel, rfl⟩, by decide +kernel⟩)
theorem d_M_feed_6 : cd_D 1 b_M_feed 6 .iadd 7 := ⟨by decide +kernel, rfl⟩
theorem d_M_feed_7 : cd_Dk b_M_feed 7 (nI 96) 9 := Or.inr (Or.inl ⟨96, ⟨by decide +kernel, rfl⟩, by decide +kernel⟩)
theorem d_M_feed_9 : cd_D_icmp_le b_M_feed 9 15 12 := ⟨6, by decide +kernel, by decide, rfl⟩
theorem d_M_feed_12 : cd_D 2 b_M_feed 12 (.ldc 88) 14 := ⟨by decide +kernel, rfl⟩
theorem d_M_feed_14 : cd_D 1 b_M_feed 14 .ireturn 15 := ⟨by decide +kernel, rfl⟩
theorem d_M_feed_15 : cd_Dk b_M_feed 15 (nI 0) 16 := Or.inl ⟨0, ⟨by decide +kernel, rfl⟩, by decide +kernel⟩
theorem d_M_feed_16 : cd_D_istore b_M_feed 16 4 18 := Or.inl ⟨by decide +kernel, rfl⟩
theorem d_M_feed_18 : cd_D_iload b_M_feed 18 4 20 := Or.inl ⟨by decide +kernel, rfl⟩
theorem d_M_feed_20 : cd_Dk b_M_feed 20 (nI 12) 22 := Or.inr (Or.inl ⟨12, ⟨by decide +kernel, rfl⟩, by decide +kernel⟩)
theorem d_M_feed_22 : cd_D_icmp_ge b_M_feed 22 84 25 := ⟨62, by decide +kernel, by decide, rfl⟩
theorem d_M_feed_25 : cd_D_iload b_M_feed 25 4 27 := Or.inl ⟨by decide +kernel, rfl⟩
theorem d_M_feed_27 : cd_Dk b_M_feed 27 (nI 4) 28 := Or.inl ⟨4, ⟨by decide +kernel, rfl⟩, by decide +kernel⟩
theorem d_M_feed_28 : cd_D_icmp_ge b_M_feed 28 35 31 := ⟨7, by decide +kernel, by decide, rfl⟩
theorem d_M_feed_31 : cd_D_iload b_M_feed 31 1 32 := Or.inr ⟨1, ⟨by decide +kernel, rfl⟩, rfl⟩
theorem d_M_feed_32 : cd_D_goto b_M_feed 32 47 := ⟨15, by decide +kernel, by decide⟩
theorem d_M_feed_35 : cd_D_iload b_M_feed 35 4 37 := Or.inl ⟨by decide +kernel, rfl⟩
theorem d_M_feed_37 : cd_Dk b_M_feed 37 (nI 8) 39 := Or.inr (Or.inl ⟨8, ⟨by decide +kernel, rfl⟩, by decide +kernel⟩)
theorem d_M_feed_39 : cd_D_icmp_ge b_M_feed 39 46 42 := ⟨7, by decide +kernel, by decide, rfl⟩
theorem d_M_feed_42 : cd_D_iload b_M_feed 42 2 43 := Or.inr ⟨2, ⟨by decide +kernel, rfl⟩, rfl⟩
theorem d_M_feed_43 : cd_D_goto b_M_feed 43 47 := ⟨4, by decide +kernel, by decide⟩
theorem d_M_feed_46 : cd_D_iload b_M_feed 46 3 47 := Or.inr ⟨3, ⟨by decide +kernel, rfl⟩, rfl⟩
theorem d_M_feed_47 : cd_D_istore b_M_feed 47 5 49 := Or.inl ⟨by decide +kernel, rfl⟩
theorem d_M_feed_49 : cd_D_aload b_M_feed 49 0 50 := Or.inr ⟨0, ⟨by decide +kernel, rfl⟩, rfl⟩
theorem d_M_feed_50 : cd_D 3 b_M_feed 50 (.getfield 22) 53 := ⟨by decide +kernel, rfl⟩
theorem d_M_feed_53 : cd_D_aload b_M_feed 53 0 54 := Or.inr ⟨0, ⟨by decide +kernel, rfl⟩, rfl⟩
theorem d_M_feed_54 : cd_D 3 b_M_feed 54 (.getfield 191) 57 := ⟨by decide +kernel, rfl⟩
theorem d_M_feed_57 : cd_D_iload b_M_feed 57 4 59 := Or.inl ⟨by decide +kernel, rfl⟩
theorem d_M_feed_59 : cd_D 1 b_M_feed 59 .iadd 60 := ⟨by decide +kernel, rfl⟩
theorem d_M_feed_60 : cd_D_iload b_M_feed 60 5 62 := Or.inl ⟨by decide +kernel, rfl⟩
theorem d_M_feed_62 : cd_Dk b_M_feed 62 (nI 24) 64 := Or.inr (Or.inl ⟨24, ⟨by decide +kernel, rfl⟩, by decide +kernel⟩)
theorem d_M_feed_64 : cd_Dk b_M_feed 64 (nI 8) 66 := Or.inr (Or.inl ⟨8, ⟨by decide +kernel, rfl⟩, by decide +kernel⟩)
theorem d_M_feed_66 : cd_D_iload b_M_feed 66 4 68 := Or.inl ⟨by decide +kernel, rfl⟩
theorem d_M_feed_68 : cd_Dk b_M_feed 68 (nI 4) 69 := Or.inl ⟨4, ⟨by decide +kernel, rfl⟩, by decide +kernel⟩
theorem d_M_feed_69 : cd_D 1 b_M_feed 69 .irem 70 := ⟨by decide +kernel, rfl⟩
theorem d_M_feed_70 : cd_D 1 b_M_feed 70 .imul 71 := ⟨by decide +kernel, rfl⟩
theorem d_M_feed_71 : cd_D 1 b_M_feed 71 .isub 72 := ⟨by decide +kernel, rfl⟩
theorem d_M_feed_72 : cd_D 1 b_M_feed 72 .ishr 73 := ⟨by decide +kernel, rfl⟩
theorem d_M_feed_73 : cd_Dk b_M_feed 73 (nI 255) 76 := Or.inr (Or.inr ⟨255, ⟨by decide +kernel, rfl⟩, by decide +kernel⟩)
theorem d_M_feed_76 : cd_D 1 b_M_feed 76 .iand 77 := ⟨by decide +kernel, rfl⟩
theorem d_M_feed_77 : cd_D 1 b_M_feed 77 .iastore 78 := ⟨by decide +kernel, rfl⟩
theorem d_M_feed_78 : cd_D 3 b_M_feed 78 (.iinc 4 (1)) 81 := ⟨by decide +kernel, rfl⟩
theorem d_M_feed_81 : cd_D_goto b_M_feed 81 18 := ⟨-63, by decide +kernel, by decide⟩
theorem d_M_feed_84 : cd_D_aload b_M_feed 84 0 85 := Or.inr ⟨0, ⟨by decide +kernel, rfl⟩, rfl⟩
theorem d_M_feed_85 : cd_D 1 b_M_feed 85 .dup 86 := ⟨by decide +kernel, rfl⟩
theorem d_M_feed_86 : cd_D 3 b_M_feed 86 (.getfield 191) 89 := ⟨by decide +kernel, rfl⟩
theorem d_M_feed_89 : cd_Dk b_M_feed 89 (nI 12) 91 := Or.inr (Or.inl ⟨12, ⟨by decide +kernel, rfl⟩, by decide +kernel⟩)
theorem d_M_feed_91 : cd_D 1 b_M_feed 91 .iadd 92 := ⟨by decide +kernel, rfl⟩
theorem d_M_feed_92 : cd_D 3 b_M_feed 92 (.putfield 191) 95 := ⟨by decide +kernel, rfl⟩
theorem d_M_feed_95 : cd_D_aload b_M_feed 95 0 96 := Or.inr ⟨0, ⟨by decide +kernel, rfl⟩, rfl⟩
theorem d_M_feed_96 : cd_D 3 b_M_feed 96 (.getfield 191) 99 := ⟨by decide +kernel, rfl⟩
theorem d_M_feed_99 : cd_D 1 b_M_feed 99 .ireturn 100 := ⟨by decide +kernel, rfl⟩
theorem c_M_feed {l : Launch} {w : cd_WT} {S : cd_Sp} {I : cd_Mem} {m : Nat} (hM : cd_MO w S m) (L : Nat) (hL6 : I m 6 = nI L) (hL9 : L ≤ 96) (a b c : Int32) : cd_C l w m_M_feed 0 0 0 [.ref m, .int a, .int b, .int c] S I (cd_Fi S (if L ≤ 84 then nI (L + 12) else cd_FULL) (if L ≤ 84 then cd_set (cd_set I (m + 5) (cd_fr (I (m + 5)) L a b c 12)) m (upd (I m) 6 (nI (L + 12))) else I)) := by
  refine cd_intro (by decide) (by simp [Value.category]) (Nat.le_of_ble_eq_true rfl) ?_
  intro X hO hE
  show cd_J w X 0 0 S I 0 [some (.ref m), some (.int a), some (.int b), some (.int c), none, none] []
  have loop : ∀ (r k : Nat) (x5 : Option Value), L + 12 ≤ 96 → k + r = 12 → cd_J w X 0 0 S (cd_set I (m + 5) (cd_fr (I (m + 5)) L a b c k)) 18 [some (.ref m), some (.int a), some (.int b), some (.int c), some (.int (nI k)), x5] [] := by
    intro r
    induction r with
    | zero =>
      intro k x5 hL hk
      have hk2 : k = 12 := by omega
      subst hk2
      refine r_iload hO d_M_feed_18 rfl ?_
      refine r_k hO d_M_feed_20 ?_
      refine r_icmp_ge hO d_M_feed_22 (fun c_22 => ?_) (fun c_22 => ?_)
      · refine r_aload hO d_M_feed_84 rfl ?_
        refine r_dup hO d_M_feed_85 rfl ?_
        refine r_getI hO f_M_191 rfl hM.2.1 d_M_feed_86 ?_
        try simp (disch := omega) only [cd_set_eq, cd_set_ne, cd_set_set]
        refine r_tops hL6 ?_
        refine r_k hO d_M_feed_89 ?_
        refine r_iaddN hO d_M_feed_91 ?_
        refine r_putI hO f_M_191 rfl hM.2.1 hM.1 d_M_feed_92 ?_
        try simp (disch := omega) only [cd_set_eq, cd_set_ne, cd_set_set]
        refine r_aload hO d_M_feed_95 rfl ?_
        refine r_getI hO f_M_191 rfl hM.2.1 d_M_feed_96 ?_
        try simp (disch := omega) only [cd_set_eq, cd_set_ne, cd_set_set]
        refine r_iret hO hE (Nat.zero_le _) (Nat.zero_le _) d_M_feed_99 ?_
        exact ⟨by rw [if_pos (show L ≤ 84 by omega)]; simp [upd], rfl, by rw [if_pos (show L ≤ 84 by omega)]⟩
      · exact absurd (nI_le (Nat.le_refl _) (by omega)) c_22
    | succ r ih =>
      intro k x5 hL hk
      refine r_iload hO d_M_feed_18 rfl ?_
      refine r_k hO d_M_feed_20 ?_
      refine r_icmp_ge hO d_M_feed_22 (fun c_22 => ?_) (fun c_22 => ?_)
      · exact absurd c_22 (nI_ge (by omega) (by omega))
      · refine r_iload hO d_M_feed_25 rfl ?_
        refine r_k hO d_M_feed_27 ?_
        refine r_jn2 (pcJ := 47) (fun v => v = if 4 ≤ k then (if 8 ≤ k then c else b) else a) (fun v_28 hv_28 => ?_) (fun hj_28 => ?_)
        · subst hv_28
          refine r_sI5 hO d_M_feed_47 rfl ?_
          refine r_aload hO d_M_feed_49 rfl ?_
          refine r_getR hO f_M_22 rfl hM.2.1 (mo_r5 hM) d_M_feed_50 ?_
          try simp (disch := omega) only [cd_set_eq, cd_set_ne, cd_set_set]
          refine r_aload hO d_M_feed_53 rfl ?_
          refine r_getI hO f_M_191 rfl hM.2.1 d_M_feed_54 ?_
          try simp (disch := omega) only [cd_set_eq, cd_set_ne, cd_set_set]
          refine r_tops hL6 ?_
          refine r_iload hO d_M_feed_57 rfl ?_
          refine r_iaddN hO d_M_feed_59 ?_
          refine r_iload hO d_M_feed_60 rfl ?_
          refine r_k hO d_M_feed_62 ?_
          refine r_k hO d_M_feed_64 ?_
          refine r_iload hO d_M_feed_66 rfl ?_
          refine r_k hO d_M_feed_68 ?_
          refine r_iremN hO d_M_feed_69 (by omega) (by omega) (by omega) ?_
          refine r_imulN hO d_M_feed_70 ?_
          refine r_isubN hO d_M_feed_71 (by omega) ?_
          refine r_ishr hO d_M_feed_72 ?_
          refine r_k hO d_M_feed_73 ?_
          refine r_iand hO d_M_feed_76 ?_
          refine r_iast hO (mo_s5 hM) (mo_l5 hM) (by omega) (by decide) d_M_feed_77 ?_
          try simp (disch := omega) only [cd_set_eq, cd_set_ne, cd_set_set]
          refine r_incN4 hO d_M_feed_78 rfl ?_
          refine r_goto hO d_M_feed_81 ?_
          exact ih (k + 1) _ hL (by omega)
        · refine r_icmp_ge hO d_M_feed_28 (fun c_28 => ?_) (fun c_28 => ?_)
          · refine r_iload hO d_M_feed_35 rfl ?_
            refine r_k hO d_M_feed_37 ?_
            refine r_icmp_ge hO d_M_feed_39 (fun c_39 => ?_) (fun c_39 => ?_)
            · refine r_iload hO d_M_feed_46 rfl ?_
              exact hj_28 _ (by rw [if_pos (cd_le_of (by omega) c_28), if_pos (cd_le_of (by omega) c_39)])
            · refine r_iload hO d_M_feed_42 rfl ?_
              refine r_goto hO d_M_feed_43 ?_
              exact hj_28 _ (by rw [if_pos (cd_le_of (by omega) c_28), if_neg (cd_nle_of (by omega) c_39)])
          · refine r_iload hO d_M_feed_31 rfl ?_
            refine r_goto hO d_M_feed_32 ?_
            exact hj_28 _ (by rw [if_neg (cd_nle_of (by omega) c_28)])
  refine r_aload hO d_M_feed_0 rfl ?_
  refine r_getI hO f_M_191 rfl hM.2.1 d_M_feed_1 ?_
  refine r_tops hL6 ?_
  refine r_k hO d_M_feed_4 ?_
  refine r_iaddN hO d_M_feed_6 ?_
  refine r_k hO d_M_feed_7 ?_
  refine r_icmp_le hO d_M_feed_9 (fun c_9 => ?_) (fun c_9 => ?_)
  · refine r_k hO d_M_feed_15 ?_
    refine r_sI4 hO d_M_feed_16 rfl ?_
    refine r_mem (show I = cd_set I (m + 5) (cd_fr (I (m + 5)) L a b c 0) from (cd_set_self _ _).symm) ?_
    exact loop 12 0 _ (Nat.le_of_not_lt (fun q => absurd c_9 (nI_ge q (by omega)))) (by decide)
  · have hL8 : ¬ L ≤ 84 := fun q => c_9 (nI_le (by omega) (by decide))
    refine r_ldc hO k_M_88 d_M_feed_12 ?_
    refine r_iret hO hE (Nat.zero_le _) (Nat.zero_le _) d_M_feed_14 ?_
    exact ⟨by rw [if_neg hL8], rfl, by rw [if_neg hL8]⟩
end
section
/-- a stretch of a row is written anew -/
def cd_rg (r : Nat → Int32) (b k : Nat) (f : Nat → Int32) : Nat → Int32 := fun j => if b ≤ j ∧ j < b + k then f (j - b) else r j
theorem cd_rg_0 (r : Nat → Int32) (b : Nat) (f : Nat → Int32) : cd_rg r b 0 f = r := by
  funext j
  unfold cd_rg
  rw [if_neg (by omega)]
theorem cd_rg_s (r : Nat → Int32) (b k : Nat) (f : Nat → Int32) : upd (cd_rg r b k f) (b + k) (f k) = cd_rg r b (k + 1) f := by
  funext j
  unfold upd cd_rg
  by_cases h : j = b + k
  · subst h
    rw [if_pos rfl, if_pos (by omega), Nat.add_sub_cancel_left]
  · rw [if_neg h]
    by_cases h2 : b ≤ j ∧ j < b + k
    · rw [if_pos h2, if_pos (by omega)]
    · rw [if_neg h2, if_neg (by omega)]
def cd_sdo (I : cd_Mem) (m : Nat) (s : Nat) (so n : Int32) : cd_Mem := cd_set (cd_set (cd_set I (m + 13) (upd (I (m + 13)) s so)) (m + 14) (upd (I (m + 14)) s n)) (m + 15) (cd_rg (I (m + 15)) (24 * s) 24 (fun _ => nI 0))
def sp_sheet (I : cd_Mem) (m : Nat) (s so n : Int32) : Int32 × cd_Mem := if nI 0 ≤ s ∧ s ≤ nI 3 then (if (-1) ≤ so ∧ so ≤ nI 1 then (if so < 0 then (nI 0, cd_sdo I m (cd_tn s) so (nI 0)) else if n ≤ nI 24 then (if 0 ≤ n then (n, cd_sdo I m (cd_tn s) so n) else (cd_SIZE, I)) else (cd_BAD, I)) else (cd_BAD, I)) else (cd_BAD, I)
theorem cd_clm {S : cd_Sp} {I : cd_Mem} {v : Int32} {sp : Int32 × cd_Mem} (h : sp = (v, I)) : cd_Fi S sp.1 sp.2 (some (.int v)) S I := by
  rw [h]
  exact ⟨rfl, rfl, rfl⟩
def cd_mst (I : cd_Mem) (m s p : Nat) (v : Int32) : Int32 × cd_Mem := (nI 1, cd_set I (m + 15) (upd (I (m + 15)) (24 * s + p) (if I (m + 13) s = 0 then v.toInt16.toInt32 else v)))
def cd_m60 (I : cd_Mem) (m s p : Nat) (v : Int32) : Int32 × cd_Mem := if I (m + 13) s = nI 1 then (if v = cd_NONE then cd_mst I m s p v else if (-99999) ≤ v ∧ v ≤ 99999 then cd_mst I m s p v else (cd_BAD, I)) else cd_mst I m s p v
def sp_mark (I : cd_Mem) (m : Nat) (s p v : Int32) : Int32 × cd_Mem := if nI 0 ≤ s ∧ s ≤ nI 3 then (if 0 ≤ I (m + 13) (cd_tn s) then (if nI 0 ≤ p ∧ p ≤ I (m + 14) (cd_tn s) - nI 1 then (if I (m + 13) (cd_tn s) = 0 then (if v = cd_NONE then (cd_KIND, I) else cd_m60 I m (cd_tn s) (cd_tn p) v) else cd_m60 I m (cd_tn s) (cd_tn p) v) else (cd_INDEX, I)) else (cd_NOTHING, I)) else (cd_BAD, I)
def cd_po (N ce : Nat → Int32) (s : Nat) : Nat → Int32 × (Nat → Int32)
  | 0 => (nI 0, N)
  | a + 1 => ((cd_po N ce s a).1 + (if (cd_po N ce s a).2 (16 + 5 * a + 2) = (if ce (24 * s + a) = cd_NONE then (cd_po N ce s a).2 (16 + 5 * a + 2) else cd_wi (ce (24 * s + a)) (nI 0) (nI 99)) then nI 0 else nI 1), upd (cd_po N ce s a).2 (16 + 5 * a + 2) (if ce (24 * s + a) = cd_NONE then (cd_po N ce s a).2 (16 + 5 * a + 2) else cd_wi (ce (24 * s + a)) (nI 0) (nI 99)))
def sp_pour (N so sz ce : Nat → Int32) (mm : Nat) (s : Int32) : Int32 × (Nat → Int32) := if nI 0 ≤ s ∧ s ≤ nI 3 then (if 0 ≤ so (cd_tn s) then cd_po N ce (cd_tn s) (min (cd_tn (sz (cd_tn s))) mm) else (cd_NOTHING, N)) else (cd_BAD, N)
def cd_rd (N ce : Nat → Int32) (s : Nat) : Nat → Nat → Int32
  | 0, _ => cd_NONE
  | r + 1, k => if ce (24 * s + k) = cd_NONE then cd_rd N ce s r (k + 1) else if cd_isA N (nI k) then (if ce (24 * s + k) = N (16 + 5 * k + 1) then cd_rd N ce s r (k + 1) else nI k) else nI k
def sp_reads (N so sz ce : Nat → Int32) (s : Int32) : Int32 := if nI 0 ≤ s ∧ s ≤ nI 3 then (if 0 ≤ so (cd_tn s) then cd_rd N ce (cd_tn s) (cd_tn (sz (cd_tn s))) 0 else cd_NOTHING) else cd_BAD
theorem cd_set_self_at (I : cd_Mem) (a : Nat) {r : Nat → Int32} (h : I a = r) : cd_set I a r = I := by rw [← h, cd_set_self]
theorem cd_nle0 {x : Int32} (h : x < 0) : ¬ 0 ≤ x := by
  rw [Int32.lt_iff_toInt_lt] at h
  rw [Int32.le_iff_toInt_le]
  omega
theorem cd_le0x {x : Int32} (h : ¬ x < 0) : 0 ≤ x := by
  rw [Int32.lt_iff_toInt_lt] at h
  rw [Int32.le_iff_toInt_le]
  omega
theorem d_M_sheet_0 : cd_D_iload b_M_sheet 0 1 1 := Or.inr ⟨1, ⟨by decide +kernel, rfl⟩, rfl⟩
theorem d_M_sheet_1 : cd_D 3 b_M_sheet 1 (.invokestatic 183) 4 := ⟨by decide +kernel, rfl⟩
theorem d_M_sheet_4 : cd_D_if_eq b_M_sheet 4 26 7 := ⟨22, by decide +kernel, by decide, rfl⟩
theorem d_M_sheet_7 : cd_D_iload b_M_sheet 7 2 8 := Or.inr ⟨2, ⟨by decide +kernel, rfl⟩, rfl⟩
theorem d_M_sheet_8 : cd_Dk b_M_sheet 8 (-1) 9 := Or.inl ⟨-1, ⟨by decide +kernel, rfl⟩, by decide +kernel⟩
theorem d_M_sheet_9 : cd_Dk b_M_sheet 9 (nI 1) 10 := Or.inl ⟨1, ⟨by decide +kernel, rfl⟩, by decide +kernel⟩
theorem d_M_sheet_10 : cd_D 3 b_M_sheet 10 (.invokestatic 75) 13 := ⟨by decide +kernel, rfl⟩
theorem d_M_sheet_13 : cd_D_if_eq b_M_sheet 13 26 16 := ⟨13, by decide +kernel, by decide, rfl⟩
theorem d_M_sheet_16 : cd_D_iload b_M_sheet 16 2 17 := Or.inr ⟨2, ⟨by decide +kernel, rfl⟩, rfl⟩
theorem d_M_sheet_17 : cd_D_if_lt b_M_sheet 17 29 20 := ⟨12, by decide +kernel, by decide, rfl⟩
theorem d_M_sheet_20 : cd_D_iload b_M_sheet 20 3 21 := Or.inr ⟨3, ⟨by decide +kernel, rfl⟩, rfl⟩
theorem d_M_sheet_21 : cd_Dk b_M_sheet 21 (nI 24) 23 := Or.inr (Or.inl ⟨24, ⟨by decide +kernel, rfl⟩, by decide +kernel⟩)
theorem d_M_sheet_23 : cd_D_icmp_le b_M_sheet 23 29 26 := ⟨6, by decide +kernel, by decide, rfl⟩
theorem d_M_sheet_26 : cd_D 2 b_M_sheet 26 (.ldc 87) 28 := ⟨by decide +kernel, rfl⟩
theorem d_M_sheet_28 : cd_D 1 b_M_sheet 28 .ireturn 29 := ⟨by decide +kernel, rfl⟩
theorem d_M_sheet_29 : cd_D_iload b_M_sheet 29 2 30 := Or.inr ⟨2, ⟨by decide +kernel, rfl⟩, rfl⟩
theorem d_M_sheet_30 : cd_D_if_lt b_M_sheet 30 41 33 := ⟨11, by decide +kernel, by decide, rfl⟩
theorem d_M_sheet_33 : cd_D_iload b_M_sheet 33 3 34 := Or.inr ⟨3, ⟨by decide +kernel, rfl⟩, rfl⟩
theorem d_M_sheet_34 : cd_D_if_ge b_M_sheet 34 41 37 := ⟨7, by decide +kernel, by decide, rfl⟩
theorem d_M_sheet_37 : cd_D 3 b_M_sheet 37 (.ldc_w 259) 40 := ⟨by decide +kernel, rfl⟩
theorem d_M_sheet_40 : cd_D 1 b_M_sheet 40 .ireturn 41 := ⟨by decide +kernel, rfl⟩
theorem d_M_sheet_41 : cd_D_aload b_M_sheet 41 0 42 := Or.inr ⟨0, ⟨by decide +kernel, rfl⟩, rfl⟩
theorem d_M_sheet_42 : cd_D 3 b_M_sheet 42 (.getfield 48) 45 := ⟨by decide +kernel, rfl⟩
theorem d_M_sheet_45 : cd_D_iload b_M_sheet 45 1 46 := Or.inr ⟨1, ⟨by decide +kernel, rfl⟩, rfl⟩
theorem d_M_sheet_46 : cd_D_iload b_M_sheet 46 2 47 := Or.inr ⟨2, ⟨by decide +kernel, rfl⟩, rfl⟩
theorem d_M_sheet_47 : cd_D 1 b_M_sheet 47 .iastore 48 := ⟨by decide +kernel, rfl⟩
theorem d_M_sheet_48 : cd_D_aload b_M_sheet 48 0 49 := Or.inr ⟨0, ⟨by decide +kernel, rfl⟩, rfl⟩
theorem d_M_sheet_49 : cd_D 3 b_M_sheet 49 (.getfield 51) 52 := ⟨by decide +kernel, rfl⟩
theorem d_M_sheet_52 : cd_D_iload b_M_sheet 52 1 53 := Or.inr ⟨1, ⟨by decide +kernel, rfl⟩, rfl⟩
theorem d_M_sheet_53 : cd_D_iload b_M_sheet 53 2 54 := Or.inr ⟨2, ⟨by decide +kernel, rfl⟩, rfl⟩
theorem d_M_sheet_54 : cd_D_if_ge b_M_sheet 54 61 57 := ⟨7, by decide +kernel, by decide, rfl⟩
theorem d_M_sheet_57 : cd_Dk b_M_sheet 57 (nI 0) 58 := Or.inl ⟨0, ⟨by decide +kernel, rfl⟩, by decide +kernel⟩
theorem d_M_sheet_58 : cd_D_goto b_M_sheet 58 62 := ⟨4, by decide +kernel, by decide⟩
theorem d_M_sheet_61 : cd_D_iload b_M_sheet 61 3 62 := Or.inr ⟨3, ⟨by decide +kernel, rfl⟩, rfl⟩
theorem d_M_sheet_62 : cd_D 1 b_M_sheet 62 .iastore 63 := ⟨by decide +kernel, rfl⟩
theorem d_M_sheet_63 : cd_Dk b_M_sheet 63 (nI 0) 64 := Or.inl ⟨0, ⟨by decide +kernel, rfl⟩, by decide +kernel⟩
theorem d_M_sheet_64 : cd_D_istore b_M_sheet 64 4 66 := Or.inl ⟨by decide +kernel, rfl⟩
theorem d_M_sheet_66 : cd_D_iload b_M_sheet 66 4 68 := Or.inl ⟨by decide +kernel, rfl⟩
theorem d_M_sheet_68 : cd_Dk b_M_sheet 68 (nI 24) 70 := Or.inr (Or.inl ⟨24, ⟨by decide +kernel, rfl⟩, by decide +kernel⟩)
theorem d_M_sheet_70 : cd_D_icmp_ge b_M_sheet 70 92 73 := ⟨22, by decide +kernel, by decide, rfl⟩
theorem d_M_sheet_73 : cd_D_aload b_M_sheet 73 0 74 := Or.inr ⟨0, ⟨by decide +kernel, rfl⟩, rfl⟩
theorem d_M_sheet_74 : cd_D 3 b_M_sheet 74 (.getfield 54) 77 := ⟨by decide +kernel, rfl⟩
theorem d_M_sheet_77 : cd_Dk b_M_sheet 77 (nI 24) 79 := Or.inr (Or.inl ⟨24, ⟨by decide +kernel, rfl⟩, by decide +kernel⟩)
theorem d_M_sheet_79 : cd_D_iload b_M_sheet 79 1 80 := Or.inr ⟨1, ⟨by decide +kernel, rfl⟩, rfl⟩
theorem d_M_sheet_80 : cd_D 1 b_M_sheet 80 .imul 81 := ⟨by decide +kernel, rfl⟩
theorem d_M_sheet_81 : cd_D_iload b_M_sheet 81 4 83 := Or.inl ⟨by decide +kernel, rfl⟩
theorem d_M_sheet_83 : cd_D 1 b_M_sheet 83 .iadd 84 := ⟨by decide +kernel, rfl⟩
theorem d_M_sheet_84 : cd_Dk b_M_sheet 84 (nI 0) 85 := Or.inl ⟨0, ⟨by decide +kernel, rfl⟩, by decide +kernel⟩
theorem d_M_sheet_85 : cd_D 1 b_M_sheet 85 .iastore 86 := ⟨by decide +kernel, rfl⟩
theorem d_M_sheet_86 : cd_D 3 b_M_sheet 86 (.iinc 4 (1)) 89 := ⟨by decide +kernel, rfl⟩
theorem d_M_sheet_89 : cd_D_goto b_M_sheet 89 66 := ⟨-23, by decide +kernel, by decide⟩
theorem d_M_sheet_92 : cd_D_aload b_M_sheet 92 0 93 := Or.inr ⟨0, ⟨by decide +kernel, rfl⟩, rfl⟩
theorem d_M_sheet_93 : cd_D 3 b_M_sheet 93 (.getfield 51) 96 := ⟨by decide +kernel, rfl⟩
theorem d_M_sheet_96 : cd_D_iload b_M_sheet 96 1 97 := Or.inr ⟨1, ⟨by decide +kernel, rfl⟩, rfl⟩
theorem d_M_sheet_97 : cd_D 1 b_M_sheet 97 .iaload 98 := ⟨by decide +kernel, rfl⟩
theorem d_M_sheet_98 : cd_D 1 b_M_sheet 98 .ireturn 99 := ⟨by decide +kernel, rfl⟩
theorem c_M_sheet {l : Launch} {w : cd_WT} {S : cd_Sp} {I : cd_Mem} {m : Nat} (hM : cd_MO w S m) (s so n : Int32) : cd_C l w m_M_sheet 2 0 0 [.ref m, .int s, .int so, .int n] S I (cd_Fi S (sp_sheet I m s so n).1 (sp_sheet I m s so n).2) := by
  refine cd_intro (by decide) (by simp [Value.category]) (Nat.le_of_ble_eq_true rfl) ?_
  intro X hO hE
  show cd_J w X 0 0 S I 0 [some (.ref m), some (.int s), some (.int so), some (.int n), none] []
  have loop : ∀ (z : Nat) (hz : z < 4) (y : Int32) (x3 : Int32) (hp : sp_sheet I m s so n = (y, cd_sdo I m z so y)) (r k : Nat), k + r = 24 → cd_J w X 0 0 S (cd_set (cd_set (cd_set I (m + 13) (upd (I (m + 13)) z so)) (m + 14) (upd (I (m + 14)) z y)) (m + 15) (cd_rg (I (m + 15)) (24 * z) k (fun _ => nI 0))) 66 [some (.ref m), some (.int (nI z)), some (.int so), some (.int x3), some (.int (nI k))] [] := by
    intro z hz y x3 hp r
    induction r with
    | zero =>
      intro k hk
      have hk4 : k = 24 := by omega
      subst hk4
      refine r_iload hO d_M_sheet_66 rfl ?_
      refine r_k hO d_M_sheet_68 ?_
      refine r_icmp_ge hO d_M_sheet_70 (fun c_70 => ?_) (fun c_70 => ?_)
      · refine r_aload hO d_M_sheet_92 rfl ?_
        refine r_getR hO f_M_51 rfl hM.2.1 (mo_r14 hM) d_M_sheet_93 ?_
        try simp (disch := omega) only [cd_set_eq, cd_set_ne, cd_set_set]
        refine r_iload hO d_M_sheet_96 rfl ?_
        refine r_iald hO (mo_s14 hM) (by omega) (by decide) d_M_sheet_97 ?_
        try simp (disch := omega) only [cd_set_eq, cd_set_ne, cd_set_set]
        refine r_iret hO hE (Nat.zero_le _) (Nat.zero_le _) d_M_sheet_98 ?_
        exact ⟨by rw [hp]; simp [upd], rfl, by rw [hp]; rfl⟩
      · exact absurd (nI_le (Nat.le_refl _) (by omega)) c_70
    | succ r ih =>
      intro k hk
      refine r_iload hO d_M_sheet_66 rfl ?_
      refine r_k hO d_M_sheet_68 ?_
      refine r_icmp_ge hO d_M_sheet_70 (fun c_70 => ?_) (fun c_70 => ?_)
      · exact absurd c_70 (nI_ge (by omega) (by omega))
      · refine r_aload hO d_M_sheet_73 rfl ?_
        refine r_getR hO f_M_54 rfl hM.2.1 (mo_r15 hM) d_M_sheet_74 ?_
        try simp (disch := omega) only [cd_set_eq, cd_set_ne, cd_set_set]
        refine r_k hO d_M_sheet_77 ?_
        refine r_iload hO d_M_sheet_79 rfl ?_
        refine r_imulN hO d_M_sheet_80 ?_
        refine r_iload hO d_M_sheet_81 rfl ?_
        refine r_iaddN hO d_M_sheet_83 ?_
        refine r_k hO d_M_sheet_84 ?_
        refine r_iast hO (mo_s15 hM) (mo_l15 hM) (by omega) (by decide) d_M_sheet_85 ?_
        try simp (disch := omega) only [cd_set_eq, cd_set_ne, cd_set_set]
        rw [cd_rg_s]
        refine r_incN4 hO d_M_sheet_86 rfl ?_
        refine r_goto hO d_M_sheet_89 ?_
        exact ih (k + 1) (by omega)
  refine r_iload hO d_M_sheet_0 rfl ?_
  refine r_cS1fi hO hE (c_M_isSheet _) mf_M_isSheet lk_M_183 (by decide) rfl (Nat.le_of_ble_eq_true rfl) d_M_sheet_1 (Nat.zero_le _) (Nat.zero_le _) ?_
  try simp (disch := omega) only [cd_set_eq, cd_set_ne, cd_set_set]
  refine r_if_eqB hO d_M_sheet_4 (fun c_4 => ?_) (fun c_4 => ?_)
  · refine r_ldc hO k_M_87 d_M_sheet_26 ?_
    refine r_iret hO hE (Nat.zero_le _) (Nat.zero_le _) d_M_sheet_28 ?_
    exact cd_clm (by unfold sp_sheet; rw [if_neg c_4])
  · obtain ⟨z, hz1, hz2, rfl⟩ := cd_in_ex c_4 (by decide) (by decide)
    refine r_iload hO d_M_sheet_7 rfl ?_
    refine r_k hO d_M_sheet_8 ?_
    refine r_k hO d_M_sheet_9 ?_
    refine r_cS3fi hO hE (c_M_in _ _ _) mf_M_in lk_M_75 (by decide) rfl (Nat.le_of_ble_eq_true rfl) d_M_sheet_10 (Nat.zero_le _) (Nat.zero_le _) ?_
    try simp (disch := omega) only [cd_set_eq, cd_set_ne, cd_set_set]
    refine r_if_eqB hO d_M_sheet_13 (fun c_13 => ?_) (fun c_13 => ?_)
    · refine r_ldc hO k_M_87 d_M_sheet_26 ?_
      refine r_iret hO hE (Nat.zero_le _) (Nat.zero_le _) d_M_sheet_28 ?_
      exact cd_clm (by unfold sp_sheet; rw [if_pos c_4, if_neg c_13])
    · refine r_iload hO d_M_sheet_16 rfl ?_
      refine r_if_lt hO d_M_sheet_17 (fun c_17 => ?_) (fun c_17 => ?_)
      · refine r_iload hO d_M_sheet_29 rfl ?_
        refine r_if_lt hO d_M_sheet_30 (fun c_30 => ?_) (fun c_30 => ?_)
        · refine r_aload hO d_M_sheet_41 rfl ?_
          refine r_getR hO f_M_48 rfl hM.2.1 (mo_r13 hM) d_M_sheet_42 ?_
          try simp (disch := omega) only [cd_set_eq, cd_set_ne, cd_set_set]
          refine r_iload hO d_M_sheet_45 rfl ?_
          refine r_iload hO d_M_sheet_46 rfl ?_
          refine r_iast hO (mo_s13 hM) (mo_l13 hM) (by omega) (by decide) d_M_sheet_47 ?_
          try simp (disch := omega) only [cd_set_eq, cd_set_ne, cd_set_set]
          refine r_aload hO d_M_sheet_48 rfl ?_
          refine r_getR hO f_M_51 rfl hM.2.1 (mo_r14 hM) d_M_sheet_49 ?_
          try simp (disch := omega) only [cd_set_eq, cd_set_ne, cd_set_set]
          refine r_iload hO d_M_sheet_52 rfl ?_
          refine r_iload hO d_M_sheet_53 rfl ?_
          refine r_if_ge hO d_M_sheet_54 (fun c_54 => ?_) (fun c_54 => ?_)
          · exact absurd c_54 (cd_nle0 c_17)
          · refine r_k hO d_M_sheet_57 ?_
            refine r_goto hO d_M_sheet_58 ?_
            refine r_iast hO (mo_s14 hM) (mo_l14 hM) (by omega) (by decide) d_M_sheet_62 ?_
            try simp (disch := omega) only [cd_set_eq, cd_set_ne, cd_set_set]
            refine r_k hO d_M_sheet_63 ?_
            refine r_sI4 hO d_M_sheet_64 rfl ?_
            refine r_mem (show _ = (cd_set (cd_set (cd_set I (m + 13) (upd (I (m + 13)) z so)) (m + 14) (upd (I (m + 14)) z (nI 0))) (m + 15) (cd_rg (I (m + 15)) (24 * z) 0 (fun _ => nI 0))) by rw [cd_rg_0]; exact (cd_set_self_at _ _ (by simp (disch := omega) only [cd_set_ne])).symm) ?_
            exact loop z (by omega) (nI 0) _ (by unfold sp_sheet; rw [if_pos c_4, if_pos c_13, if_pos c_17, cd_tn_nI (by omega)]) 24 0 (by decide)
        · exact absurd c_17 c_30
      · refine r_iload hO d_M_sheet_20 rfl ?_
        refine r_k hO d_M_sheet_21 ?_
        refine r_icmp_le hO d_M_sheet_23 (fun c_23 => ?_) (fun c_23 => ?_)
        · refine r_iload hO d_M_sheet_29 rfl ?_
          refine r_if_lt hO d_M_sheet_30 (fun c_30 => ?_) (fun c_30 => ?_)
          · exact absurd c_30 c_17
          · refine r_iload hO d_M_sheet_33 rfl ?_
            refine r_if_ge hO d_M_sheet_34 (fun c_34 => ?_) (fun c_34 => ?_)
            · refine r_aload hO d_M_sheet_41 rfl ?_
              refine r_getR hO f_M_48 rfl hM.2.1 (mo_r13 hM) d_M_sheet_42 ?_
              try simp (disch := omega) only [cd_set_eq, cd_set_ne, cd_set_set]
              refine r_iload hO d_M_sheet_45 rfl ?_
              refine r_iload hO d_M_sheet_46 rfl ?_
              refine r_iast hO (mo_s13 hM) (mo_l13 hM) (by omega) (by decide) d_M_sheet_47 ?_
              try simp (disch := omega) only [cd_set_eq, cd_set_ne, cd_set_set]
              refine r_aload hO d_M_sheet_48 rfl ?_
              refine r_getR hO f_M_51 rfl hM.2.1 (mo_r14 hM) d_M_sheet_49 ?_
              try simp (disch := omega) only [cd_set_eq, cd_set_ne, cd_set_set]
              refine r_iload hO d_M_sheet_52 rfl ?_
              refine r_iload hO d_M_sheet_53 rfl ?_
              refine r_if_ge hO d_M_sheet_54 (fun c_54 => ?_) (fun c_54 => ?_)
              · refine r_iload hO d_M_sheet_61 rfl ?_
                refine r_iast hO (mo_s14 hM) (mo_l14 hM) (by omega) (by decide) d_M_sheet_62 ?_
                try simp (disch := omega) only [cd_set_eq, cd_set_ne, cd_set_set]
                refine r_k hO d_M_sheet_63 ?_
                refine r_sI4 hO d_M_sheet_64 rfl ?_
                refine r_mem (show _ = (cd_set (cd_set (cd_set I (m + 13) (upd (I (m + 13)) z so)) (m + 14) (upd (I (m + 14)) z n)) (m + 15) (cd_rg (I (m + 15)) (24 * z) 0 (fun _ => nI 0))) by rw [cd_rg_0]; exact (cd_set_self_at _ _ (by simp (disch := omega) only [cd_set_ne])).symm) ?_
                exact loop z (by omega) n _ (by unfold sp_sheet; rw [if_pos c_4, if_pos c_13, if_neg c_17, if_pos c_23, if_pos c_34, cd_tn_nI (by omega)]) 24 0 (by decide)
              · exact absurd (cd_le0x c_17) c_54
            · refine r_ldcw hO k_M_259 d_M_sheet_37 ?_
              refine r_iret hO hE (Nat.zero_le _) (Nat.zero_le _) d_M_sheet_40 ?_
              exact cd_clm (by unfold sp_sheet; rw [if_pos c_4, if_pos c_13, if_neg c_17, if_pos c_23, if_neg c_34])
        · refine r_ldc hO k_M_87 d_M_sheet_26 ?_
          refine r_iret hO hE (Nat.zero_le _) (Nat.zero_le _) d_M_sheet_28 ?_
          exact cd_clm (by unfold sp_sheet; rw [if_pos c_4, if_pos c_13, if_neg c_17, if_neg c_23])
theorem cd_isP_ex {x y : Int32} {n : Nat} (h1 : y = nI n) (hm : n ≤ 24) (h : nI 0 ≤ x ∧ x ≤ y - nI 1) : ∃ i, i < n ∧ x = nI i := by
  obtain ⟨h2, h3⟩ := h
  rw [h1] at h3
  by_cases h0 : n = 0
  · subst h0
    exfalso
    rw [Int32.le_iff_toInt_le] at h2 h3
    have e1 : (nI 0).toInt = 0 := rfl
    have e2 : (nI 0 - nI 1).toInt = -1 := rfl
    omega
  · rw [pk_sub (by omega)] at h3
    obtain ⟨q, -, h4, rfl⟩ := cd_in_ex ⟨h2, h3⟩ (by decide) (by omega)
    exact ⟨q, by omega, rfl⟩
theorem d_M_mark_0 : cd_D_iload b_M_mark 0 1 1 := Or.inr ⟨1, ⟨by decide +kernel, rfl⟩, rfl⟩
theorem d_M_mark_1 : cd_D 3 b_M_mark 1 (.invokestatic 183) 4 := ⟨by decide +kernel, rfl⟩
theorem d_M_mark_4 : cd_D_if_ne b_M_mark 4 10 7 := ⟨6, by decide +kernel, by decide, rfl⟩
theorem d_M_mark_7 : cd_D 2 b_M_mark 7 (.ldc 87) 9 := ⟨by decide +kernel, rfl⟩
theorem d_M_mark_9 : cd_D 1 b_M_mark 9 .ireturn 10 := ⟨by decide +kernel, rfl⟩
theorem d_M_mark_10 : cd_D_aload b_M_mark 10 0 11 := Or.inr ⟨0, ⟨by decide +kernel, rfl⟩, rfl⟩
theorem d_M_mark_11 : cd_D 3 b_M_mark 11 (.getfield 48) 14 := ⟨by decide +kernel, rfl⟩
theorem d_M_mark_14 : cd_D_iload b_M_mark 14 1 15 := Or.inr ⟨1, ⟨by decide +kernel, rfl⟩, rfl⟩
theorem d_M_mark_15 : cd_D 1 b_M_mark 15 .iaload 16 := ⟨by decide +kernel, rfl⟩
theorem d_M_mark_16 : cd_D_if_ge b_M_mark 16 22 19 := ⟨6, by decide +kernel, by decide, rfl⟩
theorem d_M_mark_19 : cd_D 2 b_M_mark 19 (.ldc 186) 21 := ⟨by decide +kernel, rfl⟩
theorem d_M_mark_21 : cd_D 1 b_M_mark 21 .ireturn 22 := ⟨by decide +kernel, rfl⟩
theorem d_M_mark_22 : cd_D_iload b_M_mark 22 2 23 := Or.inr ⟨2, ⟨by decide +kernel, rfl⟩, rfl⟩
theorem d_M_mark_23 : cd_Dk b_M_mark 23 (nI 0) 24 := Or.inl ⟨0, ⟨by decide +kernel, rfl⟩, by decide +kernel⟩
theorem d_M_mark_24 : cd_D_aload b_M_mark 24 0 25 := Or.inr ⟨0, ⟨by decide +kernel, rfl⟩, rfl⟩
theorem d_M_mark_25 : cd_D 3 b_M_mark 25 (.getfield 51) 28 := ⟨by decide +kernel, rfl⟩
theorem d_M_mark_28 : cd_D_iload b_M_mark 28 1 29 := Or.inr ⟨1, ⟨by decide +kernel, rfl⟩, rfl⟩
theorem d_M_mark_29 : cd_D 1 b_M_mark 29 .iaload 30 := ⟨by decide +kernel, rfl⟩
theorem d_M_mark_30 : cd_Dk b_M_mark 30 (nI 1) 31 := Or.inl ⟨1, ⟨by decide +kernel, rfl⟩, by decide +kernel⟩
theorem d_M_mark_31 : cd_D 1 b_M_mark 31 .isub 32 := ⟨by decide +kernel, rfl⟩
theorem d_M_mark_32 : cd_D 3 b_M_mark 32 (.invokestatic 75) 35 := ⟨by decide +kernel, rfl⟩
theorem d_M_mark_35 : cd_D_if_ne b_M_mark 35 42 38 := ⟨7, by decide +kernel, by decide, rfl⟩
theorem d_M_mark_38 : cd_D 3 b_M_mark 38 (.ldc_w 260) 41 := ⟨by decide +kernel, rfl⟩
theorem d_M_mark_41 : cd_D 1 b_M_mark 41 .ireturn 42 := ⟨by decide +kernel, rfl⟩
theorem d_M_mark_42 : cd_D_aload b_M_mark 42 0 43 := Or.inr ⟨0, ⟨by decide +kernel, rfl⟩, rfl⟩
theorem d_M_mark_43 : cd_D 3 b_M_mark 43 (.getfield 48) 46 := ⟨by decide +kernel, rfl⟩
theorem d_M_mark_46 : cd_D_iload b_M_mark 46 1 47 := Or.inr ⟨1, ⟨by decide +kernel, rfl⟩, rfl⟩
theorem d_M_mark_47 : cd_D 1 b_M_mark 47 .iaload 48 := ⟨by decide +kernel, rfl⟩
theorem d_M_mark_48 : cd_D_if_ne b_M_mark 48 60 51 := ⟨12, by decide +kernel, by decide, rfl⟩
theorem d_M_mark_51 : cd_D_iload b_M_mark 51 3 52 := Or.inr ⟨3, ⟨by decide +kernel, rfl⟩, rfl⟩
theorem d_M_mark_52 : cd_D 2 b_M_mark 52 (.ldc 176) 54 := ⟨by decide +kernel, rfl⟩
theorem d_M_mark_54 : cd_D_icmp_ne b_M_mark 54 60 57 := ⟨6, by decide +kernel, by decide, rfl⟩
theorem d_M_mark_57 : cd_D 2 b_M_mark 57 (.ldc 133) 59 := ⟨by decide +kernel, rfl⟩
theorem d_M_mark_59 : cd_D 1 b_M_mark 59 .ireturn 60 := ⟨by decide +kernel, rfl⟩
theorem d_M_mark_60 : cd_D_aload b_M_mark 60 0 61 := Or.inr ⟨0, ⟨by decide +kernel, rfl⟩, rfl⟩
theorem d_M_mark_61 : cd_D 3 b_M_mark 61 (.getfield 48) 64 := ⟨by decide +kernel, rfl⟩
theorem d_M_mark_64 : cd_D_iload b_M_mark 64 1 65 := Or.inr ⟨1, ⟨by decide +kernel, rfl⟩, rfl⟩
theorem d_M_mark_65 : cd_D 1 b_M_mark 65 .iaload 66 := ⟨by decide +kernel, rfl⟩
theorem d_M_mark_66 : cd_Dk b_M_mark 66 (nI 1) 67 := Or.inl ⟨1, ⟨by decide +kernel, rfl⟩, by decide +kernel⟩
theorem d_M_mark_67 : cd_D_icmp_ne b_M_mark 67 92 70 := ⟨25, by decide +kernel, by decide, rfl⟩
theorem d_M_mark_70 : cd_D_iload b_M_mark 70 3 71 := Or.inr ⟨3, ⟨by decide +kernel, rfl⟩, rfl⟩
theorem d_M_mark_71 : cd_D 2 b_M_mark 71 (.ldc 176) 73 := ⟨by decide +kernel, rfl⟩
theorem d_M_mark_73 : cd_D_icmp_eq b_M_mark 73 92 76 := ⟨19, by decide +kernel, by decide, rfl⟩
theorem d_M_mark_76 : cd_D_iload b_M_mark 76 3 77 := Or.inr ⟨3, ⟨by decide +kernel, rfl⟩, rfl⟩
theorem d_M_mark_77 : cd_D 3 b_M_mark 77 (.ldc_w 261) 80 := ⟨by decide +kernel, rfl⟩
theorem d_M_mark_80 : cd_D 3 b_M_mark 80 (.ldc_w 262) 83 := ⟨by decide +kernel, rfl⟩
theorem d_M_mark_83 : cd_D 3 b_M_mark 83 (.invokestatic 75) 86 := ⟨by decide +kernel, rfl⟩
theorem d_M_mark_86 : cd_D_if_ne b_M_mark 86 92 89 := ⟨6, by decide +kernel, by decide, rfl⟩
theorem d_M_mark_89 : cd_D 2 b_M_mark 89 (.ldc 87) 91 := ⟨by decide +kernel, rfl⟩
theorem d_M_mark_91 : cd_D 1 b_M_mark 91 .ireturn 92 := ⟨by decide +kernel, rfl⟩
theorem d_M_mark_92 : cd_D_aload b_M_mark 92 0 93 := Or.inr ⟨0, ⟨by decide +kernel, rfl⟩, rfl⟩
theorem d_M_mark_93 : cd_D 3 b_M_mark 93 (.getfield 54) 96 := ⟨by decide +kernel, rfl⟩
theorem d_M_mark_96 : cd_Dk b_M_mark 96 (nI 24) 98 := Or.inr (Or.inl ⟨24, ⟨by decide +kernel, rfl⟩, by decide +kernel⟩)
theorem d_M_mark_98 : cd_D_iload b_M_mark 98 1 99 := Or.inr ⟨1, ⟨by decide +kernel, rfl⟩, rfl⟩
theorem d_M_mark_99 : cd_D 1 b_M_mark 99 .imul 100 := ⟨by decide +kernel, rfl⟩
theorem d_M_mark_100 : cd_D_iload b_M_mark 100 2 101 := Or.inr ⟨2, ⟨by decide +kernel, rfl⟩, rfl⟩
theorem d_M_mark_101 : cd_D 1 b_M_mark 101 .iadd 102 := ⟨by decide +kernel, rfl⟩
theorem d_M_mark_102 : cd_D_aload b_M_mark 102 0 103 := Or.inr ⟨0, ⟨by decide +kernel, rfl⟩, rfl⟩
theorem d_M_mark_103 : cd_D 3 b_M_mark 103 (.getfield 48) 106 := ⟨by decide +kernel, rfl⟩
theorem d_M_mark_106 : cd_D_iload b_M_mark 106 1 107 := Or.inr ⟨1, ⟨by decide +kernel, rfl⟩, rfl⟩
theorem d_M_mark_107 : cd_D 1 b_M_mark 107 .iaload 108 := ⟨by decide +kernel, rfl⟩
theorem d_M_mark_108 : cd_D_if_ne b_M_mark 108 116 111 := ⟨8, by decide +kernel, by decide, rfl⟩
theorem d_M_mark_111 : cd_D_iload b_M_mark 111 3 112 := Or.inr ⟨3, ⟨by decide +kernel, rfl⟩, rfl⟩
theorem d_M_mark_112 : cd_D 1 b_M_mark 112 .i2s 113 := ⟨by decide +kernel, rfl⟩
theorem d_M_mark_113 : cd_D_goto b_M_mark 113 117 := ⟨4, by decide +kernel, by decide⟩
theorem d_M_mark_116 : cd_D_iload b_M_mark 116 3 117 := Or.inr ⟨3, ⟨by decide +kernel, rfl⟩, rfl⟩
theorem d_M_mark_117 : cd_D 1 b_M_mark 117 .iastore 118 := ⟨by decide +kernel, rfl⟩
theorem d_M_mark_118 : cd_Dk b_M_mark 118 (nI 1) 119 := Or.inl ⟨1, ⟨by decide +kernel, rfl⟩, by decide +kernel⟩
theorem d_M_mark_119 : cd_D 1 b_M_mark 119 .ireturn 120 := ⟨by decide +kernel, rfl⟩
theorem c_M_mark {l : Launch} {w : cd_WT} {S : cd_Sp} {I : cd_Mem} {m : Nat} (hM : cd_MO w S m) (hVS : cd_VS (I (m + 13)) (I (m + 14))) (s p v : Int32) : cd_C l w m_M_mark 2 0 0 [.ref m, .int s, .int p, .int v] S I (cd_Fi S (sp_mark I m s p v).1 (sp_mark I m s p v).2) := by
  refine cd_intro (by decide) (by simp [Value.category]) (Nat.le_of_ble_eq_true rfl) ?_
  intro X hO hE
  show cd_J w X 0 0 S I 0 [some (.ref m), some (.int s), some (.int p), some (.int v)] []
  have rest : ∀ (z p' : Nat) (hz : z < 4) (hp4 : p' < 24) (hp : sp_mark I m s p v = cd_mst I m z p' v), cd_J w X 0 0 S I 92 [some (.ref m), some (.int (nI z)), some (.int (nI p')), some (.int v)] [] := by
    intro z p' hz hp4 hp
    refine r_aload hO d_M_mark_92 rfl ?_
    refine r_getR hO f_M_54 rfl hM.2.1 (mo_r15 hM) d_M_mark_93 ?_
    refine r_k hO d_M_mark_96 ?_
    refine r_iload hO d_M_mark_98 rfl ?_
    refine r_imulN hO d_M_mark_99 ?_
    refine r_iload hO d_M_mark_100 rfl ?_
    refine r_iaddN hO d_M_mark_101 ?_
    refine r_aload hO d_M_mark_102 rfl ?_
    refine r_getR hO f_M_48 rfl hM.2.1 (mo_r13 hM) d_M_mark_103 ?_
    refine r_iload hO d_M_mark_106 rfl ?_
    refine r_iald hO (mo_s13 hM) (by omega) (by decide) d_M_mark_107 ?_
    refine r_if_ne hO d_M_mark_108 (fun c_108 => ?_) (fun c_108 => ?_)
    · refine r_iload hO d_M_mark_116 rfl ?_
      refine r_iast hO (mo_s15 hM) (mo_l15 hM) (by omega) (by decide) d_M_mark_117 ?_
      refine r_k hO d_M_mark_118 ?_
      refine r_iret hO hE (Nat.zero_le _) (Nat.zero_le _) d_M_mark_119 ?_
      exact ⟨by rw [hp]; rfl, rfl, by rw [hp]; unfold cd_mst; rw [if_neg c_108]⟩
    · refine r_iload hO d_M_mark_111 rfl ?_
      refine r_i2s hO d_M_mark_112 ?_
      refine r_goto hO d_M_mark_113 ?_
      refine r_iast hO (mo_s15 hM) (mo_l15 hM) (by omega) (by decide) d_M_mark_117 ?_
      refine r_k hO d_M_mark_118 ?_
      refine r_iret hO hE (Nat.zero_le _) (Nat.zero_le _) d_M_mark_119 ?_
      exact ⟨by rw [hp]; rfl, rfl, by rw [hp]; unfold cd_mst; rw [if_pos c_108]⟩
  refine r_iload hO d_M_mark_0 rfl ?_
  refine r_cS1fi hO hE (c_M_isSheet _) mf_M_isSheet lk_M_183 (by decide) rfl (Nat.le_of_ble_eq_true rfl) d_M_mark_1 (Nat.zero_le _) (Nat.zero_le _) ?_
  refine r_if_neB hO d_M_mark_4 (fun c_4 => ?_) (fun c_4 => ?_)
  · obtain ⟨z, hz1, hz2, rfl⟩ := cd_in_ex c_4 (by decide) (by decide)
    obtain ⟨y, hy, hyz, hso⟩ := hVS z (by omega)
    refine r_aload hO d_M_mark_10 rfl ?_
    refine r_getR hO f_M_48 rfl hM.2.1 (mo_r13 hM) d_M_mark_11 ?_
    refine r_iload hO d_M_mark_14 rfl ?_
    refine r_iald hO (mo_s13 hM) (by omega) (by decide) d_M_mark_15 ?_
    refine r_if_ge hO d_M_mark_16 (fun c_16 => ?_) (fun c_16 => ?_)
    · refine r_iload hO d_M_mark_22 rfl ?_
      refine r_k hO d_M_mark_23 ?_
      refine r_aload hO d_M_mark_24 rfl ?_
      refine r_getR hO f_M_51 rfl hM.2.1 (mo_r14 hM) d_M_mark_25 ?_
      refine r_iload hO d_M_mark_28 rfl ?_
      refine r_iald hO (mo_s14 hM) (by omega) (by decide) d_M_mark_29 ?_
      refine r_k hO d_M_mark_30 ?_
      refine r_isub hO d_M_mark_31 ?_
      refine r_cS3fi hO hE (c_M_in _ _ _) mf_M_in lk_M_75 (by decide) rfl (Nat.le_of_ble_eq_true rfl) d_M_mark_32 (Nat.zero_le _) (Nat.zero_le _) ?_
      refine r_if_neB hO d_M_mark_35 (fun c_35 => ?_) (fun c_35 => ?_)
      · obtain ⟨p9, hp9, rfl⟩ := cd_isP_ex hyz hy c_35
        refine r_aload hO d_M_mark_42 rfl ?_
        refine r_getR hO f_M_48 rfl hM.2.1 (mo_r13 hM) d_M_mark_43 ?_
        refine r_iload hO d_M_mark_46 rfl ?_
        refine r_iald hO (mo_s13 hM) (by omega) (by decide) d_M_mark_47 ?_
        refine r_if_ne hO d_M_mark_48 (fun c_48 => ?_) (fun c_48 => ?_)
        · refine r_aload hO d_M_mark_60 rfl ?_
          refine r_getR hO f_M_48 rfl hM.2.1 (mo_r13 hM) d_M_mark_61 ?_
          refine r_iload hO d_M_mark_64 rfl ?_
          refine r_iald hO (mo_s13 hM) (by omega) (by decide) d_M_mark_65 ?_
          refine r_k hO d_M_mark_66 ?_
          refine r_icmp_ne hO d_M_mark_67 (fun c_67 => ?_) (fun c_67 => ?_)
          · exact rest z p9 (by omega) (by omega) (by unfold sp_mark; rw [if_pos c_4, cd_tn_nI (by omega), if_pos c_16, if_pos c_35, cd_tn_nI (by omega), if_neg c_48]; unfold cd_m60; rw [if_neg c_67])
          · refine r_iload hO d_M_mark_70 rfl ?_
            refine r_ldc hO k_M_176 d_M_mark_71 ?_
            refine r_icmp_eq hO d_M_mark_73 (fun c_73 => ?_) (fun c_73 => ?_)
            · exact rest z p9 (by omega) (by omega) (by unfold sp_mark; rw [if_pos c_4, cd_tn_nI (by omega), if_pos c_16, if_pos c_35, cd_tn_nI (by omega), if_neg c_48]; unfold cd_m60; rw [if_pos c_67, if_pos c_73])
            · refine r_iload hO d_M_mark_76 rfl ?_
              refine r_ldcw hO k_M_261 d_M_mark_77 ?_
              refine r_ldcw hO k_M_262 d_M_mark_80 ?_
              refine r_cS3fi hO hE (c_M_in _ _ _) mf_M_in lk_M_75 (by decide) rfl (Nat.le_of_ble_eq_true rfl) d_M_mark_83 (Nat.zero_le _) (Nat.zero_le _) ?_
              refine r_if_neB hO d_M_mark_86 (fun c_86 => ?_) (fun c_86 => ?_)
              · exact rest z p9 (by omega) (by omega) (by unfold sp_mark; rw [if_pos c_4, cd_tn_nI (by omega), if_pos c_16, if_pos c_35, cd_tn_nI (by omega), if_neg c_48]; unfold cd_m60; rw [if_pos c_67, if_neg c_73, if_pos c_86])
              · refine r_ldc hO k_M_87 d_M_mark_89 ?_
                refine r_iret hO hE (Nat.zero_le _) (Nat.zero_le _) d_M_mark_91 ?_
                exact cd_clm (by unfold sp_mark; rw [if_pos c_4, cd_tn_nI (by omega), if_pos c_16, if_pos c_35, cd_tn_nI (by omega), if_neg c_48]; unfold cd_m60; rw [if_pos c_67, if_neg c_73, if_neg c_86])
        · refine r_iload hO d_M_mark_51 rfl ?_
          refine r_ldc hO k_M_176 d_M_mark_52 ?_
          refine r_icmp_ne hO d_M_mark_54 (fun c_54 => ?_) (fun c_54 => ?_)
          · refine r_aload hO d_M_mark_60 rfl ?_
            refine r_getR hO f_M_48 rfl hM.2.1 (mo_r13 hM) d_M_mark_61 ?_
            refine r_iload hO d_M_mark_64 rfl ?_
            refine r_iald hO (mo_s13 hM) (by omega) (by decide) d_M_mark_65 ?_
            refine r_k hO d_M_mark_66 ?_
            refine r_icmp_ne hO d_M_mark_67 (fun c_67 => ?_) (fun c_67 => ?_)
            · exact rest z p9 (by omega) (by omega) (by unfold sp_mark; rw [if_pos c_4, cd_tn_nI (by omega), if_pos c_16, if_pos c_35, cd_tn_nI (by omega), if_pos c_48, if_neg c_54]; unfold cd_m60; rw [if_neg c_67])
            · refine r_iload hO d_M_mark_70 rfl ?_
              refine r_ldc hO k_M_176 d_M_mark_71 ?_
              refine r_icmp_eq hO d_M_mark_73 (fun c_73 => ?_) (fun c_73 => ?_)
              · exact rest z p9 (by omega) (by omega) (by unfold sp_mark; rw [if_pos c_4, cd_tn_nI (by omega), if_pos c_16, if_pos c_35, cd_tn_nI (by omega), if_pos c_48, if_neg c_54]; unfold cd_m60; rw [if_pos c_67, if_pos c_73])
              · refine r_iload hO d_M_mark_76 rfl ?_
                refine r_ldcw hO k_M_261 d_M_mark_77 ?_
                refine r_ldcw hO k_M_262 d_M_mark_80 ?_
                refine r_cS3fi hO hE (c_M_in _ _ _) mf_M_in lk_M_75 (by decide) rfl (Nat.le_of_ble_eq_true rfl) d_M_mark_83 (Nat.zero_le _) (Nat.zero_le _) ?_
                refine r_if_neB hO d_M_mark_86 (fun c_86 => ?_) (fun c_86 => ?_)
                · exact rest z p9 (by omega) (by omega) (by unfold sp_mark; rw [if_pos c_4, cd_tn_nI (by omega), if_pos c_16, if_pos c_35, cd_tn_nI (by omega), if_pos c_48, if_neg c_54]; unfold cd_m60; rw [if_pos c_67, if_neg c_73, if_pos c_86])
                · refine r_ldc hO k_M_87 d_M_mark_89 ?_
                  refine r_iret hO hE (Nat.zero_le _) (Nat.zero_le _) d_M_mark_91 ?_
                  exact cd_clm (by unfold sp_mark; rw [if_pos c_4, cd_tn_nI (by omega), if_pos c_16, if_pos c_35, cd_tn_nI (by omega), if_pos c_48, if_neg c_54]; unfold cd_m60; rw [if_pos c_67, if_neg c_73, if_neg c_86])
          · refine r_ldc hO k_M_133 d_M_mark_57 ?_
            refine r_iret hO hE (Nat.zero_le _) (Nat.zero_le _) d_M_mark_59 ?_
            exact cd_clm (by unfold sp_mark; rw [if_pos c_4, cd_tn_nI (by omega), if_pos c_16, if_pos c_35, cd_tn_nI (by omega), if_pos c_48, if_pos c_54])
      · refine r_ldcw hO k_M_260 d_M_mark_38 ?_
        refine r_iret hO hE (Nat.zero_le _) (Nat.zero_le _) d_M_mark_41 ?_
        exact cd_clm (by unfold sp_mark; rw [if_pos c_4, cd_tn_nI (by omega), if_pos c_16, if_neg c_35])
    · refine r_ldc hO k_M_186 d_M_mark_19 ?_
      refine r_iret hO hE (Nat.zero_le _) (Nat.zero_le _) d_M_mark_21 ?_
      exact cd_clm (by unfold sp_mark; rw [if_pos c_4, cd_tn_nI (by omega), if_neg c_16])
  · refine r_ldc hO k_M_87 d_M_mark_7 ?_
    refine r_iret hO hE (Nat.zero_le _) (Nat.zero_le _) d_M_mark_9 ?_
    exact cd_clm (by unfold sp_mark; rw [if_neg c_4])
theorem d_M_pour_0 : cd_D_iload b_M_pour 0 1 1 := Or.inr ⟨1, ⟨by decide +kernel, rfl⟩, rfl⟩
theorem d_M_pour_1 : cd_D 3 b_M_pour 1 (.invokestatic 183) 4 := ⟨by decide +kernel, rfl⟩
theorem d_M_pour_4 : cd_D_if_ne b_M_pour 4 10 7 := ⟨6, by decide +kernel, by decide, rfl⟩
theorem d_M_pour_7 : cd_D 2 b_M_pour 7 (.ldc 87) 9 := ⟨by decide +kernel, rfl⟩
theorem d_M_pour_9 : cd_D 1 b_M_pour 9 .ireturn 10 := ⟨by decide +kernel, rfl⟩
theorem d_M_pour_10 : cd_D_aload b_M_pour 10 0 11 := Or.inr ⟨0, ⟨by decide +kernel, rfl⟩, rfl⟩
theorem d_M_pour_11 : cd_D 3 b_M_pour 11 (.getfield 48) 14 := ⟨by decide +kernel, rfl⟩
theorem d_M_pour_14 : cd_D_iload b_M_pour 14 1 15 := Or.inr ⟨1, ⟨by decide +kernel, rfl⟩, rfl⟩
theorem d_M_pour_15 : cd_D 1 b_M_pour 15 .iaload 16 := ⟨by decide +kernel, rfl⟩
theorem d_M_pour_16 : cd_D_if_ge b_M_pour 16 22 19 := ⟨6, by decide +kernel, by decide, rfl⟩
theorem d_M_pour_19 : cd_D 2 b_M_pour 19 (.ldc 186) 21 := ⟨by decide +kernel, rfl⟩
theorem d_M_pour_21 : cd_D 1 b_M_pour 21 .ireturn 22 := ⟨by decide +kernel, rfl⟩
theorem d_M_pour_22 : cd_Dk b_M_pour 22 (nI 0) 23 := Or.inl ⟨0, ⟨by decide +kernel, rfl⟩, by decide +kernel⟩
theorem d_M_pour_23 : cd_D_istore b_M_pour 23 2 24 := Or.inr ⟨2, ⟨by decide +kernel, rfl⟩, rfl⟩
theorem d_M_pour_24 : cd_Dk b_M_pour 24 (nI 0) 25 := Or.inl ⟨0, ⟨by decide +kernel, rfl⟩, by decide +kernel⟩
theorem d_M_pour_25 : cd_D_istore b_M_pour 25 3 26 := Or.inr ⟨3, ⟨by decide +kernel, rfl⟩, rfl⟩
theorem d_M_pour_26 : cd_D_iload b_M_pour 26 3 27 := Or.inr ⟨3, ⟨by decide +kernel, rfl⟩, rfl⟩
theorem d_M_pour_27 : cd_D_aload b_M_pour 27 0 28 := Or.inr ⟨0, ⟨by decide +kernel, rfl⟩, rfl⟩
theorem d_M_pour_28 : cd_D 3 b_M_pour 28 (.getfield 51) 31 := ⟨by decide +kernel, rfl⟩
theorem d_M_pour_31 : cd_D_iload b_M_pour 31 1 32 := Or.inr ⟨1, ⟨by decide +kernel, rfl⟩, rfl⟩
theorem d_M_pour_32 : cd_D 1 b_M_pour 32 .iaload 33 := ⟨by decide +kernel, rfl⟩
theorem d_M_pour_33 : cd_D_icmp_ge b_M_pour 33 118 36 := ⟨85, by decide +kernel, by decide, rfl⟩
theorem d_M_pour_36 : cd_D_iload b_M_pour 36 3 37 := Or.inr ⟨3, ⟨by decide +kernel, rfl⟩, rfl⟩
theorem d_M_pour_37 : cd_D_aload b_M_pour 37 0 38 := Or.inr ⟨0, ⟨by decide +kernel, rfl⟩, rfl⟩
theorem d_M_pour_38 : cd_D 3 b_M_pour 38 (.getfield 9) 41 := ⟨by decide +kernel, rfl⟩
theorem d_M_pour_41 : cd_Dk b_M_pour 41 (nI 1) 42 := Or.inl ⟨1, ⟨by decide +kernel, rfl⟩, by decide +kernel⟩
theorem d_M_pour_42 : cd_D 1 b_M_pour 42 .iaload 43 := ⟨by decide +kernel, rfl⟩
theorem d_M_pour_43 : cd_D_icmp_ge b_M_pour 43 118 46 := ⟨75, by decide +kernel, by decide, rfl⟩
theorem d_M_pour_46 : cd_D_aload b_M_pour 46 0 47 := Or.inr ⟨0, ⟨by decide +kernel, rfl⟩, rfl⟩
theorem d_M_pour_47 : cd_D 3 b_M_pour 47 (.getfield 54) 50 := ⟨by decide +kernel, rfl⟩
theorem d_M_pour_50 : cd_Dk b_M_pour 50 (nI 24) 52 := Or.inr (Or.inl ⟨24, ⟨by decide +kernel, rfl⟩, by decide +kernel⟩)
theorem d_M_pour_52 : cd_D_iload b_M_pour 52 1 53 := Or.inr ⟨1, ⟨by decide +kernel, rfl⟩, rfl⟩
theorem d_M_pour_53 : cd_D 1 b_M_pour 53 .imul 54 := ⟨by decide +kernel, rfl⟩
theorem d_M_pour_54 : cd_D_iload b_M_pour 54 3 55 := Or.inr ⟨3, ⟨by decide +kernel, rfl⟩, rfl⟩
theorem d_M_pour_55 : cd_D 1 b_M_pour 55 .iadd 56 := ⟨by decide +kernel, rfl⟩
theorem d_M_pour_56 : cd_D 1 b_M_pour 56 .iaload 57 := ⟨by decide +kernel, rfl⟩
theorem d_M_pour_57 : cd_D_istore b_M_pour 57 4 59 := Or.inl ⟨by decide +kernel, rfl⟩
theorem d_M_pour_59 : cd_D_iload b_M_pour 59 4 61 := Or.inl ⟨by decide +kernel, rfl⟩
theorem d_M_pour_61 : cd_D 2 b_M_pour 61 (.ldc 176) 63 := ⟨by decide +kernel, rfl⟩
theorem d_M_pour_63 : cd_D_icmp_ne b_M_pour 63 75 66 := ⟨12, by decide +kernel, by decide, rfl⟩
theorem d_M_pour_66 : cd_D_aload b_M_pour 66 0 67 := Or.inr ⟨0, ⟨by decide +kernel, rfl⟩, rfl⟩
theorem d_M_pour_67 : cd_D_iload b_M_pour 67 3 68 := Or.inr ⟨3, ⟨by decide +kernel, rfl⟩, rfl⟩
theorem d_M_pour_68 : cd_Dk b_M_pour 68 (nI 2) 69 := Or.inl ⟨2, ⟨by decide +kernel, rfl⟩, by decide +kernel⟩
theorem d_M_pour_69 : cd_D 3 b_M_pour 69 (.invokevirtual 97) 72 := ⟨by decide +kernel, rfl⟩
theorem d_M_pour_72 : cd_D_goto b_M_pour 72 83 := ⟨11, by decide +kernel, by decide⟩
theorem d_M_pour_75 : cd_D_iload b_M_pour 75 4 77 := Or.inl ⟨by decide +kernel, rfl⟩
theorem d_M_pour_77 : cd_Dk b_M_pour 77 (nI 0) 78 := Or.inl ⟨0, ⟨by decide +kernel, rfl⟩, by decide +kernel⟩
theorem d_M_pour_78 : cd_Dk b_M_pour 78 (nI 99) 80 := Or.inr (Or.inl ⟨99, ⟨by decide +kernel, rfl⟩, by decide +kernel⟩)
theorem d_M_pour_80 : cd_D 3 b_M_pour 80 (.invokestatic 104) 83 := ⟨by decide +kernel, rfl⟩
theorem d_M_pour_83 : cd_D_istore b_M_pour 83 5 85 := Or.inl ⟨by decide +kernel, rfl⟩
theorem d_M_pour_85 : cd_D_iload b_M_pour 85 2 86 := Or.inr ⟨2, ⟨by decide +kernel, rfl⟩, rfl⟩
theorem d_M_pour_86 : cd_D_aload b_M_pour 86 0 87 := Or.inr ⟨0, ⟨by decide +kernel, rfl⟩, rfl⟩
theorem d_M_pour_87 : cd_Dk b_M_pour 87 (nI 16) 89 := Or.inr (Or.inl ⟨16, ⟨by decide +kernel, rfl⟩, by decide +kernel⟩)
theorem d_M_pour_89 : cd_Dk b_M_pour 89 (nI 5) 90 := Or.inl ⟨5, ⟨by decide +kernel, rfl⟩, by decide +kernel⟩
theorem d_M_pour_90 : cd_D_iload b_M_pour 90 3 91 := Or.inr ⟨3, ⟨by decide +kernel, rfl⟩, rfl⟩
theorem d_M_pour_91 : cd_D 1 b_M_pour 91 .imul 92 := ⟨by decide +kernel, rfl⟩
theorem d_M_pour_92 : cd_D 1 b_M_pour 92 .iadd 93 := ⟨by decide +kernel, rfl⟩
theorem d_M_pour_93 : cd_Dk b_M_pour 93 (nI 2) 94 := Or.inl ⟨2, ⟨by decide +kernel, rfl⟩, by decide +kernel⟩
theorem d_M_pour_94 : cd_D 1 b_M_pour 94 .iadd 95 := ⟨by decide +kernel, rfl⟩
theorem d_M_pour_95 : cd_D_iload b_M_pour 95 5 97 := Or.inl ⟨by decide +kernel, rfl⟩
theorem d_M_pour_97 : cd_D 3 b_M_pour 97 (.invokevirtual 134) 100 := ⟨by decide +kernel, rfl⟩
theorem d_M_pour_100 : cd_D_iload b_M_pour 100 5 102 := Or.inl ⟨by decide +kernel, rfl⟩
theorem d_M_pour_102 : cd_D_icmp_ne b_M_pour 102 109 105 := ⟨7, by decide +kernel, by decide, rfl⟩
theorem d_M_pour_105 : cd_Dk b_M_pour 105 (nI 0) 106 := Or.inl ⟨0, ⟨by decide +kernel, rfl⟩, by decide +kernel⟩
theorem d_M_pour_106 : cd_D_goto b_M_pour 106 110 := ⟨4, by decide +kernel, by decide⟩
theorem d_M_pour_109 : cd_Dk b_M_pour 109 (nI 1) 110 := Or.inl ⟨1, ⟨by decide +kernel, rfl⟩, by decide +kernel⟩
theorem d_M_pour_110 : cd_D 1 b_M_pour 110 .iadd 111 := ⟨by decide +kernel, rfl⟩
theorem d_M_pour_111 : cd_D_istore b_M_pour 111 2 112 := Or.inr ⟨2, ⟨by decide +kernel, rfl⟩, rfl⟩
theorem d_M_pour_112 : cd_D 3 b_M_pour 112 (.iinc 3 (1)) 115 := ⟨by decide +kernel, rfl⟩
theorem d_M_pour_115 : cd_D_goto b_M_pour 115 26 := ⟨-89, by decide +kernel, by decide⟩
theorem d_M_pour_118 : cd_D_iload b_M_pour 118 2 119 := Or.inr ⟨2, ⟨by decide +kernel, rfl⟩, rfl⟩
theorem d_M_pour_119 : cd_D 1 b_M_pour 119 .ireturn 120 := ⟨by decide +kernel, rfl⟩
theorem c_M_pour {l : Launch} {w : cd_WT} {S : cd_Sp} {I : cd_Mem} {m : Nat} (hM : cd_MO w S m) (mm tc : Nat) (hV : cd_V (I (m + 1)) mm tc) (hVS : cd_VS (I (m + 13)) (I (m + 14))) (s : Int32) : cd_C l w m_M_pour 2 0 0 [.ref m, .int s] S I (cd_Fi S (sp_pour (I (m + 1)) (I (m + 13)) (I (m + 14)) (I (m + 15)) mm s).1 (cd_set I (m + 1) (sp_pour (I (m + 1)) (I (m + 13)) (I (m + 14)) (I (m + 15)) mm s).2)) := by
  refine cd_intro (by decide) (by simp [Value.category]) (Nat.le_of_ble_eq_true rfl) ?_
  intro X hO hE
  show cd_J w X 0 0 S I 0 [some (.ref m), some (.int s), none, none, none, none] []
  have hmm := hV.2.1
  have loop : ∀ (z y : Nat) (hz : z < 4) (hy : y ≤ 24) (hyz : I (m + 14) z = nI y) (hp : sp_pour (I (m + 1)) (I (m + 13)) (I (m + 14)) (I (m + 15)) mm s = cd_po (I (m + 1)) (I (m + 15)) z (min y mm)) (r k : Nat) (N2 : Nat → Int32) (x2 : Int32) (x4 x5 : Option Value), cd_nl x4 = true → cd_po (I (m + 1)) (I (m + 15)) z k = (x2, N2) → N2 1 = nI mm → k + r = min y mm → cd_J w X 0 0 S (cd_set I (m + 1) N2) 26 [some (.ref m), some (.int (nI z)), some (.int x2), some (.int (nI k)), x4, x5] [] := by
    intro z y hz hy hyz hp r
    induction r with
    | zero =>
      intro k N2 x2 x4 x5 hx4 hpo hN2 hk
      have hkm : k = min y mm := by omega
      refine r_iload hO d_M_pour_26 rfl ?_
      refine r_aload hO d_M_pour_27 rfl ?_
      refine r_getR hO f_M_51 rfl hM.2.1 (mo_r14 hM) d_M_pour_28 ?_
      try simp (disch := omega) only [cd_set_eq, cd_set_ne, cd_set_set]
      refine r_iload hO d_M_pour_31 rfl ?_
      refine r_iald hO (mo_s14 hM) (by omega) (by decide) d_M_pour_32 ?_
      try simp (disch := omega) only [cd_set_eq, cd_set_ne, cd_set_set]
      refine r_tops hyz ?_
      refine r_icmp_ge hO d_M_pour_33 (fun c_33 => ?_) (fun c_33 => ?_)
      · refine r_iload hO d_M_pour_118 rfl ?_
        refine r_iret hO hE (Nat.zero_le _) (Nat.zero_le _) d_M_pour_119 ?_
        exact ⟨by rw [hp, ← hkm, hpo], rfl, by rw [hp, ← hkm, hpo]⟩
      · have hky : k < y := Nat.lt_of_not_le (fun q => c_33 (nI_le q (by omega)))
        refine r_iload hO d_M_pour_36 rfl ?_
        refine r_aload hO d_M_pour_37 rfl ?_
        refine r_getR hO f_M_9 rfl hM.2.1 (mo_r1 hM) d_M_pour_38 ?_
        try simp (disch := omega) only [cd_set_eq, cd_set_ne, cd_set_set]
        refine r_k hO d_M_pour_41 ?_
        refine r_iald hO (mo_s1 hM) (by omega) (by decide) d_M_pour_42 ?_
        try simp (disch := omega) only [cd_set_eq, cd_set_ne, cd_set_set]
        refine r_tops hN2 ?_
        refine r_icmp_ge hO d_M_pour_43 (fun c_43 => ?_) (fun c_43 => ?_)
        · refine r_iload hO d_M_pour_118 rfl ?_
          refine r_iret hO hE (Nat.zero_le _) (Nat.zero_le _) d_M_pour_119 ?_
          exact ⟨by rw [hp, ← hkm, hpo], rfl, by rw [hp, ← hkm, hpo]⟩
        · exact absurd (nI_le (show mm ≤ k by omega) (by omega)) c_43
    | succ r ih =>
      intro k N2 x2 x4 x5 hx4 hpo hN2 hk
      refine r_iload hO d_M_pour_26 rfl ?_
      refine r_aload hO d_M_pour_27 rfl ?_
      refine r_getR hO f_M_51 rfl hM.2.1 (mo_r14 hM) d_M_pour_28 ?_
      try simp (disch := omega) only [cd_set_eq, cd_set_ne, cd_set_set]
      refine r_iload hO d_M_pour_31 rfl ?_
      refine r_iald hO (mo_s14 hM) (by omega) (by decide) d_M_pour_32 ?_
      try simp (disch := omega) only [cd_set_eq, cd_set_ne, cd_set_set]
      refine r_tops hyz ?_
      refine r_icmp_ge hO d_M_pour_33 (fun c_33 => ?_) (fun c_33 => ?_)
      · exact absurd c_33 (nI_ge (by omega) (by omega))
      · refine r_iload hO d_M_pour_36 rfl ?_
        refine r_aload hO d_M_pour_37 rfl ?_
        refine r_getR hO f_M_9 rfl hM.2.1 (mo_r1 hM) d_M_pour_38 ?_
        try simp (disch := omega) only [cd_set_eq, cd_set_ne, cd_set_set]
        refine r_k hO d_M_pour_41 ?_
        refine r_iald hO (mo_s1 hM) (by omega) (by decide) d_M_pour_42 ?_
        try simp (disch := omega) only [cd_set_eq, cd_set_ne, cd_set_set]
        refine r_tops hN2 ?_
        refine r_icmp_ge hO d_M_pour_43 (fun c_43 => ?_) (fun c_43 => ?_)
        · exact absurd c_43 (nI_ge (by omega) (by omega))
        · refine r_aload hO d_M_pour_46 rfl ?_
          refine r_getR hO f_M_54 rfl hM.2.1 (mo_r15 hM) d_M_pour_47 ?_
          try simp (disch := omega) only [cd_set_eq, cd_set_ne, cd_set_set]
          refine r_k hO d_M_pour_50 ?_
          refine r_iload hO d_M_pour_52 rfl ?_
          refine r_imulN hO d_M_pour_53 ?_
          refine r_iload hO d_M_pour_54 rfl ?_
          refine r_iaddN hO d_M_pour_55 ?_
          refine r_iald hO (mo_s15 hM) (by omega) (by decide) d_M_pour_56 ?_
          try simp (disch := omega) only [cd_set_eq, cd_set_ne, cd_set_set]
          refine r_sI4 hO d_M_pour_57 rfl ?_
          refine r_iload hO d_M_pour_59 rfl ?_
          refine r_ldc hO k_M_176 d_M_pour_61 ?_
          refine r_jn2 (pcJ := 83) (fun v => v = if I (m + 15) (24 * z + k) = cd_NONE then N2 (16 + 5 * k + 2) else cd_wi (I (m + 15) (24 * z + k)) (nI 0) (nI 99)) (fun v_63 hv_63 => ?_) (fun hj_63 => ?_)
          · refine r_sI5 hO d_M_pour_83 rfl ?_
            refine r_iload hO d_M_pour_85 rfl ?_
            refine r_aload hO d_M_pour_86 rfl ?_
            refine r_k hO d_M_pour_87 ?_
            refine r_k hO d_M_pour_89 ?_
            refine r_iload hO d_M_pour_90 rfl ?_
            refine r_imulN hO d_M_pour_91 ?_
            refine r_iaddN hO d_M_pour_92 ?_
            refine r_k hO d_M_pour_93 ?_
            refine r_iaddN hO d_M_pour_94 ?_
            refine r_iload hO d_M_pour_95 rfl ?_
            refine r_cV2fi hO hE (c_M_becomes hM _ _ (by omega)) mf_M_becomes lk_M_134 hM.2.1 rfl (by decide) rfl (Nat.le_of_ble_eq_true rfl) d_M_pour_97 (Nat.zero_le _) (Nat.zero_le _) ?_
            try simp (disch := omega) only [cd_set_eq, cd_set_ne, cd_set_set]
            refine r_iload hO d_M_pour_100 rfl ?_
            refine r_icmp_ne hO d_M_pour_102 (fun c_102 => ?_) (fun c_102 => ?_)
            · refine r_k hO d_M_pour_109 ?_
              refine r_iadd hO d_M_pour_110 ?_
              refine r_sI2 hO d_M_pour_111 rfl ?_
              refine r_incN3 hO d_M_pour_112 rfl ?_
              refine r_goto hO d_M_pour_115 ?_
              refine ih (k + 1) _ _ _ _ rfl ?_ ?_ (by omega)
              · show (_, _) = _
                rw [hpo]
                dsimp only
                rw [← hv_63, if_neg c_102]
              · simp only [upd]
                rw [if_neg (by omega)]
                exact hN2
            · refine r_k hO d_M_pour_105 ?_
              refine r_goto hO d_M_pour_106 ?_
              refine r_iadd hO d_M_pour_110 ?_
              refine r_sI2 hO d_M_pour_111 rfl ?_
              refine r_incN3 hO d_M_pour_112 rfl ?_
              refine r_goto hO d_M_pour_115 ?_
              refine ih (k + 1) _ _ _ _ rfl ?_ ?_ (by omega)
              · show (_, _) = _
                rw [hpo]
                dsimp only
                rw [← hv_63, if_pos c_102]
              · simp only [upd]
                rw [if_neg (by omega)]
                exact hN2
          · refine r_icmp_ne hO d_M_pour_63 (fun c_63 => ?_) (fun c_63 => ?_)
            · refine r_iload hO d_M_pour_75 rfl ?_
              refine r_k hO d_M_pour_77 ?_
              refine r_k hO d_M_pour_78 ?_
              refine r_cS3fi hO hE (c_M_within _ _ _) mf_M_within lk_M_104 (by decide) rfl (Nat.le_of_ble_eq_true rfl) d_M_pour_80 (Nat.zero_le _) (Nat.zero_le _) ?_
              try simp (disch := omega) only [cd_set_eq, cd_set_ne, cd_set_set]
              exact hj_63 _ (by rw [if_neg c_63])
            · refine r_aload hO d_M_pour_66 rfl ?_
              refine r_iload hO d_M_pour_67 rfl ?_
              refine r_k hO d_M_pour_68 ?_
              refine r_cV2fi hO hE (c_M_of hM _ _ (by omega)) mf_M_of lk_M_97 hM.2.1 rfl (by decide) rfl (Nat.le_of_ble_eq_true rfl) d_M_pour_69 (Nat.zero_le _) (Nat.zero_le _) ?_
              try simp (disch := omega) only [cd_set_eq, cd_set_ne, cd_set_set]
              refine r_goto hO d_M_pour_72 ?_
              exact hj_63 _ (by rw [if_pos c_63])
  refine r_iload hO d_M_pour_0 rfl ?_
  refine r_cS1fi hO hE (c_M_isSheet _) mf_M_isSheet lk_M_183 (by decide) rfl (Nat.le_of_ble_eq_true rfl) d_M_pour_1 (Nat.zero_le _) (Nat.zero_le _) ?_
  refine r_if_neB hO d_M_pour_4 (fun c_4 => ?_) (fun c_4 => ?_)
  · obtain ⟨z, hz1, hz2, rfl⟩ := cd_in_ex c_4 (by decide) (by decide)
    obtain ⟨y, hy, hyz, hso⟩ := hVS z (by omega)
    refine r_aload hO d_M_pour_10 rfl ?_
    refine r_getR hO f_M_48 rfl hM.2.1 (mo_r13 hM) d_M_pour_11 ?_
    refine r_iload hO d_M_pour_14 rfl ?_
    refine r_iald hO (mo_s13 hM) (by omega) (by decide) d_M_pour_15 ?_
    refine r_if_ge hO d_M_pour_16 (fun c_16 => ?_) (fun c_16 => ?_)
    · refine r_k hO d_M_pour_22 ?_
      refine r_sI2 hO d_M_pour_23 rfl ?_
      refine r_k hO d_M_pour_24 ?_
      refine r_sI3 hO d_M_pour_25 rfl ?_
      refine r_mem (show I = cd_set I (m + 1) (I (m + 1)) from (cd_set_self _ _).symm) ?_
      exact loop z y (by omega) hy hyz (by unfold sp_pour; rw [if_pos c_4, cd_tn_nI (by omega), if_pos c_16, hyz, cd_tn_nI (by omega)]) _ 0 _ _ _ _ rfl rfl hV.1 (Nat.zero_add _)
    · refine r_ldc hO k_M_186 d_M_pour_19 ?_
      refine r_iret hO hE (Nat.zero_le _) (Nat.zero_le _) d_M_pour_21 ?_
      exact cd_cl0 (by unfold sp_pour; rw [if_pos c_4, cd_tn_nI (by omega), if_neg c_16])
  · refine r_ldc hO k_M_87 d_M_pour_7 ?_
    refine r_iret hO hE (Nat.zero_le _) (Nat.zero_le _) d_M_pour_9 ?_
    exact cd_cl0 (by unfold sp_pour; rw [if_neg c_4])
theorem d_M_reads_0 : cd_D_iload b_M_reads 0 1 1 := Or.inr ⟨1, ⟨by decide +kernel, rfl⟩, rfl⟩
theorem d_M_reads_1 : cd_D 3 b_M_reads 1 (.invokestatic 183) 4 := ⟨by decide +kernel, rfl⟩
theorem d_M_reads_4 : cd_D_if_ne b_M_reads 4 10 7 := ⟨6, by decide +kernel, by decide, rfl⟩
theorem d_M_reads_7 : cd_D 2 b_M_reads 7 (.ldc 87) 9 := ⟨by decide +kernel, rfl⟩
theorem d_M_reads_9 : cd_D 1 b_M_reads 9 .ireturn 10 := ⟨by decide +kernel, rfl⟩
theorem d_M_reads_10 : cd_D_aload b_M_reads 10 0 11 := Or.inr ⟨0, ⟨by decide +kernel, rfl⟩, rfl⟩
theorem d_M_reads_11 : cd_D 3 b_M_reads 11 (.getfield 48) 14 := ⟨by decide +kernel, rfl⟩
theorem d_M_reads_14 : cd_D_iload b_M_reads 14 1 15 := Or.inr ⟨1, ⟨by decide +kernel, rfl⟩, rfl⟩
theorem d_M_reads_15 : cd_D 1 b_M_reads 15 .iaload 16 := ⟨by decide +kernel, rfl⟩
theorem d_M_reads_16 : cd_D_if_ge b_M_reads 16 22 19 := ⟨6, by decide +kernel, by decide, rfl⟩
theorem d_M_reads_19 : cd_D 2 b_M_reads 19 (.ldc 186) 21 := ⟨by decide +kernel, rfl⟩
theorem d_M_reads_21 : cd_D 1 b_M_reads 21 .ireturn 22 := ⟨by decide +kernel, rfl⟩
theorem d_M_reads_22 : cd_Dk b_M_reads 22 (nI 0) 23 := Or.inl ⟨0, ⟨by decide +kernel, rfl⟩, by decide +kernel⟩
theorem d_M_reads_23 : cd_D_istore b_M_reads 23 2 24 := Or.inr ⟨2, ⟨by decide +kernel, rfl⟩, rfl⟩
theorem d_M_reads_24 : cd_D_iload b_M_reads 24 2 25 := Or.inr ⟨2, ⟨by decide +kernel, rfl⟩, rfl⟩
theorem d_M_reads_25 : cd_D_aload b_M_reads 25 0 26 := Or.inr ⟨0, ⟨by decide +kernel, rfl⟩, rfl⟩
theorem d_M_reads_26 : cd_D 3 b_M_reads 26 (.getfield 51) 29 := ⟨by decide +kernel, rfl⟩
theorem d_M_reads_29 : cd_D_iload b_M_reads 29 1 30 := Or.inr ⟨1, ⟨by decide +kernel, rfl⟩, rfl⟩
theorem d_M_reads_30 : cd_D 1 b_M_reads 30 .iaload 31 := ⟨by decide +kernel, rfl⟩
theorem d_M_reads_31 : cd_D_icmp_ge b_M_reads 31 78 34 := ⟨47, by decide +kernel, by decide, rfl⟩
theorem d_M_reads_34 : cd_D_aload b_M_reads 34 0 35 := Or.inr ⟨0, ⟨by decide +kernel, rfl⟩, rfl⟩
theorem d_M_reads_35 : cd_D 3 b_M_reads 35 (.getfield 54) 38 := ⟨by decide +kernel, rfl⟩
theorem d_M_reads_38 : cd_Dk b_M_reads 38 (nI 24) 40 := Or.inr (Or.inl ⟨24, ⟨by decide +kernel, rfl⟩, by decide +kernel⟩)
theorem d_M_reads_40 : cd_D_iload b_M_reads 40 1 41 := Or.inr ⟨1, ⟨by decide +kernel, rfl⟩, rfl⟩
theorem d_M_reads_41 : cd_D 1 b_M_reads 41 .imul 42 := ⟨by decide +kernel, rfl⟩
theorem d_M_reads_42 : cd_D_iload b_M_reads 42 2 43 := Or.inr ⟨2, ⟨by decide +kernel, rfl⟩, rfl⟩
theorem d_M_reads_43 : cd_D 1 b_M_reads 43 .iadd 44 := ⟨by decide +kernel, rfl⟩
theorem d_M_reads_44 : cd_D 1 b_M_reads 44 .iaload 45 := ⟨by decide +kernel, rfl⟩
theorem d_M_reads_45 : cd_D_istore b_M_reads 45 3 46 := Or.inr ⟨3, ⟨by decide +kernel, rfl⟩, rfl⟩
theorem d_M_reads_46 : cd_D_iload b_M_reads 46 3 47 := Or.inr ⟨3, ⟨by decide +kernel, rfl⟩, rfl⟩
theorem d_M_reads_47 : cd_D 2 b_M_reads 47 (.ldc 176) 49 := ⟨by decide +kernel, rfl⟩
theorem d_M_reads_49 : cd_D_icmp_eq b_M_reads 49 72 52 := ⟨23, by decide +kernel, by decide, rfl⟩
theorem d_M_reads_52 : cd_D_aload b_M_reads 52 0 53 := Or.inr ⟨0, ⟨by decide +kernel, rfl⟩, rfl⟩
theorem d_M_reads_53 : cd_D_iload b_M_reads 53 2 54 := Or.inr ⟨2, ⟨by decide +kernel, rfl⟩, rfl⟩
theorem d_M_reads_54 : cd_D 3 b_M_reads 54 (.invokevirtual 108) 57 := ⟨by decide +kernel, rfl⟩
theorem d_M_reads_57 : cd_D_if_eq b_M_reads 57 70 60 := ⟨13, by decide +kernel, by decide, rfl⟩
theorem d_M_reads_60 : cd_D_iload b_M_reads 60 3 61 := Or.inr ⟨3, ⟨by decide +kernel, rfl⟩, rfl⟩
theorem d_M_reads_61 : cd_D_aload b_M_reads 61 0 62 := Or.inr ⟨0, ⟨by decide +kernel, rfl⟩, rfl⟩
theorem d_M_reads_62 : cd_D_iload b_M_reads 62 2 63 := Or.inr ⟨2, ⟨by decide +kernel, rfl⟩, rfl⟩
theorem d_M_reads_63 : cd_Dk b_M_reads 63 (nI 1) 64 := Or.inl ⟨1, ⟨by decide +kernel, rfl⟩, by decide +kernel⟩
theorem d_M_reads_64 : cd_D 3 b_M_reads 64 (.invokevirtual 97) 67 := ⟨by decide +kernel, rfl⟩
theorem d_M_reads_67 : cd_D_icmp_eq b_M_reads 67 72 70 := ⟨5, by decide +kernel, by decide, rfl⟩
theorem d_M_reads_70 : cd_D_iload b_M_reads 70 2 71 := Or.inr ⟨2, ⟨by decide +kernel, rfl⟩, rfl⟩
theorem d_M_reads_71 : cd_D 1 b_M_reads 71 .ireturn 72 := ⟨by decide +kernel, rfl⟩
theorem d_M_reads_72 : cd_D 3 b_M_reads 72 (.iinc 2 (1)) 75 := ⟨by decide +kernel, rfl⟩
theorem d_M_reads_75 : cd_D_goto b_M_reads 75 24 := ⟨-51, by decide +kernel, by decide⟩
theorem d_M_reads_78 : cd_D 2 b_M_reads 78 (.ldc 176) 80 := ⟨by decide +kernel, rfl⟩
theorem d_M_reads_80 : cd_D 1 b_M_reads 80 .ireturn 81 := ⟨by decide +kernel, rfl⟩
theorem c_M_reads {l : Launch} {w : cd_WT} {S : cd_Sp} {I : cd_Mem} {m : Nat} (hM : cd_MO w S m) (mm tc : Nat) (hV : cd_V (I (m + 1)) mm tc) (hVS : cd_VS (I (m + 13)) (I (m + 14))) (s : Int32) : cd_C l w m_M_reads 2 0 0 [.ref m, .int s] S I (cd_Fi S (sp_reads (I (m + 1)) (I (m + 13)) (I (m + 14)) (I (m + 15)) s) I) := by
  refine cd_intro (by decide) (by simp [Value.category]) (Nat.le_of_ble_eq_true rfl) ?_
  intro X hO hE
  show cd_J w X 0 0 S I 0 [some (.ref m), some (.int s), none, none] []
  have hmm := hV.2.1
  have loop : ∀ (z y : Nat) (hz : z < 4) (hy : y ≤ 24) (hyz : I (m + 14) z = nI y) (r k : Nat) (x3 : Option Value), cd_rd (I (m + 1)) (I (m + 15)) z r k = sp_reads (I (m + 1)) (I (m + 13)) (I (m + 14)) (I (m + 15)) s → k + r = y → cd_J w X 0 0 S I 24 [some (.ref m), some (.int (nI z)), some (.int (nI k)), x3] [] := by
    intro z y hz hy hyz r
    induction r with
    | zero =>
      intro k x3 hp hk
      refine r_iload hO d_M_reads_24 rfl ?_
      refine r_aload hO d_M_reads_25 rfl ?_
      refine r_getR hO f_M_51 rfl hM.2.1 (mo_r14 hM) d_M_reads_26 ?_
      refine r_iload hO d_M_reads_29 rfl ?_
      refine r_iald hO (mo_s14 hM) (by omega) (by decide) d_M_reads_30 ?_
      refine r_tops hyz ?_
      refine r_icmp_ge hO d_M_reads_31 (fun c_31 => ?_) (fun c_31 => ?_)
      · refine r_ldc hO k_M_176 d_M_reads_78 ?_
        refine r_iret hO hE (Nat.zero_le _) (Nat.zero_le _) d_M_reads_80 ?_
        exact ⟨by rw [← hp]; rfl, rfl, rfl⟩
      · exact absurd (nI_le (show y ≤ k by omega) (by omega)) c_31
    | succ r ih =>
      intro k x3 hp hk
      refine r_iload hO d_M_reads_24 rfl ?_
      refine r_aload hO d_M_reads_25 rfl ?_
      refine r_getR hO f_M_51 rfl hM.2.1 (mo_r14 hM) d_M_reads_26 ?_
      refine r_iload hO d_M_reads_29 rfl ?_
      refine r_iald hO (mo_s14 hM) (by omega) (by decide) d_M_reads_30 ?_
      refine r_tops hyz ?_
      refine r_icmp_ge hO d_M_reads_31 (fun c_31 => ?_) (fun c_31 => ?_)
      · exact absurd c_31 (nI_ge (by omega) (by omega))
      · refine r_aload hO d_M_reads_34 rfl ?_
        refine r_getR hO f_M_54 rfl hM.2.1 (mo_r15 hM) d_M_reads_35 ?_
        refine r_k hO d_M_reads_38 ?_
        refine r_iload hO d_M_reads_40 rfl ?_
        refine r_imulN hO d_M_reads_41 ?_
        refine r_iload hO d_M_reads_42 rfl ?_
        refine r_iaddN hO d_M_reads_43 ?_
        refine r_iald hO (mo_s15 hM) (by omega) (by decide) d_M_reads_44 ?_
        refine r_sI3 hO d_M_reads_45 rfl ?_
        refine r_iload hO d_M_reads_46 rfl ?_
        refine r_ldc hO k_M_176 d_M_reads_47 ?_
        refine r_icmp_eq hO d_M_reads_49 (fun c_49 => ?_) (fun c_49 => ?_)
        · refine r_incN2 hO d_M_reads_72 rfl ?_
          refine r_goto hO d_M_reads_75 ?_
          exact ih (k + 1) _ (by rw [← hp]; exact (show cd_rd _ _ z (r + 1) k = _ by show (if _ then _ else _) = _; rw [if_pos c_49]).symm) (by omega)
        · refine r_aload hO d_M_reads_52 rfl ?_
          refine r_iload hO d_M_reads_53 rfl ?_
          refine r_cV1fi hO hE (c_M_isAsking hM _) mf_M_isAsking lk_M_108 hM.2.1 rfl (by decide) rfl (Nat.le_of_ble_eq_true rfl) d_M_reads_54 (Nat.zero_le _) (Nat.zero_le _) ?_
          refine r_if_eqB hO d_M_reads_57 (fun c_57 => ?_) (fun c_57 => ?_)
          · refine r_iload hO d_M_reads_70 rfl ?_
            refine r_iret hO hE (Nat.zero_le _) (Nat.zero_le _) d_M_reads_71 ?_
            exact ⟨by rw [← hp]; unfold cd_rd; rw [if_neg c_49, if_neg c_57], rfl, rfl⟩
          · obtain ⟨i, hi, hie⟩ := cd_isA_ex hV.1 hV.2.1 c_57
            have hki : k = i := (nI_eq (by omega) (by omega)).mp hie
            have hk12 : k < 12 := by omega
            refine r_iload hO d_M_reads_60 rfl ?_
            refine r_aload hO d_M_reads_61 rfl ?_
            refine r_iload hO d_M_reads_62 rfl ?_
            refine r_k hO d_M_reads_63 ?_
            refine r_cV2fi hO hE (c_M_of hM _ _ (by omega)) mf_M_of lk_M_97 hM.2.1 rfl (by decide) rfl (Nat.le_of_ble_eq_true rfl) d_M_reads_64 (Nat.zero_le _) (Nat.zero_le _) ?_
            refine r_icmp_eq hO d_M_reads_67 (fun c_67 => ?_) (fun c_67 => ?_)
            · refine r_incN2 hO d_M_reads_72 rfl ?_
              refine r_goto hO d_M_reads_75 ?_
              exact ih (k + 1) _ (by rw [← hp]; exact (show cd_rd _ _ z (r + 1) k = _ by show (if _ then _ else _) = _; rw [if_neg c_49, if_pos c_57, if_pos c_67]).symm) (by omega)
            · refine r_iload hO d_M_reads_70 rfl ?_
              refine r_iret hO hE (Nat.zero_le _) (Nat.zero_le _) d_M_reads_71 ?_
              exact ⟨by rw [← hp]; unfold cd_rd; rw [if_neg c_49, if_pos c_57, if_neg c_67], rfl, rfl⟩
  refine r_iload hO d_M_reads_0 rfl ?_
  refine r_cS1fi hO hE (c_M_isSheet _) mf_M_isSheet lk_M_183 (by decide) rfl (Nat.le_of_ble_eq_true rfl) d_M_reads_1 (Nat.zero_le _) (Nat.zero_le _) ?_
  refine r_if_neB hO d_M_reads_4 (fun c_4 => ?_) (fun c_4 => ?_)
  · obtain ⟨z, hz1, hz2, rfl⟩ := cd_in_ex c_4 (by decide) (by decide)
    obtain ⟨y, hy, hyz, hso⟩ := hVS z (by omega)
    refine r_aload hO d_M_reads_10 rfl ?_
    refine r_getR hO f_M_48 rfl hM.2.1 (mo_r13 hM) d_M_reads_11 ?_
    refine r_iload hO d_M_reads_14 rfl ?_
    refine r_iald hO (mo_s13 hM) (by omega) (by decide) d_M_reads_15 ?_
    refine r_if_ge hO d_M_reads_16 (fun c_16 => ?_) (fun c_16 => ?_)
    · refine r_k hO d_M_reads_22 ?_
      refine r_sI2 hO d_M_reads_23 rfl ?_
      exact loop z y (by omega) hy hyz y 0 _ (by unfold sp_reads; rw [if_pos c_4, cd_tn_nI (by omega), if_pos c_16, hyz, cd_tn_nI (by omega)]) (Nat.zero_add _)
    · refine r_ldc hO k_M_186 d_M_reads_19 ?_
      refine r_iret hO hE (Nat.zero_le _) (Nat.zero_le _) d_M_reads_21 ?_
      exact ⟨by unfold sp_reads; rw [if_pos c_4, cd_tn_nI (by omega), if_neg c_16], rfl, rfl⟩
  · refine r_ldc hO k_M_87 d_M_reads_7 ?_
    refine r_iret hO hE (Nat.zero_le _) (Nat.zero_le _) d_M_reads_9 ?_
    exact ⟨by unfold sp_reads; rw [if_neg c_4], rfl, rfl⟩
end
section
theorem cd_copy_ok {y n p : Nat} (hy : y ≤ 24) (hn : n < 2 ^ 31) (hp : p < 2 ^ 31) (h : ¬ nI y - nI n < nI p) : p + n ≤ y := by
  rw [Int32.lt_iff_toInt_lt, Int32.toInt_sub, nI_toInt (show y < 2 ^ 31 by omega), nI_toInt hn, nI_toInt hp] at h
  unfold Int.bmod at h
  dsimp only at h
  split at h <;> omega
theorem cd_copy_ok2 {y n p : Nat} (hy : y ≤ 24) (hn : n < 2 ^ 31) (hp : p < 2 ^ 31) (h : nI p ≤ nI y - nI n) : p + n ≤ y := cd_copy_ok hy hn hp (fun q => by
  rw [Int32.lt_iff_toInt_lt] at q
  rw [Int32.le_iff_toInt_le] at h
  omega)
theorem cd_rg_s0 (r : Nat → Int32) (k : Nat) (f : Nat → Int32) : upd (cd_rg r 0 k f) k (f k) = cd_rg r 0 (k + 1) f := by
  have := cd_rg_s r 0 k f
  rwa [Nat.zero_add] at this
def sp_copy (so sz ce : Nat → Int32) (f p t a n : Int32) : Int32 × (Nat → Int32) := if nI 0 ≤ f ∧ f ≤ nI 3 then (if nI 0 ≤ t ∧ t ≤ nI 3 then (if so (cd_tn f) < 0 then (cd_NOTHING, ce) else if 0 ≤ so (cd_tn t) then (if so (cd_tn f) = so (cd_tn t) then (if p < 0 then (cd_INDEX, ce) else if a < 0 then (cd_INDEX, ce) else if n < 0 then (cd_INDEX, ce) else if sz (cd_tn f) - n < p then (cd_INDEX, ce) else if a ≤ sz (cd_tn t) - n then (n, cd_rg ce (24 * cd_tn t + cd_tn a) (cd_tn n) (fun i => ce (24 * cd_tn f + cd_tn p + i))) else (cd_INDEX, ce)) else (cd_KIND, ce)) else (cd_NOTHING, ce)) else (cd_BAD, ce)) else (cd_BAD, ce)
theorem d_M_copy_0 : cd_D_iload b_M_copy 0 1 1 := Or.inr ⟨1, ⟨by decide +kernel, rfl⟩, rfl⟩
theorem d_M_copy_1 : cd_D 3 b_M_copy 1 (.invokestatic 183) 4 := ⟨by decide +kernel, rfl⟩
theorem d_M_copy_4 : cd_D_if_eq b_M_copy 4 14 7 := ⟨10, by decide +kernel, by decide, rfl⟩
theorem d_M_copy_7 : cd_D_iload b_M_copy 7 3 8 := Or.inr ⟨3, ⟨by decide +kernel, rfl⟩, rfl⟩
theorem d_M_copy_8 : cd_D 3 b_M_copy 8 (.invokestatic 183) 11 := ⟨by decide +kernel, rfl⟩
theorem d_M_copy_11 : cd_D_if_ne b_M_copy 11 17 14 := ⟨6, by decide +kernel, by decide, rfl⟩
theorem d_M_copy_14 : cd_D 2 b_M_copy 14 (.ldc 87) 16 := ⟨by decide +kernel, rfl⟩
theorem d_M_copy_16 : cd_D 1 b_M_copy 16 .ireturn 17 := ⟨by decide +kernel, rfl⟩
theorem d_M_copy_17 : cd_D_aload b_M_copy 17 0 18 := Or.inr ⟨0, ⟨by decide +kernel, rfl⟩, rfl⟩
theorem d_M_copy_18 : cd_D 3 b_M_copy 18 (.getfield 48) 21 := ⟨by decide +kernel, rfl⟩
theorem d_M_copy_21 : cd_D_iload b_M_copy 21 1 22 := Or.inr ⟨1, ⟨by decide +kernel, rfl⟩, rfl⟩
theorem d_M_copy_22 : cd_D 1 b_M_copy 22 .iaload 23 := ⟨by decide +kernel, rfl⟩
theorem d_M_copy_23 : cd_D_if_lt b_M_copy 23 35 26 := ⟨12, by decide +kernel, by decide, rfl⟩
theorem d_M_copy_26 : cd_D_aload b_M_copy 26 0 27 := Or.inr ⟨0, ⟨by decide +kernel, rfl⟩, rfl⟩
theorem d_M_copy_27 : cd_D 3 b_M_copy 27 (.getfield 48) 30 := ⟨by decide +kernel, rfl⟩
theorem d_M_copy_30 : cd_D_iload b_M_copy 30 3 31 := Or.inr ⟨3, ⟨by decide +kernel, rfl⟩, rfl⟩
theorem d_M_copy_31 : cd_D 1 b_M_copy 31 .iaload 32 := ⟨by decide +kernel, rfl⟩
theorem d_M_copy_32 : cd_D_if_ge b_M_copy 32 38 35 := ⟨6, by decide +kernel, by decide, rfl⟩
theorem d_M_copy_35 : cd_D 2 b_M_copy 35 (.ldc 186) 37 := ⟨by decide +kernel, rfl⟩
theorem d_M_copy_37 : cd_D 1 b_M_copy 37 .ireturn 38 := ⟨by decide +kernel, rfl⟩
theorem d_M_copy_38 : cd_D_aload b_M_copy 38 0 39 := Or.inr ⟨0, ⟨by decide +kernel, rfl⟩, rfl⟩
theorem d_M_copy_39 : cd_D 3 b_M_copy 39 (.getfield 48) 42 := ⟨by decide +kernel, rfl⟩
theorem d_M_copy_42 : cd_D_iload b_M_copy 42 1 43 := Or.inr ⟨1, ⟨by decide +kernel, rfl⟩, rfl⟩
theorem d_M_copy_43 : cd_D 1 b_M_copy 43 .iaload 44 := ⟨by decide +kernel, rfl⟩
theorem d_M_copy_44 : cd_D_aload b_M_copy 44 0 45 := Or.inr ⟨0, ⟨by decide +kernel, rfl⟩, rfl⟩
theorem d_M_copy_45 : cd_D 3 b_M_copy 45 (.getfield 48) 48 := ⟨by decide +kernel, rfl⟩
theorem d_M_copy_48 : cd_D_iload b_M_copy 48 3 49 := Or.inr ⟨3, ⟨by decide +kernel, rfl⟩, rfl⟩
theorem d_M_copy_49 : cd_D 1 b_M_copy 49 .iaload 50 := ⟨by decide +kernel, rfl⟩
theorem d_M_copy_50 : cd_D_icmp_eq b_M_copy 50 56 53 := ⟨6, by decide +kernel, by decide, rfl⟩
theorem d_M_copy_53 : cd_D 2 b_M_copy 53 (.ldc 133) 55 := ⟨by decide +kernel, rfl⟩
theorem d_M_copy_55 : cd_D 1 b_M_copy 55 .ireturn 56 := ⟨by decide +kernel, rfl⟩
theorem d_M_copy_56 : cd_D_iload b_M_copy 56 2 57 := Or.inr ⟨2, ⟨by decide +kernel, rfl⟩, rfl⟩
theorem d_M_copy_57 : cd_D_if_lt b_M_copy 57 97 60 := ⟨40, by decide +kernel, by decide, rfl⟩
theorem d_M_copy_60 : cd_D_iload b_M_copy 60 4 62 := Or.inl ⟨by decide +kernel, rfl⟩
theorem d_M_copy_62 : cd_D_if_lt b_M_copy 62 97 65 := ⟨35, by decide +kernel, by decide, rfl⟩
theorem d_M_copy_65 : cd_D_iload b_M_copy 65 5 67 := Or.inl ⟨by decide +kernel, rfl⟩
theorem d_M_copy_67 : cd_D_if_lt b_M_copy 67 97 70 := ⟨30, by decide +kernel, by decide, rfl⟩
theorem d_M_copy_70 : cd_D_iload b_M_copy 70 2 71 := Or.inr ⟨2, ⟨by decide +kernel, rfl⟩, rfl⟩
theorem d_M_copy_71 : cd_D_aload b_M_copy 71 0 72 := Or.inr ⟨0, ⟨by decide +kernel, rfl⟩, rfl⟩
theorem d_M_copy_72 : cd_D 3 b_M_copy 72 (.getfield 51) 75 := ⟨by decide +kernel, rfl⟩
theorem d_M_copy_75 : cd_D_iload b_M_copy 75 1 76 := Or.inr ⟨1, ⟨by decide +kernel, rfl⟩, rfl⟩
theorem d_M_copy_76 : cd_D 1 b_M_copy 76 .iaload 77 := ⟨by decide +kernel, rfl⟩
theorem d_M_copy_77 : cd_D_iload b_M_copy 77 5 79 := Or.inl ⟨by decide +kernel, rfl⟩
theorem d_M_copy_79 : cd_D 1 b_M_copy 79 .isub 80 := ⟨by decide +kernel, rfl⟩
theorem d_M_copy_80 : cd_D_icmp_gt b_M_copy 80 97 83 := ⟨17, by decide +kernel, by decide, rfl⟩
theorem d_M_copy_83 : cd_D_iload b_M_copy 83 4 85 := Or.inl ⟨by decide +kernel, rfl⟩
theorem d_M_copy_85 : cd_D_aload b_M_copy 85 0 86 := Or.inr ⟨0, ⟨by decide +kernel, rfl⟩, rfl⟩
theorem d_M_copy_86 : cd_D 3 b_M_copy 86 (.getfield 51) 89 := ⟨by decide +kernel, rfl⟩
theorem d_M_copy_89 : cd_D_iload b_M_copy 89 3 90 := Or.inr ⟨3, ⟨by decide +kernel, rfl⟩, rfl⟩
theorem d_M_copy_90 : cd_D 1 b_M_copy 90 .iaload 91 := ⟨by decide +kernel, rfl⟩
theorem d_M_copy_91 : cd_D_iload b_M_copy 91 5 93 := Or.inl ⟨by decide +kernel, rfl⟩
theorem d_M_copy_93 : cd_D 1 b_M_copy 93 .isub 94 := ⟨by decide +kernel, rfl⟩
theorem d_M_copy_94 : cd_D_icmp_le b_M_copy 94 101 97 := ⟨7, by decide +kernel, by decide, rfl⟩
theorem d_M_copy_97 : cd_D 3 b_M_copy 97 (.ldc_w 260) 100 := ⟨by decide +kernel, rfl⟩
theorem d_M_copy_100 : cd_D 1 b_M_copy 100 .ireturn 101 := ⟨by decide +kernel, rfl⟩
theorem d_M_copy_101 : cd_Dk b_M_copy 101 (nI 0) 102 := Or.inl ⟨0, ⟨by decide +kernel, rfl⟩, by decide +kernel⟩
theorem d_M_copy_102 : cd_D_istore b_M_copy 102 6 104 := Or.inl ⟨by decide +kernel, rfl⟩
theorem d_M_copy_104 : cd_D_iload b_M_copy 104 6 106 := Or.inl ⟨by decide +kernel, rfl⟩
theorem d_M_copy_106 : cd_D_iload b_M_copy 106 5 108 := Or.inl ⟨by decide +kernel, rfl⟩
theorem d_M_copy_108 : cd_D_icmp_ge b_M_copy 108 138 111 := ⟨30, by decide +kernel, by decide, rfl⟩
theorem d_M_copy_111 : cd_D_aload b_M_copy 111 0 112 := Or.inr ⟨0, ⟨by decide +kernel, rfl⟩, rfl⟩
theorem d_M_copy_112 : cd_D 3 b_M_copy 112 (.getfield 69) 115 := ⟨by decide +kernel, rfl⟩
theorem d_M_copy_115 : cd_D_iload b_M_copy 115 6 117 := Or.inl ⟨by decide +kernel, rfl⟩
theorem d_M_copy_117 : cd_D_aload b_M_copy 117 0 118 := Or.inr ⟨0, ⟨by decide +kernel, rfl⟩, rfl⟩
theorem d_M_copy_118 : cd_D 3 b_M_copy 118 (.getfield 54) 121 := ⟨by decide +kernel, rfl⟩
theorem d_M_copy_121 : cd_Dk b_M_copy 121 (nI 24) 123 := Or.inr (Or.inl ⟨24, ⟨by decide +kernel, rfl⟩, by decide +kernel⟩)
theorem d_M_copy_123 : cd_D_iload b_M_copy 123 1 124 := Or.inr ⟨1, ⟨by decide +kernel, rfl⟩, rfl⟩
theorem d_M_copy_124 : cd_D 1 b_M_copy 124 .imul 125 := ⟨by decide +kernel, rfl⟩
theorem d_M_copy_125 : cd_D_iload b_M_copy 125 2 126 := Or.inr ⟨2, ⟨by decide +kernel, rfl⟩, rfl⟩
theorem d_M_copy_126 : cd_D 1 b_M_copy 126 .iadd 127 := ⟨by decide +kernel, rfl⟩
theorem d_M_copy_127 : cd_D_iload b_M_copy 127 6 129 := Or.inl ⟨by decide +kernel, rfl⟩
theorem d_M_copy_129 : cd_D 1 b_M_copy 129 .iadd 130 := ⟨by decide +kernel, rfl⟩
theorem d_M_copy_130 : cd_D 1 b_M_copy 130 .iaload 131 := ⟨by decide +kernel, rfl⟩
theorem d_M_copy_131 : cd_D 1 b_M_copy 131 .iastore 132 := ⟨by decide +kernel, rfl⟩
theorem d_M_copy_132 : cd_D 3 b_M_copy 132 (.iinc 6 (1)) 135 := ⟨by decide +kernel, rfl⟩
theorem d_M_copy_135 : cd_D_goto b_M_copy 135 104 := ⟨-31, by decide +kernel, by decide⟩
theorem d_M_copy_138 : cd_Dk b_M_copy 138 (nI 0) 139 := Or.inl ⟨0, ⟨by decide +kernel, rfl⟩, by decide +kernel⟩
theorem d_M_copy_139 : cd_D_istore b_M_copy 139 6 141 := Or.inl ⟨by decide +kernel, rfl⟩
theorem d_M_copy_141 : cd_D_iload b_M_copy 141 6 143 := Or.inl ⟨by decide +kernel, rfl⟩
theorem d_M_copy_143 : cd_D_iload b_M_copy 143 5 145 := Or.inl ⟨by decide +kernel, rfl⟩
theorem d_M_copy_145 : cd_D_icmp_ge b_M_copy 145 176 148 := ⟨31, by decide +kernel, by decide, rfl⟩
theorem d_M_copy_148 : cd_D_aload b_M_copy 148 0 149 := Or.inr ⟨0, ⟨by decide +kernel, rfl⟩, rfl⟩
theorem d_M_copy_149 : cd_D 3 b_M_copy 149 (.getfield 54) 152 := ⟨by decide +kernel, rfl⟩
theorem d_M_copy_152 : cd_Dk b_M_copy 152 (nI 24) 154 := Or.inr (Or.inl ⟨24, ⟨by decide +kernel, rfl⟩, by decide +kernel⟩)
theorem d_M_copy_154 : cd_D_iload b_M_copy 154 3 155 := Or.inr ⟨3, ⟨by decide +kernel, rfl⟩, rfl⟩
theorem d_M_copy_155 : cd_D 1 b_M_copy 155 .imul 156 := ⟨by decide +kernel, rfl⟩
theorem d_M_copy_156 : cd_D_iload b_M_copy 156 4 158 := Or.inl ⟨by decide +kernel, rfl⟩
theorem d_M_copy_158 : cd_D 1 b_M_copy 158 .iadd 159 := ⟨by decide +kernel, rfl⟩
theorem d_M_copy_159 : cd_D_iload b_M_copy 159 6 161 := Or.inl ⟨by decide +kernel, rfl⟩
theorem d_M_copy_161 : cd_D 1 b_M_copy 161 .iadd 162 := ⟨by decide +kernel, rfl⟩
theorem d_M_copy_162 : cd_D_aload b_M_copy 162 0 163 := Or.inr ⟨0, ⟨by decide +kernel, rfl⟩, rfl⟩
theorem d_M_copy_163 : cd_D 3 b_M_copy 163 (.getfield 69) 166 := ⟨by decide +kernel, rfl⟩
theorem d_M_copy_166 : cd_D_iload b_M_copy 166 6 168 := Or.inl ⟨by decide +kernel, rfl⟩
theorem d_M_copy_168 : cd_D 1 b_M_copy 168 .iaload 169 := ⟨by decide +kernel, rfl⟩
theorem d_M_copy_169 : cd_D 1 b_M_copy 169 .iastore 170 := ⟨by decide +kernel, rfl⟩
theorem d_M_copy_170 : cd_D 3 b_M_copy 170 (.iinc 6 (1)) 173 := ⟨by decide +kernel, rfl⟩
theorem d_M_copy_173 : cd_D_goto b_M_copy 173 141 := ⟨-32, by decide +kernel, by decide⟩
theorem d_M_copy_176 : cd_D_iload b_M_copy 176 5 178 := Or.inl ⟨by decide +kernel, rfl⟩
theorem d_M_copy_178 : cd_D 1 b_M_copy 178 .ireturn 179 := ⟨by decide +kernel, rfl⟩
theorem c_M_copy {l : Launch} {w : cd_WT} {S : cd_Sp} {I : cd_Mem} {m : Nat} (hM : cd_MO w S m) (hVS : cd_VS (I (m + 13)) (I (m + 14))) (f p t a n : Int32) : cd_C l w m_M_copy 2 0 0 [.ref m, .int f, .int p, .int t, .int a, .int n] S I (cd_Pi S (fun x I' => x = (sp_copy (I (m + 13)) (I (m + 14)) (I (m + 15)) f p t a n).1 ∧ I' (m + 15) = (sp_copy (I (m + 13)) (I (m + 14)) (I (m + 15)) f p t a n).2 ∧ cd_off I I' [m + 15, m + 20])) := by
  refine cd_intro (by decide) (by simp [Value.category]) (Nat.le_of_ble_eq_true rfl) ?_
  intro X hO hE
  show cd_J w X 0 0 S I 0 [some (.ref m), some (.int f), some (.int p), some (.int t), some (.int a), some (.int n), none] []
  have main : ∀ (z p9 y a9 n9 : Nat) (hz : z < 4) (hy : y < 4) (hpn : p9 + n9 ≤ 24) (han : a9 + n9 ≤ 24) (hp : sp_copy (I (m + 13)) (I (m + 14)) (I (m + 15)) f p t a n = (nI n9, cd_rg (I (m + 15)) (24 * y + a9) n9 (fun i => I (m + 15) (24 * z + p9 + i)))), cd_J w X 0 0 S I 101 [some (.ref m), some (.int (nI z)), some (.int (nI p9)), some (.int (nI y)), some (.int (nI a9)), some (.int (nI n9)), none] [] := by
    intro z p9 y a9 n9 hz hy hpn han hp
    have second : ∀ (r k : Nat), k + r = n9 → cd_J w X 0 0 S (cd_set (cd_set I (m + 20) (cd_rg (I (m + 20)) 0 n9 (fun i => I (m + 15) (24 * z + p9 + i)))) (m + 15) (cd_rg (I (m + 15)) (24 * y + a9) k (fun i => I (m + 15) (24 * z + p9 + i)))) 141 [some (.ref m), some (.int (nI z)), some (.int (nI p9)), some (.int (nI y)), some (.int (nI a9)), some (.int (nI n9)), some (.int (nI k))] [] := by
      intro r
      induction r with
      | zero =>
        intro k hk
        have hkn : k = n9 := by omega
        subst hkn
        refine r_iload hO d_M_copy_141 rfl ?_
        refine r_iload hO d_M_copy_143 rfl ?_
        refine r_icmp_ge hO d_M_copy_145 (fun c_145 => ?_) (fun c_145 => ?_)
        · refine r_iload hO d_M_copy_176 rfl ?_
          refine r_iret hO hE (Nat.zero_le _) (Nat.zero_le _) d_M_copy_178 ?_
          exact ⟨_, rfl, rfl, by rw [hp], by rw [hp, cd_set_eq], (cd_off.set _ _ (by simp)).tr (cd_off.set _ _ (by simp))⟩
        · exact absurd (nI_le (Nat.le_refl _) (by omega)) c_145
      | succ r ih =>
        intro k hk
        refine r_iload hO d_M_copy_141 rfl ?_
        refine r_iload hO d_M_copy_143 rfl ?_
        refine r_icmp_ge hO d_M_copy_145 (fun c_145 => ?_) (fun c_145 => ?_)
        · exact absurd c_145 (nI_ge (by omega) (by omega))
        · refine r_aload hO d_M_copy_148 rfl ?_
          refine r_getR hO f_M_54 rfl hM.2.1 (mo_r15 hM) d_M_copy_149 ?_
          try simp (disch := omega) only [cd_set_eq, cd_set_ne, cd_set_set]
          refine r_k hO d_M_copy_152 ?_
          refine r_iload hO d_M_copy_154 rfl ?_
          refine r_imulN hO d_M_copy_155 ?_
          refine r_iload hO d_M_copy_156 rfl ?_
          refine r_iaddN hO d_M_copy_158 ?_
          refine r_iload hO d_M_copy_159 rfl ?_
          refine r_iaddN hO d_M_copy_161 ?_
          refine r_aload hO d_M_copy_162 rfl ?_
          refine r_getR hO f_M_69 rfl hM.2.1 (mo_r20 hM) d_M_copy_163 ?_
          try simp (disch := omega) only [cd_set_eq, cd_set_ne, cd_set_set]
          refine r_iload hO d_M_copy_166 rfl ?_
          refine r_iald hO (mo_s20 hM) (by omega) (by decide) d_M_copy_168 ?_
          try simp (disch := omega) only [cd_set_eq, cd_set_ne, cd_set_set]
          refine r_tops (show cd_rg (I (m + 20)) 0 n9 (fun i => I (m + 15) (24 * z + p9 + i)) k = I (m + 15) (24 * z + p9 + k) by unfold cd_rg; rw [if_pos (by omega)]; rfl) ?_
          refine r_iast hO (mo_s15 hM) (mo_l15 hM) (by omega) (by decide) d_M_copy_169 ?_
          try simp (disch := omega) only [cd_set_eq, cd_set_ne, cd_set_set]
          rw [show upd (cd_rg (I (m + 15)) (24 * y + a9) k (fun i => I (m + 15) (24 * z + p9 + i))) (24 * y + a9 + k) (I (m + 15) (24 * z + p9 + k)) = cd_rg (I (m + 15)) (24 * y + a9) (k + 1) (fun i => I (m + 15) (24 * z + p9 + i)) from cd_rg_s _ _ _ _]
          refine r_incN6 hO d_M_copy_170 rfl ?_
          refine r_goto hO d_M_copy_173 ?_
          exact ih (k + 1) (by omega)
    have first : ∀ (r k : Nat), k + r = n9 → cd_J w X 0 0 S (cd_set I (m + 20) (cd_rg (I (m + 20)) 0 k (fun i => I (m + 15) (24 * z + p9 + i)))) 104 [some (.ref m), some (.int (nI z)), some (.int (nI p9)), some (.int (nI y)), some (.int (nI a9)), some (.int (nI n9)), some (.int (nI k))] [] := by
      intro r
      induction r with
      | zero =>
        intro k hk
        have hkn : k = n9 := by omega
        subst hkn
        refine r_iload hO d_M_copy_104 rfl ?_
        refine r_iload hO d_M_copy_106 rfl ?_
        refine r_icmp_ge hO d_M_copy_108 (fun c_108 => ?_) (fun c_108 => ?_)
        · refine r_k hO d_M_copy_138 ?_
          refine r_sI6 hO d_M_copy_139 rfl ?_
          refine r_mem (show _ = cd_set (cd_set I (m + 20) (cd_rg (I (m + 20)) 0 k (fun i => I (m + 15) (24 * z + p9 + i)))) (m + 15) (cd_rg (I (m + 15)) (24 * y + a9) 0 (fun i => I (m + 15) (24 * z + p9 + i))) by rw [cd_rg_0]; exact (cd_set_self_at _ _ (cd_set_ne _ _ (by omega))).symm) ?_
          exact second k 0 (Nat.zero_add _)
        · exact absurd (nI_le (Nat.le_refl _) (by omega)) c_108
      | succ r ih =>
        intro k hk
        refine r_iload hO d_M_copy_104 rfl ?_
        refine r_iload hO d_M_copy_106 rfl ?_
        refine r_icmp_ge hO d_M_copy_108 (fun c_108 => ?_) (fun c_108 => ?_)
        · exact absurd c_108 (nI_ge (by omega) (by omega))
        · refine r_aload hO d_M_copy_111 rfl ?_
          refine r_getR hO f_M_69 rfl hM.2.1 (mo_r20 hM) d_M_copy_112 ?_
          try simp (disch := omega) only [cd_set_eq, cd_set_ne, cd_set_set]
          refine r_iload hO d_M_copy_115 rfl ?_
          refine r_aload hO d_M_copy_117 rfl ?_
          refine r_getR hO f_M_54 rfl hM.2.1 (mo_r15 hM) d_M_copy_118 ?_
          try simp (disch := omega) only [cd_set_eq, cd_set_ne, cd_set_set]
          refine r_k hO d_M_copy_121 ?_
          refine r_iload hO d_M_copy_123 rfl ?_
          refine r_imulN hO d_M_copy_124 ?_
          refine r_iload hO d_M_copy_125 rfl ?_
          refine r_iaddN hO d_M_copy_126 ?_
          refine r_iload hO d_M_copy_127 rfl ?_
          refine r_iaddN hO d_M_copy_129 ?_
          refine r_iald hO (mo_s15 hM) (by omega) (by decide) d_M_copy_130 ?_
          try simp (disch := omega) only [cd_set_eq, cd_set_ne, cd_set_set]
          refine r_iast hO (mo_s20 hM) (mo_l20 hM) (by omega) (by decide) d_M_copy_131 ?_
          try simp (disch := omega) only [cd_set_eq, cd_set_ne, cd_set_set]
          rw [show upd (cd_rg (I (m + 20)) 0 k (fun i => I (m + 15) (24 * z + p9 + i))) k (I (m + 15) (24 * z + p9 + k)) = cd_rg (I (m + 20)) 0 (k + 1) (fun i => I (m + 15) (24 * z + p9 + i)) from cd_rg_s0 _ _ _]
          refine r_incN6 hO d_M_copy_132 rfl ?_
          refine r_goto hO d_M_copy_135 ?_
          exact ih (k + 1) (by omega)
    refine r_k hO d_M_copy_101 ?_
    refine r_sI6 hO d_M_copy_102 rfl ?_
    refine r_mem (show I = cd_set I (m + 20) (cd_rg (I (m + 20)) 0 0 (fun i => I (m + 15) (24 * z + p9 + i))) by rw [cd_rg_0, cd_set_self]) ?_
    exact first n9 0 (Nat.zero_add _)
  refine r_iload hO d_M_copy_0 rfl ?_
  refine r_cS1fi hO hE (c_M_isSheet _) mf_M_isSheet lk_M_183 (by decide) rfl (Nat.le_of_ble_eq_true rfl) d_M_copy_1 (Nat.zero_le _) (Nat.zero_le _) ?_
  refine r_if_eqB hO d_M_copy_4 (fun c_4 => ?_) (fun c_4 => ?_)
  · refine r_ldc hO k_M_87 d_M_copy_14 ?_
    refine r_iret hO hE (Nat.zero_le _) (Nat.zero_le _) d_M_copy_16 ?_
    exact ⟨_, rfl, rfl, by unfold sp_copy; rw [if_neg c_4], by unfold sp_copy; rw [if_neg c_4], cd_off.rf _ _⟩
  · obtain ⟨z, hz1, hz2, rfl⟩ := cd_in_ex c_4 (by decide) (by decide)
    obtain ⟨sf, hsf, hszf, -⟩ := hVS z (by omega)
    refine r_iload hO d_M_copy_7 rfl ?_
    refine r_cS1fi hO hE (c_M_isSheet _) mf_M_isSheet lk_M_183 (by decide) rfl (Nat.le_of_ble_eq_true rfl) d_M_copy_8 (Nat.zero_le _) (Nat.zero_le _) ?_
    refine r_if_neB hO d_M_copy_11 (fun c_11 => ?_) (fun c_11 => ?_)
    · obtain ⟨y, hy1, hy2, rfl⟩ := cd_in_ex c_11 (by decide) (by decide)
      obtain ⟨sv, hsv, hszt, -⟩ := hVS y (by omega)
      refine r_aload hO d_M_copy_17 rfl ?_
      refine r_getR hO f_M_48 rfl hM.2.1 (mo_r13 hM) d_M_copy_18 ?_
      refine r_iload hO d_M_copy_21 rfl ?_
      refine r_iald hO (mo_s13 hM) (by omega) (by decide) d_M_copy_22 ?_
      refine r_if_lt hO d_M_copy_23 (fun c_23 => ?_) (fun c_23 => ?_)
      · refine r_ldc hO k_M_186 d_M_copy_35 ?_
        refine r_iret hO hE (Nat.zero_le _) (Nat.zero_le _) d_M_copy_37 ?_
        exact ⟨_, rfl, rfl, by unfold sp_copy; rw [if_pos c_4, if_pos c_11, cd_tn_nI (i := z) (by omega), cd_tn_nI (i := y) (by omega), if_pos c_23], by unfold sp_copy; rw [if_pos c_4, if_pos c_11, cd_tn_nI (i := z) (by omega), cd_tn_nI (i := y) (by omega), if_pos c_23], cd_off.rf _ _⟩
      · refine r_aload hO d_M_copy_26 rfl ?_
        refine r_getR hO f_M_48 rfl hM.2.1 (mo_r13 hM) d_M_copy_27 ?_
        refine r_iload hO d_M_copy_30 rfl ?_
        refine r_iald hO (mo_s13 hM) (by omega) (by decide) d_M_copy_31 ?_
        refine r_if_ge hO d_M_copy_32 (fun c_32 => ?_) (fun c_32 => ?_)
        · refine r_aload hO d_M_copy_38 rfl ?_
          refine r_getR hO f_M_48 rfl hM.2.1 (mo_r13 hM) d_M_copy_39 ?_
          refine r_iload hO d_M_copy_42 rfl ?_
          refine r_iald hO (mo_s13 hM) (by omega) (by decide) d_M_copy_43 ?_
          refine r_aload hO d_M_copy_44 rfl ?_
          refine r_getR hO f_M_48 rfl hM.2.1 (mo_r13 hM) d_M_copy_45 ?_
          refine r_iload hO d_M_copy_48 rfl ?_
          refine r_iald hO (mo_s13 hM) (by omega) (by decide) d_M_copy_49 ?_
          refine r_icmp_eq hO d_M_copy_50 (fun c_50 => ?_) (fun c_50 => ?_)
          · refine r_iload hO d_M_copy_56 rfl ?_
            refine r_if_lt hO d_M_copy_57 (fun c_57 => ?_) (fun c_57 => ?_)
            · refine r_ldcw hO k_M_260 d_M_copy_97 ?_
              refine r_iret hO hE (Nat.zero_le _) (Nat.zero_le _) d_M_copy_100 ?_
              exact ⟨_, rfl, rfl, by unfold sp_copy; rw [if_pos c_4, if_pos c_11, cd_tn_nI (i := z) (by omega), cd_tn_nI (i := y) (by omega), if_neg c_23, if_pos c_32, if_pos c_50, if_pos c_57], by unfold sp_copy; rw [if_pos c_4, if_pos c_11, cd_tn_nI (i := z) (by omega), cd_tn_nI (i := y) (by omega), if_neg c_23, if_pos c_32, if_pos c_50, if_pos c_57], cd_off.rf _ _⟩
            · refine r_iload hO d_M_copy_60 rfl ?_
              refine r_if_lt hO d_M_copy_62 (fun c_62 => ?_) (fun c_62 => ?_)
              · refine r_ldcw hO k_M_260 d_M_copy_97 ?_
                refine r_iret hO hE (Nat.zero_le _) (Nat.zero_le _) d_M_copy_100 ?_
                exact ⟨_, rfl, rfl, by unfold sp_copy; rw [if_pos c_4, if_pos c_11, cd_tn_nI (i := z) (by omega), cd_tn_nI (i := y) (by omega), if_neg c_23, if_pos c_32, if_pos c_50, if_neg c_57, if_pos c_62], by unfold sp_copy; rw [if_pos c_4, if_pos c_11, cd_tn_nI (i := z) (by omega), cd_tn_nI (i := y) (by omega), if_neg c_23, if_pos c_32, if_pos c_50, if_neg c_57, if_pos c_62], cd_off.rf _ _⟩
              · refine r_iload hO d_M_copy_65 rfl ?_
                refine r_if_lt hO d_M_copy_67 (fun c_67 => ?_) (fun c_67 => ?_)
                · refine r_ldcw hO k_M_260 d_M_copy_97 ?_
                  refine r_iret hO hE (Nat.zero_le _) (Nat.zero_le _) d_M_copy_100 ?_
                  exact ⟨_, rfl, rfl, by unfold sp_copy; rw [if_pos c_4, if_pos c_11, cd_tn_nI (i := z) (by omega), cd_tn_nI (i := y) (by omega), if_neg c_23, if_pos c_32, if_pos c_50, if_neg c_57, if_neg c_62, if_pos c_67], by unfold sp_copy; rw [if_pos c_4, if_pos c_11, cd_tn_nI (i := z) (by omega), cd_tn_nI (i := y) (by omega), if_neg c_23, if_pos c_32, if_pos c_50, if_neg c_57, if_neg c_62, if_pos c_67], cd_off.rf _ _⟩
                · refine r_iload hO d_M_copy_70 rfl ?_
                  refine r_aload hO d_M_copy_71 rfl ?_
                  refine r_getR hO f_M_51 rfl hM.2.1 (mo_r14 hM) d_M_copy_72 ?_
                  refine r_iload hO d_M_copy_75 rfl ?_
                  refine r_iald hO (mo_s14 hM) (by omega) (by decide) d_M_copy_76 ?_
                  refine r_iload hO d_M_copy_77 rfl ?_
                  refine r_isub hO d_M_copy_79 ?_
                  refine r_icmp_gt hO d_M_copy_80 (fun c_80 => ?_) (fun c_80 => ?_)
                  · refine r_ldcw hO k_M_260 d_M_copy_97 ?_
                    refine r_iret hO hE (Nat.zero_le _) (Nat.zero_le _) d_M_copy_100 ?_
                    exact ⟨_, rfl, rfl, by unfold sp_copy; rw [if_pos c_4, if_pos c_11, cd_tn_nI (i := z) (by omega), cd_tn_nI (i := y) (by omega), if_neg c_23, if_pos c_32, if_pos c_50, if_neg c_57, if_neg c_62, if_neg c_67, if_pos c_80], by unfold sp_copy; rw [if_pos c_4, if_pos c_11, cd_tn_nI (i := z) (by omega), cd_tn_nI (i := y) (by omega), if_neg c_23, if_pos c_32, if_pos c_50, if_neg c_57, if_neg c_62, if_neg c_67, if_pos c_80], cd_off.rf _ _⟩
                  · refine r_iload hO d_M_copy_83 rfl ?_
                    refine r_aload hO d_M_copy_85 rfl ?_
                    refine r_getR hO f_M_51 rfl hM.2.1 (mo_r14 hM) d_M_copy_86 ?_
                    refine r_iload hO d_M_copy_89 rfl ?_
                    refine r_iald hO (mo_s14 hM) (by omega) (by decide) d_M_copy_90 ?_
                    refine r_iload hO d_M_copy_91 rfl ?_
                    refine r_isub hO d_M_copy_93 ?_
                    refine r_icmp_le hO d_M_copy_94 (fun c_94 => ?_) (fun c_94 => ?_)
                    · obtain ⟨p9, hp9, rfl⟩ := nI_of c_57
                      obtain ⟨a9, ha9, rfl⟩ := nI_of c_62
                      obtain ⟨n9, hn9, rfl⟩ := nI_of c_67
                      have hpn := cd_copy_ok hsf hn9 hp9 (by rw [← hszf]; exact c_80)
                      have han := cd_copy_ok2 hsv hn9 ha9 (by rw [← hszt]; exact c_94)
                      exact main z p9 y a9 n9 (by omega) (by omega) (by omega) (by omega) (by unfold sp_copy; rw [if_pos c_4, if_pos c_11, cd_tn_nI (i := z) (by omega), cd_tn_nI (i := y) (by omega), if_neg c_23, if_pos c_32, if_pos c_50, if_neg c_57, if_neg c_62, if_neg c_67, if_neg c_80, if_pos c_94, cd_tn_nI (i := p9) hp9, cd_tn_nI (i := a9) ha9, cd_tn_nI (i := n9) hn9])
                    · refine r_ldcw hO k_M_260 d_M_copy_97 ?_
                      refine r_iret hO hE (Nat.zero_le _) (Nat.zero_le _) d_M_copy_100 ?_
                      exact ⟨_, rfl, rfl, by unfold sp_copy; rw [if_pos c_4, if_pos c_11, cd_tn_nI (i := z) (by omega), cd_tn_nI (i := y) (by omega), if_neg c_23, if_pos c_32, if_pos c_50, if_neg c_57, if_neg c_62, if_neg c_67, if_neg c_80, if_neg c_94], by unfold sp_copy; rw [if_pos c_4, if_pos c_11, cd_tn_nI (i := z) (by omega), cd_tn_nI (i := y) (by omega), if_neg c_23, if_pos c_32, if_pos c_50, if_neg c_57, if_neg c_62, if_neg c_67, if_neg c_80, if_neg c_94], cd_off.rf _ _⟩
          · refine r_ldc hO k_M_133 d_M_copy_53 ?_
            refine r_iret hO hE (Nat.zero_le _) (Nat.zero_le _) d_M_copy_55 ?_
            exact ⟨_, rfl, rfl, by unfold sp_copy; rw [if_pos c_4, if_pos c_11, cd_tn_nI (i := z) (by omega), cd_tn_nI (i := y) (by omega), if_neg c_23, if_pos c_32, if_neg c_50], by unfold sp_copy; rw [if_pos c_4, if_pos c_11, cd_tn_nI (i := z) (by omega), cd_tn_nI (i := y) (by omega), if_neg c_23, if_pos c_32, if_neg c_50], cd_off.rf _ _⟩
        · refine r_ldc hO k_M_186 d_M_copy_35 ?_
          refine r_iret hO hE (Nat.zero_le _) (Nat.zero_le _) d_M_copy_37 ?_
          exact ⟨_, rfl, rfl, by unfold sp_copy; rw [if_pos c_4, if_pos c_11, cd_tn_nI (i := z) (by omega), cd_tn_nI (i := y) (by omega), if_neg c_23, if_neg c_32], by unfold sp_copy; rw [if_pos c_4, if_pos c_11, cd_tn_nI (i := z) (by omega), cd_tn_nI (i := y) (by omega), if_neg c_23, if_neg c_32], cd_off.rf _ _⟩
    · refine r_ldc hO k_M_87 d_M_copy_14 ?_
      refine r_iret hO hE (Nat.zero_le _) (Nat.zero_le _) d_M_copy_16 ?_
      exact ⟨_, rfl, rfl, by unfold sp_copy; rw [if_pos c_4, if_neg c_11], by unfold sp_copy; rw [if_pos c_4, if_neg c_11], cd_off.rf _ _⟩
def cd_l3 (I : cd_Mem) (m s : Nat) (t a b : Int32) : cd_Mem := cd_set (cd_set (cd_set I (m + 16) (upd (I (m + 16)) s t)) (m + 17) (upd (I (m + 17)) s a)) (m + 18) (upd (I (m + 18)) s b)
def sp_lay (I : cd_Mem) (m : Nat) (s t k : Int32) : Int32 × cd_Mem := if nI 0 ≤ s ∧ s ≤ nI 4 then (if nI 0 ≤ t ∧ t ≤ nI 3 then (if t = nI 1 then (if cd_isA (I (m + 1)) k then (I (m + 16) (cd_tn s), cd_l3 I m (cd_tn s) t (I (m + 1) (16 + 5 * cd_tn k + 0)) (cd_wor (I (m + 1) (16 + 5 * cd_tn k + 0)) (I (m + 1) (16 + 5 * cd_tn k + 2)))) else (cd_BAD, I)) else if t = nI 2 then (if nI 0 ≤ k ∧ k ≤ nI 3 then (if 0 ≤ I (m + 13) (cd_tn k) then (I (m + 16) (cd_tn s), cd_set (cd_l3 I m (cd_tn s) t (I (m + 14) (cd_tn k)) (nI 0)) (m + 19) (cd_rg (I (m + 19)) (24 * cd_tn s) 24 (fun i => I (m + 15) (24 * cd_tn k + i)))) else (cd_NOTHING, I)) else (cd_BAD, I)) else (I (m + 16) (cd_tn s), cd_l3 I m (cd_tn s) t k (nI 0))) else (cd_BAD, I)) else (cd_BAD, I)
def sp_ask (ho hA hB : Nat → Int32) (s k : Int32) : Int32 := if nI 0 ≤ s ∧ s ≤ nI 4 then (if nI 0 ≤ k ∧ k ≤ nI 5 then (if ho (cd_tn s) = 0 then cd_NOTHING else if ho (cd_tn s) = nI 1 then (if cd_und (hA (cd_tn s)) k then hB (cd_tn s) else cd_KIND) else cd_KIND) else cd_BAD) else cd_BAD
def sp_item (ho hA hc : Nat → Int32) (s p : Int32) : Int32 := if nI 0 ≤ s ∧ s ≤ nI 4 then (if ho (cd_tn s) = 0 then cd_NOTHING else if ho (cd_tn s) = nI 2 then (if nI 0 ≤ p ∧ p ≤ hA (cd_tn s) - nI 1 then (if hc (24 * cd_tn s + cd_tn p) = cd_NONE then cd_KIND else hc (24 * cd_tn s + cd_tn p)) else cd_INDEX) else cd_KIND) else cd_BAD
def sp_rest (ho hA : Nat → Int32) (s n : Int32) : Int32 := if nI 0 ≤ s ∧ s ≤ nI 4 then (if ho (cd_tn s) = 0 then cd_NOTHING else if ho (cd_tn s) = nI 3 then (if n = 0 then cd_NO else if n = (-1) then nI 0 else cd_rem (hA (cd_tn s)) n) else cd_KIND) else cd_BAD
def cd_VL (ho hA : Nat → Int32) : Prop := ∀ s, s < 5 → ho s = nI 2 → ∃ n, n ≤ 24 ∧ hA s = nI n
theorem d_M_lay_0 : cd_D_iload b_M_lay 0 1 1 := Or.inr ⟨1, ⟨by decide +kernel, rfl⟩, rfl⟩
theorem d_M_lay_1 : cd_D 3 b_M_lay 1 (.invokestatic 263) 4 := ⟨by decide +kernel, rfl⟩
theorem d_M_lay_4 : cd_D_if_eq b_M_lay 4 41 7 := ⟨37, by decide +kernel, by decide, rfl⟩
theorem d_M_lay_7 : cd_D_iload b_M_lay 7 2 8 := Or.inr ⟨2, ⟨by decide +kernel, rfl⟩, rfl⟩
theorem d_M_lay_8 : cd_Dk b_M_lay 8 (nI 0) 9 := Or.inl ⟨0, ⟨by decide +kernel, rfl⟩, by decide +kernel⟩
theorem d_M_lay_9 : cd_Dk b_M_lay 9 (nI 3) 10 := Or.inl ⟨3, ⟨by decide +kernel, rfl⟩, by decide +kernel⟩
theorem d_M_lay_10 : cd_D 3 b_M_lay 10 (.invokestatic 75) 13 := ⟨by decide +kernel, rfl⟩
theorem d_M_lay_13 : cd_D_if_eq b_M_lay 13 41 16 := ⟨28, by decide +kernel, by decide, rfl⟩
theorem d_M_lay_16 : cd_D_iload b_M_lay 16 2 17 := Or.inr ⟨2, ⟨by decide +kernel, rfl⟩, rfl⟩
theorem d_M_lay_17 : cd_Dk b_M_lay 17 (nI 1) 18 := Or.inl ⟨1, ⟨by decide +kernel, rfl⟩, by decide +kernel⟩
theorem d_M_lay_18 : cd_D_icmp_ne b_M_lay 18 29 21 := ⟨11, by decide +kernel, by decide, rfl⟩
theorem d_M_lay_21 : cd_D_aload b_M_lay 21 0 22 := Or.inr ⟨0, ⟨by decide +kernel, rfl⟩, rfl⟩
theorem d_M_lay_22 : cd_D_iload b_M_lay 22 3 23 := Or.inr ⟨3, ⟨by decide +kernel, rfl⟩, rfl⟩
theorem d_M_lay_23 : cd_D 3 b_M_lay 23 (.invokevirtual 108) 26 := ⟨by decide +kernel, rfl⟩
theorem d_M_lay_26 : cd_D_if_eq b_M_lay 26 41 29 := ⟨15, by decide +kernel, by decide, rfl⟩
theorem d_M_lay_29 : cd_D_iload b_M_lay 29 2 30 := Or.inr ⟨2, ⟨by decide +kernel, rfl⟩, rfl⟩
theorem d_M_lay_30 : cd_Dk b_M_lay 30 (nI 2) 31 := Or.inl ⟨2, ⟨by decide +kernel, rfl⟩, by decide +kernel⟩
theorem d_M_lay_31 : cd_D_icmp_ne b_M_lay 31 44 34 := ⟨13, by decide +kernel, by decide, rfl⟩
theorem d_M_lay_34 : cd_D_iload b_M_lay 34 3 35 := Or.inr ⟨3, ⟨by decide +kernel, rfl⟩, rfl⟩
theorem d_M_lay_35 : cd_D 3 b_M_lay 35 (.invokestatic 183) 38 := ⟨by decide +kernel, rfl⟩
theorem d_M_lay_38 : cd_D_if_ne b_M_lay 38 44 41 := ⟨6, by decide +kernel, by decide, rfl⟩
theorem d_M_lay_41 : cd_D 2 b_M_lay 41 (.ldc 87) 43 := ⟨by decide +kernel, rfl⟩
theorem d_M_lay_43 : cd_D 1 b_M_lay 43 .ireturn 44 := ⟨by decide +kernel, rfl⟩
theorem d_M_lay_44 : cd_D_iload b_M_lay 44 2 45 := Or.inr ⟨2, ⟨by decide +kernel, rfl⟩, rfl⟩
theorem d_M_lay_45 : cd_Dk b_M_lay 45 (nI 2) 46 := Or.inl ⟨2, ⟨by decide +kernel, rfl⟩, by decide +kernel⟩
theorem d_M_lay_46 : cd_D_icmp_ne b_M_lay 46 61 49 := ⟨15, by decide +kernel, by decide, rfl⟩
theorem d_M_lay_49 : cd_D_aload b_M_lay 49 0 50 := Or.inr ⟨0, ⟨by decide +kernel, rfl⟩, rfl⟩
theorem d_M_lay_50 : cd_D 3 b_M_lay 50 (.getfield 48) 53 := ⟨by decide +kernel, rfl⟩
theorem d_M_lay_53 : cd_D_iload b_M_lay 53 3 54 := Or.inr ⟨3, ⟨by decide +kernel, rfl⟩, rfl⟩
theorem d_M_lay_54 : cd_D 1 b_M_lay 54 .iaload 55 := ⟨by decide +kernel, rfl⟩
theorem d_M_lay_55 : cd_D_if_ge b_M_lay 55 61 58 := ⟨6, by decide +kernel, by decide, rfl⟩
theorem d_M_lay_58 : cd_D 2 b_M_lay 58 (.ldc 186) 60 := ⟨by decide +kernel, rfl⟩
theorem d_M_lay_60 : cd_D 1 b_M_lay 60 .ireturn 61 := ⟨by decide +kernel, rfl⟩
theorem d_M_lay_61 : cd_D_aload b_M_lay 61 0 62 := Or.inr ⟨0, ⟨by decide +kernel, rfl⟩, rfl⟩
theorem d_M_lay_62 : cd_D 3 b_M_lay 62 (.getfield 57) 65 := ⟨by decide +kernel, rfl⟩
theorem d_M_lay_65 : cd_D_iload b_M_lay 65 1 66 := Or.inr ⟨1, ⟨by decide +kernel, rfl⟩, rfl⟩
theorem d_M_lay_66 : cd_D 1 b_M_lay 66 .iaload 67 := ⟨by decide +kernel, rfl⟩
theorem d_M_lay_67 : cd_D_istore b_M_lay 67 4 69 := Or.inl ⟨by decide +kernel, rfl⟩
theorem d_M_lay_69 : cd_D_aload b_M_lay 69 0 70 := Or.inr ⟨0, ⟨by decide +kernel, rfl⟩, rfl⟩
theorem d_M_lay_70 : cd_D 3 b_M_lay 70 (.getfield 57) 73 := ⟨by decide +kernel, rfl⟩
theorem d_M_lay_73 : cd_D_iload b_M_lay 73 1 74 := Or.inr ⟨1, ⟨by decide +kernel, rfl⟩, rfl⟩
theorem d_M_lay_74 : cd_D_iload b_M_lay 74 2 75 := Or.inr ⟨2, ⟨by decide +kernel, rfl⟩, rfl⟩
theorem d_M_lay_75 : cd_D 1 b_M_lay 75 .iastore 76 := ⟨by decide +kernel, rfl⟩
theorem d_M_lay_76 : cd_D_aload b_M_lay 76 0 77 := Or.inr ⟨0, ⟨by decide +kernel, rfl⟩, rfl⟩
theorem d_M_lay_77 : cd_D 3 b_M_lay 77 (.getfield 60) 80 := ⟨by decide +kernel, rfl⟩
theorem d_M_lay_80 : cd_D_iload b_M_lay 80 1 81 := Or.inr ⟨1, ⟨by decide +kernel, rfl⟩, rfl⟩
theorem d_M_lay_81 : cd_D_iload b_M_lay 81 2 82 := Or.inr ⟨2, ⟨by decide +kernel, rfl⟩, rfl⟩
theorem d_M_lay_82 : cd_Dk b_M_lay 82 (nI 1) 83 := Or.inl ⟨1, ⟨by decide +kernel, rfl⟩, by decide +kernel⟩
theorem d_M_lay_83 : cd_D_icmp_ne b_M_lay 83 95 86 := ⟨12, by decide +kernel, by decide, rfl⟩
theorem d_M_lay_86 : cd_D_aload b_M_lay 86 0 87 := Or.inr ⟨0, ⟨by decide +kernel, rfl⟩, rfl⟩
theorem d_M_lay_87 : cd_D_iload b_M_lay 87 3 88 := Or.inr ⟨3, ⟨by decide +kernel, rfl⟩, rfl⟩
theorem d_M_lay_88 : cd_Dk b_M_lay 88 (nI 0) 89 := Or.inl ⟨0, ⟨by decide +kernel, rfl⟩, by decide +kernel⟩
theorem d_M_lay_89 : cd_D 3 b_M_lay 89 (.invokevirtual 97) 92 := ⟨by decide +kernel, rfl⟩
theorem d_M_lay_92 : cd_D_goto b_M_lay 92 110 := ⟨18, by decide +kernel, by decide⟩
theorem d_M_lay_95 : cd_D_iload b_M_lay 95 2 96 := Or.inr ⟨2, ⟨by decide +kernel, rfl⟩, rfl⟩
theorem d_M_lay_96 : cd_Dk b_M_lay 96 (nI 2) 97 := Or.inl ⟨2, ⟨by decide +kernel, rfl⟩, by decide +kernel⟩
theorem d_M_lay_97 : cd_D_icmp_ne b_M_lay 97 109 100 := ⟨12, by decide +kernel, by decide, rfl⟩
theorem d_M_lay_100 : cd_D_aload b_M_lay 100 0 101 := Or.inr ⟨0, ⟨by decide +kernel, rfl⟩, rfl⟩
theorem d_M_lay_101 : cd_D 3 b_M_lay 101 (.getfield 51) 104 := ⟨by decide +kernel, rfl⟩
theorem d_M_lay_104 : cd_D_iload b_M_lay 104 3 105 := Or.inr ⟨3, ⟨by decide +kernel, rfl⟩, rfl⟩
theorem d_M_lay_105 : cd_D 1 b_M_lay 105 .iaload 106 := ⟨by decide +kernel, rfl⟩
theorem d_M_lay_106 : cd_D_goto b_M_lay 106 110 := ⟨4, by decide +kernel, by decide⟩
theorem d_M_lay_109 : cd_D_iload b_M_lay 109 3 110 := Or.inr ⟨3, ⟨by decide +kernel, rfl⟩, rfl⟩
theorem d_M_lay_110 : cd_D 1 b_M_lay 110 .iastore 111 := ⟨by decide +kernel, rfl⟩
theorem d_M_lay_111 : cd_D_aload b_M_lay 111 0 112 := Or.inr ⟨0, ⟨by decide +kernel, rfl⟩, rfl⟩
theorem d_M_lay_112 : cd_D 3 b_M_lay 112 (.getfield 63) 115 := ⟨by decide +kernel, rfl⟩
theorem d_M_lay_115 : cd_D_iload b_M_lay 115 1 116 := Or.inr ⟨1, ⟨by decide +kernel, rfl⟩, rfl⟩
theorem d_M_lay_116 : cd_D_iload b_M_lay 116 2 117 := Or.inr ⟨2, ⟨by decide +kernel, rfl⟩, rfl⟩
theorem d_M_lay_117 : cd_Dk b_M_lay 117 (nI 1) 118 := Or.inl ⟨1, ⟨by decide +kernel, rfl⟩, by decide +kernel⟩
theorem d_M_lay_118 : cd_D_icmp_ne b_M_lay 118 129 121 := ⟨11, by decide +kernel, by decide, rfl⟩
theorem d_M_lay_121 : cd_D_aload b_M_lay 121 0 122 := Or.inr ⟨0, ⟨by decide +kernel, rfl⟩, rfl⟩
theorem d_M_lay_122 : cd_D_iload b_M_lay 122 3 123 := Or.inr ⟨3, ⟨by decide +kernel, rfl⟩, rfl⟩
theorem d_M_lay_123 : cd_D 3 b_M_lay 123 (.invokevirtual 127) 126 := ⟨by decide +kernel, rfl⟩
theorem d_M_lay_126 : cd_D_goto b_M_lay 126 130 := ⟨4, by decide +kernel, by decide⟩
theorem d_M_lay_129 : cd_Dk b_M_lay 129 (nI 0) 130 := Or.inl ⟨0, ⟨by decide +kernel, rfl⟩, by decide +kernel⟩
theorem d_M_lay_130 : cd_D 1 b_M_lay 130 .iastore 131 := ⟨by decide +kernel, rfl⟩
theorem d_M_lay_131 : cd_Dk b_M_lay 131 (nI 0) 132 := Or.inl ⟨0, ⟨by decide +kernel, rfl⟩, by decide +kernel⟩
theorem d_M_lay_132 : cd_D_istore b_M_lay 132 5 134 := Or.inl ⟨by decide +kernel, rfl⟩
theorem d_M_lay_134 : cd_D_iload b_M_lay 134 5 136 := Or.inl ⟨by decide +kernel, rfl⟩
theorem d_M_lay_136 : cd_Dk b_M_lay 136 (nI 24) 138 := Or.inr (Or.inl ⟨24, ⟨by decide +kernel, rfl⟩, by decide +kernel⟩)
theorem d_M_lay_138 : cd_D_icmp_ge b_M_lay 138 176 141 := ⟨38, by decide +kernel, by decide, rfl⟩
theorem d_M_lay_141 : cd_D_iload b_M_lay 141 2 142 := Or.inr ⟨2, ⟨by decide +kernel, rfl⟩, rfl⟩
theorem d_M_lay_142 : cd_Dk b_M_lay 142 (nI 2) 143 := Or.inl ⟨2, ⟨by decide +kernel, rfl⟩, by decide +kernel⟩
theorem d_M_lay_143 : cd_D_icmp_ne b_M_lay 143 176 146 := ⟨33, by decide +kernel, by decide, rfl⟩
theorem d_M_lay_146 : cd_D_aload b_M_lay 146 0 147 := Or.inr ⟨0, ⟨by decide +kernel, rfl⟩, rfl⟩
theorem d_M_lay_147 : cd_D 3 b_M_lay 147 (.getfield 66) 150 := ⟨by decide +kernel, rfl⟩
theorem d_M_lay_150 : cd_Dk b_M_lay 150 (nI 24) 152 := Or.inr (Or.inl ⟨24, ⟨by decide +kernel, rfl⟩, by decide +kernel⟩)
theorem d_M_lay_152 : cd_D_iload b_M_lay 152 1 153 := Or.inr ⟨1, ⟨by decide +kernel, rfl⟩, rfl⟩
theorem d_M_lay_153 : cd_D 1 b_M_lay 153 .imul 154 := ⟨by decide +kernel, rfl⟩
theorem d_M_lay_154 : cd_D_iload b_M_lay 154 5 156 := Or.inl ⟨by decide +kernel, rfl⟩
theorem d_M_lay_156 : cd_D 1 b_M_lay 156 .iadd 157 := ⟨by decide +kernel, rfl⟩
theorem d_M_lay_157 : cd_D_aload b_M_lay 157 0 158 := Or.inr ⟨0, ⟨by decide +kernel, rfl⟩, rfl⟩
theorem d_M_lay_158 : cd_D 3 b_M_lay 158 (.getfield 54) 161 := ⟨by decide +kernel, rfl⟩
theorem d_M_lay_161 : cd_Dk b_M_lay 161 (nI 24) 163 := Or.inr (Or.inl ⟨24, ⟨by decide +kernel, rfl⟩, by decide +kernel⟩)
theorem d_M_lay_163 : cd_D_iload b_M_lay 163 3 164 := Or.inr ⟨3, ⟨by decide +kernel, rfl⟩, rfl⟩
theorem d_M_lay_164 : cd_D 1 b_M_lay 164 .imul 165 := ⟨by decide +kernel, rfl⟩
theorem d_M_lay_165 : cd_D_iload b_M_lay 165 5 167 := Or.inl ⟨by decide +kernel, rfl⟩
theorem d_M_lay_167 : cd_D 1 b_M_lay 167 .iadd 168 := ⟨by decide +kernel, rfl⟩
theorem d_M_lay_168 : cd_D 1 b_M_lay 168 .iaload 169 := ⟨by decide +kernel, rfl⟩
theorem d_M_lay_169 : cd_D 1 b_M_lay 169 .iastore 170 := ⟨by decide +kernel, rfl⟩
theorem d_M_lay_170 : cd_D 3 b_M_lay 170 (.iinc 5 (1)) 173 := ⟨by decide +kernel, rfl⟩
theorem d_M_lay_173 : cd_D_goto b_M_lay 173 134 := ⟨-39, by decide +kernel, by decide⟩
theorem d_M_lay_176 : cd_D_iload b_M_lay 176 4 178 := Or.inl ⟨by decide +kernel, rfl⟩
theorem d_M_lay_178 : cd_D 1 b_M_lay 178 .ireturn 179 := ⟨by decide +kernel, rfl⟩
theorem c_M_lay {l : Launch} {w : cd_WT} {S : cd_Sp} {I : cd_Mem} {m : Nat} (hM : cd_MO w S m) (mm tc : Nat) (hV : cd_V (I (m + 1)) mm tc) (s t k : Int32) : cd_C l w m_M_lay 2 0 0 [.ref m, .int s, .int t, .int k] S I (cd_Fi S (sp_lay I m s t k).1 (sp_lay I m s t k).2) := by
  refine cd_intro (by decide) (by simp [Value.category]) (Nat.le_of_ble_eq_true rfl) ?_
  intro X hO hE
  show cd_J w X 0 0 S I 0 [some (.ref m), some (.int s), some (.int t), some (.int k), none, none] []
  have hmm := hV.2.1
  have loop : ∀ (z k9 : Nat) (hz : z < 5) (hk9 : k9 < 4) (ht : t = nI 2) (x4 : Int32) (hp : sp_lay I m s t k = (x4, (cd_set (cd_l3 I m z t (I (m + 14) k9) (nI 0)) (m + 19) (cd_rg (I (m + 19)) (24 * z) 24 (fun i => I (m + 15) (24 * k9 + i)))))) (r j : Nat), j + r = 24 → cd_J w X 0 0 S (cd_set (cd_l3 I m z t (I (m + 14) k9) (nI 0)) (m + 19) (cd_rg (I (m + 19)) (24 * z) j (fun i => I (m + 15) (24 * k9 + i)))) 134 [some (.ref m), some (.int (nI z)), some (.int t), some (.int (nI k9)), some (.int x4), some (.int (nI j))] [] := by
    intro z k9 hz hk9 ht x4 hp r
    induction r with
    | zero =>
      intro j hj
      have hj4 : j = 24 := by omega
      subst hj4
      refine r_iload hO d_M_lay_134 rfl ?_
      refine r_k hO d_M_lay_136 ?_
      refine r_icmp_ge hO d_M_lay_138 (fun c_138 => ?_) (fun c_138 => ?_)
      · refine r_iload hO d_M_lay_176 rfl ?_
        refine r_iret hO hE (Nat.zero_le _) (Nat.zero_le _) d_M_lay_178 ?_
        exact cd_clm hp
      · exact absurd (nI_le (Nat.le_refl _) (by omega)) c_138
    | succ r ih =>
      intro j hj
      refine r_iload hO d_M_lay_134 rfl ?_
      refine r_k hO d_M_lay_136 ?_
      refine r_icmp_ge hO d_M_lay_138 (fun c_138 => ?_) (fun c_138 => ?_)
      · exact absurd c_138 (nI_ge (by omega) (by omega))
      · refine r_iload hO d_M_lay_141 rfl ?_
        refine r_k hO d_M_lay_142 ?_
        refine r_icmp_ne hO d_M_lay_143 (fun c_143 => ?_) (fun c_143 => ?_)
        · exact absurd ht c_143
        · refine r_aload hO d_M_lay_146 rfl ?_
          refine r_getR hO f_M_66 rfl hM.2.1 (mo_r19 hM) d_M_lay_147 ?_
          try simp (disch := omega) only [cd_l3, cd_set_eq, cd_set_ne, cd_set_set]
          refine r_k hO d_M_lay_150 ?_
          refine r_iload hO d_M_lay_152 rfl ?_
          refine r_imulN hO d_M_lay_153 ?_
          refine r_iload hO d_M_lay_154 rfl ?_
          refine r_iaddN hO d_M_lay_156 ?_
          refine r_aload hO d_M_lay_157 rfl ?_
          refine r_getR hO f_M_54 rfl hM.2.1 (mo_r15 hM) d_M_lay_158 ?_
          try simp (disch := omega) only [cd_l3, cd_set_eq, cd_set_ne, cd_set_set]
          refine r_k hO d_M_lay_161 ?_
          refine r_iload hO d_M_lay_163 rfl ?_
          refine r_imulN hO d_M_lay_164 ?_
          refine r_iload hO d_M_lay_165 rfl ?_
          refine r_iaddN hO d_M_lay_167 ?_
          refine r_iald hO (mo_s15 hM) (by omega) (by decide) d_M_lay_168 ?_
          try simp (disch := omega) only [cd_l3, cd_set_eq, cd_set_ne, cd_set_set]
          refine r_iast hO (mo_s19 hM) (mo_l19 hM) (by omega) (by decide) d_M_lay_169 ?_
          try simp (disch := omega) only [cd_l3, cd_set_eq, cd_set_ne, cd_set_set]
          rw [show upd (cd_rg (I (m + 19)) (24 * z) j (fun i => I (m + 15) (24 * k9 + i))) (24 * z + j) (I (m + 15) (24 * k9 + j)) = cd_rg (I (m + 19)) (24 * z) (j + 1) (fun i => I (m + 15) (24 * k9 + i)) from cd_rg_s _ _ _ _]
          refine r_incN5 hO d_M_lay_170 rfl ?_
          refine r_goto hO d_M_lay_173 ?_
          exact ih (j + 1) (by omega)
  refine r_iload hO d_M_lay_0 rfl ?_
  refine r_cS1fi hO hE (c_M_isSlot _) mf_M_isSlot lk_M_263 (by decide) rfl (Nat.le_of_ble_eq_true rfl) d_M_lay_1 (Nat.zero_le _) (Nat.zero_le _) ?_
  try simp (disch := omega) only [cd_set_eq, cd_set_ne, cd_set_set]
  refine r_if_eqB hO d_M_lay_4 (fun c_4 => ?_) (fun c_4 => ?_)
  · refine r_ldc hO k_M_87 d_M_lay_41 ?_
    refine r_iret hO hE (Nat.zero_le _) (Nat.zero_le _) d_M_lay_43 ?_
    exact cd_clm (by unfold sp_lay; rw [if_neg c_4])
  · obtain ⟨z, hz1, hz2, rfl⟩ := cd_in_ex c_4 (by decide) (by decide)
    refine r_iload hO d_M_lay_7 rfl ?_
    refine r_k hO d_M_lay_8 ?_
    refine r_k hO d_M_lay_9 ?_
    refine r_cS3fi hO hE (c_M_in _ _ _) mf_M_in lk_M_75 (by decide) rfl (Nat.le_of_ble_eq_true rfl) d_M_lay_10 (Nat.zero_le _) (Nat.zero_le _) ?_
    try simp (disch := omega) only [cd_set_eq, cd_set_ne, cd_set_set]
    refine r_if_eqB hO d_M_lay_13 (fun c_13 => ?_) (fun c_13 => ?_)
    · refine r_ldc hO k_M_87 d_M_lay_41 ?_
      refine r_iret hO hE (Nat.zero_le _) (Nat.zero_le _) d_M_lay_43 ?_
      exact cd_clm (by unfold sp_lay; rw [if_pos c_4, if_neg c_13])
    · refine r_iload hO d_M_lay_16 rfl ?_
      refine r_k hO d_M_lay_17 ?_
      refine r_icmp_ne hO d_M_lay_18 (fun c_18 => ?_) (fun c_18 => ?_)
      · refine r_iload hO d_M_lay_29 rfl ?_
        refine r_k hO d_M_lay_30 ?_
        refine r_icmp_ne hO d_M_lay_31 (fun c_31 => ?_) (fun c_31 => ?_)
        · refine r_iload hO d_M_lay_44 rfl ?_
          refine r_k hO d_M_lay_45 ?_
          refine r_icmp_ne hO d_M_lay_46 (fun c_46 => ?_) (fun c_46 => ?_)
          · refine r_aload hO d_M_lay_61 rfl ?_
            refine r_getR hO f_M_57 rfl hM.2.1 (mo_r16 hM) d_M_lay_62 ?_
            try simp (disch := omega) only [cd_set_eq, cd_set_ne, cd_set_set]
            refine r_iload hO d_M_lay_65 rfl ?_
            refine r_iald hO (mo_s16 hM) (by omega) (by decide) d_M_lay_66 ?_
            try simp (disch := omega) only [cd_set_eq, cd_set_ne, cd_set_set]
            refine r_sI4 hO d_M_lay_67 rfl ?_
            refine r_aload hO d_M_lay_69 rfl ?_
            refine r_getR hO f_M_57 rfl hM.2.1 (mo_r16 hM) d_M_lay_70 ?_
            try simp (disch := omega) only [cd_set_eq, cd_set_ne, cd_set_set]
            refine r_iload hO d_M_lay_73 rfl ?_
            refine r_iload hO d_M_lay_74 rfl ?_
            refine r_iast hO (mo_s16 hM) (mo_l16 hM) (by omega) (by decide) d_M_lay_75 ?_
            try simp (disch := omega) only [cd_set_eq, cd_set_ne, cd_set_set]
            refine r_aload hO d_M_lay_76 rfl ?_
            refine r_getR hO f_M_60 rfl hM.2.1 (mo_r17 hM) d_M_lay_77 ?_
            try simp (disch := omega) only [cd_set_eq, cd_set_ne, cd_set_set]
            refine r_iload hO d_M_lay_80 rfl ?_
            refine r_iload hO d_M_lay_81 rfl ?_
            refine r_k hO d_M_lay_82 ?_
            refine r_icmp_ne hO d_M_lay_83 (fun c_83 => ?_) (fun c_83 => ?_)
            · refine r_iload hO d_M_lay_95 rfl ?_
              refine r_k hO d_M_lay_96 ?_
              refine r_icmp_ne hO d_M_lay_97 (fun c_97 => ?_) (fun c_97 => ?_)
              · refine r_iload hO d_M_lay_109 rfl ?_
                refine r_iast hO (mo_s17 hM) (mo_l17 hM) (by omega) (by decide) d_M_lay_110 ?_
                try simp (disch := omega) only [cd_set_eq, cd_set_ne, cd_set_set]
                refine r_aload hO d_M_lay_111 rfl ?_
                refine r_getR hO f_M_63 rfl hM.2.1 (mo_r18 hM) d_M_lay_112 ?_
                try simp (disch := omega) only [cd_set_eq, cd_set_ne, cd_set_set]
                refine r_iload hO d_M_lay_115 rfl ?_
                refine r_iload hO d_M_lay_116 rfl ?_
                refine r_k hO d_M_lay_117 ?_
                refine r_icmp_ne hO d_M_lay_118 (fun c_118 => ?_) (fun c_118 => ?_)
                · refine r_k hO d_M_lay_129 ?_
                  refine r_iast hO (mo_s18 hM) (mo_l18 hM) (by omega) (by decide) d_M_lay_130 ?_
                  try simp (disch := omega) only [cd_set_eq, cd_set_ne, cd_set_set]
                  refine r_k hO d_M_lay_131 ?_
                  refine r_sI5 hO d_M_lay_132 rfl ?_
                  refine r_iload hO d_M_lay_134 rfl ?_
                  refine r_k hO d_M_lay_136 ?_
                  refine r_icmp_ge hO d_M_lay_138 (fun c_138 => ?_) (fun c_138 => ?_)
                  · exact absurd c_138 (by decide)
                  · refine r_iload hO d_M_lay_141 rfl ?_
                    refine r_k hO d_M_lay_142 ?_
                    refine r_icmp_ne hO d_M_lay_143 (fun c_143 => ?_) (fun c_143 => ?_)
                    · refine r_iload hO d_M_lay_176 rfl ?_
                      refine r_iret hO hE (Nat.zero_le _) (Nat.zero_le _) d_M_lay_178 ?_
                      exact cd_clm (by unfold sp_lay; rw [if_pos c_4, if_pos c_13, if_neg c_18, if_neg c_31, cd_tn_nI (by omega)]; rfl)
                    · exact absurd c_143 c_31
                · exact absurd c_118 c_18
              · exact absurd c_97 c_31
            · exact absurd c_83 c_18
          · exact absurd c_46 c_31
        · refine r_iload hO d_M_lay_34 rfl ?_
          refine r_cS1fi hO hE (c_M_isSheet _) mf_M_isSheet lk_M_183 (by decide) rfl (Nat.le_of_ble_eq_true rfl) d_M_lay_35 (Nat.zero_le _) (Nat.zero_le _) ?_
          try simp (disch := omega) only [cd_set_eq, cd_set_ne, cd_set_set]
          refine r_if_neB hO d_M_lay_38 (fun c_38 => ?_) (fun c_38 => ?_)
          · obtain ⟨k9, hk1, hk2, rfl⟩ := cd_in_ex c_38 (by decide) (by decide)
            refine r_iload hO d_M_lay_44 rfl ?_
            refine r_k hO d_M_lay_45 ?_
            refine r_icmp_ne hO d_M_lay_46 (fun c_46 => ?_) (fun c_46 => ?_)
            · exact absurd c_31 c_46
            · refine r_aload hO d_M_lay_49 rfl ?_
              refine r_getR hO f_M_48 rfl hM.2.1 (mo_r13 hM) d_M_lay_50 ?_
              try simp (disch := omega) only [cd_set_eq, cd_set_ne, cd_set_set]
              refine r_iload hO d_M_lay_53 rfl ?_
              refine r_iald hO (mo_s13 hM) (by omega) (by decide) d_M_lay_54 ?_
              try simp (disch := omega) only [cd_set_eq, cd_set_ne, cd_set_set]
              refine r_if_ge hO d_M_lay_55 (fun c_55 => ?_) (fun c_55 => ?_)
              · refine r_aload hO d_M_lay_61 rfl ?_
                refine r_getR hO f_M_57 rfl hM.2.1 (mo_r16 hM) d_M_lay_62 ?_
                try simp (disch := omega) only [cd_set_eq, cd_set_ne, cd_set_set]
                refine r_iload hO d_M_lay_65 rfl ?_
                refine r_iald hO (mo_s16 hM) (by omega) (by decide) d_M_lay_66 ?_
                try simp (disch := omega) only [cd_set_eq, cd_set_ne, cd_set_set]
                refine r_sI4 hO d_M_lay_67 rfl ?_
                refine r_aload hO d_M_lay_69 rfl ?_
                refine r_getR hO f_M_57 rfl hM.2.1 (mo_r16 hM) d_M_lay_70 ?_
                try simp (disch := omega) only [cd_set_eq, cd_set_ne, cd_set_set]
                refine r_iload hO d_M_lay_73 rfl ?_
                refine r_iload hO d_M_lay_74 rfl ?_
                refine r_iast hO (mo_s16 hM) (mo_l16 hM) (by omega) (by decide) d_M_lay_75 ?_
                try simp (disch := omega) only [cd_set_eq, cd_set_ne, cd_set_set]
                refine r_aload hO d_M_lay_76 rfl ?_
                refine r_getR hO f_M_60 rfl hM.2.1 (mo_r17 hM) d_M_lay_77 ?_
                try simp (disch := omega) only [cd_set_eq, cd_set_ne, cd_set_set]
                refine r_iload hO d_M_lay_80 rfl ?_
                refine r_iload hO d_M_lay_81 rfl ?_
                refine r_k hO d_M_lay_82 ?_
                refine r_icmp_ne hO d_M_lay_83 (fun c_83 => ?_) (fun c_83 => ?_)
                · refine r_iload hO d_M_lay_95 rfl ?_
                  refine r_k hO d_M_lay_96 ?_
                  refine r_icmp_ne hO d_M_lay_97 (fun c_97 => ?_) (fun c_97 => ?_)
                  · exact absurd c_31 c_97
                  · refine r_aload hO d_M_lay_100 rfl ?_
                    refine r_getR hO f_M_51 rfl hM.2.1 (mo_r14 hM) d_M_lay_101 ?_
                    try simp (disch := omega) only [cd_set_eq, cd_set_ne, cd_set_set]
                    refine r_iload hO d_M_lay_104 rfl ?_
                    refine r_iald hO (mo_s14 hM) (by omega) (by decide) d_M_lay_105 ?_
                    try simp (disch := omega) only [cd_set_eq, cd_set_ne, cd_set_set]
                    refine r_goto hO d_M_lay_106 ?_
                    refine r_iast hO (mo_s17 hM) (mo_l17 hM) (by omega) (by decide) d_M_lay_110 ?_
                    try simp (disch := omega) only [cd_set_eq, cd_set_ne, cd_set_set]
                    refine r_aload hO d_M_lay_111 rfl ?_
                    refine r_getR hO f_M_63 rfl hM.2.1 (mo_r18 hM) d_M_lay_112 ?_
                    try simp (disch := omega) only [cd_set_eq, cd_set_ne, cd_set_set]
                    refine r_iload hO d_M_lay_115 rfl ?_
                    refine r_iload hO d_M_lay_116 rfl ?_
                    refine r_k hO d_M_lay_117 ?_
                    refine r_icmp_ne hO d_M_lay_118 (fun c_118 => ?_) (fun c_118 => ?_)
                    · refine r_k hO d_M_lay_129 ?_
                      refine r_iast hO (mo_s18 hM) (mo_l18 hM) (by omega) (by decide) d_M_lay_130 ?_
                      try simp (disch := omega) only [cd_set_eq, cd_set_ne, cd_set_set]
                      refine r_k hO d_M_lay_131 ?_
                      refine r_sI5 hO d_M_lay_132 rfl ?_
                      refine r_mem (show _ = (cd_set (cd_l3 I m z t (I (m + 14) k9) (nI 0)) (m + 19) (cd_rg (I (m + 19)) (24 * z) 0 (fun i => I (m + 15) (24 * k9 + i)))) by rw [cd_rg_0]; exact (cd_set_self_at _ _ (by simp (disch := omega) only [cd_l3, cd_set_ne])).symm) ?_
                      exact loop z k9 (by omega) (by omega) c_31 _ (by unfold sp_lay; rw [if_pos c_4, if_pos c_13, if_neg c_18, if_pos c_31, if_pos c_38, cd_tn_nI (by omega), cd_tn_nI (by omega), if_pos c_55]) 24 0 (by decide)
                    · exact absurd c_118 c_18
                · exact absurd c_83 c_18
              · refine r_ldc hO k_M_186 d_M_lay_58 ?_
                refine r_iret hO hE (Nat.zero_le _) (Nat.zero_le _) d_M_lay_60 ?_
                exact cd_clm (by unfold sp_lay; rw [if_pos c_4, if_pos c_13, if_neg c_18, if_pos c_31, if_pos c_38, cd_tn_nI (by omega), cd_tn_nI (by omega), if_neg c_55])
          · refine r_ldc hO k_M_87 d_M_lay_41 ?_
            refine r_iret hO hE (Nat.zero_le _) (Nat.zero_le _) d_M_lay_43 ?_
            exact cd_clm (by unfold sp_lay; rw [if_pos c_4, if_pos c_13, if_neg c_18, if_pos c_31, if_neg c_38])
      · refine r_aload hO d_M_lay_21 rfl ?_
        refine r_iload hO d_M_lay_22 rfl ?_
        refine r_cV1fi hO hE (c_M_isAsking hM _) mf_M_isAsking lk_M_108 hM.2.1 rfl (by decide) rfl (Nat.le_of_ble_eq_true rfl) d_M_lay_23 (Nat.zero_le _) (Nat.zero_le _) ?_
        try simp (disch := omega) only [cd_set_eq, cd_set_ne, cd_set_set]
        refine r_if_eqB hO d_M_lay_26 (fun c_26 => ?_) (fun c_26 => ?_)
        · refine r_ldc hO k_M_87 d_M_lay_41 ?_
          refine r_iret hO hE (Nat.zero_le _) (Nat.zero_le _) d_M_lay_43 ?_
          exact cd_clm (by unfold sp_lay; rw [if_pos c_4, if_pos c_13, if_pos c_18, if_neg c_26])
        · obtain ⟨i, hi, rfl⟩ := cd_isA_ex hV.1 hV.2.1 c_26
          refine r_iload hO d_M_lay_29 rfl ?_
          refine r_k hO d_M_lay_30 ?_
          refine r_icmp_ne hO d_M_lay_31 (fun c_31 => ?_) (fun c_31 => ?_)
          · refine r_iload hO d_M_lay_44 rfl ?_
            refine r_k hO d_M_lay_45 ?_
            refine r_icmp_ne hO d_M_lay_46 (fun c_46 => ?_) (fun c_46 => ?_)
            · refine r_aload hO d_M_lay_61 rfl ?_
              refine r_getR hO f_M_57 rfl hM.2.1 (mo_r16 hM) d_M_lay_62 ?_
              try simp (disch := omega) only [cd_set_eq, cd_set_ne, cd_set_set]
              refine r_iload hO d_M_lay_65 rfl ?_
              refine r_iald hO (mo_s16 hM) (by omega) (by decide) d_M_lay_66 ?_
              try simp (disch := omega) only [cd_set_eq, cd_set_ne, cd_set_set]
              refine r_sI4 hO d_M_lay_67 rfl ?_
              refine r_aload hO d_M_lay_69 rfl ?_
              refine r_getR hO f_M_57 rfl hM.2.1 (mo_r16 hM) d_M_lay_70 ?_
              try simp (disch := omega) only [cd_set_eq, cd_set_ne, cd_set_set]
              refine r_iload hO d_M_lay_73 rfl ?_
              refine r_iload hO d_M_lay_74 rfl ?_
              refine r_iast hO (mo_s16 hM) (mo_l16 hM) (by omega) (by decide) d_M_lay_75 ?_
              try simp (disch := omega) only [cd_set_eq, cd_set_ne, cd_set_set]
              refine r_aload hO d_M_lay_76 rfl ?_
              refine r_getR hO f_M_60 rfl hM.2.1 (mo_r17 hM) d_M_lay_77 ?_
              try simp (disch := omega) only [cd_set_eq, cd_set_ne, cd_set_set]
              refine r_iload hO d_M_lay_80 rfl ?_
              refine r_iload hO d_M_lay_81 rfl ?_
              refine r_k hO d_M_lay_82 ?_
              refine r_icmp_ne hO d_M_lay_83 (fun c_83 => ?_) (fun c_83 => ?_)
              · exact absurd c_18 c_83
              · refine r_aload hO d_M_lay_86 rfl ?_
                refine r_iload hO d_M_lay_87 rfl ?_
                refine r_k hO d_M_lay_88 ?_
                refine r_cV2fi hO hE (c_M_of hM _ _ (by omega)) mf_M_of lk_M_97 hM.2.1 rfl (by decide) rfl (Nat.le_of_ble_eq_true rfl) d_M_lay_89 (Nat.zero_le _) (Nat.zero_le _) ?_
                try simp (disch := omega) only [cd_set_eq, cd_set_ne, cd_set_set]
                refine r_goto hO d_M_lay_92 ?_
                refine r_iast hO (mo_s17 hM) (mo_l17 hM) (by omega) (by decide) d_M_lay_110 ?_
                try simp (disch := omega) only [cd_set_eq, cd_set_ne, cd_set_set]
                refine r_aload hO d_M_lay_111 rfl ?_
                refine r_getR hO f_M_63 rfl hM.2.1 (mo_r18 hM) d_M_lay_112 ?_
                try simp (disch := omega) only [cd_set_eq, cd_set_ne, cd_set_set]
                refine r_iload hO d_M_lay_115 rfl ?_
                refine r_iload hO d_M_lay_116 rfl ?_
                refine r_k hO d_M_lay_117 ?_
                refine r_icmp_ne hO d_M_lay_118 (fun c_118 => ?_) (fun c_118 => ?_)
                · exact absurd c_18 c_118
                · refine r_aload hO d_M_lay_121 rfl ?_
                  refine r_iload hO d_M_lay_122 rfl ?_
                  refine r_cV1fi hO hE (c_M_worthOf hM _ (by omega)) mf_M_worthOf lk_M_127 hM.2.1 rfl (by decide) rfl (Nat.le_of_ble_eq_true rfl) d_M_lay_123 (Nat.zero_le _) (Nat.zero_le _) ?_
                  try simp (disch := omega) only [cd_set_eq, cd_set_ne, cd_set_set]
                  refine r_goto hO d_M_lay_126 ?_
                  refine r_iast hO (mo_s18 hM) (mo_l18 hM) (by omega) (by decide) d_M_lay_130 ?_
                  try simp (disch := omega) only [cd_set_eq, cd_set_ne, cd_set_set]
                  refine r_k hO d_M_lay_131 ?_
                  refine r_sI5 hO d_M_lay_132 rfl ?_
                  refine r_iload hO d_M_lay_134 rfl ?_
                  refine r_k hO d_M_lay_136 ?_
                  refine r_icmp_ge hO d_M_lay_138 (fun c_138 => ?_) (fun c_138 => ?_)
                  · exact absurd c_138 (by decide)
                  · refine r_iload hO d_M_lay_141 rfl ?_
                    refine r_k hO d_M_lay_142 ?_
                    refine r_icmp_ne hO d_M_lay_143 (fun c_143 => ?_) (fun c_143 => ?_)
                    · refine r_iload hO d_M_lay_176 rfl ?_
                      refine r_iret hO hE (Nat.zero_le _) (Nat.zero_le _) d_M_lay_178 ?_
                      exact cd_clm (by unfold sp_lay; rw [if_pos c_4, if_pos c_13, if_pos c_18, if_pos c_26, cd_tn_nI (by omega), cd_tn_nI (by omega)]; rfl)
                    · exact absurd c_143 c_31
            · exact absurd c_46 c_31
          · exact absurd (c_18.symm.trans c_31) (by decide)
theorem d_M_ask_0 : cd_D_iload b_M_ask 0 1 1 := Or.inr ⟨1, ⟨by decide +kernel, rfl⟩, rfl⟩
theorem d_M_ask_1 : cd_D 3 b_M_ask 1 (.invokestatic 263) 4 := ⟨by decide +kernel, rfl⟩
theorem d_M_ask_4 : cd_D_if_eq b_M_ask 4 16 7 := ⟨12, by decide +kernel, by decide, rfl⟩
theorem d_M_ask_7 : cd_D_iload b_M_ask 7 2 8 := Or.inr ⟨2, ⟨by decide +kernel, rfl⟩, rfl⟩
theorem d_M_ask_8 : cd_Dk b_M_ask 8 (nI 0) 9 := Or.inl ⟨0, ⟨by decide +kernel, rfl⟩, by decide +kernel⟩
theorem d_M_ask_9 : cd_Dk b_M_ask 9 (nI 5) 10 := Or.inl ⟨5, ⟨by decide +kernel, rfl⟩, by decide +kernel⟩
theorem d_M_ask_10 : cd_D 3 b_M_ask 10 (.invokestatic 75) 13 := ⟨by decide +kernel, rfl⟩
theorem d_M_ask_13 : cd_D_if_ne b_M_ask 13 19 16 := ⟨6, by decide +kernel, by decide, rfl⟩
theorem d_M_ask_16 : cd_D 2 b_M_ask 16 (.ldc 87) 18 := ⟨by decide +kernel, rfl⟩
theorem d_M_ask_18 : cd_D 1 b_M_ask 18 .ireturn 19 := ⟨by decide +kernel, rfl⟩
theorem d_M_ask_19 : cd_D_aload b_M_ask 19 0 20 := Or.inr ⟨0, ⟨by decide +kernel, rfl⟩, rfl⟩
theorem d_M_ask_20 : cd_D 3 b_M_ask 20 (.getfield 57) 23 := ⟨by decide +kernel, rfl⟩
theorem d_M_ask_23 : cd_D_iload b_M_ask 23 1 24 := Or.inr ⟨1, ⟨by decide +kernel, rfl⟩, rfl⟩
theorem d_M_ask_24 : cd_D 1 b_M_ask 24 .iaload 25 := ⟨by decide +kernel, rfl⟩
theorem d_M_ask_25 : cd_D_if_ne b_M_ask 25 31 28 := ⟨6, by decide +kernel, by decide, rfl⟩
theorem d_M_ask_28 : cd_D 2 b_M_ask 28 (.ldc 186) 30 := ⟨by decide +kernel, rfl⟩
theorem d_M_ask_30 : cd_D 1 b_M_ask 30 .ireturn 31 := ⟨by decide +kernel, rfl⟩
theorem d_M_ask_31 : cd_D_aload b_M_ask 31 0 32 := Or.inr ⟨0, ⟨by decide +kernel, rfl⟩, rfl⟩
theorem d_M_ask_32 : cd_D 3 b_M_ask 32 (.getfield 57) 35 := ⟨by decide +kernel, rfl⟩
theorem d_M_ask_35 : cd_D_iload b_M_ask 35 1 36 := Or.inr ⟨1, ⟨by decide +kernel, rfl⟩, rfl⟩
theorem d_M_ask_36 : cd_D 1 b_M_ask 36 .iaload 37 := ⟨by decide +kernel, rfl⟩
theorem d_M_ask_37 : cd_Dk b_M_ask 37 (nI 1) 38 := Or.inl ⟨1, ⟨by decide +kernel, rfl⟩, by decide +kernel⟩
theorem d_M_ask_38 : cd_D_icmp_ne b_M_ask 38 63 41 := ⟨25, by decide +kernel, by decide, rfl⟩
theorem d_M_ask_41 : cd_D_aload b_M_ask 41 0 42 := Or.inr ⟨0, ⟨by decide +kernel, rfl⟩, rfl⟩
theorem d_M_ask_42 : cd_D 3 b_M_ask 42 (.getfield 60) 45 := ⟨by decide +kernel, rfl⟩
theorem d_M_ask_45 : cd_D_iload b_M_ask 45 1 46 := Or.inr ⟨1, ⟨by decide +kernel, rfl⟩, rfl⟩
theorem d_M_ask_46 : cd_D 1 b_M_ask 46 .iaload 47 := ⟨by decide +kernel, rfl⟩
theorem d_M_ask_47 : cd_D_iload b_M_ask 47 2 48 := Or.inr ⟨2, ⟨by decide +kernel, rfl⟩, rfl⟩
theorem d_M_ask_48 : cd_D 3 b_M_ask 48 (.invokestatic 130) 51 := ⟨by decide +kernel, rfl⟩
theorem d_M_ask_51 : cd_D_if_eq b_M_ask 51 63 54 := ⟨12, by decide +kernel, by decide, rfl⟩
theorem d_M_ask_54 : cd_D_aload b_M_ask 54 0 55 := Or.inr ⟨0, ⟨by decide +kernel, rfl⟩, rfl⟩
theorem d_M_ask_55 : cd_D 3 b_M_ask 55 (.getfield 63) 58 := ⟨by decide +kernel, rfl⟩
theorem d_M_ask_58 : cd_D_iload b_M_ask 58 1 59 := Or.inr ⟨1, ⟨by decide +kernel, rfl⟩, rfl⟩
theorem d_M_ask_59 : cd_D 1 b_M_ask 59 .iaload 60 := ⟨by decide +kernel, rfl⟩
theorem d_M_ask_60 : cd_D_goto b_M_ask 60 65 := ⟨5, by decide +kernel, by decide⟩
theorem d_M_ask_63 : cd_D 2 b_M_ask 63 (.ldc 133) 65 := ⟨by decide +kernel, rfl⟩
theorem d_M_ask_65 : cd_D 1 b_M_ask 65 .ireturn 66 := ⟨by decide +kernel, rfl⟩
theorem c_M_ask {l : Launch} {w : cd_WT} {S : cd_Sp} {I : cd_Mem} {m : Nat} (hM : cd_MO w S m) (s k : Int32) : cd_C l w m_M_ask 2 0 0 [.ref m, .int s, .int k] S I (cd_Fi S (sp_ask (I (m + 16)) (I (m + 17)) (I (m + 18)) s k) I) := by
  refine cd_intro (by decide) (by simp [Value.category]) (Nat.le_of_ble_eq_true rfl) ?_
  intro X hO hE
  show cd_J w X 0 0 S I 0 [some (.ref m), some (.int s), some (.int k)] []
  refine r_iload hO d_M_ask_0 rfl ?_
  refine r_cS1fi hO hE (c_M_isSlot _) mf_M_isSlot lk_M_263 (by decide) rfl (Nat.le_of_ble_eq_true rfl) d_M_ask_1 (Nat.zero_le _) (Nat.zero_le _) ?_
  refine r_if_eqB hO d_M_ask_4 (fun c_4 => ?_) (fun c_4 => ?_)
  · refine r_ldc hO k_M_87 d_M_ask_16 ?_
    refine r_iret hO hE (Nat.zero_le _) (Nat.zero_le _) d_M_ask_18 ?_
    exact ⟨by unfold sp_ask; rw [if_neg c_4], rfl, rfl⟩
  · obtain ⟨z, hz1, hz2, rfl⟩ := cd_in_ex c_4 (by decide) (by decide)
    refine r_iload hO d_M_ask_7 rfl ?_
    refine r_k hO d_M_ask_8 ?_
    refine r_k hO d_M_ask_9 ?_
    refine r_cS3fi hO hE (c_M_in _ _ _) mf_M_in lk_M_75 (by decide) rfl (Nat.le_of_ble_eq_true rfl) d_M_ask_10 (Nat.zero_le _) (Nat.zero_le _) ?_
    refine r_if_neB hO d_M_ask_13 (fun c_13 => ?_) (fun c_13 => ?_)
    · refine r_aload hO d_M_ask_19 rfl ?_
      refine r_getR hO f_M_57 rfl hM.2.1 (mo_r16 hM) d_M_ask_20 ?_
      refine r_iload hO d_M_ask_23 rfl ?_
      refine r_iald hO (mo_s16 hM) (by omega) (by decide) d_M_ask_24 ?_
      refine r_if_ne hO d_M_ask_25 (fun c_25 => ?_) (fun c_25 => ?_)
      · refine r_aload hO d_M_ask_31 rfl ?_
        refine r_getR hO f_M_57 rfl hM.2.1 (mo_r16 hM) d_M_ask_32 ?_
        refine r_iload hO d_M_ask_35 rfl ?_
        refine r_iald hO (mo_s16 hM) (by omega) (by decide) d_M_ask_36 ?_
        refine r_k hO d_M_ask_37 ?_
        refine r_icmp_ne hO d_M_ask_38 (fun c_38 => ?_) (fun c_38 => ?_)
        · refine r_ldc hO k_M_133 d_M_ask_63 ?_
          refine r_iret hO hE (Nat.zero_le _) (Nat.zero_le _) d_M_ask_65 ?_
          exact ⟨by unfold sp_ask; rw [if_pos c_4, if_pos c_13, cd_tn_nI (by omega), if_neg c_25, if_neg c_38], rfl, rfl⟩
        · refine r_aload hO d_M_ask_41 rfl ?_
          refine r_getR hO f_M_60 rfl hM.2.1 (mo_r17 hM) d_M_ask_42 ?_
          refine r_iload hO d_M_ask_45 rfl ?_
          refine r_iald hO (mo_s17 hM) (by omega) (by decide) d_M_ask_46 ?_
          refine r_iload hO d_M_ask_47 rfl ?_
          refine r_cS2fi hO hE (c_M_isUnder _ _) mf_M_isUnder lk_M_130 (by decide) rfl (Nat.le_of_ble_eq_true rfl) d_M_ask_48 (Nat.zero_le _) (Nat.zero_le _) ?_
          refine r_if_eqB hO d_M_ask_51 (fun c_51 => ?_) (fun c_51 => ?_)
          · refine r_ldc hO k_M_133 d_M_ask_63 ?_
            refine r_iret hO hE (Nat.zero_le _) (Nat.zero_le _) d_M_ask_65 ?_
            exact ⟨by unfold sp_ask; rw [if_pos c_4, if_pos c_13, cd_tn_nI (by omega), if_neg c_25, if_pos c_38, if_neg c_51], rfl, rfl⟩
          · refine r_aload hO d_M_ask_54 rfl ?_
            refine r_getR hO f_M_63 rfl hM.2.1 (mo_r18 hM) d_M_ask_55 ?_
            refine r_iload hO d_M_ask_58 rfl ?_
            refine r_iald hO (mo_s18 hM) (by omega) (by decide) d_M_ask_59 ?_
            refine r_goto hO d_M_ask_60 ?_
            refine r_iret hO hE (Nat.zero_le _) (Nat.zero_le _) d_M_ask_65 ?_
            exact ⟨by unfold sp_ask; rw [if_pos c_4, if_pos c_13, cd_tn_nI (by omega), if_neg c_25, if_pos c_38, if_pos c_51], rfl, rfl⟩
      · refine r_ldc hO k_M_186 d_M_ask_28 ?_
        refine r_iret hO hE (Nat.zero_le _) (Nat.zero_le _) d_M_ask_30 ?_
        exact ⟨by unfold sp_ask; rw [if_pos c_4, if_pos c_13, cd_tn_nI (by omega), if_pos c_25], rfl, rfl⟩
    · refine r_ldc hO k_M_87 d_M_ask_16 ?_
      refine r_iret hO hE (Nat.zero_le _) (Nat.zero_le _) d_M_ask_18 ?_
      exact ⟨by unfold sp_ask; rw [if_pos c_4, if_neg c_13], rfl, rfl⟩
theorem d_M_item_0 : cd_D_iload b_M_item 0 1 1 := Or.inr ⟨1, ⟨by decide +kernel, rfl⟩, rfl⟩
theorem d_M_item_1 : cd_D 3 b_M_item 1 (.invokestatic 263) 4 := ⟨by decide +kernel, rfl⟩
theorem d_M_item_4 : cd_D_if_ne b_M_item 4 10 7 := ⟨6, by decide +kernel, by decide, rfl⟩
theorem d_M_item_7 : cd_D 2 b_M_item 7 (.ldc 87) 9 := ⟨by decide +kernel, rfl⟩
theorem d_M_item_9 : cd_D 1 b_M_item 9 .ireturn 10 := ⟨by decide +kernel, rfl⟩
theorem d_M_item_10 : cd_D_aload b_M_item 10 0 11 := Or.inr ⟨0, ⟨by decide +kernel, rfl⟩, rfl⟩
theorem d_M_item_11 : cd_D 3 b_M_item 11 (.getfield 57) 14 := ⟨by decide +kernel, rfl⟩
theorem d_M_item_14 : cd_D_iload b_M_item 14 1 15 := Or.inr ⟨1, ⟨by decide +kernel, rfl⟩, rfl⟩
theorem d_M_item_15 : cd_D 1 b_M_item 15 .iaload 16 := ⟨by decide +kernel, rfl⟩
theorem d_M_item_16 : cd_D_if_ne b_M_item 16 22 19 := ⟨6, by decide +kernel, by decide, rfl⟩
theorem d_M_item_19 : cd_D 2 b_M_item 19 (.ldc 186) 21 := ⟨by decide +kernel, rfl⟩
theorem d_M_item_21 : cd_D 1 b_M_item 21 .ireturn 22 := ⟨by decide +kernel, rfl⟩
theorem d_M_item_22 : cd_D_aload b_M_item 22 0 23 := Or.inr ⟨0, ⟨by decide +kernel, rfl⟩, rfl⟩
theorem d_M_item_23 : cd_D 3 b_M_item 23 (.getfield 57) 26 := ⟨by decide +kernel, rfl⟩
theorem d_M_item_26 : cd_D_iload b_M_item 26 1 27 := Or.inr ⟨1, ⟨by decide +kernel, rfl⟩, rfl⟩
theorem d_M_item_27 : cd_D 1 b_M_item 27 .iaload 28 := ⟨by decide +kernel, rfl⟩
theorem d_M_item_28 : cd_Dk b_M_item 28 (nI 2) 29 := Or.inl ⟨2, ⟨by decide +kernel, rfl⟩, by decide +kernel⟩
theorem d_M_item_29 : cd_D_icmp_eq b_M_item 29 35 32 := ⟨6, by decide +kernel, by decide, rfl⟩
theorem d_M_item_32 : cd_D 2 b_M_item 32 (.ldc 133) 34 := ⟨by decide +kernel, rfl⟩
theorem d_M_item_34 : cd_D 1 b_M_item 34 .ireturn 35 := ⟨by decide +kernel, rfl⟩
theorem d_M_item_35 : cd_D_iload b_M_item 35 2 36 := Or.inr ⟨2, ⟨by decide +kernel, rfl⟩, rfl⟩
theorem d_M_item_36 : cd_Dk b_M_item 36 (nI 0) 37 := Or.inl ⟨0, ⟨by decide +kernel, rfl⟩, by decide +kernel⟩
theorem d_M_item_37 : cd_D_aload b_M_item 37 0 38 := Or.inr ⟨0, ⟨by decide +kernel, rfl⟩, rfl⟩
theorem d_M_item_38 : cd_D 3 b_M_item 38 (.getfield 60) 41 := ⟨by decide +kernel, rfl⟩
theorem d_M_item_41 : cd_D_iload b_M_item 41 1 42 := Or.inr ⟨1, ⟨by decide +kernel, rfl⟩, rfl⟩
theorem d_M_item_42 : cd_D 1 b_M_item 42 .iaload 43 := ⟨by decide +kernel, rfl⟩
theorem d_M_item_43 : cd_Dk b_M_item 43 (nI 1) 44 := Or.inl ⟨1, ⟨by decide +kernel, rfl⟩, by decide +kernel⟩
theorem d_M_item_44 : cd_D 1 b_M_item 44 .isub 45 := ⟨by decide +kernel, rfl⟩
theorem d_M_item_45 : cd_D 3 b_M_item 45 (.invokestatic 75) 48 := ⟨by decide +kernel, rfl⟩
theorem d_M_item_48 : cd_D_if_ne b_M_item 48 55 51 := ⟨7, by decide +kernel, by decide, rfl⟩
theorem d_M_item_51 : cd_D 3 b_M_item 51 (.ldc_w 260) 54 := ⟨by decide +kernel, rfl⟩
theorem d_M_item_54 : cd_D 1 b_M_item 54 .ireturn 55 := ⟨by decide +kernel, rfl⟩
theorem d_M_item_55 : cd_D_aload b_M_item 55 0 56 := Or.inr ⟨0, ⟨by decide +kernel, rfl⟩, rfl⟩
theorem d_M_item_56 : cd_D 3 b_M_item 56 (.getfield 66) 59 := ⟨by decide +kernel, rfl⟩
theorem d_M_item_59 : cd_Dk b_M_item 59 (nI 24) 61 := Or.inr (Or.inl ⟨24, ⟨by decide +kernel, rfl⟩, by decide +kernel⟩)
theorem d_M_item_61 : cd_D_iload b_M_item 61 1 62 := Or.inr ⟨1, ⟨by decide +kernel, rfl⟩, rfl⟩
theorem d_M_item_62 : cd_D 1 b_M_item 62 .imul 63 := ⟨by decide +kernel, rfl⟩
theorem d_M_item_63 : cd_D_iload b_M_item 63 2 64 := Or.inr ⟨2, ⟨by decide +kernel, rfl⟩, rfl⟩
theorem d_M_item_64 : cd_D 1 b_M_item 64 .iadd 65 := ⟨by decide +kernel, rfl⟩
theorem d_M_item_65 : cd_D 1 b_M_item 65 .iaload 66 := ⟨by decide +kernel, rfl⟩
theorem d_M_item_66 : cd_D_istore b_M_item 66 3 67 := Or.inr ⟨3, ⟨by decide +kernel, rfl⟩, rfl⟩
theorem d_M_item_67 : cd_D_iload b_M_item 67 3 68 := Or.inr ⟨3, ⟨by decide +kernel, rfl⟩, rfl⟩
theorem d_M_item_68 : cd_D 2 b_M_item 68 (.ldc 176) 70 := ⟨by decide +kernel, rfl⟩
theorem d_M_item_70 : cd_D_icmp_ne b_M_item 70 78 73 := ⟨8, by decide +kernel, by decide, rfl⟩
theorem d_M_item_73 : cd_D 2 b_M_item 73 (.ldc 133) 75 := ⟨by decide +kernel, rfl⟩
theorem d_M_item_75 : cd_D_goto b_M_item 75 79 := ⟨4, by decide +kernel, by decide⟩
theorem d_M_item_78 : cd_D_iload b_M_item 78 3 79 := Or.inr ⟨3, ⟨by decide +kernel, rfl⟩, rfl⟩
theorem d_M_item_79 : cd_D 1 b_M_item 79 .ireturn 80 := ⟨by decide +kernel, rfl⟩
theorem c_M_item {l : Launch} {w : cd_WT} {S : cd_Sp} {I : cd_Mem} {m : Nat} (hM : cd_MO w S m) (hVL : cd_VL (I (m + 16)) (I (m + 17))) (s p : Int32) : cd_C l w m_M_item 2 0 0 [.ref m, .int s, .int p] S I (cd_Fi S (sp_item (I (m + 16)) (I (m + 17)) (I (m + 19)) s p) I) := by
  refine cd_intro (by decide) (by simp [Value.category]) (Nat.le_of_ble_eq_true rfl) ?_
  intro X hO hE
  show cd_J w X 0 0 S I 0 [some (.ref m), some (.int s), some (.int p), none] []
  refine r_iload hO d_M_item_0 rfl ?_
  refine r_cS1fi hO hE (c_M_isSlot _) mf_M_isSlot lk_M_263 (by decide) rfl (Nat.le_of_ble_eq_true rfl) d_M_item_1 (Nat.zero_le _) (Nat.zero_le _) ?_
  refine r_if_neB hO d_M_item_4 (fun c_4 => ?_) (fun c_4 => ?_)
  · obtain ⟨z, hz1, hz2, rfl⟩ := cd_in_ex c_4 (by decide) (by decide)
    refine r_aload hO d_M_item_10 rfl ?_
    refine r_getR hO f_M_57 rfl hM.2.1 (mo_r16 hM) d_M_item_11 ?_
    refine r_iload hO d_M_item_14 rfl ?_
    refine r_iald hO (mo_s16 hM) (by omega) (by decide) d_M_item_15 ?_
    refine r_if_ne hO d_M_item_16 (fun c_16 => ?_) (fun c_16 => ?_)
    · refine r_aload hO d_M_item_22 rfl ?_
      refine r_getR hO f_M_57 rfl hM.2.1 (mo_r16 hM) d_M_item_23 ?_
      refine r_iload hO d_M_item_26 rfl ?_
      refine r_iald hO (mo_s16 hM) (by omega) (by decide) d_M_item_27 ?_
      refine r_k hO d_M_item_28 ?_
      refine r_icmp_eq hO d_M_item_29 (fun c_29 => ?_) (fun c_29 => ?_)
      · obtain ⟨y, hy, hyz⟩ := hVL z (by omega) c_29
        refine r_iload hO d_M_item_35 rfl ?_
        refine r_k hO d_M_item_36 ?_
        refine r_aload hO d_M_item_37 rfl ?_
        refine r_getR hO f_M_60 rfl hM.2.1 (mo_r17 hM) d_M_item_38 ?_
        refine r_iload hO d_M_item_41 rfl ?_
        refine r_iald hO (mo_s17 hM) (by omega) (by decide) d_M_item_42 ?_
        refine r_k hO d_M_item_43 ?_
        refine r_isub hO d_M_item_44 ?_
        refine r_cS3fi hO hE (c_M_in _ _ _) mf_M_in lk_M_75 (by decide) rfl (Nat.le_of_ble_eq_true rfl) d_M_item_45 (Nat.zero_le _) (Nat.zero_le _) ?_
        refine r_if_neB hO d_M_item_48 (fun c_48 => ?_) (fun c_48 => ?_)
        · obtain ⟨p9, hp9, rfl⟩ := cd_isP_ex hyz hy c_48
          refine r_aload hO d_M_item_55 rfl ?_
          refine r_getR hO f_M_66 rfl hM.2.1 (mo_r19 hM) d_M_item_56 ?_
          refine r_k hO d_M_item_59 ?_
          refine r_iload hO d_M_item_61 rfl ?_
          refine r_imulN hO d_M_item_62 ?_
          refine r_iload hO d_M_item_63 rfl ?_
          refine r_iaddN hO d_M_item_64 ?_
          refine r_iald hO (mo_s19 hM) (by omega) (by decide) d_M_item_65 ?_
          refine r_sI3 hO d_M_item_66 rfl ?_
          refine r_iload hO d_M_item_67 rfl ?_
          refine r_ldc hO k_M_176 d_M_item_68 ?_
          refine r_icmp_ne hO d_M_item_70 (fun c_70 => ?_) (fun c_70 => ?_)
          · refine r_iload hO d_M_item_78 rfl ?_
            refine r_iret hO hE (Nat.zero_le _) (Nat.zero_le _) d_M_item_79 ?_
            exact ⟨by unfold sp_item; rw [if_pos c_4, cd_tn_nI (by omega), if_neg c_16, if_pos c_29, if_pos c_48, cd_tn_nI (by omega), if_neg c_70], rfl, rfl⟩
          · refine r_ldc hO k_M_133 d_M_item_73 ?_
            refine r_goto hO d_M_item_75 ?_
            refine r_iret hO hE (Nat.zero_le _) (Nat.zero_le _) d_M_item_79 ?_
            exact ⟨by unfold sp_item; rw [if_pos c_4, cd_tn_nI (by omega), if_neg c_16, if_pos c_29, if_pos c_48, cd_tn_nI (by omega), if_pos c_70], rfl, rfl⟩
        · refine r_ldcw hO k_M_260 d_M_item_51 ?_
          refine r_iret hO hE (Nat.zero_le _) (Nat.zero_le _) d_M_item_54 ?_
          exact ⟨by unfold sp_item; rw [if_pos c_4, cd_tn_nI (by omega), if_neg c_16, if_pos c_29, if_neg c_48], rfl, rfl⟩
      · refine r_ldc hO k_M_133 d_M_item_32 ?_
        refine r_iret hO hE (Nat.zero_le _) (Nat.zero_le _) d_M_item_34 ?_
        exact ⟨by unfold sp_item; rw [if_pos c_4, cd_tn_nI (by omega), if_neg c_16, if_neg c_29], rfl, rfl⟩
    · refine r_ldc hO k_M_186 d_M_item_19 ?_
      refine r_iret hO hE (Nat.zero_le _) (Nat.zero_le _) d_M_item_21 ?_
      exact ⟨by unfold sp_item; rw [if_pos c_4, cd_tn_nI (by omega), if_pos c_16], rfl, rfl⟩
  · refine r_ldc hO k_M_87 d_M_item_7 ?_
    refine r_iret hO hE (Nat.zero_le _) (Nat.zero_le _) d_M_item_9 ?_
    exact ⟨by unfold sp_item; rw [if_neg c_4], rfl, rfl⟩
theorem d_M_rest_0 : cd_D_iload b_M_rest 0 1 1 := Or.inr ⟨1, ⟨by decide +kernel, rfl⟩, rfl⟩
theorem d_M_rest_1 : cd_D 3 b_M_rest 1 (.invokestatic 263) 4 := ⟨by decide +kernel, rfl⟩
theorem d_M_rest_4 : cd_D_if_ne b_M_rest 4 10 7 := ⟨6, by decide +kernel, by decide, rfl⟩
theorem d_M_rest_7 : cd_D 2 b_M_rest 7 (.ldc 87) 9 := ⟨by decide +kernel, rfl⟩
theorem d_M_rest_9 : cd_D 1 b_M_rest 9 .ireturn 10 := ⟨by decide +kernel, rfl⟩
theorem d_M_rest_10 : cd_D_aload b_M_rest 10 0 11 := Or.inr ⟨0, ⟨by decide +kernel, rfl⟩, rfl⟩
theorem d_M_rest_11 : cd_D 3 b_M_rest 11 (.getfield 57) 14 := ⟨by decide +kernel, rfl⟩
theorem d_M_rest_14 : cd_D_iload b_M_rest 14 1 15 := Or.inr ⟨1, ⟨by decide +kernel, rfl⟩, rfl⟩
theorem d_M_rest_15 : cd_D 1 b_M_rest 15 .iaload 16 := ⟨by decide +kernel, rfl⟩
theorem d_M_rest_16 : cd_D_if_ne b_M_rest 16 22 19 := ⟨6, by decide +kernel, by decide, rfl⟩
theorem d_M_rest_19 : cd_D 2 b_M_rest 19 (.ldc 186) 21 := ⟨by decide +kernel, rfl⟩
theorem d_M_rest_21 : cd_D 1 b_M_rest 21 .ireturn 22 := ⟨by decide +kernel, rfl⟩
theorem d_M_rest_22 : cd_D_aload b_M_rest 22 0 23 := Or.inr ⟨0, ⟨by decide +kernel, rfl⟩, rfl⟩
theorem d_M_rest_23 : cd_D 3 b_M_rest 23 (.getfield 57) 26 := ⟨by decide +kernel, rfl⟩
theorem d_M_rest_26 : cd_D_iload b_M_rest 26 1 27 := Or.inr ⟨1, ⟨by decide +kernel, rfl⟩, rfl⟩
theorem d_M_rest_27 : cd_D 1 b_M_rest 27 .iaload 28 := ⟨by decide +kernel, rfl⟩
theorem d_M_rest_28 : cd_Dk b_M_rest 28 (nI 3) 29 := Or.inl ⟨3, ⟨by decide +kernel, rfl⟩, by decide +kernel⟩
theorem d_M_rest_29 : cd_D_icmp_eq b_M_rest 29 35 32 := ⟨6, by decide +kernel, by decide, rfl⟩
theorem d_M_rest_32 : cd_D 2 b_M_rest 32 (.ldc 133) 34 := ⟨by decide +kernel, rfl⟩
theorem d_M_rest_34 : cd_D 1 b_M_rest 34 .ireturn 35 := ⟨by decide +kernel, rfl⟩
theorem d_M_rest_35 : cd_D_iload b_M_rest 35 2 36 := Or.inr ⟨2, ⟨by decide +kernel, rfl⟩, rfl⟩
theorem d_M_rest_36 : cd_D_if_ne b_M_rest 36 45 39 := ⟨9, by decide +kernel, by decide, rfl⟩
theorem d_M_rest_39 : cd_D 3 b_M_rest 39 (.ldc_w 266) 42 := ⟨by decide +kernel, rfl⟩
theorem d_M_rest_42 : cd_D_goto b_M_rest 42 62 := ⟨20, by decide +kernel, by decide⟩
theorem d_M_rest_45 : cd_D_iload b_M_rest 45 2 46 := Or.inr ⟨2, ⟨by decide +kernel, rfl⟩, rfl⟩
theorem d_M_rest_46 : cd_Dk b_M_rest 46 (-1) 47 := Or.inl ⟨-1, ⟨by decide +kernel, rfl⟩, by decide +kernel⟩
theorem d_M_rest_47 : cd_D_icmp_ne b_M_rest 47 54 50 := ⟨7, by decide +kernel, by decide, rfl⟩
theorem d_M_rest_50 : cd_Dk b_M_rest 50 (nI 0) 51 := Or.inl ⟨0, ⟨by decide +kernel, rfl⟩, by decide +kernel⟩
theorem d_M_rest_51 : cd_D_goto b_M_rest 51 62 := ⟨11, by decide +kernel, by decide⟩
theorem d_M_rest_54 : cd_D_aload b_M_rest 54 0 55 := Or.inr ⟨0, ⟨by decide +kernel, rfl⟩, rfl⟩
theorem d_M_rest_55 : cd_D 3 b_M_rest 55 (.getfield 60) 58 := ⟨by decide +kernel, rfl⟩
theorem d_M_rest_58 : cd_D_iload b_M_rest 58 1 59 := Or.inr ⟨1, ⟨by decide +kernel, rfl⟩, rfl⟩
theorem d_M_rest_59 : cd_D 1 b_M_rest 59 .iaload 60 := ⟨by decide +kernel, rfl⟩
theorem d_M_rest_60 : cd_D_iload b_M_rest 60 2 61 := Or.inr ⟨2, ⟨by decide +kernel, rfl⟩, rfl⟩
theorem d_M_rest_61 : cd_D 1 b_M_rest 61 .irem 62 := ⟨by decide +kernel, rfl⟩
theorem d_M_rest_62 : cd_D 1 b_M_rest 62 .ireturn 63 := ⟨by decide +kernel, rfl⟩
theorem c_M_rest {l : Launch} {w : cd_WT} {S : cd_Sp} {I : cd_Mem} {m : Nat} (hM : cd_MO w S m) (s n : Int32) : cd_C l w m_M_rest 2 0 0 [.ref m, .int s, .int n] S I (cd_Fi S (sp_rest (I (m + 16)) (I (m + 17)) s n) I) := by
  refine cd_intro (by decide) (by simp [Value.category]) (Nat.le_of_ble_eq_true rfl) ?_
  intro X hO hE
  show cd_J w X 0 0 S I 0 [some (.ref m), some (.int s), some (.int n)] []
  refine r_iload hO d_M_rest_0 rfl ?_
  refine r_cS1fi hO hE (c_M_isSlot _) mf_M_isSlot lk_M_263 (by decide) rfl (Nat.le_of_ble_eq_true rfl) d_M_rest_1 (Nat.zero_le _) (Nat.zero_le _) ?_
  refine r_if_neB hO d_M_rest_4 (fun c_4 => ?_) (fun c_4 => ?_)
  · obtain ⟨z, hz1, hz2, rfl⟩ := cd_in_ex c_4 (by decide) (by decide)
    refine r_aload hO d_M_rest_10 rfl ?_
    refine r_getR hO f_M_57 rfl hM.2.1 (mo_r16 hM) d_M_rest_11 ?_
    refine r_iload hO d_M_rest_14 rfl ?_
    refine r_iald hO (mo_s16 hM) (by omega) (by decide) d_M_rest_15 ?_
    refine r_if_ne hO d_M_rest_16 (fun c_16 => ?_) (fun c_16 => ?_)
    · refine r_aload hO d_M_rest_22 rfl ?_
      refine r_getR hO f_M_57 rfl hM.2.1 (mo_r16 hM) d_M_rest_23 ?_
      refine r_iload hO d_M_rest_26 rfl ?_
      refine r_iald hO (mo_s16 hM) (by omega) (by decide) d_M_rest_27 ?_
      refine r_k hO d_M_rest_28 ?_
      refine r_icmp_eq hO d_M_rest_29 (fun c_29 => ?_) (fun c_29 => ?_)
      · refine r_iload hO d_M_rest_35 rfl ?_
        refine r_if_ne hO d_M_rest_36 (fun c_36 => ?_) (fun c_36 => ?_)
        · refine r_iload hO d_M_rest_45 rfl ?_
          refine r_k hO d_M_rest_46 ?_
          refine r_icmp_ne hO d_M_rest_47 (fun c_47 => ?_) (fun c_47 => ?_)
          · refine r_aload hO d_M_rest_54 rfl ?_
            refine r_getR hO f_M_60 rfl hM.2.1 (mo_r17 hM) d_M_rest_55 ?_
            refine r_iload hO d_M_rest_58 rfl ?_
            refine r_iald hO (mo_s17 hM) (by omega) (by decide) d_M_rest_59 ?_
            refine r_iload hO d_M_rest_60 rfl ?_
            refine r_irem hO d_M_rest_61 c_36 ?_
            refine r_iret hO hE (Nat.zero_le _) (Nat.zero_le _) d_M_rest_62 ?_
            exact ⟨by unfold sp_rest; rw [if_pos c_4, cd_tn_nI (by omega), if_neg c_16, if_pos c_29, if_neg c_36, if_neg c_47], rfl, rfl⟩
          · refine r_k hO d_M_rest_50 ?_
            refine r_goto hO d_M_rest_51 ?_
            refine r_iret hO hE (Nat.zero_le _) (Nat.zero_le _) d_M_rest_62 ?_
            exact ⟨by unfold sp_rest; rw [if_pos c_4, cd_tn_nI (by omega), if_neg c_16, if_pos c_29, if_neg c_36, if_pos c_47], rfl, rfl⟩
        · refine r_ldcw hO k_M_266 d_M_rest_39 ?_
          refine r_goto hO d_M_rest_42 ?_
          refine r_iret hO hE (Nat.zero_le _) (Nat.zero_le _) d_M_rest_62 ?_
          exact ⟨by unfold sp_rest; rw [if_pos c_4, cd_tn_nI (by omega), if_neg c_16, if_pos c_29, if_pos c_36], rfl, rfl⟩
      · refine r_ldc hO k_M_133 d_M_rest_32 ?_
        refine r_iret hO hE (Nat.zero_le _) (Nat.zero_le _) d_M_rest_34 ?_
        exact ⟨by unfold sp_rest; rw [if_pos c_4, cd_tn_nI (by omega), if_neg c_16, if_neg c_29], rfl, rfl⟩
    · refine r_ldc hO k_M_186 d_M_rest_19 ?_
      refine r_iret hO hE (Nat.zero_le _) (Nat.zero_le _) d_M_rest_21 ?_
      exact ⟨by unfold sp_rest; rw [if_pos c_4, cd_tn_nI (by omega), if_pos c_16], rfl, rfl⟩
  · refine r_ldc hO k_M_87 d_M_rest_7 ?_
    refine r_iret hO hE (Nat.zero_le _) (Nat.zero_le _) d_M_rest_9 ?_
    exact ⟨by unfold sp_rest; rw [if_neg c_4], rfl, rfl⟩
end
section
theorem cd_dep_cg {nt : Int32} {c c' : Nat → Int32} : ∀ {n : Nat}, (∀ k, k < n → c k = c' k) → cd_dep nt c n = cd_dep nt c' n
  | 0, _ => rfl
  | n + 1, h => by
    unfold cd_dep
    rw [h n (by omega), cd_dep_cg (n := n) (fun k hk => h k (by omega))]
theorem cd_wf_cg {nt : Int32} {c c' : Nat → Int32} {n nb : Nat} (h : ∀ k, k < n → c k = c' k) (hw : cd_wf nt c n nb) : cd_wf nt c' n nb := fun k hk => by
  have := hw k hk
  rw [cd_dep_cg (n := k) (fun j hj => h j (by omega)), h k hk] at this
  exact this
theorem cd_V_cg {N N' : Nat → Int32} {mm tc : Nat} (hV : cd_V N mm tc) (h : ∀ j, j < 1448 → N' j = N j) : cd_V N' mm tc := by
  obtain ⟨a1, a2, a3, a4, a5⟩ := hV
  refine ⟨by rw [h 1 (by decide)]; exact a1, a2, by rw [h 15 (by decide)]; exact a3, a4, fun t ht => ?_⟩
  obtain ⟨ky, n, b1, b2, b3, b4, b5, b6⟩ := a5 t ht
  have e : ∀ k, k < n → N (104 + 96 * t + k) = N' (104 + 96 * t + k) := fun k hk => (h _ (by omega)).symm
  exact ⟨ky, n, by rw [h _ (by omega)]; exact b1, b2, b3, b4, cd_wf_cg e b5, by rw [← cd_dep_cg e]; exact b6⟩
def cd_cr (te N : Nat → Int32) (mm tc wt : Nat) : Nat → Nat
  | 0 => 0
  | k + 1 => if cd_cr te N mm tc wt k = 2 * k then (cd_cr te N mm tc wt k + (if cd_cr te N mm tc wt k < wt ∧ te (cd_cr te N mm tc wt k) = cd_hb (cd_hs N mm tc (k + 1)) mm then 1 else 0)) + (if cd_cr te N mm tc wt k + (if cd_cr te N mm tc wt k < wt ∧ te (cd_cr te N mm tc wt k) = cd_hb (cd_hs N mm tc (k + 1)) mm then 1 else 0) = 2 * k + 1 ∧ cd_cr te N mm tc wt k + (if cd_cr te N mm tc wt k < wt ∧ te (cd_cr te N mm tc wt k) = cd_hb (cd_hs N mm tc (k + 1)) mm then 1 else 0) < wt ∧ te (cd_cr te N mm tc wt k + (if cd_cr te N mm tc wt k < wt ∧ te (cd_cr te N mm tc wt k) = cd_hb (cd_hs N mm tc (k + 1)) mm then 1 else 0)) = cd_hs N mm tc (k + 1) 10 then 1 else 0) else cd_cr te N mm tc wt k
theorem cd_if01 (c : Prop) [Decidable c] : (if c then 1 else 0) ≤ 1 := by split <;> omega
theorem cd_cr_le (te N : Nat → Int32) (mm tc wt : Nat) : ∀ k, cd_cr te N mm tc wt k ≤ 2 * k
  | 0 => Nat.le_refl _
  | k + 1 => by
    have ih := cd_cr_le te N mm tc wt k
    unfold cd_cr
    split
    · refine Nat.le_trans (Nat.add_le_add (Nat.add_le_add ih (cd_if01 _)) (cd_if01 _)) (by omega)
    · omega
theorem cd_cr_st {te N : Nat → Int32} {mm tc wt k : Nat} (h : ¬ cd_cr te N mm tc wt k = 2 * k) : ∀ r, cd_cr te N mm tc wt (k + r) = cd_cr te N mm tc wt k
  | 0 => rfl
  | r + 1 => by
    have ih := cd_cr_st h r
    have hl := cd_cr_le te N mm tc wt k
    show (if cd_cr te N mm tc wt (k + r) = 2 * (k + r) then _ else cd_cr te N mm tc wt (k + r)) = _
    rw [ih, if_neg (by omega)]
def sp_check (te G : Nat → Int32) (mm tc hg wt : Nat) (img n : Int32) : Int32 := if nI 1 ≤ n ∧ n ≤ nI 30 then (if img = 0 then cd_NO else if cd_cr te G mm tc wt (min (9999 - hg) (cd_tn n)) = wt ∧ cd_cr te G mm tc wt (min (9999 - hg) (cd_tn n)) = 2 * min (9999 - hg) (cd_tn n) then nI 0 else nI (1 + cd_cr te G mm tc wt (min (9999 - hg) (cd_tn n)))) else cd_BAD
def sp_count (N : Nat → Int32) (wt tp q : Int32) : Int32 := if nI 1 ≤ q ∧ q ≤ nI 5 then N (2 + cd_tn q - 1) else if q = nI 0 then N 1 else if q = nI 6 then N 8 else if q = nI 7 then N 9 else if q = nI 8 then N 15 else if q = nI 9 then wt else if q = nI 10 then tp else if q = nI 11 then N 0 else cd_BAD
theorem d_M_tell_0 : cd_D_aload b_M_tell 0 0 1 := Or.inr ⟨0, ⟨by decide +kernel, rfl⟩, rfl⟩
theorem d_M_tell_1 : cd_D 3 b_M_tell 1 (.getfield 267) 4 := ⟨by decide +kernel, rfl⟩
theorem d_M_tell_4 : cd_Dk b_M_tell 4 (nI 60) 6 := Or.inr (Or.inl ⟨60, ⟨by decide +kernel, rfl⟩, by decide +kernel⟩)
theorem d_M_tell_6 : cd_D_icmp_ne b_M_tell 6 12 9 := ⟨6, by decide +kernel, by decide, rfl⟩
theorem d_M_tell_9 : cd_D 2 b_M_tell 9 (.ldc 88) 11 := ⟨by decide +kernel, rfl⟩
theorem d_M_tell_11 : cd_D 1 b_M_tell 11 .ireturn 12 := ⟨by decide +kernel, rfl⟩
theorem d_M_tell_12 : cd_D_aload b_M_tell 12 0 13 := Or.inr ⟨0, ⟨by decide +kernel, rfl⟩, rfl⟩
theorem d_M_tell_13 : cd_D 3 b_M_tell 13 (.getfield 72) 16 := ⟨by decide +kernel, rfl⟩
theorem d_M_tell_16 : cd_D_aload b_M_tell 16 0 17 := Or.inr ⟨0, ⟨by decide +kernel, rfl⟩, rfl⟩
theorem d_M_tell_17 : cd_D 3 b_M_tell 17 (.getfield 267) 20 := ⟨by decide +kernel, rfl⟩
theorem d_M_tell_20 : cd_D_iload b_M_tell 20 1 21 := Or.inr ⟨1, ⟨by decide +kernel, rfl⟩, rfl⟩
theorem d_M_tell_21 : cd_D 1 b_M_tell 21 .iastore 22 := ⟨by decide +kernel, rfl⟩
theorem d_M_tell_22 : cd_D_aload b_M_tell 22 0 23 := Or.inr ⟨0, ⟨by decide +kernel, rfl⟩, rfl⟩
theorem d_M_tell_23 : cd_D 1 b_M_tell 23 .dup 24 := ⟨by decide +kernel, rfl⟩
theorem d_M_tell_24 : cd_D 3 b_M_tell 24 (.getfield 267) 27 := ⟨by decide +kernel, rfl⟩
theorem d_M_tell_27 : cd_Dk b_M_tell 27 (nI 1) 28 := Or.inl ⟨1, ⟨by decide +kernel, rfl⟩, by decide +kernel⟩
theorem d_M_tell_28 : cd_D 1 b_M_tell 28 .iadd 29 := ⟨by decide +kernel, rfl⟩
theorem d_M_tell_29 : cd_D 3 b_M_tell 29 (.putfield 267) 32 := ⟨by decide +kernel, rfl⟩
theorem d_M_tell_32 : cd_D_aload b_M_tell 32 0 33 := Or.inr ⟨0, ⟨by decide +kernel, rfl⟩, rfl⟩
theorem d_M_tell_33 : cd_D 3 b_M_tell 33 (.getfield 267) 36 := ⟨by decide +kernel, rfl⟩
theorem d_M_tell_36 : cd_D 1 b_M_tell 36 .ireturn 37 := ⟨by decide +kernel, rfl⟩
theorem c_M_tell {l : Launch} {w : cd_WT} {S : cd_Sp} {I : cd_Mem} {m : Nat} (hM : cd_MO w S m) (wt : Nat) (hw : I m 32 = nI wt) (hw6 : wt ≤ 60) (v : Int32) : cd_C l w m_M_tell 0 0 0 [.ref m, .int v] S I (cd_Fi S (if wt = 60 then cd_FULL else nI (wt + 1)) (if wt = 60 then I else cd_set (cd_set I (m + 21) (upd (I (m + 21)) wt v)) m (upd (I m) 32 (nI (wt + 1))))) := by
  refine cd_intro (by decide) (by simp [Value.category]) (Nat.le_of_ble_eq_true rfl) ?_
  intro X hO hE
  show cd_J w X 0 0 S I 0 [some (.ref m), some (.int v)] []
  refine r_aload hO d_M_tell_0 rfl ?_
  refine r_getI hO f_M_267 rfl hM.2.1 d_M_tell_1 ?_
  refine r_tops hw ?_
  refine r_k hO d_M_tell_4 ?_
  refine r_icmp_ne hO d_M_tell_6 (fun c_6 => ?_) (fun c_6 => ?_)
  · have h60 : ¬ wt = 60 := fun q => c_6 (by rw [q])
    refine r_aload hO d_M_tell_12 rfl ?_
    refine r_getR hO f_M_72 rfl hM.2.1 (mo_r21 hM) d_M_tell_13 ?_
    refine r_aload hO d_M_tell_16 rfl ?_
    refine r_getI hO f_M_267 rfl hM.2.1 d_M_tell_17 ?_
    refine r_tops hw ?_
    refine r_iload hO d_M_tell_20 rfl ?_
    refine r_iast hO (mo_s21 hM) (mo_l21 hM) (by omega) (by decide) d_M_tell_21 ?_
    refine r_aload hO d_M_tell_22 rfl ?_
    refine r_dup hO d_M_tell_23 rfl ?_
    refine r_getI hO f_M_267 rfl hM.2.1 d_M_tell_24 ?_
    try simp (disch := omega) only [cd_set_eq, cd_set_ne, cd_set_set]
    refine r_tops hw ?_
    refine r_k hO d_M_tell_27 ?_
    refine r_iaddN hO d_M_tell_28 ?_
    refine r_putI hO f_M_267 rfl hM.2.1 hM.1 d_M_tell_29 ?_
    try simp (disch := omega) only [cd_set_eq, cd_set_ne, cd_set_set]
    refine r_aload hO d_M_tell_32 rfl ?_
    refine r_getI hO f_M_267 rfl hM.2.1 d_M_tell_33 ?_
    try simp (disch := omega) only [cd_set_eq, cd_set_ne, cd_set_set]
    refine r_tops (show _ = nI (wt + 1) from rfl) ?_
    refine r_iret hO hE (Nat.zero_le _) (Nat.zero_le _) d_M_tell_36 ?_
    exact ⟨by rw [if_neg h60], rfl, by rw [if_neg h60]⟩
  · have h60 : wt = 60 := (nI_eq (by omega) (by decide)).mp c_6
    refine r_ldc hO k_M_88 d_M_tell_9 ?_
    refine r_iret hO hE (Nat.zero_le _) (Nat.zero_le _) d_M_tell_11 ?_
    exact ⟨by rw [if_pos h60], rfl, by rw [if_pos h60]⟩
theorem d_M_keep_0 : cd_D_aload b_M_keep 0 0 1 := Or.inr ⟨0, ⟨by decide +kernel, rfl⟩, rfl⟩
theorem d_M_keep_1 : cd_D 3 b_M_keep 1 (.getfield 9) 4 := ⟨by decide +kernel, rfl⟩
theorem d_M_keep_4 : cd_D_aload b_M_keep 4 0 5 := Or.inr ⟨0, ⟨by decide +kernel, rfl⟩, rfl⟩
theorem d_M_keep_5 : cd_D 3 b_M_keep 5 (.getfield 13) 8 := ⟨by decide +kernel, rfl⟩
theorem d_M_keep_8 : cd_D 3 b_M_keep 8 (.invokestatic 274) 11 := ⟨by decide +kernel, rfl⟩
theorem d_M_keep_11 : cd_D_aload b_M_keep 11 0 12 := Or.inr ⟨0, ⟨by decide +kernel, rfl⟩, rfl⟩
theorem d_M_keep_12 : cd_Dk b_M_keep 12 (nI 1) 13 := Or.inl ⟨1, ⟨by decide +kernel, rfl⟩, by decide +kernel⟩
theorem d_M_keep_13 : cd_D 3 b_M_keep 13 (.putfield 270) 16 := ⟨by decide +kernel, rfl⟩
theorem d_M_keep_16 : cd_D_aload b_M_keep 16 0 17 := Or.inr ⟨0, ⟨by decide +kernel, rfl⟩, rfl⟩
theorem d_M_keep_17 : cd_D 3 b_M_keep 17 (.getfield 9) 20 := ⟨by decide +kernel, rfl⟩
theorem d_M_keep_20 : cd_Dk b_M_keep 20 (nI 1) 21 := Or.inl ⟨1, ⟨by decide +kernel, rfl⟩, by decide +kernel⟩
theorem d_M_keep_21 : cd_D 1 b_M_keep 21 .iaload 22 := ⟨by decide +kernel, rfl⟩
theorem d_M_keep_22 : cd_D 1 b_M_keep 22 .ireturn 23 := ⟨by decide +kernel, rfl⟩
theorem c_M_keep {l : Launch} {w : cd_WT} {S : cd_Sp} {I : cd_Mem} {m : Nat} (hM : cd_MO w S m)  : cd_C l w m_M_keep 1 0 0 [.ref m] S I (cd_Fi S (I (m + 1) 1) (cd_set (cd_set I (m + 2) (cd_cp 1448 (I (m + 1)) (I (m + 2)))) m (upd (I m) 3 (nI 1)))) := by
  refine cd_intro (by decide) (by simp [Value.category]) (Nat.le_of_ble_eq_true rfl) ?_
  intro X hO hE
  show cd_J w X 0 0 S I 0 [some (.ref m)] []
  refine r_aload hO d_M_keep_0 rfl ?_
  refine r_getR hO f_M_9 rfl hM.2.1 (mo_r1 hM) d_M_keep_1 ?_
  refine r_aload hO d_M_keep_4 rfl ?_
  refine r_getR hO f_M_13 rfl hM.2.1 (mo_r2 hM) d_M_keep_5 ?_
  refine r_cS2fv hO hE (c_M_copyAll (a := m + 1) (b := m + 2) (mo_s1 hM) (mo_s2 hM) (mo_l2 hM) (by omega)) mf_M_copyAll lk_M_274 (by decide) rfl (Nat.le_of_ble_eq_true rfl) d_M_keep_8 (Nat.zero_le _) (Nat.zero_le _) ?_
  try simp (disch := omega) only [cd_set_eq, cd_set_ne, cd_set_set]
  refine r_aload hO d_M_keep_11 rfl ?_
  refine r_k hO d_M_keep_12 ?_
  refine r_putZ hO f_M_270 rfl hM.2.1 hM.1 _ (Or.inr rfl) d_M_keep_13 ?_
  try simp (disch := omega) only [cd_set_eq, cd_set_ne, cd_set_set]
  refine r_aload hO d_M_keep_16 rfl ?_
  refine r_getR hO f_M_9 rfl hM.2.1 (mo_r1 hM) d_M_keep_17 ?_
  try simp (disch := omega) only [cd_set_eq, cd_set_ne, cd_set_set]
  refine r_k hO d_M_keep_20 ?_
  refine r_iald hO (mo_s1 hM) (by omega) (by decide) d_M_keep_21 ?_
  try simp (disch := omega) only [cd_set_eq, cd_set_ne, cd_set_set]
  refine r_iret hO hE (Nat.zero_le _) (Nat.zero_le _) d_M_keep_22 ?_
  exact ⟨rfl, rfl, rfl⟩
theorem d_M_back_0 : cd_D_aload b_M_back 0 0 1 := Or.inr ⟨0, ⟨by decide +kernel, rfl⟩, rfl⟩
theorem d_M_back_1 : cd_D 3 b_M_back 1 (.getfield 270) 4 := ⟨by decide +kernel, rfl⟩
theorem d_M_back_4 : cd_D_if_ne b_M_back 4 11 7 := ⟨7, by decide +kernel, by decide, rfl⟩
theorem d_M_back_7 : cd_D 3 b_M_back 7 (.ldc_w 266) 10 := ⟨by decide +kernel, rfl⟩
theorem d_M_back_10 : cd_D 1 b_M_back 10 .ireturn 11 := ⟨by decide +kernel, rfl⟩
theorem d_M_back_11 : cd_D_aload b_M_back 11 0 12 := Or.inr ⟨0, ⟨by decide +kernel, rfl⟩, rfl⟩
theorem d_M_back_12 : cd_D 3 b_M_back 12 (.getfield 13) 15 := ⟨by decide +kernel, rfl⟩
theorem d_M_back_15 : cd_D_aload b_M_back 15 0 16 := Or.inr ⟨0, ⟨by decide +kernel, rfl⟩, rfl⟩
theorem d_M_back_16 : cd_D 3 b_M_back 16 (.getfield 9) 19 := ⟨by decide +kernel, rfl⟩
theorem d_M_back_19 : cd_D 3 b_M_back 19 (.invokestatic 274) 22 := ⟨by decide +kernel, rfl⟩
theorem d_M_back_22 : cd_D_aload b_M_back 22 0 23 := Or.inr ⟨0, ⟨by decide +kernel, rfl⟩, rfl⟩
theorem d_M_back_23 : cd_D 3 b_M_back 23 (.getfield 9) 26 := ⟨by decide +kernel, rfl⟩
theorem d_M_back_26 : cd_Dk b_M_back 26 (nI 1) 27 := Or.inl ⟨1, ⟨by decide +kernel, rfl⟩, by decide +kernel⟩
theorem d_M_back_27 : cd_D 1 b_M_back 27 .iaload 28 := ⟨by decide +kernel, rfl⟩
theorem d_M_back_28 : cd_D 1 b_M_back 28 .ireturn 29 := ⟨by decide +kernel, rfl⟩
theorem c_M_back {l : Launch} {w : cd_WT} {S : cd_Sp} {I : cd_Mem} {m : Nat} (hM : cd_MO w S m)  : cd_C l w m_M_back 1 0 0 [.ref m] S I (cd_Fi S (if I m 3 = 0 then cd_NO else I (m + 2) 1) (if I m 3 = 0 then I else cd_set I (m + 1) (cd_cp 1448 (I (m + 2)) (I (m + 1))))) := by
  refine cd_intro (by decide) (by simp [Value.category]) (Nat.le_of_ble_eq_true rfl) ?_
  intro X hO hE
  show cd_J w X 0 0 S I 0 [some (.ref m)] []
  refine r_aload hO d_M_back_0 rfl ?_
  refine r_getI hO f_M_270 rfl hM.2.1 d_M_back_1 ?_
  refine r_if_ne hO d_M_back_4 (fun c_4 => ?_) (fun c_4 => ?_)
  · refine r_aload hO d_M_back_11 rfl ?_
    refine r_getR hO f_M_13 rfl hM.2.1 (mo_r2 hM) d_M_back_12 ?_
    refine r_aload hO d_M_back_15 rfl ?_
    refine r_getR hO f_M_9 rfl hM.2.1 (mo_r1 hM) d_M_back_16 ?_
    refine r_cS2fv hO hE (c_M_copyAll (a := m + 2) (b := m + 1) (mo_s2 hM) (mo_s1 hM) (mo_l1 hM) (by omega)) mf_M_copyAll lk_M_274 (by decide) rfl (Nat.le_of_ble_eq_true rfl) d_M_back_19 (Nat.zero_le _) (Nat.zero_le _) ?_
    try simp (disch := omega) only [cd_set_eq, cd_set_ne, cd_set_set]
    refine r_aload hO d_M_back_22 rfl ?_
    refine r_getR hO f_M_9 rfl hM.2.1 (mo_r1 hM) d_M_back_23 ?_
    try simp (disch := omega) only [cd_set_eq, cd_set_ne, cd_set_set]
    refine r_k hO d_M_back_26 ?_
    refine r_iald hO (mo_s1 hM) (by omega) (by decide) d_M_back_27 ?_
    try simp (disch := omega) only [cd_set_eq, cd_set_ne, cd_set_set]
    refine r_iret hO hE (Nat.zero_le _) (Nat.zero_le _) d_M_back_28 ?_
    exact ⟨by rw [if_neg c_4]; rfl, rfl, by rw [if_neg c_4]⟩
  · refine r_ldcw hO k_M_266 d_M_back_7 ?_
    refine r_iret hO hE (Nat.zero_le _) (Nat.zero_le _) d_M_back_10 ?_
    exact ⟨by rw [if_pos c_4], rfl, by rw [if_pos c_4]⟩
end
section
theorem d_M_count_0 : cd_D_iload b_M_count 0 1 1 := Or.inr ⟨1, ⟨by decide +kernel, rfl⟩, rfl⟩
theorem d_M_count_1 : cd_Dk b_M_count 1 (nI 1) 2 := Or.inl ⟨1, ⟨by decide +kernel, rfl⟩, by decide +kernel⟩
theorem d_M_count_2 : cd_Dk b_M_count 2 (nI 5) 3 := Or.inl ⟨5, ⟨by decide +kernel, rfl⟩, by decide +kernel⟩
theorem d_M_count_3 : cd_D 3 b_M_count 3 (.invokestatic 75) 6 := ⟨by decide +kernel, rfl⟩
theorem d_M_count_6 : cd_D_if_eq b_M_count 6 20 9 := ⟨14, by decide +kernel, by decide, rfl⟩
theorem d_M_count_9 : cd_D_aload b_M_count 9 0 10 := Or.inr ⟨0, ⟨by decide +kernel, rfl⟩, rfl⟩
theorem d_M_count_10 : cd_D 3 b_M_count 10 (.getfield 9) 13 := ⟨by decide +kernel, rfl⟩
theorem d_M_count_13 : cd_Dk b_M_count 13 (nI 2) 14 := Or.inl ⟨2, ⟨by decide +kernel, rfl⟩, by decide +kernel⟩
theorem d_M_count_14 : cd_D_iload b_M_count 14 1 15 := Or.inr ⟨1, ⟨by decide +kernel, rfl⟩, rfl⟩
theorem d_M_count_15 : cd_D 1 b_M_count 15 .iadd 16 := ⟨by decide +kernel, rfl⟩
theorem d_M_count_16 : cd_Dk b_M_count 16 (nI 1) 17 := Or.inl ⟨1, ⟨by decide +kernel, rfl⟩, by decide +kernel⟩
theorem d_M_count_17 : cd_D 1 b_M_count 17 .isub 18 := ⟨by decide +kernel, rfl⟩
theorem d_M_count_18 : cd_D 1 b_M_count 18 .iaload 19 := ⟨by decide +kernel, rfl⟩
theorem d_M_count_19 : cd_D 1 b_M_count 19 .ireturn 20 := ⟨by decide +kernel, rfl⟩
theorem d_M_count_20 : cd_D_iload b_M_count 20 1 21 := Or.inr ⟨1, ⟨by decide +kernel, rfl⟩, rfl⟩
theorem d_M_count_21 : decode b_M_count 21 = .ok (.tableswitch (111) (0) (11) #[63, 111, 111, 111, 111, 111, 70, 78, 86, 94, 99, 104], 63) := by decide +kernel
theorem d_M_count_84 : cd_D_aload b_M_count 84 0 85 := Or.inr ⟨0, ⟨by decide +kernel, rfl⟩, rfl⟩
theorem d_M_count_85 : cd_D 3 b_M_count 85 (.getfield 9) 88 := ⟨by decide +kernel, rfl⟩
theorem d_M_count_88 : cd_Dk b_M_count 88 (nI 1) 89 := Or.inl ⟨1, ⟨by decide +kernel, rfl⟩, by decide +kernel⟩
theorem d_M_count_89 : cd_D 1 b_M_count 89 .iaload 90 := ⟨by decide +kernel, rfl⟩
theorem d_M_count_90 : cd_D 1 b_M_count 90 .ireturn 91 := ⟨by decide +kernel, rfl⟩
theorem d_M_count_91 : cd_D_aload b_M_count 91 0 92 := Or.inr ⟨0, ⟨by decide +kernel, rfl⟩, rfl⟩
theorem d_M_count_92 : cd_D 3 b_M_count 92 (.getfield 9) 95 := ⟨by decide +kernel, rfl⟩
theorem d_M_count_95 : cd_Dk b_M_count 95 (nI 8) 97 := Or.inr (Or.inl ⟨8, ⟨by decide +kernel, rfl⟩, by decide +kernel⟩)
theorem d_M_count_97 : cd_D 1 b_M_count 97 .iaload 98 := ⟨by decide +kernel, rfl⟩
theorem d_M_count_98 : cd_D 1 b_M_count 98 .ireturn 99 := ⟨by decide +kernel, rfl⟩
theorem d_M_count_99 : cd_D_aload b_M_count 99 0 100 := Or.inr ⟨0, ⟨by decide +kernel, rfl⟩, rfl⟩
theorem d_M_count_100 : cd_D 3 b_M_count 100 (.getfield 9) 103 := ⟨by decide +kernel, rfl⟩
theorem d_M_count_103 : cd_Dk b_M_count 103 (nI 9) 105 := Or.inr (Or.inl ⟨9, ⟨by decide +kernel, rfl⟩, by decide +kernel⟩)
theorem d_M_count_105 : cd_D 1 b_M_count 105 .iaload 106 := ⟨by decide +kernel, rfl⟩
theorem d_M_count_106 : cd_D 1 b_M_count 106 .ireturn 107 := ⟨by decide +kernel, rfl⟩
theorem d_M_count_107 : cd_D_aload b_M_count 107 0 108 := Or.inr ⟨0, ⟨by decide +kernel, rfl⟩, rfl⟩
theorem d_M_count_108 : cd_D 3 b_M_count 108 (.getfield 9) 111 := ⟨by decide +kernel, rfl⟩
theorem d_M_count_111 : cd_Dk b_M_count 111 (nI 15) 113 := Or.inr (Or.inl ⟨15, ⟨by decide +kernel, rfl⟩, by decide +kernel⟩)
theorem d_M_count_113 : cd_D 1 b_M_count 113 .iaload 114 := ⟨by decide +kernel, rfl⟩
theorem d_M_count_114 : cd_D 1 b_M_count 114 .ireturn 115 := ⟨by decide +kernel, rfl⟩
theorem d_M_count_115 : cd_D_aload b_M_count 115 0 116 := Or.inr ⟨0, ⟨by decide +kernel, rfl⟩, rfl⟩
theorem d_M_count_116 : cd_D 3 b_M_count 116 (.getfield 267) 119 := ⟨by decide +kernel, rfl⟩
theorem d_M_count_119 : cd_D 1 b_M_count 119 .ireturn 120 := ⟨by decide +kernel, rfl⟩
theorem d_M_count_120 : cd_D_aload b_M_count 120 0 121 := Or.inr ⟨0, ⟨by decide +kernel, rfl⟩, rfl⟩
theorem d_M_count_121 : cd_D 3 b_M_count 121 (.getfield 191) 124 := ⟨by decide +kernel, rfl⟩
theorem d_M_count_124 : cd_D 1 b_M_count 124 .ireturn 125 := ⟨by decide +kernel, rfl⟩
theorem d_M_count_125 : cd_D_aload b_M_count 125 0 126 := Or.inr ⟨0, ⟨by decide +kernel, rfl⟩, rfl⟩
theorem d_M_count_126 : cd_D 3 b_M_count 126 (.getfield 9) 129 := ⟨by decide +kernel, rfl⟩
theorem d_M_count_129 : cd_Dk b_M_count 129 (nI 0) 130 := Or.inl ⟨0, ⟨by decide +kernel, rfl⟩, by decide +kernel⟩
theorem d_M_count_130 : cd_D 1 b_M_count 130 .iaload 131 := ⟨by decide +kernel, rfl⟩
theorem d_M_count_131 : cd_D 1 b_M_count 131 .ireturn 132 := ⟨by decide +kernel, rfl⟩
theorem d_M_count_132 : cd_D 2 b_M_count 132 (.ldc 87) 134 := ⟨by decide +kernel, rfl⟩
theorem d_M_count_134 : cd_D 1 b_M_count 134 .ireturn 135 := ⟨by decide +kernel, rfl⟩
theorem c_M_count {l : Launch} {w : cd_WT} {S : cd_Sp} {I : cd_Mem} {m : Nat} (hM : cd_MO w S m) (q : Int32) : cd_C l w m_M_count 1 0 0 [.ref m, .int q] S I (cd_Fi S (sp_count (I (m + 1)) (I m 32) (I m 6) q) I) := by
  refine cd_intro (by decide) (by simp [Value.category]) (Nat.le_of_ble_eq_true rfl) ?_
  intro X hO hE
  show cd_J w X 0 0 S I 0 [some (.ref m), some (.int q)] []
  refine r_iload hO d_M_count_0 rfl ?_
  refine r_k hO d_M_count_1 ?_
  refine r_k hO d_M_count_2 ?_
  refine r_cS3fi hO hE (c_M_in _ _ _) mf_M_in lk_M_75 (by decide) rfl (Nat.le_of_ble_eq_true rfl) d_M_count_3 (Nat.zero_le _) (Nat.zero_le _) ?_
  refine r_if_eqB hO d_M_count_6 (fun c_6 => ?_) (fun c_6 => ?_)
  · refine r_iload hO d_M_count_20 rfl ?_
    by_cases c_21_0 : q = nI 0
    · refine r_tabE hO d_M_count_21 c_21_0 (off := 63) (by decide) (by decide) (by decide) (tgt := 84) (by decide) ?_
      refine r_aload hO d_M_count_84 rfl ?_
      refine r_getR hO f_M_9 rfl hM.2.1 (mo_r1 hM) d_M_count_85 ?_
      refine r_k hO d_M_count_88 ?_
      refine r_iald hO (mo_s1 hM) (by omega) (by decide) d_M_count_89 ?_
      refine r_iret hO hE (Nat.zero_le _) (Nat.zero_le _) d_M_count_90 ?_
      exact ⟨by unfold sp_count; rw [if_neg c_6, if_pos c_21_0], rfl, rfl⟩
    by_cases c_21_6 : q = nI 6
    · refine r_tabE hO d_M_count_21 c_21_6 (off := 70) (by decide) (by decide) (by decide) (tgt := 91) (by decide) ?_
      refine r_aload hO d_M_count_91 rfl ?_
      refine r_getR hO f_M_9 rfl hM.2.1 (mo_r1 hM) d_M_count_92 ?_
      refine r_k hO d_M_count_95 ?_
      refine r_iald hO (mo_s1 hM) (by omega) (by decide) d_M_count_97 ?_
      refine r_iret hO hE (Nat.zero_le _) (Nat.zero_le _) d_M_count_98 ?_
      exact ⟨by unfold sp_count; rw [if_neg c_6, if_neg c_21_0, if_pos c_21_6], rfl, rfl⟩
    by_cases c_21_7 : q = nI 7
    · refine r_tabE hO d_M_count_21 c_21_7 (off := 78) (by decide) (by decide) (by decide) (tgt := 99) (by decide) ?_
      refine r_aload hO d_M_count_99 rfl ?_
      refine r_getR hO f_M_9 rfl hM.2.1 (mo_r1 hM) d_M_count_100 ?_
      refine r_k hO d_M_count_103 ?_
      refine r_iald hO (mo_s1 hM) (by omega) (by decide) d_M_count_105 ?_
      refine r_iret hO hE (Nat.zero_le _) (Nat.zero_le _) d_M_count_106 ?_
      exact ⟨by unfold sp_count; rw [if_neg c_6, if_neg c_21_0, if_neg c_21_6, if_pos c_21_7], rfl, rfl⟩
    by_cases c_21_8 : q = nI 8
    · refine r_tabE hO d_M_count_21 c_21_8 (off := 86) (by decide) (by decide) (by decide) (tgt := 107) (by decide) ?_
      refine r_aload hO d_M_count_107 rfl ?_
      refine r_getR hO f_M_9 rfl hM.2.1 (mo_r1 hM) d_M_count_108 ?_
      refine r_k hO d_M_count_111 ?_
      refine r_iald hO (mo_s1 hM) (by omega) (by decide) d_M_count_113 ?_
      refine r_iret hO hE (Nat.zero_le _) (Nat.zero_le _) d_M_count_114 ?_
      exact ⟨by unfold sp_count; rw [if_neg c_6, if_neg c_21_0, if_neg c_21_6, if_neg c_21_7, if_pos c_21_8], rfl, rfl⟩
    by_cases c_21_9 : q = nI 9
    · refine r_tabE hO d_M_count_21 c_21_9 (off := 94) (by decide) (by decide) (by decide) (tgt := 115) (by decide) ?_
      refine r_aload hO d_M_count_115 rfl ?_
      refine r_getI hO f_M_267 rfl hM.2.1 d_M_count_116 ?_
      refine r_iret hO hE (Nat.zero_le _) (Nat.zero_le _) d_M_count_119 ?_
      exact ⟨by unfold sp_count; rw [if_neg c_6, if_neg c_21_0, if_neg c_21_6, if_neg c_21_7, if_neg c_21_8, if_pos c_21_9], rfl, rfl⟩
    by_cases c_21_10 : q = nI 10
    · refine r_tabE hO d_M_count_21 c_21_10 (off := 99) (by decide) (by decide) (by decide) (tgt := 120) (by decide) ?_
      refine r_aload hO d_M_count_120 rfl ?_
      refine r_getI hO f_M_191 rfl hM.2.1 d_M_count_121 ?_
      refine r_iret hO hE (Nat.zero_le _) (Nat.zero_le _) d_M_count_124 ?_
      exact ⟨by unfold sp_count; rw [if_neg c_6, if_neg c_21_0, if_neg c_21_6, if_neg c_21_7, if_neg c_21_8, if_neg c_21_9, if_pos c_21_10], rfl, rfl⟩
    by_cases c_21_11 : q = nI 11
    · refine r_tabE hO d_M_count_21 c_21_11 (off := 104) (by decide) (by decide) (by decide) (tgt := 125) (by decide) ?_
      refine r_aload hO d_M_count_125 rfl ?_
      refine r_getR hO f_M_9 rfl hM.2.1 (mo_r1 hM) d_M_count_126 ?_
      refine r_k hO d_M_count_129 ?_
      refine r_iald hO (mo_s1 hM) (by omega) (by decide) d_M_count_130 ?_
      refine r_iret hO hE (Nat.zero_le _) (Nat.zero_le _) d_M_count_131 ?_
      exact ⟨by unfold sp_count; rw [if_neg c_6, if_neg c_21_0, if_neg c_21_6, if_neg c_21_7, if_neg c_21_8, if_neg c_21_9, if_neg c_21_10, if_pos c_21_11], rfl, rfl⟩
    refine r_tabN hO d_M_count_21 (by decide) (fun j hj => ?_) (tgt := 132) (by decide) ?_
    · have hj2 : j < 12 := hj
      rcases (show j = 0 ∨ j = 1 ∨ j = 2 ∨ j = 3 ∨ j = 4 ∨ j = 5 ∨ j = 6 ∨ j = 7 ∨ j = 8 ∨ j = 9 ∨ j = 10 ∨ j = 11 by omega) with rfl | rfl | rfl | rfl | rfl | rfl | rfl | rfl | rfl | rfl | rfl | rfl
      · exact Or.inl (fun e => c_21_0 (e.trans (by decide)))
      · exact Or.inr rfl
      · exact Or.inr rfl
      · exact Or.inr rfl
      · exact Or.inr rfl
      · exact Or.inr rfl
      · exact Or.inl (fun e => c_21_6 (e.trans (by decide)))
      · exact Or.inl (fun e => c_21_7 (e.trans (by decide)))
      · exact Or.inl (fun e => c_21_8 (e.trans (by decide)))
      · exact Or.inl (fun e => c_21_9 (e.trans (by decide)))
      · exact Or.inl (fun e => c_21_10 (e.trans (by decide)))
      · exact Or.inl (fun e => c_21_11 (e.trans (by decide)))
    refine r_ldc hO k_M_87 d_M_count_132 ?_
    refine r_iret hO hE (Nat.zero_le _) (Nat.zero_le _) d_M_count_134 ?_
    exact ⟨by unfold sp_count; rw [if_neg c_6, if_neg c_21_0, if_neg c_21_6, if_neg c_21_7, if_neg c_21_8, if_neg c_21_9, if_neg c_21_10, if_neg c_21_11], rfl, rfl⟩
  · obtain ⟨z, hz1, hz2, rfl⟩ := cd_in_ex c_6 (by decide) (by decide)
    refine r_aload hO d_M_count_9 rfl ?_
    refine r_getR hO f_M_9 rfl hM.2.1 (mo_r1 hM) d_M_count_10 ?_
    refine r_k hO d_M_count_13 ?_
    refine r_iload hO d_M_count_14 rfl ?_
    refine r_iaddN hO d_M_count_15 ?_
    refine r_k hO d_M_count_16 ?_
    refine r_isubN hO d_M_count_17 (by omega) ?_
    refine r_iald hO (mo_s1 hM) (by omega) (by decide) d_M_count_18 ?_
    refine r_iret hO hE (Nat.zero_le _) (Nat.zero_le _) d_M_count_19 ?_
    exact ⟨by unfold sp_count; rw [if_pos c_6, cd_tn_nI (by omega)], rfl, rfl⟩
theorem d_M_check_0 : cd_D_aload b_M_check 0 0 1 := Or.inr ⟨0, ⟨by decide +kernel, rfl⟩, rfl⟩
theorem d_M_check_1 : cd_D 3 b_M_check 1 (.getfield 267) 4 := ⟨by decide +kernel, rfl⟩
theorem d_M_check_4 : cd_D_istore b_M_check 4 2 5 := Or.inr ⟨2, ⟨by decide +kernel, rfl⟩, rfl⟩
theorem d_M_check_5 : cd_D_aload b_M_check 5 0 6 := Or.inr ⟨0, ⟨by decide +kernel, rfl⟩, rfl⟩
theorem d_M_check_6 : cd_Dk b_M_check 6 (nI 0) 7 := Or.inl ⟨0, ⟨by decide +kernel, rfl⟩, by decide +kernel⟩
theorem d_M_check_7 : cd_D 3 b_M_check 7 (.putfield 267) 10 := ⟨by decide +kernel, rfl⟩
theorem d_M_check_10 : cd_D_iload b_M_check 10 1 11 := Or.inr ⟨1, ⟨by decide +kernel, rfl⟩, rfl⟩
theorem d_M_check_11 : cd_Dk b_M_check 11 (nI 1) 12 := Or.inl ⟨1, ⟨by decide +kernel, rfl⟩, by decide +kernel⟩
theorem d_M_check_12 : cd_Dk b_M_check 12 (nI 30) 14 := Or.inr (Or.inl ⟨30, ⟨by decide +kernel, rfl⟩, by decide +kernel⟩)
theorem d_M_check_14 : cd_D 3 b_M_check 14 (.invokestatic 75) 17 := ⟨by decide +kernel, rfl⟩
theorem d_M_check_17 : cd_D_if_ne b_M_check 17 23 20 := ⟨6, by decide +kernel, by decide, rfl⟩
theorem d_M_check_20 : cd_D 2 b_M_check 20 (.ldc 87) 22 := ⟨by decide +kernel, rfl⟩
theorem d_M_check_22 : cd_D 1 b_M_check 22 .ireturn 23 := ⟨by decide +kernel, rfl⟩
theorem d_M_check_23 : cd_D_aload b_M_check 23 0 24 := Or.inr ⟨0, ⟨by decide +kernel, rfl⟩, rfl⟩
theorem d_M_check_24 : cd_D 3 b_M_check 24 (.getfield 270) 27 := ⟨by decide +kernel, rfl⟩
theorem d_M_check_27 : cd_D_if_ne b_M_check 27 34 30 := ⟨7, by decide +kernel, by decide, rfl⟩
theorem d_M_check_30 : cd_D 3 b_M_check 30 (.ldc_w 266) 33 := ⟨by decide +kernel, rfl⟩
theorem d_M_check_33 : cd_D 1 b_M_check 33 .ireturn 34 := ⟨by decide +kernel, rfl⟩
theorem d_M_check_34 : cd_D_aload b_M_check 34 0 35 := Or.inr ⟨0, ⟨by decide +kernel, rfl⟩, rfl⟩
theorem d_M_check_35 : cd_D 3 b_M_check 35 (.getfield 9) 38 := ⟨by decide +kernel, rfl⟩
theorem d_M_check_38 : cd_D_aload b_M_check 38 0 39 := Or.inr ⟨0, ⟨by decide +kernel, rfl⟩, rfl⟩
theorem d_M_check_39 : cd_D 3 b_M_check 39 (.getfield 16) 42 := ⟨by decide +kernel, rfl⟩
theorem d_M_check_42 : cd_D 3 b_M_check 42 (.invokestatic 274) 45 := ⟨by decide +kernel, rfl⟩
theorem d_M_check_45 : cd_D_aload b_M_check 45 0 46 := Or.inr ⟨0, ⟨by decide +kernel, rfl⟩, rfl⟩
theorem d_M_check_46 : cd_D 3 b_M_check 46 (.getfield 13) 49 := ⟨by decide +kernel, rfl⟩
theorem d_M_check_49 : cd_D_aload b_M_check 49 0 50 := Or.inr ⟨0, ⟨by decide +kernel, rfl⟩, rfl⟩
theorem d_M_check_50 : cd_D 3 b_M_check 50 (.getfield 9) 53 := ⟨by decide +kernel, rfl⟩
theorem d_M_check_53 : cd_D 3 b_M_check 53 (.invokestatic 274) 56 := ⟨by decide +kernel, rfl⟩
theorem d_M_check_56 : cd_Dk b_M_check 56 (nI 2) 57 := Or.inl ⟨2, ⟨by decide +kernel, rfl⟩, by decide +kernel⟩
theorem d_M_check_57 : cd_Dk b_M_check 57 (nI 9999) 60 := Or.inr (Or.inr ⟨9999, ⟨by decide +kernel, rfl⟩, by decide +kernel⟩)
theorem d_M_check_60 : cd_D_aload b_M_check 60 0 61 := Or.inr ⟨0, ⟨by decide +kernel, rfl⟩, rfl⟩
theorem d_M_check_61 : cd_D 3 b_M_check 61 (.getfield 9) 64 := ⟨by decide +kernel, rfl⟩
theorem d_M_check_64 : cd_Dk b_M_check 64 (nI 2) 65 := Or.inl ⟨2, ⟨by decide +kernel, rfl⟩, by decide +kernel⟩
theorem d_M_check_65 : cd_D 1 b_M_check 65 .iaload 66 := ⟨by decide +kernel, rfl⟩
theorem d_M_check_66 : cd_D 1 b_M_check 66 .isub 67 := ⟨by decide +kernel, rfl⟩
theorem d_M_check_67 : cd_Dk b_M_check 67 (nI 0) 68 := Or.inl ⟨0, ⟨by decide +kernel, rfl⟩, by decide +kernel⟩
theorem d_M_check_68 : cd_D_iload b_M_check 68 1 69 := Or.inr ⟨1, ⟨by decide +kernel, rfl⟩, rfl⟩
theorem d_M_check_69 : cd_D 3 b_M_check 69 (.invokestatic 104) 72 := ⟨by decide +kernel, rfl⟩
theorem d_M_check_72 : cd_D 1 b_M_check 72 .imul 73 := ⟨by decide +kernel, rfl⟩
theorem d_M_check_73 : cd_D_istore b_M_check 73 3 74 := Or.inr ⟨3, ⟨by decide +kernel, rfl⟩, rfl⟩
theorem d_M_check_74 : cd_Dk b_M_check 74 (nI 0) 75 := Or.inl ⟨0, ⟨by decide +kernel, rfl⟩, by decide +kernel⟩
theorem d_M_check_75 : cd_D_istore b_M_check 75 4 77 := Or.inl ⟨by decide +kernel, rfl⟩
theorem d_M_check_77 : cd_Dk b_M_check 77 (nI 0) 78 := Or.inl ⟨0, ⟨by decide +kernel, rfl⟩, by decide +kernel⟩
theorem d_M_check_78 : cd_D_istore b_M_check 78 5 80 := Or.inl ⟨by decide +kernel, rfl⟩
theorem d_M_check_80 : cd_Dk b_M_check 80 (nI 2) 81 := Or.inl ⟨2, ⟨by decide +kernel, rfl⟩, by decide +kernel⟩
theorem d_M_check_81 : cd_D_iload b_M_check 81 5 83 := Or.inl ⟨by decide +kernel, rfl⟩
theorem d_M_check_83 : cd_D 1 b_M_check 83 .imul 84 := ⟨by decide +kernel, rfl⟩
theorem d_M_check_84 : cd_D_iload b_M_check 84 3 85 := Or.inr ⟨3, ⟨by decide +kernel, rfl⟩, rfl⟩
theorem d_M_check_85 : cd_D_icmp_ge b_M_check 85 181 88 := ⟨96, by decide +kernel, by decide, rfl⟩
theorem d_M_check_88 : cd_D_iload b_M_check 88 4 90 := Or.inl ⟨by decide +kernel, rfl⟩
theorem d_M_check_90 : cd_Dk b_M_check 90 (nI 2) 91 := Or.inl ⟨2, ⟨by decide +kernel, rfl⟩, by decide +kernel⟩
theorem d_M_check_91 : cd_D_iload b_M_check 91 5 93 := Or.inl ⟨by decide +kernel, rfl⟩
theorem d_M_check_93 : cd_D 1 b_M_check 93 .imul 94 := ⟨by decide +kernel, rfl⟩
theorem d_M_check_94 : cd_D_icmp_ne b_M_check 94 181 97 := ⟨87, by decide +kernel, by decide, rfl⟩
theorem d_M_check_97 : cd_D_aload b_M_check 97 0 98 := Or.inr ⟨0, ⟨by decide +kernel, rfl⟩, rfl⟩
theorem d_M_check_98 : cd_D 3 b_M_check 98 (.invokevirtual 158) 101 := ⟨by decide +kernel, rfl⟩
theorem d_M_check_101 : cd_D_iload b_M_check 101 4 103 := Or.inl ⟨by decide +kernel, rfl⟩
theorem d_M_check_103 : cd_D_iload b_M_check 103 4 105 := Or.inl ⟨by decide +kernel, rfl⟩
theorem d_M_check_105 : cd_D_iload b_M_check 105 2 106 := Or.inr ⟨2, ⟨by decide +kernel, rfl⟩, rfl⟩
theorem d_M_check_106 : cd_D_icmp_ge b_M_check 106 127 109 := ⟨21, by decide +kernel, by decide, rfl⟩
theorem d_M_check_109 : cd_D_aload b_M_check 109 0 110 := Or.inr ⟨0, ⟨by decide +kernel, rfl⟩, rfl⟩
theorem d_M_check_110 : cd_D 3 b_M_check 110 (.getfield 72) 113 := ⟨by decide +kernel, rfl⟩
theorem d_M_check_113 : cd_D_iload b_M_check 113 4 115 := Or.inl ⟨by decide +kernel, rfl⟩
theorem d_M_check_115 : cd_D 1 b_M_check 115 .iaload 116 := ⟨by decide +kernel, rfl⟩
theorem d_M_check_116 : cd_D_aload b_M_check 116 0 117 := Or.inr ⟨0, ⟨by decide +kernel, rfl⟩, rfl⟩
theorem d_M_check_117 : cd_D 3 b_M_check 117 (.invokevirtual 164) 120 := ⟨by decide +kernel, rfl⟩
theorem d_M_check_120 : cd_D_icmp_ne b_M_check 120 127 123 := ⟨7, by decide +kernel, by decide, rfl⟩
theorem d_M_check_123 : cd_Dk b_M_check 123 (nI 1) 124 := Or.inl ⟨1, ⟨by decide +kernel, rfl⟩, by decide +kernel⟩
theorem d_M_check_124 : cd_D_goto b_M_check 124 128 := ⟨4, by decide +kernel, by decide⟩
theorem d_M_check_127 : cd_Dk b_M_check 127 (nI 0) 128 := Or.inl ⟨0, ⟨by decide +kernel, rfl⟩, by decide +kernel⟩
theorem d_M_check_128 : cd_D 1 b_M_check 128 .iadd 129 := ⟨by decide +kernel, rfl⟩
theorem d_M_check_129 : cd_D_istore b_M_check 129 4 131 := Or.inl ⟨by decide +kernel, rfl⟩
theorem d_M_check_131 : cd_D_iload b_M_check 131 4 133 := Or.inl ⟨by decide +kernel, rfl⟩
theorem d_M_check_133 : cd_D_iload b_M_check 133 4 135 := Or.inl ⟨by decide +kernel, rfl⟩
theorem d_M_check_135 : cd_Dk b_M_check 135 (nI 2) 136 := Or.inl ⟨2, ⟨by decide +kernel, rfl⟩, by decide +kernel⟩
theorem d_M_check_136 : cd_D_iload b_M_check 136 5 138 := Or.inl ⟨by decide +kernel, rfl⟩
theorem d_M_check_138 : cd_D 1 b_M_check 138 .imul 139 := ⟨by decide +kernel, rfl⟩
theorem d_M_check_139 : cd_Dk b_M_check 139 (nI 1) 140 := Or.inl ⟨1, ⟨by decide +kernel, rfl⟩, by decide +kernel⟩
theorem d_M_check_140 : cd_D 1 b_M_check 140 .iadd 141 := ⟨by decide +kernel, rfl⟩
theorem d_M_check_141 : cd_D_icmp_ne b_M_check 141 171 144 := ⟨30, by decide +kernel, by decide, rfl⟩
theorem d_M_check_144 : cd_D_iload b_M_check 144 4 146 := Or.inl ⟨by decide +kernel, rfl⟩
theorem d_M_check_146 : cd_D_iload b_M_check 146 2 147 := Or.inr ⟨2, ⟨by decide +kernel, rfl⟩, rfl⟩
theorem d_M_check_147 : cd_D_icmp_ge b_M_check 147 171 150 := ⟨24, by decide +kernel, by decide, rfl⟩
theorem d_M_check_150 : cd_D_aload b_M_check 150 0 151 := Or.inr ⟨0, ⟨by decide +kernel, rfl⟩, rfl⟩
theorem d_M_check_151 : cd_D 3 b_M_check 151 (.getfield 72) 154 := ⟨by decide +kernel, rfl⟩
theorem d_M_check_154 : cd_D_iload b_M_check 154 4 156 := Or.inl ⟨by decide +kernel, rfl⟩
theorem d_M_check_156 : cd_D 1 b_M_check 156 .iaload 157 := ⟨by decide +kernel, rfl⟩
theorem d_M_check_157 : cd_D_aload b_M_check 157 0 158 := Or.inr ⟨0, ⟨by decide +kernel, rfl⟩, rfl⟩
theorem d_M_check_158 : cd_D 3 b_M_check 158 (.getfield 9) 161 := ⟨by decide +kernel, rfl⟩
theorem d_M_check_161 : cd_Dk b_M_check 161 (nI 10) 163 := Or.inr (Or.inl ⟨10, ⟨by decide +kernel, rfl⟩, by decide +kernel⟩)
theorem d_M_check_163 : cd_D 1 b_M_check 163 .iaload 164 := ⟨by decide +kernel, rfl⟩
theorem d_M_check_164 : cd_D_icmp_ne b_M_check 164 171 167 := ⟨7, by decide +kernel, by decide, rfl⟩
theorem d_M_check_167 : cd_Dk b_M_check 167 (nI 1) 168 := Or.inl ⟨1, ⟨by decide +kernel, rfl⟩, by decide +kernel⟩
theorem d_M_check_168 : cd_D_goto b_M_check 168 172 := ⟨4, by decide +kernel, by decide⟩
theorem d_M_check_171 : cd_Dk b_M_check 171 (nI 0) 172 := Or.inl ⟨0, ⟨by decide +kernel, rfl⟩, by decide +kernel⟩
theorem d_M_check_172 : cd_D 1 b_M_check 172 .iadd 173 := ⟨by decide +kernel, rfl⟩
theorem d_M_check_173 : cd_D_istore b_M_check 173 4 175 := Or.inl ⟨by decide +kernel, rfl⟩
theorem d_M_check_175 : cd_D 3 b_M_check 175 (.iinc 5 (1)) 178 := ⟨by decide +kernel, rfl⟩
theorem d_M_check_178 : cd_D_goto b_M_check 178 80 := ⟨-98, by decide +kernel, by decide⟩
theorem d_M_check_181 : cd_D_aload b_M_check 181 0 182 := Or.inr ⟨0, ⟨by decide +kernel, rfl⟩, rfl⟩
theorem d_M_check_182 : cd_D 3 b_M_check 182 (.getfield 16) 185 := ⟨by decide +kernel, rfl⟩
theorem d_M_check_185 : cd_D_aload b_M_check 185 0 186 := Or.inr ⟨0, ⟨by decide +kernel, rfl⟩, rfl⟩
theorem d_M_check_186 : cd_D 3 b_M_check 186 (.getfield 9) 189 := ⟨by decide +kernel, rfl⟩
theorem d_M_check_189 : cd_D 3 b_M_check 189 (.invokestatic 274) 192 := ⟨by decide +kernel, rfl⟩
theorem d_M_check_192 : cd_D_iload b_M_check 192 4 194 := Or.inl ⟨by decide +kernel, rfl⟩
theorem d_M_check_194 : cd_D_iload b_M_check 194 2 195 := Or.inr ⟨2, ⟨by decide +kernel, rfl⟩, rfl⟩
theorem d_M_check_195 : cd_D_icmp_ne b_M_check 195 208 198 := ⟨13, by decide +kernel, by decide, rfl⟩
theorem d_M_check_198 : cd_D_iload b_M_check 198 4 200 := Or.inl ⟨by decide +kernel, rfl⟩
theorem d_M_check_200 : cd_D_iload b_M_check 200 3 201 := Or.inr ⟨3, ⟨by decide +kernel, rfl⟩, rfl⟩
theorem d_M_check_201 : cd_D_icmp_ne b_M_check 201 208 204 := ⟨7, by decide +kernel, by decide, rfl⟩
theorem d_M_check_204 : cd_Dk b_M_check 204 (nI 0) 205 := Or.inl ⟨0, ⟨by decide +kernel, rfl⟩, by decide +kernel⟩
theorem d_M_check_205 : cd_D_goto b_M_check 205 212 := ⟨7, by decide +kernel, by decide⟩
theorem d_M_check_208 : cd_Dk b_M_check 208 (nI 1) 209 := Or.inl ⟨1, ⟨by decide +kernel, rfl⟩, by decide +kernel⟩
theorem d_M_check_209 : cd_D_iload b_M_check 209 4 211 := Or.inl ⟨by decide +kernel, rfl⟩
theorem d_M_check_211 : cd_D 1 b_M_check 211 .iadd 212 := ⟨by decide +kernel, rfl⟩
theorem d_M_check_212 : cd_D 1 b_M_check 212 .ireturn 213 := ⟨by decide +kernel, rfl⟩
theorem c_M_check {l : Launch} {w : cd_WT} {S : cd_Sp} {I : cd_Mem} {m : Nat} (hM : cd_MO w S m) (mg tg hg wt : Nat) (hVg : cd_V (I (m + 2)) mg tg) (hH : I (m + 2) 2 = nI hg) (h9 : hg ≤ 9999) (hw : I m 32 = nI wt) (hw6 : wt ≤ 60) (n : Int32) : cd_C l w m_M_check 6 0 0 [.ref m, .int n] S I (cd_Pi S (fun x I' => x = sp_check (I (m + 21)) (cd_cp 1448 (I (m + 2)) (I (m + 1))) mg tg hg wt (I m 3) n ∧ cd_off (cd_set I m (upd (I m) 32 (nI 0))) I' [m + 3, m + 11, m + 12])) := by
  refine cd_intro (by decide) (by simp [Value.category]) (Nat.le_of_ble_eq_true rfl) ?_
  intro X hO hE
  show cd_J w X 0 0 S I 0 [some (.ref m), some (.int n), none, none, none, none] []
  have hmg := hVg.2.1
  have hVG : cd_V (cd_cp 1448 (I (m + 2)) (I (m + 1))) mg tg := cd_V_cg hVg (fun j hj => if_pos hj)
  have main : ∀ (I2 : cd_Mem), I2 (m + 1) = (cd_cp 1448 (I (m + 2)) (I (m + 1))) → I2 (m + 3) = cd_cp 1448 (I (m + 1)) (I (m + 3)) → cd_off (cd_set I m (upd (I m) 32 (nI 0))) I2 [m + 1, m + 3] → ∀ (z D : Nat) (hz : z ≤ 30) (hD : D ≤ 30) (hp : sp_check (I (m + 21)) (cd_cp 1448 (I (m + 2)) (I (m + 1))) mg tg hg wt (I m 3) n = if cd_cr (I (m + 21)) (cd_cp 1448 (I (m + 2)) (I (m + 1))) mg tg wt D = wt ∧ cd_cr (I (m + 21)) (cd_cp 1448 (I (m + 2)) (I (m + 1))) mg tg wt D = 2 * D then nI 0 else nI (1 + cd_cr (I (m + 21)) (cd_cp 1448 (I (m + 2)) (I (m + 1))) mg tg wt D)) (r k rt : Nat) (I3 : cd_Mem), cd_cr (I (m + 21)) (cd_cp 1448 (I (m + 2)) (I (m + 1))) mg tg wt k = rt → k + r = D → I3 (m + 1) = cd_hs (cd_cp 1448 (I (m + 2)) (I (m + 1))) mg tg k → cd_off I2 I3 [m + 1, m + 11, m + 12] → cd_J w X 0 0 S I3 80 [some (.ref m), some (.int (nI z)), some (.int (nI wt)), some (.int (nI (2 * D))), some (.int (nI rt)), some (.int (nI k))] [] := by
    intro I2 h1 h3 ho2 z D hz hD hp
    have fin : ∀ (k rt : Nat) (I3 : cd_Mem), cd_cr (I (m + 21)) (cd_cp 1448 (I (m + 2)) (I (m + 1))) mg tg wt D = rt → rt ≤ 60 → I3 (m + 1) = cd_hs (cd_cp 1448 (I (m + 2)) (I (m + 1))) mg tg k → cd_off I2 I3 [m + 1, m + 11, m + 12] → cd_J w X 0 0 S I3 181 [some (.ref m), some (.int (nI z)), some (.int (nI wt)), some (.int (nI (2 * D))), some (.int (nI rt)), some (.int (nI k))] [] := by
      intro k rt I3 hrt hr6 hI3 ho
      have hback : cd_cp 1448 (I3 (m + 3)) (I3 (m + 1)) = I (m + 1) := by
        rw [ho (m + 3) (by simp), h3, hI3]
        funext j
        unfold cd_cp
        by_cases hj : j < 1448
        · simp [hj]
        · rw [if_neg hj]
          refine (kq_hs _ hmg tg k j (by omega)).trans ?_
          simp [hj]
      refine r_aload hO d_M_check_181 rfl ?_
      refine r_getR hO f_M_16 rfl hM.2.1 (mo_r3 hM) d_M_check_182 ?_
      refine r_aload hO d_M_check_185 rfl ?_
      refine r_getR hO f_M_9 rfl hM.2.1 (mo_r1 hM) d_M_check_186 ?_
      refine r_cS2fv hO hE (c_M_copyAll (a := m + 3) (b := m + 1) (mo_s3 hM) (mo_s1 hM) (mo_l1 hM) (by omega)) mf_M_copyAll lk_M_274 (by decide) rfl (Nat.le_of_ble_eq_true rfl) d_M_check_189 (Nat.zero_le _) (Nat.zero_le _) ?_
      rw [hback]
      refine r_iload hO d_M_check_192 rfl ?_
      refine r_iload hO d_M_check_194 rfl ?_
      refine r_icmp_ne hO d_M_check_195 (fun c_195 => ?_) (fun c_195 => ?_)
      · refine r_k hO d_M_check_208 ?_
        refine r_iload hO d_M_check_209 rfl ?_
        refine r_iaddN hO d_M_check_211 ?_
        refine r_iret hO hE (Nat.zero_le _) (Nat.zero_le _) d_M_check_212 ?_
        exact ⟨_, rfl, rfl, by rw [hp, hrt, if_neg (fun q => c_195 (by rw [q.1]))], fun b hb => by
          by_cases hb1 : b = m + 1
          · subst hb1; rw [cd_set_eq, cd_set_ne _ _ (by omega)]
          · rw [cd_set_ne _ _ hb1]
            exact (ho b (by simp at hb ⊢; omega)).trans (ho2 b (by simp at hb ⊢; omega))⟩
      · refine r_iload hO d_M_check_198 rfl ?_
        refine r_iload hO d_M_check_200 rfl ?_
        refine r_icmp_ne hO d_M_check_201 (fun c_201 => ?_) (fun c_201 => ?_)
        · refine r_k hO d_M_check_208 ?_
          refine r_iload hO d_M_check_209 rfl ?_
          refine r_iaddN hO d_M_check_211 ?_
          refine r_iret hO hE (Nat.zero_le _) (Nat.zero_le _) d_M_check_212 ?_
          exact ⟨_, rfl, rfl, by rw [hp, hrt, if_neg (fun q => c_201 (by rw [q.2]))], fun b hb => by
            by_cases hb1 : b = m + 1
            · subst hb1; rw [cd_set_eq, cd_set_ne _ _ (by omega)]
            · rw [cd_set_ne _ _ hb1]
              exact (ho b (by simp at hb ⊢; omega)).trans (ho2 b (by simp at hb ⊢; omega))⟩
        · refine r_k hO d_M_check_204 ?_
          refine r_goto hO d_M_check_205 ?_
          refine r_iret hO hE (Nat.zero_le _) (Nat.zero_le _) d_M_check_212 ?_
          exact ⟨_, rfl, rfl, by rw [hp, hrt, if_pos ⟨(nI_eq (by omega) (by omega)).mp c_195, (nI_eq (by omega) (by omega)).mp c_201⟩], fun b hb => by
            by_cases hb1 : b = m + 1
            · subst hb1; rw [cd_set_eq, cd_set_ne _ _ (by omega)]
            · rw [cd_set_ne _ _ hb1]
              exact (ho b (by simp at hb ⊢; omega)).trans (ho2 b (by simp at hb ⊢; omega))⟩
    intro r
    induction r with
    | zero =>
      intro k rt I3 hrt hk hI3 ho
      have hkD : k = D := by omega
      subst hkD
      have hle := cd_cr_le (I (m + 21)) (cd_cp 1448 (I (m + 2)) (I (m + 1))) mg tg wt k
      refine r_k hO d_M_check_80 ?_
      refine r_iload hO d_M_check_81 rfl ?_
      refine r_imulN hO d_M_check_83 ?_
      refine r_iload hO d_M_check_84 rfl ?_
      refine r_icmp_ge hO d_M_check_85 (fun c_85 => ?_) (fun c_85 => ?_)
      · exact fin _ rt I3 hrt (by omega) hI3 ho
      · exact absurd (nI_le (Nat.le_refl _) (by omega)) c_85
    | succ r ih =>
      intro k rt I3 hrt hk hI3 ho
      have hle := cd_cr_le (I (m + 21)) (cd_cp 1448 (I (m + 2)) (I (m + 1))) mg tg wt k
      refine r_k hO d_M_check_80 ?_
      refine r_iload hO d_M_check_81 rfl ?_
      refine r_imulN hO d_M_check_83 ?_
      refine r_iload hO d_M_check_84 rfl ?_
      refine r_icmp_ge hO d_M_check_85 (fun c_85 => ?_) (fun c_85 => ?_)
      · exact absurd c_85 (nI_ge (by omega) (by omega))
      · refine r_iload hO d_M_check_88 rfl ?_
        refine r_k hO d_M_check_90 ?_
        refine r_iload hO d_M_check_91 rfl ?_
        refine r_imulN hO d_M_check_93 ?_
        refine r_icmp_ne hO d_M_check_94 (fun c_94 => ?_) (fun c_94 => ?_)
        · have hne : ¬ rt = 2 * k := fun q => c_94 (by rw [q])
          exact fin k rt I3 (by rw [← hrt, ← hk]; exact cd_cr_st (by rw [hrt]; exact hne) _) (by omega) hI3 ho
        · have heq : rt = 2 * k := (nI_eq (by omega) (by omega)).mp c_94
          refine r_aload hO d_M_check_97 rfl ?_
          refine r_cV0v hO hE (c_M_hour hM mg tg (by rw [hI3]; exact hVG.kq (kq_hs _ hmg tg k))) mf_M_hour lk_M_158 hM.2.1 rfl (by decide) rfl (Nat.le_of_ble_eq_true rfl) d_M_check_98 (Nat.zero_le _) (Nat.zero_le _) ?_
          rintro I4 ⟨hI4, ho4⟩
          rw [hI3] at hI4
          have h21 : I4 (m + 21) = I (m + 21) := by rw [ho4 _ (by simp), ho _ (by simp), ho2 _ (by simp), cd_set_ne _ _ (by omega)]
          refine r_iload hO d_M_check_101 rfl ?_
          refine r_iload hO d_M_check_103 rfl ?_
          refine r_iload hO d_M_check_105 rfl ?_
          refine r_jn2 (pcJ := 128) (fun v => v = nI (if rt < wt ∧ I (m + 21) rt = cd_hb (cd_hs (cd_cp 1448 (I (m + 2)) (I (m + 1))) mg tg (k + 1)) mg then 1 else 0)) (fun v_106 hv_106 => ?_) (fun hj_106 => ?_)
          · subst hv_106
            obtain ⟨b1, hb1⟩ : ∃ b, b = (if rt < wt ∧ I (m + 21) rt = cd_hb (cd_hs (cd_cp 1448 (I (m + 2)) (I (m + 1))) mg tg (k + 1)) mg then 1 else 0) := ⟨_, rfl⟩
            have hb1l : b1 ≤ 1 := by rw [hb1]; exact cd_if01 _
            rw [← hb1]
            refine r_iaddN hO d_M_check_128 ?_
            refine r_sI4 hO d_M_check_129 rfl ?_
            refine r_iload hO d_M_check_131 rfl ?_
            refine r_iload hO d_M_check_133 rfl ?_
            refine r_k hO d_M_check_135 ?_
            refine r_iload hO d_M_check_136 rfl ?_
            refine r_imulN hO d_M_check_138 ?_
            refine r_k hO d_M_check_139 ?_
            refine r_iaddN hO d_M_check_140 ?_
            refine r_jn2 (pcJ := 172) (fun v => v = nI (if rt + b1 = 2 * k + 1 ∧ rt + b1 < wt ∧ I (m + 21) (rt + b1) = cd_hs (cd_cp 1448 (I (m + 2)) (I (m + 1))) mg tg (k + 1) 10 then 1 else 0)) (fun v_141 hv_141 => ?_) (fun hj_141 => ?_)
            · subst hv_141
              refine r_iaddN hO d_M_check_172 ?_
              refine r_sI4 hO d_M_check_173 rfl ?_
              refine r_incN5 hO d_M_check_175 rfl ?_
              refine r_goto hO d_M_check_178 ?_
              exact ih (k + 1) _ I4 (by show (if _ then _ else _) = _; rw [hrt, if_pos heq, ← hb1]) (by omega) hI4 (ho.tr ho4)
            · refine r_icmp_ne hO d_M_check_141 (fun c_141 => ?_) (fun c_141 => ?_)
              · refine r_k hO d_M_check_171 ?_
                exact hj_141 _ (by rw [if_neg (fun q => c_141 (by rw [q.1]))])
              · refine r_iload hO d_M_check_144 rfl ?_
                refine r_iload hO d_M_check_146 rfl ?_
                refine r_icmp_ge hO d_M_check_147 (fun c_147 => ?_) (fun c_147 => ?_)
                · refine r_k hO d_M_check_171 ?_
                  exact hj_141 _ (by rw [if_neg (fun q => absurd c_147 (nI_ge q.2.1 (by omega)))])
                · have hrw2 : rt + b1 < wt := Nat.lt_of_not_le (fun q => c_147 (nI_le q (by omega)))
                  refine r_aload hO d_M_check_150 rfl ?_
                  refine r_getR hO f_M_72 rfl hM.2.1 (mo_r21 hM) d_M_check_151 ?_
                  refine r_iload hO d_M_check_154 rfl ?_
                  refine r_iald hO (mo_s21 hM) (by omega) (by decide) d_M_check_156 ?_
                  rw [h21]
                  refine r_aload hO d_M_check_157 rfl ?_
                  refine r_getR hO f_M_9 rfl hM.2.1 (mo_r1 hM) d_M_check_158 ?_
                  refine r_k hO d_M_check_161 ?_
                  refine r_iald hO (mo_s1 hM) (by omega) (by decide) d_M_check_163 ?_
                  rw [hI4]
                  refine r_icmp_ne hO d_M_check_164 (fun c_164 => ?_) (fun c_164 => ?_)
                  · refine r_k hO d_M_check_171 ?_
                    exact hj_141 _ (by rw [if_neg (fun q => c_164 q.2.2)])
                  · refine r_k hO d_M_check_167 ?_
                    refine r_goto hO d_M_check_168 ?_
                    exact hj_141 _ (by rw [if_pos ⟨(nI_eq (by omega) (by omega)).mp c_141, Nat.lt_of_not_le (fun q => c_147 (nI_le q (by omega))), c_164⟩])
          · refine r_icmp_ge hO d_M_check_106 (fun c_106 => ?_) (fun c_106 => ?_)
            · refine r_k hO d_M_check_127 ?_
              exact hj_106 _ (by rw [if_neg (fun q => absurd c_106 (nI_ge q.1 (by omega)))])
            · have hrw : rt < wt := Nat.lt_of_not_le (fun q => c_106 (nI_le q (by omega)))
              refine r_aload hO d_M_check_109 rfl ?_
              refine r_getR hO f_M_72 rfl hM.2.1 (mo_r21 hM) d_M_check_110 ?_
              refine r_iload hO d_M_check_113 rfl ?_
              refine r_iald hO (mo_s21 hM) (by omega) (by decide) d_M_check_115 ?_
              rw [h21]
              refine r_aload hO d_M_check_116 rfl ?_
              refine r_cV0fi hO hE (c_M_habits hM mg (by rw [hI4]; exact (hVG.kq (kq_hs _ hmg tg (k + 1))).1) hmg) mf_M_habits lk_M_164 hM.2.1 rfl (by decide) rfl (Nat.le_of_ble_eq_true rfl) d_M_check_117 (Nat.zero_le _) (Nat.zero_le _) ?_
              rw [hI4]
              refine r_icmp_ne hO d_M_check_120 (fun c_120 => ?_) (fun c_120 => ?_)
              · refine r_k hO d_M_check_127 ?_
                exact hj_106 _ (by rw [if_neg (fun q => c_120 q.2)])
              · refine r_k hO d_M_check_123 ?_
                refine r_goto hO d_M_check_124 ?_
                exact hj_106 _ (by rw [if_pos ⟨Nat.lt_of_not_le (fun q => c_106 (nI_le q (by omega))), c_120⟩])
  refine r_aload hO d_M_check_0 rfl ?_
  refine r_getI hO f_M_267 rfl hM.2.1 d_M_check_1 ?_
  refine r_tops hw ?_
  refine r_sI2 hO d_M_check_4 rfl ?_
  refine r_aload hO d_M_check_5 rfl ?_
  refine r_k hO d_M_check_6 ?_
  refine r_putI hO f_M_267 rfl hM.2.1 hM.1 d_M_check_7 ?_
  refine r_iload hO d_M_check_10 rfl ?_
  refine r_k hO d_M_check_11 ?_
  refine r_k hO d_M_check_12 ?_
  refine r_cS3fi hO hE (c_M_in _ _ _) mf_M_in lk_M_75 (by decide) rfl (Nat.le_of_ble_eq_true rfl) d_M_check_14 (Nat.zero_le _) (Nat.zero_le _) ?_
  try simp (disch := omega) only [cd_set_eq, cd_set_ne, cd_set_set]
  refine r_if_neB hO d_M_check_17 (fun c_17 => ?_) (fun c_17 => ?_)
  · obtain ⟨z, hz1, hz2, rfl⟩ := cd_in_ex c_17 (by decide) (by decide)
    refine r_aload hO d_M_check_23 rfl ?_
    refine r_getI hO f_M_270 rfl hM.2.1 d_M_check_24 ?_
    try simp (disch := omega) only [cd_set_eq, cd_set_ne, cd_set_set]
    refine r_tops (show _ = I m 3 from rfl) ?_
    refine r_if_ne hO d_M_check_27 (fun c_27 => ?_) (fun c_27 => ?_)
    · refine r_aload hO d_M_check_34 rfl ?_
      refine r_getR hO f_M_9 rfl hM.2.1 (mo_r1 hM) d_M_check_35 ?_
      try simp (disch := omega) only [cd_set_eq, cd_set_ne, cd_set_set]
      refine r_aload hO d_M_check_38 rfl ?_
      refine r_getR hO f_M_16 rfl hM.2.1 (mo_r3 hM) d_M_check_39 ?_
      try simp (disch := omega) only [cd_set_eq, cd_set_ne, cd_set_set]
      refine r_cS2fv hO hE (c_M_copyAll (a := m + 1) (b := m + 3) (mo_s1 hM) (mo_s3 hM) (mo_l3 hM) (by omega)) mf_M_copyAll lk_M_274 (by decide) rfl (Nat.le_of_ble_eq_true rfl) d_M_check_42 (Nat.zero_le _) (Nat.zero_le _) ?_
      try simp (disch := omega) only [cd_set_eq, cd_set_ne, cd_set_set]
      refine r_aload hO d_M_check_45 rfl ?_
      refine r_getR hO f_M_13 rfl hM.2.1 (mo_r2 hM) d_M_check_46 ?_
      try simp (disch := omega) only [cd_set_eq, cd_set_ne, cd_set_set]
      refine r_aload hO d_M_check_49 rfl ?_
      refine r_getR hO f_M_9 rfl hM.2.1 (mo_r1 hM) d_M_check_50 ?_
      try simp (disch := omega) only [cd_set_eq, cd_set_ne, cd_set_set]
      refine r_cS2fv hO hE (c_M_copyAll (a := m + 2) (b := m + 1) (mo_s2 hM) (mo_s1 hM) (mo_l1 hM) (by omega)) mf_M_copyAll lk_M_274 (by decide) rfl (Nat.le_of_ble_eq_true rfl) d_M_check_53 (Nat.zero_le _) (Nat.zero_le _) ?_
      try simp (disch := omega) only [cd_set_eq, cd_set_ne, cd_set_set]
      refine r_gen (fun I2 hI2 => ?_)
      have h1 : I2 (m + 1) = (cd_cp 1448 (I (m + 2)) (I (m + 1))) := by rw [hI2, cd_set_eq]
      have h3 : I2 (m + 3) = cd_cp 1448 (I (m + 1)) (I (m + 3)) := by rw [hI2]; simp (disch := omega) only [cd_set_eq, cd_set_ne]
      have ho2 : cd_off (cd_set I m (upd (I m) 32 (nI 0))) I2 [m + 1, m + 3] := by rw [hI2]; exact (cd_off.set _ _ (by simp)).tr (cd_off.set _ _ (by simp))
      have hG2 : (cd_cp 1448 (I (m + 2)) (I (m + 1))) 2 = nI hg := by rw [← hH]; exact if_pos (by decide)
      refine r_k hO d_M_check_56 ?_
      refine r_k hO d_M_check_57 ?_
      refine r_aload hO d_M_check_60 rfl ?_
      refine r_getR hO f_M_9 rfl hM.2.1 (mo_r1 hM) d_M_check_61 ?_
      try simp (disch := omega) only [cd_set_eq, cd_set_ne, cd_set_set]
      refine r_k hO d_M_check_64 ?_
      refine r_iald hO (mo_s1 hM) (by omega) (by decide) d_M_check_65 ?_
      try simp (disch := omega) only [cd_set_eq, cd_set_ne, cd_set_set]
      rw [h1]
      refine r_tops hG2 ?_
      refine r_isubN hO d_M_check_66 (by omega) ?_
      refine r_k hO d_M_check_67 ?_
      refine r_iload hO d_M_check_68 rfl ?_
      refine r_cS3fi hO hE (c_M_within _ _ _) mf_M_within lk_M_104 (by decide) rfl (Nat.le_of_ble_eq_true rfl) d_M_check_69 (Nat.zero_le _) (Nat.zero_le _) ?_
      try simp (disch := omega) only [cd_set_eq, cd_set_ne, cd_set_set]
      refine r_tops (cd_wi_nI (by omega) (by omega)) ?_
      refine r_imulN hO d_M_check_72 ?_
      refine r_sI3 hO d_M_check_73 rfl ?_
      refine r_k hO d_M_check_74 ?_
      refine r_sI4 hO d_M_check_75 rfl ?_
      refine r_k hO d_M_check_77 ?_
      refine r_sI5 hO d_M_check_78 rfl ?_
      exact main I2 h1 h3 ho2 z _ (by omega) (by omega) (by unfold sp_check; rw [if_pos c_17, if_neg c_27, cd_tn_nI (by omega)]) _ 0 0 I2 rfl (Nat.zero_add _) h1 (cd_off.rf _ _)
    · refine r_ldcw hO k_M_266 d_M_check_30 ?_
      refine r_iret hO hE (Nat.zero_le _) (Nat.zero_le _) d_M_check_33 ?_
      exact ⟨_, rfl, rfl, by unfold sp_check; rw [if_pos c_17, if_pos c_27], cd_off.rf _ _⟩
  · refine r_ldc hO k_M_87 d_M_check_20 ?_
    refine r_iret hO hE (Nat.zero_le _) (Nat.zero_le _) d_M_check_22 ?_
    exact ⟨_, rfl, rfl, by unfold sp_check; rw [if_neg c_17], cd_off.rf _ _⟩
end
section
abbrev b_A_init : ByteArray := prog_2_method_1_code
abbrev m_A_init : cd_MT := (⟨"CatDoors$Asking", "<init>", "()V"⟩, b_A_init, 1, none)
set_option maxRecDepth 100000 in
theorem mc_A_init : Cond.code m_A_init.1 m_A_init.2.1 m_A_init.2.2.1 m_A_init.2.2.2 ∈ cd_ws := cd_mem 92 rfl rfl
theorem mf_A_init : cd_MI m_A_init 0 := ⟨⟨mc_A_init, cd_mem 57 (by decide +kernel) rfl, by decide +kernel, by decide⟩, rfl, cd_mem 91 (by decide +kernel) rfl, rfl⟩
abbrev b_A_takes : ByteArray := prog_2_method_2_code
abbrev m_A_takes : cd_MT := (⟨"CatDoors$Asking", "takes", "(LCatDoors$Asking;)V"⟩, b_A_takes, 2, none)
set_option maxRecDepth 100000 in
theorem mc_A_takes : Cond.code m_A_takes.1 m_A_takes.2.1 m_A_takes.2.2.1 m_A_takes.2.2.2 ∈ cd_ws := cd_mem 458 rfl rfl
theorem mf_A_takes : cd_MV m_A_takes 1 := ⟨⟨mc_A_takes, cd_mem 57 (by decide +kernel) rfl, by decide +kernel, by decide⟩, cd_mem 456 (by decide +kernel) rfl, cd_mem 457 (by decide +kernel) rfl⟩
abbrev b_A_isOf : ByteArray := prog_2_method_3_code
abbrev m_A_isOf : cd_MT := (⟨"CatDoors$Asking", "isOf", "(I)Z"⟩, b_A_isOf, 4, some .boolean)
set_option maxRecDepth 100000 in
theorem mc_A_isOf : Cond.code m_A_isOf.1 m_A_isOf.2.1 m_A_isOf.2.2.1 m_A_isOf.2.2.2 ∈ cd_ws := cd_mem 349 rfl rfl
theorem mf_A_isOf : cd_MV m_A_isOf 1 := ⟨⟨mc_A_isOf, cd_mem 57 (by decide +kernel) rfl, by decide +kernel, by decide⟩, cd_mem 347 (by decide +kernel) rfl, cd_mem 348 (by decide +kernel) rfl⟩
abbrev b_A_presses : ByteArray := prog_2_method_4_code
abbrev m_A_presses : cd_MT := (⟨"CatDoors$Asking", "presses", "(LCatDoors$House;)I"⟩, b_A_presses, 4, some .int)
set_option maxRecDepth 100000 in
theorem mc_A_presses : Cond.code m_A_presses.1 m_A_presses.2.1 m_A_presses.2.2.1 m_A_presses.2.2.2 ∈ cd_ws := cd_mem 299 rfl rfl
theorem mf_A_presses : cd_MV m_A_presses 1 := ⟨⟨mc_A_presses, cd_mem 57 (by decide +kernel) rfl, by decide +kernel, by decide⟩, cd_mem 297 (by decide +kernel) rfl, cd_mem 298 (by decide +kernel) rfl⟩
abbrev b_A_meansIt : ByteArray := prog_2_method_5_code
abbrev m_A_meansIt : cd_MT := (⟨"CatDoors$Asking", "meansIt", "(LCatDoors$House;)I"⟩, b_A_meansIt, 3, some .int)
set_option maxRecDepth 100000 in
theorem mc_A_meansIt : Cond.code m_A_meansIt.1 m_A_meansIt.2.1 m_A_meansIt.2.2.1 m_A_meansIt.2.2.2 ∈ cd_ws := cd_mem 337 rfl rfl
theorem mf_A_meansIt : cd_MV m_A_meansIt 1 := ⟨⟨mc_A_meansIt, cd_mem 57 (by decide +kernel) rfl, by decide +kernel, by decide⟩, cd_mem 335 (by decide +kernel) rfl, cd_mem 336 (by decide +kernel) rfl⟩
abbrev b_A_worth : ByteArray := prog_2_method_6_code
abbrev m_A_worth : cd_MT := (⟨"CatDoors$Asking", "worth", "()I"⟩, b_A_worth, 1, some .int)
set_option maxRecDepth 100000 in
theorem mc_A_worth : Cond.code m_A_worth.1 m_A_worth.2.1 m_A_worth.2.2.1 m_A_worth.2.2.2 ∈ cd_ws := cd_mem 341 rfl rfl
theorem mf_A_worth : cd_MV m_A_worth 0 := ⟨⟨mc_A_worth, cd_mem 57 (by decide +kernel) rfl, by decide +kernel, by decide⟩, cd_mem 339 (by decide +kernel) rfl, cd_mem 340 (by decide +kernel) rfl⟩
abbrev b_A_works : ByteArray := prog_2_method_7_code
abbrev m_A_works : cd_MT := (⟨"CatDoors$Asking", "works", "()V"⟩, b_A_works, 1, none)
set_option maxRecDepth 100000 in
theorem mc_A_works : Cond.code m_A_works.1 m_A_works.2.1 m_A_works.2.2.1 m_A_works.2.2.2 ∈ cd_ws := cd_mem 378 rfl rfl
theorem mf_A_works : cd_MV m_A_works 0 := ⟨⟨mc_A_works, cd_mem 57 (by decide +kernel) rfl, by decide +kernel, by decide⟩, cd_mem 376 (by decide +kernel) rfl, cd_mem 377 (by decide +kernel) rfl⟩
abbrev b_A_fails : ByteArray := prog_2_method_8_code
abbrev m_A_fails : cd_MT := (⟨"CatDoors$Asking", "fails", "()V"⟩, b_A_fails, 1, none)
set_option maxRecDepth 100000 in
theorem mc_A_fails : Cond.code m_A_fails.1 m_A_fails.2.1 m_A_fails.2.2.1 m_A_fails.2.2.2 ∈ cd_ws := cd_mem 430 rfl rfl
theorem mf_A_fails : cd_MV m_A_fails 0 := ⟨⟨mc_A_fails, cd_mem 57 (by decide +kernel) rfl, by decide +kernel, by decide⟩, cd_mem 428 (by decide +kernel) rfl, cd_mem 429 (by decide +kernel) rfl⟩
theorem lk_A_3 : Cond.methodLink "CatDoors$Asking" 3 ⟨"java/lang/Object", "<init>", "()V"⟩ ∈ cd_ws := cd_mem 93 (by decide +kernel) rfl
theorem lk_A_31 : Cond.methodLink "CatDoors$Asking" 31 ⟨"CatDoors$House", "plainPress", "(LCatDoors$Asking;)I"⟩ ∈ cd_ws := cd_mem 300 (by decide +kernel) rfl
theorem lk_A_40 : Cond.methodLink "CatDoors$Asking" 40 ⟨"java/lang/Math", "max", "(II)I"⟩ ∈ cd_ws := cd_mem 327 (by decide +kernel) rfl
theorem lk_A_49 : Cond.methodLink "CatDoors$Asking" 49 ⟨"java/lang/Math", "min", "(II)I"⟩ ∈ cd_ws := cd_mem 380 (by decide +kernel) rfl
theorem f_A_9 : cd_F "CatDoors$Asking" 9 0 0 .int false := ⟨_, _, _, _, cd_ci0, by decide, cd_mem 94 (by decide +kernel) rfl, rfl, rfl, rfl⟩
theorem f_A_15 : cd_F "CatDoors$Asking" 15 0 1 .int false := ⟨_, _, _, _, cd_ci0, by decide, cd_mem 97 (by decide +kernel) rfl, rfl, rfl, rfl⟩
theorem f_A_18 : cd_F "CatDoors$Asking" 18 0 2 .int false := ⟨_, _, _, _, cd_ci0, by decide, cd_mem 100 (by decide +kernel) rfl, rfl, rfl, rfl⟩
theorem f_A_21 : cd_F "CatDoors$Asking" 21 0 3 .int false := ⟨_, _, _, _, cd_ci0, by decide, cd_mem 103 (by decide +kernel) rfl, rfl, rfl, rfl⟩
theorem f_A_24 : cd_F "CatDoors$Asking" 24 0 4 .int false := ⟨_, _, _, _, cd_ci0, by decide, cd_mem 106 (by decide +kernel) rfl, rfl, rfl, rfl⟩
theorem f_A_37 : cd_F "CatDoors$Asking" 37 1 0 (.array .int) true := ⟨_, _, _, _, cd_ci1, by decide, cd_mem 122 (by decide +kernel) rfl, rfl, rfl, rfl⟩
abbrev b_H_init : ByteArray := prog_3_method_1_code
abbrev m_H_init : cd_MT := (⟨"CatDoors$House", "<init>", "()V"⟩, b_H_init, 2, none)
set_option maxRecDepth 100000 in
theorem mc_H_init : Cond.code m_H_init.1 m_H_init.2.1 m_H_init.2.2.1 m_H_init.2.2.2 ∈ cd_ws := cd_mem 82 rfl rfl
theorem mf_H_init : cd_MI m_H_init 0 := ⟨⟨mc_H_init, cd_mem 56 (by decide +kernel) rfl, by decide +kernel, by decide⟩, rfl, cd_mem 81 (by decide +kernel) rfl, rfl⟩
abbrev b_H_takes : ByteArray := prog_3_method_2_code
abbrev m_H_takes : cd_MT := (⟨"CatDoors$House", "takes", "(LCatDoors$House;)V"⟩, b_H_takes, 3, none)
set_option maxRecDepth 100000 in
theorem mc_H_takes : Cond.code m_H_takes.1 m_H_takes.2.1 m_H_takes.2.2.1 m_H_takes.2.2.2 ∈ cd_ws := cd_mem 451 rfl rfl
theorem mf_H_takes : cd_MV m_H_takes 1 := ⟨⟨mc_H_takes, cd_mem 56 (by decide +kernel) rfl, by decide +kernel, by decide⟩, cd_mem 449 (by decide +kernel) rfl, cd_mem 450 (by decide +kernel) rfl⟩
abbrev b_H_adds : ByteArray := prog_3_method_3_code
abbrev m_H_adds : cd_MT := (⟨"CatDoors$House", "adds", "(IIII)I"⟩, b_H_adds, 6, some .int)
set_option maxRecDepth 100000 in
theorem mc_H_adds : Cond.code m_H_adds.1 m_H_adds.2.1 m_H_adds.2.2.1 m_H_adds.2.2.2 ∈ cd_ws := cd_mem 287 rfl rfl
theorem mf_H_adds : cd_MV m_H_adds 4 := ⟨⟨mc_H_adds, cd_mem 56 (by decide +kernel) rfl, by decide +kernel, by decide⟩, cd_mem 285 (by decide +kernel) rfl, cd_mem 286 (by decide +kernel) rfl⟩
abbrev b_H_addsText : ByteArray := prog_3_method_4_code
abbrev m_H_addsText : cd_MT := (⟨"CatDoors$House", "addsText", "(LCatDoors$Text;)I"⟩, b_H_addsText, 2, some .int)
set_option maxRecDepth 100000 in
theorem mc_H_addsText : Cond.code m_H_addsText.1 m_H_addsText.2.1 m_H_addsText.2.2.1 m_H_addsText.2.2.2 ∈ cd_ws := cd_mem 732 rfl rfl
theorem mf_H_addsText : cd_MV m_H_addsText 1 := ⟨⟨mc_H_addsText, cd_mem 56 (by decide +kernel) rfl, by decide +kernel, by decide⟩, cd_mem 730 (by decide +kernel) rfl, cd_mem 731 (by decide +kernel) rfl⟩
abbrev b_H_lawOf : ByteArray := prog_3_method_5_code
abbrev m_H_lawOf : cd_MT := (⟨"CatDoors$House", "lawOf", "(I)LCatDoors$Text;"⟩, b_H_lawOf, 3, some (.object "CatDoors$Text"))
set_option maxRecDepth 100000 in
theorem mc_H_lawOf : Cond.code m_H_lawOf.1 m_H_lawOf.2.1 m_H_lawOf.2.2.1 m_H_lawOf.2.2.2 ∈ cd_ws := cd_mem 307 rfl rfl
theorem mf_H_lawOf : cd_MV m_H_lawOf 1 := ⟨⟨mc_H_lawOf, cd_mem 56 (by decide +kernel) rfl, by decide +kernel, by decide⟩, cd_mem 305 (by decide +kernel) rfl, cd_mem 306 (by decide +kernel) rfl⟩
abbrev b_H_plainPress : ByteArray := prog_3_method_6_code
abbrev m_H_plainPress : cd_MT := (⟨"CatDoors$House", "plainPress", "(LCatDoors$Asking;)I"⟩, b_H_plainPress, 4, some .int)
set_option maxRecDepth 100000 in
theorem mc_H_plainPress : Cond.code m_H_plainPress.1 m_H_plainPress.2.1 m_H_plainPress.2.2.1 m_H_plainPress.2.2.2 ∈ cd_ws := cd_mem 303 rfl rfl
theorem mf_H_plainPress : cd_MV m_H_plainPress 1 := ⟨⟨mc_H_plainPress, cd_mem 56 (by decide +kernel) rfl, by decide +kernel, by decide⟩, cd_mem 301 (by decide +kernel) rfl, cd_mem 302 (by decide +kernel) rfl⟩
abbrev b_H_draw : ByteArray := prog_3_method_7_code
abbrev m_H_draw : cd_MT := (⟨"CatDoors$House", "draw", "()I"⟩, b_H_draw, 1, some .int)
set_option maxRecDepth 100000 in
theorem mc_H_draw : Cond.code m_H_draw.1 m_H_draw.2.1 m_H_draw.2.2.1 m_H_draw.2.2.2 ∈ cd_ws := cd_mem 393 rfl rfl
theorem mf_H_draw : cd_MV m_H_draw 0 := ⟨⟨mc_H_draw, cd_mem 56 (by decide +kernel) rfl, by decide +kernel, by decide⟩, cd_mem 391 (by decide +kernel) rfl, cd_mem 392 (by decide +kernel) rfl⟩
abbrev b_H_drawsBelow : ByteArray := prog_3_method_8_code
abbrev m_H_drawsBelow : cd_MT := (⟨"CatDoors$House", "drawsBelow", "(I)Z"⟩, b_H_drawsBelow, 2, some .boolean)
set_option maxRecDepth 100000 in
theorem mc_H_drawsBelow : Cond.code m_H_drawsBelow.1 m_H_drawsBelow.2.1 m_H_drawsBelow.2.2.1 m_H_drawsBelow.2.2.2 ∈ cd_ws := cd_mem 389 rfl rfl
theorem mf_H_drawsBelow : cd_MV m_H_drawsBelow 1 := ⟨⟨mc_H_drawsBelow, cd_mem 56 (by decide +kernel) rfl, by decide +kernel, by decide⟩, cd_mem 387 (by decide +kernel) rfl, cd_mem 388 (by decide +kernel) rfl⟩
abbrev b_H_passHours : ByteArray := prog_3_method_9_code
abbrev m_H_passHours : cd_MT := (⟨"CatDoors$House", "passHours", "(I)V"⟩, b_H_passHours, 4, none)
set_option maxRecDepth 100000 in
theorem mc_H_passHours : Cond.code m_H_passHours.1 m_H_passHours.2.1 m_H_passHours.2.2.1 m_H_passHours.2.2.2 ∈ cd_ws := cd_mem 411 rfl rfl
theorem mf_H_passHours : cd_MV m_H_passHours 1 := ⟨⟨mc_H_passHours, cd_mem 56 (by decide +kernel) rfl, by decide +kernel, by decide⟩, cd_mem 409 (by decide +kernel) rfl, cd_mem 410 (by decide +kernel) rfl⟩
abbrev b_H_drawsWeather : ByteArray := prog_3_method_10_code
abbrev m_H_drawsWeather : cd_MT := (⟨"CatDoors$House", "drawsWeather", "()V"⟩, b_H_drawsWeather, 1, none)
set_option maxRecDepth 100000 in
theorem mc_H_drawsWeather : Cond.code m_H_drawsWeather.1 m_H_drawsWeather.2.1 m_H_drawsWeather.2.2.1 m_H_drawsWeather.2.2.2 ∈ cd_ws := cd_mem 415 rfl rfl
theorem mf_H_drawsWeather : cd_MV m_H_drawsWeather 0 := ⟨⟨mc_H_drawsWeather, cd_mem 56 (by decide +kernel) rfl, by decide +kernel, by decide⟩, cd_mem 413 (by decide +kernel) rfl, cd_mem 414 (by decide +kernel) rfl⟩
abbrev b_H_asksNow : ByteArray := prog_3_method_11_code
abbrev m_H_asksNow : cd_MT := (⟨"CatDoors$House", "asksNow", "(LCatDoors$Asking;)Z"⟩, b_H_asksNow, 2, some .boolean)
set_option maxRecDepth 100000 in
theorem mc_H_asksNow : Cond.code m_H_asksNow.1 m_H_asksNow.2.1 m_H_asksNow.2.2.1 m_H_asksNow.2.2.2 ∈ cd_ws := cd_mem 419 rfl rfl
theorem mf_H_asksNow : cd_MV m_H_asksNow 1 := ⟨⟨mc_H_asksNow, cd_mem 56 (by decide +kernel) rfl, by decide +kernel, by decide⟩, cd_mem 417 (by decide +kernel) rfl, cd_mem 418 (by decide +kernel) rfl⟩
abbrev b_H_hears : ByteArray := prog_3_method_12_code
abbrev m_H_hears : cd_MT := (⟨"CatDoors$House", "hears", "(LCatDoors$Asking;)V"⟩, b_H_hears, 2, none)
set_option maxRecDepth 100000 in
theorem mc_H_hears : Cond.code m_H_hears.1 m_H_hears.2.1 m_H_hears.2.2.1 m_H_hears.2.2.2 ∈ cd_ws := cd_mem 423 rfl rfl
theorem mf_H_hears : cd_MV m_H_hears 1 := ⟨⟨mc_H_hears, cd_mem 56 (by decide +kernel) rfl, by decide +kernel, by decide⟩, cd_mem 421 (by decide +kernel) rfl, cd_mem 422 (by decide +kernel) rfl⟩
abbrev b_H_getsUp : ByteArray := prog_3_method_13_code
abbrev m_H_getsUp : cd_MT := (⟨"CatDoors$House", "getsUp", "(LCatDoors$Asking;)Z"⟩, b_H_getsUp, 2, some .boolean)
set_option maxRecDepth 100000 in
theorem mc_H_getsUp : Cond.code m_H_getsUp.1 m_H_getsUp.2.1 m_H_getsUp.2.2.1 m_H_getsUp.2.2.2 ∈ cd_ws := cd_mem 374 rfl rfl
theorem mf_H_getsUp : cd_MV m_H_getsUp 1 := ⟨⟨mc_H_getsUp, cd_mem 56 (by decide +kernel) rfl, by decide +kernel, by decide⟩, cd_mem 372 (by decide +kernel) rfl, cd_mem 373 (by decide +kernel) rfl⟩
abbrev b_H_goesIfMeant : ByteArray := prog_3_method_14_code
abbrev m_H_goesIfMeant : cd_MT := (⟨"CatDoors$House", "goesIfMeant", "(LCatDoors$Asking;)Z"⟩, b_H_goesIfMeant, 2, some .boolean)
set_option maxRecDepth 100000 in
theorem mc_H_goesIfMeant : Cond.code m_H_goesIfMeant.1 m_H_goesIfMeant.2.1 m_H_goesIfMeant.2.2.1 m_H_goesIfMeant.2.2.2 ∈ cd_ws := cd_mem 384 rfl rfl
theorem mf_H_goesIfMeant : cd_MV m_H_goesIfMeant 1 := ⟨⟨mc_H_goesIfMeant, cd_mem 56 (by decide +kernel) rfl, by decide +kernel, by decide⟩, cd_mem 382 (by decide +kernel) rfl, cd_mem 383 (by decide +kernel) rfl⟩
abbrev b_H_habitSum : ByteArray := prog_3_method_15_code
abbrev m_H_habitSum : cd_MT := (⟨"CatDoors$House", "habitSum", "()I"⟩, b_H_habitSum, 3, some .int)
set_option maxRecDepth 100000 in
theorem mc_H_habitSum : Cond.code m_H_habitSum.1 m_H_habitSum.2.1 m_H_habitSum.2.2.1 m_H_habitSum.2.2.2 ∈ cd_ws := cd_mem 439 rfl rfl
theorem mf_H_habitSum : cd_MV m_H_habitSum 0 := ⟨⟨mc_H_habitSum, cd_mem 56 (by decide +kernel) rfl, by decide +kernel, by decide⟩, cd_mem 437 (by decide +kernel) rfl, cd_mem 438 (by decide +kernel) rfl⟩
abbrev b_H_comingNext : ByteArray := prog_3_method_16_code
abbrev m_H_comingNext : cd_MT := (⟨"CatDoors$House", "comingNext", "()I"⟩, b_H_comingNext, 5, some .int)
set_option maxRecDepth 100000 in
theorem mc_H_comingNext : Cond.code m_H_comingNext.1 m_H_comingNext.2.1 m_H_comingNext.2.2.1 m_H_comingNext.2.2.2 ∈ cd_ws := cd_mem 443 rfl rfl
theorem mf_H_comingNext : cd_MV m_H_comingNext 0 := ⟨⟨mc_H_comingNext, cd_mem 56 (by decide +kernel) rfl, by decide +kernel, by decide⟩, cd_mem 441 (by decide +kernel) rfl, cd_mem 442 (by decide +kernel) rfl⟩
theorem lk_H_3 : Cond.methodLink "CatDoors$House" 3 ⟨"java/lang/Object", "<init>", "()V"⟩ ∈ cd_ws := cd_mem 83 (by decide +kernel) rfl
theorem lk_H_48 : Cond.methodLink "CatDoors$House" 48 ⟨"java/lang/System", "arraycopy", "(Ljava/lang/Object;ILjava/lang/Object;II)V"⟩ ∈ cd_ws := cd_mem 452 (by decide +kernel) rfl
theorem lk_H_54 : Cond.methodLink "CatDoors$House" 54 ⟨"CatDoors$Asking", "takes", "(LCatDoors$Asking;)V"⟩ ∈ cd_ws := cd_mem 455 (by decide +kernel) rfl
theorem lk_H_74 : Cond.methodLink "CatDoors$House" 74 ⟨"CatDoors$House", "lawOf", "(I)LCatDoors$Text;"⟩ ∈ cd_ws := cd_mem 304 (by decide +kernel) rfl
theorem lk_H_78 : Cond.methodLink "CatDoors$House" 78 ⟨"CatDoors$Text", "gives", "(III)I"⟩ ∈ cd_ws := cd_mem 308 (by decide +kernel) rfl
theorem lk_H_87 : Cond.methodLink "CatDoors$House" 87 ⟨"CatDoors$House", "draw", "()I"⟩ ∈ cd_ws := cd_mem 390 (by decide +kernel) rfl
theorem lk_H_91 : Cond.methodLink "CatDoors$House" 91 ⟨"CatDoors$House", "drawsWeather", "()V"⟩ ∈ cd_ws := cd_mem 412 (by decide +kernel) rfl
theorem lk_H_94 : Cond.methodLink "CatDoors$House" 94 ⟨"CatDoors$House", "asksNow", "(LCatDoors$Asking;)Z"⟩ ∈ cd_ws := cd_mem 416 (by decide +kernel) rfl
theorem lk_H_98 : Cond.methodLink "CatDoors$House" 98 ⟨"CatDoors$House", "hears", "(LCatDoors$Asking;)V"⟩ ∈ cd_ws := cd_mem 420 (by decide +kernel) rfl
theorem lk_H_101 : Cond.methodLink "CatDoors$House" 101 ⟨"CatDoors$House", "drawsBelow", "(I)Z"⟩ ∈ cd_ws := cd_mem 386 (by decide +kernel) rfl
theorem lk_H_105 : Cond.methodLink "CatDoors$House" 105 ⟨"CatDoors$House", "goesIfMeant", "(LCatDoors$Asking;)Z"⟩ ∈ cd_ws := cd_mem 381 (by decide +kernel) rfl
theorem lk_H_108 : Cond.methodLink "CatDoors$House" 108 ⟨"CatDoors$Asking", "presses", "(LCatDoors$House;)I"⟩ ∈ cd_ws := cd_mem 424 (by decide +kernel) rfl
theorem lk_H_112 : Cond.methodLink "CatDoors$House" 112 ⟨"CatDoors$House", "getsUp", "(LCatDoors$Asking;)Z"⟩ ∈ cd_ws := cd_mem 425 (by decide +kernel) rfl
theorem lk_H_118 : Cond.methodLink "CatDoors$House" 118 ⟨"CatDoors$Asking", "fails", "()V"⟩ ∈ cd_ws := cd_mem 427 (by decide +kernel) rfl
theorem lk_H_121 : Cond.methodLink "CatDoors$House" 121 ⟨"CatDoors$Asking", "works", "()V"⟩ ∈ cd_ws := cd_mem 375 (by decide +kernel) rfl
theorem lk_H_124 : Cond.methodLink "CatDoors$House" 124 ⟨"CatDoors$Asking", "meansIt", "(LCatDoors$House;)I"⟩ ∈ cd_ws := cd_mem 385 (by decide +kernel) rfl
theorem f_H_9 : cd_F "CatDoors$House" 9 1 0 (.array .int) true := ⟨_, _, _, _, cd_ci1, by decide, cd_mem 121 (by decide +kernel) rfl, rfl, rfl, rfl⟩
theorem f_H_15 : cd_F "CatDoors$House" 15 1 1 (.array .int) true := ⟨_, _, _, _, cd_ci1, by decide, cd_mem 124 (by decide +kernel) rfl, rfl, rfl, rfl⟩
theorem f_H_20 : cd_F "CatDoors$House" 20 1 2 (.array ((.object "CatDoors$Asking"))) true := ⟨_, _, _, _, cd_ci1, by decide, cd_mem 126 (by decide +kernel) rfl, rfl, rfl, rfl⟩
theorem f_H_24 : cd_F "CatDoors$House" 24 1 3 .int false := ⟨_, _, _, _, cd_ci1, by decide, cd_mem 128 (by decide +kernel) rfl, rfl, rfl, rfl⟩
theorem f_H_28 : cd_F "CatDoors$House" 28 1 4 .int false := ⟨_, _, _, _, cd_ci1, by decide, cd_mem 130 (by decide +kernel) rfl, rfl, rfl, rfl⟩
theorem f_H_31 : cd_F "CatDoors$House" 31 1 5 .int false := ⟨_, _, _, _, cd_ci1, by decide, cd_mem 132 (by decide +kernel) rfl, rfl, rfl, rfl⟩
theorem f_H_36 : cd_F "CatDoors$House" 36 1 6 (.array ((.object "CatDoors$Text"))) true := ⟨_, _, _, _, cd_ci1, by decide, cd_mem 134 (by decide +kernel) rfl, rfl, rfl, rfl⟩
theorem f_H_40 : cd_F "CatDoors$House" 40 1 7 .int false := ⟨_, _, _, _, cd_ci1, by decide, cd_mem 136 (by decide +kernel) rfl, rfl, rfl, rfl⟩
theorem f_H_44 : cd_F "CatDoors$House" 44 1 8 (.array .int) true := ⟨_, _, _, _, cd_ci1, by decide, cd_mem 138 (by decide +kernel) rfl, rfl, rfl, rfl⟩
theorem f_H_58 : cd_F "CatDoors$House" 58 0 0 .int false := ⟨_, _, _, _, cd_ci0, by decide, cd_mem 95 (by decide +kernel) rfl, rfl, rfl, rfl⟩
theorem f_H_61 : cd_F "CatDoors$House" 61 0 1 .int false := ⟨_, _, _, _, cd_ci0, by decide, cd_mem 98 (by decide +kernel) rfl, rfl, rfl, rfl⟩
theorem f_H_62 : cd_F "CatDoors$House" 62 0 2 .int false := ⟨_, _, _, _, cd_ci0, by decide, cd_mem 101 (by decide +kernel) rfl, rfl, rfl, rfl⟩
theorem f_H_65 : cd_F "CatDoors$House" 65 0 3 .int false := ⟨_, _, _, _, cd_ci0, by decide, cd_mem 104 (by decide +kernel) rfl, rfl, rfl, rfl⟩
theorem f_H_68 : cd_F "CatDoors$House" 68 0 4 .int false := ⟨_, _, _, _, cd_ci0, by decide, cd_mem 107 (by decide +kernel) rfl, rfl, rfl, rfl⟩
theorem f_H_71 : cd_F "CatDoors$House" 71 5 0 .int true := ⟨_, _, _, _, cd_ci5, by decide, cd_mem 714 (by decide +kernel) rfl, rfl, rfl, rfl⟩
theorem k_H_43 : Cond.constant "CatDoors$House" 43 (-1000000005) ∈ cd_ws := cd_mem 88 (by decide +kernel) rfl
theorem k_H_86 : Cond.constant "CatDoors$House" 86 (1103515245) ∈ cd_ws := cd_mem 394 (by decide +kernel) rfl
abbrev b_S_init : ByteArray := prog_4_method_1_code
abbrev m_S_init : cd_MT := (⟨"CatDoors$Sheet", "<init>", "()V"⟩, b_S_init, 1, none)
set_option maxRecDepth 100000 in
theorem mc_S_init : Cond.code m_S_init.1 m_S_init.2.1 m_S_init.2.2.1 m_S_init.2.2.2 ∈ cd_ws := cd_mem 203 rfl rfl
theorem mf_S_init : cd_MI m_S_init 0 := ⟨⟨mc_S_init, cd_mem 59 (by decide +kernel) rfl, by decide +kernel, by decide⟩, rfl, cd_mem 202 (by decide +kernel) rfl, rfl⟩
abbrev b_S_becomes : ByteArray := prog_4_method_2_code
abbrev m_S_becomes : cd_MT := (⟨"CatDoors$Sheet", "becomes", "(II)V"⟩, b_S_becomes, 4, none)
set_option maxRecDepth 100000 in
theorem mc_S_becomes : Cond.code m_S_becomes.1 m_S_becomes.2.1 m_S_becomes.2.2.1 m_S_becomes.2.2.2 ∈ cd_ws := cd_mem 748 rfl rfl
theorem mf_S_becomes : cd_MV m_S_becomes 2 := ⟨⟨mc_S_becomes, cd_mem 59 (by decide +kernel) rfl, by decide +kernel, by decide⟩, cd_mem 746 (by decide +kernel) rfl, cd_mem 747 (by decide +kernel) rfl⟩
abbrev b_S_takes : ByteArray := prog_4_method_3_code
abbrev m_S_takes : cd_MT := (⟨"CatDoors$Sheet", "takes", "(LCatDoors$Sheet;)V"⟩, b_S_takes, 2, none)
set_option maxRecDepth 100000 in
theorem mc_S_takes : Cond.code m_S_takes.1 m_S_takes.2.1 m_S_takes.2.2.1 m_S_takes.2.2.2 ∈ cd_ws := cd_mem 784 rfl rfl
theorem mf_S_takes : cd_MV m_S_takes 1 := ⟨⟨mc_S_takes, cd_mem 59 (by decide +kernel) rfl, by decide +kernel, by decide⟩, cd_mem 782 (by decide +kernel) rfl, cd_mem 783 (by decide +kernel) rfl⟩
abbrev b_S_isMissing : ByteArray := prog_4_method_4_code
abbrev m_S_isMissing : cd_MT := (⟨"CatDoors$Sheet", "isMissing", "()Z"⟩, b_S_isMissing, 1, some .boolean)
set_option maxRecDepth 100000 in
theorem mc_S_isMissing : Cond.code m_S_isMissing.1 m_S_isMissing.2.1 m_S_isMissing.2.2.1 m_S_isMissing.2.2.2 ∈ cd_ws := cd_mem 497 rfl rfl
theorem mf_S_isMissing : cd_MV m_S_isMissing 0 := ⟨⟨mc_S_isMissing, cd_mem 59 (by decide +kernel) rfl, by decide +kernel, by decide⟩, cd_mem 495 (by decide +kernel) rfl, cd_mem 496 (by decide +kernel) rfl⟩
abbrev b_S_hasPlace : ByteArray := prog_4_method_5_code
abbrev m_S_hasPlace : cd_MT := (⟨"CatDoors$Sheet", "hasPlace", "(I)Z"⟩, b_S_hasPlace, 2, some .boolean)
set_option maxRecDepth 100000 in
theorem mc_S_hasPlace : Cond.code m_S_hasPlace.1 m_S_hasPlace.2.1 m_S_hasPlace.2.2.1 m_S_hasPlace.2.2.2 ∈ cd_ws := cd_mem 510 rfl rfl
theorem mf_S_hasPlace : cd_MV m_S_hasPlace 1 := ⟨⟨mc_S_hasPlace, cd_mem 59 (by decide +kernel) rfl, by decide +kernel, by decide⟩, cd_mem 508 (by decide +kernel) rfl, cd_mem 509 (by decide +kernel) rfl⟩
abbrev b_S_hasPlaces : ByteArray := prog_4_method_6_code
abbrev m_S_hasPlaces : cd_MT := (⟨"CatDoors$Sheet", "hasPlaces", "(II)Z"⟩, b_S_hasPlaces, 3, some .boolean)
set_option maxRecDepth 100000 in
theorem mc_S_hasPlaces : Cond.code m_S_hasPlaces.1 m_S_hasPlaces.2.1 m_S_hasPlaces.2.2.1 m_S_hasPlaces.2.2.2 ∈ cd_ws := cd_mem 774 rfl rfl
theorem mf_S_hasPlaces : cd_MV m_S_hasPlaces 2 := ⟨⟨mc_S_hasPlaces, cd_mem 59 (by decide +kernel) rfl, by decide +kernel, by decide⟩, cd_mem 772 (by decide +kernel) rfl, cd_mem 773 (by decide +kernel) rfl⟩
abbrev b_S_isNumber : ByteArray := prog_4_method_7_code
abbrev m_S_isNumber : cd_MT := (⟨"CatDoors$Sheet", "isNumber", "(I)Z"⟩, b_S_isNumber, 2, some .boolean)
set_option maxRecDepth 100000 in
theorem mc_S_isNumber : Cond.code m_S_isNumber.1 m_S_isNumber.2.1 m_S_isNumber.2.2.1 m_S_isNumber.2.2.2 ∈ cd_ws := cd_mem 506 rfl rfl
theorem mf_S_isNumber : cd_MV m_S_isNumber 1 := ⟨⟨mc_S_isNumber, cd_mem 59 (by decide +kernel) rfl, by decide +kernel, by decide⟩, cd_mem 504 (by decide +kernel) rfl, cd_mem 505 (by decide +kernel) rfl⟩
theorem lk_S_3 : Cond.methodLink "CatDoors$Sheet" 3 ⟨"java/lang/Object", "<init>", "()V"⟩ ∈ cd_ws := cd_mem 204 (by decide +kernel) rfl
theorem lk_S_22 : Cond.methodLink "CatDoors$Sheet" 22 ⟨"java/lang/System", "arraycopy", "(Ljava/lang/Object;ILjava/lang/Object;II)V"⟩ ∈ cd_ws := cd_mem 785 (by decide +kernel) rfl
theorem lk_S_28 : Cond.methodLink "CatDoors$Sheet" 28 ⟨"CatDoors$Sheet", "hasPlace", "(I)Z"⟩ ∈ cd_ws := cd_mem 507 (by decide +kernel) rfl
theorem f_S_9 : cd_F "CatDoors$Sheet" 9 2 0 .int false := ⟨_, _, _, _, cd_ci2, by decide, cd_mem 205 (by decide +kernel) rfl, rfl, rfl, rfl⟩
theorem f_S_15 : cd_F "CatDoors$Sheet" 15 2 1 .int false := ⟨_, _, _, _, cd_ci2, by decide, cd_mem 207 (by decide +kernel) rfl, rfl, rfl, rfl⟩
theorem f_S_18 : cd_F "CatDoors$Sheet" 18 2 2 (.array .int) true := ⟨_, _, _, _, cd_ci2, by decide, cd_mem 209 (by decide +kernel) rfl, rfl, rfl, rfl⟩
theorem k_S_32 : Cond.constant "CatDoors$Sheet" 32 (-1000000005) ∈ cd_ws := cd_mem 511 (by decide +kernel) rfl
abbrev b_L_init : ByteArray := prog_5_method_1_code
abbrev m_L_init : cd_MT := (⟨"CatDoors$Slot", "<init>", "()V"⟩, b_L_init, 1, none)
set_option maxRecDepth 100000 in
theorem mc_L_init : Cond.code m_L_init.1 m_L_init.2.1 m_L_init.2.2.1 m_L_init.2.2.2 ∈ cd_ws := cd_mem 221 rfl rfl
theorem mf_L_init : cd_MI m_L_init 0 := ⟨⟨mc_L_init, cd_mem 60 (by decide +kernel) rfl, by decide +kernel, by decide⟩, rfl, cd_mem 220 (by decide +kernel) rfl, rfl⟩
abbrev b_L_refuses : ByteArray := prog_5_method_2_code
abbrev m_L_refuses : cd_MT := (⟨"CatDoors$Slot", "refuses", "(I)I"⟩, b_L_refuses, 2, some .int)
set_option maxRecDepth 100000 in
theorem mc_L_refuses : Cond.code m_L_refuses.1 m_L_refuses.2.1 m_L_refuses.2.2.1 m_L_refuses.2.2.2 ∈ cd_ws := cd_mem 793 rfl rfl
theorem mf_L_refuses : cd_MV m_L_refuses 1 := ⟨⟨mc_L_refuses, cd_mem 60 (by decide +kernel) rfl, by decide +kernel, by decide⟩, cd_mem 791 (by decide +kernel) rfl, cd_mem 792 (by decide +kernel) rfl⟩
theorem lk_L_3 : Cond.methodLink "CatDoors$Slot" 3 ⟨"java/lang/Object", "<init>", "()V"⟩ ∈ cd_ws := cd_mem 222 (by decide +kernel) rfl
theorem f_L_9 : cd_F "CatDoors$Slot" 9 3 0 .int false := ⟨_, _, _, _, cd_ci3, by decide, cd_mem 227 (by decide +kernel) rfl, rfl, rfl, rfl⟩
theorem f_L_15 : cd_F "CatDoors$Slot" 15 3 1 .int false := ⟨_, _, _, _, cd_ci3, by decide, cd_mem 229 (by decide +kernel) rfl, rfl, rfl, rfl⟩
theorem f_L_21 : cd_F "CatDoors$Slot" 21 3 2 (.object "CatDoors$Asking") true := ⟨_, _, _, _, cd_ci3, by decide, cd_mem 231 (by decide +kernel) rfl, rfl, rfl, rfl⟩
theorem f_L_28 : cd_F "CatDoors$Slot" 28 3 3 (.object "CatDoors$Sheet") true := ⟨_, _, _, _, cd_ci3, by decide, cd_mem 233 (by decide +kernel) rfl, rfl, rfl, rfl⟩
theorem k_L_32 : Cond.constant "CatDoors$Slot" 32 (-1000000011) ∈ cd_ws := cd_mem 794 (by decide +kernel) rfl
theorem k_L_33 : Cond.constant "CatDoors$Slot" 33 (-1000000012) ∈ cd_ws := cd_mem 795 (by decide +kernel) rfl
abbrev b_T_init : ByteArray := prog_6_method_1_code
abbrev m_T_init : cd_MT := (⟨"CatDoors$Tape", "<init>", "()V"⟩, b_T_init, 1, none)
set_option maxRecDepth 100000 in
theorem mc_T_init : Cond.code m_T_init.1 m_T_init.2.1 m_T_init.2.2.1 m_T_init.2.2.2 ∈ cd_ws := cd_mem 163 rfl rfl
theorem mf_T_init : cd_MI m_T_init 0 := ⟨⟨mc_T_init, cd_mem 58 (by decide +kernel) rfl, by decide +kernel, by decide⟩, rfl, cd_mem 162 (by decide +kernel) rfl, rfl⟩
abbrev b_T_addsBytes : ByteArray := prog_6_method_2_code
abbrev m_T_addsBytes : cd_MT := (⟨"CatDoors$Tape", "addsBytes", "(I)V"⟩, b_T_addsBytes, 3, none)
set_option maxRecDepth 100000 in
theorem mc_T_addsBytes : Cond.code m_T_addsBytes.1 m_T_addsBytes.2.1 m_T_addsBytes.2.2.1 m_T_addsBytes.2.2.2 ∈ cd_ws := cd_mem 536 rfl rfl
theorem mf_T_addsBytes : cd_MV m_T_addsBytes 1 := ⟨⟨mc_T_addsBytes, cd_mem 58 (by decide +kernel) rfl, by decide +kernel, by decide⟩, cd_mem 534 (by decide +kernel) rfl, cd_mem 535 (by decide +kernel) rfl⟩
abbrev b_T_readsText : ByteArray := prog_6_method_3_code
abbrev m_T_readsText : cd_MT := (⟨"CatDoors$Tape", "readsText", "()LCatDoors$Text;"⟩, b_T_readsText, 2, some (.object "CatDoors$Text"))
set_option maxRecDepth 100000 in
theorem mc_T_readsText : Cond.code m_T_readsText.1 m_T_readsText.2.1 m_T_readsText.2.2.1 m_T_readsText.2.2.2 ∈ cd_ws := cd_mem 548 rfl rfl
theorem mf_T_readsText : cd_MV m_T_readsText 0 := ⟨⟨mc_T_readsText, cd_mem 58 (by decide +kernel) rfl, by decide +kernel, by decide⟩, cd_mem 546 (by decide +kernel) rfl, cd_mem 547 (by decide +kernel) rfl⟩
abbrev b_T_readsKey : ByteArray := prog_6_method_4_code
abbrev m_T_readsKey : cd_MT := (⟨"CatDoors$Tape", "readsKey", "()Z"⟩, b_T_readsKey, 1, some .boolean)
set_option maxRecDepth 100000 in
theorem mc_T_readsKey : Cond.code m_T_readsKey.1 m_T_readsKey.2.1 m_T_readsKey.2.2.1 m_T_readsKey.2.2.2 ∈ cd_ws := cd_mem 560 rfl rfl
theorem mf_T_readsKey : cd_MV m_T_readsKey 0 := ⟨⟨mc_T_readsKey, cd_mem 58 (by decide +kernel) rfl, by decide +kernel, by decide⟩, cd_mem 559 (by decide +kernel) rfl, cd_mem 6 (by decide +kernel) rfl⟩
abbrev b_T_readsLevel : ByteArray := prog_6_method_5_code
abbrev m_T_readsLevel : cd_MT := (⟨"CatDoors$Tape", "readsLevel", "(III)Z"⟩, b_T_readsLevel, 7, some .boolean)
set_option maxRecDepth 100000 in
theorem mc_T_readsLevel : Cond.code m_T_readsLevel.1 m_T_readsLevel.2.1 m_T_readsLevel.2.2.1 m_T_readsLevel.2.2.2 ∈ cd_ws := cd_mem 619 rfl rfl
theorem mf_T_readsLevel : cd_MV m_T_readsLevel 3 := ⟨⟨mc_T_readsLevel, cd_mem 58 (by decide +kernel) rfl, by decide +kernel, by decide⟩, cd_mem 618 (by decide +kernel) rfl, cd_mem 8 (by decide +kernel) rfl⟩
abbrev b_T_readsPiece : ByteArray := prog_6_method_6_code
abbrev m_T_readsPiece : cd_MT := (⟨"CatDoors$Tape", "readsPiece", "(II)Z"⟩, b_T_readsPiece, 4, some .boolean)
set_option maxRecDepth 100000 in
theorem mc_T_readsPiece : Cond.code m_T_readsPiece.1 m_T_readsPiece.2.1 m_T_readsPiece.2.2.1 m_T_readsPiece.2.2.2 ∈ cd_ws := cd_mem 623 rfl rfl
theorem mf_T_readsPiece : cd_MV m_T_readsPiece 2 := ⟨⟨mc_T_readsPiece, cd_mem 58 (by decide +kernel) rfl, by decide +kernel, by decide⟩, cd_mem 622 (by decide +kernel) rfl, cd_mem 9 (by decide +kernel) rfl⟩
abbrev b_T_readsLeaf : ByteArray := prog_6_method_7_code
abbrev m_T_readsLeaf : cd_MT := (⟨"CatDoors$Tape", "readsLeaf", "()Z"⟩, b_T_readsLeaf, 2, some .boolean)
set_option maxRecDepth 100000 in
theorem mc_T_readsLeaf : Cond.code m_T_readsLeaf.1 m_T_readsLeaf.2.1 m_T_readsLeaf.2.2.1 m_T_readsLeaf.2.2.2 ∈ cd_ws := cd_mem 627 rfl rfl
theorem mf_T_readsLeaf : cd_MV m_T_readsLeaf 0 := ⟨⟨mc_T_readsLeaf, cd_mem 58 (by decide +kernel) rfl, by decide +kernel, by decide⟩, cd_mem 626 (by decide +kernel) rfl, cd_mem 10 (by decide +kernel) rfl⟩
abbrev b_T_number : ByteArray := prog_6_method_8_code
abbrev m_T_number : cd_MT := (⟨"CatDoors$Tape", "number", "()I"⟩, b_T_number, 3, some .int)
set_option maxRecDepth 100000 in
theorem mc_T_number : Cond.code m_T_number.1 m_T_number.2.1 m_T_number.2.2.1 m_T_number.2.2.2 ∈ cd_ws := cd_mem 631 rfl rfl
theorem mf_T_number : cd_MV m_T_number 0 := ⟨⟨mc_T_number, cd_mem 58 (by decide +kernel) rfl, by decide +kernel, by decide⟩, cd_mem 630 (by decide +kernel) rfl, cd_mem 11 (by decide +kernel) rfl⟩
abbrev b_T_name : ByteArray := prog_6_method_9_code
abbrev m_T_name : cd_MT := (⟨"CatDoors$Tape", "name", "()I"⟩, b_T_name, 3, some .int)
set_option maxRecDepth 100000 in
theorem mc_T_name : Cond.code m_T_name.1 m_T_name.2.1 m_T_name.2.2.1 m_T_name.2.2.2 ∈ cd_ws := cd_mem 635 rfl rfl
theorem mf_T_name : cd_MV m_T_name 0 := ⟨⟨mc_T_name, cd_mem 58 (by decide +kernel) rfl, by decide +kernel, by decide⟩, cd_mem 634 (by decide +kernel) rfl, cd_mem 12 (by decide +kernel) rfl⟩
abbrev b_T_puts : ByteArray := prog_6_method_10_code
abbrev m_T_puts : cd_MT := (⟨"CatDoors$Tape", "puts", "(I)V"⟩, b_T_puts, 2, none)
set_option maxRecDepth 100000 in
theorem mc_T_puts : Cond.code m_T_puts.1 m_T_puts.2.1 m_T_puts.2.2.1 m_T_puts.2.2.2 ∈ cd_ws := cd_mem 697 rfl rfl
theorem mf_T_puts : cd_MV m_T_puts 1 := ⟨⟨mc_T_puts, cd_mem 58 (by decide +kernel) rfl, by decide +kernel, by decide⟩, cd_mem 696 (by decide +kernel) rfl, cd_mem 13 (by decide +kernel) rfl⟩
abbrev b_T_isWord : ByteArray := prog_6_method_11_code
abbrev m_T_isWord : cd_MT := (⟨"CatDoors$Tape", "isWord", "(Ljava/lang/String;)Z"⟩, b_T_isWord, 3, some .boolean)
set_option maxRecDepth 100000 in
theorem mc_T_isWord : Cond.code m_T_isWord.1 m_T_isWord.2.1 m_T_isWord.2.2.1 m_T_isWord.2.2.2 ∈ cd_ws := cd_mem 565 rfl rfl
theorem mf_T_isWord : cd_MV m_T_isWord 1 := ⟨⟨mc_T_isWord, cd_mem 58 (by decide +kernel) rfl, by decide +kernel, by decide⟩, cd_mem 564 (by decide +kernel) rfl, cd_mem 7 (by decide +kernel) rfl⟩
abbrev b_T_isSign : ByteArray := prog_6_method_12_code
abbrev m_T_isSign : cd_MT := (⟨"CatDoors$Tape", "isSign", "(C)Z"⟩, b_T_isSign, 2, some .boolean)
set_option maxRecDepth 100000 in
theorem mc_T_isSign : Cond.code m_T_isSign.1 m_T_isSign.2.1 m_T_isSign.2.2.1 m_T_isSign.2.2.2 ∈ cd_ws := cd_mem 701 rfl rfl
theorem mf_T_isSign : cd_MV m_T_isSign 1 := ⟨⟨mc_T_isSign, cd_mem 58 (by decide +kernel) rfl, by decide +kernel, by decide⟩, cd_mem 700 (by decide +kernel) rfl, cd_mem 14 (by decide +kernel) rfl⟩
abbrev b_T_isSignOf : ByteArray := prog_6_method_13_code
abbrev m_T_isSignOf : cd_MT := (⟨"CatDoors$Tape", "isSignOf", "(I)Z"⟩, b_T_isSignOf, 2, some .boolean)
set_option maxRecDepth 100000 in
theorem mc_T_isSignOf : Cond.code m_T_isSignOf.1 m_T_isSignOf.2.1 m_T_isSignOf.2.2.1 m_T_isSignOf.2.2.2 ∈ cd_ws := cd_mem 705 rfl rfl
theorem mf_T_isSignOf : cd_MV m_T_isSignOf 1 := ⟨⟨mc_T_isSignOf, cd_mem 58 (by decide +kernel) rfl, by decide +kernel, by decide⟩, cd_mem 704 (by decide +kernel) rfl, cd_mem 15 (by decide +kernel) rfl⟩
abbrev b_T_advances : ByteArray := prog_6_method_14_code
abbrev m_T_advances : cd_MT := (⟨"CatDoors$Tape", "advances", "()V"⟩, b_T_advances, 3, none)
set_option maxRecDepth 100000 in
theorem mc_T_advances : Cond.code m_T_advances.1 m_T_advances.2.1 m_T_advances.2.2.1 m_T_advances.2.2.2 ∈ cd_ws := cd_mem 552 rfl rfl
theorem mf_T_advances : cd_MV m_T_advances 0 := ⟨⟨mc_T_advances, cd_mem 58 (by decide +kernel) rfl, by decide +kernel, by decide⟩, cd_mem 551 (by decide +kernel) rfl, cd_mem 4 (by decide +kernel) rfl⟩
abbrev b_T_sortAt : ByteArray := prog_6_method_15_code
abbrev m_T_sortAt : cd_MT := (⟨"CatDoors$Tape", "sortAt", "(I)I"⟩, b_T_sortAt, 3, some .int)
set_option maxRecDepth 100000 in
theorem mc_T_sortAt : Cond.code m_T_sortAt.1 m_T_sortAt.2.1 m_T_sortAt.2.2.1 m_T_sortAt.2.2.2 ∈ cd_ws := cd_mem 556 rfl rfl
theorem mf_T_sortAt : cd_MV m_T_sortAt 1 := ⟨⟨mc_T_sortAt, cd_mem 58 (by decide +kernel) rfl, by decide +kernel, by decide⟩, cd_mem 555 (by decide +kernel) rfl, cd_mem 5 (by decide +kernel) rfl⟩
theorem lk_T_3 : Cond.methodLink "CatDoors$Tape" 3 ⟨"java/lang/Object", "<init>", "()V"⟩ ∈ cd_ws := cd_mem 164 (by decide +kernel) rfl
theorem lk_T_41 : Cond.methodLink "CatDoors$Tape" 41 ⟨"CatDoors$Tape", "advances", "()V"⟩ ∈ cd_ws := cd_mem 549 (by decide +kernel) rfl
theorem lk_T_44 : Cond.methodLink "CatDoors$Tape" 44 ⟨"CatDoors$Tape", "readsKey", "()Z"⟩ ∈ cd_ws := cd_mem 557 (by decide +kernel) rfl
theorem lk_T_48 : Cond.methodLink "CatDoors$Tape" 48 ⟨"CatDoors$Tape", "readsLevel", "(III)Z"⟩ ∈ cd_ws := cd_mem 616 (by decide +kernel) rfl
theorem lk_T_52 : Cond.methodLink "CatDoors$Tape" 52 ⟨"java/lang/System", "arraycopy", "(Ljava/lang/Object;ILjava/lang/Object;II)V"⟩ ∈ cd_ws := cd_mem 706 (by decide +kernel) rfl
theorem lk_T_60 : Cond.methodLink "CatDoors$Tape" 60 ⟨"CatDoors$Text", "<init>", "(II[I)V"⟩ ∈ cd_ws := cd_mem 709 (by decide +kernel) rfl
theorem lk_T_65 : Cond.methodLink "CatDoors$Tape" 65 ⟨"CatDoors$Tape", "isWord", "(Ljava/lang/String;)Z"⟩ ∈ cd_ws := cd_mem 562 (by decide +kernel) rfl
theorem lk_T_73 : Cond.methodLink "CatDoors$Tape" 73 ⟨"CatDoors$Tape", "readsPiece", "(II)Z"⟩ ∈ cd_ws := cd_mem 620 (by decide +kernel) rfl
theorem lk_T_77 : Cond.methodLink "CatDoors$Tape" 77 ⟨"CatDoors$Tape", "isSignOf", "(I)Z"⟩ ∈ cd_ws := cd_mem 702 (by decide +kernel) rfl
theorem lk_T_81 : Cond.methodLink "CatDoors$Tape" 81 ⟨"CatDoors$Tape", "puts", "(I)V"⟩ ∈ cd_ws := cd_mem 694 (by decide +kernel) rfl
theorem lk_T_85 : Cond.methodLink "CatDoors$Tape" 85 ⟨"CatDoors$Tape", "readsLeaf", "()Z"⟩ ∈ cd_ws := cd_mem 624 (by decide +kernel) rfl
theorem lk_T_88 : Cond.methodLink "CatDoors$Tape" 88 ⟨"CatDoors$Tape", "isSign", "(C)Z"⟩ ∈ cd_ws := cd_mem 698 (by decide +kernel) rfl
theorem lk_T_92 : Cond.methodLink "CatDoors$Tape" 92 ⟨"CatDoors$Tape", "number", "()I"⟩ ∈ cd_ws := cd_mem 628 (by decide +kernel) rfl
theorem lk_T_96 : Cond.methodLink "CatDoors$Tape" 96 ⟨"CatDoors$Tape", "name", "()I"⟩ ∈ cd_ws := cd_mem 632 (by decide +kernel) rfl
theorem lk_T_105 : Cond.methodLink "CatDoors$Tape" 105 ⟨"java/lang/String", "indexOf", "(I)I"⟩ ∈ cd_ws := cd_mem 639 (by decide +kernel) rfl
theorem lk_T_111 : Cond.methodLink "CatDoors$Tape" 111 ⟨"java/lang/String", "length", "()I"⟩ ∈ cd_ws := cd_mem 566 (by decide +kernel) rfl
theorem lk_T_113 : Cond.methodLink "CatDoors$Tape" 113 ⟨"java/lang/String", "charAt", "(I)C"⟩ ∈ cd_ws := cd_mem 576 (by decide +kernel) rfl
theorem lk_T_117 : Cond.methodLink "CatDoors$Tape" 117 ⟨"CatDoors$Tape", "sortAt", "(I)I"⟩ ∈ cd_ws := cd_mem 553 (by decide +kernel) rfl
theorem f_T_9 : cd_F "CatDoors$Tape" 9 4 0 .int false := ⟨_, _, _, _, cd_ci4, by decide, cd_mem 165 (by decide +kernel) rfl, rfl, rfl, rfl⟩
theorem f_T_15 : cd_F "CatDoors$Tape" 15 4 1 .int false := ⟨_, _, _, _, cd_ci4, by decide, cd_mem 167 (by decide +kernel) rfl, rfl, rfl, rfl⟩
theorem f_T_18 : cd_F "CatDoors$Tape" 18 4 2 .int false := ⟨_, _, _, _, cd_ci4, by decide, cd_mem 169 (by decide +kernel) rfl, rfl, rfl, rfl⟩
theorem f_T_21 : cd_F "CatDoors$Tape" 21 4 3 .int false := ⟨_, _, _, _, cd_ci4, by decide, cd_mem 170 (by decide +kernel) rfl, rfl, rfl, rfl⟩
theorem f_T_24 : cd_F "CatDoors$Tape" 24 4 4 .int false := ⟨_, _, _, _, cd_ci4, by decide, cd_mem 171 (by decide +kernel) rfl, rfl, rfl, rfl⟩
theorem f_T_27 : cd_F "CatDoors$Tape" 27 4 5 .int false := ⟨_, _, _, _, cd_ci4, by decide, cd_mem 172 (by decide +kernel) rfl, rfl, rfl, rfl⟩
theorem f_T_30 : cd_F "CatDoors$Tape" 30 4 6 .int false := ⟨_, _, _, _, cd_ci4, by decide, cd_mem 173 (by decide +kernel) rfl, rfl, rfl, rfl⟩
theorem f_T_33 : cd_F "CatDoors$Tape" 33 4 7 (.array .byte) true := ⟨_, _, _, _, cd_ci4, by decide, cd_mem 174 (by decide +kernel) rfl, rfl, rfl, rfl⟩
theorem f_T_37 : cd_F "CatDoors$Tape" 37 4 8 (.array .int) true := ⟨_, _, _, _, cd_ci4, by decide, cd_mem 175 (by decide +kernel) rfl, rfl, rfl, rfl⟩
abbrev b_X_init : ByteArray := prog_7_method_1_code
abbrev m_X_init : cd_MT := (⟨"CatDoors$Text", "<init>", "(II[I)V"⟩, b_X_init, 4, none)
set_option maxRecDepth 100000 in
theorem mc_X_init : Cond.code m_X_init.1 m_X_init.2.1 m_X_init.2.2.1 m_X_init.2.2.2 ∈ cd_ws := cd_mem 711 rfl rfl
theorem mf_X_init : cd_MI m_X_init 3 := ⟨⟨mc_X_init, cd_mem 62 (by decide +kernel) rfl, by decide +kernel, by decide⟩, rfl, cd_mem 710 (by decide +kernel) rfl, rfl⟩
abbrev b_X_gives : ByteArray := prog_7_method_2_code
abbrev m_X_gives : cd_MT := (⟨"CatDoors$Text", "gives", "(III)I"⟩, b_X_gives, 7, some .int)
set_option maxRecDepth 100000 in
theorem mc_X_gives : Cond.code m_X_gives.1 m_X_gives.2.1 m_X_gives.2.2.1 m_X_gives.2.2.2 ∈ cd_ws := cd_mem 311 rfl rfl
theorem mf_X_gives : cd_MV m_X_gives 3 := ⟨⟨mc_X_gives, cd_mem 62 (by decide +kernel) rfl, by decide +kernel, by decide⟩, cd_mem 309 (by decide +kernel) rfl, cd_mem 310 (by decide +kernel) rfl⟩
abbrev b_X_leaf : ByteArray := prog_7_method_3_code
abbrev m_X_leaf : cd_MT := (⟨"CatDoors$Text", "leaf", "(IIII)I"⟩, b_X_leaf, 4, some .int)
set_option maxRecDepth 100000 in
theorem mc_X_leaf : Cond.code m_X_leaf.1 m_X_leaf.2.1 m_X_leaf.2.2.1 m_X_leaf.2.2.2 ∈ cd_ws := cd_mem 314 rfl rfl
theorem mf_X_leaf : cd_MS m_X_leaf 4 := ⟨⟨mc_X_leaf, cd_mem 62 (by decide +kernel) rfl, by decide +kernel, by decide⟩, cd_mem 313 (by decide +kernel) rfl⟩
abbrev b_X_joined : ByteArray := prog_7_method_4_code
abbrev m_X_joined : cd_MT := (⟨"CatDoors$Text", "joined", "(III)I"⟩, b_X_joined, 3, some .int)
set_option maxRecDepth 100000 in
theorem mc_X_joined : Cond.code m_X_joined.1 m_X_joined.2.1 m_X_joined.2.2.1 m_X_joined.2.2.2 ∈ cd_ws := cd_mem 317 rfl rfl
theorem mf_X_joined : cd_MS m_X_joined 3 := ⟨⟨mc_X_joined, cd_mem 62 (by decide +kernel) rfl, by decide +kernel, by decide⟩, cd_mem 316 (by decide +kernel) rfl⟩
theorem lk_X_3 : Cond.methodLink "CatDoors$Text" 3 ⟨"java/lang/Object", "<init>", "()V"⟩ ∈ cd_ws := cd_mem 712 (by decide +kernel) rfl
theorem lk_X_25 : Cond.methodLink "CatDoors$Text" 25 ⟨"CatDoors$Text", "leaf", "(IIII)I"⟩ ∈ cd_ws := cd_mem 312 (by decide +kernel) rfl
theorem lk_X_29 : Cond.methodLink "CatDoors$Text" 29 ⟨"CatDoors$Text", "joined", "(III)I"⟩ ∈ cd_ws := cd_mem 315 (by decide +kernel) rfl
theorem f_X_9 : cd_F "CatDoors$Text" 9 5 0 .int true := ⟨_, _, _, _, cd_ci5, by decide, cd_mem 713 (by decide +kernel) rfl, rfl, rfl, rfl⟩
theorem f_X_15 : cd_F "CatDoors$Text" 15 5 1 .int true := ⟨_, _, _, _, cd_ci5, by decide, cd_mem 716 (by decide +kernel) rfl, rfl, rfl, rfl⟩
theorem f_X_18 : cd_F "CatDoors$Text" 18 5 2 (.array .int) true := ⟨_, _, _, _, cd_ci5, by decide, cd_mem 718 (by decide +kernel) rfl, rfl, rfl, rfl⟩
theorem f_X_22 : cd_F "CatDoors$Text" 22 5 3 (.array .int) true := ⟨_, _, _, _, cd_ci5, by decide, cd_mem 719 (by decide +kernel) rfl, rfl, rfl, rfl⟩
abbrev b_C_init : ByteArray := prog_1_method_1_code
abbrev m_C_init : cd_MT := (⟨"CatDoors", "<init>", "()V"⟩, b_C_init, 2, none)
set_option maxRecDepth 100000 in
theorem mc_C_init : Cond.code m_C_init.1 m_C_init.2.1 m_C_init.2.2.1 m_C_init.2.2.2 ∈ cd_ws := cd_mem 74 rfl rfl
theorem mf_C_init : cd_MI m_C_init 0 := ⟨⟨mc_C_init, cd_mem 55 (by decide +kernel) rfl, by decide +kernel, by decide⟩, rfl, cd_mem 73 (by decide +kernel) rfl, rfl⟩
abbrev b_C_asking : ByteArray := prog_1_method_2_code
abbrev m_C_asking : cd_MT := (⟨"CatDoors", "asking", "(IIII)I"⟩, b_C_asking, 5, some .int)
set_option maxRecDepth 100000 in
theorem mc_C_asking : Cond.code m_C_asking.1 m_C_asking.2.1 m_C_asking.2.2.1 m_C_asking.2.2.2 ∈ cd_ws := cd_mem 278 rfl rfl
theorem mf_C_asking : cd_MV m_C_asking 4 := ⟨⟨mc_C_asking, cd_mem 55 (by decide +kernel) rfl, by decide +kernel, by decide⟩, cd_mem 276 (by decide +kernel) rfl, cd_mem 277 (by decide +kernel) rfl⟩
abbrev b_C_told : ByteArray := prog_1_method_3_code
abbrev m_C_told : cd_MT := (⟨"CatDoors", "told", "(II)I"⟩, b_C_told, 4, some .int)
set_option maxRecDepth 100000 in
theorem mc_C_told : Cond.code m_C_told.1 m_C_told.2.1 m_C_told.2.2.1 m_C_told.2.2.2 ∈ cd_ws := cd_mem 291 rfl rfl
theorem mf_C_told : cd_MV m_C_told 2 := ⟨⟨mc_C_told, cd_mem 55 (by decide +kernel) rfl, by decide +kernel, by decide⟩, cd_mem 289 (by decide +kernel) rfl, cd_mem 290 (by decide +kernel) rfl⟩
abbrev b_C_as : ByteArray := prog_1_method_4_code
abbrev m_C_as : cd_MT := (⟨"CatDoors", "as", "(II)I"⟩, b_C_as, 4, some .int)
set_option maxRecDepth 100000 in
theorem mc_C_as : Cond.code m_C_as.1 m_C_as.2.1 m_C_as.2.2.1 m_C_as.2.2.2 ∈ cd_ws := cd_mem 345 rfl rfl
theorem mf_C_as : cd_MV m_C_as 2 := ⟨⟨mc_C_as, cd_mem 55 (by decide +kernel) rfl, by decide +kernel, by decide⟩, cd_mem 343 (by decide +kernel) rfl, cd_mem 344 (by decide +kernel) rfl⟩
abbrev b_C_turns : ByteArray := prog_1_method_5_code
abbrev m_C_turns : cd_MT := (⟨"CatDoors", "turns", "(II)I"⟩, b_C_turns, 5, some .int)
set_option maxRecDepth 100000 in
theorem mc_C_turns : Cond.code m_C_turns.1 m_C_turns.2.1 m_C_turns.2.2.1 m_C_turns.2.2.2 ∈ cd_ws := cd_mem 356 rfl rfl
theorem mf_C_turns : cd_MV m_C_turns 2 := ⟨⟨mc_C_turns, cd_mem 55 (by decide +kernel) rfl, by decide +kernel, by decide⟩, cd_mem 354 (by decide +kernel) rfl, cd_mem 355 (by decide +kernel) rfl⟩
abbrev b_C_set : ByteArray := prog_1_method_6_code
abbrev m_C_set : cd_MT := (⟨"CatDoors", "set", "(III)I"⟩, b_C_set, 6, some .int)
set_option maxRecDepth 100000 in
theorem mc_C_set : Cond.code m_C_set.1 m_C_set.2.1 m_C_set.2.2.1 m_C_set.2.2.2 ∈ cd_ws := cd_mem 360 rfl rfl
theorem mf_C_set : cd_MV m_C_set 3 := ⟨⟨mc_C_set, cd_mem 55 (by decide +kernel) rfl, by decide +kernel, by decide⟩, cd_mem 358 (by decide +kernel) rfl, cd_mem 359 (by decide +kernel) rfl⟩
abbrev b_C_rule : ByteArray := prog_1_method_7_code
abbrev m_C_rule : cd_MT := (⟨"CatDoors", "rule", "(II)I"⟩, b_C_rule, 4, some .int)
set_option maxRecDepth 100000 in
theorem mc_C_rule : Cond.code m_C_rule.1 m_C_rule.2.1 m_C_rule.2.2.1 m_C_rule.2.2.2 ∈ cd_ws := cd_mem 364 rfl rfl
theorem mf_C_rule : cd_MV m_C_rule 2 := ⟨⟨mc_C_rule, cd_mem 55 (by decide +kernel) rfl, by decide +kernel, by decide⟩, cd_mem 362 (by decide +kernel) rfl, cd_mem 363 (by decide +kernel) rfl⟩
abbrev b_C_opens : ByteArray := prog_1_method_8_code
abbrev m_C_opens : cd_MT := (⟨"CatDoors", "opens", "(I)I"⟩, b_C_opens, 2, some .int)
set_option maxRecDepth 100000 in
theorem mc_C_opens : Cond.code m_C_opens.1 m_C_opens.2.1 m_C_opens.2.2.1 m_C_opens.2.2.2 ∈ cd_ws := cd_mem 370 rfl rfl
theorem mf_C_opens : cd_MV m_C_opens 1 := ⟨⟨mc_C_opens, cd_mem 55 (by decide +kernel) rfl, by decide +kernel, by decide⟩, cd_mem 368 (by decide +kernel) rfl, cd_mem 369 (by decide +kernel) rfl⟩
abbrev b_C_deal : ByteArray := prog_1_method_9_code
abbrev m_C_deal : cd_MT := (⟨"CatDoors", "deal", "(I)I"⟩, b_C_deal, 8, some .int)
set_option maxRecDepth 100000 in
theorem mc_C_deal : Cond.code m_C_deal.1 m_C_deal.2.1 m_C_deal.2.2.1 m_C_deal.2.2.2 ∈ cd_ws := cd_mem 398 rfl rfl
theorem mf_C_deal : cd_MV m_C_deal 1 := ⟨⟨mc_C_deal, cd_mem 55 (by decide +kernel) rfl, by decide +kernel, by decide⟩, cd_mem 396 (by decide +kernel) rfl, cd_mem 397 (by decide +kernel) rfl⟩
abbrev b_C_seed : ByteArray := prog_1_method_10_code
abbrev m_C_seed : cd_MT := (⟨"CatDoors", "seed", "(I)I"⟩, b_C_seed, 3, some .int)
set_option maxRecDepth 100000 in
theorem mc_C_seed : Cond.code m_C_seed.1 m_C_seed.2.1 m_C_seed.2.2.1 m_C_seed.2.2.2 ∈ cd_ws := cd_mem 403 rfl rfl
theorem mf_C_seed : cd_MV m_C_seed 1 := ⟨⟨mc_C_seed, cd_mem 55 (by decide +kernel) rfl, by decide +kernel, by decide⟩, cd_mem 401 (by decide +kernel) rfl, cd_mem 402 (by decide +kernel) rfl⟩
abbrev b_C_hours : ByteArray := prog_1_method_11_code
abbrev m_C_hours : cd_MT := (⟨"CatDoors", "hours", "(I)I"⟩, b_C_hours, 3, some .int)
set_option maxRecDepth 100000 in
theorem mc_C_hours : Cond.code m_C_hours.1 m_C_hours.2.1 m_C_hours.2.2.1 m_C_hours.2.2.2 ∈ cd_ws := cd_mem 407 rfl rfl
theorem mf_C_hours : cd_MV m_C_hours 1 := ⟨⟨mc_C_hours, cd_mem 55 (by decide +kernel) rfl, by decide +kernel, by decide⟩, cd_mem 405 (by decide +kernel) rfl, cd_mem 406 (by decide +kernel) rfl⟩
abbrev b_C_house : ByteArray := prog_1_method_12_code
abbrev m_C_house : cd_MT := (⟨"CatDoors", "house", "(I)I"⟩, b_C_house, 2, some .int)
set_option maxRecDepth 100000 in
theorem mc_C_house : Cond.code m_C_house.1 m_C_house.2.1 m_C_house.2.2.1 m_C_house.2.2.2 ∈ cd_ws := cd_mem 435 rfl rfl
theorem mf_C_house : cd_MV m_C_house 1 := ⟨⟨mc_C_house, cd_mem 55 (by decide +kernel) rfl, by decide +kernel, by decide⟩, cd_mem 433 (by decide +kernel) rfl, cd_mem 434 (by decide +kernel) rfl⟩
abbrev b_C_behind : ByteArray := prog_1_method_13_code
abbrev m_C_behind : cd_MT := (⟨"CatDoors", "behind", "(II)I"⟩, b_C_behind, 3, some .int)
set_option maxRecDepth 100000 in
theorem mc_C_behind : Cond.code m_C_behind.1 m_C_behind.2.1 m_C_behind.2.2.1 m_C_behind.2.2.2 ∈ cd_ws := cd_mem 447 rfl rfl
theorem mf_C_behind : cd_MV m_C_behind 2 := ⟨⟨mc_C_behind, cd_mem 55 (by decide +kernel) rfl, by decide +kernel, by decide⟩, cd_mem 445 (by decide +kernel) rfl, cd_mem 446 (by decide +kernel) rfl⟩
abbrev b_C_quiet : ByteArray := prog_1_method_14_code
abbrev m_C_quiet : cd_MT := (⟨"CatDoors", "quiet", "()I"⟩, b_C_quiet, 2, some .int)
set_option maxRecDepth 100000 in
theorem mc_C_quiet : Cond.code m_C_quiet.1 m_C_quiet.2.1 m_C_quiet.2.2.1 m_C_quiet.2.2.2 ∈ cd_ws := cd_mem 462 rfl rfl
theorem mf_C_quiet : cd_MV m_C_quiet 0 := ⟨⟨mc_C_quiet, cd_mem 55 (by decide +kernel) rfl, by decide +kernel, by decide⟩, cd_mem 460 (by decide +kernel) rfl, cd_mem 461 (by decide +kernel) rfl⟩
abbrev b_C_firm : ByteArray := prog_1_method_15_code
abbrev m_C_firm : cd_MT := (⟨"CatDoors", "firm", "(II)I"⟩, b_C_firm, 7, some .int)
set_option maxRecDepth 100000 in
theorem mc_C_firm : Cond.code m_C_firm.1 m_C_firm.2.1 m_C_firm.2.2.1 m_C_firm.2.2.2 ∈ cd_ws := cd_mem 467 rfl rfl
theorem mf_C_firm : cd_MV m_C_firm 2 := ⟨⟨mc_C_firm, cd_mem 55 (by decide +kernel) rfl, by decide +kernel, by decide⟩, cd_mem 465 (by decide +kernel) rfl, cd_mem 466 (by decide +kernel) rfl⟩
abbrev b_C_givenIn : ByteArray := prog_1_method_16_code
abbrev m_C_givenIn : cd_MT := (⟨"CatDoors", "givenIn", "(II)I"⟩, b_C_givenIn, 4, some .int)
set_option maxRecDepth 100000 in
theorem mc_C_givenIn : Cond.code m_C_givenIn.1 m_C_givenIn.2.1 m_C_givenIn.2.2.1 m_C_givenIn.2.2.2 ∈ cd_ws := cd_mem 472 rfl rfl
theorem mf_C_givenIn : cd_MV m_C_givenIn 2 := ⟨⟨mc_C_givenIn, cd_mem 55 (by decide +kernel) rfl, by decide +kernel, by decide⟩, cd_mem 470 (by decide +kernel) rfl, cd_mem 471 (by decide +kernel) rfl⟩
abbrev b_C_heard : ByteArray := prog_1_method_17_code
abbrev m_C_heard : cd_MT := (⟨"CatDoors", "heard", "(II)I"⟩, b_C_heard, 7, some .int)
set_option maxRecDepth 100000 in
theorem mc_C_heard : Cond.code m_C_heard.1 m_C_heard.2.1 m_C_heard.2.2.1 m_C_heard.2.2.2 ∈ cd_ws := cd_mem 477 rfl rfl
theorem mf_C_heard : cd_MV m_C_heard 2 := ⟨⟨mc_C_heard, cd_mem 55 (by decide +kernel) rfl, by decide +kernel, by decide⟩, cd_mem 475 (by decide +kernel) rfl, cd_mem 476 (by decide +kernel) rfl⟩
abbrev b_C_lamp : ByteArray := prog_1_method_18_code
abbrev m_C_lamp : cd_MT := (⟨"CatDoors", "lamp", "(I)I"⟩, b_C_lamp, 4, some .int)
set_option maxRecDepth 100000 in
theorem mc_C_lamp : Cond.code m_C_lamp.1 m_C_lamp.2.1 m_C_lamp.2.2.1 m_C_lamp.2.2.2 ∈ cd_ws := cd_mem 481 rfl rfl
theorem mf_C_lamp : cd_MV m_C_lamp 1 := ⟨⟨mc_C_lamp, cd_mem 55 (by decide +kernel) rfl, by decide +kernel, by decide⟩, cd_mem 479 (by decide +kernel) rfl, cd_mem 480 (by decide +kernel) rfl⟩
abbrev b_C_saved : ByteArray := prog_1_method_19_code
abbrev m_C_saved : cd_MT := (⟨"CatDoors", "saved", "(I)I"⟩, b_C_saved, 2, some .int)
set_option maxRecDepth 100000 in
theorem mc_C_saved : Cond.code m_C_saved.1 m_C_saved.2.1 m_C_saved.2.2.1 m_C_saved.2.2.2 ∈ cd_ws := cd_mem 485 rfl rfl
theorem mf_C_saved : cd_MV m_C_saved 1 := ⟨⟨mc_C_saved, cd_mem 55 (by decide +kernel) rfl, by decide +kernel, by decide⟩, cd_mem 483 (by decide +kernel) rfl, cd_mem 484 (by decide +kernel) rfl⟩
abbrev b_C_risingsWithFlap : ByteArray := prog_1_method_20_code
abbrev m_C_risingsWithFlap : cd_MT := (⟨"CatDoors", "risingsWithFlap", "(II)I"⟩, b_C_risingsWithFlap, 3, some .int)
set_option maxRecDepth 100000 in
theorem mc_C_risingsWithFlap : Cond.code m_C_risingsWithFlap.1 m_C_risingsWithFlap.2.1 m_C_risingsWithFlap.2.2.1 m_C_risingsWithFlap.2.2.2 ∈ cd_ws := cd_mem 489 rfl rfl
theorem mf_C_risingsWithFlap : cd_MV m_C_risingsWithFlap 2 := ⟨⟨mc_C_risingsWithFlap, cd_mem 55 (by decide +kernel) rfl, by decide +kernel, by decide⟩, cd_mem 488 (by decide +kernel) rfl, cd_mem 1 (by decide +kernel) rfl⟩
abbrev b_C_taught : ByteArray := prog_1_method_21_code
abbrev m_C_taught : cd_MT := (⟨"CatDoors", "taught", "(II)I"⟩, b_C_taught, 5, some .int)
set_option maxRecDepth 100000 in
theorem mc_C_taught : Cond.code m_C_taught.1 m_C_taught.2.1 m_C_taught.2.2.1 m_C_taught.2.2.2 ∈ cd_ws := cd_mem 493 rfl rfl
theorem mf_C_taught : cd_MV m_C_taught 2 := ⟨⟨mc_C_taught, cd_mem 55 (by decide +kernel) rfl, by decide +kernel, by decide⟩, cd_mem 491 (by decide +kernel) rfl, cd_mem 492 (by decide +kernel) rfl⟩
abbrev b_C_sumDifferences : ByteArray := prog_1_method_22_code
abbrev m_C_sumDifferences : cd_MT := (⟨"CatDoors", "sumDifferences", "(LCatDoors$Sheet;)V"⟩, b_C_sumDifferences, 3, none)
set_option maxRecDepth 100000 in
theorem mc_C_sumDifferences : Cond.code m_C_sumDifferences.1 m_C_sumDifferences.2.1 m_C_sumDifferences.2.2.1 m_C_sumDifferences.2.2.2 ∈ cd_ws := cd_mem 502 rfl rfl
theorem mf_C_sumDifferences : cd_MV m_C_sumDifferences 1 := ⟨⟨mc_C_sumDifferences, cd_mem 55 (by decide +kernel) rfl, by decide +kernel, by decide⟩, cd_mem 501 (by decide +kernel) rfl, cd_mem 2 (by decide +kernel) rfl⟩
abbrev b_C_addDifferences : ByteArray := prog_1_method_23_code
abbrev m_C_addDifferences : cd_MT := (⟨"CatDoors", "addDifferences", "(I)V"⟩, b_C_addDifferences, 3, none)
set_option maxRecDepth 100000 in
theorem mc_C_addDifferences : Cond.code m_C_addDifferences.1 m_C_addDifferences.2.1 m_C_addDifferences.2.2.1 m_C_addDifferences.2.2.2 ∈ cd_ws := cd_mem 515 rfl rfl
theorem mf_C_addDifferences : cd_MV m_C_addDifferences 1 := ⟨⟨mc_C_addDifferences, cd_mem 55 (by decide +kernel) rfl, by decide +kernel, by decide⟩, cd_mem 514 (by decide +kernel) rfl, cd_mem 3 (by decide +kernel) rfl⟩
abbrev b_C_fee : ByteArray := prog_1_method_24_code
abbrev m_C_fee : cd_MT := (⟨"CatDoors", "fee", "()I"⟩, b_C_fee, 2, some .int)
set_option maxRecDepth 100000 in
theorem mc_C_fee : Cond.code m_C_fee.1 m_C_fee.2.1 m_C_fee.2.2.1 m_C_fee.2.2.2 ∈ cd_ws := cd_mem 522 rfl rfl
theorem mf_C_fee : cd_MV m_C_fee 0 := ⟨⟨mc_C_fee, cd_mem 55 (by decide +kernel) rfl, by decide +kernel, by decide⟩, cd_mem 520 (by decide +kernel) rfl, cd_mem 521 (by decide +kernel) rfl⟩
abbrev b_C_fine : ByteArray := prog_1_method_25_code
abbrev m_C_fine : cd_MT := (⟨"CatDoors", "fine", "(I)I"⟩, b_C_fine, 4, some .int)
set_option maxRecDepth 100000 in
theorem mc_C_fine : Cond.code m_C_fine.1 m_C_fine.2.1 m_C_fine.2.2.1 m_C_fine.2.2.2 ∈ cd_ws := cd_mem 528 rfl rfl
theorem mf_C_fine : cd_MV m_C_fine 1 := ⟨⟨mc_C_fine, cd_mem 55 (by decide +kernel) rfl, by decide +kernel, by decide⟩, cd_mem 526 (by decide +kernel) rfl, cd_mem 527 (by decide +kernel) rfl⟩
abbrev b_C_feed : ByteArray := prog_1_method_26_code
abbrev m_C_feed : cd_MT := (⟨"CatDoors", "feed", "(III)I"⟩, b_C_feed, 4, some .int)
set_option maxRecDepth 100000 in
theorem mc_C_feed : Cond.code m_C_feed.1 m_C_feed.2.1 m_C_feed.2.2.1 m_C_feed.2.2.2 ∈ cd_ws := cd_mem 532 rfl rfl
theorem mf_C_feed : cd_MV m_C_feed 3 := ⟨⟨mc_C_feed, cd_mem 55 (by decide +kernel) rfl, by decide +kernel, by decide⟩, cd_mem 530 (by decide +kernel) rfl, cd_mem 531 (by decide +kernel) rfl⟩
abbrev b_C_trim : ByteArray := prog_1_method_27_code
abbrev m_C_trim : cd_MT := (⟨"CatDoors", "trim", "(I)I"⟩, b_C_trim, 2, some .int)
set_option maxRecDepth 100000 in
theorem mc_C_trim : Cond.code m_C_trim.1 m_C_trim.2.1 m_C_trim.2.2.1 m_C_trim.2.2.2 ∈ cd_ws := cd_mem 540 rfl rfl
theorem mf_C_trim : cd_MV m_C_trim 1 := ⟨⟨mc_C_trim, cd_mem 55 (by decide +kernel) rfl, by decide +kernel, by decide⟩, cd_mem 538 (by decide +kernel) rfl, cd_mem 539 (by decide +kernel) rfl⟩
abbrev b_C_text : ByteArray := prog_1_method_28_code
abbrev m_C_text : cd_MT := (⟨"CatDoors", "text", "()I"⟩, b_C_text, 2, some .int)
set_option maxRecDepth 100000 in
theorem mc_C_text : Cond.code m_C_text.1 m_C_text.2.1 m_C_text.2.2.1 m_C_text.2.2.2 ∈ cd_ws := cd_mem 544 rfl rfl
theorem mf_C_text : cd_MV m_C_text 0 := ⟨⟨mc_C_text, cd_mem 55 (by decide +kernel) rfl, by decide +kernel, by decide⟩, cd_mem 542 (by decide +kernel) rfl, cd_mem 543 (by decide +kernel) rfl⟩
abbrev b_C_textTold : ByteArray := prog_1_method_29_code
abbrev m_C_textTold : cd_MT := (⟨"CatDoors", "textTold", "(II)I"⟩, b_C_textTold, 4, some .int)
set_option maxRecDepth 100000 in
theorem mc_C_textTold : Cond.code m_C_textTold.1 m_C_textTold.2.1 m_C_textTold.2.2.1 m_C_textTold.2.2.2 ∈ cd_ws := cd_mem 736 rfl rfl
theorem mf_C_textTold : cd_MV m_C_textTold 2 := ⟨⟨mc_C_textTold, cd_mem 55 (by decide +kernel) rfl, by decide +kernel, by decide⟩, cd_mem 734 (by decide +kernel) rfl, cd_mem 735 (by decide +kernel) rfl⟩
abbrev b_C_why : ByteArray := prog_1_method_30_code
abbrev m_C_why : cd_MT := (⟨"CatDoors", "why", "(I)I"⟩, b_C_why, 2, some .int)
set_option maxRecDepth 100000 in
theorem mc_C_why : Cond.code m_C_why.1 m_C_why.2.1 m_C_why.2.2.1 m_C_why.2.2.2 ∈ cd_ws := cd_mem 740 rfl rfl
theorem mf_C_why : cd_MV m_C_why 1 := ⟨⟨mc_C_why, cd_mem 55 (by decide +kernel) rfl, by decide +kernel, by decide⟩, cd_mem 738 (by decide +kernel) rfl, cd_mem 739 (by decide +kernel) rfl⟩
abbrev b_C_sheet : ByteArray := prog_1_method_31_code
abbrev m_C_sheet : cd_MT := (⟨"CatDoors", "sheet", "(III)I"⟩, b_C_sheet, 4, some .int)
set_option maxRecDepth 100000 in
theorem mc_C_sheet : Cond.code m_C_sheet.1 m_C_sheet.2.1 m_C_sheet.2.2.1 m_C_sheet.2.2.2 ∈ cd_ws := cd_mem 744 rfl rfl
theorem mf_C_sheet : cd_MV m_C_sheet 3 := ⟨⟨mc_C_sheet, cd_mem 55 (by decide +kernel) rfl, by decide +kernel, by decide⟩, cd_mem 742 (by decide +kernel) rfl, cd_mem 743 (by decide +kernel) rfl⟩
abbrev b_C_mark : ByteArray := prog_1_method_32_code
abbrev m_C_mark : cd_MT := (⟨"CatDoors", "mark", "(III)I"⟩, b_C_mark, 5, some .int)
set_option maxRecDepth 100000 in
theorem mc_C_mark : Cond.code m_C_mark.1 m_C_mark.2.1 m_C_mark.2.2.1 m_C_mark.2.2.2 ∈ cd_ws := cd_mem 753 rfl rfl
theorem mf_C_mark : cd_MV m_C_mark 3 := ⟨⟨mc_C_mark, cd_mem 55 (by decide +kernel) rfl, by decide +kernel, by decide⟩, cd_mem 751 (by decide +kernel) rfl, cd_mem 752 (by decide +kernel) rfl⟩
abbrev b_C_pour : ByteArray := prog_1_method_33_code
abbrev m_C_pour : cd_MT := (⟨"CatDoors", "pour", "(I)I"⟩, b_C_pour, 7, some .int)
set_option maxRecDepth 100000 in
theorem mc_C_pour : Cond.code m_C_pour.1 m_C_pour.2.1 m_C_pour.2.2.1 m_C_pour.2.2.2 ∈ cd_ws := cd_mem 761 rfl rfl
theorem mf_C_pour : cd_MV m_C_pour 1 := ⟨⟨mc_C_pour, cd_mem 55 (by decide +kernel) rfl, by decide +kernel, by decide⟩, cd_mem 759 (by decide +kernel) rfl, cd_mem 760 (by decide +kernel) rfl⟩
abbrev b_C_reads : ByteArray := prog_1_method_34_code
abbrev m_C_reads : cd_MT := (⟨"CatDoors", "reads", "(I)I"⟩, b_C_reads, 5, some .int)
set_option maxRecDepth 100000 in
theorem mc_C_reads : Cond.code m_C_reads.1 m_C_reads.2.1 m_C_reads.2.2.1 m_C_reads.2.2.2 ∈ cd_ws := cd_mem 766 rfl rfl
theorem mf_C_reads : cd_MV m_C_reads 1 := ⟨⟨mc_C_reads, cd_mem 55 (by decide +kernel) rfl, by decide +kernel, by decide⟩, cd_mem 764 (by decide +kernel) rfl, cd_mem 765 (by decide +kernel) rfl⟩
abbrev b_C_copy : ByteArray := prog_1_method_35_code
abbrev m_C_copy : cd_MT := (⟨"CatDoors", "copy", "(IIIII)I"⟩, b_C_copy, 8, some .int)
set_option maxRecDepth 100000 in
theorem mc_C_copy : Cond.code m_C_copy.1 m_C_copy.2.1 m_C_copy.2.2.1 m_C_copy.2.2.2 ∈ cd_ws := cd_mem 770 rfl rfl
theorem mf_C_copy : cd_MV m_C_copy 5 := ⟨⟨mc_C_copy, cd_mem 55 (by decide +kernel) rfl, by decide +kernel, by decide⟩, cd_mem 768 (by decide +kernel) rfl, cd_mem 769 (by decide +kernel) rfl⟩
abbrev b_C_lay : ByteArray := prog_1_method_36_code
abbrev m_C_lay : cd_MT := (⟨"CatDoors", "lay", "(III)I"⟩, b_C_lay, 6, some .int)
set_option maxRecDepth 100000 in
theorem mc_C_lay : Cond.code m_C_lay.1 m_C_lay.2.1 m_C_lay.2.2.1 m_C_lay.2.2.2 ∈ cd_ws := cd_mem 779 rfl rfl
theorem mf_C_lay : cd_MV m_C_lay 3 := ⟨⟨mc_C_lay, cd_mem 55 (by decide +kernel) rfl, by decide +kernel, by decide⟩, cd_mem 777 (by decide +kernel) rfl, cd_mem 778 (by decide +kernel) rfl⟩
abbrev b_C_ask : ByteArray := prog_1_method_37_code
abbrev m_C_ask : cd_MT := (⟨"CatDoors", "ask", "(II)I"⟩, b_C_ask, 5, some .int)
set_option maxRecDepth 100000 in
theorem mc_C_ask : Cond.code m_C_ask.1 m_C_ask.2.1 m_C_ask.2.2.1 m_C_ask.2.2.2 ∈ cd_ws := cd_mem 789 rfl rfl
theorem mf_C_ask : cd_MV m_C_ask 2 := ⟨⟨mc_C_ask, cd_mem 55 (by decide +kernel) rfl, by decide +kernel, by decide⟩, cd_mem 787 (by decide +kernel) rfl, cd_mem 788 (by decide +kernel) rfl⟩
abbrev b_C_item : ByteArray := prog_1_method_38_code
abbrev m_C_item : cd_MT := (⟨"CatDoors", "item", "(II)I"⟩, b_C_item, 5, some .int)
set_option maxRecDepth 100000 in
theorem mc_C_item : Cond.code m_C_item.1 m_C_item.2.1 m_C_item.2.2.1 m_C_item.2.2.2 ∈ cd_ws := cd_mem 799 rfl rfl
theorem mf_C_item : cd_MV m_C_item 2 := ⟨⟨mc_C_item, cd_mem 55 (by decide +kernel) rfl, by decide +kernel, by decide⟩, cd_mem 797 (by decide +kernel) rfl, cd_mem 798 (by decide +kernel) rfl⟩
abbrev b_C_rest : ByteArray := prog_1_method_39_code
abbrev m_C_rest : cd_MT := (⟨"CatDoors", "rest", "(II)I"⟩, b_C_rest, 4, some .int)
set_option maxRecDepth 100000 in
theorem mc_C_rest : Cond.code m_C_rest.1 m_C_rest.2.1 m_C_rest.2.2.1 m_C_rest.2.2.2 ∈ cd_ws := cd_mem 803 rfl rfl
theorem mf_C_rest : cd_MV m_C_rest 2 := ⟨⟨mc_C_rest, cd_mem 55 (by decide +kernel) rfl, by decide +kernel, by decide⟩, cd_mem 801 (by decide +kernel) rfl, cd_mem 802 (by decide +kernel) rfl⟩
abbrev b_C_tell : ByteArray := prog_1_method_40_code
abbrev m_C_tell : cd_MT := (⟨"CatDoors", "tell", "(I)I"⟩, b_C_tell, 2, some .int)
set_option maxRecDepth 100000 in
theorem mc_C_tell : Cond.code m_C_tell.1 m_C_tell.2.1 m_C_tell.2.2.1 m_C_tell.2.2.2 ∈ cd_ws := cd_mem 808 rfl rfl
theorem mf_C_tell : cd_MV m_C_tell 1 := ⟨⟨mc_C_tell, cd_mem 55 (by decide +kernel) rfl, by decide +kernel, by decide⟩, cd_mem 806 (by decide +kernel) rfl, cd_mem 807 (by decide +kernel) rfl⟩
abbrev b_C_check : ByteArray := prog_1_method_41_code
abbrev m_C_check : cd_MT := (⟨"CatDoors", "check", "(I)I"⟩, b_C_check, 7, some .int)
set_option maxRecDepth 100000 in
theorem mc_C_check : Cond.code m_C_check.1 m_C_check.2.1 m_C_check.2.2.1 m_C_check.2.2.2 ∈ cd_ws := cd_mem 812 rfl rfl
theorem mf_C_check : cd_MV m_C_check 1 := ⟨⟨mc_C_check, cd_mem 55 (by decide +kernel) rfl, by decide +kernel, by decide⟩, cd_mem 810 (by decide +kernel) rfl, cd_mem 811 (by decide +kernel) rfl⟩
abbrev b_C_keep : ByteArray := prog_1_method_42_code
abbrev m_C_keep : cd_MT := (⟨"CatDoors", "keep", "()I"⟩, b_C_keep, 1, some .int)
set_option maxRecDepth 100000 in
theorem mc_C_keep : Cond.code m_C_keep.1 m_C_keep.2.1 m_C_keep.2.2.1 m_C_keep.2.2.2 ∈ cd_ws := cd_mem 816 rfl rfl
theorem mf_C_keep : cd_MV m_C_keep 0 := ⟨⟨mc_C_keep, cd_mem 55 (by decide +kernel) rfl, by decide +kernel, by decide⟩, cd_mem 814 (by decide +kernel) rfl, cd_mem 815 (by decide +kernel) rfl⟩
abbrev b_C_back : ByteArray := prog_1_method_43_code
abbrev m_C_back : cd_MT := (⟨"CatDoors", "back", "()I"⟩, b_C_back, 1, some .int)
set_option maxRecDepth 100000 in
theorem mc_C_back : Cond.code m_C_back.1 m_C_back.2.1 m_C_back.2.2.1 m_C_back.2.2.2 ∈ cd_ws := cd_mem 820 rfl rfl
theorem mf_C_back : cd_MV m_C_back 0 := ⟨⟨mc_C_back, cd_mem 55 (by decide +kernel) rfl, by decide +kernel, by decide⟩, cd_mem 818 (by decide +kernel) rfl, cd_mem 819 (by decide +kernel) rfl⟩
abbrev b_C_count : ByteArray := prog_1_method_44_code
abbrev m_C_count : cd_MT := (⟨"CatDoors", "count", "(I)I"⟩, b_C_count, 2, some .int)
set_option maxRecDepth 100000 in
theorem mc_C_count : Cond.code m_C_count.1 m_C_count.2.1 m_C_count.2.2.1 m_C_count.2.2.2 ∈ cd_ws := cd_mem 824 rfl rfl
theorem mf_C_count : cd_MV m_C_count 1 := ⟨⟨mc_C_count, cd_mem 55 (by decide +kernel) rfl, by decide +kernel, by decide⟩, cd_mem 822 (by decide +kernel) rfl, cd_mem 823 (by decide +kernel) rfl⟩
abbrev b_C_isAsking : ByteArray := prog_1_method_45_code
abbrev m_C_isAsking : cd_MT := (⟨"CatDoors", "isAsking", "(I)Z"⟩, b_C_isAsking, 2, some .boolean)
set_option maxRecDepth 100000 in
theorem mc_C_isAsking : Cond.code m_C_isAsking.1 m_C_isAsking.2.1 m_C_isAsking.2.2.1 m_C_isAsking.2.2.2 ∈ cd_ws := cd_mem 295 rfl rfl
theorem mf_C_isAsking : cd_MV m_C_isAsking 1 := ⟨⟨mc_C_isAsking, cd_mem 55 (by decide +kernel) rfl, by decide +kernel, by decide⟩, cd_mem 294 (by decide +kernel) rfl, cd_mem 0 (by decide +kernel) rfl⟩
abbrev b_C_isWithin : ByteArray := prog_1_method_46_code
abbrev m_C_isWithin : cd_MT := (⟨"CatDoors", "isWithin", "(II)Z"⟩, b_C_isWithin, 2, some .boolean)
set_option maxRecDepth 100000 in
theorem mc_C_isWithin : Cond.code m_C_isWithin.1 m_C_isWithin.2.1 m_C_isWithin.2.2.1 m_C_isWithin.2.2.2 ∈ cd_ws := cd_mem 281 rfl rfl
theorem mf_C_isWithin : cd_MS m_C_isWithin 2 := ⟨⟨mc_C_isWithin, cd_mem 55 (by decide +kernel) rfl, by decide +kernel, by decide⟩, cd_mem 280 (by decide +kernel) rfl⟩
abbrev b_C_heldWithin : ByteArray := prog_1_method_47_code
abbrev m_C_heldWithin : cd_MT := (⟨"CatDoors", "heldWithin", "(II)I"⟩, b_C_heldWithin, 2, some .int)
set_option maxRecDepth 100000 in
theorem mc_C_heldWithin : Cond.code m_C_heldWithin.1 m_C_heldWithin.2.1 m_C_heldWithin.2.2.1 m_C_heldWithin.2.2.2 ∈ cd_ws := cd_mem 320 rfl rfl
theorem mf_C_heldWithin : cd_MS m_C_heldWithin 2 := ⟨⟨mc_C_heldWithin, cd_mem 55 (by decide +kernel) rfl, by decide +kernel, by decide⟩, cd_mem 319 (by decide +kernel) rfl⟩
theorem lk_C_1 : Cond.methodLink "CatDoors" 1 ⟨"java/lang/Object", "<init>", "()V"⟩ ∈ cd_ws := cd_mem 75 (by decide +kernel) rfl
theorem lk_C_9 : Cond.methodLink "CatDoors" 9 ⟨"CatDoors$House", "<init>", "()V"⟩ ∈ cd_ws := cd_mem 80 (by decide +kernel) rfl
theorem lk_C_58 : Cond.methodLink "CatDoors" 58 ⟨"CatDoors", "isWithin", "(II)Z"⟩ ∈ cd_ws := cd_mem 279 (by decide +kernel) rfl
theorem lk_C_67 : Cond.methodLink "CatDoors" 67 ⟨"CatDoors$House", "adds", "(IIII)I"⟩ ∈ cd_ws := cd_mem 284 (by decide +kernel) rfl
theorem lk_C_71 : Cond.methodLink "CatDoors" 71 ⟨"CatDoors", "isAsking", "(I)Z"⟩ ∈ cd_ws := cd_mem 292 (by decide +kernel) rfl
theorem lk_C_96 : Cond.methodLink "CatDoors" 96 ⟨"CatDoors$Asking", "presses", "(LCatDoors$House;)I"⟩ ∈ cd_ws := cd_mem 296 (by decide +kernel) rfl
theorem lk_C_109 : Cond.methodLink "CatDoors" 109 ⟨"CatDoors$Asking", "meansIt", "(LCatDoors$House;)I"⟩ ∈ cd_ws := cd_mem 334 (by decide +kernel) rfl
theorem lk_C_112 : Cond.methodLink "CatDoors" 112 ⟨"CatDoors$Asking", "worth", "()I"⟩ ∈ cd_ws := cd_mem 338 (by decide +kernel) rfl
theorem lk_C_116 : Cond.methodLink "CatDoors" 116 ⟨"CatDoors$Asking", "isOf", "(I)Z"⟩ ∈ cd_ws := cd_mem 346 (by decide +kernel) rfl
theorem lk_C_126 : Cond.methodLink "CatDoors" 126 ⟨"CatDoors$House", "getsUp", "(LCatDoors$Asking;)Z"⟩ ∈ cd_ws := cd_mem 371 (by decide +kernel) rfl
theorem lk_C_130 : Cond.methodLink "CatDoors" 130 ⟨"java/lang/Math", "min", "(II)I"⟩ ∈ cd_ws := cd_mem 321 (by decide +kernel) rfl
theorem lk_C_136 : Cond.methodLink "CatDoors" 136 ⟨"CatDoors$House", "draw", "()I"⟩ ∈ cd_ws := cd_mem 399 (by decide +kernel) rfl
theorem lk_C_146 : Cond.methodLink "CatDoors" 146 ⟨"CatDoors$House", "passHours", "(I)V"⟩ ∈ cd_ws := cd_mem 408 (by decide +kernel) rfl
theorem lk_C_150 : Cond.methodLink "CatDoors" 150 ⟨"CatDoors$House", "habitSum", "()I"⟩ ∈ cd_ws := cd_mem 436 (by decide +kernel) rfl
theorem lk_C_153 : Cond.methodLink "CatDoors" 153 ⟨"CatDoors$House", "comingNext", "()I"⟩ ∈ cd_ws := cd_mem 440 (by decide +kernel) rfl
theorem lk_C_156 : Cond.methodLink "CatDoors" 156 ⟨"CatDoors$House", "takes", "(LCatDoors$House;)V"⟩ ∈ cd_ws := cd_mem 448 (by decide +kernel) rfl
theorem lk_C_164 : Cond.methodLink "CatDoors" 164 ⟨"CatDoors$Asking", "works", "()V"⟩ ∈ cd_ws := cd_mem 473 (by decide +kernel) rfl
theorem lk_C_167 : Cond.methodLink "CatDoors" 167 ⟨"CatDoors", "risingsWithFlap", "(II)I"⟩ ∈ cd_ws := cd_mem 486 (by decide +kernel) rfl
theorem lk_C_170 : Cond.methodLink "CatDoors" 170 ⟨"CatDoors$Sheet", "isMissing", "()Z"⟩ ∈ cd_ws := cd_mem 494 (by decide +kernel) rfl
theorem lk_C_175 : Cond.methodLink "CatDoors" 175 ⟨"CatDoors", "sumDifferences", "(LCatDoors$Sheet;)V"⟩ ∈ cd_ws := cd_mem 499 (by decide +kernel) rfl
theorem lk_C_182 : Cond.methodLink "CatDoors" 182 ⟨"CatDoors$Sheet", "isNumber", "(I)Z"⟩ ∈ cd_ws := cd_mem 503 (by decide +kernel) rfl
theorem lk_C_188 : Cond.methodLink "CatDoors" 188 ⟨"CatDoors", "addDifferences", "(I)V"⟩ ∈ cd_ws := cd_mem 512 (by decide +kernel) rfl
theorem lk_C_191 : Cond.methodLink "CatDoors" 191 ⟨"java/lang/Math", "abs", "(I)I"⟩ ∈ cd_ws := cd_mem 516 (by decide +kernel) rfl
theorem lk_C_195 : Cond.methodLink "CatDoors" 195 ⟨"CatDoors$House", "lawOf", "(I)LCatDoors$Text;"⟩ ∈ cd_ws := cd_mem 523 (by decide +kernel) rfl
theorem lk_C_199 : Cond.methodLink "CatDoors" 199 ⟨"CatDoors$Text", "gives", "(III)I"⟩ ∈ cd_ws := cd_mem 524 (by decide +kernel) rfl
theorem lk_C_208 : Cond.methodLink "CatDoors" 208 ⟨"CatDoors$Tape", "addsBytes", "(I)V"⟩ ∈ cd_ws := cd_mem 533 (by decide +kernel) rfl
theorem lk_C_211 : Cond.methodLink "CatDoors" 211 ⟨"CatDoors$Tape", "readsText", "()LCatDoors$Text;"⟩ ∈ cd_ws := cd_mem 545 (by decide +kernel) rfl
theorem lk_C_221 : Cond.methodLink "CatDoors" 221 ⟨"CatDoors$House", "addsText", "(LCatDoors$Text;)I"⟩ ∈ cd_ws := cd_mem 729 (by decide +kernel) rfl
theorem lk_C_238 : Cond.methodLink "CatDoors" 238 ⟨"CatDoors$Sheet", "becomes", "(II)V"⟩ ∈ cd_ws := cd_mem 745 (by decide +kernel) rfl
theorem lk_C_243 : Cond.methodLink "CatDoors" 243 ⟨"CatDoors$Sheet", "hasPlace", "(I)Z"⟩ ∈ cd_ws := cd_mem 754 (by decide +kernel) rfl
theorem lk_C_252 : Cond.methodLink "CatDoors" 252 ⟨"CatDoors", "heldWithin", "(II)I"⟩ ∈ cd_ws := cd_mem 762 (by decide +kernel) rfl
theorem lk_C_255 : Cond.methodLink "CatDoors" 255 ⟨"CatDoors$Sheet", "hasPlaces", "(II)Z"⟩ ∈ cd_ws := cd_mem 771 (by decide +kernel) rfl
theorem lk_C_258 : Cond.methodLink "CatDoors" 258 ⟨"java/lang/System", "arraycopy", "(Ljava/lang/Object;ILjava/lang/Object;II)V"⟩ ∈ cd_ws := cd_mem 775 (by decide +kernel) rfl
theorem lk_C_271 : Cond.methodLink "CatDoors" 271 ⟨"CatDoors$Asking", "takes", "(LCatDoors$Asking;)V"⟩ ∈ cd_ws := cd_mem 780 (by decide +kernel) rfl
theorem lk_C_278 : Cond.methodLink "CatDoors" 278 ⟨"CatDoors$Sheet", "takes", "(LCatDoors$Sheet;)V"⟩ ∈ cd_ws := cd_mem 781 (by decide +kernel) rfl
theorem lk_C_283 : Cond.methodLink "CatDoors" 283 ⟨"CatDoors$Slot", "refuses", "(I)I"⟩ ∈ cd_ws := cd_mem 790 (by decide +kernel) rfl
theorem lk_C_287 : Cond.methodLink "CatDoors" 287 ⟨"java/lang/Math", "max", "(II)I"⟩ ∈ cd_ws := cd_mem 324 (by decide +kernel) rfl
theorem f_C_10 : cd_F "CatDoors" 10 6 0 (.object "CatDoors$House") true := ⟨_, _, _, _, cd_ci6, by decide, cd_mem 244 (by decide +kernel) rfl, rfl, rfl, rfl⟩
theorem f_C_16 : cd_F "CatDoors" 16 6 1 (.object "CatDoors$House") true := ⟨_, _, _, _, cd_ci6, by decide, cd_mem 245 (by decide +kernel) rfl, rfl, rfl, rfl⟩
theorem f_C_19 : cd_F "CatDoors" 19 6 2 (.object "CatDoors$House") true := ⟨_, _, _, _, cd_ci6, by decide, cd_mem 246 (by decide +kernel) rfl, rfl, rfl, rfl⟩
theorem f_C_22 : cd_F "CatDoors" 22 6 3 .boolean false := ⟨_, _, _, _, cd_ci6, by decide, cd_mem 247 (by decide +kernel) rfl, rfl, rfl, rfl⟩
theorem f_C_29 : cd_F "CatDoors" 29 6 4 (.object "CatDoors$Tape") true := ⟨_, _, _, _, cd_ci6, by decide, cd_mem 248 (by decide +kernel) rfl, rfl, rfl, rfl⟩
theorem f_C_35 : cd_F "CatDoors" 35 6 5 (.array ((.object "CatDoors$Sheet"))) true := ⟨_, _, _, _, cd_ci6, by decide, cd_mem 249 (by decide +kernel) rfl, rfl, rfl, rfl⟩
theorem f_C_41 : cd_F "CatDoors" 41 6 6 (.array ((.object "CatDoors$Slot"))) true := ⟨_, _, _, _, cd_ci6, by decide, cd_mem 250 (by decide +kernel) rfl, rfl, rfl, rfl⟩
theorem f_C_45 : cd_F "CatDoors" 45 6 7 (.array .int) true := ⟨_, _, _, _, cd_ci6, by decide, cd_mem 251 (by decide +kernel) rfl, rfl, rfl, rfl⟩
theorem f_C_49 : cd_F "CatDoors" 49 6 8 .int false := ⟨_, _, _, _, cd_ci6, by decide, cd_mem 252 (by decide +kernel) rfl, rfl, rfl, rfl⟩
theorem f_C_53 : cd_F "CatDoors" 53 6 9 (.array .int) true := ⟨_, _, _, _, cd_ci6, by decide, cd_mem 253 (by decide +kernel) rfl, rfl, rfl, rfl⟩
theorem f_C_63 : cd_F "CatDoors" 63 1 3 .int false := ⟨_, _, _, _, cd_ci1, by decide, cd_mem 129 (by decide +kernel) rfl, rfl, rfl, rfl⟩
theorem f_C_75 : cd_F "CatDoors" 75 1 2 (.array ((.object "CatDoors$Asking"))) true := ⟨_, _, _, _, cd_ci1, by decide, cd_mem 127 (by decide +kernel) rfl, rfl, rfl, rfl⟩
theorem f_C_79 : cd_F "CatDoors" 79 0 0 .int false := ⟨_, _, _, _, cd_ci0, by decide, cd_mem 96 (by decide +kernel) rfl, rfl, rfl, rfl⟩
theorem f_C_84 : cd_F "CatDoors" 84 0 1 .int false := ⟨_, _, _, _, cd_ci0, by decide, cd_mem 99 (by decide +kernel) rfl, rfl, rfl, rfl⟩
theorem f_C_87 : cd_F "CatDoors" 87 0 2 .int false := ⟨_, _, _, _, cd_ci0, by decide, cd_mem 102 (by decide +kernel) rfl, rfl, rfl, rfl⟩
theorem f_C_90 : cd_F "CatDoors" 90 0 3 .int false := ⟨_, _, _, _, cd_ci0, by decide, cd_mem 105 (by decide +kernel) rfl, rfl, rfl, rfl⟩
theorem f_C_93 : cd_F "CatDoors" 93 0 4 .int false := ⟨_, _, _, _, cd_ci0, by decide, cd_mem 108 (by decide +kernel) rfl, rfl, rfl, rfl⟩
theorem f_C_123 : cd_F "CatDoors" 123 1 0 (.array .int) true := ⟨_, _, _, _, cd_ci1, by decide, cd_mem 123 (by decide +kernel) rfl, rfl, rfl, rfl⟩
theorem f_C_139 : cd_F "CatDoors" 139 1 5 .int false := ⟨_, _, _, _, cd_ci1, by decide, cd_mem 133 (by decide +kernel) rfl, rfl, rfl, rfl⟩
theorem f_C_142 : cd_F "CatDoors" 142 1 1 (.array .int) true := ⟨_, _, _, _, cd_ci1, by decide, cd_mem 125 (by decide +kernel) rfl, rfl, rfl, rfl⟩
theorem f_C_145 : cd_F "CatDoors" 145 1 4 .int false := ⟨_, _, _, _, cd_ci1, by decide, cd_mem 131 (by decide +kernel) rfl, rfl, rfl, rfl⟩
theorem f_C_179 : cd_F "CatDoors" 179 2 1 .int false := ⟨_, _, _, _, cd_ci2, by decide, cd_mem 208 (by decide +kernel) rfl, rfl, rfl, rfl⟩
theorem f_C_185 : cd_F "CatDoors" 185 2 2 (.array .int) true := ⟨_, _, _, _, cd_ci2, by decide, cd_mem 210 (by decide +kernel) rfl, rfl, rfl, rfl⟩
theorem f_C_205 : cd_F "CatDoors" 205 4 0 .int false := ⟨_, _, _, _, cd_ci4, by decide, cd_mem 166 (by decide +kernel) rfl, rfl, rfl, rfl⟩
theorem f_C_215 : cd_F "CatDoors" 215 4 1 .int false := ⟨_, _, _, _, cd_ci4, by decide, cd_mem 168 (by decide +kernel) rfl, rfl, rfl, rfl⟩
theorem f_C_218 : cd_F "CatDoors" 218 1 7 .int false := ⟨_, _, _, _, cd_ci1, by decide, cd_mem 137 (by decide +kernel) rfl, rfl, rfl, rfl⟩
theorem f_C_225 : cd_F "CatDoors" 225 1 6 (.array ((.object "CatDoors$Text"))) true := ⟨_, _, _, _, cd_ci1, by decide, cd_mem 135 (by decide +kernel) rfl, rfl, rfl, rfl⟩
theorem f_C_229 : cd_F "CatDoors" 229 5 0 .int true := ⟨_, _, _, _, cd_ci5, by decide, cd_mem 715 (by decide +kernel) rfl, rfl, rfl, rfl⟩
theorem f_C_232 : cd_F "CatDoors" 232 5 1 .int true := ⟨_, _, _, _, cd_ci5, by decide, cd_mem 717 (by decide +kernel) rfl, rfl, rfl, rfl⟩
theorem f_C_235 : cd_F "CatDoors" 235 1 8 (.array .int) true := ⟨_, _, _, _, cd_ci1, by decide, cd_mem 139 (by decide +kernel) rfl, rfl, rfl, rfl⟩
theorem f_C_247 : cd_F "CatDoors" 247 2 0 .int false := ⟨_, _, _, _, cd_ci2, by decide, cd_mem 206 (by decide +kernel) rfl, rfl, rfl, rfl⟩
theorem f_C_264 : cd_F "CatDoors" 264 3 0 .int false := ⟨_, _, _, _, cd_ci3, by decide, cd_mem 228 (by decide +kernel) rfl, rfl, rfl, rfl⟩
theorem f_C_267 : cd_F "CatDoors" 267 3 2 (.object "CatDoors$Asking") true := ⟨_, _, _, _, cd_ci3, by decide, cd_mem 232 (by decide +kernel) rfl, rfl, rfl, rfl⟩
theorem f_C_274 : cd_F "CatDoors" 274 3 3 (.object "CatDoors$Sheet") true := ⟨_, _, _, _, cd_ci3, by decide, cd_mem 234 (by decide +kernel) rfl, rfl, rfl, rfl⟩
theorem f_C_280 : cd_F "CatDoors" 280 3 1 .int false := ⟨_, _, _, _, cd_ci3, by decide, cd_mem 230 (by decide +kernel) rfl, rfl, rfl, rfl⟩
theorem k_C_62 : Cond.constant "CatDoors" 62 (-1000000001) ∈ cd_ws := cd_mem 282 (by decide +kernel) rfl
theorem k_C_66 : Cond.constant "CatDoors" 66 (-1000000003) ∈ cd_ws := cd_mem 283 (by decide +kernel) rfl
theorem k_C_119 : Cond.constant "CatDoors" 119 (-1000000012) ∈ cd_ws := cd_mem 352 (by decide +kernel) rfl
theorem k_C_160 : Cond.constant "CatDoors" 160 (-1000000005) ∈ cd_ws := cd_mem 463 (by decide +kernel) rfl
theorem k_C_163 : Cond.constant "CatDoors" 163 (2147483647) ∈ cd_ws := cd_mem 468 (by decide +kernel) rfl
theorem k_C_174 : Cond.constant "CatDoors" 174 (-1000000011) ∈ cd_ws := cd_mem 498 (by decide +kernel) rfl
theorem k_C_242 : Cond.constant "CatDoors" 242 (-1000000014) ∈ cd_ws := cd_mem 749 (by decide +kernel) rfl
theorem k_C_246 : Cond.constant "CatDoors" 246 (-1000000013) ∈ cd_ws := cd_mem 755 (by decide +kernel) rfl
theorem k_C_250 : Cond.constant "CatDoors" 250 (-99999) ∈ cd_ws := cd_mem 756 (by decide +kernel) rfl
theorem k_C_251 : Cond.constant "CatDoors" 251 (99999) ∈ cd_ws := cd_mem 757 (by decide +kernel) rfl
theorem k_C_286 : Cond.constant "CatDoors" 286 (-1000000002) ∈ cd_ws := cd_mem 804 (by decide +kernel) rfl
set_option maxRecDepth 100000 in
theorem cd_mmax : Cond.code Lib.Math.max.name Lib.Math.max.code 2 (some .int) ∈ cd_ws ∧ Cond.static Lib.Math.max.name ∈ cd_ws ∧ Cond.initialized "java/lang/Math" ∈ cd_ws := ⟨cd_mem 326 rfl rfl, cd_mem 325 (by decide +kernel) rfl, cd_mem 63 (by decide +kernel) rfl⟩
set_option maxRecDepth 100000 in
theorem cd_mmin : Cond.code Lib.Math.min.name Lib.Math.min.code 2 (some .int) ∈ cd_ws ∧ Cond.static Lib.Math.min.name ∈ cd_ws ∧ Cond.initialized "java/lang/Math" ∈ cd_ws := ⟨cd_mem 323 rfl rfl, cd_mem 322 (by decide +kernel) rfl, cd_mem 63 (by decide +kernel) rfl⟩
set_option maxRecDepth 100000 in
theorem cd_mabs : Cond.code Lib.Math.abs.name Lib.Math.abs.code 1 (some .int) ∈ cd_ws ∧ Cond.static Lib.Math.abs.name ∈ cd_ws ∧ Cond.initialized "java/lang/Math" ∈ cd_ws := ⟨cd_mem 518 rfl rfl, cd_mem 517 (by decide +kernel) rfl, cd_mem 63 (by decide +kernel) rfl⟩
end
